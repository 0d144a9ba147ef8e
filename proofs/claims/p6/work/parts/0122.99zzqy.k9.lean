section
def EX10_scanNameSa9 : List (Nat × Nat) := [(8, 3), (12, 3), (101, 0), (102, 0), (132, 0), (133, 0), (293, 0)]
def EX10_scanSa9 : List (Nat × Nat) := [(8, 3), (12, 3), (101, 0), (102, 0), (132, 0), (133, 0), (293, 0)]
set_option maxHeartbeats 4000000 in
set_option maxRecDepth 20000 in
theorem uX10_scanNameSa9 (l : Launch) (dC : Nat → ClassId) (dI : Nat → Nat → Nat) (ca : Nat → ClassId) (base : Nat) (B : jF) (hB : jBok B) (hAp : jAp (dC, dI)) (hB8 : ∀ n G a H, B 8 n G a H ↔ jOb (dC, dI) 8 4 (F8 n G) a H) (hB12 : ∀ n G a H, B 12 n G a H ↔ jOb (dC, dI) 12 11 (F12b n G) a H) (hB101 : ∀ n G a H, B 101 n G a H ↔ jAr (dC, dI) (ca 1) (fun j z => True) n a H) (hB102 : ∀ n G a H, B 102 n G a H ↔ jAl (dC, dI) (ca 2) n a H) (hB132 : ∀ n G a H, B 132 n G a H ↔ jAr (dC, dI) (ca 1) (fun j z => 0 ≤ z.toInt ∧ z.toInt ≤ 10) n a H) (hB133 : ∀ n G a H, B 133 n G a H ↔ jAr (dC, dI) (ca 1) (fun j z => 0 ≤ z.toInt ∧ z.toInt ≤ 8192) n a H) (hB175 : ∀ n G a H, B 175 n G a H ↔ jAr (dC, dI) (ca 1) (fun j z => True) n a H) (hB293 : ∀ n G a H, B 293 n G a H ↔ jAr (dC, dI) (ca 1) (fun j z => -1 ≤ z.toInt ∧ z.toInt ≤ 8191) n a H) (G0 : jT) (H0 : Heap) (r0 : Nat) (r1 : Nat) (a2 : Int32) (a3 : Int32) (n1 : Nat) (tk : Int32) : Met l yX10_scanName (jw yX10_scanName cX10_scanName 6 (some .int)) ({ frames := 2, cells := 0, slots := 0, locals := 57 }) (va_Pc [.ref r0, .ref r1, .int a2, .int a3] (fun U => U.heap = H0 ∧ jX B base G0 [] H0 ∧ jG dC dI ca base U ∧ G0 r0 = some (12, 0) ∧ G0 r1 = some (175, n1) ∧ jP (dC, dI) G0 H0 [(r0, 12, 3, .int tk)] ∧ 0 ≤ a2.toInt ∧ a2.toInt < a3.toInt ∧ a3.toInt ≤ n1 ∧ n1 < 1000000 ∧ 0 ≤ tk.toInt ∧ tk.toInt ≤ 1500)) (va_Qi (S := Int32) (fun r u => (a2.toInt < r.toInt ∧ r.toInt ≤ a3.toInt ∧ 0 ≤ u.toInt ∧ u.toInt ≤ 1500 ∧ u.toInt ≤ tk.toInt + (r.toInt - a2.toInt))) (fun u t => jRt (dC, dI) B base G0 EX10_scanNameSa9 H0 [(r0, 12, 3, .int u)] t.heap) (jA base)) 0 0 (jA base) := by
  refine Met.ofW (cc := cX10_scanName) (maxL := 6) (ret := (some .int)) (by decide) rfl ?_
  intro p e s m args below meth c s₁ Bd hml hv
  obtain ⟨rfl, hH0, hX, hG, hg_r0, hg_r1, hP0, hp0, hp1, hp2, hp3, hp4, hp5⟩ := hv
  have hK := hG.1
  have hx := Bd.exec
  have hb := Bd.bytes
  have hr := Bd.returns
  have hts := atoms_spec (ws := (jw yX10_scanName cX10_scanName 6 (some .int))) Bd.pre
  have htw : ∀ w ∈ jWl, w.before _ s = true := fun w h => hts w (List.mem_cons_of_mem _ h)
  have hown : s.vm.findClass RX10 = some m.cls := findClass_of_methodNamed Bd.named
  have hlocks := Bd.notSynchronized
  obtain ⟨Q, hQ⟩ : ∃ Q, Q = MQ below (va_Qi (S := Int32) (fun r u => (a2.toInt < r.toInt ∧ r.toInt ≤ a3.toInt ∧ 0 ≤ u.toInt ∧ u.toInt ≤ 1500 ∧ u.toInt ≤ tk.toInt + (r.toInt - a2.toInt))) (fun u t => jRt (dC, dI) B base G0 EX10_scanNameSa9 H0 [(r0, 12, 3, .int u)] t.heap) (jA base)) ([.ref r0, .ref r1, .int a2, .int a3] : List Value).toArray s 0 0 (jA base) := ⟨_, rfl⟩
  rw [← hQ]
  have hl := lv_entry ([.ref r0, .ref r1, .int a2, .int a3]) (n := 6) (Nat.le_of_ble_eq_true rfl)
  rw [lg_entry_eq]
  generalize (lg_sl ([.ref r0, .ref r1, .int a2, .int a3]) ++ List.replicate (6 - (lg_sl ([.ref r0, .ref r1, .int a2, .int a3])).length) Slot.unset).toArray = ls at hl ⊢
  have hl : lv_has ls 6 [(0, .ref r0), (1, .ref r1), (2, .int a2), (3, .int a3)] := hl
  generalize hR : (headSpec (jw yX10_scanName cX10_scanName 6 (some .int)) ({ frames := 2, cells := 0, slots := 0, locals := 57 })).room = R
  subst hH0
  have hh : jSt (dC, dI) B base G0 G0 EX10_scanNameSa9 s.heap 0 0 [(r0, 12, 3, .int tk)] [] [] s.heap [] := jSt.start hX hP0 jMc.nil jIs.nil
  clear hX hP0
  have hk0 : (0 : Int32).toInt = 0 := by decide
  have hk1 : (1 : Int32).toInt = 1 := by decide
  have hk10 : (10 : Int32).toInt = 10 := by decide
  have hk110 : (110 : Int32).toInt = 110 := by decide
  have hly_12_0 := htw (u_lay RX10 TX10 0) (jWc_wsX100 _ (u_in_lay (by decide)))
  have hlk_24 := (htw (.fieldLink RX10 24 "ProofServer$Syntax" "names" "LProofServer$Names;") (jWr_8 _ (List.mem_of_getElem? (i := 12) rfl)))
  have hrg_a2 := jb_rng a2
  have hrg_a3 := jb_rng a3
  refine lv_iload_n hx hb dX10_scanName_0 rfl (lv_at hl 2 rfl) ?_
  refine lv_iconst (v := 1) hx hb dX10_scanName_1 (by decide) ?_
  refine lv_iadd hx hb dX10_scanName_2 ?_
  refine lv_topi (fun z_1 ez_1 => ?_)
  have hz_1 : z_1.toInt = a2.toInt + 1 := by rw [ez_1]; exact jb_iadd2 (rfl) ((by decide)) (by omega)
  refine lv_istore (lv' := [(4, .int z_1), (0, .ref r0), (1, .ref r1), (2, .int a2), (3, .int a3)]) hx hb dX10_scanName_3 hl (by decide) rfl (fun ls hl => ?_)
  have L5 : ∀ (N : Nat) (v4_2 : Int32) (H_2 : Heap) (locs_2 : List Loc), jSt (dC, dI) B base G0 G0 EX10_scanNameSa9 s.heap 0 0 [(r0, 12, 3, .int tk)] [] [] H_2 locs_2 → (a2.toInt < v4_2.toInt ∧ v4_2.toInt ≤ a3.toInt) → (a3.toInt - v4_2.toInt : Int) < N → ∀ ls : Array Slot, lv_has ls 6 [(0, .ref r0), (1, .ref r1), (2, .int a2), (3, .int a3), (4, .int v4_2)] → W p l e R s m ([.ref r0, .ref r1, .int a2, .int a3] : List Value).toArray below meth c H_2 locs_2 0 0 Q (F0 m 5 ls []) := by
    intro N
    induction N with
    | zero => intro v4_2 H_2 locs_2 hh_2  hi_2 hm; exact absurd hm (by omega)
    | succ N L5 =>
      intro v4_2 H_2 locs_2 hh_2  hi_2 hm_2 ls hl
      obtain ⟨hi_2_0, hi_2_1⟩ := hi_2
      refine lv_iload hx hb dX10_scanName_5 (lv_at hl 4 rfl) ?_
      refine lv_iload_n hx hb dX10_scanName_7 rfl (lv_at hl 3 rfl) ?_
      refine lv_icmp_ge (tgt := 27) hx hb dX10_scanName_8 (by decide) (fun c_3 => ?_) (fun c_3 => ?_)
      · skip
        have c_3' : v4_2.toInt ≥ a3.toInt := jb_ge (rfl) (rfl) c_3
        refine lv_iload hx hb dX10_scanName_27 (lv_at hl 4 rfl) ?_
        refine lv_iload_n hx hb dX10_scanName_29 rfl (lv_at hl 2 rfl) ?_
        refine lv_isub hx hb dX10_scanName_30 ?_
        refine lv_topi (fun z_4 ez_4 => ?_)
        have hz_4 : z_4.toInt = v4_2.toInt - a2.toInt := by rw [ez_4]; exact jb_isub2 (rfl) (rfl) (by omega)
        refine lv_bipush (v := 10) hx hb dX10_scanName_31 (by decide) ?_
        refine lv_icmp_gt (tgt := 70) hx hb dX10_scanName_33 (by decide) (fun c_5 => ?_) (fun c_5 => ?_)
        · skip
          have c_5' : z_4.toInt > 10 := jb_gt (rfl) ((by decide)) c_5
          refine lv_iload_n hx hb dX10_scanName_70 rfl (lv_at hl 2 rfl) ?_
          refine lv_istore (lv' := [(5, .int a2), (0, .ref r0), (1, .ref r1), (2, .int a2), (3, .int a3), (4, .int v4_2)]) hx hb dX10_scanName_71 hl (by decide) rfl (fun ls hl => ?_)
          have L73 : ∀ (N : Nat) (v5_6 : Int32) (wk_6 : Int32) (H_6 : Heap) (locs_6 : List Loc), jSt (dC, dI) B base G0 G0 EX10_scanNameSa9 s.heap 0 0 [(r0, 12, 3, .int wk_6)] [] [] H_6 locs_6 → (a2.toInt ≤ v5_6.toInt ∧ v5_6.toInt ≤ v4_2.toInt ∧ 0 ≤ wk_6.toInt ∧ wk_6.toInt ≤ 1500 ∧ wk_6.toInt ≤ tk.toInt + (v5_6.toInt - a2.toInt)) → (v4_2.toInt - v5_6.toInt : Int) < N → ∀ ls : Array Slot, lv_has ls 6 [(0, .ref r0), (1, .ref r1), (2, .int a2), (3, .int a3), (4, .int v4_2), (5, .int v5_6)] → W p l e R s m ([.ref r0, .ref r1, .int a2, .int a3] : List Value).toArray below meth c H_6 locs_6 0 0 Q (F0 m 73 ls []) := by
            intro N
            induction N with
            | zero => intro v5_6 wk_6 H_6 locs_6 hh_6  hi_6 hm; exact absurd hm (by omega)
            | succ N L73 =>
              intro v5_6 wk_6 H_6 locs_6 hh_6  hi_6 hm_6 ls hl
              obtain ⟨hi_6_0, hi_6_1, hi_6_2, hi_6_3, hi_6_4⟩ := hi_6
              refine lv_iload hx hb dX10_scanName_73 (lv_at hl 5 rfl) ?_
              refine lv_iload hx hb dX10_scanName_75 (lv_at hl 4 rfl) ?_
              refine lv_icmp_ge (tgt := 92) hx hb dX10_scanName_77 (by decide) (fun c_7 => ?_) (fun c_7 => ?_)
              · skip
                have c_7' : v5_6.toInt ≥ v4_2.toInt := jb_ge (rfl) (rfl) c_7
                refine lv_iload hx hb dX10_scanName_92 (lv_at hl 4 rfl) ?_
                rw [hQ]
                exact W.iret (v := v4_2) hx hb hr (fun t ht hW => ⟨⟨v4_2, wk_6, rfl, by first | omega | (refine ⟨?_, ?_, ?_, ?_, ?_⟩ <;> (first | omega | rfl | assumption | decide | exact Or.inl rfl | exact Or.inr rfl | (simp only; omega))), hh_6.rt (M1 := [(r0, 12, 3, .int wk_6)]) [0] rfl ht⟩, by rw [ht]; try exact hh_6.1.1, fun q h9 hq => by rw [ht]; try exact hh_6.1.2.1 q h9 hq⟩) hh_6.1.2.2 dX10_scanName_94
              · skip
                have c_7' : v5_6.toInt < v4_2.toInt := jb_ge_n (rfl) (rfl) c_7
                refine lv_aload_n hx hb dX10_scanName_80 rfl (lv_at hl 0 rfl) ?_
                refine lv_iconst (v := 0) hx hb dX10_scanName_81 (by decide) ?_
                refine lv_iconst (v := 0) hx hb dX10_scanName_82 (by decide) ?_
                refine va_callv (A0 := jA base) (H0 := s.heap) (va_runV (As := [.int 0, .int 0]) (rest := []) ⟨hx, hb, hml, hown, hts⟩ (uX10_addB l dC dI ca base B hB hAp hB12 hB101 hB293 G0 H_6 r0 0 0 wk_6) (cwV 2 hts (jgV (jWr_37 _ (List.mem_of_getElem? (i := 7) rfl)) (jWr_37 _ (List.mem_of_getElem? (i := 8) rfl)) (jWr_37 _ (List.mem_of_getElem? (i := 9) rfl)) (jWr_4 _ (List.mem_of_getElem? (i := 14) rfl)) (jWr_37 _ (List.mem_of_getElem? (i := 10) rfl))) rfl rfl rfl (by decide +kernel) ⟨by rw [← hR]; exact Nat.le_of_ble_eq_true rfl, by rw [← hR]; exact Nat.le_of_ble_eq_true rfl⟩) ⟨fun a U g mk q => by obtain ⟨q0, q1, q2, qK, q10, q11, q12⟩ := q; exact ⟨q0, q1, q2, jG.calling g mk a qK, q10, q11, q12⟩, hh_6.recv (C := RX10) (T := TX10) (N := 11) hB12 rfl (by decide) hg_r0 hK, fun U hU hW => ⟨rfl, hU, hh_6.2.1, hG.step hW hU hh_6.1, hg_r0, (hh_6.2.2.1.sub (L1 := [(r0, 12, 3, .int wk_6)]) [0] rfl), by first | omega | (refine ⟨?_, ?_, ?_, ?_⟩ <;> (first | omega | rfl | assumption | decide | exact Or.inl rfl | exact Or.inr rfl | (simp only; omega)))⟩⟩ rfl rfl hl.1 rfl (lv_room (Nat.le_of_ble_eq_true rfl)) dX10_scanName_83 ⟨Nat.zero_le _, Nat.zero_le _⟩) hh_6.1 (fun q _ h => h) (fun q h => h) (fun u_8 t_8 H_8 locs_8 ht_8 hvm_8 hr_9 hb_8 hz_8 hk_8 hS_8 => ?_)
                obtain ⟨qk_8, rfl⟩ : ∃ z, z = u_8 := ⟨_, rfl⟩
                rw [ht_8] at hb_8
                obtain ⟨hb_81, hb_82, hb_83, hb_84, hb_85⟩ := hb_8
                have hh_8 : jSt (dC, dI) B base G0 G0 EX10_scanNameSa9 s.heap 0 0 [(r0, 12, 3, .int qk_8)] [] [] H_8 locs_8 := ((hh_6.call hb_81 hb_82 hb_83 hb_84 hS_8 rfl (L1 := []) [] rfl rfl (M1 := []) [] rfl rfl (I1 := []) [] rfl rfl).more hb_85)
                clear hh_6 ht_8 hvm_8 hz_8 hk_8 hS_8 hb_81 hb_82 hb_83 hb_84 hb_85
                obtain ⟨hr_9_0, hr_9_1, hr_9_2⟩ := hr_9
                obtain ⟨z_10, ez_10⟩ : ∃ y : Int32, y = v5_6 + 1 := ⟨_, rfl⟩
                refine lv_iinc (v := z_10) (lv' := [(5, .int z_10), (0, .ref r0), (1, .ref r1), (2, .int a2), (3, .int a3), (4, .int v4_2)]) hx hb dX10_scanName_86 hl (k := 5) rfl (by rw [ez_10]; rfl) (by decide) rfl (fun ls hl => ?_)
                have hz_10 : z_10.toInt = v5_6.toInt + 1 := by rw [ez_10]; exact jb_iadd2 (rfl) (by decide) (by omega)
                refine lv_goto (tgt := 73) hx hb dX10_scanName_89 (by decide) ?_
                exact L73 z_10 qk_8 _ _ hh_8 (by first | omega | (refine ⟨?_, ?_, ?_, ?_, ?_⟩ <;> (first | omega | rfl | assumption | decide | exact Or.inl rfl | exact Or.inr rfl | (simp only; omega)))) (by omega) _ (lv_sub hl [1, 2, 3, 4, 5, 0] rfl)
          exact L73 (v4_2.toInt - (a2 : Int32).toInt : Int).toNat.succ a2 tk _ _ hh_2 (by first | omega | (refine ⟨?_, ?_, ?_, ?_, ?_⟩ <;> (first | omega | rfl | assumption | decide | exact Or.inl rfl | exact Or.inr rfl | (simp only; omega)))) (by omega) _ (lv_sub hl [1, 2, 3, 4, 5, 0] rfl)
        · skip
          have c_5' : z_4.toInt ≤ 10 := jb_gt_n (rfl) ((by decide)) c_5
          refine lv_aload_n hx hb dX10_scanName_36 rfl (lv_at hl 0 rfl) ?_
          obtain ⟨v_11, hv_11, hh_12⟩ := hh_2.pin (C := RX10) (T := TX10) (N := 11) hB12 rfl (by decide) hg_r0 (i := 0) (by decide) rfl
          clear hh_2
          obtain ⟨names_13, rfl, hg_names_13⟩ := hv_11
          refine j7_read hx hb hown hK (C := RX10) (T := TX10) (N := 11) rfl hly_12_0 hlk_24 (hh_12.at 0 rfl) dX10_scanName_37 ?_
          refine lv_aload_n hx hb dX10_scanName_40 rfl (lv_at hl 1 rfl) ?_
          refine lv_iload_n hx hb dX10_scanName_41 rfl (lv_at hl 2 rfl) ?_
          refine lv_iload hx hb dX10_scanName_42 (lv_at hl 4 rfl) ?_
          refine lv_iconst (v := 1) hx hb dX10_scanName_44 (by decide) ?_
          obtain ⟨v_16, hv_16, hh_17⟩ := hh_12.pin (C := RX6) (T := TX6) (N := 4) hB8 rfl (by decide) hg_names_13 (i := 0) (by decide) rfl
          obtain ⟨stems_18, rfl, hg_stems_18⟩ := hv_16
          obtain ⟨v_19, hv_19, hh_20⟩ := hh_17.pin (C := RX6) (T := TX6) (N := 4) hB8 rfl (by decide) hg_names_13 (i := 1) (by decide) rfl
          obtain ⟨primes_21, rfl, hg_primes_21⟩ := hv_19
          obtain ⟨v_22, hv_22, hh_23⟩ := hh_20.pin (C := RX6) (T := TX6) (N := 4) hB8 rfl (by decide) hg_names_13 (i := 2) (by decide) rfl
          obtain ⟨slots_24, rfl, hg_slots_24⟩ := hv_22
          refine va_calli (A0 := jA base) (H0 := s.heap) (va_runV (As := [.ref r1, .int a2, .int v4_2, .int 1]) (rest := []) ⟨hx, hb, hml, hown, hts⟩ (uX6_numberOfBa9 l dC dI ca base B hB hAp hB8 hB102 hB132 hB133 hB175 G0 H_2 names_13 r1 a2 v4_2 1 n1 stems_18 primes_21 slots_24) (cwV 4 hts (jgV (jWr_37 _ (List.mem_of_getElem? (i := 6) rfl)) (jWr_7 _ (List.mem_of_getElem? (i := 14) rfl)) (jWr_7 _ (List.mem_of_getElem? (i := 15) rfl)) (jWr_4 _ (List.mem_of_getElem? (i := 10) rfl)) (jWr_7 _ (List.mem_of_getElem? (i := 16) rfl))) rfl rfl rfl (by decide +kernel) ⟨by rw [← hR]; exact Nat.le_of_ble_eq_true rfl, by rw [← hR]; exact Nat.le_of_ble_eq_true rfl⟩) ⟨fun a U g mk q => by obtain ⟨q0, q1, q2, qK, q10, q11, q12, q13, q14, q15, q16⟩ := q; exact ⟨q0, q1, q2, jG.calling g mk a qK, q10, q11, q12, q13, q14, q15, q16⟩, hh_23.recv (C := RX6) (T := TX6) (N := 4) hB8 rfl (by decide) hg_names_13 hK, fun U hU hW => ⟨rfl, hU, hh_23.2.1, hG.step hW hU hh_23.1, hg_names_13, hg_r1, hg_stems_18, hg_primes_21, hg_slots_24, (hh_23.2.2.1.sub (L1 := [(names_13, 8, 0, .ref stems_18), (names_13, 8, 1, .ref primes_21), (names_13, 8, 2, .ref slots_24)]) [2, 1, 0] rfl), by first | omega | rfl | assumption | decide | exact Or.inl rfl | exact Or.inr rfl | (simp only; omega)⟩⟩ rfl rfl hl.1 rfl (lv_room (Nat.le_of_ble_eq_true rfl)) dX10_scanName_45 ⟨Nat.zero_le _, Nat.zero_le _⟩) hh_23.1 (fun q _ h => h) (fun q h => h) (fun r_15 u_14 t_14 H_14 locs_14 ht_14 hvm_14 hr_15 hb_14 hz_14 hk_14 hS_14 => ?_)
          rw [ht_14] at hb_14
          obtain ⟨hb_14, hbF_14⟩ := hb_14
          obtain ⟨hb_141, hb_142, hb_143, hb_144, hb_145⟩ := hb_14
          have hh_14 : jSt (dC, dI) B base G0 G0 EX10_scanNameSa9 s.heap 0 0 [(names_13, 8, 2, .ref slots_24), (names_13, 8, 1, .ref primes_21), (names_13, 8, 0, .ref stems_18), (r0, 12, 0, .ref names_13), (r0, 12, 3, .int tk)] [] [] H_14 locs_14 := ((hh_23.call hb_141 hb_142 hb_143 hb_144 hS_14 rfl (L1 := [(names_13, 8, 2, .ref slots_24), (names_13, 8, 1, .ref primes_21), (names_13, 8, 0, .ref stems_18), (r0, 12, 0, .ref names_13), (r0, 12, 3, .int tk)]) [0, 1, 2, 3, 4] rfl rfl (M1 := []) [] rfl rfl (I1 := []) [] rfl rfl).more hb_145)
          clear hh_23 ht_14 hvm_14 hz_14 hk_14 hS_14 hb_141 hb_142 hb_143 hb_144 hb_145
          obtain ⟨hr_15_0, hr_15_1⟩ := hr_15
          refine lv_istore (lv' := [(5, .int r_15), (0, .ref r0), (1, .ref r1), (2, .int a2), (3, .int a3), (4, .int v4_2)]) hx hb dX10_scanName_48 hl (by decide) rfl (fun ls hl => ?_)
          refine lv_aload_n hx hb dX10_scanName_50 rfl (lv_at hl 1 rfl) ?_
          refine lv_iload hx hb dX10_scanName_51 (lv_at hl 0 rfl) ?_
          refine lv_if_ge (tgt := 60) hx hb dX10_scanName_53 (by decide) (fun c_25 => ?_) (fun c_25 => ?_)
          · skip
            have c_25' : r_15.toInt ≥ 0 := jb_ge (rfl) ((by decide)) c_25
            refine lv_bipush (v := 110) hx hb dX10_scanName_60 (by decide) ?_
            refine lv_iload hx hb dX10_scanName_62 (lv_at hl 0 rfl) ?_
            refine va_callv (A0 := jA base) (H0 := s.heap) (va_runV (As := [.int 110, .int r_15]) (rest := []) ⟨hx, hb, hml, hown, hts⟩ (uX10_addB l dC dI ca base B hB hAp hB12 hB101 hB293 G0 H_14 r0 110 r_15 tk) (cwV 2 hts (jgV (jWr_37 _ (List.mem_of_getElem? (i := 7) rfl)) (jWr_37 _ (List.mem_of_getElem? (i := 8) rfl)) (jWr_37 _ (List.mem_of_getElem? (i := 9) rfl)) (jWr_4 _ (List.mem_of_getElem? (i := 14) rfl)) (jWr_37 _ (List.mem_of_getElem? (i := 10) rfl))) rfl rfl rfl (by decide +kernel) ⟨by rw [← hR]; exact Nat.le_of_ble_eq_true rfl, by rw [← hR]; exact Nat.le_of_ble_eq_true rfl⟩) ⟨fun a U g mk q => by obtain ⟨q0, q1, q2, qK, q10, q11, q12⟩ := q; exact ⟨q0, q1, q2, jG.calling g mk a qK, q10, q11, q12⟩, hh_14.recv (C := RX10) (T := TX10) (N := 11) hB12 rfl (by decide) hg_r0 hK, fun U hU hW => ⟨rfl, hU, hh_14.2.1, hG.step hW hU hh_14.1, hg_r0, (hh_14.2.2.1.sub (L1 := [(r0, 12, 3, .int tk)]) [4] rfl), by first | omega | (refine ⟨?_, ?_, ?_, ?_⟩ <;> (first | omega | rfl | assumption | decide | exact Or.inl rfl | exact Or.inr rfl | (simp only; omega)))⟩⟩ rfl rfl hl.1 rfl (lv_room (Nat.le_of_ble_eq_true rfl)) dX10_scanName_64 ⟨Nat.zero_le _, Nat.zero_le _⟩) hh_14.1 (fun q _ h => h) (fun q h => h) (fun u_26 t_26 H_26 locs_26 ht_26 hvm_26 hr_27 hb_26 hz_26 hk_26 hS_26 => ?_)
            obtain ⟨qk_26, rfl⟩ : ∃ z, z = u_26 := ⟨_, rfl⟩
            rw [ht_26] at hb_26
            obtain ⟨hb_261, hb_262, hb_263, hb_264, hb_265⟩ := hb_26
            have hh_26 : jSt (dC, dI) B base G0 G0 EX10_scanNameSa9 s.heap 0 0 [(r0, 12, 3, .int qk_26), (names_13, 8, 2, .ref slots_24), (names_13, 8, 1, .ref primes_21), (names_13, 8, 0, .ref stems_18), (r0, 12, 0, .ref names_13)] [] [] H_26 locs_26 := ((hh_14.call hb_261 hb_262 hb_263 hb_264 hS_26 rfl (L1 := [(names_13, 8, 2, .ref slots_24), (names_13, 8, 1, .ref primes_21), (names_13, 8, 0, .ref stems_18), (r0, 12, 0, .ref names_13)]) [0, 1, 2, 3] rfl rfl (M1 := []) [] rfl rfl (I1 := []) [] rfl rfl).more hb_265)
            clear hh_14 ht_26 hvm_26 hz_26 hk_26 hS_26 hb_261 hb_262 hb_263 hb_264 hb_265
            obtain ⟨hr_27_0, hr_27_1, hr_27_2⟩ := hr_27
            refine lv_goto (tgt := 92) hx hb dX10_scanName_67 (by decide) ?_
            refine lv_iload hx hb dX10_scanName_92 (lv_at hl 5 rfl) ?_
            rw [hQ]
            exact W.iret (v := v4_2) hx hb hr (fun t ht hW => ⟨⟨v4_2, qk_26, rfl, by first | omega | (refine ⟨?_, ?_, ?_, ?_, ?_⟩ <;> (first | omega | rfl | assumption | decide | exact Or.inl rfl | exact Or.inr rfl | (simp only; omega))), hh_26.rt (M1 := [(r0, 12, 3, .int qk_26)]) [0] rfl ht⟩, by rw [ht]; try exact hh_26.1.1, fun q h9 hq => by rw [ht]; try exact hh_26.1.2.1 q h9 hq⟩) hh_26.1.2.2 dX10_scanName_94
          · skip
            have c_25' : r_15.toInt < 0 := jb_ge_n (rfl) ((by decide)) c_25
            refine lv_iconst (v := 0) hx hb dX10_scanName_56 (by decide) ?_
            refine lv_goto (tgt := 62) hx hb dX10_scanName_57 (by decide) ?_
            refine lv_iload hx hb dX10_scanName_62 (lv_at hl 0 rfl) ?_
            refine va_callv (A0 := jA base) (H0 := s.heap) (va_runV (As := [.int 0, .int r_15]) (rest := []) ⟨hx, hb, hml, hown, hts⟩ (uX10_addB l dC dI ca base B hB hAp hB12 hB101 hB293 G0 H_14 r0 0 r_15 tk) (cwV 2 hts (jgV (jWr_37 _ (List.mem_of_getElem? (i := 7) rfl)) (jWr_37 _ (List.mem_of_getElem? (i := 8) rfl)) (jWr_37 _ (List.mem_of_getElem? (i := 9) rfl)) (jWr_4 _ (List.mem_of_getElem? (i := 14) rfl)) (jWr_37 _ (List.mem_of_getElem? (i := 10) rfl))) rfl rfl rfl (by decide +kernel) ⟨by rw [← hR]; exact Nat.le_of_ble_eq_true rfl, by rw [← hR]; exact Nat.le_of_ble_eq_true rfl⟩) ⟨fun a U g mk q => by obtain ⟨q0, q1, q2, qK, q10, q11, q12⟩ := q; exact ⟨q0, q1, q2, jG.calling g mk a qK, q10, q11, q12⟩, hh_14.recv (C := RX10) (T := TX10) (N := 11) hB12 rfl (by decide) hg_r0 hK, fun U hU hW => ⟨rfl, hU, hh_14.2.1, hG.step hW hU hh_14.1, hg_r0, (hh_14.2.2.1.sub (L1 := [(r0, 12, 3, .int tk)]) [4] rfl), by first | omega | (refine ⟨?_, ?_, ?_, ?_⟩ <;> (first | omega | rfl | assumption | decide | exact Or.inl rfl | exact Or.inr rfl | (simp only; omega)))⟩⟩ rfl rfl hl.1 rfl (lv_room (Nat.le_of_ble_eq_true rfl)) dX10_scanName_64 ⟨Nat.zero_le _, Nat.zero_le _⟩) hh_14.1 (fun q _ h => h) (fun q h => h) (fun u_28 t_28 H_28 locs_28 ht_28 hvm_28 hr_29 hb_28 hz_28 hk_28 hS_28 => ?_)
            obtain ⟨qk_28, rfl⟩ : ∃ z, z = u_28 := ⟨_, rfl⟩
            rw [ht_28] at hb_28
            obtain ⟨hb_281, hb_282, hb_283, hb_284, hb_285⟩ := hb_28
            have hh_28 : jSt (dC, dI) B base G0 G0 EX10_scanNameSa9 s.heap 0 0 [(r0, 12, 3, .int qk_28), (names_13, 8, 2, .ref slots_24), (names_13, 8, 1, .ref primes_21), (names_13, 8, 0, .ref stems_18), (r0, 12, 0, .ref names_13)] [] [] H_28 locs_28 := ((hh_14.call hb_281 hb_282 hb_283 hb_284 hS_28 rfl (L1 := [(names_13, 8, 2, .ref slots_24), (names_13, 8, 1, .ref primes_21), (names_13, 8, 0, .ref stems_18), (r0, 12, 0, .ref names_13)]) [0, 1, 2, 3] rfl rfl (M1 := []) [] rfl rfl (I1 := []) [] rfl rfl).more hb_285)
            clear hh_14 ht_28 hvm_28 hz_28 hk_28 hS_28 hb_281 hb_282 hb_283 hb_284 hb_285
            obtain ⟨hr_29_0, hr_29_1, hr_29_2⟩ := hr_29
            refine lv_goto (tgt := 92) hx hb dX10_scanName_67 (by decide) ?_
            refine lv_iload hx hb dX10_scanName_92 (lv_at hl 5 rfl) ?_
            rw [hQ]
            exact W.iret (v := v4_2) hx hb hr (fun t ht hW => ⟨⟨v4_2, qk_28, rfl, by first | omega | (refine ⟨?_, ?_, ?_, ?_, ?_⟩ <;> (first | omega | rfl | assumption | decide | exact Or.inl rfl | exact Or.inr rfl | (simp only; omega))), hh_28.rt (M1 := [(r0, 12, 3, .int qk_28)]) [0] rfl ht⟩, by rw [ht]; try exact hh_28.1.1, fun q h9 hq => by rw [ht]; try exact hh_28.1.2.1 q h9 hq⟩) hh_28.1.2.2 dX10_scanName_94
      · skip
        have c_3' : v4_2.toInt < a3.toInt := jb_ge_n (rfl) (rfl) c_3
        refine lv_aload_n hx hb dX10_scanName_11 rfl (lv_at hl 1 rfl) ?_
        refine lv_iload hx hb dX10_scanName_12 (lv_at hl 4 rfl) ?_
        refine j7_iald hx hb hK hh_2 hB175 1 rfl (by decide) hg_r1 (x := v4_2.toInt) (rfl) (by omega) dX10_scanName_14 (fun z_30 (hz_30 : True) => ?_)
        refine vp_callSi (va_Run.run (va_runSN (As := [.int z_30]) (rest := []) ⟨hx, hb, hml, hown, hts⟩ (wX6_signOf l dC dI ca base H_2 z_30) ⟨va_cnB 1 hts (jgW (jWr_7 _ (List.mem_of_getElem? (i := 21) rfl))) rfl rfl rfl (hG.2.2.1 RX10 74 yX6_signOf "ProofServer" (List.mem_of_getElem? (i := 1144) (by decide +kernel))) (htw (.initialized RX6) (jWr_4 _ (List.mem_of_getElem? (i := 10) rfl))) (by decide +kernel) ⟨by rw [← hR]; exact Nat.le_of_ble_eq_true rfl, by rw [← hR]; exact Nat.le_of_ble_eq_true rfl⟩, htw (.static yX6_signOf) (jWr_7 _ (List.mem_of_getElem? (i := 20) rfl)), trivial⟩ ⟨fun a U g mk q => by obtain ⟨q0, q1, qK, q9⟩ := q; exact ⟨q0, q1, jG.calling g mk a qK, q9⟩, fun U hU hW => ⟨rfl, hU, hG.step hW hU hh_2.1, by first | trivial | omega | (constructor <;> omega)⟩⟩ rfl rfl hl.1 rfl (lv_room (Nat.le_of_ble_eq_true rfl)) dX10_scanName_15 ⟨Nat.zero_le _, Nat.zero_le _⟩)) (fun r_31 hr_31 => ?_)
        refine lv_if_lt (tgt := 27) hx hb dX10_scanName_18 (by decide) (fun c_32 => ?_) (fun c_32 => ?_)
        · skip
          have c_32' : r_31.toInt < 0 := jb_lt (rfl) ((by decide)) c_32
          refine lv_iload hx hb dX10_scanName_27 (lv_at hl 4 rfl) ?_
          refine lv_iload_n hx hb dX10_scanName_29 rfl (lv_at hl 2 rfl) ?_
          refine lv_isub hx hb dX10_scanName_30 ?_
          refine lv_topi (fun z_33 ez_33 => ?_)
          have hz_33 : z_33.toInt = v4_2.toInt - a2.toInt := by rw [ez_33]; exact jb_isub2 (rfl) (rfl) (by omega)
          refine lv_bipush (v := 10) hx hb dX10_scanName_31 (by decide) ?_
          refine lv_icmp_gt (tgt := 70) hx hb dX10_scanName_33 (by decide) (fun c_34 => ?_) (fun c_34 => ?_)
          · skip
            have c_34' : z_33.toInt > 10 := jb_gt (rfl) ((by decide)) c_34
            refine lv_iload_n hx hb dX10_scanName_70 rfl (lv_at hl 2 rfl) ?_
            refine lv_istore (lv' := [(5, .int a2), (0, .ref r0), (1, .ref r1), (2, .int a2), (3, .int a3), (4, .int v4_2)]) hx hb dX10_scanName_71 hl (by decide) rfl (fun ls hl => ?_)
            have L73 : ∀ (N : Nat) (v5_35 : Int32) (wk_35 : Int32) (H_35 : Heap) (locs_35 : List Loc), jSt (dC, dI) B base G0 G0 EX10_scanNameSa9 s.heap 0 0 [(r0, 12, 3, .int wk_35)] [] [] H_35 locs_35 → (a2.toInt ≤ v5_35.toInt ∧ v5_35.toInt ≤ v4_2.toInt ∧ 0 ≤ wk_35.toInt ∧ wk_35.toInt ≤ 1500 ∧ wk_35.toInt ≤ tk.toInt + (v5_35.toInt - a2.toInt)) → (v4_2.toInt - v5_35.toInt : Int) < N → ∀ ls : Array Slot, lv_has ls 6 [(0, .ref r0), (1, .ref r1), (2, .int a2), (3, .int a3), (4, .int v4_2), (5, .int v5_35)] → W p l e R s m ([.ref r0, .ref r1, .int a2, .int a3] : List Value).toArray below meth c H_35 locs_35 0 0 Q (F0 m 73 ls []) := by
              intro N
              induction N with
              | zero => intro v5_35 wk_35 H_35 locs_35 hh_35  hi_35 hm; exact absurd hm (by omega)
              | succ N L73 =>
                intro v5_35 wk_35 H_35 locs_35 hh_35  hi_35 hm_35 ls hl
                obtain ⟨hi_35_0, hi_35_1, hi_35_2, hi_35_3, hi_35_4⟩ := hi_35
                refine lv_iload hx hb dX10_scanName_73 (lv_at hl 5 rfl) ?_
                refine lv_iload hx hb dX10_scanName_75 (lv_at hl 4 rfl) ?_
                refine lv_icmp_ge (tgt := 92) hx hb dX10_scanName_77 (by decide) (fun c_36 => ?_) (fun c_36 => ?_)
                · skip
                  have c_36' : v5_35.toInt ≥ v4_2.toInt := jb_ge (rfl) (rfl) c_36
                  refine lv_iload hx hb dX10_scanName_92 (lv_at hl 4 rfl) ?_
                  rw [hQ]
                  exact W.iret (v := v4_2) hx hb hr (fun t ht hW => ⟨⟨v4_2, wk_35, rfl, by first | omega | (refine ⟨?_, ?_, ?_, ?_, ?_⟩ <;> (first | omega | rfl | assumption | decide | exact Or.inl rfl | exact Or.inr rfl | (simp only; omega))), hh_35.rt (M1 := [(r0, 12, 3, .int wk_35)]) [0] rfl ht⟩, by rw [ht]; try exact hh_35.1.1, fun q h9 hq => by rw [ht]; try exact hh_35.1.2.1 q h9 hq⟩) hh_35.1.2.2 dX10_scanName_94
                · skip
                  have c_36' : v5_35.toInt < v4_2.toInt := jb_ge_n (rfl) (rfl) c_36
                  refine lv_aload_n hx hb dX10_scanName_80 rfl (lv_at hl 0 rfl) ?_
                  refine lv_iconst (v := 0) hx hb dX10_scanName_81 (by decide) ?_
                  refine lv_iconst (v := 0) hx hb dX10_scanName_82 (by decide) ?_
                  refine va_callv (A0 := jA base) (H0 := s.heap) (va_runV (As := [.int 0, .int 0]) (rest := []) ⟨hx, hb, hml, hown, hts⟩ (uX10_addB l dC dI ca base B hB hAp hB12 hB101 hB293 G0 H_35 r0 0 0 wk_35) (cwV 2 hts (jgV (jWr_37 _ (List.mem_of_getElem? (i := 7) rfl)) (jWr_37 _ (List.mem_of_getElem? (i := 8) rfl)) (jWr_37 _ (List.mem_of_getElem? (i := 9) rfl)) (jWr_4 _ (List.mem_of_getElem? (i := 14) rfl)) (jWr_37 _ (List.mem_of_getElem? (i := 10) rfl))) rfl rfl rfl (by decide +kernel) ⟨by rw [← hR]; exact Nat.le_of_ble_eq_true rfl, by rw [← hR]; exact Nat.le_of_ble_eq_true rfl⟩) ⟨fun a U g mk q => by obtain ⟨q0, q1, q2, qK, q10, q11, q12⟩ := q; exact ⟨q0, q1, q2, jG.calling g mk a qK, q10, q11, q12⟩, hh_35.recv (C := RX10) (T := TX10) (N := 11) hB12 rfl (by decide) hg_r0 hK, fun U hU hW => ⟨rfl, hU, hh_35.2.1, hG.step hW hU hh_35.1, hg_r0, (hh_35.2.2.1.sub (L1 := [(r0, 12, 3, .int wk_35)]) [0] rfl), by first | omega | (refine ⟨?_, ?_, ?_, ?_⟩ <;> (first | omega | rfl | assumption | decide | exact Or.inl rfl | exact Or.inr rfl | (simp only; omega)))⟩⟩ rfl rfl hl.1 rfl (lv_room (Nat.le_of_ble_eq_true rfl)) dX10_scanName_83 ⟨Nat.zero_le _, Nat.zero_le _⟩) hh_35.1 (fun q _ h => h) (fun q h => h) (fun u_37 t_37 H_37 locs_37 ht_37 hvm_37 hr_38 hb_37 hz_37 hk_37 hS_37 => ?_)
                  obtain ⟨qk_37, rfl⟩ : ∃ z, z = u_37 := ⟨_, rfl⟩
                  rw [ht_37] at hb_37
                  obtain ⟨hb_371, hb_372, hb_373, hb_374, hb_375⟩ := hb_37
                  have hh_37 : jSt (dC, dI) B base G0 G0 EX10_scanNameSa9 s.heap 0 0 [(r0, 12, 3, .int qk_37)] [] [] H_37 locs_37 := ((hh_35.call hb_371 hb_372 hb_373 hb_374 hS_37 rfl (L1 := []) [] rfl rfl (M1 := []) [] rfl rfl (I1 := []) [] rfl rfl).more hb_375)
                  clear hh_35 ht_37 hvm_37 hz_37 hk_37 hS_37 hb_371 hb_372 hb_373 hb_374 hb_375
                  obtain ⟨hr_38_0, hr_38_1, hr_38_2⟩ := hr_38
                  obtain ⟨z_39, ez_39⟩ : ∃ y : Int32, y = v5_35 + 1 := ⟨_, rfl⟩
                  refine lv_iinc (v := z_39) (lv' := [(5, .int z_39), (0, .ref r0), (1, .ref r1), (2, .int a2), (3, .int a3), (4, .int v4_2)]) hx hb dX10_scanName_86 hl (k := 5) rfl (by rw [ez_39]; rfl) (by decide) rfl (fun ls hl => ?_)
                  have hz_39 : z_39.toInt = v5_35.toInt + 1 := by rw [ez_39]; exact jb_iadd2 (rfl) (by decide) (by omega)
                  refine lv_goto (tgt := 73) hx hb dX10_scanName_89 (by decide) ?_
                  exact L73 z_39 qk_37 _ _ hh_37 (by first | omega | (refine ⟨?_, ?_, ?_, ?_, ?_⟩ <;> (first | omega | rfl | assumption | decide | exact Or.inl rfl | exact Or.inr rfl | (simp only; omega)))) (by omega) _ (lv_sub hl [1, 2, 3, 4, 5, 0] rfl)
            exact L73 (v4_2.toInt - (a2 : Int32).toInt : Int).toNat.succ a2 tk _ _ hh_2 (by first | omega | (refine ⟨?_, ?_, ?_, ?_, ?_⟩ <;> (first | omega | rfl | assumption | decide | exact Or.inl rfl | exact Or.inr rfl | (simp only; omega)))) (by omega) _ (lv_sub hl [1, 2, 3, 4, 5, 0] rfl)
          · skip
            have c_34' : z_33.toInt ≤ 10 := jb_gt_n (rfl) ((by decide)) c_34
            refine lv_aload_n hx hb dX10_scanName_36 rfl (lv_at hl 0 rfl) ?_
            obtain ⟨v_40, hv_40, hh_41⟩ := hh_2.pin (C := RX10) (T := TX10) (N := 11) hB12 rfl (by decide) hg_r0 (i := 0) (by decide) rfl
            clear hh_2
            obtain ⟨names_42, rfl, hg_names_42⟩ := hv_40
            refine j7_read hx hb hown hK (C := RX10) (T := TX10) (N := 11) rfl hly_12_0 hlk_24 (hh_41.at 0 rfl) dX10_scanName_37 ?_
            refine lv_aload_n hx hb dX10_scanName_40 rfl (lv_at hl 1 rfl) ?_
            refine lv_iload_n hx hb dX10_scanName_41 rfl (lv_at hl 2 rfl) ?_
            refine lv_iload hx hb dX10_scanName_42 (lv_at hl 4 rfl) ?_
            refine lv_iconst (v := 1) hx hb dX10_scanName_44 (by decide) ?_
            obtain ⟨v_45, hv_45, hh_46⟩ := hh_41.pin (C := RX6) (T := TX6) (N := 4) hB8 rfl (by decide) hg_names_42 (i := 0) (by decide) rfl
            obtain ⟨stems_47, rfl, hg_stems_47⟩ := hv_45
            obtain ⟨v_48, hv_48, hh_49⟩ := hh_46.pin (C := RX6) (T := TX6) (N := 4) hB8 rfl (by decide) hg_names_42 (i := 1) (by decide) rfl
            obtain ⟨primes_50, rfl, hg_primes_50⟩ := hv_48
            obtain ⟨v_51, hv_51, hh_52⟩ := hh_49.pin (C := RX6) (T := TX6) (N := 4) hB8 rfl (by decide) hg_names_42 (i := 2) (by decide) rfl
            obtain ⟨slots_53, rfl, hg_slots_53⟩ := hv_51
            refine va_calli (A0 := jA base) (H0 := s.heap) (va_runV (As := [.ref r1, .int a2, .int v4_2, .int 1]) (rest := []) ⟨hx, hb, hml, hown, hts⟩ (uX6_numberOfBa9 l dC dI ca base B hB hAp hB8 hB102 hB132 hB133 hB175 G0 H_2 names_42 r1 a2 v4_2 1 n1 stems_47 primes_50 slots_53) (cwV 4 hts (jgV (jWr_37 _ (List.mem_of_getElem? (i := 6) rfl)) (jWr_7 _ (List.mem_of_getElem? (i := 14) rfl)) (jWr_7 _ (List.mem_of_getElem? (i := 15) rfl)) (jWr_4 _ (List.mem_of_getElem? (i := 10) rfl)) (jWr_7 _ (List.mem_of_getElem? (i := 16) rfl))) rfl rfl rfl (by decide +kernel) ⟨by rw [← hR]; exact Nat.le_of_ble_eq_true rfl, by rw [← hR]; exact Nat.le_of_ble_eq_true rfl⟩) ⟨fun a U g mk q => by obtain ⟨q0, q1, q2, qK, q10, q11, q12, q13, q14, q15, q16⟩ := q; exact ⟨q0, q1, q2, jG.calling g mk a qK, q10, q11, q12, q13, q14, q15, q16⟩, hh_52.recv (C := RX6) (T := TX6) (N := 4) hB8 rfl (by decide) hg_names_42 hK, fun U hU hW => ⟨rfl, hU, hh_52.2.1, hG.step hW hU hh_52.1, hg_names_42, hg_r1, hg_stems_47, hg_primes_50, hg_slots_53, (hh_52.2.2.1.sub (L1 := [(names_42, 8, 0, .ref stems_47), (names_42, 8, 1, .ref primes_50), (names_42, 8, 2, .ref slots_53)]) [2, 1, 0] rfl), by first | omega | rfl | assumption | decide | exact Or.inl rfl | exact Or.inr rfl | (simp only; omega)⟩⟩ rfl rfl hl.1 rfl (lv_room (Nat.le_of_ble_eq_true rfl)) dX10_scanName_45 ⟨Nat.zero_le _, Nat.zero_le _⟩) hh_52.1 (fun q _ h => h) (fun q h => h) (fun r_44 u_43 t_43 H_43 locs_43 ht_43 hvm_43 hr_44 hb_43 hz_43 hk_43 hS_43 => ?_)
            rw [ht_43] at hb_43
            obtain ⟨hb_43, hbF_43⟩ := hb_43
            obtain ⟨hb_431, hb_432, hb_433, hb_434, hb_435⟩ := hb_43
            have hh_43 : jSt (dC, dI) B base G0 G0 EX10_scanNameSa9 s.heap 0 0 [(names_42, 8, 2, .ref slots_53), (names_42, 8, 1, .ref primes_50), (names_42, 8, 0, .ref stems_47), (r0, 12, 0, .ref names_42), (r0, 12, 3, .int tk)] [] [] H_43 locs_43 := ((hh_52.call hb_431 hb_432 hb_433 hb_434 hS_43 rfl (L1 := [(names_42, 8, 2, .ref slots_53), (names_42, 8, 1, .ref primes_50), (names_42, 8, 0, .ref stems_47), (r0, 12, 0, .ref names_42), (r0, 12, 3, .int tk)]) [0, 1, 2, 3, 4] rfl rfl (M1 := []) [] rfl rfl (I1 := []) [] rfl rfl).more hb_435)
            clear hh_52 ht_43 hvm_43 hz_43 hk_43 hS_43 hb_431 hb_432 hb_433 hb_434 hb_435
            obtain ⟨hr_44_0, hr_44_1⟩ := hr_44
            refine lv_istore (lv' := [(5, .int r_44), (0, .ref r0), (1, .ref r1), (2, .int a2), (3, .int a3), (4, .int v4_2)]) hx hb dX10_scanName_48 hl (by decide) rfl (fun ls hl => ?_)
            refine lv_aload_n hx hb dX10_scanName_50 rfl (lv_at hl 1 rfl) ?_
            refine lv_iload hx hb dX10_scanName_51 (lv_at hl 0 rfl) ?_
            refine lv_if_ge (tgt := 60) hx hb dX10_scanName_53 (by decide) (fun c_54 => ?_) (fun c_54 => ?_)
            · skip
              have c_54' : r_44.toInt ≥ 0 := jb_ge (rfl) ((by decide)) c_54
              refine lv_bipush (v := 110) hx hb dX10_scanName_60 (by decide) ?_
              refine lv_iload hx hb dX10_scanName_62 (lv_at hl 0 rfl) ?_
              refine va_callv (A0 := jA base) (H0 := s.heap) (va_runV (As := [.int 110, .int r_44]) (rest := []) ⟨hx, hb, hml, hown, hts⟩ (uX10_addB l dC dI ca base B hB hAp hB12 hB101 hB293 G0 H_43 r0 110 r_44 tk) (cwV 2 hts (jgV (jWr_37 _ (List.mem_of_getElem? (i := 7) rfl)) (jWr_37 _ (List.mem_of_getElem? (i := 8) rfl)) (jWr_37 _ (List.mem_of_getElem? (i := 9) rfl)) (jWr_4 _ (List.mem_of_getElem? (i := 14) rfl)) (jWr_37 _ (List.mem_of_getElem? (i := 10) rfl))) rfl rfl rfl (by decide +kernel) ⟨by rw [← hR]; exact Nat.le_of_ble_eq_true rfl, by rw [← hR]; exact Nat.le_of_ble_eq_true rfl⟩) ⟨fun a U g mk q => by obtain ⟨q0, q1, q2, qK, q10, q11, q12⟩ := q; exact ⟨q0, q1, q2, jG.calling g mk a qK, q10, q11, q12⟩, hh_43.recv (C := RX10) (T := TX10) (N := 11) hB12 rfl (by decide) hg_r0 hK, fun U hU hW => ⟨rfl, hU, hh_43.2.1, hG.step hW hU hh_43.1, hg_r0, (hh_43.2.2.1.sub (L1 := [(r0, 12, 3, .int tk)]) [4] rfl), by first | omega | (refine ⟨?_, ?_, ?_, ?_⟩ <;> (first | omega | rfl | assumption | decide | exact Or.inl rfl | exact Or.inr rfl | (simp only; omega)))⟩⟩ rfl rfl hl.1 rfl (lv_room (Nat.le_of_ble_eq_true rfl)) dX10_scanName_64 ⟨Nat.zero_le _, Nat.zero_le _⟩) hh_43.1 (fun q _ h => h) (fun q h => h) (fun u_55 t_55 H_55 locs_55 ht_55 hvm_55 hr_56 hb_55 hz_55 hk_55 hS_55 => ?_)
              obtain ⟨qk_55, rfl⟩ : ∃ z, z = u_55 := ⟨_, rfl⟩
              rw [ht_55] at hb_55
              obtain ⟨hb_551, hb_552, hb_553, hb_554, hb_555⟩ := hb_55
              have hh_55 : jSt (dC, dI) B base G0 G0 EX10_scanNameSa9 s.heap 0 0 [(r0, 12, 3, .int qk_55), (names_42, 8, 2, .ref slots_53), (names_42, 8, 1, .ref primes_50), (names_42, 8, 0, .ref stems_47), (r0, 12, 0, .ref names_42)] [] [] H_55 locs_55 := ((hh_43.call hb_551 hb_552 hb_553 hb_554 hS_55 rfl (L1 := [(names_42, 8, 2, .ref slots_53), (names_42, 8, 1, .ref primes_50), (names_42, 8, 0, .ref stems_47), (r0, 12, 0, .ref names_42)]) [0, 1, 2, 3] rfl rfl (M1 := []) [] rfl rfl (I1 := []) [] rfl rfl).more hb_555)
              clear hh_43 ht_55 hvm_55 hz_55 hk_55 hS_55 hb_551 hb_552 hb_553 hb_554 hb_555
              obtain ⟨hr_56_0, hr_56_1, hr_56_2⟩ := hr_56
              refine lv_goto (tgt := 92) hx hb dX10_scanName_67 (by decide) ?_
              refine lv_iload hx hb dX10_scanName_92 (lv_at hl 5 rfl) ?_
              rw [hQ]
              exact W.iret (v := v4_2) hx hb hr (fun t ht hW => ⟨⟨v4_2, qk_55, rfl, by first | omega | (refine ⟨?_, ?_, ?_, ?_, ?_⟩ <;> (first | omega | rfl | assumption | decide | exact Or.inl rfl | exact Or.inr rfl | (simp only; omega))), hh_55.rt (M1 := [(r0, 12, 3, .int qk_55)]) [0] rfl ht⟩, by rw [ht]; try exact hh_55.1.1, fun q h9 hq => by rw [ht]; try exact hh_55.1.2.1 q h9 hq⟩) hh_55.1.2.2 dX10_scanName_94
            · skip
              have c_54' : r_44.toInt < 0 := jb_ge_n (rfl) ((by decide)) c_54
              refine lv_iconst (v := 0) hx hb dX10_scanName_56 (by decide) ?_
              refine lv_goto (tgt := 62) hx hb dX10_scanName_57 (by decide) ?_
              refine lv_iload hx hb dX10_scanName_62 (lv_at hl 0 rfl) ?_
              refine va_callv (A0 := jA base) (H0 := s.heap) (va_runV (As := [.int 0, .int r_44]) (rest := []) ⟨hx, hb, hml, hown, hts⟩ (uX10_addB l dC dI ca base B hB hAp hB12 hB101 hB293 G0 H_43 r0 0 r_44 tk) (cwV 2 hts (jgV (jWr_37 _ (List.mem_of_getElem? (i := 7) rfl)) (jWr_37 _ (List.mem_of_getElem? (i := 8) rfl)) (jWr_37 _ (List.mem_of_getElem? (i := 9) rfl)) (jWr_4 _ (List.mem_of_getElem? (i := 14) rfl)) (jWr_37 _ (List.mem_of_getElem? (i := 10) rfl))) rfl rfl rfl (by decide +kernel) ⟨by rw [← hR]; exact Nat.le_of_ble_eq_true rfl, by rw [← hR]; exact Nat.le_of_ble_eq_true rfl⟩) ⟨fun a U g mk q => by obtain ⟨q0, q1, q2, qK, q10, q11, q12⟩ := q; exact ⟨q0, q1, q2, jG.calling g mk a qK, q10, q11, q12⟩, hh_43.recv (C := RX10) (T := TX10) (N := 11) hB12 rfl (by decide) hg_r0 hK, fun U hU hW => ⟨rfl, hU, hh_43.2.1, hG.step hW hU hh_43.1, hg_r0, (hh_43.2.2.1.sub (L1 := [(r0, 12, 3, .int tk)]) [4] rfl), by first | omega | (refine ⟨?_, ?_, ?_, ?_⟩ <;> (first | omega | rfl | assumption | decide | exact Or.inl rfl | exact Or.inr rfl | (simp only; omega)))⟩⟩ rfl rfl hl.1 rfl (lv_room (Nat.le_of_ble_eq_true rfl)) dX10_scanName_64 ⟨Nat.zero_le _, Nat.zero_le _⟩) hh_43.1 (fun q _ h => h) (fun q h => h) (fun u_57 t_57 H_57 locs_57 ht_57 hvm_57 hr_58 hb_57 hz_57 hk_57 hS_57 => ?_)
              obtain ⟨qk_57, rfl⟩ : ∃ z, z = u_57 := ⟨_, rfl⟩
              rw [ht_57] at hb_57
              obtain ⟨hb_571, hb_572, hb_573, hb_574, hb_575⟩ := hb_57
              have hh_57 : jSt (dC, dI) B base G0 G0 EX10_scanNameSa9 s.heap 0 0 [(r0, 12, 3, .int qk_57), (names_42, 8, 2, .ref slots_53), (names_42, 8, 1, .ref primes_50), (names_42, 8, 0, .ref stems_47), (r0, 12, 0, .ref names_42)] [] [] H_57 locs_57 := ((hh_43.call hb_571 hb_572 hb_573 hb_574 hS_57 rfl (L1 := [(names_42, 8, 2, .ref slots_53), (names_42, 8, 1, .ref primes_50), (names_42, 8, 0, .ref stems_47), (r0, 12, 0, .ref names_42)]) [0, 1, 2, 3] rfl rfl (M1 := []) [] rfl rfl (I1 := []) [] rfl rfl).more hb_575)
              clear hh_43 ht_57 hvm_57 hz_57 hk_57 hS_57 hb_571 hb_572 hb_573 hb_574 hb_575
              obtain ⟨hr_58_0, hr_58_1, hr_58_2⟩ := hr_58
              refine lv_goto (tgt := 92) hx hb dX10_scanName_67 (by decide) ?_
              refine lv_iload hx hb dX10_scanName_92 (lv_at hl 5 rfl) ?_
              rw [hQ]
              exact W.iret (v := v4_2) hx hb hr (fun t ht hW => ⟨⟨v4_2, qk_57, rfl, by first | omega | (refine ⟨?_, ?_, ?_, ?_, ?_⟩ <;> (first | omega | rfl | assumption | decide | exact Or.inl rfl | exact Or.inr rfl | (simp only; omega))), hh_57.rt (M1 := [(r0, 12, 3, .int qk_57)]) [0] rfl ht⟩, by rw [ht]; try exact hh_57.1.1, fun q h9 hq => by rw [ht]; try exact hh_57.1.2.1 q h9 hq⟩) hh_57.1.2.2 dX10_scanName_94
        · skip
          have c_32' : r_31.toInt ≥ 0 := jb_lt_n (rfl) ((by decide)) c_32
          obtain ⟨z_59, ez_59⟩ : ∃ y : Int32, y = v4_2 + 1 := ⟨_, rfl⟩
          refine lv_iinc (v := z_59) (lv' := [(4, .int z_59), (0, .ref r0), (1, .ref r1), (2, .int a2), (3, .int a3)]) hx hb dX10_scanName_21 hl (k := 4) rfl (by rw [ez_59]; rfl) (by decide) rfl (fun ls hl => ?_)
          have hz_59 : z_59.toInt = v4_2.toInt + 1 := by rw [ez_59]; exact jb_iadd2 (rfl) (by decide) (by omega)
          refine lv_goto (tgt := 5) hx hb dX10_scanName_24 (by decide) ?_
          exact L5 z_59 _ _ hh_2 (by first | omega | (refine ⟨?_, ?_⟩ <;> (first | omega | rfl | assumption | decide | exact Or.inl rfl | exact Or.inr rfl | (simp only; omega)))) (by omega) _ (lv_sub hl [1, 2, 3, 4, 0] rfl)
  exact L5 (a3.toInt - (z_1 : Int32).toInt : Int).toNat.succ z_1 _ _ hh (by first | omega | (refine ⟨?_, ?_⟩ <;> (first | omega | rfl | assumption | decide | exact Or.inl rfl | exact Or.inr rfl | (simp only; omega)))) (by omega) _ (lv_sub hl [1, 2, 3, 4, 0] rfl)
set_option maxHeartbeats 4000000 in
set_option maxRecDepth 20000 in
theorem uX10_scanSa9 (l : Launch) (dC : Nat → ClassId) (dI : Nat → Nat → Nat) (ca : Nat → ClassId) (base : Nat) (B : jF) (hB : jBok B) (hAp : jAp (dC, dI)) (hB8 : ∀ n G a H, B 8 n G a H ↔ jOb (dC, dI) 8 4 (F8 n G) a H) (hB12 : ∀ n G a H, B 12 n G a H ↔ jOb (dC, dI) 12 11 (F12b n G) a H) (hB101 : ∀ n G a H, B 101 n G a H ↔ jAr (dC, dI) (ca 1) (fun j z => True) n a H) (hB102 : ∀ n G a H, B 102 n G a H ↔ jAl (dC, dI) (ca 2) n a H) (hB132 : ∀ n G a H, B 132 n G a H ↔ jAr (dC, dI) (ca 1) (fun j z => 0 ≤ z.toInt ∧ z.toInt ≤ 10) n a H) (hB133 : ∀ n G a H, B 133 n G a H ↔ jAr (dC, dI) (ca 1) (fun j z => 0 ≤ z.toInt ∧ z.toInt ≤ 8192) n a H) (hB175 : ∀ n G a H, B 175 n G a H ↔ jAr (dC, dI) (ca 1) (fun j z => True) n a H) (hB293 : ∀ n G a H, B 293 n G a H ↔ jAr (dC, dI) (ca 1) (fun j z => -1 ≤ z.toInt ∧ z.toInt ≤ 8191) n a H) (G0 : jT) (H0 : Heap) (r0 : Nat) (r1 : Nat) (a2 : Int32) (a3 : Int32) (n1 : Nat) : Met l yX10_scan (jw yX10_scan cX10_scan 8 (some .int)) ({ frames := 5, cells := 0, slots := 0, locals := 181 }) (va_Pc [.ref r0, .ref r1, .int a2, .int a3] (fun U => U.heap = H0 ∧ jX B base G0 [] H0 ∧ jG dC dI ca base U ∧ G0 r0 = some (12, 0) ∧ G0 r1 = some (175, n1) ∧ jP (dC, dI) G0 H0 [] ∧ n1 ≤ 1500 ∧ a2.toInt = 0 ∧ a3.toInt = n1)) (va_Qi (S := Int32) (fun r u => (0 ≤ r.toInt ∧ r.toInt ≤ 1500 ∧ 0 ≤ u.toInt ∧ u.toInt ≤ n1)) (fun u t => jRt (dC, dI) B base G0 EX10_scanSa9 H0 [(r0, 12, 3, .int u)] t.heap) (jA base)) 0 0 (jA base) := by
  refine Met.ofW (cc := cX10_scan) (maxL := 8) (ret := (some .int)) (by decide) rfl ?_
  intro p e s m args below meth c s₁ Bd hml hv
  obtain ⟨rfl, hH0, hX, hG, hg_r0, hg_r1, hP0, hp0, hp1, hp2⟩ := hv
  have hK := hG.1
  have hx := Bd.exec
  have hb := Bd.bytes
  have hr := Bd.returns
  have hts := atoms_spec (ws := (jw yX10_scan cX10_scan 8 (some .int))) Bd.pre
  have htw : ∀ w ∈ jWl, w.before _ s = true := fun w h => hts w (List.mem_cons_of_mem _ h)
  have hown : s.vm.findClass RX10 = some m.cls := findClass_of_methodNamed Bd.named
  have hlocks := Bd.notSynchronized
  obtain ⟨Q, hQ⟩ : ∃ Q, Q = MQ below (va_Qi (S := Int32) (fun r u => (0 ≤ r.toInt ∧ r.toInt ≤ 1500 ∧ 0 ≤ u.toInt ∧ u.toInt ≤ n1)) (fun u t => jRt (dC, dI) B base G0 EX10_scanSa9 H0 [(r0, 12, 3, .int u)] t.heap) (jA base)) ([.ref r0, .ref r1, .int a2, .int a3] : List Value).toArray s 0 0 (jA base) := ⟨_, rfl⟩
  rw [← hQ]
  have hl := lv_entry ([.ref r0, .ref r1, .int a2, .int a3]) (n := 8) (Nat.le_of_ble_eq_true rfl)
  rw [lg_entry_eq]
  generalize (lg_sl ([.ref r0, .ref r1, .int a2, .int a3]) ++ List.replicate (8 - (lg_sl ([.ref r0, .ref r1, .int a2, .int a3])).length) Slot.unset).toArray = ls at hl ⊢
  have hl : lv_has ls 8 [(0, .ref r0), (1, .ref r1), (2, .int a2), (3, .int a3)] := hl
  generalize hR : (headSpec (jw yX10_scan cX10_scan 8 (some .int)) ({ frames := 5, cells := 0, slots := 0, locals := 181 })).room = R
  subst hH0
  have hh : jSt (dC, dI) B base G0 G0 EX10_scanSa9 s.heap 0 0 [] [] [] s.heap [] := jSt.start hX hP0 jMc.nil jIs.nil
  clear hX hP0
  have hk0 : (0 : Int32).toInt = 0 := by decide
  have hk1 : (1 : Int32).toInt = 1 := by decide
  have hk2 : (2 : Int32).toInt = 2 := by decide
  have hk45 : (45 : Int32).toInt = 45 := by decide
  have hk46 : (46 : Int32).toInt = 46 := by decide
  have hk48 : (48 : Int32).toInt = 48 := by decide
  have hk62 : (62 : Int32).toInt = 62 := by decide
  have hk100 : (100 : Int32).toInt = 100 := by decide
  have hk128 : (128 : Int32).toInt = 128 := by decide
  have hly_12_3 := htw (u_lay RX10 TX10 3) (jWc_wsX100 _ (u_in_lay (by decide)))
  have hlk_28 := (htw (.fieldLink RX10 28 "ProofServer$Syntax" "tokens" "I") (jWr_36 _ (List.mem_of_getElem? (i := 23) rfl)))
  obtain ⟨str66, rstr66, hstr660⟩ := hG.str (o := RX10) (k := 66) (tx := "*+~=:,()") (List.mem_of_getElem? (i := 1152) (by decide +kernel))
  have hstr66 : jStr base str66 8 s s.heap := hstr660
  have hrg_a2 := jb_rng a2
  have hrg_a3 := jb_rng a3
  refine lv_aload_n hx hb dX10_scan_0 rfl (lv_at hl 0 rfl) ?_
  refine lv_iconst (v := 0) hx hb dX10_scan_1 (by decide) ?_
  refine j7_put hx hb hown hK hh hB hAp hB12 (C := RX10) (T := TX10) (N := 11) rfl (by decide) hg_r0 (i := 3) (by decide) hly_12_3 rfl hlk_28 rfl (ty := .int) (v := .int 0) (by decide +kernel) rfl rfl (⟨_, rfl, by omega, by omega⟩) rfl (L1 := []) [] rfl rfl rfl dX10_scan_2 (fun H_1 locs_1 hh_1 => ?_)
  clear hh
  refine lv_iload_n hx hb dX10_scan_5 rfl (lv_at hl 3 rfl) ?_
  refine lv_aload_n hx hb dX10_scan_6 rfl (lv_at hl 1 rfl) ?_
  refine j7_len hx hb hK hh_1 hB175 1 rfl (by decide) hg_r1 (by omega) dX10_scan_7 (fun z_2 hz_2 => ?_)
  refine va_mmin hx hb (by rw [hml]; exact hl.1.symm) hown (htw (.methodLink RX10 32 Lib.Math.min.name) (jWr_37 _ (List.mem_of_getElem? (i := 0) rfl))) (htw (.static Lib.Math.min.name) (jWr_16 _ (List.mem_of_getElem? (i := 16) rfl))) (htw (.initialized "java/lang/Math") (jWr_3 _ (List.mem_of_getElem? (i := 7) rfl))) (htw (.code Lib.Math.min.name Lib.Math.min.code 2 (some .int)) (jWr_16 _ (List.mem_of_getElem? (i := 17) rfl))) (by rw [← hR]; exact Nat.le_of_ble_eq_true rfl) (by rw [← hR]; exact Nat.le_of_ble_eq_true rfl) (Nat.zero_le _) (Nat.zero_le _) dX10_scan_8 ?_
  refine lv_topi (fun z_3 ez_3 => ?_)
  have hz_3 := jb_min ez_3
  refine lv_istore (lv' := [(4, .int z_3), (0, .ref r0), (1, .ref r1), (2, .int a2), (3, .int a3)]) hx hb dX10_scan_11 hl (by decide) rfl (fun ls hl => ?_)
  refine lv_iload_n hx hb dX10_scan_13 rfl (lv_at hl 3 rfl) ?_
  refine lv_iconst (v := 0) hx hb dX10_scan_14 (by decide) ?_
  refine va_mmax hx hb (by rw [hml]; exact hl.1.symm) hown (htw (.methodLink RX10 38 Lib.Math.max.name) (jWr_37 _ (List.mem_of_getElem? (i := 1) rfl))) (htw (.static Lib.Math.max.name) (jWr_3 _ (List.mem_of_getElem? (i := 6) rfl))) (htw (.initialized "java/lang/Math") (jWr_3 _ (List.mem_of_getElem? (i := 7) rfl))) (htw (.code Lib.Math.max.name Lib.Math.max.code 2 (some .int)) (jWr_3 _ (List.mem_of_getElem? (i := 8) rfl))) (by rw [← hR]; exact Nat.le_of_ble_eq_true rfl) (by rw [← hR]; exact Nat.le_of_ble_eq_true rfl) (Nat.zero_le _) (Nat.zero_le _) dX10_scan_15 ?_
  refine lv_topi (fun z_4 ez_4 => ?_)
  have hz_4 := jb_max ez_4
  refine lv_istore (lv' := [(5, .int z_4), (4, .int z_3), (0, .ref r0), (1, .ref r1), (2, .int a2), (3, .int a3)]) hx hb dX10_scan_18 hl (by decide) rfl (fun ls hl => ?_)
  have L20 : ∀ (N : Nat) (v5_5 : Int32) (wk_5 : Int32) (H_5 : Heap) (locs_5 : List Loc), jSt (dC, dI) B base G0 G0 EX10_scanSa9 s.heap 0 0 [(r0, 12, 3, .int wk_5)] [] [] H_5 locs_5 → (0 ≤ v5_5.toInt ∧ v5_5.toInt ≤ z_3.toInt ∧ 0 ≤ wk_5.toInt ∧ wk_5.toInt ≤ v5_5.toInt) → (((z_3.toInt - v5_5.toInt).toNat : Int) : Int) < N → ∀ ls : Array Slot, lv_has ls 8 [(0, .ref r0), (1, .ref r1), (2, .int a2), (3, .int a3), (4, .int z_3), (5, .int v5_5)] → W p l e R s m ([.ref r0, .ref r1, .int a2, .int a3] : List Value).toArray below meth c H_5 locs_5 0 0 Q (F0 m 20 ls []) := by
    intro N
    induction N with
    | zero => intro v5_5 wk_5 H_5 locs_5 hh_5  hi_5 hm; exact absurd hm (by omega)
    | succ N L20 =>
      intro v5_5 wk_5 H_5 locs_5 hh_5  hi_5 hm_5 ls hl
      obtain ⟨hi_5_0, hi_5_1, hi_5_2, hi_5_3⟩ := hi_5
      refine lv_iload hx hb dX10_scan_20 (lv_at hl 5 rfl) ?_
      refine lv_iload hx hb dX10_scan_22 (lv_at hl 4 rfl) ?_
      refine lv_icmp_ge (tgt := 240) hx hb dX10_scan_24 (by decide) (fun c_6 => ?_) (fun c_6 => ?_)
      · skip
        have c_6' : v5_5.toInt ≥ z_3.toInt := jb_ge (rfl) (rfl) c_6
        refine lv_aload_n hx hb dX10_scan_240 rfl (lv_at hl 0 rfl) ?_
        refine j7_read hx hb hown hK (C := RX10) (T := TX10) (N := 11) rfl hly_12_3 hlk_28 (hh_5.at 0 rfl) dX10_scan_241 ?_
        rw [hQ]
        exact W.iret (v := wk_5) hx hb hr (fun t ht hW => ⟨⟨wk_5, wk_5, rfl, by first | omega | (refine ⟨?_, ?_, ?_, ?_⟩ <;> (first | omega | rfl | assumption | decide | exact Or.inl rfl | exact Or.inr rfl | (simp only; omega))), hh_5.rt (M1 := [(r0, 12, 3, .int wk_5)]) [0] rfl ht⟩, by rw [ht]; try exact hh_5.1.1, fun q h9 hq => by rw [ht]; try exact hh_5.1.2.1 q h9 hq⟩) hh_5.1.2.2 dX10_scan_244
      · skip
        have c_6' : v5_5.toInt < z_3.toInt := jb_ge_n (rfl) (rfl) c_6
        refine lv_iload hx hb dX10_scan_27 (lv_at hl 5 rfl) ?_
        refine lv_iconst (v := 1) hx hb dX10_scan_29 (by decide) ?_
        refine lv_iadd hx hb dX10_scan_30 ?_
        refine lv_topi (fun z_7 ez_7 => ?_)
        have hz_7 : z_7.toInt = v5_5.toInt + 1 := by rw [ez_7]; exact jb_iadd2 (rfl) ((by decide)) (by omega)
        refine lv_istore (lv' := [(6, .int z_7), (0, .ref r0), (1, .ref r1), (2, .int a2), (3, .int a3), (4, .int z_3), (5, .int v5_5)]) hx hb dX10_scan_31 hl (by decide) rfl (fun ls hl => ?_)
        refine lv_aload_n hx hb dX10_scan_33 rfl (lv_at hl 2 rfl) ?_
        refine lv_iload hx hb dX10_scan_34 (lv_at hl 6 rfl) ?_
        refine lv_iload hx hb dX10_scan_36 (lv_at hl 5 rfl) ?_
        refine va_calli (A0 := jA base) (H0 := s.heap) (va_runSN (As := [.ref r1, .int v5_5, .int z_3]) (rest := []) ⟨hx, hb, hml, hown, hts⟩ (uX11_opensCommenta9 l dC dI ca base B hB hAp hB175 G0 H_5 r1 v5_5 z_3 n1) ⟨va_cnB 3 hts (jgW (jWr_36 _ (List.mem_of_getElem? (i := 14) rfl))) rfl rfl rfl (hG.2.2.1 RX10 41 yX11_opensComment "ProofServer" (List.mem_of_getElem? (i := 1137) (by decide +kernel))) (htw (.initialized RX11) (jWr_1 _ (List.mem_of_getElem? (i := 2) rfl))) (by decide +kernel) ⟨by rw [← hR]; exact Nat.le_of_ble_eq_true rfl, by rw [← hR]; exact Nat.le_of_ble_eq_true rfl⟩, htw (.static yX11_opensComment) (jWr_36 _ (List.mem_of_getElem? (i := 13) rfl)), trivial⟩ ⟨fun a U g mk q => by obtain ⟨q0, q1, q2, qK, q10, q11, q12⟩ := q; exact ⟨q0, q1, q2, jG.calling g mk a qK, q10, q11, q12⟩, fun U hU hW => ⟨rfl, hU, hh_5.2.1, hG.step hW hU hh_5.1, hg_r1, jP.nil, by first | omega | (refine ⟨?_, ?_⟩ <;> (first | omega | rfl | assumption | decide | exact Or.inl rfl | exact Or.inr rfl | (simp only; omega)))⟩⟩ rfl rfl hl.1 rfl (lv_room (Nat.le_of_ble_eq_true rfl)) dX10_scan_38 ⟨Nat.zero_le _, Nat.zero_le _⟩) hh_5.1 (fun q _ h => h) (fun q h => h) (fun r_9 u_8 t_8 H_8 locs_8 ht_8 hvm_8 hr_9 hb_8 hz_8 hk_8 hS_8 => ?_)
        rw [ht_8] at hb_8
        obtain ⟨hb_81, hb_82, hb_83, hb_84, hb_85⟩ := hb_8
        have hh_8 : jSt (dC, dI) B base G0 G0 EX10_scanSa9 s.heap 0 0 [(r0, 12, 3, .int wk_5)] [] [] H_8 locs_8 := ((hh_5.call hb_81 hb_82 hb_83 hb_84 hS_8 rfl (L1 := [(r0, 12, 3, .int wk_5)]) [0] rfl rfl (M1 := []) [] rfl rfl (I1 := []) [] rfl rfl).more hb_85)
        clear hh_5 ht_8 hvm_8 hz_8 hk_8 hS_8 hb_81 hb_82 hb_83 hb_84 hb_85
        obtain ⟨hr_9b, hr_9p⟩ := hr_9
        have hr_9' := jb_01 hr_9b
        have C226 : ∀ (v6_10 : Int32) (v6_10 : Int32) (wk_10 : Int32) (H_10 : Heap) (locs_10 : List Loc), jSt (dC, dI) B base G0 G0 EX10_scanSa9 s.heap 0 0 [(r0, 12, 3, .int wk_10)] [] [] H_10 locs_10 → (0 ≤ v5_5.toInt ∧ v5_5.toInt < z_3.toInt ∧ v6_10.toInt ≤ z_3.toInt ∧ 0 ≤ wk_10.toInt ∧ (wk_10.toInt ≤ v5_5.toInt + 1 ∨ wk_10.toInt ≤ v6_10.toInt)) → ∀ ls : Array Slot, lv_has ls 8 [(0, .ref r0), (1, .ref r1), (2, .int a2), (3, .int a3), (4, .int z_3), (5, .int v5_5), (6, .int v6_10), (6, .int v6_10)] → W p l e R s m ([.ref r0, .ref r1, .int a2, .int a3] : List Value).toArray below meth c H_10 locs_10 0 0 Q (F0 m 226 ls []) := by
          intro v6_10 v6_10 wk_10 H_10 locs_10 hh_10  hi_10 ls hl
          obtain ⟨hi_10_0, hi_10_1, hi_10_2, hi_10_3, hi_10_4⟩ := hi_10
          try clear hr_9p
          refine lv_iload hx hb dX10_scan_226 (lv_at hl 5 rfl) ?_
          refine lv_iconst (v := 1) hx hb dX10_scan_228 (by decide) ?_
          refine lv_iadd hx hb dX10_scan_229 ?_
          refine lv_topi (fun z_11 ez_11 => ?_)
          have hz_11 : z_11.toInt = v5_5.toInt + 1 := by rw [ez_11]; exact jb_iadd2 (rfl) ((by decide)) (by omega)
          refine lv_iload hx hb dX10_scan_230 (lv_at hl 6 rfl) ?_
          refine va_mmax hx hb (by rw [hml]; exact hl.1.symm) hown (htw (.methodLink RX10 38 Lib.Math.max.name) (jWr_37 _ (List.mem_of_getElem? (i := 1) rfl))) (htw (.static Lib.Math.max.name) (jWr_3 _ (List.mem_of_getElem? (i := 6) rfl))) (htw (.initialized "java/lang/Math") (jWr_3 _ (List.mem_of_getElem? (i := 7) rfl))) (htw (.code Lib.Math.max.name Lib.Math.max.code 2 (some .int)) (jWr_3 _ (List.mem_of_getElem? (i := 8) rfl))) (by rw [← hR]; exact Nat.le_of_ble_eq_true rfl) (by rw [← hR]; exact Nat.le_of_ble_eq_true rfl) (Nat.zero_le _) (Nat.zero_le _) dX10_scan_232 ?_
          refine lv_topi (fun z_12 ez_12 => ?_)
          have hz_12 := jb_max ez_12
          refine lv_istore (lv' := [(5, .int z_12), (0, .ref r0), (1, .ref r1), (2, .int a2), (3, .int a3), (4, .int z_3), (6, .int v6_10), (6, .int v6_10)]) hx hb dX10_scan_235 hl (by decide) rfl (fun ls hl => ?_)
          refine lv_goto (tgt := 20) hx hb dX10_scan_237 (by decide) ?_
          exact L20 z_12 wk_10 _ _ hh_10 (by first | omega | (refine ⟨?_, ?_, ?_, ?_⟩ <;> (first | omega | rfl | assumption | decide | exact Or.inl rfl | exact Or.inr rfl | (simp only; omega)))) (by omega) _ (lv_sub hl [1, 2, 3, 4, 5, 0] rfl)
        refine lv_if_eq (tgt := 57) hx hb dX10_scan_41 (by decide) (fun c_13 => ?_) (fun c_13 => ?_)
        · skip
          have c_13' : r_9.toInt = 0 := jb_eq (rfl) ((by decide)) c_13
          first | (have hr_9pq := hr_9p.resolve_left (by omega); clear hr_9p) | (have hr_9pq := hr_9p.resolve_right (by omega); clear hr_9p) | try clear hr_9p
          refine lv_aload_n hx hb dX10_scan_57 rfl (lv_at hl 2 rfl) ?_
          refine lv_iload hx hb dX10_scan_58 (lv_at hl 6 rfl) ?_
          refine j7_iald hx hb hK hh_8 hB175 1 rfl (by decide) hg_r1 (x := v5_5.toInt) (rfl) (by omega) dX10_scan_60 (fun z_14 (hz_14 : True) => ?_)
          refine vp_callSi (va_Run.run (va_runSN (As := [.int z_14]) (rest := []) ⟨hx, hb, hml, hown, hts⟩ (wX11_isLetter l dC dI ca base H_8 z_14) ⟨va_cnB 1 hts (jgW (jWr_7 _ (List.mem_of_getElem? (i := 18) rfl))) rfl rfl rfl (hG.2.2.1 RX10 49 yX11_isLetter "ProofServer" (List.mem_of_getElem? (i := 1139) (by decide +kernel))) (htw (.initialized RX11) (jWr_1 _ (List.mem_of_getElem? (i := 2) rfl))) (by decide +kernel) ⟨by rw [← hR]; exact Nat.le_of_ble_eq_true rfl, by rw [← hR]; exact Nat.le_of_ble_eq_true rfl⟩, htw (.static yX11_isLetter) (jWr_7 _ (List.mem_of_getElem? (i := 17) rfl)), trivial⟩ ⟨fun a U g mk q => by obtain ⟨q0, q1, qK, q9⟩ := q; exact ⟨q0, q1, jG.calling g mk a qK, q9⟩, fun U hU hW => ⟨rfl, hU, hG.step hW hU hh_8.1, by first | trivial | omega | (constructor <;> omega)⟩⟩ rfl rfl hl.1 rfl (lv_room (Nat.le_of_ble_eq_true rfl)) dX10_scan_61 ⟨Nat.zero_le _, Nat.zero_le _⟩)) (fun r_15 hr_15 => ?_)
          have hr_15' : r_15.toInt = 0 ∨ r_15.toInt = 1 := jb_01 hr_15
          refine lv_if_eq (tgt := 81) hx hb dX10_scan_64 (by decide) (fun c_16 => ?_) (fun c_16 => ?_)
          · skip
            have c_16' : r_15.toInt = 0 := jb_eq (rfl) ((by decide)) c_16
            refine lv_aload_n hx hb dX10_scan_81 rfl (lv_at hl 2 rfl) ?_
            refine lv_iload hx hb dX10_scan_82 (lv_at hl 6 rfl) ?_
            refine j7_iald hx hb hK hh_8 hB175 1 rfl (by decide) hg_r1 (x := v5_5.toInt) (rfl) (by omega) dX10_scan_84 (fun z_17 (hz_17 : True) => ?_)
            refine lv_bipush (v := 45) hx hb dX10_scan_85 (by decide) ?_
            refine lv_icmp_ne (tgt := 126) hx hb dX10_scan_87 (by decide) (fun c_18 => ?_) (fun c_18 => ?_)
            · skip
              have c_18' : z_17.toInt ≠ 45 := jb_ne (rfl) ((by decide)) c_18
              obtain ⟨f_l1_19, hh_19⟩ := hh_8.cpin hB175 (by decide) (by decide) hg_r1
              clear hh_8
              refine lv_aload_n hx hb dX10_scan_126 rfl (lv_at hl 2 rfl) ?_
              refine lv_iload hx hb dX10_scan_127 (lv_at hl 6 rfl) ?_
              refine j7_ialdM hx hb hK hh_19 hB175 1 rfl (by decide) hg_r1 (x := v5_5.toInt) (rfl) (by omega) (j := 0) rfl dX10_scan_129 (fun z_20 ez_20 (hz_20 : True) => ?_)
              have hqz_20 : z_20.toInt = (f_l1_19 (v5_5.toInt).toNat).toInt := by rw [ez_20]
              refine va_calli (A0 := jA base) (H0 := s.heap) (va_runSN (As := [.int z_20]) (rest := []) ⟨hx, hb, hml, hown, hts⟩ (uX11_isDigitB l dC dI ca base B hB hAp G0 H_8 z_20) ⟨va_cnB 1 hts (jgW (jWr_22 _ (List.mem_of_getElem? (i := 15) rfl))) rfl rfl rfl (hG.2.2.1 RX10 60 yX11_isDigit "ProofServer" (List.mem_of_getElem? (i := 1150) (by decide +kernel))) (htw (.initialized RX11) (jWr_1 _ (List.mem_of_getElem? (i := 2) rfl))) (by decide +kernel) ⟨by rw [← hR]; exact Nat.le_of_ble_eq_true rfl, by rw [← hR]; exact Nat.le_of_ble_eq_true rfl⟩, htw (.static yX11_isDigit) (jWr_22 _ (List.mem_of_getElem? (i := 14) rfl)), trivial⟩ ⟨fun a U g mk q => by obtain ⟨q0, q1, q2, qK, q10, q11⟩ := q; exact ⟨q0, q1, q2, jG.calling g mk a qK, q10, q11⟩, fun U hU hW => ⟨rfl, hU, hh_19.2.1, hG.step hW hU hh_19.1, jP.nil, trivial⟩⟩ rfl rfl hl.1 rfl (lv_room (Nat.le_of_ble_eq_true rfl)) dX10_scan_130 ⟨Nat.zero_le _, Nat.zero_le _⟩) hh_19.1 (fun q _ h => h) (fun q h => h) (fun r_22 u_21 t_21 H_21 locs_21 ht_21 hvm_21 hr_22 hb_21 hz_21 hk_21 hS_21 => ?_)
              rw [ht_21] at hb_21
              obtain ⟨hb_211, hb_212, hb_213, hb_214, hb_215⟩ := hb_21
              have hh_21 : jSt (dC, dI) B base G0 G0 EX10_scanSa9 s.heap 0 0 [(r0, 12, 3, .int wk_5)] [(r1, 175, n1, ca 1, f_l1_19)] [] H_21 locs_21 := ((hh_19.call hb_211 hb_212 hb_213 hb_214 hS_21 rfl (L1 := [(r0, 12, 3, .int wk_5)]) [0] rfl rfl (M1 := [(r1, 175, n1, ca 1, f_l1_19)]) [0] rfl rfl (I1 := []) [] rfl rfl).more hb_215)
              clear hh_19 ht_21 hvm_21 hz_21 hk_21 hS_21 hb_211 hb_212 hb_213 hb_214 hb_215
              obtain ⟨hr_22b, hr_22p⟩ := hr_22
              have hr_22' := jb_01 hr_22b
              refine lv_if_eq (tgt := 152) hx hb dX10_scan_133 (by decide) (fun c_23 => ?_) (fun c_23 => ?_)
              · skip
                have c_23' : r_22.toInt = 0 := jb_eq (rfl) ((by decide)) c_23
                first | (have hr_22pq := hr_22p.resolve_left (by omega); clear hr_22p) | (have hr_22pq := hr_22p.resolve_right (by omega); clear hr_22p) | try clear hr_22p
                refine lv_aload_n hx hb dX10_scan_152 rfl (lv_at hl 2 rfl) ?_
                refine lv_iload hx hb dX10_scan_153 (lv_at hl 6 rfl) ?_
                refine j7_ialdM hx hb hK hh_21 hB175 1 rfl (by decide) hg_r1 (x := v5_5.toInt) (rfl) (by omega) (j := 0) rfl dX10_scan_155 (fun z_24 ez_24 (hz_24 : True) => ?_)
                have hqz_24 : z_24.toInt = (f_l1_19 (v5_5.toInt).toNat).toInt := by rw [ez_24]
                refine vp_callSi (va_Run.run (va_runSN (As := [.int z_24]) (rest := []) ⟨hx, hb, hml, hown, hts⟩ (wX11_isBlank l dC dI ca base H_21 z_24) ⟨va_cnB 1 hts (jgW (jWr_20 _ (List.mem_of_getElem? (i := 0) rfl))) rfl rfl rfl (hG.2.2.1 RX10 63 yX11_isBlank "ProofServer" (List.mem_of_getElem? (i := 1151) (by decide +kernel))) (htw (.initialized RX11) (jWr_1 _ (List.mem_of_getElem? (i := 2) rfl))) (by decide +kernel) ⟨by rw [← hR]; exact Nat.le_of_ble_eq_true rfl, by rw [← hR]; exact Nat.le_of_ble_eq_true rfl⟩, htw (.static yX11_isBlank) (jWr_19 _ (List.mem_of_getElem? (i := 23) rfl)), trivial⟩ ⟨fun a U g mk q => by obtain ⟨q0, q1, qK, q9⟩ := q; exact ⟨q0, q1, jG.calling g mk a qK, q9⟩, fun U hU hW => ⟨rfl, hU, hG.step hW hU hh_21.1, by first | trivial | omega | (constructor <;> omega)⟩⟩ rfl rfl hl.1 rfl (lv_room (Nat.le_of_ble_eq_true rfl)) dX10_scan_156 ⟨Nat.zero_le _, Nat.zero_le _⟩)) (fun r_25 hr_25 => ?_)
                have hr_25' : r_25.toInt = 0 ∨ r_25.toInt = 1 := jb_01 hr_25
                refine lv_if_ne (tgt := 226) hx hb dX10_scan_159 (by decide) (fun c_26 => ?_) (fun c_26 => ?_)
                · skip
                  have c_26' : r_25.toInt ≠ 0 := jb_ne (rfl) ((by decide)) c_26
                  exact C226 z_7 z_7 wk_5 _ _ (hh_21.sub (L1 := [(r0, 12, 3, .int wk_5)]) [0] rfl (M1 := []) [] rfl (I1 := []) [] rfl) (by first | omega | (refine ⟨?_, ?_, ?_, ?_, ?_⟩ <;> (first | omega | rfl | assumption | decide | exact Or.inl rfl | exact Or.inr rfl | (simp only; omega)))) _ (lv_sub hl [1, 2, 3, 4, 5, 6, 0, 0] rfl)
                · skip
                  have c_26' : r_25.toInt = 0 := jb_ne_n (rfl) ((by decide)) c_26
                  refine lv_aload_n hx hb dX10_scan_162 rfl (lv_at hl 2 rfl) ?_
                  refine lv_iload hx hb dX10_scan_163 (lv_at hl 6 rfl) ?_
                  refine j7_ialdM hx hb hK hh_21 hB175 1 rfl (by decide) hg_r1 (x := v5_5.toInt) (rfl) (by omega) (j := 0) rfl dX10_scan_165 (fun z_27 ez_27 (hz_27 : True) => ?_)
                  have hqz_27 : z_27.toInt = (f_l1_19 (v5_5.toInt).toNat).toInt := by rw [ez_27]
                  refine lv_bipush (v := 46) hx hb dX10_scan_166 (by decide) ?_
                  refine lv_icmp_ne (tgt := 178) hx hb dX10_scan_168 (by decide) (fun c_28 => ?_) (fun c_28 => ?_)
                  · skip
                    have c_28' : z_27.toInt ≠ 46 := jb_ne (rfl) ((by decide)) c_28
                    refine lv_aload_n hx hb dX10_scan_178 rfl (lv_at hl 2 rfl) ?_
                    refine lv_iload hx hb dX10_scan_179 (lv_at hl 6 rfl) ?_
                    refine j7_ialdM hx hb hK hh_21 hB175 1 rfl (by decide) hg_r1 (x := v5_5.toInt) (rfl) (by omega) (j := 0) rfl dX10_scan_181 (fun z_29 ez_29 (hz_29 : True) => ?_)
                    have hqz_29 : z_29.toInt = (f_l1_19 (v5_5.toInt).toNat).toInt := by rw [ez_29]
                    refine lv_sipush (v := 128) hx hb dX10_scan_182 (by decide) ?_
                    refine lv_icmp_ge (tgt := 205) hx hb dX10_scan_185 (by decide) (fun c_30 => ?_) (fun c_30 => ?_)
                    · skip
                      have c_30' : z_29.toInt ≥ 128 := jb_ge (rfl) ((by decide)) c_30
                      refine lv_iconst (v := 0) hx hb dX10_scan_205 (by decide) ?_
                      refine lv_istore (lv' := [(7, .int 0), (6, .int z_7), (0, .ref r0), (1, .ref r1), (2, .int a2), (3, .int a3), (4, .int z_3), (5, .int v5_5)]) hx hb dX10_scan_206 hl (by decide) rfl (fun ls hl => ?_)
                      refine lv_aload_n hx hb dX10_scan_208 rfl (lv_at hl 2 rfl) ?_
                      refine lv_iload hx hb dX10_scan_209 (lv_at hl 0 rfl) ?_
                      refine lv_if_eq (tgt := 221) hx hb dX10_scan_211 (by decide) (fun c_31 => ?_) (fun c_31 => ?_)
                      · skip
                        refine lv_iconst (v := 0) hx hb dX10_scan_221 (by decide) ?_
                        refine lv_iconst (v := 0) hx hb dX10_scan_222 (by decide) ?_
                        refine va_callv (A0 := jA base) (H0 := s.heap) (va_runV (As := [.int 0, .int 0]) (rest := []) ⟨hx, hb, hml, hown, hts⟩ (uX10_addB l dC dI ca base B hB hAp hB12 hB101 hB293 G0 H_21 r0 0 0 wk_5) (cwV 2 hts (jgV (jWr_37 _ (List.mem_of_getElem? (i := 7) rfl)) (jWr_37 _ (List.mem_of_getElem? (i := 8) rfl)) (jWr_37 _ (List.mem_of_getElem? (i := 9) rfl)) (jWr_4 _ (List.mem_of_getElem? (i := 14) rfl)) (jWr_37 _ (List.mem_of_getElem? (i := 10) rfl))) rfl rfl rfl (by decide +kernel) ⟨by rw [← hR]; exact Nat.le_of_ble_eq_true rfl, by rw [← hR]; exact Nat.le_of_ble_eq_true rfl⟩) ⟨fun a U g mk q => by obtain ⟨q0, q1, q2, qK, q10, q11, q12⟩ := q; exact ⟨q0, q1, q2, jG.calling g mk a qK, q10, q11, q12⟩, hh_21.recv (C := RX10) (T := TX10) (N := 11) hB12 rfl (by decide) hg_r0 hK, fun U hU hW => ⟨rfl, hU, hh_21.2.1, hG.step hW hU hh_21.1, hg_r0, (hh_21.2.2.1.sub (L1 := [(r0, 12, 3, .int wk_5)]) [0] rfl), by first | omega | (refine ⟨?_, ?_, ?_, ?_⟩ <;> (first | omega | rfl | assumption | decide | exact Or.inl rfl | exact Or.inr rfl | (simp only; omega)))⟩⟩ rfl rfl hl.1 rfl (lv_room (Nat.le_of_ble_eq_true rfl)) dX10_scan_223 ⟨Nat.zero_le _, Nat.zero_le _⟩) hh_21.1 (fun q _ h => h) (fun q h => h) (fun u_32 t_32 H_32 locs_32 ht_32 hvm_32 hr_33 hb_32 hz_32 hk_32 hS_32 => ?_)
                        obtain ⟨qk_32, rfl⟩ : ∃ z, z = u_32 := ⟨_, rfl⟩
                        rw [ht_32] at hb_32
                        obtain ⟨hb_321, hb_322, hb_323, hb_324, hb_325⟩ := hb_32
                        have hh_32 : jSt (dC, dI) B base G0 G0 EX10_scanSa9 s.heap 0 0 [(r0, 12, 3, .int qk_32)] [(r1, 175, n1, ca 1, f_l1_19)] [] H_32 locs_32 := ((hh_21.call hb_321 hb_322 hb_323 hb_324 hS_32 rfl (L1 := []) [] rfl rfl (M1 := [(r1, 175, n1, ca 1, f_l1_19)]) [0] rfl rfl (I1 := []) [] rfl rfl).more hb_325)
                        clear hh_21 ht_32 hvm_32 hz_32 hk_32 hS_32 hb_321 hb_322 hb_323 hb_324 hb_325
                        obtain ⟨hr_33_0, hr_33_1, hr_33_2⟩ := hr_33
                        exact C226 z_7 z_7 qk_32 _ _ (hh_32.sub (L1 := [(r0, 12, 3, .int qk_32)]) [0] rfl (M1 := []) [] rfl (I1 := []) [] rfl) (by first | omega | (refine ⟨?_, ?_, ?_, ?_, ?_⟩ <;> (first | omega | rfl | assumption | decide | exact Or.inl rfl | exact Or.inr rfl | (simp only; omega)))) _ (lv_sub hl [2, 3, 4, 5, 6, 7, 1, 1] rfl)
                      · skip
                        exact absurd c_31 (by decide)
                    · skip
                      have c_30' : z_29.toInt < 128 := jb_ge_n (rfl) ((by decide)) c_30
                      refine va_ldcS hx hb hown rstr66 dX10_scan_188 ?_
                      refine lv_aload_n hx hb dX10_scan_190 rfl (lv_at hl 2 rfl) ?_
                      refine lv_iload hx hb dX10_scan_191 (lv_at hl 6 rfl) ?_
                      refine j7_ialdM hx hb hK hh_21 hB175 1 rfl (by decide) hg_r1 (x := v5_5.toInt) (rfl) (by omega) (j := 0) rfl dX10_scan_193 (fun z_34 ez_34 (hz_34 : True) => ?_)
                      have hqz_34 : z_34.toInt = (f_l1_19 (v5_5.toInt).toNat).toInt := by rw [ez_34]
                      refine lv_i2c hx hb dX10_scan_194 rfl ?_
                      refine lv_topi (fun z_35 ez_35 => ?_)
                      refine vp_callSi (W.runV (As := [.int z_35]) (rest := []) ⟨hx, hb, hml, hown, hts⟩ (wJ0_indexOf_0f7a4 l dC dI ca base H_21 str66 8 z_35) (cwV 1 hts (jgV (jWr_37 _ (List.mem_of_getElem? (i := 11) rfl)) (jWr_37 _ (List.mem_of_getElem? (i := 12) rfl)) (jWr_37 _ (List.mem_of_getElem? (i := 13) rfl)) (jWr_5 _ (List.mem_of_getElem? (i := 15) rfl)) (jWr_37 _ (List.mem_of_getElem? (i := 14) rfl))) rfl rfl rfl (by decide +kernel) ⟨by rw [← hR]; exact Nat.le_of_ble_eq_true rfl, by rw [← hR]; exact Nat.le_of_ble_eq_true rfl⟩) ⟨fun a U g mk q => by obtain ⟨q0, q1, q2, qK, q9⟩ := q; exact ⟨q0, q1, (q2.moved (Vm.Alike.refl U.vm)), jG.calling g mk a qK, q9⟩, jStr_recv hstr66 hh_21.1, fun U hU hW => ⟨rfl, hU, (hstr66.moved hW.alike).kept hh_21.1.2.1, hG.step hW hU hh_21.1, by omega⟩⟩ rfl rfl hl.1 rfl (lv_room (Nat.le_of_ble_eq_true rfl)) dX10_scan_195 ⟨Nat.zero_le _, Nat.zero_le _⟩) (fun r_36 hr_36 => ?_)
                      refine lv_if_lt (tgt := 205) hx hb dX10_scan_198 (by decide) (fun c_37 => ?_) (fun c_37 => ?_)
                      · skip
                        have c_37' : r_36.toInt < 0 := jb_lt (rfl) ((by decide)) c_37
                        refine lv_iconst (v := 0) hx hb dX10_scan_205 (by decide) ?_
                        refine lv_istore (lv' := [(7, .int 0), (6, .int z_7), (0, .ref r0), (1, .ref r1), (2, .int a2), (3, .int a3), (4, .int z_3), (5, .int v5_5)]) hx hb dX10_scan_206 hl (by decide) rfl (fun ls hl => ?_)
                        refine lv_aload_n hx hb dX10_scan_208 rfl (lv_at hl 2 rfl) ?_
                        refine lv_iload hx hb dX10_scan_209 (lv_at hl 0 rfl) ?_
                        refine lv_if_eq (tgt := 221) hx hb dX10_scan_211 (by decide) (fun c_38 => ?_) (fun c_38 => ?_)
                        · skip
                          refine lv_iconst (v := 0) hx hb dX10_scan_221 (by decide) ?_
                          refine lv_iconst (v := 0) hx hb dX10_scan_222 (by decide) ?_
                          refine va_callv (A0 := jA base) (H0 := s.heap) (va_runV (As := [.int 0, .int 0]) (rest := []) ⟨hx, hb, hml, hown, hts⟩ (uX10_addB l dC dI ca base B hB hAp hB12 hB101 hB293 G0 H_21 r0 0 0 wk_5) (cwV 2 hts (jgV (jWr_37 _ (List.mem_of_getElem? (i := 7) rfl)) (jWr_37 _ (List.mem_of_getElem? (i := 8) rfl)) (jWr_37 _ (List.mem_of_getElem? (i := 9) rfl)) (jWr_4 _ (List.mem_of_getElem? (i := 14) rfl)) (jWr_37 _ (List.mem_of_getElem? (i := 10) rfl))) rfl rfl rfl (by decide +kernel) ⟨by rw [← hR]; exact Nat.le_of_ble_eq_true rfl, by rw [← hR]; exact Nat.le_of_ble_eq_true rfl⟩) ⟨fun a U g mk q => by obtain ⟨q0, q1, q2, qK, q10, q11, q12⟩ := q; exact ⟨q0, q1, q2, jG.calling g mk a qK, q10, q11, q12⟩, hh_21.recv (C := RX10) (T := TX10) (N := 11) hB12 rfl (by decide) hg_r0 hK, fun U hU hW => ⟨rfl, hU, hh_21.2.1, hG.step hW hU hh_21.1, hg_r0, (hh_21.2.2.1.sub (L1 := [(r0, 12, 3, .int wk_5)]) [0] rfl), by first | omega | (refine ⟨?_, ?_, ?_, ?_⟩ <;> (first | omega | rfl | assumption | decide | exact Or.inl rfl | exact Or.inr rfl | (simp only; omega)))⟩⟩ rfl rfl hl.1 rfl (lv_room (Nat.le_of_ble_eq_true rfl)) dX10_scan_223 ⟨Nat.zero_le _, Nat.zero_le _⟩) hh_21.1 (fun q _ h => h) (fun q h => h) (fun u_39 t_39 H_39 locs_39 ht_39 hvm_39 hr_40 hb_39 hz_39 hk_39 hS_39 => ?_)
                          obtain ⟨qk_39, rfl⟩ : ∃ z, z = u_39 := ⟨_, rfl⟩
                          rw [ht_39] at hb_39
                          obtain ⟨hb_391, hb_392, hb_393, hb_394, hb_395⟩ := hb_39
                          have hh_39 : jSt (dC, dI) B base G0 G0 EX10_scanSa9 s.heap 0 0 [(r0, 12, 3, .int qk_39)] [(r1, 175, n1, ca 1, f_l1_19)] [] H_39 locs_39 := ((hh_21.call hb_391 hb_392 hb_393 hb_394 hS_39 rfl (L1 := []) [] rfl rfl (M1 := [(r1, 175, n1, ca 1, f_l1_19)]) [0] rfl rfl (I1 := []) [] rfl rfl).more hb_395)
                          clear hh_21 ht_39 hvm_39 hz_39 hk_39 hS_39 hb_391 hb_392 hb_393 hb_394 hb_395
                          obtain ⟨hr_40_0, hr_40_1, hr_40_2⟩ := hr_40
                          exact C226 z_7 z_7 qk_39 _ _ (hh_39.sub (L1 := [(r0, 12, 3, .int qk_39)]) [0] rfl (M1 := []) [] rfl (I1 := []) [] rfl) (by first | omega | (refine ⟨?_, ?_, ?_, ?_, ?_⟩ <;> (first | omega | rfl | assumption | decide | exact Or.inl rfl | exact Or.inr rfl | (simp only; omega)))) _ (lv_sub hl [2, 3, 4, 5, 6, 7, 1, 1] rfl)
                        · skip
                          exact absurd c_38 (by decide)
                      · skip
                        have c_37' : r_36.toInt ≥ 0 := jb_lt_n (rfl) ((by decide)) c_37
                        refine lv_iconst (v := 1) hx hb dX10_scan_201 (by decide) ?_
                        refine lv_goto (tgt := 206) hx hb dX10_scan_202 (by decide) ?_
                        refine lv_istore (lv' := [(7, .int 1), (6, .int z_7), (0, .ref r0), (1, .ref r1), (2, .int a2), (3, .int a3), (4, .int z_3), (5, .int v5_5)]) hx hb dX10_scan_206 hl (by decide) rfl (fun ls hl => ?_)
                        refine lv_aload_n hx hb dX10_scan_208 rfl (lv_at hl 2 rfl) ?_
                        refine lv_iload hx hb dX10_scan_209 (lv_at hl 0 rfl) ?_
                        refine lv_if_eq (tgt := 221) hx hb dX10_scan_211 (by decide) (fun c_41 => ?_) (fun c_41 => ?_)
                        · skip
                          exact absurd c_41 (by decide)
                        · skip
                          refine lv_aload_n hx hb dX10_scan_214 rfl (lv_at hl 3 rfl) ?_
                          refine lv_iload hx hb dX10_scan_215 (lv_at hl 7 rfl) ?_
                          refine j7_ialdM hx hb hK hh_21 hB175 1 rfl (by decide) hg_r1 (x := v5_5.toInt) (rfl) (by omega) (j := 0) rfl dX10_scan_217 (fun z_42 ez_42 (hz_42 : True) => ?_)
                          have hqz_42 : z_42.toInt = (f_l1_19 (v5_5.toInt).toNat).toInt := by rw [ez_42]
                          refine lv_goto (tgt := 222) hx hb dX10_scan_218 (by decide) ?_
                          refine lv_iconst (v := 0) hx hb dX10_scan_222 (by decide) ?_
                          refine va_callv (A0 := jA base) (H0 := s.heap) (va_runV (As := [.int z_42, .int 0]) (rest := []) ⟨hx, hb, hml, hown, hts⟩ (uX10_addB l dC dI ca base B hB hAp hB12 hB101 hB293 G0 H_21 r0 z_42 0 wk_5) (cwV 2 hts (jgV (jWr_37 _ (List.mem_of_getElem? (i := 7) rfl)) (jWr_37 _ (List.mem_of_getElem? (i := 8) rfl)) (jWr_37 _ (List.mem_of_getElem? (i := 9) rfl)) (jWr_4 _ (List.mem_of_getElem? (i := 14) rfl)) (jWr_37 _ (List.mem_of_getElem? (i := 10) rfl))) rfl rfl rfl (by decide +kernel) ⟨by rw [← hR]; exact Nat.le_of_ble_eq_true rfl, by rw [← hR]; exact Nat.le_of_ble_eq_true rfl⟩) ⟨fun a U g mk q => by obtain ⟨q0, q1, q2, qK, q10, q11, q12⟩ := q; exact ⟨q0, q1, q2, jG.calling g mk a qK, q10, q11, q12⟩, hh_21.recv (C := RX10) (T := TX10) (N := 11) hB12 rfl (by decide) hg_r0 hK, fun U hU hW => ⟨rfl, hU, hh_21.2.1, hG.step hW hU hh_21.1, hg_r0, (hh_21.2.2.1.sub (L1 := [(r0, 12, 3, .int wk_5)]) [0] rfl), by first | omega | (refine ⟨?_, ?_, ?_, ?_⟩ <;> (first | omega | rfl | assumption | decide | exact Or.inl rfl | exact Or.inr rfl | (simp only; omega)))⟩⟩ rfl rfl hl.1 rfl (lv_room (Nat.le_of_ble_eq_true rfl)) dX10_scan_223 ⟨Nat.zero_le _, Nat.zero_le _⟩) hh_21.1 (fun q _ h => h) (fun q h => h) (fun u_43 t_43 H_43 locs_43 ht_43 hvm_43 hr_44 hb_43 hz_43 hk_43 hS_43 => ?_)
                          obtain ⟨qk_43, rfl⟩ : ∃ z, z = u_43 := ⟨_, rfl⟩
                          rw [ht_43] at hb_43
                          obtain ⟨hb_431, hb_432, hb_433, hb_434, hb_435⟩ := hb_43
                          have hh_43 : jSt (dC, dI) B base G0 G0 EX10_scanSa9 s.heap 0 0 [(r0, 12, 3, .int qk_43)] [(r1, 175, n1, ca 1, f_l1_19)] [] H_43 locs_43 := ((hh_21.call hb_431 hb_432 hb_433 hb_434 hS_43 rfl (L1 := []) [] rfl rfl (M1 := [(r1, 175, n1, ca 1, f_l1_19)]) [0] rfl rfl (I1 := []) [] rfl rfl).more hb_435)
                          clear hh_21 ht_43 hvm_43 hz_43 hk_43 hS_43 hb_431 hb_432 hb_433 hb_434 hb_435
                          obtain ⟨hr_44_0, hr_44_1, hr_44_2⟩ := hr_44
                          exact C226 z_7 z_7 qk_43 _ _ (hh_43.sub (L1 := [(r0, 12, 3, .int qk_43)]) [0] rfl (M1 := []) [] rfl (I1 := []) [] rfl) (by first | omega | (refine ⟨?_, ?_, ?_, ?_, ?_⟩ <;> (first | omega | rfl | assumption | decide | exact Or.inl rfl | exact Or.inr rfl | (simp only; omega)))) _ (lv_sub hl [2, 3, 4, 5, 6, 7, 1, 1] rfl)
                  · skip
                    have c_28' : z_27.toInt = 46 := jb_ne_n (rfl) ((by decide)) c_28
                    refine lv_iload hx hb dX10_scan_171 (lv_at hl 0 rfl) ?_
                    refine lv_iload hx hb dX10_scan_173 (lv_at hl 5 rfl) ?_
                    refine lv_icmp_eq (tgt := 201) hx hb dX10_scan_175 (by decide) (fun c_45 => ?_) (fun c_45 => ?_)
                    · skip
                      have c_45' : z_7.toInt = z_3.toInt := jb_eq (rfl) (rfl) c_45
                      refine lv_iconst (v := 1) hx hb dX10_scan_201 (by decide) ?_
                      refine lv_goto (tgt := 206) hx hb dX10_scan_202 (by decide) ?_
                      refine lv_istore (lv' := [(7, .int 1), (6, .int z_7), (0, .ref r0), (1, .ref r1), (2, .int a2), (3, .int a3), (4, .int z_3), (5, .int v5_5)]) hx hb dX10_scan_206 hl (by decide) rfl (fun ls hl => ?_)
                      refine lv_aload_n hx hb dX10_scan_208 rfl (lv_at hl 2 rfl) ?_
                      refine lv_iload hx hb dX10_scan_209 (lv_at hl 0 rfl) ?_
                      refine lv_if_eq (tgt := 221) hx hb dX10_scan_211 (by decide) (fun c_46 => ?_) (fun c_46 => ?_)
                      · skip
                        exact absurd c_46 (by decide)
                      · skip
                        refine lv_aload_n hx hb dX10_scan_214 rfl (lv_at hl 3 rfl) ?_
                        refine lv_iload hx hb dX10_scan_215 (lv_at hl 7 rfl) ?_
                        refine j7_ialdM hx hb hK hh_21 hB175 1 rfl (by decide) hg_r1 (x := v5_5.toInt) (rfl) (by omega) (j := 0) rfl dX10_scan_217 (fun z_47 ez_47 (hz_47 : True) => ?_)
                        have hqz_47 : z_47.toInt = (f_l1_19 (v5_5.toInt).toNat).toInt := by rw [ez_47]
                        refine lv_goto (tgt := 222) hx hb dX10_scan_218 (by decide) ?_
                        refine lv_iconst (v := 0) hx hb dX10_scan_222 (by decide) ?_
                        refine va_callv (A0 := jA base) (H0 := s.heap) (va_runV (As := [.int z_47, .int 0]) (rest := []) ⟨hx, hb, hml, hown, hts⟩ (uX10_addB l dC dI ca base B hB hAp hB12 hB101 hB293 G0 H_21 r0 z_47 0 wk_5) (cwV 2 hts (jgV (jWr_37 _ (List.mem_of_getElem? (i := 7) rfl)) (jWr_37 _ (List.mem_of_getElem? (i := 8) rfl)) (jWr_37 _ (List.mem_of_getElem? (i := 9) rfl)) (jWr_4 _ (List.mem_of_getElem? (i := 14) rfl)) (jWr_37 _ (List.mem_of_getElem? (i := 10) rfl))) rfl rfl rfl (by decide +kernel) ⟨by rw [← hR]; exact Nat.le_of_ble_eq_true rfl, by rw [← hR]; exact Nat.le_of_ble_eq_true rfl⟩) ⟨fun a U g mk q => by obtain ⟨q0, q1, q2, qK, q10, q11, q12⟩ := q; exact ⟨q0, q1, q2, jG.calling g mk a qK, q10, q11, q12⟩, hh_21.recv (C := RX10) (T := TX10) (N := 11) hB12 rfl (by decide) hg_r0 hK, fun U hU hW => ⟨rfl, hU, hh_21.2.1, hG.step hW hU hh_21.1, hg_r0, (hh_21.2.2.1.sub (L1 := [(r0, 12, 3, .int wk_5)]) [0] rfl), by first | omega | (refine ⟨?_, ?_, ?_, ?_⟩ <;> (first | omega | rfl | assumption | decide | exact Or.inl rfl | exact Or.inr rfl | (simp only; omega)))⟩⟩ rfl rfl hl.1 rfl (lv_room (Nat.le_of_ble_eq_true rfl)) dX10_scan_223 ⟨Nat.zero_le _, Nat.zero_le _⟩) hh_21.1 (fun q _ h => h) (fun q h => h) (fun u_48 t_48 H_48 locs_48 ht_48 hvm_48 hr_49 hb_48 hz_48 hk_48 hS_48 => ?_)
                        obtain ⟨qk_48, rfl⟩ : ∃ z, z = u_48 := ⟨_, rfl⟩
                        rw [ht_48] at hb_48
                        obtain ⟨hb_481, hb_482, hb_483, hb_484, hb_485⟩ := hb_48
                        have hh_48 : jSt (dC, dI) B base G0 G0 EX10_scanSa9 s.heap 0 0 [(r0, 12, 3, .int qk_48)] [(r1, 175, n1, ca 1, f_l1_19)] [] H_48 locs_48 := ((hh_21.call hb_481 hb_482 hb_483 hb_484 hS_48 rfl (L1 := []) [] rfl rfl (M1 := [(r1, 175, n1, ca 1, f_l1_19)]) [0] rfl rfl (I1 := []) [] rfl rfl).more hb_485)
                        clear hh_21 ht_48 hvm_48 hz_48 hk_48 hS_48 hb_481 hb_482 hb_483 hb_484 hb_485
                        obtain ⟨hr_49_0, hr_49_1, hr_49_2⟩ := hr_49
                        exact C226 z_7 z_7 qk_48 _ _ (hh_48.sub (L1 := [(r0, 12, 3, .int qk_48)]) [0] rfl (M1 := []) [] rfl (I1 := []) [] rfl) (by first | omega | (refine ⟨?_, ?_, ?_, ?_, ?_⟩ <;> (first | omega | rfl | assumption | decide | exact Or.inl rfl | exact Or.inr rfl | (simp only; omega)))) _ (lv_sub hl [2, 3, 4, 5, 6, 7, 1, 1] rfl)
                    · skip
                      have c_45' : z_7.toInt ≠ z_3.toInt := jb_eq_n (rfl) (rfl) c_45
                      refine lv_aload_n hx hb dX10_scan_178 rfl (lv_at hl 2 rfl) ?_
                      refine lv_iload hx hb dX10_scan_179 (lv_at hl 6 rfl) ?_
                      refine j7_ialdM hx hb hK hh_21 hB175 1 rfl (by decide) hg_r1 (x := v5_5.toInt) (rfl) (by omega) (j := 0) rfl dX10_scan_181 (fun z_50 ez_50 (hz_50 : True) => ?_)
                      have hqz_50 : z_50.toInt = (f_l1_19 (v5_5.toInt).toNat).toInt := by rw [ez_50]
                      refine lv_sipush (v := 128) hx hb dX10_scan_182 (by decide) ?_
                      refine lv_icmp_ge (tgt := 205) hx hb dX10_scan_185 (by decide) (fun c_51 => ?_) (fun c_51 => ?_)
                      · skip
                        have c_51' : z_50.toInt ≥ 128 := jb_ge (rfl) ((by decide)) c_51
                        refine lv_iconst (v := 0) hx hb dX10_scan_205 (by decide) ?_
                        refine lv_istore (lv' := [(7, .int 0), (6, .int z_7), (0, .ref r0), (1, .ref r1), (2, .int a2), (3, .int a3), (4, .int z_3), (5, .int v5_5)]) hx hb dX10_scan_206 hl (by decide) rfl (fun ls hl => ?_)
                        refine lv_aload_n hx hb dX10_scan_208 rfl (lv_at hl 2 rfl) ?_
                        refine lv_iload hx hb dX10_scan_209 (lv_at hl 0 rfl) ?_
                        refine lv_if_eq (tgt := 221) hx hb dX10_scan_211 (by decide) (fun c_52 => ?_) (fun c_52 => ?_)
                        · skip
                          refine lv_iconst (v := 0) hx hb dX10_scan_221 (by decide) ?_
                          refine lv_iconst (v := 0) hx hb dX10_scan_222 (by decide) ?_
                          refine va_callv (A0 := jA base) (H0 := s.heap) (va_runV (As := [.int 0, .int 0]) (rest := []) ⟨hx, hb, hml, hown, hts⟩ (uX10_addB l dC dI ca base B hB hAp hB12 hB101 hB293 G0 H_21 r0 0 0 wk_5) (cwV 2 hts (jgV (jWr_37 _ (List.mem_of_getElem? (i := 7) rfl)) (jWr_37 _ (List.mem_of_getElem? (i := 8) rfl)) (jWr_37 _ (List.mem_of_getElem? (i := 9) rfl)) (jWr_4 _ (List.mem_of_getElem? (i := 14) rfl)) (jWr_37 _ (List.mem_of_getElem? (i := 10) rfl))) rfl rfl rfl (by decide +kernel) ⟨by rw [← hR]; exact Nat.le_of_ble_eq_true rfl, by rw [← hR]; exact Nat.le_of_ble_eq_true rfl⟩) ⟨fun a U g mk q => by obtain ⟨q0, q1, q2, qK, q10, q11, q12⟩ := q; exact ⟨q0, q1, q2, jG.calling g mk a qK, q10, q11, q12⟩, hh_21.recv (C := RX10) (T := TX10) (N := 11) hB12 rfl (by decide) hg_r0 hK, fun U hU hW => ⟨rfl, hU, hh_21.2.1, hG.step hW hU hh_21.1, hg_r0, (hh_21.2.2.1.sub (L1 := [(r0, 12, 3, .int wk_5)]) [0] rfl), by first | omega | (refine ⟨?_, ?_, ?_, ?_⟩ <;> (first | omega | rfl | assumption | decide | exact Or.inl rfl | exact Or.inr rfl | (simp only; omega)))⟩⟩ rfl rfl hl.1 rfl (lv_room (Nat.le_of_ble_eq_true rfl)) dX10_scan_223 ⟨Nat.zero_le _, Nat.zero_le _⟩) hh_21.1 (fun q _ h => h) (fun q h => h) (fun u_53 t_53 H_53 locs_53 ht_53 hvm_53 hr_54 hb_53 hz_53 hk_53 hS_53 => ?_)
                          obtain ⟨qk_53, rfl⟩ : ∃ z, z = u_53 := ⟨_, rfl⟩
                          rw [ht_53] at hb_53
                          obtain ⟨hb_531, hb_532, hb_533, hb_534, hb_535⟩ := hb_53
                          have hh_53 : jSt (dC, dI) B base G0 G0 EX10_scanSa9 s.heap 0 0 [(r0, 12, 3, .int qk_53)] [(r1, 175, n1, ca 1, f_l1_19)] [] H_53 locs_53 := ((hh_21.call hb_531 hb_532 hb_533 hb_534 hS_53 rfl (L1 := []) [] rfl rfl (M1 := [(r1, 175, n1, ca 1, f_l1_19)]) [0] rfl rfl (I1 := []) [] rfl rfl).more hb_535)
                          clear hh_21 ht_53 hvm_53 hz_53 hk_53 hS_53 hb_531 hb_532 hb_533 hb_534 hb_535
                          obtain ⟨hr_54_0, hr_54_1, hr_54_2⟩ := hr_54
                          exact C226 z_7 z_7 qk_53 _ _ (hh_53.sub (L1 := [(r0, 12, 3, .int qk_53)]) [0] rfl (M1 := []) [] rfl (I1 := []) [] rfl) (by first | omega | (refine ⟨?_, ?_, ?_, ?_, ?_⟩ <;> (first | omega | rfl | assumption | decide | exact Or.inl rfl | exact Or.inr rfl | (simp only; omega)))) _ (lv_sub hl [2, 3, 4, 5, 6, 7, 1, 1] rfl)
                        · skip
                          exact absurd c_52 (by decide)
                      · skip
                        have c_51' : z_50.toInt < 128 := jb_ge_n (rfl) ((by decide)) c_51
                        refine va_ldcS hx hb hown rstr66 dX10_scan_188 ?_
                        refine lv_aload_n hx hb dX10_scan_190 rfl (lv_at hl 2 rfl) ?_
                        refine lv_iload hx hb dX10_scan_191 (lv_at hl 6 rfl) ?_
                        refine j7_ialdM hx hb hK hh_21 hB175 1 rfl (by decide) hg_r1 (x := v5_5.toInt) (rfl) (by omega) (j := 0) rfl dX10_scan_193 (fun z_55 ez_55 (hz_55 : True) => ?_)
                        have hqz_55 : z_55.toInt = (f_l1_19 (v5_5.toInt).toNat).toInt := by rw [ez_55]
                        refine lv_i2c hx hb dX10_scan_194 rfl ?_
                        refine lv_topi (fun z_56 ez_56 => ?_)
                        refine vp_callSi (W.runV (As := [.int z_56]) (rest := []) ⟨hx, hb, hml, hown, hts⟩ (wJ0_indexOf_0f7a4 l dC dI ca base H_21 str66 8 z_56) (cwV 1 hts (jgV (jWr_37 _ (List.mem_of_getElem? (i := 11) rfl)) (jWr_37 _ (List.mem_of_getElem? (i := 12) rfl)) (jWr_37 _ (List.mem_of_getElem? (i := 13) rfl)) (jWr_5 _ (List.mem_of_getElem? (i := 15) rfl)) (jWr_37 _ (List.mem_of_getElem? (i := 14) rfl))) rfl rfl rfl (by decide +kernel) ⟨by rw [← hR]; exact Nat.le_of_ble_eq_true rfl, by rw [← hR]; exact Nat.le_of_ble_eq_true rfl⟩) ⟨fun a U g mk q => by obtain ⟨q0, q1, q2, qK, q9⟩ := q; exact ⟨q0, q1, (q2.moved (Vm.Alike.refl U.vm)), jG.calling g mk a qK, q9⟩, jStr_recv hstr66 hh_21.1, fun U hU hW => ⟨rfl, hU, (hstr66.moved hW.alike).kept hh_21.1.2.1, hG.step hW hU hh_21.1, by omega⟩⟩ rfl rfl hl.1 rfl (lv_room (Nat.le_of_ble_eq_true rfl)) dX10_scan_195 ⟨Nat.zero_le _, Nat.zero_le _⟩) (fun r_57 hr_57 => ?_)
                        refine lv_if_lt (tgt := 205) hx hb dX10_scan_198 (by decide) (fun c_58 => ?_) (fun c_58 => ?_)
                        · skip
                          have c_58' : r_57.toInt < 0 := jb_lt (rfl) ((by decide)) c_58
                          refine lv_iconst (v := 0) hx hb dX10_scan_205 (by decide) ?_
                          refine lv_istore (lv' := [(7, .int 0), (6, .int z_7), (0, .ref r0), (1, .ref r1), (2, .int a2), (3, .int a3), (4, .int z_3), (5, .int v5_5)]) hx hb dX10_scan_206 hl (by decide) rfl (fun ls hl => ?_)
                          refine lv_aload_n hx hb dX10_scan_208 rfl (lv_at hl 2 rfl) ?_
                          refine lv_iload hx hb dX10_scan_209 (lv_at hl 0 rfl) ?_
                          refine lv_if_eq (tgt := 221) hx hb dX10_scan_211 (by decide) (fun c_59 => ?_) (fun c_59 => ?_)
                          · skip
                            refine lv_iconst (v := 0) hx hb dX10_scan_221 (by decide) ?_
                            refine lv_iconst (v := 0) hx hb dX10_scan_222 (by decide) ?_
                            refine va_callv (A0 := jA base) (H0 := s.heap) (va_runV (As := [.int 0, .int 0]) (rest := []) ⟨hx, hb, hml, hown, hts⟩ (uX10_addB l dC dI ca base B hB hAp hB12 hB101 hB293 G0 H_21 r0 0 0 wk_5) (cwV 2 hts (jgV (jWr_37 _ (List.mem_of_getElem? (i := 7) rfl)) (jWr_37 _ (List.mem_of_getElem? (i := 8) rfl)) (jWr_37 _ (List.mem_of_getElem? (i := 9) rfl)) (jWr_4 _ (List.mem_of_getElem? (i := 14) rfl)) (jWr_37 _ (List.mem_of_getElem? (i := 10) rfl))) rfl rfl rfl (by decide +kernel) ⟨by rw [← hR]; exact Nat.le_of_ble_eq_true rfl, by rw [← hR]; exact Nat.le_of_ble_eq_true rfl⟩) ⟨fun a U g mk q => by obtain ⟨q0, q1, q2, qK, q10, q11, q12⟩ := q; exact ⟨q0, q1, q2, jG.calling g mk a qK, q10, q11, q12⟩, hh_21.recv (C := RX10) (T := TX10) (N := 11) hB12 rfl (by decide) hg_r0 hK, fun U hU hW => ⟨rfl, hU, hh_21.2.1, hG.step hW hU hh_21.1, hg_r0, (hh_21.2.2.1.sub (L1 := [(r0, 12, 3, .int wk_5)]) [0] rfl), by first | omega | (refine ⟨?_, ?_, ?_, ?_⟩ <;> (first | omega | rfl | assumption | decide | exact Or.inl rfl | exact Or.inr rfl | (simp only; omega)))⟩⟩ rfl rfl hl.1 rfl (lv_room (Nat.le_of_ble_eq_true rfl)) dX10_scan_223 ⟨Nat.zero_le _, Nat.zero_le _⟩) hh_21.1 (fun q _ h => h) (fun q h => h) (fun u_60 t_60 H_60 locs_60 ht_60 hvm_60 hr_61 hb_60 hz_60 hk_60 hS_60 => ?_)
                            obtain ⟨qk_60, rfl⟩ : ∃ z, z = u_60 := ⟨_, rfl⟩
                            rw [ht_60] at hb_60
                            obtain ⟨hb_601, hb_602, hb_603, hb_604, hb_605⟩ := hb_60
                            have hh_60 : jSt (dC, dI) B base G0 G0 EX10_scanSa9 s.heap 0 0 [(r0, 12, 3, .int qk_60)] [(r1, 175, n1, ca 1, f_l1_19)] [] H_60 locs_60 := ((hh_21.call hb_601 hb_602 hb_603 hb_604 hS_60 rfl (L1 := []) [] rfl rfl (M1 := [(r1, 175, n1, ca 1, f_l1_19)]) [0] rfl rfl (I1 := []) [] rfl rfl).more hb_605)
                            clear hh_21 ht_60 hvm_60 hz_60 hk_60 hS_60 hb_601 hb_602 hb_603 hb_604 hb_605
                            obtain ⟨hr_61_0, hr_61_1, hr_61_2⟩ := hr_61
                            exact C226 z_7 z_7 qk_60 _ _ (hh_60.sub (L1 := [(r0, 12, 3, .int qk_60)]) [0] rfl (M1 := []) [] rfl (I1 := []) [] rfl) (by first | omega | (refine ⟨?_, ?_, ?_, ?_, ?_⟩ <;> (first | omega | rfl | assumption | decide | exact Or.inl rfl | exact Or.inr rfl | (simp only; omega)))) _ (lv_sub hl [2, 3, 4, 5, 6, 7, 1, 1] rfl)
                          · skip
                            exact absurd c_59 (by decide)
                        · skip
                          have c_58' : r_57.toInt ≥ 0 := jb_lt_n (rfl) ((by decide)) c_58
                          refine lv_iconst (v := 1) hx hb dX10_scan_201 (by decide) ?_
                          refine lv_goto (tgt := 206) hx hb dX10_scan_202 (by decide) ?_
                          refine lv_istore (lv' := [(7, .int 1), (6, .int z_7), (0, .ref r0), (1, .ref r1), (2, .int a2), (3, .int a3), (4, .int z_3), (5, .int v5_5)]) hx hb dX10_scan_206 hl (by decide) rfl (fun ls hl => ?_)
                          refine lv_aload_n hx hb dX10_scan_208 rfl (lv_at hl 2 rfl) ?_
                          refine lv_iload hx hb dX10_scan_209 (lv_at hl 0 rfl) ?_
                          refine lv_if_eq (tgt := 221) hx hb dX10_scan_211 (by decide) (fun c_62 => ?_) (fun c_62 => ?_)
                          · skip
                            exact absurd c_62 (by decide)
                          · skip
                            refine lv_aload_n hx hb dX10_scan_214 rfl (lv_at hl 3 rfl) ?_
                            refine lv_iload hx hb dX10_scan_215 (lv_at hl 7 rfl) ?_
                            refine j7_ialdM hx hb hK hh_21 hB175 1 rfl (by decide) hg_r1 (x := v5_5.toInt) (rfl) (by omega) (j := 0) rfl dX10_scan_217 (fun z_63 ez_63 (hz_63 : True) => ?_)
                            have hqz_63 : z_63.toInt = (f_l1_19 (v5_5.toInt).toNat).toInt := by rw [ez_63]
                            refine lv_goto (tgt := 222) hx hb dX10_scan_218 (by decide) ?_
                            refine lv_iconst (v := 0) hx hb dX10_scan_222 (by decide) ?_
                            refine va_callv (A0 := jA base) (H0 := s.heap) (va_runV (As := [.int z_63, .int 0]) (rest := []) ⟨hx, hb, hml, hown, hts⟩ (uX10_addB l dC dI ca base B hB hAp hB12 hB101 hB293 G0 H_21 r0 z_63 0 wk_5) (cwV 2 hts (jgV (jWr_37 _ (List.mem_of_getElem? (i := 7) rfl)) (jWr_37 _ (List.mem_of_getElem? (i := 8) rfl)) (jWr_37 _ (List.mem_of_getElem? (i := 9) rfl)) (jWr_4 _ (List.mem_of_getElem? (i := 14) rfl)) (jWr_37 _ (List.mem_of_getElem? (i := 10) rfl))) rfl rfl rfl (by decide +kernel) ⟨by rw [← hR]; exact Nat.le_of_ble_eq_true rfl, by rw [← hR]; exact Nat.le_of_ble_eq_true rfl⟩) ⟨fun a U g mk q => by obtain ⟨q0, q1, q2, qK, q10, q11, q12⟩ := q; exact ⟨q0, q1, q2, jG.calling g mk a qK, q10, q11, q12⟩, hh_21.recv (C := RX10) (T := TX10) (N := 11) hB12 rfl (by decide) hg_r0 hK, fun U hU hW => ⟨rfl, hU, hh_21.2.1, hG.step hW hU hh_21.1, hg_r0, (hh_21.2.2.1.sub (L1 := [(r0, 12, 3, .int wk_5)]) [0] rfl), by first | omega | (refine ⟨?_, ?_, ?_, ?_⟩ <;> (first | omega | rfl | assumption | decide | exact Or.inl rfl | exact Or.inr rfl | (simp only; omega)))⟩⟩ rfl rfl hl.1 rfl (lv_room (Nat.le_of_ble_eq_true rfl)) dX10_scan_223 ⟨Nat.zero_le _, Nat.zero_le _⟩) hh_21.1 (fun q _ h => h) (fun q h => h) (fun u_64 t_64 H_64 locs_64 ht_64 hvm_64 hr_65 hb_64 hz_64 hk_64 hS_64 => ?_)
                            obtain ⟨qk_64, rfl⟩ : ∃ z, z = u_64 := ⟨_, rfl⟩
                            rw [ht_64] at hb_64
                            obtain ⟨hb_641, hb_642, hb_643, hb_644, hb_645⟩ := hb_64
                            have hh_64 : jSt (dC, dI) B base G0 G0 EX10_scanSa9 s.heap 0 0 [(r0, 12, 3, .int qk_64)] [(r1, 175, n1, ca 1, f_l1_19)] [] H_64 locs_64 := ((hh_21.call hb_641 hb_642 hb_643 hb_644 hS_64 rfl (L1 := []) [] rfl rfl (M1 := [(r1, 175, n1, ca 1, f_l1_19)]) [0] rfl rfl (I1 := []) [] rfl rfl).more hb_645)
                            clear hh_21 ht_64 hvm_64 hz_64 hk_64 hS_64 hb_641 hb_642 hb_643 hb_644 hb_645
                            obtain ⟨hr_65_0, hr_65_1, hr_65_2⟩ := hr_65
                            exact C226 z_7 z_7 qk_64 _ _ (hh_64.sub (L1 := [(r0, 12, 3, .int qk_64)]) [0] rfl (M1 := []) [] rfl (I1 := []) [] rfl) (by first | omega | (refine ⟨?_, ?_, ?_, ?_, ?_⟩ <;> (first | omega | rfl | assumption | decide | exact Or.inl rfl | exact Or.inr rfl | (simp only; omega)))) _ (lv_sub hl [2, 3, 4, 5, 6, 7, 1, 1] rfl)
              · skip
                have c_23' : r_22.toInt ≠ 0 := jb_eq_n (rfl) ((by decide)) c_23
                first | (have hr_22pq := hr_22p.resolve_left (by omega); clear hr_22p) | (have hr_22pq := hr_22p.resolve_right (by omega); clear hr_22p) | try clear hr_22p
                refine lv_aload_n hx hb dX10_scan_136 rfl (lv_at hl 1 rfl) ?_
                refine lv_bipush (v := 100) hx hb dX10_scan_137 (by decide) ?_
                refine lv_aload_n hx hb dX10_scan_139 rfl (lv_at hl 2 rfl) ?_
                refine lv_iload hx hb dX10_scan_140 (lv_at hl 6 rfl) ?_
                refine j7_ialdM hx hb hK hh_21 hB175 1 rfl (by decide) hg_r1 (x := v5_5.toInt) (rfl) (by omega) (j := 0) rfl dX10_scan_142 (fun z_66 ez_66 (hz_66 : True) => ?_)
                have hqz_66 : z_66.toInt = (f_l1_19 (v5_5.toInt).toNat).toInt := by rw [ez_66]
                refine lv_bipush (v := 48) hx hb dX10_scan_143 (by decide) ?_
                refine lv_isub hx hb dX10_scan_145 ?_
                refine lv_topi (fun z_67 ez_67 => ?_)
                have hz_67 : z_67.toInt = z_66.toInt - 48 := by rw [ez_67]; exact jb_isub2 (rfl) ((by decide)) (by omega)
                refine va_callv (A0 := jA base) (H0 := s.heap) (va_runV (As := [.int 100, .int z_67]) (rest := []) ⟨hx, hb, hml, hown, hts⟩ (uX10_addB l dC dI ca base B hB hAp hB12 hB101 hB293 G0 H_21 r0 100 z_67 wk_5) (cwV 2 hts (jgV (jWr_37 _ (List.mem_of_getElem? (i := 7) rfl)) (jWr_37 _ (List.mem_of_getElem? (i := 8) rfl)) (jWr_37 _ (List.mem_of_getElem? (i := 9) rfl)) (jWr_4 _ (List.mem_of_getElem? (i := 14) rfl)) (jWr_37 _ (List.mem_of_getElem? (i := 10) rfl))) rfl rfl rfl (by decide +kernel) ⟨by rw [← hR]; exact Nat.le_of_ble_eq_true rfl, by rw [← hR]; exact Nat.le_of_ble_eq_true rfl⟩) ⟨fun a U g mk q => by obtain ⟨q0, q1, q2, qK, q10, q11, q12⟩ := q; exact ⟨q0, q1, q2, jG.calling g mk a qK, q10, q11, q12⟩, hh_21.recv (C := RX10) (T := TX10) (N := 11) hB12 rfl (by decide) hg_r0 hK, fun U hU hW => ⟨rfl, hU, hh_21.2.1, hG.step hW hU hh_21.1, hg_r0, (hh_21.2.2.1.sub (L1 := [(r0, 12, 3, .int wk_5)]) [0] rfl), by first | omega | (refine ⟨?_, ?_, ?_, ?_⟩ <;> (first | omega | rfl | assumption | decide | exact Or.inl rfl | exact Or.inr rfl | (simp only; omega)))⟩⟩ rfl rfl hl.1 rfl (lv_room (Nat.le_of_ble_eq_true rfl)) dX10_scan_146 ⟨Nat.zero_le _, Nat.zero_le _⟩) hh_21.1 (fun q _ h => h) (fun q h => h) (fun u_68 t_68 H_68 locs_68 ht_68 hvm_68 hr_69 hb_68 hz_68 hk_68 hS_68 => ?_)
                obtain ⟨qk_68, rfl⟩ : ∃ z, z = u_68 := ⟨_, rfl⟩
                rw [ht_68] at hb_68
                obtain ⟨hb_681, hb_682, hb_683, hb_684, hb_685⟩ := hb_68
                have hh_68 : jSt (dC, dI) B base G0 G0 EX10_scanSa9 s.heap 0 0 [(r0, 12, 3, .int qk_68)] [(r1, 175, n1, ca 1, f_l1_19)] [] H_68 locs_68 := ((hh_21.call hb_681 hb_682 hb_683 hb_684 hS_68 rfl (L1 := []) [] rfl rfl (M1 := [(r1, 175, n1, ca 1, f_l1_19)]) [0] rfl rfl (I1 := []) [] rfl rfl).more hb_685)
                clear hh_21 ht_68 hvm_68 hz_68 hk_68 hS_68 hb_681 hb_682 hb_683 hb_684 hb_685
                obtain ⟨hr_69_0, hr_69_1, hr_69_2⟩ := hr_69
                refine lv_goto (tgt := 226) hx hb dX10_scan_149 (by decide) ?_
                exact C226 z_7 z_7 qk_68 _ _ (hh_68.sub (L1 := [(r0, 12, 3, .int qk_68)]) [0] rfl (M1 := []) [] rfl (I1 := []) [] rfl) (by first | omega | (refine ⟨?_, ?_, ?_, ?_, ?_⟩ <;> (first | omega | rfl | assumption | decide | exact Or.inl rfl | exact Or.inr rfl | (simp only; omega)))) _ (lv_sub hl [1, 2, 3, 4, 5, 6, 0, 0] rfl)
            · skip
              have c_18' : z_17.toInt = 45 := jb_ne_n (rfl) ((by decide)) c_18
              refine lv_iload hx hb dX10_scan_90 (lv_at hl 6 rfl) ?_
              refine lv_iconst (v := 1) hx hb dX10_scan_92 (by decide) ?_
              refine lv_iadd hx hb dX10_scan_93 ?_
              refine lv_topi (fun z_70 ez_70 => ?_)
              have hz_70 : z_70.toInt = v5_5.toInt + 1 := by rw [ez_70]; exact jb_iadd2 (rfl) ((by decide)) (by omega)
              refine lv_iload hx hb dX10_scan_94 (lv_at hl 5 rfl) ?_
              refine lv_icmp_ge (tgt := 126) hx hb dX10_scan_96 (by decide) (fun c_71 => ?_) (fun c_71 => ?_)
              · skip
                have c_71' : z_70.toInt ≥ z_3.toInt := jb_ge (rfl) (rfl) c_71
                obtain ⟨f_l1_72, hh_72⟩ := hh_8.cpin hB175 (by decide) (by decide) hg_r1
                clear hh_8
                refine lv_aload_n hx hb dX10_scan_126 rfl (lv_at hl 2 rfl) ?_
                refine lv_iload hx hb dX10_scan_127 (lv_at hl 6 rfl) ?_
                refine j7_ialdM hx hb hK hh_72 hB175 1 rfl (by decide) hg_r1 (x := v5_5.toInt) (rfl) (by omega) (j := 0) rfl dX10_scan_129 (fun z_73 ez_73 (hz_73 : True) => ?_)
                have hqz_73 : z_73.toInt = (f_l1_72 (v5_5.toInt).toNat).toInt := by rw [ez_73]
                refine va_calli (A0 := jA base) (H0 := s.heap) (va_runSN (As := [.int z_73]) (rest := []) ⟨hx, hb, hml, hown, hts⟩ (uX11_isDigitB l dC dI ca base B hB hAp G0 H_8 z_73) ⟨va_cnB 1 hts (jgW (jWr_22 _ (List.mem_of_getElem? (i := 15) rfl))) rfl rfl rfl (hG.2.2.1 RX10 60 yX11_isDigit "ProofServer" (List.mem_of_getElem? (i := 1150) (by decide +kernel))) (htw (.initialized RX11) (jWr_1 _ (List.mem_of_getElem? (i := 2) rfl))) (by decide +kernel) ⟨by rw [← hR]; exact Nat.le_of_ble_eq_true rfl, by rw [← hR]; exact Nat.le_of_ble_eq_true rfl⟩, htw (.static yX11_isDigit) (jWr_22 _ (List.mem_of_getElem? (i := 14) rfl)), trivial⟩ ⟨fun a U g mk q => by obtain ⟨q0, q1, q2, qK, q10, q11⟩ := q; exact ⟨q0, q1, q2, jG.calling g mk a qK, q10, q11⟩, fun U hU hW => ⟨rfl, hU, hh_72.2.1, hG.step hW hU hh_72.1, jP.nil, trivial⟩⟩ rfl rfl hl.1 rfl (lv_room (Nat.le_of_ble_eq_true rfl)) dX10_scan_130 ⟨Nat.zero_le _, Nat.zero_le _⟩) hh_72.1 (fun q _ h => h) (fun q h => h) (fun r_75 u_74 t_74 H_74 locs_74 ht_74 hvm_74 hr_75 hb_74 hz_74 hk_74 hS_74 => ?_)
                rw [ht_74] at hb_74
                obtain ⟨hb_741, hb_742, hb_743, hb_744, hb_745⟩ := hb_74
                have hh_74 : jSt (dC, dI) B base G0 G0 EX10_scanSa9 s.heap 0 0 [(r0, 12, 3, .int wk_5)] [(r1, 175, n1, ca 1, f_l1_72)] [] H_74 locs_74 := ((hh_72.call hb_741 hb_742 hb_743 hb_744 hS_74 rfl (L1 := [(r0, 12, 3, .int wk_5)]) [0] rfl rfl (M1 := [(r1, 175, n1, ca 1, f_l1_72)]) [0] rfl rfl (I1 := []) [] rfl rfl).more hb_745)
                clear hh_72 ht_74 hvm_74 hz_74 hk_74 hS_74 hb_741 hb_742 hb_743 hb_744 hb_745
                obtain ⟨hr_75b, hr_75p⟩ := hr_75
                have hr_75' := jb_01 hr_75b
                refine lv_if_eq (tgt := 152) hx hb dX10_scan_133 (by decide) (fun c_76 => ?_) (fun c_76 => ?_)
                · skip
                  have c_76' : r_75.toInt = 0 := jb_eq (rfl) ((by decide)) c_76
                  first | (have hr_75pq := hr_75p.resolve_left (by omega); clear hr_75p) | (have hr_75pq := hr_75p.resolve_right (by omega); clear hr_75p) | try clear hr_75p
                  refine lv_aload_n hx hb dX10_scan_152 rfl (lv_at hl 2 rfl) ?_
                  refine lv_iload hx hb dX10_scan_153 (lv_at hl 6 rfl) ?_
                  refine j7_ialdM hx hb hK hh_74 hB175 1 rfl (by decide) hg_r1 (x := v5_5.toInt) (rfl) (by omega) (j := 0) rfl dX10_scan_155 (fun z_77 ez_77 (hz_77 : True) => ?_)
                  have hqz_77 : z_77.toInt = (f_l1_72 (v5_5.toInt).toNat).toInt := by rw [ez_77]
                  refine vp_callSi (va_Run.run (va_runSN (As := [.int z_77]) (rest := []) ⟨hx, hb, hml, hown, hts⟩ (wX11_isBlank l dC dI ca base H_74 z_77) ⟨va_cnB 1 hts (jgW (jWr_20 _ (List.mem_of_getElem? (i := 0) rfl))) rfl rfl rfl (hG.2.2.1 RX10 63 yX11_isBlank "ProofServer" (List.mem_of_getElem? (i := 1151) (by decide +kernel))) (htw (.initialized RX11) (jWr_1 _ (List.mem_of_getElem? (i := 2) rfl))) (by decide +kernel) ⟨by rw [← hR]; exact Nat.le_of_ble_eq_true rfl, by rw [← hR]; exact Nat.le_of_ble_eq_true rfl⟩, htw (.static yX11_isBlank) (jWr_19 _ (List.mem_of_getElem? (i := 23) rfl)), trivial⟩ ⟨fun a U g mk q => by obtain ⟨q0, q1, qK, q9⟩ := q; exact ⟨q0, q1, jG.calling g mk a qK, q9⟩, fun U hU hW => ⟨rfl, hU, hG.step hW hU hh_74.1, by first | trivial | omega | (constructor <;> omega)⟩⟩ rfl rfl hl.1 rfl (lv_room (Nat.le_of_ble_eq_true rfl)) dX10_scan_156 ⟨Nat.zero_le _, Nat.zero_le _⟩)) (fun r_78 hr_78 => ?_)
                  have hr_78' : r_78.toInt = 0 ∨ r_78.toInt = 1 := jb_01 hr_78
                  refine lv_if_ne (tgt := 226) hx hb dX10_scan_159 (by decide) (fun c_79 => ?_) (fun c_79 => ?_)
                  · skip
                    have c_79' : r_78.toInt ≠ 0 := jb_ne (rfl) ((by decide)) c_79
                    exact C226 z_7 z_7 wk_5 _ _ (hh_74.sub (L1 := [(r0, 12, 3, .int wk_5)]) [0] rfl (M1 := []) [] rfl (I1 := []) [] rfl) (by first | omega | (refine ⟨?_, ?_, ?_, ?_, ?_⟩ <;> (first | omega | rfl | assumption | decide | exact Or.inl rfl | exact Or.inr rfl | (simp only; omega)))) _ (lv_sub hl [1, 2, 3, 4, 5, 6, 0, 0] rfl)
                  · skip
                    have c_79' : r_78.toInt = 0 := jb_ne_n (rfl) ((by decide)) c_79
                    refine lv_aload_n hx hb dX10_scan_162 rfl (lv_at hl 2 rfl) ?_
                    refine lv_iload hx hb dX10_scan_163 (lv_at hl 6 rfl) ?_
                    refine j7_ialdM hx hb hK hh_74 hB175 1 rfl (by decide) hg_r1 (x := v5_5.toInt) (rfl) (by omega) (j := 0) rfl dX10_scan_165 (fun z_80 ez_80 (hz_80 : True) => ?_)
                    have hqz_80 : z_80.toInt = (f_l1_72 (v5_5.toInt).toNat).toInt := by rw [ez_80]
                    refine lv_bipush (v := 46) hx hb dX10_scan_166 (by decide) ?_
                    refine lv_icmp_ne (tgt := 178) hx hb dX10_scan_168 (by decide) (fun c_81 => ?_) (fun c_81 => ?_)
                    · skip
                      have c_81' : z_80.toInt ≠ 46 := jb_ne (rfl) ((by decide)) c_81
                      refine lv_aload_n hx hb dX10_scan_178 rfl (lv_at hl 2 rfl) ?_
                      refine lv_iload hx hb dX10_scan_179 (lv_at hl 6 rfl) ?_
                      refine j7_ialdM hx hb hK hh_74 hB175 1 rfl (by decide) hg_r1 (x := v5_5.toInt) (rfl) (by omega) (j := 0) rfl dX10_scan_181 (fun z_82 ez_82 (hz_82 : True) => ?_)
                      have hqz_82 : z_82.toInt = (f_l1_72 (v5_5.toInt).toNat).toInt := by rw [ez_82]
                      refine lv_sipush (v := 128) hx hb dX10_scan_182 (by decide) ?_
                      refine lv_icmp_ge (tgt := 205) hx hb dX10_scan_185 (by decide) (fun c_83 => ?_) (fun c_83 => ?_)
                      · skip
                        have c_83' : z_82.toInt ≥ 128 := jb_ge (rfl) ((by decide)) c_83
                        refine lv_iconst (v := 0) hx hb dX10_scan_205 (by decide) ?_
                        refine lv_istore (lv' := [(7, .int 0), (6, .int z_7), (0, .ref r0), (1, .ref r1), (2, .int a2), (3, .int a3), (4, .int z_3), (5, .int v5_5)]) hx hb dX10_scan_206 hl (by decide) rfl (fun ls hl => ?_)
                        refine lv_aload_n hx hb dX10_scan_208 rfl (lv_at hl 2 rfl) ?_
                        refine lv_iload hx hb dX10_scan_209 (lv_at hl 0 rfl) ?_
                        refine lv_if_eq (tgt := 221) hx hb dX10_scan_211 (by decide) (fun c_84 => ?_) (fun c_84 => ?_)
                        · skip
                          refine lv_iconst (v := 0) hx hb dX10_scan_221 (by decide) ?_
                          refine lv_iconst (v := 0) hx hb dX10_scan_222 (by decide) ?_
                          refine va_callv (A0 := jA base) (H0 := s.heap) (va_runV (As := [.int 0, .int 0]) (rest := []) ⟨hx, hb, hml, hown, hts⟩ (uX10_addB l dC dI ca base B hB hAp hB12 hB101 hB293 G0 H_74 r0 0 0 wk_5) (cwV 2 hts (jgV (jWr_37 _ (List.mem_of_getElem? (i := 7) rfl)) (jWr_37 _ (List.mem_of_getElem? (i := 8) rfl)) (jWr_37 _ (List.mem_of_getElem? (i := 9) rfl)) (jWr_4 _ (List.mem_of_getElem? (i := 14) rfl)) (jWr_37 _ (List.mem_of_getElem? (i := 10) rfl))) rfl rfl rfl (by decide +kernel) ⟨by rw [← hR]; exact Nat.le_of_ble_eq_true rfl, by rw [← hR]; exact Nat.le_of_ble_eq_true rfl⟩) ⟨fun a U g mk q => by obtain ⟨q0, q1, q2, qK, q10, q11, q12⟩ := q; exact ⟨q0, q1, q2, jG.calling g mk a qK, q10, q11, q12⟩, hh_74.recv (C := RX10) (T := TX10) (N := 11) hB12 rfl (by decide) hg_r0 hK, fun U hU hW => ⟨rfl, hU, hh_74.2.1, hG.step hW hU hh_74.1, hg_r0, (hh_74.2.2.1.sub (L1 := [(r0, 12, 3, .int wk_5)]) [0] rfl), by first | omega | (refine ⟨?_, ?_, ?_, ?_⟩ <;> (first | omega | rfl | assumption | decide | exact Or.inl rfl | exact Or.inr rfl | (simp only; omega)))⟩⟩ rfl rfl hl.1 rfl (lv_room (Nat.le_of_ble_eq_true rfl)) dX10_scan_223 ⟨Nat.zero_le _, Nat.zero_le _⟩) hh_74.1 (fun q _ h => h) (fun q h => h) (fun u_85 t_85 H_85 locs_85 ht_85 hvm_85 hr_86 hb_85 hz_85 hk_85 hS_85 => ?_)
                          obtain ⟨qk_85, rfl⟩ : ∃ z, z = u_85 := ⟨_, rfl⟩
                          rw [ht_85] at hb_85
                          obtain ⟨hb_851, hb_852, hb_853, hb_854, hb_855⟩ := hb_85
                          have hh_85 : jSt (dC, dI) B base G0 G0 EX10_scanSa9 s.heap 0 0 [(r0, 12, 3, .int qk_85)] [(r1, 175, n1, ca 1, f_l1_72)] [] H_85 locs_85 := ((hh_74.call hb_851 hb_852 hb_853 hb_854 hS_85 rfl (L1 := []) [] rfl rfl (M1 := [(r1, 175, n1, ca 1, f_l1_72)]) [0] rfl rfl (I1 := []) [] rfl rfl).more hb_855)
                          clear hh_74 ht_85 hvm_85 hz_85 hk_85 hS_85 hb_851 hb_852 hb_853 hb_854 hb_855
                          obtain ⟨hr_86_0, hr_86_1, hr_86_2⟩ := hr_86
                          exact C226 z_7 z_7 qk_85 _ _ (hh_85.sub (L1 := [(r0, 12, 3, .int qk_85)]) [0] rfl (M1 := []) [] rfl (I1 := []) [] rfl) (by first | omega | (refine ⟨?_, ?_, ?_, ?_, ?_⟩ <;> (first | omega | rfl | assumption | decide | exact Or.inl rfl | exact Or.inr rfl | (simp only; omega)))) _ (lv_sub hl [2, 3, 4, 5, 6, 7, 1, 1] rfl)
                        · skip
                          exact absurd c_84 (by decide)
                      · skip
                        have c_83' : z_82.toInt < 128 := jb_ge_n (rfl) ((by decide)) c_83
                        refine va_ldcS hx hb hown rstr66 dX10_scan_188 ?_
                        refine lv_aload_n hx hb dX10_scan_190 rfl (lv_at hl 2 rfl) ?_
                        refine lv_iload hx hb dX10_scan_191 (lv_at hl 6 rfl) ?_
                        refine j7_ialdM hx hb hK hh_74 hB175 1 rfl (by decide) hg_r1 (x := v5_5.toInt) (rfl) (by omega) (j := 0) rfl dX10_scan_193 (fun z_87 ez_87 (hz_87 : True) => ?_)
                        have hqz_87 : z_87.toInt = (f_l1_72 (v5_5.toInt).toNat).toInt := by rw [ez_87]
                        refine lv_i2c hx hb dX10_scan_194 rfl ?_
                        refine lv_topi (fun z_88 ez_88 => ?_)
                        refine vp_callSi (W.runV (As := [.int z_88]) (rest := []) ⟨hx, hb, hml, hown, hts⟩ (wJ0_indexOf_0f7a4 l dC dI ca base H_74 str66 8 z_88) (cwV 1 hts (jgV (jWr_37 _ (List.mem_of_getElem? (i := 11) rfl)) (jWr_37 _ (List.mem_of_getElem? (i := 12) rfl)) (jWr_37 _ (List.mem_of_getElem? (i := 13) rfl)) (jWr_5 _ (List.mem_of_getElem? (i := 15) rfl)) (jWr_37 _ (List.mem_of_getElem? (i := 14) rfl))) rfl rfl rfl (by decide +kernel) ⟨by rw [← hR]; exact Nat.le_of_ble_eq_true rfl, by rw [← hR]; exact Nat.le_of_ble_eq_true rfl⟩) ⟨fun a U g mk q => by obtain ⟨q0, q1, q2, qK, q9⟩ := q; exact ⟨q0, q1, (q2.moved (Vm.Alike.refl U.vm)), jG.calling g mk a qK, q9⟩, jStr_recv hstr66 hh_74.1, fun U hU hW => ⟨rfl, hU, (hstr66.moved hW.alike).kept hh_74.1.2.1, hG.step hW hU hh_74.1, by omega⟩⟩ rfl rfl hl.1 rfl (lv_room (Nat.le_of_ble_eq_true rfl)) dX10_scan_195 ⟨Nat.zero_le _, Nat.zero_le _⟩) (fun r_89 hr_89 => ?_)
                        refine lv_if_lt (tgt := 205) hx hb dX10_scan_198 (by decide) (fun c_90 => ?_) (fun c_90 => ?_)
                        · skip
                          have c_90' : r_89.toInt < 0 := jb_lt (rfl) ((by decide)) c_90
                          refine lv_iconst (v := 0) hx hb dX10_scan_205 (by decide) ?_
                          refine lv_istore (lv' := [(7, .int 0), (6, .int z_7), (0, .ref r0), (1, .ref r1), (2, .int a2), (3, .int a3), (4, .int z_3), (5, .int v5_5)]) hx hb dX10_scan_206 hl (by decide) rfl (fun ls hl => ?_)
                          refine lv_aload_n hx hb dX10_scan_208 rfl (lv_at hl 2 rfl) ?_
                          refine lv_iload hx hb dX10_scan_209 (lv_at hl 0 rfl) ?_
                          refine lv_if_eq (tgt := 221) hx hb dX10_scan_211 (by decide) (fun c_91 => ?_) (fun c_91 => ?_)
                          · skip
                            refine lv_iconst (v := 0) hx hb dX10_scan_221 (by decide) ?_
                            refine lv_iconst (v := 0) hx hb dX10_scan_222 (by decide) ?_
                            refine va_callv (A0 := jA base) (H0 := s.heap) (va_runV (As := [.int 0, .int 0]) (rest := []) ⟨hx, hb, hml, hown, hts⟩ (uX10_addB l dC dI ca base B hB hAp hB12 hB101 hB293 G0 H_74 r0 0 0 wk_5) (cwV 2 hts (jgV (jWr_37 _ (List.mem_of_getElem? (i := 7) rfl)) (jWr_37 _ (List.mem_of_getElem? (i := 8) rfl)) (jWr_37 _ (List.mem_of_getElem? (i := 9) rfl)) (jWr_4 _ (List.mem_of_getElem? (i := 14) rfl)) (jWr_37 _ (List.mem_of_getElem? (i := 10) rfl))) rfl rfl rfl (by decide +kernel) ⟨by rw [← hR]; exact Nat.le_of_ble_eq_true rfl, by rw [← hR]; exact Nat.le_of_ble_eq_true rfl⟩) ⟨fun a U g mk q => by obtain ⟨q0, q1, q2, qK, q10, q11, q12⟩ := q; exact ⟨q0, q1, q2, jG.calling g mk a qK, q10, q11, q12⟩, hh_74.recv (C := RX10) (T := TX10) (N := 11) hB12 rfl (by decide) hg_r0 hK, fun U hU hW => ⟨rfl, hU, hh_74.2.1, hG.step hW hU hh_74.1, hg_r0, (hh_74.2.2.1.sub (L1 := [(r0, 12, 3, .int wk_5)]) [0] rfl), by first | omega | (refine ⟨?_, ?_, ?_, ?_⟩ <;> (first | omega | rfl | assumption | decide | exact Or.inl rfl | exact Or.inr rfl | (simp only; omega)))⟩⟩ rfl rfl hl.1 rfl (lv_room (Nat.le_of_ble_eq_true rfl)) dX10_scan_223 ⟨Nat.zero_le _, Nat.zero_le _⟩) hh_74.1 (fun q _ h => h) (fun q h => h) (fun u_92 t_92 H_92 locs_92 ht_92 hvm_92 hr_93 hb_92 hz_92 hk_92 hS_92 => ?_)
                            obtain ⟨qk_92, rfl⟩ : ∃ z, z = u_92 := ⟨_, rfl⟩
                            rw [ht_92] at hb_92
                            obtain ⟨hb_921, hb_922, hb_923, hb_924, hb_925⟩ := hb_92
                            have hh_92 : jSt (dC, dI) B base G0 G0 EX10_scanSa9 s.heap 0 0 [(r0, 12, 3, .int qk_92)] [(r1, 175, n1, ca 1, f_l1_72)] [] H_92 locs_92 := ((hh_74.call hb_921 hb_922 hb_923 hb_924 hS_92 rfl (L1 := []) [] rfl rfl (M1 := [(r1, 175, n1, ca 1, f_l1_72)]) [0] rfl rfl (I1 := []) [] rfl rfl).more hb_925)
                            clear hh_74 ht_92 hvm_92 hz_92 hk_92 hS_92 hb_921 hb_922 hb_923 hb_924 hb_925
                            obtain ⟨hr_93_0, hr_93_1, hr_93_2⟩ := hr_93
                            exact C226 z_7 z_7 qk_92 _ _ (hh_92.sub (L1 := [(r0, 12, 3, .int qk_92)]) [0] rfl (M1 := []) [] rfl (I1 := []) [] rfl) (by first | omega | (refine ⟨?_, ?_, ?_, ?_, ?_⟩ <;> (first | omega | rfl | assumption | decide | exact Or.inl rfl | exact Or.inr rfl | (simp only; omega)))) _ (lv_sub hl [2, 3, 4, 5, 6, 7, 1, 1] rfl)
                          · skip
                            exact absurd c_91 (by decide)
                        · skip
                          have c_90' : r_89.toInt ≥ 0 := jb_lt_n (rfl) ((by decide)) c_90
                          refine lv_iconst (v := 1) hx hb dX10_scan_201 (by decide) ?_
                          refine lv_goto (tgt := 206) hx hb dX10_scan_202 (by decide) ?_
                          refine lv_istore (lv' := [(7, .int 1), (6, .int z_7), (0, .ref r0), (1, .ref r1), (2, .int a2), (3, .int a3), (4, .int z_3), (5, .int v5_5)]) hx hb dX10_scan_206 hl (by decide) rfl (fun ls hl => ?_)
                          refine lv_aload_n hx hb dX10_scan_208 rfl (lv_at hl 2 rfl) ?_
                          refine lv_iload hx hb dX10_scan_209 (lv_at hl 0 rfl) ?_
                          refine lv_if_eq (tgt := 221) hx hb dX10_scan_211 (by decide) (fun c_94 => ?_) (fun c_94 => ?_)
                          · skip
                            exact absurd c_94 (by decide)
                          · skip
                            refine lv_aload_n hx hb dX10_scan_214 rfl (lv_at hl 3 rfl) ?_
                            refine lv_iload hx hb dX10_scan_215 (lv_at hl 7 rfl) ?_
                            refine j7_ialdM hx hb hK hh_74 hB175 1 rfl (by decide) hg_r1 (x := v5_5.toInt) (rfl) (by omega) (j := 0) rfl dX10_scan_217 (fun z_95 ez_95 (hz_95 : True) => ?_)
                            have hqz_95 : z_95.toInt = (f_l1_72 (v5_5.toInt).toNat).toInt := by rw [ez_95]
                            refine lv_goto (tgt := 222) hx hb dX10_scan_218 (by decide) ?_
                            refine lv_iconst (v := 0) hx hb dX10_scan_222 (by decide) ?_
                            refine va_callv (A0 := jA base) (H0 := s.heap) (va_runV (As := [.int z_95, .int 0]) (rest := []) ⟨hx, hb, hml, hown, hts⟩ (uX10_addB l dC dI ca base B hB hAp hB12 hB101 hB293 G0 H_74 r0 z_95 0 wk_5) (cwV 2 hts (jgV (jWr_37 _ (List.mem_of_getElem? (i := 7) rfl)) (jWr_37 _ (List.mem_of_getElem? (i := 8) rfl)) (jWr_37 _ (List.mem_of_getElem? (i := 9) rfl)) (jWr_4 _ (List.mem_of_getElem? (i := 14) rfl)) (jWr_37 _ (List.mem_of_getElem? (i := 10) rfl))) rfl rfl rfl (by decide +kernel) ⟨by rw [← hR]; exact Nat.le_of_ble_eq_true rfl, by rw [← hR]; exact Nat.le_of_ble_eq_true rfl⟩) ⟨fun a U g mk q => by obtain ⟨q0, q1, q2, qK, q10, q11, q12⟩ := q; exact ⟨q0, q1, q2, jG.calling g mk a qK, q10, q11, q12⟩, hh_74.recv (C := RX10) (T := TX10) (N := 11) hB12 rfl (by decide) hg_r0 hK, fun U hU hW => ⟨rfl, hU, hh_74.2.1, hG.step hW hU hh_74.1, hg_r0, (hh_74.2.2.1.sub (L1 := [(r0, 12, 3, .int wk_5)]) [0] rfl), by first | omega | (refine ⟨?_, ?_, ?_, ?_⟩ <;> (first | omega | rfl | assumption | decide | exact Or.inl rfl | exact Or.inr rfl | (simp only; omega)))⟩⟩ rfl rfl hl.1 rfl (lv_room (Nat.le_of_ble_eq_true rfl)) dX10_scan_223 ⟨Nat.zero_le _, Nat.zero_le _⟩) hh_74.1 (fun q _ h => h) (fun q h => h) (fun u_96 t_96 H_96 locs_96 ht_96 hvm_96 hr_97 hb_96 hz_96 hk_96 hS_96 => ?_)
                            obtain ⟨qk_96, rfl⟩ : ∃ z, z = u_96 := ⟨_, rfl⟩
                            rw [ht_96] at hb_96
                            obtain ⟨hb_961, hb_962, hb_963, hb_964, hb_965⟩ := hb_96
                            have hh_96 : jSt (dC, dI) B base G0 G0 EX10_scanSa9 s.heap 0 0 [(r0, 12, 3, .int qk_96)] [(r1, 175, n1, ca 1, f_l1_72)] [] H_96 locs_96 := ((hh_74.call hb_961 hb_962 hb_963 hb_964 hS_96 rfl (L1 := []) [] rfl rfl (M1 := [(r1, 175, n1, ca 1, f_l1_72)]) [0] rfl rfl (I1 := []) [] rfl rfl).more hb_965)
                            clear hh_74 ht_96 hvm_96 hz_96 hk_96 hS_96 hb_961 hb_962 hb_963 hb_964 hb_965
                            obtain ⟨hr_97_0, hr_97_1, hr_97_2⟩ := hr_97
                            exact C226 z_7 z_7 qk_96 _ _ (hh_96.sub (L1 := [(r0, 12, 3, .int qk_96)]) [0] rfl (M1 := []) [] rfl (I1 := []) [] rfl) (by first | omega | (refine ⟨?_, ?_, ?_, ?_, ?_⟩ <;> (first | omega | rfl | assumption | decide | exact Or.inl rfl | exact Or.inr rfl | (simp only; omega)))) _ (lv_sub hl [2, 3, 4, 5, 6, 7, 1, 1] rfl)
                    · skip
                      have c_81' : z_80.toInt = 46 := jb_ne_n (rfl) ((by decide)) c_81
                      refine lv_iload hx hb dX10_scan_171 (lv_at hl 0 rfl) ?_
                      refine lv_iload hx hb dX10_scan_173 (lv_at hl 5 rfl) ?_
                      refine lv_icmp_eq (tgt := 201) hx hb dX10_scan_175 (by decide) (fun c_98 => ?_) (fun c_98 => ?_)
                      · skip
                        have c_98' : z_7.toInt = z_3.toInt := jb_eq (rfl) (rfl) c_98
                        refine lv_iconst (v := 1) hx hb dX10_scan_201 (by decide) ?_
                        refine lv_goto (tgt := 206) hx hb dX10_scan_202 (by decide) ?_
                        refine lv_istore (lv' := [(7, .int 1), (6, .int z_7), (0, .ref r0), (1, .ref r1), (2, .int a2), (3, .int a3), (4, .int z_3), (5, .int v5_5)]) hx hb dX10_scan_206 hl (by decide) rfl (fun ls hl => ?_)
                        refine lv_aload_n hx hb dX10_scan_208 rfl (lv_at hl 2 rfl) ?_
                        refine lv_iload hx hb dX10_scan_209 (lv_at hl 0 rfl) ?_
                        refine lv_if_eq (tgt := 221) hx hb dX10_scan_211 (by decide) (fun c_99 => ?_) (fun c_99 => ?_)
                        · skip
                          exact absurd c_99 (by decide)
                        · skip
                          refine lv_aload_n hx hb dX10_scan_214 rfl (lv_at hl 3 rfl) ?_
                          refine lv_iload hx hb dX10_scan_215 (lv_at hl 7 rfl) ?_
                          refine j7_ialdM hx hb hK hh_74 hB175 1 rfl (by decide) hg_r1 (x := v5_5.toInt) (rfl) (by omega) (j := 0) rfl dX10_scan_217 (fun z_100 ez_100 (hz_100 : True) => ?_)
                          have hqz_100 : z_100.toInt = (f_l1_72 (v5_5.toInt).toNat).toInt := by rw [ez_100]
                          refine lv_goto (tgt := 222) hx hb dX10_scan_218 (by decide) ?_
                          refine lv_iconst (v := 0) hx hb dX10_scan_222 (by decide) ?_
                          refine va_callv (A0 := jA base) (H0 := s.heap) (va_runV (As := [.int z_100, .int 0]) (rest := []) ⟨hx, hb, hml, hown, hts⟩ (uX10_addB l dC dI ca base B hB hAp hB12 hB101 hB293 G0 H_74 r0 z_100 0 wk_5) (cwV 2 hts (jgV (jWr_37 _ (List.mem_of_getElem? (i := 7) rfl)) (jWr_37 _ (List.mem_of_getElem? (i := 8) rfl)) (jWr_37 _ (List.mem_of_getElem? (i := 9) rfl)) (jWr_4 _ (List.mem_of_getElem? (i := 14) rfl)) (jWr_37 _ (List.mem_of_getElem? (i := 10) rfl))) rfl rfl rfl (by decide +kernel) ⟨by rw [← hR]; exact Nat.le_of_ble_eq_true rfl, by rw [← hR]; exact Nat.le_of_ble_eq_true rfl⟩) ⟨fun a U g mk q => by obtain ⟨q0, q1, q2, qK, q10, q11, q12⟩ := q; exact ⟨q0, q1, q2, jG.calling g mk a qK, q10, q11, q12⟩, hh_74.recv (C := RX10) (T := TX10) (N := 11) hB12 rfl (by decide) hg_r0 hK, fun U hU hW => ⟨rfl, hU, hh_74.2.1, hG.step hW hU hh_74.1, hg_r0, (hh_74.2.2.1.sub (L1 := [(r0, 12, 3, .int wk_5)]) [0] rfl), by first | omega | (refine ⟨?_, ?_, ?_, ?_⟩ <;> (first | omega | rfl | assumption | decide | exact Or.inl rfl | exact Or.inr rfl | (simp only; omega)))⟩⟩ rfl rfl hl.1 rfl (lv_room (Nat.le_of_ble_eq_true rfl)) dX10_scan_223 ⟨Nat.zero_le _, Nat.zero_le _⟩) hh_74.1 (fun q _ h => h) (fun q h => h) (fun u_101 t_101 H_101 locs_101 ht_101 hvm_101 hr_102 hb_101 hz_101 hk_101 hS_101 => ?_)
                          obtain ⟨qk_101, rfl⟩ : ∃ z, z = u_101 := ⟨_, rfl⟩
                          rw [ht_101] at hb_101
                          obtain ⟨hb_1011, hb_1012, hb_1013, hb_1014, hb_1015⟩ := hb_101
                          have hh_101 : jSt (dC, dI) B base G0 G0 EX10_scanSa9 s.heap 0 0 [(r0, 12, 3, .int qk_101)] [(r1, 175, n1, ca 1, f_l1_72)] [] H_101 locs_101 := ((hh_74.call hb_1011 hb_1012 hb_1013 hb_1014 hS_101 rfl (L1 := []) [] rfl rfl (M1 := [(r1, 175, n1, ca 1, f_l1_72)]) [0] rfl rfl (I1 := []) [] rfl rfl).more hb_1015)
                          clear hh_74 ht_101 hvm_101 hz_101 hk_101 hS_101 hb_1011 hb_1012 hb_1013 hb_1014 hb_1015
                          obtain ⟨hr_102_0, hr_102_1, hr_102_2⟩ := hr_102
                          exact C226 z_7 z_7 qk_101 _ _ (hh_101.sub (L1 := [(r0, 12, 3, .int qk_101)]) [0] rfl (M1 := []) [] rfl (I1 := []) [] rfl) (by first | omega | (refine ⟨?_, ?_, ?_, ?_, ?_⟩ <;> (first | omega | rfl | assumption | decide | exact Or.inl rfl | exact Or.inr rfl | (simp only; omega)))) _ (lv_sub hl [2, 3, 4, 5, 6, 7, 1, 1] rfl)
                      · skip
                        have c_98' : z_7.toInt ≠ z_3.toInt := jb_eq_n (rfl) (rfl) c_98
                        refine lv_aload_n hx hb dX10_scan_178 rfl (lv_at hl 2 rfl) ?_
                        refine lv_iload hx hb dX10_scan_179 (lv_at hl 6 rfl) ?_
                        refine j7_ialdM hx hb hK hh_74 hB175 1 rfl (by decide) hg_r1 (x := v5_5.toInt) (rfl) (by omega) (j := 0) rfl dX10_scan_181 (fun z_103 ez_103 (hz_103 : True) => ?_)
                        have hqz_103 : z_103.toInt = (f_l1_72 (v5_5.toInt).toNat).toInt := by rw [ez_103]
                        refine lv_sipush (v := 128) hx hb dX10_scan_182 (by decide) ?_
                        refine lv_icmp_ge (tgt := 205) hx hb dX10_scan_185 (by decide) (fun c_104 => ?_) (fun c_104 => ?_)
                        · skip
                          have c_104' : z_103.toInt ≥ 128 := jb_ge (rfl) ((by decide)) c_104
                          refine lv_iconst (v := 0) hx hb dX10_scan_205 (by decide) ?_
                          refine lv_istore (lv' := [(7, .int 0), (6, .int z_7), (0, .ref r0), (1, .ref r1), (2, .int a2), (3, .int a3), (4, .int z_3), (5, .int v5_5)]) hx hb dX10_scan_206 hl (by decide) rfl (fun ls hl => ?_)
                          refine lv_aload_n hx hb dX10_scan_208 rfl (lv_at hl 2 rfl) ?_
                          refine lv_iload hx hb dX10_scan_209 (lv_at hl 0 rfl) ?_
                          refine lv_if_eq (tgt := 221) hx hb dX10_scan_211 (by decide) (fun c_105 => ?_) (fun c_105 => ?_)
                          · skip
                            refine lv_iconst (v := 0) hx hb dX10_scan_221 (by decide) ?_
                            refine lv_iconst (v := 0) hx hb dX10_scan_222 (by decide) ?_
                            refine va_callv (A0 := jA base) (H0 := s.heap) (va_runV (As := [.int 0, .int 0]) (rest := []) ⟨hx, hb, hml, hown, hts⟩ (uX10_addB l dC dI ca base B hB hAp hB12 hB101 hB293 G0 H_74 r0 0 0 wk_5) (cwV 2 hts (jgV (jWr_37 _ (List.mem_of_getElem? (i := 7) rfl)) (jWr_37 _ (List.mem_of_getElem? (i := 8) rfl)) (jWr_37 _ (List.mem_of_getElem? (i := 9) rfl)) (jWr_4 _ (List.mem_of_getElem? (i := 14) rfl)) (jWr_37 _ (List.mem_of_getElem? (i := 10) rfl))) rfl rfl rfl (by decide +kernel) ⟨by rw [← hR]; exact Nat.le_of_ble_eq_true rfl, by rw [← hR]; exact Nat.le_of_ble_eq_true rfl⟩) ⟨fun a U g mk q => by obtain ⟨q0, q1, q2, qK, q10, q11, q12⟩ := q; exact ⟨q0, q1, q2, jG.calling g mk a qK, q10, q11, q12⟩, hh_74.recv (C := RX10) (T := TX10) (N := 11) hB12 rfl (by decide) hg_r0 hK, fun U hU hW => ⟨rfl, hU, hh_74.2.1, hG.step hW hU hh_74.1, hg_r0, (hh_74.2.2.1.sub (L1 := [(r0, 12, 3, .int wk_5)]) [0] rfl), by first | omega | (refine ⟨?_, ?_, ?_, ?_⟩ <;> (first | omega | rfl | assumption | decide | exact Or.inl rfl | exact Or.inr rfl | (simp only; omega)))⟩⟩ rfl rfl hl.1 rfl (lv_room (Nat.le_of_ble_eq_true rfl)) dX10_scan_223 ⟨Nat.zero_le _, Nat.zero_le _⟩) hh_74.1 (fun q _ h => h) (fun q h => h) (fun u_106 t_106 H_106 locs_106 ht_106 hvm_106 hr_107 hb_106 hz_106 hk_106 hS_106 => ?_)
                            obtain ⟨qk_106, rfl⟩ : ∃ z, z = u_106 := ⟨_, rfl⟩
                            rw [ht_106] at hb_106
                            obtain ⟨hb_1061, hb_1062, hb_1063, hb_1064, hb_1065⟩ := hb_106
                            have hh_106 : jSt (dC, dI) B base G0 G0 EX10_scanSa9 s.heap 0 0 [(r0, 12, 3, .int qk_106)] [(r1, 175, n1, ca 1, f_l1_72)] [] H_106 locs_106 := ((hh_74.call hb_1061 hb_1062 hb_1063 hb_1064 hS_106 rfl (L1 := []) [] rfl rfl (M1 := [(r1, 175, n1, ca 1, f_l1_72)]) [0] rfl rfl (I1 := []) [] rfl rfl).more hb_1065)
                            clear hh_74 ht_106 hvm_106 hz_106 hk_106 hS_106 hb_1061 hb_1062 hb_1063 hb_1064 hb_1065
                            obtain ⟨hr_107_0, hr_107_1, hr_107_2⟩ := hr_107
                            exact C226 z_7 z_7 qk_106 _ _ (hh_106.sub (L1 := [(r0, 12, 3, .int qk_106)]) [0] rfl (M1 := []) [] rfl (I1 := []) [] rfl) (by first | omega | (refine ⟨?_, ?_, ?_, ?_, ?_⟩ <;> (first | omega | rfl | assumption | decide | exact Or.inl rfl | exact Or.inr rfl | (simp only; omega)))) _ (lv_sub hl [2, 3, 4, 5, 6, 7, 1, 1] rfl)
                          · skip
                            exact absurd c_105 (by decide)
                        · skip
                          have c_104' : z_103.toInt < 128 := jb_ge_n (rfl) ((by decide)) c_104
                          refine va_ldcS hx hb hown rstr66 dX10_scan_188 ?_
                          refine lv_aload_n hx hb dX10_scan_190 rfl (lv_at hl 2 rfl) ?_
                          refine lv_iload hx hb dX10_scan_191 (lv_at hl 6 rfl) ?_
                          refine j7_ialdM hx hb hK hh_74 hB175 1 rfl (by decide) hg_r1 (x := v5_5.toInt) (rfl) (by omega) (j := 0) rfl dX10_scan_193 (fun z_108 ez_108 (hz_108 : True) => ?_)
                          have hqz_108 : z_108.toInt = (f_l1_72 (v5_5.toInt).toNat).toInt := by rw [ez_108]
                          refine lv_i2c hx hb dX10_scan_194 rfl ?_
                          refine lv_topi (fun z_109 ez_109 => ?_)
                          refine vp_callSi (W.runV (As := [.int z_109]) (rest := []) ⟨hx, hb, hml, hown, hts⟩ (wJ0_indexOf_0f7a4 l dC dI ca base H_74 str66 8 z_109) (cwV 1 hts (jgV (jWr_37 _ (List.mem_of_getElem? (i := 11) rfl)) (jWr_37 _ (List.mem_of_getElem? (i := 12) rfl)) (jWr_37 _ (List.mem_of_getElem? (i := 13) rfl)) (jWr_5 _ (List.mem_of_getElem? (i := 15) rfl)) (jWr_37 _ (List.mem_of_getElem? (i := 14) rfl))) rfl rfl rfl (by decide +kernel) ⟨by rw [← hR]; exact Nat.le_of_ble_eq_true rfl, by rw [← hR]; exact Nat.le_of_ble_eq_true rfl⟩) ⟨fun a U g mk q => by obtain ⟨q0, q1, q2, qK, q9⟩ := q; exact ⟨q0, q1, (q2.moved (Vm.Alike.refl U.vm)), jG.calling g mk a qK, q9⟩, jStr_recv hstr66 hh_74.1, fun U hU hW => ⟨rfl, hU, (hstr66.moved hW.alike).kept hh_74.1.2.1, hG.step hW hU hh_74.1, by omega⟩⟩ rfl rfl hl.1 rfl (lv_room (Nat.le_of_ble_eq_true rfl)) dX10_scan_195 ⟨Nat.zero_le _, Nat.zero_le _⟩) (fun r_110 hr_110 => ?_)
                          refine lv_if_lt (tgt := 205) hx hb dX10_scan_198 (by decide) (fun c_111 => ?_) (fun c_111 => ?_)
                          · skip
                            have c_111' : r_110.toInt < 0 := jb_lt (rfl) ((by decide)) c_111
                            refine lv_iconst (v := 0) hx hb dX10_scan_205 (by decide) ?_
                            refine lv_istore (lv' := [(7, .int 0), (6, .int z_7), (0, .ref r0), (1, .ref r1), (2, .int a2), (3, .int a3), (4, .int z_3), (5, .int v5_5)]) hx hb dX10_scan_206 hl (by decide) rfl (fun ls hl => ?_)
                            refine lv_aload_n hx hb dX10_scan_208 rfl (lv_at hl 2 rfl) ?_
                            refine lv_iload hx hb dX10_scan_209 (lv_at hl 0 rfl) ?_
                            refine lv_if_eq (tgt := 221) hx hb dX10_scan_211 (by decide) (fun c_112 => ?_) (fun c_112 => ?_)
                            · skip
                              refine lv_iconst (v := 0) hx hb dX10_scan_221 (by decide) ?_
                              refine lv_iconst (v := 0) hx hb dX10_scan_222 (by decide) ?_
                              refine va_callv (A0 := jA base) (H0 := s.heap) (va_runV (As := [.int 0, .int 0]) (rest := []) ⟨hx, hb, hml, hown, hts⟩ (uX10_addB l dC dI ca base B hB hAp hB12 hB101 hB293 G0 H_74 r0 0 0 wk_5) (cwV 2 hts (jgV (jWr_37 _ (List.mem_of_getElem? (i := 7) rfl)) (jWr_37 _ (List.mem_of_getElem? (i := 8) rfl)) (jWr_37 _ (List.mem_of_getElem? (i := 9) rfl)) (jWr_4 _ (List.mem_of_getElem? (i := 14) rfl)) (jWr_37 _ (List.mem_of_getElem? (i := 10) rfl))) rfl rfl rfl (by decide +kernel) ⟨by rw [← hR]; exact Nat.le_of_ble_eq_true rfl, by rw [← hR]; exact Nat.le_of_ble_eq_true rfl⟩) ⟨fun a U g mk q => by obtain ⟨q0, q1, q2, qK, q10, q11, q12⟩ := q; exact ⟨q0, q1, q2, jG.calling g mk a qK, q10, q11, q12⟩, hh_74.recv (C := RX10) (T := TX10) (N := 11) hB12 rfl (by decide) hg_r0 hK, fun U hU hW => ⟨rfl, hU, hh_74.2.1, hG.step hW hU hh_74.1, hg_r0, (hh_74.2.2.1.sub (L1 := [(r0, 12, 3, .int wk_5)]) [0] rfl), by first | omega | (refine ⟨?_, ?_, ?_, ?_⟩ <;> (first | omega | rfl | assumption | decide | exact Or.inl rfl | exact Or.inr rfl | (simp only; omega)))⟩⟩ rfl rfl hl.1 rfl (lv_room (Nat.le_of_ble_eq_true rfl)) dX10_scan_223 ⟨Nat.zero_le _, Nat.zero_le _⟩) hh_74.1 (fun q _ h => h) (fun q h => h) (fun u_113 t_113 H_113 locs_113 ht_113 hvm_113 hr_114 hb_113 hz_113 hk_113 hS_113 => ?_)
                              obtain ⟨qk_113, rfl⟩ : ∃ z, z = u_113 := ⟨_, rfl⟩
                              rw [ht_113] at hb_113
                              obtain ⟨hb_1131, hb_1132, hb_1133, hb_1134, hb_1135⟩ := hb_113
                              have hh_113 : jSt (dC, dI) B base G0 G0 EX10_scanSa9 s.heap 0 0 [(r0, 12, 3, .int qk_113)] [(r1, 175, n1, ca 1, f_l1_72)] [] H_113 locs_113 := ((hh_74.call hb_1131 hb_1132 hb_1133 hb_1134 hS_113 rfl (L1 := []) [] rfl rfl (M1 := [(r1, 175, n1, ca 1, f_l1_72)]) [0] rfl rfl (I1 := []) [] rfl rfl).more hb_1135)
                              clear hh_74 ht_113 hvm_113 hz_113 hk_113 hS_113 hb_1131 hb_1132 hb_1133 hb_1134 hb_1135
                              obtain ⟨hr_114_0, hr_114_1, hr_114_2⟩ := hr_114
                              exact C226 z_7 z_7 qk_113 _ _ (hh_113.sub (L1 := [(r0, 12, 3, .int qk_113)]) [0] rfl (M1 := []) [] rfl (I1 := []) [] rfl) (by first | omega | (refine ⟨?_, ?_, ?_, ?_, ?_⟩ <;> (first | omega | rfl | assumption | decide | exact Or.inl rfl | exact Or.inr rfl | (simp only; omega)))) _ (lv_sub hl [2, 3, 4, 5, 6, 7, 1, 1] rfl)
                            · skip
                              exact absurd c_112 (by decide)
                          · skip
                            have c_111' : r_110.toInt ≥ 0 := jb_lt_n (rfl) ((by decide)) c_111
                            refine lv_iconst (v := 1) hx hb dX10_scan_201 (by decide) ?_
                            refine lv_goto (tgt := 206) hx hb dX10_scan_202 (by decide) ?_
                            refine lv_istore (lv' := [(7, .int 1), (6, .int z_7), (0, .ref r0), (1, .ref r1), (2, .int a2), (3, .int a3), (4, .int z_3), (5, .int v5_5)]) hx hb dX10_scan_206 hl (by decide) rfl (fun ls hl => ?_)
                            refine lv_aload_n hx hb dX10_scan_208 rfl (lv_at hl 2 rfl) ?_
                            refine lv_iload hx hb dX10_scan_209 (lv_at hl 0 rfl) ?_
                            refine lv_if_eq (tgt := 221) hx hb dX10_scan_211 (by decide) (fun c_115 => ?_) (fun c_115 => ?_)
                            · skip
                              exact absurd c_115 (by decide)
                            · skip
                              refine lv_aload_n hx hb dX10_scan_214 rfl (lv_at hl 3 rfl) ?_
                              refine lv_iload hx hb dX10_scan_215 (lv_at hl 7 rfl) ?_
                              refine j7_ialdM hx hb hK hh_74 hB175 1 rfl (by decide) hg_r1 (x := v5_5.toInt) (rfl) (by omega) (j := 0) rfl dX10_scan_217 (fun z_116 ez_116 (hz_116 : True) => ?_)
                              have hqz_116 : z_116.toInt = (f_l1_72 (v5_5.toInt).toNat).toInt := by rw [ez_116]
                              refine lv_goto (tgt := 222) hx hb dX10_scan_218 (by decide) ?_
                              refine lv_iconst (v := 0) hx hb dX10_scan_222 (by decide) ?_
                              refine va_callv (A0 := jA base) (H0 := s.heap) (va_runV (As := [.int z_116, .int 0]) (rest := []) ⟨hx, hb, hml, hown, hts⟩ (uX10_addB l dC dI ca base B hB hAp hB12 hB101 hB293 G0 H_74 r0 z_116 0 wk_5) (cwV 2 hts (jgV (jWr_37 _ (List.mem_of_getElem? (i := 7) rfl)) (jWr_37 _ (List.mem_of_getElem? (i := 8) rfl)) (jWr_37 _ (List.mem_of_getElem? (i := 9) rfl)) (jWr_4 _ (List.mem_of_getElem? (i := 14) rfl)) (jWr_37 _ (List.mem_of_getElem? (i := 10) rfl))) rfl rfl rfl (by decide +kernel) ⟨by rw [← hR]; exact Nat.le_of_ble_eq_true rfl, by rw [← hR]; exact Nat.le_of_ble_eq_true rfl⟩) ⟨fun a U g mk q => by obtain ⟨q0, q1, q2, qK, q10, q11, q12⟩ := q; exact ⟨q0, q1, q2, jG.calling g mk a qK, q10, q11, q12⟩, hh_74.recv (C := RX10) (T := TX10) (N := 11) hB12 rfl (by decide) hg_r0 hK, fun U hU hW => ⟨rfl, hU, hh_74.2.1, hG.step hW hU hh_74.1, hg_r0, (hh_74.2.2.1.sub (L1 := [(r0, 12, 3, .int wk_5)]) [0] rfl), by first | omega | (refine ⟨?_, ?_, ?_, ?_⟩ <;> (first | omega | rfl | assumption | decide | exact Or.inl rfl | exact Or.inr rfl | (simp only; omega)))⟩⟩ rfl rfl hl.1 rfl (lv_room (Nat.le_of_ble_eq_true rfl)) dX10_scan_223 ⟨Nat.zero_le _, Nat.zero_le _⟩) hh_74.1 (fun q _ h => h) (fun q h => h) (fun u_117 t_117 H_117 locs_117 ht_117 hvm_117 hr_118 hb_117 hz_117 hk_117 hS_117 => ?_)
                              obtain ⟨qk_117, rfl⟩ : ∃ z, z = u_117 := ⟨_, rfl⟩
                              rw [ht_117] at hb_117
                              obtain ⟨hb_1171, hb_1172, hb_1173, hb_1174, hb_1175⟩ := hb_117
                              have hh_117 : jSt (dC, dI) B base G0 G0 EX10_scanSa9 s.heap 0 0 [(r0, 12, 3, .int qk_117)] [(r1, 175, n1, ca 1, f_l1_72)] [] H_117 locs_117 := ((hh_74.call hb_1171 hb_1172 hb_1173 hb_1174 hS_117 rfl (L1 := []) [] rfl rfl (M1 := [(r1, 175, n1, ca 1, f_l1_72)]) [0] rfl rfl (I1 := []) [] rfl rfl).more hb_1175)
                              clear hh_74 ht_117 hvm_117 hz_117 hk_117 hS_117 hb_1171 hb_1172 hb_1173 hb_1174 hb_1175
                              obtain ⟨hr_118_0, hr_118_1, hr_118_2⟩ := hr_118
                              exact C226 z_7 z_7 qk_117 _ _ (hh_117.sub (L1 := [(r0, 12, 3, .int qk_117)]) [0] rfl (M1 := []) [] rfl (I1 := []) [] rfl) (by first | omega | (refine ⟨?_, ?_, ?_, ?_, ?_⟩ <;> (first | omega | rfl | assumption | decide | exact Or.inl rfl | exact Or.inr rfl | (simp only; omega)))) _ (lv_sub hl [2, 3, 4, 5, 6, 7, 1, 1] rfl)
                · skip
                  have c_76' : r_75.toInt ≠ 0 := jb_eq_n (rfl) ((by decide)) c_76
                  first | (have hr_75pq := hr_75p.resolve_left (by omega); clear hr_75p) | (have hr_75pq := hr_75p.resolve_right (by omega); clear hr_75p) | try clear hr_75p
                  refine lv_aload_n hx hb dX10_scan_136 rfl (lv_at hl 1 rfl) ?_
                  refine lv_bipush (v := 100) hx hb dX10_scan_137 (by decide) ?_
                  refine lv_aload_n hx hb dX10_scan_139 rfl (lv_at hl 2 rfl) ?_
                  refine lv_iload hx hb dX10_scan_140 (lv_at hl 6 rfl) ?_
                  refine j7_ialdM hx hb hK hh_74 hB175 1 rfl (by decide) hg_r1 (x := v5_5.toInt) (rfl) (by omega) (j := 0) rfl dX10_scan_142 (fun z_119 ez_119 (hz_119 : True) => ?_)
                  have hqz_119 : z_119.toInt = (f_l1_72 (v5_5.toInt).toNat).toInt := by rw [ez_119]
                  refine lv_bipush (v := 48) hx hb dX10_scan_143 (by decide) ?_
                  refine lv_isub hx hb dX10_scan_145 ?_
                  refine lv_topi (fun z_120 ez_120 => ?_)
                  have hz_120 : z_120.toInt = z_119.toInt - 48 := by rw [ez_120]; exact jb_isub2 (rfl) ((by decide)) (by omega)
                  refine va_callv (A0 := jA base) (H0 := s.heap) (va_runV (As := [.int 100, .int z_120]) (rest := []) ⟨hx, hb, hml, hown, hts⟩ (uX10_addB l dC dI ca base B hB hAp hB12 hB101 hB293 G0 H_74 r0 100 z_120 wk_5) (cwV 2 hts (jgV (jWr_37 _ (List.mem_of_getElem? (i := 7) rfl)) (jWr_37 _ (List.mem_of_getElem? (i := 8) rfl)) (jWr_37 _ (List.mem_of_getElem? (i := 9) rfl)) (jWr_4 _ (List.mem_of_getElem? (i := 14) rfl)) (jWr_37 _ (List.mem_of_getElem? (i := 10) rfl))) rfl rfl rfl (by decide +kernel) ⟨by rw [← hR]; exact Nat.le_of_ble_eq_true rfl, by rw [← hR]; exact Nat.le_of_ble_eq_true rfl⟩) ⟨fun a U g mk q => by obtain ⟨q0, q1, q2, qK, q10, q11, q12⟩ := q; exact ⟨q0, q1, q2, jG.calling g mk a qK, q10, q11, q12⟩, hh_74.recv (C := RX10) (T := TX10) (N := 11) hB12 rfl (by decide) hg_r0 hK, fun U hU hW => ⟨rfl, hU, hh_74.2.1, hG.step hW hU hh_74.1, hg_r0, (hh_74.2.2.1.sub (L1 := [(r0, 12, 3, .int wk_5)]) [0] rfl), by first | omega | (refine ⟨?_, ?_, ?_, ?_⟩ <;> (first | omega | rfl | assumption | decide | exact Or.inl rfl | exact Or.inr rfl | (simp only; omega)))⟩⟩ rfl rfl hl.1 rfl (lv_room (Nat.le_of_ble_eq_true rfl)) dX10_scan_146 ⟨Nat.zero_le _, Nat.zero_le _⟩) hh_74.1 (fun q _ h => h) (fun q h => h) (fun u_121 t_121 H_121 locs_121 ht_121 hvm_121 hr_122 hb_121 hz_121 hk_121 hS_121 => ?_)
                  obtain ⟨qk_121, rfl⟩ : ∃ z, z = u_121 := ⟨_, rfl⟩
                  rw [ht_121] at hb_121
                  obtain ⟨hb_1211, hb_1212, hb_1213, hb_1214, hb_1215⟩ := hb_121
                  have hh_121 : jSt (dC, dI) B base G0 G0 EX10_scanSa9 s.heap 0 0 [(r0, 12, 3, .int qk_121)] [(r1, 175, n1, ca 1, f_l1_72)] [] H_121 locs_121 := ((hh_74.call hb_1211 hb_1212 hb_1213 hb_1214 hS_121 rfl (L1 := []) [] rfl rfl (M1 := [(r1, 175, n1, ca 1, f_l1_72)]) [0] rfl rfl (I1 := []) [] rfl rfl).more hb_1215)
                  clear hh_74 ht_121 hvm_121 hz_121 hk_121 hS_121 hb_1211 hb_1212 hb_1213 hb_1214 hb_1215
                  obtain ⟨hr_122_0, hr_122_1, hr_122_2⟩ := hr_122
                  refine lv_goto (tgt := 226) hx hb dX10_scan_149 (by decide) ?_
                  exact C226 z_7 z_7 qk_121 _ _ (hh_121.sub (L1 := [(r0, 12, 3, .int qk_121)]) [0] rfl (M1 := []) [] rfl (I1 := []) [] rfl) (by first | omega | (refine ⟨?_, ?_, ?_, ?_, ?_⟩ <;> (first | omega | rfl | assumption | decide | exact Or.inl rfl | exact Or.inr rfl | (simp only; omega)))) _ (lv_sub hl [1, 2, 3, 4, 5, 6, 0, 0] rfl)
              · skip
                have c_71' : z_70.toInt < z_3.toInt := jb_ge_n (rfl) (rfl) c_71
                refine lv_aload_n hx hb dX10_scan_99 rfl (lv_at hl 2 rfl) ?_
                refine lv_iload hx hb dX10_scan_100 (lv_at hl 6 rfl) ?_
                refine lv_iconst (v := 1) hx hb dX10_scan_102 (by decide) ?_
                refine lv_iadd hx hb dX10_scan_103 ?_
                refine lv_topi (fun z_123 ez_123 => ?_)
                have hz_123 : z_123.toInt = v5_5.toInt + 1 := by rw [ez_123]; exact jb_iadd2 (rfl) ((by decide)) (by omega)
                refine j7_iald hx hb hK hh_8 hB175 1 rfl (by decide) hg_r1 (x := z_123.toInt) (rfl) (by omega) dX10_scan_104 (fun z_124 (hz_124 : True) => ?_)
                refine lv_bipush (v := 62) hx hb dX10_scan_105 (by decide) ?_
                refine lv_icmp_ne (tgt := 126) hx hb dX10_scan_107 (by decide) (fun c_125 => ?_) (fun c_125 => ?_)
                · skip
                  have c_125' : z_124.toInt ≠ 62 := jb_ne (rfl) ((by decide)) c_125
                  obtain ⟨f_l1_126, hh_126⟩ := hh_8.cpin hB175 (by decide) (by decide) hg_r1
                  clear hh_8
                  refine lv_aload_n hx hb dX10_scan_126 rfl (lv_at hl 2 rfl) ?_
                  refine lv_iload hx hb dX10_scan_127 (lv_at hl 6 rfl) ?_
                  refine j7_ialdM hx hb hK hh_126 hB175 1 rfl (by decide) hg_r1 (x := v5_5.toInt) (rfl) (by omega) (j := 0) rfl dX10_scan_129 (fun z_127 ez_127 (hz_127 : True) => ?_)
                  have hqz_127 : z_127.toInt = (f_l1_126 (v5_5.toInt).toNat).toInt := by rw [ez_127]
                  refine va_calli (A0 := jA base) (H0 := s.heap) (va_runSN (As := [.int z_127]) (rest := []) ⟨hx, hb, hml, hown, hts⟩ (uX11_isDigitB l dC dI ca base B hB hAp G0 H_8 z_127) ⟨va_cnB 1 hts (jgW (jWr_22 _ (List.mem_of_getElem? (i := 15) rfl))) rfl rfl rfl (hG.2.2.1 RX10 60 yX11_isDigit "ProofServer" (List.mem_of_getElem? (i := 1150) (by decide +kernel))) (htw (.initialized RX11) (jWr_1 _ (List.mem_of_getElem? (i := 2) rfl))) (by decide +kernel) ⟨by rw [← hR]; exact Nat.le_of_ble_eq_true rfl, by rw [← hR]; exact Nat.le_of_ble_eq_true rfl⟩, htw (.static yX11_isDigit) (jWr_22 _ (List.mem_of_getElem? (i := 14) rfl)), trivial⟩ ⟨fun a U g mk q => by obtain ⟨q0, q1, q2, qK, q10, q11⟩ := q; exact ⟨q0, q1, q2, jG.calling g mk a qK, q10, q11⟩, fun U hU hW => ⟨rfl, hU, hh_126.2.1, hG.step hW hU hh_126.1, jP.nil, trivial⟩⟩ rfl rfl hl.1 rfl (lv_room (Nat.le_of_ble_eq_true rfl)) dX10_scan_130 ⟨Nat.zero_le _, Nat.zero_le _⟩) hh_126.1 (fun q _ h => h) (fun q h => h) (fun r_129 u_128 t_128 H_128 locs_128 ht_128 hvm_128 hr_129 hb_128 hz_128 hk_128 hS_128 => ?_)
                  rw [ht_128] at hb_128
                  obtain ⟨hb_1281, hb_1282, hb_1283, hb_1284, hb_1285⟩ := hb_128
                  have hh_128 : jSt (dC, dI) B base G0 G0 EX10_scanSa9 s.heap 0 0 [(r0, 12, 3, .int wk_5)] [(r1, 175, n1, ca 1, f_l1_126)] [] H_128 locs_128 := ((hh_126.call hb_1281 hb_1282 hb_1283 hb_1284 hS_128 rfl (L1 := [(r0, 12, 3, .int wk_5)]) [0] rfl rfl (M1 := [(r1, 175, n1, ca 1, f_l1_126)]) [0] rfl rfl (I1 := []) [] rfl rfl).more hb_1285)
                  clear hh_126 ht_128 hvm_128 hz_128 hk_128 hS_128 hb_1281 hb_1282 hb_1283 hb_1284 hb_1285
                  obtain ⟨hr_129b, hr_129p⟩ := hr_129
                  have hr_129' := jb_01 hr_129b
                  refine lv_if_eq (tgt := 152) hx hb dX10_scan_133 (by decide) (fun c_130 => ?_) (fun c_130 => ?_)
                  · skip
                    have c_130' : r_129.toInt = 0 := jb_eq (rfl) ((by decide)) c_130
                    first | (have hr_129pq := hr_129p.resolve_left (by omega); clear hr_129p) | (have hr_129pq := hr_129p.resolve_right (by omega); clear hr_129p) | try clear hr_129p
                    refine lv_aload_n hx hb dX10_scan_152 rfl (lv_at hl 2 rfl) ?_
                    refine lv_iload hx hb dX10_scan_153 (lv_at hl 6 rfl) ?_
                    refine j7_ialdM hx hb hK hh_128 hB175 1 rfl (by decide) hg_r1 (x := v5_5.toInt) (rfl) (by omega) (j := 0) rfl dX10_scan_155 (fun z_131 ez_131 (hz_131 : True) => ?_)
                    have hqz_131 : z_131.toInt = (f_l1_126 (v5_5.toInt).toNat).toInt := by rw [ez_131]
                    refine vp_callSi (va_Run.run (va_runSN (As := [.int z_131]) (rest := []) ⟨hx, hb, hml, hown, hts⟩ (wX11_isBlank l dC dI ca base H_128 z_131) ⟨va_cnB 1 hts (jgW (jWr_20 _ (List.mem_of_getElem? (i := 0) rfl))) rfl rfl rfl (hG.2.2.1 RX10 63 yX11_isBlank "ProofServer" (List.mem_of_getElem? (i := 1151) (by decide +kernel))) (htw (.initialized RX11) (jWr_1 _ (List.mem_of_getElem? (i := 2) rfl))) (by decide +kernel) ⟨by rw [← hR]; exact Nat.le_of_ble_eq_true rfl, by rw [← hR]; exact Nat.le_of_ble_eq_true rfl⟩, htw (.static yX11_isBlank) (jWr_19 _ (List.mem_of_getElem? (i := 23) rfl)), trivial⟩ ⟨fun a U g mk q => by obtain ⟨q0, q1, qK, q9⟩ := q; exact ⟨q0, q1, jG.calling g mk a qK, q9⟩, fun U hU hW => ⟨rfl, hU, hG.step hW hU hh_128.1, by first | trivial | omega | (constructor <;> omega)⟩⟩ rfl rfl hl.1 rfl (lv_room (Nat.le_of_ble_eq_true rfl)) dX10_scan_156 ⟨Nat.zero_le _, Nat.zero_le _⟩)) (fun r_132 hr_132 => ?_)
                    have hr_132' : r_132.toInt = 0 ∨ r_132.toInt = 1 := jb_01 hr_132
                    refine lv_if_ne (tgt := 226) hx hb dX10_scan_159 (by decide) (fun c_133 => ?_) (fun c_133 => ?_)
                    · skip
                      have c_133' : r_132.toInt ≠ 0 := jb_ne (rfl) ((by decide)) c_133
                      exact C226 z_7 z_7 wk_5 _ _ (hh_128.sub (L1 := [(r0, 12, 3, .int wk_5)]) [0] rfl (M1 := []) [] rfl (I1 := []) [] rfl) (by first | omega | (refine ⟨?_, ?_, ?_, ?_, ?_⟩ <;> (first | omega | rfl | assumption | decide | exact Or.inl rfl | exact Or.inr rfl | (simp only; omega)))) _ (lv_sub hl [1, 2, 3, 4, 5, 6, 0, 0] rfl)
                    · skip
                      have c_133' : r_132.toInt = 0 := jb_ne_n (rfl) ((by decide)) c_133
                      refine lv_aload_n hx hb dX10_scan_162 rfl (lv_at hl 2 rfl) ?_
                      refine lv_iload hx hb dX10_scan_163 (lv_at hl 6 rfl) ?_
                      refine j7_ialdM hx hb hK hh_128 hB175 1 rfl (by decide) hg_r1 (x := v5_5.toInt) (rfl) (by omega) (j := 0) rfl dX10_scan_165 (fun z_134 ez_134 (hz_134 : True) => ?_)
                      have hqz_134 : z_134.toInt = (f_l1_126 (v5_5.toInt).toNat).toInt := by rw [ez_134]
                      refine lv_bipush (v := 46) hx hb dX10_scan_166 (by decide) ?_
                      refine lv_icmp_ne (tgt := 178) hx hb dX10_scan_168 (by decide) (fun c_135 => ?_) (fun c_135 => ?_)
                      · skip
                        have c_135' : z_134.toInt ≠ 46 := jb_ne (rfl) ((by decide)) c_135
                        refine lv_aload_n hx hb dX10_scan_178 rfl (lv_at hl 2 rfl) ?_
                        refine lv_iload hx hb dX10_scan_179 (lv_at hl 6 rfl) ?_
                        refine j7_ialdM hx hb hK hh_128 hB175 1 rfl (by decide) hg_r1 (x := v5_5.toInt) (rfl) (by omega) (j := 0) rfl dX10_scan_181 (fun z_136 ez_136 (hz_136 : True) => ?_)
                        have hqz_136 : z_136.toInt = (f_l1_126 (v5_5.toInt).toNat).toInt := by rw [ez_136]
                        refine lv_sipush (v := 128) hx hb dX10_scan_182 (by decide) ?_
                        refine lv_icmp_ge (tgt := 205) hx hb dX10_scan_185 (by decide) (fun c_137 => ?_) (fun c_137 => ?_)
                        · skip
                          have c_137' : z_136.toInt ≥ 128 := jb_ge (rfl) ((by decide)) c_137
                          refine lv_iconst (v := 0) hx hb dX10_scan_205 (by decide) ?_
                          refine lv_istore (lv' := [(7, .int 0), (6, .int z_7), (0, .ref r0), (1, .ref r1), (2, .int a2), (3, .int a3), (4, .int z_3), (5, .int v5_5)]) hx hb dX10_scan_206 hl (by decide) rfl (fun ls hl => ?_)
                          refine lv_aload_n hx hb dX10_scan_208 rfl (lv_at hl 2 rfl) ?_
                          refine lv_iload hx hb dX10_scan_209 (lv_at hl 0 rfl) ?_
                          refine lv_if_eq (tgt := 221) hx hb dX10_scan_211 (by decide) (fun c_138 => ?_) (fun c_138 => ?_)
                          · skip
                            refine lv_iconst (v := 0) hx hb dX10_scan_221 (by decide) ?_
                            refine lv_iconst (v := 0) hx hb dX10_scan_222 (by decide) ?_
                            refine va_callv (A0 := jA base) (H0 := s.heap) (va_runV (As := [.int 0, .int 0]) (rest := []) ⟨hx, hb, hml, hown, hts⟩ (uX10_addB l dC dI ca base B hB hAp hB12 hB101 hB293 G0 H_128 r0 0 0 wk_5) (cwV 2 hts (jgV (jWr_37 _ (List.mem_of_getElem? (i := 7) rfl)) (jWr_37 _ (List.mem_of_getElem? (i := 8) rfl)) (jWr_37 _ (List.mem_of_getElem? (i := 9) rfl)) (jWr_4 _ (List.mem_of_getElem? (i := 14) rfl)) (jWr_37 _ (List.mem_of_getElem? (i := 10) rfl))) rfl rfl rfl (by decide +kernel) ⟨by rw [← hR]; exact Nat.le_of_ble_eq_true rfl, by rw [← hR]; exact Nat.le_of_ble_eq_true rfl⟩) ⟨fun a U g mk q => by obtain ⟨q0, q1, q2, qK, q10, q11, q12⟩ := q; exact ⟨q0, q1, q2, jG.calling g mk a qK, q10, q11, q12⟩, hh_128.recv (C := RX10) (T := TX10) (N := 11) hB12 rfl (by decide) hg_r0 hK, fun U hU hW => ⟨rfl, hU, hh_128.2.1, hG.step hW hU hh_128.1, hg_r0, (hh_128.2.2.1.sub (L1 := [(r0, 12, 3, .int wk_5)]) [0] rfl), by first | omega | (refine ⟨?_, ?_, ?_, ?_⟩ <;> (first | omega | rfl | assumption | decide | exact Or.inl rfl | exact Or.inr rfl | (simp only; omega)))⟩⟩ rfl rfl hl.1 rfl (lv_room (Nat.le_of_ble_eq_true rfl)) dX10_scan_223 ⟨Nat.zero_le _, Nat.zero_le _⟩) hh_128.1 (fun q _ h => h) (fun q h => h) (fun u_139 t_139 H_139 locs_139 ht_139 hvm_139 hr_140 hb_139 hz_139 hk_139 hS_139 => ?_)
                            obtain ⟨qk_139, rfl⟩ : ∃ z, z = u_139 := ⟨_, rfl⟩
                            rw [ht_139] at hb_139
                            obtain ⟨hb_1391, hb_1392, hb_1393, hb_1394, hb_1395⟩ := hb_139
                            have hh_139 : jSt (dC, dI) B base G0 G0 EX10_scanSa9 s.heap 0 0 [(r0, 12, 3, .int qk_139)] [(r1, 175, n1, ca 1, f_l1_126)] [] H_139 locs_139 := ((hh_128.call hb_1391 hb_1392 hb_1393 hb_1394 hS_139 rfl (L1 := []) [] rfl rfl (M1 := [(r1, 175, n1, ca 1, f_l1_126)]) [0] rfl rfl (I1 := []) [] rfl rfl).more hb_1395)
                            clear hh_128 ht_139 hvm_139 hz_139 hk_139 hS_139 hb_1391 hb_1392 hb_1393 hb_1394 hb_1395
                            obtain ⟨hr_140_0, hr_140_1, hr_140_2⟩ := hr_140
                            exact C226 z_7 z_7 qk_139 _ _ (hh_139.sub (L1 := [(r0, 12, 3, .int qk_139)]) [0] rfl (M1 := []) [] rfl (I1 := []) [] rfl) (by first | omega | (refine ⟨?_, ?_, ?_, ?_, ?_⟩ <;> (first | omega | rfl | assumption | decide | exact Or.inl rfl | exact Or.inr rfl | (simp only; omega)))) _ (lv_sub hl [2, 3, 4, 5, 6, 7, 1, 1] rfl)
                          · skip
                            exact absurd c_138 (by decide)
                        · skip
                          have c_137' : z_136.toInt < 128 := jb_ge_n (rfl) ((by decide)) c_137
                          refine va_ldcS hx hb hown rstr66 dX10_scan_188 ?_
                          refine lv_aload_n hx hb dX10_scan_190 rfl (lv_at hl 2 rfl) ?_
                          refine lv_iload hx hb dX10_scan_191 (lv_at hl 6 rfl) ?_
                          refine j7_ialdM hx hb hK hh_128 hB175 1 rfl (by decide) hg_r1 (x := v5_5.toInt) (rfl) (by omega) (j := 0) rfl dX10_scan_193 (fun z_141 ez_141 (hz_141 : True) => ?_)
                          have hqz_141 : z_141.toInt = (f_l1_126 (v5_5.toInt).toNat).toInt := by rw [ez_141]
                          refine lv_i2c hx hb dX10_scan_194 rfl ?_
                          refine lv_topi (fun z_142 ez_142 => ?_)
                          refine vp_callSi (W.runV (As := [.int z_142]) (rest := []) ⟨hx, hb, hml, hown, hts⟩ (wJ0_indexOf_0f7a4 l dC dI ca base H_128 str66 8 z_142) (cwV 1 hts (jgV (jWr_37 _ (List.mem_of_getElem? (i := 11) rfl)) (jWr_37 _ (List.mem_of_getElem? (i := 12) rfl)) (jWr_37 _ (List.mem_of_getElem? (i := 13) rfl)) (jWr_5 _ (List.mem_of_getElem? (i := 15) rfl)) (jWr_37 _ (List.mem_of_getElem? (i := 14) rfl))) rfl rfl rfl (by decide +kernel) ⟨by rw [← hR]; exact Nat.le_of_ble_eq_true rfl, by rw [← hR]; exact Nat.le_of_ble_eq_true rfl⟩) ⟨fun a U g mk q => by obtain ⟨q0, q1, q2, qK, q9⟩ := q; exact ⟨q0, q1, (q2.moved (Vm.Alike.refl U.vm)), jG.calling g mk a qK, q9⟩, jStr_recv hstr66 hh_128.1, fun U hU hW => ⟨rfl, hU, (hstr66.moved hW.alike).kept hh_128.1.2.1, hG.step hW hU hh_128.1, by omega⟩⟩ rfl rfl hl.1 rfl (lv_room (Nat.le_of_ble_eq_true rfl)) dX10_scan_195 ⟨Nat.zero_le _, Nat.zero_le _⟩) (fun r_143 hr_143 => ?_)
                          refine lv_if_lt (tgt := 205) hx hb dX10_scan_198 (by decide) (fun c_144 => ?_) (fun c_144 => ?_)
                          · skip
                            have c_144' : r_143.toInt < 0 := jb_lt (rfl) ((by decide)) c_144
                            refine lv_iconst (v := 0) hx hb dX10_scan_205 (by decide) ?_
                            refine lv_istore (lv' := [(7, .int 0), (6, .int z_7), (0, .ref r0), (1, .ref r1), (2, .int a2), (3, .int a3), (4, .int z_3), (5, .int v5_5)]) hx hb dX10_scan_206 hl (by decide) rfl (fun ls hl => ?_)
                            refine lv_aload_n hx hb dX10_scan_208 rfl (lv_at hl 2 rfl) ?_
                            refine lv_iload hx hb dX10_scan_209 (lv_at hl 0 rfl) ?_
                            refine lv_if_eq (tgt := 221) hx hb dX10_scan_211 (by decide) (fun c_145 => ?_) (fun c_145 => ?_)
                            · skip
                              refine lv_iconst (v := 0) hx hb dX10_scan_221 (by decide) ?_
                              refine lv_iconst (v := 0) hx hb dX10_scan_222 (by decide) ?_
                              refine va_callv (A0 := jA base) (H0 := s.heap) (va_runV (As := [.int 0, .int 0]) (rest := []) ⟨hx, hb, hml, hown, hts⟩ (uX10_addB l dC dI ca base B hB hAp hB12 hB101 hB293 G0 H_128 r0 0 0 wk_5) (cwV 2 hts (jgV (jWr_37 _ (List.mem_of_getElem? (i := 7) rfl)) (jWr_37 _ (List.mem_of_getElem? (i := 8) rfl)) (jWr_37 _ (List.mem_of_getElem? (i := 9) rfl)) (jWr_4 _ (List.mem_of_getElem? (i := 14) rfl)) (jWr_37 _ (List.mem_of_getElem? (i := 10) rfl))) rfl rfl rfl (by decide +kernel) ⟨by rw [← hR]; exact Nat.le_of_ble_eq_true rfl, by rw [← hR]; exact Nat.le_of_ble_eq_true rfl⟩) ⟨fun a U g mk q => by obtain ⟨q0, q1, q2, qK, q10, q11, q12⟩ := q; exact ⟨q0, q1, q2, jG.calling g mk a qK, q10, q11, q12⟩, hh_128.recv (C := RX10) (T := TX10) (N := 11) hB12 rfl (by decide) hg_r0 hK, fun U hU hW => ⟨rfl, hU, hh_128.2.1, hG.step hW hU hh_128.1, hg_r0, (hh_128.2.2.1.sub (L1 := [(r0, 12, 3, .int wk_5)]) [0] rfl), by first | omega | (refine ⟨?_, ?_, ?_, ?_⟩ <;> (first | omega | rfl | assumption | decide | exact Or.inl rfl | exact Or.inr rfl | (simp only; omega)))⟩⟩ rfl rfl hl.1 rfl (lv_room (Nat.le_of_ble_eq_true rfl)) dX10_scan_223 ⟨Nat.zero_le _, Nat.zero_le _⟩) hh_128.1 (fun q _ h => h) (fun q h => h) (fun u_146 t_146 H_146 locs_146 ht_146 hvm_146 hr_147 hb_146 hz_146 hk_146 hS_146 => ?_)
                              obtain ⟨qk_146, rfl⟩ : ∃ z, z = u_146 := ⟨_, rfl⟩
                              rw [ht_146] at hb_146
                              obtain ⟨hb_1461, hb_1462, hb_1463, hb_1464, hb_1465⟩ := hb_146
                              have hh_146 : jSt (dC, dI) B base G0 G0 EX10_scanSa9 s.heap 0 0 [(r0, 12, 3, .int qk_146)] [(r1, 175, n1, ca 1, f_l1_126)] [] H_146 locs_146 := ((hh_128.call hb_1461 hb_1462 hb_1463 hb_1464 hS_146 rfl (L1 := []) [] rfl rfl (M1 := [(r1, 175, n1, ca 1, f_l1_126)]) [0] rfl rfl (I1 := []) [] rfl rfl).more hb_1465)
                              clear hh_128 ht_146 hvm_146 hz_146 hk_146 hS_146 hb_1461 hb_1462 hb_1463 hb_1464 hb_1465
                              obtain ⟨hr_147_0, hr_147_1, hr_147_2⟩ := hr_147
                              exact C226 z_7 z_7 qk_146 _ _ (hh_146.sub (L1 := [(r0, 12, 3, .int qk_146)]) [0] rfl (M1 := []) [] rfl (I1 := []) [] rfl) (by first | omega | (refine ⟨?_, ?_, ?_, ?_, ?_⟩ <;> (first | omega | rfl | assumption | decide | exact Or.inl rfl | exact Or.inr rfl | (simp only; omega)))) _ (lv_sub hl [2, 3, 4, 5, 6, 7, 1, 1] rfl)
                            · skip
                              exact absurd c_145 (by decide)
                          · skip
                            have c_144' : r_143.toInt ≥ 0 := jb_lt_n (rfl) ((by decide)) c_144
                            refine lv_iconst (v := 1) hx hb dX10_scan_201 (by decide) ?_
                            refine lv_goto (tgt := 206) hx hb dX10_scan_202 (by decide) ?_
                            refine lv_istore (lv' := [(7, .int 1), (6, .int z_7), (0, .ref r0), (1, .ref r1), (2, .int a2), (3, .int a3), (4, .int z_3), (5, .int v5_5)]) hx hb dX10_scan_206 hl (by decide) rfl (fun ls hl => ?_)
                            refine lv_aload_n hx hb dX10_scan_208 rfl (lv_at hl 2 rfl) ?_
                            refine lv_iload hx hb dX10_scan_209 (lv_at hl 0 rfl) ?_
                            refine lv_if_eq (tgt := 221) hx hb dX10_scan_211 (by decide) (fun c_148 => ?_) (fun c_148 => ?_)
                            · skip
                              exact absurd c_148 (by decide)
                            · skip
                              refine lv_aload_n hx hb dX10_scan_214 rfl (lv_at hl 3 rfl) ?_
                              refine lv_iload hx hb dX10_scan_215 (lv_at hl 7 rfl) ?_
                              refine j7_ialdM hx hb hK hh_128 hB175 1 rfl (by decide) hg_r1 (x := v5_5.toInt) (rfl) (by omega) (j := 0) rfl dX10_scan_217 (fun z_149 ez_149 (hz_149 : True) => ?_)
                              have hqz_149 : z_149.toInt = (f_l1_126 (v5_5.toInt).toNat).toInt := by rw [ez_149]
                              refine lv_goto (tgt := 222) hx hb dX10_scan_218 (by decide) ?_
                              refine lv_iconst (v := 0) hx hb dX10_scan_222 (by decide) ?_
                              refine va_callv (A0 := jA base) (H0 := s.heap) (va_runV (As := [.int z_149, .int 0]) (rest := []) ⟨hx, hb, hml, hown, hts⟩ (uX10_addB l dC dI ca base B hB hAp hB12 hB101 hB293 G0 H_128 r0 z_149 0 wk_5) (cwV 2 hts (jgV (jWr_37 _ (List.mem_of_getElem? (i := 7) rfl)) (jWr_37 _ (List.mem_of_getElem? (i := 8) rfl)) (jWr_37 _ (List.mem_of_getElem? (i := 9) rfl)) (jWr_4 _ (List.mem_of_getElem? (i := 14) rfl)) (jWr_37 _ (List.mem_of_getElem? (i := 10) rfl))) rfl rfl rfl (by decide +kernel) ⟨by rw [← hR]; exact Nat.le_of_ble_eq_true rfl, by rw [← hR]; exact Nat.le_of_ble_eq_true rfl⟩) ⟨fun a U g mk q => by obtain ⟨q0, q1, q2, qK, q10, q11, q12⟩ := q; exact ⟨q0, q1, q2, jG.calling g mk a qK, q10, q11, q12⟩, hh_128.recv (C := RX10) (T := TX10) (N := 11) hB12 rfl (by decide) hg_r0 hK, fun U hU hW => ⟨rfl, hU, hh_128.2.1, hG.step hW hU hh_128.1, hg_r0, (hh_128.2.2.1.sub (L1 := [(r0, 12, 3, .int wk_5)]) [0] rfl), by first | omega | (refine ⟨?_, ?_, ?_, ?_⟩ <;> (first | omega | rfl | assumption | decide | exact Or.inl rfl | exact Or.inr rfl | (simp only; omega)))⟩⟩ rfl rfl hl.1 rfl (lv_room (Nat.le_of_ble_eq_true rfl)) dX10_scan_223 ⟨Nat.zero_le _, Nat.zero_le _⟩) hh_128.1 (fun q _ h => h) (fun q h => h) (fun u_150 t_150 H_150 locs_150 ht_150 hvm_150 hr_151 hb_150 hz_150 hk_150 hS_150 => ?_)
                              obtain ⟨qk_150, rfl⟩ : ∃ z, z = u_150 := ⟨_, rfl⟩
                              rw [ht_150] at hb_150
                              obtain ⟨hb_1501, hb_1502, hb_1503, hb_1504, hb_1505⟩ := hb_150
                              have hh_150 : jSt (dC, dI) B base G0 G0 EX10_scanSa9 s.heap 0 0 [(r0, 12, 3, .int qk_150)] [(r1, 175, n1, ca 1, f_l1_126)] [] H_150 locs_150 := ((hh_128.call hb_1501 hb_1502 hb_1503 hb_1504 hS_150 rfl (L1 := []) [] rfl rfl (M1 := [(r1, 175, n1, ca 1, f_l1_126)]) [0] rfl rfl (I1 := []) [] rfl rfl).more hb_1505)
                              clear hh_128 ht_150 hvm_150 hz_150 hk_150 hS_150 hb_1501 hb_1502 hb_1503 hb_1504 hb_1505
                              obtain ⟨hr_151_0, hr_151_1, hr_151_2⟩ := hr_151
                              exact C226 z_7 z_7 qk_150 _ _ (hh_150.sub (L1 := [(r0, 12, 3, .int qk_150)]) [0] rfl (M1 := []) [] rfl (I1 := []) [] rfl) (by first | omega | (refine ⟨?_, ?_, ?_, ?_, ?_⟩ <;> (first | omega | rfl | assumption | decide | exact Or.inl rfl | exact Or.inr rfl | (simp only; omega)))) _ (lv_sub hl [2, 3, 4, 5, 6, 7, 1, 1] rfl)
                      · skip
                        have c_135' : z_134.toInt = 46 := jb_ne_n (rfl) ((by decide)) c_135
                        refine lv_iload hx hb dX10_scan_171 (lv_at hl 0 rfl) ?_
                        refine lv_iload hx hb dX10_scan_173 (lv_at hl 5 rfl) ?_
                        refine lv_icmp_eq (tgt := 201) hx hb dX10_scan_175 (by decide) (fun c_152 => ?_) (fun c_152 => ?_)
                        · skip
                          have c_152' : z_7.toInt = z_3.toInt := jb_eq (rfl) (rfl) c_152
                          refine lv_iconst (v := 1) hx hb dX10_scan_201 (by decide) ?_
                          refine lv_goto (tgt := 206) hx hb dX10_scan_202 (by decide) ?_
                          refine lv_istore (lv' := [(7, .int 1), (6, .int z_7), (0, .ref r0), (1, .ref r1), (2, .int a2), (3, .int a3), (4, .int z_3), (5, .int v5_5)]) hx hb dX10_scan_206 hl (by decide) rfl (fun ls hl => ?_)
                          refine lv_aload_n hx hb dX10_scan_208 rfl (lv_at hl 2 rfl) ?_
                          refine lv_iload hx hb dX10_scan_209 (lv_at hl 0 rfl) ?_
                          refine lv_if_eq (tgt := 221) hx hb dX10_scan_211 (by decide) (fun c_153 => ?_) (fun c_153 => ?_)
                          · skip
                            exact absurd c_153 (by decide)
                          · skip
                            refine lv_aload_n hx hb dX10_scan_214 rfl (lv_at hl 3 rfl) ?_
                            refine lv_iload hx hb dX10_scan_215 (lv_at hl 7 rfl) ?_
                            refine j7_ialdM hx hb hK hh_128 hB175 1 rfl (by decide) hg_r1 (x := v5_5.toInt) (rfl) (by omega) (j := 0) rfl dX10_scan_217 (fun z_154 ez_154 (hz_154 : True) => ?_)
                            have hqz_154 : z_154.toInt = (f_l1_126 (v5_5.toInt).toNat).toInt := by rw [ez_154]
                            refine lv_goto (tgt := 222) hx hb dX10_scan_218 (by decide) ?_
                            refine lv_iconst (v := 0) hx hb dX10_scan_222 (by decide) ?_
                            refine va_callv (A0 := jA base) (H0 := s.heap) (va_runV (As := [.int z_154, .int 0]) (rest := []) ⟨hx, hb, hml, hown, hts⟩ (uX10_addB l dC dI ca base B hB hAp hB12 hB101 hB293 G0 H_128 r0 z_154 0 wk_5) (cwV 2 hts (jgV (jWr_37 _ (List.mem_of_getElem? (i := 7) rfl)) (jWr_37 _ (List.mem_of_getElem? (i := 8) rfl)) (jWr_37 _ (List.mem_of_getElem? (i := 9) rfl)) (jWr_4 _ (List.mem_of_getElem? (i := 14) rfl)) (jWr_37 _ (List.mem_of_getElem? (i := 10) rfl))) rfl rfl rfl (by decide +kernel) ⟨by rw [← hR]; exact Nat.le_of_ble_eq_true rfl, by rw [← hR]; exact Nat.le_of_ble_eq_true rfl⟩) ⟨fun a U g mk q => by obtain ⟨q0, q1, q2, qK, q10, q11, q12⟩ := q; exact ⟨q0, q1, q2, jG.calling g mk a qK, q10, q11, q12⟩, hh_128.recv (C := RX10) (T := TX10) (N := 11) hB12 rfl (by decide) hg_r0 hK, fun U hU hW => ⟨rfl, hU, hh_128.2.1, hG.step hW hU hh_128.1, hg_r0, (hh_128.2.2.1.sub (L1 := [(r0, 12, 3, .int wk_5)]) [0] rfl), by first | omega | (refine ⟨?_, ?_, ?_, ?_⟩ <;> (first | omega | rfl | assumption | decide | exact Or.inl rfl | exact Or.inr rfl | (simp only; omega)))⟩⟩ rfl rfl hl.1 rfl (lv_room (Nat.le_of_ble_eq_true rfl)) dX10_scan_223 ⟨Nat.zero_le _, Nat.zero_le _⟩) hh_128.1 (fun q _ h => h) (fun q h => h) (fun u_155 t_155 H_155 locs_155 ht_155 hvm_155 hr_156 hb_155 hz_155 hk_155 hS_155 => ?_)
                            obtain ⟨qk_155, rfl⟩ : ∃ z, z = u_155 := ⟨_, rfl⟩
                            rw [ht_155] at hb_155
                            obtain ⟨hb_1551, hb_1552, hb_1553, hb_1554, hb_1555⟩ := hb_155
                            have hh_155 : jSt (dC, dI) B base G0 G0 EX10_scanSa9 s.heap 0 0 [(r0, 12, 3, .int qk_155)] [(r1, 175, n1, ca 1, f_l1_126)] [] H_155 locs_155 := ((hh_128.call hb_1551 hb_1552 hb_1553 hb_1554 hS_155 rfl (L1 := []) [] rfl rfl (M1 := [(r1, 175, n1, ca 1, f_l1_126)]) [0] rfl rfl (I1 := []) [] rfl rfl).more hb_1555)
                            clear hh_128 ht_155 hvm_155 hz_155 hk_155 hS_155 hb_1551 hb_1552 hb_1553 hb_1554 hb_1555
                            obtain ⟨hr_156_0, hr_156_1, hr_156_2⟩ := hr_156
                            exact C226 z_7 z_7 qk_155 _ _ (hh_155.sub (L1 := [(r0, 12, 3, .int qk_155)]) [0] rfl (M1 := []) [] rfl (I1 := []) [] rfl) (by first | omega | (refine ⟨?_, ?_, ?_, ?_, ?_⟩ <;> (first | omega | rfl | assumption | decide | exact Or.inl rfl | exact Or.inr rfl | (simp only; omega)))) _ (lv_sub hl [2, 3, 4, 5, 6, 7, 1, 1] rfl)
                        · skip
                          have c_152' : z_7.toInt ≠ z_3.toInt := jb_eq_n (rfl) (rfl) c_152
                          refine lv_aload_n hx hb dX10_scan_178 rfl (lv_at hl 2 rfl) ?_
                          refine lv_iload hx hb dX10_scan_179 (lv_at hl 6 rfl) ?_
                          refine j7_ialdM hx hb hK hh_128 hB175 1 rfl (by decide) hg_r1 (x := v5_5.toInt) (rfl) (by omega) (j := 0) rfl dX10_scan_181 (fun z_157 ez_157 (hz_157 : True) => ?_)
                          have hqz_157 : z_157.toInt = (f_l1_126 (v5_5.toInt).toNat).toInt := by rw [ez_157]
                          refine lv_sipush (v := 128) hx hb dX10_scan_182 (by decide) ?_
                          refine lv_icmp_ge (tgt := 205) hx hb dX10_scan_185 (by decide) (fun c_158 => ?_) (fun c_158 => ?_)
                          · skip
                            have c_158' : z_157.toInt ≥ 128 := jb_ge (rfl) ((by decide)) c_158
                            refine lv_iconst (v := 0) hx hb dX10_scan_205 (by decide) ?_
                            refine lv_istore (lv' := [(7, .int 0), (6, .int z_7), (0, .ref r0), (1, .ref r1), (2, .int a2), (3, .int a3), (4, .int z_3), (5, .int v5_5)]) hx hb dX10_scan_206 hl (by decide) rfl (fun ls hl => ?_)
                            refine lv_aload_n hx hb dX10_scan_208 rfl (lv_at hl 2 rfl) ?_
                            refine lv_iload hx hb dX10_scan_209 (lv_at hl 0 rfl) ?_
                            refine lv_if_eq (tgt := 221) hx hb dX10_scan_211 (by decide) (fun c_159 => ?_) (fun c_159 => ?_)
                            · skip
                              refine lv_iconst (v := 0) hx hb dX10_scan_221 (by decide) ?_
                              refine lv_iconst (v := 0) hx hb dX10_scan_222 (by decide) ?_
                              refine va_callv (A0 := jA base) (H0 := s.heap) (va_runV (As := [.int 0, .int 0]) (rest := []) ⟨hx, hb, hml, hown, hts⟩ (uX10_addB l dC dI ca base B hB hAp hB12 hB101 hB293 G0 H_128 r0 0 0 wk_5) (cwV 2 hts (jgV (jWr_37 _ (List.mem_of_getElem? (i := 7) rfl)) (jWr_37 _ (List.mem_of_getElem? (i := 8) rfl)) (jWr_37 _ (List.mem_of_getElem? (i := 9) rfl)) (jWr_4 _ (List.mem_of_getElem? (i := 14) rfl)) (jWr_37 _ (List.mem_of_getElem? (i := 10) rfl))) rfl rfl rfl (by decide +kernel) ⟨by rw [← hR]; exact Nat.le_of_ble_eq_true rfl, by rw [← hR]; exact Nat.le_of_ble_eq_true rfl⟩) ⟨fun a U g mk q => by obtain ⟨q0, q1, q2, qK, q10, q11, q12⟩ := q; exact ⟨q0, q1, q2, jG.calling g mk a qK, q10, q11, q12⟩, hh_128.recv (C := RX10) (T := TX10) (N := 11) hB12 rfl (by decide) hg_r0 hK, fun U hU hW => ⟨rfl, hU, hh_128.2.1, hG.step hW hU hh_128.1, hg_r0, (hh_128.2.2.1.sub (L1 := [(r0, 12, 3, .int wk_5)]) [0] rfl), by first | omega | (refine ⟨?_, ?_, ?_, ?_⟩ <;> (first | omega | rfl | assumption | decide | exact Or.inl rfl | exact Or.inr rfl | (simp only; omega)))⟩⟩ rfl rfl hl.1 rfl (lv_room (Nat.le_of_ble_eq_true rfl)) dX10_scan_223 ⟨Nat.zero_le _, Nat.zero_le _⟩) hh_128.1 (fun q _ h => h) (fun q h => h) (fun u_160 t_160 H_160 locs_160 ht_160 hvm_160 hr_161 hb_160 hz_160 hk_160 hS_160 => ?_)
                              obtain ⟨qk_160, rfl⟩ : ∃ z, z = u_160 := ⟨_, rfl⟩
                              rw [ht_160] at hb_160
                              obtain ⟨hb_1601, hb_1602, hb_1603, hb_1604, hb_1605⟩ := hb_160
                              have hh_160 : jSt (dC, dI) B base G0 G0 EX10_scanSa9 s.heap 0 0 [(r0, 12, 3, .int qk_160)] [(r1, 175, n1, ca 1, f_l1_126)] [] H_160 locs_160 := ((hh_128.call hb_1601 hb_1602 hb_1603 hb_1604 hS_160 rfl (L1 := []) [] rfl rfl (M1 := [(r1, 175, n1, ca 1, f_l1_126)]) [0] rfl rfl (I1 := []) [] rfl rfl).more hb_1605)
                              clear hh_128 ht_160 hvm_160 hz_160 hk_160 hS_160 hb_1601 hb_1602 hb_1603 hb_1604 hb_1605
                              obtain ⟨hr_161_0, hr_161_1, hr_161_2⟩ := hr_161
                              exact C226 z_7 z_7 qk_160 _ _ (hh_160.sub (L1 := [(r0, 12, 3, .int qk_160)]) [0] rfl (M1 := []) [] rfl (I1 := []) [] rfl) (by first | omega | (refine ⟨?_, ?_, ?_, ?_, ?_⟩ <;> (first | omega | rfl | assumption | decide | exact Or.inl rfl | exact Or.inr rfl | (simp only; omega)))) _ (lv_sub hl [2, 3, 4, 5, 6, 7, 1, 1] rfl)
                            · skip
                              exact absurd c_159 (by decide)
                          · skip
                            have c_158' : z_157.toInt < 128 := jb_ge_n (rfl) ((by decide)) c_158
                            refine va_ldcS hx hb hown rstr66 dX10_scan_188 ?_
                            refine lv_aload_n hx hb dX10_scan_190 rfl (lv_at hl 2 rfl) ?_
                            refine lv_iload hx hb dX10_scan_191 (lv_at hl 6 rfl) ?_
                            refine j7_ialdM hx hb hK hh_128 hB175 1 rfl (by decide) hg_r1 (x := v5_5.toInt) (rfl) (by omega) (j := 0) rfl dX10_scan_193 (fun z_162 ez_162 (hz_162 : True) => ?_)
                            have hqz_162 : z_162.toInt = (f_l1_126 (v5_5.toInt).toNat).toInt := by rw [ez_162]
                            refine lv_i2c hx hb dX10_scan_194 rfl ?_
                            refine lv_topi (fun z_163 ez_163 => ?_)
                            refine vp_callSi (W.runV (As := [.int z_163]) (rest := []) ⟨hx, hb, hml, hown, hts⟩ (wJ0_indexOf_0f7a4 l dC dI ca base H_128 str66 8 z_163) (cwV 1 hts (jgV (jWr_37 _ (List.mem_of_getElem? (i := 11) rfl)) (jWr_37 _ (List.mem_of_getElem? (i := 12) rfl)) (jWr_37 _ (List.mem_of_getElem? (i := 13) rfl)) (jWr_5 _ (List.mem_of_getElem? (i := 15) rfl)) (jWr_37 _ (List.mem_of_getElem? (i := 14) rfl))) rfl rfl rfl (by decide +kernel) ⟨by rw [← hR]; exact Nat.le_of_ble_eq_true rfl, by rw [← hR]; exact Nat.le_of_ble_eq_true rfl⟩) ⟨fun a U g mk q => by obtain ⟨q0, q1, q2, qK, q9⟩ := q; exact ⟨q0, q1, (q2.moved (Vm.Alike.refl U.vm)), jG.calling g mk a qK, q9⟩, jStr_recv hstr66 hh_128.1, fun U hU hW => ⟨rfl, hU, (hstr66.moved hW.alike).kept hh_128.1.2.1, hG.step hW hU hh_128.1, by omega⟩⟩ rfl rfl hl.1 rfl (lv_room (Nat.le_of_ble_eq_true rfl)) dX10_scan_195 ⟨Nat.zero_le _, Nat.zero_le _⟩) (fun r_164 hr_164 => ?_)
                            refine lv_if_lt (tgt := 205) hx hb dX10_scan_198 (by decide) (fun c_165 => ?_) (fun c_165 => ?_)
                            · skip
                              have c_165' : r_164.toInt < 0 := jb_lt (rfl) ((by decide)) c_165
                              refine lv_iconst (v := 0) hx hb dX10_scan_205 (by decide) ?_
                              refine lv_istore (lv' := [(7, .int 0), (6, .int z_7), (0, .ref r0), (1, .ref r1), (2, .int a2), (3, .int a3), (4, .int z_3), (5, .int v5_5)]) hx hb dX10_scan_206 hl (by decide) rfl (fun ls hl => ?_)
                              refine lv_aload_n hx hb dX10_scan_208 rfl (lv_at hl 2 rfl) ?_
                              refine lv_iload hx hb dX10_scan_209 (lv_at hl 0 rfl) ?_
                              refine lv_if_eq (tgt := 221) hx hb dX10_scan_211 (by decide) (fun c_166 => ?_) (fun c_166 => ?_)
                              · skip
                                refine lv_iconst (v := 0) hx hb dX10_scan_221 (by decide) ?_
                                refine lv_iconst (v := 0) hx hb dX10_scan_222 (by decide) ?_
                                refine va_callv (A0 := jA base) (H0 := s.heap) (va_runV (As := [.int 0, .int 0]) (rest := []) ⟨hx, hb, hml, hown, hts⟩ (uX10_addB l dC dI ca base B hB hAp hB12 hB101 hB293 G0 H_128 r0 0 0 wk_5) (cwV 2 hts (jgV (jWr_37 _ (List.mem_of_getElem? (i := 7) rfl)) (jWr_37 _ (List.mem_of_getElem? (i := 8) rfl)) (jWr_37 _ (List.mem_of_getElem? (i := 9) rfl)) (jWr_4 _ (List.mem_of_getElem? (i := 14) rfl)) (jWr_37 _ (List.mem_of_getElem? (i := 10) rfl))) rfl rfl rfl (by decide +kernel) ⟨by rw [← hR]; exact Nat.le_of_ble_eq_true rfl, by rw [← hR]; exact Nat.le_of_ble_eq_true rfl⟩) ⟨fun a U g mk q => by obtain ⟨q0, q1, q2, qK, q10, q11, q12⟩ := q; exact ⟨q0, q1, q2, jG.calling g mk a qK, q10, q11, q12⟩, hh_128.recv (C := RX10) (T := TX10) (N := 11) hB12 rfl (by decide) hg_r0 hK, fun U hU hW => ⟨rfl, hU, hh_128.2.1, hG.step hW hU hh_128.1, hg_r0, (hh_128.2.2.1.sub (L1 := [(r0, 12, 3, .int wk_5)]) [0] rfl), by first | omega | (refine ⟨?_, ?_, ?_, ?_⟩ <;> (first | omega | rfl | assumption | decide | exact Or.inl rfl | exact Or.inr rfl | (simp only; omega)))⟩⟩ rfl rfl hl.1 rfl (lv_room (Nat.le_of_ble_eq_true rfl)) dX10_scan_223 ⟨Nat.zero_le _, Nat.zero_le _⟩) hh_128.1 (fun q _ h => h) (fun q h => h) (fun u_167 t_167 H_167 locs_167 ht_167 hvm_167 hr_168 hb_167 hz_167 hk_167 hS_167 => ?_)
                                obtain ⟨qk_167, rfl⟩ : ∃ z, z = u_167 := ⟨_, rfl⟩
                                rw [ht_167] at hb_167
                                obtain ⟨hb_1671, hb_1672, hb_1673, hb_1674, hb_1675⟩ := hb_167
                                have hh_167 : jSt (dC, dI) B base G0 G0 EX10_scanSa9 s.heap 0 0 [(r0, 12, 3, .int qk_167)] [(r1, 175, n1, ca 1, f_l1_126)] [] H_167 locs_167 := ((hh_128.call hb_1671 hb_1672 hb_1673 hb_1674 hS_167 rfl (L1 := []) [] rfl rfl (M1 := [(r1, 175, n1, ca 1, f_l1_126)]) [0] rfl rfl (I1 := []) [] rfl rfl).more hb_1675)
                                clear hh_128 ht_167 hvm_167 hz_167 hk_167 hS_167 hb_1671 hb_1672 hb_1673 hb_1674 hb_1675
                                obtain ⟨hr_168_0, hr_168_1, hr_168_2⟩ := hr_168
                                exact C226 z_7 z_7 qk_167 _ _ (hh_167.sub (L1 := [(r0, 12, 3, .int qk_167)]) [0] rfl (M1 := []) [] rfl (I1 := []) [] rfl) (by first | omega | (refine ⟨?_, ?_, ?_, ?_, ?_⟩ <;> (first | omega | rfl | assumption | decide | exact Or.inl rfl | exact Or.inr rfl | (simp only; omega)))) _ (lv_sub hl [2, 3, 4, 5, 6, 7, 1, 1] rfl)
                              · skip
                                exact absurd c_166 (by decide)
                            · skip
                              have c_165' : r_164.toInt ≥ 0 := jb_lt_n (rfl) ((by decide)) c_165
                              refine lv_iconst (v := 1) hx hb dX10_scan_201 (by decide) ?_
                              refine lv_goto (tgt := 206) hx hb dX10_scan_202 (by decide) ?_
                              refine lv_istore (lv' := [(7, .int 1), (6, .int z_7), (0, .ref r0), (1, .ref r1), (2, .int a2), (3, .int a3), (4, .int z_3), (5, .int v5_5)]) hx hb dX10_scan_206 hl (by decide) rfl (fun ls hl => ?_)
                              refine lv_aload_n hx hb dX10_scan_208 rfl (lv_at hl 2 rfl) ?_
                              refine lv_iload hx hb dX10_scan_209 (lv_at hl 0 rfl) ?_
                              refine lv_if_eq (tgt := 221) hx hb dX10_scan_211 (by decide) (fun c_169 => ?_) (fun c_169 => ?_)
                              · skip
                                exact absurd c_169 (by decide)
                              · skip
                                refine lv_aload_n hx hb dX10_scan_214 rfl (lv_at hl 3 rfl) ?_
                                refine lv_iload hx hb dX10_scan_215 (lv_at hl 7 rfl) ?_
                                refine j7_ialdM hx hb hK hh_128 hB175 1 rfl (by decide) hg_r1 (x := v5_5.toInt) (rfl) (by omega) (j := 0) rfl dX10_scan_217 (fun z_170 ez_170 (hz_170 : True) => ?_)
                                have hqz_170 : z_170.toInt = (f_l1_126 (v5_5.toInt).toNat).toInt := by rw [ez_170]
                                refine lv_goto (tgt := 222) hx hb dX10_scan_218 (by decide) ?_
                                refine lv_iconst (v := 0) hx hb dX10_scan_222 (by decide) ?_
                                refine va_callv (A0 := jA base) (H0 := s.heap) (va_runV (As := [.int z_170, .int 0]) (rest := []) ⟨hx, hb, hml, hown, hts⟩ (uX10_addB l dC dI ca base B hB hAp hB12 hB101 hB293 G0 H_128 r0 z_170 0 wk_5) (cwV 2 hts (jgV (jWr_37 _ (List.mem_of_getElem? (i := 7) rfl)) (jWr_37 _ (List.mem_of_getElem? (i := 8) rfl)) (jWr_37 _ (List.mem_of_getElem? (i := 9) rfl)) (jWr_4 _ (List.mem_of_getElem? (i := 14) rfl)) (jWr_37 _ (List.mem_of_getElem? (i := 10) rfl))) rfl rfl rfl (by decide +kernel) ⟨by rw [← hR]; exact Nat.le_of_ble_eq_true rfl, by rw [← hR]; exact Nat.le_of_ble_eq_true rfl⟩) ⟨fun a U g mk q => by obtain ⟨q0, q1, q2, qK, q10, q11, q12⟩ := q; exact ⟨q0, q1, q2, jG.calling g mk a qK, q10, q11, q12⟩, hh_128.recv (C := RX10) (T := TX10) (N := 11) hB12 rfl (by decide) hg_r0 hK, fun U hU hW => ⟨rfl, hU, hh_128.2.1, hG.step hW hU hh_128.1, hg_r0, (hh_128.2.2.1.sub (L1 := [(r0, 12, 3, .int wk_5)]) [0] rfl), by first | omega | (refine ⟨?_, ?_, ?_, ?_⟩ <;> (first | omega | rfl | assumption | decide | exact Or.inl rfl | exact Or.inr rfl | (simp only; omega)))⟩⟩ rfl rfl hl.1 rfl (lv_room (Nat.le_of_ble_eq_true rfl)) dX10_scan_223 ⟨Nat.zero_le _, Nat.zero_le _⟩) hh_128.1 (fun q _ h => h) (fun q h => h) (fun u_171 t_171 H_171 locs_171 ht_171 hvm_171 hr_172 hb_171 hz_171 hk_171 hS_171 => ?_)
                                obtain ⟨qk_171, rfl⟩ : ∃ z, z = u_171 := ⟨_, rfl⟩
                                rw [ht_171] at hb_171
                                obtain ⟨hb_1711, hb_1712, hb_1713, hb_1714, hb_1715⟩ := hb_171
                                have hh_171 : jSt (dC, dI) B base G0 G0 EX10_scanSa9 s.heap 0 0 [(r0, 12, 3, .int qk_171)] [(r1, 175, n1, ca 1, f_l1_126)] [] H_171 locs_171 := ((hh_128.call hb_1711 hb_1712 hb_1713 hb_1714 hS_171 rfl (L1 := []) [] rfl rfl (M1 := [(r1, 175, n1, ca 1, f_l1_126)]) [0] rfl rfl (I1 := []) [] rfl rfl).more hb_1715)
                                clear hh_128 ht_171 hvm_171 hz_171 hk_171 hS_171 hb_1711 hb_1712 hb_1713 hb_1714 hb_1715
                                obtain ⟨hr_172_0, hr_172_1, hr_172_2⟩ := hr_172
                                exact C226 z_7 z_7 qk_171 _ _ (hh_171.sub (L1 := [(r0, 12, 3, .int qk_171)]) [0] rfl (M1 := []) [] rfl (I1 := []) [] rfl) (by first | omega | (refine ⟨?_, ?_, ?_, ?_, ?_⟩ <;> (first | omega | rfl | assumption | decide | exact Or.inl rfl | exact Or.inr rfl | (simp only; omega)))) _ (lv_sub hl [2, 3, 4, 5, 6, 7, 1, 1] rfl)
                  · skip
                    have c_130' : r_129.toInt ≠ 0 := jb_eq_n (rfl) ((by decide)) c_130
                    first | (have hr_129pq := hr_129p.resolve_left (by omega); clear hr_129p) | (have hr_129pq := hr_129p.resolve_right (by omega); clear hr_129p) | try clear hr_129p
                    refine lv_aload_n hx hb dX10_scan_136 rfl (lv_at hl 1 rfl) ?_
                    refine lv_bipush (v := 100) hx hb dX10_scan_137 (by decide) ?_
                    refine lv_aload_n hx hb dX10_scan_139 rfl (lv_at hl 2 rfl) ?_
                    refine lv_iload hx hb dX10_scan_140 (lv_at hl 6 rfl) ?_
                    refine j7_ialdM hx hb hK hh_128 hB175 1 rfl (by decide) hg_r1 (x := v5_5.toInt) (rfl) (by omega) (j := 0) rfl dX10_scan_142 (fun z_173 ez_173 (hz_173 : True) => ?_)
                    have hqz_173 : z_173.toInt = (f_l1_126 (v5_5.toInt).toNat).toInt := by rw [ez_173]
                    refine lv_bipush (v := 48) hx hb dX10_scan_143 (by decide) ?_
                    refine lv_isub hx hb dX10_scan_145 ?_
                    refine lv_topi (fun z_174 ez_174 => ?_)
                    have hz_174 : z_174.toInt = z_173.toInt - 48 := by rw [ez_174]; exact jb_isub2 (rfl) ((by decide)) (by omega)
                    refine va_callv (A0 := jA base) (H0 := s.heap) (va_runV (As := [.int 100, .int z_174]) (rest := []) ⟨hx, hb, hml, hown, hts⟩ (uX10_addB l dC dI ca base B hB hAp hB12 hB101 hB293 G0 H_128 r0 100 z_174 wk_5) (cwV 2 hts (jgV (jWr_37 _ (List.mem_of_getElem? (i := 7) rfl)) (jWr_37 _ (List.mem_of_getElem? (i := 8) rfl)) (jWr_37 _ (List.mem_of_getElem? (i := 9) rfl)) (jWr_4 _ (List.mem_of_getElem? (i := 14) rfl)) (jWr_37 _ (List.mem_of_getElem? (i := 10) rfl))) rfl rfl rfl (by decide +kernel) ⟨by rw [← hR]; exact Nat.le_of_ble_eq_true rfl, by rw [← hR]; exact Nat.le_of_ble_eq_true rfl⟩) ⟨fun a U g mk q => by obtain ⟨q0, q1, q2, qK, q10, q11, q12⟩ := q; exact ⟨q0, q1, q2, jG.calling g mk a qK, q10, q11, q12⟩, hh_128.recv (C := RX10) (T := TX10) (N := 11) hB12 rfl (by decide) hg_r0 hK, fun U hU hW => ⟨rfl, hU, hh_128.2.1, hG.step hW hU hh_128.1, hg_r0, (hh_128.2.2.1.sub (L1 := [(r0, 12, 3, .int wk_5)]) [0] rfl), by first | omega | (refine ⟨?_, ?_, ?_, ?_⟩ <;> (first | omega | rfl | assumption | decide | exact Or.inl rfl | exact Or.inr rfl | (simp only; omega)))⟩⟩ rfl rfl hl.1 rfl (lv_room (Nat.le_of_ble_eq_true rfl)) dX10_scan_146 ⟨Nat.zero_le _, Nat.zero_le _⟩) hh_128.1 (fun q _ h => h) (fun q h => h) (fun u_175 t_175 H_175 locs_175 ht_175 hvm_175 hr_176 hb_175 hz_175 hk_175 hS_175 => ?_)
                    obtain ⟨qk_175, rfl⟩ : ∃ z, z = u_175 := ⟨_, rfl⟩
                    rw [ht_175] at hb_175
                    obtain ⟨hb_1751, hb_1752, hb_1753, hb_1754, hb_1755⟩ := hb_175
                    have hh_175 : jSt (dC, dI) B base G0 G0 EX10_scanSa9 s.heap 0 0 [(r0, 12, 3, .int qk_175)] [(r1, 175, n1, ca 1, f_l1_126)] [] H_175 locs_175 := ((hh_128.call hb_1751 hb_1752 hb_1753 hb_1754 hS_175 rfl (L1 := []) [] rfl rfl (M1 := [(r1, 175, n1, ca 1, f_l1_126)]) [0] rfl rfl (I1 := []) [] rfl rfl).more hb_1755)
                    clear hh_128 ht_175 hvm_175 hz_175 hk_175 hS_175 hb_1751 hb_1752 hb_1753 hb_1754 hb_1755
                    obtain ⟨hr_176_0, hr_176_1, hr_176_2⟩ := hr_176
                    refine lv_goto (tgt := 226) hx hb dX10_scan_149 (by decide) ?_
                    exact C226 z_7 z_7 qk_175 _ _ (hh_175.sub (L1 := [(r0, 12, 3, .int qk_175)]) [0] rfl (M1 := []) [] rfl (I1 := []) [] rfl) (by first | omega | (refine ⟨?_, ?_, ?_, ?_, ?_⟩ <;> (first | omega | rfl | assumption | decide | exact Or.inl rfl | exact Or.inr rfl | (simp only; omega)))) _ (lv_sub hl [1, 2, 3, 4, 5, 6, 0, 0] rfl)
                · skip
                  have c_125' : z_124.toInt = 62 := jb_ne_n (rfl) ((by decide)) c_125
                  refine lv_aload_n hx hb dX10_scan_110 rfl (lv_at hl 1 rfl) ?_
                  refine lv_bipush (v := 62) hx hb dX10_scan_111 (by decide) ?_
                  refine lv_iconst (v := 0) hx hb dX10_scan_113 (by decide) ?_
                  refine va_callv (A0 := jA base) (H0 := s.heap) (va_runV (As := [.int 62, .int 0]) (rest := []) ⟨hx, hb, hml, hown, hts⟩ (uX10_addB l dC dI ca base B hB hAp hB12 hB101 hB293 G0 H_8 r0 62 0 wk_5) (cwV 2 hts (jgV (jWr_37 _ (List.mem_of_getElem? (i := 7) rfl)) (jWr_37 _ (List.mem_of_getElem? (i := 8) rfl)) (jWr_37 _ (List.mem_of_getElem? (i := 9) rfl)) (jWr_4 _ (List.mem_of_getElem? (i := 14) rfl)) (jWr_37 _ (List.mem_of_getElem? (i := 10) rfl))) rfl rfl rfl (by decide +kernel) ⟨by rw [← hR]; exact Nat.le_of_ble_eq_true rfl, by rw [← hR]; exact Nat.le_of_ble_eq_true rfl⟩) ⟨fun a U g mk q => by obtain ⟨q0, q1, q2, qK, q10, q11, q12⟩ := q; exact ⟨q0, q1, q2, jG.calling g mk a qK, q10, q11, q12⟩, hh_8.recv (C := RX10) (T := TX10) (N := 11) hB12 rfl (by decide) hg_r0 hK, fun U hU hW => ⟨rfl, hU, hh_8.2.1, hG.step hW hU hh_8.1, hg_r0, (hh_8.2.2.1.sub (L1 := [(r0, 12, 3, .int wk_5)]) [0] rfl), by first | omega | (refine ⟨?_, ?_, ?_, ?_⟩ <;> (first | omega | rfl | assumption | decide | exact Or.inl rfl | exact Or.inr rfl | (simp only; omega)))⟩⟩ rfl rfl hl.1 rfl (lv_room (Nat.le_of_ble_eq_true rfl)) dX10_scan_114 ⟨Nat.zero_le _, Nat.zero_le _⟩) hh_8.1 (fun q _ h => h) (fun q h => h) (fun u_177 t_177 H_177 locs_177 ht_177 hvm_177 hr_178 hb_177 hz_177 hk_177 hS_177 => ?_)
                  obtain ⟨qk_177, rfl⟩ : ∃ z, z = u_177 := ⟨_, rfl⟩
                  rw [ht_177] at hb_177
                  obtain ⟨hb_1771, hb_1772, hb_1773, hb_1774, hb_1775⟩ := hb_177
                  have hh_177 : jSt (dC, dI) B base G0 G0 EX10_scanSa9 s.heap 0 0 [(r0, 12, 3, .int qk_177)] [] [] H_177 locs_177 := ((hh_8.call hb_1771 hb_1772 hb_1773 hb_1774 hS_177 rfl (L1 := []) [] rfl rfl (M1 := []) [] rfl rfl (I1 := []) [] rfl rfl).more hb_1775)
                  clear hh_8 ht_177 hvm_177 hz_177 hk_177 hS_177 hb_1771 hb_1772 hb_1773 hb_1774 hb_1775
                  obtain ⟨hr_178_0, hr_178_1, hr_178_2⟩ := hr_178
                  refine lv_iload hx hb dX10_scan_117 (lv_at hl 6 rfl) ?_
                  refine lv_iconst (v := 2) hx hb dX10_scan_119 (by decide) ?_
                  refine lv_iadd hx hb dX10_scan_120 ?_
                  refine lv_topi (fun z_179 ez_179 => ?_)
                  have hz_179 : z_179.toInt = v5_5.toInt + 2 := by rw [ez_179]; exact jb_iadd2 (rfl) ((by decide)) (by omega)
                  refine lv_istore (lv' := [(6, .int z_179), (0, .ref r0), (1, .ref r1), (2, .int a2), (3, .int a3), (4, .int z_3), (5, .int v5_5)]) hx hb dX10_scan_121 hl (by decide) rfl (fun ls hl => ?_)
                  refine lv_goto (tgt := 226) hx hb dX10_scan_123 (by decide) ?_
                  exact C226 z_179 z_179 qk_177 _ _ hh_177 (by first | omega | (refine ⟨?_, ?_, ?_, ?_, ?_⟩ <;> (first | omega | rfl | assumption | decide | exact Or.inl rfl | exact Or.inr rfl | (simp only; omega)))) _ (lv_sub hl [1, 2, 3, 4, 5, 6, 0, 0] rfl)
          · skip
            have c_16' : r_15.toInt ≠ 0 := jb_eq_n (rfl) ((by decide)) c_16
            refine lv_aload_n hx hb dX10_scan_67 rfl (lv_at hl 1 rfl) ?_
            refine lv_aload_n hx hb dX10_scan_68 rfl (lv_at hl 2 rfl) ?_
            refine lv_iload hx hb dX10_scan_69 (lv_at hl 6 rfl) ?_
            refine lv_iload hx hb dX10_scan_71 (lv_at hl 5 rfl) ?_
            refine va_calli (A0 := jA base) (H0 := s.heap) (va_runV (As := [.ref r1, .int v5_5, .int z_3]) (rest := []) ⟨hx, hb, hml, hown, hts⟩ (uX10_scanNameSa9 l dC dI ca base B hB hAp hB8 hB12 hB101 hB102 hB132 hB133 hB175 hB293 G0 H_8 r0 r1 v5_5 z_3 n1 wk_5) (cwV 3 hts (jgV (jWr_37 _ (List.mem_of_getElem? (i := 2) rfl)) (jWr_37 _ (List.mem_of_getElem? (i := 3) rfl)) (jWr_37 _ (List.mem_of_getElem? (i := 4) rfl)) (jWr_4 _ (List.mem_of_getElem? (i := 14) rfl)) (jWr_37 _ (List.mem_of_getElem? (i := 5) rfl))) rfl rfl rfl (by decide +kernel) ⟨by rw [← hR]; exact Nat.le_of_ble_eq_true rfl, by rw [← hR]; exact Nat.le_of_ble_eq_true rfl⟩) ⟨fun a U g mk q => by obtain ⟨q0, q1, q2, qK, q10, q11, q12, q13⟩ := q; exact ⟨q0, q1, q2, jG.calling g mk a qK, q10, q11, q12, q13⟩, hh_8.recv (C := RX10) (T := TX10) (N := 11) hB12 rfl (by decide) hg_r0 hK, fun U hU hW => ⟨rfl, hU, hh_8.2.1, hG.step hW hU hh_8.1, hg_r0, hg_r1, (hh_8.2.2.1.sub (L1 := [(r0, 12, 3, .int wk_5)]) [0] rfl), by first | omega | (refine ⟨?_, ?_, ?_, ?_, ?_, ?_⟩ <;> (first | omega | rfl | assumption | decide | exact Or.inl rfl | exact Or.inr rfl | (simp only; omega)))⟩⟩ rfl rfl hl.1 rfl (lv_room (Nat.le_of_ble_eq_true rfl)) dX10_scan_73 ⟨Nat.zero_le _, Nat.zero_le _⟩) hh_8.1 (fun q _ h => h) (fun q h => h) (fun r_181 u_180 t_180 H_180 locs_180 ht_180 hvm_180 hr_181 hb_180 hz_180 hk_180 hS_180 => ?_)
            obtain ⟨qk_180, rfl⟩ : ∃ z, z = u_180 := ⟨_, rfl⟩
            rw [ht_180] at hb_180
            obtain ⟨hb_1801, hb_1802, hb_1803, hb_1804, hb_1805⟩ := hb_180
            have hh_180 : jSt (dC, dI) B base G0 G0 EX10_scanSa9 s.heap 0 0 [(r0, 12, 3, .int qk_180)] [] [] H_180 locs_180 := ((hh_8.call hb_1801 hb_1802 hb_1803 hb_1804 hS_180 rfl (L1 := []) [] rfl rfl (M1 := []) [] rfl rfl (I1 := []) [] rfl rfl).more hb_1805)
            clear hh_8 ht_180 hvm_180 hz_180 hk_180 hS_180 hb_1801 hb_1802 hb_1803 hb_1804 hb_1805
            obtain ⟨hr_181_0, hr_181_1, hr_181_2, hr_181_3, hr_181_4⟩ := hr_181
            refine lv_istore (lv' := [(6, .int r_181), (0, .ref r0), (1, .ref r1), (2, .int a2), (3, .int a3), (4, .int z_3), (5, .int v5_5)]) hx hb dX10_scan_76 hl (by decide) rfl (fun ls hl => ?_)
            refine lv_goto (tgt := 226) hx hb dX10_scan_78 (by decide) ?_
            exact C226 r_181 r_181 qk_180 _ _ hh_180 (by first | omega | (refine ⟨?_, ?_, ?_, ?_, ?_⟩ <;> (first | omega | rfl | assumption | decide | exact Or.inl rfl | exact Or.inr rfl | (simp only; omega)))) _ (lv_sub hl [1, 2, 3, 4, 5, 6, 0, 0] rfl)
        · skip
          have c_13' : r_9.toInt ≠ 0 := jb_eq_n (rfl) ((by decide)) c_13
          first | (have hr_9pq := hr_9p.resolve_left (by omega); clear hr_9p) | (have hr_9pq := hr_9p.resolve_right (by omega); clear hr_9p) | try clear hr_9p
          refine lv_aload_n hx hb dX10_scan_44 rfl (lv_at hl 2 rfl) ?_
          refine lv_iload hx hb dX10_scan_45 (lv_at hl 6 rfl) ?_
          refine lv_iload hx hb dX10_scan_47 (lv_at hl 5 rfl) ?_
          refine va_calli (A0 := jA base) (H0 := s.heap) (va_runSN (As := [.ref r1, .int v5_5, .int z_3]) (rest := []) ⟨hx, hb, hml, hown, hts⟩ (uX11_commentEnda9 l dC dI ca base B hB hAp hB101 hB175 G0 H_8 r1 v5_5 z_3 n1) ⟨va_cnB 3 hts (jgW (jWr_36 _ (List.mem_of_getElem? (i := 11) rfl))) rfl rfl rfl (hG.2.2.1 RX10 45 yX11_commentEnd "ProofServer" (List.mem_of_getElem? (i := 1138) (by decide +kernel))) (htw (.initialized RX11) (jWr_1 _ (List.mem_of_getElem? (i := 2) rfl))) (by decide +kernel) ⟨by rw [← hR]; exact Nat.le_of_ble_eq_true rfl, by rw [← hR]; exact Nat.le_of_ble_eq_true rfl⟩, htw (.static yX11_commentEnd) (jWr_36 _ (List.mem_of_getElem? (i := 10) rfl)), trivial⟩ ⟨fun a U g mk q => by obtain ⟨q0, q1, q2, qK, q10, q11, q12⟩ := q; exact ⟨q0, q1, q2, jG.calling g mk a qK, q10, q11, q12⟩, fun U hU hW => ⟨rfl, hU, hh_8.2.1, hG.step hW hU hh_8.1, hg_r1, jP.nil, by first | omega | (refine ⟨?_, ?_⟩ <;> (first | omega | rfl | assumption | decide | exact Or.inl rfl | exact Or.inr rfl | (simp only; omega)))⟩⟩ rfl rfl hl.1 rfl (lv_room (Nat.le_of_ble_eq_true rfl)) dX10_scan_49 ⟨Nat.zero_le _, Nat.zero_le _⟩) hh_8.1 (fun q _ h => h) (fun q h => h) (fun r_183 u_182 t_182 H_182 locs_182 ht_182 hvm_182 hr_183 hb_182 hz_182 hk_182 hS_182 => ?_)
          rw [ht_182] at hb_182
          obtain ⟨hb_1821, hb_1822, hb_1823, hb_1824, hb_1825⟩ := hb_182
          have hh_182 : jSt (dC, dI) B base G0 G0 EX10_scanSa9 s.heap 0 0 [(r0, 12, 3, .int wk_5)] [] [] H_182 locs_182 := ((hh_8.call hb_1821 hb_1822 hb_1823 hb_1824 hS_182 rfl (L1 := [(r0, 12, 3, .int wk_5)]) [0] rfl rfl (M1 := []) [] rfl rfl (I1 := []) [] rfl rfl).more hb_1825)
          clear hh_8 ht_182 hvm_182 hz_182 hk_182 hS_182 hb_1821 hb_1822 hb_1823 hb_1824 hb_1825
          refine lv_istore (lv' := [(6, .int r_183), (0, .ref r0), (1, .ref r1), (2, .int a2), (3, .int a3), (4, .int z_3), (5, .int v5_5)]) hx hb dX10_scan_52 hl (by decide) rfl (fun ls hl => ?_)
          refine lv_goto (tgt := 226) hx hb dX10_scan_54 (by decide) ?_
          exact C226 r_183 r_183 wk_5 _ _ hh_182 (by first | omega | (refine ⟨?_, ?_, ?_, ?_, ?_⟩ <;> (first | omega | rfl | assumption | decide | exact Or.inl rfl | exact Or.inr rfl | (simp only; omega)))) _ (lv_sub hl [1, 2, 3, 4, 5, 6, 0, 0] rfl)
  exact L20 (((z_3.toInt - (z_4 : Int32).toInt).toNat : Int) : Int).toNat.succ z_4 0 _ _ hh_1 (by first | omega | (refine ⟨?_, ?_, ?_, ?_⟩ <;> (first | omega | rfl | assumption | decide | exact Or.inl rfl | exact Or.inr rfl | (simp only; omega)))) (by omega) _ (lv_sub hl [2, 3, 4, 5, 1, 0] rfl)
end
section
-- the documents of the class: sentences in order, and what is still to be checked of the open ones
section J41
variable {dC : Nat → ClassId} {dI : Nat → Nat → Nat} {ca : Nat → ClassId} {G G1 : jT} {H H1 : Heap} {x : Option Nat} {ph : Nat}
theorem jPo.mkN {fe : Nat → Int32} {ps pk : Int} (h : pk ≤ ps) : jPo fe ps pk .null (575 * (ps - pk) + (1500 - jEd fe pk)).toNat := ⟨h, Or.inl ⟨rfl, Int.self_le_toNat _⟩⟩
theorem jPo.mkR {fe : Nat → Int32} {ps pk : Int} {x : Nat} (h : pk < ps) : jPo fe ps pk (.ref x) (575 * (ps - pk) - 16 + (1500 - jSo fe pk)).toNat := ⟨by omega, Or.inr ⟨(fun q => by cases q), h, Int.self_le_toNat _⟩⟩
end J41
end
section
theorem dX11_begin_0 : decode cX11_begin 0 = .ok (.aload_n 1, 1) := by decide +kernel
theorem dX11_begin_1 : decode cX11_begin 1 = .ok (.getfield 171, 3) := by decide +kernel
theorem dX11_begin_4 : decode cX11_begin 4 = .ok (.istore_n 2, 1) := by decide +kernel
theorem dX11_begin_5 : decode cX11_begin 5 = .ok (.iload_n 2, 1) := by decide +kernel
theorem dX11_begin_6 : decode cX11_begin 6 = .ok (.ifCond .lt 9, 3) := by decide +kernel
theorem dX11_begin_9 : decode cX11_begin 9 = .ok (.iload_n 2, 1) := by decide +kernel
theorem dX11_begin_10 : decode cX11_begin 10 = .ok (.bipush 40, 2) := by decide +kernel
theorem dX11_begin_12 : decode cX11_begin 12 = .ok (.if_icmp .lt 4, 3) := by decide +kernel
theorem dX11_begin_16 : decode cX11_begin 16 = .ok (.aload_n 1, 1) := by decide +kernel
theorem dX11_begin_17 : decode cX11_begin 17 = .ok (.iload_n 2, 1) := by decide +kernel
theorem dX11_begin_18 : decode cX11_begin 18 = .ok (.aload_n 0, 1) := by decide +kernel
theorem dX11_begin_19 : decode cX11_begin 19 = .ok (.getfield 41, 3) := by decide +kernel
theorem dX11_begin_22 : decode cX11_begin 22 = .ok (.getfield 217, 3) := by decide +kernel
theorem dX11_begin_25 : decode cX11_begin 25 = .ok (.invokevirtual 221, 3) := by decide +kernel
theorem dX11_begin_28 : decode cX11_begin 28 = .ok (.astore_n 3, 1) := by decide +kernel
theorem dX11_begin_29 : decode cX11_begin 29 = .ok (.aload_n 1, 1) := by decide +kernel
theorem dX11_begin_30 : decode cX11_begin 30 = .ok (.aconst_null, 1) := by decide +kernel
theorem dX11_begin_31 : decode cX11_begin 31 = .ok (.putfield 580, 3) := by decide +kernel
theorem dX11_begin_34 : decode cX11_begin 34 = .ok (.iconst 0, 1) := by decide +kernel
theorem dX11_begin_35 : decode cX11_begin 35 = .ok (.istore 4, 2) := by decide +kernel
theorem dX11_begin_37 : decode cX11_begin 37 = .ok (.iload 4, 2) := by decide +kernel
theorem dX11_begin_39 : decode cX11_begin 39 = .ok (.aload_n 0, 1) := by decide +kernel
theorem dX11_begin_40 : decode cX11_begin 40 = .ok (.getfield 68, 3) := by decide +kernel
theorem dX11_begin_43 : decode cX11_begin 43 = .ok (.invokeinterface 142 1, 5) := by decide +kernel
theorem dX11_begin_48 : decode cX11_begin 48 = .ok (.if_icmp .ge 63, 3) := by decide +kernel
theorem dX11_begin_51 : decode cX11_begin 51 = .ok (.aload_n 1, 1) := by decide +kernel
theorem dX11_begin_52 : decode cX11_begin 52 = .ok (.getfield 580, 3) := by decide +kernel
theorem dX11_begin_55 : decode cX11_begin 55 = .ok (.ifnonnull 56, 3) := by decide +kernel
theorem dX11_begin_58 : decode cX11_begin 58 = .ok (.aload_n 0, 1) := by decide +kernel
theorem dX11_begin_59 : decode cX11_begin 59 = .ok (.getfield 68, 3) := by decide +kernel
theorem dX11_begin_62 : decode cX11_begin 62 = .ok (.iload 4, 2) := by decide +kernel
theorem dX11_begin_64 : decode cX11_begin 64 = .ok (.invokeinterface 249 2, 5) := by decide +kernel
theorem dX11_begin_69 : decode cX11_begin 69 = .ok (.checkcast 189, 3) := by decide +kernel
theorem dX11_begin_72 : decode cX11_begin 72 = .ok (.astore 5, 2) := by decide +kernel
theorem dX11_begin_74 : decode cX11_begin 74 = .ok (.aload_n 1, 1) := by decide +kernel
theorem dX11_begin_75 : decode cX11_begin 75 = .ok (.iload_n 2, 1) := by decide +kernel
theorem dX11_begin_76 : decode cX11_begin 76 = .ok (.aload 5, 2) := by decide +kernel
theorem dX11_begin_78 : decode cX11_begin 78 = .ok (.getfield 596, 3) := by decide +kernel
theorem dX11_begin_81 : decode cX11_begin 81 = .ok (.invokevirtual 599, 3) := by decide +kernel
theorem dX11_begin_84 : decode cX11_begin 84 = .ok (.ifCond .eq 21, 3) := by decide +kernel
theorem dX11_begin_87 : decode cX11_begin 87 = .ok (.aload 5, 2) := by decide +kernel
theorem dX11_begin_89 : decode cX11_begin 89 = .ok (.getfield 602, 3) := by decide +kernel
theorem dX11_begin_92 : decode cX11_begin 92 = .ok (.aload_n 3, 1) := by decide +kernel
theorem dX11_begin_93 : decode cX11_begin 93 = .ok (.invokestatic 605, 3) := by decide +kernel
theorem dX11_begin_96 : decode cX11_begin 96 = .ok (.ifCond .eq 9, 3) := by decide +kernel
theorem dX11_begin_99 : decode cX11_begin 99 = .ok (.aload_n 1, 1) := by decide +kernel
theorem dX11_begin_100 : decode cX11_begin 100 = .ok (.aload 5, 2) := by decide +kernel
theorem dX11_begin_102 : decode cX11_begin 102 = .ok (.putfield 580, 3) := by decide +kernel
theorem dX11_begin_105 : decode cX11_begin 105 = .ok (.iinc 4 1, 3) := by decide +kernel
theorem dX11_begin_108 : decode cX11_begin 108 = .ok (.goto (-71), 3) := by decide +kernel
theorem dX11_begin_111 : decode cX11_begin 111 = .ok (.aload_n 1, 1) := by decide +kernel
theorem dX11_begin_112 : decode cX11_begin 112 = .ok (.getfield 580, 3) := by decide +kernel
theorem dX11_begin_115 : decode cX11_begin 115 = .ok (.ifnull 22, 3) := by decide +kernel
theorem dX11_begin_118 : decode cX11_begin 118 = .ok (.aload_n 1, 1) := by decide +kernel
theorem dX11_begin_119 : decode cX11_begin 119 = .ok (.aload_n 1, 1) := by decide +kernel
theorem dX11_begin_120 : decode cX11_begin 120 = .ok (.getfield 580, 3) := by decide +kernel
theorem dX11_begin_123 : decode cX11_begin 123 = .ok (.getfield 596, 3) := by decide +kernel
theorem dX11_begin_126 : decode cX11_begin 126 = .ok (.putfield 567, 3) := by decide +kernel
theorem dX11_begin_129 : decode cX11_begin 129 = .ok (.aload_n 1, 1) := by decide +kernel
theorem dX11_begin_130 : decode cX11_begin 130 = .ok (.iconst 1, 1) := by decide +kernel
theorem dX11_begin_131 : decode cX11_begin 131 = .ok (.putfield 577, 3) := by decide +kernel
theorem dX11_begin_134 : decode cX11_begin 134 = .ok (.goto 36, 3) := by decide +kernel
theorem dX11_begin_137 : decode cX11_begin 137 = .ok (.aload_n 1, 1) := by decide +kernel
theorem dX11_begin_138 : decode cX11_begin 138 = .ok (.aload_n 1, 1) := by decide +kernel
theorem dX11_begin_139 : decode cX11_begin 139 = .ok (.getfield 174, 3) := by decide +kernel
theorem dX11_begin_142 : decode cX11_begin 142 = .ok (.aload_n 1, 1) := by decide +kernel
theorem dX11_begin_143 : decode cX11_begin 143 = .ok (.getfield 182, 3) := by decide +kernel
theorem dX11_begin_146 : decode cX11_begin 146 = .ok (.iload_n 2, 1) := by decide +kernel
theorem dX11_begin_147 : decode cX11_begin 147 = .ok (.iaload, 1) := by decide +kernel
theorem dX11_begin_148 : decode cX11_begin 148 = .ok (.aload_n 1, 1) := by decide +kernel
theorem dX11_begin_149 : decode cX11_begin 149 = .ok (.getfield 185, 3) := by decide +kernel
theorem dX11_begin_152 : decode cX11_begin 152 = .ok (.iload_n 2, 1) := by decide +kernel
theorem dX11_begin_153 : decode cX11_begin 153 = .ok (.iaload, 1) := by decide +kernel
theorem dX11_begin_154 : decode cX11_begin 154 = .ok (.invokestatic 211, 3) := by decide +kernel
theorem dX11_begin_157 : decode cX11_begin 157 = .ok (.putfield 567, 3) := by decide +kernel
theorem dX11_begin_160 : decode cX11_begin 160 = .ok (.aload_n 1, 1) := by decide +kernel
theorem dX11_begin_161 : decode cX11_begin 161 = .ok (.aload_n 1, 1) := by decide +kernel
theorem dX11_begin_162 : decode cX11_begin 162 = .ok (.getfield 193, 3) := by decide +kernel
theorem dX11_begin_165 : decode cX11_begin 165 = .ok (.iload_n 2, 1) := by decide +kernel
theorem dX11_begin_166 : decode cX11_begin 166 = .ok (.iaload, 1) := by decide +kernel
theorem dX11_begin_167 : decode cX11_begin 167 = .ok (.putfield 577, 3) := by decide +kernel
theorem dX11_begin_170 : decode cX11_begin 170 = .ok (.return_, 1) := by decide +kernel
end
section
-- p11: bits; the tape on both sides; bytes read as UTF-8; the text that comes of them
theorem jTe.feed {f f1 g g1 : Nat → Int32} {p p1 m a b c d e a' b' c' d' e' : Int} (h : jTe f g p) (h0 : 0 ≤ p) (hf : jVfd f f1 p a b c d e 20) (hg : jVfd g g1 m a' b' c' d' e' 20) (em : m = p) (ea : a' = a) (eb : b' = b) (ec : c' = c) (ed : d' = d) (ee : e' = e) (e1 : p1 = p + 20) : jTe f1 g1 p1 := fun j q0 q1 => by
  subst em ea eb ec ed ee
  by_cases w : j < m
  · have h9 := h j q0 w
    unfold jB8 at h9 ⊢
    rw [hf.1 j q0 w, hg.1 j q0 w]; exact h9
  · have h1 := hf.2 (j - m) (by omega) (by omega)
    have h2 := hg.2 (j - m) (by omega) (by omega)
    rw [show m + (j - m) = j by omega] at h1 h2
    rw [h1, h2]
theorem jTe.ff {f f1 g g1 : Nat → Int32} {p q m k a b c d e a' b' c' d' e' : Int} (h : jTe f g p) (h0 : 0 ≤ p) (hf : jVff f f1 p q a b c d e) (hg : jVff g g1 m k a' b' c' d' e') (em : m = p) (ea : a' = a) (eb : b' = b) (ec : c' = c) (ed : d' = d) (ee : e' = e) : jTe f1 g1 q := by
  rcases hf with ⟨x1, x2, x3⟩ | ⟨x1, x2, x3⟩
  · rcases hg with ⟨y1, y2, y3⟩ | ⟨y1, y2, y3⟩
    · rw [x3, y3, x2]; exact h
    · omega
  · rcases hg with ⟨y1, y2, y3⟩ | ⟨y1, y2, y3⟩
    · omega
    · exact h.feed h0 x3 y3 em ea eb ec ed ee x2
section JP1
variable {p : Program} {l : Launch} {e : Env} {R : Room} {s : State} {m : MethodId} {args : Array Value} {below : List Frame} {meth : Method} {c : Code} {H : Heap} {locs : List Loc} {cells slots : Nat} {Q : State → Prop}
variable {cc : ByteArray} {pc : Nat} {ls : Array Slot} {rest : List Value} {D : va_G} {cl : List vw_C} {A : Nat → Prop} {a : Nat} {tys : List (ClassId × FieldType)}
end JP1
section JP2
variable {p : Program} {l : Launch} {e : Env} {R : Room} {s : State} {m : MethodId} {args : Array Value} {below : List Frame} {meth : Method} {c : Code} {H : Heap} {locs : List Loc} {cells slots : Nat} {Q : State → Prop}
variable {cc : ByteArray} {pc : Nat} {ls : Array Slot} {rest : List Value} {dC : Nat → ClassId} {dI : Nat → Nat → Nat} {ca : Nat → ClassId} {B : jF} {base : Nat} {G0 G : jT} {E : List (Nat × Nat)} {H0 : Heap} {zc zs : Nat} {L : List jPin} {M : List jCt} {I : List jIv} {a k n : Nat} {cA : ClassId} {tys : List (ClassId × FieldType)}
end JP2
end
