section
theorem dX11_hasWork_0 : decode cX11_hasWork 0 = .ok (.iconst 0, 1) := by decide +kernel
theorem dX11_hasWork_1 : decode cX11_hasWork 1 = .ok (.istore_n 1, 1) := by decide +kernel
theorem dX11_hasWork_2 : decode cX11_hasWork 2 = .ok (.iload_n 1, 1) := by decide +kernel
theorem dX11_hasWork_3 : decode cX11_hasWork 3 = .ok (.iconst 2, 1) := by decide +kernel
theorem dX11_hasWork_4 : decode cX11_hasWork 4 = .ok (.if_icmp .ge 20, 3) := by decide +kernel
theorem dX11_hasWork_7 : decode cX11_hasWork 7 = .ok (.aload_n 0, 1) := by decide +kernel
theorem dX11_hasWork_8 : decode cX11_hasWork 8 = .ok (.getfield 73, 3) := by decide +kernel
theorem dX11_hasWork_11 : decode cX11_hasWork 11 = .ok (.iload_n 1, 1) := by decide +kernel
theorem dX11_hasWork_12 : decode cX11_hasWork 12 = .ok (.aaload, 1) := by decide +kernel
theorem dX11_hasWork_13 : decode cX11_hasWork 13 = .ok (.ifnull 5, 3) := by decide +kernel
theorem dX11_hasWork_16 : decode cX11_hasWork 16 = .ok (.iconst 1, 1) := by decide +kernel
theorem dX11_hasWork_17 : decode cX11_hasWork 17 = .ok (.ireturn, 1) := by decide +kernel
theorem dX11_hasWork_18 : decode cX11_hasWork 18 = .ok (.iinc 1 1, 3) := by decide +kernel
theorem dX11_hasWork_21 : decode cX11_hasWork 21 = .ok (.goto (-19), 3) := by decide +kernel
theorem dX11_hasWork_24 : decode cX11_hasWork 24 = .ok (.aload_n 0, 1) := by decide +kernel
theorem dX11_hasWork_25 : decode cX11_hasWork 25 = .ok (.invokevirtual 564, 3) := by decide +kernel
theorem dX11_hasWork_28 : decode cX11_hasWork 28 = .ok (.ifnull 7, 3) := by decide +kernel
theorem dX11_hasWork_31 : decode cX11_hasWork 31 = .ok (.iconst 1, 1) := by decide +kernel
theorem dX11_hasWork_32 : decode cX11_hasWork 32 = .ok (.goto 4, 3) := by decide +kernel
theorem dX11_hasWork_35 : decode cX11_hasWork 35 = .ok (.iconst 0, 1) := by decide +kernel
theorem dX11_hasWork_36 : decode cX11_hasWork 36 = .ok (.ireturn, 1) := by decide +kernel
theorem dX11_nextToCheck_0 : decode cX11_nextToCheck 0 = .ok (.aconst_null, 1) := by decide +kernel
theorem dX11_nextToCheck_1 : decode cX11_nextToCheck 1 = .ok (.astore_n 1, 1) := by decide +kernel
theorem dX11_nextToCheck_2 : decode cX11_nextToCheck 2 = .ok (.iconst 0, 1) := by decide +kernel
theorem dX11_nextToCheck_3 : decode cX11_nextToCheck 3 = .ok (.istore_n 2, 1) := by decide +kernel
theorem dX11_nextToCheck_4 : decode cX11_nextToCheck 4 = .ok (.iload_n 2, 1) := by decide +kernel
theorem dX11_nextToCheck_5 : decode cX11_nextToCheck 5 = .ok (.aload_n 0, 1) := by decide +kernel
theorem dX11_nextToCheck_6 : decode cX11_nextToCheck 6 = .ok (.getfield 61, 3) := by decide +kernel
theorem dX11_nextToCheck_9 : decode cX11_nextToCheck 9 = .ok (.invokeinterface 142 1, 5) := by decide +kernel
theorem dX11_nextToCheck_14 : decode cX11_nextToCheck 14 = .ok (.if_icmp .ge 57, 3) := by decide +kernel
theorem dX11_nextToCheck_17 : decode cX11_nextToCheck 17 = .ok (.aload_n 0, 1) := by decide +kernel
theorem dX11_nextToCheck_18 : decode cX11_nextToCheck 18 = .ok (.getfield 61, 3) := by decide +kernel
theorem dX11_nextToCheck_21 : decode cX11_nextToCheck 21 = .ok (.iload_n 2, 1) := by decide +kernel
theorem dX11_nextToCheck_22 : decode cX11_nextToCheck 22 = .ok (.invokeinterface 249 2, 5) := by decide +kernel
theorem dX11_nextToCheck_27 : decode cX11_nextToCheck 27 = .ok (.checkcast 71, 3) := by decide +kernel
theorem dX11_nextToCheck_30 : decode cX11_nextToCheck 30 = .ok (.astore_n 3, 1) := by decide +kernel
theorem dX11_nextToCheck_31 : decode cX11_nextToCheck 31 = .ok (.aload_n 3, 1) := by decide +kernel
theorem dX11_nextToCheck_32 : decode cX11_nextToCheck 32 = .ok (.getfield 567, 3) := by decide +kernel
theorem dX11_nextToCheck_35 : decode cX11_nextToCheck 35 = .ok (.ifnonnull 30, 3) := by decide +kernel
theorem dX11_nextToCheck_38 : decode cX11_nextToCheck 38 = .ok (.aload_n 3, 1) := by decide +kernel
theorem dX11_nextToCheck_39 : decode cX11_nextToCheck 39 = .ok (.getfield 171, 3) := by decide +kernel
theorem dX11_nextToCheck_42 : decode cX11_nextToCheck 42 = .ok (.aload_n 3, 1) := by decide +kernel
theorem dX11_nextToCheck_43 : decode cX11_nextToCheck 43 = .ok (.getfield 168, 3) := by decide +kernel
theorem dX11_nextToCheck_46 : decode cX11_nextToCheck 46 = .ok (.if_icmp .ge 19, 3) := by decide +kernel
theorem dX11_nextToCheck_49 : decode cX11_nextToCheck 49 = .ok (.aload_n 0, 1) := by decide +kernel
theorem dX11_nextToCheck_50 : decode cX11_nextToCheck 50 = .ok (.aload_n 3, 1) := by decide +kernel
theorem dX11_nextToCheck_51 : decode cX11_nextToCheck 51 = .ok (.invokevirtual 570, 3) := by decide +kernel
theorem dX11_nextToCheck_54 : decode cX11_nextToCheck 54 = .ok (.ifCond .eq 5, 3) := by decide +kernel
theorem dX11_nextToCheck_57 : decode cX11_nextToCheck 57 = .ok (.aload_n 3, 1) := by decide +kernel
theorem dX11_nextToCheck_58 : decode cX11_nextToCheck 58 = .ok (.areturn, 1) := by decide +kernel
theorem dX11_nextToCheck_59 : decode cX11_nextToCheck 59 = .ok (.aload_n 1, 1) := by decide +kernel
theorem dX11_nextToCheck_60 : decode cX11_nextToCheck 60 = .ok (.ifnonnull 5, 3) := by decide +kernel
theorem dX11_nextToCheck_63 : decode cX11_nextToCheck 63 = .ok (.aload_n 3, 1) := by decide +kernel
theorem dX11_nextToCheck_64 : decode cX11_nextToCheck 64 = .ok (.astore_n 1, 1) := by decide +kernel
theorem dX11_nextToCheck_65 : decode cX11_nextToCheck 65 = .ok (.iinc 2 1, 3) := by decide +kernel
theorem dX11_nextToCheck_68 : decode cX11_nextToCheck 68 = .ok (.goto (-64), 3) := by decide +kernel
theorem dX11_nextToCheck_71 : decode cX11_nextToCheck 71 = .ok (.aload_n 1, 1) := by decide +kernel
theorem dX11_nextToCheck_72 : decode cX11_nextToCheck 72 = .ok (.areturn, 1) := by decide +kernel
theorem dX11_isAskedAbout_0 : decode cX11_isAskedAbout 0 = .ok (.iconst 0, 1) := by decide +kernel
theorem dX11_isAskedAbout_1 : decode cX11_isAskedAbout 1 = .ok (.istore_n 2, 1) := by decide +kernel
theorem dX11_isAskedAbout_2 : decode cX11_isAskedAbout 2 = .ok (.iload_n 2, 1) := by decide +kernel
theorem dX11_isAskedAbout_3 : decode cX11_isAskedAbout 3 = .ok (.aload_n 0, 1) := by decide +kernel
theorem dX11_isAskedAbout_4 : decode cX11_isAskedAbout 4 = .ok (.getfield 65, 3) := by decide +kernel
theorem dX11_isAskedAbout_7 : decode cX11_isAskedAbout 7 = .ok (.invokeinterface 142 1, 5) := by decide +kernel
theorem dX11_isAskedAbout_12 : decode cX11_isAskedAbout 12 = .ok (.if_icmp .ge 31, 3) := by decide +kernel
theorem dX11_isAskedAbout_15 : decode cX11_isAskedAbout 15 = .ok (.aload_n 0, 1) := by decide +kernel
theorem dX11_isAskedAbout_16 : decode cX11_isAskedAbout 16 = .ok (.getfield 65, 3) := by decide +kernel
theorem dX11_isAskedAbout_19 : decode cX11_isAskedAbout 19 = .ok (.iload_n 2, 1) := by decide +kernel
theorem dX11_isAskedAbout_20 : decode cX11_isAskedAbout 20 = .ok (.invokeinterface 249 2, 5) := by decide +kernel
theorem dX11_isAskedAbout_25 : decode cX11_isAskedAbout 25 = .ok (.checkcast 115, 3) := by decide +kernel
theorem dX11_isAskedAbout_28 : decode cX11_isAskedAbout 28 = .ok (.getfield 432, 3) := by decide +kernel
theorem dX11_isAskedAbout_31 : decode cX11_isAskedAbout 31 = .ok (.aload_n 1, 1) := by decide +kernel
theorem dX11_isAskedAbout_32 : decode cX11_isAskedAbout 32 = .ok (.if_acmp .ne 5, 3) := by decide +kernel
theorem dX11_isAskedAbout_35 : decode cX11_isAskedAbout 35 = .ok (.iconst 1, 1) := by decide +kernel
theorem dX11_isAskedAbout_36 : decode cX11_isAskedAbout 36 = .ok (.ireturn, 1) := by decide +kernel
theorem dX11_isAskedAbout_37 : decode cX11_isAskedAbout 37 = .ok (.iinc 2 1, 3) := by decide +kernel
theorem dX11_isAskedAbout_40 : decode cX11_isAskedAbout 40 = .ok (.goto (-38), 3) := by decide +kernel
theorem dX11_isAskedAbout_43 : decode cX11_isAskedAbout 43 = .ok (.iconst 0, 1) := by decide +kernel
theorem dX11_isAskedAbout_44 : decode cX11_isAskedAbout 44 = .ok (.ireturn, 1) := by decide +kernel
def EX11_isAskedAbout : List (Nat × Nat) := []
def EX11_nextToCheck : List (Nat × Nat) := []
def EX11_hasWork : List (Nat × Nat) := []
set_option maxHeartbeats 4000000 in
set_option maxRecDepth 20000 in
theorem uX11_isAskedAbout (l : Launch) (dC : Nat → ClassId) (dI : Nat → Nat → Nat) (ca : Nat → ClassId) (base : Nat) (B : jF) (hB : jBok B) (hAp : jAp (dC, dI)) (hB1 : ∀ n G a H, B 1 n G a H ↔ jOb (dC, dI) 1 3 (F1 n G) a H) (hB3 : ∀ n G a H, B 3 n G a H ↔ jOb (dC, dI) 3 17 (F3 n G) a H) (hB10 : ∀ n G a H, B 10 n G a H ↔ jOb (dC, dI) 10 5 (F10 n G) a H) (hB13 : ∀ n G a H, B 13 n G a H ↔ jOb (dC, dI) 13 19 (F13 n G) a H) (hB222 : ∀ n G a H, B 222 n G a H ↔ jAq (dC, dI) (ca 9) (jQn 10 0) n G a H) (G0 : jT) (H0 : Heap) (r0 : Nat) (r1 : Nat) : Met l yX11_isAskedAbout (jw yX11_isAskedAbout cX11_isAskedAbout 3 (some .boolean)) ({ frames := 3, cells := 0, slots := 0, locals := 64 }) (va_Pc [.ref r0, .ref r1] (fun U => U.heap = H0 ∧ jX B base G0 [] H0 ∧ jG dC dI ca base U ∧ jK7 dC dI ca base U ∧ G0 r0 = some (13, 0) ∧ G0 r1 = some (3, 0) ∧ jP (dC, dI) G0 H0 [] ∧ jIs (dC, dI) G0 H0 [(jFl, jLs dC dI ca G0 3 none)] ∧ True)) (va_Qi (S := Unit) (fun r u => (r = 0 ∨ r = 1) ∧ (True)) (fun u t => (jRt (dC, dI) B base G0 EX11_isAskedAbout H0 [] t.heap) ∧ jIs (dC, dI) G0 t.heap [(jFl, jLs dC dI ca G0 3 none)]) (jA base)) 0 0 (jA base) := by
  refine Met.ofW (cc := cX11_isAskedAbout) (maxL := 3) (ret := (some .boolean)) (by decide) rfl ?_
  intro p e s m args below meth c s₁ Bd hml hv
  obtain ⟨rfl, hH0, hX, hG, hK7, hg_r0, hg_r1, hP0, hI0, hp0⟩ := hv
  have hK := hG.1
  have hx := Bd.exec
  have hb := Bd.bytes
  have hr := Bd.returns
  have hts := atoms_spec (ws := (jw yX11_isAskedAbout cX11_isAskedAbout 3 (some .boolean))) Bd.pre
  have htw : ∀ w ∈ jWl, w.before _ s = true := fun w h => hts w (List.mem_cons_of_mem _ h)
  have hown : s.vm.findClass RX11 = some m.cls := findClass_of_methodNamed Bd.named
  have hlocks := Bd.notSynchronized
  obtain ⟨Q, hQ⟩ : ∃ Q, Q = MQ below (va_Qi (S := Unit) (fun r u => (r = 0 ∨ r = 1) ∧ (True)) (fun u t => (jRt (dC, dI) B base G0 EX11_isAskedAbout H0 [] t.heap) ∧ jIs (dC, dI) G0 t.heap [(jFl, jLs dC dI ca G0 3 none)]) (jA base)) ([.ref r0, .ref r1] : List Value).toArray s 0 0 (jA base) := ⟨_, rfl⟩
  rw [← hQ]
  have hl := lv_entry ([.ref r0, .ref r1]) (n := 3) (Nat.le_of_ble_eq_true rfl)
  rw [lg_entry_eq]
  generalize (lg_sl ([.ref r0, .ref r1]) ++ List.replicate (3 - (lg_sl ([.ref r0, .ref r1])).length) Slot.unset).toArray = ls at hl ⊢
  have hl : lv_has ls 3 [(0, .ref r0), (1, .ref r1)] := hl
  generalize hR : (headSpec (jw yX11_isAskedAbout cX11_isAskedAbout 3 (some .boolean)) ({ frames := 3, cells := 0, slots := 0, locals := 64 })).room = R
  subst hH0
  have hh : jSt (dC, dI) B base G0 G0 EX11_isAskedAbout s.heap 0 0 [] [] [(jFl, jLs dC dI ca G0 3 none)] s.heap [] := jSt.start hX hP0 jMc.nil hI0
  clear hX hP0
  have hk0 : (0 : Int32).toInt = 0 := by decide
  have hk1 : (1 : Int32).toInt = 1 := by decide
  have hly_10_1 := htw (u_lay RX8 TX8 1) (jWc_wsX80 _ (u_in_lay (by decide)))
  have hly_13_8 := htw (u_lay RX11 TX11 8) (jWc_wsX110 _ (u_in_lay (by decide)))
  have hlk_65 := (htw (.fieldLink RX11 65 "ProofServer" "waiting" "Ljava/util/List;") (jWr_2 _ (List.mem_of_getElem? (i := 15) rfl)))
  have hlk_432 := (htw (.fieldLink RX11 432 "ProofServer$Request" "about" "LProofServer$Document;") (jWr_27 _ (List.mem_of_getElem? (i := 14) rfl)))
  refine lv_iconst (v := 0) hx hb dX11_isAskedAbout_0 (by decide) ?_
  refine lv_istore_n (lv' := [(2, .int 0), (0, .ref r0), (1, .ref r1)]) hx hb dX11_isAskedAbout_1 rfl hl (by decide) rfl (fun ls hl => ?_)
  have L2 : ∀ (N : Nat) (v2_1 : Int32) (H_1 : Heap) (locs_1 : List Loc), jSt (dC, dI) B base G0 G0 EX11_isAskedAbout s.heap 0 0 [] [] [(jFl, jLs dC dI ca G0 3 none)] H_1 locs_1 → (0 ≤ v2_1.toInt ∧ v2_1.toInt ≤ 40) → (41 - v2_1.toInt : Int) < N → ∀ ls : Array Slot, lv_has ls 3 [(0, .ref r0), (1, .ref r1), (2, .int v2_1)] → W p l e R s m ([.ref r0, .ref r1] : List Value).toArray below meth c H_1 locs_1 0 0 Q (F0 m 2 ls []) := by
    intro N
    induction N with
    | zero => intro v2_1 H_1 locs_1 hh_1  hi_1 hm; exact absurd hm (by omega)
    | succ N L2 =>
      intro v2_1 H_1 locs_1 hh_1  hi_1 hm_1 ls hl
      obtain ⟨hi_1_0, hi_1_1⟩ := hi_1
      refine lv_iload_n hx hb dX11_isAskedAbout_2 rfl (lv_at hl 2 rfl) ?_
      refine lv_aload_n hx hb dX11_isAskedAbout_3 rfl (lv_at hl 0 rfl) ?_
      obtain ⟨v_2, hv_2, hh_3⟩ := hh_1.pin (C := RX11) (T := TX11) (N := 19) hB13 rfl (by decide) hg_r0 (i := 8) (by decide) rfl
      clear hh_1
      obtain ⟨waiting_4, rfl, hg_waiting_4⟩ := hv_2
      refine j7_read hx hb hown hK (C := RX11) (T := TX11) (N := 19) rfl hly_13_8 hlk_65 (hh_3.at 0 rfl) dX11_isAskedAbout_4 ?_
      obtain ⟨v_7, hv_7, hh_8⟩ := hh_3.pin (C := RJx4a65c) (T := TJx4a65c) (N := 3) hB1 rfl (by decide) hg_waiting_4 (i := 2) (by decide) rfl
      obtain ⟨size_9, rfl, hlosize_9, hhisize_9⟩ := hv_7
      refine va_callFi (A0 := jA base) (H0 := s.heap) (va_runF (hK.1 1 _ rfl).2 (As := []) (rest := [.int v2_1]) ⟨hx, hb, hml, hown, hts⟩ (uJx4a65c_size_8abf5 l dC dI ca base B hB hAp hB1 G0 H_1 waiting_4 2 size_9) (va_cwF 0 hts (jgF (jWr_27 _ (List.mem_of_getElem? (i := 22) rfl)) (jWr_27 _ (List.mem_of_getElem? (i := 23) rfl)) (jWr_28 _ (List.mem_of_getElem? (i := 0) rfl)) (jWr_2 _ (List.mem_of_getElem? (i := 13) rfl)) (jWr_28 _ (List.mem_of_getElem? (i := 1) rfl))) rfl rfl rfl hK7.2.2.2.2.2.1.1 ⟨by decide, by decide, by decide +kernel⟩ ⟨by rw [← hR]; exact Nat.le_of_ble_eq_true rfl, by rw [← hR]; exact Nat.le_of_ble_eq_true rfl⟩) ⟨fun a U g mk q => by obtain ⟨q0, q1, q2, qK, q10, q11, q12⟩ := q; exact ⟨q0, q1, q2, jG.calling g mk a qK, q10, q11, q12⟩, hh_8.recv (C := RJx4a65c) (T := TJx4a65c) (N := 3) hB1 rfl (by decide) hg_waiting_4 hK, fun U hU hW => ⟨rfl, hU, hh_8.2.1, hG.step hW hU hh_8.1, hg_waiting_4, (hh_8.2.2.1.sub (L1 := [(waiting_4, 1, 2, .int size_9)]) [0] rfl), trivial⟩⟩ rfl rfl hl.1 rfl (lv_room (Nat.le_of_ble_eq_true rfl)) dX11_isAskedAbout_7 ⟨Nat.zero_le _, Nat.zero_le _⟩) hh_8.1 (fun q _ h => h) (fun q h => h) (fun r_6 u_5 t_5 H_5 locs_5 ht_5 hvm_5 hr_6 hb_5 hz_5 hk_5 hS_5 => ?_)
      rw [ht_5] at hb_5
      obtain ⟨hb_51, hb_52, hb_53, hb_54, hb_55⟩ := hb_5
      have hh_5 : jSt (dC, dI) B base G0 G0 EX11_isAskedAbout s.heap 0 0 [(waiting_4, 1, 2, .int size_9), (r0, 13, 8, .ref waiting_4)] [] [(jFl, jLs dC dI ca G0 3 none)] H_5 locs_5 := ((hh_8.call hb_51 hb_52 hb_53 hb_54 hS_5 rfl (L1 := [(waiting_4, 1, 2, .int size_9), (r0, 13, 8, .ref waiting_4)]) [0, 1] rfl rfl (M1 := []) [] rfl rfl (I1 := [(jFl, jLs dC dI ca G0 3 none)]) [0] rfl rfl).more hb_55)
      clear hh_8 ht_5 hvm_5 hz_5 hk_5 hS_5 hb_51 hb_52 hb_53 hb_54 hb_55
      refine lv_icmp_ge (tgt := 43) hx hb dX11_isAskedAbout_12 (by decide) (fun c_10 => ?_) (fun c_10 => ?_)
      · skip
        have c_10' : v2_1.toInt ≥ r_6.toInt := jb_ge (rfl) (rfl) c_10
        refine lv_iconst (v := 0) hx hb dX11_isAskedAbout_43 (by decide) ?_
        rw [hQ]
        exact W.zret (v := 0) hx hb hr (jb_nz (Or.inl rfl)) (fun t ht hW => ⟨⟨0, (), rfl, ⟨(Or.inl rfl), trivial⟩, ⟨hh_5.rt (M1 := []) [] rfl ht, by rw [ht]; exact hh_5.2.2.2.2.2.2.2.2.sub (L1 := [(jFl, jLs dC dI ca G0 3 none)]) [0] rfl⟩⟩, by rw [ht]; try exact hh_5.1.1, fun q h9 hq => by rw [ht]; try exact hh_5.1.2.1 q h9 hq⟩) hh_5.1.2.2 dX11_isAskedAbout_44
      · skip
        have c_10' : v2_1.toInt < r_6.toInt := jb_ge_n (rfl) (rfl) c_10
        refine lv_aload_n hx hb dX11_isAskedAbout_15 rfl (lv_at hl 0 rfl) ?_
        refine j7_read hx hb hown hK (C := RX11) (T := TX11) (N := 19) rfl hly_13_8 hlk_65 (hh_5.at 1 rfl) dX11_isAskedAbout_16 ?_
        refine lv_iload_n hx hb dX11_isAskedAbout_19 rfl (lv_at hl 2 rfl) ?_
        refine j_callFx (A0 := jA base) (H0 := s.heap) (va_runF (hK.1 1 _ rfl).2 (As := [.int v2_1]) (rest := []) ⟨hx, hb, hml, hown, hts⟩ (uJx4a65c_get_915e3L2 l dC dI ca base B hB hAp hB1 hB10 hB222 G0 H_5 waiting_4 v2_1 size_9) (va_cwF 1 hts (jgF (jWr_28 _ (List.mem_of_getElem? (i := 3) rfl)) (jWr_28 _ (List.mem_of_getElem? (i := 4) rfl)) (jWr_28 _ (List.mem_of_getElem? (i := 5) rfl)) (jWr_2 _ (List.mem_of_getElem? (i := 13) rfl)) (jWr_28 _ (List.mem_of_getElem? (i := 6) rfl))) rfl rfl rfl hK7.2.2.2.2.2.1.2.1 ⟨by decide, by decide, by decide +kernel⟩ ⟨by rw [← hR]; exact Nat.le_of_ble_eq_true rfl, by rw [← hR]; exact Nat.le_of_ble_eq_true rfl⟩) ⟨fun a U g mk q => by obtain ⟨q0, q1, q2, qK, q10, q11, q12, q13, q14⟩ := q; exact ⟨q0, q1, q2, jG.calling g mk a qK, (jK7.calling g mk a q10), q11, q12, q13, q14⟩, hh_5.recv (C := RJx4a65c) (T := TJx4a65c) (N := 3) hB1 rfl (by decide) hg_waiting_4 hK, fun U hU hW => ⟨rfl, hU, hh_5.2.1, hG.step hW hU hh_5.1, (hK7.step hW hU hh_5.1), hg_waiting_4, (hh_5.2.2.1.sub (L1 := [(waiting_4, 1, 2, .int size_9)]) [0] rfl), (hh_5.2.2.2.2.2.2.2.2.sub (L1 := [(jFl, jLs dC dI ca G0 3 none)]) [0] rfl), by first | omega | (refine ⟨?_, ?_⟩ <;> (first | omega | rfl | assumption | decide | exact Or.inl rfl | exact Or.inr rfl | (simp only; omega)))⟩⟩ rfl rfl hl.1 rfl (lv_room (Nat.le_of_ble_eq_true rfl)) dX11_isAskedAbout_20 ⟨Nat.zero_le _, Nat.zero_le _⟩) hh_5.1 (fun q _ h => h) (fun q h => h) (fun r_12 u_11 t_11 H_11 locs_11 ht_11 hvm_11 hr_12 hb_11 hz_11 hk_11 hS_11 => ?_)
        rw [ht_11] at hb_11
        obtain ⟨hb_11, hbE_11⟩ := hb_11
        obtain ⟨hb_111, hb_112, hb_113, hb_114, hb_115⟩ := hb_11
        have hh_11 : jSt (dC, dI) B base G0 G0 EX11_isAskedAbout s.heap 0 0 [(waiting_4, 1, 2, .int size_9), (r0, 13, 8, .ref waiting_4)] [] [(jFl, jLs dC dI ca G0 3 none)] H_11 locs_11 := (((hh_5.call hb_111 hb_112 hb_113 hb_114 hS_11 rfl (L1 := [(waiting_4, 1, 2, .int size_9), (r0, 13, 8, .ref waiting_4)]) [0, 1] rfl rfl (M1 := []) [] rfl rfl (I1 := []) [] rfl rfl).more hb_115)).addIs hbE_11
        clear hh_5 ht_11 hvm_11 hz_11 hk_11 hS_11 hb_111 hb_112 hb_113 hb_114 hb_115
        clear  hbE_11
        obtain ⟨ret_13, rfl, hg_ret_13⟩ := hr_12
        refine va_castY hx hb hown (htw (.classLink RX11 115 "ProofServer$Request") (jWr_42 _ (List.mem_of_getElem? (i := 5) rfl))) hK7.2.2.1.2.1.2 (hh_11.recv (C := RX8) (T := TX8) (N := 5) hB10 rfl (by decide) hg_ret_13 hK) dX11_isAskedAbout_25 ?_
        obtain ⟨v_14, hv_14, hh_15⟩ := hh_11.pin (C := RX8) (T := TX8) (N := 5) hB10 rfl (by decide) hg_ret_13 (i := 1) (by decide) rfl
        clear hh_11
        rcases hv_14 with rfl | ⟨about_16, rfl, hg_about_16⟩
        · refine j7_read hx hb hown hK (C := RX8) (T := TX8) (N := 5) rfl hly_10_1 hlk_432 (hh_15.at 0 rfl) dX11_isAskedAbout_28 ?_
          refine lv_aload_n hx hb dX11_isAskedAbout_31 rfl (lv_at hl 1 rfl) ?_
          refine lv_acmp_ne (rx := none) (ry := (some r1)) (tgt := 37) hx hb dX11_isAskedAbout_32 (by decide) (fun c_17 => ?_) (fun c_17 => ?_)
          · skip
            obtain ⟨z_18, ez_18⟩ : ∃ y : Int32, y = v2_1 + 1 := ⟨_, rfl⟩
            refine lv_iinc (v := z_18) (lv' := [(2, .int z_18), (0, .ref r0), (1, .ref r1)]) hx hb dX11_isAskedAbout_37 hl (k := 2) rfl (by rw [ez_18]; rfl) (by decide) rfl (fun ls hl => ?_)
            have hz_18 : z_18.toInt = v2_1.toInt + 1 := by rw [ez_18]; exact jb_iadd2 (rfl) (by decide) (by omega)
            refine lv_goto (tgt := 2) hx hb dX11_isAskedAbout_40 (by decide) ?_
            exact L2 z_18 _ _ (hh_15.sub (L1 := []) [] rfl (M1 := []) [] rfl (I1 := [(jFl, jLs dC dI ca G0 3 none)]) [0] rfl) (by first | omega | (refine ⟨?_, ?_⟩ <;> (first | omega | rfl | assumption | decide | exact Or.inl rfl | exact Or.inr rfl | (simp only; omega)))) (by omega) _ (lv_sub hl [1, 2, 0] rfl)
          · skip
            cases c_17
        · refine j7_read hx hb hown hK (C := RX8) (T := TX8) (N := 5) rfl hly_10_1 hlk_432 (hh_15.at 0 rfl) dX11_isAskedAbout_28 ?_
          refine lv_aload_n hx hb dX11_isAskedAbout_31 rfl (lv_at hl 1 rfl) ?_
          refine lv_acmp_ne (rx := (some about_16)) (ry := (some r1)) (tgt := 37) hx hb dX11_isAskedAbout_32 (by decide) (fun c_19 => ?_) (fun c_19 => ?_)
          · skip
            obtain ⟨z_20, ez_20⟩ : ∃ y : Int32, y = v2_1 + 1 := ⟨_, rfl⟩
            refine lv_iinc (v := z_20) (lv' := [(2, .int z_20), (0, .ref r0), (1, .ref r1)]) hx hb dX11_isAskedAbout_37 hl (k := 2) rfl (by rw [ez_20]; rfl) (by decide) rfl (fun ls hl => ?_)
            have hz_20 : z_20.toInt = v2_1.toInt + 1 := by rw [ez_20]; exact jb_iadd2 (rfl) (by decide) (by omega)
            refine lv_goto (tgt := 2) hx hb dX11_isAskedAbout_40 (by decide) ?_
            exact L2 z_20 _ _ (hh_15.sub (L1 := []) [] rfl (M1 := []) [] rfl (I1 := [(jFl, jLs dC dI ca G0 3 none)]) [0] rfl) (by first | omega | (refine ⟨?_, ?_⟩ <;> (first | omega | rfl | assumption | decide | exact Or.inl rfl | exact Or.inr rfl | (simp only; omega)))) (by omega) _ (lv_sub hl [1, 2, 0] rfl)
          · skip
            refine lv_iconst (v := 1) hx hb dX11_isAskedAbout_35 (by decide) ?_
            rw [hQ]
            exact W.zret (v := 1) hx hb hr (jb_nz (Or.inr rfl)) (fun t ht hW => ⟨⟨1, (), rfl, ⟨(Or.inr rfl), trivial⟩, ⟨hh_15.rt (M1 := []) [] rfl ht, by rw [ht]; exact hh_15.2.2.2.2.2.2.2.2.sub (L1 := [(jFl, jLs dC dI ca G0 3 none)]) [0] rfl⟩⟩, by rw [ht]; try exact hh_15.1.1, fun q h9 hq => by rw [ht]; try exact hh_15.1.2.1 q h9 hq⟩) hh_15.1.2.2 dX11_isAskedAbout_36
  exact L2 (41 - (0 : Int32).toInt : Int).toNat.succ 0 _ _ hh (by first | omega | (refine ⟨?_, ?_⟩ <;> (first | omega | rfl | assumption | decide | exact Or.inl rfl | exact Or.inr rfl | (simp only; omega)))) (by omega) _ (lv_sub hl [1, 2, 0] rfl)
set_option maxHeartbeats 4000000 in
set_option maxRecDepth 20000 in
theorem uX11_nextToCheck (l : Launch) (dC : Nat → ClassId) (dI : Nat → Nat → Nat) (ca : Nat → ClassId) (base : Nat) (B : jF) (hB : jBok B) (hAp : jAp (dC, dI)) (hB1 : ∀ n G a H, B 1 n G a H ↔ jOb (dC, dI) 1 3 (F1 n G) a H) (hB3 : ∀ n G a H, B 3 n G a H ↔ jOb (dC, dI) 3 17 (F3 n G) a H) (hB10 : ∀ n G a H, B 10 n G a H ↔ jOb (dC, dI) 10 5 (F10 n G) a H) (hB13 : ∀ n G a H, B 13 n G a H ↔ jOb (dC, dI) 13 19 (F13 n G) a H) (hB101 : ∀ n G a H, B 101 n G a H ↔ jAr (dC, dI) (ca 1) (fun j z => True) n a H) (hB221 : ∀ n G a H, B 221 n G a H ↔ jAq (dC, dI) (ca 9) (jQn 3 0) n G a H) (hB222 : ∀ n G a H, B 222 n G a H ↔ jAq (dC, dI) (ca 9) (jQn 10 0) n G a H) (G0 : jT) (H0 : Heap) (r0 : Nat) : Met l yX11_nextToCheck (jw yX11_nextToCheck cX11_nextToCheck 4 (some (.object "ProofServer$Document"))) ({ frames := 4, cells := 0, slots := 0, locals := 86 }) (va_Pc [.ref r0] (fun U => U.heap = H0 ∧ jX B base G0 [] H0 ∧ jG dC dI ca base U ∧ jK7 dC dI ca base U ∧ G0 r0 = some (13, 0) ∧ jP (dC, dI) G0 H0 [] ∧ jIs (dC, dI) G0 H0 [(jFl, jLs dC dI ca G0 3 none)] ∧ True)) (jQx (S := Unit) (fun v u => jRn G0 3 0 v) (fun u t => (jRt (dC, dI) B base G0 EX11_nextToCheck H0 [] t.heap) ∧ jIs (dC, dI) G0 t.heap [(jFl, jLs dC dI ca G0 3 none)]) (jA base)) 0 0 (jA base) := by
  refine Met.ofW (cc := cX11_nextToCheck) (maxL := 4) (ret := (some (.object "ProofServer$Document"))) (by decide) rfl ?_
  intro p e s m args below meth c s₁ Bd hml hv
  obtain ⟨rfl, hH0, hX, hG, hK7, hg_r0, hP0, hI0, hp0⟩ := hv
  have hK := hG.1
  have hx := Bd.exec
  have hb := Bd.bytes
  have hr := Bd.returns
  have hts := atoms_spec (ws := (jw yX11_nextToCheck cX11_nextToCheck 4 (some (.object "ProofServer$Document")))) Bd.pre
  have htw : ∀ w ∈ jWl, w.before _ s = true := fun w h => hts w (List.mem_cons_of_mem _ h)
  have hown : s.vm.findClass RX11 = some m.cls := findClass_of_methodNamed Bd.named
  have hlocks := Bd.notSynchronized
  obtain ⟨Q, hQ⟩ : ∃ Q, Q = MQ below (jQx (S := Unit) (fun v u => jRn G0 3 0 v) (fun u t => (jRt (dC, dI) B base G0 EX11_nextToCheck H0 [] t.heap) ∧ jIs (dC, dI) G0 t.heap [(jFl, jLs dC dI ca G0 3 none)]) (jA base)) ([.ref r0] : List Value).toArray s 0 0 (jA base) := ⟨_, rfl⟩
  rw [← hQ]
  have hl := lv_entry ([.ref r0]) (n := 4) (Nat.le_of_ble_eq_true rfl)
  rw [lg_entry_eq]
  generalize (lg_sl ([.ref r0]) ++ List.replicate (4 - (lg_sl ([.ref r0])).length) Slot.unset).toArray = ls at hl ⊢
  have hl : lv_has ls 4 [(0, .ref r0)] := hl
  generalize hR : (headSpec (jw yX11_nextToCheck cX11_nextToCheck 4 (some (.object "ProofServer$Document"))) ({ frames := 4, cells := 0, slots := 0, locals := 86 })).room = R
  subst hH0
  have hh : jSt (dC, dI) B base G0 G0 EX11_nextToCheck s.heap 0 0 [] [] [(jFl, jLs dC dI ca G0 3 none)] s.heap [] := jSt.start hX hP0 jMc.nil hI0
  clear hX hP0
  have hk0 : (0 : Int32).toInt = 0 := by decide
  have hk1 : (1 : Int32).toInt = 1 := by decide
  have hly_3_4 := htw (u_lay RX1 TX1 4) (jWc_wsX10 _ (u_in_lay (by decide)))
  have hly_3_10 := htw (u_lay RX1 TX1 10) (jWc_wsX10 _ (u_in_lay (by decide)))
  have hly_3_11 := htw (u_lay RX1 TX1 11) (jWc_wsX10 _ (u_in_lay (by decide)))
  have hly_13_7 := htw (u_lay RX11 TX11 7) (jWc_wsX110 _ (u_in_lay (by decide)))
  have hlk_61 := (htw (.fieldLink RX11 61 "ProofServer" "open" "Ljava/util/List;") (jWr_2 _ (List.mem_of_getElem? (i := 14) rfl)))
  have hlk_567 := (htw (.fieldLink RX11 567 "ProofServer$Document" "checking" "[I") (jWr_43 _ (List.mem_of_getElem? (i := 7) rfl)))
  have hlk_171 := (htw (.fieldLink RX11 171 "ProofServer$Document" "checked" "I") (jWr_35 _ (List.mem_of_getElem? (i := 17) rfl)))
  have hlk_168 := (htw (.fieldLink RX11 168 "ProofServer$Document" "sentences" "I") (jWr_35 _ (List.mem_of_getElem? (i := 4) rfl)))
  refine lv_null hx hb dX11_nextToCheck_0 ?_
  refine j7_nst_n (lv' := [(1, .null), (0, .ref r0)]) hx hb dX11_nextToCheck_1 rfl hl (by decide) rfl (fun ls hl => ?_)
  refine lv_iconst (v := 0) hx hb dX11_nextToCheck_2 (by decide) ?_
  refine lv_istore_n (lv' := [(2, .int 0), (1, .null), (0, .ref r0)]) hx hb dX11_nextToCheck_3 rfl hl (by decide) rfl (fun ls hl => ?_)
  have L4 : ∀ (N : Nat) (v1_1 : Option Nat) (v2_1 : Int32) (H_1 : Heap) (locs_1 : List Loc), jSt (dC, dI) B base G0 G0 EX11_nextToCheck s.heap 0 0 [] [] [(jFl, jLs dC dI ca G0 3 none)] H_1 locs_1 → jQn 3 0 G0 v1_1 → (0 ≤ v2_1.toInt ∧ v2_1.toInt ≤ 40) → (41 - v2_1.toInt : Int) < N → ∀ ls : Array Slot, lv_has ls 4 [(0, .ref r0), (1, va_rf v1_1), (2, .int v2_1)] → W p l e R s m ([.ref r0] : List Value).toArray below meth c H_1 locs_1 0 0 Q (F0 m 4 ls []) := by
    intro N
    induction N with
    | zero => intro v1_1 v2_1 H_1 locs_1 hh_1 hq_v1_1 hi_1 hm; exact absurd hm (by omega)
    | succ N L4 =>
      intro v1_1 v2_1 H_1 locs_1 hh_1 hq_v1_1 hi_1 hm_1 ls hl
      obtain ⟨hi_1_0, hi_1_1⟩ := hi_1
      rcases hq_v1_1 with rfl | ⟨nv_2, rfl, hg_nv_2⟩
      · have hl : lv_has ls 4 [(0, .ref r0), (1, .null), (2, .int v2_1)] := hl
        refine lv_iload_n hx hb dX11_nextToCheck_4 rfl (lv_at hl 2 rfl) ?_
        refine lv_aload_n hx hb dX11_nextToCheck_5 rfl (lv_at hl 0 rfl) ?_
        obtain ⟨v_3, hv_3, hh_4⟩ := hh_1.pin (C := RX11) (T := TX11) (N := 19) hB13 rfl (by decide) hg_r0 (i := 7) (by decide) rfl
        clear hh_1
        obtain ⟨open_5, rfl, hg_open_5⟩ := hv_3
        refine j7_read hx hb hown hK (C := RX11) (T := TX11) (N := 19) rfl hly_13_7 hlk_61 (hh_4.at 0 rfl) dX11_nextToCheck_6 ?_
        obtain ⟨v_8, hv_8, hh_9⟩ := hh_4.pin (C := RJx4a65c) (T := TJx4a65c) (N := 3) hB1 rfl (by decide) hg_open_5 (i := 2) (by decide) rfl
        obtain ⟨size_10, rfl, hlosize_10, hhisize_10⟩ := hv_8
        refine va_callFi (A0 := jA base) (H0 := s.heap) (va_runF (hK.1 1 _ rfl).2 (As := []) (rest := [.int v2_1]) ⟨hx, hb, hml, hown, hts⟩ (uJx4a65c_size_8abf5 l dC dI ca base B hB hAp hB1 G0 H_1 open_5 1 size_10) (va_cwF 0 hts (jgF (jWr_27 _ (List.mem_of_getElem? (i := 22) rfl)) (jWr_27 _ (List.mem_of_getElem? (i := 23) rfl)) (jWr_28 _ (List.mem_of_getElem? (i := 0) rfl)) (jWr_2 _ (List.mem_of_getElem? (i := 13) rfl)) (jWr_28 _ (List.mem_of_getElem? (i := 1) rfl))) rfl rfl rfl hK7.2.2.2.2.2.1.1 ⟨by decide, by decide, by decide +kernel⟩ ⟨by rw [← hR]; exact Nat.le_of_ble_eq_true rfl, by rw [← hR]; exact Nat.le_of_ble_eq_true rfl⟩) ⟨fun a U g mk q => by obtain ⟨q0, q1, q2, qK, q10, q11, q12⟩ := q; exact ⟨q0, q1, q2, jG.calling g mk a qK, q10, q11, q12⟩, hh_9.recv (C := RJx4a65c) (T := TJx4a65c) (N := 3) hB1 rfl (by decide) hg_open_5 hK, fun U hU hW => ⟨rfl, hU, hh_9.2.1, hG.step hW hU hh_9.1, hg_open_5, (hh_9.2.2.1.sub (L1 := [(open_5, 1, 2, .int size_10)]) [0] rfl), trivial⟩⟩ rfl rfl hl.1 rfl (lv_room (Nat.le_of_ble_eq_true rfl)) dX11_nextToCheck_9 ⟨Nat.zero_le _, Nat.zero_le _⟩) hh_9.1 (fun q _ h => h) (fun q h => h) (fun r_7 u_6 t_6 H_6 locs_6 ht_6 hvm_6 hr_7 hb_6 hz_6 hk_6 hS_6 => ?_)
        rw [ht_6] at hb_6
        obtain ⟨hb_61, hb_62, hb_63, hb_64, hb_65⟩ := hb_6
        have hh_6 : jSt (dC, dI) B base G0 G0 EX11_nextToCheck s.heap 0 0 [(open_5, 1, 2, .int size_10), (r0, 13, 7, .ref open_5)] [] [(jFl, jLs dC dI ca G0 3 none)] H_6 locs_6 := ((hh_9.call hb_61 hb_62 hb_63 hb_64 hS_6 rfl (L1 := [(open_5, 1, 2, .int size_10), (r0, 13, 7, .ref open_5)]) [0, 1] rfl rfl (M1 := []) [] rfl rfl (I1 := [(jFl, jLs dC dI ca G0 3 none)]) [0] rfl rfl).more hb_65)
        clear hh_9 ht_6 hvm_6 hz_6 hk_6 hS_6 hb_61 hb_62 hb_63 hb_64 hb_65
        refine lv_icmp_ge (tgt := 71) hx hb dX11_nextToCheck_14 (by decide) (fun c_11 => ?_) (fun c_11 => ?_)
        · skip
          have c_11' : v2_1.toInt ≥ r_7.toInt := jb_ge (rfl) (rfl) c_11
          refine j7_nld_n hx hb dX11_nextToCheck_71 rfl (lv_at hl 1 rfl) ?_
          rw [hQ]
          exact W.aret (v := .null) hx hb hr (Or.inl ⟨_, rfl⟩) (Or.inl rfl) (fun t ht hW => ⟨⟨.null, (), rfl, Or.inl rfl, ⟨hh_6.rt (M1 := []) [] rfl ht, by rw [ht]; exact hh_6.2.2.2.2.2.2.2.2.sub (L1 := [(jFl, jLs dC dI ca G0 3 none)]) [0] rfl⟩⟩, by rw [ht]; try exact hh_6.1.1, fun q h9 hq => by rw [ht]; try exact hh_6.1.2.1 q h9 hq⟩) hh_6.1.2.2 dX11_nextToCheck_72
        · skip
          have c_11' : v2_1.toInt < r_7.toInt := jb_ge_n (rfl) (rfl) c_11
          refine lv_aload_n hx hb dX11_nextToCheck_17 rfl (lv_at hl 0 rfl) ?_
          refine j7_read hx hb hown hK (C := RX11) (T := TX11) (N := 19) rfl hly_13_7 hlk_61 (hh_6.at 1 rfl) dX11_nextToCheck_18 ?_
          refine lv_iload_n hx hb dX11_nextToCheck_21 rfl (lv_at hl 2 rfl) ?_
          refine j_callFx (A0 := jA base) (H0 := s.heap) (va_runF (hK.1 1 _ rfl).2 (As := [.int v2_1]) (rest := []) ⟨hx, hb, hml, hown, hts⟩ (uJx4a65c_get_915e3L1 l dC dI ca base B hB hAp hB1 hB3 hB221 G0 H_6 open_5 v2_1 size_10) (va_cwF 1 hts (jgF (jWr_28 _ (List.mem_of_getElem? (i := 3) rfl)) (jWr_28 _ (List.mem_of_getElem? (i := 4) rfl)) (jWr_28 _ (List.mem_of_getElem? (i := 5) rfl)) (jWr_2 _ (List.mem_of_getElem? (i := 13) rfl)) (jWr_28 _ (List.mem_of_getElem? (i := 6) rfl))) rfl rfl rfl hK7.2.2.2.2.2.1.2.1 ⟨by decide, by decide, by decide +kernel⟩ ⟨by rw [← hR]; exact Nat.le_of_ble_eq_true rfl, by rw [← hR]; exact Nat.le_of_ble_eq_true rfl⟩) ⟨fun a U g mk q => by obtain ⟨q0, q1, q2, qK, q10, q11, q12, q13, q14⟩ := q; exact ⟨q0, q1, q2, jG.calling g mk a qK, (jK7.calling g mk a q10), q11, q12, q13, q14⟩, hh_6.recv (C := RJx4a65c) (T := TJx4a65c) (N := 3) hB1 rfl (by decide) hg_open_5 hK, fun U hU hW => ⟨rfl, hU, hh_6.2.1, hG.step hW hU hh_6.1, (hK7.step hW hU hh_6.1), hg_open_5, (hh_6.2.2.1.sub (L1 := [(open_5, 1, 2, .int size_10)]) [0] rfl), (hh_6.2.2.2.2.2.2.2.2.sub (L1 := [(jFl, jLs dC dI ca G0 3 none)]) [0] rfl), by first | omega | (refine ⟨?_, ?_⟩ <;> (first | omega | rfl | assumption | decide | exact Or.inl rfl | exact Or.inr rfl | (simp only; omega)))⟩⟩ rfl rfl hl.1 rfl (lv_room (Nat.le_of_ble_eq_true rfl)) dX11_nextToCheck_22 ⟨Nat.zero_le _, Nat.zero_le _⟩) hh_6.1 (fun q _ h => h) (fun q h => h) (fun r_13 u_12 t_12 H_12 locs_12 ht_12 hvm_12 hr_13 hb_12 hz_12 hk_12 hS_12 => ?_)
          rw [ht_12] at hb_12
          obtain ⟨hb_12, hbE_12⟩ := hb_12
          obtain ⟨hb_121, hb_122, hb_123, hb_124, hb_125⟩ := hb_12
          have hh_12 : jSt (dC, dI) B base G0 G0 EX11_nextToCheck s.heap 0 0 [(open_5, 1, 2, .int size_10), (r0, 13, 7, .ref open_5)] [] [(jFl, jLs dC dI ca G0 3 none)] H_12 locs_12 := (((hh_6.call hb_121 hb_122 hb_123 hb_124 hS_12 rfl (L1 := [(open_5, 1, 2, .int size_10), (r0, 13, 7, .ref open_5)]) [0, 1] rfl rfl (M1 := []) [] rfl rfl (I1 := []) [] rfl rfl).more hb_125)).addIs hbE_12
          clear hh_6 ht_12 hvm_12 hz_12 hk_12 hS_12 hb_121 hb_122 hb_123 hb_124 hb_125
          clear  hbE_12
          obtain ⟨ret_14, rfl, hg_ret_14⟩ := hr_13
          refine va_castY hx hb hown (htw (.classLink RX11 71 "ProofServer$Document") (jWr_27 _ (List.mem_of_getElem? (i := 20) rfl))) hK7.2.2.1.1.2 (hh_12.recv (C := RX1) (T := TX1) (N := 17) hB3 rfl (by decide) hg_ret_14 hK) dX11_nextToCheck_27 ?_
          refine lv_astore_n (lv' := [(3, .ref ret_14), (0, .ref r0), (1, .null), (2, .int v2_1)]) hx hb dX11_nextToCheck_30 rfl hl (by decide) rfl (fun ls hl => ?_)
          refine lv_aload_n hx hb dX11_nextToCheck_31 rfl (lv_at hl 0 rfl) ?_
          obtain ⟨v_15, hv_15, hh_16⟩ := hh_12.pin (C := RX1) (T := TX1) (N := 17) hB3 rfl (by decide) hg_ret_14 (i := 11) (by decide) rfl
          clear hh_12
          rcases hv_15 with rfl | ⟨checking_17, nchecking_17, rfl, hg_checking_17, hn_checking_17⟩
          · refine j7_read hx hb hown hK (C := RX1) (T := TX1) (N := 17) rfl hly_3_11 hlk_567 (hh_16.at 0 rfl) dX11_nextToCheck_32 ?_
            refine lv_ifnonnullN hx hb dX11_nextToCheck_35 ?_
            refine lv_aload_n hx hb dX11_nextToCheck_38 rfl (lv_at hl 0 rfl) ?_
            obtain ⟨v_18, hv_18, hh_19⟩ := hh_16.pin (C := RX1) (T := TX1) (N := 17) hB3 rfl (by decide) hg_ret_14 (i := 10) (by decide) rfl
            clear hh_16
            obtain ⟨checked_20, rfl, hlochecked_20, hhichecked_20⟩ := hv_18
            refine j7_read hx hb hown hK (C := RX1) (T := TX1) (N := 17) rfl hly_3_10 hlk_171 (hh_19.at 0 rfl) dX11_nextToCheck_39 ?_
            refine lv_aload_n hx hb dX11_nextToCheck_42 rfl (lv_at hl 0 rfl) ?_
            obtain ⟨v_21, hv_21, hh_22⟩ := hh_19.pin (C := RX1) (T := TX1) (N := 17) hB3 rfl (by decide) hg_ret_14 (i := 4) (by decide) rfl
            clear hh_19
            obtain ⟨sentences_23, rfl, hlosentences_23, hhisentences_23⟩ := hv_21
            refine j7_read hx hb hown hK (C := RX1) (T := TX1) (N := 17) rfl hly_3_4 hlk_168 (hh_22.at 0 rfl) dX11_nextToCheck_43 ?_
            refine lv_icmp_ge (tgt := 65) hx hb dX11_nextToCheck_46 (by decide) (fun c_24 => ?_) (fun c_24 => ?_)
            · skip
              have c_24' : checked_20.toInt ≥ sentences_23.toInt := jb_ge (rfl) (rfl) c_24
              obtain ⟨z_25, ez_25⟩ : ∃ y : Int32, y = v2_1 + 1 := ⟨_, rfl⟩
              refine lv_iinc (v := z_25) (lv' := [(2, .int z_25), (3, .ref ret_14), (0, .ref r0), (1, .null)]) hx hb dX11_nextToCheck_65 hl (k := 3) rfl (by rw [ez_25]; rfl) (by decide) rfl (fun ls hl => ?_)
              have hz_25 : z_25.toInt = v2_1.toInt + 1 := by rw [ez_25]; exact jb_iadd2 (rfl) (by decide) (by omega)
              refine lv_goto (tgt := 4) hx hb dX11_nextToCheck_68 (by decide) ?_
              exact L4 none z_25 _ _ (hh_22.sub (L1 := []) [] rfl (M1 := []) [] rfl (I1 := [(jFl, jLs dC dI ca G0 3 none)]) [0] rfl) (Or.inl rfl) (by first | omega | (refine ⟨?_, ?_⟩ <;> (first | omega | rfl | assumption | decide | exact Or.inl rfl | exact Or.inr rfl | (simp only; omega)))) (by omega) _ (lv_sub hl [2, 3, 0] rfl)
            · skip
              have c_24' : checked_20.toInt < sentences_23.toInt := jb_ge_n (rfl) (rfl) c_24
              refine lv_aload_n hx hb dX11_nextToCheck_49 rfl (lv_at hl 1 rfl) ?_
              refine lv_aload_n hx hb dX11_nextToCheck_50 rfl (lv_at hl 0 rfl) ?_
              refine va_calli (A0 := jA base) (H0 := s.heap) (va_runV (As := [.ref ret_14]) (rest := []) ⟨hx, hb, hml, hown, hts⟩ (uX11_isAskedAbout l dC dI ca base B hB hAp hB1 hB3 hB10 hB13 hB222 G0 H_12 r0 ret_14) (cwV 1 hts (jgV (jWr_76 _ (List.mem_of_getElem? (i := 23) rfl)) (jWr_77 _ (List.mem_of_getElem? (i := 0) rfl)) (jWr_77 _ (List.mem_of_getElem? (i := 1) rfl)) (jWr_1 _ (List.mem_of_getElem? (i := 2) rfl)) (jWr_77 _ (List.mem_of_getElem? (i := 2) rfl))) rfl rfl rfl (by decide +kernel) ⟨by rw [← hR]; exact Nat.le_of_ble_eq_true rfl, by rw [← hR]; exact Nat.le_of_ble_eq_true rfl⟩) ⟨fun a U g mk q => by obtain ⟨q0, q1, q2, qK, q10, q11, q12, q13, q14, q15⟩ := q; exact ⟨q0, q1, q2, jG.calling g mk a qK, (jK7.calling g mk a q10), q11, q12, q13, q14, q15⟩, hh_22.recv (C := RX11) (T := TX11) (N := 19) hB13 rfl (by decide) hg_r0 hK, fun U hU hW => ⟨rfl, hU, hh_22.2.1, hG.step hW hU hh_22.1, (hK7.step hW hU hh_22.1), hg_r0, hg_ret_14, jP.nil, (hh_22.2.2.2.2.2.2.2.2.sub (L1 := [(jFl, jLs dC dI ca G0 3 none)]) [0] rfl), trivial⟩⟩ rfl rfl hl.1 rfl (lv_room (Nat.le_of_ble_eq_true rfl)) dX11_nextToCheck_51 ⟨Nat.zero_le _, Nat.zero_le _⟩) hh_22.1 (fun q _ h => h) (fun q h => h) (fun r_27 u_26 t_26 H_26 locs_26 ht_26 hvm_26 hr_27 hb_26 hz_26 hk_26 hS_26 => ?_)
              rw [ht_26] at hb_26
              obtain ⟨hb_26, hbE_26⟩ := hb_26
              obtain ⟨hb_261, hb_262, hb_263, hb_264, hb_265⟩ := hb_26
              have hh_26 : jSt (dC, dI) B base G0 G0 EX11_nextToCheck s.heap 0 0 [(ret_14, 3, 4, .int sentences_23), (ret_14, 3, 10, .int checked_20), (ret_14, 3, 11, .null), (open_5, 1, 2, .int size_10), (r0, 13, 7, .ref open_5)] [] [(jFl, jLs dC dI ca G0 3 none)] H_26 locs_26 := (((hh_22.call hb_261 hb_262 hb_263 hb_264 hS_26 rfl (L1 := [(ret_14, 3, 4, .int sentences_23), (ret_14, 3, 10, .int checked_20), (ret_14, 3, 11, .null), (open_5, 1, 2, .int size_10), (r0, 13, 7, .ref open_5)]) [0, 1, 2, 3, 4] rfl rfl (M1 := []) [] rfl rfl (I1 := []) [] rfl rfl).more hb_265)).addIs hbE_26
              clear hh_22 ht_26 hvm_26 hz_26 hk_26 hS_26 hb_261 hb_262 hb_263 hb_264 hb_265
              clear  hbE_26
              obtain ⟨hr_27b, hr_27p⟩ := hr_27
              have hr_27' := jb_01 hr_27b
              refine lv_if_eq (tgt := 59) hx hb dX11_nextToCheck_54 (by decide) (fun c_28 => ?_) (fun c_28 => ?_)
              · skip
                have c_28' : r_27.toInt = 0 := jb_eq (rfl) ((by decide)) c_28
                refine j7_nld_n hx hb dX11_nextToCheck_59 rfl (lv_at hl 2 rfl) ?_
                refine lv_ifnonnullN hx hb dX11_nextToCheck_60 ?_
                refine lv_aload_n hx hb dX11_nextToCheck_63 rfl (lv_at hl 0 rfl) ?_
                refine lv_astore_n (lv' := [(1, .ref ret_14), (3, .ref ret_14), (0, .ref r0), (2, .int v2_1)]) hx hb dX11_nextToCheck_64 rfl hl (by decide) rfl (fun ls hl => ?_)
                obtain ⟨z_29, ez_29⟩ : ∃ y : Int32, y = v2_1 + 1 := ⟨_, rfl⟩
                refine lv_iinc (v := z_29) (lv' := [(2, .int z_29), (1, .ref ret_14), (3, .ref ret_14), (0, .ref r0)]) hx hb dX11_nextToCheck_65 hl (k := 3) rfl (by rw [ez_29]; rfl) (by decide) rfl (fun ls hl => ?_)
                have hz_29 : z_29.toInt = v2_1.toInt + 1 := by rw [ez_29]; exact jb_iadd2 (rfl) (by decide) (by omega)
                refine lv_goto (tgt := 4) hx hb dX11_nextToCheck_68 (by decide) ?_
                exact L4 (some ret_14) z_29 _ _ (hh_26.sub (L1 := []) [] rfl (M1 := []) [] rfl (I1 := [(jFl, jLs dC dI ca G0 3 none)]) [0] rfl) (Or.inr ⟨_, rfl, hg_ret_14⟩) (by first | omega | (refine ⟨?_, ?_⟩ <;> (first | omega | rfl | assumption | decide | exact Or.inl rfl | exact Or.inr rfl | (simp only; omega)))) (by omega) _ (lv_sub hl [3, 1, 0] rfl)
              · skip
                have c_28' : r_27.toInt ≠ 0 := jb_eq_n (rfl) ((by decide)) c_28
                refine lv_aload_n hx hb dX11_nextToCheck_57 rfl (lv_at hl 0 rfl) ?_
                rw [hQ]
                exact W.aret (v := .ref ret_14) hx hb hr (Or.inl ⟨_, rfl⟩) (Or.inr ⟨_, rfl⟩) (fun t ht hW => ⟨⟨.ref ret_14, (), rfl, Or.inr ⟨_, rfl, hg_ret_14⟩, ⟨hh_26.rt (M1 := []) [] rfl ht, by rw [ht]; exact hh_26.2.2.2.2.2.2.2.2.sub (L1 := [(jFl, jLs dC dI ca G0 3 none)]) [0] rfl⟩⟩, by rw [ht]; try exact hh_26.1.1, fun q h9 hq => by rw [ht]; try exact hh_26.1.2.1 q h9 hq⟩) hh_26.1.2.2 dX11_nextToCheck_58
          · refine j7_read hx hb hown hK (C := RX1) (T := TX1) (N := 17) rfl hly_3_11 hlk_567 (hh_16.at 0 rfl) dX11_nextToCheck_32 ?_
            refine lv_ifnonnull (tgt := 65) hx hb dX11_nextToCheck_35 (by decide) ?_
            obtain ⟨z_30, ez_30⟩ : ∃ y : Int32, y = v2_1 + 1 := ⟨_, rfl⟩
            refine lv_iinc (v := z_30) (lv' := [(2, .int z_30), (3, .ref ret_14), (0, .ref r0), (1, .null)]) hx hb dX11_nextToCheck_65 hl (k := 3) rfl (by rw [ez_30]; rfl) (by decide) rfl (fun ls hl => ?_)
            have hz_30 : z_30.toInt = v2_1.toInt + 1 := by rw [ez_30]; exact jb_iadd2 (rfl) (by decide) (by omega)
            refine lv_goto (tgt := 4) hx hb dX11_nextToCheck_68 (by decide) ?_
            exact L4 none z_30 _ _ (hh_16.sub (L1 := []) [] rfl (M1 := []) [] rfl (I1 := [(jFl, jLs dC dI ca G0 3 none)]) [0] rfl) (Or.inl rfl) (by first | omega | (refine ⟨?_, ?_⟩ <;> (first | omega | rfl | assumption | decide | exact Or.inl rfl | exact Or.inr rfl | (simp only; omega)))) (by omega) _ (lv_sub hl [2, 3, 0] rfl)
      · have hl : lv_has ls 4 [(0, .ref r0), (1, .ref nv_2), (2, .int v2_1)] := hl
        refine lv_iload_n hx hb dX11_nextToCheck_4 rfl (lv_at hl 2 rfl) ?_
        refine lv_aload_n hx hb dX11_nextToCheck_5 rfl (lv_at hl 0 rfl) ?_
        obtain ⟨v_31, hv_31, hh_32⟩ := hh_1.pin (C := RX11) (T := TX11) (N := 19) hB13 rfl (by decide) hg_r0 (i := 7) (by decide) rfl
        clear hh_1
        obtain ⟨open_33, rfl, hg_open_33⟩ := hv_31
        refine j7_read hx hb hown hK (C := RX11) (T := TX11) (N := 19) rfl hly_13_7 hlk_61 (hh_32.at 0 rfl) dX11_nextToCheck_6 ?_
        obtain ⟨v_36, hv_36, hh_37⟩ := hh_32.pin (C := RJx4a65c) (T := TJx4a65c) (N := 3) hB1 rfl (by decide) hg_open_33 (i := 2) (by decide) rfl
        obtain ⟨size_38, rfl, hlosize_38, hhisize_38⟩ := hv_36
        refine va_callFi (A0 := jA base) (H0 := s.heap) (va_runF (hK.1 1 _ rfl).2 (As := []) (rest := [.int v2_1]) ⟨hx, hb, hml, hown, hts⟩ (uJx4a65c_size_8abf5 l dC dI ca base B hB hAp hB1 G0 H_1 open_33 1 size_38) (va_cwF 0 hts (jgF (jWr_27 _ (List.mem_of_getElem? (i := 22) rfl)) (jWr_27 _ (List.mem_of_getElem? (i := 23) rfl)) (jWr_28 _ (List.mem_of_getElem? (i := 0) rfl)) (jWr_2 _ (List.mem_of_getElem? (i := 13) rfl)) (jWr_28 _ (List.mem_of_getElem? (i := 1) rfl))) rfl rfl rfl hK7.2.2.2.2.2.1.1 ⟨by decide, by decide, by decide +kernel⟩ ⟨by rw [← hR]; exact Nat.le_of_ble_eq_true rfl, by rw [← hR]; exact Nat.le_of_ble_eq_true rfl⟩) ⟨fun a U g mk q => by obtain ⟨q0, q1, q2, qK, q10, q11, q12⟩ := q; exact ⟨q0, q1, q2, jG.calling g mk a qK, q10, q11, q12⟩, hh_37.recv (C := RJx4a65c) (T := TJx4a65c) (N := 3) hB1 rfl (by decide) hg_open_33 hK, fun U hU hW => ⟨rfl, hU, hh_37.2.1, hG.step hW hU hh_37.1, hg_open_33, (hh_37.2.2.1.sub (L1 := [(open_33, 1, 2, .int size_38)]) [0] rfl), trivial⟩⟩ rfl rfl hl.1 rfl (lv_room (Nat.le_of_ble_eq_true rfl)) dX11_nextToCheck_9 ⟨Nat.zero_le _, Nat.zero_le _⟩) hh_37.1 (fun q _ h => h) (fun q h => h) (fun r_35 u_34 t_34 H_34 locs_34 ht_34 hvm_34 hr_35 hb_34 hz_34 hk_34 hS_34 => ?_)
        rw [ht_34] at hb_34
        obtain ⟨hb_341, hb_342, hb_343, hb_344, hb_345⟩ := hb_34
        have hh_34 : jSt (dC, dI) B base G0 G0 EX11_nextToCheck s.heap 0 0 [(open_33, 1, 2, .int size_38), (r0, 13, 7, .ref open_33)] [] [(jFl, jLs dC dI ca G0 3 none)] H_34 locs_34 := ((hh_37.call hb_341 hb_342 hb_343 hb_344 hS_34 rfl (L1 := [(open_33, 1, 2, .int size_38), (r0, 13, 7, .ref open_33)]) [0, 1] rfl rfl (M1 := []) [] rfl rfl (I1 := [(jFl, jLs dC dI ca G0 3 none)]) [0] rfl rfl).more hb_345)
        clear hh_37 ht_34 hvm_34 hz_34 hk_34 hS_34 hb_341 hb_342 hb_343 hb_344 hb_345
        refine lv_icmp_ge (tgt := 71) hx hb dX11_nextToCheck_14 (by decide) (fun c_39 => ?_) (fun c_39 => ?_)
        · skip
          have c_39' : v2_1.toInt ≥ r_35.toInt := jb_ge (rfl) (rfl) c_39
          refine lv_aload_n hx hb dX11_nextToCheck_71 rfl (lv_at hl 1 rfl) ?_
          rw [hQ]
          exact W.aret (v := .ref nv_2) hx hb hr (Or.inl ⟨_, rfl⟩) (Or.inr ⟨_, rfl⟩) (fun t ht hW => ⟨⟨.ref nv_2, (), rfl, Or.inr ⟨_, rfl, hg_nv_2⟩, ⟨hh_34.rt (M1 := []) [] rfl ht, by rw [ht]; exact hh_34.2.2.2.2.2.2.2.2.sub (L1 := [(jFl, jLs dC dI ca G0 3 none)]) [0] rfl⟩⟩, by rw [ht]; try exact hh_34.1.1, fun q h9 hq => by rw [ht]; try exact hh_34.1.2.1 q h9 hq⟩) hh_34.1.2.2 dX11_nextToCheck_72
        · skip
          have c_39' : v2_1.toInt < r_35.toInt := jb_ge_n (rfl) (rfl) c_39
          refine lv_aload_n hx hb dX11_nextToCheck_17 rfl (lv_at hl 0 rfl) ?_
          refine j7_read hx hb hown hK (C := RX11) (T := TX11) (N := 19) rfl hly_13_7 hlk_61 (hh_34.at 1 rfl) dX11_nextToCheck_18 ?_
          refine lv_iload_n hx hb dX11_nextToCheck_21 rfl (lv_at hl 2 rfl) ?_
          refine j_callFx (A0 := jA base) (H0 := s.heap) (va_runF (hK.1 1 _ rfl).2 (As := [.int v2_1]) (rest := []) ⟨hx, hb, hml, hown, hts⟩ (uJx4a65c_get_915e3L1 l dC dI ca base B hB hAp hB1 hB3 hB221 G0 H_34 open_33 v2_1 size_38) (va_cwF 1 hts (jgF (jWr_28 _ (List.mem_of_getElem? (i := 3) rfl)) (jWr_28 _ (List.mem_of_getElem? (i := 4) rfl)) (jWr_28 _ (List.mem_of_getElem? (i := 5) rfl)) (jWr_2 _ (List.mem_of_getElem? (i := 13) rfl)) (jWr_28 _ (List.mem_of_getElem? (i := 6) rfl))) rfl rfl rfl hK7.2.2.2.2.2.1.2.1 ⟨by decide, by decide, by decide +kernel⟩ ⟨by rw [← hR]; exact Nat.le_of_ble_eq_true rfl, by rw [← hR]; exact Nat.le_of_ble_eq_true rfl⟩) ⟨fun a U g mk q => by obtain ⟨q0, q1, q2, qK, q10, q11, q12, q13, q14⟩ := q; exact ⟨q0, q1, q2, jG.calling g mk a qK, (jK7.calling g mk a q10), q11, q12, q13, q14⟩, hh_34.recv (C := RJx4a65c) (T := TJx4a65c) (N := 3) hB1 rfl (by decide) hg_open_33 hK, fun U hU hW => ⟨rfl, hU, hh_34.2.1, hG.step hW hU hh_34.1, (hK7.step hW hU hh_34.1), hg_open_33, (hh_34.2.2.1.sub (L1 := [(open_33, 1, 2, .int size_38)]) [0] rfl), (hh_34.2.2.2.2.2.2.2.2.sub (L1 := [(jFl, jLs dC dI ca G0 3 none)]) [0] rfl), by first | omega | (refine ⟨?_, ?_⟩ <;> (first | omega | rfl | assumption | decide | exact Or.inl rfl | exact Or.inr rfl | (simp only; omega)))⟩⟩ rfl rfl hl.1 rfl (lv_room (Nat.le_of_ble_eq_true rfl)) dX11_nextToCheck_22 ⟨Nat.zero_le _, Nat.zero_le _⟩) hh_34.1 (fun q _ h => h) (fun q h => h) (fun r_41 u_40 t_40 H_40 locs_40 ht_40 hvm_40 hr_41 hb_40 hz_40 hk_40 hS_40 => ?_)
          rw [ht_40] at hb_40
          obtain ⟨hb_40, hbE_40⟩ := hb_40
          obtain ⟨hb_401, hb_402, hb_403, hb_404, hb_405⟩ := hb_40
          have hh_40 : jSt (dC, dI) B base G0 G0 EX11_nextToCheck s.heap 0 0 [(open_33, 1, 2, .int size_38), (r0, 13, 7, .ref open_33)] [] [(jFl, jLs dC dI ca G0 3 none)] H_40 locs_40 := (((hh_34.call hb_401 hb_402 hb_403 hb_404 hS_40 rfl (L1 := [(open_33, 1, 2, .int size_38), (r0, 13, 7, .ref open_33)]) [0, 1] rfl rfl (M1 := []) [] rfl rfl (I1 := []) [] rfl rfl).more hb_405)).addIs hbE_40
          clear hh_34 ht_40 hvm_40 hz_40 hk_40 hS_40 hb_401 hb_402 hb_403 hb_404 hb_405
          clear  hbE_40
          obtain ⟨ret_42, rfl, hg_ret_42⟩ := hr_41
          refine va_castY hx hb hown (htw (.classLink RX11 71 "ProofServer$Document") (jWr_27 _ (List.mem_of_getElem? (i := 20) rfl))) hK7.2.2.1.1.2 (hh_40.recv (C := RX1) (T := TX1) (N := 17) hB3 rfl (by decide) hg_ret_42 hK) dX11_nextToCheck_27 ?_
          refine lv_astore_n (lv' := [(3, .ref ret_42), (0, .ref r0), (1, .ref nv_2), (2, .int v2_1)]) hx hb dX11_nextToCheck_30 rfl hl (by decide) rfl (fun ls hl => ?_)
          refine lv_aload_n hx hb dX11_nextToCheck_31 rfl (lv_at hl 0 rfl) ?_
          obtain ⟨v_43, hv_43, hh_44⟩ := hh_40.pin (C := RX1) (T := TX1) (N := 17) hB3 rfl (by decide) hg_ret_42 (i := 11) (by decide) rfl
          clear hh_40
          rcases hv_43 with rfl | ⟨checking_45, nchecking_45, rfl, hg_checking_45, hn_checking_45⟩
          · refine j7_read hx hb hown hK (C := RX1) (T := TX1) (N := 17) rfl hly_3_11 hlk_567 (hh_44.at 0 rfl) dX11_nextToCheck_32 ?_
            refine lv_ifnonnullN hx hb dX11_nextToCheck_35 ?_
            refine lv_aload_n hx hb dX11_nextToCheck_38 rfl (lv_at hl 0 rfl) ?_
            obtain ⟨v_46, hv_46, hh_47⟩ := hh_44.pin (C := RX1) (T := TX1) (N := 17) hB3 rfl (by decide) hg_ret_42 (i := 10) (by decide) rfl
            clear hh_44
            obtain ⟨checked_48, rfl, hlochecked_48, hhichecked_48⟩ := hv_46
            refine j7_read hx hb hown hK (C := RX1) (T := TX1) (N := 17) rfl hly_3_10 hlk_171 (hh_47.at 0 rfl) dX11_nextToCheck_39 ?_
            refine lv_aload_n hx hb dX11_nextToCheck_42 rfl (lv_at hl 0 rfl) ?_
            obtain ⟨v_49, hv_49, hh_50⟩ := hh_47.pin (C := RX1) (T := TX1) (N := 17) hB3 rfl (by decide) hg_ret_42 (i := 4) (by decide) rfl
            clear hh_47
            obtain ⟨sentences_51, rfl, hlosentences_51, hhisentences_51⟩ := hv_49
            refine j7_read hx hb hown hK (C := RX1) (T := TX1) (N := 17) rfl hly_3_4 hlk_168 (hh_50.at 0 rfl) dX11_nextToCheck_43 ?_
            refine lv_icmp_ge (tgt := 65) hx hb dX11_nextToCheck_46 (by decide) (fun c_52 => ?_) (fun c_52 => ?_)
            · skip
              have c_52' : checked_48.toInt ≥ sentences_51.toInt := jb_ge (rfl) (rfl) c_52
              obtain ⟨z_53, ez_53⟩ : ∃ y : Int32, y = v2_1 + 1 := ⟨_, rfl⟩
              refine lv_iinc (v := z_53) (lv' := [(2, .int z_53), (3, .ref ret_42), (0, .ref r0), (1, .ref nv_2)]) hx hb dX11_nextToCheck_65 hl (k := 3) rfl (by rw [ez_53]; rfl) (by decide) rfl (fun ls hl => ?_)
              have hz_53 : z_53.toInt = v2_1.toInt + 1 := by rw [ez_53]; exact jb_iadd2 (rfl) (by decide) (by omega)
              refine lv_goto (tgt := 4) hx hb dX11_nextToCheck_68 (by decide) ?_
              exact L4 (some nv_2) z_53 _ _ (hh_50.sub (L1 := []) [] rfl (M1 := []) [] rfl (I1 := [(jFl, jLs dC dI ca G0 3 none)]) [0] rfl) (Or.inr ⟨_, rfl, hg_nv_2⟩) (by first | omega | (refine ⟨?_, ?_⟩ <;> (first | omega | rfl | assumption | decide | exact Or.inl rfl | exact Or.inr rfl | (simp only; omega)))) (by omega) _ (lv_sub hl [2, 3, 0] rfl)
            · skip
              have c_52' : checked_48.toInt < sentences_51.toInt := jb_ge_n (rfl) (rfl) c_52
              refine lv_aload_n hx hb dX11_nextToCheck_49 rfl (lv_at hl 1 rfl) ?_
              refine lv_aload_n hx hb dX11_nextToCheck_50 rfl (lv_at hl 0 rfl) ?_
              refine va_calli (A0 := jA base) (H0 := s.heap) (va_runV (As := [.ref ret_42]) (rest := []) ⟨hx, hb, hml, hown, hts⟩ (uX11_isAskedAbout l dC dI ca base B hB hAp hB1 hB3 hB10 hB13 hB222 G0 H_40 r0 ret_42) (cwV 1 hts (jgV (jWr_76 _ (List.mem_of_getElem? (i := 23) rfl)) (jWr_77 _ (List.mem_of_getElem? (i := 0) rfl)) (jWr_77 _ (List.mem_of_getElem? (i := 1) rfl)) (jWr_1 _ (List.mem_of_getElem? (i := 2) rfl)) (jWr_77 _ (List.mem_of_getElem? (i := 2) rfl))) rfl rfl rfl (by decide +kernel) ⟨by rw [← hR]; exact Nat.le_of_ble_eq_true rfl, by rw [← hR]; exact Nat.le_of_ble_eq_true rfl⟩) ⟨fun a U g mk q => by obtain ⟨q0, q1, q2, qK, q10, q11, q12, q13, q14, q15⟩ := q; exact ⟨q0, q1, q2, jG.calling g mk a qK, (jK7.calling g mk a q10), q11, q12, q13, q14, q15⟩, hh_50.recv (C := RX11) (T := TX11) (N := 19) hB13 rfl (by decide) hg_r0 hK, fun U hU hW => ⟨rfl, hU, hh_50.2.1, hG.step hW hU hh_50.1, (hK7.step hW hU hh_50.1), hg_r0, hg_ret_42, jP.nil, (hh_50.2.2.2.2.2.2.2.2.sub (L1 := [(jFl, jLs dC dI ca G0 3 none)]) [0] rfl), trivial⟩⟩ rfl rfl hl.1 rfl (lv_room (Nat.le_of_ble_eq_true rfl)) dX11_nextToCheck_51 ⟨Nat.zero_le _, Nat.zero_le _⟩) hh_50.1 (fun q _ h => h) (fun q h => h) (fun r_55 u_54 t_54 H_54 locs_54 ht_54 hvm_54 hr_55 hb_54 hz_54 hk_54 hS_54 => ?_)
              rw [ht_54] at hb_54
              obtain ⟨hb_54, hbE_54⟩ := hb_54
              obtain ⟨hb_541, hb_542, hb_543, hb_544, hb_545⟩ := hb_54
              have hh_54 : jSt (dC, dI) B base G0 G0 EX11_nextToCheck s.heap 0 0 [(ret_42, 3, 4, .int sentences_51), (ret_42, 3, 10, .int checked_48), (ret_42, 3, 11, .null), (open_33, 1, 2, .int size_38), (r0, 13, 7, .ref open_33)] [] [(jFl, jLs dC dI ca G0 3 none)] H_54 locs_54 := (((hh_50.call hb_541 hb_542 hb_543 hb_544 hS_54 rfl (L1 := [(ret_42, 3, 4, .int sentences_51), (ret_42, 3, 10, .int checked_48), (ret_42, 3, 11, .null), (open_33, 1, 2, .int size_38), (r0, 13, 7, .ref open_33)]) [0, 1, 2, 3, 4] rfl rfl (M1 := []) [] rfl rfl (I1 := []) [] rfl rfl).more hb_545)).addIs hbE_54
              clear hh_50 ht_54 hvm_54 hz_54 hk_54 hS_54 hb_541 hb_542 hb_543 hb_544 hb_545
              clear  hbE_54
              obtain ⟨hr_55b, hr_55p⟩ := hr_55
              have hr_55' := jb_01 hr_55b
              refine lv_if_eq (tgt := 59) hx hb dX11_nextToCheck_54 (by decide) (fun c_56 => ?_) (fun c_56 => ?_)
              · skip
                have c_56' : r_55.toInt = 0 := jb_eq (rfl) ((by decide)) c_56
                refine lv_aload_n hx hb dX11_nextToCheck_59 rfl (lv_at hl 2 rfl) ?_
                refine lv_ifnonnull (tgt := 65) hx hb dX11_nextToCheck_60 (by decide) ?_
                obtain ⟨z_57, ez_57⟩ : ∃ y : Int32, y = v2_1 + 1 := ⟨_, rfl⟩
                refine lv_iinc (v := z_57) (lv' := [(2, .int z_57), (3, .ref ret_42), (0, .ref r0), (1, .ref nv_2)]) hx hb dX11_nextToCheck_65 hl (k := 3) rfl (by rw [ez_57]; rfl) (by decide) rfl (fun ls hl => ?_)
                have hz_57 : z_57.toInt = v2_1.toInt + 1 := by rw [ez_57]; exact jb_iadd2 (rfl) (by decide) (by omega)
                refine lv_goto (tgt := 4) hx hb dX11_nextToCheck_68 (by decide) ?_
                exact L4 (some nv_2) z_57 _ _ (hh_54.sub (L1 := []) [] rfl (M1 := []) [] rfl (I1 := [(jFl, jLs dC dI ca G0 3 none)]) [0] rfl) (Or.inr ⟨_, rfl, hg_nv_2⟩) (by first | omega | (refine ⟨?_, ?_⟩ <;> (first | omega | rfl | assumption | decide | exact Or.inl rfl | exact Or.inr rfl | (simp only; omega)))) (by omega) _ (lv_sub hl [2, 3, 0] rfl)
              · skip
                have c_56' : r_55.toInt ≠ 0 := jb_eq_n (rfl) ((by decide)) c_56
                refine lv_aload_n hx hb dX11_nextToCheck_57 rfl (lv_at hl 0 rfl) ?_
                rw [hQ]
                exact W.aret (v := .ref ret_42) hx hb hr (Or.inl ⟨_, rfl⟩) (Or.inr ⟨_, rfl⟩) (fun t ht hW => ⟨⟨.ref ret_42, (), rfl, Or.inr ⟨_, rfl, hg_ret_42⟩, ⟨hh_54.rt (M1 := []) [] rfl ht, by rw [ht]; exact hh_54.2.2.2.2.2.2.2.2.sub (L1 := [(jFl, jLs dC dI ca G0 3 none)]) [0] rfl⟩⟩, by rw [ht]; try exact hh_54.1.1, fun q h9 hq => by rw [ht]; try exact hh_54.1.2.1 q h9 hq⟩) hh_54.1.2.2 dX11_nextToCheck_58
          · refine j7_read hx hb hown hK (C := RX1) (T := TX1) (N := 17) rfl hly_3_11 hlk_567 (hh_44.at 0 rfl) dX11_nextToCheck_32 ?_
            refine lv_ifnonnull (tgt := 65) hx hb dX11_nextToCheck_35 (by decide) ?_
            obtain ⟨z_58, ez_58⟩ : ∃ y : Int32, y = v2_1 + 1 := ⟨_, rfl⟩
            refine lv_iinc (v := z_58) (lv' := [(2, .int z_58), (3, .ref ret_42), (0, .ref r0), (1, .ref nv_2)]) hx hb dX11_nextToCheck_65 hl (k := 3) rfl (by rw [ez_58]; rfl) (by decide) rfl (fun ls hl => ?_)
            have hz_58 : z_58.toInt = v2_1.toInt + 1 := by rw [ez_58]; exact jb_iadd2 (rfl) (by decide) (by omega)
            refine lv_goto (tgt := 4) hx hb dX11_nextToCheck_68 (by decide) ?_
            exact L4 (some nv_2) z_58 _ _ (hh_44.sub (L1 := []) [] rfl (M1 := []) [] rfl (I1 := [(jFl, jLs dC dI ca G0 3 none)]) [0] rfl) (Or.inr ⟨_, rfl, hg_nv_2⟩) (by first | omega | (refine ⟨?_, ?_⟩ <;> (first | omega | rfl | assumption | decide | exact Or.inl rfl | exact Or.inr rfl | (simp only; omega)))) (by omega) _ (lv_sub hl [2, 3, 0] rfl)
  exact L4 (41 - (0 : Int32).toInt : Int).toNat.succ none 0 _ _ hh (Or.inl rfl) (by first | omega | (refine ⟨?_, ?_⟩ <;> (first | omega | rfl | assumption | decide | exact Or.inl rfl | exact Or.inr rfl | (simp only; omega)))) (by omega) _ (lv_sub hl [2, 1, 0] rfl)
set_option maxHeartbeats 4000000 in
set_option maxRecDepth 20000 in
theorem uX11_hasWork (l : Launch) (dC : Nat → ClassId) (dI : Nat → Nat → Nat) (ca : Nat → ClassId) (base : Nat) (B : jF) (hB : jBok B) (hAp : jAp (dC, dI)) (hB1 : ∀ n G a H, B 1 n G a H ↔ jOb (dC, dI) 1 3 (F1 n G) a H) (hB3 : ∀ n G a H, B 3 n G a H ↔ jOb (dC, dI) 3 17 (F3 n G) a H) (hB10 : ∀ n G a H, B 10 n G a H ↔ jOb (dC, dI) 10 5 (F10 n G) a H) (hB13 : ∀ n G a H, B 13 n G a H ↔ jOb (dC, dI) 13 19 (F13 n G) a H) (hB101 : ∀ n G a H, B 101 n G a H ↔ jAr (dC, dI) (ca 1) (fun j z => True) n a H) (hB212 : ∀ n G a H, B 212 n G a H ↔ jAq (dC, dI) (ca 5) (jQn 3 0) n G a H) (hB221 : ∀ n G a H, B 221 n G a H ↔ jAq (dC, dI) (ca 9) (jQn 3 0) n G a H) (hB222 : ∀ n G a H, B 222 n G a H ↔ jAq (dC, dI) (ca 9) (jQn 10 0) n G a H) (G0 : jT) (H0 : Heap) (r0 : Nat) : Met l yX11_hasWork (jw yX11_hasWork cX11_hasWork 2 (some .boolean)) ({ frames := 5, cells := 0, slots := 0, locals := 109 }) (va_Pc [.ref r0] (fun U => U.heap = H0 ∧ jX B base G0 [] H0 ∧ jG dC dI ca base U ∧ jK2 dC dI ca U ∧ jK7 dC dI ca base U ∧ G0 r0 = some (13, 0) ∧ jP (dC, dI) G0 H0 [] ∧ jIs (dC, dI) G0 H0 [(jFl, jLs dC dI ca G0 3 none)] ∧ True)) (va_Qi (S := Unit) (fun r u => (r = 0 ∨ r = 1) ∧ (True)) (fun u t => (jRt (dC, dI) B base G0 EX11_hasWork H0 [] t.heap) ∧ jIs (dC, dI) G0 t.heap [(jFl, jLs dC dI ca G0 3 none)]) (jA base)) 0 0 (jA base) := by
  refine Met.ofW (cc := cX11_hasWork) (maxL := 2) (ret := (some .boolean)) (by decide) rfl ?_
  intro p e s m args below meth c s₁ Bd hml hv
  obtain ⟨rfl, hH0, hX, hG, hK2, hK7, hg_r0, hP0, hI0, hp0⟩ := hv
  have hK := hG.1
  have hx := Bd.exec
  have hb := Bd.bytes
  have hr := Bd.returns
  have hts := atoms_spec (ws := (jw yX11_hasWork cX11_hasWork 2 (some .boolean))) Bd.pre
  have htw : ∀ w ∈ jWl, w.before _ s = true := fun w h => hts w (List.mem_cons_of_mem _ h)
  have hown : s.vm.findClass RX11 = some m.cls := findClass_of_methodNamed Bd.named
  have hlocks := Bd.notSynchronized
  obtain ⟨Q, hQ⟩ : ∃ Q, Q = MQ below (va_Qi (S := Unit) (fun r u => (r = 0 ∨ r = 1) ∧ (True)) (fun u t => (jRt (dC, dI) B base G0 EX11_hasWork H0 [] t.heap) ∧ jIs (dC, dI) G0 t.heap [(jFl, jLs dC dI ca G0 3 none)]) (jA base)) ([.ref r0] : List Value).toArray s 0 0 (jA base) := ⟨_, rfl⟩
  rw [← hQ]
  have hl := lv_entry ([.ref r0]) (n := 2) (Nat.le_of_ble_eq_true rfl)
  rw [lg_entry_eq]
  generalize (lg_sl ([.ref r0]) ++ List.replicate (2 - (lg_sl ([.ref r0])).length) Slot.unset).toArray = ls at hl ⊢
  have hl : lv_has ls 2 [(0, .ref r0)] := hl
  generalize hR : (headSpec (jw yX11_hasWork cX11_hasWork 2 (some .boolean)) ({ frames := 5, cells := 0, slots := 0, locals := 109 })).room = R
  subst hH0
  have hh : jSt (dC, dI) B base G0 G0 EX11_hasWork s.heap 0 0 [] [] [(jFl, jLs dC dI ca G0 3 none)] s.heap [] := jSt.start hX hP0 jMc.nil hI0
  clear hX hP0
  have hk0 : (0 : Int32).toInt = 0 := by decide
  have hk1 : (1 : Int32).toInt = 1 := by decide
  have hk2 : (2 : Int32).toInt = 2 := by decide
  have hly_13_10 := htw (u_lay RX11 TX11 10) (jWc_wsX110 _ (u_in_lay (by decide)))
  have hlk_73 := (htw (.fieldLink RX11 73 "ProofServer" "hands" "[LProofServer$Document;") (jWr_2 _ (List.mem_of_getElem? (i := 18) rfl)))
  refine lv_iconst (v := 0) hx hb dX11_hasWork_0 (by decide) ?_
  refine lv_istore_n (lv' := [(1, .int 0), (0, .ref r0)]) hx hb dX11_hasWork_1 rfl hl (by decide) rfl (fun ls hl => ?_)
  have L2 : ∀ (N : Nat) (v1_1 : Int32) (H_1 : Heap) (locs_1 : List Loc), jSt (dC, dI) B base G0 G0 EX11_hasWork s.heap 0 0 [] [] [(jFl, jLs dC dI ca G0 3 none)] H_1 locs_1 → (0 ≤ v1_1.toInt ∧ v1_1.toInt ≤ 2) → (2 - v1_1.toInt : Int) < N → ∀ ls : Array Slot, lv_has ls 2 [(0, .ref r0), (1, .int v1_1)] → W p l e R s m ([.ref r0] : List Value).toArray below meth c H_1 locs_1 0 0 Q (F0 m 2 ls []) := by
    intro N
    induction N with
    | zero => intro v1_1 H_1 locs_1 hh_1  hi_1 hm; exact absurd hm (by omega)
    | succ N L2 =>
      intro v1_1 H_1 locs_1 hh_1  hi_1 hm_1 ls hl
      obtain ⟨hi_1_0, hi_1_1⟩ := hi_1
      refine lv_iload_n hx hb dX11_hasWork_2 rfl (lv_at hl 1 rfl) ?_
      refine lv_iconst (v := 2) hx hb dX11_hasWork_3 (by decide) ?_
      refine lv_icmp_ge (tgt := 24) hx hb dX11_hasWork_4 (by decide) (fun c_2 => ?_) (fun c_2 => ?_)
      · skip
        have c_2' : v1_1.toInt ≥ 2 := jb_ge (rfl) ((by decide)) c_2
        refine lv_aload_n hx hb dX11_hasWork_24 rfl (lv_at hl 0 rfl) ?_
        refine j_callx (A0 := jA base) (H0 := s.heap) (va_runV (As := []) (rest := []) ⟨hx, hb, hml, hown, hts⟩ (uX11_nextToCheck l dC dI ca base B hB hAp hB1 hB3 hB10 hB13 hB101 hB221 hB222 G0 H_1 r0) (cwV 0 hts (jgV (jWr_76 _ (List.mem_of_getElem? (i := 19) rfl)) (jWr_76 _ (List.mem_of_getElem? (i := 20) rfl)) (jWr_76 _ (List.mem_of_getElem? (i := 21) rfl)) (jWr_1 _ (List.mem_of_getElem? (i := 2) rfl)) (jWr_76 _ (List.mem_of_getElem? (i := 22) rfl))) rfl rfl rfl (by decide +kernel) ⟨by rw [← hR]; exact Nat.le_of_ble_eq_true rfl, by rw [← hR]; exact Nat.le_of_ble_eq_true rfl⟩) ⟨fun a U g mk q => by obtain ⟨q0, q1, q2, qK, q10, q11, q12, q13, q14⟩ := q; exact ⟨q0, q1, q2, jG.calling g mk a qK, (jK7.calling g mk a q10), q11, q12, q13, q14⟩, hh_1.recv (C := RX11) (T := TX11) (N := 19) hB13 rfl (by decide) hg_r0 hK, fun U hU hW => ⟨rfl, hU, hh_1.2.1, hG.step hW hU hh_1.1, (hK7.step hW hU hh_1.1), hg_r0, jP.nil, (hh_1.2.2.2.2.2.2.2.2.sub (L1 := [(jFl, jLs dC dI ca G0 3 none)]) [0] rfl), trivial⟩⟩ rfl rfl hl.1 rfl (lv_room (Nat.le_of_ble_eq_true rfl)) dX11_hasWork_25 ⟨Nat.zero_le _, Nat.zero_le _⟩) hh_1.1 (fun q _ h => h) (fun q h => h) (fun r_4 u_3 t_3 H_3 locs_3 ht_3 hvm_3 hr_4 hb_3 hz_3 hk_3 hS_3 => ?_)
        rw [ht_3] at hb_3
        obtain ⟨hb_3, hbE_3⟩ := hb_3
        obtain ⟨hb_31, hb_32, hb_33, hb_34, hb_35⟩ := hb_3
        have hh_3 : jSt (dC, dI) B base G0 G0 EX11_hasWork s.heap 0 0 [] [] [(jFl, jLs dC dI ca G0 3 none)] H_3 locs_3 := (((hh_1.call hb_31 hb_32 hb_33 hb_34 hS_3 rfl (L1 := []) [] rfl rfl (M1 := []) [] rfl rfl (I1 := []) [] rfl rfl).more hb_35)).addIs hbE_3
        clear hh_1 ht_3 hvm_3 hz_3 hk_3 hS_3 hb_31 hb_32 hb_33 hb_34 hb_35
        clear  hbE_3
        rcases hr_4 with rfl | ⟨ret_5, rfl, hg_ret_5⟩
        · skip
          refine lv_ifnullN (tgt := 35) hx hb dX11_hasWork_28 (by decide) ?_
          refine lv_iconst (v := 0) hx hb dX11_hasWork_35 (by decide) ?_
          rw [hQ]
          exact W.zret (v := 0) hx hb hr (jb_nz (Or.inl rfl)) (fun t ht hW => ⟨⟨0, (), rfl, ⟨(Or.inl rfl), trivial⟩, ⟨hh_3.rt (M1 := []) [] rfl ht, by rw [ht]; exact hh_3.2.2.2.2.2.2.2.2.sub (L1 := [(jFl, jLs dC dI ca G0 3 none)]) [0] rfl⟩⟩, by rw [ht]; try exact hh_3.1.1, fun q h9 hq => by rw [ht]; try exact hh_3.1.2.1 q h9 hq⟩) hh_3.1.2.2 dX11_hasWork_36
        · skip
          refine lv_ifnull hx hb dX11_hasWork_28 ?_
          refine lv_iconst (v := 1) hx hb dX11_hasWork_31 (by decide) ?_
          refine lv_goto (tgt := 36) hx hb dX11_hasWork_32 (by decide) ?_
          rw [hQ]
          exact W.zret (v := 1) hx hb hr (jb_nz (Or.inr rfl)) (fun t ht hW => ⟨⟨1, (), rfl, ⟨(Or.inr rfl), trivial⟩, ⟨hh_3.rt (M1 := []) [] rfl ht, by rw [ht]; exact hh_3.2.2.2.2.2.2.2.2.sub (L1 := [(jFl, jLs dC dI ca G0 3 none)]) [0] rfl⟩⟩, by rw [ht]; try exact hh_3.1.1, fun q h9 hq => by rw [ht]; try exact hh_3.1.2.1 q h9 hq⟩) hh_3.1.2.2 dX11_hasWork_36
      · skip
        have c_2' : v1_1.toInt < 2 := jb_ge_n (rfl) ((by decide)) c_2
        refine lv_aload_n hx hb dX11_hasWork_7 rfl (lv_at hl 0 rfl) ?_
        obtain ⟨v_6, hv_6, hh_7⟩ := hh_1.pin (C := RX11) (T := TX11) (N := 19) hB13 rfl (by decide) hg_r0 (i := 10) (by decide) rfl
        clear hh_1
        obtain ⟨hands_8, rfl, hg_hands_8⟩ := hv_6
        refine j7_read hx hb hown hK (C := RX11) (T := TX11) (N := 19) rfl hly_13_10 hlk_73 (hh_7.at 0 rfl) dX11_hasWork_8 ?_
        refine lv_iload_n hx hb dX11_hasWork_11 rfl (lv_at hl 1 rfl) ?_
        refine j7_qald hx hb hK2 hh_7 hB212 1 rfl (by decide) hg_hands_8 (x := v1_1.toInt) (rfl) (by omega) dX11_hasWork_12 (fun o_9 ho_9 => ?_)
        rcases ho_9 with rfl | ⟨el_10, rfl, hg_el_10⟩
        · simp only [va_rf]
          refine lv_ifnullN (tgt := 18) hx hb dX11_hasWork_13 (by decide) ?_
          obtain ⟨z_11, ez_11⟩ : ∃ y : Int32, y = v1_1 + 1 := ⟨_, rfl⟩
          refine lv_iinc (v := z_11) (lv' := [(1, .int z_11), (0, .ref r0)]) hx hb dX11_hasWork_18 hl (k := 1) rfl (by rw [ez_11]; rfl) (by decide) rfl (fun ls hl => ?_)
          have hz_11 : z_11.toInt = v1_1.toInt + 1 := by rw [ez_11]; exact jb_iadd2 (rfl) (by decide) (by omega)
          refine lv_goto (tgt := 2) hx hb dX11_hasWork_21 (by decide) ?_
          exact L2 z_11 _ _ (hh_7.sub (L1 := []) [] rfl (M1 := []) [] rfl (I1 := [(jFl, jLs dC dI ca G0 3 none)]) [0] rfl) (by first | omega | (refine ⟨?_, ?_⟩ <;> (first | omega | rfl | assumption | decide | exact Or.inl rfl | exact Or.inr rfl | (simp only; omega)))) (by omega) _ (lv_sub hl [1, 0] rfl)
        · simp only [va_rf]
          refine lv_ifnull hx hb dX11_hasWork_13 ?_
          refine lv_iconst (v := 1) hx hb dX11_hasWork_16 (by decide) ?_
          rw [hQ]
          exact W.zret (v := 1) hx hb hr (jb_nz (Or.inr rfl)) (fun t ht hW => ⟨⟨1, (), rfl, ⟨(Or.inr rfl), trivial⟩, ⟨hh_7.rt (M1 := []) [] rfl ht, by rw [ht]; exact hh_7.2.2.2.2.2.2.2.2.sub (L1 := [(jFl, jLs dC dI ca G0 3 none)]) [0] rfl⟩⟩, by rw [ht]; try exact hh_7.1.1, fun q h9 hq => by rw [ht]; try exact hh_7.1.2.1 q h9 hq⟩) hh_7.1.2.2 dX11_hasWork_17
  exact L2 (2 - (0 : Int32).toInt : Int).toNat.succ 0 _ _ hh (by first | omega | (refine ⟨?_, ?_⟩ <;> (first | omega | rfl | assumption | decide | exact Or.inl rfl | exact Or.inr rfl | (simp only; omega)))) (by omega) _ (lv_sub hl [1, 0] rfl)
end
section
theorem dX11_remember_0 : decode cX11_remember 0 = .ok (.iconst 0, 1) := by decide +kernel
theorem dX11_remember_1 : decode cX11_remember 1 = .ok (.istore_n 2, 1) := by decide +kernel
theorem dX11_remember_2 : decode cX11_remember 2 = .ok (.iload_n 2, 1) := by decide +kernel
theorem dX11_remember_3 : decode cX11_remember 3 = .ok (.aload_n 0, 1) := by decide +kernel
theorem dX11_remember_4 : decode cX11_remember 4 = .ok (.getfield 68, 3) := by decide +kernel
theorem dX11_remember_7 : decode cX11_remember 7 = .ok (.invokeinterface 142 1, 5) := by decide +kernel
theorem dX11_remember_12 : decode cX11_remember 12 = .ok (.if_icmp .ge 29, 3) := by decide +kernel
theorem dX11_remember_15 : decode cX11_remember 15 = .ok (.aload_n 0, 1) := by decide +kernel
theorem dX11_remember_16 : decode cX11_remember 16 = .ok (.getfield 68, 3) := by decide +kernel
theorem dX11_remember_19 : decode cX11_remember 19 = .ok (.iload_n 2, 1) := by decide +kernel
theorem dX11_remember_20 : decode cX11_remember 20 = .ok (.invokeinterface 249 2, 5) := by decide +kernel
theorem dX11_remember_25 : decode cX11_remember 25 = .ok (.checkcast 189, 3) := by decide +kernel
theorem dX11_remember_28 : decode cX11_remember 28 = .ok (.aload_n 1, 1) := by decide +kernel
theorem dX11_remember_29 : decode cX11_remember 29 = .ok (.invokestatic 605, 3) := by decide +kernel
theorem dX11_remember_32 : decode cX11_remember 32 = .ok (.ifCond .ne 9, 3) := by decide +kernel
theorem dX11_remember_35 : decode cX11_remember 35 = .ok (.iinc 2 1, 3) := by decide +kernel
theorem dX11_remember_38 : decode cX11_remember 38 = .ok (.goto (-36), 3) := by decide +kernel
theorem dX11_remember_41 : decode cX11_remember 41 = .ok (.iload_n 2, 1) := by decide +kernel
theorem dX11_remember_42 : decode cX11_remember 42 = .ok (.aload_n 0, 1) := by decide +kernel
theorem dX11_remember_43 : decode cX11_remember 43 = .ok (.getfield 68, 3) := by decide +kernel
theorem dX11_remember_46 : decode cX11_remember 46 = .ok (.invokeinterface 142 1, 5) := by decide +kernel
theorem dX11_remember_51 : decode cX11_remember 51 = .ok (.if_icmp .ge 17, 3) := by decide +kernel
theorem dX11_remember_54 : decode cX11_remember 54 = .ok (.aload_n 0, 1) := by decide +kernel
theorem dX11_remember_55 : decode cX11_remember 55 = .ok (.getfield 68, 3) := by decide +kernel
theorem dX11_remember_58 : decode cX11_remember 58 = .ok (.iload_n 2, 1) := by decide +kernel
theorem dX11_remember_59 : decode cX11_remember 59 = .ok (.invokeinterface 423 2, 5) := by decide +kernel
theorem dX11_remember_64 : decode cX11_remember 64 = .ok (.pop, 1) := by decide +kernel
theorem dX11_remember_65 : decode cX11_remember 65 = .ok (.goto 28, 3) := by decide +kernel
theorem dX11_remember_68 : decode cX11_remember 68 = .ok (.aload_n 0, 1) := by decide +kernel
theorem dX11_remember_69 : decode cX11_remember 69 = .ok (.getfield 68, 3) := by decide +kernel
theorem dX11_remember_72 : decode cX11_remember 72 = .ok (.invokeinterface 142 1, 5) := by decide +kernel
theorem dX11_remember_77 : decode cX11_remember 77 = .ok (.bipush 24, 2) := by decide +kernel
theorem dX11_remember_79 : decode cX11_remember 79 = .ok (.if_icmp .lt 14, 3) := by decide +kernel
theorem dX11_remember_82 : decode cX11_remember 82 = .ok (.aload_n 0, 1) := by decide +kernel
theorem dX11_remember_83 : decode cX11_remember 83 = .ok (.getfield 68, 3) := by decide +kernel
theorem dX11_remember_86 : decode cX11_remember 86 = .ok (.iconst 0, 1) := by decide +kernel
theorem dX11_remember_87 : decode cX11_remember 87 = .ok (.invokeinterface 423 2, 5) := by decide +kernel
theorem dX11_remember_92 : decode cX11_remember 92 = .ok (.pop, 1) := by decide +kernel
theorem dX11_remember_93 : decode cX11_remember 93 = .ok (.aload_n 0, 1) := by decide +kernel
theorem dX11_remember_94 : decode cX11_remember 94 = .ok (.getfield 68, 3) := by decide +kernel
theorem dX11_remember_97 : decode cX11_remember 97 = .ok (.aload_n 1, 1) := by decide +kernel
theorem dX11_remember_98 : decode cX11_remember 98 = .ok (.invokeinterface 374 2, 5) := by decide +kernel
theorem dX11_remember_103 : decode cX11_remember 103 = .ok (.pop, 1) := by decide +kernel
theorem dX11_remember_104 : decode cX11_remember 104 = .ok (.return_, 1) := by decide +kernel
def EX11_remember : List (Nat × Nat) := [(1, 0), (1, 1), (1, 2), (223, 0)]
set_option maxHeartbeats 4000000 in
set_option maxRecDepth 20000 in
theorem uX11_remember (l : Launch) (dC : Nat → ClassId) (dI : Nat → Nat → Nat) (ca : Nat → ClassId) (base : Nat) (B : jF) (hB : jBok B) (hAp : jAp (dC, dI)) (hB1 : ∀ n G a H, B 1 n G a H ↔ jOb (dC, dI) 1 3 (F1 n G) a H) (hB11 : ∀ n G a H, B 11 n G a H ↔ jOb (dC, dI) 11 9 (F11 n G) a H) (hB13 : ∀ n G a H, B 13 n G a H ↔ jOb (dC, dI) 13 19 (F13 n G) a H) (hB101 : ∀ n G a H, B 101 n G a H ↔ jAr (dC, dI) (ca 1) (fun j z => True) n a H) (hB223 : ∀ n G a H, B 223 n G a H ↔ jAq (dC, dI) (ca 9) (jQn 11 0) n G a H) (G0 : jT) (H0 : Heap) (r0 : Nat) (r1 : Nat) (LC LS : Nat) : Met l yX11_remember (jw yX11_remember cX11_remember 3 none) ({ frames := 7, cells := LC - H0.size, slots := LS - jTot H0, locals := 192 }) (va_Pc [.ref r0, .ref r1] (fun U => U.heap = H0 ∧ jX B base G0 [] H0 ∧ jG dC dI ca base U ∧ jK7 dC dI ca base U ∧ G0 r0 = some (13, 0) ∧ G0 r1 = some (11, 0) ∧ jP (dC, dI) G0 H0 [] ∧ jIs (dC, dI) G0 H0 [(jFl, jLs dC dI ca G0 3 none)] ∧ H0.size + 1 ≤ LC ∧ jTot H0 + 40 ≤ LS ∧ True)) (va_Qv (S := jT) (fun u => True) (fun u t => jRa (dC, dI) B base G0 u EX11_remember H0 (1) (40) [] t.heap ∧ (jNk [0, 1, 2, 3, 4, 5, 6, 7, 8, 9, 10, 11, 12, 13, 14, 15, 16]) G0 u ∧ jIs (dC, dI) u t.heap [(jFl, jLs dC dI ca u 3 none)]) (jA base)) (LC - H0.size) (LS - jTot H0) (jA base) := by
  refine Met.ofW (cc := cX11_remember) (maxL := 3) (ret := none) (by decide) rfl ?_
  intro p e s m args below meth c s₁ Bd hml hv
  obtain ⟨rfl, hH0, hX, hG, hK7, hg_r0, hg_r1, hP0, hI0, hLC0, hLS0, hp0⟩ := hv
  have hK := hG.1
  have hx := Bd.exec
  have hb := Bd.bytes
  have hr := Bd.returns
  have hts := atoms_spec (ws := (jw yX11_remember cX11_remember 3 none)) Bd.pre
  have htw : ∀ w ∈ jWl, w.before _ s = true := fun w h => hts w (List.mem_cons_of_mem _ h)
  have hown : s.vm.findClass RX11 = some m.cls := findClass_of_methodNamed Bd.named
  have hlocks := Bd.notSynchronized
  obtain ⟨Q, hQ⟩ : ∃ Q, Q = MQ below (va_Qv (S := jT) (fun u => True) (fun u t => jRa (dC, dI) B base G0 u EX11_remember H0 (1) (40) [] t.heap ∧ (jNk [0, 1, 2, 3, 4, 5, 6, 7, 8, 9, 10, 11, 12, 13, 14, 15, 16]) G0 u ∧ jIs (dC, dI) u t.heap [(jFl, jLs dC dI ca u 3 none)]) (jA base)) ([.ref r0, .ref r1] : List Value).toArray s (LC - H0.size) (LS - jTot H0) (jA base) := ⟨_, rfl⟩
  rw [← hQ]
  have hl := lv_entry ([.ref r0, .ref r1]) (n := 3) (Nat.le_of_ble_eq_true rfl)
  rw [lg_entry_eq]
  generalize (lg_sl ([.ref r0, .ref r1]) ++ List.replicate (3 - (lg_sl ([.ref r0, .ref r1])).length) Slot.unset).toArray = ls at hl ⊢
  have hl : lv_has ls 3 [(0, .ref r0), (1, .ref r1)] := hl
  generalize hR : (headSpec (jw yX11_remember cX11_remember 3 none) ({ frames := 7, cells := LC - H0.size, slots := LS - jTot H0, locals := 192 })).room = R
  subst hH0
  have hh : jSt (dC, dI) B base G0 G0 EX11_remember s.heap 0 0 [] [] [(jFl, jLs dC dI ca G0 3 none)] s.heap [] := jSt.start hX hP0 jMc.nil hI0
  clear hX hP0
  have hk0 : (0 : Int32).toInt = 0 := by decide
  have hk1 : (1 : Int32).toInt = 1 := by decide
  have hk24 : (24 : Int32).toInt = 24 := by decide
  have hly_13_9 := htw (u_lay RX11 TX11 9) (jWc_wsX110 _ (u_in_lay (by decide)))
  have hlk_68 := (htw (.fieldLink RX11 68 "ProofServer" "cache" "Ljava/util/List;") (jWr_2 _ (List.mem_of_getElem? (i := 16) rfl)))
  have hbs : base ≤ s.heap.size := Nat.le_of_lt (Nat.lt_of_le_of_lt (hh.ab hg_r0).1 (hh.ab hg_r0).2)
  have hRc : R.cells = LC - s.heap.size := by rw [← hR]; rfl
  have hRs : R.slots = LS - jTot s.heap := by rw [← hR]; rfl
  obtain ⟨v_1, hv_1, hh_2⟩ := hh.pin (C := RX11) (T := TX11) (N := 19) hB13 rfl (by decide) hg_r0 (i := 9) (by decide) rfl
  obtain ⟨cache_3, rfl, hg_cache_3⟩ := hv_1
  obtain ⟨lz_4, lx_4, hl1_4, -, hl3_4, -⟩ := jLs.at (hh_2.iv 0 rfl) hg_cache_3
  have hh_5 := hh_2.more (P1 := [(cache_3, 1, 2, .int lz_4)]) (jP.cons hg_cache_3 hl1_4 jP.nil)
  clear hh_2
  have hl3_4 : 0 ≤ lz_4.toInt ∧ lz_4.toInt ≤ 24 := hl3_4
  refine lv_iconst (v := 0) hx hb dX11_remember_0 (by decide) ?_
  refine lv_istore_n (lv' := [(2, .int 0), (0, .ref r0), (1, .ref r1)]) hx hb dX11_remember_1 rfl hl (by decide) rfl (fun ls hl => ?_)
  have L2 : ∀ (N : Nat) (v2_6 : Int32) (H_6 : Heap) (locs_6 : List Loc), jSt (dC, dI) B base G0 G0 EX11_remember s.heap 0 0 [(cache_3, 1, 2, .int lz_4), (r0, 13, 9, .ref cache_3)] [] [(jFl, jLs dC dI ca G0 3 none)] H_6 locs_6 → (0 ≤ v2_6.toInt ∧ v2_6.toInt ≤ 40) → (41 - v2_6.toInt : Int) < N → ∀ ls : Array Slot, lv_has ls 3 [(0, .ref r0), (1, .ref r1), (2, .int v2_6)] → W p l e R s m ([.ref r0, .ref r1] : List Value).toArray below meth c H_6 locs_6 0 0 Q (F0 m 2 ls []) := by
    intro N
    induction N with
    | zero => intro v2_6 H_6 locs_6 hh_6  hi_6 hm; exact absurd hm (by omega)
    | succ N L2 =>
      intro v2_6 H_6 locs_6 hh_6  hi_6 hm_6 ls hl
      obtain ⟨hi_6_0, hi_6_1⟩ := hi_6
      refine lv_iload_n hx hb dX11_remember_2 rfl (lv_at hl 2 rfl) ?_
      refine lv_aload_n hx hb dX11_remember_3 rfl (lv_at hl 0 rfl) ?_
      refine j7_read hx hb hown hK (C := RX11) (T := TX11) (N := 19) rfl hly_13_9 hlk_68 (hh_6.at 1 rfl) dX11_remember_4 ?_
      have hsz_7 := hh_6.2.2.2.2.2.1
      have htt_7 := hh_6.2.2.2.2.2.2.1
      refine W.room (fun hrc_7 hrs_7 => ?_)
      refine va_callFi (A0 := jA base) (H0 := s.heap) (va_runF (hK.1 1 _ rfl).2 (As := []) (rest := [.int v2_6]) ⟨hx, hb, hml, hown, hts⟩ (uJx4a65c_size_8abf5 l dC dI ca base B hB hAp hB1 G0 H_6 cache_3 3 lz_4) (va_cwF 0 hts (jgF (jWr_27 _ (List.mem_of_getElem? (i := 22) rfl)) (jWr_27 _ (List.mem_of_getElem? (i := 23) rfl)) (jWr_28 _ (List.mem_of_getElem? (i := 0) rfl)) (jWr_2 _ (List.mem_of_getElem? (i := 13) rfl)) (jWr_28 _ (List.mem_of_getElem? (i := 1) rfl))) rfl rfl rfl hK7.2.2.2.2.2.1.1 ⟨by decide, by decide, by decide +kernel⟩ ⟨by rw [← hR]; exact Nat.le_of_ble_eq_true rfl, by rw [← hR]; exact Nat.le_of_ble_eq_true rfl⟩) ⟨fun a U g mk q => by obtain ⟨q0, q1, q2, qK, q10, q11, q12⟩ := q; exact ⟨q0, q1, q2, jG.calling g mk a qK, q10, q11, q12⟩, hh_6.recv (C := RJx4a65c) (T := TJx4a65c) (N := 3) hB1 rfl (by decide) hg_cache_3 hK, fun U hU hW => ⟨rfl, hU, hh_6.2.1, hG.step hW hU hh_6.1, hg_cache_3, (hh_6.2.2.1.sub (L1 := [(cache_3, 1, 2, .int lz_4)]) [0] rfl), trivial⟩⟩ rfl rfl hl.1 rfl (lv_room (Nat.le_of_ble_eq_true rfl)) dX11_remember_7 ⟨by rw [hRc]; show _ + 0 ≤ _; omega, by rw [hRs]; show _ + 0 ≤ _; omega⟩) hh_6.1 (fun q _ h => h) (fun q h => h) (fun r_8 u_7 t_7 H_7 locs_7 ht_7 hvm_7 hr_8 hb_7 hz_7 hk_7 hS_7 => ?_)
      rw [ht_7] at hb_7
      obtain ⟨hb_71, hb_72, hb_73, hb_74, hb_75⟩ := hb_7
      have hh_7 : jSt (dC, dI) B base G0 G0 EX11_remember s.heap 0 0 [(cache_3, 1, 2, .int lz_4), (r0, 13, 9, .ref cache_3)] [] [(jFl, jLs dC dI ca G0 3 none)] H_7 locs_7 := ((hh_6.call hb_71 hb_72 hb_73 hb_74 hS_7 rfl (L1 := [(cache_3, 1, 2, .int lz_4), (r0, 13, 9, .ref cache_3)]) [0, 1] rfl rfl (M1 := []) [] rfl rfl (I1 := [(jFl, jLs dC dI ca G0 3 none)]) [0] rfl rfl).more hb_75)
      clear hh_6 ht_7 hvm_7 hz_7 hk_7 hS_7 hb_71 hb_72 hb_73 hb_74 hb_75
      refine lv_icmp_ge (tgt := 41) hx hb dX11_remember_12 (by decide) (fun c_9 => ?_) (fun c_9 => ?_)
      · skip
        have c_9' : v2_6.toInt ≥ r_8.toInt := jb_ge (rfl) (rfl) c_9
        refine lv_iload_n hx hb dX11_remember_41 rfl (lv_at hl 2 rfl) ?_
        refine lv_aload_n hx hb dX11_remember_42 rfl (lv_at hl 0 rfl) ?_
        refine j7_read hx hb hown hK (C := RX11) (T := TX11) (N := 19) rfl hly_13_9 hlk_68 (hh_7.at 1 rfl) dX11_remember_43 ?_
        have hsz_10 := hh_7.2.2.2.2.2.1
        have htt_10 := hh_7.2.2.2.2.2.2.1
        refine W.room (fun hrc_10 hrs_10 => ?_)
        refine va_callFi (A0 := jA base) (H0 := s.heap) (va_runF (hK.1 1 _ rfl).2 (As := []) (rest := [.int v2_6]) ⟨hx, hb, hml, hown, hts⟩ (uJx4a65c_size_8abf5 l dC dI ca base B hB hAp hB1 G0 H_7 cache_3 3 lz_4) (va_cwF 0 hts (jgF (jWr_27 _ (List.mem_of_getElem? (i := 22) rfl)) (jWr_27 _ (List.mem_of_getElem? (i := 23) rfl)) (jWr_28 _ (List.mem_of_getElem? (i := 0) rfl)) (jWr_2 _ (List.mem_of_getElem? (i := 13) rfl)) (jWr_28 _ (List.mem_of_getElem? (i := 1) rfl))) rfl rfl rfl hK7.2.2.2.2.2.1.1 ⟨by decide, by decide, by decide +kernel⟩ ⟨by rw [← hR]; exact Nat.le_of_ble_eq_true rfl, by rw [← hR]; exact Nat.le_of_ble_eq_true rfl⟩) ⟨fun a U g mk q => by obtain ⟨q0, q1, q2, qK, q10, q11, q12⟩ := q; exact ⟨q0, q1, q2, jG.calling g mk a qK, q10, q11, q12⟩, hh_7.recv (C := RJx4a65c) (T := TJx4a65c) (N := 3) hB1 rfl (by decide) hg_cache_3 hK, fun U hU hW => ⟨rfl, hU, hh_7.2.1, hG.step hW hU hh_7.1, hg_cache_3, (hh_7.2.2.1.sub (L1 := [(cache_3, 1, 2, .int lz_4)]) [0] rfl), trivial⟩⟩ rfl rfl hl.1 rfl (lv_room (Nat.le_of_ble_eq_true rfl)) dX11_remember_46 ⟨by rw [hRc]; show _ + 0 ≤ _; omega, by rw [hRs]; show _ + 0 ≤ _; omega⟩) hh_7.1 (fun q _ h => h) (fun q h => h) (fun r_11 u_10 t_10 H_10 locs_10 ht_10 hvm_10 hr_11 hb_10 hz_10 hk_10 hS_10 => ?_)
        rw [ht_10] at hb_10
        obtain ⟨hb_101, hb_102, hb_103, hb_104, hb_105⟩ := hb_10
        have hh_10 : jSt (dC, dI) B base G0 G0 EX11_remember s.heap 0 0 [(cache_3, 1, 2, .int lz_4), (r0, 13, 9, .ref cache_3)] [] [(jFl, jLs dC dI ca G0 3 none)] H_10 locs_10 := ((hh_7.call hb_101 hb_102 hb_103 hb_104 hS_10 rfl (L1 := [(cache_3, 1, 2, .int lz_4), (r0, 13, 9, .ref cache_3)]) [0, 1] rfl rfl (M1 := []) [] rfl rfl (I1 := [(jFl, jLs dC dI ca G0 3 none)]) [0] rfl rfl).more hb_105)
        clear hh_7 ht_10 hvm_10 hz_10 hk_10 hS_10 hb_101 hb_102 hb_103 hb_104 hb_105
        refine lv_icmp_ge (tgt := 68) hx hb dX11_remember_51 (by decide) (fun c_12 => ?_) (fun c_12 => ?_)
        · skip
          have c_12' : v2_6.toInt ≥ r_11.toInt := jb_ge (rfl) (rfl) c_12
          refine lv_aload_n hx hb dX11_remember_68 rfl (lv_at hl 0 rfl) ?_
          refine j7_read hx hb hown hK (C := RX11) (T := TX11) (N := 19) rfl hly_13_9 hlk_68 (hh_10.at 1 rfl) dX11_remember_69 ?_
          have hsz_13 := hh_10.2.2.2.2.2.1
          have htt_13 := hh_10.2.2.2.2.2.2.1
          refine W.room (fun hrc_13 hrs_13 => ?_)
          refine va_callFi (A0 := jA base) (H0 := s.heap) (va_runF (hK.1 1 _ rfl).2 (As := []) (rest := []) ⟨hx, hb, hml, hown, hts⟩ (uJx4a65c_size_8abf5 l dC dI ca base B hB hAp hB1 G0 H_10 cache_3 3 lz_4) (va_cwF 0 hts (jgF (jWr_27 _ (List.mem_of_getElem? (i := 22) rfl)) (jWr_27 _ (List.mem_of_getElem? (i := 23) rfl)) (jWr_28 _ (List.mem_of_getElem? (i := 0) rfl)) (jWr_2 _ (List.mem_of_getElem? (i := 13) rfl)) (jWr_28 _ (List.mem_of_getElem? (i := 1) rfl))) rfl rfl rfl hK7.2.2.2.2.2.1.1 ⟨by decide, by decide, by decide +kernel⟩ ⟨by rw [← hR]; exact Nat.le_of_ble_eq_true rfl, by rw [← hR]; exact Nat.le_of_ble_eq_true rfl⟩) ⟨fun a U g mk q => by obtain ⟨q0, q1, q2, qK, q10, q11, q12⟩ := q; exact ⟨q0, q1, q2, jG.calling g mk a qK, q10, q11, q12⟩, hh_10.recv (C := RJx4a65c) (T := TJx4a65c) (N := 3) hB1 rfl (by decide) hg_cache_3 hK, fun U hU hW => ⟨rfl, hU, hh_10.2.1, hG.step hW hU hh_10.1, hg_cache_3, (hh_10.2.2.1.sub (L1 := [(cache_3, 1, 2, .int lz_4)]) [0] rfl), trivial⟩⟩ rfl rfl hl.1 rfl (lv_room (Nat.le_of_ble_eq_true rfl)) dX11_remember_72 ⟨by rw [hRc]; show _ + 0 ≤ _; omega, by rw [hRs]; show _ + 0 ≤ _; omega⟩) hh_10.1 (fun q _ h => h) (fun q h => h) (fun r_14 u_13 t_13 H_13 locs_13 ht_13 hvm_13 hr_14 hb_13 hz_13 hk_13 hS_13 => ?_)
          rw [ht_13] at hb_13
          obtain ⟨hb_131, hb_132, hb_133, hb_134, hb_135⟩ := hb_13
          have hh_13 : jSt (dC, dI) B base G0 G0 EX11_remember s.heap 0 0 [(cache_3, 1, 2, .int lz_4), (r0, 13, 9, .ref cache_3)] [] [(jFl, jLs dC dI ca G0 3 none)] H_13 locs_13 := ((hh_10.call hb_131 hb_132 hb_133 hb_134 hS_13 rfl (L1 := [(cache_3, 1, 2, .int lz_4), (r0, 13, 9, .ref cache_3)]) [0, 1] rfl rfl (M1 := []) [] rfl rfl (I1 := [(jFl, jLs dC dI ca G0 3 none)]) [0] rfl rfl).more hb_135)
          clear hh_10 ht_13 hvm_13 hz_13 hk_13 hS_13 hb_131 hb_132 hb_133 hb_134 hb_135
          refine lv_bipush (v := 24) hx hb dX11_remember_77 (by decide) ?_
          refine lv_icmp_lt (tgt := 93) hx hb dX11_remember_79 (by decide) (fun c_15 => ?_) (fun c_15 => ?_)
          · skip
            have c_15' : r_14.toInt < 24 := jb_lt (rfl) ((by decide)) c_15
            refine lv_aload_n hx hb dX11_remember_93 rfl (lv_at hl 0 rfl) ?_
            refine j7_read hx hb hown hK (C := RX11) (T := TX11) (N := 19) rfl hly_13_9 hlk_68 (hh_13.at 1 rfl) dX11_remember_94 ?_
            refine lv_aload_n hx hb dX11_remember_97 rfl (lv_at hl 1 rfl) ?_
            have hsz_16 := hh_13.2.2.2.2.2.1
            have htt_16 := hh_13.2.2.2.2.2.2.1
            refine W.room (fun hrc_16 hrs_16 => ?_)
            refine va_callFi (A0 := jA base) (H0 := s.heap) (va_runF (hK.1 1 _ rfl).2 (As := [.ref r1]) (rest := []) ⟨hx, hb, hml, hown, hts⟩ (uJx4a65c_add_9ea2dL3 l dC dI ca base B hB hAp hB1 hB11 hB223 G0 H_13 cache_3 r1 lz_4 LC LS) (va_cwF 1 hts (jgF (jWr_33 _ (List.mem_of_getElem? (i := 7) rfl)) (jWr_33 _ (List.mem_of_getElem? (i := 8) rfl)) (jWr_33 _ (List.mem_of_getElem? (i := 9) rfl)) (jWr_2 _ (List.mem_of_getElem? (i := 13) rfl)) (jWr_33 _ (List.mem_of_getElem? (i := 10) rfl))) rfl rfl rfl hK7.2.2.2.2.2.1.2.2.1 ⟨by decide, by decide, by decide +kernel⟩ ⟨by rw [← hR]; exact Nat.le_of_ble_eq_true rfl, by rw [← hR]; exact Nat.le_of_ble_eq_true rfl⟩) ⟨fun a U g mk q => by obtain ⟨q0, q1, q2, qK, q10, q11, q12, q13, q14, q15⟩ := q; exact ⟨q0, q1, q2, jG.calling g mk a qK, (jK7.calling g mk a q10), q11, q12, q13, q14, q15⟩, hh_13.recv (C := RJx4a65c) (T := TJx4a65c) (N := 3) hB1 rfl (by decide) hg_cache_3 hK, fun U hU hW => ⟨rfl, hU, hh_13.2.1, hG.step hW hU hh_13.1, (hK7.step hW hU hh_13.1), hg_cache_3, hg_r1, (hh_13.2.2.1.sub (L1 := [(cache_3, 1, 2, .int lz_4)]) [0] rfl), (hh_13.2.2.2.2.2.2.2.2.sub (L1 := [(jFl, jLs dC dI ca G0 3 none)]) [0] rfl), by first | omega | (refine ⟨?_, ?_⟩ <;> (first | omega | rfl | assumption | decide | exact Or.inl rfl | exact Or.inr rfl | (simp only; omega)))⟩⟩ rfl rfl hl.1 rfl (lv_room (Nat.le_of_ble_eq_true rfl)) dX11_remember_98 ⟨by rw [hRc]; omega, by rw [hRs]; omega⟩) hh_13.1 (fun q _ h => h) (fun q h => h) (fun r_17 u_16 t_16 H_16 locs_16 ht_16 hvm_16 hr_17 hb_16 hz_16 hk_16 hS_16 => ?_)
            obtain ⟨qz_16, G_16⟩ := u_16
            rw [ht_16] at hb_16
            simp only at hb_16
            obtain ⟨⟨hb_161, hb_162, hb_163, hb_164, hb_165, hb_166⟩, hN_16, hbE_16⟩ := hb_16
            have hh_16 : jSt (dC, dI) B base G0 G_16 EX11_remember s.heap (0 + (1)) (0 + (40)) [(cache_3, 1, 2, .int qz_16), (r0, 13, 9, .ref cache_3)] [] [] H_16 locs_16 := (hh_13.callG hb_161 hb_162 hb_163 hb_164 hb_165 hS_16 rfl (L1 := [(r0, 13, 9, .ref cache_3)]) [1] rfl rfl (M1 := []) [] rfl rfl (I1 := []) [] rfl rfl).more hb_166
            have hNn_16 : (jNk [0, 1, 2, 3, 4, 5, 6, 7, 8, 9, 10, 11, 12, 13, 14, 15, 16]) G0 G_16 := (jNk.rf).tr hN_16
            have hg_18 := hb_162 _ _ hg_r0
            have hg_19 := hb_162 _ _ hg_r1
            have hg_20 := hb_162 _ _ hg_cache_3
            have hh_21 := hh_16.addIs hbE_16
            obtain ⟨hr_17b, hr_17p⟩ := hr_17
            try simp only at hr_17p
            have hr_17' := jb_01 hr_17b
            refine lv_pop hx hb dX11_remember_103 rfl ?_
            have hsz_22 := hh_21.2.2.2.2.2.1
            have htt_22 := hh_21.2.2.2.2.2.2.1
            refine W.room (fun hrc_22 hrs_22 => ?_)
            refine W.widen (k := LC - s.heap.size) (n := LS - jTot s.heap) (by omega) (by omega) ?_
            rw [hQ]
            exact W.vret hx hb hr (fun t ht hW => ⟨⟨G_16, rfl, trivial, ⟨hh_21.ra (by first | omega | (simp only; omega)) (by first | omega | (simp only; omega)) (M1 := []) [] rfl ht, hNn_16, by rw [ht]; exact hh_21.2.2.2.2.2.2.2.2.sub (L1 := [(jFl, jLs dC dI ca G_16 3 none)]) [0] rfl⟩⟩, by rw [ht]; try exact hh_21.1.1, fun q h9 hq => by rw [ht]; try exact hh_21.1.2.1 q h9 hq⟩) hh_21.1.2.2 dX11_remember_104
          · skip
            have c_15' : r_14.toInt ≥ 24 := jb_lt_n (rfl) ((by decide)) c_15
            refine lv_aload_n hx hb dX11_remember_82 rfl (lv_at hl 0 rfl) ?_
            refine j7_read hx hb hown hK (C := RX11) (T := TX11) (N := 19) rfl hly_13_9 hlk_68 (hh_13.at 1 rfl) dX11_remember_83 ?_
            refine lv_iconst (v := 0) hx hb dX11_remember_86 (by decide) ?_
            have hsz_23 := hh_13.2.2.2.2.2.1
            have htt_23 := hh_13.2.2.2.2.2.2.1
            refine W.room (fun hrc_23 hrs_23 => ?_)
            refine j_callFx (A0 := jA base) (H0 := s.heap) (va_runF (hK.1 1 _ rfl).2 (As := [.int 0]) (rest := []) ⟨hx, hb, hml, hown, hts⟩ (uJx4a65c_remove_915e3L3 l dC dI ca base B hB hAp hB1 hB11 hB223 G0 H_13 cache_3 0 lz_4) (va_cwF 1 hts (jgF (jWr_42 _ (List.mem_of_getElem? (i := 7) rfl)) (jWr_42 _ (List.mem_of_getElem? (i := 8) rfl)) (jWr_42 _ (List.mem_of_getElem? (i := 9) rfl)) (jWr_2 _ (List.mem_of_getElem? (i := 13) rfl)) (jWr_42 _ (List.mem_of_getElem? (i := 10) rfl))) rfl rfl rfl hK7.2.2.2.2.2.1.2.2.2 ⟨by decide, by decide, by decide +kernel⟩ ⟨by rw [← hR]; exact Nat.le_of_ble_eq_true rfl, by rw [← hR]; exact Nat.le_of_ble_eq_true rfl⟩) ⟨fun a U g mk q => by obtain ⟨q0, q1, q2, qK, q10, q11, q12, q13, q14⟩ := q; exact ⟨q0, q1, q2, jG.calling g mk a qK, (jK7.calling g mk a q10), q11, q12, q13, q14⟩, hh_13.recv (C := RJx4a65c) (T := TJx4a65c) (N := 3) hB1 rfl (by decide) hg_cache_3 hK, fun U hU hW => ⟨rfl, hU, hh_13.2.1, hG.step hW hU hh_13.1, (hK7.step hW hU hh_13.1), hg_cache_3, (hh_13.2.2.1.sub (L1 := [(cache_3, 1, 2, .int lz_4)]) [0] rfl), (hh_13.2.2.2.2.2.2.2.2.sub (L1 := [(jFl, jLs dC dI ca G0 3 none)]) [0] rfl), by first | omega | (refine ⟨?_, ?_⟩ <;> (first | omega | rfl | assumption | decide | exact Or.inl rfl | exact Or.inr rfl | (simp only; omega)))⟩⟩ rfl rfl hl.1 rfl (lv_room (Nat.le_of_ble_eq_true rfl)) dX11_remember_87 ⟨by rw [hRc]; show _ + 0 ≤ _; omega, by rw [hRs]; show _ + 0 ≤ _; omega⟩) hh_13.1 (fun q _ h => h) (fun q h => h) (fun r_24 u_23 t_23 H_23 locs_23 ht_23 hvm_23 hr_24 hb_23 hz_23 hk_23 hS_23 => ?_)
            obtain ⟨qz_23, rfl⟩ : ∃ z, z = u_23 := ⟨_, rfl⟩
            rw [ht_23] at hb_23
            obtain ⟨hb_23, hbE_23⟩ := hb_23
            obtain ⟨hb_23, hbO_23⟩ := hb_23
            obtain ⟨hb_231, hb_232, hb_233, hb_234, hb_235⟩ := hb_23
            have hh_23 : jSt (dC, dI) B base G0 G0 EX11_remember s.heap 0 0 [(cache_3, 1, 2, .int qz_23), (r0, 13, 9, .ref cache_3)] [] [(jFl, jLs dC dI ca G0 3 none)] H_23 locs_23 := (((hh_13.call hb_231 hb_232 hb_233 hb_234 hS_23 rfl (L1 := [(r0, 13, 9, .ref cache_3)]) [1] rfl rfl (M1 := []) [] rfl rfl (I1 := []) [] rfl rfl).more hb_235)).addIs hbE_23
            clear hh_13 ht_23 hvm_23 hz_23 hk_23 hS_23 hb_231 hb_232 hb_233 hb_234 hb_235
            clear  hbE_23
            obtain ⟨hr_24, hr_24p⟩ := hr_24
            obtain ⟨ret_25, rfl, hg_ret_25⟩ := hr_24
            refine lv_pop hx hb dX11_remember_92 rfl ?_
            refine lv_aload_n hx hb dX11_remember_93 rfl (lv_at hl 0 rfl) ?_
            refine j7_read hx hb hown hK (C := RX11) (T := TX11) (N := 19) rfl hly_13_9 hlk_68 (hh_23.at 1 rfl) dX11_remember_94 ?_
            refine lv_aload_n hx hb dX11_remember_97 rfl (lv_at hl 1 rfl) ?_
            have hsz_26 := hh_23.2.2.2.2.2.1
            have htt_26 := hh_23.2.2.2.2.2.2.1
            refine W.room (fun hrc_26 hrs_26 => ?_)
            refine va_callFi (A0 := jA base) (H0 := s.heap) (va_runF (hK.1 1 _ rfl).2 (As := [.ref r1]) (rest := []) ⟨hx, hb, hml, hown, hts⟩ (uJx4a65c_add_9ea2dL3 l dC dI ca base B hB hAp hB1 hB11 hB223 G0 H_23 cache_3 r1 qz_23 LC LS) (va_cwF 1 hts (jgF (jWr_33 _ (List.mem_of_getElem? (i := 7) rfl)) (jWr_33 _ (List.mem_of_getElem? (i := 8) rfl)) (jWr_33 _ (List.mem_of_getElem? (i := 9) rfl)) (jWr_2 _ (List.mem_of_getElem? (i := 13) rfl)) (jWr_33 _ (List.mem_of_getElem? (i := 10) rfl))) rfl rfl rfl hK7.2.2.2.2.2.1.2.2.1 ⟨by decide, by decide, by decide +kernel⟩ ⟨by rw [← hR]; exact Nat.le_of_ble_eq_true rfl, by rw [← hR]; exact Nat.le_of_ble_eq_true rfl⟩) ⟨fun a U g mk q => by obtain ⟨q0, q1, q2, qK, q10, q11, q12, q13, q14, q15⟩ := q; exact ⟨q0, q1, q2, jG.calling g mk a qK, (jK7.calling g mk a q10), q11, q12, q13, q14, q15⟩, hh_23.recv (C := RJx4a65c) (T := TJx4a65c) (N := 3) hB1 rfl (by decide) hg_cache_3 hK, fun U hU hW => ⟨rfl, hU, hh_23.2.1, hG.step hW hU hh_23.1, (hK7.step hW hU hh_23.1), hg_cache_3, hg_r1, (hh_23.2.2.1.sub (L1 := [(cache_3, 1, 2, .int qz_23)]) [0] rfl), (hh_23.2.2.2.2.2.2.2.2.sub (L1 := [(jFl, jLs dC dI ca G0 3 none)]) [0] rfl), by first | omega | (refine ⟨?_, ?_⟩ <;> (first | omega | rfl | assumption | decide | exact Or.inl rfl | exact Or.inr rfl | (simp only; omega)))⟩⟩ rfl rfl hl.1 rfl (lv_room (Nat.le_of_ble_eq_true rfl)) dX11_remember_98 ⟨by rw [hRc]; omega, by rw [hRs]; omega⟩) hh_23.1 (fun q _ h => h) (fun q h => h) (fun r_27 u_26 t_26 H_26 locs_26 ht_26 hvm_26 hr_27 hb_26 hz_26 hk_26 hS_26 => ?_)
            obtain ⟨qz_26, G_26⟩ := u_26
            rw [ht_26] at hb_26
            simp only at hb_26
            obtain ⟨⟨hb_261, hb_262, hb_263, hb_264, hb_265, hb_266⟩, hN_26, hbE_26⟩ := hb_26
            have hh_26 : jSt (dC, dI) B base G0 G_26 EX11_remember s.heap (0 + (1)) (0 + (40)) [(cache_3, 1, 2, .int qz_26), (r0, 13, 9, .ref cache_3)] [] [] H_26 locs_26 := (hh_23.callG hb_261 hb_262 hb_263 hb_264 hb_265 hS_26 rfl (L1 := [(r0, 13, 9, .ref cache_3)]) [1] rfl rfl (M1 := []) [] rfl rfl (I1 := []) [] rfl rfl).more hb_266
            have hNn_26 : (jNk [0, 1, 2, 3, 4, 5, 6, 7, 8, 9, 10, 11, 12, 13, 14, 15, 16]) G0 G_26 := (jNk.rf).tr hN_26
            have hg_28 := hb_262 _ _ hg_r0
            have hg_29 := hb_262 _ _ hg_r1
            have hg_30 := hb_262 _ _ hg_cache_3
            have hh_31 := hh_26.addIs hbE_26
            obtain ⟨hr_27b, hr_27p⟩ := hr_27
            try simp only at hr_27p
            have hr_27' := jb_01 hr_27b
            refine lv_pop hx hb dX11_remember_103 rfl ?_
            have hsz_32 := hh_31.2.2.2.2.2.1
            have htt_32 := hh_31.2.2.2.2.2.2.1
            refine W.room (fun hrc_32 hrs_32 => ?_)
            refine W.widen (k := LC - s.heap.size) (n := LS - jTot s.heap) (by omega) (by omega) ?_
            rw [hQ]
            exact W.vret hx hb hr (fun t ht hW => ⟨⟨G_26, rfl, trivial, ⟨hh_31.ra (by first | omega | (simp only; omega)) (by first | omega | (simp only; omega)) (M1 := []) [] rfl ht, hNn_26, by rw [ht]; exact hh_31.2.2.2.2.2.2.2.2.sub (L1 := [(jFl, jLs dC dI ca G_26 3 none)]) [0] rfl⟩⟩, by rw [ht]; try exact hh_31.1.1, fun q h9 hq => by rw [ht]; try exact hh_31.1.2.1 q h9 hq⟩) hh_31.1.2.2 dX11_remember_104
        · skip
          have c_12' : v2_6.toInt < r_11.toInt := jb_ge_n (rfl) (rfl) c_12
          refine lv_aload_n hx hb dX11_remember_54 rfl (lv_at hl 0 rfl) ?_
          refine j7_read hx hb hown hK (C := RX11) (T := TX11) (N := 19) rfl hly_13_9 hlk_68 (hh_10.at 1 rfl) dX11_remember_55 ?_
          refine lv_iload_n hx hb dX11_remember_58 rfl (lv_at hl 2 rfl) ?_
          have hsz_33 := hh_10.2.2.2.2.2.1
          have htt_33 := hh_10.2.2.2.2.2.2.1
          refine W.room (fun hrc_33 hrs_33 => ?_)
          refine j_callFx (A0 := jA base) (H0 := s.heap) (va_runF (hK.1 1 _ rfl).2 (As := [.int v2_6]) (rest := []) ⟨hx, hb, hml, hown, hts⟩ (uJx4a65c_remove_915e3L3 l dC dI ca base B hB hAp hB1 hB11 hB223 G0 H_10 cache_3 v2_6 lz_4) (va_cwF 1 hts (jgF (jWr_42 _ (List.mem_of_getElem? (i := 7) rfl)) (jWr_42 _ (List.mem_of_getElem? (i := 8) rfl)) (jWr_42 _ (List.mem_of_getElem? (i := 9) rfl)) (jWr_2 _ (List.mem_of_getElem? (i := 13) rfl)) (jWr_42 _ (List.mem_of_getElem? (i := 10) rfl))) rfl rfl rfl hK7.2.2.2.2.2.1.2.2.2 ⟨by decide, by decide, by decide +kernel⟩ ⟨by rw [← hR]; exact Nat.le_of_ble_eq_true rfl, by rw [← hR]; exact Nat.le_of_ble_eq_true rfl⟩) ⟨fun a U g mk q => by obtain ⟨q0, q1, q2, qK, q10, q11, q12, q13, q14⟩ := q; exact ⟨q0, q1, q2, jG.calling g mk a qK, (jK7.calling g mk a q10), q11, q12, q13, q14⟩, hh_10.recv (C := RJx4a65c) (T := TJx4a65c) (N := 3) hB1 rfl (by decide) hg_cache_3 hK, fun U hU hW => ⟨rfl, hU, hh_10.2.1, hG.step hW hU hh_10.1, (hK7.step hW hU hh_10.1), hg_cache_3, (hh_10.2.2.1.sub (L1 := [(cache_3, 1, 2, .int lz_4)]) [0] rfl), (hh_10.2.2.2.2.2.2.2.2.sub (L1 := [(jFl, jLs dC dI ca G0 3 none)]) [0] rfl), by first | omega | (refine ⟨?_, ?_⟩ <;> (first | omega | rfl | assumption | decide | exact Or.inl rfl | exact Or.inr rfl | (simp only; omega)))⟩⟩ rfl rfl hl.1 rfl (lv_room (Nat.le_of_ble_eq_true rfl)) dX11_remember_59 ⟨by rw [hRc]; show _ + 0 ≤ _; omega, by rw [hRs]; show _ + 0 ≤ _; omega⟩) hh_10.1 (fun q _ h => h) (fun q h => h) (fun r_34 u_33 t_33 H_33 locs_33 ht_33 hvm_33 hr_34 hb_33 hz_33 hk_33 hS_33 => ?_)
          obtain ⟨qz_33, rfl⟩ : ∃ z, z = u_33 := ⟨_, rfl⟩
          rw [ht_33] at hb_33
          obtain ⟨hb_33, hbE_33⟩ := hb_33
          obtain ⟨hb_33, hbO_33⟩ := hb_33
          obtain ⟨hb_331, hb_332, hb_333, hb_334, hb_335⟩ := hb_33
          have hh_33 : jSt (dC, dI) B base G0 G0 EX11_remember s.heap 0 0 [(cache_3, 1, 2, .int qz_33), (r0, 13, 9, .ref cache_3)] [] [(jFl, jLs dC dI ca G0 3 none)] H_33 locs_33 := (((hh_10.call hb_331 hb_332 hb_333 hb_334 hS_33 rfl (L1 := [(r0, 13, 9, .ref cache_3)]) [1] rfl rfl (M1 := []) [] rfl rfl (I1 := []) [] rfl rfl).more hb_335)).addIs hbE_33
          clear hh_10 ht_33 hvm_33 hz_33 hk_33 hS_33 hb_331 hb_332 hb_333 hb_334 hb_335
          clear  hbE_33
          obtain ⟨hr_34, hr_34p⟩ := hr_34
          obtain ⟨ret_35, rfl, hg_ret_35⟩ := hr_34
          refine lv_pop hx hb dX11_remember_64 rfl ?_
          refine lv_goto (tgt := 93) hx hb dX11_remember_65 (by decide) ?_
          refine lv_aload_n hx hb dX11_remember_93 rfl (lv_at hl 0 rfl) ?_
          refine j7_read hx hb hown hK (C := RX11) (T := TX11) (N := 19) rfl hly_13_9 hlk_68 (hh_33.at 1 rfl) dX11_remember_94 ?_
          refine lv_aload_n hx hb dX11_remember_97 rfl (lv_at hl 1 rfl) ?_
          have hsz_36 := hh_33.2.2.2.2.2.1
          have htt_36 := hh_33.2.2.2.2.2.2.1
          refine W.room (fun hrc_36 hrs_36 => ?_)
          refine va_callFi (A0 := jA base) (H0 := s.heap) (va_runF (hK.1 1 _ rfl).2 (As := [.ref r1]) (rest := []) ⟨hx, hb, hml, hown, hts⟩ (uJx4a65c_add_9ea2dL3 l dC dI ca base B hB hAp hB1 hB11 hB223 G0 H_33 cache_3 r1 qz_33 LC LS) (va_cwF 1 hts (jgF (jWr_33 _ (List.mem_of_getElem? (i := 7) rfl)) (jWr_33 _ (List.mem_of_getElem? (i := 8) rfl)) (jWr_33 _ (List.mem_of_getElem? (i := 9) rfl)) (jWr_2 _ (List.mem_of_getElem? (i := 13) rfl)) (jWr_33 _ (List.mem_of_getElem? (i := 10) rfl))) rfl rfl rfl hK7.2.2.2.2.2.1.2.2.1 ⟨by decide, by decide, by decide +kernel⟩ ⟨by rw [← hR]; exact Nat.le_of_ble_eq_true rfl, by rw [← hR]; exact Nat.le_of_ble_eq_true rfl⟩) ⟨fun a U g mk q => by obtain ⟨q0, q1, q2, qK, q10, q11, q12, q13, q14, q15⟩ := q; exact ⟨q0, q1, q2, jG.calling g mk a qK, (jK7.calling g mk a q10), q11, q12, q13, q14, q15⟩, hh_33.recv (C := RJx4a65c) (T := TJx4a65c) (N := 3) hB1 rfl (by decide) hg_cache_3 hK, fun U hU hW => ⟨rfl, hU, hh_33.2.1, hG.step hW hU hh_33.1, (hK7.step hW hU hh_33.1), hg_cache_3, hg_r1, (hh_33.2.2.1.sub (L1 := [(cache_3, 1, 2, .int qz_33)]) [0] rfl), (hh_33.2.2.2.2.2.2.2.2.sub (L1 := [(jFl, jLs dC dI ca G0 3 none)]) [0] rfl), by first | omega | (refine ⟨?_, ?_⟩ <;> (first | omega | rfl | assumption | decide | exact Or.inl rfl | exact Or.inr rfl | (simp only; omega)))⟩⟩ rfl rfl hl.1 rfl (lv_room (Nat.le_of_ble_eq_true rfl)) dX11_remember_98 ⟨by rw [hRc]; omega, by rw [hRs]; omega⟩) hh_33.1 (fun q _ h => h) (fun q h => h) (fun r_37 u_36 t_36 H_36 locs_36 ht_36 hvm_36 hr_37 hb_36 hz_36 hk_36 hS_36 => ?_)
          obtain ⟨qz_36, G_36⟩ := u_36
          rw [ht_36] at hb_36
          simp only at hb_36
          obtain ⟨⟨hb_361, hb_362, hb_363, hb_364, hb_365, hb_366⟩, hN_36, hbE_36⟩ := hb_36
          have hh_36 : jSt (dC, dI) B base G0 G_36 EX11_remember s.heap (0 + (1)) (0 + (40)) [(cache_3, 1, 2, .int qz_36), (r0, 13, 9, .ref cache_3)] [] [] H_36 locs_36 := (hh_33.callG hb_361 hb_362 hb_363 hb_364 hb_365 hS_36 rfl (L1 := [(r0, 13, 9, .ref cache_3)]) [1] rfl rfl (M1 := []) [] rfl rfl (I1 := []) [] rfl rfl).more hb_366
          have hNn_36 : (jNk [0, 1, 2, 3, 4, 5, 6, 7, 8, 9, 10, 11, 12, 13, 14, 15, 16]) G0 G_36 := (jNk.rf).tr hN_36
          have hg_38 := hb_362 _ _ hg_r0
          have hg_39 := hb_362 _ _ hg_r1
          have hg_40 := hb_362 _ _ hg_cache_3
          have hh_41 := hh_36.addIs hbE_36
          obtain ⟨hr_37b, hr_37p⟩ := hr_37
          try simp only at hr_37p
          have hr_37' := jb_01 hr_37b
          refine lv_pop hx hb dX11_remember_103 rfl ?_
          have hsz_42 := hh_41.2.2.2.2.2.1
          have htt_42 := hh_41.2.2.2.2.2.2.1
          refine W.room (fun hrc_42 hrs_42 => ?_)
          refine W.widen (k := LC - s.heap.size) (n := LS - jTot s.heap) (by omega) (by omega) ?_
          rw [hQ]
          exact W.vret hx hb hr (fun t ht hW => ⟨⟨G_36, rfl, trivial, ⟨hh_41.ra (by first | omega | (simp only; omega)) (by first | omega | (simp only; omega)) (M1 := []) [] rfl ht, hNn_36, by rw [ht]; exact hh_41.2.2.2.2.2.2.2.2.sub (L1 := [(jFl, jLs dC dI ca G_36 3 none)]) [0] rfl⟩⟩, by rw [ht]; try exact hh_41.1.1, fun q h9 hq => by rw [ht]; try exact hh_41.1.2.1 q h9 hq⟩) hh_41.1.2.2 dX11_remember_104
      · skip
        have c_9' : v2_6.toInt < r_8.toInt := jb_ge_n (rfl) (rfl) c_9
        refine lv_aload_n hx hb dX11_remember_15 rfl (lv_at hl 0 rfl) ?_
        refine j7_read hx hb hown hK (C := RX11) (T := TX11) (N := 19) rfl hly_13_9 hlk_68 (hh_7.at 1 rfl) dX11_remember_16 ?_
        refine lv_iload_n hx hb dX11_remember_19 rfl (lv_at hl 2 rfl) ?_
        have hsz_43 := hh_7.2.2.2.2.2.1
        have htt_43 := hh_7.2.2.2.2.2.2.1
        refine W.room (fun hrc_43 hrs_43 => ?_)
        refine j_callFx (A0 := jA base) (H0 := s.heap) (va_runF (hK.1 1 _ rfl).2 (As := [.int v2_6]) (rest := []) ⟨hx, hb, hml, hown, hts⟩ (uJx4a65c_get_915e3L3 l dC dI ca base B hB hAp hB1 hB11 hB223 G0 H_7 cache_3 v2_6 lz_4) (va_cwF 1 hts (jgF (jWr_28 _ (List.mem_of_getElem? (i := 3) rfl)) (jWr_28 _ (List.mem_of_getElem? (i := 4) rfl)) (jWr_28 _ (List.mem_of_getElem? (i := 5) rfl)) (jWr_2 _ (List.mem_of_getElem? (i := 13) rfl)) (jWr_28 _ (List.mem_of_getElem? (i := 6) rfl))) rfl rfl rfl hK7.2.2.2.2.2.1.2.1 ⟨by decide, by decide, by decide +kernel⟩ ⟨by rw [← hR]; exact Nat.le_of_ble_eq_true rfl, by rw [← hR]; exact Nat.le_of_ble_eq_true rfl⟩) ⟨fun a U g mk q => by obtain ⟨q0, q1, q2, qK, q10, q11, q12, q13, q14⟩ := q; exact ⟨q0, q1, q2, jG.calling g mk a qK, (jK7.calling g mk a q10), q11, q12, q13, q14⟩, hh_7.recv (C := RJx4a65c) (T := TJx4a65c) (N := 3) hB1 rfl (by decide) hg_cache_3 hK, fun U hU hW => ⟨rfl, hU, hh_7.2.1, hG.step hW hU hh_7.1, (hK7.step hW hU hh_7.1), hg_cache_3, (hh_7.2.2.1.sub (L1 := [(cache_3, 1, 2, .int lz_4)]) [0] rfl), (hh_7.2.2.2.2.2.2.2.2.sub (L1 := [(jFl, jLs dC dI ca G0 3 none)]) [0] rfl), by first | omega | (refine ⟨?_, ?_⟩ <;> (first | omega | rfl | assumption | decide | exact Or.inl rfl | exact Or.inr rfl | (simp only; omega)))⟩⟩ rfl rfl hl.1 rfl (lv_room (Nat.le_of_ble_eq_true rfl)) dX11_remember_20 ⟨by rw [hRc]; show _ + 0 ≤ _; omega, by rw [hRs]; show _ + 0 ≤ _; omega⟩) hh_7.1 (fun q _ h => h) (fun q h => h) (fun r_44 u_43 t_43 H_43 locs_43 ht_43 hvm_43 hr_44 hb_43 hz_43 hk_43 hS_43 => ?_)
        rw [ht_43] at hb_43
        obtain ⟨hb_43, hbE_43⟩ := hb_43
        obtain ⟨hb_431, hb_432, hb_433, hb_434, hb_435⟩ := hb_43
        have hh_43 : jSt (dC, dI) B base G0 G0 EX11_remember s.heap 0 0 [(cache_3, 1, 2, .int lz_4), (r0, 13, 9, .ref cache_3)] [] [(jFl, jLs dC dI ca G0 3 none)] H_43 locs_43 := (((hh_7.call hb_431 hb_432 hb_433 hb_434 hS_43 rfl (L1 := [(cache_3, 1, 2, .int lz_4), (r0, 13, 9, .ref cache_3)]) [0, 1] rfl rfl (M1 := []) [] rfl rfl (I1 := []) [] rfl rfl).more hb_435)).addIs hbE_43
        clear hh_7 ht_43 hvm_43 hz_43 hk_43 hS_43 hb_431 hb_432 hb_433 hb_434 hb_435
        clear  hbE_43
        obtain ⟨ret_45, rfl, hg_ret_45⟩ := hr_44
        refine va_castY hx hb hown (htw (.classLink RX11 189 "ProofServer$State") (jWr_77 _ (List.mem_of_getElem? (i := 12) rfl))) hK7.2.2.1.2.2.2 (hh_43.recv (C := RX9) (T := TX9) (N := 9) hB11 rfl (by decide) hg_ret_45 hK) dX11_remember_25 ?_
        refine lv_aload_n hx hb dX11_remember_28 rfl (lv_at hl 1 rfl) ?_
        have hsz_46 := hh_43.2.2.2.2.2.1
        have htt_46 := hh_43.2.2.2.2.2.2.1
        refine W.room (fun hrc_46 hrs_46 => ?_)
        refine va_calli (A0 := jA base) (H0 := s.heap) (va_runS (As := [.ref ret_45, .ref r1]) (rest := []) ⟨hx, hb, hml, hown, hts⟩ (uX9_isSameRow l dC dI ca base B hB hAp hB11 hB101 G0 H_43 ret_45 r1) (va_cwS 2 hts (jgS (jWr_77 _ (List.mem_of_getElem? (i := 18) rfl)) (jWr_77 _ (List.mem_of_getElem? (i := 19) rfl)) (jWr_4 _ (List.mem_of_getElem? (i := 18) rfl)) (jWr_77 _ (List.mem_of_getElem? (i := 20) rfl))) rfl rfl rfl (by decide +kernel) ⟨by rw [← hR]; exact Nat.le_of_ble_eq_true rfl, by rw [← hR]; exact Nat.le_of_ble_eq_true rfl⟩) ⟨fun a U g mk q => by obtain ⟨q0, q1, q2, qK, q10, q11, q12, q13⟩ := q; exact ⟨q0, q1, q2, jG.calling g mk a qK, q10, q11, q12, q13⟩, fun U hU hW => ⟨rfl, hU, hh_43.2.1, hG.step hW hU hh_43.1, hg_ret_45, hg_r1, jP.nil, trivial⟩⟩ rfl rfl hl.1 rfl (lv_room (Nat.le_of_ble_eq_true rfl)) dX11_remember_29 ⟨by rw [hRc]; show _ + 0 ≤ _; omega, by rw [hRs]; show _ + 0 ≤ _; omega⟩) hh_43.1 (fun q _ h => h) (fun q h => h) (fun r_47 u_46 t_46 H_46 locs_46 ht_46 hvm_46 hr_47 hb_46 hz_46 hk_46 hS_46 => ?_)
        rw [ht_46] at hb_46
        obtain ⟨hb_461, hb_462, hb_463, hb_464, hb_465⟩ := hb_46
        have hh_46 : jSt (dC, dI) B base G0 G0 EX11_remember s.heap 0 0 [(cache_3, 1, 2, .int lz_4), (r0, 13, 9, .ref cache_3)] [] [(jFl, jLs dC dI ca G0 3 none)] H_46 locs_46 := ((hh_43.call hb_461 hb_462 hb_463 hb_464 hS_46 rfl (L1 := [(cache_3, 1, 2, .int lz_4), (r0, 13, 9, .ref cache_3)]) [0, 1] rfl rfl (M1 := []) [] rfl rfl (I1 := [(jFl, jLs dC dI ca G0 3 none)]) [0] rfl rfl).more hb_465)
        clear hh_43 ht_46 hvm_46 hz_46 hk_46 hS_46 hb_461 hb_462 hb_463 hb_464 hb_465
        obtain ⟨hr_47b, hr_47p⟩ := hr_47
        have hr_47' := jb_01 hr_47b
        refine lv_if_ne (tgt := 41) hx hb dX11_remember_32 (by decide) (fun c_48 => ?_) (fun c_48 => ?_)
        · skip
          have c_48' : r_47.toInt ≠ 0 := jb_ne (rfl) ((by decide)) c_48
          refine lv_iload_n hx hb dX11_remember_41 rfl (lv_at hl 2 rfl) ?_
          refine lv_aload_n hx hb dX11_remember_42 rfl (lv_at hl 0 rfl) ?_
          refine j7_read hx hb hown hK (C := RX11) (T := TX11) (N := 19) rfl hly_13_9 hlk_68 (hh_46.at 1 rfl) dX11_remember_43 ?_
          have hsz_49 := hh_46.2.2.2.2.2.1
          have htt_49 := hh_46.2.2.2.2.2.2.1
          refine W.room (fun hrc_49 hrs_49 => ?_)
          refine va_callFi (A0 := jA base) (H0 := s.heap) (va_runF (hK.1 1 _ rfl).2 (As := []) (rest := [.int v2_6]) ⟨hx, hb, hml, hown, hts⟩ (uJx4a65c_size_8abf5 l dC dI ca base B hB hAp hB1 G0 H_46 cache_3 3 lz_4) (va_cwF 0 hts (jgF (jWr_27 _ (List.mem_of_getElem? (i := 22) rfl)) (jWr_27 _ (List.mem_of_getElem? (i := 23) rfl)) (jWr_28 _ (List.mem_of_getElem? (i := 0) rfl)) (jWr_2 _ (List.mem_of_getElem? (i := 13) rfl)) (jWr_28 _ (List.mem_of_getElem? (i := 1) rfl))) rfl rfl rfl hK7.2.2.2.2.2.1.1 ⟨by decide, by decide, by decide +kernel⟩ ⟨by rw [← hR]; exact Nat.le_of_ble_eq_true rfl, by rw [← hR]; exact Nat.le_of_ble_eq_true rfl⟩) ⟨fun a U g mk q => by obtain ⟨q0, q1, q2, qK, q10, q11, q12⟩ := q; exact ⟨q0, q1, q2, jG.calling g mk a qK, q10, q11, q12⟩, hh_46.recv (C := RJx4a65c) (T := TJx4a65c) (N := 3) hB1 rfl (by decide) hg_cache_3 hK, fun U hU hW => ⟨rfl, hU, hh_46.2.1, hG.step hW hU hh_46.1, hg_cache_3, (hh_46.2.2.1.sub (L1 := [(cache_3, 1, 2, .int lz_4)]) [0] rfl), trivial⟩⟩ rfl rfl hl.1 rfl (lv_room (Nat.le_of_ble_eq_true rfl)) dX11_remember_46 ⟨by rw [hRc]; show _ + 0 ≤ _; omega, by rw [hRs]; show _ + 0 ≤ _; omega⟩) hh_46.1 (fun q _ h => h) (fun q h => h) (fun r_50 u_49 t_49 H_49 locs_49 ht_49 hvm_49 hr_50 hb_49 hz_49 hk_49 hS_49 => ?_)
          rw [ht_49] at hb_49
          obtain ⟨hb_491, hb_492, hb_493, hb_494, hb_495⟩ := hb_49
          have hh_49 : jSt (dC, dI) B base G0 G0 EX11_remember s.heap 0 0 [(cache_3, 1, 2, .int lz_4), (r0, 13, 9, .ref cache_3)] [] [(jFl, jLs dC dI ca G0 3 none)] H_49 locs_49 := ((hh_46.call hb_491 hb_492 hb_493 hb_494 hS_49 rfl (L1 := [(cache_3, 1, 2, .int lz_4), (r0, 13, 9, .ref cache_3)]) [0, 1] rfl rfl (M1 := []) [] rfl rfl (I1 := [(jFl, jLs dC dI ca G0 3 none)]) [0] rfl rfl).more hb_495)
          clear hh_46 ht_49 hvm_49 hz_49 hk_49 hS_49 hb_491 hb_492 hb_493 hb_494 hb_495
          refine lv_icmp_ge (tgt := 68) hx hb dX11_remember_51 (by decide) (fun c_51 => ?_) (fun c_51 => ?_)
          · skip
            have c_51' : v2_6.toInt ≥ r_50.toInt := jb_ge (rfl) (rfl) c_51
            refine lv_aload_n hx hb dX11_remember_68 rfl (lv_at hl 0 rfl) ?_
            refine j7_read hx hb hown hK (C := RX11) (T := TX11) (N := 19) rfl hly_13_9 hlk_68 (hh_49.at 1 rfl) dX11_remember_69 ?_
            have hsz_52 := hh_49.2.2.2.2.2.1
            have htt_52 := hh_49.2.2.2.2.2.2.1
            refine W.room (fun hrc_52 hrs_52 => ?_)
            refine va_callFi (A0 := jA base) (H0 := s.heap) (va_runF (hK.1 1 _ rfl).2 (As := []) (rest := []) ⟨hx, hb, hml, hown, hts⟩ (uJx4a65c_size_8abf5 l dC dI ca base B hB hAp hB1 G0 H_49 cache_3 3 lz_4) (va_cwF 0 hts (jgF (jWr_27 _ (List.mem_of_getElem? (i := 22) rfl)) (jWr_27 _ (List.mem_of_getElem? (i := 23) rfl)) (jWr_28 _ (List.mem_of_getElem? (i := 0) rfl)) (jWr_2 _ (List.mem_of_getElem? (i := 13) rfl)) (jWr_28 _ (List.mem_of_getElem? (i := 1) rfl))) rfl rfl rfl hK7.2.2.2.2.2.1.1 ⟨by decide, by decide, by decide +kernel⟩ ⟨by rw [← hR]; exact Nat.le_of_ble_eq_true rfl, by rw [← hR]; exact Nat.le_of_ble_eq_true rfl⟩) ⟨fun a U g mk q => by obtain ⟨q0, q1, q2, qK, q10, q11, q12⟩ := q; exact ⟨q0, q1, q2, jG.calling g mk a qK, q10, q11, q12⟩, hh_49.recv (C := RJx4a65c) (T := TJx4a65c) (N := 3) hB1 rfl (by decide) hg_cache_3 hK, fun U hU hW => ⟨rfl, hU, hh_49.2.1, hG.step hW hU hh_49.1, hg_cache_3, (hh_49.2.2.1.sub (L1 := [(cache_3, 1, 2, .int lz_4)]) [0] rfl), trivial⟩⟩ rfl rfl hl.1 rfl (lv_room (Nat.le_of_ble_eq_true rfl)) dX11_remember_72 ⟨by rw [hRc]; show _ + 0 ≤ _; omega, by rw [hRs]; show _ + 0 ≤ _; omega⟩) hh_49.1 (fun q _ h => h) (fun q h => h) (fun r_53 u_52 t_52 H_52 locs_52 ht_52 hvm_52 hr_53 hb_52 hz_52 hk_52 hS_52 => ?_)
            rw [ht_52] at hb_52
            obtain ⟨hb_521, hb_522, hb_523, hb_524, hb_525⟩ := hb_52
            have hh_52 : jSt (dC, dI) B base G0 G0 EX11_remember s.heap 0 0 [(cache_3, 1, 2, .int lz_4), (r0, 13, 9, .ref cache_3)] [] [(jFl, jLs dC dI ca G0 3 none)] H_52 locs_52 := ((hh_49.call hb_521 hb_522 hb_523 hb_524 hS_52 rfl (L1 := [(cache_3, 1, 2, .int lz_4), (r0, 13, 9, .ref cache_3)]) [0, 1] rfl rfl (M1 := []) [] rfl rfl (I1 := [(jFl, jLs dC dI ca G0 3 none)]) [0] rfl rfl).more hb_525)
            clear hh_49 ht_52 hvm_52 hz_52 hk_52 hS_52 hb_521 hb_522 hb_523 hb_524 hb_525
            refine lv_bipush (v := 24) hx hb dX11_remember_77 (by decide) ?_
            refine lv_icmp_lt (tgt := 93) hx hb dX11_remember_79 (by decide) (fun c_54 => ?_) (fun c_54 => ?_)
            · skip
              have c_54' : r_53.toInt < 24 := jb_lt (rfl) ((by decide)) c_54
              refine lv_aload_n hx hb dX11_remember_93 rfl (lv_at hl 0 rfl) ?_
              refine j7_read hx hb hown hK (C := RX11) (T := TX11) (N := 19) rfl hly_13_9 hlk_68 (hh_52.at 1 rfl) dX11_remember_94 ?_
              refine lv_aload_n hx hb dX11_remember_97 rfl (lv_at hl 1 rfl) ?_
              have hsz_55 := hh_52.2.2.2.2.2.1
              have htt_55 := hh_52.2.2.2.2.2.2.1
              refine W.room (fun hrc_55 hrs_55 => ?_)
              refine va_callFi (A0 := jA base) (H0 := s.heap) (va_runF (hK.1 1 _ rfl).2 (As := [.ref r1]) (rest := []) ⟨hx, hb, hml, hown, hts⟩ (uJx4a65c_add_9ea2dL3 l dC dI ca base B hB hAp hB1 hB11 hB223 G0 H_52 cache_3 r1 lz_4 LC LS) (va_cwF 1 hts (jgF (jWr_33 _ (List.mem_of_getElem? (i := 7) rfl)) (jWr_33 _ (List.mem_of_getElem? (i := 8) rfl)) (jWr_33 _ (List.mem_of_getElem? (i := 9) rfl)) (jWr_2 _ (List.mem_of_getElem? (i := 13) rfl)) (jWr_33 _ (List.mem_of_getElem? (i := 10) rfl))) rfl rfl rfl hK7.2.2.2.2.2.1.2.2.1 ⟨by decide, by decide, by decide +kernel⟩ ⟨by rw [← hR]; exact Nat.le_of_ble_eq_true rfl, by rw [← hR]; exact Nat.le_of_ble_eq_true rfl⟩) ⟨fun a U g mk q => by obtain ⟨q0, q1, q2, qK, q10, q11, q12, q13, q14, q15⟩ := q; exact ⟨q0, q1, q2, jG.calling g mk a qK, (jK7.calling g mk a q10), q11, q12, q13, q14, q15⟩, hh_52.recv (C := RJx4a65c) (T := TJx4a65c) (N := 3) hB1 rfl (by decide) hg_cache_3 hK, fun U hU hW => ⟨rfl, hU, hh_52.2.1, hG.step hW hU hh_52.1, (hK7.step hW hU hh_52.1), hg_cache_3, hg_r1, (hh_52.2.2.1.sub (L1 := [(cache_3, 1, 2, .int lz_4)]) [0] rfl), (hh_52.2.2.2.2.2.2.2.2.sub (L1 := [(jFl, jLs dC dI ca G0 3 none)]) [0] rfl), by first | omega | (refine ⟨?_, ?_⟩ <;> (first | omega | rfl | assumption | decide | exact Or.inl rfl | exact Or.inr rfl | (simp only; omega)))⟩⟩ rfl rfl hl.1 rfl (lv_room (Nat.le_of_ble_eq_true rfl)) dX11_remember_98 ⟨by rw [hRc]; omega, by rw [hRs]; omega⟩) hh_52.1 (fun q _ h => h) (fun q h => h) (fun r_56 u_55 t_55 H_55 locs_55 ht_55 hvm_55 hr_56 hb_55 hz_55 hk_55 hS_55 => ?_)
              obtain ⟨qz_55, G_55⟩ := u_55
              rw [ht_55] at hb_55
              simp only at hb_55
              obtain ⟨⟨hb_551, hb_552, hb_553, hb_554, hb_555, hb_556⟩, hN_55, hbE_55⟩ := hb_55
              have hh_55 : jSt (dC, dI) B base G0 G_55 EX11_remember s.heap (0 + (1)) (0 + (40)) [(cache_3, 1, 2, .int qz_55), (r0, 13, 9, .ref cache_3)] [] [] H_55 locs_55 := (hh_52.callG hb_551 hb_552 hb_553 hb_554 hb_555 hS_55 rfl (L1 := [(r0, 13, 9, .ref cache_3)]) [1] rfl rfl (M1 := []) [] rfl rfl (I1 := []) [] rfl rfl).more hb_556
              have hNn_55 : (jNk [0, 1, 2, 3, 4, 5, 6, 7, 8, 9, 10, 11, 12, 13, 14, 15, 16]) G0 G_55 := (jNk.rf).tr hN_55
              have hg_57 := hb_552 _ _ hg_r0
              have hg_58 := hb_552 _ _ hg_r1
              have hg_59 := hb_552 _ _ hg_cache_3
              have hh_60 := hh_55.addIs hbE_55
              obtain ⟨hr_56b, hr_56p⟩ := hr_56
              try simp only at hr_56p
              have hr_56' := jb_01 hr_56b
              refine lv_pop hx hb dX11_remember_103 rfl ?_
              have hsz_61 := hh_60.2.2.2.2.2.1
              have htt_61 := hh_60.2.2.2.2.2.2.1
              refine W.room (fun hrc_61 hrs_61 => ?_)
              refine W.widen (k := LC - s.heap.size) (n := LS - jTot s.heap) (by omega) (by omega) ?_
              rw [hQ]
              exact W.vret hx hb hr (fun t ht hW => ⟨⟨G_55, rfl, trivial, ⟨hh_60.ra (by first | omega | (simp only; omega)) (by first | omega | (simp only; omega)) (M1 := []) [] rfl ht, hNn_55, by rw [ht]; exact hh_60.2.2.2.2.2.2.2.2.sub (L1 := [(jFl, jLs dC dI ca G_55 3 none)]) [0] rfl⟩⟩, by rw [ht]; try exact hh_60.1.1, fun q h9 hq => by rw [ht]; try exact hh_60.1.2.1 q h9 hq⟩) hh_60.1.2.2 dX11_remember_104
            · skip
              have c_54' : r_53.toInt ≥ 24 := jb_lt_n (rfl) ((by decide)) c_54
              refine lv_aload_n hx hb dX11_remember_82 rfl (lv_at hl 0 rfl) ?_
              refine j7_read hx hb hown hK (C := RX11) (T := TX11) (N := 19) rfl hly_13_9 hlk_68 (hh_52.at 1 rfl) dX11_remember_83 ?_
              refine lv_iconst (v := 0) hx hb dX11_remember_86 (by decide) ?_
              have hsz_62 := hh_52.2.2.2.2.2.1
              have htt_62 := hh_52.2.2.2.2.2.2.1
              refine W.room (fun hrc_62 hrs_62 => ?_)
              refine j_callFx (A0 := jA base) (H0 := s.heap) (va_runF (hK.1 1 _ rfl).2 (As := [.int 0]) (rest := []) ⟨hx, hb, hml, hown, hts⟩ (uJx4a65c_remove_915e3L3 l dC dI ca base B hB hAp hB1 hB11 hB223 G0 H_52 cache_3 0 lz_4) (va_cwF 1 hts (jgF (jWr_42 _ (List.mem_of_getElem? (i := 7) rfl)) (jWr_42 _ (List.mem_of_getElem? (i := 8) rfl)) (jWr_42 _ (List.mem_of_getElem? (i := 9) rfl)) (jWr_2 _ (List.mem_of_getElem? (i := 13) rfl)) (jWr_42 _ (List.mem_of_getElem? (i := 10) rfl))) rfl rfl rfl hK7.2.2.2.2.2.1.2.2.2 ⟨by decide, by decide, by decide +kernel⟩ ⟨by rw [← hR]; exact Nat.le_of_ble_eq_true rfl, by rw [← hR]; exact Nat.le_of_ble_eq_true rfl⟩) ⟨fun a U g mk q => by obtain ⟨q0, q1, q2, qK, q10, q11, q12, q13, q14⟩ := q; exact ⟨q0, q1, q2, jG.calling g mk a qK, (jK7.calling g mk a q10), q11, q12, q13, q14⟩, hh_52.recv (C := RJx4a65c) (T := TJx4a65c) (N := 3) hB1 rfl (by decide) hg_cache_3 hK, fun U hU hW => ⟨rfl, hU, hh_52.2.1, hG.step hW hU hh_52.1, (hK7.step hW hU hh_52.1), hg_cache_3, (hh_52.2.2.1.sub (L1 := [(cache_3, 1, 2, .int lz_4)]) [0] rfl), (hh_52.2.2.2.2.2.2.2.2.sub (L1 := [(jFl, jLs dC dI ca G0 3 none)]) [0] rfl), by first | omega | (refine ⟨?_, ?_⟩ <;> (first | omega | rfl | assumption | decide | exact Or.inl rfl | exact Or.inr rfl | (simp only; omega)))⟩⟩ rfl rfl hl.1 rfl (lv_room (Nat.le_of_ble_eq_true rfl)) dX11_remember_87 ⟨by rw [hRc]; show _ + 0 ≤ _; omega, by rw [hRs]; show _ + 0 ≤ _; omega⟩) hh_52.1 (fun q _ h => h) (fun q h => h) (fun r_63 u_62 t_62 H_62 locs_62 ht_62 hvm_62 hr_63 hb_62 hz_62 hk_62 hS_62 => ?_)
              obtain ⟨qz_62, rfl⟩ : ∃ z, z = u_62 := ⟨_, rfl⟩
              rw [ht_62] at hb_62
              obtain ⟨hb_62, hbE_62⟩ := hb_62
              obtain ⟨hb_62, hbO_62⟩ := hb_62
              obtain ⟨hb_621, hb_622, hb_623, hb_624, hb_625⟩ := hb_62
              have hh_62 : jSt (dC, dI) B base G0 G0 EX11_remember s.heap 0 0 [(cache_3, 1, 2, .int qz_62), (r0, 13, 9, .ref cache_3)] [] [(jFl, jLs dC dI ca G0 3 none)] H_62 locs_62 := (((hh_52.call hb_621 hb_622 hb_623 hb_624 hS_62 rfl (L1 := [(r0, 13, 9, .ref cache_3)]) [1] rfl rfl (M1 := []) [] rfl rfl (I1 := []) [] rfl rfl).more hb_625)).addIs hbE_62
              clear hh_52 ht_62 hvm_62 hz_62 hk_62 hS_62 hb_621 hb_622 hb_623 hb_624 hb_625
              clear  hbE_62
              obtain ⟨hr_63, hr_63p⟩ := hr_63
              obtain ⟨ret_64, rfl, hg_ret_64⟩ := hr_63
              refine lv_pop hx hb dX11_remember_92 rfl ?_
              refine lv_aload_n hx hb dX11_remember_93 rfl (lv_at hl 0 rfl) ?_
              refine j7_read hx hb hown hK (C := RX11) (T := TX11) (N := 19) rfl hly_13_9 hlk_68 (hh_62.at 1 rfl) dX11_remember_94 ?_
              refine lv_aload_n hx hb dX11_remember_97 rfl (lv_at hl 1 rfl) ?_
              have hsz_65 := hh_62.2.2.2.2.2.1
              have htt_65 := hh_62.2.2.2.2.2.2.1
              refine W.room (fun hrc_65 hrs_65 => ?_)
              refine va_callFi (A0 := jA base) (H0 := s.heap) (va_runF (hK.1 1 _ rfl).2 (As := [.ref r1]) (rest := []) ⟨hx, hb, hml, hown, hts⟩ (uJx4a65c_add_9ea2dL3 l dC dI ca base B hB hAp hB1 hB11 hB223 G0 H_62 cache_3 r1 qz_62 LC LS) (va_cwF 1 hts (jgF (jWr_33 _ (List.mem_of_getElem? (i := 7) rfl)) (jWr_33 _ (List.mem_of_getElem? (i := 8) rfl)) (jWr_33 _ (List.mem_of_getElem? (i := 9) rfl)) (jWr_2 _ (List.mem_of_getElem? (i := 13) rfl)) (jWr_33 _ (List.mem_of_getElem? (i := 10) rfl))) rfl rfl rfl hK7.2.2.2.2.2.1.2.2.1 ⟨by decide, by decide, by decide +kernel⟩ ⟨by rw [← hR]; exact Nat.le_of_ble_eq_true rfl, by rw [← hR]; exact Nat.le_of_ble_eq_true rfl⟩) ⟨fun a U g mk q => by obtain ⟨q0, q1, q2, qK, q10, q11, q12, q13, q14, q15⟩ := q; exact ⟨q0, q1, q2, jG.calling g mk a qK, (jK7.calling g mk a q10), q11, q12, q13, q14, q15⟩, hh_62.recv (C := RJx4a65c) (T := TJx4a65c) (N := 3) hB1 rfl (by decide) hg_cache_3 hK, fun U hU hW => ⟨rfl, hU, hh_62.2.1, hG.step hW hU hh_62.1, (hK7.step hW hU hh_62.1), hg_cache_3, hg_r1, (hh_62.2.2.1.sub (L1 := [(cache_3, 1, 2, .int qz_62)]) [0] rfl), (hh_62.2.2.2.2.2.2.2.2.sub (L1 := [(jFl, jLs dC dI ca G0 3 none)]) [0] rfl), by first | omega | (refine ⟨?_, ?_⟩ <;> (first | omega | rfl | assumption | decide | exact Or.inl rfl | exact Or.inr rfl | (simp only; omega)))⟩⟩ rfl rfl hl.1 rfl (lv_room (Nat.le_of_ble_eq_true rfl)) dX11_remember_98 ⟨by rw [hRc]; omega, by rw [hRs]; omega⟩) hh_62.1 (fun q _ h => h) (fun q h => h) (fun r_66 u_65 t_65 H_65 locs_65 ht_65 hvm_65 hr_66 hb_65 hz_65 hk_65 hS_65 => ?_)
              obtain ⟨qz_65, G_65⟩ := u_65
              rw [ht_65] at hb_65
              simp only at hb_65
              obtain ⟨⟨hb_651, hb_652, hb_653, hb_654, hb_655, hb_656⟩, hN_65, hbE_65⟩ := hb_65
              have hh_65 : jSt (dC, dI) B base G0 G_65 EX11_remember s.heap (0 + (1)) (0 + (40)) [(cache_3, 1, 2, .int qz_65), (r0, 13, 9, .ref cache_3)] [] [] H_65 locs_65 := (hh_62.callG hb_651 hb_652 hb_653 hb_654 hb_655 hS_65 rfl (L1 := [(r0, 13, 9, .ref cache_3)]) [1] rfl rfl (M1 := []) [] rfl rfl (I1 := []) [] rfl rfl).more hb_656
              have hNn_65 : (jNk [0, 1, 2, 3, 4, 5, 6, 7, 8, 9, 10, 11, 12, 13, 14, 15, 16]) G0 G_65 := (jNk.rf).tr hN_65
              have hg_67 := hb_652 _ _ hg_r0
              have hg_68 := hb_652 _ _ hg_r1
              have hg_69 := hb_652 _ _ hg_cache_3
              have hh_70 := hh_65.addIs hbE_65
              obtain ⟨hr_66b, hr_66p⟩ := hr_66
              try simp only at hr_66p
              have hr_66' := jb_01 hr_66b
              refine lv_pop hx hb dX11_remember_103 rfl ?_
              have hsz_71 := hh_70.2.2.2.2.2.1
              have htt_71 := hh_70.2.2.2.2.2.2.1
              refine W.room (fun hrc_71 hrs_71 => ?_)
              refine W.widen (k := LC - s.heap.size) (n := LS - jTot s.heap) (by omega) (by omega) ?_
              rw [hQ]
              exact W.vret hx hb hr (fun t ht hW => ⟨⟨G_65, rfl, trivial, ⟨hh_70.ra (by first | omega | (simp only; omega)) (by first | omega | (simp only; omega)) (M1 := []) [] rfl ht, hNn_65, by rw [ht]; exact hh_70.2.2.2.2.2.2.2.2.sub (L1 := [(jFl, jLs dC dI ca G_65 3 none)]) [0] rfl⟩⟩, by rw [ht]; try exact hh_70.1.1, fun q h9 hq => by rw [ht]; try exact hh_70.1.2.1 q h9 hq⟩) hh_70.1.2.2 dX11_remember_104
          · skip
            have c_51' : v2_6.toInt < r_50.toInt := jb_ge_n (rfl) (rfl) c_51
            refine lv_aload_n hx hb dX11_remember_54 rfl (lv_at hl 0 rfl) ?_
            refine j7_read hx hb hown hK (C := RX11) (T := TX11) (N := 19) rfl hly_13_9 hlk_68 (hh_49.at 1 rfl) dX11_remember_55 ?_
            refine lv_iload_n hx hb dX11_remember_58 rfl (lv_at hl 2 rfl) ?_
            have hsz_72 := hh_49.2.2.2.2.2.1
            have htt_72 := hh_49.2.2.2.2.2.2.1
            refine W.room (fun hrc_72 hrs_72 => ?_)
            refine j_callFx (A0 := jA base) (H0 := s.heap) (va_runF (hK.1 1 _ rfl).2 (As := [.int v2_6]) (rest := []) ⟨hx, hb, hml, hown, hts⟩ (uJx4a65c_remove_915e3L3 l dC dI ca base B hB hAp hB1 hB11 hB223 G0 H_49 cache_3 v2_6 lz_4) (va_cwF 1 hts (jgF (jWr_42 _ (List.mem_of_getElem? (i := 7) rfl)) (jWr_42 _ (List.mem_of_getElem? (i := 8) rfl)) (jWr_42 _ (List.mem_of_getElem? (i := 9) rfl)) (jWr_2 _ (List.mem_of_getElem? (i := 13) rfl)) (jWr_42 _ (List.mem_of_getElem? (i := 10) rfl))) rfl rfl rfl hK7.2.2.2.2.2.1.2.2.2 ⟨by decide, by decide, by decide +kernel⟩ ⟨by rw [← hR]; exact Nat.le_of_ble_eq_true rfl, by rw [← hR]; exact Nat.le_of_ble_eq_true rfl⟩) ⟨fun a U g mk q => by obtain ⟨q0, q1, q2, qK, q10, q11, q12, q13, q14⟩ := q; exact ⟨q0, q1, q2, jG.calling g mk a qK, (jK7.calling g mk a q10), q11, q12, q13, q14⟩, hh_49.recv (C := RJx4a65c) (T := TJx4a65c) (N := 3) hB1 rfl (by decide) hg_cache_3 hK, fun U hU hW => ⟨rfl, hU, hh_49.2.1, hG.step hW hU hh_49.1, (hK7.step hW hU hh_49.1), hg_cache_3, (hh_49.2.2.1.sub (L1 := [(cache_3, 1, 2, .int lz_4)]) [0] rfl), (hh_49.2.2.2.2.2.2.2.2.sub (L1 := [(jFl, jLs dC dI ca G0 3 none)]) [0] rfl), by first | omega | (refine ⟨?_, ?_⟩ <;> (first | omega | rfl | assumption | decide | exact Or.inl rfl | exact Or.inr rfl | (simp only; omega)))⟩⟩ rfl rfl hl.1 rfl (lv_room (Nat.le_of_ble_eq_true rfl)) dX11_remember_59 ⟨by rw [hRc]; show _ + 0 ≤ _; omega, by rw [hRs]; show _ + 0 ≤ _; omega⟩) hh_49.1 (fun q _ h => h) (fun q h => h) (fun r_73 u_72 t_72 H_72 locs_72 ht_72 hvm_72 hr_73 hb_72 hz_72 hk_72 hS_72 => ?_)
            obtain ⟨qz_72, rfl⟩ : ∃ z, z = u_72 := ⟨_, rfl⟩
            rw [ht_72] at hb_72
            obtain ⟨hb_72, hbE_72⟩ := hb_72
            obtain ⟨hb_72, hbO_72⟩ := hb_72
            obtain ⟨hb_721, hb_722, hb_723, hb_724, hb_725⟩ := hb_72
            have hh_72 : jSt (dC, dI) B base G0 G0 EX11_remember s.heap 0 0 [(cache_3, 1, 2, .int qz_72), (r0, 13, 9, .ref cache_3)] [] [(jFl, jLs dC dI ca G0 3 none)] H_72 locs_72 := (((hh_49.call hb_721 hb_722 hb_723 hb_724 hS_72 rfl (L1 := [(r0, 13, 9, .ref cache_3)]) [1] rfl rfl (M1 := []) [] rfl rfl (I1 := []) [] rfl rfl).more hb_725)).addIs hbE_72
            clear hh_49 ht_72 hvm_72 hz_72 hk_72 hS_72 hb_721 hb_722 hb_723 hb_724 hb_725
            clear  hbE_72
            obtain ⟨hr_73, hr_73p⟩ := hr_73
            obtain ⟨ret_74, rfl, hg_ret_74⟩ := hr_73
            refine lv_pop hx hb dX11_remember_64 rfl ?_
            refine lv_goto (tgt := 93) hx hb dX11_remember_65 (by decide) ?_
            refine lv_aload_n hx hb dX11_remember_93 rfl (lv_at hl 0 rfl) ?_
            refine j7_read hx hb hown hK (C := RX11) (T := TX11) (N := 19) rfl hly_13_9 hlk_68 (hh_72.at 1 rfl) dX11_remember_94 ?_
            refine lv_aload_n hx hb dX11_remember_97 rfl (lv_at hl 1 rfl) ?_
            have hsz_75 := hh_72.2.2.2.2.2.1
            have htt_75 := hh_72.2.2.2.2.2.2.1
            refine W.room (fun hrc_75 hrs_75 => ?_)
            refine va_callFi (A0 := jA base) (H0 := s.heap) (va_runF (hK.1 1 _ rfl).2 (As := [.ref r1]) (rest := []) ⟨hx, hb, hml, hown, hts⟩ (uJx4a65c_add_9ea2dL3 l dC dI ca base B hB hAp hB1 hB11 hB223 G0 H_72 cache_3 r1 qz_72 LC LS) (va_cwF 1 hts (jgF (jWr_33 _ (List.mem_of_getElem? (i := 7) rfl)) (jWr_33 _ (List.mem_of_getElem? (i := 8) rfl)) (jWr_33 _ (List.mem_of_getElem? (i := 9) rfl)) (jWr_2 _ (List.mem_of_getElem? (i := 13) rfl)) (jWr_33 _ (List.mem_of_getElem? (i := 10) rfl))) rfl rfl rfl hK7.2.2.2.2.2.1.2.2.1 ⟨by decide, by decide, by decide +kernel⟩ ⟨by rw [← hR]; exact Nat.le_of_ble_eq_true rfl, by rw [← hR]; exact Nat.le_of_ble_eq_true rfl⟩) ⟨fun a U g mk q => by obtain ⟨q0, q1, q2, qK, q10, q11, q12, q13, q14, q15⟩ := q; exact ⟨q0, q1, q2, jG.calling g mk a qK, (jK7.calling g mk a q10), q11, q12, q13, q14, q15⟩, hh_72.recv (C := RJx4a65c) (T := TJx4a65c) (N := 3) hB1 rfl (by decide) hg_cache_3 hK, fun U hU hW => ⟨rfl, hU, hh_72.2.1, hG.step hW hU hh_72.1, (hK7.step hW hU hh_72.1), hg_cache_3, hg_r1, (hh_72.2.2.1.sub (L1 := [(cache_3, 1, 2, .int qz_72)]) [0] rfl), (hh_72.2.2.2.2.2.2.2.2.sub (L1 := [(jFl, jLs dC dI ca G0 3 none)]) [0] rfl), by first | omega | (refine ⟨?_, ?_⟩ <;> (first | omega | rfl | assumption | decide | exact Or.inl rfl | exact Or.inr rfl | (simp only; omega)))⟩⟩ rfl rfl hl.1 rfl (lv_room (Nat.le_of_ble_eq_true rfl)) dX11_remember_98 ⟨by rw [hRc]; omega, by rw [hRs]; omega⟩) hh_72.1 (fun q _ h => h) (fun q h => h) (fun r_76 u_75 t_75 H_75 locs_75 ht_75 hvm_75 hr_76 hb_75 hz_75 hk_75 hS_75 => ?_)
            obtain ⟨qz_75, G_75⟩ := u_75
            rw [ht_75] at hb_75
            simp only at hb_75
            obtain ⟨⟨hb_751, hb_752, hb_753, hb_754, hb_755, hb_756⟩, hN_75, hbE_75⟩ := hb_75
            have hh_75 : jSt (dC, dI) B base G0 G_75 EX11_remember s.heap (0 + (1)) (0 + (40)) [(cache_3, 1, 2, .int qz_75), (r0, 13, 9, .ref cache_3)] [] [] H_75 locs_75 := (hh_72.callG hb_751 hb_752 hb_753 hb_754 hb_755 hS_75 rfl (L1 := [(r0, 13, 9, .ref cache_3)]) [1] rfl rfl (M1 := []) [] rfl rfl (I1 := []) [] rfl rfl).more hb_756
            have hNn_75 : (jNk [0, 1, 2, 3, 4, 5, 6, 7, 8, 9, 10, 11, 12, 13, 14, 15, 16]) G0 G_75 := (jNk.rf).tr hN_75
            have hg_77 := hb_752 _ _ hg_r0
            have hg_78 := hb_752 _ _ hg_r1
            have hg_79 := hb_752 _ _ hg_cache_3
            have hh_80 := hh_75.addIs hbE_75
            obtain ⟨hr_76b, hr_76p⟩ := hr_76
            try simp only at hr_76p
            have hr_76' := jb_01 hr_76b
            refine lv_pop hx hb dX11_remember_103 rfl ?_
            have hsz_81 := hh_80.2.2.2.2.2.1
            have htt_81 := hh_80.2.2.2.2.2.2.1
            refine W.room (fun hrc_81 hrs_81 => ?_)
            refine W.widen (k := LC - s.heap.size) (n := LS - jTot s.heap) (by omega) (by omega) ?_
            rw [hQ]
            exact W.vret hx hb hr (fun t ht hW => ⟨⟨G_75, rfl, trivial, ⟨hh_80.ra (by first | omega | (simp only; omega)) (by first | omega | (simp only; omega)) (M1 := []) [] rfl ht, hNn_75, by rw [ht]; exact hh_80.2.2.2.2.2.2.2.2.sub (L1 := [(jFl, jLs dC dI ca G_75 3 none)]) [0] rfl⟩⟩, by rw [ht]; try exact hh_80.1.1, fun q h9 hq => by rw [ht]; try exact hh_80.1.2.1 q h9 hq⟩) hh_80.1.2.2 dX11_remember_104
        · skip
          have c_48' : r_47.toInt = 0 := jb_ne_n (rfl) ((by decide)) c_48
          obtain ⟨z_82, ez_82⟩ : ∃ y : Int32, y = v2_6 + 1 := ⟨_, rfl⟩
          refine lv_iinc (v := z_82) (lv' := [(2, .int z_82), (0, .ref r0), (1, .ref r1)]) hx hb dX11_remember_35 hl (k := 2) rfl (by rw [ez_82]; rfl) (by decide) rfl (fun ls hl => ?_)
          have hz_82 : z_82.toInt = v2_6.toInt + 1 := by rw [ez_82]; exact jb_iadd2 (rfl) (by decide) (by omega)
          refine lv_goto (tgt := 2) hx hb dX11_remember_38 (by decide) ?_
          refine W.tight (c2 := 0) (n2 := 0) hh_46.2.2.2.2.2.1 hh_46.2.2.2.2.2.2.1 ?_
          exact L2 z_82 _ _ hh_46 (by first | omega | (refine ⟨?_, ?_⟩ <;> (first | omega | rfl | assumption | decide | exact Or.inl rfl | exact Or.inr rfl | (simp only; omega)))) (by omega) _ (lv_sub hl [1, 2, 0] rfl)
  refine W.tight (c2 := 0) (n2 := 0) hh_5.2.2.2.2.2.1 hh_5.2.2.2.2.2.2.1 ?_
  exact L2 (41 - (0 : Int32).toInt : Int).toNat.succ 0 _ _ hh_5 (by first | omega | (refine ⟨?_, ?_⟩ <;> (first | omega | rfl | assumption | decide | exact Or.inl rfl | exact Or.inr rfl | (simp only; omega)))) (by omega) _ (lv_sub hl [1, 2, 0] rfl)
end
section
theorem dX11_answerReady_0 : decode cX11_answerReady 0 = .ok (.iconst 0, 1) := by decide +kernel
theorem dX11_answerReady_1 : decode cX11_answerReady 1 = .ok (.istore_n 1, 1) := by decide +kernel
theorem dX11_answerReady_2 : decode cX11_answerReady 2 = .ok (.iconst 0, 1) := by decide +kernel
theorem dX11_answerReady_3 : decode cX11_answerReady 3 = .ok (.istore_n 2, 1) := by decide +kernel
theorem dX11_answerReady_4 : decode cX11_answerReady 4 = .ok (.iload_n 2, 1) := by decide +kernel
theorem dX11_answerReady_5 : decode cX11_answerReady 5 = .ok (.bipush 12, 2) := by decide +kernel
theorem dX11_answerReady_7 : decode cX11_answerReady 7 = .ok (.if_icmp .ge 64, 3) := by decide +kernel
theorem dX11_answerReady_10 : decode cX11_answerReady 10 = .ok (.iload_n 1, 1) := by decide +kernel
theorem dX11_answerReady_11 : decode cX11_answerReady 11 = .ok (.aload_n 0, 1) := by decide +kernel
theorem dX11_answerReady_12 : decode cX11_answerReady 12 = .ok (.getfield 65, 3) := by decide +kernel
theorem dX11_answerReady_15 : decode cX11_answerReady 15 = .ok (.invokeinterface 142 1, 5) := by decide +kernel
theorem dX11_answerReady_20 : decode cX11_answerReady 20 = .ok (.if_icmp .ge 51, 3) := by decide +kernel
theorem dX11_answerReady_23 : decode cX11_answerReady 23 = .ok (.aload_n 0, 1) := by decide +kernel
theorem dX11_answerReady_24 : decode cX11_answerReady 24 = .ok (.getfield 65, 3) := by decide +kernel
theorem dX11_answerReady_27 : decode cX11_answerReady 27 = .ok (.iload_n 1, 1) := by decide +kernel
theorem dX11_answerReady_28 : decode cX11_answerReady 28 = .ok (.invokeinterface 249 2, 5) := by decide +kernel
theorem dX11_answerReady_33 : decode cX11_answerReady 33 = .ok (.checkcast 115, 3) := by decide +kernel
theorem dX11_answerReady_36 : decode cX11_answerReady 36 = .ok (.invokevirtual 453, 3) := by decide +kernel
theorem dX11_answerReady_39 : decode cX11_answerReady 39 = .ok (.ifCond .eq 23, 3) := by decide +kernel
theorem dX11_answerReady_42 : decode cX11_answerReady 42 = .ok (.aload_n 0, 1) := by decide +kernel
theorem dX11_answerReady_43 : decode cX11_answerReady 43 = .ok (.aload_n 0, 1) := by decide +kernel
theorem dX11_answerReady_44 : decode cX11_answerReady 44 = .ok (.getfield 65, 3) := by decide +kernel
theorem dX11_answerReady_47 : decode cX11_answerReady 47 = .ok (.iload_n 1, 1) := by decide +kernel
theorem dX11_answerReady_48 : decode cX11_answerReady 48 = .ok (.invokeinterface 423 2, 5) := by decide +kernel
theorem dX11_answerReady_53 : decode cX11_answerReady 53 = .ok (.checkcast 115, 3) := by decide +kernel
theorem dX11_answerReady_56 : decode cX11_answerReady 56 = .ok (.invokevirtual 456, 3) := by decide +kernel
theorem dX11_answerReady_59 : decode cX11_answerReady 59 = .ok (.goto 6, 3) := by decide +kernel
theorem dX11_answerReady_62 : decode cX11_answerReady 62 = .ok (.iinc 1 1, 3) := by decide +kernel
theorem dX11_answerReady_65 : decode cX11_answerReady 65 = .ok (.iinc 2 1, 3) := by decide +kernel
theorem dX11_answerReady_68 : decode cX11_answerReady 68 = .ok (.goto (-64), 3) := by decide +kernel
theorem dX11_answerReady_71 : decode cX11_answerReady 71 = .ok (.return_, 1) := by decide +kernel
def EX11_answerReady : List (Nat × Nat) := [(1, 0), (1, 2), (2, 0), (2, 1), (9, 2), (13, 14), (196, 0), (221, 0), (222, 0), (223, 0), (286, 0), (287, 0), (288, 0)]
set_option maxHeartbeats 4000000 in
set_option maxRecDepth 20000 in
theorem uX11_answerReady (l : Launch) (dC : Nat → ClassId) (dI : Nat → Nat → Nat) (ca : Nat → ClassId) (base : Nat) (B : jF) (hB : jBok B) (hAp : jAp (dC, dI)) (hB1 : ∀ n G a H, B 1 n G a H ↔ jOb (dC, dI) 1 3 (F1 n G) a H) (hB2 : ∀ n G a H, B 2 n G a H ↔ jOb (dC, dI) 2 2 (F2 n G) a H) (hB3 : ∀ n G a H, B 3 n G a H ↔ jOb (dC, dI) 3 17 (F3 n G) a H) (hB4 : ∀ n G a H, B 4 n G a H ↔ jOb (dC, dI) 4 12 (F4 n G) a H) (hB5 : ∀ n G a H, B 5 n G a H ↔ jOb (dC, dI) 5 4 (F5 n G) a H) (hB7 : ∀ n G a H, B 7 n G a H ↔ jOb (dC, dI) 7 11 (F7 n G) a H) (hB8 : ∀ n G a H, B 8 n G a H ↔ jOb (dC, dI) 8 4 (F8 n G) a H) (hB9 : ∀ n G a H, B 9 n G a H ↔ jOb (dC, dI) 9 5 (F9b n G) a H) (hB10 : ∀ n G a H, B 10 n G a H ↔ jOb (dC, dI) 10 5 (F10 n G) a H) (hB11 : ∀ n G a H, B 11 n G a H ↔ jOb (dC, dI) 11 9 (F11 n G) a H) (hB13 : ∀ n G a H, B 13 n G a H ↔ jOb (dC, dI) 13 19 (F13 n G) a H) (hB101 : ∀ n G a H, B 101 n G a H ↔ jAr (dC, dI) (ca 1) (fun j z => True) n a H) (hB102 : ∀ n G a H, B 102 n G a H ↔ jAl (dC, dI) (ca 2) n a H) (hB132 : ∀ n G a H, B 132 n G a H ↔ jAr (dC, dI) (ca 1) (fun j z => 0 ≤ z.toInt ∧ z.toInt ≤ 10) n a H) (hB196 : ∀ n G a H, B 196 n G a H ↔ jAr (dC, dI) (ca 0) (fun j z => jBf j z) n a H) (hB210 : ∀ n G a H, B 210 n G a H ↔ jAq (dC, dI) (ca 6) (jQn 11 0) n G a H) (hB214 : ∀ n G a H, B 214 n G a H ↔ jAq (dC, dI) (ca 7) (jQg) n G a H) (hB222 : ∀ n G a H, B 222 n G a H ↔ jAq (dC, dI) (ca 9) (jQn 10 0) n G a H) (hB280 : ∀ n G a H, B 280 n G a H ↔ jAr (dC, dI) (ca 1) (fun j z => -1 ≤ z.toInt) n a H) (hB286 : ∀ n G a H, B 286 n G a H ↔ jAr (dC, dI) (ca 1) (fun j z => (0 ≤ z.toInt ∨ z.toInt = -3)) n a H) (hB287 : ∀ n G a H, B 287 n G a H ↔ jAr (dC, dI) (ca 1) (fun j z => 0 ≤ z.toInt ∧ z.toInt ≤ 65535) n a H) (hB288 : ∀ n G a H, B 288 n G a H ↔ jAr (dC, dI) (ca 1) (fun j z => 0 ≤ z.toInt ∧ z.toInt ≤ 160) n a H) (hB313 : ∀ n G a H, B 313 n G a H ↔ jAq (dC, dI) (ca 8) (jQk 280 80) n G a H) (G0 : jT) (H0 : Heap) (r0 : Nat) (bo : Nat) (pc : Int32) (pa : Nat) (n_pa : Nat) (ou : Nat) (LC LS : Nat) : Met l yX11_answerReady (jw yX11_answerReady cX11_answerReady 3 none) ({ frames := 8, cells := LC - H0.size, slots := LS - jTot H0, locals := 241 }) (va_Pc [.ref r0] (fun U => U.heap = H0 ∧ jX B base G0 [] H0 ∧ jG dC dI ca base U ∧ jK2 dC dI ca U ∧ jK5 dC dI ca U ∧ jK7 dC dI ca base U ∧ G0 r0 = some (13, 0) ∧ G0 bo = some (2, 0) ∧ G0 pa = some (196, n_pa) ∧ G0 ou = some (2, 20000) ∧ jP (dC, dI) G0 H0 [(r0, 13, 4, .ref bo), (bo, 2, 1, .int pc), (bo, 2, 0, .ref pa), (r0, 13, 3, .ref ou)] ∧ jIs (dC, dI) G0 H0 [(jFy, jYb dC dI G0), (jFs11, jSef dC dI G0), (jFl, jLs dC dI ca G0 3 none)] ∧ H0.size + (1048576 - n_pa) / 16 + 1 ≤ LC ∧ jTot H0 + 2 * (1048576 - n_pa) ≤ LS ∧ 0 ≤ pc.toInt ∧ pc.toInt ≤ n_pa ∧ 16 ≤ n_pa ∧ n_pa ≤ 1048576 ∧ jPw n_pa)) (va_Qv (S := Int32 × Nat × Nat × jT) (fun u => 0 ≤ u.1.toInt ∧ u.1.toInt ≤ u.2.2.1 ∧ n_pa ≤ u.2.2.1 ∧ u.2.2.1 ≤ 1048576 ∧ jPw u.2.2.1) (fun u t => jRa (dC, dI) B base G0 u.2.2.2 EX11_answerReady H0 ((u.2.2.1 - n_pa) / 16) (2 * (u.2.2.1 - n_pa)) [(bo, 2, 1, .int u.1), (bo, 2, 0, .ref u.2.1)] t.heap ∧ u.2.2.2 u.2.1 = some (196, u.2.2.1) ∧ (jNk [0, 1, 2, 3, 4, 5, 6, 7, 8, 9, 10, 11, 12, 13, 14, 15, 16]) G0 u.2.2.2 ∧ jOl (dC, dI) G0 2 [bo, ou] H0 t.heap ∧ jIs (dC, dI) u.2.2.2 t.heap [(jFy, jYb dC dI u.2.2.2), (jFs11, jSef dC dI u.2.2.2), (jFl, jLs dC dI ca u.2.2.2 3 none)]) (jA base)) (LC - H0.size) (LS - jTot H0) (jA base) := by
  refine Met.ofW (cc := cX11_answerReady) (maxL := 3) (ret := none) (by decide) rfl ?_
  intro p e s m args below meth c s₁ Bd hml hv
  obtain ⟨rfl, hH0, hX, hG, hK2, hK5, hK7, hg_r0, hg_bo, hg_pa, hg_ou, hP0, hI0, hLC0, hLS0, hp0, hp1, hp2, hp3, hp4⟩ := hv
  have hK := hG.1
  have hx := Bd.exec
  have hb := Bd.bytes
  have hr := Bd.returns
  have hts := atoms_spec (ws := (jw yX11_answerReady cX11_answerReady 3 none)) Bd.pre
  have htw : ∀ w ∈ jWl, w.before _ s = true := fun w h => hts w (List.mem_cons_of_mem _ h)
  have hown : s.vm.findClass RX11 = some m.cls := findClass_of_methodNamed Bd.named
  have hlocks := Bd.notSynchronized
  obtain ⟨Q, hQ⟩ : ∃ Q, Q = MQ below (va_Qv (S := Int32 × Nat × Nat × jT) (fun u => 0 ≤ u.1.toInt ∧ u.1.toInt ≤ u.2.2.1 ∧ n_pa ≤ u.2.2.1 ∧ u.2.2.1 ≤ 1048576 ∧ jPw u.2.2.1) (fun u t => jRa (dC, dI) B base G0 u.2.2.2 EX11_answerReady H0 ((u.2.2.1 - n_pa) / 16) (2 * (u.2.2.1 - n_pa)) [(bo, 2, 1, .int u.1), (bo, 2, 0, .ref u.2.1)] t.heap ∧ u.2.2.2 u.2.1 = some (196, u.2.2.1) ∧ (jNk [0, 1, 2, 3, 4, 5, 6, 7, 8, 9, 10, 11, 12, 13, 14, 15, 16]) G0 u.2.2.2 ∧ jOl (dC, dI) G0 2 [bo, ou] H0 t.heap ∧ jIs (dC, dI) u.2.2.2 t.heap [(jFy, jYb dC dI u.2.2.2), (jFs11, jSef dC dI u.2.2.2), (jFl, jLs dC dI ca u.2.2.2 3 none)]) (jA base)) ([.ref r0] : List Value).toArray s (LC - H0.size) (LS - jTot H0) (jA base) := ⟨_, rfl⟩
  rw [← hQ]
  have hl := lv_entry ([.ref r0]) (n := 3) (Nat.le_of_ble_eq_true rfl)
  rw [lg_entry_eq]
  generalize (lg_sl ([.ref r0]) ++ List.replicate (3 - (lg_sl ([.ref r0])).length) Slot.unset).toArray = ls at hl ⊢
  have hl : lv_has ls 3 [(0, .ref r0)] := hl
  generalize hR : (headSpec (jw yX11_answerReady cX11_answerReady 3 none) ({ frames := 8, cells := LC - H0.size, slots := LS - jTot H0, locals := 241 })).room = R
  subst hH0
  have hh : jSt (dC, dI) B base G0 G0 EX11_answerReady s.heap 0 0 [(r0, 13, 4, .ref bo), (bo, 2, 1, .int pc), (bo, 2, 0, .ref pa), (r0, 13, 3, .ref ou)] [] [(jFy, jYb dC dI G0), (jFs11, jSef dC dI G0), (jFl, jLs dC dI ca G0 3 none)] s.heap [] := jSt.start hX hP0 jMc.nil hI0
  clear hX hP0
  have hk0 : (0 : Int32).toInt = 0 := by decide
  have hk1 : (1 : Int32).toInt = 1 := by decide
  have hk12 : (12 : Int32).toInt = 12 := by decide
  have hly_13_8 := htw (u_lay RX11 TX11 8) (jWc_wsX110 _ (u_in_lay (by decide)))
  have hlk_65 := (htw (.fieldLink RX11 65 "ProofServer" "waiting" "Ljava/util/List;") (jWr_2 _ (List.mem_of_getElem? (i := 15) rfl)))
  have hbs : base ≤ s.heap.size := Nat.le_of_lt (Nat.lt_of_le_of_lt (hh.ab hg_r0).1 (hh.ab hg_r0).2)
  have hRc : R.cells = LC - s.heap.size := by rw [← hR]; rfl
  have hRs : R.slots = LS - jTot s.heap := by rw [← hR]; rfl
  have hh_1 := hh.addI (jOl.ie (dC := dC) (dI := dI) (G0 := G0) (k := 2) (rs := [bo, ou]) (H0 := s.heap) (F := [(2, 0), (2, 1)]) (C := RX0) (T := TX0) (N := 2) rfl (by decide) hh.2.2.2.2.1 (jOl.rf))
  clear hh
  refine lv_iconst (v := 0) hx hb dX11_answerReady_0 (by decide) ?_
  refine lv_istore_n (lv' := [(1, .int 0), (0, .ref r0)]) hx hb dX11_answerReady_1 rfl hl (by decide) rfl (fun ls hl => ?_)
  refine lv_iconst (v := 0) hx hb dX11_answerReady_2 (by decide) ?_
  refine lv_istore_n (lv' := [(2, .int 0), (1, .int 0), (0, .ref r0)]) hx hb dX11_answerReady_3 rfl hl (by decide) rfl (fun ls hl => ?_)
  have L4 : ∀ (N : Nat) (Gx_2 : jT) (zcx_2 : Nat) (zsx_2 : Nat) (v1_2 : Int32) (v2_2 : Int32) (wc_2 : Int32) (wr_2 : Nat) (m_wr_2 : Nat) (H_2 : Heap) (locs_2 : List Loc), jSt (dC, dI) B base G0 Gx_2 EX11_answerReady s.heap zcx_2 zsx_2 [(bo, 2, 1, .int wc_2), (bo, 2, 0, .ref wr_2), (r0, 13, 4, .ref bo), (r0, 13, 3, .ref ou)] [] [([(2, 0), (2, 1)], jOl (dC, dI) G0 2 [bo, ou] s.heap), (jFy, jYb dC dI Gx_2), (jFs11, jSef dC dI Gx_2), (jFl, jLs dC dI ca Gx_2 3 none)] H_2 locs_2 → (jNk [0, 1, 2, 3, 4, 5, 6, 7, 8, 9, 10, 11, 12, 13, 14, 15, 16]) G0 Gx_2 → jLe G0 Gx_2 → Gx_2 wr_2 = some (196, m_wr_2) → (0 ≤ wc_2.toInt ∧ wc_2.toInt ≤ m_wr_2 ∧ n_pa ≤ m_wr_2 ∧ m_wr_2 ≤ 1048576 ∧ jPw m_wr_2 ∧ zcx_2 ≤ (m_wr_2 - n_pa) / 16 ∧ zsx_2 ≤ 2 * (m_wr_2 - n_pa) ∧ 0 ≤ v1_2.toInt ∧ v1_2.toInt ≤ v2_2.toInt ∧ v2_2.toInt ≤ 12) → (12 - v2_2.toInt : Int) < N → ∀ ls : Array Slot, lv_has ls 3 [(0, .ref r0), (1, .int v1_2), (2, .int v2_2)] → W p l e R s m ([.ref r0] : List Value).toArray below meth c H_2 locs_2 zcx_2 zsx_2 Q (F0 m 4 ls []) := by
    intro N
    induction N with
    | zero => intro Gx_2 zcx_2 zsx_2 v1_2 v2_2 wc_2 wr_2 m_wr_2 H_2 locs_2 hh_2 hN_2 hle_2 hg_wr_2 hi_2 hm; exact absurd hm (by omega)
    | succ N L4 =>
      intro Gx_2 zcx_2 zsx_2 v1_2 v2_2 wc_2 wr_2 m_wr_2 H_2 locs_2 hh_2 hN_2 hle_2 hg_wr_2 hi_2 hm_2 ls hl
      have hg_3 := hle_2 _ _ hg_r0
      have hg_4 := hle_2 _ _ hg_bo
      have hg_5 := hle_2 _ _ hg_ou
      obtain ⟨hi_2_0, hi_2_1, hi_2_2, hi_2_3, hi_2_4, hi_2_5, hi_2_6, hi_2_7, hi_2_8, hi_2_9⟩ := hi_2
      refine lv_iload_n hx hb dX11_answerReady_4 rfl (lv_at hl 2 rfl) ?_
      refine lv_bipush (v := 12) hx hb dX11_answerReady_5 (by decide) ?_
      refine lv_icmp_ge (tgt := 71) hx hb dX11_answerReady_7 (by decide) (fun c_6 => ?_) (fun c_6 => ?_)
      · skip
        have c_6' : v2_2.toInt ≥ 12 := jb_ge (rfl) ((by decide)) c_6
        have hsz_7 := hh_2.2.2.2.2.2.1
        have htt_7 := hh_2.2.2.2.2.2.2.1
        refine W.room (fun hrc_7 hrs_7 => ?_)
        refine W.widen (k := LC - s.heap.size) (n := LS - jTot s.heap) (by omega) (by omega) ?_
        rw [hQ]
        exact W.vret hx hb hr (fun t ht hW => ⟨⟨(wc_2, wr_2, m_wr_2, Gx_2), rfl, by (try dsimp only); exact ⟨(by first | omega | rfl | assumption | fail), (by first | omega | rfl | assumption | fail), (by first | omega | rfl | assumption | fail), (by first | omega | rfl | assumption | fail), (by first | assumption | fail | omega)⟩, ⟨hh_2.ra (by first | omega | (simp only; omega)) (by first | omega | (simp only; omega)) (M1 := [(bo, 2, 1, .int wc_2), (bo, 2, 0, .ref wr_2)]) [0, 1] rfl ht, hg_wr_2, hN_2, by rw [ht]; exact hh_2.iv 0 rfl, by rw [ht]; exact hh_2.2.2.2.2.2.2.2.2.sub (L1 := [(jFy, jYb dC dI Gx_2), (jFs11, jSef dC dI Gx_2), (jFl, jLs dC dI ca Gx_2 3 none)]) [1, 2, 3] rfl⟩⟩, by rw [ht]; try exact hh_2.1.1, fun q h9 hq => by rw [ht]; try exact hh_2.1.2.1 q h9 hq⟩) hh_2.1.2.2 dX11_answerReady_71
      · skip
        have c_6' : v2_2.toInt < 12 := jb_ge_n (rfl) ((by decide)) c_6
        refine lv_iload_n hx hb dX11_answerReady_10 rfl (lv_at hl 1 rfl) ?_
        refine lv_aload_n hx hb dX11_answerReady_11 rfl (lv_at hl 0 rfl) ?_
        obtain ⟨v_8, hv_8, hh_9⟩ := hh_2.pin (C := RX11) (T := TX11) (N := 19) hB13 rfl (by decide) hg_3 (i := 8) (by decide) rfl
        clear hh_2
        obtain ⟨waiting_10, rfl, hg_waiting_10⟩ := hv_8
        refine j7_read hx hb hown hK (C := RX11) (T := TX11) (N := 19) rfl hly_13_8 hlk_65 (hh_9.at 0 rfl) dX11_answerReady_12 ?_
        obtain ⟨v_13, hv_13, hh_14⟩ := hh_9.pin (C := RJx4a65c) (T := TJx4a65c) (N := 3) hB1 rfl (by decide) hg_waiting_10 (i := 2) (by decide) rfl
        obtain ⟨size_15, rfl, hlosize_15, hhisize_15⟩ := hv_13
        have hsz_11 := hh_14.2.2.2.2.2.1
        have htt_11 := hh_14.2.2.2.2.2.2.1
        refine W.room (fun hrc_11 hrs_11 => ?_)
        refine va_callFi (A0 := jA base) (H0 := s.heap) (va_runF (hK.1 1 _ rfl).2 (As := []) (rest := [.int v1_2]) ⟨hx, hb, hml, hown, hts⟩ (uJx4a65c_size_8abf5 l dC dI ca base B hB hAp hB1 Gx_2 H_2 waiting_10 2 size_15) (va_cwF 0 hts (jgF (jWr_27 _ (List.mem_of_getElem? (i := 22) rfl)) (jWr_27 _ (List.mem_of_getElem? (i := 23) rfl)) (jWr_28 _ (List.mem_of_getElem? (i := 0) rfl)) (jWr_2 _ (List.mem_of_getElem? (i := 13) rfl)) (jWr_28 _ (List.mem_of_getElem? (i := 1) rfl))) rfl rfl rfl hK7.2.2.2.2.2.1.1 ⟨by decide, by decide, by decide +kernel⟩ ⟨by rw [← hR]; exact Nat.le_of_ble_eq_true rfl, by rw [← hR]; exact Nat.le_of_ble_eq_true rfl⟩) ⟨fun a U g mk q => by obtain ⟨q0, q1, q2, qK, q10, q11, q12⟩ := q; exact ⟨q0, q1, q2, jG.calling g mk a qK, q10, q11, q12⟩, hh_14.recv (C := RJx4a65c) (T := TJx4a65c) (N := 3) hB1 rfl (by decide) hg_waiting_10 hK, fun U hU hW => ⟨rfl, hU, hh_14.2.1, hG.step hW hU hh_14.1, hg_waiting_10, (hh_14.2.2.1.sub (L1 := [(waiting_10, 1, 2, .int size_15)]) [0] rfl), trivial⟩⟩ rfl rfl hl.1 rfl (lv_room (Nat.le_of_ble_eq_true rfl)) dX11_answerReady_15 ⟨by rw [hRc]; show _ + 0 ≤ _; omega, by rw [hRs]; show _ + 0 ≤ _; omega⟩) hh_14.1 (fun q _ h => h) (fun q h => h) (fun r_12 u_11 t_11 H_11 locs_11 ht_11 hvm_11 hr_12 hb_11 hz_11 hk_11 hS_11 => ?_)
        rw [ht_11] at hb_11
        obtain ⟨hb_111, hb_112, hb_113, hb_114, hb_115⟩ := hb_11
        have hh_11 : jSt (dC, dI) B base G0 Gx_2 EX11_answerReady s.heap zcx_2 zsx_2 [(waiting_10, 1, 2, .int size_15), (r0, 13, 8, .ref waiting_10), (bo, 2, 1, .int wc_2), (bo, 2, 0, .ref wr_2), (r0, 13, 4, .ref bo), (r0, 13, 3, .ref ou)] [] [([(2, 0), (2, 1)], jOl (dC, dI) G0 2 [bo, ou] s.heap), (jFy, jYb dC dI Gx_2), (jFs11, jSef dC dI Gx_2), (jFl, jLs dC dI ca Gx_2 3 none)] H_11 locs_11 := ((hh_14.call hb_111 hb_112 hb_113 hb_114 hS_11 rfl (L1 := [(waiting_10, 1, 2, .int size_15), (r0, 13, 8, .ref waiting_10), (bo, 2, 1, .int wc_2), (bo, 2, 0, .ref wr_2), (r0, 13, 4, .ref bo), (r0, 13, 3, .ref ou)]) [0, 1, 2, 3, 4, 5] rfl rfl (M1 := []) [] rfl rfl (I1 := [([(2, 0), (2, 1)], jOl (dC, dI) G0 2 [bo, ou] s.heap), (jFy, jYb dC dI Gx_2), (jFs11, jSef dC dI Gx_2), (jFl, jLs dC dI ca Gx_2 3 none)]) [0, 1, 2, 3] rfl rfl).more hb_115)
        clear hh_14 ht_11 hvm_11 hz_11 hk_11 hS_11 hb_111 hb_112 hb_113 hb_114 hb_115
        refine lv_icmp_ge (tgt := 71) hx hb dX11_answerReady_20 (by decide) (fun c_16 => ?_) (fun c_16 => ?_)
        · skip
          have c_16' : v1_2.toInt ≥ r_12.toInt := jb_ge (rfl) (rfl) c_16
          have hsz_17 := hh_11.2.2.2.2.2.1
          have htt_17 := hh_11.2.2.2.2.2.2.1
          refine W.room (fun hrc_17 hrs_17 => ?_)
          refine W.widen (k := LC - s.heap.size) (n := LS - jTot s.heap) (by omega) (by omega) ?_
          rw [hQ]
          exact W.vret hx hb hr (fun t ht hW => ⟨⟨(wc_2, wr_2, m_wr_2, Gx_2), rfl, by (try dsimp only); exact ⟨(by first | omega | rfl | assumption | fail), (by first | omega | rfl | assumption | fail), (by first | omega | rfl | assumption | fail), (by first | omega | rfl | assumption | fail), (by first | assumption | fail | omega)⟩, ⟨hh_11.ra (by first | omega | (simp only; omega)) (by first | omega | (simp only; omega)) (M1 := [(bo, 2, 1, .int wc_2), (bo, 2, 0, .ref wr_2)]) [2, 3] rfl ht, hg_wr_2, hN_2, by rw [ht]; exact hh_11.iv 0 rfl, by rw [ht]; exact hh_11.2.2.2.2.2.2.2.2.sub (L1 := [(jFy, jYb dC dI Gx_2), (jFs11, jSef dC dI Gx_2), (jFl, jLs dC dI ca Gx_2 3 none)]) [1, 2, 3] rfl⟩⟩, by rw [ht]; try exact hh_11.1.1, fun q h9 hq => by rw [ht]; try exact hh_11.1.2.1 q h9 hq⟩) hh_11.1.2.2 dX11_answerReady_71
        · skip
          have c_16' : v1_2.toInt < r_12.toInt := jb_ge_n (rfl) (rfl) c_16
          refine lv_aload_n hx hb dX11_answerReady_23 rfl (lv_at hl 0 rfl) ?_
          refine j7_read hx hb hown hK (C := RX11) (T := TX11) (N := 19) rfl hly_13_8 hlk_65 (hh_11.at 1 rfl) dX11_answerReady_24 ?_
          refine lv_iload_n hx hb dX11_answerReady_27 rfl (lv_at hl 1 rfl) ?_
          have hsz_18 := hh_11.2.2.2.2.2.1
          have htt_18 := hh_11.2.2.2.2.2.2.1
          refine W.room (fun hrc_18 hrs_18 => ?_)
          refine j_callFx (A0 := jA base) (H0 := s.heap) (va_runF (hK.1 1 _ rfl).2 (As := [.int v1_2]) (rest := []) ⟨hx, hb, hml, hown, hts⟩ (uJx4a65c_get_915e3L2 l dC dI ca base B hB hAp hB1 hB10 hB222 Gx_2 H_11 waiting_10 v1_2 size_15) (va_cwF 1 hts (jgF (jWr_28 _ (List.mem_of_getElem? (i := 3) rfl)) (jWr_28 _ (List.mem_of_getElem? (i := 4) rfl)) (jWr_28 _ (List.mem_of_getElem? (i := 5) rfl)) (jWr_2 _ (List.mem_of_getElem? (i := 13) rfl)) (jWr_28 _ (List.mem_of_getElem? (i := 6) rfl))) rfl rfl rfl hK7.2.2.2.2.2.1.2.1 ⟨by decide, by decide, by decide +kernel⟩ ⟨by rw [← hR]; exact Nat.le_of_ble_eq_true rfl, by rw [← hR]; exact Nat.le_of_ble_eq_true rfl⟩) ⟨fun a U g mk q => by obtain ⟨q0, q1, q2, qK, q10, q11, q12, q13, q14⟩ := q; exact ⟨q0, q1, q2, jG.calling g mk a qK, (jK7.calling g mk a q10), q11, q12, q13, q14⟩, hh_11.recv (C := RJx4a65c) (T := TJx4a65c) (N := 3) hB1 rfl (by decide) hg_waiting_10 hK, fun U hU hW => ⟨rfl, hU, hh_11.2.1, hG.step hW hU hh_11.1, (hK7.step hW hU hh_11.1), hg_waiting_10, (hh_11.2.2.1.sub (L1 := [(waiting_10, 1, 2, .int size_15)]) [0] rfl), (hh_11.2.2.2.2.2.2.2.2.sub (L1 := [(jFl, jLs dC dI ca Gx_2 3 none)]) [3] rfl), ⟨(by first | omega | rfl | assumption | fail), (by first | omega | rfl | assumption | fail)⟩⟩⟩ rfl rfl hl.1 rfl (lv_room (Nat.le_of_ble_eq_true rfl)) dX11_answerReady_28 ⟨by rw [hRc]; show _ + 0 ≤ _; omega, by rw [hRs]; show _ + 0 ≤ _; omega⟩) hh_11.1 (fun q _ h => h) (fun q h => h) (fun r_19 u_18 t_18 H_18 locs_18 ht_18 hvm_18 hr_19 hb_18 hz_18 hk_18 hS_18 => ?_)
          rw [ht_18] at hb_18
          obtain ⟨hb_18, hbE_18⟩ := hb_18
          obtain ⟨hb_181, hb_182, hb_183, hb_184, hb_185⟩ := hb_18
          have hh_18 : jSt (dC, dI) B base G0 Gx_2 EX11_answerReady s.heap zcx_2 zsx_2 [(waiting_10, 1, 2, .int size_15), (r0, 13, 8, .ref waiting_10), (bo, 2, 1, .int wc_2), (bo, 2, 0, .ref wr_2), (r0, 13, 4, .ref bo), (r0, 13, 3, .ref ou)] [] [(jFl, jLs dC dI ca Gx_2 3 none), ([(2, 0), (2, 1)], jOl (dC, dI) G0 2 [bo, ou] s.heap), (jFy, jYb dC dI Gx_2), (jFs11, jSef dC dI Gx_2)] H_18 locs_18 := (((hh_11.call hb_181 hb_182 hb_183 hb_184 hS_18 rfl (L1 := [(waiting_10, 1, 2, .int size_15), (r0, 13, 8, .ref waiting_10), (bo, 2, 1, .int wc_2), (bo, 2, 0, .ref wr_2), (r0, 13, 4, .ref bo), (r0, 13, 3, .ref ou)]) [0, 1, 2, 3, 4, 5] rfl rfl (M1 := []) [] rfl rfl (I1 := [([(2, 0), (2, 1)], jOl (dC, dI) G0 2 [bo, ou] s.heap), (jFy, jYb dC dI Gx_2), (jFs11, jSef dC dI Gx_2)]) [0, 1, 2] rfl rfl).more hb_185)).addIs hbE_18
          clear hh_11 ht_18 hvm_18 hz_18 hk_18 hS_18 hb_181 hb_182 hb_183 hb_184 hb_185
          clear  hbE_18
          obtain ⟨ret_20, rfl, hg_ret_20⟩ := hr_19
          refine va_castY hx hb hown (htw (.classLink RX11 115 "ProofServer$Request") (jWr_42 _ (List.mem_of_getElem? (i := 5) rfl))) hK7.2.2.1.2.1.2 (hh_18.recv (C := RX8) (T := TX8) (N := 5) hB10 rfl (by decide) hg_ret_20 hK) dX11_answerReady_33 ?_
          have hsz_21 := hh_18.2.2.2.2.2.1
          have htt_21 := hh_18.2.2.2.2.2.2.1
          refine W.room (fun hrc_21 hrs_21 => ?_)
          refine va_calli (A0 := jA base) (H0 := s.heap) (va_runV (As := []) (rest := []) ⟨hx, hb, hml, hown, hts⟩ (uX8_isReady l dC dI ca base B hB hAp hB3 hB10 Gx_2 H_18 ret_20) (cwV 0 hts (jgV (jWr_29 _ (List.mem_of_getElem? (i := 19) rfl)) (jWr_29 _ (List.mem_of_getElem? (i := 20) rfl)) (jWr_29 _ (List.mem_of_getElem? (i := 21) rfl)) (jWr_19 _ (List.mem_of_getElem? (i := 5) rfl)) (jWr_29 _ (List.mem_of_getElem? (i := 22) rfl))) rfl rfl rfl (by decide +kernel) ⟨by rw [← hR]; exact Nat.le_of_ble_eq_true rfl, by rw [← hR]; exact Nat.le_of_ble_eq_true rfl⟩) ⟨fun a U g mk q => by obtain ⟨q0, q1, q2, qK, q10, q11, q12⟩ := q; exact ⟨q0, q1, q2, jG.calling g mk a qK, q10, q11, q12⟩, hh_18.recv (C := RX8) (T := TX8) (N := 5) hB10 rfl (by decide) hg_ret_20 hK, fun U hU hW => ⟨rfl, hU, hh_18.2.1, hG.step hW hU hh_18.1, hg_ret_20, jP.nil, trivial⟩⟩ rfl rfl hl.1 rfl (lv_room (Nat.le_of_ble_eq_true rfl)) dX11_answerReady_36 ⟨by rw [hRc]; show _ + 0 ≤ _; omega, by rw [hRs]; show _ + 0 ≤ _; omega⟩) hh_18.1 (fun q _ h => h) (fun q h => h) (fun r_22 u_21 t_21 H_21 locs_21 ht_21 hvm_21 hr_22 hb_21 hz_21 hk_21 hS_21 => ?_)
          rw [ht_21] at hb_21
          obtain ⟨hb_211, hb_212, hb_213, hb_214, hb_215⟩ := hb_21
          have hh_21 : jSt (dC, dI) B base G0 Gx_2 EX11_answerReady s.heap zcx_2 zsx_2 [(waiting_10, 1, 2, .int size_15), (r0, 13, 8, .ref waiting_10), (bo, 2, 1, .int wc_2), (bo, 2, 0, .ref wr_2), (r0, 13, 4, .ref bo), (r0, 13, 3, .ref ou)] [] [(jFl, jLs dC dI ca Gx_2 3 none), ([(2, 0), (2, 1)], jOl (dC, dI) G0 2 [bo, ou] s.heap), (jFy, jYb dC dI Gx_2), (jFs11, jSef dC dI Gx_2)] H_21 locs_21 := ((hh_18.call hb_211 hb_212 hb_213 hb_214 hS_21 rfl (L1 := [(waiting_10, 1, 2, .int size_15), (r0, 13, 8, .ref waiting_10), (bo, 2, 1, .int wc_2), (bo, 2, 0, .ref wr_2), (r0, 13, 4, .ref bo), (r0, 13, 3, .ref ou)]) [0, 1, 2, 3, 4, 5] rfl rfl (M1 := []) [] rfl rfl (I1 := [(jFl, jLs dC dI ca Gx_2 3 none), ([(2, 0), (2, 1)], jOl (dC, dI) G0 2 [bo, ou] s.heap), (jFy, jYb dC dI Gx_2), (jFs11, jSef dC dI Gx_2)]) [0, 1, 2, 3] rfl rfl).more hb_215)
          clear hh_18 ht_21 hvm_21 hz_21 hk_21 hS_21 hb_211 hb_212 hb_213 hb_214 hb_215
          obtain ⟨hr_22b, hr_22p⟩ := hr_22
          have hr_22' := jb_01 hr_22b
          refine lv_if_eq (tgt := 62) hx hb dX11_answerReady_39 (by decide) (fun c_23 => ?_) (fun c_23 => ?_)
          · skip
            have c_23' : r_22.toInt = 0 := jb_eq (rfl) ((by decide)) c_23
            obtain ⟨z_24, ez_24⟩ : ∃ y : Int32, y = v1_2 + 1 := ⟨_, rfl⟩
            refine lv_iinc (v := z_24) (lv' := [(1, .int z_24), (0, .ref r0), (2, .int v2_2)]) hx hb dX11_answerReady_62 hl (k := 1) rfl (by rw [ez_24]; rfl) (by decide) rfl (fun ls hl => ?_)
            have hz_24 : z_24.toInt = v1_2.toInt + 1 := by rw [ez_24]; exact jb_iadd2 (rfl) (by decide) (by omega)
            obtain ⟨z_25, ez_25⟩ : ∃ y : Int32, y = v2_2 + 1 := ⟨_, rfl⟩
            refine lv_iinc (v := z_25) (lv' := [(2, .int z_25), (1, .int z_24), (0, .ref r0)]) hx hb dX11_answerReady_65 hl (k := 2) rfl (by rw [ez_25]; rfl) (by decide) rfl (fun ls hl => ?_)
            have hz_25 : z_25.toInt = v2_2.toInt + 1 := by rw [ez_25]; exact jb_iadd2 (rfl) (by decide) (by omega)
            refine lv_goto (tgt := 4) hx hb dX11_answerReady_68 (by decide) ?_
            refine W.tight (c2 := zcx_2) (n2 := zsx_2) hh_21.2.2.2.2.2.1 hh_21.2.2.2.2.2.2.1 ?_
            exact L4 Gx_2 zcx_2 zsx_2 z_24 z_25 wc_2 wr_2 m_wr_2 _ _ (hh_21.sub (L1 := [(bo, 2, 1, .int wc_2), (bo, 2, 0, .ref wr_2), (r0, 13, 4, .ref bo), (r0, 13, 3, .ref ou)]) [2, 3, 4, 5] rfl (M1 := []) [] rfl (I1 := [([(2, 0), (2, 1)], jOl (dC, dI) G0 2 [bo, ou] s.heap), (jFy, jYb dC dI Gx_2), (jFs11, jSef dC dI Gx_2), (jFl, jLs dC dI ca Gx_2 3 none)]) [1, 2, 3, 0] rfl) (hN_2) (hle_2) hg_wr_2 (⟨(by first | omega | rfl | assumption | fail), (by first | omega | rfl | assumption | fail), (by first | omega | rfl | assumption | fail), (by first | omega | rfl | assumption | fail), (by first | assumption | fail | omega), (by first | omega | rfl | assumption | fail), (by first | omega | rfl | assumption | fail), (by first | omega | rfl | assumption | fail), (by first | omega | rfl | assumption | fail), (by first | omega | rfl | assumption | fail)⟩) (by omega) _ (lv_sub hl [2, 1, 0] rfl)
          · skip
            have c_23' : r_22.toInt ≠ 0 := jb_eq_n (rfl) ((by decide)) c_23
            refine lv_aload_n hx hb dX11_answerReady_42 rfl (lv_at hl 0 rfl) ?_
            refine lv_aload_n hx hb dX11_answerReady_43 rfl (lv_at hl 0 rfl) ?_
            refine j7_read hx hb hown hK (C := RX11) (T := TX11) (N := 19) rfl hly_13_8 hlk_65 (hh_21.at 1 rfl) dX11_answerReady_44 ?_
            refine lv_iload_n hx hb dX11_answerReady_47 rfl (lv_at hl 1 rfl) ?_
            have hsz_26 := hh_21.2.2.2.2.2.1
            have htt_26 := hh_21.2.2.2.2.2.2.1
            refine W.room (fun hrc_26 hrs_26 => ?_)
            refine j_callFx (A0 := jA base) (H0 := s.heap) (va_runF (hK.1 1 _ rfl).2 (As := [.int v1_2]) (rest := [.ref r0]) ⟨hx, hb, hml, hown, hts⟩ (uJx4a65c_remove_915e3L2 l dC dI ca base B hB hAp hB1 hB10 hB222 Gx_2 H_21 waiting_10 v1_2 size_15) (va_cwF 1 hts (jgF (jWr_42 _ (List.mem_of_getElem? (i := 7) rfl)) (jWr_42 _ (List.mem_of_getElem? (i := 8) rfl)) (jWr_42 _ (List.mem_of_getElem? (i := 9) rfl)) (jWr_2 _ (List.mem_of_getElem? (i := 13) rfl)) (jWr_42 _ (List.mem_of_getElem? (i := 10) rfl))) rfl rfl rfl hK7.2.2.2.2.2.1.2.2.2 ⟨by decide, by decide, by decide +kernel⟩ ⟨by rw [← hR]; exact Nat.le_of_ble_eq_true rfl, by rw [← hR]; exact Nat.le_of_ble_eq_true rfl⟩) ⟨fun a U g mk q => by obtain ⟨q0, q1, q2, qK, q10, q11, q12, q13, q14⟩ := q; exact ⟨q0, q1, q2, jG.calling g mk a qK, (jK7.calling g mk a q10), q11, q12, q13, q14⟩, hh_21.recv (C := RJx4a65c) (T := TJx4a65c) (N := 3) hB1 rfl (by decide) hg_waiting_10 hK, fun U hU hW => ⟨rfl, hU, hh_21.2.1, hG.step hW hU hh_21.1, (hK7.step hW hU hh_21.1), hg_waiting_10, (hh_21.2.2.1.sub (L1 := [(waiting_10, 1, 2, .int size_15)]) [0] rfl), (hh_21.2.2.2.2.2.2.2.2.sub (L1 := [(jFl, jLs dC dI ca Gx_2 3 none)]) [0] rfl), ⟨(by first | omega | rfl | assumption | fail), (by first | omega | rfl | assumption | fail)⟩⟩⟩ rfl rfl hl.1 rfl (lv_room (Nat.le_of_ble_eq_true rfl)) dX11_answerReady_48 ⟨by rw [hRc]; show _ + 0 ≤ _; omega, by rw [hRs]; show _ + 0 ≤ _; omega⟩) hh_21.1 (fun q _ h => h) (fun q h => h) (fun r_27 u_26 t_26 H_26 locs_26 ht_26 hvm_26 hr_27 hb_26 hz_26 hk_26 hS_26 => ?_)
            obtain ⟨qz_26, rfl⟩ : ∃ z, z = u_26 := ⟨_, rfl⟩
            rw [ht_26] at hb_26
            obtain ⟨hb_26, hbE_26⟩ := hb_26
            obtain ⟨hb_26, hbO_26⟩ := hb_26
            obtain ⟨hb_261, hb_262, hb_263, hb_264, hb_265⟩ := hb_26
            have hh_26 : jSt (dC, dI) B base G0 Gx_2 EX11_answerReady s.heap zcx_2 zsx_2 [(waiting_10, 1, 2, .int qz_26), (r0, 13, 8, .ref waiting_10), (bo, 2, 1, .int wc_2), (bo, 2, 0, .ref wr_2), (r0, 13, 4, .ref bo), (r0, 13, 3, .ref ou)] [] [(jFl, jLs dC dI ca Gx_2 3 none), ([(2, 0), (2, 1)], jOl (dC, dI) G0 2 [bo, ou] s.heap), (jFy, jYb dC dI Gx_2), (jFs11, jSef dC dI Gx_2)] H_26 locs_26 := (((hh_21.call hb_261 hb_262 hb_263 hb_264 hS_26 rfl (L1 := [(r0, 13, 8, .ref waiting_10), (bo, 2, 1, .int wc_2), (bo, 2, 0, .ref wr_2), (r0, 13, 4, .ref bo), (r0, 13, 3, .ref ou)]) [1, 2, 3, 4, 5] rfl rfl (M1 := []) [] rfl rfl (I1 := [([(2, 0), (2, 1)], jOl (dC, dI) G0 2 [bo, ou] s.heap), (jFy, jYb dC dI Gx_2), (jFs11, jSef dC dI Gx_2)]) [1, 2, 3] rfl rfl).more hb_265)).addIs hbE_26
            clear hh_21 ht_26 hvm_26 hz_26 hk_26 hS_26 hb_261 hb_262 hb_263 hb_264 hb_265
            clear  hbE_26
            obtain ⟨hr_27, hr_27p⟩ := hr_27
            obtain ⟨ret_28, rfl, hg_ret_28⟩ := hr_27
            refine va_castY hx hb hown (htw (.classLink RX11 115 "ProofServer$Request") (jWr_42 _ (List.mem_of_getElem? (i := 5) rfl))) hK7.2.2.1.2.1.2 (hh_26.recv (C := RX8) (T := TX8) (N := 5) hB10 rfl (by decide) hg_ret_28 hK) dX11_answerReady_53 ?_
            have hsz_29 := hh_26.2.2.2.2.2.1
            have htt_29 := hh_26.2.2.2.2.2.2.1
            refine W.room (fun hrc_29 hrs_29 => ?_)
            refine va_callv (A0 := jA base) (H0 := s.heap) (va_runV (As := [.ref ret_28]) (rest := []) ⟨hx, hb, hml, hown, hts⟩ (uX11_reply l dC dI ca base B hB hAp hB2 hB3 hB4 hB5 hB7 hB8 hB9 hB10 hB11 hB13 hB101 hB102 hB132 hB196 hB210 hB214 hB280 hB286 hB287 hB288 hB313 Gx_2 H_26 r0 ret_28 bo wc_2 wr_2 m_wr_2 ou LC LS) (cwV 1 hts (jgV (jWr_30 _ (List.mem_of_getElem? (i := 2) rfl)) (jWr_30 _ (List.mem_of_getElem? (i := 3) rfl)) (jWr_30 _ (List.mem_of_getElem? (i := 4) rfl)) (jWr_1 _ (List.mem_of_getElem? (i := 2) rfl)) (jWr_30 _ (List.mem_of_getElem? (i := 5) rfl))) rfl rfl rfl (by decide +kernel) ⟨by rw [← hR]; exact Nat.le_of_ble_eq_true rfl, by rw [← hR]; exact Nat.le_of_ble_eq_true rfl⟩) ⟨fun a U g mk q => by obtain ⟨q0, q1, q2, qK, q10, q11, q12, q13, q14, q15, q16, q17, q18, q19⟩ := q; exact ⟨q0, q1, q2, jG.calling g mk a qK, (va_K.moved (Vm.Alike.refl U.vm) q10), (jK5.moved (Vm.Alike.refl U.vm) q11), q12, q13, q14, q15, q16, q17, q18, q19⟩, hh_26.recv (C := RX11) (T := TX11) (N := 19) hB13 rfl (by decide) hg_3 hK, fun U hU hW => ⟨rfl, hU, hh_26.2.1, hG.step hW hU hh_26.1, va_K.moved hW.alike hK2, jK5.moved hW.alike hK5, hg_3, hg_ret_28, hg_4, hg_wr_2, hg_5, (hh_26.2.2.1.sub (L1 := [(r0, 13, 4, .ref bo), (bo, 2, 1, .int wc_2), (bo, 2, 0, .ref wr_2), (r0, 13, 3, .ref ou)]) [4, 2, 3, 5] rfl), (hh_26.2.2.2.2.2.2.2.2.sub (L1 := [(jFy, jYb dC dI Gx_2), (jFs11, jSef dC dI Gx_2)]) [2, 3] rfl), (by omega), (by omega), ⟨(by first | omega | rfl | assumption | fail), (by first | omega | rfl | assumption | fail), (by first | omega | rfl | assumption | fail), (by first | omega | rfl | assumption | fail), (by first | assumption | fail | omega)⟩⟩⟩ rfl rfl hl.1 rfl (lv_room (Nat.le_of_ble_eq_true rfl)) dX11_answerReady_56 ⟨by rw [hRc]; omega, by rw [hRs]; omega⟩) hh_26.1 (fun q _ h => h) (fun q h => h) (fun u_29 t_29 H_29 locs_29 ht_29 hvm_29 hr_30 hb_29 hz_29 hk_29 hS_29 => ?_)
            obtain ⟨qc_29, qa_29, m_qa_29, G_29⟩ := u_29
            rw [ht_29] at hb_29
            simp only at hb_29
            obtain ⟨⟨hb_291, hb_292, hb_293, hb_294, hb_295, hb_296⟩, hgq_29_0, hN_29, hbO_29, hbE_29⟩ := hb_29
            have hh_29 : jSt (dC, dI) B base G0 G_29 EX11_answerReady s.heap (zcx_2 + ((m_qa_29 - m_wr_2) / 16)) (zsx_2 + (2 * (m_qa_29 - m_wr_2))) [(bo, 2, 1, .int qc_29), (bo, 2, 0, .ref qa_29), (waiting_10, 1, 2, .int qz_26), (r0, 13, 8, .ref waiting_10), (r0, 13, 4, .ref bo), (r0, 13, 3, .ref ou)] [] [(jFl, jLs dC dI ca Gx_2 3 none)] H_29 locs_29 := (hh_26.callG hb_291 hb_292 hb_293 hb_294 hb_295 hS_29 rfl (L1 := [(waiting_10, 1, 2, .int qz_26), (r0, 13, 8, .ref waiting_10), (r0, 13, 4, .ref bo), (r0, 13, 3, .ref ou)]) [0, 1, 4, 5] rfl rfl (M1 := []) [] rfl rfl (I1 := [(jFl, jLs dC dI ca Gx_2 3 none)]) [0] rfl rfl).more hb_296
            have hNn_29 : (jNk [0, 1, 2, 3, 4, 5, 6, 7, 8, 9, 10, 11, 12, 13, 14, 15, 16]) G0 G_29 := (hN_2).tr hN_29
            have hg_31 := hb_292 _ _ hg_3
            have hg_32 := hb_292 _ _ hg_waiting_10
            have hg_33 := hb_292 _ _ hg_4
            have hg_34 := hb_292 _ _ hg_5
            have hd_35 := jLs.grow (hh_29.iv 0 rfl) hb_292 hN_29 (by decide)
            have hh_36 := hh_29.sub (L1 := [(bo, 2, 1, .int qc_29), (bo, 2, 0, .ref qa_29), (waiting_10, 1, 2, .int qz_26), (r0, 13, 8, .ref waiting_10), (r0, 13, 4, .ref bo), (r0, 13, 3, .ref ou)]) [0, 1, 2, 3, 4, 5] rfl (M1 := []) [] rfl (I1 := []) [] rfl
            clear hh_29
            have hh_37 := hh_36.addI (jLs.ie hd_35)
            clear hh_36
            have hh_38 := hh_37.addIs hbE_29
            have hd_39 := jOl.trL (hh_26.iv 1 rfl) hh_26.2.2.2.2.1 hbO_29 (by simp)
            have hh_40 := hh_38.addI (jOl.ie (dC := dC) (dI := dI) (G0 := G0) (k := 2) (rs := [bo, ou]) (H0 := s.heap) (F := [(2, 0), (2, 1)]) (C := RX0) (T := TX0) (N := 2) rfl (by decide) hh_38.2.2.2.2.1 (hd_39))
            clear hh_38
            try simp only at hr_30
            obtain ⟨hr_30_0, hr_30_1, hr_30_2, hr_30_3, hr_30_4⟩ := hr_30
            have hh_41 := hh_40.wk (zc1 := (m_qa_29 - n_pa) / 16) (zs1 := 2 * (m_qa_29 - n_pa)) (by omega) (by omega)
            clear hh_40
            try clear hsz_29 htt_29 hrc_29 hrs_29
            try clear hb_294 hb_295
            refine lv_goto (tgt := 65) hx hb dX11_answerReady_59 (by decide) ?_
            obtain ⟨z_42, ez_42⟩ : ∃ y : Int32, y = v2_2 + 1 := ⟨_, rfl⟩
            refine lv_iinc (v := z_42) (lv' := [(2, .int z_42), (0, .ref r0), (1, .int v1_2)]) hx hb dX11_answerReady_65 hl (k := 2) rfl (by rw [ez_42]; rfl) (by decide) rfl (fun ls hl => ?_)
            have hz_42 : z_42.toInt = v2_2.toInt + 1 := by rw [ez_42]; exact jb_iadd2 (rfl) (by decide) (by omega)
            refine lv_goto (tgt := 4) hx hb dX11_answerReady_68 (by decide) ?_
            refine W.tight (c2 := ((m_qa_29 - n_pa) / 16)) (n2 := (2 * (m_qa_29 - n_pa))) hh_41.2.2.2.2.2.1 hh_41.2.2.2.2.2.2.1 ?_
            exact L4 G_29 ((m_qa_29 - n_pa) / 16) (2 * (m_qa_29 - n_pa)) v1_2 z_42 qc_29 qa_29 m_qa_29 _ _ (hh_41.sub (L1 := [(bo, 2, 1, .int qc_29), (bo, 2, 0, .ref qa_29), (r0, 13, 4, .ref bo), (r0, 13, 3, .ref ou)]) [0, 1, 4, 5] rfl (M1 := []) [] rfl (I1 := [([(2, 0), (2, 1)], jOl (dC, dI) G0 2 [bo, ou] s.heap), (jFy, jYb dC dI G_29), (jFs11, jSef dC dI G_29), (jFl, jLs dC dI ca G_29 3 none)]) [0, 1, 2, 3] rfl) (hNn_29) ((hle_2).tr hb_292) hgq_29_0 (⟨(by first | omega | rfl | assumption | fail), (by first | omega | rfl | assumption | fail), (by first | omega | rfl | assumption | fail), (by first | omega | rfl | assumption | fail), (by first | assumption | fail | omega), (by first | omega | rfl | assumption | fail), (by first | omega | rfl | assumption | fail), (by first | omega | rfl | assumption | fail), (by first | omega | rfl | assumption | fail), (by first | omega | rfl | assumption | fail)⟩) (by omega) _ (lv_sub hl [1, 2, 0] rfl)
  refine W.tight (c2 := 0) (n2 := 0) hh_1.2.2.2.2.2.1 hh_1.2.2.2.2.2.2.1 ?_
  exact L4 (12 - (0 : Int32).toInt : Int).toNat.succ G0 0 0 0 0 pc pa n_pa _ _ (hh_1.sub (L1 := [(bo, 2, 1, .int pc), (bo, 2, 0, .ref pa), (r0, 13, 4, .ref bo), (r0, 13, 3, .ref ou)]) [1, 2, 0, 3] rfl (M1 := []) [] rfl (I1 := [([(2, 0), (2, 1)], jOl (dC, dI) G0 2 [bo, ou] s.heap), (jFy, jYb dC dI G0), (jFs11, jSef dC dI G0), (jFl, jLs dC dI ca G0 3 none)]) [0, 1, 2, 3] rfl) (jNk.rf) (jLe.rf) hg_pa (⟨(by first | omega | rfl | assumption | fail), (by first | omega | rfl | assumption | fail), (by first | omega | rfl | assumption | fail), (by first | omega | rfl | assumption | fail), (by first | assumption | fail | omega), (by first | omega | rfl | assumption | fail), (by first | omega | rfl | assumption | fail), (by first | omega | rfl | assumption | fail), (by first | omega | rfl | assumption | fail), (by first | omega | rfl | assumption | fail)⟩) (by omega) _ (lv_sub hl [2, 1, 0] rfl)
end
section
-- an array of ints is cloned
theorem jK8.warm {s U : State} (hW : s.WarmedH U.vm) (h : jK8 s) : jK8 U := va_Nw.warmC hW h
section J40
variable {p : Program} {l : Launch} {e : Env} {R : Room} {s : State} {m : MethodId} {args : Array Value} {below : List Frame} {meth : Method} {c : Code} {H : Heap} {locs : List Loc} {cells slots : Nat} {Q : State → Prop}
variable {cc : ByteArray} {pc : Nat} {ls : Array Slot} {rest : List Value} {dC : Nat → ClassId} {dI : Nat → Nat → Nat} {B : jF} {base : Nat} {G0 G : jT} {E : List (Nat × Nat)} {H0 : Heap} {zc zs : Nat} {L : List jPin} {M : List jCt} {I : List jIv} {a k n index : Nat} {tys : List (ClassId × FieldType)} {own : String}
theorem W.cloneI {D : va_G} {cl : List vw_C} {cA : ClassId} {f : Nat → Int32} (hexec : p.tables.exec = Jvm.exec) (hb : c.code = cc) (hml : c.maxLocals = ls.size) (hown : s.vm.findClass own = some m.cls)
    (hlink : (Cond.methodLink own index ⟨"[I", "clone", "()Ljava/lang/Object;"⟩).before args s = true) (hsame : (Cond.sameMethod "[I" "java/lang/Object" "clone" "()Ljava/lang/Object;").before args s = true)
    (hnat : (Cond.native ⟨"java/lang/Object", "clone", "()Ljava/lang/Object;"⟩).before args s = true) (hinst : (Cond.instanceMethod ⟨"java/lang/Object", "clone", "()Ljava/lang/Object;"⟩).before args s = true)
    (hsel : (Cond.selects "[I" ⟨"[I", "clone", "()Ljava/lang/Object;"⟩ ⟨"java/lang/Object", "clone", "()Ljava/lang/Object;"⟩).before args s = true) (hK8 : jK8 s)
    (hK : va_K D cl tys s) (t0 : Nat) (ht : tys[t0]? = some (cA, .int)) (hat : H[a]? = some (vp_cell cA (n, .inl f)))
    (hframes : 1 ≤ R.frames) (hlocals : (rest.map fun v => v.category).sum + 14 ≤ R.locals) (hcells : cells + 1 ≤ R.cells) (hslots : slots + n ≤ R.slots) (hdg : decode cc pc = .ok (.invokevirtual index, 3))
    (kk : ∀ H1 : Heap, H1[H.size]? = some (vp_cell cA (n, .inl f)) → H1.size = H.size + 1 → (∀ q : Nat, q < H.size → H1[q]? = H[q]?) →
      W p l e R s m args below meth c H1 locs (cells + 1) (slots + n) Q (F0 m (pc + 3) ls (.ref H.size :: rest))) : W p l e R s m args below meth c H locs cells slots Q (F0 m pc ls (.ref a :: rest)) := by
  have hsz : (vp_cell cA (n, .inl f)).slots.size = n := arrV_size _ _ _
  have hvm0 : (vp_cell cA (n, .inl f)).vm = .none := rfl
  have hcl0 : (vp_cell cA (n, .inl f)).cls = cA := rfl
  have hcellE : ({ cls := (vp_cell cA (n, .inl f)).cls, slots := (vp_cell cA (n, .inl f)).slots } : Cell) = vp_cell cA (n, .inl f) := rfl
  have hnm := va_nm_int (hK.2 t0 _ ht).2
  obtain ⟨c0, t1, f1, f2, f3⟩ := Cond.castable_spec (va_Nw.use (A := args) rfl hK8)
  cases hnm.symm.trans f1
  intro T hT X
  have hcellT : T.heap[a]? = some (vp_cell cA (n, .inl f)) := by rw [hT]; exact hat
  obtain ⟨-, kA, hkA, comp, hkind⟩ := State.isArrayOf_alike X.warmed.alike ((hK.2 t0 _ ht).1 0 (fun _ => .null))
  obtain ⟨-, kS, hkS, compS, hkindS⟩ := (hK.2 t0 _ ht).1 0 (fun _ => .null)
  obtain ⟨vm', X', st⟩ := X.cloneArray hexec hown hlink hsame hnat hinst hsel (a := a) (cell := vp_cell cA (n, .inl f)) hcellT (fun k h => by rw [hvm0] at h; cases h) (by rw [hvm0]; exact fun h => by cases h) (by rw [hcl0]; exact hnm) f2 (by rw [hcl0]; exact f3)
    (fun i v hv => by
      rw [hcl0]
      have hk' : T.vm.classes[cA]? = some kA := hkA
      have hf0 : fits .int v = true := va_fit (ty := .int) (fun _ _ => rfl) i v hv
      simpa [State.fitsSlot, State.slotType?, hk', hkind] using hf0)
    (g := F0 m pc ls (.ref a :: rest)) rfl (by rw [hml]) rfl (by rw [hb]; exact hdg) hframes (by show 2 * 0 + _ + 14 ≤ _; omega) hcells (by rw [hsz]; exact hslots) (hloader := by rw [hcl0]; exact Vm.clonesLoader_of_array hkS hkindS)
  rw [hcellE, hsz] at X'
  generalize hH1 : H.push (vp_cell cA (n, .inl f)) = H1
  have z1 : H1.size = H.size + 1 := by rw [← hH1, Array.size_push]
  have e1 : H1[H.size]? = some (vp_cell cA (n, .inl f)) := by rw [← hH1, Array.getElem?_push_size]
  have o1 : ∀ q : Nat, q < H.size → H1[q]? = H[q]? := fun q hq => by rw [← hH1, Array.getElem?_push, if_neg (Nat.ne_of_lt hq)]
  obtain ⟨t, b1, b2⟩ := kk H1 e1 z1 o1 ((T.setVm vm').pushCell (vp_cell cA (n, .inl f))) (by rw [← hH1, ← hT]; rfl) X'
  refine ⟨t, st t ?_, b2⟩
  rw [hcellE, hT]
  exact b1
theorem j7_cloneK {P : Nat → Int32 → Prop} {cA : ClassId} (hexec : p.tables.exec = Jvm.exec) (hb : c.code = cc) (hml : c.maxLocals = ls.size) (hown : s.vm.findClass own = some m.cls)
    (hlink : (Cond.methodLink own index ⟨"[I", "clone", "()Ljava/lang/Object;"⟩).before args s = true) (hsame : (Cond.sameMethod "[I" "java/lang/Object" "clone" "()Ljava/lang/Object;").before args s = true)
    (hnat : (Cond.native ⟨"java/lang/Object", "clone", "()Ljava/lang/Object;"⟩).before args s = true) (hinst : (Cond.instanceMethod ⟨"java/lang/Object", "clone", "()Ljava/lang/Object;"⟩).before args s = true)
    (hsel : (Cond.selects "[I" ⟨"[I", "clone", "()Ljava/lang/Object;"⟩ ⟨"java/lang/Object", "clone", "()Ljava/lang/Object;"⟩).before args s = true) (hK8 : jK8 s)
    (hK : va_K (dC, dI) vwCl tys s) (hh : jSt (dC, dI) B base G0 G E s.heap zc zs L M I H locs) (hB : jBok B) (hBk : ∀ n G a H, B k n G a H ↔ jAr (dC, dI) cA P n a H) (t0 : Nat) (ht : tys[t0]? = some (cA, .int)) (hk : k < 1000) (hb0 : base ≤ s.heap.size) (ha : G a = some (k, n))
    (hframes : 1 ≤ R.frames) (hlocals : (rest.map fun v => v.category).sum + 14 ≤ R.locals) (hR : zc + 1 ≤ R.cells) (hR2 : zs + n ≤ R.slots) (hdg : decode cc pc = .ok (.invokevirtual index, 3))
    (kk : ∀ (H1 : Heap), (∀ q, q < H.size → H1[q]? = H[q]?) → jSt (dC, dI) B base G0 (va_up G H.size (some (k, n))) E s.heap (zc + 1) (zs + n) L M I H1 locs → W p l e R s m args below meth c H1 locs (zc + 1) (zs + n) Q (F0 m (pc + 3) ls (.ref H.size :: rest))) : W p l e R s m args below meth c H locs cells slots Q (F0 m pc ls (.ref a :: rest)) := by
  obtain ⟨f, g1, g2⟩ := hh.ar hBk hk ha
  have hsz := hh.1.1
  refine W.tight (c2 := zc) (n2 := zs) hh.2.2.2.2.2.1 hh.2.2.2.2.2.2.1 ?_
  refine W.cloneI hexec hb hml hown hlink hsame hnat hinst hsel hK8 hK t0 ht g1 hframes hlocals hR hR2 hdg (fun H1 e1 z1 o1 => ?_)
  refine kk H1 o1 (hh.new hB (Nat.le_trans hb0 hsz) z1 o1 (by rw [jTot_push z1 e1 o1, show (vp_cell cA (n, .inl f)).slots.size = n from arrV_size _ _ _]) hk ((hBk _ _ _ _).mpr ⟨f, e1, g2⟩))
theorem j7_castI {P : Nat → Int32 → Prop} {cA : ClassId} (hexec : p.tables.exec = Jvm.exec) (hb : c.code = cc) (hown : s.vm.findClass own = some m.cls) (hlink : (Cond.classLink own index "[I").before args s = true) (hK : va_K (dC, dI) vwCl tys s) (hh : jSt (dC, dI) B base G0 G E H0 zc zs L M I H locs) (hBk : ∀ n G a H, B k n G a H ↔ jAr (dC, dI) cA P n a H) (t0 : Nat) (ht : tys[t0]? = some (cA, .int)) (hk : k < 1000) (ha : G a = some (k, n)) (hdg : decode cc pc = .ok (.checkcast index, 3))
    (kk : W p l e R s m args below meth c H locs cells slots Q (F0 m (pc + 3) ls (.ref a :: rest))) : W p l e R s m args below meth c H locs cells slots Q (F0 m pc ls (.ref a :: rest)) := by
  obtain ⟨f, g1, -⟩ := hh.ar hBk hk ha
  exact va_castA hexec hb hown hlink (jp_one g1) 0 rfl (va_nm_int (hK.2 t0 _ ht).2) hdg kk
end J40
end
section
def EJ7_copyOfRangeInt_feeccU : List (Nat × Nat) := [(101, 0)]
def EJ7_copyOfRange_feeccU : List (Nat × Nat) := [(101, 0)]
set_option maxHeartbeats 4000000 in
set_option maxRecDepth 20000 in
theorem uJ7_copyOfRangeInt_feeccU (l : Launch) (dC : Nat → ClassId) (dI : Nat → Nat → Nat) (ca : Nat → ClassId) (base : Nat) (B : jF) (hB : jBok B) (hAp : jAp (dC, dI)) (hB101 : ∀ n G a H, B 101 n G a H ↔ jAr (dC, dI) (ca 1) (fun j z => True) n a H) (G0 : jT) (H0 : Heap) (r0 : Nat) (a1 : Int32) (a2 : Int32) (n0 : Nat) (LC LS : Nat) : Met l yJ7_copyOfRangeInt_feecc (jw yJ7_copyOfRangeInt_feecc cJ7_copyOfRangeInt_feecc 5 (some (.array .int))) ({ frames := 1, cells := LC - H0.size, slots := LS - jTot H0, locals := 61 }) (va_Pc [.ref r0, .int a1, .int a2] (fun U => U.heap = H0 ∧ jX B base G0 [] H0 ∧ jG dC dI ca base U ∧ G0 r0 = some (101, n0) ∧ jP (dC, dI) G0 H0 [] ∧ H0.size + 1 ≤ LC ∧ jTot H0 + (a2.toInt - a1.toInt).toNat ≤ LS ∧ 0 ≤ a1.toInt ∧ a1.toInt ≤ a2.toInt ∧ a2.toInt ≤ n0 ∧ n0 ≤ 3000)) (jQx (S := Nat × jT) (fun v u => jRf u.2 101 u.1 v ∧ jNwv v H0 ∧ u.1 = a2.toInt - a1.toInt) (fun u t => jRa (dC, dI) B base G0 u.2 EJ7_copyOfRangeInt_feeccU H0 (1) (u.1) [] t.heap ∧ (jNk [0, 1, 2, 3, 4, 5, 6, 7, 8, 9, 10, 11, 12, 13, 14, 15, 16]) G0 u.2 ∧ jKe G0 u.2 H0 t.heap) (jA base)) (LC - H0.size) (LS - jTot H0) (jA base) := by
  refine Met.ofW (cc := cJ7_copyOfRangeInt_feecc) (maxL := 5) (ret := (some (.array .int))) (by decide) rfl ?_
  intro p e s m args below meth c s₁ Bd hml hv
  obtain ⟨rfl, hH0, hX, hG, hg_r0, hP0, hLC0, hLS0, hp0, hp1, hp2, hp3⟩ := hv
  have hK := hG.1
  have hx := Bd.exec
  have hb := Bd.bytes
  have hr := Bd.returns
  have hts := atoms_spec (ws := (jw yJ7_copyOfRangeInt_feecc cJ7_copyOfRangeInt_feecc 5 (some (.array .int)))) Bd.pre
  have htw : ∀ w ∈ jWl, w.before _ s = true := fun w h => hts w (List.mem_cons_of_mem _ h)
  have hown : s.vm.findClass RJ7 = some m.cls := findClass_of_methodNamed Bd.named
  have hlocks := Bd.notSynchronized
  obtain ⟨Q, hQ⟩ : ∃ Q, Q = MQ below (jQx (S := Nat × jT) (fun v u => jRf u.2 101 u.1 v ∧ jNwv v H0 ∧ u.1 = a2.toInt - a1.toInt) (fun u t => jRa (dC, dI) B base G0 u.2 EJ7_copyOfRangeInt_feeccU H0 (1) (u.1) [] t.heap ∧ (jNk [0, 1, 2, 3, 4, 5, 6, 7, 8, 9, 10, 11, 12, 13, 14, 15, 16]) G0 u.2 ∧ jKe G0 u.2 H0 t.heap) (jA base)) ([.ref r0, .int a1, .int a2] : List Value).toArray s (LC - H0.size) (LS - jTot H0) (jA base) := ⟨_, rfl⟩
  rw [← hQ]
  have hl := lv_entry ([.ref r0, .int a1, .int a2]) (n := 5) (Nat.le_of_ble_eq_true rfl)
  rw [lg_entry_eq]
  generalize (lg_sl ([.ref r0, .int a1, .int a2]) ++ List.replicate (5 - (lg_sl ([.ref r0, .int a1, .int a2])).length) Slot.unset).toArray = ls at hl ⊢
  have hl : lv_has ls 5 [(0, .ref r0), (1, .int a1), (2, .int a2)] := hl
  generalize hR : (headSpec (jw yJ7_copyOfRangeInt_feecc cJ7_copyOfRangeInt_feecc 5 (some (.array .int))) ({ frames := 1, cells := LC - H0.size, slots := LS - jTot H0, locals := 61 })).room = R
  subst hH0
  have hh : jSt (dC, dI) B base G0 G0 EJ7_copyOfRangeInt_feeccU s.heap 0 0 [] [] [] s.heap [] := jSt.start hX hP0 jMc.nil jIs.nil
  clear hX hP0
  have hk0 : (0 : Int32).toInt = 0 := by decide
  have hk1 : (1 : Int32).toInt = 1 := by decide
  have hrg_a1 := jb_rng a1
  have hrg_a2 := jb_rng a2
  have hbs : base ≤ s.heap.size := Nat.le_of_lt (Nat.lt_of_le_of_lt (hh.ab hg_r0).1 (hh.ab hg_r0).2)
  have hRc : R.cells = LC - s.heap.size := by rw [← hR]; rfl
  have hRs : R.slots = LS - jTot s.heap := by rw [← hR]; rfl
  have hkp : jKe G0 G0 s.heap s.heap := jKe.rf
  refine lv_iload_n hx hb dJ7_copyOfRangeInt_feecc_0 rfl (lv_at hl 1 rfl) ?_
  refine lv_iload_n hx hb dJ7_copyOfRangeInt_feecc_1 rfl (lv_at hl 2 rfl) ?_
  have hsz_1 := hh.2.2.2.2.2.1
  have htt_1 := hh.2.2.2.2.2.2.1
  refine W.room (fun hrc_1 hrs_1 => ?_)
  refine va_callv (A0 := jA base) (H0 := s.heap) (va_runS (As := [.int a1, .int a2]) (rest := []) ⟨hx, hb, hml, hown, hts⟩ (uJ7_checkLength_df160 l dC dI ca base B hB hAp G0 s.heap a1 a2) (va_cwS 2 hts (jgS (jWr_78 _ (List.mem_of_getElem? (i := 7) rfl)) (jWr_78 _ (List.mem_of_getElem? (i := 8) rfl)) (jWr_16 _ (List.mem_of_getElem? (i := 7) rfl)) (jWr_78 _ (List.mem_of_getElem? (i := 9) rfl))) rfl rfl rfl (by decide +kernel) ⟨by rw [← hR]; exact Nat.le_of_ble_eq_true rfl, by rw [← hR]; exact Nat.le_of_ble_eq_true rfl⟩) ⟨fun a U g mk q => by obtain ⟨q0, q1, q2, qK, q10, q11⟩ := q; exact ⟨q0, q1, q2, jG.calling g mk a qK, q10, q11⟩, fun U hU hW => ⟨rfl, hU, hh.2.1, hG.step hW hU hh.1, jP.nil, by first | omega | rfl | assumption | decide | exact Or.inl rfl | exact Or.inr rfl | (simp only; omega)⟩⟩ rfl rfl hl.1 rfl (lv_room (Nat.le_of_ble_eq_true rfl)) dJ7_copyOfRangeInt_feecc_2 ⟨by rw [hRc]; show _ + 0 ≤ _; omega, by rw [hRs]; show _ + 0 ≤ _; omega⟩) hh.1 (fun q _ h => h) (fun q h => h) (fun u_1 t_1 H_1 locs_1 ht_1 hvm_1 hr_2 hb_1 hz_1 hk_1 hS_1 => ?_)
  rw [ht_1] at hb_1
  obtain ⟨hb_1, hbF_1⟩ := hb_1
  obtain ⟨hb_11, hb_12, hb_13, hb_14, hb_15⟩ := hb_1
  have hh_1 : jSt (dC, dI) B base G0 G0 EJ7_copyOfRangeInt_feeccU s.heap 0 0 [] [] [] H_1 locs_1 := ((hh.call hb_11 hb_12 hb_13 hb_14 hS_1 rfl (L1 := []) [] rfl rfl (M1 := []) [] rfl rfl (I1 := []) [] rfl rfl).more hb_15)
  clear hh ht_1 hvm_1 hz_1 hk_1 hS_1 hb_11 hb_12 hb_13 hb_14 hb_15
  have hkp_3 := hkp.fl hbF_1 (by intro q h9; simp at h9)
  refine lv_iload_n hx hb dJ7_copyOfRangeInt_feecc_5 rfl (lv_at hl 2 rfl) ?_
  refine lv_iload_n hx hb dJ7_copyOfRangeInt_feecc_6 rfl (lv_at hl 1 rfl) ?_
  refine lv_isub hx hb dJ7_copyOfRangeInt_feecc_7 ?_
  refine lv_topi (fun z_4 ez_4 => ?_)
  have hz_4 : z_4.toInt = a2.toInt - a1.toInt := by rw [ez_4]; exact jb_isub2 (rfl) (rfl) (by omega)
  refine lv_istore_n (lv' := [(3, .int z_4), (0, .ref r0), (1, .int a1), (2, .int a2)]) hx hb dJ7_copyOfRangeInt_feecc_8 rfl hl (by decide) rfl (fun ls hl => ?_)
  refine lv_iload_n hx hb dJ7_copyOfRangeInt_feecc_9 rfl (lv_at hl 0 rfl) ?_
  have hsz_5 := hh_1.2.2.2.2.2.1
  have htt_5 := hh_1.2.2.2.2.2.2.1
  refine j7_newiK hx hb hK hh_1 hB (atype := .int) (ty := .int) (htw (.arrayClass .int) (jWr_3 _ (List.mem_of_getElem? (i := 20) rfl))) rfl rfl (fun _ h => h) hB101 1 rfl (by decide) (by decide) hbs (x := z_4.toInt) rfl (by omega) (fun j => by first | trivial | decide | rfl | exact Or.inl rfl | (refine ⟨?_, ?_⟩ <;> decide)) (by rw [hRc]; omega) (by rw [hRs]; omega) dJ7_copyOfRangeInt_feecc_10 (fun H_5 hfr_5 hh_5 => ?_)
  have hh_5 : jSt (dC, dI) B base G0 (va_up G0 H_1.size (some (101, (z_4.toInt).toNat))) EJ7_copyOfRangeInt_feeccU s.heap (0 + 1) (0 + (z_4.toInt).toNat) [] [] [] H_5 locs_1 := hh_5
  have hN_5 : (jNk [0, 1, 2, 3, 4, 5, 6, 7, 8, 9, 10, 11, 12, 13, 14, 15, 16]) G0 (va_up G0 H_1.size (some (101, (z_4.toInt).toNat))) := jNk.new (by decide)
  have hgn_5 : (va_up G0 H_1.size (some (101, (z_4.toInt).toNat))) H_1.size = some (101, (z_4.toInt).toNat) := jUp_self
  have hle_5 : jLe G0 (va_up G0 H_1.size (some (101, (z_4.toInt).toNat))) := jLe.new hh_1.2.1.fresh
  have hke_5 : jKe G0 (va_up G0 H_1.size (some (101, (z_4.toInt).toNat))) H_1 H_5 := jKe.new hfr_5
  have hsy_5 : s.heap.size ≤ H_1.size := hh_1.1.1
  generalize (va_up G0 H_1.size (some (101, (z_4.toInt).toNat))) = G_5 at hN_5 hgn_5 hle_5 hke_5 hh_5
  generalize hnc_5 : (z_4.toInt).toNat = nc_5 at hgn_5 hh_5 ⊢
  clear hh_1
  have hNn_5 : (jNk [0, 1, 2, 3, 4, 5, 6, 7, 8, 9, 10, 11, 12, 13, 14, 15, 16]) G0 G_5 := (jNk.rf).tr hN_5
  have hg_6 := hle_5 _ _ hg_r0
  have hkp_7 := hkp_3.tr hke_5
  refine lv_astore (lv' := [(4, .ref H_1.size), (3, .int z_4), (0, .ref r0), (1, .int a1), (2, .int a2)]) hx hb dJ7_copyOfRangeInt_feecc_12 hl (by decide) rfl (fun ls hl => ?_)
  refine lv_aload_n hx hb dJ7_copyOfRangeInt_feecc_14 rfl (lv_at hl 2 rfl) ?_
  refine lv_iload_n hx hb dJ7_copyOfRangeInt_feecc_15 rfl (lv_at hl 3 rfl) ?_
  refine lv_aload hx hb dJ7_copyOfRangeInt_feecc_16 (lv_at hl 0 rfl) ?_
  refine lv_iconst (v := 0) hx hb dJ7_copyOfRangeInt_feecc_18 (by decide) ?_
  refine lv_aload_n hx hb dJ7_copyOfRangeInt_feecc_19 rfl (lv_at hl 2 rfl) ?_
  refine j7_len hx hb hK hh_5 hB101 1 rfl (by decide) hg_6 (by omega) dJ7_copyOfRangeInt_feecc_20 (fun z_8 hz_8 => ?_)
  refine lv_iload_n hx hb dJ7_copyOfRangeInt_feecc_21 rfl (lv_at hl 3 rfl) ?_
  refine lv_isub hx hb dJ7_copyOfRangeInt_feecc_22 ?_
  refine lv_topi (fun z_9 ez_9 => ?_)
  have hz_9 : z_9.toInt = z_8.toInt - a1.toInt := by rw [ez_9]; exact jb_isub2 (rfl) (rfl) (by omega)
  refine lv_iload_n hx hb dJ7_copyOfRangeInt_feecc_23 rfl (lv_at hl 1 rfl) ?_
  have hsz_10 := hh_5.2.2.2.2.2.1
  have htt_10 := hh_5.2.2.2.2.2.2.1
  refine W.room (fun hrc_10 hrs_10 => ?_)
  refine va_mmin hx hb (by rw [hml]; exact hl.1.symm) hown (htw (.methodLink RJ7 304 Lib.Math.min.name) (jWr_16 _ (List.mem_of_getElem? (i := 15) rfl))) (htw (.static Lib.Math.min.name) (jWr_16 _ (List.mem_of_getElem? (i := 16) rfl))) (htw (.initialized "java/lang/Math") (jWr_3 _ (List.mem_of_getElem? (i := 7) rfl))) (htw (.code Lib.Math.min.name Lib.Math.min.code 2 (some .int)) (jWr_16 _ (List.mem_of_getElem? (i := 17) rfl))) (by rw [← hR]; exact Nat.le_of_ble_eq_true rfl) (by rw [← hR]; exact Nat.le_of_ble_eq_true rfl) (by rw [hRc]; omega) (by rw [hRs]; omega) dJ7_copyOfRangeInt_feecc_24 ?_
  refine lv_topi (fun z_11 ez_11 => ?_)
  have hz_11 := jb_min ez_11
  refine j7_acopyi hx hb (by rw [hml]; exact hl.1.symm) hown (htw (.methodLink RJ7 150 arraycopyName) (jWr_16 _ (List.mem_of_getElem? (i := 18) rfl))) (htw (.native arraycopyName) (jWr_16 _ (List.mem_of_getElem? (i := 19) rfl))) (htw (.static arraycopyName) (jWr_16 _ (List.mem_of_getElem? (i := 20) rfl))) (htw (.initialized "java/lang/System") (jWr_16 _ (List.mem_of_getElem? (i := 21) rfl))) hK hh_5 hB hB101 hB101 1 rfl (by decide) (by decide) (by decide) rfl rfl rfl hg_6 hgn_5 (x := a1.toInt) (y := 0) (z := z_11.toInt) rfl (by decide) rfl (by omega) (fun _ _ _ => trivial) (by rw [← hR]; exact Nat.le_of_ble_eq_true rfl) (by rw [← hR]; exact Nat.le_of_ble_eq_true rfl) dJ7_copyOfRangeInt_feecc_27 (fun H_12 locs_12 hr_12 hh_12 => ?_)
  have hkp_13 := hkp_7.st hsy_5 hr_12
  clear hr_12
  clear hh_5
  refine lv_aload hx hb dJ7_copyOfRangeInt_feecc_30 (lv_at hl 0 rfl) ?_
  have hsz_14 := hh_12.2.2.2.2.2.1
  have htt_14 := hh_12.2.2.2.2.2.2.1
  refine W.room (fun hrc_14 hrs_14 => ?_)
  refine W.widen (k := LC - s.heap.size) (n := LS - jTot s.heap) (by omega) (by omega) ?_
  rw [hQ]
  exact W.aret (v := .ref H_1.size) hx hb hr (Or.inr ⟨_, rfl⟩) (Or.inr ⟨_, rfl⟩) (fun t ht hW => ⟨⟨.ref H_1.size, (nc_5, G_5), rfl, ⟨⟨_, rfl, hgn_5⟩, ⟨_, rfl, hsy_5⟩, by (try dsimp only); first | omega | rfl | assumption | fail⟩, ⟨hh_12.ra (by first | omega | (simp only; omega)) (by first | omega | (simp only; omega)) (M1 := []) [] rfl ht, hNn_5, by rw [ht]; exact hkp_13⟩⟩, by rw [ht]; try exact hh_12.1.1, fun q h9 hq => by rw [ht]; try exact hh_12.1.2.1 q h9 hq⟩) hh_12.1.2.2 dJ7_copyOfRangeInt_feecc_32
set_option maxHeartbeats 4000000 in
set_option maxRecDepth 20000 in
theorem uJ7_copyOfRange_feeccU (l : Launch) (dC : Nat → ClassId) (dI : Nat → Nat → Nat) (ca : Nat → ClassId) (base : Nat) (B : jF) (hB : jBok B) (hAp : jAp (dC, dI)) (hB101 : ∀ n G a H, B 101 n G a H ↔ jAr (dC, dI) (ca 1) (fun j z => True) n a H) (hB280 : ∀ n G a H, B 280 n G a H ↔ jAr (dC, dI) (ca 1) (fun j z => -1 ≤ z.toInt) n a H) (G0 : jT) (H0 : Heap) (r0 : Nat) (a1 : Int32) (a2 : Int32) (n0 : Nat) (LC LS : Nat) : Met l yJ7_copyOfRange_feecc (jw yJ7_copyOfRange_feecc cJ7_copyOfRange_feecc 3 (some (.array .int))) ({ frames := 2, cells := LC - H0.size, slots := LS - jTot H0, locals := 85 }) (va_Pc [.ref r0, .int a1, .int a2] (fun U => U.heap = H0 ∧ jX B base G0 [] H0 ∧ jG dC dI ca base U ∧ jK8 U ∧ G0 r0 = some (101, n0) ∧ jP (dC, dI) G0 H0 [] ∧ H0.size + 1 ≤ LC ∧ jTot H0 + (a2.toInt - a1.toInt).toNat ≤ LS ∧ 0 ≤ a1.toInt ∧ a1.toInt ≤ a2.toInt ∧ a2.toInt ≤ n0 ∧ n0 ≤ 3000)) (jQx (S := Nat × jT) (fun v u => jRf u.2 101 u.1 v ∧ jNwv v H0 ∧ u.1 = a2.toInt - a1.toInt) (fun u t => jRa (dC, dI) B base G0 u.2 EJ7_copyOfRange_feeccU H0 (1) (u.1) [] t.heap ∧ (jNk [0, 1, 2, 3, 4, 5, 6, 7, 8, 9, 10, 11, 12, 13, 14, 15, 16]) G0 u.2 ∧ jKe G0 u.2 H0 t.heap) (jA base)) (LC - H0.size) (LS - jTot H0) (jA base) := by
  refine Met.ofW (cc := cJ7_copyOfRange_feecc) (maxL := 3) (ret := (some (.array .int))) (by decide) rfl ?_
  intro p e s m args below meth c s₁ Bd hml hv
  obtain ⟨rfl, hH0, hX, hG, hK8, hg_r0, hP0, hLC0, hLS0, hp0, hp1, hp2, hp3⟩ := hv
  have hK := hG.1
  have hx := Bd.exec
  have hb := Bd.bytes
  have hr := Bd.returns
  have hts := atoms_spec (ws := (jw yJ7_copyOfRange_feecc cJ7_copyOfRange_feecc 3 (some (.array .int)))) Bd.pre
  have htw : ∀ w ∈ jWl, w.before _ s = true := fun w h => hts w (List.mem_cons_of_mem _ h)
  have hown : s.vm.findClass RJ7 = some m.cls := findClass_of_methodNamed Bd.named
  have hlocks := Bd.notSynchronized
  obtain ⟨Q, hQ⟩ : ∃ Q, Q = MQ below (jQx (S := Nat × jT) (fun v u => jRf u.2 101 u.1 v ∧ jNwv v H0 ∧ u.1 = a2.toInt - a1.toInt) (fun u t => jRa (dC, dI) B base G0 u.2 EJ7_copyOfRange_feeccU H0 (1) (u.1) [] t.heap ∧ (jNk [0, 1, 2, 3, 4, 5, 6, 7, 8, 9, 10, 11, 12, 13, 14, 15, 16]) G0 u.2 ∧ jKe G0 u.2 H0 t.heap) (jA base)) ([.ref r0, .int a1, .int a2] : List Value).toArray s (LC - H0.size) (LS - jTot H0) (jA base) := ⟨_, rfl⟩
  rw [← hQ]
  have hl := lv_entry ([.ref r0, .int a1, .int a2]) (n := 3) (Nat.le_of_ble_eq_true rfl)
  rw [lg_entry_eq]
  generalize (lg_sl ([.ref r0, .int a1, .int a2]) ++ List.replicate (3 - (lg_sl ([.ref r0, .int a1, .int a2])).length) Slot.unset).toArray = ls at hl ⊢
  have hl : lv_has ls 3 [(0, .ref r0), (1, .int a1), (2, .int a2)] := hl
  generalize hR : (headSpec (jw yJ7_copyOfRange_feecc cJ7_copyOfRange_feecc 3 (some (.array .int))) ({ frames := 2, cells := LC - H0.size, slots := LS - jTot H0, locals := 85 })).room = R
  subst hH0
  have hh : jSt (dC, dI) B base G0 G0 EJ7_copyOfRange_feeccU s.heap 0 0 [] [] [] s.heap [] := jSt.start hX hP0 jMc.nil jIs.nil
  clear hX hP0
  have hk0 : (0 : Int32).toInt = 0 := by decide
  have hk1 : (1 : Int32).toInt = 1 := by decide
  have hrg_a1 := jb_rng a1
  have hrg_a2 := jb_rng a2
  have hbs : base ≤ s.heap.size := Nat.le_of_lt (Nat.lt_of_le_of_lt (hh.ab hg_r0).1 (hh.ab hg_r0).2)
  have hRc : R.cells = LC - s.heap.size := by rw [← hR]; rfl
  have hRs : R.slots = LS - jTot s.heap := by rw [← hR]; rfl
  have hkp : jKe G0 G0 s.heap s.heap := jKe.rf
  refine lv_iload_n hx hb dJ7_copyOfRange_feecc_0 rfl (lv_at hl 1 rfl) ?_
  refine lv_if_ne (tgt := 10) hx hb dJ7_copyOfRange_feecc_1 (by decide) (fun c_1 => ?_) (fun c_1 => ?_)
  · skip
    have c_1' : a1.toInt ≠ 0 := jb_ne (rfl) ((by decide)) c_1
    refine lv_aload_n hx hb dJ7_copyOfRange_feecc_10 rfl (lv_at hl 0 rfl) ?_
    refine lv_iload_n hx hb dJ7_copyOfRange_feecc_11 rfl (lv_at hl 1 rfl) ?_
    refine lv_iload_n hx hb dJ7_copyOfRange_feecc_12 rfl (lv_at hl 2 rfl) ?_
    have hsz_2 := hh.2.2.2.2.2.1
    have htt_2 := hh.2.2.2.2.2.2.1
    refine W.room (fun hrc_2 hrs_2 => ?_)
    refine j_callx (A0 := jA base) (H0 := s.heap) (va_runS (As := [.ref r0, .int a1, .int a2]) (rest := []) ⟨hx, hb, hml, hown, hts⟩ (uJ7_copyOfRangeInt_feeccU l dC dI ca base B hB hAp hB101 G0 s.heap r0 a1 a2 n0 LC LS) (va_cwS 3 hts (jgS (jWr_78 _ (List.mem_of_getElem? (i := 4) rfl)) (jWr_78 _ (List.mem_of_getElem? (i := 5) rfl)) (jWr_16 _ (List.mem_of_getElem? (i := 7) rfl)) (jWr_78 _ (List.mem_of_getElem? (i := 6) rfl))) rfl rfl rfl (by decide +kernel) ⟨by rw [← hR]; exact Nat.le_of_ble_eq_true rfl, by rw [← hR]; exact Nat.le_of_ble_eq_true rfl⟩) ⟨fun a U g mk q => by obtain ⟨q0, q1, q2, qK, q10, q11, q12⟩ := q; exact ⟨q0, q1, q2, jG.calling g mk a qK, q10, q11, q12⟩, fun U hU hW => ⟨rfl, hU, hh.2.1, hG.step hW hU hh.1, hg_r0, jP.nil, by first | omega | (refine ⟨?_, ?_, ?_, ?_⟩ <;> (first | omega | rfl | assumption | decide | exact Or.inl rfl | exact Or.inr rfl | (simp only; omega)))⟩⟩ rfl rfl hl.1 rfl (lv_room (Nat.le_of_ble_eq_true rfl)) dJ7_copyOfRange_feecc_13 ⟨by rw [hRc]; omega, by rw [hRs]; omega⟩) hh.1 (fun q _ h => h) (fun q h => h) (fun r_3 u_2 t_2 H_2 locs_2 ht_2 hvm_2 hr_3 hb_2 hz_2 hk_2 hS_2 => ?_)
    rw [ht_2] at hb_2
    obtain ⟨m_ret_2, G_2⟩ := u_2
    simp only at hb_2
    obtain ⟨⟨hb_21, hb_22, hb_23, hb_24, hb_25, hb_26⟩, hN_2, hbK_2⟩ := hb_2
    have hh_2 : jSt (dC, dI) B base G0 G_2 EJ7_copyOfRange_feeccU s.heap (0 + (1)) (0 + (m_ret_2)) [] [] [] H_2 locs_2 := (hh.callG hb_21 hb_22 hb_23 hb_24 hb_25 hS_2 rfl (L1 := []) [] rfl rfl (M1 := []) [] rfl rfl (I1 := []) [] rfl rfl).more hb_26
    have hNn_2 : (jNk [0, 1, 2, 3, 4, 5, 6, 7, 8, 9, 10, 11, 12, 13, 14, 15, 16]) G0 G_2 := (jNk.rf).tr hN_2
    have hg_4 := hb_22 _ _ hg_r0
    obtain ⟨hr_3, hr_3n, hr_3p⟩ := hr_3
    try simp only at hr_3p
    have hkp_5 := hkp.tr hbK_2
    obtain ⟨ret_6, rfl, hg_ret_6⟩ := hr_3
    have hsy_2 : s.heap.size ≤ ret_6 := Nat.le_trans hh.1.1 hr_3n.le
    have hsz_7 := hh_2.2.2.2.2.2.1
    have htt_7 := hh_2.2.2.2.2.2.2.1
    refine W.room (fun hrc_7 hrs_7 => ?_)
    refine W.widen (k := LC - s.heap.size) (n := LS - jTot s.heap) (by omega) (by omega) ?_
    rw [hQ]
    exact W.aret (v := .ref ret_6) hx hb hr (Or.inr ⟨_, rfl⟩) (Or.inr ⟨_, rfl⟩) (fun t ht hW => ⟨⟨.ref ret_6, (m_ret_2, G_2), rfl, ⟨⟨_, rfl, hg_ret_6⟩, ⟨_, rfl, hsy_2⟩, by (try dsimp only); first | omega | rfl | assumption | fail⟩, ⟨hh_2.ra (by first | omega | (simp only; omega)) (by first | omega | (simp only; omega)) (M1 := []) [] rfl ht, hNn_2, by rw [ht]; exact hkp_5⟩⟩, by rw [ht]; try exact hh_2.1.1, fun q h9 hq => by rw [ht]; try exact hh_2.1.2.1 q h9 hq⟩) hh_2.1.2.2 dJ7_copyOfRange_feecc_16
  · skip
    have c_1' : a1.toInt = 0 := jb_ne_n (rfl) ((by decide)) c_1
    refine lv_iload_n hx hb dJ7_copyOfRange_feecc_4 rfl (lv_at hl 2 rfl) ?_
    refine lv_aload_n hx hb dJ7_copyOfRange_feecc_5 rfl (lv_at hl 0 rfl) ?_
    refine j7_len hx hb hK hh hB101 1 rfl (by decide) hg_r0 (by omega) dJ7_copyOfRange_feecc_6 (fun z_8 hz_8 => ?_)
    refine lv_icmp_eq (tgt := 17) hx hb dJ7_copyOfRange_feecc_7 (by decide) (fun c_9 => ?_) (fun c_9 => ?_)
    · skip
      have c_9' : a2.toInt = z_8.toInt := jb_eq (rfl) (rfl) c_9
      refine lv_aload_n hx hb dJ7_copyOfRange_feecc_17 rfl (lv_at hl 0 rfl) ?_
      have hsz_10 := hh.2.2.2.2.2.1
      have htt_10 := hh.2.2.2.2.2.2.1
      refine j7_cloneK hx hb (by rw [hml]; exact hl.1.symm) hown (htw (.methodLink RJ7 316 ⟨"[I", "clone", "()Ljava/lang/Object;"⟩) (jWr_78 _ (List.mem_of_getElem? (i := 0) rfl))) (htw (.sameMethod "[I" "java/lang/Object" "clone" "()Ljava/lang/Object;") (jWr_78 _ (List.mem_of_getElem? (i := 1) rfl))) (htw (.native ⟨"java/lang/Object", "clone", "()Ljava/lang/Object;"⟩) (jWr_16 _ (List.mem_of_getElem? (i := 11) rfl))) (htw (.instanceMethod ⟨"java/lang/Object", "clone", "()Ljava/lang/Object;"⟩) (jWr_16 _ (List.mem_of_getElem? (i := 12) rfl))) (htw (.selects "[I" ⟨"[I", "clone", "()Ljava/lang/Object;"⟩ ⟨"java/lang/Object", "clone", "()Ljava/lang/Object;"⟩) (jWr_78 _ (List.mem_of_getElem? (i := 2) rfl))) hK8 hK hh hB hB101 1 rfl (by decide) hbs hg_r0 (by rw [← hR]; exact Nat.le_of_ble_eq_true rfl) (by rw [← hR]; exact Nat.le_of_ble_eq_true rfl) (by rw [hRc]; omega) (by rw [hRs]; omega) dJ7_copyOfRange_feecc_18 (fun H_10 hfr_10 hh_10 => ?_)
      have hh_10 : jSt (dC, dI) B base G0 (va_up G0 s.heap.size (some (101, n0))) EJ7_copyOfRange_feeccU s.heap (0 + 1) (0 + n0) [] [] [] H_10 [] := hh_10
      have hN_10 : (jNk [0, 1, 2, 3, 4, 5, 6, 7, 8, 9, 10, 11, 12, 13, 14, 15, 16]) G0 (va_up G0 s.heap.size (some (101, n0))) := jNk.new (by decide)
      have hgn_10 : (va_up G0 s.heap.size (some (101, n0))) s.heap.size = some (101, n0) := jUp_self
      have hle_10 : jLe G0 (va_up G0 s.heap.size (some (101, n0))) := jLe.new hh.2.1.fresh
      have hke_10 : jKe G0 (va_up G0 s.heap.size (some (101, n0))) s.heap H_10 := jKe.new hfr_10
      have hsy_10 : s.heap.size ≤ s.heap.size := hh.1.1
      generalize (va_up G0 s.heap.size (some (101, n0))) = G_10 at hN_10 hgn_10 hle_10 hke_10 hh_10
      clear hh
      have hNn_10 : (jNk [0, 1, 2, 3, 4, 5, 6, 7, 8, 9, 10, 11, 12, 13, 14, 15, 16]) G0 G_10 := (jNk.rf).tr hN_10
      have hg_11 := hle_10 _ _ hg_r0
      have hkp_12 := hkp.tr hke_10
      refine j7_castI hx hb hown (htw (.classLink RJ7 317 "[I") (jWr_78 _ (List.mem_of_getElem? (i := 3) rfl))) hK hh_10 hB101 1 rfl (by decide) hgn_10 dJ7_copyOfRange_feecc_21 ?_
      have hsz_13 := hh_10.2.2.2.2.2.1
      have htt_13 := hh_10.2.2.2.2.2.2.1
      refine W.room (fun hrc_13 hrs_13 => ?_)
      refine W.widen (k := LC - s.heap.size) (n := LS - jTot s.heap) (by omega) (by omega) ?_
      rw [hQ]
      exact W.aret (v := .ref s.heap.size) hx hb hr (Or.inr ⟨_, rfl⟩) (Or.inr ⟨_, rfl⟩) (fun t ht hW => ⟨⟨.ref s.heap.size, (n0, G_10), rfl, ⟨⟨_, rfl, hgn_10⟩, ⟨_, rfl, hsy_10⟩, by (try dsimp only); first | omega | rfl | assumption | fail⟩, ⟨hh_10.ra (by first | omega | (simp only; omega)) (by first | omega | (simp only; omega)) (M1 := []) [] rfl ht, hNn_10, by rw [ht]; exact hkp_12⟩⟩, by rw [ht]; try exact hh_10.1.1, fun q h9 hq => by rw [ht]; try exact hh_10.1.2.1 q h9 hq⟩) hh_10.1.2.2 dJ7_copyOfRange_feecc_24
    · skip
      have c_9' : a2.toInt ≠ z_8.toInt := jb_eq_n (rfl) (rfl) c_9
      refine lv_aload_n hx hb dJ7_copyOfRange_feecc_10 rfl (lv_at hl 0 rfl) ?_
      refine lv_iload_n hx hb dJ7_copyOfRange_feecc_11 rfl (lv_at hl 1 rfl) ?_
      refine lv_iload_n hx hb dJ7_copyOfRange_feecc_12 rfl (lv_at hl 2 rfl) ?_
      have hsz_14 := hh.2.2.2.2.2.1
      have htt_14 := hh.2.2.2.2.2.2.1
      refine W.room (fun hrc_14 hrs_14 => ?_)
      refine j_callx (A0 := jA base) (H0 := s.heap) (va_runS (As := [.ref r0, .int a1, .int a2]) (rest := []) ⟨hx, hb, hml, hown, hts⟩ (uJ7_copyOfRangeInt_feeccU l dC dI ca base B hB hAp hB101 G0 s.heap r0 a1 a2 n0 LC LS) (va_cwS 3 hts (jgS (jWr_78 _ (List.mem_of_getElem? (i := 4) rfl)) (jWr_78 _ (List.mem_of_getElem? (i := 5) rfl)) (jWr_16 _ (List.mem_of_getElem? (i := 7) rfl)) (jWr_78 _ (List.mem_of_getElem? (i := 6) rfl))) rfl rfl rfl (by decide +kernel) ⟨by rw [← hR]; exact Nat.le_of_ble_eq_true rfl, by rw [← hR]; exact Nat.le_of_ble_eq_true rfl⟩) ⟨fun a U g mk q => by obtain ⟨q0, q1, q2, qK, q10, q11, q12⟩ := q; exact ⟨q0, q1, q2, jG.calling g mk a qK, q10, q11, q12⟩, fun U hU hW => ⟨rfl, hU, hh.2.1, hG.step hW hU hh.1, hg_r0, jP.nil, by first | omega | (refine ⟨?_, ?_, ?_, ?_⟩ <;> (first | omega | rfl | assumption | decide | exact Or.inl rfl | exact Or.inr rfl | (simp only; omega)))⟩⟩ rfl rfl hl.1 rfl (lv_room (Nat.le_of_ble_eq_true rfl)) dJ7_copyOfRange_feecc_13 ⟨by rw [hRc]; omega, by rw [hRs]; omega⟩) hh.1 (fun q _ h => h) (fun q h => h) (fun r_15 u_14 t_14 H_14 locs_14 ht_14 hvm_14 hr_15 hb_14 hz_14 hk_14 hS_14 => ?_)
      rw [ht_14] at hb_14
      obtain ⟨m_ret_14, G_14⟩ := u_14
      simp only at hb_14
      obtain ⟨⟨hb_141, hb_142, hb_143, hb_144, hb_145, hb_146⟩, hN_14, hbK_14⟩ := hb_14
      have hh_14 : jSt (dC, dI) B base G0 G_14 EJ7_copyOfRange_feeccU s.heap (0 + (1)) (0 + (m_ret_14)) [] [] [] H_14 locs_14 := (hh.callG hb_141 hb_142 hb_143 hb_144 hb_145 hS_14 rfl (L1 := []) [] rfl rfl (M1 := []) [] rfl rfl (I1 := []) [] rfl rfl).more hb_146
      have hNn_14 : (jNk [0, 1, 2, 3, 4, 5, 6, 7, 8, 9, 10, 11, 12, 13, 14, 15, 16]) G0 G_14 := (jNk.rf).tr hN_14
      have hg_16 := hb_142 _ _ hg_r0
      obtain ⟨hr_15, hr_15n, hr_15p⟩ := hr_15
      try simp only at hr_15p
      have hkp_17 := hkp.tr hbK_14
      obtain ⟨ret_18, rfl, hg_ret_18⟩ := hr_15
      have hsy_14 : s.heap.size ≤ ret_18 := Nat.le_trans hh.1.1 hr_15n.le
      have hsz_19 := hh_14.2.2.2.2.2.1
      have htt_19 := hh_14.2.2.2.2.2.2.1
      refine W.room (fun hrc_19 hrs_19 => ?_)
      refine W.widen (k := LC - s.heap.size) (n := LS - jTot s.heap) (by omega) (by omega) ?_
      rw [hQ]
      exact W.aret (v := .ref ret_18) hx hb hr (Or.inr ⟨_, rfl⟩) (Or.inr ⟨_, rfl⟩) (fun t ht hW => ⟨⟨.ref ret_18, (m_ret_14, G_14), rfl, ⟨⟨_, rfl, hg_ret_18⟩, ⟨_, rfl, hsy_14⟩, by (try dsimp only); first | omega | rfl | assumption | fail⟩, ⟨hh_14.ra (by first | omega | (simp only; omega)) (by first | omega | (simp only; omega)) (M1 := []) [] rfl ht, hNn_14, by rw [ht]; exact hkp_17⟩⟩, by rw [ht]; try exact hh_14.1.1, fun q h9 hq => by rw [ht]; try exact hh_14.1.2.1 q h9 hq⟩) hh_14.1.2.2 dJ7_copyOfRange_feecc_16
end
