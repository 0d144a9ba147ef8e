section
theorem dX11_remember_0 : decode cX11_remember 0 = .ok (.iconst 0, 1) := by decide +kernel
theorem dX11_remember_1 : decode cX11_remember 1 = .ok (.istore_n 2, 1) := by decide +kernel
theorem dX11_remember_2 : decode cX11_remember 2 = .ok (.iload_n 2, 1) := by decide +kernel
theorem dX11_remember_3 : decode cX11_remember 3 = .ok (.aload_n 0, 1) := by decide +kernel
theorem dX11_remember_4 : decode cX11_remember 4 = .ok (.getfield 68, 3) := by decide +kernel
theorem dX11_remember_7 : decode cX11_remember 7 = .ok (.invokeinterface 142 1, 5) := by decide +kernel
theorem dX11_remember_12 : decode cX11_remember 12 = .ok (.if_icmp .ge 29, 3) := by decide +kernel
theorem dX11_remember_15 : decode cX11_remember 15 = .ok (.aload_n 0, 1) := by decide +kernel
theorem dX11_remember_16 : decode cX11_remember 16 = .ok (.getfield 68, 3) := by decide +kernel
theorem dX11_remember_19 : decode cX11_remember 19 = .ok (.iload_n 2, 1) := by decide +kernel
theorem dX11_remember_20 : decode cX11_remember 20 = .ok (.invokeinterface 249 2, 5) := by decide +kernel
theorem dX11_remember_25 : decode cX11_remember 25 = .ok (.checkcast 189, 3) := by decide +kernel
theorem dX11_remember_28 : decode cX11_remember 28 = .ok (.aload_n 1, 1) := by decide +kernel
theorem dX11_remember_29 : decode cX11_remember 29 = .ok (.invokestatic 605, 3) := by decide +kernel
theorem dX11_remember_32 : decode cX11_remember 32 = .ok (.ifCond .ne 9, 3) := by decide +kernel
theorem dX11_remember_35 : decode cX11_remember 35 = .ok (.iinc 2 1, 3) := by decide +kernel
theorem dX11_remember_38 : decode cX11_remember 38 = .ok (.goto (-36), 3) := by decide +kernel
theorem dX11_remember_41 : decode cX11_remember 41 = .ok (.iload_n 2, 1) := by decide +kernel
theorem dX11_remember_42 : decode cX11_remember 42 = .ok (.aload_n 0, 1) := by decide +kernel
theorem dX11_remember_43 : decode cX11_remember 43 = .ok (.getfield 68, 3) := by decide +kernel
theorem dX11_remember_46 : decode cX11_remember 46 = .ok (.invokeinterface 142 1, 5) := by decide +kernel
theorem dX11_remember_51 : decode cX11_remember 51 = .ok (.if_icmp .ge 17, 3) := by decide +kernel
theorem dX11_remember_54 : decode cX11_remember 54 = .ok (.aload_n 0, 1) := by decide +kernel
theorem dX11_remember_55 : decode cX11_remember 55 = .ok (.getfield 68, 3) := by decide +kernel
theorem dX11_remember_58 : decode cX11_remember 58 = .ok (.iload_n 2, 1) := by decide +kernel
theorem dX11_remember_59 : decode cX11_remember 59 = .ok (.invokeinterface 423 2, 5) := by decide +kernel
theorem dX11_remember_64 : decode cX11_remember 64 = .ok (.pop, 1) := by decide +kernel
theorem dX11_remember_65 : decode cX11_remember 65 = .ok (.goto 28, 3) := by decide +kernel
theorem dX11_remember_68 : decode cX11_remember 68 = .ok (.aload_n 0, 1) := by decide +kernel
theorem dX11_remember_69 : decode cX11_remember 69 = .ok (.getfield 68, 3) := by decide +kernel
theorem dX11_remember_72 : decode cX11_remember 72 = .ok (.invokeinterface 142 1, 5) := by decide +kernel
theorem dX11_remember_77 : decode cX11_remember 77 = .ok (.bipush 24, 2) := by decide +kernel
theorem dX11_remember_79 : decode cX11_remember 79 = .ok (.if_icmp .lt 14, 3) := by decide +kernel
theorem dX11_remember_82 : decode cX11_remember 82 = .ok (.aload_n 0, 1) := by decide +kernel
theorem dX11_remember_83 : decode cX11_remember 83 = .ok (.getfield 68, 3) := by decide +kernel
theorem dX11_remember_86 : decode cX11_remember 86 = .ok (.iconst 0, 1) := by decide +kernel
theorem dX11_remember_87 : decode cX11_remember 87 = .ok (.invokeinterface 423 2, 5) := by decide +kernel
theorem dX11_remember_92 : decode cX11_remember 92 = .ok (.pop, 1) := by decide +kernel
theorem dX11_remember_93 : decode cX11_remember 93 = .ok (.aload_n 0, 1) := by decide +kernel
theorem dX11_remember_94 : decode cX11_remember 94 = .ok (.getfield 68, 3) := by decide +kernel
theorem dX11_remember_97 : decode cX11_remember 97 = .ok (.aload_n 1, 1) := by decide +kernel
theorem dX11_remember_98 : decode cX11_remember 98 = .ok (.invokeinterface 374 2, 5) := by decide +kernel
theorem dX11_remember_103 : decode cX11_remember 103 = .ok (.pop, 1) := by decide +kernel
theorem dX11_remember_104 : decode cX11_remember 104 = .ok (.return_, 1) := by decide +kernel
def EX11_remember : List (Nat × Nat) := [(1, 0), (1, 1), (1, 2), (223, 0)]
set_option maxHeartbeats 4000000 in
set_option maxRecDepth 20000 in
theorem uX11_remember (l : Launch) (dC : Nat → ClassId) (dI : Nat → Nat → Nat) (ca : Nat → ClassId) (base : Nat) (B : jF) (hB : jBok B) (hAp : jAp (dC, dI)) (hB1 : ∀ n G a H, B 1 n G a H ↔ jOb (dC, dI) 1 3 (F1 n G) a H) (hB11 : ∀ n G a H, B 11 n G a H ↔ jOb (dC, dI) 11 9 (F11 n G) a H) (hB13 : ∀ n G a H, B 13 n G a H ↔ jOb (dC, dI) 13 19 (F13 n G) a H) (hB101 : ∀ n G a H, B 101 n G a H ↔ jAr (dC, dI) (ca 1) (fun j z => True) n a H) (hB223 : ∀ n G a H, B 223 n G a H ↔ jAq (dC, dI) (ca 9) (jQn 11 0) n G a H) (G0 : jT) (H0 : Heap) (r0 : Nat) (r1 : Nat) (wl : jWl9) (LC LS : Nat) : Met l yX11_remember (jw yX11_remember cX11_remember 3 none) ({ frames := 7, cells := LC - H0.size, slots := LS - jTot H0, locals := 192 }) (va_Pc [.ref r0, .ref r1] (fun U => U.heap = H0 ∧ jX B base G0 [] H0 ∧ jG dC dI ca base U ∧ jK7 dC dI ca base U ∧ G0 r0 = some (13, 0) ∧ G0 r1 = some (11, 0) ∧ jP (dC, dI) G0 H0 [] ∧ jIs (dC, dI) G0 H0 [(jFl, jLs dC dI ca G0 3 none wl)] ∧ H0.size + 1 ≤ LC ∧ jTot H0 + 40 ≤ LS ∧ True)) (va_Qv (S := jT) (fun u => True) (fun u t => jRa (dC, dI) B base G0 u EX11_remember H0 (1) (40) [] t.heap ∧ (jNk [0, 1, 2, 3, 4, 5, 6, 7, 8, 9, 10, 11, 12, 13, 14, 15, 16]) G0 u ∧ jIs (dC, dI) u t.heap [(jFl, jLs dC dI ca u 3 none wl)]) (jA base)) (LC - H0.size) (LS - jTot H0) (jA base) := by
  refine Met.ofW (cc := cX11_remember) (maxL := 3) (ret := none) (by decide) rfl ?_
  intro p e s m args below meth c s₁ Bd hml hv
  obtain ⟨rfl, hH0, hX, hG, hK7, hg_r0, hg_r1, hP0, hI0, hLC0, hLS0, hp0⟩ := hv
  have hK := hG.1
  have hx := Bd.exec
  have hb := Bd.bytes
  have hr := Bd.returns
  have hts := atoms_spec (ws := (jw yX11_remember cX11_remember 3 none)) Bd.pre
  have htw : ∀ w ∈ jWl, w.before _ s = true := fun w h => hts w (List.mem_cons_of_mem _ h)
  have hown : s.vm.findClass RX11 = some m.cls := findClass_of_methodNamed Bd.named
  have hlocks := Bd.notSynchronized
  obtain ⟨Q, hQ⟩ : ∃ Q, Q = MQ below (va_Qv (S := jT) (fun u => True) (fun u t => jRa (dC, dI) B base G0 u EX11_remember H0 (1) (40) [] t.heap ∧ (jNk [0, 1, 2, 3, 4, 5, 6, 7, 8, 9, 10, 11, 12, 13, 14, 15, 16]) G0 u ∧ jIs (dC, dI) u t.heap [(jFl, jLs dC dI ca u 3 none wl)]) (jA base)) ([.ref r0, .ref r1] : List Value).toArray s (LC - H0.size) (LS - jTot H0) (jA base) := ⟨_, rfl⟩
  rw [← hQ]
  have hl := lv_entry ([.ref r0, .ref r1]) (n := 3) (Nat.le_of_ble_eq_true rfl)
  rw [lg_entry_eq]
  generalize (lg_sl ([.ref r0, .ref r1]) ++ List.replicate (3 - (lg_sl ([.ref r0, .ref r1])).length) Slot.unset).toArray = ls at hl ⊢
  have hl : lv_has ls 3 [(0, .ref r0), (1, .ref r1)] := hl
  generalize hR : (headSpec (jw yX11_remember cX11_remember 3 none) ({ frames := 7, cells := LC - H0.size, slots := LS - jTot H0, locals := 192 })).room = R
  subst hH0
  have hh : jSt (dC, dI) B base G0 G0 EX11_remember s.heap 0 0 [] [] [(jFl, jLs dC dI ca G0 3 none wl)] s.heap [] := jSt.start hX hP0 jMc.nil hI0
  clear hX hP0
  have hk0 : (0 : Int32).toInt = 0 := by decide
  have hk1 : (1 : Int32).toInt = 1 := by decide
  have hk24 : (24 : Int32).toInt = 24 := by decide
  have hly_13_9 := htw (u_lay RX11 TX11 9) (jWc_wsX110 _ (u_in_lay (by decide)))
  have hlk_68 := (htw (.fieldLink RX11 68 "ProofServer" "cache" "Ljava/util/List;") (jWr_2 _ (List.mem_of_getElem? (i := 16) rfl)))
  have hbs : base ≤ s.heap.size := Nat.le_of_lt (Nat.lt_of_le_of_lt (hh.ab hg_r0).1 (hh.ab hg_r0).2)
  have hRc : R.cells = LC - s.heap.size := by rw [← hR]; rfl
  have hRs : R.slots = LS - jTot s.heap := by rw [← hR]; rfl
  obtain ⟨v_1, hv_1, hh_2⟩ := hh.pin (C := RX11) (T := TX11) (N := 19) hB13 rfl (by decide) hg_r0 (i := 9) (by decide) rfl
  obtain ⟨cache_3, rfl, hg_cache_3⟩ := hv_1
  obtain ⟨lz_4, lx_4, hl1_4, -, hl3_4, -⟩ := jLs.at (hh_2.iv 0 rfl) hg_cache_3
  have hh_5 := hh_2.more (P1 := [(cache_3, 1, 2, .int lz_4)]) (jP.cons hg_cache_3 hl1_4 jP.nil)
  clear hh_2
  have hl3_4 : 0 ≤ lz_4.toInt ∧ lz_4.toInt ≤ 24 := hl3_4
  refine lv_iconst (v := 0) hx hb dX11_remember_0 (by decide) ?_
  refine lv_istore_n (lv' := [(2, .int 0), (0, .ref r0), (1, .ref r1)]) hx hb dX11_remember_1 rfl hl (by decide) rfl (fun ls hl => ?_)
  have L2 : ∀ (N : Nat) (v2_6 : Int32) (H_6 : Heap) (locs_6 : List Loc), jSt (dC, dI) B base G0 G0 EX11_remember s.heap 0 0 [(cache_3, 1, 2, .int lz_4), (r0, 13, 9, .ref cache_3)] [] [(jFl, jLs dC dI ca G0 3 none wl)] H_6 locs_6 → (0 ≤ v2_6.toInt ∧ v2_6.toInt ≤ 40) → (41 - v2_6.toInt : Int) < N → ∀ ls : Array Slot, lv_has ls 3 [(0, .ref r0), (1, .ref r1), (2, .int v2_6)] → W p l e R s m ([.ref r0, .ref r1] : List Value).toArray below meth c H_6 locs_6 0 0 Q (F0 m 2 ls []) := by
    intro N
    induction N with
    | zero => intro v2_6 H_6 locs_6 hh_6  hi_6 hm; exact absurd hm (by omega)
    | succ N L2 =>
      intro v2_6 H_6 locs_6 hh_6  hi_6 hm_6 ls hl
      obtain ⟨hi_6_0, hi_6_1⟩ := hi_6
      refine lv_iload_n hx hb dX11_remember_2 rfl (lv_at hl 2 rfl) ?_
      refine lv_aload_n hx hb dX11_remember_3 rfl (lv_at hl 0 rfl) ?_
      refine j7_read hx hb hown hK (C := RX11) (T := TX11) (N := 19) rfl hly_13_9 hlk_68 (hh_6.at 1 rfl) dX11_remember_4 ?_
      have hsz_7 := hh_6.2.2.2.2.2.1
      have htt_7 := hh_6.2.2.2.2.2.2.1
      refine W.room (fun hrc_7 hrs_7 => ?_)
      refine va_callFi (A0 := jA base) (H0 := s.heap) (va_runF (hK.1 1 _ rfl).2 (As := []) (rest := [.int v2_6]) ⟨hx, hb, hml, hown, hts⟩ (uJx4a65c_size_8abf5 l dC dI ca base B hB hAp hB1 G0 H_6 cache_3 3 lz_4) (va_cwF 0 hts (jgF (jWr_27 _ (List.mem_of_getElem? (i := 22) rfl)) (jWr_27 _ (List.mem_of_getElem? (i := 23) rfl)) (jWr_28 _ (List.mem_of_getElem? (i := 0) rfl)) (jWr_2 _ (List.mem_of_getElem? (i := 13) rfl)) (jWr_28 _ (List.mem_of_getElem? (i := 1) rfl))) rfl rfl rfl hK7.2.2.2.2.2.1.1 ⟨by decide, by decide, by decide +kernel⟩ ⟨by rw [← hR]; exact Nat.le_of_ble_eq_true rfl, by rw [← hR]; exact Nat.le_of_ble_eq_true rfl⟩) ⟨fun a U g mk q => by obtain ⟨q0, q1, q2, qK, q10, q11, q12⟩ := q; exact ⟨q0, q1, q2, jG.calling g mk a qK, q10, q11, q12⟩, hh_6.recv (C := RJx4a65c) (T := TJx4a65c) (N := 3) hB1 rfl (by decide) hg_cache_3 hK, fun U hU hW => ⟨rfl, hU, hh_6.2.1, hG.step hW hU hh_6.1, hg_cache_3, (hh_6.2.2.1.sub (L1 := [(cache_3, 1, 2, .int lz_4)]) [0] rfl), trivial⟩⟩ rfl rfl hl.1 rfl (lv_room (Nat.le_of_ble_eq_true rfl)) dX11_remember_7 ⟨by rw [hRc]; show _ + 0 ≤ _; omega, by rw [hRs]; show _ + 0 ≤ _; omega⟩) hh_6.1 (fun q _ h => h) (fun q h => h) (fun r_8 u_7 t_7 H_7 locs_7 ht_7 hvm_7 hr_8 hb_7 hz_7 hk_7 hS_7 => ?_)
      rw [ht_7] at hb_7
      obtain ⟨hb_71, hb_72, hb_73, hb_74, hb_75⟩ := hb_7
      have hh_7 : jSt (dC, dI) B base G0 G0 EX11_remember s.heap 0 0 [(cache_3, 1, 2, .int lz_4), (r0, 13, 9, .ref cache_3)] [] [(jFl, jLs dC dI ca G0 3 none wl)] H_7 locs_7 := ((hh_6.call hb_71 hb_72 hb_73 hb_74 hS_7 rfl (L1 := [(cache_3, 1, 2, .int lz_4), (r0, 13, 9, .ref cache_3)]) [0, 1] rfl rfl (M1 := []) [] rfl rfl (I1 := [(jFl, jLs dC dI ca G0 3 none wl)]) [0] rfl rfl).more hb_75)
      clear hh_6 ht_7 hvm_7 hz_7 hk_7 hS_7 hb_71 hb_72 hb_73 hb_74 hb_75
      refine lv_icmp_ge (tgt := 41) hx hb dX11_remember_12 (by decide) (fun c_9 => ?_) (fun c_9 => ?_)
      · skip
        have c_9' : v2_6.toInt ≥ r_8.toInt := jb_ge (rfl) (rfl) c_9
        refine lv_iload_n hx hb dX11_remember_41 rfl (lv_at hl 2 rfl) ?_
        refine lv_aload_n hx hb dX11_remember_42 rfl (lv_at hl 0 rfl) ?_
        refine j7_read hx hb hown hK (C := RX11) (T := TX11) (N := 19) rfl hly_13_9 hlk_68 (hh_7.at 1 rfl) dX11_remember_43 ?_
        have hsz_10 := hh_7.2.2.2.2.2.1
        have htt_10 := hh_7.2.2.2.2.2.2.1
        refine W.room (fun hrc_10 hrs_10 => ?_)
        refine va_callFi (A0 := jA base) (H0 := s.heap) (va_runF (hK.1 1 _ rfl).2 (As := []) (rest := [.int v2_6]) ⟨hx, hb, hml, hown, hts⟩ (uJx4a65c_size_8abf5 l dC dI ca base B hB hAp hB1 G0 H_7 cache_3 3 lz_4) (va_cwF 0 hts (jgF (jWr_27 _ (List.mem_of_getElem? (i := 22) rfl)) (jWr_27 _ (List.mem_of_getElem? (i := 23) rfl)) (jWr_28 _ (List.mem_of_getElem? (i := 0) rfl)) (jWr_2 _ (List.mem_of_getElem? (i := 13) rfl)) (jWr_28 _ (List.mem_of_getElem? (i := 1) rfl))) rfl rfl rfl hK7.2.2.2.2.2.1.1 ⟨by decide, by decide, by decide +kernel⟩ ⟨by rw [← hR]; exact Nat.le_of_ble_eq_true rfl, by rw [← hR]; exact Nat.le_of_ble_eq_true rfl⟩) ⟨fun a U g mk q => by obtain ⟨q0, q1, q2, qK, q10, q11, q12⟩ := q; exact ⟨q0, q1, q2, jG.calling g mk a qK, q10, q11, q12⟩, hh_7.recv (C := RJx4a65c) (T := TJx4a65c) (N := 3) hB1 rfl (by decide) hg_cache_3 hK, fun U hU hW => ⟨rfl, hU, hh_7.2.1, hG.step hW hU hh_7.1, hg_cache_3, (hh_7.2.2.1.sub (L1 := [(cache_3, 1, 2, .int lz_4)]) [0] rfl), trivial⟩⟩ rfl rfl hl.1 rfl (lv_room (Nat.le_of_ble_eq_true rfl)) dX11_remember_46 ⟨by rw [hRc]; show _ + 0 ≤ _; omega, by rw [hRs]; show _ + 0 ≤ _; omega⟩) hh_7.1 (fun q _ h => h) (fun q h => h) (fun r_11 u_10 t_10 H_10 locs_10 ht_10 hvm_10 hr_11 hb_10 hz_10 hk_10 hS_10 => ?_)
        rw [ht_10] at hb_10
        obtain ⟨hb_101, hb_102, hb_103, hb_104, hb_105⟩ := hb_10
        have hh_10 : jSt (dC, dI) B base G0 G0 EX11_remember s.heap 0 0 [(cache_3, 1, 2, .int lz_4), (r0, 13, 9, .ref cache_3)] [] [(jFl, jLs dC dI ca G0 3 none wl)] H_10 locs_10 := ((hh_7.call hb_101 hb_102 hb_103 hb_104 hS_10 rfl (L1 := [(cache_3, 1, 2, .int lz_4), (r0, 13, 9, .ref cache_3)]) [0, 1] rfl rfl (M1 := []) [] rfl rfl (I1 := [(jFl, jLs dC dI ca G0 3 none wl)]) [0] rfl rfl).more hb_105)
        clear hh_7 ht_10 hvm_10 hz_10 hk_10 hS_10 hb_101 hb_102 hb_103 hb_104 hb_105
        refine lv_icmp_ge (tgt := 68) hx hb dX11_remember_51 (by decide) (fun c_12 => ?_) (fun c_12 => ?_)
        · skip
          have c_12' : v2_6.toInt ≥ r_11.toInt := jb_ge (rfl) (rfl) c_12
          refine lv_aload_n hx hb dX11_remember_68 rfl (lv_at hl 0 rfl) ?_
          refine j7_read hx hb hown hK (C := RX11) (T := TX11) (N := 19) rfl hly_13_9 hlk_68 (hh_10.at 1 rfl) dX11_remember_69 ?_
          have hsz_13 := hh_10.2.2.2.2.2.1
          have htt_13 := hh_10.2.2.2.2.2.2.1
          refine W.room (fun hrc_13 hrs_13 => ?_)
          refine va_callFi (A0 := jA base) (H0 := s.heap) (va_runF (hK.1 1 _ rfl).2 (As := []) (rest := []) ⟨hx, hb, hml, hown, hts⟩ (uJx4a65c_size_8abf5 l dC dI ca base B hB hAp hB1 G0 H_10 cache_3 3 lz_4) (va_cwF 0 hts (jgF (jWr_27 _ (List.mem_of_getElem? (i := 22) rfl)) (jWr_27 _ (List.mem_of_getElem? (i := 23) rfl)) (jWr_28 _ (List.mem_of_getElem? (i := 0) rfl)) (jWr_2 _ (List.mem_of_getElem? (i := 13) rfl)) (jWr_28 _ (List.mem_of_getElem? (i := 1) rfl))) rfl rfl rfl hK7.2.2.2.2.2.1.1 ⟨by decide, by decide, by decide +kernel⟩ ⟨by rw [← hR]; exact Nat.le_of_ble_eq_true rfl, by rw [← hR]; exact Nat.le_of_ble_eq_true rfl⟩) ⟨fun a U g mk q => by obtain ⟨q0, q1, q2, qK, q10, q11, q12⟩ := q; exact ⟨q0, q1, q2, jG.calling g mk a qK, q10, q11, q12⟩, hh_10.recv (C := RJx4a65c) (T := TJx4a65c) (N := 3) hB1 rfl (by decide) hg_cache_3 hK, fun U hU hW => ⟨rfl, hU, hh_10.2.1, hG.step hW hU hh_10.1, hg_cache_3, (hh_10.2.2.1.sub (L1 := [(cache_3, 1, 2, .int lz_4)]) [0] rfl), trivial⟩⟩ rfl rfl hl.1 rfl (lv_room (Nat.le_of_ble_eq_true rfl)) dX11_remember_72 ⟨by rw [hRc]; show _ + 0 ≤ _; omega, by rw [hRs]; show _ + 0 ≤ _; omega⟩) hh_10.1 (fun q _ h => h) (fun q h => h) (fun r_14 u_13 t_13 H_13 locs_13 ht_13 hvm_13 hr_14 hb_13 hz_13 hk_13 hS_13 => ?_)
          rw [ht_13] at hb_13
          obtain ⟨hb_131, hb_132, hb_133, hb_134, hb_135⟩ := hb_13
          have hh_13 : jSt (dC, dI) B base G0 G0 EX11_remember s.heap 0 0 [(cache_3, 1, 2, .int lz_4), (r0, 13, 9, .ref cache_3)] [] [(jFl, jLs dC dI ca G0 3 none wl)] H_13 locs_13 := ((hh_10.call hb_131 hb_132 hb_133 hb_134 hS_13 rfl (L1 := [(cache_3, 1, 2, .int lz_4), (r0, 13, 9, .ref cache_3)]) [0, 1] rfl rfl (M1 := []) [] rfl rfl (I1 := [(jFl, jLs dC dI ca G0 3 none wl)]) [0] rfl rfl).more hb_135)
          clear hh_10 ht_13 hvm_13 hz_13 hk_13 hS_13 hb_131 hb_132 hb_133 hb_134 hb_135
          refine lv_bipush (v := 24) hx hb dX11_remember_77 (by decide) ?_
          refine lv_icmp_lt (tgt := 93) hx hb dX11_remember_79 (by decide) (fun c_15 => ?_) (fun c_15 => ?_)
          · skip
            have c_15' : r_14.toInt < 24 := jb_lt (rfl) ((by decide)) c_15
            refine lv_aload_n hx hb dX11_remember_93 rfl (lv_at hl 0 rfl) ?_
            refine j7_read hx hb hown hK (C := RX11) (T := TX11) (N := 19) rfl hly_13_9 hlk_68 (hh_13.at 1 rfl) dX11_remember_94 ?_
            refine lv_aload_n hx hb dX11_remember_97 rfl (lv_at hl 1 rfl) ?_
            have hsz_16 := hh_13.2.2.2.2.2.1
            have htt_16 := hh_13.2.2.2.2.2.2.1
            refine W.room (fun hrc_16 hrs_16 => ?_)
            refine va_callFi (A0 := jA base) (H0 := s.heap) (va_runF (hK.1 1 _ rfl).2 (As := [.ref r1]) (rest := []) ⟨hx, hb, hml, hown, hts⟩ (uJx4a65c_add_9ea2dL3 l dC dI ca base B hB hAp hB1 hB11 hB223 G0 H_13 cache_3 r1 lz_4 wl LC LS) (va_cwF 1 hts (jgF (jWr_33 _ (List.mem_of_getElem? (i := 7) rfl)) (jWr_33 _ (List.mem_of_getElem? (i := 8) rfl)) (jWr_33 _ (List.mem_of_getElem? (i := 9) rfl)) (jWr_2 _ (List.mem_of_getElem? (i := 13) rfl)) (jWr_33 _ (List.mem_of_getElem? (i := 10) rfl))) rfl rfl rfl hK7.2.2.2.2.2.1.2.2.1 ⟨by decide, by decide, by decide +kernel⟩ ⟨by rw [← hR]; exact Nat.le_of_ble_eq_true rfl, by rw [← hR]; exact Nat.le_of_ble_eq_true rfl⟩) ⟨fun a U g mk q => by obtain ⟨q0, q1, q2, qK, q10, q11, q12, q13, q14, q15⟩ := q; exact ⟨q0, q1, q2, jG.calling g mk a qK, (jK7.calling g mk a q10), q11, q12, q13, q14, q15⟩, hh_13.recv (C := RJx4a65c) (T := TJx4a65c) (N := 3) hB1 rfl (by decide) hg_cache_3 hK, fun U hU hW => ⟨rfl, hU, hh_13.2.1, hG.step hW hU hh_13.1, (hK7.step hW hU hh_13.1), hg_cache_3, hg_r1, (hh_13.2.2.1.sub (L1 := [(cache_3, 1, 2, .int lz_4)]) [0] rfl), (hh_13.2.2.2.2.2.2.2.2.sub (L1 := [(jFl, jLs dC dI ca G0 3 none wl)]) [0] rfl), by first | omega | (refine ⟨?_, ?_⟩ <;> (first | omega | rfl | assumption | decide | exact Or.inl rfl | exact Or.inr rfl | (simp only; omega)))⟩⟩ rfl rfl hl.1 rfl (lv_room (Nat.le_of_ble_eq_true rfl)) dX11_remember_98 ⟨by rw [hRc]; omega, by rw [hRs]; omega⟩) hh_13.1 (fun q _ h => h) (fun q h => h) (fun r_17 u_16 t_16 H_16 locs_16 ht_16 hvm_16 hr_17 hb_16 hz_16 hk_16 hS_16 => ?_)
            obtain ⟨qz_16, G_16⟩ := u_16
            rw [ht_16] at hb_16
            simp only at hb_16
            obtain ⟨⟨hb_161, hb_162, hb_163, hb_164, hb_165, hb_166⟩, hN_16, hbE_16⟩ := hb_16
            have hh_16 : jSt (dC, dI) B base G0 G_16 EX11_remember s.heap (0 + (1)) (0 + (40)) [(cache_3, 1, 2, .int qz_16), (r0, 13, 9, .ref cache_3)] [] [] H_16 locs_16 := (hh_13.callG hb_161 hb_162 hb_163 hb_164 hb_165 hS_16 rfl (L1 := [(r0, 13, 9, .ref cache_3)]) [1] rfl rfl (M1 := []) [] rfl rfl (I1 := []) [] rfl rfl).more hb_166
            have hNn_16 : (jNk [0, 1, 2, 3, 4, 5, 6, 7, 8, 9, 10, 11, 12, 13, 14, 15, 16]) G0 G_16 := (jNk.rf).tr hN_16
            have hg_18 := hb_162 _ _ hg_r0
            have hg_19 := hb_162 _ _ hg_r1
            have hg_20 := hb_162 _ _ hg_cache_3
            have hh_21 := hh_16.addIs hbE_16
            obtain ⟨hr_17b, hr_17p⟩ := hr_17
            try simp only at hr_17p
            have hr_17' := jb_01 hr_17b
            refine lv_pop hx hb dX11_remember_103 rfl ?_
            have hsz_22 := hh_21.2.2.2.2.2.1
            have htt_22 := hh_21.2.2.2.2.2.2.1
            refine W.room (fun hrc_22 hrs_22 => ?_)
            refine W.widen (k := LC - s.heap.size) (n := LS - jTot s.heap) (by omega) (by omega) ?_
            rw [hQ]
            exact W.vret hx hb hr (fun t ht hW => ⟨⟨G_16, rfl, trivial, ⟨hh_21.ra (by first | (simp only; omega) | omega) (by first | (simp only; omega) | omega) (M1 := []) [] rfl ht, hNn_16, by rw [ht]; exact hh_21.2.2.2.2.2.2.2.2.sub (L1 := [(jFl, jLs dC dI ca G_16 3 none wl)]) [0] rfl⟩⟩, by rw [ht]; try exact hh_21.1.1, fun q h9 hq => by rw [ht]; try exact hh_21.1.2.1 q h9 hq⟩) hh_21.1.2.2 dX11_remember_104
          · skip
            have c_15' : r_14.toInt ≥ 24 := jb_lt_n (rfl) ((by decide)) c_15
            refine lv_aload_n hx hb dX11_remember_82 rfl (lv_at hl 0 rfl) ?_
            refine j7_read hx hb hown hK (C := RX11) (T := TX11) (N := 19) rfl hly_13_9 hlk_68 (hh_13.at 1 rfl) dX11_remember_83 ?_
            refine lv_iconst (v := 0) hx hb dX11_remember_86 (by decide) ?_
            have hsz_23 := hh_13.2.2.2.2.2.1
            have htt_23 := hh_13.2.2.2.2.2.2.1
            refine W.room (fun hrc_23 hrs_23 => ?_)
            refine j_callFx (A0 := jA base) (H0 := s.heap) (va_runF (hK.1 1 _ rfl).2 (As := [.int 0]) (rest := []) ⟨hx, hb, hml, hown, hts⟩ (uJx4a65c_remove_915e3L3 l dC dI ca base B hB hAp hB1 hB11 hB223 G0 H_13 cache_3 0 lz_4 wl) (va_cwF 1 hts (jgF (jWr_42 _ (List.mem_of_getElem? (i := 7) rfl)) (jWr_42 _ (List.mem_of_getElem? (i := 8) rfl)) (jWr_42 _ (List.mem_of_getElem? (i := 9) rfl)) (jWr_2 _ (List.mem_of_getElem? (i := 13) rfl)) (jWr_42 _ (List.mem_of_getElem? (i := 10) rfl))) rfl rfl rfl hK7.2.2.2.2.2.1.2.2.2 ⟨by decide, by decide, by decide +kernel⟩ ⟨by rw [← hR]; exact Nat.le_of_ble_eq_true rfl, by rw [← hR]; exact Nat.le_of_ble_eq_true rfl⟩) ⟨fun a U g mk q => by obtain ⟨q0, q1, q2, qK, q10, q11, q12, q13, q14⟩ := q; exact ⟨q0, q1, q2, jG.calling g mk a qK, (jK7.calling g mk a q10), q11, q12, q13, q14⟩, hh_13.recv (C := RJx4a65c) (T := TJx4a65c) (N := 3) hB1 rfl (by decide) hg_cache_3 hK, fun U hU hW => ⟨rfl, hU, hh_13.2.1, hG.step hW hU hh_13.1, (hK7.step hW hU hh_13.1), hg_cache_3, (hh_13.2.2.1.sub (L1 := [(cache_3, 1, 2, .int lz_4)]) [0] rfl), (hh_13.2.2.2.2.2.2.2.2.sub (L1 := [(jFl, jLs dC dI ca G0 3 none wl)]) [0] rfl), by first | omega | (refine ⟨?_, ?_⟩ <;> (first | omega | rfl | assumption | decide | exact Or.inl rfl | exact Or.inr rfl | (simp only; omega)))⟩⟩ rfl rfl hl.1 rfl (lv_room (Nat.le_of_ble_eq_true rfl)) dX11_remember_87 ⟨by rw [hRc]; show _ + 0 ≤ _; omega, by rw [hRs]; show _ + 0 ≤ _; omega⟩) hh_13.1 (fun q _ h => h) (fun q h => h) (fun r_24 u_23 t_23 H_23 locs_23 ht_23 hvm_23 hr_24 hb_23 hz_23 hk_23 hS_23 => ?_)
            obtain ⟨qz_23, rfl⟩ : ∃ z, z = u_23 := ⟨_, rfl⟩
            rw [ht_23] at hb_23
            obtain ⟨hb_23, hbE_23⟩ := hb_23
            obtain ⟨hb_23, hbO_23⟩ := hb_23
            obtain ⟨hb_231, hb_232, hb_233, hb_234, hb_235⟩ := hb_23
            have hh_23 : jSt (dC, dI) B base G0 G0 EX11_remember s.heap 0 0 [(cache_3, 1, 2, .int qz_23), (r0, 13, 9, .ref cache_3)] [] [(jFl, jLs dC dI ca G0 3 none wl)] H_23 locs_23 := (((hh_13.call hb_231 hb_232 hb_233 hb_234 hS_23 rfl (L1 := [(r0, 13, 9, .ref cache_3)]) [1] rfl rfl (M1 := []) [] rfl rfl (I1 := []) [] rfl rfl).more hb_235)).addIs hbE_23
            clear hh_13 ht_23 hvm_23 hz_23 hk_23 hS_23 hb_231 hb_232 hb_233 hb_234 hb_235
            clear  hbE_23
            obtain ⟨hr_24, hr_24p⟩ := hr_24
            obtain ⟨ret_25, rfl, hg_ret_25⟩ := hr_24
            refine lv_pop hx hb dX11_remember_92 rfl ?_
            refine lv_aload_n hx hb dX11_remember_93 rfl (lv_at hl 0 rfl) ?_
            refine j7_read hx hb hown hK (C := RX11) (T := TX11) (N := 19) rfl hly_13_9 hlk_68 (hh_23.at 1 rfl) dX11_remember_94 ?_
            refine lv_aload_n hx hb dX11_remember_97 rfl (lv_at hl 1 rfl) ?_
            have hsz_26 := hh_23.2.2.2.2.2.1
            have htt_26 := hh_23.2.2.2.2.2.2.1
            refine W.room (fun hrc_26 hrs_26 => ?_)
            refine va_callFi (A0 := jA base) (H0 := s.heap) (va_runF (hK.1 1 _ rfl).2 (As := [.ref r1]) (rest := []) ⟨hx, hb, hml, hown, hts⟩ (uJx4a65c_add_9ea2dL3 l dC dI ca base B hB hAp hB1 hB11 hB223 G0 H_23 cache_3 r1 qz_23 wl LC LS) (va_cwF 1 hts (jgF (jWr_33 _ (List.mem_of_getElem? (i := 7) rfl)) (jWr_33 _ (List.mem_of_getElem? (i := 8) rfl)) (jWr_33 _ (List.mem_of_getElem? (i := 9) rfl)) (jWr_2 _ (List.mem_of_getElem? (i := 13) rfl)) (jWr_33 _ (List.mem_of_getElem? (i := 10) rfl))) rfl rfl rfl hK7.2.2.2.2.2.1.2.2.1 ⟨by decide, by decide, by decide +kernel⟩ ⟨by rw [← hR]; exact Nat.le_of_ble_eq_true rfl, by rw [← hR]; exact Nat.le_of_ble_eq_true rfl⟩) ⟨fun a U g mk q => by obtain ⟨q0, q1, q2, qK, q10, q11, q12, q13, q14, q15⟩ := q; exact ⟨q0, q1, q2, jG.calling g mk a qK, (jK7.calling g mk a q10), q11, q12, q13, q14, q15⟩, hh_23.recv (C := RJx4a65c) (T := TJx4a65c) (N := 3) hB1 rfl (by decide) hg_cache_3 hK, fun U hU hW => ⟨rfl, hU, hh_23.2.1, hG.step hW hU hh_23.1, (hK7.step hW hU hh_23.1), hg_cache_3, hg_r1, (hh_23.2.2.1.sub (L1 := [(cache_3, 1, 2, .int qz_23)]) [0] rfl), (hh_23.2.2.2.2.2.2.2.2.sub (L1 := [(jFl, jLs dC dI ca G0 3 none wl)]) [0] rfl), by first | omega | (refine ⟨?_, ?_⟩ <;> (first | omega | rfl | assumption | decide | exact Or.inl rfl | exact Or.inr rfl | (simp only; omega)))⟩⟩ rfl rfl hl.1 rfl (lv_room (Nat.le_of_ble_eq_true rfl)) dX11_remember_98 ⟨by rw [hRc]; omega, by rw [hRs]; omega⟩) hh_23.1 (fun q _ h => h) (fun q h => h) (fun r_27 u_26 t_26 H_26 locs_26 ht_26 hvm_26 hr_27 hb_26 hz_26 hk_26 hS_26 => ?_)
            obtain ⟨qz_26, G_26⟩ := u_26
            rw [ht_26] at hb_26
            simp only at hb_26
            obtain ⟨⟨hb_261, hb_262, hb_263, hb_264, hb_265, hb_266⟩, hN_26, hbE_26⟩ := hb_26
            have hh_26 : jSt (dC, dI) B base G0 G_26 EX11_remember s.heap (0 + (1)) (0 + (40)) [(cache_3, 1, 2, .int qz_26), (r0, 13, 9, .ref cache_3)] [] [] H_26 locs_26 := (hh_23.callG hb_261 hb_262 hb_263 hb_264 hb_265 hS_26 rfl (L1 := [(r0, 13, 9, .ref cache_3)]) [1] rfl rfl (M1 := []) [] rfl rfl (I1 := []) [] rfl rfl).more hb_266
            have hNn_26 : (jNk [0, 1, 2, 3, 4, 5, 6, 7, 8, 9, 10, 11, 12, 13, 14, 15, 16]) G0 G_26 := (jNk.rf).tr hN_26
            have hg_28 := hb_262 _ _ hg_r0
            have hg_29 := hb_262 _ _ hg_r1
            have hg_30 := hb_262 _ _ hg_cache_3
            have hh_31 := hh_26.addIs hbE_26
            obtain ⟨hr_27b, hr_27p⟩ := hr_27
            try simp only at hr_27p
            have hr_27' := jb_01 hr_27b
            refine lv_pop hx hb dX11_remember_103 rfl ?_
            have hsz_32 := hh_31.2.2.2.2.2.1
            have htt_32 := hh_31.2.2.2.2.2.2.1
            refine W.room (fun hrc_32 hrs_32 => ?_)
            refine W.widen (k := LC - s.heap.size) (n := LS - jTot s.heap) (by omega) (by omega) ?_
            rw [hQ]
            exact W.vret hx hb hr (fun t ht hW => ⟨⟨G_26, rfl, trivial, ⟨hh_31.ra (by first | (simp only; omega) | omega) (by first | (simp only; omega) | omega) (M1 := []) [] rfl ht, hNn_26, by rw [ht]; exact hh_31.2.2.2.2.2.2.2.2.sub (L1 := [(jFl, jLs dC dI ca G_26 3 none wl)]) [0] rfl⟩⟩, by rw [ht]; try exact hh_31.1.1, fun q h9 hq => by rw [ht]; try exact hh_31.1.2.1 q h9 hq⟩) hh_31.1.2.2 dX11_remember_104
        · skip
          have c_12' : v2_6.toInt < r_11.toInt := jb_ge_n (rfl) (rfl) c_12
          refine lv_aload_n hx hb dX11_remember_54 rfl (lv_at hl 0 rfl) ?_
          refine j7_read hx hb hown hK (C := RX11) (T := TX11) (N := 19) rfl hly_13_9 hlk_68 (hh_10.at 1 rfl) dX11_remember_55 ?_
          refine lv_iload_n hx hb dX11_remember_58 rfl (lv_at hl 2 rfl) ?_
          have hsz_33 := hh_10.2.2.2.2.2.1
          have htt_33 := hh_10.2.2.2.2.2.2.1
          refine W.room (fun hrc_33 hrs_33 => ?_)
          refine j_callFx (A0 := jA base) (H0 := s.heap) (va_runF (hK.1 1 _ rfl).2 (As := [.int v2_6]) (rest := []) ⟨hx, hb, hml, hown, hts⟩ (uJx4a65c_remove_915e3L3 l dC dI ca base B hB hAp hB1 hB11 hB223 G0 H_10 cache_3 v2_6 lz_4 wl) (va_cwF 1 hts (jgF (jWr_42 _ (List.mem_of_getElem? (i := 7) rfl)) (jWr_42 _ (List.mem_of_getElem? (i := 8) rfl)) (jWr_42 _ (List.mem_of_getElem? (i := 9) rfl)) (jWr_2 _ (List.mem_of_getElem? (i := 13) rfl)) (jWr_42 _ (List.mem_of_getElem? (i := 10) rfl))) rfl rfl rfl hK7.2.2.2.2.2.1.2.2.2 ⟨by decide, by decide, by decide +kernel⟩ ⟨by rw [← hR]; exact Nat.le_of_ble_eq_true rfl, by rw [← hR]; exact Nat.le_of_ble_eq_true rfl⟩) ⟨fun a U g mk q => by obtain ⟨q0, q1, q2, qK, q10, q11, q12, q13, q14⟩ := q; exact ⟨q0, q1, q2, jG.calling g mk a qK, (jK7.calling g mk a q10), q11, q12, q13, q14⟩, hh_10.recv (C := RJx4a65c) (T := TJx4a65c) (N := 3) hB1 rfl (by decide) hg_cache_3 hK, fun U hU hW => ⟨rfl, hU, hh_10.2.1, hG.step hW hU hh_10.1, (hK7.step hW hU hh_10.1), hg_cache_3, (hh_10.2.2.1.sub (L1 := [(cache_3, 1, 2, .int lz_4)]) [0] rfl), (hh_10.2.2.2.2.2.2.2.2.sub (L1 := [(jFl, jLs dC dI ca G0 3 none wl)]) [0] rfl), by first | omega | (refine ⟨?_, ?_⟩ <;> (first | omega | rfl | assumption | decide | exact Or.inl rfl | exact Or.inr rfl | (simp only; omega)))⟩⟩ rfl rfl hl.1 rfl (lv_room (Nat.le_of_ble_eq_true rfl)) dX11_remember_59 ⟨by rw [hRc]; show _ + 0 ≤ _; omega, by rw [hRs]; show _ + 0 ≤ _; omega⟩) hh_10.1 (fun q _ h => h) (fun q h => h) (fun r_34 u_33 t_33 H_33 locs_33 ht_33 hvm_33 hr_34 hb_33 hz_33 hk_33 hS_33 => ?_)
          obtain ⟨qz_33, rfl⟩ : ∃ z, z = u_33 := ⟨_, rfl⟩
          rw [ht_33] at hb_33
          obtain ⟨hb_33, hbE_33⟩ := hb_33
          obtain ⟨hb_33, hbO_33⟩ := hb_33
          obtain ⟨hb_331, hb_332, hb_333, hb_334, hb_335⟩ := hb_33
          have hh_33 : jSt (dC, dI) B base G0 G0 EX11_remember s.heap 0 0 [(cache_3, 1, 2, .int qz_33), (r0, 13, 9, .ref cache_3)] [] [(jFl, jLs dC dI ca G0 3 none wl)] H_33 locs_33 := (((hh_10.call hb_331 hb_332 hb_333 hb_334 hS_33 rfl (L1 := [(r0, 13, 9, .ref cache_3)]) [1] rfl rfl (M1 := []) [] rfl rfl (I1 := []) [] rfl rfl).more hb_335)).addIs hbE_33
          clear hh_10 ht_33 hvm_33 hz_33 hk_33 hS_33 hb_331 hb_332 hb_333 hb_334 hb_335
          clear  hbE_33
          obtain ⟨hr_34, hr_34p⟩ := hr_34
          obtain ⟨ret_35, rfl, hg_ret_35⟩ := hr_34
          refine lv_pop hx hb dX11_remember_64 rfl ?_
          refine lv_goto (tgt := 93) hx hb dX11_remember_65 (by decide) ?_
          refine lv_aload_n hx hb dX11_remember_93 rfl (lv_at hl 0 rfl) ?_
          refine j7_read hx hb hown hK (C := RX11) (T := TX11) (N := 19) rfl hly_13_9 hlk_68 (hh_33.at 1 rfl) dX11_remember_94 ?_
          refine lv_aload_n hx hb dX11_remember_97 rfl (lv_at hl 1 rfl) ?_
          have hsz_36 := hh_33.2.2.2.2.2.1
          have htt_36 := hh_33.2.2.2.2.2.2.1
          refine W.room (fun hrc_36 hrs_36 => ?_)
          refine va_callFi (A0 := jA base) (H0 := s.heap) (va_runF (hK.1 1 _ rfl).2 (As := [.ref r1]) (rest := []) ⟨hx, hb, hml, hown, hts⟩ (uJx4a65c_add_9ea2dL3 l dC dI ca base B hB hAp hB1 hB11 hB223 G0 H_33 cache_3 r1 qz_33 wl LC LS) (va_cwF 1 hts (jgF (jWr_33 _ (List.mem_of_getElem? (i := 7) rfl)) (jWr_33 _ (List.mem_of_getElem? (i := 8) rfl)) (jWr_33 _ (List.mem_of_getElem? (i := 9) rfl)) (jWr_2 _ (List.mem_of_getElem? (i := 13) rfl)) (jWr_33 _ (List.mem_of_getElem? (i := 10) rfl))) rfl rfl rfl hK7.2.2.2.2.2.1.2.2.1 ⟨by decide, by decide, by decide +kernel⟩ ⟨by rw [← hR]; exact Nat.le_of_ble_eq_true rfl, by rw [← hR]; exact Nat.le_of_ble_eq_true rfl⟩) ⟨fun a U g mk q => by obtain ⟨q0, q1, q2, qK, q10, q11, q12, q13, q14, q15⟩ := q; exact ⟨q0, q1, q2, jG.calling g mk a qK, (jK7.calling g mk a q10), q11, q12, q13, q14, q15⟩, hh_33.recv (C := RJx4a65c) (T := TJx4a65c) (N := 3) hB1 rfl (by decide) hg_cache_3 hK, fun U hU hW => ⟨rfl, hU, hh_33.2.1, hG.step hW hU hh_33.1, (hK7.step hW hU hh_33.1), hg_cache_3, hg_r1, (hh_33.2.2.1.sub (L1 := [(cache_3, 1, 2, .int qz_33)]) [0] rfl), (hh_33.2.2.2.2.2.2.2.2.sub (L1 := [(jFl, jLs dC dI ca G0 3 none wl)]) [0] rfl), by first | omega | (refine ⟨?_, ?_⟩ <;> (first | omega | rfl | assumption | decide | exact Or.inl rfl | exact Or.inr rfl | (simp only; omega)))⟩⟩ rfl rfl hl.1 rfl (lv_room (Nat.le_of_ble_eq_true rfl)) dX11_remember_98 ⟨by rw [hRc]; omega, by rw [hRs]; omega⟩) hh_33.1 (fun q _ h => h) (fun q h => h) (fun r_37 u_36 t_36 H_36 locs_36 ht_36 hvm_36 hr_37 hb_36 hz_36 hk_36 hS_36 => ?_)
          obtain ⟨qz_36, G_36⟩ := u_36
          rw [ht_36] at hb_36
          simp only at hb_36
          obtain ⟨⟨hb_361, hb_362, hb_363, hb_364, hb_365, hb_366⟩, hN_36, hbE_36⟩ := hb_36
          have hh_36 : jSt (dC, dI) B base G0 G_36 EX11_remember s.heap (0 + (1)) (0 + (40)) [(cache_3, 1, 2, .int qz_36), (r0, 13, 9, .ref cache_3)] [] [] H_36 locs_36 := (hh_33.callG hb_361 hb_362 hb_363 hb_364 hb_365 hS_36 rfl (L1 := [(r0, 13, 9, .ref cache_3)]) [1] rfl rfl (M1 := []) [] rfl rfl (I1 := []) [] rfl rfl).more hb_366
          have hNn_36 : (jNk [0, 1, 2, 3, 4, 5, 6, 7, 8, 9, 10, 11, 12, 13, 14, 15, 16]) G0 G_36 := (jNk.rf).tr hN_36
          have hg_38 := hb_362 _ _ hg_r0
          have hg_39 := hb_362 _ _ hg_r1
          have hg_40 := hb_362 _ _ hg_cache_3
          have hh_41 := hh_36.addIs hbE_36
          obtain ⟨hr_37b, hr_37p⟩ := hr_37
          try simp only at hr_37p
          have hr_37' := jb_01 hr_37b
          refine lv_pop hx hb dX11_remember_103 rfl ?_
          have hsz_42 := hh_41.2.2.2.2.2.1
          have htt_42 := hh_41.2.2.2.2.2.2.1
          refine W.room (fun hrc_42 hrs_42 => ?_)
          refine W.widen (k := LC - s.heap.size) (n := LS - jTot s.heap) (by omega) (by omega) ?_
          rw [hQ]
          exact W.vret hx hb hr (fun t ht hW => ⟨⟨G_36, rfl, trivial, ⟨hh_41.ra (by first | (simp only; omega) | omega) (by first | (simp only; omega) | omega) (M1 := []) [] rfl ht, hNn_36, by rw [ht]; exact hh_41.2.2.2.2.2.2.2.2.sub (L1 := [(jFl, jLs dC dI ca G_36 3 none wl)]) [0] rfl⟩⟩, by rw [ht]; try exact hh_41.1.1, fun q h9 hq => by rw [ht]; try exact hh_41.1.2.1 q h9 hq⟩) hh_41.1.2.2 dX11_remember_104
      · skip
        have c_9' : v2_6.toInt < r_8.toInt := jb_ge_n (rfl) (rfl) c_9
        refine lv_aload_n hx hb dX11_remember_15 rfl (lv_at hl 0 rfl) ?_
        refine j7_read hx hb hown hK (C := RX11) (T := TX11) (N := 19) rfl hly_13_9 hlk_68 (hh_7.at 1 rfl) dX11_remember_16 ?_
        refine lv_iload_n hx hb dX11_remember_19 rfl (lv_at hl 2 rfl) ?_
        have hsz_43 := hh_7.2.2.2.2.2.1
        have htt_43 := hh_7.2.2.2.2.2.2.1
        refine W.room (fun hrc_43 hrs_43 => ?_)
        refine j_callFx (A0 := jA base) (H0 := s.heap) (va_runF (hK.1 1 _ rfl).2 (As := [.int v2_6]) (rest := []) ⟨hx, hb, hml, hown, hts⟩ (uJx4a65c_get_915e3L3 l dC dI ca base B hB hAp hB1 hB11 hB223 G0 H_7 cache_3 v2_6 lz_4 wl) (va_cwF 1 hts (jgF (jWr_28 _ (List.mem_of_getElem? (i := 3) rfl)) (jWr_28 _ (List.mem_of_getElem? (i := 4) rfl)) (jWr_28 _ (List.mem_of_getElem? (i := 5) rfl)) (jWr_2 _ (List.mem_of_getElem? (i := 13) rfl)) (jWr_28 _ (List.mem_of_getElem? (i := 6) rfl))) rfl rfl rfl hK7.2.2.2.2.2.1.2.1 ⟨by decide, by decide, by decide +kernel⟩ ⟨by rw [← hR]; exact Nat.le_of_ble_eq_true rfl, by rw [← hR]; exact Nat.le_of_ble_eq_true rfl⟩) ⟨fun a U g mk q => by obtain ⟨q0, q1, q2, qK, q10, q11, q12, q13, q14⟩ := q; exact ⟨q0, q1, q2, jG.calling g mk a qK, (jK7.calling g mk a q10), q11, q12, q13, q14⟩, hh_7.recv (C := RJx4a65c) (T := TJx4a65c) (N := 3) hB1 rfl (by decide) hg_cache_3 hK, fun U hU hW => ⟨rfl, hU, hh_7.2.1, hG.step hW hU hh_7.1, (hK7.step hW hU hh_7.1), hg_cache_3, (hh_7.2.2.1.sub (L1 := [(cache_3, 1, 2, .int lz_4)]) [0] rfl), (hh_7.2.2.2.2.2.2.2.2.sub (L1 := [(jFl, jLs dC dI ca G0 3 none wl)]) [0] rfl), by first | omega | (refine ⟨?_, ?_⟩ <;> (first | omega | rfl | assumption | decide | exact Or.inl rfl | exact Or.inr rfl | (simp only; omega)))⟩⟩ rfl rfl hl.1 rfl (lv_room (Nat.le_of_ble_eq_true rfl)) dX11_remember_20 ⟨by rw [hRc]; show _ + 0 ≤ _; omega, by rw [hRs]; show _ + 0 ≤ _; omega⟩) hh_7.1 (fun q _ h => h) (fun q h => h) (fun r_44 u_43 t_43 H_43 locs_43 ht_43 hvm_43 hr_44 hb_43 hz_43 hk_43 hS_43 => ?_)
        rw [ht_43] at hb_43
        obtain ⟨hb_43, hbE_43⟩ := hb_43
        obtain ⟨hb_431, hb_432, hb_433, hb_434, hb_435⟩ := hb_43
        have hh_43 : jSt (dC, dI) B base G0 G0 EX11_remember s.heap 0 0 [(cache_3, 1, 2, .int lz_4), (r0, 13, 9, .ref cache_3)] [] [(jFl, jLs dC dI ca G0 3 none wl)] H_43 locs_43 := (((hh_7.call hb_431 hb_432 hb_433 hb_434 hS_43 rfl (L1 := [(cache_3, 1, 2, .int lz_4), (r0, 13, 9, .ref cache_3)]) [0, 1] rfl rfl (M1 := []) [] rfl rfl (I1 := []) [] rfl rfl).more hb_435)).addIs hbE_43
        clear hh_7 ht_43 hvm_43 hz_43 hk_43 hS_43 hb_431 hb_432 hb_433 hb_434 hb_435
        clear  hbE_43
        obtain ⟨ret_45, rfl, hg_ret_45⟩ := hr_44
        refine va_castY hx hb hown (htw (.classLink RX11 189 "ProofServer$State") (jWr_77 _ (List.mem_of_getElem? (i := 12) rfl))) hK7.2.2.1.2.2.2 (hh_43.recv (C := RX9) (T := TX9) (N := 9) hB11 rfl (by decide) hg_ret_45 hK) dX11_remember_25 ?_
        refine lv_aload_n hx hb dX11_remember_28 rfl (lv_at hl 1 rfl) ?_
        have hsz_46 := hh_43.2.2.2.2.2.1
        have htt_46 := hh_43.2.2.2.2.2.2.1
        refine W.room (fun hrc_46 hrs_46 => ?_)
        refine va_calli (A0 := jA base) (H0 := s.heap) (va_runS (As := [.ref ret_45, .ref r1]) (rest := []) ⟨hx, hb, hml, hown, hts⟩ (uX9_isSameRow l dC dI ca base B hB hAp hB11 hB101 G0 H_43 ret_45 r1) (va_cwS 2 hts (jgS (jWr_77 _ (List.mem_of_getElem? (i := 18) rfl)) (jWr_77 _ (List.mem_of_getElem? (i := 19) rfl)) (jWr_4 _ (List.mem_of_getElem? (i := 18) rfl)) (jWr_77 _ (List.mem_of_getElem? (i := 20) rfl))) rfl rfl rfl (by decide +kernel) ⟨by rw [← hR]; exact Nat.le_of_ble_eq_true rfl, by rw [← hR]; exact Nat.le_of_ble_eq_true rfl⟩) ⟨fun a U g mk q => by obtain ⟨q0, q1, q2, qK, q10, q11, q12, q13⟩ := q; exact ⟨q0, q1, q2, jG.calling g mk a qK, q10, q11, q12, q13⟩, fun U hU hW => ⟨rfl, hU, hh_43.2.1, hG.step hW hU hh_43.1, hg_ret_45, hg_r1, jP.nil, trivial⟩⟩ rfl rfl hl.1 rfl (lv_room (Nat.le_of_ble_eq_true rfl)) dX11_remember_29 ⟨by rw [hRc]; show _ + 0 ≤ _; omega, by rw [hRs]; show _ + 0 ≤ _; omega⟩) hh_43.1 (fun q _ h => h) (fun q h => h) (fun r_47 u_46 t_46 H_46 locs_46 ht_46 hvm_46 hr_47 hb_46 hz_46 hk_46 hS_46 => ?_)
        rw [ht_46] at hb_46
        obtain ⟨hb_461, hb_462, hb_463, hb_464, hb_465⟩ := hb_46
        have hh_46 : jSt (dC, dI) B base G0 G0 EX11_remember s.heap 0 0 [(cache_3, 1, 2, .int lz_4), (r0, 13, 9, .ref cache_3)] [] [(jFl, jLs dC dI ca G0 3 none wl)] H_46 locs_46 := ((hh_43.call hb_461 hb_462 hb_463 hb_464 hS_46 rfl (L1 := [(cache_3, 1, 2, .int lz_4), (r0, 13, 9, .ref cache_3)]) [0, 1] rfl rfl (M1 := []) [] rfl rfl (I1 := [(jFl, jLs dC dI ca G0 3 none wl)]) [0] rfl rfl).more hb_465)
        clear hh_43 ht_46 hvm_46 hz_46 hk_46 hS_46 hb_461 hb_462 hb_463 hb_464 hb_465
        obtain ⟨hr_47b, hr_47p⟩ := hr_47
        have hr_47' := jb_01 hr_47b
        refine lv_if_ne (tgt := 41) hx hb dX11_remember_32 (by decide) (fun c_48 => ?_) (fun c_48 => ?_)
        · skip
          have c_48' : r_47.toInt ≠ 0 := jb_ne (rfl) ((by decide)) c_48
          refine lv_iload_n hx hb dX11_remember_41 rfl (lv_at hl 2 rfl) ?_
          refine lv_aload_n hx hb dX11_remember_42 rfl (lv_at hl 0 rfl) ?_
          refine j7_read hx hb hown hK (C := RX11) (T := TX11) (N := 19) rfl hly_13_9 hlk_68 (hh_46.at 1 rfl) dX11_remember_43 ?_
          have hsz_49 := hh_46.2.2.2.2.2.1
          have htt_49 := hh_46.2.2.2.2.2.2.1
          refine W.room (fun hrc_49 hrs_49 => ?_)
          refine va_callFi (A0 := jA base) (H0 := s.heap) (va_runF (hK.1 1 _ rfl).2 (As := []) (rest := [.int v2_6]) ⟨hx, hb, hml, hown, hts⟩ (uJx4a65c_size_8abf5 l dC dI ca base B hB hAp hB1 G0 H_46 cache_3 3 lz_4) (va_cwF 0 hts (jgF (jWr_27 _ (List.mem_of_getElem? (i := 22) rfl)) (jWr_27 _ (List.mem_of_getElem? (i := 23) rfl)) (jWr_28 _ (List.mem_of_getElem? (i := 0) rfl)) (jWr_2 _ (List.mem_of_getElem? (i := 13) rfl)) (jWr_28 _ (List.mem_of_getElem? (i := 1) rfl))) rfl rfl rfl hK7.2.2.2.2.2.1.1 ⟨by decide, by decide, by decide +kernel⟩ ⟨by rw [← hR]; exact Nat.le_of_ble_eq_true rfl, by rw [← hR]; exact Nat.le_of_ble_eq_true rfl⟩) ⟨fun a U g mk q => by obtain ⟨q0, q1, q2, qK, q10, q11, q12⟩ := q; exact ⟨q0, q1, q2, jG.calling g mk a qK, q10, q11, q12⟩, hh_46.recv (C := RJx4a65c) (T := TJx4a65c) (N := 3) hB1 rfl (by decide) hg_cache_3 hK, fun U hU hW => ⟨rfl, hU, hh_46.2.1, hG.step hW hU hh_46.1, hg_cache_3, (hh_46.2.2.1.sub (L1 := [(cache_3, 1, 2, .int lz_4)]) [0] rfl), trivial⟩⟩ rfl rfl hl.1 rfl (lv_room (Nat.le_of_ble_eq_true rfl)) dX11_remember_46 ⟨by rw [hRc]; show _ + 0 ≤ _; omega, by rw [hRs]; show _ + 0 ≤ _; omega⟩) hh_46.1 (fun q _ h => h) (fun q h => h) (fun r_50 u_49 t_49 H_49 locs_49 ht_49 hvm_49 hr_50 hb_49 hz_49 hk_49 hS_49 => ?_)
          rw [ht_49] at hb_49
          obtain ⟨hb_491, hb_492, hb_493, hb_494, hb_495⟩ := hb_49
          have hh_49 : jSt (dC, dI) B base G0 G0 EX11_remember s.heap 0 0 [(cache_3, 1, 2, .int lz_4), (r0, 13, 9, .ref cache_3)] [] [(jFl, jLs dC dI ca G0 3 none wl)] H_49 locs_49 := ((hh_46.call hb_491 hb_492 hb_493 hb_494 hS_49 rfl (L1 := [(cache_3, 1, 2, .int lz_4), (r0, 13, 9, .ref cache_3)]) [0, 1] rfl rfl (M1 := []) [] rfl rfl (I1 := [(jFl, jLs dC dI ca G0 3 none wl)]) [0] rfl rfl).more hb_495)
          clear hh_46 ht_49 hvm_49 hz_49 hk_49 hS_49 hb_491 hb_492 hb_493 hb_494 hb_495
          refine lv_icmp_ge (tgt := 68) hx hb dX11_remember_51 (by decide) (fun c_51 => ?_) (fun c_51 => ?_)
          · skip
            have c_51' : v2_6.toInt ≥ r_50.toInt := jb_ge (rfl) (rfl) c_51
            refine lv_aload_n hx hb dX11_remember_68 rfl (lv_at hl 0 rfl) ?_
            refine j7_read hx hb hown hK (C := RX11) (T := TX11) (N := 19) rfl hly_13_9 hlk_68 (hh_49.at 1 rfl) dX11_remember_69 ?_
            have hsz_52 := hh_49.2.2.2.2.2.1
            have htt_52 := hh_49.2.2.2.2.2.2.1
            refine W.room (fun hrc_52 hrs_52 => ?_)
            refine va_callFi (A0 := jA base) (H0 := s.heap) (va_runF (hK.1 1 _ rfl).2 (As := []) (rest := []) ⟨hx, hb, hml, hown, hts⟩ (uJx4a65c_size_8abf5 l dC dI ca base B hB hAp hB1 G0 H_49 cache_3 3 lz_4) (va_cwF 0 hts (jgF (jWr_27 _ (List.mem_of_getElem? (i := 22) rfl)) (jWr_27 _ (List.mem_of_getElem? (i := 23) rfl)) (jWr_28 _ (List.mem_of_getElem? (i := 0) rfl)) (jWr_2 _ (List.mem_of_getElem? (i := 13) rfl)) (jWr_28 _ (List.mem_of_getElem? (i := 1) rfl))) rfl rfl rfl hK7.2.2.2.2.2.1.1 ⟨by decide, by decide, by decide +kernel⟩ ⟨by rw [← hR]; exact Nat.le_of_ble_eq_true rfl, by rw [← hR]; exact Nat.le_of_ble_eq_true rfl⟩) ⟨fun a U g mk q => by obtain ⟨q0, q1, q2, qK, q10, q11, q12⟩ := q; exact ⟨q0, q1, q2, jG.calling g mk a qK, q10, q11, q12⟩, hh_49.recv (C := RJx4a65c) (T := TJx4a65c) (N := 3) hB1 rfl (by decide) hg_cache_3 hK, fun U hU hW => ⟨rfl, hU, hh_49.2.1, hG.step hW hU hh_49.1, hg_cache_3, (hh_49.2.2.1.sub (L1 := [(cache_3, 1, 2, .int lz_4)]) [0] rfl), trivial⟩⟩ rfl rfl hl.1 rfl (lv_room (Nat.le_of_ble_eq_true rfl)) dX11_remember_72 ⟨by rw [hRc]; show _ + 0 ≤ _; omega, by rw [hRs]; show _ + 0 ≤ _; omega⟩) hh_49.1 (fun q _ h => h) (fun q h => h) (fun r_53 u_52 t_52 H_52 locs_52 ht_52 hvm_52 hr_53 hb_52 hz_52 hk_52 hS_52 => ?_)
            rw [ht_52] at hb_52
            obtain ⟨hb_521, hb_522, hb_523, hb_524, hb_525⟩ := hb_52
            have hh_52 : jSt (dC, dI) B base G0 G0 EX11_remember s.heap 0 0 [(cache_3, 1, 2, .int lz_4), (r0, 13, 9, .ref cache_3)] [] [(jFl, jLs dC dI ca G0 3 none wl)] H_52 locs_52 := ((hh_49.call hb_521 hb_522 hb_523 hb_524 hS_52 rfl (L1 := [(cache_3, 1, 2, .int lz_4), (r0, 13, 9, .ref cache_3)]) [0, 1] rfl rfl (M1 := []) [] rfl rfl (I1 := [(jFl, jLs dC dI ca G0 3 none wl)]) [0] rfl rfl).more hb_525)
            clear hh_49 ht_52 hvm_52 hz_52 hk_52 hS_52 hb_521 hb_522 hb_523 hb_524 hb_525
            refine lv_bipush (v := 24) hx hb dX11_remember_77 (by decide) ?_
            refine lv_icmp_lt (tgt := 93) hx hb dX11_remember_79 (by decide) (fun c_54 => ?_) (fun c_54 => ?_)
            · skip
              have c_54' : r_53.toInt < 24 := jb_lt (rfl) ((by decide)) c_54
              refine lv_aload_n hx hb dX11_remember_93 rfl (lv_at hl 0 rfl) ?_
              refine j7_read hx hb hown hK (C := RX11) (T := TX11) (N := 19) rfl hly_13_9 hlk_68 (hh_52.at 1 rfl) dX11_remember_94 ?_
              refine lv_aload_n hx hb dX11_remember_97 rfl (lv_at hl 1 rfl) ?_
              have hsz_55 := hh_52.2.2.2.2.2.1
              have htt_55 := hh_52.2.2.2.2.2.2.1
              refine W.room (fun hrc_55 hrs_55 => ?_)
              refine va_callFi (A0 := jA base) (H0 := s.heap) (va_runF (hK.1 1 _ rfl).2 (As := [.ref r1]) (rest := []) ⟨hx, hb, hml, hown, hts⟩ (uJx4a65c_add_9ea2dL3 l dC dI ca base B hB hAp hB1 hB11 hB223 G0 H_52 cache_3 r1 lz_4 wl LC LS) (va_cwF 1 hts (jgF (jWr_33 _ (List.mem_of_getElem? (i := 7) rfl)) (jWr_33 _ (List.mem_of_getElem? (i := 8) rfl)) (jWr_33 _ (List.mem_of_getElem? (i := 9) rfl)) (jWr_2 _ (List.mem_of_getElem? (i := 13) rfl)) (jWr_33 _ (List.mem_of_getElem? (i := 10) rfl))) rfl rfl rfl hK7.2.2.2.2.2.1.2.2.1 ⟨by decide, by decide, by decide +kernel⟩ ⟨by rw [← hR]; exact Nat.le_of_ble_eq_true rfl, by rw [← hR]; exact Nat.le_of_ble_eq_true rfl⟩) ⟨fun a U g mk q => by obtain ⟨q0, q1, q2, qK, q10, q11, q12, q13, q14, q15⟩ := q; exact ⟨q0, q1, q2, jG.calling g mk a qK, (jK7.calling g mk a q10), q11, q12, q13, q14, q15⟩, hh_52.recv (C := RJx4a65c) (T := TJx4a65c) (N := 3) hB1 rfl (by decide) hg_cache_3 hK, fun U hU hW => ⟨rfl, hU, hh_52.2.1, hG.step hW hU hh_52.1, (hK7.step hW hU hh_52.1), hg_cache_3, hg_r1, (hh_52.2.2.1.sub (L1 := [(cache_3, 1, 2, .int lz_4)]) [0] rfl), (hh_52.2.2.2.2.2.2.2.2.sub (L1 := [(jFl, jLs dC dI ca G0 3 none wl)]) [0] rfl), by first | omega | (refine ⟨?_, ?_⟩ <;> (first | omega | rfl | assumption | decide | exact Or.inl rfl | exact Or.inr rfl | (simp only; omega)))⟩⟩ rfl rfl hl.1 rfl (lv_room (Nat.le_of_ble_eq_true rfl)) dX11_remember_98 ⟨by rw [hRc]; omega, by rw [hRs]; omega⟩) hh_52.1 (fun q _ h => h) (fun q h => h) (fun r_56 u_55 t_55 H_55 locs_55 ht_55 hvm_55 hr_56 hb_55 hz_55 hk_55 hS_55 => ?_)
              obtain ⟨qz_55, G_55⟩ := u_55
              rw [ht_55] at hb_55
              simp only at hb_55
              obtain ⟨⟨hb_551, hb_552, hb_553, hb_554, hb_555, hb_556⟩, hN_55, hbE_55⟩ := hb_55
              have hh_55 : jSt (dC, dI) B base G0 G_55 EX11_remember s.heap (0 + (1)) (0 + (40)) [(cache_3, 1, 2, .int qz_55), (r0, 13, 9, .ref cache_3)] [] [] H_55 locs_55 := (hh_52.callG hb_551 hb_552 hb_553 hb_554 hb_555 hS_55 rfl (L1 := [(r0, 13, 9, .ref cache_3)]) [1] rfl rfl (M1 := []) [] rfl rfl (I1 := []) [] rfl rfl).more hb_556
              have hNn_55 : (jNk [0, 1, 2, 3, 4, 5, 6, 7, 8, 9, 10, 11, 12, 13, 14, 15, 16]) G0 G_55 := (jNk.rf).tr hN_55
              have hg_57 := hb_552 _ _ hg_r0
              have hg_58 := hb_552 _ _ hg_r1
              have hg_59 := hb_552 _ _ hg_cache_3
              have hh_60 := hh_55.addIs hbE_55
              obtain ⟨hr_56b, hr_56p⟩ := hr_56
              try simp only at hr_56p
              have hr_56' := jb_01 hr_56b
              refine lv_pop hx hb dX11_remember_103 rfl ?_
              have hsz_61 := hh_60.2.2.2.2.2.1
              have htt_61 := hh_60.2.2.2.2.2.2.1
              refine W.room (fun hrc_61 hrs_61 => ?_)
              refine W.widen (k := LC - s.heap.size) (n := LS - jTot s.heap) (by omega) (by omega) ?_
              rw [hQ]
              exact W.vret hx hb hr (fun t ht hW => ⟨⟨G_55, rfl, trivial, ⟨hh_60.ra (by first | (simp only; omega) | omega) (by first | (simp only; omega) | omega) (M1 := []) [] rfl ht, hNn_55, by rw [ht]; exact hh_60.2.2.2.2.2.2.2.2.sub (L1 := [(jFl, jLs dC dI ca G_55 3 none wl)]) [0] rfl⟩⟩, by rw [ht]; try exact hh_60.1.1, fun q h9 hq => by rw [ht]; try exact hh_60.1.2.1 q h9 hq⟩) hh_60.1.2.2 dX11_remember_104
            · skip
              have c_54' : r_53.toInt ≥ 24 := jb_lt_n (rfl) ((by decide)) c_54
              refine lv_aload_n hx hb dX11_remember_82 rfl (lv_at hl 0 rfl) ?_
              refine j7_read hx hb hown hK (C := RX11) (T := TX11) (N := 19) rfl hly_13_9 hlk_68 (hh_52.at 1 rfl) dX11_remember_83 ?_
              refine lv_iconst (v := 0) hx hb dX11_remember_86 (by decide) ?_
              have hsz_62 := hh_52.2.2.2.2.2.1
              have htt_62 := hh_52.2.2.2.2.2.2.1
              refine W.room (fun hrc_62 hrs_62 => ?_)
              refine j_callFx (A0 := jA base) (H0 := s.heap) (va_runF (hK.1 1 _ rfl).2 (As := [.int 0]) (rest := []) ⟨hx, hb, hml, hown, hts⟩ (uJx4a65c_remove_915e3L3 l dC dI ca base B hB hAp hB1 hB11 hB223 G0 H_52 cache_3 0 lz_4 wl) (va_cwF 1 hts (jgF (jWr_42 _ (List.mem_of_getElem? (i := 7) rfl)) (jWr_42 _ (List.mem_of_getElem? (i := 8) rfl)) (jWr_42 _ (List.mem_of_getElem? (i := 9) rfl)) (jWr_2 _ (List.mem_of_getElem? (i := 13) rfl)) (jWr_42 _ (List.mem_of_getElem? (i := 10) rfl))) rfl rfl rfl hK7.2.2.2.2.2.1.2.2.2 ⟨by decide, by decide, by decide +kernel⟩ ⟨by rw [← hR]; exact Nat.le_of_ble_eq_true rfl, by rw [← hR]; exact Nat.le_of_ble_eq_true rfl⟩) ⟨fun a U g mk q => by obtain ⟨q0, q1, q2, qK, q10, q11, q12, q13, q14⟩ := q; exact ⟨q0, q1, q2, jG.calling g mk a qK, (jK7.calling g mk a q10), q11, q12, q13, q14⟩, hh_52.recv (C := RJx4a65c) (T := TJx4a65c) (N := 3) hB1 rfl (by decide) hg_cache_3 hK, fun U hU hW => ⟨rfl, hU, hh_52.2.1, hG.step hW hU hh_52.1, (hK7.step hW hU hh_52.1), hg_cache_3, (hh_52.2.2.1.sub (L1 := [(cache_3, 1, 2, .int lz_4)]) [0] rfl), (hh_52.2.2.2.2.2.2.2.2.sub (L1 := [(jFl, jLs dC dI ca G0 3 none wl)]) [0] rfl), by first | omega | (refine ⟨?_, ?_⟩ <;> (first | omega | rfl | assumption | decide | exact Or.inl rfl | exact Or.inr rfl | (simp only; omega)))⟩⟩ rfl rfl hl.1 rfl (lv_room (Nat.le_of_ble_eq_true rfl)) dX11_remember_87 ⟨by rw [hRc]; show _ + 0 ≤ _; omega, by rw [hRs]; show _ + 0 ≤ _; omega⟩) hh_52.1 (fun q _ h => h) (fun q h => h) (fun r_63 u_62 t_62 H_62 locs_62 ht_62 hvm_62 hr_63 hb_62 hz_62 hk_62 hS_62 => ?_)
              obtain ⟨qz_62, rfl⟩ : ∃ z, z = u_62 := ⟨_, rfl⟩
              rw [ht_62] at hb_62
              obtain ⟨hb_62, hbE_62⟩ := hb_62
              obtain ⟨hb_62, hbO_62⟩ := hb_62
              obtain ⟨hb_621, hb_622, hb_623, hb_624, hb_625⟩ := hb_62
              have hh_62 : jSt (dC, dI) B base G0 G0 EX11_remember s.heap 0 0 [(cache_3, 1, 2, .int qz_62), (r0, 13, 9, .ref cache_3)] [] [(jFl, jLs dC dI ca G0 3 none wl)] H_62 locs_62 := (((hh_52.call hb_621 hb_622 hb_623 hb_624 hS_62 rfl (L1 := [(r0, 13, 9, .ref cache_3)]) [1] rfl rfl (M1 := []) [] rfl rfl (I1 := []) [] rfl rfl).more hb_625)).addIs hbE_62
              clear hh_52 ht_62 hvm_62 hz_62 hk_62 hS_62 hb_621 hb_622 hb_623 hb_624 hb_625
              clear  hbE_62
              obtain ⟨hr_63, hr_63p⟩ := hr_63
              obtain ⟨ret_64, rfl, hg_ret_64⟩ := hr_63
              refine lv_pop hx hb dX11_remember_92 rfl ?_
              refine lv_aload_n hx hb dX11_remember_93 rfl (lv_at hl 0 rfl) ?_
              refine j7_read hx hb hown hK (C := RX11) (T := TX11) (N := 19) rfl hly_13_9 hlk_68 (hh_62.at 1 rfl) dX11_remember_94 ?_
              refine lv_aload_n hx hb dX11_remember_97 rfl (lv_at hl 1 rfl) ?_
              have hsz_65 := hh_62.2.2.2.2.2.1
              have htt_65 := hh_62.2.2.2.2.2.2.1
              refine W.room (fun hrc_65 hrs_65 => ?_)
              refine va_callFi (A0 := jA base) (H0 := s.heap) (va_runF (hK.1 1 _ rfl).2 (As := [.ref r1]) (rest := []) ⟨hx, hb, hml, hown, hts⟩ (uJx4a65c_add_9ea2dL3 l dC dI ca base B hB hAp hB1 hB11 hB223 G0 H_62 cache_3 r1 qz_62 wl LC LS) (va_cwF 1 hts (jgF (jWr_33 _ (List.mem_of_getElem? (i := 7) rfl)) (jWr_33 _ (List.mem_of_getElem? (i := 8) rfl)) (jWr_33 _ (List.mem_of_getElem? (i := 9) rfl)) (jWr_2 _ (List.mem_of_getElem? (i := 13) rfl)) (jWr_33 _ (List.mem_of_getElem? (i := 10) rfl))) rfl rfl rfl hK7.2.2.2.2.2.1.2.2.1 ⟨by decide, by decide, by decide +kernel⟩ ⟨by rw [← hR]; exact Nat.le_of_ble_eq_true rfl, by rw [← hR]; exact Nat.le_of_ble_eq_true rfl⟩) ⟨fun a U g mk q => by obtain ⟨q0, q1, q2, qK, q10, q11, q12, q13, q14, q15⟩ := q; exact ⟨q0, q1, q2, jG.calling g mk a qK, (jK7.calling g mk a q10), q11, q12, q13, q14, q15⟩, hh_62.recv (C := RJx4a65c) (T := TJx4a65c) (N := 3) hB1 rfl (by decide) hg_cache_3 hK, fun U hU hW => ⟨rfl, hU, hh_62.2.1, hG.step hW hU hh_62.1, (hK7.step hW hU hh_62.1), hg_cache_3, hg_r1, (hh_62.2.2.1.sub (L1 := [(cache_3, 1, 2, .int qz_62)]) [0] rfl), (hh_62.2.2.2.2.2.2.2.2.sub (L1 := [(jFl, jLs dC dI ca G0 3 none wl)]) [0] rfl), by first | omega | (refine ⟨?_, ?_⟩ <;> (first | omega | rfl | assumption | decide | exact Or.inl rfl | exact Or.inr rfl | (simp only; omega)))⟩⟩ rfl rfl hl.1 rfl (lv_room (Nat.le_of_ble_eq_true rfl)) dX11_remember_98 ⟨by rw [hRc]; omega, by rw [hRs]; omega⟩) hh_62.1 (fun q _ h => h) (fun q h => h) (fun r_66 u_65 t_65 H_65 locs_65 ht_65 hvm_65 hr_66 hb_65 hz_65 hk_65 hS_65 => ?_)
              obtain ⟨qz_65, G_65⟩ := u_65
              rw [ht_65] at hb_65
              simp only at hb_65
              obtain ⟨⟨hb_651, hb_652, hb_653, hb_654, hb_655, hb_656⟩, hN_65, hbE_65⟩ := hb_65
              have hh_65 : jSt (dC, dI) B base G0 G_65 EX11_remember s.heap (0 + (1)) (0 + (40)) [(cache_3, 1, 2, .int qz_65), (r0, 13, 9, .ref cache_3)] [] [] H_65 locs_65 := (hh_62.callG hb_651 hb_652 hb_653 hb_654 hb_655 hS_65 rfl (L1 := [(r0, 13, 9, .ref cache_3)]) [1] rfl rfl (M1 := []) [] rfl rfl (I1 := []) [] rfl rfl).more hb_656
              have hNn_65 : (jNk [0, 1, 2, 3, 4, 5, 6, 7, 8, 9, 10, 11, 12, 13, 14, 15, 16]) G0 G_65 := (jNk.rf).tr hN_65
              have hg_67 := hb_652 _ _ hg_r0
              have hg_68 := hb_652 _ _ hg_r1
              have hg_69 := hb_652 _ _ hg_cache_3
              have hh_70 := hh_65.addIs hbE_65
              obtain ⟨hr_66b, hr_66p⟩ := hr_66
              try simp only at hr_66p
              have hr_66' := jb_01 hr_66b
              refine lv_pop hx hb dX11_remember_103 rfl ?_
              have hsz_71 := hh_70.2.2.2.2.2.1
              have htt_71 := hh_70.2.2.2.2.2.2.1
              refine W.room (fun hrc_71 hrs_71 => ?_)
              refine W.widen (k := LC - s.heap.size) (n := LS - jTot s.heap) (by omega) (by omega) ?_
              rw [hQ]
              exact W.vret hx hb hr (fun t ht hW => ⟨⟨G_65, rfl, trivial, ⟨hh_70.ra (by first | (simp only; omega) | omega) (by first | (simp only; omega) | omega) (M1 := []) [] rfl ht, hNn_65, by rw [ht]; exact hh_70.2.2.2.2.2.2.2.2.sub (L1 := [(jFl, jLs dC dI ca G_65 3 none wl)]) [0] rfl⟩⟩, by rw [ht]; try exact hh_70.1.1, fun q h9 hq => by rw [ht]; try exact hh_70.1.2.1 q h9 hq⟩) hh_70.1.2.2 dX11_remember_104
          · skip
            have c_51' : v2_6.toInt < r_50.toInt := jb_ge_n (rfl) (rfl) c_51
            refine lv_aload_n hx hb dX11_remember_54 rfl (lv_at hl 0 rfl) ?_
            refine j7_read hx hb hown hK (C := RX11) (T := TX11) (N := 19) rfl hly_13_9 hlk_68 (hh_49.at 1 rfl) dX11_remember_55 ?_
            refine lv_iload_n hx hb dX11_remember_58 rfl (lv_at hl 2 rfl) ?_
            have hsz_72 := hh_49.2.2.2.2.2.1
            have htt_72 := hh_49.2.2.2.2.2.2.1
            refine W.room (fun hrc_72 hrs_72 => ?_)
            refine j_callFx (A0 := jA base) (H0 := s.heap) (va_runF (hK.1 1 _ rfl).2 (As := [.int v2_6]) (rest := []) ⟨hx, hb, hml, hown, hts⟩ (uJx4a65c_remove_915e3L3 l dC dI ca base B hB hAp hB1 hB11 hB223 G0 H_49 cache_3 v2_6 lz_4 wl) (va_cwF 1 hts (jgF (jWr_42 _ (List.mem_of_getElem? (i := 7) rfl)) (jWr_42 _ (List.mem_of_getElem? (i := 8) rfl)) (jWr_42 _ (List.mem_of_getElem? (i := 9) rfl)) (jWr_2 _ (List.mem_of_getElem? (i := 13) rfl)) (jWr_42 _ (List.mem_of_getElem? (i := 10) rfl))) rfl rfl rfl hK7.2.2.2.2.2.1.2.2.2 ⟨by decide, by decide, by decide +kernel⟩ ⟨by rw [← hR]; exact Nat.le_of_ble_eq_true rfl, by rw [← hR]; exact Nat.le_of_ble_eq_true rfl⟩) ⟨fun a U g mk q => by obtain ⟨q0, q1, q2, qK, q10, q11, q12, q13, q14⟩ := q; exact ⟨q0, q1, q2, jG.calling g mk a qK, (jK7.calling g mk a q10), q11, q12, q13, q14⟩, hh_49.recv (C := RJx4a65c) (T := TJx4a65c) (N := 3) hB1 rfl (by decide) hg_cache_3 hK, fun U hU hW => ⟨rfl, hU, hh_49.2.1, hG.step hW hU hh_49.1, (hK7.step hW hU hh_49.1), hg_cache_3, (hh_49.2.2.1.sub (L1 := [(cache_3, 1, 2, .int lz_4)]) [0] rfl), (hh_49.2.2.2.2.2.2.2.2.sub (L1 := [(jFl, jLs dC dI ca G0 3 none wl)]) [0] rfl), by first | omega | (refine ⟨?_, ?_⟩ <;> (first | omega | rfl | assumption | decide | exact Or.inl rfl | exact Or.inr rfl | (simp only; omega)))⟩⟩ rfl rfl hl.1 rfl (lv_room (Nat.le_of_ble_eq_true rfl)) dX11_remember_59 ⟨by rw [hRc]; show _ + 0 ≤ _; omega, by rw [hRs]; show _ + 0 ≤ _; omega⟩) hh_49.1 (fun q _ h => h) (fun q h => h) (fun r_73 u_72 t_72 H_72 locs_72 ht_72 hvm_72 hr_73 hb_72 hz_72 hk_72 hS_72 => ?_)
            obtain ⟨qz_72, rfl⟩ : ∃ z, z = u_72 := ⟨_, rfl⟩
            rw [ht_72] at hb_72
            obtain ⟨hb_72, hbE_72⟩ := hb_72
            obtain ⟨hb_72, hbO_72⟩ := hb_72
            obtain ⟨hb_721, hb_722, hb_723, hb_724, hb_725⟩ := hb_72
            have hh_72 : jSt (dC, dI) B base G0 G0 EX11_remember s.heap 0 0 [(cache_3, 1, 2, .int qz_72), (r0, 13, 9, .ref cache_3)] [] [(jFl, jLs dC dI ca G0 3 none wl)] H_72 locs_72 := (((hh_49.call hb_721 hb_722 hb_723 hb_724 hS_72 rfl (L1 := [(r0, 13, 9, .ref cache_3)]) [1] rfl rfl (M1 := []) [] rfl rfl (I1 := []) [] rfl rfl).more hb_725)).addIs hbE_72
            clear hh_49 ht_72 hvm_72 hz_72 hk_72 hS_72 hb_721 hb_722 hb_723 hb_724 hb_725
            clear  hbE_72
            obtain ⟨hr_73, hr_73p⟩ := hr_73
            obtain ⟨ret_74, rfl, hg_ret_74⟩ := hr_73
            refine lv_pop hx hb dX11_remember_64 rfl ?_
            refine lv_goto (tgt := 93) hx hb dX11_remember_65 (by decide) ?_
            refine lv_aload_n hx hb dX11_remember_93 rfl (lv_at hl 0 rfl) ?_
            refine j7_read hx hb hown hK (C := RX11) (T := TX11) (N := 19) rfl hly_13_9 hlk_68 (hh_72.at 1 rfl) dX11_remember_94 ?_
            refine lv_aload_n hx hb dX11_remember_97 rfl (lv_at hl 1 rfl) ?_
            have hsz_75 := hh_72.2.2.2.2.2.1
            have htt_75 := hh_72.2.2.2.2.2.2.1
            refine W.room (fun hrc_75 hrs_75 => ?_)
            refine va_callFi (A0 := jA base) (H0 := s.heap) (va_runF (hK.1 1 _ rfl).2 (As := [.ref r1]) (rest := []) ⟨hx, hb, hml, hown, hts⟩ (uJx4a65c_add_9ea2dL3 l dC dI ca base B hB hAp hB1 hB11 hB223 G0 H_72 cache_3 r1 qz_72 wl LC LS) (va_cwF 1 hts (jgF (jWr_33 _ (List.mem_of_getElem? (i := 7) rfl)) (jWr_33 _ (List.mem_of_getElem? (i := 8) rfl)) (jWr_33 _ (List.mem_of_getElem? (i := 9) rfl)) (jWr_2 _ (List.mem_of_getElem? (i := 13) rfl)) (jWr_33 _ (List.mem_of_getElem? (i := 10) rfl))) rfl rfl rfl hK7.2.2.2.2.2.1.2.2.1 ⟨by decide, by decide, by decide +kernel⟩ ⟨by rw [← hR]; exact Nat.le_of_ble_eq_true rfl, by rw [← hR]; exact Nat.le_of_ble_eq_true rfl⟩) ⟨fun a U g mk q => by obtain ⟨q0, q1, q2, qK, q10, q11, q12, q13, q14, q15⟩ := q; exact ⟨q0, q1, q2, jG.calling g mk a qK, (jK7.calling g mk a q10), q11, q12, q13, q14, q15⟩, hh_72.recv (C := RJx4a65c) (T := TJx4a65c) (N := 3) hB1 rfl (by decide) hg_cache_3 hK, fun U hU hW => ⟨rfl, hU, hh_72.2.1, hG.step hW hU hh_72.1, (hK7.step hW hU hh_72.1), hg_cache_3, hg_r1, (hh_72.2.2.1.sub (L1 := [(cache_3, 1, 2, .int qz_72)]) [0] rfl), (hh_72.2.2.2.2.2.2.2.2.sub (L1 := [(jFl, jLs dC dI ca G0 3 none wl)]) [0] rfl), by first | omega | (refine ⟨?_, ?_⟩ <;> (first | omega | rfl | assumption | decide | exact Or.inl rfl | exact Or.inr rfl | (simp only; omega)))⟩⟩ rfl rfl hl.1 rfl (lv_room (Nat.le_of_ble_eq_true rfl)) dX11_remember_98 ⟨by rw [hRc]; omega, by rw [hRs]; omega⟩) hh_72.1 (fun q _ h => h) (fun q h => h) (fun r_76 u_75 t_75 H_75 locs_75 ht_75 hvm_75 hr_76 hb_75 hz_75 hk_75 hS_75 => ?_)
            obtain ⟨qz_75, G_75⟩ := u_75
            rw [ht_75] at hb_75
            simp only at hb_75
            obtain ⟨⟨hb_751, hb_752, hb_753, hb_754, hb_755, hb_756⟩, hN_75, hbE_75⟩ := hb_75
            have hh_75 : jSt (dC, dI) B base G0 G_75 EX11_remember s.heap (0 + (1)) (0 + (40)) [(cache_3, 1, 2, .int qz_75), (r0, 13, 9, .ref cache_3)] [] [] H_75 locs_75 := (hh_72.callG hb_751 hb_752 hb_753 hb_754 hb_755 hS_75 rfl (L1 := [(r0, 13, 9, .ref cache_3)]) [1] rfl rfl (M1 := []) [] rfl rfl (I1 := []) [] rfl rfl).more hb_756
            have hNn_75 : (jNk [0, 1, 2, 3, 4, 5, 6, 7, 8, 9, 10, 11, 12, 13, 14, 15, 16]) G0 G_75 := (jNk.rf).tr hN_75
            have hg_77 := hb_752 _ _ hg_r0
            have hg_78 := hb_752 _ _ hg_r1
            have hg_79 := hb_752 _ _ hg_cache_3
            have hh_80 := hh_75.addIs hbE_75
            obtain ⟨hr_76b, hr_76p⟩ := hr_76
            try simp only at hr_76p
            have hr_76' := jb_01 hr_76b
            refine lv_pop hx hb dX11_remember_103 rfl ?_
            have hsz_81 := hh_80.2.2.2.2.2.1
            have htt_81 := hh_80.2.2.2.2.2.2.1
            refine W.room (fun hrc_81 hrs_81 => ?_)
            refine W.widen (k := LC - s.heap.size) (n := LS - jTot s.heap) (by omega) (by omega) ?_
            rw [hQ]
            exact W.vret hx hb hr (fun t ht hW => ⟨⟨G_75, rfl, trivial, ⟨hh_80.ra (by first | (simp only; omega) | omega) (by first | (simp only; omega) | omega) (M1 := []) [] rfl ht, hNn_75, by rw [ht]; exact hh_80.2.2.2.2.2.2.2.2.sub (L1 := [(jFl, jLs dC dI ca G_75 3 none wl)]) [0] rfl⟩⟩, by rw [ht]; try exact hh_80.1.1, fun q h9 hq => by rw [ht]; try exact hh_80.1.2.1 q h9 hq⟩) hh_80.1.2.2 dX11_remember_104
        · skip
          have c_48' : r_47.toInt = 0 := jb_ne_n (rfl) ((by decide)) c_48
          obtain ⟨z_82, ez_82⟩ : ∃ y : Int32, y = v2_6 + 1 := ⟨_, rfl⟩
          refine lv_iinc (v := z_82) (lv' := [(2, .int z_82), (0, .ref r0), (1, .ref r1)]) hx hb dX11_remember_35 hl (k := 2) rfl (by rw [ez_82]; rfl) (by decide) rfl (fun ls hl => ?_)
          have hz_82 : z_82.toInt = v2_6.toInt + 1 := by rw [ez_82]; exact jb_iadd2 (rfl) (by decide) (by omega)
          refine lv_goto (tgt := 2) hx hb dX11_remember_38 (by decide) ?_
          refine W.tight (c2 := 0) (n2 := 0) hh_46.2.2.2.2.2.1 hh_46.2.2.2.2.2.2.1 ?_
          exact L2 z_82 _ _ hh_46 (by first | omega | (refine ⟨?_, ?_⟩ <;> (first | omega | rfl | assumption | decide | exact Or.inl rfl | exact Or.inr rfl | (simp only; omega)))) (by omega) _ (lv_sub hl [1, 2, 0] rfl)
  refine W.tight (c2 := 0) (n2 := 0) hh_5.2.2.2.2.2.1 hh_5.2.2.2.2.2.2.1 ?_
  exact L2 (41 - (0 : Int32).toInt : Int).toNat.succ 0 _ _ hh_5 (by first | omega | (refine ⟨?_, ?_⟩ <;> (first | omega | rfl | assumption | decide | exact Or.inl rfl | exact Or.inr rfl | (simp only; omega)))) (by omega) _ (lv_sub hl [1, 2, 0] rfl)
end
section
theorem dX11_answerReady_0 : decode cX11_answerReady 0 = .ok (.iconst 0, 1) := by decide +kernel
theorem dX11_answerReady_1 : decode cX11_answerReady 1 = .ok (.istore_n 1, 1) := by decide +kernel
theorem dX11_answerReady_2 : decode cX11_answerReady 2 = .ok (.iconst 0, 1) := by decide +kernel
theorem dX11_answerReady_3 : decode cX11_answerReady 3 = .ok (.istore_n 2, 1) := by decide +kernel
theorem dX11_answerReady_4 : decode cX11_answerReady 4 = .ok (.iload_n 2, 1) := by decide +kernel
theorem dX11_answerReady_5 : decode cX11_answerReady 5 = .ok (.bipush 12, 2) := by decide +kernel
theorem dX11_answerReady_7 : decode cX11_answerReady 7 = .ok (.if_icmp .ge 64, 3) := by decide +kernel
theorem dX11_answerReady_10 : decode cX11_answerReady 10 = .ok (.iload_n 1, 1) := by decide +kernel
theorem dX11_answerReady_11 : decode cX11_answerReady 11 = .ok (.aload_n 0, 1) := by decide +kernel
theorem dX11_answerReady_12 : decode cX11_answerReady 12 = .ok (.getfield 65, 3) := by decide +kernel
theorem dX11_answerReady_15 : decode cX11_answerReady 15 = .ok (.invokeinterface 142 1, 5) := by decide +kernel
theorem dX11_answerReady_20 : decode cX11_answerReady 20 = .ok (.if_icmp .ge 51, 3) := by decide +kernel
theorem dX11_answerReady_23 : decode cX11_answerReady 23 = .ok (.aload_n 0, 1) := by decide +kernel
theorem dX11_answerReady_24 : decode cX11_answerReady 24 = .ok (.getfield 65, 3) := by decide +kernel
theorem dX11_answerReady_27 : decode cX11_answerReady 27 = .ok (.iload_n 1, 1) := by decide +kernel
theorem dX11_answerReady_28 : decode cX11_answerReady 28 = .ok (.invokeinterface 249 2, 5) := by decide +kernel
theorem dX11_answerReady_33 : decode cX11_answerReady 33 = .ok (.checkcast 115, 3) := by decide +kernel
theorem dX11_answerReady_36 : decode cX11_answerReady 36 = .ok (.invokevirtual 453, 3) := by decide +kernel
theorem dX11_answerReady_39 : decode cX11_answerReady 39 = .ok (.ifCond .eq 23, 3) := by decide +kernel
theorem dX11_answerReady_42 : decode cX11_answerReady 42 = .ok (.aload_n 0, 1) := by decide +kernel
theorem dX11_answerReady_43 : decode cX11_answerReady 43 = .ok (.aload_n 0, 1) := by decide +kernel
theorem dX11_answerReady_44 : decode cX11_answerReady 44 = .ok (.getfield 65, 3) := by decide +kernel
theorem dX11_answerReady_47 : decode cX11_answerReady 47 = .ok (.iload_n 1, 1) := by decide +kernel
theorem dX11_answerReady_48 : decode cX11_answerReady 48 = .ok (.invokeinterface 423 2, 5) := by decide +kernel
theorem dX11_answerReady_53 : decode cX11_answerReady 53 = .ok (.checkcast 115, 3) := by decide +kernel
theorem dX11_answerReady_56 : decode cX11_answerReady 56 = .ok (.invokevirtual 456, 3) := by decide +kernel
theorem dX11_answerReady_59 : decode cX11_answerReady 59 = .ok (.goto 6, 3) := by decide +kernel
theorem dX11_answerReady_62 : decode cX11_answerReady 62 = .ok (.iinc 1 1, 3) := by decide +kernel
theorem dX11_answerReady_65 : decode cX11_answerReady 65 = .ok (.iinc 2 1, 3) := by decide +kernel
theorem dX11_answerReady_68 : decode cX11_answerReady 68 = .ok (.goto (-64), 3) := by decide +kernel
theorem dX11_answerReady_71 : decode cX11_answerReady 71 = .ok (.return_, 1) := by decide +kernel
def EX11_answerReady : List (Nat × Nat) := [(1, 0), (1, 2), (2, 0), (2, 1), (9, 2), (13, 14), (196, 0), (221, 0), (222, 0), (223, 0), (286, 0), (287, 0), (288, 0)]
set_option maxHeartbeats 4000000 in
set_option maxRecDepth 20000 in
theorem uX11_answerReady (l : Launch) (dC : Nat → ClassId) (dI : Nat → Nat → Nat) (ca : Nat → ClassId) (base : Nat) (B : jF) (hB : jBok B) (hAp : jAp (dC, dI)) (hB1 : ∀ n G a H, B 1 n G a H ↔ jOb (dC, dI) 1 3 (F1 n G) a H) (hB2 : ∀ n G a H, B 2 n G a H ↔ jOb (dC, dI) 2 2 (F2 n G) a H) (hB3 : ∀ n G a H, B 3 n G a H ↔ jOb (dC, dI) 3 17 (F3 n G) a H) (hB4 : ∀ n G a H, B 4 n G a H ↔ jOb (dC, dI) 4 12 (F4 n G) a H) (hB5 : ∀ n G a H, B 5 n G a H ↔ jOb (dC, dI) 5 4 (F5 n G) a H) (hB7 : ∀ n G a H, B 7 n G a H ↔ jOb (dC, dI) 7 11 (F7 n G) a H) (hB8 : ∀ n G a H, B 8 n G a H ↔ jOb (dC, dI) 8 4 (F8 n G) a H) (hB9 : ∀ n G a H, B 9 n G a H ↔ jOb (dC, dI) 9 5 (F9b n G) a H) (hB10 : ∀ n G a H, B 10 n G a H ↔ jOb (dC, dI) 10 5 (F10 n G) a H) (hB11 : ∀ n G a H, B 11 n G a H ↔ jOb (dC, dI) 11 9 (F11 n G) a H) (hB13 : ∀ n G a H, B 13 n G a H ↔ jOb (dC, dI) 13 19 (F13 n G) a H) (hB101 : ∀ n G a H, B 101 n G a H ↔ jAr (dC, dI) (ca 1) (fun j z => True) n a H) (hB102 : ∀ n G a H, B 102 n G a H ↔ jAl (dC, dI) (ca 2) n a H) (hB132 : ∀ n G a H, B 132 n G a H ↔ jAr (dC, dI) (ca 1) (fun j z => 0 ≤ z.toInt ∧ z.toInt ≤ 10) n a H) (hB196 : ∀ n G a H, B 196 n G a H ↔ jAr (dC, dI) (ca 0) (fun j z => jBf j z) n a H) (hB210 : ∀ n G a H, B 210 n G a H ↔ jAq (dC, dI) (ca 6) (jQn 11 0) n G a H) (hB214 : ∀ n G a H, B 214 n G a H ↔ jAq (dC, dI) (ca 7) (jQg) n G a H) (hB222 : ∀ n G a H, B 222 n G a H ↔ jAq (dC, dI) (ca 9) (jQn 10 0) n G a H) (hB280 : ∀ n G a H, B 280 n G a H ↔ jAr (dC, dI) (ca 1) (fun j z => -1 ≤ z.toInt) n a H) (hB286 : ∀ n G a H, B 286 n G a H ↔ jAr (dC, dI) (ca 1) (fun j z => (0 ≤ z.toInt ∨ z.toInt = -3)) n a H) (hB287 : ∀ n G a H, B 287 n G a H ↔ jAr (dC, dI) (ca 1) (fun j z => 0 ≤ z.toInt ∧ z.toInt ≤ 65535) n a H) (hB288 : ∀ n G a H, B 288 n G a H ↔ jAr (dC, dI) (ca 1) (fun j z => 0 ≤ z.toInt ∧ z.toInt ≤ 160) n a H) (hB313 : ∀ n G a H, B 313 n G a H ↔ jAq (dC, dI) (ca 8) (jQk 280 80) n G a H) (G0 : jT) (H0 : Heap) (r0 : Nat) (bo : Nat) (pc : Int32) (pa : Nat) (n_pa : Nat) (ou : Nat) (wl : jWl9) (LC LS : Nat) : Met l yX11_answerReady (jw yX11_answerReady cX11_answerReady 3 none) ({ frames := 8, cells := LC - H0.size, slots := LS - jTot H0, locals := 241 }) (va_Pc [.ref r0] (fun U => U.heap = H0 ∧ jX B base G0 [] H0 ∧ jG dC dI ca base U ∧ jK2 dC dI ca U ∧ jK5 dC dI ca U ∧ jK7 dC dI ca base U ∧ G0 r0 = some (13, 0) ∧ G0 bo = some (2, 0) ∧ G0 pa = some (196, n_pa) ∧ G0 ou = some (2, 20000) ∧ jP (dC, dI) G0 H0 [(r0, 13, 4, .ref bo), (bo, 2, 1, .int pc), (bo, 2, 0, .ref pa), (r0, 13, 3, .ref ou)] ∧ jIs (dC, dI) G0 H0 [(jFy, jYb dC dI G0), (jFs11, jSef dC dI G0), (jFl, jLs dC dI ca G0 3 none wl)] ∧ H0.size + (1048576 - n_pa) / 16 + 1 ≤ LC ∧ jTot H0 + 2 * (1048576 - n_pa) ≤ LS ∧ 0 ≤ pc.toInt ∧ pc.toInt ≤ n_pa ∧ 16 ≤ n_pa ∧ n_pa ≤ 1048576 ∧ jPw n_pa)) (va_Qv (S := Int32 × Nat × Nat × jT) (fun u => 0 ≤ u.1.toInt ∧ u.1.toInt ≤ u.2.2.1 ∧ n_pa ≤ u.2.2.1 ∧ u.2.2.1 ≤ 1048576 ∧ jPw u.2.2.1) (fun u t => jRa (dC, dI) B base G0 u.2.2.2 EX11_answerReady H0 ((u.2.2.1 - n_pa) / 16) (2 * (u.2.2.1 - n_pa)) [(bo, 2, 1, .int u.1), (bo, 2, 0, .ref u.2.1)] t.heap ∧ u.2.2.2 u.2.1 = some (196, u.2.2.1) ∧ (jNk [0, 1, 2, 3, 4, 5, 6, 7, 8, 9, 10, 11, 12, 13, 14, 15, 16]) G0 u.2.2.2 ∧ jOl (dC, dI) G0 2 [bo, ou] H0 t.heap ∧ jIs (dC, dI) u.2.2.2 t.heap [(jFy, jYb dC dI u.2.2.2), (jFs11, jSef dC dI u.2.2.2), (jFl, jLs dC dI ca u.2.2.2 3 none wl)]) (jA base)) (LC - H0.size) (LS - jTot H0) (jA base) := by
  refine Met.ofW (cc := cX11_answerReady) (maxL := 3) (ret := none) (by decide) rfl ?_
  intro p e s m args below meth c s₁ Bd hml hv
  obtain ⟨rfl, hH0, hX, hG, hK2, hK5, hK7, hg_r0, hg_bo, hg_pa, hg_ou, hP0, hI0, hLC0, hLS0, hp0, hp1, hp2, hp3, hp4⟩ := hv
  have hK := hG.1
  have hx := Bd.exec
  have hb := Bd.bytes
  have hr := Bd.returns
  have hts := atoms_spec (ws := (jw yX11_answerReady cX11_answerReady 3 none)) Bd.pre
  have htw : ∀ w ∈ jWl, w.before _ s = true := fun w h => hts w (List.mem_cons_of_mem _ h)
  have hown : s.vm.findClass RX11 = some m.cls := findClass_of_methodNamed Bd.named
  have hlocks := Bd.notSynchronized
  obtain ⟨Q, hQ⟩ : ∃ Q, Q = MQ below (va_Qv (S := Int32 × Nat × Nat × jT) (fun u => 0 ≤ u.1.toInt ∧ u.1.toInt ≤ u.2.2.1 ∧ n_pa ≤ u.2.2.1 ∧ u.2.2.1 ≤ 1048576 ∧ jPw u.2.2.1) (fun u t => jRa (dC, dI) B base G0 u.2.2.2 EX11_answerReady H0 ((u.2.2.1 - n_pa) / 16) (2 * (u.2.2.1 - n_pa)) [(bo, 2, 1, .int u.1), (bo, 2, 0, .ref u.2.1)] t.heap ∧ u.2.2.2 u.2.1 = some (196, u.2.2.1) ∧ (jNk [0, 1, 2, 3, 4, 5, 6, 7, 8, 9, 10, 11, 12, 13, 14, 15, 16]) G0 u.2.2.2 ∧ jOl (dC, dI) G0 2 [bo, ou] H0 t.heap ∧ jIs (dC, dI) u.2.2.2 t.heap [(jFy, jYb dC dI u.2.2.2), (jFs11, jSef dC dI u.2.2.2), (jFl, jLs dC dI ca u.2.2.2 3 none wl)]) (jA base)) ([.ref r0] : List Value).toArray s (LC - H0.size) (LS - jTot H0) (jA base) := ⟨_, rfl⟩
  rw [← hQ]
  have hl := lv_entry ([.ref r0]) (n := 3) (Nat.le_of_ble_eq_true rfl)
  rw [lg_entry_eq]
  generalize (lg_sl ([.ref r0]) ++ List.replicate (3 - (lg_sl ([.ref r0])).length) Slot.unset).toArray = ls at hl ⊢
  have hl : lv_has ls 3 [(0, .ref r0)] := hl
  generalize hR : (headSpec (jw yX11_answerReady cX11_answerReady 3 none) ({ frames := 8, cells := LC - H0.size, slots := LS - jTot H0, locals := 241 })).room = R
  subst hH0
  have hh : jSt (dC, dI) B base G0 G0 EX11_answerReady s.heap 0 0 [(r0, 13, 4, .ref bo), (bo, 2, 1, .int pc), (bo, 2, 0, .ref pa), (r0, 13, 3, .ref ou)] [] [(jFy, jYb dC dI G0), (jFs11, jSef dC dI G0), (jFl, jLs dC dI ca G0 3 none wl)] s.heap [] := jSt.start hX hP0 jMc.nil hI0
  clear hX hP0
  have hk0 : (0 : Int32).toInt = 0 := by decide
  have hk1 : (1 : Int32).toInt = 1 := by decide
  have hk12 : (12 : Int32).toInt = 12 := by decide
  have hly_13_8 := htw (u_lay RX11 TX11 8) (jWc_wsX110 _ (u_in_lay (by decide)))
  have hlk_65 := (htw (.fieldLink RX11 65 "ProofServer" "waiting" "Ljava/util/List;") (jWr_2 _ (List.mem_of_getElem? (i := 15) rfl)))
  have hbs : base ≤ s.heap.size := Nat.le_of_lt (Nat.lt_of_le_of_lt (hh.ab hg_r0).1 (hh.ab hg_r0).2)
  have hRc : R.cells = LC - s.heap.size := by rw [← hR]; rfl
  have hRs : R.slots = LS - jTot s.heap := by rw [← hR]; rfl
  have hh_1 := hh.addI (jOl.ie (dC := dC) (dI := dI) (G0 := G0) (k := 2) (rs := [bo, ou]) (H0 := s.heap) (F := [(2, 0), (2, 1)]) (C := RX0) (T := TX0) (N := 2) rfl (by decide) hh.2.2.2.2.1 (jOl.rf))
  clear hh
  refine lv_iconst (v := 0) hx hb dX11_answerReady_0 (by decide) ?_
  refine lv_istore_n (lv' := [(1, .int 0), (0, .ref r0)]) hx hb dX11_answerReady_1 rfl hl (by decide) rfl (fun ls hl => ?_)
  refine lv_iconst (v := 0) hx hb dX11_answerReady_2 (by decide) ?_
  refine lv_istore_n (lv' := [(2, .int 0), (1, .int 0), (0, .ref r0)]) hx hb dX11_answerReady_3 rfl hl (by decide) rfl (fun ls hl => ?_)
  have L4 : ∀ (N : Nat) (Gx_2 : jT) (zcx_2 : Nat) (zsx_2 : Nat) (v1_2 : Int32) (v2_2 : Int32) (wc_2 : Int32) (wr_2 : Nat) (m_wr_2 : Nat) (H_2 : Heap) (locs_2 : List Loc), jSt (dC, dI) B base G0 Gx_2 EX11_answerReady s.heap zcx_2 zsx_2 [(bo, 2, 1, .int wc_2), (bo, 2, 0, .ref wr_2), (r0, 13, 4, .ref bo), (r0, 13, 3, .ref ou)] [] [([(2, 0), (2, 1)], jOl (dC, dI) G0 2 [bo, ou] s.heap), (jFy, jYb dC dI Gx_2), (jFs11, jSef dC dI Gx_2), (jFl, jLs dC dI ca Gx_2 3 none wl)] H_2 locs_2 → (jNk [0, 1, 2, 3, 4, 5, 6, 7, 8, 9, 10, 11, 12, 13, 14, 15, 16]) G0 Gx_2 → jLe G0 Gx_2 → Gx_2 wr_2 = some (196, m_wr_2) → (0 ≤ wc_2.toInt ∧ wc_2.toInt ≤ m_wr_2 ∧ n_pa ≤ m_wr_2 ∧ m_wr_2 ≤ 1048576 ∧ jPw m_wr_2 ∧ zcx_2 ≤ (m_wr_2 - n_pa) / 16 ∧ zsx_2 ≤ 2 * (m_wr_2 - n_pa) ∧ 0 ≤ v1_2.toInt ∧ v1_2.toInt ≤ v2_2.toInt ∧ v2_2.toInt ≤ 12) → (12 - v2_2.toInt : Int) < N → ∀ ls : Array Slot, lv_has ls 3 [(0, .ref r0), (1, .int v1_2), (2, .int v2_2)] → W p l e R s m ([.ref r0] : List Value).toArray below meth c H_2 locs_2 zcx_2 zsx_2 Q (F0 m 4 ls []) := by
    intro N
    induction N with
    | zero => intro Gx_2 zcx_2 zsx_2 v1_2 v2_2 wc_2 wr_2 m_wr_2 H_2 locs_2 hh_2 hN_2 hle_2 hg_wr_2 hi_2 hm; exact absurd hm (by omega)
    | succ N L4 =>
      intro Gx_2 zcx_2 zsx_2 v1_2 v2_2 wc_2 wr_2 m_wr_2 H_2 locs_2 hh_2 hN_2 hle_2 hg_wr_2 hi_2 hm_2 ls hl
      have hg_3 := hle_2 _ _ hg_r0
      have hg_4 := hle_2 _ _ hg_bo
      have hg_5 := hle_2 _ _ hg_ou
      obtain ⟨hi_2_0, hi_2_1, hi_2_2, hi_2_3, hi_2_4, hi_2_5, hi_2_6, hi_2_7, hi_2_8, hi_2_9⟩ := hi_2
      refine lv_iload_n hx hb dX11_answerReady_4 rfl (lv_at hl 2 rfl) ?_
      refine lv_bipush (v := 12) hx hb dX11_answerReady_5 (by decide) ?_
      refine lv_icmp_ge (tgt := 71) hx hb dX11_answerReady_7 (by decide) (fun c_6 => ?_) (fun c_6 => ?_)
      · skip
        have c_6' : v2_2.toInt ≥ 12 := jb_ge (rfl) ((by decide)) c_6
        have hsz_7 := hh_2.2.2.2.2.2.1
        have htt_7 := hh_2.2.2.2.2.2.2.1
        refine W.room (fun hrc_7 hrs_7 => ?_)
        refine W.widen (k := LC - s.heap.size) (n := LS - jTot s.heap) (by omega) (by omega) ?_
        rw [hQ]
        exact W.vret hx hb hr (fun t ht hW => ⟨⟨(wc_2, wr_2, m_wr_2, Gx_2), rfl, by (try dsimp only); exact ⟨(by first | omega | rfl | assumption | fail), (by first | omega | rfl | assumption | fail), (by first | omega | rfl | assumption | fail), (by first | omega | rfl | assumption | fail), (by first | assumption | fail | omega)⟩, ⟨hh_2.ra (by first | (simp only; omega) | omega) (by first | (simp only; omega) | omega) (M1 := [(bo, 2, 1, .int wc_2), (bo, 2, 0, .ref wr_2)]) [0, 1] rfl ht, hg_wr_2, hN_2, by rw [ht]; exact hh_2.iv 0 rfl, by rw [ht]; exact hh_2.2.2.2.2.2.2.2.2.sub (L1 := [(jFy, jYb dC dI Gx_2), (jFs11, jSef dC dI Gx_2), (jFl, jLs dC dI ca Gx_2 3 none wl)]) [1, 2, 3] rfl⟩⟩, by rw [ht]; try exact hh_2.1.1, fun q h9 hq => by rw [ht]; try exact hh_2.1.2.1 q h9 hq⟩) hh_2.1.2.2 dX11_answerReady_71
      · skip
        have c_6' : v2_2.toInt < 12 := jb_ge_n (rfl) ((by decide)) c_6
        refine lv_iload_n hx hb dX11_answerReady_10 rfl (lv_at hl 1 rfl) ?_
        refine lv_aload_n hx hb dX11_answerReady_11 rfl (lv_at hl 0 rfl) ?_
        obtain ⟨v_8, hv_8, hh_9⟩ := hh_2.pin (C := RX11) (T := TX11) (N := 19) hB13 rfl (by decide) hg_3 (i := 8) (by decide) rfl
        clear hh_2
        obtain ⟨waiting_10, rfl, hg_waiting_10⟩ := hv_8
        refine j7_read hx hb hown hK (C := RX11) (T := TX11) (N := 19) rfl hly_13_8 hlk_65 (hh_9.at 0 rfl) dX11_answerReady_12 ?_
        obtain ⟨v_13, hv_13, hh_14⟩ := hh_9.pin (C := RJx4a65c) (T := TJx4a65c) (N := 3) hB1 rfl (by decide) hg_waiting_10 (i := 2) (by decide) rfl
        obtain ⟨size_15, rfl, hlosize_15, hhisize_15⟩ := hv_13
        have hsz_11 := hh_14.2.2.2.2.2.1
        have htt_11 := hh_14.2.2.2.2.2.2.1
        refine W.room (fun hrc_11 hrs_11 => ?_)
        refine va_callFi (A0 := jA base) (H0 := s.heap) (va_runF (hK.1 1 _ rfl).2 (As := []) (rest := [.int v1_2]) ⟨hx, hb, hml, hown, hts⟩ (uJx4a65c_size_8abf5 l dC dI ca base B hB hAp hB1 Gx_2 H_2 waiting_10 2 size_15) (va_cwF 0 hts (jgF (jWr_27 _ (List.mem_of_getElem? (i := 22) rfl)) (jWr_27 _ (List.mem_of_getElem? (i := 23) rfl)) (jWr_28 _ (List.mem_of_getElem? (i := 0) rfl)) (jWr_2 _ (List.mem_of_getElem? (i := 13) rfl)) (jWr_28 _ (List.mem_of_getElem? (i := 1) rfl))) rfl rfl rfl hK7.2.2.2.2.2.1.1 ⟨by decide, by decide, by decide +kernel⟩ ⟨by rw [← hR]; exact Nat.le_of_ble_eq_true rfl, by rw [← hR]; exact Nat.le_of_ble_eq_true rfl⟩) ⟨fun a U g mk q => by obtain ⟨q0, q1, q2, qK, q10, q11, q12⟩ := q; exact ⟨q0, q1, q2, jG.calling g mk a qK, q10, q11, q12⟩, hh_14.recv (C := RJx4a65c) (T := TJx4a65c) (N := 3) hB1 rfl (by decide) hg_waiting_10 hK, fun U hU hW => ⟨rfl, hU, hh_14.2.1, hG.step hW hU hh_14.1, hg_waiting_10, (hh_14.2.2.1.sub (L1 := [(waiting_10, 1, 2, .int size_15)]) [0] rfl), trivial⟩⟩ rfl rfl hl.1 rfl (lv_room (Nat.le_of_ble_eq_true rfl)) dX11_answerReady_15 ⟨by rw [hRc]; show _ + 0 ≤ _; omega, by rw [hRs]; show _ + 0 ≤ _; omega⟩) hh_14.1 (fun q _ h => h) (fun q h => h) (fun r_12 u_11 t_11 H_11 locs_11 ht_11 hvm_11 hr_12 hb_11 hz_11 hk_11 hS_11 => ?_)
        rw [ht_11] at hb_11
        obtain ⟨hb_111, hb_112, hb_113, hb_114, hb_115⟩ := hb_11
        have hh_11 : jSt (dC, dI) B base G0 Gx_2 EX11_answerReady s.heap zcx_2 zsx_2 [(waiting_10, 1, 2, .int size_15), (r0, 13, 8, .ref waiting_10), (bo, 2, 1, .int wc_2), (bo, 2, 0, .ref wr_2), (r0, 13, 4, .ref bo), (r0, 13, 3, .ref ou)] [] [([(2, 0), (2, 1)], jOl (dC, dI) G0 2 [bo, ou] s.heap), (jFy, jYb dC dI Gx_2), (jFs11, jSef dC dI Gx_2), (jFl, jLs dC dI ca Gx_2 3 none wl)] H_11 locs_11 := ((hh_14.call hb_111 hb_112 hb_113 hb_114 hS_11 rfl (L1 := [(waiting_10, 1, 2, .int size_15), (r0, 13, 8, .ref waiting_10), (bo, 2, 1, .int wc_2), (bo, 2, 0, .ref wr_2), (r0, 13, 4, .ref bo), (r0, 13, 3, .ref ou)]) [0, 1, 2, 3, 4, 5] rfl rfl (M1 := []) [] rfl rfl (I1 := [([(2, 0), (2, 1)], jOl (dC, dI) G0 2 [bo, ou] s.heap), (jFy, jYb dC dI Gx_2), (jFs11, jSef dC dI Gx_2), (jFl, jLs dC dI ca Gx_2 3 none wl)]) [0, 1, 2, 3] rfl rfl).more hb_115)
        clear hh_14 ht_11 hvm_11 hz_11 hk_11 hS_11 hb_111 hb_112 hb_113 hb_114 hb_115
        refine lv_icmp_ge (tgt := 71) hx hb dX11_answerReady_20 (by decide) (fun c_16 => ?_) (fun c_16 => ?_)
        · skip
          have c_16' : v1_2.toInt ≥ r_12.toInt := jb_ge (rfl) (rfl) c_16
          have hsz_17 := hh_11.2.2.2.2.2.1
          have htt_17 := hh_11.2.2.2.2.2.2.1
          refine W.room (fun hrc_17 hrs_17 => ?_)
          refine W.widen (k := LC - s.heap.size) (n := LS - jTot s.heap) (by omega) (by omega) ?_
          rw [hQ]
          exact W.vret hx hb hr (fun t ht hW => ⟨⟨(wc_2, wr_2, m_wr_2, Gx_2), rfl, by (try dsimp only); exact ⟨(by first | omega | rfl | assumption | fail), (by first | omega | rfl | assumption | fail), (by first | omega | rfl | assumption | fail), (by first | omega | rfl | assumption | fail), (by first | assumption | fail | omega)⟩, ⟨hh_11.ra (by first | (simp only; omega) | omega) (by first | (simp only; omega) | omega) (M1 := [(bo, 2, 1, .int wc_2), (bo, 2, 0, .ref wr_2)]) [2, 3] rfl ht, hg_wr_2, hN_2, by rw [ht]; exact hh_11.iv 0 rfl, by rw [ht]; exact hh_11.2.2.2.2.2.2.2.2.sub (L1 := [(jFy, jYb dC dI Gx_2), (jFs11, jSef dC dI Gx_2), (jFl, jLs dC dI ca Gx_2 3 none wl)]) [1, 2, 3] rfl⟩⟩, by rw [ht]; try exact hh_11.1.1, fun q h9 hq => by rw [ht]; try exact hh_11.1.2.1 q h9 hq⟩) hh_11.1.2.2 dX11_answerReady_71
        · skip
          have c_16' : v1_2.toInt < r_12.toInt := jb_ge_n (rfl) (rfl) c_16
          refine lv_aload_n hx hb dX11_answerReady_23 rfl (lv_at hl 0 rfl) ?_
          refine j7_read hx hb hown hK (C := RX11) (T := TX11) (N := 19) rfl hly_13_8 hlk_65 (hh_11.at 1 rfl) dX11_answerReady_24 ?_
          refine lv_iload_n hx hb dX11_answerReady_27 rfl (lv_at hl 1 rfl) ?_
          have hsz_18 := hh_11.2.2.2.2.2.1
          have htt_18 := hh_11.2.2.2.2.2.2.1
          refine W.room (fun hrc_18 hrs_18 => ?_)
          refine j_callFx (A0 := jA base) (H0 := s.heap) (va_runF (hK.1 1 _ rfl).2 (As := [.int v1_2]) (rest := []) ⟨hx, hb, hml, hown, hts⟩ (uJx4a65c_get_915e3L2 l dC dI ca base B hB hAp hB1 hB10 hB222 Gx_2 H_11 waiting_10 v1_2 size_15 wl) (va_cwF 1 hts (jgF (jWr_28 _ (List.mem_of_getElem? (i := 3) rfl)) (jWr_28 _ (List.mem_of_getElem? (i := 4) rfl)) (jWr_28 _ (List.mem_of_getElem? (i := 5) rfl)) (jWr_2 _ (List.mem_of_getElem? (i := 13) rfl)) (jWr_28 _ (List.mem_of_getElem? (i := 6) rfl))) rfl rfl rfl hK7.2.2.2.2.2.1.2.1 ⟨by decide, by decide, by decide +kernel⟩ ⟨by rw [← hR]; exact Nat.le_of_ble_eq_true rfl, by rw [← hR]; exact Nat.le_of_ble_eq_true rfl⟩) ⟨fun a U g mk q => by obtain ⟨q0, q1, q2, qK, q10, q11, q12, q13, q14⟩ := q; exact ⟨q0, q1, q2, jG.calling g mk a qK, (jK7.calling g mk a q10), q11, q12, q13, q14⟩, hh_11.recv (C := RJx4a65c) (T := TJx4a65c) (N := 3) hB1 rfl (by decide) hg_waiting_10 hK, fun U hU hW => ⟨rfl, hU, hh_11.2.1, hG.step hW hU hh_11.1, (hK7.step hW hU hh_11.1), hg_waiting_10, (hh_11.2.2.1.sub (L1 := [(waiting_10, 1, 2, .int size_15)]) [0] rfl), (hh_11.2.2.2.2.2.2.2.2.sub (L1 := [(jFl, jLs dC dI ca Gx_2 3 none wl)]) [3] rfl), ⟨(by first | omega | rfl | assumption | fail), (by first | omega | rfl | assumption | fail)⟩⟩⟩ rfl rfl hl.1 rfl (lv_room (Nat.le_of_ble_eq_true rfl)) dX11_answerReady_28 ⟨by rw [hRc]; show _ + 0 ≤ _; omega, by rw [hRs]; show _ + 0 ≤ _; omega⟩) hh_11.1 (fun q _ h => h) (fun q h => h) (fun r_19 u_18 t_18 H_18 locs_18 ht_18 hvm_18 hr_19 hb_18 hz_18 hk_18 hS_18 => ?_)
          rw [ht_18] at hb_18
          obtain ⟨hb_18, hbE_18⟩ := hb_18
          obtain ⟨hb_181, hb_182, hb_183, hb_184, hb_185⟩ := hb_18
          have hh_18 : jSt (dC, dI) B base G0 Gx_2 EX11_answerReady s.heap zcx_2 zsx_2 [(waiting_10, 1, 2, .int size_15), (r0, 13, 8, .ref waiting_10), (bo, 2, 1, .int wc_2), (bo, 2, 0, .ref wr_2), (r0, 13, 4, .ref bo), (r0, 13, 3, .ref ou)] [] [(jFl, jLs dC dI ca Gx_2 3 none wl), ([(2, 0), (2, 1)], jOl (dC, dI) G0 2 [bo, ou] s.heap), (jFy, jYb dC dI Gx_2), (jFs11, jSef dC dI Gx_2)] H_18 locs_18 := (((hh_11.call hb_181 hb_182 hb_183 hb_184 hS_18 rfl (L1 := [(waiting_10, 1, 2, .int size_15), (r0, 13, 8, .ref waiting_10), (bo, 2, 1, .int wc_2), (bo, 2, 0, .ref wr_2), (r0, 13, 4, .ref bo), (r0, 13, 3, .ref ou)]) [0, 1, 2, 3, 4, 5] rfl rfl (M1 := []) [] rfl rfl (I1 := [([(2, 0), (2, 1)], jOl (dC, dI) G0 2 [bo, ou] s.heap), (jFy, jYb dC dI Gx_2), (jFs11, jSef dC dI Gx_2)]) [0, 1, 2] rfl rfl).more hb_185)).addIs hbE_18
          clear hh_11 ht_18 hvm_18 hz_18 hk_18 hS_18 hb_181 hb_182 hb_183 hb_184 hb_185
          clear  hbE_18
          obtain ⟨ret_20, rfl, hg_ret_20⟩ := hr_19
          refine va_castY hx hb hown (htw (.classLink RX11 115 "ProofServer$Request") (jWr_42 _ (List.mem_of_getElem? (i := 5) rfl))) hK7.2.2.1.2.1.2 (hh_18.recv (C := RX8) (T := TX8) (N := 5) hB10 rfl (by decide) hg_ret_20 hK) dX11_answerReady_33 ?_
          have hsz_21 := hh_18.2.2.2.2.2.1
          have htt_21 := hh_18.2.2.2.2.2.2.1
          refine W.room (fun hrc_21 hrs_21 => ?_)
          refine va_calli (A0 := jA base) (H0 := s.heap) (va_runV (As := []) (rest := []) ⟨hx, hb, hml, hown, hts⟩ (uX8_isReady l dC dI ca base B hB hAp hB3 hB10 Gx_2 H_18 ret_20) (cwV 0 hts (jgV (jWr_29 _ (List.mem_of_getElem? (i := 19) rfl)) (jWr_29 _ (List.mem_of_getElem? (i := 20) rfl)) (jWr_29 _ (List.mem_of_getElem? (i := 21) rfl)) (jWr_19 _ (List.mem_of_getElem? (i := 5) rfl)) (jWr_29 _ (List.mem_of_getElem? (i := 22) rfl))) rfl rfl rfl (by decide +kernel) ⟨by rw [← hR]; exact Nat.le_of_ble_eq_true rfl, by rw [← hR]; exact Nat.le_of_ble_eq_true rfl⟩) ⟨fun a U g mk q => by obtain ⟨q0, q1, q2, qK, q10, q11, q12⟩ := q; exact ⟨q0, q1, q2, jG.calling g mk a qK, q10, q11, q12⟩, hh_18.recv (C := RX8) (T := TX8) (N := 5) hB10 rfl (by decide) hg_ret_20 hK, fun U hU hW => ⟨rfl, hU, hh_18.2.1, hG.step hW hU hh_18.1, hg_ret_20, jP.nil, trivial⟩⟩ rfl rfl hl.1 rfl (lv_room (Nat.le_of_ble_eq_true rfl)) dX11_answerReady_36 ⟨by rw [hRc]; show _ + 0 ≤ _; omega, by rw [hRs]; show _ + 0 ≤ _; omega⟩) hh_18.1 (fun q _ h => h) (fun q h => h) (fun r_22 u_21 t_21 H_21 locs_21 ht_21 hvm_21 hr_22 hb_21 hz_21 hk_21 hS_21 => ?_)
          rw [ht_21] at hb_21
          obtain ⟨hb_211, hb_212, hb_213, hb_214, hb_215⟩ := hb_21
          have hh_21 : jSt (dC, dI) B base G0 Gx_2 EX11_answerReady s.heap zcx_2 zsx_2 [(waiting_10, 1, 2, .int size_15), (r0, 13, 8, .ref waiting_10), (bo, 2, 1, .int wc_2), (bo, 2, 0, .ref wr_2), (r0, 13, 4, .ref bo), (r0, 13, 3, .ref ou)] [] [(jFl, jLs dC dI ca Gx_2 3 none wl), ([(2, 0), (2, 1)], jOl (dC, dI) G0 2 [bo, ou] s.heap), (jFy, jYb dC dI Gx_2), (jFs11, jSef dC dI Gx_2)] H_21 locs_21 := ((hh_18.call hb_211 hb_212 hb_213 hb_214 hS_21 rfl (L1 := [(waiting_10, 1, 2, .int size_15), (r0, 13, 8, .ref waiting_10), (bo, 2, 1, .int wc_2), (bo, 2, 0, .ref wr_2), (r0, 13, 4, .ref bo), (r0, 13, 3, .ref ou)]) [0, 1, 2, 3, 4, 5] rfl rfl (M1 := []) [] rfl rfl (I1 := [(jFl, jLs dC dI ca Gx_2 3 none wl), ([(2, 0), (2, 1)], jOl (dC, dI) G0 2 [bo, ou] s.heap), (jFy, jYb dC dI Gx_2), (jFs11, jSef dC dI Gx_2)]) [0, 1, 2, 3] rfl rfl).more hb_215)
          clear hh_18 ht_21 hvm_21 hz_21 hk_21 hS_21 hb_211 hb_212 hb_213 hb_214 hb_215
          obtain ⟨hr_22b, hr_22p⟩ := hr_22
          have hr_22' := jb_01 hr_22b
          refine lv_if_eq (tgt := 62) hx hb dX11_answerReady_39 (by decide) (fun c_23 => ?_) (fun c_23 => ?_)
          · skip
            have c_23' : r_22.toInt = 0 := jb_eq (rfl) ((by decide)) c_23
            obtain ⟨z_24, ez_24⟩ : ∃ y : Int32, y = v1_2 + 1 := ⟨_, rfl⟩
            refine lv_iinc (v := z_24) (lv' := [(1, .int z_24), (0, .ref r0), (2, .int v2_2)]) hx hb dX11_answerReady_62 hl (k := 1) rfl (by rw [ez_24]; rfl) (by decide) rfl (fun ls hl => ?_)
            have hz_24 : z_24.toInt = v1_2.toInt + 1 := by rw [ez_24]; exact jb_iadd2 (rfl) (by decide) (by omega)
            obtain ⟨z_25, ez_25⟩ : ∃ y : Int32, y = v2_2 + 1 := ⟨_, rfl⟩
            refine lv_iinc (v := z_25) (lv' := [(2, .int z_25), (1, .int z_24), (0, .ref r0)]) hx hb dX11_answerReady_65 hl (k := 2) rfl (by rw [ez_25]; rfl) (by decide) rfl (fun ls hl => ?_)
            have hz_25 : z_25.toInt = v2_2.toInt + 1 := by rw [ez_25]; exact jb_iadd2 (rfl) (by decide) (by omega)
            refine lv_goto (tgt := 4) hx hb dX11_answerReady_68 (by decide) ?_
            refine W.tight (c2 := zcx_2) (n2 := zsx_2) hh_21.2.2.2.2.2.1 hh_21.2.2.2.2.2.2.1 ?_
            exact L4 Gx_2 zcx_2 zsx_2 z_24 z_25 wc_2 wr_2 m_wr_2 _ _ (hh_21.sub (L1 := [(bo, 2, 1, .int wc_2), (bo, 2, 0, .ref wr_2), (r0, 13, 4, .ref bo), (r0, 13, 3, .ref ou)]) [2, 3, 4, 5] rfl (M1 := []) [] rfl (I1 := [([(2, 0), (2, 1)], jOl (dC, dI) G0 2 [bo, ou] s.heap), (jFy, jYb dC dI Gx_2), (jFs11, jSef dC dI Gx_2), (jFl, jLs dC dI ca Gx_2 3 none wl)]) [1, 2, 3, 0] rfl) (hN_2) (hle_2) hg_wr_2 (⟨(by first | omega | rfl | assumption | fail), (by first | omega | rfl | assumption | fail), (by first | omega | rfl | assumption | fail), (by first | omega | rfl | assumption | fail), (by first | assumption | fail | omega), (by first | omega | rfl | assumption | fail), (by first | omega | rfl | assumption | fail), (by first | omega | rfl | assumption | fail), (by first | omega | rfl | assumption | fail), (by first | omega | rfl | assumption | fail)⟩) (by omega) _ (lv_sub hl [2, 1, 0] rfl)
          · skip
            have c_23' : r_22.toInt ≠ 0 := jb_eq_n (rfl) ((by decide)) c_23
            refine lv_aload_n hx hb dX11_answerReady_42 rfl (lv_at hl 0 rfl) ?_
            refine lv_aload_n hx hb dX11_answerReady_43 rfl (lv_at hl 0 rfl) ?_
            refine j7_read hx hb hown hK (C := RX11) (T := TX11) (N := 19) rfl hly_13_8 hlk_65 (hh_21.at 1 rfl) dX11_answerReady_44 ?_
            refine lv_iload_n hx hb dX11_answerReady_47 rfl (lv_at hl 1 rfl) ?_
            have hsz_26 := hh_21.2.2.2.2.2.1
            have htt_26 := hh_21.2.2.2.2.2.2.1
            refine W.room (fun hrc_26 hrs_26 => ?_)
            refine j_callFx (A0 := jA base) (H0 := s.heap) (va_runF (hK.1 1 _ rfl).2 (As := [.int v1_2]) (rest := [.ref r0]) ⟨hx, hb, hml, hown, hts⟩ (uJx4a65c_remove_915e3L2 l dC dI ca base B hB hAp hB1 hB10 hB222 Gx_2 H_21 waiting_10 v1_2 size_15 wl) (va_cwF 1 hts (jgF (jWr_42 _ (List.mem_of_getElem? (i := 7) rfl)) (jWr_42 _ (List.mem_of_getElem? (i := 8) rfl)) (jWr_42 _ (List.mem_of_getElem? (i := 9) rfl)) (jWr_2 _ (List.mem_of_getElem? (i := 13) rfl)) (jWr_42 _ (List.mem_of_getElem? (i := 10) rfl))) rfl rfl rfl hK7.2.2.2.2.2.1.2.2.2 ⟨by decide, by decide, by decide +kernel⟩ ⟨by rw [← hR]; exact Nat.le_of_ble_eq_true rfl, by rw [← hR]; exact Nat.le_of_ble_eq_true rfl⟩) ⟨fun a U g mk q => by obtain ⟨q0, q1, q2, qK, q10, q11, q12, q13, q14⟩ := q; exact ⟨q0, q1, q2, jG.calling g mk a qK, (jK7.calling g mk a q10), q11, q12, q13, q14⟩, hh_21.recv (C := RJx4a65c) (T := TJx4a65c) (N := 3) hB1 rfl (by decide) hg_waiting_10 hK, fun U hU hW => ⟨rfl, hU, hh_21.2.1, hG.step hW hU hh_21.1, (hK7.step hW hU hh_21.1), hg_waiting_10, (hh_21.2.2.1.sub (L1 := [(waiting_10, 1, 2, .int size_15)]) [0] rfl), (hh_21.2.2.2.2.2.2.2.2.sub (L1 := [(jFl, jLs dC dI ca Gx_2 3 none wl)]) [0] rfl), ⟨(by first | omega | rfl | assumption | fail), (by first | omega | rfl | assumption | fail)⟩⟩⟩ rfl rfl hl.1 rfl (lv_room (Nat.le_of_ble_eq_true rfl)) dX11_answerReady_48 ⟨by rw [hRc]; show _ + 0 ≤ _; omega, by rw [hRs]; show _ + 0 ≤ _; omega⟩) hh_21.1 (fun q _ h => h) (fun q h => h) (fun r_27 u_26 t_26 H_26 locs_26 ht_26 hvm_26 hr_27 hb_26 hz_26 hk_26 hS_26 => ?_)
            obtain ⟨qz_26, rfl⟩ : ∃ z, z = u_26 := ⟨_, rfl⟩
            rw [ht_26] at hb_26
            obtain ⟨hb_26, hbE_26⟩ := hb_26
            obtain ⟨hb_26, hbO_26⟩ := hb_26
            obtain ⟨hb_261, hb_262, hb_263, hb_264, hb_265⟩ := hb_26
            have hh_26 : jSt (dC, dI) B base G0 Gx_2 EX11_answerReady s.heap zcx_2 zsx_2 [(waiting_10, 1, 2, .int qz_26), (r0, 13, 8, .ref waiting_10), (bo, 2, 1, .int wc_2), (bo, 2, 0, .ref wr_2), (r0, 13, 4, .ref bo), (r0, 13, 3, .ref ou)] [] [(jFl, jLs dC dI ca Gx_2 3 none wl), ([(2, 0), (2, 1)], jOl (dC, dI) G0 2 [bo, ou] s.heap), (jFy, jYb dC dI Gx_2), (jFs11, jSef dC dI Gx_2)] H_26 locs_26 := (((hh_21.call hb_261 hb_262 hb_263 hb_264 hS_26 rfl (L1 := [(r0, 13, 8, .ref waiting_10), (bo, 2, 1, .int wc_2), (bo, 2, 0, .ref wr_2), (r0, 13, 4, .ref bo), (r0, 13, 3, .ref ou)]) [1, 2, 3, 4, 5] rfl rfl (M1 := []) [] rfl rfl (I1 := [([(2, 0), (2, 1)], jOl (dC, dI) G0 2 [bo, ou] s.heap), (jFy, jYb dC dI Gx_2), (jFs11, jSef dC dI Gx_2)]) [1, 2, 3] rfl rfl).more hb_265)).addIs hbE_26
            clear hh_21 ht_26 hvm_26 hz_26 hk_26 hS_26 hb_261 hb_262 hb_263 hb_264 hb_265
            clear  hbE_26
            obtain ⟨hr_27, hr_27p⟩ := hr_27
            obtain ⟨ret_28, rfl, hg_ret_28⟩ := hr_27
            refine va_castY hx hb hown (htw (.classLink RX11 115 "ProofServer$Request") (jWr_42 _ (List.mem_of_getElem? (i := 5) rfl))) hK7.2.2.1.2.1.2 (hh_26.recv (C := RX8) (T := TX8) (N := 5) hB10 rfl (by decide) hg_ret_28 hK) dX11_answerReady_53 ?_
            have hsz_29 := hh_26.2.2.2.2.2.1
            have htt_29 := hh_26.2.2.2.2.2.2.1
            refine W.room (fun hrc_29 hrs_29 => ?_)
            refine va_callv (A0 := jA base) (H0 := s.heap) (va_runV (As := [.ref ret_28]) (rest := []) ⟨hx, hb, hml, hown, hts⟩ (uX11_reply l dC dI ca base B hB hAp hB2 hB3 hB4 hB5 hB7 hB8 hB9 hB10 hB11 hB13 hB101 hB102 hB132 hB196 hB210 hB214 hB280 hB286 hB287 hB288 hB313 Gx_2 H_26 r0 ret_28 bo wc_2 wr_2 m_wr_2 ou LC LS) (cwV 1 hts (jgV (jWr_30 _ (List.mem_of_getElem? (i := 2) rfl)) (jWr_30 _ (List.mem_of_getElem? (i := 3) rfl)) (jWr_30 _ (List.mem_of_getElem? (i := 4) rfl)) (jWr_1 _ (List.mem_of_getElem? (i := 2) rfl)) (jWr_30 _ (List.mem_of_getElem? (i := 5) rfl))) rfl rfl rfl (by decide +kernel) ⟨by rw [← hR]; exact Nat.le_of_ble_eq_true rfl, by rw [← hR]; exact Nat.le_of_ble_eq_true rfl⟩) ⟨fun a U g mk q => by obtain ⟨q0, q1, q2, qK, q10, q11, q12, q13, q14, q15, q16, q17, q18, q19⟩ := q; exact ⟨q0, q1, q2, jG.calling g mk a qK, (va_K.moved (Vm.Alike.refl U.vm) q10), (jK5.moved (Vm.Alike.refl U.vm) q11), q12, q13, q14, q15, q16, q17, q18, q19⟩, hh_26.recv (C := RX11) (T := TX11) (N := 19) hB13 rfl (by decide) hg_3 hK, fun U hU hW => ⟨rfl, hU, hh_26.2.1, hG.step hW hU hh_26.1, va_K.moved hW.alike hK2, jK5.moved hW.alike hK5, hg_3, hg_ret_28, hg_4, hg_wr_2, hg_5, (hh_26.2.2.1.sub (L1 := [(r0, 13, 4, .ref bo), (bo, 2, 1, .int wc_2), (bo, 2, 0, .ref wr_2), (r0, 13, 3, .ref ou)]) [4, 2, 3, 5] rfl), (hh_26.2.2.2.2.2.2.2.2.sub (L1 := [(jFy, jYb dC dI Gx_2), (jFs11, jSef dC dI Gx_2)]) [2, 3] rfl), (by omega), (by omega), ⟨(by first | omega | rfl | assumption | fail), (by first | omega | rfl | assumption | fail), (by first | omega | rfl | assumption | fail), (by first | omega | rfl | assumption | fail), (by first | assumption | fail | omega)⟩⟩⟩ rfl rfl hl.1 rfl (lv_room (Nat.le_of_ble_eq_true rfl)) dX11_answerReady_56 ⟨by rw [hRc]; omega, by rw [hRs]; omega⟩) hh_26.1 (fun q _ h => h) (fun q h => h) (fun u_29 t_29 H_29 locs_29 ht_29 hvm_29 hr_30 hb_29 hz_29 hk_29 hS_29 => ?_)
            obtain ⟨qc_29, qa_29, m_qa_29, G_29⟩ := u_29
            rw [ht_29] at hb_29
            simp only at hb_29
            obtain ⟨⟨hb_291, hb_292, hb_293, hb_294, hb_295, hb_296⟩, hgq_29_0, hN_29, hbO_29, hbE_29⟩ := hb_29
            have hh_29 : jSt (dC, dI) B base G0 G_29 EX11_answerReady s.heap (zcx_2 + ((m_qa_29 - m_wr_2) / 16)) (zsx_2 + (2 * (m_qa_29 - m_wr_2))) [(bo, 2, 1, .int qc_29), (bo, 2, 0, .ref qa_29), (waiting_10, 1, 2, .int qz_26), (r0, 13, 8, .ref waiting_10), (r0, 13, 4, .ref bo), (r0, 13, 3, .ref ou)] [] [(jFl, jLs dC dI ca Gx_2 3 none wl)] H_29 locs_29 := (hh_26.callG hb_291 hb_292 hb_293 hb_294 hb_295 hS_29 rfl (L1 := [(waiting_10, 1, 2, .int qz_26), (r0, 13, 8, .ref waiting_10), (r0, 13, 4, .ref bo), (r0, 13, 3, .ref ou)]) [0, 1, 4, 5] rfl rfl (M1 := []) [] rfl rfl (I1 := [(jFl, jLs dC dI ca Gx_2 3 none wl)]) [0] rfl rfl).more hb_296
            have hNn_29 : (jNk [0, 1, 2, 3, 4, 5, 6, 7, 8, 9, 10, 11, 12, 13, 14, 15, 16]) G0 G_29 := (hN_2).tr hN_29
            have hg_31 := hb_292 _ _ hg_3
            have hg_32 := hb_292 _ _ hg_waiting_10
            have hg_33 := hb_292 _ _ hg_4
            have hg_34 := hb_292 _ _ hg_5
            have hd_35 := jLs.grow (hh_29.iv 0 rfl) hb_292 hN_29 (by decide)
            have hh_36 := hh_29.sub (L1 := [(bo, 2, 1, .int qc_29), (bo, 2, 0, .ref qa_29), (waiting_10, 1, 2, .int qz_26), (r0, 13, 8, .ref waiting_10), (r0, 13, 4, .ref bo), (r0, 13, 3, .ref ou)]) [0, 1, 2, 3, 4, 5] rfl (M1 := []) [] rfl (I1 := []) [] rfl
            clear hh_29
            have hh_37 := hh_36.addI (jLs.ie hd_35)
            clear hh_36
            have hh_38 := hh_37.addIs hbE_29
            have hd_39 := jOl.trL (hh_26.iv 1 rfl) hh_26.2.2.2.2.1 hbO_29 (by simp)
            have hh_40 := hh_38.addI (jOl.ie (dC := dC) (dI := dI) (G0 := G0) (k := 2) (rs := [bo, ou]) (H0 := s.heap) (F := [(2, 0), (2, 1)]) (C := RX0) (T := TX0) (N := 2) rfl (by decide) hh_38.2.2.2.2.1 (hd_39))
            clear hh_38
            try simp only at hr_30
            obtain ⟨hr_30_0, hr_30_1, hr_30_2, hr_30_3, hr_30_4⟩ := hr_30
            have hh_41 := hh_40.wk (zc1 := (m_qa_29 - n_pa) / 16) (zs1 := 2 * (m_qa_29 - n_pa)) (by omega) (by omega)
            clear hh_40
            try clear hsz_29 htt_29 hrc_29 hrs_29
            try clear hb_294 hb_295
            refine lv_goto (tgt := 65) hx hb dX11_answerReady_59 (by decide) ?_
            obtain ⟨z_42, ez_42⟩ : ∃ y : Int32, y = v2_2 + 1 := ⟨_, rfl⟩
            refine lv_iinc (v := z_42) (lv' := [(2, .int z_42), (0, .ref r0), (1, .int v1_2)]) hx hb dX11_answerReady_65 hl (k := 2) rfl (by rw [ez_42]; rfl) (by decide) rfl (fun ls hl => ?_)
            have hz_42 : z_42.toInt = v2_2.toInt + 1 := by rw [ez_42]; exact jb_iadd2 (rfl) (by decide) (by omega)
            refine lv_goto (tgt := 4) hx hb dX11_answerReady_68 (by decide) ?_
            refine W.tight (c2 := ((m_qa_29 - n_pa) / 16)) (n2 := (2 * (m_qa_29 - n_pa))) hh_41.2.2.2.2.2.1 hh_41.2.2.2.2.2.2.1 ?_
            exact L4 G_29 ((m_qa_29 - n_pa) / 16) (2 * (m_qa_29 - n_pa)) v1_2 z_42 qc_29 qa_29 m_qa_29 _ _ (hh_41.sub (L1 := [(bo, 2, 1, .int qc_29), (bo, 2, 0, .ref qa_29), (r0, 13, 4, .ref bo), (r0, 13, 3, .ref ou)]) [0, 1, 4, 5] rfl (M1 := []) [] rfl (I1 := [([(2, 0), (2, 1)], jOl (dC, dI) G0 2 [bo, ou] s.heap), (jFy, jYb dC dI G_29), (jFs11, jSef dC dI G_29), (jFl, jLs dC dI ca G_29 3 none wl)]) [0, 1, 2, 3] rfl) (hNn_29) ((hle_2).tr hb_292) hgq_29_0 (⟨(by first | omega | rfl | assumption | fail), (by first | omega | rfl | assumption | fail), (by first | omega | rfl | assumption | fail), (by first | omega | rfl | assumption | fail), (by first | assumption | fail | omega), (by first | omega | rfl | assumption | fail), (by first | omega | rfl | assumption | fail), (by first | omega | rfl | assumption | fail), (by first | omega | rfl | assumption | fail), (by first | omega | rfl | assumption | fail)⟩) (by omega) _ (lv_sub hl [1, 2, 0] rfl)
  refine W.tight (c2 := 0) (n2 := 0) hh_1.2.2.2.2.2.1 hh_1.2.2.2.2.2.2.1 ?_
  exact L4 (12 - (0 : Int32).toInt : Int).toNat.succ G0 0 0 0 0 pc pa n_pa _ _ (hh_1.sub (L1 := [(bo, 2, 1, .int pc), (bo, 2, 0, .ref pa), (r0, 13, 4, .ref bo), (r0, 13, 3, .ref ou)]) [1, 2, 0, 3] rfl (M1 := []) [] rfl (I1 := [([(2, 0), (2, 1)], jOl (dC, dI) G0 2 [bo, ou] s.heap), (jFy, jYb dC dI G0), (jFs11, jSef dC dI G0), (jFl, jLs dC dI ca G0 3 none wl)]) [0, 1, 2, 3] rfl) (jNk.rf) (jLe.rf) hg_pa (⟨(by first | omega | rfl | assumption | fail), (by first | omega | rfl | assumption | fail), (by first | omega | rfl | assumption | fail), (by first | omega | rfl | assumption | fail), (by first | assumption | fail | omega), (by first | omega | rfl | assumption | fail), (by first | omega | rfl | assumption | fail), (by first | omega | rfl | assumption | fail), (by first | omega | rfl | assumption | fail), (by first | omega | rfl | assumption | fail)⟩) (by omega) _ (lv_sub hl [2, 1, 0] rfl)
end
section
def EX1_addCheckedE : List (Nat × Nat) := [(3, 10), (210, 0)]
set_option maxHeartbeats 4000000 in
set_option maxRecDepth 20000 in
theorem uX1_addCheckedE (l : Launch) (dC : Nat → ClassId) (dI : Nat → Nat → Nat) (ca : Nat → ClassId) (base : Nat) (B : jF) (hB : jBok B) (hAp : jAp (dC, dI)) (hB3 : ∀ n G a H, B 3 n G a H ↔ jOb (dC, dI) 3 17 (F3 n G) a H) (hB11 : ∀ n G a H, B 11 n G a H ↔ jOb (dC, dI) 11 9 (F11 n G) a H) (hB210 : ∀ n G a H, B 210 n G a H ↔ jAq (dC, dI) (ca 6) (jQn 11 0) n G a H) (G0 : jT) (H0 : Heap) (r0 : Nat) (r1 : Nat) (sa_ : Nat) (ea_ : Nat) (ps : Int32) (pk : Int32) (ph : Nat) : Met l yX1_addChecked (jw yX1_addChecked cX1_addChecked 2 none) ({ frames := 0, cells := 0, slots := 0, locals := 0 }) (va_Pc [.ref r0, .ref r1] (fun U => U.heap = H0 ∧ jX B base G0 [] H0 ∧ jG dC dI ca base U ∧ jK2 dC dI ca U ∧ G0 r0 = some (3, 0) ∧ G0 r1 = some (11, 0) ∧ G0 sa_ = some (171, 40) ∧ G0 ea_ = some (172, 40) ∧ jP (dC, dI) G0 H0 [(r0, 3, 5, .ref sa_), (r0, 3, 6, .ref ea_), (r0, 3, 4, .int ps), (r0, 3, 10, .int pk)] ∧ jIs (dC, dI) G0 H0 [(jFdo, jDcc dC dI ca G0 (some r0) ph)] ∧ 0 ≤ pk.toInt ∧ pk.toInt ≤ 40 ∧ 0 ≤ ps.toInt ∧ ps.toInt ≤ 40)) (va_Qv (S := Int32) (fun u => (pk.toInt < ps.toInt ∧ u.toInt = pk.toInt + 1) ∨ (ps.toInt ≤ pk.toInt ∧ u.toInt = pk.toInt)) (fun u t => ((jRt (dC, dI) B base G0 EX1_addCheckedE H0 [(r0, 3, 10, .int u)] t.heap) ∧ jOw (dC, dI) G0 3 r0 H0 t.heap) ∧ jIs (dC, dI) G0 t.heap [(jFdo, jDcc dC dI ca G0 (some r0) ph)]) (jA base)) 0 0 (jA base) := by
  refine Met.ofW (cc := cX1_addChecked) (maxL := 2) (ret := none) (by decide) rfl ?_
  intro p e s m args below meth c s₁ Bd hml hv
  obtain ⟨rfl, hH0, hX, hG, hK2, hg_r0, hg_r1, hg_sa_, hg_ea_, hP0, hI0, hp0, hp1, hp2, hp3⟩ := hv
  have hK := hG.1
  have hx := Bd.exec
  have hb := Bd.bytes
  have hr := Bd.returns
  have hts := atoms_spec (ws := (jw yX1_addChecked cX1_addChecked 2 none)) Bd.pre
  have htw : ∀ w ∈ jWl, w.before _ s = true := fun w h => hts w (List.mem_cons_of_mem _ h)
  have hown : s.vm.findClass RX1 = some m.cls := findClass_of_methodNamed Bd.named
  have hlocks := Bd.notSynchronized
  obtain ⟨Q, hQ⟩ : ∃ Q, Q = MQ below (va_Qv (S := Int32) (fun u => (pk.toInt < ps.toInt ∧ u.toInt = pk.toInt + 1) ∨ (ps.toInt ≤ pk.toInt ∧ u.toInt = pk.toInt)) (fun u t => ((jRt (dC, dI) B base G0 EX1_addCheckedE H0 [(r0, 3, 10, .int u)] t.heap) ∧ jOw (dC, dI) G0 3 r0 H0 t.heap) ∧ jIs (dC, dI) G0 t.heap [(jFdo, jDcc dC dI ca G0 (some r0) ph)]) (jA base)) ([.ref r0, .ref r1] : List Value).toArray s 0 0 (jA base) := ⟨_, rfl⟩
  rw [← hQ]
  have hl := lv_entry ([.ref r0, .ref r1]) (n := 2) (Nat.le_of_ble_eq_true rfl)
  rw [lg_entry_eq]
  generalize (lg_sl ([.ref r0, .ref r1]) ++ List.replicate (2 - (lg_sl ([.ref r0, .ref r1])).length) Slot.unset).toArray = ls at hl ⊢
  have hl : lv_has ls 2 [(0, .ref r0), (1, .ref r1)] := hl
  generalize hR : (headSpec (jw yX1_addChecked cX1_addChecked 2 none) ({ frames := 0, cells := 0, slots := 0, locals := 0 })).room = R
  subst hH0
  have hh : jSt (dC, dI) B base G0 G0 EX1_addCheckedE s.heap 0 0 [(r0, 3, 5, .ref sa_), (r0, 3, 6, .ref ea_), (r0, 3, 4, .int ps), (r0, 3, 10, .int pk)] [] [(jFdo, jDcc dC dI ca G0 (some r0) ph)] s.heap [] := jSt.start hX hP0 jMc.nil hI0
  clear hX hP0
  have hk0 : (0 : Int32).toInt = 0 := by decide
  have hk1 : (1 : Int32).toInt = 1 := by decide
  have hly_3_4 := htw (u_lay RX1 TX1 4) (jWc_wsX10 _ (u_in_lay (by decide)))
  have hly_3_9 := htw (u_lay RX1 TX1 9) (jWc_wsX10 _ (u_in_lay (by decide)))
  have hly_3_10 := htw (u_lay RX1 TX1 10) (jWc_wsX10 _ (u_in_lay (by decide)))
  have hlk_72 := (htw (.fieldLink RX1 72 "ProofServer$Document" "checked" "I") (jWr_42 _ (List.mem_of_getElem? (i := 20) rfl)))
  have hlk_69 := (htw (.fieldLink RX1 69 "ProofServer$Document" "sentences" "I") (jWr_29 _ (List.mem_of_getElem? (i := 14) rfl)))
  have hlk_32 := (htw (.fieldLink RX1 32 "ProofServer$Document" "behind" "[LProofServer$State;") (jWr_10 _ (List.mem_of_getElem? (i := 12) rfl)))
  have hh_1 := hh.addI (jOw.ie (dC := dC) (dI := dI) (G0 := G0) (k := 3) (r := r0) (H0 := s.heap) (F := [(3, 0), (3, 1), (3, 2), (3, 3), (3, 4), (3, 5), (3, 6), (3, 7), (3, 8), (3, 9), (3, 10), (3, 11), (3, 12), (3, 13), (3, 14), (3, 15), (3, 16)]) (C := RX1) (T := TX1) (N := 17) rfl (by decide) hh.2.2.2.2.1 (jOw.rf))
  clear hh
  refine lv_aload_n hx hb dX1_addChecked_0 rfl (lv_at hl 0 rfl) ?_
  refine j7_read hx hb hown hK (C := RX1) (T := TX1) (N := 17) rfl hly_3_10 hlk_72 (hh_1.at 3 rfl) dX1_addChecked_1 ?_
  refine lv_aload_n hx hb dX1_addChecked_4 rfl (lv_at hl 0 rfl) ?_
  refine j7_read hx hb hown hK (C := RX1) (T := TX1) (N := 17) rfl hly_3_4 hlk_69 (hh_1.at 2 rfl) dX1_addChecked_5 ?_
  refine lv_icmp_ge (tgt := 31) hx hb dX1_addChecked_8 (by decide) (fun c_2 => ?_) (fun c_2 => ?_)
  · skip
    have c_2' : pk.toInt ≥ ps.toInt := jb_ge (rfl) (rfl) c_2
    rw [hQ]
    exact W.vret hx hb hr (fun t ht hW => ⟨⟨pk, rfl, by first | omega | rfl | assumption | decide | exact Or.inl rfl | exact Or.inr rfl | (simp only; omega), ⟨⟨hh_1.rt (M1 := [(r0, 3, 10, .int pk)]) [3] rfl ht, by rw [ht]; exact hh_1.iv 0 rfl⟩, by rw [ht]; exact hh_1.2.2.2.2.2.2.2.2.sub (L1 := [(jFdo, jDcc dC dI ca G0 (some r0) ph)]) [1] rfl⟩⟩, by rw [ht]; try exact hh_1.1.1, fun q h9 hq => by rw [ht]; try exact hh_1.1.2.1 q h9 hq⟩) hh_1.1.2.2 dX1_addChecked_31
  · skip
    have c_2' : pk.toInt < ps.toInt := jb_ge_n (rfl) (rfl) c_2
    refine lv_aload_n hx hb dX1_addChecked_11 rfl (lv_at hl 0 rfl) ?_
    obtain ⟨v_3, hv_3, hh_4⟩ := hh_1.pin (C := RX1) (T := TX1) (N := 17) hB3 rfl (by decide) hg_r0 (i := 9) (by decide) rfl
    clear hh_1
    obtain ⟨behind_5, rfl, hg_behind_5⟩ := hv_3
    refine j7_read hx hb hown hK (C := RX1) (T := TX1) (N := 17) rfl hly_3_9 hlk_32 (hh_4.at 0 rfl) dX1_addChecked_12 ?_
    refine lv_aload_n hx hb dX1_addChecked_15 rfl (lv_at hl 0 rfl) ?_
    refine j7_read hx hb hown hK (C := RX1) (T := TX1) (N := 17) rfl hly_3_10 hlk_72 (hh_4.at 4 rfl) dX1_addChecked_16 ?_
    refine lv_aload_n hx hb dX1_addChecked_19 rfl (lv_at hl 1 rfl) ?_
    refine j7_qast hx hb hK2 hh_4 hB hB210 2 rfl (by decide) (by decide) rfl rfl rfl hg_behind_5 (x := pk.toInt) (rfl) (by omega) hB11 (T := TX9) (N := 9) rfl (by decide) hg_r1 (Or.inr ⟨_, rfl, hg_r1⟩) dX1_addChecked_20 (fun H_6 locs_6 hh_6 => ?_)
    clear hh_4
    refine lv_aload_n hx hb dX1_addChecked_21 rfl (lv_at hl 0 rfl) ?_
    refine lv_dup hx hb dX1_addChecked_22 rfl ?_
    refine j7_read hx hb hown hK (C := RX1) (T := TX1) (N := 17) rfl hly_3_10 hlk_72 (hh_6.at 4 rfl) dX1_addChecked_23 ?_
    refine lv_iconst (v := 1) hx hb dX1_addChecked_26 (by decide) ?_
    refine lv_iadd hx hb dX1_addChecked_27 ?_
    refine lv_topi (fun z_7 ez_7 => ?_)
    have hz_7 : z_7.toInt = pk.toInt + 1 := by rw [ez_7]; exact jb_iadd2 (rfl) ((by decide)) (by omega)
    have hd_9 := hh_6.iv 1 rfl
    have hd_95 := hh_6.at 1 rfl
    have hd_96 := hh_6.at 2 rfl
    have hd_9o := hh_6.iv 0 rfl
    have hh_10 := hh_6.sub (L1 := [(r0, 3, 9, .ref behind_5), (r0, 3, 5, .ref sa_), (r0, 3, 6, .ref ea_), (r0, 3, 4, .int ps), (r0, 3, 10, .int pk)]) [0, 1, 2, 3, 4] rfl (M1 := []) [] rfl (I1 := []) [] rfl
    clear hh_6
    refine j7_putX hx hb hown hK hh_10 hB hAp hB3 (C := RX1) (T := TX1) (N := 17) rfl (by decide) hg_r0 (i := 10) (by decide) hly_3_10 rfl hlk_72 rfl (ty := .int) (v := .int z_7) (by decide +kernel) rfl rfl (⟨_, rfl, by omega, by omega⟩) rfl (L1 := [(r0, 3, 9, .ref behind_5), (r0, 3, 5, .ref sa_), (r0, 3, 6, .ref ea_), (r0, 3, 4, .int ps)]) [0, 1, 2, 3] rfl rfl rfl dX1_addChecked_28 (fun H_8 locs_8 hr_8 hh_8 => ?_)
    clear hh_10
    have hd_9n := jDcc.fld hd_9 hg_r0 hr_8 hd_95 hd_96 (hh_8.at 2 rfl) (hh_8.at 3 rfl)
    have hd_9on := jOw.put hd_9o hr_8
    have hh_11 := hh_8.addI (jDcc.ie hd_9n)
    clear hh_8
    have hh_12 := hh_11.addI (jOw.ie (dC := dC) (dI := dI) (G0 := G0) (k := 3) (r := r0) (H0 := s.heap) (F := [(3, 0), (3, 1), (3, 2), (3, 3), (3, 4), (3, 5), (3, 6), (3, 7), (3, 8), (3, 9), (3, 10), (3, 11), (3, 12), (3, 13), (3, 14), (3, 15), (3, 16)]) (C := RX1) (T := TX1) (N := 17) rfl (by decide) hh_11.2.2.2.2.1 (hd_9on))
    clear hh_11
    clear hd_9 hd_9n hd_95 hd_96 hr_8 hd_9o hd_9on
    rw [hQ]
    exact W.vret hx hb hr (fun t ht hW => ⟨⟨z_7, rfl, by first | omega | rfl | assumption | decide | exact Or.inl rfl | exact Or.inr rfl | (simp only; omega), ⟨⟨hh_12.rt (M1 := [(r0, 3, 10, .int z_7)]) [0] rfl ht, by rw [ht]; exact hh_12.iv 0 rfl⟩, by rw [ht]; exact hh_12.2.2.2.2.2.2.2.2.sub (L1 := [(jFdo, jDcc dC dI ca G0 (some r0) ph)]) [1] rfl⟩⟩, by rw [ht]; try exact hh_12.1.1, fun q h9 hq => by rw [ht]; try exact hh_12.1.2.1 q h9 hq⟩) hh_12.1.2.2 dX1_addChecked_31
end
