set_option maxRecDepth 20000 in
theorem ggX10_isChain_X10_isOne : GoodIn wsX10_isChain wsX10_isOne := goodIn_r _ [23, 3, 2, 22, 12, 13, 14, 8, 15, 16, 17, 24, 25, 26, 27, 28, 29, 30, 31, 32, 5, 6, 7, 9, 10, 11, 33, 34, 35, 36, 37, 38, 39, 40, 18, 19, 20, 21, 0, 1, 4, 41, 42, 43, 44, 45, 46, 47, 48, 49, 50, 51] (by decide +kernel) (by decide +kernel)
set_option maxRecDepth 20000 in
theorem gX10_isChain_X10_isOne : GoodIn wsX10_isChain (wsV RX10 125 RX10 yX10_isOne wsX10_isOne) := goodIn_app (goodIn_of _ (by decide +kernel)) ggX10_isChain_X10_isOne
set_option maxRecDepth 20000 in
theorem ggX10_isChain_X10_isChain : GoodIn wsX10_isChain wsX10_isChain := goodIn_r _ [0, 1, 2, 3, 4, 5, 6, 7, 8, 9, 10, 11, 12, 13, 14, 15, 16, 17, 18, 19, 20, 21, 22, 23, 24, 25, 26, 27, 28, 29, 30, 31, 32, 33, 34, 35, 36, 37, 38, 39, 40, 41, 42, 43, 44, 45, 46, 47, 48, 49, 50, 51] (by decide +kernel) (by decide +kernel)
set_option maxRecDepth 20000 in
theorem gX10_isChain_X10_isChain : GoodIn wsX10_isChain (wsV RX10 108 RX10 yX10_isChain wsX10_isChain) := goodIn_app (goodIn_of _ (by decide +kernel)) ggX10_isChain_X10_isChain
set_option maxRecDepth 20000 in
theorem ggX10_isChain_X10_peek : GoodIn wsX10_isChain wsX10_peek := goodIn_r _ [15, 3, 16, 17, 41, 42, 43, 44, 45, 46, 47, 48, 49, 50, 51] (by decide +kernel) (by decide +kernel)
set_option maxRecDepth 20000 in
theorem gX10_isChain_X10_peek : GoodIn wsX10_isChain (wsV RX10 115 RX10 yX10_peek wsX10_peek) := goodIn_app (goodIn_of _ (by decide +kernel)) ggX10_isChain_X10_peek
set_option maxRecDepth 20000 in
theorem ggX10_isChain_X10_insertNode : GoodIn wsX10_isChain wsX10_insertNode := goodIn_r _ [21, 2, 22, 41, 42, 43, 44, 45, 46, 47, 48, 49, 50, 51] (by decide +kernel) (by decide +kernel)
set_option maxRecDepth 20000 in
theorem gX10_isChain_X10_insertNode : GoodIn wsX10_isChain (wsV RX10 131 RX10 yX10_insertNode wsX10_insertNode) := goodIn_app (goodIn_of _ (by decide +kernel)) ggX10_isChain_X10_insertNode
theorem dX10_isChain_0 : decode cX10_isChain 0 = .ok (.iconst 0, 1) := by decide +kernel
theorem dX10_isChain_1 : decode cX10_isChain 1 = .ok (.istore_n 3, 1) := by decide +kernel
theorem dX10_isChain_2 : decode cX10_isChain 2 = .ok (.iload_n 3, 1) := by decide +kernel
theorem dX10_isChain_3 : decode cX10_isChain 3 = .ok (.sipush 1500, 3) := by decide +kernel
theorem dX10_isChain_6 : decode cX10_isChain 6 = .ok (.if_icmp .ge 98, 3) := by decide +kernel
theorem dX10_isChain_9 : decode cX10_isChain 9 = .ok (.iload_n 1, 1) := by decide +kernel
theorem dX10_isChain_10 : decode cX10_isChain 10 = .ok (.getstatic 122, 3) := by decide +kernel
theorem dX10_isChain_13 : decode cX10_isChain 13 = .ok (.arraylength, 1) := by decide +kernel
theorem dX10_isChain_14 : decode cX10_isChain 14 = .ok (.if_icmp .ge 90, 3) := by decide +kernel
theorem dX10_isChain_17 : decode cX10_isChain 17 = .ok (.aload_n 0, 1) := by decide +kernel
theorem dX10_isChain_18 : decode cX10_isChain 18 = .ok (.getfield 89, 3) := by decide +kernel
theorem dX10_isChain_21 : decode cX10_isChain 21 = .ok (.istore 4, 2) := by decide +kernel
theorem dX10_isChain_23 : decode cX10_isChain 23 = .ok (.iload_n 1, 1) := by decide +kernel
theorem dX10_isChain_24 : decode cX10_isChain 24 = .ok (.getstatic 122, 3) := by decide +kernel
theorem dX10_isChain_27 : decode cX10_isChain 27 = .ok (.arraylength, 1) := by decide +kernel
theorem dX10_isChain_28 : decode cX10_isChain 28 = .ok (.iconst 1, 1) := by decide +kernel
theorem dX10_isChain_29 : decode cX10_isChain 29 = .ok (.isub, 1) := by decide +kernel
theorem dX10_isChain_30 : decode cX10_isChain 30 = .ok (.if_icmp .ne 11, 3) := by decide +kernel
theorem dX10_isChain_33 : decode cX10_isChain 33 = .ok (.aload_n 0, 1) := by decide +kernel
theorem dX10_isChain_34 : decode cX10_isChain 34 = .ok (.iload_n 2, 1) := by decide +kernel
theorem dX10_isChain_35 : decode cX10_isChain 35 = .ok (.invokevirtual 125, 3) := by decide +kernel
theorem dX10_isChain_38 : decode cX10_isChain 38 = .ok (.goto 11, 3) := by decide +kernel
theorem dX10_isChain_41 : decode cX10_isChain 41 = .ok (.aload_n 0, 1) := by decide +kernel
theorem dX10_isChain_42 : decode cX10_isChain 42 = .ok (.iload_n 1, 1) := by decide +kernel
theorem dX10_isChain_43 : decode cX10_isChain 43 = .ok (.iconst 1, 1) := by decide +kernel
theorem dX10_isChain_44 : decode cX10_isChain 44 = .ok (.iadd, 1) := by decide +kernel
theorem dX10_isChain_45 : decode cX10_isChain 45 = .ok (.iload_n 2, 1) := by decide +kernel
theorem dX10_isChain_46 : decode cX10_isChain 46 = .ok (.invokevirtual 108, 3) := by decide +kernel
theorem dX10_isChain_49 : decode cX10_isChain 49 = .ok (.istore 5, 2) := by decide +kernel
theorem dX10_isChain_51 : decode cX10_isChain 51 = .ok (.iload 5, 2) := by decide +kernel
theorem dX10_isChain_53 : decode cX10_isChain 53 = .ok (.ifCond .ne 5, 3) := by decide +kernel
theorem dX10_isChain_56 : decode cX10_isChain 56 = .ok (.iconst 0, 1) := by decide +kernel
theorem dX10_isChain_57 : decode cX10_isChain 57 = .ok (.ireturn, 1) := by decide +kernel
theorem dX10_isChain_58 : decode cX10_isChain 58 = .ok (.aload_n 0, 1) := by decide +kernel
theorem dX10_isChain_59 : decode cX10_isChain 59 = .ok (.invokevirtual 115, 3) := by decide +kernel
theorem dX10_isChain_62 : decode cX10_isChain 62 = .ok (.getstatic 122, 3) := by decide +kernel
theorem dX10_isChain_65 : decode cX10_isChain 65 = .ok (.iload_n 1, 1) := by decide +kernel
theorem dX10_isChain_66 : decode cX10_isChain 66 = .ok (.iaload, 1) := by decide +kernel
theorem dX10_isChain_67 : decode cX10_isChain 67 = .ok (.if_icmp .eq 5, 3) := by decide +kernel
theorem dX10_isChain_70 : decode cX10_isChain 70 = .ok (.iconst 1, 1) := by decide +kernel
theorem dX10_isChain_71 : decode cX10_isChain 71 = .ok (.ireturn, 1) := by decide +kernel
theorem dX10_isChain_72 : decode cX10_isChain 72 = .ok (.aload_n 0, 1) := by decide +kernel
theorem dX10_isChain_73 : decode cX10_isChain 73 = .ok (.dup, 1) := by decide +kernel
theorem dX10_isChain_74 : decode cX10_isChain 74 = .ok (.getfield 83, 3) := by decide +kernel
theorem dX10_isChain_77 : decode cX10_isChain 77 = .ok (.iconst 1, 1) := by decide +kernel
theorem dX10_isChain_78 : decode cX10_isChain 78 = .ok (.iadd, 1) := by decide +kernel
theorem dX10_isChain_79 : decode cX10_isChain 79 = .ok (.putfield 83, 3) := by decide +kernel
theorem dX10_isChain_82 : decode cX10_isChain 82 = .ok (.aload_n 0, 1) := by decide +kernel
theorem dX10_isChain_83 : decode cX10_isChain 83 = .ok (.iload 4, 2) := by decide +kernel
theorem dX10_isChain_85 : decode cX10_isChain 85 = .ok (.getstatic 128, 3) := by decide +kernel
theorem dX10_isChain_88 : decode cX10_isChain 88 = .ok (.iload_n 1, 1) := by decide +kernel
theorem dX10_isChain_89 : decode cX10_isChain 89 = .ok (.iaload, 1) := by decide +kernel
theorem dX10_isChain_90 : decode cX10_isChain 90 = .ok (.invokevirtual 131, 3) := by decide +kernel
theorem dX10_isChain_93 : decode cX10_isChain 93 = .ok (.ifCond .ne 5, 3) := by decide +kernel
theorem dX10_isChain_96 : decode cX10_isChain 96 = .ok (.iconst 0, 1) := by decide +kernel
theorem dX10_isChain_97 : decode cX10_isChain 97 = .ok (.ireturn, 1) := by decide +kernel
theorem dX10_isChain_98 : decode cX10_isChain 98 = .ok (.iinc 3 1, 3) := by decide +kernel
theorem dX10_isChain_101 : decode cX10_isChain 101 = .ok (.goto (-99), 3) := by decide +kernel
theorem dX10_isChain_104 : decode cX10_isChain 104 = .ok (.iconst 0, 1) := by decide +kernel
theorem dX10_isChain_105 : decode cX10_isChain 105 = .ok (.ireturn, 1) := by decide +kernel
set_option maxHeartbeats 4000000 in
set_option maxRecDepth 20000 in
theorem tX10_isChain (l : Launch) (dC : Nat → ClassId) (dI : Nat → Nat → Nat) (ca : Nat → ClassId) (base : Nat) (B : jF) (hB : jBok B) (ef jf : Nat) (hO : qX10_isOne l dC dI ca base B ef) (ihJ : ∀ j1, j1 < jf → qX10_isChain l dC dI ca base B ef j1) (G0 : jT) (X : List Nat) (H0 : Heap) (a : Nat) (st dp : Int32) (tk0 at0 nc0 : Int32) : Met l yX10_isChain wsX10_isChain ({ frames := 5 * ef + 6 + jf, cells := 0, slots := 0, locals := 160 * ef + 230 + 30 * jf }) (va_Pc [.ref a, .int st, .int dp] (fun U => U.heap = H0 ∧ jX B base G0 X H0 ∧ jG dC dI ca base U ∧ G0 a = some (12, 0) ∧ a ∈ X ∧ jB12e dC dI ca G0 a tk0 at0 nc0 H0 ∧ (0 ≤ tk0.toInt ∧ tk0.toInt ≤ 1500 ∧ 0 ≤ at0.toInt ∧ 0 ≤ nc0.toInt ∧ nc0.toInt ≤ 3000 ∧ at0.toInt ≤ tk0.toInt ∧ dp.toInt = 12 - ef ∧ ef ≤ 12 ∧ st.toInt = 2 - jf ∧ jf ≤ 2))) (va_Qi (S := Int32 × Int32 × Int32) (fun r u => (r = 0 ∨ r = 1) ∧ u.1.toInt = tk0.toInt ∧ 0 ≤ u.2.1.toInt ∧ nc0.toInt ≤ u.2.2.toInt ∧ u.2.2.toInt ≤ 3000 ∧ u.2.1.toInt ≤ tk0.toInt + 2 ∧ (r.toInt = 0 ∨ (u.2.1.toInt ≤ tk0.toInt ∧ nc0.toInt + 1 ≤ u.2.2.toInt))) (fun u t => jX B base G0 X t.heap ∧ jB12e dC dI ca G0 a u.1 u.2.1 u.2.2 t.heap ∧  jModP G0 (fun r => r = a) H0 t.heap ∧ t.heap.size = H0.size ∧ jTot t.heap = jTot H0) (jA base)) 0 0 (jA base) := by
  refine Met.ofW (cc := cX10_isChain) (maxL := 6) (ret := (some .boolean)) (by decide) rfl ?_
  intro p e s m args below meth c s₁ Bd hml hv
  obtain ⟨rfl, hH0, hX, hG, hg_a, hm_a, he_a, ht0, ht1, ha0, hn0, hn1, hp0, hp1, hp2, hp3, hp4⟩ := hv
  have hK := hG.1
  have hx := Bd.exec
  have hb := Bd.bytes
  have hr := Bd.returns
  have hts := atoms_spec (ws := wsX10_isChain) Bd.pre
  have hown : s.vm.findClass RX10 = some m.cls := findClass_of_methodNamed Bd.named
  have hlocks := Bd.notSynchronized
  have hin_12 : ∀ w ∈ u_ws RX10 TX10 11, w ∈ wsX10_isChain := by decide +kernel
  obtain ⟨Q, hQ⟩ : ∃ Q, Q = MQ below (va_Qi (S := Int32 × Int32 × Int32) (fun r u => (r = 0 ∨ r = 1) ∧ u.1.toInt = tk0.toInt ∧ 0 ≤ u.2.1.toInt ∧ nc0.toInt ≤ u.2.2.toInt ∧ u.2.2.toInt ≤ 3000 ∧ u.2.1.toInt ≤ tk0.toInt + 2 ∧ (r.toInt = 0 ∨ (u.2.1.toInt ≤ tk0.toInt ∧ nc0.toInt + 1 ≤ u.2.2.toInt))) (fun u t => jX B base G0 X t.heap ∧ jB12e dC dI ca G0 a u.1 u.2.1 u.2.2 t.heap ∧  jModP G0 (fun r => r = a) H0 t.heap ∧ t.heap.size = H0.size ∧ jTot t.heap = jTot H0) (jA base)) ([.ref a, .int st, .int dp] : List Value).toArray s 0 0 (jA base) := ⟨_, rfl⟩
  rw [← hQ]
  have hl := lv_entry ([.ref a, .int st, .int dp]) (n := 6) (Nat.le_of_ble_eq_true rfl)
  rw [lg_entry_eq]
  generalize (lg_sl ([.ref a, .int st, .int dp]) ++ List.replicate (6 - (lg_sl ([.ref a, .int st, .int dp])).length) Slot.unset).toArray = ls at hl ⊢
  have hl : lv_has ls 6 [(0, .ref a), (1, .int st), (2, .int dp)] := hl
  generalize hR : (headSpec wsX10_isChain ({ frames := 5 * ef + 6 + jf, cells := 0, slots := 0, locals := 160 * ef + 230 + 30 * jf })).room = R
  subst hH0
  have hS : va_S (jA base) s.heap s.heap [] := va_S.rf
  have hM : jModP G0 (fun r => r = a) s.heap s.heap := jModP.rf
  have hz : s.heap.size = s.heap.size := rfl
  have hT : jTot s.heap = jTot s.heap := rfl
  have hlt_a := hX.2 _ _ hg_a
  have hrt_a : jRoot G0 a := ⟨_, _, hg_a, by omega⟩
  have hk0 : (0 : Int32).toInt = 0 := by decide
  have hk1 : (1 : Int32).toInt = 1 := by decide
  have hk1500 : (1500 : Int32).toInt = 1500 := by decide
  refine lv_iconst (v := 0) hx hb dX10_isChain_0 (by decide) ?_
  refine lv_istore_n (lv' := [(3, .int 0), (0, .ref a), (1, .int st), (2, .int dp)]) hx hb dX10_isChain_1 rfl hl (by decide) rfl (fun ls hl => ?_)
  have L2 : ∀ (N : Nat) (iv : Int32) (tkv atv ncv : Int32) (H : Heap) (locs : List Loc), jB12e dC dI ca G0 a tkv atv ncv H → jX B base G0 X H → va_S (jA base) s.heap H locs → jModP G0 (fun r => r = a) s.heap H → H.size = s.heap.size → jTot H = jTot s.heap → (0 ≤ iv.toInt ∧ iv.toInt ≤ 1500 ∧ tkv.toInt = tk0.toInt ∧ 0 ≤ atv.toInt ∧ atv.toInt ≤ tk0.toInt ∧ nc0.toInt ≤ ncv.toInt ∧ ncv.toInt ≤ 3000) → (1500 - iv.toInt : Int) < N → ∀ ls : Array Slot, lv_has ls 6 [(0, .ref a), (1, .int st), (2, .int dp), (3, .int iv)] → W p l e R s m ([.ref a, .int st, .int dp] : List Value).toArray below meth c H locs 0 0 Q (F0 m 2 ls []) := by
    intro N
    induction N with
    | zero => intro iv tkv atv ncv H locs he hX hS hM hz hT hi hm; exact absurd hm (by omega)
    | succ N ih =>
      have L2 := ih
      intro iv tkv atv ncv H locs he hX hS hM hz hT hi hm ls hl
      obtain ⟨hi0, hi1, hi2, hi3, hi4, hi5, hi6⟩ := hi
      refine lv_iload_n hx hb dX10_isChain_2 rfl (lv_at hl 3 rfl) ?_
      refine lv_sipush (v := 1500) hx hb dX10_isChain_3 (by decide) ?_
      refine lv_icmp_ge (tgt := 104) hx hb dX10_isChain_6 (by decide) (fun c_1 => ?_) (fun c_1 => ?_)
      · skip
        have c_1' : iv.toInt ≥ 1500 := jb_ge (rfl) ((by decide)) c_1
        refine lv_iconst (v := 0) hx hb dX10_isChain_104 (by decide) ?_
        rw [hQ]
        exact W.zret (v := 0) hx hb hr (jb_nz (Or.inl rfl)) (fun t ht hW => ⟨⟨0, (tkv, atv, ncv), rfl, ⟨(Or.inl rfl), by refine ⟨?_, ?_, ?_, ?_, ?_, ?_⟩ <;> first | rfl | omega | (left; omega) | (right; omega) | exact Or.inl ⟨by decide, rfl⟩ | (simp only; omega)⟩, by rw [ht]; try exact hX, by rw [ht]; try exact he, by rw [ht]; try exact hM, by rw [ht]; try exact hz, by rw [ht]; try exact hT⟩, by rw [ht]; try exact hS.1, fun q h9 hq => by rw [ht]; try exact hS.2.1 q h9 hq⟩) hS.2.2 dX10_isChain_105
      · skip
        have c_1' : iv.toInt < 1500 := jb_ge_n (rfl) ((by decide)) c_1
        refine lv_iload_n hx hb dX10_isChain_9 rfl (lv_at hl 1 rfl) ?_
        obtain ⟨ts_2, fts_2, hzts_2, htts_2, hpts_2⟩ := hG.2.2.2.2.2.1
        refine va_gets hx hb hzts_2 hS hown (hts (.fieldLink RX10 122 "ProofServer$Syntax" "CHAIN_SIGNS" "[I") (by decide +kernel)) (fun _ h9 => h9) dX10_isChain_10 ?_
        refine va_tlen hx hb htts_2 hS (v := Int32.ofNat 3) rfl dX10_isChain_13 ?_
        refine lv_topi (fun z_3 ez_3 => ?_)
        have hz_3 : z_3.toInt = 3 := by rw [ez_3]; exact jb_nat (by omega)
        refine lv_icmp_ge (tgt := 104) hx hb dX10_isChain_14 (by decide) (fun c_4 => ?_) (fun c_4 => ?_)
        · skip
          have c_4' : st.toInt ≥ z_3.toInt := jb_ge (rfl) (rfl) c_4
          refine lv_iconst (v := 0) hx hb dX10_isChain_104 (by decide) ?_
          rw [hQ]
          exact W.zret (v := 0) hx hb hr (jb_nz (Or.inl rfl)) (fun t ht hW => ⟨⟨0, (tkv, atv, ncv), rfl, ⟨(Or.inl rfl), by refine ⟨?_, ?_, ?_, ?_, ?_, ?_⟩ <;> first | rfl | omega | (left; omega) | (right; omega) | exact Or.inl ⟨by decide, rfl⟩ | (simp only; omega)⟩, by rw [ht]; try exact hX, by rw [ht]; try exact he, by rw [ht]; try exact hM, by rw [ht]; try exact hz, by rw [ht]; try exact hT⟩, by rw [ht]; try exact hS.1, fun q h9 hq => by rw [ht]; try exact hS.2.1 q h9 hq⟩) hS.2.2 dX10_isChain_105
        · skip
          have c_4' : st.toInt < z_3.toInt := jb_ge_n (rfl) (rfl) c_4
          refine lv_aload_n hx hb dX10_isChain_17 rfl (lv_at hl 0 rfl) ?_
          obtain ⟨names_5, kinds_5, values_5, word_5, told_5, toldCount_5, terms_5, nodes_5, f_kinds_5, f_values_5, f_told_5, f_nodes_5, hat_a_5, hat_kinds_5, hat_values_5, hat_told_5, hat_nodes_5, hg_kinds_5, hg_values_5, hg_told_5, hg_nodes_5, hg_names_5, hf0_5, hf1_5⟩ := id he
          have hlt_names_5 := hX.2 _ _ hg_names_5
          have hrt_names_5 : jRoot G0 names_5 := ⟨_, _, hg_names_5, by omega⟩
          refine va_get (D := (dC, dI)) (ci := 12) (v := .int ncv) (C := RX10) (T := TX10) (N := 11) hx hb hts hin_12 hown hK (jp_one hat_a_5) 0 rfl rfl 10 (by decide) (hts (.fieldLink RX10 89 "ProofServer$Syntax" "nodeCount" "I") (by decide +kernel)) (fun _ h9 => h9) rfl dX10_isChain_18 ?_
          refine lv_istore (lv' := [(4, .int ncv), (0, .ref a), (1, .int st), (2, .int dp), (3, .int iv)]) hx hb dX10_isChain_21 hl (by decide) rfl (fun ls hl => ?_)
          refine lv_iload_n hx hb dX10_isChain_23 rfl (lv_at hl 2 rfl) ?_
          obtain ⟨ts_6, fts_6, hzts_6, htts_6, hpts_6⟩ := hG.2.2.2.2.2.1
          refine va_gets hx hb hzts_6 hS hown (hts (.fieldLink RX10 122 "ProofServer$Syntax" "CHAIN_SIGNS" "[I") (by decide +kernel)) (fun _ h9 => h9) dX10_isChain_24 ?_
          refine va_tlen hx hb htts_6 hS (v := Int32.ofNat 3) rfl dX10_isChain_27 ?_
          refine lv_topi (fun z_7 ez_7 => ?_)
          have hz_7 : z_7.toInt = 3 := by rw [ez_7]; exact jb_nat (by omega)
          refine lv_iconst (v := 1) hx hb dX10_isChain_28 (by decide) ?_
          refine lv_isub hx hb dX10_isChain_29 ?_
          refine lv_topi (fun z_8 ez_8 => ?_)
          have hz_8 : z_8.toInt = z_7.toInt - 1 := by rw [ez_8]; exact jb_isub (rfl) ((by decide)) (by omega) (by omega)
          refine lv_icmp_ne (tgt := 41) hx hb dX10_isChain_30 (by decide) (fun c_9 => ?_) (fun c_9 => ?_)
          · skip
            have c_9' : st.toInt ≠ z_8.toInt := jb_ne (rfl) (rfl) c_9
            refine lv_aload_n hx hb dX10_isChain_41 rfl (lv_at hl 1 rfl) ?_
            refine lv_iload_n hx hb dX10_isChain_42 rfl (lv_at hl 2 rfl) ?_
            refine lv_iconst (v := 1) hx hb dX10_isChain_43 (by decide) ?_
            refine lv_iadd hx hb dX10_isChain_44 ?_
            refine lv_topi (fun z_10 ez_10 => ?_)
            have hz_10 : z_10.toInt = st.toInt + 1 := by rw [ez_10]; exact jb_iadd (rfl) ((by decide)) (by omega) (by omega)
            refine lv_iload_n hx hb dX10_isChain_45 rfl (lv_at hl 3 rfl) ?_
            refine va_calli (A0 := jA base) (H0 := s.heap) (va_runV (As := [.int z_10, .int dp]) (rest := []) ⟨hx, hb, hml, hown, hts⟩ (ihJ (jf - 1) (by omega) G0 X H a z_10 dp tkv atv ncv) (cwV 2 hts gX10_isChain_X10_isChain rfl rfl rfl (by decide +kernel) ⟨by rw [← hR]; show (5 * ef + 6 + (jf - 1)) + 1 ≤ 5 * ef + 6 + jf; omega, by rw [← hR]; show 8 + (6 + 11) + (160 * ef + 230 + 30 * (jf - 1)) ≤ 160 * ef + 230 + 30 * jf; omega⟩) ⟨fun a U g mk q => by obtain ⟨q0, q1, q2, qK, q9⟩ := q; exact ⟨q0, q1, q2, jG.calling g mk a qK, q9⟩, va_recv hK (jp_one hat_a_5) (ci := 12) (q0 := 0) rfl rfl, fun U hU hW => ⟨rfl, hU, hX, hG.step hW hU hS, hg_a, hm_a, he, by refine ⟨?_, ?_, ?_, ?_, ?_, ?_, ?_, ?_, ?_, ?_⟩ <;> omega⟩⟩ rfl rfl hl.1 rfl (lv_room (Nat.le_of_ble_eq_true rfl)) dX10_isChain_46 ⟨Nat.zero_le _, Nat.zero_le _⟩) hS (fun q _ h => h) (fun q h => h) (fun r_11 u t H1 locs1 ht hvm hr_11 hBb hz1 hk1 hS_12 => ?_)
            obtain ⟨tk_12, at_12, nc_12⟩ := u
            obtain ⟨hX_12, he_12, hM_120, hz_120, hT_120⟩ := hBb
            rw [ht] at hX_12 he_12 hM_120 hz_120 hT_120
            simp only at hr_11 he_12
            have hM_12 := hM.tr0 hM_120 hz (by intro r; simp)
            have hz_12 := hz_120.trans hz
            have hT_12 := hT_120.trans hT
            clear hz1 hk1 hvm ht hM_120 hz_120 hT_120
            obtain ⟨hr_11b, hr_11p⟩ := hr_11
            have hr_11' := jb_01 hr_11b
            refine lv_istore (lv' := [(5, .int r_11), (4, .int ncv), (0, .ref a), (1, .int st), (2, .int dp), (3, .int iv)]) hx hb dX10_isChain_49 hl (by decide) rfl (fun ls hl => ?_)
            refine lv_iload hx hb dX10_isChain_51 (lv_at hl 0 rfl) ?_
            refine lv_if_ne (tgt := 58) hx hb dX10_isChain_53 (by decide) (fun c_13 => ?_) (fun c_13 => ?_)
            · skip
              have c_13' : r_11.toInt ≠ 0 := jb_ne (rfl) ((by decide)) c_13
              refine lv_aload_n hx hb dX10_isChain_58 rfl (lv_at hl 2 rfl) ?_
              obtain ⟨names_16, kinds_16, values_16, word_16, told_16, toldCount_16, terms_16, nodes_16, f_kinds_16, f_values_16, f_told_16, f_nodes_16, hat_a_16, hat_kinds_16, hat_values_16, hat_told_16, hat_nodes_16, hg_kinds_16, hg_values_16, hg_told_16, hg_nodes_16, hg_names_16, hf0_16, hf1_16⟩ := id he_12
              have hlt_names_16 := hX_12.2 _ _ hg_names_16
              have hrt_names_16 : jRoot G0 names_16 := ⟨_, _, hg_names_16, by omega⟩
              refine va_calli (A0 := jA base) (H0 := s.heap) (va_runV (As := []) (rest := []) ⟨hx, hb, hml, hown, hts⟩ (tX10_peek l dC dI ca base B hB G0 X H1 a tk_12 at_12 nc_12) (cwV 0 hts gX10_isChain_X10_peek rfl rfl rfl (by decide +kernel) ⟨by rw [← hR]; show (0) + 1 ≤ 5 * ef + 6 + jf; omega, by rw [← hR]; show 8 + (1 + 11) + (0) ≤ 160 * ef + 230 + 30 * jf; omega⟩) ⟨fun a U g mk q => by obtain ⟨q0, q1, q2, qK, q9⟩ := q; exact ⟨q0, q1, q2, jG.calling g mk a qK, q9⟩, va_recv hK (jp_one hat_a_16) (ci := 12) (q0 := 0) rfl rfl, fun U hU hW => ⟨rfl, hU, hX_12, hG.step hW hU hS_12, hg_a, hm_a, he_12, by refine ⟨?_, ?_, ?_, ?_, ?_, ?_⟩ <;> omega⟩⟩ rfl rfl hl.1 rfl (lv_room (Nat.le_of_ble_eq_true rfl)) dX10_isChain_59 ⟨Nat.zero_le _, Nat.zero_le _⟩) hS_12 (fun q _ h => h) (fun q h => h) (fun r_14 u t H1 locs1 ht hvm hr_14 hBb hz1 hk1 hS_15 => ?_)
              obtain ⟨tk_15, at_15, nc_15⟩ := u
              obtain ⟨hX_15, he_15, hM_150, hz_150, hT_150⟩ := hBb
              rw [ht] at hX_15 he_15 hM_150 hz_150 hT_150
              simp only at hr_14 he_15
              have hM_15 := hM_12.tr0 hM_150 hz_12 (by intro r; simp)
              have hz_15 := hz_150.trans hz_12
              have hT_15 := hT_150.trans hT_12
              clear hz1 hk1 hvm ht hM_150 hz_150 hT_150
              obtain ⟨ts_17, fts_17, hzts_17, htts_17, hpts_17⟩ := hG.2.2.2.2.2.1
              refine va_gets hx hb hzts_17 hS_15 hown (hts (.fieldLink RX10 122 "ProofServer$Syntax" "CHAIN_SIGNS" "[I") (by decide +kernel)) (fun _ h9 => h9) dX10_isChain_62 ?_
              refine lv_iload_n hx hb dX10_isChain_65 rfl (lv_at hl 3 rfl) ?_
              refine va_ti hx hb htts_17 hS_15 (jb_in (i := st) (n := 3) (rfl) (by omega) (by omega)) rfl dX10_isChain_66 ?_
              refine lv_topi (fun z_18 ez_18 => ?_)
              have hz_18 : 0 < z_18.toInt := by rw [ez_18]; exact hpts_17 _ (jb_cl_lt (i := st) (rfl) (by omega) (by omega))
              refine lv_icmp_eq (tgt := 72) hx hb dX10_isChain_67 (by decide) (fun c_19 => ?_) (fun c_19 => ?_)
              · skip
                have c_19' : r_14.toInt = z_18.toInt := jb_eq (rfl) (rfl) c_19
                refine lv_aload_n hx hb dX10_isChain_72 rfl (lv_at hl 2 rfl) ?_
                refine lv_dup hx hb dX10_isChain_73 rfl ?_
                obtain ⟨names_20, kinds_20, values_20, word_20, told_20, toldCount_20, terms_20, nodes_20, f_kinds_20, f_values_20, f_told_20, f_nodes_20, hat_a_20, hat_kinds_20, hat_values_20, hat_told_20, hat_nodes_20, hg_kinds_20, hg_values_20, hg_told_20, hg_nodes_20, hg_names_20, hf0_20, hf1_20⟩ := id he_15
                have hlt_names_20 := hX_15.2 _ _ hg_names_20
                have hrt_names_20 : jRoot G0 names_20 := ⟨_, _, hg_names_20, by omega⟩
                refine va_get (D := (dC, dI)) (ci := 12) (v := .int at_15) (C := RX10) (T := TX10) (N := 11) hx hb hts hin_12 hown hK (jp_one hat_a_20) 0 rfl rfl 4 (by decide) (hts (.fieldLink RX10 83 "ProofServer$Syntax" "at" "I") (by decide +kernel)) (fun _ h9 => h9) rfl dX10_isChain_74 ?_
                refine lv_iconst (v := 1) hx hb dX10_isChain_77 (by decide) ?_
                refine lv_iadd hx hb dX10_isChain_78 ?_
                refine lv_topi (fun z_21 ez_21 => ?_)
                have hz_21 : z_21.toInt = at_15.toInt + 1 := by rw [ez_21]; exact jb_iadd (rfl) ((by decide)) (by omega) (by omega)
                refine j_put (D := (dC, dI)) (ci := 12) (v := .int z_21) (ty := .int) (C := RX10) (T := TX10) (N := 11) (A := jA base) hx hb hts hin_12 tyX10 tyX10_ok nmX10 hown hK hat_a_20 (hX_15.2 _ _ hg_a).1 hS_15.2.2 rfl 4 (by decide) (hts (.fieldLink RX10 83 "ProofServer$Syntax" "at" "I") (by decide +kernel)) (fun _ h9 => h9) rfl (by decide +kernel) rfl rfl (Nat.le_of_ble_eq_true rfl) dX10_isChain_79 (fun H1 locs1 hat1 hsz1 hfr1 hT1 hL1 => ?_)
                have hX_23 := hX_15.put hB hg_a (by omega) jSup.root hm_a hsz1 hfr1
                have hM_23 := hM_15.put jExt.rf hrt_a jSup.root (by simp) hfr1
                have hz_23 := hsz1.trans hz_15
                have hT_23 := hT1.trans hT_15
                have hS_23 := jS_put hS_15 hsz1 hfr1 (hX_15.2 _ _ hg_a).1 hL1
                have hat_kinds_20_23 := hat_kinds_20.kept (hfr1 _ (jne hg_kinds_20 hg_a (by simp)))
                have hat_values_20_23 := hat_values_20.kept (hfr1 _ (jne hg_values_20 hg_a (by simp)))
                have hat_told_20_23 := hat_told_20.kept (hfr1 _ (jne hg_told_20 hg_a (by simp)))
                have hat_nodes_20_23 := hat_nodes_20.kept (hfr1 _ (jne hg_nodes_20 hg_a (by simp)))
                clear hfr1 hsz1 hT1 hL1 hat_a_20 hat_kinds_20 hat_values_20 hat_told_20 hat_nodes_20 hX_15 hM_15 hz_15 hT_15 hS_15
                have hat_a_23 : va_at (dC, dI) vwCl (a, .inr (12, [.ref names_20, .ref kinds_20, .ref values_20, .int tk_15, .int z_21, .int word_20, .ref told_20, .int toldCount_20, .int terms_20, .ref nodes_20, .int nc_15])) H1 := hat1
                clear hat1
                refine lv_aload_n hx hb dX10_isChain_82 rfl (lv_at hl 2 rfl) ?_
                refine lv_iload hx hb dX10_isChain_83 (lv_at hl 1 rfl) ?_
                obtain ⟨ts_24, fts_24, hzts_24, htts_24, hpts_24⟩ := hG.2.2.2.2.2.2.1
                refine va_gets hx hb hzts_24 hS_23 hown (hts (.fieldLink RX10 128 "ProofServer$Syntax" "CHAIN_NODES" "[I") (by decide +kernel)) (fun _ h9 => h9) dX10_isChain_85 ?_
                refine lv_iload_n hx hb dX10_isChain_88 rfl (lv_at hl 3 rfl) ?_
                refine va_ti hx hb htts_24 hS_23 (jb_in (i := st) (n := 3) (rfl) (by omega) (by omega)) rfl dX10_isChain_89 ?_
                refine lv_topi (fun z_25 ez_25 => ?_)
                have hz_25 : 0 < z_25.toInt := by rw [ez_25]; exact hpts_24 _ (jb_cl_lt (i := st) (rfl) (by omega) (by omega))
                have he_28 : jB12e dC dI ca G0 a tk_15 z_21 nc_15 H1 := ⟨names_20, kinds_20, values_20, word_20, told_20, toldCount_20, terms_20, nodes_20, f_kinds_20, f_values_20, f_told_20, f_nodes_20, hat_a_23, hat_kinds_20_23, hat_values_20_23, hat_told_20_23, hat_nodes_20_23, hg_kinds_20, hg_values_20, hg_told_20, hg_nodes_20, hg_names_20, by first | omega | assumption | (simp; done) | exact Or.inl rfl | exact Or.inr rfl, by first | omega | assumption | (simp; done) | exact Or.inl rfl | exact Or.inr rfl⟩
                refine va_calli (A0 := jA base) (H0 := s.heap) (va_runV (As := [.int ncv, .int z_25]) (rest := []) ⟨hx, hb, hml, hown, hts⟩ (tX10_insertNode l dC dI ca base B hB G0 X H1 a ncv z_25 tk_15 z_21 nc_15) (cwV 2 hts gX10_isChain_X10_insertNode rfl rfl rfl (by decide +kernel) ⟨by rw [← hR]; show (0) + 1 ≤ 5 * ef + 6 + jf; omega, by rw [← hR]; show 8 + (4 + 11) + (0) ≤ 160 * ef + 230 + 30 * jf; omega⟩) ⟨fun a U g mk q => by obtain ⟨q0, q1, q2, qK, q9⟩ := q; exact ⟨q0, q1, q2, jG.calling g mk a qK, q9⟩, va_recv hK (jp_one hat_a_23) (ci := 12) (q0 := 0) rfl rfl, fun U hU hW => ⟨rfl, hU, hX_23, hG.step hW hU hS_23, hg_a, hm_a, he_28, by refine ⟨?_, ?_, ?_, ?_, ?_, ?_⟩ <;> omega⟩⟩ rfl rfl hl.1 rfl (lv_room (Nat.le_of_ble_eq_true rfl)) dX10_isChain_90 ⟨Nat.zero_le _, Nat.zero_le _⟩) hS_23 (fun q _ h => h) (fun q h => h) (fun r_26 u t H1 locs1 ht hvm hr_26 hBb hz1 hk1 hS_27 => ?_)
                obtain ⟨tk_27, at_27, nc_27⟩ := u
                obtain ⟨hX_27, he_27, hM_270, hz_270, hT_270⟩ := hBb
                rw [ht] at hX_27 he_27 hM_270 hz_270 hT_270
                simp only at hr_26 he_27
                have hM_27 := hM_23.tr0 hM_270 hz_23 (by intro r; simp)
                have hz_27 := hz_270.trans hz_23
                have hT_27 := hT_270.trans hT_23
                clear hz1 hk1 hvm ht hM_270 hz_270 hT_270
                obtain ⟨hr_26b, hr_26p⟩ := hr_26
                have hr_26' := jb_01 hr_26b
                refine lv_if_ne (tgt := 98) hx hb dX10_isChain_93 (by decide) (fun c_29 => ?_) (fun c_29 => ?_)
                · skip
                  have c_29' : r_26.toInt ≠ 0 := jb_ne (rfl) ((by decide)) c_29
                  obtain ⟨z_30, ez_30⟩ : ∃ y : Int32, y = iv + 1 := ⟨_, rfl⟩
                  refine lv_iinc (v := z_30) (lv' := [(3, .int z_30), (5, .int r_11), (4, .int ncv), (0, .ref a), (1, .int st), (2, .int dp)]) hx hb dX10_isChain_98 hl (k := 5) rfl (by rw [ez_30]; rfl) (by decide) rfl (fun ls hl => ?_)
                  have hz_30 : z_30.toInt = iv.toInt + 1 := by rw [ez_30]; exact jb_iadd (rfl) (by decide) (by omega) (by omega)
                  refine lv_goto (tgt := 2) hx hb dX10_isChain_101 (by decide) ?_
                  exact L2 z_30 tk_27 at_27 nc_27 _ _ he_27 hX_27 hS_27 hM_27 hz_27 hT_27 (by refine ⟨?_, ?_, ?_, ?_, ?_, ?_, ?_⟩ <;> omega) (by omega) _ (lv_sub hl [3, 4, 5, 0] rfl)
                · skip
                  have c_29' : r_26.toInt = 0 := jb_ne_n (rfl) ((by decide)) c_29
                  refine lv_iconst (v := 0) hx hb dX10_isChain_96 (by decide) ?_
                  rw [hQ]
                  exact W.zret (v := 0) hx hb hr (jb_nz (Or.inl rfl)) (fun t ht hW => ⟨⟨0, (tk_27, at_27, nc_27), rfl, ⟨(Or.inl rfl), by refine ⟨?_, ?_, ?_, ?_, ?_, ?_⟩ <;> first | rfl | omega | (left; omega) | (right; omega) | exact Or.inl ⟨by decide, rfl⟩ | (simp only; omega)⟩, by rw [ht]; try exact hX_27, by rw [ht]; try exact he_27, by rw [ht]; try exact hM_27, by rw [ht]; try exact hz_27, by rw [ht]; try exact hT_27⟩, by rw [ht]; try exact hS_27.1, fun q h9 hq => by rw [ht]; try exact hS_27.2.1 q h9 hq⟩) hS_27.2.2 dX10_isChain_97
              · skip
                have c_19' : r_14.toInt ≠ z_18.toInt := jb_eq_n (rfl) (rfl) c_19
                refine lv_iconst (v := 1) hx hb dX10_isChain_70 (by decide) ?_
                rw [hQ]
                exact W.zret (v := 1) hx hb hr (jb_nz (Or.inr rfl)) (fun t ht hW => ⟨⟨1, (tk_15, at_15, nc_15), rfl, ⟨(Or.inr rfl), by refine ⟨?_, ?_, ?_, ?_, ?_, ?_⟩ <;> first | rfl | omega | (left; omega) | (right; omega) | exact Or.inl ⟨by decide, rfl⟩ | (simp only; omega)⟩, by rw [ht]; try exact hX_15, by rw [ht]; try exact he_15, by rw [ht]; try exact hM_15, by rw [ht]; try exact hz_15, by rw [ht]; try exact hT_15⟩, by rw [ht]; try exact hS_15.1, fun q h9 hq => by rw [ht]; try exact hS_15.2.1 q h9 hq⟩) hS_15.2.2 dX10_isChain_71
            · skip
              have c_13' : r_11.toInt = 0 := jb_ne_n (rfl) ((by decide)) c_13
              refine lv_iconst (v := 0) hx hb dX10_isChain_56 (by decide) ?_
              rw [hQ]
              exact W.zret (v := 0) hx hb hr (jb_nz (Or.inl rfl)) (fun t ht hW => ⟨⟨0, (tk_12, at_12, nc_12), rfl, ⟨(Or.inl rfl), by refine ⟨?_, ?_, ?_, ?_, ?_, ?_⟩ <;> first | rfl | omega | (left; omega) | (right; omega) | exact Or.inl ⟨by decide, rfl⟩ | (simp only; omega)⟩, by rw [ht]; try exact hX_12, by rw [ht]; try exact he_12, by rw [ht]; try exact hM_12, by rw [ht]; try exact hz_12, by rw [ht]; try exact hT_12⟩, by rw [ht]; try exact hS_12.1, fun q h9 hq => by rw [ht]; try exact hS_12.2.1 q h9 hq⟩) hS_12.2.2 dX10_isChain_57
          · skip
            have c_9' : st.toInt = z_8.toInt := jb_ne_n (rfl) (rfl) c_9
            refine lv_aload_n hx hb dX10_isChain_33 rfl (lv_at hl 1 rfl) ?_
            refine lv_iload_n hx hb dX10_isChain_34 rfl (lv_at hl 3 rfl) ?_
            refine va_calli (A0 := jA base) (H0 := s.heap) (va_runV (As := [.int dp]) (rest := []) ⟨hx, hb, hml, hown, hts⟩ (hO G0 X H a dp tkv atv ncv) (cwV 1 hts gX10_isChain_X10_isOne rfl rfl rfl (by decide +kernel) ⟨by rw [← hR]; show (5 * ef + 5) + 1 ≤ 5 * ef + 6 + jf; omega, by rw [← hR]; show 8 + (6 + 11) + (160 * ef + 200) ≤ 160 * ef + 230 + 30 * jf; omega⟩) ⟨fun a U g mk q => by obtain ⟨q0, q1, q2, qK, q9⟩ := q; exact ⟨q0, q1, q2, jG.calling g mk a qK, q9⟩, va_recv hK (jp_one hat_a_5) (ci := 12) (q0 := 0) rfl rfl, fun U hU hW => ⟨rfl, hU, hX, hG.step hW hU hS, hg_a, hm_a, he, by refine ⟨?_, ?_, ?_, ?_, ?_, ?_, ?_, ?_⟩ <;> omega⟩⟩ rfl rfl hl.1 rfl (lv_room (Nat.le_of_ble_eq_true rfl)) dX10_isChain_35 ⟨Nat.zero_le _, Nat.zero_le _⟩) hS (fun q _ h => h) (fun q h => h) (fun r_31 u t H1 locs1 ht hvm hr_31 hBb hz1 hk1 hS_32 => ?_)
            obtain ⟨tk_32, at_32, nc_32⟩ := u
            obtain ⟨hX_32, he_32, hM_320, hz_320, hT_320⟩ := hBb
            rw [ht] at hX_32 he_32 hM_320 hz_320 hT_320
            simp only at hr_31 he_32
            have hM_32 := hM.tr0 hM_320 hz (by intro r; simp)
            have hz_32 := hz_320.trans hz
            have hT_32 := hT_320.trans hT
            clear hz1 hk1 hvm ht hM_320 hz_320 hT_320
            obtain ⟨hr_31b, hr_31p⟩ := hr_31
            have hr_31' := jb_01 hr_31b
            refine lv_goto (tgt := 49) hx hb dX10_isChain_38 (by decide) ?_
            refine lv_istore (lv' := [(5, .int r_31), (4, .int ncv), (0, .ref a), (1, .int st), (2, .int dp), (3, .int iv)]) hx hb dX10_isChain_49 hl (by decide) rfl (fun ls hl => ?_)
            refine lv_iload hx hb dX10_isChain_51 (lv_at hl 0 rfl) ?_
            refine lv_if_ne (tgt := 58) hx hb dX10_isChain_53 (by decide) (fun c_33 => ?_) (fun c_33 => ?_)
            · skip
              have c_33' : r_31.toInt ≠ 0 := jb_ne (rfl) ((by decide)) c_33
              refine lv_aload_n hx hb dX10_isChain_58 rfl (lv_at hl 2 rfl) ?_
              obtain ⟨names_36, kinds_36, values_36, word_36, told_36, toldCount_36, terms_36, nodes_36, f_kinds_36, f_values_36, f_told_36, f_nodes_36, hat_a_36, hat_kinds_36, hat_values_36, hat_told_36, hat_nodes_36, hg_kinds_36, hg_values_36, hg_told_36, hg_nodes_36, hg_names_36, hf0_36, hf1_36⟩ := id he_32
              have hlt_names_36 := hX_32.2 _ _ hg_names_36
              have hrt_names_36 : jRoot G0 names_36 := ⟨_, _, hg_names_36, by omega⟩
              refine va_calli (A0 := jA base) (H0 := s.heap) (va_runV (As := []) (rest := []) ⟨hx, hb, hml, hown, hts⟩ (tX10_peek l dC dI ca base B hB G0 X H1 a tk_32 at_32 nc_32) (cwV 0 hts gX10_isChain_X10_peek rfl rfl rfl (by decide +kernel) ⟨by rw [← hR]; show (0) + 1 ≤ 5 * ef + 6 + jf; omega, by rw [← hR]; show 8 + (1 + 11) + (0) ≤ 160 * ef + 230 + 30 * jf; omega⟩) ⟨fun a U g mk q => by obtain ⟨q0, q1, q2, qK, q9⟩ := q; exact ⟨q0, q1, q2, jG.calling g mk a qK, q9⟩, va_recv hK (jp_one hat_a_36) (ci := 12) (q0 := 0) rfl rfl, fun U hU hW => ⟨rfl, hU, hX_32, hG.step hW hU hS_32, hg_a, hm_a, he_32, by refine ⟨?_, ?_, ?_, ?_, ?_, ?_⟩ <;> omega⟩⟩ rfl rfl hl.1 rfl (lv_room (Nat.le_of_ble_eq_true rfl)) dX10_isChain_59 ⟨Nat.zero_le _, Nat.zero_le _⟩) hS_32 (fun q _ h => h) (fun q h => h) (fun r_34 u t H1 locs1 ht hvm hr_34 hBb hz1 hk1 hS_35 => ?_)
              obtain ⟨tk_35, at_35, nc_35⟩ := u
              obtain ⟨hX_35, he_35, hM_350, hz_350, hT_350⟩ := hBb
              rw [ht] at hX_35 he_35 hM_350 hz_350 hT_350
              simp only at hr_34 he_35
              have hM_35 := hM_32.tr0 hM_350 hz_32 (by intro r; simp)
              have hz_35 := hz_350.trans hz_32
              have hT_35 := hT_350.trans hT_32
              clear hz1 hk1 hvm ht hM_350 hz_350 hT_350
              obtain ⟨ts_37, fts_37, hzts_37, htts_37, hpts_37⟩ := hG.2.2.2.2.2.1
              refine va_gets hx hb hzts_37 hS_35 hown (hts (.fieldLink RX10 122 "ProofServer$Syntax" "CHAIN_SIGNS" "[I") (by decide +kernel)) (fun _ h9 => h9) dX10_isChain_62 ?_
              refine lv_iload_n hx hb dX10_isChain_65 rfl (lv_at hl 3 rfl) ?_
              refine va_ti hx hb htts_37 hS_35 (jb_in (i := st) (n := 3) (rfl) (by omega) (by omega)) rfl dX10_isChain_66 ?_
              refine lv_topi (fun z_38 ez_38 => ?_)
              have hz_38 : 0 < z_38.toInt := by rw [ez_38]; exact hpts_37 _ (jb_cl_lt (i := st) (rfl) (by omega) (by omega))
              refine lv_icmp_eq (tgt := 72) hx hb dX10_isChain_67 (by decide) (fun c_39 => ?_) (fun c_39 => ?_)
              · skip
                have c_39' : r_34.toInt = z_38.toInt := jb_eq (rfl) (rfl) c_39
                refine lv_aload_n hx hb dX10_isChain_72 rfl (lv_at hl 2 rfl) ?_
                refine lv_dup hx hb dX10_isChain_73 rfl ?_
                obtain ⟨names_40, kinds_40, values_40, word_40, told_40, toldCount_40, terms_40, nodes_40, f_kinds_40, f_values_40, f_told_40, f_nodes_40, hat_a_40, hat_kinds_40, hat_values_40, hat_told_40, hat_nodes_40, hg_kinds_40, hg_values_40, hg_told_40, hg_nodes_40, hg_names_40, hf0_40, hf1_40⟩ := id he_35
                have hlt_names_40 := hX_35.2 _ _ hg_names_40
                have hrt_names_40 : jRoot G0 names_40 := ⟨_, _, hg_names_40, by omega⟩
                refine va_get (D := (dC, dI)) (ci := 12) (v := .int at_35) (C := RX10) (T := TX10) (N := 11) hx hb hts hin_12 hown hK (jp_one hat_a_40) 0 rfl rfl 4 (by decide) (hts (.fieldLink RX10 83 "ProofServer$Syntax" "at" "I") (by decide +kernel)) (fun _ h9 => h9) rfl dX10_isChain_74 ?_
                refine lv_iconst (v := 1) hx hb dX10_isChain_77 (by decide) ?_
                refine lv_iadd hx hb dX10_isChain_78 ?_
                refine lv_topi (fun z_41 ez_41 => ?_)
                have hz_41 : z_41.toInt = at_35.toInt + 1 := by rw [ez_41]; exact jb_iadd (rfl) ((by decide)) (by omega) (by omega)
                refine j_put (D := (dC, dI)) (ci := 12) (v := .int z_41) (ty := .int) (C := RX10) (T := TX10) (N := 11) (A := jA base) hx hb hts hin_12 tyX10 tyX10_ok nmX10 hown hK hat_a_40 (hX_35.2 _ _ hg_a).1 hS_35.2.2 rfl 4 (by decide) (hts (.fieldLink RX10 83 "ProofServer$Syntax" "at" "I") (by decide +kernel)) (fun _ h9 => h9) rfl (by decide +kernel) rfl rfl (Nat.le_of_ble_eq_true rfl) dX10_isChain_79 (fun H1 locs1 hat1 hsz1 hfr1 hT1 hL1 => ?_)
                have hX_43 := hX_35.put hB hg_a (by omega) jSup.root hm_a hsz1 hfr1
                have hM_43 := hM_35.put jExt.rf hrt_a jSup.root (by simp) hfr1
                have hz_43 := hsz1.trans hz_35
                have hT_43 := hT1.trans hT_35
                have hS_43 := jS_put hS_35 hsz1 hfr1 (hX_35.2 _ _ hg_a).1 hL1
                have hat_kinds_40_43 := hat_kinds_40.kept (hfr1 _ (jne hg_kinds_40 hg_a (by simp)))
                have hat_values_40_43 := hat_values_40.kept (hfr1 _ (jne hg_values_40 hg_a (by simp)))
                have hat_told_40_43 := hat_told_40.kept (hfr1 _ (jne hg_told_40 hg_a (by simp)))
                have hat_nodes_40_43 := hat_nodes_40.kept (hfr1 _ (jne hg_nodes_40 hg_a (by simp)))
                clear hfr1 hsz1 hT1 hL1 hat_a_40 hat_kinds_40 hat_values_40 hat_told_40 hat_nodes_40 hX_35 hM_35 hz_35 hT_35 hS_35
                have hat_a_43 : va_at (dC, dI) vwCl (a, .inr (12, [.ref names_40, .ref kinds_40, .ref values_40, .int tk_35, .int z_41, .int word_40, .ref told_40, .int toldCount_40, .int terms_40, .ref nodes_40, .int nc_35])) H1 := hat1
                clear hat1
                refine lv_aload_n hx hb dX10_isChain_82 rfl (lv_at hl 2 rfl) ?_
                refine lv_iload hx hb dX10_isChain_83 (lv_at hl 1 rfl) ?_
                obtain ⟨ts_44, fts_44, hzts_44, htts_44, hpts_44⟩ := hG.2.2.2.2.2.2.1
                refine va_gets hx hb hzts_44 hS_43 hown (hts (.fieldLink RX10 128 "ProofServer$Syntax" "CHAIN_NODES" "[I") (by decide +kernel)) (fun _ h9 => h9) dX10_isChain_85 ?_
                refine lv_iload_n hx hb dX10_isChain_88 rfl (lv_at hl 3 rfl) ?_
                refine va_ti hx hb htts_44 hS_43 (jb_in (i := st) (n := 3) (rfl) (by omega) (by omega)) rfl dX10_isChain_89 ?_
                refine lv_topi (fun z_45 ez_45 => ?_)
                have hz_45 : 0 < z_45.toInt := by rw [ez_45]; exact hpts_44 _ (jb_cl_lt (i := st) (rfl) (by omega) (by omega))
                have he_48 : jB12e dC dI ca G0 a tk_35 z_41 nc_35 H1 := ⟨names_40, kinds_40, values_40, word_40, told_40, toldCount_40, terms_40, nodes_40, f_kinds_40, f_values_40, f_told_40, f_nodes_40, hat_a_43, hat_kinds_40_43, hat_values_40_43, hat_told_40_43, hat_nodes_40_43, hg_kinds_40, hg_values_40, hg_told_40, hg_nodes_40, hg_names_40, by first | omega | assumption | (simp; done) | exact Or.inl rfl | exact Or.inr rfl, by first | omega | assumption | (simp; done) | exact Or.inl rfl | exact Or.inr rfl⟩
                refine va_calli (A0 := jA base) (H0 := s.heap) (va_runV (As := [.int ncv, .int z_45]) (rest := []) ⟨hx, hb, hml, hown, hts⟩ (tX10_insertNode l dC dI ca base B hB G0 X H1 a ncv z_45 tk_35 z_41 nc_35) (cwV 2 hts gX10_isChain_X10_insertNode rfl rfl rfl (by decide +kernel) ⟨by rw [← hR]; show (0) + 1 ≤ 5 * ef + 6 + jf; omega, by rw [← hR]; show 8 + (4 + 11) + (0) ≤ 160 * ef + 230 + 30 * jf; omega⟩) ⟨fun a U g mk q => by obtain ⟨q0, q1, q2, qK, q9⟩ := q; exact ⟨q0, q1, q2, jG.calling g mk a qK, q9⟩, va_recv hK (jp_one hat_a_43) (ci := 12) (q0 := 0) rfl rfl, fun U hU hW => ⟨rfl, hU, hX_43, hG.step hW hU hS_43, hg_a, hm_a, he_48, by refine ⟨?_, ?_, ?_, ?_, ?_, ?_⟩ <;> omega⟩⟩ rfl rfl hl.1 rfl (lv_room (Nat.le_of_ble_eq_true rfl)) dX10_isChain_90 ⟨Nat.zero_le _, Nat.zero_le _⟩) hS_43 (fun q _ h => h) (fun q h => h) (fun r_46 u t H1 locs1 ht hvm hr_46 hBb hz1 hk1 hS_47 => ?_)
                obtain ⟨tk_47, at_47, nc_47⟩ := u
                obtain ⟨hX_47, he_47, hM_470, hz_470, hT_470⟩ := hBb
                rw [ht] at hX_47 he_47 hM_470 hz_470 hT_470
                simp only at hr_46 he_47
                have hM_47 := hM_43.tr0 hM_470 hz_43 (by intro r; simp)
                have hz_47 := hz_470.trans hz_43
                have hT_47 := hT_470.trans hT_43
                clear hz1 hk1 hvm ht hM_470 hz_470 hT_470
                obtain ⟨hr_46b, hr_46p⟩ := hr_46
                have hr_46' := jb_01 hr_46b
                refine lv_if_ne (tgt := 98) hx hb dX10_isChain_93 (by decide) (fun c_49 => ?_) (fun c_49 => ?_)
                · skip
                  have c_49' : r_46.toInt ≠ 0 := jb_ne (rfl) ((by decide)) c_49
                  obtain ⟨z_50, ez_50⟩ : ∃ y : Int32, y = iv + 1 := ⟨_, rfl⟩
                  refine lv_iinc (v := z_50) (lv' := [(3, .int z_50), (5, .int r_31), (4, .int ncv), (0, .ref a), (1, .int st), (2, .int dp)]) hx hb dX10_isChain_98 hl (k := 5) rfl (by rw [ez_50]; rfl) (by decide) rfl (fun ls hl => ?_)
                  have hz_50 : z_50.toInt = iv.toInt + 1 := by rw [ez_50]; exact jb_iadd (rfl) (by decide) (by omega) (by omega)
                  refine lv_goto (tgt := 2) hx hb dX10_isChain_101 (by decide) ?_
                  exact L2 z_50 tk_47 at_47 nc_47 _ _ he_47 hX_47 hS_47 hM_47 hz_47 hT_47 (by refine ⟨?_, ?_, ?_, ?_, ?_, ?_, ?_⟩ <;> omega) (by omega) _ (lv_sub hl [3, 4, 5, 0] rfl)
                · skip
                  have c_49' : r_46.toInt = 0 := jb_ne_n (rfl) ((by decide)) c_49
                  refine lv_iconst (v := 0) hx hb dX10_isChain_96 (by decide) ?_
                  rw [hQ]
                  exact W.zret (v := 0) hx hb hr (jb_nz (Or.inl rfl)) (fun t ht hW => ⟨⟨0, (tk_47, at_47, nc_47), rfl, ⟨(Or.inl rfl), by refine ⟨?_, ?_, ?_, ?_, ?_, ?_⟩ <;> first | rfl | omega | (left; omega) | (right; omega) | exact Or.inl ⟨by decide, rfl⟩ | (simp only; omega)⟩, by rw [ht]; try exact hX_47, by rw [ht]; try exact he_47, by rw [ht]; try exact hM_47, by rw [ht]; try exact hz_47, by rw [ht]; try exact hT_47⟩, by rw [ht]; try exact hS_47.1, fun q h9 hq => by rw [ht]; try exact hS_47.2.1 q h9 hq⟩) hS_47.2.2 dX10_isChain_97
              · skip
                have c_39' : r_34.toInt ≠ z_38.toInt := jb_eq_n (rfl) (rfl) c_39
                refine lv_iconst (v := 1) hx hb dX10_isChain_70 (by decide) ?_
                rw [hQ]
                exact W.zret (v := 1) hx hb hr (jb_nz (Or.inr rfl)) (fun t ht hW => ⟨⟨1, (tk_35, at_35, nc_35), rfl, ⟨(Or.inr rfl), by refine ⟨?_, ?_, ?_, ?_, ?_, ?_⟩ <;> first | rfl | omega | (left; omega) | (right; omega) | exact Or.inl ⟨by decide, rfl⟩ | (simp only; omega)⟩, by rw [ht]; try exact hX_35, by rw [ht]; try exact he_35, by rw [ht]; try exact hM_35, by rw [ht]; try exact hz_35, by rw [ht]; try exact hT_35⟩, by rw [ht]; try exact hS_35.1, fun q h9 hq => by rw [ht]; try exact hS_35.2.1 q h9 hq⟩) hS_35.2.2 dX10_isChain_71
            · skip
              have c_33' : r_31.toInt = 0 := jb_ne_n (rfl) ((by decide)) c_33
              refine lv_iconst (v := 0) hx hb dX10_isChain_56 (by decide) ?_
              rw [hQ]
              exact W.zret (v := 0) hx hb hr (jb_nz (Or.inl rfl)) (fun t ht hW => ⟨⟨0, (tk_32, at_32, nc_32), rfl, ⟨(Or.inl rfl), by refine ⟨?_, ?_, ?_, ?_, ?_, ?_⟩ <;> first | rfl | omega | (left; omega) | (right; omega) | exact Or.inl ⟨by decide, rfl⟩ | (simp only; omega)⟩, by rw [ht]; try exact hX_32, by rw [ht]; try exact he_32, by rw [ht]; try exact hM_32, by rw [ht]; try exact hz_32, by rw [ht]; try exact hT_32⟩, by rw [ht]; try exact hS_32.1, fun q h9 hq => by rw [ht]; try exact hS_32.2.1 q h9 hq⟩) hS_32.2.2 dX10_isChain_57
  exact L2 (1500 - (0 : Int32).toInt : Int).toNat.succ 0 tk0 at0 nc0 _ _ he_a hX hS hM hz hT (by refine ⟨?_, ?_, ?_, ?_, ?_, ?_, ?_⟩ <;> omega) (by omega) _ (lv_sub hl [1, 2, 3, 0] rfl)
theorem aX10_isOneChain (l : Launch) (dC : Nat → ClassId) (dI : Nat → Nat → Nat) (ca : Nat → ClassId) (base : Nat) (B : jF) (hB : jBok B) : ∀ ef, qX10_isOne l dC dI ca base B ef ∧ ∀ jf, qX10_isChain l dC dI ca base B ef jf := fun ef => Nat.strongRecOn ef (fun e ih => by
  have hO : qX10_isOne l dC dI ca base B e := fun G0 X H0 a dp tk0 at0 nc0 => tX10_isOne l dC dI ca base B hB e (fun e1 h => (ih e1 h).1) (fun e1 h => (ih e1 h).2 2) G0 X H0 a dp tk0 at0 nc0
  refine ⟨hO, fun jf => Nat.strongRecOn jf (fun j ihj => fun G0 X H0 a st dp tk0 at0 nc0 => tX10_isChain l dC dI ca base B hB e j hO ihj G0 X H0 a st dp tk0 at0 nc0)⟩)
