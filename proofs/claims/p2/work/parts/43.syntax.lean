set_option maxRecDepth 20000 in
theorem ggX10_isChain_X10_isOne : GoodIn wsX10_isChain wsX10_isOne := goodIn_r _ [23, 3, 2, 22, 12, 13, 14, 8, 15, 16, 17, 24, 25, 26, 27, 28, 29, 30, 31, 32, 5, 6, 7, 9, 10, 11, 33, 34, 35, 36, 37, 38, 39, 40, 18, 19, 20, 21, 0, 1, 4, 41, 42, 43, 44, 45, 46, 47, 48, 49, 50, 51] (by decide +kernel) (by decide +kernel)
set_option maxRecDepth 20000 in
theorem gX10_isChain_X10_isOne : GoodIn wsX10_isChain (wsV RX10 125 RX10 yX10_isOne wsX10_isOne) := goodIn_app (goodIn_of _ (by decide +kernel)) ggX10_isChain_X10_isOne
set_option maxRecDepth 20000 in
theorem ggX10_isChain_X10_isChain : GoodIn wsX10_isChain wsX10_isChain := goodIn_r _ [0, 1, 2, 3, 4, 5, 6, 7, 8, 9, 10, 11, 12, 13, 14, 15, 16, 17, 18, 19, 20, 21, 22, 23, 24, 25, 26, 27, 28, 29, 30, 31, 32, 33, 34, 35, 36, 37, 38, 39, 40, 41, 42, 43, 44, 45, 46, 47, 48, 49, 50, 51] (by decide +kernel) (by decide +kernel)
set_option maxRecDepth 20000 in
theorem gX10_isChain_X10_isChain : GoodIn wsX10_isChain (wsV RX10 108 RX10 yX10_isChain wsX10_isChain) := goodIn_app (goodIn_of _ (by decide +kernel)) ggX10_isChain_X10_isChain
set_option maxRecDepth 20000 in
theorem ggX10_isChain_X10_peek : GoodIn wsX10_isChain wsX10_peek := goodIn_r _ [15, 3, 16, 17, 41, 42, 43, 44, 45, 46, 47, 48, 49, 50, 51] (by decide +kernel) (by decide +kernel)
set_option maxRecDepth 20000 in
theorem gX10_isChain_X10_peek : GoodIn wsX10_isChain (wsV RX10 115 RX10 yX10_peek wsX10_peek) := goodIn_app (goodIn_of _ (by decide +kernel)) ggX10_isChain_X10_peek
set_option maxRecDepth 20000 in
theorem ggX10_isChain_X10_insertNode : GoodIn wsX10_isChain wsX10_insertNode := goodIn_r _ [21, 2, 22, 41, 42, 43, 44, 45, 46, 47, 48, 49, 50, 51] (by decide +kernel) (by decide +kernel)
set_option maxRecDepth 20000 in
theorem gX10_isChain_X10_insertNode : GoodIn wsX10_isChain (wsV RX10 131 RX10 yX10_insertNode wsX10_insertNode) := goodIn_app (goodIn_of _ (by decide +kernel)) ggX10_isChain_X10_insertNode
theorem dX10_isChain_0 : decode cX10_isChain 0 = .ok (.iconst 0, 1) := by decide +kernel
theorem dX10_isChain_1 : decode cX10_isChain 1 = .ok (.istore_n 3, 1) := by decide +kernel
theorem dX10_isChain_2 : decode cX10_isChain 2 = .ok (.iload_n 3, 1) := by decide +kernel
theorem dX10_isChain_3 : decode cX10_isChain 3 = .ok (.sipush 1500, 3) := by decide +kernel
theorem dX10_isChain_6 : decode cX10_isChain 6 = .ok (.if_icmp .ge 98, 3) := by decide +kernel
theorem dX10_isChain_9 : decode cX10_isChain 9 = .ok (.iload_n 1, 1) := by decide +kernel
theorem dX10_isChain_10 : decode cX10_isChain 10 = .ok (.getstatic 122, 3) := by decide +kernel
theorem dX10_isChain_13 : decode cX10_isChain 13 = .ok (.arraylength, 1) := by decide +kernel
theorem dX10_isChain_14 : decode cX10_isChain 14 = .ok (.if_icmp .ge 90, 3) := by decide +kernel
theorem dX10_isChain_17 : decode cX10_isChain 17 = .ok (.aload_n 0, 1) := by decide +kernel
theorem dX10_isChain_18 : decode cX10_isChain 18 = .ok (.getfield 89, 3) := by decide +kernel
theorem dX10_isChain_21 : decode cX10_isChain 21 = .ok (.istore 4, 2) := by decide +kernel
theorem dX10_isChain_23 : decode cX10_isChain 23 = .ok (.iload_n 1, 1) := by decide +kernel
theorem dX10_isChain_24 : decode cX10_isChain 24 = .ok (.getstatic 122, 3) := by decide +kernel
theorem dX10_isChain_27 : decode cX10_isChain 27 = .ok (.arraylength, 1) := by decide +kernel
theorem dX10_isChain_28 : decode cX10_isChain 28 = .ok (.iconst 1, 1) := by decide +kernel
theorem dX10_isChain_29 : decode cX10_isChain 29 = .ok (.isub, 1) := by decide +kernel
theorem dX10_isChain_30 : decode cX10_isChain 30 = .ok (.if_icmp .ne 11, 3) := by decide +kernel
theorem dX10_isChain_33 : decode cX10_isChain 33 = .ok (.aload_n 0, 1) := by decide +kernel
theorem dX10_isChain_34 : decode cX10_isChain 34 = .ok (.iload_n 2, 1) := by decide +kernel
theorem dX10_isChain_35 : decode cX10_isChain 35 = .ok (.invokevirtual 125, 3) := by decide +kernel
theorem dX10_isChain_38 : decode cX10_isChain 38 = .ok (.goto 11, 3) := by decide +kernel
theorem dX10_isChain_41 : decode cX10_isChain 41 = .ok (.aload_n 0, 1) := by decide +kernel
theorem dX10_isChain_42 : decode cX10_isChain 42 = .ok (.iload_n 1, 1) := by decide +kernel
theorem dX10_isChain_43 : decode cX10_isChain 43 = .ok (.iconst 1, 1) := by decide +kernel
theorem dX10_isChain_44 : decode cX10_isChain 44 = .ok (.iadd, 1) := by decide +kernel
theorem dX10_isChain_45 : decode cX10_isChain 45 = .ok (.iload_n 2, 1) := by decide +kernel
theorem dX10_isChain_46 : decode cX10_isChain 46 = .ok (.invokevirtual 108, 3) := by decide +kernel
theorem dX10_isChain_49 : decode cX10_isChain 49 = .ok (.istore 5, 2) := by decide +kernel
theorem dX10_isChain_51 : decode cX10_isChain 51 = .ok (.iload 5, 2) := by decide +kernel
theorem dX10_isChain_53 : decode cX10_isChain 53 = .ok (.ifCond .ne 5, 3) := by decide +kernel
theorem dX10_isChain_56 : decode cX10_isChain 56 = .ok (.iconst 0, 1) := by decide +kernel
theorem dX10_isChain_57 : decode cX10_isChain 57 = .ok (.ireturn, 1) := by decide +kernel
theorem dX10_isChain_58 : decode cX10_isChain 58 = .ok (.aload_n 0, 1) := by decide +kernel
theorem dX10_isChain_59 : decode cX10_isChain 59 = .ok (.invokevirtual 115, 3) := by decide +kernel
theorem dX10_isChain_62 : decode cX10_isChain 62 = .ok (.getstatic 122, 3) := by decide +kernel
theorem dX10_isChain_65 : decode cX10_isChain 65 = .ok (.iload_n 1, 1) := by decide +kernel
theorem dX10_isChain_66 : decode cX10_isChain 66 = .ok (.iaload, 1) := by decide +kernel
theorem dX10_isChain_67 : decode cX10_isChain 67 = .ok (.if_icmp .eq 5, 3) := by decide +kernel
theorem dX10_isChain_70 : decode cX10_isChain 70 = .ok (.iconst 1, 1) := by decide +kernel
theorem dX10_isChain_71 : decode cX10_isChain 71 = .ok (.ireturn, 1) := by decide +kernel
theorem dX10_isChain_72 : decode cX10_isChain 72 = .ok (.aload_n 0, 1) := by decide +kernel
theorem dX10_isChain_73 : decode cX10_isChain 73 = .ok (.dup, 1) := by decide +kernel
theorem dX10_isChain_74 : decode cX10_isChain 74 = .ok (.getfield 83, 3) := by decide +kernel
theorem dX10_isChain_77 : decode cX10_isChain 77 = .ok (.iconst 1, 1) := by decide +kernel
theorem dX10_isChain_78 : decode cX10_isChain 78 = .ok (.iadd, 1) := by decide +kernel
theorem dX10_isChain_79 : decode cX10_isChain 79 = .ok (.putfield 83, 3) := by decide +kernel
theorem dX10_isChain_82 : decode cX10_isChain 82 = .ok (.aload_n 0, 1) := by decide +kernel
theorem dX10_isChain_83 : decode cX10_isChain 83 = .ok (.iload 4, 2) := by decide +kernel
theorem dX10_isChain_85 : decode cX10_isChain 85 = .ok (.getstatic 128, 3) := by decide +kernel
theorem dX10_isChain_88 : decode cX10_isChain 88 = .ok (.iload_n 1, 1) := by decide +kernel
theorem dX10_isChain_89 : decode cX10_isChain 89 = .ok (.iaload, 1) := by decide +kernel
theorem dX10_isChain_90 : decode cX10_isChain 90 = .ok (.invokevirtual 131, 3) := by decide +kernel
theorem dX10_isChain_93 : decode cX10_isChain 93 = .ok (.ifCond .ne 5, 3) := by decide +kernel
theorem dX10_isChain_96 : decode cX10_isChain 96 = .ok (.iconst 0, 1) := by decide +kernel
theorem dX10_isChain_97 : decode cX10_isChain 97 = .ok (.ireturn, 1) := by decide +kernel
theorem dX10_isChain_98 : decode cX10_isChain 98 = .ok (.iinc 3 1, 3) := by decide +kernel
theorem dX10_isChain_101 : decode cX10_isChain 101 = .ok (.goto (-99), 3) := by decide +kernel
theorem dX10_isChain_104 : decode cX10_isChain 104 = .ok (.iconst 0, 1) := by decide +kernel
theorem dX10_isChain_105 : decode cX10_isChain 105 = .ok (.ireturn, 1) := by decide +kernel
set_option maxHeartbeats 4000000 in
set_option maxRecDepth 20000 in
theorem tX10_isChain (l : Launch) (dC : Nat → ClassId) (dI : Nat → Nat → Nat) (ca : Nat → ClassId) (base : Nat) (B : jF) (hB : jBok B) (ef jf : Nat) (hO : qX10_isOne l dC dI ca base B ef) (ihJ : ∀ j1, j1 < jf → qX10_isChain l dC dI ca base B ef j1) (G0 : jT) (X : List Nat) (H0 : Heap) (a : Nat) (st dp : Int32) (tk0 at0 nc0 : Int32) : Met l yX10_isChain wsX10_isChain ({ frames := 5 * ef + 6 + jf, cells := 0, slots := 0, locals := 160 * ef + 230 + 30 * jf }) (va_Pc [.ref a, .int st, .int dp] (fun U => U.heap = H0 ∧ jX B base G0 X H0 ∧ jG dC dI ca base U ∧ G0 a = some (12, 0) ∧ a ∈ X ∧ jB12e dC dI ca G0 a tk0 at0 nc0 H0 ∧ (0 ≤ tk0.toInt ∧ tk0.toInt ≤ 1500 ∧ 0 ≤ at0.toInt ∧ 0 ≤ nc0.toInt ∧ nc0.toInt ≤ 3000 ∧ at0.toInt ≤ tk0.toInt ∧ dp.toInt = 12 - ef ∧ ef ≤ 12 ∧ st.toInt = 2 - jf ∧ jf ≤ 2))) (va_Qi (S := Int32 × Int32 × Int32) (fun r u => (r = 0 ∨ r = 1) ∧ u.1.toInt = tk0.toInt ∧ 0 ≤ u.2.1.toInt ∧ nc0.toInt ≤ u.2.2.toInt ∧ u.2.2.toInt ≤ 3000 ∧ u.2.1.toInt ≤ tk0.toInt + 2 ∧ (r.toInt = 0 ∨ (u.2.1.toInt ≤ tk0.toInt ∧ nc0.toInt + 1 ≤ u.2.2.toInt))) (fun u t => jX B base G0 X t.heap ∧ jB12e dC dI ca G0 a u.1 u.2.1 u.2.2 t.heap ∧  jModP G0 (fun r => r = a) H0 t.heap ∧ t.heap.size = H0.size ∧ jTot t.heap = jTot H0) (jA base)) 0 0 (jA base) := by
  refine Met.ofW (cc := cX10_isChain) (maxL := 6) (ret := (some .boolean)) (by decide) rfl ?_
  intro p e s m args below meth c s₁ Bd hml hv
  obtain ⟨rfl, hH0, hX, hG, hg_a, hm_a, he_a, ht0, ht1, ha0, hn0, hn1, hp0, hp1, hp2, hp3, hp4⟩ := hv
  have hK := hG.1
  have hx := Bd.exec
  have hb := Bd.bytes
  have hr := Bd.returns
  have hts := atoms_spec (ws := wsX10_isChain) Bd.pre
  have hown : s.vm.findClass RX10 = some m.cls := findClass_of_methodNamed Bd.named
  have hlocks := Bd.notSynchronized
  have hin_12 : ∀ w ∈ u_ws RX10 TX10 11, w ∈ wsX10_isChain := by decide +kernel
  obtain ⟨Q, hQ⟩ : ∃ Q, Q = MQ below (va_Qi (S := Int32 × Int32 × Int32) (fun r u => (r = 0 ∨ r = 1) ∧ u.1.toInt = tk0.toInt ∧ 0 ≤ u.2.1.toInt ∧ nc0.toInt ≤ u.2.2.toInt ∧ u.2.2.toInt ≤ 3000 ∧ u.2.1.toInt ≤ tk0.toInt + 2 ∧ (r.toInt = 0 ∨ (u.2.1.toInt ≤ tk0.toInt ∧ nc0.toInt + 1 ≤ u.2.2.toInt))) (fun u t => jX B base G0 X t.heap ∧ jB12e dC dI ca G0 a u.1 u.2.1 u.2.2 t.heap ∧  jModP G0 (fun r => r = a) H0 t.heap ∧ t.heap.size = H0.size ∧ jTot t.heap = jTot H0) (jA base)) ([.ref a, .int st, .int dp] : List Value).toArray s 0 0 (jA base) := ⟨_, rfl⟩
  rw [← hQ]
  have hl := lv_entry ([.ref a, .int st, .int dp]) (n := 6) (Nat.le_of_ble_eq_true rfl)
  rw [lg_entry_eq]
  generalize (lg_sl ([.ref a, .int st, .int dp]) ++ List.replicate (6 - (lg_sl ([.ref a, .int st, .int dp])).length) Slot.unset).toArray = ls at hl ⊢
  have hl : lv_has ls 6 [(0, .ref a), (1, .int st), (2, .int dp)] := hl
  generalize hR : (headSpec wsX10_isChain ({ frames := 5 * ef + 6 + jf, cells := 0, slots := 0, locals := 160 * ef + 230 + 30 * jf })).room = R
  subst hH0
  have hS : va_S (jA base) s.heap s.heap [] := va_S.rf
  have hM : jModP G0 (fun r => r = a) s.heap s.heap := jModP.rf
  have hz : s.heap.size = s.heap.size := rfl
  have hT : jTot s.heap = jTot s.heap := rfl
  have hlt_a := hX.2 _ _ hg_a
  have hrt_a : jRoot G0 a := ⟨_, _, hg_a, by omega⟩
  have hk0 : (0 : Int32).toInt = 0 := by decide
  have hk1 : (1 : Int32).toInt = 1 := by decide
  have hk1500 : (1500 : Int32).toInt = 1500 := by decide
  refine lv_iconst (v := 0) hx hb dX10_isChain_0 (by decide) ?_
  refine lv_istore_n (lv' := [(3, .int 0), (0, .ref a), (1, .int st), (2, .int dp)]) hx hb dX10_isChain_1 rfl hl (by decide) rfl (fun ls hl => ?_)
  have L2 : ∀ (N : Nat) (iv : Int32) (tkv atv ncv : Int32) (H : Heap) (locs : List Loc), jB12e dC dI ca G0 a tkv atv ncv H → jX B base G0 X H → va_S (jA base) s.heap H locs → jModP G0 (fun r => r = a) s.heap H → H.size = s.heap.size → jTot H = jTot s.heap → (0 ≤ iv.toInt ∧ iv.toInt ≤ 1500 ∧ tkv.toInt = tk0.toInt ∧ 0 ≤ atv.toInt ∧ atv.toInt ≤ tk0.toInt ∧ nc0.toInt ≤ ncv.toInt ∧ ncv.toInt ≤ 3000) → (1500 - iv.toInt : Int) < N → ∀ ls : Array Slot, lv_has ls 6 [(0, .ref a), (1, .int st), (2, .int dp), (3, .int iv)] → W p l e R s m ([.ref a, .int st, .int dp] : List Value).toArray below meth c H locs 0 0 Q (F0 m 2 ls []) := by
    intro N
    induction N with
    | zero => intro iv tkv atv ncv H locs he hX hS hM hz hT hi hm; exact absurd hm (by omega)
    | succ N ih =>
      have L2 := ih
      intro iv tkv atv ncv H locs he hX hS hM hz hT hi hm ls hl
      obtain ⟨hi0, hi1, hi2, hi3, hi4, hi5, hi6⟩ := hi
      refine lv_iload_n hx hb dX10_isChain_2 rfl (lv_at hl 3 rfl) ?_
      refine lv_sipush (v := 1500) hx hb dX10_isChain_3 (by decide) ?_
      refine lv_icmp_ge (tgt := 104) hx hb dX10_isChain_6 (by decide) (fun c_1 => ?_) (fun c_1 => ?_)
      · skip
        have c_1' : iv.toInt ≥ 1500 := jb_ge (rfl) ((by decide)) c_1
        refine lv_iconst (v := 0) hx hb dX10_isChain_104 (by decide) ?_
        rw [hQ]
        exact W.zret (v := 0) hx hb hr (jb_nz (Or.inl rfl)) (fun t ht hW => ⟨⟨0, (tkv, atv, ncv), rfl, ⟨(Or.inl rfl), by refine ⟨?_, ?_, ?_, ?_, ?_, ?_⟩ <;> first | rfl | omega | (left; omega) | (right; omega) | exact Or.inl ⟨by decide, rfl⟩ | (simp only; omega)⟩, by rw [ht]; try exact hX, by rw [ht]; try exact he, by rw [ht]; try exact hM, by rw [ht]; try exact hz, by rw [ht]; try exact hT⟩, by rw [ht]; try exact hS.1, fun q h9 hq => by rw [ht]; try exact hS.2.1 q h9 hq⟩) hS.2.2 dX10_isChain_105
      · skip
        have c_1' : iv.toInt < 1500 := jb_ge_n (rfl) ((by decide)) c_1
        refine lv_iload_n hx hb dX10_isChain_9 rfl (lv_at hl 1 rfl) ?_
        obtain ⟨ts_2, fts_2, hzts_2, htts_2, hpts_2⟩ := hG.2.2.2.2.2.1
        refine va_gets hx hb hzts_2 hS hown (hts (.fieldLink RX10 122 "ProofServer$Syntax" "CHAIN_SIGNS" "[I") (by decide +kernel)) (fun _ h9 => h9) dX10_isChain_10 ?_
        refine va_tlen hx hb htts_2 hS (v := Int32.ofNat 3) rfl dX10_isChain_13 ?_
        refine lv_topi (fun z_3 ez_3 => ?_)
        have hz_3 : z_3.toInt = 3 := by rw [ez_3]; exact jb_nat (by omega)
        refine lv_icmp_ge (tgt := 104) hx hb dX10_isChain_14 (by decide) (fun c_4 => ?_) (fun c_4 => ?_)
        · skip
          have c_4' : st.toInt ≥ z_3.toInt := jb_ge (rfl) (rfl) c_4
          refine lv_iconst (v := 0) hx hb dX10_isChain_104 (by decide) ?_
          rw [hQ]
          exact W.zret (v := 0) hx hb hr (jb_nz (Or.inl rfl)) (fun t ht hW => ⟨⟨0, (tkv, atv, ncv), rfl, ⟨(Or.inl rfl), by refine ⟨?_, ?_, ?_, ?_, ?_, ?_⟩ <;> first | rfl | omega | (left; omega) | (right; omega) | exact Or.inl ⟨by decide, rfl⟩ | (simp only; omega)⟩, by rw [ht]; try exact hX, by rw [ht]; try exact he, by rw [ht]; try exact hM, by rw [ht]; try exact hz, by rw [ht]; try exact hT⟩, by rw [ht]; try exact hS.1, fun q h9 hq => by rw [ht]; try exact hS.2.1 q h9 hq⟩) hS.2.2 dX10_isChain_105
        · skip
          have c_4' : st.toInt < z_3.toInt := jb_ge_n (rfl) (rfl) c_4
          refine lv_aload_n hx hb dX10_isChain_17 rfl (lv_at hl 0 rfl) ?_
          obtain ⟨names_5, kinds_5, values_5, word_5, told_5, toldCount_5, terms_5, nodes_5, f_kinds_5, f_values_5, f_told_5, f_nodes_5, hat_a_5, hat_kinds_5, hat_values_5, hat_told_5, hat_nodes_5, hg_kinds_5, hg_values_5, hg_told_5, hg_nodes_5, hg_names_5, hf0_5, hf1_5⟩ := id he
          have hlt_names_5 := hX.2 _ _ hg_names_5
          have hrt_names_5 : jRoot G0 names_5 := ⟨_, _, hg_names_5, by omega⟩
          refine va_get (D := (dC, dI)) (ci := 12) (v := .int ncv) (C := RX10) (T := TX10) (N := 11) hx hb hts hin_12 hown hK (jp_one hat_a_5) 0 rfl rfl 10 (by decide) (hts (.fieldLink RX10 89 "ProofServer$Syntax" "nodeCount" "I") (by decide +kernel)) (fun _ h9 => h9) rfl dX10_isChain_18 ?_
          refine lv_istore (lv' := [(4, .int ncv), (0, .ref a), (1, .int st), (2, .int dp), (3, .int iv)]) hx hb dX10_isChain_21 hl (by decide) rfl (fun ls hl => ?_)
          refine lv_iload_n hx hb dX10_isChain_23 rfl (lv_at hl 2 rfl) ?_
          obtain ⟨ts_6, fts_6, hzts_6, htts_6, hpts_6⟩ := hG.2.2.2.2.2.1
          refine va_gets hx hb hzts_6 hS hown (hts (.fieldLink RX10 122 "ProofServer$Syntax" "CHAIN_SIGNS" "[I") (by decide +kernel)) (fun _ h9 => h9) dX10_isChain_24 ?_
          refine va_tlen hx hb htts_6 hS (v := Int32.ofNat 3) rfl dX10_isChain_27 ?_
          refine lv_topi (fun z_7 ez_7 => ?_)
          have hz_7 : z_7.toInt = 3 := by rw [ez_7]; exact jb_nat (by omega)
          refine lv_iconst (v := 1) hx hb dX10_isChain_28 (by decide) ?_
          refine lv_isub hx hb dX10_isChain_29 ?_
          refine lv_topi (fun z_8 ez_8 => ?_)
          have hz_8 : z_8.toInt = z_7.toInt - 1 := by rw [ez_8]; exact jb_isub (rfl) ((by decide)) (by omega) (by omega)
          refine lv_icmp_ne (tgt := 41) hx hb dX10_isChain_30 (by decide) (fun c_9 => ?_) (fun c_9 => ?_)
          · skip
            have c_9' : st.toInt ≠ z_8.toInt := jb_ne (rfl) (rfl) c_9
            refine lv_aload_n hx hb dX10_isChain_41 rfl (lv_at hl 1 rfl) ?_
            refine lv_iload_n hx hb dX10_isChain_42 rfl (lv_at hl 2 rfl) ?_
            refine lv_iconst (v := 1) hx hb dX10_isChain_43 (by decide) ?_
            refine lv_iadd hx hb dX10_isChain_44 ?_
            refine lv_topi (fun z_10 ez_10 => ?_)
            have hz_10 : z_10.toInt = st.toInt + 1 := by rw [ez_10]; exact jb_iadd (rfl) ((by decide)) (by omega) (by omega)
            refine lv_iload_n hx hb dX10_isChain_45 rfl (lv_at hl 3 rfl) ?_
            have he_13 : jB12e dC dI ca G0 a tkv atv ncv H := ⟨names_5, kinds_5, values_5, word_5, told_5, toldCount_5, terms_5, nodes_5, f_kinds_5, f_values_5, f_told_5, f_nodes_5, hat_a_5, hat_kinds_5, hat_values_5, hat_told_5, hat_nodes_5, hg_kinds_5, hg_values_5, hg_told_5, hg_nodes_5, hg_names_5, by first | omega | assumption | (simp; done) | exact Or.inl rfl | exact Or.inr rfl, by first | omega | assumption | (simp; done) | exact Or.inl rfl | exact Or.inr rfl⟩
            refine va_calli (A0 := jA base) (H0 := s.heap) (va_runV (As := [.int z_10, .int dp]) (rest := []) ⟨hx, hb, hml, hown, hts⟩ (ihJ (jf - 1) (by omega) G0 X H a z_10 dp tkv atv ncv) (cwV 2 hts gX10_isChain_X10_isChain rfl rfl rfl (by decide +kernel) ⟨by rw [← hR]; show (5 * ef + 6 + (jf - 1)) + 1 ≤ 5 * ef + 6 + jf; omega, by rw [← hR]; show 8 + (6 + 11) + (160 * ef + 230 + 30 * (jf - 1)) ≤ 160 * ef + 230 + 30 * jf; omega⟩) ⟨fun a U g mk q => by obtain ⟨q0, q1, q2, qK, q9⟩ := q; exact ⟨q0, q1, q2, jG.calling g mk a qK, q9⟩, va_recv hK (jp_one hat_a_5) (ci := 12) (q0 := 0) rfl rfl, fun U hU hW => ⟨rfl, hU, hX, hG.step hW hU hS, hg_a, hm_a, he_13, by refine ⟨?_, ?_, ?_, ?_, ?_, ?_, ?_, ?_, ?_, ?_⟩ <;> omega⟩⟩ rfl rfl hl.1 rfl (lv_room (Nat.le_of_ble_eq_true rfl)) dX10_isChain_46 ⟨Nat.zero_le _, Nat.zero_le _⟩) hS (fun q _ h => h) (fun q h => h) (fun r_11 u t H1 locs1 ht hvm hr_11 hBb hz1 hk1 hS_12 => ?_)
            obtain ⟨tk_12, at_12, nc_12⟩ := u
            obtain ⟨hX_12, he_12, hM_120, hz_120, hT_120⟩ := hBb
            rw [ht] at hX_12 he_12 hM_120 hz_120 hT_120
            simp only at hr_11 he_12
            have hM_12 := hM.tr0 hM_120 hz (by intro r; simp)
            have hz_12 := hz_120.trans hz
            have hT_12 := hT_120.trans hT
            clear hz1 hk1 hvm ht hM_120 hz_120 hT_120
            obtain ⟨hr_11b, hr_11p⟩ := hr_11
            have hr_11' := jb_01 hr_11b
            refine lv_istore (lv' := [(5, .int r_11), (4, .int ncv), (0, .ref a), (1, .int st), (2, .int dp), (3, .int iv)]) hx hb dX10_isChain_49 hl (by decide) rfl (fun ls hl => ?_)
            refine lv_iload hx hb dX10_isChain_51 (lv_at hl 0 rfl) ?_
            refine lv_if_ne (tgt := 58) hx hb dX10_isChain_53 (by decide) (fun c_14 => ?_) (fun c_14 => ?_)
            · skip
              have c_14' : r_11.toInt ≠ 0 := jb_ne (rfl) ((by decide)) c_14
              refine lv_aload_n hx hb dX10_isChain_58 rfl (lv_at hl 2 rfl) ?_
              obtain ⟨names_17, kinds_17, values_17, word_17, told_17, toldCount_17, terms_17, nodes_17, f_kinds_17, f_values_17, f_told_17, f_nodes_17, hat_a_17, hat_kinds_17, hat_values_17, hat_told_17, hat_nodes_17, hg_kinds_17, hg_values_17, hg_told_17, hg_nodes_17, hg_names_17, hf0_17, hf1_17⟩ := id he_12
              have hlt_names_17 := hX_12.2 _ _ hg_names_17
              have hrt_names_17 : jRoot G0 names_17 := ⟨_, _, hg_names_17, by omega⟩
              have he_18 : jB12e dC dI ca G0 a tk_12 at_12 nc_12 H1 := ⟨names_17, kinds_17, values_17, word_17, told_17, toldCount_17, terms_17, nodes_17, f_kinds_17, f_values_17, f_told_17, f_nodes_17, hat_a_17, hat_kinds_17, hat_values_17, hat_told_17, hat_nodes_17, hg_kinds_17, hg_values_17, hg_told_17, hg_nodes_17, hg_names_17, by first | omega | assumption | (simp; done) | exact Or.inl rfl | exact Or.inr rfl, by first | omega | assumption | (simp; done) | exact Or.inl rfl | exact Or.inr rfl⟩
              refine va_calli (A0 := jA base) (H0 := s.heap) (va_runV (As := []) (rest := []) ⟨hx, hb, hml, hown, hts⟩ (tX10_peek l dC dI ca base B hB G0 X H1 a tk_12 at_12 nc_12) (cwV 0 hts gX10_isChain_X10_peek rfl rfl rfl (by decide +kernel) ⟨by rw [← hR]; show (0) + 1 ≤ 5 * ef + 6 + jf; omega, by rw [← hR]; show 8 + (1 + 11) + (0) ≤ 160 * ef + 230 + 30 * jf; omega⟩) ⟨fun a U g mk q => by obtain ⟨q0, q1, q2, qK, q9⟩ := q; exact ⟨q0, q1, q2, jG.calling g mk a qK, q9⟩, va_recv hK (jp_one hat_a_17) (ci := 12) (q0 := 0) rfl rfl, fun U hU hW => ⟨rfl, hU, hX_12, hG.step hW hU hS_12, hg_a, hm_a, he_18, by refine ⟨?_, ?_, ?_, ?_, ?_, ?_⟩ <;> omega⟩⟩ rfl rfl hl.1 rfl (lv_room (Nat.le_of_ble_eq_true rfl)) dX10_isChain_59 ⟨Nat.zero_le _, Nat.zero_le _⟩) hS_12 (fun q _ h => h) (fun q h => h) (fun r_15 u t H1 locs1 ht hvm hr_15 hBb hz1 hk1 hS_16 => ?_)
              obtain ⟨tk_16, at_16, nc_16⟩ := u
              obtain ⟨hX_16, he_16, hM_160, hz_160, hT_160⟩ := hBb
              rw [ht] at hX_16 he_16 hM_160 hz_160 hT_160
              simp only at hr_15 he_16
              have hM_16 := hM_12.tr0 hM_160 hz_12 (by intro r; simp)
              have hz_16 := hz_160.trans hz_12
              have hT_16 := hT_160.trans hT_12
              clear hz1 hk1 hvm ht hM_160 hz_160 hT_160
              obtain ⟨ts_19, fts_19, hzts_19, htts_19, hpts_19⟩ := hG.2.2.2.2.2.1
              refine va_gets hx hb hzts_19 hS_16 hown (hts (.fieldLink RX10 122 "ProofServer$Syntax" "CHAIN_SIGNS" "[I") (by decide +kernel)) (fun _ h9 => h9) dX10_isChain_62 ?_
              refine lv_iload_n hx hb dX10_isChain_65 rfl (lv_at hl 3 rfl) ?_
              refine va_ti hx hb htts_19 hS_16 (jb_in (i := st) (n := 3) (rfl) (by omega) (by omega)) rfl dX10_isChain_66 ?_
              refine lv_topi (fun z_20 ez_20 => ?_)
              have hz_20 : 0 < z_20.toInt := by rw [ez_20]; exact hpts_19 _ (jb_cl_lt (i := st) (rfl) (by omega) (by omega))
              refine lv_icmp_eq (tgt := 72) hx hb dX10_isChain_67 (by decide) (fun c_21 => ?_) (fun c_21 => ?_)
              · skip
                have c_21' : r_15.toInt = z_20.toInt := jb_eq (rfl) (rfl) c_21
                refine lv_aload_n hx hb dX10_isChain_72 rfl (lv_at hl 2 rfl) ?_
                refine lv_dup hx hb dX10_isChain_73 rfl ?_
                obtain ⟨names_22, kinds_22, values_22, word_22, told_22, toldCount_22, terms_22, nodes_22, f_kinds_22, f_values_22, f_told_22, f_nodes_22, hat_a_22, hat_kinds_22, hat_values_22, hat_told_22, hat_nodes_22, hg_kinds_22, hg_values_22, hg_told_22, hg_nodes_22, hg_names_22, hf0_22, hf1_22⟩ := id he_16
                have hlt_names_22 := hX_16.2 _ _ hg_names_22
                have hrt_names_22 : jRoot G0 names_22 := ⟨_, _, hg_names_22, by omega⟩
                refine va_get (D := (dC, dI)) (ci := 12) (v := .int at_16) (C := RX10) (T := TX10) (N := 11) hx hb hts hin_12 hown hK (jp_one hat_a_22) 0 rfl rfl 4 (by decide) (hts (.fieldLink RX10 83 "ProofServer$Syntax" "at" "I") (by decide +kernel)) (fun _ h9 => h9) rfl dX10_isChain_74 ?_
                refine lv_iconst (v := 1) hx hb dX10_isChain_77 (by decide) ?_
                refine lv_iadd hx hb dX10_isChain_78 ?_
                refine lv_topi (fun z_23 ez_23 => ?_)
                have hz_23 : z_23.toInt = at_16.toInt + 1 := by rw [ez_23]; exact jb_iadd (rfl) ((by decide)) (by omega) (by omega)
                refine j_put (D := (dC, dI)) (ci := 12) (v := .int z_23) (ty := .int) (C := RX10) (T := TX10) (N := 11) (A := jA base) hx hb hts hin_12 tyX10 tyX10_ok nmX10 hown hK hat_a_22 (hX_16.2 _ _ hg_a).1 hS_16.2.2 rfl 4 (by decide) (hts (.fieldLink RX10 83 "ProofServer$Syntax" "at" "I") (by decide +kernel)) (fun _ h9 => h9) rfl (by decide +kernel) rfl rfl (Nat.le_of_ble_eq_true rfl) dX10_isChain_79 (fun H1 locs1 hat1 hsz1 hfr1 hT1 hL1 => ?_)
                have hX_25 := hX_16.put hB hg_a (by omega) jSup.root hm_a hsz1 hfr1
                have hM_25 := hM_16.put jExt.rf hrt_a jSup.root (by simp) hfr1
                have hz_25 := hsz1.trans hz_16
                have hT_25 := hT1.trans hT_16
                have hS_25 := jS_put hS_16 hsz1 hfr1 (hX_16.2 _ _ hg_a).1 hL1
                have hat_kinds_22_25 := hat_kinds_22.kept (hfr1 _ (jne hg_kinds_22 hg_a (by simp)))
                have hat_values_22_25 := hat_values_22.kept (hfr1 _ (jne hg_values_22 hg_a (by simp)))
                have hat_told_22_25 := hat_told_22.kept (hfr1 _ (jne hg_told_22 hg_a (by simp)))
                have hat_nodes_22_25 := hat_nodes_22.kept (hfr1 _ (jne hg_nodes_22 hg_a (by simp)))
                clear hfr1 hsz1 hT1 hL1
                have hat_a_25 : va_at (dC, dI) vwCl (a, .inr (12, [.ref names_22, .ref kinds_22, .ref values_22, .int tk_16, .int z_23, .int word_22, .ref told_22, .int toldCount_22, .int terms_22, .ref nodes_22, .int nc_16])) H1 := hat1
                clear hat1
                refine lv_aload_n hx hb dX10_isChain_82 rfl (lv_at hl 2 rfl) ?_
                refine lv_iload hx hb dX10_isChain_83 (lv_at hl 1 rfl) ?_
                obtain ⟨ts_26, fts_26, hzts_26, htts_26, hpts_26⟩ := hG.2.2.2.2.2.2.1
                refine va_gets hx hb hzts_26 hS_25 hown (hts (.fieldLink RX10 128 "ProofServer$Syntax" "CHAIN_NODES" "[I") (by decide +kernel)) (fun _ h9 => h9) dX10_isChain_85 ?_
                refine lv_iload_n hx hb dX10_isChain_88 rfl (lv_at hl 3 rfl) ?_
                refine va_ti hx hb htts_26 hS_25 (jb_in (i := st) (n := 3) (rfl) (by omega) (by omega)) rfl dX10_isChain_89 ?_
                refine lv_topi (fun z_27 ez_27 => ?_)
                have hz_27 : 0 < z_27.toInt := by rw [ez_27]; exact hpts_26 _ (jb_cl_lt (i := st) (rfl) (by omega) (by omega))
                have he_30 : jB12e dC dI ca G0 a tk_16 z_23 nc_16 H1 := ⟨names_22, kinds_22, values_22, word_22, told_22, toldCount_22, terms_22, nodes_22, f_kinds_22, f_values_22, f_told_22, f_nodes_22, hat_a_25, hat_kinds_22_25, hat_values_22_25, hat_told_22_25, hat_nodes_22_25, hg_kinds_22, hg_values_22, hg_told_22, hg_nodes_22, hg_names_22, by first | omega | assumption | (simp; done) | exact Or.inl rfl | exact Or.inr rfl, by first | omega | assumption | (simp; done) | exact Or.inl rfl | exact Or.inr rfl⟩
                refine va_calli (A0 := jA base) (H0 := s.heap) (va_runV (As := [.int ncv, .int z_27]) (rest := []) ⟨hx, hb, hml, hown, hts⟩ (tX10_insertNode l dC dI ca base B hB G0 X H1 a ncv z_27 tk_16 z_23 nc_16) (cwV 2 hts gX10_isChain_X10_insertNode rfl rfl rfl (by decide +kernel) ⟨by rw [← hR]; show (0) + 1 ≤ 5 * ef + 6 + jf; omega, by rw [← hR]; show 8 + (4 + 11) + (0) ≤ 160 * ef + 230 + 30 * jf; omega⟩) ⟨fun a U g mk q => by obtain ⟨q0, q1, q2, qK, q9⟩ := q; exact ⟨q0, q1, q2, jG.calling g mk a qK, q9⟩, va_recv hK (jp_one hat_a_25) (ci := 12) (q0 := 0) rfl rfl, fun U hU hW => ⟨rfl, hU, hX_25, hG.step hW hU hS_25, hg_a, hm_a, he_30, by refine ⟨?_, ?_, ?_, ?_, ?_, ?_⟩ <;> omega⟩⟩ rfl rfl hl.1 rfl (lv_room (Nat.le_of_ble_eq_true rfl)) dX10_isChain_90 ⟨Nat.zero_le _, Nat.zero_le _⟩) hS_25 (fun q _ h => h) (fun q h => h) (fun r_28 u t H1 locs1 ht hvm hr_28 hBb hz1 hk1 hS_29 => ?_)
                obtain ⟨tk_29, at_29, nc_29⟩ := u
                obtain ⟨hX_29, he_29, hM_290, hz_290, hT_290⟩ := hBb
                rw [ht] at hX_29 he_29 hM_290 hz_290 hT_290
                simp only at hr_28 he_29
                have hM_29 := hM_25.tr0 hM_290 hz_25 (by intro r; simp)
                have hz_29 := hz_290.trans hz_25
                have hT_29 := hT_290.trans hT_25
                clear hz1 hk1 hvm ht hM_290 hz_290 hT_290
                obtain ⟨hr_28b, hr_28p⟩ := hr_28
                have hr_28' := jb_01 hr_28b
                refine lv_if_ne (tgt := 98) hx hb dX10_isChain_93 (by decide) (fun c_31 => ?_) (fun c_31 => ?_)
                · skip
                  have c_31' : r_28.toInt ≠ 0 := jb_ne (rfl) ((by decide)) c_31
                  obtain ⟨z_32, ez_32⟩ : ∃ y : Int32, y = iv + 1 := ⟨_, rfl⟩
                  refine lv_iinc (v := z_32) (lv' := [(3, .int z_32), (5, .int r_11), (4, .int ncv), (0, .ref a), (1, .int st), (2, .int dp)]) hx hb dX10_isChain_98 hl (k := 5) rfl (by rw [ez_32]; rfl) (by decide) rfl (fun ls hl => ?_)
                  have hz_32 : z_32.toInt = iv.toInt + 1 := by rw [ez_32]; exact jb_iadd (rfl) (by decide) (by omega) (by omega)
                  refine lv_goto (tgt := 2) hx hb dX10_isChain_101 (by decide) ?_
                  exact L2 z_32 tk_29 at_29 nc_29 _ _ he_29 hX_29 hS_29 hM_29 hz_29 hT_29 (by refine ⟨?_, ?_, ?_, ?_, ?_, ?_, ?_⟩ <;> omega) (by omega) _ (lv_sub hl [3, 4, 5, 0] rfl)
                · skip
                  have c_31' : r_28.toInt = 0 := jb_ne_n (rfl) ((by decide)) c_31
                  refine lv_iconst (v := 0) hx hb dX10_isChain_96 (by decide) ?_
                  rw [hQ]
                  exact W.zret (v := 0) hx hb hr (jb_nz (Or.inl rfl)) (fun t ht hW => ⟨⟨0, (tk_29, at_29, nc_29), rfl, ⟨(Or.inl rfl), by refine ⟨?_, ?_, ?_, ?_, ?_, ?_⟩ <;> first | rfl | omega | (left; omega) | (right; omega) | exact Or.inl ⟨by decide, rfl⟩ | (simp only; omega)⟩, by rw [ht]; try exact hX_29, by rw [ht]; try exact he_29, by rw [ht]; try exact hM_29, by rw [ht]; try exact hz_29, by rw [ht]; try exact hT_29⟩, by rw [ht]; try exact hS_29.1, fun q h9 hq => by rw [ht]; try exact hS_29.2.1 q h9 hq⟩) hS_29.2.2 dX10_isChain_97
              · skip
                have c_21' : r_15.toInt ≠ z_20.toInt := jb_eq_n (rfl) (rfl) c_21
                refine lv_iconst (v := 1) hx hb dX10_isChain_70 (by decide) ?_
                rw [hQ]
                exact W.zret (v := 1) hx hb hr (jb_nz (Or.inr rfl)) (fun t ht hW => ⟨⟨1, (tk_16, at_16, nc_16), rfl, ⟨(Or.inr rfl), by refine ⟨?_, ?_, ?_, ?_, ?_, ?_⟩ <;> first | rfl | omega | (left; omega) | (right; omega) | exact Or.inl ⟨by decide, rfl⟩ | (simp only; omega)⟩, by rw [ht]; try exact hX_16, by rw [ht]; try exact he_16, by rw [ht]; try exact hM_16, by rw [ht]; try exact hz_16, by rw [ht]; try exact hT_16⟩, by rw [ht]; try exact hS_16.1, fun q h9 hq => by rw [ht]; try exact hS_16.2.1 q h9 hq⟩) hS_16.2.2 dX10_isChain_71
            · skip
              have c_14' : r_11.toInt = 0 := jb_ne_n (rfl) ((by decide)) c_14
              refine lv_iconst (v := 0) hx hb dX10_isChain_56 (by decide) ?_
              rw [hQ]
              exact W.zret (v := 0) hx hb hr (jb_nz (Or.inl rfl)) (fun t ht hW => ⟨⟨0, (tk_12, at_12, nc_12), rfl, ⟨(Or.inl rfl), by refine ⟨?_, ?_, ?_, ?_, ?_, ?_⟩ <;> first | rfl | omega | (left; omega) | (right; omega) | exact Or.inl ⟨by decide, rfl⟩ | (simp only; omega)⟩, by rw [ht]; try exact hX_12, by rw [ht]; try exact he_12, by rw [ht]; try exact hM_12, by rw [ht]; try exact hz_12, by rw [ht]; try exact hT_12⟩, by rw [ht]; try exact hS_12.1, fun q h9 hq => by rw [ht]; try exact hS_12.2.1 q h9 hq⟩) hS_12.2.2 dX10_isChain_57
          · skip
            have c_9' : st.toInt = z_8.toInt := jb_ne_n (rfl) (rfl) c_9
            refine lv_aload_n hx hb dX10_isChain_33 rfl (lv_at hl 1 rfl) ?_
            refine lv_iload_n hx hb dX10_isChain_34 rfl (lv_at hl 3 rfl) ?_
            have he_35 : jB12e dC dI ca G0 a tkv atv ncv H := ⟨names_5, kinds_5, values_5, word_5, told_5, toldCount_5, terms_5, nodes_5, f_kinds_5, f_values_5, f_told_5, f_nodes_5, hat_a_5, hat_kinds_5, hat_values_5, hat_told_5, hat_nodes_5, hg_kinds_5, hg_values_5, hg_told_5, hg_nodes_5, hg_names_5, by first | omega | assumption | (simp; done) | exact Or.inl rfl | exact Or.inr rfl, by first | omega | assumption | (simp; done) | exact Or.inl rfl | exact Or.inr rfl⟩
            refine va_calli (A0 := jA base) (H0 := s.heap) (va_runV (As := [.int dp]) (rest := []) ⟨hx, hb, hml, hown, hts⟩ (hO G0 X H a dp tkv atv ncv) (cwV 1 hts gX10_isChain_X10_isOne rfl rfl rfl (by decide +kernel) ⟨by rw [← hR]; show (5 * ef + 5) + 1 ≤ 5 * ef + 6 + jf; omega, by rw [← hR]; show 8 + (6 + 11) + (160 * ef + 200) ≤ 160 * ef + 230 + 30 * jf; omega⟩) ⟨fun a U g mk q => by obtain ⟨q0, q1, q2, qK, q9⟩ := q; exact ⟨q0, q1, q2, jG.calling g mk a qK, q9⟩, va_recv hK (jp_one hat_a_5) (ci := 12) (q0 := 0) rfl rfl, fun U hU hW => ⟨rfl, hU, hX, hG.step hW hU hS, hg_a, hm_a, he_35, by refine ⟨?_, ?_, ?_, ?_, ?_, ?_, ?_, ?_⟩ <;> omega⟩⟩ rfl rfl hl.1 rfl (lv_room (Nat.le_of_ble_eq_true rfl)) dX10_isChain_35 ⟨Nat.zero_le _, Nat.zero_le _⟩) hS (fun q _ h => h) (fun q h => h) (fun r_33 u t H1 locs1 ht hvm hr_33 hBb hz1 hk1 hS_34 => ?_)
            obtain ⟨tk_34, at_34, nc_34⟩ := u
            obtain ⟨hX_34, he_34, hM_340, hz_340, hT_340⟩ := hBb
            rw [ht] at hX_34 he_34 hM_340 hz_340 hT_340
            simp only at hr_33 he_34
            have hM_34 := hM.tr0 hM_340 hz (by intro r; simp)
            have hz_34 := hz_340.trans hz
            have hT_34 := hT_340.trans hT
            clear hz1 hk1 hvm ht hM_340 hz_340 hT_340
            obtain ⟨hr_33b, hr_33p⟩ := hr_33
            have hr_33' := jb_01 hr_33b
            refine lv_goto (tgt := 49) hx hb dX10_isChain_38 (by decide) ?_
            refine lv_istore (lv' := [(5, .int r_33), (4, .int ncv), (0, .ref a), (1, .int st), (2, .int dp), (3, .int iv)]) hx hb dX10_isChain_49 hl (by decide) rfl (fun ls hl => ?_)
            refine lv_iload hx hb dX10_isChain_51 (lv_at hl 0 rfl) ?_
            refine lv_if_ne (tgt := 58) hx hb dX10_isChain_53 (by decide) (fun c_36 => ?_) (fun c_36 => ?_)
            · skip
              have c_36' : r_33.toInt ≠ 0 := jb_ne (rfl) ((by decide)) c_36
              refine lv_aload_n hx hb dX10_isChain_58 rfl (lv_at hl 2 rfl) ?_
              obtain ⟨names_39, kinds_39, values_39, word_39, told_39, toldCount_39, terms_39, nodes_39, f_kinds_39, f_values_39, f_told_39, f_nodes_39, hat_a_39, hat_kinds_39, hat_values_39, hat_told_39, hat_nodes_39, hg_kinds_39, hg_values_39, hg_told_39, hg_nodes_39, hg_names_39, hf0_39, hf1_39⟩ := id he_34
              have hlt_names_39 := hX_34.2 _ _ hg_names_39
              have hrt_names_39 : jRoot G0 names_39 := ⟨_, _, hg_names_39, by omega⟩
              have he_40 : jB12e dC dI ca G0 a tk_34 at_34 nc_34 H1 := ⟨names_39, kinds_39, values_39, word_39, told_39, toldCount_39, terms_39, nodes_39, f_kinds_39, f_values_39, f_told_39, f_nodes_39, hat_a_39, hat_kinds_39, hat_values_39, hat_told_39, hat_nodes_39, hg_kinds_39, hg_values_39, hg_told_39, hg_nodes_39, hg_names_39, by first | omega | assumption | (simp; done) | exact Or.inl rfl | exact Or.inr rfl, by first | omega | assumption | (simp; done) | exact Or.inl rfl | exact Or.inr rfl⟩
              refine va_calli (A0 := jA base) (H0 := s.heap) (va_runV (As := []) (rest := []) ⟨hx, hb, hml, hown, hts⟩ (tX10_peek l dC dI ca base B hB G0 X H1 a tk_34 at_34 nc_34) (cwV 0 hts gX10_isChain_X10_peek rfl rfl rfl (by decide +kernel) ⟨by rw [← hR]; show (0) + 1 ≤ 5 * ef + 6 + jf; omega, by rw [← hR]; show 8 + (1 + 11) + (0) ≤ 160 * ef + 230 + 30 * jf; omega⟩) ⟨fun a U g mk q => by obtain ⟨q0, q1, q2, qK, q9⟩ := q; exact ⟨q0, q1, q2, jG.calling g mk a qK, q9⟩, va_recv hK (jp_one hat_a_39) (ci := 12) (q0 := 0) rfl rfl, fun U hU hW => ⟨rfl, hU, hX_34, hG.step hW hU hS_34, hg_a, hm_a, he_40, by refine ⟨?_, ?_, ?_, ?_, ?_, ?_⟩ <;> omega⟩⟩ rfl rfl hl.1 rfl (lv_room (Nat.le_of_ble_eq_true rfl)) dX10_isChain_59 ⟨Nat.zero_le _, Nat.zero_le _⟩) hS_34 (fun q _ h => h) (fun q h => h) (fun r_37 u t H1 locs1 ht hvm hr_37 hBb hz1 hk1 hS_38 => ?_)
              obtain ⟨tk_38, at_38, nc_38⟩ := u
              obtain ⟨hX_38, he_38, hM_380, hz_380, hT_380⟩ := hBb
              rw [ht] at hX_38 he_38 hM_380 hz_380 hT_380
              simp only at hr_37 he_38
              have hM_38 := hM_34.tr0 hM_380 hz_34 (by intro r; simp)
              have hz_38 := hz_380.trans hz_34
              have hT_38 := hT_380.trans hT_34
              clear hz1 hk1 hvm ht hM_380 hz_380 hT_380
              obtain ⟨ts_41, fts_41, hzts_41, htts_41, hpts_41⟩ := hG.2.2.2.2.2.1
              refine va_gets hx hb hzts_41 hS_38 hown (hts (.fieldLink RX10 122 "ProofServer$Syntax" "CHAIN_SIGNS" "[I") (by decide +kernel)) (fun _ h9 => h9) dX10_isChain_62 ?_
              refine lv_iload_n hx hb dX10_isChain_65 rfl (lv_at hl 3 rfl) ?_
              refine va_ti hx hb htts_41 hS_38 (jb_in (i := st) (n := 3) (rfl) (by omega) (by omega)) rfl dX10_isChain_66 ?_
              refine lv_topi (fun z_42 ez_42 => ?_)
              have hz_42 : 0 < z_42.toInt := by rw [ez_42]; exact hpts_41 _ (jb_cl_lt (i := st) (rfl) (by omega) (by omega))
              refine lv_icmp_eq (tgt := 72) hx hb dX10_isChain_67 (by decide) (fun c_43 => ?_) (fun c_43 => ?_)
              · skip
                have c_43' : r_37.toInt = z_42.toInt := jb_eq (rfl) (rfl) c_43
                refine lv_aload_n hx hb dX10_isChain_72 rfl (lv_at hl 2 rfl) ?_
                refine lv_dup hx hb dX10_isChain_73 rfl ?_
                obtain ⟨names_44, kinds_44, values_44, word_44, told_44, toldCount_44, terms_44, nodes_44, f_kinds_44, f_values_44, f_told_44, f_nodes_44, hat_a_44, hat_kinds_44, hat_values_44, hat_told_44, hat_nodes_44, hg_kinds_44, hg_values_44, hg_told_44, hg_nodes_44, hg_names_44, hf0_44, hf1_44⟩ := id he_38
                have hlt_names_44 := hX_38.2 _ _ hg_names_44
                have hrt_names_44 : jRoot G0 names_44 := ⟨_, _, hg_names_44, by omega⟩
                refine va_get (D := (dC, dI)) (ci := 12) (v := .int at_38) (C := RX10) (T := TX10) (N := 11) hx hb hts hin_12 hown hK (jp_one hat_a_44) 0 rfl rfl 4 (by decide) (hts (.fieldLink RX10 83 "ProofServer$Syntax" "at" "I") (by decide +kernel)) (fun _ h9 => h9) rfl dX10_isChain_74 ?_
                refine lv_iconst (v := 1) hx hb dX10_isChain_77 (by decide) ?_
                refine lv_iadd hx hb dX10_isChain_78 ?_
                refine lv_topi (fun z_45 ez_45 => ?_)
                have hz_45 : z_45.toInt = at_38.toInt + 1 := by rw [ez_45]; exact jb_iadd (rfl) ((by decide)) (by omega) (by omega)
                refine j_put (D := (dC, dI)) (ci := 12) (v := .int z_45) (ty := .int) (C := RX10) (T := TX10) (N := 11) (A := jA base) hx hb hts hin_12 tyX10 tyX10_ok nmX10 hown hK hat_a_44 (hX_38.2 _ _ hg_a).1 hS_38.2.2 rfl 4 (by decide) (hts (.fieldLink RX10 83 "ProofServer$Syntax" "at" "I") (by decide +kernel)) (fun _ h9 => h9) rfl (by decide +kernel) rfl rfl (Nat.le_of_ble_eq_true rfl) dX10_isChain_79 (fun H1 locs1 hat1 hsz1 hfr1 hT1 hL1 => ?_)
                have hX_47 := hX_38.put hB hg_a (by omega) jSup.root hm_a hsz1 hfr1
                have hM_47 := hM_38.put jExt.rf hrt_a jSup.root (by simp) hfr1
                have hz_47 := hsz1.trans hz_38
                have hT_47 := hT1.trans hT_38
                have hS_47 := jS_put hS_38 hsz1 hfr1 (hX_38.2 _ _ hg_a).1 hL1
                have hat_kinds_44_47 := hat_kinds_44.kept (hfr1 _ (jne hg_kinds_44 hg_a (by simp)))
                have hat_values_44_47 := hat_values_44.kept (hfr1 _ (jne hg_values_44 hg_a (by simp)))
                have hat_told_44_47 := hat_told_44.kept (hfr1 _ (jne hg_told_44 hg_a (by simp)))
                have hat_nodes_44_47 := hat_nodes_44.kept (hfr1 _ (jne hg_nodes_44 hg_a (by simp)))
                clear hfr1 hsz1 hT1 hL1
                have hat_a_47 : va_at (dC, dI) vwCl (a, .inr (12, [.ref names_44, .ref kinds_44, .ref values_44, .int tk_38, .int z_45, .int word_44, .ref told_44, .int toldCount_44, .int terms_44, .ref nodes_44, .int nc_38])) H1 := hat1
                clear hat1
                refine lv_aload_n hx hb dX10_isChain_82 rfl (lv_at hl 2 rfl) ?_
                refine lv_iload hx hb dX10_isChain_83 (lv_at hl 1 rfl) ?_
                obtain ⟨ts_48, fts_48, hzts_48, htts_48, hpts_48⟩ := hG.2.2.2.2.2.2.1
                refine va_gets hx hb hzts_48 hS_47 hown (hts (.fieldLink RX10 128 "ProofServer$Syntax" "CHAIN_NODES" "[I") (by decide +kernel)) (fun _ h9 => h9) dX10_isChain_85 ?_
                refine lv_iload_n hx hb dX10_isChain_88 rfl (lv_at hl 3 rfl) ?_
                refine va_ti hx hb htts_48 hS_47 (jb_in (i := st) (n := 3) (rfl) (by omega) (by omega)) rfl dX10_isChain_89 ?_
                refine lv_topi (fun z_49 ez_49 => ?_)
                have hz_49 : 0 < z_49.toInt := by rw [ez_49]; exact hpts_48 _ (jb_cl_lt (i := st) (rfl) (by omega) (by omega))
                have he_52 : jB12e dC dI ca G0 a tk_38 z_45 nc_38 H1 := ⟨names_44, kinds_44, values_44, word_44, told_44, toldCount_44, terms_44, nodes_44, f_kinds_44, f_values_44, f_told_44, f_nodes_44, hat_a_47, hat_kinds_44_47, hat_values_44_47, hat_told_44_47, hat_nodes_44_47, hg_kinds_44, hg_values_44, hg_told_44, hg_nodes_44, hg_names_44, by first | omega | assumption | (simp; done) | exact Or.inl rfl | exact Or.inr rfl, by first | omega | assumption | (simp; done) | exact Or.inl rfl | exact Or.inr rfl⟩
                refine va_calli (A0 := jA base) (H0 := s.heap) (va_runV (As := [.int ncv, .int z_49]) (rest := []) ⟨hx, hb, hml, hown, hts⟩ (tX10_insertNode l dC dI ca base B hB G0 X H1 a ncv z_49 tk_38 z_45 nc_38) (cwV 2 hts gX10_isChain_X10_insertNode rfl rfl rfl (by decide +kernel) ⟨by rw [← hR]; show (0) + 1 ≤ 5 * ef + 6 + jf; omega, by rw [← hR]; show 8 + (4 + 11) + (0) ≤ 160 * ef + 230 + 30 * jf; omega⟩) ⟨fun a U g mk q => by obtain ⟨q0, q1, q2, qK, q9⟩ := q; exact ⟨q0, q1, q2, jG.calling g mk a qK, q9⟩, va_recv hK (jp_one hat_a_47) (ci := 12) (q0 := 0) rfl rfl, fun U hU hW => ⟨rfl, hU, hX_47, hG.step hW hU hS_47, hg_a, hm_a, he_52, by refine ⟨?_, ?_, ?_, ?_, ?_, ?_⟩ <;> omega⟩⟩ rfl rfl hl.1 rfl (lv_room (Nat.le_of_ble_eq_true rfl)) dX10_isChain_90 ⟨Nat.zero_le _, Nat.zero_le _⟩) hS_47 (fun q _ h => h) (fun q h => h) (fun r_50 u t H1 locs1 ht hvm hr_50 hBb hz1 hk1 hS_51 => ?_)
                obtain ⟨tk_51, at_51, nc_51⟩ := u
                obtain ⟨hX_51, he_51, hM_510, hz_510, hT_510⟩ := hBb
                rw [ht] at hX_51 he_51 hM_510 hz_510 hT_510
                simp only at hr_50 he_51
                have hM_51 := hM_47.tr0 hM_510 hz_47 (by intro r; simp)
                have hz_51 := hz_510.trans hz_47
                have hT_51 := hT_510.trans hT_47
                clear hz1 hk1 hvm ht hM_510 hz_510 hT_510
                obtain ⟨hr_50b, hr_50p⟩ := hr_50
                have hr_50' := jb_01 hr_50b
                refine lv_if_ne (tgt := 98) hx hb dX10_isChain_93 (by decide) (fun c_53 => ?_) (fun c_53 => ?_)
                · skip
                  have c_53' : r_50.toInt ≠ 0 := jb_ne (rfl) ((by decide)) c_53
                  obtain ⟨z_54, ez_54⟩ : ∃ y : Int32, y = iv + 1 := ⟨_, rfl⟩
                  refine lv_iinc (v := z_54) (lv' := [(3, .int z_54), (5, .int r_33), (4, .int ncv), (0, .ref a), (1, .int st), (2, .int dp)]) hx hb dX10_isChain_98 hl (k := 5) rfl (by rw [ez_54]; rfl) (by decide) rfl (fun ls hl => ?_)
                  have hz_54 : z_54.toInt = iv.toInt + 1 := by rw [ez_54]; exact jb_iadd (rfl) (by decide) (by omega) (by omega)
                  refine lv_goto (tgt := 2) hx hb dX10_isChain_101 (by decide) ?_
                  exact L2 z_54 tk_51 at_51 nc_51 _ _ he_51 hX_51 hS_51 hM_51 hz_51 hT_51 (by refine ⟨?_, ?_, ?_, ?_, ?_, ?_, ?_⟩ <;> omega) (by omega) _ (lv_sub hl [3, 4, 5, 0] rfl)
                · skip
                  have c_53' : r_50.toInt = 0 := jb_ne_n (rfl) ((by decide)) c_53
                  refine lv_iconst (v := 0) hx hb dX10_isChain_96 (by decide) ?_
                  rw [hQ]
                  exact W.zret (v := 0) hx hb hr (jb_nz (Or.inl rfl)) (fun t ht hW => ⟨⟨0, (tk_51, at_51, nc_51), rfl, ⟨(Or.inl rfl), by refine ⟨?_, ?_, ?_, ?_, ?_, ?_⟩ <;> first | rfl | omega | (left; omega) | (right; omega) | exact Or.inl ⟨by decide, rfl⟩ | (simp only; omega)⟩, by rw [ht]; try exact hX_51, by rw [ht]; try exact he_51, by rw [ht]; try exact hM_51, by rw [ht]; try exact hz_51, by rw [ht]; try exact hT_51⟩, by rw [ht]; try exact hS_51.1, fun q h9 hq => by rw [ht]; try exact hS_51.2.1 q h9 hq⟩) hS_51.2.2 dX10_isChain_97
              · skip
                have c_43' : r_37.toInt ≠ z_42.toInt := jb_eq_n (rfl) (rfl) c_43
                refine lv_iconst (v := 1) hx hb dX10_isChain_70 (by decide) ?_
                rw [hQ]
                exact W.zret (v := 1) hx hb hr (jb_nz (Or.inr rfl)) (fun t ht hW => ⟨⟨1, (tk_38, at_38, nc_38), rfl, ⟨(Or.inr rfl), by refine ⟨?_, ?_, ?_, ?_, ?_, ?_⟩ <;> first | rfl | omega | (left; omega) | (right; omega) | exact Or.inl ⟨by decide, rfl⟩ | (simp only; omega)⟩, by rw [ht]; try exact hX_38, by rw [ht]; try exact he_38, by rw [ht]; try exact hM_38, by rw [ht]; try exact hz_38, by rw [ht]; try exact hT_38⟩, by rw [ht]; try exact hS_38.1, fun q h9 hq => by rw [ht]; try exact hS_38.2.1 q h9 hq⟩) hS_38.2.2 dX10_isChain_71
            · skip
              have c_36' : r_33.toInt = 0 := jb_ne_n (rfl) ((by decide)) c_36
              refine lv_iconst (v := 0) hx hb dX10_isChain_56 (by decide) ?_
              rw [hQ]
              exact W.zret (v := 0) hx hb hr (jb_nz (Or.inl rfl)) (fun t ht hW => ⟨⟨0, (tk_34, at_34, nc_34), rfl, ⟨(Or.inl rfl), by refine ⟨?_, ?_, ?_, ?_, ?_, ?_⟩ <;> first | rfl | omega | (left; omega) | (right; omega) | exact Or.inl ⟨by decide, rfl⟩ | (simp only; omega)⟩, by rw [ht]; try exact hX_34, by rw [ht]; try exact he_34, by rw [ht]; try exact hM_34, by rw [ht]; try exact hz_34, by rw [ht]; try exact hT_34⟩, by rw [ht]; try exact hS_34.1, fun q h9 hq => by rw [ht]; try exact hS_34.2.1 q h9 hq⟩) hS_34.2.2 dX10_isChain_57
  exact L2 (1500 - (0 : Int32).toInt : Int).toNat.succ 0 tk0 at0 nc0 _ _ he_a hX hS hM hz hT (by refine ⟨?_, ?_, ?_, ?_, ?_, ?_, ?_⟩ <;> omega) (by omega) _ (lv_sub hl [1, 2, 3, 0] rfl)
theorem aX10_isOneChain (l : Launch) (dC : Nat → ClassId) (dI : Nat → Nat → Nat) (ca : Nat → ClassId) (base : Nat) (B : jF) (hB : jBok B) : ∀ ef, qX10_isOne l dC dI ca base B ef ∧ ∀ jf, qX10_isChain l dC dI ca base B ef jf := fun ef => Nat.strongRecOn ef (fun e ih => by
  have hO : qX10_isOne l dC dI ca base B e := fun G0 X H0 a dp tk0 at0 nc0 => tX10_isOne l dC dI ca base B hB e (fun e1 h => (ih e1 h).1) (fun e1 h => (ih e1 h).2 2) G0 X H0 a dp tk0 at0 nc0
  refine ⟨hO, fun jf => Nat.strongRecOn jf (fun j ihj => fun G0 X H0 a st dp tk0 at0 nc0 => tX10_isChain l dC dI ca base B hB e j hO ihj G0 X H0 a st dp tk0 at0 nc0)⟩)
