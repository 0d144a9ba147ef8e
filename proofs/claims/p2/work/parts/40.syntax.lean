def jB12e (dC : Nat → ClassId) (dI : Nat → Nat → Nat) (ca : Nat → ClassId) (G : jT) (a : Nat) (x_tokens x_at : Int32) (H : Heap) : Prop := ∃ (x_names : Nat) (x_kinds : Nat) (x_values : Nat) (x_word : Int32) (x_told : Nat) (x_toldCount : Int32) (x_terms : Int32) (x_nodes : Nat) (x_nodeCount : Int32) (f_kinds : Nat → Int32) (f_values : Nat → Int32) (f_told : Nat → Int32) (f_nodes : Nat → Int32), va_at (dC, dI) vwCl (a, .inr (12, [.ref x_names, .ref x_kinds, .ref x_values, .int x_tokens, .int x_at, .int x_word, .ref x_told, .int x_toldCount, .int x_terms, .ref x_nodes, .int x_nodeCount])) H ∧ va_at (dC, dI) vwCl (x_kinds, .inl (ca 1, 1500, .inl f_kinds)) H ∧ va_at (dC, dI) vwCl (x_values, .inl (ca 1, 1500, .inl f_values)) H ∧ va_at (dC, dI) vwCl (x_told, .inl (ca 1, 3, .inl f_told)) H ∧ va_at (dC, dI) vwCl (x_nodes, .inl (ca 1, 3000, .inl f_nodes)) H ∧ G x_kinds = some (1000, a) ∧ G x_values = some (1001, a) ∧ G x_told = some (1002, a) ∧ G x_nodes = some (1003, a) ∧ G x_names = some (8, 0) ∧ 0 ≤ x_toldCount.toInt ∧ x_toldCount.toInt ≤ 3 ∧ 0 ≤ x_nodeCount.toInt ∧ x_nodeCount.toInt ≤ 3000
def jB12 (dC : Nat → ClassId) (dI : Nat → Nat → Nat) (ca : Nat → ClassId) (G : jT) (a : Nat) (H : Heap) : Prop := ∃ (x_tokens x_at : Int32), jB12e dC dI ca G a x_tokens x_at H ∧ 0 ≤ x_tokens.toInt ∧ x_tokens.toInt ≤ 1500 ∧ 0 ≤ x_at.toInt ∧ x_at.toInt ≤ x_tokens.toInt + 3
abbrev wsX100 : List Cond := u_ws RX10 TX10 11
abbrev cX10_peek : ByteArray := prog_12_method_6_code
def yX10_peek : MethodName := ⟨RX10, "peek", "()I"⟩
def wsX10_peek : List Cond := .code yX10_peek cX10_peek 1 (some .int) :: ([.fieldLink RX10 83 "ProofServer$Syntax" "at" "I", .fieldLink RX10 28 "ProofServer$Syntax" "tokens" "I", .fieldLink RX10 9 "ProofServer$Syntax" "kinds" "[I"] ++ wsX100)
theorem dX10_peek_0 : decode cX10_peek 0 = .ok (.aload_n 0, 1) := by decide +kernel
theorem dX10_peek_1 : decode cX10_peek 1 = .ok (.getfield 83, 3) := by decide +kernel
theorem dX10_peek_4 : decode cX10_peek 4 = .ok (.aload_n 0, 1) := by decide +kernel
theorem dX10_peek_5 : decode cX10_peek 5 = .ok (.getfield 28, 3) := by decide +kernel
theorem dX10_peek_8 : decode cX10_peek 8 = .ok (.if_icmp .ge 25, 3) := by decide +kernel
theorem dX10_peek_11 : decode cX10_peek 11 = .ok (.aload_n 0, 1) := by decide +kernel
theorem dX10_peek_12 : decode cX10_peek 12 = .ok (.getfield 83, 3) := by decide +kernel
theorem dX10_peek_15 : decode cX10_peek 15 = .ok (.sipush 1500, 3) := by decide +kernel
theorem dX10_peek_18 : decode cX10_peek 18 = .ok (.if_icmp .ge 15, 3) := by decide +kernel
theorem dX10_peek_21 : decode cX10_peek 21 = .ok (.aload_n 0, 1) := by decide +kernel
theorem dX10_peek_22 : decode cX10_peek 22 = .ok (.getfield 9, 3) := by decide +kernel
theorem dX10_peek_25 : decode cX10_peek 25 = .ok (.aload_n 0, 1) := by decide +kernel
theorem dX10_peek_26 : decode cX10_peek 26 = .ok (.getfield 83, 3) := by decide +kernel
theorem dX10_peek_29 : decode cX10_peek 29 = .ok (.iaload, 1) := by decide +kernel
theorem dX10_peek_30 : decode cX10_peek 30 = .ok (.goto 4, 3) := by decide +kernel
theorem dX10_peek_33 : decode cX10_peek 33 = .ok (.iconst 0, 1) := by decide +kernel
theorem dX10_peek_34 : decode cX10_peek 34 = .ok (.ireturn, 1) := by decide +kernel
set_option maxHeartbeats 4000000 in
set_option maxRecDepth 20000 in
theorem tX10_peek (l : Launch) (dC : Nat → ClassId) (dI : Nat → Nat → Nat) (ca : Nat → ClassId) (base : Nat) (B : jF) (hB : jBok B) (hB8 : ∀ n G a H, B 8 n G a H ↔ jB8 dC dI ca G a H) (G0 : jT) (X : List Nat) (H0 : Heap) (a : Nat) (tk0 at0 : Int32) : Met l yX10_peek wsX10_peek ({ frames := 0, cells := 0, slots := 0, locals := 0 }) (va_Pc [.ref a] (fun U => U.heap = H0 ∧ jX B base G0 X H0 ∧ jG dC dI ca base U ∧ G0 a = some (12, 0) ∧ a ∈ X ∧ jB12e dC dI ca G0 a tk0 at0 H0 ∧ (0 ≤ tk0.toInt ∧ tk0.toInt ≤ 1500 ∧ 0 ≤ at0.toInt ∧ at0.toInt ≤ tk0.toInt + 3))) (va_Qi (S := Int32 × Int32) (fun r u => u.1.toInt = tk0.toInt ∧ 0 ≤ u.2.toInt ∧ u.2.toInt = at0.toInt ∧ (r.toInt = 0 ∨ at0.toInt < tk0.toInt)) (fun u t => jX B base G0 X t.heap ∧ jB12e dC dI ca G0 a u.1 u.2 t.heap ∧  jModP G0 (fun r => r = a) H0 t.heap ∧ t.heap.size = H0.size ∧ jTot t.heap = jTot H0) (jA base)) 0 0 (jA base) := by
  refine Met.ofW (cc := cX10_peek) (maxL := 1) (ret := (some .int)) (by decide) rfl ?_
  intro p e s m args below meth c s₁ Bd hml hv
  obtain ⟨rfl, hH0, hX, hG, hg_a, hm_a, he_a, ht0, ht1, ha0, hpre⟩ := hv
  have hK := hG.1
  have hx := Bd.exec
  have hb := Bd.bytes
  have hr := Bd.returns
  have hts := atoms_spec (ws := wsX10_peek) Bd.pre
  have hown : s.vm.findClass RX10 = some m.cls := findClass_of_methodNamed Bd.named
  have hlocks := Bd.notSynchronized
  have hin_12 : ∀ w ∈ u_ws RX10 TX10 11, w ∈ wsX10_peek := by decide +kernel
  obtain ⟨Q, hQ⟩ : ∃ Q, Q = MQ below (va_Qi (S := Int32 × Int32) (fun r u => u.1.toInt = tk0.toInt ∧ 0 ≤ u.2.toInt ∧ u.2.toInt = at0.toInt ∧ (r.toInt = 0 ∨ at0.toInt < tk0.toInt)) (fun u t => jX B base G0 X t.heap ∧ jB12e dC dI ca G0 a u.1 u.2 t.heap ∧  jModP G0 (fun r => r = a) H0 t.heap ∧ t.heap.size = H0.size ∧ jTot t.heap = jTot H0) (jA base)) ([.ref a] : List Value).toArray s 0 0 (jA base) := ⟨_, rfl⟩
  rw [← hQ]
  have hl := lv_entry ([.ref a]) (n := 1) (Nat.le_of_ble_eq_true rfl)
  rw [lg_entry_eq]
  generalize (lg_sl ([.ref a]) ++ List.replicate (1 - (lg_sl ([.ref a])).length) Slot.unset).toArray = ls at hl ⊢
  have hl : lv_has ls 1 [(0, .ref a)] := hl
  generalize hR : (headSpec wsX10_peek ({ frames := 0, cells := 0, slots := 0, locals := 0 })).room = R
  subst hH0
  have hS : va_S (jA base) s.heap s.heap [] := va_S.rf
  have hM : jModP G0 (fun r => r = a) s.heap s.heap := jModP.rf
  have hz : s.heap.size = s.heap.size := rfl
  have hT : jTot s.heap = jTot s.heap := rfl
  have hlt_a := hX.2 _ _ hg_a
  have hrt_a : jRoot G0 a := ⟨_, _, hg_a, by omega⟩
  have hk0 : (0 : Int32).toInt = 0 := by decide
  have hk1 : (1 : Int32).toInt = 1 := by decide
  have hk1500 : (1500 : Int32).toInt = 1500 := by decide
  refine lv_aload_n hx hb dX10_peek_0 rfl (lv_at hl 0 rfl) ?_
  obtain ⟨names_1, kinds_1, values_1, word_1, told_1, toldCount_1, terms_1, nodes_1, nodeCount_1, f_kinds_1, f_values_1, f_told_1, f_nodes_1, hat_a_1, hat_kinds_1, hat_values_1, hat_told_1, hat_nodes_1, hg_kinds_1, hg_values_1, hg_told_1, hg_nodes_1, hg_names_1, hf0_1, hf1_1, hf2_1, hf3_1⟩ := id he_a
  have hlt_names_1 := hX.2 _ _ hg_names_1
  have hrt_names_1 : jRoot G0 names_1 := ⟨_, _, hg_names_1, by omega⟩
  refine va_get (D := (dC, dI)) (ci := 12) (v := .int at0) (C := RX10) (T := TX10) (N := 11) hx hb hts hin_12 hown hK (jp_one hat_a_1) 0 rfl rfl 4 (by decide) (hts (.fieldLink RX10 83 "ProofServer$Syntax" "at" "I") (by decide +kernel)) (fun _ h9 => h9) rfl dX10_peek_1 ?_
  refine lv_aload_n hx hb dX10_peek_4 rfl (lv_at hl 0 rfl) ?_
  refine va_get (D := (dC, dI)) (ci := 12) (v := .int tk0) (C := RX10) (T := TX10) (N := 11) hx hb hts hin_12 hown hK (jp_one hat_a_1) 0 rfl rfl 3 (by decide) (hts (.fieldLink RX10 28 "ProofServer$Syntax" "tokens" "I") (by decide +kernel)) (fun _ h9 => h9) rfl dX10_peek_5 ?_
  refine lv_icmp_ge (tgt := 33) hx hb dX10_peek_8 (by decide) (fun c_2 => ?_) (fun c_2 => ?_)
  · skip
    have c_2' : at0.toInt ≥ tk0.toInt := jb_ge (rfl) (rfl) c_2
    refine lv_iconst (v := 0) hx hb dX10_peek_33 (by decide) ?_
    have he_3 : jB12e dC dI ca G0 a tk0 at0 s.heap := ⟨names_1, kinds_1, values_1, word_1, told_1, toldCount_1, terms_1, nodes_1, nodeCount_1, f_kinds_1, f_values_1, f_told_1, f_nodes_1, hat_a_1, hat_kinds_1, hat_values_1, hat_told_1, hat_nodes_1, hg_kinds_1, hg_values_1, hg_told_1, hg_nodes_1, hg_names_1, by first | omega | assumption | (simp; done) | exact Or.inl rfl | exact Or.inr rfl, by first | omega | assumption | (simp; done) | exact Or.inl rfl | exact Or.inr rfl, by first | omega | assumption | (simp; done) | exact Or.inl rfl | exact Or.inr rfl, by first | omega | assumption | (simp; done) | exact Or.inl rfl | exact Or.inr rfl⟩
    rw [hQ]
    exact W.iret (v := 0) hx hb hr (fun t ht hW => ⟨⟨0, (tk0, at0), rfl, by refine ⟨?_, ?_, ?_, ?_⟩ <;> first | rfl | omega | (left; omega) | (right; omega), by rw [ht]; try exact hX, by rw [ht]; try exact he_3, by rw [ht]; try exact hM, by rw [ht]; try exact hz, by rw [ht]; try exact hT⟩, by rw [ht]; try exact hS.1, fun q h9 hq => by rw [ht]; try exact hS.2.1 q h9 hq⟩) hS.2.2 dX10_peek_34
  · skip
    have c_2' : at0.toInt < tk0.toInt := jb_ge_n (rfl) (rfl) c_2
    refine lv_aload_n hx hb dX10_peek_11 rfl (lv_at hl 0 rfl) ?_
    refine va_get (D := (dC, dI)) (ci := 12) (v := .int at0) (C := RX10) (T := TX10) (N := 11) hx hb hts hin_12 hown hK (jp_one hat_a_1) 0 rfl rfl 4 (by decide) (hts (.fieldLink RX10 83 "ProofServer$Syntax" "at" "I") (by decide +kernel)) (fun _ h9 => h9) rfl dX10_peek_12 ?_
    refine lv_sipush (v := 1500) hx hb dX10_peek_15 (by decide) ?_
    refine lv_icmp_ge (tgt := 33) hx hb dX10_peek_18 (by decide) (fun c_4 => ?_) (fun c_4 => ?_)
    · skip
      have c_4' : at0.toInt ≥ 1500 := jb_ge (rfl) ((by decide)) c_4
      refine lv_iconst (v := 0) hx hb dX10_peek_33 (by decide) ?_
      have he_5 : jB12e dC dI ca G0 a tk0 at0 s.heap := ⟨names_1, kinds_1, values_1, word_1, told_1, toldCount_1, terms_1, nodes_1, nodeCount_1, f_kinds_1, f_values_1, f_told_1, f_nodes_1, hat_a_1, hat_kinds_1, hat_values_1, hat_told_1, hat_nodes_1, hg_kinds_1, hg_values_1, hg_told_1, hg_nodes_1, hg_names_1, by first | omega | assumption | (simp; done) | exact Or.inl rfl | exact Or.inr rfl, by first | omega | assumption | (simp; done) | exact Or.inl rfl | exact Or.inr rfl, by first | omega | assumption | (simp; done) | exact Or.inl rfl | exact Or.inr rfl, by first | omega | assumption | (simp; done) | exact Or.inl rfl | exact Or.inr rfl⟩
      rw [hQ]
      exact W.iret (v := 0) hx hb hr (fun t ht hW => ⟨⟨0, (tk0, at0), rfl, by refine ⟨?_, ?_, ?_, ?_⟩ <;> first | rfl | omega | (left; omega) | (right; omega), by rw [ht]; try exact hX, by rw [ht]; try exact he_5, by rw [ht]; try exact hM, by rw [ht]; try exact hz, by rw [ht]; try exact hT⟩, by rw [ht]; try exact hS.1, fun q h9 hq => by rw [ht]; try exact hS.2.1 q h9 hq⟩) hS.2.2 dX10_peek_34
    · skip
      have c_4' : at0.toInt < 1500 := jb_ge_n (rfl) ((by decide)) c_4
      refine lv_aload_n hx hb dX10_peek_21 rfl (lv_at hl 0 rfl) ?_
      refine va_get (D := (dC, dI)) (ci := 12) (v := .ref kinds_1) (C := RX10) (T := TX10) (N := 11) hx hb hts hin_12 hown hK (jp_one hat_a_1) 0 rfl rfl 1 (by decide) (hts (.fieldLink RX10 9 "ProofServer$Syntax" "kinds" "[I") (by decide +kernel)) (fun _ h9 => h9) rfl dX10_peek_22 ?_
      refine lv_aload_n hx hb dX10_peek_25 rfl (lv_at hl 0 rfl) ?_
      refine va_get (D := (dC, dI)) (ci := 12) (v := .int at0) (C := RX10) (T := TX10) (N := 11) hx hb hts hin_12 hown hK (jp_one hat_a_1) 0 rfl rfl 4 (by decide) (hts (.fieldLink RX10 83 "ProofServer$Syntax" "at" "I") (by decide +kernel)) (fun _ h9 => h9) rfl dX10_peek_26 ?_
      have hiz_6 : _ := jb_in (i := at0) (n := 1500) (rfl) (by omega) (by omega)
      refine va_iald hx hb hK (jp_one hat_kinds_1) 0 1 rfl rfl hiz_6 dX10_peek_29 ?_
      refine lv_topi (fun z_6 ez_6 => ?_)
      refine lv_goto (tgt := 34) hx hb dX10_peek_30 (by decide) ?_
      have he_7 : jB12e dC dI ca G0 a tk0 at0 s.heap := ⟨names_1, kinds_1, values_1, word_1, told_1, toldCount_1, terms_1, nodes_1, nodeCount_1, f_kinds_1, f_values_1, f_told_1, f_nodes_1, hat_a_1, hat_kinds_1, hat_values_1, hat_told_1, hat_nodes_1, hg_kinds_1, hg_values_1, hg_told_1, hg_nodes_1, hg_names_1, by first | omega | assumption | (simp; done) | exact Or.inl rfl | exact Or.inr rfl, by first | omega | assumption | (simp; done) | exact Or.inl rfl | exact Or.inr rfl, by first | omega | assumption | (simp; done) | exact Or.inl rfl | exact Or.inr rfl, by first | omega | assumption | (simp; done) | exact Or.inl rfl | exact Or.inr rfl⟩
      rw [hQ]
      exact W.iret (v := z_6) hx hb hr (fun t ht hW => ⟨⟨z_6, (tk0, at0), rfl, by refine ⟨?_, ?_, ?_, ?_⟩ <;> first | rfl | omega | (left; omega) | (right; omega), by rw [ht]; try exact hX, by rw [ht]; try exact he_7, by rw [ht]; try exact hM, by rw [ht]; try exact hz, by rw [ht]; try exact hT⟩, by rw [ht]; try exact hS.1, fun q h9 hq => by rw [ht]; try exact hS.2.1 q h9 hq⟩) hS.2.2 dX10_peek_34
