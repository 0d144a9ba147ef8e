abbrev cX10_isTerm : ByteArray := prog_12_method_15_code
def yX10_isTerm : MethodName := ⟨RX10, "isTerm", "(II)Z"⟩
def wsX10_isTerm_r1 : List Cond := [Cond.fieldLink RX10 89 "ProofServer$Syntax" "nodeCount" "I", Cond.fieldLink RX10 83 "ProofServer$Syntax" "at" "I", Cond.fieldLink RX10 21 "ProofServer$Syntax" "nodes" "[I", Cond.methodLink RX10 119 yX10_peekName, Cond.instanceMethod yX10_peekName, Cond.selects RX10 yX10_peekName yX10_peekName, Cond.initialized RX10, Cond.code yX10_peekName cX10_peekName 1 (some .int), Cond.fieldLink RX10 15 "ProofServer$Syntax" "values" "[I", Cond.methodLink RX10 115 yX10_peek, Cond.instanceMethod yX10_peek, Cond.selects RX10 yX10_peek yX10_peek, Cond.code yX10_peek cX10_peek 1 (some .int), Cond.fieldLink RX10 28 "ProofServer$Syntax" "tokens" "I", Cond.fieldLink RX10 9 "ProofServer$Syntax" "kinds" "[I", Cond.methodLink RX10 134 yX10_addNode, Cond.instanceMethod yX10_addNode, Cond.selects RX10 yX10_addNode yX10_addNode, Cond.code yX10_addNode cX10_addNode 2 (some .boolean), Cond.methodLink RX10 112 yX10_isTerm, Cond.instanceMethod yX10_isTerm, Cond.selects RX10 yX10_isTerm yX10_isTerm, Cond.methodLink RX10 105 yX10_isSign, Cond.instanceMethod yX10_isSign]
def wsX10_isTerm_r2 : List Cond := [Cond.selects RX10 yX10_isSign yX10_isSign, Cond.code yX10_isSign cX10_isSign 3 (some .boolean)]
def wsX10_isTerm : List Cond := .code yX10_isTerm cX10_isTerm 6 (some .boolean) :: ((wsX10_isTerm_r1 ++ wsX10_isTerm_r2) ++ wsX100)
set_option maxRecDepth 20000 in
theorem ggX10_isTerm_X10_peekName : GoodIn wsX10_isTerm wsX10_peekName := goodIn_r _ [8, 9, 2, 10, 11, 12, 7, 13, 14, 15, 27, 28, 29, 30, 31, 32, 33, 34, 35, 36, 37] (by decide +kernel) (by decide +kernel)
set_option maxRecDepth 20000 in
theorem gX10_isTerm_X10_peekName : GoodIn wsX10_isTerm (wsV RX10 119 RX10 yX10_peekName wsX10_peekName) := goodIn_app (goodIn_of _ (by decide +kernel)) ggX10_isTerm_X10_peekName
set_option maxRecDepth 20000 in
theorem ggX10_isTerm_X10_addNode : GoodIn wsX10_isTerm wsX10_addNode := goodIn_r _ [19, 1, 3, 27, 28, 29, 30, 31, 32, 33, 34, 35, 36, 37] (by decide +kernel) (by decide +kernel)
set_option maxRecDepth 20000 in
theorem gX10_isTerm_X10_addNode : GoodIn wsX10_isTerm (wsV RX10 134 RX10 yX10_addNode wsX10_addNode) := goodIn_app (goodIn_of _ (by decide +kernel)) ggX10_isTerm_X10_addNode
set_option maxRecDepth 20000 in
theorem ggX10_isTerm_X10_peek : GoodIn wsX10_isTerm wsX10_peek := goodIn_r _ [13, 2, 14, 15, 27, 28, 29, 30, 31, 32, 33, 34, 35, 36, 37] (by decide +kernel) (by decide +kernel)
set_option maxRecDepth 20000 in
theorem gX10_isTerm_X10_peek : GoodIn wsX10_isTerm (wsV RX10 115 RX10 yX10_peek wsX10_peek) := goodIn_app (goodIn_of _ (by decide +kernel)) ggX10_isTerm_X10_peek
set_option maxRecDepth 20000 in
theorem ggX10_isTerm_X10_isTerm : GoodIn wsX10_isTerm wsX10_isTerm := goodIn_r _ [0, 1, 2, 3, 4, 5, 6, 7, 8, 9, 10, 11, 12, 13, 14, 15, 16, 17, 18, 19, 20, 21, 22, 23, 24, 25, 26, 27, 28, 29, 30, 31, 32, 33, 34, 35, 36, 37] (by decide +kernel) (by decide +kernel)
set_option maxRecDepth 20000 in
theorem gX10_isTerm_X10_isTerm : GoodIn wsX10_isTerm (wsV RX10 112 RX10 yX10_isTerm wsX10_isTerm) := goodIn_app (goodIn_of _ (by decide +kernel)) ggX10_isTerm_X10_isTerm
set_option maxRecDepth 20000 in
theorem ggX10_isTerm_X10_isSign : GoodIn wsX10_isTerm wsX10_isSign := goodIn_r _ [26, 2, 14, 15, 27, 28, 29, 30, 31, 32, 33, 34, 35, 36, 37] (by decide +kernel) (by decide +kernel)
set_option maxRecDepth 20000 in
theorem gX10_isTerm_X10_isSign : GoodIn wsX10_isTerm (wsV RX10 105 RX10 yX10_isSign wsX10_isSign) := goodIn_app (goodIn_of _ (by decide +kernel)) ggX10_isTerm_X10_isSign
theorem dX10_isTerm_0 : decode cX10_isTerm 0 = .ok (.aload_n 0, 1) := by decide +kernel
theorem dX10_isTerm_1 : decode cX10_isTerm 1 = .ok (.getfield 89, 3) := by decide +kernel
theorem dX10_isTerm_4 : decode cX10_isTerm 4 = .ok (.istore_n 3, 1) := by decide +kernel
theorem dX10_isTerm_5 : decode cX10_isTerm 5 = .ok (.aload_n 0, 1) := by decide +kernel
theorem dX10_isTerm_6 : decode cX10_isTerm 6 = .ok (.invokevirtual 119, 3) := by decide +kernel
theorem dX10_isTerm_9 : decode cX10_isTerm 9 = .ok (.istore 4, 2) := by decide +kernel
theorem dX10_isTerm_11 : decode cX10_isTerm 11 = .ok (.aload_n 0, 1) := by decide +kernel
theorem dX10_isTerm_12 : decode cX10_isTerm 12 = .ok (.dup, 1) := by decide +kernel
theorem dX10_isTerm_13 : decode cX10_isTerm 13 = .ok (.getfield 83, 3) := by decide +kernel
theorem dX10_isTerm_16 : decode cX10_isTerm 16 = .ok (.iconst 1, 1) := by decide +kernel
theorem dX10_isTerm_17 : decode cX10_isTerm 17 = .ok (.iadd, 1) := by decide +kernel
theorem dX10_isTerm_18 : decode cX10_isTerm 18 = .ok (.putfield 83, 3) := by decide +kernel
theorem dX10_isTerm_21 : decode cX10_isTerm 21 = .ok (.iload 4, 2) := by decide +kernel
theorem dX10_isTerm_23 : decode cX10_isTerm 23 = .ok (.iconst 2, 1) := by decide +kernel
theorem dX10_isTerm_24 : decode cX10_isTerm 24 = .ok (.if_icmp .le 17, 3) := by decide +kernel
theorem dX10_isTerm_27 : decode cX10_isTerm 27 = .ok (.aload_n 0, 1) := by decide +kernel
theorem dX10_isTerm_28 : decode cX10_isTerm 28 = .ok (.iload_n 1, 1) := by decide +kernel
theorem dX10_isTerm_29 : decode cX10_isTerm 29 = .ok (.iload 4, 2) := by decide +kernel
theorem dX10_isTerm_31 : decode cX10_isTerm 31 = .ok (.bipush 15, 2) := by decide +kernel
theorem dX10_isTerm_33 : decode cX10_isTerm 33 = .ok (.ishl, 1) := by decide +kernel
theorem dX10_isTerm_34 : decode cX10_isTerm 34 = .ok (.ior, 1) := by decide +kernel
theorem dX10_isTerm_35 : decode cX10_isTerm 35 = .ok (.invokevirtual 134, 3) := by decide +kernel
theorem dX10_isTerm_38 : decode cX10_isTerm 38 = .ok (.ifCond .ne 5, 3) := by decide +kernel
theorem dX10_isTerm_41 : decode cX10_isTerm 41 = .ok (.iconst 0, 1) := by decide +kernel
theorem dX10_isTerm_42 : decode cX10_isTerm 42 = .ok (.ireturn, 1) := by decide +kernel
theorem dX10_isTerm_43 : decode cX10_isTerm 43 = .ok (.aload_n 0, 1) := by decide +kernel
theorem dX10_isTerm_44 : decode cX10_isTerm 44 = .ok (.invokevirtual 115, 3) := by decide +kernel
theorem dX10_isTerm_47 : decode cX10_isTerm 47 = .ok (.bipush 40, 2) := by decide +kernel
theorem dX10_isTerm_49 : decode cX10_isTerm 49 = .ok (.if_icmp .eq 5, 3) := by decide +kernel
theorem dX10_isTerm_52 : decode cX10_isTerm 52 = .ok (.iconst 1, 1) := by decide +kernel
theorem dX10_isTerm_53 : decode cX10_isTerm 53 = .ok (.ireturn, 1) := by decide +kernel
theorem dX10_isTerm_54 : decode cX10_isTerm 54 = .ok (.iload_n 2, 1) := by decide +kernel
theorem dX10_isTerm_55 : decode cX10_isTerm 55 = .ok (.bipush 12, 2) := by decide +kernel
theorem dX10_isTerm_57 : decode cX10_isTerm 57 = .ok (.if_icmp .lt 5, 3) := by decide +kernel
theorem dX10_isTerm_60 : decode cX10_isTerm 60 = .ok (.iconst 0, 1) := by decide +kernel
theorem dX10_isTerm_61 : decode cX10_isTerm 61 = .ok (.ireturn, 1) := by decide +kernel
theorem dX10_isTerm_62 : decode cX10_isTerm 62 = .ok (.iconst 1, 1) := by decide +kernel
theorem dX10_isTerm_63 : decode cX10_isTerm 63 = .ok (.istore 5, 2) := by decide +kernel
theorem dX10_isTerm_65 : decode cX10_isTerm 65 = .ok (.iload 5, 2) := by decide +kernel
theorem dX10_isTerm_67 : decode cX10_isTerm 67 = .ok (.sipush 2047, 3) := by decide +kernel
theorem dX10_isTerm_70 : decode cX10_isTerm 70 = .ok (.if_icmp .gt 62, 3) := by decide +kernel
theorem dX10_isTerm_73 : decode cX10_isTerm 73 = .ok (.aload_n 0, 1) := by decide +kernel
theorem dX10_isTerm_74 : decode cX10_isTerm 74 = .ok (.dup, 1) := by decide +kernel
theorem dX10_isTerm_75 : decode cX10_isTerm 75 = .ok (.getfield 83, 3) := by decide +kernel
theorem dX10_isTerm_78 : decode cX10_isTerm 78 = .ok (.iconst 1, 1) := by decide +kernel
theorem dX10_isTerm_79 : decode cX10_isTerm 79 = .ok (.iadd, 1) := by decide +kernel
theorem dX10_isTerm_80 : decode cX10_isTerm 80 = .ok (.putfield 83, 3) := by decide +kernel
theorem dX10_isTerm_83 : decode cX10_isTerm 83 = .ok (.aload_n 0, 1) := by decide +kernel
theorem dX10_isTerm_84 : decode cX10_isTerm 84 = .ok (.bipush 8, 2) := by decide +kernel
theorem dX10_isTerm_86 : decode cX10_isTerm 86 = .ok (.iload_n 2, 1) := by decide +kernel
theorem dX10_isTerm_87 : decode cX10_isTerm 87 = .ok (.iconst 1, 1) := by decide +kernel
theorem dX10_isTerm_88 : decode cX10_isTerm 88 = .ok (.iadd, 1) := by decide +kernel
theorem dX10_isTerm_89 : decode cX10_isTerm 89 = .ok (.invokevirtual 112, 3) := by decide +kernel
theorem dX10_isTerm_92 : decode cX10_isTerm 92 = .ok (.ifCond .ne 5, 3) := by decide +kernel
theorem dX10_isTerm_95 : decode cX10_isTerm 95 = .ok (.iconst 0, 1) := by decide +kernel
theorem dX10_isTerm_96 : decode cX10_isTerm 96 = .ok (.ireturn, 1) := by decide +kernel
theorem dX10_isTerm_97 : decode cX10_isTerm 97 = .ok (.aload_n 0, 1) := by decide +kernel
theorem dX10_isTerm_98 : decode cX10_isTerm 98 = .ok (.invokevirtual 115, 3) := by decide +kernel
theorem dX10_isTerm_101 : decode cX10_isTerm 101 = .ok (.bipush 44, 2) := by decide +kernel
theorem dX10_isTerm_103 : decode cX10_isTerm 103 = .ok (.if_icmp .eq 23, 3) := by decide +kernel
theorem dX10_isTerm_106 : decode cX10_isTerm 106 = .ok (.aload_n 0, 1) := by decide +kernel
theorem dX10_isTerm_107 : decode cX10_isTerm 107 = .ok (.getfield 21, 3) := by decide +kernel
theorem dX10_isTerm_110 : decode cX10_isTerm 110 = .ok (.iload_n 3, 1) := by decide +kernel
theorem dX10_isTerm_111 : decode cX10_isTerm 111 = .ok (.dup2, 1) := by decide +kernel
theorem dX10_isTerm_112 : decode cX10_isTerm 112 = .ok (.iaload, 1) := by decide +kernel
theorem dX10_isTerm_113 : decode cX10_isTerm 113 = .ok (.iload 5, 2) := by decide +kernel
theorem dX10_isTerm_115 : decode cX10_isTerm 115 = .ok (.iconst 4, 1) := by decide +kernel
theorem dX10_isTerm_116 : decode cX10_isTerm 116 = .ok (.ishl, 1) := by decide +kernel
theorem dX10_isTerm_117 : decode cX10_isTerm 117 = .ok (.ior, 1) := by decide +kernel
theorem dX10_isTerm_118 : decode cX10_isTerm 118 = .ok (.iastore, 1) := by decide +kernel
theorem dX10_isTerm_119 : decode cX10_isTerm 119 = .ok (.aload_n 0, 1) := by decide +kernel
theorem dX10_isTerm_120 : decode cX10_isTerm 120 = .ok (.bipush 41, 2) := by decide +kernel
theorem dX10_isTerm_122 : decode cX10_isTerm 122 = .ok (.invokevirtual 105, 3) := by decide +kernel
theorem dX10_isTerm_125 : decode cX10_isTerm 125 = .ok (.ireturn, 1) := by decide +kernel
theorem dX10_isTerm_126 : decode cX10_isTerm 126 = .ok (.iinc 5 1, 3) := by decide +kernel
theorem dX10_isTerm_129 : decode cX10_isTerm 129 = .ok (.goto (-64), 3) := by decide +kernel
theorem dX10_isTerm_132 : decode cX10_isTerm 132 = .ok (.iconst 0, 1) := by decide +kernel
theorem dX10_isTerm_133 : decode cX10_isTerm 133 = .ok (.ireturn, 1) := by decide +kernel
def qX10_isTerm (l : Launch) (dC : Nat → ClassId) (dI : Nat → Nat → Nat) (ca : Nat → ClassId) (base : Nat) (B : jF) (ef : Nat) : Prop := ∀ (G0 : jT) (X : List Nat) (H0 : Heap) (a : Nat) (kd dp : Int32) (tk0 at0 nc0 : Int32), Met l yX10_isTerm wsX10_isTerm ({ frames := ef + 3, cells := 0, slots := 0, locals := 60 * ef + 120 }) (va_Pc [.ref a, .int kd, .int dp] (fun U => U.heap = H0 ∧ jX B base G0 X H0 ∧ jG dC dI ca base U ∧ G0 a = some (12, 0) ∧ a ∈ X ∧ jB12e dC dI ca G0 a tk0 at0 nc0 H0 ∧ (0 ≤ tk0.toInt ∧ tk0.toInt ≤ 1500 ∧ 0 ≤ at0.toInt ∧ 0 ≤ nc0.toInt ∧ nc0.toInt ≤ 3000 ∧ at0.toInt ≤ tk0.toInt ∧ dp.toInt = 12 - ef ∧ ef ≤ 12))) (va_Qi (S := Int32 × Int32 × Int32) (fun r u => (r = 0 ∨ r = 1) ∧ u.1.toInt = tk0.toInt ∧ 0 ≤ u.2.1.toInt ∧ nc0.toInt ≤ u.2.2.toInt ∧ u.2.2.toInt ≤ 3000 ∧ u.2.1.toInt ≤ tk0.toInt + 2 ∧ (r.toInt = 0 ∨ (u.2.1.toInt ≤ tk0.toInt ∧ nc0.toInt + 1 ≤ u.2.2.toInt))) (fun u t => jX B base G0 X t.heap ∧ jB12e dC dI ca G0 a u.1 u.2.1 u.2.2 t.heap ∧  jModP G0 (fun r => r = a) H0 t.heap ∧ t.heap.size = H0.size ∧ jTot t.heap = jTot H0) (jA base)) 0 0 (jA base)
set_option maxHeartbeats 4000000 in
set_option maxRecDepth 20000 in
theorem tX10_isTerm (l : Launch) (dC : Nat → ClassId) (dI : Nat → Nat → Nat) (ca : Nat → ClassId) (base : Nat) (B : jF) (hB : jBok B) (ef : Nat) (ihT : ∀ e1, e1 < ef → qX10_isTerm l dC dI ca base B e1) (G0 : jT) (X : List Nat) (H0 : Heap) (a : Nat) (kd dp : Int32) (tk0 at0 nc0 : Int32) : Met l yX10_isTerm wsX10_isTerm ({ frames := ef + 3, cells := 0, slots := 0, locals := 60 * ef + 120 }) (va_Pc [.ref a, .int kd, .int dp] (fun U => U.heap = H0 ∧ jX B base G0 X H0 ∧ jG dC dI ca base U ∧ G0 a = some (12, 0) ∧ a ∈ X ∧ jB12e dC dI ca G0 a tk0 at0 nc0 H0 ∧ (0 ≤ tk0.toInt ∧ tk0.toInt ≤ 1500 ∧ 0 ≤ at0.toInt ∧ 0 ≤ nc0.toInt ∧ nc0.toInt ≤ 3000 ∧ at0.toInt ≤ tk0.toInt ∧ dp.toInt = 12 - ef ∧ ef ≤ 12))) (va_Qi (S := Int32 × Int32 × Int32) (fun r u => (r = 0 ∨ r = 1) ∧ u.1.toInt = tk0.toInt ∧ 0 ≤ u.2.1.toInt ∧ nc0.toInt ≤ u.2.2.toInt ∧ u.2.2.toInt ≤ 3000 ∧ u.2.1.toInt ≤ tk0.toInt + 2 ∧ (r.toInt = 0 ∨ (u.2.1.toInt ≤ tk0.toInt ∧ nc0.toInt + 1 ≤ u.2.2.toInt))) (fun u t => jX B base G0 X t.heap ∧ jB12e dC dI ca G0 a u.1 u.2.1 u.2.2 t.heap ∧  jModP G0 (fun r => r = a) H0 t.heap ∧ t.heap.size = H0.size ∧ jTot t.heap = jTot H0) (jA base)) 0 0 (jA base) := by
  refine Met.ofW (cc := cX10_isTerm) (maxL := 6) (ret := (some .boolean)) (by decide) rfl ?_
  intro p e s m args below meth c s₁ Bd hml hv
  obtain ⟨rfl, hH0, hX, hG, hg_a, hm_a, he_a, ht0, ht1, ha0, hn0, hn1, hp0, hp1, hp2⟩ := hv
  have hK := hG.1
  have hx := Bd.exec
  have hb := Bd.bytes
  have hr := Bd.returns
  have hts := atoms_spec (ws := wsX10_isTerm) Bd.pre
  have hown : s.vm.findClass RX10 = some m.cls := findClass_of_methodNamed Bd.named
  have hlocks := Bd.notSynchronized
  have hin_12 : ∀ w ∈ u_ws RX10 TX10 11, w ∈ wsX10_isTerm := by decide +kernel
  obtain ⟨Q, hQ⟩ : ∃ Q, Q = MQ below (va_Qi (S := Int32 × Int32 × Int32) (fun r u => (r = 0 ∨ r = 1) ∧ u.1.toInt = tk0.toInt ∧ 0 ≤ u.2.1.toInt ∧ nc0.toInt ≤ u.2.2.toInt ∧ u.2.2.toInt ≤ 3000 ∧ u.2.1.toInt ≤ tk0.toInt + 2 ∧ (r.toInt = 0 ∨ (u.2.1.toInt ≤ tk0.toInt ∧ nc0.toInt + 1 ≤ u.2.2.toInt))) (fun u t => jX B base G0 X t.heap ∧ jB12e dC dI ca G0 a u.1 u.2.1 u.2.2 t.heap ∧  jModP G0 (fun r => r = a) H0 t.heap ∧ t.heap.size = H0.size ∧ jTot t.heap = jTot H0) (jA base)) ([.ref a, .int kd, .int dp] : List Value).toArray s 0 0 (jA base) := ⟨_, rfl⟩
  rw [← hQ]
  have hl := lv_entry ([.ref a, .int kd, .int dp]) (n := 6) (Nat.le_of_ble_eq_true rfl)
  rw [lg_entry_eq]
  generalize (lg_sl ([.ref a, .int kd, .int dp]) ++ List.replicate (6 - (lg_sl ([.ref a, .int kd, .int dp])).length) Slot.unset).toArray = ls at hl ⊢
  have hl : lv_has ls 6 [(0, .ref a), (1, .int kd), (2, .int dp)] := hl
  generalize hR : (headSpec wsX10_isTerm ({ frames := ef + 3, cells := 0, slots := 0, locals := 60 * ef + 120 })).room = R
  subst hH0
  have hS : va_S (jA base) s.heap s.heap [] := va_S.rf
  have hM : jModP G0 (fun r => r = a) s.heap s.heap := jModP.rf
  have hz : s.heap.size = s.heap.size := rfl
  have hT : jTot s.heap = jTot s.heap := rfl
  have hlt_a := hX.2 _ _ hg_a
  have hrt_a : jRoot G0 a := ⟨_, _, hg_a, by omega⟩
  have hk0 : (0 : Int32).toInt = 0 := by decide
  have hk1 : (1 : Int32).toInt = 1 := by decide
  have hk2 : (2 : Int32).toInt = 2 := by decide
  have hk4 : (4 : Int32).toInt = 4 := by decide
  have hk8 : (8 : Int32).toInt = 8 := by decide
  have hk12 : (12 : Int32).toInt = 12 := by decide
  have hk15 : (15 : Int32).toInt = 15 := by decide
  have hk40 : (40 : Int32).toInt = 40 := by decide
  have hk41 : (41 : Int32).toInt = 41 := by decide
  have hk44 : (44 : Int32).toInt = 44 := by decide
  have hk2047 : (2047 : Int32).toInt = 2047 := by decide
  refine lv_aload_n hx hb dX10_isTerm_0 rfl (lv_at hl 0 rfl) ?_
  obtain ⟨names_1, kinds_1, values_1, word_1, told_1, toldCount_1, terms_1, nodes_1, f_kinds_1, f_values_1, f_told_1, f_nodes_1, hat_a_1, hat_kinds_1, hat_values_1, hat_told_1, hat_nodes_1, hg_kinds_1, hg_values_1, hg_told_1, hg_nodes_1, hg_names_1, hf0_1, hf1_1⟩ := id he_a
  have hlt_names_1 := hX.2 _ _ hg_names_1
  have hrt_names_1 : jRoot G0 names_1 := ⟨_, _, hg_names_1, by omega⟩
  refine va_get (D := (dC, dI)) (ci := 12) (v := .int nc0) (C := RX10) (T := TX10) (N := 11) hx hb hts hin_12 hown hK (jp_one hat_a_1) 0 rfl rfl 10 (by decide) (hts (.fieldLink RX10 89 "ProofServer$Syntax" "nodeCount" "I") (by decide +kernel)) (fun _ h9 => h9) rfl dX10_isTerm_1 ?_
  refine lv_istore_n (lv' := [(3, .int nc0), (0, .ref a), (1, .int kd), (2, .int dp)]) hx hb dX10_isTerm_4 rfl hl (by decide) rfl (fun ls hl => ?_)
  refine lv_aload_n hx hb dX10_isTerm_5 rfl (lv_at hl 1 rfl) ?_
  have he_4 : jB12e dC dI ca G0 a tk0 at0 nc0 s.heap := ⟨names_1, kinds_1, values_1, word_1, told_1, toldCount_1, terms_1, nodes_1, f_kinds_1, f_values_1, f_told_1, f_nodes_1, hat_a_1, hat_kinds_1, hat_values_1, hat_told_1, hat_nodes_1, hg_kinds_1, hg_values_1, hg_told_1, hg_nodes_1, hg_names_1, by first | omega | assumption | (simp; done) | exact Or.inl rfl | exact Or.inr rfl, by first | omega | assumption | (simp; done) | exact Or.inl rfl | exact Or.inr rfl⟩
  refine va_calli (A0 := jA base) (H0 := s.heap) (va_runV (As := []) (rest := []) ⟨hx, hb, hml, hown, hts⟩ (tX10_peekName l dC dI ca base B hB G0 X s.heap a tk0 at0 nc0) (cwV 0 hts gX10_isTerm_X10_peekName rfl rfl rfl (by decide +kernel) ⟨by rw [← hR]; show (1) + 1 ≤ ef + 3; omega, by rw [← hR]; show 8 + (1 + 11) + (40) ≤ 60 * ef + 120; omega⟩) ⟨fun a U g mk q => by obtain ⟨q0, q1, q2, qK, q9⟩ := q; exact ⟨q0, q1, q2, jG.calling g mk a qK, q9⟩, va_recv hK (jp_one hat_a_1) (ci := 12) (q0 := 0) rfl rfl, fun U hU hW => ⟨rfl, hU, hX, hG.step hW hU hS, hg_a, hm_a, he_4, by refine ⟨?_, ?_, ?_, ?_, ?_, ?_⟩ <;> omega⟩⟩ rfl rfl hl.1 rfl (lv_room (Nat.le_of_ble_eq_true rfl)) dX10_isTerm_6 ⟨Nat.zero_le _, Nat.zero_le _⟩) hS (fun q _ h => h) (fun q h => h) (fun r_2 u t H1 locs1 ht hvm hr_2 hBb hz1 hk1 hS_3 => ?_)
  obtain ⟨tk_3, at_3, nc_3⟩ := u
  obtain ⟨hX_3, he_3, hM_30, hz_30, hT_30⟩ := hBb
  rw [ht] at hX_3 he_3 hM_30 hz_30 hT_30
  simp only at hr_2 he_3
  have hM_3 := hM.tr0 hM_30 hz (by intro r; simp)
  have hz_3 := hz_30.trans hz
  have hT_3 := hT_30.trans hT
  clear hz1 hk1 hvm ht hM_30 hz_30 hT_30
  refine lv_istore (lv' := [(4, .int r_2), (3, .int nc0), (0, .ref a), (1, .int kd), (2, .int dp)]) hx hb dX10_isTerm_9 hl (by decide) rfl (fun ls hl => ?_)
  refine lv_aload_n hx hb dX10_isTerm_11 rfl (lv_at hl 2 rfl) ?_
  refine lv_dup hx hb dX10_isTerm_12 rfl ?_
  obtain ⟨names_5, kinds_5, values_5, word_5, told_5, toldCount_5, terms_5, nodes_5, f_kinds_5, f_values_5, f_told_5, f_nodes_5, hat_a_5, hat_kinds_5, hat_values_5, hat_told_5, hat_nodes_5, hg_kinds_5, hg_values_5, hg_told_5, hg_nodes_5, hg_names_5, hf0_5, hf1_5⟩ := id he_3
  have hlt_names_5 := hX_3.2 _ _ hg_names_5
  have hrt_names_5 : jRoot G0 names_5 := ⟨_, _, hg_names_5, by omega⟩
  refine va_get (D := (dC, dI)) (ci := 12) (v := .int at_3) (C := RX10) (T := TX10) (N := 11) hx hb hts hin_12 hown hK (jp_one hat_a_5) 0 rfl rfl 4 (by decide) (hts (.fieldLink RX10 83 "ProofServer$Syntax" "at" "I") (by decide +kernel)) (fun _ h9 => h9) rfl dX10_isTerm_13 ?_
  refine lv_iconst (v := 1) hx hb dX10_isTerm_16 (by decide) ?_
  refine lv_iadd hx hb dX10_isTerm_17 ?_
  refine lv_topi (fun z_6 ez_6 => ?_)
  have hz_6 : z_6.toInt = at_3.toInt + 1 := by rw [ez_6]; exact jb_iadd (rfl) ((by decide)) (by omega) (by omega)
  refine j_put (D := (dC, dI)) (ci := 12) (v := .int z_6) (ty := .int) (C := RX10) (T := TX10) (N := 11) (A := jA base) hx hb hts hin_12 tyX10 tyX10_ok nmX10 hown hK hat_a_5 (hX_3.2 _ _ hg_a).1 hS_3.2.2 rfl 4 (by decide) (hts (.fieldLink RX10 83 "ProofServer$Syntax" "at" "I") (by decide +kernel)) (fun _ h9 => h9) rfl (by decide +kernel) rfl rfl (Nat.le_of_ble_eq_true rfl) dX10_isTerm_18 (fun H1 locs1 hat1 hsz1 hfr1 hT1 hL1 => ?_)
  have hX_8 := hX_3.put hB hg_a (by omega) jSup.root hm_a hsz1 hfr1
  have hM_8 := hM_3.put jExt.rf hrt_a jSup.root (by simp) hfr1
  have hz_8 := hsz1.trans hz_3
  have hT_8 := hT1.trans hT_3
  have hS_8 := jS_put hS_3 hsz1 hfr1 (hX_3.2 _ _ hg_a).1 hL1
  have hat_kinds_5_8 := hat_kinds_5.kept (hfr1 _ (jne hg_kinds_5 hg_a (by simp)))
  have hat_values_5_8 := hat_values_5.kept (hfr1 _ (jne hg_values_5 hg_a (by simp)))
  have hat_told_5_8 := hat_told_5.kept (hfr1 _ (jne hg_told_5 hg_a (by simp)))
  have hat_nodes_5_8 := hat_nodes_5.kept (hfr1 _ (jne hg_nodes_5 hg_a (by simp)))
  clear hfr1 hsz1 hT1 hL1
  have hat_a_8 : va_at (dC, dI) vwCl (a, .inr (12, [.ref names_5, .ref kinds_5, .ref values_5, .int tk_3, .int z_6, .int word_5, .ref told_5, .int toldCount_5, .int terms_5, .ref nodes_5, .int nc_3])) H1 := hat1
  clear hat1
  refine lv_iload hx hb dX10_isTerm_21 (lv_at hl 0 rfl) ?_
  refine lv_iconst (v := 2) hx hb dX10_isTerm_23 (by decide) ?_
  refine lv_icmp_le (tgt := 41) hx hb dX10_isTerm_24 (by decide) (fun c_9 => ?_) (fun c_9 => ?_)
  · skip
    have c_9' : r_2.toInt ≤ 2 := jb_le (rfl) ((by decide)) c_9
    refine lv_iconst (v := 0) hx hb dX10_isTerm_41 (by decide) ?_
    have he_10 : jB12e dC dI ca G0 a tk_3 z_6 nc_3 H1 := ⟨names_5, kinds_5, values_5, word_5, told_5, toldCount_5, terms_5, nodes_5, f_kinds_5, f_values_5, f_told_5, f_nodes_5, hat_a_8, hat_kinds_5_8, hat_values_5_8, hat_told_5_8, hat_nodes_5_8, hg_kinds_5, hg_values_5, hg_told_5, hg_nodes_5, hg_names_5, by first | omega | assumption | (simp; done) | exact Or.inl rfl | exact Or.inr rfl, by first | omega | assumption | (simp; done) | exact Or.inl rfl | exact Or.inr rfl⟩
    rw [hQ]
    exact W.zret (v := 0) hx hb hr (jb_nz (Or.inl rfl)) (fun t ht hW => ⟨⟨0, (tk_3, z_6, nc_3), rfl, ⟨(Or.inl rfl), by refine ⟨?_, ?_, ?_, ?_, ?_, ?_⟩ <;> first | rfl | omega | (left; omega) | (right; omega) | exact Or.inl ⟨by decide, rfl⟩ | (simp only; omega)⟩, by rw [ht]; try exact hX_8, by rw [ht]; try exact he_10, by rw [ht]; try exact hM_8, by rw [ht]; try exact hz_8, by rw [ht]; try exact hT_8⟩, by rw [ht]; try exact hS_8.1, fun q h9 hq => by rw [ht]; try exact hS_8.2.1 q h9 hq⟩) hS_8.2.2 dX10_isTerm_42
  · skip
    have c_9' : r_2.toInt > 2 := jb_le_n (rfl) ((by decide)) c_9
    refine lv_aload_n hx hb dX10_isTerm_27 rfl (lv_at hl 2 rfl) ?_
    refine lv_iload_n hx hb dX10_isTerm_28 rfl (lv_at hl 3 rfl) ?_
    refine lv_iload hx hb dX10_isTerm_29 (lv_at hl 0 rfl) ?_
    refine lv_bipush (v := 15) hx hb dX10_isTerm_31 (by decide) ?_
    refine lv_ishl hx hb dX10_isTerm_33 ?_
    refine lv_topi (fun z_11 ez_11 => ?_)
    refine lv_ior hx hb dX10_isTerm_34 ?_
    refine lv_topi (fun z_12 ez_12 => ?_)
    have he_15 : jB12e dC dI ca G0 a tk_3 z_6 nc_3 H1 := ⟨names_5, kinds_5, values_5, word_5, told_5, toldCount_5, terms_5, nodes_5, f_kinds_5, f_values_5, f_told_5, f_nodes_5, hat_a_8, hat_kinds_5_8, hat_values_5_8, hat_told_5_8, hat_nodes_5_8, hg_kinds_5, hg_values_5, hg_told_5, hg_nodes_5, hg_names_5, by first | omega | assumption | (simp; done) | exact Or.inl rfl | exact Or.inr rfl, by first | omega | assumption | (simp; done) | exact Or.inl rfl | exact Or.inr rfl⟩
    refine va_calli (A0 := jA base) (H0 := s.heap) (va_runV (As := [.int z_12]) (rest := []) ⟨hx, hb, hml, hown, hts⟩ (tX10_addNode l dC dI ca base B hB G0 X H1 a z_12 tk_3 z_6 nc_3) (cwV 1 hts gX10_isTerm_X10_addNode rfl rfl rfl (by decide +kernel) ⟨by rw [← hR]; show (0) + 1 ≤ ef + 3; omega, by rw [← hR]; show 8 + (2 + 11) + (0) ≤ 60 * ef + 120; omega⟩) ⟨fun a U g mk q => by obtain ⟨q0, q1, q2, qK, q9⟩ := q; exact ⟨q0, q1, q2, jG.calling g mk a qK, q9⟩, va_recv hK (jp_one hat_a_8) (ci := 12) (q0 := 0) rfl rfl, fun U hU hW => ⟨rfl, hU, hX_8, hG.step hW hU hS_8, hg_a, hm_a, he_15, by refine ⟨?_, ?_, ?_, ?_, ?_, ?_⟩ <;> omega⟩⟩ rfl rfl hl.1 rfl (lv_room (Nat.le_of_ble_eq_true rfl)) dX10_isTerm_35 ⟨Nat.zero_le _, Nat.zero_le _⟩) hS_8 (fun q _ h => h) (fun q h => h) (fun r_13 u t H1 locs1 ht hvm hr_13 hBb hz1 hk1 hS_14 => ?_)
    obtain ⟨tk_14, at_14, nc_14⟩ := u
    obtain ⟨hX_14, he_14, hM_140, hz_140, hT_140⟩ := hBb
    rw [ht] at hX_14 he_14 hM_140 hz_140 hT_140
    simp only at hr_13 he_14
    have hM_14 := hM_8.tr0 hM_140 hz_8 (by intro r; simp)
    have hz_14 := hz_140.trans hz_8
    have hT_14 := hT_140.trans hT_8
    clear hz1 hk1 hvm ht hM_140 hz_140 hT_140
    obtain ⟨hr_13b, hr_13p⟩ := hr_13
    have hr_13' := jb_01 hr_13b
    refine lv_if_ne (tgt := 43) hx hb dX10_isTerm_38 (by decide) (fun c_16 => ?_) (fun c_16 => ?_)
    · skip
      have c_16' : r_13.toInt ≠ 0 := jb_ne (rfl) ((by decide)) c_16
      refine lv_aload_n hx hb dX10_isTerm_43 rfl (lv_at hl 2 rfl) ?_
      obtain ⟨names_19, kinds_19, values_19, word_19, told_19, toldCount_19, terms_19, nodes_19, f_kinds_19, f_values_19, f_told_19, f_nodes_19, hat_a_19, hat_kinds_19, hat_values_19, hat_told_19, hat_nodes_19, hg_kinds_19, hg_values_19, hg_told_19, hg_nodes_19, hg_names_19, hf0_19, hf1_19⟩ := id he_14
      have hlt_names_19 := hX_14.2 _ _ hg_names_19
      have hrt_names_19 : jRoot G0 names_19 := ⟨_, _, hg_names_19, by omega⟩
      have he_20 : jB12e dC dI ca G0 a tk_14 at_14 nc_14 H1 := ⟨names_19, kinds_19, values_19, word_19, told_19, toldCount_19, terms_19, nodes_19, f_kinds_19, f_values_19, f_told_19, f_nodes_19, hat_a_19, hat_kinds_19, hat_values_19, hat_told_19, hat_nodes_19, hg_kinds_19, hg_values_19, hg_told_19, hg_nodes_19, hg_names_19, by first | omega | assumption | (simp; done) | exact Or.inl rfl | exact Or.inr rfl, by first | omega | assumption | (simp; done) | exact Or.inl rfl | exact Or.inr rfl⟩
      refine va_calli (A0 := jA base) (H0 := s.heap) (va_runV (As := []) (rest := []) ⟨hx, hb, hml, hown, hts⟩ (tX10_peek l dC dI ca base B hB G0 X H1 a tk_14 at_14 nc_14) (cwV 0 hts gX10_isTerm_X10_peek rfl rfl rfl (by decide +kernel) ⟨by rw [← hR]; show (0) + 1 ≤ ef + 3; omega, by rw [← hR]; show 8 + (1 + 11) + (0) ≤ 60 * ef + 120; omega⟩) ⟨fun a U g mk q => by obtain ⟨q0, q1, q2, qK, q9⟩ := q; exact ⟨q0, q1, q2, jG.calling g mk a qK, q9⟩, va_recv hK (jp_one hat_a_19) (ci := 12) (q0 := 0) rfl rfl, fun U hU hW => ⟨rfl, hU, hX_14, hG.step hW hU hS_14, hg_a, hm_a, he_20, by refine ⟨?_, ?_, ?_, ?_, ?_, ?_⟩ <;> omega⟩⟩ rfl rfl hl.1 rfl (lv_room (Nat.le_of_ble_eq_true rfl)) dX10_isTerm_44 ⟨Nat.zero_le _, Nat.zero_le _⟩) hS_14 (fun q _ h => h) (fun q h => h) (fun r_17 u t H1 locs1 ht hvm hr_17 hBb hz1 hk1 hS_18 => ?_)
      obtain ⟨tk_18, at_18, nc_18⟩ := u
      obtain ⟨hX_18, he_18, hM_180, hz_180, hT_180⟩ := hBb
      rw [ht] at hX_18 he_18 hM_180 hz_180 hT_180
      simp only at hr_17 he_18
      have hM_18 := hM_14.tr0 hM_180 hz_14 (by intro r; simp)
      have hz_18 := hz_180.trans hz_14
      have hT_18 := hT_180.trans hT_14
      clear hz1 hk1 hvm ht hM_180 hz_180 hT_180
      refine lv_bipush (v := 40) hx hb dX10_isTerm_47 (by decide) ?_
      refine lv_icmp_eq (tgt := 54) hx hb dX10_isTerm_49 (by decide) (fun c_21 => ?_) (fun c_21 => ?_)
      · skip
        have c_21' : r_17.toInt = 40 := jb_eq (rfl) ((by decide)) c_21
        refine lv_iload_n hx hb dX10_isTerm_54 rfl (lv_at hl 4 rfl) ?_
        refine lv_bipush (v := 12) hx hb dX10_isTerm_55 (by decide) ?_
        refine lv_icmp_lt (tgt := 62) hx hb dX10_isTerm_57 (by decide) (fun c_22 => ?_) (fun c_22 => ?_)
        · skip
          have c_22' : dp.toInt < 12 := jb_lt (rfl) ((by decide)) c_22
          refine lv_iconst (v := 1) hx hb dX10_isTerm_62 (by decide) ?_
          refine lv_istore (lv' := [(5, .int 1), (4, .int r_2), (3, .int nc0), (0, .ref a), (1, .int kd), (2, .int dp)]) hx hb dX10_isTerm_63 hl (by decide) rfl (fun ls hl => ?_)
          have L65 : ∀ (N : Nat) (ct : Int32) (tkv atv ncv : Int32) (H : Heap) (locs : List Loc), jB12e dC dI ca G0 a tkv atv ncv H → jX B base G0 X H → va_S (jA base) s.heap H locs → jModP G0 (fun r => r = a) s.heap H → H.size = s.heap.size → jTot H = jTot s.heap → (1 ≤ ct.toInt ∧ ct.toInt ≤ 2048 ∧ tkv.toInt = tk0.toInt ∧ 0 ≤ atv.toInt ∧ atv.toInt < tk0.toInt ∧ nc0.toInt + 1 ≤ ncv.toInt ∧ ncv.toInt ≤ 3000) → (2048 - ct.toInt : Int) < N → ∀ ls : Array Slot, lv_has ls 6 [(0, .ref a), (1, .int kd), (2, .int dp), (3, .int nc0), (5, .int ct)] → W p l e R s m ([.ref a, .int kd, .int dp] : List Value).toArray below meth c H locs 0 0 Q (F0 m 65 ls []) := by
            intro N
            induction N with
            | zero => intro ct tkv atv ncv H locs he hX hS hM hz hT hi hm; exact absurd hm (by omega)
            | succ N ih =>
              have L65 := ih
              intro ct tkv atv ncv H locs he hX hS hM hz hT hi hm ls hl
              obtain ⟨hi0, hi1, hi2, hi3, hi4, hi5, hi6⟩ := hi
              refine lv_iload hx hb dX10_isTerm_65 (lv_at hl 4 rfl) ?_
              refine lv_sipush (v := 2047) hx hb dX10_isTerm_67 (by decide) ?_
              refine lv_icmp_gt (tgt := 132) hx hb dX10_isTerm_70 (by decide) (fun c_23 => ?_) (fun c_23 => ?_)
              · skip
                have c_23' : ct.toInt > 2047 := jb_gt (rfl) ((by decide)) c_23
                refine lv_iconst (v := 0) hx hb dX10_isTerm_132 (by decide) ?_
                rw [hQ]
                exact W.zret (v := 0) hx hb hr (jb_nz (Or.inl rfl)) (fun t ht hW => ⟨⟨0, (tkv, atv, ncv), rfl, ⟨(Or.inl rfl), by refine ⟨?_, ?_, ?_, ?_, ?_, ?_⟩ <;> first | rfl | omega | (left; omega) | (right; omega) | exact Or.inl ⟨by decide, rfl⟩ | (simp only; omega)⟩, by rw [ht]; try exact hX, by rw [ht]; try exact he, by rw [ht]; try exact hM, by rw [ht]; try exact hz, by rw [ht]; try exact hT⟩, by rw [ht]; try exact hS.1, fun q h9 hq => by rw [ht]; try exact hS.2.1 q h9 hq⟩) hS.2.2 dX10_isTerm_133
              · skip
                have c_23' : ct.toInt ≤ 2047 := jb_gt_n (rfl) ((by decide)) c_23
                refine lv_aload_n hx hb dX10_isTerm_73 rfl (lv_at hl 0 rfl) ?_
                refine lv_dup hx hb dX10_isTerm_74 rfl ?_
                obtain ⟨names_24, kinds_24, values_24, word_24, told_24, toldCount_24, terms_24, nodes_24, f_kinds_24, f_values_24, f_told_24, f_nodes_24, hat_a_24, hat_kinds_24, hat_values_24, hat_told_24, hat_nodes_24, hg_kinds_24, hg_values_24, hg_told_24, hg_nodes_24, hg_names_24, hf0_24, hf1_24⟩ := id he
                have hlt_names_24 := hX.2 _ _ hg_names_24
                have hrt_names_24 : jRoot G0 names_24 := ⟨_, _, hg_names_24, by omega⟩
                refine va_get (D := (dC, dI)) (ci := 12) (v := .int atv) (C := RX10) (T := TX10) (N := 11) hx hb hts hin_12 hown hK (jp_one hat_a_24) 0 rfl rfl 4 (by decide) (hts (.fieldLink RX10 83 "ProofServer$Syntax" "at" "I") (by decide +kernel)) (fun _ h9 => h9) rfl dX10_isTerm_75 ?_
                refine lv_iconst (v := 1) hx hb dX10_isTerm_78 (by decide) ?_
                refine lv_iadd hx hb dX10_isTerm_79 ?_
                refine lv_topi (fun z_25 ez_25 => ?_)
                have hz_25 : z_25.toInt = atv.toInt + 1 := by rw [ez_25]; exact jb_iadd (rfl) ((by decide)) (by omega) (by omega)
                refine j_put (D := (dC, dI)) (ci := 12) (v := .int z_25) (ty := .int) (C := RX10) (T := TX10) (N := 11) (A := jA base) hx hb hts hin_12 tyX10 tyX10_ok nmX10 hown hK hat_a_24 (hX.2 _ _ hg_a).1 hS.2.2 rfl 4 (by decide) (hts (.fieldLink RX10 83 "ProofServer$Syntax" "at" "I") (by decide +kernel)) (fun _ h9 => h9) rfl (by decide +kernel) rfl rfl (Nat.le_of_ble_eq_true rfl) dX10_isTerm_80 (fun H1 locs1 hat1 hsz1 hfr1 hT1 hL1 => ?_)
                have hX_27 := hX.put hB hg_a (by omega) jSup.root hm_a hsz1 hfr1
                have hM_27 := hM.put jExt.rf hrt_a jSup.root (by simp) hfr1
                have hz_27 := hsz1.trans hz
                have hT_27 := hT1.trans hT
                have hS_27 := jS_put hS hsz1 hfr1 (hX.2 _ _ hg_a).1 hL1
                have hat_kinds_24_27 := hat_kinds_24.kept (hfr1 _ (jne hg_kinds_24 hg_a (by simp)))
                have hat_values_24_27 := hat_values_24.kept (hfr1 _ (jne hg_values_24 hg_a (by simp)))
                have hat_told_24_27 := hat_told_24.kept (hfr1 _ (jne hg_told_24 hg_a (by simp)))
                have hat_nodes_24_27 := hat_nodes_24.kept (hfr1 _ (jne hg_nodes_24 hg_a (by simp)))
                clear hfr1 hsz1 hT1 hL1
                have hat_a_27 : va_at (dC, dI) vwCl (a, .inr (12, [.ref names_24, .ref kinds_24, .ref values_24, .int tkv, .int z_25, .int word_24, .ref told_24, .int toldCount_24, .int terms_24, .ref nodes_24, .int ncv])) H1 := hat1
                clear hat1
                refine lv_aload_n hx hb dX10_isTerm_83 rfl (lv_at hl 0 rfl) ?_
                refine lv_bipush (v := 8) hx hb dX10_isTerm_84 (by decide) ?_
                refine lv_iload_n hx hb dX10_isTerm_86 rfl (lv_at hl 2 rfl) ?_
                refine lv_iconst (v := 1) hx hb dX10_isTerm_87 (by decide) ?_
                refine lv_iadd hx hb dX10_isTerm_88 ?_
                refine lv_topi (fun z_28 ez_28 => ?_)
                have hz_28 : z_28.toInt = dp.toInt + 1 := by rw [ez_28]; exact jb_iadd (rfl) ((by decide)) (by omega) (by omega)
                have he_31 : jB12e dC dI ca G0 a tkv z_25 ncv H1 := ⟨names_24, kinds_24, values_24, word_24, told_24, toldCount_24, terms_24, nodes_24, f_kinds_24, f_values_24, f_told_24, f_nodes_24, hat_a_27, hat_kinds_24_27, hat_values_24_27, hat_told_24_27, hat_nodes_24_27, hg_kinds_24, hg_values_24, hg_told_24, hg_nodes_24, hg_names_24, by first | omega | assumption | (simp; done) | exact Or.inl rfl | exact Or.inr rfl, by first | omega | assumption | (simp; done) | exact Or.inl rfl | exact Or.inr rfl⟩
                refine va_calli (A0 := jA base) (H0 := s.heap) (va_runV (As := [.int 8, .int z_28]) (rest := []) ⟨hx, hb, hml, hown, hts⟩ (ihT (ef - 1) (by omega) G0 X H1 a 8 z_28 tkv z_25 ncv) (cwV 2 hts gX10_isTerm_X10_isTerm rfl rfl rfl (by decide +kernel) ⟨by rw [← hR]; show ((ef - 1) + 3) + 1 ≤ ef + 3; omega, by rw [← hR]; show 8 + (6 + 11) + (60 * (ef - 1) + 120) ≤ 60 * ef + 120; omega⟩) ⟨fun a U g mk q => by obtain ⟨q0, q1, q2, qK, q9⟩ := q; exact ⟨q0, q1, q2, jG.calling g mk a qK, q9⟩, va_recv hK (jp_one hat_a_27) (ci := 12) (q0 := 0) rfl rfl, fun U hU hW => ⟨rfl, hU, hX_27, hG.step hW hU hS_27, hg_a, hm_a, he_31, by refine ⟨?_, ?_, ?_, ?_, ?_, ?_, ?_, ?_⟩ <;> omega⟩⟩ rfl rfl hl.1 rfl (lv_room (Nat.le_of_ble_eq_true rfl)) dX10_isTerm_89 ⟨Nat.zero_le _, Nat.zero_le _⟩) hS_27 (fun q _ h => h) (fun q h => h) (fun r_29 u t H1 locs1 ht hvm hr_29 hBb hz1 hk1 hS_30 => ?_)
                obtain ⟨tk_30, at_30, nc_30⟩ := u
                obtain ⟨hX_30, he_30, hM_300, hz_300, hT_300⟩ := hBb
                rw [ht] at hX_30 he_30 hM_300 hz_300 hT_300
                simp only at hr_29 he_30
                have hM_30 := hM_27.tr0 hM_300 hz_27 (by intro r; simp)
                have hz_30 := hz_300.trans hz_27
                have hT_30 := hT_300.trans hT_27
                clear hz1 hk1 hvm ht hM_300 hz_300 hT_300
                obtain ⟨hr_29b, hr_29p⟩ := hr_29
                have hr_29' := jb_01 hr_29b
                refine lv_if_ne (tgt := 97) hx hb dX10_isTerm_92 (by decide) (fun c_32 => ?_) (fun c_32 => ?_)
                · skip
                  have c_32' : r_29.toInt ≠ 0 := jb_ne (rfl) ((by decide)) c_32
                  refine lv_aload_n hx hb dX10_isTerm_97 rfl (lv_at hl 0 rfl) ?_
                  obtain ⟨names_35, kinds_35, values_35, word_35, told_35, toldCount_35, terms_35, nodes_35, f_kinds_35, f_values_35, f_told_35, f_nodes_35, hat_a_35, hat_kinds_35, hat_values_35, hat_told_35, hat_nodes_35, hg_kinds_35, hg_values_35, hg_told_35, hg_nodes_35, hg_names_35, hf0_35, hf1_35⟩ := id he_30
                  have hlt_names_35 := hX_30.2 _ _ hg_names_35
                  have hrt_names_35 : jRoot G0 names_35 := ⟨_, _, hg_names_35, by omega⟩
                  have he_36 : jB12e dC dI ca G0 a tk_30 at_30 nc_30 H1 := ⟨names_35, kinds_35, values_35, word_35, told_35, toldCount_35, terms_35, nodes_35, f_kinds_35, f_values_35, f_told_35, f_nodes_35, hat_a_35, hat_kinds_35, hat_values_35, hat_told_35, hat_nodes_35, hg_kinds_35, hg_values_35, hg_told_35, hg_nodes_35, hg_names_35, by first | omega | assumption | (simp; done) | exact Or.inl rfl | exact Or.inr rfl, by first | omega | assumption | (simp; done) | exact Or.inl rfl | exact Or.inr rfl⟩
                  refine va_calli (A0 := jA base) (H0 := s.heap) (va_runV (As := []) (rest := []) ⟨hx, hb, hml, hown, hts⟩ (tX10_peek l dC dI ca base B hB G0 X H1 a tk_30 at_30 nc_30) (cwV 0 hts gX10_isTerm_X10_peek rfl rfl rfl (by decide +kernel) ⟨by rw [← hR]; show (0) + 1 ≤ ef + 3; omega, by rw [← hR]; show 8 + (1 + 11) + (0) ≤ 60 * ef + 120; omega⟩) ⟨fun a U g mk q => by obtain ⟨q0, q1, q2, qK, q9⟩ := q; exact ⟨q0, q1, q2, jG.calling g mk a qK, q9⟩, va_recv hK (jp_one hat_a_35) (ci := 12) (q0 := 0) rfl rfl, fun U hU hW => ⟨rfl, hU, hX_30, hG.step hW hU hS_30, hg_a, hm_a, he_36, by refine ⟨?_, ?_, ?_, ?_, ?_, ?_⟩ <;> omega⟩⟩ rfl rfl hl.1 rfl (lv_room (Nat.le_of_ble_eq_true rfl)) dX10_isTerm_98 ⟨Nat.zero_le _, Nat.zero_le _⟩) hS_30 (fun q _ h => h) (fun q h => h) (fun r_33 u t H1 locs1 ht hvm hr_33 hBb hz1 hk1 hS_34 => ?_)
                  obtain ⟨tk_34, at_34, nc_34⟩ := u
                  obtain ⟨hX_34, he_34, hM_340, hz_340, hT_340⟩ := hBb
                  rw [ht] at hX_34 he_34 hM_340 hz_340 hT_340
                  simp only at hr_33 he_34
                  have hM_34 := hM_30.tr0 hM_340 hz_30 (by intro r; simp)
                  have hz_34 := hz_340.trans hz_30
                  have hT_34 := hT_340.trans hT_30
                  clear hz1 hk1 hvm ht hM_340 hz_340 hT_340
                  refine lv_bipush (v := 44) hx hb dX10_isTerm_101 (by decide) ?_
                  refine lv_icmp_eq (tgt := 126) hx hb dX10_isTerm_103 (by decide) (fun c_37 => ?_) (fun c_37 => ?_)
                  · skip
                    have c_37' : r_33.toInt = 44 := jb_eq (rfl) ((by decide)) c_37
                    obtain ⟨z_38, ez_38⟩ : ∃ y : Int32, y = ct + 1 := ⟨_, rfl⟩
                    refine lv_iinc (v := z_38) (lv' := [(5, .int z_38), (0, .ref a), (1, .int kd), (2, .int dp), (3, .int nc0)]) hx hb dX10_isTerm_126 hl (k := 4) rfl (by rw [ez_38]; rfl) (by decide) rfl (fun ls hl => ?_)
                    have hz_38 : z_38.toInt = ct.toInt + 1 := by rw [ez_38]; exact jb_iadd (rfl) (by decide) (by omega) (by omega)
                    refine lv_goto (tgt := 65) hx hb dX10_isTerm_129 (by decide) ?_
                    exact L65 z_38 tk_34 at_34 nc_34 _ _ he_34 hX_34 hS_34 hM_34 hz_34 hT_34 (by refine ⟨?_, ?_, ?_, ?_, ?_, ?_, ?_⟩ <;> omega) (by omega) _ (lv_sub hl [1, 2, 3, 4, 0] rfl)
                  · skip
                    have c_37' : r_33.toInt ≠ 44 := jb_eq_n (rfl) ((by decide)) c_37
                    refine lv_aload_n hx hb dX10_isTerm_106 rfl (lv_at hl 0 rfl) ?_
                    obtain ⟨names_39, kinds_39, values_39, word_39, told_39, toldCount_39, terms_39, nodes_39, f_kinds_39, f_values_39, f_told_39, f_nodes_39, hat_a_39, hat_kinds_39, hat_values_39, hat_told_39, hat_nodes_39, hg_kinds_39, hg_values_39, hg_told_39, hg_nodes_39, hg_names_39, hf0_39, hf1_39⟩ := id he_34
                    have hlt_names_39 := hX_34.2 _ _ hg_names_39
                    have hrt_names_39 : jRoot G0 names_39 := ⟨_, _, hg_names_39, by omega⟩
                    refine va_get (D := (dC, dI)) (ci := 12) (v := .ref nodes_39) (C := RX10) (T := TX10) (N := 11) hx hb hts hin_12 hown hK (jp_one hat_a_39) 0 rfl rfl 9 (by decide) (hts (.fieldLink RX10 21 "ProofServer$Syntax" "nodes" "[I") (by decide +kernel)) (fun _ h9 => h9) rfl dX10_isTerm_107 ?_
                    refine lv_iload_n hx hb dX10_isTerm_110 rfl (lv_at hl 3 rfl) ?_
                    refine lv_dup2_11 hx hb dX10_isTerm_111 rfl rfl ?_
                    have hiz_40 : _ := jb_in (i := nc0) (n := 3000) (rfl) (by omega) (by omega)
                    refine va_iald hx hb hK (jp_one hat_nodes_39) 0 1 rfl rfl hiz_40 dX10_isTerm_112 ?_
                    refine lv_topi (fun z_40 ez_40 => ?_)
                    refine lv_iload hx hb dX10_isTerm_113 (lv_at hl 4 rfl) ?_
                    refine lv_iconst (v := 4) hx hb dX10_isTerm_115 (by decide) ?_
                    refine lv_ishl hx hb dX10_isTerm_116 ?_
                    refine lv_topi (fun z_41 ez_41 => ?_)
                    refine lv_ior hx hb dX10_isTerm_117 ?_
                    refine lv_topi (fun z_42 ez_42 => ?_)
                    refine j_iast (A := jA base) hx hb hK 1 hat_nodes_39 (hX_34.2 _ _ hg_nodes_39).1 hS_34.2.2 rfl (jb_in (i := nc0) (n := 3000) (rfl) (by omega) (by omega)) dX10_isTerm_118 (fun H1 locs1 hat1 hsz1 hfr1 hT1 hL1 => ?_)
                    have hX_43 := hX_34.put hB hg_a (by omega) (jSup.own (i := 3) hg_nodes_39) hm_a hsz1 hfr1
                    have hM_43 := hM_34.put jExt.rf hrt_a (jSup.own (i := 3) hg_nodes_39) (by simp) hfr1
                    have hz_43 := hsz1.trans hz_34
                    have hT_43 := hT1.trans hT_34
                    have hS_43 := jS_put hS_34 hsz1 hfr1 (hX_34.2 _ _ hg_nodes_39).1 hL1
                    have hat_a_39_43 := hat_a_39.kept (hfr1 _ (jne hg_a hg_nodes_39 (by simp)))
                    have hat_kinds_39_43 := hat_kinds_39.kept (hfr1 _ (jne hg_kinds_39 hg_nodes_39 (by simp)))
                    have hat_values_39_43 := hat_values_39.kept (hfr1 _ (jne hg_values_39 hg_nodes_39 (by simp)))
                    have hat_told_39_43 := hat_told_39.kept (hfr1 _ (jne hg_told_39 hg_nodes_39 (by simp)))
                    clear hfr1 hsz1 hT1 hL1
                    have hat_nodes_39_43 : va_at (dC, dI) vwCl (nodes_39, .inl (ca 1, 3000, .inl (upd f_nodes_39 nc0.toNatClampNeg z_42))) H1 := hat1
                    clear hat1
                    refine lv_aload_n hx hb dX10_isTerm_119 rfl (lv_at hl 0 rfl) ?_
                    refine lv_bipush (v := 41) hx hb dX10_isTerm_120 (by decide) ?_
                    have he_46 : jB12e dC dI ca G0 a tk_34 at_34 nc_34 H1 := ⟨names_39, kinds_39, values_39, word_39, told_39, toldCount_39, terms_39, nodes_39, f_kinds_39, f_values_39, f_told_39, (upd f_nodes_39 nc0.toNatClampNeg z_42), hat_a_39_43, hat_kinds_39_43, hat_values_39_43, hat_told_39_43, hat_nodes_39_43, hg_kinds_39, hg_values_39, hg_told_39, hg_nodes_39, hg_names_39, by first | omega | assumption | (simp; done) | exact Or.inl rfl | exact Or.inr rfl, by first | omega | assumption | (simp; done) | exact Or.inl rfl | exact Or.inr rfl⟩
                    refine va_calli (A0 := jA base) (H0 := s.heap) (va_runV (As := [.int 41]) (rest := []) ⟨hx, hb, hml, hown, hts⟩ (tX10_isSign l dC dI ca base B hB G0 X H1 a 41 tk_34 at_34 nc_34) (cwV 1 hts gX10_isTerm_X10_isSign rfl rfl rfl (by decide +kernel) ⟨by rw [← hR]; show (0) + 1 ≤ ef + 3; omega, by rw [← hR]; show 8 + (3 + 11) + (0) ≤ 60 * ef + 120; omega⟩) ⟨fun a U g mk q => by obtain ⟨q0, q1, q2, qK, q9⟩ := q; exact ⟨q0, q1, q2, jG.calling g mk a qK, q9⟩, va_recv hK (jp_one hat_a_39_43) (ci := 12) (q0 := 0) rfl rfl, fun U hU hW => ⟨rfl, hU, hX_43, hG.step hW hU hS_43, hg_a, hm_a, he_46, by refine ⟨?_, ?_, ?_, ?_, ?_, ?_⟩ <;> omega⟩⟩ rfl rfl hl.1 rfl (lv_room (Nat.le_of_ble_eq_true rfl)) dX10_isTerm_122 ⟨Nat.zero_le _, Nat.zero_le _⟩) hS_43 (fun q _ h => h) (fun q h => h) (fun r_44 u t H1 locs1 ht hvm hr_44 hBb hz1 hk1 hS_45 => ?_)
                    obtain ⟨tk_45, at_45, nc_45⟩ := u
                    obtain ⟨hX_45, he_45, hM_450, hz_450, hT_450⟩ := hBb
                    rw [ht] at hX_45 he_45 hM_450 hz_450 hT_450
                    simp only at hr_44 he_45
                    have hM_45 := hM_43.tr0 hM_450 hz_43 (by intro r; simp)
                    have hz_45 := hz_450.trans hz_43
                    have hT_45 := hT_450.trans hT_43
                    clear hz1 hk1 hvm ht hM_450 hz_450 hT_450
                    obtain ⟨hr_44b, hr_44p⟩ := hr_44
                    have hr_44' := jb_01 hr_44b
                    rw [hQ]
                    exact W.zret (v := r_44) hx hb hr (jb_nz (hr_44b)) (fun t ht hW => ⟨⟨r_44, (tk_45, at_45, nc_45), rfl, ⟨(hr_44b), by refine ⟨?_, ?_, ?_, ?_, ?_, ?_⟩ <;> first | rfl | omega | (left; omega) | (right; omega) | exact Or.inl ⟨by decide, rfl⟩ | (simp only; omega)⟩, by rw [ht]; try exact hX_45, by rw [ht]; try exact he_45, by rw [ht]; try exact hM_45, by rw [ht]; try exact hz_45, by rw [ht]; try exact hT_45⟩, by rw [ht]; try exact hS_45.1, fun q h9 hq => by rw [ht]; try exact hS_45.2.1 q h9 hq⟩) hS_45.2.2 dX10_isTerm_125
                · skip
                  have c_32' : r_29.toInt = 0 := jb_ne_n (rfl) ((by decide)) c_32
                  refine lv_iconst (v := 0) hx hb dX10_isTerm_95 (by decide) ?_
                  rw [hQ]
                  exact W.zret (v := 0) hx hb hr (jb_nz (Or.inl rfl)) (fun t ht hW => ⟨⟨0, (tk_30, at_30, nc_30), rfl, ⟨(Or.inl rfl), by refine ⟨?_, ?_, ?_, ?_, ?_, ?_⟩ <;> first | rfl | omega | (left; omega) | (right; omega) | exact Or.inl ⟨by decide, rfl⟩ | (simp only; omega)⟩, by rw [ht]; try exact hX_30, by rw [ht]; try exact he_30, by rw [ht]; try exact hM_30, by rw [ht]; try exact hz_30, by rw [ht]; try exact hT_30⟩, by rw [ht]; try exact hS_30.1, fun q h9 hq => by rw [ht]; try exact hS_30.2.1 q h9 hq⟩) hS_30.2.2 dX10_isTerm_96
          exact L65 (2048 - (1 : Int32).toInt : Int).toNat.succ 1 tk_18 at_18 nc_18 _ _ he_18 hX_18 hS_18 hM_18 hz_18 hT_18 (by refine ⟨?_, ?_, ?_, ?_, ?_, ?_, ?_⟩ <;> omega) (by omega) _ (lv_sub hl [3, 4, 5, 2, 0] rfl)
        · skip
          have c_22' : dp.toInt ≥ 12 := jb_lt_n (rfl) ((by decide)) c_22
          refine lv_iconst (v := 0) hx hb dX10_isTerm_60 (by decide) ?_
          rw [hQ]
          exact W.zret (v := 0) hx hb hr (jb_nz (Or.inl rfl)) (fun t ht hW => ⟨⟨0, (tk_18, at_18, nc_18), rfl, ⟨(Or.inl rfl), by refine ⟨?_, ?_, ?_, ?_, ?_, ?_⟩ <;> first | rfl | omega | (left; omega) | (right; omega) | exact Or.inl ⟨by decide, rfl⟩ | (simp only; omega)⟩, by rw [ht]; try exact hX_18, by rw [ht]; try exact he_18, by rw [ht]; try exact hM_18, by rw [ht]; try exact hz_18, by rw [ht]; try exact hT_18⟩, by rw [ht]; try exact hS_18.1, fun q h9 hq => by rw [ht]; try exact hS_18.2.1 q h9 hq⟩) hS_18.2.2 dX10_isTerm_61
      · skip
        have c_21' : r_17.toInt ≠ 40 := jb_eq_n (rfl) ((by decide)) c_21
        refine lv_iconst (v := 1) hx hb dX10_isTerm_52 (by decide) ?_
        rw [hQ]
        exact W.zret (v := 1) hx hb hr (jb_nz (Or.inr rfl)) (fun t ht hW => ⟨⟨1, (tk_18, at_18, nc_18), rfl, ⟨(Or.inr rfl), by refine ⟨?_, ?_, ?_, ?_, ?_, ?_⟩ <;> first | rfl | omega | (left; omega) | (right; omega) | exact Or.inl ⟨by decide, rfl⟩ | (simp only; omega)⟩, by rw [ht]; try exact hX_18, by rw [ht]; try exact he_18, by rw [ht]; try exact hM_18, by rw [ht]; try exact hz_18, by rw [ht]; try exact hT_18⟩, by rw [ht]; try exact hS_18.1, fun q h9 hq => by rw [ht]; try exact hS_18.2.1 q h9 hq⟩) hS_18.2.2 dX10_isTerm_53
    · skip
      have c_16' : r_13.toInt = 0 := jb_ne_n (rfl) ((by decide)) c_16
      refine lv_iconst (v := 0) hx hb dX10_isTerm_41 (by decide) ?_
      rw [hQ]
      exact W.zret (v := 0) hx hb hr (jb_nz (Or.inl rfl)) (fun t ht hW => ⟨⟨0, (tk_14, at_14, nc_14), rfl, ⟨(Or.inl rfl), by refine ⟨?_, ?_, ?_, ?_, ?_, ?_⟩ <;> first | rfl | omega | (left; omega) | (right; omega) | exact Or.inl ⟨by decide, rfl⟩ | (simp only; omega)⟩, by rw [ht]; try exact hX_14, by rw [ht]; try exact he_14, by rw [ht]; try exact hM_14, by rw [ht]; try exact hz_14, by rw [ht]; try exact hT_14⟩, by rw [ht]; try exact hS_14.1, fun q h9 hq => by rw [ht]; try exact hS_14.2.1 q h9 hq⟩) hS_14.2.2 dX10_isTerm_42
