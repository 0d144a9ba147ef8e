def jB12e (dC : Nat → ClassId) (dI : Nat → Nat → Nat) (ca : Nat → ClassId) (G : jT) (a : Nat) (x_tokens x_at x_nodeCount : Int32) (H : Heap) : Prop := ∃ (x_names : Nat) (x_kinds : Nat) (x_values : Nat) (x_word : Int32) (x_told : Nat) (x_toldCount : Int32) (x_terms : Int32) (x_nodes : Nat) (f_kinds : Nat → Int32) (f_values : Nat → Int32) (f_told : Nat → Int32) (f_nodes : Nat → Int32), va_at (dC, dI) vwCl (a, .inr (12, [.ref x_names, .ref x_kinds, .ref x_values, .int x_tokens, .int x_at, .int x_word, .ref x_told, .int x_toldCount, .int x_terms, .ref x_nodes, .int x_nodeCount])) H ∧ va_at (dC, dI) vwCl (x_kinds, .inl (ca 1, 1500, .inl f_kinds)) H ∧ va_at (dC, dI) vwCl (x_values, .inl (ca 1, 1500, .inl f_values)) H ∧ va_at (dC, dI) vwCl (x_told, .inl (ca 1, 3, .inl f_told)) H ∧ va_at (dC, dI) vwCl (x_nodes, .inl (ca 1, 3000, .inl f_nodes)) H ∧ G x_kinds = some (1000, a) ∧ G x_values = some (1001, a) ∧ G x_told = some (1002, a) ∧ G x_nodes = some (1003, a) ∧ G x_names = some (8, 0) ∧ 0 ≤ x_toldCount.toInt ∧ x_toldCount.toInt ≤ 3
def jB12 (dC : Nat → ClassId) (dI : Nat → Nat → Nat) (ca : Nat → ClassId) (G : jT) (a : Nat) (H : Heap) : Prop := ∃ (x_tokens x_at x_nodeCount : Int32), jB12e dC dI ca G a x_tokens x_at x_nodeCount H ∧ 0 ≤ x_tokens.toInt ∧ x_tokens.toInt ≤ 1500 ∧ 0 ≤ x_at.toInt ∧ x_at.toInt ≤ x_tokens.toInt + 3 ∧ 0 ≤ x_nodeCount.toInt ∧ x_nodeCount.toInt ≤ 3000
abbrev wsX100 : List Cond := u_ws RX10 TX10 11
abbrev cX10_add : ByteArray := prog_12_method_4_code
def yX10_add : MethodName := ⟨RX10, "add", "(II)V"⟩
abbrev cX10_peek : ByteArray := prog_12_method_6_code
def yX10_peek : MethodName := ⟨RX10, "peek", "()I"⟩
abbrev cX10_peekName : ByteArray := prog_12_method_7_code
def yX10_peekName : MethodName := ⟨RX10, "peekName", "()I"⟩
abbrev cX10_isSign : ByteArray := prog_12_method_8_code
def yX10_isSign : MethodName := ⟨RX10, "isSign", "(I)Z"⟩
abbrev cX10_isName : ByteArray := prog_12_method_9_code
def yX10_isName : MethodName := ⟨RX10, "isName", "()Z"⟩
abbrev cX10_isArity : ByteArray := prog_12_method_10_code
def yX10_isArity : MethodName := ⟨RX10, "isArity", "()Z"⟩
abbrev cX10_addNode : ByteArray := prog_12_method_11_code
def yX10_addNode : MethodName := ⟨RX10, "addNode", "(I)Z"⟩
abbrev cX10_insertNode : ByteArray := prog_12_method_12_code
def yX10_insertNode : MethodName := ⟨RX10, "insertNode", "(II)Z"⟩
def wsX10_add : List Cond := .code yX10_add cX10_add 3 none :: ([.fieldLink RX10 28 "ProofServer$Syntax" "tokens" "I", .fieldLink RX10 9 "ProofServer$Syntax" "kinds" "[I", .fieldLink RX10 15 "ProofServer$Syntax" "values" "[I"] ++ wsX100)
def wsX10_peek : List Cond := .code yX10_peek cX10_peek 1 (some .int) :: ([.fieldLink RX10 83 "ProofServer$Syntax" "at" "I", .fieldLink RX10 28 "ProofServer$Syntax" "tokens" "I", .fieldLink RX10 9 "ProofServer$Syntax" "kinds" "[I"] ++ wsX100)
def wsX10_peekName : List Cond := .code yX10_peekName cX10_peekName 1 (some .int) :: ([.fieldLink RX10 15 "ProofServer$Syntax" "values" "[I", .fieldLink RX10 83 "ProofServer$Syntax" "at" "I", .methodLink RX10 115 yX10_peek, .instanceMethod yX10_peek, .selects RX10 yX10_peek yX10_peek, .initialized RX10, .code yX10_peek cX10_peek 1 (some .int), .fieldLink RX10 28 "ProofServer$Syntax" "tokens" "I", .fieldLink RX10 9 "ProofServer$Syntax" "kinds" "[I"] ++ wsX100)
def wsX10_isName : List Cond := .code yX10_isName cX10_isName 2 (some .boolean) :: ([.fieldLink RX10 83 "ProofServer$Syntax" "at" "I", .fieldLink RX10 86 "ProofServer$Syntax" "toldCount" "I", .fieldLink RX10 18 "ProofServer$Syntax" "told" "[I", .methodLink RX10 119 yX10_peekName, .instanceMethod yX10_peekName, .selects RX10 yX10_peekName yX10_peekName, .initialized RX10, .code yX10_peekName cX10_peekName 1 (some .int), .fieldLink RX10 15 "ProofServer$Syntax" "values" "[I", .methodLink RX10 115 yX10_peek, .instanceMethod yX10_peek, .selects RX10 yX10_peek yX10_peek, .code yX10_peek cX10_peek 1 (some .int), .fieldLink RX10 28 "ProofServer$Syntax" "tokens" "I", .fieldLink RX10 9 "ProofServer$Syntax" "kinds" "[I"] ++ wsX100)
def wsX10_isArity : List Cond := .code yX10_isArity cX10_isArity 1 (some .boolean) :: ([.fieldLink RX10 15 "ProofServer$Syntax" "values" "[I", .fieldLink RX10 83 "ProofServer$Syntax" "at" "I", .fieldLink RX10 92 "ProofServer$Syntax" "terms" "I", .methodLink RX10 115 yX10_peek, .instanceMethod yX10_peek, .selects RX10 yX10_peek yX10_peek, .initialized RX10, .code yX10_peek cX10_peek 1 (some .int), .fieldLink RX10 28 "ProofServer$Syntax" "tokens" "I", .fieldLink RX10 9 "ProofServer$Syntax" "kinds" "[I"] ++ wsX100)
def wsX10_isSign : List Cond := .code yX10_isSign cX10_isSign 3 (some .boolean) :: ([.fieldLink RX10 83 "ProofServer$Syntax" "at" "I", .fieldLink RX10 28 "ProofServer$Syntax" "tokens" "I", .fieldLink RX10 9 "ProofServer$Syntax" "kinds" "[I"] ++ wsX100)
def wsX10_insertNode : List Cond := .code yX10_insertNode cX10_insertNode 4 (some .boolean) :: ([.fieldLink RX10 89 "ProofServer$Syntax" "nodeCount" "I", .fieldLink RX10 21 "ProofServer$Syntax" "nodes" "[I"] ++ wsX100)
def wsX10_addNode : List Cond := .code yX10_addNode cX10_addNode 2 (some .boolean) :: ([.fieldLink RX10 89 "ProofServer$Syntax" "nodeCount" "I", .fieldLink RX10 21 "ProofServer$Syntax" "nodes" "[I"] ++ wsX100)
theorem dX10_add_0 : decode cX10_add 0 = .ok (.aload_n 0, 1) := by decide +kernel
theorem dX10_add_1 : decode cX10_add 1 = .ok (.getfield 28, 3) := by decide +kernel
theorem dX10_add_4 : decode cX10_add 4 = .ok (.sipush 1500, 3) := by decide +kernel
theorem dX10_add_7 : decode cX10_add 7 = .ok (.if_icmp .ge 33, 3) := by decide +kernel
theorem dX10_add_10 : decode cX10_add 10 = .ok (.aload_n 0, 1) := by decide +kernel
theorem dX10_add_11 : decode cX10_add 11 = .ok (.getfield 9, 3) := by decide +kernel
theorem dX10_add_14 : decode cX10_add 14 = .ok (.aload_n 0, 1) := by decide +kernel
theorem dX10_add_15 : decode cX10_add 15 = .ok (.getfield 28, 3) := by decide +kernel
theorem dX10_add_18 : decode cX10_add 18 = .ok (.iload_n 1, 1) := by decide +kernel
theorem dX10_add_19 : decode cX10_add 19 = .ok (.iastore, 1) := by decide +kernel
theorem dX10_add_20 : decode cX10_add 20 = .ok (.aload_n 0, 1) := by decide +kernel
theorem dX10_add_21 : decode cX10_add 21 = .ok (.getfield 15, 3) := by decide +kernel
theorem dX10_add_24 : decode cX10_add 24 = .ok (.aload_n 0, 1) := by decide +kernel
theorem dX10_add_25 : decode cX10_add 25 = .ok (.getfield 28, 3) := by decide +kernel
theorem dX10_add_28 : decode cX10_add 28 = .ok (.iload_n 2, 1) := by decide +kernel
theorem dX10_add_29 : decode cX10_add 29 = .ok (.iastore, 1) := by decide +kernel
theorem dX10_add_30 : decode cX10_add 30 = .ok (.aload_n 0, 1) := by decide +kernel
theorem dX10_add_31 : decode cX10_add 31 = .ok (.dup, 1) := by decide +kernel
theorem dX10_add_32 : decode cX10_add 32 = .ok (.getfield 28, 3) := by decide +kernel
theorem dX10_add_35 : decode cX10_add 35 = .ok (.iconst 1, 1) := by decide +kernel
theorem dX10_add_36 : decode cX10_add 36 = .ok (.iadd, 1) := by decide +kernel
theorem dX10_add_37 : decode cX10_add 37 = .ok (.putfield 28, 3) := by decide +kernel
theorem dX10_add_40 : decode cX10_add 40 = .ok (.return_, 1) := by decide +kernel
theorem dX10_peek_0 : decode cX10_peek 0 = .ok (.aload_n 0, 1) := by decide +kernel
theorem dX10_peek_1 : decode cX10_peek 1 = .ok (.getfield 83, 3) := by decide +kernel
theorem dX10_peek_4 : decode cX10_peek 4 = .ok (.aload_n 0, 1) := by decide +kernel
theorem dX10_peek_5 : decode cX10_peek 5 = .ok (.getfield 28, 3) := by decide +kernel
theorem dX10_peek_8 : decode cX10_peek 8 = .ok (.if_icmp .ge 25, 3) := by decide +kernel
theorem dX10_peek_11 : decode cX10_peek 11 = .ok (.aload_n 0, 1) := by decide +kernel
theorem dX10_peek_12 : decode cX10_peek 12 = .ok (.getfield 83, 3) := by decide +kernel
theorem dX10_peek_15 : decode cX10_peek 15 = .ok (.sipush 1500, 3) := by decide +kernel
theorem dX10_peek_18 : decode cX10_peek 18 = .ok (.if_icmp .ge 15, 3) := by decide +kernel
theorem dX10_peek_21 : decode cX10_peek 21 = .ok (.aload_n 0, 1) := by decide +kernel
theorem dX10_peek_22 : decode cX10_peek 22 = .ok (.getfield 9, 3) := by decide +kernel
theorem dX10_peek_25 : decode cX10_peek 25 = .ok (.aload_n 0, 1) := by decide +kernel
theorem dX10_peek_26 : decode cX10_peek 26 = .ok (.getfield 83, 3) := by decide +kernel
theorem dX10_peek_29 : decode cX10_peek 29 = .ok (.iaload, 1) := by decide +kernel
theorem dX10_peek_30 : decode cX10_peek 30 = .ok (.goto 4, 3) := by decide +kernel
theorem dX10_peek_33 : decode cX10_peek 33 = .ok (.iconst 0, 1) := by decide +kernel
theorem dX10_peek_34 : decode cX10_peek 34 = .ok (.ireturn, 1) := by decide +kernel
set_option maxRecDepth 20000 in
theorem ggX10_peekName_X10_peek : GoodIn wsX10_peekName wsX10_peek := goodIn_r _ [7, 2, 8, 9, 10, 11, 12, 13, 14, 15, 16, 17, 18, 19, 20] (by decide +kernel) (by decide +kernel)
set_option maxRecDepth 20000 in
theorem gX10_peekName_X10_peek : GoodIn wsX10_peekName (wsV RX10 115 RX10 yX10_peek wsX10_peek) := goodIn_app (goodIn_of _ (by decide +kernel)) ggX10_peekName_X10_peek
theorem dX10_peekName_0 : decode cX10_peekName 0 = .ok (.aload_n 0, 1) := by decide +kernel
theorem dX10_peekName_1 : decode cX10_peekName 1 = .ok (.invokevirtual 115, 3) := by decide +kernel
theorem dX10_peekName_4 : decode cX10_peekName 4 = .ok (.bipush 110, 2) := by decide +kernel
theorem dX10_peekName_6 : decode cX10_peekName 6 = .ok (.if_icmp .ne 15, 3) := by decide +kernel
theorem dX10_peekName_9 : decode cX10_peekName 9 = .ok (.aload_n 0, 1) := by decide +kernel
theorem dX10_peekName_10 : decode cX10_peekName 10 = .ok (.getfield 15, 3) := by decide +kernel
theorem dX10_peekName_13 : decode cX10_peekName 13 = .ok (.aload_n 0, 1) := by decide +kernel
theorem dX10_peekName_14 : decode cX10_peekName 14 = .ok (.getfield 83, 3) := by decide +kernel
theorem dX10_peekName_17 : decode cX10_peekName 17 = .ok (.iaload, 1) := by decide +kernel
theorem dX10_peekName_18 : decode cX10_peekName 18 = .ok (.goto 4, 3) := by decide +kernel
theorem dX10_peekName_21 : decode cX10_peekName 21 = .ok (.iconst (-1), 1) := by decide +kernel
theorem dX10_peekName_22 : decode cX10_peekName 22 = .ok (.ireturn, 1) := by decide +kernel
theorem dX10_isSign_0 : decode cX10_isSign 0 = .ok (.aload_n 0, 1) := by decide +kernel
theorem dX10_isSign_1 : decode cX10_isSign 1 = .ok (.getfield 83, 3) := by decide +kernel
theorem dX10_isSign_4 : decode cX10_isSign 4 = .ok (.aload_n 0, 1) := by decide +kernel
theorem dX10_isSign_5 : decode cX10_isSign 5 = .ok (.getfield 28, 3) := by decide +kernel
theorem dX10_isSign_8 : decode cX10_isSign 8 = .ok (.if_icmp .ge 30, 3) := by decide +kernel
theorem dX10_isSign_11 : decode cX10_isSign 11 = .ok (.aload_n 0, 1) := by decide +kernel
theorem dX10_isSign_12 : decode cX10_isSign 12 = .ok (.getfield 83, 3) := by decide +kernel
theorem dX10_isSign_15 : decode cX10_isSign 15 = .ok (.sipush 1500, 3) := by decide +kernel
theorem dX10_isSign_18 : decode cX10_isSign 18 = .ok (.if_icmp .ge 20, 3) := by decide +kernel
theorem dX10_isSign_21 : decode cX10_isSign 21 = .ok (.aload_n 0, 1) := by decide +kernel
theorem dX10_isSign_22 : decode cX10_isSign 22 = .ok (.getfield 9, 3) := by decide +kernel
theorem dX10_isSign_25 : decode cX10_isSign 25 = .ok (.aload_n 0, 1) := by decide +kernel
theorem dX10_isSign_26 : decode cX10_isSign 26 = .ok (.getfield 83, 3) := by decide +kernel
theorem dX10_isSign_29 : decode cX10_isSign 29 = .ok (.iaload, 1) := by decide +kernel
theorem dX10_isSign_30 : decode cX10_isSign 30 = .ok (.iload_n 1, 1) := by decide +kernel
theorem dX10_isSign_31 : decode cX10_isSign 31 = .ok (.if_icmp .ne 7, 3) := by decide +kernel
theorem dX10_isSign_34 : decode cX10_isSign 34 = .ok (.iconst 1, 1) := by decide +kernel
theorem dX10_isSign_35 : decode cX10_isSign 35 = .ok (.goto 4, 3) := by decide +kernel
theorem dX10_isSign_38 : decode cX10_isSign 38 = .ok (.iconst 0, 1) := by decide +kernel
theorem dX10_isSign_39 : decode cX10_isSign 39 = .ok (.istore_n 2, 1) := by decide +kernel
theorem dX10_isSign_40 : decode cX10_isSign 40 = .ok (.aload_n 0, 1) := by decide +kernel
theorem dX10_isSign_41 : decode cX10_isSign 41 = .ok (.dup, 1) := by decide +kernel
theorem dX10_isSign_42 : decode cX10_isSign 42 = .ok (.getfield 83, 3) := by decide +kernel
theorem dX10_isSign_45 : decode cX10_isSign 45 = .ok (.iconst 1, 1) := by decide +kernel
theorem dX10_isSign_46 : decode cX10_isSign 46 = .ok (.iadd, 1) := by decide +kernel
theorem dX10_isSign_47 : decode cX10_isSign 47 = .ok (.putfield 83, 3) := by decide +kernel
theorem dX10_isSign_50 : decode cX10_isSign 50 = .ok (.iload_n 2, 1) := by decide +kernel
theorem dX10_isSign_51 : decode cX10_isSign 51 = .ok (.ireturn, 1) := by decide +kernel
set_option maxRecDepth 20000 in
theorem ggX10_isName_X10_peekName : GoodIn wsX10_isName wsX10_peekName := goodIn_r _ [8, 9, 1, 10, 11, 12, 7, 13, 14, 15, 16, 17, 18, 19, 20, 21, 22, 23, 24, 25, 26] (by decide +kernel) (by decide +kernel)
set_option maxRecDepth 20000 in
theorem gX10_isName_X10_peekName : GoodIn wsX10_isName (wsV RX10 119 RX10 yX10_peekName wsX10_peekName) := goodIn_app (goodIn_of _ (by decide +kernel)) ggX10_isName_X10_peekName
theorem dX10_isName_0 : decode cX10_isName 0 = .ok (.aload_n 0, 1) := by decide +kernel
theorem dX10_isName_1 : decode cX10_isName 1 = .ok (.invokevirtual 119, 3) := by decide +kernel
theorem dX10_isName_4 : decode cX10_isName 4 = .ok (.istore_n 1, 1) := by decide +kernel
theorem dX10_isName_5 : decode cX10_isName 5 = .ok (.aload_n 0, 1) := by decide +kernel
theorem dX10_isName_6 : decode cX10_isName 6 = .ok (.dup, 1) := by decide +kernel
theorem dX10_isName_7 : decode cX10_isName 7 = .ok (.getfield 83, 3) := by decide +kernel
theorem dX10_isName_10 : decode cX10_isName 10 = .ok (.iconst 1, 1) := by decide +kernel
theorem dX10_isName_11 : decode cX10_isName 11 = .ok (.iadd, 1) := by decide +kernel
theorem dX10_isName_12 : decode cX10_isName 12 = .ok (.putfield 83, 3) := by decide +kernel
theorem dX10_isName_15 : decode cX10_isName 15 = .ok (.iload_n 1, 1) := by decide +kernel
theorem dX10_isName_16 : decode cX10_isName 16 = .ok (.iconst 2, 1) := by decide +kernel
theorem dX10_isName_17 : decode cX10_isName 17 = .ok (.if_icmp .le 15, 3) := by decide +kernel
theorem dX10_isName_20 : decode cX10_isName 20 = .ok (.aload_n 0, 1) := by decide +kernel
theorem dX10_isName_21 : decode cX10_isName 21 = .ok (.getfield 86, 3) := by decide +kernel
theorem dX10_isName_24 : decode cX10_isName 24 = .ok (.aload_n 0, 1) := by decide +kernel
theorem dX10_isName_25 : decode cX10_isName 25 = .ok (.getfield 18, 3) := by decide +kernel
theorem dX10_isName_28 : decode cX10_isName 28 = .ok (.arraylength, 1) := by decide +kernel
theorem dX10_isName_29 : decode cX10_isName 29 = .ok (.if_icmp .lt 5, 3) := by decide +kernel
theorem dX10_isName_32 : decode cX10_isName 32 = .ok (.iconst 0, 1) := by decide +kernel
theorem dX10_isName_33 : decode cX10_isName 33 = .ok (.ireturn, 1) := by decide +kernel
theorem dX10_isName_34 : decode cX10_isName 34 = .ok (.aload_n 0, 1) := by decide +kernel
theorem dX10_isName_35 : decode cX10_isName 35 = .ok (.getfield 18, 3) := by decide +kernel
theorem dX10_isName_38 : decode cX10_isName 38 = .ok (.aload_n 0, 1) := by decide +kernel
theorem dX10_isName_39 : decode cX10_isName 39 = .ok (.getfield 86, 3) := by decide +kernel
theorem dX10_isName_42 : decode cX10_isName 42 = .ok (.iload_n 1, 1) := by decide +kernel
theorem dX10_isName_43 : decode cX10_isName 43 = .ok (.iastore, 1) := by decide +kernel
theorem dX10_isName_44 : decode cX10_isName 44 = .ok (.aload_n 0, 1) := by decide +kernel
theorem dX10_isName_45 : decode cX10_isName 45 = .ok (.dup, 1) := by decide +kernel
theorem dX10_isName_46 : decode cX10_isName 46 = .ok (.getfield 86, 3) := by decide +kernel
theorem dX10_isName_49 : decode cX10_isName 49 = .ok (.iconst 1, 1) := by decide +kernel
theorem dX10_isName_50 : decode cX10_isName 50 = .ok (.iadd, 1) := by decide +kernel
theorem dX10_isName_51 : decode cX10_isName 51 = .ok (.putfield 86, 3) := by decide +kernel
theorem dX10_isName_54 : decode cX10_isName 54 = .ok (.iconst 1, 1) := by decide +kernel
theorem dX10_isName_55 : decode cX10_isName 55 = .ok (.ireturn, 1) := by decide +kernel
set_option maxRecDepth 20000 in
theorem ggX10_isArity_X10_peek : GoodIn wsX10_isArity wsX10_peek := goodIn_r _ [8, 2, 9, 10, 11, 12, 13, 14, 15, 16, 17, 18, 19, 20, 21] (by decide +kernel) (by decide +kernel)
set_option maxRecDepth 20000 in
theorem gX10_isArity_X10_peek : GoodIn wsX10_isArity (wsV RX10 115 RX10 yX10_peek wsX10_peek) := goodIn_app (goodIn_of _ (by decide +kernel)) ggX10_isArity_X10_peek
theorem dX10_isArity_0 : decode cX10_isArity 0 = .ok (.aload_n 0, 1) := by decide +kernel
theorem dX10_isArity_1 : decode cX10_isArity 1 = .ok (.aload_n 0, 1) := by decide +kernel
theorem dX10_isArity_2 : decode cX10_isArity 2 = .ok (.invokevirtual 115, 3) := by decide +kernel
theorem dX10_isArity_5 : decode cX10_isArity 5 = .ok (.bipush 100, 2) := by decide +kernel
theorem dX10_isArity_7 : decode cX10_isArity 7 = .ok (.if_icmp .ne 15, 3) := by decide +kernel
theorem dX10_isArity_10 : decode cX10_isArity 10 = .ok (.aload_n 0, 1) := by decide +kernel
theorem dX10_isArity_11 : decode cX10_isArity 11 = .ok (.getfield 15, 3) := by decide +kernel
theorem dX10_isArity_14 : decode cX10_isArity 14 = .ok (.aload_n 0, 1) := by decide +kernel
theorem dX10_isArity_15 : decode cX10_isArity 15 = .ok (.getfield 83, 3) := by decide +kernel
theorem dX10_isArity_18 : decode cX10_isArity 18 = .ok (.iaload, 1) := by decide +kernel
theorem dX10_isArity_19 : decode cX10_isArity 19 = .ok (.goto 4, 3) := by decide +kernel
theorem dX10_isArity_22 : decode cX10_isArity 22 = .ok (.iconst (-1), 1) := by decide +kernel
theorem dX10_isArity_23 : decode cX10_isArity 23 = .ok (.putfield 92, 3) := by decide +kernel
theorem dX10_isArity_26 : decode cX10_isArity 26 = .ok (.aload_n 0, 1) := by decide +kernel
theorem dX10_isArity_27 : decode cX10_isArity 27 = .ok (.dup, 1) := by decide +kernel
theorem dX10_isArity_28 : decode cX10_isArity 28 = .ok (.getfield 83, 3) := by decide +kernel
theorem dX10_isArity_31 : decode cX10_isArity 31 = .ok (.iconst 1, 1) := by decide +kernel
theorem dX10_isArity_32 : decode cX10_isArity 32 = .ok (.iadd, 1) := by decide +kernel
theorem dX10_isArity_33 : decode cX10_isArity 33 = .ok (.putfield 83, 3) := by decide +kernel
theorem dX10_isArity_36 : decode cX10_isArity 36 = .ok (.aload_n 0, 1) := by decide +kernel
theorem dX10_isArity_37 : decode cX10_isArity 37 = .ok (.getfield 92, 3) := by decide +kernel
theorem dX10_isArity_40 : decode cX10_isArity 40 = .ok (.ifCond .lt 15, 3) := by decide +kernel
theorem dX10_isArity_43 : decode cX10_isArity 43 = .ok (.aload_n 0, 1) := by decide +kernel
theorem dX10_isArity_44 : decode cX10_isArity 44 = .ok (.getfield 92, 3) := by decide +kernel
theorem dX10_isArity_47 : decode cX10_isArity 47 = .ok (.iconst 3, 1) := by decide +kernel
theorem dX10_isArity_48 : decode cX10_isArity 48 = .ok (.if_icmp .gt 7, 3) := by decide +kernel
theorem dX10_isArity_51 : decode cX10_isArity 51 = .ok (.iconst 1, 1) := by decide +kernel
theorem dX10_isArity_52 : decode cX10_isArity 52 = .ok (.goto 4, 3) := by decide +kernel
theorem dX10_isArity_55 : decode cX10_isArity 55 = .ok (.iconst 0, 1) := by decide +kernel
theorem dX10_isArity_56 : decode cX10_isArity 56 = .ok (.ireturn, 1) := by decide +kernel
theorem dX10_addNode_0 : decode cX10_addNode 0 = .ok (.aload_n 0, 1) := by decide +kernel
theorem dX10_addNode_1 : decode cX10_addNode 1 = .ok (.getfield 89, 3) := by decide +kernel
theorem dX10_addNode_4 : decode cX10_addNode 4 = .ok (.sipush 3000, 3) := by decide +kernel
theorem dX10_addNode_7 : decode cX10_addNode 7 = .ok (.if_icmp .lt 5, 3) := by decide +kernel
theorem dX10_addNode_10 : decode cX10_addNode 10 = .ok (.iconst 0, 1) := by decide +kernel
theorem dX10_addNode_11 : decode cX10_addNode 11 = .ok (.ireturn, 1) := by decide +kernel
theorem dX10_addNode_12 : decode cX10_addNode 12 = .ok (.aload_n 0, 1) := by decide +kernel
theorem dX10_addNode_13 : decode cX10_addNode 13 = .ok (.getfield 21, 3) := by decide +kernel
theorem dX10_addNode_16 : decode cX10_addNode 16 = .ok (.aload_n 0, 1) := by decide +kernel
theorem dX10_addNode_17 : decode cX10_addNode 17 = .ok (.getfield 89, 3) := by decide +kernel
theorem dX10_addNode_20 : decode cX10_addNode 20 = .ok (.iload_n 1, 1) := by decide +kernel
theorem dX10_addNode_21 : decode cX10_addNode 21 = .ok (.iastore, 1) := by decide +kernel
theorem dX10_addNode_22 : decode cX10_addNode 22 = .ok (.aload_n 0, 1) := by decide +kernel
theorem dX10_addNode_23 : decode cX10_addNode 23 = .ok (.dup, 1) := by decide +kernel
theorem dX10_addNode_24 : decode cX10_addNode 24 = .ok (.getfield 89, 3) := by decide +kernel
theorem dX10_addNode_27 : decode cX10_addNode 27 = .ok (.iconst 1, 1) := by decide +kernel
theorem dX10_addNode_28 : decode cX10_addNode 28 = .ok (.iadd, 1) := by decide +kernel
theorem dX10_addNode_29 : decode cX10_addNode 29 = .ok (.putfield 89, 3) := by decide +kernel
theorem dX10_addNode_32 : decode cX10_addNode 32 = .ok (.iconst 1, 1) := by decide +kernel
theorem dX10_addNode_33 : decode cX10_addNode 33 = .ok (.ireturn, 1) := by decide +kernel
theorem dX10_insertNode_0 : decode cX10_insertNode 0 = .ok (.iload_n 1, 1) := by decide +kernel
theorem dX10_insertNode_1 : decode cX10_insertNode 1 = .ok (.ifCond .lt 21, 3) := by decide +kernel
theorem dX10_insertNode_4 : decode cX10_insertNode 4 = .ok (.iload_n 1, 1) := by decide +kernel
theorem dX10_insertNode_5 : decode cX10_insertNode 5 = .ok (.aload_n 0, 1) := by decide +kernel
theorem dX10_insertNode_6 : decode cX10_insertNode 6 = .ok (.getfield 89, 3) := by decide +kernel
theorem dX10_insertNode_9 : decode cX10_insertNode 9 = .ok (.if_icmp .gt 13, 3) := by decide +kernel
theorem dX10_insertNode_12 : decode cX10_insertNode 12 = .ok (.aload_n 0, 1) := by decide +kernel
theorem dX10_insertNode_13 : decode cX10_insertNode 13 = .ok (.getfield 89, 3) := by decide +kernel
theorem dX10_insertNode_16 : decode cX10_insertNode 16 = .ok (.sipush 3000, 3) := by decide +kernel
theorem dX10_insertNode_19 : decode cX10_insertNode 19 = .ok (.if_icmp .lt 5, 3) := by decide +kernel
theorem dX10_insertNode_22 : decode cX10_insertNode 22 = .ok (.iconst 0, 1) := by decide +kernel
theorem dX10_insertNode_23 : decode cX10_insertNode 23 = .ok (.ireturn, 1) := by decide +kernel
theorem dX10_insertNode_24 : decode cX10_insertNode 24 = .ok (.aload_n 0, 1) := by decide +kernel
theorem dX10_insertNode_25 : decode cX10_insertNode 25 = .ok (.getfield 89, 3) := by decide +kernel
theorem dX10_insertNode_28 : decode cX10_insertNode 28 = .ok (.istore_n 3, 1) := by decide +kernel
theorem dX10_insertNode_29 : decode cX10_insertNode 29 = .ok (.iload_n 3, 1) := by decide +kernel
theorem dX10_insertNode_30 : decode cX10_insertNode 30 = .ok (.iload_n 1, 1) := by decide +kernel
theorem dX10_insertNode_31 : decode cX10_insertNode 31 = .ok (.if_icmp .le 23, 3) := by decide +kernel
theorem dX10_insertNode_34 : decode cX10_insertNode 34 = .ok (.aload_n 0, 1) := by decide +kernel
theorem dX10_insertNode_35 : decode cX10_insertNode 35 = .ok (.getfield 21, 3) := by decide +kernel
theorem dX10_insertNode_38 : decode cX10_insertNode 38 = .ok (.iload_n 3, 1) := by decide +kernel
theorem dX10_insertNode_39 : decode cX10_insertNode 39 = .ok (.aload_n 0, 1) := by decide +kernel
theorem dX10_insertNode_40 : decode cX10_insertNode 40 = .ok (.getfield 21, 3) := by decide +kernel
theorem dX10_insertNode_43 : decode cX10_insertNode 43 = .ok (.iload_n 3, 1) := by decide +kernel
theorem dX10_insertNode_44 : decode cX10_insertNode 44 = .ok (.iconst 1, 1) := by decide +kernel
theorem dX10_insertNode_45 : decode cX10_insertNode 45 = .ok (.isub, 1) := by decide +kernel
theorem dX10_insertNode_46 : decode cX10_insertNode 46 = .ok (.iaload, 1) := by decide +kernel
theorem dX10_insertNode_47 : decode cX10_insertNode 47 = .ok (.iastore, 1) := by decide +kernel
theorem dX10_insertNode_48 : decode cX10_insertNode 48 = .ok (.iinc 3 (-1), 3) := by decide +kernel
theorem dX10_insertNode_51 : decode cX10_insertNode 51 = .ok (.goto (-22), 3) := by decide +kernel
theorem dX10_insertNode_54 : decode cX10_insertNode 54 = .ok (.aload_n 0, 1) := by decide +kernel
theorem dX10_insertNode_55 : decode cX10_insertNode 55 = .ok (.getfield 21, 3) := by decide +kernel
theorem dX10_insertNode_58 : decode cX10_insertNode 58 = .ok (.iload_n 1, 1) := by decide +kernel
theorem dX10_insertNode_59 : decode cX10_insertNode 59 = .ok (.iload_n 2, 1) := by decide +kernel
theorem dX10_insertNode_60 : decode cX10_insertNode 60 = .ok (.iastore, 1) := by decide +kernel
theorem dX10_insertNode_61 : decode cX10_insertNode 61 = .ok (.aload_n 0, 1) := by decide +kernel
theorem dX10_insertNode_62 : decode cX10_insertNode 62 = .ok (.dup, 1) := by decide +kernel
theorem dX10_insertNode_63 : decode cX10_insertNode 63 = .ok (.getfield 89, 3) := by decide +kernel
theorem dX10_insertNode_66 : decode cX10_insertNode 66 = .ok (.iconst 1, 1) := by decide +kernel
theorem dX10_insertNode_67 : decode cX10_insertNode 67 = .ok (.iadd, 1) := by decide +kernel
theorem dX10_insertNode_68 : decode cX10_insertNode 68 = .ok (.putfield 89, 3) := by decide +kernel
theorem dX10_insertNode_71 : decode cX10_insertNode 71 = .ok (.iconst 1, 1) := by decide +kernel
theorem dX10_insertNode_72 : decode cX10_insertNode 72 = .ok (.ireturn, 1) := by decide +kernel
set_option maxHeartbeats 4000000 in
set_option maxRecDepth 20000 in
theorem tX10_peek (l : Launch) (dC : Nat → ClassId) (dI : Nat → Nat → Nat) (ca : Nat → ClassId) (base : Nat) (B : jF) (hB : jBok B) (G0 : jT) (X : List Nat) (H0 : Heap) (a : Nat) (tk0 at0 nc0 : Int32) : Met l yX10_peek wsX10_peek ({ frames := 0, cells := 0, slots := 0, locals := 0 }) (va_Pc [.ref a] (fun U => U.heap = H0 ∧ jX B base G0 X H0 ∧ jG dC dI ca base U ∧ G0 a = some (12, 0) ∧ a ∈ X ∧ jB12e dC dI ca G0 a tk0 at0 nc0 H0 ∧ (0 ≤ tk0.toInt ∧ tk0.toInt ≤ 1500 ∧ 0 ≤ at0.toInt ∧ 0 ≤ nc0.toInt ∧ nc0.toInt ≤ 3000 ∧ at0.toInt ≤ tk0.toInt + 3))) (va_Qi (S := Int32 × Int32 × Int32) (fun r u => u.1.toInt = tk0.toInt ∧ 0 ≤ u.2.1.toInt ∧ nc0.toInt ≤ u.2.2.toInt ∧ u.2.2.toInt ≤ 3000 ∧ u.2.1.toInt = at0.toInt ∧ u.2.2.toInt = nc0.toInt ∧ (r.toInt = 0 ∨ at0.toInt < tk0.toInt)) (fun u t => jX B base G0 X t.heap ∧ jB12e dC dI ca G0 a u.1 u.2.1 u.2.2 t.heap ∧  jModP G0 (fun r => r = a) H0 t.heap ∧ t.heap.size = H0.size ∧ jTot t.heap = jTot H0) (jA base)) 0 0 (jA base) := by
  refine Met.ofW (cc := cX10_peek) (maxL := 1) (ret := (some .int)) (by decide) rfl ?_
  intro p e s m args below meth c s₁ Bd hml hv
  obtain ⟨rfl, hH0, hX, hG, hg_a, hm_a, he_a, ht0, ht1, ha0, hn0, hn1, hpre⟩ := hv
  have hK := hG.1
  have hx := Bd.exec
  have hb := Bd.bytes
  have hr := Bd.returns
  have hts := atoms_spec (ws := wsX10_peek) Bd.pre
  have hown : s.vm.findClass RX10 = some m.cls := findClass_of_methodNamed Bd.named
  have hlocks := Bd.notSynchronized
  have hin_12 : ∀ w ∈ u_ws RX10 TX10 11, w ∈ wsX10_peek := by decide +kernel
  obtain ⟨Q, hQ⟩ : ∃ Q, Q = MQ below (va_Qi (S := Int32 × Int32 × Int32) (fun r u => u.1.toInt = tk0.toInt ∧ 0 ≤ u.2.1.toInt ∧ nc0.toInt ≤ u.2.2.toInt ∧ u.2.2.toInt ≤ 3000 ∧ u.2.1.toInt = at0.toInt ∧ u.2.2.toInt = nc0.toInt ∧ (r.toInt = 0 ∨ at0.toInt < tk0.toInt)) (fun u t => jX B base G0 X t.heap ∧ jB12e dC dI ca G0 a u.1 u.2.1 u.2.2 t.heap ∧  jModP G0 (fun r => r = a) H0 t.heap ∧ t.heap.size = H0.size ∧ jTot t.heap = jTot H0) (jA base)) ([.ref a] : List Value).toArray s 0 0 (jA base) := ⟨_, rfl⟩
  rw [← hQ]
  have hl := lv_entry ([.ref a]) (n := 1) (Nat.le_of_ble_eq_true rfl)
  rw [lg_entry_eq]
  generalize (lg_sl ([.ref a]) ++ List.replicate (1 - (lg_sl ([.ref a])).length) Slot.unset).toArray = ls at hl ⊢
  have hl : lv_has ls 1 [(0, .ref a)] := hl
  generalize hR : (headSpec wsX10_peek ({ frames := 0, cells := 0, slots := 0, locals := 0 })).room = R
  subst hH0
  have hS : va_S (jA base) s.heap s.heap [] := va_S.rf
  have hM : jModP G0 (fun r => r = a) s.heap s.heap := jModP.rf
  have hz : s.heap.size = s.heap.size := rfl
  have hT : jTot s.heap = jTot s.heap := rfl
  have hlt_a := hX.2 _ _ hg_a
  have hrt_a : jRoot G0 a := ⟨_, _, hg_a, by omega⟩
  have hk0 : (0 : Int32).toInt = 0 := by decide
  have hk1 : (1 : Int32).toInt = 1 := by decide
  have hk1500 : (1500 : Int32).toInt = 1500 := by decide
  refine lv_aload_n hx hb dX10_peek_0 rfl (lv_at hl 0 rfl) ?_
  obtain ⟨names_1, kinds_1, values_1, word_1, told_1, toldCount_1, terms_1, nodes_1, f_kinds_1, f_values_1, f_told_1, f_nodes_1, hat_a_1, hat_kinds_1, hat_values_1, hat_told_1, hat_nodes_1, hg_kinds_1, hg_values_1, hg_told_1, hg_nodes_1, hg_names_1, hf0_1, hf1_1⟩ := id he_a
  have hlt_names_1 := hX.2 _ _ hg_names_1
  have hrt_names_1 : jRoot G0 names_1 := ⟨_, _, hg_names_1, by omega⟩
  refine va_get (D := (dC, dI)) (ci := 12) (v := .int at0) (C := RX10) (T := TX10) (N := 11) hx hb hts hin_12 hown hK (jp_one hat_a_1) 0 rfl rfl 4 (by decide) (hts (.fieldLink RX10 83 "ProofServer$Syntax" "at" "I") (by decide +kernel)) (fun _ h9 => h9) rfl dX10_peek_1 ?_
  refine lv_aload_n hx hb dX10_peek_4 rfl (lv_at hl 0 rfl) ?_
  refine va_get (D := (dC, dI)) (ci := 12) (v := .int tk0) (C := RX10) (T := TX10) (N := 11) hx hb hts hin_12 hown hK (jp_one hat_a_1) 0 rfl rfl 3 (by decide) (hts (.fieldLink RX10 28 "ProofServer$Syntax" "tokens" "I") (by decide +kernel)) (fun _ h9 => h9) rfl dX10_peek_5 ?_
  refine lv_icmp_ge (tgt := 33) hx hb dX10_peek_8 (by decide) (fun c_2 => ?_) (fun c_2 => ?_)
  · skip
    have c_2' : at0.toInt ≥ tk0.toInt := jb_ge (rfl) (rfl) c_2
    refine lv_iconst (v := 0) hx hb dX10_peek_33 (by decide) ?_
    have he_3 : jB12e dC dI ca G0 a tk0 at0 nc0 s.heap := ⟨names_1, kinds_1, values_1, word_1, told_1, toldCount_1, terms_1, nodes_1, f_kinds_1, f_values_1, f_told_1, f_nodes_1, hat_a_1, hat_kinds_1, hat_values_1, hat_told_1, hat_nodes_1, hg_kinds_1, hg_values_1, hg_told_1, hg_nodes_1, hg_names_1, by first | omega | assumption | (simp; done) | exact Or.inl rfl | exact Or.inr rfl, by first | omega | assumption | (simp; done) | exact Or.inl rfl | exact Or.inr rfl⟩
    rw [hQ]
    exact W.iret (v := 0) hx hb hr (fun t ht hW => ⟨⟨0, (tk0, at0, nc0), rfl, by refine ⟨?_, ?_, ?_, ?_, ?_, ?_, ?_⟩ <;> first | rfl | omega | (left; omega) | (right; omega) | exact Or.inl ⟨by decide, rfl⟩ | (simp only; omega), by rw [ht]; try exact hX, by rw [ht]; try exact he_3, by rw [ht]; try exact hM, by rw [ht]; try exact hz, by rw [ht]; try exact hT⟩, by rw [ht]; try exact hS.1, fun q h9 hq => by rw [ht]; try exact hS.2.1 q h9 hq⟩) hS.2.2 dX10_peek_34
  · skip
    have c_2' : at0.toInt < tk0.toInt := jb_ge_n (rfl) (rfl) c_2
    refine lv_aload_n hx hb dX10_peek_11 rfl (lv_at hl 0 rfl) ?_
    refine va_get (D := (dC, dI)) (ci := 12) (v := .int at0) (C := RX10) (T := TX10) (N := 11) hx hb hts hin_12 hown hK (jp_one hat_a_1) 0 rfl rfl 4 (by decide) (hts (.fieldLink RX10 83 "ProofServer$Syntax" "at" "I") (by decide +kernel)) (fun _ h9 => h9) rfl dX10_peek_12 ?_
    refine lv_sipush (v := 1500) hx hb dX10_peek_15 (by decide) ?_
    refine lv_icmp_ge (tgt := 33) hx hb dX10_peek_18 (by decide) (fun c_4 => ?_) (fun c_4 => ?_)
    · skip
      have c_4' : at0.toInt ≥ 1500 := jb_ge (rfl) ((by decide)) c_4
      refine lv_iconst (v := 0) hx hb dX10_peek_33 (by decide) ?_
      have he_5 : jB12e dC dI ca G0 a tk0 at0 nc0 s.heap := ⟨names_1, kinds_1, values_1, word_1, told_1, toldCount_1, terms_1, nodes_1, f_kinds_1, f_values_1, f_told_1, f_nodes_1, hat_a_1, hat_kinds_1, hat_values_1, hat_told_1, hat_nodes_1, hg_kinds_1, hg_values_1, hg_told_1, hg_nodes_1, hg_names_1, by first | omega | assumption | (simp; done) | exact Or.inl rfl | exact Or.inr rfl, by first | omega | assumption | (simp; done) | exact Or.inl rfl | exact Or.inr rfl⟩
      rw [hQ]
      exact W.iret (v := 0) hx hb hr (fun t ht hW => ⟨⟨0, (tk0, at0, nc0), rfl, by refine ⟨?_, ?_, ?_, ?_, ?_, ?_, ?_⟩ <;> first | rfl | omega | (left; omega) | (right; omega) | exact Or.inl ⟨by decide, rfl⟩ | (simp only; omega), by rw [ht]; try exact hX, by rw [ht]; try exact he_5, by rw [ht]; try exact hM, by rw [ht]; try exact hz, by rw [ht]; try exact hT⟩, by rw [ht]; try exact hS.1, fun q h9 hq => by rw [ht]; try exact hS.2.1 q h9 hq⟩) hS.2.2 dX10_peek_34
    · skip
      have c_4' : at0.toInt < 1500 := jb_ge_n (rfl) ((by decide)) c_4
      refine lv_aload_n hx hb dX10_peek_21 rfl (lv_at hl 0 rfl) ?_
      refine va_get (D := (dC, dI)) (ci := 12) (v := .ref kinds_1) (C := RX10) (T := TX10) (N := 11) hx hb hts hin_12 hown hK (jp_one hat_a_1) 0 rfl rfl 1 (by decide) (hts (.fieldLink RX10 9 "ProofServer$Syntax" "kinds" "[I") (by decide +kernel)) (fun _ h9 => h9) rfl dX10_peek_22 ?_
      refine lv_aload_n hx hb dX10_peek_25 rfl (lv_at hl 0 rfl) ?_
      refine va_get (D := (dC, dI)) (ci := 12) (v := .int at0) (C := RX10) (T := TX10) (N := 11) hx hb hts hin_12 hown hK (jp_one hat_a_1) 0 rfl rfl 4 (by decide) (hts (.fieldLink RX10 83 "ProofServer$Syntax" "at" "I") (by decide +kernel)) (fun _ h9 => h9) rfl dX10_peek_26 ?_
      have hiz_6 : _ := jb_in (i := at0) (n := 1500) (rfl) (by omega) (by omega)
      refine va_iald hx hb hK (jp_one hat_kinds_1) 0 1 rfl rfl hiz_6 dX10_peek_29 ?_
      refine lv_topi (fun z_6 ez_6 => ?_)
      refine lv_goto (tgt := 34) hx hb dX10_peek_30 (by decide) ?_
      have he_7 : jB12e dC dI ca G0 a tk0 at0 nc0 s.heap := ⟨names_1, kinds_1, values_1, word_1, told_1, toldCount_1, terms_1, nodes_1, f_kinds_1, f_values_1, f_told_1, f_nodes_1, hat_a_1, hat_kinds_1, hat_values_1, hat_told_1, hat_nodes_1, hg_kinds_1, hg_values_1, hg_told_1, hg_nodes_1, hg_names_1, by first | omega | assumption | (simp; done) | exact Or.inl rfl | exact Or.inr rfl, by first | omega | assumption | (simp; done) | exact Or.inl rfl | exact Or.inr rfl⟩
      rw [hQ]
      exact W.iret (v := z_6) hx hb hr (fun t ht hW => ⟨⟨z_6, (tk0, at0, nc0), rfl, by refine ⟨?_, ?_, ?_, ?_, ?_, ?_, ?_⟩ <;> first | rfl | omega | (left; omega) | (right; omega) | exact Or.inl ⟨by decide, rfl⟩ | (simp only; omega), by rw [ht]; try exact hX, by rw [ht]; try exact he_7, by rw [ht]; try exact hM, by rw [ht]; try exact hz, by rw [ht]; try exact hT⟩, by rw [ht]; try exact hS.1, fun q h9 hq => by rw [ht]; try exact hS.2.1 q h9 hq⟩) hS.2.2 dX10_peek_34
set_option maxHeartbeats 4000000 in
set_option maxRecDepth 20000 in
theorem tX10_peekName (l : Launch) (dC : Nat → ClassId) (dI : Nat → Nat → Nat) (ca : Nat → ClassId) (base : Nat) (B : jF) (hB : jBok B) (G0 : jT) (X : List Nat) (H0 : Heap) (a : Nat) (tk0 at0 nc0 : Int32) : Met l yX10_peekName wsX10_peekName ({ frames := 1, cells := 0, slots := 0, locals := 40 }) (va_Pc [.ref a] (fun U => U.heap = H0 ∧ jX B base G0 X H0 ∧ jG dC dI ca base U ∧ G0 a = some (12, 0) ∧ a ∈ X ∧ jB12e dC dI ca G0 a tk0 at0 nc0 H0 ∧ (0 ≤ tk0.toInt ∧ tk0.toInt ≤ 1500 ∧ 0 ≤ at0.toInt ∧ 0 ≤ nc0.toInt ∧ nc0.toInt ≤ 3000 ∧ at0.toInt ≤ tk0.toInt + 3))) (va_Qi (S := Int32 × Int32 × Int32) (fun r u => u.1.toInt = tk0.toInt ∧ 0 ≤ u.2.1.toInt ∧ nc0.toInt ≤ u.2.2.toInt ∧ u.2.2.toInt ≤ 3000 ∧ u.2.1.toInt = at0.toInt ∧ u.2.2.toInt = nc0.toInt ∧ (r.toInt = -1 ∨ at0.toInt < tk0.toInt)) (fun u t => jX B base G0 X t.heap ∧ jB12e dC dI ca G0 a u.1 u.2.1 u.2.2 t.heap ∧  jModP G0 (fun r => r = a) H0 t.heap ∧ t.heap.size = H0.size ∧ jTot t.heap = jTot H0) (jA base)) 0 0 (jA base) := by
  refine Met.ofW (cc := cX10_peekName) (maxL := 1) (ret := (some .int)) (by decide) rfl ?_
  intro p e s m args below meth c s₁ Bd hml hv
  obtain ⟨rfl, hH0, hX, hG, hg_a, hm_a, he_a, ht0, ht1, ha0, hn0, hn1, hpre⟩ := hv
  have hK := hG.1
  have hx := Bd.exec
  have hb := Bd.bytes
  have hr := Bd.returns
  have hts := atoms_spec (ws := wsX10_peekName) Bd.pre
  have hown : s.vm.findClass RX10 = some m.cls := findClass_of_methodNamed Bd.named
  have hlocks := Bd.notSynchronized
  have hin_12 : ∀ w ∈ u_ws RX10 TX10 11, w ∈ wsX10_peekName := by decide +kernel
  obtain ⟨Q, hQ⟩ : ∃ Q, Q = MQ below (va_Qi (S := Int32 × Int32 × Int32) (fun r u => u.1.toInt = tk0.toInt ∧ 0 ≤ u.2.1.toInt ∧ nc0.toInt ≤ u.2.2.toInt ∧ u.2.2.toInt ≤ 3000 ∧ u.2.1.toInt = at0.toInt ∧ u.2.2.toInt = nc0.toInt ∧ (r.toInt = -1 ∨ at0.toInt < tk0.toInt)) (fun u t => jX B base G0 X t.heap ∧ jB12e dC dI ca G0 a u.1 u.2.1 u.2.2 t.heap ∧  jModP G0 (fun r => r = a) H0 t.heap ∧ t.heap.size = H0.size ∧ jTot t.heap = jTot H0) (jA base)) ([.ref a] : List Value).toArray s 0 0 (jA base) := ⟨_, rfl⟩
  rw [← hQ]
  have hl := lv_entry ([.ref a]) (n := 1) (Nat.le_of_ble_eq_true rfl)
  rw [lg_entry_eq]
  generalize (lg_sl ([.ref a]) ++ List.replicate (1 - (lg_sl ([.ref a])).length) Slot.unset).toArray = ls at hl ⊢
  have hl : lv_has ls 1 [(0, .ref a)] := hl
  generalize hR : (headSpec wsX10_peekName ({ frames := 1, cells := 0, slots := 0, locals := 40 })).room = R
  subst hH0
  have hS : va_S (jA base) s.heap s.heap [] := va_S.rf
  have hM : jModP G0 (fun r => r = a) s.heap s.heap := jModP.rf
  have hz : s.heap.size = s.heap.size := rfl
  have hT : jTot s.heap = jTot s.heap := rfl
  have hlt_a := hX.2 _ _ hg_a
  have hrt_a : jRoot G0 a := ⟨_, _, hg_a, by omega⟩
  have hkm1 : ((-1) : Int32).toInt = (-1) := by decide
  have hk0 : (0 : Int32).toInt = 0 := by decide
  have hk1 : (1 : Int32).toInt = 1 := by decide
  have hk110 : (110 : Int32).toInt = 110 := by decide
  refine lv_aload_n hx hb dX10_peekName_0 rfl (lv_at hl 0 rfl) ?_
  obtain ⟨names_3, kinds_3, values_3, word_3, told_3, toldCount_3, terms_3, nodes_3, f_kinds_3, f_values_3, f_told_3, f_nodes_3, hat_a_3, hat_kinds_3, hat_values_3, hat_told_3, hat_nodes_3, hg_kinds_3, hg_values_3, hg_told_3, hg_nodes_3, hg_names_3, hf0_3, hf1_3⟩ := id he_a
  have hlt_names_3 := hX.2 _ _ hg_names_3
  have hrt_names_3 : jRoot G0 names_3 := ⟨_, _, hg_names_3, by omega⟩
  have he_4 : jB12e dC dI ca G0 a tk0 at0 nc0 s.heap := ⟨names_3, kinds_3, values_3, word_3, told_3, toldCount_3, terms_3, nodes_3, f_kinds_3, f_values_3, f_told_3, f_nodes_3, hat_a_3, hat_kinds_3, hat_values_3, hat_told_3, hat_nodes_3, hg_kinds_3, hg_values_3, hg_told_3, hg_nodes_3, hg_names_3, by first | omega | assumption | (simp; done) | exact Or.inl rfl | exact Or.inr rfl, by first | omega | assumption | (simp; done) | exact Or.inl rfl | exact Or.inr rfl⟩
  refine va_calli (A0 := jA base) (H0 := s.heap) (va_runV (As := []) (rest := []) ⟨hx, hb, hml, hown, hts⟩ (tX10_peek l dC dI ca base B hB G0 X s.heap a tk0 at0 nc0) (cwV 0 hts gX10_peekName_X10_peek rfl rfl rfl (by decide +kernel) ⟨by rw [← hR]; exact Nat.le_of_ble_eq_true rfl, by rw [← hR]; exact Nat.le_of_ble_eq_true rfl⟩) ⟨fun a U g mk q => by obtain ⟨q0, q1, q2, qK, q9⟩ := q; exact ⟨q0, q1, q2, jG.calling g mk a qK, q9⟩, va_recv hK (jp_one hat_a_3) (ci := 12) (q0 := 0) rfl rfl, fun U hU hW => ⟨rfl, hU, hX, hG.step hW hU hS, hg_a, hm_a, he_4, by refine ⟨?_, ?_, ?_, ?_, ?_, ?_⟩ <;> omega⟩⟩ rfl rfl hl.1 rfl (lv_room (Nat.le_of_ble_eq_true rfl)) dX10_peekName_1 ⟨Nat.zero_le _, Nat.zero_le _⟩) hS (fun q _ h => h) (fun q h => h) (fun r_1 u t H1 locs1 ht hvm hr_1 hBb hz1 hk1 hS_2 => ?_)
  obtain ⟨tk_2, at_2, nc_2⟩ := u
  obtain ⟨hX_2, he_2, hM_20, hz_20, hT_20⟩ := hBb
  rw [ht] at hX_2 he_2 hM_20 hz_20 hT_20
  simp only at hr_1 he_2
  have hM_2 := hM.tr0 hM_20 hz (by intro r; simp)
  have hz_2 := hz_20.trans hz
  have hT_2 := hT_20.trans hT
  clear hz1 hk1 hvm ht hM_20 hz_20 hT_20
  refine lv_bipush (v := 110) hx hb dX10_peekName_4 (by decide) ?_
  refine lv_icmp_ne (tgt := 21) hx hb dX10_peekName_6 (by decide) (fun c_5 => ?_) (fun c_5 => ?_)
  · skip
    have c_5' : r_1.toInt ≠ 110 := jb_ne (rfl) ((by decide)) c_5
    refine lv_iconst (v := (-1)) hx hb dX10_peekName_21 (by decide) ?_
    rw [hQ]
    exact W.iret (v := (-1)) hx hb hr (fun t ht hW => ⟨⟨(-1), (tk_2, at_2, nc_2), rfl, by refine ⟨?_, ?_, ?_, ?_, ?_, ?_, ?_⟩ <;> first | rfl | omega | (left; omega) | (right; omega) | exact Or.inl ⟨by decide, rfl⟩ | (simp only; omega), by rw [ht]; try exact hX_2, by rw [ht]; try exact he_2, by rw [ht]; try exact hM_2, by rw [ht]; try exact hz_2, by rw [ht]; try exact hT_2⟩, by rw [ht]; try exact hS_2.1, fun q h9 hq => by rw [ht]; try exact hS_2.2.1 q h9 hq⟩) hS_2.2.2 dX10_peekName_22
  · skip
    have c_5' : r_1.toInt = 110 := jb_ne_n (rfl) ((by decide)) c_5
    refine lv_aload_n hx hb dX10_peekName_9 rfl (lv_at hl 0 rfl) ?_
    obtain ⟨names_6, kinds_6, values_6, word_6, told_6, toldCount_6, terms_6, nodes_6, f_kinds_6, f_values_6, f_told_6, f_nodes_6, hat_a_6, hat_kinds_6, hat_values_6, hat_told_6, hat_nodes_6, hg_kinds_6, hg_values_6, hg_told_6, hg_nodes_6, hg_names_6, hf0_6, hf1_6⟩ := id he_2
    have hlt_names_6 := hX_2.2 _ _ hg_names_6
    have hrt_names_6 : jRoot G0 names_6 := ⟨_, _, hg_names_6, by omega⟩
    refine va_get (D := (dC, dI)) (ci := 12) (v := .ref values_6) (C := RX10) (T := TX10) (N := 11) hx hb hts hin_12 hown hK (jp_one hat_a_6) 0 rfl rfl 2 (by decide) (hts (.fieldLink RX10 15 "ProofServer$Syntax" "values" "[I") (by decide +kernel)) (fun _ h9 => h9) rfl dX10_peekName_10 ?_
    refine lv_aload_n hx hb dX10_peekName_13 rfl (lv_at hl 0 rfl) ?_
    refine va_get (D := (dC, dI)) (ci := 12) (v := .int at_2) (C := RX10) (T := TX10) (N := 11) hx hb hts hin_12 hown hK (jp_one hat_a_6) 0 rfl rfl 4 (by decide) (hts (.fieldLink RX10 83 "ProofServer$Syntax" "at" "I") (by decide +kernel)) (fun _ h9 => h9) rfl dX10_peekName_14 ?_
    have hiz_7 : _ := jb_in (i := at_2) (n := 1500) (rfl) (by omega) (by omega)
    refine va_iald hx hb hK (jp_one hat_values_6) 0 1 rfl rfl hiz_7 dX10_peekName_17 ?_
    refine lv_topi (fun z_7 ez_7 => ?_)
    refine lv_goto (tgt := 22) hx hb dX10_peekName_18 (by decide) ?_
    have he_8 : jB12e dC dI ca G0 a tk_2 at_2 nc_2 H1 := ⟨names_6, kinds_6, values_6, word_6, told_6, toldCount_6, terms_6, nodes_6, f_kinds_6, f_values_6, f_told_6, f_nodes_6, hat_a_6, hat_kinds_6, hat_values_6, hat_told_6, hat_nodes_6, hg_kinds_6, hg_values_6, hg_told_6, hg_nodes_6, hg_names_6, by first | omega | assumption | (simp; done) | exact Or.inl rfl | exact Or.inr rfl, by first | omega | assumption | (simp; done) | exact Or.inl rfl | exact Or.inr rfl⟩
    rw [hQ]
    exact W.iret (v := z_7) hx hb hr (fun t ht hW => ⟨⟨z_7, (tk_2, at_2, nc_2), rfl, by refine ⟨?_, ?_, ?_, ?_, ?_, ?_, ?_⟩ <;> first | rfl | omega | (left; omega) | (right; omega) | exact Or.inl ⟨by decide, rfl⟩ | (simp only; omega), by rw [ht]; try exact hX_2, by rw [ht]; try exact he_8, by rw [ht]; try exact hM_2, by rw [ht]; try exact hz_2, by rw [ht]; try exact hT_2⟩, by rw [ht]; try exact hS_2.1, fun q h9 hq => by rw [ht]; try exact hS_2.2.1 q h9 hq⟩) hS_2.2.2 dX10_peekName_22
set_option maxHeartbeats 4000000 in
set_option maxRecDepth 20000 in
theorem tX10_isSign (l : Launch) (dC : Nat → ClassId) (dI : Nat → Nat → Nat) (ca : Nat → ClassId) (base : Nat) (B : jF) (hB : jBok B) (G0 : jT) (X : List Nat) (H0 : Heap) (a : Nat) (sg : Int32) (tk0 at0 nc0 : Int32) : Met l yX10_isSign wsX10_isSign ({ frames := 0, cells := 0, slots := 0, locals := 0 }) (va_Pc [.ref a, .int sg] (fun U => U.heap = H0 ∧ jX B base G0 X H0 ∧ jG dC dI ca base U ∧ G0 a = some (12, 0) ∧ a ∈ X ∧ jB12e dC dI ca G0 a tk0 at0 nc0 H0 ∧ (0 ≤ tk0.toInt ∧ tk0.toInt ≤ 1500 ∧ 0 ≤ at0.toInt ∧ 0 ≤ nc0.toInt ∧ nc0.toInt ≤ 3000 ∧ at0.toInt ≤ tk0.toInt + 2))) (va_Qi (S := Int32 × Int32 × Int32) (fun r u => (r = 0 ∨ r = 1) ∧ u.1.toInt = tk0.toInt ∧ 0 ≤ u.2.1.toInt ∧ nc0.toInt ≤ u.2.2.toInt ∧ u.2.2.toInt ≤ 3000 ∧ u.2.1.toInt = at0.toInt + 1 ∧ u.2.2.toInt = nc0.toInt ∧ (r.toInt = 0 ∨ at0.toInt < tk0.toInt)) (fun u t => jX B base G0 X t.heap ∧ jB12e dC dI ca G0 a u.1 u.2.1 u.2.2 t.heap ∧  jModP G0 (fun r => r = a) H0 t.heap ∧ t.heap.size = H0.size ∧ jTot t.heap = jTot H0) (jA base)) 0 0 (jA base) := by
  refine Met.ofW (cc := cX10_isSign) (maxL := 3) (ret := (some .boolean)) (by decide) rfl ?_
  intro p e s m args below meth c s₁ Bd hml hv
  obtain ⟨rfl, hH0, hX, hG, hg_a, hm_a, he_a, ht0, ht1, ha0, hn0, hn1, hpre⟩ := hv
  have hK := hG.1
  have hx := Bd.exec
  have hb := Bd.bytes
  have hr := Bd.returns
  have hts := atoms_spec (ws := wsX10_isSign) Bd.pre
  have hown : s.vm.findClass RX10 = some m.cls := findClass_of_methodNamed Bd.named
  have hlocks := Bd.notSynchronized
  have hin_12 : ∀ w ∈ u_ws RX10 TX10 11, w ∈ wsX10_isSign := by decide +kernel
  obtain ⟨Q, hQ⟩ : ∃ Q, Q = MQ below (va_Qi (S := Int32 × Int32 × Int32) (fun r u => (r = 0 ∨ r = 1) ∧ u.1.toInt = tk0.toInt ∧ 0 ≤ u.2.1.toInt ∧ nc0.toInt ≤ u.2.2.toInt ∧ u.2.2.toInt ≤ 3000 ∧ u.2.1.toInt = at0.toInt + 1 ∧ u.2.2.toInt = nc0.toInt ∧ (r.toInt = 0 ∨ at0.toInt < tk0.toInt)) (fun u t => jX B base G0 X t.heap ∧ jB12e dC dI ca G0 a u.1 u.2.1 u.2.2 t.heap ∧  jModP G0 (fun r => r = a) H0 t.heap ∧ t.heap.size = H0.size ∧ jTot t.heap = jTot H0) (jA base)) ([.ref a, .int sg] : List Value).toArray s 0 0 (jA base) := ⟨_, rfl⟩
  rw [← hQ]
  have hl := lv_entry ([.ref a, .int sg]) (n := 3) (Nat.le_of_ble_eq_true rfl)
  rw [lg_entry_eq]
  generalize (lg_sl ([.ref a, .int sg]) ++ List.replicate (3 - (lg_sl ([.ref a, .int sg])).length) Slot.unset).toArray = ls at hl ⊢
  have hl : lv_has ls 3 [(0, .ref a), (1, .int sg)] := hl
  generalize hR : (headSpec wsX10_isSign ({ frames := 0, cells := 0, slots := 0, locals := 0 })).room = R
  subst hH0
  have hS : va_S (jA base) s.heap s.heap [] := va_S.rf
  have hM : jModP G0 (fun r => r = a) s.heap s.heap := jModP.rf
  have hz : s.heap.size = s.heap.size := rfl
  have hT : jTot s.heap = jTot s.heap := rfl
  have hlt_a := hX.2 _ _ hg_a
  have hrt_a : jRoot G0 a := ⟨_, _, hg_a, by omega⟩
  have hk0 : (0 : Int32).toInt = 0 := by decide
  have hk1 : (1 : Int32).toInt = 1 := by decide
  have hk1500 : (1500 : Int32).toInt = 1500 := by decide
  refine lv_aload_n hx hb dX10_isSign_0 rfl (lv_at hl 0 rfl) ?_
  obtain ⟨names_1, kinds_1, values_1, word_1, told_1, toldCount_1, terms_1, nodes_1, f_kinds_1, f_values_1, f_told_1, f_nodes_1, hat_a_1, hat_kinds_1, hat_values_1, hat_told_1, hat_nodes_1, hg_kinds_1, hg_values_1, hg_told_1, hg_nodes_1, hg_names_1, hf0_1, hf1_1⟩ := id he_a
  have hlt_names_1 := hX.2 _ _ hg_names_1
  have hrt_names_1 : jRoot G0 names_1 := ⟨_, _, hg_names_1, by omega⟩
  refine va_get (D := (dC, dI)) (ci := 12) (v := .int at0) (C := RX10) (T := TX10) (N := 11) hx hb hts hin_12 hown hK (jp_one hat_a_1) 0 rfl rfl 4 (by decide) (hts (.fieldLink RX10 83 "ProofServer$Syntax" "at" "I") (by decide +kernel)) (fun _ h9 => h9) rfl dX10_isSign_1 ?_
  refine lv_aload_n hx hb dX10_isSign_4 rfl (lv_at hl 0 rfl) ?_
  refine va_get (D := (dC, dI)) (ci := 12) (v := .int tk0) (C := RX10) (T := TX10) (N := 11) hx hb hts hin_12 hown hK (jp_one hat_a_1) 0 rfl rfl 3 (by decide) (hts (.fieldLink RX10 28 "ProofServer$Syntax" "tokens" "I") (by decide +kernel)) (fun _ h9 => h9) rfl dX10_isSign_5 ?_
  refine lv_icmp_ge (tgt := 38) hx hb dX10_isSign_8 (by decide) (fun c_2 => ?_) (fun c_2 => ?_)
  · skip
    have c_2' : at0.toInt ≥ tk0.toInt := jb_ge (rfl) (rfl) c_2
    refine lv_iconst (v := 0) hx hb dX10_isSign_38 (by decide) ?_
    refine lv_istore_n (lv' := [(2, .int 0), (0, .ref a), (1, .int sg)]) hx hb dX10_isSign_39 rfl hl (by decide) rfl (fun ls hl => ?_)
    refine lv_aload_n hx hb dX10_isSign_40 rfl (lv_at hl 1 rfl) ?_
    refine lv_dup hx hb dX10_isSign_41 rfl ?_
    refine va_get (D := (dC, dI)) (ci := 12) (v := .int at0) (C := RX10) (T := TX10) (N := 11) hx hb hts hin_12 hown hK (jp_one hat_a_1) 0 rfl rfl 4 (by decide) (hts (.fieldLink RX10 83 "ProofServer$Syntax" "at" "I") (by decide +kernel)) (fun _ h9 => h9) rfl dX10_isSign_42 ?_
    refine lv_iconst (v := 1) hx hb dX10_isSign_45 (by decide) ?_
    refine lv_iadd hx hb dX10_isSign_46 ?_
    refine lv_topi (fun z_3 ez_3 => ?_)
    have hz_3 : z_3.toInt = at0.toInt + 1 := by rw [ez_3]; exact jb_iadd (rfl) ((by decide)) (by omega) (by omega)
    refine j_put (D := (dC, dI)) (ci := 12) (v := .int z_3) (ty := .int) (C := RX10) (T := TX10) (N := 11) (A := jA base) hx hb hts hin_12 tyX10 tyX10_ok nmX10 hown hK hat_a_1 (hX.2 _ _ hg_a).1 hS.2.2 rfl 4 (by decide) (hts (.fieldLink RX10 83 "ProofServer$Syntax" "at" "I") (by decide +kernel)) (fun _ h9 => h9) rfl (by decide +kernel) rfl rfl (Nat.le_of_ble_eq_true rfl) dX10_isSign_47 (fun H1 locs1 hat1 hsz1 hfr1 hT1 hL1 => ?_)
    have hX_5 := hX.put hB hg_a (by omega) jSup.root hm_a hsz1 hfr1
    have hM_5 := hM.put jExt.rf hrt_a jSup.root (by simp) hfr1
    have hz_5 := hsz1.trans hz
    have hT_5 := hT1.trans hT
    have hS_5 := jS_put hS hsz1 hfr1 (hX.2 _ _ hg_a).1 hL1
    have hat_kinds_1_5 := hat_kinds_1.kept (hfr1 _ (jne hg_kinds_1 hg_a (by simp)))
    have hat_values_1_5 := hat_values_1.kept (hfr1 _ (jne hg_values_1 hg_a (by simp)))
    have hat_told_1_5 := hat_told_1.kept (hfr1 _ (jne hg_told_1 hg_a (by simp)))
    have hat_nodes_1_5 := hat_nodes_1.kept (hfr1 _ (jne hg_nodes_1 hg_a (by simp)))
    clear hfr1 hsz1 hT1 hL1
    have hat_a_5 : va_at (dC, dI) vwCl (a, .inr (12, [.ref names_1, .ref kinds_1, .ref values_1, .int tk0, .int z_3, .int word_1, .ref told_1, .int toldCount_1, .int terms_1, .ref nodes_1, .int nc0])) H1 := hat1
    clear hat1
    refine lv_iload_n hx hb dX10_isSign_50 rfl (lv_at hl 0 rfl) ?_
    have he_6 : jB12e dC dI ca G0 a tk0 z_3 nc0 H1 := ⟨names_1, kinds_1, values_1, word_1, told_1, toldCount_1, terms_1, nodes_1, f_kinds_1, f_values_1, f_told_1, f_nodes_1, hat_a_5, hat_kinds_1_5, hat_values_1_5, hat_told_1_5, hat_nodes_1_5, hg_kinds_1, hg_values_1, hg_told_1, hg_nodes_1, hg_names_1, by first | omega | assumption | (simp; done) | exact Or.inl rfl | exact Or.inr rfl, by first | omega | assumption | (simp; done) | exact Or.inl rfl | exact Or.inr rfl⟩
    rw [hQ]
    exact W.zret (v := 0) hx hb hr (jb_nz (Or.inl rfl)) (fun t ht hW => ⟨⟨0, (tk0, z_3, nc0), rfl, ⟨(Or.inl rfl), by refine ⟨?_, ?_, ?_, ?_, ?_, ?_, ?_⟩ <;> first | rfl | omega | (left; omega) | (right; omega) | exact Or.inl ⟨by decide, rfl⟩ | (simp only; omega)⟩, by rw [ht]; try exact hX_5, by rw [ht]; try exact he_6, by rw [ht]; try exact hM_5, by rw [ht]; try exact hz_5, by rw [ht]; try exact hT_5⟩, by rw [ht]; try exact hS_5.1, fun q h9 hq => by rw [ht]; try exact hS_5.2.1 q h9 hq⟩) hS_5.2.2 dX10_isSign_51
  · skip
    have c_2' : at0.toInt < tk0.toInt := jb_ge_n (rfl) (rfl) c_2
    refine lv_aload_n hx hb dX10_isSign_11 rfl (lv_at hl 0 rfl) ?_
    refine va_get (D := (dC, dI)) (ci := 12) (v := .int at0) (C := RX10) (T := TX10) (N := 11) hx hb hts hin_12 hown hK (jp_one hat_a_1) 0 rfl rfl 4 (by decide) (hts (.fieldLink RX10 83 "ProofServer$Syntax" "at" "I") (by decide +kernel)) (fun _ h9 => h9) rfl dX10_isSign_12 ?_
    refine lv_sipush (v := 1500) hx hb dX10_isSign_15 (by decide) ?_
    refine lv_icmp_ge (tgt := 38) hx hb dX10_isSign_18 (by decide) (fun c_7 => ?_) (fun c_7 => ?_)
    · skip
      have c_7' : at0.toInt ≥ 1500 := jb_ge (rfl) ((by decide)) c_7
      refine lv_iconst (v := 0) hx hb dX10_isSign_38 (by decide) ?_
      refine lv_istore_n (lv' := [(2, .int 0), (0, .ref a), (1, .int sg)]) hx hb dX10_isSign_39 rfl hl (by decide) rfl (fun ls hl => ?_)
      refine lv_aload_n hx hb dX10_isSign_40 rfl (lv_at hl 1 rfl) ?_
      refine lv_dup hx hb dX10_isSign_41 rfl ?_
      refine va_get (D := (dC, dI)) (ci := 12) (v := .int at0) (C := RX10) (T := TX10) (N := 11) hx hb hts hin_12 hown hK (jp_one hat_a_1) 0 rfl rfl 4 (by decide) (hts (.fieldLink RX10 83 "ProofServer$Syntax" "at" "I") (by decide +kernel)) (fun _ h9 => h9) rfl dX10_isSign_42 ?_
      refine lv_iconst (v := 1) hx hb dX10_isSign_45 (by decide) ?_
      refine lv_iadd hx hb dX10_isSign_46 ?_
      refine lv_topi (fun z_8 ez_8 => ?_)
      have hz_8 : z_8.toInt = at0.toInt + 1 := by rw [ez_8]; exact jb_iadd (rfl) ((by decide)) (by omega) (by omega)
      refine j_put (D := (dC, dI)) (ci := 12) (v := .int z_8) (ty := .int) (C := RX10) (T := TX10) (N := 11) (A := jA base) hx hb hts hin_12 tyX10 tyX10_ok nmX10 hown hK hat_a_1 (hX.2 _ _ hg_a).1 hS.2.2 rfl 4 (by decide) (hts (.fieldLink RX10 83 "ProofServer$Syntax" "at" "I") (by decide +kernel)) (fun _ h9 => h9) rfl (by decide +kernel) rfl rfl (Nat.le_of_ble_eq_true rfl) dX10_isSign_47 (fun H1 locs1 hat1 hsz1 hfr1 hT1 hL1 => ?_)
      have hX_10 := hX.put hB hg_a (by omega) jSup.root hm_a hsz1 hfr1
      have hM_10 := hM.put jExt.rf hrt_a jSup.root (by simp) hfr1
      have hz_10 := hsz1.trans hz
      have hT_10 := hT1.trans hT
      have hS_10 := jS_put hS hsz1 hfr1 (hX.2 _ _ hg_a).1 hL1
      have hat_kinds_1_10 := hat_kinds_1.kept (hfr1 _ (jne hg_kinds_1 hg_a (by simp)))
      have hat_values_1_10 := hat_values_1.kept (hfr1 _ (jne hg_values_1 hg_a (by simp)))
      have hat_told_1_10 := hat_told_1.kept (hfr1 _ (jne hg_told_1 hg_a (by simp)))
      have hat_nodes_1_10 := hat_nodes_1.kept (hfr1 _ (jne hg_nodes_1 hg_a (by simp)))
      clear hfr1 hsz1 hT1 hL1
      have hat_a_10 : va_at (dC, dI) vwCl (a, .inr (12, [.ref names_1, .ref kinds_1, .ref values_1, .int tk0, .int z_8, .int word_1, .ref told_1, .int toldCount_1, .int terms_1, .ref nodes_1, .int nc0])) H1 := hat1
      clear hat1
      refine lv_iload_n hx hb dX10_isSign_50 rfl (lv_at hl 0 rfl) ?_
      have he_11 : jB12e dC dI ca G0 a tk0 z_8 nc0 H1 := ⟨names_1, kinds_1, values_1, word_1, told_1, toldCount_1, terms_1, nodes_1, f_kinds_1, f_values_1, f_told_1, f_nodes_1, hat_a_10, hat_kinds_1_10, hat_values_1_10, hat_told_1_10, hat_nodes_1_10, hg_kinds_1, hg_values_1, hg_told_1, hg_nodes_1, hg_names_1, by first | omega | assumption | (simp; done) | exact Or.inl rfl | exact Or.inr rfl, by first | omega | assumption | (simp; done) | exact Or.inl rfl | exact Or.inr rfl⟩
      rw [hQ]
      exact W.zret (v := 0) hx hb hr (jb_nz (Or.inl rfl)) (fun t ht hW => ⟨⟨0, (tk0, z_8, nc0), rfl, ⟨(Or.inl rfl), by refine ⟨?_, ?_, ?_, ?_, ?_, ?_, ?_⟩ <;> first | rfl | omega | (left; omega) | (right; omega) | exact Or.inl ⟨by decide, rfl⟩ | (simp only; omega)⟩, by rw [ht]; try exact hX_10, by rw [ht]; try exact he_11, by rw [ht]; try exact hM_10, by rw [ht]; try exact hz_10, by rw [ht]; try exact hT_10⟩, by rw [ht]; try exact hS_10.1, fun q h9 hq => by rw [ht]; try exact hS_10.2.1 q h9 hq⟩) hS_10.2.2 dX10_isSign_51
    · skip
      have c_7' : at0.toInt < 1500 := jb_ge_n (rfl) ((by decide)) c_7
      refine lv_aload_n hx hb dX10_isSign_21 rfl (lv_at hl 0 rfl) ?_
      refine va_get (D := (dC, dI)) (ci := 12) (v := .ref kinds_1) (C := RX10) (T := TX10) (N := 11) hx hb hts hin_12 hown hK (jp_one hat_a_1) 0 rfl rfl 1 (by decide) (hts (.fieldLink RX10 9 "ProofServer$Syntax" "kinds" "[I") (by decide +kernel)) (fun _ h9 => h9) rfl dX10_isSign_22 ?_
      refine lv_aload_n hx hb dX10_isSign_25 rfl (lv_at hl 0 rfl) ?_
      refine va_get (D := (dC, dI)) (ci := 12) (v := .int at0) (C := RX10) (T := TX10) (N := 11) hx hb hts hin_12 hown hK (jp_one hat_a_1) 0 rfl rfl 4 (by decide) (hts (.fieldLink RX10 83 "ProofServer$Syntax" "at" "I") (by decide +kernel)) (fun _ h9 => h9) rfl dX10_isSign_26 ?_
      have hiz_12 : _ := jb_in (i := at0) (n := 1500) (rfl) (by omega) (by omega)
      refine va_iald hx hb hK (jp_one hat_kinds_1) 0 1 rfl rfl hiz_12 dX10_isSign_29 ?_
      refine lv_topi (fun z_12 ez_12 => ?_)
      refine lv_iload_n hx hb dX10_isSign_30 rfl (lv_at hl 1 rfl) ?_
      refine lv_icmp_ne (tgt := 38) hx hb dX10_isSign_31 (by decide) (fun c_13 => ?_) (fun c_13 => ?_)
      · skip
        have c_13' : z_12.toInt ≠ sg.toInt := jb_ne (rfl) (rfl) c_13
        refine lv_iconst (v := 0) hx hb dX10_isSign_38 (by decide) ?_
        refine lv_istore_n (lv' := [(2, .int 0), (0, .ref a), (1, .int sg)]) hx hb dX10_isSign_39 rfl hl (by decide) rfl (fun ls hl => ?_)
        refine lv_aload_n hx hb dX10_isSign_40 rfl (lv_at hl 1 rfl) ?_
        refine lv_dup hx hb dX10_isSign_41 rfl ?_
        refine va_get (D := (dC, dI)) (ci := 12) (v := .int at0) (C := RX10) (T := TX10) (N := 11) hx hb hts hin_12 hown hK (jp_one hat_a_1) 0 rfl rfl 4 (by decide) (hts (.fieldLink RX10 83 "ProofServer$Syntax" "at" "I") (by decide +kernel)) (fun _ h9 => h9) rfl dX10_isSign_42 ?_
        refine lv_iconst (v := 1) hx hb dX10_isSign_45 (by decide) ?_
        refine lv_iadd hx hb dX10_isSign_46 ?_
        refine lv_topi (fun z_14 ez_14 => ?_)
        have hz_14 : z_14.toInt = at0.toInt + 1 := by rw [ez_14]; exact jb_iadd (rfl) ((by decide)) (by omega) (by omega)
        refine j_put (D := (dC, dI)) (ci := 12) (v := .int z_14) (ty := .int) (C := RX10) (T := TX10) (N := 11) (A := jA base) hx hb hts hin_12 tyX10 tyX10_ok nmX10 hown hK hat_a_1 (hX.2 _ _ hg_a).1 hS.2.2 rfl 4 (by decide) (hts (.fieldLink RX10 83 "ProofServer$Syntax" "at" "I") (by decide +kernel)) (fun _ h9 => h9) rfl (by decide +kernel) rfl rfl (Nat.le_of_ble_eq_true rfl) dX10_isSign_47 (fun H1 locs1 hat1 hsz1 hfr1 hT1 hL1 => ?_)
        have hX_16 := hX.put hB hg_a (by omega) jSup.root hm_a hsz1 hfr1
        have hM_16 := hM.put jExt.rf hrt_a jSup.root (by simp) hfr1
        have hz_16 := hsz1.trans hz
        have hT_16 := hT1.trans hT
        have hS_16 := jS_put hS hsz1 hfr1 (hX.2 _ _ hg_a).1 hL1
        have hat_kinds_1_16 := hat_kinds_1.kept (hfr1 _ (jne hg_kinds_1 hg_a (by simp)))
        have hat_values_1_16 := hat_values_1.kept (hfr1 _ (jne hg_values_1 hg_a (by simp)))
        have hat_told_1_16 := hat_told_1.kept (hfr1 _ (jne hg_told_1 hg_a (by simp)))
        have hat_nodes_1_16 := hat_nodes_1.kept (hfr1 _ (jne hg_nodes_1 hg_a (by simp)))
        clear hfr1 hsz1 hT1 hL1
        have hat_a_16 : va_at (dC, dI) vwCl (a, .inr (12, [.ref names_1, .ref kinds_1, .ref values_1, .int tk0, .int z_14, .int word_1, .ref told_1, .int toldCount_1, .int terms_1, .ref nodes_1, .int nc0])) H1 := hat1
        clear hat1
        refine lv_iload_n hx hb dX10_isSign_50 rfl (lv_at hl 0 rfl) ?_
        have he_17 : jB12e dC dI ca G0 a tk0 z_14 nc0 H1 := ⟨names_1, kinds_1, values_1, word_1, told_1, toldCount_1, terms_1, nodes_1, f_kinds_1, f_values_1, f_told_1, f_nodes_1, hat_a_16, hat_kinds_1_16, hat_values_1_16, hat_told_1_16, hat_nodes_1_16, hg_kinds_1, hg_values_1, hg_told_1, hg_nodes_1, hg_names_1, by first | omega | assumption | (simp; done) | exact Or.inl rfl | exact Or.inr rfl, by first | omega | assumption | (simp; done) | exact Or.inl rfl | exact Or.inr rfl⟩
        rw [hQ]
        exact W.zret (v := 0) hx hb hr (jb_nz (Or.inl rfl)) (fun t ht hW => ⟨⟨0, (tk0, z_14, nc0), rfl, ⟨(Or.inl rfl), by refine ⟨?_, ?_, ?_, ?_, ?_, ?_, ?_⟩ <;> first | rfl | omega | (left; omega) | (right; omega) | exact Or.inl ⟨by decide, rfl⟩ | (simp only; omega)⟩, by rw [ht]; try exact hX_16, by rw [ht]; try exact he_17, by rw [ht]; try exact hM_16, by rw [ht]; try exact hz_16, by rw [ht]; try exact hT_16⟩, by rw [ht]; try exact hS_16.1, fun q h9 hq => by rw [ht]; try exact hS_16.2.1 q h9 hq⟩) hS_16.2.2 dX10_isSign_51
      · skip
        have c_13' : z_12.toInt = sg.toInt := jb_ne_n (rfl) (rfl) c_13
        refine lv_iconst (v := 1) hx hb dX10_isSign_34 (by decide) ?_
        refine lv_goto (tgt := 39) hx hb dX10_isSign_35 (by decide) ?_
        refine lv_istore_n (lv' := [(2, .int 1), (0, .ref a), (1, .int sg)]) hx hb dX10_isSign_39 rfl hl (by decide) rfl (fun ls hl => ?_)
        refine lv_aload_n hx hb dX10_isSign_40 rfl (lv_at hl 1 rfl) ?_
        refine lv_dup hx hb dX10_isSign_41 rfl ?_
        refine va_get (D := (dC, dI)) (ci := 12) (v := .int at0) (C := RX10) (T := TX10) (N := 11) hx hb hts hin_12 hown hK (jp_one hat_a_1) 0 rfl rfl 4 (by decide) (hts (.fieldLink RX10 83 "ProofServer$Syntax" "at" "I") (by decide +kernel)) (fun _ h9 => h9) rfl dX10_isSign_42 ?_
        refine lv_iconst (v := 1) hx hb dX10_isSign_45 (by decide) ?_
        refine lv_iadd hx hb dX10_isSign_46 ?_
        refine lv_topi (fun z_18 ez_18 => ?_)
        have hz_18 : z_18.toInt = at0.toInt + 1 := by rw [ez_18]; exact jb_iadd (rfl) ((by decide)) (by omega) (by omega)
        refine j_put (D := (dC, dI)) (ci := 12) (v := .int z_18) (ty := .int) (C := RX10) (T := TX10) (N := 11) (A := jA base) hx hb hts hin_12 tyX10 tyX10_ok nmX10 hown hK hat_a_1 (hX.2 _ _ hg_a).1 hS.2.2 rfl 4 (by decide) (hts (.fieldLink RX10 83 "ProofServer$Syntax" "at" "I") (by decide +kernel)) (fun _ h9 => h9) rfl (by decide +kernel) rfl rfl (Nat.le_of_ble_eq_true rfl) dX10_isSign_47 (fun H1 locs1 hat1 hsz1 hfr1 hT1 hL1 => ?_)
        have hX_20 := hX.put hB hg_a (by omega) jSup.root hm_a hsz1 hfr1
        have hM_20 := hM.put jExt.rf hrt_a jSup.root (by simp) hfr1
        have hz_20 := hsz1.trans hz
        have hT_20 := hT1.trans hT
        have hS_20 := jS_put hS hsz1 hfr1 (hX.2 _ _ hg_a).1 hL1
        have hat_kinds_1_20 := hat_kinds_1.kept (hfr1 _ (jne hg_kinds_1 hg_a (by simp)))
        have hat_values_1_20 := hat_values_1.kept (hfr1 _ (jne hg_values_1 hg_a (by simp)))
        have hat_told_1_20 := hat_told_1.kept (hfr1 _ (jne hg_told_1 hg_a (by simp)))
        have hat_nodes_1_20 := hat_nodes_1.kept (hfr1 _ (jne hg_nodes_1 hg_a (by simp)))
        clear hfr1 hsz1 hT1 hL1
        have hat_a_20 : va_at (dC, dI) vwCl (a, .inr (12, [.ref names_1, .ref kinds_1, .ref values_1, .int tk0, .int z_18, .int word_1, .ref told_1, .int toldCount_1, .int terms_1, .ref nodes_1, .int nc0])) H1 := hat1
        clear hat1
        refine lv_iload_n hx hb dX10_isSign_50 rfl (lv_at hl 0 rfl) ?_
        have he_21 : jB12e dC dI ca G0 a tk0 z_18 nc0 H1 := ⟨names_1, kinds_1, values_1, word_1, told_1, toldCount_1, terms_1, nodes_1, f_kinds_1, f_values_1, f_told_1, f_nodes_1, hat_a_20, hat_kinds_1_20, hat_values_1_20, hat_told_1_20, hat_nodes_1_20, hg_kinds_1, hg_values_1, hg_told_1, hg_nodes_1, hg_names_1, by first | omega | assumption | (simp; done) | exact Or.inl rfl | exact Or.inr rfl, by first | omega | assumption | (simp; done) | exact Or.inl rfl | exact Or.inr rfl⟩
        rw [hQ]
        exact W.zret (v := 1) hx hb hr (jb_nz (Or.inr rfl)) (fun t ht hW => ⟨⟨1, (tk0, z_18, nc0), rfl, ⟨(Or.inr rfl), by refine ⟨?_, ?_, ?_, ?_, ?_, ?_, ?_⟩ <;> first | rfl | omega | (left; omega) | (right; omega) | exact Or.inl ⟨by decide, rfl⟩ | (simp only; omega)⟩, by rw [ht]; try exact hX_20, by rw [ht]; try exact he_21, by rw [ht]; try exact hM_20, by rw [ht]; try exact hz_20, by rw [ht]; try exact hT_20⟩, by rw [ht]; try exact hS_20.1, fun q h9 hq => by rw [ht]; try exact hS_20.2.1 q h9 hq⟩) hS_20.2.2 dX10_isSign_51
set_option maxHeartbeats 4000000 in
set_option maxRecDepth 20000 in
theorem tX10_isName (l : Launch) (dC : Nat → ClassId) (dI : Nat → Nat → Nat) (ca : Nat → ClassId) (base : Nat) (B : jF) (hB : jBok B) (G0 : jT) (X : List Nat) (H0 : Heap) (a : Nat) (tk0 at0 nc0 : Int32) : Met l yX10_isName wsX10_isName ({ frames := 2, cells := 0, slots := 0, locals := 80 }) (va_Pc [.ref a] (fun U => U.heap = H0 ∧ jX B base G0 X H0 ∧ jG dC dI ca base U ∧ G0 a = some (12, 0) ∧ a ∈ X ∧ jB12e dC dI ca G0 a tk0 at0 nc0 H0 ∧ (0 ≤ tk0.toInt ∧ tk0.toInt ≤ 1500 ∧ 0 ≤ at0.toInt ∧ 0 ≤ nc0.toInt ∧ nc0.toInt ≤ 3000 ∧ at0.toInt ≤ tk0.toInt + 2))) (va_Qi (S := Int32 × Int32 × Int32) (fun r u => (r = 0 ∨ r = 1) ∧ u.1.toInt = tk0.toInt ∧ 0 ≤ u.2.1.toInt ∧ nc0.toInt ≤ u.2.2.toInt ∧ u.2.2.toInt ≤ 3000 ∧ u.2.1.toInt = at0.toInt + 1 ∧ u.2.2.toInt = nc0.toInt ∧ (r.toInt = 0 ∨ at0.toInt < tk0.toInt)) (fun u t => jX B base G0 X t.heap ∧ jB12e dC dI ca G0 a u.1 u.2.1 u.2.2 t.heap ∧  jModP G0 (fun r => r = a) H0 t.heap ∧ t.heap.size = H0.size ∧ jTot t.heap = jTot H0) (jA base)) 0 0 (jA base) := by
  refine Met.ofW (cc := cX10_isName) (maxL := 2) (ret := (some .boolean)) (by decide) rfl ?_
  intro p e s m args below meth c s₁ Bd hml hv
  obtain ⟨rfl, hH0, hX, hG, hg_a, hm_a, he_a, ht0, ht1, ha0, hn0, hn1, hpre⟩ := hv
  have hK := hG.1
  have hx := Bd.exec
  have hb := Bd.bytes
  have hr := Bd.returns
  have hts := atoms_spec (ws := wsX10_isName) Bd.pre
  have hown : s.vm.findClass RX10 = some m.cls := findClass_of_methodNamed Bd.named
  have hlocks := Bd.notSynchronized
  have hin_12 : ∀ w ∈ u_ws RX10 TX10 11, w ∈ wsX10_isName := by decide +kernel
  obtain ⟨Q, hQ⟩ : ∃ Q, Q = MQ below (va_Qi (S := Int32 × Int32 × Int32) (fun r u => (r = 0 ∨ r = 1) ∧ u.1.toInt = tk0.toInt ∧ 0 ≤ u.2.1.toInt ∧ nc0.toInt ≤ u.2.2.toInt ∧ u.2.2.toInt ≤ 3000 ∧ u.2.1.toInt = at0.toInt + 1 ∧ u.2.2.toInt = nc0.toInt ∧ (r.toInt = 0 ∨ at0.toInt < tk0.toInt)) (fun u t => jX B base G0 X t.heap ∧ jB12e dC dI ca G0 a u.1 u.2.1 u.2.2 t.heap ∧  jModP G0 (fun r => r = a) H0 t.heap ∧ t.heap.size = H0.size ∧ jTot t.heap = jTot H0) (jA base)) ([.ref a] : List Value).toArray s 0 0 (jA base) := ⟨_, rfl⟩
  rw [← hQ]
  have hl := lv_entry ([.ref a]) (n := 2) (Nat.le_of_ble_eq_true rfl)
  rw [lg_entry_eq]
  generalize (lg_sl ([.ref a]) ++ List.replicate (2 - (lg_sl ([.ref a])).length) Slot.unset).toArray = ls at hl ⊢
  have hl : lv_has ls 2 [(0, .ref a)] := hl
  generalize hR : (headSpec wsX10_isName ({ frames := 2, cells := 0, slots := 0, locals := 80 })).room = R
  subst hH0
  have hS : va_S (jA base) s.heap s.heap [] := va_S.rf
  have hM : jModP G0 (fun r => r = a) s.heap s.heap := jModP.rf
  have hz : s.heap.size = s.heap.size := rfl
  have hT : jTot s.heap = jTot s.heap := rfl
  have hlt_a := hX.2 _ _ hg_a
  have hrt_a : jRoot G0 a := ⟨_, _, hg_a, by omega⟩
  have hk0 : (0 : Int32).toInt = 0 := by decide
  have hk1 : (1 : Int32).toInt = 1 := by decide
  have hk2 : (2 : Int32).toInt = 2 := by decide
  refine lv_aload_n hx hb dX10_isName_0 rfl (lv_at hl 0 rfl) ?_
  obtain ⟨names_3, kinds_3, values_3, word_3, told_3, toldCount_3, terms_3, nodes_3, f_kinds_3, f_values_3, f_told_3, f_nodes_3, hat_a_3, hat_kinds_3, hat_values_3, hat_told_3, hat_nodes_3, hg_kinds_3, hg_values_3, hg_told_3, hg_nodes_3, hg_names_3, hf0_3, hf1_3⟩ := id he_a
  have hlt_names_3 := hX.2 _ _ hg_names_3
  have hrt_names_3 : jRoot G0 names_3 := ⟨_, _, hg_names_3, by omega⟩
  have he_4 : jB12e dC dI ca G0 a tk0 at0 nc0 s.heap := ⟨names_3, kinds_3, values_3, word_3, told_3, toldCount_3, terms_3, nodes_3, f_kinds_3, f_values_3, f_told_3, f_nodes_3, hat_a_3, hat_kinds_3, hat_values_3, hat_told_3, hat_nodes_3, hg_kinds_3, hg_values_3, hg_told_3, hg_nodes_3, hg_names_3, by first | omega | assumption | (simp; done) | exact Or.inl rfl | exact Or.inr rfl, by first | omega | assumption | (simp; done) | exact Or.inl rfl | exact Or.inr rfl⟩
  refine va_calli (A0 := jA base) (H0 := s.heap) (va_runV (As := []) (rest := []) ⟨hx, hb, hml, hown, hts⟩ (tX10_peekName l dC dI ca base B hB G0 X s.heap a tk0 at0 nc0) (cwV 0 hts gX10_isName_X10_peekName rfl rfl rfl (by decide +kernel) ⟨by rw [← hR]; exact Nat.le_of_ble_eq_true rfl, by rw [← hR]; exact Nat.le_of_ble_eq_true rfl⟩) ⟨fun a U g mk q => by obtain ⟨q0, q1, q2, qK, q9⟩ := q; exact ⟨q0, q1, q2, jG.calling g mk a qK, q9⟩, va_recv hK (jp_one hat_a_3) (ci := 12) (q0 := 0) rfl rfl, fun U hU hW => ⟨rfl, hU, hX, hG.step hW hU hS, hg_a, hm_a, he_4, by refine ⟨?_, ?_, ?_, ?_, ?_, ?_⟩ <;> omega⟩⟩ rfl rfl hl.1 rfl (lv_room (Nat.le_of_ble_eq_true rfl)) dX10_isName_1 ⟨Nat.zero_le _, Nat.zero_le _⟩) hS (fun q _ h => h) (fun q h => h) (fun r_1 u t H1 locs1 ht hvm hr_1 hBb hz1 hk1 hS_2 => ?_)
  obtain ⟨tk_2, at_2, nc_2⟩ := u
  obtain ⟨hX_2, he_2, hM_20, hz_20, hT_20⟩ := hBb
  rw [ht] at hX_2 he_2 hM_20 hz_20 hT_20
  simp only at hr_1 he_2
  have hM_2 := hM.tr0 hM_20 hz (by intro r; simp)
  have hz_2 := hz_20.trans hz
  have hT_2 := hT_20.trans hT
  clear hz1 hk1 hvm ht hM_20 hz_20 hT_20
  refine lv_istore_n (lv' := [(1, .int r_1), (0, .ref a)]) hx hb dX10_isName_4 rfl hl (by decide) rfl (fun ls hl => ?_)
  refine lv_aload_n hx hb dX10_isName_5 rfl (lv_at hl 1 rfl) ?_
  refine lv_dup hx hb dX10_isName_6 rfl ?_
  obtain ⟨names_5, kinds_5, values_5, word_5, told_5, toldCount_5, terms_5, nodes_5, f_kinds_5, f_values_5, f_told_5, f_nodes_5, hat_a_5, hat_kinds_5, hat_values_5, hat_told_5, hat_nodes_5, hg_kinds_5, hg_values_5, hg_told_5, hg_nodes_5, hg_names_5, hf0_5, hf1_5⟩ := id he_2
  have hlt_names_5 := hX_2.2 _ _ hg_names_5
  have hrt_names_5 : jRoot G0 names_5 := ⟨_, _, hg_names_5, by omega⟩
  refine va_get (D := (dC, dI)) (ci := 12) (v := .int at_2) (C := RX10) (T := TX10) (N := 11) hx hb hts hin_12 hown hK (jp_one hat_a_5) 0 rfl rfl 4 (by decide) (hts (.fieldLink RX10 83 "ProofServer$Syntax" "at" "I") (by decide +kernel)) (fun _ h9 => h9) rfl dX10_isName_7 ?_
  refine lv_iconst (v := 1) hx hb dX10_isName_10 (by decide) ?_
  refine lv_iadd hx hb dX10_isName_11 ?_
  refine lv_topi (fun z_6 ez_6 => ?_)
  have hz_6 : z_6.toInt = at_2.toInt + 1 := by rw [ez_6]; exact jb_iadd (rfl) ((by decide)) (by omega) (by omega)
  refine j_put (D := (dC, dI)) (ci := 12) (v := .int z_6) (ty := .int) (C := RX10) (T := TX10) (N := 11) (A := jA base) hx hb hts hin_12 tyX10 tyX10_ok nmX10 hown hK hat_a_5 (hX_2.2 _ _ hg_a).1 hS_2.2.2 rfl 4 (by decide) (hts (.fieldLink RX10 83 "ProofServer$Syntax" "at" "I") (by decide +kernel)) (fun _ h9 => h9) rfl (by decide +kernel) rfl rfl (Nat.le_of_ble_eq_true rfl) dX10_isName_12 (fun H1 locs1 hat1 hsz1 hfr1 hT1 hL1 => ?_)
  have hX_8 := hX_2.put hB hg_a (by omega) jSup.root hm_a hsz1 hfr1
  have hM_8 := hM_2.put jExt.rf hrt_a jSup.root (by simp) hfr1
  have hz_8 := hsz1.trans hz_2
  have hT_8 := hT1.trans hT_2
  have hS_8 := jS_put hS_2 hsz1 hfr1 (hX_2.2 _ _ hg_a).1 hL1
  have hat_kinds_5_8 := hat_kinds_5.kept (hfr1 _ (jne hg_kinds_5 hg_a (by simp)))
  have hat_values_5_8 := hat_values_5.kept (hfr1 _ (jne hg_values_5 hg_a (by simp)))
  have hat_told_5_8 := hat_told_5.kept (hfr1 _ (jne hg_told_5 hg_a (by simp)))
  have hat_nodes_5_8 := hat_nodes_5.kept (hfr1 _ (jne hg_nodes_5 hg_a (by simp)))
  clear hfr1 hsz1 hT1 hL1
  have hat_a_8 : va_at (dC, dI) vwCl (a, .inr (12, [.ref names_5, .ref kinds_5, .ref values_5, .int tk_2, .int z_6, .int word_5, .ref told_5, .int toldCount_5, .int terms_5, .ref nodes_5, .int nc_2])) H1 := hat1
  clear hat1
  refine lv_iload_n hx hb dX10_isName_15 rfl (lv_at hl 0 rfl) ?_
  refine lv_iconst (v := 2) hx hb dX10_isName_16 (by decide) ?_
  refine lv_icmp_le (tgt := 32) hx hb dX10_isName_17 (by decide) (fun c_9 => ?_) (fun c_9 => ?_)
  · skip
    have c_9' : r_1.toInt ≤ 2 := jb_le (rfl) ((by decide)) c_9
    refine lv_iconst (v := 0) hx hb dX10_isName_32 (by decide) ?_
    have he_10 : jB12e dC dI ca G0 a tk_2 z_6 nc_2 H1 := ⟨names_5, kinds_5, values_5, word_5, told_5, toldCount_5, terms_5, nodes_5, f_kinds_5, f_values_5, f_told_5, f_nodes_5, hat_a_8, hat_kinds_5_8, hat_values_5_8, hat_told_5_8, hat_nodes_5_8, hg_kinds_5, hg_values_5, hg_told_5, hg_nodes_5, hg_names_5, by first | omega | assumption | (simp; done) | exact Or.inl rfl | exact Or.inr rfl, by first | omega | assumption | (simp; done) | exact Or.inl rfl | exact Or.inr rfl⟩
    rw [hQ]
    exact W.zret (v := 0) hx hb hr (jb_nz (Or.inl rfl)) (fun t ht hW => ⟨⟨0, (tk_2, z_6, nc_2), rfl, ⟨(Or.inl rfl), by refine ⟨?_, ?_, ?_, ?_, ?_, ?_, ?_⟩ <;> first | rfl | omega | (left; omega) | (right; omega) | exact Or.inl ⟨by decide, rfl⟩ | (simp only; omega)⟩, by rw [ht]; try exact hX_8, by rw [ht]; try exact he_10, by rw [ht]; try exact hM_8, by rw [ht]; try exact hz_8, by rw [ht]; try exact hT_8⟩, by rw [ht]; try exact hS_8.1, fun q h9 hq => by rw [ht]; try exact hS_8.2.1 q h9 hq⟩) hS_8.2.2 dX10_isName_33
  · skip
    have c_9' : r_1.toInt > 2 := jb_le_n (rfl) ((by decide)) c_9
    refine lv_aload_n hx hb dX10_isName_20 rfl (lv_at hl 1 rfl) ?_
    refine va_get (D := (dC, dI)) (ci := 12) (v := .int toldCount_5) (C := RX10) (T := TX10) (N := 11) hx hb hts hin_12 hown hK (jp_one hat_a_8) 0 rfl rfl 7 (by decide) (hts (.fieldLink RX10 86 "ProofServer$Syntax" "toldCount" "I") (by decide +kernel)) (fun _ h9 => h9) rfl dX10_isName_21 ?_
    refine lv_aload_n hx hb dX10_isName_24 rfl (lv_at hl 1 rfl) ?_
    refine va_get (D := (dC, dI)) (ci := 12) (v := .ref told_5) (C := RX10) (T := TX10) (N := 11) hx hb hts hin_12 hown hK (jp_one hat_a_8) 0 rfl rfl 6 (by decide) (hts (.fieldLink RX10 18 "ProofServer$Syntax" "told" "[I") (by decide +kernel)) (fun _ h9 => h9) rfl dX10_isName_25 ?_
    refine va_alen (v := Int32.ofNat 3) hx hb hK (jp_one hat_told_5_8) 0 1 rfl rfl rfl dX10_isName_28 ?_
    refine lv_topi (fun z_11 ez_11 => ?_)
    have hz_11 : z_11.toInt = 3 := by rw [ez_11]; exact jb_nat (by omega)
    refine lv_icmp_lt (tgt := 34) hx hb dX10_isName_29 (by decide) (fun c_12 => ?_) (fun c_12 => ?_)
    · skip
      have c_12' : toldCount_5.toInt < z_11.toInt := jb_lt (rfl) (rfl) c_12
      refine lv_aload_n hx hb dX10_isName_34 rfl (lv_at hl 1 rfl) ?_
      refine va_get (D := (dC, dI)) (ci := 12) (v := .ref told_5) (C := RX10) (T := TX10) (N := 11) hx hb hts hin_12 hown hK (jp_one hat_a_8) 0 rfl rfl 6 (by decide) (hts (.fieldLink RX10 18 "ProofServer$Syntax" "told" "[I") (by decide +kernel)) (fun _ h9 => h9) rfl dX10_isName_35 ?_
      refine lv_aload_n hx hb dX10_isName_38 rfl (lv_at hl 1 rfl) ?_
      refine va_get (D := (dC, dI)) (ci := 12) (v := .int toldCount_5) (C := RX10) (T := TX10) (N := 11) hx hb hts hin_12 hown hK (jp_one hat_a_8) 0 rfl rfl 7 (by decide) (hts (.fieldLink RX10 86 "ProofServer$Syntax" "toldCount" "I") (by decide +kernel)) (fun _ h9 => h9) rfl dX10_isName_39 ?_
      refine lv_iload_n hx hb dX10_isName_42 rfl (lv_at hl 0 rfl) ?_
      refine j_iast (A := jA base) hx hb hK 1 hat_told_5_8 (hX_8.2 _ _ hg_told_5).1 hS_8.2.2 rfl (jb_in (i := toldCount_5) (n := 3) (rfl) (by omega) (by omega)) dX10_isName_43 (fun H1 locs1 hat1 hsz1 hfr1 hT1 hL1 => ?_)
      have hX_13 := hX_8.put hB hg_a (by omega) (jSup.own (i := 2) hg_told_5) hm_a hsz1 hfr1
      have hM_13 := hM_8.put jExt.rf hrt_a (jSup.own (i := 2) hg_told_5) (by simp) hfr1
      have hz_13 := hsz1.trans hz_8
      have hT_13 := hT1.trans hT_8
      have hS_13 := jS_put hS_8 hsz1 hfr1 (hX_8.2 _ _ hg_told_5).1 hL1
      have hat_a_8_13 := hat_a_8.kept (hfr1 _ (jne hg_a hg_told_5 (by simp)))
      have hat_kinds_5_8_13 := hat_kinds_5_8.kept (hfr1 _ (jne hg_kinds_5 hg_told_5 (by simp)))
      have hat_values_5_8_13 := hat_values_5_8.kept (hfr1 _ (jne hg_values_5 hg_told_5 (by simp)))
      have hat_nodes_5_8_13 := hat_nodes_5_8.kept (hfr1 _ (jne hg_nodes_5 hg_told_5 (by simp)))
      clear hfr1 hsz1 hT1 hL1
      have hat_told_5_13 : va_at (dC, dI) vwCl (told_5, .inl (ca 1, 3, .inl (upd f_told_5 toldCount_5.toNatClampNeg r_1))) H1 := hat1
      clear hat1
      refine lv_aload_n hx hb dX10_isName_44 rfl (lv_at hl 1 rfl) ?_
      refine lv_dup hx hb dX10_isName_45 rfl ?_
      refine va_get (D := (dC, dI)) (ci := 12) (v := .int toldCount_5) (C := RX10) (T := TX10) (N := 11) hx hb hts hin_12 hown hK (jp_one hat_a_8_13) 0 rfl rfl 7 (by decide) (hts (.fieldLink RX10 86 "ProofServer$Syntax" "toldCount" "I") (by decide +kernel)) (fun _ h9 => h9) rfl dX10_isName_46 ?_
      refine lv_iconst (v := 1) hx hb dX10_isName_49 (by decide) ?_
      refine lv_iadd hx hb dX10_isName_50 ?_
      refine lv_topi (fun z_14 ez_14 => ?_)
      have hz_14 : z_14.toInt = toldCount_5.toInt + 1 := by rw [ez_14]; exact jb_iadd (rfl) ((by decide)) (by omega) (by omega)
      refine j_put (D := (dC, dI)) (ci := 12) (v := .int z_14) (ty := .int) (C := RX10) (T := TX10) (N := 11) (A := jA base) hx hb hts hin_12 tyX10 tyX10_ok nmX10 hown hK hat_a_8_13 (hX_13.2 _ _ hg_a).1 hS_13.2.2 rfl 7 (by decide) (hts (.fieldLink RX10 86 "ProofServer$Syntax" "toldCount" "I") (by decide +kernel)) (fun _ h9 => h9) rfl (by decide +kernel) rfl rfl (Nat.le_of_ble_eq_true rfl) dX10_isName_51 (fun H1 locs1 hat1 hsz1 hfr1 hT1 hL1 => ?_)
      have hX_16 := hX_13.put hB hg_a (by omega) jSup.root hm_a hsz1 hfr1
      have hM_16 := hM_13.put jExt.rf hrt_a jSup.root (by simp) hfr1
      have hz_16 := hsz1.trans hz_13
      have hT_16 := hT1.trans hT_13
      have hS_16 := jS_put hS_13 hsz1 hfr1 (hX_13.2 _ _ hg_a).1 hL1
      have hat_kinds_5_8_13_16 := hat_kinds_5_8_13.kept (hfr1 _ (jne hg_kinds_5 hg_a (by simp)))
      have hat_values_5_8_13_16 := hat_values_5_8_13.kept (hfr1 _ (jne hg_values_5 hg_a (by simp)))
      have hat_told_5_13_16 := hat_told_5_13.kept (hfr1 _ (jne hg_told_5 hg_a (by simp)))
      have hat_nodes_5_8_13_16 := hat_nodes_5_8_13.kept (hfr1 _ (jne hg_nodes_5 hg_a (by simp)))
      clear hfr1 hsz1 hT1 hL1
      have hat_a_16 : va_at (dC, dI) vwCl (a, .inr (12, [.ref names_5, .ref kinds_5, .ref values_5, .int tk_2, .int z_6, .int word_5, .ref told_5, .int z_14, .int terms_5, .ref nodes_5, .int nc_2])) H1 := hat1
      clear hat1
      refine lv_iconst (v := 1) hx hb dX10_isName_54 (by decide) ?_
      have he_17 : jB12e dC dI ca G0 a tk_2 z_6 nc_2 H1 := ⟨names_5, kinds_5, values_5, word_5, told_5, z_14, terms_5, nodes_5, f_kinds_5, f_values_5, (upd f_told_5 toldCount_5.toNatClampNeg r_1), f_nodes_5, hat_a_16, hat_kinds_5_8_13_16, hat_values_5_8_13_16, hat_told_5_13_16, hat_nodes_5_8_13_16, hg_kinds_5, hg_values_5, hg_told_5, hg_nodes_5, hg_names_5, by first | omega | assumption | (simp; done) | exact Or.inl rfl | exact Or.inr rfl, by first | omega | assumption | (simp; done) | exact Or.inl rfl | exact Or.inr rfl⟩
      rw [hQ]
      exact W.zret (v := 1) hx hb hr (jb_nz (Or.inr rfl)) (fun t ht hW => ⟨⟨1, (tk_2, z_6, nc_2), rfl, ⟨(Or.inr rfl), by refine ⟨?_, ?_, ?_, ?_, ?_, ?_, ?_⟩ <;> first | rfl | omega | (left; omega) | (right; omega) | exact Or.inl ⟨by decide, rfl⟩ | (simp only; omega)⟩, by rw [ht]; try exact hX_16, by rw [ht]; try exact he_17, by rw [ht]; try exact hM_16, by rw [ht]; try exact hz_16, by rw [ht]; try exact hT_16⟩, by rw [ht]; try exact hS_16.1, fun q h9 hq => by rw [ht]; try exact hS_16.2.1 q h9 hq⟩) hS_16.2.2 dX10_isName_55
    · skip
      have c_12' : toldCount_5.toInt ≥ z_11.toInt := jb_lt_n (rfl) (rfl) c_12
      refine lv_iconst (v := 0) hx hb dX10_isName_32 (by decide) ?_
      have he_18 : jB12e dC dI ca G0 a tk_2 z_6 nc_2 H1 := ⟨names_5, kinds_5, values_5, word_5, told_5, toldCount_5, terms_5, nodes_5, f_kinds_5, f_values_5, f_told_5, f_nodes_5, hat_a_8, hat_kinds_5_8, hat_values_5_8, hat_told_5_8, hat_nodes_5_8, hg_kinds_5, hg_values_5, hg_told_5, hg_nodes_5, hg_names_5, by first | omega | assumption | (simp; done) | exact Or.inl rfl | exact Or.inr rfl, by first | omega | assumption | (simp; done) | exact Or.inl rfl | exact Or.inr rfl⟩
      rw [hQ]
      exact W.zret (v := 0) hx hb hr (jb_nz (Or.inl rfl)) (fun t ht hW => ⟨⟨0, (tk_2, z_6, nc_2), rfl, ⟨(Or.inl rfl), by refine ⟨?_, ?_, ?_, ?_, ?_, ?_, ?_⟩ <;> first | rfl | omega | (left; omega) | (right; omega) | exact Or.inl ⟨by decide, rfl⟩ | (simp only; omega)⟩, by rw [ht]; try exact hX_8, by rw [ht]; try exact he_18, by rw [ht]; try exact hM_8, by rw [ht]; try exact hz_8, by rw [ht]; try exact hT_8⟩, by rw [ht]; try exact hS_8.1, fun q h9 hq => by rw [ht]; try exact hS_8.2.1 q h9 hq⟩) hS_8.2.2 dX10_isName_33
set_option maxHeartbeats 4000000 in
set_option maxRecDepth 20000 in
theorem tX10_isArity (l : Launch) (dC : Nat → ClassId) (dI : Nat → Nat → Nat) (ca : Nat → ClassId) (base : Nat) (B : jF) (hB : jBok B) (G0 : jT) (X : List Nat) (H0 : Heap) (a : Nat) (tk0 at0 nc0 : Int32) : Met l yX10_isArity wsX10_isArity ({ frames := 2, cells := 0, slots := 0, locals := 80 }) (va_Pc [.ref a] (fun U => U.heap = H0 ∧ jX B base G0 X H0 ∧ jG dC dI ca base U ∧ G0 a = some (12, 0) ∧ a ∈ X ∧ jB12e dC dI ca G0 a tk0 at0 nc0 H0 ∧ (0 ≤ tk0.toInt ∧ tk0.toInt ≤ 1500 ∧ 0 ≤ at0.toInt ∧ 0 ≤ nc0.toInt ∧ nc0.toInt ≤ 3000 ∧ at0.toInt ≤ tk0.toInt + 2))) (va_Qi (S := Int32 × Int32 × Int32) (fun r u => (r = 0 ∨ r = 1) ∧ u.1.toInt = tk0.toInt ∧ 0 ≤ u.2.1.toInt ∧ nc0.toInt ≤ u.2.2.toInt ∧ u.2.2.toInt ≤ 3000 ∧ u.2.1.toInt = at0.toInt + 1 ∧ u.2.2.toInt = nc0.toInt ∧ (r.toInt = 0 ∨ at0.toInt < tk0.toInt)) (fun u t => jX B base G0 X t.heap ∧ jB12e dC dI ca G0 a u.1 u.2.1 u.2.2 t.heap ∧  jModP G0 (fun r => r = a) H0 t.heap ∧ t.heap.size = H0.size ∧ jTot t.heap = jTot H0) (jA base)) 0 0 (jA base) := by
  refine Met.ofW (cc := cX10_isArity) (maxL := 1) (ret := (some .boolean)) (by decide) rfl ?_
  intro p e s m args below meth c s₁ Bd hml hv
  obtain ⟨rfl, hH0, hX, hG, hg_a, hm_a, he_a, ht0, ht1, ha0, hn0, hn1, hpre⟩ := hv
  have hK := hG.1
  have hx := Bd.exec
  have hb := Bd.bytes
  have hr := Bd.returns
  have hts := atoms_spec (ws := wsX10_isArity) Bd.pre
  have hown : s.vm.findClass RX10 = some m.cls := findClass_of_methodNamed Bd.named
  have hlocks := Bd.notSynchronized
  have hin_12 : ∀ w ∈ u_ws RX10 TX10 11, w ∈ wsX10_isArity := by decide +kernel
  obtain ⟨Q, hQ⟩ : ∃ Q, Q = MQ below (va_Qi (S := Int32 × Int32 × Int32) (fun r u => (r = 0 ∨ r = 1) ∧ u.1.toInt = tk0.toInt ∧ 0 ≤ u.2.1.toInt ∧ nc0.toInt ≤ u.2.2.toInt ∧ u.2.2.toInt ≤ 3000 ∧ u.2.1.toInt = at0.toInt + 1 ∧ u.2.2.toInt = nc0.toInt ∧ (r.toInt = 0 ∨ at0.toInt < tk0.toInt)) (fun u t => jX B base G0 X t.heap ∧ jB12e dC dI ca G0 a u.1 u.2.1 u.2.2 t.heap ∧  jModP G0 (fun r => r = a) H0 t.heap ∧ t.heap.size = H0.size ∧ jTot t.heap = jTot H0) (jA base)) ([.ref a] : List Value).toArray s 0 0 (jA base) := ⟨_, rfl⟩
  rw [← hQ]
  have hl := lv_entry ([.ref a]) (n := 1) (Nat.le_of_ble_eq_true rfl)
  rw [lg_entry_eq]
  generalize (lg_sl ([.ref a]) ++ List.replicate (1 - (lg_sl ([.ref a])).length) Slot.unset).toArray = ls at hl ⊢
  have hl : lv_has ls 1 [(0, .ref a)] := hl
  generalize hR : (headSpec wsX10_isArity ({ frames := 2, cells := 0, slots := 0, locals := 80 })).room = R
  subst hH0
  have hS : va_S (jA base) s.heap s.heap [] := va_S.rf
  have hM : jModP G0 (fun r => r = a) s.heap s.heap := jModP.rf
  have hz : s.heap.size = s.heap.size := rfl
  have hT : jTot s.heap = jTot s.heap := rfl
  have hlt_a := hX.2 _ _ hg_a
  have hrt_a : jRoot G0 a := ⟨_, _, hg_a, by omega⟩
  have hkm1 : ((-1) : Int32).toInt = (-1) := by decide
  have hk0 : (0 : Int32).toInt = 0 := by decide
  have hk1 : (1 : Int32).toInt = 1 := by decide
  have hk3 : (3 : Int32).toInt = 3 := by decide
  have hk100 : (100 : Int32).toInt = 100 := by decide
  refine lv_aload_n hx hb dX10_isArity_0 rfl (lv_at hl 0 rfl) ?_
  refine lv_aload_n hx hb dX10_isArity_1 rfl (lv_at hl 0 rfl) ?_
  obtain ⟨names_3, kinds_3, values_3, word_3, told_3, toldCount_3, terms_3, nodes_3, f_kinds_3, f_values_3, f_told_3, f_nodes_3, hat_a_3, hat_kinds_3, hat_values_3, hat_told_3, hat_nodes_3, hg_kinds_3, hg_values_3, hg_told_3, hg_nodes_3, hg_names_3, hf0_3, hf1_3⟩ := id he_a
  have hlt_names_3 := hX.2 _ _ hg_names_3
  have hrt_names_3 : jRoot G0 names_3 := ⟨_, _, hg_names_3, by omega⟩
  have he_4 : jB12e dC dI ca G0 a tk0 at0 nc0 s.heap := ⟨names_3, kinds_3, values_3, word_3, told_3, toldCount_3, terms_3, nodes_3, f_kinds_3, f_values_3, f_told_3, f_nodes_3, hat_a_3, hat_kinds_3, hat_values_3, hat_told_3, hat_nodes_3, hg_kinds_3, hg_values_3, hg_told_3, hg_nodes_3, hg_names_3, by first | omega | assumption | (simp; done) | exact Or.inl rfl | exact Or.inr rfl, by first | omega | assumption | (simp; done) | exact Or.inl rfl | exact Or.inr rfl⟩
  refine va_calli (A0 := jA base) (H0 := s.heap) (va_runV (As := []) (rest := [.ref a]) ⟨hx, hb, hml, hown, hts⟩ (tX10_peek l dC dI ca base B hB G0 X s.heap a tk0 at0 nc0) (cwV 0 hts gX10_isArity_X10_peek rfl rfl rfl (by decide +kernel) ⟨by rw [← hR]; exact Nat.le_of_ble_eq_true rfl, by rw [← hR]; exact Nat.le_of_ble_eq_true rfl⟩) ⟨fun a U g mk q => by obtain ⟨q0, q1, q2, qK, q9⟩ := q; exact ⟨q0, q1, q2, jG.calling g mk a qK, q9⟩, va_recv hK (jp_one hat_a_3) (ci := 12) (q0 := 0) rfl rfl, fun U hU hW => ⟨rfl, hU, hX, hG.step hW hU hS, hg_a, hm_a, he_4, by refine ⟨?_, ?_, ?_, ?_, ?_, ?_⟩ <;> omega⟩⟩ rfl rfl hl.1 rfl (lv_room (Nat.le_of_ble_eq_true rfl)) dX10_isArity_2 ⟨Nat.zero_le _, Nat.zero_le _⟩) hS (fun q _ h => h) (fun q h => h) (fun r_1 u t H1 locs1 ht hvm hr_1 hBb hz1 hk1 hS_2 => ?_)
  obtain ⟨tk_2, at_2, nc_2⟩ := u
  obtain ⟨hX_2, he_2, hM_20, hz_20, hT_20⟩ := hBb
  rw [ht] at hX_2 he_2 hM_20 hz_20 hT_20
  simp only at hr_1 he_2
  have hM_2 := hM.tr0 hM_20 hz (by intro r; simp)
  have hz_2 := hz_20.trans hz
  have hT_2 := hT_20.trans hT
  clear hz1 hk1 hvm ht hM_20 hz_20 hT_20
  refine lv_bipush (v := 100) hx hb dX10_isArity_5 (by decide) ?_
  refine lv_icmp_ne (tgt := 22) hx hb dX10_isArity_7 (by decide) (fun c_5 => ?_) (fun c_5 => ?_)
  · skip
    have c_5' : r_1.toInt ≠ 100 := jb_ne (rfl) ((by decide)) c_5
    refine lv_iconst (v := (-1)) hx hb dX10_isArity_22 (by decide) ?_
    obtain ⟨names_6, kinds_6, values_6, word_6, told_6, toldCount_6, terms_6, nodes_6, f_kinds_6, f_values_6, f_told_6, f_nodes_6, hat_a_6, hat_kinds_6, hat_values_6, hat_told_6, hat_nodes_6, hg_kinds_6, hg_values_6, hg_told_6, hg_nodes_6, hg_names_6, hf0_6, hf1_6⟩ := id he_2
    have hlt_names_6 := hX_2.2 _ _ hg_names_6
    have hrt_names_6 : jRoot G0 names_6 := ⟨_, _, hg_names_6, by omega⟩
    refine j_put (D := (dC, dI)) (ci := 12) (v := .int (-1)) (ty := .int) (C := RX10) (T := TX10) (N := 11) (A := jA base) hx hb hts hin_12 tyX10 tyX10_ok nmX10 hown hK hat_a_6 (hX_2.2 _ _ hg_a).1 hS_2.2.2 rfl 8 (by decide) (hts (.fieldLink RX10 92 "ProofServer$Syntax" "terms" "I") (by decide +kernel)) (fun _ h9 => h9) rfl (by decide +kernel) rfl rfl (Nat.le_of_ble_eq_true rfl) dX10_isArity_23 (fun H1 locs1 hat1 hsz1 hfr1 hT1 hL1 => ?_)
    have hX_8 := hX_2.put hB hg_a (by omega) jSup.root hm_a hsz1 hfr1
    have hM_8 := hM_2.put jExt.rf hrt_a jSup.root (by simp) hfr1
    have hz_8 := hsz1.trans hz_2
    have hT_8 := hT1.trans hT_2
    have hS_8 := jS_put hS_2 hsz1 hfr1 (hX_2.2 _ _ hg_a).1 hL1
    have hat_kinds_6_8 := hat_kinds_6.kept (hfr1 _ (jne hg_kinds_6 hg_a (by simp)))
    have hat_values_6_8 := hat_values_6.kept (hfr1 _ (jne hg_values_6 hg_a (by simp)))
    have hat_told_6_8 := hat_told_6.kept (hfr1 _ (jne hg_told_6 hg_a (by simp)))
    have hat_nodes_6_8 := hat_nodes_6.kept (hfr1 _ (jne hg_nodes_6 hg_a (by simp)))
    clear hfr1 hsz1 hT1 hL1
    have hat_a_8 : va_at (dC, dI) vwCl (a, .inr (12, [.ref names_6, .ref kinds_6, .ref values_6, .int tk_2, .int at_2, .int word_6, .ref told_6, .int toldCount_6, .int (-1), .ref nodes_6, .int nc_2])) H1 := hat1
    clear hat1
    refine lv_aload_n hx hb dX10_isArity_26 rfl (lv_at hl 0 rfl) ?_
    refine lv_dup hx hb dX10_isArity_27 rfl ?_
    refine va_get (D := (dC, dI)) (ci := 12) (v := .int at_2) (C := RX10) (T := TX10) (N := 11) hx hb hts hin_12 hown hK (jp_one hat_a_8) 0 rfl rfl 4 (by decide) (hts (.fieldLink RX10 83 "ProofServer$Syntax" "at" "I") (by decide +kernel)) (fun _ h9 => h9) rfl dX10_isArity_28 ?_
    refine lv_iconst (v := 1) hx hb dX10_isArity_31 (by decide) ?_
    refine lv_iadd hx hb dX10_isArity_32 ?_
    refine lv_topi (fun z_9 ez_9 => ?_)
    have hz_9 : z_9.toInt = at_2.toInt + 1 := by rw [ez_9]; exact jb_iadd (rfl) ((by decide)) (by omega) (by omega)
    refine j_put (D := (dC, dI)) (ci := 12) (v := .int z_9) (ty := .int) (C := RX10) (T := TX10) (N := 11) (A := jA base) hx hb hts hin_12 tyX10 tyX10_ok nmX10 hown hK hat_a_8 (hX_8.2 _ _ hg_a).1 hS_8.2.2 rfl 4 (by decide) (hts (.fieldLink RX10 83 "ProofServer$Syntax" "at" "I") (by decide +kernel)) (fun _ h9 => h9) rfl (by decide +kernel) rfl rfl (Nat.le_of_ble_eq_true rfl) dX10_isArity_33 (fun H1 locs1 hat1 hsz1 hfr1 hT1 hL1 => ?_)
    have hX_11 := hX_8.put hB hg_a (by omega) jSup.root hm_a hsz1 hfr1
    have hM_11 := hM_8.put jExt.rf hrt_a jSup.root (by simp) hfr1
    have hz_11 := hsz1.trans hz_8
    have hT_11 := hT1.trans hT_8
    have hS_11 := jS_put hS_8 hsz1 hfr1 (hX_8.2 _ _ hg_a).1 hL1
    have hat_kinds_6_8_11 := hat_kinds_6_8.kept (hfr1 _ (jne hg_kinds_6 hg_a (by simp)))
    have hat_values_6_8_11 := hat_values_6_8.kept (hfr1 _ (jne hg_values_6 hg_a (by simp)))
    have hat_told_6_8_11 := hat_told_6_8.kept (hfr1 _ (jne hg_told_6 hg_a (by simp)))
    have hat_nodes_6_8_11 := hat_nodes_6_8.kept (hfr1 _ (jne hg_nodes_6 hg_a (by simp)))
    clear hfr1 hsz1 hT1 hL1
    have hat_a_11 : va_at (dC, dI) vwCl (a, .inr (12, [.ref names_6, .ref kinds_6, .ref values_6, .int tk_2, .int z_9, .int word_6, .ref told_6, .int toldCount_6, .int (-1), .ref nodes_6, .int nc_2])) H1 := hat1
    clear hat1
    refine lv_aload_n hx hb dX10_isArity_36 rfl (lv_at hl 0 rfl) ?_
    refine va_get (D := (dC, dI)) (ci := 12) (v := .int (-1)) (C := RX10) (T := TX10) (N := 11) hx hb hts hin_12 hown hK (jp_one hat_a_11) 0 rfl rfl 8 (by decide) (hts (.fieldLink RX10 92 "ProofServer$Syntax" "terms" "I") (by decide +kernel)) (fun _ h9 => h9) rfl dX10_isArity_37 ?_
    refine lv_if_lt (tgt := 55) hx hb dX10_isArity_40 (by decide) (fun c_12 => ?_) (fun c_12 => ?_)
    · skip
      refine lv_iconst (v := 0) hx hb dX10_isArity_55 (by decide) ?_
      have he_13 : jB12e dC dI ca G0 a tk_2 z_9 nc_2 H1 := ⟨names_6, kinds_6, values_6, word_6, told_6, toldCount_6, (-1), nodes_6, f_kinds_6, f_values_6, f_told_6, f_nodes_6, hat_a_11, hat_kinds_6_8_11, hat_values_6_8_11, hat_told_6_8_11, hat_nodes_6_8_11, hg_kinds_6, hg_values_6, hg_told_6, hg_nodes_6, hg_names_6, by first | omega | assumption | (simp; done) | exact Or.inl rfl | exact Or.inr rfl, by first | omega | assumption | (simp; done) | exact Or.inl rfl | exact Or.inr rfl⟩
      rw [hQ]
      exact W.zret (v := 0) hx hb hr (jb_nz (Or.inl rfl)) (fun t ht hW => ⟨⟨0, (tk_2, z_9, nc_2), rfl, ⟨(Or.inl rfl), by refine ⟨?_, ?_, ?_, ?_, ?_, ?_, ?_⟩ <;> first | rfl | omega | (left; omega) | (right; omega) | exact Or.inl ⟨by decide, rfl⟩ | (simp only; omega)⟩, by rw [ht]; try exact hX_11, by rw [ht]; try exact he_13, by rw [ht]; try exact hM_11, by rw [ht]; try exact hz_11, by rw [ht]; try exact hT_11⟩, by rw [ht]; try exact hS_11.1, fun q h9 hq => by rw [ht]; try exact hS_11.2.1 q h9 hq⟩) hS_11.2.2 dX10_isArity_56
    · skip
      exact absurd c_12 (by decide)
  · skip
    have c_5' : r_1.toInt = 100 := jb_ne_n (rfl) ((by decide)) c_5
    refine lv_aload_n hx hb dX10_isArity_10 rfl (lv_at hl 0 rfl) ?_
    obtain ⟨names_14, kinds_14, values_14, word_14, told_14, toldCount_14, terms_14, nodes_14, f_kinds_14, f_values_14, f_told_14, f_nodes_14, hat_a_14, hat_kinds_14, hat_values_14, hat_told_14, hat_nodes_14, hg_kinds_14, hg_values_14, hg_told_14, hg_nodes_14, hg_names_14, hf0_14, hf1_14⟩ := id he_2
    have hlt_names_14 := hX_2.2 _ _ hg_names_14
    have hrt_names_14 : jRoot G0 names_14 := ⟨_, _, hg_names_14, by omega⟩
    refine va_get (D := (dC, dI)) (ci := 12) (v := .ref values_14) (C := RX10) (T := TX10) (N := 11) hx hb hts hin_12 hown hK (jp_one hat_a_14) 0 rfl rfl 2 (by decide) (hts (.fieldLink RX10 15 "ProofServer$Syntax" "values" "[I") (by decide +kernel)) (fun _ h9 => h9) rfl dX10_isArity_11 ?_
    refine lv_aload_n hx hb dX10_isArity_14 rfl (lv_at hl 0 rfl) ?_
    refine va_get (D := (dC, dI)) (ci := 12) (v := .int at_2) (C := RX10) (T := TX10) (N := 11) hx hb hts hin_12 hown hK (jp_one hat_a_14) 0 rfl rfl 4 (by decide) (hts (.fieldLink RX10 83 "ProofServer$Syntax" "at" "I") (by decide +kernel)) (fun _ h9 => h9) rfl dX10_isArity_15 ?_
    have hiz_15 : _ := jb_in (i := at_2) (n := 1500) (rfl) (by omega) (by omega)
    refine va_iald hx hb hK (jp_one hat_values_14) 0 1 rfl rfl hiz_15 dX10_isArity_18 ?_
    refine lv_topi (fun z_15 ez_15 => ?_)
    refine lv_goto (tgt := 23) hx hb dX10_isArity_19 (by decide) ?_
    refine j_put (D := (dC, dI)) (ci := 12) (v := .int z_15) (ty := .int) (C := RX10) (T := TX10) (N := 11) (A := jA base) hx hb hts hin_12 tyX10 tyX10_ok nmX10 hown hK hat_a_14 (hX_2.2 _ _ hg_a).1 hS_2.2.2 rfl 8 (by decide) (hts (.fieldLink RX10 92 "ProofServer$Syntax" "terms" "I") (by decide +kernel)) (fun _ h9 => h9) rfl (by decide +kernel) rfl rfl (Nat.le_of_ble_eq_true rfl) dX10_isArity_23 (fun H1 locs1 hat1 hsz1 hfr1 hT1 hL1 => ?_)
    have hX_17 := hX_2.put hB hg_a (by omega) jSup.root hm_a hsz1 hfr1
    have hM_17 := hM_2.put jExt.rf hrt_a jSup.root (by simp) hfr1
    have hz_17 := hsz1.trans hz_2
    have hT_17 := hT1.trans hT_2
    have hS_17 := jS_put hS_2 hsz1 hfr1 (hX_2.2 _ _ hg_a).1 hL1
    have hat_kinds_14_17 := hat_kinds_14.kept (hfr1 _ (jne hg_kinds_14 hg_a (by simp)))
    have hat_values_14_17 := hat_values_14.kept (hfr1 _ (jne hg_values_14 hg_a (by simp)))
    have hat_told_14_17 := hat_told_14.kept (hfr1 _ (jne hg_told_14 hg_a (by simp)))
    have hat_nodes_14_17 := hat_nodes_14.kept (hfr1 _ (jne hg_nodes_14 hg_a (by simp)))
    clear hfr1 hsz1 hT1 hL1
    have hat_a_17 : va_at (dC, dI) vwCl (a, .inr (12, [.ref names_14, .ref kinds_14, .ref values_14, .int tk_2, .int at_2, .int word_14, .ref told_14, .int toldCount_14, .int z_15, .ref nodes_14, .int nc_2])) H1 := hat1
    clear hat1
    refine lv_aload_n hx hb dX10_isArity_26 rfl (lv_at hl 0 rfl) ?_
    refine lv_dup hx hb dX10_isArity_27 rfl ?_
    refine va_get (D := (dC, dI)) (ci := 12) (v := .int at_2) (C := RX10) (T := TX10) (N := 11) hx hb hts hin_12 hown hK (jp_one hat_a_17) 0 rfl rfl 4 (by decide) (hts (.fieldLink RX10 83 "ProofServer$Syntax" "at" "I") (by decide +kernel)) (fun _ h9 => h9) rfl dX10_isArity_28 ?_
    refine lv_iconst (v := 1) hx hb dX10_isArity_31 (by decide) ?_
    refine lv_iadd hx hb dX10_isArity_32 ?_
    refine lv_topi (fun z_18 ez_18 => ?_)
    have hz_18 : z_18.toInt = at_2.toInt + 1 := by rw [ez_18]; exact jb_iadd (rfl) ((by decide)) (by omega) (by omega)
    refine j_put (D := (dC, dI)) (ci := 12) (v := .int z_18) (ty := .int) (C := RX10) (T := TX10) (N := 11) (A := jA base) hx hb hts hin_12 tyX10 tyX10_ok nmX10 hown hK hat_a_17 (hX_17.2 _ _ hg_a).1 hS_17.2.2 rfl 4 (by decide) (hts (.fieldLink RX10 83 "ProofServer$Syntax" "at" "I") (by decide +kernel)) (fun _ h9 => h9) rfl (by decide +kernel) rfl rfl (Nat.le_of_ble_eq_true rfl) dX10_isArity_33 (fun H1 locs1 hat1 hsz1 hfr1 hT1 hL1 => ?_)
    have hX_20 := hX_17.put hB hg_a (by omega) jSup.root hm_a hsz1 hfr1
    have hM_20 := hM_17.put jExt.rf hrt_a jSup.root (by simp) hfr1
    have hz_20 := hsz1.trans hz_17
    have hT_20 := hT1.trans hT_17
    have hS_20 := jS_put hS_17 hsz1 hfr1 (hX_17.2 _ _ hg_a).1 hL1
    have hat_kinds_14_17_20 := hat_kinds_14_17.kept (hfr1 _ (jne hg_kinds_14 hg_a (by simp)))
    have hat_values_14_17_20 := hat_values_14_17.kept (hfr1 _ (jne hg_values_14 hg_a (by simp)))
    have hat_told_14_17_20 := hat_told_14_17.kept (hfr1 _ (jne hg_told_14 hg_a (by simp)))
    have hat_nodes_14_17_20 := hat_nodes_14_17.kept (hfr1 _ (jne hg_nodes_14 hg_a (by simp)))
    clear hfr1 hsz1 hT1 hL1
    have hat_a_20 : va_at (dC, dI) vwCl (a, .inr (12, [.ref names_14, .ref kinds_14, .ref values_14, .int tk_2, .int z_18, .int word_14, .ref told_14, .int toldCount_14, .int z_15, .ref nodes_14, .int nc_2])) H1 := hat1
    clear hat1
    refine lv_aload_n hx hb dX10_isArity_36 rfl (lv_at hl 0 rfl) ?_
    refine va_get (D := (dC, dI)) (ci := 12) (v := .int z_15) (C := RX10) (T := TX10) (N := 11) hx hb hts hin_12 hown hK (jp_one hat_a_20) 0 rfl rfl 8 (by decide) (hts (.fieldLink RX10 92 "ProofServer$Syntax" "terms" "I") (by decide +kernel)) (fun _ h9 => h9) rfl dX10_isArity_37 ?_
    refine lv_if_lt (tgt := 55) hx hb dX10_isArity_40 (by decide) (fun c_21 => ?_) (fun c_21 => ?_)
    · skip
      have c_21' : z_15.toInt < 0 := jb_lt (rfl) ((by decide)) c_21
      refine lv_iconst (v := 0) hx hb dX10_isArity_55 (by decide) ?_
      have he_22 : jB12e dC dI ca G0 a tk_2 z_18 nc_2 H1 := ⟨names_14, kinds_14, values_14, word_14, told_14, toldCount_14, z_15, nodes_14, f_kinds_14, f_values_14, f_told_14, f_nodes_14, hat_a_20, hat_kinds_14_17_20, hat_values_14_17_20, hat_told_14_17_20, hat_nodes_14_17_20, hg_kinds_14, hg_values_14, hg_told_14, hg_nodes_14, hg_names_14, by first | omega | assumption | (simp; done) | exact Or.inl rfl | exact Or.inr rfl, by first | omega | assumption | (simp; done) | exact Or.inl rfl | exact Or.inr rfl⟩
      rw [hQ]
      exact W.zret (v := 0) hx hb hr (jb_nz (Or.inl rfl)) (fun t ht hW => ⟨⟨0, (tk_2, z_18, nc_2), rfl, ⟨(Or.inl rfl), by refine ⟨?_, ?_, ?_, ?_, ?_, ?_, ?_⟩ <;> first | rfl | omega | (left; omega) | (right; omega) | exact Or.inl ⟨by decide, rfl⟩ | (simp only; omega)⟩, by rw [ht]; try exact hX_20, by rw [ht]; try exact he_22, by rw [ht]; try exact hM_20, by rw [ht]; try exact hz_20, by rw [ht]; try exact hT_20⟩, by rw [ht]; try exact hS_20.1, fun q h9 hq => by rw [ht]; try exact hS_20.2.1 q h9 hq⟩) hS_20.2.2 dX10_isArity_56
    · skip
      have c_21' : z_15.toInt ≥ 0 := jb_lt_n (rfl) ((by decide)) c_21
      refine lv_aload_n hx hb dX10_isArity_43 rfl (lv_at hl 0 rfl) ?_
      refine va_get (D := (dC, dI)) (ci := 12) (v := .int z_15) (C := RX10) (T := TX10) (N := 11) hx hb hts hin_12 hown hK (jp_one hat_a_20) 0 rfl rfl 8 (by decide) (hts (.fieldLink RX10 92 "ProofServer$Syntax" "terms" "I") (by decide +kernel)) (fun _ h9 => h9) rfl dX10_isArity_44 ?_
      refine lv_iconst (v := 3) hx hb dX10_isArity_47 (by decide) ?_
      refine lv_icmp_gt (tgt := 55) hx hb dX10_isArity_48 (by decide) (fun c_23 => ?_) (fun c_23 => ?_)
      · skip
        have c_23' : z_15.toInt > 3 := jb_gt (rfl) ((by decide)) c_23
        refine lv_iconst (v := 0) hx hb dX10_isArity_55 (by decide) ?_
        have he_24 : jB12e dC dI ca G0 a tk_2 z_18 nc_2 H1 := ⟨names_14, kinds_14, values_14, word_14, told_14, toldCount_14, z_15, nodes_14, f_kinds_14, f_values_14, f_told_14, f_nodes_14, hat_a_20, hat_kinds_14_17_20, hat_values_14_17_20, hat_told_14_17_20, hat_nodes_14_17_20, hg_kinds_14, hg_values_14, hg_told_14, hg_nodes_14, hg_names_14, by first | omega | assumption | (simp; done) | exact Or.inl rfl | exact Or.inr rfl, by first | omega | assumption | (simp; done) | exact Or.inl rfl | exact Or.inr rfl⟩
        rw [hQ]
        exact W.zret (v := 0) hx hb hr (jb_nz (Or.inl rfl)) (fun t ht hW => ⟨⟨0, (tk_2, z_18, nc_2), rfl, ⟨(Or.inl rfl), by refine ⟨?_, ?_, ?_, ?_, ?_, ?_, ?_⟩ <;> first | rfl | omega | (left; omega) | (right; omega) | exact Or.inl ⟨by decide, rfl⟩ | (simp only; omega)⟩, by rw [ht]; try exact hX_20, by rw [ht]; try exact he_24, by rw [ht]; try exact hM_20, by rw [ht]; try exact hz_20, by rw [ht]; try exact hT_20⟩, by rw [ht]; try exact hS_20.1, fun q h9 hq => by rw [ht]; try exact hS_20.2.1 q h9 hq⟩) hS_20.2.2 dX10_isArity_56
      · skip
        have c_23' : z_15.toInt ≤ 3 := jb_gt_n (rfl) ((by decide)) c_23
        refine lv_iconst (v := 1) hx hb dX10_isArity_51 (by decide) ?_
        refine lv_goto (tgt := 56) hx hb dX10_isArity_52 (by decide) ?_
        have he_25 : jB12e dC dI ca G0 a tk_2 z_18 nc_2 H1 := ⟨names_14, kinds_14, values_14, word_14, told_14, toldCount_14, z_15, nodes_14, f_kinds_14, f_values_14, f_told_14, f_nodes_14, hat_a_20, hat_kinds_14_17_20, hat_values_14_17_20, hat_told_14_17_20, hat_nodes_14_17_20, hg_kinds_14, hg_values_14, hg_told_14, hg_nodes_14, hg_names_14, by first | omega | assumption | (simp; done) | exact Or.inl rfl | exact Or.inr rfl, by first | omega | assumption | (simp; done) | exact Or.inl rfl | exact Or.inr rfl⟩
        rw [hQ]
        exact W.zret (v := 1) hx hb hr (jb_nz (Or.inr rfl)) (fun t ht hW => ⟨⟨1, (tk_2, z_18, nc_2), rfl, ⟨(Or.inr rfl), by refine ⟨?_, ?_, ?_, ?_, ?_, ?_, ?_⟩ <;> first | rfl | omega | (left; omega) | (right; omega) | exact Or.inl ⟨by decide, rfl⟩ | (simp only; omega)⟩, by rw [ht]; try exact hX_20, by rw [ht]; try exact he_25, by rw [ht]; try exact hM_20, by rw [ht]; try exact hz_20, by rw [ht]; try exact hT_20⟩, by rw [ht]; try exact hS_20.1, fun q h9 hq => by rw [ht]; try exact hS_20.2.1 q h9 hq⟩) hS_20.2.2 dX10_isArity_56
set_option maxHeartbeats 4000000 in
set_option maxRecDepth 20000 in
theorem tX10_addNode (l : Launch) (dC : Nat → ClassId) (dI : Nat → Nat → Nat) (ca : Nat → ClassId) (base : Nat) (B : jF) (hB : jBok B) (G0 : jT) (X : List Nat) (H0 : Heap) (a : Nat) (nd : Int32) (tk0 at0 nc0 : Int32) : Met l yX10_addNode wsX10_addNode ({ frames := 0, cells := 0, slots := 0, locals := 0 }) (va_Pc [.ref a, .int nd] (fun U => U.heap = H0 ∧ jX B base G0 X H0 ∧ jG dC dI ca base U ∧ G0 a = some (12, 0) ∧ a ∈ X ∧ jB12e dC dI ca G0 a tk0 at0 nc0 H0 ∧ (0 ≤ tk0.toInt ∧ tk0.toInt ≤ 1500 ∧ 0 ≤ at0.toInt ∧ 0 ≤ nc0.toInt ∧ nc0.toInt ≤ 3000 ∧ at0.toInt ≤ tk0.toInt + 3))) (va_Qi (S := Int32 × Int32 × Int32) (fun r u => (r = 0 ∨ r = 1) ∧ u.1.toInt = tk0.toInt ∧ 0 ≤ u.2.1.toInt ∧ nc0.toInt ≤ u.2.2.toInt ∧ u.2.2.toInt ≤ 3000 ∧ u.2.1.toInt = at0.toInt ∧ ((r.toInt = 0 ∧ u.2.2.toInt = nc0.toInt) ∨ u.2.2.toInt = nc0.toInt + 1)) (fun u t => jX B base G0 X t.heap ∧ jB12e dC dI ca G0 a u.1 u.2.1 u.2.2 t.heap ∧  jModP G0 (fun r => r = a) H0 t.heap ∧ t.heap.size = H0.size ∧ jTot t.heap = jTot H0) (jA base)) 0 0 (jA base) := by
  refine Met.ofW (cc := cX10_addNode) (maxL := 2) (ret := (some .boolean)) (by decide) rfl ?_
  intro p e s m args below meth c s₁ Bd hml hv
  obtain ⟨rfl, hH0, hX, hG, hg_a, hm_a, he_a, ht0, ht1, ha0, hn0, hn1, hpre⟩ := hv
  have hK := hG.1
  have hx := Bd.exec
  have hb := Bd.bytes
  have hr := Bd.returns
  have hts := atoms_spec (ws := wsX10_addNode) Bd.pre
  have hown : s.vm.findClass RX10 = some m.cls := findClass_of_methodNamed Bd.named
  have hlocks := Bd.notSynchronized
  have hin_12 : ∀ w ∈ u_ws RX10 TX10 11, w ∈ wsX10_addNode := by decide +kernel
  obtain ⟨Q, hQ⟩ : ∃ Q, Q = MQ below (va_Qi (S := Int32 × Int32 × Int32) (fun r u => (r = 0 ∨ r = 1) ∧ u.1.toInt = tk0.toInt ∧ 0 ≤ u.2.1.toInt ∧ nc0.toInt ≤ u.2.2.toInt ∧ u.2.2.toInt ≤ 3000 ∧ u.2.1.toInt = at0.toInt ∧ ((r.toInt = 0 ∧ u.2.2.toInt = nc0.toInt) ∨ u.2.2.toInt = nc0.toInt + 1)) (fun u t => jX B base G0 X t.heap ∧ jB12e dC dI ca G0 a u.1 u.2.1 u.2.2 t.heap ∧  jModP G0 (fun r => r = a) H0 t.heap ∧ t.heap.size = H0.size ∧ jTot t.heap = jTot H0) (jA base)) ([.ref a, .int nd] : List Value).toArray s 0 0 (jA base) := ⟨_, rfl⟩
  rw [← hQ]
  have hl := lv_entry ([.ref a, .int nd]) (n := 2) (Nat.le_of_ble_eq_true rfl)
  rw [lg_entry_eq]
  generalize (lg_sl ([.ref a, .int nd]) ++ List.replicate (2 - (lg_sl ([.ref a, .int nd])).length) Slot.unset).toArray = ls at hl ⊢
  have hl : lv_has ls 2 [(0, .ref a), (1, .int nd)] := hl
  generalize hR : (headSpec wsX10_addNode ({ frames := 0, cells := 0, slots := 0, locals := 0 })).room = R
  subst hH0
  have hS : va_S (jA base) s.heap s.heap [] := va_S.rf
  have hM : jModP G0 (fun r => r = a) s.heap s.heap := jModP.rf
  have hz : s.heap.size = s.heap.size := rfl
  have hT : jTot s.heap = jTot s.heap := rfl
  have hlt_a := hX.2 _ _ hg_a
  have hrt_a : jRoot G0 a := ⟨_, _, hg_a, by omega⟩
  have hk0 : (0 : Int32).toInt = 0 := by decide
  have hk1 : (1 : Int32).toInt = 1 := by decide
  have hk3000 : (3000 : Int32).toInt = 3000 := by decide
  refine lv_aload_n hx hb dX10_addNode_0 rfl (lv_at hl 0 rfl) ?_
  obtain ⟨names_1, kinds_1, values_1, word_1, told_1, toldCount_1, terms_1, nodes_1, f_kinds_1, f_values_1, f_told_1, f_nodes_1, hat_a_1, hat_kinds_1, hat_values_1, hat_told_1, hat_nodes_1, hg_kinds_1, hg_values_1, hg_told_1, hg_nodes_1, hg_names_1, hf0_1, hf1_1⟩ := id he_a
  have hlt_names_1 := hX.2 _ _ hg_names_1
  have hrt_names_1 : jRoot G0 names_1 := ⟨_, _, hg_names_1, by omega⟩
  refine va_get (D := (dC, dI)) (ci := 12) (v := .int nc0) (C := RX10) (T := TX10) (N := 11) hx hb hts hin_12 hown hK (jp_one hat_a_1) 0 rfl rfl 10 (by decide) (hts (.fieldLink RX10 89 "ProofServer$Syntax" "nodeCount" "I") (by decide +kernel)) (fun _ h9 => h9) rfl dX10_addNode_1 ?_
  refine lv_sipush (v := 3000) hx hb dX10_addNode_4 (by decide) ?_
  refine lv_icmp_lt (tgt := 12) hx hb dX10_addNode_7 (by decide) (fun c_2 => ?_) (fun c_2 => ?_)
  · skip
    have c_2' : nc0.toInt < 3000 := jb_lt (rfl) ((by decide)) c_2
    refine lv_aload_n hx hb dX10_addNode_12 rfl (lv_at hl 0 rfl) ?_
    refine va_get (D := (dC, dI)) (ci := 12) (v := .ref nodes_1) (C := RX10) (T := TX10) (N := 11) hx hb hts hin_12 hown hK (jp_one hat_a_1) 0 rfl rfl 9 (by decide) (hts (.fieldLink RX10 21 "ProofServer$Syntax" "nodes" "[I") (by decide +kernel)) (fun _ h9 => h9) rfl dX10_addNode_13 ?_
    refine lv_aload_n hx hb dX10_addNode_16 rfl (lv_at hl 0 rfl) ?_
    refine va_get (D := (dC, dI)) (ci := 12) (v := .int nc0) (C := RX10) (T := TX10) (N := 11) hx hb hts hin_12 hown hK (jp_one hat_a_1) 0 rfl rfl 10 (by decide) (hts (.fieldLink RX10 89 "ProofServer$Syntax" "nodeCount" "I") (by decide +kernel)) (fun _ h9 => h9) rfl dX10_addNode_17 ?_
    refine lv_iload_n hx hb dX10_addNode_20 rfl (lv_at hl 1 rfl) ?_
    refine j_iast (A := jA base) hx hb hK 1 hat_nodes_1 (hX.2 _ _ hg_nodes_1).1 hS.2.2 rfl (jb_in (i := nc0) (n := 3000) (rfl) (by omega) (by omega)) dX10_addNode_21 (fun H1 locs1 hat1 hsz1 hfr1 hT1 hL1 => ?_)
    have hX_3 := hX.put hB hg_a (by omega) (jSup.own (i := 3) hg_nodes_1) hm_a hsz1 hfr1
    have hM_3 := hM.put jExt.rf hrt_a (jSup.own (i := 3) hg_nodes_1) (by simp) hfr1
    have hz_3 := hsz1.trans hz
    have hT_3 := hT1.trans hT
    have hS_3 := jS_put hS hsz1 hfr1 (hX.2 _ _ hg_nodes_1).1 hL1
    have hat_a_1_3 := hat_a_1.kept (hfr1 _ (jne hg_a hg_nodes_1 (by simp)))
    have hat_kinds_1_3 := hat_kinds_1.kept (hfr1 _ (jne hg_kinds_1 hg_nodes_1 (by simp)))
    have hat_values_1_3 := hat_values_1.kept (hfr1 _ (jne hg_values_1 hg_nodes_1 (by simp)))
    have hat_told_1_3 := hat_told_1.kept (hfr1 _ (jne hg_told_1 hg_nodes_1 (by simp)))
    clear hfr1 hsz1 hT1 hL1
    have hat_nodes_1_3 : va_at (dC, dI) vwCl (nodes_1, .inl (ca 1, 3000, .inl (upd f_nodes_1 nc0.toNatClampNeg nd))) H1 := hat1
    clear hat1
    refine lv_aload_n hx hb dX10_addNode_22 rfl (lv_at hl 0 rfl) ?_
    refine lv_dup hx hb dX10_addNode_23 rfl ?_
    refine va_get (D := (dC, dI)) (ci := 12) (v := .int nc0) (C := RX10) (T := TX10) (N := 11) hx hb hts hin_12 hown hK (jp_one hat_a_1_3) 0 rfl rfl 10 (by decide) (hts (.fieldLink RX10 89 "ProofServer$Syntax" "nodeCount" "I") (by decide +kernel)) (fun _ h9 => h9) rfl dX10_addNode_24 ?_
    refine lv_iconst (v := 1) hx hb dX10_addNode_27 (by decide) ?_
    refine lv_iadd hx hb dX10_addNode_28 ?_
    refine lv_topi (fun z_4 ez_4 => ?_)
    have hz_4 : z_4.toInt = nc0.toInt + 1 := by rw [ez_4]; exact jb_iadd (rfl) ((by decide)) (by omega) (by omega)
    refine j_put (D := (dC, dI)) (ci := 12) (v := .int z_4) (ty := .int) (C := RX10) (T := TX10) (N := 11) (A := jA base) hx hb hts hin_12 tyX10 tyX10_ok nmX10 hown hK hat_a_1_3 (hX_3.2 _ _ hg_a).1 hS_3.2.2 rfl 10 (by decide) (hts (.fieldLink RX10 89 "ProofServer$Syntax" "nodeCount" "I") (by decide +kernel)) (fun _ h9 => h9) rfl (by decide +kernel) rfl rfl (Nat.le_of_ble_eq_true rfl) dX10_addNode_29 (fun H1 locs1 hat1 hsz1 hfr1 hT1 hL1 => ?_)
    have hX_6 := hX_3.put hB hg_a (by omega) jSup.root hm_a hsz1 hfr1
    have hM_6 := hM_3.put jExt.rf hrt_a jSup.root (by simp) hfr1
    have hz_6 := hsz1.trans hz_3
    have hT_6 := hT1.trans hT_3
    have hS_6 := jS_put hS_3 hsz1 hfr1 (hX_3.2 _ _ hg_a).1 hL1
    have hat_kinds_1_3_6 := hat_kinds_1_3.kept (hfr1 _ (jne hg_kinds_1 hg_a (by simp)))
    have hat_values_1_3_6 := hat_values_1_3.kept (hfr1 _ (jne hg_values_1 hg_a (by simp)))
    have hat_told_1_3_6 := hat_told_1_3.kept (hfr1 _ (jne hg_told_1 hg_a (by simp)))
    have hat_nodes_1_3_6 := hat_nodes_1_3.kept (hfr1 _ (jne hg_nodes_1 hg_a (by simp)))
    clear hfr1 hsz1 hT1 hL1
    have hat_a_6 : va_at (dC, dI) vwCl (a, .inr (12, [.ref names_1, .ref kinds_1, .ref values_1, .int tk0, .int at0, .int word_1, .ref told_1, .int toldCount_1, .int terms_1, .ref nodes_1, .int z_4])) H1 := hat1
    clear hat1
    refine lv_iconst (v := 1) hx hb dX10_addNode_32 (by decide) ?_
    have he_7 : jB12e dC dI ca G0 a tk0 at0 z_4 H1 := ⟨names_1, kinds_1, values_1, word_1, told_1, toldCount_1, terms_1, nodes_1, f_kinds_1, f_values_1, f_told_1, (upd f_nodes_1 nc0.toNatClampNeg nd), hat_a_6, hat_kinds_1_3_6, hat_values_1_3_6, hat_told_1_3_6, hat_nodes_1_3_6, hg_kinds_1, hg_values_1, hg_told_1, hg_nodes_1, hg_names_1, by first | omega | assumption | (simp; done) | exact Or.inl rfl | exact Or.inr rfl, by first | omega | assumption | (simp; done) | exact Or.inl rfl | exact Or.inr rfl⟩
    rw [hQ]
    exact W.zret (v := 1) hx hb hr (jb_nz (Or.inr rfl)) (fun t ht hW => ⟨⟨1, (tk0, at0, z_4), rfl, ⟨(Or.inr rfl), by refine ⟨?_, ?_, ?_, ?_, ?_, ?_⟩ <;> first | rfl | omega | (left; omega) | (right; omega) | exact Or.inl ⟨by decide, rfl⟩ | (simp only; omega)⟩, by rw [ht]; try exact hX_6, by rw [ht]; try exact he_7, by rw [ht]; try exact hM_6, by rw [ht]; try exact hz_6, by rw [ht]; try exact hT_6⟩, by rw [ht]; try exact hS_6.1, fun q h9 hq => by rw [ht]; try exact hS_6.2.1 q h9 hq⟩) hS_6.2.2 dX10_addNode_33
  · skip
    have c_2' : nc0.toInt ≥ 3000 := jb_lt_n (rfl) ((by decide)) c_2
    refine lv_iconst (v := 0) hx hb dX10_addNode_10 (by decide) ?_
    have he_8 : jB12e dC dI ca G0 a tk0 at0 nc0 s.heap := ⟨names_1, kinds_1, values_1, word_1, told_1, toldCount_1, terms_1, nodes_1, f_kinds_1, f_values_1, f_told_1, f_nodes_1, hat_a_1, hat_kinds_1, hat_values_1, hat_told_1, hat_nodes_1, hg_kinds_1, hg_values_1, hg_told_1, hg_nodes_1, hg_names_1, by first | omega | assumption | (simp; done) | exact Or.inl rfl | exact Or.inr rfl, by first | omega | assumption | (simp; done) | exact Or.inl rfl | exact Or.inr rfl⟩
    rw [hQ]
    exact W.zret (v := 0) hx hb hr (jb_nz (Or.inl rfl)) (fun t ht hW => ⟨⟨0, (tk0, at0, nc0), rfl, ⟨(Or.inl rfl), by refine ⟨?_, ?_, ?_, ?_, ?_, ?_⟩ <;> first | rfl | omega | (left; omega) | (right; omega) | exact Or.inl ⟨by decide, rfl⟩ | (simp only; omega)⟩, by rw [ht]; try exact hX, by rw [ht]; try exact he_8, by rw [ht]; try exact hM, by rw [ht]; try exact hz, by rw [ht]; try exact hT⟩, by rw [ht]; try exact hS.1, fun q h9 hq => by rw [ht]; try exact hS.2.1 q h9 hq⟩) hS.2.2 dX10_addNode_11
set_option maxHeartbeats 4000000 in
set_option maxRecDepth 20000 in
theorem tX10_insertNode (l : Launch) (dC : Nat → ClassId) (dI : Nat → Nat → Nat) (ca : Nat → ClassId) (base : Nat) (B : jF) (hB : jBok B) (G0 : jT) (X : List Nat) (H0 : Heap) (a : Nat) (pl nd : Int32) (tk0 at0 nc0 : Int32) : Met l yX10_insertNode wsX10_insertNode ({ frames := 0, cells := 0, slots := 0, locals := 0 }) (va_Pc [.ref a, .int pl, .int nd] (fun U => U.heap = H0 ∧ jX B base G0 X H0 ∧ jG dC dI ca base U ∧ G0 a = some (12, 0) ∧ a ∈ X ∧ jB12e dC dI ca G0 a tk0 at0 nc0 H0 ∧ (0 ≤ tk0.toInt ∧ tk0.toInt ≤ 1500 ∧ 0 ≤ at0.toInt ∧ 0 ≤ nc0.toInt ∧ nc0.toInt ≤ 3000 ∧ at0.toInt ≤ tk0.toInt + 3))) (va_Qi (S := Int32 × Int32 × Int32) (fun r u => (r = 0 ∨ r = 1) ∧ u.1.toInt = tk0.toInt ∧ 0 ≤ u.2.1.toInt ∧ nc0.toInt ≤ u.2.2.toInt ∧ u.2.2.toInt ≤ 3000 ∧ u.2.1.toInt = at0.toInt ∧ ((r.toInt = 0 ∧ u.2.2.toInt = nc0.toInt) ∨ u.2.2.toInt = nc0.toInt + 1)) (fun u t => jX B base G0 X t.heap ∧ jB12e dC dI ca G0 a u.1 u.2.1 u.2.2 t.heap ∧  jModP G0 (fun r => r = a) H0 t.heap ∧ t.heap.size = H0.size ∧ jTot t.heap = jTot H0) (jA base)) 0 0 (jA base) := by
  refine Met.ofW (cc := cX10_insertNode) (maxL := 4) (ret := (some .boolean)) (by decide) rfl ?_
  intro p e s m args below meth c s₁ Bd hml hv
  obtain ⟨rfl, hH0, hX, hG, hg_a, hm_a, he_a, ht0, ht1, ha0, hn0, hn1, hpre⟩ := hv
  have hK := hG.1
  have hx := Bd.exec
  have hb := Bd.bytes
  have hr := Bd.returns
  have hts := atoms_spec (ws := wsX10_insertNode) Bd.pre
  have hown : s.vm.findClass RX10 = some m.cls := findClass_of_methodNamed Bd.named
  have hlocks := Bd.notSynchronized
  have hin_12 : ∀ w ∈ u_ws RX10 TX10 11, w ∈ wsX10_insertNode := by decide +kernel
  obtain ⟨Q, hQ⟩ : ∃ Q, Q = MQ below (va_Qi (S := Int32 × Int32 × Int32) (fun r u => (r = 0 ∨ r = 1) ∧ u.1.toInt = tk0.toInt ∧ 0 ≤ u.2.1.toInt ∧ nc0.toInt ≤ u.2.2.toInt ∧ u.2.2.toInt ≤ 3000 ∧ u.2.1.toInt = at0.toInt ∧ ((r.toInt = 0 ∧ u.2.2.toInt = nc0.toInt) ∨ u.2.2.toInt = nc0.toInt + 1)) (fun u t => jX B base G0 X t.heap ∧ jB12e dC dI ca G0 a u.1 u.2.1 u.2.2 t.heap ∧  jModP G0 (fun r => r = a) H0 t.heap ∧ t.heap.size = H0.size ∧ jTot t.heap = jTot H0) (jA base)) ([.ref a, .int pl, .int nd] : List Value).toArray s 0 0 (jA base) := ⟨_, rfl⟩
  rw [← hQ]
  have hl := lv_entry ([.ref a, .int pl, .int nd]) (n := 4) (Nat.le_of_ble_eq_true rfl)
  rw [lg_entry_eq]
  generalize (lg_sl ([.ref a, .int pl, .int nd]) ++ List.replicate (4 - (lg_sl ([.ref a, .int pl, .int nd])).length) Slot.unset).toArray = ls at hl ⊢
  have hl : lv_has ls 4 [(0, .ref a), (1, .int pl), (2, .int nd)] := hl
  generalize hR : (headSpec wsX10_insertNode ({ frames := 0, cells := 0, slots := 0, locals := 0 })).room = R
  subst hH0
  have hS : va_S (jA base) s.heap s.heap [] := va_S.rf
  have hM : jModP G0 (fun r => r = a) s.heap s.heap := jModP.rf
  have hz : s.heap.size = s.heap.size := rfl
  have hT : jTot s.heap = jTot s.heap := rfl
  have hlt_a := hX.2 _ _ hg_a
  have hrt_a : jRoot G0 a := ⟨_, _, hg_a, by omega⟩
  have hk0 : (0 : Int32).toInt = 0 := by decide
  have hk1 : (1 : Int32).toInt = 1 := by decide
  have hk3000 : (3000 : Int32).toInt = 3000 := by decide
  refine lv_iload_n hx hb dX10_insertNode_0 rfl (lv_at hl 1 rfl) ?_
  refine lv_if_lt (tgt := 22) hx hb dX10_insertNode_1 (by decide) (fun c_1 => ?_) (fun c_1 => ?_)
  · skip
    have c_1' : pl.toInt < 0 := jb_lt (rfl) ((by decide)) c_1
    refine lv_iconst (v := 0) hx hb dX10_insertNode_22 (by decide) ?_
    rw [hQ]
    exact W.zret (v := 0) hx hb hr (jb_nz (Or.inl rfl)) (fun t ht hW => ⟨⟨0, (tk0, at0, nc0), rfl, ⟨(Or.inl rfl), by refine ⟨?_, ?_, ?_, ?_, ?_, ?_⟩ <;> first | rfl | omega | (left; omega) | (right; omega) | exact Or.inl ⟨by decide, rfl⟩ | (simp only; omega)⟩, by rw [ht]; try exact hX, by rw [ht]; try exact he_a, by rw [ht]; try exact hM, by rw [ht]; try exact hz, by rw [ht]; try exact hT⟩, by rw [ht]; try exact hS.1, fun q h9 hq => by rw [ht]; try exact hS.2.1 q h9 hq⟩) hS.2.2 dX10_insertNode_23
  · skip
    have c_1' : pl.toInt ≥ 0 := jb_lt_n (rfl) ((by decide)) c_1
    refine lv_iload_n hx hb dX10_insertNode_4 rfl (lv_at hl 1 rfl) ?_
    refine lv_aload_n hx hb dX10_insertNode_5 rfl (lv_at hl 0 rfl) ?_
    obtain ⟨names_2, kinds_2, values_2, word_2, told_2, toldCount_2, terms_2, nodes_2, f_kinds_2, f_values_2, f_told_2, f_nodes_2, hat_a_2, hat_kinds_2, hat_values_2, hat_told_2, hat_nodes_2, hg_kinds_2, hg_values_2, hg_told_2, hg_nodes_2, hg_names_2, hf0_2, hf1_2⟩ := id he_a
    have hlt_names_2 := hX.2 _ _ hg_names_2
    have hrt_names_2 : jRoot G0 names_2 := ⟨_, _, hg_names_2, by omega⟩
    refine va_get (D := (dC, dI)) (ci := 12) (v := .int nc0) (C := RX10) (T := TX10) (N := 11) hx hb hts hin_12 hown hK (jp_one hat_a_2) 0 rfl rfl 10 (by decide) (hts (.fieldLink RX10 89 "ProofServer$Syntax" "nodeCount" "I") (by decide +kernel)) (fun _ h9 => h9) rfl dX10_insertNode_6 ?_
    refine lv_icmp_gt (tgt := 22) hx hb dX10_insertNode_9 (by decide) (fun c_3 => ?_) (fun c_3 => ?_)
    · skip
      have c_3' : pl.toInt > nc0.toInt := jb_gt (rfl) (rfl) c_3
      refine lv_iconst (v := 0) hx hb dX10_insertNode_22 (by decide) ?_
      have he_4 : jB12e dC dI ca G0 a tk0 at0 nc0 s.heap := ⟨names_2, kinds_2, values_2, word_2, told_2, toldCount_2, terms_2, nodes_2, f_kinds_2, f_values_2, f_told_2, f_nodes_2, hat_a_2, hat_kinds_2, hat_values_2, hat_told_2, hat_nodes_2, hg_kinds_2, hg_values_2, hg_told_2, hg_nodes_2, hg_names_2, by first | omega | assumption | (simp; done) | exact Or.inl rfl | exact Or.inr rfl, by first | omega | assumption | (simp; done) | exact Or.inl rfl | exact Or.inr rfl⟩
      rw [hQ]
      exact W.zret (v := 0) hx hb hr (jb_nz (Or.inl rfl)) (fun t ht hW => ⟨⟨0, (tk0, at0, nc0), rfl, ⟨(Or.inl rfl), by refine ⟨?_, ?_, ?_, ?_, ?_, ?_⟩ <;> first | rfl | omega | (left; omega) | (right; omega) | exact Or.inl ⟨by decide, rfl⟩ | (simp only; omega)⟩, by rw [ht]; try exact hX, by rw [ht]; try exact he_4, by rw [ht]; try exact hM, by rw [ht]; try exact hz, by rw [ht]; try exact hT⟩, by rw [ht]; try exact hS.1, fun q h9 hq => by rw [ht]; try exact hS.2.1 q h9 hq⟩) hS.2.2 dX10_insertNode_23
    · skip
      have c_3' : pl.toInt ≤ nc0.toInt := jb_gt_n (rfl) (rfl) c_3
      refine lv_aload_n hx hb dX10_insertNode_12 rfl (lv_at hl 0 rfl) ?_
      refine va_get (D := (dC, dI)) (ci := 12) (v := .int nc0) (C := RX10) (T := TX10) (N := 11) hx hb hts hin_12 hown hK (jp_one hat_a_2) 0 rfl rfl 10 (by decide) (hts (.fieldLink RX10 89 "ProofServer$Syntax" "nodeCount" "I") (by decide +kernel)) (fun _ h9 => h9) rfl dX10_insertNode_13 ?_
      refine lv_sipush (v := 3000) hx hb dX10_insertNode_16 (by decide) ?_
      refine lv_icmp_lt (tgt := 24) hx hb dX10_insertNode_19 (by decide) (fun c_5 => ?_) (fun c_5 => ?_)
      · skip
        have c_5' : nc0.toInt < 3000 := jb_lt (rfl) ((by decide)) c_5
        refine lv_aload_n hx hb dX10_insertNode_24 rfl (lv_at hl 0 rfl) ?_
        refine va_get (D := (dC, dI)) (ci := 12) (v := .int nc0) (C := RX10) (T := TX10) (N := 11) hx hb hts hin_12 hown hK (jp_one hat_a_2) 0 rfl rfl 10 (by decide) (hts (.fieldLink RX10 89 "ProofServer$Syntax" "nodeCount" "I") (by decide +kernel)) (fun _ h9 => h9) rfl dX10_insertNode_25 ?_
        refine lv_istore_n (lv' := [(3, .int nc0), (0, .ref a), (1, .int pl), (2, .int nd)]) hx hb dX10_insertNode_28 rfl hl (by decide) rfl (fun ls hl => ?_)
        have he_6 : jB12e dC dI ca G0 a tk0 at0 nc0 s.heap := ⟨names_2, kinds_2, values_2, word_2, told_2, toldCount_2, terms_2, nodes_2, f_kinds_2, f_values_2, f_told_2, f_nodes_2, hat_a_2, hat_kinds_2, hat_values_2, hat_told_2, hat_nodes_2, hg_kinds_2, hg_values_2, hg_told_2, hg_nodes_2, hg_names_2, by first | omega | assumption | (simp; done) | exact Or.inl rfl | exact Or.inr rfl, by first | omega | assumption | (simp; done) | exact Or.inl rfl | exact Or.inr rfl⟩
        have L29 : ∀ (N : Nat) (iv : Int32) (tkv atv ncv : Int32) (H : Heap) (locs : List Loc), jB12e dC dI ca G0 a tkv atv ncv H → jX B base G0 X H → va_S (jA base) s.heap H locs → jModP G0 (fun r => r = a) s.heap H → H.size = s.heap.size → jTot H = jTot s.heap → (pl.toInt ≤ iv.toInt ∧ iv.toInt ≤ 2999 ∧ tkv.toInt = tk0.toInt ∧ atv.toInt = at0.toInt ∧ ncv.toInt = nc0.toInt) → (iv.toInt - pl.toInt : Int) < N → ∀ ls : Array Slot, lv_has ls 4 [(0, .ref a), (1, .int pl), (2, .int nd), (3, .int iv)] → W p l e R s m ([.ref a, .int pl, .int nd] : List Value).toArray below meth c H locs 0 0 Q (F0 m 29 ls []) := by
          intro N
          induction N with
          | zero => intro iv tkv atv ncv H locs he hX hS hM hz hT hi hm; exact absurd hm (by omega)
          | succ N ih =>
            have L29 := ih
            intro iv tkv atv ncv H locs he hX hS hM hz hT hi hm ls hl
            obtain ⟨hi0, hi1, hi2, hi3, hi4⟩ := hi
            refine lv_iload_n hx hb dX10_insertNode_29 rfl (lv_at hl 3 rfl) ?_
            refine lv_iload_n hx hb dX10_insertNode_30 rfl (lv_at hl 1 rfl) ?_
            refine lv_icmp_le (tgt := 54) hx hb dX10_insertNode_31 (by decide) (fun c_7 => ?_) (fun c_7 => ?_)
            · skip
              have c_7' : iv.toInt ≤ pl.toInt := jb_le (rfl) (rfl) c_7
              refine lv_aload_n hx hb dX10_insertNode_54 rfl (lv_at hl 0 rfl) ?_
              obtain ⟨names_8, kinds_8, values_8, word_8, told_8, toldCount_8, terms_8, nodes_8, f_kinds_8, f_values_8, f_told_8, f_nodes_8, hat_a_8, hat_kinds_8, hat_values_8, hat_told_8, hat_nodes_8, hg_kinds_8, hg_values_8, hg_told_8, hg_nodes_8, hg_names_8, hf0_8, hf1_8⟩ := id he
              have hlt_names_8 := hX.2 _ _ hg_names_8
              have hrt_names_8 : jRoot G0 names_8 := ⟨_, _, hg_names_8, by omega⟩
              refine va_get (D := (dC, dI)) (ci := 12) (v := .ref nodes_8) (C := RX10) (T := TX10) (N := 11) hx hb hts hin_12 hown hK (jp_one hat_a_8) 0 rfl rfl 9 (by decide) (hts (.fieldLink RX10 21 "ProofServer$Syntax" "nodes" "[I") (by decide +kernel)) (fun _ h9 => h9) rfl dX10_insertNode_55 ?_
              refine lv_iload_n hx hb dX10_insertNode_58 rfl (lv_at hl 1 rfl) ?_
              refine lv_iload_n hx hb dX10_insertNode_59 rfl (lv_at hl 2 rfl) ?_
              refine j_iast (A := jA base) hx hb hK 1 hat_nodes_8 (hX.2 _ _ hg_nodes_8).1 hS.2.2 rfl (jb_in (i := pl) (n := 3000) (rfl) (by omega) (by omega)) dX10_insertNode_60 (fun H1 locs1 hat1 hsz1 hfr1 hT1 hL1 => ?_)
              have hX_9 := hX.put hB hg_a (by omega) (jSup.own (i := 3) hg_nodes_8) hm_a hsz1 hfr1
              have hM_9 := hM.put jExt.rf hrt_a (jSup.own (i := 3) hg_nodes_8) (by simp) hfr1
              have hz_9 := hsz1.trans hz
              have hT_9 := hT1.trans hT
              have hS_9 := jS_put hS hsz1 hfr1 (hX.2 _ _ hg_nodes_8).1 hL1
              have hat_a_8_9 := hat_a_8.kept (hfr1 _ (jne hg_a hg_nodes_8 (by simp)))
              have hat_kinds_8_9 := hat_kinds_8.kept (hfr1 _ (jne hg_kinds_8 hg_nodes_8 (by simp)))
              have hat_values_8_9 := hat_values_8.kept (hfr1 _ (jne hg_values_8 hg_nodes_8 (by simp)))
              have hat_told_8_9 := hat_told_8.kept (hfr1 _ (jne hg_told_8 hg_nodes_8 (by simp)))
              clear hfr1 hsz1 hT1 hL1
              have hat_nodes_8_9 : va_at (dC, dI) vwCl (nodes_8, .inl (ca 1, 3000, .inl (upd f_nodes_8 pl.toNatClampNeg nd))) H1 := hat1
              clear hat1
              refine lv_aload_n hx hb dX10_insertNode_61 rfl (lv_at hl 0 rfl) ?_
              refine lv_dup hx hb dX10_insertNode_62 rfl ?_
              refine va_get (D := (dC, dI)) (ci := 12) (v := .int ncv) (C := RX10) (T := TX10) (N := 11) hx hb hts hin_12 hown hK (jp_one hat_a_8_9) 0 rfl rfl 10 (by decide) (hts (.fieldLink RX10 89 "ProofServer$Syntax" "nodeCount" "I") (by decide +kernel)) (fun _ h9 => h9) rfl dX10_insertNode_63 ?_
              refine lv_iconst (v := 1) hx hb dX10_insertNode_66 (by decide) ?_
              refine lv_iadd hx hb dX10_insertNode_67 ?_
              refine lv_topi (fun z_10 ez_10 => ?_)
              have hz_10 : z_10.toInt = ncv.toInt + 1 := by rw [ez_10]; exact jb_iadd (rfl) ((by decide)) (by omega) (by omega)
              refine j_put (D := (dC, dI)) (ci := 12) (v := .int z_10) (ty := .int) (C := RX10) (T := TX10) (N := 11) (A := jA base) hx hb hts hin_12 tyX10 tyX10_ok nmX10 hown hK hat_a_8_9 (hX_9.2 _ _ hg_a).1 hS_9.2.2 rfl 10 (by decide) (hts (.fieldLink RX10 89 "ProofServer$Syntax" "nodeCount" "I") (by decide +kernel)) (fun _ h9 => h9) rfl (by decide +kernel) rfl rfl (Nat.le_of_ble_eq_true rfl) dX10_insertNode_68 (fun H1 locs1 hat1 hsz1 hfr1 hT1 hL1 => ?_)
              have hX_12 := hX_9.put hB hg_a (by omega) jSup.root hm_a hsz1 hfr1
              have hM_12 := hM_9.put jExt.rf hrt_a jSup.root (by simp) hfr1
              have hz_12 := hsz1.trans hz_9
              have hT_12 := hT1.trans hT_9
              have hS_12 := jS_put hS_9 hsz1 hfr1 (hX_9.2 _ _ hg_a).1 hL1
              have hat_kinds_8_9_12 := hat_kinds_8_9.kept (hfr1 _ (jne hg_kinds_8 hg_a (by simp)))
              have hat_values_8_9_12 := hat_values_8_9.kept (hfr1 _ (jne hg_values_8 hg_a (by simp)))
              have hat_told_8_9_12 := hat_told_8_9.kept (hfr1 _ (jne hg_told_8 hg_a (by simp)))
              have hat_nodes_8_9_12 := hat_nodes_8_9.kept (hfr1 _ (jne hg_nodes_8 hg_a (by simp)))
              clear hfr1 hsz1 hT1 hL1
              have hat_a_12 : va_at (dC, dI) vwCl (a, .inr (12, [.ref names_8, .ref kinds_8, .ref values_8, .int tkv, .int atv, .int word_8, .ref told_8, .int toldCount_8, .int terms_8, .ref nodes_8, .int z_10])) H1 := hat1
              clear hat1
              refine lv_iconst (v := 1) hx hb dX10_insertNode_71 (by decide) ?_
              have he_13 : jB12e dC dI ca G0 a tkv atv z_10 H1 := ⟨names_8, kinds_8, values_8, word_8, told_8, toldCount_8, terms_8, nodes_8, f_kinds_8, f_values_8, f_told_8, (upd f_nodes_8 pl.toNatClampNeg nd), hat_a_12, hat_kinds_8_9_12, hat_values_8_9_12, hat_told_8_9_12, hat_nodes_8_9_12, hg_kinds_8, hg_values_8, hg_told_8, hg_nodes_8, hg_names_8, by first | omega | assumption | (simp; done) | exact Or.inl rfl | exact Or.inr rfl, by first | omega | assumption | (simp; done) | exact Or.inl rfl | exact Or.inr rfl⟩
              rw [hQ]
              exact W.zret (v := 1) hx hb hr (jb_nz (Or.inr rfl)) (fun t ht hW => ⟨⟨1, (tkv, atv, z_10), rfl, ⟨(Or.inr rfl), by refine ⟨?_, ?_, ?_, ?_, ?_, ?_⟩ <;> first | rfl | omega | (left; omega) | (right; omega) | exact Or.inl ⟨by decide, rfl⟩ | (simp only; omega)⟩, by rw [ht]; try exact hX_12, by rw [ht]; try exact he_13, by rw [ht]; try exact hM_12, by rw [ht]; try exact hz_12, by rw [ht]; try exact hT_12⟩, by rw [ht]; try exact hS_12.1, fun q h9 hq => by rw [ht]; try exact hS_12.2.1 q h9 hq⟩) hS_12.2.2 dX10_insertNode_72
            · skip
              have c_7' : iv.toInt > pl.toInt := jb_le_n (rfl) (rfl) c_7
              refine lv_aload_n hx hb dX10_insertNode_34 rfl (lv_at hl 0 rfl) ?_
              obtain ⟨names_14, kinds_14, values_14, word_14, told_14, toldCount_14, terms_14, nodes_14, f_kinds_14, f_values_14, f_told_14, f_nodes_14, hat_a_14, hat_kinds_14, hat_values_14, hat_told_14, hat_nodes_14, hg_kinds_14, hg_values_14, hg_told_14, hg_nodes_14, hg_names_14, hf0_14, hf1_14⟩ := id he
              have hlt_names_14 := hX.2 _ _ hg_names_14
              have hrt_names_14 : jRoot G0 names_14 := ⟨_, _, hg_names_14, by omega⟩
              refine va_get (D := (dC, dI)) (ci := 12) (v := .ref nodes_14) (C := RX10) (T := TX10) (N := 11) hx hb hts hin_12 hown hK (jp_one hat_a_14) 0 rfl rfl 9 (by decide) (hts (.fieldLink RX10 21 "ProofServer$Syntax" "nodes" "[I") (by decide +kernel)) (fun _ h9 => h9) rfl dX10_insertNode_35 ?_
              refine lv_iload_n hx hb dX10_insertNode_38 rfl (lv_at hl 3 rfl) ?_
              refine lv_aload_n hx hb dX10_insertNode_39 rfl (lv_at hl 0 rfl) ?_
              refine va_get (D := (dC, dI)) (ci := 12) (v := .ref nodes_14) (C := RX10) (T := TX10) (N := 11) hx hb hts hin_12 hown hK (jp_one hat_a_14) 0 rfl rfl 9 (by decide) (hts (.fieldLink RX10 21 "ProofServer$Syntax" "nodes" "[I") (by decide +kernel)) (fun _ h9 => h9) rfl dX10_insertNode_40 ?_
              refine lv_iload_n hx hb dX10_insertNode_43 rfl (lv_at hl 3 rfl) ?_
              refine lv_iconst (v := 1) hx hb dX10_insertNode_44 (by decide) ?_
              refine lv_isub hx hb dX10_insertNode_45 ?_
              refine lv_topi (fun z_15 ez_15 => ?_)
              have hz_15 : z_15.toInt = iv.toInt - 1 := by rw [ez_15]; exact jb_isub (rfl) ((by decide)) (by omega) (by omega)
              have hiz_16 : _ := jb_in (i := z_15) (n := 3000) (rfl) (by omega) (by omega)
              refine va_iald hx hb hK (jp_one hat_nodes_14) 0 1 rfl rfl hiz_16 dX10_insertNode_46 ?_
              refine lv_topi (fun z_16 ez_16 => ?_)
              refine j_iast (A := jA base) hx hb hK 1 hat_nodes_14 (hX.2 _ _ hg_nodes_14).1 hS.2.2 rfl (jb_in (i := iv) (n := 3000) (rfl) (by omega) (by omega)) dX10_insertNode_47 (fun H1 locs1 hat1 hsz1 hfr1 hT1 hL1 => ?_)
              have hX_17 := hX.put hB hg_a (by omega) (jSup.own (i := 3) hg_nodes_14) hm_a hsz1 hfr1
              have hM_17 := hM.put jExt.rf hrt_a (jSup.own (i := 3) hg_nodes_14) (by simp) hfr1
              have hz_17 := hsz1.trans hz
              have hT_17 := hT1.trans hT
              have hS_17 := jS_put hS hsz1 hfr1 (hX.2 _ _ hg_nodes_14).1 hL1
              have hat_a_14_17 := hat_a_14.kept (hfr1 _ (jne hg_a hg_nodes_14 (by simp)))
              have hat_kinds_14_17 := hat_kinds_14.kept (hfr1 _ (jne hg_kinds_14 hg_nodes_14 (by simp)))
              have hat_values_14_17 := hat_values_14.kept (hfr1 _ (jne hg_values_14 hg_nodes_14 (by simp)))
              have hat_told_14_17 := hat_told_14.kept (hfr1 _ (jne hg_told_14 hg_nodes_14 (by simp)))
              clear hfr1 hsz1 hT1 hL1
              have hat_nodes_14_17 : va_at (dC, dI) vwCl (nodes_14, .inl (ca 1, 3000, .inl (upd f_nodes_14 iv.toNatClampNeg z_16))) H1 := hat1
              clear hat1
              obtain ⟨z_18, ez_18⟩ : ∃ y : Int32, y = iv + (-1) := ⟨_, rfl⟩
              refine lv_iinc (v := z_18) (lv' := [(3, .int z_18), (0, .ref a), (1, .int pl), (2, .int nd)]) hx hb dX10_insertNode_48 hl (k := 3) rfl (by rw [ez_18]; rfl) (by decide) rfl (fun ls hl => ?_)
              have hz_18 : z_18.toInt = iv.toInt + (-1) := by rw [ez_18]; exact jb_iadd (rfl) (by decide) (by omega) (by omega)
              refine lv_goto (tgt := 29) hx hb dX10_insertNode_51 (by decide) ?_
              have he_19 : jB12e dC dI ca G0 a tkv atv ncv H1 := ⟨names_14, kinds_14, values_14, word_14, told_14, toldCount_14, terms_14, nodes_14, f_kinds_14, f_values_14, f_told_14, (upd f_nodes_14 iv.toNatClampNeg z_16), hat_a_14_17, hat_kinds_14_17, hat_values_14_17, hat_told_14_17, hat_nodes_14_17, hg_kinds_14, hg_values_14, hg_told_14, hg_nodes_14, hg_names_14, by first | omega | assumption | (simp; done) | exact Or.inl rfl | exact Or.inr rfl, by first | omega | assumption | (simp; done) | exact Or.inl rfl | exact Or.inr rfl⟩
              exact L29 z_18 tkv atv ncv _ _ he_19 hX_17 hS_17 hM_17 hz_17 hT_17 (by refine ⟨?_, ?_, ?_, ?_, ?_⟩ <;> omega) (by omega) _ (lv_sub hl [1, 2, 3, 0] rfl)
        exact L29 ((nc0 : Int32).toInt - pl.toInt : Int).toNat.succ nc0 tk0 at0 nc0 _ _ he_6 hX hS hM hz hT (by refine ⟨?_, ?_, ?_, ?_, ?_⟩ <;> omega) (by omega) _ (lv_sub hl [1, 2, 3, 0] rfl)
      · skip
        have c_5' : nc0.toInt ≥ 3000 := jb_lt_n (rfl) ((by decide)) c_5
        refine lv_iconst (v := 0) hx hb dX10_insertNode_22 (by decide) ?_
        have he_20 : jB12e dC dI ca G0 a tk0 at0 nc0 s.heap := ⟨names_2, kinds_2, values_2, word_2, told_2, toldCount_2, terms_2, nodes_2, f_kinds_2, f_values_2, f_told_2, f_nodes_2, hat_a_2, hat_kinds_2, hat_values_2, hat_told_2, hat_nodes_2, hg_kinds_2, hg_values_2, hg_told_2, hg_nodes_2, hg_names_2, by first | omega | assumption | (simp; done) | exact Or.inl rfl | exact Or.inr rfl, by first | omega | assumption | (simp; done) | exact Or.inl rfl | exact Or.inr rfl⟩
        rw [hQ]
        exact W.zret (v := 0) hx hb hr (jb_nz (Or.inl rfl)) (fun t ht hW => ⟨⟨0, (tk0, at0, nc0), rfl, ⟨(Or.inl rfl), by refine ⟨?_, ?_, ?_, ?_, ?_, ?_⟩ <;> first | rfl | omega | (left; omega) | (right; omega) | exact Or.inl ⟨by decide, rfl⟩ | (simp only; omega)⟩, by rw [ht]; try exact hX, by rw [ht]; try exact he_20, by rw [ht]; try exact hM, by rw [ht]; try exact hz, by rw [ht]; try exact hT⟩, by rw [ht]; try exact hS.1, fun q h9 hq => by rw [ht]; try exact hS.2.1 q h9 hq⟩) hS.2.2 dX10_insertNode_23
set_option maxHeartbeats 4000000 in
set_option maxRecDepth 20000 in
theorem tX10_add (l : Launch) (dC : Nat → ClassId) (dI : Nat → Nat → Nat) (ca : Nat → ClassId) (base : Nat) (B : jF) (hB : jBok B) (G0 : jT) (X : List Nat) (H0 : Heap) (a : Nat) (kd vl : Int32) (tk0 at0 nc0 : Int32) : Met l yX10_add wsX10_add ({ frames := 0, cells := 0, slots := 0, locals := 0 }) (va_Pc [.ref a, .int kd, .int vl] (fun U => U.heap = H0 ∧ jX B base G0 X H0 ∧ jG dC dI ca base U ∧ G0 a = some (12, 0) ∧ a ∈ X ∧ jB12e dC dI ca G0 a tk0 at0 nc0 H0 ∧ (0 ≤ tk0.toInt ∧ tk0.toInt ≤ 1500 ∧ 0 ≤ at0.toInt ∧ 0 ≤ nc0.toInt ∧ nc0.toInt ≤ 3000 ∧ at0.toInt ≤ tk0.toInt + 3))) (va_Qv (S := Int32 × Int32 × Int32) (fun u => (tk0.toInt ≤ u.1.toInt ∧ u.1.toInt ≤ tk0.toInt + 1 ∧ u.1.toInt ≤ 1500) ∧ 0 ≤ u.2.1.toInt ∧ nc0.toInt ≤ u.2.2.toInt ∧ u.2.2.toInt ≤ 3000 ∧ u.2.1.toInt = at0.toInt ∧ u.2.2.toInt = nc0.toInt) (fun u t => jX B base G0 X t.heap ∧ jB12e dC dI ca G0 a u.1 u.2.1 u.2.2 t.heap ∧  jModP G0 (fun r => r = a) H0 t.heap ∧ t.heap.size = H0.size ∧ jTot t.heap = jTot H0) (jA base)) 0 0 (jA base) := by
  refine Met.ofW (cc := cX10_add) (maxL := 3) (ret := none) (by decide) rfl ?_
  intro p e s m args below meth c s₁ Bd hml hv
  obtain ⟨rfl, hH0, hX, hG, hg_a, hm_a, he_a, ht0, ht1, ha0, hn0, hn1, hpre⟩ := hv
  have hK := hG.1
  have hx := Bd.exec
  have hb := Bd.bytes
  have hr := Bd.returns
  have hts := atoms_spec (ws := wsX10_add) Bd.pre
  have hown : s.vm.findClass RX10 = some m.cls := findClass_of_methodNamed Bd.named
  have hlocks := Bd.notSynchronized
  have hin_12 : ∀ w ∈ u_ws RX10 TX10 11, w ∈ wsX10_add := by decide +kernel
  obtain ⟨Q, hQ⟩ : ∃ Q, Q = MQ below (va_Qv (S := Int32 × Int32 × Int32) (fun u => (tk0.toInt ≤ u.1.toInt ∧ u.1.toInt ≤ tk0.toInt + 1 ∧ u.1.toInt ≤ 1500) ∧ 0 ≤ u.2.1.toInt ∧ nc0.toInt ≤ u.2.2.toInt ∧ u.2.2.toInt ≤ 3000 ∧ u.2.1.toInt = at0.toInt ∧ u.2.2.toInt = nc0.toInt) (fun u t => jX B base G0 X t.heap ∧ jB12e dC dI ca G0 a u.1 u.2.1 u.2.2 t.heap ∧  jModP G0 (fun r => r = a) H0 t.heap ∧ t.heap.size = H0.size ∧ jTot t.heap = jTot H0) (jA base)) ([.ref a, .int kd, .int vl] : List Value).toArray s 0 0 (jA base) := ⟨_, rfl⟩
  rw [← hQ]
  have hl := lv_entry ([.ref a, .int kd, .int vl]) (n := 3) (Nat.le_of_ble_eq_true rfl)
  rw [lg_entry_eq]
  generalize (lg_sl ([.ref a, .int kd, .int vl]) ++ List.replicate (3 - (lg_sl ([.ref a, .int kd, .int vl])).length) Slot.unset).toArray = ls at hl ⊢
  have hl : lv_has ls 3 [(0, .ref a), (1, .int kd), (2, .int vl)] := hl
  generalize hR : (headSpec wsX10_add ({ frames := 0, cells := 0, slots := 0, locals := 0 })).room = R
  subst hH0
  have hS : va_S (jA base) s.heap s.heap [] := va_S.rf
  have hM : jModP G0 (fun r => r = a) s.heap s.heap := jModP.rf
  have hz : s.heap.size = s.heap.size := rfl
  have hT : jTot s.heap = jTot s.heap := rfl
  have hlt_a := hX.2 _ _ hg_a
  have hrt_a : jRoot G0 a := ⟨_, _, hg_a, by omega⟩
  have hk0 : (0 : Int32).toInt = 0 := by decide
  have hk1 : (1 : Int32).toInt = 1 := by decide
  have hk1500 : (1500 : Int32).toInt = 1500 := by decide
  refine lv_aload_n hx hb dX10_add_0 rfl (lv_at hl 0 rfl) ?_
  obtain ⟨names_1, kinds_1, values_1, word_1, told_1, toldCount_1, terms_1, nodes_1, f_kinds_1, f_values_1, f_told_1, f_nodes_1, hat_a_1, hat_kinds_1, hat_values_1, hat_told_1, hat_nodes_1, hg_kinds_1, hg_values_1, hg_told_1, hg_nodes_1, hg_names_1, hf0_1, hf1_1⟩ := id he_a
  have hlt_names_1 := hX.2 _ _ hg_names_1
  have hrt_names_1 : jRoot G0 names_1 := ⟨_, _, hg_names_1, by omega⟩
  refine va_get (D := (dC, dI)) (ci := 12) (v := .int tk0) (C := RX10) (T := TX10) (N := 11) hx hb hts hin_12 hown hK (jp_one hat_a_1) 0 rfl rfl 3 (by decide) (hts (.fieldLink RX10 28 "ProofServer$Syntax" "tokens" "I") (by decide +kernel)) (fun _ h9 => h9) rfl dX10_add_1 ?_
  refine lv_sipush (v := 1500) hx hb dX10_add_4 (by decide) ?_
  refine lv_icmp_ge (tgt := 40) hx hb dX10_add_7 (by decide) (fun c_2 => ?_) (fun c_2 => ?_)
  · skip
    have c_2' : tk0.toInt ≥ 1500 := jb_ge (rfl) ((by decide)) c_2
    have he_3 : jB12e dC dI ca G0 a tk0 at0 nc0 s.heap := ⟨names_1, kinds_1, values_1, word_1, told_1, toldCount_1, terms_1, nodes_1, f_kinds_1, f_values_1, f_told_1, f_nodes_1, hat_a_1, hat_kinds_1, hat_values_1, hat_told_1, hat_nodes_1, hg_kinds_1, hg_values_1, hg_told_1, hg_nodes_1, hg_names_1, by first | omega | assumption | (simp; done) | exact Or.inl rfl | exact Or.inr rfl, by first | omega | assumption | (simp; done) | exact Or.inl rfl | exact Or.inr rfl⟩
    rw [hQ]
    exact W.vret hx hb hr (fun t ht hW => ⟨⟨(tk0, at0, nc0), rfl, by refine ⟨?_, ?_, ?_, ?_, ?_, ?_⟩ <;> first | rfl | omega | (left; omega) | (right; omega) | exact Or.inl ⟨by decide, rfl⟩ | (simp only; omega), by rw [ht]; try exact hX, by rw [ht]; try exact he_3, by rw [ht]; try exact hM, by rw [ht]; try exact hz, by rw [ht]; try exact hT⟩, by rw [ht]; try exact hS.1, fun q h9 hq => by rw [ht]; try exact hS.2.1 q h9 hq⟩) hS.2.2 dX10_add_40
  · skip
    have c_2' : tk0.toInt < 1500 := jb_ge_n (rfl) ((by decide)) c_2
    refine lv_aload_n hx hb dX10_add_10 rfl (lv_at hl 0 rfl) ?_
    refine va_get (D := (dC, dI)) (ci := 12) (v := .ref kinds_1) (C := RX10) (T := TX10) (N := 11) hx hb hts hin_12 hown hK (jp_one hat_a_1) 0 rfl rfl 1 (by decide) (hts (.fieldLink RX10 9 "ProofServer$Syntax" "kinds" "[I") (by decide +kernel)) (fun _ h9 => h9) rfl dX10_add_11 ?_
    refine lv_aload_n hx hb dX10_add_14 rfl (lv_at hl 0 rfl) ?_
    refine va_get (D := (dC, dI)) (ci := 12) (v := .int tk0) (C := RX10) (T := TX10) (N := 11) hx hb hts hin_12 hown hK (jp_one hat_a_1) 0 rfl rfl 3 (by decide) (hts (.fieldLink RX10 28 "ProofServer$Syntax" "tokens" "I") (by decide +kernel)) (fun _ h9 => h9) rfl dX10_add_15 ?_
    refine lv_iload_n hx hb dX10_add_18 rfl (lv_at hl 1 rfl) ?_
    refine j_iast (A := jA base) hx hb hK 1 hat_kinds_1 (hX.2 _ _ hg_kinds_1).1 hS.2.2 rfl (jb_in (i := tk0) (n := 1500) (rfl) (by omega) (by omega)) dX10_add_19 (fun H1 locs1 hat1 hsz1 hfr1 hT1 hL1 => ?_)
    have hX_4 := hX.put hB hg_a (by omega) (jSup.own (i := 0) hg_kinds_1) hm_a hsz1 hfr1
    have hM_4 := hM.put jExt.rf hrt_a (jSup.own (i := 0) hg_kinds_1) (by simp) hfr1
    have hz_4 := hsz1.trans hz
    have hT_4 := hT1.trans hT
    have hS_4 := jS_put hS hsz1 hfr1 (hX.2 _ _ hg_kinds_1).1 hL1
    have hat_a_1_4 := hat_a_1.kept (hfr1 _ (jne hg_a hg_kinds_1 (by simp)))
    have hat_values_1_4 := hat_values_1.kept (hfr1 _ (jne hg_values_1 hg_kinds_1 (by simp)))
    have hat_told_1_4 := hat_told_1.kept (hfr1 _ (jne hg_told_1 hg_kinds_1 (by simp)))
    have hat_nodes_1_4 := hat_nodes_1.kept (hfr1 _ (jne hg_nodes_1 hg_kinds_1 (by simp)))
    clear hfr1 hsz1 hT1 hL1
    have hat_kinds_1_4 : va_at (dC, dI) vwCl (kinds_1, .inl (ca 1, 1500, .inl (upd f_kinds_1 tk0.toNatClampNeg kd))) H1 := hat1
    clear hat1
    refine lv_aload_n hx hb dX10_add_20 rfl (lv_at hl 0 rfl) ?_
    refine va_get (D := (dC, dI)) (ci := 12) (v := .ref values_1) (C := RX10) (T := TX10) (N := 11) hx hb hts hin_12 hown hK (jp_one hat_a_1_4) 0 rfl rfl 2 (by decide) (hts (.fieldLink RX10 15 "ProofServer$Syntax" "values" "[I") (by decide +kernel)) (fun _ h9 => h9) rfl dX10_add_21 ?_
    refine lv_aload_n hx hb dX10_add_24 rfl (lv_at hl 0 rfl) ?_
    refine va_get (D := (dC, dI)) (ci := 12) (v := .int tk0) (C := RX10) (T := TX10) (N := 11) hx hb hts hin_12 hown hK (jp_one hat_a_1_4) 0 rfl rfl 3 (by decide) (hts (.fieldLink RX10 28 "ProofServer$Syntax" "tokens" "I") (by decide +kernel)) (fun _ h9 => h9) rfl dX10_add_25 ?_
    refine lv_iload_n hx hb dX10_add_28 rfl (lv_at hl 2 rfl) ?_
    refine j_iast (A := jA base) hx hb hK 1 hat_values_1_4 (hX_4.2 _ _ hg_values_1).1 hS_4.2.2 rfl (jb_in (i := tk0) (n := 1500) (rfl) (by omega) (by omega)) dX10_add_29 (fun H1 locs1 hat1 hsz1 hfr1 hT1 hL1 => ?_)
    have hX_5 := hX_4.put hB hg_a (by omega) (jSup.own (i := 1) hg_values_1) hm_a hsz1 hfr1
    have hM_5 := hM_4.put jExt.rf hrt_a (jSup.own (i := 1) hg_values_1) (by simp) hfr1
    have hz_5 := hsz1.trans hz_4
    have hT_5 := hT1.trans hT_4
    have hS_5 := jS_put hS_4 hsz1 hfr1 (hX_4.2 _ _ hg_values_1).1 hL1
    have hat_a_1_4_5 := hat_a_1_4.kept (hfr1 _ (jne hg_a hg_values_1 (by simp)))
    have hat_kinds_1_4_5 := hat_kinds_1_4.kept (hfr1 _ (jne hg_kinds_1 hg_values_1 (by simp)))
    have hat_told_1_4_5 := hat_told_1_4.kept (hfr1 _ (jne hg_told_1 hg_values_1 (by simp)))
    have hat_nodes_1_4_5 := hat_nodes_1_4.kept (hfr1 _ (jne hg_nodes_1 hg_values_1 (by simp)))
    clear hfr1 hsz1 hT1 hL1
    have hat_values_1_5 : va_at (dC, dI) vwCl (values_1, .inl (ca 1, 1500, .inl (upd f_values_1 tk0.toNatClampNeg vl))) H1 := hat1
    clear hat1
    refine lv_aload_n hx hb dX10_add_30 rfl (lv_at hl 0 rfl) ?_
    refine lv_dup hx hb dX10_add_31 rfl ?_
    refine va_get (D := (dC, dI)) (ci := 12) (v := .int tk0) (C := RX10) (T := TX10) (N := 11) hx hb hts hin_12 hown hK (jp_one hat_a_1_4_5) 0 rfl rfl 3 (by decide) (hts (.fieldLink RX10 28 "ProofServer$Syntax" "tokens" "I") (by decide +kernel)) (fun _ h9 => h9) rfl dX10_add_32 ?_
    refine lv_iconst (v := 1) hx hb dX10_add_35 (by decide) ?_
    refine lv_iadd hx hb dX10_add_36 ?_
    refine lv_topi (fun z_6 ez_6 => ?_)
    have hz_6 : z_6.toInt = tk0.toInt + 1 := by rw [ez_6]; exact jb_iadd (rfl) ((by decide)) (by omega) (by omega)
    refine j_put (D := (dC, dI)) (ci := 12) (v := .int z_6) (ty := .int) (C := RX10) (T := TX10) (N := 11) (A := jA base) hx hb hts hin_12 tyX10 tyX10_ok nmX10 hown hK hat_a_1_4_5 (hX_5.2 _ _ hg_a).1 hS_5.2.2 rfl 3 (by decide) (hts (.fieldLink RX10 28 "ProofServer$Syntax" "tokens" "I") (by decide +kernel)) (fun _ h9 => h9) rfl (by decide +kernel) rfl rfl (Nat.le_of_ble_eq_true rfl) dX10_add_37 (fun H1 locs1 hat1 hsz1 hfr1 hT1 hL1 => ?_)
    have hX_8 := hX_5.put hB hg_a (by omega) jSup.root hm_a hsz1 hfr1
    have hM_8 := hM_5.put jExt.rf hrt_a jSup.root (by simp) hfr1
    have hz_8 := hsz1.trans hz_5
    have hT_8 := hT1.trans hT_5
    have hS_8 := jS_put hS_5 hsz1 hfr1 (hX_5.2 _ _ hg_a).1 hL1
    have hat_kinds_1_4_5_8 := hat_kinds_1_4_5.kept (hfr1 _ (jne hg_kinds_1 hg_a (by simp)))
    have hat_values_1_5_8 := hat_values_1_5.kept (hfr1 _ (jne hg_values_1 hg_a (by simp)))
    have hat_told_1_4_5_8 := hat_told_1_4_5.kept (hfr1 _ (jne hg_told_1 hg_a (by simp)))
    have hat_nodes_1_4_5_8 := hat_nodes_1_4_5.kept (hfr1 _ (jne hg_nodes_1 hg_a (by simp)))
    clear hfr1 hsz1 hT1 hL1
    have hat_a_8 : va_at (dC, dI) vwCl (a, .inr (12, [.ref names_1, .ref kinds_1, .ref values_1, .int z_6, .int at0, .int word_1, .ref told_1, .int toldCount_1, .int terms_1, .ref nodes_1, .int nc0])) H1 := hat1
    clear hat1
    have he_9 : jB12e dC dI ca G0 a z_6 at0 nc0 H1 := ⟨names_1, kinds_1, values_1, word_1, told_1, toldCount_1, terms_1, nodes_1, (upd f_kinds_1 tk0.toNatClampNeg kd), (upd f_values_1 tk0.toNatClampNeg vl), f_told_1, f_nodes_1, hat_a_8, hat_kinds_1_4_5_8, hat_values_1_5_8, hat_told_1_4_5_8, hat_nodes_1_4_5_8, hg_kinds_1, hg_values_1, hg_told_1, hg_nodes_1, hg_names_1, by first | omega | assumption | (simp; done) | exact Or.inl rfl | exact Or.inr rfl, by first | omega | assumption | (simp; done) | exact Or.inl rfl | exact Or.inr rfl⟩
    rw [hQ]
    exact W.vret hx hb hr (fun t ht hW => ⟨⟨(z_6, at0, nc0), rfl, by refine ⟨?_, ?_, ?_, ?_, ?_, ?_⟩ <;> first | rfl | omega | (left; omega) | (right; omega) | exact Or.inl ⟨by decide, rfl⟩ | (simp only; omega), by rw [ht]; try exact hX_8, by rw [ht]; try exact he_9, by rw [ht]; try exact hM_8, by rw [ht]; try exact hz_8, by rw [ht]; try exact hT_8⟩, by rw [ht]; try exact hS_8.1, fun q h9 hq => by rw [ht]; try exact hS_8.2.1 q h9 hq⟩) hS_8.2.2 dX10_add_40
