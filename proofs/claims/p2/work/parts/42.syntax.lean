abbrev cX10_isChain : ByteArray := prog_12_method_13_code
def yX10_isChain : MethodName := ⟨RX10, "isChain", "(II)Z"⟩
abbrev cX10_isOne : ByteArray := prog_12_method_14_code
def yX10_isOne : MethodName := ⟨RX10, "isOne", "(I)Z"⟩
def wsX10_isChain_r1 : List Cond := [Cond.fieldLink RX10 122 "ProofServer$Syntax" "CHAIN_SIGNS" "[I", Cond.fieldLink RX10 89 "ProofServer$Syntax" "nodeCount" "I", Cond.fieldLink RX10 83 "ProofServer$Syntax" "at" "I", Cond.fieldLink RX10 128 "ProofServer$Syntax" "CHAIN_NODES" "[I", Cond.methodLink RX10 125 yX10_isOne, Cond.instanceMethod yX10_isOne, Cond.selects RX10 yX10_isOne yX10_isOne, Cond.initialized RX10, Cond.methodLink RX10 108 yX10_isChain, Cond.instanceMethod yX10_isChain, Cond.selects RX10 yX10_isChain yX10_isChain, Cond.methodLink RX10 115 yX10_peek, Cond.instanceMethod yX10_peek, Cond.selects RX10 yX10_peek yX10_peek, Cond.code yX10_peek cX10_peek 1 (some .int), Cond.fieldLink RX10 28 "ProofServer$Syntax" "tokens" "I", Cond.fieldLink RX10 9 "ProofServer$Syntax" "kinds" "[I", Cond.methodLink RX10 131 yX10_insertNode, Cond.instanceMethod yX10_insertNode, Cond.selects RX10 yX10_insertNode yX10_insertNode, Cond.code yX10_insertNode cX10_insertNode 4 (some .boolean), Cond.fieldLink RX10 21 "ProofServer$Syntax" "nodes" "[I", Cond.code yX10_isOne cX10_isOne 6 (some .boolean), Cond.methodLink RX10 119 yX10_peekName]
def wsX10_isChain_r2 : List Cond := [Cond.instanceMethod yX10_peekName, Cond.selects RX10 yX10_peekName yX10_peekName, Cond.code yX10_peekName cX10_peekName 1 (some .int), Cond.fieldLink RX10 15 "ProofServer$Syntax" "values" "[I", Cond.methodLink RX10 134 yX10_addNode, Cond.instanceMethod yX10_addNode, Cond.selects RX10 yX10_addNode yX10_addNode, Cond.code yX10_addNode cX10_addNode 2 (some .boolean), Cond.methodLink RX10 105 yX10_isSign, Cond.instanceMethod yX10_isSign, Cond.selects RX10 yX10_isSign yX10_isSign, Cond.code yX10_isSign cX10_isSign 3 (some .boolean), Cond.methodLink RX10 112 yX10_isTerm, Cond.instanceMethod yX10_isTerm, Cond.selects RX10 yX10_isTerm yX10_isTerm, Cond.code yX10_isTerm cX10_isTerm 6 (some .boolean)]
def wsX10_isChain : List Cond := .code yX10_isChain cX10_isChain 6 (some .boolean) :: ((wsX10_isChain_r1 ++ wsX10_isChain_r2) ++ wsX100)
def wsX10_isOne_r1 : List Cond := [Cond.fieldLink RX10 83 "ProofServer$Syntax" "at" "I", Cond.fieldLink RX10 89 "ProofServer$Syntax" "nodeCount" "I", Cond.fieldLink RX10 21 "ProofServer$Syntax" "nodes" "[I", Cond.methodLink RX10 115 yX10_peek, Cond.instanceMethod yX10_peek, Cond.selects RX10 yX10_peek yX10_peek, Cond.initialized RX10, Cond.code yX10_peek cX10_peek 1 (some .int), Cond.fieldLink RX10 28 "ProofServer$Syntax" "tokens" "I", Cond.fieldLink RX10 9 "ProofServer$Syntax" "kinds" "[I", Cond.methodLink RX10 119 yX10_peekName, Cond.instanceMethod yX10_peekName, Cond.selects RX10 yX10_peekName yX10_peekName, Cond.code yX10_peekName cX10_peekName 1 (some .int), Cond.fieldLink RX10 15 "ProofServer$Syntax" "values" "[I", Cond.methodLink RX10 134 yX10_addNode, Cond.instanceMethod yX10_addNode, Cond.selects RX10 yX10_addNode yX10_addNode, Cond.code yX10_addNode cX10_addNode 2 (some .boolean), Cond.methodLink RX10 125 yX10_isOne, Cond.instanceMethod yX10_isOne, Cond.selects RX10 yX10_isOne yX10_isOne, Cond.methodLink RX10 108 yX10_isChain, Cond.instanceMethod yX10_isChain]
def wsX10_isOne_r2 : List Cond := [Cond.selects RX10 yX10_isChain yX10_isChain, Cond.methodLink RX10 105 yX10_isSign, Cond.instanceMethod yX10_isSign, Cond.selects RX10 yX10_isSign yX10_isSign, Cond.code yX10_isSign cX10_isSign 3 (some .boolean), Cond.methodLink RX10 112 yX10_isTerm, Cond.instanceMethod yX10_isTerm, Cond.selects RX10 yX10_isTerm yX10_isTerm, Cond.code yX10_isTerm cX10_isTerm 6 (some .boolean), Cond.methodLink RX10 131 yX10_insertNode, Cond.instanceMethod yX10_insertNode, Cond.selects RX10 yX10_insertNode yX10_insertNode, Cond.code yX10_insertNode cX10_insertNode 4 (some .boolean), Cond.code yX10_isChain cX10_isChain 6 (some .boolean), Cond.fieldLink RX10 122 "ProofServer$Syntax" "CHAIN_SIGNS" "[I", Cond.fieldLink RX10 128 "ProofServer$Syntax" "CHAIN_NODES" "[I"]
def wsX10_isOne : List Cond := .code yX10_isOne cX10_isOne 6 (some .boolean) :: ((wsX10_isOne_r1 ++ wsX10_isOne_r2) ++ wsX100)
set_option maxRecDepth 20000 in
theorem ggX10_isOne_X10_peek : GoodIn wsX10_isOne wsX10_peek := goodIn_r _ [8, 1, 9, 10, 41, 42, 43, 44, 45, 46, 47, 48, 49, 50, 51] (by decide +kernel) (by decide +kernel)
set_option maxRecDepth 20000 in
theorem gX10_isOne_X10_peek : GoodIn wsX10_isOne (wsV RX10 115 RX10 yX10_peek wsX10_peek) := goodIn_app (goodIn_of _ (by decide +kernel)) ggX10_isOne_X10_peek
set_option maxRecDepth 20000 in
theorem ggX10_isOne_X10_peekName : GoodIn wsX10_isOne wsX10_peekName := goodIn_r _ [14, 15, 1, 4, 5, 6, 7, 8, 9, 10, 41, 42, 43, 44, 45, 46, 47, 48, 49, 50, 51] (by decide +kernel) (by decide +kernel)
set_option maxRecDepth 20000 in
theorem gX10_isOne_X10_peekName : GoodIn wsX10_isOne (wsV RX10 119 RX10 yX10_peekName wsX10_peekName) := goodIn_app (goodIn_of _ (by decide +kernel)) ggX10_isOne_X10_peekName
set_option maxRecDepth 20000 in
theorem ggX10_isOne_X10_addNode : GoodIn wsX10_isOne wsX10_addNode := goodIn_r _ [19, 2, 3, 41, 42, 43, 44, 45, 46, 47, 48, 49, 50, 51] (by decide +kernel) (by decide +kernel)
set_option maxRecDepth 20000 in
theorem gX10_isOne_X10_addNode : GoodIn wsX10_isOne (wsV RX10 134 RX10 yX10_addNode wsX10_addNode) := goodIn_app (goodIn_of _ (by decide +kernel)) ggX10_isOne_X10_addNode
set_option maxRecDepth 20000 in
theorem ggX10_isOne_X10_isOne : GoodIn wsX10_isOne wsX10_isOne := goodIn_r _ [0, 1, 2, 3, 4, 5, 6, 7, 8, 9, 10, 11, 12, 13, 14, 15, 16, 17, 18, 19, 20, 21, 22, 23, 24, 25, 26, 27, 28, 29, 30, 31, 32, 33, 34, 35, 36, 37, 38, 39, 40, 41, 42, 43, 44, 45, 46, 47, 48, 49, 50, 51] (by decide +kernel) (by decide +kernel)
set_option maxRecDepth 20000 in
theorem gX10_isOne_X10_isOne : GoodIn wsX10_isOne (wsV RX10 125 RX10 yX10_isOne wsX10_isOne) := goodIn_app (goodIn_of _ (by decide +kernel)) ggX10_isOne_X10_isOne
set_option maxRecDepth 20000 in
theorem ggX10_isOne_X10_isChain : GoodIn wsX10_isOne wsX10_isChain := goodIn_r _ [38, 39, 2, 1, 40, 20, 21, 22, 7, 23, 24, 25, 4, 5, 6, 8, 9, 10, 34, 35, 36, 37, 3, 0, 11, 12, 13, 14, 15, 16, 17, 18, 19, 26, 27, 28, 29, 30, 31, 32, 33, 41, 42, 43, 44, 45, 46, 47, 48, 49, 50, 51] (by decide +kernel) (by decide +kernel)
set_option maxRecDepth 20000 in
theorem gX10_isOne_X10_isChain : GoodIn wsX10_isOne (wsV RX10 108 RX10 yX10_isChain wsX10_isChain) := goodIn_app (goodIn_of _ (by decide +kernel)) ggX10_isOne_X10_isChain
set_option maxRecDepth 20000 in
theorem ggX10_isOne_X10_isSign : GoodIn wsX10_isOne wsX10_isSign := goodIn_r _ [29, 1, 9, 10, 41, 42, 43, 44, 45, 46, 47, 48, 49, 50, 51] (by decide +kernel) (by decide +kernel)
set_option maxRecDepth 20000 in
theorem gX10_isOne_X10_isSign : GoodIn wsX10_isOne (wsV RX10 105 RX10 yX10_isSign wsX10_isSign) := goodIn_app (goodIn_of _ (by decide +kernel)) ggX10_isOne_X10_isSign
set_option maxRecDepth 20000 in
theorem ggX10_isOne_X10_isTerm : GoodIn wsX10_isOne wsX10_isTerm := goodIn_r _ [33, 2, 1, 3, 11, 12, 13, 7, 14, 15, 4, 5, 6, 8, 9, 10, 16, 17, 18, 19, 30, 31, 32, 26, 27, 28, 29, 41, 42, 43, 44, 45, 46, 47, 48, 49, 50, 51] (by decide +kernel) (by decide +kernel)
set_option maxRecDepth 20000 in
theorem gX10_isOne_X10_isTerm : GoodIn wsX10_isOne (wsV RX10 112 RX10 yX10_isTerm wsX10_isTerm) := goodIn_app (goodIn_of _ (by decide +kernel)) ggX10_isOne_X10_isTerm
set_option maxRecDepth 20000 in
theorem ggX10_isOne_X10_insertNode : GoodIn wsX10_isOne wsX10_insertNode := goodIn_r _ [37, 2, 3, 41, 42, 43, 44, 45, 46, 47, 48, 49, 50, 51] (by decide +kernel) (by decide +kernel)
set_option maxRecDepth 20000 in
theorem gX10_isOne_X10_insertNode : GoodIn wsX10_isOne (wsV RX10 131 RX10 yX10_insertNode wsX10_insertNode) := goodIn_app (goodIn_of _ (by decide +kernel)) ggX10_isOne_X10_insertNode
theorem dX10_isOne_0 : decode cX10_isOne 0 = .ok (.aload_n 0, 1) := by decide +kernel
theorem dX10_isOne_1 : decode cX10_isOne 1 = .ok (.invokevirtual 115, 3) := by decide +kernel
theorem dX10_isOne_4 : decode cX10_isOne 4 = .ok (.istore_n 2, 1) := by decide +kernel
theorem dX10_isOne_5 : decode cX10_isOne 5 = .ok (.aload_n 0, 1) := by decide +kernel
theorem dX10_isOne_6 : decode cX10_isOne 6 = .ok (.invokevirtual 119, 3) := by decide +kernel
theorem dX10_isOne_9 : decode cX10_isOne 9 = .ok (.istore_n 3, 1) := by decide +kernel
theorem dX10_isOne_10 : decode cX10_isOne 10 = .ok (.iload_n 2, 1) := by decide +kernel
theorem dX10_isOne_11 : decode cX10_isOne 11 = .ok (.bipush 126, 2) := by decide +kernel
theorem dX10_isOne_13 : decode cX10_isOne 13 = .ok (.if_icmp .ne 51, 3) := by decide +kernel
theorem dX10_isOne_16 : decode cX10_isOne 16 = .ok (.aload_n 0, 1) := by decide +kernel
theorem dX10_isOne_17 : decode cX10_isOne 17 = .ok (.dup, 1) := by decide +kernel
theorem dX10_isOne_18 : decode cX10_isOne 18 = .ok (.getfield 83, 3) := by decide +kernel
theorem dX10_isOne_21 : decode cX10_isOne 21 = .ok (.iconst 1, 1) := by decide +kernel
theorem dX10_isOne_22 : decode cX10_isOne 22 = .ok (.iadd, 1) := by decide +kernel
theorem dX10_isOne_23 : decode cX10_isOne 23 = .ok (.putfield 83, 3) := by decide +kernel
theorem dX10_isOne_26 : decode cX10_isOne 26 = .ok (.iload_n 1, 1) := by decide +kernel
theorem dX10_isOne_27 : decode cX10_isOne 27 = .ok (.bipush 12, 2) := by decide +kernel
theorem dX10_isOne_29 : decode cX10_isOne 29 = .ok (.if_icmp .ge 33, 3) := by decide +kernel
theorem dX10_isOne_32 : decode cX10_isOne 32 = .ok (.aload_n 0, 1) := by decide +kernel
theorem dX10_isOne_33 : decode cX10_isOne 33 = .ok (.iconst 1, 1) := by decide +kernel
theorem dX10_isOne_34 : decode cX10_isOne 34 = .ok (.invokevirtual 134, 3) := by decide +kernel
theorem dX10_isOne_37 : decode cX10_isOne 37 = .ok (.ifCond .eq 25, 3) := by decide +kernel
theorem dX10_isOne_40 : decode cX10_isOne 40 = .ok (.aload_n 0, 1) := by decide +kernel
theorem dX10_isOne_41 : decode cX10_isOne 41 = .ok (.iload_n 1, 1) := by decide +kernel
theorem dX10_isOne_42 : decode cX10_isOne 42 = .ok (.iconst 1, 1) := by decide +kernel
theorem dX10_isOne_43 : decode cX10_isOne 43 = .ok (.iadd, 1) := by decide +kernel
theorem dX10_isOne_44 : decode cX10_isOne 44 = .ok (.invokevirtual 125, 3) := by decide +kernel
theorem dX10_isOne_47 : decode cX10_isOne 47 = .ok (.ifCond .eq 15, 3) := by decide +kernel
theorem dX10_isOne_50 : decode cX10_isOne 50 = .ok (.aload_n 0, 1) := by decide +kernel
theorem dX10_isOne_51 : decode cX10_isOne 51 = .ok (.iconst 0, 1) := by decide +kernel
theorem dX10_isOne_52 : decode cX10_isOne 52 = .ok (.invokevirtual 134, 3) := by decide +kernel
theorem dX10_isOne_55 : decode cX10_isOne 55 = .ok (.ifCond .eq 7, 3) := by decide +kernel
theorem dX10_isOne_58 : decode cX10_isOne 58 = .ok (.iconst 1, 1) := by decide +kernel
theorem dX10_isOne_59 : decode cX10_isOne 59 = .ok (.goto 4, 3) := by decide +kernel
theorem dX10_isOne_62 : decode cX10_isOne 62 = .ok (.iconst 0, 1) := by decide +kernel
theorem dX10_isOne_63 : decode cX10_isOne 63 = .ok (.ireturn, 1) := by decide +kernel
theorem dX10_isOne_64 : decode cX10_isOne 64 = .ok (.iload_n 2, 1) := by decide +kernel
theorem dX10_isOne_65 : decode cX10_isOne 65 = .ok (.bipush 40, 2) := by decide +kernel
theorem dX10_isOne_67 : decode cX10_isOne 67 = .ok (.if_icmp .ne 45, 3) := by decide +kernel
theorem dX10_isOne_70 : decode cX10_isOne 70 = .ok (.aload_n 0, 1) := by decide +kernel
theorem dX10_isOne_71 : decode cX10_isOne 71 = .ok (.dup, 1) := by decide +kernel
theorem dX10_isOne_72 : decode cX10_isOne 72 = .ok (.getfield 83, 3) := by decide +kernel
theorem dX10_isOne_75 : decode cX10_isOne 75 = .ok (.iconst 1, 1) := by decide +kernel
theorem dX10_isOne_76 : decode cX10_isOne 76 = .ok (.iadd, 1) := by decide +kernel
theorem dX10_isOne_77 : decode cX10_isOne 77 = .ok (.putfield 83, 3) := by decide +kernel
theorem dX10_isOne_80 : decode cX10_isOne 80 = .ok (.iload_n 1, 1) := by decide +kernel
theorem dX10_isOne_81 : decode cX10_isOne 81 = .ok (.bipush 12, 2) := by decide +kernel
theorem dX10_isOne_83 : decode cX10_isOne 83 = .ok (.if_icmp .ge 27, 3) := by decide +kernel
theorem dX10_isOne_86 : decode cX10_isOne 86 = .ok (.aload_n 0, 1) := by decide +kernel
theorem dX10_isOne_87 : decode cX10_isOne 87 = .ok (.iconst 0, 1) := by decide +kernel
theorem dX10_isOne_88 : decode cX10_isOne 88 = .ok (.iload_n 1, 1) := by decide +kernel
theorem dX10_isOne_89 : decode cX10_isOne 89 = .ok (.iconst 1, 1) := by decide +kernel
theorem dX10_isOne_90 : decode cX10_isOne 90 = .ok (.iadd, 1) := by decide +kernel
theorem dX10_isOne_91 : decode cX10_isOne 91 = .ok (.invokevirtual 108, 3) := by decide +kernel
theorem dX10_isOne_94 : decode cX10_isOne 94 = .ok (.ifCond .eq 16, 3) := by decide +kernel
theorem dX10_isOne_97 : decode cX10_isOne 97 = .ok (.aload_n 0, 1) := by decide +kernel
theorem dX10_isOne_98 : decode cX10_isOne 98 = .ok (.bipush 41, 2) := by decide +kernel
theorem dX10_isOne_100 : decode cX10_isOne 100 = .ok (.invokevirtual 105, 3) := by decide +kernel
theorem dX10_isOne_103 : decode cX10_isOne 103 = .ok (.ifCond .eq 7, 3) := by decide +kernel
theorem dX10_isOne_106 : decode cX10_isOne 106 = .ok (.iconst 1, 1) := by decide +kernel
theorem dX10_isOne_107 : decode cX10_isOne 107 = .ok (.goto 4, 3) := by decide +kernel
theorem dX10_isOne_110 : decode cX10_isOne 110 = .ok (.iconst 0, 1) := by decide +kernel
theorem dX10_isOne_111 : decode cX10_isOne 111 = .ok (.ireturn, 1) := by decide +kernel
theorem dX10_isOne_112 : decode cX10_isOne 112 = .ok (.iload_n 3, 1) := by decide +kernel
theorem dX10_isOne_113 : decode cX10_isOne 113 = .ok (.ifCond .eq 8, 3) := by decide +kernel
theorem dX10_isOne_116 : decode cX10_isOne 116 = .ok (.iload_n 3, 1) := by decide +kernel
theorem dX10_isOne_117 : decode cX10_isOne 117 = .ok (.iconst 1, 1) := by decide +kernel
theorem dX10_isOne_118 : decode cX10_isOne 118 = .ok (.if_icmp .ne 94, 3) := by decide +kernel
theorem dX10_isOne_121 : decode cX10_isOne 121 = .ok (.aload_n 0, 1) := by decide +kernel
theorem dX10_isOne_122 : decode cX10_isOne 122 = .ok (.dup, 1) := by decide +kernel
theorem dX10_isOne_123 : decode cX10_isOne 123 = .ok (.getfield 83, 3) := by decide +kernel
theorem dX10_isOne_126 : decode cX10_isOne 126 = .ok (.iconst 1, 1) := by decide +kernel
theorem dX10_isOne_127 : decode cX10_isOne 127 = .ok (.iadd, 1) := by decide +kernel
theorem dX10_isOne_128 : decode cX10_isOne 128 = .ok (.putfield 83, 3) := by decide +kernel
theorem dX10_isOne_131 : decode cX10_isOne 131 = .ok (.aload_n 0, 1) := by decide +kernel
theorem dX10_isOne_132 : decode cX10_isOne 132 = .ok (.invokevirtual 119, 3) := by decide +kernel
theorem dX10_isOne_135 : decode cX10_isOne 135 = .ok (.istore 4, 2) := by decide +kernel
theorem dX10_isOne_137 : decode cX10_isOne 137 = .ok (.iload_n 3, 1) := by decide +kernel
theorem dX10_isOne_138 : decode cX10_isOne 138 = .ok (.ifCond .ne 7, 3) := by decide +kernel
theorem dX10_isOne_141 : decode cX10_isOne 141 = .ok (.iconst 5, 1) := by decide +kernel
theorem dX10_isOne_142 : decode cX10_isOne 142 = .ok (.goto 5, 3) := by decide +kernel
theorem dX10_isOne_145 : decode cX10_isOne 145 = .ok (.bipush 6, 2) := by decide +kernel
theorem dX10_isOne_147 : decode cX10_isOne 147 = .ok (.iload 4, 2) := by decide +kernel
theorem dX10_isOne_149 : decode cX10_isOne 149 = .ok (.bipush 15, 2) := by decide +kernel
theorem dX10_isOne_151 : decode cX10_isOne 151 = .ok (.ishl, 1) := by decide +kernel
theorem dX10_isOne_152 : decode cX10_isOne 152 = .ok (.ior, 1) := by decide +kernel
theorem dX10_isOne_153 : decode cX10_isOne 153 = .ok (.istore 5, 2) := by decide +kernel
theorem dX10_isOne_155 : decode cX10_isOne 155 = .ok (.aload_n 0, 1) := by decide +kernel
theorem dX10_isOne_156 : decode cX10_isOne 156 = .ok (.dup, 1) := by decide +kernel
theorem dX10_isOne_157 : decode cX10_isOne 157 = .ok (.getfield 83, 3) := by decide +kernel
theorem dX10_isOne_160 : decode cX10_isOne 160 = .ok (.iconst 1, 1) := by decide +kernel
theorem dX10_isOne_161 : decode cX10_isOne 161 = .ok (.iadd, 1) := by decide +kernel
theorem dX10_isOne_162 : decode cX10_isOne 162 = .ok (.putfield 83, 3) := by decide +kernel
theorem dX10_isOne_165 : decode cX10_isOne 165 = .ok (.iload_n 1, 1) := by decide +kernel
theorem dX10_isOne_166 : decode cX10_isOne 166 = .ok (.bipush 12, 2) := by decide +kernel
theorem dX10_isOne_168 : decode cX10_isOne 168 = .ok (.if_icmp .ge 42, 3) := by decide +kernel
theorem dX10_isOne_171 : decode cX10_isOne 171 = .ok (.iload 4, 2) := by decide +kernel
theorem dX10_isOne_173 : decode cX10_isOne 173 = .ok (.iconst 2, 1) := by decide +kernel
theorem dX10_isOne_174 : decode cX10_isOne 174 = .ok (.if_icmp .le 36, 3) := by decide +kernel
theorem dX10_isOne_177 : decode cX10_isOne 177 = .ok (.aload_n 0, 1) := by decide +kernel
theorem dX10_isOne_178 : decode cX10_isOne 178 = .ok (.bipush 44, 2) := by decide +kernel
theorem dX10_isOne_180 : decode cX10_isOne 180 = .ok (.invokevirtual 105, 3) := by decide +kernel
theorem dX10_isOne_183 : decode cX10_isOne 183 = .ok (.ifCond .eq 27, 3) := by decide +kernel
theorem dX10_isOne_186 : decode cX10_isOne 186 = .ok (.aload_n 0, 1) := by decide +kernel
theorem dX10_isOne_187 : decode cX10_isOne 187 = .ok (.iload 5, 2) := by decide +kernel
theorem dX10_isOne_189 : decode cX10_isOne 189 = .ok (.invokevirtual 134, 3) := by decide +kernel
theorem dX10_isOne_192 : decode cX10_isOne 192 = .ok (.ifCond .eq 18, 3) := by decide +kernel
theorem dX10_isOne_195 : decode cX10_isOne 195 = .ok (.aload_n 0, 1) := by decide +kernel
theorem dX10_isOne_196 : decode cX10_isOne 196 = .ok (.iconst 0, 1) := by decide +kernel
theorem dX10_isOne_197 : decode cX10_isOne 197 = .ok (.iload_n 1, 1) := by decide +kernel
theorem dX10_isOne_198 : decode cX10_isOne 198 = .ok (.iconst 1, 1) := by decide +kernel
theorem dX10_isOne_199 : decode cX10_isOne 199 = .ok (.iadd, 1) := by decide +kernel
theorem dX10_isOne_200 : decode cX10_isOne 200 = .ok (.invokevirtual 108, 3) := by decide +kernel
theorem dX10_isOne_203 : decode cX10_isOne 203 = .ok (.ifCond .eq 7, 3) := by decide +kernel
theorem dX10_isOne_206 : decode cX10_isOne 206 = .ok (.iconst 1, 1) := by decide +kernel
theorem dX10_isOne_207 : decode cX10_isOne 207 = .ok (.goto 4, 3) := by decide +kernel
theorem dX10_isOne_210 : decode cX10_isOne 210 = .ok (.iconst 0, 1) := by decide +kernel
theorem dX10_isOne_211 : decode cX10_isOne 211 = .ok (.ireturn, 1) := by decide +kernel
theorem dX10_isOne_212 : decode cX10_isOne 212 = .ok (.iload_n 3, 1) := by decide +kernel
theorem dX10_isOne_213 : decode cX10_isOne 213 = .ok (.iconst 2, 1) := by decide +kernel
theorem dX10_isOne_214 : decode cX10_isOne 214 = .ok (.if_icmp .ne 19, 3) := by decide +kernel
theorem dX10_isOne_217 : decode cX10_isOne 217 = .ok (.aload_n 0, 1) := by decide +kernel
theorem dX10_isOne_218 : decode cX10_isOne 218 = .ok (.dup, 1) := by decide +kernel
theorem dX10_isOne_219 : decode cX10_isOne 219 = .ok (.getfield 83, 3) := by decide +kernel
theorem dX10_isOne_222 : decode cX10_isOne 222 = .ok (.iconst 1, 1) := by decide +kernel
theorem dX10_isOne_223 : decode cX10_isOne 223 = .ok (.iadd, 1) := by decide +kernel
theorem dX10_isOne_224 : decode cX10_isOne 224 = .ok (.putfield 83, 3) := by decide +kernel
theorem dX10_isOne_227 : decode cX10_isOne 227 = .ok (.aload_n 0, 1) := by decide +kernel
theorem dX10_isOne_228 : decode cX10_isOne 228 = .ok (.iconst 0, 1) := by decide +kernel
theorem dX10_isOne_229 : decode cX10_isOne 229 = .ok (.invokevirtual 134, 3) := by decide +kernel
theorem dX10_isOne_232 : decode cX10_isOne 232 = .ok (.ireturn, 1) := by decide +kernel
theorem dX10_isOne_233 : decode cX10_isOne 233 = .ok (.aload_n 0, 1) := by decide +kernel
theorem dX10_isOne_234 : decode cX10_isOne 234 = .ok (.getfield 89, 3) := by decide +kernel
theorem dX10_isOne_237 : decode cX10_isOne 237 = .ok (.istore 4, 2) := by decide +kernel
theorem dX10_isOne_239 : decode cX10_isOne 239 = .ok (.aload_n 0, 1) := by decide +kernel
theorem dX10_isOne_240 : decode cX10_isOne 240 = .ok (.bipush 7, 2) := by decide +kernel
theorem dX10_isOne_242 : decode cX10_isOne 242 = .ok (.iload_n 1, 1) := by decide +kernel
theorem dX10_isOne_243 : decode cX10_isOne 243 = .ok (.invokevirtual 112, 3) := by decide +kernel
theorem dX10_isOne_246 : decode cX10_isOne 246 = .ok (.ifCond .ne 5, 3) := by decide +kernel
theorem dX10_isOne_249 : decode cX10_isOne 249 = .ok (.iconst 0, 1) := by decide +kernel
theorem dX10_isOne_250 : decode cX10_isOne 250 = .ok (.ireturn, 1) := by decide +kernel
theorem dX10_isOne_251 : decode cX10_isOne 251 = .ok (.aload_n 0, 1) := by decide +kernel
theorem dX10_isOne_252 : decode cX10_isOne 252 = .ok (.invokevirtual 115, 3) := by decide +kernel
theorem dX10_isOne_255 : decode cX10_isOne 255 = .ok (.bipush 61, 2) := by decide +kernel
theorem dX10_isOne_257 : decode cX10_isOne 257 = .ok (.if_icmp .eq 5, 3) := by decide +kernel
theorem dX10_isOne_260 : decode cX10_isOne 260 = .ok (.iconst 1, 1) := by decide +kernel
theorem dX10_isOne_261 : decode cX10_isOne 261 = .ok (.ireturn, 1) := by decide +kernel
theorem dX10_isOne_262 : decode cX10_isOne 262 = .ok (.aload_n 0, 1) := by decide +kernel
theorem dX10_isOne_263 : decode cX10_isOne 263 = .ok (.dup, 1) := by decide +kernel
theorem dX10_isOne_264 : decode cX10_isOne 264 = .ok (.getfield 83, 3) := by decide +kernel
theorem dX10_isOne_267 : decode cX10_isOne 267 = .ok (.iconst 1, 1) := by decide +kernel
theorem dX10_isOne_268 : decode cX10_isOne 268 = .ok (.iadd, 1) := by decide +kernel
theorem dX10_isOne_269 : decode cX10_isOne 269 = .ok (.putfield 83, 3) := by decide +kernel
theorem dX10_isOne_272 : decode cX10_isOne 272 = .ok (.aload_n 0, 1) := by decide +kernel
theorem dX10_isOne_273 : decode cX10_isOne 273 = .ok (.getfield 21, 3) := by decide +kernel
theorem dX10_isOne_276 : decode cX10_isOne 276 = .ok (.iload 4, 2) := by decide +kernel
theorem dX10_isOne_278 : decode cX10_isOne 278 = .ok (.dup2, 1) := by decide +kernel
theorem dX10_isOne_279 : decode cX10_isOne 279 = .ok (.iaload, 1) := by decide +kernel
theorem dX10_isOne_280 : decode cX10_isOne 280 = .ok (.iconst 1, 1) := by decide +kernel
theorem dX10_isOne_281 : decode cX10_isOne 281 = .ok (.iadd, 1) := by decide +kernel
theorem dX10_isOne_282 : decode cX10_isOne 282 = .ok (.iastore, 1) := by decide +kernel
theorem dX10_isOne_283 : decode cX10_isOne 283 = .ok (.aload_n 0, 1) := by decide +kernel
theorem dX10_isOne_284 : decode cX10_isOne 284 = .ok (.iload 4, 2) := by decide +kernel
theorem dX10_isOne_286 : decode cX10_isOne 286 = .ok (.iconst 4, 1) := by decide +kernel
theorem dX10_isOne_287 : decode cX10_isOne 287 = .ok (.invokevirtual 131, 3) := by decide +kernel
theorem dX10_isOne_290 : decode cX10_isOne 290 = .ok (.ifCond .eq 17, 3) := by decide +kernel
theorem dX10_isOne_293 : decode cX10_isOne 293 = .ok (.aload_n 0, 1) := by decide +kernel
theorem dX10_isOne_294 : decode cX10_isOne 294 = .ok (.bipush 8, 2) := by decide +kernel
theorem dX10_isOne_296 : decode cX10_isOne 296 = .ok (.iload_n 1, 1) := by decide +kernel
theorem dX10_isOne_297 : decode cX10_isOne 297 = .ok (.invokevirtual 112, 3) := by decide +kernel
theorem dX10_isOne_300 : decode cX10_isOne 300 = .ok (.ifCond .eq 7, 3) := by decide +kernel
theorem dX10_isOne_303 : decode cX10_isOne 303 = .ok (.iconst 1, 1) := by decide +kernel
theorem dX10_isOne_304 : decode cX10_isOne 304 = .ok (.goto 4, 3) := by decide +kernel
theorem dX10_isOne_307 : decode cX10_isOne 307 = .ok (.iconst 0, 1) := by decide +kernel
theorem dX10_isOne_308 : decode cX10_isOne 308 = .ok (.ireturn, 1) := by decide +kernel
def qX10_isOne (l : Launch) (dC : Nat → ClassId) (dI : Nat → Nat → Nat) (ca : Nat → ClassId) (base : Nat) (B : jF) (ef : Nat) : Prop := ∀ (G0 : jT) (X : List Nat) (H0 : Heap) (a : Nat) (dp : Int32) (tk0 at0 nc0 : Int32), Met l yX10_isOne wsX10_isOne ({ frames := 5 * ef + 5, cells := 0, slots := 0, locals := 160 * ef + 200 }) (va_Pc [.ref a, .int dp] (fun U => U.heap = H0 ∧ jX B base G0 X H0 ∧ jG dC dI ca base U ∧ G0 a = some (12, 0) ∧ a ∈ X ∧ jB12e dC dI ca G0 a tk0 at0 nc0 H0 ∧ (0 ≤ tk0.toInt ∧ tk0.toInt ≤ 1500 ∧ 0 ≤ at0.toInt ∧ 0 ≤ nc0.toInt ∧ nc0.toInt ≤ 3000 ∧ at0.toInt ≤ tk0.toInt ∧ dp.toInt = 12 - ef ∧ ef ≤ 12))) (va_Qi (S := Int32 × Int32 × Int32) (fun r u => (r = 0 ∨ r = 1) ∧ u.1.toInt = tk0.toInt ∧ 0 ≤ u.2.1.toInt ∧ nc0.toInt ≤ u.2.2.toInt ∧ u.2.2.toInt ≤ 3000 ∧ u.2.1.toInt ≤ tk0.toInt + 2 ∧ (r.toInt = 0 ∨ (u.2.1.toInt ≤ tk0.toInt ∧ nc0.toInt + 1 ≤ u.2.2.toInt))) (fun u t => jX B base G0 X t.heap ∧ jB12e dC dI ca G0 a u.1 u.2.1 u.2.2 t.heap ∧  jModP G0 (fun r => r = a) H0 t.heap ∧ t.heap.size = H0.size ∧ jTot t.heap = jTot H0) (jA base)) 0 0 (jA base)
def wsX10_isChain_r1 : List Cond := [Cond.fieldLink RX10 122 "ProofServer$Syntax" "CHAIN_SIGNS" "[I", Cond.fieldLink RX10 89 "ProofServer$Syntax" "nodeCount" "I", Cond.fieldLink RX10 83 "ProofServer$Syntax" "at" "I", Cond.fieldLink RX10 128 "ProofServer$Syntax" "CHAIN_NODES" "[I", Cond.methodLink RX10 125 yX10_isOne, Cond.instanceMethod yX10_isOne, Cond.selects RX10 yX10_isOne yX10_isOne, Cond.initialized RX10, Cond.methodLink RX10 108 yX10_isChain, Cond.instanceMethod yX10_isChain, Cond.selects RX10 yX10_isChain yX10_isChain, Cond.methodLink RX10 115 yX10_peek, Cond.instanceMethod yX10_peek, Cond.selects RX10 yX10_peek yX10_peek, Cond.code yX10_peek cX10_peek 1 (some .int), Cond.fieldLink RX10 28 "ProofServer$Syntax" "tokens" "I", Cond.fieldLink RX10 9 "ProofServer$Syntax" "kinds" "[I", Cond.methodLink RX10 131 yX10_insertNode, Cond.instanceMethod yX10_insertNode, Cond.selects RX10 yX10_insertNode yX10_insertNode, Cond.code yX10_insertNode cX10_insertNode 4 (some .boolean), Cond.fieldLink RX10 21 "ProofServer$Syntax" "nodes" "[I", Cond.code yX10_isOne cX10_isOne 6 (some .boolean), Cond.methodLink RX10 119 yX10_peekName]
def wsX10_isChain_r2 : List Cond := [Cond.instanceMethod yX10_peekName, Cond.selects RX10 yX10_peekName yX10_peekName, Cond.code yX10_peekName cX10_peekName 1 (some .int), Cond.fieldLink RX10 15 "ProofServer$Syntax" "values" "[I", Cond.methodLink RX10 134 yX10_addNode, Cond.instanceMethod yX10_addNode, Cond.selects RX10 yX10_addNode yX10_addNode, Cond.code yX10_addNode cX10_addNode 2 (some .boolean), Cond.methodLink RX10 105 yX10_isSign, Cond.instanceMethod yX10_isSign, Cond.selects RX10 yX10_isSign yX10_isSign, Cond.code yX10_isSign cX10_isSign 3 (some .boolean), Cond.methodLink RX10 112 yX10_isTerm, Cond.instanceMethod yX10_isTerm, Cond.selects RX10 yX10_isTerm yX10_isTerm, Cond.code yX10_isTerm cX10_isTerm 6 (some .boolean)]
def wsX10_isChain : List Cond := .code yX10_isChain cX10_isChain 6 (some .boolean) :: ((wsX10_isChain_r1 ++ wsX10_isChain_r2) ++ wsX100)
def qX10_isChain (l : Launch) (dC : Nat → ClassId) (dI : Nat → Nat → Nat) (ca : Nat → ClassId) (base : Nat) (B : jF) (ef jf : Nat) : Prop := ∀ (G0 : jT) (X : List Nat) (H0 : Heap) (a : Nat) (st dp : Int32) (tk0 at0 nc0 : Int32), Met l yX10_isChain wsX10_isChain ({ frames := 5 * ef + 6 + jf, cells := 0, slots := 0, locals := 160 * ef + 230 + 30 * jf }) (va_Pc [.ref a, .int st, .int dp] (fun U => U.heap = H0 ∧ jX B base G0 X H0 ∧ jG dC dI ca base U ∧ G0 a = some (12, 0) ∧ a ∈ X ∧ jB12e dC dI ca G0 a tk0 at0 nc0 H0 ∧ (0 ≤ tk0.toInt ∧ tk0.toInt ≤ 1500 ∧ 0 ≤ at0.toInt ∧ 0 ≤ nc0.toInt ∧ nc0.toInt ≤ 3000 ∧ at0.toInt ≤ tk0.toInt ∧ dp.toInt = 12 - ef ∧ ef ≤ 12 ∧ st.toInt = 2 - jf ∧ jf ≤ 2))) (va_Qi (S := Int32 × Int32 × Int32) (fun r u => (r = 0 ∨ r = 1) ∧ u.1.toInt = tk0.toInt ∧ 0 ≤ u.2.1.toInt ∧ nc0.toInt ≤ u.2.2.toInt ∧ u.2.2.toInt ≤ 3000 ∧ u.2.1.toInt ≤ tk0.toInt + 2 ∧ (r.toInt = 0 ∨ (u.2.1.toInt ≤ tk0.toInt ∧ nc0.toInt + 1 ≤ u.2.2.toInt))) (fun u t => jX B base G0 X t.heap ∧ jB12e dC dI ca G0 a u.1 u.2.1 u.2.2 t.heap ∧  jModP G0 (fun r => r = a) H0 t.heap ∧ t.heap.size = H0.size ∧ jTot t.heap = jTot H0) (jA base)) 0 0 (jA base)
theorem aX10_isTerm (l : Launch) (dC : Nat → ClassId) (dI : Nat → Nat → Nat) (ca : Nat → ClassId) (base : Nat) (B : jF) (hB : jBok B) : ∀ ef, qX10_isTerm l dC dI ca base B ef := fun ef => Nat.strongRecOn ef (fun e ih => fun G0 X H0 a kd dp tk0 at0 nc0 => tX10_isTerm l dC dI ca base B hB e ih G0 X H0 a kd dp tk0 at0 nc0)
set_option maxHeartbeats 4000000 in
set_option maxRecDepth 20000 in
theorem tX10_isOne (l : Launch) (dC : Nat → ClassId) (dI : Nat → Nat → Nat) (ca : Nat → ClassId) (base : Nat) (B : jF) (hB : jBok B) (ef : Nat) (ihO : ∀ e1, e1 < ef → qX10_isOne l dC dI ca base B e1) (ihC : ∀ e1, e1 < ef → qX10_isChain l dC dI ca base B e1 2) (G0 : jT) (X : List Nat) (H0 : Heap) (a : Nat) (dp : Int32) (tk0 at0 nc0 : Int32) : Met l yX10_isOne wsX10_isOne ({ frames := 5 * ef + 5, cells := 0, slots := 0, locals := 160 * ef + 200 }) (va_Pc [.ref a, .int dp] (fun U => U.heap = H0 ∧ jX B base G0 X H0 ∧ jG dC dI ca base U ∧ G0 a = some (12, 0) ∧ a ∈ X ∧ jB12e dC dI ca G0 a tk0 at0 nc0 H0 ∧ (0 ≤ tk0.toInt ∧ tk0.toInt ≤ 1500 ∧ 0 ≤ at0.toInt ∧ 0 ≤ nc0.toInt ∧ nc0.toInt ≤ 3000 ∧ at0.toInt ≤ tk0.toInt ∧ dp.toInt = 12 - ef ∧ ef ≤ 12))) (va_Qi (S := Int32 × Int32 × Int32) (fun r u => (r = 0 ∨ r = 1) ∧ u.1.toInt = tk0.toInt ∧ 0 ≤ u.2.1.toInt ∧ nc0.toInt ≤ u.2.2.toInt ∧ u.2.2.toInt ≤ 3000 ∧ u.2.1.toInt ≤ tk0.toInt + 2 ∧ (r.toInt = 0 ∨ (u.2.1.toInt ≤ tk0.toInt ∧ nc0.toInt + 1 ≤ u.2.2.toInt))) (fun u t => jX B base G0 X t.heap ∧ jB12e dC dI ca G0 a u.1 u.2.1 u.2.2 t.heap ∧  jModP G0 (fun r => r = a) H0 t.heap ∧ t.heap.size = H0.size ∧ jTot t.heap = jTot H0) (jA base)) 0 0 (jA base) := by
  refine Met.ofW (cc := cX10_isOne) (maxL := 6) (ret := (some .boolean)) (by decide) rfl ?_
  intro p e s m args below meth c s₁ Bd hml hv
  obtain ⟨rfl, hH0, hX, hG, hg_a, hm_a, he_a, ht0, ht1, ha0, hn0, hn1, hp0, hp1, hp2⟩ := hv
  have hK := hG.1
  have hx := Bd.exec
  have hb := Bd.bytes
  have hr := Bd.returns
  have hts := atoms_spec (ws := wsX10_isOne) Bd.pre
  have hown : s.vm.findClass RX10 = some m.cls := findClass_of_methodNamed Bd.named
  have hlocks := Bd.notSynchronized
  have hin_12 : ∀ w ∈ u_ws RX10 TX10 11, w ∈ wsX10_isOne := by decide +kernel
  obtain ⟨Q, hQ⟩ : ∃ Q, Q = MQ below (va_Qi (S := Int32 × Int32 × Int32) (fun r u => (r = 0 ∨ r = 1) ∧ u.1.toInt = tk0.toInt ∧ 0 ≤ u.2.1.toInt ∧ nc0.toInt ≤ u.2.2.toInt ∧ u.2.2.toInt ≤ 3000 ∧ u.2.1.toInt ≤ tk0.toInt + 2 ∧ (r.toInt = 0 ∨ (u.2.1.toInt ≤ tk0.toInt ∧ nc0.toInt + 1 ≤ u.2.2.toInt))) (fun u t => jX B base G0 X t.heap ∧ jB12e dC dI ca G0 a u.1 u.2.1 u.2.2 t.heap ∧  jModP G0 (fun r => r = a) H0 t.heap ∧ t.heap.size = H0.size ∧ jTot t.heap = jTot H0) (jA base)) ([.ref a, .int dp] : List Value).toArray s 0 0 (jA base) := ⟨_, rfl⟩
  rw [← hQ]
  have hl := lv_entry ([.ref a, .int dp]) (n := 6) (Nat.le_of_ble_eq_true rfl)
  rw [lg_entry_eq]
  generalize (lg_sl ([.ref a, .int dp]) ++ List.replicate (6 - (lg_sl ([.ref a, .int dp])).length) Slot.unset).toArray = ls at hl ⊢
  have hl : lv_has ls 6 [(0, .ref a), (1, .int dp)] := hl
  generalize hR : (headSpec wsX10_isOne ({ frames := 5 * ef + 5, cells := 0, slots := 0, locals := 160 * ef + 200 })).room = R
  subst hH0
  have hS : va_S (jA base) s.heap s.heap [] := va_S.rf
  have hM : jModP G0 (fun r => r = a) s.heap s.heap := jModP.rf
  have hz : s.heap.size = s.heap.size := rfl
  have hT : jTot s.heap = jTot s.heap := rfl
  have hlt_a := hX.2 _ _ hg_a
  have hrt_a : jRoot G0 a := ⟨_, _, hg_a, by omega⟩
  have hk0 : (0 : Int32).toInt = 0 := by decide
  have hk1 : (1 : Int32).toInt = 1 := by decide
  have hk2 : (2 : Int32).toInt = 2 := by decide
  have hk4 : (4 : Int32).toInt = 4 := by decide
  have hk5 : (5 : Int32).toInt = 5 := by decide
  have hk6 : (6 : Int32).toInt = 6 := by decide
  have hk7 : (7 : Int32).toInt = 7 := by decide
  have hk8 : (8 : Int32).toInt = 8 := by decide
  have hk12 : (12 : Int32).toInt = 12 := by decide
  have hk15 : (15 : Int32).toInt = 15 := by decide
  have hk40 : (40 : Int32).toInt = 40 := by decide
  have hk41 : (41 : Int32).toInt = 41 := by decide
  have hk44 : (44 : Int32).toInt = 44 := by decide
  have hk61 : (61 : Int32).toInt = 61 := by decide
  have hk126 : (126 : Int32).toInt = 126 := by decide
  refine lv_aload_n hx hb dX10_isOne_0 rfl (lv_at hl 0 rfl) ?_
  obtain ⟨names_3, kinds_3, values_3, word_3, told_3, toldCount_3, terms_3, nodes_3, f_kinds_3, f_values_3, f_told_3, f_nodes_3, hat_a_3, hat_kinds_3, hat_values_3, hat_told_3, hat_nodes_3, hg_kinds_3, hg_values_3, hg_told_3, hg_nodes_3, hg_names_3, hf0_3, hf1_3⟩ := id he_a
  have hlt_names_3 := hX.2 _ _ hg_names_3
  have hrt_names_3 : jRoot G0 names_3 := ⟨_, _, hg_names_3, by omega⟩
  have he_4 : jB12e dC dI ca G0 a tk0 at0 nc0 s.heap := ⟨names_3, kinds_3, values_3, word_3, told_3, toldCount_3, terms_3, nodes_3, f_kinds_3, f_values_3, f_told_3, f_nodes_3, hat_a_3, hat_kinds_3, hat_values_3, hat_told_3, hat_nodes_3, hg_kinds_3, hg_values_3, hg_told_3, hg_nodes_3, hg_names_3, by first | omega | assumption | (simp; done) | exact Or.inl rfl | exact Or.inr rfl, by first | omega | assumption | (simp; done) | exact Or.inl rfl | exact Or.inr rfl⟩
  refine va_calli (A0 := jA base) (H0 := s.heap) (va_runV (As := []) (rest := []) ⟨hx, hb, hml, hown, hts⟩ (tX10_peek l dC dI ca base B hB G0 X s.heap a tk0 at0 nc0) (cwV 0 hts gX10_isOne_X10_peek rfl rfl rfl (by decide +kernel) ⟨by rw [← hR]; show (0) + 1 ≤ 5 * ef + 5; omega, by rw [← hR]; show 8 + (1 + 11) + (0) ≤ 160 * ef + 200; omega⟩) ⟨fun a U g mk q => by obtain ⟨q0, q1, q2, qK, q9⟩ := q; exact ⟨q0, q1, q2, jG.calling g mk a qK, q9⟩, va_recv hK (jp_one hat_a_3) (ci := 12) (q0 := 0) rfl rfl, fun U hU hW => ⟨rfl, hU, hX, hG.step hW hU hS, hg_a, hm_a, he_4, by refine ⟨?_, ?_, ?_, ?_, ?_, ?_⟩ <;> omega⟩⟩ rfl rfl hl.1 rfl (lv_room (Nat.le_of_ble_eq_true rfl)) dX10_isOne_1 ⟨Nat.zero_le _, Nat.zero_le _⟩) hS (fun q _ h => h) (fun q h => h) (fun r_1 u t H1 locs1 ht hvm hr_1 hBb hz1 hk1 hS_2 => ?_)
  obtain ⟨tk_2, at_2, nc_2⟩ := u
  obtain ⟨hX_2, he_2, hM_20, hz_20, hT_20⟩ := hBb
  rw [ht] at hX_2 he_2 hM_20 hz_20 hT_20
  simp only at hr_1 he_2
  have hM_2 := hM.tr0 hM_20 hz (by intro r; simp)
  have hz_2 := hz_20.trans hz
  have hT_2 := hT_20.trans hT
  clear hz1 hk1 hvm ht hM_20 hz_20 hT_20
  refine lv_istore_n (lv' := [(2, .int r_1), (0, .ref a), (1, .int dp)]) hx hb dX10_isOne_4 rfl hl (by decide) rfl (fun ls hl => ?_)
  refine lv_aload_n hx hb dX10_isOne_5 rfl (lv_at hl 1 rfl) ?_
  obtain ⟨names_7, kinds_7, values_7, word_7, told_7, toldCount_7, terms_7, nodes_7, f_kinds_7, f_values_7, f_told_7, f_nodes_7, hat_a_7, hat_kinds_7, hat_values_7, hat_told_7, hat_nodes_7, hg_kinds_7, hg_values_7, hg_told_7, hg_nodes_7, hg_names_7, hf0_7, hf1_7⟩ := id he_2
  have hlt_names_7 := hX_2.2 _ _ hg_names_7
  have hrt_names_7 : jRoot G0 names_7 := ⟨_, _, hg_names_7, by omega⟩
  have he_8 : jB12e dC dI ca G0 a tk_2 at_2 nc_2 H1 := ⟨names_7, kinds_7, values_7, word_7, told_7, toldCount_7, terms_7, nodes_7, f_kinds_7, f_values_7, f_told_7, f_nodes_7, hat_a_7, hat_kinds_7, hat_values_7, hat_told_7, hat_nodes_7, hg_kinds_7, hg_values_7, hg_told_7, hg_nodes_7, hg_names_7, by first | omega | assumption | (simp; done) | exact Or.inl rfl | exact Or.inr rfl, by first | omega | assumption | (simp; done) | exact Or.inl rfl | exact Or.inr rfl⟩
  refine va_calli (A0 := jA base) (H0 := s.heap) (va_runV (As := []) (rest := []) ⟨hx, hb, hml, hown, hts⟩ (tX10_peekName l dC dI ca base B hB G0 X H1 a tk_2 at_2 nc_2) (cwV 0 hts gX10_isOne_X10_peekName rfl rfl rfl (by decide +kernel) ⟨by rw [← hR]; show (1) + 1 ≤ 5 * ef + 5; omega, by rw [← hR]; show 8 + (1 + 11) + (40) ≤ 160 * ef + 200; omega⟩) ⟨fun a U g mk q => by obtain ⟨q0, q1, q2, qK, q9⟩ := q; exact ⟨q0, q1, q2, jG.calling g mk a qK, q9⟩, va_recv hK (jp_one hat_a_7) (ci := 12) (q0 := 0) rfl rfl, fun U hU hW => ⟨rfl, hU, hX_2, hG.step hW hU hS_2, hg_a, hm_a, he_8, by refine ⟨?_, ?_, ?_, ?_, ?_, ?_⟩ <;> omega⟩⟩ rfl rfl hl.1 rfl (lv_room (Nat.le_of_ble_eq_true rfl)) dX10_isOne_6 ⟨Nat.zero_le _, Nat.zero_le _⟩) hS_2 (fun q _ h => h) (fun q h => h) (fun r_5 u t H1 locs1 ht hvm hr_5 hBb hz1 hk1 hS_6 => ?_)
  obtain ⟨tk_6, at_6, nc_6⟩ := u
  obtain ⟨hX_6, he_6, hM_60, hz_60, hT_60⟩ := hBb
  rw [ht] at hX_6 he_6 hM_60 hz_60 hT_60
  simp only at hr_5 he_6
  have hM_6 := hM_2.tr0 hM_60 hz_2 (by intro r; simp)
  have hz_6 := hz_60.trans hz_2
  have hT_6 := hT_60.trans hT_2
  clear hz1 hk1 hvm ht hM_60 hz_60 hT_60
  refine lv_istore_n (lv' := [(3, .int r_5), (2, .int r_1), (0, .ref a), (1, .int dp)]) hx hb dX10_isOne_9 rfl hl (by decide) rfl (fun ls hl => ?_)
  refine lv_iload_n hx hb dX10_isOne_10 rfl (lv_at hl 1 rfl) ?_
  refine lv_bipush (v := 126) hx hb dX10_isOne_11 (by decide) ?_
  refine lv_icmp_ne (tgt := 64) hx hb dX10_isOne_13 (by decide) (fun c_9 => ?_) (fun c_9 => ?_)
  · skip
    have c_9' : r_1.toInt ≠ 126 := jb_ne (rfl) ((by decide)) c_9
    refine lv_iload_n hx hb dX10_isOne_64 rfl (lv_at hl 1 rfl) ?_
    refine lv_bipush (v := 40) hx hb dX10_isOne_65 (by decide) ?_
    refine lv_icmp_ne (tgt := 112) hx hb dX10_isOne_67 (by decide) (fun c_10 => ?_) (fun c_10 => ?_)
    · skip
      have c_10' : r_1.toInt ≠ 40 := jb_ne (rfl) ((by decide)) c_10
      refine lv_iload_n hx hb dX10_isOne_112 rfl (lv_at hl 0 rfl) ?_
      refine lv_if_eq (tgt := 121) hx hb dX10_isOne_113 (by decide) (fun c_11 => ?_) (fun c_11 => ?_)
      · skip
        have c_11' : r_5.toInt = 0 := jb_eq (rfl) ((by decide)) c_11
        refine lv_aload_n hx hb dX10_isOne_121 rfl (lv_at hl 2 rfl) ?_
        refine lv_dup hx hb dX10_isOne_122 rfl ?_
        obtain ⟨names_12, kinds_12, values_12, word_12, told_12, toldCount_12, terms_12, nodes_12, f_kinds_12, f_values_12, f_told_12, f_nodes_12, hat_a_12, hat_kinds_12, hat_values_12, hat_told_12, hat_nodes_12, hg_kinds_12, hg_values_12, hg_told_12, hg_nodes_12, hg_names_12, hf0_12, hf1_12⟩ := id he_6
        have hlt_names_12 := hX_6.2 _ _ hg_names_12
        have hrt_names_12 : jRoot G0 names_12 := ⟨_, _, hg_names_12, by omega⟩
        refine va_get (D := (dC, dI)) (ci := 12) (v := .int at_6) (C := RX10) (T := TX10) (N := 11) hx hb hts hin_12 hown hK (jp_one hat_a_12) 0 rfl rfl 4 (by decide) (hts (.fieldLink RX10 83 "ProofServer$Syntax" "at" "I") (by decide +kernel)) (fun _ h9 => h9) rfl dX10_isOne_123 ?_
        refine lv_iconst (v := 1) hx hb dX10_isOne_126 (by decide) ?_
        refine lv_iadd hx hb dX10_isOne_127 ?_
        refine lv_topi (fun z_13 ez_13 => ?_)
        have hz_13 : z_13.toInt = at_6.toInt + 1 := by rw [ez_13]; exact jb_iadd (rfl) ((by decide)) (by omega) (by omega)
        refine j_put (D := (dC, dI)) (ci := 12) (v := .int z_13) (ty := .int) (C := RX10) (T := TX10) (N := 11) (A := jA base) hx hb hts hin_12 tyX10 tyX10_ok nmX10 hown hK hat_a_12 (hX_6.2 _ _ hg_a).1 hS_6.2.2 rfl 4 (by decide) (hts (.fieldLink RX10 83 "ProofServer$Syntax" "at" "I") (by decide +kernel)) (fun _ h9 => h9) rfl (by decide +kernel) rfl rfl (Nat.le_of_ble_eq_true rfl) dX10_isOne_128 (fun H1 locs1 hat1 hsz1 hfr1 hT1 hL1 => ?_)
        have hX_15 := hX_6.put hB hg_a (by omega) jSup.root hm_a hsz1 hfr1
        have hM_15 := hM_6.put jExt.rf hrt_a jSup.root (by simp) hfr1
        have hz_15 := hsz1.trans hz_6
        have hT_15 := hT1.trans hT_6
        have hS_15 := jS_put hS_6 hsz1 hfr1 (hX_6.2 _ _ hg_a).1 hL1
        have hat_kinds_12_15 := hat_kinds_12.kept (hfr1 _ (jne hg_kinds_12 hg_a (by simp)))
        have hat_values_12_15 := hat_values_12.kept (hfr1 _ (jne hg_values_12 hg_a (by simp)))
        have hat_told_12_15 := hat_told_12.kept (hfr1 _ (jne hg_told_12 hg_a (by simp)))
        have hat_nodes_12_15 := hat_nodes_12.kept (hfr1 _ (jne hg_nodes_12 hg_a (by simp)))
        clear hfr1 hsz1 hT1 hL1
        have hat_a_15 : va_at (dC, dI) vwCl (a, .inr (12, [.ref names_12, .ref kinds_12, .ref values_12, .int tk_6, .int z_13, .int word_12, .ref told_12, .int toldCount_12, .int terms_12, .ref nodes_12, .int nc_6])) H1 := hat1
        clear hat1
        refine lv_aload_n hx hb dX10_isOne_131 rfl (lv_at hl 2 rfl) ?_
        have he_18 : jB12e dC dI ca G0 a tk_6 z_13 nc_6 H1 := ⟨names_12, kinds_12, values_12, word_12, told_12, toldCount_12, terms_12, nodes_12, f_kinds_12, f_values_12, f_told_12, f_nodes_12, hat_a_15, hat_kinds_12_15, hat_values_12_15, hat_told_12_15, hat_nodes_12_15, hg_kinds_12, hg_values_12, hg_told_12, hg_nodes_12, hg_names_12, by first | omega | assumption | (simp; done) | exact Or.inl rfl | exact Or.inr rfl, by first | omega | assumption | (simp; done) | exact Or.inl rfl | exact Or.inr rfl⟩
        refine va_calli (A0 := jA base) (H0 := s.heap) (va_runV (As := []) (rest := []) ⟨hx, hb, hml, hown, hts⟩ (tX10_peekName l dC dI ca base B hB G0 X H1 a tk_6 z_13 nc_6) (cwV 0 hts gX10_isOne_X10_peekName rfl rfl rfl (by decide +kernel) ⟨by rw [← hR]; show (1) + 1 ≤ 5 * ef + 5; omega, by rw [← hR]; show 8 + (1 + 11) + (40) ≤ 160 * ef + 200; omega⟩) ⟨fun a U g mk q => by obtain ⟨q0, q1, q2, qK, q9⟩ := q; exact ⟨q0, q1, q2, jG.calling g mk a qK, q9⟩, va_recv hK (jp_one hat_a_15) (ci := 12) (q0 := 0) rfl rfl, fun U hU hW => ⟨rfl, hU, hX_15, hG.step hW hU hS_15, hg_a, hm_a, he_18, by refine ⟨?_, ?_, ?_, ?_, ?_, ?_⟩ <;> omega⟩⟩ rfl rfl hl.1 rfl (lv_room (Nat.le_of_ble_eq_true rfl)) dX10_isOne_132 ⟨Nat.zero_le _, Nat.zero_le _⟩) hS_15 (fun q _ h => h) (fun q h => h) (fun r_16 u t H1 locs1 ht hvm hr_16 hBb hz1 hk1 hS_17 => ?_)
        obtain ⟨tk_17, at_17, nc_17⟩ := u
        obtain ⟨hX_17, he_17, hM_170, hz_170, hT_170⟩ := hBb
        rw [ht] at hX_17 he_17 hM_170 hz_170 hT_170
        simp only at hr_16 he_17
        have hM_17 := hM_15.tr0 hM_170 hz_15 (by intro r; simp)
        have hz_17 := hz_170.trans hz_15
        have hT_17 := hT_170.trans hT_15
        clear hz1 hk1 hvm ht hM_170 hz_170 hT_170
        refine lv_istore (lv' := [(4, .int r_16), (3, .int r_5), (2, .int r_1), (0, .ref a), (1, .int dp)]) hx hb dX10_isOne_135 hl (by decide) rfl (fun ls hl => ?_)
        refine lv_iload_n hx hb dX10_isOne_137 rfl (lv_at hl 1 rfl) ?_
        refine lv_if_ne (tgt := 145) hx hb dX10_isOne_138 (by decide) (fun c_19 => ?_) (fun c_19 => ?_)
        · skip
          have c_19' : r_5.toInt ≠ 0 := jb_ne (rfl) ((by decide)) c_19
          refine lv_bipush (v := 6) hx hb dX10_isOne_145 (by decide) ?_
          refine lv_iload hx hb dX10_isOne_147 (lv_at hl 0 rfl) ?_
          refine lv_bipush (v := 15) hx hb dX10_isOne_149 (by decide) ?_
          refine lv_ishl hx hb dX10_isOne_151 ?_
          refine lv_topi (fun z_20 ez_20 => ?_)
          refine lv_ior hx hb dX10_isOne_152 ?_
          refine lv_topi (fun z_21 ez_21 => ?_)
          refine lv_istore (lv' := [(5, .int z_21), (4, .int r_16), (3, .int r_5), (2, .int r_1), (0, .ref a), (1, .int dp)]) hx hb dX10_isOne_153 hl (by decide) rfl (fun ls hl => ?_)
          refine lv_aload_n hx hb dX10_isOne_155 rfl (lv_at hl 4 rfl) ?_
          refine lv_dup hx hb dX10_isOne_156 rfl ?_
          obtain ⟨names_22, kinds_22, values_22, word_22, told_22, toldCount_22, terms_22, nodes_22, f_kinds_22, f_values_22, f_told_22, f_nodes_22, hat_a_22, hat_kinds_22, hat_values_22, hat_told_22, hat_nodes_22, hg_kinds_22, hg_values_22, hg_told_22, hg_nodes_22, hg_names_22, hf0_22, hf1_22⟩ := id he_17
          have hlt_names_22 := hX_17.2 _ _ hg_names_22
          have hrt_names_22 : jRoot G0 names_22 := ⟨_, _, hg_names_22, by omega⟩
          refine va_get (D := (dC, dI)) (ci := 12) (v := .int at_17) (C := RX10) (T := TX10) (N := 11) hx hb hts hin_12 hown hK (jp_one hat_a_22) 0 rfl rfl 4 (by decide) (hts (.fieldLink RX10 83 "ProofServer$Syntax" "at" "I") (by decide +kernel)) (fun _ h9 => h9) rfl dX10_isOne_157 ?_
          refine lv_iconst (v := 1) hx hb dX10_isOne_160 (by decide) ?_
          refine lv_iadd hx hb dX10_isOne_161 ?_
          refine lv_topi (fun z_23 ez_23 => ?_)
          have hz_23 : z_23.toInt = at_17.toInt + 1 := by rw [ez_23]; exact jb_iadd (rfl) ((by decide)) (by omega) (by omega)
          refine j_put (D := (dC, dI)) (ci := 12) (v := .int z_23) (ty := .int) (C := RX10) (T := TX10) (N := 11) (A := jA base) hx hb hts hin_12 tyX10 tyX10_ok nmX10 hown hK hat_a_22 (hX_17.2 _ _ hg_a).1 hS_17.2.2 rfl 4 (by decide) (hts (.fieldLink RX10 83 "ProofServer$Syntax" "at" "I") (by decide +kernel)) (fun _ h9 => h9) rfl (by decide +kernel) rfl rfl (Nat.le_of_ble_eq_true rfl) dX10_isOne_162 (fun H1 locs1 hat1 hsz1 hfr1 hT1 hL1 => ?_)
          have hX_25 := hX_17.put hB hg_a (by omega) jSup.root hm_a hsz1 hfr1
          have hM_25 := hM_17.put jExt.rf hrt_a jSup.root (by simp) hfr1
          have hz_25 := hsz1.trans hz_17
          have hT_25 := hT1.trans hT_17
          have hS_25 := jS_put hS_17 hsz1 hfr1 (hX_17.2 _ _ hg_a).1 hL1
          have hat_kinds_22_25 := hat_kinds_22.kept (hfr1 _ (jne hg_kinds_22 hg_a (by simp)))
          have hat_values_22_25 := hat_values_22.kept (hfr1 _ (jne hg_values_22 hg_a (by simp)))
          have hat_told_22_25 := hat_told_22.kept (hfr1 _ (jne hg_told_22 hg_a (by simp)))
          have hat_nodes_22_25 := hat_nodes_22.kept (hfr1 _ (jne hg_nodes_22 hg_a (by simp)))
          clear hfr1 hsz1 hT1 hL1
          have hat_a_25 : va_at (dC, dI) vwCl (a, .inr (12, [.ref names_22, .ref kinds_22, .ref values_22, .int tk_17, .int z_23, .int word_22, .ref told_22, .int toldCount_22, .int terms_22, .ref nodes_22, .int nc_17])) H1 := hat1
          clear hat1
          refine lv_iload_n hx hb dX10_isOne_165 rfl (lv_at hl 5 rfl) ?_
          refine lv_bipush (v := 12) hx hb dX10_isOne_166 (by decide) ?_
          refine lv_icmp_ge (tgt := 210) hx hb dX10_isOne_168 (by decide) (fun c_26 => ?_) (fun c_26 => ?_)
          · skip
            have c_26' : dp.toInt ≥ 12 := jb_ge (rfl) ((by decide)) c_26
            refine lv_iconst (v := 0) hx hb dX10_isOne_210 (by decide) ?_
            have he_27 : jB12e dC dI ca G0 a tk_17 z_23 nc_17 H1 := ⟨names_22, kinds_22, values_22, word_22, told_22, toldCount_22, terms_22, nodes_22, f_kinds_22, f_values_22, f_told_22, f_nodes_22, hat_a_25, hat_kinds_22_25, hat_values_22_25, hat_told_22_25, hat_nodes_22_25, hg_kinds_22, hg_values_22, hg_told_22, hg_nodes_22, hg_names_22, by first | omega | assumption | (simp; done) | exact Or.inl rfl | exact Or.inr rfl, by first | omega | assumption | (simp; done) | exact Or.inl rfl | exact Or.inr rfl⟩
            rw [hQ]
            exact W.zret (v := 0) hx hb hr (jb_nz (Or.inl rfl)) (fun t ht hW => ⟨⟨0, (tk_17, z_23, nc_17), rfl, ⟨(Or.inl rfl), by refine ⟨?_, ?_, ?_, ?_, ?_, ?_⟩ <;> first | rfl | omega | (left; omega) | (right; omega) | exact Or.inl ⟨by decide, rfl⟩ | (simp only; omega)⟩, by rw [ht]; try exact hX_25, by rw [ht]; try exact he_27, by rw [ht]; try exact hM_25, by rw [ht]; try exact hz_25, by rw [ht]; try exact hT_25⟩, by rw [ht]; try exact hS_25.1, fun q h9 hq => by rw [ht]; try exact hS_25.2.1 q h9 hq⟩) hS_25.2.2 dX10_isOne_211
          · skip
            have c_26' : dp.toInt < 12 := jb_ge_n (rfl) ((by decide)) c_26
            refine lv_iload hx hb dX10_isOne_171 (lv_at hl 1 rfl) ?_
            refine lv_iconst (v := 2) hx hb dX10_isOne_173 (by decide) ?_
            refine lv_icmp_le (tgt := 210) hx hb dX10_isOne_174 (by decide) (fun c_28 => ?_) (fun c_28 => ?_)
            · skip
              have c_28' : r_16.toInt ≤ 2 := jb_le (rfl) ((by decide)) c_28
              refine lv_iconst (v := 0) hx hb dX10_isOne_210 (by decide) ?_
              have he_29 : jB12e dC dI ca G0 a tk_17 z_23 nc_17 H1 := ⟨names_22, kinds_22, values_22, word_22, told_22, toldCount_22, terms_22, nodes_22, f_kinds_22, f_values_22, f_told_22, f_nodes_22, hat_a_25, hat_kinds_22_25, hat_values_22_25, hat_told_22_25, hat_nodes_22_25, hg_kinds_22, hg_values_22, hg_told_22, hg_nodes_22, hg_names_22, by first | omega | assumption | (simp; done) | exact Or.inl rfl | exact Or.inr rfl, by first | omega | assumption | (simp; done) | exact Or.inl rfl | exact Or.inr rfl⟩
              rw [hQ]
              exact W.zret (v := 0) hx hb hr (jb_nz (Or.inl rfl)) (fun t ht hW => ⟨⟨0, (tk_17, z_23, nc_17), rfl, ⟨(Or.inl rfl), by refine ⟨?_, ?_, ?_, ?_, ?_, ?_⟩ <;> first | rfl | omega | (left; omega) | (right; omega) | exact Or.inl ⟨by decide, rfl⟩ | (simp only; omega)⟩, by rw [ht]; try exact hX_25, by rw [ht]; try exact he_29, by rw [ht]; try exact hM_25, by rw [ht]; try exact hz_25, by rw [ht]; try exact hT_25⟩, by rw [ht]; try exact hS_25.1, fun q h9 hq => by rw [ht]; try exact hS_25.2.1 q h9 hq⟩) hS_25.2.2 dX10_isOne_211
            · skip
              have c_28' : r_16.toInt > 2 := jb_le_n (rfl) ((by decide)) c_28
              refine lv_aload_n hx hb dX10_isOne_177 rfl (lv_at hl 4 rfl) ?_
              refine lv_bipush (v := 44) hx hb dX10_isOne_178 (by decide) ?_
              have he_32 : jB12e dC dI ca G0 a tk_17 z_23 nc_17 H1 := ⟨names_22, kinds_22, values_22, word_22, told_22, toldCount_22, terms_22, nodes_22, f_kinds_22, f_values_22, f_told_22, f_nodes_22, hat_a_25, hat_kinds_22_25, hat_values_22_25, hat_told_22_25, hat_nodes_22_25, hg_kinds_22, hg_values_22, hg_told_22, hg_nodes_22, hg_names_22, by first | omega | assumption | (simp; done) | exact Or.inl rfl | exact Or.inr rfl, by first | omega | assumption | (simp; done) | exact Or.inl rfl | exact Or.inr rfl⟩
              refine va_calli (A0 := jA base) (H0 := s.heap) (va_runV (As := [.int 44]) (rest := []) ⟨hx, hb, hml, hown, hts⟩ (tX10_isSign l dC dI ca base B hB G0 X H1 a 44 tk_17 z_23 nc_17) (cwV 1 hts gX10_isOne_X10_isSign rfl rfl rfl (by decide +kernel) ⟨by rw [← hR]; show (0) + 1 ≤ 5 * ef + 5; omega, by rw [← hR]; show 8 + (3 + 11) + (0) ≤ 160 * ef + 200; omega⟩) ⟨fun a U g mk q => by obtain ⟨q0, q1, q2, qK, q9⟩ := q; exact ⟨q0, q1, q2, jG.calling g mk a qK, q9⟩, va_recv hK (jp_one hat_a_25) (ci := 12) (q0 := 0) rfl rfl, fun U hU hW => ⟨rfl, hU, hX_25, hG.step hW hU hS_25, hg_a, hm_a, he_32, by refine ⟨?_, ?_, ?_, ?_, ?_, ?_⟩ <;> omega⟩⟩ rfl rfl hl.1 rfl (lv_room (Nat.le_of_ble_eq_true rfl)) dX10_isOne_180 ⟨Nat.zero_le _, Nat.zero_le _⟩) hS_25 (fun q _ h => h) (fun q h => h) (fun r_30 u t H1 locs1 ht hvm hr_30 hBb hz1 hk1 hS_31 => ?_)
              obtain ⟨tk_31, at_31, nc_31⟩ := u
              obtain ⟨hX_31, he_31, hM_310, hz_310, hT_310⟩ := hBb
              rw [ht] at hX_31 he_31 hM_310 hz_310 hT_310
              simp only at hr_30 he_31
              have hM_31 := hM_25.tr0 hM_310 hz_25 (by intro r; simp)
              have hz_31 := hz_310.trans hz_25
              have hT_31 := hT_310.trans hT_25
              clear hz1 hk1 hvm ht hM_310 hz_310 hT_310
              obtain ⟨hr_30b, hr_30p⟩ := hr_30
              have hr_30' := jb_01 hr_30b
              refine lv_if_eq (tgt := 210) hx hb dX10_isOne_183 (by decide) (fun c_33 => ?_) (fun c_33 => ?_)
              · skip
                have c_33' : r_30.toInt = 0 := jb_eq (rfl) ((by decide)) c_33
                refine lv_iconst (v := 0) hx hb dX10_isOne_210 (by decide) ?_
                rw [hQ]
                exact W.zret (v := 0) hx hb hr (jb_nz (Or.inl rfl)) (fun t ht hW => ⟨⟨0, (tk_31, at_31, nc_31), rfl, ⟨(Or.inl rfl), by refine ⟨?_, ?_, ?_, ?_, ?_, ?_⟩ <;> first | rfl | omega | (left; omega) | (right; omega) | exact Or.inl ⟨by decide, rfl⟩ | (simp only; omega)⟩, by rw [ht]; try exact hX_31, by rw [ht]; try exact he_31, by rw [ht]; try exact hM_31, by rw [ht]; try exact hz_31, by rw [ht]; try exact hT_31⟩, by rw [ht]; try exact hS_31.1, fun q h9 hq => by rw [ht]; try exact hS_31.2.1 q h9 hq⟩) hS_31.2.2 dX10_isOne_211
              · skip
                have c_33' : r_30.toInt ≠ 0 := jb_eq_n (rfl) ((by decide)) c_33
                refine lv_aload_n hx hb dX10_isOne_186 rfl (lv_at hl 4 rfl) ?_
                refine lv_iload hx hb dX10_isOne_187 (lv_at hl 0 rfl) ?_
                obtain ⟨names_36, kinds_36, values_36, word_36, told_36, toldCount_36, terms_36, nodes_36, f_kinds_36, f_values_36, f_told_36, f_nodes_36, hat_a_36, hat_kinds_36, hat_values_36, hat_told_36, hat_nodes_36, hg_kinds_36, hg_values_36, hg_told_36, hg_nodes_36, hg_names_36, hf0_36, hf1_36⟩ := id he_31
                have hlt_names_36 := hX_31.2 _ _ hg_names_36
                have hrt_names_36 : jRoot G0 names_36 := ⟨_, _, hg_names_36, by omega⟩
                have he_37 : jB12e dC dI ca G0 a tk_31 at_31 nc_31 H1 := ⟨names_36, kinds_36, values_36, word_36, told_36, toldCount_36, terms_36, nodes_36, f_kinds_36, f_values_36, f_told_36, f_nodes_36, hat_a_36, hat_kinds_36, hat_values_36, hat_told_36, hat_nodes_36, hg_kinds_36, hg_values_36, hg_told_36, hg_nodes_36, hg_names_36, by first | omega | assumption | (simp; done) | exact Or.inl rfl | exact Or.inr rfl, by first | omega | assumption | (simp; done) | exact Or.inl rfl | exact Or.inr rfl⟩
                refine va_calli (A0 := jA base) (H0 := s.heap) (va_runV (As := [.int z_21]) (rest := []) ⟨hx, hb, hml, hown, hts⟩ (tX10_addNode l dC dI ca base B hB G0 X H1 a z_21 tk_31 at_31 nc_31) (cwV 1 hts gX10_isOne_X10_addNode rfl rfl rfl (by decide +kernel) ⟨by rw [← hR]; show (0) + 1 ≤ 5 * ef + 5; omega, by rw [← hR]; show 8 + (2 + 11) + (0) ≤ 160 * ef + 200; omega⟩) ⟨fun a U g mk q => by obtain ⟨q0, q1, q2, qK, q9⟩ := q; exact ⟨q0, q1, q2, jG.calling g mk a qK, q9⟩, va_recv hK (jp_one hat_a_36) (ci := 12) (q0 := 0) rfl rfl, fun U hU hW => ⟨rfl, hU, hX_31, hG.step hW hU hS_31, hg_a, hm_a, he_37, by refine ⟨?_, ?_, ?_, ?_, ?_, ?_⟩ <;> omega⟩⟩ rfl rfl hl.1 rfl (lv_room (Nat.le_of_ble_eq_true rfl)) dX10_isOne_189 ⟨Nat.zero_le _, Nat.zero_le _⟩) hS_31 (fun q _ h => h) (fun q h => h) (fun r_34 u t H1 locs1 ht hvm hr_34 hBb hz1 hk1 hS_35 => ?_)
                obtain ⟨tk_35, at_35, nc_35⟩ := u
                obtain ⟨hX_35, he_35, hM_350, hz_350, hT_350⟩ := hBb
                rw [ht] at hX_35 he_35 hM_350 hz_350 hT_350
                simp only at hr_34 he_35
                have hM_35 := hM_31.tr0 hM_350 hz_31 (by intro r; simp)
                have hz_35 := hz_350.trans hz_31
                have hT_35 := hT_350.trans hT_31
                clear hz1 hk1 hvm ht hM_350 hz_350 hT_350
                obtain ⟨hr_34b, hr_34p⟩ := hr_34
                have hr_34' := jb_01 hr_34b
                refine lv_if_eq (tgt := 210) hx hb dX10_isOne_192 (by decide) (fun c_38 => ?_) (fun c_38 => ?_)
                · skip
                  have c_38' : r_34.toInt = 0 := jb_eq (rfl) ((by decide)) c_38
                  refine lv_iconst (v := 0) hx hb dX10_isOne_210 (by decide) ?_
                  rw [hQ]
                  exact W.zret (v := 0) hx hb hr (jb_nz (Or.inl rfl)) (fun t ht hW => ⟨⟨0, (tk_35, at_35, nc_35), rfl, ⟨(Or.inl rfl), by refine ⟨?_, ?_, ?_, ?_, ?_, ?_⟩ <;> first | rfl | omega | (left; omega) | (right; omega) | exact Or.inl ⟨by decide, rfl⟩ | (simp only; omega)⟩, by rw [ht]; try exact hX_35, by rw [ht]; try exact he_35, by rw [ht]; try exact hM_35, by rw [ht]; try exact hz_35, by rw [ht]; try exact hT_35⟩, by rw [ht]; try exact hS_35.1, fun q h9 hq => by rw [ht]; try exact hS_35.2.1 q h9 hq⟩) hS_35.2.2 dX10_isOne_211
                · skip
                  have c_38' : r_34.toInt ≠ 0 := jb_eq_n (rfl) ((by decide)) c_38
                  refine lv_aload_n hx hb dX10_isOne_195 rfl (lv_at hl 4 rfl) ?_
                  refine lv_iconst (v := 0) hx hb dX10_isOne_196 (by decide) ?_
                  refine lv_iload_n hx hb dX10_isOne_197 rfl (lv_at hl 5 rfl) ?_
                  refine lv_iconst (v := 1) hx hb dX10_isOne_198 (by decide) ?_
                  refine lv_iadd hx hb dX10_isOne_199 ?_
                  refine lv_topi (fun z_39 ez_39 => ?_)
                  have hz_39 : z_39.toInt = dp.toInt + 1 := by rw [ez_39]; exact jb_iadd (rfl) ((by decide)) (by omega) (by omega)
                  obtain ⟨names_42, kinds_42, values_42, word_42, told_42, toldCount_42, terms_42, nodes_42, f_kinds_42, f_values_42, f_told_42, f_nodes_42, hat_a_42, hat_kinds_42, hat_values_42, hat_told_42, hat_nodes_42, hg_kinds_42, hg_values_42, hg_told_42, hg_nodes_42, hg_names_42, hf0_42, hf1_42⟩ := id he_35
                  have hlt_names_42 := hX_35.2 _ _ hg_names_42
                  have hrt_names_42 : jRoot G0 names_42 := ⟨_, _, hg_names_42, by omega⟩
                  have he_43 : jB12e dC dI ca G0 a tk_35 at_35 nc_35 H1 := ⟨names_42, kinds_42, values_42, word_42, told_42, toldCount_42, terms_42, nodes_42, f_kinds_42, f_values_42, f_told_42, f_nodes_42, hat_a_42, hat_kinds_42, hat_values_42, hat_told_42, hat_nodes_42, hg_kinds_42, hg_values_42, hg_told_42, hg_nodes_42, hg_names_42, by first | omega | assumption | (simp; done) | exact Or.inl rfl | exact Or.inr rfl, by first | omega | assumption | (simp; done) | exact Or.inl rfl | exact Or.inr rfl⟩
                  refine va_calli (A0 := jA base) (H0 := s.heap) (va_runV (As := [.int 0, .int z_39]) (rest := []) ⟨hx, hb, hml, hown, hts⟩ (ihC (ef - 1) (by omega) G0 X H1 a 0 z_39 tk_35 at_35 nc_35) (cwV 2 hts gX10_isOne_X10_isChain rfl rfl rfl (by decide +kernel) ⟨by rw [← hR]; show (5 * (ef - 1) + 6 + 2) + 1 ≤ 5 * ef + 5; omega, by rw [← hR]; show 8 + (6 + 11) + (160 * (ef - 1) + 230 + 30 * 2) ≤ 160 * ef + 200; omega⟩) ⟨fun a U g mk q => by obtain ⟨q0, q1, q2, qK, q9⟩ := q; exact ⟨q0, q1, q2, jG.calling g mk a qK, q9⟩, va_recv hK (jp_one hat_a_42) (ci := 12) (q0 := 0) rfl rfl, fun U hU hW => ⟨rfl, hU, hX_35, hG.step hW hU hS_35, hg_a, hm_a, he_43, by refine ⟨?_, ?_, ?_, ?_, ?_, ?_, ?_, ?_, ?_, ?_⟩ <;> omega⟩⟩ rfl rfl hl.1 rfl (lv_room (Nat.le_of_ble_eq_true rfl)) dX10_isOne_200 ⟨Nat.zero_le _, Nat.zero_le _⟩) hS_35 (fun q _ h => h) (fun q h => h) (fun r_40 u t H1 locs1 ht hvm hr_40 hBb hz1 hk1 hS_41 => ?_)
                  obtain ⟨tk_41, at_41, nc_41⟩ := u
                  obtain ⟨hX_41, he_41, hM_410, hz_410, hT_410⟩ := hBb
                  rw [ht] at hX_41 he_41 hM_410 hz_410 hT_410
                  simp only at hr_40 he_41
                  have hM_41 := hM_35.tr0 hM_410 hz_35 (by intro r; simp)
                  have hz_41 := hz_410.trans hz_35
                  have hT_41 := hT_410.trans hT_35
                  clear hz1 hk1 hvm ht hM_410 hz_410 hT_410
                  obtain ⟨hr_40b, hr_40p⟩ := hr_40
                  have hr_40' := jb_01 hr_40b
                  refine lv_if_eq (tgt := 210) hx hb dX10_isOne_203 (by decide) (fun c_44 => ?_) (fun c_44 => ?_)
                  · skip
                    have c_44' : r_40.toInt = 0 := jb_eq (rfl) ((by decide)) c_44
                    refine lv_iconst (v := 0) hx hb dX10_isOne_210 (by decide) ?_
                    rw [hQ]
                    exact W.zret (v := 0) hx hb hr (jb_nz (Or.inl rfl)) (fun t ht hW => ⟨⟨0, (tk_41, at_41, nc_41), rfl, ⟨(Or.inl rfl), by refine ⟨?_, ?_, ?_, ?_, ?_, ?_⟩ <;> first | rfl | omega | (left; omega) | (right; omega) | exact Or.inl ⟨by decide, rfl⟩ | (simp only; omega)⟩, by rw [ht]; try exact hX_41, by rw [ht]; try exact he_41, by rw [ht]; try exact hM_41, by rw [ht]; try exact hz_41, by rw [ht]; try exact hT_41⟩, by rw [ht]; try exact hS_41.1, fun q h9 hq => by rw [ht]; try exact hS_41.2.1 q h9 hq⟩) hS_41.2.2 dX10_isOne_211
                  · skip
                    have c_44' : r_40.toInt ≠ 0 := jb_eq_n (rfl) ((by decide)) c_44
                    refine lv_iconst (v := 1) hx hb dX10_isOne_206 (by decide) ?_
                    refine lv_goto (tgt := 211) hx hb dX10_isOne_207 (by decide) ?_
                    rw [hQ]
                    exact W.zret (v := 1) hx hb hr (jb_nz (Or.inr rfl)) (fun t ht hW => ⟨⟨1, (tk_41, at_41, nc_41), rfl, ⟨(Or.inr rfl), by refine ⟨?_, ?_, ?_, ?_, ?_, ?_⟩ <;> first | rfl | omega | (left; omega) | (right; omega) | exact Or.inl ⟨by decide, rfl⟩ | (simp only; omega)⟩, by rw [ht]; try exact hX_41, by rw [ht]; try exact he_41, by rw [ht]; try exact hM_41, by rw [ht]; try exact hz_41, by rw [ht]; try exact hT_41⟩, by rw [ht]; try exact hS_41.1, fun q h9 hq => by rw [ht]; try exact hS_41.2.1 q h9 hq⟩) hS_41.2.2 dX10_isOne_211
        · skip
          have c_19' : r_5.toInt = 0 := jb_ne_n (rfl) ((by decide)) c_19
          refine lv_iconst (v := 5) hx hb dX10_isOne_141 (by decide) ?_
          refine lv_goto (tgt := 147) hx hb dX10_isOne_142 (by decide) ?_
          refine lv_iload hx hb dX10_isOne_147 (lv_at hl 0 rfl) ?_
          refine lv_bipush (v := 15) hx hb dX10_isOne_149 (by decide) ?_
          refine lv_ishl hx hb dX10_isOne_151 ?_
          refine lv_topi (fun z_45 ez_45 => ?_)
          refine lv_ior hx hb dX10_isOne_152 ?_
          refine lv_topi (fun z_46 ez_46 => ?_)
          refine lv_istore (lv' := [(5, .int z_46), (4, .int r_16), (3, .int r_5), (2, .int r_1), (0, .ref a), (1, .int dp)]) hx hb dX10_isOne_153 hl (by decide) rfl (fun ls hl => ?_)
          refine lv_aload_n hx hb dX10_isOne_155 rfl (lv_at hl 4 rfl) ?_
          refine lv_dup hx hb dX10_isOne_156 rfl ?_
          obtain ⟨names_47, kinds_47, values_47, word_47, told_47, toldCount_47, terms_47, nodes_47, f_kinds_47, f_values_47, f_told_47, f_nodes_47, hat_a_47, hat_kinds_47, hat_values_47, hat_told_47, hat_nodes_47, hg_kinds_47, hg_values_47, hg_told_47, hg_nodes_47, hg_names_47, hf0_47, hf1_47⟩ := id he_17
          have hlt_names_47 := hX_17.2 _ _ hg_names_47
          have hrt_names_47 : jRoot G0 names_47 := ⟨_, _, hg_names_47, by omega⟩
          refine va_get (D := (dC, dI)) (ci := 12) (v := .int at_17) (C := RX10) (T := TX10) (N := 11) hx hb hts hin_12 hown hK (jp_one hat_a_47) 0 rfl rfl 4 (by decide) (hts (.fieldLink RX10 83 "ProofServer$Syntax" "at" "I") (by decide +kernel)) (fun _ h9 => h9) rfl dX10_isOne_157 ?_
          refine lv_iconst (v := 1) hx hb dX10_isOne_160 (by decide) ?_
          refine lv_iadd hx hb dX10_isOne_161 ?_
          refine lv_topi (fun z_48 ez_48 => ?_)
          have hz_48 : z_48.toInt = at_17.toInt + 1 := by rw [ez_48]; exact jb_iadd (rfl) ((by decide)) (by omega) (by omega)
          refine j_put (D := (dC, dI)) (ci := 12) (v := .int z_48) (ty := .int) (C := RX10) (T := TX10) (N := 11) (A := jA base) hx hb hts hin_12 tyX10 tyX10_ok nmX10 hown hK hat_a_47 (hX_17.2 _ _ hg_a).1 hS_17.2.2 rfl 4 (by decide) (hts (.fieldLink RX10 83 "ProofServer$Syntax" "at" "I") (by decide +kernel)) (fun _ h9 => h9) rfl (by decide +kernel) rfl rfl (Nat.le_of_ble_eq_true rfl) dX10_isOne_162 (fun H1 locs1 hat1 hsz1 hfr1 hT1 hL1 => ?_)
          have hX_50 := hX_17.put hB hg_a (by omega) jSup.root hm_a hsz1 hfr1
          have hM_50 := hM_17.put jExt.rf hrt_a jSup.root (by simp) hfr1
          have hz_50 := hsz1.trans hz_17
          have hT_50 := hT1.trans hT_17
          have hS_50 := jS_put hS_17 hsz1 hfr1 (hX_17.2 _ _ hg_a).1 hL1
          have hat_kinds_47_50 := hat_kinds_47.kept (hfr1 _ (jne hg_kinds_47 hg_a (by simp)))
          have hat_values_47_50 := hat_values_47.kept (hfr1 _ (jne hg_values_47 hg_a (by simp)))
          have hat_told_47_50 := hat_told_47.kept (hfr1 _ (jne hg_told_47 hg_a (by simp)))
          have hat_nodes_47_50 := hat_nodes_47.kept (hfr1 _ (jne hg_nodes_47 hg_a (by simp)))
          clear hfr1 hsz1 hT1 hL1
          have hat_a_50 : va_at (dC, dI) vwCl (a, .inr (12, [.ref names_47, .ref kinds_47, .ref values_47, .int tk_17, .int z_48, .int word_47, .ref told_47, .int toldCount_47, .int terms_47, .ref nodes_47, .int nc_17])) H1 := hat1
          clear hat1
          refine lv_iload_n hx hb dX10_isOne_165 rfl (lv_at hl 5 rfl) ?_
          refine lv_bipush (v := 12) hx hb dX10_isOne_166 (by decide) ?_
          refine lv_icmp_ge (tgt := 210) hx hb dX10_isOne_168 (by decide) (fun c_51 => ?_) (fun c_51 => ?_)
          · skip
            have c_51' : dp.toInt ≥ 12 := jb_ge (rfl) ((by decide)) c_51
            refine lv_iconst (v := 0) hx hb dX10_isOne_210 (by decide) ?_
            have he_52 : jB12e dC dI ca G0 a tk_17 z_48 nc_17 H1 := ⟨names_47, kinds_47, values_47, word_47, told_47, toldCount_47, terms_47, nodes_47, f_kinds_47, f_values_47, f_told_47, f_nodes_47, hat_a_50, hat_kinds_47_50, hat_values_47_50, hat_told_47_50, hat_nodes_47_50, hg_kinds_47, hg_values_47, hg_told_47, hg_nodes_47, hg_names_47, by first | omega | assumption | (simp; done) | exact Or.inl rfl | exact Or.inr rfl, by first | omega | assumption | (simp; done) | exact Or.inl rfl | exact Or.inr rfl⟩
            rw [hQ]
            exact W.zret (v := 0) hx hb hr (jb_nz (Or.inl rfl)) (fun t ht hW => ⟨⟨0, (tk_17, z_48, nc_17), rfl, ⟨(Or.inl rfl), by refine ⟨?_, ?_, ?_, ?_, ?_, ?_⟩ <;> first | rfl | omega | (left; omega) | (right; omega) | exact Or.inl ⟨by decide, rfl⟩ | (simp only; omega)⟩, by rw [ht]; try exact hX_50, by rw [ht]; try exact he_52, by rw [ht]; try exact hM_50, by rw [ht]; try exact hz_50, by rw [ht]; try exact hT_50⟩, by rw [ht]; try exact hS_50.1, fun q h9 hq => by rw [ht]; try exact hS_50.2.1 q h9 hq⟩) hS_50.2.2 dX10_isOne_211
          · skip
            have c_51' : dp.toInt < 12 := jb_ge_n (rfl) ((by decide)) c_51
            refine lv_iload hx hb dX10_isOne_171 (lv_at hl 1 rfl) ?_
            refine lv_iconst (v := 2) hx hb dX10_isOne_173 (by decide) ?_
            refine lv_icmp_le (tgt := 210) hx hb dX10_isOne_174 (by decide) (fun c_53 => ?_) (fun c_53 => ?_)
            · skip
              have c_53' : r_16.toInt ≤ 2 := jb_le (rfl) ((by decide)) c_53
              refine lv_iconst (v := 0) hx hb dX10_isOne_210 (by decide) ?_
              have he_54 : jB12e dC dI ca G0 a tk_17 z_48 nc_17 H1 := ⟨names_47, kinds_47, values_47, word_47, told_47, toldCount_47, terms_47, nodes_47, f_kinds_47, f_values_47, f_told_47, f_nodes_47, hat_a_50, hat_kinds_47_50, hat_values_47_50, hat_told_47_50, hat_nodes_47_50, hg_kinds_47, hg_values_47, hg_told_47, hg_nodes_47, hg_names_47, by first | omega | assumption | (simp; done) | exact Or.inl rfl | exact Or.inr rfl, by first | omega | assumption | (simp; done) | exact Or.inl rfl | exact Or.inr rfl⟩
              rw [hQ]
              exact W.zret (v := 0) hx hb hr (jb_nz (Or.inl rfl)) (fun t ht hW => ⟨⟨0, (tk_17, z_48, nc_17), rfl, ⟨(Or.inl rfl), by refine ⟨?_, ?_, ?_, ?_, ?_, ?_⟩ <;> first | rfl | omega | (left; omega) | (right; omega) | exact Or.inl ⟨by decide, rfl⟩ | (simp only; omega)⟩, by rw [ht]; try exact hX_50, by rw [ht]; try exact he_54, by rw [ht]; try exact hM_50, by rw [ht]; try exact hz_50, by rw [ht]; try exact hT_50⟩, by rw [ht]; try exact hS_50.1, fun q h9 hq => by rw [ht]; try exact hS_50.2.1 q h9 hq⟩) hS_50.2.2 dX10_isOne_211
            · skip
              have c_53' : r_16.toInt > 2 := jb_le_n (rfl) ((by decide)) c_53
              refine lv_aload_n hx hb dX10_isOne_177 rfl (lv_at hl 4 rfl) ?_
              refine lv_bipush (v := 44) hx hb dX10_isOne_178 (by decide) ?_
              have he_57 : jB12e dC dI ca G0 a tk_17 z_48 nc_17 H1 := ⟨names_47, kinds_47, values_47, word_47, told_47, toldCount_47, terms_47, nodes_47, f_kinds_47, f_values_47, f_told_47, f_nodes_47, hat_a_50, hat_kinds_47_50, hat_values_47_50, hat_told_47_50, hat_nodes_47_50, hg_kinds_47, hg_values_47, hg_told_47, hg_nodes_47, hg_names_47, by first | omega | assumption | (simp; done) | exact Or.inl rfl | exact Or.inr rfl, by first | omega | assumption | (simp; done) | exact Or.inl rfl | exact Or.inr rfl⟩
              refine va_calli (A0 := jA base) (H0 := s.heap) (va_runV (As := [.int 44]) (rest := []) ⟨hx, hb, hml, hown, hts⟩ (tX10_isSign l dC dI ca base B hB G0 X H1 a 44 tk_17 z_48 nc_17) (cwV 1 hts gX10_isOne_X10_isSign rfl rfl rfl (by decide +kernel) ⟨by rw [← hR]; show (0) + 1 ≤ 5 * ef + 5; omega, by rw [← hR]; show 8 + (3 + 11) + (0) ≤ 160 * ef + 200; omega⟩) ⟨fun a U g mk q => by obtain ⟨q0, q1, q2, qK, q9⟩ := q; exact ⟨q0, q1, q2, jG.calling g mk a qK, q9⟩, va_recv hK (jp_one hat_a_50) (ci := 12) (q0 := 0) rfl rfl, fun U hU hW => ⟨rfl, hU, hX_50, hG.step hW hU hS_50, hg_a, hm_a, he_57, by refine ⟨?_, ?_, ?_, ?_, ?_, ?_⟩ <;> omega⟩⟩ rfl rfl hl.1 rfl (lv_room (Nat.le_of_ble_eq_true rfl)) dX10_isOne_180 ⟨Nat.zero_le _, Nat.zero_le _⟩) hS_50 (fun q _ h => h) (fun q h => h) (fun r_55 u t H1 locs1 ht hvm hr_55 hBb hz1 hk1 hS_56 => ?_)
              obtain ⟨tk_56, at_56, nc_56⟩ := u
              obtain ⟨hX_56, he_56, hM_560, hz_560, hT_560⟩ := hBb
              rw [ht] at hX_56 he_56 hM_560 hz_560 hT_560
              simp only at hr_55 he_56
              have hM_56 := hM_50.tr0 hM_560 hz_50 (by intro r; simp)
              have hz_56 := hz_560.trans hz_50
              have hT_56 := hT_560.trans hT_50
              clear hz1 hk1 hvm ht hM_560 hz_560 hT_560
              obtain ⟨hr_55b, hr_55p⟩ := hr_55
              have hr_55' := jb_01 hr_55b
              refine lv_if_eq (tgt := 210) hx hb dX10_isOne_183 (by decide) (fun c_58 => ?_) (fun c_58 => ?_)
              · skip
                have c_58' : r_55.toInt = 0 := jb_eq (rfl) ((by decide)) c_58
                refine lv_iconst (v := 0) hx hb dX10_isOne_210 (by decide) ?_
                rw [hQ]
                exact W.zret (v := 0) hx hb hr (jb_nz (Or.inl rfl)) (fun t ht hW => ⟨⟨0, (tk_56, at_56, nc_56), rfl, ⟨(Or.inl rfl), by refine ⟨?_, ?_, ?_, ?_, ?_, ?_⟩ <;> first | rfl | omega | (left; omega) | (right; omega) | exact Or.inl ⟨by decide, rfl⟩ | (simp only; omega)⟩, by rw [ht]; try exact hX_56, by rw [ht]; try exact he_56, by rw [ht]; try exact hM_56, by rw [ht]; try exact hz_56, by rw [ht]; try exact hT_56⟩, by rw [ht]; try exact hS_56.1, fun q h9 hq => by rw [ht]; try exact hS_56.2.1 q h9 hq⟩) hS_56.2.2 dX10_isOne_211
              · skip
                have c_58' : r_55.toInt ≠ 0 := jb_eq_n (rfl) ((by decide)) c_58
                refine lv_aload_n hx hb dX10_isOne_186 rfl (lv_at hl 4 rfl) ?_
                refine lv_iload hx hb dX10_isOne_187 (lv_at hl 0 rfl) ?_
                obtain ⟨names_61, kinds_61, values_61, word_61, told_61, toldCount_61, terms_61, nodes_61, f_kinds_61, f_values_61, f_told_61, f_nodes_61, hat_a_61, hat_kinds_61, hat_values_61, hat_told_61, hat_nodes_61, hg_kinds_61, hg_values_61, hg_told_61, hg_nodes_61, hg_names_61, hf0_61, hf1_61⟩ := id he_56
                have hlt_names_61 := hX_56.2 _ _ hg_names_61
                have hrt_names_61 : jRoot G0 names_61 := ⟨_, _, hg_names_61, by omega⟩
                have he_62 : jB12e dC dI ca G0 a tk_56 at_56 nc_56 H1 := ⟨names_61, kinds_61, values_61, word_61, told_61, toldCount_61, terms_61, nodes_61, f_kinds_61, f_values_61, f_told_61, f_nodes_61, hat_a_61, hat_kinds_61, hat_values_61, hat_told_61, hat_nodes_61, hg_kinds_61, hg_values_61, hg_told_61, hg_nodes_61, hg_names_61, by first | omega | assumption | (simp; done) | exact Or.inl rfl | exact Or.inr rfl, by first | omega | assumption | (simp; done) | exact Or.inl rfl | exact Or.inr rfl⟩
                refine va_calli (A0 := jA base) (H0 := s.heap) (va_runV (As := [.int z_46]) (rest := []) ⟨hx, hb, hml, hown, hts⟩ (tX10_addNode l dC dI ca base B hB G0 X H1 a z_46 tk_56 at_56 nc_56) (cwV 1 hts gX10_isOne_X10_addNode rfl rfl rfl (by decide +kernel) ⟨by rw [← hR]; show (0) + 1 ≤ 5 * ef + 5; omega, by rw [← hR]; show 8 + (2 + 11) + (0) ≤ 160 * ef + 200; omega⟩) ⟨fun a U g mk q => by obtain ⟨q0, q1, q2, qK, q9⟩ := q; exact ⟨q0, q1, q2, jG.calling g mk a qK, q9⟩, va_recv hK (jp_one hat_a_61) (ci := 12) (q0 := 0) rfl rfl, fun U hU hW => ⟨rfl, hU, hX_56, hG.step hW hU hS_56, hg_a, hm_a, he_62, by refine ⟨?_, ?_, ?_, ?_, ?_, ?_⟩ <;> omega⟩⟩ rfl rfl hl.1 rfl (lv_room (Nat.le_of_ble_eq_true rfl)) dX10_isOne_189 ⟨Nat.zero_le _, Nat.zero_le _⟩) hS_56 (fun q _ h => h) (fun q h => h) (fun r_59 u t H1 locs1 ht hvm hr_59 hBb hz1 hk1 hS_60 => ?_)
                obtain ⟨tk_60, at_60, nc_60⟩ := u
                obtain ⟨hX_60, he_60, hM_600, hz_600, hT_600⟩ := hBb
                rw [ht] at hX_60 he_60 hM_600 hz_600 hT_600
                simp only at hr_59 he_60
                have hM_60 := hM_56.tr0 hM_600 hz_56 (by intro r; simp)
                have hz_60 := hz_600.trans hz_56
                have hT_60 := hT_600.trans hT_56
                clear hz1 hk1 hvm ht hM_600 hz_600 hT_600
                obtain ⟨hr_59b, hr_59p⟩ := hr_59
                have hr_59' := jb_01 hr_59b
                refine lv_if_eq (tgt := 210) hx hb dX10_isOne_192 (by decide) (fun c_63 => ?_) (fun c_63 => ?_)
                · skip
                  have c_63' : r_59.toInt = 0 := jb_eq (rfl) ((by decide)) c_63
                  refine lv_iconst (v := 0) hx hb dX10_isOne_210 (by decide) ?_
                  rw [hQ]
                  exact W.zret (v := 0) hx hb hr (jb_nz (Or.inl rfl)) (fun t ht hW => ⟨⟨0, (tk_60, at_60, nc_60), rfl, ⟨(Or.inl rfl), by refine ⟨?_, ?_, ?_, ?_, ?_, ?_⟩ <;> first | rfl | omega | (left; omega) | (right; omega) | exact Or.inl ⟨by decide, rfl⟩ | (simp only; omega)⟩, by rw [ht]; try exact hX_60, by rw [ht]; try exact he_60, by rw [ht]; try exact hM_60, by rw [ht]; try exact hz_60, by rw [ht]; try exact hT_60⟩, by rw [ht]; try exact hS_60.1, fun q h9 hq => by rw [ht]; try exact hS_60.2.1 q h9 hq⟩) hS_60.2.2 dX10_isOne_211
                · skip
                  have c_63' : r_59.toInt ≠ 0 := jb_eq_n (rfl) ((by decide)) c_63
                  refine lv_aload_n hx hb dX10_isOne_195 rfl (lv_at hl 4 rfl) ?_
                  refine lv_iconst (v := 0) hx hb dX10_isOne_196 (by decide) ?_
                  refine lv_iload_n hx hb dX10_isOne_197 rfl (lv_at hl 5 rfl) ?_
                  refine lv_iconst (v := 1) hx hb dX10_isOne_198 (by decide) ?_
                  refine lv_iadd hx hb dX10_isOne_199 ?_
                  refine lv_topi (fun z_64 ez_64 => ?_)
                  have hz_64 : z_64.toInt = dp.toInt + 1 := by rw [ez_64]; exact jb_iadd (rfl) ((by decide)) (by omega) (by omega)
                  obtain ⟨names_67, kinds_67, values_67, word_67, told_67, toldCount_67, terms_67, nodes_67, f_kinds_67, f_values_67, f_told_67, f_nodes_67, hat_a_67, hat_kinds_67, hat_values_67, hat_told_67, hat_nodes_67, hg_kinds_67, hg_values_67, hg_told_67, hg_nodes_67, hg_names_67, hf0_67, hf1_67⟩ := id he_60
                  have hlt_names_67 := hX_60.2 _ _ hg_names_67
                  have hrt_names_67 : jRoot G0 names_67 := ⟨_, _, hg_names_67, by omega⟩
                  have he_68 : jB12e dC dI ca G0 a tk_60 at_60 nc_60 H1 := ⟨names_67, kinds_67, values_67, word_67, told_67, toldCount_67, terms_67, nodes_67, f_kinds_67, f_values_67, f_told_67, f_nodes_67, hat_a_67, hat_kinds_67, hat_values_67, hat_told_67, hat_nodes_67, hg_kinds_67, hg_values_67, hg_told_67, hg_nodes_67, hg_names_67, by first | omega | assumption | (simp; done) | exact Or.inl rfl | exact Or.inr rfl, by first | omega | assumption | (simp; done) | exact Or.inl rfl | exact Or.inr rfl⟩
                  refine va_calli (A0 := jA base) (H0 := s.heap) (va_runV (As := [.int 0, .int z_64]) (rest := []) ⟨hx, hb, hml, hown, hts⟩ (ihC (ef - 1) (by omega) G0 X H1 a 0 z_64 tk_60 at_60 nc_60) (cwV 2 hts gX10_isOne_X10_isChain rfl rfl rfl (by decide +kernel) ⟨by rw [← hR]; show (5 * (ef - 1) + 6 + 2) + 1 ≤ 5 * ef + 5; omega, by rw [← hR]; show 8 + (6 + 11) + (160 * (ef - 1) + 230 + 30 * 2) ≤ 160 * ef + 200; omega⟩) ⟨fun a U g mk q => by obtain ⟨q0, q1, q2, qK, q9⟩ := q; exact ⟨q0, q1, q2, jG.calling g mk a qK, q9⟩, va_recv hK (jp_one hat_a_67) (ci := 12) (q0 := 0) rfl rfl, fun U hU hW => ⟨rfl, hU, hX_60, hG.step hW hU hS_60, hg_a, hm_a, he_68, by refine ⟨?_, ?_, ?_, ?_, ?_, ?_, ?_, ?_, ?_, ?_⟩ <;> omega⟩⟩ rfl rfl hl.1 rfl (lv_room (Nat.le_of_ble_eq_true rfl)) dX10_isOne_200 ⟨Nat.zero_le _, Nat.zero_le _⟩) hS_60 (fun q _ h => h) (fun q h => h) (fun r_65 u t H1 locs1 ht hvm hr_65 hBb hz1 hk1 hS_66 => ?_)
                  obtain ⟨tk_66, at_66, nc_66⟩ := u
                  obtain ⟨hX_66, he_66, hM_660, hz_660, hT_660⟩ := hBb
                  rw [ht] at hX_66 he_66 hM_660 hz_660 hT_660
                  simp only at hr_65 he_66
                  have hM_66 := hM_60.tr0 hM_660 hz_60 (by intro r; simp)
                  have hz_66 := hz_660.trans hz_60
                  have hT_66 := hT_660.trans hT_60
                  clear hz1 hk1 hvm ht hM_660 hz_660 hT_660
                  obtain ⟨hr_65b, hr_65p⟩ := hr_65
                  have hr_65' := jb_01 hr_65b
                  refine lv_if_eq (tgt := 210) hx hb dX10_isOne_203 (by decide) (fun c_69 => ?_) (fun c_69 => ?_)
                  · skip
                    have c_69' : r_65.toInt = 0 := jb_eq (rfl) ((by decide)) c_69
                    refine lv_iconst (v := 0) hx hb dX10_isOne_210 (by decide) ?_
                    rw [hQ]
                    exact W.zret (v := 0) hx hb hr (jb_nz (Or.inl rfl)) (fun t ht hW => ⟨⟨0, (tk_66, at_66, nc_66), rfl, ⟨(Or.inl rfl), by refine ⟨?_, ?_, ?_, ?_, ?_, ?_⟩ <;> first | rfl | omega | (left; omega) | (right; omega) | exact Or.inl ⟨by decide, rfl⟩ | (simp only; omega)⟩, by rw [ht]; try exact hX_66, by rw [ht]; try exact he_66, by rw [ht]; try exact hM_66, by rw [ht]; try exact hz_66, by rw [ht]; try exact hT_66⟩, by rw [ht]; try exact hS_66.1, fun q h9 hq => by rw [ht]; try exact hS_66.2.1 q h9 hq⟩) hS_66.2.2 dX10_isOne_211
                  · skip
                    have c_69' : r_65.toInt ≠ 0 := jb_eq_n (rfl) ((by decide)) c_69
                    refine lv_iconst (v := 1) hx hb dX10_isOne_206 (by decide) ?_
                    refine lv_goto (tgt := 211) hx hb dX10_isOne_207 (by decide) ?_
                    rw [hQ]
                    exact W.zret (v := 1) hx hb hr (jb_nz (Or.inr rfl)) (fun t ht hW => ⟨⟨1, (tk_66, at_66, nc_66), rfl, ⟨(Or.inr rfl), by refine ⟨?_, ?_, ?_, ?_, ?_, ?_⟩ <;> first | rfl | omega | (left; omega) | (right; omega) | exact Or.inl ⟨by decide, rfl⟩ | (simp only; omega)⟩, by rw [ht]; try exact hX_66, by rw [ht]; try exact he_66, by rw [ht]; try exact hM_66, by rw [ht]; try exact hz_66, by rw [ht]; try exact hT_66⟩, by rw [ht]; try exact hS_66.1, fun q h9 hq => by rw [ht]; try exact hS_66.2.1 q h9 hq⟩) hS_66.2.2 dX10_isOne_211
      · skip
        have c_11' : r_5.toInt ≠ 0 := jb_eq_n (rfl) ((by decide)) c_11
        refine lv_iload_n hx hb dX10_isOne_116 rfl (lv_at hl 0 rfl) ?_
        refine lv_iconst (v := 1) hx hb dX10_isOne_117 (by decide) ?_
        refine lv_icmp_ne (tgt := 212) hx hb dX10_isOne_118 (by decide) (fun c_70 => ?_) (fun c_70 => ?_)
        · skip
          have c_70' : r_5.toInt ≠ 1 := jb_ne (rfl) ((by decide)) c_70
          refine lv_iload_n hx hb dX10_isOne_212 rfl (lv_at hl 0 rfl) ?_
          refine lv_iconst (v := 2) hx hb dX10_isOne_213 (by decide) ?_
          refine lv_icmp_ne (tgt := 233) hx hb dX10_isOne_214 (by decide) (fun c_71 => ?_) (fun c_71 => ?_)
          · skip
            have c_71' : r_5.toInt ≠ 2 := jb_ne (rfl) ((by decide)) c_71
            refine lv_aload_n hx hb dX10_isOne_233 rfl (lv_at hl 2 rfl) ?_
            obtain ⟨names_72, kinds_72, values_72, word_72, told_72, toldCount_72, terms_72, nodes_72, f_kinds_72, f_values_72, f_told_72, f_nodes_72, hat_a_72, hat_kinds_72, hat_values_72, hat_told_72, hat_nodes_72, hg_kinds_72, hg_values_72, hg_told_72, hg_nodes_72, hg_names_72, hf0_72, hf1_72⟩ := id he_6
            have hlt_names_72 := hX_6.2 _ _ hg_names_72
            have hrt_names_72 : jRoot G0 names_72 := ⟨_, _, hg_names_72, by omega⟩
            refine va_get (D := (dC, dI)) (ci := 12) (v := .int nc_6) (C := RX10) (T := TX10) (N := 11) hx hb hts hin_12 hown hK (jp_one hat_a_72) 0 rfl rfl 10 (by decide) (hts (.fieldLink RX10 89 "ProofServer$Syntax" "nodeCount" "I") (by decide +kernel)) (fun _ h9 => h9) rfl dX10_isOne_234 ?_
            refine lv_istore (lv' := [(4, .int nc_6), (3, .int r_5), (2, .int r_1), (0, .ref a), (1, .int dp)]) hx hb dX10_isOne_237 hl (by decide) rfl (fun ls hl => ?_)
            refine lv_aload_n hx hb dX10_isOne_239 rfl (lv_at hl 3 rfl) ?_
            refine lv_bipush (v := 7) hx hb dX10_isOne_240 (by decide) ?_
            refine lv_iload_n hx hb dX10_isOne_242 rfl (lv_at hl 4 rfl) ?_
            have he_75 : jB12e dC dI ca G0 a tk_6 at_6 nc_6 H1 := ⟨names_72, kinds_72, values_72, word_72, told_72, toldCount_72, terms_72, nodes_72, f_kinds_72, f_values_72, f_told_72, f_nodes_72, hat_a_72, hat_kinds_72, hat_values_72, hat_told_72, hat_nodes_72, hg_kinds_72, hg_values_72, hg_told_72, hg_nodes_72, hg_names_72, by first | omega | assumption | (simp; done) | exact Or.inl rfl | exact Or.inr rfl, by first | omega | assumption | (simp; done) | exact Or.inl rfl | exact Or.inr rfl⟩
            refine va_calli (A0 := jA base) (H0 := s.heap) (va_runV (As := [.int 7, .int dp]) (rest := []) ⟨hx, hb, hml, hown, hts⟩ (aX10_isTerm l dC dI ca base B hB ef G0 X H1 a 7 dp tk_6 at_6 nc_6) (cwV 2 hts gX10_isOne_X10_isTerm rfl rfl rfl (by decide +kernel) ⟨by rw [← hR]; show (ef + 3) + 1 ≤ 5 * ef + 5; omega, by rw [← hR]; show 8 + (6 + 11) + (60 * ef + 120) ≤ 160 * ef + 200; omega⟩) ⟨fun a U g mk q => by obtain ⟨q0, q1, q2, qK, q9⟩ := q; exact ⟨q0, q1, q2, jG.calling g mk a qK, q9⟩, va_recv hK (jp_one hat_a_72) (ci := 12) (q0 := 0) rfl rfl, fun U hU hW => ⟨rfl, hU, hX_6, hG.step hW hU hS_6, hg_a, hm_a, he_75, by refine ⟨?_, ?_, ?_, ?_, ?_, ?_, ?_, ?_⟩ <;> omega⟩⟩ rfl rfl hl.1 rfl (lv_room (Nat.le_of_ble_eq_true rfl)) dX10_isOne_243 ⟨Nat.zero_le _, Nat.zero_le _⟩) hS_6 (fun q _ h => h) (fun q h => h) (fun r_73 u t H1 locs1 ht hvm hr_73 hBb hz1 hk1 hS_74 => ?_)
            obtain ⟨tk_74, at_74, nc_74⟩ := u
            obtain ⟨hX_74, he_74, hM_740, hz_740, hT_740⟩ := hBb
            rw [ht] at hX_74 he_74 hM_740 hz_740 hT_740
            simp only at hr_73 he_74
            have hM_74 := hM_6.tr0 hM_740 hz_6 (by intro r; simp)
            have hz_74 := hz_740.trans hz_6
            have hT_74 := hT_740.trans hT_6
            clear hz1 hk1 hvm ht hM_740 hz_740 hT_740
            obtain ⟨hr_73b, hr_73p⟩ := hr_73
            have hr_73' := jb_01 hr_73b
            refine lv_if_ne (tgt := 251) hx hb dX10_isOne_246 (by decide) (fun c_76 => ?_) (fun c_76 => ?_)
            · skip
              have c_76' : r_73.toInt ≠ 0 := jb_ne (rfl) ((by decide)) c_76
              refine lv_aload_n hx hb dX10_isOne_251 rfl (lv_at hl 3 rfl) ?_
              obtain ⟨names_79, kinds_79, values_79, word_79, told_79, toldCount_79, terms_79, nodes_79, f_kinds_79, f_values_79, f_told_79, f_nodes_79, hat_a_79, hat_kinds_79, hat_values_79, hat_told_79, hat_nodes_79, hg_kinds_79, hg_values_79, hg_told_79, hg_nodes_79, hg_names_79, hf0_79, hf1_79⟩ := id he_74
              have hlt_names_79 := hX_74.2 _ _ hg_names_79
              have hrt_names_79 : jRoot G0 names_79 := ⟨_, _, hg_names_79, by omega⟩
              have he_80 : jB12e dC dI ca G0 a tk_74 at_74 nc_74 H1 := ⟨names_79, kinds_79, values_79, word_79, told_79, toldCount_79, terms_79, nodes_79, f_kinds_79, f_values_79, f_told_79, f_nodes_79, hat_a_79, hat_kinds_79, hat_values_79, hat_told_79, hat_nodes_79, hg_kinds_79, hg_values_79, hg_told_79, hg_nodes_79, hg_names_79, by first | omega | assumption | (simp; done) | exact Or.inl rfl | exact Or.inr rfl, by first | omega | assumption | (simp; done) | exact Or.inl rfl | exact Or.inr rfl⟩
              refine va_calli (A0 := jA base) (H0 := s.heap) (va_runV (As := []) (rest := []) ⟨hx, hb, hml, hown, hts⟩ (tX10_peek l dC dI ca base B hB G0 X H1 a tk_74 at_74 nc_74) (cwV 0 hts gX10_isOne_X10_peek rfl rfl rfl (by decide +kernel) ⟨by rw [← hR]; show (0) + 1 ≤ 5 * ef + 5; omega, by rw [← hR]; show 8 + (1 + 11) + (0) ≤ 160 * ef + 200; omega⟩) ⟨fun a U g mk q => by obtain ⟨q0, q1, q2, qK, q9⟩ := q; exact ⟨q0, q1, q2, jG.calling g mk a qK, q9⟩, va_recv hK (jp_one hat_a_79) (ci := 12) (q0 := 0) rfl rfl, fun U hU hW => ⟨rfl, hU, hX_74, hG.step hW hU hS_74, hg_a, hm_a, he_80, by refine ⟨?_, ?_, ?_, ?_, ?_, ?_⟩ <;> omega⟩⟩ rfl rfl hl.1 rfl (lv_room (Nat.le_of_ble_eq_true rfl)) dX10_isOne_252 ⟨Nat.zero_le _, Nat.zero_le _⟩) hS_74 (fun q _ h => h) (fun q h => h) (fun r_77 u t H1 locs1 ht hvm hr_77 hBb hz1 hk1 hS_78 => ?_)
              obtain ⟨tk_78, at_78, nc_78⟩ := u
              obtain ⟨hX_78, he_78, hM_780, hz_780, hT_780⟩ := hBb
              rw [ht] at hX_78 he_78 hM_780 hz_780 hT_780
              simp only at hr_77 he_78
              have hM_78 := hM_74.tr0 hM_780 hz_74 (by intro r; simp)
              have hz_78 := hz_780.trans hz_74
              have hT_78 := hT_780.trans hT_74
              clear hz1 hk1 hvm ht hM_780 hz_780 hT_780
              refine lv_bipush (v := 61) hx hb dX10_isOne_255 (by decide) ?_
              refine lv_icmp_eq (tgt := 262) hx hb dX10_isOne_257 (by decide) (fun c_81 => ?_) (fun c_81 => ?_)
              · skip
                have c_81' : r_77.toInt = 61 := jb_eq (rfl) ((by decide)) c_81
                refine lv_aload_n hx hb dX10_isOne_262 rfl (lv_at hl 3 rfl) ?_
                refine lv_dup hx hb dX10_isOne_263 rfl ?_
                obtain ⟨names_82, kinds_82, values_82, word_82, told_82, toldCount_82, terms_82, nodes_82, f_kinds_82, f_values_82, f_told_82, f_nodes_82, hat_a_82, hat_kinds_82, hat_values_82, hat_told_82, hat_nodes_82, hg_kinds_82, hg_values_82, hg_told_82, hg_nodes_82, hg_names_82, hf0_82, hf1_82⟩ := id he_78
                have hlt_names_82 := hX_78.2 _ _ hg_names_82
                have hrt_names_82 : jRoot G0 names_82 := ⟨_, _, hg_names_82, by omega⟩
                refine va_get (D := (dC, dI)) (ci := 12) (v := .int at_78) (C := RX10) (T := TX10) (N := 11) hx hb hts hin_12 hown hK (jp_one hat_a_82) 0 rfl rfl 4 (by decide) (hts (.fieldLink RX10 83 "ProofServer$Syntax" "at" "I") (by decide +kernel)) (fun _ h9 => h9) rfl dX10_isOne_264 ?_
                refine lv_iconst (v := 1) hx hb dX10_isOne_267 (by decide) ?_
                refine lv_iadd hx hb dX10_isOne_268 ?_
                refine lv_topi (fun z_83 ez_83 => ?_)
                have hz_83 : z_83.toInt = at_78.toInt + 1 := by rw [ez_83]; exact jb_iadd (rfl) ((by decide)) (by omega) (by omega)
                refine j_put (D := (dC, dI)) (ci := 12) (v := .int z_83) (ty := .int) (C := RX10) (T := TX10) (N := 11) (A := jA base) hx hb hts hin_12 tyX10 tyX10_ok nmX10 hown hK hat_a_82 (hX_78.2 _ _ hg_a).1 hS_78.2.2 rfl 4 (by decide) (hts (.fieldLink RX10 83 "ProofServer$Syntax" "at" "I") (by decide +kernel)) (fun _ h9 => h9) rfl (by decide +kernel) rfl rfl (Nat.le_of_ble_eq_true rfl) dX10_isOne_269 (fun H1 locs1 hat1 hsz1 hfr1 hT1 hL1 => ?_)
                have hX_85 := hX_78.put hB hg_a (by omega) jSup.root hm_a hsz1 hfr1
                have hM_85 := hM_78.put jExt.rf hrt_a jSup.root (by simp) hfr1
                have hz_85 := hsz1.trans hz_78
                have hT_85 := hT1.trans hT_78
                have hS_85 := jS_put hS_78 hsz1 hfr1 (hX_78.2 _ _ hg_a).1 hL1
                have hat_kinds_82_85 := hat_kinds_82.kept (hfr1 _ (jne hg_kinds_82 hg_a (by simp)))
                have hat_values_82_85 := hat_values_82.kept (hfr1 _ (jne hg_values_82 hg_a (by simp)))
                have hat_told_82_85 := hat_told_82.kept (hfr1 _ (jne hg_told_82 hg_a (by simp)))
                have hat_nodes_82_85 := hat_nodes_82.kept (hfr1 _ (jne hg_nodes_82 hg_a (by simp)))
                clear hfr1 hsz1 hT1 hL1
                have hat_a_85 : va_at (dC, dI) vwCl (a, .inr (12, [.ref names_82, .ref kinds_82, .ref values_82, .int tk_78, .int z_83, .int word_82, .ref told_82, .int toldCount_82, .int terms_82, .ref nodes_82, .int nc_78])) H1 := hat1
                clear hat1
                refine lv_aload_n hx hb dX10_isOne_272 rfl (lv_at hl 3 rfl) ?_
                refine va_get (D := (dC, dI)) (ci := 12) (v := .ref nodes_82) (C := RX10) (T := TX10) (N := 11) hx hb hts hin_12 hown hK (jp_one hat_a_85) 0 rfl rfl 9 (by decide) (hts (.fieldLink RX10 21 "ProofServer$Syntax" "nodes" "[I") (by decide +kernel)) (fun _ h9 => h9) rfl dX10_isOne_273 ?_
                refine lv_iload hx hb dX10_isOne_276 (lv_at hl 0 rfl) ?_
                refine lv_dup2_11 hx hb dX10_isOne_278 rfl rfl ?_
                have hiz_86 : _ := jb_in (i := nc_6) (n := 3000) (rfl) (by omega) (by omega)
                refine va_iald hx hb hK (jp_one hat_nodes_82_85) 0 1 rfl rfl hiz_86 dX10_isOne_279 ?_
                refine lv_topi (fun z_86 ez_86 => ?_)
                refine lv_iconst (v := 1) hx hb dX10_isOne_280 (by decide) ?_
                refine lv_iadd hx hb dX10_isOne_281 ?_
                refine lv_topi (fun z_87 ez_87 => ?_)
                refine j_iast (A := jA base) hx hb hK 1 hat_nodes_82_85 (hX_85.2 _ _ hg_nodes_82).1 hS_85.2.2 rfl (jb_in (i := nc_6) (n := 3000) (rfl) (by omega) (by omega)) dX10_isOne_282 (fun H1 locs1 hat1 hsz1 hfr1 hT1 hL1 => ?_)
                have hX_88 := hX_85.put hB hg_a (by omega) (jSup.own (i := 3) hg_nodes_82) hm_a hsz1 hfr1
                have hM_88 := hM_85.put jExt.rf hrt_a (jSup.own (i := 3) hg_nodes_82) (by simp) hfr1
                have hz_88 := hsz1.trans hz_85
                have hT_88 := hT1.trans hT_85
                have hS_88 := jS_put hS_85 hsz1 hfr1 (hX_85.2 _ _ hg_nodes_82).1 hL1
                have hat_a_85_88 := hat_a_85.kept (hfr1 _ (jne hg_a hg_nodes_82 (by simp)))
                have hat_kinds_82_85_88 := hat_kinds_82_85.kept (hfr1 _ (jne hg_kinds_82 hg_nodes_82 (by simp)))
                have hat_values_82_85_88 := hat_values_82_85.kept (hfr1 _ (jne hg_values_82 hg_nodes_82 (by simp)))
                have hat_told_82_85_88 := hat_told_82_85.kept (hfr1 _ (jne hg_told_82 hg_nodes_82 (by simp)))
                clear hfr1 hsz1 hT1 hL1
                have hat_nodes_82_88 : va_at (dC, dI) vwCl (nodes_82, .inl (ca 1, 3000, .inl (upd f_nodes_82 nc_6.toNatClampNeg z_87))) H1 := hat1
                clear hat1
                refine lv_aload_n hx hb dX10_isOne_283 rfl (lv_at hl 3 rfl) ?_
                refine lv_iload hx hb dX10_isOne_284 (lv_at hl 0 rfl) ?_
                refine lv_iconst (v := 4) hx hb dX10_isOne_286 (by decide) ?_
                have he_91 : jB12e dC dI ca G0 a tk_78 z_83 nc_78 H1 := ⟨names_82, kinds_82, values_82, word_82, told_82, toldCount_82, terms_82, nodes_82, f_kinds_82, f_values_82, f_told_82, (upd f_nodes_82 nc_6.toNatClampNeg z_87), hat_a_85_88, hat_kinds_82_85_88, hat_values_82_85_88, hat_told_82_85_88, hat_nodes_82_88, hg_kinds_82, hg_values_82, hg_told_82, hg_nodes_82, hg_names_82, by first | omega | assumption | (simp; done) | exact Or.inl rfl | exact Or.inr rfl, by first | omega | assumption | (simp; done) | exact Or.inl rfl | exact Or.inr rfl⟩
                refine va_calli (A0 := jA base) (H0 := s.heap) (va_runV (As := [.int nc_6, .int 4]) (rest := []) ⟨hx, hb, hml, hown, hts⟩ (tX10_insertNode l dC dI ca base B hB G0 X H1 a nc_6 4 tk_78 z_83 nc_78) (cwV 2 hts gX10_isOne_X10_insertNode rfl rfl rfl (by decide +kernel) ⟨by rw [← hR]; show (0) + 1 ≤ 5 * ef + 5; omega, by rw [← hR]; show 8 + (4 + 11) + (0) ≤ 160 * ef + 200; omega⟩) ⟨fun a U g mk q => by obtain ⟨q0, q1, q2, qK, q9⟩ := q; exact ⟨q0, q1, q2, jG.calling g mk a qK, q9⟩, va_recv hK (jp_one hat_a_85_88) (ci := 12) (q0 := 0) rfl rfl, fun U hU hW => ⟨rfl, hU, hX_88, hG.step hW hU hS_88, hg_a, hm_a, he_91, by refine ⟨?_, ?_, ?_, ?_, ?_, ?_⟩ <;> omega⟩⟩ rfl rfl hl.1 rfl (lv_room (Nat.le_of_ble_eq_true rfl)) dX10_isOne_287 ⟨Nat.zero_le _, Nat.zero_le _⟩) hS_88 (fun q _ h => h) (fun q h => h) (fun r_89 u t H1 locs1 ht hvm hr_89 hBb hz1 hk1 hS_90 => ?_)
                obtain ⟨tk_90, at_90, nc_90⟩ := u
                obtain ⟨hX_90, he_90, hM_900, hz_900, hT_900⟩ := hBb
                rw [ht] at hX_90 he_90 hM_900 hz_900 hT_900
                simp only at hr_89 he_90
                have hM_90 := hM_88.tr0 hM_900 hz_88 (by intro r; simp)
                have hz_90 := hz_900.trans hz_88
                have hT_90 := hT_900.trans hT_88
                clear hz1 hk1 hvm ht hM_900 hz_900 hT_900
                obtain ⟨hr_89b, hr_89p⟩ := hr_89
                have hr_89' := jb_01 hr_89b
                refine lv_if_eq (tgt := 307) hx hb dX10_isOne_290 (by decide) (fun c_92 => ?_) (fun c_92 => ?_)
                · skip
                  have c_92' : r_89.toInt = 0 := jb_eq (rfl) ((by decide)) c_92
                  refine lv_iconst (v := 0) hx hb dX10_isOne_307 (by decide) ?_
                  rw [hQ]
                  exact W.zret (v := 0) hx hb hr (jb_nz (Or.inl rfl)) (fun t ht hW => ⟨⟨0, (tk_90, at_90, nc_90), rfl, ⟨(Or.inl rfl), by refine ⟨?_, ?_, ?_, ?_, ?_, ?_⟩ <;> first | rfl | omega | (left; omega) | (right; omega) | exact Or.inl ⟨by decide, rfl⟩ | (simp only; omega)⟩, by rw [ht]; try exact hX_90, by rw [ht]; try exact he_90, by rw [ht]; try exact hM_90, by rw [ht]; try exact hz_90, by rw [ht]; try exact hT_90⟩, by rw [ht]; try exact hS_90.1, fun q h9 hq => by rw [ht]; try exact hS_90.2.1 q h9 hq⟩) hS_90.2.2 dX10_isOne_308
                · skip
                  have c_92' : r_89.toInt ≠ 0 := jb_eq_n (rfl) ((by decide)) c_92
                  refine lv_aload_n hx hb dX10_isOne_293 rfl (lv_at hl 3 rfl) ?_
                  refine lv_bipush (v := 8) hx hb dX10_isOne_294 (by decide) ?_
                  refine lv_iload_n hx hb dX10_isOne_296 rfl (lv_at hl 4 rfl) ?_
                  obtain ⟨names_95, kinds_95, values_95, word_95, told_95, toldCount_95, terms_95, nodes_95, f_kinds_95, f_values_95, f_told_95, f_nodes_95, hat_a_95, hat_kinds_95, hat_values_95, hat_told_95, hat_nodes_95, hg_kinds_95, hg_values_95, hg_told_95, hg_nodes_95, hg_names_95, hf0_95, hf1_95⟩ := id he_90
                  have hlt_names_95 := hX_90.2 _ _ hg_names_95
                  have hrt_names_95 : jRoot G0 names_95 := ⟨_, _, hg_names_95, by omega⟩
                  have he_96 : jB12e dC dI ca G0 a tk_90 at_90 nc_90 H1 := ⟨names_95, kinds_95, values_95, word_95, told_95, toldCount_95, terms_95, nodes_95, f_kinds_95, f_values_95, f_told_95, f_nodes_95, hat_a_95, hat_kinds_95, hat_values_95, hat_told_95, hat_nodes_95, hg_kinds_95, hg_values_95, hg_told_95, hg_nodes_95, hg_names_95, by first | omega | assumption | (simp; done) | exact Or.inl rfl | exact Or.inr rfl, by first | omega | assumption | (simp; done) | exact Or.inl rfl | exact Or.inr rfl⟩
                  refine va_calli (A0 := jA base) (H0 := s.heap) (va_runV (As := [.int 8, .int dp]) (rest := []) ⟨hx, hb, hml, hown, hts⟩ (aX10_isTerm l dC dI ca base B hB ef G0 X H1 a 8 dp tk_90 at_90 nc_90) (cwV 2 hts gX10_isOne_X10_isTerm rfl rfl rfl (by decide +kernel) ⟨by rw [← hR]; show (ef + 3) + 1 ≤ 5 * ef + 5; omega, by rw [← hR]; show 8 + (6 + 11) + (60 * ef + 120) ≤ 160 * ef + 200; omega⟩) ⟨fun a U g mk q => by obtain ⟨q0, q1, q2, qK, q9⟩ := q; exact ⟨q0, q1, q2, jG.calling g mk a qK, q9⟩, va_recv hK (jp_one hat_a_95) (ci := 12) (q0 := 0) rfl rfl, fun U hU hW => ⟨rfl, hU, hX_90, hG.step hW hU hS_90, hg_a, hm_a, he_96, by refine ⟨?_, ?_, ?_, ?_, ?_, ?_, ?_, ?_⟩ <;> omega⟩⟩ rfl rfl hl.1 rfl (lv_room (Nat.le_of_ble_eq_true rfl)) dX10_isOne_297 ⟨Nat.zero_le _, Nat.zero_le _⟩) hS_90 (fun q _ h => h) (fun q h => h) (fun r_93 u t H1 locs1 ht hvm hr_93 hBb hz1 hk1 hS_94 => ?_)
                  obtain ⟨tk_94, at_94, nc_94⟩ := u
                  obtain ⟨hX_94, he_94, hM_940, hz_940, hT_940⟩ := hBb
                  rw [ht] at hX_94 he_94 hM_940 hz_940 hT_940
                  simp only at hr_93 he_94
                  have hM_94 := hM_90.tr0 hM_940 hz_90 (by intro r; simp)
                  have hz_94 := hz_940.trans hz_90
                  have hT_94 := hT_940.trans hT_90
                  clear hz1 hk1 hvm ht hM_940 hz_940 hT_940
                  obtain ⟨hr_93b, hr_93p⟩ := hr_93
                  have hr_93' := jb_01 hr_93b
                  refine lv_if_eq (tgt := 307) hx hb dX10_isOne_300 (by decide) (fun c_97 => ?_) (fun c_97 => ?_)
                  · skip
                    have c_97' : r_93.toInt = 0 := jb_eq (rfl) ((by decide)) c_97
                    refine lv_iconst (v := 0) hx hb dX10_isOne_307 (by decide) ?_
                    rw [hQ]
                    exact W.zret (v := 0) hx hb hr (jb_nz (Or.inl rfl)) (fun t ht hW => ⟨⟨0, (tk_94, at_94, nc_94), rfl, ⟨(Or.inl rfl), by refine ⟨?_, ?_, ?_, ?_, ?_, ?_⟩ <;> first | rfl | omega | (left; omega) | (right; omega) | exact Or.inl ⟨by decide, rfl⟩ | (simp only; omega)⟩, by rw [ht]; try exact hX_94, by rw [ht]; try exact he_94, by rw [ht]; try exact hM_94, by rw [ht]; try exact hz_94, by rw [ht]; try exact hT_94⟩, by rw [ht]; try exact hS_94.1, fun q h9 hq => by rw [ht]; try exact hS_94.2.1 q h9 hq⟩) hS_94.2.2 dX10_isOne_308
                  · skip
                    have c_97' : r_93.toInt ≠ 0 := jb_eq_n (rfl) ((by decide)) c_97
                    refine lv_iconst (v := 1) hx hb dX10_isOne_303 (by decide) ?_
                    refine lv_goto (tgt := 308) hx hb dX10_isOne_304 (by decide) ?_
                    rw [hQ]
                    exact W.zret (v := 1) hx hb hr (jb_nz (Or.inr rfl)) (fun t ht hW => ⟨⟨1, (tk_94, at_94, nc_94), rfl, ⟨(Or.inr rfl), by refine ⟨?_, ?_, ?_, ?_, ?_, ?_⟩ <;> first | rfl | omega | (left; omega) | (right; omega) | exact Or.inl ⟨by decide, rfl⟩ | (simp only; omega)⟩, by rw [ht]; try exact hX_94, by rw [ht]; try exact he_94, by rw [ht]; try exact hM_94, by rw [ht]; try exact hz_94, by rw [ht]; try exact hT_94⟩, by rw [ht]; try exact hS_94.1, fun q h9 hq => by rw [ht]; try exact hS_94.2.1 q h9 hq⟩) hS_94.2.2 dX10_isOne_308
              · skip
                have c_81' : r_77.toInt ≠ 61 := jb_eq_n (rfl) ((by decide)) c_81
                refine lv_iconst (v := 1) hx hb dX10_isOne_260 (by decide) ?_
                rw [hQ]
                exact W.zret (v := 1) hx hb hr (jb_nz (Or.inr rfl)) (fun t ht hW => ⟨⟨1, (tk_78, at_78, nc_78), rfl, ⟨(Or.inr rfl), by refine ⟨?_, ?_, ?_, ?_, ?_, ?_⟩ <;> first | rfl | omega | (left; omega) | (right; omega) | exact Or.inl ⟨by decide, rfl⟩ | (simp only; omega)⟩, by rw [ht]; try exact hX_78, by rw [ht]; try exact he_78, by rw [ht]; try exact hM_78, by rw [ht]; try exact hz_78, by rw [ht]; try exact hT_78⟩, by rw [ht]; try exact hS_78.1, fun q h9 hq => by rw [ht]; try exact hS_78.2.1 q h9 hq⟩) hS_78.2.2 dX10_isOne_261
            · skip
              have c_76' : r_73.toInt = 0 := jb_ne_n (rfl) ((by decide)) c_76
              refine lv_iconst (v := 0) hx hb dX10_isOne_249 (by decide) ?_
              rw [hQ]
              exact W.zret (v := 0) hx hb hr (jb_nz (Or.inl rfl)) (fun t ht hW => ⟨⟨0, (tk_74, at_74, nc_74), rfl, ⟨(Or.inl rfl), by refine ⟨?_, ?_, ?_, ?_, ?_, ?_⟩ <;> first | rfl | omega | (left; omega) | (right; omega) | exact Or.inl ⟨by decide, rfl⟩ | (simp only; omega)⟩, by rw [ht]; try exact hX_74, by rw [ht]; try exact he_74, by rw [ht]; try exact hM_74, by rw [ht]; try exact hz_74, by rw [ht]; try exact hT_74⟩, by rw [ht]; try exact hS_74.1, fun q h9 hq => by rw [ht]; try exact hS_74.2.1 q h9 hq⟩) hS_74.2.2 dX10_isOne_250
          · skip
            have c_71' : r_5.toInt = 2 := jb_ne_n (rfl) ((by decide)) c_71
            refine lv_aload_n hx hb dX10_isOne_217 rfl (lv_at hl 2 rfl) ?_
            refine lv_dup hx hb dX10_isOne_218 rfl ?_
            obtain ⟨names_98, kinds_98, values_98, word_98, told_98, toldCount_98, terms_98, nodes_98, f_kinds_98, f_values_98, f_told_98, f_nodes_98, hat_a_98, hat_kinds_98, hat_values_98, hat_told_98, hat_nodes_98, hg_kinds_98, hg_values_98, hg_told_98, hg_nodes_98, hg_names_98, hf0_98, hf1_98⟩ := id he_6
            have hlt_names_98 := hX_6.2 _ _ hg_names_98
            have hrt_names_98 : jRoot G0 names_98 := ⟨_, _, hg_names_98, by omega⟩
            refine va_get (D := (dC, dI)) (ci := 12) (v := .int at_6) (C := RX10) (T := TX10) (N := 11) hx hb hts hin_12 hown hK (jp_one hat_a_98) 0 rfl rfl 4 (by decide) (hts (.fieldLink RX10 83 "ProofServer$Syntax" "at" "I") (by decide +kernel)) (fun _ h9 => h9) rfl dX10_isOne_219 ?_
            refine lv_iconst (v := 1) hx hb dX10_isOne_222 (by decide) ?_
            refine lv_iadd hx hb dX10_isOne_223 ?_
            refine lv_topi (fun z_99 ez_99 => ?_)
            have hz_99 : z_99.toInt = at_6.toInt + 1 := by rw [ez_99]; exact jb_iadd (rfl) ((by decide)) (by omega) (by omega)
            refine j_put (D := (dC, dI)) (ci := 12) (v := .int z_99) (ty := .int) (C := RX10) (T := TX10) (N := 11) (A := jA base) hx hb hts hin_12 tyX10 tyX10_ok nmX10 hown hK hat_a_98 (hX_6.2 _ _ hg_a).1 hS_6.2.2 rfl 4 (by decide) (hts (.fieldLink RX10 83 "ProofServer$Syntax" "at" "I") (by decide +kernel)) (fun _ h9 => h9) rfl (by decide +kernel) rfl rfl (Nat.le_of_ble_eq_true rfl) dX10_isOne_224 (fun H1 locs1 hat1 hsz1 hfr1 hT1 hL1 => ?_)
            have hX_101 := hX_6.put hB hg_a (by omega) jSup.root hm_a hsz1 hfr1
            have hM_101 := hM_6.put jExt.rf hrt_a jSup.root (by simp) hfr1
            have hz_101 := hsz1.trans hz_6
            have hT_101 := hT1.trans hT_6
            have hS_101 := jS_put hS_6 hsz1 hfr1 (hX_6.2 _ _ hg_a).1 hL1
            have hat_kinds_98_101 := hat_kinds_98.kept (hfr1 _ (jne hg_kinds_98 hg_a (by simp)))
            have hat_values_98_101 := hat_values_98.kept (hfr1 _ (jne hg_values_98 hg_a (by simp)))
            have hat_told_98_101 := hat_told_98.kept (hfr1 _ (jne hg_told_98 hg_a (by simp)))
            have hat_nodes_98_101 := hat_nodes_98.kept (hfr1 _ (jne hg_nodes_98 hg_a (by simp)))
            clear hfr1 hsz1 hT1 hL1
            have hat_a_101 : va_at (dC, dI) vwCl (a, .inr (12, [.ref names_98, .ref kinds_98, .ref values_98, .int tk_6, .int z_99, .int word_98, .ref told_98, .int toldCount_98, .int terms_98, .ref nodes_98, .int nc_6])) H1 := hat1
            clear hat1
            refine lv_aload_n hx hb dX10_isOne_227 rfl (lv_at hl 2 rfl) ?_
            refine lv_iconst (v := 0) hx hb dX10_isOne_228 (by decide) ?_
            have he_104 : jB12e dC dI ca G0 a tk_6 z_99 nc_6 H1 := ⟨names_98, kinds_98, values_98, word_98, told_98, toldCount_98, terms_98, nodes_98, f_kinds_98, f_values_98, f_told_98, f_nodes_98, hat_a_101, hat_kinds_98_101, hat_values_98_101, hat_told_98_101, hat_nodes_98_101, hg_kinds_98, hg_values_98, hg_told_98, hg_nodes_98, hg_names_98, by first | omega | assumption | (simp; done) | exact Or.inl rfl | exact Or.inr rfl, by first | omega | assumption | (simp; done) | exact Or.inl rfl | exact Or.inr rfl⟩
            refine va_calli (A0 := jA base) (H0 := s.heap) (va_runV (As := [.int 0]) (rest := []) ⟨hx, hb, hml, hown, hts⟩ (tX10_addNode l dC dI ca base B hB G0 X H1 a 0 tk_6 z_99 nc_6) (cwV 1 hts gX10_isOne_X10_addNode rfl rfl rfl (by decide +kernel) ⟨by rw [← hR]; show (0) + 1 ≤ 5 * ef + 5; omega, by rw [← hR]; show 8 + (2 + 11) + (0) ≤ 160 * ef + 200; omega⟩) ⟨fun a U g mk q => by obtain ⟨q0, q1, q2, qK, q9⟩ := q; exact ⟨q0, q1, q2, jG.calling g mk a qK, q9⟩, va_recv hK (jp_one hat_a_101) (ci := 12) (q0 := 0) rfl rfl, fun U hU hW => ⟨rfl, hU, hX_101, hG.step hW hU hS_101, hg_a, hm_a, he_104, by refine ⟨?_, ?_, ?_, ?_, ?_, ?_⟩ <;> omega⟩⟩ rfl rfl hl.1 rfl (lv_room (Nat.le_of_ble_eq_true rfl)) dX10_isOne_229 ⟨Nat.zero_le _, Nat.zero_le _⟩) hS_101 (fun q _ h => h) (fun q h => h) (fun r_102 u t H1 locs1 ht hvm hr_102 hBb hz1 hk1 hS_103 => ?_)
            obtain ⟨tk_103, at_103, nc_103⟩ := u
            obtain ⟨hX_103, he_103, hM_1030, hz_1030, hT_1030⟩ := hBb
            rw [ht] at hX_103 he_103 hM_1030 hz_1030 hT_1030
            simp only at hr_102 he_103
            have hM_103 := hM_101.tr0 hM_1030 hz_101 (by intro r; simp)
            have hz_103 := hz_1030.trans hz_101
            have hT_103 := hT_1030.trans hT_101
            clear hz1 hk1 hvm ht hM_1030 hz_1030 hT_1030
            obtain ⟨hr_102b, hr_102p⟩ := hr_102
            have hr_102' := jb_01 hr_102b
            rw [hQ]
            exact W.zret (v := r_102) hx hb hr (jb_nz (hr_102b)) (fun t ht hW => ⟨⟨r_102, (tk_103, at_103, nc_103), rfl, ⟨(hr_102b), by refine ⟨?_, ?_, ?_, ?_, ?_, ?_⟩ <;> first | rfl | omega | (left; omega) | (right; omega) | exact Or.inl ⟨by decide, rfl⟩ | (simp only; omega)⟩, by rw [ht]; try exact hX_103, by rw [ht]; try exact he_103, by rw [ht]; try exact hM_103, by rw [ht]; try exact hz_103, by rw [ht]; try exact hT_103⟩, by rw [ht]; try exact hS_103.1, fun q h9 hq => by rw [ht]; try exact hS_103.2.1 q h9 hq⟩) hS_103.2.2 dX10_isOne_232
        · skip
          have c_70' : r_5.toInt = 1 := jb_ne_n (rfl) ((by decide)) c_70
          refine lv_aload_n hx hb dX10_isOne_121 rfl (lv_at hl 2 rfl) ?_
          refine lv_dup hx hb dX10_isOne_122 rfl ?_
          obtain ⟨names_105, kinds_105, values_105, word_105, told_105, toldCount_105, terms_105, nodes_105, f_kinds_105, f_values_105, f_told_105, f_nodes_105, hat_a_105, hat_kinds_105, hat_values_105, hat_told_105, hat_nodes_105, hg_kinds_105, hg_values_105, hg_told_105, hg_nodes_105, hg_names_105, hf0_105, hf1_105⟩ := id he_6
          have hlt_names_105 := hX_6.2 _ _ hg_names_105
          have hrt_names_105 : jRoot G0 names_105 := ⟨_, _, hg_names_105, by omega⟩
          refine va_get (D := (dC, dI)) (ci := 12) (v := .int at_6) (C := RX10) (T := TX10) (N := 11) hx hb hts hin_12 hown hK (jp_one hat_a_105) 0 rfl rfl 4 (by decide) (hts (.fieldLink RX10 83 "ProofServer$Syntax" "at" "I") (by decide +kernel)) (fun _ h9 => h9) rfl dX10_isOne_123 ?_
          refine lv_iconst (v := 1) hx hb dX10_isOne_126 (by decide) ?_
          refine lv_iadd hx hb dX10_isOne_127 ?_
          refine lv_topi (fun z_106 ez_106 => ?_)
          have hz_106 : z_106.toInt = at_6.toInt + 1 := by rw [ez_106]; exact jb_iadd (rfl) ((by decide)) (by omega) (by omega)
          refine j_put (D := (dC, dI)) (ci := 12) (v := .int z_106) (ty := .int) (C := RX10) (T := TX10) (N := 11) (A := jA base) hx hb hts hin_12 tyX10 tyX10_ok nmX10 hown hK hat_a_105 (hX_6.2 _ _ hg_a).1 hS_6.2.2 rfl 4 (by decide) (hts (.fieldLink RX10 83 "ProofServer$Syntax" "at" "I") (by decide +kernel)) (fun _ h9 => h9) rfl (by decide +kernel) rfl rfl (Nat.le_of_ble_eq_true rfl) dX10_isOne_128 (fun H1 locs1 hat1 hsz1 hfr1 hT1 hL1 => ?_)
          have hX_108 := hX_6.put hB hg_a (by omega) jSup.root hm_a hsz1 hfr1
          have hM_108 := hM_6.put jExt.rf hrt_a jSup.root (by simp) hfr1
          have hz_108 := hsz1.trans hz_6
          have hT_108 := hT1.trans hT_6
          have hS_108 := jS_put hS_6 hsz1 hfr1 (hX_6.2 _ _ hg_a).1 hL1
          have hat_kinds_105_108 := hat_kinds_105.kept (hfr1 _ (jne hg_kinds_105 hg_a (by simp)))
          have hat_values_105_108 := hat_values_105.kept (hfr1 _ (jne hg_values_105 hg_a (by simp)))
          have hat_told_105_108 := hat_told_105.kept (hfr1 _ (jne hg_told_105 hg_a (by simp)))
          have hat_nodes_105_108 := hat_nodes_105.kept (hfr1 _ (jne hg_nodes_105 hg_a (by simp)))
          clear hfr1 hsz1 hT1 hL1
          have hat_a_108 : va_at (dC, dI) vwCl (a, .inr (12, [.ref names_105, .ref kinds_105, .ref values_105, .int tk_6, .int z_106, .int word_105, .ref told_105, .int toldCount_105, .int terms_105, .ref nodes_105, .int nc_6])) H1 := hat1
          clear hat1
          refine lv_aload_n hx hb dX10_isOne_131 rfl (lv_at hl 2 rfl) ?_
          have he_111 : jB12e dC dI ca G0 a tk_6 z_106 nc_6 H1 := ⟨names_105, kinds_105, values_105, word_105, told_105, toldCount_105, terms_105, nodes_105, f_kinds_105, f_values_105, f_told_105, f_nodes_105, hat_a_108, hat_kinds_105_108, hat_values_105_108, hat_told_105_108, hat_nodes_105_108, hg_kinds_105, hg_values_105, hg_told_105, hg_nodes_105, hg_names_105, by first | omega | assumption | (simp; done) | exact Or.inl rfl | exact Or.inr rfl, by first | omega | assumption | (simp; done) | exact Or.inl rfl | exact Or.inr rfl⟩
          refine va_calli (A0 := jA base) (H0 := s.heap) (va_runV (As := []) (rest := []) ⟨hx, hb, hml, hown, hts⟩ (tX10_peekName l dC dI ca base B hB G0 X H1 a tk_6 z_106 nc_6) (cwV 0 hts gX10_isOne_X10_peekName rfl rfl rfl (by decide +kernel) ⟨by rw [← hR]; show (1) + 1 ≤ 5 * ef + 5; omega, by rw [← hR]; show 8 + (1 + 11) + (40) ≤ 160 * ef + 200; omega⟩) ⟨fun a U g mk q => by obtain ⟨q0, q1, q2, qK, q9⟩ := q; exact ⟨q0, q1, q2, jG.calling g mk a qK, q9⟩, va_recv hK (jp_one hat_a_108) (ci := 12) (q0 := 0) rfl rfl, fun U hU hW => ⟨rfl, hU, hX_108, hG.step hW hU hS_108, hg_a, hm_a, he_111, by refine ⟨?_, ?_, ?_, ?_, ?_, ?_⟩ <;> omega⟩⟩ rfl rfl hl.1 rfl (lv_room (Nat.le_of_ble_eq_true rfl)) dX10_isOne_132 ⟨Nat.zero_le _, Nat.zero_le _⟩) hS_108 (fun q _ h => h) (fun q h => h) (fun r_109 u t H1 locs1 ht hvm hr_109 hBb hz1 hk1 hS_110 => ?_)
          obtain ⟨tk_110, at_110, nc_110⟩ := u
          obtain ⟨hX_110, he_110, hM_1100, hz_1100, hT_1100⟩ := hBb
          rw [ht] at hX_110 he_110 hM_1100 hz_1100 hT_1100
          simp only at hr_109 he_110
          have hM_110 := hM_108.tr0 hM_1100 hz_108 (by intro r; simp)
          have hz_110 := hz_1100.trans hz_108
          have hT_110 := hT_1100.trans hT_108
          clear hz1 hk1 hvm ht hM_1100 hz_1100 hT_1100
          refine lv_istore (lv' := [(4, .int r_109), (3, .int r_5), (2, .int r_1), (0, .ref a), (1, .int dp)]) hx hb dX10_isOne_135 hl (by decide) rfl (fun ls hl => ?_)
          refine lv_iload_n hx hb dX10_isOne_137 rfl (lv_at hl 1 rfl) ?_
          refine lv_if_ne (tgt := 145) hx hb dX10_isOne_138 (by decide) (fun c_112 => ?_) (fun c_112 => ?_)
          · skip
            have c_112' : r_5.toInt ≠ 0 := jb_ne (rfl) ((by decide)) c_112
            refine lv_bipush (v := 6) hx hb dX10_isOne_145 (by decide) ?_
            refine lv_iload hx hb dX10_isOne_147 (lv_at hl 0 rfl) ?_
            refine lv_bipush (v := 15) hx hb dX10_isOne_149 (by decide) ?_
            refine lv_ishl hx hb dX10_isOne_151 ?_
            refine lv_topi (fun z_113 ez_113 => ?_)
            refine lv_ior hx hb dX10_isOne_152 ?_
            refine lv_topi (fun z_114 ez_114 => ?_)
            refine lv_istore (lv' := [(5, .int z_114), (4, .int r_109), (3, .int r_5), (2, .int r_1), (0, .ref a), (1, .int dp)]) hx hb dX10_isOne_153 hl (by decide) rfl (fun ls hl => ?_)
            refine lv_aload_n hx hb dX10_isOne_155 rfl (lv_at hl 4 rfl) ?_
            refine lv_dup hx hb dX10_isOne_156 rfl ?_
            obtain ⟨names_115, kinds_115, values_115, word_115, told_115, toldCount_115, terms_115, nodes_115, f_kinds_115, f_values_115, f_told_115, f_nodes_115, hat_a_115, hat_kinds_115, hat_values_115, hat_told_115, hat_nodes_115, hg_kinds_115, hg_values_115, hg_told_115, hg_nodes_115, hg_names_115, hf0_115, hf1_115⟩ := id he_110
            have hlt_names_115 := hX_110.2 _ _ hg_names_115
            have hrt_names_115 : jRoot G0 names_115 := ⟨_, _, hg_names_115, by omega⟩
            refine va_get (D := (dC, dI)) (ci := 12) (v := .int at_110) (C := RX10) (T := TX10) (N := 11) hx hb hts hin_12 hown hK (jp_one hat_a_115) 0 rfl rfl 4 (by decide) (hts (.fieldLink RX10 83 "ProofServer$Syntax" "at" "I") (by decide +kernel)) (fun _ h9 => h9) rfl dX10_isOne_157 ?_
            refine lv_iconst (v := 1) hx hb dX10_isOne_160 (by decide) ?_
            refine lv_iadd hx hb dX10_isOne_161 ?_
            refine lv_topi (fun z_116 ez_116 => ?_)
            have hz_116 : z_116.toInt = at_110.toInt + 1 := by rw [ez_116]; exact jb_iadd (rfl) ((by decide)) (by omega) (by omega)
            refine j_put (D := (dC, dI)) (ci := 12) (v := .int z_116) (ty := .int) (C := RX10) (T := TX10) (N := 11) (A := jA base) hx hb hts hin_12 tyX10 tyX10_ok nmX10 hown hK hat_a_115 (hX_110.2 _ _ hg_a).1 hS_110.2.2 rfl 4 (by decide) (hts (.fieldLink RX10 83 "ProofServer$Syntax" "at" "I") (by decide +kernel)) (fun _ h9 => h9) rfl (by decide +kernel) rfl rfl (Nat.le_of_ble_eq_true rfl) dX10_isOne_162 (fun H1 locs1 hat1 hsz1 hfr1 hT1 hL1 => ?_)
            have hX_118 := hX_110.put hB hg_a (by omega) jSup.root hm_a hsz1 hfr1
            have hM_118 := hM_110.put jExt.rf hrt_a jSup.root (by simp) hfr1
            have hz_118 := hsz1.trans hz_110
            have hT_118 := hT1.trans hT_110
            have hS_118 := jS_put hS_110 hsz1 hfr1 (hX_110.2 _ _ hg_a).1 hL1
            have hat_kinds_115_118 := hat_kinds_115.kept (hfr1 _ (jne hg_kinds_115 hg_a (by simp)))
            have hat_values_115_118 := hat_values_115.kept (hfr1 _ (jne hg_values_115 hg_a (by simp)))
            have hat_told_115_118 := hat_told_115.kept (hfr1 _ (jne hg_told_115 hg_a (by simp)))
            have hat_nodes_115_118 := hat_nodes_115.kept (hfr1 _ (jne hg_nodes_115 hg_a (by simp)))
            clear hfr1 hsz1 hT1 hL1
            have hat_a_118 : va_at (dC, dI) vwCl (a, .inr (12, [.ref names_115, .ref kinds_115, .ref values_115, .int tk_110, .int z_116, .int word_115, .ref told_115, .int toldCount_115, .int terms_115, .ref nodes_115, .int nc_110])) H1 := hat1
            clear hat1
            refine lv_iload_n hx hb dX10_isOne_165 rfl (lv_at hl 5 rfl) ?_
            refine lv_bipush (v := 12) hx hb dX10_isOne_166 (by decide) ?_
            refine lv_icmp_ge (tgt := 210) hx hb dX10_isOne_168 (by decide) (fun c_119 => ?_) (fun c_119 => ?_)
            · skip
              have c_119' : dp.toInt ≥ 12 := jb_ge (rfl) ((by decide)) c_119
              refine lv_iconst (v := 0) hx hb dX10_isOne_210 (by decide) ?_
              have he_120 : jB12e dC dI ca G0 a tk_110 z_116 nc_110 H1 := ⟨names_115, kinds_115, values_115, word_115, told_115, toldCount_115, terms_115, nodes_115, f_kinds_115, f_values_115, f_told_115, f_nodes_115, hat_a_118, hat_kinds_115_118, hat_values_115_118, hat_told_115_118, hat_nodes_115_118, hg_kinds_115, hg_values_115, hg_told_115, hg_nodes_115, hg_names_115, by first | omega | assumption | (simp; done) | exact Or.inl rfl | exact Or.inr rfl, by first | omega | assumption | (simp; done) | exact Or.inl rfl | exact Or.inr rfl⟩
              rw [hQ]
              exact W.zret (v := 0) hx hb hr (jb_nz (Or.inl rfl)) (fun t ht hW => ⟨⟨0, (tk_110, z_116, nc_110), rfl, ⟨(Or.inl rfl), by refine ⟨?_, ?_, ?_, ?_, ?_, ?_⟩ <;> first | rfl | omega | (left; omega) | (right; omega) | exact Or.inl ⟨by decide, rfl⟩ | (simp only; omega)⟩, by rw [ht]; try exact hX_118, by rw [ht]; try exact he_120, by rw [ht]; try exact hM_118, by rw [ht]; try exact hz_118, by rw [ht]; try exact hT_118⟩, by rw [ht]; try exact hS_118.1, fun q h9 hq => by rw [ht]; try exact hS_118.2.1 q h9 hq⟩) hS_118.2.2 dX10_isOne_211
            · skip
              have c_119' : dp.toInt < 12 := jb_ge_n (rfl) ((by decide)) c_119
              refine lv_iload hx hb dX10_isOne_171 (lv_at hl 1 rfl) ?_
              refine lv_iconst (v := 2) hx hb dX10_isOne_173 (by decide) ?_
              refine lv_icmp_le (tgt := 210) hx hb dX10_isOne_174 (by decide) (fun c_121 => ?_) (fun c_121 => ?_)
              · skip
                have c_121' : r_109.toInt ≤ 2 := jb_le (rfl) ((by decide)) c_121
                refine lv_iconst (v := 0) hx hb dX10_isOne_210 (by decide) ?_
                have he_122 : jB12e dC dI ca G0 a tk_110 z_116 nc_110 H1 := ⟨names_115, kinds_115, values_115, word_115, told_115, toldCount_115, terms_115, nodes_115, f_kinds_115, f_values_115, f_told_115, f_nodes_115, hat_a_118, hat_kinds_115_118, hat_values_115_118, hat_told_115_118, hat_nodes_115_118, hg_kinds_115, hg_values_115, hg_told_115, hg_nodes_115, hg_names_115, by first | omega | assumption | (simp; done) | exact Or.inl rfl | exact Or.inr rfl, by first | omega | assumption | (simp; done) | exact Or.inl rfl | exact Or.inr rfl⟩
                rw [hQ]
                exact W.zret (v := 0) hx hb hr (jb_nz (Or.inl rfl)) (fun t ht hW => ⟨⟨0, (tk_110, z_116, nc_110), rfl, ⟨(Or.inl rfl), by refine ⟨?_, ?_, ?_, ?_, ?_, ?_⟩ <;> first | rfl | omega | (left; omega) | (right; omega) | exact Or.inl ⟨by decide, rfl⟩ | (simp only; omega)⟩, by rw [ht]; try exact hX_118, by rw [ht]; try exact he_122, by rw [ht]; try exact hM_118, by rw [ht]; try exact hz_118, by rw [ht]; try exact hT_118⟩, by rw [ht]; try exact hS_118.1, fun q h9 hq => by rw [ht]; try exact hS_118.2.1 q h9 hq⟩) hS_118.2.2 dX10_isOne_211
              · skip
                have c_121' : r_109.toInt > 2 := jb_le_n (rfl) ((by decide)) c_121
                refine lv_aload_n hx hb dX10_isOne_177 rfl (lv_at hl 4 rfl) ?_
                refine lv_bipush (v := 44) hx hb dX10_isOne_178 (by decide) ?_
                have he_125 : jB12e dC dI ca G0 a tk_110 z_116 nc_110 H1 := ⟨names_115, kinds_115, values_115, word_115, told_115, toldCount_115, terms_115, nodes_115, f_kinds_115, f_values_115, f_told_115, f_nodes_115, hat_a_118, hat_kinds_115_118, hat_values_115_118, hat_told_115_118, hat_nodes_115_118, hg_kinds_115, hg_values_115, hg_told_115, hg_nodes_115, hg_names_115, by first | omega | assumption | (simp; done) | exact Or.inl rfl | exact Or.inr rfl, by first | omega | assumption | (simp; done) | exact Or.inl rfl | exact Or.inr rfl⟩
                refine va_calli (A0 := jA base) (H0 := s.heap) (va_runV (As := [.int 44]) (rest := []) ⟨hx, hb, hml, hown, hts⟩ (tX10_isSign l dC dI ca base B hB G0 X H1 a 44 tk_110 z_116 nc_110) (cwV 1 hts gX10_isOne_X10_isSign rfl rfl rfl (by decide +kernel) ⟨by rw [← hR]; show (0) + 1 ≤ 5 * ef + 5; omega, by rw [← hR]; show 8 + (3 + 11) + (0) ≤ 160 * ef + 200; omega⟩) ⟨fun a U g mk q => by obtain ⟨q0, q1, q2, qK, q9⟩ := q; exact ⟨q0, q1, q2, jG.calling g mk a qK, q9⟩, va_recv hK (jp_one hat_a_118) (ci := 12) (q0 := 0) rfl rfl, fun U hU hW => ⟨rfl, hU, hX_118, hG.step hW hU hS_118, hg_a, hm_a, he_125, by refine ⟨?_, ?_, ?_, ?_, ?_, ?_⟩ <;> omega⟩⟩ rfl rfl hl.1 rfl (lv_room (Nat.le_of_ble_eq_true rfl)) dX10_isOne_180 ⟨Nat.zero_le _, Nat.zero_le _⟩) hS_118 (fun q _ h => h) (fun q h => h) (fun r_123 u t H1 locs1 ht hvm hr_123 hBb hz1 hk1 hS_124 => ?_)
                obtain ⟨tk_124, at_124, nc_124⟩ := u
                obtain ⟨hX_124, he_124, hM_1240, hz_1240, hT_1240⟩ := hBb
                rw [ht] at hX_124 he_124 hM_1240 hz_1240 hT_1240
                simp only at hr_123 he_124
                have hM_124 := hM_118.tr0 hM_1240 hz_118 (by intro r; simp)
                have hz_124 := hz_1240.trans hz_118
                have hT_124 := hT_1240.trans hT_118
                clear hz1 hk1 hvm ht hM_1240 hz_1240 hT_1240
                obtain ⟨hr_123b, hr_123p⟩ := hr_123
                have hr_123' := jb_01 hr_123b
                refine lv_if_eq (tgt := 210) hx hb dX10_isOne_183 (by decide) (fun c_126 => ?_) (fun c_126 => ?_)
                · skip
                  have c_126' : r_123.toInt = 0 := jb_eq (rfl) ((by decide)) c_126
                  refine lv_iconst (v := 0) hx hb dX10_isOne_210 (by decide) ?_
                  rw [hQ]
                  exact W.zret (v := 0) hx hb hr (jb_nz (Or.inl rfl)) (fun t ht hW => ⟨⟨0, (tk_124, at_124, nc_124), rfl, ⟨(Or.inl rfl), by refine ⟨?_, ?_, ?_, ?_, ?_, ?_⟩ <;> first | rfl | omega | (left; omega) | (right; omega) | exact Or.inl ⟨by decide, rfl⟩ | (simp only; omega)⟩, by rw [ht]; try exact hX_124, by rw [ht]; try exact he_124, by rw [ht]; try exact hM_124, by rw [ht]; try exact hz_124, by rw [ht]; try exact hT_124⟩, by rw [ht]; try exact hS_124.1, fun q h9 hq => by rw [ht]; try exact hS_124.2.1 q h9 hq⟩) hS_124.2.2 dX10_isOne_211
                · skip
                  have c_126' : r_123.toInt ≠ 0 := jb_eq_n (rfl) ((by decide)) c_126
                  refine lv_aload_n hx hb dX10_isOne_186 rfl (lv_at hl 4 rfl) ?_
                  refine lv_iload hx hb dX10_isOne_187 (lv_at hl 0 rfl) ?_
                  obtain ⟨names_129, kinds_129, values_129, word_129, told_129, toldCount_129, terms_129, nodes_129, f_kinds_129, f_values_129, f_told_129, f_nodes_129, hat_a_129, hat_kinds_129, hat_values_129, hat_told_129, hat_nodes_129, hg_kinds_129, hg_values_129, hg_told_129, hg_nodes_129, hg_names_129, hf0_129, hf1_129⟩ := id he_124
                  have hlt_names_129 := hX_124.2 _ _ hg_names_129
                  have hrt_names_129 : jRoot G0 names_129 := ⟨_, _, hg_names_129, by omega⟩
                  have he_130 : jB12e dC dI ca G0 a tk_124 at_124 nc_124 H1 := ⟨names_129, kinds_129, values_129, word_129, told_129, toldCount_129, terms_129, nodes_129, f_kinds_129, f_values_129, f_told_129, f_nodes_129, hat_a_129, hat_kinds_129, hat_values_129, hat_told_129, hat_nodes_129, hg_kinds_129, hg_values_129, hg_told_129, hg_nodes_129, hg_names_129, by first | omega | assumption | (simp; done) | exact Or.inl rfl | exact Or.inr rfl, by first | omega | assumption | (simp; done) | exact Or.inl rfl | exact Or.inr rfl⟩
                  refine va_calli (A0 := jA base) (H0 := s.heap) (va_runV (As := [.int z_114]) (rest := []) ⟨hx, hb, hml, hown, hts⟩ (tX10_addNode l dC dI ca base B hB G0 X H1 a z_114 tk_124 at_124 nc_124) (cwV 1 hts gX10_isOne_X10_addNode rfl rfl rfl (by decide +kernel) ⟨by rw [← hR]; show (0) + 1 ≤ 5 * ef + 5; omega, by rw [← hR]; show 8 + (2 + 11) + (0) ≤ 160 * ef + 200; omega⟩) ⟨fun a U g mk q => by obtain ⟨q0, q1, q2, qK, q9⟩ := q; exact ⟨q0, q1, q2, jG.calling g mk a qK, q9⟩, va_recv hK (jp_one hat_a_129) (ci := 12) (q0 := 0) rfl rfl, fun U hU hW => ⟨rfl, hU, hX_124, hG.step hW hU hS_124, hg_a, hm_a, he_130, by refine ⟨?_, ?_, ?_, ?_, ?_, ?_⟩ <;> omega⟩⟩ rfl rfl hl.1 rfl (lv_room (Nat.le_of_ble_eq_true rfl)) dX10_isOne_189 ⟨Nat.zero_le _, Nat.zero_le _⟩) hS_124 (fun q _ h => h) (fun q h => h) (fun r_127 u t H1 locs1 ht hvm hr_127 hBb hz1 hk1 hS_128 => ?_)
                  obtain ⟨tk_128, at_128, nc_128⟩ := u
                  obtain ⟨hX_128, he_128, hM_1280, hz_1280, hT_1280⟩ := hBb
                  rw [ht] at hX_128 he_128 hM_1280 hz_1280 hT_1280
                  simp only at hr_127 he_128
                  have hM_128 := hM_124.tr0 hM_1280 hz_124 (by intro r; simp)
                  have hz_128 := hz_1280.trans hz_124
                  have hT_128 := hT_1280.trans hT_124
                  clear hz1 hk1 hvm ht hM_1280 hz_1280 hT_1280
                  obtain ⟨hr_127b, hr_127p⟩ := hr_127
                  have hr_127' := jb_01 hr_127b
                  refine lv_if_eq (tgt := 210) hx hb dX10_isOne_192 (by decide) (fun c_131 => ?_) (fun c_131 => ?_)
                  · skip
                    have c_131' : r_127.toInt = 0 := jb_eq (rfl) ((by decide)) c_131
                    refine lv_iconst (v := 0) hx hb dX10_isOne_210 (by decide) ?_
                    rw [hQ]
                    exact W.zret (v := 0) hx hb hr (jb_nz (Or.inl rfl)) (fun t ht hW => ⟨⟨0, (tk_128, at_128, nc_128), rfl, ⟨(Or.inl rfl), by refine ⟨?_, ?_, ?_, ?_, ?_, ?_⟩ <;> first | rfl | omega | (left; omega) | (right; omega) | exact Or.inl ⟨by decide, rfl⟩ | (simp only; omega)⟩, by rw [ht]; try exact hX_128, by rw [ht]; try exact he_128, by rw [ht]; try exact hM_128, by rw [ht]; try exact hz_128, by rw [ht]; try exact hT_128⟩, by rw [ht]; try exact hS_128.1, fun q h9 hq => by rw [ht]; try exact hS_128.2.1 q h9 hq⟩) hS_128.2.2 dX10_isOne_211
                  · skip
                    have c_131' : r_127.toInt ≠ 0 := jb_eq_n (rfl) ((by decide)) c_131
                    refine lv_aload_n hx hb dX10_isOne_195 rfl (lv_at hl 4 rfl) ?_
                    refine lv_iconst (v := 0) hx hb dX10_isOne_196 (by decide) ?_
                    refine lv_iload_n hx hb dX10_isOne_197 rfl (lv_at hl 5 rfl) ?_
                    refine lv_iconst (v := 1) hx hb dX10_isOne_198 (by decide) ?_
                    refine lv_iadd hx hb dX10_isOne_199 ?_
                    refine lv_topi (fun z_132 ez_132 => ?_)
                    have hz_132 : z_132.toInt = dp.toInt + 1 := by rw [ez_132]; exact jb_iadd (rfl) ((by decide)) (by omega) (by omega)
                    obtain ⟨names_135, kinds_135, values_135, word_135, told_135, toldCount_135, terms_135, nodes_135, f_kinds_135, f_values_135, f_told_135, f_nodes_135, hat_a_135, hat_kinds_135, hat_values_135, hat_told_135, hat_nodes_135, hg_kinds_135, hg_values_135, hg_told_135, hg_nodes_135, hg_names_135, hf0_135, hf1_135⟩ := id he_128
                    have hlt_names_135 := hX_128.2 _ _ hg_names_135
                    have hrt_names_135 : jRoot G0 names_135 := ⟨_, _, hg_names_135, by omega⟩
                    have he_136 : jB12e dC dI ca G0 a tk_128 at_128 nc_128 H1 := ⟨names_135, kinds_135, values_135, word_135, told_135, toldCount_135, terms_135, nodes_135, f_kinds_135, f_values_135, f_told_135, f_nodes_135, hat_a_135, hat_kinds_135, hat_values_135, hat_told_135, hat_nodes_135, hg_kinds_135, hg_values_135, hg_told_135, hg_nodes_135, hg_names_135, by first | omega | assumption | (simp; done) | exact Or.inl rfl | exact Or.inr rfl, by first | omega | assumption | (simp; done) | exact Or.inl rfl | exact Or.inr rfl⟩
                    refine va_calli (A0 := jA base) (H0 := s.heap) (va_runV (As := [.int 0, .int z_132]) (rest := []) ⟨hx, hb, hml, hown, hts⟩ (ihC (ef - 1) (by omega) G0 X H1 a 0 z_132 tk_128 at_128 nc_128) (cwV 2 hts gX10_isOne_X10_isChain rfl rfl rfl (by decide +kernel) ⟨by rw [← hR]; show (5 * (ef - 1) + 6 + 2) + 1 ≤ 5 * ef + 5; omega, by rw [← hR]; show 8 + (6 + 11) + (160 * (ef - 1) + 230 + 30 * 2) ≤ 160 * ef + 200; omega⟩) ⟨fun a U g mk q => by obtain ⟨q0, q1, q2, qK, q9⟩ := q; exact ⟨q0, q1, q2, jG.calling g mk a qK, q9⟩, va_recv hK (jp_one hat_a_135) (ci := 12) (q0 := 0) rfl rfl, fun U hU hW => ⟨rfl, hU, hX_128, hG.step hW hU hS_128, hg_a, hm_a, he_136, by refine ⟨?_, ?_, ?_, ?_, ?_, ?_, ?_, ?_, ?_, ?_⟩ <;> omega⟩⟩ rfl rfl hl.1 rfl (lv_room (Nat.le_of_ble_eq_true rfl)) dX10_isOne_200 ⟨Nat.zero_le _, Nat.zero_le _⟩) hS_128 (fun q _ h => h) (fun q h => h) (fun r_133 u t H1 locs1 ht hvm hr_133 hBb hz1 hk1 hS_134 => ?_)
                    obtain ⟨tk_134, at_134, nc_134⟩ := u
                    obtain ⟨hX_134, he_134, hM_1340, hz_1340, hT_1340⟩ := hBb
                    rw [ht] at hX_134 he_134 hM_1340 hz_1340 hT_1340
                    simp only at hr_133 he_134
                    have hM_134 := hM_128.tr0 hM_1340 hz_128 (by intro r; simp)
                    have hz_134 := hz_1340.trans hz_128
                    have hT_134 := hT_1340.trans hT_128
                    clear hz1 hk1 hvm ht hM_1340 hz_1340 hT_1340
                    obtain ⟨hr_133b, hr_133p⟩ := hr_133
                    have hr_133' := jb_01 hr_133b
                    refine lv_if_eq (tgt := 210) hx hb dX10_isOne_203 (by decide) (fun c_137 => ?_) (fun c_137 => ?_)
                    · skip
                      have c_137' : r_133.toInt = 0 := jb_eq (rfl) ((by decide)) c_137
                      refine lv_iconst (v := 0) hx hb dX10_isOne_210 (by decide) ?_
                      rw [hQ]
                      exact W.zret (v := 0) hx hb hr (jb_nz (Or.inl rfl)) (fun t ht hW => ⟨⟨0, (tk_134, at_134, nc_134), rfl, ⟨(Or.inl rfl), by refine ⟨?_, ?_, ?_, ?_, ?_, ?_⟩ <;> first | rfl | omega | (left; omega) | (right; omega) | exact Or.inl ⟨by decide, rfl⟩ | (simp only; omega)⟩, by rw [ht]; try exact hX_134, by rw [ht]; try exact he_134, by rw [ht]; try exact hM_134, by rw [ht]; try exact hz_134, by rw [ht]; try exact hT_134⟩, by rw [ht]; try exact hS_134.1, fun q h9 hq => by rw [ht]; try exact hS_134.2.1 q h9 hq⟩) hS_134.2.2 dX10_isOne_211
                    · skip
                      have c_137' : r_133.toInt ≠ 0 := jb_eq_n (rfl) ((by decide)) c_137
                      refine lv_iconst (v := 1) hx hb dX10_isOne_206 (by decide) ?_
                      refine lv_goto (tgt := 211) hx hb dX10_isOne_207 (by decide) ?_
                      rw [hQ]
                      exact W.zret (v := 1) hx hb hr (jb_nz (Or.inr rfl)) (fun t ht hW => ⟨⟨1, (tk_134, at_134, nc_134), rfl, ⟨(Or.inr rfl), by refine ⟨?_, ?_, ?_, ?_, ?_, ?_⟩ <;> first | rfl | omega | (left; omega) | (right; omega) | exact Or.inl ⟨by decide, rfl⟩ | (simp only; omega)⟩, by rw [ht]; try exact hX_134, by rw [ht]; try exact he_134, by rw [ht]; try exact hM_134, by rw [ht]; try exact hz_134, by rw [ht]; try exact hT_134⟩, by rw [ht]; try exact hS_134.1, fun q h9 hq => by rw [ht]; try exact hS_134.2.1 q h9 hq⟩) hS_134.2.2 dX10_isOne_211
          · skip
            have c_112' : r_5.toInt = 0 := jb_ne_n (rfl) ((by decide)) c_112
            refine lv_iconst (v := 5) hx hb dX10_isOne_141 (by decide) ?_
            refine lv_goto (tgt := 147) hx hb dX10_isOne_142 (by decide) ?_
            refine lv_iload hx hb dX10_isOne_147 (lv_at hl 0 rfl) ?_
            refine lv_bipush (v := 15) hx hb dX10_isOne_149 (by decide) ?_
            refine lv_ishl hx hb dX10_isOne_151 ?_
            refine lv_topi (fun z_138 ez_138 => ?_)
            refine lv_ior hx hb dX10_isOne_152 ?_
            refine lv_topi (fun z_139 ez_139 => ?_)
            refine lv_istore (lv' := [(5, .int z_139), (4, .int r_109), (3, .int r_5), (2, .int r_1), (0, .ref a), (1, .int dp)]) hx hb dX10_isOne_153 hl (by decide) rfl (fun ls hl => ?_)
            refine lv_aload_n hx hb dX10_isOne_155 rfl (lv_at hl 4 rfl) ?_
            refine lv_dup hx hb dX10_isOne_156 rfl ?_
            obtain ⟨names_140, kinds_140, values_140, word_140, told_140, toldCount_140, terms_140, nodes_140, f_kinds_140, f_values_140, f_told_140, f_nodes_140, hat_a_140, hat_kinds_140, hat_values_140, hat_told_140, hat_nodes_140, hg_kinds_140, hg_values_140, hg_told_140, hg_nodes_140, hg_names_140, hf0_140, hf1_140⟩ := id he_110
            have hlt_names_140 := hX_110.2 _ _ hg_names_140
            have hrt_names_140 : jRoot G0 names_140 := ⟨_, _, hg_names_140, by omega⟩
            refine va_get (D := (dC, dI)) (ci := 12) (v := .int at_110) (C := RX10) (T := TX10) (N := 11) hx hb hts hin_12 hown hK (jp_one hat_a_140) 0 rfl rfl 4 (by decide) (hts (.fieldLink RX10 83 "ProofServer$Syntax" "at" "I") (by decide +kernel)) (fun _ h9 => h9) rfl dX10_isOne_157 ?_
            refine lv_iconst (v := 1) hx hb dX10_isOne_160 (by decide) ?_
            refine lv_iadd hx hb dX10_isOne_161 ?_
            refine lv_topi (fun z_141 ez_141 => ?_)
            have hz_141 : z_141.toInt = at_110.toInt + 1 := by rw [ez_141]; exact jb_iadd (rfl) ((by decide)) (by omega) (by omega)
            refine j_put (D := (dC, dI)) (ci := 12) (v := .int z_141) (ty := .int) (C := RX10) (T := TX10) (N := 11) (A := jA base) hx hb hts hin_12 tyX10 tyX10_ok nmX10 hown hK hat_a_140 (hX_110.2 _ _ hg_a).1 hS_110.2.2 rfl 4 (by decide) (hts (.fieldLink RX10 83 "ProofServer$Syntax" "at" "I") (by decide +kernel)) (fun _ h9 => h9) rfl (by decide +kernel) rfl rfl (Nat.le_of_ble_eq_true rfl) dX10_isOne_162 (fun H1 locs1 hat1 hsz1 hfr1 hT1 hL1 => ?_)
            have hX_143 := hX_110.put hB hg_a (by omega) jSup.root hm_a hsz1 hfr1
            have hM_143 := hM_110.put jExt.rf hrt_a jSup.root (by simp) hfr1
            have hz_143 := hsz1.trans hz_110
            have hT_143 := hT1.trans hT_110
            have hS_143 := jS_put hS_110 hsz1 hfr1 (hX_110.2 _ _ hg_a).1 hL1
            have hat_kinds_140_143 := hat_kinds_140.kept (hfr1 _ (jne hg_kinds_140 hg_a (by simp)))
            have hat_values_140_143 := hat_values_140.kept (hfr1 _ (jne hg_values_140 hg_a (by simp)))
            have hat_told_140_143 := hat_told_140.kept (hfr1 _ (jne hg_told_140 hg_a (by simp)))
            have hat_nodes_140_143 := hat_nodes_140.kept (hfr1 _ (jne hg_nodes_140 hg_a (by simp)))
            clear hfr1 hsz1 hT1 hL1
            have hat_a_143 : va_at (dC, dI) vwCl (a, .inr (12, [.ref names_140, .ref kinds_140, .ref values_140, .int tk_110, .int z_141, .int word_140, .ref told_140, .int toldCount_140, .int terms_140, .ref nodes_140, .int nc_110])) H1 := hat1
            clear hat1
            refine lv_iload_n hx hb dX10_isOne_165 rfl (lv_at hl 5 rfl) ?_
            refine lv_bipush (v := 12) hx hb dX10_isOne_166 (by decide) ?_
            refine lv_icmp_ge (tgt := 210) hx hb dX10_isOne_168 (by decide) (fun c_144 => ?_) (fun c_144 => ?_)
            · skip
              have c_144' : dp.toInt ≥ 12 := jb_ge (rfl) ((by decide)) c_144
              refine lv_iconst (v := 0) hx hb dX10_isOne_210 (by decide) ?_
              have he_145 : jB12e dC dI ca G0 a tk_110 z_141 nc_110 H1 := ⟨names_140, kinds_140, values_140, word_140, told_140, toldCount_140, terms_140, nodes_140, f_kinds_140, f_values_140, f_told_140, f_nodes_140, hat_a_143, hat_kinds_140_143, hat_values_140_143, hat_told_140_143, hat_nodes_140_143, hg_kinds_140, hg_values_140, hg_told_140, hg_nodes_140, hg_names_140, by first | omega | assumption | (simp; done) | exact Or.inl rfl | exact Or.inr rfl, by first | omega | assumption | (simp; done) | exact Or.inl rfl | exact Or.inr rfl⟩
              rw [hQ]
              exact W.zret (v := 0) hx hb hr (jb_nz (Or.inl rfl)) (fun t ht hW => ⟨⟨0, (tk_110, z_141, nc_110), rfl, ⟨(Or.inl rfl), by refine ⟨?_, ?_, ?_, ?_, ?_, ?_⟩ <;> first | rfl | omega | (left; omega) | (right; omega) | exact Or.inl ⟨by decide, rfl⟩ | (simp only; omega)⟩, by rw [ht]; try exact hX_143, by rw [ht]; try exact he_145, by rw [ht]; try exact hM_143, by rw [ht]; try exact hz_143, by rw [ht]; try exact hT_143⟩, by rw [ht]; try exact hS_143.1, fun q h9 hq => by rw [ht]; try exact hS_143.2.1 q h9 hq⟩) hS_143.2.2 dX10_isOne_211
            · skip
              have c_144' : dp.toInt < 12 := jb_ge_n (rfl) ((by decide)) c_144
              refine lv_iload hx hb dX10_isOne_171 (lv_at hl 1 rfl) ?_
              refine lv_iconst (v := 2) hx hb dX10_isOne_173 (by decide) ?_
              refine lv_icmp_le (tgt := 210) hx hb dX10_isOne_174 (by decide) (fun c_146 => ?_) (fun c_146 => ?_)
              · skip
                have c_146' : r_109.toInt ≤ 2 := jb_le (rfl) ((by decide)) c_146
                refine lv_iconst (v := 0) hx hb dX10_isOne_210 (by decide) ?_
                have he_147 : jB12e dC dI ca G0 a tk_110 z_141 nc_110 H1 := ⟨names_140, kinds_140, values_140, word_140, told_140, toldCount_140, terms_140, nodes_140, f_kinds_140, f_values_140, f_told_140, f_nodes_140, hat_a_143, hat_kinds_140_143, hat_values_140_143, hat_told_140_143, hat_nodes_140_143, hg_kinds_140, hg_values_140, hg_told_140, hg_nodes_140, hg_names_140, by first | omega | assumption | (simp; done) | exact Or.inl rfl | exact Or.inr rfl, by first | omega | assumption | (simp; done) | exact Or.inl rfl | exact Or.inr rfl⟩
                rw [hQ]
                exact W.zret (v := 0) hx hb hr (jb_nz (Or.inl rfl)) (fun t ht hW => ⟨⟨0, (tk_110, z_141, nc_110), rfl, ⟨(Or.inl rfl), by refine ⟨?_, ?_, ?_, ?_, ?_, ?_⟩ <;> first | rfl | omega | (left; omega) | (right; omega) | exact Or.inl ⟨by decide, rfl⟩ | (simp only; omega)⟩, by rw [ht]; try exact hX_143, by rw [ht]; try exact he_147, by rw [ht]; try exact hM_143, by rw [ht]; try exact hz_143, by rw [ht]; try exact hT_143⟩, by rw [ht]; try exact hS_143.1, fun q h9 hq => by rw [ht]; try exact hS_143.2.1 q h9 hq⟩) hS_143.2.2 dX10_isOne_211
              · skip
                have c_146' : r_109.toInt > 2 := jb_le_n (rfl) ((by decide)) c_146
                refine lv_aload_n hx hb dX10_isOne_177 rfl (lv_at hl 4 rfl) ?_
                refine lv_bipush (v := 44) hx hb dX10_isOne_178 (by decide) ?_
                have he_150 : jB12e dC dI ca G0 a tk_110 z_141 nc_110 H1 := ⟨names_140, kinds_140, values_140, word_140, told_140, toldCount_140, terms_140, nodes_140, f_kinds_140, f_values_140, f_told_140, f_nodes_140, hat_a_143, hat_kinds_140_143, hat_values_140_143, hat_told_140_143, hat_nodes_140_143, hg_kinds_140, hg_values_140, hg_told_140, hg_nodes_140, hg_names_140, by first | omega | assumption | (simp; done) | exact Or.inl rfl | exact Or.inr rfl, by first | omega | assumption | (simp; done) | exact Or.inl rfl | exact Or.inr rfl⟩
                refine va_calli (A0 := jA base) (H0 := s.heap) (va_runV (As := [.int 44]) (rest := []) ⟨hx, hb, hml, hown, hts⟩ (tX10_isSign l dC dI ca base B hB G0 X H1 a 44 tk_110 z_141 nc_110) (cwV 1 hts gX10_isOne_X10_isSign rfl rfl rfl (by decide +kernel) ⟨by rw [← hR]; show (0) + 1 ≤ 5 * ef + 5; omega, by rw [← hR]; show 8 + (3 + 11) + (0) ≤ 160 * ef + 200; omega⟩) ⟨fun a U g mk q => by obtain ⟨q0, q1, q2, qK, q9⟩ := q; exact ⟨q0, q1, q2, jG.calling g mk a qK, q9⟩, va_recv hK (jp_one hat_a_143) (ci := 12) (q0 := 0) rfl rfl, fun U hU hW => ⟨rfl, hU, hX_143, hG.step hW hU hS_143, hg_a, hm_a, he_150, by refine ⟨?_, ?_, ?_, ?_, ?_, ?_⟩ <;> omega⟩⟩ rfl rfl hl.1 rfl (lv_room (Nat.le_of_ble_eq_true rfl)) dX10_isOne_180 ⟨Nat.zero_le _, Nat.zero_le _⟩) hS_143 (fun q _ h => h) (fun q h => h) (fun r_148 u t H1 locs1 ht hvm hr_148 hBb hz1 hk1 hS_149 => ?_)
                obtain ⟨tk_149, at_149, nc_149⟩ := u
                obtain ⟨hX_149, he_149, hM_1490, hz_1490, hT_1490⟩ := hBb
                rw [ht] at hX_149 he_149 hM_1490 hz_1490 hT_1490
                simp only at hr_148 he_149
                have hM_149 := hM_143.tr0 hM_1490 hz_143 (by intro r; simp)
                have hz_149 := hz_1490.trans hz_143
                have hT_149 := hT_1490.trans hT_143
                clear hz1 hk1 hvm ht hM_1490 hz_1490 hT_1490
                obtain ⟨hr_148b, hr_148p⟩ := hr_148
                have hr_148' := jb_01 hr_148b
                refine lv_if_eq (tgt := 210) hx hb dX10_isOne_183 (by decide) (fun c_151 => ?_) (fun c_151 => ?_)
                · skip
                  have c_151' : r_148.toInt = 0 := jb_eq (rfl) ((by decide)) c_151
                  refine lv_iconst (v := 0) hx hb dX10_isOne_210 (by decide) ?_
                  rw [hQ]
                  exact W.zret (v := 0) hx hb hr (jb_nz (Or.inl rfl)) (fun t ht hW => ⟨⟨0, (tk_149, at_149, nc_149), rfl, ⟨(Or.inl rfl), by refine ⟨?_, ?_, ?_, ?_, ?_, ?_⟩ <;> first | rfl | omega | (left; omega) | (right; omega) | exact Or.inl ⟨by decide, rfl⟩ | (simp only; omega)⟩, by rw [ht]; try exact hX_149, by rw [ht]; try exact he_149, by rw [ht]; try exact hM_149, by rw [ht]; try exact hz_149, by rw [ht]; try exact hT_149⟩, by rw [ht]; try exact hS_149.1, fun q h9 hq => by rw [ht]; try exact hS_149.2.1 q h9 hq⟩) hS_149.2.2 dX10_isOne_211
                · skip
                  have c_151' : r_148.toInt ≠ 0 := jb_eq_n (rfl) ((by decide)) c_151
                  refine lv_aload_n hx hb dX10_isOne_186 rfl (lv_at hl 4 rfl) ?_
                  refine lv_iload hx hb dX10_isOne_187 (lv_at hl 0 rfl) ?_
                  obtain ⟨names_154, kinds_154, values_154, word_154, told_154, toldCount_154, terms_154, nodes_154, f_kinds_154, f_values_154, f_told_154, f_nodes_154, hat_a_154, hat_kinds_154, hat_values_154, hat_told_154, hat_nodes_154, hg_kinds_154, hg_values_154, hg_told_154, hg_nodes_154, hg_names_154, hf0_154, hf1_154⟩ := id he_149
                  have hlt_names_154 := hX_149.2 _ _ hg_names_154
                  have hrt_names_154 : jRoot G0 names_154 := ⟨_, _, hg_names_154, by omega⟩
                  have he_155 : jB12e dC dI ca G0 a tk_149 at_149 nc_149 H1 := ⟨names_154, kinds_154, values_154, word_154, told_154, toldCount_154, terms_154, nodes_154, f_kinds_154, f_values_154, f_told_154, f_nodes_154, hat_a_154, hat_kinds_154, hat_values_154, hat_told_154, hat_nodes_154, hg_kinds_154, hg_values_154, hg_told_154, hg_nodes_154, hg_names_154, by first | omega | assumption | (simp; done) | exact Or.inl rfl | exact Or.inr rfl, by first | omega | assumption | (simp; done) | exact Or.inl rfl | exact Or.inr rfl⟩
                  refine va_calli (A0 := jA base) (H0 := s.heap) (va_runV (As := [.int z_139]) (rest := []) ⟨hx, hb, hml, hown, hts⟩ (tX10_addNode l dC dI ca base B hB G0 X H1 a z_139 tk_149 at_149 nc_149) (cwV 1 hts gX10_isOne_X10_addNode rfl rfl rfl (by decide +kernel) ⟨by rw [← hR]; show (0) + 1 ≤ 5 * ef + 5; omega, by rw [← hR]; show 8 + (2 + 11) + (0) ≤ 160 * ef + 200; omega⟩) ⟨fun a U g mk q => by obtain ⟨q0, q1, q2, qK, q9⟩ := q; exact ⟨q0, q1, q2, jG.calling g mk a qK, q9⟩, va_recv hK (jp_one hat_a_154) (ci := 12) (q0 := 0) rfl rfl, fun U hU hW => ⟨rfl, hU, hX_149, hG.step hW hU hS_149, hg_a, hm_a, he_155, by refine ⟨?_, ?_, ?_, ?_, ?_, ?_⟩ <;> omega⟩⟩ rfl rfl hl.1 rfl (lv_room (Nat.le_of_ble_eq_true rfl)) dX10_isOne_189 ⟨Nat.zero_le _, Nat.zero_le _⟩) hS_149 (fun q _ h => h) (fun q h => h) (fun r_152 u t H1 locs1 ht hvm hr_152 hBb hz1 hk1 hS_153 => ?_)
                  obtain ⟨tk_153, at_153, nc_153⟩ := u
                  obtain ⟨hX_153, he_153, hM_1530, hz_1530, hT_1530⟩ := hBb
                  rw [ht] at hX_153 he_153 hM_1530 hz_1530 hT_1530
                  simp only at hr_152 he_153
                  have hM_153 := hM_149.tr0 hM_1530 hz_149 (by intro r; simp)
                  have hz_153 := hz_1530.trans hz_149
                  have hT_153 := hT_1530.trans hT_149
                  clear hz1 hk1 hvm ht hM_1530 hz_1530 hT_1530
                  obtain ⟨hr_152b, hr_152p⟩ := hr_152
                  have hr_152' := jb_01 hr_152b
                  refine lv_if_eq (tgt := 210) hx hb dX10_isOne_192 (by decide) (fun c_156 => ?_) (fun c_156 => ?_)
                  · skip
                    have c_156' : r_152.toInt = 0 := jb_eq (rfl) ((by decide)) c_156
                    refine lv_iconst (v := 0) hx hb dX10_isOne_210 (by decide) ?_
                    rw [hQ]
                    exact W.zret (v := 0) hx hb hr (jb_nz (Or.inl rfl)) (fun t ht hW => ⟨⟨0, (tk_153, at_153, nc_153), rfl, ⟨(Or.inl rfl), by refine ⟨?_, ?_, ?_, ?_, ?_, ?_⟩ <;> first | rfl | omega | (left; omega) | (right; omega) | exact Or.inl ⟨by decide, rfl⟩ | (simp only; omega)⟩, by rw [ht]; try exact hX_153, by rw [ht]; try exact he_153, by rw [ht]; try exact hM_153, by rw [ht]; try exact hz_153, by rw [ht]; try exact hT_153⟩, by rw [ht]; try exact hS_153.1, fun q h9 hq => by rw [ht]; try exact hS_153.2.1 q h9 hq⟩) hS_153.2.2 dX10_isOne_211
                  · skip
                    have c_156' : r_152.toInt ≠ 0 := jb_eq_n (rfl) ((by decide)) c_156
                    refine lv_aload_n hx hb dX10_isOne_195 rfl (lv_at hl 4 rfl) ?_
                    refine lv_iconst (v := 0) hx hb dX10_isOne_196 (by decide) ?_
                    refine lv_iload_n hx hb dX10_isOne_197 rfl (lv_at hl 5 rfl) ?_
                    refine lv_iconst (v := 1) hx hb dX10_isOne_198 (by decide) ?_
                    refine lv_iadd hx hb dX10_isOne_199 ?_
                    refine lv_topi (fun z_157 ez_157 => ?_)
                    have hz_157 : z_157.toInt = dp.toInt + 1 := by rw [ez_157]; exact jb_iadd (rfl) ((by decide)) (by omega) (by omega)
                    obtain ⟨names_160, kinds_160, values_160, word_160, told_160, toldCount_160, terms_160, nodes_160, f_kinds_160, f_values_160, f_told_160, f_nodes_160, hat_a_160, hat_kinds_160, hat_values_160, hat_told_160, hat_nodes_160, hg_kinds_160, hg_values_160, hg_told_160, hg_nodes_160, hg_names_160, hf0_160, hf1_160⟩ := id he_153
                    have hlt_names_160 := hX_153.2 _ _ hg_names_160
                    have hrt_names_160 : jRoot G0 names_160 := ⟨_, _, hg_names_160, by omega⟩
                    have he_161 : jB12e dC dI ca G0 a tk_153 at_153 nc_153 H1 := ⟨names_160, kinds_160, values_160, word_160, told_160, toldCount_160, terms_160, nodes_160, f_kinds_160, f_values_160, f_told_160, f_nodes_160, hat_a_160, hat_kinds_160, hat_values_160, hat_told_160, hat_nodes_160, hg_kinds_160, hg_values_160, hg_told_160, hg_nodes_160, hg_names_160, by first | omega | assumption | (simp; done) | exact Or.inl rfl | exact Or.inr rfl, by first | omega | assumption | (simp; done) | exact Or.inl rfl | exact Or.inr rfl⟩
                    refine va_calli (A0 := jA base) (H0 := s.heap) (va_runV (As := [.int 0, .int z_157]) (rest := []) ⟨hx, hb, hml, hown, hts⟩ (ihC (ef - 1) (by omega) G0 X H1 a 0 z_157 tk_153 at_153 nc_153) (cwV 2 hts gX10_isOne_X10_isChain rfl rfl rfl (by decide +kernel) ⟨by rw [← hR]; show (5 * (ef - 1) + 6 + 2) + 1 ≤ 5 * ef + 5; omega, by rw [← hR]; show 8 + (6 + 11) + (160 * (ef - 1) + 230 + 30 * 2) ≤ 160 * ef + 200; omega⟩) ⟨fun a U g mk q => by obtain ⟨q0, q1, q2, qK, q9⟩ := q; exact ⟨q0, q1, q2, jG.calling g mk a qK, q9⟩, va_recv hK (jp_one hat_a_160) (ci := 12) (q0 := 0) rfl rfl, fun U hU hW => ⟨rfl, hU, hX_153, hG.step hW hU hS_153, hg_a, hm_a, he_161, by refine ⟨?_, ?_, ?_, ?_, ?_, ?_, ?_, ?_, ?_, ?_⟩ <;> omega⟩⟩ rfl rfl hl.1 rfl (lv_room (Nat.le_of_ble_eq_true rfl)) dX10_isOne_200 ⟨Nat.zero_le _, Nat.zero_le _⟩) hS_153 (fun q _ h => h) (fun q h => h) (fun r_158 u t H1 locs1 ht hvm hr_158 hBb hz1 hk1 hS_159 => ?_)
                    obtain ⟨tk_159, at_159, nc_159⟩ := u
                    obtain ⟨hX_159, he_159, hM_1590, hz_1590, hT_1590⟩ := hBb
                    rw [ht] at hX_159 he_159 hM_1590 hz_1590 hT_1590
                    simp only at hr_158 he_159
                    have hM_159 := hM_153.tr0 hM_1590 hz_153 (by intro r; simp)
                    have hz_159 := hz_1590.trans hz_153
                    have hT_159 := hT_1590.trans hT_153
                    clear hz1 hk1 hvm ht hM_1590 hz_1590 hT_1590
                    obtain ⟨hr_158b, hr_158p⟩ := hr_158
                    have hr_158' := jb_01 hr_158b
                    refine lv_if_eq (tgt := 210) hx hb dX10_isOne_203 (by decide) (fun c_162 => ?_) (fun c_162 => ?_)
                    · skip
                      have c_162' : r_158.toInt = 0 := jb_eq (rfl) ((by decide)) c_162
                      refine lv_iconst (v := 0) hx hb dX10_isOne_210 (by decide) ?_
                      rw [hQ]
                      exact W.zret (v := 0) hx hb hr (jb_nz (Or.inl rfl)) (fun t ht hW => ⟨⟨0, (tk_159, at_159, nc_159), rfl, ⟨(Or.inl rfl), by refine ⟨?_, ?_, ?_, ?_, ?_, ?_⟩ <;> first | rfl | omega | (left; omega) | (right; omega) | exact Or.inl ⟨by decide, rfl⟩ | (simp only; omega)⟩, by rw [ht]; try exact hX_159, by rw [ht]; try exact he_159, by rw [ht]; try exact hM_159, by rw [ht]; try exact hz_159, by rw [ht]; try exact hT_159⟩, by rw [ht]; try exact hS_159.1, fun q h9 hq => by rw [ht]; try exact hS_159.2.1 q h9 hq⟩) hS_159.2.2 dX10_isOne_211
                    · skip
                      have c_162' : r_158.toInt ≠ 0 := jb_eq_n (rfl) ((by decide)) c_162
                      refine lv_iconst (v := 1) hx hb dX10_isOne_206 (by decide) ?_
                      refine lv_goto (tgt := 211) hx hb dX10_isOne_207 (by decide) ?_
                      rw [hQ]
                      exact W.zret (v := 1) hx hb hr (jb_nz (Or.inr rfl)) (fun t ht hW => ⟨⟨1, (tk_159, at_159, nc_159), rfl, ⟨(Or.inr rfl), by refine ⟨?_, ?_, ?_, ?_, ?_, ?_⟩ <;> first | rfl | omega | (left; omega) | (right; omega) | exact Or.inl ⟨by decide, rfl⟩ | (simp only; omega)⟩, by rw [ht]; try exact hX_159, by rw [ht]; try exact he_159, by rw [ht]; try exact hM_159, by rw [ht]; try exact hz_159, by rw [ht]; try exact hT_159⟩, by rw [ht]; try exact hS_159.1, fun q h9 hq => by rw [ht]; try exact hS_159.2.1 q h9 hq⟩) hS_159.2.2 dX10_isOne_211
    · skip
      have c_10' : r_1.toInt = 40 := jb_ne_n (rfl) ((by decide)) c_10
      refine lv_aload_n hx hb dX10_isOne_70 rfl (lv_at hl 2 rfl) ?_
      refine lv_dup hx hb dX10_isOne_71 rfl ?_
      obtain ⟨names_163, kinds_163, values_163, word_163, told_163, toldCount_163, terms_163, nodes_163, f_kinds_163, f_values_163, f_told_163, f_nodes_163, hat_a_163, hat_kinds_163, hat_values_163, hat_told_163, hat_nodes_163, hg_kinds_163, hg_values_163, hg_told_163, hg_nodes_163, hg_names_163, hf0_163, hf1_163⟩ := id he_6
      have hlt_names_163 := hX_6.2 _ _ hg_names_163
      have hrt_names_163 : jRoot G0 names_163 := ⟨_, _, hg_names_163, by omega⟩
      refine va_get (D := (dC, dI)) (ci := 12) (v := .int at_6) (C := RX10) (T := TX10) (N := 11) hx hb hts hin_12 hown hK (jp_one hat_a_163) 0 rfl rfl 4 (by decide) (hts (.fieldLink RX10 83 "ProofServer$Syntax" "at" "I") (by decide +kernel)) (fun _ h9 => h9) rfl dX10_isOne_72 ?_
      refine lv_iconst (v := 1) hx hb dX10_isOne_75 (by decide) ?_
      refine lv_iadd hx hb dX10_isOne_76 ?_
      refine lv_topi (fun z_164 ez_164 => ?_)
      have hz_164 : z_164.toInt = at_6.toInt + 1 := by rw [ez_164]; exact jb_iadd (rfl) ((by decide)) (by omega) (by omega)
      refine j_put (D := (dC, dI)) (ci := 12) (v := .int z_164) (ty := .int) (C := RX10) (T := TX10) (N := 11) (A := jA base) hx hb hts hin_12 tyX10 tyX10_ok nmX10 hown hK hat_a_163 (hX_6.2 _ _ hg_a).1 hS_6.2.2 rfl 4 (by decide) (hts (.fieldLink RX10 83 "ProofServer$Syntax" "at" "I") (by decide +kernel)) (fun _ h9 => h9) rfl (by decide +kernel) rfl rfl (Nat.le_of_ble_eq_true rfl) dX10_isOne_77 (fun H1 locs1 hat1 hsz1 hfr1 hT1 hL1 => ?_)
      have hX_166 := hX_6.put hB hg_a (by omega) jSup.root hm_a hsz1 hfr1
      have hM_166 := hM_6.put jExt.rf hrt_a jSup.root (by simp) hfr1
      have hz_166 := hsz1.trans hz_6
      have hT_166 := hT1.trans hT_6
      have hS_166 := jS_put hS_6 hsz1 hfr1 (hX_6.2 _ _ hg_a).1 hL1
      have hat_kinds_163_166 := hat_kinds_163.kept (hfr1 _ (jne hg_kinds_163 hg_a (by simp)))
      have hat_values_163_166 := hat_values_163.kept (hfr1 _ (jne hg_values_163 hg_a (by simp)))
      have hat_told_163_166 := hat_told_163.kept (hfr1 _ (jne hg_told_163 hg_a (by simp)))
      have hat_nodes_163_166 := hat_nodes_163.kept (hfr1 _ (jne hg_nodes_163 hg_a (by simp)))
      clear hfr1 hsz1 hT1 hL1
      have hat_a_166 : va_at (dC, dI) vwCl (a, .inr (12, [.ref names_163, .ref kinds_163, .ref values_163, .int tk_6, .int z_164, .int word_163, .ref told_163, .int toldCount_163, .int terms_163, .ref nodes_163, .int nc_6])) H1 := hat1
      clear hat1
      refine lv_iload_n hx hb dX10_isOne_80 rfl (lv_at hl 3 rfl) ?_
      refine lv_bipush (v := 12) hx hb dX10_isOne_81 (by decide) ?_
      refine lv_icmp_ge (tgt := 110) hx hb dX10_isOne_83 (by decide) (fun c_167 => ?_) (fun c_167 => ?_)
      · skip
        have c_167' : dp.toInt ≥ 12 := jb_ge (rfl) ((by decide)) c_167
        refine lv_iconst (v := 0) hx hb dX10_isOne_110 (by decide) ?_
        have he_168 : jB12e dC dI ca G0 a tk_6 z_164 nc_6 H1 := ⟨names_163, kinds_163, values_163, word_163, told_163, toldCount_163, terms_163, nodes_163, f_kinds_163, f_values_163, f_told_163, f_nodes_163, hat_a_166, hat_kinds_163_166, hat_values_163_166, hat_told_163_166, hat_nodes_163_166, hg_kinds_163, hg_values_163, hg_told_163, hg_nodes_163, hg_names_163, by first | omega | assumption | (simp; done) | exact Or.inl rfl | exact Or.inr rfl, by first | omega | assumption | (simp; done) | exact Or.inl rfl | exact Or.inr rfl⟩
        rw [hQ]
        exact W.zret (v := 0) hx hb hr (jb_nz (Or.inl rfl)) (fun t ht hW => ⟨⟨0, (tk_6, z_164, nc_6), rfl, ⟨(Or.inl rfl), by refine ⟨?_, ?_, ?_, ?_, ?_, ?_⟩ <;> first | rfl | omega | (left; omega) | (right; omega) | exact Or.inl ⟨by decide, rfl⟩ | (simp only; omega)⟩, by rw [ht]; try exact hX_166, by rw [ht]; try exact he_168, by rw [ht]; try exact hM_166, by rw [ht]; try exact hz_166, by rw [ht]; try exact hT_166⟩, by rw [ht]; try exact hS_166.1, fun q h9 hq => by rw [ht]; try exact hS_166.2.1 q h9 hq⟩) hS_166.2.2 dX10_isOne_111
      · skip
        have c_167' : dp.toInt < 12 := jb_ge_n (rfl) ((by decide)) c_167
        refine lv_aload_n hx hb dX10_isOne_86 rfl (lv_at hl 2 rfl) ?_
        refine lv_iconst (v := 0) hx hb dX10_isOne_87 (by decide) ?_
        refine lv_iload_n hx hb dX10_isOne_88 rfl (lv_at hl 3 rfl) ?_
        refine lv_iconst (v := 1) hx hb dX10_isOne_89 (by decide) ?_
        refine lv_iadd hx hb dX10_isOne_90 ?_
        refine lv_topi (fun z_169 ez_169 => ?_)
        have hz_169 : z_169.toInt = dp.toInt + 1 := by rw [ez_169]; exact jb_iadd (rfl) ((by decide)) (by omega) (by omega)
        have he_172 : jB12e dC dI ca G0 a tk_6 z_164 nc_6 H1 := ⟨names_163, kinds_163, values_163, word_163, told_163, toldCount_163, terms_163, nodes_163, f_kinds_163, f_values_163, f_told_163, f_nodes_163, hat_a_166, hat_kinds_163_166, hat_values_163_166, hat_told_163_166, hat_nodes_163_166, hg_kinds_163, hg_values_163, hg_told_163, hg_nodes_163, hg_names_163, by first | omega | assumption | (simp; done) | exact Or.inl rfl | exact Or.inr rfl, by first | omega | assumption | (simp; done) | exact Or.inl rfl | exact Or.inr rfl⟩
        refine va_calli (A0 := jA base) (H0 := s.heap) (va_runV (As := [.int 0, .int z_169]) (rest := []) ⟨hx, hb, hml, hown, hts⟩ (ihC (ef - 1) (by omega) G0 X H1 a 0 z_169 tk_6 z_164 nc_6) (cwV 2 hts gX10_isOne_X10_isChain rfl rfl rfl (by decide +kernel) ⟨by rw [← hR]; show (5 * (ef - 1) + 6 + 2) + 1 ≤ 5 * ef + 5; omega, by rw [← hR]; show 8 + (6 + 11) + (160 * (ef - 1) + 230 + 30 * 2) ≤ 160 * ef + 200; omega⟩) ⟨fun a U g mk q => by obtain ⟨q0, q1, q2, qK, q9⟩ := q; exact ⟨q0, q1, q2, jG.calling g mk a qK, q9⟩, va_recv hK (jp_one hat_a_166) (ci := 12) (q0 := 0) rfl rfl, fun U hU hW => ⟨rfl, hU, hX_166, hG.step hW hU hS_166, hg_a, hm_a, he_172, by refine ⟨?_, ?_, ?_, ?_, ?_, ?_, ?_, ?_, ?_, ?_⟩ <;> omega⟩⟩ rfl rfl hl.1 rfl (lv_room (Nat.le_of_ble_eq_true rfl)) dX10_isOne_91 ⟨Nat.zero_le _, Nat.zero_le _⟩) hS_166 (fun q _ h => h) (fun q h => h) (fun r_170 u t H1 locs1 ht hvm hr_170 hBb hz1 hk1 hS_171 => ?_)
        obtain ⟨tk_171, at_171, nc_171⟩ := u
        obtain ⟨hX_171, he_171, hM_1710, hz_1710, hT_1710⟩ := hBb
        rw [ht] at hX_171 he_171 hM_1710 hz_1710 hT_1710
        simp only at hr_170 he_171
        have hM_171 := hM_166.tr0 hM_1710 hz_166 (by intro r; simp)
        have hz_171 := hz_1710.trans hz_166
        have hT_171 := hT_1710.trans hT_166
        clear hz1 hk1 hvm ht hM_1710 hz_1710 hT_1710
        obtain ⟨hr_170b, hr_170p⟩ := hr_170
        have hr_170' := jb_01 hr_170b
        refine lv_if_eq (tgt := 110) hx hb dX10_isOne_94 (by decide) (fun c_173 => ?_) (fun c_173 => ?_)
        · skip
          have c_173' : r_170.toInt = 0 := jb_eq (rfl) ((by decide)) c_173
          refine lv_iconst (v := 0) hx hb dX10_isOne_110 (by decide) ?_
          rw [hQ]
          exact W.zret (v := 0) hx hb hr (jb_nz (Or.inl rfl)) (fun t ht hW => ⟨⟨0, (tk_171, at_171, nc_171), rfl, ⟨(Or.inl rfl), by refine ⟨?_, ?_, ?_, ?_, ?_, ?_⟩ <;> first | rfl | omega | (left; omega) | (right; omega) | exact Or.inl ⟨by decide, rfl⟩ | (simp only; omega)⟩, by rw [ht]; try exact hX_171, by rw [ht]; try exact he_171, by rw [ht]; try exact hM_171, by rw [ht]; try exact hz_171, by rw [ht]; try exact hT_171⟩, by rw [ht]; try exact hS_171.1, fun q h9 hq => by rw [ht]; try exact hS_171.2.1 q h9 hq⟩) hS_171.2.2 dX10_isOne_111
        · skip
          have c_173' : r_170.toInt ≠ 0 := jb_eq_n (rfl) ((by decide)) c_173
          refine lv_aload_n hx hb dX10_isOne_97 rfl (lv_at hl 2 rfl) ?_
          refine lv_bipush (v := 41) hx hb dX10_isOne_98 (by decide) ?_
          obtain ⟨names_176, kinds_176, values_176, word_176, told_176, toldCount_176, terms_176, nodes_176, f_kinds_176, f_values_176, f_told_176, f_nodes_176, hat_a_176, hat_kinds_176, hat_values_176, hat_told_176, hat_nodes_176, hg_kinds_176, hg_values_176, hg_told_176, hg_nodes_176, hg_names_176, hf0_176, hf1_176⟩ := id he_171
          have hlt_names_176 := hX_171.2 _ _ hg_names_176
          have hrt_names_176 : jRoot G0 names_176 := ⟨_, _, hg_names_176, by omega⟩
          have he_177 : jB12e dC dI ca G0 a tk_171 at_171 nc_171 H1 := ⟨names_176, kinds_176, values_176, word_176, told_176, toldCount_176, terms_176, nodes_176, f_kinds_176, f_values_176, f_told_176, f_nodes_176, hat_a_176, hat_kinds_176, hat_values_176, hat_told_176, hat_nodes_176, hg_kinds_176, hg_values_176, hg_told_176, hg_nodes_176, hg_names_176, by first | omega | assumption | (simp; done) | exact Or.inl rfl | exact Or.inr rfl, by first | omega | assumption | (simp; done) | exact Or.inl rfl | exact Or.inr rfl⟩
          refine va_calli (A0 := jA base) (H0 := s.heap) (va_runV (As := [.int 41]) (rest := []) ⟨hx, hb, hml, hown, hts⟩ (tX10_isSign l dC dI ca base B hB G0 X H1 a 41 tk_171 at_171 nc_171) (cwV 1 hts gX10_isOne_X10_isSign rfl rfl rfl (by decide +kernel) ⟨by rw [← hR]; show (0) + 1 ≤ 5 * ef + 5; omega, by rw [← hR]; show 8 + (3 + 11) + (0) ≤ 160 * ef + 200; omega⟩) ⟨fun a U g mk q => by obtain ⟨q0, q1, q2, qK, q9⟩ := q; exact ⟨q0, q1, q2, jG.calling g mk a qK, q9⟩, va_recv hK (jp_one hat_a_176) (ci := 12) (q0 := 0) rfl rfl, fun U hU hW => ⟨rfl, hU, hX_171, hG.step hW hU hS_171, hg_a, hm_a, he_177, by refine ⟨?_, ?_, ?_, ?_, ?_, ?_⟩ <;> omega⟩⟩ rfl rfl hl.1 rfl (lv_room (Nat.le_of_ble_eq_true rfl)) dX10_isOne_100 ⟨Nat.zero_le _, Nat.zero_le _⟩) hS_171 (fun q _ h => h) (fun q h => h) (fun r_174 u t H1 locs1 ht hvm hr_174 hBb hz1 hk1 hS_175 => ?_)
          obtain ⟨tk_175, at_175, nc_175⟩ := u
          obtain ⟨hX_175, he_175, hM_1750, hz_1750, hT_1750⟩ := hBb
          rw [ht] at hX_175 he_175 hM_1750 hz_1750 hT_1750
          simp only at hr_174 he_175
          have hM_175 := hM_171.tr0 hM_1750 hz_171 (by intro r; simp)
          have hz_175 := hz_1750.trans hz_171
          have hT_175 := hT_1750.trans hT_171
          clear hz1 hk1 hvm ht hM_1750 hz_1750 hT_1750
          obtain ⟨hr_174b, hr_174p⟩ := hr_174
          have hr_174' := jb_01 hr_174b
          refine lv_if_eq (tgt := 110) hx hb dX10_isOne_103 (by decide) (fun c_178 => ?_) (fun c_178 => ?_)
          · skip
            have c_178' : r_174.toInt = 0 := jb_eq (rfl) ((by decide)) c_178
            refine lv_iconst (v := 0) hx hb dX10_isOne_110 (by decide) ?_
            rw [hQ]
            exact W.zret (v := 0) hx hb hr (jb_nz (Or.inl rfl)) (fun t ht hW => ⟨⟨0, (tk_175, at_175, nc_175), rfl, ⟨(Or.inl rfl), by refine ⟨?_, ?_, ?_, ?_, ?_, ?_⟩ <;> first | rfl | omega | (left; omega) | (right; omega) | exact Or.inl ⟨by decide, rfl⟩ | (simp only; omega)⟩, by rw [ht]; try exact hX_175, by rw [ht]; try exact he_175, by rw [ht]; try exact hM_175, by rw [ht]; try exact hz_175, by rw [ht]; try exact hT_175⟩, by rw [ht]; try exact hS_175.1, fun q h9 hq => by rw [ht]; try exact hS_175.2.1 q h9 hq⟩) hS_175.2.2 dX10_isOne_111
          · skip
            have c_178' : r_174.toInt ≠ 0 := jb_eq_n (rfl) ((by decide)) c_178
            refine lv_iconst (v := 1) hx hb dX10_isOne_106 (by decide) ?_
            refine lv_goto (tgt := 111) hx hb dX10_isOne_107 (by decide) ?_
            rw [hQ]
            exact W.zret (v := 1) hx hb hr (jb_nz (Or.inr rfl)) (fun t ht hW => ⟨⟨1, (tk_175, at_175, nc_175), rfl, ⟨(Or.inr rfl), by refine ⟨?_, ?_, ?_, ?_, ?_, ?_⟩ <;> first | rfl | omega | (left; omega) | (right; omega) | exact Or.inl ⟨by decide, rfl⟩ | (simp only; omega)⟩, by rw [ht]; try exact hX_175, by rw [ht]; try exact he_175, by rw [ht]; try exact hM_175, by rw [ht]; try exact hz_175, by rw [ht]; try exact hT_175⟩, by rw [ht]; try exact hS_175.1, fun q h9 hq => by rw [ht]; try exact hS_175.2.1 q h9 hq⟩) hS_175.2.2 dX10_isOne_111
  · skip
    have c_9' : r_1.toInt = 126 := jb_ne_n (rfl) ((by decide)) c_9
    refine lv_aload_n hx hb dX10_isOne_16 rfl (lv_at hl 2 rfl) ?_
    refine lv_dup hx hb dX10_isOne_17 rfl ?_
    obtain ⟨names_179, kinds_179, values_179, word_179, told_179, toldCount_179, terms_179, nodes_179, f_kinds_179, f_values_179, f_told_179, f_nodes_179, hat_a_179, hat_kinds_179, hat_values_179, hat_told_179, hat_nodes_179, hg_kinds_179, hg_values_179, hg_told_179, hg_nodes_179, hg_names_179, hf0_179, hf1_179⟩ := id he_6
    have hlt_names_179 := hX_6.2 _ _ hg_names_179
    have hrt_names_179 : jRoot G0 names_179 := ⟨_, _, hg_names_179, by omega⟩
    refine va_get (D := (dC, dI)) (ci := 12) (v := .int at_6) (C := RX10) (T := TX10) (N := 11) hx hb hts hin_12 hown hK (jp_one hat_a_179) 0 rfl rfl 4 (by decide) (hts (.fieldLink RX10 83 "ProofServer$Syntax" "at" "I") (by decide +kernel)) (fun _ h9 => h9) rfl dX10_isOne_18 ?_
    refine lv_iconst (v := 1) hx hb dX10_isOne_21 (by decide) ?_
    refine lv_iadd hx hb dX10_isOne_22 ?_
    refine lv_topi (fun z_180 ez_180 => ?_)
    have hz_180 : z_180.toInt = at_6.toInt + 1 := by rw [ez_180]; exact jb_iadd (rfl) ((by decide)) (by omega) (by omega)
    refine j_put (D := (dC, dI)) (ci := 12) (v := .int z_180) (ty := .int) (C := RX10) (T := TX10) (N := 11) (A := jA base) hx hb hts hin_12 tyX10 tyX10_ok nmX10 hown hK hat_a_179 (hX_6.2 _ _ hg_a).1 hS_6.2.2 rfl 4 (by decide) (hts (.fieldLink RX10 83 "ProofServer$Syntax" "at" "I") (by decide +kernel)) (fun _ h9 => h9) rfl (by decide +kernel) rfl rfl (Nat.le_of_ble_eq_true rfl) dX10_isOne_23 (fun H1 locs1 hat1 hsz1 hfr1 hT1 hL1 => ?_)
    have hX_182 := hX_6.put hB hg_a (by omega) jSup.root hm_a hsz1 hfr1
    have hM_182 := hM_6.put jExt.rf hrt_a jSup.root (by simp) hfr1
    have hz_182 := hsz1.trans hz_6
    have hT_182 := hT1.trans hT_6
    have hS_182 := jS_put hS_6 hsz1 hfr1 (hX_6.2 _ _ hg_a).1 hL1
    have hat_kinds_179_182 := hat_kinds_179.kept (hfr1 _ (jne hg_kinds_179 hg_a (by simp)))
    have hat_values_179_182 := hat_values_179.kept (hfr1 _ (jne hg_values_179 hg_a (by simp)))
    have hat_told_179_182 := hat_told_179.kept (hfr1 _ (jne hg_told_179 hg_a (by simp)))
    have hat_nodes_179_182 := hat_nodes_179.kept (hfr1 _ (jne hg_nodes_179 hg_a (by simp)))
    clear hfr1 hsz1 hT1 hL1
    have hat_a_182 : va_at (dC, dI) vwCl (a, .inr (12, [.ref names_179, .ref kinds_179, .ref values_179, .int tk_6, .int z_180, .int word_179, .ref told_179, .int toldCount_179, .int terms_179, .ref nodes_179, .int nc_6])) H1 := hat1
    clear hat1
    refine lv_iload_n hx hb dX10_isOne_26 rfl (lv_at hl 3 rfl) ?_
    refine lv_bipush (v := 12) hx hb dX10_isOne_27 (by decide) ?_
    refine lv_icmp_ge (tgt := 62) hx hb dX10_isOne_29 (by decide) (fun c_183 => ?_) (fun c_183 => ?_)
    · skip
      have c_183' : dp.toInt ≥ 12 := jb_ge (rfl) ((by decide)) c_183
      refine lv_iconst (v := 0) hx hb dX10_isOne_62 (by decide) ?_
      have he_184 : jB12e dC dI ca G0 a tk_6 z_180 nc_6 H1 := ⟨names_179, kinds_179, values_179, word_179, told_179, toldCount_179, terms_179, nodes_179, f_kinds_179, f_values_179, f_told_179, f_nodes_179, hat_a_182, hat_kinds_179_182, hat_values_179_182, hat_told_179_182, hat_nodes_179_182, hg_kinds_179, hg_values_179, hg_told_179, hg_nodes_179, hg_names_179, by first | omega | assumption | (simp; done) | exact Or.inl rfl | exact Or.inr rfl, by first | omega | assumption | (simp; done) | exact Or.inl rfl | exact Or.inr rfl⟩
      rw [hQ]
      exact W.zret (v := 0) hx hb hr (jb_nz (Or.inl rfl)) (fun t ht hW => ⟨⟨0, (tk_6, z_180, nc_6), rfl, ⟨(Or.inl rfl), by refine ⟨?_, ?_, ?_, ?_, ?_, ?_⟩ <;> first | rfl | omega | (left; omega) | (right; omega) | exact Or.inl ⟨by decide, rfl⟩ | (simp only; omega)⟩, by rw [ht]; try exact hX_182, by rw [ht]; try exact he_184, by rw [ht]; try exact hM_182, by rw [ht]; try exact hz_182, by rw [ht]; try exact hT_182⟩, by rw [ht]; try exact hS_182.1, fun q h9 hq => by rw [ht]; try exact hS_182.2.1 q h9 hq⟩) hS_182.2.2 dX10_isOne_63
    · skip
      have c_183' : dp.toInt < 12 := jb_ge_n (rfl) ((by decide)) c_183
      refine lv_aload_n hx hb dX10_isOne_32 rfl (lv_at hl 2 rfl) ?_
      refine lv_iconst (v := 1) hx hb dX10_isOne_33 (by decide) ?_
      have he_187 : jB12e dC dI ca G0 a tk_6 z_180 nc_6 H1 := ⟨names_179, kinds_179, values_179, word_179, told_179, toldCount_179, terms_179, nodes_179, f_kinds_179, f_values_179, f_told_179, f_nodes_179, hat_a_182, hat_kinds_179_182, hat_values_179_182, hat_told_179_182, hat_nodes_179_182, hg_kinds_179, hg_values_179, hg_told_179, hg_nodes_179, hg_names_179, by first | omega | assumption | (simp; done) | exact Or.inl rfl | exact Or.inr rfl, by first | omega | assumption | (simp; done) | exact Or.inl rfl | exact Or.inr rfl⟩
      refine va_calli (A0 := jA base) (H0 := s.heap) (va_runV (As := [.int 1]) (rest := []) ⟨hx, hb, hml, hown, hts⟩ (tX10_addNode l dC dI ca base B hB G0 X H1 a 1 tk_6 z_180 nc_6) (cwV 1 hts gX10_isOne_X10_addNode rfl rfl rfl (by decide +kernel) ⟨by rw [← hR]; show (0) + 1 ≤ 5 * ef + 5; omega, by rw [← hR]; show 8 + (2 + 11) + (0) ≤ 160 * ef + 200; omega⟩) ⟨fun a U g mk q => by obtain ⟨q0, q1, q2, qK, q9⟩ := q; exact ⟨q0, q1, q2, jG.calling g mk a qK, q9⟩, va_recv hK (jp_one hat_a_182) (ci := 12) (q0 := 0) rfl rfl, fun U hU hW => ⟨rfl, hU, hX_182, hG.step hW hU hS_182, hg_a, hm_a, he_187, by refine ⟨?_, ?_, ?_, ?_, ?_, ?_⟩ <;> omega⟩⟩ rfl rfl hl.1 rfl (lv_room (Nat.le_of_ble_eq_true rfl)) dX10_isOne_34 ⟨Nat.zero_le _, Nat.zero_le _⟩) hS_182 (fun q _ h => h) (fun q h => h) (fun r_185 u t H1 locs1 ht hvm hr_185 hBb hz1 hk1 hS_186 => ?_)
      obtain ⟨tk_186, at_186, nc_186⟩ := u
      obtain ⟨hX_186, he_186, hM_1860, hz_1860, hT_1860⟩ := hBb
      rw [ht] at hX_186 he_186 hM_1860 hz_1860 hT_1860
      simp only at hr_185 he_186
      have hM_186 := hM_182.tr0 hM_1860 hz_182 (by intro r; simp)
      have hz_186 := hz_1860.trans hz_182
      have hT_186 := hT_1860.trans hT_182
      clear hz1 hk1 hvm ht hM_1860 hz_1860 hT_1860
      obtain ⟨hr_185b, hr_185p⟩ := hr_185
      have hr_185' := jb_01 hr_185b
      refine lv_if_eq (tgt := 62) hx hb dX10_isOne_37 (by decide) (fun c_188 => ?_) (fun c_188 => ?_)
      · skip
        have c_188' : r_185.toInt = 0 := jb_eq (rfl) ((by decide)) c_188
        refine lv_iconst (v := 0) hx hb dX10_isOne_62 (by decide) ?_
        rw [hQ]
        exact W.zret (v := 0) hx hb hr (jb_nz (Or.inl rfl)) (fun t ht hW => ⟨⟨0, (tk_186, at_186, nc_186), rfl, ⟨(Or.inl rfl), by refine ⟨?_, ?_, ?_, ?_, ?_, ?_⟩ <;> first | rfl | omega | (left; omega) | (right; omega) | exact Or.inl ⟨by decide, rfl⟩ | (simp only; omega)⟩, by rw [ht]; try exact hX_186, by rw [ht]; try exact he_186, by rw [ht]; try exact hM_186, by rw [ht]; try exact hz_186, by rw [ht]; try exact hT_186⟩, by rw [ht]; try exact hS_186.1, fun q h9 hq => by rw [ht]; try exact hS_186.2.1 q h9 hq⟩) hS_186.2.2 dX10_isOne_63
      · skip
        have c_188' : r_185.toInt ≠ 0 := jb_eq_n (rfl) ((by decide)) c_188
        refine lv_aload_n hx hb dX10_isOne_40 rfl (lv_at hl 2 rfl) ?_
        refine lv_iload_n hx hb dX10_isOne_41 rfl (lv_at hl 3 rfl) ?_
        refine lv_iconst (v := 1) hx hb dX10_isOne_42 (by decide) ?_
        refine lv_iadd hx hb dX10_isOne_43 ?_
        refine lv_topi (fun z_189 ez_189 => ?_)
        have hz_189 : z_189.toInt = dp.toInt + 1 := by rw [ez_189]; exact jb_iadd (rfl) ((by decide)) (by omega) (by omega)
        obtain ⟨names_192, kinds_192, values_192, word_192, told_192, toldCount_192, terms_192, nodes_192, f_kinds_192, f_values_192, f_told_192, f_nodes_192, hat_a_192, hat_kinds_192, hat_values_192, hat_told_192, hat_nodes_192, hg_kinds_192, hg_values_192, hg_told_192, hg_nodes_192, hg_names_192, hf0_192, hf1_192⟩ := id he_186
        have hlt_names_192 := hX_186.2 _ _ hg_names_192
        have hrt_names_192 : jRoot G0 names_192 := ⟨_, _, hg_names_192, by omega⟩
        have he_193 : jB12e dC dI ca G0 a tk_186 at_186 nc_186 H1 := ⟨names_192, kinds_192, values_192, word_192, told_192, toldCount_192, terms_192, nodes_192, f_kinds_192, f_values_192, f_told_192, f_nodes_192, hat_a_192, hat_kinds_192, hat_values_192, hat_told_192, hat_nodes_192, hg_kinds_192, hg_values_192, hg_told_192, hg_nodes_192, hg_names_192, by first | omega | assumption | (simp; done) | exact Or.inl rfl | exact Or.inr rfl, by first | omega | assumption | (simp; done) | exact Or.inl rfl | exact Or.inr rfl⟩
        refine va_calli (A0 := jA base) (H0 := s.heap) (va_runV (As := [.int z_189]) (rest := []) ⟨hx, hb, hml, hown, hts⟩ (ihO (ef - 1) (by omega) G0 X H1 a z_189 tk_186 at_186 nc_186) (cwV 1 hts gX10_isOne_X10_isOne rfl rfl rfl (by decide +kernel) ⟨by rw [← hR]; show (5 * (ef - 1) + 5) + 1 ≤ 5 * ef + 5; omega, by rw [← hR]; show 8 + (6 + 11) + (160 * (ef - 1) + 200) ≤ 160 * ef + 200; omega⟩) ⟨fun a U g mk q => by obtain ⟨q0, q1, q2, qK, q9⟩ := q; exact ⟨q0, q1, q2, jG.calling g mk a qK, q9⟩, va_recv hK (jp_one hat_a_192) (ci := 12) (q0 := 0) rfl rfl, fun U hU hW => ⟨rfl, hU, hX_186, hG.step hW hU hS_186, hg_a, hm_a, he_193, by refine ⟨?_, ?_, ?_, ?_, ?_, ?_, ?_, ?_⟩ <;> omega⟩⟩ rfl rfl hl.1 rfl (lv_room (Nat.le_of_ble_eq_true rfl)) dX10_isOne_44 ⟨Nat.zero_le _, Nat.zero_le _⟩) hS_186 (fun q _ h => h) (fun q h => h) (fun r_190 u t H1 locs1 ht hvm hr_190 hBb hz1 hk1 hS_191 => ?_)
        obtain ⟨tk_191, at_191, nc_191⟩ := u
        obtain ⟨hX_191, he_191, hM_1910, hz_1910, hT_1910⟩ := hBb
        rw [ht] at hX_191 he_191 hM_1910 hz_1910 hT_1910
        simp only at hr_190 he_191
        have hM_191 := hM_186.tr0 hM_1910 hz_186 (by intro r; simp)
        have hz_191 := hz_1910.trans hz_186
        have hT_191 := hT_1910.trans hT_186
        clear hz1 hk1 hvm ht hM_1910 hz_1910 hT_1910
        obtain ⟨hr_190b, hr_190p⟩ := hr_190
        have hr_190' := jb_01 hr_190b
        refine lv_if_eq (tgt := 62) hx hb dX10_isOne_47 (by decide) (fun c_194 => ?_) (fun c_194 => ?_)
        · skip
          have c_194' : r_190.toInt = 0 := jb_eq (rfl) ((by decide)) c_194
          refine lv_iconst (v := 0) hx hb dX10_isOne_62 (by decide) ?_
          rw [hQ]
          exact W.zret (v := 0) hx hb hr (jb_nz (Or.inl rfl)) (fun t ht hW => ⟨⟨0, (tk_191, at_191, nc_191), rfl, ⟨(Or.inl rfl), by refine ⟨?_, ?_, ?_, ?_, ?_, ?_⟩ <;> first | rfl | omega | (left; omega) | (right; omega) | exact Or.inl ⟨by decide, rfl⟩ | (simp only; omega)⟩, by rw [ht]; try exact hX_191, by rw [ht]; try exact he_191, by rw [ht]; try exact hM_191, by rw [ht]; try exact hz_191, by rw [ht]; try exact hT_191⟩, by rw [ht]; try exact hS_191.1, fun q h9 hq => by rw [ht]; try exact hS_191.2.1 q h9 hq⟩) hS_191.2.2 dX10_isOne_63
        · skip
          have c_194' : r_190.toInt ≠ 0 := jb_eq_n (rfl) ((by decide)) c_194
          refine lv_aload_n hx hb dX10_isOne_50 rfl (lv_at hl 2 rfl) ?_
          refine lv_iconst (v := 0) hx hb dX10_isOne_51 (by decide) ?_
          obtain ⟨names_197, kinds_197, values_197, word_197, told_197, toldCount_197, terms_197, nodes_197, f_kinds_197, f_values_197, f_told_197, f_nodes_197, hat_a_197, hat_kinds_197, hat_values_197, hat_told_197, hat_nodes_197, hg_kinds_197, hg_values_197, hg_told_197, hg_nodes_197, hg_names_197, hf0_197, hf1_197⟩ := id he_191
          have hlt_names_197 := hX_191.2 _ _ hg_names_197
          have hrt_names_197 : jRoot G0 names_197 := ⟨_, _, hg_names_197, by omega⟩
          have he_198 : jB12e dC dI ca G0 a tk_191 at_191 nc_191 H1 := ⟨names_197, kinds_197, values_197, word_197, told_197, toldCount_197, terms_197, nodes_197, f_kinds_197, f_values_197, f_told_197, f_nodes_197, hat_a_197, hat_kinds_197, hat_values_197, hat_told_197, hat_nodes_197, hg_kinds_197, hg_values_197, hg_told_197, hg_nodes_197, hg_names_197, by first | omega | assumption | (simp; done) | exact Or.inl rfl | exact Or.inr rfl, by first | omega | assumption | (simp; done) | exact Or.inl rfl | exact Or.inr rfl⟩
          refine va_calli (A0 := jA base) (H0 := s.heap) (va_runV (As := [.int 0]) (rest := []) ⟨hx, hb, hml, hown, hts⟩ (tX10_addNode l dC dI ca base B hB G0 X H1 a 0 tk_191 at_191 nc_191) (cwV 1 hts gX10_isOne_X10_addNode rfl rfl rfl (by decide +kernel) ⟨by rw [← hR]; show (0) + 1 ≤ 5 * ef + 5; omega, by rw [← hR]; show 8 + (2 + 11) + (0) ≤ 160 * ef + 200; omega⟩) ⟨fun a U g mk q => by obtain ⟨q0, q1, q2, qK, q9⟩ := q; exact ⟨q0, q1, q2, jG.calling g mk a qK, q9⟩, va_recv hK (jp_one hat_a_197) (ci := 12) (q0 := 0) rfl rfl, fun U hU hW => ⟨rfl, hU, hX_191, hG.step hW hU hS_191, hg_a, hm_a, he_198, by refine ⟨?_, ?_, ?_, ?_, ?_, ?_⟩ <;> omega⟩⟩ rfl rfl hl.1 rfl (lv_room (Nat.le_of_ble_eq_true rfl)) dX10_isOne_52 ⟨Nat.zero_le _, Nat.zero_le _⟩) hS_191 (fun q _ h => h) (fun q h => h) (fun r_195 u t H1 locs1 ht hvm hr_195 hBb hz1 hk1 hS_196 => ?_)
          obtain ⟨tk_196, at_196, nc_196⟩ := u
          obtain ⟨hX_196, he_196, hM_1960, hz_1960, hT_1960⟩ := hBb
          rw [ht] at hX_196 he_196 hM_1960 hz_1960 hT_1960
          simp only at hr_195 he_196
          have hM_196 := hM_191.tr0 hM_1960 hz_191 (by intro r; simp)
          have hz_196 := hz_1960.trans hz_191
          have hT_196 := hT_1960.trans hT_191
          clear hz1 hk1 hvm ht hM_1960 hz_1960 hT_1960
          obtain ⟨hr_195b, hr_195p⟩ := hr_195
          have hr_195' := jb_01 hr_195b
          refine lv_if_eq (tgt := 62) hx hb dX10_isOne_55 (by decide) (fun c_199 => ?_) (fun c_199 => ?_)
          · skip
            have c_199' : r_195.toInt = 0 := jb_eq (rfl) ((by decide)) c_199
            refine lv_iconst (v := 0) hx hb dX10_isOne_62 (by decide) ?_
            rw [hQ]
            exact W.zret (v := 0) hx hb hr (jb_nz (Or.inl rfl)) (fun t ht hW => ⟨⟨0, (tk_196, at_196, nc_196), rfl, ⟨(Or.inl rfl), by refine ⟨?_, ?_, ?_, ?_, ?_, ?_⟩ <;> first | rfl | omega | (left; omega) | (right; omega) | exact Or.inl ⟨by decide, rfl⟩ | (simp only; omega)⟩, by rw [ht]; try exact hX_196, by rw [ht]; try exact he_196, by rw [ht]; try exact hM_196, by rw [ht]; try exact hz_196, by rw [ht]; try exact hT_196⟩, by rw [ht]; try exact hS_196.1, fun q h9 hq => by rw [ht]; try exact hS_196.2.1 q h9 hq⟩) hS_196.2.2 dX10_isOne_63
          · skip
            have c_199' : r_195.toInt ≠ 0 := jb_eq_n (rfl) ((by decide)) c_199
            refine lv_iconst (v := 1) hx hb dX10_isOne_58 (by decide) ?_
            refine lv_goto (tgt := 63) hx hb dX10_isOne_59 (by decide) ?_
            rw [hQ]
            exact W.zret (v := 1) hx hb hr (jb_nz (Or.inr rfl)) (fun t ht hW => ⟨⟨1, (tk_196, at_196, nc_196), rfl, ⟨(Or.inr rfl), by refine ⟨?_, ?_, ?_, ?_, ?_, ?_⟩ <;> first | rfl | omega | (left; omega) | (right; omega) | exact Or.inl ⟨by decide, rfl⟩ | (simp only; omega)⟩, by rw [ht]; try exact hX_196, by rw [ht]; try exact he_196, by rw [ht]; try exact hM_196, by rw [ht]; try exact hz_196, by rw [ht]; try exact hT_196⟩, by rw [ht]; try exact hS_196.1, fun q h9 hq => by rw [ht]; try exact hS_196.2.1 q h9 hq⟩) hS_196.2.2 dX10_isOne_63
