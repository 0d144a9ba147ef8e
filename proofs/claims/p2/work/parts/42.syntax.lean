abbrev cX10_isChain : ByteArray := prog_12_method_13_code
def yX10_isChain : MethodName := ⟨RX10, "isChain", "(II)Z"⟩
abbrev cX10_isOne : ByteArray := prog_12_method_14_code
def yX10_isOne : MethodName := ⟨RX10, "isOne", "(I)Z"⟩
def wsX10_isChain_r1 : List Cond := [Cond.fieldLink RX10 122 "ProofServer$Syntax" "CHAIN_SIGNS" "[I", Cond.fieldLink RX10 89 "ProofServer$Syntax" "nodeCount" "I", Cond.fieldLink RX10 83 "ProofServer$Syntax" "at" "I", Cond.fieldLink RX10 128 "ProofServer$Syntax" "CHAIN_NODES" "[I", Cond.methodLink RX10 125 yX10_isOne, Cond.instanceMethod yX10_isOne, Cond.selects RX10 yX10_isOne yX10_isOne, Cond.initialized RX10, Cond.methodLink RX10 108 yX10_isChain, Cond.instanceMethod yX10_isChain, Cond.selects RX10 yX10_isChain yX10_isChain, Cond.methodLink RX10 115 yX10_peek, Cond.instanceMethod yX10_peek, Cond.selects RX10 yX10_peek yX10_peek, Cond.code yX10_peek cX10_peek 1 (some .int), Cond.fieldLink RX10 28 "ProofServer$Syntax" "tokens" "I", Cond.fieldLink RX10 9 "ProofServer$Syntax" "kinds" "[I", Cond.methodLink RX10 131 yX10_insertNode, Cond.instanceMethod yX10_insertNode, Cond.selects RX10 yX10_insertNode yX10_insertNode, Cond.code yX10_insertNode cX10_insertNode 4 (some .boolean), Cond.fieldLink RX10 21 "ProofServer$Syntax" "nodes" "[I", Cond.code yX10_isOne cX10_isOne 6 (some .boolean), Cond.methodLink RX10 119 yX10_peekName]
def wsX10_isChain_r2 : List Cond := [Cond.instanceMethod yX10_peekName, Cond.selects RX10 yX10_peekName yX10_peekName, Cond.code yX10_peekName cX10_peekName 1 (some .int), Cond.fieldLink RX10 15 "ProofServer$Syntax" "values" "[I", Cond.methodLink RX10 134 yX10_addNode, Cond.instanceMethod yX10_addNode, Cond.selects RX10 yX10_addNode yX10_addNode, Cond.code yX10_addNode cX10_addNode 2 (some .boolean), Cond.methodLink RX10 105 yX10_isSign, Cond.instanceMethod yX10_isSign, Cond.selects RX10 yX10_isSign yX10_isSign, Cond.code yX10_isSign cX10_isSign 3 (some .boolean), Cond.methodLink RX10 112 yX10_isTerm, Cond.instanceMethod yX10_isTerm, Cond.selects RX10 yX10_isTerm yX10_isTerm, Cond.code yX10_isTerm cX10_isTerm 6 (some .boolean)]
def wsX10_isChain : List Cond := .code yX10_isChain cX10_isChain 6 (some .boolean) :: ((wsX10_isChain_r1 ++ wsX10_isChain_r2) ++ wsX100)
def wsX10_isOne_r1 : List Cond := [Cond.fieldLink RX10 83 "ProofServer$Syntax" "at" "I", Cond.fieldLink RX10 89 "ProofServer$Syntax" "nodeCount" "I", Cond.fieldLink RX10 21 "ProofServer$Syntax" "nodes" "[I", Cond.methodLink RX10 115 yX10_peek, Cond.instanceMethod yX10_peek, Cond.selects RX10 yX10_peek yX10_peek, Cond.initialized RX10, Cond.code yX10_peek cX10_peek 1 (some .int), Cond.fieldLink RX10 28 "ProofServer$Syntax" "tokens" "I", Cond.fieldLink RX10 9 "ProofServer$Syntax" "kinds" "[I", Cond.methodLink RX10 119 yX10_peekName, Cond.instanceMethod yX10_peekName, Cond.selects RX10 yX10_peekName yX10_peekName, Cond.code yX10_peekName cX10_peekName 1 (some .int), Cond.fieldLink RX10 15 "ProofServer$Syntax" "values" "[I", Cond.methodLink RX10 134 yX10_addNode, Cond.instanceMethod yX10_addNode, Cond.selects RX10 yX10_addNode yX10_addNode, Cond.code yX10_addNode cX10_addNode 2 (some .boolean), Cond.methodLink RX10 125 yX10_isOne, Cond.instanceMethod yX10_isOne, Cond.selects RX10 yX10_isOne yX10_isOne, Cond.methodLink RX10 108 yX10_isChain, Cond.instanceMethod yX10_isChain]
def wsX10_isOne_r2 : List Cond := [Cond.selects RX10 yX10_isChain yX10_isChain, Cond.methodLink RX10 105 yX10_isSign, Cond.instanceMethod yX10_isSign, Cond.selects RX10 yX10_isSign yX10_isSign, Cond.code yX10_isSign cX10_isSign 3 (some .boolean), Cond.methodLink RX10 112 yX10_isTerm, Cond.instanceMethod yX10_isTerm, Cond.selects RX10 yX10_isTerm yX10_isTerm, Cond.code yX10_isTerm cX10_isTerm 6 (some .boolean), Cond.methodLink RX10 131 yX10_insertNode, Cond.instanceMethod yX10_insertNode, Cond.selects RX10 yX10_insertNode yX10_insertNode, Cond.code yX10_insertNode cX10_insertNode 4 (some .boolean), Cond.code yX10_isChain cX10_isChain 6 (some .boolean), Cond.fieldLink RX10 122 "ProofServer$Syntax" "CHAIN_SIGNS" "[I", Cond.fieldLink RX10 128 "ProofServer$Syntax" "CHAIN_NODES" "[I"]
def wsX10_isOne : List Cond := .code yX10_isOne cX10_isOne 6 (some .boolean) :: ((wsX10_isOne_r1 ++ wsX10_isOne_r2) ++ wsX100)
set_option maxRecDepth 20000 in
theorem ggX10_isOne_X10_peek : GoodIn wsX10_isOne wsX10_peek := goodIn_r _ [8, 1, 9, 10, 41, 42, 43, 44, 45, 46, 47, 48, 49, 50, 51] (by decide +kernel) (by decide +kernel)
set_option maxRecDepth 20000 in
theorem gX10_isOne_X10_peek : GoodIn wsX10_isOne (wsV RX10 115 RX10 yX10_peek wsX10_peek) := goodIn_app (goodIn_of _ (by decide +kernel)) ggX10_isOne_X10_peek
set_option maxRecDepth 20000 in
theorem ggX10_isOne_X10_peekName : GoodIn wsX10_isOne wsX10_peekName := goodIn_r _ [14, 15, 1, 4, 5, 6, 7, 8, 9, 10, 41, 42, 43, 44, 45, 46, 47, 48, 49, 50, 51] (by decide +kernel) (by decide +kernel)
set_option maxRecDepth 20000 in
theorem gX10_isOne_X10_peekName : GoodIn wsX10_isOne (wsV RX10 119 RX10 yX10_peekName wsX10_peekName) := goodIn_app (goodIn_of _ (by decide +kernel)) ggX10_isOne_X10_peekName
set_option maxRecDepth 20000 in
theorem ggX10_isOne_X10_addNode : GoodIn wsX10_isOne wsX10_addNode := goodIn_r _ [19, 2, 3, 41, 42, 43, 44, 45, 46, 47, 48, 49, 50, 51] (by decide +kernel) (by decide +kernel)
set_option maxRecDepth 20000 in
theorem gX10_isOne_X10_addNode : GoodIn wsX10_isOne (wsV RX10 134 RX10 yX10_addNode wsX10_addNode) := goodIn_app (goodIn_of _ (by decide +kernel)) ggX10_isOne_X10_addNode
set_option maxRecDepth 20000 in
theorem ggX10_isOne_X10_isOne : GoodIn wsX10_isOne wsX10_isOne := goodIn_r _ [0, 1, 2, 3, 4, 5, 6, 7, 8, 9, 10, 11, 12, 13, 14, 15, 16, 17, 18, 19, 20, 21, 22, 23, 24, 25, 26, 27, 28, 29, 30, 31, 32, 33, 34, 35, 36, 37, 38, 39, 40, 41, 42, 43, 44, 45, 46, 47, 48, 49, 50, 51] (by decide +kernel) (by decide +kernel)
set_option maxRecDepth 20000 in
theorem gX10_isOne_X10_isOne : GoodIn wsX10_isOne (wsV RX10 125 RX10 yX10_isOne wsX10_isOne) := goodIn_app (goodIn_of _ (by decide +kernel)) ggX10_isOne_X10_isOne
set_option maxRecDepth 20000 in
theorem ggX10_isOne_X10_isChain : GoodIn wsX10_isOne wsX10_isChain := goodIn_r _ [38, 39, 2, 1, 40, 20, 21, 22, 7, 23, 24, 25, 4, 5, 6, 8, 9, 10, 34, 35, 36, 37, 3, 0, 11, 12, 13, 14, 15, 16, 17, 18, 19, 26, 27, 28, 29, 30, 31, 32, 33, 41, 42, 43, 44, 45, 46, 47, 48, 49, 50, 51] (by decide +kernel) (by decide +kernel)
set_option maxRecDepth 20000 in
theorem gX10_isOne_X10_isChain : GoodIn wsX10_isOne (wsV RX10 108 RX10 yX10_isChain wsX10_isChain) := goodIn_app (goodIn_of _ (by decide +kernel)) ggX10_isOne_X10_isChain
set_option maxRecDepth 20000 in
theorem ggX10_isOne_X10_isSign : GoodIn wsX10_isOne wsX10_isSign := goodIn_r _ [29, 1, 9, 10, 41, 42, 43, 44, 45, 46, 47, 48, 49, 50, 51] (by decide +kernel) (by decide +kernel)
set_option maxRecDepth 20000 in
theorem gX10_isOne_X10_isSign : GoodIn wsX10_isOne (wsV RX10 105 RX10 yX10_isSign wsX10_isSign) := goodIn_app (goodIn_of _ (by decide +kernel)) ggX10_isOne_X10_isSign
set_option maxRecDepth 20000 in
theorem ggX10_isOne_X10_isTerm : GoodIn wsX10_isOne wsX10_isTerm := goodIn_r _ [33, 2, 1, 3, 11, 12, 13, 7, 14, 15, 4, 5, 6, 8, 9, 10, 16, 17, 18, 19, 30, 31, 32, 26, 27, 28, 29, 41, 42, 43, 44, 45, 46, 47, 48, 49, 50, 51] (by decide +kernel) (by decide +kernel)
set_option maxRecDepth 20000 in
theorem gX10_isOne_X10_isTerm : GoodIn wsX10_isOne (wsV RX10 112 RX10 yX10_isTerm wsX10_isTerm) := goodIn_app (goodIn_of _ (by decide +kernel)) ggX10_isOne_X10_isTerm
set_option maxRecDepth 20000 in
theorem ggX10_isOne_X10_insertNode : GoodIn wsX10_isOne wsX10_insertNode := goodIn_r _ [37, 2, 3, 41, 42, 43, 44, 45, 46, 47, 48, 49, 50, 51] (by decide +kernel) (by decide +kernel)
set_option maxRecDepth 20000 in
theorem gX10_isOne_X10_insertNode : GoodIn wsX10_isOne (wsV RX10 131 RX10 yX10_insertNode wsX10_insertNode) := goodIn_app (goodIn_of _ (by decide +kernel)) ggX10_isOne_X10_insertNode
theorem dX10_isOne_0 : decode cX10_isOne 0 = .ok (.aload_n 0, 1) := by decide +kernel
theorem dX10_isOne_1 : decode cX10_isOne 1 = .ok (.invokevirtual 115, 3) := by decide +kernel
theorem dX10_isOne_4 : decode cX10_isOne 4 = .ok (.istore_n 2, 1) := by decide +kernel
theorem dX10_isOne_5 : decode cX10_isOne 5 = .ok (.aload_n 0, 1) := by decide +kernel
theorem dX10_isOne_6 : decode cX10_isOne 6 = .ok (.invokevirtual 119, 3) := by decide +kernel
theorem dX10_isOne_9 : decode cX10_isOne 9 = .ok (.istore_n 3, 1) := by decide +kernel
theorem dX10_isOne_10 : decode cX10_isOne 10 = .ok (.iload_n 2, 1) := by decide +kernel
theorem dX10_isOne_11 : decode cX10_isOne 11 = .ok (.bipush 126, 2) := by decide +kernel
theorem dX10_isOne_13 : decode cX10_isOne 13 = .ok (.if_icmp .ne 51, 3) := by decide +kernel
theorem dX10_isOne_16 : decode cX10_isOne 16 = .ok (.aload_n 0, 1) := by decide +kernel
theorem dX10_isOne_17 : decode cX10_isOne 17 = .ok (.dup, 1) := by decide +kernel
theorem dX10_isOne_18 : decode cX10_isOne 18 = .ok (.getfield 83, 3) := by decide +kernel
theorem dX10_isOne_21 : decode cX10_isOne 21 = .ok (.iconst 1, 1) := by decide +kernel
theorem dX10_isOne_22 : decode cX10_isOne 22 = .ok (.iadd, 1) := by decide +kernel
theorem dX10_isOne_23 : decode cX10_isOne 23 = .ok (.putfield 83, 3) := by decide +kernel
theorem dX10_isOne_26 : decode cX10_isOne 26 = .ok (.iload_n 1, 1) := by decide +kernel
theorem dX10_isOne_27 : decode cX10_isOne 27 = .ok (.bipush 12, 2) := by decide +kernel
theorem dX10_isOne_29 : decode cX10_isOne 29 = .ok (.if_icmp .ge 33, 3) := by decide +kernel
theorem dX10_isOne_32 : decode cX10_isOne 32 = .ok (.aload_n 0, 1) := by decide +kernel
theorem dX10_isOne_33 : decode cX10_isOne 33 = .ok (.iconst 1, 1) := by decide +kernel
theorem dX10_isOne_34 : decode cX10_isOne 34 = .ok (.invokevirtual 134, 3) := by decide +kernel
theorem dX10_isOne_37 : decode cX10_isOne 37 = .ok (.ifCond .eq 25, 3) := by decide +kernel
theorem dX10_isOne_40 : decode cX10_isOne 40 = .ok (.aload_n 0, 1) := by decide +kernel
theorem dX10_isOne_41 : decode cX10_isOne 41 = .ok (.iload_n 1, 1) := by decide +kernel
theorem dX10_isOne_42 : decode cX10_isOne 42 = .ok (.iconst 1, 1) := by decide +kernel
theorem dX10_isOne_43 : decode cX10_isOne 43 = .ok (.iadd, 1) := by decide +kernel
theorem dX10_isOne_44 : decode cX10_isOne 44 = .ok (.invokevirtual 125, 3) := by decide +kernel
theorem dX10_isOne_47 : decode cX10_isOne 47 = .ok (.ifCond .eq 15, 3) := by decide +kernel
theorem dX10_isOne_50 : decode cX10_isOne 50 = .ok (.aload_n 0, 1) := by decide +kernel
theorem dX10_isOne_51 : decode cX10_isOne 51 = .ok (.iconst 0, 1) := by decide +kernel
theorem dX10_isOne_52 : decode cX10_isOne 52 = .ok (.invokevirtual 134, 3) := by decide +kernel
theorem dX10_isOne_55 : decode cX10_isOne 55 = .ok (.ifCond .eq 7, 3) := by decide +kernel
theorem dX10_isOne_58 : decode cX10_isOne 58 = .ok (.iconst 1, 1) := by decide +kernel
theorem dX10_isOne_59 : decode cX10_isOne 59 = .ok (.goto 4, 3) := by decide +kernel
theorem dX10_isOne_62 : decode cX10_isOne 62 = .ok (.iconst 0, 1) := by decide +kernel
theorem dX10_isOne_63 : decode cX10_isOne 63 = .ok (.ireturn, 1) := by decide +kernel
theorem dX10_isOne_64 : decode cX10_isOne 64 = .ok (.iload_n 2, 1) := by decide +kernel
theorem dX10_isOne_65 : decode cX10_isOne 65 = .ok (.bipush 40, 2) := by decide +kernel
theorem dX10_isOne_67 : decode cX10_isOne 67 = .ok (.if_icmp .ne 45, 3) := by decide +kernel
theorem dX10_isOne_70 : decode cX10_isOne 70 = .ok (.aload_n 0, 1) := by decide +kernel
theorem dX10_isOne_71 : decode cX10_isOne 71 = .ok (.dup, 1) := by decide +kernel
theorem dX10_isOne_72 : decode cX10_isOne 72 = .ok (.getfield 83, 3) := by decide +kernel
theorem dX10_isOne_75 : decode cX10_isOne 75 = .ok (.iconst 1, 1) := by decide +kernel
theorem dX10_isOne_76 : decode cX10_isOne 76 = .ok (.iadd, 1) := by decide +kernel
theorem dX10_isOne_77 : decode cX10_isOne 77 = .ok (.putfield 83, 3) := by decide +kernel
theorem dX10_isOne_80 : decode cX10_isOne 80 = .ok (.iload_n 1, 1) := by decide +kernel
theorem dX10_isOne_81 : decode cX10_isOne 81 = .ok (.bipush 12, 2) := by decide +kernel
theorem dX10_isOne_83 : decode cX10_isOne 83 = .ok (.if_icmp .ge 27, 3) := by decide +kernel
theorem dX10_isOne_86 : decode cX10_isOne 86 = .ok (.aload_n 0, 1) := by decide +kernel
theorem dX10_isOne_87 : decode cX10_isOne 87 = .ok (.iconst 0, 1) := by decide +kernel
theorem dX10_isOne_88 : decode cX10_isOne 88 = .ok (.iload_n 1, 1) := by decide +kernel
theorem dX10_isOne_89 : decode cX10_isOne 89 = .ok (.iconst 1, 1) := by decide +kernel
theorem dX10_isOne_90 : decode cX10_isOne 90 = .ok (.iadd, 1) := by decide +kernel
theorem dX10_isOne_91 : decode cX10_isOne 91 = .ok (.invokevirtual 108, 3) := by decide +kernel
theorem dX10_isOne_94 : decode cX10_isOne 94 = .ok (.ifCond .eq 16, 3) := by decide +kernel
theorem dX10_isOne_97 : decode cX10_isOne 97 = .ok (.aload_n 0, 1) := by decide +kernel
theorem dX10_isOne_98 : decode cX10_isOne 98 = .ok (.bipush 41, 2) := by decide +kernel
theorem dX10_isOne_100 : decode cX10_isOne 100 = .ok (.invokevirtual 105, 3) := by decide +kernel
theorem dX10_isOne_103 : decode cX10_isOne 103 = .ok (.ifCond .eq 7, 3) := by decide +kernel
theorem dX10_isOne_106 : decode cX10_isOne 106 = .ok (.iconst 1, 1) := by decide +kernel
theorem dX10_isOne_107 : decode cX10_isOne 107 = .ok (.goto 4, 3) := by decide +kernel
theorem dX10_isOne_110 : decode cX10_isOne 110 = .ok (.iconst 0, 1) := by decide +kernel
theorem dX10_isOne_111 : decode cX10_isOne 111 = .ok (.ireturn, 1) := by decide +kernel
theorem dX10_isOne_112 : decode cX10_isOne 112 = .ok (.iload_n 3, 1) := by decide +kernel
theorem dX10_isOne_113 : decode cX10_isOne 113 = .ok (.ifCond .eq 8, 3) := by decide +kernel
theorem dX10_isOne_116 : decode cX10_isOne 116 = .ok (.iload_n 3, 1) := by decide +kernel
theorem dX10_isOne_117 : decode cX10_isOne 117 = .ok (.iconst 1, 1) := by decide +kernel
theorem dX10_isOne_118 : decode cX10_isOne 118 = .ok (.if_icmp .ne 94, 3) := by decide +kernel
theorem dX10_isOne_121 : decode cX10_isOne 121 = .ok (.aload_n 0, 1) := by decide +kernel
theorem dX10_isOne_122 : decode cX10_isOne 122 = .ok (.dup, 1) := by decide +kernel
theorem dX10_isOne_123 : decode cX10_isOne 123 = .ok (.getfield 83, 3) := by decide +kernel
theorem dX10_isOne_126 : decode cX10_isOne 126 = .ok (.iconst 1, 1) := by decide +kernel
theorem dX10_isOne_127 : decode cX10_isOne 127 = .ok (.iadd, 1) := by decide +kernel
theorem dX10_isOne_128 : decode cX10_isOne 128 = .ok (.putfield 83, 3) := by decide +kernel
theorem dX10_isOne_131 : decode cX10_isOne 131 = .ok (.aload_n 0, 1) := by decide +kernel
theorem dX10_isOne_132 : decode cX10_isOne 132 = .ok (.invokevirtual 119, 3) := by decide +kernel
theorem dX10_isOne_135 : decode cX10_isOne 135 = .ok (.istore 4, 2) := by decide +kernel
theorem dX10_isOne_137 : decode cX10_isOne 137 = .ok (.iload_n 3, 1) := by decide +kernel
theorem dX10_isOne_138 : decode cX10_isOne 138 = .ok (.ifCond .ne 7, 3) := by decide +kernel
theorem dX10_isOne_141 : decode cX10_isOne 141 = .ok (.iconst 5, 1) := by decide +kernel
theorem dX10_isOne_142 : decode cX10_isOne 142 = .ok (.goto 5, 3) := by decide +kernel
theorem dX10_isOne_145 : decode cX10_isOne 145 = .ok (.bipush 6, 2) := by decide +kernel
theorem dX10_isOne_147 : decode cX10_isOne 147 = .ok (.iload 4, 2) := by decide +kernel
theorem dX10_isOne_149 : decode cX10_isOne 149 = .ok (.bipush 15, 2) := by decide +kernel
theorem dX10_isOne_151 : decode cX10_isOne 151 = .ok (.ishl, 1) := by decide +kernel
theorem dX10_isOne_152 : decode cX10_isOne 152 = .ok (.ior, 1) := by decide +kernel
theorem dX10_isOne_153 : decode cX10_isOne 153 = .ok (.istore 5, 2) := by decide +kernel
theorem dX10_isOne_155 : decode cX10_isOne 155 = .ok (.aload_n 0, 1) := by decide +kernel
theorem dX10_isOne_156 : decode cX10_isOne 156 = .ok (.dup, 1) := by decide +kernel
theorem dX10_isOne_157 : decode cX10_isOne 157 = .ok (.getfield 83, 3) := by decide +kernel
theorem dX10_isOne_160 : decode cX10_isOne 160 = .ok (.iconst 1, 1) := by decide +kernel
theorem dX10_isOne_161 : decode cX10_isOne 161 = .ok (.iadd, 1) := by decide +kernel
theorem dX10_isOne_162 : decode cX10_isOne 162 = .ok (.putfield 83, 3) := by decide +kernel
theorem dX10_isOne_165 : decode cX10_isOne 165 = .ok (.iload_n 1, 1) := by decide +kernel
theorem dX10_isOne_166 : decode cX10_isOne 166 = .ok (.bipush 12, 2) := by decide +kernel
theorem dX10_isOne_168 : decode cX10_isOne 168 = .ok (.if_icmp .ge 42, 3) := by decide +kernel
theorem dX10_isOne_171 : decode cX10_isOne 171 = .ok (.iload 4, 2) := by decide +kernel
theorem dX10_isOne_173 : decode cX10_isOne 173 = .ok (.iconst 2, 1) := by decide +kernel
theorem dX10_isOne_174 : decode cX10_isOne 174 = .ok (.if_icmp .le 36, 3) := by decide +kernel
theorem dX10_isOne_177 : decode cX10_isOne 177 = .ok (.aload_n 0, 1) := by decide +kernel
theorem dX10_isOne_178 : decode cX10_isOne 178 = .ok (.bipush 44, 2) := by decide +kernel
theorem dX10_isOne_180 : decode cX10_isOne 180 = .ok (.invokevirtual 105, 3) := by decide +kernel
theorem dX10_isOne_183 : decode cX10_isOne 183 = .ok (.ifCond .eq 27, 3) := by decide +kernel
theorem dX10_isOne_186 : decode cX10_isOne 186 = .ok (.aload_n 0, 1) := by decide +kernel
theorem dX10_isOne_187 : decode cX10_isOne 187 = .ok (.iload 5, 2) := by decide +kernel
theorem dX10_isOne_189 : decode cX10_isOne 189 = .ok (.invokevirtual 134, 3) := by decide +kernel
theorem dX10_isOne_192 : decode cX10_isOne 192 = .ok (.ifCond .eq 18, 3) := by decide +kernel
theorem dX10_isOne_195 : decode cX10_isOne 195 = .ok (.aload_n 0, 1) := by decide +kernel
theorem dX10_isOne_196 : decode cX10_isOne 196 = .ok (.iconst 0, 1) := by decide +kernel
theorem dX10_isOne_197 : decode cX10_isOne 197 = .ok (.iload_n 1, 1) := by decide +kernel
theorem dX10_isOne_198 : decode cX10_isOne 198 = .ok (.iconst 1, 1) := by decide +kernel
theorem dX10_isOne_199 : decode cX10_isOne 199 = .ok (.iadd, 1) := by decide +kernel
theorem dX10_isOne_200 : decode cX10_isOne 200 = .ok (.invokevirtual 108, 3) := by decide +kernel
theorem dX10_isOne_203 : decode cX10_isOne 203 = .ok (.ifCond .eq 7, 3) := by decide +kernel
theorem dX10_isOne_206 : decode cX10_isOne 206 = .ok (.iconst 1, 1) := by decide +kernel
theorem dX10_isOne_207 : decode cX10_isOne 207 = .ok (.goto 4, 3) := by decide +kernel
theorem dX10_isOne_210 : decode cX10_isOne 210 = .ok (.iconst 0, 1) := by decide +kernel
theorem dX10_isOne_211 : decode cX10_isOne 211 = .ok (.ireturn, 1) := by decide +kernel
theorem dX10_isOne_212 : decode cX10_isOne 212 = .ok (.iload_n 3, 1) := by decide +kernel
theorem dX10_isOne_213 : decode cX10_isOne 213 = .ok (.iconst 2, 1) := by decide +kernel
theorem dX10_isOne_214 : decode cX10_isOne 214 = .ok (.if_icmp .ne 19, 3) := by decide +kernel
theorem dX10_isOne_217 : decode cX10_isOne 217 = .ok (.aload_n 0, 1) := by decide +kernel
theorem dX10_isOne_218 : decode cX10_isOne 218 = .ok (.dup, 1) := by decide +kernel
theorem dX10_isOne_219 : decode cX10_isOne 219 = .ok (.getfield 83, 3) := by decide +kernel
theorem dX10_isOne_222 : decode cX10_isOne 222 = .ok (.iconst 1, 1) := by decide +kernel
theorem dX10_isOne_223 : decode cX10_isOne 223 = .ok (.iadd, 1) := by decide +kernel
theorem dX10_isOne_224 : decode cX10_isOne 224 = .ok (.putfield 83, 3) := by decide +kernel
theorem dX10_isOne_227 : decode cX10_isOne 227 = .ok (.aload_n 0, 1) := by decide +kernel
theorem dX10_isOne_228 : decode cX10_isOne 228 = .ok (.iconst 0, 1) := by decide +kernel
theorem dX10_isOne_229 : decode cX10_isOne 229 = .ok (.invokevirtual 134, 3) := by decide +kernel
theorem dX10_isOne_232 : decode cX10_isOne 232 = .ok (.ireturn, 1) := by decide +kernel
theorem dX10_isOne_233 : decode cX10_isOne 233 = .ok (.aload_n 0, 1) := by decide +kernel
theorem dX10_isOne_234 : decode cX10_isOne 234 = .ok (.getfield 89, 3) := by decide +kernel
theorem dX10_isOne_237 : decode cX10_isOne 237 = .ok (.istore 4, 2) := by decide +kernel
theorem dX10_isOne_239 : decode cX10_isOne 239 = .ok (.aload_n 0, 1) := by decide +kernel
theorem dX10_isOne_240 : decode cX10_isOne 240 = .ok (.bipush 7, 2) := by decide +kernel
theorem dX10_isOne_242 : decode cX10_isOne 242 = .ok (.iload_n 1, 1) := by decide +kernel
theorem dX10_isOne_243 : decode cX10_isOne 243 = .ok (.invokevirtual 112, 3) := by decide +kernel
theorem dX10_isOne_246 : decode cX10_isOne 246 = .ok (.ifCond .ne 5, 3) := by decide +kernel
theorem dX10_isOne_249 : decode cX10_isOne 249 = .ok (.iconst 0, 1) := by decide +kernel
theorem dX10_isOne_250 : decode cX10_isOne 250 = .ok (.ireturn, 1) := by decide +kernel
theorem dX10_isOne_251 : decode cX10_isOne 251 = .ok (.aload_n 0, 1) := by decide +kernel
theorem dX10_isOne_252 : decode cX10_isOne 252 = .ok (.invokevirtual 115, 3) := by decide +kernel
theorem dX10_isOne_255 : decode cX10_isOne 255 = .ok (.bipush 61, 2) := by decide +kernel
theorem dX10_isOne_257 : decode cX10_isOne 257 = .ok (.if_icmp .eq 5, 3) := by decide +kernel
theorem dX10_isOne_260 : decode cX10_isOne 260 = .ok (.iconst 1, 1) := by decide +kernel
theorem dX10_isOne_261 : decode cX10_isOne 261 = .ok (.ireturn, 1) := by decide +kernel
theorem dX10_isOne_262 : decode cX10_isOne 262 = .ok (.aload_n 0, 1) := by decide +kernel
theorem dX10_isOne_263 : decode cX10_isOne 263 = .ok (.dup, 1) := by decide +kernel
theorem dX10_isOne_264 : decode cX10_isOne 264 = .ok (.getfield 83, 3) := by decide +kernel
theorem dX10_isOne_267 : decode cX10_isOne 267 = .ok (.iconst 1, 1) := by decide +kernel
theorem dX10_isOne_268 : decode cX10_isOne 268 = .ok (.iadd, 1) := by decide +kernel
theorem dX10_isOne_269 : decode cX10_isOne 269 = .ok (.putfield 83, 3) := by decide +kernel
theorem dX10_isOne_272 : decode cX10_isOne 272 = .ok (.aload_n 0, 1) := by decide +kernel
theorem dX10_isOne_273 : decode cX10_isOne 273 = .ok (.getfield 21, 3) := by decide +kernel
theorem dX10_isOne_276 : decode cX10_isOne 276 = .ok (.iload 4, 2) := by decide +kernel
theorem dX10_isOne_278 : decode cX10_isOne 278 = .ok (.dup2, 1) := by decide +kernel
theorem dX10_isOne_279 : decode cX10_isOne 279 = .ok (.iaload, 1) := by decide +kernel
theorem dX10_isOne_280 : decode cX10_isOne 280 = .ok (.iconst 1, 1) := by decide +kernel
theorem dX10_isOne_281 : decode cX10_isOne 281 = .ok (.iadd, 1) := by decide +kernel
theorem dX10_isOne_282 : decode cX10_isOne 282 = .ok (.iastore, 1) := by decide +kernel
theorem dX10_isOne_283 : decode cX10_isOne 283 = .ok (.aload_n 0, 1) := by decide +kernel
theorem dX10_isOne_284 : decode cX10_isOne 284 = .ok (.iload 4, 2) := by decide +kernel
theorem dX10_isOne_286 : decode cX10_isOne 286 = .ok (.iconst 4, 1) := by decide +kernel
theorem dX10_isOne_287 : decode cX10_isOne 287 = .ok (.invokevirtual 131, 3) := by decide +kernel
theorem dX10_isOne_290 : decode cX10_isOne 290 = .ok (.ifCond .eq 17, 3) := by decide +kernel
theorem dX10_isOne_293 : decode cX10_isOne 293 = .ok (.aload_n 0, 1) := by decide +kernel
theorem dX10_isOne_294 : decode cX10_isOne 294 = .ok (.bipush 8, 2) := by decide +kernel
theorem dX10_isOne_296 : decode cX10_isOne 296 = .ok (.iload_n 1, 1) := by decide +kernel
theorem dX10_isOne_297 : decode cX10_isOne 297 = .ok (.invokevirtual 112, 3) := by decide +kernel
theorem dX10_isOne_300 : decode cX10_isOne 300 = .ok (.ifCond .eq 7, 3) := by decide +kernel
theorem dX10_isOne_303 : decode cX10_isOne 303 = .ok (.iconst 1, 1) := by decide +kernel
theorem dX10_isOne_304 : decode cX10_isOne 304 = .ok (.goto 4, 3) := by decide +kernel
theorem dX10_isOne_307 : decode cX10_isOne 307 = .ok (.iconst 0, 1) := by decide +kernel
theorem dX10_isOne_308 : decode cX10_isOne 308 = .ok (.ireturn, 1) := by decide +kernel
def qX10_isOne (l : Launch) (dC : Nat → ClassId) (dI : Nat → Nat → Nat) (ca : Nat → ClassId) (base : Nat) (B : jF) (ef : Nat) : Prop := ∀ (G0 : jT) (X : List Nat) (H0 : Heap) (a : Nat) (dp : Int32) (tk0 at0 nc0 : Int32), Met l yX10_isOne wsX10_isOne ({ frames := 5 * ef + 5, cells := 0, slots := 0, locals := 160 * ef + 200 }) (va_Pc [.ref a, .int dp] (fun U => U.heap = H0 ∧ jX B base G0 X H0 ∧ jG dC dI ca base U ∧ G0 a = some (12, 0) ∧ a ∈ X ∧ jB12e dC dI ca G0 a tk0 at0 nc0 H0 ∧ (0 ≤ tk0.toInt ∧ tk0.toInt ≤ 1500 ∧ 0 ≤ at0.toInt ∧ 0 ≤ nc0.toInt ∧ nc0.toInt ≤ 3000 ∧ at0.toInt ≤ tk0.toInt ∧ dp.toInt = 12 - ef ∧ ef ≤ 12))) (va_Qi (S := Int32 × Int32 × Int32) (fun r u => (r = 0 ∨ r = 1) ∧ u.1.toInt = tk0.toInt ∧ 0 ≤ u.2.1.toInt ∧ nc0.toInt ≤ u.2.2.toInt ∧ u.2.2.toInt ≤ 3000 ∧ u.2.1.toInt ≤ tk0.toInt + 2 ∧ (r.toInt = 0 ∨ (u.2.1.toInt ≤ tk0.toInt ∧ nc0.toInt + 1 ≤ u.2.2.toInt))) (fun u t => jX B base G0 X t.heap ∧ jB12e dC dI ca G0 a u.1 u.2.1 u.2.2 t.heap ∧  jModP G0 (fun r => r = a) H0 t.heap ∧ t.heap.size = H0.size ∧ jTot t.heap = jTot H0) (jA base)) 0 0 (jA base)
def qX10_isChain (l : Launch) (dC : Nat → ClassId) (dI : Nat → Nat → Nat) (ca : Nat → ClassId) (base : Nat) (B : jF) (ef jf : Nat) : Prop := ∀ (G0 : jT) (X : List Nat) (H0 : Heap) (a : Nat) (st dp : Int32) (tk0 at0 nc0 : Int32), Met l yX10_isChain wsX10_isChain ({ frames := 5 * ef + 6 + jf, cells := 0, slots := 0, locals := 160 * ef + 230 + 30 * jf }) (va_Pc [.ref a, .int st, .int dp] (fun U => U.heap = H0 ∧ jX B base G0 X H0 ∧ jG dC dI ca base U ∧ G0 a = some (12, 0) ∧ a ∈ X ∧ jB12e dC dI ca G0 a tk0 at0 nc0 H0 ∧ (0 ≤ tk0.toInt ∧ tk0.toInt ≤ 1500 ∧ 0 ≤ at0.toInt ∧ 0 ≤ nc0.toInt ∧ nc0.toInt ≤ 3000 ∧ at0.toInt ≤ tk0.toInt ∧ dp.toInt = 12 - ef ∧ ef ≤ 12 ∧ st.toInt = 2 - jf ∧ jf ≤ 2))) (va_Qi (S := Int32 × Int32 × Int32) (fun r u => (r = 0 ∨ r = 1) ∧ u.1.toInt = tk0.toInt ∧ 0 ≤ u.2.1.toInt ∧ nc0.toInt ≤ u.2.2.toInt ∧ u.2.2.toInt ≤ 3000 ∧ u.2.1.toInt ≤ tk0.toInt + 2 ∧ (r.toInt = 0 ∨ (u.2.1.toInt ≤ tk0.toInt ∧ nc0.toInt + 1 ≤ u.2.2.toInt))) (fun u t => jX B base G0 X t.heap ∧ jB12e dC dI ca G0 a u.1 u.2.1 u.2.2 t.heap ∧  jModP G0 (fun r => r = a) H0 t.heap ∧ t.heap.size = H0.size ∧ jTot t.heap = jTot H0) (jA base)) 0 0 (jA base)
theorem aX10_isTerm (l : Launch) (dC : Nat → ClassId) (dI : Nat → Nat → Nat) (ca : Nat → ClassId) (base : Nat) (B : jF) (hB : jBok B) : ∀ ef, qX10_isTerm l dC dI ca base B ef := fun ef => Nat.strongRecOn ef (fun e ih => fun G0 X H0 a kd dp tk0 at0 nc0 => tX10_isTerm l dC dI ca base B hB e ih G0 X H0 a kd dp tk0 at0 nc0)
set_option maxHeartbeats 4000000 in
set_option maxRecDepth 20000 in
theorem tX10_isOne (l : Launch) (dC : Nat → ClassId) (dI : Nat → Nat → Nat) (ca : Nat → ClassId) (base : Nat) (B : jF) (hB : jBok B) (ef : Nat) (ihO : ∀ e1, e1 < ef → qX10_isOne l dC dI ca base B e1) (ihC : ∀ e1, e1 < ef → qX10_isChain l dC dI ca base B e1 2) (G0 : jT) (X : List Nat) (H0 : Heap) (a : Nat) (dp : Int32) (tk0 at0 nc0 : Int32) : Met l yX10_isOne wsX10_isOne ({ frames := 5 * ef + 5, cells := 0, slots := 0, locals := 160 * ef + 200 }) (va_Pc [.ref a, .int dp] (fun U => U.heap = H0 ∧ jX B base G0 X H0 ∧ jG dC dI ca base U ∧ G0 a = some (12, 0) ∧ a ∈ X ∧ jB12e dC dI ca G0 a tk0 at0 nc0 H0 ∧ (0 ≤ tk0.toInt ∧ tk0.toInt ≤ 1500 ∧ 0 ≤ at0.toInt ∧ 0 ≤ nc0.toInt ∧ nc0.toInt ≤ 3000 ∧ at0.toInt ≤ tk0.toInt ∧ dp.toInt = 12 - ef ∧ ef ≤ 12))) (va_Qi (S := Int32 × Int32 × Int32) (fun r u => (r = 0 ∨ r = 1) ∧ u.1.toInt = tk0.toInt ∧ 0 ≤ u.2.1.toInt ∧ nc0.toInt ≤ u.2.2.toInt ∧ u.2.2.toInt ≤ 3000 ∧ u.2.1.toInt ≤ tk0.toInt + 2 ∧ (r.toInt = 0 ∨ (u.2.1.toInt ≤ tk0.toInt ∧ nc0.toInt + 1 ≤ u.2.2.toInt))) (fun u t => jX B base G0 X t.heap ∧ jB12e dC dI ca G0 a u.1 u.2.1 u.2.2 t.heap ∧  jModP G0 (fun r => r = a) H0 t.heap ∧ t.heap.size = H0.size ∧ jTot t.heap = jTot H0) (jA base)) 0 0 (jA base) := by
  refine Met.ofW (cc := cX10_isOne) (maxL := 6) (ret := (some .boolean)) (by decide) rfl ?_
  intro p e s m args below meth c s₁ Bd hml hv
  obtain ⟨rfl, hH0, hX, hG, hg_a, hm_a, he_a, ht0, ht1, ha0, hn0, hn1, hp0, hp1, hp2⟩ := hv
  have hK := hG.1
  have hx := Bd.exec
  have hb := Bd.bytes
  have hr := Bd.returns
  have hts := atoms_spec (ws := wsX10_isOne) Bd.pre
  have hown : s.vm.findClass RX10 = some m.cls := findClass_of_methodNamed Bd.named
  have hlocks := Bd.notSynchronized
  have hin_12 : ∀ w ∈ u_ws RX10 TX10 11, w ∈ wsX10_isOne := by decide +kernel
  obtain ⟨Q, hQ⟩ : ∃ Q, Q = MQ below (va_Qi (S := Int32 × Int32 × Int32) (fun r u => (r = 0 ∨ r = 1) ∧ u.1.toInt = tk0.toInt ∧ 0 ≤ u.2.1.toInt ∧ nc0.toInt ≤ u.2.2.toInt ∧ u.2.2.toInt ≤ 3000 ∧ u.2.1.toInt ≤ tk0.toInt + 2 ∧ (r.toInt = 0 ∨ (u.2.1.toInt ≤ tk0.toInt ∧ nc0.toInt + 1 ≤ u.2.2.toInt))) (fun u t => jX B base G0 X t.heap ∧ jB12e dC dI ca G0 a u.1 u.2.1 u.2.2 t.heap ∧  jModP G0 (fun r => r = a) H0 t.heap ∧ t.heap.size = H0.size ∧ jTot t.heap = jTot H0) (jA base)) ([.ref a, .int dp] : List Value).toArray s 0 0 (jA base) := ⟨_, rfl⟩
  rw [← hQ]
  have hl := lv_entry ([.ref a, .int dp]) (n := 6) (Nat.le_of_ble_eq_true rfl)
  rw [lg_entry_eq]
  generalize (lg_sl ([.ref a, .int dp]) ++ List.replicate (6 - (lg_sl ([.ref a, .int dp])).length) Slot.unset).toArray = ls at hl ⊢
  have hl : lv_has ls 6 [(0, .ref a), (1, .int dp)] := hl
  generalize hR : (headSpec wsX10_isOne ({ frames := 5 * ef + 5, cells := 0, slots := 0, locals := 160 * ef + 200 })).room = R
  subst hH0
  have hS : va_S (jA base) s.heap s.heap [] := va_S.rf
  have hM : jModP G0 (fun r => r = a) s.heap s.heap := jModP.rf
  have hz : s.heap.size = s.heap.size := rfl
  have hT : jTot s.heap = jTot s.heap := rfl
  have hlt_a := hX.2 _ _ hg_a
  have hrt_a : jRoot G0 a := ⟨_, _, hg_a, by omega⟩
  have hk0 : (0 : Int32).toInt = 0 := by decide
  have hk1 : (1 : Int32).toInt = 1 := by decide
  have hk2 : (2 : Int32).toInt = 2 := by decide
  have hk4 : (4 : Int32).toInt = 4 := by decide
  have hk5 : (5 : Int32).toInt = 5 := by decide
  have hk6 : (6 : Int32).toInt = 6 := by decide
  have hk7 : (7 : Int32).toInt = 7 := by decide
  have hk8 : (8 : Int32).toInt = 8 := by decide
  have hk12 : (12 : Int32).toInt = 12 := by decide
  have hk15 : (15 : Int32).toInt = 15 := by decide
  have hk40 : (40 : Int32).toInt = 40 := by decide
  have hk41 : (41 : Int32).toInt = 41 := by decide
  have hk44 : (44 : Int32).toInt = 44 := by decide
  have hk61 : (61 : Int32).toInt = 61 := by decide
  have hk126 : (126 : Int32).toInt = 126 := by decide
  refine lv_aload_n hx hb dX10_isOne_0 rfl (lv_at hl 0 rfl) ?_
  obtain ⟨names_3, kinds_3, values_3, word_3, told_3, toldCount_3, terms_3, nodes_3, f_kinds_3, f_values_3, f_told_3, f_nodes_3, hat_a_3, hat_kinds_3, hat_values_3, hat_told_3, hat_nodes_3, hg_kinds_3, hg_values_3, hg_told_3, hg_nodes_3, hg_names_3, hf0_3, hf1_3⟩ := id he_a
  have hlt_names_3 := hX.2 _ _ hg_names_3
  have hrt_names_3 : jRoot G0 names_3 := ⟨_, _, hg_names_3, by omega⟩
  refine va_calli (A0 := jA base) (H0 := s.heap) (va_runV (As := []) (rest := []) ⟨hx, hb, hml, hown, hts⟩ (tX10_peek l dC dI ca base B hB G0 X s.heap a tk0 at0 nc0) (cwV 0 hts gX10_isOne_X10_peek rfl rfl rfl (by decide +kernel) ⟨by rw [← hR]; show (0) + 1 ≤ 5 * ef + 5; omega, by rw [← hR]; show 8 + (1 + 11) + (0) ≤ 160 * ef + 200; omega⟩) ⟨fun a U g mk q => by obtain ⟨q0, q1, q2, qK, q9⟩ := q; exact ⟨q0, q1, q2, jG.calling g mk a qK, q9⟩, va_recv hK (jp_one hat_a_3) (ci := 12) (q0 := 0) rfl rfl, fun U hU hW => ⟨rfl, hU, hX, hG.step hW hU hS, hg_a, hm_a, he_a, by refine ⟨?_, ?_, ?_, ?_, ?_, ?_⟩ <;> omega⟩⟩ rfl rfl hl.1 rfl (lv_room (Nat.le_of_ble_eq_true rfl)) dX10_isOne_1 ⟨Nat.zero_le _, Nat.zero_le _⟩) hS (fun q _ h => h) (fun q h => h) (fun r_1 u t H1 locs1 ht hvm hr_1 hBb hz1 hk1 hS_2 => ?_)
  obtain ⟨tk_2, at_2, nc_2⟩ := u
  obtain ⟨hX_2, he_2, hM_20, hz_20, hT_20⟩ := hBb
  rw [ht] at hX_2 he_2 hM_20 hz_20 hT_20
  simp only at hr_1 he_2
  have hM_2 := hM.tr0 hM_20 hz (by intro r; simp)
  have hz_2 := hz_20.trans hz
  have hT_2 := hT_20.trans hT
  clear hz1 hk1 hvm ht hM_20 hz_20 hT_20
  refine lv_istore_n (lv' := [(2, .int r_1), (0, .ref a), (1, .int dp)]) hx hb dX10_isOne_4 rfl hl (by decide) rfl (fun ls hl => ?_)
  refine lv_aload_n hx hb dX10_isOne_5 rfl (lv_at hl 1 rfl) ?_
  obtain ⟨names_6, kinds_6, values_6, word_6, told_6, toldCount_6, terms_6, nodes_6, f_kinds_6, f_values_6, f_told_6, f_nodes_6, hat_a_6, hat_kinds_6, hat_values_6, hat_told_6, hat_nodes_6, hg_kinds_6, hg_values_6, hg_told_6, hg_nodes_6, hg_names_6, hf0_6, hf1_6⟩ := id he_2
  have hlt_names_6 := hX_2.2 _ _ hg_names_6
  have hrt_names_6 : jRoot G0 names_6 := ⟨_, _, hg_names_6, by omega⟩
  refine va_calli (A0 := jA base) (H0 := s.heap) (va_runV (As := []) (rest := []) ⟨hx, hb, hml, hown, hts⟩ (tX10_peekName l dC dI ca base B hB G0 X H1 a tk_2 at_2 nc_2) (cwV 0 hts gX10_isOne_X10_peekName rfl rfl rfl (by decide +kernel) ⟨by rw [← hR]; show (1) + 1 ≤ 5 * ef + 5; omega, by rw [← hR]; show 8 + (1 + 11) + (40) ≤ 160 * ef + 200; omega⟩) ⟨fun a U g mk q => by obtain ⟨q0, q1, q2, qK, q9⟩ := q; exact ⟨q0, q1, q2, jG.calling g mk a qK, q9⟩, va_recv hK (jp_one hat_a_6) (ci := 12) (q0 := 0) rfl rfl, fun U hU hW => ⟨rfl, hU, hX_2, hG.step hW hU hS_2, hg_a, hm_a, he_2, by refine ⟨?_, ?_, ?_, ?_, ?_, ?_⟩ <;> omega⟩⟩ rfl rfl hl.1 rfl (lv_room (Nat.le_of_ble_eq_true rfl)) dX10_isOne_6 ⟨Nat.zero_le _, Nat.zero_le _⟩) hS_2 (fun q _ h => h) (fun q h => h) (fun r_4 u t H1 locs1 ht hvm hr_4 hBb hz1 hk1 hS_5 => ?_)
  obtain ⟨tk_5, at_5, nc_5⟩ := u
  obtain ⟨hX_5, he_5, hM_50, hz_50, hT_50⟩ := hBb
  rw [ht] at hX_5 he_5 hM_50 hz_50 hT_50
  simp only at hr_4 he_5
  have hM_5 := hM_2.tr0 hM_50 hz_2 (by intro r; simp)
  have hz_5 := hz_50.trans hz_2
  have hT_5 := hT_50.trans hT_2
  clear hz1 hk1 hvm ht hM_50 hz_50 hT_50
  refine lv_istore_n (lv' := [(3, .int r_4), (2, .int r_1), (0, .ref a), (1, .int dp)]) hx hb dX10_isOne_9 rfl hl (by decide) rfl (fun ls hl => ?_)
  refine lv_iload_n hx hb dX10_isOne_10 rfl (lv_at hl 1 rfl) ?_
  refine lv_bipush (v := 126) hx hb dX10_isOne_11 (by decide) ?_
  refine lv_icmp_ne (tgt := 64) hx hb dX10_isOne_13 (by decide) (fun c_7 => ?_) (fun c_7 => ?_)
  · skip
    have c_7' : r_1.toInt ≠ 126 := jb_ne (rfl) ((by decide)) c_7
    refine lv_iload_n hx hb dX10_isOne_64 rfl (lv_at hl 1 rfl) ?_
    refine lv_bipush (v := 40) hx hb dX10_isOne_65 (by decide) ?_
    refine lv_icmp_ne (tgt := 112) hx hb dX10_isOne_67 (by decide) (fun c_8 => ?_) (fun c_8 => ?_)
    · skip
      have c_8' : r_1.toInt ≠ 40 := jb_ne (rfl) ((by decide)) c_8
      refine lv_iload_n hx hb dX10_isOne_112 rfl (lv_at hl 0 rfl) ?_
      refine lv_if_eq (tgt := 121) hx hb dX10_isOne_113 (by decide) (fun c_9 => ?_) (fun c_9 => ?_)
      · skip
        have c_9' : r_4.toInt = 0 := jb_eq (rfl) ((by decide)) c_9
        refine lv_aload_n hx hb dX10_isOne_121 rfl (lv_at hl 2 rfl) ?_
        refine lv_dup hx hb dX10_isOne_122 rfl ?_
        obtain ⟨names_10, kinds_10, values_10, word_10, told_10, toldCount_10, terms_10, nodes_10, f_kinds_10, f_values_10, f_told_10, f_nodes_10, hat_a_10, hat_kinds_10, hat_values_10, hat_told_10, hat_nodes_10, hg_kinds_10, hg_values_10, hg_told_10, hg_nodes_10, hg_names_10, hf0_10, hf1_10⟩ := id he_5
        have hlt_names_10 := hX_5.2 _ _ hg_names_10
        have hrt_names_10 : jRoot G0 names_10 := ⟨_, _, hg_names_10, by omega⟩
        refine va_get (D := (dC, dI)) (ci := 12) (v := .int at_5) (C := RX10) (T := TX10) (N := 11) hx hb hts hin_12 hown hK (jp_one hat_a_10) 0 rfl rfl 4 (by decide) (hts (.fieldLink RX10 83 "ProofServer$Syntax" "at" "I") (by decide +kernel)) (fun _ h9 => h9) rfl dX10_isOne_123 ?_
        refine lv_iconst (v := 1) hx hb dX10_isOne_126 (by decide) ?_
        refine lv_iadd hx hb dX10_isOne_127 ?_
        refine lv_topi (fun z_11 ez_11 => ?_)
        have hz_11 : z_11.toInt = at_5.toInt + 1 := by rw [ez_11]; exact jb_iadd (rfl) ((by decide)) (by omega) (by omega)
        refine j_put (D := (dC, dI)) (ci := 12) (v := .int z_11) (ty := .int) (C := RX10) (T := TX10) (N := 11) (A := jA base) hx hb hts hin_12 tyX10 tyX10_ok nmX10 hown hK hat_a_10 (hX_5.2 _ _ hg_a).1 hS_5.2.2 rfl 4 (by decide) (hts (.fieldLink RX10 83 "ProofServer$Syntax" "at" "I") (by decide +kernel)) (fun _ h9 => h9) rfl (by decide +kernel) rfl rfl (Nat.le_of_ble_eq_true rfl) dX10_isOne_128 (fun H1 locs1 hat1 hsz1 hfr1 hT1 hL1 => ?_)
        have hX_13 := hX_5.put hB hg_a (by omega) jSup.root hm_a hsz1 hfr1
        have hM_13 := hM_5.put jExt.rf hrt_a jSup.root (by simp) hfr1
        have hz_13 := hsz1.trans hz_5
        have hT_13 := hT1.trans hT_5
        have hS_13 := jS_put hS_5 hsz1 hfr1 (hX_5.2 _ _ hg_a).1 hL1
        have hat_kinds_10_13 := hat_kinds_10.kept (hfr1 _ (jne hg_kinds_10 hg_a (by simp)))
        have hat_values_10_13 := hat_values_10.kept (hfr1 _ (jne hg_values_10 hg_a (by simp)))
        have hat_told_10_13 := hat_told_10.kept (hfr1 _ (jne hg_told_10 hg_a (by simp)))
        have hat_nodes_10_13 := hat_nodes_10.kept (hfr1 _ (jne hg_nodes_10 hg_a (by simp)))
        clear hfr1 hsz1 hT1 hL1 hat_a_10 hat_kinds_10 hat_values_10 hat_told_10 hat_nodes_10 hX_5 hM_5 hz_5 hT_5 hS_5
        have hat_a_13 : va_at (dC, dI) vwCl (a, .inr (12, [.ref names_10, .ref kinds_10, .ref values_10, .int tk_5, .int z_11, .int word_10, .ref told_10, .int toldCount_10, .int terms_10, .ref nodes_10, .int nc_5])) H1 := hat1
        clear hat1
        refine lv_aload_n hx hb dX10_isOne_131 rfl (lv_at hl 2 rfl) ?_
        have he_16 : jB12e dC dI ca G0 a tk_5 z_11 nc_5 H1 := ⟨names_10, kinds_10, values_10, word_10, told_10, toldCount_10, terms_10, nodes_10, f_kinds_10, f_values_10, f_told_10, f_nodes_10, hat_a_13, hat_kinds_10_13, hat_values_10_13, hat_told_10_13, hat_nodes_10_13, hg_kinds_10, hg_values_10, hg_told_10, hg_nodes_10, hg_names_10, by first | omega | assumption | (simp; done) | exact Or.inl rfl | exact Or.inr rfl, by first | omega | assumption | (simp; done) | exact Or.inl rfl | exact Or.inr rfl⟩
        refine va_calli (A0 := jA base) (H0 := s.heap) (va_runV (As := []) (rest := []) ⟨hx, hb, hml, hown, hts⟩ (tX10_peekName l dC dI ca base B hB G0 X H1 a tk_5 z_11 nc_5) (cwV 0 hts gX10_isOne_X10_peekName rfl rfl rfl (by decide +kernel) ⟨by rw [← hR]; show (1) + 1 ≤ 5 * ef + 5; omega, by rw [← hR]; show 8 + (1 + 11) + (40) ≤ 160 * ef + 200; omega⟩) ⟨fun a U g mk q => by obtain ⟨q0, q1, q2, qK, q9⟩ := q; exact ⟨q0, q1, q2, jG.calling g mk a qK, q9⟩, va_recv hK (jp_one hat_a_13) (ci := 12) (q0 := 0) rfl rfl, fun U hU hW => ⟨rfl, hU, hX_13, hG.step hW hU hS_13, hg_a, hm_a, he_16, by refine ⟨?_, ?_, ?_, ?_, ?_, ?_⟩ <;> omega⟩⟩ rfl rfl hl.1 rfl (lv_room (Nat.le_of_ble_eq_true rfl)) dX10_isOne_132 ⟨Nat.zero_le _, Nat.zero_le _⟩) hS_13 (fun q _ h => h) (fun q h => h) (fun r_14 u t H1 locs1 ht hvm hr_14 hBb hz1 hk1 hS_15 => ?_)
        obtain ⟨tk_15, at_15, nc_15⟩ := u
        obtain ⟨hX_15, he_15, hM_150, hz_150, hT_150⟩ := hBb
        rw [ht] at hX_15 he_15 hM_150 hz_150 hT_150
        simp only at hr_14 he_15
        have hM_15 := hM_13.tr0 hM_150 hz_13 (by intro r; simp)
        have hz_15 := hz_150.trans hz_13
        have hT_15 := hT_150.trans hT_13
        clear hz1 hk1 hvm ht hM_150 hz_150 hT_150
        refine lv_istore (lv' := [(4, .int r_14), (3, .int r_4), (2, .int r_1), (0, .ref a), (1, .int dp)]) hx hb dX10_isOne_135 hl (by decide) rfl (fun ls hl => ?_)
        refine lv_iload_n hx hb dX10_isOne_137 rfl (lv_at hl 1 rfl) ?_
        refine lv_if_ne (tgt := 145) hx hb dX10_isOne_138 (by decide) (fun c_17 => ?_) (fun c_17 => ?_)
        · skip
          have c_17' : r_4.toInt ≠ 0 := jb_ne (rfl) ((by decide)) c_17
          refine lv_bipush (v := 6) hx hb dX10_isOne_145 (by decide) ?_
          refine lv_iload hx hb dX10_isOne_147 (lv_at hl 0 rfl) ?_
          refine lv_bipush (v := 15) hx hb dX10_isOne_149 (by decide) ?_
          refine lv_ishl hx hb dX10_isOne_151 ?_
          refine lv_topi (fun z_18 ez_18 => ?_)
          refine lv_ior hx hb dX10_isOne_152 ?_
          refine lv_topi (fun z_19 ez_19 => ?_)
          refine lv_istore (lv' := [(5, .int z_19), (4, .int r_14), (3, .int r_4), (2, .int r_1), (0, .ref a), (1, .int dp)]) hx hb dX10_isOne_153 hl (by decide) rfl (fun ls hl => ?_)
          refine lv_aload_n hx hb dX10_isOne_155 rfl (lv_at hl 4 rfl) ?_
          refine lv_dup hx hb dX10_isOne_156 rfl ?_
          obtain ⟨names_20, kinds_20, values_20, word_20, told_20, toldCount_20, terms_20, nodes_20, f_kinds_20, f_values_20, f_told_20, f_nodes_20, hat_a_20, hat_kinds_20, hat_values_20, hat_told_20, hat_nodes_20, hg_kinds_20, hg_values_20, hg_told_20, hg_nodes_20, hg_names_20, hf0_20, hf1_20⟩ := id he_15
          have hlt_names_20 := hX_15.2 _ _ hg_names_20
          have hrt_names_20 : jRoot G0 names_20 := ⟨_, _, hg_names_20, by omega⟩
          refine va_get (D := (dC, dI)) (ci := 12) (v := .int at_15) (C := RX10) (T := TX10) (N := 11) hx hb hts hin_12 hown hK (jp_one hat_a_20) 0 rfl rfl 4 (by decide) (hts (.fieldLink RX10 83 "ProofServer$Syntax" "at" "I") (by decide +kernel)) (fun _ h9 => h9) rfl dX10_isOne_157 ?_
          refine lv_iconst (v := 1) hx hb dX10_isOne_160 (by decide) ?_
          refine lv_iadd hx hb dX10_isOne_161 ?_
          refine lv_topi (fun z_21 ez_21 => ?_)
          have hz_21 : z_21.toInt = at_15.toInt + 1 := by rw [ez_21]; exact jb_iadd (rfl) ((by decide)) (by omega) (by omega)
          refine j_put (D := (dC, dI)) (ci := 12) (v := .int z_21) (ty := .int) (C := RX10) (T := TX10) (N := 11) (A := jA base) hx hb hts hin_12 tyX10 tyX10_ok nmX10 hown hK hat_a_20 (hX_15.2 _ _ hg_a).1 hS_15.2.2 rfl 4 (by decide) (hts (.fieldLink RX10 83 "ProofServer$Syntax" "at" "I") (by decide +kernel)) (fun _ h9 => h9) rfl (by decide +kernel) rfl rfl (Nat.le_of_ble_eq_true rfl) dX10_isOne_162 (fun H1 locs1 hat1 hsz1 hfr1 hT1 hL1 => ?_)
          have hX_23 := hX_15.put hB hg_a (by omega) jSup.root hm_a hsz1 hfr1
          have hM_23 := hM_15.put jExt.rf hrt_a jSup.root (by simp) hfr1
          have hz_23 := hsz1.trans hz_15
          have hT_23 := hT1.trans hT_15
          have hS_23 := jS_put hS_15 hsz1 hfr1 (hX_15.2 _ _ hg_a).1 hL1
          have hat_kinds_20_23 := hat_kinds_20.kept (hfr1 _ (jne hg_kinds_20 hg_a (by simp)))
          have hat_values_20_23 := hat_values_20.kept (hfr1 _ (jne hg_values_20 hg_a (by simp)))
          have hat_told_20_23 := hat_told_20.kept (hfr1 _ (jne hg_told_20 hg_a (by simp)))
          have hat_nodes_20_23 := hat_nodes_20.kept (hfr1 _ (jne hg_nodes_20 hg_a (by simp)))
          clear hfr1 hsz1 hT1 hL1 hat_a_20 hat_kinds_20 hat_values_20 hat_told_20 hat_nodes_20 hX_15 hM_15 hz_15 hT_15 hS_15
          have hat_a_23 : va_at (dC, dI) vwCl (a, .inr (12, [.ref names_20, .ref kinds_20, .ref values_20, .int tk_15, .int z_21, .int word_20, .ref told_20, .int toldCount_20, .int terms_20, .ref nodes_20, .int nc_15])) H1 := hat1
          clear hat1
          refine lv_iload_n hx hb dX10_isOne_165 rfl (lv_at hl 5 rfl) ?_
          refine lv_bipush (v := 12) hx hb dX10_isOne_166 (by decide) ?_
          refine lv_icmp_ge (tgt := 210) hx hb dX10_isOne_168 (by decide) (fun c_24 => ?_) (fun c_24 => ?_)
          · skip
            have c_24' : dp.toInt ≥ 12 := jb_ge (rfl) ((by decide)) c_24
            refine lv_iconst (v := 0) hx hb dX10_isOne_210 (by decide) ?_
            have he_25 : jB12e dC dI ca G0 a tk_15 z_21 nc_15 H1 := ⟨names_20, kinds_20, values_20, word_20, told_20, toldCount_20, terms_20, nodes_20, f_kinds_20, f_values_20, f_told_20, f_nodes_20, hat_a_23, hat_kinds_20_23, hat_values_20_23, hat_told_20_23, hat_nodes_20_23, hg_kinds_20, hg_values_20, hg_told_20, hg_nodes_20, hg_names_20, by first | omega | assumption | (simp; done) | exact Or.inl rfl | exact Or.inr rfl, by first | omega | assumption | (simp; done) | exact Or.inl rfl | exact Or.inr rfl⟩
            rw [hQ]
            exact W.zret (v := 0) hx hb hr (jb_nz (Or.inl rfl)) (fun t ht hW => ⟨⟨0, (tk_15, z_21, nc_15), rfl, ⟨(Or.inl rfl), by refine ⟨?_, ?_, ?_, ?_, ?_, ?_⟩ <;> first | rfl | omega | (left; omega) | (right; omega) | exact Or.inl ⟨by decide, rfl⟩ | (simp only; omega)⟩, by rw [ht]; try exact hX_23, by rw [ht]; try exact he_25, by rw [ht]; try exact hM_23, by rw [ht]; try exact hz_23, by rw [ht]; try exact hT_23⟩, by rw [ht]; try exact hS_23.1, fun q h9 hq => by rw [ht]; try exact hS_23.2.1 q h9 hq⟩) hS_23.2.2 dX10_isOne_211
          · skip
            have c_24' : dp.toInt < 12 := jb_ge_n (rfl) ((by decide)) c_24
            refine lv_iload hx hb dX10_isOne_171 (lv_at hl 1 rfl) ?_
            refine lv_iconst (v := 2) hx hb dX10_isOne_173 (by decide) ?_
            refine lv_icmp_le (tgt := 210) hx hb dX10_isOne_174 (by decide) (fun c_26 => ?_) (fun c_26 => ?_)
            · skip
              have c_26' : r_14.toInt ≤ 2 := jb_le (rfl) ((by decide)) c_26
              refine lv_iconst (v := 0) hx hb dX10_isOne_210 (by decide) ?_
              have he_27 : jB12e dC dI ca G0 a tk_15 z_21 nc_15 H1 := ⟨names_20, kinds_20, values_20, word_20, told_20, toldCount_20, terms_20, nodes_20, f_kinds_20, f_values_20, f_told_20, f_nodes_20, hat_a_23, hat_kinds_20_23, hat_values_20_23, hat_told_20_23, hat_nodes_20_23, hg_kinds_20, hg_values_20, hg_told_20, hg_nodes_20, hg_names_20, by first | omega | assumption | (simp; done) | exact Or.inl rfl | exact Or.inr rfl, by first | omega | assumption | (simp; done) | exact Or.inl rfl | exact Or.inr rfl⟩
              rw [hQ]
              exact W.zret (v := 0) hx hb hr (jb_nz (Or.inl rfl)) (fun t ht hW => ⟨⟨0, (tk_15, z_21, nc_15), rfl, ⟨(Or.inl rfl), by refine ⟨?_, ?_, ?_, ?_, ?_, ?_⟩ <;> first | rfl | omega | (left; omega) | (right; omega) | exact Or.inl ⟨by decide, rfl⟩ | (simp only; omega)⟩, by rw [ht]; try exact hX_23, by rw [ht]; try exact he_27, by rw [ht]; try exact hM_23, by rw [ht]; try exact hz_23, by rw [ht]; try exact hT_23⟩, by rw [ht]; try exact hS_23.1, fun q h9 hq => by rw [ht]; try exact hS_23.2.1 q h9 hq⟩) hS_23.2.2 dX10_isOne_211
            · skip
              have c_26' : r_14.toInt > 2 := jb_le_n (rfl) ((by decide)) c_26
              refine lv_aload_n hx hb dX10_isOne_177 rfl (lv_at hl 4 rfl) ?_
              refine lv_bipush (v := 44) hx hb dX10_isOne_178 (by decide) ?_
              have he_30 : jB12e dC dI ca G0 a tk_15 z_21 nc_15 H1 := ⟨names_20, kinds_20, values_20, word_20, told_20, toldCount_20, terms_20, nodes_20, f_kinds_20, f_values_20, f_told_20, f_nodes_20, hat_a_23, hat_kinds_20_23, hat_values_20_23, hat_told_20_23, hat_nodes_20_23, hg_kinds_20, hg_values_20, hg_told_20, hg_nodes_20, hg_names_20, by first | omega | assumption | (simp; done) | exact Or.inl rfl | exact Or.inr rfl, by first | omega | assumption | (simp; done) | exact Or.inl rfl | exact Or.inr rfl⟩
              refine va_calli (A0 := jA base) (H0 := s.heap) (va_runV (As := [.int 44]) (rest := []) ⟨hx, hb, hml, hown, hts⟩ (tX10_isSign l dC dI ca base B hB G0 X H1 a 44 tk_15 z_21 nc_15) (cwV 1 hts gX10_isOne_X10_isSign rfl rfl rfl (by decide +kernel) ⟨by rw [← hR]; show (0) + 1 ≤ 5 * ef + 5; omega, by rw [← hR]; show 8 + (3 + 11) + (0) ≤ 160 * ef + 200; omega⟩) ⟨fun a U g mk q => by obtain ⟨q0, q1, q2, qK, q9⟩ := q; exact ⟨q0, q1, q2, jG.calling g mk a qK, q9⟩, va_recv hK (jp_one hat_a_23) (ci := 12) (q0 := 0) rfl rfl, fun U hU hW => ⟨rfl, hU, hX_23, hG.step hW hU hS_23, hg_a, hm_a, he_30, by refine ⟨?_, ?_, ?_, ?_, ?_, ?_⟩ <;> omega⟩⟩ rfl rfl hl.1 rfl (lv_room (Nat.le_of_ble_eq_true rfl)) dX10_isOne_180 ⟨Nat.zero_le _, Nat.zero_le _⟩) hS_23 (fun q _ h => h) (fun q h => h) (fun r_28 u t H1 locs1 ht hvm hr_28 hBb hz1 hk1 hS_29 => ?_)
              obtain ⟨tk_29, at_29, nc_29⟩ := u
              obtain ⟨hX_29, he_29, hM_290, hz_290, hT_290⟩ := hBb
              rw [ht] at hX_29 he_29 hM_290 hz_290 hT_290
              simp only at hr_28 he_29
              have hM_29 := hM_23.tr0 hM_290 hz_23 (by intro r; simp)
              have hz_29 := hz_290.trans hz_23
              have hT_29 := hT_290.trans hT_23
              clear hz1 hk1 hvm ht hM_290 hz_290 hT_290
              obtain ⟨hr_28b, hr_28p⟩ := hr_28
              have hr_28' := jb_01 hr_28b
              refine lv_if_eq (tgt := 210) hx hb dX10_isOne_183 (by decide) (fun c_31 => ?_) (fun c_31 => ?_)
              · skip
                have c_31' : r_28.toInt = 0 := jb_eq (rfl) ((by decide)) c_31
                refine lv_iconst (v := 0) hx hb dX10_isOne_210 (by decide) ?_
                rw [hQ]
                exact W.zret (v := 0) hx hb hr (jb_nz (Or.inl rfl)) (fun t ht hW => ⟨⟨0, (tk_29, at_29, nc_29), rfl, ⟨(Or.inl rfl), by refine ⟨?_, ?_, ?_, ?_, ?_, ?_⟩ <;> first | rfl | omega | (left; omega) | (right; omega) | exact Or.inl ⟨by decide, rfl⟩ | (simp only; omega)⟩, by rw [ht]; try exact hX_29, by rw [ht]; try exact he_29, by rw [ht]; try exact hM_29, by rw [ht]; try exact hz_29, by rw [ht]; try exact hT_29⟩, by rw [ht]; try exact hS_29.1, fun q h9 hq => by rw [ht]; try exact hS_29.2.1 q h9 hq⟩) hS_29.2.2 dX10_isOne_211
              · skip
                have c_31' : r_28.toInt ≠ 0 := jb_eq_n (rfl) ((by decide)) c_31
                refine lv_aload_n hx hb dX10_isOne_186 rfl (lv_at hl 4 rfl) ?_
                refine lv_iload hx hb dX10_isOne_187 (lv_at hl 0 rfl) ?_
                obtain ⟨names_34, kinds_34, values_34, word_34, told_34, toldCount_34, terms_34, nodes_34, f_kinds_34, f_values_34, f_told_34, f_nodes_34, hat_a_34, hat_kinds_34, hat_values_34, hat_told_34, hat_nodes_34, hg_kinds_34, hg_values_34, hg_told_34, hg_nodes_34, hg_names_34, hf0_34, hf1_34⟩ := id he_29
                have hlt_names_34 := hX_29.2 _ _ hg_names_34
                have hrt_names_34 : jRoot G0 names_34 := ⟨_, _, hg_names_34, by omega⟩
                refine va_calli (A0 := jA base) (H0 := s.heap) (va_runV (As := [.int z_19]) (rest := []) ⟨hx, hb, hml, hown, hts⟩ (tX10_addNode l dC dI ca base B hB G0 X H1 a z_19 tk_29 at_29 nc_29) (cwV 1 hts gX10_isOne_X10_addNode rfl rfl rfl (by decide +kernel) ⟨by rw [← hR]; show (0) + 1 ≤ 5 * ef + 5; omega, by rw [← hR]; show 8 + (2 + 11) + (0) ≤ 160 * ef + 200; omega⟩) ⟨fun a U g mk q => by obtain ⟨q0, q1, q2, qK, q9⟩ := q; exact ⟨q0, q1, q2, jG.calling g mk a qK, q9⟩, va_recv hK (jp_one hat_a_34) (ci := 12) (q0 := 0) rfl rfl, fun U hU hW => ⟨rfl, hU, hX_29, hG.step hW hU hS_29, hg_a, hm_a, he_29, by refine ⟨?_, ?_, ?_, ?_, ?_, ?_⟩ <;> omega⟩⟩ rfl rfl hl.1 rfl (lv_room (Nat.le_of_ble_eq_true rfl)) dX10_isOne_189 ⟨Nat.zero_le _, Nat.zero_le _⟩) hS_29 (fun q _ h => h) (fun q h => h) (fun r_32 u t H1 locs1 ht hvm hr_32 hBb hz1 hk1 hS_33 => ?_)
                obtain ⟨tk_33, at_33, nc_33⟩ := u
                obtain ⟨hX_33, he_33, hM_330, hz_330, hT_330⟩ := hBb
                rw [ht] at hX_33 he_33 hM_330 hz_330 hT_330
                simp only at hr_32 he_33
                have hM_33 := hM_29.tr0 hM_330 hz_29 (by intro r; simp)
                have hz_33 := hz_330.trans hz_29
                have hT_33 := hT_330.trans hT_29
                clear hz1 hk1 hvm ht hM_330 hz_330 hT_330
                obtain ⟨hr_32b, hr_32p⟩ := hr_32
                have hr_32' := jb_01 hr_32b
                refine lv_if_eq (tgt := 210) hx hb dX10_isOne_192 (by decide) (fun c_35 => ?_) (fun c_35 => ?_)
                · skip
                  have c_35' : r_32.toInt = 0 := jb_eq (rfl) ((by decide)) c_35
                  refine lv_iconst (v := 0) hx hb dX10_isOne_210 (by decide) ?_
                  rw [hQ]
                  exact W.zret (v := 0) hx hb hr (jb_nz (Or.inl rfl)) (fun t ht hW => ⟨⟨0, (tk_33, at_33, nc_33), rfl, ⟨(Or.inl rfl), by refine ⟨?_, ?_, ?_, ?_, ?_, ?_⟩ <;> first | rfl | omega | (left; omega) | (right; omega) | exact Or.inl ⟨by decide, rfl⟩ | (simp only; omega)⟩, by rw [ht]; try exact hX_33, by rw [ht]; try exact he_33, by rw [ht]; try exact hM_33, by rw [ht]; try exact hz_33, by rw [ht]; try exact hT_33⟩, by rw [ht]; try exact hS_33.1, fun q h9 hq => by rw [ht]; try exact hS_33.2.1 q h9 hq⟩) hS_33.2.2 dX10_isOne_211
                · skip
                  have c_35' : r_32.toInt ≠ 0 := jb_eq_n (rfl) ((by decide)) c_35
                  refine lv_aload_n hx hb dX10_isOne_195 rfl (lv_at hl 4 rfl) ?_
                  refine lv_iconst (v := 0) hx hb dX10_isOne_196 (by decide) ?_
                  refine lv_iload_n hx hb dX10_isOne_197 rfl (lv_at hl 5 rfl) ?_
                  refine lv_iconst (v := 1) hx hb dX10_isOne_198 (by decide) ?_
                  refine lv_iadd hx hb dX10_isOne_199 ?_
                  refine lv_topi (fun z_36 ez_36 => ?_)
                  have hz_36 : z_36.toInt = dp.toInt + 1 := by rw [ez_36]; exact jb_iadd (rfl) ((by decide)) (by omega) (by omega)
                  obtain ⟨names_39, kinds_39, values_39, word_39, told_39, toldCount_39, terms_39, nodes_39, f_kinds_39, f_values_39, f_told_39, f_nodes_39, hat_a_39, hat_kinds_39, hat_values_39, hat_told_39, hat_nodes_39, hg_kinds_39, hg_values_39, hg_told_39, hg_nodes_39, hg_names_39, hf0_39, hf1_39⟩ := id he_33
                  have hlt_names_39 := hX_33.2 _ _ hg_names_39
                  have hrt_names_39 : jRoot G0 names_39 := ⟨_, _, hg_names_39, by omega⟩
                  refine va_calli (A0 := jA base) (H0 := s.heap) (va_runV (As := [.int 0, .int z_36]) (rest := []) ⟨hx, hb, hml, hown, hts⟩ (ihC (ef - 1) (by omega) G0 X H1 a 0 z_36 tk_33 at_33 nc_33) (cwV 2 hts gX10_isOne_X10_isChain rfl rfl rfl (by decide +kernel) ⟨by rw [← hR]; show (5 * (ef - 1) + 6 + 2) + 1 ≤ 5 * ef + 5; omega, by rw [← hR]; show 8 + (6 + 11) + (160 * (ef - 1) + 230 + 30 * 2) ≤ 160 * ef + 200; omega⟩) ⟨fun a U g mk q => by obtain ⟨q0, q1, q2, qK, q9⟩ := q; exact ⟨q0, q1, q2, jG.calling g mk a qK, q9⟩, va_recv hK (jp_one hat_a_39) (ci := 12) (q0 := 0) rfl rfl, fun U hU hW => ⟨rfl, hU, hX_33, hG.step hW hU hS_33, hg_a, hm_a, he_33, by refine ⟨?_, ?_, ?_, ?_, ?_, ?_, ?_, ?_, ?_, ?_⟩ <;> omega⟩⟩ rfl rfl hl.1 rfl (lv_room (Nat.le_of_ble_eq_true rfl)) dX10_isOne_200 ⟨Nat.zero_le _, Nat.zero_le _⟩) hS_33 (fun q _ h => h) (fun q h => h) (fun r_37 u t H1 locs1 ht hvm hr_37 hBb hz1 hk1 hS_38 => ?_)
                  obtain ⟨tk_38, at_38, nc_38⟩ := u
                  obtain ⟨hX_38, he_38, hM_380, hz_380, hT_380⟩ := hBb
                  rw [ht] at hX_38 he_38 hM_380 hz_380 hT_380
                  simp only at hr_37 he_38
                  have hM_38 := hM_33.tr0 hM_380 hz_33 (by intro r; simp)
                  have hz_38 := hz_380.trans hz_33
                  have hT_38 := hT_380.trans hT_33
                  clear hz1 hk1 hvm ht hM_380 hz_380 hT_380
                  obtain ⟨hr_37b, hr_37p⟩ := hr_37
                  have hr_37' := jb_01 hr_37b
                  refine lv_if_eq (tgt := 210) hx hb dX10_isOne_203 (by decide) (fun c_40 => ?_) (fun c_40 => ?_)
                  · skip
                    have c_40' : r_37.toInt = 0 := jb_eq (rfl) ((by decide)) c_40
                    refine lv_iconst (v := 0) hx hb dX10_isOne_210 (by decide) ?_
                    rw [hQ]
                    exact W.zret (v := 0) hx hb hr (jb_nz (Or.inl rfl)) (fun t ht hW => ⟨⟨0, (tk_38, at_38, nc_38), rfl, ⟨(Or.inl rfl), by refine ⟨?_, ?_, ?_, ?_, ?_, ?_⟩ <;> first | rfl | omega | (left; omega) | (right; omega) | exact Or.inl ⟨by decide, rfl⟩ | (simp only; omega)⟩, by rw [ht]; try exact hX_38, by rw [ht]; try exact he_38, by rw [ht]; try exact hM_38, by rw [ht]; try exact hz_38, by rw [ht]; try exact hT_38⟩, by rw [ht]; try exact hS_38.1, fun q h9 hq => by rw [ht]; try exact hS_38.2.1 q h9 hq⟩) hS_38.2.2 dX10_isOne_211
                  · skip
                    have c_40' : r_37.toInt ≠ 0 := jb_eq_n (rfl) ((by decide)) c_40
                    refine lv_iconst (v := 1) hx hb dX10_isOne_206 (by decide) ?_
                    refine lv_goto (tgt := 211) hx hb dX10_isOne_207 (by decide) ?_
                    rw [hQ]
                    exact W.zret (v := 1) hx hb hr (jb_nz (Or.inr rfl)) (fun t ht hW => ⟨⟨1, (tk_38, at_38, nc_38), rfl, ⟨(Or.inr rfl), by refine ⟨?_, ?_, ?_, ?_, ?_, ?_⟩ <;> first | rfl | omega | (left; omega) | (right; omega) | exact Or.inl ⟨by decide, rfl⟩ | (simp only; omega)⟩, by rw [ht]; try exact hX_38, by rw [ht]; try exact he_38, by rw [ht]; try exact hM_38, by rw [ht]; try exact hz_38, by rw [ht]; try exact hT_38⟩, by rw [ht]; try exact hS_38.1, fun q h9 hq => by rw [ht]; try exact hS_38.2.1 q h9 hq⟩) hS_38.2.2 dX10_isOne_211
        · skip
          have c_17' : r_4.toInt = 0 := jb_ne_n (rfl) ((by decide)) c_17
          refine lv_iconst (v := 5) hx hb dX10_isOne_141 (by decide) ?_
          refine lv_goto (tgt := 147) hx hb dX10_isOne_142 (by decide) ?_
          refine lv_iload hx hb dX10_isOne_147 (lv_at hl 0 rfl) ?_
          refine lv_bipush (v := 15) hx hb dX10_isOne_149 (by decide) ?_
          refine lv_ishl hx hb dX10_isOne_151 ?_
          refine lv_topi (fun z_41 ez_41 => ?_)
          refine lv_ior hx hb dX10_isOne_152 ?_
          refine lv_topi (fun z_42 ez_42 => ?_)
          refine lv_istore (lv' := [(5, .int z_42), (4, .int r_14), (3, .int r_4), (2, .int r_1), (0, .ref a), (1, .int dp)]) hx hb dX10_isOne_153 hl (by decide) rfl (fun ls hl => ?_)
          refine lv_aload_n hx hb dX10_isOne_155 rfl (lv_at hl 4 rfl) ?_
          refine lv_dup hx hb dX10_isOne_156 rfl ?_
          obtain ⟨names_43, kinds_43, values_43, word_43, told_43, toldCount_43, terms_43, nodes_43, f_kinds_43, f_values_43, f_told_43, f_nodes_43, hat_a_43, hat_kinds_43, hat_values_43, hat_told_43, hat_nodes_43, hg_kinds_43, hg_values_43, hg_told_43, hg_nodes_43, hg_names_43, hf0_43, hf1_43⟩ := id he_15
          have hlt_names_43 := hX_15.2 _ _ hg_names_43
          have hrt_names_43 : jRoot G0 names_43 := ⟨_, _, hg_names_43, by omega⟩
          refine va_get (D := (dC, dI)) (ci := 12) (v := .int at_15) (C := RX10) (T := TX10) (N := 11) hx hb hts hin_12 hown hK (jp_one hat_a_43) 0 rfl rfl 4 (by decide) (hts (.fieldLink RX10 83 "ProofServer$Syntax" "at" "I") (by decide +kernel)) (fun _ h9 => h9) rfl dX10_isOne_157 ?_
          refine lv_iconst (v := 1) hx hb dX10_isOne_160 (by decide) ?_
          refine lv_iadd hx hb dX10_isOne_161 ?_
          refine lv_topi (fun z_44 ez_44 => ?_)
          have hz_44 : z_44.toInt = at_15.toInt + 1 := by rw [ez_44]; exact jb_iadd (rfl) ((by decide)) (by omega) (by omega)
          refine j_put (D := (dC, dI)) (ci := 12) (v := .int z_44) (ty := .int) (C := RX10) (T := TX10) (N := 11) (A := jA base) hx hb hts hin_12 tyX10 tyX10_ok nmX10 hown hK hat_a_43 (hX_15.2 _ _ hg_a).1 hS_15.2.2 rfl 4 (by decide) (hts (.fieldLink RX10 83 "ProofServer$Syntax" "at" "I") (by decide +kernel)) (fun _ h9 => h9) rfl (by decide +kernel) rfl rfl (Nat.le_of_ble_eq_true rfl) dX10_isOne_162 (fun H1 locs1 hat1 hsz1 hfr1 hT1 hL1 => ?_)
          have hX_46 := hX_15.put hB hg_a (by omega) jSup.root hm_a hsz1 hfr1
          have hM_46 := hM_15.put jExt.rf hrt_a jSup.root (by simp) hfr1
          have hz_46 := hsz1.trans hz_15
          have hT_46 := hT1.trans hT_15
          have hS_46 := jS_put hS_15 hsz1 hfr1 (hX_15.2 _ _ hg_a).1 hL1
          have hat_kinds_43_46 := hat_kinds_43.kept (hfr1 _ (jne hg_kinds_43 hg_a (by simp)))
          have hat_values_43_46 := hat_values_43.kept (hfr1 _ (jne hg_values_43 hg_a (by simp)))
          have hat_told_43_46 := hat_told_43.kept (hfr1 _ (jne hg_told_43 hg_a (by simp)))
          have hat_nodes_43_46 := hat_nodes_43.kept (hfr1 _ (jne hg_nodes_43 hg_a (by simp)))
          clear hfr1 hsz1 hT1 hL1 hat_a_43 hat_kinds_43 hat_values_43 hat_told_43 hat_nodes_43 hX_15 hM_15 hz_15 hT_15 hS_15
          have hat_a_46 : va_at (dC, dI) vwCl (a, .inr (12, [.ref names_43, .ref kinds_43, .ref values_43, .int tk_15, .int z_44, .int word_43, .ref told_43, .int toldCount_43, .int terms_43, .ref nodes_43, .int nc_15])) H1 := hat1
          clear hat1
          refine lv_iload_n hx hb dX10_isOne_165 rfl (lv_at hl 5 rfl) ?_
          refine lv_bipush (v := 12) hx hb dX10_isOne_166 (by decide) ?_
          refine lv_icmp_ge (tgt := 210) hx hb dX10_isOne_168 (by decide) (fun c_47 => ?_) (fun c_47 => ?_)
          · skip
            have c_47' : dp.toInt ≥ 12 := jb_ge (rfl) ((by decide)) c_47
            refine lv_iconst (v := 0) hx hb dX10_isOne_210 (by decide) ?_
            have he_48 : jB12e dC dI ca G0 a tk_15 z_44 nc_15 H1 := ⟨names_43, kinds_43, values_43, word_43, told_43, toldCount_43, terms_43, nodes_43, f_kinds_43, f_values_43, f_told_43, f_nodes_43, hat_a_46, hat_kinds_43_46, hat_values_43_46, hat_told_43_46, hat_nodes_43_46, hg_kinds_43, hg_values_43, hg_told_43, hg_nodes_43, hg_names_43, by first | omega | assumption | (simp; done) | exact Or.inl rfl | exact Or.inr rfl, by first | omega | assumption | (simp; done) | exact Or.inl rfl | exact Or.inr rfl⟩
            rw [hQ]
            exact W.zret (v := 0) hx hb hr (jb_nz (Or.inl rfl)) (fun t ht hW => ⟨⟨0, (tk_15, z_44, nc_15), rfl, ⟨(Or.inl rfl), by refine ⟨?_, ?_, ?_, ?_, ?_, ?_⟩ <;> first | rfl | omega | (left; omega) | (right; omega) | exact Or.inl ⟨by decide, rfl⟩ | (simp only; omega)⟩, by rw [ht]; try exact hX_46, by rw [ht]; try exact he_48, by rw [ht]; try exact hM_46, by rw [ht]; try exact hz_46, by rw [ht]; try exact hT_46⟩, by rw [ht]; try exact hS_46.1, fun q h9 hq => by rw [ht]; try exact hS_46.2.1 q h9 hq⟩) hS_46.2.2 dX10_isOne_211
          · skip
            have c_47' : dp.toInt < 12 := jb_ge_n (rfl) ((by decide)) c_47
            refine lv_iload hx hb dX10_isOne_171 (lv_at hl 1 rfl) ?_
            refine lv_iconst (v := 2) hx hb dX10_isOne_173 (by decide) ?_
            refine lv_icmp_le (tgt := 210) hx hb dX10_isOne_174 (by decide) (fun c_49 => ?_) (fun c_49 => ?_)
            · skip
              have c_49' : r_14.toInt ≤ 2 := jb_le (rfl) ((by decide)) c_49
              refine lv_iconst (v := 0) hx hb dX10_isOne_210 (by decide) ?_
              have he_50 : jB12e dC dI ca G0 a tk_15 z_44 nc_15 H1 := ⟨names_43, kinds_43, values_43, word_43, told_43, toldCount_43, terms_43, nodes_43, f_kinds_43, f_values_43, f_told_43, f_nodes_43, hat_a_46, hat_kinds_43_46, hat_values_43_46, hat_told_43_46, hat_nodes_43_46, hg_kinds_43, hg_values_43, hg_told_43, hg_nodes_43, hg_names_43, by first | omega | assumption | (simp; done) | exact Or.inl rfl | exact Or.inr rfl, by first | omega | assumption | (simp; done) | exact Or.inl rfl | exact Or.inr rfl⟩
              rw [hQ]
              exact W.zret (v := 0) hx hb hr (jb_nz (Or.inl rfl)) (fun t ht hW => ⟨⟨0, (tk_15, z_44, nc_15), rfl, ⟨(Or.inl rfl), by refine ⟨?_, ?_, ?_, ?_, ?_, ?_⟩ <;> first | rfl | omega | (left; omega) | (right; omega) | exact Or.inl ⟨by decide, rfl⟩ | (simp only; omega)⟩, by rw [ht]; try exact hX_46, by rw [ht]; try exact he_50, by rw [ht]; try exact hM_46, by rw [ht]; try exact hz_46, by rw [ht]; try exact hT_46⟩, by rw [ht]; try exact hS_46.1, fun q h9 hq => by rw [ht]; try exact hS_46.2.1 q h9 hq⟩) hS_46.2.2 dX10_isOne_211
            · skip
              have c_49' : r_14.toInt > 2 := jb_le_n (rfl) ((by decide)) c_49
              refine lv_aload_n hx hb dX10_isOne_177 rfl (lv_at hl 4 rfl) ?_
              refine lv_bipush (v := 44) hx hb dX10_isOne_178 (by decide) ?_
              have he_53 : jB12e dC dI ca G0 a tk_15 z_44 nc_15 H1 := ⟨names_43, kinds_43, values_43, word_43, told_43, toldCount_43, terms_43, nodes_43, f_kinds_43, f_values_43, f_told_43, f_nodes_43, hat_a_46, hat_kinds_43_46, hat_values_43_46, hat_told_43_46, hat_nodes_43_46, hg_kinds_43, hg_values_43, hg_told_43, hg_nodes_43, hg_names_43, by first | omega | assumption | (simp; done) | exact Or.inl rfl | exact Or.inr rfl, by first | omega | assumption | (simp; done) | exact Or.inl rfl | exact Or.inr rfl⟩
              refine va_calli (A0 := jA base) (H0 := s.heap) (va_runV (As := [.int 44]) (rest := []) ⟨hx, hb, hml, hown, hts⟩ (tX10_isSign l dC dI ca base B hB G0 X H1 a 44 tk_15 z_44 nc_15) (cwV 1 hts gX10_isOne_X10_isSign rfl rfl rfl (by decide +kernel) ⟨by rw [← hR]; show (0) + 1 ≤ 5 * ef + 5; omega, by rw [← hR]; show 8 + (3 + 11) + (0) ≤ 160 * ef + 200; omega⟩) ⟨fun a U g mk q => by obtain ⟨q0, q1, q2, qK, q9⟩ := q; exact ⟨q0, q1, q2, jG.calling g mk a qK, q9⟩, va_recv hK (jp_one hat_a_46) (ci := 12) (q0 := 0) rfl rfl, fun U hU hW => ⟨rfl, hU, hX_46, hG.step hW hU hS_46, hg_a, hm_a, he_53, by refine ⟨?_, ?_, ?_, ?_, ?_, ?_⟩ <;> omega⟩⟩ rfl rfl hl.1 rfl (lv_room (Nat.le_of_ble_eq_true rfl)) dX10_isOne_180 ⟨Nat.zero_le _, Nat.zero_le _⟩) hS_46 (fun q _ h => h) (fun q h => h) (fun r_51 u t H1 locs1 ht hvm hr_51 hBb hz1 hk1 hS_52 => ?_)
              obtain ⟨tk_52, at_52, nc_52⟩ := u
              obtain ⟨hX_52, he_52, hM_520, hz_520, hT_520⟩ := hBb
              rw [ht] at hX_52 he_52 hM_520 hz_520 hT_520
              simp only at hr_51 he_52
              have hM_52 := hM_46.tr0 hM_520 hz_46 (by intro r; simp)
              have hz_52 := hz_520.trans hz_46
              have hT_52 := hT_520.trans hT_46
              clear hz1 hk1 hvm ht hM_520 hz_520 hT_520
              obtain ⟨hr_51b, hr_51p⟩ := hr_51
              have hr_51' := jb_01 hr_51b
              refine lv_if_eq (tgt := 210) hx hb dX10_isOne_183 (by decide) (fun c_54 => ?_) (fun c_54 => ?_)
              · skip
                have c_54' : r_51.toInt = 0 := jb_eq (rfl) ((by decide)) c_54
                refine lv_iconst (v := 0) hx hb dX10_isOne_210 (by decide) ?_
                rw [hQ]
                exact W.zret (v := 0) hx hb hr (jb_nz (Or.inl rfl)) (fun t ht hW => ⟨⟨0, (tk_52, at_52, nc_52), rfl, ⟨(Or.inl rfl), by refine ⟨?_, ?_, ?_, ?_, ?_, ?_⟩ <;> first | rfl | omega | (left; omega) | (right; omega) | exact Or.inl ⟨by decide, rfl⟩ | (simp only; omega)⟩, by rw [ht]; try exact hX_52, by rw [ht]; try exact he_52, by rw [ht]; try exact hM_52, by rw [ht]; try exact hz_52, by rw [ht]; try exact hT_52⟩, by rw [ht]; try exact hS_52.1, fun q h9 hq => by rw [ht]; try exact hS_52.2.1 q h9 hq⟩) hS_52.2.2 dX10_isOne_211
              · skip
                have c_54' : r_51.toInt ≠ 0 := jb_eq_n (rfl) ((by decide)) c_54
                refine lv_aload_n hx hb dX10_isOne_186 rfl (lv_at hl 4 rfl) ?_
                refine lv_iload hx hb dX10_isOne_187 (lv_at hl 0 rfl) ?_
                obtain ⟨names_57, kinds_57, values_57, word_57, told_57, toldCount_57, terms_57, nodes_57, f_kinds_57, f_values_57, f_told_57, f_nodes_57, hat_a_57, hat_kinds_57, hat_values_57, hat_told_57, hat_nodes_57, hg_kinds_57, hg_values_57, hg_told_57, hg_nodes_57, hg_names_57, hf0_57, hf1_57⟩ := id he_52
                have hlt_names_57 := hX_52.2 _ _ hg_names_57
                have hrt_names_57 : jRoot G0 names_57 := ⟨_, _, hg_names_57, by omega⟩
                refine va_calli (A0 := jA base) (H0 := s.heap) (va_runV (As := [.int z_42]) (rest := []) ⟨hx, hb, hml, hown, hts⟩ (tX10_addNode l dC dI ca base B hB G0 X H1 a z_42 tk_52 at_52 nc_52) (cwV 1 hts gX10_isOne_X10_addNode rfl rfl rfl (by decide +kernel) ⟨by rw [← hR]; show (0) + 1 ≤ 5 * ef + 5; omega, by rw [← hR]; show 8 + (2 + 11) + (0) ≤ 160 * ef + 200; omega⟩) ⟨fun a U g mk q => by obtain ⟨q0, q1, q2, qK, q9⟩ := q; exact ⟨q0, q1, q2, jG.calling g mk a qK, q9⟩, va_recv hK (jp_one hat_a_57) (ci := 12) (q0 := 0) rfl rfl, fun U hU hW => ⟨rfl, hU, hX_52, hG.step hW hU hS_52, hg_a, hm_a, he_52, by refine ⟨?_, ?_, ?_, ?_, ?_, ?_⟩ <;> omega⟩⟩ rfl rfl hl.1 rfl (lv_room (Nat.le_of_ble_eq_true rfl)) dX10_isOne_189 ⟨Nat.zero_le _, Nat.zero_le _⟩) hS_52 (fun q _ h => h) (fun q h => h) (fun r_55 u t H1 locs1 ht hvm hr_55 hBb hz1 hk1 hS_56 => ?_)
                obtain ⟨tk_56, at_56, nc_56⟩ := u
                obtain ⟨hX_56, he_56, hM_560, hz_560, hT_560⟩ := hBb
                rw [ht] at hX_56 he_56 hM_560 hz_560 hT_560
                simp only at hr_55 he_56
                have hM_56 := hM_52.tr0 hM_560 hz_52 (by intro r; simp)
                have hz_56 := hz_560.trans hz_52
                have hT_56 := hT_560.trans hT_52
                clear hz1 hk1 hvm ht hM_560 hz_560 hT_560
                obtain ⟨hr_55b, hr_55p⟩ := hr_55
                have hr_55' := jb_01 hr_55b
                refine lv_if_eq (tgt := 210) hx hb dX10_isOne_192 (by decide) (fun c_58 => ?_) (fun c_58 => ?_)
                · skip
                  have c_58' : r_55.toInt = 0 := jb_eq (rfl) ((by decide)) c_58
                  refine lv_iconst (v := 0) hx hb dX10_isOne_210 (by decide) ?_
                  rw [hQ]
                  exact W.zret (v := 0) hx hb hr (jb_nz (Or.inl rfl)) (fun t ht hW => ⟨⟨0, (tk_56, at_56, nc_56), rfl, ⟨(Or.inl rfl), by refine ⟨?_, ?_, ?_, ?_, ?_, ?_⟩ <;> first | rfl | omega | (left; omega) | (right; omega) | exact Or.inl ⟨by decide, rfl⟩ | (simp only; omega)⟩, by rw [ht]; try exact hX_56, by rw [ht]; try exact he_56, by rw [ht]; try exact hM_56, by rw [ht]; try exact hz_56, by rw [ht]; try exact hT_56⟩, by rw [ht]; try exact hS_56.1, fun q h9 hq => by rw [ht]; try exact hS_56.2.1 q h9 hq⟩) hS_56.2.2 dX10_isOne_211
                · skip
                  have c_58' : r_55.toInt ≠ 0 := jb_eq_n (rfl) ((by decide)) c_58
                  refine lv_aload_n hx hb dX10_isOne_195 rfl (lv_at hl 4 rfl) ?_
                  refine lv_iconst (v := 0) hx hb dX10_isOne_196 (by decide) ?_
                  refine lv_iload_n hx hb dX10_isOne_197 rfl (lv_at hl 5 rfl) ?_
                  refine lv_iconst (v := 1) hx hb dX10_isOne_198 (by decide) ?_
                  refine lv_iadd hx hb dX10_isOne_199 ?_
                  refine lv_topi (fun z_59 ez_59 => ?_)
                  have hz_59 : z_59.toInt = dp.toInt + 1 := by rw [ez_59]; exact jb_iadd (rfl) ((by decide)) (by omega) (by omega)
                  obtain ⟨names_62, kinds_62, values_62, word_62, told_62, toldCount_62, terms_62, nodes_62, f_kinds_62, f_values_62, f_told_62, f_nodes_62, hat_a_62, hat_kinds_62, hat_values_62, hat_told_62, hat_nodes_62, hg_kinds_62, hg_values_62, hg_told_62, hg_nodes_62, hg_names_62, hf0_62, hf1_62⟩ := id he_56
                  have hlt_names_62 := hX_56.2 _ _ hg_names_62
                  have hrt_names_62 : jRoot G0 names_62 := ⟨_, _, hg_names_62, by omega⟩
                  refine va_calli (A0 := jA base) (H0 := s.heap) (va_runV (As := [.int 0, .int z_59]) (rest := []) ⟨hx, hb, hml, hown, hts⟩ (ihC (ef - 1) (by omega) G0 X H1 a 0 z_59 tk_56 at_56 nc_56) (cwV 2 hts gX10_isOne_X10_isChain rfl rfl rfl (by decide +kernel) ⟨by rw [← hR]; show (5 * (ef - 1) + 6 + 2) + 1 ≤ 5 * ef + 5; omega, by rw [← hR]; show 8 + (6 + 11) + (160 * (ef - 1) + 230 + 30 * 2) ≤ 160 * ef + 200; omega⟩) ⟨fun a U g mk q => by obtain ⟨q0, q1, q2, qK, q9⟩ := q; exact ⟨q0, q1, q2, jG.calling g mk a qK, q9⟩, va_recv hK (jp_one hat_a_62) (ci := 12) (q0 := 0) rfl rfl, fun U hU hW => ⟨rfl, hU, hX_56, hG.step hW hU hS_56, hg_a, hm_a, he_56, by refine ⟨?_, ?_, ?_, ?_, ?_, ?_, ?_, ?_, ?_, ?_⟩ <;> omega⟩⟩ rfl rfl hl.1 rfl (lv_room (Nat.le_of_ble_eq_true rfl)) dX10_isOne_200 ⟨Nat.zero_le _, Nat.zero_le _⟩) hS_56 (fun q _ h => h) (fun q h => h) (fun r_60 u t H1 locs1 ht hvm hr_60 hBb hz1 hk1 hS_61 => ?_)
                  obtain ⟨tk_61, at_61, nc_61⟩ := u
                  obtain ⟨hX_61, he_61, hM_610, hz_610, hT_610⟩ := hBb
                  rw [ht] at hX_61 he_61 hM_610 hz_610 hT_610
                  simp only at hr_60 he_61
                  have hM_61 := hM_56.tr0 hM_610 hz_56 (by intro r; simp)
                  have hz_61 := hz_610.trans hz_56
                  have hT_61 := hT_610.trans hT_56
                  clear hz1 hk1 hvm ht hM_610 hz_610 hT_610
                  obtain ⟨hr_60b, hr_60p⟩ := hr_60
                  have hr_60' := jb_01 hr_60b
                  refine lv_if_eq (tgt := 210) hx hb dX10_isOne_203 (by decide) (fun c_63 => ?_) (fun c_63 => ?_)
                  · skip
                    have c_63' : r_60.toInt = 0 := jb_eq (rfl) ((by decide)) c_63
                    refine lv_iconst (v := 0) hx hb dX10_isOne_210 (by decide) ?_
                    rw [hQ]
                    exact W.zret (v := 0) hx hb hr (jb_nz (Or.inl rfl)) (fun t ht hW => ⟨⟨0, (tk_61, at_61, nc_61), rfl, ⟨(Or.inl rfl), by refine ⟨?_, ?_, ?_, ?_, ?_, ?_⟩ <;> first | rfl | omega | (left; omega) | (right; omega) | exact Or.inl ⟨by decide, rfl⟩ | (simp only; omega)⟩, by rw [ht]; try exact hX_61, by rw [ht]; try exact he_61, by rw [ht]; try exact hM_61, by rw [ht]; try exact hz_61, by rw [ht]; try exact hT_61⟩, by rw [ht]; try exact hS_61.1, fun q h9 hq => by rw [ht]; try exact hS_61.2.1 q h9 hq⟩) hS_61.2.2 dX10_isOne_211
                  · skip
                    have c_63' : r_60.toInt ≠ 0 := jb_eq_n (rfl) ((by decide)) c_63
                    refine lv_iconst (v := 1) hx hb dX10_isOne_206 (by decide) ?_
                    refine lv_goto (tgt := 211) hx hb dX10_isOne_207 (by decide) ?_
                    rw [hQ]
                    exact W.zret (v := 1) hx hb hr (jb_nz (Or.inr rfl)) (fun t ht hW => ⟨⟨1, (tk_61, at_61, nc_61), rfl, ⟨(Or.inr rfl), by refine ⟨?_, ?_, ?_, ?_, ?_, ?_⟩ <;> first | rfl | omega | (left; omega) | (right; omega) | exact Or.inl ⟨by decide, rfl⟩ | (simp only; omega)⟩, by rw [ht]; try exact hX_61, by rw [ht]; try exact he_61, by rw [ht]; try exact hM_61, by rw [ht]; try exact hz_61, by rw [ht]; try exact hT_61⟩, by rw [ht]; try exact hS_61.1, fun q h9 hq => by rw [ht]; try exact hS_61.2.1 q h9 hq⟩) hS_61.2.2 dX10_isOne_211
      · skip
        have c_9' : r_4.toInt ≠ 0 := jb_eq_n (rfl) ((by decide)) c_9
        refine lv_iload_n hx hb dX10_isOne_116 rfl (lv_at hl 0 rfl) ?_
        refine lv_iconst (v := 1) hx hb dX10_isOne_117 (by decide) ?_
        refine lv_icmp_ne (tgt := 212) hx hb dX10_isOne_118 (by decide) (fun c_64 => ?_) (fun c_64 => ?_)
        · skip
          have c_64' : r_4.toInt ≠ 1 := jb_ne (rfl) ((by decide)) c_64
          refine lv_iload_n hx hb dX10_isOne_212 rfl (lv_at hl 0 rfl) ?_
          refine lv_iconst (v := 2) hx hb dX10_isOne_213 (by decide) ?_
          refine lv_icmp_ne (tgt := 233) hx hb dX10_isOne_214 (by decide) (fun c_65 => ?_) (fun c_65 => ?_)
          · skip
            have c_65' : r_4.toInt ≠ 2 := jb_ne (rfl) ((by decide)) c_65
            refine lv_aload_n hx hb dX10_isOne_233 rfl (lv_at hl 2 rfl) ?_
            obtain ⟨names_66, kinds_66, values_66, word_66, told_66, toldCount_66, terms_66, nodes_66, f_kinds_66, f_values_66, f_told_66, f_nodes_66, hat_a_66, hat_kinds_66, hat_values_66, hat_told_66, hat_nodes_66, hg_kinds_66, hg_values_66, hg_told_66, hg_nodes_66, hg_names_66, hf0_66, hf1_66⟩ := id he_5
            have hlt_names_66 := hX_5.2 _ _ hg_names_66
            have hrt_names_66 : jRoot G0 names_66 := ⟨_, _, hg_names_66, by omega⟩
            refine va_get (D := (dC, dI)) (ci := 12) (v := .int nc_5) (C := RX10) (T := TX10) (N := 11) hx hb hts hin_12 hown hK (jp_one hat_a_66) 0 rfl rfl 10 (by decide) (hts (.fieldLink RX10 89 "ProofServer$Syntax" "nodeCount" "I") (by decide +kernel)) (fun _ h9 => h9) rfl dX10_isOne_234 ?_
            refine lv_istore (lv' := [(4, .int nc_5), (3, .int r_4), (2, .int r_1), (0, .ref a), (1, .int dp)]) hx hb dX10_isOne_237 hl (by decide) rfl (fun ls hl => ?_)
            refine lv_aload_n hx hb dX10_isOne_239 rfl (lv_at hl 3 rfl) ?_
            refine lv_bipush (v := 7) hx hb dX10_isOne_240 (by decide) ?_
            refine lv_iload_n hx hb dX10_isOne_242 rfl (lv_at hl 4 rfl) ?_
            refine va_calli (A0 := jA base) (H0 := s.heap) (va_runV (As := [.int 7, .int dp]) (rest := []) ⟨hx, hb, hml, hown, hts⟩ (aX10_isTerm l dC dI ca base B hB ef G0 X H1 a 7 dp tk_5 at_5 nc_5) (cwV 2 hts gX10_isOne_X10_isTerm rfl rfl rfl (by decide +kernel) ⟨by rw [← hR]; show (ef + 3) + 1 ≤ 5 * ef + 5; omega, by rw [← hR]; show 8 + (6 + 11) + (60 * ef + 120) ≤ 160 * ef + 200; omega⟩) ⟨fun a U g mk q => by obtain ⟨q0, q1, q2, qK, q9⟩ := q; exact ⟨q0, q1, q2, jG.calling g mk a qK, q9⟩, va_recv hK (jp_one hat_a_66) (ci := 12) (q0 := 0) rfl rfl, fun U hU hW => ⟨rfl, hU, hX_5, hG.step hW hU hS_5, hg_a, hm_a, he_5, by refine ⟨?_, ?_, ?_, ?_, ?_, ?_, ?_, ?_⟩ <;> omega⟩⟩ rfl rfl hl.1 rfl (lv_room (Nat.le_of_ble_eq_true rfl)) dX10_isOne_243 ⟨Nat.zero_le _, Nat.zero_le _⟩) hS_5 (fun q _ h => h) (fun q h => h) (fun r_67 u t H1 locs1 ht hvm hr_67 hBb hz1 hk1 hS_68 => ?_)
            obtain ⟨tk_68, at_68, nc_68⟩ := u
            obtain ⟨hX_68, he_68, hM_680, hz_680, hT_680⟩ := hBb
            rw [ht] at hX_68 he_68 hM_680 hz_680 hT_680
            simp only at hr_67 he_68
            have hM_68 := hM_5.tr0 hM_680 hz_5 (by intro r; simp)
            have hz_68 := hz_680.trans hz_5
            have hT_68 := hT_680.trans hT_5
            clear hz1 hk1 hvm ht hM_680 hz_680 hT_680
            obtain ⟨hr_67b, hr_67p⟩ := hr_67
            have hr_67' := jb_01 hr_67b
            refine lv_if_ne (tgt := 251) hx hb dX10_isOne_246 (by decide) (fun c_69 => ?_) (fun c_69 => ?_)
            · skip
              have c_69' : r_67.toInt ≠ 0 := jb_ne (rfl) ((by decide)) c_69
              refine lv_aload_n hx hb dX10_isOne_251 rfl (lv_at hl 3 rfl) ?_
              obtain ⟨names_72, kinds_72, values_72, word_72, told_72, toldCount_72, terms_72, nodes_72, f_kinds_72, f_values_72, f_told_72, f_nodes_72, hat_a_72, hat_kinds_72, hat_values_72, hat_told_72, hat_nodes_72, hg_kinds_72, hg_values_72, hg_told_72, hg_nodes_72, hg_names_72, hf0_72, hf1_72⟩ := id he_68
              have hlt_names_72 := hX_68.2 _ _ hg_names_72
              have hrt_names_72 : jRoot G0 names_72 := ⟨_, _, hg_names_72, by omega⟩
              refine va_calli (A0 := jA base) (H0 := s.heap) (va_runV (As := []) (rest := []) ⟨hx, hb, hml, hown, hts⟩ (tX10_peek l dC dI ca base B hB G0 X H1 a tk_68 at_68 nc_68) (cwV 0 hts gX10_isOne_X10_peek rfl rfl rfl (by decide +kernel) ⟨by rw [← hR]; show (0) + 1 ≤ 5 * ef + 5; omega, by rw [← hR]; show 8 + (1 + 11) + (0) ≤ 160 * ef + 200; omega⟩) ⟨fun a U g mk q => by obtain ⟨q0, q1, q2, qK, q9⟩ := q; exact ⟨q0, q1, q2, jG.calling g mk a qK, q9⟩, va_recv hK (jp_one hat_a_72) (ci := 12) (q0 := 0) rfl rfl, fun U hU hW => ⟨rfl, hU, hX_68, hG.step hW hU hS_68, hg_a, hm_a, he_68, by refine ⟨?_, ?_, ?_, ?_, ?_, ?_⟩ <;> omega⟩⟩ rfl rfl hl.1 rfl (lv_room (Nat.le_of_ble_eq_true rfl)) dX10_isOne_252 ⟨Nat.zero_le _, Nat.zero_le _⟩) hS_68 (fun q _ h => h) (fun q h => h) (fun r_70 u t H1 locs1 ht hvm hr_70 hBb hz1 hk1 hS_71 => ?_)
              obtain ⟨tk_71, at_71, nc_71⟩ := u
              obtain ⟨hX_71, he_71, hM_710, hz_710, hT_710⟩ := hBb
              rw [ht] at hX_71 he_71 hM_710 hz_710 hT_710
              simp only at hr_70 he_71
              have hM_71 := hM_68.tr0 hM_710 hz_68 (by intro r; simp)
              have hz_71 := hz_710.trans hz_68
              have hT_71 := hT_710.trans hT_68
              clear hz1 hk1 hvm ht hM_710 hz_710 hT_710
              refine lv_bipush (v := 61) hx hb dX10_isOne_255 (by decide) ?_
              refine lv_icmp_eq (tgt := 262) hx hb dX10_isOne_257 (by decide) (fun c_73 => ?_) (fun c_73 => ?_)
              · skip
                have c_73' : r_70.toInt = 61 := jb_eq (rfl) ((by decide)) c_73
                refine lv_aload_n hx hb dX10_isOne_262 rfl (lv_at hl 3 rfl) ?_
                refine lv_dup hx hb dX10_isOne_263 rfl ?_
                obtain ⟨names_74, kinds_74, values_74, word_74, told_74, toldCount_74, terms_74, nodes_74, f_kinds_74, f_values_74, f_told_74, f_nodes_74, hat_a_74, hat_kinds_74, hat_values_74, hat_told_74, hat_nodes_74, hg_kinds_74, hg_values_74, hg_told_74, hg_nodes_74, hg_names_74, hf0_74, hf1_74⟩ := id he_71
                have hlt_names_74 := hX_71.2 _ _ hg_names_74
                have hrt_names_74 : jRoot G0 names_74 := ⟨_, _, hg_names_74, by omega⟩
                refine va_get (D := (dC, dI)) (ci := 12) (v := .int at_71) (C := RX10) (T := TX10) (N := 11) hx hb hts hin_12 hown hK (jp_one hat_a_74) 0 rfl rfl 4 (by decide) (hts (.fieldLink RX10 83 "ProofServer$Syntax" "at" "I") (by decide +kernel)) (fun _ h9 => h9) rfl dX10_isOne_264 ?_
                refine lv_iconst (v := 1) hx hb dX10_isOne_267 (by decide) ?_
                refine lv_iadd hx hb dX10_isOne_268 ?_
                refine lv_topi (fun z_75 ez_75 => ?_)
                have hz_75 : z_75.toInt = at_71.toInt + 1 := by rw [ez_75]; exact jb_iadd (rfl) ((by decide)) (by omega) (by omega)
                refine j_put (D := (dC, dI)) (ci := 12) (v := .int z_75) (ty := .int) (C := RX10) (T := TX10) (N := 11) (A := jA base) hx hb hts hin_12 tyX10 tyX10_ok nmX10 hown hK hat_a_74 (hX_71.2 _ _ hg_a).1 hS_71.2.2 rfl 4 (by decide) (hts (.fieldLink RX10 83 "ProofServer$Syntax" "at" "I") (by decide +kernel)) (fun _ h9 => h9) rfl (by decide +kernel) rfl rfl (Nat.le_of_ble_eq_true rfl) dX10_isOne_269 (fun H1 locs1 hat1 hsz1 hfr1 hT1 hL1 => ?_)
                have hX_77 := hX_71.put hB hg_a (by omega) jSup.root hm_a hsz1 hfr1
                have hM_77 := hM_71.put jExt.rf hrt_a jSup.root (by simp) hfr1
                have hz_77 := hsz1.trans hz_71
                have hT_77 := hT1.trans hT_71
                have hS_77 := jS_put hS_71 hsz1 hfr1 (hX_71.2 _ _ hg_a).1 hL1
                have hat_kinds_74_77 := hat_kinds_74.kept (hfr1 _ (jne hg_kinds_74 hg_a (by simp)))
                have hat_values_74_77 := hat_values_74.kept (hfr1 _ (jne hg_values_74 hg_a (by simp)))
                have hat_told_74_77 := hat_told_74.kept (hfr1 _ (jne hg_told_74 hg_a (by simp)))
                have hat_nodes_74_77 := hat_nodes_74.kept (hfr1 _ (jne hg_nodes_74 hg_a (by simp)))
                clear hfr1 hsz1 hT1 hL1 hat_a_74 hat_kinds_74 hat_values_74 hat_told_74 hat_nodes_74 hX_71 hM_71 hz_71 hT_71 hS_71
                have hat_a_77 : va_at (dC, dI) vwCl (a, .inr (12, [.ref names_74, .ref kinds_74, .ref values_74, .int tk_71, .int z_75, .int word_74, .ref told_74, .int toldCount_74, .int terms_74, .ref nodes_74, .int nc_71])) H1 := hat1
                clear hat1
                refine lv_aload_n hx hb dX10_isOne_272 rfl (lv_at hl 3 rfl) ?_
                refine va_get (D := (dC, dI)) (ci := 12) (v := .ref nodes_74) (C := RX10) (T := TX10) (N := 11) hx hb hts hin_12 hown hK (jp_one hat_a_77) 0 rfl rfl 9 (by decide) (hts (.fieldLink RX10 21 "ProofServer$Syntax" "nodes" "[I") (by decide +kernel)) (fun _ h9 => h9) rfl dX10_isOne_273 ?_
                refine lv_iload hx hb dX10_isOne_276 (lv_at hl 0 rfl) ?_
                refine lv_dup2_11 hx hb dX10_isOne_278 rfl rfl ?_
                have hiz_78 : _ := jb_in (i := nc_5) (n := 3000) (rfl) (by omega) (by omega)
                refine va_iald hx hb hK (jp_one hat_nodes_74_77) 0 1 rfl rfl hiz_78 dX10_isOne_279 ?_
                refine lv_topi (fun z_78 ez_78 => ?_)
                refine lv_iconst (v := 1) hx hb dX10_isOne_280 (by decide) ?_
                refine lv_iadd hx hb dX10_isOne_281 ?_
                refine lv_topi (fun z_79 ez_79 => ?_)
                refine j_iast (A := jA base) hx hb hK 1 hat_nodes_74_77 (hX_77.2 _ _ hg_nodes_74).1 hS_77.2.2 rfl (jb_in (i := nc_5) (n := 3000) (rfl) (by omega) (by omega)) dX10_isOne_282 (fun H1 locs1 hat1 hsz1 hfr1 hT1 hL1 => ?_)
                have hX_80 := hX_77.put hB hg_a (by omega) (jSup.own (i := 3) hg_nodes_74) hm_a hsz1 hfr1
                have hM_80 := hM_77.put jExt.rf hrt_a (jSup.own (i := 3) hg_nodes_74) (by simp) hfr1
                have hz_80 := hsz1.trans hz_77
                have hT_80 := hT1.trans hT_77
                have hS_80 := jS_put hS_77 hsz1 hfr1 (hX_77.2 _ _ hg_nodes_74).1 hL1
                have hat_a_80 := hat_a_77.kept (hfr1 _ (jne hg_a hg_nodes_74 (by simp)))
                have hat_kinds_74_80 := hat_kinds_74_77.kept (hfr1 _ (jne hg_kinds_74 hg_nodes_74 (by simp)))
                have hat_values_74_80 := hat_values_74_77.kept (hfr1 _ (jne hg_values_74 hg_nodes_74 (by simp)))
                have hat_told_74_80 := hat_told_74_77.kept (hfr1 _ (jne hg_told_74 hg_nodes_74 (by simp)))
                clear hfr1 hsz1 hT1 hL1 hat_nodes_74_77 hat_a_77 hat_kinds_74_77 hat_values_74_77 hat_told_74_77 hX_77 hM_77 hz_77 hT_77 hS_77
                have hat_nodes_74_80 : va_at (dC, dI) vwCl (nodes_74, .inl (ca 1, 3000, .inl (upd f_nodes_74 nc_5.toNatClampNeg z_79))) H1 := hat1
                clear hat1
                refine lv_aload_n hx hb dX10_isOne_283 rfl (lv_at hl 3 rfl) ?_
                refine lv_iload hx hb dX10_isOne_284 (lv_at hl 0 rfl) ?_
                refine lv_iconst (v := 4) hx hb dX10_isOne_286 (by decide) ?_
                have he_83 : jB12e dC dI ca G0 a tk_71 z_75 nc_71 H1 := ⟨names_74, kinds_74, values_74, word_74, told_74, toldCount_74, terms_74, nodes_74, f_kinds_74, f_values_74, f_told_74, (upd f_nodes_74 nc_5.toNatClampNeg z_79), hat_a_80, hat_kinds_74_80, hat_values_74_80, hat_told_74_80, hat_nodes_74_80, hg_kinds_74, hg_values_74, hg_told_74, hg_nodes_74, hg_names_74, by first | omega | assumption | (simp; done) | exact Or.inl rfl | exact Or.inr rfl, by first | omega | assumption | (simp; done) | exact Or.inl rfl | exact Or.inr rfl⟩
                refine va_calli (A0 := jA base) (H0 := s.heap) (va_runV (As := [.int nc_5, .int 4]) (rest := []) ⟨hx, hb, hml, hown, hts⟩ (tX10_insertNode l dC dI ca base B hB G0 X H1 a nc_5 4 tk_71 z_75 nc_71) (cwV 2 hts gX10_isOne_X10_insertNode rfl rfl rfl (by decide +kernel) ⟨by rw [← hR]; show (0) + 1 ≤ 5 * ef + 5; omega, by rw [← hR]; show 8 + (4 + 11) + (0) ≤ 160 * ef + 200; omega⟩) ⟨fun a U g mk q => by obtain ⟨q0, q1, q2, qK, q9⟩ := q; exact ⟨q0, q1, q2, jG.calling g mk a qK, q9⟩, va_recv hK (jp_one hat_a_80) (ci := 12) (q0 := 0) rfl rfl, fun U hU hW => ⟨rfl, hU, hX_80, hG.step hW hU hS_80, hg_a, hm_a, he_83, by refine ⟨?_, ?_, ?_, ?_, ?_, ?_⟩ <;> omega⟩⟩ rfl rfl hl.1 rfl (lv_room (Nat.le_of_ble_eq_true rfl)) dX10_isOne_287 ⟨Nat.zero_le _, Nat.zero_le _⟩) hS_80 (fun q _ h => h) (fun q h => h) (fun r_81 u t H1 locs1 ht hvm hr_81 hBb hz1 hk1 hS_82 => ?_)
                obtain ⟨tk_82, at_82, nc_82⟩ := u
                obtain ⟨hX_82, he_82, hM_820, hz_820, hT_820⟩ := hBb
                rw [ht] at hX_82 he_82 hM_820 hz_820 hT_820
                simp only at hr_81 he_82
                have hM_82 := hM_80.tr0 hM_820 hz_80 (by intro r; simp)
                have hz_82 := hz_820.trans hz_80
                have hT_82 := hT_820.trans hT_80
                clear hz1 hk1 hvm ht hM_820 hz_820 hT_820
                obtain ⟨hr_81b, hr_81p⟩ := hr_81
                have hr_81' := jb_01 hr_81b
                refine lv_if_eq (tgt := 307) hx hb dX10_isOne_290 (by decide) (fun c_84 => ?_) (fun c_84 => ?_)
                · skip
                  have c_84' : r_81.toInt = 0 := jb_eq (rfl) ((by decide)) c_84
                  refine lv_iconst (v := 0) hx hb dX10_isOne_307 (by decide) ?_
                  rw [hQ]
                  exact W.zret (v := 0) hx hb hr (jb_nz (Or.inl rfl)) (fun t ht hW => ⟨⟨0, (tk_82, at_82, nc_82), rfl, ⟨(Or.inl rfl), by refine ⟨?_, ?_, ?_, ?_, ?_, ?_⟩ <;> first | rfl | omega | (left; omega) | (right; omega) | exact Or.inl ⟨by decide, rfl⟩ | (simp only; omega)⟩, by rw [ht]; try exact hX_82, by rw [ht]; try exact he_82, by rw [ht]; try exact hM_82, by rw [ht]; try exact hz_82, by rw [ht]; try exact hT_82⟩, by rw [ht]; try exact hS_82.1, fun q h9 hq => by rw [ht]; try exact hS_82.2.1 q h9 hq⟩) hS_82.2.2 dX10_isOne_308
                · skip
                  have c_84' : r_81.toInt ≠ 0 := jb_eq_n (rfl) ((by decide)) c_84
                  refine lv_aload_n hx hb dX10_isOne_293 rfl (lv_at hl 3 rfl) ?_
                  refine lv_bipush (v := 8) hx hb dX10_isOne_294 (by decide) ?_
                  refine lv_iload_n hx hb dX10_isOne_296 rfl (lv_at hl 4 rfl) ?_
                  obtain ⟨names_87, kinds_87, values_87, word_87, told_87, toldCount_87, terms_87, nodes_87, f_kinds_87, f_values_87, f_told_87, f_nodes_87, hat_a_87, hat_kinds_87, hat_values_87, hat_told_87, hat_nodes_87, hg_kinds_87, hg_values_87, hg_told_87, hg_nodes_87, hg_names_87, hf0_87, hf1_87⟩ := id he_82
                  have hlt_names_87 := hX_82.2 _ _ hg_names_87
                  have hrt_names_87 : jRoot G0 names_87 := ⟨_, _, hg_names_87, by omega⟩
                  refine va_calli (A0 := jA base) (H0 := s.heap) (va_runV (As := [.int 8, .int dp]) (rest := []) ⟨hx, hb, hml, hown, hts⟩ (aX10_isTerm l dC dI ca base B hB ef G0 X H1 a 8 dp tk_82 at_82 nc_82) (cwV 2 hts gX10_isOne_X10_isTerm rfl rfl rfl (by decide +kernel) ⟨by rw [← hR]; show (ef + 3) + 1 ≤ 5 * ef + 5; omega, by rw [← hR]; show 8 + (6 + 11) + (60 * ef + 120) ≤ 160 * ef + 200; omega⟩) ⟨fun a U g mk q => by obtain ⟨q0, q1, q2, qK, q9⟩ := q; exact ⟨q0, q1, q2, jG.calling g mk a qK, q9⟩, va_recv hK (jp_one hat_a_87) (ci := 12) (q0 := 0) rfl rfl, fun U hU hW => ⟨rfl, hU, hX_82, hG.step hW hU hS_82, hg_a, hm_a, he_82, by refine ⟨?_, ?_, ?_, ?_, ?_, ?_, ?_, ?_⟩ <;> omega⟩⟩ rfl rfl hl.1 rfl (lv_room (Nat.le_of_ble_eq_true rfl)) dX10_isOne_297 ⟨Nat.zero_le _, Nat.zero_le _⟩) hS_82 (fun q _ h => h) (fun q h => h) (fun r_85 u t H1 locs1 ht hvm hr_85 hBb hz1 hk1 hS_86 => ?_)
                  obtain ⟨tk_86, at_86, nc_86⟩ := u
                  obtain ⟨hX_86, he_86, hM_860, hz_860, hT_860⟩ := hBb
                  rw [ht] at hX_86 he_86 hM_860 hz_860 hT_860
                  simp only at hr_85 he_86
                  have hM_86 := hM_82.tr0 hM_860 hz_82 (by intro r; simp)
                  have hz_86 := hz_860.trans hz_82
                  have hT_86 := hT_860.trans hT_82
                  clear hz1 hk1 hvm ht hM_860 hz_860 hT_860
                  obtain ⟨hr_85b, hr_85p⟩ := hr_85
                  have hr_85' := jb_01 hr_85b
                  refine lv_if_eq (tgt := 307) hx hb dX10_isOne_300 (by decide) (fun c_88 => ?_) (fun c_88 => ?_)
                  · skip
                    have c_88' : r_85.toInt = 0 := jb_eq (rfl) ((by decide)) c_88
                    refine lv_iconst (v := 0) hx hb dX10_isOne_307 (by decide) ?_
                    rw [hQ]
                    exact W.zret (v := 0) hx hb hr (jb_nz (Or.inl rfl)) (fun t ht hW => ⟨⟨0, (tk_86, at_86, nc_86), rfl, ⟨(Or.inl rfl), by refine ⟨?_, ?_, ?_, ?_, ?_, ?_⟩ <;> first | rfl | omega | (left; omega) | (right; omega) | exact Or.inl ⟨by decide, rfl⟩ | (simp only; omega)⟩, by rw [ht]; try exact hX_86, by rw [ht]; try exact he_86, by rw [ht]; try exact hM_86, by rw [ht]; try exact hz_86, by rw [ht]; try exact hT_86⟩, by rw [ht]; try exact hS_86.1, fun q h9 hq => by rw [ht]; try exact hS_86.2.1 q h9 hq⟩) hS_86.2.2 dX10_isOne_308
                  · skip
                    have c_88' : r_85.toInt ≠ 0 := jb_eq_n (rfl) ((by decide)) c_88
                    refine lv_iconst (v := 1) hx hb dX10_isOne_303 (by decide) ?_
                    refine lv_goto (tgt := 308) hx hb dX10_isOne_304 (by decide) ?_
                    rw [hQ]
                    exact W.zret (v := 1) hx hb hr (jb_nz (Or.inr rfl)) (fun t ht hW => ⟨⟨1, (tk_86, at_86, nc_86), rfl, ⟨(Or.inr rfl), by refine ⟨?_, ?_, ?_, ?_, ?_, ?_⟩ <;> first | rfl | omega | (left; omega) | (right; omega) | exact Or.inl ⟨by decide, rfl⟩ | (simp only; omega)⟩, by rw [ht]; try exact hX_86, by rw [ht]; try exact he_86, by rw [ht]; try exact hM_86, by rw [ht]; try exact hz_86, by rw [ht]; try exact hT_86⟩, by rw [ht]; try exact hS_86.1, fun q h9 hq => by rw [ht]; try exact hS_86.2.1 q h9 hq⟩) hS_86.2.2 dX10_isOne_308
              · skip
                have c_73' : r_70.toInt ≠ 61 := jb_eq_n (rfl) ((by decide)) c_73
                refine lv_iconst (v := 1) hx hb dX10_isOne_260 (by decide) ?_
                rw [hQ]
                exact W.zret (v := 1) hx hb hr (jb_nz (Or.inr rfl)) (fun t ht hW => ⟨⟨1, (tk_71, at_71, nc_71), rfl, ⟨(Or.inr rfl), by refine ⟨?_, ?_, ?_, ?_, ?_, ?_⟩ <;> first | rfl | omega | (left; omega) | (right; omega) | exact Or.inl ⟨by decide, rfl⟩ | (simp only; omega)⟩, by rw [ht]; try exact hX_71, by rw [ht]; try exact he_71, by rw [ht]; try exact hM_71, by rw [ht]; try exact hz_71, by rw [ht]; try exact hT_71⟩, by rw [ht]; try exact hS_71.1, fun q h9 hq => by rw [ht]; try exact hS_71.2.1 q h9 hq⟩) hS_71.2.2 dX10_isOne_261
            · skip
              have c_69' : r_67.toInt = 0 := jb_ne_n (rfl) ((by decide)) c_69
              refine lv_iconst (v := 0) hx hb dX10_isOne_249 (by decide) ?_
              rw [hQ]
              exact W.zret (v := 0) hx hb hr (jb_nz (Or.inl rfl)) (fun t ht hW => ⟨⟨0, (tk_68, at_68, nc_68), rfl, ⟨(Or.inl rfl), by refine ⟨?_, ?_, ?_, ?_, ?_, ?_⟩ <;> first | rfl | omega | (left; omega) | (right; omega) | exact Or.inl ⟨by decide, rfl⟩ | (simp only; omega)⟩, by rw [ht]; try exact hX_68, by rw [ht]; try exact he_68, by rw [ht]; try exact hM_68, by rw [ht]; try exact hz_68, by rw [ht]; try exact hT_68⟩, by rw [ht]; try exact hS_68.1, fun q h9 hq => by rw [ht]; try exact hS_68.2.1 q h9 hq⟩) hS_68.2.2 dX10_isOne_250
          · skip
            have c_65' : r_4.toInt = 2 := jb_ne_n (rfl) ((by decide)) c_65
            refine lv_aload_n hx hb dX10_isOne_217 rfl (lv_at hl 2 rfl) ?_
            refine lv_dup hx hb dX10_isOne_218 rfl ?_
            obtain ⟨names_89, kinds_89, values_89, word_89, told_89, toldCount_89, terms_89, nodes_89, f_kinds_89, f_values_89, f_told_89, f_nodes_89, hat_a_89, hat_kinds_89, hat_values_89, hat_told_89, hat_nodes_89, hg_kinds_89, hg_values_89, hg_told_89, hg_nodes_89, hg_names_89, hf0_89, hf1_89⟩ := id he_5
            have hlt_names_89 := hX_5.2 _ _ hg_names_89
            have hrt_names_89 : jRoot G0 names_89 := ⟨_, _, hg_names_89, by omega⟩
            refine va_get (D := (dC, dI)) (ci := 12) (v := .int at_5) (C := RX10) (T := TX10) (N := 11) hx hb hts hin_12 hown hK (jp_one hat_a_89) 0 rfl rfl 4 (by decide) (hts (.fieldLink RX10 83 "ProofServer$Syntax" "at" "I") (by decide +kernel)) (fun _ h9 => h9) rfl dX10_isOne_219 ?_
            refine lv_iconst (v := 1) hx hb dX10_isOne_222 (by decide) ?_
            refine lv_iadd hx hb dX10_isOne_223 ?_
            refine lv_topi (fun z_90 ez_90 => ?_)
            have hz_90 : z_90.toInt = at_5.toInt + 1 := by rw [ez_90]; exact jb_iadd (rfl) ((by decide)) (by omega) (by omega)
            refine j_put (D := (dC, dI)) (ci := 12) (v := .int z_90) (ty := .int) (C := RX10) (T := TX10) (N := 11) (A := jA base) hx hb hts hin_12 tyX10 tyX10_ok nmX10 hown hK hat_a_89 (hX_5.2 _ _ hg_a).1 hS_5.2.2 rfl 4 (by decide) (hts (.fieldLink RX10 83 "ProofServer$Syntax" "at" "I") (by decide +kernel)) (fun _ h9 => h9) rfl (by decide +kernel) rfl rfl (Nat.le_of_ble_eq_true rfl) dX10_isOne_224 (fun H1 locs1 hat1 hsz1 hfr1 hT1 hL1 => ?_)
            have hX_92 := hX_5.put hB hg_a (by omega) jSup.root hm_a hsz1 hfr1
            have hM_92 := hM_5.put jExt.rf hrt_a jSup.root (by simp) hfr1
            have hz_92 := hsz1.trans hz_5
            have hT_92 := hT1.trans hT_5
            have hS_92 := jS_put hS_5 hsz1 hfr1 (hX_5.2 _ _ hg_a).1 hL1
            have hat_kinds_89_92 := hat_kinds_89.kept (hfr1 _ (jne hg_kinds_89 hg_a (by simp)))
            have hat_values_89_92 := hat_values_89.kept (hfr1 _ (jne hg_values_89 hg_a (by simp)))
            have hat_told_89_92 := hat_told_89.kept (hfr1 _ (jne hg_told_89 hg_a (by simp)))
            have hat_nodes_89_92 := hat_nodes_89.kept (hfr1 _ (jne hg_nodes_89 hg_a (by simp)))
            clear hfr1 hsz1 hT1 hL1 hat_a_89 hat_kinds_89 hat_values_89 hat_told_89 hat_nodes_89 hX_5 hM_5 hz_5 hT_5 hS_5
            have hat_a_92 : va_at (dC, dI) vwCl (a, .inr (12, [.ref names_89, .ref kinds_89, .ref values_89, .int tk_5, .int z_90, .int word_89, .ref told_89, .int toldCount_89, .int terms_89, .ref nodes_89, .int nc_5])) H1 := hat1
            clear hat1
            refine lv_aload_n hx hb dX10_isOne_227 rfl (lv_at hl 2 rfl) ?_
            refine lv_iconst (v := 0) hx hb dX10_isOne_228 (by decide) ?_
            have he_95 : jB12e dC dI ca G0 a tk_5 z_90 nc_5 H1 := ⟨names_89, kinds_89, values_89, word_89, told_89, toldCount_89, terms_89, nodes_89, f_kinds_89, f_values_89, f_told_89, f_nodes_89, hat_a_92, hat_kinds_89_92, hat_values_89_92, hat_told_89_92, hat_nodes_89_92, hg_kinds_89, hg_values_89, hg_told_89, hg_nodes_89, hg_names_89, by first | omega | assumption | (simp; done) | exact Or.inl rfl | exact Or.inr rfl, by first | omega | assumption | (simp; done) | exact Or.inl rfl | exact Or.inr rfl⟩
            refine va_calli (A0 := jA base) (H0 := s.heap) (va_runV (As := [.int 0]) (rest := []) ⟨hx, hb, hml, hown, hts⟩ (tX10_addNode l dC dI ca base B hB G0 X H1 a 0 tk_5 z_90 nc_5) (cwV 1 hts gX10_isOne_X10_addNode rfl rfl rfl (by decide +kernel) ⟨by rw [← hR]; show (0) + 1 ≤ 5 * ef + 5; omega, by rw [← hR]; show 8 + (2 + 11) + (0) ≤ 160 * ef + 200; omega⟩) ⟨fun a U g mk q => by obtain ⟨q0, q1, q2, qK, q9⟩ := q; exact ⟨q0, q1, q2, jG.calling g mk a qK, q9⟩, va_recv hK (jp_one hat_a_92) (ci := 12) (q0 := 0) rfl rfl, fun U hU hW => ⟨rfl, hU, hX_92, hG.step hW hU hS_92, hg_a, hm_a, he_95, by refine ⟨?_, ?_, ?_, ?_, ?_, ?_⟩ <;> omega⟩⟩ rfl rfl hl.1 rfl (lv_room (Nat.le_of_ble_eq_true rfl)) dX10_isOne_229 ⟨Nat.zero_le _, Nat.zero_le _⟩) hS_92 (fun q _ h => h) (fun q h => h) (fun r_93 u t H1 locs1 ht hvm hr_93 hBb hz1 hk1 hS_94 => ?_)
            obtain ⟨tk_94, at_94, nc_94⟩ := u
            obtain ⟨hX_94, he_94, hM_940, hz_940, hT_940⟩ := hBb
            rw [ht] at hX_94 he_94 hM_940 hz_940 hT_940
            simp only at hr_93 he_94
            have hM_94 := hM_92.tr0 hM_940 hz_92 (by intro r; simp)
            have hz_94 := hz_940.trans hz_92
            have hT_94 := hT_940.trans hT_92
            clear hz1 hk1 hvm ht hM_940 hz_940 hT_940
            obtain ⟨hr_93b, hr_93p⟩ := hr_93
            have hr_93' := jb_01 hr_93b
            rw [hQ]
            exact W.zret (v := r_93) hx hb hr (jb_nz (hr_93b)) (fun t ht hW => ⟨⟨r_93, (tk_94, at_94, nc_94), rfl, ⟨(hr_93b), by refine ⟨?_, ?_, ?_, ?_, ?_, ?_⟩ <;> first | rfl | omega | (left; omega) | (right; omega) | exact Or.inl ⟨by decide, rfl⟩ | (simp only; omega)⟩, by rw [ht]; try exact hX_94, by rw [ht]; try exact he_94, by rw [ht]; try exact hM_94, by rw [ht]; try exact hz_94, by rw [ht]; try exact hT_94⟩, by rw [ht]; try exact hS_94.1, fun q h9 hq => by rw [ht]; try exact hS_94.2.1 q h9 hq⟩) hS_94.2.2 dX10_isOne_232
        · skip
          have c_64' : r_4.toInt = 1 := jb_ne_n (rfl) ((by decide)) c_64
          refine lv_aload_n hx hb dX10_isOne_121 rfl (lv_at hl 2 rfl) ?_
          refine lv_dup hx hb dX10_isOne_122 rfl ?_
          obtain ⟨names_96, kinds_96, values_96, word_96, told_96, toldCount_96, terms_96, nodes_96, f_kinds_96, f_values_96, f_told_96, f_nodes_96, hat_a_96, hat_kinds_96, hat_values_96, hat_told_96, hat_nodes_96, hg_kinds_96, hg_values_96, hg_told_96, hg_nodes_96, hg_names_96, hf0_96, hf1_96⟩ := id he_5
          have hlt_names_96 := hX_5.2 _ _ hg_names_96
          have hrt_names_96 : jRoot G0 names_96 := ⟨_, _, hg_names_96, by omega⟩
          refine va_get (D := (dC, dI)) (ci := 12) (v := .int at_5) (C := RX10) (T := TX10) (N := 11) hx hb hts hin_12 hown hK (jp_one hat_a_96) 0 rfl rfl 4 (by decide) (hts (.fieldLink RX10 83 "ProofServer$Syntax" "at" "I") (by decide +kernel)) (fun _ h9 => h9) rfl dX10_isOne_123 ?_
          refine lv_iconst (v := 1) hx hb dX10_isOne_126 (by decide) ?_
          refine lv_iadd hx hb dX10_isOne_127 ?_
          refine lv_topi (fun z_97 ez_97 => ?_)
          have hz_97 : z_97.toInt = at_5.toInt + 1 := by rw [ez_97]; exact jb_iadd (rfl) ((by decide)) (by omega) (by omega)
          refine j_put (D := (dC, dI)) (ci := 12) (v := .int z_97) (ty := .int) (C := RX10) (T := TX10) (N := 11) (A := jA base) hx hb hts hin_12 tyX10 tyX10_ok nmX10 hown hK hat_a_96 (hX_5.2 _ _ hg_a).1 hS_5.2.2 rfl 4 (by decide) (hts (.fieldLink RX10 83 "ProofServer$Syntax" "at" "I") (by decide +kernel)) (fun _ h9 => h9) rfl (by decide +kernel) rfl rfl (Nat.le_of_ble_eq_true rfl) dX10_isOne_128 (fun H1 locs1 hat1 hsz1 hfr1 hT1 hL1 => ?_)
          have hX_99 := hX_5.put hB hg_a (by omega) jSup.root hm_a hsz1 hfr1
          have hM_99 := hM_5.put jExt.rf hrt_a jSup.root (by simp) hfr1
          have hz_99 := hsz1.trans hz_5
          have hT_99 := hT1.trans hT_5
          have hS_99 := jS_put hS_5 hsz1 hfr1 (hX_5.2 _ _ hg_a).1 hL1
          have hat_kinds_96_99 := hat_kinds_96.kept (hfr1 _ (jne hg_kinds_96 hg_a (by simp)))
          have hat_values_96_99 := hat_values_96.kept (hfr1 _ (jne hg_values_96 hg_a (by simp)))
          have hat_told_96_99 := hat_told_96.kept (hfr1 _ (jne hg_told_96 hg_a (by simp)))
          have hat_nodes_96_99 := hat_nodes_96.kept (hfr1 _ (jne hg_nodes_96 hg_a (by simp)))
          clear hfr1 hsz1 hT1 hL1 hat_a_96 hat_kinds_96 hat_values_96 hat_told_96 hat_nodes_96 hX_5 hM_5 hz_5 hT_5 hS_5
          have hat_a_99 : va_at (dC, dI) vwCl (a, .inr (12, [.ref names_96, .ref kinds_96, .ref values_96, .int tk_5, .int z_97, .int word_96, .ref told_96, .int toldCount_96, .int terms_96, .ref nodes_96, .int nc_5])) H1 := hat1
          clear hat1
          refine lv_aload_n hx hb dX10_isOne_131 rfl (lv_at hl 2 rfl) ?_
          have he_102 : jB12e dC dI ca G0 a tk_5 z_97 nc_5 H1 := ⟨names_96, kinds_96, values_96, word_96, told_96, toldCount_96, terms_96, nodes_96, f_kinds_96, f_values_96, f_told_96, f_nodes_96, hat_a_99, hat_kinds_96_99, hat_values_96_99, hat_told_96_99, hat_nodes_96_99, hg_kinds_96, hg_values_96, hg_told_96, hg_nodes_96, hg_names_96, by first | omega | assumption | (simp; done) | exact Or.inl rfl | exact Or.inr rfl, by first | omega | assumption | (simp; done) | exact Or.inl rfl | exact Or.inr rfl⟩
          refine va_calli (A0 := jA base) (H0 := s.heap) (va_runV (As := []) (rest := []) ⟨hx, hb, hml, hown, hts⟩ (tX10_peekName l dC dI ca base B hB G0 X H1 a tk_5 z_97 nc_5) (cwV 0 hts gX10_isOne_X10_peekName rfl rfl rfl (by decide +kernel) ⟨by rw [← hR]; show (1) + 1 ≤ 5 * ef + 5; omega, by rw [← hR]; show 8 + (1 + 11) + (40) ≤ 160 * ef + 200; omega⟩) ⟨fun a U g mk q => by obtain ⟨q0, q1, q2, qK, q9⟩ := q; exact ⟨q0, q1, q2, jG.calling g mk a qK, q9⟩, va_recv hK (jp_one hat_a_99) (ci := 12) (q0 := 0) rfl rfl, fun U hU hW => ⟨rfl, hU, hX_99, hG.step hW hU hS_99, hg_a, hm_a, he_102, by refine ⟨?_, ?_, ?_, ?_, ?_, ?_⟩ <;> omega⟩⟩ rfl rfl hl.1 rfl (lv_room (Nat.le_of_ble_eq_true rfl)) dX10_isOne_132 ⟨Nat.zero_le _, Nat.zero_le _⟩) hS_99 (fun q _ h => h) (fun q h => h) (fun r_100 u t H1 locs1 ht hvm hr_100 hBb hz1 hk1 hS_101 => ?_)
          obtain ⟨tk_101, at_101, nc_101⟩ := u
          obtain ⟨hX_101, he_101, hM_1010, hz_1010, hT_1010⟩ := hBb
          rw [ht] at hX_101 he_101 hM_1010 hz_1010 hT_1010
          simp only at hr_100 he_101
          have hM_101 := hM_99.tr0 hM_1010 hz_99 (by intro r; simp)
          have hz_101 := hz_1010.trans hz_99
          have hT_101 := hT_1010.trans hT_99
          clear hz1 hk1 hvm ht hM_1010 hz_1010 hT_1010
          refine lv_istore (lv' := [(4, .int r_100), (3, .int r_4), (2, .int r_1), (0, .ref a), (1, .int dp)]) hx hb dX10_isOne_135 hl (by decide) rfl (fun ls hl => ?_)
          refine lv_iload_n hx hb dX10_isOne_137 rfl (lv_at hl 1 rfl) ?_
          refine lv_if_ne (tgt := 145) hx hb dX10_isOne_138 (by decide) (fun c_103 => ?_) (fun c_103 => ?_)
          · skip
            have c_103' : r_4.toInt ≠ 0 := jb_ne (rfl) ((by decide)) c_103
            refine lv_bipush (v := 6) hx hb dX10_isOne_145 (by decide) ?_
            refine lv_iload hx hb dX10_isOne_147 (lv_at hl 0 rfl) ?_
            refine lv_bipush (v := 15) hx hb dX10_isOne_149 (by decide) ?_
            refine lv_ishl hx hb dX10_isOne_151 ?_
            refine lv_topi (fun z_104 ez_104 => ?_)
            refine lv_ior hx hb dX10_isOne_152 ?_
            refine lv_topi (fun z_105 ez_105 => ?_)
            refine lv_istore (lv' := [(5, .int z_105), (4, .int r_100), (3, .int r_4), (2, .int r_1), (0, .ref a), (1, .int dp)]) hx hb dX10_isOne_153 hl (by decide) rfl (fun ls hl => ?_)
            refine lv_aload_n hx hb dX10_isOne_155 rfl (lv_at hl 4 rfl) ?_
            refine lv_dup hx hb dX10_isOne_156 rfl ?_
            obtain ⟨names_106, kinds_106, values_106, word_106, told_106, toldCount_106, terms_106, nodes_106, f_kinds_106, f_values_106, f_told_106, f_nodes_106, hat_a_106, hat_kinds_106, hat_values_106, hat_told_106, hat_nodes_106, hg_kinds_106, hg_values_106, hg_told_106, hg_nodes_106, hg_names_106, hf0_106, hf1_106⟩ := id he_101
            have hlt_names_106 := hX_101.2 _ _ hg_names_106
            have hrt_names_106 : jRoot G0 names_106 := ⟨_, _, hg_names_106, by omega⟩
            refine va_get (D := (dC, dI)) (ci := 12) (v := .int at_101) (C := RX10) (T := TX10) (N := 11) hx hb hts hin_12 hown hK (jp_one hat_a_106) 0 rfl rfl 4 (by decide) (hts (.fieldLink RX10 83 "ProofServer$Syntax" "at" "I") (by decide +kernel)) (fun _ h9 => h9) rfl dX10_isOne_157 ?_
            refine lv_iconst (v := 1) hx hb dX10_isOne_160 (by decide) ?_
            refine lv_iadd hx hb dX10_isOne_161 ?_
            refine lv_topi (fun z_107 ez_107 => ?_)
            have hz_107 : z_107.toInt = at_101.toInt + 1 := by rw [ez_107]; exact jb_iadd (rfl) ((by decide)) (by omega) (by omega)
            refine j_put (D := (dC, dI)) (ci := 12) (v := .int z_107) (ty := .int) (C := RX10) (T := TX10) (N := 11) (A := jA base) hx hb hts hin_12 tyX10 tyX10_ok nmX10 hown hK hat_a_106 (hX_101.2 _ _ hg_a).1 hS_101.2.2 rfl 4 (by decide) (hts (.fieldLink RX10 83 "ProofServer$Syntax" "at" "I") (by decide +kernel)) (fun _ h9 => h9) rfl (by decide +kernel) rfl rfl (Nat.le_of_ble_eq_true rfl) dX10_isOne_162 (fun H1 locs1 hat1 hsz1 hfr1 hT1 hL1 => ?_)
            have hX_109 := hX_101.put hB hg_a (by omega) jSup.root hm_a hsz1 hfr1
            have hM_109 := hM_101.put jExt.rf hrt_a jSup.root (by simp) hfr1
            have hz_109 := hsz1.trans hz_101
            have hT_109 := hT1.trans hT_101
            have hS_109 := jS_put hS_101 hsz1 hfr1 (hX_101.2 _ _ hg_a).1 hL1
            have hat_kinds_106_109 := hat_kinds_106.kept (hfr1 _ (jne hg_kinds_106 hg_a (by simp)))
            have hat_values_106_109 := hat_values_106.kept (hfr1 _ (jne hg_values_106 hg_a (by simp)))
            have hat_told_106_109 := hat_told_106.kept (hfr1 _ (jne hg_told_106 hg_a (by simp)))
            have hat_nodes_106_109 := hat_nodes_106.kept (hfr1 _ (jne hg_nodes_106 hg_a (by simp)))
            clear hfr1 hsz1 hT1 hL1 hat_a_106 hat_kinds_106 hat_values_106 hat_told_106 hat_nodes_106 hX_101 hM_101 hz_101 hT_101 hS_101
            have hat_a_109 : va_at (dC, dI) vwCl (a, .inr (12, [.ref names_106, .ref kinds_106, .ref values_106, .int tk_101, .int z_107, .int word_106, .ref told_106, .int toldCount_106, .int terms_106, .ref nodes_106, .int nc_101])) H1 := hat1
            clear hat1
            refine lv_iload_n hx hb dX10_isOne_165 rfl (lv_at hl 5 rfl) ?_
            refine lv_bipush (v := 12) hx hb dX10_isOne_166 (by decide) ?_
            refine lv_icmp_ge (tgt := 210) hx hb dX10_isOne_168 (by decide) (fun c_110 => ?_) (fun c_110 => ?_)
            · skip
              have c_110' : dp.toInt ≥ 12 := jb_ge (rfl) ((by decide)) c_110
              refine lv_iconst (v := 0) hx hb dX10_isOne_210 (by decide) ?_
              have he_111 : jB12e dC dI ca G0 a tk_101 z_107 nc_101 H1 := ⟨names_106, kinds_106, values_106, word_106, told_106, toldCount_106, terms_106, nodes_106, f_kinds_106, f_values_106, f_told_106, f_nodes_106, hat_a_109, hat_kinds_106_109, hat_values_106_109, hat_told_106_109, hat_nodes_106_109, hg_kinds_106, hg_values_106, hg_told_106, hg_nodes_106, hg_names_106, by first | omega | assumption | (simp; done) | exact Or.inl rfl | exact Or.inr rfl, by first | omega | assumption | (simp; done) | exact Or.inl rfl | exact Or.inr rfl⟩
              rw [hQ]
              exact W.zret (v := 0) hx hb hr (jb_nz (Or.inl rfl)) (fun t ht hW => ⟨⟨0, (tk_101, z_107, nc_101), rfl, ⟨(Or.inl rfl), by refine ⟨?_, ?_, ?_, ?_, ?_, ?_⟩ <;> first | rfl | omega | (left; omega) | (right; omega) | exact Or.inl ⟨by decide, rfl⟩ | (simp only; omega)⟩, by rw [ht]; try exact hX_109, by rw [ht]; try exact he_111, by rw [ht]; try exact hM_109, by rw [ht]; try exact hz_109, by rw [ht]; try exact hT_109⟩, by rw [ht]; try exact hS_109.1, fun q h9 hq => by rw [ht]; try exact hS_109.2.1 q h9 hq⟩) hS_109.2.2 dX10_isOne_211
            · skip
              have c_110' : dp.toInt < 12 := jb_ge_n (rfl) ((by decide)) c_110
              refine lv_iload hx hb dX10_isOne_171 (lv_at hl 1 rfl) ?_
              refine lv_iconst (v := 2) hx hb dX10_isOne_173 (by decide) ?_
              refine lv_icmp_le (tgt := 210) hx hb dX10_isOne_174 (by decide) (fun c_112 => ?_) (fun c_112 => ?_)
              · skip
                have c_112' : r_100.toInt ≤ 2 := jb_le (rfl) ((by decide)) c_112
                refine lv_iconst (v := 0) hx hb dX10_isOne_210 (by decide) ?_
                have he_113 : jB12e dC dI ca G0 a tk_101 z_107 nc_101 H1 := ⟨names_106, kinds_106, values_106, word_106, told_106, toldCount_106, terms_106, nodes_106, f_kinds_106, f_values_106, f_told_106, f_nodes_106, hat_a_109, hat_kinds_106_109, hat_values_106_109, hat_told_106_109, hat_nodes_106_109, hg_kinds_106, hg_values_106, hg_told_106, hg_nodes_106, hg_names_106, by first | omega | assumption | (simp; done) | exact Or.inl rfl | exact Or.inr rfl, by first | omega | assumption | (simp; done) | exact Or.inl rfl | exact Or.inr rfl⟩
                rw [hQ]
                exact W.zret (v := 0) hx hb hr (jb_nz (Or.inl rfl)) (fun t ht hW => ⟨⟨0, (tk_101, z_107, nc_101), rfl, ⟨(Or.inl rfl), by refine ⟨?_, ?_, ?_, ?_, ?_, ?_⟩ <;> first | rfl | omega | (left; omega) | (right; omega) | exact Or.inl ⟨by decide, rfl⟩ | (simp only; omega)⟩, by rw [ht]; try exact hX_109, by rw [ht]; try exact he_113, by rw [ht]; try exact hM_109, by rw [ht]; try exact hz_109, by rw [ht]; try exact hT_109⟩, by rw [ht]; try exact hS_109.1, fun q h9 hq => by rw [ht]; try exact hS_109.2.1 q h9 hq⟩) hS_109.2.2 dX10_isOne_211
              · skip
                have c_112' : r_100.toInt > 2 := jb_le_n (rfl) ((by decide)) c_112
                refine lv_aload_n hx hb dX10_isOne_177 rfl (lv_at hl 4 rfl) ?_
                refine lv_bipush (v := 44) hx hb dX10_isOne_178 (by decide) ?_
                have he_116 : jB12e dC dI ca G0 a tk_101 z_107 nc_101 H1 := ⟨names_106, kinds_106, values_106, word_106, told_106, toldCount_106, terms_106, nodes_106, f_kinds_106, f_values_106, f_told_106, f_nodes_106, hat_a_109, hat_kinds_106_109, hat_values_106_109, hat_told_106_109, hat_nodes_106_109, hg_kinds_106, hg_values_106, hg_told_106, hg_nodes_106, hg_names_106, by first | omega | assumption | (simp; done) | exact Or.inl rfl | exact Or.inr rfl, by first | omega | assumption | (simp; done) | exact Or.inl rfl | exact Or.inr rfl⟩
                refine va_calli (A0 := jA base) (H0 := s.heap) (va_runV (As := [.int 44]) (rest := []) ⟨hx, hb, hml, hown, hts⟩ (tX10_isSign l dC dI ca base B hB G0 X H1 a 44 tk_101 z_107 nc_101) (cwV 1 hts gX10_isOne_X10_isSign rfl rfl rfl (by decide +kernel) ⟨by rw [← hR]; show (0) + 1 ≤ 5 * ef + 5; omega, by rw [← hR]; show 8 + (3 + 11) + (0) ≤ 160 * ef + 200; omega⟩) ⟨fun a U g mk q => by obtain ⟨q0, q1, q2, qK, q9⟩ := q; exact ⟨q0, q1, q2, jG.calling g mk a qK, q9⟩, va_recv hK (jp_one hat_a_109) (ci := 12) (q0 := 0) rfl rfl, fun U hU hW => ⟨rfl, hU, hX_109, hG.step hW hU hS_109, hg_a, hm_a, he_116, by refine ⟨?_, ?_, ?_, ?_, ?_, ?_⟩ <;> omega⟩⟩ rfl rfl hl.1 rfl (lv_room (Nat.le_of_ble_eq_true rfl)) dX10_isOne_180 ⟨Nat.zero_le _, Nat.zero_le _⟩) hS_109 (fun q _ h => h) (fun q h => h) (fun r_114 u t H1 locs1 ht hvm hr_114 hBb hz1 hk1 hS_115 => ?_)
                obtain ⟨tk_115, at_115, nc_115⟩ := u
                obtain ⟨hX_115, he_115, hM_1150, hz_1150, hT_1150⟩ := hBb
                rw [ht] at hX_115 he_115 hM_1150 hz_1150 hT_1150
                simp only at hr_114 he_115
                have hM_115 := hM_109.tr0 hM_1150 hz_109 (by intro r; simp)
                have hz_115 := hz_1150.trans hz_109
                have hT_115 := hT_1150.trans hT_109
                clear hz1 hk1 hvm ht hM_1150 hz_1150 hT_1150
                obtain ⟨hr_114b, hr_114p⟩ := hr_114
                have hr_114' := jb_01 hr_114b
                refine lv_if_eq (tgt := 210) hx hb dX10_isOne_183 (by decide) (fun c_117 => ?_) (fun c_117 => ?_)
                · skip
                  have c_117' : r_114.toInt = 0 := jb_eq (rfl) ((by decide)) c_117
                  refine lv_iconst (v := 0) hx hb dX10_isOne_210 (by decide) ?_
                  rw [hQ]
                  exact W.zret (v := 0) hx hb hr (jb_nz (Or.inl rfl)) (fun t ht hW => ⟨⟨0, (tk_115, at_115, nc_115), rfl, ⟨(Or.inl rfl), by refine ⟨?_, ?_, ?_, ?_, ?_, ?_⟩ <;> first | rfl | omega | (left; omega) | (right; omega) | exact Or.inl ⟨by decide, rfl⟩ | (simp only; omega)⟩, by rw [ht]; try exact hX_115, by rw [ht]; try exact he_115, by rw [ht]; try exact hM_115, by rw [ht]; try exact hz_115, by rw [ht]; try exact hT_115⟩, by rw [ht]; try exact hS_115.1, fun q h9 hq => by rw [ht]; try exact hS_115.2.1 q h9 hq⟩) hS_115.2.2 dX10_isOne_211
                · skip
                  have c_117' : r_114.toInt ≠ 0 := jb_eq_n (rfl) ((by decide)) c_117
                  refine lv_aload_n hx hb dX10_isOne_186 rfl (lv_at hl 4 rfl) ?_
                  refine lv_iload hx hb dX10_isOne_187 (lv_at hl 0 rfl) ?_
                  obtain ⟨names_120, kinds_120, values_120, word_120, told_120, toldCount_120, terms_120, nodes_120, f_kinds_120, f_values_120, f_told_120, f_nodes_120, hat_a_120, hat_kinds_120, hat_values_120, hat_told_120, hat_nodes_120, hg_kinds_120, hg_values_120, hg_told_120, hg_nodes_120, hg_names_120, hf0_120, hf1_120⟩ := id he_115
                  have hlt_names_120 := hX_115.2 _ _ hg_names_120
                  have hrt_names_120 : jRoot G0 names_120 := ⟨_, _, hg_names_120, by omega⟩
                  refine va_calli (A0 := jA base) (H0 := s.heap) (va_runV (As := [.int z_105]) (rest := []) ⟨hx, hb, hml, hown, hts⟩ (tX10_addNode l dC dI ca base B hB G0 X H1 a z_105 tk_115 at_115 nc_115) (cwV 1 hts gX10_isOne_X10_addNode rfl rfl rfl (by decide +kernel) ⟨by rw [← hR]; show (0) + 1 ≤ 5 * ef + 5; omega, by rw [← hR]; show 8 + (2 + 11) + (0) ≤ 160 * ef + 200; omega⟩) ⟨fun a U g mk q => by obtain ⟨q0, q1, q2, qK, q9⟩ := q; exact ⟨q0, q1, q2, jG.calling g mk a qK, q9⟩, va_recv hK (jp_one hat_a_120) (ci := 12) (q0 := 0) rfl rfl, fun U hU hW => ⟨rfl, hU, hX_115, hG.step hW hU hS_115, hg_a, hm_a, he_115, by refine ⟨?_, ?_, ?_, ?_, ?_, ?_⟩ <;> omega⟩⟩ rfl rfl hl.1 rfl (lv_room (Nat.le_of_ble_eq_true rfl)) dX10_isOne_189 ⟨Nat.zero_le _, Nat.zero_le _⟩) hS_115 (fun q _ h => h) (fun q h => h) (fun r_118 u t H1 locs1 ht hvm hr_118 hBb hz1 hk1 hS_119 => ?_)
                  obtain ⟨tk_119, at_119, nc_119⟩ := u
                  obtain ⟨hX_119, he_119, hM_1190, hz_1190, hT_1190⟩ := hBb
                  rw [ht] at hX_119 he_119 hM_1190 hz_1190 hT_1190
                  simp only at hr_118 he_119
                  have hM_119 := hM_115.tr0 hM_1190 hz_115 (by intro r; simp)
                  have hz_119 := hz_1190.trans hz_115
                  have hT_119 := hT_1190.trans hT_115
                  clear hz1 hk1 hvm ht hM_1190 hz_1190 hT_1190
                  obtain ⟨hr_118b, hr_118p⟩ := hr_118
                  have hr_118' := jb_01 hr_118b
                  refine lv_if_eq (tgt := 210) hx hb dX10_isOne_192 (by decide) (fun c_121 => ?_) (fun c_121 => ?_)
                  · skip
                    have c_121' : r_118.toInt = 0 := jb_eq (rfl) ((by decide)) c_121
                    refine lv_iconst (v := 0) hx hb dX10_isOne_210 (by decide) ?_
                    rw [hQ]
                    exact W.zret (v := 0) hx hb hr (jb_nz (Or.inl rfl)) (fun t ht hW => ⟨⟨0, (tk_119, at_119, nc_119), rfl, ⟨(Or.inl rfl), by refine ⟨?_, ?_, ?_, ?_, ?_, ?_⟩ <;> first | rfl | omega | (left; omega) | (right; omega) | exact Or.inl ⟨by decide, rfl⟩ | (simp only; omega)⟩, by rw [ht]; try exact hX_119, by rw [ht]; try exact he_119, by rw [ht]; try exact hM_119, by rw [ht]; try exact hz_119, by rw [ht]; try exact hT_119⟩, by rw [ht]; try exact hS_119.1, fun q h9 hq => by rw [ht]; try exact hS_119.2.1 q h9 hq⟩) hS_119.2.2 dX10_isOne_211
                  · skip
                    have c_121' : r_118.toInt ≠ 0 := jb_eq_n (rfl) ((by decide)) c_121
                    refine lv_aload_n hx hb dX10_isOne_195 rfl (lv_at hl 4 rfl) ?_
                    refine lv_iconst (v := 0) hx hb dX10_isOne_196 (by decide) ?_
                    refine lv_iload_n hx hb dX10_isOne_197 rfl (lv_at hl 5 rfl) ?_
                    refine lv_iconst (v := 1) hx hb dX10_isOne_198 (by decide) ?_
                    refine lv_iadd hx hb dX10_isOne_199 ?_
                    refine lv_topi (fun z_122 ez_122 => ?_)
                    have hz_122 : z_122.toInt = dp.toInt + 1 := by rw [ez_122]; exact jb_iadd (rfl) ((by decide)) (by omega) (by omega)
                    obtain ⟨names_125, kinds_125, values_125, word_125, told_125, toldCount_125, terms_125, nodes_125, f_kinds_125, f_values_125, f_told_125, f_nodes_125, hat_a_125, hat_kinds_125, hat_values_125, hat_told_125, hat_nodes_125, hg_kinds_125, hg_values_125, hg_told_125, hg_nodes_125, hg_names_125, hf0_125, hf1_125⟩ := id he_119
                    have hlt_names_125 := hX_119.2 _ _ hg_names_125
                    have hrt_names_125 : jRoot G0 names_125 := ⟨_, _, hg_names_125, by omega⟩
                    refine va_calli (A0 := jA base) (H0 := s.heap) (va_runV (As := [.int 0, .int z_122]) (rest := []) ⟨hx, hb, hml, hown, hts⟩ (ihC (ef - 1) (by omega) G0 X H1 a 0 z_122 tk_119 at_119 nc_119) (cwV 2 hts gX10_isOne_X10_isChain rfl rfl rfl (by decide +kernel) ⟨by rw [← hR]; show (5 * (ef - 1) + 6 + 2) + 1 ≤ 5 * ef + 5; omega, by rw [← hR]; show 8 + (6 + 11) + (160 * (ef - 1) + 230 + 30 * 2) ≤ 160 * ef + 200; omega⟩) ⟨fun a U g mk q => by obtain ⟨q0, q1, q2, qK, q9⟩ := q; exact ⟨q0, q1, q2, jG.calling g mk a qK, q9⟩, va_recv hK (jp_one hat_a_125) (ci := 12) (q0 := 0) rfl rfl, fun U hU hW => ⟨rfl, hU, hX_119, hG.step hW hU hS_119, hg_a, hm_a, he_119, by refine ⟨?_, ?_, ?_, ?_, ?_, ?_, ?_, ?_, ?_, ?_⟩ <;> omega⟩⟩ rfl rfl hl.1 rfl (lv_room (Nat.le_of_ble_eq_true rfl)) dX10_isOne_200 ⟨Nat.zero_le _, Nat.zero_le _⟩) hS_119 (fun q _ h => h) (fun q h => h) (fun r_123 u t H1 locs1 ht hvm hr_123 hBb hz1 hk1 hS_124 => ?_)
                    obtain ⟨tk_124, at_124, nc_124⟩ := u
                    obtain ⟨hX_124, he_124, hM_1240, hz_1240, hT_1240⟩ := hBb
                    rw [ht] at hX_124 he_124 hM_1240 hz_1240 hT_1240
                    simp only at hr_123 he_124
                    have hM_124 := hM_119.tr0 hM_1240 hz_119 (by intro r; simp)
                    have hz_124 := hz_1240.trans hz_119
                    have hT_124 := hT_1240.trans hT_119
                    clear hz1 hk1 hvm ht hM_1240 hz_1240 hT_1240
                    obtain ⟨hr_123b, hr_123p⟩ := hr_123
                    have hr_123' := jb_01 hr_123b
                    refine lv_if_eq (tgt := 210) hx hb dX10_isOne_203 (by decide) (fun c_126 => ?_) (fun c_126 => ?_)
                    · skip
                      have c_126' : r_123.toInt = 0 := jb_eq (rfl) ((by decide)) c_126
                      refine lv_iconst (v := 0) hx hb dX10_isOne_210 (by decide) ?_
                      rw [hQ]
                      exact W.zret (v := 0) hx hb hr (jb_nz (Or.inl rfl)) (fun t ht hW => ⟨⟨0, (tk_124, at_124, nc_124), rfl, ⟨(Or.inl rfl), by refine ⟨?_, ?_, ?_, ?_, ?_, ?_⟩ <;> first | rfl | omega | (left; omega) | (right; omega) | exact Or.inl ⟨by decide, rfl⟩ | (simp only; omega)⟩, by rw [ht]; try exact hX_124, by rw [ht]; try exact he_124, by rw [ht]; try exact hM_124, by rw [ht]; try exact hz_124, by rw [ht]; try exact hT_124⟩, by rw [ht]; try exact hS_124.1, fun q h9 hq => by rw [ht]; try exact hS_124.2.1 q h9 hq⟩) hS_124.2.2 dX10_isOne_211
                    · skip
                      have c_126' : r_123.toInt ≠ 0 := jb_eq_n (rfl) ((by decide)) c_126
                      refine lv_iconst (v := 1) hx hb dX10_isOne_206 (by decide) ?_
                      refine lv_goto (tgt := 211) hx hb dX10_isOne_207 (by decide) ?_
                      rw [hQ]
                      exact W.zret (v := 1) hx hb hr (jb_nz (Or.inr rfl)) (fun t ht hW => ⟨⟨1, (tk_124, at_124, nc_124), rfl, ⟨(Or.inr rfl), by refine ⟨?_, ?_, ?_, ?_, ?_, ?_⟩ <;> first | rfl | omega | (left; omega) | (right; omega) | exact Or.inl ⟨by decide, rfl⟩ | (simp only; omega)⟩, by rw [ht]; try exact hX_124, by rw [ht]; try exact he_124, by rw [ht]; try exact hM_124, by rw [ht]; try exact hz_124, by rw [ht]; try exact hT_124⟩, by rw [ht]; try exact hS_124.1, fun q h9 hq => by rw [ht]; try exact hS_124.2.1 q h9 hq⟩) hS_124.2.2 dX10_isOne_211
          · skip
            have c_103' : r_4.toInt = 0 := jb_ne_n (rfl) ((by decide)) c_103
            refine lv_iconst (v := 5) hx hb dX10_isOne_141 (by decide) ?_
            refine lv_goto (tgt := 147) hx hb dX10_isOne_142 (by decide) ?_
            refine lv_iload hx hb dX10_isOne_147 (lv_at hl 0 rfl) ?_
            refine lv_bipush (v := 15) hx hb dX10_isOne_149 (by decide) ?_
            refine lv_ishl hx hb dX10_isOne_151 ?_
            refine lv_topi (fun z_127 ez_127 => ?_)
            refine lv_ior hx hb dX10_isOne_152 ?_
            refine lv_topi (fun z_128 ez_128 => ?_)
            refine lv_istore (lv' := [(5, .int z_128), (4, .int r_100), (3, .int r_4), (2, .int r_1), (0, .ref a), (1, .int dp)]) hx hb dX10_isOne_153 hl (by decide) rfl (fun ls hl => ?_)
            refine lv_aload_n hx hb dX10_isOne_155 rfl (lv_at hl 4 rfl) ?_
            refine lv_dup hx hb dX10_isOne_156 rfl ?_
            obtain ⟨names_129, kinds_129, values_129, word_129, told_129, toldCount_129, terms_129, nodes_129, f_kinds_129, f_values_129, f_told_129, f_nodes_129, hat_a_129, hat_kinds_129, hat_values_129, hat_told_129, hat_nodes_129, hg_kinds_129, hg_values_129, hg_told_129, hg_nodes_129, hg_names_129, hf0_129, hf1_129⟩ := id he_101
            have hlt_names_129 := hX_101.2 _ _ hg_names_129
            have hrt_names_129 : jRoot G0 names_129 := ⟨_, _, hg_names_129, by omega⟩
            refine va_get (D := (dC, dI)) (ci := 12) (v := .int at_101) (C := RX10) (T := TX10) (N := 11) hx hb hts hin_12 hown hK (jp_one hat_a_129) 0 rfl rfl 4 (by decide) (hts (.fieldLink RX10 83 "ProofServer$Syntax" "at" "I") (by decide +kernel)) (fun _ h9 => h9) rfl dX10_isOne_157 ?_
            refine lv_iconst (v := 1) hx hb dX10_isOne_160 (by decide) ?_
            refine lv_iadd hx hb dX10_isOne_161 ?_
            refine lv_topi (fun z_130 ez_130 => ?_)
            have hz_130 : z_130.toInt = at_101.toInt + 1 := by rw [ez_130]; exact jb_iadd (rfl) ((by decide)) (by omega) (by omega)
            refine j_put (D := (dC, dI)) (ci := 12) (v := .int z_130) (ty := .int) (C := RX10) (T := TX10) (N := 11) (A := jA base) hx hb hts hin_12 tyX10 tyX10_ok nmX10 hown hK hat_a_129 (hX_101.2 _ _ hg_a).1 hS_101.2.2 rfl 4 (by decide) (hts (.fieldLink RX10 83 "ProofServer$Syntax" "at" "I") (by decide +kernel)) (fun _ h9 => h9) rfl (by decide +kernel) rfl rfl (Nat.le_of_ble_eq_true rfl) dX10_isOne_162 (fun H1 locs1 hat1 hsz1 hfr1 hT1 hL1 => ?_)
            have hX_132 := hX_101.put hB hg_a (by omega) jSup.root hm_a hsz1 hfr1
            have hM_132 := hM_101.put jExt.rf hrt_a jSup.root (by simp) hfr1
            have hz_132 := hsz1.trans hz_101
            have hT_132 := hT1.trans hT_101
            have hS_132 := jS_put hS_101 hsz1 hfr1 (hX_101.2 _ _ hg_a).1 hL1
            have hat_kinds_129_132 := hat_kinds_129.kept (hfr1 _ (jne hg_kinds_129 hg_a (by simp)))
            have hat_values_129_132 := hat_values_129.kept (hfr1 _ (jne hg_values_129 hg_a (by simp)))
            have hat_told_129_132 := hat_told_129.kept (hfr1 _ (jne hg_told_129 hg_a (by simp)))
            have hat_nodes_129_132 := hat_nodes_129.kept (hfr1 _ (jne hg_nodes_129 hg_a (by simp)))
            clear hfr1 hsz1 hT1 hL1 hat_a_129 hat_kinds_129 hat_values_129 hat_told_129 hat_nodes_129 hX_101 hM_101 hz_101 hT_101 hS_101
            have hat_a_132 : va_at (dC, dI) vwCl (a, .inr (12, [.ref names_129, .ref kinds_129, .ref values_129, .int tk_101, .int z_130, .int word_129, .ref told_129, .int toldCount_129, .int terms_129, .ref nodes_129, .int nc_101])) H1 := hat1
            clear hat1
            refine lv_iload_n hx hb dX10_isOne_165 rfl (lv_at hl 5 rfl) ?_
            refine lv_bipush (v := 12) hx hb dX10_isOne_166 (by decide) ?_
            refine lv_icmp_ge (tgt := 210) hx hb dX10_isOne_168 (by decide) (fun c_133 => ?_) (fun c_133 => ?_)
            · skip
              have c_133' : dp.toInt ≥ 12 := jb_ge (rfl) ((by decide)) c_133
              refine lv_iconst (v := 0) hx hb dX10_isOne_210 (by decide) ?_
              have he_134 : jB12e dC dI ca G0 a tk_101 z_130 nc_101 H1 := ⟨names_129, kinds_129, values_129, word_129, told_129, toldCount_129, terms_129, nodes_129, f_kinds_129, f_values_129, f_told_129, f_nodes_129, hat_a_132, hat_kinds_129_132, hat_values_129_132, hat_told_129_132, hat_nodes_129_132, hg_kinds_129, hg_values_129, hg_told_129, hg_nodes_129, hg_names_129, by first | omega | assumption | (simp; done) | exact Or.inl rfl | exact Or.inr rfl, by first | omega | assumption | (simp; done) | exact Or.inl rfl | exact Or.inr rfl⟩
              rw [hQ]
              exact W.zret (v := 0) hx hb hr (jb_nz (Or.inl rfl)) (fun t ht hW => ⟨⟨0, (tk_101, z_130, nc_101), rfl, ⟨(Or.inl rfl), by refine ⟨?_, ?_, ?_, ?_, ?_, ?_⟩ <;> first | rfl | omega | (left; omega) | (right; omega) | exact Or.inl ⟨by decide, rfl⟩ | (simp only; omega)⟩, by rw [ht]; try exact hX_132, by rw [ht]; try exact he_134, by rw [ht]; try exact hM_132, by rw [ht]; try exact hz_132, by rw [ht]; try exact hT_132⟩, by rw [ht]; try exact hS_132.1, fun q h9 hq => by rw [ht]; try exact hS_132.2.1 q h9 hq⟩) hS_132.2.2 dX10_isOne_211
            · skip
              have c_133' : dp.toInt < 12 := jb_ge_n (rfl) ((by decide)) c_133
              refine lv_iload hx hb dX10_isOne_171 (lv_at hl 1 rfl) ?_
              refine lv_iconst (v := 2) hx hb dX10_isOne_173 (by decide) ?_
              refine lv_icmp_le (tgt := 210) hx hb dX10_isOne_174 (by decide) (fun c_135 => ?_) (fun c_135 => ?_)
              · skip
                have c_135' : r_100.toInt ≤ 2 := jb_le (rfl) ((by decide)) c_135
                refine lv_iconst (v := 0) hx hb dX10_isOne_210 (by decide) ?_
                have he_136 : jB12e dC dI ca G0 a tk_101 z_130 nc_101 H1 := ⟨names_129, kinds_129, values_129, word_129, told_129, toldCount_129, terms_129, nodes_129, f_kinds_129, f_values_129, f_told_129, f_nodes_129, hat_a_132, hat_kinds_129_132, hat_values_129_132, hat_told_129_132, hat_nodes_129_132, hg_kinds_129, hg_values_129, hg_told_129, hg_nodes_129, hg_names_129, by first | omega | assumption | (simp; done) | exact Or.inl rfl | exact Or.inr rfl, by first | omega | assumption | (simp; done) | exact Or.inl rfl | exact Or.inr rfl⟩
                rw [hQ]
                exact W.zret (v := 0) hx hb hr (jb_nz (Or.inl rfl)) (fun t ht hW => ⟨⟨0, (tk_101, z_130, nc_101), rfl, ⟨(Or.inl rfl), by refine ⟨?_, ?_, ?_, ?_, ?_, ?_⟩ <;> first | rfl | omega | (left; omega) | (right; omega) | exact Or.inl ⟨by decide, rfl⟩ | (simp only; omega)⟩, by rw [ht]; try exact hX_132, by rw [ht]; try exact he_136, by rw [ht]; try exact hM_132, by rw [ht]; try exact hz_132, by rw [ht]; try exact hT_132⟩, by rw [ht]; try exact hS_132.1, fun q h9 hq => by rw [ht]; try exact hS_132.2.1 q h9 hq⟩) hS_132.2.2 dX10_isOne_211
              · skip
                have c_135' : r_100.toInt > 2 := jb_le_n (rfl) ((by decide)) c_135
                refine lv_aload_n hx hb dX10_isOne_177 rfl (lv_at hl 4 rfl) ?_
                refine lv_bipush (v := 44) hx hb dX10_isOne_178 (by decide) ?_
                have he_139 : jB12e dC dI ca G0 a tk_101 z_130 nc_101 H1 := ⟨names_129, kinds_129, values_129, word_129, told_129, toldCount_129, terms_129, nodes_129, f_kinds_129, f_values_129, f_told_129, f_nodes_129, hat_a_132, hat_kinds_129_132, hat_values_129_132, hat_told_129_132, hat_nodes_129_132, hg_kinds_129, hg_values_129, hg_told_129, hg_nodes_129, hg_names_129, by first | omega | assumption | (simp; done) | exact Or.inl rfl | exact Or.inr rfl, by first | omega | assumption | (simp; done) | exact Or.inl rfl | exact Or.inr rfl⟩
                refine va_calli (A0 := jA base) (H0 := s.heap) (va_runV (As := [.int 44]) (rest := []) ⟨hx, hb, hml, hown, hts⟩ (tX10_isSign l dC dI ca base B hB G0 X H1 a 44 tk_101 z_130 nc_101) (cwV 1 hts gX10_isOne_X10_isSign rfl rfl rfl (by decide +kernel) ⟨by rw [← hR]; show (0) + 1 ≤ 5 * ef + 5; omega, by rw [← hR]; show 8 + (3 + 11) + (0) ≤ 160 * ef + 200; omega⟩) ⟨fun a U g mk q => by obtain ⟨q0, q1, q2, qK, q9⟩ := q; exact ⟨q0, q1, q2, jG.calling g mk a qK, q9⟩, va_recv hK (jp_one hat_a_132) (ci := 12) (q0 := 0) rfl rfl, fun U hU hW => ⟨rfl, hU, hX_132, hG.step hW hU hS_132, hg_a, hm_a, he_139, by refine ⟨?_, ?_, ?_, ?_, ?_, ?_⟩ <;> omega⟩⟩ rfl rfl hl.1 rfl (lv_room (Nat.le_of_ble_eq_true rfl)) dX10_isOne_180 ⟨Nat.zero_le _, Nat.zero_le _⟩) hS_132 (fun q _ h => h) (fun q h => h) (fun r_137 u t H1 locs1 ht hvm hr_137 hBb hz1 hk1 hS_138 => ?_)
                obtain ⟨tk_138, at_138, nc_138⟩ := u
                obtain ⟨hX_138, he_138, hM_1380, hz_1380, hT_1380⟩ := hBb
                rw [ht] at hX_138 he_138 hM_1380 hz_1380 hT_1380
                simp only at hr_137 he_138
                have hM_138 := hM_132.tr0 hM_1380 hz_132 (by intro r; simp)
                have hz_138 := hz_1380.trans hz_132
                have hT_138 := hT_1380.trans hT_132
                clear hz1 hk1 hvm ht hM_1380 hz_1380 hT_1380
                obtain ⟨hr_137b, hr_137p⟩ := hr_137
                have hr_137' := jb_01 hr_137b
                refine lv_if_eq (tgt := 210) hx hb dX10_isOne_183 (by decide) (fun c_140 => ?_) (fun c_140 => ?_)
                · skip
                  have c_140' : r_137.toInt = 0 := jb_eq (rfl) ((by decide)) c_140
                  refine lv_iconst (v := 0) hx hb dX10_isOne_210 (by decide) ?_
                  rw [hQ]
                  exact W.zret (v := 0) hx hb hr (jb_nz (Or.inl rfl)) (fun t ht hW => ⟨⟨0, (tk_138, at_138, nc_138), rfl, ⟨(Or.inl rfl), by refine ⟨?_, ?_, ?_, ?_, ?_, ?_⟩ <;> first | rfl | omega | (left; omega) | (right; omega) | exact Or.inl ⟨by decide, rfl⟩ | (simp only; omega)⟩, by rw [ht]; try exact hX_138, by rw [ht]; try exact he_138, by rw [ht]; try exact hM_138, by rw [ht]; try exact hz_138, by rw [ht]; try exact hT_138⟩, by rw [ht]; try exact hS_138.1, fun q h9 hq => by rw [ht]; try exact hS_138.2.1 q h9 hq⟩) hS_138.2.2 dX10_isOne_211
                · skip
                  have c_140' : r_137.toInt ≠ 0 := jb_eq_n (rfl) ((by decide)) c_140
                  refine lv_aload_n hx hb dX10_isOne_186 rfl (lv_at hl 4 rfl) ?_
                  refine lv_iload hx hb dX10_isOne_187 (lv_at hl 0 rfl) ?_
                  obtain ⟨names_143, kinds_143, values_143, word_143, told_143, toldCount_143, terms_143, nodes_143, f_kinds_143, f_values_143, f_told_143, f_nodes_143, hat_a_143, hat_kinds_143, hat_values_143, hat_told_143, hat_nodes_143, hg_kinds_143, hg_values_143, hg_told_143, hg_nodes_143, hg_names_143, hf0_143, hf1_143⟩ := id he_138
                  have hlt_names_143 := hX_138.2 _ _ hg_names_143
                  have hrt_names_143 : jRoot G0 names_143 := ⟨_, _, hg_names_143, by omega⟩
                  refine va_calli (A0 := jA base) (H0 := s.heap) (va_runV (As := [.int z_128]) (rest := []) ⟨hx, hb, hml, hown, hts⟩ (tX10_addNode l dC dI ca base B hB G0 X H1 a z_128 tk_138 at_138 nc_138) (cwV 1 hts gX10_isOne_X10_addNode rfl rfl rfl (by decide +kernel) ⟨by rw [← hR]; show (0) + 1 ≤ 5 * ef + 5; omega, by rw [← hR]; show 8 + (2 + 11) + (0) ≤ 160 * ef + 200; omega⟩) ⟨fun a U g mk q => by obtain ⟨q0, q1, q2, qK, q9⟩ := q; exact ⟨q0, q1, q2, jG.calling g mk a qK, q9⟩, va_recv hK (jp_one hat_a_143) (ci := 12) (q0 := 0) rfl rfl, fun U hU hW => ⟨rfl, hU, hX_138, hG.step hW hU hS_138, hg_a, hm_a, he_138, by refine ⟨?_, ?_, ?_, ?_, ?_, ?_⟩ <;> omega⟩⟩ rfl rfl hl.1 rfl (lv_room (Nat.le_of_ble_eq_true rfl)) dX10_isOne_189 ⟨Nat.zero_le _, Nat.zero_le _⟩) hS_138 (fun q _ h => h) (fun q h => h) (fun r_141 u t H1 locs1 ht hvm hr_141 hBb hz1 hk1 hS_142 => ?_)
                  obtain ⟨tk_142, at_142, nc_142⟩ := u
                  obtain ⟨hX_142, he_142, hM_1420, hz_1420, hT_1420⟩ := hBb
                  rw [ht] at hX_142 he_142 hM_1420 hz_1420 hT_1420
                  simp only at hr_141 he_142
                  have hM_142 := hM_138.tr0 hM_1420 hz_138 (by intro r; simp)
                  have hz_142 := hz_1420.trans hz_138
                  have hT_142 := hT_1420.trans hT_138
                  clear hz1 hk1 hvm ht hM_1420 hz_1420 hT_1420
                  obtain ⟨hr_141b, hr_141p⟩ := hr_141
                  have hr_141' := jb_01 hr_141b
                  refine lv_if_eq (tgt := 210) hx hb dX10_isOne_192 (by decide) (fun c_144 => ?_) (fun c_144 => ?_)
                  · skip
                    have c_144' : r_141.toInt = 0 := jb_eq (rfl) ((by decide)) c_144
                    refine lv_iconst (v := 0) hx hb dX10_isOne_210 (by decide) ?_
                    rw [hQ]
                    exact W.zret (v := 0) hx hb hr (jb_nz (Or.inl rfl)) (fun t ht hW => ⟨⟨0, (tk_142, at_142, nc_142), rfl, ⟨(Or.inl rfl), by refine ⟨?_, ?_, ?_, ?_, ?_, ?_⟩ <;> first | rfl | omega | (left; omega) | (right; omega) | exact Or.inl ⟨by decide, rfl⟩ | (simp only; omega)⟩, by rw [ht]; try exact hX_142, by rw [ht]; try exact he_142, by rw [ht]; try exact hM_142, by rw [ht]; try exact hz_142, by rw [ht]; try exact hT_142⟩, by rw [ht]; try exact hS_142.1, fun q h9 hq => by rw [ht]; try exact hS_142.2.1 q h9 hq⟩) hS_142.2.2 dX10_isOne_211
                  · skip
                    have c_144' : r_141.toInt ≠ 0 := jb_eq_n (rfl) ((by decide)) c_144
                    refine lv_aload_n hx hb dX10_isOne_195 rfl (lv_at hl 4 rfl) ?_
                    refine lv_iconst (v := 0) hx hb dX10_isOne_196 (by decide) ?_
                    refine lv_iload_n hx hb dX10_isOne_197 rfl (lv_at hl 5 rfl) ?_
                    refine lv_iconst (v := 1) hx hb dX10_isOne_198 (by decide) ?_
                    refine lv_iadd hx hb dX10_isOne_199 ?_
                    refine lv_topi (fun z_145 ez_145 => ?_)
                    have hz_145 : z_145.toInt = dp.toInt + 1 := by rw [ez_145]; exact jb_iadd (rfl) ((by decide)) (by omega) (by omega)
                    obtain ⟨names_148, kinds_148, values_148, word_148, told_148, toldCount_148, terms_148, nodes_148, f_kinds_148, f_values_148, f_told_148, f_nodes_148, hat_a_148, hat_kinds_148, hat_values_148, hat_told_148, hat_nodes_148, hg_kinds_148, hg_values_148, hg_told_148, hg_nodes_148, hg_names_148, hf0_148, hf1_148⟩ := id he_142
                    have hlt_names_148 := hX_142.2 _ _ hg_names_148
                    have hrt_names_148 : jRoot G0 names_148 := ⟨_, _, hg_names_148, by omega⟩
                    refine va_calli (A0 := jA base) (H0 := s.heap) (va_runV (As := [.int 0, .int z_145]) (rest := []) ⟨hx, hb, hml, hown, hts⟩ (ihC (ef - 1) (by omega) G0 X H1 a 0 z_145 tk_142 at_142 nc_142) (cwV 2 hts gX10_isOne_X10_isChain rfl rfl rfl (by decide +kernel) ⟨by rw [← hR]; show (5 * (ef - 1) + 6 + 2) + 1 ≤ 5 * ef + 5; omega, by rw [← hR]; show 8 + (6 + 11) + (160 * (ef - 1) + 230 + 30 * 2) ≤ 160 * ef + 200; omega⟩) ⟨fun a U g mk q => by obtain ⟨q0, q1, q2, qK, q9⟩ := q; exact ⟨q0, q1, q2, jG.calling g mk a qK, q9⟩, va_recv hK (jp_one hat_a_148) (ci := 12) (q0 := 0) rfl rfl, fun U hU hW => ⟨rfl, hU, hX_142, hG.step hW hU hS_142, hg_a, hm_a, he_142, by refine ⟨?_, ?_, ?_, ?_, ?_, ?_, ?_, ?_, ?_, ?_⟩ <;> omega⟩⟩ rfl rfl hl.1 rfl (lv_room (Nat.le_of_ble_eq_true rfl)) dX10_isOne_200 ⟨Nat.zero_le _, Nat.zero_le _⟩) hS_142 (fun q _ h => h) (fun q h => h) (fun r_146 u t H1 locs1 ht hvm hr_146 hBb hz1 hk1 hS_147 => ?_)
                    obtain ⟨tk_147, at_147, nc_147⟩ := u
                    obtain ⟨hX_147, he_147, hM_1470, hz_1470, hT_1470⟩ := hBb
                    rw [ht] at hX_147 he_147 hM_1470 hz_1470 hT_1470
                    simp only at hr_146 he_147
                    have hM_147 := hM_142.tr0 hM_1470 hz_142 (by intro r; simp)
                    have hz_147 := hz_1470.trans hz_142
                    have hT_147 := hT_1470.trans hT_142
                    clear hz1 hk1 hvm ht hM_1470 hz_1470 hT_1470
                    obtain ⟨hr_146b, hr_146p⟩ := hr_146
                    have hr_146' := jb_01 hr_146b
                    refine lv_if_eq (tgt := 210) hx hb dX10_isOne_203 (by decide) (fun c_149 => ?_) (fun c_149 => ?_)
                    · skip
                      have c_149' : r_146.toInt = 0 := jb_eq (rfl) ((by decide)) c_149
                      refine lv_iconst (v := 0) hx hb dX10_isOne_210 (by decide) ?_
                      rw [hQ]
                      exact W.zret (v := 0) hx hb hr (jb_nz (Or.inl rfl)) (fun t ht hW => ⟨⟨0, (tk_147, at_147, nc_147), rfl, ⟨(Or.inl rfl), by refine ⟨?_, ?_, ?_, ?_, ?_, ?_⟩ <;> first | rfl | omega | (left; omega) | (right; omega) | exact Or.inl ⟨by decide, rfl⟩ | (simp only; omega)⟩, by rw [ht]; try exact hX_147, by rw [ht]; try exact he_147, by rw [ht]; try exact hM_147, by rw [ht]; try exact hz_147, by rw [ht]; try exact hT_147⟩, by rw [ht]; try exact hS_147.1, fun q h9 hq => by rw [ht]; try exact hS_147.2.1 q h9 hq⟩) hS_147.2.2 dX10_isOne_211
                    · skip
                      have c_149' : r_146.toInt ≠ 0 := jb_eq_n (rfl) ((by decide)) c_149
                      refine lv_iconst (v := 1) hx hb dX10_isOne_206 (by decide) ?_
                      refine lv_goto (tgt := 211) hx hb dX10_isOne_207 (by decide) ?_
                      rw [hQ]
                      exact W.zret (v := 1) hx hb hr (jb_nz (Or.inr rfl)) (fun t ht hW => ⟨⟨1, (tk_147, at_147, nc_147), rfl, ⟨(Or.inr rfl), by refine ⟨?_, ?_, ?_, ?_, ?_, ?_⟩ <;> first | rfl | omega | (left; omega) | (right; omega) | exact Or.inl ⟨by decide, rfl⟩ | (simp only; omega)⟩, by rw [ht]; try exact hX_147, by rw [ht]; try exact he_147, by rw [ht]; try exact hM_147, by rw [ht]; try exact hz_147, by rw [ht]; try exact hT_147⟩, by rw [ht]; try exact hS_147.1, fun q h9 hq => by rw [ht]; try exact hS_147.2.1 q h9 hq⟩) hS_147.2.2 dX10_isOne_211
    · skip
      have c_8' : r_1.toInt = 40 := jb_ne_n (rfl) ((by decide)) c_8
      refine lv_aload_n hx hb dX10_isOne_70 rfl (lv_at hl 2 rfl) ?_
      refine lv_dup hx hb dX10_isOne_71 rfl ?_
      obtain ⟨names_150, kinds_150, values_150, word_150, told_150, toldCount_150, terms_150, nodes_150, f_kinds_150, f_values_150, f_told_150, f_nodes_150, hat_a_150, hat_kinds_150, hat_values_150, hat_told_150, hat_nodes_150, hg_kinds_150, hg_values_150, hg_told_150, hg_nodes_150, hg_names_150, hf0_150, hf1_150⟩ := id he_5
      have hlt_names_150 := hX_5.2 _ _ hg_names_150
      have hrt_names_150 : jRoot G0 names_150 := ⟨_, _, hg_names_150, by omega⟩
      refine va_get (D := (dC, dI)) (ci := 12) (v := .int at_5) (C := RX10) (T := TX10) (N := 11) hx hb hts hin_12 hown hK (jp_one hat_a_150) 0 rfl rfl 4 (by decide) (hts (.fieldLink RX10 83 "ProofServer$Syntax" "at" "I") (by decide +kernel)) (fun _ h9 => h9) rfl dX10_isOne_72 ?_
      refine lv_iconst (v := 1) hx hb dX10_isOne_75 (by decide) ?_
      refine lv_iadd hx hb dX10_isOne_76 ?_
      refine lv_topi (fun z_151 ez_151 => ?_)
      have hz_151 : z_151.toInt = at_5.toInt + 1 := by rw [ez_151]; exact jb_iadd (rfl) ((by decide)) (by omega) (by omega)
      refine j_put (D := (dC, dI)) (ci := 12) (v := .int z_151) (ty := .int) (C := RX10) (T := TX10) (N := 11) (A := jA base) hx hb hts hin_12 tyX10 tyX10_ok nmX10 hown hK hat_a_150 (hX_5.2 _ _ hg_a).1 hS_5.2.2 rfl 4 (by decide) (hts (.fieldLink RX10 83 "ProofServer$Syntax" "at" "I") (by decide +kernel)) (fun _ h9 => h9) rfl (by decide +kernel) rfl rfl (Nat.le_of_ble_eq_true rfl) dX10_isOne_77 (fun H1 locs1 hat1 hsz1 hfr1 hT1 hL1 => ?_)
      have hX_153 := hX_5.put hB hg_a (by omega) jSup.root hm_a hsz1 hfr1
      have hM_153 := hM_5.put jExt.rf hrt_a jSup.root (by simp) hfr1
      have hz_153 := hsz1.trans hz_5
      have hT_153 := hT1.trans hT_5
      have hS_153 := jS_put hS_5 hsz1 hfr1 (hX_5.2 _ _ hg_a).1 hL1
      have hat_kinds_150_153 := hat_kinds_150.kept (hfr1 _ (jne hg_kinds_150 hg_a (by simp)))
      have hat_values_150_153 := hat_values_150.kept (hfr1 _ (jne hg_values_150 hg_a (by simp)))
      have hat_told_150_153 := hat_told_150.kept (hfr1 _ (jne hg_told_150 hg_a (by simp)))
      have hat_nodes_150_153 := hat_nodes_150.kept (hfr1 _ (jne hg_nodes_150 hg_a (by simp)))
      clear hfr1 hsz1 hT1 hL1 hat_a_150 hat_kinds_150 hat_values_150 hat_told_150 hat_nodes_150 hX_5 hM_5 hz_5 hT_5 hS_5
      have hat_a_153 : va_at (dC, dI) vwCl (a, .inr (12, [.ref names_150, .ref kinds_150, .ref values_150, .int tk_5, .int z_151, .int word_150, .ref told_150, .int toldCount_150, .int terms_150, .ref nodes_150, .int nc_5])) H1 := hat1
      clear hat1
      refine lv_iload_n hx hb dX10_isOne_80 rfl (lv_at hl 3 rfl) ?_
      refine lv_bipush (v := 12) hx hb dX10_isOne_81 (by decide) ?_
      refine lv_icmp_ge (tgt := 110) hx hb dX10_isOne_83 (by decide) (fun c_154 => ?_) (fun c_154 => ?_)
      · skip
        have c_154' : dp.toInt ≥ 12 := jb_ge (rfl) ((by decide)) c_154
        refine lv_iconst (v := 0) hx hb dX10_isOne_110 (by decide) ?_
        have he_155 : jB12e dC dI ca G0 a tk_5 z_151 nc_5 H1 := ⟨names_150, kinds_150, values_150, word_150, told_150, toldCount_150, terms_150, nodes_150, f_kinds_150, f_values_150, f_told_150, f_nodes_150, hat_a_153, hat_kinds_150_153, hat_values_150_153, hat_told_150_153, hat_nodes_150_153, hg_kinds_150, hg_values_150, hg_told_150, hg_nodes_150, hg_names_150, by first | omega | assumption | (simp; done) | exact Or.inl rfl | exact Or.inr rfl, by first | omega | assumption | (simp; done) | exact Or.inl rfl | exact Or.inr rfl⟩
        rw [hQ]
        exact W.zret (v := 0) hx hb hr (jb_nz (Or.inl rfl)) (fun t ht hW => ⟨⟨0, (tk_5, z_151, nc_5), rfl, ⟨(Or.inl rfl), by refine ⟨?_, ?_, ?_, ?_, ?_, ?_⟩ <;> first | rfl | omega | (left; omega) | (right; omega) | exact Or.inl ⟨by decide, rfl⟩ | (simp only; omega)⟩, by rw [ht]; try exact hX_153, by rw [ht]; try exact he_155, by rw [ht]; try exact hM_153, by rw [ht]; try exact hz_153, by rw [ht]; try exact hT_153⟩, by rw [ht]; try exact hS_153.1, fun q h9 hq => by rw [ht]; try exact hS_153.2.1 q h9 hq⟩) hS_153.2.2 dX10_isOne_111
      · skip
        have c_154' : dp.toInt < 12 := jb_ge_n (rfl) ((by decide)) c_154
        refine lv_aload_n hx hb dX10_isOne_86 rfl (lv_at hl 2 rfl) ?_
        refine lv_iconst (v := 0) hx hb dX10_isOne_87 (by decide) ?_
        refine lv_iload_n hx hb dX10_isOne_88 rfl (lv_at hl 3 rfl) ?_
        refine lv_iconst (v := 1) hx hb dX10_isOne_89 (by decide) ?_
        refine lv_iadd hx hb dX10_isOne_90 ?_
        refine lv_topi (fun z_156 ez_156 => ?_)
        have hz_156 : z_156.toInt = dp.toInt + 1 := by rw [ez_156]; exact jb_iadd (rfl) ((by decide)) (by omega) (by omega)
        have he_159 : jB12e dC dI ca G0 a tk_5 z_151 nc_5 H1 := ⟨names_150, kinds_150, values_150, word_150, told_150, toldCount_150, terms_150, nodes_150, f_kinds_150, f_values_150, f_told_150, f_nodes_150, hat_a_153, hat_kinds_150_153, hat_values_150_153, hat_told_150_153, hat_nodes_150_153, hg_kinds_150, hg_values_150, hg_told_150, hg_nodes_150, hg_names_150, by first | omega | assumption | (simp; done) | exact Or.inl rfl | exact Or.inr rfl, by first | omega | assumption | (simp; done) | exact Or.inl rfl | exact Or.inr rfl⟩
        refine va_calli (A0 := jA base) (H0 := s.heap) (va_runV (As := [.int 0, .int z_156]) (rest := []) ⟨hx, hb, hml, hown, hts⟩ (ihC (ef - 1) (by omega) G0 X H1 a 0 z_156 tk_5 z_151 nc_5) (cwV 2 hts gX10_isOne_X10_isChain rfl rfl rfl (by decide +kernel) ⟨by rw [← hR]; show (5 * (ef - 1) + 6 + 2) + 1 ≤ 5 * ef + 5; omega, by rw [← hR]; show 8 + (6 + 11) + (160 * (ef - 1) + 230 + 30 * 2) ≤ 160 * ef + 200; omega⟩) ⟨fun a U g mk q => by obtain ⟨q0, q1, q2, qK, q9⟩ := q; exact ⟨q0, q1, q2, jG.calling g mk a qK, q9⟩, va_recv hK (jp_one hat_a_153) (ci := 12) (q0 := 0) rfl rfl, fun U hU hW => ⟨rfl, hU, hX_153, hG.step hW hU hS_153, hg_a, hm_a, he_159, by refine ⟨?_, ?_, ?_, ?_, ?_, ?_, ?_, ?_, ?_, ?_⟩ <;> omega⟩⟩ rfl rfl hl.1 rfl (lv_room (Nat.le_of_ble_eq_true rfl)) dX10_isOne_91 ⟨Nat.zero_le _, Nat.zero_le _⟩) hS_153 (fun q _ h => h) (fun q h => h) (fun r_157 u t H1 locs1 ht hvm hr_157 hBb hz1 hk1 hS_158 => ?_)
        obtain ⟨tk_158, at_158, nc_158⟩ := u
        obtain ⟨hX_158, he_158, hM_1580, hz_1580, hT_1580⟩ := hBb
        rw [ht] at hX_158 he_158 hM_1580 hz_1580 hT_1580
        simp only at hr_157 he_158
        have hM_158 := hM_153.tr0 hM_1580 hz_153 (by intro r; simp)
        have hz_158 := hz_1580.trans hz_153
        have hT_158 := hT_1580.trans hT_153
        clear hz1 hk1 hvm ht hM_1580 hz_1580 hT_1580
        obtain ⟨hr_157b, hr_157p⟩ := hr_157
        have hr_157' := jb_01 hr_157b
        refine lv_if_eq (tgt := 110) hx hb dX10_isOne_94 (by decide) (fun c_160 => ?_) (fun c_160 => ?_)
        · skip
          have c_160' : r_157.toInt = 0 := jb_eq (rfl) ((by decide)) c_160
          refine lv_iconst (v := 0) hx hb dX10_isOne_110 (by decide) ?_
          rw [hQ]
          exact W.zret (v := 0) hx hb hr (jb_nz (Or.inl rfl)) (fun t ht hW => ⟨⟨0, (tk_158, at_158, nc_158), rfl, ⟨(Or.inl rfl), by refine ⟨?_, ?_, ?_, ?_, ?_, ?_⟩ <;> first | rfl | omega | (left; omega) | (right; omega) | exact Or.inl ⟨by decide, rfl⟩ | (simp only; omega)⟩, by rw [ht]; try exact hX_158, by rw [ht]; try exact he_158, by rw [ht]; try exact hM_158, by rw [ht]; try exact hz_158, by rw [ht]; try exact hT_158⟩, by rw [ht]; try exact hS_158.1, fun q h9 hq => by rw [ht]; try exact hS_158.2.1 q h9 hq⟩) hS_158.2.2 dX10_isOne_111
        · skip
          have c_160' : r_157.toInt ≠ 0 := jb_eq_n (rfl) ((by decide)) c_160
          refine lv_aload_n hx hb dX10_isOne_97 rfl (lv_at hl 2 rfl) ?_
          refine lv_bipush (v := 41) hx hb dX10_isOne_98 (by decide) ?_
          obtain ⟨names_163, kinds_163, values_163, word_163, told_163, toldCount_163, terms_163, nodes_163, f_kinds_163, f_values_163, f_told_163, f_nodes_163, hat_a_163, hat_kinds_163, hat_values_163, hat_told_163, hat_nodes_163, hg_kinds_163, hg_values_163, hg_told_163, hg_nodes_163, hg_names_163, hf0_163, hf1_163⟩ := id he_158
          have hlt_names_163 := hX_158.2 _ _ hg_names_163
          have hrt_names_163 : jRoot G0 names_163 := ⟨_, _, hg_names_163, by omega⟩
          refine va_calli (A0 := jA base) (H0 := s.heap) (va_runV (As := [.int 41]) (rest := []) ⟨hx, hb, hml, hown, hts⟩ (tX10_isSign l dC dI ca base B hB G0 X H1 a 41 tk_158 at_158 nc_158) (cwV 1 hts gX10_isOne_X10_isSign rfl rfl rfl (by decide +kernel) ⟨by rw [← hR]; show (0) + 1 ≤ 5 * ef + 5; omega, by rw [← hR]; show 8 + (3 + 11) + (0) ≤ 160 * ef + 200; omega⟩) ⟨fun a U g mk q => by obtain ⟨q0, q1, q2, qK, q9⟩ := q; exact ⟨q0, q1, q2, jG.calling g mk a qK, q9⟩, va_recv hK (jp_one hat_a_163) (ci := 12) (q0 := 0) rfl rfl, fun U hU hW => ⟨rfl, hU, hX_158, hG.step hW hU hS_158, hg_a, hm_a, he_158, by refine ⟨?_, ?_, ?_, ?_, ?_, ?_⟩ <;> omega⟩⟩ rfl rfl hl.1 rfl (lv_room (Nat.le_of_ble_eq_true rfl)) dX10_isOne_100 ⟨Nat.zero_le _, Nat.zero_le _⟩) hS_158 (fun q _ h => h) (fun q h => h) (fun r_161 u t H1 locs1 ht hvm hr_161 hBb hz1 hk1 hS_162 => ?_)
          obtain ⟨tk_162, at_162, nc_162⟩ := u
          obtain ⟨hX_162, he_162, hM_1620, hz_1620, hT_1620⟩ := hBb
          rw [ht] at hX_162 he_162 hM_1620 hz_1620 hT_1620
          simp only at hr_161 he_162
          have hM_162 := hM_158.tr0 hM_1620 hz_158 (by intro r; simp)
          have hz_162 := hz_1620.trans hz_158
          have hT_162 := hT_1620.trans hT_158
          clear hz1 hk1 hvm ht hM_1620 hz_1620 hT_1620
          obtain ⟨hr_161b, hr_161p⟩ := hr_161
          have hr_161' := jb_01 hr_161b
          refine lv_if_eq (tgt := 110) hx hb dX10_isOne_103 (by decide) (fun c_164 => ?_) (fun c_164 => ?_)
          · skip
            have c_164' : r_161.toInt = 0 := jb_eq (rfl) ((by decide)) c_164
            refine lv_iconst (v := 0) hx hb dX10_isOne_110 (by decide) ?_
            rw [hQ]
            exact W.zret (v := 0) hx hb hr (jb_nz (Or.inl rfl)) (fun t ht hW => ⟨⟨0, (tk_162, at_162, nc_162), rfl, ⟨(Or.inl rfl), by refine ⟨?_, ?_, ?_, ?_, ?_, ?_⟩ <;> first | rfl | omega | (left; omega) | (right; omega) | exact Or.inl ⟨by decide, rfl⟩ | (simp only; omega)⟩, by rw [ht]; try exact hX_162, by rw [ht]; try exact he_162, by rw [ht]; try exact hM_162, by rw [ht]; try exact hz_162, by rw [ht]; try exact hT_162⟩, by rw [ht]; try exact hS_162.1, fun q h9 hq => by rw [ht]; try exact hS_162.2.1 q h9 hq⟩) hS_162.2.2 dX10_isOne_111
          · skip
            have c_164' : r_161.toInt ≠ 0 := jb_eq_n (rfl) ((by decide)) c_164
            refine lv_iconst (v := 1) hx hb dX10_isOne_106 (by decide) ?_
            refine lv_goto (tgt := 111) hx hb dX10_isOne_107 (by decide) ?_
            rw [hQ]
            exact W.zret (v := 1) hx hb hr (jb_nz (Or.inr rfl)) (fun t ht hW => ⟨⟨1, (tk_162, at_162, nc_162), rfl, ⟨(Or.inr rfl), by refine ⟨?_, ?_, ?_, ?_, ?_, ?_⟩ <;> first | rfl | omega | (left; omega) | (right; omega) | exact Or.inl ⟨by decide, rfl⟩ | (simp only; omega)⟩, by rw [ht]; try exact hX_162, by rw [ht]; try exact he_162, by rw [ht]; try exact hM_162, by rw [ht]; try exact hz_162, by rw [ht]; try exact hT_162⟩, by rw [ht]; try exact hS_162.1, fun q h9 hq => by rw [ht]; try exact hS_162.2.1 q h9 hq⟩) hS_162.2.2 dX10_isOne_111
  · skip
    have c_7' : r_1.toInt = 126 := jb_ne_n (rfl) ((by decide)) c_7
    refine lv_aload_n hx hb dX10_isOne_16 rfl (lv_at hl 2 rfl) ?_
    refine lv_dup hx hb dX10_isOne_17 rfl ?_
    obtain ⟨names_165, kinds_165, values_165, word_165, told_165, toldCount_165, terms_165, nodes_165, f_kinds_165, f_values_165, f_told_165, f_nodes_165, hat_a_165, hat_kinds_165, hat_values_165, hat_told_165, hat_nodes_165, hg_kinds_165, hg_values_165, hg_told_165, hg_nodes_165, hg_names_165, hf0_165, hf1_165⟩ := id he_5
    have hlt_names_165 := hX_5.2 _ _ hg_names_165
    have hrt_names_165 : jRoot G0 names_165 := ⟨_, _, hg_names_165, by omega⟩
    refine va_get (D := (dC, dI)) (ci := 12) (v := .int at_5) (C := RX10) (T := TX10) (N := 11) hx hb hts hin_12 hown hK (jp_one hat_a_165) 0 rfl rfl 4 (by decide) (hts (.fieldLink RX10 83 "ProofServer$Syntax" "at" "I") (by decide +kernel)) (fun _ h9 => h9) rfl dX10_isOne_18 ?_
    refine lv_iconst (v := 1) hx hb dX10_isOne_21 (by decide) ?_
    refine lv_iadd hx hb dX10_isOne_22 ?_
    refine lv_topi (fun z_166 ez_166 => ?_)
    have hz_166 : z_166.toInt = at_5.toInt + 1 := by rw [ez_166]; exact jb_iadd (rfl) ((by decide)) (by omega) (by omega)
    refine j_put (D := (dC, dI)) (ci := 12) (v := .int z_166) (ty := .int) (C := RX10) (T := TX10) (N := 11) (A := jA base) hx hb hts hin_12 tyX10 tyX10_ok nmX10 hown hK hat_a_165 (hX_5.2 _ _ hg_a).1 hS_5.2.2 rfl 4 (by decide) (hts (.fieldLink RX10 83 "ProofServer$Syntax" "at" "I") (by decide +kernel)) (fun _ h9 => h9) rfl (by decide +kernel) rfl rfl (Nat.le_of_ble_eq_true rfl) dX10_isOne_23 (fun H1 locs1 hat1 hsz1 hfr1 hT1 hL1 => ?_)
    have hX_168 := hX_5.put hB hg_a (by omega) jSup.root hm_a hsz1 hfr1
    have hM_168 := hM_5.put jExt.rf hrt_a jSup.root (by simp) hfr1
    have hz_168 := hsz1.trans hz_5
    have hT_168 := hT1.trans hT_5
    have hS_168 := jS_put hS_5 hsz1 hfr1 (hX_5.2 _ _ hg_a).1 hL1
    have hat_kinds_165_168 := hat_kinds_165.kept (hfr1 _ (jne hg_kinds_165 hg_a (by simp)))
    have hat_values_165_168 := hat_values_165.kept (hfr1 _ (jne hg_values_165 hg_a (by simp)))
    have hat_told_165_168 := hat_told_165.kept (hfr1 _ (jne hg_told_165 hg_a (by simp)))
    have hat_nodes_165_168 := hat_nodes_165.kept (hfr1 _ (jne hg_nodes_165 hg_a (by simp)))
    clear hfr1 hsz1 hT1 hL1 hat_a_165 hat_kinds_165 hat_values_165 hat_told_165 hat_nodes_165 hX_5 hM_5 hz_5 hT_5 hS_5
    have hat_a_168 : va_at (dC, dI) vwCl (a, .inr (12, [.ref names_165, .ref kinds_165, .ref values_165, .int tk_5, .int z_166, .int word_165, .ref told_165, .int toldCount_165, .int terms_165, .ref nodes_165, .int nc_5])) H1 := hat1
    clear hat1
    refine lv_iload_n hx hb dX10_isOne_26 rfl (lv_at hl 3 rfl) ?_
    refine lv_bipush (v := 12) hx hb dX10_isOne_27 (by decide) ?_
    refine lv_icmp_ge (tgt := 62) hx hb dX10_isOne_29 (by decide) (fun c_169 => ?_) (fun c_169 => ?_)
    · skip
      have c_169' : dp.toInt ≥ 12 := jb_ge (rfl) ((by decide)) c_169
      refine lv_iconst (v := 0) hx hb dX10_isOne_62 (by decide) ?_
      have he_170 : jB12e dC dI ca G0 a tk_5 z_166 nc_5 H1 := ⟨names_165, kinds_165, values_165, word_165, told_165, toldCount_165, terms_165, nodes_165, f_kinds_165, f_values_165, f_told_165, f_nodes_165, hat_a_168, hat_kinds_165_168, hat_values_165_168, hat_told_165_168, hat_nodes_165_168, hg_kinds_165, hg_values_165, hg_told_165, hg_nodes_165, hg_names_165, by first | omega | assumption | (simp; done) | exact Or.inl rfl | exact Or.inr rfl, by first | omega | assumption | (simp; done) | exact Or.inl rfl | exact Or.inr rfl⟩
      rw [hQ]
      exact W.zret (v := 0) hx hb hr (jb_nz (Or.inl rfl)) (fun t ht hW => ⟨⟨0, (tk_5, z_166, nc_5), rfl, ⟨(Or.inl rfl), by refine ⟨?_, ?_, ?_, ?_, ?_, ?_⟩ <;> first | rfl | omega | (left; omega) | (right; omega) | exact Or.inl ⟨by decide, rfl⟩ | (simp only; omega)⟩, by rw [ht]; try exact hX_168, by rw [ht]; try exact he_170, by rw [ht]; try exact hM_168, by rw [ht]; try exact hz_168, by rw [ht]; try exact hT_168⟩, by rw [ht]; try exact hS_168.1, fun q h9 hq => by rw [ht]; try exact hS_168.2.1 q h9 hq⟩) hS_168.2.2 dX10_isOne_63
    · skip
      have c_169' : dp.toInt < 12 := jb_ge_n (rfl) ((by decide)) c_169
      refine lv_aload_n hx hb dX10_isOne_32 rfl (lv_at hl 2 rfl) ?_
      refine lv_iconst (v := 1) hx hb dX10_isOne_33 (by decide) ?_
      have he_173 : jB12e dC dI ca G0 a tk_5 z_166 nc_5 H1 := ⟨names_165, kinds_165, values_165, word_165, told_165, toldCount_165, terms_165, nodes_165, f_kinds_165, f_values_165, f_told_165, f_nodes_165, hat_a_168, hat_kinds_165_168, hat_values_165_168, hat_told_165_168, hat_nodes_165_168, hg_kinds_165, hg_values_165, hg_told_165, hg_nodes_165, hg_names_165, by first | omega | assumption | (simp; done) | exact Or.inl rfl | exact Or.inr rfl, by first | omega | assumption | (simp; done) | exact Or.inl rfl | exact Or.inr rfl⟩
      refine va_calli (A0 := jA base) (H0 := s.heap) (va_runV (As := [.int 1]) (rest := []) ⟨hx, hb, hml, hown, hts⟩ (tX10_addNode l dC dI ca base B hB G0 X H1 a 1 tk_5 z_166 nc_5) (cwV 1 hts gX10_isOne_X10_addNode rfl rfl rfl (by decide +kernel) ⟨by rw [← hR]; show (0) + 1 ≤ 5 * ef + 5; omega, by rw [← hR]; show 8 + (2 + 11) + (0) ≤ 160 * ef + 200; omega⟩) ⟨fun a U g mk q => by obtain ⟨q0, q1, q2, qK, q9⟩ := q; exact ⟨q0, q1, q2, jG.calling g mk a qK, q9⟩, va_recv hK (jp_one hat_a_168) (ci := 12) (q0 := 0) rfl rfl, fun U hU hW => ⟨rfl, hU, hX_168, hG.step hW hU hS_168, hg_a, hm_a, he_173, by refine ⟨?_, ?_, ?_, ?_, ?_, ?_⟩ <;> omega⟩⟩ rfl rfl hl.1 rfl (lv_room (Nat.le_of_ble_eq_true rfl)) dX10_isOne_34 ⟨Nat.zero_le _, Nat.zero_le _⟩) hS_168 (fun q _ h => h) (fun q h => h) (fun r_171 u t H1 locs1 ht hvm hr_171 hBb hz1 hk1 hS_172 => ?_)
      obtain ⟨tk_172, at_172, nc_172⟩ := u
      obtain ⟨hX_172, he_172, hM_1720, hz_1720, hT_1720⟩ := hBb
      rw [ht] at hX_172 he_172 hM_1720 hz_1720 hT_1720
      simp only at hr_171 he_172
      have hM_172 := hM_168.tr0 hM_1720 hz_168 (by intro r; simp)
      have hz_172 := hz_1720.trans hz_168
      have hT_172 := hT_1720.trans hT_168
      clear hz1 hk1 hvm ht hM_1720 hz_1720 hT_1720
      obtain ⟨hr_171b, hr_171p⟩ := hr_171
      have hr_171' := jb_01 hr_171b
      refine lv_if_eq (tgt := 62) hx hb dX10_isOne_37 (by decide) (fun c_174 => ?_) (fun c_174 => ?_)
      · skip
        have c_174' : r_171.toInt = 0 := jb_eq (rfl) ((by decide)) c_174
        refine lv_iconst (v := 0) hx hb dX10_isOne_62 (by decide) ?_
        rw [hQ]
        exact W.zret (v := 0) hx hb hr (jb_nz (Or.inl rfl)) (fun t ht hW => ⟨⟨0, (tk_172, at_172, nc_172), rfl, ⟨(Or.inl rfl), by refine ⟨?_, ?_, ?_, ?_, ?_, ?_⟩ <;> first | rfl | omega | (left; omega) | (right; omega) | exact Or.inl ⟨by decide, rfl⟩ | (simp only; omega)⟩, by rw [ht]; try exact hX_172, by rw [ht]; try exact he_172, by rw [ht]; try exact hM_172, by rw [ht]; try exact hz_172, by rw [ht]; try exact hT_172⟩, by rw [ht]; try exact hS_172.1, fun q h9 hq => by rw [ht]; try exact hS_172.2.1 q h9 hq⟩) hS_172.2.2 dX10_isOne_63
      · skip
        have c_174' : r_171.toInt ≠ 0 := jb_eq_n (rfl) ((by decide)) c_174
        refine lv_aload_n hx hb dX10_isOne_40 rfl (lv_at hl 2 rfl) ?_
        refine lv_iload_n hx hb dX10_isOne_41 rfl (lv_at hl 3 rfl) ?_
        refine lv_iconst (v := 1) hx hb dX10_isOne_42 (by decide) ?_
        refine lv_iadd hx hb dX10_isOne_43 ?_
        refine lv_topi (fun z_175 ez_175 => ?_)
        have hz_175 : z_175.toInt = dp.toInt + 1 := by rw [ez_175]; exact jb_iadd (rfl) ((by decide)) (by omega) (by omega)
        obtain ⟨names_178, kinds_178, values_178, word_178, told_178, toldCount_178, terms_178, nodes_178, f_kinds_178, f_values_178, f_told_178, f_nodes_178, hat_a_178, hat_kinds_178, hat_values_178, hat_told_178, hat_nodes_178, hg_kinds_178, hg_values_178, hg_told_178, hg_nodes_178, hg_names_178, hf0_178, hf1_178⟩ := id he_172
        have hlt_names_178 := hX_172.2 _ _ hg_names_178
        have hrt_names_178 : jRoot G0 names_178 := ⟨_, _, hg_names_178, by omega⟩
        refine va_calli (A0 := jA base) (H0 := s.heap) (va_runV (As := [.int z_175]) (rest := []) ⟨hx, hb, hml, hown, hts⟩ (ihO (ef - 1) (by omega) G0 X H1 a z_175 tk_172 at_172 nc_172) (cwV 1 hts gX10_isOne_X10_isOne rfl rfl rfl (by decide +kernel) ⟨by rw [← hR]; show (5 * (ef - 1) + 5) + 1 ≤ 5 * ef + 5; omega, by rw [← hR]; show 8 + (6 + 11) + (160 * (ef - 1) + 200) ≤ 160 * ef + 200; omega⟩) ⟨fun a U g mk q => by obtain ⟨q0, q1, q2, qK, q9⟩ := q; exact ⟨q0, q1, q2, jG.calling g mk a qK, q9⟩, va_recv hK (jp_one hat_a_178) (ci := 12) (q0 := 0) rfl rfl, fun U hU hW => ⟨rfl, hU, hX_172, hG.step hW hU hS_172, hg_a, hm_a, he_172, by refine ⟨?_, ?_, ?_, ?_, ?_, ?_, ?_, ?_⟩ <;> omega⟩⟩ rfl rfl hl.1 rfl (lv_room (Nat.le_of_ble_eq_true rfl)) dX10_isOne_44 ⟨Nat.zero_le _, Nat.zero_le _⟩) hS_172 (fun q _ h => h) (fun q h => h) (fun r_176 u t H1 locs1 ht hvm hr_176 hBb hz1 hk1 hS_177 => ?_)
        obtain ⟨tk_177, at_177, nc_177⟩ := u
        obtain ⟨hX_177, he_177, hM_1770, hz_1770, hT_1770⟩ := hBb
        rw [ht] at hX_177 he_177 hM_1770 hz_1770 hT_1770
        simp only at hr_176 he_177
        have hM_177 := hM_172.tr0 hM_1770 hz_172 (by intro r; simp)
        have hz_177 := hz_1770.trans hz_172
        have hT_177 := hT_1770.trans hT_172
        clear hz1 hk1 hvm ht hM_1770 hz_1770 hT_1770
        obtain ⟨hr_176b, hr_176p⟩ := hr_176
        have hr_176' := jb_01 hr_176b
        refine lv_if_eq (tgt := 62) hx hb dX10_isOne_47 (by decide) (fun c_179 => ?_) (fun c_179 => ?_)
        · skip
          have c_179' : r_176.toInt = 0 := jb_eq (rfl) ((by decide)) c_179
          refine lv_iconst (v := 0) hx hb dX10_isOne_62 (by decide) ?_
          rw [hQ]
          exact W.zret (v := 0) hx hb hr (jb_nz (Or.inl rfl)) (fun t ht hW => ⟨⟨0, (tk_177, at_177, nc_177), rfl, ⟨(Or.inl rfl), by refine ⟨?_, ?_, ?_, ?_, ?_, ?_⟩ <;> first | rfl | omega | (left; omega) | (right; omega) | exact Or.inl ⟨by decide, rfl⟩ | (simp only; omega)⟩, by rw [ht]; try exact hX_177, by rw [ht]; try exact he_177, by rw [ht]; try exact hM_177, by rw [ht]; try exact hz_177, by rw [ht]; try exact hT_177⟩, by rw [ht]; try exact hS_177.1, fun q h9 hq => by rw [ht]; try exact hS_177.2.1 q h9 hq⟩) hS_177.2.2 dX10_isOne_63
        · skip
          have c_179' : r_176.toInt ≠ 0 := jb_eq_n (rfl) ((by decide)) c_179
          refine lv_aload_n hx hb dX10_isOne_50 rfl (lv_at hl 2 rfl) ?_
          refine lv_iconst (v := 0) hx hb dX10_isOne_51 (by decide) ?_
          obtain ⟨names_182, kinds_182, values_182, word_182, told_182, toldCount_182, terms_182, nodes_182, f_kinds_182, f_values_182, f_told_182, f_nodes_182, hat_a_182, hat_kinds_182, hat_values_182, hat_told_182, hat_nodes_182, hg_kinds_182, hg_values_182, hg_told_182, hg_nodes_182, hg_names_182, hf0_182, hf1_182⟩ := id he_177
          have hlt_names_182 := hX_177.2 _ _ hg_names_182
          have hrt_names_182 : jRoot G0 names_182 := ⟨_, _, hg_names_182, by omega⟩
          refine va_calli (A0 := jA base) (H0 := s.heap) (va_runV (As := [.int 0]) (rest := []) ⟨hx, hb, hml, hown, hts⟩ (tX10_addNode l dC dI ca base B hB G0 X H1 a 0 tk_177 at_177 nc_177) (cwV 1 hts gX10_isOne_X10_addNode rfl rfl rfl (by decide +kernel) ⟨by rw [← hR]; show (0) + 1 ≤ 5 * ef + 5; omega, by rw [← hR]; show 8 + (2 + 11) + (0) ≤ 160 * ef + 200; omega⟩) ⟨fun a U g mk q => by obtain ⟨q0, q1, q2, qK, q9⟩ := q; exact ⟨q0, q1, q2, jG.calling g mk a qK, q9⟩, va_recv hK (jp_one hat_a_182) (ci := 12) (q0 := 0) rfl rfl, fun U hU hW => ⟨rfl, hU, hX_177, hG.step hW hU hS_177, hg_a, hm_a, he_177, by refine ⟨?_, ?_, ?_, ?_, ?_, ?_⟩ <;> omega⟩⟩ rfl rfl hl.1 rfl (lv_room (Nat.le_of_ble_eq_true rfl)) dX10_isOne_52 ⟨Nat.zero_le _, Nat.zero_le _⟩) hS_177 (fun q _ h => h) (fun q h => h) (fun r_180 u t H1 locs1 ht hvm hr_180 hBb hz1 hk1 hS_181 => ?_)
          obtain ⟨tk_181, at_181, nc_181⟩ := u
          obtain ⟨hX_181, he_181, hM_1810, hz_1810, hT_1810⟩ := hBb
          rw [ht] at hX_181 he_181 hM_1810 hz_1810 hT_1810
          simp only at hr_180 he_181
          have hM_181 := hM_177.tr0 hM_1810 hz_177 (by intro r; simp)
          have hz_181 := hz_1810.trans hz_177
          have hT_181 := hT_1810.trans hT_177
          clear hz1 hk1 hvm ht hM_1810 hz_1810 hT_1810
          obtain ⟨hr_180b, hr_180p⟩ := hr_180
          have hr_180' := jb_01 hr_180b
          refine lv_if_eq (tgt := 62) hx hb dX10_isOne_55 (by decide) (fun c_183 => ?_) (fun c_183 => ?_)
          · skip
            have c_183' : r_180.toInt = 0 := jb_eq (rfl) ((by decide)) c_183
            refine lv_iconst (v := 0) hx hb dX10_isOne_62 (by decide) ?_
            rw [hQ]
            exact W.zret (v := 0) hx hb hr (jb_nz (Or.inl rfl)) (fun t ht hW => ⟨⟨0, (tk_181, at_181, nc_181), rfl, ⟨(Or.inl rfl), by refine ⟨?_, ?_, ?_, ?_, ?_, ?_⟩ <;> first | rfl | omega | (left; omega) | (right; omega) | exact Or.inl ⟨by decide, rfl⟩ | (simp only; omega)⟩, by rw [ht]; try exact hX_181, by rw [ht]; try exact he_181, by rw [ht]; try exact hM_181, by rw [ht]; try exact hz_181, by rw [ht]; try exact hT_181⟩, by rw [ht]; try exact hS_181.1, fun q h9 hq => by rw [ht]; try exact hS_181.2.1 q h9 hq⟩) hS_181.2.2 dX10_isOne_63
          · skip
            have c_183' : r_180.toInt ≠ 0 := jb_eq_n (rfl) ((by decide)) c_183
            refine lv_iconst (v := 1) hx hb dX10_isOne_58 (by decide) ?_
            refine lv_goto (tgt := 63) hx hb dX10_isOne_59 (by decide) ?_
            rw [hQ]
            exact W.zret (v := 1) hx hb hr (jb_nz (Or.inr rfl)) (fun t ht hW => ⟨⟨1, (tk_181, at_181, nc_181), rfl, ⟨(Or.inr rfl), by refine ⟨?_, ?_, ?_, ?_, ?_, ?_⟩ <;> first | rfl | omega | (left; omega) | (right; omega) | exact Or.inl ⟨by decide, rfl⟩ | (simp only; omega)⟩, by rw [ht]; try exact hX_181, by rw [ht]; try exact he_181, by rw [ht]; try exact hM_181, by rw [ht]; try exact hz_181, by rw [ht]; try exact hT_181⟩, by rw [ht]; try exact hS_181.1, fun q h9 hq => by rw [ht]; try exact hS_181.2.1 q h9 hq⟩) hS_181.2.2 dX10_isOne_63
