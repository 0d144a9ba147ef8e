abbrev cX10_isSentence : ByteArray := prog_12_method_5_code
def yX10_isSentence : MethodName := ⟨RX10, "isSentence", "()Z"⟩
def wsX10_isSentence_r1 : List Cond := [Cond.fieldLink RX10 83 "ProofServer$Syntax" "at" "I", Cond.fieldLink RX10 86 "ProofServer$Syntax" "toldCount" "I", Cond.fieldLink RX10 89 "ProofServer$Syntax" "nodeCount" "I", Cond.fieldLink RX10 92 "ProofServer$Syntax" "terms" "I", Cond.fieldLink RX10 28 "ProofServer$Syntax" "tokens" "I", Cond.fieldLink RX10 9 "ProofServer$Syntax" "kinds" "[I", Cond.fieldLink RX10 15 "ProofServer$Syntax" "values" "[I", Cond.fieldLink RX10 95 "ProofServer$Syntax" "word" "I", Cond.methodLink RX10 98 yX10_isName, Cond.instanceMethod yX10_isName, Cond.selects RX10 yX10_isName yX10_isName, Cond.initialized RX10, Cond.code yX10_isName cX10_isName 2 (some .boolean), Cond.fieldLink RX10 18 "ProofServer$Syntax" "told" "[I", Cond.methodLink RX10 119 yX10_peekName, Cond.instanceMethod yX10_peekName, Cond.selects RX10 yX10_peekName yX10_peekName, Cond.code yX10_peekName cX10_peekName 1 (some .int), Cond.methodLink RX10 115 yX10_peek, Cond.instanceMethod yX10_peek, Cond.selects RX10 yX10_peek yX10_peek, Cond.code yX10_peek cX10_peek 1 (some .int), Cond.methodLink RX10 102 yX10_isArity, Cond.instanceMethod yX10_isArity]
def wsX10_isSentence_r2 : List Cond := [Cond.selects RX10 yX10_isArity yX10_isArity, Cond.code yX10_isArity cX10_isArity 1 (some .boolean), Cond.methodLink RX10 105 yX10_isSign, Cond.instanceMethod yX10_isSign, Cond.selects RX10 yX10_isSign yX10_isSign, Cond.code yX10_isSign cX10_isSign 3 (some .boolean), Cond.methodLink RX10 108 yX10_isChain, Cond.instanceMethod yX10_isChain, Cond.selects RX10 yX10_isChain yX10_isChain, Cond.code yX10_isChain cX10_isChain 6 (some .boolean), Cond.fieldLink RX10 122 "ProofServer$Syntax" "CHAIN_SIGNS" "[I", Cond.fieldLink RX10 128 "ProofServer$Syntax" "CHAIN_NODES" "[I", Cond.methodLink RX10 125 yX10_isOne, Cond.instanceMethod yX10_isOne, Cond.selects RX10 yX10_isOne yX10_isOne, Cond.methodLink RX10 131 yX10_insertNode, Cond.instanceMethod yX10_insertNode, Cond.selects RX10 yX10_insertNode yX10_insertNode, Cond.code yX10_insertNode cX10_insertNode 4 (some .boolean), Cond.fieldLink RX10 21 "ProofServer$Syntax" "nodes" "[I", Cond.code yX10_isOne cX10_isOne 6 (some .boolean), Cond.methodLink RX10 134 yX10_addNode, Cond.instanceMethod yX10_addNode, Cond.selects RX10 yX10_addNode yX10_addNode]
def wsX10_isSentence_r3 : List Cond := [Cond.code yX10_addNode cX10_addNode 2 (some .boolean), Cond.methodLink RX10 112 yX10_isTerm, Cond.instanceMethod yX10_isTerm, Cond.selects RX10 yX10_isTerm yX10_isTerm, Cond.code yX10_isTerm cX10_isTerm 6 (some .boolean)]
def wsX10_isSentence : List Cond := .code yX10_isSentence cX10_isSentence 2 (some .boolean) :: ((wsX10_isSentence_r1 ++ (wsX10_isSentence_r2 ++ wsX10_isSentence_r3)) ++ wsX100)
set_option maxRecDepth 20000 in
theorem ggX10_isSentence_X10_isName : GoodIn wsX10_isSentence wsX10_isName := goodIn_r _ [13, 1, 2, 14, 15, 16, 17, 12, 18, 7, 19, 20, 21, 22, 5, 6, 54, 55, 56, 57, 58, 59, 60, 61, 62, 63, 64] (by decide +kernel) (by decide +kernel)
set_option maxRecDepth 20000 in
theorem gX10_isSentence_X10_isName : GoodIn wsX10_isSentence (wsV RX10 98 RX10 yX10_isName wsX10_isName) := goodIn_app (goodIn_of _ (by decide +kernel)) ggX10_isSentence_X10_isName
set_option maxRecDepth 20000 in
theorem ggX10_isSentence_X10_isArity : GoodIn wsX10_isSentence wsX10_isArity := goodIn_r _ [26, 7, 1, 4, 19, 20, 21, 12, 22, 5, 6, 54, 55, 56, 57, 58, 59, 60, 61, 62, 63, 64] (by decide +kernel) (by decide +kernel)
set_option maxRecDepth 20000 in
theorem gX10_isSentence_X10_isArity : GoodIn wsX10_isSentence (wsV RX10 102 RX10 yX10_isArity wsX10_isArity) := goodIn_app (goodIn_of _ (by decide +kernel)) ggX10_isSentence_X10_isArity
set_option maxRecDepth 20000 in
theorem ggX10_isSentence_X10_isSign : GoodIn wsX10_isSentence wsX10_isSign := goodIn_r _ [30, 1, 5, 6, 54, 55, 56, 57, 58, 59, 60, 61, 62, 63, 64] (by decide +kernel) (by decide +kernel)
set_option maxRecDepth 20000 in
theorem gX10_isSentence_X10_isSign : GoodIn wsX10_isSentence (wsV RX10 105 RX10 yX10_isSign wsX10_isSign) := goodIn_app (goodIn_of _ (by decide +kernel)) ggX10_isSentence_X10_isSign
set_option maxRecDepth 20000 in
theorem ggX10_isSentence_X10_isChain : GoodIn wsX10_isSentence wsX10_isChain := goodIn_r _ [34, 35, 3, 1, 36, 37, 38, 39, 12, 31, 32, 33, 19, 20, 21, 22, 5, 6, 40, 41, 42, 43, 44, 45, 15, 16, 17, 18, 7, 46, 47, 48, 49, 27, 28, 29, 30, 50, 51, 52, 53, 54, 55, 56, 57, 58, 59, 60, 61, 62, 63, 64] (by decide +kernel) (by decide +kernel)
set_option maxRecDepth 20000 in
theorem gX10_isSentence_X10_isChain : GoodIn wsX10_isSentence (wsV RX10 108 RX10 yX10_isChain wsX10_isChain) := goodIn_app (goodIn_of _ (by decide +kernel)) ggX10_isSentence_X10_isChain
set_option maxRecDepth 20000 in
theorem ggX10_isSentence_X10_isTerm : GoodIn wsX10_isSentence wsX10_isTerm := goodIn_r _ [53, 3, 1, 44, 15, 16, 17, 12, 18, 7, 19, 20, 21, 22, 5, 6, 46, 47, 48, 49, 50, 51, 52, 27, 28, 29, 30, 54, 55, 56, 57, 58, 59, 60, 61, 62, 63, 64] (by decide +kernel) (by decide +kernel)
set_option maxRecDepth 20000 in
theorem gX10_isSentence_X10_isTerm : GoodIn wsX10_isSentence (wsV RX10 112 RX10 yX10_isTerm wsX10_isTerm) := goodIn_app (goodIn_of _ (by decide +kernel)) ggX10_isSentence_X10_isTerm
set_option maxRecDepth 20000 in
theorem ggX10_isSentence_X10_peek : GoodIn wsX10_isSentence wsX10_peek := goodIn_r _ [22, 1, 5, 6, 54, 55, 56, 57, 58, 59, 60, 61, 62, 63, 64] (by decide +kernel) (by decide +kernel)
set_option maxRecDepth 20000 in
theorem gX10_isSentence_X10_peek : GoodIn wsX10_isSentence (wsV RX10 115 RX10 yX10_peek wsX10_peek) := goodIn_app (goodIn_of _ (by decide +kernel)) ggX10_isSentence_X10_peek
theorem dX10_isSentence_0 : decode cX10_isSentence 0 = .ok (.aload_n 0, 1) := by decide +kernel
theorem dX10_isSentence_1 : decode cX10_isSentence 1 = .ok (.iconst 1, 1) := by decide +kernel
theorem dX10_isSentence_2 : decode cX10_isSentence 2 = .ok (.putfield 83, 3) := by decide +kernel
theorem dX10_isSentence_5 : decode cX10_isSentence 5 = .ok (.aload_n 0, 1) := by decide +kernel
theorem dX10_isSentence_6 : decode cX10_isSentence 6 = .ok (.iconst 0, 1) := by decide +kernel
theorem dX10_isSentence_7 : decode cX10_isSentence 7 = .ok (.putfield 86, 3) := by decide +kernel
theorem dX10_isSentence_10 : decode cX10_isSentence 10 = .ok (.aload_n 0, 1) := by decide +kernel
theorem dX10_isSentence_11 : decode cX10_isSentence 11 = .ok (.iconst 0, 1) := by decide +kernel
theorem dX10_isSentence_12 : decode cX10_isSentence 12 = .ok (.putfield 89, 3) := by decide +kernel
theorem dX10_isSentence_15 : decode cX10_isSentence 15 = .ok (.aload_n 0, 1) := by decide +kernel
theorem dX10_isSentence_16 : decode cX10_isSentence 16 = .ok (.iconst 0, 1) := by decide +kernel
theorem dX10_isSentence_17 : decode cX10_isSentence 17 = .ok (.putfield 92, 3) := by decide +kernel
theorem dX10_isSentence_20 : decode cX10_isSentence 20 = .ok (.aload_n 0, 1) := by decide +kernel
theorem dX10_isSentence_21 : decode cX10_isSentence 21 = .ok (.aload_n 0, 1) := by decide +kernel
theorem dX10_isSentence_22 : decode cX10_isSentence 22 = .ok (.getfield 28, 3) := by decide +kernel
theorem dX10_isSentence_25 : decode cX10_isSentence 25 = .ok (.ifCond .le 23, 3) := by decide +kernel
theorem dX10_isSentence_28 : decode cX10_isSentence 28 = .ok (.aload_n 0, 1) := by decide +kernel
theorem dX10_isSentence_29 : decode cX10_isSentence 29 = .ok (.getfield 9, 3) := by decide +kernel
theorem dX10_isSentence_32 : decode cX10_isSentence 32 = .ok (.iconst 0, 1) := by decide +kernel
theorem dX10_isSentence_33 : decode cX10_isSentence 33 = .ok (.iaload, 1) := by decide +kernel
theorem dX10_isSentence_34 : decode cX10_isSentence 34 = .ok (.bipush 110, 2) := by decide +kernel
theorem dX10_isSentence_36 : decode cX10_isSentence 36 = .ok (.if_icmp .ne 12, 3) := by decide +kernel
theorem dX10_isSentence_39 : decode cX10_isSentence 39 = .ok (.aload_n 0, 1) := by decide +kernel
theorem dX10_isSentence_40 : decode cX10_isSentence 40 = .ok (.getfield 15, 3) := by decide +kernel
theorem dX10_isSentence_43 : decode cX10_isSentence 43 = .ok (.iconst 0, 1) := by decide +kernel
theorem dX10_isSentence_44 : decode cX10_isSentence 44 = .ok (.iaload, 1) := by decide +kernel
theorem dX10_isSentence_45 : decode cX10_isSentence 45 = .ok (.goto 4, 3) := by decide +kernel
theorem dX10_isSentence_48 : decode cX10_isSentence 48 = .ok (.iconst (-1), 1) := by decide +kernel
theorem dX10_isSentence_49 : decode cX10_isSentence 49 = .ok (.putfield 95, 3) := by decide +kernel
theorem dX10_isSentence_52 : decode cX10_isSentence 52 = .ok (.aload_n 0, 1) := by decide +kernel
theorem dX10_isSentence_53 : decode cX10_isSentence 53 = .ok (.getfield 95, 3) := by decide +kernel
theorem dX10_isSentence_56 : decode cX10_isSentence 56 = .ok (.tableswitch 236 3 21 #[92, 92, 115, 115, 149, 149, 154, 154, 154, 149, 149, 149, 162, 154, 192, 203, 149, 154, 115], 92) := by decide +kernel
theorem dX10_isSentence_148 : decode cX10_isSentence 148 = .ok (.aload_n 0, 1) := by decide +kernel
theorem dX10_isSentence_149 : decode cX10_isSentence 149 = .ok (.invokevirtual 98, 3) := by decide +kernel
theorem dX10_isSentence_152 : decode cX10_isSentence 152 = .ok (.ifCond .eq 14, 3) := by decide +kernel
theorem dX10_isSentence_155 : decode cX10_isSentence 155 = .ok (.aload_n 0, 1) := by decide +kernel
theorem dX10_isSentence_156 : decode cX10_isSentence 156 = .ok (.invokevirtual 102, 3) := by decide +kernel
theorem dX10_isSentence_159 : decode cX10_isSentence 159 = .ok (.ifCond .eq 7, 3) := by decide +kernel
theorem dX10_isSentence_162 : decode cX10_isSentence 162 = .ok (.iconst 1, 1) := by decide +kernel
theorem dX10_isSentence_163 : decode cX10_isSentence 163 = .ok (.goto 4, 3) := by decide +kernel
theorem dX10_isSentence_166 : decode cX10_isSentence 166 = .ok (.iconst 0, 1) := by decide +kernel
theorem dX10_isSentence_167 : decode cX10_isSentence 167 = .ok (.istore_n 1, 1) := by decide +kernel
theorem dX10_isSentence_168 : decode cX10_isSentence 168 = .ok (.goto 126, 3) := by decide +kernel
theorem dX10_isSentence_171 : decode cX10_isSentence 171 = .ok (.aload_n 0, 1) := by decide +kernel
theorem dX10_isSentence_172 : decode cX10_isSentence 172 = .ok (.invokevirtual 98, 3) := by decide +kernel
theorem dX10_isSentence_175 : decode cX10_isSentence 175 = .ok (.ifCond .eq 25, 3) := by decide +kernel
theorem dX10_isSentence_178 : decode cX10_isSentence 178 = .ok (.aload_n 0, 1) := by decide +kernel
theorem dX10_isSentence_179 : decode cX10_isSentence 179 = .ok (.bipush 58, 2) := by decide +kernel
theorem dX10_isSentence_181 : decode cX10_isSentence 181 = .ok (.invokevirtual 105, 3) := by decide +kernel
theorem dX10_isSentence_184 : decode cX10_isSentence 184 = .ok (.ifCond .eq 16, 3) := by decide +kernel
theorem dX10_isSentence_187 : decode cX10_isSentence 187 = .ok (.aload_n 0, 1) := by decide +kernel
theorem dX10_isSentence_188 : decode cX10_isSentence 188 = .ok (.iconst 0, 1) := by decide +kernel
theorem dX10_isSentence_189 : decode cX10_isSentence 189 = .ok (.iconst 0, 1) := by decide +kernel
theorem dX10_isSentence_190 : decode cX10_isSentence 190 = .ok (.invokevirtual 108, 3) := by decide +kernel
theorem dX10_isSentence_193 : decode cX10_isSentence 193 = .ok (.ifCond .eq 7, 3) := by decide +kernel
theorem dX10_isSentence_196 : decode cX10_isSentence 196 = .ok (.iconst 1, 1) := by decide +kernel
theorem dX10_isSentence_197 : decode cX10_isSentence 197 = .ok (.goto 4, 3) := by decide +kernel
theorem dX10_isSentence_200 : decode cX10_isSentence 200 = .ok (.iconst 0, 1) := by decide +kernel
theorem dX10_isSentence_201 : decode cX10_isSentence 201 = .ok (.istore_n 1, 1) := by decide +kernel
theorem dX10_isSentence_202 : decode cX10_isSentence 202 = .ok (.goto 92, 3) := by decide +kernel
theorem dX10_isSentence_205 : decode cX10_isSentence 205 = .ok (.iconst 1, 1) := by decide +kernel
theorem dX10_isSentence_206 : decode cX10_isSentence 206 = .ok (.istore_n 1, 1) := by decide +kernel
theorem dX10_isSentence_207 : decode cX10_isSentence 207 = .ok (.goto 87, 3) := by decide +kernel
theorem dX10_isSentence_210 : decode cX10_isSentence 210 = .ok (.aload_n 0, 1) := by decide +kernel
theorem dX10_isSentence_211 : decode cX10_isSentence 211 = .ok (.invokevirtual 98, 3) := by decide +kernel
theorem dX10_isSentence_214 : decode cX10_isSentence 214 = .ok (.istore_n 1, 1) := by decide +kernel
theorem dX10_isSentence_215 : decode cX10_isSentence 215 = .ok (.goto 79, 3) := by decide +kernel
theorem dX10_isSentence_218 : decode cX10_isSentence 218 = .ok (.aload_n 0, 1) := by decide +kernel
theorem dX10_isSentence_219 : decode cX10_isSentence 219 = .ok (.invokevirtual 98, 3) := by decide +kernel
theorem dX10_isSentence_222 : decode cX10_isSentence 222 = .ok (.ifCond .eq 21, 3) := by decide +kernel
theorem dX10_isSentence_225 : decode cX10_isSentence 225 = .ok (.aload_n 0, 1) := by decide +kernel
theorem dX10_isSentence_226 : decode cX10_isSentence 226 = .ok (.invokevirtual 98, 3) := by decide +kernel
theorem dX10_isSentence_229 : decode cX10_isSentence 229 = .ok (.ifCond .eq 14, 3) := by decide +kernel
theorem dX10_isSentence_232 : decode cX10_isSentence 232 = .ok (.aload_n 0, 1) := by decide +kernel
theorem dX10_isSentence_233 : decode cX10_isSentence 233 = .ok (.invokevirtual 98, 3) := by decide +kernel
theorem dX10_isSentence_236 : decode cX10_isSentence 236 = .ok (.ifCond .eq 7, 3) := by decide +kernel
theorem dX10_isSentence_239 : decode cX10_isSentence 239 = .ok (.iconst 1, 1) := by decide +kernel
theorem dX10_isSentence_240 : decode cX10_isSentence 240 = .ok (.goto 4, 3) := by decide +kernel
theorem dX10_isSentence_243 : decode cX10_isSentence 243 = .ok (.iconst 0, 1) := by decide +kernel
theorem dX10_isSentence_244 : decode cX10_isSentence 244 = .ok (.istore_n 1, 1) := by decide +kernel
theorem dX10_isSentence_245 : decode cX10_isSentence 245 = .ok (.goto 49, 3) := by decide +kernel
theorem dX10_isSentence_248 : decode cX10_isSentence 248 = .ok (.aload_n 0, 1) := by decide +kernel
theorem dX10_isSentence_249 : decode cX10_isSentence 249 = .ok (.bipush 8, 2) := by decide +kernel
theorem dX10_isSentence_251 : decode cX10_isSentence 251 = .ok (.iconst 0, 1) := by decide +kernel
theorem dX10_isSentence_252 : decode cX10_isSentence 252 = .ok (.invokevirtual 112, 3) := by decide +kernel
theorem dX10_isSentence_255 : decode cX10_isSentence 255 = .ok (.istore_n 1, 1) := by decide +kernel
theorem dX10_isSentence_256 : decode cX10_isSentence 256 = .ok (.goto 38, 3) := by decide +kernel
theorem dX10_isSentence_259 : decode cX10_isSentence 259 = .ok (.aload_n 0, 1) := by decide +kernel
theorem dX10_isSentence_260 : decode cX10_isSentence 260 = .ok (.invokevirtual 98, 3) := by decide +kernel
theorem dX10_isSentence_263 : decode cX10_isSentence 263 = .ok (.ifCond .eq 24, 3) := by decide +kernel
theorem dX10_isSentence_266 : decode cX10_isSentence 266 = .ok (.aload_n 0, 1) := by decide +kernel
theorem dX10_isSentence_267 : decode cX10_isSentence 267 = .ok (.bipush 8, 2) := by decide +kernel
theorem dX10_isSentence_269 : decode cX10_isSentence 269 = .ok (.iconst 0, 1) := by decide +kernel
theorem dX10_isSentence_270 : decode cX10_isSentence 270 = .ok (.invokevirtual 112, 3) := by decide +kernel
theorem dX10_isSentence_273 : decode cX10_isSentence 273 = .ok (.ifCond .eq 14, 3) := by decide +kernel
theorem dX10_isSentence_276 : decode cX10_isSentence 276 = .ok (.aload_n 0, 1) := by decide +kernel
theorem dX10_isSentence_277 : decode cX10_isSentence 277 = .ok (.invokevirtual 98, 3) := by decide +kernel
theorem dX10_isSentence_280 : decode cX10_isSentence 280 = .ok (.ifCond .eq 7, 3) := by decide +kernel
theorem dX10_isSentence_283 : decode cX10_isSentence 283 = .ok (.iconst 1, 1) := by decide +kernel
theorem dX10_isSentence_284 : decode cX10_isSentence 284 = .ok (.goto 4, 3) := by decide +kernel
theorem dX10_isSentence_287 : decode cX10_isSentence 287 = .ok (.iconst 0, 1) := by decide +kernel
theorem dX10_isSentence_288 : decode cX10_isSentence 288 = .ok (.istore_n 1, 1) := by decide +kernel
theorem dX10_isSentence_289 : decode cX10_isSentence 289 = .ok (.goto 5, 3) := by decide +kernel
theorem dX10_isSentence_292 : decode cX10_isSentence 292 = .ok (.iconst 0, 1) := by decide +kernel
theorem dX10_isSentence_293 : decode cX10_isSentence 293 = .ok (.istore_n 1, 1) := by decide +kernel
theorem dX10_isSentence_294 : decode cX10_isSentence 294 = .ok (.iload_n 1, 1) := by decide +kernel
theorem dX10_isSentence_295 : decode cX10_isSentence 295 = .ok (.ifCond .eq 29, 3) := by decide +kernel
theorem dX10_isSentence_298 : decode cX10_isSentence 298 = .ok (.aload_n 0, 1) := by decide +kernel
theorem dX10_isSentence_299 : decode cX10_isSentence 299 = .ok (.getfield 83, 3) := by decide +kernel
theorem dX10_isSentence_302 : decode cX10_isSentence 302 = .ok (.aload_n 0, 1) := by decide +kernel
theorem dX10_isSentence_303 : decode cX10_isSentence 303 = .ok (.getfield 28, 3) := by decide +kernel
theorem dX10_isSentence_306 : decode cX10_isSentence 306 = .ok (.iconst 1, 1) := by decide +kernel
theorem dX10_isSentence_307 : decode cX10_isSentence 307 = .ok (.isub, 1) := by decide +kernel
theorem dX10_isSentence_308 : decode cX10_isSentence 308 = .ok (.if_icmp .ne 16, 3) := by decide +kernel
theorem dX10_isSentence_311 : decode cX10_isSentence 311 = .ok (.aload_n 0, 1) := by decide +kernel
theorem dX10_isSentence_312 : decode cX10_isSentence 312 = .ok (.invokevirtual 115, 3) := by decide +kernel
theorem dX10_isSentence_315 : decode cX10_isSentence 315 = .ok (.bipush 46, 2) := by decide +kernel
theorem dX10_isSentence_317 : decode cX10_isSentence 317 = .ok (.if_icmp .ne 7, 3) := by decide +kernel
theorem dX10_isSentence_320 : decode cX10_isSentence 320 = .ok (.iconst 1, 1) := by decide +kernel
theorem dX10_isSentence_321 : decode cX10_isSentence 321 = .ok (.goto 4, 3) := by decide +kernel
theorem dX10_isSentence_324 : decode cX10_isSentence 324 = .ok (.iconst 0, 1) := by decide +kernel
theorem dX10_isSentence_325 : decode cX10_isSentence 325 = .ok (.ireturn, 1) := by decide +kernel
set_option maxHeartbeats 4000000 in
set_option maxRecDepth 20000 in
theorem tX10_isSentence (l : Launch) (dC : Nat → ClassId) (dI : Nat → Nat → Nat) (ca : Nat → ClassId) (base : Nat) (B : jF) (hB : jBok B) (G0 : jT) (X : List Nat) (H0 : Heap) (a : Nat) (tk0 at0 nc0 : Int32) : Met l yX10_isSentence wsX10_isSentence ({ frames := 80, cells := 0, slots := 0, locals := 2400 }) (va_Pc [.ref a] (fun U => U.heap = H0 ∧ jX B base G0 X H0 ∧ jG dC dI ca base U ∧ G0 a = some (12, 0) ∧ a ∈ X ∧ jB12e dC dI ca G0 a tk0 at0 nc0 H0 ∧ (0 ≤ tk0.toInt ∧ tk0.toInt ≤ 1500))) (va_Qi (S := Int32 × Int32 × Int32) (fun r u => (r = 0 ∨ r = 1) ∧ u.1.toInt = tk0.toInt ∧ 0 ≤ u.2.1.toInt ∧ u.2.1.toInt ≤ tk0.toInt + 3 ∧ 0 ≤ u.2.2.toInt ∧ u.2.2.toInt ≤ 3000) (fun u t => jX B base G0 X t.heap ∧ jB12e dC dI ca G0 a u.1 u.2.1 u.2.2 t.heap ∧  jModP G0 (fun r => r = a) H0 t.heap ∧ t.heap.size = H0.size ∧ jTot t.heap = jTot H0) (jA base)) 0 0 (jA base) := by
  refine Met.ofW (cc := cX10_isSentence) (maxL := 2) (ret := (some .boolean)) (by decide) rfl ?_
  intro p e s m args below meth c s₁ Bd hml hv
  obtain ⟨rfl, hH0, hX, hG, hg_a, hm_a, he_a, ht0, ht1⟩ := hv
  have hK := hG.1
  have hx := Bd.exec
  have hb := Bd.bytes
  have hr := Bd.returns
  have hts := atoms_spec (ws := wsX10_isSentence) Bd.pre
  have hown : s.vm.findClass RX10 = some m.cls := findClass_of_methodNamed Bd.named
  have hlocks := Bd.notSynchronized
  have hin_12 : ∀ w ∈ u_ws RX10 TX10 11, w ∈ wsX10_isSentence := by decide +kernel
  obtain ⟨Q, hQ⟩ : ∃ Q, Q = MQ below (va_Qi (S := Int32 × Int32 × Int32) (fun r u => (r = 0 ∨ r = 1) ∧ u.1.toInt = tk0.toInt ∧ 0 ≤ u.2.1.toInt ∧ u.2.1.toInt ≤ tk0.toInt + 3 ∧ 0 ≤ u.2.2.toInt ∧ u.2.2.toInt ≤ 3000) (fun u t => jX B base G0 X t.heap ∧ jB12e dC dI ca G0 a u.1 u.2.1 u.2.2 t.heap ∧  jModP G0 (fun r => r = a) H0 t.heap ∧ t.heap.size = H0.size ∧ jTot t.heap = jTot H0) (jA base)) ([.ref a] : List Value).toArray s 0 0 (jA base) := ⟨_, rfl⟩
  rw [← hQ]
  have hl := lv_entry ([.ref a]) (n := 2) (Nat.le_of_ble_eq_true rfl)
  rw [lg_entry_eq]
  generalize (lg_sl ([.ref a]) ++ List.replicate (2 - (lg_sl ([.ref a])).length) Slot.unset).toArray = ls at hl ⊢
  have hl : lv_has ls 2 [(0, .ref a)] := hl
  generalize hR : (headSpec wsX10_isSentence ({ frames := 80, cells := 0, slots := 0, locals := 2400 })).room = R
  subst hH0
  have hS : va_S (jA base) s.heap s.heap [] := va_S.rf
  have hM : jModP G0 (fun r => r = a) s.heap s.heap := jModP.rf
  have hz : s.heap.size = s.heap.size := rfl
  have hT : jTot s.heap = jTot s.heap := rfl
  have hlt_a := hX.2 _ _ hg_a
  have hrt_a : jRoot G0 a := ⟨_, _, hg_a, by omega⟩
  have hkm1 : ((-1) : Int32).toInt = (-1) := by decide
  have hk0 : (0 : Int32).toInt = 0 := by decide
  have hk1 : (1 : Int32).toInt = 1 := by decide
  have hk8 : (8 : Int32).toInt = 8 := by decide
  have hk46 : (46 : Int32).toInt = 46 := by decide
  have hk58 : (58 : Int32).toInt = 58 := by decide
  have hk110 : (110 : Int32).toInt = 110 := by decide
  refine lv_aload_n hx hb dX10_isSentence_0 rfl (lv_at hl 0 rfl) ?_
  refine lv_iconst (v := 1) hx hb dX10_isSentence_1 (by decide) ?_
  obtain ⟨names_1, kinds_1, values_1, word_1, told_1, toldCount_1, terms_1, nodes_1, f_kinds_1, f_values_1, f_told_1, f_nodes_1, hat_a_1, hat_kinds_1, hat_values_1, hat_told_1, hat_nodes_1, hg_kinds_1, hg_values_1, hg_told_1, hg_nodes_1, hg_names_1, hf0_1, hf1_1⟩ := id he_a
  have hlt_names_1 := hX.2 _ _ hg_names_1
  have hrt_names_1 : jRoot G0 names_1 := ⟨_, _, hg_names_1, by omega⟩
  refine j_put (D := (dC, dI)) (ci := 12) (v := .int 1) (ty := .int) (C := RX10) (T := TX10) (N := 11) (A := jA base) hx hb hts hin_12 tyX10 tyX10_ok nmX10 hown hK hat_a_1 (hX.2 _ _ hg_a).1 hS.2.2 rfl 4 (by decide) (hts (.fieldLink RX10 83 "ProofServer$Syntax" "at" "I") (by decide +kernel)) (fun _ h9 => h9) rfl (by decide +kernel) rfl rfl (Nat.le_of_ble_eq_true rfl) dX10_isSentence_2 (fun H1 locs1 hat1 hsz1 hfr1 hT1 hL1 => ?_)
  have hX_3 := hX.put hB hg_a (by omega) jSup.root hm_a hsz1 hfr1
  have hM_3 := hM.put jExt.rf hrt_a jSup.root (by simp) hfr1
  have hz_3 := hsz1.trans hz
  have hT_3 := hT1.trans hT
  have hS_3 := jS_put hS hsz1 hfr1 (hX.2 _ _ hg_a).1 hL1
  have hat_kinds_1_3 := hat_kinds_1.kept (hfr1 _ (jne hg_kinds_1 hg_a (by simp)))
  have hat_values_1_3 := hat_values_1.kept (hfr1 _ (jne hg_values_1 hg_a (by simp)))
  have hat_told_1_3 := hat_told_1.kept (hfr1 _ (jne hg_told_1 hg_a (by simp)))
  have hat_nodes_1_3 := hat_nodes_1.kept (hfr1 _ (jne hg_nodes_1 hg_a (by simp)))
  clear hfr1 hsz1 hT1 hL1 hat_a_1 hat_kinds_1 hat_values_1 hat_told_1 hat_nodes_1 hX hM hz hT hS
  have hat_a_3 : va_at (dC, dI) vwCl (a, .inr (12, [.ref names_1, .ref kinds_1, .ref values_1, .int tk0, .int 1, .int word_1, .ref told_1, .int toldCount_1, .int terms_1, .ref nodes_1, .int nc0])) H1 := hat1
  clear hat1
  refine lv_aload_n hx hb dX10_isSentence_5 rfl (lv_at hl 0 rfl) ?_
  refine lv_iconst (v := 0) hx hb dX10_isSentence_6 (by decide) ?_
  refine j_put (D := (dC, dI)) (ci := 12) (v := .int 0) (ty := .int) (C := RX10) (T := TX10) (N := 11) (A := jA base) hx hb hts hin_12 tyX10 tyX10_ok nmX10 hown hK hat_a_3 (hX_3.2 _ _ hg_a).1 hS_3.2.2 rfl 7 (by decide) (hts (.fieldLink RX10 86 "ProofServer$Syntax" "toldCount" "I") (by decide +kernel)) (fun _ h9 => h9) rfl (by decide +kernel) rfl rfl (Nat.le_of_ble_eq_true rfl) dX10_isSentence_7 (fun H1 locs1 hat1 hsz1 hfr1 hT1 hL1 => ?_)
  have hX_5 := hX_3.put hB hg_a (by omega) jSup.root hm_a hsz1 hfr1
  have hM_5 := hM_3.put jExt.rf hrt_a jSup.root (by simp) hfr1
  have hz_5 := hsz1.trans hz_3
  have hT_5 := hT1.trans hT_3
  have hS_5 := jS_put hS_3 hsz1 hfr1 (hX_3.2 _ _ hg_a).1 hL1
  have hat_kinds_1_5 := hat_kinds_1_3.kept (hfr1 _ (jne hg_kinds_1 hg_a (by simp)))
  have hat_values_1_5 := hat_values_1_3.kept (hfr1 _ (jne hg_values_1 hg_a (by simp)))
  have hat_told_1_5 := hat_told_1_3.kept (hfr1 _ (jne hg_told_1 hg_a (by simp)))
  have hat_nodes_1_5 := hat_nodes_1_3.kept (hfr1 _ (jne hg_nodes_1 hg_a (by simp)))
  clear hfr1 hsz1 hT1 hL1 hat_a_3 hat_kinds_1_3 hat_values_1_3 hat_told_1_3 hat_nodes_1_3 hX_3 hM_3 hz_3 hT_3 hS_3
  have hat_a_5 : va_at (dC, dI) vwCl (a, .inr (12, [.ref names_1, .ref kinds_1, .ref values_1, .int tk0, .int 1, .int word_1, .ref told_1, .int 0, .int terms_1, .ref nodes_1, .int nc0])) H1 := hat1
  clear hat1
  refine lv_aload_n hx hb dX10_isSentence_10 rfl (lv_at hl 0 rfl) ?_
  refine lv_iconst (v := 0) hx hb dX10_isSentence_11 (by decide) ?_
  refine j_put (D := (dC, dI)) (ci := 12) (v := .int 0) (ty := .int) (C := RX10) (T := TX10) (N := 11) (A := jA base) hx hb hts hin_12 tyX10 tyX10_ok nmX10 hown hK hat_a_5 (hX_5.2 _ _ hg_a).1 hS_5.2.2 rfl 10 (by decide) (hts (.fieldLink RX10 89 "ProofServer$Syntax" "nodeCount" "I") (by decide +kernel)) (fun _ h9 => h9) rfl (by decide +kernel) rfl rfl (Nat.le_of_ble_eq_true rfl) dX10_isSentence_12 (fun H1 locs1 hat1 hsz1 hfr1 hT1 hL1 => ?_)
  have hX_7 := hX_5.put hB hg_a (by omega) jSup.root hm_a hsz1 hfr1
  have hM_7 := hM_5.put jExt.rf hrt_a jSup.root (by simp) hfr1
  have hz_7 := hsz1.trans hz_5
  have hT_7 := hT1.trans hT_5
  have hS_7 := jS_put hS_5 hsz1 hfr1 (hX_5.2 _ _ hg_a).1 hL1
  have hat_kinds_1_7 := hat_kinds_1_5.kept (hfr1 _ (jne hg_kinds_1 hg_a (by simp)))
  have hat_values_1_7 := hat_values_1_5.kept (hfr1 _ (jne hg_values_1 hg_a (by simp)))
  have hat_told_1_7 := hat_told_1_5.kept (hfr1 _ (jne hg_told_1 hg_a (by simp)))
  have hat_nodes_1_7 := hat_nodes_1_5.kept (hfr1 _ (jne hg_nodes_1 hg_a (by simp)))
  clear hfr1 hsz1 hT1 hL1 hat_a_5 hat_kinds_1_5 hat_values_1_5 hat_told_1_5 hat_nodes_1_5 hX_5 hM_5 hz_5 hT_5 hS_5
  have hat_a_7 : va_at (dC, dI) vwCl (a, .inr (12, [.ref names_1, .ref kinds_1, .ref values_1, .int tk0, .int 1, .int word_1, .ref told_1, .int 0, .int terms_1, .ref nodes_1, .int 0])) H1 := hat1
  clear hat1
  refine lv_aload_n hx hb dX10_isSentence_15 rfl (lv_at hl 0 rfl) ?_
  refine lv_iconst (v := 0) hx hb dX10_isSentence_16 (by decide) ?_
  refine j_put (D := (dC, dI)) (ci := 12) (v := .int 0) (ty := .int) (C := RX10) (T := TX10) (N := 11) (A := jA base) hx hb hts hin_12 tyX10 tyX10_ok nmX10 hown hK hat_a_7 (hX_7.2 _ _ hg_a).1 hS_7.2.2 rfl 8 (by decide) (hts (.fieldLink RX10 92 "ProofServer$Syntax" "terms" "I") (by decide +kernel)) (fun _ h9 => h9) rfl (by decide +kernel) rfl rfl (Nat.le_of_ble_eq_true rfl) dX10_isSentence_17 (fun H1 locs1 hat1 hsz1 hfr1 hT1 hL1 => ?_)
  have hX_9 := hX_7.put hB hg_a (by omega) jSup.root hm_a hsz1 hfr1
  have hM_9 := hM_7.put jExt.rf hrt_a jSup.root (by simp) hfr1
  have hz_9 := hsz1.trans hz_7
  have hT_9 := hT1.trans hT_7
  have hS_9 := jS_put hS_7 hsz1 hfr1 (hX_7.2 _ _ hg_a).1 hL1
  have hat_kinds_1_9 := hat_kinds_1_7.kept (hfr1 _ (jne hg_kinds_1 hg_a (by simp)))
  have hat_values_1_9 := hat_values_1_7.kept (hfr1 _ (jne hg_values_1 hg_a (by simp)))
  have hat_told_1_9 := hat_told_1_7.kept (hfr1 _ (jne hg_told_1 hg_a (by simp)))
  have hat_nodes_1_9 := hat_nodes_1_7.kept (hfr1 _ (jne hg_nodes_1 hg_a (by simp)))
  clear hfr1 hsz1 hT1 hL1 hat_a_7 hat_kinds_1_7 hat_values_1_7 hat_told_1_7 hat_nodes_1_7 hX_7 hM_7 hz_7 hT_7 hS_7
  have hat_a_9 : va_at (dC, dI) vwCl (a, .inr (12, [.ref names_1, .ref kinds_1, .ref values_1, .int tk0, .int 1, .int word_1, .ref told_1, .int 0, .int 0, .ref nodes_1, .int 0])) H1 := hat1
  clear hat1
  refine lv_aload_n hx hb dX10_isSentence_20 rfl (lv_at hl 0 rfl) ?_
  refine lv_aload_n hx hb dX10_isSentence_21 rfl (lv_at hl 0 rfl) ?_
  refine va_get (D := (dC, dI)) (ci := 12) (v := .int tk0) (C := RX10) (T := TX10) (N := 11) hx hb hts hin_12 hown hK (jp_one hat_a_9) 0 rfl rfl 3 (by decide) (hts (.fieldLink RX10 28 "ProofServer$Syntax" "tokens" "I") (by decide +kernel)) (fun _ h9 => h9) rfl dX10_isSentence_22 ?_
  refine lv_if_le (tgt := 48) hx hb dX10_isSentence_25 (by decide) (fun c_10 => ?_) (fun c_10 => ?_)
  · skip
    have c_10' : tk0.toInt ≤ 0 := jb_le (rfl) ((by decide)) c_10
    refine lv_iconst (v := (-1)) hx hb dX10_isSentence_48 (by decide) ?_
    refine j_put (D := (dC, dI)) (ci := 12) (v := .int (-1)) (ty := .int) (C := RX10) (T := TX10) (N := 11) (A := jA base) hx hb hts hin_12 tyX10 tyX10_ok nmX10 hown hK hat_a_9 (hX_9.2 _ _ hg_a).1 hS_9.2.2 rfl 5 (by decide) (hts (.fieldLink RX10 95 "ProofServer$Syntax" "word" "I") (by decide +kernel)) (fun _ h9 => h9) rfl (by decide +kernel) rfl rfl (Nat.le_of_ble_eq_true rfl) dX10_isSentence_49 (fun H1 locs1 hat1 hsz1 hfr1 hT1 hL1 => ?_)
    have hX_12 := hX_9.put hB hg_a (by omega) jSup.root hm_a hsz1 hfr1
    have hM_12 := hM_9.put jExt.rf hrt_a jSup.root (by simp) hfr1
    have hz_12 := hsz1.trans hz_9
    have hT_12 := hT1.trans hT_9
    have hS_12 := jS_put hS_9 hsz1 hfr1 (hX_9.2 _ _ hg_a).1 hL1
    have hat_kinds_1_12 := hat_kinds_1_9.kept (hfr1 _ (jne hg_kinds_1 hg_a (by simp)))
    have hat_values_1_12 := hat_values_1_9.kept (hfr1 _ (jne hg_values_1 hg_a (by simp)))
    have hat_told_1_12 := hat_told_1_9.kept (hfr1 _ (jne hg_told_1 hg_a (by simp)))
    have hat_nodes_1_12 := hat_nodes_1_9.kept (hfr1 _ (jne hg_nodes_1 hg_a (by simp)))
    clear hfr1 hsz1 hT1 hL1 hat_a_9 hat_kinds_1_9 hat_values_1_9 hat_told_1_9 hat_nodes_1_9 hX_9 hM_9 hz_9 hT_9 hS_9
    have hat_a_12 : va_at (dC, dI) vwCl (a, .inr (12, [.ref names_1, .ref kinds_1, .ref values_1, .int tk0, .int 1, .int (-1), .ref told_1, .int 0, .int 0, .ref nodes_1, .int 0])) H1 := hat1
    clear hat1
    refine lv_aload_n hx hb dX10_isSentence_52 rfl (lv_at hl 0 rfl) ?_
    refine va_get (D := (dC, dI)) (ci := 12) (v := .int (-1)) (C := RX10) (T := TX10) (N := 11) hx hb hts hin_12 hown hK (jp_one hat_a_12) 0 rfl rfl 5 (by decide) (hts (.fieldLink RX10 95 "ProofServer$Syntax" "word" "I") (by decide +kernel)) (fun _ h9 => h9) rfl dX10_isSentence_53 ?_
    refine lv_tableOut (tgt := 292) hx hb dX10_isSentence_56 (by decide) (by decide) ?_
    refine lv_iconst (v := 0) hx hb dX10_isSentence_292 (by decide) ?_
    refine lv_istore_n (lv' := [(1, .int 0), (0, .ref a)]) hx hb dX10_isSentence_293 rfl hl (by decide) rfl (fun ls hl => ?_)
    refine lv_iload_n hx hb dX10_isSentence_294 rfl (lv_at hl 0 rfl) ?_
    refine lv_if_eq (tgt := 324) hx hb dX10_isSentence_295 (by decide) (fun c_14 => ?_) (fun c_14 => ?_)
    · skip
      refine lv_iconst (v := 0) hx hb dX10_isSentence_324 (by decide) ?_
      have he_15 : jB12e dC dI ca G0 a tk0 1 0 H1 := ⟨names_1, kinds_1, values_1, (-1), told_1, 0, 0, nodes_1, f_kinds_1, f_values_1, f_told_1, f_nodes_1, hat_a_12, hat_kinds_1_12, hat_values_1_12, hat_told_1_12, hat_nodes_1_12, hg_kinds_1, hg_values_1, hg_told_1, hg_nodes_1, hg_names_1, by first | omega | assumption | (simp; done) | exact Or.inl rfl | exact Or.inr rfl, by first | omega | assumption | (simp; done) | exact Or.inl rfl | exact Or.inr rfl⟩
      rw [hQ]
      exact W.zret (v := 0) hx hb hr (jb_nz (Or.inl rfl)) (fun t ht hW => ⟨⟨0, (tk0, 1, 0), rfl, ⟨(Or.inl rfl), by refine ⟨?_, ?_, ?_, ?_, ?_⟩ <;> first | rfl | omega⟩, by rw [ht]; try exact hX_12, by rw [ht]; try exact he_15, by rw [ht]; try exact hM_12, by rw [ht]; try exact hz_12, by rw [ht]; try exact hT_12⟩, by rw [ht]; try exact hS_12.1, fun q h9 hq => by rw [ht]; try exact hS_12.2.1 q h9 hq⟩) hS_12.2.2 dX10_isSentence_325
    · skip
      exact absurd c_14 (by decide)
  · skip
    have c_10' : tk0.toInt > 0 := jb_le_n (rfl) ((by decide)) c_10
    refine lv_aload_n hx hb dX10_isSentence_28 rfl (lv_at hl 0 rfl) ?_
    refine va_get (D := (dC, dI)) (ci := 12) (v := .ref kinds_1) (C := RX10) (T := TX10) (N := 11) hx hb hts hin_12 hown hK (jp_one hat_a_9) 0 rfl rfl 1 (by decide) (hts (.fieldLink RX10 9 "ProofServer$Syntax" "kinds" "[I") (by decide +kernel)) (fun _ h9 => h9) rfl dX10_isSentence_29 ?_
    refine lv_iconst (v := 0) hx hb dX10_isSentence_32 (by decide) ?_
    have hiz_16 : _ := jb_in (i := 0) (n := 1500) ((by decide)) (by omega) (by omega)
    refine va_iald hx hb hK (jp_one hat_kinds_1_9) 0 1 rfl rfl hiz_16 dX10_isSentence_33 ?_
    refine lv_topi (fun z_16 ez_16 => ?_)
    refine lv_bipush (v := 110) hx hb dX10_isSentence_34 (by decide) ?_
    refine lv_icmp_ne (tgt := 48) hx hb dX10_isSentence_36 (by decide) (fun c_17 => ?_) (fun c_17 => ?_)
    · skip
      have c_17' : z_16.toInt ≠ 110 := jb_ne (rfl) ((by decide)) c_17
      refine lv_iconst (v := (-1)) hx hb dX10_isSentence_48 (by decide) ?_
      refine j_put (D := (dC, dI)) (ci := 12) (v := .int (-1)) (ty := .int) (C := RX10) (T := TX10) (N := 11) (A := jA base) hx hb hts hin_12 tyX10 tyX10_ok nmX10 hown hK hat_a_9 (hX_9.2 _ _ hg_a).1 hS_9.2.2 rfl 5 (by decide) (hts (.fieldLink RX10 95 "ProofServer$Syntax" "word" "I") (by decide +kernel)) (fun _ h9 => h9) rfl (by decide +kernel) rfl rfl (Nat.le_of_ble_eq_true rfl) dX10_isSentence_49 (fun H1 locs1 hat1 hsz1 hfr1 hT1 hL1 => ?_)
      have hX_19 := hX_9.put hB hg_a (by omega) jSup.root hm_a hsz1 hfr1
      have hM_19 := hM_9.put jExt.rf hrt_a jSup.root (by simp) hfr1
      have hz_19 := hsz1.trans hz_9
      have hT_19 := hT1.trans hT_9
      have hS_19 := jS_put hS_9 hsz1 hfr1 (hX_9.2 _ _ hg_a).1 hL1
      have hat_kinds_1_19 := hat_kinds_1_9.kept (hfr1 _ (jne hg_kinds_1 hg_a (by simp)))
      have hat_values_1_19 := hat_values_1_9.kept (hfr1 _ (jne hg_values_1 hg_a (by simp)))
      have hat_told_1_19 := hat_told_1_9.kept (hfr1 _ (jne hg_told_1 hg_a (by simp)))
      have hat_nodes_1_19 := hat_nodes_1_9.kept (hfr1 _ (jne hg_nodes_1 hg_a (by simp)))
      clear hfr1 hsz1 hT1 hL1 hat_a_9 hat_kinds_1_9 hat_values_1_9 hat_told_1_9 hat_nodes_1_9 hX_9 hM_9 hz_9 hT_9 hS_9
      have hat_a_19 : va_at (dC, dI) vwCl (a, .inr (12, [.ref names_1, .ref kinds_1, .ref values_1, .int tk0, .int 1, .int (-1), .ref told_1, .int 0, .int 0, .ref nodes_1, .int 0])) H1 := hat1
      clear hat1
      refine lv_aload_n hx hb dX10_isSentence_52 rfl (lv_at hl 0 rfl) ?_
      refine va_get (D := (dC, dI)) (ci := 12) (v := .int (-1)) (C := RX10) (T := TX10) (N := 11) hx hb hts hin_12 hown hK (jp_one hat_a_19) 0 rfl rfl 5 (by decide) (hts (.fieldLink RX10 95 "ProofServer$Syntax" "word" "I") (by decide +kernel)) (fun _ h9 => h9) rfl dX10_isSentence_53 ?_
      refine lv_tableOut (tgt := 292) hx hb dX10_isSentence_56 (by decide) (by decide) ?_
      refine lv_iconst (v := 0) hx hb dX10_isSentence_292 (by decide) ?_
      refine lv_istore_n (lv' := [(1, .int 0), (0, .ref a)]) hx hb dX10_isSentence_293 rfl hl (by decide) rfl (fun ls hl => ?_)
      refine lv_iload_n hx hb dX10_isSentence_294 rfl (lv_at hl 0 rfl) ?_
      refine lv_if_eq (tgt := 324) hx hb dX10_isSentence_295 (by decide) (fun c_21 => ?_) (fun c_21 => ?_)
      · skip
        refine lv_iconst (v := 0) hx hb dX10_isSentence_324 (by decide) ?_
        have he_22 : jB12e dC dI ca G0 a tk0 1 0 H1 := ⟨names_1, kinds_1, values_1, (-1), told_1, 0, 0, nodes_1, f_kinds_1, f_values_1, f_told_1, f_nodes_1, hat_a_19, hat_kinds_1_19, hat_values_1_19, hat_told_1_19, hat_nodes_1_19, hg_kinds_1, hg_values_1, hg_told_1, hg_nodes_1, hg_names_1, by first | omega | assumption | (simp; done) | exact Or.inl rfl | exact Or.inr rfl, by first | omega | assumption | (simp; done) | exact Or.inl rfl | exact Or.inr rfl⟩
        rw [hQ]
        exact W.zret (v := 0) hx hb hr (jb_nz (Or.inl rfl)) (fun t ht hW => ⟨⟨0, (tk0, 1, 0), rfl, ⟨(Or.inl rfl), by refine ⟨?_, ?_, ?_, ?_, ?_⟩ <;> first | rfl | omega⟩, by rw [ht]; try exact hX_19, by rw [ht]; try exact he_22, by rw [ht]; try exact hM_19, by rw [ht]; try exact hz_19, by rw [ht]; try exact hT_19⟩, by rw [ht]; try exact hS_19.1, fun q h9 hq => by rw [ht]; try exact hS_19.2.1 q h9 hq⟩) hS_19.2.2 dX10_isSentence_325
      · skip
        exact absurd c_21 (by decide)
    · skip
      have c_17' : z_16.toInt = 110 := jb_ne_n (rfl) ((by decide)) c_17
      refine lv_aload_n hx hb dX10_isSentence_39 rfl (lv_at hl 0 rfl) ?_
      refine va_get (D := (dC, dI)) (ci := 12) (v := .ref values_1) (C := RX10) (T := TX10) (N := 11) hx hb hts hin_12 hown hK (jp_one hat_a_9) 0 rfl rfl 2 (by decide) (hts (.fieldLink RX10 15 "ProofServer$Syntax" "values" "[I") (by decide +kernel)) (fun _ h9 => h9) rfl dX10_isSentence_40 ?_
      refine lv_iconst (v := 0) hx hb dX10_isSentence_43 (by decide) ?_
      have hiz_23 : _ := jb_in (i := 0) (n := 1500) ((by decide)) (by omega) (by omega)
      refine va_iald hx hb hK (jp_one hat_values_1_9) 0 1 rfl rfl hiz_23 dX10_isSentence_44 ?_
      refine lv_topi (fun z_23 ez_23 => ?_)
      refine lv_goto (tgt := 49) hx hb dX10_isSentence_45 (by decide) ?_
      refine j_put (D := (dC, dI)) (ci := 12) (v := .int z_23) (ty := .int) (C := RX10) (T := TX10) (N := 11) (A := jA base) hx hb hts hin_12 tyX10 tyX10_ok nmX10 hown hK hat_a_9 (hX_9.2 _ _ hg_a).1 hS_9.2.2 rfl 5 (by decide) (hts (.fieldLink RX10 95 "ProofServer$Syntax" "word" "I") (by decide +kernel)) (fun _ h9 => h9) rfl (by decide +kernel) rfl rfl (Nat.le_of_ble_eq_true rfl) dX10_isSentence_49 (fun H1 locs1 hat1 hsz1 hfr1 hT1 hL1 => ?_)
      have hX_25 := hX_9.put hB hg_a (by omega) jSup.root hm_a hsz1 hfr1
      have hM_25 := hM_9.put jExt.rf hrt_a jSup.root (by simp) hfr1
      have hz_25 := hsz1.trans hz_9
      have hT_25 := hT1.trans hT_9
      have hS_25 := jS_put hS_9 hsz1 hfr1 (hX_9.2 _ _ hg_a).1 hL1
      have hat_kinds_1_25 := hat_kinds_1_9.kept (hfr1 _ (jne hg_kinds_1 hg_a (by simp)))
      have hat_values_1_25 := hat_values_1_9.kept (hfr1 _ (jne hg_values_1 hg_a (by simp)))
      have hat_told_1_25 := hat_told_1_9.kept (hfr1 _ (jne hg_told_1 hg_a (by simp)))
      have hat_nodes_1_25 := hat_nodes_1_9.kept (hfr1 _ (jne hg_nodes_1 hg_a (by simp)))
      clear hfr1 hsz1 hT1 hL1 hat_a_9 hat_kinds_1_9 hat_values_1_9 hat_told_1_9 hat_nodes_1_9 hX_9 hM_9 hz_9 hT_9 hS_9
      have hat_a_25 : va_at (dC, dI) vwCl (a, .inr (12, [.ref names_1, .ref kinds_1, .ref values_1, .int tk0, .int 1, .int z_23, .ref told_1, .int 0, .int 0, .ref nodes_1, .int 0])) H1 := hat1
      clear hat1
      refine lv_aload_n hx hb dX10_isSentence_52 rfl (lv_at hl 0 rfl) ?_
      refine va_get (D := (dC, dI)) (ci := 12) (v := .int z_23) (C := RX10) (T := TX10) (N := 11) hx hb hts hin_12 hown hK (jp_one hat_a_25) 0 rfl rfl 5 (by decide) (hts (.fieldLink RX10 95 "ProofServer$Syntax" "word" "I") (by decide +kernel)) (fun _ h9 => h9) rfl dX10_isSentence_53 ?_
      have K292c_26 : W p l e R s m ([.ref a] : List Value).toArray below meth c H1 locs1 0 0 Q (F0 m 292 ls []) := by
        refine lv_iconst (v := 0) hx hb dX10_isSentence_292 (by decide) ?_
        refine lv_istore_n (lv' := [(1, .int 0), (0, .ref a)]) hx hb dX10_isSentence_293 rfl hl (by decide) rfl (fun ls hl => ?_)
        refine lv_iload_n hx hb dX10_isSentence_294 rfl (lv_at hl 0 rfl) ?_
        refine lv_if_eq (tgt := 324) hx hb dX10_isSentence_295 (by decide) (fun c_27 => ?_) (fun c_27 => ?_)
        · skip
          refine lv_iconst (v := 0) hx hb dX10_isSentence_324 (by decide) ?_
          have he_28 : jB12e dC dI ca G0 a tk0 1 0 H1 := ⟨names_1, kinds_1, values_1, z_23, told_1, 0, 0, nodes_1, f_kinds_1, f_values_1, f_told_1, f_nodes_1, hat_a_25, hat_kinds_1_25, hat_values_1_25, hat_told_1_25, hat_nodes_1_25, hg_kinds_1, hg_values_1, hg_told_1, hg_nodes_1, hg_names_1, by first | omega | assumption | (simp; done) | exact Or.inl rfl | exact Or.inr rfl, by first | omega | assumption | (simp; done) | exact Or.inl rfl | exact Or.inr rfl⟩
          rw [hQ]
          exact W.zret (v := 0) hx hb hr (jb_nz (Or.inl rfl)) (fun t ht hW => ⟨⟨0, (tk0, 1, 0), rfl, ⟨(Or.inl rfl), by refine ⟨?_, ?_, ?_, ?_, ?_⟩ <;> first | rfl | omega⟩, by rw [ht]; try exact hX_25, by rw [ht]; try exact he_28, by rw [ht]; try exact hM_25, by rw [ht]; try exact hz_25, by rw [ht]; try exact hT_25⟩, by rw [ht]; try exact hS_25.1, fun q h9 hq => by rw [ht]; try exact hS_25.2.1 q h9 hq⟩) hS_25.2.2 dX10_isSentence_325
        · skip
          exact absurd c_27 (by decide)
      have K148c_26 : W p l e R s m ([.ref a] : List Value).toArray below meth c H1 locs1 0 0 Q (F0 m 148 ls []) := by
        refine lv_aload_n hx hb dX10_isSentence_148 rfl (lv_at hl 0 rfl) ?_
        have he_31 : jB12e dC dI ca G0 a tk0 1 0 H1 := ⟨names_1, kinds_1, values_1, z_23, told_1, 0, 0, nodes_1, f_kinds_1, f_values_1, f_told_1, f_nodes_1, hat_a_25, hat_kinds_1_25, hat_values_1_25, hat_told_1_25, hat_nodes_1_25, hg_kinds_1, hg_values_1, hg_told_1, hg_nodes_1, hg_names_1, by first | omega | assumption | (simp; done) | exact Or.inl rfl | exact Or.inr rfl, by first | omega | assumption | (simp; done) | exact Or.inl rfl | exact Or.inr rfl⟩
        refine va_calli (A0 := jA base) (H0 := s.heap) (va_runV (As := []) (rest := []) ⟨hx, hb, hml, hown, hts⟩ (tX10_isName l dC dI ca base B hB G0 X H1 a tk0 1 0) (cwV 0 hts gX10_isSentence_X10_isName rfl rfl rfl (by decide +kernel) ⟨by rw [← hR]; exact Nat.le_of_ble_eq_true rfl, by rw [← hR]; exact Nat.le_of_ble_eq_true rfl⟩) ⟨fun a U g mk q => by obtain ⟨q0, q1, q2, qK, q9⟩ := q; exact ⟨q0, q1, q2, jG.calling g mk a qK, q9⟩, va_recv hK (jp_one hat_a_25) (ci := 12) (q0 := 0) rfl rfl, fun U hU hW => ⟨rfl, hU, hX_25, hG.step hW hU hS_25, hg_a, hm_a, he_31, by refine ⟨?_, ?_, ?_, ?_, ?_, ?_⟩ <;> omega⟩⟩ rfl rfl hl.1 rfl (lv_room (Nat.le_of_ble_eq_true rfl)) dX10_isSentence_149 ⟨Nat.zero_le _, Nat.zero_le _⟩) hS_25 (fun q _ h => h) (fun q h => h) (fun r_29 u t H1 locs1 ht hvm hr_29 hBb hz1 hk1 hS_30 => ?_)
        obtain ⟨tk_30, at_30, nc_30⟩ := u
        obtain ⟨hX_30, he_30, hM_300, hz_300, hT_300⟩ := hBb
        rw [ht] at hX_30 he_30 hM_300 hz_300 hT_300
        simp only at hr_29 he_30
        have hM_30 := hM_25.tr0 hM_300 hz_25 (by intro r; simp)
        have hz_30 := hz_300.trans hz_25
        have hT_30 := hT_300.trans hT_25
        clear hz1 hk1 hvm ht hM_300 hz_300 hT_300
        obtain ⟨hr_29b, hr_29p⟩ := hr_29
        have hr_29' := jb_01 hr_29b
        refine lv_if_eq (tgt := 166) hx hb dX10_isSentence_152 (by decide) (fun c_32 => ?_) (fun c_32 => ?_)
        · skip
          have c_32' : r_29.toInt = 0 := jb_eq (rfl) ((by decide)) c_32
          refine lv_iconst (v := 0) hx hb dX10_isSentence_166 (by decide) ?_
          refine lv_istore_n (lv' := [(1, .int 0), (0, .ref a)]) hx hb dX10_isSentence_167 rfl hl (by decide) rfl (fun ls hl => ?_)
          refine lv_goto (tgt := 294) hx hb dX10_isSentence_168 (by decide) ?_
          refine lv_iload_n hx hb dX10_isSentence_294 rfl (lv_at hl 0 rfl) ?_
          refine lv_if_eq (tgt := 324) hx hb dX10_isSentence_295 (by decide) (fun c_33 => ?_) (fun c_33 => ?_)
          · skip
            refine lv_iconst (v := 0) hx hb dX10_isSentence_324 (by decide) ?_
            rw [hQ]
            exact W.zret (v := 0) hx hb hr (jb_nz (Or.inl rfl)) (fun t ht hW => ⟨⟨0, (tk_30, at_30, nc_30), rfl, ⟨(Or.inl rfl), by refine ⟨?_, ?_, ?_, ?_, ?_⟩ <;> first | rfl | omega⟩, by rw [ht]; try exact hX_30, by rw [ht]; try exact he_30, by rw [ht]; try exact hM_30, by rw [ht]; try exact hz_30, by rw [ht]; try exact hT_30⟩, by rw [ht]; try exact hS_30.1, fun q h9 hq => by rw [ht]; try exact hS_30.2.1 q h9 hq⟩) hS_30.2.2 dX10_isSentence_325
          · skip
            exact absurd c_33 (by decide)
        · skip
          have c_32' : r_29.toInt ≠ 0 := jb_eq_n (rfl) ((by decide)) c_32
          refine lv_aload_n hx hb dX10_isSentence_155 rfl (lv_at hl 0 rfl) ?_
          obtain ⟨names_36, kinds_36, values_36, word_36, told_36, toldCount_36, terms_36, nodes_36, f_kinds_36, f_values_36, f_told_36, f_nodes_36, hat_a_36, hat_kinds_36, hat_values_36, hat_told_36, hat_nodes_36, hg_kinds_36, hg_values_36, hg_told_36, hg_nodes_36, hg_names_36, hf0_36, hf1_36⟩ := id he_30
          have hlt_names_36 := hX_30.2 _ _ hg_names_36
          have hrt_names_36 : jRoot G0 names_36 := ⟨_, _, hg_names_36, by omega⟩
          refine va_calli (A0 := jA base) (H0 := s.heap) (va_runV (As := []) (rest := []) ⟨hx, hb, hml, hown, hts⟩ (tX10_isArity l dC dI ca base B hB G0 X H1 a tk_30 at_30 nc_30) (cwV 0 hts gX10_isSentence_X10_isArity rfl rfl rfl (by decide +kernel) ⟨by rw [← hR]; exact Nat.le_of_ble_eq_true rfl, by rw [← hR]; exact Nat.le_of_ble_eq_true rfl⟩) ⟨fun a U g mk q => by obtain ⟨q0, q1, q2, qK, q9⟩ := q; exact ⟨q0, q1, q2, jG.calling g mk a qK, q9⟩, va_recv hK (jp_one hat_a_36) (ci := 12) (q0 := 0) rfl rfl, fun U hU hW => ⟨rfl, hU, hX_30, hG.step hW hU hS_30, hg_a, hm_a, he_30, by refine ⟨?_, ?_, ?_, ?_, ?_, ?_⟩ <;> omega⟩⟩ rfl rfl hl.1 rfl (lv_room (Nat.le_of_ble_eq_true rfl)) dX10_isSentence_156 ⟨Nat.zero_le _, Nat.zero_le _⟩) hS_30 (fun q _ h => h) (fun q h => h) (fun r_34 u t H1 locs1 ht hvm hr_34 hBb hz1 hk1 hS_35 => ?_)
          obtain ⟨tk_35, at_35, nc_35⟩ := u
          obtain ⟨hX_35, he_35, hM_350, hz_350, hT_350⟩ := hBb
          rw [ht] at hX_35 he_35 hM_350 hz_350 hT_350
          simp only at hr_34 he_35
          have hM_35 := hM_30.tr0 hM_350 hz_30 (by intro r; simp)
          have hz_35 := hz_350.trans hz_30
          have hT_35 := hT_350.trans hT_30
          clear hz1 hk1 hvm ht hM_350 hz_350 hT_350
          obtain ⟨hr_34b, hr_34p⟩ := hr_34
          have hr_34' := jb_01 hr_34b
          refine lv_if_eq (tgt := 166) hx hb dX10_isSentence_159 (by decide) (fun c_37 => ?_) (fun c_37 => ?_)
          · skip
            have c_37' : r_34.toInt = 0 := jb_eq (rfl) ((by decide)) c_37
            refine lv_iconst (v := 0) hx hb dX10_isSentence_166 (by decide) ?_
            refine lv_istore_n (lv' := [(1, .int 0), (0, .ref a)]) hx hb dX10_isSentence_167 rfl hl (by decide) rfl (fun ls hl => ?_)
            refine lv_goto (tgt := 294) hx hb dX10_isSentence_168 (by decide) ?_
            refine lv_iload_n hx hb dX10_isSentence_294 rfl (lv_at hl 0 rfl) ?_
            refine lv_if_eq (tgt := 324) hx hb dX10_isSentence_295 (by decide) (fun c_38 => ?_) (fun c_38 => ?_)
            · skip
              refine lv_iconst (v := 0) hx hb dX10_isSentence_324 (by decide) ?_
              rw [hQ]
              exact W.zret (v := 0) hx hb hr (jb_nz (Or.inl rfl)) (fun t ht hW => ⟨⟨0, (tk_35, at_35, nc_35), rfl, ⟨(Or.inl rfl), by refine ⟨?_, ?_, ?_, ?_, ?_⟩ <;> first | rfl | omega⟩, by rw [ht]; try exact hX_35, by rw [ht]; try exact he_35, by rw [ht]; try exact hM_35, by rw [ht]; try exact hz_35, by rw [ht]; try exact hT_35⟩, by rw [ht]; try exact hS_35.1, fun q h9 hq => by rw [ht]; try exact hS_35.2.1 q h9 hq⟩) hS_35.2.2 dX10_isSentence_325
            · skip
              exact absurd c_38 (by decide)
          · skip
            have c_37' : r_34.toInt ≠ 0 := jb_eq_n (rfl) ((by decide)) c_37
            refine lv_iconst (v := 1) hx hb dX10_isSentence_162 (by decide) ?_
            refine lv_goto (tgt := 167) hx hb dX10_isSentence_163 (by decide) ?_
            refine lv_istore_n (lv' := [(1, .int 1), (0, .ref a)]) hx hb dX10_isSentence_167 rfl hl (by decide) rfl (fun ls hl => ?_)
            refine lv_goto (tgt := 294) hx hb dX10_isSentence_168 (by decide) ?_
            refine lv_iload_n hx hb dX10_isSentence_294 rfl (lv_at hl 0 rfl) ?_
            refine lv_if_eq (tgt := 324) hx hb dX10_isSentence_295 (by decide) (fun c_39 => ?_) (fun c_39 => ?_)
            · skip
              exact absurd c_39 (by decide)
            · skip
              refine lv_aload_n hx hb dX10_isSentence_298 rfl (lv_at hl 1 rfl) ?_
              obtain ⟨names_40, kinds_40, values_40, word_40, told_40, toldCount_40, terms_40, nodes_40, f_kinds_40, f_values_40, f_told_40, f_nodes_40, hat_a_40, hat_kinds_40, hat_values_40, hat_told_40, hat_nodes_40, hg_kinds_40, hg_values_40, hg_told_40, hg_nodes_40, hg_names_40, hf0_40, hf1_40⟩ := id he_35
              have hlt_names_40 := hX_35.2 _ _ hg_names_40
              have hrt_names_40 : jRoot G0 names_40 := ⟨_, _, hg_names_40, by omega⟩
              refine va_get (D := (dC, dI)) (ci := 12) (v := .int at_35) (C := RX10) (T := TX10) (N := 11) hx hb hts hin_12 hown hK (jp_one hat_a_40) 0 rfl rfl 4 (by decide) (hts (.fieldLink RX10 83 "ProofServer$Syntax" "at" "I") (by decide +kernel)) (fun _ h9 => h9) rfl dX10_isSentence_299 ?_
              refine lv_aload_n hx hb dX10_isSentence_302 rfl (lv_at hl 1 rfl) ?_
              refine va_get (D := (dC, dI)) (ci := 12) (v := .int tk_35) (C := RX10) (T := TX10) (N := 11) hx hb hts hin_12 hown hK (jp_one hat_a_40) 0 rfl rfl 3 (by decide) (hts (.fieldLink RX10 28 "ProofServer$Syntax" "tokens" "I") (by decide +kernel)) (fun _ h9 => h9) rfl dX10_isSentence_303 ?_
              refine lv_iconst (v := 1) hx hb dX10_isSentence_306 (by decide) ?_
              refine lv_isub hx hb dX10_isSentence_307 ?_
              refine lv_topi (fun z_41 ez_41 => ?_)
              have hz_41 : z_41.toInt = tk_35.toInt - 1 := by rw [ez_41]; exact jb_isub (rfl) ((by decide)) (by omega) (by omega)
              refine lv_icmp_ne (tgt := 324) hx hb dX10_isSentence_308 (by decide) (fun c_42 => ?_) (fun c_42 => ?_)
              · skip
                have c_42' : at_35.toInt ≠ z_41.toInt := jb_ne (rfl) (rfl) c_42
                refine lv_iconst (v := 0) hx hb dX10_isSentence_324 (by decide) ?_
                rw [hQ]
                exact W.zret (v := 0) hx hb hr (jb_nz (Or.inl rfl)) (fun t ht hW => ⟨⟨0, (tk_35, at_35, nc_35), rfl, ⟨(Or.inl rfl), by refine ⟨?_, ?_, ?_, ?_, ?_⟩ <;> first | rfl | omega⟩, by rw [ht]; try exact hX_35, by rw [ht]; try exact he_35, by rw [ht]; try exact hM_35, by rw [ht]; try exact hz_35, by rw [ht]; try exact hT_35⟩, by rw [ht]; try exact hS_35.1, fun q h9 hq => by rw [ht]; try exact hS_35.2.1 q h9 hq⟩) hS_35.2.2 dX10_isSentence_325
              · skip
                have c_42' : at_35.toInt = z_41.toInt := jb_ne_n (rfl) (rfl) c_42
                refine lv_aload_n hx hb dX10_isSentence_311 rfl (lv_at hl 1 rfl) ?_
                refine va_calli (A0 := jA base) (H0 := s.heap) (va_runV (As := []) (rest := []) ⟨hx, hb, hml, hown, hts⟩ (tX10_peek l dC dI ca base B hB G0 X H1 a tk_35 at_35 nc_35) (cwV 0 hts gX10_isSentence_X10_peek rfl rfl rfl (by decide +kernel) ⟨by rw [← hR]; exact Nat.le_of_ble_eq_true rfl, by rw [← hR]; exact Nat.le_of_ble_eq_true rfl⟩) ⟨fun a U g mk q => by obtain ⟨q0, q1, q2, qK, q9⟩ := q; exact ⟨q0, q1, q2, jG.calling g mk a qK, q9⟩, va_recv hK (jp_one hat_a_40) (ci := 12) (q0 := 0) rfl rfl, fun U hU hW => ⟨rfl, hU, hX_35, hG.step hW hU hS_35, hg_a, hm_a, he_35, by refine ⟨?_, ?_, ?_, ?_, ?_, ?_⟩ <;> omega⟩⟩ rfl rfl hl.1 rfl (lv_room (Nat.le_of_ble_eq_true rfl)) dX10_isSentence_312 ⟨Nat.zero_le _, Nat.zero_le _⟩) hS_35 (fun q _ h => h) (fun q h => h) (fun r_43 u t H1 locs1 ht hvm hr_43 hBb hz1 hk1 hS_44 => ?_)
                obtain ⟨tk_44, at_44, nc_44⟩ := u
                obtain ⟨hX_44, he_44, hM_440, hz_440, hT_440⟩ := hBb
                rw [ht] at hX_44 he_44 hM_440 hz_440 hT_440
                simp only at hr_43 he_44
                have hM_44 := hM_35.tr0 hM_440 hz_35 (by intro r; simp)
                have hz_44 := hz_440.trans hz_35
                have hT_44 := hT_440.trans hT_35
                clear hz1 hk1 hvm ht hM_440 hz_440 hT_440
                refine lv_bipush (v := 46) hx hb dX10_isSentence_315 (by decide) ?_
                refine lv_icmp_ne (tgt := 324) hx hb dX10_isSentence_317 (by decide) (fun c_45 => ?_) (fun c_45 => ?_)
                · skip
                  have c_45' : r_43.toInt ≠ 46 := jb_ne (rfl) ((by decide)) c_45
                  refine lv_iconst (v := 0) hx hb dX10_isSentence_324 (by decide) ?_
                  rw [hQ]
                  exact W.zret (v := 0) hx hb hr (jb_nz (Or.inl rfl)) (fun t ht hW => ⟨⟨0, (tk_44, at_44, nc_44), rfl, ⟨(Or.inl rfl), by refine ⟨?_, ?_, ?_, ?_, ?_⟩ <;> first | rfl | omega⟩, by rw [ht]; try exact hX_44, by rw [ht]; try exact he_44, by rw [ht]; try exact hM_44, by rw [ht]; try exact hz_44, by rw [ht]; try exact hT_44⟩, by rw [ht]; try exact hS_44.1, fun q h9 hq => by rw [ht]; try exact hS_44.2.1 q h9 hq⟩) hS_44.2.2 dX10_isSentence_325
                · skip
                  have c_45' : r_43.toInt = 46 := jb_ne_n (rfl) ((by decide)) c_45
                  refine lv_iconst (v := 1) hx hb dX10_isSentence_320 (by decide) ?_
                  refine lv_goto (tgt := 325) hx hb dX10_isSentence_321 (by decide) ?_
                  rw [hQ]
                  exact W.zret (v := 1) hx hb hr (jb_nz (Or.inr rfl)) (fun t ht hW => ⟨⟨1, (tk_44, at_44, nc_44), rfl, ⟨(Or.inr rfl), by refine ⟨?_, ?_, ?_, ?_, ?_⟩ <;> first | rfl | omega⟩, by rw [ht]; try exact hX_44, by rw [ht]; try exact he_44, by rw [ht]; try exact hM_44, by rw [ht]; try exact hz_44, by rw [ht]; try exact hT_44⟩, by rw [ht]; try exact hS_44.1, fun q h9 hq => by rw [ht]; try exact hS_44.2.1 q h9 hq⟩) hS_44.2.2 dX10_isSentence_325
      have K171c_26 : W p l e R s m ([.ref a] : List Value).toArray below meth c H1 locs1 0 0 Q (F0 m 171 ls []) := by
        refine lv_aload_n hx hb dX10_isSentence_171 rfl (lv_at hl 0 rfl) ?_
        have he_48 : jB12e dC dI ca G0 a tk0 1 0 H1 := ⟨names_1, kinds_1, values_1, z_23, told_1, 0, 0, nodes_1, f_kinds_1, f_values_1, f_told_1, f_nodes_1, hat_a_25, hat_kinds_1_25, hat_values_1_25, hat_told_1_25, hat_nodes_1_25, hg_kinds_1, hg_values_1, hg_told_1, hg_nodes_1, hg_names_1, by first | omega | assumption | (simp; done) | exact Or.inl rfl | exact Or.inr rfl, by first | omega | assumption | (simp; done) | exact Or.inl rfl | exact Or.inr rfl⟩
        refine va_calli (A0 := jA base) (H0 := s.heap) (va_runV (As := []) (rest := []) ⟨hx, hb, hml, hown, hts⟩ (tX10_isName l dC dI ca base B hB G0 X H1 a tk0 1 0) (cwV 0 hts gX10_isSentence_X10_isName rfl rfl rfl (by decide +kernel) ⟨by rw [← hR]; exact Nat.le_of_ble_eq_true rfl, by rw [← hR]; exact Nat.le_of_ble_eq_true rfl⟩) ⟨fun a U g mk q => by obtain ⟨q0, q1, q2, qK, q9⟩ := q; exact ⟨q0, q1, q2, jG.calling g mk a qK, q9⟩, va_recv hK (jp_one hat_a_25) (ci := 12) (q0 := 0) rfl rfl, fun U hU hW => ⟨rfl, hU, hX_25, hG.step hW hU hS_25, hg_a, hm_a, he_48, by refine ⟨?_, ?_, ?_, ?_, ?_, ?_⟩ <;> omega⟩⟩ rfl rfl hl.1 rfl (lv_room (Nat.le_of_ble_eq_true rfl)) dX10_isSentence_172 ⟨Nat.zero_le _, Nat.zero_le _⟩) hS_25 (fun q _ h => h) (fun q h => h) (fun r_46 u t H1 locs1 ht hvm hr_46 hBb hz1 hk1 hS_47 => ?_)
        obtain ⟨tk_47, at_47, nc_47⟩ := u
        obtain ⟨hX_47, he_47, hM_470, hz_470, hT_470⟩ := hBb
        rw [ht] at hX_47 he_47 hM_470 hz_470 hT_470
        simp only at hr_46 he_47
        have hM_47 := hM_25.tr0 hM_470 hz_25 (by intro r; simp)
        have hz_47 := hz_470.trans hz_25
        have hT_47 := hT_470.trans hT_25
        clear hz1 hk1 hvm ht hM_470 hz_470 hT_470
        obtain ⟨hr_46b, hr_46p⟩ := hr_46
        have hr_46' := jb_01 hr_46b
        refine lv_if_eq (tgt := 200) hx hb dX10_isSentence_175 (by decide) (fun c_49 => ?_) (fun c_49 => ?_)
        · skip
          have c_49' : r_46.toInt = 0 := jb_eq (rfl) ((by decide)) c_49
          refine lv_iconst (v := 0) hx hb dX10_isSentence_200 (by decide) ?_
          refine lv_istore_n (lv' := [(1, .int 0), (0, .ref a)]) hx hb dX10_isSentence_201 rfl hl (by decide) rfl (fun ls hl => ?_)
          refine lv_goto (tgt := 294) hx hb dX10_isSentence_202 (by decide) ?_
          refine lv_iload_n hx hb dX10_isSentence_294 rfl (lv_at hl 0 rfl) ?_
          refine lv_if_eq (tgt := 324) hx hb dX10_isSentence_295 (by decide) (fun c_50 => ?_) (fun c_50 => ?_)
          · skip
            refine lv_iconst (v := 0) hx hb dX10_isSentence_324 (by decide) ?_
            rw [hQ]
            exact W.zret (v := 0) hx hb hr (jb_nz (Or.inl rfl)) (fun t ht hW => ⟨⟨0, (tk_47, at_47, nc_47), rfl, ⟨(Or.inl rfl), by refine ⟨?_, ?_, ?_, ?_, ?_⟩ <;> first | rfl | omega⟩, by rw [ht]; try exact hX_47, by rw [ht]; try exact he_47, by rw [ht]; try exact hM_47, by rw [ht]; try exact hz_47, by rw [ht]; try exact hT_47⟩, by rw [ht]; try exact hS_47.1, fun q h9 hq => by rw [ht]; try exact hS_47.2.1 q h9 hq⟩) hS_47.2.2 dX10_isSentence_325
          · skip
            exact absurd c_50 (by decide)
        · skip
          have c_49' : r_46.toInt ≠ 0 := jb_eq_n (rfl) ((by decide)) c_49
          refine lv_aload_n hx hb dX10_isSentence_178 rfl (lv_at hl 0 rfl) ?_
          refine lv_bipush (v := 58) hx hb dX10_isSentence_179 (by decide) ?_
          obtain ⟨names_53, kinds_53, values_53, word_53, told_53, toldCount_53, terms_53, nodes_53, f_kinds_53, f_values_53, f_told_53, f_nodes_53, hat_a_53, hat_kinds_53, hat_values_53, hat_told_53, hat_nodes_53, hg_kinds_53, hg_values_53, hg_told_53, hg_nodes_53, hg_names_53, hf0_53, hf1_53⟩ := id he_47
          have hlt_names_53 := hX_47.2 _ _ hg_names_53
          have hrt_names_53 : jRoot G0 names_53 := ⟨_, _, hg_names_53, by omega⟩
          refine va_calli (A0 := jA base) (H0 := s.heap) (va_runV (As := [.int 58]) (rest := []) ⟨hx, hb, hml, hown, hts⟩ (tX10_isSign l dC dI ca base B hB G0 X H1 a 58 tk_47 at_47 nc_47) (cwV 1 hts gX10_isSentence_X10_isSign rfl rfl rfl (by decide +kernel) ⟨by rw [← hR]; exact Nat.le_of_ble_eq_true rfl, by rw [← hR]; exact Nat.le_of_ble_eq_true rfl⟩) ⟨fun a U g mk q => by obtain ⟨q0, q1, q2, qK, q9⟩ := q; exact ⟨q0, q1, q2, jG.calling g mk a qK, q9⟩, va_recv hK (jp_one hat_a_53) (ci := 12) (q0 := 0) rfl rfl, fun U hU hW => ⟨rfl, hU, hX_47, hG.step hW hU hS_47, hg_a, hm_a, he_47, by refine ⟨?_, ?_, ?_, ?_, ?_, ?_⟩ <;> omega⟩⟩ rfl rfl hl.1 rfl (lv_room (Nat.le_of_ble_eq_true rfl)) dX10_isSentence_181 ⟨Nat.zero_le _, Nat.zero_le _⟩) hS_47 (fun q _ h => h) (fun q h => h) (fun r_51 u t H1 locs1 ht hvm hr_51 hBb hz1 hk1 hS_52 => ?_)
          obtain ⟨tk_52, at_52, nc_52⟩ := u
          obtain ⟨hX_52, he_52, hM_520, hz_520, hT_520⟩ := hBb
          rw [ht] at hX_52 he_52 hM_520 hz_520 hT_520
          simp only at hr_51 he_52
          have hM_52 := hM_47.tr0 hM_520 hz_47 (by intro r; simp)
          have hz_52 := hz_520.trans hz_47
          have hT_52 := hT_520.trans hT_47
          clear hz1 hk1 hvm ht hM_520 hz_520 hT_520
          obtain ⟨hr_51b, hr_51p⟩ := hr_51
          have hr_51' := jb_01 hr_51b
          refine lv_if_eq (tgt := 200) hx hb dX10_isSentence_184 (by decide) (fun c_54 => ?_) (fun c_54 => ?_)
          · skip
            have c_54' : r_51.toInt = 0 := jb_eq (rfl) ((by decide)) c_54
            refine lv_iconst (v := 0) hx hb dX10_isSentence_200 (by decide) ?_
            refine lv_istore_n (lv' := [(1, .int 0), (0, .ref a)]) hx hb dX10_isSentence_201 rfl hl (by decide) rfl (fun ls hl => ?_)
            refine lv_goto (tgt := 294) hx hb dX10_isSentence_202 (by decide) ?_
            refine lv_iload_n hx hb dX10_isSentence_294 rfl (lv_at hl 0 rfl) ?_
            refine lv_if_eq (tgt := 324) hx hb dX10_isSentence_295 (by decide) (fun c_55 => ?_) (fun c_55 => ?_)
            · skip
              refine lv_iconst (v := 0) hx hb dX10_isSentence_324 (by decide) ?_
              rw [hQ]
              exact W.zret (v := 0) hx hb hr (jb_nz (Or.inl rfl)) (fun t ht hW => ⟨⟨0, (tk_52, at_52, nc_52), rfl, ⟨(Or.inl rfl), by refine ⟨?_, ?_, ?_, ?_, ?_⟩ <;> first | rfl | omega⟩, by rw [ht]; try exact hX_52, by rw [ht]; try exact he_52, by rw [ht]; try exact hM_52, by rw [ht]; try exact hz_52, by rw [ht]; try exact hT_52⟩, by rw [ht]; try exact hS_52.1, fun q h9 hq => by rw [ht]; try exact hS_52.2.1 q h9 hq⟩) hS_52.2.2 dX10_isSentence_325
            · skip
              exact absurd c_55 (by decide)
          · skip
            have c_54' : r_51.toInt ≠ 0 := jb_eq_n (rfl) ((by decide)) c_54
            refine lv_aload_n hx hb dX10_isSentence_187 rfl (lv_at hl 0 rfl) ?_
            refine lv_iconst (v := 0) hx hb dX10_isSentence_188 (by decide) ?_
            refine lv_iconst (v := 0) hx hb dX10_isSentence_189 (by decide) ?_
            obtain ⟨names_58, kinds_58, values_58, word_58, told_58, toldCount_58, terms_58, nodes_58, f_kinds_58, f_values_58, f_told_58, f_nodes_58, hat_a_58, hat_kinds_58, hat_values_58, hat_told_58, hat_nodes_58, hg_kinds_58, hg_values_58, hg_told_58, hg_nodes_58, hg_names_58, hf0_58, hf1_58⟩ := id he_52
            have hlt_names_58 := hX_52.2 _ _ hg_names_58
            have hrt_names_58 : jRoot G0 names_58 := ⟨_, _, hg_names_58, by omega⟩
            refine va_calli (A0 := jA base) (H0 := s.heap) (va_runV (As := [.int 0, .int 0]) (rest := []) ⟨hx, hb, hml, hown, hts⟩ ((aX10_isOneChain l dC dI ca base B hB 12).2 2 G0 X H1 a 0 0 tk_52 at_52 nc_52) (cwV 2 hts gX10_isSentence_X10_isChain rfl rfl rfl (by decide +kernel) ⟨by rw [← hR]; exact Nat.le_of_ble_eq_true rfl, by rw [← hR]; exact Nat.le_of_ble_eq_true rfl⟩) ⟨fun a U g mk q => by obtain ⟨q0, q1, q2, qK, q9⟩ := q; exact ⟨q0, q1, q2, jG.calling g mk a qK, q9⟩, va_recv hK (jp_one hat_a_58) (ci := 12) (q0 := 0) rfl rfl, fun U hU hW => ⟨rfl, hU, hX_52, hG.step hW hU hS_52, hg_a, hm_a, he_52, by refine ⟨?_, ?_, ?_, ?_, ?_, ?_, ?_, ?_, ?_, ?_⟩ <;> omega⟩⟩ rfl rfl hl.1 rfl (lv_room (Nat.le_of_ble_eq_true rfl)) dX10_isSentence_190 ⟨Nat.zero_le _, Nat.zero_le _⟩) hS_52 (fun q _ h => h) (fun q h => h) (fun r_56 u t H1 locs1 ht hvm hr_56 hBb hz1 hk1 hS_57 => ?_)
            obtain ⟨tk_57, at_57, nc_57⟩ := u
            obtain ⟨hX_57, he_57, hM_570, hz_570, hT_570⟩ := hBb
            rw [ht] at hX_57 he_57 hM_570 hz_570 hT_570
            simp only at hr_56 he_57
            have hM_57 := hM_52.tr0 hM_570 hz_52 (by intro r; simp)
            have hz_57 := hz_570.trans hz_52
            have hT_57 := hT_570.trans hT_52
            clear hz1 hk1 hvm ht hM_570 hz_570 hT_570
            obtain ⟨hr_56b, hr_56p⟩ := hr_56
            have hr_56' := jb_01 hr_56b
            refine lv_if_eq (tgt := 200) hx hb dX10_isSentence_193 (by decide) (fun c_59 => ?_) (fun c_59 => ?_)
            · skip
              have c_59' : r_56.toInt = 0 := jb_eq (rfl) ((by decide)) c_59
              refine lv_iconst (v := 0) hx hb dX10_isSentence_200 (by decide) ?_
              refine lv_istore_n (lv' := [(1, .int 0), (0, .ref a)]) hx hb dX10_isSentence_201 rfl hl (by decide) rfl (fun ls hl => ?_)
              refine lv_goto (tgt := 294) hx hb dX10_isSentence_202 (by decide) ?_
              refine lv_iload_n hx hb dX10_isSentence_294 rfl (lv_at hl 0 rfl) ?_
              refine lv_if_eq (tgt := 324) hx hb dX10_isSentence_295 (by decide) (fun c_60 => ?_) (fun c_60 => ?_)
              · skip
                refine lv_iconst (v := 0) hx hb dX10_isSentence_324 (by decide) ?_
                rw [hQ]
                exact W.zret (v := 0) hx hb hr (jb_nz (Or.inl rfl)) (fun t ht hW => ⟨⟨0, (tk_57, at_57, nc_57), rfl, ⟨(Or.inl rfl), by refine ⟨?_, ?_, ?_, ?_, ?_⟩ <;> first | rfl | omega⟩, by rw [ht]; try exact hX_57, by rw [ht]; try exact he_57, by rw [ht]; try exact hM_57, by rw [ht]; try exact hz_57, by rw [ht]; try exact hT_57⟩, by rw [ht]; try exact hS_57.1, fun q h9 hq => by rw [ht]; try exact hS_57.2.1 q h9 hq⟩) hS_57.2.2 dX10_isSentence_325
              · skip
                exact absurd c_60 (by decide)
            · skip
              have c_59' : r_56.toInt ≠ 0 := jb_eq_n (rfl) ((by decide)) c_59
              refine lv_iconst (v := 1) hx hb dX10_isSentence_196 (by decide) ?_
              refine lv_goto (tgt := 201) hx hb dX10_isSentence_197 (by decide) ?_
              refine lv_istore_n (lv' := [(1, .int 1), (0, .ref a)]) hx hb dX10_isSentence_201 rfl hl (by decide) rfl (fun ls hl => ?_)
              refine lv_goto (tgt := 294) hx hb dX10_isSentence_202 (by decide) ?_
              refine lv_iload_n hx hb dX10_isSentence_294 rfl (lv_at hl 0 rfl) ?_
              refine lv_if_eq (tgt := 324) hx hb dX10_isSentence_295 (by decide) (fun c_61 => ?_) (fun c_61 => ?_)
              · skip
                exact absurd c_61 (by decide)
              · skip
                refine lv_aload_n hx hb dX10_isSentence_298 rfl (lv_at hl 1 rfl) ?_
                obtain ⟨names_62, kinds_62, values_62, word_62, told_62, toldCount_62, terms_62, nodes_62, f_kinds_62, f_values_62, f_told_62, f_nodes_62, hat_a_62, hat_kinds_62, hat_values_62, hat_told_62, hat_nodes_62, hg_kinds_62, hg_values_62, hg_told_62, hg_nodes_62, hg_names_62, hf0_62, hf1_62⟩ := id he_57
                have hlt_names_62 := hX_57.2 _ _ hg_names_62
                have hrt_names_62 : jRoot G0 names_62 := ⟨_, _, hg_names_62, by omega⟩
                refine va_get (D := (dC, dI)) (ci := 12) (v := .int at_57) (C := RX10) (T := TX10) (N := 11) hx hb hts hin_12 hown hK (jp_one hat_a_62) 0 rfl rfl 4 (by decide) (hts (.fieldLink RX10 83 "ProofServer$Syntax" "at" "I") (by decide +kernel)) (fun _ h9 => h9) rfl dX10_isSentence_299 ?_
                refine lv_aload_n hx hb dX10_isSentence_302 rfl (lv_at hl 1 rfl) ?_
                refine va_get (D := (dC, dI)) (ci := 12) (v := .int tk_57) (C := RX10) (T := TX10) (N := 11) hx hb hts hin_12 hown hK (jp_one hat_a_62) 0 rfl rfl 3 (by decide) (hts (.fieldLink RX10 28 "ProofServer$Syntax" "tokens" "I") (by decide +kernel)) (fun _ h9 => h9) rfl dX10_isSentence_303 ?_
                refine lv_iconst (v := 1) hx hb dX10_isSentence_306 (by decide) ?_
                refine lv_isub hx hb dX10_isSentence_307 ?_
                refine lv_topi (fun z_63 ez_63 => ?_)
                have hz_63 : z_63.toInt = tk_57.toInt - 1 := by rw [ez_63]; exact jb_isub (rfl) ((by decide)) (by omega) (by omega)
                refine lv_icmp_ne (tgt := 324) hx hb dX10_isSentence_308 (by decide) (fun c_64 => ?_) (fun c_64 => ?_)
                · skip
                  have c_64' : at_57.toInt ≠ z_63.toInt := jb_ne (rfl) (rfl) c_64
                  refine lv_iconst (v := 0) hx hb dX10_isSentence_324 (by decide) ?_
                  rw [hQ]
                  exact W.zret (v := 0) hx hb hr (jb_nz (Or.inl rfl)) (fun t ht hW => ⟨⟨0, (tk_57, at_57, nc_57), rfl, ⟨(Or.inl rfl), by refine ⟨?_, ?_, ?_, ?_, ?_⟩ <;> first | rfl | omega⟩, by rw [ht]; try exact hX_57, by rw [ht]; try exact he_57, by rw [ht]; try exact hM_57, by rw [ht]; try exact hz_57, by rw [ht]; try exact hT_57⟩, by rw [ht]; try exact hS_57.1, fun q h9 hq => by rw [ht]; try exact hS_57.2.1 q h9 hq⟩) hS_57.2.2 dX10_isSentence_325
                · skip
                  have c_64' : at_57.toInt = z_63.toInt := jb_ne_n (rfl) (rfl) c_64
                  refine lv_aload_n hx hb dX10_isSentence_311 rfl (lv_at hl 1 rfl) ?_
                  refine va_calli (A0 := jA base) (H0 := s.heap) (va_runV (As := []) (rest := []) ⟨hx, hb, hml, hown, hts⟩ (tX10_peek l dC dI ca base B hB G0 X H1 a tk_57 at_57 nc_57) (cwV 0 hts gX10_isSentence_X10_peek rfl rfl rfl (by decide +kernel) ⟨by rw [← hR]; exact Nat.le_of_ble_eq_true rfl, by rw [← hR]; exact Nat.le_of_ble_eq_true rfl⟩) ⟨fun a U g mk q => by obtain ⟨q0, q1, q2, qK, q9⟩ := q; exact ⟨q0, q1, q2, jG.calling g mk a qK, q9⟩, va_recv hK (jp_one hat_a_62) (ci := 12) (q0 := 0) rfl rfl, fun U hU hW => ⟨rfl, hU, hX_57, hG.step hW hU hS_57, hg_a, hm_a, he_57, by refine ⟨?_, ?_, ?_, ?_, ?_, ?_⟩ <;> omega⟩⟩ rfl rfl hl.1 rfl (lv_room (Nat.le_of_ble_eq_true rfl)) dX10_isSentence_312 ⟨Nat.zero_le _, Nat.zero_le _⟩) hS_57 (fun q _ h => h) (fun q h => h) (fun r_65 u t H1 locs1 ht hvm hr_65 hBb hz1 hk1 hS_66 => ?_)
                  obtain ⟨tk_66, at_66, nc_66⟩ := u
                  obtain ⟨hX_66, he_66, hM_660, hz_660, hT_660⟩ := hBb
                  rw [ht] at hX_66 he_66 hM_660 hz_660 hT_660
                  simp only at hr_65 he_66
                  have hM_66 := hM_57.tr0 hM_660 hz_57 (by intro r; simp)
                  have hz_66 := hz_660.trans hz_57
                  have hT_66 := hT_660.trans hT_57
                  clear hz1 hk1 hvm ht hM_660 hz_660 hT_660
                  refine lv_bipush (v := 46) hx hb dX10_isSentence_315 (by decide) ?_
                  refine lv_icmp_ne (tgt := 324) hx hb dX10_isSentence_317 (by decide) (fun c_67 => ?_) (fun c_67 => ?_)
                  · skip
                    have c_67' : r_65.toInt ≠ 46 := jb_ne (rfl) ((by decide)) c_67
                    refine lv_iconst (v := 0) hx hb dX10_isSentence_324 (by decide) ?_
                    rw [hQ]
                    exact W.zret (v := 0) hx hb hr (jb_nz (Or.inl rfl)) (fun t ht hW => ⟨⟨0, (tk_66, at_66, nc_66), rfl, ⟨(Or.inl rfl), by refine ⟨?_, ?_, ?_, ?_, ?_⟩ <;> first | rfl | omega⟩, by rw [ht]; try exact hX_66, by rw [ht]; try exact he_66, by rw [ht]; try exact hM_66, by rw [ht]; try exact hz_66, by rw [ht]; try exact hT_66⟩, by rw [ht]; try exact hS_66.1, fun q h9 hq => by rw [ht]; try exact hS_66.2.1 q h9 hq⟩) hS_66.2.2 dX10_isSentence_325
                  · skip
                    have c_67' : r_65.toInt = 46 := jb_ne_n (rfl) ((by decide)) c_67
                    refine lv_iconst (v := 1) hx hb dX10_isSentence_320 (by decide) ?_
                    refine lv_goto (tgt := 325) hx hb dX10_isSentence_321 (by decide) ?_
                    rw [hQ]
                    exact W.zret (v := 1) hx hb hr (jb_nz (Or.inr rfl)) (fun t ht hW => ⟨⟨1, (tk_66, at_66, nc_66), rfl, ⟨(Or.inr rfl), by refine ⟨?_, ?_, ?_, ?_, ?_⟩ <;> first | rfl | omega⟩, by rw [ht]; try exact hX_66, by rw [ht]; try exact he_66, by rw [ht]; try exact hM_66, by rw [ht]; try exact hz_66, by rw [ht]; try exact hT_66⟩, by rw [ht]; try exact hS_66.1, fun q h9 hq => by rw [ht]; try exact hS_66.2.1 q h9 hq⟩) hS_66.2.2 dX10_isSentence_325
      have K205c_26 : W p l e R s m ([.ref a] : List Value).toArray below meth c H1 locs1 0 0 Q (F0 m 205 ls []) := by
        refine lv_iconst (v := 1) hx hb dX10_isSentence_205 (by decide) ?_
        refine lv_istore_n (lv' := [(1, .int 1), (0, .ref a)]) hx hb dX10_isSentence_206 rfl hl (by decide) rfl (fun ls hl => ?_)
        refine lv_goto (tgt := 294) hx hb dX10_isSentence_207 (by decide) ?_
        refine lv_iload_n hx hb dX10_isSentence_294 rfl (lv_at hl 0 rfl) ?_
        refine lv_if_eq (tgt := 324) hx hb dX10_isSentence_295 (by decide) (fun c_68 => ?_) (fun c_68 => ?_)
        · skip
          exact absurd c_68 (by decide)
        · skip
          refine lv_aload_n hx hb dX10_isSentence_298 rfl (lv_at hl 1 rfl) ?_
          refine va_get (D := (dC, dI)) (ci := 12) (v := .int 1) (C := RX10) (T := TX10) (N := 11) hx hb hts hin_12 hown hK (jp_one hat_a_25) 0 rfl rfl 4 (by decide) (hts (.fieldLink RX10 83 "ProofServer$Syntax" "at" "I") (by decide +kernel)) (fun _ h9 => h9) rfl dX10_isSentence_299 ?_
          refine lv_aload_n hx hb dX10_isSentence_302 rfl (lv_at hl 1 rfl) ?_
          refine va_get (D := (dC, dI)) (ci := 12) (v := .int tk0) (C := RX10) (T := TX10) (N := 11) hx hb hts hin_12 hown hK (jp_one hat_a_25) 0 rfl rfl 3 (by decide) (hts (.fieldLink RX10 28 "ProofServer$Syntax" "tokens" "I") (by decide +kernel)) (fun _ h9 => h9) rfl dX10_isSentence_303 ?_
          refine lv_iconst (v := 1) hx hb dX10_isSentence_306 (by decide) ?_
          refine lv_isub hx hb dX10_isSentence_307 ?_
          refine lv_topi (fun z_69 ez_69 => ?_)
          have hz_69 : z_69.toInt = tk0.toInt - 1 := by rw [ez_69]; exact jb_isub (rfl) ((by decide)) (by omega) (by omega)
          refine lv_icmp_ne (tgt := 324) hx hb dX10_isSentence_308 (by decide) (fun c_70 => ?_) (fun c_70 => ?_)
          · skip
            have c_70' : 1 ≠ z_69.toInt := jb_ne ((by decide)) (rfl) c_70
            refine lv_iconst (v := 0) hx hb dX10_isSentence_324 (by decide) ?_
            have he_71 : jB12e dC dI ca G0 a tk0 1 0 H1 := ⟨names_1, kinds_1, values_1, z_23, told_1, 0, 0, nodes_1, f_kinds_1, f_values_1, f_told_1, f_nodes_1, hat_a_25, hat_kinds_1_25, hat_values_1_25, hat_told_1_25, hat_nodes_1_25, hg_kinds_1, hg_values_1, hg_told_1, hg_nodes_1, hg_names_1, by first | omega | assumption | (simp; done) | exact Or.inl rfl | exact Or.inr rfl, by first | omega | assumption | (simp; done) | exact Or.inl rfl | exact Or.inr rfl⟩
            rw [hQ]
            exact W.zret (v := 0) hx hb hr (jb_nz (Or.inl rfl)) (fun t ht hW => ⟨⟨0, (tk0, 1, 0), rfl, ⟨(Or.inl rfl), by refine ⟨?_, ?_, ?_, ?_, ?_⟩ <;> first | rfl | omega⟩, by rw [ht]; try exact hX_25, by rw [ht]; try exact he_71, by rw [ht]; try exact hM_25, by rw [ht]; try exact hz_25, by rw [ht]; try exact hT_25⟩, by rw [ht]; try exact hS_25.1, fun q h9 hq => by rw [ht]; try exact hS_25.2.1 q h9 hq⟩) hS_25.2.2 dX10_isSentence_325
          · skip
            have c_70' : 1 = z_69.toInt := jb_ne_n ((by decide)) (rfl) c_70
            refine lv_aload_n hx hb dX10_isSentence_311 rfl (lv_at hl 1 rfl) ?_
            have he_74 : jB12e dC dI ca G0 a tk0 1 0 H1 := ⟨names_1, kinds_1, values_1, z_23, told_1, 0, 0, nodes_1, f_kinds_1, f_values_1, f_told_1, f_nodes_1, hat_a_25, hat_kinds_1_25, hat_values_1_25, hat_told_1_25, hat_nodes_1_25, hg_kinds_1, hg_values_1, hg_told_1, hg_nodes_1, hg_names_1, by first | omega | assumption | (simp; done) | exact Or.inl rfl | exact Or.inr rfl, by first | omega | assumption | (simp; done) | exact Or.inl rfl | exact Or.inr rfl⟩
            refine va_calli (A0 := jA base) (H0 := s.heap) (va_runV (As := []) (rest := []) ⟨hx, hb, hml, hown, hts⟩ (tX10_peek l dC dI ca base B hB G0 X H1 a tk0 1 0) (cwV 0 hts gX10_isSentence_X10_peek rfl rfl rfl (by decide +kernel) ⟨by rw [← hR]; exact Nat.le_of_ble_eq_true rfl, by rw [← hR]; exact Nat.le_of_ble_eq_true rfl⟩) ⟨fun a U g mk q => by obtain ⟨q0, q1, q2, qK, q9⟩ := q; exact ⟨q0, q1, q2, jG.calling g mk a qK, q9⟩, va_recv hK (jp_one hat_a_25) (ci := 12) (q0 := 0) rfl rfl, fun U hU hW => ⟨rfl, hU, hX_25, hG.step hW hU hS_25, hg_a, hm_a, he_74, by refine ⟨?_, ?_, ?_, ?_, ?_, ?_⟩ <;> omega⟩⟩ rfl rfl hl.1 rfl (lv_room (Nat.le_of_ble_eq_true rfl)) dX10_isSentence_312 ⟨Nat.zero_le _, Nat.zero_le _⟩) hS_25 (fun q _ h => h) (fun q h => h) (fun r_72 u t H1 locs1 ht hvm hr_72 hBb hz1 hk1 hS_73 => ?_)
            obtain ⟨tk_73, at_73, nc_73⟩ := u
            obtain ⟨hX_73, he_73, hM_730, hz_730, hT_730⟩ := hBb
            rw [ht] at hX_73 he_73 hM_730 hz_730 hT_730
            simp only at hr_72 he_73
            have hM_73 := hM_25.tr0 hM_730 hz_25 (by intro r; simp)
            have hz_73 := hz_730.trans hz_25
            have hT_73 := hT_730.trans hT_25
            clear hz1 hk1 hvm ht hM_730 hz_730 hT_730
            refine lv_bipush (v := 46) hx hb dX10_isSentence_315 (by decide) ?_
            refine lv_icmp_ne (tgt := 324) hx hb dX10_isSentence_317 (by decide) (fun c_75 => ?_) (fun c_75 => ?_)
            · skip
              have c_75' : r_72.toInt ≠ 46 := jb_ne (rfl) ((by decide)) c_75
              refine lv_iconst (v := 0) hx hb dX10_isSentence_324 (by decide) ?_
              rw [hQ]
              exact W.zret (v := 0) hx hb hr (jb_nz (Or.inl rfl)) (fun t ht hW => ⟨⟨0, (tk_73, at_73, nc_73), rfl, ⟨(Or.inl rfl), by refine ⟨?_, ?_, ?_, ?_, ?_⟩ <;> first | rfl | omega⟩, by rw [ht]; try exact hX_73, by rw [ht]; try exact he_73, by rw [ht]; try exact hM_73, by rw [ht]; try exact hz_73, by rw [ht]; try exact hT_73⟩, by rw [ht]; try exact hS_73.1, fun q h9 hq => by rw [ht]; try exact hS_73.2.1 q h9 hq⟩) hS_73.2.2 dX10_isSentence_325
            · skip
              have c_75' : r_72.toInt = 46 := jb_ne_n (rfl) ((by decide)) c_75
              refine lv_iconst (v := 1) hx hb dX10_isSentence_320 (by decide) ?_
              refine lv_goto (tgt := 325) hx hb dX10_isSentence_321 (by decide) ?_
              rw [hQ]
              exact W.zret (v := 1) hx hb hr (jb_nz (Or.inr rfl)) (fun t ht hW => ⟨⟨1, (tk_73, at_73, nc_73), rfl, ⟨(Or.inr rfl), by refine ⟨?_, ?_, ?_, ?_, ?_⟩ <;> first | rfl | omega⟩, by rw [ht]; try exact hX_73, by rw [ht]; try exact he_73, by rw [ht]; try exact hM_73, by rw [ht]; try exact hz_73, by rw [ht]; try exact hT_73⟩, by rw [ht]; try exact hS_73.1, fun q h9 hq => by rw [ht]; try exact hS_73.2.1 q h9 hq⟩) hS_73.2.2 dX10_isSentence_325
      have K210c_26 : W p l e R s m ([.ref a] : List Value).toArray below meth c H1 locs1 0 0 Q (F0 m 210 ls []) := by
        refine lv_aload_n hx hb dX10_isSentence_210 rfl (lv_at hl 0 rfl) ?_
        have he_78 : jB12e dC dI ca G0 a tk0 1 0 H1 := ⟨names_1, kinds_1, values_1, z_23, told_1, 0, 0, nodes_1, f_kinds_1, f_values_1, f_told_1, f_nodes_1, hat_a_25, hat_kinds_1_25, hat_values_1_25, hat_told_1_25, hat_nodes_1_25, hg_kinds_1, hg_values_1, hg_told_1, hg_nodes_1, hg_names_1, by first | omega | assumption | (simp; done) | exact Or.inl rfl | exact Or.inr rfl, by first | omega | assumption | (simp; done) | exact Or.inl rfl | exact Or.inr rfl⟩
        refine va_calli (A0 := jA base) (H0 := s.heap) (va_runV (As := []) (rest := []) ⟨hx, hb, hml, hown, hts⟩ (tX10_isName l dC dI ca base B hB G0 X H1 a tk0 1 0) (cwV 0 hts gX10_isSentence_X10_isName rfl rfl rfl (by decide +kernel) ⟨by rw [← hR]; exact Nat.le_of_ble_eq_true rfl, by rw [← hR]; exact Nat.le_of_ble_eq_true rfl⟩) ⟨fun a U g mk q => by obtain ⟨q0, q1, q2, qK, q9⟩ := q; exact ⟨q0, q1, q2, jG.calling g mk a qK, q9⟩, va_recv hK (jp_one hat_a_25) (ci := 12) (q0 := 0) rfl rfl, fun U hU hW => ⟨rfl, hU, hX_25, hG.step hW hU hS_25, hg_a, hm_a, he_78, by refine ⟨?_, ?_, ?_, ?_, ?_, ?_⟩ <;> omega⟩⟩ rfl rfl hl.1 rfl (lv_room (Nat.le_of_ble_eq_true rfl)) dX10_isSentence_211 ⟨Nat.zero_le _, Nat.zero_le _⟩) hS_25 (fun q _ h => h) (fun q h => h) (fun r_76 u t H1 locs1 ht hvm hr_76 hBb hz1 hk1 hS_77 => ?_)
        obtain ⟨tk_77, at_77, nc_77⟩ := u
        obtain ⟨hX_77, he_77, hM_770, hz_770, hT_770⟩ := hBb
        rw [ht] at hX_77 he_77 hM_770 hz_770 hT_770
        simp only at hr_76 he_77
        have hM_77 := hM_25.tr0 hM_770 hz_25 (by intro r; simp)
        have hz_77 := hz_770.trans hz_25
        have hT_77 := hT_770.trans hT_25
        clear hz1 hk1 hvm ht hM_770 hz_770 hT_770
        obtain ⟨hr_76b, hr_76p⟩ := hr_76
        have hr_76' := jb_01 hr_76b
        refine lv_istore_n (lv' := [(1, .int r_76), (0, .ref a)]) hx hb dX10_isSentence_214 rfl hl (by decide) rfl (fun ls hl => ?_)
        refine lv_goto (tgt := 294) hx hb dX10_isSentence_215 (by decide) ?_
        refine lv_iload_n hx hb dX10_isSentence_294 rfl (lv_at hl 0 rfl) ?_
        refine lv_if_eq (tgt := 324) hx hb dX10_isSentence_295 (by decide) (fun c_79 => ?_) (fun c_79 => ?_)
        · skip
          have c_79' : r_76.toInt = 0 := jb_eq (rfl) ((by decide)) c_79
          refine lv_iconst (v := 0) hx hb dX10_isSentence_324 (by decide) ?_
          rw [hQ]
          exact W.zret (v := 0) hx hb hr (jb_nz (Or.inl rfl)) (fun t ht hW => ⟨⟨0, (tk_77, at_77, nc_77), rfl, ⟨(Or.inl rfl), by refine ⟨?_, ?_, ?_, ?_, ?_⟩ <;> first | rfl | omega⟩, by rw [ht]; try exact hX_77, by rw [ht]; try exact he_77, by rw [ht]; try exact hM_77, by rw [ht]; try exact hz_77, by rw [ht]; try exact hT_77⟩, by rw [ht]; try exact hS_77.1, fun q h9 hq => by rw [ht]; try exact hS_77.2.1 q h9 hq⟩) hS_77.2.2 dX10_isSentence_325
        · skip
          have c_79' : r_76.toInt ≠ 0 := jb_eq_n (rfl) ((by decide)) c_79
          refine lv_aload_n hx hb dX10_isSentence_298 rfl (lv_at hl 1 rfl) ?_
          obtain ⟨names_80, kinds_80, values_80, word_80, told_80, toldCount_80, terms_80, nodes_80, f_kinds_80, f_values_80, f_told_80, f_nodes_80, hat_a_80, hat_kinds_80, hat_values_80, hat_told_80, hat_nodes_80, hg_kinds_80, hg_values_80, hg_told_80, hg_nodes_80, hg_names_80, hf0_80, hf1_80⟩ := id he_77
          have hlt_names_80 := hX_77.2 _ _ hg_names_80
          have hrt_names_80 : jRoot G0 names_80 := ⟨_, _, hg_names_80, by omega⟩
          refine va_get (D := (dC, dI)) (ci := 12) (v := .int at_77) (C := RX10) (T := TX10) (N := 11) hx hb hts hin_12 hown hK (jp_one hat_a_80) 0 rfl rfl 4 (by decide) (hts (.fieldLink RX10 83 "ProofServer$Syntax" "at" "I") (by decide +kernel)) (fun _ h9 => h9) rfl dX10_isSentence_299 ?_
          refine lv_aload_n hx hb dX10_isSentence_302 rfl (lv_at hl 1 rfl) ?_
          refine va_get (D := (dC, dI)) (ci := 12) (v := .int tk_77) (C := RX10) (T := TX10) (N := 11) hx hb hts hin_12 hown hK (jp_one hat_a_80) 0 rfl rfl 3 (by decide) (hts (.fieldLink RX10 28 "ProofServer$Syntax" "tokens" "I") (by decide +kernel)) (fun _ h9 => h9) rfl dX10_isSentence_303 ?_
          refine lv_iconst (v := 1) hx hb dX10_isSentence_306 (by decide) ?_
          refine lv_isub hx hb dX10_isSentence_307 ?_
          refine lv_topi (fun z_81 ez_81 => ?_)
          have hz_81 : z_81.toInt = tk_77.toInt - 1 := by rw [ez_81]; exact jb_isub (rfl) ((by decide)) (by omega) (by omega)
          refine lv_icmp_ne (tgt := 324) hx hb dX10_isSentence_308 (by decide) (fun c_82 => ?_) (fun c_82 => ?_)
          · skip
            have c_82' : at_77.toInt ≠ z_81.toInt := jb_ne (rfl) (rfl) c_82
            refine lv_iconst (v := 0) hx hb dX10_isSentence_324 (by decide) ?_
            rw [hQ]
            exact W.zret (v := 0) hx hb hr (jb_nz (Or.inl rfl)) (fun t ht hW => ⟨⟨0, (tk_77, at_77, nc_77), rfl, ⟨(Or.inl rfl), by refine ⟨?_, ?_, ?_, ?_, ?_⟩ <;> first | rfl | omega⟩, by rw [ht]; try exact hX_77, by rw [ht]; try exact he_77, by rw [ht]; try exact hM_77, by rw [ht]; try exact hz_77, by rw [ht]; try exact hT_77⟩, by rw [ht]; try exact hS_77.1, fun q h9 hq => by rw [ht]; try exact hS_77.2.1 q h9 hq⟩) hS_77.2.2 dX10_isSentence_325
          · skip
            have c_82' : at_77.toInt = z_81.toInt := jb_ne_n (rfl) (rfl) c_82
            refine lv_aload_n hx hb dX10_isSentence_311 rfl (lv_at hl 1 rfl) ?_
            refine va_calli (A0 := jA base) (H0 := s.heap) (va_runV (As := []) (rest := []) ⟨hx, hb, hml, hown, hts⟩ (tX10_peek l dC dI ca base B hB G0 X H1 a tk_77 at_77 nc_77) (cwV 0 hts gX10_isSentence_X10_peek rfl rfl rfl (by decide +kernel) ⟨by rw [← hR]; exact Nat.le_of_ble_eq_true rfl, by rw [← hR]; exact Nat.le_of_ble_eq_true rfl⟩) ⟨fun a U g mk q => by obtain ⟨q0, q1, q2, qK, q9⟩ := q; exact ⟨q0, q1, q2, jG.calling g mk a qK, q9⟩, va_recv hK (jp_one hat_a_80) (ci := 12) (q0 := 0) rfl rfl, fun U hU hW => ⟨rfl, hU, hX_77, hG.step hW hU hS_77, hg_a, hm_a, he_77, by refine ⟨?_, ?_, ?_, ?_, ?_, ?_⟩ <;> omega⟩⟩ rfl rfl hl.1 rfl (lv_room (Nat.le_of_ble_eq_true rfl)) dX10_isSentence_312 ⟨Nat.zero_le _, Nat.zero_le _⟩) hS_77 (fun q _ h => h) (fun q h => h) (fun r_83 u t H1 locs1 ht hvm hr_83 hBb hz1 hk1 hS_84 => ?_)
            obtain ⟨tk_84, at_84, nc_84⟩ := u
            obtain ⟨hX_84, he_84, hM_840, hz_840, hT_840⟩ := hBb
            rw [ht] at hX_84 he_84 hM_840 hz_840 hT_840
            simp only at hr_83 he_84
            have hM_84 := hM_77.tr0 hM_840 hz_77 (by intro r; simp)
            have hz_84 := hz_840.trans hz_77
            have hT_84 := hT_840.trans hT_77
            clear hz1 hk1 hvm ht hM_840 hz_840 hT_840
            refine lv_bipush (v := 46) hx hb dX10_isSentence_315 (by decide) ?_
            refine lv_icmp_ne (tgt := 324) hx hb dX10_isSentence_317 (by decide) (fun c_85 => ?_) (fun c_85 => ?_)
            · skip
              have c_85' : r_83.toInt ≠ 46 := jb_ne (rfl) ((by decide)) c_85
              refine lv_iconst (v := 0) hx hb dX10_isSentence_324 (by decide) ?_
              rw [hQ]
              exact W.zret (v := 0) hx hb hr (jb_nz (Or.inl rfl)) (fun t ht hW => ⟨⟨0, (tk_84, at_84, nc_84), rfl, ⟨(Or.inl rfl), by refine ⟨?_, ?_, ?_, ?_, ?_⟩ <;> first | rfl | omega⟩, by rw [ht]; try exact hX_84, by rw [ht]; try exact he_84, by rw [ht]; try exact hM_84, by rw [ht]; try exact hz_84, by rw [ht]; try exact hT_84⟩, by rw [ht]; try exact hS_84.1, fun q h9 hq => by rw [ht]; try exact hS_84.2.1 q h9 hq⟩) hS_84.2.2 dX10_isSentence_325
            · skip
              have c_85' : r_83.toInt = 46 := jb_ne_n (rfl) ((by decide)) c_85
              refine lv_iconst (v := 1) hx hb dX10_isSentence_320 (by decide) ?_
              refine lv_goto (tgt := 325) hx hb dX10_isSentence_321 (by decide) ?_
              rw [hQ]
              exact W.zret (v := 1) hx hb hr (jb_nz (Or.inr rfl)) (fun t ht hW => ⟨⟨1, (tk_84, at_84, nc_84), rfl, ⟨(Or.inr rfl), by refine ⟨?_, ?_, ?_, ?_, ?_⟩ <;> first | rfl | omega⟩, by rw [ht]; try exact hX_84, by rw [ht]; try exact he_84, by rw [ht]; try exact hM_84, by rw [ht]; try exact hz_84, by rw [ht]; try exact hT_84⟩, by rw [ht]; try exact hS_84.1, fun q h9 hq => by rw [ht]; try exact hS_84.2.1 q h9 hq⟩) hS_84.2.2 dX10_isSentence_325
      have K218c_26 : W p l e R s m ([.ref a] : List Value).toArray below meth c H1 locs1 0 0 Q (F0 m 218 ls []) := by
        refine lv_aload_n hx hb dX10_isSentence_218 rfl (lv_at hl 0 rfl) ?_
        have he_88 : jB12e dC dI ca G0 a tk0 1 0 H1 := ⟨names_1, kinds_1, values_1, z_23, told_1, 0, 0, nodes_1, f_kinds_1, f_values_1, f_told_1, f_nodes_1, hat_a_25, hat_kinds_1_25, hat_values_1_25, hat_told_1_25, hat_nodes_1_25, hg_kinds_1, hg_values_1, hg_told_1, hg_nodes_1, hg_names_1, by first | omega | assumption | (simp; done) | exact Or.inl rfl | exact Or.inr rfl, by first | omega | assumption | (simp; done) | exact Or.inl rfl | exact Or.inr rfl⟩
        refine va_calli (A0 := jA base) (H0 := s.heap) (va_runV (As := []) (rest := []) ⟨hx, hb, hml, hown, hts⟩ (tX10_isName l dC dI ca base B hB G0 X H1 a tk0 1 0) (cwV 0 hts gX10_isSentence_X10_isName rfl rfl rfl (by decide +kernel) ⟨by rw [← hR]; exact Nat.le_of_ble_eq_true rfl, by rw [← hR]; exact Nat.le_of_ble_eq_true rfl⟩) ⟨fun a U g mk q => by obtain ⟨q0, q1, q2, qK, q9⟩ := q; exact ⟨q0, q1, q2, jG.calling g mk a qK, q9⟩, va_recv hK (jp_one hat_a_25) (ci := 12) (q0 := 0) rfl rfl, fun U hU hW => ⟨rfl, hU, hX_25, hG.step hW hU hS_25, hg_a, hm_a, he_88, by refine ⟨?_, ?_, ?_, ?_, ?_, ?_⟩ <;> omega⟩⟩ rfl rfl hl.1 rfl (lv_room (Nat.le_of_ble_eq_true rfl)) dX10_isSentence_219 ⟨Nat.zero_le _, Nat.zero_le _⟩) hS_25 (fun q _ h => h) (fun q h => h) (fun r_86 u t H1 locs1 ht hvm hr_86 hBb hz1 hk1 hS_87 => ?_)
        obtain ⟨tk_87, at_87, nc_87⟩ := u
        obtain ⟨hX_87, he_87, hM_870, hz_870, hT_870⟩ := hBb
        rw [ht] at hX_87 he_87 hM_870 hz_870 hT_870
        simp only at hr_86 he_87
        have hM_87 := hM_25.tr0 hM_870 hz_25 (by intro r; simp)
        have hz_87 := hz_870.trans hz_25
        have hT_87 := hT_870.trans hT_25
        clear hz1 hk1 hvm ht hM_870 hz_870 hT_870
        obtain ⟨hr_86b, hr_86p⟩ := hr_86
        have hr_86' := jb_01 hr_86b
        refine lv_if_eq (tgt := 243) hx hb dX10_isSentence_222 (by decide) (fun c_89 => ?_) (fun c_89 => ?_)
        · skip
          have c_89' : r_86.toInt = 0 := jb_eq (rfl) ((by decide)) c_89
          refine lv_iconst (v := 0) hx hb dX10_isSentence_243 (by decide) ?_
          refine lv_istore_n (lv' := [(1, .int 0), (0, .ref a)]) hx hb dX10_isSentence_244 rfl hl (by decide) rfl (fun ls hl => ?_)
          refine lv_goto (tgt := 294) hx hb dX10_isSentence_245 (by decide) ?_
          refine lv_iload_n hx hb dX10_isSentence_294 rfl (lv_at hl 0 rfl) ?_
          refine lv_if_eq (tgt := 324) hx hb dX10_isSentence_295 (by decide) (fun c_90 => ?_) (fun c_90 => ?_)
          · skip
            refine lv_iconst (v := 0) hx hb dX10_isSentence_324 (by decide) ?_
            rw [hQ]
            exact W.zret (v := 0) hx hb hr (jb_nz (Or.inl rfl)) (fun t ht hW => ⟨⟨0, (tk_87, at_87, nc_87), rfl, ⟨(Or.inl rfl), by refine ⟨?_, ?_, ?_, ?_, ?_⟩ <;> first | rfl | omega⟩, by rw [ht]; try exact hX_87, by rw [ht]; try exact he_87, by rw [ht]; try exact hM_87, by rw [ht]; try exact hz_87, by rw [ht]; try exact hT_87⟩, by rw [ht]; try exact hS_87.1, fun q h9 hq => by rw [ht]; try exact hS_87.2.1 q h9 hq⟩) hS_87.2.2 dX10_isSentence_325
          · skip
            exact absurd c_90 (by decide)
        · skip
          have c_89' : r_86.toInt ≠ 0 := jb_eq_n (rfl) ((by decide)) c_89
          refine lv_aload_n hx hb dX10_isSentence_225 rfl (lv_at hl 0 rfl) ?_
          obtain ⟨names_93, kinds_93, values_93, word_93, told_93, toldCount_93, terms_93, nodes_93, f_kinds_93, f_values_93, f_told_93, f_nodes_93, hat_a_93, hat_kinds_93, hat_values_93, hat_told_93, hat_nodes_93, hg_kinds_93, hg_values_93, hg_told_93, hg_nodes_93, hg_names_93, hf0_93, hf1_93⟩ := id he_87
          have hlt_names_93 := hX_87.2 _ _ hg_names_93
          have hrt_names_93 : jRoot G0 names_93 := ⟨_, _, hg_names_93, by omega⟩
          refine va_calli (A0 := jA base) (H0 := s.heap) (va_runV (As := []) (rest := []) ⟨hx, hb, hml, hown, hts⟩ (tX10_isName l dC dI ca base B hB G0 X H1 a tk_87 at_87 nc_87) (cwV 0 hts gX10_isSentence_X10_isName rfl rfl rfl (by decide +kernel) ⟨by rw [← hR]; exact Nat.le_of_ble_eq_true rfl, by rw [← hR]; exact Nat.le_of_ble_eq_true rfl⟩) ⟨fun a U g mk q => by obtain ⟨q0, q1, q2, qK, q9⟩ := q; exact ⟨q0, q1, q2, jG.calling g mk a qK, q9⟩, va_recv hK (jp_one hat_a_93) (ci := 12) (q0 := 0) rfl rfl, fun U hU hW => ⟨rfl, hU, hX_87, hG.step hW hU hS_87, hg_a, hm_a, he_87, by refine ⟨?_, ?_, ?_, ?_, ?_, ?_⟩ <;> omega⟩⟩ rfl rfl hl.1 rfl (lv_room (Nat.le_of_ble_eq_true rfl)) dX10_isSentence_226 ⟨Nat.zero_le _, Nat.zero_le _⟩) hS_87 (fun q _ h => h) (fun q h => h) (fun r_91 u t H1 locs1 ht hvm hr_91 hBb hz1 hk1 hS_92 => ?_)
          obtain ⟨tk_92, at_92, nc_92⟩ := u
          obtain ⟨hX_92, he_92, hM_920, hz_920, hT_920⟩ := hBb
          rw [ht] at hX_92 he_92 hM_920 hz_920 hT_920
          simp only at hr_91 he_92
          have hM_92 := hM_87.tr0 hM_920 hz_87 (by intro r; simp)
          have hz_92 := hz_920.trans hz_87
          have hT_92 := hT_920.trans hT_87
          clear hz1 hk1 hvm ht hM_920 hz_920 hT_920
          obtain ⟨hr_91b, hr_91p⟩ := hr_91
          have hr_91' := jb_01 hr_91b
          refine lv_if_eq (tgt := 243) hx hb dX10_isSentence_229 (by decide) (fun c_94 => ?_) (fun c_94 => ?_)
          · skip
            have c_94' : r_91.toInt = 0 := jb_eq (rfl) ((by decide)) c_94
            refine lv_iconst (v := 0) hx hb dX10_isSentence_243 (by decide) ?_
            refine lv_istore_n (lv' := [(1, .int 0), (0, .ref a)]) hx hb dX10_isSentence_244 rfl hl (by decide) rfl (fun ls hl => ?_)
            refine lv_goto (tgt := 294) hx hb dX10_isSentence_245 (by decide) ?_
            refine lv_iload_n hx hb dX10_isSentence_294 rfl (lv_at hl 0 rfl) ?_
            refine lv_if_eq (tgt := 324) hx hb dX10_isSentence_295 (by decide) (fun c_95 => ?_) (fun c_95 => ?_)
            · skip
              refine lv_iconst (v := 0) hx hb dX10_isSentence_324 (by decide) ?_
              rw [hQ]
              exact W.zret (v := 0) hx hb hr (jb_nz (Or.inl rfl)) (fun t ht hW => ⟨⟨0, (tk_92, at_92, nc_92), rfl, ⟨(Or.inl rfl), by refine ⟨?_, ?_, ?_, ?_, ?_⟩ <;> first | rfl | omega⟩, by rw [ht]; try exact hX_92, by rw [ht]; try exact he_92, by rw [ht]; try exact hM_92, by rw [ht]; try exact hz_92, by rw [ht]; try exact hT_92⟩, by rw [ht]; try exact hS_92.1, fun q h9 hq => by rw [ht]; try exact hS_92.2.1 q h9 hq⟩) hS_92.2.2 dX10_isSentence_325
            · skip
              exact absurd c_95 (by decide)
          · skip
            have c_94' : r_91.toInt ≠ 0 := jb_eq_n (rfl) ((by decide)) c_94
            refine lv_aload_n hx hb dX10_isSentence_232 rfl (lv_at hl 0 rfl) ?_
            obtain ⟨names_98, kinds_98, values_98, word_98, told_98, toldCount_98, terms_98, nodes_98, f_kinds_98, f_values_98, f_told_98, f_nodes_98, hat_a_98, hat_kinds_98, hat_values_98, hat_told_98, hat_nodes_98, hg_kinds_98, hg_values_98, hg_told_98, hg_nodes_98, hg_names_98, hf0_98, hf1_98⟩ := id he_92
            have hlt_names_98 := hX_92.2 _ _ hg_names_98
            have hrt_names_98 : jRoot G0 names_98 := ⟨_, _, hg_names_98, by omega⟩
            refine va_calli (A0 := jA base) (H0 := s.heap) (va_runV (As := []) (rest := []) ⟨hx, hb, hml, hown, hts⟩ (tX10_isName l dC dI ca base B hB G0 X H1 a tk_92 at_92 nc_92) (cwV 0 hts gX10_isSentence_X10_isName rfl rfl rfl (by decide +kernel) ⟨by rw [← hR]; exact Nat.le_of_ble_eq_true rfl, by rw [← hR]; exact Nat.le_of_ble_eq_true rfl⟩) ⟨fun a U g mk q => by obtain ⟨q0, q1, q2, qK, q9⟩ := q; exact ⟨q0, q1, q2, jG.calling g mk a qK, q9⟩, va_recv hK (jp_one hat_a_98) (ci := 12) (q0 := 0) rfl rfl, fun U hU hW => ⟨rfl, hU, hX_92, hG.step hW hU hS_92, hg_a, hm_a, he_92, by refine ⟨?_, ?_, ?_, ?_, ?_, ?_⟩ <;> omega⟩⟩ rfl rfl hl.1 rfl (lv_room (Nat.le_of_ble_eq_true rfl)) dX10_isSentence_233 ⟨Nat.zero_le _, Nat.zero_le _⟩) hS_92 (fun q _ h => h) (fun q h => h) (fun r_96 u t H1 locs1 ht hvm hr_96 hBb hz1 hk1 hS_97 => ?_)
            obtain ⟨tk_97, at_97, nc_97⟩ := u
            obtain ⟨hX_97, he_97, hM_970, hz_970, hT_970⟩ := hBb
            rw [ht] at hX_97 he_97 hM_970 hz_970 hT_970
            simp only at hr_96 he_97
            have hM_97 := hM_92.tr0 hM_970 hz_92 (by intro r; simp)
            have hz_97 := hz_970.trans hz_92
            have hT_97 := hT_970.trans hT_92
            clear hz1 hk1 hvm ht hM_970 hz_970 hT_970
            obtain ⟨hr_96b, hr_96p⟩ := hr_96
            have hr_96' := jb_01 hr_96b
            refine lv_if_eq (tgt := 243) hx hb dX10_isSentence_236 (by decide) (fun c_99 => ?_) (fun c_99 => ?_)
            · skip
              have c_99' : r_96.toInt = 0 := jb_eq (rfl) ((by decide)) c_99
              refine lv_iconst (v := 0) hx hb dX10_isSentence_243 (by decide) ?_
              refine lv_istore_n (lv' := [(1, .int 0), (0, .ref a)]) hx hb dX10_isSentence_244 rfl hl (by decide) rfl (fun ls hl => ?_)
              refine lv_goto (tgt := 294) hx hb dX10_isSentence_245 (by decide) ?_
              refine lv_iload_n hx hb dX10_isSentence_294 rfl (lv_at hl 0 rfl) ?_
              refine lv_if_eq (tgt := 324) hx hb dX10_isSentence_295 (by decide) (fun c_100 => ?_) (fun c_100 => ?_)
              · skip
                refine lv_iconst (v := 0) hx hb dX10_isSentence_324 (by decide) ?_
                rw [hQ]
                exact W.zret (v := 0) hx hb hr (jb_nz (Or.inl rfl)) (fun t ht hW => ⟨⟨0, (tk_97, at_97, nc_97), rfl, ⟨(Or.inl rfl), by refine ⟨?_, ?_, ?_, ?_, ?_⟩ <;> first | rfl | omega⟩, by rw [ht]; try exact hX_97, by rw [ht]; try exact he_97, by rw [ht]; try exact hM_97, by rw [ht]; try exact hz_97, by rw [ht]; try exact hT_97⟩, by rw [ht]; try exact hS_97.1, fun q h9 hq => by rw [ht]; try exact hS_97.2.1 q h9 hq⟩) hS_97.2.2 dX10_isSentence_325
              · skip
                exact absurd c_100 (by decide)
            · skip
              have c_99' : r_96.toInt ≠ 0 := jb_eq_n (rfl) ((by decide)) c_99
              refine lv_iconst (v := 1) hx hb dX10_isSentence_239 (by decide) ?_
              refine lv_goto (tgt := 244) hx hb dX10_isSentence_240 (by decide) ?_
              refine lv_istore_n (lv' := [(1, .int 1), (0, .ref a)]) hx hb dX10_isSentence_244 rfl hl (by decide) rfl (fun ls hl => ?_)
              refine lv_goto (tgt := 294) hx hb dX10_isSentence_245 (by decide) ?_
              refine lv_iload_n hx hb dX10_isSentence_294 rfl (lv_at hl 0 rfl) ?_
              refine lv_if_eq (tgt := 324) hx hb dX10_isSentence_295 (by decide) (fun c_101 => ?_) (fun c_101 => ?_)
              · skip
                exact absurd c_101 (by decide)
              · skip
                refine lv_aload_n hx hb dX10_isSentence_298 rfl (lv_at hl 1 rfl) ?_
                obtain ⟨names_102, kinds_102, values_102, word_102, told_102, toldCount_102, terms_102, nodes_102, f_kinds_102, f_values_102, f_told_102, f_nodes_102, hat_a_102, hat_kinds_102, hat_values_102, hat_told_102, hat_nodes_102, hg_kinds_102, hg_values_102, hg_told_102, hg_nodes_102, hg_names_102, hf0_102, hf1_102⟩ := id he_97
                have hlt_names_102 := hX_97.2 _ _ hg_names_102
                have hrt_names_102 : jRoot G0 names_102 := ⟨_, _, hg_names_102, by omega⟩
                refine va_get (D := (dC, dI)) (ci := 12) (v := .int at_97) (C := RX10) (T := TX10) (N := 11) hx hb hts hin_12 hown hK (jp_one hat_a_102) 0 rfl rfl 4 (by decide) (hts (.fieldLink RX10 83 "ProofServer$Syntax" "at" "I") (by decide +kernel)) (fun _ h9 => h9) rfl dX10_isSentence_299 ?_
                refine lv_aload_n hx hb dX10_isSentence_302 rfl (lv_at hl 1 rfl) ?_
                refine va_get (D := (dC, dI)) (ci := 12) (v := .int tk_97) (C := RX10) (T := TX10) (N := 11) hx hb hts hin_12 hown hK (jp_one hat_a_102) 0 rfl rfl 3 (by decide) (hts (.fieldLink RX10 28 "ProofServer$Syntax" "tokens" "I") (by decide +kernel)) (fun _ h9 => h9) rfl dX10_isSentence_303 ?_
                refine lv_iconst (v := 1) hx hb dX10_isSentence_306 (by decide) ?_
                refine lv_isub hx hb dX10_isSentence_307 ?_
                refine lv_topi (fun z_103 ez_103 => ?_)
                have hz_103 : z_103.toInt = tk_97.toInt - 1 := by rw [ez_103]; exact jb_isub (rfl) ((by decide)) (by omega) (by omega)
                refine lv_icmp_ne (tgt := 324) hx hb dX10_isSentence_308 (by decide) (fun c_104 => ?_) (fun c_104 => ?_)
                · skip
                  have c_104' : at_97.toInt ≠ z_103.toInt := jb_ne (rfl) (rfl) c_104
                  refine lv_iconst (v := 0) hx hb dX10_isSentence_324 (by decide) ?_
                  rw [hQ]
                  exact W.zret (v := 0) hx hb hr (jb_nz (Or.inl rfl)) (fun t ht hW => ⟨⟨0, (tk_97, at_97, nc_97), rfl, ⟨(Or.inl rfl), by refine ⟨?_, ?_, ?_, ?_, ?_⟩ <;> first | rfl | omega⟩, by rw [ht]; try exact hX_97, by rw [ht]; try exact he_97, by rw [ht]; try exact hM_97, by rw [ht]; try exact hz_97, by rw [ht]; try exact hT_97⟩, by rw [ht]; try exact hS_97.1, fun q h9 hq => by rw [ht]; try exact hS_97.2.1 q h9 hq⟩) hS_97.2.2 dX10_isSentence_325
                · skip
                  have c_104' : at_97.toInt = z_103.toInt := jb_ne_n (rfl) (rfl) c_104
                  refine lv_aload_n hx hb dX10_isSentence_311 rfl (lv_at hl 1 rfl) ?_
                  refine va_calli (A0 := jA base) (H0 := s.heap) (va_runV (As := []) (rest := []) ⟨hx, hb, hml, hown, hts⟩ (tX10_peek l dC dI ca base B hB G0 X H1 a tk_97 at_97 nc_97) (cwV 0 hts gX10_isSentence_X10_peek rfl rfl rfl (by decide +kernel) ⟨by rw [← hR]; exact Nat.le_of_ble_eq_true rfl, by rw [← hR]; exact Nat.le_of_ble_eq_true rfl⟩) ⟨fun a U g mk q => by obtain ⟨q0, q1, q2, qK, q9⟩ := q; exact ⟨q0, q1, q2, jG.calling g mk a qK, q9⟩, va_recv hK (jp_one hat_a_102) (ci := 12) (q0 := 0) rfl rfl, fun U hU hW => ⟨rfl, hU, hX_97, hG.step hW hU hS_97, hg_a, hm_a, he_97, by refine ⟨?_, ?_, ?_, ?_, ?_, ?_⟩ <;> omega⟩⟩ rfl rfl hl.1 rfl (lv_room (Nat.le_of_ble_eq_true rfl)) dX10_isSentence_312 ⟨Nat.zero_le _, Nat.zero_le _⟩) hS_97 (fun q _ h => h) (fun q h => h) (fun r_105 u t H1 locs1 ht hvm hr_105 hBb hz1 hk1 hS_106 => ?_)
                  obtain ⟨tk_106, at_106, nc_106⟩ := u
                  obtain ⟨hX_106, he_106, hM_1060, hz_1060, hT_1060⟩ := hBb
                  rw [ht] at hX_106 he_106 hM_1060 hz_1060 hT_1060
                  simp only at hr_105 he_106
                  have hM_106 := hM_97.tr0 hM_1060 hz_97 (by intro r; simp)
                  have hz_106 := hz_1060.trans hz_97
                  have hT_106 := hT_1060.trans hT_97
                  clear hz1 hk1 hvm ht hM_1060 hz_1060 hT_1060
                  refine lv_bipush (v := 46) hx hb dX10_isSentence_315 (by decide) ?_
                  refine lv_icmp_ne (tgt := 324) hx hb dX10_isSentence_317 (by decide) (fun c_107 => ?_) (fun c_107 => ?_)
                  · skip
                    have c_107' : r_105.toInt ≠ 46 := jb_ne (rfl) ((by decide)) c_107
                    refine lv_iconst (v := 0) hx hb dX10_isSentence_324 (by decide) ?_
                    rw [hQ]
                    exact W.zret (v := 0) hx hb hr (jb_nz (Or.inl rfl)) (fun t ht hW => ⟨⟨0, (tk_106, at_106, nc_106), rfl, ⟨(Or.inl rfl), by refine ⟨?_, ?_, ?_, ?_, ?_⟩ <;> first | rfl | omega⟩, by rw [ht]; try exact hX_106, by rw [ht]; try exact he_106, by rw [ht]; try exact hM_106, by rw [ht]; try exact hz_106, by rw [ht]; try exact hT_106⟩, by rw [ht]; try exact hS_106.1, fun q h9 hq => by rw [ht]; try exact hS_106.2.1 q h9 hq⟩) hS_106.2.2 dX10_isSentence_325
                  · skip
                    have c_107' : r_105.toInt = 46 := jb_ne_n (rfl) ((by decide)) c_107
                    refine lv_iconst (v := 1) hx hb dX10_isSentence_320 (by decide) ?_
                    refine lv_goto (tgt := 325) hx hb dX10_isSentence_321 (by decide) ?_
                    rw [hQ]
                    exact W.zret (v := 1) hx hb hr (jb_nz (Or.inr rfl)) (fun t ht hW => ⟨⟨1, (tk_106, at_106, nc_106), rfl, ⟨(Or.inr rfl), by refine ⟨?_, ?_, ?_, ?_, ?_⟩ <;> first | rfl | omega⟩, by rw [ht]; try exact hX_106, by rw [ht]; try exact he_106, by rw [ht]; try exact hM_106, by rw [ht]; try exact hz_106, by rw [ht]; try exact hT_106⟩, by rw [ht]; try exact hS_106.1, fun q h9 hq => by rw [ht]; try exact hS_106.2.1 q h9 hq⟩) hS_106.2.2 dX10_isSentence_325
      have K248c_26 : W p l e R s m ([.ref a] : List Value).toArray below meth c H1 locs1 0 0 Q (F0 m 248 ls []) := by
        refine lv_aload_n hx hb dX10_isSentence_248 rfl (lv_at hl 0 rfl) ?_
        refine lv_bipush (v := 8) hx hb dX10_isSentence_249 (by decide) ?_
        refine lv_iconst (v := 0) hx hb dX10_isSentence_251 (by decide) ?_
        have he_110 : jB12e dC dI ca G0 a tk0 1 0 H1 := ⟨names_1, kinds_1, values_1, z_23, told_1, 0, 0, nodes_1, f_kinds_1, f_values_1, f_told_1, f_nodes_1, hat_a_25, hat_kinds_1_25, hat_values_1_25, hat_told_1_25, hat_nodes_1_25, hg_kinds_1, hg_values_1, hg_told_1, hg_nodes_1, hg_names_1, by first | omega | assumption | (simp; done) | exact Or.inl rfl | exact Or.inr rfl, by first | omega | assumption | (simp; done) | exact Or.inl rfl | exact Or.inr rfl⟩
        refine va_calli (A0 := jA base) (H0 := s.heap) (va_runV (As := [.int 8, .int 0]) (rest := []) ⟨hx, hb, hml, hown, hts⟩ (aX10_isTerm l dC dI ca base B hB 12 G0 X H1 a 8 0 tk0 1 0) (cwV 2 hts gX10_isSentence_X10_isTerm rfl rfl rfl (by decide +kernel) ⟨by rw [← hR]; exact Nat.le_of_ble_eq_true rfl, by rw [← hR]; exact Nat.le_of_ble_eq_true rfl⟩) ⟨fun a U g mk q => by obtain ⟨q0, q1, q2, qK, q9⟩ := q; exact ⟨q0, q1, q2, jG.calling g mk a qK, q9⟩, va_recv hK (jp_one hat_a_25) (ci := 12) (q0 := 0) rfl rfl, fun U hU hW => ⟨rfl, hU, hX_25, hG.step hW hU hS_25, hg_a, hm_a, he_110, by refine ⟨?_, ?_, ?_, ?_, ?_, ?_, ?_, ?_⟩ <;> omega⟩⟩ rfl rfl hl.1 rfl (lv_room (Nat.le_of_ble_eq_true rfl)) dX10_isSentence_252 ⟨Nat.zero_le _, Nat.zero_le _⟩) hS_25 (fun q _ h => h) (fun q h => h) (fun r_108 u t H1 locs1 ht hvm hr_108 hBb hz1 hk1 hS_109 => ?_)
        obtain ⟨tk_109, at_109, nc_109⟩ := u
        obtain ⟨hX_109, he_109, hM_1090, hz_1090, hT_1090⟩ := hBb
        rw [ht] at hX_109 he_109 hM_1090 hz_1090 hT_1090
        simp only at hr_108 he_109
        have hM_109 := hM_25.tr0 hM_1090 hz_25 (by intro r; simp)
        have hz_109 := hz_1090.trans hz_25
        have hT_109 := hT_1090.trans hT_25
        clear hz1 hk1 hvm ht hM_1090 hz_1090 hT_1090
        obtain ⟨hr_108b, hr_108p⟩ := hr_108
        have hr_108' := jb_01 hr_108b
        refine lv_istore_n (lv' := [(1, .int r_108), (0, .ref a)]) hx hb dX10_isSentence_255 rfl hl (by decide) rfl (fun ls hl => ?_)
        refine lv_goto (tgt := 294) hx hb dX10_isSentence_256 (by decide) ?_
        refine lv_iload_n hx hb dX10_isSentence_294 rfl (lv_at hl 0 rfl) ?_
        refine lv_if_eq (tgt := 324) hx hb dX10_isSentence_295 (by decide) (fun c_111 => ?_) (fun c_111 => ?_)
        · skip
          have c_111' : r_108.toInt = 0 := jb_eq (rfl) ((by decide)) c_111
          refine lv_iconst (v := 0) hx hb dX10_isSentence_324 (by decide) ?_
          rw [hQ]
          exact W.zret (v := 0) hx hb hr (jb_nz (Or.inl rfl)) (fun t ht hW => ⟨⟨0, (tk_109, at_109, nc_109), rfl, ⟨(Or.inl rfl), by refine ⟨?_, ?_, ?_, ?_, ?_⟩ <;> first | rfl | omega⟩, by rw [ht]; try exact hX_109, by rw [ht]; try exact he_109, by rw [ht]; try exact hM_109, by rw [ht]; try exact hz_109, by rw [ht]; try exact hT_109⟩, by rw [ht]; try exact hS_109.1, fun q h9 hq => by rw [ht]; try exact hS_109.2.1 q h9 hq⟩) hS_109.2.2 dX10_isSentence_325
        · skip
          have c_111' : r_108.toInt ≠ 0 := jb_eq_n (rfl) ((by decide)) c_111
          refine lv_aload_n hx hb dX10_isSentence_298 rfl (lv_at hl 1 rfl) ?_
          obtain ⟨names_112, kinds_112, values_112, word_112, told_112, toldCount_112, terms_112, nodes_112, f_kinds_112, f_values_112, f_told_112, f_nodes_112, hat_a_112, hat_kinds_112, hat_values_112, hat_told_112, hat_nodes_112, hg_kinds_112, hg_values_112, hg_told_112, hg_nodes_112, hg_names_112, hf0_112, hf1_112⟩ := id he_109
          have hlt_names_112 := hX_109.2 _ _ hg_names_112
          have hrt_names_112 : jRoot G0 names_112 := ⟨_, _, hg_names_112, by omega⟩
          refine va_get (D := (dC, dI)) (ci := 12) (v := .int at_109) (C := RX10) (T := TX10) (N := 11) hx hb hts hin_12 hown hK (jp_one hat_a_112) 0 rfl rfl 4 (by decide) (hts (.fieldLink RX10 83 "ProofServer$Syntax" "at" "I") (by decide +kernel)) (fun _ h9 => h9) rfl dX10_isSentence_299 ?_
          refine lv_aload_n hx hb dX10_isSentence_302 rfl (lv_at hl 1 rfl) ?_
          refine va_get (D := (dC, dI)) (ci := 12) (v := .int tk_109) (C := RX10) (T := TX10) (N := 11) hx hb hts hin_12 hown hK (jp_one hat_a_112) 0 rfl rfl 3 (by decide) (hts (.fieldLink RX10 28 "ProofServer$Syntax" "tokens" "I") (by decide +kernel)) (fun _ h9 => h9) rfl dX10_isSentence_303 ?_
          refine lv_iconst (v := 1) hx hb dX10_isSentence_306 (by decide) ?_
          refine lv_isub hx hb dX10_isSentence_307 ?_
          refine lv_topi (fun z_113 ez_113 => ?_)
          have hz_113 : z_113.toInt = tk_109.toInt - 1 := by rw [ez_113]; exact jb_isub (rfl) ((by decide)) (by omega) (by omega)
          refine lv_icmp_ne (tgt := 324) hx hb dX10_isSentence_308 (by decide) (fun c_114 => ?_) (fun c_114 => ?_)
          · skip
            have c_114' : at_109.toInt ≠ z_113.toInt := jb_ne (rfl) (rfl) c_114
            refine lv_iconst (v := 0) hx hb dX10_isSentence_324 (by decide) ?_
            rw [hQ]
            exact W.zret (v := 0) hx hb hr (jb_nz (Or.inl rfl)) (fun t ht hW => ⟨⟨0, (tk_109, at_109, nc_109), rfl, ⟨(Or.inl rfl), by refine ⟨?_, ?_, ?_, ?_, ?_⟩ <;> first | rfl | omega⟩, by rw [ht]; try exact hX_109, by rw [ht]; try exact he_109, by rw [ht]; try exact hM_109, by rw [ht]; try exact hz_109, by rw [ht]; try exact hT_109⟩, by rw [ht]; try exact hS_109.1, fun q h9 hq => by rw [ht]; try exact hS_109.2.1 q h9 hq⟩) hS_109.2.2 dX10_isSentence_325
          · skip
            have c_114' : at_109.toInt = z_113.toInt := jb_ne_n (rfl) (rfl) c_114
            refine lv_aload_n hx hb dX10_isSentence_311 rfl (lv_at hl 1 rfl) ?_
            refine va_calli (A0 := jA base) (H0 := s.heap) (va_runV (As := []) (rest := []) ⟨hx, hb, hml, hown, hts⟩ (tX10_peek l dC dI ca base B hB G0 X H1 a tk_109 at_109 nc_109) (cwV 0 hts gX10_isSentence_X10_peek rfl rfl rfl (by decide +kernel) ⟨by rw [← hR]; exact Nat.le_of_ble_eq_true rfl, by rw [← hR]; exact Nat.le_of_ble_eq_true rfl⟩) ⟨fun a U g mk q => by obtain ⟨q0, q1, q2, qK, q9⟩ := q; exact ⟨q0, q1, q2, jG.calling g mk a qK, q9⟩, va_recv hK (jp_one hat_a_112) (ci := 12) (q0 := 0) rfl rfl, fun U hU hW => ⟨rfl, hU, hX_109, hG.step hW hU hS_109, hg_a, hm_a, he_109, by refine ⟨?_, ?_, ?_, ?_, ?_, ?_⟩ <;> omega⟩⟩ rfl rfl hl.1 rfl (lv_room (Nat.le_of_ble_eq_true rfl)) dX10_isSentence_312 ⟨Nat.zero_le _, Nat.zero_le _⟩) hS_109 (fun q _ h => h) (fun q h => h) (fun r_115 u t H1 locs1 ht hvm hr_115 hBb hz1 hk1 hS_116 => ?_)
            obtain ⟨tk_116, at_116, nc_116⟩ := u
            obtain ⟨hX_116, he_116, hM_1160, hz_1160, hT_1160⟩ := hBb
            rw [ht] at hX_116 he_116 hM_1160 hz_1160 hT_1160
            simp only at hr_115 he_116
            have hM_116 := hM_109.tr0 hM_1160 hz_109 (by intro r; simp)
            have hz_116 := hz_1160.trans hz_109
            have hT_116 := hT_1160.trans hT_109
            clear hz1 hk1 hvm ht hM_1160 hz_1160 hT_1160
            refine lv_bipush (v := 46) hx hb dX10_isSentence_315 (by decide) ?_
            refine lv_icmp_ne (tgt := 324) hx hb dX10_isSentence_317 (by decide) (fun c_117 => ?_) (fun c_117 => ?_)
            · skip
              have c_117' : r_115.toInt ≠ 46 := jb_ne (rfl) ((by decide)) c_117
              refine lv_iconst (v := 0) hx hb dX10_isSentence_324 (by decide) ?_
              rw [hQ]
              exact W.zret (v := 0) hx hb hr (jb_nz (Or.inl rfl)) (fun t ht hW => ⟨⟨0, (tk_116, at_116, nc_116), rfl, ⟨(Or.inl rfl), by refine ⟨?_, ?_, ?_, ?_, ?_⟩ <;> first | rfl | omega⟩, by rw [ht]; try exact hX_116, by rw [ht]; try exact he_116, by rw [ht]; try exact hM_116, by rw [ht]; try exact hz_116, by rw [ht]; try exact hT_116⟩, by rw [ht]; try exact hS_116.1, fun q h9 hq => by rw [ht]; try exact hS_116.2.1 q h9 hq⟩) hS_116.2.2 dX10_isSentence_325
            · skip
              have c_117' : r_115.toInt = 46 := jb_ne_n (rfl) ((by decide)) c_117
              refine lv_iconst (v := 1) hx hb dX10_isSentence_320 (by decide) ?_
              refine lv_goto (tgt := 325) hx hb dX10_isSentence_321 (by decide) ?_
              rw [hQ]
              exact W.zret (v := 1) hx hb hr (jb_nz (Or.inr rfl)) (fun t ht hW => ⟨⟨1, (tk_116, at_116, nc_116), rfl, ⟨(Or.inr rfl), by refine ⟨?_, ?_, ?_, ?_, ?_⟩ <;> first | rfl | omega⟩, by rw [ht]; try exact hX_116, by rw [ht]; try exact he_116, by rw [ht]; try exact hM_116, by rw [ht]; try exact hz_116, by rw [ht]; try exact hT_116⟩, by rw [ht]; try exact hS_116.1, fun q h9 hq => by rw [ht]; try exact hS_116.2.1 q h9 hq⟩) hS_116.2.2 dX10_isSentence_325
      have K259c_26 : W p l e R s m ([.ref a] : List Value).toArray below meth c H1 locs1 0 0 Q (F0 m 259 ls []) := by
        refine lv_aload_n hx hb dX10_isSentence_259 rfl (lv_at hl 0 rfl) ?_
        have he_120 : jB12e dC dI ca G0 a tk0 1 0 H1 := ⟨names_1, kinds_1, values_1, z_23, told_1, 0, 0, nodes_1, f_kinds_1, f_values_1, f_told_1, f_nodes_1, hat_a_25, hat_kinds_1_25, hat_values_1_25, hat_told_1_25, hat_nodes_1_25, hg_kinds_1, hg_values_1, hg_told_1, hg_nodes_1, hg_names_1, by first | omega | assumption | (simp; done) | exact Or.inl rfl | exact Or.inr rfl, by first | omega | assumption | (simp; done) | exact Or.inl rfl | exact Or.inr rfl⟩
        refine va_calli (A0 := jA base) (H0 := s.heap) (va_runV (As := []) (rest := []) ⟨hx, hb, hml, hown, hts⟩ (tX10_isName l dC dI ca base B hB G0 X H1 a tk0 1 0) (cwV 0 hts gX10_isSentence_X10_isName rfl rfl rfl (by decide +kernel) ⟨by rw [← hR]; exact Nat.le_of_ble_eq_true rfl, by rw [← hR]; exact Nat.le_of_ble_eq_true rfl⟩) ⟨fun a U g mk q => by obtain ⟨q0, q1, q2, qK, q9⟩ := q; exact ⟨q0, q1, q2, jG.calling g mk a qK, q9⟩, va_recv hK (jp_one hat_a_25) (ci := 12) (q0 := 0) rfl rfl, fun U hU hW => ⟨rfl, hU, hX_25, hG.step hW hU hS_25, hg_a, hm_a, he_120, by refine ⟨?_, ?_, ?_, ?_, ?_, ?_⟩ <;> omega⟩⟩ rfl rfl hl.1 rfl (lv_room (Nat.le_of_ble_eq_true rfl)) dX10_isSentence_260 ⟨Nat.zero_le _, Nat.zero_le _⟩) hS_25 (fun q _ h => h) (fun q h => h) (fun r_118 u t H1 locs1 ht hvm hr_118 hBb hz1 hk1 hS_119 => ?_)
        obtain ⟨tk_119, at_119, nc_119⟩ := u
        obtain ⟨hX_119, he_119, hM_1190, hz_1190, hT_1190⟩ := hBb
        rw [ht] at hX_119 he_119 hM_1190 hz_1190 hT_1190
        simp only at hr_118 he_119
        have hM_119 := hM_25.tr0 hM_1190 hz_25 (by intro r; simp)
        have hz_119 := hz_1190.trans hz_25
        have hT_119 := hT_1190.trans hT_25
        clear hz1 hk1 hvm ht hM_1190 hz_1190 hT_1190
        obtain ⟨hr_118b, hr_118p⟩ := hr_118
        have hr_118' := jb_01 hr_118b
        refine lv_if_eq (tgt := 287) hx hb dX10_isSentence_263 (by decide) (fun c_121 => ?_) (fun c_121 => ?_)
        · skip
          have c_121' : r_118.toInt = 0 := jb_eq (rfl) ((by decide)) c_121
          refine lv_iconst (v := 0) hx hb dX10_isSentence_287 (by decide) ?_
          refine lv_istore_n (lv' := [(1, .int 0), (0, .ref a)]) hx hb dX10_isSentence_288 rfl hl (by decide) rfl (fun ls hl => ?_)
          refine lv_goto (tgt := 294) hx hb dX10_isSentence_289 (by decide) ?_
          refine lv_iload_n hx hb dX10_isSentence_294 rfl (lv_at hl 0 rfl) ?_
          refine lv_if_eq (tgt := 324) hx hb dX10_isSentence_295 (by decide) (fun c_122 => ?_) (fun c_122 => ?_)
          · skip
            refine lv_iconst (v := 0) hx hb dX10_isSentence_324 (by decide) ?_
            rw [hQ]
            exact W.zret (v := 0) hx hb hr (jb_nz (Or.inl rfl)) (fun t ht hW => ⟨⟨0, (tk_119, at_119, nc_119), rfl, ⟨(Or.inl rfl), by refine ⟨?_, ?_, ?_, ?_, ?_⟩ <;> first | rfl | omega⟩, by rw [ht]; try exact hX_119, by rw [ht]; try exact he_119, by rw [ht]; try exact hM_119, by rw [ht]; try exact hz_119, by rw [ht]; try exact hT_119⟩, by rw [ht]; try exact hS_119.1, fun q h9 hq => by rw [ht]; try exact hS_119.2.1 q h9 hq⟩) hS_119.2.2 dX10_isSentence_325
          · skip
            exact absurd c_122 (by decide)
        · skip
          have c_121' : r_118.toInt ≠ 0 := jb_eq_n (rfl) ((by decide)) c_121
          refine lv_aload_n hx hb dX10_isSentence_266 rfl (lv_at hl 0 rfl) ?_
          refine lv_bipush (v := 8) hx hb dX10_isSentence_267 (by decide) ?_
          refine lv_iconst (v := 0) hx hb dX10_isSentence_269 (by decide) ?_
          obtain ⟨names_125, kinds_125, values_125, word_125, told_125, toldCount_125, terms_125, nodes_125, f_kinds_125, f_values_125, f_told_125, f_nodes_125, hat_a_125, hat_kinds_125, hat_values_125, hat_told_125, hat_nodes_125, hg_kinds_125, hg_values_125, hg_told_125, hg_nodes_125, hg_names_125, hf0_125, hf1_125⟩ := id he_119
          have hlt_names_125 := hX_119.2 _ _ hg_names_125
          have hrt_names_125 : jRoot G0 names_125 := ⟨_, _, hg_names_125, by omega⟩
          refine va_calli (A0 := jA base) (H0 := s.heap) (va_runV (As := [.int 8, .int 0]) (rest := []) ⟨hx, hb, hml, hown, hts⟩ (aX10_isTerm l dC dI ca base B hB 12 G0 X H1 a 8 0 tk_119 at_119 nc_119) (cwV 2 hts gX10_isSentence_X10_isTerm rfl rfl rfl (by decide +kernel) ⟨by rw [← hR]; exact Nat.le_of_ble_eq_true rfl, by rw [← hR]; exact Nat.le_of_ble_eq_true rfl⟩) ⟨fun a U g mk q => by obtain ⟨q0, q1, q2, qK, q9⟩ := q; exact ⟨q0, q1, q2, jG.calling g mk a qK, q9⟩, va_recv hK (jp_one hat_a_125) (ci := 12) (q0 := 0) rfl rfl, fun U hU hW => ⟨rfl, hU, hX_119, hG.step hW hU hS_119, hg_a, hm_a, he_119, by refine ⟨?_, ?_, ?_, ?_, ?_, ?_, ?_, ?_⟩ <;> omega⟩⟩ rfl rfl hl.1 rfl (lv_room (Nat.le_of_ble_eq_true rfl)) dX10_isSentence_270 ⟨Nat.zero_le _, Nat.zero_le _⟩) hS_119 (fun q _ h => h) (fun q h => h) (fun r_123 u t H1 locs1 ht hvm hr_123 hBb hz1 hk1 hS_124 => ?_)
          obtain ⟨tk_124, at_124, nc_124⟩ := u
          obtain ⟨hX_124, he_124, hM_1240, hz_1240, hT_1240⟩ := hBb
          rw [ht] at hX_124 he_124 hM_1240 hz_1240 hT_1240
          simp only at hr_123 he_124
          have hM_124 := hM_119.tr0 hM_1240 hz_119 (by intro r; simp)
          have hz_124 := hz_1240.trans hz_119
          have hT_124 := hT_1240.trans hT_119
          clear hz1 hk1 hvm ht hM_1240 hz_1240 hT_1240
          obtain ⟨hr_123b, hr_123p⟩ := hr_123
          have hr_123' := jb_01 hr_123b
          refine lv_if_eq (tgt := 287) hx hb dX10_isSentence_273 (by decide) (fun c_126 => ?_) (fun c_126 => ?_)
          · skip
            have c_126' : r_123.toInt = 0 := jb_eq (rfl) ((by decide)) c_126
            refine lv_iconst (v := 0) hx hb dX10_isSentence_287 (by decide) ?_
            refine lv_istore_n (lv' := [(1, .int 0), (0, .ref a)]) hx hb dX10_isSentence_288 rfl hl (by decide) rfl (fun ls hl => ?_)
            refine lv_goto (tgt := 294) hx hb dX10_isSentence_289 (by decide) ?_
            refine lv_iload_n hx hb dX10_isSentence_294 rfl (lv_at hl 0 rfl) ?_
            refine lv_if_eq (tgt := 324) hx hb dX10_isSentence_295 (by decide) (fun c_127 => ?_) (fun c_127 => ?_)
            · skip
              refine lv_iconst (v := 0) hx hb dX10_isSentence_324 (by decide) ?_
              rw [hQ]
              exact W.zret (v := 0) hx hb hr (jb_nz (Or.inl rfl)) (fun t ht hW => ⟨⟨0, (tk_124, at_124, nc_124), rfl, ⟨(Or.inl rfl), by refine ⟨?_, ?_, ?_, ?_, ?_⟩ <;> first | rfl | omega⟩, by rw [ht]; try exact hX_124, by rw [ht]; try exact he_124, by rw [ht]; try exact hM_124, by rw [ht]; try exact hz_124, by rw [ht]; try exact hT_124⟩, by rw [ht]; try exact hS_124.1, fun q h9 hq => by rw [ht]; try exact hS_124.2.1 q h9 hq⟩) hS_124.2.2 dX10_isSentence_325
            · skip
              exact absurd c_127 (by decide)
          · skip
            have c_126' : r_123.toInt ≠ 0 := jb_eq_n (rfl) ((by decide)) c_126
            refine lv_aload_n hx hb dX10_isSentence_276 rfl (lv_at hl 0 rfl) ?_
            obtain ⟨names_130, kinds_130, values_130, word_130, told_130, toldCount_130, terms_130, nodes_130, f_kinds_130, f_values_130, f_told_130, f_nodes_130, hat_a_130, hat_kinds_130, hat_values_130, hat_told_130, hat_nodes_130, hg_kinds_130, hg_values_130, hg_told_130, hg_nodes_130, hg_names_130, hf0_130, hf1_130⟩ := id he_124
            have hlt_names_130 := hX_124.2 _ _ hg_names_130
            have hrt_names_130 : jRoot G0 names_130 := ⟨_, _, hg_names_130, by omega⟩
            refine va_calli (A0 := jA base) (H0 := s.heap) (va_runV (As := []) (rest := []) ⟨hx, hb, hml, hown, hts⟩ (tX10_isName l dC dI ca base B hB G0 X H1 a tk_124 at_124 nc_124) (cwV 0 hts gX10_isSentence_X10_isName rfl rfl rfl (by decide +kernel) ⟨by rw [← hR]; exact Nat.le_of_ble_eq_true rfl, by rw [← hR]; exact Nat.le_of_ble_eq_true rfl⟩) ⟨fun a U g mk q => by obtain ⟨q0, q1, q2, qK, q9⟩ := q; exact ⟨q0, q1, q2, jG.calling g mk a qK, q9⟩, va_recv hK (jp_one hat_a_130) (ci := 12) (q0 := 0) rfl rfl, fun U hU hW => ⟨rfl, hU, hX_124, hG.step hW hU hS_124, hg_a, hm_a, he_124, by refine ⟨?_, ?_, ?_, ?_, ?_, ?_⟩ <;> omega⟩⟩ rfl rfl hl.1 rfl (lv_room (Nat.le_of_ble_eq_true rfl)) dX10_isSentence_277 ⟨Nat.zero_le _, Nat.zero_le _⟩) hS_124 (fun q _ h => h) (fun q h => h) (fun r_128 u t H1 locs1 ht hvm hr_128 hBb hz1 hk1 hS_129 => ?_)
            obtain ⟨tk_129, at_129, nc_129⟩ := u
            obtain ⟨hX_129, he_129, hM_1290, hz_1290, hT_1290⟩ := hBb
            rw [ht] at hX_129 he_129 hM_1290 hz_1290 hT_1290
            simp only at hr_128 he_129
            have hM_129 := hM_124.tr0 hM_1290 hz_124 (by intro r; simp)
            have hz_129 := hz_1290.trans hz_124
            have hT_129 := hT_1290.trans hT_124
            clear hz1 hk1 hvm ht hM_1290 hz_1290 hT_1290
            obtain ⟨hr_128b, hr_128p⟩ := hr_128
            have hr_128' := jb_01 hr_128b
            refine lv_if_eq (tgt := 287) hx hb dX10_isSentence_280 (by decide) (fun c_131 => ?_) (fun c_131 => ?_)
            · skip
              have c_131' : r_128.toInt = 0 := jb_eq (rfl) ((by decide)) c_131
              refine lv_iconst (v := 0) hx hb dX10_isSentence_287 (by decide) ?_
              refine lv_istore_n (lv' := [(1, .int 0), (0, .ref a)]) hx hb dX10_isSentence_288 rfl hl (by decide) rfl (fun ls hl => ?_)
              refine lv_goto (tgt := 294) hx hb dX10_isSentence_289 (by decide) ?_
              refine lv_iload_n hx hb dX10_isSentence_294 rfl (lv_at hl 0 rfl) ?_
              refine lv_if_eq (tgt := 324) hx hb dX10_isSentence_295 (by decide) (fun c_132 => ?_) (fun c_132 => ?_)
              · skip
                refine lv_iconst (v := 0) hx hb dX10_isSentence_324 (by decide) ?_
                rw [hQ]
                exact W.zret (v := 0) hx hb hr (jb_nz (Or.inl rfl)) (fun t ht hW => ⟨⟨0, (tk_129, at_129, nc_129), rfl, ⟨(Or.inl rfl), by refine ⟨?_, ?_, ?_, ?_, ?_⟩ <;> first | rfl | omega⟩, by rw [ht]; try exact hX_129, by rw [ht]; try exact he_129, by rw [ht]; try exact hM_129, by rw [ht]; try exact hz_129, by rw [ht]; try exact hT_129⟩, by rw [ht]; try exact hS_129.1, fun q h9 hq => by rw [ht]; try exact hS_129.2.1 q h9 hq⟩) hS_129.2.2 dX10_isSentence_325
              · skip
                exact absurd c_132 (by decide)
            · skip
              have c_131' : r_128.toInt ≠ 0 := jb_eq_n (rfl) ((by decide)) c_131
              refine lv_iconst (v := 1) hx hb dX10_isSentence_283 (by decide) ?_
              refine lv_goto (tgt := 288) hx hb dX10_isSentence_284 (by decide) ?_
              refine lv_istore_n (lv' := [(1, .int 1), (0, .ref a)]) hx hb dX10_isSentence_288 rfl hl (by decide) rfl (fun ls hl => ?_)
              refine lv_goto (tgt := 294) hx hb dX10_isSentence_289 (by decide) ?_
              refine lv_iload_n hx hb dX10_isSentence_294 rfl (lv_at hl 0 rfl) ?_
              refine lv_if_eq (tgt := 324) hx hb dX10_isSentence_295 (by decide) (fun c_133 => ?_) (fun c_133 => ?_)
              · skip
                exact absurd c_133 (by decide)
              · skip
                refine lv_aload_n hx hb dX10_isSentence_298 rfl (lv_at hl 1 rfl) ?_
                obtain ⟨names_134, kinds_134, values_134, word_134, told_134, toldCount_134, terms_134, nodes_134, f_kinds_134, f_values_134, f_told_134, f_nodes_134, hat_a_134, hat_kinds_134, hat_values_134, hat_told_134, hat_nodes_134, hg_kinds_134, hg_values_134, hg_told_134, hg_nodes_134, hg_names_134, hf0_134, hf1_134⟩ := id he_129
                have hlt_names_134 := hX_129.2 _ _ hg_names_134
                have hrt_names_134 : jRoot G0 names_134 := ⟨_, _, hg_names_134, by omega⟩
                refine va_get (D := (dC, dI)) (ci := 12) (v := .int at_129) (C := RX10) (T := TX10) (N := 11) hx hb hts hin_12 hown hK (jp_one hat_a_134) 0 rfl rfl 4 (by decide) (hts (.fieldLink RX10 83 "ProofServer$Syntax" "at" "I") (by decide +kernel)) (fun _ h9 => h9) rfl dX10_isSentence_299 ?_
                refine lv_aload_n hx hb dX10_isSentence_302 rfl (lv_at hl 1 rfl) ?_
                refine va_get (D := (dC, dI)) (ci := 12) (v := .int tk_129) (C := RX10) (T := TX10) (N := 11) hx hb hts hin_12 hown hK (jp_one hat_a_134) 0 rfl rfl 3 (by decide) (hts (.fieldLink RX10 28 "ProofServer$Syntax" "tokens" "I") (by decide +kernel)) (fun _ h9 => h9) rfl dX10_isSentence_303 ?_
                refine lv_iconst (v := 1) hx hb dX10_isSentence_306 (by decide) ?_
                refine lv_isub hx hb dX10_isSentence_307 ?_
                refine lv_topi (fun z_135 ez_135 => ?_)
                have hz_135 : z_135.toInt = tk_129.toInt - 1 := by rw [ez_135]; exact jb_isub (rfl) ((by decide)) (by omega) (by omega)
                refine lv_icmp_ne (tgt := 324) hx hb dX10_isSentence_308 (by decide) (fun c_136 => ?_) (fun c_136 => ?_)
                · skip
                  have c_136' : at_129.toInt ≠ z_135.toInt := jb_ne (rfl) (rfl) c_136
                  refine lv_iconst (v := 0) hx hb dX10_isSentence_324 (by decide) ?_
                  rw [hQ]
                  exact W.zret (v := 0) hx hb hr (jb_nz (Or.inl rfl)) (fun t ht hW => ⟨⟨0, (tk_129, at_129, nc_129), rfl, ⟨(Or.inl rfl), by refine ⟨?_, ?_, ?_, ?_, ?_⟩ <;> first | rfl | omega⟩, by rw [ht]; try exact hX_129, by rw [ht]; try exact he_129, by rw [ht]; try exact hM_129, by rw [ht]; try exact hz_129, by rw [ht]; try exact hT_129⟩, by rw [ht]; try exact hS_129.1, fun q h9 hq => by rw [ht]; try exact hS_129.2.1 q h9 hq⟩) hS_129.2.2 dX10_isSentence_325
                · skip
                  have c_136' : at_129.toInt = z_135.toInt := jb_ne_n (rfl) (rfl) c_136
                  refine lv_aload_n hx hb dX10_isSentence_311 rfl (lv_at hl 1 rfl) ?_
                  refine va_calli (A0 := jA base) (H0 := s.heap) (va_runV (As := []) (rest := []) ⟨hx, hb, hml, hown, hts⟩ (tX10_peek l dC dI ca base B hB G0 X H1 a tk_129 at_129 nc_129) (cwV 0 hts gX10_isSentence_X10_peek rfl rfl rfl (by decide +kernel) ⟨by rw [← hR]; exact Nat.le_of_ble_eq_true rfl, by rw [← hR]; exact Nat.le_of_ble_eq_true rfl⟩) ⟨fun a U g mk q => by obtain ⟨q0, q1, q2, qK, q9⟩ := q; exact ⟨q0, q1, q2, jG.calling g mk a qK, q9⟩, va_recv hK (jp_one hat_a_134) (ci := 12) (q0 := 0) rfl rfl, fun U hU hW => ⟨rfl, hU, hX_129, hG.step hW hU hS_129, hg_a, hm_a, he_129, by refine ⟨?_, ?_, ?_, ?_, ?_, ?_⟩ <;> omega⟩⟩ rfl rfl hl.1 rfl (lv_room (Nat.le_of_ble_eq_true rfl)) dX10_isSentence_312 ⟨Nat.zero_le _, Nat.zero_le _⟩) hS_129 (fun q _ h => h) (fun q h => h) (fun r_137 u t H1 locs1 ht hvm hr_137 hBb hz1 hk1 hS_138 => ?_)
                  obtain ⟨tk_138, at_138, nc_138⟩ := u
                  obtain ⟨hX_138, he_138, hM_1380, hz_1380, hT_1380⟩ := hBb
                  rw [ht] at hX_138 he_138 hM_1380 hz_1380 hT_1380
                  simp only at hr_137 he_138
                  have hM_138 := hM_129.tr0 hM_1380 hz_129 (by intro r; simp)
                  have hz_138 := hz_1380.trans hz_129
                  have hT_138 := hT_1380.trans hT_129
                  clear hz1 hk1 hvm ht hM_1380 hz_1380 hT_1380
                  refine lv_bipush (v := 46) hx hb dX10_isSentence_315 (by decide) ?_
                  refine lv_icmp_ne (tgt := 324) hx hb dX10_isSentence_317 (by decide) (fun c_139 => ?_) (fun c_139 => ?_)
                  · skip
                    have c_139' : r_137.toInt ≠ 46 := jb_ne (rfl) ((by decide)) c_139
                    refine lv_iconst (v := 0) hx hb dX10_isSentence_324 (by decide) ?_
                    rw [hQ]
                    exact W.zret (v := 0) hx hb hr (jb_nz (Or.inl rfl)) (fun t ht hW => ⟨⟨0, (tk_138, at_138, nc_138), rfl, ⟨(Or.inl rfl), by refine ⟨?_, ?_, ?_, ?_, ?_⟩ <;> first | rfl | omega⟩, by rw [ht]; try exact hX_138, by rw [ht]; try exact he_138, by rw [ht]; try exact hM_138, by rw [ht]; try exact hz_138, by rw [ht]; try exact hT_138⟩, by rw [ht]; try exact hS_138.1, fun q h9 hq => by rw [ht]; try exact hS_138.2.1 q h9 hq⟩) hS_138.2.2 dX10_isSentence_325
                  · skip
                    have c_139' : r_137.toInt = 46 := jb_ne_n (rfl) ((by decide)) c_139
                    refine lv_iconst (v := 1) hx hb dX10_isSentence_320 (by decide) ?_
                    refine lv_goto (tgt := 325) hx hb dX10_isSentence_321 (by decide) ?_
                    rw [hQ]
                    exact W.zret (v := 1) hx hb hr (jb_nz (Or.inr rfl)) (fun t ht hW => ⟨⟨1, (tk_138, at_138, nc_138), rfl, ⟨(Or.inr rfl), by refine ⟨?_, ?_, ?_, ?_, ?_⟩ <;> first | rfl | omega⟩, by rw [ht]; try exact hX_138, by rw [ht]; try exact he_138, by rw [ht]; try exact hM_138, by rw [ht]; try exact hz_138, by rw [ht]; try exact hT_138⟩, by rw [ht]; try exact hS_138.1, fun q h9 hq => by rw [ht]; try exact hS_138.2.1 q h9 hq⟩) hS_138.2.2 dX10_isSentence_325
      rcases (by omega : (z_23.toInt < 3 ∨ 21 < z_23.toInt) ∨ z_23.toInt = 3 ∨ z_23.toInt = 4 ∨ z_23.toInt = 5 ∨ z_23.toInt = 6 ∨ z_23.toInt = 7 ∨ z_23.toInt = 8 ∨ z_23.toInt = 9 ∨ z_23.toInt = 10 ∨ z_23.toInt = 11 ∨ z_23.toInt = 12 ∨ z_23.toInt = 13 ∨ z_23.toInt = 14 ∨ z_23.toInt = 15 ∨ z_23.toInt = 16 ∨ z_23.toInt = 17 ∨ z_23.toInt = 18 ∨ z_23.toInt = 19 ∨ z_23.toInt = 20 ∨ z_23.toInt = 21) with c_26 | c_26 | c_26 | c_26 | c_26 | c_26 | c_26 | c_26 | c_26 | c_26 | c_26 | c_26 | c_26 | c_26 | c_26 | c_26 | c_26 | c_26 | c_26 | c_26
      · refine lv_tableOut (tgt := 292) hx hb dX10_isSentence_56 c_26 (by decide) ?_
        exact K292c_26
      · refine lv_tableIn (off := 92) (tgt := 148) hx hb dX10_isSentence_56 (by omega) (by omega) (by rw [c_26]; rfl) (by decide) ?_
        exact K148c_26
      · refine lv_tableIn (off := 92) (tgt := 148) hx hb dX10_isSentence_56 (by omega) (by omega) (by rw [c_26]; rfl) (by decide) ?_
        exact K148c_26
      · refine lv_tableIn (off := 115) (tgt := 171) hx hb dX10_isSentence_56 (by omega) (by omega) (by rw [c_26]; rfl) (by decide) ?_
        exact K171c_26
      · refine lv_tableIn (off := 115) (tgt := 171) hx hb dX10_isSentence_56 (by omega) (by omega) (by rw [c_26]; rfl) (by decide) ?_
        exact K171c_26
      · refine lv_tableIn (off := 149) (tgt := 205) hx hb dX10_isSentence_56 (by omega) (by omega) (by rw [c_26]; rfl) (by decide) ?_
        exact K205c_26
      · refine lv_tableIn (off := 149) (tgt := 205) hx hb dX10_isSentence_56 (by omega) (by omega) (by rw [c_26]; rfl) (by decide) ?_
        exact K205c_26
      · refine lv_tableIn (off := 154) (tgt := 210) hx hb dX10_isSentence_56 (by omega) (by omega) (by rw [c_26]; rfl) (by decide) ?_
        exact K210c_26
      · refine lv_tableIn (off := 154) (tgt := 210) hx hb dX10_isSentence_56 (by omega) (by omega) (by rw [c_26]; rfl) (by decide) ?_
        exact K210c_26
      · refine lv_tableIn (off := 154) (tgt := 210) hx hb dX10_isSentence_56 (by omega) (by omega) (by rw [c_26]; rfl) (by decide) ?_
        exact K210c_26
      · refine lv_tableIn (off := 149) (tgt := 205) hx hb dX10_isSentence_56 (by omega) (by omega) (by rw [c_26]; rfl) (by decide) ?_
        exact K205c_26
      · refine lv_tableIn (off := 149) (tgt := 205) hx hb dX10_isSentence_56 (by omega) (by omega) (by rw [c_26]; rfl) (by decide) ?_
        exact K205c_26
      · refine lv_tableIn (off := 149) (tgt := 205) hx hb dX10_isSentence_56 (by omega) (by omega) (by rw [c_26]; rfl) (by decide) ?_
        exact K205c_26
      · refine lv_tableIn (off := 162) (tgt := 218) hx hb dX10_isSentence_56 (by omega) (by omega) (by rw [c_26]; rfl) (by decide) ?_
        exact K218c_26
      · refine lv_tableIn (off := 154) (tgt := 210) hx hb dX10_isSentence_56 (by omega) (by omega) (by rw [c_26]; rfl) (by decide) ?_
        exact K210c_26
      · refine lv_tableIn (off := 192) (tgt := 248) hx hb dX10_isSentence_56 (by omega) (by omega) (by rw [c_26]; rfl) (by decide) ?_
        exact K248c_26
      · refine lv_tableIn (off := 203) (tgt := 259) hx hb dX10_isSentence_56 (by omega) (by omega) (by rw [c_26]; rfl) (by decide) ?_
        exact K259c_26
      · refine lv_tableIn (off := 149) (tgt := 205) hx hb dX10_isSentence_56 (by omega) (by omega) (by rw [c_26]; rfl) (by decide) ?_
        exact K205c_26
      · refine lv_tableIn (off := 154) (tgt := 210) hx hb dX10_isSentence_56 (by omega) (by omega) (by rw [c_26]; rfl) (by decide) ?_
        exact K210c_26
      · refine lv_tableIn (off := 115) (tgt := 171) hx hb dX10_isSentence_56 (by omega) (by omega) (by rw [c_26]; rfl) (by decide) ?_
        exact K171c_26
