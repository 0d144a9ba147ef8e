abbrev cX14_readNumber : ByteArray := prog_14_method_28_code
def yX14_readNumber : MethodName := ⟨RX14, "readNumber", "()I"⟩
abbrev cX14_utfLength : ByteArray := prog_14_method_35_code
def yX14_utfLength : MethodName := ⟨RX14, "utfLength", "([III)I"⟩
def wsX14_utfLength : List Cond := .code yX14_utfLength cX14_utfLength 8 (some .int) :: ([.fieldLink RX14 357 "ProofServerModel" "utfChar" "I", .constant RX14 197 (65536), .constant RX14 179 (55296), .constant RX14 186 (57343), .constant RX14 360 (1114111), .methodLink RX14 181 yX14_in, .static yX14_in, .initialized RX14, .code yX14_in cX14_in 3 (some .boolean)] ++ wsX140)
def wsX14_readNumber_r1 : List Cond := [Cond.fieldLink RX14 273 "ProofServerModel" "at" "I", Cond.constantLong RX14 320 (99999999999), Cond.constantLong RX14 322 (10), Cond.constantLong RX14 324 (48), Cond.fieldLink RX14 20 "ProofServerModel" "kept" "[I", Cond.fieldLink RX14 288 "ProofServerModel" "bad" "Z", Cond.fieldLink RX14 58 "ProofServerModel" "isInt" "[Z", Cond.constantLong RX14 329 (-2147483648), Cond.constantLong RX14 331 (2147483647), Cond.fieldLink RX14 62 "ProofServerModel" "ints" "[I", Cond.methodLink RX14 295 yX14_node, Cond.instanceMethod yX14_node, Cond.selects RX14 yX14_node yX14_node, Cond.initialized RX14, Cond.code yX14_node cX14_node 2 (some .int), Cond.fieldLink RX14 37 "ProofServerModel" "sort" "[I", Cond.fieldLink RX14 282 "ProofServerModel" "nodes" "I", Cond.fieldLink RX14 40 "ProofServerModel" "heir" "[I", Cond.fieldLink RX14 43 "ProofServerModel" "next" "[I", Cond.methodLink RX14 279 yX14_here, Cond.instanceMethod yX14_here, Cond.selects RX14 yX14_here yX14_here, Cond.code yX14_here cX14_here 1 (some .int), Cond.fieldLink RX14 276 "ProofServerModel" "end" "I"]
def wsX14_readNumber_r2 : List Cond := [Cond.methodLink RX14 224 yX14_isDigit, Cond.static yX14_isDigit, Cond.code yX14_isDigit cX14_isDigit 1 (some .boolean), Cond.methodLink RX14 181 yX14_in, Cond.static yX14_in, Cond.code yX14_in cX14_in 3 (some .boolean), Cond.methodLink RX14 326 yX14_digits, Cond.instanceMethod yX14_digits, Cond.selects RX14 yX14_digits yX14_digits, Cond.code yX14_digits cX14_digits 1 none]
def wsX14_readNumber : List Cond := .code yX14_readNumber cX14_readNumber 9 (some .int) :: ((wsX14_readNumber_r1 ++ wsX14_readNumber_r2) ++ wsX140)
set_option maxRecDepth 20000 in
theorem ggX14_readNumber_X14_node : GoodIn wsX14_readNumber wsX14_node := goodIn_r _ [15, 16, 17, 18, 19, 7, 35, 36, 37, 38, 39, 40, 41, 42, 43, 44, 45, 46, 47, 48, 49, 50, 51, 52, 53, 54, 55, 56, 57, 58, 59, 60, 61, 62, 63, 64, 65, 66, 67, 68, 69, 70, 71, 72, 73, 74, 75, 76, 77, 78, 79, 80, 81, 82, 83, 84, 85, 86, 87, 88, 89, 90, 91, 92, 93, 94, 95, 96, 97, 98, 99, 100, 101, 102, 103, 104, 105, 106, 107, 108] (by decide +kernel) (by decide +kernel)
set_option maxRecDepth 20000 in
theorem gX14_readNumber_X14_node : GoodIn wsX14_readNumber (wsV RX14 295 RX14 yX14_node wsX14_node) := goodIn_app (goodIn_of _ (by decide +kernel)) ggX14_readNumber_X14_node
set_option maxRecDepth 20000 in
theorem ggX14_readNumber_X14_here : GoodIn wsX14_readNumber wsX14_here := goodIn_r _ [23, 1, 24, 5, 35, 36, 37, 38, 39, 40, 41, 42, 43, 44, 45, 46, 47, 48, 49, 50, 51, 52, 53, 54, 55, 56, 57, 58, 59, 60, 61, 62, 63, 64, 65, 66, 67, 68, 69, 70, 71, 72, 73, 74, 75, 76, 77, 78, 79, 80, 81, 82, 83, 84, 85, 86, 87, 88, 89, 90, 91, 92, 93, 94, 95, 96, 97, 98, 99, 100, 101, 102, 103, 104, 105, 106, 107, 108] (by decide +kernel) (by decide +kernel)
set_option maxRecDepth 20000 in
theorem gX14_readNumber_X14_here : GoodIn wsX14_readNumber (wsV RX14 279 RX14 yX14_here wsX14_here) := goodIn_app (goodIn_of _ (by decide +kernel)) ggX14_readNumber_X14_here
set_option maxRecDepth 20000 in
theorem ggX14_readNumber_X14_isDigit : GoodIn wsX14_readNumber wsX14_isDigit := goodIn_r _ [27, 28, 29, 14, 30] (by decide +kernel) (by decide +kernel)
set_option maxRecDepth 20000 in
theorem gX14_readNumber_X14_isDigit : GoodIn wsX14_readNumber (va_wsS RX14 224 yX14_isDigit wsX14_isDigit) := goodIn_app (goodIn_of _ (by decide +kernel)) ggX14_readNumber_X14_isDigit
set_option maxRecDepth 20000 in
theorem ggX14_readNumber_X14_digits : GoodIn wsX14_readNumber wsX14_digits := goodIn_r _ [34, 6, 1, 20, 21, 22, 14, 23, 24, 5, 25, 26, 27, 28, 29, 30, 35, 36, 37, 38, 39, 40, 41, 42, 43, 44, 45, 46, 47, 48, 49, 50, 51, 52, 53, 54, 55, 56, 57, 58, 59, 60, 61, 62, 63, 64, 65, 66, 67, 68, 69, 70, 71, 72, 73, 74, 75, 76, 77, 78, 79, 80, 81, 82, 83, 84, 85, 86, 87, 88, 89, 90, 91, 92, 93, 94, 95, 96, 97, 98, 99, 100, 101, 102, 103, 104, 105, 106, 107, 108] (by decide +kernel) (by decide +kernel)
set_option maxRecDepth 20000 in
theorem gX14_readNumber_X14_digits : GoodIn wsX14_readNumber (wsV RX14 326 RX14 yX14_digits wsX14_digits) := goodIn_app (goodIn_of _ (by decide +kernel)) ggX14_readNumber_X14_digits
theorem dX14_readNumber_0 : decode cX14_readNumber 0 = .ok (.aload_n 0, 1) := by decide +kernel
theorem dX14_readNumber_1 : decode cX14_readNumber 1 = .ok (.iconst 3, 1) := by decide +kernel
theorem dX14_readNumber_2 : decode cX14_readNumber 2 = .ok (.invokevirtual 295, 3) := by decide +kernel
theorem dX14_readNumber_5 : decode cX14_readNumber 5 = .ok (.istore_n 1, 1) := by decide +kernel
theorem dX14_readNumber_6 : decode cX14_readNumber 6 = .ok (.aload_n 0, 1) := by decide +kernel
theorem dX14_readNumber_7 : decode cX14_readNumber 7 = .ok (.invokevirtual 279, 3) := by decide +kernel
theorem dX14_readNumber_10 : decode cX14_readNumber 10 = .ok (.bipush 45, 2) := by decide +kernel
theorem dX14_readNumber_12 : decode cX14_readNumber 12 = .ok (.if_icmp .ne 7, 3) := by decide +kernel
theorem dX14_readNumber_15 : decode cX14_readNumber 15 = .ok (.iconst 1, 1) := by decide +kernel
theorem dX14_readNumber_16 : decode cX14_readNumber 16 = .ok (.goto 4, 3) := by decide +kernel
theorem dX14_readNumber_19 : decode cX14_readNumber 19 = .ok (.iconst 0, 1) := by decide +kernel
theorem dX14_readNumber_20 : decode cX14_readNumber 20 = .ok (.istore_n 2, 1) := by decide +kernel
theorem dX14_readNumber_21 : decode cX14_readNumber 21 = .ok (.iload_n 2, 1) := by decide +kernel
theorem dX14_readNumber_22 : decode cX14_readNumber 22 = .ok (.ifCond .eq 13, 3) := by decide +kernel
theorem dX14_readNumber_25 : decode cX14_readNumber 25 = .ok (.aload_n 0, 1) := by decide +kernel
theorem dX14_readNumber_26 : decode cX14_readNumber 26 = .ok (.dup, 1) := by decide +kernel
theorem dX14_readNumber_27 : decode cX14_readNumber 27 = .ok (.getfield 273, 3) := by decide +kernel
theorem dX14_readNumber_30 : decode cX14_readNumber 30 = .ok (.iconst 1, 1) := by decide +kernel
theorem dX14_readNumber_31 : decode cX14_readNumber 31 = .ok (.iadd, 1) := by decide +kernel
theorem dX14_readNumber_32 : decode cX14_readNumber 32 = .ok (.putfield 273, 3) := by decide +kernel
theorem dX14_readNumber_35 : decode cX14_readNumber 35 = .ok (.aload_n 0, 1) := by decide +kernel
theorem dX14_readNumber_36 : decode cX14_readNumber 36 = .ok (.getfield 273, 3) := by decide +kernel
theorem dX14_readNumber_39 : decode cX14_readNumber 39 = .ok (.istore_n 3, 1) := by decide +kernel
theorem dX14_readNumber_40 : decode cX14_readNumber 40 = .ok (.lconst 0, 1) := by decide +kernel
theorem dX14_readNumber_41 : decode cX14_readNumber 41 = .ok (.lstore 4, 2) := by decide +kernel
theorem dX14_readNumber_43 : decode cX14_readNumber 43 = .ok (.aload_n 0, 1) := by decide +kernel
theorem dX14_readNumber_44 : decode cX14_readNumber 44 = .ok (.invokevirtual 279, 3) := by decide +kernel
theorem dX14_readNumber_47 : decode cX14_readNumber 47 = .ok (.invokestatic 224, 3) := by decide +kernel
theorem dX14_readNumber_50 : decode cX14_readNumber 50 = .ok (.ifCond .eq 48, 3) := by decide +kernel
theorem dX14_readNumber_53 : decode cX14_readNumber 53 = .ok (.lload 4, 2) := by decide +kernel
theorem dX14_readNumber_55 : decode cX14_readNumber 55 = .ok (.ldc2_w 320, 3) := by decide +kernel
theorem dX14_readNumber_58 : decode cX14_readNumber 58 = .ok (.lcmp, 1) := by decide +kernel
theorem dX14_readNumber_59 : decode cX14_readNumber 59 = .ok (.ifCond .le 8, 3) := by decide +kernel
theorem dX14_readNumber_62 : decode cX14_readNumber 62 = .ok (.lload 4, 2) := by decide +kernel
theorem dX14_readNumber_64 : decode cX14_readNumber 64 = .ok (.goto 19, 3) := by decide +kernel
theorem dX14_readNumber_67 : decode cX14_readNumber 67 = .ok (.ldc2_w 322, 3) := by decide +kernel
theorem dX14_readNumber_70 : decode cX14_readNumber 70 = .ok (.lload 4, 2) := by decide +kernel
theorem dX14_readNumber_72 : decode cX14_readNumber 72 = .ok (.lmul, 1) := by decide +kernel
theorem dX14_readNumber_73 : decode cX14_readNumber 73 = .ok (.aload_n 0, 1) := by decide +kernel
theorem dX14_readNumber_74 : decode cX14_readNumber 74 = .ok (.invokevirtual 279, 3) := by decide +kernel
theorem dX14_readNumber_77 : decode cX14_readNumber 77 = .ok (.i2l, 1) := by decide +kernel
theorem dX14_readNumber_78 : decode cX14_readNumber 78 = .ok (.ladd, 1) := by decide +kernel
theorem dX14_readNumber_79 : decode cX14_readNumber 79 = .ok (.ldc2_w 324, 3) := by decide +kernel
theorem dX14_readNumber_82 : decode cX14_readNumber 82 = .ok (.lsub, 1) := by decide +kernel
theorem dX14_readNumber_83 : decode cX14_readNumber 83 = .ok (.lstore 4, 2) := by decide +kernel
theorem dX14_readNumber_85 : decode cX14_readNumber 85 = .ok (.aload_n 0, 1) := by decide +kernel
theorem dX14_readNumber_86 : decode cX14_readNumber 86 = .ok (.dup, 1) := by decide +kernel
theorem dX14_readNumber_87 : decode cX14_readNumber 87 = .ok (.getfield 273, 3) := by decide +kernel
theorem dX14_readNumber_90 : decode cX14_readNumber 90 = .ok (.iconst 1, 1) := by decide +kernel
theorem dX14_readNumber_91 : decode cX14_readNumber 91 = .ok (.iadd, 1) := by decide +kernel
theorem dX14_readNumber_92 : decode cX14_readNumber 92 = .ok (.putfield 273, 3) := by decide +kernel
theorem dX14_readNumber_95 : decode cX14_readNumber 95 = .ok (.goto (-52), 3) := by decide +kernel
theorem dX14_readNumber_98 : decode cX14_readNumber 98 = .ok (.aload_n 0, 1) := by decide +kernel
theorem dX14_readNumber_99 : decode cX14_readNumber 99 = .ok (.getfield 273, 3) := by decide +kernel
theorem dX14_readNumber_102 : decode cX14_readNumber 102 = .ok (.iload_n 3, 1) := by decide +kernel
theorem dX14_readNumber_103 : decode cX14_readNumber 103 = .ok (.if_icmp .eq 24, 3) := by decide +kernel
theorem dX14_readNumber_106 : decode cX14_readNumber 106 = .ok (.aload_n 0, 1) := by decide +kernel
theorem dX14_readNumber_107 : decode cX14_readNumber 107 = .ok (.getfield 20, 3) := by decide +kernel
theorem dX14_readNumber_110 : decode cX14_readNumber 110 = .ok (.iload_n 3, 1) := by decide +kernel
theorem dX14_readNumber_111 : decode cX14_readNumber 111 = .ok (.iaload, 1) := by decide +kernel
theorem dX14_readNumber_112 : decode cX14_readNumber 112 = .ok (.bipush 48, 2) := by decide +kernel
theorem dX14_readNumber_114 : decode cX14_readNumber 114 = .ok (.if_icmp .ne 18, 3) := by decide +kernel
theorem dX14_readNumber_117 : decode cX14_readNumber 117 = .ok (.aload_n 0, 1) := by decide +kernel
theorem dX14_readNumber_118 : decode cX14_readNumber 118 = .ok (.getfield 273, 3) := by decide +kernel
theorem dX14_readNumber_121 : decode cX14_readNumber 121 = .ok (.iload_n 3, 1) := by decide +kernel
theorem dX14_readNumber_122 : decode cX14_readNumber 122 = .ok (.isub, 1) := by decide +kernel
theorem dX14_readNumber_123 : decode cX14_readNumber 123 = .ok (.iconst 1, 1) := by decide +kernel
theorem dX14_readNumber_124 : decode cX14_readNumber 124 = .ok (.if_icmp .le 8, 3) := by decide +kernel
theorem dX14_readNumber_127 : decode cX14_readNumber 127 = .ok (.aload_n 0, 1) := by decide +kernel
theorem dX14_readNumber_128 : decode cX14_readNumber 128 = .ok (.iconst 1, 1) := by decide +kernel
theorem dX14_readNumber_129 : decode cX14_readNumber 129 = .ok (.putfield 288, 3) := by decide +kernel
theorem dX14_readNumber_132 : decode cX14_readNumber 132 = .ok (.iconst 1, 1) := by decide +kernel
theorem dX14_readNumber_133 : decode cX14_readNumber 133 = .ok (.istore 6, 2) := by decide +kernel
theorem dX14_readNumber_135 : decode cX14_readNumber 135 = .ok (.aload_n 0, 1) := by decide +kernel
theorem dX14_readNumber_136 : decode cX14_readNumber 136 = .ok (.getfield 288, 3) := by decide +kernel
theorem dX14_readNumber_139 : decode cX14_readNumber 139 = .ok (.ifCond .ne 29, 3) := by decide +kernel
theorem dX14_readNumber_142 : decode cX14_readNumber 142 = .ok (.aload_n 0, 1) := by decide +kernel
theorem dX14_readNumber_143 : decode cX14_readNumber 143 = .ok (.invokevirtual 279, 3) := by decide +kernel
theorem dX14_readNumber_146 : decode cX14_readNumber 146 = .ok (.bipush 46, 2) := by decide +kernel
theorem dX14_readNumber_148 : decode cX14_readNumber 148 = .ok (.if_icmp .ne 20, 3) := by decide +kernel
theorem dX14_readNumber_151 : decode cX14_readNumber 151 = .ok (.iconst 0, 1) := by decide +kernel
theorem dX14_readNumber_152 : decode cX14_readNumber 152 = .ok (.istore 6, 2) := by decide +kernel
theorem dX14_readNumber_154 : decode cX14_readNumber 154 = .ok (.aload_n 0, 1) := by decide +kernel
theorem dX14_readNumber_155 : decode cX14_readNumber 155 = .ok (.dup, 1) := by decide +kernel
theorem dX14_readNumber_156 : decode cX14_readNumber 156 = .ok (.getfield 273, 3) := by decide +kernel
theorem dX14_readNumber_159 : decode cX14_readNumber 159 = .ok (.iconst 1, 1) := by decide +kernel
theorem dX14_readNumber_160 : decode cX14_readNumber 160 = .ok (.iadd, 1) := by decide +kernel
theorem dX14_readNumber_161 : decode cX14_readNumber 161 = .ok (.putfield 273, 3) := by decide +kernel
theorem dX14_readNumber_164 : decode cX14_readNumber 164 = .ok (.aload_n 0, 1) := by decide +kernel
theorem dX14_readNumber_165 : decode cX14_readNumber 165 = .ok (.invokevirtual 326, 3) := by decide +kernel
theorem dX14_readNumber_168 : decode cX14_readNumber 168 = .ok (.aload_n 0, 1) := by decide +kernel
theorem dX14_readNumber_169 : decode cX14_readNumber 169 = .ok (.getfield 288, 3) := by decide +kernel
theorem dX14_readNumber_172 : decode cX14_readNumber 172 = .ok (.ifCond .ne 66, 3) := by decide +kernel
theorem dX14_readNumber_175 : decode cX14_readNumber 175 = .ok (.aload_n 0, 1) := by decide +kernel
theorem dX14_readNumber_176 : decode cX14_readNumber 176 = .ok (.invokevirtual 279, 3) := by decide +kernel
theorem dX14_readNumber_179 : decode cX14_readNumber 179 = .ok (.bipush 101, 2) := by decide +kernel
theorem dX14_readNumber_181 : decode cX14_readNumber 181 = .ok (.if_icmp .eq 12, 3) := by decide +kernel
theorem dX14_readNumber_184 : decode cX14_readNumber 184 = .ok (.aload_n 0, 1) := by decide +kernel
theorem dX14_readNumber_185 : decode cX14_readNumber 185 = .ok (.invokevirtual 279, 3) := by decide +kernel
theorem dX14_readNumber_188 : decode cX14_readNumber 188 = .ok (.bipush 69, 2) := by decide +kernel
theorem dX14_readNumber_190 : decode cX14_readNumber 190 = .ok (.if_icmp .ne 48, 3) := by decide +kernel
theorem dX14_readNumber_193 : decode cX14_readNumber 193 = .ok (.iconst 0, 1) := by decide +kernel
theorem dX14_readNumber_194 : decode cX14_readNumber 194 = .ok (.istore 6, 2) := by decide +kernel
theorem dX14_readNumber_196 : decode cX14_readNumber 196 = .ok (.aload_n 0, 1) := by decide +kernel
theorem dX14_readNumber_197 : decode cX14_readNumber 197 = .ok (.dup, 1) := by decide +kernel
theorem dX14_readNumber_198 : decode cX14_readNumber 198 = .ok (.getfield 273, 3) := by decide +kernel
theorem dX14_readNumber_201 : decode cX14_readNumber 201 = .ok (.iconst 1, 1) := by decide +kernel
theorem dX14_readNumber_202 : decode cX14_readNumber 202 = .ok (.iadd, 1) := by decide +kernel
theorem dX14_readNumber_203 : decode cX14_readNumber 203 = .ok (.putfield 273, 3) := by decide +kernel
theorem dX14_readNumber_206 : decode cX14_readNumber 206 = .ok (.aload_n 0, 1) := by decide +kernel
theorem dX14_readNumber_207 : decode cX14_readNumber 207 = .ok (.invokevirtual 279, 3) := by decide +kernel
theorem dX14_readNumber_210 : decode cX14_readNumber 210 = .ok (.bipush 43, 2) := by decide +kernel
theorem dX14_readNumber_212 : decode cX14_readNumber 212 = .ok (.if_icmp .eq 12, 3) := by decide +kernel
theorem dX14_readNumber_215 : decode cX14_readNumber 215 = .ok (.aload_n 0, 1) := by decide +kernel
theorem dX14_readNumber_216 : decode cX14_readNumber 216 = .ok (.invokevirtual 279, 3) := by decide +kernel
theorem dX14_readNumber_219 : decode cX14_readNumber 219 = .ok (.bipush 45, 2) := by decide +kernel
theorem dX14_readNumber_221 : decode cX14_readNumber 221 = .ok (.if_icmp .ne 13, 3) := by decide +kernel
theorem dX14_readNumber_224 : decode cX14_readNumber 224 = .ok (.aload_n 0, 1) := by decide +kernel
theorem dX14_readNumber_225 : decode cX14_readNumber 225 = .ok (.dup, 1) := by decide +kernel
theorem dX14_readNumber_226 : decode cX14_readNumber 226 = .ok (.getfield 273, 3) := by decide +kernel
theorem dX14_readNumber_229 : decode cX14_readNumber 229 = .ok (.iconst 1, 1) := by decide +kernel
theorem dX14_readNumber_230 : decode cX14_readNumber 230 = .ok (.iadd, 1) := by decide +kernel
theorem dX14_readNumber_231 : decode cX14_readNumber 231 = .ok (.putfield 273, 3) := by decide +kernel
theorem dX14_readNumber_234 : decode cX14_readNumber 234 = .ok (.aload_n 0, 1) := by decide +kernel
theorem dX14_readNumber_235 : decode cX14_readNumber 235 = .ok (.invokevirtual 326, 3) := by decide +kernel
theorem dX14_readNumber_238 : decode cX14_readNumber 238 = .ok (.iload_n 2, 1) := by decide +kernel
theorem dX14_readNumber_239 : decode cX14_readNumber 239 = .ok (.ifCond .eq 9, 3) := by decide +kernel
theorem dX14_readNumber_242 : decode cX14_readNumber 242 = .ok (.lload 4, 2) := by decide +kernel
theorem dX14_readNumber_244 : decode cX14_readNumber 244 = .ok (.lneg, 1) := by decide +kernel
theorem dX14_readNumber_245 : decode cX14_readNumber 245 = .ok (.goto 5, 3) := by decide +kernel
theorem dX14_readNumber_248 : decode cX14_readNumber 248 = .ok (.lload 4, 2) := by decide +kernel
theorem dX14_readNumber_250 : decode cX14_readNumber 250 = .ok (.lstore 7, 2) := by decide +kernel
theorem dX14_readNumber_252 : decode cX14_readNumber 252 = .ok (.aload_n 0, 1) := by decide +kernel
theorem dX14_readNumber_253 : decode cX14_readNumber 253 = .ok (.getfield 58, 3) := by decide +kernel
theorem dX14_readNumber_256 : decode cX14_readNumber 256 = .ok (.iload_n 1, 1) := by decide +kernel
theorem dX14_readNumber_257 : decode cX14_readNumber 257 = .ok (.iload 6, 2) := by decide +kernel
theorem dX14_readNumber_259 : decode cX14_readNumber 259 = .ok (.ifCond .eq 25, 3) := by decide +kernel
theorem dX14_readNumber_262 : decode cX14_readNumber 262 = .ok (.lload 7, 2) := by decide +kernel
theorem dX14_readNumber_264 : decode cX14_readNumber 264 = .ok (.ldc2_w 329, 3) := by decide +kernel
theorem dX14_readNumber_267 : decode cX14_readNumber 267 = .ok (.lcmp, 1) := by decide +kernel
theorem dX14_readNumber_268 : decode cX14_readNumber 268 = .ok (.ifCond .lt 16, 3) := by decide +kernel
theorem dX14_readNumber_271 : decode cX14_readNumber 271 = .ok (.lload 7, 2) := by decide +kernel
theorem dX14_readNumber_273 : decode cX14_readNumber 273 = .ok (.ldc2_w 331, 3) := by decide +kernel
theorem dX14_readNumber_276 : decode cX14_readNumber 276 = .ok (.lcmp, 1) := by decide +kernel
theorem dX14_readNumber_277 : decode cX14_readNumber 277 = .ok (.ifCond .gt 7, 3) := by decide +kernel
theorem dX14_readNumber_280 : decode cX14_readNumber 280 = .ok (.iconst 1, 1) := by decide +kernel
theorem dX14_readNumber_281 : decode cX14_readNumber 281 = .ok (.goto 4, 3) := by decide +kernel
theorem dX14_readNumber_284 : decode cX14_readNumber 284 = .ok (.iconst 0, 1) := by decide +kernel
theorem dX14_readNumber_285 : decode cX14_readNumber 285 = .ok (.bastore, 1) := by decide +kernel
theorem dX14_readNumber_286 : decode cX14_readNumber 286 = .ok (.aload_n 0, 1) := by decide +kernel
theorem dX14_readNumber_287 : decode cX14_readNumber 287 = .ok (.getfield 62, 3) := by decide +kernel
theorem dX14_readNumber_290 : decode cX14_readNumber 290 = .ok (.iload_n 1, 1) := by decide +kernel
theorem dX14_readNumber_291 : decode cX14_readNumber 291 = .ok (.lload 7, 2) := by decide +kernel
theorem dX14_readNumber_293 : decode cX14_readNumber 293 = .ok (.l2i, 1) := by decide +kernel
theorem dX14_readNumber_294 : decode cX14_readNumber 294 = .ok (.iastore, 1) := by decide +kernel
theorem dX14_readNumber_295 : decode cX14_readNumber 295 = .ok (.iload_n 1, 1) := by decide +kernel
theorem dX14_readNumber_296 : decode cX14_readNumber 296 = .ok (.ireturn, 1) := by decide +kernel
set_option maxRecDepth 20000 in
theorem ggX14_utfLength_X14_in : GoodIn wsX14_utfLength wsX14_in := goodIn_r _ [9] (by decide +kernel) (by decide +kernel)
set_option maxRecDepth 20000 in
theorem gX14_utfLength_X14_in : GoodIn wsX14_utfLength (va_wsS RX14 181 yX14_in wsX14_in) := goodIn_app (goodIn_of _ (by decide +kernel)) ggX14_utfLength_X14_in
theorem dX14_utfLength_0 : decode cX14_utfLength 0 = .ok (.aload_n 1, 1) := by decide +kernel
theorem dX14_utfLength_1 : decode cX14_utfLength 1 = .ok (.iload_n 2, 1) := by decide +kernel
theorem dX14_utfLength_2 : decode cX14_utfLength 2 = .ok (.iaload, 1) := by decide +kernel
theorem dX14_utfLength_3 : decode cX14_utfLength 3 = .ok (.istore 4, 2) := by decide +kernel
theorem dX14_utfLength_5 : decode cX14_utfLength 5 = .ok (.aload_n 0, 1) := by decide +kernel
theorem dX14_utfLength_6 : decode cX14_utfLength 6 = .ok (.iload 4, 2) := by decide +kernel
theorem dX14_utfLength_8 : decode cX14_utfLength 8 = .ok (.putfield 357, 3) := by decide +kernel
theorem dX14_utfLength_11 : decode cX14_utfLength 11 = .ok (.iload 4, 2) := by decide +kernel
theorem dX14_utfLength_13 : decode cX14_utfLength 13 = .ok (.sipush 128, 3) := by decide +kernel
theorem dX14_utfLength_16 : decode cX14_utfLength 16 = .ok (.if_icmp .ge 5, 3) := by decide +kernel
theorem dX14_utfLength_19 : decode cX14_utfLength 19 = .ok (.iconst 1, 1) := by decide +kernel
theorem dX14_utfLength_20 : decode cX14_utfLength 20 = .ok (.ireturn, 1) := by decide +kernel
theorem dX14_utfLength_21 : decode cX14_utfLength 21 = .ok (.iload 4, 2) := by decide +kernel
theorem dX14_utfLength_23 : decode cX14_utfLength 23 = .ok (.sipush 194, 3) := by decide +kernel
theorem dX14_utfLength_26 : decode cX14_utfLength 26 = .ok (.sipush 223, 3) := by decide +kernel
theorem dX14_utfLength_29 : decode cX14_utfLength 29 = .ok (.invokestatic 181, 3) := by decide +kernel
theorem dX14_utfLength_32 : decode cX14_utfLength 32 = .ok (.ifCond .eq 7, 3) := by decide +kernel
theorem dX14_utfLength_35 : decode cX14_utfLength 35 = .ok (.iconst 2, 1) := by decide +kernel
theorem dX14_utfLength_36 : decode cX14_utfLength 36 = .ok (.goto 40, 3) := by decide +kernel
theorem dX14_utfLength_39 : decode cX14_utfLength 39 = .ok (.iload 4, 2) := by decide +kernel
theorem dX14_utfLength_41 : decode cX14_utfLength 41 = .ok (.sipush 224, 3) := by decide +kernel
theorem dX14_utfLength_44 : decode cX14_utfLength 44 = .ok (.sipush 239, 3) := by decide +kernel
theorem dX14_utfLength_47 : decode cX14_utfLength 47 = .ok (.invokestatic 181, 3) := by decide +kernel
theorem dX14_utfLength_50 : decode cX14_utfLength 50 = .ok (.ifCond .eq 7, 3) := by decide +kernel
theorem dX14_utfLength_53 : decode cX14_utfLength 53 = .ok (.iconst 3, 1) := by decide +kernel
theorem dX14_utfLength_54 : decode cX14_utfLength 54 = .ok (.goto 22, 3) := by decide +kernel
theorem dX14_utfLength_57 : decode cX14_utfLength 57 = .ok (.iload 4, 2) := by decide +kernel
theorem dX14_utfLength_59 : decode cX14_utfLength 59 = .ok (.sipush 240, 3) := by decide +kernel
theorem dX14_utfLength_62 : decode cX14_utfLength 62 = .ok (.sipush 244, 3) := by decide +kernel
theorem dX14_utfLength_65 : decode cX14_utfLength 65 = .ok (.invokestatic 181, 3) := by decide +kernel
theorem dX14_utfLength_68 : decode cX14_utfLength 68 = .ok (.ifCond .eq 7, 3) := by decide +kernel
theorem dX14_utfLength_71 : decode cX14_utfLength 71 = .ok (.iconst 4, 1) := by decide +kernel
theorem dX14_utfLength_72 : decode cX14_utfLength 72 = .ok (.goto 4, 3) := by decide +kernel
theorem dX14_utfLength_75 : decode cX14_utfLength 75 = .ok (.iconst 0, 1) := by decide +kernel
theorem dX14_utfLength_76 : decode cX14_utfLength 76 = .ok (.istore 5, 2) := by decide +kernel
theorem dX14_utfLength_78 : decode cX14_utfLength 78 = .ok (.iload 5, 2) := by decide +kernel
theorem dX14_utfLength_80 : decode cX14_utfLength 80 = .ok (.ifCond .eq 11, 3) := by decide +kernel
theorem dX14_utfLength_83 : decode cX14_utfLength 83 = .ok (.iload_n 2, 1) := by decide +kernel
theorem dX14_utfLength_84 : decode cX14_utfLength 84 = .ok (.iload 5, 2) := by decide +kernel
theorem dX14_utfLength_86 : decode cX14_utfLength 86 = .ok (.iadd, 1) := by decide +kernel
theorem dX14_utfLength_87 : decode cX14_utfLength 87 = .ok (.iload_n 3, 1) := by decide +kernel
theorem dX14_utfLength_88 : decode cX14_utfLength 88 = .ok (.if_icmp .le 5, 3) := by decide +kernel
theorem dX14_utfLength_91 : decode cX14_utfLength 91 = .ok (.iconst 0, 1) := by decide +kernel
theorem dX14_utfLength_92 : decode cX14_utfLength 92 = .ok (.ireturn, 1) := by decide +kernel
theorem dX14_utfLength_93 : decode cX14_utfLength 93 = .ok (.iload 5, 2) := by decide +kernel
theorem dX14_utfLength_95 : decode cX14_utfLength 95 = .ok (.iconst 2, 1) := by decide +kernel
theorem dX14_utfLength_96 : decode cX14_utfLength 96 = .ok (.if_icmp .ne 11, 3) := by decide +kernel
theorem dX14_utfLength_99 : decode cX14_utfLength 99 = .ok (.iload 4, 2) := by decide +kernel
theorem dX14_utfLength_101 : decode cX14_utfLength 101 = .ok (.bipush 31, 2) := by decide +kernel
theorem dX14_utfLength_103 : decode cX14_utfLength 103 = .ok (.iand, 1) := by decide +kernel
theorem dX14_utfLength_104 : decode cX14_utfLength 104 = .ok (.goto 22, 3) := by decide +kernel
theorem dX14_utfLength_107 : decode cX14_utfLength 107 = .ok (.iload 5, 2) := by decide +kernel
theorem dX14_utfLength_109 : decode cX14_utfLength 109 = .ok (.iconst 3, 1) := by decide +kernel
theorem dX14_utfLength_110 : decode cX14_utfLength 110 = .ok (.if_icmp .ne 11, 3) := by decide +kernel
theorem dX14_utfLength_113 : decode cX14_utfLength 113 = .ok (.iload 4, 2) := by decide +kernel
theorem dX14_utfLength_115 : decode cX14_utfLength 115 = .ok (.bipush 15, 2) := by decide +kernel
theorem dX14_utfLength_117 : decode cX14_utfLength 117 = .ok (.iand, 1) := by decide +kernel
theorem dX14_utfLength_118 : decode cX14_utfLength 118 = .ok (.goto 8, 3) := by decide +kernel
theorem dX14_utfLength_121 : decode cX14_utfLength 121 = .ok (.iload 4, 2) := by decide +kernel
theorem dX14_utfLength_123 : decode cX14_utfLength 123 = .ok (.bipush 7, 2) := by decide +kernel
theorem dX14_utfLength_125 : decode cX14_utfLength 125 = .ok (.iand, 1) := by decide +kernel
theorem dX14_utfLength_126 : decode cX14_utfLength 126 = .ok (.istore 6, 2) := by decide +kernel
theorem dX14_utfLength_128 : decode cX14_utfLength 128 = .ok (.iconst 1, 1) := by decide +kernel
theorem dX14_utfLength_129 : decode cX14_utfLength 129 = .ok (.istore 7, 2) := by decide +kernel
theorem dX14_utfLength_131 : decode cX14_utfLength 131 = .ok (.iload 7, 2) := by decide +kernel
theorem dX14_utfLength_133 : decode cX14_utfLength 133 = .ok (.iload 5, 2) := by decide +kernel
theorem dX14_utfLength_135 : decode cX14_utfLength 135 = .ok (.if_icmp .ge 46, 3) := by decide +kernel
theorem dX14_utfLength_138 : decode cX14_utfLength 138 = .ok (.aload_n 1, 1) := by decide +kernel
theorem dX14_utfLength_139 : decode cX14_utfLength 139 = .ok (.iload_n 2, 1) := by decide +kernel
theorem dX14_utfLength_140 : decode cX14_utfLength 140 = .ok (.iload 7, 2) := by decide +kernel
theorem dX14_utfLength_142 : decode cX14_utfLength 142 = .ok (.iadd, 1) := by decide +kernel
theorem dX14_utfLength_143 : decode cX14_utfLength 143 = .ok (.iaload, 1) := by decide +kernel
theorem dX14_utfLength_144 : decode cX14_utfLength 144 = .ok (.sipush 128, 3) := by decide +kernel
theorem dX14_utfLength_147 : decode cX14_utfLength 147 = .ok (.sipush 191, 3) := by decide +kernel
theorem dX14_utfLength_150 : decode cX14_utfLength 150 = .ok (.invokestatic 181, 3) := by decide +kernel
theorem dX14_utfLength_153 : decode cX14_utfLength 153 = .ok (.ifCond .ne 5, 3) := by decide +kernel
theorem dX14_utfLength_156 : decode cX14_utfLength 156 = .ok (.iconst 0, 1) := by decide +kernel
theorem dX14_utfLength_157 : decode cX14_utfLength 157 = .ok (.ireturn, 1) := by decide +kernel
theorem dX14_utfLength_158 : decode cX14_utfLength 158 = .ok (.iload 6, 2) := by decide +kernel
theorem dX14_utfLength_160 : decode cX14_utfLength 160 = .ok (.bipush 6, 2) := by decide +kernel
theorem dX14_utfLength_162 : decode cX14_utfLength 162 = .ok (.ishl, 1) := by decide +kernel
theorem dX14_utfLength_163 : decode cX14_utfLength 163 = .ok (.aload_n 1, 1) := by decide +kernel
theorem dX14_utfLength_164 : decode cX14_utfLength 164 = .ok (.iload_n 2, 1) := by decide +kernel
theorem dX14_utfLength_165 : decode cX14_utfLength 165 = .ok (.iload 7, 2) := by decide +kernel
theorem dX14_utfLength_167 : decode cX14_utfLength 167 = .ok (.iadd, 1) := by decide +kernel
theorem dX14_utfLength_168 : decode cX14_utfLength 168 = .ok (.iaload, 1) := by decide +kernel
theorem dX14_utfLength_169 : decode cX14_utfLength 169 = .ok (.bipush 63, 2) := by decide +kernel
theorem dX14_utfLength_171 : decode cX14_utfLength 171 = .ok (.iand, 1) := by decide +kernel
theorem dX14_utfLength_172 : decode cX14_utfLength 172 = .ok (.ior, 1) := by decide +kernel
theorem dX14_utfLength_173 : decode cX14_utfLength 173 = .ok (.istore 6, 2) := by decide +kernel
theorem dX14_utfLength_175 : decode cX14_utfLength 175 = .ok (.iinc 7 1, 3) := by decide +kernel
theorem dX14_utfLength_178 : decode cX14_utfLength 178 = .ok (.goto (-47), 3) := by decide +kernel
theorem dX14_utfLength_181 : decode cX14_utfLength 181 = .ok (.iload 5, 2) := by decide +kernel
theorem dX14_utfLength_183 : decode cX14_utfLength 183 = .ok (.iconst 3, 1) := by decide +kernel
theorem dX14_utfLength_184 : decode cX14_utfLength 184 = .ok (.if_icmp .ne 11, 3) := by decide +kernel
theorem dX14_utfLength_187 : decode cX14_utfLength 187 = .ok (.iload 6, 2) := by decide +kernel
theorem dX14_utfLength_189 : decode cX14_utfLength 189 = .ok (.sipush 2048, 3) := by decide +kernel
theorem dX14_utfLength_192 : decode cX14_utfLength 192 = .ok (.if_icmp .lt 36, 3) := by decide +kernel
theorem dX14_utfLength_195 : decode cX14_utfLength 195 = .ok (.iload 5, 2) := by decide +kernel
theorem dX14_utfLength_197 : decode cX14_utfLength 197 = .ok (.iconst 4, 1) := by decide +kernel
theorem dX14_utfLength_198 : decode cX14_utfLength 198 = .ok (.if_icmp .ne 10, 3) := by decide +kernel
theorem dX14_utfLength_201 : decode cX14_utfLength 201 = .ok (.iload 6, 2) := by decide +kernel
theorem dX14_utfLength_203 : decode cX14_utfLength 203 = .ok (.ldc 197, 2) := by decide +kernel
theorem dX14_utfLength_205 : decode cX14_utfLength 205 = .ok (.if_icmp .lt 23, 3) := by decide +kernel
theorem dX14_utfLength_208 : decode cX14_utfLength 208 = .ok (.iload 6, 2) := by decide +kernel
theorem dX14_utfLength_210 : decode cX14_utfLength 210 = .ok (.ldc 179, 2) := by decide +kernel
theorem dX14_utfLength_212 : decode cX14_utfLength 212 = .ok (.ldc 186, 2) := by decide +kernel
theorem dX14_utfLength_214 : decode cX14_utfLength 214 = .ok (.invokestatic 181, 3) := by decide +kernel
theorem dX14_utfLength_217 : decode cX14_utfLength 217 = .ok (.ifCond .ne 11, 3) := by decide +kernel
theorem dX14_utfLength_220 : decode cX14_utfLength 220 = .ok (.iload 6, 2) := by decide +kernel
theorem dX14_utfLength_222 : decode cX14_utfLength 222 = .ok (.ldc_w 360, 3) := by decide +kernel
theorem dX14_utfLength_225 : decode cX14_utfLength 225 = .ok (.if_icmp .le 5, 3) := by decide +kernel
theorem dX14_utfLength_228 : decode cX14_utfLength 228 = .ok (.iconst 0, 1) := by decide +kernel
theorem dX14_utfLength_229 : decode cX14_utfLength 229 = .ok (.ireturn, 1) := by decide +kernel
theorem dX14_utfLength_230 : decode cX14_utfLength 230 = .ok (.aload_n 0, 1) := by decide +kernel
theorem dX14_utfLength_231 : decode cX14_utfLength 231 = .ok (.iload 6, 2) := by decide +kernel
theorem dX14_utfLength_233 : decode cX14_utfLength 233 = .ok (.putfield 357, 3) := by decide +kernel
theorem dX14_utfLength_236 : decode cX14_utfLength 236 = .ok (.iload 5, 2) := by decide +kernel
theorem dX14_utfLength_238 : decode cX14_utfLength 238 = .ok (.ireturn, 1) := by decide +kernel
def EX14_utfLength : List (Nat × Nat) := [(16, 33)]
def EX14_readNumber : List (Nat × Nat) := [(16, 26), (16, 29), (16, 31), (117, 0), (118, 0), (119, 0), (124, 0), (125, 0)]
set_option maxHeartbeats 4000000 in
set_option maxRecDepth 20000 in
theorem uX14_utfLength (l : Launch) (dC : Nat → ClassId) (dI : Nat → Nat → Nat) (ca : Nat → ClassId) (base : Nat) (B : jF) (hB : jBok B) (hAp : jAp (dC, dI)) (hB16 : ∀ n G a H, B 16 n G a H ↔ jOb (dC, dI) 16 74 (F16 n G) a H) (hB110 : ∀ n G a H, B 110 n G a H ↔ jAr (dC, dI) (ca 1) (fun j z => 0 ≤ z.toInt ∧ z.toInt ≤ 255) n a H) (G0 : jT) (H0 : Heap) (r0 : Nat) (r1 : Nat) (a2 : Int32) (a3 : Int32) (n1 : Nat) : Met l yX14_utfLength wsX14_utfLength ({ frames := 1, cells := 0, slots := 0, locals := 22 }) (va_Pc [.ref r0, .ref r1, .int a2, .int a3] (fun U => U.heap = H0 ∧ jX B base G0 [] H0 ∧ jG dC dI ca base U ∧ G0 r1 = some (110, n1) ∧ G0 r0 = some (16, 0) ∧ jP (dC, dI) G0 H0 [] ∧ 0 ≤ a2.toInt ∧ a2.toInt < a3.toInt ∧ a3.toInt ≤ n1 ∧ n1 ≤ 4000)) (va_Qi (S := Int32) (fun r u => r.toInt = 0 ∨ (1 ≤ r.toInt ∧ r.toInt ≤ 4 ∧ a2.toInt + r.toInt ≤ a3.toInt ∧ (u.toInt ≤ 65535 ∨ 2 ≤ r.toInt))) (fun u t => jRt (dC, dI) B base G0 EX14_utfLength H0 [(r0, 16, 33, .int u)] t.heap) (jA base)) 0 0 (jA base) := by
  refine Met.ofW (cc := cX14_utfLength) (maxL := 8) (ret := (some .int)) (by decide) rfl ?_
  intro p e s m args below meth c s₁ Bd hml hv
  obtain ⟨rfl, hH0, hX, hG, hg_r1, hg_r0, hP0, hp0, hp1, hp2, hp3⟩ := hv
  have hK := hG.1
  have hx := Bd.exec
  have hb := Bd.bytes
  have hr := Bd.returns
  have hts := atoms_spec (ws := wsX14_utfLength) Bd.pre
  have hown : s.vm.findClass RX14 = some m.cls := findClass_of_methodNamed Bd.named
  have hlocks := Bd.notSynchronized
  obtain ⟨Q, hQ⟩ : ∃ Q, Q = MQ below (va_Qi (S := Int32) (fun r u => r.toInt = 0 ∨ (1 ≤ r.toInt ∧ r.toInt ≤ 4 ∧ a2.toInt + r.toInt ≤ a3.toInt ∧ (u.toInt ≤ 65535 ∨ 2 ≤ r.toInt))) (fun u t => jRt (dC, dI) B base G0 EX14_utfLength H0 [(r0, 16, 33, .int u)] t.heap) (jA base)) ([.ref r0, .ref r1, .int a2, .int a3] : List Value).toArray s 0 0 (jA base) := ⟨_, rfl⟩
  rw [← hQ]
  have hl := lv_entry ([.ref r0, .ref r1, .int a2, .int a3]) (n := 8) (Nat.le_of_ble_eq_true rfl)
  rw [lg_entry_eq]
  generalize (lg_sl ([.ref r0, .ref r1, .int a2, .int a3]) ++ List.replicate (8 - (lg_sl ([.ref r0, .ref r1, .int a2, .int a3])).length) Slot.unset).toArray = ls at hl ⊢
  have hl : lv_has ls 8 [(0, .ref r0), (1, .ref r1), (2, .int a2), (3, .int a3)] := hl
  generalize hR : (headSpec wsX14_utfLength ({ frames := 1, cells := 0, slots := 0, locals := 22 })).room = R
  subst hH0
  have hh : jSt (dC, dI) B base G0 G0 EX14_utfLength s.heap 0 0 [] [] s.heap [] := jSt.start hX hP0 jMc.nil
  clear hX hP0
  have hk0 : (0 : Int32).toInt = 0 := by decide
  have hk1 : (1 : Int32).toInt = 1 := by decide
  have hk2 : (2 : Int32).toInt = 2 := by decide
  have hk3 : (3 : Int32).toInt = 3 := by decide
  have hk4 : (4 : Int32).toInt = 4 := by decide
  have hk6 : (6 : Int32).toInt = 6 := by decide
  have hk7 : (7 : Int32).toInt = 7 := by decide
  have hk15 : (15 : Int32).toInt = 15 := by decide
  have hk31 : (31 : Int32).toInt = 31 := by decide
  have hk63 : (63 : Int32).toInt = 63 := by decide
  have hk128 : (128 : Int32).toInt = 128 := by decide
  have hk191 : (191 : Int32).toInt = 191 := by decide
  have hk194 : (194 : Int32).toInt = 194 := by decide
  have hk223 : (223 : Int32).toInt = 223 := by decide
  have hk224 : (224 : Int32).toInt = 224 := by decide
  have hk239 : (239 : Int32).toInt = 239 := by decide
  have hk240 : (240 : Int32).toInt = 240 := by decide
  have hk244 : (244 : Int32).toInt = 244 := by decide
  have hk2048 : (2048 : Int32).toInt = 2048 := by decide
  have hk55296 : (55296 : Int32).toInt = 55296 := by decide
  have hk57343 : (57343 : Int32).toInt = 57343 := by decide
  have hk65536 : (65536 : Int32).toInt = 65536 := by decide
  have hk1114111 : (1114111 : Int32).toInt = 1114111 := by decide
  have hly_16_33 := hts (u_lay RX14 TX14 33) (by decide +kernel)
  refine lv_aload_n hx hb dX14_utfLength_0 rfl (lv_at hl 1 rfl) ?_
  refine lv_iload_n hx hb dX14_utfLength_1 rfl (lv_at hl 2 rfl) ?_
  refine j7_iald hx hb hK hh hB110 1 rfl (by omega) hg_r1 (rfl) (by omega) (by omega) dX14_utfLength_2 (fun z_1 (hz_1 : 0 ≤ z_1.toInt ∧ z_1.toInt ≤ 255) => ?_)
  refine lv_istore (lv' := [(4, .int z_1), (0, .ref r0), (1, .ref r1), (2, .int a2), (3, .int a3)]) hx hb dX14_utfLength_3 hl (by decide) rfl (fun ls hl => ?_)
  refine lv_aload_n hx hb dX14_utfLength_5 rfl (lv_at hl 1 rfl) ?_
  refine lv_iload hx hb dX14_utfLength_6 (lv_at hl 0 rfl) ?_
  refine j7_put hx hb hown hK hh hB hAp hB16 (C := RX14) (T := TX14) (N := 74) rfl (by omega) hg_r0 (i := 33) (by decide) hly_16_33 rfl (hts (.fieldLink RX14 357 "ProofServerModel" "utfChar" "I") (by decide +kernel)) rfl (ty := .int) (v := .int z_1) (by decide +kernel) rfl rfl (⟨_, rfl⟩) rfl (L1 := []) [] rfl rfl dX14_utfLength_8 (fun H_2 locs_2 hh_2 => ?_)
  clear hh
  refine lv_iload hx hb dX14_utfLength_11 (lv_at hl 0 rfl) ?_
  refine lv_sipush (v := 128) hx hb dX14_utfLength_13 (by decide) ?_
  refine lv_icmp_ge (tgt := 21) hx hb dX14_utfLength_16 (by decide) (fun c_3 => ?_) (fun c_3 => ?_)
  · skip
    have c_3' : z_1.toInt ≥ 128 := jb_ge (rfl) ((by decide)) c_3
    refine lv_iload hx hb dX14_utfLength_21 (lv_at hl 0 rfl) ?_
    refine lv_sipush (v := 194) hx hb dX14_utfLength_23 (by decide) ?_
    refine lv_sipush (v := 223) hx hb dX14_utfLength_26 (by decide) ?_
    refine va_calli (A0 := jA base) (H0 := s.heap) (va_runS (As := [.int z_1, .int 194, .int 223]) (rest := []) ⟨hx, hb, hml, hown, hts⟩ (uX14_in l dC dI ca base B hB hAp G0 H_2 z_1 194 223) (va_cwS 3 hts gX14_utfLength_X14_in rfl rfl rfl (by decide +kernel) ⟨by rw [← hR]; exact Nat.le_of_ble_eq_true rfl, by rw [← hR]; exact Nat.le_of_ble_eq_true rfl⟩) ⟨fun a U g mk q => by obtain ⟨q0, q1, q2, qK, q10, q11⟩ := q; exact ⟨q0, q1, q2, jG.calling g mk a qK, q10, q11⟩, fun U hU hW => ⟨rfl, hU, hh_2.2.1, hG.step hW hU hh_2.1, jP.nil, trivial⟩⟩ rfl rfl hl.1 rfl (lv_room (Nat.le_of_ble_eq_true rfl)) dX14_utfLength_29 ⟨Nat.zero_le _, Nat.zero_le _⟩) hh_2.1 (fun q _ h => h) (fun q h => h) (fun r_5 u_4 t_4 H_4 locs_4 ht_4 hvm_4 hr_5 hb_4 hz_4 hk_4 hS_4 => ?_)
    rw [ht_4] at hb_4
    obtain ⟨hb_41, hb_42, hb_43, hb_44, hb_45⟩ := hb_4
    have hh_4 : jSt (dC, dI) B base G0 G0 EX14_utfLength s.heap 0 0 [(r0, 16, 33, .int z_1)] [] H_4 locs_4 := (hh_2.call hb_41 hb_42 hb_43 hb_44 hS_4 rfl (L1 := [(r0, 16, 33, .int z_1)]) [0] rfl rfl (M1 := []) [] rfl rfl).more hb_45
    clear hh_2 ht_4 hvm_4 hz_4 hk_4 hS_4 hb_41 hb_42 hb_43 hb_44 hb_45
    obtain ⟨hr_5b, hr_5p⟩ := hr_5
    have hr_5' := jb_01 hr_5b
    have C76 : ∀ (w0_6 : Int32) (H_6 : Heap) (locs_6 : List Loc), jSt (dC, dI) B base G0 G0 EX14_utfLength s.heap 0 0 [(r0, 16, 33, .int z_1)] [] H_6 locs_6 → (0 ≤ w0_6.toInt ∧ w0_6.toInt ≤ 4 ∧ w0_6.toInt ≠ 1) → ∀ ls : Array Slot, lv_has ls 8 [(0, .ref r0), (1, .ref r1), (2, .int a2), (3, .int a3), (4, .int z_1)] → W p l e R s m ([.ref r0, .ref r1, .int a2, .int a3] : List Value).toArray below meth c H_6 locs_6 0 0 Q (F0 m 76 ls [.int w0_6]) := by
      intro w0_6 H_6 locs_6 hh_6  hi_6 ls hl
      obtain ⟨hi_6_0, hi_6_1, hi_6_2⟩ := hi_6
      refine lv_istore (lv' := [(5, .int w0_6), (0, .ref r0), (1, .ref r1), (2, .int a2), (3, .int a3), (4, .int z_1)]) hx hb dX14_utfLength_76 hl (by decide) rfl (fun ls hl => ?_)
      refine lv_iload hx hb dX14_utfLength_78 (lv_at hl 0 rfl) ?_
      refine lv_if_eq (tgt := 91) hx hb dX14_utfLength_80 (by decide) (fun c_7 => ?_) (fun c_7 => ?_)
      · skip
        have c_7' : w0_6.toInt = 0 := jb_eq (rfl) ((by decide)) c_7
        refine lv_iconst (v := 0) hx hb dX14_utfLength_91 (by decide) ?_
        rw [hQ]
        exact W.iret (v := 0) hx hb hr (fun t ht hW => ⟨⟨0, z_1, rfl, by first | omega | rfl | assumption | decide | exact Or.inl rfl | exact Or.inr rfl | (simp only; omega), hh_6.rt (M1 := [(r0, 16, 33, .int z_1)]) [0] rfl ht⟩, by rw [ht]; exact hh_6.1.1, fun q h9 hq => by rw [ht]; exact hh_6.1.2.1 q h9 hq⟩) hh_6.1.2.2 dX14_utfLength_92
      · skip
        have c_7' : w0_6.toInt ≠ 0 := jb_eq_n (rfl) ((by decide)) c_7
        refine lv_iload_n hx hb dX14_utfLength_83 rfl (lv_at hl 3 rfl) ?_
        refine lv_iload hx hb dX14_utfLength_84 (lv_at hl 0 rfl) ?_
        refine lv_iadd hx hb dX14_utfLength_86 ?_
        refine lv_topi (fun z_8 ez_8 => ?_)
        have hz_8 : z_8.toInt = a2.toInt + w0_6.toInt := by rw [ez_8]; exact jb_iadd (rfl) (rfl) (by omega) (by omega)
        refine lv_iload_n hx hb dX14_utfLength_87 rfl (lv_at hl 4 rfl) ?_
        refine lv_icmp_le (tgt := 93) hx hb dX14_utfLength_88 (by decide) (fun c_9 => ?_) (fun c_9 => ?_)
        · skip
          have c_9' : z_8.toInt ≤ a3.toInt := jb_le (rfl) (rfl) c_9
          refine lv_iload hx hb dX14_utfLength_93 (lv_at hl 0 rfl) ?_
          refine lv_iconst (v := 2) hx hb dX14_utfLength_95 (by decide) ?_
          have C126 : ∀ (w0_10 : Int32) (H_10 : Heap) (locs_10 : List Loc), jSt (dC, dI) B base G0 G0 EX14_utfLength s.heap 0 0 [(r0, 16, 33, .int z_1)] [] H_10 locs_10 → (True) → ∀ ls : Array Slot, lv_has ls 8 [(0, .ref r0), (1, .ref r1), (2, .int a2), (3, .int a3), (4, .int z_1), (5, .int w0_6)] → W p l e R s m ([.ref r0, .ref r1, .int a2, .int a3] : List Value).toArray below meth c H_10 locs_10 0 0 Q (F0 m 126 ls [.int w0_10]) := by
            intro w0_10 H_10 locs_10 hh_10  hi_10 ls hl
            refine lv_istore (lv' := [(6, .int w0_10), (0, .ref r0), (1, .ref r1), (2, .int a2), (3, .int a3), (4, .int z_1), (5, .int w0_6)]) hx hb dX14_utfLength_126 hl (by decide) rfl (fun ls hl => ?_)
            refine lv_iconst (v := 1) hx hb dX14_utfLength_128 (by decide) ?_
            refine lv_istore (lv' := [(7, .int 1), (6, .int w0_10), (0, .ref r0), (1, .ref r1), (2, .int a2), (3, .int a3), (4, .int z_1), (5, .int w0_6)]) hx hb dX14_utfLength_129 hl (by decide) rfl (fun ls hl => ?_)
            have L131 : ∀ (N : Nat) (v6_11 : Int32) (v7_11 : Int32) (H_11 : Heap) (locs_11 : List Loc), jSt (dC, dI) B base G0 G0 EX14_utfLength s.heap 0 0 [(r0, 16, 33, .int z_1)] [] H_11 locs_11 → (1 ≤ v7_11.toInt ∧ v7_11.toInt ≤ w0_6.toInt) → (w0_6.toInt - v7_11.toInt : Int) < N → ∀ ls : Array Slot, lv_has ls 8 [(0, .ref r0), (1, .ref r1), (2, .int a2), (3, .int a3), (4, .int z_1), (5, .int w0_6), (6, .int v6_11), (7, .int v7_11)] → W p l e R s m ([.ref r0, .ref r1, .int a2, .int a3] : List Value).toArray below meth c H_11 locs_11 0 0 Q (F0 m 131 ls []) := by
              intro N
              induction N with
              | zero => intro v6_11 v7_11 H_11 locs_11 hh_11  hi_11 hm; exact absurd hm (by omega)
              | succ N L131 =>
                intro v6_11 v7_11 H_11 locs_11 hh_11  hi_11 hm_11 ls hl
                obtain ⟨hi_11_0, hi_11_1⟩ := hi_11
                refine lv_iload hx hb dX14_utfLength_131 (lv_at hl 7 rfl) ?_
                refine lv_iload hx hb dX14_utfLength_133 (lv_at hl 5 rfl) ?_
                refine lv_icmp_ge (tgt := 181) hx hb dX14_utfLength_135 (by decide) (fun c_12 => ?_) (fun c_12 => ?_)
                · skip
                  have c_12' : v7_11.toInt ≥ w0_6.toInt := jb_ge (rfl) (rfl) c_12
                  refine lv_iload hx hb dX14_utfLength_181 (lv_at hl 5 rfl) ?_
                  refine lv_iconst (v := 3) hx hb dX14_utfLength_183 (by decide) ?_
                  refine lv_icmp_ne (tgt := 195) hx hb dX14_utfLength_184 (by decide) (fun c_13 => ?_) (fun c_13 => ?_)
                  · skip
                    have c_13' : w0_6.toInt ≠ 3 := jb_ne (rfl) ((by decide)) c_13
                    refine lv_iload hx hb dX14_utfLength_195 (lv_at hl 5 rfl) ?_
                    refine lv_iconst (v := 4) hx hb dX14_utfLength_197 (by decide) ?_
                    refine lv_icmp_ne (tgt := 208) hx hb dX14_utfLength_198 (by decide) (fun c_14 => ?_) (fun c_14 => ?_)
                    · skip
                      have c_14' : w0_6.toInt ≠ 4 := jb_ne (rfl) ((by decide)) c_14
                      refine lv_iload hx hb dX14_utfLength_208 (lv_at hl 6 rfl) ?_
                      refine lv_ldc hx hb hown (hts (.constant RX14 179 55296) (by decide +kernel)) dX14_utfLength_210 ?_
                      refine lv_ldc hx hb hown (hts (.constant RX14 186 57343) (by decide +kernel)) dX14_utfLength_212 ?_
                      refine va_calli (A0 := jA base) (H0 := s.heap) (va_runS (As := [.int v6_11, .int 55296, .int 57343]) (rest := []) ⟨hx, hb, hml, hown, hts⟩ (uX14_in l dC dI ca base B hB hAp G0 H_11 v6_11 55296 57343) (va_cwS 3 hts gX14_utfLength_X14_in rfl rfl rfl (by decide +kernel) ⟨by rw [← hR]; exact Nat.le_of_ble_eq_true rfl, by rw [← hR]; exact Nat.le_of_ble_eq_true rfl⟩) ⟨fun a U g mk q => by obtain ⟨q0, q1, q2, qK, q10, q11⟩ := q; exact ⟨q0, q1, q2, jG.calling g mk a qK, q10, q11⟩, fun U hU hW => ⟨rfl, hU, hh_11.2.1, hG.step hW hU hh_11.1, jP.nil, trivial⟩⟩ rfl rfl hl.1 rfl (lv_room (Nat.le_of_ble_eq_true rfl)) dX14_utfLength_214 ⟨Nat.zero_le _, Nat.zero_le _⟩) hh_11.1 (fun q _ h => h) (fun q h => h) (fun r_16 u_15 t_15 H_15 locs_15 ht_15 hvm_15 hr_16 hb_15 hz_15 hk_15 hS_15 => ?_)
                      rw [ht_15] at hb_15
                      obtain ⟨hb_151, hb_152, hb_153, hb_154, hb_155⟩ := hb_15
                      have hh_15 : jSt (dC, dI) B base G0 G0 EX14_utfLength s.heap 0 0 [(r0, 16, 33, .int z_1)] [] H_15 locs_15 := (hh_11.call hb_151 hb_152 hb_153 hb_154 hS_15 rfl (L1 := [(r0, 16, 33, .int z_1)]) [0] rfl rfl (M1 := []) [] rfl rfl).more hb_155
                      clear hh_11 ht_15 hvm_15 hz_15 hk_15 hS_15 hb_151 hb_152 hb_153 hb_154 hb_155
                      obtain ⟨hr_16b, hr_16p⟩ := hr_16
                      have hr_16' := jb_01 hr_16b
                      refine lv_if_ne (tgt := 228) hx hb dX14_utfLength_217 (by decide) (fun c_17 => ?_) (fun c_17 => ?_)
                      · skip
                        have c_17' : r_16.toInt ≠ 0 := jb_ne (rfl) ((by decide)) c_17
                        refine lv_iconst (v := 0) hx hb dX14_utfLength_228 (by decide) ?_
                        rw [hQ]
                        exact W.iret (v := 0) hx hb hr (fun t ht hW => ⟨⟨0, z_1, rfl, by first | omega | rfl | assumption | decide | exact Or.inl rfl | exact Or.inr rfl | (simp only; omega), hh_15.rt (M1 := [(r0, 16, 33, .int z_1)]) [0] rfl ht⟩, by rw [ht]; exact hh_15.1.1, fun q h9 hq => by rw [ht]; exact hh_15.1.2.1 q h9 hq⟩) hh_15.1.2.2 dX14_utfLength_229
                      · skip
                        have c_17' : r_16.toInt = 0 := jb_ne_n (rfl) ((by decide)) c_17
                        refine lv_iload hx hb dX14_utfLength_220 (lv_at hl 6 rfl) ?_
                        refine lv_ldcw hx hb hown (hts (.constant RX14 360 1114111) (by decide +kernel)) dX14_utfLength_222 ?_
                        refine lv_icmp_le (tgt := 230) hx hb dX14_utfLength_225 (by decide) (fun c_18 => ?_) (fun c_18 => ?_)
                        · skip
                          have c_18' : v6_11.toInt ≤ 1114111 := jb_le (rfl) ((by decide)) c_18
                          refine lv_aload_n hx hb dX14_utfLength_230 rfl (lv_at hl 0 rfl) ?_
                          refine lv_iload hx hb dX14_utfLength_231 (lv_at hl 6 rfl) ?_
                          refine j7_put hx hb hown hK hh_15 hB hAp hB16 (C := RX14) (T := TX14) (N := 74) rfl (by omega) hg_r0 (i := 33) (by decide) hly_16_33 rfl (hts (.fieldLink RX14 357 "ProofServerModel" "utfChar" "I") (by decide +kernel)) rfl (ty := .int) (v := .int v6_11) (by decide +kernel) rfl rfl (⟨_, rfl⟩) rfl (L1 := []) [] rfl rfl dX14_utfLength_233 (fun H_19 locs_19 hh_19 => ?_)
                          clear hh_15
                          refine lv_iload hx hb dX14_utfLength_236 (lv_at hl 5 rfl) ?_
                          rw [hQ]
                          exact W.iret (v := w0_6) hx hb hr (fun t ht hW => ⟨⟨w0_6, v6_11, rfl, by first | omega | rfl | assumption | decide | exact Or.inl rfl | exact Or.inr rfl | (simp only; omega), hh_19.rt (M1 := [(r0, 16, 33, .int v6_11)]) [0] rfl ht⟩, by rw [ht]; exact hh_19.1.1, fun q h9 hq => by rw [ht]; exact hh_19.1.2.1 q h9 hq⟩) hh_19.1.2.2 dX14_utfLength_238
                        · skip
                          have c_18' : v6_11.toInt > 1114111 := jb_le_n (rfl) ((by decide)) c_18
                          refine lv_iconst (v := 0) hx hb dX14_utfLength_228 (by decide) ?_
                          rw [hQ]
                          exact W.iret (v := 0) hx hb hr (fun t ht hW => ⟨⟨0, z_1, rfl, by first | omega | rfl | assumption | decide | exact Or.inl rfl | exact Or.inr rfl | (simp only; omega), hh_15.rt (M1 := [(r0, 16, 33, .int z_1)]) [0] rfl ht⟩, by rw [ht]; exact hh_15.1.1, fun q h9 hq => by rw [ht]; exact hh_15.1.2.1 q h9 hq⟩) hh_15.1.2.2 dX14_utfLength_229
                    · skip
                      have c_14' : w0_6.toInt = 4 := jb_ne_n (rfl) ((by decide)) c_14
                      refine lv_iload hx hb dX14_utfLength_201 (lv_at hl 6 rfl) ?_
                      refine lv_ldc hx hb hown (hts (.constant RX14 197 65536) (by decide +kernel)) dX14_utfLength_203 ?_
                      refine lv_icmp_lt (tgt := 228) hx hb dX14_utfLength_205 (by decide) (fun c_20 => ?_) (fun c_20 => ?_)
                      · skip
                        have c_20' : v6_11.toInt < 65536 := jb_lt (rfl) ((by decide)) c_20
                        refine lv_iconst (v := 0) hx hb dX14_utfLength_228 (by decide) ?_
                        rw [hQ]
                        exact W.iret (v := 0) hx hb hr (fun t ht hW => ⟨⟨0, z_1, rfl, by first | omega | rfl | assumption | decide | exact Or.inl rfl | exact Or.inr rfl | (simp only; omega), hh_11.rt (M1 := [(r0, 16, 33, .int z_1)]) [0] rfl ht⟩, by rw [ht]; exact hh_11.1.1, fun q h9 hq => by rw [ht]; exact hh_11.1.2.1 q h9 hq⟩) hh_11.1.2.2 dX14_utfLength_229
                      · skip
                        have c_20' : v6_11.toInt ≥ 65536 := jb_lt_n (rfl) ((by decide)) c_20
                        refine lv_iload hx hb dX14_utfLength_208 (lv_at hl 6 rfl) ?_
                        refine lv_ldc hx hb hown (hts (.constant RX14 179 55296) (by decide +kernel)) dX14_utfLength_210 ?_
                        refine lv_ldc hx hb hown (hts (.constant RX14 186 57343) (by decide +kernel)) dX14_utfLength_212 ?_
                        refine va_calli (A0 := jA base) (H0 := s.heap) (va_runS (As := [.int v6_11, .int 55296, .int 57343]) (rest := []) ⟨hx, hb, hml, hown, hts⟩ (uX14_in l dC dI ca base B hB hAp G0 H_11 v6_11 55296 57343) (va_cwS 3 hts gX14_utfLength_X14_in rfl rfl rfl (by decide +kernel) ⟨by rw [← hR]; exact Nat.le_of_ble_eq_true rfl, by rw [← hR]; exact Nat.le_of_ble_eq_true rfl⟩) ⟨fun a U g mk q => by obtain ⟨q0, q1, q2, qK, q10, q11⟩ := q; exact ⟨q0, q1, q2, jG.calling g mk a qK, q10, q11⟩, fun U hU hW => ⟨rfl, hU, hh_11.2.1, hG.step hW hU hh_11.1, jP.nil, trivial⟩⟩ rfl rfl hl.1 rfl (lv_room (Nat.le_of_ble_eq_true rfl)) dX14_utfLength_214 ⟨Nat.zero_le _, Nat.zero_le _⟩) hh_11.1 (fun q _ h => h) (fun q h => h) (fun r_22 u_21 t_21 H_21 locs_21 ht_21 hvm_21 hr_22 hb_21 hz_21 hk_21 hS_21 => ?_)
                        rw [ht_21] at hb_21
                        obtain ⟨hb_211, hb_212, hb_213, hb_214, hb_215⟩ := hb_21
                        have hh_21 : jSt (dC, dI) B base G0 G0 EX14_utfLength s.heap 0 0 [(r0, 16, 33, .int z_1)] [] H_21 locs_21 := (hh_11.call hb_211 hb_212 hb_213 hb_214 hS_21 rfl (L1 := [(r0, 16, 33, .int z_1)]) [0] rfl rfl (M1 := []) [] rfl rfl).more hb_215
                        clear hh_11 ht_21 hvm_21 hz_21 hk_21 hS_21 hb_211 hb_212 hb_213 hb_214 hb_215
                        obtain ⟨hr_22b, hr_22p⟩ := hr_22
                        have hr_22' := jb_01 hr_22b
                        refine lv_if_ne (tgt := 228) hx hb dX14_utfLength_217 (by decide) (fun c_23 => ?_) (fun c_23 => ?_)
                        · skip
                          have c_23' : r_22.toInt ≠ 0 := jb_ne (rfl) ((by decide)) c_23
                          refine lv_iconst (v := 0) hx hb dX14_utfLength_228 (by decide) ?_
                          rw [hQ]
                          exact W.iret (v := 0) hx hb hr (fun t ht hW => ⟨⟨0, z_1, rfl, by first | omega | rfl | assumption | decide | exact Or.inl rfl | exact Or.inr rfl | (simp only; omega), hh_21.rt (M1 := [(r0, 16, 33, .int z_1)]) [0] rfl ht⟩, by rw [ht]; exact hh_21.1.1, fun q h9 hq => by rw [ht]; exact hh_21.1.2.1 q h9 hq⟩) hh_21.1.2.2 dX14_utfLength_229
                        · skip
                          have c_23' : r_22.toInt = 0 := jb_ne_n (rfl) ((by decide)) c_23
                          refine lv_iload hx hb dX14_utfLength_220 (lv_at hl 6 rfl) ?_
                          refine lv_ldcw hx hb hown (hts (.constant RX14 360 1114111) (by decide +kernel)) dX14_utfLength_222 ?_
                          refine lv_icmp_le (tgt := 230) hx hb dX14_utfLength_225 (by decide) (fun c_24 => ?_) (fun c_24 => ?_)
                          · skip
                            have c_24' : v6_11.toInt ≤ 1114111 := jb_le (rfl) ((by decide)) c_24
                            refine lv_aload_n hx hb dX14_utfLength_230 rfl (lv_at hl 0 rfl) ?_
                            refine lv_iload hx hb dX14_utfLength_231 (lv_at hl 6 rfl) ?_
                            refine j7_put hx hb hown hK hh_21 hB hAp hB16 (C := RX14) (T := TX14) (N := 74) rfl (by omega) hg_r0 (i := 33) (by decide) hly_16_33 rfl (hts (.fieldLink RX14 357 "ProofServerModel" "utfChar" "I") (by decide +kernel)) rfl (ty := .int) (v := .int v6_11) (by decide +kernel) rfl rfl (⟨_, rfl⟩) rfl (L1 := []) [] rfl rfl dX14_utfLength_233 (fun H_25 locs_25 hh_25 => ?_)
                            clear hh_21
                            refine lv_iload hx hb dX14_utfLength_236 (lv_at hl 5 rfl) ?_
                            rw [hQ]
                            exact W.iret (v := w0_6) hx hb hr (fun t ht hW => ⟨⟨w0_6, v6_11, rfl, by first | omega | rfl | assumption | decide | exact Or.inl rfl | exact Or.inr rfl | (simp only; omega), hh_25.rt (M1 := [(r0, 16, 33, .int v6_11)]) [0] rfl ht⟩, by rw [ht]; exact hh_25.1.1, fun q h9 hq => by rw [ht]; exact hh_25.1.2.1 q h9 hq⟩) hh_25.1.2.2 dX14_utfLength_238
                          · skip
                            have c_24' : v6_11.toInt > 1114111 := jb_le_n (rfl) ((by decide)) c_24
                            refine lv_iconst (v := 0) hx hb dX14_utfLength_228 (by decide) ?_
                            rw [hQ]
                            exact W.iret (v := 0) hx hb hr (fun t ht hW => ⟨⟨0, z_1, rfl, by first | omega | rfl | assumption | decide | exact Or.inl rfl | exact Or.inr rfl | (simp only; omega), hh_21.rt (M1 := [(r0, 16, 33, .int z_1)]) [0] rfl ht⟩, by rw [ht]; exact hh_21.1.1, fun q h9 hq => by rw [ht]; exact hh_21.1.2.1 q h9 hq⟩) hh_21.1.2.2 dX14_utfLength_229
                  · skip
                    have c_13' : w0_6.toInt = 3 := jb_ne_n (rfl) ((by decide)) c_13
                    refine lv_iload hx hb dX14_utfLength_187 (lv_at hl 6 rfl) ?_
                    refine lv_sipush (v := 2048) hx hb dX14_utfLength_189 (by decide) ?_
                    refine lv_icmp_lt (tgt := 228) hx hb dX14_utfLength_192 (by decide) (fun c_26 => ?_) (fun c_26 => ?_)
                    · skip
                      have c_26' : v6_11.toInt < 2048 := jb_lt (rfl) ((by decide)) c_26
                      refine lv_iconst (v := 0) hx hb dX14_utfLength_228 (by decide) ?_
                      rw [hQ]
                      exact W.iret (v := 0) hx hb hr (fun t ht hW => ⟨⟨0, z_1, rfl, by first | omega | rfl | assumption | decide | exact Or.inl rfl | exact Or.inr rfl | (simp only; omega), hh_11.rt (M1 := [(r0, 16, 33, .int z_1)]) [0] rfl ht⟩, by rw [ht]; exact hh_11.1.1, fun q h9 hq => by rw [ht]; exact hh_11.1.2.1 q h9 hq⟩) hh_11.1.2.2 dX14_utfLength_229
                    · skip
                      have c_26' : v6_11.toInt ≥ 2048 := jb_lt_n (rfl) ((by decide)) c_26
                      refine lv_iload hx hb dX14_utfLength_195 (lv_at hl 5 rfl) ?_
                      refine lv_iconst (v := 4) hx hb dX14_utfLength_197 (by decide) ?_
                      refine lv_icmp_ne (tgt := 208) hx hb dX14_utfLength_198 (by decide) (fun c_27 => ?_) (fun c_27 => ?_)
                      · skip
                        have c_27' : w0_6.toInt ≠ 4 := jb_ne (rfl) ((by decide)) c_27
                        refine lv_iload hx hb dX14_utfLength_208 (lv_at hl 6 rfl) ?_
                        refine lv_ldc hx hb hown (hts (.constant RX14 179 55296) (by decide +kernel)) dX14_utfLength_210 ?_
                        refine lv_ldc hx hb hown (hts (.constant RX14 186 57343) (by decide +kernel)) dX14_utfLength_212 ?_
                        refine va_calli (A0 := jA base) (H0 := s.heap) (va_runS (As := [.int v6_11, .int 55296, .int 57343]) (rest := []) ⟨hx, hb, hml, hown, hts⟩ (uX14_in l dC dI ca base B hB hAp G0 H_11 v6_11 55296 57343) (va_cwS 3 hts gX14_utfLength_X14_in rfl rfl rfl (by decide +kernel) ⟨by rw [← hR]; exact Nat.le_of_ble_eq_true rfl, by rw [← hR]; exact Nat.le_of_ble_eq_true rfl⟩) ⟨fun a U g mk q => by obtain ⟨q0, q1, q2, qK, q10, q11⟩ := q; exact ⟨q0, q1, q2, jG.calling g mk a qK, q10, q11⟩, fun U hU hW => ⟨rfl, hU, hh_11.2.1, hG.step hW hU hh_11.1, jP.nil, trivial⟩⟩ rfl rfl hl.1 rfl (lv_room (Nat.le_of_ble_eq_true rfl)) dX14_utfLength_214 ⟨Nat.zero_le _, Nat.zero_le _⟩) hh_11.1 (fun q _ h => h) (fun q h => h) (fun r_29 u_28 t_28 H_28 locs_28 ht_28 hvm_28 hr_29 hb_28 hz_28 hk_28 hS_28 => ?_)
                        rw [ht_28] at hb_28
                        obtain ⟨hb_281, hb_282, hb_283, hb_284, hb_285⟩ := hb_28
                        have hh_28 : jSt (dC, dI) B base G0 G0 EX14_utfLength s.heap 0 0 [(r0, 16, 33, .int z_1)] [] H_28 locs_28 := (hh_11.call hb_281 hb_282 hb_283 hb_284 hS_28 rfl (L1 := [(r0, 16, 33, .int z_1)]) [0] rfl rfl (M1 := []) [] rfl rfl).more hb_285
                        clear hh_11 ht_28 hvm_28 hz_28 hk_28 hS_28 hb_281 hb_282 hb_283 hb_284 hb_285
                        obtain ⟨hr_29b, hr_29p⟩ := hr_29
                        have hr_29' := jb_01 hr_29b
                        refine lv_if_ne (tgt := 228) hx hb dX14_utfLength_217 (by decide) (fun c_30 => ?_) (fun c_30 => ?_)
                        · skip
                          have c_30' : r_29.toInt ≠ 0 := jb_ne (rfl) ((by decide)) c_30
                          refine lv_iconst (v := 0) hx hb dX14_utfLength_228 (by decide) ?_
                          rw [hQ]
                          exact W.iret (v := 0) hx hb hr (fun t ht hW => ⟨⟨0, z_1, rfl, by first | omega | rfl | assumption | decide | exact Or.inl rfl | exact Or.inr rfl | (simp only; omega), hh_28.rt (M1 := [(r0, 16, 33, .int z_1)]) [0] rfl ht⟩, by rw [ht]; exact hh_28.1.1, fun q h9 hq => by rw [ht]; exact hh_28.1.2.1 q h9 hq⟩) hh_28.1.2.2 dX14_utfLength_229
                        · skip
                          have c_30' : r_29.toInt = 0 := jb_ne_n (rfl) ((by decide)) c_30
                          refine lv_iload hx hb dX14_utfLength_220 (lv_at hl 6 rfl) ?_
                          refine lv_ldcw hx hb hown (hts (.constant RX14 360 1114111) (by decide +kernel)) dX14_utfLength_222 ?_
                          refine lv_icmp_le (tgt := 230) hx hb dX14_utfLength_225 (by decide) (fun c_31 => ?_) (fun c_31 => ?_)
                          · skip
                            have c_31' : v6_11.toInt ≤ 1114111 := jb_le (rfl) ((by decide)) c_31
                            refine lv_aload_n hx hb dX14_utfLength_230 rfl (lv_at hl 0 rfl) ?_
                            refine lv_iload hx hb dX14_utfLength_231 (lv_at hl 6 rfl) ?_
                            refine j7_put hx hb hown hK hh_28 hB hAp hB16 (C := RX14) (T := TX14) (N := 74) rfl (by omega) hg_r0 (i := 33) (by decide) hly_16_33 rfl (hts (.fieldLink RX14 357 "ProofServerModel" "utfChar" "I") (by decide +kernel)) rfl (ty := .int) (v := .int v6_11) (by decide +kernel) rfl rfl (⟨_, rfl⟩) rfl (L1 := []) [] rfl rfl dX14_utfLength_233 (fun H_32 locs_32 hh_32 => ?_)
                            clear hh_28
                            refine lv_iload hx hb dX14_utfLength_236 (lv_at hl 5 rfl) ?_
                            rw [hQ]
                            exact W.iret (v := w0_6) hx hb hr (fun t ht hW => ⟨⟨w0_6, v6_11, rfl, by first | omega | rfl | assumption | decide | exact Or.inl rfl | exact Or.inr rfl | (simp only; omega), hh_32.rt (M1 := [(r0, 16, 33, .int v6_11)]) [0] rfl ht⟩, by rw [ht]; exact hh_32.1.1, fun q h9 hq => by rw [ht]; exact hh_32.1.2.1 q h9 hq⟩) hh_32.1.2.2 dX14_utfLength_238
                          · skip
                            have c_31' : v6_11.toInt > 1114111 := jb_le_n (rfl) ((by decide)) c_31
                            refine lv_iconst (v := 0) hx hb dX14_utfLength_228 (by decide) ?_
                            rw [hQ]
                            exact W.iret (v := 0) hx hb hr (fun t ht hW => ⟨⟨0, z_1, rfl, by first | omega | rfl | assumption | decide | exact Or.inl rfl | exact Or.inr rfl | (simp only; omega), hh_28.rt (M1 := [(r0, 16, 33, .int z_1)]) [0] rfl ht⟩, by rw [ht]; exact hh_28.1.1, fun q h9 hq => by rw [ht]; exact hh_28.1.2.1 q h9 hq⟩) hh_28.1.2.2 dX14_utfLength_229
                      · skip
                        have c_27' : w0_6.toInt = 4 := jb_ne_n (rfl) ((by decide)) c_27
                        refine lv_iload hx hb dX14_utfLength_201 (lv_at hl 6 rfl) ?_
                        refine lv_ldc hx hb hown (hts (.constant RX14 197 65536) (by decide +kernel)) dX14_utfLength_203 ?_
                        refine lv_icmp_lt (tgt := 228) hx hb dX14_utfLength_205 (by decide) (fun c_33 => ?_) (fun c_33 => ?_)
                        · skip
                          have c_33' : v6_11.toInt < 65536 := jb_lt (rfl) ((by decide)) c_33
                          refine lv_iconst (v := 0) hx hb dX14_utfLength_228 (by decide) ?_
                          rw [hQ]
                          exact W.iret (v := 0) hx hb hr (fun t ht hW => ⟨⟨0, z_1, rfl, by first | omega | rfl | assumption | decide | exact Or.inl rfl | exact Or.inr rfl | (simp only; omega), hh_11.rt (M1 := [(r0, 16, 33, .int z_1)]) [0] rfl ht⟩, by rw [ht]; exact hh_11.1.1, fun q h9 hq => by rw [ht]; exact hh_11.1.2.1 q h9 hq⟩) hh_11.1.2.2 dX14_utfLength_229
                        · skip
                          have c_33' : v6_11.toInt ≥ 65536 := jb_lt_n (rfl) ((by decide)) c_33
                          refine lv_iload hx hb dX14_utfLength_208 (lv_at hl 6 rfl) ?_
                          refine lv_ldc hx hb hown (hts (.constant RX14 179 55296) (by decide +kernel)) dX14_utfLength_210 ?_
                          refine lv_ldc hx hb hown (hts (.constant RX14 186 57343) (by decide +kernel)) dX14_utfLength_212 ?_
                          refine va_calli (A0 := jA base) (H0 := s.heap) (va_runS (As := [.int v6_11, .int 55296, .int 57343]) (rest := []) ⟨hx, hb, hml, hown, hts⟩ (uX14_in l dC dI ca base B hB hAp G0 H_11 v6_11 55296 57343) (va_cwS 3 hts gX14_utfLength_X14_in rfl rfl rfl (by decide +kernel) ⟨by rw [← hR]; exact Nat.le_of_ble_eq_true rfl, by rw [← hR]; exact Nat.le_of_ble_eq_true rfl⟩) ⟨fun a U g mk q => by obtain ⟨q0, q1, q2, qK, q10, q11⟩ := q; exact ⟨q0, q1, q2, jG.calling g mk a qK, q10, q11⟩, fun U hU hW => ⟨rfl, hU, hh_11.2.1, hG.step hW hU hh_11.1, jP.nil, trivial⟩⟩ rfl rfl hl.1 rfl (lv_room (Nat.le_of_ble_eq_true rfl)) dX14_utfLength_214 ⟨Nat.zero_le _, Nat.zero_le _⟩) hh_11.1 (fun q _ h => h) (fun q h => h) (fun r_35 u_34 t_34 H_34 locs_34 ht_34 hvm_34 hr_35 hb_34 hz_34 hk_34 hS_34 => ?_)
                          rw [ht_34] at hb_34
                          obtain ⟨hb_341, hb_342, hb_343, hb_344, hb_345⟩ := hb_34
                          have hh_34 : jSt (dC, dI) B base G0 G0 EX14_utfLength s.heap 0 0 [(r0, 16, 33, .int z_1)] [] H_34 locs_34 := (hh_11.call hb_341 hb_342 hb_343 hb_344 hS_34 rfl (L1 := [(r0, 16, 33, .int z_1)]) [0] rfl rfl (M1 := []) [] rfl rfl).more hb_345
                          clear hh_11 ht_34 hvm_34 hz_34 hk_34 hS_34 hb_341 hb_342 hb_343 hb_344 hb_345
                          obtain ⟨hr_35b, hr_35p⟩ := hr_35
                          have hr_35' := jb_01 hr_35b
                          refine lv_if_ne (tgt := 228) hx hb dX14_utfLength_217 (by decide) (fun c_36 => ?_) (fun c_36 => ?_)
                          · skip
                            have c_36' : r_35.toInt ≠ 0 := jb_ne (rfl) ((by decide)) c_36
                            refine lv_iconst (v := 0) hx hb dX14_utfLength_228 (by decide) ?_
                            rw [hQ]
                            exact W.iret (v := 0) hx hb hr (fun t ht hW => ⟨⟨0, z_1, rfl, by first | omega | rfl | assumption | decide | exact Or.inl rfl | exact Or.inr rfl | (simp only; omega), hh_34.rt (M1 := [(r0, 16, 33, .int z_1)]) [0] rfl ht⟩, by rw [ht]; exact hh_34.1.1, fun q h9 hq => by rw [ht]; exact hh_34.1.2.1 q h9 hq⟩) hh_34.1.2.2 dX14_utfLength_229
                          · skip
                            have c_36' : r_35.toInt = 0 := jb_ne_n (rfl) ((by decide)) c_36
                            refine lv_iload hx hb dX14_utfLength_220 (lv_at hl 6 rfl) ?_
                            refine lv_ldcw hx hb hown (hts (.constant RX14 360 1114111) (by decide +kernel)) dX14_utfLength_222 ?_
                            refine lv_icmp_le (tgt := 230) hx hb dX14_utfLength_225 (by decide) (fun c_37 => ?_) (fun c_37 => ?_)
                            · skip
                              have c_37' : v6_11.toInt ≤ 1114111 := jb_le (rfl) ((by decide)) c_37
                              refine lv_aload_n hx hb dX14_utfLength_230 rfl (lv_at hl 0 rfl) ?_
                              refine lv_iload hx hb dX14_utfLength_231 (lv_at hl 6 rfl) ?_
                              refine j7_put hx hb hown hK hh_34 hB hAp hB16 (C := RX14) (T := TX14) (N := 74) rfl (by omega) hg_r0 (i := 33) (by decide) hly_16_33 rfl (hts (.fieldLink RX14 357 "ProofServerModel" "utfChar" "I") (by decide +kernel)) rfl (ty := .int) (v := .int v6_11) (by decide +kernel) rfl rfl (⟨_, rfl⟩) rfl (L1 := []) [] rfl rfl dX14_utfLength_233 (fun H_38 locs_38 hh_38 => ?_)
                              clear hh_34
                              refine lv_iload hx hb dX14_utfLength_236 (lv_at hl 5 rfl) ?_
                              rw [hQ]
                              exact W.iret (v := w0_6) hx hb hr (fun t ht hW => ⟨⟨w0_6, v6_11, rfl, by first | omega | rfl | assumption | decide | exact Or.inl rfl | exact Or.inr rfl | (simp only; omega), hh_38.rt (M1 := [(r0, 16, 33, .int v6_11)]) [0] rfl ht⟩, by rw [ht]; exact hh_38.1.1, fun q h9 hq => by rw [ht]; exact hh_38.1.2.1 q h9 hq⟩) hh_38.1.2.2 dX14_utfLength_238
                            · skip
                              have c_37' : v6_11.toInt > 1114111 := jb_le_n (rfl) ((by decide)) c_37
                              refine lv_iconst (v := 0) hx hb dX14_utfLength_228 (by decide) ?_
                              rw [hQ]
                              exact W.iret (v := 0) hx hb hr (fun t ht hW => ⟨⟨0, z_1, rfl, by first | omega | rfl | assumption | decide | exact Or.inl rfl | exact Or.inr rfl | (simp only; omega), hh_34.rt (M1 := [(r0, 16, 33, .int z_1)]) [0] rfl ht⟩, by rw [ht]; exact hh_34.1.1, fun q h9 hq => by rw [ht]; exact hh_34.1.2.1 q h9 hq⟩) hh_34.1.2.2 dX14_utfLength_229
                · skip
                  have c_12' : v7_11.toInt < w0_6.toInt := jb_ge_n (rfl) (rfl) c_12
                  refine lv_aload_n hx hb dX14_utfLength_138 rfl (lv_at hl 1 rfl) ?_
                  refine lv_iload_n hx hb dX14_utfLength_139 rfl (lv_at hl 2 rfl) ?_
                  refine lv_iload hx hb dX14_utfLength_140 (lv_at hl 7 rfl) ?_
                  refine lv_iadd hx hb dX14_utfLength_142 ?_
                  refine lv_topi (fun z_39 ez_39 => ?_)
                  have hz_39 : z_39.toInt = a2.toInt + v7_11.toInt := by rw [ez_39]; exact jb_iadd (rfl) (rfl) (by omega) (by omega)
                  refine j7_iald hx hb hK hh_11 hB110 1 rfl (by omega) hg_r1 (rfl) (by omega) (by omega) dX14_utfLength_143 (fun z_40 (hz_40 : 0 ≤ z_40.toInt ∧ z_40.toInt ≤ 255) => ?_)
                  refine lv_sipush (v := 128) hx hb dX14_utfLength_144 (by decide) ?_
                  refine lv_sipush (v := 191) hx hb dX14_utfLength_147 (by decide) ?_
                  refine va_calli (A0 := jA base) (H0 := s.heap) (va_runS (As := [.int z_40, .int 128, .int 191]) (rest := []) ⟨hx, hb, hml, hown, hts⟩ (uX14_in l dC dI ca base B hB hAp G0 H_11 z_40 128 191) (va_cwS 3 hts gX14_utfLength_X14_in rfl rfl rfl (by decide +kernel) ⟨by rw [← hR]; exact Nat.le_of_ble_eq_true rfl, by rw [← hR]; exact Nat.le_of_ble_eq_true rfl⟩) ⟨fun a U g mk q => by obtain ⟨q0, q1, q2, qK, q10, q11⟩ := q; exact ⟨q0, q1, q2, jG.calling g mk a qK, q10, q11⟩, fun U hU hW => ⟨rfl, hU, hh_11.2.1, hG.step hW hU hh_11.1, jP.nil, trivial⟩⟩ rfl rfl hl.1 rfl (lv_room (Nat.le_of_ble_eq_true rfl)) dX14_utfLength_150 ⟨Nat.zero_le _, Nat.zero_le _⟩) hh_11.1 (fun q _ h => h) (fun q h => h) (fun r_42 u_41 t_41 H_41 locs_41 ht_41 hvm_41 hr_42 hb_41 hz_41 hk_41 hS_41 => ?_)
                  rw [ht_41] at hb_41
                  obtain ⟨hb_411, hb_412, hb_413, hb_414, hb_415⟩ := hb_41
                  have hh_41 : jSt (dC, dI) B base G0 G0 EX14_utfLength s.heap 0 0 [(r0, 16, 33, .int z_1)] [] H_41 locs_41 := (hh_11.call hb_411 hb_412 hb_413 hb_414 hS_41 rfl (L1 := [(r0, 16, 33, .int z_1)]) [0] rfl rfl (M1 := []) [] rfl rfl).more hb_415
                  clear hh_11 ht_41 hvm_41 hz_41 hk_41 hS_41 hb_411 hb_412 hb_413 hb_414 hb_415
                  obtain ⟨hr_42b, hr_42p⟩ := hr_42
                  have hr_42' := jb_01 hr_42b
                  refine lv_if_ne (tgt := 158) hx hb dX14_utfLength_153 (by decide) (fun c_43 => ?_) (fun c_43 => ?_)
                  · skip
                    have c_43' : r_42.toInt ≠ 0 := jb_ne (rfl) ((by decide)) c_43
                    refine lv_iload hx hb dX14_utfLength_158 (lv_at hl 6 rfl) ?_
                    refine lv_bipush (v := 6) hx hb dX14_utfLength_160 (by decide) ?_
                    refine lv_ishl hx hb dX14_utfLength_162 ?_
                    refine lv_topi (fun z_44 ez_44 => ?_)
                    refine lv_aload_n hx hb dX14_utfLength_163 rfl (lv_at hl 1 rfl) ?_
                    refine lv_iload_n hx hb dX14_utfLength_164 rfl (lv_at hl 2 rfl) ?_
                    refine lv_iload hx hb dX14_utfLength_165 (lv_at hl 7 rfl) ?_
                    refine lv_iadd hx hb dX14_utfLength_167 ?_
                    refine lv_topi (fun z_45 ez_45 => ?_)
                    have hz_45 : z_45.toInt = a2.toInt + v7_11.toInt := by rw [ez_45]; exact jb_iadd (rfl) (rfl) (by omega) (by omega)
                    refine j7_iald hx hb hK hh_41 hB110 1 rfl (by omega) hg_r1 (rfl) (by omega) (by omega) dX14_utfLength_168 (fun z_46 (hz_46 : 0 ≤ z_46.toInt ∧ z_46.toInt ≤ 255) => ?_)
                    refine lv_bipush (v := 63) hx hb dX14_utfLength_169 (by decide) ?_
                    refine lv_iand hx hb dX14_utfLength_171 ?_
                    refine lv_topi (fun z_47 ez_47 => ?_)
                    have hz_47 : 0 ≤ z_47.toInt ∧ z_47.toInt ≤ 63 := by rw [ez_47]; exact jb_and z_46 (m := 63) (k := 6) (by decide) (by decide)
                    refine lv_ior hx hb dX14_utfLength_172 ?_
                    refine lv_topi (fun z_48 ez_48 => ?_)
                    refine lv_istore (lv' := [(6, .int z_48), (0, .ref r0), (1, .ref r1), (2, .int a2), (3, .int a3), (4, .int z_1), (5, .int w0_6), (7, .int v7_11)]) hx hb dX14_utfLength_173 hl (by decide) rfl (fun ls hl => ?_)
                    obtain ⟨z_49, ez_49⟩ : ∃ y : Int32, y = v7_11 + 1 := ⟨_, rfl⟩
                    refine lv_iinc (v := z_49) (lv' := [(7, .int z_49), (6, .int z_48), (0, .ref r0), (1, .ref r1), (2, .int a2), (3, .int a3), (4, .int z_1), (5, .int w0_6)]) hx hb dX14_utfLength_175 hl (k := 7) rfl (by rw [ez_49]; rfl) (by decide) rfl (fun ls hl => ?_)
                    have hz_49 : z_49.toInt = v7_11.toInt + 1 := by rw [ez_49]; exact jb_iadd (rfl) (by decide) (by omega) (by omega)
                    refine lv_goto (tgt := 131) hx hb dX14_utfLength_178 (by decide) ?_
                    exact L131 z_48 z_49 _ _ hh_41 (by refine ⟨?_, ?_⟩ <;> (first | omega | rfl | assumption | decide | exact Or.inl rfl | exact Or.inr rfl | (simp only; omega))) (by omega) _ (lv_sub hl [2, 3, 4, 5, 6, 7, 1, 0] rfl)
                  · skip
                    have c_43' : r_42.toInt = 0 := jb_ne_n (rfl) ((by decide)) c_43
                    refine lv_iconst (v := 0) hx hb dX14_utfLength_156 (by decide) ?_
                    rw [hQ]
                    exact W.iret (v := 0) hx hb hr (fun t ht hW => ⟨⟨0, z_1, rfl, by first | omega | rfl | assumption | decide | exact Or.inl rfl | exact Or.inr rfl | (simp only; omega), hh_41.rt (M1 := [(r0, 16, 33, .int z_1)]) [0] rfl ht⟩, by rw [ht]; exact hh_41.1.1, fun q h9 hq => by rw [ht]; exact hh_41.1.2.1 q h9 hq⟩) hh_41.1.2.2 dX14_utfLength_157
            exact L131 (w0_6.toInt - (1 : Int32).toInt : Int).toNat.succ w0_10 1 _ _ hh_10 (by refine ⟨?_, ?_⟩ <;> (first | omega | rfl | assumption | decide | exact Or.inl rfl | exact Or.inr rfl | (simp only; omega))) (by omega) _ (lv_sub hl [2, 3, 4, 5, 6, 7, 1, 0] rfl)
          refine lv_icmp_ne (tgt := 107) hx hb dX14_utfLength_96 (by decide) (fun c_50 => ?_) (fun c_50 => ?_)
          · skip
            have c_50' : w0_6.toInt ≠ 2 := jb_ne (rfl) ((by decide)) c_50
            refine lv_iload hx hb dX14_utfLength_107 (lv_at hl 0 rfl) ?_
            refine lv_iconst (v := 3) hx hb dX14_utfLength_109 (by decide) ?_
            refine lv_icmp_ne (tgt := 121) hx hb dX14_utfLength_110 (by decide) (fun c_51 => ?_) (fun c_51 => ?_)
            · skip
              have c_51' : w0_6.toInt ≠ 3 := jb_ne (rfl) ((by decide)) c_51
              refine lv_iload hx hb dX14_utfLength_121 (lv_at hl 5 rfl) ?_
              refine lv_bipush (v := 7) hx hb dX14_utfLength_123 (by decide) ?_
              refine lv_iand hx hb dX14_utfLength_125 ?_
              refine lv_topi (fun z_52 ez_52 => ?_)
              have hz_52 : 0 ≤ z_52.toInt ∧ z_52.toInt ≤ 7 := by rw [ez_52]; exact jb_and z_1 (m := 7) (k := 3) (by decide) (by decide)
              exact C126 z_52 _ _ hh_6 (trivial) _ (lv_sub hl [1, 2, 3, 4, 5, 0] rfl)
            · skip
              have c_51' : w0_6.toInt = 3 := jb_ne_n (rfl) ((by decide)) c_51
              refine lv_iload hx hb dX14_utfLength_113 (lv_at hl 5 rfl) ?_
              refine lv_bipush (v := 15) hx hb dX14_utfLength_115 (by decide) ?_
              refine lv_iand hx hb dX14_utfLength_117 ?_
              refine lv_topi (fun z_53 ez_53 => ?_)
              have hz_53 : 0 ≤ z_53.toInt ∧ z_53.toInt ≤ 15 := by rw [ez_53]; exact jb_and z_1 (m := 15) (k := 4) (by decide) (by decide)
              refine lv_goto (tgt := 126) hx hb dX14_utfLength_118 (by decide) ?_
              exact C126 z_53 _ _ hh_6 (trivial) _ (lv_sub hl [1, 2, 3, 4, 5, 0] rfl)
          · skip
            have c_50' : w0_6.toInt = 2 := jb_ne_n (rfl) ((by decide)) c_50
            refine lv_iload hx hb dX14_utfLength_99 (lv_at hl 5 rfl) ?_
            refine lv_bipush (v := 31) hx hb dX14_utfLength_101 (by decide) ?_
            refine lv_iand hx hb dX14_utfLength_103 ?_
            refine lv_topi (fun z_54 ez_54 => ?_)
            have hz_54 : 0 ≤ z_54.toInt ∧ z_54.toInt ≤ 31 := by rw [ez_54]; exact jb_and z_1 (m := 31) (k := 5) (by decide) (by decide)
            refine lv_goto (tgt := 126) hx hb dX14_utfLength_104 (by decide) ?_
            exact C126 z_54 _ _ hh_6 (trivial) _ (lv_sub hl [1, 2, 3, 4, 5, 0] rfl)
        · skip
          have c_9' : z_8.toInt > a3.toInt := jb_le_n (rfl) (rfl) c_9
          refine lv_iconst (v := 0) hx hb dX14_utfLength_91 (by decide) ?_
          rw [hQ]
          exact W.iret (v := 0) hx hb hr (fun t ht hW => ⟨⟨0, z_1, rfl, by first | omega | rfl | assumption | decide | exact Or.inl rfl | exact Or.inr rfl | (simp only; omega), hh_6.rt (M1 := [(r0, 16, 33, .int z_1)]) [0] rfl ht⟩, by rw [ht]; exact hh_6.1.1, fun q h9 hq => by rw [ht]; exact hh_6.1.2.1 q h9 hq⟩) hh_6.1.2.2 dX14_utfLength_92
    refine lv_if_eq (tgt := 39) hx hb dX14_utfLength_32 (by decide) (fun c_55 => ?_) (fun c_55 => ?_)
    · skip
      have c_55' : r_5.toInt = 0 := jb_eq (rfl) ((by decide)) c_55
      refine lv_iload hx hb dX14_utfLength_39 (lv_at hl 0 rfl) ?_
      refine lv_sipush (v := 224) hx hb dX14_utfLength_41 (by decide) ?_
      refine lv_sipush (v := 239) hx hb dX14_utfLength_44 (by decide) ?_
      refine va_calli (A0 := jA base) (H0 := s.heap) (va_runS (As := [.int z_1, .int 224, .int 239]) (rest := []) ⟨hx, hb, hml, hown, hts⟩ (uX14_in l dC dI ca base B hB hAp G0 H_4 z_1 224 239) (va_cwS 3 hts gX14_utfLength_X14_in rfl rfl rfl (by decide +kernel) ⟨by rw [← hR]; exact Nat.le_of_ble_eq_true rfl, by rw [← hR]; exact Nat.le_of_ble_eq_true rfl⟩) ⟨fun a U g mk q => by obtain ⟨q0, q1, q2, qK, q10, q11⟩ := q; exact ⟨q0, q1, q2, jG.calling g mk a qK, q10, q11⟩, fun U hU hW => ⟨rfl, hU, hh_4.2.1, hG.step hW hU hh_4.1, jP.nil, trivial⟩⟩ rfl rfl hl.1 rfl (lv_room (Nat.le_of_ble_eq_true rfl)) dX14_utfLength_47 ⟨Nat.zero_le _, Nat.zero_le _⟩) hh_4.1 (fun q _ h => h) (fun q h => h) (fun r_57 u_56 t_56 H_56 locs_56 ht_56 hvm_56 hr_57 hb_56 hz_56 hk_56 hS_56 => ?_)
      rw [ht_56] at hb_56
      obtain ⟨hb_561, hb_562, hb_563, hb_564, hb_565⟩ := hb_56
      have hh_56 : jSt (dC, dI) B base G0 G0 EX14_utfLength s.heap 0 0 [(r0, 16, 33, .int z_1)] [] H_56 locs_56 := (hh_4.call hb_561 hb_562 hb_563 hb_564 hS_56 rfl (L1 := [(r0, 16, 33, .int z_1)]) [0] rfl rfl (M1 := []) [] rfl rfl).more hb_565
      clear hh_4 ht_56 hvm_56 hz_56 hk_56 hS_56 hb_561 hb_562 hb_563 hb_564 hb_565
      obtain ⟨hr_57b, hr_57p⟩ := hr_57
      have hr_57' := jb_01 hr_57b
      refine lv_if_eq (tgt := 57) hx hb dX14_utfLength_50 (by decide) (fun c_58 => ?_) (fun c_58 => ?_)
      · skip
        have c_58' : r_57.toInt = 0 := jb_eq (rfl) ((by decide)) c_58
        refine lv_iload hx hb dX14_utfLength_57 (lv_at hl 0 rfl) ?_
        refine lv_sipush (v := 240) hx hb dX14_utfLength_59 (by decide) ?_
        refine lv_sipush (v := 244) hx hb dX14_utfLength_62 (by decide) ?_
        refine va_calli (A0 := jA base) (H0 := s.heap) (va_runS (As := [.int z_1, .int 240, .int 244]) (rest := []) ⟨hx, hb, hml, hown, hts⟩ (uX14_in l dC dI ca base B hB hAp G0 H_56 z_1 240 244) (va_cwS 3 hts gX14_utfLength_X14_in rfl rfl rfl (by decide +kernel) ⟨by rw [← hR]; exact Nat.le_of_ble_eq_true rfl, by rw [← hR]; exact Nat.le_of_ble_eq_true rfl⟩) ⟨fun a U g mk q => by obtain ⟨q0, q1, q2, qK, q10, q11⟩ := q; exact ⟨q0, q1, q2, jG.calling g mk a qK, q10, q11⟩, fun U hU hW => ⟨rfl, hU, hh_56.2.1, hG.step hW hU hh_56.1, jP.nil, trivial⟩⟩ rfl rfl hl.1 rfl (lv_room (Nat.le_of_ble_eq_true rfl)) dX14_utfLength_65 ⟨Nat.zero_le _, Nat.zero_le _⟩) hh_56.1 (fun q _ h => h) (fun q h => h) (fun r_60 u_59 t_59 H_59 locs_59 ht_59 hvm_59 hr_60 hb_59 hz_59 hk_59 hS_59 => ?_)
        rw [ht_59] at hb_59
        obtain ⟨hb_591, hb_592, hb_593, hb_594, hb_595⟩ := hb_59
        have hh_59 : jSt (dC, dI) B base G0 G0 EX14_utfLength s.heap 0 0 [(r0, 16, 33, .int z_1)] [] H_59 locs_59 := (hh_56.call hb_591 hb_592 hb_593 hb_594 hS_59 rfl (L1 := [(r0, 16, 33, .int z_1)]) [0] rfl rfl (M1 := []) [] rfl rfl).more hb_595
        clear hh_56 ht_59 hvm_59 hz_59 hk_59 hS_59 hb_591 hb_592 hb_593 hb_594 hb_595
        obtain ⟨hr_60b, hr_60p⟩ := hr_60
        have hr_60' := jb_01 hr_60b
        refine lv_if_eq (tgt := 75) hx hb dX14_utfLength_68 (by decide) (fun c_61 => ?_) (fun c_61 => ?_)
        · skip
          have c_61' : r_60.toInt = 0 := jb_eq (rfl) ((by decide)) c_61
          refine lv_iconst (v := 0) hx hb dX14_utfLength_75 (by decide) ?_
          exact C76 0 _ _ hh_59 (by refine ⟨?_, ?_, ?_⟩ <;> (first | omega | rfl | assumption | decide | exact Or.inl rfl | exact Or.inr rfl | (simp only; omega))) _ (lv_sub hl [1, 2, 3, 4, 0] rfl)
        · skip
          have c_61' : r_60.toInt ≠ 0 := jb_eq_n (rfl) ((by decide)) c_61
          refine lv_iconst (v := 4) hx hb dX14_utfLength_71 (by decide) ?_
          refine lv_goto (tgt := 76) hx hb dX14_utfLength_72 (by decide) ?_
          exact C76 4 _ _ hh_59 (by refine ⟨?_, ?_, ?_⟩ <;> (first | omega | rfl | assumption | decide | exact Or.inl rfl | exact Or.inr rfl | (simp only; omega))) _ (lv_sub hl [1, 2, 3, 4, 0] rfl)
      · skip
        have c_58' : r_57.toInt ≠ 0 := jb_eq_n (rfl) ((by decide)) c_58
        refine lv_iconst (v := 3) hx hb dX14_utfLength_53 (by decide) ?_
        refine lv_goto (tgt := 76) hx hb dX14_utfLength_54 (by decide) ?_
        exact C76 3 _ _ hh_56 (by refine ⟨?_, ?_, ?_⟩ <;> (first | omega | rfl | assumption | decide | exact Or.inl rfl | exact Or.inr rfl | (simp only; omega))) _ (lv_sub hl [1, 2, 3, 4, 0] rfl)
    · skip
      have c_55' : r_5.toInt ≠ 0 := jb_eq_n (rfl) ((by decide)) c_55
      refine lv_iconst (v := 2) hx hb dX14_utfLength_35 (by decide) ?_
      refine lv_goto (tgt := 76) hx hb dX14_utfLength_36 (by decide) ?_
      exact C76 2 _ _ hh_4 (by refine ⟨?_, ?_, ?_⟩ <;> (first | omega | rfl | assumption | decide | exact Or.inl rfl | exact Or.inr rfl | (simp only; omega))) _ (lv_sub hl [1, 2, 3, 4, 0] rfl)
  · skip
    have c_3' : z_1.toInt < 128 := jb_ge_n (rfl) ((by decide)) c_3
    refine lv_iconst (v := 1) hx hb dX14_utfLength_19 (by decide) ?_
    rw [hQ]
    exact W.iret (v := 1) hx hb hr (fun t ht hW => ⟨⟨1, z_1, rfl, by first | omega | rfl | assumption | decide | exact Or.inl rfl | exact Or.inr rfl | (simp only; omega), hh_2.rt (M1 := [(r0, 16, 33, .int z_1)]) [0] rfl ht⟩, by rw [ht]; exact hh_2.1.1, fun q h9 hq => by rw [ht]; exact hh_2.1.2.1 q h9 hq⟩) hh_2.1.2.2 dX14_utfLength_20
set_option maxHeartbeats 4000000 in
set_option maxRecDepth 20000 in
theorem uX14_readNumber (l : Launch) (dC : Nat → ClassId) (dI : Nat → Nat → Nat) (ca : Nat → ClassId) (base : Nat) (B : jF) (hB : jBok B) (hAp : jAp (dC, dI)) (hB16 : ∀ n G a H, B 16 n G a H ↔ jOb (dC, dI) 16 74 (F16 n G) a H) (hB110 : ∀ n G a H, B 110 n G a H ↔ jAr (dC, dI) (ca 1) (fun j z => 0 ≤ z.toInt ∧ z.toInt ≤ 255) n a H) (hB117 : ∀ n G a H, B 117 n G a H ↔ jAr (dC, dI) (ca 1) (fun j z => True) n a H) (hB118 : ∀ n G a H, B 118 n G a H ↔ jAr (dC, dI) (ca 1) (fun j z => -1 ≤ z.toInt ∧ z.toInt ≤ 3099) n a H) (hB119 : ∀ n G a H, B 119 n G a H ↔ jAr (dC, dI) (ca 1) (fun j z => z.toInt = -1 ∨ (j < z.toInt ∧ z.toInt ≤ 3099)) n a H) (hB124 : ∀ n G a H, B 124 n G a H ↔ jAr (dC, dI) (ca 3) (fun j z => (z = 0 ∨ z = 1)) n a H) (hB125 : ∀ n G a H, B 125 n G a H ↔ jAr (dC, dI) (ca 1) (fun j z => True) n a H) (G0 : jT) (H0 : Heap) (r0 : Nat) (pt : Int32) (pe : Int32) (pn : Int32) : Met l yX14_readNumber wsX14_readNumber ({ frames := 3, cells := 0, slots := 0, locals := 62 }) (va_Pc [.ref r0] (fun U => U.heap = H0 ∧ jX B base G0 [] H0 ∧ jG dC dI ca base U ∧ G0 r0 = some (16, 0) ∧ jP (dC, dI) G0 H0 [(r0, 16, 29, .int pt), (r0, 16, 30, .int pe), (r0, 16, 26, .int pn)] ∧ 0 ≤ pt.toInt ∧ pt.toInt ≤ 90000 ∧ 0 ≤ pe.toInt ∧ pe.toInt ≤ 3000 ∧ 0 ≤ pn.toInt ∧ pn.toInt ≤ 3099 ∧ pt.toInt ≤ pe.toInt)) (va_Qi (S := Int32 × Int32 × Int32) (fun r u => r.toInt = pn.toInt ∧ u.2.1.toInt = pn.toInt + 1 ∧ pt.toInt ≤ u.1.toInt ∧ u.1.toInt ≤ pe.toInt ∧ (u.2.2.toInt = 1 ∨ pt.toInt + 1 ≤ u.1.toInt)) (fun u t => jRt (dC, dI) B base G0 EX14_readNumber H0 [(r0, 16, 29, .int u.1), (r0, 16, 26, .int u.2.1), (r0, 16, 31, .int u.2.2)] t.heap) (jA base)) 0 0 (jA base) := by
  refine Met.ofW (cc := cX14_readNumber) (maxL := 9) (ret := (some .int)) (by decide) rfl ?_
  intro p e s m args below meth c s₁ Bd hml hv
  obtain ⟨rfl, hH0, hX, hG, hg_r0, hP0, hp0, hp1, hp2, hp3, hp4, hp5, hp6⟩ := hv
  have hK := hG.1
  have hx := Bd.exec
  have hb := Bd.bytes
  have hr := Bd.returns
  have hts := atoms_spec (ws := wsX14_readNumber) Bd.pre
  have hown : s.vm.findClass RX14 = some m.cls := findClass_of_methodNamed Bd.named
  have hlocks := Bd.notSynchronized
  obtain ⟨Q, hQ⟩ : ∃ Q, Q = MQ below (va_Qi (S := Int32 × Int32 × Int32) (fun r u => r.toInt = pn.toInt ∧ u.2.1.toInt = pn.toInt + 1 ∧ pt.toInt ≤ u.1.toInt ∧ u.1.toInt ≤ pe.toInt ∧ (u.2.2.toInt = 1 ∨ pt.toInt + 1 ≤ u.1.toInt)) (fun u t => jRt (dC, dI) B base G0 EX14_readNumber H0 [(r0, 16, 29, .int u.1), (r0, 16, 26, .int u.2.1), (r0, 16, 31, .int u.2.2)] t.heap) (jA base)) ([.ref r0] : List Value).toArray s 0 0 (jA base) := ⟨_, rfl⟩
  rw [← hQ]
  have hl := lv_entry ([.ref r0]) (n := 9) (Nat.le_of_ble_eq_true rfl)
  rw [lg_entry_eq]
  generalize (lg_sl ([.ref r0]) ++ List.replicate (9 - (lg_sl ([.ref r0])).length) Slot.unset).toArray = ls at hl ⊢
  have hl : lv_has ls 9 [(0, .ref r0)] := hl
  generalize hR : (headSpec wsX14_readNumber ({ frames := 3, cells := 0, slots := 0, locals := 62 })).room = R
  subst hH0
  have hh : jSt (dC, dI) B base G0 G0 EX14_readNumber s.heap 0 0 [(r0, 16, 29, .int pt), (r0, 16, 30, .int pe), (r0, 16, 26, .int pn)] [] s.heap [] := jSt.start hX hP0 jMc.nil
  clear hX hP0
  have hk0 : (0 : Int32).toInt = 0 := by decide
  have hk1 : (1 : Int32).toInt = 1 := by decide
  have hk3 : (3 : Int32).toInt = 3 := by decide
  have hk43 : (43 : Int32).toInt = 43 := by decide
  have hk45 : (45 : Int32).toInt = 45 := by decide
  have hk46 : (46 : Int32).toInt = 46 := by decide
  have hk48 : (48 : Int32).toInt = 48 := by decide
  have hk69 : (69 : Int32).toInt = 69 := by decide
  have hk101 : (101 : Int32).toInt = 101 := by decide
  have hly_16_9 := hts (u_lay RX14 TX14 9) (by decide +kernel)
  have hly_16_24 := hts (u_lay RX14 TX14 24) (by decide +kernel)
  have hly_16_25 := hts (u_lay RX14 TX14 25) (by decide +kernel)
  have hly_16_29 := hts (u_lay RX14 TX14 29) (by decide +kernel)
  have hly_16_31 := hts (u_lay RX14 TX14 31) (by decide +kernel)
  refine lv_aload_n hx hb dX14_readNumber_0 rfl (lv_at hl 0 rfl) ?_
  refine lv_iconst (v := 3) hx hb dX14_readNumber_1 (by decide) ?_
  refine va_calli (A0 := jA base) (H0 := s.heap) (va_runV (As := [.int 3]) (rest := []) ⟨hx, hb, hml, hown, hts⟩ (uX14_node l dC dI ca base B hB hAp hB16 hB117 hB118 hB119 hB124 G0 s.heap r0 3 pn) (cwV 1 hts gX14_readNumber_X14_node rfl rfl rfl (by decide +kernel) ⟨by rw [← hR]; exact Nat.le_of_ble_eq_true rfl, by rw [← hR]; exact Nat.le_of_ble_eq_true rfl⟩) ⟨fun a U g mk q => by obtain ⟨q0, q1, q2, qK, q10, q11, q12⟩ := q; exact ⟨q0, q1, q2, jG.calling g mk a qK, q10, q11, q12⟩, hh.recv (C := RX14) (T := TX14) (N := 74) hB16 rfl (by omega) hg_r0 hK, fun U hU hW => ⟨rfl, hU, hh.2.1, hG.step hW hU hh.1, hg_r0, (hh.2.2.1.sub (L1 := [(r0, 16, 26, .int pn)]) [2] rfl), by refine ⟨?_, ?_⟩ <;> (first | omega | rfl | assumption | decide | exact Or.inl rfl | exact Or.inr rfl | (simp only; omega))⟩⟩ rfl rfl hl.1 rfl (lv_room (Nat.le_of_ble_eq_true rfl)) dX14_readNumber_2 ⟨Nat.zero_le _, Nat.zero_le _⟩) hh.1 (fun q _ h => h) (fun q h => h) (fun r_2 u_1 t_1 H_1 locs_1 ht_1 hvm_1 hr_2 hb_1 hz_1 hk_1 hS_1 => ?_)
  obtain ⟨qn_1, rfl⟩ : ∃ z, z = u_1 := ⟨_, rfl⟩
  rw [ht_1] at hb_1
  obtain ⟨hb_11, hb_12, hb_13, hb_14, hb_15⟩ := hb_1
  have hh_1 : jSt (dC, dI) B base G0 G0 EX14_readNumber s.heap 0 0 [(r0, 16, 26, .int qn_1), (r0, 16, 29, .int pt), (r0, 16, 30, .int pe)] [] H_1 locs_1 := (hh.call hb_11 hb_12 hb_13 hb_14 hS_1 rfl (L1 := [(r0, 16, 29, .int pt), (r0, 16, 30, .int pe)]) [0, 1] rfl rfl (M1 := []) [] rfl rfl).more hb_15
  clear hh ht_1 hvm_1 hz_1 hk_1 hS_1 hb_11 hb_12 hb_13 hb_14 hb_15
  refine lv_istore_n (lv' := [(1, .int r_2), (0, .ref r0)]) hx hb dX14_readNumber_5 rfl hl (by decide) rfl (fun ls hl => ?_)
  refine lv_aload_n hx hb dX14_readNumber_6 rfl (lv_at hl 1 rfl) ?_
  refine va_calli (A0 := jA base) (H0 := s.heap) (va_runV (As := []) (rest := []) ⟨hx, hb, hml, hown, hts⟩ (uX14_here l dC dI ca base B hB hAp hB16 hB110 G0 H_1 r0 pt pe) (cwV 0 hts gX14_readNumber_X14_here rfl rfl rfl (by decide +kernel) ⟨by rw [← hR]; exact Nat.le_of_ble_eq_true rfl, by rw [← hR]; exact Nat.le_of_ble_eq_true rfl⟩) ⟨fun a U g mk q => by obtain ⟨q0, q1, q2, qK, q10, q11, q12⟩ := q; exact ⟨q0, q1, q2, jG.calling g mk a qK, q10, q11, q12⟩, hh_1.recv (C := RX14) (T := TX14) (N := 74) hB16 rfl (by omega) hg_r0 hK, fun U hU hW => ⟨rfl, hU, hh_1.2.1, hG.step hW hU hh_1.1, hg_r0, (hh_1.2.2.1.sub (L1 := [(r0, 16, 29, .int pt), (r0, 16, 30, .int pe)]) [1, 2] rfl), by refine ⟨?_, ?_, ?_, ?_⟩ <;> (first | omega | rfl | assumption | decide | exact Or.inl rfl | exact Or.inr rfl | (simp only; omega))⟩⟩ rfl rfl hl.1 rfl (lv_room (Nat.le_of_ble_eq_true rfl)) dX14_readNumber_7 ⟨Nat.zero_le _, Nat.zero_le _⟩) hh_1.1 (fun q _ h => h) (fun q h => h) (fun r_4 u_3 t_3 H_3 locs_3 ht_3 hvm_3 hr_4 hb_3 hz_3 hk_3 hS_3 => ?_)
  rw [ht_3] at hb_3
  obtain ⟨hb_31, hb_32, hb_33, hb_34, hb_35⟩ := hb_3
  have hh_3 : jSt (dC, dI) B base G0 G0 EX14_readNumber s.heap 0 0 [(r0, 16, 26, .int qn_1), (r0, 16, 29, .int pt), (r0, 16, 30, .int pe)] [] H_3 locs_3 := (hh_1.call hb_31 hb_32 hb_33 hb_34 hS_3 rfl (L1 := [(r0, 16, 26, .int qn_1), (r0, 16, 29, .int pt), (r0, 16, 30, .int pe)]) [0, 1, 2] rfl rfl (M1 := []) [] rfl rfl).more hb_35
  clear hh_1 ht_3 hvm_3 hz_3 hk_3 hS_3 hb_31 hb_32 hb_33 hb_34 hb_35
  refine lv_bipush (v := 45) hx hb dX14_readNumber_10 (by decide) ?_
  refine lv_icmp_ne (tgt := 19) hx hb dX14_readNumber_12 (by decide) (fun c_5 => ?_) (fun c_5 => ?_)
  · skip
    have c_5' : r_4.toInt ≠ 45 := jb_ne (rfl) ((by decide)) c_5
    refine lv_iconst (v := 0) hx hb dX14_readNumber_19 (by decide) ?_
    refine lv_istore_n (lv' := [(2, .int 0), (1, .int r_2), (0, .ref r0)]) hx hb dX14_readNumber_20 rfl hl (by decide) rfl (fun ls hl => ?_)
    refine lv_iload_n hx hb dX14_readNumber_21 rfl (lv_at hl 0 rfl) ?_
    have C35 : ∀ (wt_6 : Int32) (H_6 : Heap) (locs_6 : List Loc), jSt (dC, dI) B base G0 G0 EX14_readNumber s.heap 0 0 [(r0, 16, 29, .int wt_6), (r0, 16, 26, .int qn_1), (r0, 16, 30, .int pe)] [] H_6 locs_6 → (pt.toInt ≤ wt_6.toInt ∧ wt_6.toInt ≤ pe.toInt) → ∀ ls : Array Slot, lv_has ls 9 [(0, .ref r0), (1, .int r_2), (2, .int 0)] → W p l e R s m ([.ref r0] : List Value).toArray below meth c H_6 locs_6 0 0 Q (F0 m 35 ls []) := by
      intro wt_6 H_6 locs_6 hh_6  hi_6 ls hl
      obtain ⟨hi_6_0, hi_6_1⟩ := hi_6
      refine lv_aload_n hx hb dX14_readNumber_35 rfl (lv_at hl 0 rfl) ?_
      refine j7_read hx hb hown hK (C := RX14) (T := TX14) (N := 74) rfl hly_16_29 (hts (.fieldLink RX14 273 "ProofServerModel" "at" "I") (by decide +kernel)) (hh_6.at 0 rfl) dX14_readNumber_36 ?_
      refine lv_istore_n (lv' := [(3, .int wt_6), (0, .ref r0), (1, .int r_2), (2, .int 0)]) hx hb dX14_readNumber_39 rfl hl (by decide) rfl (fun ls hl => ?_)
      refine lv_lconst (v := 0) hx hb dX14_readNumber_40 (by decide) ?_
      refine lv_lstore (lv' := [(4, .long 0), (3, .int wt_6), (0, .ref r0), (1, .int r_2), (2, .int 0)]) hx hb dX14_readNumber_41 hl (by decide) rfl (fun ls hl => ?_)
      have L43 : ∀ (N : Nat) (v4_7 : Int64) (wt_7 : Int32) (H_7 : Heap) (locs_7 : List Loc), jSt (dC, dI) B base G0 G0 EX14_readNumber s.heap 0 0 [(r0, 16, 29, .int wt_7), (r0, 16, 26, .int qn_1), (r0, 16, 30, .int pe)] [] H_7 locs_7 → (wt_6.toInt ≤ wt_7.toInt ∧ wt_7.toInt ≤ pe.toInt) → (pe.toInt - wt_7.toInt : Int) < N → ∀ ls : Array Slot, lv_has ls 9 [(0, .ref r0), (1, .int r_2), (2, .int 0), (3, .int wt_6), (4, .long v4_7)] → W p l e R s m ([.ref r0] : List Value).toArray below meth c H_7 locs_7 0 0 Q (F0 m 43 ls []) := by
        intro N
        induction N with
        | zero => intro v4_7 wt_7 H_7 locs_7 hh_7  hi_7 hm; exact absurd hm (by omega)
        | succ N L43 =>
          intro v4_7 wt_7 H_7 locs_7 hh_7  hi_7 hm_7 ls hl
          obtain ⟨hi_7_0, hi_7_1⟩ := hi_7
          refine lv_aload_n hx hb dX14_readNumber_43 rfl (lv_at hl 0 rfl) ?_
          refine va_calli (A0 := jA base) (H0 := s.heap) (va_runV (As := []) (rest := []) ⟨hx, hb, hml, hown, hts⟩ (uX14_here l dC dI ca base B hB hAp hB16 hB110 G0 H_7 r0 wt_7 pe) (cwV 0 hts gX14_readNumber_X14_here rfl rfl rfl (by decide +kernel) ⟨by rw [← hR]; exact Nat.le_of_ble_eq_true rfl, by rw [← hR]; exact Nat.le_of_ble_eq_true rfl⟩) ⟨fun a U g mk q => by obtain ⟨q0, q1, q2, qK, q10, q11, q12⟩ := q; exact ⟨q0, q1, q2, jG.calling g mk a qK, q10, q11, q12⟩, hh_7.recv (C := RX14) (T := TX14) (N := 74) hB16 rfl (by omega) hg_r0 hK, fun U hU hW => ⟨rfl, hU, hh_7.2.1, hG.step hW hU hh_7.1, hg_r0, (hh_7.2.2.1.sub (L1 := [(r0, 16, 29, .int wt_7), (r0, 16, 30, .int pe)]) [0, 2] rfl), by refine ⟨?_, ?_, ?_, ?_⟩ <;> (first | omega | rfl | assumption | decide | exact Or.inl rfl | exact Or.inr rfl | (simp only; omega))⟩⟩ rfl rfl hl.1 rfl (lv_room (Nat.le_of_ble_eq_true rfl)) dX14_readNumber_44 ⟨Nat.zero_le _, Nat.zero_le _⟩) hh_7.1 (fun q _ h => h) (fun q h => h) (fun r_9 u_8 t_8 H_8 locs_8 ht_8 hvm_8 hr_9 hb_8 hz_8 hk_8 hS_8 => ?_)
          rw [ht_8] at hb_8
          obtain ⟨hb_81, hb_82, hb_83, hb_84, hb_85⟩ := hb_8
          have hh_8 : jSt (dC, dI) B base G0 G0 EX14_readNumber s.heap 0 0 [(r0, 16, 29, .int wt_7), (r0, 16, 26, .int qn_1), (r0, 16, 30, .int pe)] [] H_8 locs_8 := (hh_7.call hb_81 hb_82 hb_83 hb_84 hS_8 rfl (L1 := [(r0, 16, 29, .int wt_7), (r0, 16, 26, .int qn_1), (r0, 16, 30, .int pe)]) [0, 1, 2] rfl rfl (M1 := []) [] rfl rfl).more hb_85
          clear hh_7 ht_8 hvm_8 hz_8 hk_8 hS_8 hb_81 hb_82 hb_83 hb_84 hb_85
          refine va_calli (A0 := jA base) (H0 := s.heap) (va_runS (As := [.int r_9]) (rest := []) ⟨hx, hb, hml, hown, hts⟩ (uX14_isDigit l dC dI ca base B hB hAp G0 H_8 r_9) (va_cwS 1 hts gX14_readNumber_X14_isDigit rfl rfl rfl (by decide +kernel) ⟨by rw [← hR]; exact Nat.le_of_ble_eq_true rfl, by rw [← hR]; exact Nat.le_of_ble_eq_true rfl⟩) ⟨fun a U g mk q => by obtain ⟨q0, q1, q2, qK, q10, q11⟩ := q; exact ⟨q0, q1, q2, jG.calling g mk a qK, q10, q11⟩, fun U hU hW => ⟨rfl, hU, hh_8.2.1, hG.step hW hU hh_8.1, jP.nil, trivial⟩⟩ rfl rfl hl.1 rfl (lv_room (Nat.le_of_ble_eq_true rfl)) dX14_readNumber_47 ⟨Nat.zero_le _, Nat.zero_le _⟩) hh_8.1 (fun q _ h => h) (fun q h => h) (fun r_11 u_10 t_10 H_10 locs_10 ht_10 hvm_10 hr_11 hb_10 hz_10 hk_10 hS_10 => ?_)
          rw [ht_10] at hb_10
          obtain ⟨hb_101, hb_102, hb_103, hb_104, hb_105⟩ := hb_10
          have hh_10 : jSt (dC, dI) B base G0 G0 EX14_readNumber s.heap 0 0 [(r0, 16, 29, .int wt_7), (r0, 16, 26, .int qn_1), (r0, 16, 30, .int pe)] [] H_10 locs_10 := (hh_8.call hb_101 hb_102 hb_103 hb_104 hS_10 rfl (L1 := [(r0, 16, 29, .int wt_7), (r0, 16, 26, .int qn_1), (r0, 16, 30, .int pe)]) [0, 1, 2] rfl rfl (M1 := []) [] rfl rfl).more hb_105
          clear hh_8 ht_10 hvm_10 hz_10 hk_10 hS_10 hb_101 hb_102 hb_103 hb_104 hb_105
          obtain ⟨hr_11b, hr_11p⟩ := hr_11
          have hr_11' := jb_01 hr_11b
          refine lv_if_eq (tgt := 98) hx hb dX14_readNumber_50 (by decide) (fun c_12 => ?_) (fun c_12 => ?_)
          · skip
            have c_12' : r_11.toInt = 0 := jb_eq (rfl) ((by decide)) c_12
            refine lv_aload_n hx hb dX14_readNumber_98 rfl (lv_at hl 0 rfl) ?_
            refine j7_read hx hb hown hK (C := RX14) (T := TX14) (N := 74) rfl hly_16_29 (hts (.fieldLink RX14 273 "ProofServerModel" "at" "I") (by decide +kernel)) (hh_10.at 0 rfl) dX14_readNumber_99 ?_
            refine lv_iload_n hx hb dX14_readNumber_102 rfl (lv_at hl 3 rfl) ?_
            refine lv_icmp_eq (tgt := 127) hx hb dX14_readNumber_103 (by decide) (fun c_13 => ?_) (fun c_13 => ?_)
            · skip
              have c_13' : wt_7.toInt = wt_6.toInt := jb_eq (rfl) (rfl) c_13
              refine lv_aload_n hx hb dX14_readNumber_127 rfl (lv_at hl 0 rfl) ?_
              refine lv_iconst (v := 1) hx hb dX14_readNumber_128 (by decide) ?_
              refine j7_put hx hb hown hK hh_10 hB hAp hB16 (C := RX14) (T := TX14) (N := 74) rfl (by omega) hg_r0 (i := 31) (by decide) hly_16_31 rfl (hts (.fieldLink RX14 288 "ProofServerModel" "bad" "Z") (by decide +kernel)) rfl (ty := .boolean) (v := .int 1) (by decide +kernel) (jb_nz (Or.inr rfl)) (jb_fz (Or.inr rfl)) (⟨_, rfl, (Or.inr rfl)⟩) rfl (L1 := [(r0, 16, 29, .int wt_7), (r0, 16, 26, .int qn_1), (r0, 16, 30, .int pe)]) [0, 1, 2] rfl rfl dX14_readNumber_129 (fun H_14 locs_14 hh_14 => ?_)
              clear hh_10
              refine lv_iconst (v := 1) hx hb dX14_readNumber_132 (by decide) ?_
              refine lv_istore (lv' := [(6, .int 1), (0, .ref r0), (1, .int r_2), (2, .int 0), (3, .int wt_6), (4, .long v4_7)]) hx hb dX14_readNumber_133 hl (by decide) rfl (fun ls hl => ?_)
              refine lv_aload_n hx hb dX14_readNumber_135 rfl (lv_at hl 1 rfl) ?_
              refine j7_read hx hb hown hK (C := RX14) (T := TX14) (N := 74) rfl hly_16_31 (hts (.fieldLink RX14 288 "ProofServerModel" "bad" "Z") (by decide +kernel)) (hh_14.at 0 rfl) dX14_readNumber_136 ?_
              have C168 : ∀ (v6_15 : Int32) (wt_15 : Int32) (wb_15 : Int32) (H_15 : Heap) (locs_15 : List Loc), jSt (dC, dI) B base G0 G0 EX14_readNumber s.heap 0 0 [(r0, 16, 29, .int wt_15), (r0, 16, 31, .int wb_15), (r0, 16, 26, .int qn_1), (r0, 16, 30, .int pe)] [] H_15 locs_15 → (v6_15 = 0 ∨ v6_15 = 1) → (pt.toInt ≤ wt_15.toInt ∧ wt_15.toInt ≤ pe.toInt ∧ (wb_15.toInt = 1 ∨ pt.toInt + 1 ≤ wt_15.toInt)) → ∀ ls : Array Slot, lv_has ls 9 [(0, .ref r0), (1, .int r_2), (2, .int 0), (3, .int wt_6), (4, .long v4_7), (6, .int v6_15)] → W p l e R s m ([.ref r0] : List Value).toArray below meth c H_15 locs_15 0 0 Q (F0 m 168 ls []) := by
                intro v6_15 wt_15 wb_15 H_15 locs_15 hh_15 hb_v6_15 hi_15 ls hl
                obtain ⟨hi_15_0, hi_15_1, hi_15_2⟩ := hi_15
                have hb_v6_15' := jb_01 hb_v6_15
                refine lv_aload_n hx hb dX14_readNumber_168 rfl (lv_at hl 0 rfl) ?_
                refine j7_read hx hb hown hK (C := RX14) (T := TX14) (N := 74) rfl hly_16_31 (hts (.fieldLink RX14 288 "ProofServerModel" "bad" "Z") (by decide +kernel)) (hh_15.at 1 rfl) dX14_readNumber_169 ?_
                have C238 : ∀ (v6_16 : Int32) (wt_16 : Int32) (wb_16 : Int32) (H_16 : Heap) (locs_16 : List Loc), jSt (dC, dI) B base G0 G0 EX14_readNumber s.heap 0 0 [(r0, 16, 29, .int wt_16), (r0, 16, 31, .int wb_16), (r0, 16, 26, .int qn_1), (r0, 16, 30, .int pe)] [] H_16 locs_16 → (v6_16 = 0 ∨ v6_16 = 1) → (pt.toInt ≤ wt_16.toInt ∧ wt_16.toInt ≤ pe.toInt ∧ (wb_16.toInt = 1 ∨ pt.toInt + 1 ≤ wt_16.toInt)) → ∀ ls : Array Slot, lv_has ls 9 [(0, .ref r0), (1, .int r_2), (2, .int 0), (3, .int wt_6), (4, .long v4_7), (6, .int v6_16)] → W p l e R s m ([.ref r0] : List Value).toArray below meth c H_16 locs_16 0 0 Q (F0 m 238 ls []) := by
                  intro v6_16 wt_16 wb_16 H_16 locs_16 hh_16 hb_v6_16 hi_16 ls hl
                  obtain ⟨hi_16_0, hi_16_1, hi_16_2⟩ := hi_16
                  have hb_v6_16' := jb_01 hb_v6_16
                  refine lv_iload_n hx hb dX14_readNumber_238 rfl (lv_at hl 2 rfl) ?_
                  refine lv_if_eq (tgt := 248) hx hb dX14_readNumber_239 (by decide) (fun c_17 => ?_) (fun c_17 => ?_)
                  · skip
                    refine lv_lload hx hb dX14_readNumber_248 (lv_at hl 4 rfl) ?_
                    refine lv_lstore (lv' := [(7, .long v4_7), (0, .ref r0), (1, .int r_2), (2, .int 0), (3, .int wt_6), (4, .long v4_7), (6, .int v6_16)]) hx hb dX14_readNumber_250 hl (by decide) rfl (fun ls hl => ?_)
                    refine lv_aload_n hx hb dX14_readNumber_252 rfl (lv_at hl 1 rfl) ?_
                    obtain ⟨v_18, hv_18, hh_19⟩ := hh_16.pin (C := RX14) (T := TX14) (N := 74) hB16 rfl (by omega) hg_r0 (i := 24) (by decide) rfl
                    clear hh_16
                    obtain ⟨isInt_20, rfl, hg_isInt_20⟩ := hv_18
                    refine j7_read hx hb hown hK (C := RX14) (T := TX14) (N := 74) rfl hly_16_24 (hts (.fieldLink RX14 58 "ProofServerModel" "isInt" "[Z") (by decide +kernel)) (hh_19.at 0 rfl) dX14_readNumber_253 ?_
                    refine lv_iload_n hx hb dX14_readNumber_256 rfl (lv_at hl 2 rfl) ?_
                    refine lv_iload hx hb dX14_readNumber_257 (lv_at hl 6 rfl) ?_
                    have C285 : ∀ (w0_21 : Int32) (H_21 : Heap) (locs_21 : List Loc), jSt (dC, dI) B base G0 G0 EX14_readNumber s.heap 0 0 [(r0, 16, 24, .ref isInt_20), (r0, 16, 29, .int wt_16), (r0, 16, 31, .int wb_16), (r0, 16, 26, .int qn_1), (r0, 16, 30, .int pe)] [] H_21 locs_21 → (w0_21 = 0 ∨ w0_21 = 1) → (True) → ∀ ls : Array Slot, lv_has ls 9 [(0, .ref r0), (1, .int r_2), (2, .int 0), (3, .int wt_6), (4, .long v4_7), (6, .int v6_16), (7, .long v4_7)] → W p l e R s m ([.ref r0] : List Value).toArray below meth c H_21 locs_21 0 0 Q (F0 m 285 ls [.int w0_21, .int r_2, .ref isInt_20]) := by
                      intro w0_21 H_21 locs_21 hh_21 hb_w0_21 hi_21 ls hl
                      have hb_w0_21' := jb_01 hb_w0_21
                      refine j7_zast hx hb hK hh_21 hB hB124 3 rfl (by omega) (by omega) rfl rfl hg_isInt_20 (rfl) (by omega) (by omega) (hb_w0_21) (hb_w0_21) dX14_readNumber_285 (fun H_22 locs_22 hh_22 => ?_)
                      clear hh_21
                      refine lv_aload_n hx hb dX14_readNumber_286 rfl (lv_at hl 0 rfl) ?_
                      obtain ⟨v_23, hv_23, hh_24⟩ := hh_22.pin (C := RX14) (T := TX14) (N := 74) hB16 rfl (by omega) hg_r0 (i := 25) (by decide) rfl
                      clear hh_22
                      obtain ⟨ints_25, rfl, hg_ints_25⟩ := hv_23
                      refine j7_read hx hb hown hK (C := RX14) (T := TX14) (N := 74) rfl hly_16_25 (hts (.fieldLink RX14 62 "ProofServerModel" "ints" "[I") (by decide +kernel)) (hh_24.at 0 rfl) dX14_readNumber_287 ?_
                      refine lv_iload_n hx hb dX14_readNumber_290 rfl (lv_at hl 1 rfl) ?_
                      refine lv_lload hx hb dX14_readNumber_291 (lv_at hl 6 rfl) ?_
                      refine lv_l2i hx hb dX14_readNumber_293 rfl ?_
                      refine lv_topi (fun z_26 ez_26 => ?_)
                      refine j7_iast hx hb hK hh_24 hB hB125 1 rfl (by omega) (by omega) rfl rfl hg_ints_25 (rfl) (by omega) (by omega) (trivial) dX14_readNumber_294 (fun H_27 locs_27 hh_27 => ?_)
                      clear hh_24
                      refine lv_iload_n hx hb dX14_readNumber_295 rfl (lv_at hl 1 rfl) ?_
                      rw [hQ]
                      exact W.iret (v := r_2) hx hb hr (fun t ht hW => ⟨⟨r_2, (wt_16, qn_1, wb_16), rfl, by refine ⟨?_, ?_, ?_, ?_, ?_⟩ <;> (first | omega | rfl | assumption | decide | exact Or.inl rfl | exact Or.inr rfl | (simp only; omega)), hh_27.rt (M1 := [(r0, 16, 29, .int wt_16), (r0, 16, 26, .int qn_1), (r0, 16, 31, .int wb_16)]) [2, 4, 3] rfl ht⟩, by rw [ht]; exact hh_27.1.1, fun q h9 hq => by rw [ht]; exact hh_27.1.2.1 q h9 hq⟩) hh_27.1.2.2 dX14_readNumber_296
                    refine lv_if_eq (tgt := 284) hx hb dX14_readNumber_259 (by decide) (fun c_28 => ?_) (fun c_28 => ?_)
                    · skip
                      have c_28' : v6_16.toInt = 0 := jb_eq (rfl) ((by decide)) c_28
                      refine lv_iconst (v := 0) hx hb dX14_readNumber_284 (by decide) ?_
                      exact C285 0 _ _ hh_19 (Or.inl rfl) (trivial) _ (lv_sub hl [1, 2, 3, 4, 5, 6, 0] rfl)
                    · skip
                      have c_28' : v6_16.toInt ≠ 0 := jb_eq_n (rfl) ((by decide)) c_28
                      refine lv_lload hx hb dX14_readNumber_262 (lv_at hl 0 rfl) ?_
                      refine lv_ldc2 hx hb hown (hts (.constantLong RX14 329 (-2147483648)) (by decide +kernel)) dX14_readNumber_264 ?_
                      refine W.lcmp hx hb dX14_readNumber_267 ?_
                      refine lv_topi (fun z_29 ez_29 => ?_)
                      have hz_29 := jb_lcmp ez_29
                      have hqz_29_m2147483648 : ((-2147483648) : Int64).toInt = (-2147483648) := by decide
                      refine lv_if_lt (tgt := 284) hx hb dX14_readNumber_268 (by decide) (fun c_30 => ?_) (fun c_30 => ?_)
                      · skip
                        have c_30' : z_29.toInt < 0 := jb_lt (rfl) ((by decide)) c_30
                        refine lv_iconst (v := 0) hx hb dX14_readNumber_284 (by decide) ?_
                        exact C285 0 _ _ hh_19 (Or.inl rfl) (trivial) _ (lv_sub hl [1, 2, 3, 4, 5, 6, 0] rfl)
                      · skip
                        have c_30' : z_29.toInt ≥ 0 := jb_lt_n (rfl) ((by decide)) c_30
                        refine lv_lload hx hb dX14_readNumber_271 (lv_at hl 0 rfl) ?_
                        refine lv_ldc2 hx hb hown (hts (.constantLong RX14 331 2147483647) (by decide +kernel)) dX14_readNumber_273 ?_
                        refine W.lcmp hx hb dX14_readNumber_276 ?_
                        refine lv_topi (fun z_31 ez_31 => ?_)
                        have hz_31 := jb_lcmp ez_31
                        have hqz_31_2147483647 : (2147483647 : Int64).toInt = 2147483647 := by decide
                        refine lv_if_gt (tgt := 284) hx hb dX14_readNumber_277 (by decide) (fun c_32 => ?_) (fun c_32 => ?_)
                        · skip
                          have c_32' : z_31.toInt > 0 := jb_gt (rfl) ((by decide)) c_32
                          refine lv_iconst (v := 0) hx hb dX14_readNumber_284 (by decide) ?_
                          exact C285 0 _ _ hh_19 (Or.inl rfl) (trivial) _ (lv_sub hl [1, 2, 3, 4, 5, 6, 0] rfl)
                        · skip
                          have c_32' : z_31.toInt ≤ 0 := jb_gt_n (rfl) ((by decide)) c_32
                          refine lv_iconst (v := 1) hx hb dX14_readNumber_280 (by decide) ?_
                          refine lv_goto (tgt := 285) hx hb dX14_readNumber_281 (by decide) ?_
                          exact C285 1 _ _ hh_19 (Or.inr rfl) (trivial) _ (lv_sub hl [1, 2, 3, 4, 5, 6, 0] rfl)
                  · skip
                    exact absurd c_17 (by decide)
                refine lv_if_ne (tgt := 238) hx hb dX14_readNumber_172 (by decide) (fun c_33 => ?_) (fun c_33 => ?_)
                · skip
                  have c_33' : wb_15.toInt ≠ 0 := jb_ne (rfl) ((by decide)) c_33
                  exact C238 v6_15 wt_15 wb_15 _ _ hh_15 (hb_v6_15) (by refine ⟨?_, ?_, ?_⟩ <;> (first | omega | rfl | assumption | decide | exact Or.inl rfl | exact Or.inr rfl | (simp only; omega))) _ (lv_sub hl [0, 1, 2, 3, 4, 5] rfl)
                · skip
                  have c_33' : wb_15.toInt = 0 := jb_ne_n (rfl) ((by decide)) c_33
                  refine lv_aload_n hx hb dX14_readNumber_175 rfl (lv_at hl 0 rfl) ?_
                  refine va_calli (A0 := jA base) (H0 := s.heap) (va_runV (As := []) (rest := []) ⟨hx, hb, hml, hown, hts⟩ (uX14_here l dC dI ca base B hB hAp hB16 hB110 G0 H_15 r0 wt_15 pe) (cwV 0 hts gX14_readNumber_X14_here rfl rfl rfl (by decide +kernel) ⟨by rw [← hR]; exact Nat.le_of_ble_eq_true rfl, by rw [← hR]; exact Nat.le_of_ble_eq_true rfl⟩) ⟨fun a U g mk q => by obtain ⟨q0, q1, q2, qK, q10, q11, q12⟩ := q; exact ⟨q0, q1, q2, jG.calling g mk a qK, q10, q11, q12⟩, hh_15.recv (C := RX14) (T := TX14) (N := 74) hB16 rfl (by omega) hg_r0 hK, fun U hU hW => ⟨rfl, hU, hh_15.2.1, hG.step hW hU hh_15.1, hg_r0, (hh_15.2.2.1.sub (L1 := [(r0, 16, 29, .int wt_15), (r0, 16, 30, .int pe)]) [0, 3] rfl), by refine ⟨?_, ?_, ?_, ?_⟩ <;> (first | omega | rfl | assumption | decide | exact Or.inl rfl | exact Or.inr rfl | (simp only; omega))⟩⟩ rfl rfl hl.1 rfl (lv_room (Nat.le_of_ble_eq_true rfl)) dX14_readNumber_176 ⟨Nat.zero_le _, Nat.zero_le _⟩) hh_15.1 (fun q _ h => h) (fun q h => h) (fun r_35 u_34 t_34 H_34 locs_34 ht_34 hvm_34 hr_35 hb_34 hz_34 hk_34 hS_34 => ?_)
                  rw [ht_34] at hb_34
                  obtain ⟨hb_341, hb_342, hb_343, hb_344, hb_345⟩ := hb_34
                  have hh_34 : jSt (dC, dI) B base G0 G0 EX14_readNumber s.heap 0 0 [(r0, 16, 29, .int wt_15), (r0, 16, 31, .int wb_15), (r0, 16, 26, .int qn_1), (r0, 16, 30, .int pe)] [] H_34 locs_34 := (hh_15.call hb_341 hb_342 hb_343 hb_344 hS_34 rfl (L1 := [(r0, 16, 29, .int wt_15), (r0, 16, 31, .int wb_15), (r0, 16, 26, .int qn_1), (r0, 16, 30, .int pe)]) [0, 1, 2, 3] rfl rfl (M1 := []) [] rfl rfl).more hb_345
                  clear hh_15 ht_34 hvm_34 hz_34 hk_34 hS_34 hb_341 hb_342 hb_343 hb_344 hb_345
                  refine lv_bipush (v := 101) hx hb dX14_readNumber_179 (by decide) ?_
                  refine lv_icmp_eq (tgt := 193) hx hb dX14_readNumber_181 (by decide) (fun c_36 => ?_) (fun c_36 => ?_)
                  · skip
                    have c_36' : r_35.toInt = 101 := jb_eq (rfl) ((by decide)) c_36
                    refine lv_iconst (v := 0) hx hb dX14_readNumber_193 (by decide) ?_
                    refine lv_istore (lv' := [(6, .int 0), (0, .ref r0), (1, .int r_2), (2, .int 0), (3, .int wt_6), (4, .long v4_7)]) hx hb dX14_readNumber_194 hl (by decide) rfl (fun ls hl => ?_)
                    refine lv_aload_n hx hb dX14_readNumber_196 rfl (lv_at hl 1 rfl) ?_
                    refine lv_dup hx hb dX14_readNumber_197 rfl ?_
                    refine j7_read hx hb hown hK (C := RX14) (T := TX14) (N := 74) rfl hly_16_29 (hts (.fieldLink RX14 273 "ProofServerModel" "at" "I") (by decide +kernel)) (hh_34.at 0 rfl) dX14_readNumber_198 ?_
                    refine lv_iconst (v := 1) hx hb dX14_readNumber_201 (by decide) ?_
                    refine lv_iadd hx hb dX14_readNumber_202 ?_
                    refine lv_topi (fun z_37 ez_37 => ?_)
                    have hz_37 : z_37.toInt = wt_15.toInt + 1 := by rw [ez_37]; exact jb_iadd (rfl) ((by decide)) (by omega) (by omega)
                    refine j7_put hx hb hown hK hh_34 hB hAp hB16 (C := RX14) (T := TX14) (N := 74) rfl (by omega) hg_r0 (i := 29) (by decide) hly_16_29 rfl (hts (.fieldLink RX14 273 "ProofServerModel" "at" "I") (by decide +kernel)) rfl (ty := .int) (v := .int z_37) (by decide +kernel) rfl rfl (⟨_, rfl, by omega, by omega⟩) rfl (L1 := [(r0, 16, 31, .int wb_15), (r0, 16, 26, .int qn_1), (r0, 16, 30, .int pe)]) [1, 2, 3] rfl rfl dX14_readNumber_203 (fun H_38 locs_38 hh_38 => ?_)
                    clear hh_34
                    refine lv_aload_n hx hb dX14_readNumber_206 rfl (lv_at hl 1 rfl) ?_
                    refine va_calli (A0 := jA base) (H0 := s.heap) (va_runV (As := []) (rest := []) ⟨hx, hb, hml, hown, hts⟩ (uX14_here l dC dI ca base B hB hAp hB16 hB110 G0 H_38 r0 z_37 pe) (cwV 0 hts gX14_readNumber_X14_here rfl rfl rfl (by decide +kernel) ⟨by rw [← hR]; exact Nat.le_of_ble_eq_true rfl, by rw [← hR]; exact Nat.le_of_ble_eq_true rfl⟩) ⟨fun a U g mk q => by obtain ⟨q0, q1, q2, qK, q10, q11, q12⟩ := q; exact ⟨q0, q1, q2, jG.calling g mk a qK, q10, q11, q12⟩, hh_38.recv (C := RX14) (T := TX14) (N := 74) hB16 rfl (by omega) hg_r0 hK, fun U hU hW => ⟨rfl, hU, hh_38.2.1, hG.step hW hU hh_38.1, hg_r0, (hh_38.2.2.1.sub (L1 := [(r0, 16, 29, .int z_37), (r0, 16, 30, .int pe)]) [0, 3] rfl), by refine ⟨?_, ?_, ?_, ?_⟩ <;> (first | omega | rfl | assumption | decide | exact Or.inl rfl | exact Or.inr rfl | (simp only; omega))⟩⟩ rfl rfl hl.1 rfl (lv_room (Nat.le_of_ble_eq_true rfl)) dX14_readNumber_207 ⟨Nat.zero_le _, Nat.zero_le _⟩) hh_38.1 (fun q _ h => h) (fun q h => h) (fun r_40 u_39 t_39 H_39 locs_39 ht_39 hvm_39 hr_40 hb_39 hz_39 hk_39 hS_39 => ?_)
                    rw [ht_39] at hb_39
                    obtain ⟨hb_391, hb_392, hb_393, hb_394, hb_395⟩ := hb_39
                    have hh_39 : jSt (dC, dI) B base G0 G0 EX14_readNumber s.heap 0 0 [(r0, 16, 29, .int z_37), (r0, 16, 31, .int wb_15), (r0, 16, 26, .int qn_1), (r0, 16, 30, .int pe)] [] H_39 locs_39 := (hh_38.call hb_391 hb_392 hb_393 hb_394 hS_39 rfl (L1 := [(r0, 16, 29, .int z_37), (r0, 16, 31, .int wb_15), (r0, 16, 26, .int qn_1), (r0, 16, 30, .int pe)]) [0, 1, 2, 3] rfl rfl (M1 := []) [] rfl rfl).more hb_395
                    clear hh_38 ht_39 hvm_39 hz_39 hk_39 hS_39 hb_391 hb_392 hb_393 hb_394 hb_395
                    refine lv_bipush (v := 43) hx hb dX14_readNumber_210 (by decide) ?_
                    have C234 : ∀ (wt_41 : Int32) (H_41 : Heap) (locs_41 : List Loc), jSt (dC, dI) B base G0 G0 EX14_readNumber s.heap 0 0 [(r0, 16, 29, .int wt_41), (r0, 16, 31, .int wb_15), (r0, 16, 26, .int qn_1), (r0, 16, 30, .int pe)] [] H_41 locs_41 → (pt.toInt ≤ wt_41.toInt ∧ wt_41.toInt ≤ pe.toInt ∧ pt.toInt + 1 ≤ wt_41.toInt) → ∀ ls : Array Slot, lv_has ls 9 [(0, .ref r0), (1, .int r_2), (2, .int 0), (3, .int wt_6), (4, .long v4_7), (6, .int 0)] → W p l e R s m ([.ref r0] : List Value).toArray below meth c H_41 locs_41 0 0 Q (F0 m 234 ls []) := by
                      intro wt_41 H_41 locs_41 hh_41  hi_41 ls hl
                      obtain ⟨hi_41_0, hi_41_1, hi_41_2⟩ := hi_41
                      refine lv_aload_n hx hb dX14_readNumber_234 rfl (lv_at hl 0 rfl) ?_
                      refine va_callv (A0 := jA base) (H0 := s.heap) (va_runV (As := []) (rest := []) ⟨hx, hb, hml, hown, hts⟩ (uX14_digits l dC dI ca base B hB hAp hB16 hB110 G0 H_41 r0 wt_41 pe) (cwV 0 hts gX14_readNumber_X14_digits rfl rfl rfl (by decide +kernel) ⟨by rw [← hR]; exact Nat.le_of_ble_eq_true rfl, by rw [← hR]; exact Nat.le_of_ble_eq_true rfl⟩) ⟨fun a U g mk q => by obtain ⟨q0, q1, q2, qK, q10, q11, q12⟩ := q; exact ⟨q0, q1, q2, jG.calling g mk a qK, q10, q11, q12⟩, hh_41.recv (C := RX14) (T := TX14) (N := 74) hB16 rfl (by omega) hg_r0 hK, fun U hU hW => ⟨rfl, hU, hh_41.2.1, hG.step hW hU hh_41.1, hg_r0, (hh_41.2.2.1.sub (L1 := [(r0, 16, 29, .int wt_41), (r0, 16, 30, .int pe)]) [0, 3] rfl), by refine ⟨?_, ?_, ?_, ?_⟩ <;> (first | omega | rfl | assumption | decide | exact Or.inl rfl | exact Or.inr rfl | (simp only; omega))⟩⟩ rfl rfl hl.1 rfl (lv_room (Nat.le_of_ble_eq_true rfl)) dX14_readNumber_235 ⟨Nat.zero_le _, Nat.zero_le _⟩) hh_41.1 (fun q _ h => h) (fun q h => h) (fun u_42 t_42 H_42 locs_42 ht_42 hvm_42 hr_43 hb_42 hz_42 hk_42 hS_42 => ?_)
                      obtain ⟨qt_42, rfl⟩ : ∃ z, z = u_42 := ⟨_, rfl⟩
                      rw [ht_42] at hb_42
                      obtain ⟨hb_421, hb_422, hb_423, hb_424, hb_425⟩ := hb_42
                      have hh_42 : jSt (dC, dI) B base G0 G0 EX14_readNumber s.heap 0 0 [(r0, 16, 29, .int qt_42), (r0, 16, 26, .int qn_1), (r0, 16, 30, .int pe)] [] H_42 locs_42 := (hh_41.call hb_421 hb_422 hb_423 hb_424 hS_42 rfl (L1 := [(r0, 16, 26, .int qn_1), (r0, 16, 30, .int pe)]) [2, 3] rfl rfl (M1 := []) [] rfl rfl).more hb_425
                      clear hh_41 ht_42 hvm_42 hz_42 hk_42 hS_42 hb_421 hb_422 hb_423 hb_424 hb_425
                      obtain ⟨v_44, hv_44, hh_45⟩ := hh_42.pin (C := RX14) (T := TX14) (N := 74) hB16 rfl (by omega) hg_r0 (i := 31) (by decide) rfl
                      obtain ⟨bad_46, rfl, hzbad_46⟩ := hv_44
                      have hzbad_46' := jb_01 hzbad_46
                      exact C238 0 qt_42 bad_46 _ _ (hh_45.sub (L1 := [(r0, 16, 29, .int qt_42), (r0, 16, 31, .int bad_46), (r0, 16, 26, .int qn_1), (r0, 16, 30, .int pe)]) [1, 0, 2, 3] rfl (M1 := []) [] rfl) (Or.inl rfl) (by refine ⟨?_, ?_, ?_⟩ <;> (first | omega | rfl | assumption | decide | exact Or.inl rfl | exact Or.inr rfl | (simp only; omega))) _ (lv_sub hl [0, 1, 2, 3, 4, 5] rfl)
                    refine lv_icmp_eq (tgt := 224) hx hb dX14_readNumber_212 (by decide) (fun c_47 => ?_) (fun c_47 => ?_)
                    · skip
                      have c_47' : r_40.toInt = 43 := jb_eq (rfl) ((by decide)) c_47
                      refine lv_aload_n hx hb dX14_readNumber_224 rfl (lv_at hl 1 rfl) ?_
                      refine lv_dup hx hb dX14_readNumber_225 rfl ?_
                      refine j7_read hx hb hown hK (C := RX14) (T := TX14) (N := 74) rfl hly_16_29 (hts (.fieldLink RX14 273 "ProofServerModel" "at" "I") (by decide +kernel)) (hh_39.at 0 rfl) dX14_readNumber_226 ?_
                      refine lv_iconst (v := 1) hx hb dX14_readNumber_229 (by decide) ?_
                      refine lv_iadd hx hb dX14_readNumber_230 ?_
                      refine lv_topi (fun z_48 ez_48 => ?_)
                      have hz_48 : z_48.toInt = z_37.toInt + 1 := by rw [ez_48]; exact jb_iadd (rfl) ((by decide)) (by omega) (by omega)
                      refine j7_put hx hb hown hK hh_39 hB hAp hB16 (C := RX14) (T := TX14) (N := 74) rfl (by omega) hg_r0 (i := 29) (by decide) hly_16_29 rfl (hts (.fieldLink RX14 273 "ProofServerModel" "at" "I") (by decide +kernel)) rfl (ty := .int) (v := .int z_48) (by decide +kernel) rfl rfl (⟨_, rfl, by omega, by omega⟩) rfl (L1 := [(r0, 16, 31, .int wb_15), (r0, 16, 26, .int qn_1), (r0, 16, 30, .int pe)]) [1, 2, 3] rfl rfl dX14_readNumber_231 (fun H_49 locs_49 hh_49 => ?_)
                      clear hh_39
                      exact C234 z_48 _ _ hh_49 (by refine ⟨?_, ?_, ?_⟩ <;> (first | omega | rfl | assumption | decide | exact Or.inl rfl | exact Or.inr rfl | (simp only; omega))) _ (lv_sub hl [1, 2, 3, 4, 5, 0] rfl)
                    · skip
                      have c_47' : r_40.toInt ≠ 43 := jb_eq_n (rfl) ((by decide)) c_47
                      refine lv_aload_n hx hb dX14_readNumber_215 rfl (lv_at hl 1 rfl) ?_
                      refine va_calli (A0 := jA base) (H0 := s.heap) (va_runV (As := []) (rest := []) ⟨hx, hb, hml, hown, hts⟩ (uX14_here l dC dI ca base B hB hAp hB16 hB110 G0 H_39 r0 z_37 pe) (cwV 0 hts gX14_readNumber_X14_here rfl rfl rfl (by decide +kernel) ⟨by rw [← hR]; exact Nat.le_of_ble_eq_true rfl, by rw [← hR]; exact Nat.le_of_ble_eq_true rfl⟩) ⟨fun a U g mk q => by obtain ⟨q0, q1, q2, qK, q10, q11, q12⟩ := q; exact ⟨q0, q1, q2, jG.calling g mk a qK, q10, q11, q12⟩, hh_39.recv (C := RX14) (T := TX14) (N := 74) hB16 rfl (by omega) hg_r0 hK, fun U hU hW => ⟨rfl, hU, hh_39.2.1, hG.step hW hU hh_39.1, hg_r0, (hh_39.2.2.1.sub (L1 := [(r0, 16, 29, .int z_37), (r0, 16, 30, .int pe)]) [0, 3] rfl), by refine ⟨?_, ?_, ?_, ?_⟩ <;> (first | omega | rfl | assumption | decide | exact Or.inl rfl | exact Or.inr rfl | (simp only; omega))⟩⟩ rfl rfl hl.1 rfl (lv_room (Nat.le_of_ble_eq_true rfl)) dX14_readNumber_216 ⟨Nat.zero_le _, Nat.zero_le _⟩) hh_39.1 (fun q _ h => h) (fun q h => h) (fun r_51 u_50 t_50 H_50 locs_50 ht_50 hvm_50 hr_51 hb_50 hz_50 hk_50 hS_50 => ?_)
                      rw [ht_50] at hb_50
                      obtain ⟨hb_501, hb_502, hb_503, hb_504, hb_505⟩ := hb_50
                      have hh_50 : jSt (dC, dI) B base G0 G0 EX14_readNumber s.heap 0 0 [(r0, 16, 29, .int z_37), (r0, 16, 31, .int wb_15), (r0, 16, 26, .int qn_1), (r0, 16, 30, .int pe)] [] H_50 locs_50 := (hh_39.call hb_501 hb_502 hb_503 hb_504 hS_50 rfl (L1 := [(r0, 16, 29, .int z_37), (r0, 16, 31, .int wb_15), (r0, 16, 26, .int qn_1), (r0, 16, 30, .int pe)]) [0, 1, 2, 3] rfl rfl (M1 := []) [] rfl rfl).more hb_505
                      clear hh_39 ht_50 hvm_50 hz_50 hk_50 hS_50 hb_501 hb_502 hb_503 hb_504 hb_505
                      refine lv_bipush (v := 45) hx hb dX14_readNumber_219 (by decide) ?_
                      refine lv_icmp_ne (tgt := 234) hx hb dX14_readNumber_221 (by decide) (fun c_52 => ?_) (fun c_52 => ?_)
                      · skip
                        have c_52' : r_51.toInt ≠ 45 := jb_ne (rfl) ((by decide)) c_52
                        exact C234 z_37 _ _ hh_50 (by refine ⟨?_, ?_, ?_⟩ <;> (first | omega | rfl | assumption | decide | exact Or.inl rfl | exact Or.inr rfl | (simp only; omega))) _ (lv_sub hl [1, 2, 3, 4, 5, 0] rfl)
                      · skip
                        have c_52' : r_51.toInt = 45 := jb_ne_n (rfl) ((by decide)) c_52
                        refine lv_aload_n hx hb dX14_readNumber_224 rfl (lv_at hl 1 rfl) ?_
                        refine lv_dup hx hb dX14_readNumber_225 rfl ?_
                        refine j7_read hx hb hown hK (C := RX14) (T := TX14) (N := 74) rfl hly_16_29 (hts (.fieldLink RX14 273 "ProofServerModel" "at" "I") (by decide +kernel)) (hh_50.at 0 rfl) dX14_readNumber_226 ?_
                        refine lv_iconst (v := 1) hx hb dX14_readNumber_229 (by decide) ?_
                        refine lv_iadd hx hb dX14_readNumber_230 ?_
                        refine lv_topi (fun z_53 ez_53 => ?_)
                        have hz_53 : z_53.toInt = z_37.toInt + 1 := by rw [ez_53]; exact jb_iadd (rfl) ((by decide)) (by omega) (by omega)
                        refine j7_put hx hb hown hK hh_50 hB hAp hB16 (C := RX14) (T := TX14) (N := 74) rfl (by omega) hg_r0 (i := 29) (by decide) hly_16_29 rfl (hts (.fieldLink RX14 273 "ProofServerModel" "at" "I") (by decide +kernel)) rfl (ty := .int) (v := .int z_53) (by decide +kernel) rfl rfl (⟨_, rfl, by omega, by omega⟩) rfl (L1 := [(r0, 16, 31, .int wb_15), (r0, 16, 26, .int qn_1), (r0, 16, 30, .int pe)]) [1, 2, 3] rfl rfl dX14_readNumber_231 (fun H_54 locs_54 hh_54 => ?_)
                        clear hh_50
                        exact C234 z_53 _ _ hh_54 (by refine ⟨?_, ?_, ?_⟩ <;> (first | omega | rfl | assumption | decide | exact Or.inl rfl | exact Or.inr rfl | (simp only; omega))) _ (lv_sub hl [1, 2, 3, 4, 5, 0] rfl)
                  · skip
                    have c_36' : r_35.toInt ≠ 101 := jb_eq_n (rfl) ((by decide)) c_36
                    refine lv_aload_n hx hb dX14_readNumber_184 rfl (lv_at hl 0 rfl) ?_
                    refine va_calli (A0 := jA base) (H0 := s.heap) (va_runV (As := []) (rest := []) ⟨hx, hb, hml, hown, hts⟩ (uX14_here l dC dI ca base B hB hAp hB16 hB110 G0 H_34 r0 wt_15 pe) (cwV 0 hts gX14_readNumber_X14_here rfl rfl rfl (by decide +kernel) ⟨by rw [← hR]; exact Nat.le_of_ble_eq_true rfl, by rw [← hR]; exact Nat.le_of_ble_eq_true rfl⟩) ⟨fun a U g mk q => by obtain ⟨q0, q1, q2, qK, q10, q11, q12⟩ := q; exact ⟨q0, q1, q2, jG.calling g mk a qK, q10, q11, q12⟩, hh_34.recv (C := RX14) (T := TX14) (N := 74) hB16 rfl (by omega) hg_r0 hK, fun U hU hW => ⟨rfl, hU, hh_34.2.1, hG.step hW hU hh_34.1, hg_r0, (hh_34.2.2.1.sub (L1 := [(r0, 16, 29, .int wt_15), (r0, 16, 30, .int pe)]) [0, 3] rfl), by refine ⟨?_, ?_, ?_, ?_⟩ <;> (first | omega | rfl | assumption | decide | exact Or.inl rfl | exact Or.inr rfl | (simp only; omega))⟩⟩ rfl rfl hl.1 rfl (lv_room (Nat.le_of_ble_eq_true rfl)) dX14_readNumber_185 ⟨Nat.zero_le _, Nat.zero_le _⟩) hh_34.1 (fun q _ h => h) (fun q h => h) (fun r_56 u_55 t_55 H_55 locs_55 ht_55 hvm_55 hr_56 hb_55 hz_55 hk_55 hS_55 => ?_)
                    rw [ht_55] at hb_55
                    obtain ⟨hb_551, hb_552, hb_553, hb_554, hb_555⟩ := hb_55
                    have hh_55 : jSt (dC, dI) B base G0 G0 EX14_readNumber s.heap 0 0 [(r0, 16, 29, .int wt_15), (r0, 16, 31, .int wb_15), (r0, 16, 26, .int qn_1), (r0, 16, 30, .int pe)] [] H_55 locs_55 := (hh_34.call hb_551 hb_552 hb_553 hb_554 hS_55 rfl (L1 := [(r0, 16, 29, .int wt_15), (r0, 16, 31, .int wb_15), (r0, 16, 26, .int qn_1), (r0, 16, 30, .int pe)]) [0, 1, 2, 3] rfl rfl (M1 := []) [] rfl rfl).more hb_555
                    clear hh_34 ht_55 hvm_55 hz_55 hk_55 hS_55 hb_551 hb_552 hb_553 hb_554 hb_555
                    refine lv_bipush (v := 69) hx hb dX14_readNumber_188 (by decide) ?_
                    refine lv_icmp_ne (tgt := 238) hx hb dX14_readNumber_190 (by decide) (fun c_57 => ?_) (fun c_57 => ?_)
                    · skip
                      have c_57' : r_56.toInt ≠ 69 := jb_ne (rfl) ((by decide)) c_57
                      exact C238 v6_15 wt_15 wb_15 _ _ hh_55 (hb_v6_15) (by refine ⟨?_, ?_, ?_⟩ <;> (first | omega | rfl | assumption | decide | exact Or.inl rfl | exact Or.inr rfl | (simp only; omega))) _ (lv_sub hl [0, 1, 2, 3, 4, 5] rfl)
                    · skip
                      have c_57' : r_56.toInt = 69 := jb_ne_n (rfl) ((by decide)) c_57
                      refine lv_iconst (v := 0) hx hb dX14_readNumber_193 (by decide) ?_
                      refine lv_istore (lv' := [(6, .int 0), (0, .ref r0), (1, .int r_2), (2, .int 0), (3, .int wt_6), (4, .long v4_7)]) hx hb dX14_readNumber_194 hl (by decide) rfl (fun ls hl => ?_)
                      refine lv_aload_n hx hb dX14_readNumber_196 rfl (lv_at hl 1 rfl) ?_
                      refine lv_dup hx hb dX14_readNumber_197 rfl ?_
                      refine j7_read hx hb hown hK (C := RX14) (T := TX14) (N := 74) rfl hly_16_29 (hts (.fieldLink RX14 273 "ProofServerModel" "at" "I") (by decide +kernel)) (hh_55.at 0 rfl) dX14_readNumber_198 ?_
                      refine lv_iconst (v := 1) hx hb dX14_readNumber_201 (by decide) ?_
                      refine lv_iadd hx hb dX14_readNumber_202 ?_
                      refine lv_topi (fun z_58 ez_58 => ?_)
                      have hz_58 : z_58.toInt = wt_15.toInt + 1 := by rw [ez_58]; exact jb_iadd (rfl) ((by decide)) (by omega) (by omega)
                      refine j7_put hx hb hown hK hh_55 hB hAp hB16 (C := RX14) (T := TX14) (N := 74) rfl (by omega) hg_r0 (i := 29) (by decide) hly_16_29 rfl (hts (.fieldLink RX14 273 "ProofServerModel" "at" "I") (by decide +kernel)) rfl (ty := .int) (v := .int z_58) (by decide +kernel) rfl rfl (⟨_, rfl, by omega, by omega⟩) rfl (L1 := [(r0, 16, 31, .int wb_15), (r0, 16, 26, .int qn_1), (r0, 16, 30, .int pe)]) [1, 2, 3] rfl rfl dX14_readNumber_203 (fun H_59 locs_59 hh_59 => ?_)
                      clear hh_55
                      refine lv_aload_n hx hb dX14_readNumber_206 rfl (lv_at hl 1 rfl) ?_
                      refine va_calli (A0 := jA base) (H0 := s.heap) (va_runV (As := []) (rest := []) ⟨hx, hb, hml, hown, hts⟩ (uX14_here l dC dI ca base B hB hAp hB16 hB110 G0 H_59 r0 z_58 pe) (cwV 0 hts gX14_readNumber_X14_here rfl rfl rfl (by decide +kernel) ⟨by rw [← hR]; exact Nat.le_of_ble_eq_true rfl, by rw [← hR]; exact Nat.le_of_ble_eq_true rfl⟩) ⟨fun a U g mk q => by obtain ⟨q0, q1, q2, qK, q10, q11, q12⟩ := q; exact ⟨q0, q1, q2, jG.calling g mk a qK, q10, q11, q12⟩, hh_59.recv (C := RX14) (T := TX14) (N := 74) hB16 rfl (by omega) hg_r0 hK, fun U hU hW => ⟨rfl, hU, hh_59.2.1, hG.step hW hU hh_59.1, hg_r0, (hh_59.2.2.1.sub (L1 := [(r0, 16, 29, .int z_58), (r0, 16, 30, .int pe)]) [0, 3] rfl), by refine ⟨?_, ?_, ?_, ?_⟩ <;> (first | omega | rfl | assumption | decide | exact Or.inl rfl | exact Or.inr rfl | (simp only; omega))⟩⟩ rfl rfl hl.1 rfl (lv_room (Nat.le_of_ble_eq_true rfl)) dX14_readNumber_207 ⟨Nat.zero_le _, Nat.zero_le _⟩) hh_59.1 (fun q _ h => h) (fun q h => h) (fun r_61 u_60 t_60 H_60 locs_60 ht_60 hvm_60 hr_61 hb_60 hz_60 hk_60 hS_60 => ?_)
                      rw [ht_60] at hb_60
                      obtain ⟨hb_601, hb_602, hb_603, hb_604, hb_605⟩ := hb_60
                      have hh_60 : jSt (dC, dI) B base G0 G0 EX14_readNumber s.heap 0 0 [(r0, 16, 29, .int z_58), (r0, 16, 31, .int wb_15), (r0, 16, 26, .int qn_1), (r0, 16, 30, .int pe)] [] H_60 locs_60 := (hh_59.call hb_601 hb_602 hb_603 hb_604 hS_60 rfl (L1 := [(r0, 16, 29, .int z_58), (r0, 16, 31, .int wb_15), (r0, 16, 26, .int qn_1), (r0, 16, 30, .int pe)]) [0, 1, 2, 3] rfl rfl (M1 := []) [] rfl rfl).more hb_605
                      clear hh_59 ht_60 hvm_60 hz_60 hk_60 hS_60 hb_601 hb_602 hb_603 hb_604 hb_605
                      refine lv_bipush (v := 43) hx hb dX14_readNumber_210 (by decide) ?_
                      refine lv_icmp_eq (tgt := 224) hx hb dX14_readNumber_212 (by decide) (fun c_62 => ?_) (fun c_62 => ?_)
                      · skip
                        have c_62' : r_61.toInt = 43 := jb_eq (rfl) ((by decide)) c_62
                        refine lv_aload_n hx hb dX14_readNumber_224 rfl (lv_at hl 1 rfl) ?_
                        refine lv_dup hx hb dX14_readNumber_225 rfl ?_
                        refine j7_read hx hb hown hK (C := RX14) (T := TX14) (N := 74) rfl hly_16_29 (hts (.fieldLink RX14 273 "ProofServerModel" "at" "I") (by decide +kernel)) (hh_60.at 0 rfl) dX14_readNumber_226 ?_
                        refine lv_iconst (v := 1) hx hb dX14_readNumber_229 (by decide) ?_
                        refine lv_iadd hx hb dX14_readNumber_230 ?_
                        refine lv_topi (fun z_63 ez_63 => ?_)
                        have hz_63 : z_63.toInt = z_58.toInt + 1 := by rw [ez_63]; exact jb_iadd (rfl) ((by decide)) (by omega) (by omega)
                        refine j7_put hx hb hown hK hh_60 hB hAp hB16 (C := RX14) (T := TX14) (N := 74) rfl (by omega) hg_r0 (i := 29) (by decide) hly_16_29 rfl (hts (.fieldLink RX14 273 "ProofServerModel" "at" "I") (by decide +kernel)) rfl (ty := .int) (v := .int z_63) (by decide +kernel) rfl rfl (⟨_, rfl, by omega, by omega⟩) rfl (L1 := [(r0, 16, 31, .int wb_15), (r0, 16, 26, .int qn_1), (r0, 16, 30, .int pe)]) [1, 2, 3] rfl rfl dX14_readNumber_231 (fun H_64 locs_64 hh_64 => ?_)
                        clear hh_60
                        exact C234 z_63 _ _ hh_64 (by refine ⟨?_, ?_, ?_⟩ <;> (first | omega | rfl | assumption | decide | exact Or.inl rfl | exact Or.inr rfl | (simp only; omega))) _ (lv_sub hl [1, 2, 3, 4, 5, 0] rfl)
                      · skip
                        have c_62' : r_61.toInt ≠ 43 := jb_eq_n (rfl) ((by decide)) c_62
                        refine lv_aload_n hx hb dX14_readNumber_215 rfl (lv_at hl 1 rfl) ?_
                        refine va_calli (A0 := jA base) (H0 := s.heap) (va_runV (As := []) (rest := []) ⟨hx, hb, hml, hown, hts⟩ (uX14_here l dC dI ca base B hB hAp hB16 hB110 G0 H_60 r0 z_58 pe) (cwV 0 hts gX14_readNumber_X14_here rfl rfl rfl (by decide +kernel) ⟨by rw [← hR]; exact Nat.le_of_ble_eq_true rfl, by rw [← hR]; exact Nat.le_of_ble_eq_true rfl⟩) ⟨fun a U g mk q => by obtain ⟨q0, q1, q2, qK, q10, q11, q12⟩ := q; exact ⟨q0, q1, q2, jG.calling g mk a qK, q10, q11, q12⟩, hh_60.recv (C := RX14) (T := TX14) (N := 74) hB16 rfl (by omega) hg_r0 hK, fun U hU hW => ⟨rfl, hU, hh_60.2.1, hG.step hW hU hh_60.1, hg_r0, (hh_60.2.2.1.sub (L1 := [(r0, 16, 29, .int z_58), (r0, 16, 30, .int pe)]) [0, 3] rfl), by refine ⟨?_, ?_, ?_, ?_⟩ <;> (first | omega | rfl | assumption | decide | exact Or.inl rfl | exact Or.inr rfl | (simp only; omega))⟩⟩ rfl rfl hl.1 rfl (lv_room (Nat.le_of_ble_eq_true rfl)) dX14_readNumber_216 ⟨Nat.zero_le _, Nat.zero_le _⟩) hh_60.1 (fun q _ h => h) (fun q h => h) (fun r_66 u_65 t_65 H_65 locs_65 ht_65 hvm_65 hr_66 hb_65 hz_65 hk_65 hS_65 => ?_)
                        rw [ht_65] at hb_65
                        obtain ⟨hb_651, hb_652, hb_653, hb_654, hb_655⟩ := hb_65
                        have hh_65 : jSt (dC, dI) B base G0 G0 EX14_readNumber s.heap 0 0 [(r0, 16, 29, .int z_58), (r0, 16, 31, .int wb_15), (r0, 16, 26, .int qn_1), (r0, 16, 30, .int pe)] [] H_65 locs_65 := (hh_60.call hb_651 hb_652 hb_653 hb_654 hS_65 rfl (L1 := [(r0, 16, 29, .int z_58), (r0, 16, 31, .int wb_15), (r0, 16, 26, .int qn_1), (r0, 16, 30, .int pe)]) [0, 1, 2, 3] rfl rfl (M1 := []) [] rfl rfl).more hb_655
                        clear hh_60 ht_65 hvm_65 hz_65 hk_65 hS_65 hb_651 hb_652 hb_653 hb_654 hb_655
                        refine lv_bipush (v := 45) hx hb dX14_readNumber_219 (by decide) ?_
                        refine lv_icmp_ne (tgt := 234) hx hb dX14_readNumber_221 (by decide) (fun c_67 => ?_) (fun c_67 => ?_)
                        · skip
                          have c_67' : r_66.toInt ≠ 45 := jb_ne (rfl) ((by decide)) c_67
                          exact C234 z_58 _ _ hh_65 (by refine ⟨?_, ?_, ?_⟩ <;> (first | omega | rfl | assumption | decide | exact Or.inl rfl | exact Or.inr rfl | (simp only; omega))) _ (lv_sub hl [1, 2, 3, 4, 5, 0] rfl)
                        · skip
                          have c_67' : r_66.toInt = 45 := jb_ne_n (rfl) ((by decide)) c_67
                          refine lv_aload_n hx hb dX14_readNumber_224 rfl (lv_at hl 1 rfl) ?_
                          refine lv_dup hx hb dX14_readNumber_225 rfl ?_
                          refine j7_read hx hb hown hK (C := RX14) (T := TX14) (N := 74) rfl hly_16_29 (hts (.fieldLink RX14 273 "ProofServerModel" "at" "I") (by decide +kernel)) (hh_65.at 0 rfl) dX14_readNumber_226 ?_
                          refine lv_iconst (v := 1) hx hb dX14_readNumber_229 (by decide) ?_
                          refine lv_iadd hx hb dX14_readNumber_230 ?_
                          refine lv_topi (fun z_68 ez_68 => ?_)
                          have hz_68 : z_68.toInt = z_58.toInt + 1 := by rw [ez_68]; exact jb_iadd (rfl) ((by decide)) (by omega) (by omega)
                          refine j7_put hx hb hown hK hh_65 hB hAp hB16 (C := RX14) (T := TX14) (N := 74) rfl (by omega) hg_r0 (i := 29) (by decide) hly_16_29 rfl (hts (.fieldLink RX14 273 "ProofServerModel" "at" "I") (by decide +kernel)) rfl (ty := .int) (v := .int z_68) (by decide +kernel) rfl rfl (⟨_, rfl, by omega, by omega⟩) rfl (L1 := [(r0, 16, 31, .int wb_15), (r0, 16, 26, .int qn_1), (r0, 16, 30, .int pe)]) [1, 2, 3] rfl rfl dX14_readNumber_231 (fun H_69 locs_69 hh_69 => ?_)
                          clear hh_65
                          exact C234 z_68 _ _ hh_69 (by refine ⟨?_, ?_, ?_⟩ <;> (first | omega | rfl | assumption | decide | exact Or.inl rfl | exact Or.inr rfl | (simp only; omega))) _ (lv_sub hl [1, 2, 3, 4, 5, 0] rfl)
              refine lv_if_ne (tgt := 168) hx hb dX14_readNumber_139 (by decide) (fun c_70 => ?_) (fun c_70 => ?_)
              · skip
                exact C168 1 wt_7 1 _ _ (hh_14.sub (L1 := [(r0, 16, 29, .int wt_7), (r0, 16, 31, .int 1), (r0, 16, 26, .int qn_1), (r0, 16, 30, .int pe)]) [1, 0, 2, 3] rfl (M1 := []) [] rfl) (Or.inr rfl) (by refine ⟨?_, ?_, ?_⟩ <;> (first | omega | rfl | assumption | decide | exact Or.inl rfl | exact Or.inr rfl | (simp only; omega))) _ (lv_sub hl [1, 2, 3, 4, 5, 0] rfl)
              · skip
                exact absurd c_70 (by decide)
            · skip
              have c_13' : wt_7.toInt ≠ wt_6.toInt := jb_eq_n (rfl) (rfl) c_13
              refine lv_aload_n hx hb dX14_readNumber_106 rfl (lv_at hl 0 rfl) ?_
              obtain ⟨v_71, hv_71, hh_72⟩ := hh_10.pin (C := RX14) (T := TX14) (N := 74) hB16 rfl (by omega) hg_r0 (i := 9) (by decide) rfl
              clear hh_10
              obtain ⟨kept_73, rfl, hg_kept_73⟩ := hv_71
              refine j7_read hx hb hown hK (C := RX14) (T := TX14) (N := 74) rfl hly_16_9 (hts (.fieldLink RX14 20 "ProofServerModel" "kept" "[I") (by decide +kernel)) (hh_72.at 0 rfl) dX14_readNumber_107 ?_
              refine lv_iload_n hx hb dX14_readNumber_110 rfl (lv_at hl 3 rfl) ?_
              refine j7_iald hx hb hK hh_72 hB110 1 rfl (by omega) hg_kept_73 (rfl) (by omega) (by omega) dX14_readNumber_111 (fun z_74 (hz_74 : 0 ≤ z_74.toInt ∧ z_74.toInt ≤ 255) => ?_)
              refine lv_bipush (v := 48) hx hb dX14_readNumber_112 (by decide) ?_
              refine lv_icmp_ne (tgt := 132) hx hb dX14_readNumber_114 (by decide) (fun c_75 => ?_) (fun c_75 => ?_)
              · skip
                have c_75' : z_74.toInt ≠ 48 := jb_ne (rfl) ((by decide)) c_75
                refine lv_iconst (v := 1) hx hb dX14_readNumber_132 (by decide) ?_
                refine lv_istore (lv' := [(6, .int 1), (0, .ref r0), (1, .int r_2), (2, .int 0), (3, .int wt_6), (4, .long v4_7)]) hx hb dX14_readNumber_133 hl (by decide) rfl (fun ls hl => ?_)
                refine lv_aload_n hx hb dX14_readNumber_135 rfl (lv_at hl 1 rfl) ?_
                obtain ⟨v_76, hv_76, hh_77⟩ := hh_72.pin (C := RX14) (T := TX14) (N := 74) hB16 rfl (by omega) hg_r0 (i := 31) (by decide) rfl
                clear hh_72
                obtain ⟨bad_78, rfl, hzbad_78⟩ := hv_76
                have hzbad_78' := jb_01 hzbad_78
                refine j7_read hx hb hown hK (C := RX14) (T := TX14) (N := 74) rfl hly_16_31 (hts (.fieldLink RX14 288 "ProofServerModel" "bad" "Z") (by decide +kernel)) (hh_77.at 0 rfl) dX14_readNumber_136 ?_
                refine lv_if_ne (tgt := 168) hx hb dX14_readNumber_139 (by decide) (fun c_79 => ?_) (fun c_79 => ?_)
                · skip
                  have c_79' : bad_78.toInt ≠ 0 := jb_ne (rfl) ((by decide)) c_79
                  exact C168 1 wt_7 bad_78 _ _ (hh_77.sub (L1 := [(r0, 16, 29, .int wt_7), (r0, 16, 31, .int bad_78), (r0, 16, 26, .int qn_1), (r0, 16, 30, .int pe)]) [2, 0, 3, 4] rfl (M1 := []) [] rfl) (Or.inr rfl) (by refine ⟨?_, ?_, ?_⟩ <;> (first | omega | rfl | assumption | decide | exact Or.inl rfl | exact Or.inr rfl | (simp only; omega))) _ (lv_sub hl [1, 2, 3, 4, 5, 0] rfl)
                · skip
                  have c_79' : bad_78.toInt = 0 := jb_ne_n (rfl) ((by decide)) c_79
                  refine lv_aload_n hx hb dX14_readNumber_142 rfl (lv_at hl 1 rfl) ?_
                  refine va_calli (A0 := jA base) (H0 := s.heap) (va_runV (As := []) (rest := []) ⟨hx, hb, hml, hown, hts⟩ (uX14_here l dC dI ca base B hB hAp hB16 hB110 G0 H_10 r0 wt_7 pe) (cwV 0 hts gX14_readNumber_X14_here rfl rfl rfl (by decide +kernel) ⟨by rw [← hR]; exact Nat.le_of_ble_eq_true rfl, by rw [← hR]; exact Nat.le_of_ble_eq_true rfl⟩) ⟨fun a U g mk q => by obtain ⟨q0, q1, q2, qK, q10, q11, q12⟩ := q; exact ⟨q0, q1, q2, jG.calling g mk a qK, q10, q11, q12⟩, hh_77.recv (C := RX14) (T := TX14) (N := 74) hB16 rfl (by omega) hg_r0 hK, fun U hU hW => ⟨rfl, hU, hh_77.2.1, hG.step hW hU hh_77.1, hg_r0, (hh_77.2.2.1.sub (L1 := [(r0, 16, 29, .int wt_7), (r0, 16, 30, .int pe)]) [2, 4] rfl), by refine ⟨?_, ?_, ?_, ?_⟩ <;> (first | omega | rfl | assumption | decide | exact Or.inl rfl | exact Or.inr rfl | (simp only; omega))⟩⟩ rfl rfl hl.1 rfl (lv_room (Nat.le_of_ble_eq_true rfl)) dX14_readNumber_143 ⟨Nat.zero_le _, Nat.zero_le _⟩) hh_77.1 (fun q _ h => h) (fun q h => h) (fun r_81 u_80 t_80 H_80 locs_80 ht_80 hvm_80 hr_81 hb_80 hz_80 hk_80 hS_80 => ?_)
                  rw [ht_80] at hb_80
                  obtain ⟨hb_801, hb_802, hb_803, hb_804, hb_805⟩ := hb_80
                  have hh_80 : jSt (dC, dI) B base G0 G0 EX14_readNumber s.heap 0 0 [(r0, 16, 31, .int bad_78), (r0, 16, 9, .ref kept_73), (r0, 16, 29, .int wt_7), (r0, 16, 26, .int qn_1), (r0, 16, 30, .int pe)] [] H_80 locs_80 := (hh_77.call hb_801 hb_802 hb_803 hb_804 hS_80 rfl (L1 := [(r0, 16, 31, .int bad_78), (r0, 16, 9, .ref kept_73), (r0, 16, 29, .int wt_7), (r0, 16, 26, .int qn_1), (r0, 16, 30, .int pe)]) [0, 1, 2, 3, 4] rfl rfl (M1 := []) [] rfl rfl).more hb_805
                  clear hh_77 ht_80 hvm_80 hz_80 hk_80 hS_80 hb_801 hb_802 hb_803 hb_804 hb_805
                  refine lv_bipush (v := 46) hx hb dX14_readNumber_146 (by decide) ?_
                  refine lv_icmp_ne (tgt := 168) hx hb dX14_readNumber_148 (by decide) (fun c_82 => ?_) (fun c_82 => ?_)
                  · skip
                    have c_82' : r_81.toInt ≠ 46 := jb_ne (rfl) ((by decide)) c_82
                    exact C168 1 wt_7 bad_78 _ _ (hh_80.sub (L1 := [(r0, 16, 29, .int wt_7), (r0, 16, 31, .int bad_78), (r0, 16, 26, .int qn_1), (r0, 16, 30, .int pe)]) [2, 0, 3, 4] rfl (M1 := []) [] rfl) (Or.inr rfl) (by refine ⟨?_, ?_, ?_⟩ <;> (first | omega | rfl | assumption | decide | exact Or.inl rfl | exact Or.inr rfl | (simp only; omega))) _ (lv_sub hl [1, 2, 3, 4, 5, 0] rfl)
                  · skip
                    have c_82' : r_81.toInt = 46 := jb_ne_n (rfl) ((by decide)) c_82
                    refine lv_iconst (v := 0) hx hb dX14_readNumber_151 (by decide) ?_
                    refine lv_istore (lv' := [(6, .int 0), (0, .ref r0), (1, .int r_2), (2, .int 0), (3, .int wt_6), (4, .long v4_7)]) hx hb dX14_readNumber_152 hl (by decide) rfl (fun ls hl => ?_)
                    refine lv_aload_n hx hb dX14_readNumber_154 rfl (lv_at hl 1 rfl) ?_
                    refine lv_dup hx hb dX14_readNumber_155 rfl ?_
                    refine j7_read hx hb hown hK (C := RX14) (T := TX14) (N := 74) rfl hly_16_29 (hts (.fieldLink RX14 273 "ProofServerModel" "at" "I") (by decide +kernel)) (hh_80.at 2 rfl) dX14_readNumber_156 ?_
                    refine lv_iconst (v := 1) hx hb dX14_readNumber_159 (by decide) ?_
                    refine lv_iadd hx hb dX14_readNumber_160 ?_
                    refine lv_topi (fun z_83 ez_83 => ?_)
                    have hz_83 : z_83.toInt = wt_7.toInt + 1 := by rw [ez_83]; exact jb_iadd (rfl) ((by decide)) (by omega) (by omega)
                    refine j7_put hx hb hown hK hh_80 hB hAp hB16 (C := RX14) (T := TX14) (N := 74) rfl (by omega) hg_r0 (i := 29) (by decide) hly_16_29 rfl (hts (.fieldLink RX14 273 "ProofServerModel" "at" "I") (by decide +kernel)) rfl (ty := .int) (v := .int z_83) (by decide +kernel) rfl rfl (⟨_, rfl, by omega, by omega⟩) rfl (L1 := [(r0, 16, 31, .int bad_78), (r0, 16, 9, .ref kept_73), (r0, 16, 26, .int qn_1), (r0, 16, 30, .int pe)]) [0, 1, 3, 4] rfl rfl dX14_readNumber_161 (fun H_84 locs_84 hh_84 => ?_)
                    clear hh_80
                    refine lv_aload_n hx hb dX14_readNumber_164 rfl (lv_at hl 1 rfl) ?_
                    refine va_callv (A0 := jA base) (H0 := s.heap) (va_runV (As := []) (rest := []) ⟨hx, hb, hml, hown, hts⟩ (uX14_digits l dC dI ca base B hB hAp hB16 hB110 G0 H_84 r0 z_83 pe) (cwV 0 hts gX14_readNumber_X14_digits rfl rfl rfl (by decide +kernel) ⟨by rw [← hR]; exact Nat.le_of_ble_eq_true rfl, by rw [← hR]; exact Nat.le_of_ble_eq_true rfl⟩) ⟨fun a U g mk q => by obtain ⟨q0, q1, q2, qK, q10, q11, q12⟩ := q; exact ⟨q0, q1, q2, jG.calling g mk a qK, q10, q11, q12⟩, hh_84.recv (C := RX14) (T := TX14) (N := 74) hB16 rfl (by omega) hg_r0 hK, fun U hU hW => ⟨rfl, hU, hh_84.2.1, hG.step hW hU hh_84.1, hg_r0, (hh_84.2.2.1.sub (L1 := [(r0, 16, 29, .int z_83), (r0, 16, 30, .int pe)]) [0, 4] rfl), by refine ⟨?_, ?_, ?_, ?_⟩ <;> (first | omega | rfl | assumption | decide | exact Or.inl rfl | exact Or.inr rfl | (simp only; omega))⟩⟩ rfl rfl hl.1 rfl (lv_room (Nat.le_of_ble_eq_true rfl)) dX14_readNumber_165 ⟨Nat.zero_le _, Nat.zero_le _⟩) hh_84.1 (fun q _ h => h) (fun q h => h) (fun u_85 t_85 H_85 locs_85 ht_85 hvm_85 hr_86 hb_85 hz_85 hk_85 hS_85 => ?_)
                    obtain ⟨qt_85, rfl⟩ : ∃ z, z = u_85 := ⟨_, rfl⟩
                    rw [ht_85] at hb_85
                    obtain ⟨hb_851, hb_852, hb_853, hb_854, hb_855⟩ := hb_85
                    have hh_85 : jSt (dC, dI) B base G0 G0 EX14_readNumber s.heap 0 0 [(r0, 16, 29, .int qt_85), (r0, 16, 9, .ref kept_73), (r0, 16, 26, .int qn_1), (r0, 16, 30, .int pe)] [] H_85 locs_85 := (hh_84.call hb_851 hb_852 hb_853 hb_854 hS_85 rfl (L1 := [(r0, 16, 9, .ref kept_73), (r0, 16, 26, .int qn_1), (r0, 16, 30, .int pe)]) [2, 3, 4] rfl rfl (M1 := []) [] rfl rfl).more hb_855
                    clear hh_84 ht_85 hvm_85 hz_85 hk_85 hS_85 hb_851 hb_852 hb_853 hb_854 hb_855
                    obtain ⟨v_87, hv_87, hh_88⟩ := hh_85.pin (C := RX14) (T := TX14) (N := 74) hB16 rfl (by omega) hg_r0 (i := 31) (by decide) rfl
                    obtain ⟨bad_89, rfl, hzbad_89⟩ := hv_87
                    have hzbad_89' := jb_01 hzbad_89
                    exact C168 0 qt_85 bad_89 _ _ (hh_88.sub (L1 := [(r0, 16, 29, .int qt_85), (r0, 16, 31, .int bad_89), (r0, 16, 26, .int qn_1), (r0, 16, 30, .int pe)]) [1, 0, 3, 4] rfl (M1 := []) [] rfl) (Or.inl rfl) (by refine ⟨?_, ?_, ?_⟩ <;> (first | omega | rfl | assumption | decide | exact Or.inl rfl | exact Or.inr rfl | (simp only; omega))) _ (lv_sub hl [1, 2, 3, 4, 5, 0] rfl)
              · skip
                have c_75' : z_74.toInt = 48 := jb_ne_n (rfl) ((by decide)) c_75
                refine lv_aload_n hx hb dX14_readNumber_117 rfl (lv_at hl 0 rfl) ?_
                refine j7_read hx hb hown hK (C := RX14) (T := TX14) (N := 74) rfl hly_16_29 (hts (.fieldLink RX14 273 "ProofServerModel" "at" "I") (by decide +kernel)) (hh_72.at 1 rfl) dX14_readNumber_118 ?_
                refine lv_iload_n hx hb dX14_readNumber_121 rfl (lv_at hl 3 rfl) ?_
                refine lv_isub hx hb dX14_readNumber_122 ?_
                refine lv_topi (fun z_90 ez_90 => ?_)
                have hz_90 : z_90.toInt = wt_7.toInt - wt_6.toInt := by rw [ez_90]; exact jb_isub (rfl) (rfl) (by omega) (by omega)
                refine lv_iconst (v := 1) hx hb dX14_readNumber_123 (by decide) ?_
                refine lv_icmp_le (tgt := 132) hx hb dX14_readNumber_124 (by decide) (fun c_91 => ?_) (fun c_91 => ?_)
                · skip
                  have c_91' : z_90.toInt ≤ 1 := jb_le (rfl) ((by decide)) c_91
                  refine lv_iconst (v := 1) hx hb dX14_readNumber_132 (by decide) ?_
                  refine lv_istore (lv' := [(6, .int 1), (0, .ref r0), (1, .int r_2), (2, .int 0), (3, .int wt_6), (4, .long v4_7)]) hx hb dX14_readNumber_133 hl (by decide) rfl (fun ls hl => ?_)
                  refine lv_aload_n hx hb dX14_readNumber_135 rfl (lv_at hl 1 rfl) ?_
                  obtain ⟨v_92, hv_92, hh_93⟩ := hh_72.pin (C := RX14) (T := TX14) (N := 74) hB16 rfl (by omega) hg_r0 (i := 31) (by decide) rfl
                  clear hh_72
                  obtain ⟨bad_94, rfl, hzbad_94⟩ := hv_92
                  have hzbad_94' := jb_01 hzbad_94
                  refine j7_read hx hb hown hK (C := RX14) (T := TX14) (N := 74) rfl hly_16_31 (hts (.fieldLink RX14 288 "ProofServerModel" "bad" "Z") (by decide +kernel)) (hh_93.at 0 rfl) dX14_readNumber_136 ?_
                  refine lv_if_ne (tgt := 168) hx hb dX14_readNumber_139 (by decide) (fun c_95 => ?_) (fun c_95 => ?_)
                  · skip
                    have c_95' : bad_94.toInt ≠ 0 := jb_ne (rfl) ((by decide)) c_95
                    exact C168 1 wt_7 bad_94 _ _ (hh_93.sub (L1 := [(r0, 16, 29, .int wt_7), (r0, 16, 31, .int bad_94), (r0, 16, 26, .int qn_1), (r0, 16, 30, .int pe)]) [2, 0, 3, 4] rfl (M1 := []) [] rfl) (Or.inr rfl) (by refine ⟨?_, ?_, ?_⟩ <;> (first | omega | rfl | assumption | decide | exact Or.inl rfl | exact Or.inr rfl | (simp only; omega))) _ (lv_sub hl [1, 2, 3, 4, 5, 0] rfl)
                  · skip
                    have c_95' : bad_94.toInt = 0 := jb_ne_n (rfl) ((by decide)) c_95
                    refine lv_aload_n hx hb dX14_readNumber_142 rfl (lv_at hl 1 rfl) ?_
                    refine va_calli (A0 := jA base) (H0 := s.heap) (va_runV (As := []) (rest := []) ⟨hx, hb, hml, hown, hts⟩ (uX14_here l dC dI ca base B hB hAp hB16 hB110 G0 H_10 r0 wt_7 pe) (cwV 0 hts gX14_readNumber_X14_here rfl rfl rfl (by decide +kernel) ⟨by rw [← hR]; exact Nat.le_of_ble_eq_true rfl, by rw [← hR]; exact Nat.le_of_ble_eq_true rfl⟩) ⟨fun a U g mk q => by obtain ⟨q0, q1, q2, qK, q10, q11, q12⟩ := q; exact ⟨q0, q1, q2, jG.calling g mk a qK, q10, q11, q12⟩, hh_93.recv (C := RX14) (T := TX14) (N := 74) hB16 rfl (by omega) hg_r0 hK, fun U hU hW => ⟨rfl, hU, hh_93.2.1, hG.step hW hU hh_93.1, hg_r0, (hh_93.2.2.1.sub (L1 := [(r0, 16, 29, .int wt_7), (r0, 16, 30, .int pe)]) [2, 4] rfl), by refine ⟨?_, ?_, ?_, ?_⟩ <;> (first | omega | rfl | assumption | decide | exact Or.inl rfl | exact Or.inr rfl | (simp only; omega))⟩⟩ rfl rfl hl.1 rfl (lv_room (Nat.le_of_ble_eq_true rfl)) dX14_readNumber_143 ⟨Nat.zero_le _, Nat.zero_le _⟩) hh_93.1 (fun q _ h => h) (fun q h => h) (fun r_97 u_96 t_96 H_96 locs_96 ht_96 hvm_96 hr_97 hb_96 hz_96 hk_96 hS_96 => ?_)
                    rw [ht_96] at hb_96
                    obtain ⟨hb_961, hb_962, hb_963, hb_964, hb_965⟩ := hb_96
                    have hh_96 : jSt (dC, dI) B base G0 G0 EX14_readNumber s.heap 0 0 [(r0, 16, 31, .int bad_94), (r0, 16, 9, .ref kept_73), (r0, 16, 29, .int wt_7), (r0, 16, 26, .int qn_1), (r0, 16, 30, .int pe)] [] H_96 locs_96 := (hh_93.call hb_961 hb_962 hb_963 hb_964 hS_96 rfl (L1 := [(r0, 16, 31, .int bad_94), (r0, 16, 9, .ref kept_73), (r0, 16, 29, .int wt_7), (r0, 16, 26, .int qn_1), (r0, 16, 30, .int pe)]) [0, 1, 2, 3, 4] rfl rfl (M1 := []) [] rfl rfl).more hb_965
                    clear hh_93 ht_96 hvm_96 hz_96 hk_96 hS_96 hb_961 hb_962 hb_963 hb_964 hb_965
                    refine lv_bipush (v := 46) hx hb dX14_readNumber_146 (by decide) ?_
                    refine lv_icmp_ne (tgt := 168) hx hb dX14_readNumber_148 (by decide) (fun c_98 => ?_) (fun c_98 => ?_)
                    · skip
                      have c_98' : r_97.toInt ≠ 46 := jb_ne (rfl) ((by decide)) c_98
                      exact C168 1 wt_7 bad_94 _ _ (hh_96.sub (L1 := [(r0, 16, 29, .int wt_7), (r0, 16, 31, .int bad_94), (r0, 16, 26, .int qn_1), (r0, 16, 30, .int pe)]) [2, 0, 3, 4] rfl (M1 := []) [] rfl) (Or.inr rfl) (by refine ⟨?_, ?_, ?_⟩ <;> (first | omega | rfl | assumption | decide | exact Or.inl rfl | exact Or.inr rfl | (simp only; omega))) _ (lv_sub hl [1, 2, 3, 4, 5, 0] rfl)
                    · skip
                      have c_98' : r_97.toInt = 46 := jb_ne_n (rfl) ((by decide)) c_98
                      refine lv_iconst (v := 0) hx hb dX14_readNumber_151 (by decide) ?_
                      refine lv_istore (lv' := [(6, .int 0), (0, .ref r0), (1, .int r_2), (2, .int 0), (3, .int wt_6), (4, .long v4_7)]) hx hb dX14_readNumber_152 hl (by decide) rfl (fun ls hl => ?_)
                      refine lv_aload_n hx hb dX14_readNumber_154 rfl (lv_at hl 1 rfl) ?_
                      refine lv_dup hx hb dX14_readNumber_155 rfl ?_
                      refine j7_read hx hb hown hK (C := RX14) (T := TX14) (N := 74) rfl hly_16_29 (hts (.fieldLink RX14 273 "ProofServerModel" "at" "I") (by decide +kernel)) (hh_96.at 2 rfl) dX14_readNumber_156 ?_
                      refine lv_iconst (v := 1) hx hb dX14_readNumber_159 (by decide) ?_
                      refine lv_iadd hx hb dX14_readNumber_160 ?_
                      refine lv_topi (fun z_99 ez_99 => ?_)
                      have hz_99 : z_99.toInt = wt_7.toInt + 1 := by rw [ez_99]; exact jb_iadd (rfl) ((by decide)) (by omega) (by omega)
                      refine j7_put hx hb hown hK hh_96 hB hAp hB16 (C := RX14) (T := TX14) (N := 74) rfl (by omega) hg_r0 (i := 29) (by decide) hly_16_29 rfl (hts (.fieldLink RX14 273 "ProofServerModel" "at" "I") (by decide +kernel)) rfl (ty := .int) (v := .int z_99) (by decide +kernel) rfl rfl (⟨_, rfl, by omega, by omega⟩) rfl (L1 := [(r0, 16, 31, .int bad_94), (r0, 16, 9, .ref kept_73), (r0, 16, 26, .int qn_1), (r0, 16, 30, .int pe)]) [0, 1, 3, 4] rfl rfl dX14_readNumber_161 (fun H_100 locs_100 hh_100 => ?_)
                      clear hh_96
                      refine lv_aload_n hx hb dX14_readNumber_164 rfl (lv_at hl 1 rfl) ?_
                      refine va_callv (A0 := jA base) (H0 := s.heap) (va_runV (As := []) (rest := []) ⟨hx, hb, hml, hown, hts⟩ (uX14_digits l dC dI ca base B hB hAp hB16 hB110 G0 H_100 r0 z_99 pe) (cwV 0 hts gX14_readNumber_X14_digits rfl rfl rfl (by decide +kernel) ⟨by rw [← hR]; exact Nat.le_of_ble_eq_true rfl, by rw [← hR]; exact Nat.le_of_ble_eq_true rfl⟩) ⟨fun a U g mk q => by obtain ⟨q0, q1, q2, qK, q10, q11, q12⟩ := q; exact ⟨q0, q1, q2, jG.calling g mk a qK, q10, q11, q12⟩, hh_100.recv (C := RX14) (T := TX14) (N := 74) hB16 rfl (by omega) hg_r0 hK, fun U hU hW => ⟨rfl, hU, hh_100.2.1, hG.step hW hU hh_100.1, hg_r0, (hh_100.2.2.1.sub (L1 := [(r0, 16, 29, .int z_99), (r0, 16, 30, .int pe)]) [0, 4] rfl), by refine ⟨?_, ?_, ?_, ?_⟩ <;> (first | omega | rfl | assumption | decide | exact Or.inl rfl | exact Or.inr rfl | (simp only; omega))⟩⟩ rfl rfl hl.1 rfl (lv_room (Nat.le_of_ble_eq_true rfl)) dX14_readNumber_165 ⟨Nat.zero_le _, Nat.zero_le _⟩) hh_100.1 (fun q _ h => h) (fun q h => h) (fun u_101 t_101 H_101 locs_101 ht_101 hvm_101 hr_102 hb_101 hz_101 hk_101 hS_101 => ?_)
                      obtain ⟨qt_101, rfl⟩ : ∃ z, z = u_101 := ⟨_, rfl⟩
                      rw [ht_101] at hb_101
                      obtain ⟨hb_1011, hb_1012, hb_1013, hb_1014, hb_1015⟩ := hb_101
                      have hh_101 : jSt (dC, dI) B base G0 G0 EX14_readNumber s.heap 0 0 [(r0, 16, 29, .int qt_101), (r0, 16, 9, .ref kept_73), (r0, 16, 26, .int qn_1), (r0, 16, 30, .int pe)] [] H_101 locs_101 := (hh_100.call hb_1011 hb_1012 hb_1013 hb_1014 hS_101 rfl (L1 := [(r0, 16, 9, .ref kept_73), (r0, 16, 26, .int qn_1), (r0, 16, 30, .int pe)]) [2, 3, 4] rfl rfl (M1 := []) [] rfl rfl).more hb_1015
                      clear hh_100 ht_101 hvm_101 hz_101 hk_101 hS_101 hb_1011 hb_1012 hb_1013 hb_1014 hb_1015
                      obtain ⟨v_103, hv_103, hh_104⟩ := hh_101.pin (C := RX14) (T := TX14) (N := 74) hB16 rfl (by omega) hg_r0 (i := 31) (by decide) rfl
                      obtain ⟨bad_105, rfl, hzbad_105⟩ := hv_103
                      have hzbad_105' := jb_01 hzbad_105
                      exact C168 0 qt_101 bad_105 _ _ (hh_104.sub (L1 := [(r0, 16, 29, .int qt_101), (r0, 16, 31, .int bad_105), (r0, 16, 26, .int qn_1), (r0, 16, 30, .int pe)]) [1, 0, 3, 4] rfl (M1 := []) [] rfl) (Or.inl rfl) (by refine ⟨?_, ?_, ?_⟩ <;> (first | omega | rfl | assumption | decide | exact Or.inl rfl | exact Or.inr rfl | (simp only; omega))) _ (lv_sub hl [1, 2, 3, 4, 5, 0] rfl)
                · skip
                  have c_91' : z_90.toInt > 1 := jb_le_n (rfl) ((by decide)) c_91
                  refine lv_aload_n hx hb dX14_readNumber_127 rfl (lv_at hl 0 rfl) ?_
                  refine lv_iconst (v := 1) hx hb dX14_readNumber_128 (by decide) ?_
                  refine j7_put hx hb hown hK hh_72 hB hAp hB16 (C := RX14) (T := TX14) (N := 74) rfl (by omega) hg_r0 (i := 31) (by decide) hly_16_31 rfl (hts (.fieldLink RX14 288 "ProofServerModel" "bad" "Z") (by decide +kernel)) rfl (ty := .boolean) (v := .int 1) (by decide +kernel) (jb_nz (Or.inr rfl)) (jb_fz (Or.inr rfl)) (⟨_, rfl, (Or.inr rfl)⟩) rfl (L1 := [(r0, 16, 9, .ref kept_73), (r0, 16, 29, .int wt_7), (r0, 16, 26, .int qn_1), (r0, 16, 30, .int pe)]) [0, 1, 2, 3] rfl rfl dX14_readNumber_129 (fun H_106 locs_106 hh_106 => ?_)
                  clear hh_72
                  refine lv_iconst (v := 1) hx hb dX14_readNumber_132 (by decide) ?_
                  refine lv_istore (lv' := [(6, .int 1), (0, .ref r0), (1, .int r_2), (2, .int 0), (3, .int wt_6), (4, .long v4_7)]) hx hb dX14_readNumber_133 hl (by decide) rfl (fun ls hl => ?_)
                  refine lv_aload_n hx hb dX14_readNumber_135 rfl (lv_at hl 1 rfl) ?_
                  refine j7_read hx hb hown hK (C := RX14) (T := TX14) (N := 74) rfl hly_16_31 (hts (.fieldLink RX14 288 "ProofServerModel" "bad" "Z") (by decide +kernel)) (hh_106.at 0 rfl) dX14_readNumber_136 ?_
                  refine lv_if_ne (tgt := 168) hx hb dX14_readNumber_139 (by decide) (fun c_107 => ?_) (fun c_107 => ?_)
                  · skip
                    exact C168 1 wt_7 1 _ _ (hh_106.sub (L1 := [(r0, 16, 29, .int wt_7), (r0, 16, 31, .int 1), (r0, 16, 26, .int qn_1), (r0, 16, 30, .int pe)]) [2, 0, 3, 4] rfl (M1 := []) [] rfl) (Or.inr rfl) (by refine ⟨?_, ?_, ?_⟩ <;> (first | omega | rfl | assumption | decide | exact Or.inl rfl | exact Or.inr rfl | (simp only; omega))) _ (lv_sub hl [1, 2, 3, 4, 5, 0] rfl)
                  · skip
                    exact absurd c_107 (by decide)
          · skip
            have c_12' : r_11.toInt ≠ 0 := jb_eq_n (rfl) ((by decide)) c_12
            refine lv_lload hx hb dX14_readNumber_53 (lv_at hl 4 rfl) ?_
            refine lv_ldc2 hx hb hown (hts (.constantLong RX14 320 99999999999) (by decide +kernel)) dX14_readNumber_55 ?_
            refine W.lcmp hx hb dX14_readNumber_58 ?_
            refine lv_topi (fun z_108 ez_108 => ?_)
            have hz_108 := jb_lcmp ez_108
            have hqz_108_99999999999 : (99999999999 : Int64).toInt = 99999999999 := by decide
            refine lv_if_le (tgt := 67) hx hb dX14_readNumber_59 (by decide) (fun c_109 => ?_) (fun c_109 => ?_)
            · skip
              have c_109' : z_108.toInt ≤ 0 := jb_le (rfl) ((by decide)) c_109
              refine lv_ldc2 hx hb hown (hts (.constantLong RX14 322 10) (by decide +kernel)) dX14_readNumber_67 ?_
              refine lv_lload hx hb dX14_readNumber_70 (lv_at hl 4 rfl) ?_
              refine lv_lmul hx hb dX14_readNumber_72 ?_
              refine lv_topl (fun z_110 ez_110 => ?_)
              refine lv_aload_n hx hb dX14_readNumber_73 rfl (lv_at hl 0 rfl) ?_
              refine va_calli (A0 := jA base) (H0 := s.heap) (va_runV (As := []) (rest := [.long z_110]) ⟨hx, hb, hml, hown, hts⟩ (uX14_here l dC dI ca base B hB hAp hB16 hB110 G0 H_10 r0 wt_7 pe) (cwV 0 hts gX14_readNumber_X14_here rfl rfl rfl (by decide +kernel) ⟨by rw [← hR]; exact Nat.le_of_ble_eq_true rfl, by rw [← hR]; exact Nat.le_of_ble_eq_true rfl⟩) ⟨fun a U g mk q => by obtain ⟨q0, q1, q2, qK, q10, q11, q12⟩ := q; exact ⟨q0, q1, q2, jG.calling g mk a qK, q10, q11, q12⟩, hh_10.recv (C := RX14) (T := TX14) (N := 74) hB16 rfl (by omega) hg_r0 hK, fun U hU hW => ⟨rfl, hU, hh_10.2.1, hG.step hW hU hh_10.1, hg_r0, (hh_10.2.2.1.sub (L1 := [(r0, 16, 29, .int wt_7), (r0, 16, 30, .int pe)]) [0, 2] rfl), by refine ⟨?_, ?_, ?_, ?_⟩ <;> (first | omega | rfl | assumption | decide | exact Or.inl rfl | exact Or.inr rfl | (simp only; omega))⟩⟩ rfl rfl hl.1 rfl (lv_room (Nat.le_of_ble_eq_true rfl)) dX14_readNumber_74 ⟨Nat.zero_le _, Nat.zero_le _⟩) hh_10.1 (fun q _ h => h) (fun q h => h) (fun r_112 u_111 t_111 H_111 locs_111 ht_111 hvm_111 hr_112 hb_111 hz_111 hk_111 hS_111 => ?_)
              rw [ht_111] at hb_111
              obtain ⟨hb_1111, hb_1112, hb_1113, hb_1114, hb_1115⟩ := hb_111
              have hh_111 : jSt (dC, dI) B base G0 G0 EX14_readNumber s.heap 0 0 [(r0, 16, 29, .int wt_7), (r0, 16, 26, .int qn_1), (r0, 16, 30, .int pe)] [] H_111 locs_111 := (hh_10.call hb_1111 hb_1112 hb_1113 hb_1114 hS_111 rfl (L1 := [(r0, 16, 29, .int wt_7), (r0, 16, 26, .int qn_1), (r0, 16, 30, .int pe)]) [0, 1, 2] rfl rfl (M1 := []) [] rfl rfl).more hb_1115
              clear hh_10 ht_111 hvm_111 hz_111 hk_111 hS_111 hb_1111 hb_1112 hb_1113 hb_1114 hb_1115
              refine lv_i2l hx hb dX14_readNumber_77 rfl ?_
              refine lv_topl (fun z_113 ez_113 => ?_)
              refine lv_ladd hx hb dX14_readNumber_78 ?_
              refine lv_topl (fun z_114 ez_114 => ?_)
              refine lv_ldc2 hx hb hown (hts (.constantLong RX14 324 48) (by decide +kernel)) dX14_readNumber_79 ?_
              refine lv_lsub hx hb dX14_readNumber_82 ?_
              refine lv_topl (fun z_115 ez_115 => ?_)
              refine lv_lstore (lv' := [(4, .long z_115), (0, .ref r0), (1, .int r_2), (2, .int 0), (3, .int wt_6)]) hx hb dX14_readNumber_83 hl (by decide) rfl (fun ls hl => ?_)
              refine lv_aload_n hx hb dX14_readNumber_85 rfl (lv_at hl 1 rfl) ?_
              refine lv_dup hx hb dX14_readNumber_86 rfl ?_
              refine j7_read hx hb hown hK (C := RX14) (T := TX14) (N := 74) rfl hly_16_29 (hts (.fieldLink RX14 273 "ProofServerModel" "at" "I") (by decide +kernel)) (hh_111.at 0 rfl) dX14_readNumber_87 ?_
              refine lv_iconst (v := 1) hx hb dX14_readNumber_90 (by decide) ?_
              refine lv_iadd hx hb dX14_readNumber_91 ?_
              refine lv_topi (fun z_116 ez_116 => ?_)
              have hz_116 : z_116.toInt = wt_7.toInt + 1 := by rw [ez_116]; exact jb_iadd (rfl) ((by decide)) (by omega) (by omega)
              refine j7_put hx hb hown hK hh_111 hB hAp hB16 (C := RX14) (T := TX14) (N := 74) rfl (by omega) hg_r0 (i := 29) (by decide) hly_16_29 rfl (hts (.fieldLink RX14 273 "ProofServerModel" "at" "I") (by decide +kernel)) rfl (ty := .int) (v := .int z_116) (by decide +kernel) rfl rfl (⟨_, rfl, by omega, by omega⟩) rfl (L1 := [(r0, 16, 26, .int qn_1), (r0, 16, 30, .int pe)]) [1, 2] rfl rfl dX14_readNumber_92 (fun H_117 locs_117 hh_117 => ?_)
              clear hh_111
              refine lv_goto (tgt := 43) hx hb dX14_readNumber_95 (by decide) ?_
              exact L43 z_115 z_116 _ _ hh_117 (by refine ⟨?_, ?_⟩ <;> (first | omega | rfl | assumption | decide | exact Or.inl rfl | exact Or.inr rfl | (simp only; omega))) (by omega) _ (lv_sub hl [1, 2, 3, 4, 0] rfl)
            · skip
              have c_109' : z_108.toInt > 0 := jb_le_n (rfl) ((by decide)) c_109
              refine lv_lload hx hb dX14_readNumber_62 (lv_at hl 4 rfl) ?_
              refine lv_goto (tgt := 83) hx hb dX14_readNumber_64 (by decide) ?_
              refine lv_lstore (lv' := [(4, .long v4_7), (0, .ref r0), (1, .int r_2), (2, .int 0), (3, .int wt_6)]) hx hb dX14_readNumber_83 hl (by decide) rfl (fun ls hl => ?_)
              refine lv_aload_n hx hb dX14_readNumber_85 rfl (lv_at hl 1 rfl) ?_
              refine lv_dup hx hb dX14_readNumber_86 rfl ?_
              refine j7_read hx hb hown hK (C := RX14) (T := TX14) (N := 74) rfl hly_16_29 (hts (.fieldLink RX14 273 "ProofServerModel" "at" "I") (by decide +kernel)) (hh_10.at 0 rfl) dX14_readNumber_87 ?_
              refine lv_iconst (v := 1) hx hb dX14_readNumber_90 (by decide) ?_
              refine lv_iadd hx hb dX14_readNumber_91 ?_
              refine lv_topi (fun z_118 ez_118 => ?_)
              have hz_118 : z_118.toInt = wt_7.toInt + 1 := by rw [ez_118]; exact jb_iadd (rfl) ((by decide)) (by omega) (by omega)
              refine j7_put hx hb hown hK hh_10 hB hAp hB16 (C := RX14) (T := TX14) (N := 74) rfl (by omega) hg_r0 (i := 29) (by decide) hly_16_29 rfl (hts (.fieldLink RX14 273 "ProofServerModel" "at" "I") (by decide +kernel)) rfl (ty := .int) (v := .int z_118) (by decide +kernel) rfl rfl (⟨_, rfl, by omega, by omega⟩) rfl (L1 := [(r0, 16, 26, .int qn_1), (r0, 16, 30, .int pe)]) [1, 2] rfl rfl dX14_readNumber_92 (fun H_119 locs_119 hh_119 => ?_)
              clear hh_10
              refine lv_goto (tgt := 43) hx hb dX14_readNumber_95 (by decide) ?_
              exact L43 v4_7 z_118 _ _ hh_119 (by refine ⟨?_, ?_⟩ <;> (first | omega | rfl | assumption | decide | exact Or.inl rfl | exact Or.inr rfl | (simp only; omega))) (by omega) _ (lv_sub hl [1, 2, 3, 4, 0] rfl)
      exact L43 (pe.toInt - (wt_6 : Int32).toInt : Int).toNat.succ 0 wt_6 _ _ hh_6 (by refine ⟨?_, ?_⟩ <;> (first | omega | rfl | assumption | decide | exact Or.inl rfl | exact Or.inr rfl | (simp only; omega))) (by omega) _ (lv_sub hl [2, 3, 4, 1, 0] rfl)
    refine lv_if_eq (tgt := 35) hx hb dX14_readNumber_22 (by decide) (fun c_120 => ?_) (fun c_120 => ?_)
    · skip
      exact C35 pt _ _ (hh_3.sub (L1 := [(r0, 16, 29, .int pt), (r0, 16, 26, .int qn_1), (r0, 16, 30, .int pe)]) [1, 0, 2] rfl (M1 := []) [] rfl) (by refine ⟨?_, ?_⟩ <;> (first | omega | rfl | assumption | decide | exact Or.inl rfl | exact Or.inr rfl | (simp only; omega))) _ (lv_sub hl [2, 1, 0] rfl)
    · skip
      exact absurd c_120 (by decide)
  · skip
    have c_5' : r_4.toInt = 45 := jb_ne_n (rfl) ((by decide)) c_5
    refine lv_iconst (v := 1) hx hb dX14_readNumber_15 (by decide) ?_
    refine lv_goto (tgt := 20) hx hb dX14_readNumber_16 (by decide) ?_
    refine lv_istore_n (lv' := [(2, .int 1), (1, .int r_2), (0, .ref r0)]) hx hb dX14_readNumber_20 rfl hl (by decide) rfl (fun ls hl => ?_)
    refine lv_iload_n hx hb dX14_readNumber_21 rfl (lv_at hl 0 rfl) ?_
    refine lv_if_eq (tgt := 35) hx hb dX14_readNumber_22 (by decide) (fun c_121 => ?_) (fun c_121 => ?_)
    · skip
      exact absurd c_121 (by decide)
    · skip
      refine lv_aload_n hx hb dX14_readNumber_25 rfl (lv_at hl 2 rfl) ?_
      refine lv_dup hx hb dX14_readNumber_26 rfl ?_
      refine j7_read hx hb hown hK (C := RX14) (T := TX14) (N := 74) rfl hly_16_29 (hts (.fieldLink RX14 273 "ProofServerModel" "at" "I") (by decide +kernel)) (hh_3.at 1 rfl) dX14_readNumber_27 ?_
      refine lv_iconst (v := 1) hx hb dX14_readNumber_30 (by decide) ?_
      refine lv_iadd hx hb dX14_readNumber_31 ?_
      refine lv_topi (fun z_122 ez_122 => ?_)
      have hz_122 : z_122.toInt = pt.toInt + 1 := by rw [ez_122]; exact jb_iadd (rfl) ((by decide)) (by omega) (by omega)
      refine j7_put hx hb hown hK hh_3 hB hAp hB16 (C := RX14) (T := TX14) (N := 74) rfl (by omega) hg_r0 (i := 29) (by decide) hly_16_29 rfl (hts (.fieldLink RX14 273 "ProofServerModel" "at" "I") (by decide +kernel)) rfl (ty := .int) (v := .int z_122) (by decide +kernel) rfl rfl (⟨_, rfl, by omega, by omega⟩) rfl (L1 := [(r0, 16, 26, .int qn_1), (r0, 16, 30, .int pe)]) [0, 2] rfl rfl dX14_readNumber_32 (fun H_123 locs_123 hh_123 => ?_)
      clear hh_3
      exact C35 z_122 _ _ hh_123 (by refine ⟨?_, ?_⟩ <;> (first | omega | rfl | assumption | decide | exact Or.inl rfl | exact Or.inr rfl | (simp only; omega))) _ (lv_sub hl [2, 1, 0] rfl)
