abbrev cX14_readNumber : ByteArray := prog_14_method_28_code
def yX14_readNumber : MethodName := ⟨RX14, "readNumber", "()I"⟩
abbrev cX14_utfLength : ByteArray := prog_14_method_35_code
def yX14_utfLength : MethodName := ⟨RX14, "utfLength", "([III)I"⟩
def wsX14_utfLength : List Cond := .code yX14_utfLength cX14_utfLength 8 (some .int) :: ([.fieldLink RX14 357 "ProofServerModel" "utfChar" "I", .constant RX14 197 (65536), .constant RX14 179 (55296), .constant RX14 186 (57343), .constant RX14 360 (1114111), .methodLink RX14 181 yX14_in, .static yX14_in, .initialized RX14, .code yX14_in cX14_in 3 (some .boolean)] ++ wsX140)
def wsX14_readNumber_r1 : List Cond := [Cond.fieldLink RX14 273 "ProofServerModel" "at" "I", Cond.constantLong RX14 320 (99999999999), Cond.constantLong RX14 322 (10), Cond.constantLong RX14 324 (48), Cond.fieldLink RX14 20 "ProofServerModel" "kept" "[I", Cond.fieldLink RX14 288 "ProofServerModel" "bad" "Z", Cond.fieldLink RX14 58 "ProofServerModel" "isInt" "[Z", Cond.constantLong RX14 329 (-2147483648), Cond.constantLong RX14 331 (2147483647), Cond.fieldLink RX14 62 "ProofServerModel" "ints" "[I", Cond.methodLink RX14 295 yX14_node, Cond.instanceMethod yX14_node, Cond.selects RX14 yX14_node yX14_node, Cond.initialized RX14, Cond.code yX14_node cX14_node 2 (some .int), Cond.fieldLink RX14 37 "ProofServerModel" "sort" "[I", Cond.fieldLink RX14 282 "ProofServerModel" "nodes" "I", Cond.fieldLink RX14 40 "ProofServerModel" "heir" "[I", Cond.fieldLink RX14 43 "ProofServerModel" "next" "[I", Cond.methodLink RX14 279 yX14_here, Cond.instanceMethod yX14_here, Cond.selects RX14 yX14_here yX14_here, Cond.code yX14_here cX14_here 1 (some .int), Cond.fieldLink RX14 276 "ProofServerModel" "end" "I"]
def wsX14_readNumber_r2 : List Cond := [Cond.methodLink RX14 224 yX14_isDigit, Cond.static yX14_isDigit, Cond.code yX14_isDigit cX14_isDigit 1 (some .boolean), Cond.methodLink RX14 181 yX14_in, Cond.static yX14_in, Cond.code yX14_in cX14_in 3 (some .boolean), Cond.methodLink RX14 326 yX14_digits, Cond.instanceMethod yX14_digits, Cond.selects RX14 yX14_digits yX14_digits, Cond.code yX14_digits cX14_digits 1 none]
def wsX14_readNumber : List Cond := .code yX14_readNumber cX14_readNumber 9 (some .int) :: ((wsX14_readNumber_r1 ++ wsX14_readNumber_r2) ++ wsX140)
set_option maxRecDepth 20000 in
theorem ggX14_readNumber_X14_node : GoodIn wsX14_readNumber wsX14_node := goodIn_r _ [15, 16, 17, 18, 19, 7, 35, 36, 37, 38, 39, 40, 41, 42, 43, 44, 45, 46, 47, 48, 49, 50, 51, 52, 53, 54, 55, 56, 57, 58, 59, 60, 61, 62, 63, 64, 65, 66, 67, 68, 69, 70, 71, 72, 73, 74, 75, 76, 77, 78, 79, 80, 81, 82, 83, 84, 85, 86, 87, 88, 89, 90, 91, 92, 93, 94, 95, 96, 97, 98, 99, 100, 101, 102, 103, 104, 105, 106, 107, 108] (by decide +kernel) (by decide +kernel)
set_option maxRecDepth 20000 in
theorem gX14_readNumber_X14_node : GoodIn wsX14_readNumber (wsV RX14 295 RX14 yX14_node wsX14_node) := goodIn_app (goodIn_of _ (by decide +kernel)) ggX14_readNumber_X14_node
set_option maxRecDepth 20000 in
theorem ggX14_readNumber_X14_here : GoodIn wsX14_readNumber wsX14_here := goodIn_r _ [23, 1, 24, 5, 35, 36, 37, 38, 39, 40, 41, 42, 43, 44, 45, 46, 47, 48, 49, 50, 51, 52, 53, 54, 55, 56, 57, 58, 59, 60, 61, 62, 63, 64, 65, 66, 67, 68, 69, 70, 71, 72, 73, 74, 75, 76, 77, 78, 79, 80, 81, 82, 83, 84, 85, 86, 87, 88, 89, 90, 91, 92, 93, 94, 95, 96, 97, 98, 99, 100, 101, 102, 103, 104, 105, 106, 107, 108] (by decide +kernel) (by decide +kernel)
set_option maxRecDepth 20000 in
theorem gX14_readNumber_X14_here : GoodIn wsX14_readNumber (wsV RX14 279 RX14 yX14_here wsX14_here) := goodIn_app (goodIn_of _ (by decide +kernel)) ggX14_readNumber_X14_here
set_option maxRecDepth 20000 in
theorem ggX14_readNumber_X14_isDigit : GoodIn wsX14_readNumber wsX14_isDigit := goodIn_r _ [27, 28, 29, 14, 30] (by decide +kernel) (by decide +kernel)
set_option maxRecDepth 20000 in
theorem gX14_readNumber_X14_isDigit : GoodIn wsX14_readNumber (va_wsS RX14 224 yX14_isDigit wsX14_isDigit) := goodIn_app (goodIn_of _ (by decide +kernel)) ggX14_readNumber_X14_isDigit
set_option maxRecDepth 20000 in
theorem ggX14_readNumber_X14_digits : GoodIn wsX14_readNumber wsX14_digits := goodIn_r _ [34, 6, 1, 20, 21, 22, 14, 23, 24, 5, 25, 26, 27, 28, 29, 30, 35, 36, 37, 38, 39, 40, 41, 42, 43, 44, 45, 46, 47, 48, 49, 50, 51, 52, 53, 54, 55, 56, 57, 58, 59, 60, 61, 62, 63, 64, 65, 66, 67, 68, 69, 70, 71, 72, 73, 74, 75, 76, 77, 78, 79, 80, 81, 82, 83, 84, 85, 86, 87, 88, 89, 90, 91, 92, 93, 94, 95, 96, 97, 98, 99, 100, 101, 102, 103, 104, 105, 106, 107, 108] (by decide +kernel) (by decide +kernel)
set_option maxRecDepth 20000 in
theorem gX14_readNumber_X14_digits : GoodIn wsX14_readNumber (wsV RX14 326 RX14 yX14_digits wsX14_digits) := goodIn_app (goodIn_of _ (by decide +kernel)) ggX14_readNumber_X14_digits
theorem dX14_readNumber_0 : decode cX14_readNumber 0 = .ok (.aload_n 0, 1) := by decide +kernel
theorem dX14_readNumber_1 : decode cX14_readNumber 1 = .ok (.iconst 3, 1) := by decide +kernel
theorem dX14_readNumber_2 : decode cX14_readNumber 2 = .ok (.invokevirtual 295, 3) := by decide +kernel
theorem dX14_readNumber_5 : decode cX14_readNumber 5 = .ok (.istore_n 1, 1) := by decide +kernel
theorem dX14_readNumber_6 : decode cX14_readNumber 6 = .ok (.aload_n 0, 1) := by decide +kernel
theorem dX14_readNumber_7 : decode cX14_readNumber 7 = .ok (.invokevirtual 279, 3) := by decide +kernel
theorem dX14_readNumber_10 : decode cX14_readNumber 10 = .ok (.bipush 45, 2) := by decide +kernel
theorem dX14_readNumber_12 : decode cX14_readNumber 12 = .ok (.if_icmp .ne 7, 3) := by decide +kernel
theorem dX14_readNumber_15 : decode cX14_readNumber 15 = .ok (.iconst 1, 1) := by decide +kernel
theorem dX14_readNumber_16 : decode cX14_readNumber 16 = .ok (.goto 4, 3) := by decide +kernel
theorem dX14_readNumber_19 : decode cX14_readNumber 19 = .ok (.iconst 0, 1) := by decide +kernel
theorem dX14_readNumber_20 : decode cX14_readNumber 20 = .ok (.istore_n 2, 1) := by decide +kernel
theorem dX14_readNumber_21 : decode cX14_readNumber 21 = .ok (.iload_n 2, 1) := by decide +kernel
theorem dX14_readNumber_22 : decode cX14_readNumber 22 = .ok (.ifCond .eq 13, 3) := by decide +kernel
theorem dX14_readNumber_25 : decode cX14_readNumber 25 = .ok (.aload_n 0, 1) := by decide +kernel
theorem dX14_readNumber_26 : decode cX14_readNumber 26 = .ok (.dup, 1) := by decide +kernel
theorem dX14_readNumber_27 : decode cX14_readNumber 27 = .ok (.getfield 273, 3) := by decide +kernel
theorem dX14_readNumber_30 : decode cX14_readNumber 30 = .ok (.iconst 1, 1) := by decide +kernel
theorem dX14_readNumber_31 : decode cX14_readNumber 31 = .ok (.iadd, 1) := by decide +kernel
theorem dX14_readNumber_32 : decode cX14_readNumber 32 = .ok (.putfield 273, 3) := by decide +kernel
theorem dX14_readNumber_35 : decode cX14_readNumber 35 = .ok (.aload_n 0, 1) := by decide +kernel
theorem dX14_readNumber_36 : decode cX14_readNumber 36 = .ok (.getfield 273, 3) := by decide +kernel
theorem dX14_readNumber_39 : decode cX14_readNumber 39 = .ok (.istore_n 3, 1) := by decide +kernel
theorem dX14_readNumber_40 : decode cX14_readNumber 40 = .ok (.lconst 0, 1) := by decide +kernel
theorem dX14_readNumber_41 : decode cX14_readNumber 41 = .ok (.lstore 4, 2) := by decide +kernel
theorem dX14_readNumber_43 : decode cX14_readNumber 43 = .ok (.aload_n 0, 1) := by decide +kernel
theorem dX14_readNumber_44 : decode cX14_readNumber 44 = .ok (.invokevirtual 279, 3) := by decide +kernel
theorem dX14_readNumber_47 : decode cX14_readNumber 47 = .ok (.invokestatic 224, 3) := by decide +kernel
theorem dX14_readNumber_50 : decode cX14_readNumber 50 = .ok (.ifCond .eq 48, 3) := by decide +kernel
theorem dX14_readNumber_53 : decode cX14_readNumber 53 = .ok (.lload 4, 2) := by decide +kernel
theorem dX14_readNumber_55 : decode cX14_readNumber 55 = .ok (.ldc2_w 320, 3) := by decide +kernel
theorem dX14_readNumber_58 : decode cX14_readNumber 58 = .ok (.lcmp, 1) := by decide +kernel
theorem dX14_readNumber_59 : decode cX14_readNumber 59 = .ok (.ifCond .le 8, 3) := by decide +kernel
theorem dX14_readNumber_62 : decode cX14_readNumber 62 = .ok (.lload 4, 2) := by decide +kernel
theorem dX14_readNumber_64 : decode cX14_readNumber 64 = .ok (.goto 19, 3) := by decide +kernel
theorem dX14_readNumber_67 : decode cX14_readNumber 67 = .ok (.ldc2_w 322, 3) := by decide +kernel
theorem dX14_readNumber_70 : decode cX14_readNumber 70 = .ok (.lload 4, 2) := by decide +kernel
theorem dX14_readNumber_72 : decode cX14_readNumber 72 = .ok (.lmul, 1) := by decide +kernel
theorem dX14_readNumber_73 : decode cX14_readNumber 73 = .ok (.aload_n 0, 1) := by decide +kernel
theorem dX14_readNumber_74 : decode cX14_readNumber 74 = .ok (.invokevirtual 279, 3) := by decide +kernel
theorem dX14_readNumber_77 : decode cX14_readNumber 77 = .ok (.i2l, 1) := by decide +kernel
theorem dX14_readNumber_78 : decode cX14_readNumber 78 = .ok (.ladd, 1) := by decide +kernel
theorem dX14_readNumber_79 : decode cX14_readNumber 79 = .ok (.ldc2_w 324, 3) := by decide +kernel
theorem dX14_readNumber_82 : decode cX14_readNumber 82 = .ok (.lsub, 1) := by decide +kernel
theorem dX14_readNumber_83 : decode cX14_readNumber 83 = .ok (.lstore 4, 2) := by decide +kernel
theorem dX14_readNumber_85 : decode cX14_readNumber 85 = .ok (.aload_n 0, 1) := by decide +kernel
theorem dX14_readNumber_86 : decode cX14_readNumber 86 = .ok (.dup, 1) := by decide +kernel
theorem dX14_readNumber_87 : decode cX14_readNumber 87 = .ok (.getfield 273, 3) := by decide +kernel
theorem dX14_readNumber_90 : decode cX14_readNumber 90 = .ok (.iconst 1, 1) := by decide +kernel
theorem dX14_readNumber_91 : decode cX14_readNumber 91 = .ok (.iadd, 1) := by decide +kernel
theorem dX14_readNumber_92 : decode cX14_readNumber 92 = .ok (.putfield 273, 3) := by decide +kernel
theorem dX14_readNumber_95 : decode cX14_readNumber 95 = .ok (.goto (-52), 3) := by decide +kernel
theorem dX14_readNumber_98 : decode cX14_readNumber 98 = .ok (.aload_n 0, 1) := by decide +kernel
theorem dX14_readNumber_99 : decode cX14_readNumber 99 = .ok (.getfield 273, 3) := by decide +kernel
theorem dX14_readNumber_102 : decode cX14_readNumber 102 = .ok (.iload_n 3, 1) := by decide +kernel
theorem dX14_readNumber_103 : decode cX14_readNumber 103 = .ok (.if_icmp .eq 24, 3) := by decide +kernel
theorem dX14_readNumber_106 : decode cX14_readNumber 106 = .ok (.aload_n 0, 1) := by decide +kernel
theorem dX14_readNumber_107 : decode cX14_readNumber 107 = .ok (.getfield 20, 3) := by decide +kernel
theorem dX14_readNumber_110 : decode cX14_readNumber 110 = .ok (.iload_n 3, 1) := by decide +kernel
theorem dX14_readNumber_111 : decode cX14_readNumber 111 = .ok (.iaload, 1) := by decide +kernel
theorem dX14_readNumber_112 : decode cX14_readNumber 112 = .ok (.bipush 48, 2) := by decide +kernel
theorem dX14_readNumber_114 : decode cX14_readNumber 114 = .ok (.if_icmp .ne 18, 3) := by decide +kernel
theorem dX14_readNumber_117 : decode cX14_readNumber 117 = .ok (.aload_n 0, 1) := by decide +kernel
theorem dX14_readNumber_118 : decode cX14_readNumber 118 = .ok (.getfield 273, 3) := by decide +kernel
theorem dX14_readNumber_121 : decode cX14_readNumber 121 = .ok (.iload_n 3, 1) := by decide +kernel
theorem dX14_readNumber_122 : decode cX14_readNumber 122 = .ok (.isub, 1) := by decide +kernel
theorem dX14_readNumber_123 : decode cX14_readNumber 123 = .ok (.iconst 1, 1) := by decide +kernel
theorem dX14_readNumber_124 : decode cX14_readNumber 124 = .ok (.if_icmp .le 8, 3) := by decide +kernel
theorem dX14_readNumber_127 : decode cX14_readNumber 127 = .ok (.aload_n 0, 1) := by decide +kernel
theorem dX14_readNumber_128 : decode cX14_readNumber 128 = .ok (.iconst 1, 1) := by decide +kernel
theorem dX14_readNumber_129 : decode cX14_readNumber 129 = .ok (.putfield 288, 3) := by decide +kernel
theorem dX14_readNumber_132 : decode cX14_readNumber 132 = .ok (.iconst 1, 1) := by decide +kernel
theorem dX14_readNumber_133 : decode cX14_readNumber 133 = .ok (.istore 6, 2) := by decide +kernel
theorem dX14_readNumber_135 : decode cX14_readNumber 135 = .ok (.aload_n 0, 1) := by decide +kernel
theorem dX14_readNumber_136 : decode cX14_readNumber 136 = .ok (.getfield 288, 3) := by decide +kernel
theorem dX14_readNumber_139 : decode cX14_readNumber 139 = .ok (.ifCond .ne 29, 3) := by decide +kernel
theorem dX14_readNumber_142 : decode cX14_readNumber 142 = .ok (.aload_n 0, 1) := by decide +kernel
theorem dX14_readNumber_143 : decode cX14_readNumber 143 = .ok (.invokevirtual 279, 3) := by decide +kernel
theorem dX14_readNumber_146 : decode cX14_readNumber 146 = .ok (.bipush 46, 2) := by decide +kernel
theorem dX14_readNumber_148 : decode cX14_readNumber 148 = .ok (.if_icmp .ne 20, 3) := by decide +kernel
theorem dX14_readNumber_151 : decode cX14_readNumber 151 = .ok (.iconst 0, 1) := by decide +kernel
theorem dX14_readNumber_152 : decode cX14_readNumber 152 = .ok (.istore 6, 2) := by decide +kernel
theorem dX14_readNumber_154 : decode cX14_readNumber 154 = .ok (.aload_n 0, 1) := by decide +kernel
theorem dX14_readNumber_155 : decode cX14_readNumber 155 = .ok (.dup, 1) := by decide +kernel
theorem dX14_readNumber_156 : decode cX14_readNumber 156 = .ok (.getfield 273, 3) := by decide +kernel
theorem dX14_readNumber_159 : decode cX14_readNumber 159 = .ok (.iconst 1, 1) := by decide +kernel
theorem dX14_readNumber_160 : decode cX14_readNumber 160 = .ok (.iadd, 1) := by decide +kernel
theorem dX14_readNumber_161 : decode cX14_readNumber 161 = .ok (.putfield 273, 3) := by decide +kernel
theorem dX14_readNumber_164 : decode cX14_readNumber 164 = .ok (.aload_n 0, 1) := by decide +kernel
theorem dX14_readNumber_165 : decode cX14_readNumber 165 = .ok (.invokevirtual 326, 3) := by decide +kernel
theorem dX14_readNumber_168 : decode cX14_readNumber 168 = .ok (.aload_n 0, 1) := by decide +kernel
theorem dX14_readNumber_169 : decode cX14_readNumber 169 = .ok (.getfield 288, 3) := by decide +kernel
theorem dX14_readNumber_172 : decode cX14_readNumber 172 = .ok (.ifCond .ne 66, 3) := by decide +kernel
theorem dX14_readNumber_175 : decode cX14_readNumber 175 = .ok (.aload_n 0, 1) := by decide +kernel
theorem dX14_readNumber_176 : decode cX14_readNumber 176 = .ok (.invokevirtual 279, 3) := by decide +kernel
theorem dX14_readNumber_179 : decode cX14_readNumber 179 = .ok (.bipush 101, 2) := by decide +kernel
theorem dX14_readNumber_181 : decode cX14_readNumber 181 = .ok (.if_icmp .eq 12, 3) := by decide +kernel
theorem dX14_readNumber_184 : decode cX14_readNumber 184 = .ok (.aload_n 0, 1) := by decide +kernel
theorem dX14_readNumber_185 : decode cX14_readNumber 185 = .ok (.invokevirtual 279, 3) := by decide +kernel
theorem dX14_readNumber_188 : decode cX14_readNumber 188 = .ok (.bipush 69, 2) := by decide +kernel
theorem dX14_readNumber_190 : decode cX14_readNumber 190 = .ok (.if_icmp .ne 48, 3) := by decide +kernel
theorem dX14_readNumber_193 : decode cX14_readNumber 193 = .ok (.iconst 0, 1) := by decide +kernel
theorem dX14_readNumber_194 : decode cX14_readNumber 194 = .ok (.istore 6, 2) := by decide +kernel
theorem dX14_readNumber_196 : decode cX14_readNumber 196 = .ok (.aload_n 0, 1) := by decide +kernel
theorem dX14_readNumber_197 : decode cX14_readNumber 197 = .ok (.dup, 1) := by decide +kernel
theorem dX14_readNumber_198 : decode cX14_readNumber 198 = .ok (.getfield 273, 3) := by decide +kernel
theorem dX14_readNumber_201 : decode cX14_readNumber 201 = .ok (.iconst 1, 1) := by decide +kernel
theorem dX14_readNumber_202 : decode cX14_readNumber 202 = .ok (.iadd, 1) := by decide +kernel
theorem dX14_readNumber_203 : decode cX14_readNumber 203 = .ok (.putfield 273, 3) := by decide +kernel
theorem dX14_readNumber_206 : decode cX14_readNumber 206 = .ok (.aload_n 0, 1) := by decide +kernel
theorem dX14_readNumber_207 : decode cX14_readNumber 207 = .ok (.invokevirtual 279, 3) := by decide +kernel
theorem dX14_readNumber_210 : decode cX14_readNumber 210 = .ok (.bipush 43, 2) := by decide +kernel
theorem dX14_readNumber_212 : decode cX14_readNumber 212 = .ok (.if_icmp .eq 12, 3) := by decide +kernel
theorem dX14_readNumber_215 : decode cX14_readNumber 215 = .ok (.aload_n 0, 1) := by decide +kernel
theorem dX14_readNumber_216 : decode cX14_readNumber 216 = .ok (.invokevirtual 279, 3) := by decide +kernel
theorem dX14_readNumber_219 : decode cX14_readNumber 219 = .ok (.bipush 45, 2) := by decide +kernel
theorem dX14_readNumber_221 : decode cX14_readNumber 221 = .ok (.if_icmp .ne 13, 3) := by decide +kernel
theorem dX14_readNumber_224 : decode cX14_readNumber 224 = .ok (.aload_n 0, 1) := by decide +kernel
theorem dX14_readNumber_225 : decode cX14_readNumber 225 = .ok (.dup, 1) := by decide +kernel
theorem dX14_readNumber_226 : decode cX14_readNumber 226 = .ok (.getfield 273, 3) := by decide +kernel
theorem dX14_readNumber_229 : decode cX14_readNumber 229 = .ok (.iconst 1, 1) := by decide +kernel
theorem dX14_readNumber_230 : decode cX14_readNumber 230 = .ok (.iadd, 1) := by decide +kernel
theorem dX14_readNumber_231 : decode cX14_readNumber 231 = .ok (.putfield 273, 3) := by decide +kernel
theorem dX14_readNumber_234 : decode cX14_readNumber 234 = .ok (.aload_n 0, 1) := by decide +kernel
theorem dX14_readNumber_235 : decode cX14_readNumber 235 = .ok (.invokevirtual 326, 3) := by decide +kernel
theorem dX14_readNumber_238 : decode cX14_readNumber 238 = .ok (.iload_n 2, 1) := by decide +kernel
theorem dX14_readNumber_239 : decode cX14_readNumber 239 = .ok (.ifCond .eq 9, 3) := by decide +kernel
theorem dX14_readNumber_242 : decode cX14_readNumber 242 = .ok (.lload 4, 2) := by decide +kernel
theorem dX14_readNumber_244 : decode cX14_readNumber 244 = .ok (.lneg, 1) := by decide +kernel
theorem dX14_readNumber_245 : decode cX14_readNumber 245 = .ok (.goto 5, 3) := by decide +kernel
theorem dX14_readNumber_248 : decode cX14_readNumber 248 = .ok (.lload 4, 2) := by decide +kernel
theorem dX14_readNumber_250 : decode cX14_readNumber 250 = .ok (.lstore 7, 2) := by decide +kernel
theorem dX14_readNumber_252 : decode cX14_readNumber 252 = .ok (.aload_n 0, 1) := by decide +kernel
theorem dX14_readNumber_253 : decode cX14_readNumber 253 = .ok (.getfield 58, 3) := by decide +kernel
theorem dX14_readNumber_256 : decode cX14_readNumber 256 = .ok (.iload_n 1, 1) := by decide +kernel
theorem dX14_readNumber_257 : decode cX14_readNumber 257 = .ok (.iload 6, 2) := by decide +kernel
theorem dX14_readNumber_259 : decode cX14_readNumber 259 = .ok (.ifCond .eq 25, 3) := by decide +kernel
theorem dX14_readNumber_262 : decode cX14_readNumber 262 = .ok (.lload 7, 2) := by decide +kernel
theorem dX14_readNumber_264 : decode cX14_readNumber 264 = .ok (.ldc2_w 329, 3) := by decide +kernel
theorem dX14_readNumber_267 : decode cX14_readNumber 267 = .ok (.lcmp, 1) := by decide +kernel
theorem dX14_readNumber_268 : decode cX14_readNumber 268 = .ok (.ifCond .lt 16, 3) := by decide +kernel
theorem dX14_readNumber_271 : decode cX14_readNumber 271 = .ok (.lload 7, 2) := by decide +kernel
theorem dX14_readNumber_273 : decode cX14_readNumber 273 = .ok (.ldc2_w 331, 3) := by decide +kernel
theorem dX14_readNumber_276 : decode cX14_readNumber 276 = .ok (.lcmp, 1) := by decide +kernel
theorem dX14_readNumber_277 : decode cX14_readNumber 277 = .ok (.ifCond .gt 7, 3) := by decide +kernel
theorem dX14_readNumber_280 : decode cX14_readNumber 280 = .ok (.iconst 1, 1) := by decide +kernel
theorem dX14_readNumber_281 : decode cX14_readNumber 281 = .ok (.goto 4, 3) := by decide +kernel
theorem dX14_readNumber_284 : decode cX14_readNumber 284 = .ok (.iconst 0, 1) := by decide +kernel
theorem dX14_readNumber_285 : decode cX14_readNumber 285 = .ok (.bastore, 1) := by decide +kernel
theorem dX14_readNumber_286 : decode cX14_readNumber 286 = .ok (.aload_n 0, 1) := by decide +kernel
theorem dX14_readNumber_287 : decode cX14_readNumber 287 = .ok (.getfield 62, 3) := by decide +kernel
theorem dX14_readNumber_290 : decode cX14_readNumber 290 = .ok (.iload_n 1, 1) := by decide +kernel
theorem dX14_readNumber_291 : decode cX14_readNumber 291 = .ok (.lload 7, 2) := by decide +kernel
theorem dX14_readNumber_293 : decode cX14_readNumber 293 = .ok (.l2i, 1) := by decide +kernel
theorem dX14_readNumber_294 : decode cX14_readNumber 294 = .ok (.iastore, 1) := by decide +kernel
theorem dX14_readNumber_295 : decode cX14_readNumber 295 = .ok (.iload_n 1, 1) := by decide +kernel
theorem dX14_readNumber_296 : decode cX14_readNumber 296 = .ok (.ireturn, 1) := by decide +kernel
set_option maxRecDepth 20000 in
theorem ggX14_utfLength_X14_in : GoodIn wsX14_utfLength wsX14_in := goodIn_r _ [9] (by decide +kernel) (by decide +kernel)
set_option maxRecDepth 20000 in
theorem gX14_utfLength_X14_in : GoodIn wsX14_utfLength (va_wsS RX14 181 yX14_in wsX14_in) := goodIn_app (goodIn_of _ (by decide +kernel)) ggX14_utfLength_X14_in
theorem dX14_utfLength_0 : decode cX14_utfLength 0 = .ok (.aload_n 1, 1) := by decide +kernel
theorem dX14_utfLength_1 : decode cX14_utfLength 1 = .ok (.iload_n 2, 1) := by decide +kernel
theorem dX14_utfLength_2 : decode cX14_utfLength 2 = .ok (.iaload, 1) := by decide +kernel
theorem dX14_utfLength_3 : decode cX14_utfLength 3 = .ok (.istore 4, 2) := by decide +kernel
theorem dX14_utfLength_5 : decode cX14_utfLength 5 = .ok (.aload_n 0, 1) := by decide +kernel
theorem dX14_utfLength_6 : decode cX14_utfLength 6 = .ok (.iload 4, 2) := by decide +kernel
theorem dX14_utfLength_8 : decode cX14_utfLength 8 = .ok (.putfield 357, 3) := by decide +kernel
theorem dX14_utfLength_11 : decode cX14_utfLength 11 = .ok (.iload 4, 2) := by decide +kernel
theorem dX14_utfLength_13 : decode cX14_utfLength 13 = .ok (.sipush 128, 3) := by decide +kernel
theorem dX14_utfLength_16 : decode cX14_utfLength 16 = .ok (.if_icmp .ge 5, 3) := by decide +kernel
theorem dX14_utfLength_19 : decode cX14_utfLength 19 = .ok (.iconst 1, 1) := by decide +kernel
theorem dX14_utfLength_20 : decode cX14_utfLength 20 = .ok (.ireturn, 1) := by decide +kernel
theorem dX14_utfLength_21 : decode cX14_utfLength 21 = .ok (.iload 4, 2) := by decide +kernel
theorem dX14_utfLength_23 : decode cX14_utfLength 23 = .ok (.sipush 194, 3) := by decide +kernel
theorem dX14_utfLength_26 : decode cX14_utfLength 26 = .ok (.sipush 223, 3) := by decide +kernel
theorem dX14_utfLength_29 : decode cX14_utfLength 29 = .ok (.invokestatic 181, 3) := by decide +kernel
theorem dX14_utfLength_32 : decode cX14_utfLength 32 = .ok (.ifCond .eq 7, 3) := by decide +kernel
theorem dX14_utfLength_35 : decode cX14_utfLength 35 = .ok (.iconst 2, 1) := by decide +kernel
theorem dX14_utfLength_36 : decode cX14_utfLength 36 = .ok (.goto 40, 3) := by decide +kernel
theorem dX14_utfLength_39 : decode cX14_utfLength 39 = .ok (.iload 4, 2) := by decide +kernel
theorem dX14_utfLength_41 : decode cX14_utfLength 41 = .ok (.sipush 224, 3) := by decide +kernel
theorem dX14_utfLength_44 : decode cX14_utfLength 44 = .ok (.sipush 239, 3) := by decide +kernel
theorem dX14_utfLength_47 : decode cX14_utfLength 47 = .ok (.invokestatic 181, 3) := by decide +kernel
theorem dX14_utfLength_50 : decode cX14_utfLength 50 = .ok (.ifCond .eq 7, 3) := by decide +kernel
theorem dX14_utfLength_53 : decode cX14_utfLength 53 = .ok (.iconst 3, 1) := by decide +kernel
theorem dX14_utfLength_54 : decode cX14_utfLength 54 = .ok (.goto 22, 3) := by decide +kernel
theorem dX14_utfLength_57 : decode cX14_utfLength 57 = .ok (.iload 4, 2) := by decide +kernel
theorem dX14_utfLength_59 : decode cX14_utfLength 59 = .ok (.sipush 240, 3) := by decide +kernel
theorem dX14_utfLength_62 : decode cX14_utfLength 62 = .ok (.sipush 244, 3) := by decide +kernel
theorem dX14_utfLength_65 : decode cX14_utfLength 65 = .ok (.invokestatic 181, 3) := by decide +kernel
theorem dX14_utfLength_68 : decode cX14_utfLength 68 = .ok (.ifCond .eq 7, 3) := by decide +kernel
theorem dX14_utfLength_71 : decode cX14_utfLength 71 = .ok (.iconst 4, 1) := by decide +kernel
theorem dX14_utfLength_72 : decode cX14_utfLength 72 = .ok (.goto 4, 3) := by decide +kernel
theorem dX14_utfLength_75 : decode cX14_utfLength 75 = .ok (.iconst 0, 1) := by decide +kernel
theorem dX14_utfLength_76 : decode cX14_utfLength 76 = .ok (.istore 5, 2) := by decide +kernel
theorem dX14_utfLength_78 : decode cX14_utfLength 78 = .ok (.iload 5, 2) := by decide +kernel
theorem dX14_utfLength_80 : decode cX14_utfLength 80 = .ok (.ifCond .eq 11, 3) := by decide +kernel
theorem dX14_utfLength_83 : decode cX14_utfLength 83 = .ok (.iload_n 2, 1) := by decide +kernel
theorem dX14_utfLength_84 : decode cX14_utfLength 84 = .ok (.iload 5, 2) := by decide +kernel
theorem dX14_utfLength_86 : decode cX14_utfLength 86 = .ok (.iadd, 1) := by decide +kernel
theorem dX14_utfLength_87 : decode cX14_utfLength 87 = .ok (.iload_n 3, 1) := by decide +kernel
theorem dX14_utfLength_88 : decode cX14_utfLength 88 = .ok (.if_icmp .le 5, 3) := by decide +kernel
theorem dX14_utfLength_91 : decode cX14_utfLength 91 = .ok (.iconst 0, 1) := by decide +kernel
theorem dX14_utfLength_92 : decode cX14_utfLength 92 = .ok (.ireturn, 1) := by decide +kernel
theorem dX14_utfLength_93 : decode cX14_utfLength 93 = .ok (.iload 5, 2) := by decide +kernel
theorem dX14_utfLength_95 : decode cX14_utfLength 95 = .ok (.iconst 2, 1) := by decide +kernel
theorem dX14_utfLength_96 : decode cX14_utfLength 96 = .ok (.if_icmp .ne 11, 3) := by decide +kernel
theorem dX14_utfLength_99 : decode cX14_utfLength 99 = .ok (.iload 4, 2) := by decide +kernel
theorem dX14_utfLength_101 : decode cX14_utfLength 101 = .ok (.bipush 31, 2) := by decide +kernel
theorem dX14_utfLength_103 : decode cX14_utfLength 103 = .ok (.iand, 1) := by decide +kernel
theorem dX14_utfLength_104 : decode cX14_utfLength 104 = .ok (.goto 22, 3) := by decide +kernel
theorem dX14_utfLength_107 : decode cX14_utfLength 107 = .ok (.iload 5, 2) := by decide +kernel
theorem dX14_utfLength_109 : decode cX14_utfLength 109 = .ok (.iconst 3, 1) := by decide +kernel
theorem dX14_utfLength_110 : decode cX14_utfLength 110 = .ok (.if_icmp .ne 11, 3) := by decide +kernel
theorem dX14_utfLength_113 : decode cX14_utfLength 113 = .ok (.iload 4, 2) := by decide +kernel
theorem dX14_utfLength_115 : decode cX14_utfLength 115 = .ok (.bipush 15, 2) := by decide +kernel
theorem dX14_utfLength_117 : decode cX14_utfLength 117 = .ok (.iand, 1) := by decide +kernel
theorem dX14_utfLength_118 : decode cX14_utfLength 118 = .ok (.goto 8, 3) := by decide +kernel
theorem dX14_utfLength_121 : decode cX14_utfLength 121 = .ok (.iload 4, 2) := by decide +kernel
theorem dX14_utfLength_123 : decode cX14_utfLength 123 = .ok (.bipush 7, 2) := by decide +kernel
theorem dX14_utfLength_125 : decode cX14_utfLength 125 = .ok (.iand, 1) := by decide +kernel
theorem dX14_utfLength_126 : decode cX14_utfLength 126 = .ok (.istore 6, 2) := by decide +kernel
theorem dX14_utfLength_128 : decode cX14_utfLength 128 = .ok (.iconst 1, 1) := by decide +kernel
theorem dX14_utfLength_129 : decode cX14_utfLength 129 = .ok (.istore 7, 2) := by decide +kernel
theorem dX14_utfLength_131 : decode cX14_utfLength 131 = .ok (.iload 7, 2) := by decide +kernel
theorem dX14_utfLength_133 : decode cX14_utfLength 133 = .ok (.iload 5, 2) := by decide +kernel
theorem dX14_utfLength_135 : decode cX14_utfLength 135 = .ok (.if_icmp .ge 46, 3) := by decide +kernel
theorem dX14_utfLength_138 : decode cX14_utfLength 138 = .ok (.aload_n 1, 1) := by decide +kernel
theorem dX14_utfLength_139 : decode cX14_utfLength 139 = .ok (.iload_n 2, 1) := by decide +kernel
theorem dX14_utfLength_140 : decode cX14_utfLength 140 = .ok (.iload 7, 2) := by decide +kernel
theorem dX14_utfLength_142 : decode cX14_utfLength 142 = .ok (.iadd, 1) := by decide +kernel
theorem dX14_utfLength_143 : decode cX14_utfLength 143 = .ok (.iaload, 1) := by decide +kernel
theorem dX14_utfLength_144 : decode cX14_utfLength 144 = .ok (.sipush 128, 3) := by decide +kernel
theorem dX14_utfLength_147 : decode cX14_utfLength 147 = .ok (.sipush 191, 3) := by decide +kernel
theorem dX14_utfLength_150 : decode cX14_utfLength 150 = .ok (.invokestatic 181, 3) := by decide +kernel
theorem dX14_utfLength_153 : decode cX14_utfLength 153 = .ok (.ifCond .ne 5, 3) := by decide +kernel
theorem dX14_utfLength_156 : decode cX14_utfLength 156 = .ok (.iconst 0, 1) := by decide +kernel
theorem dX14_utfLength_157 : decode cX14_utfLength 157 = .ok (.ireturn, 1) := by decide +kernel
theorem dX14_utfLength_158 : decode cX14_utfLength 158 = .ok (.iload 6, 2) := by decide +kernel
theorem dX14_utfLength_160 : decode cX14_utfLength 160 = .ok (.bipush 6, 2) := by decide +kernel
theorem dX14_utfLength_162 : decode cX14_utfLength 162 = .ok (.ishl, 1) := by decide +kernel
theorem dX14_utfLength_163 : decode cX14_utfLength 163 = .ok (.aload_n 1, 1) := by decide +kernel
theorem dX14_utfLength_164 : decode cX14_utfLength 164 = .ok (.iload_n 2, 1) := by decide +kernel
theorem dX14_utfLength_165 : decode cX14_utfLength 165 = .ok (.iload 7, 2) := by decide +kernel
theorem dX14_utfLength_167 : decode cX14_utfLength 167 = .ok (.iadd, 1) := by decide +kernel
theorem dX14_utfLength_168 : decode cX14_utfLength 168 = .ok (.iaload, 1) := by decide +kernel
theorem dX14_utfLength_169 : decode cX14_utfLength 169 = .ok (.bipush 63, 2) := by decide +kernel
theorem dX14_utfLength_171 : decode cX14_utfLength 171 = .ok (.iand, 1) := by decide +kernel
theorem dX14_utfLength_172 : decode cX14_utfLength 172 = .ok (.ior, 1) := by decide +kernel
theorem dX14_utfLength_173 : decode cX14_utfLength 173 = .ok (.istore 6, 2) := by decide +kernel
theorem dX14_utfLength_175 : decode cX14_utfLength 175 = .ok (.iinc 7 1, 3) := by decide +kernel
theorem dX14_utfLength_178 : decode cX14_utfLength 178 = .ok (.goto (-47), 3) := by decide +kernel
theorem dX14_utfLength_181 : decode cX14_utfLength 181 = .ok (.iload 5, 2) := by decide +kernel
theorem dX14_utfLength_183 : decode cX14_utfLength 183 = .ok (.iconst 3, 1) := by decide +kernel
theorem dX14_utfLength_184 : decode cX14_utfLength 184 = .ok (.if_icmp .ne 11, 3) := by decide +kernel
theorem dX14_utfLength_187 : decode cX14_utfLength 187 = .ok (.iload 6, 2) := by decide +kernel
theorem dX14_utfLength_189 : decode cX14_utfLength 189 = .ok (.sipush 2048, 3) := by decide +kernel
theorem dX14_utfLength_192 : decode cX14_utfLength 192 = .ok (.if_icmp .lt 36, 3) := by decide +kernel
theorem dX14_utfLength_195 : decode cX14_utfLength 195 = .ok (.iload 5, 2) := by decide +kernel
theorem dX14_utfLength_197 : decode cX14_utfLength 197 = .ok (.iconst 4, 1) := by decide +kernel
theorem dX14_utfLength_198 : decode cX14_utfLength 198 = .ok (.if_icmp .ne 10, 3) := by decide +kernel
theorem dX14_utfLength_201 : decode cX14_utfLength 201 = .ok (.iload 6, 2) := by decide +kernel
theorem dX14_utfLength_203 : decode cX14_utfLength 203 = .ok (.ldc 197, 2) := by decide +kernel
theorem dX14_utfLength_205 : decode cX14_utfLength 205 = .ok (.if_icmp .lt 23, 3) := by decide +kernel
theorem dX14_utfLength_208 : decode cX14_utfLength 208 = .ok (.iload 6, 2) := by decide +kernel
theorem dX14_utfLength_210 : decode cX14_utfLength 210 = .ok (.ldc 179, 2) := by decide +kernel
theorem dX14_utfLength_212 : decode cX14_utfLength 212 = .ok (.ldc 186, 2) := by decide +kernel
theorem dX14_utfLength_214 : decode cX14_utfLength 214 = .ok (.invokestatic 181, 3) := by decide +kernel
theorem dX14_utfLength_217 : decode cX14_utfLength 217 = .ok (.ifCond .ne 11, 3) := by decide +kernel
theorem dX14_utfLength_220 : decode cX14_utfLength 220 = .ok (.iload 6, 2) := by decide +kernel
theorem dX14_utfLength_222 : decode cX14_utfLength 222 = .ok (.ldc_w 360, 3) := by decide +kernel
theorem dX14_utfLength_225 : decode cX14_utfLength 225 = .ok (.if_icmp .le 5, 3) := by decide +kernel
theorem dX14_utfLength_228 : decode cX14_utfLength 228 = .ok (.iconst 0, 1) := by decide +kernel
theorem dX14_utfLength_229 : decode cX14_utfLength 229 = .ok (.ireturn, 1) := by decide +kernel
theorem dX14_utfLength_230 : decode cX14_utfLength 230 = .ok (.aload_n 0, 1) := by decide +kernel
theorem dX14_utfLength_231 : decode cX14_utfLength 231 = .ok (.iload 6, 2) := by decide +kernel
theorem dX14_utfLength_233 : decode cX14_utfLength 233 = .ok (.putfield 357, 3) := by decide +kernel
theorem dX14_utfLength_236 : decode cX14_utfLength 236 = .ok (.iload 5, 2) := by decide +kernel
theorem dX14_utfLength_238 : decode cX14_utfLength 238 = .ok (.ireturn, 1) := by decide +kernel
def EX14_utfLength : List (Nat × Nat) := [(16, 33)]
def EX14_readNumber : List (Nat × Nat) := [(16, 26), (16, 29), (16, 31), (117, 0), (118, 0), (119, 0), (124, 0), (125, 0)]
set_option maxHeartbeats 4000000 in
set_option maxRecDepth 20000 in
theorem uX14_utfLength (l : Launch) (dC : Nat → ClassId) (dI : Nat → Nat → Nat) (ca : Nat → ClassId) (base : Nat) (B : jF) (hB : jBok B) (hAp : jAp (dC, dI)) (hB16 : ∀ n G a H, B 16 n G a H ↔ jOb (dC, dI) 16 74 (F16 n G) a H) (hB110 : ∀ n G a H, B 110 n G a H ↔ jAr (dC, dI) (ca 1) (fun j z => 0 ≤ z.toInt ∧ z.toInt ≤ 255) n a H) (G0 : jT) (H0 : Heap) (r0 : Nat) (r1 : Nat) (a2 : Int32) (a3 : Int32) (n1 : Nat) : Met l yX14_utfLength wsX14_utfLength ({ frames := 1, cells := 0, slots := 0, locals := 22 }) (va_Pc [.ref r0, .ref r1, .int a2, .int a3] (fun U => U.heap = H0 ∧ jX B base G0 [] H0 ∧ jG dC dI ca base U ∧ G0 r1 = some (110, n1) ∧ G0 r0 = some (16, 0) ∧ jP (dC, dI) G0 H0 [] ∧ 0 ≤ a2.toInt ∧ a2.toInt < a3.toInt ∧ a3.toInt ≤ n1 ∧ n1 ≤ 4000)) (va_Qi (S := Int32) (fun r u => (r.toInt = 0 ∨ (1 ≤ r.toInt ∧ r.toInt ≤ 4 ∧ a2.toInt + r.toInt ≤ a3.toInt ∧ (u.toInt ≤ 65535 ∨ 2 ≤ r.toInt)))) (fun u t => jRt (dC, dI) B base G0 EX14_utfLength H0 [(r0, 16, 33, .int u)] t.heap) (jA base)) 0 0 (jA base) := by
  refine Met.ofW (cc := cX14_utfLength) (maxL := 8) (ret := (some .int)) (by decide) rfl ?_
  intro p e s m args below meth c s₁ Bd hml hv
  obtain ⟨rfl, hH0, hX, hG, hg_r1, hg_r0, hP0, hp0, hp1, hp2, hp3⟩ := hv
  have hK := hG.1
  have hx := Bd.exec
  have hb := Bd.bytes
  have hr := Bd.returns
  have hts := atoms_spec (ws := wsX14_utfLength) Bd.pre
  have hown : s.vm.findClass RX14 = some m.cls := findClass_of_methodNamed Bd.named
  have hlocks := Bd.notSynchronized
  obtain ⟨Q, hQ⟩ : ∃ Q, Q = MQ below (va_Qi (S := Int32) (fun r u => (r.toInt = 0 ∨ (1 ≤ r.toInt ∧ r.toInt ≤ 4 ∧ a2.toInt + r.toInt ≤ a3.toInt ∧ (u.toInt ≤ 65535 ∨ 2 ≤ r.toInt)))) (fun u t => jRt (dC, dI) B base G0 EX14_utfLength H0 [(r0, 16, 33, .int u)] t.heap) (jA base)) ([.ref r0, .ref r1, .int a2, .int a3] : List Value).toArray s 0 0 (jA base) := ⟨_, rfl⟩
  rw [← hQ]
  have hl := lv_entry ([.ref r0, .ref r1, .int a2, .int a3]) (n := 8) (Nat.le_of_ble_eq_true rfl)
  rw [lg_entry_eq]
  generalize (lg_sl ([.ref r0, .ref r1, .int a2, .int a3]) ++ List.replicate (8 - (lg_sl ([.ref r0, .ref r1, .int a2, .int a3])).length) Slot.unset).toArray = ls at hl ⊢
  have hl : lv_has ls 8 [(0, .ref r0), (1, .ref r1), (2, .int a2), (3, .int a3)] := hl
  generalize hR : (headSpec wsX14_utfLength ({ frames := 1, cells := 0, slots := 0, locals := 22 })).room = R
  subst hH0
  have hh : jSt (dC, dI) B base G0 G0 EX14_utfLength s.heap 0 0 [] [] [] s.heap [] := jSt.start hX hP0 jMc.nil jIs.nil
  clear hX hP0
  have hk0 : (0 : Int32).toInt = 0 := by decide
  have hk1 : (1 : Int32).toInt = 1 := by decide
  have hk2 : (2 : Int32).toInt = 2 := by decide
  have hk3 : (3 : Int32).toInt = 3 := by decide
  have hk4 : (4 : Int32).toInt = 4 := by decide
  have hk6 : (6 : Int32).toInt = 6 := by decide
  have hk7 : (7 : Int32).toInt = 7 := by decide
  have hk15 : (15 : Int32).toInt = 15 := by decide
  have hk31 : (31 : Int32).toInt = 31 := by decide
  have hk63 : (63 : Int32).toInt = 63 := by decide
  have hk128 : (128 : Int32).toInt = 128 := by decide
  have hk191 : (191 : Int32).toInt = 191 := by decide
  have hk194 : (194 : Int32).toInt = 194 := by decide
  have hk223 : (223 : Int32).toInt = 223 := by decide
  have hk224 : (224 : Int32).toInt = 224 := by decide
  have hk239 : (239 : Int32).toInt = 239 := by decide
  have hk240 : (240 : Int32).toInt = 240 := by decide
  have hk244 : (244 : Int32).toInt = 244 := by decide
  have hk2048 : (2048 : Int32).toInt = 2048 := by decide
  have hk55296 : (55296 : Int32).toInt = 55296 := by decide
  have hk57343 : (57343 : Int32).toInt = 57343 := by decide
  have hk65536 : (65536 : Int32).toInt = 65536 := by decide
  have hk1114111 : (1114111 : Int32).toInt = 1114111 := by decide
  have hly_16_33 := hts (u_lay RX14 TX14 33) (by decide +kernel)
  have hrg_a2 := jb_rng a2
  have hrg_a3 := jb_rng a3
  refine lv_aload_n hx hb dX14_utfLength_0 rfl (lv_at hl 1 rfl) ?_
  refine lv_iload_n hx hb dX14_utfLength_1 rfl (lv_at hl 2 rfl) ?_
  refine j7_iald hx hb hK hh hB110 1 rfl (by decide) hg_r1 (rfl) (by omega) dX14_utfLength_2 (fun z_1 (hz_1 : 0 ≤ z_1.toInt ∧ z_1.toInt ≤ 255) => ?_)
  refine lv_istore (lv' := [(4, .int z_1), (0, .ref r0), (1, .ref r1), (2, .int a2), (3, .int a3)]) hx hb dX14_utfLength_3 hl (by decide) rfl (fun ls hl => ?_)
  refine lv_aload_n hx hb dX14_utfLength_5 rfl (lv_at hl 1 rfl) ?_
  refine lv_iload hx hb dX14_utfLength_6 (lv_at hl 0 rfl) ?_
  refine j7_put hx hb hown hK hh hB hAp hB16 (C := RX14) (T := TX14) (N := 74) rfl (by decide) hg_r0 (i := 33) (by decide) hly_16_33 rfl (hts (.fieldLink RX14 357 "ProofServerModel" "utfChar" "I") (by decide +kernel)) rfl (ty := .int) (v := .int z_1) (by decide +kernel) rfl rfl (⟨_, rfl⟩) rfl (L1 := []) [] rfl rfl rfl dX14_utfLength_8 (fun H_2 locs_2 hh_2 => ?_)
  clear hh
  refine lv_iload hx hb dX14_utfLength_11 (lv_at hl 0 rfl) ?_
  refine lv_sipush (v := 128) hx hb dX14_utfLength_13 (by decide) ?_
  refine lv_icmp_ge (tgt := 21) hx hb dX14_utfLength_16 (by decide) (fun c_3 => ?_) (fun c_3 => ?_)
  · skip
    have c_3' : z_1.toInt ≥ 128 := jb_ge (rfl) ((by decide)) c_3
    refine lv_iload hx hb dX14_utfLength_21 (lv_at hl 0 rfl) ?_
    refine lv_sipush (v := 194) hx hb dX14_utfLength_23 (by decide) ?_
    refine lv_sipush (v := 223) hx hb dX14_utfLength_26 (by decide) ?_
    refine va_calli (A0 := jA base) (H0 := s.heap) (va_runS (As := [.int z_1, .int 194, .int 223]) (rest := []) ⟨hx, hb, hml, hown, hts⟩ (uX14_in l dC dI ca base B hB hAp G0 H_2 z_1 194 223) (va_cwS 3 hts gX14_utfLength_X14_in rfl rfl rfl (by decide +kernel) ⟨by rw [← hR]; exact Nat.le_of_ble_eq_true rfl, by rw [← hR]; exact Nat.le_of_ble_eq_true rfl⟩) ⟨fun a U g mk q => by obtain ⟨q0, q1, q2, qK, q10, q11⟩ := q; exact ⟨q0, q1, q2, jG.calling g mk a qK, q10, q11⟩, fun U hU hW => ⟨rfl, hU, hh_2.2.1, hG.step hW hU hh_2.1, jP.nil, trivial⟩⟩ rfl rfl hl.1 rfl (lv_room (Nat.le_of_ble_eq_true rfl)) dX14_utfLength_29 ⟨Nat.zero_le _, Nat.zero_le _⟩) hh_2.1 (fun q _ h => h) (fun q h => h) (fun r_5 u_4 t_4 H_4 locs_4 ht_4 hvm_4 hr_5 hb_4 hz_4 hk_4 hS_4 => ?_)
    rw [ht_4] at hb_4
    obtain ⟨hb_41, hb_42, hb_43, hb_44, hb_45⟩ := hb_4
    have hh_4 : jSt (dC, dI) B base G0 G0 EX14_utfLength s.heap 0 0 [(r0, 16, 33, .int z_1)] [] [] H_4 locs_4 := (hh_2.call hb_41 hb_42 hb_43 hb_44 hS_4 rfl (L1 := [(r0, 16, 33, .int z_1)]) [0] rfl rfl (M1 := []) [] rfl rfl (I1 := []) [] rfl rfl).more hb_45
    clear hh_2 ht_4 hvm_4 hz_4 hk_4 hS_4 hb_41 hb_42 hb_43 hb_44 hb_45
    obtain ⟨hr_5b, hr_5p⟩ := hr_5
    obtain ⟨hr_5p_0, hr_5p_1⟩ := hr_5p
    have hr_5' := jb_01 hr_5b
    have C76 : ∀ (w0_6 : Int32) (H_6 : Heap) (locs_6 : List Loc), jSt (dC, dI) B base G0 G0 EX14_utfLength s.heap 0 0 [(r0, 16, 33, .int z_1)] [] [] H_6 locs_6 → (0 ≤ w0_6.toInt ∧ w0_6.toInt ≤ 4 ∧ w0_6.toInt ≠ 1) → ∀ ls : Array Slot, lv_has ls 8 [(0, .ref r0), (1, .ref r1), (2, .int a2), (3, .int a3), (4, .int z_1)] → W p l e R s m ([.ref r0, .ref r1, .int a2, .int a3] : List Value).toArray below meth c H_6 locs_6 0 0 Q (F0 m 76 ls [.int w0_6]) := by
      intro w0_6 H_6 locs_6 hh_6  hi_6 ls hl
      obtain ⟨hi_6_0, hi_6_1, hi_6_2⟩ := hi_6
      refine lv_istore (lv' := [(5, .int w0_6), (0, .ref r0), (1, .ref r1), (2, .int a2), (3, .int a3), (4, .int z_1)]) hx hb dX14_utfLength_76 hl (by decide) rfl (fun ls hl => ?_)
      refine lv_iload hx hb dX14_utfLength_78 (lv_at hl 0 rfl) ?_
      refine lv_if_eq (tgt := 91) hx hb dX14_utfLength_80 (by decide) (fun c_7 => ?_) (fun c_7 => ?_)
      · skip
        have c_7' : w0_6.toInt = 0 := jb_eq (rfl) ((by decide)) c_7
        refine lv_iconst (v := 0) hx hb dX14_utfLength_91 (by decide) ?_
        rw [hQ]
        exact W.iret (v := 0) hx hb hr (fun t ht hW => ⟨⟨0, z_1, rfl, by first | omega | rfl | assumption | decide | exact Or.inl rfl | exact Or.inr rfl | (simp only; omega), hh_6.rt (M1 := [(r0, 16, 33, .int z_1)]) [0] rfl ht⟩, by rw [ht]; try exact hh_6.1.1, fun q h9 hq => by rw [ht]; try exact hh_6.1.2.1 q h9 hq⟩) hh_6.1.2.2 dX14_utfLength_92
      · skip
        have c_7' : w0_6.toInt ≠ 0 := jb_eq_n (rfl) ((by decide)) c_7
        refine lv_iload_n hx hb dX14_utfLength_83 rfl (lv_at hl 3 rfl) ?_
        refine lv_iload hx hb dX14_utfLength_84 (lv_at hl 0 rfl) ?_
        refine lv_iadd hx hb dX14_utfLength_86 ?_
        refine lv_topi (fun z_8 ez_8 => ?_)
        have hz_8 : z_8.toInt = a2.toInt + w0_6.toInt := by rw [ez_8]; exact jb_iadd2 (rfl) (rfl) (by omega)
        refine lv_iload_n hx hb dX14_utfLength_87 rfl (lv_at hl 4 rfl) ?_
        refine lv_icmp_le (tgt := 93) hx hb dX14_utfLength_88 (by decide) (fun c_9 => ?_) (fun c_9 => ?_)
        · skip
          have c_9' : z_8.toInt ≤ a3.toInt := jb_le (rfl) (rfl) c_9
          refine lv_iload hx hb dX14_utfLength_93 (lv_at hl 0 rfl) ?_
          refine lv_iconst (v := 2) hx hb dX14_utfLength_95 (by decide) ?_
          have C126 : ∀ (w0_10 : Int32) (H_10 : Heap) (locs_10 : List Loc), jSt (dC, dI) B base G0 G0 EX14_utfLength s.heap 0 0 [(r0, 16, 33, .int z_1)] [] [] H_10 locs_10 → (True) → ∀ ls : Array Slot, lv_has ls 8 [(0, .ref r0), (1, .ref r1), (2, .int a2), (3, .int a3), (4, .int z_1), (5, .int w0_6)] → W p l e R s m ([.ref r0, .ref r1, .int a2, .int a3] : List Value).toArray below meth c H_10 locs_10 0 0 Q (F0 m 126 ls [.int w0_10]) := by
            intro w0_10 H_10 locs_10 hh_10  hi_10 ls hl
            refine lv_istore (lv' := [(6, .int w0_10), (0, .ref r0), (1, .ref r1), (2, .int a2), (3, .int a3), (4, .int z_1), (5, .int w0_6)]) hx hb dX14_utfLength_126 hl (by decide) rfl (fun ls hl => ?_)
            refine lv_iconst (v := 1) hx hb dX14_utfLength_128 (by decide) ?_
            refine lv_istore (lv' := [(7, .int 1), (6, .int w0_10), (0, .ref r0), (1, .ref r1), (2, .int a2), (3, .int a3), (4, .int z_1), (5, .int w0_6)]) hx hb dX14_utfLength_129 hl (by decide) rfl (fun ls hl => ?_)
            have L131 : ∀ (N : Nat) (v6_11 : Int32) (v7_11 : Int32) (H_11 : Heap) (locs_11 : List Loc), jSt (dC, dI) B base G0 G0 EX14_utfLength s.heap 0 0 [(r0, 16, 33, .int z_1)] [] [] H_11 locs_11 → (1 ≤ v7_11.toInt ∧ v7_11.toInt ≤ w0_6.toInt) → (w0_6.toInt - v7_11.toInt : Int) < N → ∀ ls : Array Slot, lv_has ls 8 [(0, .ref r0), (1, .ref r1), (2, .int a2), (3, .int a3), (4, .int z_1), (5, .int w0_6), (6, .int v6_11), (7, .int v7_11)] → W p l e R s m ([.ref r0, .ref r1, .int a2, .int a3] : List Value).toArray below meth c H_11 locs_11 0 0 Q (F0 m 131 ls []) := by
              intro N
              induction N with
              | zero => intro v6_11 v7_11 H_11 locs_11 hh_11  hi_11 hm; exact absurd hm (by omega)
              | succ N L131 =>
                intro v6_11 v7_11 H_11 locs_11 hh_11  hi_11 hm_11 ls hl
                obtain ⟨hi_11_0, hi_11_1⟩ := hi_11
                refine lv_iload hx hb dX14_utfLength_131 (lv_at hl 7 rfl) ?_
                refine lv_iload hx hb dX14_utfLength_133 (lv_at hl 5 rfl) ?_
                refine lv_icmp_ge (tgt := 181) hx hb dX14_utfLength_135 (by decide) (fun c_12 => ?_) (fun c_12 => ?_)
                · skip
                  have c_12' : v7_11.toInt ≥ w0_6.toInt := jb_ge (rfl) (rfl) c_12
                  refine lv_iload hx hb dX14_utfLength_181 (lv_at hl 5 rfl) ?_
                  refine lv_iconst (v := 3) hx hb dX14_utfLength_183 (by decide) ?_
                  refine lv_icmp_ne (tgt := 195) hx hb dX14_utfLength_184 (by decide) (fun c_13 => ?_) (fun c_13 => ?_)
                  · skip
                    have c_13' : w0_6.toInt ≠ 3 := jb_ne (rfl) ((by decide)) c_13
                    refine lv_iload hx hb dX14_utfLength_195 (lv_at hl 5 rfl) ?_
                    refine lv_iconst (v := 4) hx hb dX14_utfLength_197 (by decide) ?_
                    refine lv_icmp_ne (tgt := 208) hx hb dX14_utfLength_198 (by decide) (fun c_14 => ?_) (fun c_14 => ?_)
                    · skip
                      have c_14' : w0_6.toInt ≠ 4 := jb_ne (rfl) ((by decide)) c_14
                      refine lv_iload hx hb dX14_utfLength_208 (lv_at hl 6 rfl) ?_
                      refine lv_ldc hx hb hown (hts (.constant RX14 179 55296) (by decide +kernel)) dX14_utfLength_210 ?_
                      refine lv_ldc hx hb hown (hts (.constant RX14 186 57343) (by decide +kernel)) dX14_utfLength_212 ?_
                      refine va_calli (A0 := jA base) (H0 := s.heap) (va_runS (As := [.int v6_11, .int 55296, .int 57343]) (rest := []) ⟨hx, hb, hml, hown, hts⟩ (uX14_in l dC dI ca base B hB hAp G0 H_11 v6_11 55296 57343) (va_cwS 3 hts gX14_utfLength_X14_in rfl rfl rfl (by decide +kernel) ⟨by rw [← hR]; exact Nat.le_of_ble_eq_true rfl, by rw [← hR]; exact Nat.le_of_ble_eq_true rfl⟩) ⟨fun a U g mk q => by obtain ⟨q0, q1, q2, qK, q10, q11⟩ := q; exact ⟨q0, q1, q2, jG.calling g mk a qK, q10, q11⟩, fun U hU hW => ⟨rfl, hU, hh_11.2.1, hG.step hW hU hh_11.1, jP.nil, trivial⟩⟩ rfl rfl hl.1 rfl (lv_room (Nat.le_of_ble_eq_true rfl)) dX14_utfLength_214 ⟨Nat.zero_le _, Nat.zero_le _⟩) hh_11.1 (fun q _ h => h) (fun q h => h) (fun r_16 u_15 t_15 H_15 locs_15 ht_15 hvm_15 hr_16 hb_15 hz_15 hk_15 hS_15 => ?_)
                      rw [ht_15] at hb_15
                      obtain ⟨hb_151, hb_152, hb_153, hb_154, hb_155⟩ := hb_15
                      have hh_15 : jSt (dC, dI) B base G0 G0 EX14_utfLength s.heap 0 0 [(r0, 16, 33, .int z_1)] [] [] H_15 locs_15 := (hh_11.call hb_151 hb_152 hb_153 hb_154 hS_15 rfl (L1 := [(r0, 16, 33, .int z_1)]) [0] rfl rfl (M1 := []) [] rfl rfl (I1 := []) [] rfl rfl).more hb_155
                      clear hh_11 ht_15 hvm_15 hz_15 hk_15 hS_15 hb_151 hb_152 hb_153 hb_154 hb_155
                      obtain ⟨hr_16b, hr_16p⟩ := hr_16
                      obtain ⟨hr_16p_0, hr_16p_1⟩ := hr_16p
                      have hr_16' := jb_01 hr_16b
                      refine lv_if_ne (tgt := 228) hx hb dX14_utfLength_217 (by decide) (fun c_17 => ?_) (fun c_17 => ?_)
                      · skip
                        have c_17' : r_16.toInt ≠ 0 := jb_ne (rfl) ((by decide)) c_17
                        refine lv_iconst (v := 0) hx hb dX14_utfLength_228 (by decide) ?_
                        rw [hQ]
                        exact W.iret (v := 0) hx hb hr (fun t ht hW => ⟨⟨0, z_1, rfl, by first | omega | rfl | assumption | decide | exact Or.inl rfl | exact Or.inr rfl | (simp only; omega), hh_15.rt (M1 := [(r0, 16, 33, .int z_1)]) [0] rfl ht⟩, by rw [ht]; try exact hh_15.1.1, fun q h9 hq => by rw [ht]; try exact hh_15.1.2.1 q h9 hq⟩) hh_15.1.2.2 dX14_utfLength_229
                      · skip
                        have c_17' : r_16.toInt = 0 := jb_ne_n (rfl) ((by decide)) c_17
                        refine lv_iload hx hb dX14_utfLength_220 (lv_at hl 6 rfl) ?_
                        refine lv_ldcw hx hb hown (hts (.constant RX14 360 1114111) (by decide +kernel)) dX14_utfLength_222 ?_
                        refine lv_icmp_le (tgt := 230) hx hb dX14_utfLength_225 (by decide) (fun c_18 => ?_) (fun c_18 => ?_)
                        · skip
                          have c_18' : v6_11.toInt ≤ 1114111 := jb_le (rfl) ((by decide)) c_18
                          refine lv_aload_n hx hb dX14_utfLength_230 rfl (lv_at hl 0 rfl) ?_
                          refine lv_iload hx hb dX14_utfLength_231 (lv_at hl 6 rfl) ?_
                          refine j7_put hx hb hown hK hh_15 hB hAp hB16 (C := RX14) (T := TX14) (N := 74) rfl (by decide) hg_r0 (i := 33) (by decide) hly_16_33 rfl (hts (.fieldLink RX14 357 "ProofServerModel" "utfChar" "I") (by decide +kernel)) rfl (ty := .int) (v := .int v6_11) (by decide +kernel) rfl rfl (⟨_, rfl⟩) rfl (L1 := []) [] rfl rfl rfl dX14_utfLength_233 (fun H_19 locs_19 hh_19 => ?_)
                          clear hh_15
                          refine lv_iload hx hb dX14_utfLength_236 (lv_at hl 5 rfl) ?_
                          rw [hQ]
                          exact W.iret (v := w0_6) hx hb hr (fun t ht hW => ⟨⟨w0_6, v6_11, rfl, by first | omega | rfl | assumption | decide | exact Or.inl rfl | exact Or.inr rfl | (simp only; omega), hh_19.rt (M1 := [(r0, 16, 33, .int v6_11)]) [0] rfl ht⟩, by rw [ht]; try exact hh_19.1.1, fun q h9 hq => by rw [ht]; try exact hh_19.1.2.1 q h9 hq⟩) hh_19.1.2.2 dX14_utfLength_238
                        · skip
                          have c_18' : v6_11.toInt > 1114111 := jb_le_n (rfl) ((by decide)) c_18
                          refine lv_iconst (v := 0) hx hb dX14_utfLength_228 (by decide) ?_
                          rw [hQ]
                          exact W.iret (v := 0) hx hb hr (fun t ht hW => ⟨⟨0, z_1, rfl, by first | omega | rfl | assumption | decide | exact Or.inl rfl | exact Or.inr rfl | (simp only; omega), hh_15.rt (M1 := [(r0, 16, 33, .int z_1)]) [0] rfl ht⟩, by rw [ht]; try exact hh_15.1.1, fun q h9 hq => by rw [ht]; try exact hh_15.1.2.1 q h9 hq⟩) hh_15.1.2.2 dX14_utfLength_229
                    · skip
                      have c_14' : w0_6.toInt = 4 := jb_ne_n (rfl) ((by decide)) c_14
                      refine lv_iload hx hb dX14_utfLength_201 (lv_at hl 6 rfl) ?_
                      refine lv_ldc hx hb hown (hts (.constant RX14 197 65536) (by decide +kernel)) dX14_utfLength_203 ?_
                      refine lv_icmp_lt (tgt := 228) hx hb dX14_utfLength_205 (by decide) (fun c_20 => ?_) (fun c_20 => ?_)
                      · skip
                        have c_20' : v6_11.toInt < 65536 := jb_lt (rfl) ((by decide)) c_20
                        refine lv_iconst (v := 0) hx hb dX14_utfLength_228 (by decide) ?_
                        rw [hQ]
                        exact W.iret (v := 0) hx hb hr (fun t ht hW => ⟨⟨0, z_1, rfl, by first | omega | rfl | assumption | decide | exact Or.inl rfl | exact Or.inr rfl | (simp only; omega), hh_11.rt (M1 := [(r0, 16, 33, .int z_1)]) [0] rfl ht⟩, by rw [ht]; try exact hh_11.1.1, fun q h9 hq => by rw [ht]; try exact hh_11.1.2.1 q h9 hq⟩) hh_11.1.2.2 dX14_utfLength_229
                      · skip
                        have c_20' : v6_11.toInt ≥ 65536 := jb_lt_n (rfl) ((by decide)) c_20
                        refine lv_iload hx hb dX14_utfLength_208 (lv_at hl 6 rfl) ?_
                        refine lv_ldc hx hb hown (hts (.constant RX14 179 55296) (by decide +kernel)) dX14_utfLength_210 ?_
                        refine lv_ldc hx hb hown (hts (.constant RX14 186 57343) (by decide +kernel)) dX14_utfLength_212 ?_
                        refine va_calli (A0 := jA base) (H0 := s.heap) (va_runS (As := [.int v6_11, .int 55296, .int 57343]) (rest := []) ⟨hx, hb, hml, hown, hts⟩ (uX14_in l dC dI ca base B hB hAp G0 H_11 v6_11 55296 57343) (va_cwS 3 hts gX14_utfLength_X14_in rfl rfl rfl (by decide +kernel) ⟨by rw [← hR]; exact Nat.le_of_ble_eq_true rfl, by rw [← hR]; exact Nat.le_of_ble_eq_true rfl⟩) ⟨fun a U g mk q => by obtain ⟨q0, q1, q2, qK, q10, q11⟩ := q; exact ⟨q0, q1, q2, jG.calling g mk a qK, q10, q11⟩, fun U hU hW => ⟨rfl, hU, hh_11.2.1, hG.step hW hU hh_11.1, jP.nil, trivial⟩⟩ rfl rfl hl.1 rfl (lv_room (Nat.le_of_ble_eq_true rfl)) dX14_utfLength_214 ⟨Nat.zero_le _, Nat.zero_le _⟩) hh_11.1 (fun q _ h => h) (fun q h => h) (fun r_22 u_21 t_21 H_21 locs_21 ht_21 hvm_21 hr_22 hb_21 hz_21 hk_21 hS_21 => ?_)
                        rw [ht_21] at hb_21
                        obtain ⟨hb_211, hb_212, hb_213, hb_214, hb_215⟩ := hb_21
                        have hh_21 : jSt (dC, dI) B base G0 G0 EX14_utfLength s.heap 0 0 [(r0, 16, 33, .int z_1)] [] [] H_21 locs_21 := (hh_11.call hb_211 hb_212 hb_213 hb_214 hS_21 rfl (L1 := [(r0, 16, 33, .int z_1)]) [0] rfl rfl (M1 := []) [] rfl rfl (I1 := []) [] rfl rfl).more hb_215
                        clear hh_11 ht_21 hvm_21 hz_21 hk_21 hS_21 hb_211 hb_212 hb_213 hb_214 hb_215
                        obtain ⟨hr_22b, hr_22p⟩ := hr_22
                        obtain ⟨hr_22p_0, hr_22p_1⟩ := hr_22p
                        have hr_22' := jb_01 hr_22b
                        refine lv_if_ne (tgt := 228) hx hb dX14_utfLength_217 (by decide) (fun c_23 => ?_) (fun c_23 => ?_)
                        · skip
                          have c_23' : r_22.toInt ≠ 0 := jb_ne (rfl) ((by decide)) c_23
                          refine lv_iconst (v := 0) hx hb dX14_utfLength_228 (by decide) ?_
                          rw [hQ]
                          exact W.iret (v := 0) hx hb hr (fun t ht hW => ⟨⟨0, z_1, rfl, by first | omega | rfl | assumption | decide | exact Or.inl rfl | exact Or.inr rfl | (simp only; omega), hh_21.rt (M1 := [(r0, 16, 33, .int z_1)]) [0] rfl ht⟩, by rw [ht]; try exact hh_21.1.1, fun q h9 hq => by rw [ht]; try exact hh_21.1.2.1 q h9 hq⟩) hh_21.1.2.2 dX14_utfLength_229
                        · skip
                          have c_23' : r_22.toInt = 0 := jb_ne_n (rfl) ((by decide)) c_23
                          refine lv_iload hx hb dX14_utfLength_220 (lv_at hl 6 rfl) ?_
                          refine lv_ldcw hx hb hown (hts (.constant RX14 360 1114111) (by decide +kernel)) dX14_utfLength_222 ?_
                          refine lv_icmp_le (tgt := 230) hx hb dX14_utfLength_225 (by decide) (fun c_24 => ?_) (fun c_24 => ?_)
                          · skip
                            have c_24' : v6_11.toInt ≤ 1114111 := jb_le (rfl) ((by decide)) c_24
                            refine lv_aload_n hx hb dX14_utfLength_230 rfl (lv_at hl 0 rfl) ?_
                            refine lv_iload hx hb dX14_utfLength_231 (lv_at hl 6 rfl) ?_
                            refine j7_put hx hb hown hK hh_21 hB hAp hB16 (C := RX14) (T := TX14) (N := 74) rfl (by decide) hg_r0 (i := 33) (by decide) hly_16_33 rfl (hts (.fieldLink RX14 357 "ProofServerModel" "utfChar" "I") (by decide +kernel)) rfl (ty := .int) (v := .int v6_11) (by decide +kernel) rfl rfl (⟨_, rfl⟩) rfl (L1 := []) [] rfl rfl rfl dX14_utfLength_233 (fun H_25 locs_25 hh_25 => ?_)
                            clear hh_21
                            refine lv_iload hx hb dX14_utfLength_236 (lv_at hl 5 rfl) ?_
                            rw [hQ]
                            exact W.iret (v := w0_6) hx hb hr (fun t ht hW => ⟨⟨w0_6, v6_11, rfl, by first | omega | rfl | assumption | decide | exact Or.inl rfl | exact Or.inr rfl | (simp only; omega), hh_25.rt (M1 := [(r0, 16, 33, .int v6_11)]) [0] rfl ht⟩, by rw [ht]; try exact hh_25.1.1, fun q h9 hq => by rw [ht]; try exact hh_25.1.2.1 q h9 hq⟩) hh_25.1.2.2 dX14_utfLength_238
                          · skip
                            have c_24' : v6_11.toInt > 1114111 := jb_le_n (rfl) ((by decide)) c_24
                            refine lv_iconst (v := 0) hx hb dX14_utfLength_228 (by decide) ?_
                            rw [hQ]
                            exact W.iret (v := 0) hx hb hr (fun t ht hW => ⟨⟨0, z_1, rfl, by first | omega | rfl | assumption | decide | exact Or.inl rfl | exact Or.inr rfl | (simp only; omega), hh_21.rt (M1 := [(r0, 16, 33, .int z_1)]) [0] rfl ht⟩, by rw [ht]; try exact hh_21.1.1, fun q h9 hq => by rw [ht]; try exact hh_21.1.2.1 q h9 hq⟩) hh_21.1.2.2 dX14_utfLength_229
                  · skip
                    have c_13' : w0_6.toInt = 3 := jb_ne_n (rfl) ((by decide)) c_13
                    refine lv_iload hx hb dX14_utfLength_187 (lv_at hl 6 rfl) ?_
                    refine lv_sipush (v := 2048) hx hb dX14_utfLength_189 (by decide) ?_
                    refine lv_icmp_lt (tgt := 228) hx hb dX14_utfLength_192 (by decide) (fun c_26 => ?_) (fun c_26 => ?_)
                    · skip
                      have c_26' : v6_11.toInt < 2048 := jb_lt (rfl) ((by decide)) c_26
                      refine lv_iconst (v := 0) hx hb dX14_utfLength_228 (by decide) ?_
                      rw [hQ]
                      exact W.iret (v := 0) hx hb hr (fun t ht hW => ⟨⟨0, z_1, rfl, by first | omega | rfl | assumption | decide | exact Or.inl rfl | exact Or.inr rfl | (simp only; omega), hh_11.rt (M1 := [(r0, 16, 33, .int z_1)]) [0] rfl ht⟩, by rw [ht]; try exact hh_11.1.1, fun q h9 hq => by rw [ht]; try exact hh_11.1.2.1 q h9 hq⟩) hh_11.1.2.2 dX14_utfLength_229
                    · skip
                      have c_26' : v6_11.toInt ≥ 2048 := jb_lt_n (rfl) ((by decide)) c_26
                      refine lv_iload hx hb dX14_utfLength_195 (lv_at hl 5 rfl) ?_
                      refine lv_iconst (v := 4) hx hb dX14_utfLength_197 (by decide) ?_
                      refine lv_icmp_ne (tgt := 208) hx hb dX14_utfLength_198 (by decide) (fun c_27 => ?_) (fun c_27 => ?_)
                      · skip
                        have c_27' : w0_6.toInt ≠ 4 := jb_ne (rfl) ((by decide)) c_27
                        refine lv_iload hx hb dX14_utfLength_208 (lv_at hl 6 rfl) ?_
                        refine lv_ldc hx hb hown (hts (.constant RX14 179 55296) (by decide +kernel)) dX14_utfLength_210 ?_
                        refine lv_ldc hx hb hown (hts (.constant RX14 186 57343) (by decide +kernel)) dX14_utfLength_212 ?_
                        refine va_calli (A0 := jA base) (H0 := s.heap) (va_runS (As := [.int v6_11, .int 55296, .int 57343]) (rest := []) ⟨hx, hb, hml, hown, hts⟩ (uX14_in l dC dI ca base B hB hAp G0 H_11 v6_11 55296 57343) (va_cwS 3 hts gX14_utfLength_X14_in rfl rfl rfl (by decide +kernel) ⟨by rw [← hR]; exact Nat.le_of_ble_eq_true rfl, by rw [← hR]; exact Nat.le_of_ble_eq_true rfl⟩) ⟨fun a U g mk q => by obtain ⟨q0, q1, q2, qK, q10, q11⟩ := q; exact ⟨q0, q1, q2, jG.calling g mk a qK, q10, q11⟩, fun U hU hW => ⟨rfl, hU, hh_11.2.1, hG.step hW hU hh_11.1, jP.nil, trivial⟩⟩ rfl rfl hl.1 rfl (lv_room (Nat.le_of_ble_eq_true rfl)) dX14_utfLength_214 ⟨Nat.zero_le _, Nat.zero_le _⟩) hh_11.1 (fun q _ h => h) (fun q h => h) (fun r_29 u_28 t_28 H_28 locs_28 ht_28 hvm_28 hr_29 hb_28 hz_28 hk_28 hS_28 => ?_)
                        rw [ht_28] at hb_28
                        obtain ⟨hb_281, hb_282, hb_283, hb_284, hb_285⟩ := hb_28
                        have hh_28 : jSt (dC, dI) B base G0 G0 EX14_utfLength s.heap 0 0 [(r0, 16, 33, .int z_1)] [] [] H_28 locs_28 := (hh_11.call hb_281 hb_282 hb_283 hb_284 hS_28 rfl (L1 := [(r0, 16, 33, .int z_1)]) [0] rfl rfl (M1 := []) [] rfl rfl (I1 := []) [] rfl rfl).more hb_285
                        clear hh_11 ht_28 hvm_28 hz_28 hk_28 hS_28 hb_281 hb_282 hb_283 hb_284 hb_285
                        obtain ⟨hr_29b, hr_29p⟩ := hr_29
                        obtain ⟨hr_29p_0, hr_29p_1⟩ := hr_29p
                        have hr_29' := jb_01 hr_29b
                        refine lv_if_ne (tgt := 228) hx hb dX14_utfLength_217 (by decide) (fun c_30 => ?_) (fun c_30 => ?_)
                        · skip
                          have c_30' : r_29.toInt ≠ 0 := jb_ne (rfl) ((by decide)) c_30
                          refine lv_iconst (v := 0) hx hb dX14_utfLength_228 (by decide) ?_
                          rw [hQ]
                          exact W.iret (v := 0) hx hb hr (fun t ht hW => ⟨⟨0, z_1, rfl, by first | omega | rfl | assumption | decide | exact Or.inl rfl | exact Or.inr rfl | (simp only; omega), hh_28.rt (M1 := [(r0, 16, 33, .int z_1)]) [0] rfl ht⟩, by rw [ht]; try exact hh_28.1.1, fun q h9 hq => by rw [ht]; try exact hh_28.1.2.1 q h9 hq⟩) hh_28.1.2.2 dX14_utfLength_229
                        · skip
                          have c_30' : r_29.toInt = 0 := jb_ne_n (rfl) ((by decide)) c_30
                          refine lv_iload hx hb dX14_utfLength_220 (lv_at hl 6 rfl) ?_
                          refine lv_ldcw hx hb hown (hts (.constant RX14 360 1114111) (by decide +kernel)) dX14_utfLength_222 ?_
                          refine lv_icmp_le (tgt := 230) hx hb dX14_utfLength_225 (by decide) (fun c_31 => ?_) (fun c_31 => ?_)
                          · skip
                            have c_31' : v6_11.toInt ≤ 1114111 := jb_le (rfl) ((by decide)) c_31
                            refine lv_aload_n hx hb dX14_utfLength_230 rfl (lv_at hl 0 rfl) ?_
                            refine lv_iload hx hb dX14_utfLength_231 (lv_at hl 6 rfl) ?_
                            refine j7_put hx hb hown hK hh_28 hB hAp hB16 (C := RX14) (T := TX14) (N := 74) rfl (by decide) hg_r0 (i := 33) (by decide) hly_16_33 rfl (hts (.fieldLink RX14 357 "ProofServerModel" "utfChar" "I") (by decide +kernel)) rfl (ty := .int) (v := .int v6_11) (by decide +kernel) rfl rfl (⟨_, rfl⟩) rfl (L1 := []) [] rfl rfl rfl dX14_utfLength_233 (fun H_32 locs_32 hh_32 => ?_)
                            clear hh_28
                            refine lv_iload hx hb dX14_utfLength_236 (lv_at hl 5 rfl) ?_
                            rw [hQ]
                            exact W.iret (v := w0_6) hx hb hr (fun t ht hW => ⟨⟨w0_6, v6_11, rfl, by first | omega | rfl | assumption | decide | exact Or.inl rfl | exact Or.inr rfl | (simp only; omega), hh_32.rt (M1 := [(r0, 16, 33, .int v6_11)]) [0] rfl ht⟩, by rw [ht]; try exact hh_32.1.1, fun q h9 hq => by rw [ht]; try exact hh_32.1.2.1 q h9 hq⟩) hh_32.1.2.2 dX14_utfLength_238
                          · skip
                            have c_31' : v6_11.toInt > 1114111 := jb_le_n (rfl) ((by decide)) c_31
                            refine lv_iconst (v := 0) hx hb dX14_utfLength_228 (by decide) ?_
                            rw [hQ]
                            exact W.iret (v := 0) hx hb hr (fun t ht hW => ⟨⟨0, z_1, rfl, by first | omega | rfl | assumption | decide | exact Or.inl rfl | exact Or.inr rfl | (simp only; omega), hh_28.rt (M1 := [(r0, 16, 33, .int z_1)]) [0] rfl ht⟩, by rw [ht]; try exact hh_28.1.1, fun q h9 hq => by rw [ht]; try exact hh_28.1.2.1 q h9 hq⟩) hh_28.1.2.2 dX14_utfLength_229
                      · skip
                        have c_27' : w0_6.toInt = 4 := jb_ne_n (rfl) ((by decide)) c_27
                        refine lv_iload hx hb dX14_utfLength_201 (lv_at hl 6 rfl) ?_
                        refine lv_ldc hx hb hown (hts (.constant RX14 197 65536) (by decide +kernel)) dX14_utfLength_203 ?_
                        refine lv_icmp_lt (tgt := 228) hx hb dX14_utfLength_205 (by decide) (fun c_33 => ?_) (fun c_33 => ?_)
                        · skip
                          have c_33' : v6_11.toInt < 65536 := jb_lt (rfl) ((by decide)) c_33
                          refine lv_iconst (v := 0) hx hb dX14_utfLength_228 (by decide) ?_
                          rw [hQ]
                          exact W.iret (v := 0) hx hb hr (fun t ht hW => ⟨⟨0, z_1, rfl, by first | omega | rfl | assumption | decide | exact Or.inl rfl | exact Or.inr rfl | (simp only; omega), hh_11.rt (M1 := [(r0, 16, 33, .int z_1)]) [0] rfl ht⟩, by rw [ht]; try exact hh_11.1.1, fun q h9 hq => by rw [ht]; try exact hh_11.1.2.1 q h9 hq⟩) hh_11.1.2.2 dX14_utfLength_229
                        · skip
                          have c_33' : v6_11.toInt ≥ 65536 := jb_lt_n (rfl) ((by decide)) c_33
                          refine lv_iload hx hb dX14_utfLength_208 (lv_at hl 6 rfl) ?_
                          refine lv_ldc hx hb hown (hts (.constant RX14 179 55296) (by decide +kernel)) dX14_utfLength_210 ?_
                          refine lv_ldc hx hb hown (hts (.constant RX14 186 57343) (by decide +kernel)) dX14_utfLength_212 ?_
                          refine va_calli (A0 := jA base) (H0 := s.heap) (va_runS (As := [.int v6_11, .int 55296, .int 57343]) (rest := []) ⟨hx, hb, hml, hown, hts⟩ (uX14_in l dC dI ca base B hB hAp G0 H_11 v6_11 55296 57343) (va_cwS 3 hts gX14_utfLength_X14_in rfl rfl rfl (by decide +kernel) ⟨by rw [← hR]; exact Nat.le_of_ble_eq_true rfl, by rw [← hR]; exact Nat.le_of_ble_eq_true rfl⟩) ⟨fun a U g mk q => by obtain ⟨q0, q1, q2, qK, q10, q11⟩ := q; exact ⟨q0, q1, q2, jG.calling g mk a qK, q10, q11⟩, fun U hU hW => ⟨rfl, hU, hh_11.2.1, hG.step hW hU hh_11.1, jP.nil, trivial⟩⟩ rfl rfl hl.1 rfl (lv_room (Nat.le_of_ble_eq_true rfl)) dX14_utfLength_214 ⟨Nat.zero_le _, Nat.zero_le _⟩) hh_11.1 (fun q _ h => h) (fun q h => h) (fun r_35 u_34 t_34 H_34 locs_34 ht_34 hvm_34 hr_35 hb_34 hz_34 hk_34 hS_34 => ?_)
                          rw [ht_34] at hb_34
                          obtain ⟨hb_341, hb_342, hb_343, hb_344, hb_345⟩ := hb_34
                          have hh_34 : jSt (dC, dI) B base G0 G0 EX14_utfLength s.heap 0 0 [(r0, 16, 33, .int z_1)] [] [] H_34 locs_34 := (hh_11.call hb_341 hb_342 hb_343 hb_344 hS_34 rfl (L1 := [(r0, 16, 33, .int z_1)]) [0] rfl rfl (M1 := []) [] rfl rfl (I1 := []) [] rfl rfl).more hb_345
                          clear hh_11 ht_34 hvm_34 hz_34 hk_34 hS_34 hb_341 hb_342 hb_343 hb_344 hb_345
                          obtain ⟨hr_35b, hr_35p⟩ := hr_35
                          obtain ⟨hr_35p_0, hr_35p_1⟩ := hr_35p
                          have hr_35' := jb_01 hr_35b
                          refine lv_if_ne (tgt := 228) hx hb dX14_utfLength_217 (by decide) (fun c_36 => ?_) (fun c_36 => ?_)
                          · skip
                            have c_36' : r_35.toInt ≠ 0 := jb_ne (rfl) ((by decide)) c_36
                            refine lv_iconst (v := 0) hx hb dX14_utfLength_228 (by decide) ?_
                            rw [hQ]
                            exact W.iret (v := 0) hx hb hr (fun t ht hW => ⟨⟨0, z_1, rfl, by first | omega | rfl | assumption | decide | exact Or.inl rfl | exact Or.inr rfl | (simp only; omega), hh_34.rt (M1 := [(r0, 16, 33, .int z_1)]) [0] rfl ht⟩, by rw [ht]; try exact hh_34.1.1, fun q h9 hq => by rw [ht]; try exact hh_34.1.2.1 q h9 hq⟩) hh_34.1.2.2 dX14_utfLength_229
                          · skip
                            have c_36' : r_35.toInt = 0 := jb_ne_n (rfl) ((by decide)) c_36
                            refine lv_iload hx hb dX14_utfLength_220 (lv_at hl 6 rfl) ?_
                            refine lv_ldcw hx hb hown (hts (.constant RX14 360 1114111) (by decide +kernel)) dX14_utfLength_222 ?_
                            refine lv_icmp_le (tgt := 230) hx hb dX14_utfLength_225 (by decide) (fun c_37 => ?_) (fun c_37 => ?_)
                            · skip
                              have c_37' : v6_11.toInt ≤ 1114111 := jb_le (rfl) ((by decide)) c_37
                              refine lv_aload_n hx hb dX14_utfLength_230 rfl (lv_at hl 0 rfl) ?_
                              refine lv_iload hx hb dX14_utfLength_231 (lv_at hl 6 rfl) ?_
                              refine j7_put hx hb hown hK hh_34 hB hAp hB16 (C := RX14) (T := TX14) (N := 74) rfl (by decide) hg_r0 (i := 33) (by decide) hly_16_33 rfl (hts (.fieldLink RX14 357 "ProofServerModel" "utfChar" "I") (by decide +kernel)) rfl (ty := .int) (v := .int v6_11) (by decide +kernel) rfl rfl (⟨_, rfl⟩) rfl (L1 := []) [] rfl rfl rfl dX14_utfLength_233 (fun H_38 locs_38 hh_38 => ?_)
                              clear hh_34
                              refine lv_iload hx hb dX14_utfLength_236 (lv_at hl 5 rfl) ?_
                              rw [hQ]
                              exact W.iret (v := w0_6) hx hb hr (fun t ht hW => ⟨⟨w0_6, v6_11, rfl, by first | omega | rfl | assumption | decide | exact Or.inl rfl | exact Or.inr rfl | (simp only; omega), hh_38.rt (M1 := [(r0, 16, 33, .int v6_11)]) [0] rfl ht⟩, by rw [ht]; try exact hh_38.1.1, fun q h9 hq => by rw [ht]; try exact hh_38.1.2.1 q h9 hq⟩) hh_38.1.2.2 dX14_utfLength_238
                            · skip
                              have c_37' : v6_11.toInt > 1114111 := jb_le_n (rfl) ((by decide)) c_37
                              refine lv_iconst (v := 0) hx hb dX14_utfLength_228 (by decide) ?_
                              rw [hQ]
                              exact W.iret (v := 0) hx hb hr (fun t ht hW => ⟨⟨0, z_1, rfl, by first | omega | rfl | assumption | decide | exact Or.inl rfl | exact Or.inr rfl | (simp only; omega), hh_34.rt (M1 := [(r0, 16, 33, .int z_1)]) [0] rfl ht⟩, by rw [ht]; try exact hh_34.1.1, fun q h9 hq => by rw [ht]; try exact hh_34.1.2.1 q h9 hq⟩) hh_34.1.2.2 dX14_utfLength_229
                · skip
                  have c_12' : v7_11.toInt < w0_6.toInt := jb_ge_n (rfl) (rfl) c_12
                  refine lv_aload_n hx hb dX14_utfLength_138 rfl (lv_at hl 1 rfl) ?_
                  refine lv_iload_n hx hb dX14_utfLength_139 rfl (lv_at hl 2 rfl) ?_
                  refine lv_iload hx hb dX14_utfLength_140 (lv_at hl 7 rfl) ?_
                  refine lv_iadd hx hb dX14_utfLength_142 ?_
                  refine lv_topi (fun z_39 ez_39 => ?_)
                  have hz_39 : z_39.toInt = a2.toInt + v7_11.toInt := by rw [ez_39]; exact jb_iadd2 (rfl) (rfl) (by omega)
                  refine j7_iald hx hb hK hh_11 hB110 1 rfl (by decide) hg_r1 (rfl) (by omega) dX14_utfLength_143 (fun z_40 (hz_40 : 0 ≤ z_40.toInt ∧ z_40.toInt ≤ 255) => ?_)
                  refine lv_sipush (v := 128) hx hb dX14_utfLength_144 (by decide) ?_
                  refine lv_sipush (v := 191) hx hb dX14_utfLength_147 (by decide) ?_
                  refine va_calli (A0 := jA base) (H0 := s.heap) (va_runS (As := [.int z_40, .int 128, .int 191]) (rest := []) ⟨hx, hb, hml, hown, hts⟩ (uX14_in l dC dI ca base B hB hAp G0 H_11 z_40 128 191) (va_cwS 3 hts gX14_utfLength_X14_in rfl rfl rfl (by decide +kernel) ⟨by rw [← hR]; exact Nat.le_of_ble_eq_true rfl, by rw [← hR]; exact Nat.le_of_ble_eq_true rfl⟩) ⟨fun a U g mk q => by obtain ⟨q0, q1, q2, qK, q10, q11⟩ := q; exact ⟨q0, q1, q2, jG.calling g mk a qK, q10, q11⟩, fun U hU hW => ⟨rfl, hU, hh_11.2.1, hG.step hW hU hh_11.1, jP.nil, trivial⟩⟩ rfl rfl hl.1 rfl (lv_room (Nat.le_of_ble_eq_true rfl)) dX14_utfLength_150 ⟨Nat.zero_le _, Nat.zero_le _⟩) hh_11.1 (fun q _ h => h) (fun q h => h) (fun r_42 u_41 t_41 H_41 locs_41 ht_41 hvm_41 hr_42 hb_41 hz_41 hk_41 hS_41 => ?_)
                  rw [ht_41] at hb_41
                  obtain ⟨hb_411, hb_412, hb_413, hb_414, hb_415⟩ := hb_41
                  have hh_41 : jSt (dC, dI) B base G0 G0 EX14_utfLength s.heap 0 0 [(r0, 16, 33, .int z_1)] [] [] H_41 locs_41 := (hh_11.call hb_411 hb_412 hb_413 hb_414 hS_41 rfl (L1 := [(r0, 16, 33, .int z_1)]) [0] rfl rfl (M1 := []) [] rfl rfl (I1 := []) [] rfl rfl).more hb_415
                  clear hh_11 ht_41 hvm_41 hz_41 hk_41 hS_41 hb_411 hb_412 hb_413 hb_414 hb_415
                  obtain ⟨hr_42b, hr_42p⟩ := hr_42
                  obtain ⟨hr_42p_0, hr_42p_1⟩ := hr_42p
                  have hr_42' := jb_01 hr_42b
                  refine lv_if_ne (tgt := 158) hx hb dX14_utfLength_153 (by decide) (fun c_43 => ?_) (fun c_43 => ?_)
                  · skip
                    have c_43' : r_42.toInt ≠ 0 := jb_ne (rfl) ((by decide)) c_43
                    refine lv_iload hx hb dX14_utfLength_158 (lv_at hl 6 rfl) ?_
                    refine lv_bipush (v := 6) hx hb dX14_utfLength_160 (by decide) ?_
                    refine lv_ishl hx hb dX14_utfLength_162 ?_
                    refine lv_topi (fun z_44 ez_44 => ?_)
                    refine lv_aload_n hx hb dX14_utfLength_163 rfl (lv_at hl 1 rfl) ?_
                    refine lv_iload_n hx hb dX14_utfLength_164 rfl (lv_at hl 2 rfl) ?_
                    refine lv_iload hx hb dX14_utfLength_165 (lv_at hl 7 rfl) ?_
                    refine lv_iadd hx hb dX14_utfLength_167 ?_
                    refine lv_topi (fun z_45 ez_45 => ?_)
                    have hz_45 : z_45.toInt = a2.toInt + v7_11.toInt := by rw [ez_45]; exact jb_iadd2 (rfl) (rfl) (by omega)
                    refine j7_iald hx hb hK hh_41 hB110 1 rfl (by decide) hg_r1 (rfl) (by omega) dX14_utfLength_168 (fun z_46 (hz_46 : 0 ≤ z_46.toInt ∧ z_46.toInt ≤ 255) => ?_)
                    refine lv_bipush (v := 63) hx hb dX14_utfLength_169 (by decide) ?_
                    refine lv_iand hx hb dX14_utfLength_171 ?_
                    refine lv_topi (fun z_47 ez_47 => ?_)
                    have hz_47 : 0 ≤ z_47.toInt ∧ z_47.toInt ≤ 63 := by rw [ez_47]; exact jb_and z_46 (m := 63) (k := 6) (by decide) (by decide)
                    refine lv_ior hx hb dX14_utfLength_172 ?_
                    refine lv_topi (fun z_48 ez_48 => ?_)
                    refine lv_istore (lv' := [(6, .int z_48), (0, .ref r0), (1, .ref r1), (2, .int a2), (3, .int a3), (4, .int z_1), (5, .int w0_6), (7, .int v7_11)]) hx hb dX14_utfLength_173 hl (by decide) rfl (fun ls hl => ?_)
                    obtain ⟨z_49, ez_49⟩ : ∃ y : Int32, y = v7_11 + 1 := ⟨_, rfl⟩
                    refine lv_iinc (v := z_49) (lv' := [(7, .int z_49), (6, .int z_48), (0, .ref r0), (1, .ref r1), (2, .int a2), (3, .int a3), (4, .int z_1), (5, .int w0_6)]) hx hb dX14_utfLength_175 hl (k := 7) rfl (by rw [ez_49]; rfl) (by decide) rfl (fun ls hl => ?_)
                    have hz_49 : z_49.toInt = v7_11.toInt + 1 := by rw [ez_49]; exact jb_iadd2 (rfl) (by decide) (by omega)
                    refine lv_goto (tgt := 131) hx hb dX14_utfLength_178 (by decide) ?_
                    exact L131 z_48 z_49 _ _ hh_41 (by first | omega | (refine ⟨?_, ?_⟩ <;> (first | omega | rfl | assumption | decide | exact Or.inl rfl | exact Or.inr rfl | (simp only; omega)))) (by omega) _ (lv_sub hl [2, 3, 4, 5, 6, 7, 1, 0] rfl)
                  · skip
                    have c_43' : r_42.toInt = 0 := jb_ne_n (rfl) ((by decide)) c_43
                    refine lv_iconst (v := 0) hx hb dX14_utfLength_156 (by decide) ?_
                    rw [hQ]
                    exact W.iret (v := 0) hx hb hr (fun t ht hW => ⟨⟨0, z_1, rfl, by first | omega | rfl | assumption | decide | exact Or.inl rfl | exact Or.inr rfl | (simp only; omega), hh_41.rt (M1 := [(r0, 16, 33, .int z_1)]) [0] rfl ht⟩, by rw [ht]; try exact hh_41.1.1, fun q h9 hq => by rw [ht]; try exact hh_41.1.2.1 q h9 hq⟩) hh_41.1.2.2 dX14_utfLength_157
            exact L131 (w0_6.toInt - (1 : Int32).toInt : Int).toNat.succ w0_10 1 _ _ hh_10 (by first | omega | (refine ⟨?_, ?_⟩ <;> (first | omega | rfl | assumption | decide | exact Or.inl rfl | exact Or.inr rfl | (simp only; omega)))) (by omega) _ (lv_sub hl [2, 3, 4, 5, 6, 7, 1, 0] rfl)
          refine lv_icmp_ne (tgt := 107) hx hb dX14_utfLength_96 (by decide) (fun c_50 => ?_) (fun c_50 => ?_)
          · skip
            have c_50' : w0_6.toInt ≠ 2 := jb_ne (rfl) ((by decide)) c_50
            refine lv_iload hx hb dX14_utfLength_107 (lv_at hl 0 rfl) ?_
            refine lv_iconst (v := 3) hx hb dX14_utfLength_109 (by decide) ?_
            refine lv_icmp_ne (tgt := 121) hx hb dX14_utfLength_110 (by decide) (fun c_51 => ?_) (fun c_51 => ?_)
            · skip
              have c_51' : w0_6.toInt ≠ 3 := jb_ne (rfl) ((by decide)) c_51
              refine lv_iload hx hb dX14_utfLength_121 (lv_at hl 5 rfl) ?_
              refine lv_bipush (v := 7) hx hb dX14_utfLength_123 (by decide) ?_
              refine lv_iand hx hb dX14_utfLength_125 ?_
              refine lv_topi (fun z_52 ez_52 => ?_)
              have hz_52 : 0 ≤ z_52.toInt ∧ z_52.toInt ≤ 7 := by rw [ez_52]; exact jb_and z_1 (m := 7) (k := 3) (by decide) (by decide)
              exact C126 z_52 _ _ hh_6 (trivial) _ (lv_sub hl [1, 2, 3, 4, 5, 0] rfl)
            · skip
              have c_51' : w0_6.toInt = 3 := jb_ne_n (rfl) ((by decide)) c_51
              refine lv_iload hx hb dX14_utfLength_113 (lv_at hl 5 rfl) ?_
              refine lv_bipush (v := 15) hx hb dX14_utfLength_115 (by decide) ?_
              refine lv_iand hx hb dX14_utfLength_117 ?_
              refine lv_topi (fun z_53 ez_53 => ?_)
              have hz_53 : 0 ≤ z_53.toInt ∧ z_53.toInt ≤ 15 := by rw [ez_53]; exact jb_and z_1 (m := 15) (k := 4) (by decide) (by decide)
              refine lv_goto (tgt := 126) hx hb dX14_utfLength_118 (by decide) ?_
              exact C126 z_53 _ _ hh_6 (trivial) _ (lv_sub hl [1, 2, 3, 4, 5, 0] rfl)
          · skip
            have c_50' : w0_6.toInt = 2 := jb_ne_n (rfl) ((by decide)) c_50
            refine lv_iload hx hb dX14_utfLength_99 (lv_at hl 5 rfl) ?_
            refine lv_bipush (v := 31) hx hb dX14_utfLength_101 (by decide) ?_
            refine lv_iand hx hb dX14_utfLength_103 ?_
            refine lv_topi (fun z_54 ez_54 => ?_)
            have hz_54 : 0 ≤ z_54.toInt ∧ z_54.toInt ≤ 31 := by rw [ez_54]; exact jb_and z_1 (m := 31) (k := 5) (by decide) (by decide)
            refine lv_goto (tgt := 126) hx hb dX14_utfLength_104 (by decide) ?_
            exact C126 z_54 _ _ hh_6 (trivial) _ (lv_sub hl [1, 2, 3, 4, 5, 0] rfl)
        · skip
          have c_9' : z_8.toInt > a3.toInt := jb_le_n (rfl) (rfl) c_9
          refine lv_iconst (v := 0) hx hb dX14_utfLength_91 (by decide) ?_
          rw [hQ]
          exact W.iret (v := 0) hx hb hr (fun t ht hW => ⟨⟨0, z_1, rfl, by first | omega | rfl | assumption | decide | exact Or.inl rfl | exact Or.inr rfl | (simp only; omega), hh_6.rt (M1 := [(r0, 16, 33, .int z_1)]) [0] rfl ht⟩, by rw [ht]; try exact hh_6.1.1, fun q h9 hq => by rw [ht]; try exact hh_6.1.2.1 q h9 hq⟩) hh_6.1.2.2 dX14_utfLength_92
    refine lv_if_eq (tgt := 39) hx hb dX14_utfLength_32 (by decide) (fun c_55 => ?_) (fun c_55 => ?_)
    · skip
      have c_55' : r_5.toInt = 0 := jb_eq (rfl) ((by decide)) c_55
      refine lv_iload hx hb dX14_utfLength_39 (lv_at hl 0 rfl) ?_
      refine lv_sipush (v := 224) hx hb dX14_utfLength_41 (by decide) ?_
      refine lv_sipush (v := 239) hx hb dX14_utfLength_44 (by decide) ?_
      refine va_calli (A0 := jA base) (H0 := s.heap) (va_runS (As := [.int z_1, .int 224, .int 239]) (rest := []) ⟨hx, hb, hml, hown, hts⟩ (uX14_in l dC dI ca base B hB hAp G0 H_4 z_1 224 239) (va_cwS 3 hts gX14_utfLength_X14_in rfl rfl rfl (by decide +kernel) ⟨by rw [← hR]; exact Nat.le_of_ble_eq_true rfl, by rw [← hR]; exact Nat.le_of_ble_eq_true rfl⟩) ⟨fun a U g mk q => by obtain ⟨q0, q1, q2, qK, q10, q11⟩ := q; exact ⟨q0, q1, q2, jG.calling g mk a qK, q10, q11⟩, fun U hU hW => ⟨rfl, hU, hh_4.2.1, hG.step hW hU hh_4.1, jP.nil, trivial⟩⟩ rfl rfl hl.1 rfl (lv_room (Nat.le_of_ble_eq_true rfl)) dX14_utfLength_47 ⟨Nat.zero_le _, Nat.zero_le _⟩) hh_4.1 (fun q _ h => h) (fun q h => h) (fun r_57 u_56 t_56 H_56 locs_56 ht_56 hvm_56 hr_57 hb_56 hz_56 hk_56 hS_56 => ?_)
      rw [ht_56] at hb_56
      obtain ⟨hb_561, hb_562, hb_563, hb_564, hb_565⟩ := hb_56
      have hh_56 : jSt (dC, dI) B base G0 G0 EX14_utfLength s.heap 0 0 [(r0, 16, 33, .int z_1)] [] [] H_56 locs_56 := (hh_4.call hb_561 hb_562 hb_563 hb_564 hS_56 rfl (L1 := [(r0, 16, 33, .int z_1)]) [0] rfl rfl (M1 := []) [] rfl rfl (I1 := []) [] rfl rfl).more hb_565
      clear hh_4 ht_56 hvm_56 hz_56 hk_56 hS_56 hb_561 hb_562 hb_563 hb_564 hb_565
      obtain ⟨hr_57b, hr_57p⟩ := hr_57
      obtain ⟨hr_57p_0, hr_57p_1⟩ := hr_57p
      have hr_57' := jb_01 hr_57b
      refine lv_if_eq (tgt := 57) hx hb dX14_utfLength_50 (by decide) (fun c_58 => ?_) (fun c_58 => ?_)
      · skip
        have c_58' : r_57.toInt = 0 := jb_eq (rfl) ((by decide)) c_58
        refine lv_iload hx hb dX14_utfLength_57 (lv_at hl 0 rfl) ?_
        refine lv_sipush (v := 240) hx hb dX14_utfLength_59 (by decide) ?_
        refine lv_sipush (v := 244) hx hb dX14_utfLength_62 (by decide) ?_
        refine va_calli (A0 := jA base) (H0 := s.heap) (va_runS (As := [.int z_1, .int 240, .int 244]) (rest := []) ⟨hx, hb, hml, hown, hts⟩ (uX14_in l dC dI ca base B hB hAp G0 H_56 z_1 240 244) (va_cwS 3 hts gX14_utfLength_X14_in rfl rfl rfl (by decide +kernel) ⟨by rw [← hR]; exact Nat.le_of_ble_eq_true rfl, by rw [← hR]; exact Nat.le_of_ble_eq_true rfl⟩) ⟨fun a U g mk q => by obtain ⟨q0, q1, q2, qK, q10, q11⟩ := q; exact ⟨q0, q1, q2, jG.calling g mk a qK, q10, q11⟩, fun U hU hW => ⟨rfl, hU, hh_56.2.1, hG.step hW hU hh_56.1, jP.nil, trivial⟩⟩ rfl rfl hl.1 rfl (lv_room (Nat.le_of_ble_eq_true rfl)) dX14_utfLength_65 ⟨Nat.zero_le _, Nat.zero_le _⟩) hh_56.1 (fun q _ h => h) (fun q h => h) (fun r_60 u_59 t_59 H_59 locs_59 ht_59 hvm_59 hr_60 hb_59 hz_59 hk_59 hS_59 => ?_)
        rw [ht_59] at hb_59
        obtain ⟨hb_591, hb_592, hb_593, hb_594, hb_595⟩ := hb_59
        have hh_59 : jSt (dC, dI) B base G0 G0 EX14_utfLength s.heap 0 0 [(r0, 16, 33, .int z_1)] [] [] H_59 locs_59 := (hh_56.call hb_591 hb_592 hb_593 hb_594 hS_59 rfl (L1 := [(r0, 16, 33, .int z_1)]) [0] rfl rfl (M1 := []) [] rfl rfl (I1 := []) [] rfl rfl).more hb_595
        clear hh_56 ht_59 hvm_59 hz_59 hk_59 hS_59 hb_591 hb_592 hb_593 hb_594 hb_595
        obtain ⟨hr_60b, hr_60p⟩ := hr_60
        obtain ⟨hr_60p_0, hr_60p_1⟩ := hr_60p
        have hr_60' := jb_01 hr_60b
        refine lv_if_eq (tgt := 75) hx hb dX14_utfLength_68 (by decide) (fun c_61 => ?_) (fun c_61 => ?_)
        · skip
          have c_61' : r_60.toInt = 0 := jb_eq (rfl) ((by decide)) c_61
          refine lv_iconst (v := 0) hx hb dX14_utfLength_75 (by decide) ?_
          exact C76 0 _ _ hh_59 (by first | omega | (refine ⟨?_, ?_, ?_⟩ <;> (first | omega | rfl | assumption | decide | exact Or.inl rfl | exact Or.inr rfl | (simp only; omega)))) _ (lv_sub hl [1, 2, 3, 4, 0] rfl)
        · skip
          have c_61' : r_60.toInt ≠ 0 := jb_eq_n (rfl) ((by decide)) c_61
          refine lv_iconst (v := 4) hx hb dX14_utfLength_71 (by decide) ?_
          refine lv_goto (tgt := 76) hx hb dX14_utfLength_72 (by decide) ?_
          exact C76 4 _ _ hh_59 (by first | omega | (refine ⟨?_, ?_, ?_⟩ <;> (first | omega | rfl | assumption | decide | exact Or.inl rfl | exact Or.inr rfl | (simp only; omega)))) _ (lv_sub hl [1, 2, 3, 4, 0] rfl)
      · skip
        have c_58' : r_57.toInt ≠ 0 := jb_eq_n (rfl) ((by decide)) c_58
        refine lv_iconst (v := 3) hx hb dX14_utfLength_53 (by decide) ?_
        refine lv_goto (tgt := 76) hx hb dX14_utfLength_54 (by decide) ?_
        exact C76 3 _ _ hh_56 (by first | omega | (refine ⟨?_, ?_, ?_⟩ <;> (first | omega | rfl | assumption | decide | exact Or.inl rfl | exact Or.inr rfl | (simp only; omega)))) _ (lv_sub hl [1, 2, 3, 4, 0] rfl)
    · skip
      have c_55' : r_5.toInt ≠ 0 := jb_eq_n (rfl) ((by decide)) c_55
      refine lv_iconst (v := 2) hx hb dX14_utfLength_35 (by decide) ?_
      refine lv_goto (tgt := 76) hx hb dX14_utfLength_36 (by decide) ?_
      exact C76 2 _ _ hh_4 (by first | omega | (refine ⟨?_, ?_, ?_⟩ <;> (first | omega | rfl | assumption | decide | exact Or.inl rfl | exact Or.inr rfl | (simp only; omega)))) _ (lv_sub hl [1, 2, 3, 4, 0] rfl)
  · skip
    have c_3' : z_1.toInt < 128 := jb_ge_n (rfl) ((by decide)) c_3
    refine lv_iconst (v := 1) hx hb dX14_utfLength_19 (by decide) ?_
    rw [hQ]
    exact W.iret (v := 1) hx hb hr (fun t ht hW => ⟨⟨1, z_1, rfl, by first | omega | rfl | assumption | decide | exact Or.inl rfl | exact Or.inr rfl | (simp only; omega), hh_2.rt (M1 := [(r0, 16, 33, .int z_1)]) [0] rfl ht⟩, by rw [ht]; try exact hh_2.1.1, fun q h9 hq => by rw [ht]; try exact hh_2.1.2.1 q h9 hq⟩) hh_2.1.2.2 dX14_utfLength_20
set_option maxHeartbeats 4000000 in
set_option maxRecDepth 20000 in
theorem uX14_readNumber (l : Launch) (dC : Nat → ClassId) (dI : Nat → Nat → Nat) (ca : Nat → ClassId) (base : Nat) (B : jF) (hB : jBok B) (hAp : jAp (dC, dI)) (hB16 : ∀ n G a H, B 16 n G a H ↔ jOb (dC, dI) 16 74 (F16 n G) a H) (hB110 : ∀ n G a H, B 110 n G a H ↔ jAr (dC, dI) (ca 1) (fun j z => 0 ≤ z.toInt ∧ z.toInt ≤ 255) n a H) (hB117 : ∀ n G a H, B 117 n G a H ↔ jAr (dC, dI) (ca 1) (fun j z => True) n a H) (hB118 : ∀ n G a H, B 118 n G a H ↔ jAr (dC, dI) (ca 1) (fun j z => -1 ≤ z.toInt ∧ z.toInt ≤ 3099) n a H) (hB119 : ∀ n G a H, B 119 n G a H ↔ jAr (dC, dI) (ca 1) (fun j z => z.toInt = -1 ∨ (j < z.toInt ∧ z.toInt ≤ 3099)) n a H) (hB124 : ∀ n G a H, B 124 n G a H ↔ jAr (dC, dI) (ca 3) (fun j z => (z = 0 ∨ z = 1)) n a H) (hB125 : ∀ n G a H, B 125 n G a H ↔ jAr (dC, dI) (ca 1) (fun j z => True) n a H) (G0 : jT) (H0 : Heap) (r0 : Nat) (pt : Int32) (pe : Int32) (pn : Int32) : Met l yX14_readNumber wsX14_readNumber ({ frames := 3, cells := 0, slots := 0, locals := 62 }) (va_Pc [.ref r0] (fun U => U.heap = H0 ∧ jX B base G0 [] H0 ∧ jG dC dI ca base U ∧ G0 r0 = some (16, 0) ∧ jP (dC, dI) G0 H0 [(r0, 16, 29, .int pt), (r0, 16, 30, .int pe), (r0, 16, 26, .int pn)] ∧ 0 ≤ pt.toInt ∧ pt.toInt ≤ 90000 ∧ 0 ≤ pe.toInt ∧ pe.toInt ≤ 3000 ∧ 0 ≤ pn.toInt ∧ pn.toInt ≤ 3099 ∧ pt.toInt ≤ pe.toInt)) (va_Qi (S := Int32 × Int32 × Int32) (fun r u => (r.toInt = pn.toInt ∧ u.2.1.toInt = pn.toInt + 1 ∧ pt.toInt ≤ u.1.toInt ∧ u.1.toInt ≤ pe.toInt ∧ (u.2.2.toInt = 1 ∨ pt.toInt + 1 ≤ u.1.toInt))) (fun u t => jRt (dC, dI) B base G0 EX14_readNumber H0 [(r0, 16, 29, .int u.1), (r0, 16, 26, .int u.2.1), (r0, 16, 31, .int u.2.2)] t.heap) (jA base)) 0 0 (jA base) := by
  refine Met.ofW (cc := cX14_readNumber) (maxL := 9) (ret := (some .int)) (by decide) rfl ?_
  intro p e s m args below meth c s₁ Bd hml hv
  obtain ⟨rfl, hH0, hX, hG, hg_r0, hP0, hp0, hp1, hp2, hp3, hp4, hp5, hp6⟩ := hv
  have hK := hG.1
  have hx := Bd.exec
  have hb := Bd.bytes
  have hr := Bd.returns
  have hts := atoms_spec (ws := wsX14_readNumber) Bd.pre
  have hown : s.vm.findClass RX14 = some m.cls := findClass_of_methodNamed Bd.named
  have hlocks := Bd.notSynchronized
  obtain ⟨Q, hQ⟩ : ∃ Q, Q = MQ below (va_Qi (S := Int32 × Int32 × Int32) (fun r u => (r.toInt = pn.toInt ∧ u.2.1.toInt = pn.toInt + 1 ∧ pt.toInt ≤ u.1.toInt ∧ u.1.toInt ≤ pe.toInt ∧ (u.2.2.toInt = 1 ∨ pt.toInt + 1 ≤ u.1.toInt))) (fun u t => jRt (dC, dI) B base G0 EX14_readNumber H0 [(r0, 16, 29, .int u.1), (r0, 16, 26, .int u.2.1), (r0, 16, 31, .int u.2.2)] t.heap) (jA base)) ([.ref r0] : List Value).toArray s 0 0 (jA base) := ⟨_, rfl⟩
  rw [← hQ]
  have hl := lv_entry ([.ref r0]) (n := 9) (Nat.le_of_ble_eq_true rfl)
  rw [lg_entry_eq]
  generalize (lg_sl ([.ref r0]) ++ List.replicate (9 - (lg_sl ([.ref r0])).length) Slot.unset).toArray = ls at hl ⊢
  have hl : lv_has ls 9 [(0, .ref r0)] := hl
  generalize hR : (headSpec wsX14_readNumber ({ frames := 3, cells := 0, slots := 0, locals := 62 })).room = R
  subst hH0
  have hh : jSt (dC, dI) B base G0 G0 EX14_readNumber s.heap 0 0 [(r0, 16, 29, .int pt), (r0, 16, 30, .int pe), (r0, 16, 26, .int pn)] [] [] s.heap [] := jSt.start hX hP0 jMc.nil jIs.nil
  clear hX hP0
  have hk0 : (0 : Int32).toInt = 0 := by decide
  have hk1 : (1 : Int32).toInt = 1 := by decide
  have hk3 : (3 : Int32).toInt = 3 := by decide
  have hk43 : (43 : Int32).toInt = 43 := by decide
  have hk45 : (45 : Int32).toInt = 45 := by decide
  have hk46 : (46 : Int32).toInt = 46 := by decide
  have hk48 : (48 : Int32).toInt = 48 := by decide
  have hk69 : (69 : Int32).toInt = 69 := by decide
  have hk101 : (101 : Int32).toInt = 101 := by decide
  have hly_16_9 := hts (u_lay RX14 TX14 9) (by decide +kernel)
  have hly_16_24 := hts (u_lay RX14 TX14 24) (by decide +kernel)
  have hly_16_25 := hts (u_lay RX14 TX14 25) (by decide +kernel)
  have hly_16_29 := hts (u_lay RX14 TX14 29) (by decide +kernel)
  have hly_16_31 := hts (u_lay RX14 TX14 31) (by decide +kernel)
  refine lv_aload_n hx hb dX14_readNumber_0 rfl (lv_at hl 0 rfl) ?_
  refine lv_iconst (v := 3) hx hb dX14_readNumber_1 (by decide) ?_
  refine va_calli (A0 := jA base) (H0 := s.heap) (va_runV (As := [.int 3]) (rest := []) ⟨hx, hb, hml, hown, hts⟩ (uX14_node l dC dI ca base B hB hAp hB16 hB117 hB118 hB119 hB124 G0 s.heap r0 3 pn) (cwV 1 hts gX14_readNumber_X14_node rfl rfl rfl (by decide +kernel) ⟨by rw [← hR]; exact Nat.le_of_ble_eq_true rfl, by rw [← hR]; exact Nat.le_of_ble_eq_true rfl⟩) ⟨fun a U g mk q => by obtain ⟨q0, q1, q2, qK, q10, q11, q12⟩ := q; exact ⟨q0, q1, q2, jG.calling g mk a qK, q10, q11, q12⟩, hh.recv (C := RX14) (T := TX14) (N := 74) hB16 rfl (by decide) hg_r0 hK, fun U hU hW => ⟨rfl, hU, hh.2.1, hG.step hW hU hh.1, hg_r0, (hh.2.2.1.sub (L1 := [(r0, 16, 26, .int pn)]) [2] rfl), by first | omega | (refine ⟨?_, ?_⟩ <;> (first | omega | rfl | assumption | decide | exact Or.inl rfl | exact Or.inr rfl | (simp only; omega)))⟩⟩ rfl rfl hl.1 rfl (lv_room (Nat.le_of_ble_eq_true rfl)) dX14_readNumber_2 ⟨Nat.zero_le _, Nat.zero_le _⟩) hh.1 (fun q _ h => h) (fun q h => h) (fun r_2 u_1 t_1 H_1 locs_1 ht_1 hvm_1 hr_2 hb_1 hz_1 hk_1 hS_1 => ?_)
  obtain ⟨qn_1, rfl⟩ : ∃ z, z = u_1 := ⟨_, rfl⟩
  rw [ht_1] at hb_1
  obtain ⟨hb_11, hb_12, hb_13, hb_14, hb_15⟩ := hb_1
  have hh_1 : jSt (dC, dI) B base G0 G0 EX14_readNumber s.heap 0 0 [(r0, 16, 26, .int qn_1), (r0, 16, 29, .int pt), (r0, 16, 30, .int pe)] [] [] H_1 locs_1 := (hh.call hb_11 hb_12 hb_13 hb_14 hS_1 rfl (L1 := [(r0, 16, 29, .int pt), (r0, 16, 30, .int pe)]) [0, 1] rfl rfl (M1 := []) [] rfl rfl (I1 := []) [] rfl rfl).more hb_15
  clear hh ht_1 hvm_1 hz_1 hk_1 hS_1 hb_11 hb_12 hb_13 hb_14 hb_15
  obtain ⟨hr_2_0, hr_2_1⟩ := hr_2
  refine lv_istore_n (lv' := [(1, .int r_2), (0, .ref r0)]) hx hb dX14_readNumber_5 rfl hl (by decide) rfl (fun ls hl => ?_)
  refine lv_aload_n hx hb dX14_readNumber_6 rfl (lv_at hl 1 rfl) ?_
  refine va_calli (A0 := jA base) (H0 := s.heap) (va_runV (As := []) (rest := []) ⟨hx, hb, hml, hown, hts⟩ (uX14_here l dC dI ca base B hB hAp hB16 hB110 G0 H_1 r0 pt pe) (cwV 0 hts gX14_readNumber_X14_here rfl rfl rfl (by decide +kernel) ⟨by rw [← hR]; exact Nat.le_of_ble_eq_true rfl, by rw [← hR]; exact Nat.le_of_ble_eq_true rfl⟩) ⟨fun a U g mk q => by obtain ⟨q0, q1, q2, qK, q10, q11, q12⟩ := q; exact ⟨q0, q1, q2, jG.calling g mk a qK, q10, q11, q12⟩, hh_1.recv (C := RX14) (T := TX14) (N := 74) hB16 rfl (by decide) hg_r0 hK, fun U hU hW => ⟨rfl, hU, hh_1.2.1, hG.step hW hU hh_1.1, hg_r0, (hh_1.2.2.1.sub (L1 := [(r0, 16, 29, .int pt), (r0, 16, 30, .int pe)]) [1, 2] rfl), by first | omega | (refine ⟨?_, ?_, ?_, ?_⟩ <;> (first | omega | rfl | assumption | decide | exact Or.inl rfl | exact Or.inr rfl | (simp only; omega)))⟩⟩ rfl rfl hl.1 rfl (lv_room (Nat.le_of_ble_eq_true rfl)) dX14_readNumber_7 ⟨Nat.zero_le _, Nat.zero_le _⟩) hh_1.1 (fun q _ h => h) (fun q h => h) (fun r_4 u_3 t_3 H_3 locs_3 ht_3 hvm_3 hr_4 hb_3 hz_3 hk_3 hS_3 => ?_)
  rw [ht_3] at hb_3
  obtain ⟨hb_31, hb_32, hb_33, hb_34, hb_35⟩ := hb_3
  have hh_3 : jSt (dC, dI) B base G0 G0 EX14_readNumber s.heap 0 0 [(r0, 16, 26, .int qn_1), (r0, 16, 29, .int pt), (r0, 16, 30, .int pe)] [] [] H_3 locs_3 := (hh_1.call hb_31 hb_32 hb_33 hb_34 hS_3 rfl (L1 := [(r0, 16, 26, .int qn_1), (r0, 16, 29, .int pt), (r0, 16, 30, .int pe)]) [0, 1, 2] rfl rfl (M1 := []) [] rfl rfl (I1 := []) [] rfl rfl).more hb_35
  clear hh_1 ht_3 hvm_3 hz_3 hk_3 hS_3 hb_31 hb_32 hb_33 hb_34 hb_35
  obtain ⟨hr_4_0, hr_4_1, hr_4_2⟩ := hr_4
  refine lv_bipush (v := 45) hx hb dX14_readNumber_10 (by decide) ?_
  refine lv_icmp_ne (tgt := 19) hx hb dX14_readNumber_12 (by decide) (fun c_5 => ?_) (fun c_5 => ?_)
  · skip
    have c_5' : r_4.toInt ≠ 45 := jb_ne (rfl) ((by decide)) c_5
    first | replace hr_4_2 := hr_4_2.resolve_left (by omega) | replace hr_4_2 := hr_4_2.resolve_right (by omega) | skip
    refine lv_iconst (v := 0) hx hb dX14_readNumber_19 (by decide) ?_
    refine lv_istore_n (lv' := [(2, .int 0), (1, .int r_2), (0, .ref r0)]) hx hb dX14_readNumber_20 rfl hl (by decide) rfl (fun ls hl => ?_)
    refine lv_iload_n hx hb dX14_readNumber_21 rfl (lv_at hl 0 rfl) ?_
    have C35 : ∀ (wt_6 : Int32) (H_6 : Heap) (locs_6 : List Loc), jSt (dC, dI) B base G0 G0 EX14_readNumber s.heap 0 0 [(r0, 16, 29, .int wt_6), (r0, 16, 26, .int qn_1), (r0, 16, 30, .int pe)] [] [] H_6 locs_6 → (pt.toInt ≤ wt_6.toInt ∧ wt_6.toInt ≤ pe.toInt) → ∀ ls : Array Slot, lv_has ls 9 [(0, .ref r0), (1, .int r_2), (2, .int 0)] → W p l e R s m ([.ref r0] : List Value).toArray below meth c H_6 locs_6 0 0 Q (F0 m 35 ls []) := by
      intro wt_6 H_6 locs_6 hh_6  hi_6 ls hl
      obtain ⟨hi_6_0, hi_6_1⟩ := hi_6
      clear hr_4_2
      refine lv_aload_n hx hb dX14_readNumber_35 rfl (lv_at hl 0 rfl) ?_
      refine j7_read hx hb hown hK (C := RX14) (T := TX14) (N := 74) rfl hly_16_29 (hts (.fieldLink RX14 273 "ProofServerModel" "at" "I") (by decide +kernel)) (hh_6.at 0 rfl) dX14_readNumber_36 ?_
      refine lv_istore_n (lv' := [(3, .int wt_6), (0, .ref r0), (1, .int r_2), (2, .int 0)]) hx hb dX14_readNumber_39 rfl hl (by decide) rfl (fun ls hl => ?_)
      refine lv_lconst (v := 0) hx hb dX14_readNumber_40 (by decide) ?_
      refine lv_lstore (lv' := [(4, .long 0), (3, .int wt_6), (0, .ref r0), (1, .int r_2), (2, .int 0)]) hx hb dX14_readNumber_41 hl (by decide) rfl (fun ls hl => ?_)
      have L43 : ∀ (N : Nat) (v4_7 : Int64) (wt_7 : Int32) (H_7 : Heap) (locs_7 : List Loc), jSt (dC, dI) B base G0 G0 EX14_readNumber s.heap 0 0 [(r0, 16, 29, .int wt_7), (r0, 16, 26, .int qn_1), (r0, 16, 30, .int pe)] [] [] H_7 locs_7 → (wt_6.toInt ≤ wt_7.toInt ∧ wt_7.toInt ≤ pe.toInt) → (pe.toInt - wt_7.toInt : Int) < N → ∀ ls : Array Slot, lv_has ls 9 [(0, .ref r0), (1, .int r_2), (2, .int 0), (3, .int wt_6), (4, .long v4_7)] → W p l e R s m ([.ref r0] : List Value).toArray below meth c H_7 locs_7 0 0 Q (F0 m 43 ls []) := by
        intro N
        induction N with
        | zero => intro v4_7 wt_7 H_7 locs_7 hh_7  hi_7 hm; exact absurd hm (by omega)
        | succ N L43 =>
          intro v4_7 wt_7 H_7 locs_7 hh_7  hi_7 hm_7 ls hl
          obtain ⟨hi_7_0, hi_7_1⟩ := hi_7
          refine lv_aload_n hx hb dX14_readNumber_43 rfl (lv_at hl 0 rfl) ?_
          refine va_calli (A0 := jA base) (H0 := s.heap) (va_runV (As := []) (rest := []) ⟨hx, hb, hml, hown, hts⟩ (uX14_here l dC dI ca base B hB hAp hB16 hB110 G0 H_7 r0 wt_7 pe) (cwV 0 hts gX14_readNumber_X14_here rfl rfl rfl (by decide +kernel) ⟨by rw [← hR]; exact Nat.le_of_ble_eq_true rfl, by rw [← hR]; exact Nat.le_of_ble_eq_true rfl⟩) ⟨fun a U g mk q => by obtain ⟨q0, q1, q2, qK, q10, q11, q12⟩ := q; exact ⟨q0, q1, q2, jG.calling g mk a qK, q10, q11, q12⟩, hh_7.recv (C := RX14) (T := TX14) (N := 74) hB16 rfl (by decide) hg_r0 hK, fun U hU hW => ⟨rfl, hU, hh_7.2.1, hG.step hW hU hh_7.1, hg_r0, (hh_7.2.2.1.sub (L1 := [(r0, 16, 29, .int wt_7), (r0, 16, 30, .int pe)]) [0, 2] rfl), by first | omega | (refine ⟨?_, ?_, ?_, ?_⟩ <;> (first | omega | rfl | assumption | decide | exact Or.inl rfl | exact Or.inr rfl | (simp only; omega)))⟩⟩ rfl rfl hl.1 rfl (lv_room (Nat.le_of_ble_eq_true rfl)) dX14_readNumber_44 ⟨Nat.zero_le _, Nat.zero_le _⟩) hh_7.1 (fun q _ h => h) (fun q h => h) (fun r_9 u_8 t_8 H_8 locs_8 ht_8 hvm_8 hr_9 hb_8 hz_8 hk_8 hS_8 => ?_)
          rw [ht_8] at hb_8
          obtain ⟨hb_81, hb_82, hb_83, hb_84, hb_85⟩ := hb_8
          have hh_8 : jSt (dC, dI) B base G0 G0 EX14_readNumber s.heap 0 0 [(r0, 16, 29, .int wt_7), (r0, 16, 26, .int qn_1), (r0, 16, 30, .int pe)] [] [] H_8 locs_8 := (hh_7.call hb_81 hb_82 hb_83 hb_84 hS_8 rfl (L1 := [(r0, 16, 29, .int wt_7), (r0, 16, 26, .int qn_1), (r0, 16, 30, .int pe)]) [0, 1, 2] rfl rfl (M1 := []) [] rfl rfl (I1 := []) [] rfl rfl).more hb_85
          clear hh_7 ht_8 hvm_8 hz_8 hk_8 hS_8 hb_81 hb_82 hb_83 hb_84 hb_85
          obtain ⟨hr_9_0, hr_9_1, hr_9_2⟩ := hr_9
          refine va_calli (A0 := jA base) (H0 := s.heap) (va_runS (As := [.int r_9]) (rest := []) ⟨hx, hb, hml, hown, hts⟩ (uX14_isDigit l dC dI ca base B hB hAp G0 H_8 r_9) (va_cwS 1 hts gX14_readNumber_X14_isDigit rfl rfl rfl (by decide +kernel) ⟨by rw [← hR]; exact Nat.le_of_ble_eq_true rfl, by rw [← hR]; exact Nat.le_of_ble_eq_true rfl⟩) ⟨fun a U g mk q => by obtain ⟨q0, q1, q2, qK, q10, q11⟩ := q; exact ⟨q0, q1, q2, jG.calling g mk a qK, q10, q11⟩, fun U hU hW => ⟨rfl, hU, hh_8.2.1, hG.step hW hU hh_8.1, jP.nil, trivial⟩⟩ rfl rfl hl.1 rfl (lv_room (Nat.le_of_ble_eq_true rfl)) dX14_readNumber_47 ⟨Nat.zero_le _, Nat.zero_le _⟩) hh_8.1 (fun q _ h => h) (fun q h => h) (fun r_11 u_10 t_10 H_10 locs_10 ht_10 hvm_10 hr_11 hb_10 hz_10 hk_10 hS_10 => ?_)
          rw [ht_10] at hb_10
          obtain ⟨hb_101, hb_102, hb_103, hb_104, hb_105⟩ := hb_10
          have hh_10 : jSt (dC, dI) B base G0 G0 EX14_readNumber s.heap 0 0 [(r0, 16, 29, .int wt_7), (r0, 16, 26, .int qn_1), (r0, 16, 30, .int pe)] [] [] H_10 locs_10 := (hh_8.call hb_101 hb_102 hb_103 hb_104 hS_10 rfl (L1 := [(r0, 16, 29, .int wt_7), (r0, 16, 26, .int qn_1), (r0, 16, 30, .int pe)]) [0, 1, 2] rfl rfl (M1 := []) [] rfl rfl (I1 := []) [] rfl rfl).more hb_105
          clear hh_8 ht_10 hvm_10 hz_10 hk_10 hS_10 hb_101 hb_102 hb_103 hb_104 hb_105
          obtain ⟨hr_11b, hr_11p⟩ := hr_11
          obtain ⟨hr_11p_0, hr_11p_1⟩ := hr_11p
          have hr_11' := jb_01 hr_11b
          refine lv_if_eq (tgt := 98) hx hb dX14_readNumber_50 (by decide) (fun c_12 => ?_) (fun c_12 => ?_)
          · skip
            have c_12' : r_11.toInt = 0 := jb_eq (rfl) ((by decide)) c_12
            first | replace hr_9_2 := hr_9_2.resolve_left (by omega) | replace hr_9_2 := hr_9_2.resolve_right (by omega) | skip
            refine lv_aload_n hx hb dX14_readNumber_98 rfl (lv_at hl 0 rfl) ?_
            refine j7_read hx hb hown hK (C := RX14) (T := TX14) (N := 74) rfl hly_16_29 (hts (.fieldLink RX14 273 "ProofServerModel" "at" "I") (by decide +kernel)) (hh_10.at 0 rfl) dX14_readNumber_99 ?_
            refine lv_iload_n hx hb dX14_readNumber_102 rfl (lv_at hl 3 rfl) ?_
            refine lv_icmp_eq (tgt := 127) hx hb dX14_readNumber_103 (by decide) (fun c_13 => ?_) (fun c_13 => ?_)
            · skip
              have c_13' : wt_7.toInt = wt_6.toInt := jb_eq (rfl) (rfl) c_13
              refine lv_aload_n hx hb dX14_readNumber_127 rfl (lv_at hl 0 rfl) ?_
              refine lv_iconst (v := 1) hx hb dX14_readNumber_128 (by decide) ?_
              refine j7_put hx hb hown hK hh_10 hB hAp hB16 (C := RX14) (T := TX14) (N := 74) rfl (by decide) hg_r0 (i := 31) (by decide) hly_16_31 rfl (hts (.fieldLink RX14 288 "ProofServerModel" "bad" "Z") (by decide +kernel)) rfl (ty := .boolean) (v := .int 1) (by decide +kernel) (jb_nz (Or.inr rfl)) (jb_fz (Or.inr rfl)) (⟨_, rfl, (Or.inr rfl)⟩) rfl (L1 := [(r0, 16, 29, .int wt_7), (r0, 16, 26, .int qn_1), (r0, 16, 30, .int pe)]) [0, 1, 2] rfl rfl rfl dX14_readNumber_129 (fun H_14 locs_14 hh_14 => ?_)
              clear hh_10
              refine lv_iconst (v := 1) hx hb dX14_readNumber_132 (by decide) ?_
              refine lv_istore (lv' := [(6, .int 1), (0, .ref r0), (1, .int r_2), (2, .int 0), (3, .int wt_6), (4, .long v4_7)]) hx hb dX14_readNumber_133 hl (by decide) rfl (fun ls hl => ?_)
              refine lv_aload_n hx hb dX14_readNumber_135 rfl (lv_at hl 1 rfl) ?_
              refine j7_read hx hb hown hK (C := RX14) (T := TX14) (N := 74) rfl hly_16_31 (hts (.fieldLink RX14 288 "ProofServerModel" "bad" "Z") (by decide +kernel)) (hh_14.at 0 rfl) dX14_readNumber_136 ?_
              have C168 : ∀ (v6_15 : Int32) (wt_15 : Int32) (wb_15 : Int32) (H_15 : Heap) (locs_15 : List Loc), jSt (dC, dI) B base G0 G0 EX14_readNumber s.heap 0 0 [(r0, 16, 29, .int wt_15), (r0, 16, 31, .int wb_15), (r0, 16, 26, .int qn_1), (r0, 16, 30, .int pe)] [] [] H_15 locs_15 → (v6_15 = 0 ∨ v6_15 = 1) → (pt.toInt ≤ wt_15.toInt ∧ wt_15.toInt ≤ pe.toInt ∧ (wb_15.toInt = 1 ∨ pt.toInt + 1 ≤ wt_15.toInt)) → ∀ ls : Array Slot, lv_has ls 9 [(0, .ref r0), (1, .int r_2), (2, .int 0), (3, .int wt_6), (4, .long v4_7), (6, .int v6_15)] → W p l e R s m ([.ref r0] : List Value).toArray below meth c H_15 locs_15 0 0 Q (F0 m 168 ls []) := by
                intro v6_15 wt_15 wb_15 H_15 locs_15 hh_15 hb_v6_15 hi_15 ls hl
                obtain ⟨hi_15_0, hi_15_1, hi_15_2⟩ := hi_15
                have hb_v6_15' := jb_01 hb_v6_15
                clear hr_9_2
                refine lv_aload_n hx hb dX14_readNumber_168 rfl (lv_at hl 0 rfl) ?_
                refine j7_read hx hb hown hK (C := RX14) (T := TX14) (N := 74) rfl hly_16_31 (hts (.fieldLink RX14 288 "ProofServerModel" "bad" "Z") (by decide +kernel)) (hh_15.at 1 rfl) dX14_readNumber_169 ?_
                have C238 : ∀ (v6_16 : Int32) (wt_16 : Int32) (wb_16 : Int32) (H_16 : Heap) (locs_16 : List Loc), jSt (dC, dI) B base G0 G0 EX14_readNumber s.heap 0 0 [(r0, 16, 29, .int wt_16), (r0, 16, 31, .int wb_16), (r0, 16, 26, .int qn_1), (r0, 16, 30, .int pe)] [] [] H_16 locs_16 → (v6_16 = 0 ∨ v6_16 = 1) → (pt.toInt ≤ wt_16.toInt ∧ wt_16.toInt ≤ pe.toInt ∧ (wb_16.toInt = 1 ∨ pt.toInt + 1 ≤ wt_16.toInt)) → ∀ ls : Array Slot, lv_has ls 9 [(0, .ref r0), (1, .int r_2), (2, .int 0), (3, .int wt_6), (4, .long v4_7), (6, .int v6_16)] → W p l e R s m ([.ref r0] : List Value).toArray below meth c H_16 locs_16 0 0 Q (F0 m 238 ls []) := by
                  intro v6_16 wt_16 wb_16 H_16 locs_16 hh_16 hb_v6_16 hi_16 ls hl
                  obtain ⟨hi_16_0, hi_16_1, hi_16_2⟩ := hi_16
                  have hb_v6_16' := jb_01 hb_v6_16
                  refine lv_iload_n hx hb dX14_readNumber_238 rfl (lv_at hl 2 rfl) ?_
                  refine lv_if_eq (tgt := 248) hx hb dX14_readNumber_239 (by decide) (fun c_17 => ?_) (fun c_17 => ?_)
                  · skip
                    refine lv_lload hx hb dX14_readNumber_248 (lv_at hl 4 rfl) ?_
                    refine lv_lstore (lv' := [(7, .long v4_7), (0, .ref r0), (1, .int r_2), (2, .int 0), (3, .int wt_6), (4, .long v4_7), (6, .int v6_16)]) hx hb dX14_readNumber_250 hl (by decide) rfl (fun ls hl => ?_)
                    refine lv_aload_n hx hb dX14_readNumber_252 rfl (lv_at hl 1 rfl) ?_
                    obtain ⟨v_18, hv_18, hh_19⟩ := hh_16.pin (C := RX14) (T := TX14) (N := 74) hB16 rfl (by decide) hg_r0 (i := 24) (by decide) rfl
                    clear hh_16
                    obtain ⟨isInt_20, rfl, hg_isInt_20⟩ := hv_18
                    refine j7_read hx hb hown hK (C := RX14) (T := TX14) (N := 74) rfl hly_16_24 (hts (.fieldLink RX14 58 "ProofServerModel" "isInt" "[Z") (by decide +kernel)) (hh_19.at 0 rfl) dX14_readNumber_253 ?_
                    refine lv_iload_n hx hb dX14_readNumber_256 rfl (lv_at hl 2 rfl) ?_
                    refine lv_iload hx hb dX14_readNumber_257 (lv_at hl 6 rfl) ?_
                    have C285 : ∀ (w0_21 : Int32) (H_21 : Heap) (locs_21 : List Loc), jSt (dC, dI) B base G0 G0 EX14_readNumber s.heap 0 0 [(r0, 16, 24, .ref isInt_20), (r0, 16, 29, .int wt_16), (r0, 16, 31, .int wb_16), (r0, 16, 26, .int qn_1), (r0, 16, 30, .int pe)] [] [] H_21 locs_21 → (w0_21 = 0 ∨ w0_21 = 1) → (True) → ∀ ls : Array Slot, lv_has ls 9 [(0, .ref r0), (1, .int r_2), (2, .int 0), (3, .int wt_6), (4, .long v4_7), (6, .int v6_16), (7, .long v4_7)] → W p l e R s m ([.ref r0] : List Value).toArray below meth c H_21 locs_21 0 0 Q (F0 m 285 ls [.int w0_21, .int r_2, .ref isInt_20]) := by
                      intro w0_21 H_21 locs_21 hh_21 hb_w0_21 hi_21 ls hl
                      have hb_w0_21' := jb_01 hb_w0_21
                      refine j7_zast hx hb hK hh_21 hB hB124 3 rfl (by decide) (by decide) rfl rfl rfl hg_isInt_20 (rfl) (by omega) (hb_w0_21) (hb_w0_21) dX14_readNumber_285 (fun H_22 locs_22 hh_22 => ?_)
                      clear hh_21
                      refine lv_aload_n hx hb dX14_readNumber_286 rfl (lv_at hl 0 rfl) ?_
                      obtain ⟨v_23, hv_23, hh_24⟩ := hh_22.pin (C := RX14) (T := TX14) (N := 74) hB16 rfl (by decide) hg_r0 (i := 25) (by decide) rfl
                      clear hh_22
                      obtain ⟨ints_25, rfl, hg_ints_25⟩ := hv_23
                      refine j7_read hx hb hown hK (C := RX14) (T := TX14) (N := 74) rfl hly_16_25 (hts (.fieldLink RX14 62 "ProofServerModel" "ints" "[I") (by decide +kernel)) (hh_24.at 0 rfl) dX14_readNumber_287 ?_
                      refine lv_iload_n hx hb dX14_readNumber_290 rfl (lv_at hl 1 rfl) ?_
                      refine lv_lload hx hb dX14_readNumber_291 (lv_at hl 6 rfl) ?_
                      refine lv_l2i hx hb dX14_readNumber_293 rfl ?_
                      refine lv_topi (fun z_26 ez_26 => ?_)
                      refine j7_iast hx hb hK hh_24 hB hB125 1 rfl (by decide) (by decide) rfl rfl rfl hg_ints_25 (rfl) (by omega) (trivial) dX14_readNumber_294 (fun H_27 locs_27 hh_27 => ?_)
                      clear hh_24
                      refine lv_iload_n hx hb dX14_readNumber_295 rfl (lv_at hl 1 rfl) ?_
                      rw [hQ]
                      exact W.iret (v := r_2) hx hb hr (fun t ht hW => ⟨⟨r_2, (wt_16, qn_1, wb_16), rfl, by first | omega | (refine ⟨?_, ?_, ?_, ?_, ?_⟩ <;> (first | omega | rfl | assumption | decide | exact Or.inl rfl | exact Or.inr rfl | (simp only; omega))), hh_27.rt (M1 := [(r0, 16, 29, .int wt_16), (r0, 16, 26, .int qn_1), (r0, 16, 31, .int wb_16)]) [2, 4, 3] rfl ht⟩, by rw [ht]; try exact hh_27.1.1, fun q h9 hq => by rw [ht]; try exact hh_27.1.2.1 q h9 hq⟩) hh_27.1.2.2 dX14_readNumber_296
                    refine lv_if_eq (tgt := 284) hx hb dX14_readNumber_259 (by decide) (fun c_28 => ?_) (fun c_28 => ?_)
                    · skip
                      have c_28' : v6_16.toInt = 0 := jb_eq (rfl) ((by decide)) c_28
                      refine lv_iconst (v := 0) hx hb dX14_readNumber_284 (by decide) ?_
                      exact C285 0 _ _ hh_19 (Or.inl rfl) (trivial) _ (lv_sub hl [1, 2, 3, 4, 5, 6, 0] rfl)
                    · skip
                      have c_28' : v6_16.toInt ≠ 0 := jb_eq_n (rfl) ((by decide)) c_28
                      refine lv_lload hx hb dX14_readNumber_262 (lv_at hl 0 rfl) ?_
                      refine lv_ldc2 hx hb hown (hts (.constantLong RX14 329 (-2147483648)) (by decide +kernel)) dX14_readNumber_264 ?_
                      refine W.lcmp hx hb dX14_readNumber_267 ?_
                      refine lv_topi (fun z_29 ez_29 => ?_)
                      have hz_29 := jb_lcmp ez_29
                      have hqz_29_m2147483648 : ((-2147483648) : Int64).toInt = (-2147483648) := by decide
                      refine lv_if_lt (tgt := 284) hx hb dX14_readNumber_268 (by decide) (fun c_30 => ?_) (fun c_30 => ?_)
                      · skip
                        have c_30' : z_29.toInt < 0 := jb_lt (rfl) ((by decide)) c_30
                        refine lv_iconst (v := 0) hx hb dX14_readNumber_284 (by decide) ?_
                        exact C285 0 _ _ hh_19 (Or.inl rfl) (trivial) _ (lv_sub hl [1, 2, 3, 4, 5, 6, 0] rfl)
                      · skip
                        have c_30' : z_29.toInt ≥ 0 := jb_lt_n (rfl) ((by decide)) c_30
                        refine lv_lload hx hb dX14_readNumber_271 (lv_at hl 0 rfl) ?_
                        refine lv_ldc2 hx hb hown (hts (.constantLong RX14 331 2147483647) (by decide +kernel)) dX14_readNumber_273 ?_
                        refine W.lcmp hx hb dX14_readNumber_276 ?_
                        refine lv_topi (fun z_31 ez_31 => ?_)
                        have hz_31 := jb_lcmp ez_31
                        have hqz_31_2147483647 : (2147483647 : Int64).toInt = 2147483647 := by decide
                        refine lv_if_gt (tgt := 284) hx hb dX14_readNumber_277 (by decide) (fun c_32 => ?_) (fun c_32 => ?_)
                        · skip
                          have c_32' : z_31.toInt > 0 := jb_gt (rfl) ((by decide)) c_32
                          refine lv_iconst (v := 0) hx hb dX14_readNumber_284 (by decide) ?_
                          exact C285 0 _ _ hh_19 (Or.inl rfl) (trivial) _ (lv_sub hl [1, 2, 3, 4, 5, 6, 0] rfl)
                        · skip
                          have c_32' : z_31.toInt ≤ 0 := jb_gt_n (rfl) ((by decide)) c_32
                          refine lv_iconst (v := 1) hx hb dX14_readNumber_280 (by decide) ?_
                          refine lv_goto (tgt := 285) hx hb dX14_readNumber_281 (by decide) ?_
                          exact C285 1 _ _ hh_19 (Or.inr rfl) (trivial) _ (lv_sub hl [1, 2, 3, 4, 5, 6, 0] rfl)
                  · skip
                    exact absurd c_17 (by decide)
                refine lv_if_ne (tgt := 238) hx hb dX14_readNumber_172 (by decide) (fun c_33 => ?_) (fun c_33 => ?_)
                · skip
                  have c_33' : wb_15.toInt ≠ 0 := jb_ne (rfl) ((by decide)) c_33
                  exact C238 v6_15 wt_15 wb_15 _ _ hh_15 (hb_v6_15) (by first | omega | (refine ⟨?_, ?_, ?_⟩ <;> (first | omega | rfl | assumption | decide | exact Or.inl rfl | exact Or.inr rfl | (simp only; omega)))) _ (lv_sub hl [0, 1, 2, 3, 4, 5] rfl)
                · skip
                  have c_33' : wb_15.toInt = 0 := jb_ne_n (rfl) ((by decide)) c_33
                  refine lv_aload_n hx hb dX14_readNumber_175 rfl (lv_at hl 0 rfl) ?_
                  refine va_calli (A0 := jA base) (H0 := s.heap) (va_runV (As := []) (rest := []) ⟨hx, hb, hml, hown, hts⟩ (uX14_here l dC dI ca base B hB hAp hB16 hB110 G0 H_15 r0 wt_15 pe) (cwV 0 hts gX14_readNumber_X14_here rfl rfl rfl (by decide +kernel) ⟨by rw [← hR]; exact Nat.le_of_ble_eq_true rfl, by rw [← hR]; exact Nat.le_of_ble_eq_true rfl⟩) ⟨fun a U g mk q => by obtain ⟨q0, q1, q2, qK, q10, q11, q12⟩ := q; exact ⟨q0, q1, q2, jG.calling g mk a qK, q10, q11, q12⟩, hh_15.recv (C := RX14) (T := TX14) (N := 74) hB16 rfl (by decide) hg_r0 hK, fun U hU hW => ⟨rfl, hU, hh_15.2.1, hG.step hW hU hh_15.1, hg_r0, (hh_15.2.2.1.sub (L1 := [(r0, 16, 29, .int wt_15), (r0, 16, 30, .int pe)]) [0, 3] rfl), by first | omega | (refine ⟨?_, ?_, ?_, ?_⟩ <;> (first | omega | rfl | assumption | decide | exact Or.inl rfl | exact Or.inr rfl | (simp only; omega)))⟩⟩ rfl rfl hl.1 rfl (lv_room (Nat.le_of_ble_eq_true rfl)) dX14_readNumber_176 ⟨Nat.zero_le _, Nat.zero_le _⟩) hh_15.1 (fun q _ h => h) (fun q h => h) (fun r_35 u_34 t_34 H_34 locs_34 ht_34 hvm_34 hr_35 hb_34 hz_34 hk_34 hS_34 => ?_)
                  rw [ht_34] at hb_34
                  obtain ⟨hb_341, hb_342, hb_343, hb_344, hb_345⟩ := hb_34
                  have hh_34 : jSt (dC, dI) B base G0 G0 EX14_readNumber s.heap 0 0 [(r0, 16, 29, .int wt_15), (r0, 16, 31, .int wb_15), (r0, 16, 26, .int qn_1), (r0, 16, 30, .int pe)] [] [] H_34 locs_34 := (hh_15.call hb_341 hb_342 hb_343 hb_344 hS_34 rfl (L1 := [(r0, 16, 29, .int wt_15), (r0, 16, 31, .int wb_15), (r0, 16, 26, .int qn_1), (r0, 16, 30, .int pe)]) [0, 1, 2, 3] rfl rfl (M1 := []) [] rfl rfl (I1 := []) [] rfl rfl).more hb_345
                  clear hh_15 ht_34 hvm_34 hz_34 hk_34 hS_34 hb_341 hb_342 hb_343 hb_344 hb_345
                  obtain ⟨hr_35_0, hr_35_1, hr_35_2⟩ := hr_35
                  refine lv_bipush (v := 101) hx hb dX14_readNumber_179 (by decide) ?_
                  refine lv_icmp_eq (tgt := 193) hx hb dX14_readNumber_181 (by decide) (fun c_36 => ?_) (fun c_36 => ?_)
                  · skip
                    have c_36' : r_35.toInt = 101 := jb_eq (rfl) ((by decide)) c_36
                    first | replace hr_35_2 := hr_35_2.resolve_left (by omega) | replace hr_35_2 := hr_35_2.resolve_right (by omega) | skip
                    refine lv_iconst (v := 0) hx hb dX14_readNumber_193 (by decide) ?_
                    refine lv_istore (lv' := [(6, .int 0), (0, .ref r0), (1, .int r_2), (2, .int 0), (3, .int wt_6), (4, .long v4_7)]) hx hb dX14_readNumber_194 hl (by decide) rfl (fun ls hl => ?_)
                    refine lv_aload_n hx hb dX14_readNumber_196 rfl (lv_at hl 1 rfl) ?_
                    refine lv_dup hx hb dX14_readNumber_197 rfl ?_
                    refine j7_read hx hb hown hK (C := RX14) (T := TX14) (N := 74) rfl hly_16_29 (hts (.fieldLink RX14 273 "ProofServerModel" "at" "I") (by decide +kernel)) (hh_34.at 0 rfl) dX14_readNumber_198 ?_
                    refine lv_iconst (v := 1) hx hb dX14_readNumber_201 (by decide) ?_
                    refine lv_iadd hx hb dX14_readNumber_202 ?_
                    refine lv_topi (fun z_37 ez_37 => ?_)
                    have hz_37 : z_37.toInt = wt_15.toInt + 1 := by rw [ez_37]; exact jb_iadd2 (rfl) ((by decide)) (by omega)
                    refine j7_put hx hb hown hK hh_34 hB hAp hB16 (C := RX14) (T := TX14) (N := 74) rfl (by decide) hg_r0 (i := 29) (by decide) hly_16_29 rfl (hts (.fieldLink RX14 273 "ProofServerModel" "at" "I") (by decide +kernel)) rfl (ty := .int) (v := .int z_37) (by decide +kernel) rfl rfl (⟨_, rfl, by omega, by omega⟩) rfl (L1 := [(r0, 16, 31, .int wb_15), (r0, 16, 26, .int qn_1), (r0, 16, 30, .int pe)]) [1, 2, 3] rfl rfl rfl dX14_readNumber_203 (fun H_38 locs_38 hh_38 => ?_)
                    clear hh_34
                    refine lv_aload_n hx hb dX14_readNumber_206 rfl (lv_at hl 1 rfl) ?_
                    refine va_calli (A0 := jA base) (H0 := s.heap) (va_runV (As := []) (rest := []) ⟨hx, hb, hml, hown, hts⟩ (uX14_here l dC dI ca base B hB hAp hB16 hB110 G0 H_38 r0 z_37 pe) (cwV 0 hts gX14_readNumber_X14_here rfl rfl rfl (by decide +kernel) ⟨by rw [← hR]; exact Nat.le_of_ble_eq_true rfl, by rw [← hR]; exact Nat.le_of_ble_eq_true rfl⟩) ⟨fun a U g mk q => by obtain ⟨q0, q1, q2, qK, q10, q11, q12⟩ := q; exact ⟨q0, q1, q2, jG.calling g mk a qK, q10, q11, q12⟩, hh_38.recv (C := RX14) (T := TX14) (N := 74) hB16 rfl (by decide) hg_r0 hK, fun U hU hW => ⟨rfl, hU, hh_38.2.1, hG.step hW hU hh_38.1, hg_r0, (hh_38.2.2.1.sub (L1 := [(r0, 16, 29, .int z_37), (r0, 16, 30, .int pe)]) [0, 3] rfl), by first | omega | (refine ⟨?_, ?_, ?_, ?_⟩ <;> (first | omega | rfl | assumption | decide | exact Or.inl rfl | exact Or.inr rfl | (simp only; omega)))⟩⟩ rfl rfl hl.1 rfl (lv_room (Nat.le_of_ble_eq_true rfl)) dX14_readNumber_207 ⟨Nat.zero_le _, Nat.zero_le _⟩) hh_38.1 (fun q _ h => h) (fun q h => h) (fun r_40 u_39 t_39 H_39 locs_39 ht_39 hvm_39 hr_40 hb_39 hz_39 hk_39 hS_39 => ?_)
                    rw [ht_39] at hb_39
                    obtain ⟨hb_391, hb_392, hb_393, hb_394, hb_395⟩ := hb_39
                    have hh_39 : jSt (dC, dI) B base G0 G0 EX14_readNumber s.heap 0 0 [(r0, 16, 29, .int z_37), (r0, 16, 31, .int wb_15), (r0, 16, 26, .int qn_1), (r0, 16, 30, .int pe)] [] [] H_39 locs_39 := (hh_38.call hb_391 hb_392 hb_393 hb_394 hS_39 rfl (L1 := [(r0, 16, 29, .int z_37), (r0, 16, 31, .int wb_15), (r0, 16, 26, .int qn_1), (r0, 16, 30, .int pe)]) [0, 1, 2, 3] rfl rfl (M1 := []) [] rfl rfl (I1 := []) [] rfl rfl).more hb_395
                    clear hh_38 ht_39 hvm_39 hz_39 hk_39 hS_39 hb_391 hb_392 hb_393 hb_394 hb_395
                    obtain ⟨hr_40_0, hr_40_1, hr_40_2⟩ := hr_40
                    refine lv_bipush (v := 43) hx hb dX14_readNumber_210 (by decide) ?_
                    have C234 : ∀ (wt_41 : Int32) (H_41 : Heap) (locs_41 : List Loc), jSt (dC, dI) B base G0 G0 EX14_readNumber s.heap 0 0 [(r0, 16, 29, .int wt_41), (r0, 16, 31, .int wb_15), (r0, 16, 26, .int qn_1), (r0, 16, 30, .int pe)] [] [] H_41 locs_41 → (pt.toInt ≤ wt_41.toInt ∧ wt_41.toInt ≤ pe.toInt ∧ pt.toInt + 1 ≤ wt_41.toInt) → ∀ ls : Array Slot, lv_has ls 9 [(0, .ref r0), (1, .int r_2), (2, .int 0), (3, .int wt_6), (4, .long v4_7), (6, .int 0)] → W p l e R s m ([.ref r0] : List Value).toArray below meth c H_41 locs_41 0 0 Q (F0 m 234 ls []) := by
                      intro wt_41 H_41 locs_41 hh_41  hi_41 ls hl
                      obtain ⟨hi_41_0, hi_41_1, hi_41_2⟩ := hi_41
                      clear hr_35_2 hr_40_2
                      refine lv_aload_n hx hb dX14_readNumber_234 rfl (lv_at hl 0 rfl) ?_
                      refine va_callv (A0 := jA base) (H0 := s.heap) (va_runV (As := []) (rest := []) ⟨hx, hb, hml, hown, hts⟩ (uX14_digits l dC dI ca base B hB hAp hB16 hB110 G0 H_41 r0 wt_41 pe) (cwV 0 hts gX14_readNumber_X14_digits rfl rfl rfl (by decide +kernel) ⟨by rw [← hR]; exact Nat.le_of_ble_eq_true rfl, by rw [← hR]; exact Nat.le_of_ble_eq_true rfl⟩) ⟨fun a U g mk q => by obtain ⟨q0, q1, q2, qK, q10, q11, q12⟩ := q; exact ⟨q0, q1, q2, jG.calling g mk a qK, q10, q11, q12⟩, hh_41.recv (C := RX14) (T := TX14) (N := 74) hB16 rfl (by decide) hg_r0 hK, fun U hU hW => ⟨rfl, hU, hh_41.2.1, hG.step hW hU hh_41.1, hg_r0, (hh_41.2.2.1.sub (L1 := [(r0, 16, 29, .int wt_41), (r0, 16, 30, .int pe)]) [0, 3] rfl), by first | omega | (refine ⟨?_, ?_, ?_, ?_, ?_⟩ <;> (first | omega | rfl | assumption | decide | exact Or.inl rfl | exact Or.inr rfl | (simp only; omega)))⟩⟩ rfl rfl hl.1 rfl (lv_room (Nat.le_of_ble_eq_true rfl)) dX14_readNumber_235 ⟨Nat.zero_le _, Nat.zero_le _⟩) hh_41.1 (fun q _ h => h) (fun q h => h) (fun u_42 t_42 H_42 locs_42 ht_42 hvm_42 hr_43 hb_42 hz_42 hk_42 hS_42 => ?_)
                      obtain ⟨qt_42, rfl⟩ : ∃ z, z = u_42 := ⟨_, rfl⟩
                      rw [ht_42] at hb_42
                      obtain ⟨hb_421, hb_422, hb_423, hb_424, hb_425⟩ := hb_42
                      have hh_42 : jSt (dC, dI) B base G0 G0 EX14_readNumber s.heap 0 0 [(r0, 16, 29, .int qt_42), (r0, 16, 26, .int qn_1), (r0, 16, 30, .int pe)] [] [] H_42 locs_42 := (hh_41.call hb_421 hb_422 hb_423 hb_424 hS_42 rfl (L1 := [(r0, 16, 26, .int qn_1), (r0, 16, 30, .int pe)]) [2, 3] rfl rfl (M1 := []) [] rfl rfl (I1 := []) [] rfl rfl).more hb_425
                      clear hh_41 ht_42 hvm_42 hz_42 hk_42 hS_42 hb_421 hb_422 hb_423 hb_424 hb_425
                      obtain ⟨hr_43_0, hr_43_1⟩ := hr_43
                      obtain ⟨v_44, hv_44, hh_45⟩ := hh_42.pin (C := RX14) (T := TX14) (N := 74) hB16 rfl (by decide) hg_r0 (i := 31) (by decide) rfl
                      obtain ⟨bad_46, rfl, hzbad_46⟩ := hv_44
                      have hzbad_46' := jb_01 hzbad_46
                      exact C238 0 qt_42 bad_46 _ _ (hh_45.sub (L1 := [(r0, 16, 29, .int qt_42), (r0, 16, 31, .int bad_46), (r0, 16, 26, .int qn_1), (r0, 16, 30, .int pe)]) [1, 0, 2, 3] rfl (M1 := []) [] rfl (I1 := []) [] rfl) (Or.inl rfl) (by first | omega | (refine ⟨?_, ?_, ?_⟩ <;> (first | omega | rfl | assumption | decide | exact Or.inl rfl | exact Or.inr rfl | (simp only; omega)))) _ (lv_sub hl [0, 1, 2, 3, 4, 5] rfl)
                    refine lv_icmp_eq (tgt := 224) hx hb dX14_readNumber_212 (by decide) (fun c_47 => ?_) (fun c_47 => ?_)
                    · skip
                      have c_47' : r_40.toInt = 43 := jb_eq (rfl) ((by decide)) c_47
                      first | replace hr_40_2 := hr_40_2.resolve_left (by omega) | replace hr_40_2 := hr_40_2.resolve_right (by omega) | skip
                      refine lv_aload_n hx hb dX14_readNumber_224 rfl (lv_at hl 1 rfl) ?_
                      refine lv_dup hx hb dX14_readNumber_225 rfl ?_
                      refine j7_read hx hb hown hK (C := RX14) (T := TX14) (N := 74) rfl hly_16_29 (hts (.fieldLink RX14 273 "ProofServerModel" "at" "I") (by decide +kernel)) (hh_39.at 0 rfl) dX14_readNumber_226 ?_
                      refine lv_iconst (v := 1) hx hb dX14_readNumber_229 (by decide) ?_
                      refine lv_iadd hx hb dX14_readNumber_230 ?_
                      refine lv_topi (fun z_48 ez_48 => ?_)
                      have hz_48 : z_48.toInt = z_37.toInt + 1 := by rw [ez_48]; exact jb_iadd2 (rfl) ((by decide)) (by omega)
                      refine j7_put hx hb hown hK hh_39 hB hAp hB16 (C := RX14) (T := TX14) (N := 74) rfl (by decide) hg_r0 (i := 29) (by decide) hly_16_29 rfl (hts (.fieldLink RX14 273 "ProofServerModel" "at" "I") (by decide +kernel)) rfl (ty := .int) (v := .int z_48) (by decide +kernel) rfl rfl (⟨_, rfl, by omega, by omega⟩) rfl (L1 := [(r0, 16, 31, .int wb_15), (r0, 16, 26, .int qn_1), (r0, 16, 30, .int pe)]) [1, 2, 3] rfl rfl rfl dX14_readNumber_231 (fun H_49 locs_49 hh_49 => ?_)
                      clear hh_39
                      exact C234 z_48 _ _ hh_49 (by first | omega | (refine ⟨?_, ?_, ?_⟩ <;> (first | omega | rfl | assumption | decide | exact Or.inl rfl | exact Or.inr rfl | (simp only; omega)))) _ (lv_sub hl [1, 2, 3, 4, 5, 0] rfl)
                    · skip
                      have c_47' : r_40.toInt ≠ 43 := jb_eq_n (rfl) ((by decide)) c_47
                      first | replace hr_40_2 := hr_40_2.resolve_left (by omega) | replace hr_40_2 := hr_40_2.resolve_right (by omega) | skip
                      refine lv_aload_n hx hb dX14_readNumber_215 rfl (lv_at hl 1 rfl) ?_
                      refine va_calli (A0 := jA base) (H0 := s.heap) (va_runV (As := []) (rest := []) ⟨hx, hb, hml, hown, hts⟩ (uX14_here l dC dI ca base B hB hAp hB16 hB110 G0 H_39 r0 z_37 pe) (cwV 0 hts gX14_readNumber_X14_here rfl rfl rfl (by decide +kernel) ⟨by rw [← hR]; exact Nat.le_of_ble_eq_true rfl, by rw [← hR]; exact Nat.le_of_ble_eq_true rfl⟩) ⟨fun a U g mk q => by obtain ⟨q0, q1, q2, qK, q10, q11, q12⟩ := q; exact ⟨q0, q1, q2, jG.calling g mk a qK, q10, q11, q12⟩, hh_39.recv (C := RX14) (T := TX14) (N := 74) hB16 rfl (by decide) hg_r0 hK, fun U hU hW => ⟨rfl, hU, hh_39.2.1, hG.step hW hU hh_39.1, hg_r0, (hh_39.2.2.1.sub (L1 := [(r0, 16, 29, .int z_37), (r0, 16, 30, .int pe)]) [0, 3] rfl), by first | omega | (refine ⟨?_, ?_, ?_, ?_⟩ <;> (first | omega | rfl | assumption | decide | exact Or.inl rfl | exact Or.inr rfl | (simp only; omega)))⟩⟩ rfl rfl hl.1 rfl (lv_room (Nat.le_of_ble_eq_true rfl)) dX14_readNumber_216 ⟨Nat.zero_le _, Nat.zero_le _⟩) hh_39.1 (fun q _ h => h) (fun q h => h) (fun r_51 u_50 t_50 H_50 locs_50 ht_50 hvm_50 hr_51 hb_50 hz_50 hk_50 hS_50 => ?_)
                      rw [ht_50] at hb_50
                      obtain ⟨hb_501, hb_502, hb_503, hb_504, hb_505⟩ := hb_50
                      have hh_50 : jSt (dC, dI) B base G0 G0 EX14_readNumber s.heap 0 0 [(r0, 16, 29, .int z_37), (r0, 16, 31, .int wb_15), (r0, 16, 26, .int qn_1), (r0, 16, 30, .int pe)] [] [] H_50 locs_50 := (hh_39.call hb_501 hb_502 hb_503 hb_504 hS_50 rfl (L1 := [(r0, 16, 29, .int z_37), (r0, 16, 31, .int wb_15), (r0, 16, 26, .int qn_1), (r0, 16, 30, .int pe)]) [0, 1, 2, 3] rfl rfl (M1 := []) [] rfl rfl (I1 := []) [] rfl rfl).more hb_505
                      clear hh_39 ht_50 hvm_50 hz_50 hk_50 hS_50 hb_501 hb_502 hb_503 hb_504 hb_505
                      obtain ⟨hr_51_0, hr_51_1, hr_51_2⟩ := hr_51
                      refine lv_bipush (v := 45) hx hb dX14_readNumber_219 (by decide) ?_
                      refine lv_icmp_ne (tgt := 234) hx hb dX14_readNumber_221 (by decide) (fun c_52 => ?_) (fun c_52 => ?_)
                      · skip
                        have c_52' : r_51.toInt ≠ 45 := jb_ne (rfl) ((by decide)) c_52
                        first | replace hr_51_2 := hr_51_2.resolve_left (by omega) | replace hr_51_2 := hr_51_2.resolve_right (by omega) | skip
                        exact C234 z_37 _ _ hh_50 (by first | omega | (refine ⟨?_, ?_, ?_⟩ <;> (first | omega | rfl | assumption | decide | exact Or.inl rfl | exact Or.inr rfl | (simp only; omega)))) _ (lv_sub hl [1, 2, 3, 4, 5, 0] rfl)
                      · skip
                        have c_52' : r_51.toInt = 45 := jb_ne_n (rfl) ((by decide)) c_52
                        first | replace hr_51_2 := hr_51_2.resolve_left (by omega) | replace hr_51_2 := hr_51_2.resolve_right (by omega) | skip
                        refine lv_aload_n hx hb dX14_readNumber_224 rfl (lv_at hl 1 rfl) ?_
                        refine lv_dup hx hb dX14_readNumber_225 rfl ?_
                        refine j7_read hx hb hown hK (C := RX14) (T := TX14) (N := 74) rfl hly_16_29 (hts (.fieldLink RX14 273 "ProofServerModel" "at" "I") (by decide +kernel)) (hh_50.at 0 rfl) dX14_readNumber_226 ?_
                        refine lv_iconst (v := 1) hx hb dX14_readNumber_229 (by decide) ?_
                        refine lv_iadd hx hb dX14_readNumber_230 ?_
                        refine lv_topi (fun z_53 ez_53 => ?_)
                        have hz_53 : z_53.toInt = z_37.toInt + 1 := by rw [ez_53]; exact jb_iadd2 (rfl) ((by decide)) (by omega)
                        refine j7_put hx hb hown hK hh_50 hB hAp hB16 (C := RX14) (T := TX14) (N := 74) rfl (by decide) hg_r0 (i := 29) (by decide) hly_16_29 rfl (hts (.fieldLink RX14 273 "ProofServerModel" "at" "I") (by decide +kernel)) rfl (ty := .int) (v := .int z_53) (by decide +kernel) rfl rfl (⟨_, rfl, by omega, by omega⟩) rfl (L1 := [(r0, 16, 31, .int wb_15), (r0, 16, 26, .int qn_1), (r0, 16, 30, .int pe)]) [1, 2, 3] rfl rfl rfl dX14_readNumber_231 (fun H_54 locs_54 hh_54 => ?_)
                        clear hh_50
                        exact C234 z_53 _ _ hh_54 (by first | omega | (refine ⟨?_, ?_, ?_⟩ <;> (first | omega | rfl | assumption | decide | exact Or.inl rfl | exact Or.inr rfl | (simp only; omega)))) _ (lv_sub hl [1, 2, 3, 4, 5, 0] rfl)
                  · skip
                    have c_36' : r_35.toInt ≠ 101 := jb_eq_n (rfl) ((by decide)) c_36
                    first | replace hr_35_2 := hr_35_2.resolve_left (by omega) | replace hr_35_2 := hr_35_2.resolve_right (by omega) | skip
                    refine lv_aload_n hx hb dX14_readNumber_184 rfl (lv_at hl 0 rfl) ?_
                    refine va_calli (A0 := jA base) (H0 := s.heap) (va_runV (As := []) (rest := []) ⟨hx, hb, hml, hown, hts⟩ (uX14_here l dC dI ca base B hB hAp hB16 hB110 G0 H_34 r0 wt_15 pe) (cwV 0 hts gX14_readNumber_X14_here rfl rfl rfl (by decide +kernel) ⟨by rw [← hR]; exact Nat.le_of_ble_eq_true rfl, by rw [← hR]; exact Nat.le_of_ble_eq_true rfl⟩) ⟨fun a U g mk q => by obtain ⟨q0, q1, q2, qK, q10, q11, q12⟩ := q; exact ⟨q0, q1, q2, jG.calling g mk a qK, q10, q11, q12⟩, hh_34.recv (C := RX14) (T := TX14) (N := 74) hB16 rfl (by decide) hg_r0 hK, fun U hU hW => ⟨rfl, hU, hh_34.2.1, hG.step hW hU hh_34.1, hg_r0, (hh_34.2.2.1.sub (L1 := [(r0, 16, 29, .int wt_15), (r0, 16, 30, .int pe)]) [0, 3] rfl), by first | omega | (refine ⟨?_, ?_, ?_, ?_⟩ <;> (first | omega | rfl | assumption | decide | exact Or.inl rfl | exact Or.inr rfl | (simp only; omega)))⟩⟩ rfl rfl hl.1 rfl (lv_room (Nat.le_of_ble_eq_true rfl)) dX14_readNumber_185 ⟨Nat.zero_le _, Nat.zero_le _⟩) hh_34.1 (fun q _ h => h) (fun q h => h) (fun r_56 u_55 t_55 H_55 locs_55 ht_55 hvm_55 hr_56 hb_55 hz_55 hk_55 hS_55 => ?_)
                    rw [ht_55] at hb_55
                    obtain ⟨hb_551, hb_552, hb_553, hb_554, hb_555⟩ := hb_55
                    have hh_55 : jSt (dC, dI) B base G0 G0 EX14_readNumber s.heap 0 0 [(r0, 16, 29, .int wt_15), (r0, 16, 31, .int wb_15), (r0, 16, 26, .int qn_1), (r0, 16, 30, .int pe)] [] [] H_55 locs_55 := (hh_34.call hb_551 hb_552 hb_553 hb_554 hS_55 rfl (L1 := [(r0, 16, 29, .int wt_15), (r0, 16, 31, .int wb_15), (r0, 16, 26, .int qn_1), (r0, 16, 30, .int pe)]) [0, 1, 2, 3] rfl rfl (M1 := []) [] rfl rfl (I1 := []) [] rfl rfl).more hb_555
                    clear hh_34 ht_55 hvm_55 hz_55 hk_55 hS_55 hb_551 hb_552 hb_553 hb_554 hb_555
                    obtain ⟨hr_56_0, hr_56_1, hr_56_2⟩ := hr_56
                    refine lv_bipush (v := 69) hx hb dX14_readNumber_188 (by decide) ?_
                    refine lv_icmp_ne (tgt := 238) hx hb dX14_readNumber_190 (by decide) (fun c_57 => ?_) (fun c_57 => ?_)
                    · skip
                      have c_57' : r_56.toInt ≠ 69 := jb_ne (rfl) ((by decide)) c_57
                      first | replace hr_56_2 := hr_56_2.resolve_left (by omega) | replace hr_56_2 := hr_56_2.resolve_right (by omega) | skip
                      exact C238 v6_15 wt_15 wb_15 _ _ hh_55 (hb_v6_15) (by first | omega | (refine ⟨?_, ?_, ?_⟩ <;> (first | omega | rfl | assumption | decide | exact Or.inl rfl | exact Or.inr rfl | (simp only; omega)))) _ (lv_sub hl [0, 1, 2, 3, 4, 5] rfl)
                    · skip
                      have c_57' : r_56.toInt = 69 := jb_ne_n (rfl) ((by decide)) c_57
                      first | replace hr_56_2 := hr_56_2.resolve_left (by omega) | replace hr_56_2 := hr_56_2.resolve_right (by omega) | skip
                      refine lv_iconst (v := 0) hx hb dX14_readNumber_193 (by decide) ?_
                      refine lv_istore (lv' := [(6, .int 0), (0, .ref r0), (1, .int r_2), (2, .int 0), (3, .int wt_6), (4, .long v4_7)]) hx hb dX14_readNumber_194 hl (by decide) rfl (fun ls hl => ?_)
                      refine lv_aload_n hx hb dX14_readNumber_196 rfl (lv_at hl 1 rfl) ?_
                      refine lv_dup hx hb dX14_readNumber_197 rfl ?_
                      refine j7_read hx hb hown hK (C := RX14) (T := TX14) (N := 74) rfl hly_16_29 (hts (.fieldLink RX14 273 "ProofServerModel" "at" "I") (by decide +kernel)) (hh_55.at 0 rfl) dX14_readNumber_198 ?_
                      refine lv_iconst (v := 1) hx hb dX14_readNumber_201 (by decide) ?_
                      refine lv_iadd hx hb dX14_readNumber_202 ?_
                      refine lv_topi (fun z_58 ez_58 => ?_)
                      have hz_58 : z_58.toInt = wt_15.toInt + 1 := by rw [ez_58]; exact jb_iadd2 (rfl) ((by decide)) (by omega)
                      refine j7_put hx hb hown hK hh_55 hB hAp hB16 (C := RX14) (T := TX14) (N := 74) rfl (by decide) hg_r0 (i := 29) (by decide) hly_16_29 rfl (hts (.fieldLink RX14 273 "ProofServerModel" "at" "I") (by decide +kernel)) rfl (ty := .int) (v := .int z_58) (by decide +kernel) rfl rfl (⟨_, rfl, by omega, by omega⟩) rfl (L1 := [(r0, 16, 31, .int wb_15), (r0, 16, 26, .int qn_1), (r0, 16, 30, .int pe)]) [1, 2, 3] rfl rfl rfl dX14_readNumber_203 (fun H_59 locs_59 hh_59 => ?_)
                      clear hh_55
                      refine lv_aload_n hx hb dX14_readNumber_206 rfl (lv_at hl 1 rfl) ?_
                      refine va_calli (A0 := jA base) (H0 := s.heap) (va_runV (As := []) (rest := []) ⟨hx, hb, hml, hown, hts⟩ (uX14_here l dC dI ca base B hB hAp hB16 hB110 G0 H_59 r0 z_58 pe) (cwV 0 hts gX14_readNumber_X14_here rfl rfl rfl (by decide +kernel) ⟨by rw [← hR]; exact Nat.le_of_ble_eq_true rfl, by rw [← hR]; exact Nat.le_of_ble_eq_true rfl⟩) ⟨fun a U g mk q => by obtain ⟨q0, q1, q2, qK, q10, q11, q12⟩ := q; exact ⟨q0, q1, q2, jG.calling g mk a qK, q10, q11, q12⟩, hh_59.recv (C := RX14) (T := TX14) (N := 74) hB16 rfl (by decide) hg_r0 hK, fun U hU hW => ⟨rfl, hU, hh_59.2.1, hG.step hW hU hh_59.1, hg_r0, (hh_59.2.2.1.sub (L1 := [(r0, 16, 29, .int z_58), (r0, 16, 30, .int pe)]) [0, 3] rfl), by first | omega | (refine ⟨?_, ?_, ?_, ?_⟩ <;> (first | omega | rfl | assumption | decide | exact Or.inl rfl | exact Or.inr rfl | (simp only; omega)))⟩⟩ rfl rfl hl.1 rfl (lv_room (Nat.le_of_ble_eq_true rfl)) dX14_readNumber_207 ⟨Nat.zero_le _, Nat.zero_le _⟩) hh_59.1 (fun q _ h => h) (fun q h => h) (fun r_61 u_60 t_60 H_60 locs_60 ht_60 hvm_60 hr_61 hb_60 hz_60 hk_60 hS_60 => ?_)
                      rw [ht_60] at hb_60
                      obtain ⟨hb_601, hb_602, hb_603, hb_604, hb_605⟩ := hb_60
                      have hh_60 : jSt (dC, dI) B base G0 G0 EX14_readNumber s.heap 0 0 [(r0, 16, 29, .int z_58), (r0, 16, 31, .int wb_15), (r0, 16, 26, .int qn_1), (r0, 16, 30, .int pe)] [] [] H_60 locs_60 := (hh_59.call hb_601 hb_602 hb_603 hb_604 hS_60 rfl (L1 := [(r0, 16, 29, .int z_58), (r0, 16, 31, .int wb_15), (r0, 16, 26, .int qn_1), (r0, 16, 30, .int pe)]) [0, 1, 2, 3] rfl rfl (M1 := []) [] rfl rfl (I1 := []) [] rfl rfl).more hb_605
                      clear hh_59 ht_60 hvm_60 hz_60 hk_60 hS_60 hb_601 hb_602 hb_603 hb_604 hb_605
                      obtain ⟨hr_61_0, hr_61_1, hr_61_2⟩ := hr_61
                      refine lv_bipush (v := 43) hx hb dX14_readNumber_210 (by decide) ?_
                      have C234 : ∀ (wt_62 : Int32) (H_62 : Heap) (locs_62 : List Loc), jSt (dC, dI) B base G0 G0 EX14_readNumber s.heap 0 0 [(r0, 16, 29, .int wt_62), (r0, 16, 31, .int wb_15), (r0, 16, 26, .int qn_1), (r0, 16, 30, .int pe)] [] [] H_62 locs_62 → (pt.toInt ≤ wt_62.toInt ∧ wt_62.toInt ≤ pe.toInt ∧ pt.toInt + 1 ≤ wt_62.toInt) → ∀ ls : Array Slot, lv_has ls 9 [(0, .ref r0), (1, .int r_2), (2, .int 0), (3, .int wt_6), (4, .long v4_7), (6, .int 0)] → W p l e R s m ([.ref r0] : List Value).toArray below meth c H_62 locs_62 0 0 Q (F0 m 234 ls []) := by
                        intro wt_62 H_62 locs_62 hh_62  hi_62 ls hl
                        obtain ⟨hi_62_0, hi_62_1, hi_62_2⟩ := hi_62
                        clear hr_35_2 hr_56_2 hr_61_2
                        refine lv_aload_n hx hb dX14_readNumber_234 rfl (lv_at hl 0 rfl) ?_
                        refine va_callv (A0 := jA base) (H0 := s.heap) (va_runV (As := []) (rest := []) ⟨hx, hb, hml, hown, hts⟩ (uX14_digits l dC dI ca base B hB hAp hB16 hB110 G0 H_62 r0 wt_62 pe) (cwV 0 hts gX14_readNumber_X14_digits rfl rfl rfl (by decide +kernel) ⟨by rw [← hR]; exact Nat.le_of_ble_eq_true rfl, by rw [← hR]; exact Nat.le_of_ble_eq_true rfl⟩) ⟨fun a U g mk q => by obtain ⟨q0, q1, q2, qK, q10, q11, q12⟩ := q; exact ⟨q0, q1, q2, jG.calling g mk a qK, q10, q11, q12⟩, hh_62.recv (C := RX14) (T := TX14) (N := 74) hB16 rfl (by decide) hg_r0 hK, fun U hU hW => ⟨rfl, hU, hh_62.2.1, hG.step hW hU hh_62.1, hg_r0, (hh_62.2.2.1.sub (L1 := [(r0, 16, 29, .int wt_62), (r0, 16, 30, .int pe)]) [0, 3] rfl), by first | omega | (refine ⟨?_, ?_, ?_, ?_, ?_⟩ <;> (first | omega | rfl | assumption | decide | exact Or.inl rfl | exact Or.inr rfl | (simp only; omega)))⟩⟩ rfl rfl hl.1 rfl (lv_room (Nat.le_of_ble_eq_true rfl)) dX14_readNumber_235 ⟨Nat.zero_le _, Nat.zero_le _⟩) hh_62.1 (fun q _ h => h) (fun q h => h) (fun u_63 t_63 H_63 locs_63 ht_63 hvm_63 hr_64 hb_63 hz_63 hk_63 hS_63 => ?_)
                        obtain ⟨qt_63, rfl⟩ : ∃ z, z = u_63 := ⟨_, rfl⟩
                        rw [ht_63] at hb_63
                        obtain ⟨hb_631, hb_632, hb_633, hb_634, hb_635⟩ := hb_63
                        have hh_63 : jSt (dC, dI) B base G0 G0 EX14_readNumber s.heap 0 0 [(r0, 16, 29, .int qt_63), (r0, 16, 26, .int qn_1), (r0, 16, 30, .int pe)] [] [] H_63 locs_63 := (hh_62.call hb_631 hb_632 hb_633 hb_634 hS_63 rfl (L1 := [(r0, 16, 26, .int qn_1), (r0, 16, 30, .int pe)]) [2, 3] rfl rfl (M1 := []) [] rfl rfl (I1 := []) [] rfl rfl).more hb_635
                        clear hh_62 ht_63 hvm_63 hz_63 hk_63 hS_63 hb_631 hb_632 hb_633 hb_634 hb_635
                        obtain ⟨hr_64_0, hr_64_1⟩ := hr_64
                        obtain ⟨v_65, hv_65, hh_66⟩ := hh_63.pin (C := RX14) (T := TX14) (N := 74) hB16 rfl (by decide) hg_r0 (i := 31) (by decide) rfl
                        obtain ⟨bad_67, rfl, hzbad_67⟩ := hv_65
                        have hzbad_67' := jb_01 hzbad_67
                        exact C238 0 qt_63 bad_67 _ _ (hh_66.sub (L1 := [(r0, 16, 29, .int qt_63), (r0, 16, 31, .int bad_67), (r0, 16, 26, .int qn_1), (r0, 16, 30, .int pe)]) [1, 0, 2, 3] rfl (M1 := []) [] rfl (I1 := []) [] rfl) (Or.inl rfl) (by first | omega | (refine ⟨?_, ?_, ?_⟩ <;> (first | omega | rfl | assumption | decide | exact Or.inl rfl | exact Or.inr rfl | (simp only; omega)))) _ (lv_sub hl [0, 1, 2, 3, 4, 5] rfl)
                      refine lv_icmp_eq (tgt := 224) hx hb dX14_readNumber_212 (by decide) (fun c_68 => ?_) (fun c_68 => ?_)
                      · skip
                        have c_68' : r_61.toInt = 43 := jb_eq (rfl) ((by decide)) c_68
                        first | replace hr_61_2 := hr_61_2.resolve_left (by omega) | replace hr_61_2 := hr_61_2.resolve_right (by omega) | skip
                        refine lv_aload_n hx hb dX14_readNumber_224 rfl (lv_at hl 1 rfl) ?_
                        refine lv_dup hx hb dX14_readNumber_225 rfl ?_
                        refine j7_read hx hb hown hK (C := RX14) (T := TX14) (N := 74) rfl hly_16_29 (hts (.fieldLink RX14 273 "ProofServerModel" "at" "I") (by decide +kernel)) (hh_60.at 0 rfl) dX14_readNumber_226 ?_
                        refine lv_iconst (v := 1) hx hb dX14_readNumber_229 (by decide) ?_
                        refine lv_iadd hx hb dX14_readNumber_230 ?_
                        refine lv_topi (fun z_69 ez_69 => ?_)
                        have hz_69 : z_69.toInt = z_58.toInt + 1 := by rw [ez_69]; exact jb_iadd2 (rfl) ((by decide)) (by omega)
                        refine j7_put hx hb hown hK hh_60 hB hAp hB16 (C := RX14) (T := TX14) (N := 74) rfl (by decide) hg_r0 (i := 29) (by decide) hly_16_29 rfl (hts (.fieldLink RX14 273 "ProofServerModel" "at" "I") (by decide +kernel)) rfl (ty := .int) (v := .int z_69) (by decide +kernel) rfl rfl (⟨_, rfl, by omega, by omega⟩) rfl (L1 := [(r0, 16, 31, .int wb_15), (r0, 16, 26, .int qn_1), (r0, 16, 30, .int pe)]) [1, 2, 3] rfl rfl rfl dX14_readNumber_231 (fun H_70 locs_70 hh_70 => ?_)
                        clear hh_60
                        exact C234 z_69 _ _ hh_70 (by first | omega | (refine ⟨?_, ?_, ?_⟩ <;> (first | omega | rfl | assumption | decide | exact Or.inl rfl | exact Or.inr rfl | (simp only; omega)))) _ (lv_sub hl [1, 2, 3, 4, 5, 0] rfl)
                      · skip
                        have c_68' : r_61.toInt ≠ 43 := jb_eq_n (rfl) ((by decide)) c_68
                        first | replace hr_61_2 := hr_61_2.resolve_left (by omega) | replace hr_61_2 := hr_61_2.resolve_right (by omega) | skip
                        refine lv_aload_n hx hb dX14_readNumber_215 rfl (lv_at hl 1 rfl) ?_
                        refine va_calli (A0 := jA base) (H0 := s.heap) (va_runV (As := []) (rest := []) ⟨hx, hb, hml, hown, hts⟩ (uX14_here l dC dI ca base B hB hAp hB16 hB110 G0 H_60 r0 z_58 pe) (cwV 0 hts gX14_readNumber_X14_here rfl rfl rfl (by decide +kernel) ⟨by rw [← hR]; exact Nat.le_of_ble_eq_true rfl, by rw [← hR]; exact Nat.le_of_ble_eq_true rfl⟩) ⟨fun a U g mk q => by obtain ⟨q0, q1, q2, qK, q10, q11, q12⟩ := q; exact ⟨q0, q1, q2, jG.calling g mk a qK, q10, q11, q12⟩, hh_60.recv (C := RX14) (T := TX14) (N := 74) hB16 rfl (by decide) hg_r0 hK, fun U hU hW => ⟨rfl, hU, hh_60.2.1, hG.step hW hU hh_60.1, hg_r0, (hh_60.2.2.1.sub (L1 := [(r0, 16, 29, .int z_58), (r0, 16, 30, .int pe)]) [0, 3] rfl), by first | omega | (refine ⟨?_, ?_, ?_, ?_⟩ <;> (first | omega | rfl | assumption | decide | exact Or.inl rfl | exact Or.inr rfl | (simp only; omega)))⟩⟩ rfl rfl hl.1 rfl (lv_room (Nat.le_of_ble_eq_true rfl)) dX14_readNumber_216 ⟨Nat.zero_le _, Nat.zero_le _⟩) hh_60.1 (fun q _ h => h) (fun q h => h) (fun r_72 u_71 t_71 H_71 locs_71 ht_71 hvm_71 hr_72 hb_71 hz_71 hk_71 hS_71 => ?_)
                        rw [ht_71] at hb_71
                        obtain ⟨hb_711, hb_712, hb_713, hb_714, hb_715⟩ := hb_71
                        have hh_71 : jSt (dC, dI) B base G0 G0 EX14_readNumber s.heap 0 0 [(r0, 16, 29, .int z_58), (r0, 16, 31, .int wb_15), (r0, 16, 26, .int qn_1), (r0, 16, 30, .int pe)] [] [] H_71 locs_71 := (hh_60.call hb_711 hb_712 hb_713 hb_714 hS_71 rfl (L1 := [(r0, 16, 29, .int z_58), (r0, 16, 31, .int wb_15), (r0, 16, 26, .int qn_1), (r0, 16, 30, .int pe)]) [0, 1, 2, 3] rfl rfl (M1 := []) [] rfl rfl (I1 := []) [] rfl rfl).more hb_715
                        clear hh_60 ht_71 hvm_71 hz_71 hk_71 hS_71 hb_711 hb_712 hb_713 hb_714 hb_715
                        obtain ⟨hr_72_0, hr_72_1, hr_72_2⟩ := hr_72
                        refine lv_bipush (v := 45) hx hb dX14_readNumber_219 (by decide) ?_
                        refine lv_icmp_ne (tgt := 234) hx hb dX14_readNumber_221 (by decide) (fun c_73 => ?_) (fun c_73 => ?_)
                        · skip
                          have c_73' : r_72.toInt ≠ 45 := jb_ne (rfl) ((by decide)) c_73
                          first | replace hr_72_2 := hr_72_2.resolve_left (by omega) | replace hr_72_2 := hr_72_2.resolve_right (by omega) | skip
                          exact C234 z_58 _ _ hh_71 (by first | omega | (refine ⟨?_, ?_, ?_⟩ <;> (first | omega | rfl | assumption | decide | exact Or.inl rfl | exact Or.inr rfl | (simp only; omega)))) _ (lv_sub hl [1, 2, 3, 4, 5, 0] rfl)
                        · skip
                          have c_73' : r_72.toInt = 45 := jb_ne_n (rfl) ((by decide)) c_73
                          first | replace hr_72_2 := hr_72_2.resolve_left (by omega) | replace hr_72_2 := hr_72_2.resolve_right (by omega) | skip
                          refine lv_aload_n hx hb dX14_readNumber_224 rfl (lv_at hl 1 rfl) ?_
                          refine lv_dup hx hb dX14_readNumber_225 rfl ?_
                          refine j7_read hx hb hown hK (C := RX14) (T := TX14) (N := 74) rfl hly_16_29 (hts (.fieldLink RX14 273 "ProofServerModel" "at" "I") (by decide +kernel)) (hh_71.at 0 rfl) dX14_readNumber_226 ?_
                          refine lv_iconst (v := 1) hx hb dX14_readNumber_229 (by decide) ?_
                          refine lv_iadd hx hb dX14_readNumber_230 ?_
                          refine lv_topi (fun z_74 ez_74 => ?_)
                          have hz_74 : z_74.toInt = z_58.toInt + 1 := by rw [ez_74]; exact jb_iadd2 (rfl) ((by decide)) (by omega)
                          refine j7_put hx hb hown hK hh_71 hB hAp hB16 (C := RX14) (T := TX14) (N := 74) rfl (by decide) hg_r0 (i := 29) (by decide) hly_16_29 rfl (hts (.fieldLink RX14 273 "ProofServerModel" "at" "I") (by decide +kernel)) rfl (ty := .int) (v := .int z_74) (by decide +kernel) rfl rfl (⟨_, rfl, by omega, by omega⟩) rfl (L1 := [(r0, 16, 31, .int wb_15), (r0, 16, 26, .int qn_1), (r0, 16, 30, .int pe)]) [1, 2, 3] rfl rfl rfl dX14_readNumber_231 (fun H_75 locs_75 hh_75 => ?_)
                          clear hh_71
                          exact C234 z_74 _ _ hh_75 (by first | omega | (refine ⟨?_, ?_, ?_⟩ <;> (first | omega | rfl | assumption | decide | exact Or.inl rfl | exact Or.inr rfl | (simp only; omega)))) _ (lv_sub hl [1, 2, 3, 4, 5, 0] rfl)
              refine lv_if_ne (tgt := 168) hx hb dX14_readNumber_139 (by decide) (fun c_76 => ?_) (fun c_76 => ?_)
              · skip
                exact C168 1 wt_7 1 _ _ (hh_14.sub (L1 := [(r0, 16, 29, .int wt_7), (r0, 16, 31, .int 1), (r0, 16, 26, .int qn_1), (r0, 16, 30, .int pe)]) [1, 0, 2, 3] rfl (M1 := []) [] rfl (I1 := []) [] rfl) (Or.inr rfl) (by first | omega | (refine ⟨?_, ?_, ?_⟩ <;> (first | omega | rfl | assumption | decide | exact Or.inl rfl | exact Or.inr rfl | (simp only; omega)))) _ (lv_sub hl [1, 2, 3, 4, 5, 0] rfl)
              · skip
                exact absurd c_76 (by decide)
            · skip
              have c_13' : wt_7.toInt ≠ wt_6.toInt := jb_eq_n (rfl) (rfl) c_13
              refine lv_aload_n hx hb dX14_readNumber_106 rfl (lv_at hl 0 rfl) ?_
              obtain ⟨v_77, hv_77, hh_78⟩ := hh_10.pin (C := RX14) (T := TX14) (N := 74) hB16 rfl (by decide) hg_r0 (i := 9) (by decide) rfl
              clear hh_10
              obtain ⟨kept_79, rfl, hg_kept_79⟩ := hv_77
              refine j7_read hx hb hown hK (C := RX14) (T := TX14) (N := 74) rfl hly_16_9 (hts (.fieldLink RX14 20 "ProofServerModel" "kept" "[I") (by decide +kernel)) (hh_78.at 0 rfl) dX14_readNumber_107 ?_
              refine lv_iload_n hx hb dX14_readNumber_110 rfl (lv_at hl 3 rfl) ?_
              refine j7_iald hx hb hK hh_78 hB110 1 rfl (by decide) hg_kept_79 (rfl) (by omega) dX14_readNumber_111 (fun z_80 (hz_80 : 0 ≤ z_80.toInt ∧ z_80.toInt ≤ 255) => ?_)
              refine lv_bipush (v := 48) hx hb dX14_readNumber_112 (by decide) ?_
              refine lv_icmp_ne (tgt := 132) hx hb dX14_readNumber_114 (by decide) (fun c_81 => ?_) (fun c_81 => ?_)
              · skip
                have c_81' : z_80.toInt ≠ 48 := jb_ne (rfl) ((by decide)) c_81
                refine lv_iconst (v := 1) hx hb dX14_readNumber_132 (by decide) ?_
                refine lv_istore (lv' := [(6, .int 1), (0, .ref r0), (1, .int r_2), (2, .int 0), (3, .int wt_6), (4, .long v4_7)]) hx hb dX14_readNumber_133 hl (by decide) rfl (fun ls hl => ?_)
                refine lv_aload_n hx hb dX14_readNumber_135 rfl (lv_at hl 1 rfl) ?_
                obtain ⟨v_82, hv_82, hh_83⟩ := hh_78.pin (C := RX14) (T := TX14) (N := 74) hB16 rfl (by decide) hg_r0 (i := 31) (by decide) rfl
                clear hh_78
                obtain ⟨bad_84, rfl, hzbad_84⟩ := hv_82
                have hzbad_84' := jb_01 hzbad_84
                refine j7_read hx hb hown hK (C := RX14) (T := TX14) (N := 74) rfl hly_16_31 (hts (.fieldLink RX14 288 "ProofServerModel" "bad" "Z") (by decide +kernel)) (hh_83.at 0 rfl) dX14_readNumber_136 ?_
                have C168 : ∀ (v6_85 : Int32) (wt_85 : Int32) (wb_85 : Int32) (H_85 : Heap) (locs_85 : List Loc), jSt (dC, dI) B base G0 G0 EX14_readNumber s.heap 0 0 [(r0, 16, 29, .int wt_85), (r0, 16, 31, .int wb_85), (r0, 16, 9, .ref kept_79), (r0, 16, 26, .int qn_1), (r0, 16, 30, .int pe)] [] [] H_85 locs_85 → (v6_85 = 0 ∨ v6_85 = 1) → (pt.toInt ≤ wt_85.toInt ∧ wt_85.toInt ≤ pe.toInt ∧ (wb_85.toInt = 1 ∨ pt.toInt + 1 ≤ wt_85.toInt)) → ∀ ls : Array Slot, lv_has ls 9 [(0, .ref r0), (1, .int r_2), (2, .int 0), (3, .int wt_6), (4, .long v4_7), (6, .int v6_85)] → W p l e R s m ([.ref r0] : List Value).toArray below meth c H_85 locs_85 0 0 Q (F0 m 168 ls []) := by
                  intro v6_85 wt_85 wb_85 H_85 locs_85 hh_85 hb_v6_85 hi_85 ls hl
                  obtain ⟨hi_85_0, hi_85_1, hi_85_2⟩ := hi_85
                  have hb_v6_85' := jb_01 hb_v6_85
                  clear hr_9_2
                  refine lv_aload_n hx hb dX14_readNumber_168 rfl (lv_at hl 0 rfl) ?_
                  refine j7_read hx hb hown hK (C := RX14) (T := TX14) (N := 74) rfl hly_16_31 (hts (.fieldLink RX14 288 "ProofServerModel" "bad" "Z") (by decide +kernel)) (hh_85.at 1 rfl) dX14_readNumber_169 ?_
                  have C238 : ∀ (v6_86 : Int32) (wt_86 : Int32) (wb_86 : Int32) (H_86 : Heap) (locs_86 : List Loc), jSt (dC, dI) B base G0 G0 EX14_readNumber s.heap 0 0 [(r0, 16, 29, .int wt_86), (r0, 16, 31, .int wb_86), (r0, 16, 9, .ref kept_79), (r0, 16, 26, .int qn_1), (r0, 16, 30, .int pe)] [] [] H_86 locs_86 → (v6_86 = 0 ∨ v6_86 = 1) → (pt.toInt ≤ wt_86.toInt ∧ wt_86.toInt ≤ pe.toInt ∧ (wb_86.toInt = 1 ∨ pt.toInt + 1 ≤ wt_86.toInt)) → ∀ ls : Array Slot, lv_has ls 9 [(0, .ref r0), (1, .int r_2), (2, .int 0), (3, .int wt_6), (4, .long v4_7), (6, .int v6_86)] → W p l e R s m ([.ref r0] : List Value).toArray below meth c H_86 locs_86 0 0 Q (F0 m 238 ls []) := by
                    intro v6_86 wt_86 wb_86 H_86 locs_86 hh_86 hb_v6_86 hi_86 ls hl
                    obtain ⟨hi_86_0, hi_86_1, hi_86_2⟩ := hi_86
                    have hb_v6_86' := jb_01 hb_v6_86
                    refine lv_iload_n hx hb dX14_readNumber_238 rfl (lv_at hl 2 rfl) ?_
                    refine lv_if_eq (tgt := 248) hx hb dX14_readNumber_239 (by decide) (fun c_87 => ?_) (fun c_87 => ?_)
                    · skip
                      refine lv_lload hx hb dX14_readNumber_248 (lv_at hl 4 rfl) ?_
                      refine lv_lstore (lv' := [(7, .long v4_7), (0, .ref r0), (1, .int r_2), (2, .int 0), (3, .int wt_6), (4, .long v4_7), (6, .int v6_86)]) hx hb dX14_readNumber_250 hl (by decide) rfl (fun ls hl => ?_)
                      refine lv_aload_n hx hb dX14_readNumber_252 rfl (lv_at hl 1 rfl) ?_
                      obtain ⟨v_88, hv_88, hh_89⟩ := hh_86.pin (C := RX14) (T := TX14) (N := 74) hB16 rfl (by decide) hg_r0 (i := 24) (by decide) rfl
                      clear hh_86
                      obtain ⟨isInt_90, rfl, hg_isInt_90⟩ := hv_88
                      refine j7_read hx hb hown hK (C := RX14) (T := TX14) (N := 74) rfl hly_16_24 (hts (.fieldLink RX14 58 "ProofServerModel" "isInt" "[Z") (by decide +kernel)) (hh_89.at 0 rfl) dX14_readNumber_253 ?_
                      refine lv_iload_n hx hb dX14_readNumber_256 rfl (lv_at hl 2 rfl) ?_
                      refine lv_iload hx hb dX14_readNumber_257 (lv_at hl 6 rfl) ?_
                      have C285 : ∀ (w0_91 : Int32) (H_91 : Heap) (locs_91 : List Loc), jSt (dC, dI) B base G0 G0 EX14_readNumber s.heap 0 0 [(r0, 16, 24, .ref isInt_90), (r0, 16, 29, .int wt_86), (r0, 16, 31, .int wb_86), (r0, 16, 9, .ref kept_79), (r0, 16, 26, .int qn_1), (r0, 16, 30, .int pe)] [] [] H_91 locs_91 → (w0_91 = 0 ∨ w0_91 = 1) → (True) → ∀ ls : Array Slot, lv_has ls 9 [(0, .ref r0), (1, .int r_2), (2, .int 0), (3, .int wt_6), (4, .long v4_7), (6, .int v6_86), (7, .long v4_7)] → W p l e R s m ([.ref r0] : List Value).toArray below meth c H_91 locs_91 0 0 Q (F0 m 285 ls [.int w0_91, .int r_2, .ref isInt_90]) := by
                        intro w0_91 H_91 locs_91 hh_91 hb_w0_91 hi_91 ls hl
                        have hb_w0_91' := jb_01 hb_w0_91
                        refine j7_zast hx hb hK hh_91 hB hB124 3 rfl (by decide) (by decide) rfl rfl rfl hg_isInt_90 (rfl) (by omega) (hb_w0_91) (hb_w0_91) dX14_readNumber_285 (fun H_92 locs_92 hh_92 => ?_)
                        clear hh_91
                        refine lv_aload_n hx hb dX14_readNumber_286 rfl (lv_at hl 0 rfl) ?_
                        obtain ⟨v_93, hv_93, hh_94⟩ := hh_92.pin (C := RX14) (T := TX14) (N := 74) hB16 rfl (by decide) hg_r0 (i := 25) (by decide) rfl
                        clear hh_92
                        obtain ⟨ints_95, rfl, hg_ints_95⟩ := hv_93
                        refine j7_read hx hb hown hK (C := RX14) (T := TX14) (N := 74) rfl hly_16_25 (hts (.fieldLink RX14 62 "ProofServerModel" "ints" "[I") (by decide +kernel)) (hh_94.at 0 rfl) dX14_readNumber_287 ?_
                        refine lv_iload_n hx hb dX14_readNumber_290 rfl (lv_at hl 1 rfl) ?_
                        refine lv_lload hx hb dX14_readNumber_291 (lv_at hl 6 rfl) ?_
                        refine lv_l2i hx hb dX14_readNumber_293 rfl ?_
                        refine lv_topi (fun z_96 ez_96 => ?_)
                        refine j7_iast hx hb hK hh_94 hB hB125 1 rfl (by decide) (by decide) rfl rfl rfl hg_ints_95 (rfl) (by omega) (trivial) dX14_readNumber_294 (fun H_97 locs_97 hh_97 => ?_)
                        clear hh_94
                        refine lv_iload_n hx hb dX14_readNumber_295 rfl (lv_at hl 1 rfl) ?_
                        rw [hQ]
                        exact W.iret (v := r_2) hx hb hr (fun t ht hW => ⟨⟨r_2, (wt_86, qn_1, wb_86), rfl, by first | omega | (refine ⟨?_, ?_, ?_, ?_, ?_⟩ <;> (first | omega | rfl | assumption | decide | exact Or.inl rfl | exact Or.inr rfl | (simp only; omega))), hh_97.rt (M1 := [(r0, 16, 29, .int wt_86), (r0, 16, 26, .int qn_1), (r0, 16, 31, .int wb_86)]) [2, 5, 3] rfl ht⟩, by rw [ht]; try exact hh_97.1.1, fun q h9 hq => by rw [ht]; try exact hh_97.1.2.1 q h9 hq⟩) hh_97.1.2.2 dX14_readNumber_296
                      refine lv_if_eq (tgt := 284) hx hb dX14_readNumber_259 (by decide) (fun c_98 => ?_) (fun c_98 => ?_)
                      · skip
                        have c_98' : v6_86.toInt = 0 := jb_eq (rfl) ((by decide)) c_98
                        refine lv_iconst (v := 0) hx hb dX14_readNumber_284 (by decide) ?_
                        exact C285 0 _ _ hh_89 (Or.inl rfl) (trivial) _ (lv_sub hl [1, 2, 3, 4, 5, 6, 0] rfl)
                      · skip
                        have c_98' : v6_86.toInt ≠ 0 := jb_eq_n (rfl) ((by decide)) c_98
                        refine lv_lload hx hb dX14_readNumber_262 (lv_at hl 0 rfl) ?_
                        refine lv_ldc2 hx hb hown (hts (.constantLong RX14 329 (-2147483648)) (by decide +kernel)) dX14_readNumber_264 ?_
                        refine W.lcmp hx hb dX14_readNumber_267 ?_
                        refine lv_topi (fun z_99 ez_99 => ?_)
                        have hz_99 := jb_lcmp ez_99
                        have hqz_99_m2147483648 : ((-2147483648) : Int64).toInt = (-2147483648) := by decide
                        refine lv_if_lt (tgt := 284) hx hb dX14_readNumber_268 (by decide) (fun c_100 => ?_) (fun c_100 => ?_)
                        · skip
                          have c_100' : z_99.toInt < 0 := jb_lt (rfl) ((by decide)) c_100
                          refine lv_iconst (v := 0) hx hb dX14_readNumber_284 (by decide) ?_
                          exact C285 0 _ _ hh_89 (Or.inl rfl) (trivial) _ (lv_sub hl [1, 2, 3, 4, 5, 6, 0] rfl)
                        · skip
                          have c_100' : z_99.toInt ≥ 0 := jb_lt_n (rfl) ((by decide)) c_100
                          refine lv_lload hx hb dX14_readNumber_271 (lv_at hl 0 rfl) ?_
                          refine lv_ldc2 hx hb hown (hts (.constantLong RX14 331 2147483647) (by decide +kernel)) dX14_readNumber_273 ?_
                          refine W.lcmp hx hb dX14_readNumber_276 ?_
                          refine lv_topi (fun z_101 ez_101 => ?_)
                          have hz_101 := jb_lcmp ez_101
                          have hqz_101_2147483647 : (2147483647 : Int64).toInt = 2147483647 := by decide
                          refine lv_if_gt (tgt := 284) hx hb dX14_readNumber_277 (by decide) (fun c_102 => ?_) (fun c_102 => ?_)
                          · skip
                            have c_102' : z_101.toInt > 0 := jb_gt (rfl) ((by decide)) c_102
                            refine lv_iconst (v := 0) hx hb dX14_readNumber_284 (by decide) ?_
                            exact C285 0 _ _ hh_89 (Or.inl rfl) (trivial) _ (lv_sub hl [1, 2, 3, 4, 5, 6, 0] rfl)
                          · skip
                            have c_102' : z_101.toInt ≤ 0 := jb_gt_n (rfl) ((by decide)) c_102
                            refine lv_iconst (v := 1) hx hb dX14_readNumber_280 (by decide) ?_
                            refine lv_goto (tgt := 285) hx hb dX14_readNumber_281 (by decide) ?_
                            exact C285 1 _ _ hh_89 (Or.inr rfl) (trivial) _ (lv_sub hl [1, 2, 3, 4, 5, 6, 0] rfl)
                    · skip
                      exact absurd c_87 (by decide)
                  refine lv_if_ne (tgt := 238) hx hb dX14_readNumber_172 (by decide) (fun c_103 => ?_) (fun c_103 => ?_)
                  · skip
                    have c_103' : wb_85.toInt ≠ 0 := jb_ne (rfl) ((by decide)) c_103
                    exact C238 v6_85 wt_85 wb_85 _ _ hh_85 (hb_v6_85) (by first | omega | (refine ⟨?_, ?_, ?_⟩ <;> (first | omega | rfl | assumption | decide | exact Or.inl rfl | exact Or.inr rfl | (simp only; omega)))) _ (lv_sub hl [0, 1, 2, 3, 4, 5] rfl)
                  · skip
                    have c_103' : wb_85.toInt = 0 := jb_ne_n (rfl) ((by decide)) c_103
                    refine lv_aload_n hx hb dX14_readNumber_175 rfl (lv_at hl 0 rfl) ?_
                    refine va_calli (A0 := jA base) (H0 := s.heap) (va_runV (As := []) (rest := []) ⟨hx, hb, hml, hown, hts⟩ (uX14_here l dC dI ca base B hB hAp hB16 hB110 G0 H_85 r0 wt_85 pe) (cwV 0 hts gX14_readNumber_X14_here rfl rfl rfl (by decide +kernel) ⟨by rw [← hR]; exact Nat.le_of_ble_eq_true rfl, by rw [← hR]; exact Nat.le_of_ble_eq_true rfl⟩) ⟨fun a U g mk q => by obtain ⟨q0, q1, q2, qK, q10, q11, q12⟩ := q; exact ⟨q0, q1, q2, jG.calling g mk a qK, q10, q11, q12⟩, hh_85.recv (C := RX14) (T := TX14) (N := 74) hB16 rfl (by decide) hg_r0 hK, fun U hU hW => ⟨rfl, hU, hh_85.2.1, hG.step hW hU hh_85.1, hg_r0, (hh_85.2.2.1.sub (L1 := [(r0, 16, 29, .int wt_85), (r0, 16, 30, .int pe)]) [0, 4] rfl), by first | omega | (refine ⟨?_, ?_, ?_, ?_⟩ <;> (first | omega | rfl | assumption | decide | exact Or.inl rfl | exact Or.inr rfl | (simp only; omega)))⟩⟩ rfl rfl hl.1 rfl (lv_room (Nat.le_of_ble_eq_true rfl)) dX14_readNumber_176 ⟨Nat.zero_le _, Nat.zero_le _⟩) hh_85.1 (fun q _ h => h) (fun q h => h) (fun r_105 u_104 t_104 H_104 locs_104 ht_104 hvm_104 hr_105 hb_104 hz_104 hk_104 hS_104 => ?_)
                    rw [ht_104] at hb_104
                    obtain ⟨hb_1041, hb_1042, hb_1043, hb_1044, hb_1045⟩ := hb_104
                    have hh_104 : jSt (dC, dI) B base G0 G0 EX14_readNumber s.heap 0 0 [(r0, 16, 29, .int wt_85), (r0, 16, 31, .int wb_85), (r0, 16, 9, .ref kept_79), (r0, 16, 26, .int qn_1), (r0, 16, 30, .int pe)] [] [] H_104 locs_104 := (hh_85.call hb_1041 hb_1042 hb_1043 hb_1044 hS_104 rfl (L1 := [(r0, 16, 29, .int wt_85), (r0, 16, 31, .int wb_85), (r0, 16, 9, .ref kept_79), (r0, 16, 26, .int qn_1), (r0, 16, 30, .int pe)]) [0, 1, 2, 3, 4] rfl rfl (M1 := []) [] rfl rfl (I1 := []) [] rfl rfl).more hb_1045
                    clear hh_85 ht_104 hvm_104 hz_104 hk_104 hS_104 hb_1041 hb_1042 hb_1043 hb_1044 hb_1045
                    obtain ⟨hr_105_0, hr_105_1, hr_105_2⟩ := hr_105
                    refine lv_bipush (v := 101) hx hb dX14_readNumber_179 (by decide) ?_
                    refine lv_icmp_eq (tgt := 193) hx hb dX14_readNumber_181 (by decide) (fun c_106 => ?_) (fun c_106 => ?_)
                    · skip
                      have c_106' : r_105.toInt = 101 := jb_eq (rfl) ((by decide)) c_106
                      first | replace hr_105_2 := hr_105_2.resolve_left (by omega) | replace hr_105_2 := hr_105_2.resolve_right (by omega) | skip
                      refine lv_iconst (v := 0) hx hb dX14_readNumber_193 (by decide) ?_
                      refine lv_istore (lv' := [(6, .int 0), (0, .ref r0), (1, .int r_2), (2, .int 0), (3, .int wt_6), (4, .long v4_7)]) hx hb dX14_readNumber_194 hl (by decide) rfl (fun ls hl => ?_)
                      refine lv_aload_n hx hb dX14_readNumber_196 rfl (lv_at hl 1 rfl) ?_
                      refine lv_dup hx hb dX14_readNumber_197 rfl ?_
                      refine j7_read hx hb hown hK (C := RX14) (T := TX14) (N := 74) rfl hly_16_29 (hts (.fieldLink RX14 273 "ProofServerModel" "at" "I") (by decide +kernel)) (hh_104.at 0 rfl) dX14_readNumber_198 ?_
                      refine lv_iconst (v := 1) hx hb dX14_readNumber_201 (by decide) ?_
                      refine lv_iadd hx hb dX14_readNumber_202 ?_
                      refine lv_topi (fun z_107 ez_107 => ?_)
                      have hz_107 : z_107.toInt = wt_85.toInt + 1 := by rw [ez_107]; exact jb_iadd2 (rfl) ((by decide)) (by omega)
                      refine j7_put hx hb hown hK hh_104 hB hAp hB16 (C := RX14) (T := TX14) (N := 74) rfl (by decide) hg_r0 (i := 29) (by decide) hly_16_29 rfl (hts (.fieldLink RX14 273 "ProofServerModel" "at" "I") (by decide +kernel)) rfl (ty := .int) (v := .int z_107) (by decide +kernel) rfl rfl (⟨_, rfl, by omega, by omega⟩) rfl (L1 := [(r0, 16, 31, .int wb_85), (r0, 16, 9, .ref kept_79), (r0, 16, 26, .int qn_1), (r0, 16, 30, .int pe)]) [1, 2, 3, 4] rfl rfl rfl dX14_readNumber_203 (fun H_108 locs_108 hh_108 => ?_)
                      clear hh_104
                      refine lv_aload_n hx hb dX14_readNumber_206 rfl (lv_at hl 1 rfl) ?_
                      refine va_calli (A0 := jA base) (H0 := s.heap) (va_runV (As := []) (rest := []) ⟨hx, hb, hml, hown, hts⟩ (uX14_here l dC dI ca base B hB hAp hB16 hB110 G0 H_108 r0 z_107 pe) (cwV 0 hts gX14_readNumber_X14_here rfl rfl rfl (by decide +kernel) ⟨by rw [← hR]; exact Nat.le_of_ble_eq_true rfl, by rw [← hR]; exact Nat.le_of_ble_eq_true rfl⟩) ⟨fun a U g mk q => by obtain ⟨q0, q1, q2, qK, q10, q11, q12⟩ := q; exact ⟨q0, q1, q2, jG.calling g mk a qK, q10, q11, q12⟩, hh_108.recv (C := RX14) (T := TX14) (N := 74) hB16 rfl (by decide) hg_r0 hK, fun U hU hW => ⟨rfl, hU, hh_108.2.1, hG.step hW hU hh_108.1, hg_r0, (hh_108.2.2.1.sub (L1 := [(r0, 16, 29, .int z_107), (r0, 16, 30, .int pe)]) [0, 4] rfl), by first | omega | (refine ⟨?_, ?_, ?_, ?_⟩ <;> (first | omega | rfl | assumption | decide | exact Or.inl rfl | exact Or.inr rfl | (simp only; omega)))⟩⟩ rfl rfl hl.1 rfl (lv_room (Nat.le_of_ble_eq_true rfl)) dX14_readNumber_207 ⟨Nat.zero_le _, Nat.zero_le _⟩) hh_108.1 (fun q _ h => h) (fun q h => h) (fun r_110 u_109 t_109 H_109 locs_109 ht_109 hvm_109 hr_110 hb_109 hz_109 hk_109 hS_109 => ?_)
                      rw [ht_109] at hb_109
                      obtain ⟨hb_1091, hb_1092, hb_1093, hb_1094, hb_1095⟩ := hb_109
                      have hh_109 : jSt (dC, dI) B base G0 G0 EX14_readNumber s.heap 0 0 [(r0, 16, 29, .int z_107), (r0, 16, 31, .int wb_85), (r0, 16, 9, .ref kept_79), (r0, 16, 26, .int qn_1), (r0, 16, 30, .int pe)] [] [] H_109 locs_109 := (hh_108.call hb_1091 hb_1092 hb_1093 hb_1094 hS_109 rfl (L1 := [(r0, 16, 29, .int z_107), (r0, 16, 31, .int wb_85), (r0, 16, 9, .ref kept_79), (r0, 16, 26, .int qn_1), (r0, 16, 30, .int pe)]) [0, 1, 2, 3, 4] rfl rfl (M1 := []) [] rfl rfl (I1 := []) [] rfl rfl).more hb_1095
                      clear hh_108 ht_109 hvm_109 hz_109 hk_109 hS_109 hb_1091 hb_1092 hb_1093 hb_1094 hb_1095
                      obtain ⟨hr_110_0, hr_110_1, hr_110_2⟩ := hr_110
                      refine lv_bipush (v := 43) hx hb dX14_readNumber_210 (by decide) ?_
                      have C234 : ∀ (wt_111 : Int32) (H_111 : Heap) (locs_111 : List Loc), jSt (dC, dI) B base G0 G0 EX14_readNumber s.heap 0 0 [(r0, 16, 29, .int wt_111), (r0, 16, 31, .int wb_85), (r0, 16, 9, .ref kept_79), (r0, 16, 26, .int qn_1), (r0, 16, 30, .int pe)] [] [] H_111 locs_111 → (pt.toInt ≤ wt_111.toInt ∧ wt_111.toInt ≤ pe.toInt ∧ pt.toInt + 1 ≤ wt_111.toInt) → ∀ ls : Array Slot, lv_has ls 9 [(0, .ref r0), (1, .int r_2), (2, .int 0), (3, .int wt_6), (4, .long v4_7), (6, .int 0)] → W p l e R s m ([.ref r0] : List Value).toArray below meth c H_111 locs_111 0 0 Q (F0 m 234 ls []) := by
                        intro wt_111 H_111 locs_111 hh_111  hi_111 ls hl
                        obtain ⟨hi_111_0, hi_111_1, hi_111_2⟩ := hi_111
                        clear hr_105_2 hr_110_2
                        refine lv_aload_n hx hb dX14_readNumber_234 rfl (lv_at hl 0 rfl) ?_
                        refine va_callv (A0 := jA base) (H0 := s.heap) (va_runV (As := []) (rest := []) ⟨hx, hb, hml, hown, hts⟩ (uX14_digits l dC dI ca base B hB hAp hB16 hB110 G0 H_111 r0 wt_111 pe) (cwV 0 hts gX14_readNumber_X14_digits rfl rfl rfl (by decide +kernel) ⟨by rw [← hR]; exact Nat.le_of_ble_eq_true rfl, by rw [← hR]; exact Nat.le_of_ble_eq_true rfl⟩) ⟨fun a U g mk q => by obtain ⟨q0, q1, q2, qK, q10, q11, q12⟩ := q; exact ⟨q0, q1, q2, jG.calling g mk a qK, q10, q11, q12⟩, hh_111.recv (C := RX14) (T := TX14) (N := 74) hB16 rfl (by decide) hg_r0 hK, fun U hU hW => ⟨rfl, hU, hh_111.2.1, hG.step hW hU hh_111.1, hg_r0, (hh_111.2.2.1.sub (L1 := [(r0, 16, 29, .int wt_111), (r0, 16, 30, .int pe)]) [0, 4] rfl), by first | omega | (refine ⟨?_, ?_, ?_, ?_, ?_⟩ <;> (first | omega | rfl | assumption | decide | exact Or.inl rfl | exact Or.inr rfl | (simp only; omega)))⟩⟩ rfl rfl hl.1 rfl (lv_room (Nat.le_of_ble_eq_true rfl)) dX14_readNumber_235 ⟨Nat.zero_le _, Nat.zero_le _⟩) hh_111.1 (fun q _ h => h) (fun q h => h) (fun u_112 t_112 H_112 locs_112 ht_112 hvm_112 hr_113 hb_112 hz_112 hk_112 hS_112 => ?_)
                        obtain ⟨qt_112, rfl⟩ : ∃ z, z = u_112 := ⟨_, rfl⟩
                        rw [ht_112] at hb_112
                        obtain ⟨hb_1121, hb_1122, hb_1123, hb_1124, hb_1125⟩ := hb_112
                        have hh_112 : jSt (dC, dI) B base G0 G0 EX14_readNumber s.heap 0 0 [(r0, 16, 29, .int qt_112), (r0, 16, 9, .ref kept_79), (r0, 16, 26, .int qn_1), (r0, 16, 30, .int pe)] [] [] H_112 locs_112 := (hh_111.call hb_1121 hb_1122 hb_1123 hb_1124 hS_112 rfl (L1 := [(r0, 16, 9, .ref kept_79), (r0, 16, 26, .int qn_1), (r0, 16, 30, .int pe)]) [2, 3, 4] rfl rfl (M1 := []) [] rfl rfl (I1 := []) [] rfl rfl).more hb_1125
                        clear hh_111 ht_112 hvm_112 hz_112 hk_112 hS_112 hb_1121 hb_1122 hb_1123 hb_1124 hb_1125
                        obtain ⟨hr_113_0, hr_113_1⟩ := hr_113
                        obtain ⟨v_114, hv_114, hh_115⟩ := hh_112.pin (C := RX14) (T := TX14) (N := 74) hB16 rfl (by decide) hg_r0 (i := 31) (by decide) rfl
                        obtain ⟨bad_116, rfl, hzbad_116⟩ := hv_114
                        have hzbad_116' := jb_01 hzbad_116
                        exact C238 0 qt_112 bad_116 _ _ (hh_115.sub (L1 := [(r0, 16, 29, .int qt_112), (r0, 16, 31, .int bad_116), (r0, 16, 9, .ref kept_79), (r0, 16, 26, .int qn_1), (r0, 16, 30, .int pe)]) [1, 0, 2, 3, 4] rfl (M1 := []) [] rfl (I1 := []) [] rfl) (Or.inl rfl) (by first | omega | (refine ⟨?_, ?_, ?_⟩ <;> (first | omega | rfl | assumption | decide | exact Or.inl rfl | exact Or.inr rfl | (simp only; omega)))) _ (lv_sub hl [0, 1, 2, 3, 4, 5] rfl)
                      refine lv_icmp_eq (tgt := 224) hx hb dX14_readNumber_212 (by decide) (fun c_117 => ?_) (fun c_117 => ?_)
                      · skip
                        have c_117' : r_110.toInt = 43 := jb_eq (rfl) ((by decide)) c_117
                        first | replace hr_110_2 := hr_110_2.resolve_left (by omega) | replace hr_110_2 := hr_110_2.resolve_right (by omega) | skip
                        refine lv_aload_n hx hb dX14_readNumber_224 rfl (lv_at hl 1 rfl) ?_
                        refine lv_dup hx hb dX14_readNumber_225 rfl ?_
                        refine j7_read hx hb hown hK (C := RX14) (T := TX14) (N := 74) rfl hly_16_29 (hts (.fieldLink RX14 273 "ProofServerModel" "at" "I") (by decide +kernel)) (hh_109.at 0 rfl) dX14_readNumber_226 ?_
                        refine lv_iconst (v := 1) hx hb dX14_readNumber_229 (by decide) ?_
                        refine lv_iadd hx hb dX14_readNumber_230 ?_
                        refine lv_topi (fun z_118 ez_118 => ?_)
                        have hz_118 : z_118.toInt = z_107.toInt + 1 := by rw [ez_118]; exact jb_iadd2 (rfl) ((by decide)) (by omega)
                        refine j7_put hx hb hown hK hh_109 hB hAp hB16 (C := RX14) (T := TX14) (N := 74) rfl (by decide) hg_r0 (i := 29) (by decide) hly_16_29 rfl (hts (.fieldLink RX14 273 "ProofServerModel" "at" "I") (by decide +kernel)) rfl (ty := .int) (v := .int z_118) (by decide +kernel) rfl rfl (⟨_, rfl, by omega, by omega⟩) rfl (L1 := [(r0, 16, 31, .int wb_85), (r0, 16, 9, .ref kept_79), (r0, 16, 26, .int qn_1), (r0, 16, 30, .int pe)]) [1, 2, 3, 4] rfl rfl rfl dX14_readNumber_231 (fun H_119 locs_119 hh_119 => ?_)
                        clear hh_109
                        exact C234 z_118 _ _ hh_119 (by first | omega | (refine ⟨?_, ?_, ?_⟩ <;> (first | omega | rfl | assumption | decide | exact Or.inl rfl | exact Or.inr rfl | (simp only; omega)))) _ (lv_sub hl [1, 2, 3, 4, 5, 0] rfl)
                      · skip
                        have c_117' : r_110.toInt ≠ 43 := jb_eq_n (rfl) ((by decide)) c_117
                        first | replace hr_110_2 := hr_110_2.resolve_left (by omega) | replace hr_110_2 := hr_110_2.resolve_right (by omega) | skip
                        refine lv_aload_n hx hb dX14_readNumber_215 rfl (lv_at hl 1 rfl) ?_
                        refine va_calli (A0 := jA base) (H0 := s.heap) (va_runV (As := []) (rest := []) ⟨hx, hb, hml, hown, hts⟩ (uX14_here l dC dI ca base B hB hAp hB16 hB110 G0 H_109 r0 z_107 pe) (cwV 0 hts gX14_readNumber_X14_here rfl rfl rfl (by decide +kernel) ⟨by rw [← hR]; exact Nat.le_of_ble_eq_true rfl, by rw [← hR]; exact Nat.le_of_ble_eq_true rfl⟩) ⟨fun a U g mk q => by obtain ⟨q0, q1, q2, qK, q10, q11, q12⟩ := q; exact ⟨q0, q1, q2, jG.calling g mk a qK, q10, q11, q12⟩, hh_109.recv (C := RX14) (T := TX14) (N := 74) hB16 rfl (by decide) hg_r0 hK, fun U hU hW => ⟨rfl, hU, hh_109.2.1, hG.step hW hU hh_109.1, hg_r0, (hh_109.2.2.1.sub (L1 := [(r0, 16, 29, .int z_107), (r0, 16, 30, .int pe)]) [0, 4] rfl), by first | omega | (refine ⟨?_, ?_, ?_, ?_⟩ <;> (first | omega | rfl | assumption | decide | exact Or.inl rfl | exact Or.inr rfl | (simp only; omega)))⟩⟩ rfl rfl hl.1 rfl (lv_room (Nat.le_of_ble_eq_true rfl)) dX14_readNumber_216 ⟨Nat.zero_le _, Nat.zero_le _⟩) hh_109.1 (fun q _ h => h) (fun q h => h) (fun r_121 u_120 t_120 H_120 locs_120 ht_120 hvm_120 hr_121 hb_120 hz_120 hk_120 hS_120 => ?_)
                        rw [ht_120] at hb_120
                        obtain ⟨hb_1201, hb_1202, hb_1203, hb_1204, hb_1205⟩ := hb_120
                        have hh_120 : jSt (dC, dI) B base G0 G0 EX14_readNumber s.heap 0 0 [(r0, 16, 29, .int z_107), (r0, 16, 31, .int wb_85), (r0, 16, 9, .ref kept_79), (r0, 16, 26, .int qn_1), (r0, 16, 30, .int pe)] [] [] H_120 locs_120 := (hh_109.call hb_1201 hb_1202 hb_1203 hb_1204 hS_120 rfl (L1 := [(r0, 16, 29, .int z_107), (r0, 16, 31, .int wb_85), (r0, 16, 9, .ref kept_79), (r0, 16, 26, .int qn_1), (r0, 16, 30, .int pe)]) [0, 1, 2, 3, 4] rfl rfl (M1 := []) [] rfl rfl (I1 := []) [] rfl rfl).more hb_1205
                        clear hh_109 ht_120 hvm_120 hz_120 hk_120 hS_120 hb_1201 hb_1202 hb_1203 hb_1204 hb_1205
                        obtain ⟨hr_121_0, hr_121_1, hr_121_2⟩ := hr_121
                        refine lv_bipush (v := 45) hx hb dX14_readNumber_219 (by decide) ?_
                        refine lv_icmp_ne (tgt := 234) hx hb dX14_readNumber_221 (by decide) (fun c_122 => ?_) (fun c_122 => ?_)
                        · skip
                          have c_122' : r_121.toInt ≠ 45 := jb_ne (rfl) ((by decide)) c_122
                          first | replace hr_121_2 := hr_121_2.resolve_left (by omega) | replace hr_121_2 := hr_121_2.resolve_right (by omega) | skip
                          exact C234 z_107 _ _ hh_120 (by first | omega | (refine ⟨?_, ?_, ?_⟩ <;> (first | omega | rfl | assumption | decide | exact Or.inl rfl | exact Or.inr rfl | (simp only; omega)))) _ (lv_sub hl [1, 2, 3, 4, 5, 0] rfl)
                        · skip
                          have c_122' : r_121.toInt = 45 := jb_ne_n (rfl) ((by decide)) c_122
                          first | replace hr_121_2 := hr_121_2.resolve_left (by omega) | replace hr_121_2 := hr_121_2.resolve_right (by omega) | skip
                          refine lv_aload_n hx hb dX14_readNumber_224 rfl (lv_at hl 1 rfl) ?_
                          refine lv_dup hx hb dX14_readNumber_225 rfl ?_
                          refine j7_read hx hb hown hK (C := RX14) (T := TX14) (N := 74) rfl hly_16_29 (hts (.fieldLink RX14 273 "ProofServerModel" "at" "I") (by decide +kernel)) (hh_120.at 0 rfl) dX14_readNumber_226 ?_
                          refine lv_iconst (v := 1) hx hb dX14_readNumber_229 (by decide) ?_
                          refine lv_iadd hx hb dX14_readNumber_230 ?_
                          refine lv_topi (fun z_123 ez_123 => ?_)
                          have hz_123 : z_123.toInt = z_107.toInt + 1 := by rw [ez_123]; exact jb_iadd2 (rfl) ((by decide)) (by omega)
                          refine j7_put hx hb hown hK hh_120 hB hAp hB16 (C := RX14) (T := TX14) (N := 74) rfl (by decide) hg_r0 (i := 29) (by decide) hly_16_29 rfl (hts (.fieldLink RX14 273 "ProofServerModel" "at" "I") (by decide +kernel)) rfl (ty := .int) (v := .int z_123) (by decide +kernel) rfl rfl (⟨_, rfl, by omega, by omega⟩) rfl (L1 := [(r0, 16, 31, .int wb_85), (r0, 16, 9, .ref kept_79), (r0, 16, 26, .int qn_1), (r0, 16, 30, .int pe)]) [1, 2, 3, 4] rfl rfl rfl dX14_readNumber_231 (fun H_124 locs_124 hh_124 => ?_)
                          clear hh_120
                          exact C234 z_123 _ _ hh_124 (by first | omega | (refine ⟨?_, ?_, ?_⟩ <;> (first | omega | rfl | assumption | decide | exact Or.inl rfl | exact Or.inr rfl | (simp only; omega)))) _ (lv_sub hl [1, 2, 3, 4, 5, 0] rfl)
                    · skip
                      have c_106' : r_105.toInt ≠ 101 := jb_eq_n (rfl) ((by decide)) c_106
                      first | replace hr_105_2 := hr_105_2.resolve_left (by omega) | replace hr_105_2 := hr_105_2.resolve_right (by omega) | skip
                      refine lv_aload_n hx hb dX14_readNumber_184 rfl (lv_at hl 0 rfl) ?_
                      refine va_calli (A0 := jA base) (H0 := s.heap) (va_runV (As := []) (rest := []) ⟨hx, hb, hml, hown, hts⟩ (uX14_here l dC dI ca base B hB hAp hB16 hB110 G0 H_104 r0 wt_85 pe) (cwV 0 hts gX14_readNumber_X14_here rfl rfl rfl (by decide +kernel) ⟨by rw [← hR]; exact Nat.le_of_ble_eq_true rfl, by rw [← hR]; exact Nat.le_of_ble_eq_true rfl⟩) ⟨fun a U g mk q => by obtain ⟨q0, q1, q2, qK, q10, q11, q12⟩ := q; exact ⟨q0, q1, q2, jG.calling g mk a qK, q10, q11, q12⟩, hh_104.recv (C := RX14) (T := TX14) (N := 74) hB16 rfl (by decide) hg_r0 hK, fun U hU hW => ⟨rfl, hU, hh_104.2.1, hG.step hW hU hh_104.1, hg_r0, (hh_104.2.2.1.sub (L1 := [(r0, 16, 29, .int wt_85), (r0, 16, 30, .int pe)]) [0, 4] rfl), by first | omega | (refine ⟨?_, ?_, ?_, ?_⟩ <;> (first | omega | rfl | assumption | decide | exact Or.inl rfl | exact Or.inr rfl | (simp only; omega)))⟩⟩ rfl rfl hl.1 rfl (lv_room (Nat.le_of_ble_eq_true rfl)) dX14_readNumber_185 ⟨Nat.zero_le _, Nat.zero_le _⟩) hh_104.1 (fun q _ h => h) (fun q h => h) (fun r_126 u_125 t_125 H_125 locs_125 ht_125 hvm_125 hr_126 hb_125 hz_125 hk_125 hS_125 => ?_)
                      rw [ht_125] at hb_125
                      obtain ⟨hb_1251, hb_1252, hb_1253, hb_1254, hb_1255⟩ := hb_125
                      have hh_125 : jSt (dC, dI) B base G0 G0 EX14_readNumber s.heap 0 0 [(r0, 16, 29, .int wt_85), (r0, 16, 31, .int wb_85), (r0, 16, 9, .ref kept_79), (r0, 16, 26, .int qn_1), (r0, 16, 30, .int pe)] [] [] H_125 locs_125 := (hh_104.call hb_1251 hb_1252 hb_1253 hb_1254 hS_125 rfl (L1 := [(r0, 16, 29, .int wt_85), (r0, 16, 31, .int wb_85), (r0, 16, 9, .ref kept_79), (r0, 16, 26, .int qn_1), (r0, 16, 30, .int pe)]) [0, 1, 2, 3, 4] rfl rfl (M1 := []) [] rfl rfl (I1 := []) [] rfl rfl).more hb_1255
                      clear hh_104 ht_125 hvm_125 hz_125 hk_125 hS_125 hb_1251 hb_1252 hb_1253 hb_1254 hb_1255
                      obtain ⟨hr_126_0, hr_126_1, hr_126_2⟩ := hr_126
                      refine lv_bipush (v := 69) hx hb dX14_readNumber_188 (by decide) ?_
                      refine lv_icmp_ne (tgt := 238) hx hb dX14_readNumber_190 (by decide) (fun c_127 => ?_) (fun c_127 => ?_)
                      · skip
                        have c_127' : r_126.toInt ≠ 69 := jb_ne (rfl) ((by decide)) c_127
                        first | replace hr_126_2 := hr_126_2.resolve_left (by omega) | replace hr_126_2 := hr_126_2.resolve_right (by omega) | skip
                        exact C238 v6_85 wt_85 wb_85 _ _ hh_125 (hb_v6_85) (by first | omega | (refine ⟨?_, ?_, ?_⟩ <;> (first | omega | rfl | assumption | decide | exact Or.inl rfl | exact Or.inr rfl | (simp only; omega)))) _ (lv_sub hl [0, 1, 2, 3, 4, 5] rfl)
                      · skip
                        have c_127' : r_126.toInt = 69 := jb_ne_n (rfl) ((by decide)) c_127
                        first | replace hr_126_2 := hr_126_2.resolve_left (by omega) | replace hr_126_2 := hr_126_2.resolve_right (by omega) | skip
                        refine lv_iconst (v := 0) hx hb dX14_readNumber_193 (by decide) ?_
                        refine lv_istore (lv' := [(6, .int 0), (0, .ref r0), (1, .int r_2), (2, .int 0), (3, .int wt_6), (4, .long v4_7)]) hx hb dX14_readNumber_194 hl (by decide) rfl (fun ls hl => ?_)
                        refine lv_aload_n hx hb dX14_readNumber_196 rfl (lv_at hl 1 rfl) ?_
                        refine lv_dup hx hb dX14_readNumber_197 rfl ?_
                        refine j7_read hx hb hown hK (C := RX14) (T := TX14) (N := 74) rfl hly_16_29 (hts (.fieldLink RX14 273 "ProofServerModel" "at" "I") (by decide +kernel)) (hh_125.at 0 rfl) dX14_readNumber_198 ?_
                        refine lv_iconst (v := 1) hx hb dX14_readNumber_201 (by decide) ?_
                        refine lv_iadd hx hb dX14_readNumber_202 ?_
                        refine lv_topi (fun z_128 ez_128 => ?_)
                        have hz_128 : z_128.toInt = wt_85.toInt + 1 := by rw [ez_128]; exact jb_iadd2 (rfl) ((by decide)) (by omega)
                        refine j7_put hx hb hown hK hh_125 hB hAp hB16 (C := RX14) (T := TX14) (N := 74) rfl (by decide) hg_r0 (i := 29) (by decide) hly_16_29 rfl (hts (.fieldLink RX14 273 "ProofServerModel" "at" "I") (by decide +kernel)) rfl (ty := .int) (v := .int z_128) (by decide +kernel) rfl rfl (⟨_, rfl, by omega, by omega⟩) rfl (L1 := [(r0, 16, 31, .int wb_85), (r0, 16, 9, .ref kept_79), (r0, 16, 26, .int qn_1), (r0, 16, 30, .int pe)]) [1, 2, 3, 4] rfl rfl rfl dX14_readNumber_203 (fun H_129 locs_129 hh_129 => ?_)
                        clear hh_125
                        refine lv_aload_n hx hb dX14_readNumber_206 rfl (lv_at hl 1 rfl) ?_
                        refine va_calli (A0 := jA base) (H0 := s.heap) (va_runV (As := []) (rest := []) ⟨hx, hb, hml, hown, hts⟩ (uX14_here l dC dI ca base B hB hAp hB16 hB110 G0 H_129 r0 z_128 pe) (cwV 0 hts gX14_readNumber_X14_here rfl rfl rfl (by decide +kernel) ⟨by rw [← hR]; exact Nat.le_of_ble_eq_true rfl, by rw [← hR]; exact Nat.le_of_ble_eq_true rfl⟩) ⟨fun a U g mk q => by obtain ⟨q0, q1, q2, qK, q10, q11, q12⟩ := q; exact ⟨q0, q1, q2, jG.calling g mk a qK, q10, q11, q12⟩, hh_129.recv (C := RX14) (T := TX14) (N := 74) hB16 rfl (by decide) hg_r0 hK, fun U hU hW => ⟨rfl, hU, hh_129.2.1, hG.step hW hU hh_129.1, hg_r0, (hh_129.2.2.1.sub (L1 := [(r0, 16, 29, .int z_128), (r0, 16, 30, .int pe)]) [0, 4] rfl), by first | omega | (refine ⟨?_, ?_, ?_, ?_⟩ <;> (first | omega | rfl | assumption | decide | exact Or.inl rfl | exact Or.inr rfl | (simp only; omega)))⟩⟩ rfl rfl hl.1 rfl (lv_room (Nat.le_of_ble_eq_true rfl)) dX14_readNumber_207 ⟨Nat.zero_le _, Nat.zero_le _⟩) hh_129.1 (fun q _ h => h) (fun q h => h) (fun r_131 u_130 t_130 H_130 locs_130 ht_130 hvm_130 hr_131 hb_130 hz_130 hk_130 hS_130 => ?_)
                        rw [ht_130] at hb_130
                        obtain ⟨hb_1301, hb_1302, hb_1303, hb_1304, hb_1305⟩ := hb_130
                        have hh_130 : jSt (dC, dI) B base G0 G0 EX14_readNumber s.heap 0 0 [(r0, 16, 29, .int z_128), (r0, 16, 31, .int wb_85), (r0, 16, 9, .ref kept_79), (r0, 16, 26, .int qn_1), (r0, 16, 30, .int pe)] [] [] H_130 locs_130 := (hh_129.call hb_1301 hb_1302 hb_1303 hb_1304 hS_130 rfl (L1 := [(r0, 16, 29, .int z_128), (r0, 16, 31, .int wb_85), (r0, 16, 9, .ref kept_79), (r0, 16, 26, .int qn_1), (r0, 16, 30, .int pe)]) [0, 1, 2, 3, 4] rfl rfl (M1 := []) [] rfl rfl (I1 := []) [] rfl rfl).more hb_1305
                        clear hh_129 ht_130 hvm_130 hz_130 hk_130 hS_130 hb_1301 hb_1302 hb_1303 hb_1304 hb_1305
                        obtain ⟨hr_131_0, hr_131_1, hr_131_2⟩ := hr_131
                        refine lv_bipush (v := 43) hx hb dX14_readNumber_210 (by decide) ?_
                        have C234 : ∀ (wt_132 : Int32) (H_132 : Heap) (locs_132 : List Loc), jSt (dC, dI) B base G0 G0 EX14_readNumber s.heap 0 0 [(r0, 16, 29, .int wt_132), (r0, 16, 31, .int wb_85), (r0, 16, 9, .ref kept_79), (r0, 16, 26, .int qn_1), (r0, 16, 30, .int pe)] [] [] H_132 locs_132 → (pt.toInt ≤ wt_132.toInt ∧ wt_132.toInt ≤ pe.toInt ∧ pt.toInt + 1 ≤ wt_132.toInt) → ∀ ls : Array Slot, lv_has ls 9 [(0, .ref r0), (1, .int r_2), (2, .int 0), (3, .int wt_6), (4, .long v4_7), (6, .int 0)] → W p l e R s m ([.ref r0] : List Value).toArray below meth c H_132 locs_132 0 0 Q (F0 m 234 ls []) := by
                          intro wt_132 H_132 locs_132 hh_132  hi_132 ls hl
                          obtain ⟨hi_132_0, hi_132_1, hi_132_2⟩ := hi_132
                          clear hr_105_2 hr_126_2 hr_131_2
                          refine lv_aload_n hx hb dX14_readNumber_234 rfl (lv_at hl 0 rfl) ?_
                          refine va_callv (A0 := jA base) (H0 := s.heap) (va_runV (As := []) (rest := []) ⟨hx, hb, hml, hown, hts⟩ (uX14_digits l dC dI ca base B hB hAp hB16 hB110 G0 H_132 r0 wt_132 pe) (cwV 0 hts gX14_readNumber_X14_digits rfl rfl rfl (by decide +kernel) ⟨by rw [← hR]; exact Nat.le_of_ble_eq_true rfl, by rw [← hR]; exact Nat.le_of_ble_eq_true rfl⟩) ⟨fun a U g mk q => by obtain ⟨q0, q1, q2, qK, q10, q11, q12⟩ := q; exact ⟨q0, q1, q2, jG.calling g mk a qK, q10, q11, q12⟩, hh_132.recv (C := RX14) (T := TX14) (N := 74) hB16 rfl (by decide) hg_r0 hK, fun U hU hW => ⟨rfl, hU, hh_132.2.1, hG.step hW hU hh_132.1, hg_r0, (hh_132.2.2.1.sub (L1 := [(r0, 16, 29, .int wt_132), (r0, 16, 30, .int pe)]) [0, 4] rfl), by first | omega | (refine ⟨?_, ?_, ?_, ?_, ?_⟩ <;> (first | omega | rfl | assumption | decide | exact Or.inl rfl | exact Or.inr rfl | (simp only; omega)))⟩⟩ rfl rfl hl.1 rfl (lv_room (Nat.le_of_ble_eq_true rfl)) dX14_readNumber_235 ⟨Nat.zero_le _, Nat.zero_le _⟩) hh_132.1 (fun q _ h => h) (fun q h => h) (fun u_133 t_133 H_133 locs_133 ht_133 hvm_133 hr_134 hb_133 hz_133 hk_133 hS_133 => ?_)
                          obtain ⟨qt_133, rfl⟩ : ∃ z, z = u_133 := ⟨_, rfl⟩
                          rw [ht_133] at hb_133
                          obtain ⟨hb_1331, hb_1332, hb_1333, hb_1334, hb_1335⟩ := hb_133
                          have hh_133 : jSt (dC, dI) B base G0 G0 EX14_readNumber s.heap 0 0 [(r0, 16, 29, .int qt_133), (r0, 16, 9, .ref kept_79), (r0, 16, 26, .int qn_1), (r0, 16, 30, .int pe)] [] [] H_133 locs_133 := (hh_132.call hb_1331 hb_1332 hb_1333 hb_1334 hS_133 rfl (L1 := [(r0, 16, 9, .ref kept_79), (r0, 16, 26, .int qn_1), (r0, 16, 30, .int pe)]) [2, 3, 4] rfl rfl (M1 := []) [] rfl rfl (I1 := []) [] rfl rfl).more hb_1335
                          clear hh_132 ht_133 hvm_133 hz_133 hk_133 hS_133 hb_1331 hb_1332 hb_1333 hb_1334 hb_1335
                          obtain ⟨hr_134_0, hr_134_1⟩ := hr_134
                          obtain ⟨v_135, hv_135, hh_136⟩ := hh_133.pin (C := RX14) (T := TX14) (N := 74) hB16 rfl (by decide) hg_r0 (i := 31) (by decide) rfl
                          obtain ⟨bad_137, rfl, hzbad_137⟩ := hv_135
                          have hzbad_137' := jb_01 hzbad_137
                          exact C238 0 qt_133 bad_137 _ _ (hh_136.sub (L1 := [(r0, 16, 29, .int qt_133), (r0, 16, 31, .int bad_137), (r0, 16, 9, .ref kept_79), (r0, 16, 26, .int qn_1), (r0, 16, 30, .int pe)]) [1, 0, 2, 3, 4] rfl (M1 := []) [] rfl (I1 := []) [] rfl) (Or.inl rfl) (by first | omega | (refine ⟨?_, ?_, ?_⟩ <;> (first | omega | rfl | assumption | decide | exact Or.inl rfl | exact Or.inr rfl | (simp only; omega)))) _ (lv_sub hl [0, 1, 2, 3, 4, 5] rfl)
                        refine lv_icmp_eq (tgt := 224) hx hb dX14_readNumber_212 (by decide) (fun c_138 => ?_) (fun c_138 => ?_)
                        · skip
                          have c_138' : r_131.toInt = 43 := jb_eq (rfl) ((by decide)) c_138
                          first | replace hr_131_2 := hr_131_2.resolve_left (by omega) | replace hr_131_2 := hr_131_2.resolve_right (by omega) | skip
                          refine lv_aload_n hx hb dX14_readNumber_224 rfl (lv_at hl 1 rfl) ?_
                          refine lv_dup hx hb dX14_readNumber_225 rfl ?_
                          refine j7_read hx hb hown hK (C := RX14) (T := TX14) (N := 74) rfl hly_16_29 (hts (.fieldLink RX14 273 "ProofServerModel" "at" "I") (by decide +kernel)) (hh_130.at 0 rfl) dX14_readNumber_226 ?_
                          refine lv_iconst (v := 1) hx hb dX14_readNumber_229 (by decide) ?_
                          refine lv_iadd hx hb dX14_readNumber_230 ?_
                          refine lv_topi (fun z_139 ez_139 => ?_)
                          have hz_139 : z_139.toInt = z_128.toInt + 1 := by rw [ez_139]; exact jb_iadd2 (rfl) ((by decide)) (by omega)
                          refine j7_put hx hb hown hK hh_130 hB hAp hB16 (C := RX14) (T := TX14) (N := 74) rfl (by decide) hg_r0 (i := 29) (by decide) hly_16_29 rfl (hts (.fieldLink RX14 273 "ProofServerModel" "at" "I") (by decide +kernel)) rfl (ty := .int) (v := .int z_139) (by decide +kernel) rfl rfl (⟨_, rfl, by omega, by omega⟩) rfl (L1 := [(r0, 16, 31, .int wb_85), (r0, 16, 9, .ref kept_79), (r0, 16, 26, .int qn_1), (r0, 16, 30, .int pe)]) [1, 2, 3, 4] rfl rfl rfl dX14_readNumber_231 (fun H_140 locs_140 hh_140 => ?_)
                          clear hh_130
                          exact C234 z_139 _ _ hh_140 (by first | omega | (refine ⟨?_, ?_, ?_⟩ <;> (first | omega | rfl | assumption | decide | exact Or.inl rfl | exact Or.inr rfl | (simp only; omega)))) _ (lv_sub hl [1, 2, 3, 4, 5, 0] rfl)
                        · skip
                          have c_138' : r_131.toInt ≠ 43 := jb_eq_n (rfl) ((by decide)) c_138
                          first | replace hr_131_2 := hr_131_2.resolve_left (by omega) | replace hr_131_2 := hr_131_2.resolve_right (by omega) | skip
                          refine lv_aload_n hx hb dX14_readNumber_215 rfl (lv_at hl 1 rfl) ?_
                          refine va_calli (A0 := jA base) (H0 := s.heap) (va_runV (As := []) (rest := []) ⟨hx, hb, hml, hown, hts⟩ (uX14_here l dC dI ca base B hB hAp hB16 hB110 G0 H_130 r0 z_128 pe) (cwV 0 hts gX14_readNumber_X14_here rfl rfl rfl (by decide +kernel) ⟨by rw [← hR]; exact Nat.le_of_ble_eq_true rfl, by rw [← hR]; exact Nat.le_of_ble_eq_true rfl⟩) ⟨fun a U g mk q => by obtain ⟨q0, q1, q2, qK, q10, q11, q12⟩ := q; exact ⟨q0, q1, q2, jG.calling g mk a qK, q10, q11, q12⟩, hh_130.recv (C := RX14) (T := TX14) (N := 74) hB16 rfl (by decide) hg_r0 hK, fun U hU hW => ⟨rfl, hU, hh_130.2.1, hG.step hW hU hh_130.1, hg_r0, (hh_130.2.2.1.sub (L1 := [(r0, 16, 29, .int z_128), (r0, 16, 30, .int pe)]) [0, 4] rfl), by first | omega | (refine ⟨?_, ?_, ?_, ?_⟩ <;> (first | omega | rfl | assumption | decide | exact Or.inl rfl | exact Or.inr rfl | (simp only; omega)))⟩⟩ rfl rfl hl.1 rfl (lv_room (Nat.le_of_ble_eq_true rfl)) dX14_readNumber_216 ⟨Nat.zero_le _, Nat.zero_le _⟩) hh_130.1 (fun q _ h => h) (fun q h => h) (fun r_142 u_141 t_141 H_141 locs_141 ht_141 hvm_141 hr_142 hb_141 hz_141 hk_141 hS_141 => ?_)
                          rw [ht_141] at hb_141
                          obtain ⟨hb_1411, hb_1412, hb_1413, hb_1414, hb_1415⟩ := hb_141
                          have hh_141 : jSt (dC, dI) B base G0 G0 EX14_readNumber s.heap 0 0 [(r0, 16, 29, .int z_128), (r0, 16, 31, .int wb_85), (r0, 16, 9, .ref kept_79), (r0, 16, 26, .int qn_1), (r0, 16, 30, .int pe)] [] [] H_141 locs_141 := (hh_130.call hb_1411 hb_1412 hb_1413 hb_1414 hS_141 rfl (L1 := [(r0, 16, 29, .int z_128), (r0, 16, 31, .int wb_85), (r0, 16, 9, .ref kept_79), (r0, 16, 26, .int qn_1), (r0, 16, 30, .int pe)]) [0, 1, 2, 3, 4] rfl rfl (M1 := []) [] rfl rfl (I1 := []) [] rfl rfl).more hb_1415
                          clear hh_130 ht_141 hvm_141 hz_141 hk_141 hS_141 hb_1411 hb_1412 hb_1413 hb_1414 hb_1415
                          obtain ⟨hr_142_0, hr_142_1, hr_142_2⟩ := hr_142
                          refine lv_bipush (v := 45) hx hb dX14_readNumber_219 (by decide) ?_
                          refine lv_icmp_ne (tgt := 234) hx hb dX14_readNumber_221 (by decide) (fun c_143 => ?_) (fun c_143 => ?_)
                          · skip
                            have c_143' : r_142.toInt ≠ 45 := jb_ne (rfl) ((by decide)) c_143
                            first | replace hr_142_2 := hr_142_2.resolve_left (by omega) | replace hr_142_2 := hr_142_2.resolve_right (by omega) | skip
                            exact C234 z_128 _ _ hh_141 (by first | omega | (refine ⟨?_, ?_, ?_⟩ <;> (first | omega | rfl | assumption | decide | exact Or.inl rfl | exact Or.inr rfl | (simp only; omega)))) _ (lv_sub hl [1, 2, 3, 4, 5, 0] rfl)
                          · skip
                            have c_143' : r_142.toInt = 45 := jb_ne_n (rfl) ((by decide)) c_143
                            first | replace hr_142_2 := hr_142_2.resolve_left (by omega) | replace hr_142_2 := hr_142_2.resolve_right (by omega) | skip
                            refine lv_aload_n hx hb dX14_readNumber_224 rfl (lv_at hl 1 rfl) ?_
                            refine lv_dup hx hb dX14_readNumber_225 rfl ?_
                            refine j7_read hx hb hown hK (C := RX14) (T := TX14) (N := 74) rfl hly_16_29 (hts (.fieldLink RX14 273 "ProofServerModel" "at" "I") (by decide +kernel)) (hh_141.at 0 rfl) dX14_readNumber_226 ?_
                            refine lv_iconst (v := 1) hx hb dX14_readNumber_229 (by decide) ?_
                            refine lv_iadd hx hb dX14_readNumber_230 ?_
                            refine lv_topi (fun z_144 ez_144 => ?_)
                            have hz_144 : z_144.toInt = z_128.toInt + 1 := by rw [ez_144]; exact jb_iadd2 (rfl) ((by decide)) (by omega)
                            refine j7_put hx hb hown hK hh_141 hB hAp hB16 (C := RX14) (T := TX14) (N := 74) rfl (by decide) hg_r0 (i := 29) (by decide) hly_16_29 rfl (hts (.fieldLink RX14 273 "ProofServerModel" "at" "I") (by decide +kernel)) rfl (ty := .int) (v := .int z_144) (by decide +kernel) rfl rfl (⟨_, rfl, by omega, by omega⟩) rfl (L1 := [(r0, 16, 31, .int wb_85), (r0, 16, 9, .ref kept_79), (r0, 16, 26, .int qn_1), (r0, 16, 30, .int pe)]) [1, 2, 3, 4] rfl rfl rfl dX14_readNumber_231 (fun H_145 locs_145 hh_145 => ?_)
                            clear hh_141
                            exact C234 z_144 _ _ hh_145 (by first | omega | (refine ⟨?_, ?_, ?_⟩ <;> (first | omega | rfl | assumption | decide | exact Or.inl rfl | exact Or.inr rfl | (simp only; omega)))) _ (lv_sub hl [1, 2, 3, 4, 5, 0] rfl)
                refine lv_if_ne (tgt := 168) hx hb dX14_readNumber_139 (by decide) (fun c_146 => ?_) (fun c_146 => ?_)
                · skip
                  have c_146' : bad_84.toInt ≠ 0 := jb_ne (rfl) ((by decide)) c_146
                  exact C168 1 wt_7 bad_84 _ _ (hh_83.sub (L1 := [(r0, 16, 29, .int wt_7), (r0, 16, 31, .int bad_84), (r0, 16, 9, .ref kept_79), (r0, 16, 26, .int qn_1), (r0, 16, 30, .int pe)]) [2, 0, 1, 3, 4] rfl (M1 := []) [] rfl (I1 := []) [] rfl) (Or.inr rfl) (by first | omega | (refine ⟨?_, ?_, ?_⟩ <;> (first | omega | rfl | assumption | decide | exact Or.inl rfl | exact Or.inr rfl | (simp only; omega)))) _ (lv_sub hl [1, 2, 3, 4, 5, 0] rfl)
                · skip
                  have c_146' : bad_84.toInt = 0 := jb_ne_n (rfl) ((by decide)) c_146
                  refine lv_aload_n hx hb dX14_readNumber_142 rfl (lv_at hl 1 rfl) ?_
                  refine va_calli (A0 := jA base) (H0 := s.heap) (va_runV (As := []) (rest := []) ⟨hx, hb, hml, hown, hts⟩ (uX14_here l dC dI ca base B hB hAp hB16 hB110 G0 H_10 r0 wt_7 pe) (cwV 0 hts gX14_readNumber_X14_here rfl rfl rfl (by decide +kernel) ⟨by rw [← hR]; exact Nat.le_of_ble_eq_true rfl, by rw [← hR]; exact Nat.le_of_ble_eq_true rfl⟩) ⟨fun a U g mk q => by obtain ⟨q0, q1, q2, qK, q10, q11, q12⟩ := q; exact ⟨q0, q1, q2, jG.calling g mk a qK, q10, q11, q12⟩, hh_83.recv (C := RX14) (T := TX14) (N := 74) hB16 rfl (by decide) hg_r0 hK, fun U hU hW => ⟨rfl, hU, hh_83.2.1, hG.step hW hU hh_83.1, hg_r0, (hh_83.2.2.1.sub (L1 := [(r0, 16, 29, .int wt_7), (r0, 16, 30, .int pe)]) [2, 4] rfl), by first | omega | (refine ⟨?_, ?_, ?_, ?_⟩ <;> (first | omega | rfl | assumption | decide | exact Or.inl rfl | exact Or.inr rfl | (simp only; omega)))⟩⟩ rfl rfl hl.1 rfl (lv_room (Nat.le_of_ble_eq_true rfl)) dX14_readNumber_143 ⟨Nat.zero_le _, Nat.zero_le _⟩) hh_83.1 (fun q _ h => h) (fun q h => h) (fun r_148 u_147 t_147 H_147 locs_147 ht_147 hvm_147 hr_148 hb_147 hz_147 hk_147 hS_147 => ?_)
                  rw [ht_147] at hb_147
                  obtain ⟨hb_1471, hb_1472, hb_1473, hb_1474, hb_1475⟩ := hb_147
                  have hh_147 : jSt (dC, dI) B base G0 G0 EX14_readNumber s.heap 0 0 [(r0, 16, 31, .int bad_84), (r0, 16, 9, .ref kept_79), (r0, 16, 29, .int wt_7), (r0, 16, 26, .int qn_1), (r0, 16, 30, .int pe)] [] [] H_147 locs_147 := (hh_83.call hb_1471 hb_1472 hb_1473 hb_1474 hS_147 rfl (L1 := [(r0, 16, 31, .int bad_84), (r0, 16, 9, .ref kept_79), (r0, 16, 29, .int wt_7), (r0, 16, 26, .int qn_1), (r0, 16, 30, .int pe)]) [0, 1, 2, 3, 4] rfl rfl (M1 := []) [] rfl rfl (I1 := []) [] rfl rfl).more hb_1475
                  clear hh_83 ht_147 hvm_147 hz_147 hk_147 hS_147 hb_1471 hb_1472 hb_1473 hb_1474 hb_1475
                  obtain ⟨hr_148_0, hr_148_1, hr_148_2⟩ := hr_148
                  refine lv_bipush (v := 46) hx hb dX14_readNumber_146 (by decide) ?_
                  refine lv_icmp_ne (tgt := 168) hx hb dX14_readNumber_148 (by decide) (fun c_149 => ?_) (fun c_149 => ?_)
                  · skip
                    have c_149' : r_148.toInt ≠ 46 := jb_ne (rfl) ((by decide)) c_149
                    first | replace hr_148_2 := hr_148_2.resolve_left (by omega) | replace hr_148_2 := hr_148_2.resolve_right (by omega) | skip
                    exact C168 1 wt_7 bad_84 _ _ (hh_147.sub (L1 := [(r0, 16, 29, .int wt_7), (r0, 16, 31, .int bad_84), (r0, 16, 9, .ref kept_79), (r0, 16, 26, .int qn_1), (r0, 16, 30, .int pe)]) [2, 0, 1, 3, 4] rfl (M1 := []) [] rfl (I1 := []) [] rfl) (Or.inr rfl) (by first | omega | (refine ⟨?_, ?_, ?_⟩ <;> (first | omega | rfl | assumption | decide | exact Or.inl rfl | exact Or.inr rfl | (simp only; omega)))) _ (lv_sub hl [1, 2, 3, 4, 5, 0] rfl)
                  · skip
                    have c_149' : r_148.toInt = 46 := jb_ne_n (rfl) ((by decide)) c_149
                    first | replace hr_148_2 := hr_148_2.resolve_left (by omega) | replace hr_148_2 := hr_148_2.resolve_right (by omega) | skip
                    refine lv_iconst (v := 0) hx hb dX14_readNumber_151 (by decide) ?_
                    refine lv_istore (lv' := [(6, .int 0), (0, .ref r0), (1, .int r_2), (2, .int 0), (3, .int wt_6), (4, .long v4_7)]) hx hb dX14_readNumber_152 hl (by decide) rfl (fun ls hl => ?_)
                    refine lv_aload_n hx hb dX14_readNumber_154 rfl (lv_at hl 1 rfl) ?_
                    refine lv_dup hx hb dX14_readNumber_155 rfl ?_
                    refine j7_read hx hb hown hK (C := RX14) (T := TX14) (N := 74) rfl hly_16_29 (hts (.fieldLink RX14 273 "ProofServerModel" "at" "I") (by decide +kernel)) (hh_147.at 2 rfl) dX14_readNumber_156 ?_
                    refine lv_iconst (v := 1) hx hb dX14_readNumber_159 (by decide) ?_
                    refine lv_iadd hx hb dX14_readNumber_160 ?_
                    refine lv_topi (fun z_150 ez_150 => ?_)
                    have hz_150 : z_150.toInt = wt_7.toInt + 1 := by rw [ez_150]; exact jb_iadd2 (rfl) ((by decide)) (by omega)
                    refine j7_put hx hb hown hK hh_147 hB hAp hB16 (C := RX14) (T := TX14) (N := 74) rfl (by decide) hg_r0 (i := 29) (by decide) hly_16_29 rfl (hts (.fieldLink RX14 273 "ProofServerModel" "at" "I") (by decide +kernel)) rfl (ty := .int) (v := .int z_150) (by decide +kernel) rfl rfl (⟨_, rfl, by omega, by omega⟩) rfl (L1 := [(r0, 16, 31, .int bad_84), (r0, 16, 9, .ref kept_79), (r0, 16, 26, .int qn_1), (r0, 16, 30, .int pe)]) [0, 1, 3, 4] rfl rfl rfl dX14_readNumber_161 (fun H_151 locs_151 hh_151 => ?_)
                    clear hh_147
                    refine lv_aload_n hx hb dX14_readNumber_164 rfl (lv_at hl 1 rfl) ?_
                    refine va_callv (A0 := jA base) (H0 := s.heap) (va_runV (As := []) (rest := []) ⟨hx, hb, hml, hown, hts⟩ (uX14_digits l dC dI ca base B hB hAp hB16 hB110 G0 H_151 r0 z_150 pe) (cwV 0 hts gX14_readNumber_X14_digits rfl rfl rfl (by decide +kernel) ⟨by rw [← hR]; exact Nat.le_of_ble_eq_true rfl, by rw [← hR]; exact Nat.le_of_ble_eq_true rfl⟩) ⟨fun a U g mk q => by obtain ⟨q0, q1, q2, qK, q10, q11, q12⟩ := q; exact ⟨q0, q1, q2, jG.calling g mk a qK, q10, q11, q12⟩, hh_151.recv (C := RX14) (T := TX14) (N := 74) hB16 rfl (by decide) hg_r0 hK, fun U hU hW => ⟨rfl, hU, hh_151.2.1, hG.step hW hU hh_151.1, hg_r0, (hh_151.2.2.1.sub (L1 := [(r0, 16, 29, .int z_150), (r0, 16, 30, .int pe)]) [0, 4] rfl), by first | omega | (refine ⟨?_, ?_, ?_, ?_, ?_⟩ <;> (first | omega | rfl | assumption | decide | exact Or.inl rfl | exact Or.inr rfl | (simp only; omega)))⟩⟩ rfl rfl hl.1 rfl (lv_room (Nat.le_of_ble_eq_true rfl)) dX14_readNumber_165 ⟨Nat.zero_le _, Nat.zero_le _⟩) hh_151.1 (fun q _ h => h) (fun q h => h) (fun u_152 t_152 H_152 locs_152 ht_152 hvm_152 hr_153 hb_152 hz_152 hk_152 hS_152 => ?_)
                    obtain ⟨qt_152, rfl⟩ : ∃ z, z = u_152 := ⟨_, rfl⟩
                    rw [ht_152] at hb_152
                    obtain ⟨hb_1521, hb_1522, hb_1523, hb_1524, hb_1525⟩ := hb_152
                    have hh_152 : jSt (dC, dI) B base G0 G0 EX14_readNumber s.heap 0 0 [(r0, 16, 29, .int qt_152), (r0, 16, 9, .ref kept_79), (r0, 16, 26, .int qn_1), (r0, 16, 30, .int pe)] [] [] H_152 locs_152 := (hh_151.call hb_1521 hb_1522 hb_1523 hb_1524 hS_152 rfl (L1 := [(r0, 16, 9, .ref kept_79), (r0, 16, 26, .int qn_1), (r0, 16, 30, .int pe)]) [2, 3, 4] rfl rfl (M1 := []) [] rfl rfl (I1 := []) [] rfl rfl).more hb_1525
                    clear hh_151 ht_152 hvm_152 hz_152 hk_152 hS_152 hb_1521 hb_1522 hb_1523 hb_1524 hb_1525
                    obtain ⟨hr_153_0, hr_153_1⟩ := hr_153
                    obtain ⟨v_154, hv_154, hh_155⟩ := hh_152.pin (C := RX14) (T := TX14) (N := 74) hB16 rfl (by decide) hg_r0 (i := 31) (by decide) rfl
                    obtain ⟨bad_156, rfl, hzbad_156⟩ := hv_154
                    have hzbad_156' := jb_01 hzbad_156
                    exact C168 0 qt_152 bad_156 _ _ (hh_155.sub (L1 := [(r0, 16, 29, .int qt_152), (r0, 16, 31, .int bad_156), (r0, 16, 9, .ref kept_79), (r0, 16, 26, .int qn_1), (r0, 16, 30, .int pe)]) [1, 0, 2, 3, 4] rfl (M1 := []) [] rfl (I1 := []) [] rfl) (Or.inl rfl) (by first | omega | (refine ⟨?_, ?_, ?_⟩ <;> (first | omega | rfl | assumption | decide | exact Or.inl rfl | exact Or.inr rfl | (simp only; omega)))) _ (lv_sub hl [1, 2, 3, 4, 5, 0] rfl)
              · skip
                have c_81' : z_80.toInt = 48 := jb_ne_n (rfl) ((by decide)) c_81
                refine lv_aload_n hx hb dX14_readNumber_117 rfl (lv_at hl 0 rfl) ?_
                refine j7_read hx hb hown hK (C := RX14) (T := TX14) (N := 74) rfl hly_16_29 (hts (.fieldLink RX14 273 "ProofServerModel" "at" "I") (by decide +kernel)) (hh_78.at 1 rfl) dX14_readNumber_118 ?_
                refine lv_iload_n hx hb dX14_readNumber_121 rfl (lv_at hl 3 rfl) ?_
                refine lv_isub hx hb dX14_readNumber_122 ?_
                refine lv_topi (fun z_157 ez_157 => ?_)
                have hz_157 : z_157.toInt = wt_7.toInt - wt_6.toInt := by rw [ez_157]; exact jb_isub2 (rfl) (rfl) (by omega)
                refine lv_iconst (v := 1) hx hb dX14_readNumber_123 (by decide) ?_
                refine lv_icmp_le (tgt := 132) hx hb dX14_readNumber_124 (by decide) (fun c_158 => ?_) (fun c_158 => ?_)
                · skip
                  have c_158' : z_157.toInt ≤ 1 := jb_le (rfl) ((by decide)) c_158
                  refine lv_iconst (v := 1) hx hb dX14_readNumber_132 (by decide) ?_
                  refine lv_istore (lv' := [(6, .int 1), (0, .ref r0), (1, .int r_2), (2, .int 0), (3, .int wt_6), (4, .long v4_7)]) hx hb dX14_readNumber_133 hl (by decide) rfl (fun ls hl => ?_)
                  refine lv_aload_n hx hb dX14_readNumber_135 rfl (lv_at hl 1 rfl) ?_
                  obtain ⟨v_159, hv_159, hh_160⟩ := hh_78.pin (C := RX14) (T := TX14) (N := 74) hB16 rfl (by decide) hg_r0 (i := 31) (by decide) rfl
                  clear hh_78
                  obtain ⟨bad_161, rfl, hzbad_161⟩ := hv_159
                  have hzbad_161' := jb_01 hzbad_161
                  refine j7_read hx hb hown hK (C := RX14) (T := TX14) (N := 74) rfl hly_16_31 (hts (.fieldLink RX14 288 "ProofServerModel" "bad" "Z") (by decide +kernel)) (hh_160.at 0 rfl) dX14_readNumber_136 ?_
                  have C168 : ∀ (v6_162 : Int32) (wt_162 : Int32) (wb_162 : Int32) (H_162 : Heap) (locs_162 : List Loc), jSt (dC, dI) B base G0 G0 EX14_readNumber s.heap 0 0 [(r0, 16, 29, .int wt_162), (r0, 16, 31, .int wb_162), (r0, 16, 9, .ref kept_79), (r0, 16, 26, .int qn_1), (r0, 16, 30, .int pe)] [] [] H_162 locs_162 → (v6_162 = 0 ∨ v6_162 = 1) → (pt.toInt ≤ wt_162.toInt ∧ wt_162.toInt ≤ pe.toInt ∧ (wb_162.toInt = 1 ∨ pt.toInt + 1 ≤ wt_162.toInt)) → ∀ ls : Array Slot, lv_has ls 9 [(0, .ref r0), (1, .int r_2), (2, .int 0), (3, .int wt_6), (4, .long v4_7), (6, .int v6_162)] → W p l e R s m ([.ref r0] : List Value).toArray below meth c H_162 locs_162 0 0 Q (F0 m 168 ls []) := by
                    intro v6_162 wt_162 wb_162 H_162 locs_162 hh_162 hb_v6_162 hi_162 ls hl
                    obtain ⟨hi_162_0, hi_162_1, hi_162_2⟩ := hi_162
                    have hb_v6_162' := jb_01 hb_v6_162
                    clear hr_9_2
                    refine lv_aload_n hx hb dX14_readNumber_168 rfl (lv_at hl 0 rfl) ?_
                    refine j7_read hx hb hown hK (C := RX14) (T := TX14) (N := 74) rfl hly_16_31 (hts (.fieldLink RX14 288 "ProofServerModel" "bad" "Z") (by decide +kernel)) (hh_162.at 1 rfl) dX14_readNumber_169 ?_
                    have C238 : ∀ (v6_163 : Int32) (wt_163 : Int32) (wb_163 : Int32) (H_163 : Heap) (locs_163 : List Loc), jSt (dC, dI) B base G0 G0 EX14_readNumber s.heap 0 0 [(r0, 16, 29, .int wt_163), (r0, 16, 31, .int wb_163), (r0, 16, 9, .ref kept_79), (r0, 16, 26, .int qn_1), (r0, 16, 30, .int pe)] [] [] H_163 locs_163 → (v6_163 = 0 ∨ v6_163 = 1) → (pt.toInt ≤ wt_163.toInt ∧ wt_163.toInt ≤ pe.toInt ∧ (wb_163.toInt = 1 ∨ pt.toInt + 1 ≤ wt_163.toInt)) → ∀ ls : Array Slot, lv_has ls 9 [(0, .ref r0), (1, .int r_2), (2, .int 0), (3, .int wt_6), (4, .long v4_7), (6, .int v6_163)] → W p l e R s m ([.ref r0] : List Value).toArray below meth c H_163 locs_163 0 0 Q (F0 m 238 ls []) := by
                      intro v6_163 wt_163 wb_163 H_163 locs_163 hh_163 hb_v6_163 hi_163 ls hl
                      obtain ⟨hi_163_0, hi_163_1, hi_163_2⟩ := hi_163
                      have hb_v6_163' := jb_01 hb_v6_163
                      refine lv_iload_n hx hb dX14_readNumber_238 rfl (lv_at hl 2 rfl) ?_
                      refine lv_if_eq (tgt := 248) hx hb dX14_readNumber_239 (by decide) (fun c_164 => ?_) (fun c_164 => ?_)
                      · skip
                        refine lv_lload hx hb dX14_readNumber_248 (lv_at hl 4 rfl) ?_
                        refine lv_lstore (lv' := [(7, .long v4_7), (0, .ref r0), (1, .int r_2), (2, .int 0), (3, .int wt_6), (4, .long v4_7), (6, .int v6_163)]) hx hb dX14_readNumber_250 hl (by decide) rfl (fun ls hl => ?_)
                        refine lv_aload_n hx hb dX14_readNumber_252 rfl (lv_at hl 1 rfl) ?_
                        obtain ⟨v_165, hv_165, hh_166⟩ := hh_163.pin (C := RX14) (T := TX14) (N := 74) hB16 rfl (by decide) hg_r0 (i := 24) (by decide) rfl
                        clear hh_163
                        obtain ⟨isInt_167, rfl, hg_isInt_167⟩ := hv_165
                        refine j7_read hx hb hown hK (C := RX14) (T := TX14) (N := 74) rfl hly_16_24 (hts (.fieldLink RX14 58 "ProofServerModel" "isInt" "[Z") (by decide +kernel)) (hh_166.at 0 rfl) dX14_readNumber_253 ?_
                        refine lv_iload_n hx hb dX14_readNumber_256 rfl (lv_at hl 2 rfl) ?_
                        refine lv_iload hx hb dX14_readNumber_257 (lv_at hl 6 rfl) ?_
                        have C285 : ∀ (w0_168 : Int32) (H_168 : Heap) (locs_168 : List Loc), jSt (dC, dI) B base G0 G0 EX14_readNumber s.heap 0 0 [(r0, 16, 24, .ref isInt_167), (r0, 16, 29, .int wt_163), (r0, 16, 31, .int wb_163), (r0, 16, 9, .ref kept_79), (r0, 16, 26, .int qn_1), (r0, 16, 30, .int pe)] [] [] H_168 locs_168 → (w0_168 = 0 ∨ w0_168 = 1) → (True) → ∀ ls : Array Slot, lv_has ls 9 [(0, .ref r0), (1, .int r_2), (2, .int 0), (3, .int wt_6), (4, .long v4_7), (6, .int v6_163), (7, .long v4_7)] → W p l e R s m ([.ref r0] : List Value).toArray below meth c H_168 locs_168 0 0 Q (F0 m 285 ls [.int w0_168, .int r_2, .ref isInt_167]) := by
                          intro w0_168 H_168 locs_168 hh_168 hb_w0_168 hi_168 ls hl
                          have hb_w0_168' := jb_01 hb_w0_168
                          refine j7_zast hx hb hK hh_168 hB hB124 3 rfl (by decide) (by decide) rfl rfl rfl hg_isInt_167 (rfl) (by omega) (hb_w0_168) (hb_w0_168) dX14_readNumber_285 (fun H_169 locs_169 hh_169 => ?_)
                          clear hh_168
                          refine lv_aload_n hx hb dX14_readNumber_286 rfl (lv_at hl 0 rfl) ?_
                          obtain ⟨v_170, hv_170, hh_171⟩ := hh_169.pin (C := RX14) (T := TX14) (N := 74) hB16 rfl (by decide) hg_r0 (i := 25) (by decide) rfl
                          clear hh_169
                          obtain ⟨ints_172, rfl, hg_ints_172⟩ := hv_170
                          refine j7_read hx hb hown hK (C := RX14) (T := TX14) (N := 74) rfl hly_16_25 (hts (.fieldLink RX14 62 "ProofServerModel" "ints" "[I") (by decide +kernel)) (hh_171.at 0 rfl) dX14_readNumber_287 ?_
                          refine lv_iload_n hx hb dX14_readNumber_290 rfl (lv_at hl 1 rfl) ?_
                          refine lv_lload hx hb dX14_readNumber_291 (lv_at hl 6 rfl) ?_
                          refine lv_l2i hx hb dX14_readNumber_293 rfl ?_
                          refine lv_topi (fun z_173 ez_173 => ?_)
                          refine j7_iast hx hb hK hh_171 hB hB125 1 rfl (by decide) (by decide) rfl rfl rfl hg_ints_172 (rfl) (by omega) (trivial) dX14_readNumber_294 (fun H_174 locs_174 hh_174 => ?_)
                          clear hh_171
                          refine lv_iload_n hx hb dX14_readNumber_295 rfl (lv_at hl 1 rfl) ?_
                          rw [hQ]
                          exact W.iret (v := r_2) hx hb hr (fun t ht hW => ⟨⟨r_2, (wt_163, qn_1, wb_163), rfl, by first | omega | (refine ⟨?_, ?_, ?_, ?_, ?_⟩ <;> (first | omega | rfl | assumption | decide | exact Or.inl rfl | exact Or.inr rfl | (simp only; omega))), hh_174.rt (M1 := [(r0, 16, 29, .int wt_163), (r0, 16, 26, .int qn_1), (r0, 16, 31, .int wb_163)]) [2, 5, 3] rfl ht⟩, by rw [ht]; try exact hh_174.1.1, fun q h9 hq => by rw [ht]; try exact hh_174.1.2.1 q h9 hq⟩) hh_174.1.2.2 dX14_readNumber_296
                        refine lv_if_eq (tgt := 284) hx hb dX14_readNumber_259 (by decide) (fun c_175 => ?_) (fun c_175 => ?_)
                        · skip
                          have c_175' : v6_163.toInt = 0 := jb_eq (rfl) ((by decide)) c_175
                          refine lv_iconst (v := 0) hx hb dX14_readNumber_284 (by decide) ?_
                          exact C285 0 _ _ hh_166 (Or.inl rfl) (trivial) _ (lv_sub hl [1, 2, 3, 4, 5, 6, 0] rfl)
                        · skip
                          have c_175' : v6_163.toInt ≠ 0 := jb_eq_n (rfl) ((by decide)) c_175
                          refine lv_lload hx hb dX14_readNumber_262 (lv_at hl 0 rfl) ?_
                          refine lv_ldc2 hx hb hown (hts (.constantLong RX14 329 (-2147483648)) (by decide +kernel)) dX14_readNumber_264 ?_
                          refine W.lcmp hx hb dX14_readNumber_267 ?_
                          refine lv_topi (fun z_176 ez_176 => ?_)
                          have hz_176 := jb_lcmp ez_176
                          have hqz_176_m2147483648 : ((-2147483648) : Int64).toInt = (-2147483648) := by decide
                          refine lv_if_lt (tgt := 284) hx hb dX14_readNumber_268 (by decide) (fun c_177 => ?_) (fun c_177 => ?_)
                          · skip
                            have c_177' : z_176.toInt < 0 := jb_lt (rfl) ((by decide)) c_177
                            refine lv_iconst (v := 0) hx hb dX14_readNumber_284 (by decide) ?_
                            exact C285 0 _ _ hh_166 (Or.inl rfl) (trivial) _ (lv_sub hl [1, 2, 3, 4, 5, 6, 0] rfl)
                          · skip
                            have c_177' : z_176.toInt ≥ 0 := jb_lt_n (rfl) ((by decide)) c_177
                            refine lv_lload hx hb dX14_readNumber_271 (lv_at hl 0 rfl) ?_
                            refine lv_ldc2 hx hb hown (hts (.constantLong RX14 331 2147483647) (by decide +kernel)) dX14_readNumber_273 ?_
                            refine W.lcmp hx hb dX14_readNumber_276 ?_
                            refine lv_topi (fun z_178 ez_178 => ?_)
                            have hz_178 := jb_lcmp ez_178
                            have hqz_178_2147483647 : (2147483647 : Int64).toInt = 2147483647 := by decide
                            refine lv_if_gt (tgt := 284) hx hb dX14_readNumber_277 (by decide) (fun c_179 => ?_) (fun c_179 => ?_)
                            · skip
                              have c_179' : z_178.toInt > 0 := jb_gt (rfl) ((by decide)) c_179
                              refine lv_iconst (v := 0) hx hb dX14_readNumber_284 (by decide) ?_
                              exact C285 0 _ _ hh_166 (Or.inl rfl) (trivial) _ (lv_sub hl [1, 2, 3, 4, 5, 6, 0] rfl)
                            · skip
                              have c_179' : z_178.toInt ≤ 0 := jb_gt_n (rfl) ((by decide)) c_179
                              refine lv_iconst (v := 1) hx hb dX14_readNumber_280 (by decide) ?_
                              refine lv_goto (tgt := 285) hx hb dX14_readNumber_281 (by decide) ?_
                              exact C285 1 _ _ hh_166 (Or.inr rfl) (trivial) _ (lv_sub hl [1, 2, 3, 4, 5, 6, 0] rfl)
                      · skip
                        exact absurd c_164 (by decide)
                    refine lv_if_ne (tgt := 238) hx hb dX14_readNumber_172 (by decide) (fun c_180 => ?_) (fun c_180 => ?_)
                    · skip
                      have c_180' : wb_162.toInt ≠ 0 := jb_ne (rfl) ((by decide)) c_180
                      exact C238 v6_162 wt_162 wb_162 _ _ hh_162 (hb_v6_162) (by first | omega | (refine ⟨?_, ?_, ?_⟩ <;> (first | omega | rfl | assumption | decide | exact Or.inl rfl | exact Or.inr rfl | (simp only; omega)))) _ (lv_sub hl [0, 1, 2, 3, 4, 5] rfl)
                    · skip
                      have c_180' : wb_162.toInt = 0 := jb_ne_n (rfl) ((by decide)) c_180
                      refine lv_aload_n hx hb dX14_readNumber_175 rfl (lv_at hl 0 rfl) ?_
                      refine va_calli (A0 := jA base) (H0 := s.heap) (va_runV (As := []) (rest := []) ⟨hx, hb, hml, hown, hts⟩ (uX14_here l dC dI ca base B hB hAp hB16 hB110 G0 H_162 r0 wt_162 pe) (cwV 0 hts gX14_readNumber_X14_here rfl rfl rfl (by decide +kernel) ⟨by rw [← hR]; exact Nat.le_of_ble_eq_true rfl, by rw [← hR]; exact Nat.le_of_ble_eq_true rfl⟩) ⟨fun a U g mk q => by obtain ⟨q0, q1, q2, qK, q10, q11, q12⟩ := q; exact ⟨q0, q1, q2, jG.calling g mk a qK, q10, q11, q12⟩, hh_162.recv (C := RX14) (T := TX14) (N := 74) hB16 rfl (by decide) hg_r0 hK, fun U hU hW => ⟨rfl, hU, hh_162.2.1, hG.step hW hU hh_162.1, hg_r0, (hh_162.2.2.1.sub (L1 := [(r0, 16, 29, .int wt_162), (r0, 16, 30, .int pe)]) [0, 4] rfl), by first | omega | (refine ⟨?_, ?_, ?_, ?_⟩ <;> (first | omega | rfl | assumption | decide | exact Or.inl rfl | exact Or.inr rfl | (simp only; omega)))⟩⟩ rfl rfl hl.1 rfl (lv_room (Nat.le_of_ble_eq_true rfl)) dX14_readNumber_176 ⟨Nat.zero_le _, Nat.zero_le _⟩) hh_162.1 (fun q _ h => h) (fun q h => h) (fun r_182 u_181 t_181 H_181 locs_181 ht_181 hvm_181 hr_182 hb_181 hz_181 hk_181 hS_181 => ?_)
                      rw [ht_181] at hb_181
                      obtain ⟨hb_1811, hb_1812, hb_1813, hb_1814, hb_1815⟩ := hb_181
                      have hh_181 : jSt (dC, dI) B base G0 G0 EX14_readNumber s.heap 0 0 [(r0, 16, 29, .int wt_162), (r0, 16, 31, .int wb_162), (r0, 16, 9, .ref kept_79), (r0, 16, 26, .int qn_1), (r0, 16, 30, .int pe)] [] [] H_181 locs_181 := (hh_162.call hb_1811 hb_1812 hb_1813 hb_1814 hS_181 rfl (L1 := [(r0, 16, 29, .int wt_162), (r0, 16, 31, .int wb_162), (r0, 16, 9, .ref kept_79), (r0, 16, 26, .int qn_1), (r0, 16, 30, .int pe)]) [0, 1, 2, 3, 4] rfl rfl (M1 := []) [] rfl rfl (I1 := []) [] rfl rfl).more hb_1815
                      clear hh_162 ht_181 hvm_181 hz_181 hk_181 hS_181 hb_1811 hb_1812 hb_1813 hb_1814 hb_1815
                      obtain ⟨hr_182_0, hr_182_1, hr_182_2⟩ := hr_182
                      refine lv_bipush (v := 101) hx hb dX14_readNumber_179 (by decide) ?_
                      refine lv_icmp_eq (tgt := 193) hx hb dX14_readNumber_181 (by decide) (fun c_183 => ?_) (fun c_183 => ?_)
                      · skip
                        have c_183' : r_182.toInt = 101 := jb_eq (rfl) ((by decide)) c_183
                        first | replace hr_182_2 := hr_182_2.resolve_left (by omega) | replace hr_182_2 := hr_182_2.resolve_right (by omega) | skip
                        refine lv_iconst (v := 0) hx hb dX14_readNumber_193 (by decide) ?_
                        refine lv_istore (lv' := [(6, .int 0), (0, .ref r0), (1, .int r_2), (2, .int 0), (3, .int wt_6), (4, .long v4_7)]) hx hb dX14_readNumber_194 hl (by decide) rfl (fun ls hl => ?_)
                        refine lv_aload_n hx hb dX14_readNumber_196 rfl (lv_at hl 1 rfl) ?_
                        refine lv_dup hx hb dX14_readNumber_197 rfl ?_
                        refine j7_read hx hb hown hK (C := RX14) (T := TX14) (N := 74) rfl hly_16_29 (hts (.fieldLink RX14 273 "ProofServerModel" "at" "I") (by decide +kernel)) (hh_181.at 0 rfl) dX14_readNumber_198 ?_
                        refine lv_iconst (v := 1) hx hb dX14_readNumber_201 (by decide) ?_
                        refine lv_iadd hx hb dX14_readNumber_202 ?_
                        refine lv_topi (fun z_184 ez_184 => ?_)
                        have hz_184 : z_184.toInt = wt_162.toInt + 1 := by rw [ez_184]; exact jb_iadd2 (rfl) ((by decide)) (by omega)
                        refine j7_put hx hb hown hK hh_181 hB hAp hB16 (C := RX14) (T := TX14) (N := 74) rfl (by decide) hg_r0 (i := 29) (by decide) hly_16_29 rfl (hts (.fieldLink RX14 273 "ProofServerModel" "at" "I") (by decide +kernel)) rfl (ty := .int) (v := .int z_184) (by decide +kernel) rfl rfl (⟨_, rfl, by omega, by omega⟩) rfl (L1 := [(r0, 16, 31, .int wb_162), (r0, 16, 9, .ref kept_79), (r0, 16, 26, .int qn_1), (r0, 16, 30, .int pe)]) [1, 2, 3, 4] rfl rfl rfl dX14_readNumber_203 (fun H_185 locs_185 hh_185 => ?_)
                        clear hh_181
                        refine lv_aload_n hx hb dX14_readNumber_206 rfl (lv_at hl 1 rfl) ?_
                        refine va_calli (A0 := jA base) (H0 := s.heap) (va_runV (As := []) (rest := []) ⟨hx, hb, hml, hown, hts⟩ (uX14_here l dC dI ca base B hB hAp hB16 hB110 G0 H_185 r0 z_184 pe) (cwV 0 hts gX14_readNumber_X14_here rfl rfl rfl (by decide +kernel) ⟨by rw [← hR]; exact Nat.le_of_ble_eq_true rfl, by rw [← hR]; exact Nat.le_of_ble_eq_true rfl⟩) ⟨fun a U g mk q => by obtain ⟨q0, q1, q2, qK, q10, q11, q12⟩ := q; exact ⟨q0, q1, q2, jG.calling g mk a qK, q10, q11, q12⟩, hh_185.recv (C := RX14) (T := TX14) (N := 74) hB16 rfl (by decide) hg_r0 hK, fun U hU hW => ⟨rfl, hU, hh_185.2.1, hG.step hW hU hh_185.1, hg_r0, (hh_185.2.2.1.sub (L1 := [(r0, 16, 29, .int z_184), (r0, 16, 30, .int pe)]) [0, 4] rfl), by first | omega | (refine ⟨?_, ?_, ?_, ?_⟩ <;> (first | omega | rfl | assumption | decide | exact Or.inl rfl | exact Or.inr rfl | (simp only; omega)))⟩⟩ rfl rfl hl.1 rfl (lv_room (Nat.le_of_ble_eq_true rfl)) dX14_readNumber_207 ⟨Nat.zero_le _, Nat.zero_le _⟩) hh_185.1 (fun q _ h => h) (fun q h => h) (fun r_187 u_186 t_186 H_186 locs_186 ht_186 hvm_186 hr_187 hb_186 hz_186 hk_186 hS_186 => ?_)
                        rw [ht_186] at hb_186
                        obtain ⟨hb_1861, hb_1862, hb_1863, hb_1864, hb_1865⟩ := hb_186
                        have hh_186 : jSt (dC, dI) B base G0 G0 EX14_readNumber s.heap 0 0 [(r0, 16, 29, .int z_184), (r0, 16, 31, .int wb_162), (r0, 16, 9, .ref kept_79), (r0, 16, 26, .int qn_1), (r0, 16, 30, .int pe)] [] [] H_186 locs_186 := (hh_185.call hb_1861 hb_1862 hb_1863 hb_1864 hS_186 rfl (L1 := [(r0, 16, 29, .int z_184), (r0, 16, 31, .int wb_162), (r0, 16, 9, .ref kept_79), (r0, 16, 26, .int qn_1), (r0, 16, 30, .int pe)]) [0, 1, 2, 3, 4] rfl rfl (M1 := []) [] rfl rfl (I1 := []) [] rfl rfl).more hb_1865
                        clear hh_185 ht_186 hvm_186 hz_186 hk_186 hS_186 hb_1861 hb_1862 hb_1863 hb_1864 hb_1865
                        obtain ⟨hr_187_0, hr_187_1, hr_187_2⟩ := hr_187
                        refine lv_bipush (v := 43) hx hb dX14_readNumber_210 (by decide) ?_
                        have C234 : ∀ (wt_188 : Int32) (H_188 : Heap) (locs_188 : List Loc), jSt (dC, dI) B base G0 G0 EX14_readNumber s.heap 0 0 [(r0, 16, 29, .int wt_188), (r0, 16, 31, .int wb_162), (r0, 16, 9, .ref kept_79), (r0, 16, 26, .int qn_1), (r0, 16, 30, .int pe)] [] [] H_188 locs_188 → (pt.toInt ≤ wt_188.toInt ∧ wt_188.toInt ≤ pe.toInt ∧ pt.toInt + 1 ≤ wt_188.toInt) → ∀ ls : Array Slot, lv_has ls 9 [(0, .ref r0), (1, .int r_2), (2, .int 0), (3, .int wt_6), (4, .long v4_7), (6, .int 0)] → W p l e R s m ([.ref r0] : List Value).toArray below meth c H_188 locs_188 0 0 Q (F0 m 234 ls []) := by
                          intro wt_188 H_188 locs_188 hh_188  hi_188 ls hl
                          obtain ⟨hi_188_0, hi_188_1, hi_188_2⟩ := hi_188
                          clear hr_182_2 hr_187_2
                          refine lv_aload_n hx hb dX14_readNumber_234 rfl (lv_at hl 0 rfl) ?_
                          refine va_callv (A0 := jA base) (H0 := s.heap) (va_runV (As := []) (rest := []) ⟨hx, hb, hml, hown, hts⟩ (uX14_digits l dC dI ca base B hB hAp hB16 hB110 G0 H_188 r0 wt_188 pe) (cwV 0 hts gX14_readNumber_X14_digits rfl rfl rfl (by decide +kernel) ⟨by rw [← hR]; exact Nat.le_of_ble_eq_true rfl, by rw [← hR]; exact Nat.le_of_ble_eq_true rfl⟩) ⟨fun a U g mk q => by obtain ⟨q0, q1, q2, qK, q10, q11, q12⟩ := q; exact ⟨q0, q1, q2, jG.calling g mk a qK, q10, q11, q12⟩, hh_188.recv (C := RX14) (T := TX14) (N := 74) hB16 rfl (by decide) hg_r0 hK, fun U hU hW => ⟨rfl, hU, hh_188.2.1, hG.step hW hU hh_188.1, hg_r0, (hh_188.2.2.1.sub (L1 := [(r0, 16, 29, .int wt_188), (r0, 16, 30, .int pe)]) [0, 4] rfl), by first | omega | (refine ⟨?_, ?_, ?_, ?_, ?_⟩ <;> (first | omega | rfl | assumption | decide | exact Or.inl rfl | exact Or.inr rfl | (simp only; omega)))⟩⟩ rfl rfl hl.1 rfl (lv_room (Nat.le_of_ble_eq_true rfl)) dX14_readNumber_235 ⟨Nat.zero_le _, Nat.zero_le _⟩) hh_188.1 (fun q _ h => h) (fun q h => h) (fun u_189 t_189 H_189 locs_189 ht_189 hvm_189 hr_190 hb_189 hz_189 hk_189 hS_189 => ?_)
                          obtain ⟨qt_189, rfl⟩ : ∃ z, z = u_189 := ⟨_, rfl⟩
                          rw [ht_189] at hb_189
                          obtain ⟨hb_1891, hb_1892, hb_1893, hb_1894, hb_1895⟩ := hb_189
                          have hh_189 : jSt (dC, dI) B base G0 G0 EX14_readNumber s.heap 0 0 [(r0, 16, 29, .int qt_189), (r0, 16, 9, .ref kept_79), (r0, 16, 26, .int qn_1), (r0, 16, 30, .int pe)] [] [] H_189 locs_189 := (hh_188.call hb_1891 hb_1892 hb_1893 hb_1894 hS_189 rfl (L1 := [(r0, 16, 9, .ref kept_79), (r0, 16, 26, .int qn_1), (r0, 16, 30, .int pe)]) [2, 3, 4] rfl rfl (M1 := []) [] rfl rfl (I1 := []) [] rfl rfl).more hb_1895
                          clear hh_188 ht_189 hvm_189 hz_189 hk_189 hS_189 hb_1891 hb_1892 hb_1893 hb_1894 hb_1895
                          obtain ⟨hr_190_0, hr_190_1⟩ := hr_190
                          obtain ⟨v_191, hv_191, hh_192⟩ := hh_189.pin (C := RX14) (T := TX14) (N := 74) hB16 rfl (by decide) hg_r0 (i := 31) (by decide) rfl
                          obtain ⟨bad_193, rfl, hzbad_193⟩ := hv_191
                          have hzbad_193' := jb_01 hzbad_193
                          exact C238 0 qt_189 bad_193 _ _ (hh_192.sub (L1 := [(r0, 16, 29, .int qt_189), (r0, 16, 31, .int bad_193), (r0, 16, 9, .ref kept_79), (r0, 16, 26, .int qn_1), (r0, 16, 30, .int pe)]) [1, 0, 2, 3, 4] rfl (M1 := []) [] rfl (I1 := []) [] rfl) (Or.inl rfl) (by first | omega | (refine ⟨?_, ?_, ?_⟩ <;> (first | omega | rfl | assumption | decide | exact Or.inl rfl | exact Or.inr rfl | (simp only; omega)))) _ (lv_sub hl [0, 1, 2, 3, 4, 5] rfl)
                        refine lv_icmp_eq (tgt := 224) hx hb dX14_readNumber_212 (by decide) (fun c_194 => ?_) (fun c_194 => ?_)
                        · skip
                          have c_194' : r_187.toInt = 43 := jb_eq (rfl) ((by decide)) c_194
                          first | replace hr_187_2 := hr_187_2.resolve_left (by omega) | replace hr_187_2 := hr_187_2.resolve_right (by omega) | skip
                          refine lv_aload_n hx hb dX14_readNumber_224 rfl (lv_at hl 1 rfl) ?_
                          refine lv_dup hx hb dX14_readNumber_225 rfl ?_
                          refine j7_read hx hb hown hK (C := RX14) (T := TX14) (N := 74) rfl hly_16_29 (hts (.fieldLink RX14 273 "ProofServerModel" "at" "I") (by decide +kernel)) (hh_186.at 0 rfl) dX14_readNumber_226 ?_
                          refine lv_iconst (v := 1) hx hb dX14_readNumber_229 (by decide) ?_
                          refine lv_iadd hx hb dX14_readNumber_230 ?_
                          refine lv_topi (fun z_195 ez_195 => ?_)
                          have hz_195 : z_195.toInt = z_184.toInt + 1 := by rw [ez_195]; exact jb_iadd2 (rfl) ((by decide)) (by omega)
                          refine j7_put hx hb hown hK hh_186 hB hAp hB16 (C := RX14) (T := TX14) (N := 74) rfl (by decide) hg_r0 (i := 29) (by decide) hly_16_29 rfl (hts (.fieldLink RX14 273 "ProofServerModel" "at" "I") (by decide +kernel)) rfl (ty := .int) (v := .int z_195) (by decide +kernel) rfl rfl (⟨_, rfl, by omega, by omega⟩) rfl (L1 := [(r0, 16, 31, .int wb_162), (r0, 16, 9, .ref kept_79), (r0, 16, 26, .int qn_1), (r0, 16, 30, .int pe)]) [1, 2, 3, 4] rfl rfl rfl dX14_readNumber_231 (fun H_196 locs_196 hh_196 => ?_)
                          clear hh_186
                          exact C234 z_195 _ _ hh_196 (by first | omega | (refine ⟨?_, ?_, ?_⟩ <;> (first | omega | rfl | assumption | decide | exact Or.inl rfl | exact Or.inr rfl | (simp only; omega)))) _ (lv_sub hl [1, 2, 3, 4, 5, 0] rfl)
                        · skip
                          have c_194' : r_187.toInt ≠ 43 := jb_eq_n (rfl) ((by decide)) c_194
                          first | replace hr_187_2 := hr_187_2.resolve_left (by omega) | replace hr_187_2 := hr_187_2.resolve_right (by omega) | skip
                          refine lv_aload_n hx hb dX14_readNumber_215 rfl (lv_at hl 1 rfl) ?_
                          refine va_calli (A0 := jA base) (H0 := s.heap) (va_runV (As := []) (rest := []) ⟨hx, hb, hml, hown, hts⟩ (uX14_here l dC dI ca base B hB hAp hB16 hB110 G0 H_186 r0 z_184 pe) (cwV 0 hts gX14_readNumber_X14_here rfl rfl rfl (by decide +kernel) ⟨by rw [← hR]; exact Nat.le_of_ble_eq_true rfl, by rw [← hR]; exact Nat.le_of_ble_eq_true rfl⟩) ⟨fun a U g mk q => by obtain ⟨q0, q1, q2, qK, q10, q11, q12⟩ := q; exact ⟨q0, q1, q2, jG.calling g mk a qK, q10, q11, q12⟩, hh_186.recv (C := RX14) (T := TX14) (N := 74) hB16 rfl (by decide) hg_r0 hK, fun U hU hW => ⟨rfl, hU, hh_186.2.1, hG.step hW hU hh_186.1, hg_r0, (hh_186.2.2.1.sub (L1 := [(r0, 16, 29, .int z_184), (r0, 16, 30, .int pe)]) [0, 4] rfl), by first | omega | (refine ⟨?_, ?_, ?_, ?_⟩ <;> (first | omega | rfl | assumption | decide | exact Or.inl rfl | exact Or.inr rfl | (simp only; omega)))⟩⟩ rfl rfl hl.1 rfl (lv_room (Nat.le_of_ble_eq_true rfl)) dX14_readNumber_216 ⟨Nat.zero_le _, Nat.zero_le _⟩) hh_186.1 (fun q _ h => h) (fun q h => h) (fun r_198 u_197 t_197 H_197 locs_197 ht_197 hvm_197 hr_198 hb_197 hz_197 hk_197 hS_197 => ?_)
                          rw [ht_197] at hb_197
                          obtain ⟨hb_1971, hb_1972, hb_1973, hb_1974, hb_1975⟩ := hb_197
                          have hh_197 : jSt (dC, dI) B base G0 G0 EX14_readNumber s.heap 0 0 [(r0, 16, 29, .int z_184), (r0, 16, 31, .int wb_162), (r0, 16, 9, .ref kept_79), (r0, 16, 26, .int qn_1), (r0, 16, 30, .int pe)] [] [] H_197 locs_197 := (hh_186.call hb_1971 hb_1972 hb_1973 hb_1974 hS_197 rfl (L1 := [(r0, 16, 29, .int z_184), (r0, 16, 31, .int wb_162), (r0, 16, 9, .ref kept_79), (r0, 16, 26, .int qn_1), (r0, 16, 30, .int pe)]) [0, 1, 2, 3, 4] rfl rfl (M1 := []) [] rfl rfl (I1 := []) [] rfl rfl).more hb_1975
                          clear hh_186 ht_197 hvm_197 hz_197 hk_197 hS_197 hb_1971 hb_1972 hb_1973 hb_1974 hb_1975
                          obtain ⟨hr_198_0, hr_198_1, hr_198_2⟩ := hr_198
                          refine lv_bipush (v := 45) hx hb dX14_readNumber_219 (by decide) ?_
                          refine lv_icmp_ne (tgt := 234) hx hb dX14_readNumber_221 (by decide) (fun c_199 => ?_) (fun c_199 => ?_)
                          · skip
                            have c_199' : r_198.toInt ≠ 45 := jb_ne (rfl) ((by decide)) c_199
                            first | replace hr_198_2 := hr_198_2.resolve_left (by omega) | replace hr_198_2 := hr_198_2.resolve_right (by omega) | skip
                            exact C234 z_184 _ _ hh_197 (by first | omega | (refine ⟨?_, ?_, ?_⟩ <;> (first | omega | rfl | assumption | decide | exact Or.inl rfl | exact Or.inr rfl | (simp only; omega)))) _ (lv_sub hl [1, 2, 3, 4, 5, 0] rfl)
                          · skip
                            have c_199' : r_198.toInt = 45 := jb_ne_n (rfl) ((by decide)) c_199
                            first | replace hr_198_2 := hr_198_2.resolve_left (by omega) | replace hr_198_2 := hr_198_2.resolve_right (by omega) | skip
                            refine lv_aload_n hx hb dX14_readNumber_224 rfl (lv_at hl 1 rfl) ?_
                            refine lv_dup hx hb dX14_readNumber_225 rfl ?_
                            refine j7_read hx hb hown hK (C := RX14) (T := TX14) (N := 74) rfl hly_16_29 (hts (.fieldLink RX14 273 "ProofServerModel" "at" "I") (by decide +kernel)) (hh_197.at 0 rfl) dX14_readNumber_226 ?_
                            refine lv_iconst (v := 1) hx hb dX14_readNumber_229 (by decide) ?_
                            refine lv_iadd hx hb dX14_readNumber_230 ?_
                            refine lv_topi (fun z_200 ez_200 => ?_)
                            have hz_200 : z_200.toInt = z_184.toInt + 1 := by rw [ez_200]; exact jb_iadd2 (rfl) ((by decide)) (by omega)
                            refine j7_put hx hb hown hK hh_197 hB hAp hB16 (C := RX14) (T := TX14) (N := 74) rfl (by decide) hg_r0 (i := 29) (by decide) hly_16_29 rfl (hts (.fieldLink RX14 273 "ProofServerModel" "at" "I") (by decide +kernel)) rfl (ty := .int) (v := .int z_200) (by decide +kernel) rfl rfl (⟨_, rfl, by omega, by omega⟩) rfl (L1 := [(r0, 16, 31, .int wb_162), (r0, 16, 9, .ref kept_79), (r0, 16, 26, .int qn_1), (r0, 16, 30, .int pe)]) [1, 2, 3, 4] rfl rfl rfl dX14_readNumber_231 (fun H_201 locs_201 hh_201 => ?_)
                            clear hh_197
                            exact C234 z_200 _ _ hh_201 (by first | omega | (refine ⟨?_, ?_, ?_⟩ <;> (first | omega | rfl | assumption | decide | exact Or.inl rfl | exact Or.inr rfl | (simp only; omega)))) _ (lv_sub hl [1, 2, 3, 4, 5, 0] rfl)
                      · skip
                        have c_183' : r_182.toInt ≠ 101 := jb_eq_n (rfl) ((by decide)) c_183
                        first | replace hr_182_2 := hr_182_2.resolve_left (by omega) | replace hr_182_2 := hr_182_2.resolve_right (by omega) | skip
                        refine lv_aload_n hx hb dX14_readNumber_184 rfl (lv_at hl 0 rfl) ?_
                        refine va_calli (A0 := jA base) (H0 := s.heap) (va_runV (As := []) (rest := []) ⟨hx, hb, hml, hown, hts⟩ (uX14_here l dC dI ca base B hB hAp hB16 hB110 G0 H_181 r0 wt_162 pe) (cwV 0 hts gX14_readNumber_X14_here rfl rfl rfl (by decide +kernel) ⟨by rw [← hR]; exact Nat.le_of_ble_eq_true rfl, by rw [← hR]; exact Nat.le_of_ble_eq_true rfl⟩) ⟨fun a U g mk q => by obtain ⟨q0, q1, q2, qK, q10, q11, q12⟩ := q; exact ⟨q0, q1, q2, jG.calling g mk a qK, q10, q11, q12⟩, hh_181.recv (C := RX14) (T := TX14) (N := 74) hB16 rfl (by decide) hg_r0 hK, fun U hU hW => ⟨rfl, hU, hh_181.2.1, hG.step hW hU hh_181.1, hg_r0, (hh_181.2.2.1.sub (L1 := [(r0, 16, 29, .int wt_162), (r0, 16, 30, .int pe)]) [0, 4] rfl), by first | omega | (refine ⟨?_, ?_, ?_, ?_⟩ <;> (first | omega | rfl | assumption | decide | exact Or.inl rfl | exact Or.inr rfl | (simp only; omega)))⟩⟩ rfl rfl hl.1 rfl (lv_room (Nat.le_of_ble_eq_true rfl)) dX14_readNumber_185 ⟨Nat.zero_le _, Nat.zero_le _⟩) hh_181.1 (fun q _ h => h) (fun q h => h) (fun r_203 u_202 t_202 H_202 locs_202 ht_202 hvm_202 hr_203 hb_202 hz_202 hk_202 hS_202 => ?_)
                        rw [ht_202] at hb_202
                        obtain ⟨hb_2021, hb_2022, hb_2023, hb_2024, hb_2025⟩ := hb_202
                        have hh_202 : jSt (dC, dI) B base G0 G0 EX14_readNumber s.heap 0 0 [(r0, 16, 29, .int wt_162), (r0, 16, 31, .int wb_162), (r0, 16, 9, .ref kept_79), (r0, 16, 26, .int qn_1), (r0, 16, 30, .int pe)] [] [] H_202 locs_202 := (hh_181.call hb_2021 hb_2022 hb_2023 hb_2024 hS_202 rfl (L1 := [(r0, 16, 29, .int wt_162), (r0, 16, 31, .int wb_162), (r0, 16, 9, .ref kept_79), (r0, 16, 26, .int qn_1), (r0, 16, 30, .int pe)]) [0, 1, 2, 3, 4] rfl rfl (M1 := []) [] rfl rfl (I1 := []) [] rfl rfl).more hb_2025
                        clear hh_181 ht_202 hvm_202 hz_202 hk_202 hS_202 hb_2021 hb_2022 hb_2023 hb_2024 hb_2025
                        obtain ⟨hr_203_0, hr_203_1, hr_203_2⟩ := hr_203
                        refine lv_bipush (v := 69) hx hb dX14_readNumber_188 (by decide) ?_
                        refine lv_icmp_ne (tgt := 238) hx hb dX14_readNumber_190 (by decide) (fun c_204 => ?_) (fun c_204 => ?_)
                        · skip
                          have c_204' : r_203.toInt ≠ 69 := jb_ne (rfl) ((by decide)) c_204
                          first | replace hr_203_2 := hr_203_2.resolve_left (by omega) | replace hr_203_2 := hr_203_2.resolve_right (by omega) | skip
                          exact C238 v6_162 wt_162 wb_162 _ _ hh_202 (hb_v6_162) (by first | omega | (refine ⟨?_, ?_, ?_⟩ <;> (first | omega | rfl | assumption | decide | exact Or.inl rfl | exact Or.inr rfl | (simp only; omega)))) _ (lv_sub hl [0, 1, 2, 3, 4, 5] rfl)
                        · skip
                          have c_204' : r_203.toInt = 69 := jb_ne_n (rfl) ((by decide)) c_204
                          first | replace hr_203_2 := hr_203_2.resolve_left (by omega) | replace hr_203_2 := hr_203_2.resolve_right (by omega) | skip
                          refine lv_iconst (v := 0) hx hb dX14_readNumber_193 (by decide) ?_
                          refine lv_istore (lv' := [(6, .int 0), (0, .ref r0), (1, .int r_2), (2, .int 0), (3, .int wt_6), (4, .long v4_7)]) hx hb dX14_readNumber_194 hl (by decide) rfl (fun ls hl => ?_)
                          refine lv_aload_n hx hb dX14_readNumber_196 rfl (lv_at hl 1 rfl) ?_
                          refine lv_dup hx hb dX14_readNumber_197 rfl ?_
                          refine j7_read hx hb hown hK (C := RX14) (T := TX14) (N := 74) rfl hly_16_29 (hts (.fieldLink RX14 273 "ProofServerModel" "at" "I") (by decide +kernel)) (hh_202.at 0 rfl) dX14_readNumber_198 ?_
                          refine lv_iconst (v := 1) hx hb dX14_readNumber_201 (by decide) ?_
                          refine lv_iadd hx hb dX14_readNumber_202 ?_
                          refine lv_topi (fun z_205 ez_205 => ?_)
                          have hz_205 : z_205.toInt = wt_162.toInt + 1 := by rw [ez_205]; exact jb_iadd2 (rfl) ((by decide)) (by omega)
                          refine j7_put hx hb hown hK hh_202 hB hAp hB16 (C := RX14) (T := TX14) (N := 74) rfl (by decide) hg_r0 (i := 29) (by decide) hly_16_29 rfl (hts (.fieldLink RX14 273 "ProofServerModel" "at" "I") (by decide +kernel)) rfl (ty := .int) (v := .int z_205) (by decide +kernel) rfl rfl (⟨_, rfl, by omega, by omega⟩) rfl (L1 := [(r0, 16, 31, .int wb_162), (r0, 16, 9, .ref kept_79), (r0, 16, 26, .int qn_1), (r0, 16, 30, .int pe)]) [1, 2, 3, 4] rfl rfl rfl dX14_readNumber_203 (fun H_206 locs_206 hh_206 => ?_)
                          clear hh_202
                          refine lv_aload_n hx hb dX14_readNumber_206 rfl (lv_at hl 1 rfl) ?_
                          refine va_calli (A0 := jA base) (H0 := s.heap) (va_runV (As := []) (rest := []) ⟨hx, hb, hml, hown, hts⟩ (uX14_here l dC dI ca base B hB hAp hB16 hB110 G0 H_206 r0 z_205 pe) (cwV 0 hts gX14_readNumber_X14_here rfl rfl rfl (by decide +kernel) ⟨by rw [← hR]; exact Nat.le_of_ble_eq_true rfl, by rw [← hR]; exact Nat.le_of_ble_eq_true rfl⟩) ⟨fun a U g mk q => by obtain ⟨q0, q1, q2, qK, q10, q11, q12⟩ := q; exact ⟨q0, q1, q2, jG.calling g mk a qK, q10, q11, q12⟩, hh_206.recv (C := RX14) (T := TX14) (N := 74) hB16 rfl (by decide) hg_r0 hK, fun U hU hW => ⟨rfl, hU, hh_206.2.1, hG.step hW hU hh_206.1, hg_r0, (hh_206.2.2.1.sub (L1 := [(r0, 16, 29, .int z_205), (r0, 16, 30, .int pe)]) [0, 4] rfl), by first | omega | (refine ⟨?_, ?_, ?_, ?_⟩ <;> (first | omega | rfl | assumption | decide | exact Or.inl rfl | exact Or.inr rfl | (simp only; omega)))⟩⟩ rfl rfl hl.1 rfl (lv_room (Nat.le_of_ble_eq_true rfl)) dX14_readNumber_207 ⟨Nat.zero_le _, Nat.zero_le _⟩) hh_206.1 (fun q _ h => h) (fun q h => h) (fun r_208 u_207 t_207 H_207 locs_207 ht_207 hvm_207 hr_208 hb_207 hz_207 hk_207 hS_207 => ?_)
                          rw [ht_207] at hb_207
                          obtain ⟨hb_2071, hb_2072, hb_2073, hb_2074, hb_2075⟩ := hb_207
                          have hh_207 : jSt (dC, dI) B base G0 G0 EX14_readNumber s.heap 0 0 [(r0, 16, 29, .int z_205), (r0, 16, 31, .int wb_162), (r0, 16, 9, .ref kept_79), (r0, 16, 26, .int qn_1), (r0, 16, 30, .int pe)] [] [] H_207 locs_207 := (hh_206.call hb_2071 hb_2072 hb_2073 hb_2074 hS_207 rfl (L1 := [(r0, 16, 29, .int z_205), (r0, 16, 31, .int wb_162), (r0, 16, 9, .ref kept_79), (r0, 16, 26, .int qn_1), (r0, 16, 30, .int pe)]) [0, 1, 2, 3, 4] rfl rfl (M1 := []) [] rfl rfl (I1 := []) [] rfl rfl).more hb_2075
                          clear hh_206 ht_207 hvm_207 hz_207 hk_207 hS_207 hb_2071 hb_2072 hb_2073 hb_2074 hb_2075
                          obtain ⟨hr_208_0, hr_208_1, hr_208_2⟩ := hr_208
                          refine lv_bipush (v := 43) hx hb dX14_readNumber_210 (by decide) ?_
                          have C234 : ∀ (wt_209 : Int32) (H_209 : Heap) (locs_209 : List Loc), jSt (dC, dI) B base G0 G0 EX14_readNumber s.heap 0 0 [(r0, 16, 29, .int wt_209), (r0, 16, 31, .int wb_162), (r0, 16, 9, .ref kept_79), (r0, 16, 26, .int qn_1), (r0, 16, 30, .int pe)] [] [] H_209 locs_209 → (pt.toInt ≤ wt_209.toInt ∧ wt_209.toInt ≤ pe.toInt ∧ pt.toInt + 1 ≤ wt_209.toInt) → ∀ ls : Array Slot, lv_has ls 9 [(0, .ref r0), (1, .int r_2), (2, .int 0), (3, .int wt_6), (4, .long v4_7), (6, .int 0)] → W p l e R s m ([.ref r0] : List Value).toArray below meth c H_209 locs_209 0 0 Q (F0 m 234 ls []) := by
                            intro wt_209 H_209 locs_209 hh_209  hi_209 ls hl
                            obtain ⟨hi_209_0, hi_209_1, hi_209_2⟩ := hi_209
                            clear hr_182_2 hr_203_2 hr_208_2
                            refine lv_aload_n hx hb dX14_readNumber_234 rfl (lv_at hl 0 rfl) ?_
                            refine va_callv (A0 := jA base) (H0 := s.heap) (va_runV (As := []) (rest := []) ⟨hx, hb, hml, hown, hts⟩ (uX14_digits l dC dI ca base B hB hAp hB16 hB110 G0 H_209 r0 wt_209 pe) (cwV 0 hts gX14_readNumber_X14_digits rfl rfl rfl (by decide +kernel) ⟨by rw [← hR]; exact Nat.le_of_ble_eq_true rfl, by rw [← hR]; exact Nat.le_of_ble_eq_true rfl⟩) ⟨fun a U g mk q => by obtain ⟨q0, q1, q2, qK, q10, q11, q12⟩ := q; exact ⟨q0, q1, q2, jG.calling g mk a qK, q10, q11, q12⟩, hh_209.recv (C := RX14) (T := TX14) (N := 74) hB16 rfl (by decide) hg_r0 hK, fun U hU hW => ⟨rfl, hU, hh_209.2.1, hG.step hW hU hh_209.1, hg_r0, (hh_209.2.2.1.sub (L1 := [(r0, 16, 29, .int wt_209), (r0, 16, 30, .int pe)]) [0, 4] rfl), by first | omega | (refine ⟨?_, ?_, ?_, ?_, ?_⟩ <;> (first | omega | rfl | assumption | decide | exact Or.inl rfl | exact Or.inr rfl | (simp only; omega)))⟩⟩ rfl rfl hl.1 rfl (lv_room (Nat.le_of_ble_eq_true rfl)) dX14_readNumber_235 ⟨Nat.zero_le _, Nat.zero_le _⟩) hh_209.1 (fun q _ h => h) (fun q h => h) (fun u_210 t_210 H_210 locs_210 ht_210 hvm_210 hr_211 hb_210 hz_210 hk_210 hS_210 => ?_)
                            obtain ⟨qt_210, rfl⟩ : ∃ z, z = u_210 := ⟨_, rfl⟩
                            rw [ht_210] at hb_210
                            obtain ⟨hb_2101, hb_2102, hb_2103, hb_2104, hb_2105⟩ := hb_210
                            have hh_210 : jSt (dC, dI) B base G0 G0 EX14_readNumber s.heap 0 0 [(r0, 16, 29, .int qt_210), (r0, 16, 9, .ref kept_79), (r0, 16, 26, .int qn_1), (r0, 16, 30, .int pe)] [] [] H_210 locs_210 := (hh_209.call hb_2101 hb_2102 hb_2103 hb_2104 hS_210 rfl (L1 := [(r0, 16, 9, .ref kept_79), (r0, 16, 26, .int qn_1), (r0, 16, 30, .int pe)]) [2, 3, 4] rfl rfl (M1 := []) [] rfl rfl (I1 := []) [] rfl rfl).more hb_2105
                            clear hh_209 ht_210 hvm_210 hz_210 hk_210 hS_210 hb_2101 hb_2102 hb_2103 hb_2104 hb_2105
                            obtain ⟨hr_211_0, hr_211_1⟩ := hr_211
                            obtain ⟨v_212, hv_212, hh_213⟩ := hh_210.pin (C := RX14) (T := TX14) (N := 74) hB16 rfl (by decide) hg_r0 (i := 31) (by decide) rfl
                            obtain ⟨bad_214, rfl, hzbad_214⟩ := hv_212
                            have hzbad_214' := jb_01 hzbad_214
                            exact C238 0 qt_210 bad_214 _ _ (hh_213.sub (L1 := [(r0, 16, 29, .int qt_210), (r0, 16, 31, .int bad_214), (r0, 16, 9, .ref kept_79), (r0, 16, 26, .int qn_1), (r0, 16, 30, .int pe)]) [1, 0, 2, 3, 4] rfl (M1 := []) [] rfl (I1 := []) [] rfl) (Or.inl rfl) (by first | omega | (refine ⟨?_, ?_, ?_⟩ <;> (first | omega | rfl | assumption | decide | exact Or.inl rfl | exact Or.inr rfl | (simp only; omega)))) _ (lv_sub hl [0, 1, 2, 3, 4, 5] rfl)
                          refine lv_icmp_eq (tgt := 224) hx hb dX14_readNumber_212 (by decide) (fun c_215 => ?_) (fun c_215 => ?_)
                          · skip
                            have c_215' : r_208.toInt = 43 := jb_eq (rfl) ((by decide)) c_215
                            first | replace hr_208_2 := hr_208_2.resolve_left (by omega) | replace hr_208_2 := hr_208_2.resolve_right (by omega) | skip
                            refine lv_aload_n hx hb dX14_readNumber_224 rfl (lv_at hl 1 rfl) ?_
                            refine lv_dup hx hb dX14_readNumber_225 rfl ?_
                            refine j7_read hx hb hown hK (C := RX14) (T := TX14) (N := 74) rfl hly_16_29 (hts (.fieldLink RX14 273 "ProofServerModel" "at" "I") (by decide +kernel)) (hh_207.at 0 rfl) dX14_readNumber_226 ?_
                            refine lv_iconst (v := 1) hx hb dX14_readNumber_229 (by decide) ?_
                            refine lv_iadd hx hb dX14_readNumber_230 ?_
                            refine lv_topi (fun z_216 ez_216 => ?_)
                            have hz_216 : z_216.toInt = z_205.toInt + 1 := by rw [ez_216]; exact jb_iadd2 (rfl) ((by decide)) (by omega)
                            refine j7_put hx hb hown hK hh_207 hB hAp hB16 (C := RX14) (T := TX14) (N := 74) rfl (by decide) hg_r0 (i := 29) (by decide) hly_16_29 rfl (hts (.fieldLink RX14 273 "ProofServerModel" "at" "I") (by decide +kernel)) rfl (ty := .int) (v := .int z_216) (by decide +kernel) rfl rfl (⟨_, rfl, by omega, by omega⟩) rfl (L1 := [(r0, 16, 31, .int wb_162), (r0, 16, 9, .ref kept_79), (r0, 16, 26, .int qn_1), (r0, 16, 30, .int pe)]) [1, 2, 3, 4] rfl rfl rfl dX14_readNumber_231 (fun H_217 locs_217 hh_217 => ?_)
                            clear hh_207
                            exact C234 z_216 _ _ hh_217 (by first | omega | (refine ⟨?_, ?_, ?_⟩ <;> (first | omega | rfl | assumption | decide | exact Or.inl rfl | exact Or.inr rfl | (simp only; omega)))) _ (lv_sub hl [1, 2, 3, 4, 5, 0] rfl)
                          · skip
                            have c_215' : r_208.toInt ≠ 43 := jb_eq_n (rfl) ((by decide)) c_215
                            first | replace hr_208_2 := hr_208_2.resolve_left (by omega) | replace hr_208_2 := hr_208_2.resolve_right (by omega) | skip
                            refine lv_aload_n hx hb dX14_readNumber_215 rfl (lv_at hl 1 rfl) ?_
                            refine va_calli (A0 := jA base) (H0 := s.heap) (va_runV (As := []) (rest := []) ⟨hx, hb, hml, hown, hts⟩ (uX14_here l dC dI ca base B hB hAp hB16 hB110 G0 H_207 r0 z_205 pe) (cwV 0 hts gX14_readNumber_X14_here rfl rfl rfl (by decide +kernel) ⟨by rw [← hR]; exact Nat.le_of_ble_eq_true rfl, by rw [← hR]; exact Nat.le_of_ble_eq_true rfl⟩) ⟨fun a U g mk q => by obtain ⟨q0, q1, q2, qK, q10, q11, q12⟩ := q; exact ⟨q0, q1, q2, jG.calling g mk a qK, q10, q11, q12⟩, hh_207.recv (C := RX14) (T := TX14) (N := 74) hB16 rfl (by decide) hg_r0 hK, fun U hU hW => ⟨rfl, hU, hh_207.2.1, hG.step hW hU hh_207.1, hg_r0, (hh_207.2.2.1.sub (L1 := [(r0, 16, 29, .int z_205), (r0, 16, 30, .int pe)]) [0, 4] rfl), by first | omega | (refine ⟨?_, ?_, ?_, ?_⟩ <;> (first | omega | rfl | assumption | decide | exact Or.inl rfl | exact Or.inr rfl | (simp only; omega)))⟩⟩ rfl rfl hl.1 rfl (lv_room (Nat.le_of_ble_eq_true rfl)) dX14_readNumber_216 ⟨Nat.zero_le _, Nat.zero_le _⟩) hh_207.1 (fun q _ h => h) (fun q h => h) (fun r_219 u_218 t_218 H_218 locs_218 ht_218 hvm_218 hr_219 hb_218 hz_218 hk_218 hS_218 => ?_)
                            rw [ht_218] at hb_218
                            obtain ⟨hb_2181, hb_2182, hb_2183, hb_2184, hb_2185⟩ := hb_218
                            have hh_218 : jSt (dC, dI) B base G0 G0 EX14_readNumber s.heap 0 0 [(r0, 16, 29, .int z_205), (r0, 16, 31, .int wb_162), (r0, 16, 9, .ref kept_79), (r0, 16, 26, .int qn_1), (r0, 16, 30, .int pe)] [] [] H_218 locs_218 := (hh_207.call hb_2181 hb_2182 hb_2183 hb_2184 hS_218 rfl (L1 := [(r0, 16, 29, .int z_205), (r0, 16, 31, .int wb_162), (r0, 16, 9, .ref kept_79), (r0, 16, 26, .int qn_1), (r0, 16, 30, .int pe)]) [0, 1, 2, 3, 4] rfl rfl (M1 := []) [] rfl rfl (I1 := []) [] rfl rfl).more hb_2185
                            clear hh_207 ht_218 hvm_218 hz_218 hk_218 hS_218 hb_2181 hb_2182 hb_2183 hb_2184 hb_2185
                            obtain ⟨hr_219_0, hr_219_1, hr_219_2⟩ := hr_219
                            refine lv_bipush (v := 45) hx hb dX14_readNumber_219 (by decide) ?_
                            refine lv_icmp_ne (tgt := 234) hx hb dX14_readNumber_221 (by decide) (fun c_220 => ?_) (fun c_220 => ?_)
                            · skip
                              have c_220' : r_219.toInt ≠ 45 := jb_ne (rfl) ((by decide)) c_220
                              first | replace hr_219_2 := hr_219_2.resolve_left (by omega) | replace hr_219_2 := hr_219_2.resolve_right (by omega) | skip
                              exact C234 z_205 _ _ hh_218 (by first | omega | (refine ⟨?_, ?_, ?_⟩ <;> (first | omega | rfl | assumption | decide | exact Or.inl rfl | exact Or.inr rfl | (simp only; omega)))) _ (lv_sub hl [1, 2, 3, 4, 5, 0] rfl)
                            · skip
                              have c_220' : r_219.toInt = 45 := jb_ne_n (rfl) ((by decide)) c_220
                              first | replace hr_219_2 := hr_219_2.resolve_left (by omega) | replace hr_219_2 := hr_219_2.resolve_right (by omega) | skip
                              refine lv_aload_n hx hb dX14_readNumber_224 rfl (lv_at hl 1 rfl) ?_
                              refine lv_dup hx hb dX14_readNumber_225 rfl ?_
                              refine j7_read hx hb hown hK (C := RX14) (T := TX14) (N := 74) rfl hly_16_29 (hts (.fieldLink RX14 273 "ProofServerModel" "at" "I") (by decide +kernel)) (hh_218.at 0 rfl) dX14_readNumber_226 ?_
                              refine lv_iconst (v := 1) hx hb dX14_readNumber_229 (by decide) ?_
                              refine lv_iadd hx hb dX14_readNumber_230 ?_
                              refine lv_topi (fun z_221 ez_221 => ?_)
                              have hz_221 : z_221.toInt = z_205.toInt + 1 := by rw [ez_221]; exact jb_iadd2 (rfl) ((by decide)) (by omega)
                              refine j7_put hx hb hown hK hh_218 hB hAp hB16 (C := RX14) (T := TX14) (N := 74) rfl (by decide) hg_r0 (i := 29) (by decide) hly_16_29 rfl (hts (.fieldLink RX14 273 "ProofServerModel" "at" "I") (by decide +kernel)) rfl (ty := .int) (v := .int z_221) (by decide +kernel) rfl rfl (⟨_, rfl, by omega, by omega⟩) rfl (L1 := [(r0, 16, 31, .int wb_162), (r0, 16, 9, .ref kept_79), (r0, 16, 26, .int qn_1), (r0, 16, 30, .int pe)]) [1, 2, 3, 4] rfl rfl rfl dX14_readNumber_231 (fun H_222 locs_222 hh_222 => ?_)
                              clear hh_218
                              exact C234 z_221 _ _ hh_222 (by first | omega | (refine ⟨?_, ?_, ?_⟩ <;> (first | omega | rfl | assumption | decide | exact Or.inl rfl | exact Or.inr rfl | (simp only; omega)))) _ (lv_sub hl [1, 2, 3, 4, 5, 0] rfl)
                  refine lv_if_ne (tgt := 168) hx hb dX14_readNumber_139 (by decide) (fun c_223 => ?_) (fun c_223 => ?_)
                  · skip
                    have c_223' : bad_161.toInt ≠ 0 := jb_ne (rfl) ((by decide)) c_223
                    exact C168 1 wt_7 bad_161 _ _ (hh_160.sub (L1 := [(r0, 16, 29, .int wt_7), (r0, 16, 31, .int bad_161), (r0, 16, 9, .ref kept_79), (r0, 16, 26, .int qn_1), (r0, 16, 30, .int pe)]) [2, 0, 1, 3, 4] rfl (M1 := []) [] rfl (I1 := []) [] rfl) (Or.inr rfl) (by first | omega | (refine ⟨?_, ?_, ?_⟩ <;> (first | omega | rfl | assumption | decide | exact Or.inl rfl | exact Or.inr rfl | (simp only; omega)))) _ (lv_sub hl [1, 2, 3, 4, 5, 0] rfl)
                  · skip
                    have c_223' : bad_161.toInt = 0 := jb_ne_n (rfl) ((by decide)) c_223
                    refine lv_aload_n hx hb dX14_readNumber_142 rfl (lv_at hl 1 rfl) ?_
                    refine va_calli (A0 := jA base) (H0 := s.heap) (va_runV (As := []) (rest := []) ⟨hx, hb, hml, hown, hts⟩ (uX14_here l dC dI ca base B hB hAp hB16 hB110 G0 H_10 r0 wt_7 pe) (cwV 0 hts gX14_readNumber_X14_here rfl rfl rfl (by decide +kernel) ⟨by rw [← hR]; exact Nat.le_of_ble_eq_true rfl, by rw [← hR]; exact Nat.le_of_ble_eq_true rfl⟩) ⟨fun a U g mk q => by obtain ⟨q0, q1, q2, qK, q10, q11, q12⟩ := q; exact ⟨q0, q1, q2, jG.calling g mk a qK, q10, q11, q12⟩, hh_160.recv (C := RX14) (T := TX14) (N := 74) hB16 rfl (by decide) hg_r0 hK, fun U hU hW => ⟨rfl, hU, hh_160.2.1, hG.step hW hU hh_160.1, hg_r0, (hh_160.2.2.1.sub (L1 := [(r0, 16, 29, .int wt_7), (r0, 16, 30, .int pe)]) [2, 4] rfl), by first | omega | (refine ⟨?_, ?_, ?_, ?_⟩ <;> (first | omega | rfl | assumption | decide | exact Or.inl rfl | exact Or.inr rfl | (simp only; omega)))⟩⟩ rfl rfl hl.1 rfl (lv_room (Nat.le_of_ble_eq_true rfl)) dX14_readNumber_143 ⟨Nat.zero_le _, Nat.zero_le _⟩) hh_160.1 (fun q _ h => h) (fun q h => h) (fun r_225 u_224 t_224 H_224 locs_224 ht_224 hvm_224 hr_225 hb_224 hz_224 hk_224 hS_224 => ?_)
                    rw [ht_224] at hb_224
                    obtain ⟨hb_2241, hb_2242, hb_2243, hb_2244, hb_2245⟩ := hb_224
                    have hh_224 : jSt (dC, dI) B base G0 G0 EX14_readNumber s.heap 0 0 [(r0, 16, 31, .int bad_161), (r0, 16, 9, .ref kept_79), (r0, 16, 29, .int wt_7), (r0, 16, 26, .int qn_1), (r0, 16, 30, .int pe)] [] [] H_224 locs_224 := (hh_160.call hb_2241 hb_2242 hb_2243 hb_2244 hS_224 rfl (L1 := [(r0, 16, 31, .int bad_161), (r0, 16, 9, .ref kept_79), (r0, 16, 29, .int wt_7), (r0, 16, 26, .int qn_1), (r0, 16, 30, .int pe)]) [0, 1, 2, 3, 4] rfl rfl (M1 := []) [] rfl rfl (I1 := []) [] rfl rfl).more hb_2245
                    clear hh_160 ht_224 hvm_224 hz_224 hk_224 hS_224 hb_2241 hb_2242 hb_2243 hb_2244 hb_2245
                    obtain ⟨hr_225_0, hr_225_1, hr_225_2⟩ := hr_225
                    refine lv_bipush (v := 46) hx hb dX14_readNumber_146 (by decide) ?_
                    refine lv_icmp_ne (tgt := 168) hx hb dX14_readNumber_148 (by decide) (fun c_226 => ?_) (fun c_226 => ?_)
                    · skip
                      have c_226' : r_225.toInt ≠ 46 := jb_ne (rfl) ((by decide)) c_226
                      first | replace hr_225_2 := hr_225_2.resolve_left (by omega) | replace hr_225_2 := hr_225_2.resolve_right (by omega) | skip
                      exact C168 1 wt_7 bad_161 _ _ (hh_224.sub (L1 := [(r0, 16, 29, .int wt_7), (r0, 16, 31, .int bad_161), (r0, 16, 9, .ref kept_79), (r0, 16, 26, .int qn_1), (r0, 16, 30, .int pe)]) [2, 0, 1, 3, 4] rfl (M1 := []) [] rfl (I1 := []) [] rfl) (Or.inr rfl) (by first | omega | (refine ⟨?_, ?_, ?_⟩ <;> (first | omega | rfl | assumption | decide | exact Or.inl rfl | exact Or.inr rfl | (simp only; omega)))) _ (lv_sub hl [1, 2, 3, 4, 5, 0] rfl)
                    · skip
                      have c_226' : r_225.toInt = 46 := jb_ne_n (rfl) ((by decide)) c_226
                      first | replace hr_225_2 := hr_225_2.resolve_left (by omega) | replace hr_225_2 := hr_225_2.resolve_right (by omega) | skip
                      refine lv_iconst (v := 0) hx hb dX14_readNumber_151 (by decide) ?_
                      refine lv_istore (lv' := [(6, .int 0), (0, .ref r0), (1, .int r_2), (2, .int 0), (3, .int wt_6), (4, .long v4_7)]) hx hb dX14_readNumber_152 hl (by decide) rfl (fun ls hl => ?_)
                      refine lv_aload_n hx hb dX14_readNumber_154 rfl (lv_at hl 1 rfl) ?_
                      refine lv_dup hx hb dX14_readNumber_155 rfl ?_
                      refine j7_read hx hb hown hK (C := RX14) (T := TX14) (N := 74) rfl hly_16_29 (hts (.fieldLink RX14 273 "ProofServerModel" "at" "I") (by decide +kernel)) (hh_224.at 2 rfl) dX14_readNumber_156 ?_
                      refine lv_iconst (v := 1) hx hb dX14_readNumber_159 (by decide) ?_
                      refine lv_iadd hx hb dX14_readNumber_160 ?_
                      refine lv_topi (fun z_227 ez_227 => ?_)
                      have hz_227 : z_227.toInt = wt_7.toInt + 1 := by rw [ez_227]; exact jb_iadd2 (rfl) ((by decide)) (by omega)
                      refine j7_put hx hb hown hK hh_224 hB hAp hB16 (C := RX14) (T := TX14) (N := 74) rfl (by decide) hg_r0 (i := 29) (by decide) hly_16_29 rfl (hts (.fieldLink RX14 273 "ProofServerModel" "at" "I") (by decide +kernel)) rfl (ty := .int) (v := .int z_227) (by decide +kernel) rfl rfl (⟨_, rfl, by omega, by omega⟩) rfl (L1 := [(r0, 16, 31, .int bad_161), (r0, 16, 9, .ref kept_79), (r0, 16, 26, .int qn_1), (r0, 16, 30, .int pe)]) [0, 1, 3, 4] rfl rfl rfl dX14_readNumber_161 (fun H_228 locs_228 hh_228 => ?_)
                      clear hh_224
                      refine lv_aload_n hx hb dX14_readNumber_164 rfl (lv_at hl 1 rfl) ?_
                      refine va_callv (A0 := jA base) (H0 := s.heap) (va_runV (As := []) (rest := []) ⟨hx, hb, hml, hown, hts⟩ (uX14_digits l dC dI ca base B hB hAp hB16 hB110 G0 H_228 r0 z_227 pe) (cwV 0 hts gX14_readNumber_X14_digits rfl rfl rfl (by decide +kernel) ⟨by rw [← hR]; exact Nat.le_of_ble_eq_true rfl, by rw [← hR]; exact Nat.le_of_ble_eq_true rfl⟩) ⟨fun a U g mk q => by obtain ⟨q0, q1, q2, qK, q10, q11, q12⟩ := q; exact ⟨q0, q1, q2, jG.calling g mk a qK, q10, q11, q12⟩, hh_228.recv (C := RX14) (T := TX14) (N := 74) hB16 rfl (by decide) hg_r0 hK, fun U hU hW => ⟨rfl, hU, hh_228.2.1, hG.step hW hU hh_228.1, hg_r0, (hh_228.2.2.1.sub (L1 := [(r0, 16, 29, .int z_227), (r0, 16, 30, .int pe)]) [0, 4] rfl), by first | omega | (refine ⟨?_, ?_, ?_, ?_, ?_⟩ <;> (first | omega | rfl | assumption | decide | exact Or.inl rfl | exact Or.inr rfl | (simp only; omega)))⟩⟩ rfl rfl hl.1 rfl (lv_room (Nat.le_of_ble_eq_true rfl)) dX14_readNumber_165 ⟨Nat.zero_le _, Nat.zero_le _⟩) hh_228.1 (fun q _ h => h) (fun q h => h) (fun u_229 t_229 H_229 locs_229 ht_229 hvm_229 hr_230 hb_229 hz_229 hk_229 hS_229 => ?_)
                      obtain ⟨qt_229, rfl⟩ : ∃ z, z = u_229 := ⟨_, rfl⟩
                      rw [ht_229] at hb_229
                      obtain ⟨hb_2291, hb_2292, hb_2293, hb_2294, hb_2295⟩ := hb_229
                      have hh_229 : jSt (dC, dI) B base G0 G0 EX14_readNumber s.heap 0 0 [(r0, 16, 29, .int qt_229), (r0, 16, 9, .ref kept_79), (r0, 16, 26, .int qn_1), (r0, 16, 30, .int pe)] [] [] H_229 locs_229 := (hh_228.call hb_2291 hb_2292 hb_2293 hb_2294 hS_229 rfl (L1 := [(r0, 16, 9, .ref kept_79), (r0, 16, 26, .int qn_1), (r0, 16, 30, .int pe)]) [2, 3, 4] rfl rfl (M1 := []) [] rfl rfl (I1 := []) [] rfl rfl).more hb_2295
                      clear hh_228 ht_229 hvm_229 hz_229 hk_229 hS_229 hb_2291 hb_2292 hb_2293 hb_2294 hb_2295
                      obtain ⟨hr_230_0, hr_230_1⟩ := hr_230
                      obtain ⟨v_231, hv_231, hh_232⟩ := hh_229.pin (C := RX14) (T := TX14) (N := 74) hB16 rfl (by decide) hg_r0 (i := 31) (by decide) rfl
                      obtain ⟨bad_233, rfl, hzbad_233⟩ := hv_231
                      have hzbad_233' := jb_01 hzbad_233
                      exact C168 0 qt_229 bad_233 _ _ (hh_232.sub (L1 := [(r0, 16, 29, .int qt_229), (r0, 16, 31, .int bad_233), (r0, 16, 9, .ref kept_79), (r0, 16, 26, .int qn_1), (r0, 16, 30, .int pe)]) [1, 0, 2, 3, 4] rfl (M1 := []) [] rfl (I1 := []) [] rfl) (Or.inl rfl) (by first | omega | (refine ⟨?_, ?_, ?_⟩ <;> (first | omega | rfl | assumption | decide | exact Or.inl rfl | exact Or.inr rfl | (simp only; omega)))) _ (lv_sub hl [1, 2, 3, 4, 5, 0] rfl)
                · skip
                  have c_158' : z_157.toInt > 1 := jb_le_n (rfl) ((by decide)) c_158
                  refine lv_aload_n hx hb dX14_readNumber_127 rfl (lv_at hl 0 rfl) ?_
                  refine lv_iconst (v := 1) hx hb dX14_readNumber_128 (by decide) ?_
                  refine j7_put hx hb hown hK hh_78 hB hAp hB16 (C := RX14) (T := TX14) (N := 74) rfl (by decide) hg_r0 (i := 31) (by decide) hly_16_31 rfl (hts (.fieldLink RX14 288 "ProofServerModel" "bad" "Z") (by decide +kernel)) rfl (ty := .boolean) (v := .int 1) (by decide +kernel) (jb_nz (Or.inr rfl)) (jb_fz (Or.inr rfl)) (⟨_, rfl, (Or.inr rfl)⟩) rfl (L1 := [(r0, 16, 9, .ref kept_79), (r0, 16, 29, .int wt_7), (r0, 16, 26, .int qn_1), (r0, 16, 30, .int pe)]) [0, 1, 2, 3] rfl rfl rfl dX14_readNumber_129 (fun H_234 locs_234 hh_234 => ?_)
                  clear hh_78
                  refine lv_iconst (v := 1) hx hb dX14_readNumber_132 (by decide) ?_
                  refine lv_istore (lv' := [(6, .int 1), (0, .ref r0), (1, .int r_2), (2, .int 0), (3, .int wt_6), (4, .long v4_7)]) hx hb dX14_readNumber_133 hl (by decide) rfl (fun ls hl => ?_)
                  refine lv_aload_n hx hb dX14_readNumber_135 rfl (lv_at hl 1 rfl) ?_
                  refine j7_read hx hb hown hK (C := RX14) (T := TX14) (N := 74) rfl hly_16_31 (hts (.fieldLink RX14 288 "ProofServerModel" "bad" "Z") (by decide +kernel)) (hh_234.at 0 rfl) dX14_readNumber_136 ?_
                  have C168 : ∀ (v6_235 : Int32) (wt_235 : Int32) (wb_235 : Int32) (H_235 : Heap) (locs_235 : List Loc), jSt (dC, dI) B base G0 G0 EX14_readNumber s.heap 0 0 [(r0, 16, 29, .int wt_235), (r0, 16, 31, .int wb_235), (r0, 16, 9, .ref kept_79), (r0, 16, 26, .int qn_1), (r0, 16, 30, .int pe)] [] [] H_235 locs_235 → (v6_235 = 0 ∨ v6_235 = 1) → (pt.toInt ≤ wt_235.toInt ∧ wt_235.toInt ≤ pe.toInt ∧ (wb_235.toInt = 1 ∨ pt.toInt + 1 ≤ wt_235.toInt)) → ∀ ls : Array Slot, lv_has ls 9 [(0, .ref r0), (1, .int r_2), (2, .int 0), (3, .int wt_6), (4, .long v4_7), (6, .int v6_235)] → W p l e R s m ([.ref r0] : List Value).toArray below meth c H_235 locs_235 0 0 Q (F0 m 168 ls []) := by
                    intro v6_235 wt_235 wb_235 H_235 locs_235 hh_235 hb_v6_235 hi_235 ls hl
                    obtain ⟨hi_235_0, hi_235_1, hi_235_2⟩ := hi_235
                    have hb_v6_235' := jb_01 hb_v6_235
                    clear hr_9_2
                    refine lv_aload_n hx hb dX14_readNumber_168 rfl (lv_at hl 0 rfl) ?_
                    refine j7_read hx hb hown hK (C := RX14) (T := TX14) (N := 74) rfl hly_16_31 (hts (.fieldLink RX14 288 "ProofServerModel" "bad" "Z") (by decide +kernel)) (hh_235.at 1 rfl) dX14_readNumber_169 ?_
                    have C238 : ∀ (v6_236 : Int32) (wt_236 : Int32) (wb_236 : Int32) (H_236 : Heap) (locs_236 : List Loc), jSt (dC, dI) B base G0 G0 EX14_readNumber s.heap 0 0 [(r0, 16, 29, .int wt_236), (r0, 16, 31, .int wb_236), (r0, 16, 9, .ref kept_79), (r0, 16, 26, .int qn_1), (r0, 16, 30, .int pe)] [] [] H_236 locs_236 → (v6_236 = 0 ∨ v6_236 = 1) → (pt.toInt ≤ wt_236.toInt ∧ wt_236.toInt ≤ pe.toInt ∧ (wb_236.toInt = 1 ∨ pt.toInt + 1 ≤ wt_236.toInt)) → ∀ ls : Array Slot, lv_has ls 9 [(0, .ref r0), (1, .int r_2), (2, .int 0), (3, .int wt_6), (4, .long v4_7), (6, .int v6_236)] → W p l e R s m ([.ref r0] : List Value).toArray below meth c H_236 locs_236 0 0 Q (F0 m 238 ls []) := by
                      intro v6_236 wt_236 wb_236 H_236 locs_236 hh_236 hb_v6_236 hi_236 ls hl
                      obtain ⟨hi_236_0, hi_236_1, hi_236_2⟩ := hi_236
                      have hb_v6_236' := jb_01 hb_v6_236
                      refine lv_iload_n hx hb dX14_readNumber_238 rfl (lv_at hl 2 rfl) ?_
                      refine lv_if_eq (tgt := 248) hx hb dX14_readNumber_239 (by decide) (fun c_237 => ?_) (fun c_237 => ?_)
                      · skip
                        refine lv_lload hx hb dX14_readNumber_248 (lv_at hl 4 rfl) ?_
                        refine lv_lstore (lv' := [(7, .long v4_7), (0, .ref r0), (1, .int r_2), (2, .int 0), (3, .int wt_6), (4, .long v4_7), (6, .int v6_236)]) hx hb dX14_readNumber_250 hl (by decide) rfl (fun ls hl => ?_)
                        refine lv_aload_n hx hb dX14_readNumber_252 rfl (lv_at hl 1 rfl) ?_
                        obtain ⟨v_238, hv_238, hh_239⟩ := hh_236.pin (C := RX14) (T := TX14) (N := 74) hB16 rfl (by decide) hg_r0 (i := 24) (by decide) rfl
                        clear hh_236
                        obtain ⟨isInt_240, rfl, hg_isInt_240⟩ := hv_238
                        refine j7_read hx hb hown hK (C := RX14) (T := TX14) (N := 74) rfl hly_16_24 (hts (.fieldLink RX14 58 "ProofServerModel" "isInt" "[Z") (by decide +kernel)) (hh_239.at 0 rfl) dX14_readNumber_253 ?_
                        refine lv_iload_n hx hb dX14_readNumber_256 rfl (lv_at hl 2 rfl) ?_
                        refine lv_iload hx hb dX14_readNumber_257 (lv_at hl 6 rfl) ?_
                        have C285 : ∀ (w0_241 : Int32) (H_241 : Heap) (locs_241 : List Loc), jSt (dC, dI) B base G0 G0 EX14_readNumber s.heap 0 0 [(r0, 16, 24, .ref isInt_240), (r0, 16, 29, .int wt_236), (r0, 16, 31, .int wb_236), (r0, 16, 9, .ref kept_79), (r0, 16, 26, .int qn_1), (r0, 16, 30, .int pe)] [] [] H_241 locs_241 → (w0_241 = 0 ∨ w0_241 = 1) → (True) → ∀ ls : Array Slot, lv_has ls 9 [(0, .ref r0), (1, .int r_2), (2, .int 0), (3, .int wt_6), (4, .long v4_7), (6, .int v6_236), (7, .long v4_7)] → W p l e R s m ([.ref r0] : List Value).toArray below meth c H_241 locs_241 0 0 Q (F0 m 285 ls [.int w0_241, .int r_2, .ref isInt_240]) := by
                          intro w0_241 H_241 locs_241 hh_241 hb_w0_241 hi_241 ls hl
                          have hb_w0_241' := jb_01 hb_w0_241
                          refine j7_zast hx hb hK hh_241 hB hB124 3 rfl (by decide) (by decide) rfl rfl rfl hg_isInt_240 (rfl) (by omega) (hb_w0_241) (hb_w0_241) dX14_readNumber_285 (fun H_242 locs_242 hh_242 => ?_)
                          clear hh_241
                          refine lv_aload_n hx hb dX14_readNumber_286 rfl (lv_at hl 0 rfl) ?_
                          obtain ⟨v_243, hv_243, hh_244⟩ := hh_242.pin (C := RX14) (T := TX14) (N := 74) hB16 rfl (by decide) hg_r0 (i := 25) (by decide) rfl
                          clear hh_242
                          obtain ⟨ints_245, rfl, hg_ints_245⟩ := hv_243
                          refine j7_read hx hb hown hK (C := RX14) (T := TX14) (N := 74) rfl hly_16_25 (hts (.fieldLink RX14 62 "ProofServerModel" "ints" "[I") (by decide +kernel)) (hh_244.at 0 rfl) dX14_readNumber_287 ?_
                          refine lv_iload_n hx hb dX14_readNumber_290 rfl (lv_at hl 1 rfl) ?_
                          refine lv_lload hx hb dX14_readNumber_291 (lv_at hl 6 rfl) ?_
                          refine lv_l2i hx hb dX14_readNumber_293 rfl ?_
                          refine lv_topi (fun z_246 ez_246 => ?_)
                          refine j7_iast hx hb hK hh_244 hB hB125 1 rfl (by decide) (by decide) rfl rfl rfl hg_ints_245 (rfl) (by omega) (trivial) dX14_readNumber_294 (fun H_247 locs_247 hh_247 => ?_)
                          clear hh_244
                          refine lv_iload_n hx hb dX14_readNumber_295 rfl (lv_at hl 1 rfl) ?_
                          rw [hQ]
                          exact W.iret (v := r_2) hx hb hr (fun t ht hW => ⟨⟨r_2, (wt_236, qn_1, wb_236), rfl, by first | omega | (refine ⟨?_, ?_, ?_, ?_, ?_⟩ <;> (first | omega | rfl | assumption | decide | exact Or.inl rfl | exact Or.inr rfl | (simp only; omega))), hh_247.rt (M1 := [(r0, 16, 29, .int wt_236), (r0, 16, 26, .int qn_1), (r0, 16, 31, .int wb_236)]) [2, 5, 3] rfl ht⟩, by rw [ht]; try exact hh_247.1.1, fun q h9 hq => by rw [ht]; try exact hh_247.1.2.1 q h9 hq⟩) hh_247.1.2.2 dX14_readNumber_296
                        refine lv_if_eq (tgt := 284) hx hb dX14_readNumber_259 (by decide) (fun c_248 => ?_) (fun c_248 => ?_)
                        · skip
                          have c_248' : v6_236.toInt = 0 := jb_eq (rfl) ((by decide)) c_248
                          refine lv_iconst (v := 0) hx hb dX14_readNumber_284 (by decide) ?_
                          exact C285 0 _ _ hh_239 (Or.inl rfl) (trivial) _ (lv_sub hl [1, 2, 3, 4, 5, 6, 0] rfl)
                        · skip
                          have c_248' : v6_236.toInt ≠ 0 := jb_eq_n (rfl) ((by decide)) c_248
                          refine lv_lload hx hb dX14_readNumber_262 (lv_at hl 0 rfl) ?_
                          refine lv_ldc2 hx hb hown (hts (.constantLong RX14 329 (-2147483648)) (by decide +kernel)) dX14_readNumber_264 ?_
                          refine W.lcmp hx hb dX14_readNumber_267 ?_
                          refine lv_topi (fun z_249 ez_249 => ?_)
                          have hz_249 := jb_lcmp ez_249
                          have hqz_249_m2147483648 : ((-2147483648) : Int64).toInt = (-2147483648) := by decide
                          refine lv_if_lt (tgt := 284) hx hb dX14_readNumber_268 (by decide) (fun c_250 => ?_) (fun c_250 => ?_)
                          · skip
                            have c_250' : z_249.toInt < 0 := jb_lt (rfl) ((by decide)) c_250
                            refine lv_iconst (v := 0) hx hb dX14_readNumber_284 (by decide) ?_
                            exact C285 0 _ _ hh_239 (Or.inl rfl) (trivial) _ (lv_sub hl [1, 2, 3, 4, 5, 6, 0] rfl)
                          · skip
                            have c_250' : z_249.toInt ≥ 0 := jb_lt_n (rfl) ((by decide)) c_250
                            refine lv_lload hx hb dX14_readNumber_271 (lv_at hl 0 rfl) ?_
                            refine lv_ldc2 hx hb hown (hts (.constantLong RX14 331 2147483647) (by decide +kernel)) dX14_readNumber_273 ?_
                            refine W.lcmp hx hb dX14_readNumber_276 ?_
                            refine lv_topi (fun z_251 ez_251 => ?_)
                            have hz_251 := jb_lcmp ez_251
                            have hqz_251_2147483647 : (2147483647 : Int64).toInt = 2147483647 := by decide
                            refine lv_if_gt (tgt := 284) hx hb dX14_readNumber_277 (by decide) (fun c_252 => ?_) (fun c_252 => ?_)
                            · skip
                              have c_252' : z_251.toInt > 0 := jb_gt (rfl) ((by decide)) c_252
                              refine lv_iconst (v := 0) hx hb dX14_readNumber_284 (by decide) ?_
                              exact C285 0 _ _ hh_239 (Or.inl rfl) (trivial) _ (lv_sub hl [1, 2, 3, 4, 5, 6, 0] rfl)
                            · skip
                              have c_252' : z_251.toInt ≤ 0 := jb_gt_n (rfl) ((by decide)) c_252
                              refine lv_iconst (v := 1) hx hb dX14_readNumber_280 (by decide) ?_
                              refine lv_goto (tgt := 285) hx hb dX14_readNumber_281 (by decide) ?_
                              exact C285 1 _ _ hh_239 (Or.inr rfl) (trivial) _ (lv_sub hl [1, 2, 3, 4, 5, 6, 0] rfl)
                      · skip
                        exact absurd c_237 (by decide)
                    refine lv_if_ne (tgt := 238) hx hb dX14_readNumber_172 (by decide) (fun c_253 => ?_) (fun c_253 => ?_)
                    · skip
                      have c_253' : wb_235.toInt ≠ 0 := jb_ne (rfl) ((by decide)) c_253
                      exact C238 v6_235 wt_235 wb_235 _ _ hh_235 (hb_v6_235) (by first | omega | (refine ⟨?_, ?_, ?_⟩ <;> (first | omega | rfl | assumption | decide | exact Or.inl rfl | exact Or.inr rfl | (simp only; omega)))) _ (lv_sub hl [0, 1, 2, 3, 4, 5] rfl)
                    · skip
                      have c_253' : wb_235.toInt = 0 := jb_ne_n (rfl) ((by decide)) c_253
                      refine lv_aload_n hx hb dX14_readNumber_175 rfl (lv_at hl 0 rfl) ?_
                      refine va_calli (A0 := jA base) (H0 := s.heap) (va_runV (As := []) (rest := []) ⟨hx, hb, hml, hown, hts⟩ (uX14_here l dC dI ca base B hB hAp hB16 hB110 G0 H_235 r0 wt_235 pe) (cwV 0 hts gX14_readNumber_X14_here rfl rfl rfl (by decide +kernel) ⟨by rw [← hR]; exact Nat.le_of_ble_eq_true rfl, by rw [← hR]; exact Nat.le_of_ble_eq_true rfl⟩) ⟨fun a U g mk q => by obtain ⟨q0, q1, q2, qK, q10, q11, q12⟩ := q; exact ⟨q0, q1, q2, jG.calling g mk a qK, q10, q11, q12⟩, hh_235.recv (C := RX14) (T := TX14) (N := 74) hB16 rfl (by decide) hg_r0 hK, fun U hU hW => ⟨rfl, hU, hh_235.2.1, hG.step hW hU hh_235.1, hg_r0, (hh_235.2.2.1.sub (L1 := [(r0, 16, 29, .int wt_235), (r0, 16, 30, .int pe)]) [0, 4] rfl), by first | omega | (refine ⟨?_, ?_, ?_, ?_⟩ <;> (first | omega | rfl | assumption | decide | exact Or.inl rfl | exact Or.inr rfl | (simp only; omega)))⟩⟩ rfl rfl hl.1 rfl (lv_room (Nat.le_of_ble_eq_true rfl)) dX14_readNumber_176 ⟨Nat.zero_le _, Nat.zero_le _⟩) hh_235.1 (fun q _ h => h) (fun q h => h) (fun r_255 u_254 t_254 H_254 locs_254 ht_254 hvm_254 hr_255 hb_254 hz_254 hk_254 hS_254 => ?_)
                      rw [ht_254] at hb_254
                      obtain ⟨hb_2541, hb_2542, hb_2543, hb_2544, hb_2545⟩ := hb_254
                      have hh_254 : jSt (dC, dI) B base G0 G0 EX14_readNumber s.heap 0 0 [(r0, 16, 29, .int wt_235), (r0, 16, 31, .int wb_235), (r0, 16, 9, .ref kept_79), (r0, 16, 26, .int qn_1), (r0, 16, 30, .int pe)] [] [] H_254 locs_254 := (hh_235.call hb_2541 hb_2542 hb_2543 hb_2544 hS_254 rfl (L1 := [(r0, 16, 29, .int wt_235), (r0, 16, 31, .int wb_235), (r0, 16, 9, .ref kept_79), (r0, 16, 26, .int qn_1), (r0, 16, 30, .int pe)]) [0, 1, 2, 3, 4] rfl rfl (M1 := []) [] rfl rfl (I1 := []) [] rfl rfl).more hb_2545
                      clear hh_235 ht_254 hvm_254 hz_254 hk_254 hS_254 hb_2541 hb_2542 hb_2543 hb_2544 hb_2545
                      obtain ⟨hr_255_0, hr_255_1, hr_255_2⟩ := hr_255
                      refine lv_bipush (v := 101) hx hb dX14_readNumber_179 (by decide) ?_
                      refine lv_icmp_eq (tgt := 193) hx hb dX14_readNumber_181 (by decide) (fun c_256 => ?_) (fun c_256 => ?_)
                      · skip
                        have c_256' : r_255.toInt = 101 := jb_eq (rfl) ((by decide)) c_256
                        first | replace hr_255_2 := hr_255_2.resolve_left (by omega) | replace hr_255_2 := hr_255_2.resolve_right (by omega) | skip
                        refine lv_iconst (v := 0) hx hb dX14_readNumber_193 (by decide) ?_
                        refine lv_istore (lv' := [(6, .int 0), (0, .ref r0), (1, .int r_2), (2, .int 0), (3, .int wt_6), (4, .long v4_7)]) hx hb dX14_readNumber_194 hl (by decide) rfl (fun ls hl => ?_)
                        refine lv_aload_n hx hb dX14_readNumber_196 rfl (lv_at hl 1 rfl) ?_
                        refine lv_dup hx hb dX14_readNumber_197 rfl ?_
                        refine j7_read hx hb hown hK (C := RX14) (T := TX14) (N := 74) rfl hly_16_29 (hts (.fieldLink RX14 273 "ProofServerModel" "at" "I") (by decide +kernel)) (hh_254.at 0 rfl) dX14_readNumber_198 ?_
                        refine lv_iconst (v := 1) hx hb dX14_readNumber_201 (by decide) ?_
                        refine lv_iadd hx hb dX14_readNumber_202 ?_
                        refine lv_topi (fun z_257 ez_257 => ?_)
                        have hz_257 : z_257.toInt = wt_235.toInt + 1 := by rw [ez_257]; exact jb_iadd2 (rfl) ((by decide)) (by omega)
                        refine j7_put hx hb hown hK hh_254 hB hAp hB16 (C := RX14) (T := TX14) (N := 74) rfl (by decide) hg_r0 (i := 29) (by decide) hly_16_29 rfl (hts (.fieldLink RX14 273 "ProofServerModel" "at" "I") (by decide +kernel)) rfl (ty := .int) (v := .int z_257) (by decide +kernel) rfl rfl (⟨_, rfl, by omega, by omega⟩) rfl (L1 := [(r0, 16, 31, .int wb_235), (r0, 16, 9, .ref kept_79), (r0, 16, 26, .int qn_1), (r0, 16, 30, .int pe)]) [1, 2, 3, 4] rfl rfl rfl dX14_readNumber_203 (fun H_258 locs_258 hh_258 => ?_)
                        clear hh_254
                        refine lv_aload_n hx hb dX14_readNumber_206 rfl (lv_at hl 1 rfl) ?_
                        refine va_calli (A0 := jA base) (H0 := s.heap) (va_runV (As := []) (rest := []) ⟨hx, hb, hml, hown, hts⟩ (uX14_here l dC dI ca base B hB hAp hB16 hB110 G0 H_258 r0 z_257 pe) (cwV 0 hts gX14_readNumber_X14_here rfl rfl rfl (by decide +kernel) ⟨by rw [← hR]; exact Nat.le_of_ble_eq_true rfl, by rw [← hR]; exact Nat.le_of_ble_eq_true rfl⟩) ⟨fun a U g mk q => by obtain ⟨q0, q1, q2, qK, q10, q11, q12⟩ := q; exact ⟨q0, q1, q2, jG.calling g mk a qK, q10, q11, q12⟩, hh_258.recv (C := RX14) (T := TX14) (N := 74) hB16 rfl (by decide) hg_r0 hK, fun U hU hW => ⟨rfl, hU, hh_258.2.1, hG.step hW hU hh_258.1, hg_r0, (hh_258.2.2.1.sub (L1 := [(r0, 16, 29, .int z_257), (r0, 16, 30, .int pe)]) [0, 4] rfl), by first | omega | (refine ⟨?_, ?_, ?_, ?_⟩ <;> (first | omega | rfl | assumption | decide | exact Or.inl rfl | exact Or.inr rfl | (simp only; omega)))⟩⟩ rfl rfl hl.1 rfl (lv_room (Nat.le_of_ble_eq_true rfl)) dX14_readNumber_207 ⟨Nat.zero_le _, Nat.zero_le _⟩) hh_258.1 (fun q _ h => h) (fun q h => h) (fun r_260 u_259 t_259 H_259 locs_259 ht_259 hvm_259 hr_260 hb_259 hz_259 hk_259 hS_259 => ?_)
                        rw [ht_259] at hb_259
                        obtain ⟨hb_2591, hb_2592, hb_2593, hb_2594, hb_2595⟩ := hb_259
                        have hh_259 : jSt (dC, dI) B base G0 G0 EX14_readNumber s.heap 0 0 [(r0, 16, 29, .int z_257), (r0, 16, 31, .int wb_235), (r0, 16, 9, .ref kept_79), (r0, 16, 26, .int qn_1), (r0, 16, 30, .int pe)] [] [] H_259 locs_259 := (hh_258.call hb_2591 hb_2592 hb_2593 hb_2594 hS_259 rfl (L1 := [(r0, 16, 29, .int z_257), (r0, 16, 31, .int wb_235), (r0, 16, 9, .ref kept_79), (r0, 16, 26, .int qn_1), (r0, 16, 30, .int pe)]) [0, 1, 2, 3, 4] rfl rfl (M1 := []) [] rfl rfl (I1 := []) [] rfl rfl).more hb_2595
                        clear hh_258 ht_259 hvm_259 hz_259 hk_259 hS_259 hb_2591 hb_2592 hb_2593 hb_2594 hb_2595
                        obtain ⟨hr_260_0, hr_260_1, hr_260_2⟩ := hr_260
                        refine lv_bipush (v := 43) hx hb dX14_readNumber_210 (by decide) ?_
                        have C234 : ∀ (wt_261 : Int32) (H_261 : Heap) (locs_261 : List Loc), jSt (dC, dI) B base G0 G0 EX14_readNumber s.heap 0 0 [(r0, 16, 29, .int wt_261), (r0, 16, 31, .int wb_235), (r0, 16, 9, .ref kept_79), (r0, 16, 26, .int qn_1), (r0, 16, 30, .int pe)] [] [] H_261 locs_261 → (pt.toInt ≤ wt_261.toInt ∧ wt_261.toInt ≤ pe.toInt ∧ pt.toInt + 1 ≤ wt_261.toInt) → ∀ ls : Array Slot, lv_has ls 9 [(0, .ref r0), (1, .int r_2), (2, .int 0), (3, .int wt_6), (4, .long v4_7), (6, .int 0)] → W p l e R s m ([.ref r0] : List Value).toArray below meth c H_261 locs_261 0 0 Q (F0 m 234 ls []) := by
                          intro wt_261 H_261 locs_261 hh_261  hi_261 ls hl
                          obtain ⟨hi_261_0, hi_261_1, hi_261_2⟩ := hi_261
                          clear hr_255_2 hr_260_2
                          refine lv_aload_n hx hb dX14_readNumber_234 rfl (lv_at hl 0 rfl) ?_
                          refine va_callv (A0 := jA base) (H0 := s.heap) (va_runV (As := []) (rest := []) ⟨hx, hb, hml, hown, hts⟩ (uX14_digits l dC dI ca base B hB hAp hB16 hB110 G0 H_261 r0 wt_261 pe) (cwV 0 hts gX14_readNumber_X14_digits rfl rfl rfl (by decide +kernel) ⟨by rw [← hR]; exact Nat.le_of_ble_eq_true rfl, by rw [← hR]; exact Nat.le_of_ble_eq_true rfl⟩) ⟨fun a U g mk q => by obtain ⟨q0, q1, q2, qK, q10, q11, q12⟩ := q; exact ⟨q0, q1, q2, jG.calling g mk a qK, q10, q11, q12⟩, hh_261.recv (C := RX14) (T := TX14) (N := 74) hB16 rfl (by decide) hg_r0 hK, fun U hU hW => ⟨rfl, hU, hh_261.2.1, hG.step hW hU hh_261.1, hg_r0, (hh_261.2.2.1.sub (L1 := [(r0, 16, 29, .int wt_261), (r0, 16, 30, .int pe)]) [0, 4] rfl), by first | omega | (refine ⟨?_, ?_, ?_, ?_, ?_⟩ <;> (first | omega | rfl | assumption | decide | exact Or.inl rfl | exact Or.inr rfl | (simp only; omega)))⟩⟩ rfl rfl hl.1 rfl (lv_room (Nat.le_of_ble_eq_true rfl)) dX14_readNumber_235 ⟨Nat.zero_le _, Nat.zero_le _⟩) hh_261.1 (fun q _ h => h) (fun q h => h) (fun u_262 t_262 H_262 locs_262 ht_262 hvm_262 hr_263 hb_262 hz_262 hk_262 hS_262 => ?_)
                          obtain ⟨qt_262, rfl⟩ : ∃ z, z = u_262 := ⟨_, rfl⟩
                          rw [ht_262] at hb_262
                          obtain ⟨hb_2621, hb_2622, hb_2623, hb_2624, hb_2625⟩ := hb_262
                          have hh_262 : jSt (dC, dI) B base G0 G0 EX14_readNumber s.heap 0 0 [(r0, 16, 29, .int qt_262), (r0, 16, 9, .ref kept_79), (r0, 16, 26, .int qn_1), (r0, 16, 30, .int pe)] [] [] H_262 locs_262 := (hh_261.call hb_2621 hb_2622 hb_2623 hb_2624 hS_262 rfl (L1 := [(r0, 16, 9, .ref kept_79), (r0, 16, 26, .int qn_1), (r0, 16, 30, .int pe)]) [2, 3, 4] rfl rfl (M1 := []) [] rfl rfl (I1 := []) [] rfl rfl).more hb_2625
                          clear hh_261 ht_262 hvm_262 hz_262 hk_262 hS_262 hb_2621 hb_2622 hb_2623 hb_2624 hb_2625
                          obtain ⟨hr_263_0, hr_263_1⟩ := hr_263
                          obtain ⟨v_264, hv_264, hh_265⟩ := hh_262.pin (C := RX14) (T := TX14) (N := 74) hB16 rfl (by decide) hg_r0 (i := 31) (by decide) rfl
                          obtain ⟨bad_266, rfl, hzbad_266⟩ := hv_264
                          have hzbad_266' := jb_01 hzbad_266
                          exact C238 0 qt_262 bad_266 _ _ (hh_265.sub (L1 := [(r0, 16, 29, .int qt_262), (r0, 16, 31, .int bad_266), (r0, 16, 9, .ref kept_79), (r0, 16, 26, .int qn_1), (r0, 16, 30, .int pe)]) [1, 0, 2, 3, 4] rfl (M1 := []) [] rfl (I1 := []) [] rfl) (Or.inl rfl) (by first | omega | (refine ⟨?_, ?_, ?_⟩ <;> (first | omega | rfl | assumption | decide | exact Or.inl rfl | exact Or.inr rfl | (simp only; omega)))) _ (lv_sub hl [0, 1, 2, 3, 4, 5] rfl)
                        refine lv_icmp_eq (tgt := 224) hx hb dX14_readNumber_212 (by decide) (fun c_267 => ?_) (fun c_267 => ?_)
                        · skip
                          have c_267' : r_260.toInt = 43 := jb_eq (rfl) ((by decide)) c_267
                          first | replace hr_260_2 := hr_260_2.resolve_left (by omega) | replace hr_260_2 := hr_260_2.resolve_right (by omega) | skip
                          refine lv_aload_n hx hb dX14_readNumber_224 rfl (lv_at hl 1 rfl) ?_
                          refine lv_dup hx hb dX14_readNumber_225 rfl ?_
                          refine j7_read hx hb hown hK (C := RX14) (T := TX14) (N := 74) rfl hly_16_29 (hts (.fieldLink RX14 273 "ProofServerModel" "at" "I") (by decide +kernel)) (hh_259.at 0 rfl) dX14_readNumber_226 ?_
                          refine lv_iconst (v := 1) hx hb dX14_readNumber_229 (by decide) ?_
                          refine lv_iadd hx hb dX14_readNumber_230 ?_
                          refine lv_topi (fun z_268 ez_268 => ?_)
                          have hz_268 : z_268.toInt = z_257.toInt + 1 := by rw [ez_268]; exact jb_iadd2 (rfl) ((by decide)) (by omega)
                          refine j7_put hx hb hown hK hh_259 hB hAp hB16 (C := RX14) (T := TX14) (N := 74) rfl (by decide) hg_r0 (i := 29) (by decide) hly_16_29 rfl (hts (.fieldLink RX14 273 "ProofServerModel" "at" "I") (by decide +kernel)) rfl (ty := .int) (v := .int z_268) (by decide +kernel) rfl rfl (⟨_, rfl, by omega, by omega⟩) rfl (L1 := [(r0, 16, 31, .int wb_235), (r0, 16, 9, .ref kept_79), (r0, 16, 26, .int qn_1), (r0, 16, 30, .int pe)]) [1, 2, 3, 4] rfl rfl rfl dX14_readNumber_231 (fun H_269 locs_269 hh_269 => ?_)
                          clear hh_259
                          exact C234 z_268 _ _ hh_269 (by first | omega | (refine ⟨?_, ?_, ?_⟩ <;> (first | omega | rfl | assumption | decide | exact Or.inl rfl | exact Or.inr rfl | (simp only; omega)))) _ (lv_sub hl [1, 2, 3, 4, 5, 0] rfl)
                        · skip
                          have c_267' : r_260.toInt ≠ 43 := jb_eq_n (rfl) ((by decide)) c_267
                          first | replace hr_260_2 := hr_260_2.resolve_left (by omega) | replace hr_260_2 := hr_260_2.resolve_right (by omega) | skip
                          refine lv_aload_n hx hb dX14_readNumber_215 rfl (lv_at hl 1 rfl) ?_
                          refine va_calli (A0 := jA base) (H0 := s.heap) (va_runV (As := []) (rest := []) ⟨hx, hb, hml, hown, hts⟩ (uX14_here l dC dI ca base B hB hAp hB16 hB110 G0 H_259 r0 z_257 pe) (cwV 0 hts gX14_readNumber_X14_here rfl rfl rfl (by decide +kernel) ⟨by rw [← hR]; exact Nat.le_of_ble_eq_true rfl, by rw [← hR]; exact Nat.le_of_ble_eq_true rfl⟩) ⟨fun a U g mk q => by obtain ⟨q0, q1, q2, qK, q10, q11, q12⟩ := q; exact ⟨q0, q1, q2, jG.calling g mk a qK, q10, q11, q12⟩, hh_259.recv (C := RX14) (T := TX14) (N := 74) hB16 rfl (by decide) hg_r0 hK, fun U hU hW => ⟨rfl, hU, hh_259.2.1, hG.step hW hU hh_259.1, hg_r0, (hh_259.2.2.1.sub (L1 := [(r0, 16, 29, .int z_257), (r0, 16, 30, .int pe)]) [0, 4] rfl), by first | omega | (refine ⟨?_, ?_, ?_, ?_⟩ <;> (first | omega | rfl | assumption | decide | exact Or.inl rfl | exact Or.inr rfl | (simp only; omega)))⟩⟩ rfl rfl hl.1 rfl (lv_room (Nat.le_of_ble_eq_true rfl)) dX14_readNumber_216 ⟨Nat.zero_le _, Nat.zero_le _⟩) hh_259.1 (fun q _ h => h) (fun q h => h) (fun r_271 u_270 t_270 H_270 locs_270 ht_270 hvm_270 hr_271 hb_270 hz_270 hk_270 hS_270 => ?_)
                          rw [ht_270] at hb_270
                          obtain ⟨hb_2701, hb_2702, hb_2703, hb_2704, hb_2705⟩ := hb_270
                          have hh_270 : jSt (dC, dI) B base G0 G0 EX14_readNumber s.heap 0 0 [(r0, 16, 29, .int z_257), (r0, 16, 31, .int wb_235), (r0, 16, 9, .ref kept_79), (r0, 16, 26, .int qn_1), (r0, 16, 30, .int pe)] [] [] H_270 locs_270 := (hh_259.call hb_2701 hb_2702 hb_2703 hb_2704 hS_270 rfl (L1 := [(r0, 16, 29, .int z_257), (r0, 16, 31, .int wb_235), (r0, 16, 9, .ref kept_79), (r0, 16, 26, .int qn_1), (r0, 16, 30, .int pe)]) [0, 1, 2, 3, 4] rfl rfl (M1 := []) [] rfl rfl (I1 := []) [] rfl rfl).more hb_2705
                          clear hh_259 ht_270 hvm_270 hz_270 hk_270 hS_270 hb_2701 hb_2702 hb_2703 hb_2704 hb_2705
                          obtain ⟨hr_271_0, hr_271_1, hr_271_2⟩ := hr_271
                          refine lv_bipush (v := 45) hx hb dX14_readNumber_219 (by decide) ?_
                          refine lv_icmp_ne (tgt := 234) hx hb dX14_readNumber_221 (by decide) (fun c_272 => ?_) (fun c_272 => ?_)
                          · skip
                            have c_272' : r_271.toInt ≠ 45 := jb_ne (rfl) ((by decide)) c_272
                            first | replace hr_271_2 := hr_271_2.resolve_left (by omega) | replace hr_271_2 := hr_271_2.resolve_right (by omega) | skip
                            exact C234 z_257 _ _ hh_270 (by first | omega | (refine ⟨?_, ?_, ?_⟩ <;> (first | omega | rfl | assumption | decide | exact Or.inl rfl | exact Or.inr rfl | (simp only; omega)))) _ (lv_sub hl [1, 2, 3, 4, 5, 0] rfl)
                          · skip
                            have c_272' : r_271.toInt = 45 := jb_ne_n (rfl) ((by decide)) c_272
                            first | replace hr_271_2 := hr_271_2.resolve_left (by omega) | replace hr_271_2 := hr_271_2.resolve_right (by omega) | skip
                            refine lv_aload_n hx hb dX14_readNumber_224 rfl (lv_at hl 1 rfl) ?_
                            refine lv_dup hx hb dX14_readNumber_225 rfl ?_
                            refine j7_read hx hb hown hK (C := RX14) (T := TX14) (N := 74) rfl hly_16_29 (hts (.fieldLink RX14 273 "ProofServerModel" "at" "I") (by decide +kernel)) (hh_270.at 0 rfl) dX14_readNumber_226 ?_
                            refine lv_iconst (v := 1) hx hb dX14_readNumber_229 (by decide) ?_
                            refine lv_iadd hx hb dX14_readNumber_230 ?_
                            refine lv_topi (fun z_273 ez_273 => ?_)
                            have hz_273 : z_273.toInt = z_257.toInt + 1 := by rw [ez_273]; exact jb_iadd2 (rfl) ((by decide)) (by omega)
                            refine j7_put hx hb hown hK hh_270 hB hAp hB16 (C := RX14) (T := TX14) (N := 74) rfl (by decide) hg_r0 (i := 29) (by decide) hly_16_29 rfl (hts (.fieldLink RX14 273 "ProofServerModel" "at" "I") (by decide +kernel)) rfl (ty := .int) (v := .int z_273) (by decide +kernel) rfl rfl (⟨_, rfl, by omega, by omega⟩) rfl (L1 := [(r0, 16, 31, .int wb_235), (r0, 16, 9, .ref kept_79), (r0, 16, 26, .int qn_1), (r0, 16, 30, .int pe)]) [1, 2, 3, 4] rfl rfl rfl dX14_readNumber_231 (fun H_274 locs_274 hh_274 => ?_)
                            clear hh_270
                            exact C234 z_273 _ _ hh_274 (by first | omega | (refine ⟨?_, ?_, ?_⟩ <;> (first | omega | rfl | assumption | decide | exact Or.inl rfl | exact Or.inr rfl | (simp only; omega)))) _ (lv_sub hl [1, 2, 3, 4, 5, 0] rfl)
                      · skip
                        have c_256' : r_255.toInt ≠ 101 := jb_eq_n (rfl) ((by decide)) c_256
                        first | replace hr_255_2 := hr_255_2.resolve_left (by omega) | replace hr_255_2 := hr_255_2.resolve_right (by omega) | skip
                        refine lv_aload_n hx hb dX14_readNumber_184 rfl (lv_at hl 0 rfl) ?_
                        refine va_calli (A0 := jA base) (H0 := s.heap) (va_runV (As := []) (rest := []) ⟨hx, hb, hml, hown, hts⟩ (uX14_here l dC dI ca base B hB hAp hB16 hB110 G0 H_254 r0 wt_235 pe) (cwV 0 hts gX14_readNumber_X14_here rfl rfl rfl (by decide +kernel) ⟨by rw [← hR]; exact Nat.le_of_ble_eq_true rfl, by rw [← hR]; exact Nat.le_of_ble_eq_true rfl⟩) ⟨fun a U g mk q => by obtain ⟨q0, q1, q2, qK, q10, q11, q12⟩ := q; exact ⟨q0, q1, q2, jG.calling g mk a qK, q10, q11, q12⟩, hh_254.recv (C := RX14) (T := TX14) (N := 74) hB16 rfl (by decide) hg_r0 hK, fun U hU hW => ⟨rfl, hU, hh_254.2.1, hG.step hW hU hh_254.1, hg_r0, (hh_254.2.2.1.sub (L1 := [(r0, 16, 29, .int wt_235), (r0, 16, 30, .int pe)]) [0, 4] rfl), by first | omega | (refine ⟨?_, ?_, ?_, ?_⟩ <;> (first | omega | rfl | assumption | decide | exact Or.inl rfl | exact Or.inr rfl | (simp only; omega)))⟩⟩ rfl rfl hl.1 rfl (lv_room (Nat.le_of_ble_eq_true rfl)) dX14_readNumber_185 ⟨Nat.zero_le _, Nat.zero_le _⟩) hh_254.1 (fun q _ h => h) (fun q h => h) (fun r_276 u_275 t_275 H_275 locs_275 ht_275 hvm_275 hr_276 hb_275 hz_275 hk_275 hS_275 => ?_)
                        rw [ht_275] at hb_275
                        obtain ⟨hb_2751, hb_2752, hb_2753, hb_2754, hb_2755⟩ := hb_275
                        have hh_275 : jSt (dC, dI) B base G0 G0 EX14_readNumber s.heap 0 0 [(r0, 16, 29, .int wt_235), (r0, 16, 31, .int wb_235), (r0, 16, 9, .ref kept_79), (r0, 16, 26, .int qn_1), (r0, 16, 30, .int pe)] [] [] H_275 locs_275 := (hh_254.call hb_2751 hb_2752 hb_2753 hb_2754 hS_275 rfl (L1 := [(r0, 16, 29, .int wt_235), (r0, 16, 31, .int wb_235), (r0, 16, 9, .ref kept_79), (r0, 16, 26, .int qn_1), (r0, 16, 30, .int pe)]) [0, 1, 2, 3, 4] rfl rfl (M1 := []) [] rfl rfl (I1 := []) [] rfl rfl).more hb_2755
                        clear hh_254 ht_275 hvm_275 hz_275 hk_275 hS_275 hb_2751 hb_2752 hb_2753 hb_2754 hb_2755
                        obtain ⟨hr_276_0, hr_276_1, hr_276_2⟩ := hr_276
                        refine lv_bipush (v := 69) hx hb dX14_readNumber_188 (by decide) ?_
                        refine lv_icmp_ne (tgt := 238) hx hb dX14_readNumber_190 (by decide) (fun c_277 => ?_) (fun c_277 => ?_)
                        · skip
                          have c_277' : r_276.toInt ≠ 69 := jb_ne (rfl) ((by decide)) c_277
                          first | replace hr_276_2 := hr_276_2.resolve_left (by omega) | replace hr_276_2 := hr_276_2.resolve_right (by omega) | skip
                          exact C238 v6_235 wt_235 wb_235 _ _ hh_275 (hb_v6_235) (by first | omega | (refine ⟨?_, ?_, ?_⟩ <;> (first | omega | rfl | assumption | decide | exact Or.inl rfl | exact Or.inr rfl | (simp only; omega)))) _ (lv_sub hl [0, 1, 2, 3, 4, 5] rfl)
                        · skip
                          have c_277' : r_276.toInt = 69 := jb_ne_n (rfl) ((by decide)) c_277
                          first | replace hr_276_2 := hr_276_2.resolve_left (by omega) | replace hr_276_2 := hr_276_2.resolve_right (by omega) | skip
                          refine lv_iconst (v := 0) hx hb dX14_readNumber_193 (by decide) ?_
                          refine lv_istore (lv' := [(6, .int 0), (0, .ref r0), (1, .int r_2), (2, .int 0), (3, .int wt_6), (4, .long v4_7)]) hx hb dX14_readNumber_194 hl (by decide) rfl (fun ls hl => ?_)
                          refine lv_aload_n hx hb dX14_readNumber_196 rfl (lv_at hl 1 rfl) ?_
                          refine lv_dup hx hb dX14_readNumber_197 rfl ?_
                          refine j7_read hx hb hown hK (C := RX14) (T := TX14) (N := 74) rfl hly_16_29 (hts (.fieldLink RX14 273 "ProofServerModel" "at" "I") (by decide +kernel)) (hh_275.at 0 rfl) dX14_readNumber_198 ?_
                          refine lv_iconst (v := 1) hx hb dX14_readNumber_201 (by decide) ?_
                          refine lv_iadd hx hb dX14_readNumber_202 ?_
                          refine lv_topi (fun z_278 ez_278 => ?_)
                          have hz_278 : z_278.toInt = wt_235.toInt + 1 := by rw [ez_278]; exact jb_iadd2 (rfl) ((by decide)) (by omega)
                          refine j7_put hx hb hown hK hh_275 hB hAp hB16 (C := RX14) (T := TX14) (N := 74) rfl (by decide) hg_r0 (i := 29) (by decide) hly_16_29 rfl (hts (.fieldLink RX14 273 "ProofServerModel" "at" "I") (by decide +kernel)) rfl (ty := .int) (v := .int z_278) (by decide +kernel) rfl rfl (⟨_, rfl, by omega, by omega⟩) rfl (L1 := [(r0, 16, 31, .int wb_235), (r0, 16, 9, .ref kept_79), (r0, 16, 26, .int qn_1), (r0, 16, 30, .int pe)]) [1, 2, 3, 4] rfl rfl rfl dX14_readNumber_203 (fun H_279 locs_279 hh_279 => ?_)
                          clear hh_275
                          refine lv_aload_n hx hb dX14_readNumber_206 rfl (lv_at hl 1 rfl) ?_
                          refine va_calli (A0 := jA base) (H0 := s.heap) (va_runV (As := []) (rest := []) ⟨hx, hb, hml, hown, hts⟩ (uX14_here l dC dI ca base B hB hAp hB16 hB110 G0 H_279 r0 z_278 pe) (cwV 0 hts gX14_readNumber_X14_here rfl rfl rfl (by decide +kernel) ⟨by rw [← hR]; exact Nat.le_of_ble_eq_true rfl, by rw [← hR]; exact Nat.le_of_ble_eq_true rfl⟩) ⟨fun a U g mk q => by obtain ⟨q0, q1, q2, qK, q10, q11, q12⟩ := q; exact ⟨q0, q1, q2, jG.calling g mk a qK, q10, q11, q12⟩, hh_279.recv (C := RX14) (T := TX14) (N := 74) hB16 rfl (by decide) hg_r0 hK, fun U hU hW => ⟨rfl, hU, hh_279.2.1, hG.step hW hU hh_279.1, hg_r0, (hh_279.2.2.1.sub (L1 := [(r0, 16, 29, .int z_278), (r0, 16, 30, .int pe)]) [0, 4] rfl), by first | omega | (refine ⟨?_, ?_, ?_, ?_⟩ <;> (first | omega | rfl | assumption | decide | exact Or.inl rfl | exact Or.inr rfl | (simp only; omega)))⟩⟩ rfl rfl hl.1 rfl (lv_room (Nat.le_of_ble_eq_true rfl)) dX14_readNumber_207 ⟨Nat.zero_le _, Nat.zero_le _⟩) hh_279.1 (fun q _ h => h) (fun q h => h) (fun r_281 u_280 t_280 H_280 locs_280 ht_280 hvm_280 hr_281 hb_280 hz_280 hk_280 hS_280 => ?_)
                          rw [ht_280] at hb_280
                          obtain ⟨hb_2801, hb_2802, hb_2803, hb_2804, hb_2805⟩ := hb_280
                          have hh_280 : jSt (dC, dI) B base G0 G0 EX14_readNumber s.heap 0 0 [(r0, 16, 29, .int z_278), (r0, 16, 31, .int wb_235), (r0, 16, 9, .ref kept_79), (r0, 16, 26, .int qn_1), (r0, 16, 30, .int pe)] [] [] H_280 locs_280 := (hh_279.call hb_2801 hb_2802 hb_2803 hb_2804 hS_280 rfl (L1 := [(r0, 16, 29, .int z_278), (r0, 16, 31, .int wb_235), (r0, 16, 9, .ref kept_79), (r0, 16, 26, .int qn_1), (r0, 16, 30, .int pe)]) [0, 1, 2, 3, 4] rfl rfl (M1 := []) [] rfl rfl (I1 := []) [] rfl rfl).more hb_2805
                          clear hh_279 ht_280 hvm_280 hz_280 hk_280 hS_280 hb_2801 hb_2802 hb_2803 hb_2804 hb_2805
                          obtain ⟨hr_281_0, hr_281_1, hr_281_2⟩ := hr_281
                          refine lv_bipush (v := 43) hx hb dX14_readNumber_210 (by decide) ?_
                          have C234 : ∀ (wt_282 : Int32) (H_282 : Heap) (locs_282 : List Loc), jSt (dC, dI) B base G0 G0 EX14_readNumber s.heap 0 0 [(r0, 16, 29, .int wt_282), (r0, 16, 31, .int wb_235), (r0, 16, 9, .ref kept_79), (r0, 16, 26, .int qn_1), (r0, 16, 30, .int pe)] [] [] H_282 locs_282 → (pt.toInt ≤ wt_282.toInt ∧ wt_282.toInt ≤ pe.toInt ∧ pt.toInt + 1 ≤ wt_282.toInt) → ∀ ls : Array Slot, lv_has ls 9 [(0, .ref r0), (1, .int r_2), (2, .int 0), (3, .int wt_6), (4, .long v4_7), (6, .int 0)] → W p l e R s m ([.ref r0] : List Value).toArray below meth c H_282 locs_282 0 0 Q (F0 m 234 ls []) := by
                            intro wt_282 H_282 locs_282 hh_282  hi_282 ls hl
                            obtain ⟨hi_282_0, hi_282_1, hi_282_2⟩ := hi_282
                            clear hr_255_2 hr_276_2 hr_281_2
                            refine lv_aload_n hx hb dX14_readNumber_234 rfl (lv_at hl 0 rfl) ?_
                            refine va_callv (A0 := jA base) (H0 := s.heap) (va_runV (As := []) (rest := []) ⟨hx, hb, hml, hown, hts⟩ (uX14_digits l dC dI ca base B hB hAp hB16 hB110 G0 H_282 r0 wt_282 pe) (cwV 0 hts gX14_readNumber_X14_digits rfl rfl rfl (by decide +kernel) ⟨by rw [← hR]; exact Nat.le_of_ble_eq_true rfl, by rw [← hR]; exact Nat.le_of_ble_eq_true rfl⟩) ⟨fun a U g mk q => by obtain ⟨q0, q1, q2, qK, q10, q11, q12⟩ := q; exact ⟨q0, q1, q2, jG.calling g mk a qK, q10, q11, q12⟩, hh_282.recv (C := RX14) (T := TX14) (N := 74) hB16 rfl (by decide) hg_r0 hK, fun U hU hW => ⟨rfl, hU, hh_282.2.1, hG.step hW hU hh_282.1, hg_r0, (hh_282.2.2.1.sub (L1 := [(r0, 16, 29, .int wt_282), (r0, 16, 30, .int pe)]) [0, 4] rfl), by first | omega | (refine ⟨?_, ?_, ?_, ?_, ?_⟩ <;> (first | omega | rfl | assumption | decide | exact Or.inl rfl | exact Or.inr rfl | (simp only; omega)))⟩⟩ rfl rfl hl.1 rfl (lv_room (Nat.le_of_ble_eq_true rfl)) dX14_readNumber_235 ⟨Nat.zero_le _, Nat.zero_le _⟩) hh_282.1 (fun q _ h => h) (fun q h => h) (fun u_283 t_283 H_283 locs_283 ht_283 hvm_283 hr_284 hb_283 hz_283 hk_283 hS_283 => ?_)
                            obtain ⟨qt_283, rfl⟩ : ∃ z, z = u_283 := ⟨_, rfl⟩
                            rw [ht_283] at hb_283
                            obtain ⟨hb_2831, hb_2832, hb_2833, hb_2834, hb_2835⟩ := hb_283
                            have hh_283 : jSt (dC, dI) B base G0 G0 EX14_readNumber s.heap 0 0 [(r0, 16, 29, .int qt_283), (r0, 16, 9, .ref kept_79), (r0, 16, 26, .int qn_1), (r0, 16, 30, .int pe)] [] [] H_283 locs_283 := (hh_282.call hb_2831 hb_2832 hb_2833 hb_2834 hS_283 rfl (L1 := [(r0, 16, 9, .ref kept_79), (r0, 16, 26, .int qn_1), (r0, 16, 30, .int pe)]) [2, 3, 4] rfl rfl (M1 := []) [] rfl rfl (I1 := []) [] rfl rfl).more hb_2835
                            clear hh_282 ht_283 hvm_283 hz_283 hk_283 hS_283 hb_2831 hb_2832 hb_2833 hb_2834 hb_2835
                            obtain ⟨hr_284_0, hr_284_1⟩ := hr_284
                            obtain ⟨v_285, hv_285, hh_286⟩ := hh_283.pin (C := RX14) (T := TX14) (N := 74) hB16 rfl (by decide) hg_r0 (i := 31) (by decide) rfl
                            obtain ⟨bad_287, rfl, hzbad_287⟩ := hv_285
                            have hzbad_287' := jb_01 hzbad_287
                            exact C238 0 qt_283 bad_287 _ _ (hh_286.sub (L1 := [(r0, 16, 29, .int qt_283), (r0, 16, 31, .int bad_287), (r0, 16, 9, .ref kept_79), (r0, 16, 26, .int qn_1), (r0, 16, 30, .int pe)]) [1, 0, 2, 3, 4] rfl (M1 := []) [] rfl (I1 := []) [] rfl) (Or.inl rfl) (by first | omega | (refine ⟨?_, ?_, ?_⟩ <;> (first | omega | rfl | assumption | decide | exact Or.inl rfl | exact Or.inr rfl | (simp only; omega)))) _ (lv_sub hl [0, 1, 2, 3, 4, 5] rfl)
                          refine lv_icmp_eq (tgt := 224) hx hb dX14_readNumber_212 (by decide) (fun c_288 => ?_) (fun c_288 => ?_)
                          · skip
                            have c_288' : r_281.toInt = 43 := jb_eq (rfl) ((by decide)) c_288
                            first | replace hr_281_2 := hr_281_2.resolve_left (by omega) | replace hr_281_2 := hr_281_2.resolve_right (by omega) | skip
                            refine lv_aload_n hx hb dX14_readNumber_224 rfl (lv_at hl 1 rfl) ?_
                            refine lv_dup hx hb dX14_readNumber_225 rfl ?_
                            refine j7_read hx hb hown hK (C := RX14) (T := TX14) (N := 74) rfl hly_16_29 (hts (.fieldLink RX14 273 "ProofServerModel" "at" "I") (by decide +kernel)) (hh_280.at 0 rfl) dX14_readNumber_226 ?_
                            refine lv_iconst (v := 1) hx hb dX14_readNumber_229 (by decide) ?_
                            refine lv_iadd hx hb dX14_readNumber_230 ?_
                            refine lv_topi (fun z_289 ez_289 => ?_)
                            have hz_289 : z_289.toInt = z_278.toInt + 1 := by rw [ez_289]; exact jb_iadd2 (rfl) ((by decide)) (by omega)
                            refine j7_put hx hb hown hK hh_280 hB hAp hB16 (C := RX14) (T := TX14) (N := 74) rfl (by decide) hg_r0 (i := 29) (by decide) hly_16_29 rfl (hts (.fieldLink RX14 273 "ProofServerModel" "at" "I") (by decide +kernel)) rfl (ty := .int) (v := .int z_289) (by decide +kernel) rfl rfl (⟨_, rfl, by omega, by omega⟩) rfl (L1 := [(r0, 16, 31, .int wb_235), (r0, 16, 9, .ref kept_79), (r0, 16, 26, .int qn_1), (r0, 16, 30, .int pe)]) [1, 2, 3, 4] rfl rfl rfl dX14_readNumber_231 (fun H_290 locs_290 hh_290 => ?_)
                            clear hh_280
                            exact C234 z_289 _ _ hh_290 (by first | omega | (refine ⟨?_, ?_, ?_⟩ <;> (first | omega | rfl | assumption | decide | exact Or.inl rfl | exact Or.inr rfl | (simp only; omega)))) _ (lv_sub hl [1, 2, 3, 4, 5, 0] rfl)
                          · skip
                            have c_288' : r_281.toInt ≠ 43 := jb_eq_n (rfl) ((by decide)) c_288
                            first | replace hr_281_2 := hr_281_2.resolve_left (by omega) | replace hr_281_2 := hr_281_2.resolve_right (by omega) | skip
                            refine lv_aload_n hx hb dX14_readNumber_215 rfl (lv_at hl 1 rfl) ?_
                            refine va_calli (A0 := jA base) (H0 := s.heap) (va_runV (As := []) (rest := []) ⟨hx, hb, hml, hown, hts⟩ (uX14_here l dC dI ca base B hB hAp hB16 hB110 G0 H_280 r0 z_278 pe) (cwV 0 hts gX14_readNumber_X14_here rfl rfl rfl (by decide +kernel) ⟨by rw [← hR]; exact Nat.le_of_ble_eq_true rfl, by rw [← hR]; exact Nat.le_of_ble_eq_true rfl⟩) ⟨fun a U g mk q => by obtain ⟨q0, q1, q2, qK, q10, q11, q12⟩ := q; exact ⟨q0, q1, q2, jG.calling g mk a qK, q10, q11, q12⟩, hh_280.recv (C := RX14) (T := TX14) (N := 74) hB16 rfl (by decide) hg_r0 hK, fun U hU hW => ⟨rfl, hU, hh_280.2.1, hG.step hW hU hh_280.1, hg_r0, (hh_280.2.2.1.sub (L1 := [(r0, 16, 29, .int z_278), (r0, 16, 30, .int pe)]) [0, 4] rfl), by first | omega | (refine ⟨?_, ?_, ?_, ?_⟩ <;> (first | omega | rfl | assumption | decide | exact Or.inl rfl | exact Or.inr rfl | (simp only; omega)))⟩⟩ rfl rfl hl.1 rfl (lv_room (Nat.le_of_ble_eq_true rfl)) dX14_readNumber_216 ⟨Nat.zero_le _, Nat.zero_le _⟩) hh_280.1 (fun q _ h => h) (fun q h => h) (fun r_292 u_291 t_291 H_291 locs_291 ht_291 hvm_291 hr_292 hb_291 hz_291 hk_291 hS_291 => ?_)
                            rw [ht_291] at hb_291
                            obtain ⟨hb_2911, hb_2912, hb_2913, hb_2914, hb_2915⟩ := hb_291
                            have hh_291 : jSt (dC, dI) B base G0 G0 EX14_readNumber s.heap 0 0 [(r0, 16, 29, .int z_278), (r0, 16, 31, .int wb_235), (r0, 16, 9, .ref kept_79), (r0, 16, 26, .int qn_1), (r0, 16, 30, .int pe)] [] [] H_291 locs_291 := (hh_280.call hb_2911 hb_2912 hb_2913 hb_2914 hS_291 rfl (L1 := [(r0, 16, 29, .int z_278), (r0, 16, 31, .int wb_235), (r0, 16, 9, .ref kept_79), (r0, 16, 26, .int qn_1), (r0, 16, 30, .int pe)]) [0, 1, 2, 3, 4] rfl rfl (M1 := []) [] rfl rfl (I1 := []) [] rfl rfl).more hb_2915
                            clear hh_280 ht_291 hvm_291 hz_291 hk_291 hS_291 hb_2911 hb_2912 hb_2913 hb_2914 hb_2915
                            obtain ⟨hr_292_0, hr_292_1, hr_292_2⟩ := hr_292
                            refine lv_bipush (v := 45) hx hb dX14_readNumber_219 (by decide) ?_
                            refine lv_icmp_ne (tgt := 234) hx hb dX14_readNumber_221 (by decide) (fun c_293 => ?_) (fun c_293 => ?_)
                            · skip
                              have c_293' : r_292.toInt ≠ 45 := jb_ne (rfl) ((by decide)) c_293
                              first | replace hr_292_2 := hr_292_2.resolve_left (by omega) | replace hr_292_2 := hr_292_2.resolve_right (by omega) | skip
                              exact C234 z_278 _ _ hh_291 (by first | omega | (refine ⟨?_, ?_, ?_⟩ <;> (first | omega | rfl | assumption | decide | exact Or.inl rfl | exact Or.inr rfl | (simp only; omega)))) _ (lv_sub hl [1, 2, 3, 4, 5, 0] rfl)
                            · skip
                              have c_293' : r_292.toInt = 45 := jb_ne_n (rfl) ((by decide)) c_293
                              first | replace hr_292_2 := hr_292_2.resolve_left (by omega) | replace hr_292_2 := hr_292_2.resolve_right (by omega) | skip
                              refine lv_aload_n hx hb dX14_readNumber_224 rfl (lv_at hl 1 rfl) ?_
                              refine lv_dup hx hb dX14_readNumber_225 rfl ?_
                              refine j7_read hx hb hown hK (C := RX14) (T := TX14) (N := 74) rfl hly_16_29 (hts (.fieldLink RX14 273 "ProofServerModel" "at" "I") (by decide +kernel)) (hh_291.at 0 rfl) dX14_readNumber_226 ?_
                              refine lv_iconst (v := 1) hx hb dX14_readNumber_229 (by decide) ?_
                              refine lv_iadd hx hb dX14_readNumber_230 ?_
                              refine lv_topi (fun z_294 ez_294 => ?_)
                              have hz_294 : z_294.toInt = z_278.toInt + 1 := by rw [ez_294]; exact jb_iadd2 (rfl) ((by decide)) (by omega)
                              refine j7_put hx hb hown hK hh_291 hB hAp hB16 (C := RX14) (T := TX14) (N := 74) rfl (by decide) hg_r0 (i := 29) (by decide) hly_16_29 rfl (hts (.fieldLink RX14 273 "ProofServerModel" "at" "I") (by decide +kernel)) rfl (ty := .int) (v := .int z_294) (by decide +kernel) rfl rfl (⟨_, rfl, by omega, by omega⟩) rfl (L1 := [(r0, 16, 31, .int wb_235), (r0, 16, 9, .ref kept_79), (r0, 16, 26, .int qn_1), (r0, 16, 30, .int pe)]) [1, 2, 3, 4] rfl rfl rfl dX14_readNumber_231 (fun H_295 locs_295 hh_295 => ?_)
                              clear hh_291
                              exact C234 z_294 _ _ hh_295 (by first | omega | (refine ⟨?_, ?_, ?_⟩ <;> (first | omega | rfl | assumption | decide | exact Or.inl rfl | exact Or.inr rfl | (simp only; omega)))) _ (lv_sub hl [1, 2, 3, 4, 5, 0] rfl)
                  refine lv_if_ne (tgt := 168) hx hb dX14_readNumber_139 (by decide) (fun c_296 => ?_) (fun c_296 => ?_)
                  · skip
                    exact C168 1 wt_7 1 _ _ (hh_234.sub (L1 := [(r0, 16, 29, .int wt_7), (r0, 16, 31, .int 1), (r0, 16, 9, .ref kept_79), (r0, 16, 26, .int qn_1), (r0, 16, 30, .int pe)]) [2, 0, 1, 3, 4] rfl (M1 := []) [] rfl (I1 := []) [] rfl) (Or.inr rfl) (by first | omega | (refine ⟨?_, ?_, ?_⟩ <;> (first | omega | rfl | assumption | decide | exact Or.inl rfl | exact Or.inr rfl | (simp only; omega)))) _ (lv_sub hl [1, 2, 3, 4, 5, 0] rfl)
                  · skip
                    exact absurd c_296 (by decide)
          · skip
            have c_12' : r_11.toInt ≠ 0 := jb_eq_n (rfl) ((by decide)) c_12
            first | replace hr_9_2 := hr_9_2.resolve_left (by omega) | replace hr_9_2 := hr_9_2.resolve_right (by omega) | skip
            refine lv_lload hx hb dX14_readNumber_53 (lv_at hl 4 rfl) ?_
            refine lv_ldc2 hx hb hown (hts (.constantLong RX14 320 99999999999) (by decide +kernel)) dX14_readNumber_55 ?_
            refine W.lcmp hx hb dX14_readNumber_58 ?_
            refine lv_topi (fun z_297 ez_297 => ?_)
            have hz_297 := jb_lcmp ez_297
            have hqz_297_99999999999 : (99999999999 : Int64).toInt = 99999999999 := by decide
            refine lv_if_le (tgt := 67) hx hb dX14_readNumber_59 (by decide) (fun c_298 => ?_) (fun c_298 => ?_)
            · skip
              have c_298' : z_297.toInt ≤ 0 := jb_le (rfl) ((by decide)) c_298
              refine lv_ldc2 hx hb hown (hts (.constantLong RX14 322 10) (by decide +kernel)) dX14_readNumber_67 ?_
              refine lv_lload hx hb dX14_readNumber_70 (lv_at hl 4 rfl) ?_
              refine lv_lmul hx hb dX14_readNumber_72 ?_
              refine lv_topl (fun z_299 ez_299 => ?_)
              refine lv_aload_n hx hb dX14_readNumber_73 rfl (lv_at hl 0 rfl) ?_
              refine va_calli (A0 := jA base) (H0 := s.heap) (va_runV (As := []) (rest := [.long z_299]) ⟨hx, hb, hml, hown, hts⟩ (uX14_here l dC dI ca base B hB hAp hB16 hB110 G0 H_10 r0 wt_7 pe) (cwV 0 hts gX14_readNumber_X14_here rfl rfl rfl (by decide +kernel) ⟨by rw [← hR]; exact Nat.le_of_ble_eq_true rfl, by rw [← hR]; exact Nat.le_of_ble_eq_true rfl⟩) ⟨fun a U g mk q => by obtain ⟨q0, q1, q2, qK, q10, q11, q12⟩ := q; exact ⟨q0, q1, q2, jG.calling g mk a qK, q10, q11, q12⟩, hh_10.recv (C := RX14) (T := TX14) (N := 74) hB16 rfl (by decide) hg_r0 hK, fun U hU hW => ⟨rfl, hU, hh_10.2.1, hG.step hW hU hh_10.1, hg_r0, (hh_10.2.2.1.sub (L1 := [(r0, 16, 29, .int wt_7), (r0, 16, 30, .int pe)]) [0, 2] rfl), by first | omega | (refine ⟨?_, ?_, ?_, ?_⟩ <;> (first | omega | rfl | assumption | decide | exact Or.inl rfl | exact Or.inr rfl | (simp only; omega)))⟩⟩ rfl rfl hl.1 rfl (lv_room (Nat.le_of_ble_eq_true rfl)) dX14_readNumber_74 ⟨Nat.zero_le _, Nat.zero_le _⟩) hh_10.1 (fun q _ h => h) (fun q h => h) (fun r_301 u_300 t_300 H_300 locs_300 ht_300 hvm_300 hr_301 hb_300 hz_300 hk_300 hS_300 => ?_)
              rw [ht_300] at hb_300
              obtain ⟨hb_3001, hb_3002, hb_3003, hb_3004, hb_3005⟩ := hb_300
              have hh_300 : jSt (dC, dI) B base G0 G0 EX14_readNumber s.heap 0 0 [(r0, 16, 29, .int wt_7), (r0, 16, 26, .int qn_1), (r0, 16, 30, .int pe)] [] [] H_300 locs_300 := (hh_10.call hb_3001 hb_3002 hb_3003 hb_3004 hS_300 rfl (L1 := [(r0, 16, 29, .int wt_7), (r0, 16, 26, .int qn_1), (r0, 16, 30, .int pe)]) [0, 1, 2] rfl rfl (M1 := []) [] rfl rfl (I1 := []) [] rfl rfl).more hb_3005
              clear hh_10 ht_300 hvm_300 hz_300 hk_300 hS_300 hb_3001 hb_3002 hb_3003 hb_3004 hb_3005
              obtain ⟨hr_301_0, hr_301_1, hr_301_2⟩ := hr_301
              refine lv_i2l hx hb dX14_readNumber_77 rfl ?_
              refine lv_topl (fun z_302 ez_302 => ?_)
              refine lv_ladd hx hb dX14_readNumber_78 ?_
              refine lv_topl (fun z_303 ez_303 => ?_)
              refine lv_ldc2 hx hb hown (hts (.constantLong RX14 324 48) (by decide +kernel)) dX14_readNumber_79 ?_
              refine lv_lsub hx hb dX14_readNumber_82 ?_
              refine lv_topl (fun z_304 ez_304 => ?_)
              refine lv_lstore (lv' := [(4, .long z_304), (0, .ref r0), (1, .int r_2), (2, .int 0), (3, .int wt_6)]) hx hb dX14_readNumber_83 hl (by decide) rfl (fun ls hl => ?_)
              refine lv_aload_n hx hb dX14_readNumber_85 rfl (lv_at hl 1 rfl) ?_
              refine lv_dup hx hb dX14_readNumber_86 rfl ?_
              refine j7_read hx hb hown hK (C := RX14) (T := TX14) (N := 74) rfl hly_16_29 (hts (.fieldLink RX14 273 "ProofServerModel" "at" "I") (by decide +kernel)) (hh_300.at 0 rfl) dX14_readNumber_87 ?_
              refine lv_iconst (v := 1) hx hb dX14_readNumber_90 (by decide) ?_
              refine lv_iadd hx hb dX14_readNumber_91 ?_
              refine lv_topi (fun z_305 ez_305 => ?_)
              have hz_305 : z_305.toInt = wt_7.toInt + 1 := by rw [ez_305]; exact jb_iadd2 (rfl) ((by decide)) (by omega)
              refine j7_put hx hb hown hK hh_300 hB hAp hB16 (C := RX14) (T := TX14) (N := 74) rfl (by decide) hg_r0 (i := 29) (by decide) hly_16_29 rfl (hts (.fieldLink RX14 273 "ProofServerModel" "at" "I") (by decide +kernel)) rfl (ty := .int) (v := .int z_305) (by decide +kernel) rfl rfl (⟨_, rfl, by omega, by omega⟩) rfl (L1 := [(r0, 16, 26, .int qn_1), (r0, 16, 30, .int pe)]) [1, 2] rfl rfl rfl dX14_readNumber_92 (fun H_306 locs_306 hh_306 => ?_)
              clear hh_300
              refine lv_goto (tgt := 43) hx hb dX14_readNumber_95 (by decide) ?_
              exact L43 z_304 z_305 _ _ hh_306 (by first | omega | (refine ⟨?_, ?_⟩ <;> (first | omega | rfl | assumption | decide | exact Or.inl rfl | exact Or.inr rfl | (simp only; omega)))) (by omega) _ (lv_sub hl [1, 2, 3, 4, 0] rfl)
            · skip
              have c_298' : z_297.toInt > 0 := jb_le_n (rfl) ((by decide)) c_298
              refine lv_lload hx hb dX14_readNumber_62 (lv_at hl 4 rfl) ?_
              refine lv_goto (tgt := 83) hx hb dX14_readNumber_64 (by decide) ?_
              refine lv_lstore (lv' := [(4, .long v4_7), (0, .ref r0), (1, .int r_2), (2, .int 0), (3, .int wt_6)]) hx hb dX14_readNumber_83 hl (by decide) rfl (fun ls hl => ?_)
              refine lv_aload_n hx hb dX14_readNumber_85 rfl (lv_at hl 1 rfl) ?_
              refine lv_dup hx hb dX14_readNumber_86 rfl ?_
              refine j7_read hx hb hown hK (C := RX14) (T := TX14) (N := 74) rfl hly_16_29 (hts (.fieldLink RX14 273 "ProofServerModel" "at" "I") (by decide +kernel)) (hh_10.at 0 rfl) dX14_readNumber_87 ?_
              refine lv_iconst (v := 1) hx hb dX14_readNumber_90 (by decide) ?_
              refine lv_iadd hx hb dX14_readNumber_91 ?_
              refine lv_topi (fun z_307 ez_307 => ?_)
              have hz_307 : z_307.toInt = wt_7.toInt + 1 := by rw [ez_307]; exact jb_iadd2 (rfl) ((by decide)) (by omega)
              refine j7_put hx hb hown hK hh_10 hB hAp hB16 (C := RX14) (T := TX14) (N := 74) rfl (by decide) hg_r0 (i := 29) (by decide) hly_16_29 rfl (hts (.fieldLink RX14 273 "ProofServerModel" "at" "I") (by decide +kernel)) rfl (ty := .int) (v := .int z_307) (by decide +kernel) rfl rfl (⟨_, rfl, by omega, by omega⟩) rfl (L1 := [(r0, 16, 26, .int qn_1), (r0, 16, 30, .int pe)]) [1, 2] rfl rfl rfl dX14_readNumber_92 (fun H_308 locs_308 hh_308 => ?_)
              clear hh_10
              refine lv_goto (tgt := 43) hx hb dX14_readNumber_95 (by decide) ?_
              exact L43 v4_7 z_307 _ _ hh_308 (by first | omega | (refine ⟨?_, ?_⟩ <;> (first | omega | rfl | assumption | decide | exact Or.inl rfl | exact Or.inr rfl | (simp only; omega)))) (by omega) _ (lv_sub hl [1, 2, 3, 4, 0] rfl)
      exact L43 (pe.toInt - (wt_6 : Int32).toInt : Int).toNat.succ 0 wt_6 _ _ hh_6 (by first | omega | (refine ⟨?_, ?_⟩ <;> (first | omega | rfl | assumption | decide | exact Or.inl rfl | exact Or.inr rfl | (simp only; omega)))) (by omega) _ (lv_sub hl [2, 3, 4, 1, 0] rfl)
    refine lv_if_eq (tgt := 35) hx hb dX14_readNumber_22 (by decide) (fun c_309 => ?_) (fun c_309 => ?_)
    · skip
      exact C35 pt _ _ (hh_3.sub (L1 := [(r0, 16, 29, .int pt), (r0, 16, 26, .int qn_1), (r0, 16, 30, .int pe)]) [1, 0, 2] rfl (M1 := []) [] rfl (I1 := []) [] rfl) (by first | omega | (refine ⟨?_, ?_⟩ <;> (first | omega | rfl | assumption | decide | exact Or.inl rfl | exact Or.inr rfl | (simp only; omega)))) _ (lv_sub hl [2, 1, 0] rfl)
    · skip
      exact absurd c_309 (by decide)
  · skip
    have c_5' : r_4.toInt = 45 := jb_ne_n (rfl) ((by decide)) c_5
    first | replace hr_4_2 := hr_4_2.resolve_left (by omega) | replace hr_4_2 := hr_4_2.resolve_right (by omega) | skip
    refine lv_iconst (v := 1) hx hb dX14_readNumber_15 (by decide) ?_
    refine lv_goto (tgt := 20) hx hb dX14_readNumber_16 (by decide) ?_
    refine lv_istore_n (lv' := [(2, .int 1), (1, .int r_2), (0, .ref r0)]) hx hb dX14_readNumber_20 rfl hl (by decide) rfl (fun ls hl => ?_)
    refine lv_iload_n hx hb dX14_readNumber_21 rfl (lv_at hl 0 rfl) ?_
    have C35 : ∀ (wt_310 : Int32) (H_310 : Heap) (locs_310 : List Loc), jSt (dC, dI) B base G0 G0 EX14_readNumber s.heap 0 0 [(r0, 16, 29, .int wt_310), (r0, 16, 26, .int qn_1), (r0, 16, 30, .int pe)] [] [] H_310 locs_310 → (pt.toInt ≤ wt_310.toInt ∧ wt_310.toInt ≤ pe.toInt) → ∀ ls : Array Slot, lv_has ls 9 [(0, .ref r0), (1, .int r_2), (2, .int 1)] → W p l e R s m ([.ref r0] : List Value).toArray below meth c H_310 locs_310 0 0 Q (F0 m 35 ls []) := by
      intro wt_310 H_310 locs_310 hh_310  hi_310 ls hl
      obtain ⟨hi_310_0, hi_310_1⟩ := hi_310
      clear hr_4_2
      refine lv_aload_n hx hb dX14_readNumber_35 rfl (lv_at hl 0 rfl) ?_
      refine j7_read hx hb hown hK (C := RX14) (T := TX14) (N := 74) rfl hly_16_29 (hts (.fieldLink RX14 273 "ProofServerModel" "at" "I") (by decide +kernel)) (hh_310.at 0 rfl) dX14_readNumber_36 ?_
      refine lv_istore_n (lv' := [(3, .int wt_310), (0, .ref r0), (1, .int r_2), (2, .int 1)]) hx hb dX14_readNumber_39 rfl hl (by decide) rfl (fun ls hl => ?_)
      refine lv_lconst (v := 0) hx hb dX14_readNumber_40 (by decide) ?_
      refine lv_lstore (lv' := [(4, .long 0), (3, .int wt_310), (0, .ref r0), (1, .int r_2), (2, .int 1)]) hx hb dX14_readNumber_41 hl (by decide) rfl (fun ls hl => ?_)
      have L43 : ∀ (N : Nat) (v4_311 : Int64) (wt_311 : Int32) (H_311 : Heap) (locs_311 : List Loc), jSt (dC, dI) B base G0 G0 EX14_readNumber s.heap 0 0 [(r0, 16, 29, .int wt_311), (r0, 16, 26, .int qn_1), (r0, 16, 30, .int pe)] [] [] H_311 locs_311 → (wt_310.toInt ≤ wt_311.toInt ∧ wt_311.toInt ≤ pe.toInt) → (pe.toInt - wt_311.toInt : Int) < N → ∀ ls : Array Slot, lv_has ls 9 [(0, .ref r0), (1, .int r_2), (2, .int 1), (3, .int wt_310), (4, .long v4_311)] → W p l e R s m ([.ref r0] : List Value).toArray below meth c H_311 locs_311 0 0 Q (F0 m 43 ls []) := by
        intro N
        induction N with
        | zero => intro v4_311 wt_311 H_311 locs_311 hh_311  hi_311 hm; exact absurd hm (by omega)
        | succ N L43 =>
          intro v4_311 wt_311 H_311 locs_311 hh_311  hi_311 hm_311 ls hl
          obtain ⟨hi_311_0, hi_311_1⟩ := hi_311
          refine lv_aload_n hx hb dX14_readNumber_43 rfl (lv_at hl 0 rfl) ?_
          refine va_calli (A0 := jA base) (H0 := s.heap) (va_runV (As := []) (rest := []) ⟨hx, hb, hml, hown, hts⟩ (uX14_here l dC dI ca base B hB hAp hB16 hB110 G0 H_311 r0 wt_311 pe) (cwV 0 hts gX14_readNumber_X14_here rfl rfl rfl (by decide +kernel) ⟨by rw [← hR]; exact Nat.le_of_ble_eq_true rfl, by rw [← hR]; exact Nat.le_of_ble_eq_true rfl⟩) ⟨fun a U g mk q => by obtain ⟨q0, q1, q2, qK, q10, q11, q12⟩ := q; exact ⟨q0, q1, q2, jG.calling g mk a qK, q10, q11, q12⟩, hh_311.recv (C := RX14) (T := TX14) (N := 74) hB16 rfl (by decide) hg_r0 hK, fun U hU hW => ⟨rfl, hU, hh_311.2.1, hG.step hW hU hh_311.1, hg_r0, (hh_311.2.2.1.sub (L1 := [(r0, 16, 29, .int wt_311), (r0, 16, 30, .int pe)]) [0, 2] rfl), by first | omega | (refine ⟨?_, ?_, ?_, ?_⟩ <;> (first | omega | rfl | assumption | decide | exact Or.inl rfl | exact Or.inr rfl | (simp only; omega)))⟩⟩ rfl rfl hl.1 rfl (lv_room (Nat.le_of_ble_eq_true rfl)) dX14_readNumber_44 ⟨Nat.zero_le _, Nat.zero_le _⟩) hh_311.1 (fun q _ h => h) (fun q h => h) (fun r_313 u_312 t_312 H_312 locs_312 ht_312 hvm_312 hr_313 hb_312 hz_312 hk_312 hS_312 => ?_)
          rw [ht_312] at hb_312
          obtain ⟨hb_3121, hb_3122, hb_3123, hb_3124, hb_3125⟩ := hb_312
          have hh_312 : jSt (dC, dI) B base G0 G0 EX14_readNumber s.heap 0 0 [(r0, 16, 29, .int wt_311), (r0, 16, 26, .int qn_1), (r0, 16, 30, .int pe)] [] [] H_312 locs_312 := (hh_311.call hb_3121 hb_3122 hb_3123 hb_3124 hS_312 rfl (L1 := [(r0, 16, 29, .int wt_311), (r0, 16, 26, .int qn_1), (r0, 16, 30, .int pe)]) [0, 1, 2] rfl rfl (M1 := []) [] rfl rfl (I1 := []) [] rfl rfl).more hb_3125
          clear hh_311 ht_312 hvm_312 hz_312 hk_312 hS_312 hb_3121 hb_3122 hb_3123 hb_3124 hb_3125
          obtain ⟨hr_313_0, hr_313_1, hr_313_2⟩ := hr_313
          refine va_calli (A0 := jA base) (H0 := s.heap) (va_runS (As := [.int r_313]) (rest := []) ⟨hx, hb, hml, hown, hts⟩ (uX14_isDigit l dC dI ca base B hB hAp G0 H_312 r_313) (va_cwS 1 hts gX14_readNumber_X14_isDigit rfl rfl rfl (by decide +kernel) ⟨by rw [← hR]; exact Nat.le_of_ble_eq_true rfl, by rw [← hR]; exact Nat.le_of_ble_eq_true rfl⟩) ⟨fun a U g mk q => by obtain ⟨q0, q1, q2, qK, q10, q11⟩ := q; exact ⟨q0, q1, q2, jG.calling g mk a qK, q10, q11⟩, fun U hU hW => ⟨rfl, hU, hh_312.2.1, hG.step hW hU hh_312.1, jP.nil, trivial⟩⟩ rfl rfl hl.1 rfl (lv_room (Nat.le_of_ble_eq_true rfl)) dX14_readNumber_47 ⟨Nat.zero_le _, Nat.zero_le _⟩) hh_312.1 (fun q _ h => h) (fun q h => h) (fun r_315 u_314 t_314 H_314 locs_314 ht_314 hvm_314 hr_315 hb_314 hz_314 hk_314 hS_314 => ?_)
          rw [ht_314] at hb_314
          obtain ⟨hb_3141, hb_3142, hb_3143, hb_3144, hb_3145⟩ := hb_314
          have hh_314 : jSt (dC, dI) B base G0 G0 EX14_readNumber s.heap 0 0 [(r0, 16, 29, .int wt_311), (r0, 16, 26, .int qn_1), (r0, 16, 30, .int pe)] [] [] H_314 locs_314 := (hh_312.call hb_3141 hb_3142 hb_3143 hb_3144 hS_314 rfl (L1 := [(r0, 16, 29, .int wt_311), (r0, 16, 26, .int qn_1), (r0, 16, 30, .int pe)]) [0, 1, 2] rfl rfl (M1 := []) [] rfl rfl (I1 := []) [] rfl rfl).more hb_3145
          clear hh_312 ht_314 hvm_314 hz_314 hk_314 hS_314 hb_3141 hb_3142 hb_3143 hb_3144 hb_3145
          obtain ⟨hr_315b, hr_315p⟩ := hr_315
          obtain ⟨hr_315p_0, hr_315p_1⟩ := hr_315p
          have hr_315' := jb_01 hr_315b
          refine lv_if_eq (tgt := 98) hx hb dX14_readNumber_50 (by decide) (fun c_316 => ?_) (fun c_316 => ?_)
          · skip
            have c_316' : r_315.toInt = 0 := jb_eq (rfl) ((by decide)) c_316
            first | replace hr_313_2 := hr_313_2.resolve_left (by omega) | replace hr_313_2 := hr_313_2.resolve_right (by omega) | skip
            refine lv_aload_n hx hb dX14_readNumber_98 rfl (lv_at hl 0 rfl) ?_
            refine j7_read hx hb hown hK (C := RX14) (T := TX14) (N := 74) rfl hly_16_29 (hts (.fieldLink RX14 273 "ProofServerModel" "at" "I") (by decide +kernel)) (hh_314.at 0 rfl) dX14_readNumber_99 ?_
            refine lv_iload_n hx hb dX14_readNumber_102 rfl (lv_at hl 3 rfl) ?_
            refine lv_icmp_eq (tgt := 127) hx hb dX14_readNumber_103 (by decide) (fun c_317 => ?_) (fun c_317 => ?_)
            · skip
              have c_317' : wt_311.toInt = wt_310.toInt := jb_eq (rfl) (rfl) c_317
              refine lv_aload_n hx hb dX14_readNumber_127 rfl (lv_at hl 0 rfl) ?_
              refine lv_iconst (v := 1) hx hb dX14_readNumber_128 (by decide) ?_
              refine j7_put hx hb hown hK hh_314 hB hAp hB16 (C := RX14) (T := TX14) (N := 74) rfl (by decide) hg_r0 (i := 31) (by decide) hly_16_31 rfl (hts (.fieldLink RX14 288 "ProofServerModel" "bad" "Z") (by decide +kernel)) rfl (ty := .boolean) (v := .int 1) (by decide +kernel) (jb_nz (Or.inr rfl)) (jb_fz (Or.inr rfl)) (⟨_, rfl, (Or.inr rfl)⟩) rfl (L1 := [(r0, 16, 29, .int wt_311), (r0, 16, 26, .int qn_1), (r0, 16, 30, .int pe)]) [0, 1, 2] rfl rfl rfl dX14_readNumber_129 (fun H_318 locs_318 hh_318 => ?_)
              clear hh_314
              refine lv_iconst (v := 1) hx hb dX14_readNumber_132 (by decide) ?_
              refine lv_istore (lv' := [(6, .int 1), (0, .ref r0), (1, .int r_2), (2, .int 1), (3, .int wt_310), (4, .long v4_311)]) hx hb dX14_readNumber_133 hl (by decide) rfl (fun ls hl => ?_)
              refine lv_aload_n hx hb dX14_readNumber_135 rfl (lv_at hl 1 rfl) ?_
              refine j7_read hx hb hown hK (C := RX14) (T := TX14) (N := 74) rfl hly_16_31 (hts (.fieldLink RX14 288 "ProofServerModel" "bad" "Z") (by decide +kernel)) (hh_318.at 0 rfl) dX14_readNumber_136 ?_
              have C168 : ∀ (v6_319 : Int32) (wt_319 : Int32) (wb_319 : Int32) (H_319 : Heap) (locs_319 : List Loc), jSt (dC, dI) B base G0 G0 EX14_readNumber s.heap 0 0 [(r0, 16, 29, .int wt_319), (r0, 16, 31, .int wb_319), (r0, 16, 26, .int qn_1), (r0, 16, 30, .int pe)] [] [] H_319 locs_319 → (v6_319 = 0 ∨ v6_319 = 1) → (pt.toInt ≤ wt_319.toInt ∧ wt_319.toInt ≤ pe.toInt ∧ (wb_319.toInt = 1 ∨ pt.toInt + 1 ≤ wt_319.toInt)) → ∀ ls : Array Slot, lv_has ls 9 [(0, .ref r0), (1, .int r_2), (2, .int 1), (3, .int wt_310), (4, .long v4_311), (6, .int v6_319)] → W p l e R s m ([.ref r0] : List Value).toArray below meth c H_319 locs_319 0 0 Q (F0 m 168 ls []) := by
                intro v6_319 wt_319 wb_319 H_319 locs_319 hh_319 hb_v6_319 hi_319 ls hl
                obtain ⟨hi_319_0, hi_319_1, hi_319_2⟩ := hi_319
                have hb_v6_319' := jb_01 hb_v6_319
                clear hr_313_2
                refine lv_aload_n hx hb dX14_readNumber_168 rfl (lv_at hl 0 rfl) ?_
                refine j7_read hx hb hown hK (C := RX14) (T := TX14) (N := 74) rfl hly_16_31 (hts (.fieldLink RX14 288 "ProofServerModel" "bad" "Z") (by decide +kernel)) (hh_319.at 1 rfl) dX14_readNumber_169 ?_
                have C238 : ∀ (v6_320 : Int32) (wt_320 : Int32) (wb_320 : Int32) (H_320 : Heap) (locs_320 : List Loc), jSt (dC, dI) B base G0 G0 EX14_readNumber s.heap 0 0 [(r0, 16, 29, .int wt_320), (r0, 16, 31, .int wb_320), (r0, 16, 26, .int qn_1), (r0, 16, 30, .int pe)] [] [] H_320 locs_320 → (v6_320 = 0 ∨ v6_320 = 1) → (pt.toInt ≤ wt_320.toInt ∧ wt_320.toInt ≤ pe.toInt ∧ (wb_320.toInt = 1 ∨ pt.toInt + 1 ≤ wt_320.toInt)) → ∀ ls : Array Slot, lv_has ls 9 [(0, .ref r0), (1, .int r_2), (2, .int 1), (3, .int wt_310), (4, .long v4_311), (6, .int v6_320)] → W p l e R s m ([.ref r0] : List Value).toArray below meth c H_320 locs_320 0 0 Q (F0 m 238 ls []) := by
                  intro v6_320 wt_320 wb_320 H_320 locs_320 hh_320 hb_v6_320 hi_320 ls hl
                  obtain ⟨hi_320_0, hi_320_1, hi_320_2⟩ := hi_320
                  have hb_v6_320' := jb_01 hb_v6_320
                  refine lv_iload_n hx hb dX14_readNumber_238 rfl (lv_at hl 2 rfl) ?_
                  refine lv_if_eq (tgt := 248) hx hb dX14_readNumber_239 (by decide) (fun c_321 => ?_) (fun c_321 => ?_)
                  · skip
                    exact absurd c_321 (by decide)
                  · skip
                    refine lv_lload hx hb dX14_readNumber_242 (lv_at hl 4 rfl) ?_
                    refine lv_lneg hx hb dX14_readNumber_244 ?_
                    refine lv_topl (fun z_322 ez_322 => ?_)
                    refine lv_goto (tgt := 250) hx hb dX14_readNumber_245 (by decide) ?_
                    refine lv_lstore (lv' := [(7, .long z_322), (0, .ref r0), (1, .int r_2), (2, .int 1), (3, .int wt_310), (4, .long v4_311), (6, .int v6_320)]) hx hb dX14_readNumber_250 hl (by decide) rfl (fun ls hl => ?_)
                    refine lv_aload_n hx hb dX14_readNumber_252 rfl (lv_at hl 1 rfl) ?_
                    obtain ⟨v_323, hv_323, hh_324⟩ := hh_320.pin (C := RX14) (T := TX14) (N := 74) hB16 rfl (by decide) hg_r0 (i := 24) (by decide) rfl
                    clear hh_320
                    obtain ⟨isInt_325, rfl, hg_isInt_325⟩ := hv_323
                    refine j7_read hx hb hown hK (C := RX14) (T := TX14) (N := 74) rfl hly_16_24 (hts (.fieldLink RX14 58 "ProofServerModel" "isInt" "[Z") (by decide +kernel)) (hh_324.at 0 rfl) dX14_readNumber_253 ?_
                    refine lv_iload_n hx hb dX14_readNumber_256 rfl (lv_at hl 2 rfl) ?_
                    refine lv_iload hx hb dX14_readNumber_257 (lv_at hl 6 rfl) ?_
                    have C285 : ∀ (w0_326 : Int32) (H_326 : Heap) (locs_326 : List Loc), jSt (dC, dI) B base G0 G0 EX14_readNumber s.heap 0 0 [(r0, 16, 24, .ref isInt_325), (r0, 16, 29, .int wt_320), (r0, 16, 31, .int wb_320), (r0, 16, 26, .int qn_1), (r0, 16, 30, .int pe)] [] [] H_326 locs_326 → (w0_326 = 0 ∨ w0_326 = 1) → (True) → ∀ ls : Array Slot, lv_has ls 9 [(0, .ref r0), (1, .int r_2), (2, .int 1), (3, .int wt_310), (4, .long v4_311), (6, .int v6_320), (7, .long z_322)] → W p l e R s m ([.ref r0] : List Value).toArray below meth c H_326 locs_326 0 0 Q (F0 m 285 ls [.int w0_326, .int r_2, .ref isInt_325]) := by
                      intro w0_326 H_326 locs_326 hh_326 hb_w0_326 hi_326 ls hl
                      have hb_w0_326' := jb_01 hb_w0_326
                      refine j7_zast hx hb hK hh_326 hB hB124 3 rfl (by decide) (by decide) rfl rfl rfl hg_isInt_325 (rfl) (by omega) (hb_w0_326) (hb_w0_326) dX14_readNumber_285 (fun H_327 locs_327 hh_327 => ?_)
                      clear hh_326
                      refine lv_aload_n hx hb dX14_readNumber_286 rfl (lv_at hl 0 rfl) ?_
                      obtain ⟨v_328, hv_328, hh_329⟩ := hh_327.pin (C := RX14) (T := TX14) (N := 74) hB16 rfl (by decide) hg_r0 (i := 25) (by decide) rfl
                      clear hh_327
                      obtain ⟨ints_330, rfl, hg_ints_330⟩ := hv_328
                      refine j7_read hx hb hown hK (C := RX14) (T := TX14) (N := 74) rfl hly_16_25 (hts (.fieldLink RX14 62 "ProofServerModel" "ints" "[I") (by decide +kernel)) (hh_329.at 0 rfl) dX14_readNumber_287 ?_
                      refine lv_iload_n hx hb dX14_readNumber_290 rfl (lv_at hl 1 rfl) ?_
                      refine lv_lload hx hb dX14_readNumber_291 (lv_at hl 6 rfl) ?_
                      refine lv_l2i hx hb dX14_readNumber_293 rfl ?_
                      refine lv_topi (fun z_331 ez_331 => ?_)
                      refine j7_iast hx hb hK hh_329 hB hB125 1 rfl (by decide) (by decide) rfl rfl rfl hg_ints_330 (rfl) (by omega) (trivial) dX14_readNumber_294 (fun H_332 locs_332 hh_332 => ?_)
                      clear hh_329
                      refine lv_iload_n hx hb dX14_readNumber_295 rfl (lv_at hl 1 rfl) ?_
                      rw [hQ]
                      exact W.iret (v := r_2) hx hb hr (fun t ht hW => ⟨⟨r_2, (wt_320, qn_1, wb_320), rfl, by first | omega | (refine ⟨?_, ?_, ?_, ?_, ?_⟩ <;> (first | omega | rfl | assumption | decide | exact Or.inl rfl | exact Or.inr rfl | (simp only; omega))), hh_332.rt (M1 := [(r0, 16, 29, .int wt_320), (r0, 16, 26, .int qn_1), (r0, 16, 31, .int wb_320)]) [2, 4, 3] rfl ht⟩, by rw [ht]; try exact hh_332.1.1, fun q h9 hq => by rw [ht]; try exact hh_332.1.2.1 q h9 hq⟩) hh_332.1.2.2 dX14_readNumber_296
                    refine lv_if_eq (tgt := 284) hx hb dX14_readNumber_259 (by decide) (fun c_333 => ?_) (fun c_333 => ?_)
                    · skip
                      have c_333' : v6_320.toInt = 0 := jb_eq (rfl) ((by decide)) c_333
                      refine lv_iconst (v := 0) hx hb dX14_readNumber_284 (by decide) ?_
                      exact C285 0 _ _ hh_324 (Or.inl rfl) (trivial) _ (lv_sub hl [1, 2, 3, 4, 5, 6, 0] rfl)
                    · skip
                      have c_333' : v6_320.toInt ≠ 0 := jb_eq_n (rfl) ((by decide)) c_333
                      refine lv_lload hx hb dX14_readNumber_262 (lv_at hl 0 rfl) ?_
                      refine lv_ldc2 hx hb hown (hts (.constantLong RX14 329 (-2147483648)) (by decide +kernel)) dX14_readNumber_264 ?_
                      refine W.lcmp hx hb dX14_readNumber_267 ?_
                      refine lv_topi (fun z_334 ez_334 => ?_)
                      have hz_334 := jb_lcmp ez_334
                      have hqz_334_m2147483648 : ((-2147483648) : Int64).toInt = (-2147483648) := by decide
                      refine lv_if_lt (tgt := 284) hx hb dX14_readNumber_268 (by decide) (fun c_335 => ?_) (fun c_335 => ?_)
                      · skip
                        have c_335' : z_334.toInt < 0 := jb_lt (rfl) ((by decide)) c_335
                        refine lv_iconst (v := 0) hx hb dX14_readNumber_284 (by decide) ?_
                        exact C285 0 _ _ hh_324 (Or.inl rfl) (trivial) _ (lv_sub hl [1, 2, 3, 4, 5, 6, 0] rfl)
                      · skip
                        have c_335' : z_334.toInt ≥ 0 := jb_lt_n (rfl) ((by decide)) c_335
                        refine lv_lload hx hb dX14_readNumber_271 (lv_at hl 0 rfl) ?_
                        refine lv_ldc2 hx hb hown (hts (.constantLong RX14 331 2147483647) (by decide +kernel)) dX14_readNumber_273 ?_
                        refine W.lcmp hx hb dX14_readNumber_276 ?_
                        refine lv_topi (fun z_336 ez_336 => ?_)
                        have hz_336 := jb_lcmp ez_336
                        have hqz_336_2147483647 : (2147483647 : Int64).toInt = 2147483647 := by decide
                        refine lv_if_gt (tgt := 284) hx hb dX14_readNumber_277 (by decide) (fun c_337 => ?_) (fun c_337 => ?_)
                        · skip
                          have c_337' : z_336.toInt > 0 := jb_gt (rfl) ((by decide)) c_337
                          refine lv_iconst (v := 0) hx hb dX14_readNumber_284 (by decide) ?_
                          exact C285 0 _ _ hh_324 (Or.inl rfl) (trivial) _ (lv_sub hl [1, 2, 3, 4, 5, 6, 0] rfl)
                        · skip
                          have c_337' : z_336.toInt ≤ 0 := jb_gt_n (rfl) ((by decide)) c_337
                          refine lv_iconst (v := 1) hx hb dX14_readNumber_280 (by decide) ?_
                          refine lv_goto (tgt := 285) hx hb dX14_readNumber_281 (by decide) ?_
                          exact C285 1 _ _ hh_324 (Or.inr rfl) (trivial) _ (lv_sub hl [1, 2, 3, 4, 5, 6, 0] rfl)
                refine lv_if_ne (tgt := 238) hx hb dX14_readNumber_172 (by decide) (fun c_338 => ?_) (fun c_338 => ?_)
                · skip
                  have c_338' : wb_319.toInt ≠ 0 := jb_ne (rfl) ((by decide)) c_338
                  exact C238 v6_319 wt_319 wb_319 _ _ hh_319 (hb_v6_319) (by first | omega | (refine ⟨?_, ?_, ?_⟩ <;> (first | omega | rfl | assumption | decide | exact Or.inl rfl | exact Or.inr rfl | (simp only; omega)))) _ (lv_sub hl [0, 1, 2, 3, 4, 5] rfl)
                · skip
                  have c_338' : wb_319.toInt = 0 := jb_ne_n (rfl) ((by decide)) c_338
                  refine lv_aload_n hx hb dX14_readNumber_175 rfl (lv_at hl 0 rfl) ?_
                  refine va_calli (A0 := jA base) (H0 := s.heap) (va_runV (As := []) (rest := []) ⟨hx, hb, hml, hown, hts⟩ (uX14_here l dC dI ca base B hB hAp hB16 hB110 G0 H_319 r0 wt_319 pe) (cwV 0 hts gX14_readNumber_X14_here rfl rfl rfl (by decide +kernel) ⟨by rw [← hR]; exact Nat.le_of_ble_eq_true rfl, by rw [← hR]; exact Nat.le_of_ble_eq_true rfl⟩) ⟨fun a U g mk q => by obtain ⟨q0, q1, q2, qK, q10, q11, q12⟩ := q; exact ⟨q0, q1, q2, jG.calling g mk a qK, q10, q11, q12⟩, hh_319.recv (C := RX14) (T := TX14) (N := 74) hB16 rfl (by decide) hg_r0 hK, fun U hU hW => ⟨rfl, hU, hh_319.2.1, hG.step hW hU hh_319.1, hg_r0, (hh_319.2.2.1.sub (L1 := [(r0, 16, 29, .int wt_319), (r0, 16, 30, .int pe)]) [0, 3] rfl), by first | omega | (refine ⟨?_, ?_, ?_, ?_⟩ <;> (first | omega | rfl | assumption | decide | exact Or.inl rfl | exact Or.inr rfl | (simp only; omega)))⟩⟩ rfl rfl hl.1 rfl (lv_room (Nat.le_of_ble_eq_true rfl)) dX14_readNumber_176 ⟨Nat.zero_le _, Nat.zero_le _⟩) hh_319.1 (fun q _ h => h) (fun q h => h) (fun r_340 u_339 t_339 H_339 locs_339 ht_339 hvm_339 hr_340 hb_339 hz_339 hk_339 hS_339 => ?_)
                  rw [ht_339] at hb_339
                  obtain ⟨hb_3391, hb_3392, hb_3393, hb_3394, hb_3395⟩ := hb_339
                  have hh_339 : jSt (dC, dI) B base G0 G0 EX14_readNumber s.heap 0 0 [(r0, 16, 29, .int wt_319), (r0, 16, 31, .int wb_319), (r0, 16, 26, .int qn_1), (r0, 16, 30, .int pe)] [] [] H_339 locs_339 := (hh_319.call hb_3391 hb_3392 hb_3393 hb_3394 hS_339 rfl (L1 := [(r0, 16, 29, .int wt_319), (r0, 16, 31, .int wb_319), (r0, 16, 26, .int qn_1), (r0, 16, 30, .int pe)]) [0, 1, 2, 3] rfl rfl (M1 := []) [] rfl rfl (I1 := []) [] rfl rfl).more hb_3395
                  clear hh_319 ht_339 hvm_339 hz_339 hk_339 hS_339 hb_3391 hb_3392 hb_3393 hb_3394 hb_3395
                  obtain ⟨hr_340_0, hr_340_1, hr_340_2⟩ := hr_340
                  refine lv_bipush (v := 101) hx hb dX14_readNumber_179 (by decide) ?_
                  refine lv_icmp_eq (tgt := 193) hx hb dX14_readNumber_181 (by decide) (fun c_341 => ?_) (fun c_341 => ?_)
                  · skip
                    have c_341' : r_340.toInt = 101 := jb_eq (rfl) ((by decide)) c_341
                    first | replace hr_340_2 := hr_340_2.resolve_left (by omega) | replace hr_340_2 := hr_340_2.resolve_right (by omega) | skip
                    refine lv_iconst (v := 0) hx hb dX14_readNumber_193 (by decide) ?_
                    refine lv_istore (lv' := [(6, .int 0), (0, .ref r0), (1, .int r_2), (2, .int 1), (3, .int wt_310), (4, .long v4_311)]) hx hb dX14_readNumber_194 hl (by decide) rfl (fun ls hl => ?_)
                    refine lv_aload_n hx hb dX14_readNumber_196 rfl (lv_at hl 1 rfl) ?_
                    refine lv_dup hx hb dX14_readNumber_197 rfl ?_
                    refine j7_read hx hb hown hK (C := RX14) (T := TX14) (N := 74) rfl hly_16_29 (hts (.fieldLink RX14 273 "ProofServerModel" "at" "I") (by decide +kernel)) (hh_339.at 0 rfl) dX14_readNumber_198 ?_
                    refine lv_iconst (v := 1) hx hb dX14_readNumber_201 (by decide) ?_
                    refine lv_iadd hx hb dX14_readNumber_202 ?_
                    refine lv_topi (fun z_342 ez_342 => ?_)
                    have hz_342 : z_342.toInt = wt_319.toInt + 1 := by rw [ez_342]; exact jb_iadd2 (rfl) ((by decide)) (by omega)
                    refine j7_put hx hb hown hK hh_339 hB hAp hB16 (C := RX14) (T := TX14) (N := 74) rfl (by decide) hg_r0 (i := 29) (by decide) hly_16_29 rfl (hts (.fieldLink RX14 273 "ProofServerModel" "at" "I") (by decide +kernel)) rfl (ty := .int) (v := .int z_342) (by decide +kernel) rfl rfl (⟨_, rfl, by omega, by omega⟩) rfl (L1 := [(r0, 16, 31, .int wb_319), (r0, 16, 26, .int qn_1), (r0, 16, 30, .int pe)]) [1, 2, 3] rfl rfl rfl dX14_readNumber_203 (fun H_343 locs_343 hh_343 => ?_)
                    clear hh_339
                    refine lv_aload_n hx hb dX14_readNumber_206 rfl (lv_at hl 1 rfl) ?_
                    refine va_calli (A0 := jA base) (H0 := s.heap) (va_runV (As := []) (rest := []) ⟨hx, hb, hml, hown, hts⟩ (uX14_here l dC dI ca base B hB hAp hB16 hB110 G0 H_343 r0 z_342 pe) (cwV 0 hts gX14_readNumber_X14_here rfl rfl rfl (by decide +kernel) ⟨by rw [← hR]; exact Nat.le_of_ble_eq_true rfl, by rw [← hR]; exact Nat.le_of_ble_eq_true rfl⟩) ⟨fun a U g mk q => by obtain ⟨q0, q1, q2, qK, q10, q11, q12⟩ := q; exact ⟨q0, q1, q2, jG.calling g mk a qK, q10, q11, q12⟩, hh_343.recv (C := RX14) (T := TX14) (N := 74) hB16 rfl (by decide) hg_r0 hK, fun U hU hW => ⟨rfl, hU, hh_343.2.1, hG.step hW hU hh_343.1, hg_r0, (hh_343.2.2.1.sub (L1 := [(r0, 16, 29, .int z_342), (r0, 16, 30, .int pe)]) [0, 3] rfl), by first | omega | (refine ⟨?_, ?_, ?_, ?_⟩ <;> (first | omega | rfl | assumption | decide | exact Or.inl rfl | exact Or.inr rfl | (simp only; omega)))⟩⟩ rfl rfl hl.1 rfl (lv_room (Nat.le_of_ble_eq_true rfl)) dX14_readNumber_207 ⟨Nat.zero_le _, Nat.zero_le _⟩) hh_343.1 (fun q _ h => h) (fun q h => h) (fun r_345 u_344 t_344 H_344 locs_344 ht_344 hvm_344 hr_345 hb_344 hz_344 hk_344 hS_344 => ?_)
                    rw [ht_344] at hb_344
                    obtain ⟨hb_3441, hb_3442, hb_3443, hb_3444, hb_3445⟩ := hb_344
                    have hh_344 : jSt (dC, dI) B base G0 G0 EX14_readNumber s.heap 0 0 [(r0, 16, 29, .int z_342), (r0, 16, 31, .int wb_319), (r0, 16, 26, .int qn_1), (r0, 16, 30, .int pe)] [] [] H_344 locs_344 := (hh_343.call hb_3441 hb_3442 hb_3443 hb_3444 hS_344 rfl (L1 := [(r0, 16, 29, .int z_342), (r0, 16, 31, .int wb_319), (r0, 16, 26, .int qn_1), (r0, 16, 30, .int pe)]) [0, 1, 2, 3] rfl rfl (M1 := []) [] rfl rfl (I1 := []) [] rfl rfl).more hb_3445
                    clear hh_343 ht_344 hvm_344 hz_344 hk_344 hS_344 hb_3441 hb_3442 hb_3443 hb_3444 hb_3445
                    obtain ⟨hr_345_0, hr_345_1, hr_345_2⟩ := hr_345
                    refine lv_bipush (v := 43) hx hb dX14_readNumber_210 (by decide) ?_
                    have C234 : ∀ (wt_346 : Int32) (H_346 : Heap) (locs_346 : List Loc), jSt (dC, dI) B base G0 G0 EX14_readNumber s.heap 0 0 [(r0, 16, 29, .int wt_346), (r0, 16, 31, .int wb_319), (r0, 16, 26, .int qn_1), (r0, 16, 30, .int pe)] [] [] H_346 locs_346 → (pt.toInt ≤ wt_346.toInt ∧ wt_346.toInt ≤ pe.toInt ∧ pt.toInt + 1 ≤ wt_346.toInt) → ∀ ls : Array Slot, lv_has ls 9 [(0, .ref r0), (1, .int r_2), (2, .int 1), (3, .int wt_310), (4, .long v4_311), (6, .int 0)] → W p l e R s m ([.ref r0] : List Value).toArray below meth c H_346 locs_346 0 0 Q (F0 m 234 ls []) := by
                      intro wt_346 H_346 locs_346 hh_346  hi_346 ls hl
                      obtain ⟨hi_346_0, hi_346_1, hi_346_2⟩ := hi_346
                      clear hr_340_2 hr_345_2
                      refine lv_aload_n hx hb dX14_readNumber_234 rfl (lv_at hl 0 rfl) ?_
                      refine va_callv (A0 := jA base) (H0 := s.heap) (va_runV (As := []) (rest := []) ⟨hx, hb, hml, hown, hts⟩ (uX14_digits l dC dI ca base B hB hAp hB16 hB110 G0 H_346 r0 wt_346 pe) (cwV 0 hts gX14_readNumber_X14_digits rfl rfl rfl (by decide +kernel) ⟨by rw [← hR]; exact Nat.le_of_ble_eq_true rfl, by rw [← hR]; exact Nat.le_of_ble_eq_true rfl⟩) ⟨fun a U g mk q => by obtain ⟨q0, q1, q2, qK, q10, q11, q12⟩ := q; exact ⟨q0, q1, q2, jG.calling g mk a qK, q10, q11, q12⟩, hh_346.recv (C := RX14) (T := TX14) (N := 74) hB16 rfl (by decide) hg_r0 hK, fun U hU hW => ⟨rfl, hU, hh_346.2.1, hG.step hW hU hh_346.1, hg_r0, (hh_346.2.2.1.sub (L1 := [(r0, 16, 29, .int wt_346), (r0, 16, 30, .int pe)]) [0, 3] rfl), by first | omega | (refine ⟨?_, ?_, ?_, ?_, ?_⟩ <;> (first | omega | rfl | assumption | decide | exact Or.inl rfl | exact Or.inr rfl | (simp only; omega)))⟩⟩ rfl rfl hl.1 rfl (lv_room (Nat.le_of_ble_eq_true rfl)) dX14_readNumber_235 ⟨Nat.zero_le _, Nat.zero_le _⟩) hh_346.1 (fun q _ h => h) (fun q h => h) (fun u_347 t_347 H_347 locs_347 ht_347 hvm_347 hr_348 hb_347 hz_347 hk_347 hS_347 => ?_)
                      obtain ⟨qt_347, rfl⟩ : ∃ z, z = u_347 := ⟨_, rfl⟩
                      rw [ht_347] at hb_347
                      obtain ⟨hb_3471, hb_3472, hb_3473, hb_3474, hb_3475⟩ := hb_347
                      have hh_347 : jSt (dC, dI) B base G0 G0 EX14_readNumber s.heap 0 0 [(r0, 16, 29, .int qt_347), (r0, 16, 26, .int qn_1), (r0, 16, 30, .int pe)] [] [] H_347 locs_347 := (hh_346.call hb_3471 hb_3472 hb_3473 hb_3474 hS_347 rfl (L1 := [(r0, 16, 26, .int qn_1), (r0, 16, 30, .int pe)]) [2, 3] rfl rfl (M1 := []) [] rfl rfl (I1 := []) [] rfl rfl).more hb_3475
                      clear hh_346 ht_347 hvm_347 hz_347 hk_347 hS_347 hb_3471 hb_3472 hb_3473 hb_3474 hb_3475
                      obtain ⟨hr_348_0, hr_348_1⟩ := hr_348
                      obtain ⟨v_349, hv_349, hh_350⟩ := hh_347.pin (C := RX14) (T := TX14) (N := 74) hB16 rfl (by decide) hg_r0 (i := 31) (by decide) rfl
                      obtain ⟨bad_351, rfl, hzbad_351⟩ := hv_349
                      have hzbad_351' := jb_01 hzbad_351
                      exact C238 0 qt_347 bad_351 _ _ (hh_350.sub (L1 := [(r0, 16, 29, .int qt_347), (r0, 16, 31, .int bad_351), (r0, 16, 26, .int qn_1), (r0, 16, 30, .int pe)]) [1, 0, 2, 3] rfl (M1 := []) [] rfl (I1 := []) [] rfl) (Or.inl rfl) (by first | omega | (refine ⟨?_, ?_, ?_⟩ <;> (first | omega | rfl | assumption | decide | exact Or.inl rfl | exact Or.inr rfl | (simp only; omega)))) _ (lv_sub hl [0, 1, 2, 3, 4, 5] rfl)
                    refine lv_icmp_eq (tgt := 224) hx hb dX14_readNumber_212 (by decide) (fun c_352 => ?_) (fun c_352 => ?_)
                    · skip
                      have c_352' : r_345.toInt = 43 := jb_eq (rfl) ((by decide)) c_352
                      first | replace hr_345_2 := hr_345_2.resolve_left (by omega) | replace hr_345_2 := hr_345_2.resolve_right (by omega) | skip
                      refine lv_aload_n hx hb dX14_readNumber_224 rfl (lv_at hl 1 rfl) ?_
                      refine lv_dup hx hb dX14_readNumber_225 rfl ?_
                      refine j7_read hx hb hown hK (C := RX14) (T := TX14) (N := 74) rfl hly_16_29 (hts (.fieldLink RX14 273 "ProofServerModel" "at" "I") (by decide +kernel)) (hh_344.at 0 rfl) dX14_readNumber_226 ?_
                      refine lv_iconst (v := 1) hx hb dX14_readNumber_229 (by decide) ?_
                      refine lv_iadd hx hb dX14_readNumber_230 ?_
                      refine lv_topi (fun z_353 ez_353 => ?_)
                      have hz_353 : z_353.toInt = z_342.toInt + 1 := by rw [ez_353]; exact jb_iadd2 (rfl) ((by decide)) (by omega)
                      refine j7_put hx hb hown hK hh_344 hB hAp hB16 (C := RX14) (T := TX14) (N := 74) rfl (by decide) hg_r0 (i := 29) (by decide) hly_16_29 rfl (hts (.fieldLink RX14 273 "ProofServerModel" "at" "I") (by decide +kernel)) rfl (ty := .int) (v := .int z_353) (by decide +kernel) rfl rfl (⟨_, rfl, by omega, by omega⟩) rfl (L1 := [(r0, 16, 31, .int wb_319), (r0, 16, 26, .int qn_1), (r0, 16, 30, .int pe)]) [1, 2, 3] rfl rfl rfl dX14_readNumber_231 (fun H_354 locs_354 hh_354 => ?_)
                      clear hh_344
                      exact C234 z_353 _ _ hh_354 (by first | omega | (refine ⟨?_, ?_, ?_⟩ <;> (first | omega | rfl | assumption | decide | exact Or.inl rfl | exact Or.inr rfl | (simp only; omega)))) _ (lv_sub hl [1, 2, 3, 4, 5, 0] rfl)
                    · skip
                      have c_352' : r_345.toInt ≠ 43 := jb_eq_n (rfl) ((by decide)) c_352
                      first | replace hr_345_2 := hr_345_2.resolve_left (by omega) | replace hr_345_2 := hr_345_2.resolve_right (by omega) | skip
                      refine lv_aload_n hx hb dX14_readNumber_215 rfl (lv_at hl 1 rfl) ?_
                      refine va_calli (A0 := jA base) (H0 := s.heap) (va_runV (As := []) (rest := []) ⟨hx, hb, hml, hown, hts⟩ (uX14_here l dC dI ca base B hB hAp hB16 hB110 G0 H_344 r0 z_342 pe) (cwV 0 hts gX14_readNumber_X14_here rfl rfl rfl (by decide +kernel) ⟨by rw [← hR]; exact Nat.le_of_ble_eq_true rfl, by rw [← hR]; exact Nat.le_of_ble_eq_true rfl⟩) ⟨fun a U g mk q => by obtain ⟨q0, q1, q2, qK, q10, q11, q12⟩ := q; exact ⟨q0, q1, q2, jG.calling g mk a qK, q10, q11, q12⟩, hh_344.recv (C := RX14) (T := TX14) (N := 74) hB16 rfl (by decide) hg_r0 hK, fun U hU hW => ⟨rfl, hU, hh_344.2.1, hG.step hW hU hh_344.1, hg_r0, (hh_344.2.2.1.sub (L1 := [(r0, 16, 29, .int z_342), (r0, 16, 30, .int pe)]) [0, 3] rfl), by first | omega | (refine ⟨?_, ?_, ?_, ?_⟩ <;> (first | omega | rfl | assumption | decide | exact Or.inl rfl | exact Or.inr rfl | (simp only; omega)))⟩⟩ rfl rfl hl.1 rfl (lv_room (Nat.le_of_ble_eq_true rfl)) dX14_readNumber_216 ⟨Nat.zero_le _, Nat.zero_le _⟩) hh_344.1 (fun q _ h => h) (fun q h => h) (fun r_356 u_355 t_355 H_355 locs_355 ht_355 hvm_355 hr_356 hb_355 hz_355 hk_355 hS_355 => ?_)
                      rw [ht_355] at hb_355
                      obtain ⟨hb_3551, hb_3552, hb_3553, hb_3554, hb_3555⟩ := hb_355
                      have hh_355 : jSt (dC, dI) B base G0 G0 EX14_readNumber s.heap 0 0 [(r0, 16, 29, .int z_342), (r0, 16, 31, .int wb_319), (r0, 16, 26, .int qn_1), (r0, 16, 30, .int pe)] [] [] H_355 locs_355 := (hh_344.call hb_3551 hb_3552 hb_3553 hb_3554 hS_355 rfl (L1 := [(r0, 16, 29, .int z_342), (r0, 16, 31, .int wb_319), (r0, 16, 26, .int qn_1), (r0, 16, 30, .int pe)]) [0, 1, 2, 3] rfl rfl (M1 := []) [] rfl rfl (I1 := []) [] rfl rfl).more hb_3555
                      clear hh_344 ht_355 hvm_355 hz_355 hk_355 hS_355 hb_3551 hb_3552 hb_3553 hb_3554 hb_3555
                      obtain ⟨hr_356_0, hr_356_1, hr_356_2⟩ := hr_356
                      refine lv_bipush (v := 45) hx hb dX14_readNumber_219 (by decide) ?_
                      refine lv_icmp_ne (tgt := 234) hx hb dX14_readNumber_221 (by decide) (fun c_357 => ?_) (fun c_357 => ?_)
                      · skip
                        have c_357' : r_356.toInt ≠ 45 := jb_ne (rfl) ((by decide)) c_357
                        first | replace hr_356_2 := hr_356_2.resolve_left (by omega) | replace hr_356_2 := hr_356_2.resolve_right (by omega) | skip
                        exact C234 z_342 _ _ hh_355 (by first | omega | (refine ⟨?_, ?_, ?_⟩ <;> (first | omega | rfl | assumption | decide | exact Or.inl rfl | exact Or.inr rfl | (simp only; omega)))) _ (lv_sub hl [1, 2, 3, 4, 5, 0] rfl)
                      · skip
                        have c_357' : r_356.toInt = 45 := jb_ne_n (rfl) ((by decide)) c_357
                        first | replace hr_356_2 := hr_356_2.resolve_left (by omega) | replace hr_356_2 := hr_356_2.resolve_right (by omega) | skip
                        refine lv_aload_n hx hb dX14_readNumber_224 rfl (lv_at hl 1 rfl) ?_
                        refine lv_dup hx hb dX14_readNumber_225 rfl ?_
                        refine j7_read hx hb hown hK (C := RX14) (T := TX14) (N := 74) rfl hly_16_29 (hts (.fieldLink RX14 273 "ProofServerModel" "at" "I") (by decide +kernel)) (hh_355.at 0 rfl) dX14_readNumber_226 ?_
                        refine lv_iconst (v := 1) hx hb dX14_readNumber_229 (by decide) ?_
                        refine lv_iadd hx hb dX14_readNumber_230 ?_
                        refine lv_topi (fun z_358 ez_358 => ?_)
                        have hz_358 : z_358.toInt = z_342.toInt + 1 := by rw [ez_358]; exact jb_iadd2 (rfl) ((by decide)) (by omega)
                        refine j7_put hx hb hown hK hh_355 hB hAp hB16 (C := RX14) (T := TX14) (N := 74) rfl (by decide) hg_r0 (i := 29) (by decide) hly_16_29 rfl (hts (.fieldLink RX14 273 "ProofServerModel" "at" "I") (by decide +kernel)) rfl (ty := .int) (v := .int z_358) (by decide +kernel) rfl rfl (⟨_, rfl, by omega, by omega⟩) rfl (L1 := [(r0, 16, 31, .int wb_319), (r0, 16, 26, .int qn_1), (r0, 16, 30, .int pe)]) [1, 2, 3] rfl rfl rfl dX14_readNumber_231 (fun H_359 locs_359 hh_359 => ?_)
                        clear hh_355
                        exact C234 z_358 _ _ hh_359 (by first | omega | (refine ⟨?_, ?_, ?_⟩ <;> (first | omega | rfl | assumption | decide | exact Or.inl rfl | exact Or.inr rfl | (simp only; omega)))) _ (lv_sub hl [1, 2, 3, 4, 5, 0] rfl)
                  · skip
                    have c_341' : r_340.toInt ≠ 101 := jb_eq_n (rfl) ((by decide)) c_341
                    first | replace hr_340_2 := hr_340_2.resolve_left (by omega) | replace hr_340_2 := hr_340_2.resolve_right (by omega) | skip
                    refine lv_aload_n hx hb dX14_readNumber_184 rfl (lv_at hl 0 rfl) ?_
                    refine va_calli (A0 := jA base) (H0 := s.heap) (va_runV (As := []) (rest := []) ⟨hx, hb, hml, hown, hts⟩ (uX14_here l dC dI ca base B hB hAp hB16 hB110 G0 H_339 r0 wt_319 pe) (cwV 0 hts gX14_readNumber_X14_here rfl rfl rfl (by decide +kernel) ⟨by rw [← hR]; exact Nat.le_of_ble_eq_true rfl, by rw [← hR]; exact Nat.le_of_ble_eq_true rfl⟩) ⟨fun a U g mk q => by obtain ⟨q0, q1, q2, qK, q10, q11, q12⟩ := q; exact ⟨q0, q1, q2, jG.calling g mk a qK, q10, q11, q12⟩, hh_339.recv (C := RX14) (T := TX14) (N := 74) hB16 rfl (by decide) hg_r0 hK, fun U hU hW => ⟨rfl, hU, hh_339.2.1, hG.step hW hU hh_339.1, hg_r0, (hh_339.2.2.1.sub (L1 := [(r0, 16, 29, .int wt_319), (r0, 16, 30, .int pe)]) [0, 3] rfl), by first | omega | (refine ⟨?_, ?_, ?_, ?_⟩ <;> (first | omega | rfl | assumption | decide | exact Or.inl rfl | exact Or.inr rfl | (simp only; omega)))⟩⟩ rfl rfl hl.1 rfl (lv_room (Nat.le_of_ble_eq_true rfl)) dX14_readNumber_185 ⟨Nat.zero_le _, Nat.zero_le _⟩) hh_339.1 (fun q _ h => h) (fun q h => h) (fun r_361 u_360 t_360 H_360 locs_360 ht_360 hvm_360 hr_361 hb_360 hz_360 hk_360 hS_360 => ?_)
                    rw [ht_360] at hb_360
                    obtain ⟨hb_3601, hb_3602, hb_3603, hb_3604, hb_3605⟩ := hb_360
                    have hh_360 : jSt (dC, dI) B base G0 G0 EX14_readNumber s.heap 0 0 [(r0, 16, 29, .int wt_319), (r0, 16, 31, .int wb_319), (r0, 16, 26, .int qn_1), (r0, 16, 30, .int pe)] [] [] H_360 locs_360 := (hh_339.call hb_3601 hb_3602 hb_3603 hb_3604 hS_360 rfl (L1 := [(r0, 16, 29, .int wt_319), (r0, 16, 31, .int wb_319), (r0, 16, 26, .int qn_1), (r0, 16, 30, .int pe)]) [0, 1, 2, 3] rfl rfl (M1 := []) [] rfl rfl (I1 := []) [] rfl rfl).more hb_3605
                    clear hh_339 ht_360 hvm_360 hz_360 hk_360 hS_360 hb_3601 hb_3602 hb_3603 hb_3604 hb_3605
                    obtain ⟨hr_361_0, hr_361_1, hr_361_2⟩ := hr_361
                    refine lv_bipush (v := 69) hx hb dX14_readNumber_188 (by decide) ?_
                    refine lv_icmp_ne (tgt := 238) hx hb dX14_readNumber_190 (by decide) (fun c_362 => ?_) (fun c_362 => ?_)
                    · skip
                      have c_362' : r_361.toInt ≠ 69 := jb_ne (rfl) ((by decide)) c_362
                      first | replace hr_361_2 := hr_361_2.resolve_left (by omega) | replace hr_361_2 := hr_361_2.resolve_right (by omega) | skip
                      exact C238 v6_319 wt_319 wb_319 _ _ hh_360 (hb_v6_319) (by first | omega | (refine ⟨?_, ?_, ?_⟩ <;> (first | omega | rfl | assumption | decide | exact Or.inl rfl | exact Or.inr rfl | (simp only; omega)))) _ (lv_sub hl [0, 1, 2, 3, 4, 5] rfl)
                    · skip
                      have c_362' : r_361.toInt = 69 := jb_ne_n (rfl) ((by decide)) c_362
                      first | replace hr_361_2 := hr_361_2.resolve_left (by omega) | replace hr_361_2 := hr_361_2.resolve_right (by omega) | skip
                      refine lv_iconst (v := 0) hx hb dX14_readNumber_193 (by decide) ?_
                      refine lv_istore (lv' := [(6, .int 0), (0, .ref r0), (1, .int r_2), (2, .int 1), (3, .int wt_310), (4, .long v4_311)]) hx hb dX14_readNumber_194 hl (by decide) rfl (fun ls hl => ?_)
                      refine lv_aload_n hx hb dX14_readNumber_196 rfl (lv_at hl 1 rfl) ?_
                      refine lv_dup hx hb dX14_readNumber_197 rfl ?_
                      refine j7_read hx hb hown hK (C := RX14) (T := TX14) (N := 74) rfl hly_16_29 (hts (.fieldLink RX14 273 "ProofServerModel" "at" "I") (by decide +kernel)) (hh_360.at 0 rfl) dX14_readNumber_198 ?_
                      refine lv_iconst (v := 1) hx hb dX14_readNumber_201 (by decide) ?_
                      refine lv_iadd hx hb dX14_readNumber_202 ?_
                      refine lv_topi (fun z_363 ez_363 => ?_)
                      have hz_363 : z_363.toInt = wt_319.toInt + 1 := by rw [ez_363]; exact jb_iadd2 (rfl) ((by decide)) (by omega)
                      refine j7_put hx hb hown hK hh_360 hB hAp hB16 (C := RX14) (T := TX14) (N := 74) rfl (by decide) hg_r0 (i := 29) (by decide) hly_16_29 rfl (hts (.fieldLink RX14 273 "ProofServerModel" "at" "I") (by decide +kernel)) rfl (ty := .int) (v := .int z_363) (by decide +kernel) rfl rfl (⟨_, rfl, by omega, by omega⟩) rfl (L1 := [(r0, 16, 31, .int wb_319), (r0, 16, 26, .int qn_1), (r0, 16, 30, .int pe)]) [1, 2, 3] rfl rfl rfl dX14_readNumber_203 (fun H_364 locs_364 hh_364 => ?_)
                      clear hh_360
                      refine lv_aload_n hx hb dX14_readNumber_206 rfl (lv_at hl 1 rfl) ?_
                      refine va_calli (A0 := jA base) (H0 := s.heap) (va_runV (As := []) (rest := []) ⟨hx, hb, hml, hown, hts⟩ (uX14_here l dC dI ca base B hB hAp hB16 hB110 G0 H_364 r0 z_363 pe) (cwV 0 hts gX14_readNumber_X14_here rfl rfl rfl (by decide +kernel) ⟨by rw [← hR]; exact Nat.le_of_ble_eq_true rfl, by rw [← hR]; exact Nat.le_of_ble_eq_true rfl⟩) ⟨fun a U g mk q => by obtain ⟨q0, q1, q2, qK, q10, q11, q12⟩ := q; exact ⟨q0, q1, q2, jG.calling g mk a qK, q10, q11, q12⟩, hh_364.recv (C := RX14) (T := TX14) (N := 74) hB16 rfl (by decide) hg_r0 hK, fun U hU hW => ⟨rfl, hU, hh_364.2.1, hG.step hW hU hh_364.1, hg_r0, (hh_364.2.2.1.sub (L1 := [(r0, 16, 29, .int z_363), (r0, 16, 30, .int pe)]) [0, 3] rfl), by first | omega | (refine ⟨?_, ?_, ?_, ?_⟩ <;> (first | omega | rfl | assumption | decide | exact Or.inl rfl | exact Or.inr rfl | (simp only; omega)))⟩⟩ rfl rfl hl.1 rfl (lv_room (Nat.le_of_ble_eq_true rfl)) dX14_readNumber_207 ⟨Nat.zero_le _, Nat.zero_le _⟩) hh_364.1 (fun q _ h => h) (fun q h => h) (fun r_366 u_365 t_365 H_365 locs_365 ht_365 hvm_365 hr_366 hb_365 hz_365 hk_365 hS_365 => ?_)
                      rw [ht_365] at hb_365
                      obtain ⟨hb_3651, hb_3652, hb_3653, hb_3654, hb_3655⟩ := hb_365
                      have hh_365 : jSt (dC, dI) B base G0 G0 EX14_readNumber s.heap 0 0 [(r0, 16, 29, .int z_363), (r0, 16, 31, .int wb_319), (r0, 16, 26, .int qn_1), (r0, 16, 30, .int pe)] [] [] H_365 locs_365 := (hh_364.call hb_3651 hb_3652 hb_3653 hb_3654 hS_365 rfl (L1 := [(r0, 16, 29, .int z_363), (r0, 16, 31, .int wb_319), (r0, 16, 26, .int qn_1), (r0, 16, 30, .int pe)]) [0, 1, 2, 3] rfl rfl (M1 := []) [] rfl rfl (I1 := []) [] rfl rfl).more hb_3655
                      clear hh_364 ht_365 hvm_365 hz_365 hk_365 hS_365 hb_3651 hb_3652 hb_3653 hb_3654 hb_3655
                      obtain ⟨hr_366_0, hr_366_1, hr_366_2⟩ := hr_366
                      refine lv_bipush (v := 43) hx hb dX14_readNumber_210 (by decide) ?_
                      have C234 : ∀ (wt_367 : Int32) (H_367 : Heap) (locs_367 : List Loc), jSt (dC, dI) B base G0 G0 EX14_readNumber s.heap 0 0 [(r0, 16, 29, .int wt_367), (r0, 16, 31, .int wb_319), (r0, 16, 26, .int qn_1), (r0, 16, 30, .int pe)] [] [] H_367 locs_367 → (pt.toInt ≤ wt_367.toInt ∧ wt_367.toInt ≤ pe.toInt ∧ pt.toInt + 1 ≤ wt_367.toInt) → ∀ ls : Array Slot, lv_has ls 9 [(0, .ref r0), (1, .int r_2), (2, .int 1), (3, .int wt_310), (4, .long v4_311), (6, .int 0)] → W p l e R s m ([.ref r0] : List Value).toArray below meth c H_367 locs_367 0 0 Q (F0 m 234 ls []) := by
                        intro wt_367 H_367 locs_367 hh_367  hi_367 ls hl
                        obtain ⟨hi_367_0, hi_367_1, hi_367_2⟩ := hi_367
                        clear hr_340_2 hr_361_2 hr_366_2
                        refine lv_aload_n hx hb dX14_readNumber_234 rfl (lv_at hl 0 rfl) ?_
                        refine va_callv (A0 := jA base) (H0 := s.heap) (va_runV (As := []) (rest := []) ⟨hx, hb, hml, hown, hts⟩ (uX14_digits l dC dI ca base B hB hAp hB16 hB110 G0 H_367 r0 wt_367 pe) (cwV 0 hts gX14_readNumber_X14_digits rfl rfl rfl (by decide +kernel) ⟨by rw [← hR]; exact Nat.le_of_ble_eq_true rfl, by rw [← hR]; exact Nat.le_of_ble_eq_true rfl⟩) ⟨fun a U g mk q => by obtain ⟨q0, q1, q2, qK, q10, q11, q12⟩ := q; exact ⟨q0, q1, q2, jG.calling g mk a qK, q10, q11, q12⟩, hh_367.recv (C := RX14) (T := TX14) (N := 74) hB16 rfl (by decide) hg_r0 hK, fun U hU hW => ⟨rfl, hU, hh_367.2.1, hG.step hW hU hh_367.1, hg_r0, (hh_367.2.2.1.sub (L1 := [(r0, 16, 29, .int wt_367), (r0, 16, 30, .int pe)]) [0, 3] rfl), by first | omega | (refine ⟨?_, ?_, ?_, ?_, ?_⟩ <;> (first | omega | rfl | assumption | decide | exact Or.inl rfl | exact Or.inr rfl | (simp only; omega)))⟩⟩ rfl rfl hl.1 rfl (lv_room (Nat.le_of_ble_eq_true rfl)) dX14_readNumber_235 ⟨Nat.zero_le _, Nat.zero_le _⟩) hh_367.1 (fun q _ h => h) (fun q h => h) (fun u_368 t_368 H_368 locs_368 ht_368 hvm_368 hr_369 hb_368 hz_368 hk_368 hS_368 => ?_)
                        obtain ⟨qt_368, rfl⟩ : ∃ z, z = u_368 := ⟨_, rfl⟩
                        rw [ht_368] at hb_368
                        obtain ⟨hb_3681, hb_3682, hb_3683, hb_3684, hb_3685⟩ := hb_368
                        have hh_368 : jSt (dC, dI) B base G0 G0 EX14_readNumber s.heap 0 0 [(r0, 16, 29, .int qt_368), (r0, 16, 26, .int qn_1), (r0, 16, 30, .int pe)] [] [] H_368 locs_368 := (hh_367.call hb_3681 hb_3682 hb_3683 hb_3684 hS_368 rfl (L1 := [(r0, 16, 26, .int qn_1), (r0, 16, 30, .int pe)]) [2, 3] rfl rfl (M1 := []) [] rfl rfl (I1 := []) [] rfl rfl).more hb_3685
                        clear hh_367 ht_368 hvm_368 hz_368 hk_368 hS_368 hb_3681 hb_3682 hb_3683 hb_3684 hb_3685
                        obtain ⟨hr_369_0, hr_369_1⟩ := hr_369
                        obtain ⟨v_370, hv_370, hh_371⟩ := hh_368.pin (C := RX14) (T := TX14) (N := 74) hB16 rfl (by decide) hg_r0 (i := 31) (by decide) rfl
                        obtain ⟨bad_372, rfl, hzbad_372⟩ := hv_370
                        have hzbad_372' := jb_01 hzbad_372
                        exact C238 0 qt_368 bad_372 _ _ (hh_371.sub (L1 := [(r0, 16, 29, .int qt_368), (r0, 16, 31, .int bad_372), (r0, 16, 26, .int qn_1), (r0, 16, 30, .int pe)]) [1, 0, 2, 3] rfl (M1 := []) [] rfl (I1 := []) [] rfl) (Or.inl rfl) (by first | omega | (refine ⟨?_, ?_, ?_⟩ <;> (first | omega | rfl | assumption | decide | exact Or.inl rfl | exact Or.inr rfl | (simp only; omega)))) _ (lv_sub hl [0, 1, 2, 3, 4, 5] rfl)
                      refine lv_icmp_eq (tgt := 224) hx hb dX14_readNumber_212 (by decide) (fun c_373 => ?_) (fun c_373 => ?_)
                      · skip
                        have c_373' : r_366.toInt = 43 := jb_eq (rfl) ((by decide)) c_373
                        first | replace hr_366_2 := hr_366_2.resolve_left (by omega) | replace hr_366_2 := hr_366_2.resolve_right (by omega) | skip
                        refine lv_aload_n hx hb dX14_readNumber_224 rfl (lv_at hl 1 rfl) ?_
                        refine lv_dup hx hb dX14_readNumber_225 rfl ?_
                        refine j7_read hx hb hown hK (C := RX14) (T := TX14) (N := 74) rfl hly_16_29 (hts (.fieldLink RX14 273 "ProofServerModel" "at" "I") (by decide +kernel)) (hh_365.at 0 rfl) dX14_readNumber_226 ?_
                        refine lv_iconst (v := 1) hx hb dX14_readNumber_229 (by decide) ?_
                        refine lv_iadd hx hb dX14_readNumber_230 ?_
                        refine lv_topi (fun z_374 ez_374 => ?_)
                        have hz_374 : z_374.toInt = z_363.toInt + 1 := by rw [ez_374]; exact jb_iadd2 (rfl) ((by decide)) (by omega)
                        refine j7_put hx hb hown hK hh_365 hB hAp hB16 (C := RX14) (T := TX14) (N := 74) rfl (by decide) hg_r0 (i := 29) (by decide) hly_16_29 rfl (hts (.fieldLink RX14 273 "ProofServerModel" "at" "I") (by decide +kernel)) rfl (ty := .int) (v := .int z_374) (by decide +kernel) rfl rfl (⟨_, rfl, by omega, by omega⟩) rfl (L1 := [(r0, 16, 31, .int wb_319), (r0, 16, 26, .int qn_1), (r0, 16, 30, .int pe)]) [1, 2, 3] rfl rfl rfl dX14_readNumber_231 (fun H_375 locs_375 hh_375 => ?_)
                        clear hh_365
                        exact C234 z_374 _ _ hh_375 (by first | omega | (refine ⟨?_, ?_, ?_⟩ <;> (first | omega | rfl | assumption | decide | exact Or.inl rfl | exact Or.inr rfl | (simp only; omega)))) _ (lv_sub hl [1, 2, 3, 4, 5, 0] rfl)
                      · skip
                        have c_373' : r_366.toInt ≠ 43 := jb_eq_n (rfl) ((by decide)) c_373
                        first | replace hr_366_2 := hr_366_2.resolve_left (by omega) | replace hr_366_2 := hr_366_2.resolve_right (by omega) | skip
                        refine lv_aload_n hx hb dX14_readNumber_215 rfl (lv_at hl 1 rfl) ?_
                        refine va_calli (A0 := jA base) (H0 := s.heap) (va_runV (As := []) (rest := []) ⟨hx, hb, hml, hown, hts⟩ (uX14_here l dC dI ca base B hB hAp hB16 hB110 G0 H_365 r0 z_363 pe) (cwV 0 hts gX14_readNumber_X14_here rfl rfl rfl (by decide +kernel) ⟨by rw [← hR]; exact Nat.le_of_ble_eq_true rfl, by rw [← hR]; exact Nat.le_of_ble_eq_true rfl⟩) ⟨fun a U g mk q => by obtain ⟨q0, q1, q2, qK, q10, q11, q12⟩ := q; exact ⟨q0, q1, q2, jG.calling g mk a qK, q10, q11, q12⟩, hh_365.recv (C := RX14) (T := TX14) (N := 74) hB16 rfl (by decide) hg_r0 hK, fun U hU hW => ⟨rfl, hU, hh_365.2.1, hG.step hW hU hh_365.1, hg_r0, (hh_365.2.2.1.sub (L1 := [(r0, 16, 29, .int z_363), (r0, 16, 30, .int pe)]) [0, 3] rfl), by first | omega | (refine ⟨?_, ?_, ?_, ?_⟩ <;> (first | omega | rfl | assumption | decide | exact Or.inl rfl | exact Or.inr rfl | (simp only; omega)))⟩⟩ rfl rfl hl.1 rfl (lv_room (Nat.le_of_ble_eq_true rfl)) dX14_readNumber_216 ⟨Nat.zero_le _, Nat.zero_le _⟩) hh_365.1 (fun q _ h => h) (fun q h => h) (fun r_377 u_376 t_376 H_376 locs_376 ht_376 hvm_376 hr_377 hb_376 hz_376 hk_376 hS_376 => ?_)
                        rw [ht_376] at hb_376
                        obtain ⟨hb_3761, hb_3762, hb_3763, hb_3764, hb_3765⟩ := hb_376
                        have hh_376 : jSt (dC, dI) B base G0 G0 EX14_readNumber s.heap 0 0 [(r0, 16, 29, .int z_363), (r0, 16, 31, .int wb_319), (r0, 16, 26, .int qn_1), (r0, 16, 30, .int pe)] [] [] H_376 locs_376 := (hh_365.call hb_3761 hb_3762 hb_3763 hb_3764 hS_376 rfl (L1 := [(r0, 16, 29, .int z_363), (r0, 16, 31, .int wb_319), (r0, 16, 26, .int qn_1), (r0, 16, 30, .int pe)]) [0, 1, 2, 3] rfl rfl (M1 := []) [] rfl rfl (I1 := []) [] rfl rfl).more hb_3765
                        clear hh_365 ht_376 hvm_376 hz_376 hk_376 hS_376 hb_3761 hb_3762 hb_3763 hb_3764 hb_3765
                        obtain ⟨hr_377_0, hr_377_1, hr_377_2⟩ := hr_377
                        refine lv_bipush (v := 45) hx hb dX14_readNumber_219 (by decide) ?_
                        refine lv_icmp_ne (tgt := 234) hx hb dX14_readNumber_221 (by decide) (fun c_378 => ?_) (fun c_378 => ?_)
                        · skip
                          have c_378' : r_377.toInt ≠ 45 := jb_ne (rfl) ((by decide)) c_378
                          first | replace hr_377_2 := hr_377_2.resolve_left (by omega) | replace hr_377_2 := hr_377_2.resolve_right (by omega) | skip
                          exact C234 z_363 _ _ hh_376 (by first | omega | (refine ⟨?_, ?_, ?_⟩ <;> (first | omega | rfl | assumption | decide | exact Or.inl rfl | exact Or.inr rfl | (simp only; omega)))) _ (lv_sub hl [1, 2, 3, 4, 5, 0] rfl)
                        · skip
                          have c_378' : r_377.toInt = 45 := jb_ne_n (rfl) ((by decide)) c_378
                          first | replace hr_377_2 := hr_377_2.resolve_left (by omega) | replace hr_377_2 := hr_377_2.resolve_right (by omega) | skip
                          refine lv_aload_n hx hb dX14_readNumber_224 rfl (lv_at hl 1 rfl) ?_
                          refine lv_dup hx hb dX14_readNumber_225 rfl ?_
                          refine j7_read hx hb hown hK (C := RX14) (T := TX14) (N := 74) rfl hly_16_29 (hts (.fieldLink RX14 273 "ProofServerModel" "at" "I") (by decide +kernel)) (hh_376.at 0 rfl) dX14_readNumber_226 ?_
                          refine lv_iconst (v := 1) hx hb dX14_readNumber_229 (by decide) ?_
                          refine lv_iadd hx hb dX14_readNumber_230 ?_
                          refine lv_topi (fun z_379 ez_379 => ?_)
                          have hz_379 : z_379.toInt = z_363.toInt + 1 := by rw [ez_379]; exact jb_iadd2 (rfl) ((by decide)) (by omega)
                          refine j7_put hx hb hown hK hh_376 hB hAp hB16 (C := RX14) (T := TX14) (N := 74) rfl (by decide) hg_r0 (i := 29) (by decide) hly_16_29 rfl (hts (.fieldLink RX14 273 "ProofServerModel" "at" "I") (by decide +kernel)) rfl (ty := .int) (v := .int z_379) (by decide +kernel) rfl rfl (⟨_, rfl, by omega, by omega⟩) rfl (L1 := [(r0, 16, 31, .int wb_319), (r0, 16, 26, .int qn_1), (r0, 16, 30, .int pe)]) [1, 2, 3] rfl rfl rfl dX14_readNumber_231 (fun H_380 locs_380 hh_380 => ?_)
                          clear hh_376
                          exact C234 z_379 _ _ hh_380 (by first | omega | (refine ⟨?_, ?_, ?_⟩ <;> (first | omega | rfl | assumption | decide | exact Or.inl rfl | exact Or.inr rfl | (simp only; omega)))) _ (lv_sub hl [1, 2, 3, 4, 5, 0] rfl)
              refine lv_if_ne (tgt := 168) hx hb dX14_readNumber_139 (by decide) (fun c_381 => ?_) (fun c_381 => ?_)
              · skip
                exact C168 1 wt_311 1 _ _ (hh_318.sub (L1 := [(r0, 16, 29, .int wt_311), (r0, 16, 31, .int 1), (r0, 16, 26, .int qn_1), (r0, 16, 30, .int pe)]) [1, 0, 2, 3] rfl (M1 := []) [] rfl (I1 := []) [] rfl) (Or.inr rfl) (by first | omega | (refine ⟨?_, ?_, ?_⟩ <;> (first | omega | rfl | assumption | decide | exact Or.inl rfl | exact Or.inr rfl | (simp only; omega)))) _ (lv_sub hl [1, 2, 3, 4, 5, 0] rfl)
              · skip
                exact absurd c_381 (by decide)
            · skip
              have c_317' : wt_311.toInt ≠ wt_310.toInt := jb_eq_n (rfl) (rfl) c_317
              refine lv_aload_n hx hb dX14_readNumber_106 rfl (lv_at hl 0 rfl) ?_
              obtain ⟨v_382, hv_382, hh_383⟩ := hh_314.pin (C := RX14) (T := TX14) (N := 74) hB16 rfl (by decide) hg_r0 (i := 9) (by decide) rfl
              clear hh_314
              obtain ⟨kept_384, rfl, hg_kept_384⟩ := hv_382
              refine j7_read hx hb hown hK (C := RX14) (T := TX14) (N := 74) rfl hly_16_9 (hts (.fieldLink RX14 20 "ProofServerModel" "kept" "[I") (by decide +kernel)) (hh_383.at 0 rfl) dX14_readNumber_107 ?_
              refine lv_iload_n hx hb dX14_readNumber_110 rfl (lv_at hl 3 rfl) ?_
              refine j7_iald hx hb hK hh_383 hB110 1 rfl (by decide) hg_kept_384 (rfl) (by omega) dX14_readNumber_111 (fun z_385 (hz_385 : 0 ≤ z_385.toInt ∧ z_385.toInt ≤ 255) => ?_)
              refine lv_bipush (v := 48) hx hb dX14_readNumber_112 (by decide) ?_
              refine lv_icmp_ne (tgt := 132) hx hb dX14_readNumber_114 (by decide) (fun c_386 => ?_) (fun c_386 => ?_)
              · skip
                have c_386' : z_385.toInt ≠ 48 := jb_ne (rfl) ((by decide)) c_386
                refine lv_iconst (v := 1) hx hb dX14_readNumber_132 (by decide) ?_
                refine lv_istore (lv' := [(6, .int 1), (0, .ref r0), (1, .int r_2), (2, .int 1), (3, .int wt_310), (4, .long v4_311)]) hx hb dX14_readNumber_133 hl (by decide) rfl (fun ls hl => ?_)
                refine lv_aload_n hx hb dX14_readNumber_135 rfl (lv_at hl 1 rfl) ?_
                obtain ⟨v_387, hv_387, hh_388⟩ := hh_383.pin (C := RX14) (T := TX14) (N := 74) hB16 rfl (by decide) hg_r0 (i := 31) (by decide) rfl
                clear hh_383
                obtain ⟨bad_389, rfl, hzbad_389⟩ := hv_387
                have hzbad_389' := jb_01 hzbad_389
                refine j7_read hx hb hown hK (C := RX14) (T := TX14) (N := 74) rfl hly_16_31 (hts (.fieldLink RX14 288 "ProofServerModel" "bad" "Z") (by decide +kernel)) (hh_388.at 0 rfl) dX14_readNumber_136 ?_
                have C168 : ∀ (v6_390 : Int32) (wt_390 : Int32) (wb_390 : Int32) (H_390 : Heap) (locs_390 : List Loc), jSt (dC, dI) B base G0 G0 EX14_readNumber s.heap 0 0 [(r0, 16, 29, .int wt_390), (r0, 16, 31, .int wb_390), (r0, 16, 9, .ref kept_384), (r0, 16, 26, .int qn_1), (r0, 16, 30, .int pe)] [] [] H_390 locs_390 → (v6_390 = 0 ∨ v6_390 = 1) → (pt.toInt ≤ wt_390.toInt ∧ wt_390.toInt ≤ pe.toInt ∧ (wb_390.toInt = 1 ∨ pt.toInt + 1 ≤ wt_390.toInt)) → ∀ ls : Array Slot, lv_has ls 9 [(0, .ref r0), (1, .int r_2), (2, .int 1), (3, .int wt_310), (4, .long v4_311), (6, .int v6_390)] → W p l e R s m ([.ref r0] : List Value).toArray below meth c H_390 locs_390 0 0 Q (F0 m 168 ls []) := by
                  intro v6_390 wt_390 wb_390 H_390 locs_390 hh_390 hb_v6_390 hi_390 ls hl
                  obtain ⟨hi_390_0, hi_390_1, hi_390_2⟩ := hi_390
                  have hb_v6_390' := jb_01 hb_v6_390
                  clear hr_313_2
                  refine lv_aload_n hx hb dX14_readNumber_168 rfl (lv_at hl 0 rfl) ?_
                  refine j7_read hx hb hown hK (C := RX14) (T := TX14) (N := 74) rfl hly_16_31 (hts (.fieldLink RX14 288 "ProofServerModel" "bad" "Z") (by decide +kernel)) (hh_390.at 1 rfl) dX14_readNumber_169 ?_
                  have C238 : ∀ (v6_391 : Int32) (wt_391 : Int32) (wb_391 : Int32) (H_391 : Heap) (locs_391 : List Loc), jSt (dC, dI) B base G0 G0 EX14_readNumber s.heap 0 0 [(r0, 16, 29, .int wt_391), (r0, 16, 31, .int wb_391), (r0, 16, 9, .ref kept_384), (r0, 16, 26, .int qn_1), (r0, 16, 30, .int pe)] [] [] H_391 locs_391 → (v6_391 = 0 ∨ v6_391 = 1) → (pt.toInt ≤ wt_391.toInt ∧ wt_391.toInt ≤ pe.toInt ∧ (wb_391.toInt = 1 ∨ pt.toInt + 1 ≤ wt_391.toInt)) → ∀ ls : Array Slot, lv_has ls 9 [(0, .ref r0), (1, .int r_2), (2, .int 1), (3, .int wt_310), (4, .long v4_311), (6, .int v6_391)] → W p l e R s m ([.ref r0] : List Value).toArray below meth c H_391 locs_391 0 0 Q (F0 m 238 ls []) := by
                    intro v6_391 wt_391 wb_391 H_391 locs_391 hh_391 hb_v6_391 hi_391 ls hl
                    obtain ⟨hi_391_0, hi_391_1, hi_391_2⟩ := hi_391
                    have hb_v6_391' := jb_01 hb_v6_391
                    refine lv_iload_n hx hb dX14_readNumber_238 rfl (lv_at hl 2 rfl) ?_
                    refine lv_if_eq (tgt := 248) hx hb dX14_readNumber_239 (by decide) (fun c_392 => ?_) (fun c_392 => ?_)
                    · skip
                      exact absurd c_392 (by decide)
                    · skip
                      refine lv_lload hx hb dX14_readNumber_242 (lv_at hl 4 rfl) ?_
                      refine lv_lneg hx hb dX14_readNumber_244 ?_
                      refine lv_topl (fun z_393 ez_393 => ?_)
                      refine lv_goto (tgt := 250) hx hb dX14_readNumber_245 (by decide) ?_
                      refine lv_lstore (lv' := [(7, .long z_393), (0, .ref r0), (1, .int r_2), (2, .int 1), (3, .int wt_310), (4, .long v4_311), (6, .int v6_391)]) hx hb dX14_readNumber_250 hl (by decide) rfl (fun ls hl => ?_)
                      refine lv_aload_n hx hb dX14_readNumber_252 rfl (lv_at hl 1 rfl) ?_
                      obtain ⟨v_394, hv_394, hh_395⟩ := hh_391.pin (C := RX14) (T := TX14) (N := 74) hB16 rfl (by decide) hg_r0 (i := 24) (by decide) rfl
                      clear hh_391
                      obtain ⟨isInt_396, rfl, hg_isInt_396⟩ := hv_394
                      refine j7_read hx hb hown hK (C := RX14) (T := TX14) (N := 74) rfl hly_16_24 (hts (.fieldLink RX14 58 "ProofServerModel" "isInt" "[Z") (by decide +kernel)) (hh_395.at 0 rfl) dX14_readNumber_253 ?_
                      refine lv_iload_n hx hb dX14_readNumber_256 rfl (lv_at hl 2 rfl) ?_
                      refine lv_iload hx hb dX14_readNumber_257 (lv_at hl 6 rfl) ?_
                      have C285 : ∀ (w0_397 : Int32) (H_397 : Heap) (locs_397 : List Loc), jSt (dC, dI) B base G0 G0 EX14_readNumber s.heap 0 0 [(r0, 16, 24, .ref isInt_396), (r0, 16, 29, .int wt_391), (r0, 16, 31, .int wb_391), (r0, 16, 9, .ref kept_384), (r0, 16, 26, .int qn_1), (r0, 16, 30, .int pe)] [] [] H_397 locs_397 → (w0_397 = 0 ∨ w0_397 = 1) → (True) → ∀ ls : Array Slot, lv_has ls 9 [(0, .ref r0), (1, .int r_2), (2, .int 1), (3, .int wt_310), (4, .long v4_311), (6, .int v6_391), (7, .long z_393)] → W p l e R s m ([.ref r0] : List Value).toArray below meth c H_397 locs_397 0 0 Q (F0 m 285 ls [.int w0_397, .int r_2, .ref isInt_396]) := by
                        intro w0_397 H_397 locs_397 hh_397 hb_w0_397 hi_397 ls hl
                        have hb_w0_397' := jb_01 hb_w0_397
                        refine j7_zast hx hb hK hh_397 hB hB124 3 rfl (by decide) (by decide) rfl rfl rfl hg_isInt_396 (rfl) (by omega) (hb_w0_397) (hb_w0_397) dX14_readNumber_285 (fun H_398 locs_398 hh_398 => ?_)
                        clear hh_397
                        refine lv_aload_n hx hb dX14_readNumber_286 rfl (lv_at hl 0 rfl) ?_
                        obtain ⟨v_399, hv_399, hh_400⟩ := hh_398.pin (C := RX14) (T := TX14) (N := 74) hB16 rfl (by decide) hg_r0 (i := 25) (by decide) rfl
                        clear hh_398
                        obtain ⟨ints_401, rfl, hg_ints_401⟩ := hv_399
                        refine j7_read hx hb hown hK (C := RX14) (T := TX14) (N := 74) rfl hly_16_25 (hts (.fieldLink RX14 62 "ProofServerModel" "ints" "[I") (by decide +kernel)) (hh_400.at 0 rfl) dX14_readNumber_287 ?_
                        refine lv_iload_n hx hb dX14_readNumber_290 rfl (lv_at hl 1 rfl) ?_
                        refine lv_lload hx hb dX14_readNumber_291 (lv_at hl 6 rfl) ?_
                        refine lv_l2i hx hb dX14_readNumber_293 rfl ?_
                        refine lv_topi (fun z_402 ez_402 => ?_)
                        refine j7_iast hx hb hK hh_400 hB hB125 1 rfl (by decide) (by decide) rfl rfl rfl hg_ints_401 (rfl) (by omega) (trivial) dX14_readNumber_294 (fun H_403 locs_403 hh_403 => ?_)
                        clear hh_400
                        refine lv_iload_n hx hb dX14_readNumber_295 rfl (lv_at hl 1 rfl) ?_
                        rw [hQ]
                        exact W.iret (v := r_2) hx hb hr (fun t ht hW => ⟨⟨r_2, (wt_391, qn_1, wb_391), rfl, by first | omega | (refine ⟨?_, ?_, ?_, ?_, ?_⟩ <;> (first | omega | rfl | assumption | decide | exact Or.inl rfl | exact Or.inr rfl | (simp only; omega))), hh_403.rt (M1 := [(r0, 16, 29, .int wt_391), (r0, 16, 26, .int qn_1), (r0, 16, 31, .int wb_391)]) [2, 5, 3] rfl ht⟩, by rw [ht]; try exact hh_403.1.1, fun q h9 hq => by rw [ht]; try exact hh_403.1.2.1 q h9 hq⟩) hh_403.1.2.2 dX14_readNumber_296
                      refine lv_if_eq (tgt := 284) hx hb dX14_readNumber_259 (by decide) (fun c_404 => ?_) (fun c_404 => ?_)
                      · skip
                        have c_404' : v6_391.toInt = 0 := jb_eq (rfl) ((by decide)) c_404
                        refine lv_iconst (v := 0) hx hb dX14_readNumber_284 (by decide) ?_
                        exact C285 0 _ _ hh_395 (Or.inl rfl) (trivial) _ (lv_sub hl [1, 2, 3, 4, 5, 6, 0] rfl)
                      · skip
                        have c_404' : v6_391.toInt ≠ 0 := jb_eq_n (rfl) ((by decide)) c_404
                        refine lv_lload hx hb dX14_readNumber_262 (lv_at hl 0 rfl) ?_
                        refine lv_ldc2 hx hb hown (hts (.constantLong RX14 329 (-2147483648)) (by decide +kernel)) dX14_readNumber_264 ?_
                        refine W.lcmp hx hb dX14_readNumber_267 ?_
                        refine lv_topi (fun z_405 ez_405 => ?_)
                        have hz_405 := jb_lcmp ez_405
                        have hqz_405_m2147483648 : ((-2147483648) : Int64).toInt = (-2147483648) := by decide
                        refine lv_if_lt (tgt := 284) hx hb dX14_readNumber_268 (by decide) (fun c_406 => ?_) (fun c_406 => ?_)
                        · skip
                          have c_406' : z_405.toInt < 0 := jb_lt (rfl) ((by decide)) c_406
                          refine lv_iconst (v := 0) hx hb dX14_readNumber_284 (by decide) ?_
                          exact C285 0 _ _ hh_395 (Or.inl rfl) (trivial) _ (lv_sub hl [1, 2, 3, 4, 5, 6, 0] rfl)
                        · skip
                          have c_406' : z_405.toInt ≥ 0 := jb_lt_n (rfl) ((by decide)) c_406
                          refine lv_lload hx hb dX14_readNumber_271 (lv_at hl 0 rfl) ?_
                          refine lv_ldc2 hx hb hown (hts (.constantLong RX14 331 2147483647) (by decide +kernel)) dX14_readNumber_273 ?_
                          refine W.lcmp hx hb dX14_readNumber_276 ?_
                          refine lv_topi (fun z_407 ez_407 => ?_)
                          have hz_407 := jb_lcmp ez_407
                          have hqz_407_2147483647 : (2147483647 : Int64).toInt = 2147483647 := by decide
                          refine lv_if_gt (tgt := 284) hx hb dX14_readNumber_277 (by decide) (fun c_408 => ?_) (fun c_408 => ?_)
                          · skip
                            have c_408' : z_407.toInt > 0 := jb_gt (rfl) ((by decide)) c_408
                            refine lv_iconst (v := 0) hx hb dX14_readNumber_284 (by decide) ?_
                            exact C285 0 _ _ hh_395 (Or.inl rfl) (trivial) _ (lv_sub hl [1, 2, 3, 4, 5, 6, 0] rfl)
                          · skip
                            have c_408' : z_407.toInt ≤ 0 := jb_gt_n (rfl) ((by decide)) c_408
                            refine lv_iconst (v := 1) hx hb dX14_readNumber_280 (by decide) ?_
                            refine lv_goto (tgt := 285) hx hb dX14_readNumber_281 (by decide) ?_
                            exact C285 1 _ _ hh_395 (Or.inr rfl) (trivial) _ (lv_sub hl [1, 2, 3, 4, 5, 6, 0] rfl)
                  refine lv_if_ne (tgt := 238) hx hb dX14_readNumber_172 (by decide) (fun c_409 => ?_) (fun c_409 => ?_)
                  · skip
                    have c_409' : wb_390.toInt ≠ 0 := jb_ne (rfl) ((by decide)) c_409
                    exact C238 v6_390 wt_390 wb_390 _ _ hh_390 (hb_v6_390) (by first | omega | (refine ⟨?_, ?_, ?_⟩ <;> (first | omega | rfl | assumption | decide | exact Or.inl rfl | exact Or.inr rfl | (simp only; omega)))) _ (lv_sub hl [0, 1, 2, 3, 4, 5] rfl)
                  · skip
                    have c_409' : wb_390.toInt = 0 := jb_ne_n (rfl) ((by decide)) c_409
                    refine lv_aload_n hx hb dX14_readNumber_175 rfl (lv_at hl 0 rfl) ?_
                    refine va_calli (A0 := jA base) (H0 := s.heap) (va_runV (As := []) (rest := []) ⟨hx, hb, hml, hown, hts⟩ (uX14_here l dC dI ca base B hB hAp hB16 hB110 G0 H_390 r0 wt_390 pe) (cwV 0 hts gX14_readNumber_X14_here rfl rfl rfl (by decide +kernel) ⟨by rw [← hR]; exact Nat.le_of_ble_eq_true rfl, by rw [← hR]; exact Nat.le_of_ble_eq_true rfl⟩) ⟨fun a U g mk q => by obtain ⟨q0, q1, q2, qK, q10, q11, q12⟩ := q; exact ⟨q0, q1, q2, jG.calling g mk a qK, q10, q11, q12⟩, hh_390.recv (C := RX14) (T := TX14) (N := 74) hB16 rfl (by decide) hg_r0 hK, fun U hU hW => ⟨rfl, hU, hh_390.2.1, hG.step hW hU hh_390.1, hg_r0, (hh_390.2.2.1.sub (L1 := [(r0, 16, 29, .int wt_390), (r0, 16, 30, .int pe)]) [0, 4] rfl), by first | omega | (refine ⟨?_, ?_, ?_, ?_⟩ <;> (first | omega | rfl | assumption | decide | exact Or.inl rfl | exact Or.inr rfl | (simp only; omega)))⟩⟩ rfl rfl hl.1 rfl (lv_room (Nat.le_of_ble_eq_true rfl)) dX14_readNumber_176 ⟨Nat.zero_le _, Nat.zero_le _⟩) hh_390.1 (fun q _ h => h) (fun q h => h) (fun r_411 u_410 t_410 H_410 locs_410 ht_410 hvm_410 hr_411 hb_410 hz_410 hk_410 hS_410 => ?_)
                    rw [ht_410] at hb_410
                    obtain ⟨hb_4101, hb_4102, hb_4103, hb_4104, hb_4105⟩ := hb_410
                    have hh_410 : jSt (dC, dI) B base G0 G0 EX14_readNumber s.heap 0 0 [(r0, 16, 29, .int wt_390), (r0, 16, 31, .int wb_390), (r0, 16, 9, .ref kept_384), (r0, 16, 26, .int qn_1), (r0, 16, 30, .int pe)] [] [] H_410 locs_410 := (hh_390.call hb_4101 hb_4102 hb_4103 hb_4104 hS_410 rfl (L1 := [(r0, 16, 29, .int wt_390), (r0, 16, 31, .int wb_390), (r0, 16, 9, .ref kept_384), (r0, 16, 26, .int qn_1), (r0, 16, 30, .int pe)]) [0, 1, 2, 3, 4] rfl rfl (M1 := []) [] rfl rfl (I1 := []) [] rfl rfl).more hb_4105
                    clear hh_390 ht_410 hvm_410 hz_410 hk_410 hS_410 hb_4101 hb_4102 hb_4103 hb_4104 hb_4105
                    obtain ⟨hr_411_0, hr_411_1, hr_411_2⟩ := hr_411
                    refine lv_bipush (v := 101) hx hb dX14_readNumber_179 (by decide) ?_
                    refine lv_icmp_eq (tgt := 193) hx hb dX14_readNumber_181 (by decide) (fun c_412 => ?_) (fun c_412 => ?_)
                    · skip
                      have c_412' : r_411.toInt = 101 := jb_eq (rfl) ((by decide)) c_412
                      first | replace hr_411_2 := hr_411_2.resolve_left (by omega) | replace hr_411_2 := hr_411_2.resolve_right (by omega) | skip
                      refine lv_iconst (v := 0) hx hb dX14_readNumber_193 (by decide) ?_
                      refine lv_istore (lv' := [(6, .int 0), (0, .ref r0), (1, .int r_2), (2, .int 1), (3, .int wt_310), (4, .long v4_311)]) hx hb dX14_readNumber_194 hl (by decide) rfl (fun ls hl => ?_)
                      refine lv_aload_n hx hb dX14_readNumber_196 rfl (lv_at hl 1 rfl) ?_
                      refine lv_dup hx hb dX14_readNumber_197 rfl ?_
                      refine j7_read hx hb hown hK (C := RX14) (T := TX14) (N := 74) rfl hly_16_29 (hts (.fieldLink RX14 273 "ProofServerModel" "at" "I") (by decide +kernel)) (hh_410.at 0 rfl) dX14_readNumber_198 ?_
                      refine lv_iconst (v := 1) hx hb dX14_readNumber_201 (by decide) ?_
                      refine lv_iadd hx hb dX14_readNumber_202 ?_
                      refine lv_topi (fun z_413 ez_413 => ?_)
                      have hz_413 : z_413.toInt = wt_390.toInt + 1 := by rw [ez_413]; exact jb_iadd2 (rfl) ((by decide)) (by omega)
                      refine j7_put hx hb hown hK hh_410 hB hAp hB16 (C := RX14) (T := TX14) (N := 74) rfl (by decide) hg_r0 (i := 29) (by decide) hly_16_29 rfl (hts (.fieldLink RX14 273 "ProofServerModel" "at" "I") (by decide +kernel)) rfl (ty := .int) (v := .int z_413) (by decide +kernel) rfl rfl (⟨_, rfl, by omega, by omega⟩) rfl (L1 := [(r0, 16, 31, .int wb_390), (r0, 16, 9, .ref kept_384), (r0, 16, 26, .int qn_1), (r0, 16, 30, .int pe)]) [1, 2, 3, 4] rfl rfl rfl dX14_readNumber_203 (fun H_414 locs_414 hh_414 => ?_)
                      clear hh_410
                      refine lv_aload_n hx hb dX14_readNumber_206 rfl (lv_at hl 1 rfl) ?_
                      refine va_calli (A0 := jA base) (H0 := s.heap) (va_runV (As := []) (rest := []) ⟨hx, hb, hml, hown, hts⟩ (uX14_here l dC dI ca base B hB hAp hB16 hB110 G0 H_414 r0 z_413 pe) (cwV 0 hts gX14_readNumber_X14_here rfl rfl rfl (by decide +kernel) ⟨by rw [← hR]; exact Nat.le_of_ble_eq_true rfl, by rw [← hR]; exact Nat.le_of_ble_eq_true rfl⟩) ⟨fun a U g mk q => by obtain ⟨q0, q1, q2, qK, q10, q11, q12⟩ := q; exact ⟨q0, q1, q2, jG.calling g mk a qK, q10, q11, q12⟩, hh_414.recv (C := RX14) (T := TX14) (N := 74) hB16 rfl (by decide) hg_r0 hK, fun U hU hW => ⟨rfl, hU, hh_414.2.1, hG.step hW hU hh_414.1, hg_r0, (hh_414.2.2.1.sub (L1 := [(r0, 16, 29, .int z_413), (r0, 16, 30, .int pe)]) [0, 4] rfl), by first | omega | (refine ⟨?_, ?_, ?_, ?_⟩ <;> (first | omega | rfl | assumption | decide | exact Or.inl rfl | exact Or.inr rfl | (simp only; omega)))⟩⟩ rfl rfl hl.1 rfl (lv_room (Nat.le_of_ble_eq_true rfl)) dX14_readNumber_207 ⟨Nat.zero_le _, Nat.zero_le _⟩) hh_414.1 (fun q _ h => h) (fun q h => h) (fun r_416 u_415 t_415 H_415 locs_415 ht_415 hvm_415 hr_416 hb_415 hz_415 hk_415 hS_415 => ?_)
                      rw [ht_415] at hb_415
                      obtain ⟨hb_4151, hb_4152, hb_4153, hb_4154, hb_4155⟩ := hb_415
                      have hh_415 : jSt (dC, dI) B base G0 G0 EX14_readNumber s.heap 0 0 [(r0, 16, 29, .int z_413), (r0, 16, 31, .int wb_390), (r0, 16, 9, .ref kept_384), (r0, 16, 26, .int qn_1), (r0, 16, 30, .int pe)] [] [] H_415 locs_415 := (hh_414.call hb_4151 hb_4152 hb_4153 hb_4154 hS_415 rfl (L1 := [(r0, 16, 29, .int z_413), (r0, 16, 31, .int wb_390), (r0, 16, 9, .ref kept_384), (r0, 16, 26, .int qn_1), (r0, 16, 30, .int pe)]) [0, 1, 2, 3, 4] rfl rfl (M1 := []) [] rfl rfl (I1 := []) [] rfl rfl).more hb_4155
                      clear hh_414 ht_415 hvm_415 hz_415 hk_415 hS_415 hb_4151 hb_4152 hb_4153 hb_4154 hb_4155
                      obtain ⟨hr_416_0, hr_416_1, hr_416_2⟩ := hr_416
                      refine lv_bipush (v := 43) hx hb dX14_readNumber_210 (by decide) ?_
                      have C234 : ∀ (wt_417 : Int32) (H_417 : Heap) (locs_417 : List Loc), jSt (dC, dI) B base G0 G0 EX14_readNumber s.heap 0 0 [(r0, 16, 29, .int wt_417), (r0, 16, 31, .int wb_390), (r0, 16, 9, .ref kept_384), (r0, 16, 26, .int qn_1), (r0, 16, 30, .int pe)] [] [] H_417 locs_417 → (pt.toInt ≤ wt_417.toInt ∧ wt_417.toInt ≤ pe.toInt ∧ pt.toInt + 1 ≤ wt_417.toInt) → ∀ ls : Array Slot, lv_has ls 9 [(0, .ref r0), (1, .int r_2), (2, .int 1), (3, .int wt_310), (4, .long v4_311), (6, .int 0)] → W p l e R s m ([.ref r0] : List Value).toArray below meth c H_417 locs_417 0 0 Q (F0 m 234 ls []) := by
                        intro wt_417 H_417 locs_417 hh_417  hi_417 ls hl
                        obtain ⟨hi_417_0, hi_417_1, hi_417_2⟩ := hi_417
                        clear hr_411_2 hr_416_2
                        refine lv_aload_n hx hb dX14_readNumber_234 rfl (lv_at hl 0 rfl) ?_
                        refine va_callv (A0 := jA base) (H0 := s.heap) (va_runV (As := []) (rest := []) ⟨hx, hb, hml, hown, hts⟩ (uX14_digits l dC dI ca base B hB hAp hB16 hB110 G0 H_417 r0 wt_417 pe) (cwV 0 hts gX14_readNumber_X14_digits rfl rfl rfl (by decide +kernel) ⟨by rw [← hR]; exact Nat.le_of_ble_eq_true rfl, by rw [← hR]; exact Nat.le_of_ble_eq_true rfl⟩) ⟨fun a U g mk q => by obtain ⟨q0, q1, q2, qK, q10, q11, q12⟩ := q; exact ⟨q0, q1, q2, jG.calling g mk a qK, q10, q11, q12⟩, hh_417.recv (C := RX14) (T := TX14) (N := 74) hB16 rfl (by decide) hg_r0 hK, fun U hU hW => ⟨rfl, hU, hh_417.2.1, hG.step hW hU hh_417.1, hg_r0, (hh_417.2.2.1.sub (L1 := [(r0, 16, 29, .int wt_417), (r0, 16, 30, .int pe)]) [0, 4] rfl), by first | omega | (refine ⟨?_, ?_, ?_, ?_, ?_⟩ <;> (first | omega | rfl | assumption | decide | exact Or.inl rfl | exact Or.inr rfl | (simp only; omega)))⟩⟩ rfl rfl hl.1 rfl (lv_room (Nat.le_of_ble_eq_true rfl)) dX14_readNumber_235 ⟨Nat.zero_le _, Nat.zero_le _⟩) hh_417.1 (fun q _ h => h) (fun q h => h) (fun u_418 t_418 H_418 locs_418 ht_418 hvm_418 hr_419 hb_418 hz_418 hk_418 hS_418 => ?_)
                        obtain ⟨qt_418, rfl⟩ : ∃ z, z = u_418 := ⟨_, rfl⟩
                        rw [ht_418] at hb_418
                        obtain ⟨hb_4181, hb_4182, hb_4183, hb_4184, hb_4185⟩ := hb_418
                        have hh_418 : jSt (dC, dI) B base G0 G0 EX14_readNumber s.heap 0 0 [(r0, 16, 29, .int qt_418), (r0, 16, 9, .ref kept_384), (r0, 16, 26, .int qn_1), (r0, 16, 30, .int pe)] [] [] H_418 locs_418 := (hh_417.call hb_4181 hb_4182 hb_4183 hb_4184 hS_418 rfl (L1 := [(r0, 16, 9, .ref kept_384), (r0, 16, 26, .int qn_1), (r0, 16, 30, .int pe)]) [2, 3, 4] rfl rfl (M1 := []) [] rfl rfl (I1 := []) [] rfl rfl).more hb_4185
                        clear hh_417 ht_418 hvm_418 hz_418 hk_418 hS_418 hb_4181 hb_4182 hb_4183 hb_4184 hb_4185
                        obtain ⟨hr_419_0, hr_419_1⟩ := hr_419
                        obtain ⟨v_420, hv_420, hh_421⟩ := hh_418.pin (C := RX14) (T := TX14) (N := 74) hB16 rfl (by decide) hg_r0 (i := 31) (by decide) rfl
                        obtain ⟨bad_422, rfl, hzbad_422⟩ := hv_420
                        have hzbad_422' := jb_01 hzbad_422
                        exact C238 0 qt_418 bad_422 _ _ (hh_421.sub (L1 := [(r0, 16, 29, .int qt_418), (r0, 16, 31, .int bad_422), (r0, 16, 9, .ref kept_384), (r0, 16, 26, .int qn_1), (r0, 16, 30, .int pe)]) [1, 0, 2, 3, 4] rfl (M1 := []) [] rfl (I1 := []) [] rfl) (Or.inl rfl) (by first | omega | (refine ⟨?_, ?_, ?_⟩ <;> (first | omega | rfl | assumption | decide | exact Or.inl rfl | exact Or.inr rfl | (simp only; omega)))) _ (lv_sub hl [0, 1, 2, 3, 4, 5] rfl)
                      refine lv_icmp_eq (tgt := 224) hx hb dX14_readNumber_212 (by decide) (fun c_423 => ?_) (fun c_423 => ?_)
                      · skip
                        have c_423' : r_416.toInt = 43 := jb_eq (rfl) ((by decide)) c_423
                        first | replace hr_416_2 := hr_416_2.resolve_left (by omega) | replace hr_416_2 := hr_416_2.resolve_right (by omega) | skip
                        refine lv_aload_n hx hb dX14_readNumber_224 rfl (lv_at hl 1 rfl) ?_
                        refine lv_dup hx hb dX14_readNumber_225 rfl ?_
                        refine j7_read hx hb hown hK (C := RX14) (T := TX14) (N := 74) rfl hly_16_29 (hts (.fieldLink RX14 273 "ProofServerModel" "at" "I") (by decide +kernel)) (hh_415.at 0 rfl) dX14_readNumber_226 ?_
                        refine lv_iconst (v := 1) hx hb dX14_readNumber_229 (by decide) ?_
                        refine lv_iadd hx hb dX14_readNumber_230 ?_
                        refine lv_topi (fun z_424 ez_424 => ?_)
                        have hz_424 : z_424.toInt = z_413.toInt + 1 := by rw [ez_424]; exact jb_iadd2 (rfl) ((by decide)) (by omega)
                        refine j7_put hx hb hown hK hh_415 hB hAp hB16 (C := RX14) (T := TX14) (N := 74) rfl (by decide) hg_r0 (i := 29) (by decide) hly_16_29 rfl (hts (.fieldLink RX14 273 "ProofServerModel" "at" "I") (by decide +kernel)) rfl (ty := .int) (v := .int z_424) (by decide +kernel) rfl rfl (⟨_, rfl, by omega, by omega⟩) rfl (L1 := [(r0, 16, 31, .int wb_390), (r0, 16, 9, .ref kept_384), (r0, 16, 26, .int qn_1), (r0, 16, 30, .int pe)]) [1, 2, 3, 4] rfl rfl rfl dX14_readNumber_231 (fun H_425 locs_425 hh_425 => ?_)
                        clear hh_415
                        exact C234 z_424 _ _ hh_425 (by first | omega | (refine ⟨?_, ?_, ?_⟩ <;> (first | omega | rfl | assumption | decide | exact Or.inl rfl | exact Or.inr rfl | (simp only; omega)))) _ (lv_sub hl [1, 2, 3, 4, 5, 0] rfl)
                      · skip
                        have c_423' : r_416.toInt ≠ 43 := jb_eq_n (rfl) ((by decide)) c_423
                        first | replace hr_416_2 := hr_416_2.resolve_left (by omega) | replace hr_416_2 := hr_416_2.resolve_right (by omega) | skip
                        refine lv_aload_n hx hb dX14_readNumber_215 rfl (lv_at hl 1 rfl) ?_
                        refine va_calli (A0 := jA base) (H0 := s.heap) (va_runV (As := []) (rest := []) ⟨hx, hb, hml, hown, hts⟩ (uX14_here l dC dI ca base B hB hAp hB16 hB110 G0 H_415 r0 z_413 pe) (cwV 0 hts gX14_readNumber_X14_here rfl rfl rfl (by decide +kernel) ⟨by rw [← hR]; exact Nat.le_of_ble_eq_true rfl, by rw [← hR]; exact Nat.le_of_ble_eq_true rfl⟩) ⟨fun a U g mk q => by obtain ⟨q0, q1, q2, qK, q10, q11, q12⟩ := q; exact ⟨q0, q1, q2, jG.calling g mk a qK, q10, q11, q12⟩, hh_415.recv (C := RX14) (T := TX14) (N := 74) hB16 rfl (by decide) hg_r0 hK, fun U hU hW => ⟨rfl, hU, hh_415.2.1, hG.step hW hU hh_415.1, hg_r0, (hh_415.2.2.1.sub (L1 := [(r0, 16, 29, .int z_413), (r0, 16, 30, .int pe)]) [0, 4] rfl), by first | omega | (refine ⟨?_, ?_, ?_, ?_⟩ <;> (first | omega | rfl | assumption | decide | exact Or.inl rfl | exact Or.inr rfl | (simp only; omega)))⟩⟩ rfl rfl hl.1 rfl (lv_room (Nat.le_of_ble_eq_true rfl)) dX14_readNumber_216 ⟨Nat.zero_le _, Nat.zero_le _⟩) hh_415.1 (fun q _ h => h) (fun q h => h) (fun r_427 u_426 t_426 H_426 locs_426 ht_426 hvm_426 hr_427 hb_426 hz_426 hk_426 hS_426 => ?_)
                        rw [ht_426] at hb_426
                        obtain ⟨hb_4261, hb_4262, hb_4263, hb_4264, hb_4265⟩ := hb_426
                        have hh_426 : jSt (dC, dI) B base G0 G0 EX14_readNumber s.heap 0 0 [(r0, 16, 29, .int z_413), (r0, 16, 31, .int wb_390), (r0, 16, 9, .ref kept_384), (r0, 16, 26, .int qn_1), (r0, 16, 30, .int pe)] [] [] H_426 locs_426 := (hh_415.call hb_4261 hb_4262 hb_4263 hb_4264 hS_426 rfl (L1 := [(r0, 16, 29, .int z_413), (r0, 16, 31, .int wb_390), (r0, 16, 9, .ref kept_384), (r0, 16, 26, .int qn_1), (r0, 16, 30, .int pe)]) [0, 1, 2, 3, 4] rfl rfl (M1 := []) [] rfl rfl (I1 := []) [] rfl rfl).more hb_4265
                        clear hh_415 ht_426 hvm_426 hz_426 hk_426 hS_426 hb_4261 hb_4262 hb_4263 hb_4264 hb_4265
                        obtain ⟨hr_427_0, hr_427_1, hr_427_2⟩ := hr_427
                        refine lv_bipush (v := 45) hx hb dX14_readNumber_219 (by decide) ?_
                        refine lv_icmp_ne (tgt := 234) hx hb dX14_readNumber_221 (by decide) (fun c_428 => ?_) (fun c_428 => ?_)
                        · skip
                          have c_428' : r_427.toInt ≠ 45 := jb_ne (rfl) ((by decide)) c_428
                          first | replace hr_427_2 := hr_427_2.resolve_left (by omega) | replace hr_427_2 := hr_427_2.resolve_right (by omega) | skip
                          exact C234 z_413 _ _ hh_426 (by first | omega | (refine ⟨?_, ?_, ?_⟩ <;> (first | omega | rfl | assumption | decide | exact Or.inl rfl | exact Or.inr rfl | (simp only; omega)))) _ (lv_sub hl [1, 2, 3, 4, 5, 0] rfl)
                        · skip
                          have c_428' : r_427.toInt = 45 := jb_ne_n (rfl) ((by decide)) c_428
                          first | replace hr_427_2 := hr_427_2.resolve_left (by omega) | replace hr_427_2 := hr_427_2.resolve_right (by omega) | skip
                          refine lv_aload_n hx hb dX14_readNumber_224 rfl (lv_at hl 1 rfl) ?_
                          refine lv_dup hx hb dX14_readNumber_225 rfl ?_
                          refine j7_read hx hb hown hK (C := RX14) (T := TX14) (N := 74) rfl hly_16_29 (hts (.fieldLink RX14 273 "ProofServerModel" "at" "I") (by decide +kernel)) (hh_426.at 0 rfl) dX14_readNumber_226 ?_
                          refine lv_iconst (v := 1) hx hb dX14_readNumber_229 (by decide) ?_
                          refine lv_iadd hx hb dX14_readNumber_230 ?_
                          refine lv_topi (fun z_429 ez_429 => ?_)
                          have hz_429 : z_429.toInt = z_413.toInt + 1 := by rw [ez_429]; exact jb_iadd2 (rfl) ((by decide)) (by omega)
                          refine j7_put hx hb hown hK hh_426 hB hAp hB16 (C := RX14) (T := TX14) (N := 74) rfl (by decide) hg_r0 (i := 29) (by decide) hly_16_29 rfl (hts (.fieldLink RX14 273 "ProofServerModel" "at" "I") (by decide +kernel)) rfl (ty := .int) (v := .int z_429) (by decide +kernel) rfl rfl (⟨_, rfl, by omega, by omega⟩) rfl (L1 := [(r0, 16, 31, .int wb_390), (r0, 16, 9, .ref kept_384), (r0, 16, 26, .int qn_1), (r0, 16, 30, .int pe)]) [1, 2, 3, 4] rfl rfl rfl dX14_readNumber_231 (fun H_430 locs_430 hh_430 => ?_)
                          clear hh_426
                          exact C234 z_429 _ _ hh_430 (by first | omega | (refine ⟨?_, ?_, ?_⟩ <;> (first | omega | rfl | assumption | decide | exact Or.inl rfl | exact Or.inr rfl | (simp only; omega)))) _ (lv_sub hl [1, 2, 3, 4, 5, 0] rfl)
                    · skip
                      have c_412' : r_411.toInt ≠ 101 := jb_eq_n (rfl) ((by decide)) c_412
                      first | replace hr_411_2 := hr_411_2.resolve_left (by omega) | replace hr_411_2 := hr_411_2.resolve_right (by omega) | skip
                      refine lv_aload_n hx hb dX14_readNumber_184 rfl (lv_at hl 0 rfl) ?_
                      refine va_calli (A0 := jA base) (H0 := s.heap) (va_runV (As := []) (rest := []) ⟨hx, hb, hml, hown, hts⟩ (uX14_here l dC dI ca base B hB hAp hB16 hB110 G0 H_410 r0 wt_390 pe) (cwV 0 hts gX14_readNumber_X14_here rfl rfl rfl (by decide +kernel) ⟨by rw [← hR]; exact Nat.le_of_ble_eq_true rfl, by rw [← hR]; exact Nat.le_of_ble_eq_true rfl⟩) ⟨fun a U g mk q => by obtain ⟨q0, q1, q2, qK, q10, q11, q12⟩ := q; exact ⟨q0, q1, q2, jG.calling g mk a qK, q10, q11, q12⟩, hh_410.recv (C := RX14) (T := TX14) (N := 74) hB16 rfl (by decide) hg_r0 hK, fun U hU hW => ⟨rfl, hU, hh_410.2.1, hG.step hW hU hh_410.1, hg_r0, (hh_410.2.2.1.sub (L1 := [(r0, 16, 29, .int wt_390), (r0, 16, 30, .int pe)]) [0, 4] rfl), by first | omega | (refine ⟨?_, ?_, ?_, ?_⟩ <;> (first | omega | rfl | assumption | decide | exact Or.inl rfl | exact Or.inr rfl | (simp only; omega)))⟩⟩ rfl rfl hl.1 rfl (lv_room (Nat.le_of_ble_eq_true rfl)) dX14_readNumber_185 ⟨Nat.zero_le _, Nat.zero_le _⟩) hh_410.1 (fun q _ h => h) (fun q h => h) (fun r_432 u_431 t_431 H_431 locs_431 ht_431 hvm_431 hr_432 hb_431 hz_431 hk_431 hS_431 => ?_)
                      rw [ht_431] at hb_431
                      obtain ⟨hb_4311, hb_4312, hb_4313, hb_4314, hb_4315⟩ := hb_431
                      have hh_431 : jSt (dC, dI) B base G0 G0 EX14_readNumber s.heap 0 0 [(r0, 16, 29, .int wt_390), (r0, 16, 31, .int wb_390), (r0, 16, 9, .ref kept_384), (r0, 16, 26, .int qn_1), (r0, 16, 30, .int pe)] [] [] H_431 locs_431 := (hh_410.call hb_4311 hb_4312 hb_4313 hb_4314 hS_431 rfl (L1 := [(r0, 16, 29, .int wt_390), (r0, 16, 31, .int wb_390), (r0, 16, 9, .ref kept_384), (r0, 16, 26, .int qn_1), (r0, 16, 30, .int pe)]) [0, 1, 2, 3, 4] rfl rfl (M1 := []) [] rfl rfl (I1 := []) [] rfl rfl).more hb_4315
                      clear hh_410 ht_431 hvm_431 hz_431 hk_431 hS_431 hb_4311 hb_4312 hb_4313 hb_4314 hb_4315
                      obtain ⟨hr_432_0, hr_432_1, hr_432_2⟩ := hr_432
                      refine lv_bipush (v := 69) hx hb dX14_readNumber_188 (by decide) ?_
                      refine lv_icmp_ne (tgt := 238) hx hb dX14_readNumber_190 (by decide) (fun c_433 => ?_) (fun c_433 => ?_)
                      · skip
                        have c_433' : r_432.toInt ≠ 69 := jb_ne (rfl) ((by decide)) c_433
                        first | replace hr_432_2 := hr_432_2.resolve_left (by omega) | replace hr_432_2 := hr_432_2.resolve_right (by omega) | skip
                        exact C238 v6_390 wt_390 wb_390 _ _ hh_431 (hb_v6_390) (by first | omega | (refine ⟨?_, ?_, ?_⟩ <;> (first | omega | rfl | assumption | decide | exact Or.inl rfl | exact Or.inr rfl | (simp only; omega)))) _ (lv_sub hl [0, 1, 2, 3, 4, 5] rfl)
                      · skip
                        have c_433' : r_432.toInt = 69 := jb_ne_n (rfl) ((by decide)) c_433
                        first | replace hr_432_2 := hr_432_2.resolve_left (by omega) | replace hr_432_2 := hr_432_2.resolve_right (by omega) | skip
                        refine lv_iconst (v := 0) hx hb dX14_readNumber_193 (by decide) ?_
                        refine lv_istore (lv' := [(6, .int 0), (0, .ref r0), (1, .int r_2), (2, .int 1), (3, .int wt_310), (4, .long v4_311)]) hx hb dX14_readNumber_194 hl (by decide) rfl (fun ls hl => ?_)
                        refine lv_aload_n hx hb dX14_readNumber_196 rfl (lv_at hl 1 rfl) ?_
                        refine lv_dup hx hb dX14_readNumber_197 rfl ?_
                        refine j7_read hx hb hown hK (C := RX14) (T := TX14) (N := 74) rfl hly_16_29 (hts (.fieldLink RX14 273 "ProofServerModel" "at" "I") (by decide +kernel)) (hh_431.at 0 rfl) dX14_readNumber_198 ?_
                        refine lv_iconst (v := 1) hx hb dX14_readNumber_201 (by decide) ?_
                        refine lv_iadd hx hb dX14_readNumber_202 ?_
                        refine lv_topi (fun z_434 ez_434 => ?_)
                        have hz_434 : z_434.toInt = wt_390.toInt + 1 := by rw [ez_434]; exact jb_iadd2 (rfl) ((by decide)) (by omega)
                        refine j7_put hx hb hown hK hh_431 hB hAp hB16 (C := RX14) (T := TX14) (N := 74) rfl (by decide) hg_r0 (i := 29) (by decide) hly_16_29 rfl (hts (.fieldLink RX14 273 "ProofServerModel" "at" "I") (by decide +kernel)) rfl (ty := .int) (v := .int z_434) (by decide +kernel) rfl rfl (⟨_, rfl, by omega, by omega⟩) rfl (L1 := [(r0, 16, 31, .int wb_390), (r0, 16, 9, .ref kept_384), (r0, 16, 26, .int qn_1), (r0, 16, 30, .int pe)]) [1, 2, 3, 4] rfl rfl rfl dX14_readNumber_203 (fun H_435 locs_435 hh_435 => ?_)
                        clear hh_431
                        refine lv_aload_n hx hb dX14_readNumber_206 rfl (lv_at hl 1 rfl) ?_
                        refine va_calli (A0 := jA base) (H0 := s.heap) (va_runV (As := []) (rest := []) ⟨hx, hb, hml, hown, hts⟩ (uX14_here l dC dI ca base B hB hAp hB16 hB110 G0 H_435 r0 z_434 pe) (cwV 0 hts gX14_readNumber_X14_here rfl rfl rfl (by decide +kernel) ⟨by rw [← hR]; exact Nat.le_of_ble_eq_true rfl, by rw [← hR]; exact Nat.le_of_ble_eq_true rfl⟩) ⟨fun a U g mk q => by obtain ⟨q0, q1, q2, qK, q10, q11, q12⟩ := q; exact ⟨q0, q1, q2, jG.calling g mk a qK, q10, q11, q12⟩, hh_435.recv (C := RX14) (T := TX14) (N := 74) hB16 rfl (by decide) hg_r0 hK, fun U hU hW => ⟨rfl, hU, hh_435.2.1, hG.step hW hU hh_435.1, hg_r0, (hh_435.2.2.1.sub (L1 := [(r0, 16, 29, .int z_434), (r0, 16, 30, .int pe)]) [0, 4] rfl), by first | omega | (refine ⟨?_, ?_, ?_, ?_⟩ <;> (first | omega | rfl | assumption | decide | exact Or.inl rfl | exact Or.inr rfl | (simp only; omega)))⟩⟩ rfl rfl hl.1 rfl (lv_room (Nat.le_of_ble_eq_true rfl)) dX14_readNumber_207 ⟨Nat.zero_le _, Nat.zero_le _⟩) hh_435.1 (fun q _ h => h) (fun q h => h) (fun r_437 u_436 t_436 H_436 locs_436 ht_436 hvm_436 hr_437 hb_436 hz_436 hk_436 hS_436 => ?_)
                        rw [ht_436] at hb_436
                        obtain ⟨hb_4361, hb_4362, hb_4363, hb_4364, hb_4365⟩ := hb_436
                        have hh_436 : jSt (dC, dI) B base G0 G0 EX14_readNumber s.heap 0 0 [(r0, 16, 29, .int z_434), (r0, 16, 31, .int wb_390), (r0, 16, 9, .ref kept_384), (r0, 16, 26, .int qn_1), (r0, 16, 30, .int pe)] [] [] H_436 locs_436 := (hh_435.call hb_4361 hb_4362 hb_4363 hb_4364 hS_436 rfl (L1 := [(r0, 16, 29, .int z_434), (r0, 16, 31, .int wb_390), (r0, 16, 9, .ref kept_384), (r0, 16, 26, .int qn_1), (r0, 16, 30, .int pe)]) [0, 1, 2, 3, 4] rfl rfl (M1 := []) [] rfl rfl (I1 := []) [] rfl rfl).more hb_4365
                        clear hh_435 ht_436 hvm_436 hz_436 hk_436 hS_436 hb_4361 hb_4362 hb_4363 hb_4364 hb_4365
                        obtain ⟨hr_437_0, hr_437_1, hr_437_2⟩ := hr_437
                        refine lv_bipush (v := 43) hx hb dX14_readNumber_210 (by decide) ?_
                        have C234 : ∀ (wt_438 : Int32) (H_438 : Heap) (locs_438 : List Loc), jSt (dC, dI) B base G0 G0 EX14_readNumber s.heap 0 0 [(r0, 16, 29, .int wt_438), (r0, 16, 31, .int wb_390), (r0, 16, 9, .ref kept_384), (r0, 16, 26, .int qn_1), (r0, 16, 30, .int pe)] [] [] H_438 locs_438 → (pt.toInt ≤ wt_438.toInt ∧ wt_438.toInt ≤ pe.toInt ∧ pt.toInt + 1 ≤ wt_438.toInt) → ∀ ls : Array Slot, lv_has ls 9 [(0, .ref r0), (1, .int r_2), (2, .int 1), (3, .int wt_310), (4, .long v4_311), (6, .int 0)] → W p l e R s m ([.ref r0] : List Value).toArray below meth c H_438 locs_438 0 0 Q (F0 m 234 ls []) := by
                          intro wt_438 H_438 locs_438 hh_438  hi_438 ls hl
                          obtain ⟨hi_438_0, hi_438_1, hi_438_2⟩ := hi_438
                          clear hr_411_2 hr_432_2 hr_437_2
                          refine lv_aload_n hx hb dX14_readNumber_234 rfl (lv_at hl 0 rfl) ?_
                          refine va_callv (A0 := jA base) (H0 := s.heap) (va_runV (As := []) (rest := []) ⟨hx, hb, hml, hown, hts⟩ (uX14_digits l dC dI ca base B hB hAp hB16 hB110 G0 H_438 r0 wt_438 pe) (cwV 0 hts gX14_readNumber_X14_digits rfl rfl rfl (by decide +kernel) ⟨by rw [← hR]; exact Nat.le_of_ble_eq_true rfl, by rw [← hR]; exact Nat.le_of_ble_eq_true rfl⟩) ⟨fun a U g mk q => by obtain ⟨q0, q1, q2, qK, q10, q11, q12⟩ := q; exact ⟨q0, q1, q2, jG.calling g mk a qK, q10, q11, q12⟩, hh_438.recv (C := RX14) (T := TX14) (N := 74) hB16 rfl (by decide) hg_r0 hK, fun U hU hW => ⟨rfl, hU, hh_438.2.1, hG.step hW hU hh_438.1, hg_r0, (hh_438.2.2.1.sub (L1 := [(r0, 16, 29, .int wt_438), (r0, 16, 30, .int pe)]) [0, 4] rfl), by first | omega | (refine ⟨?_, ?_, ?_, ?_, ?_⟩ <;> (first | omega | rfl | assumption | decide | exact Or.inl rfl | exact Or.inr rfl | (simp only; omega)))⟩⟩ rfl rfl hl.1 rfl (lv_room (Nat.le_of_ble_eq_true rfl)) dX14_readNumber_235 ⟨Nat.zero_le _, Nat.zero_le _⟩) hh_438.1 (fun q _ h => h) (fun q h => h) (fun u_439 t_439 H_439 locs_439 ht_439 hvm_439 hr_440 hb_439 hz_439 hk_439 hS_439 => ?_)
                          obtain ⟨qt_439, rfl⟩ : ∃ z, z = u_439 := ⟨_, rfl⟩
                          rw [ht_439] at hb_439
                          obtain ⟨hb_4391, hb_4392, hb_4393, hb_4394, hb_4395⟩ := hb_439
                          have hh_439 : jSt (dC, dI) B base G0 G0 EX14_readNumber s.heap 0 0 [(r0, 16, 29, .int qt_439), (r0, 16, 9, .ref kept_384), (r0, 16, 26, .int qn_1), (r0, 16, 30, .int pe)] [] [] H_439 locs_439 := (hh_438.call hb_4391 hb_4392 hb_4393 hb_4394 hS_439 rfl (L1 := [(r0, 16, 9, .ref kept_384), (r0, 16, 26, .int qn_1), (r0, 16, 30, .int pe)]) [2, 3, 4] rfl rfl (M1 := []) [] rfl rfl (I1 := []) [] rfl rfl).more hb_4395
                          clear hh_438 ht_439 hvm_439 hz_439 hk_439 hS_439 hb_4391 hb_4392 hb_4393 hb_4394 hb_4395
                          obtain ⟨hr_440_0, hr_440_1⟩ := hr_440
                          obtain ⟨v_441, hv_441, hh_442⟩ := hh_439.pin (C := RX14) (T := TX14) (N := 74) hB16 rfl (by decide) hg_r0 (i := 31) (by decide) rfl
                          obtain ⟨bad_443, rfl, hzbad_443⟩ := hv_441
                          have hzbad_443' := jb_01 hzbad_443
                          exact C238 0 qt_439 bad_443 _ _ (hh_442.sub (L1 := [(r0, 16, 29, .int qt_439), (r0, 16, 31, .int bad_443), (r0, 16, 9, .ref kept_384), (r0, 16, 26, .int qn_1), (r0, 16, 30, .int pe)]) [1, 0, 2, 3, 4] rfl (M1 := []) [] rfl (I1 := []) [] rfl) (Or.inl rfl) (by first | omega | (refine ⟨?_, ?_, ?_⟩ <;> (first | omega | rfl | assumption | decide | exact Or.inl rfl | exact Or.inr rfl | (simp only; omega)))) _ (lv_sub hl [0, 1, 2, 3, 4, 5] rfl)
                        refine lv_icmp_eq (tgt := 224) hx hb dX14_readNumber_212 (by decide) (fun c_444 => ?_) (fun c_444 => ?_)
                        · skip
                          have c_444' : r_437.toInt = 43 := jb_eq (rfl) ((by decide)) c_444
                          first | replace hr_437_2 := hr_437_2.resolve_left (by omega) | replace hr_437_2 := hr_437_2.resolve_right (by omega) | skip
                          refine lv_aload_n hx hb dX14_readNumber_224 rfl (lv_at hl 1 rfl) ?_
                          refine lv_dup hx hb dX14_readNumber_225 rfl ?_
                          refine j7_read hx hb hown hK (C := RX14) (T := TX14) (N := 74) rfl hly_16_29 (hts (.fieldLink RX14 273 "ProofServerModel" "at" "I") (by decide +kernel)) (hh_436.at 0 rfl) dX14_readNumber_226 ?_
                          refine lv_iconst (v := 1) hx hb dX14_readNumber_229 (by decide) ?_
                          refine lv_iadd hx hb dX14_readNumber_230 ?_
                          refine lv_topi (fun z_445 ez_445 => ?_)
                          have hz_445 : z_445.toInt = z_434.toInt + 1 := by rw [ez_445]; exact jb_iadd2 (rfl) ((by decide)) (by omega)
                          refine j7_put hx hb hown hK hh_436 hB hAp hB16 (C := RX14) (T := TX14) (N := 74) rfl (by decide) hg_r0 (i := 29) (by decide) hly_16_29 rfl (hts (.fieldLink RX14 273 "ProofServerModel" "at" "I") (by decide +kernel)) rfl (ty := .int) (v := .int z_445) (by decide +kernel) rfl rfl (⟨_, rfl, by omega, by omega⟩) rfl (L1 := [(r0, 16, 31, .int wb_390), (r0, 16, 9, .ref kept_384), (r0, 16, 26, .int qn_1), (r0, 16, 30, .int pe)]) [1, 2, 3, 4] rfl rfl rfl dX14_readNumber_231 (fun H_446 locs_446 hh_446 => ?_)
                          clear hh_436
                          exact C234 z_445 _ _ hh_446 (by first | omega | (refine ⟨?_, ?_, ?_⟩ <;> (first | omega | rfl | assumption | decide | exact Or.inl rfl | exact Or.inr rfl | (simp only; omega)))) _ (lv_sub hl [1, 2, 3, 4, 5, 0] rfl)
                        · skip
                          have c_444' : r_437.toInt ≠ 43 := jb_eq_n (rfl) ((by decide)) c_444
                          first | replace hr_437_2 := hr_437_2.resolve_left (by omega) | replace hr_437_2 := hr_437_2.resolve_right (by omega) | skip
                          refine lv_aload_n hx hb dX14_readNumber_215 rfl (lv_at hl 1 rfl) ?_
                          refine va_calli (A0 := jA base) (H0 := s.heap) (va_runV (As := []) (rest := []) ⟨hx, hb, hml, hown, hts⟩ (uX14_here l dC dI ca base B hB hAp hB16 hB110 G0 H_436 r0 z_434 pe) (cwV 0 hts gX14_readNumber_X14_here rfl rfl rfl (by decide +kernel) ⟨by rw [← hR]; exact Nat.le_of_ble_eq_true rfl, by rw [← hR]; exact Nat.le_of_ble_eq_true rfl⟩) ⟨fun a U g mk q => by obtain ⟨q0, q1, q2, qK, q10, q11, q12⟩ := q; exact ⟨q0, q1, q2, jG.calling g mk a qK, q10, q11, q12⟩, hh_436.recv (C := RX14) (T := TX14) (N := 74) hB16 rfl (by decide) hg_r0 hK, fun U hU hW => ⟨rfl, hU, hh_436.2.1, hG.step hW hU hh_436.1, hg_r0, (hh_436.2.2.1.sub (L1 := [(r0, 16, 29, .int z_434), (r0, 16, 30, .int pe)]) [0, 4] rfl), by first | omega | (refine ⟨?_, ?_, ?_, ?_⟩ <;> (first | omega | rfl | assumption | decide | exact Or.inl rfl | exact Or.inr rfl | (simp only; omega)))⟩⟩ rfl rfl hl.1 rfl (lv_room (Nat.le_of_ble_eq_true rfl)) dX14_readNumber_216 ⟨Nat.zero_le _, Nat.zero_le _⟩) hh_436.1 (fun q _ h => h) (fun q h => h) (fun r_448 u_447 t_447 H_447 locs_447 ht_447 hvm_447 hr_448 hb_447 hz_447 hk_447 hS_447 => ?_)
                          rw [ht_447] at hb_447
                          obtain ⟨hb_4471, hb_4472, hb_4473, hb_4474, hb_4475⟩ := hb_447
                          have hh_447 : jSt (dC, dI) B base G0 G0 EX14_readNumber s.heap 0 0 [(r0, 16, 29, .int z_434), (r0, 16, 31, .int wb_390), (r0, 16, 9, .ref kept_384), (r0, 16, 26, .int qn_1), (r0, 16, 30, .int pe)] [] [] H_447 locs_447 := (hh_436.call hb_4471 hb_4472 hb_4473 hb_4474 hS_447 rfl (L1 := [(r0, 16, 29, .int z_434), (r0, 16, 31, .int wb_390), (r0, 16, 9, .ref kept_384), (r0, 16, 26, .int qn_1), (r0, 16, 30, .int pe)]) [0, 1, 2, 3, 4] rfl rfl (M1 := []) [] rfl rfl (I1 := []) [] rfl rfl).more hb_4475
                          clear hh_436 ht_447 hvm_447 hz_447 hk_447 hS_447 hb_4471 hb_4472 hb_4473 hb_4474 hb_4475
                          obtain ⟨hr_448_0, hr_448_1, hr_448_2⟩ := hr_448
                          refine lv_bipush (v := 45) hx hb dX14_readNumber_219 (by decide) ?_
                          refine lv_icmp_ne (tgt := 234) hx hb dX14_readNumber_221 (by decide) (fun c_449 => ?_) (fun c_449 => ?_)
                          · skip
                            have c_449' : r_448.toInt ≠ 45 := jb_ne (rfl) ((by decide)) c_449
                            first | replace hr_448_2 := hr_448_2.resolve_left (by omega) | replace hr_448_2 := hr_448_2.resolve_right (by omega) | skip
                            exact C234 z_434 _ _ hh_447 (by first | omega | (refine ⟨?_, ?_, ?_⟩ <;> (first | omega | rfl | assumption | decide | exact Or.inl rfl | exact Or.inr rfl | (simp only; omega)))) _ (lv_sub hl [1, 2, 3, 4, 5, 0] rfl)
                          · skip
                            have c_449' : r_448.toInt = 45 := jb_ne_n (rfl) ((by decide)) c_449
                            first | replace hr_448_2 := hr_448_2.resolve_left (by omega) | replace hr_448_2 := hr_448_2.resolve_right (by omega) | skip
                            refine lv_aload_n hx hb dX14_readNumber_224 rfl (lv_at hl 1 rfl) ?_
                            refine lv_dup hx hb dX14_readNumber_225 rfl ?_
                            refine j7_read hx hb hown hK (C := RX14) (T := TX14) (N := 74) rfl hly_16_29 (hts (.fieldLink RX14 273 "ProofServerModel" "at" "I") (by decide +kernel)) (hh_447.at 0 rfl) dX14_readNumber_226 ?_
                            refine lv_iconst (v := 1) hx hb dX14_readNumber_229 (by decide) ?_
                            refine lv_iadd hx hb dX14_readNumber_230 ?_
                            refine lv_topi (fun z_450 ez_450 => ?_)
                            have hz_450 : z_450.toInt = z_434.toInt + 1 := by rw [ez_450]; exact jb_iadd2 (rfl) ((by decide)) (by omega)
                            refine j7_put hx hb hown hK hh_447 hB hAp hB16 (C := RX14) (T := TX14) (N := 74) rfl (by decide) hg_r0 (i := 29) (by decide) hly_16_29 rfl (hts (.fieldLink RX14 273 "ProofServerModel" "at" "I") (by decide +kernel)) rfl (ty := .int) (v := .int z_450) (by decide +kernel) rfl rfl (⟨_, rfl, by omega, by omega⟩) rfl (L1 := [(r0, 16, 31, .int wb_390), (r0, 16, 9, .ref kept_384), (r0, 16, 26, .int qn_1), (r0, 16, 30, .int pe)]) [1, 2, 3, 4] rfl rfl rfl dX14_readNumber_231 (fun H_451 locs_451 hh_451 => ?_)
                            clear hh_447
                            exact C234 z_450 _ _ hh_451 (by first | omega | (refine ⟨?_, ?_, ?_⟩ <;> (first | omega | rfl | assumption | decide | exact Or.inl rfl | exact Or.inr rfl | (simp only; omega)))) _ (lv_sub hl [1, 2, 3, 4, 5, 0] rfl)
                refine lv_if_ne (tgt := 168) hx hb dX14_readNumber_139 (by decide) (fun c_452 => ?_) (fun c_452 => ?_)
                · skip
                  have c_452' : bad_389.toInt ≠ 0 := jb_ne (rfl) ((by decide)) c_452
                  exact C168 1 wt_311 bad_389 _ _ (hh_388.sub (L1 := [(r0, 16, 29, .int wt_311), (r0, 16, 31, .int bad_389), (r0, 16, 9, .ref kept_384), (r0, 16, 26, .int qn_1), (r0, 16, 30, .int pe)]) [2, 0, 1, 3, 4] rfl (M1 := []) [] rfl (I1 := []) [] rfl) (Or.inr rfl) (by first | omega | (refine ⟨?_, ?_, ?_⟩ <;> (first | omega | rfl | assumption | decide | exact Or.inl rfl | exact Or.inr rfl | (simp only; omega)))) _ (lv_sub hl [1, 2, 3, 4, 5, 0] rfl)
                · skip
                  have c_452' : bad_389.toInt = 0 := jb_ne_n (rfl) ((by decide)) c_452
                  refine lv_aload_n hx hb dX14_readNumber_142 rfl (lv_at hl 1 rfl) ?_
                  refine va_calli (A0 := jA base) (H0 := s.heap) (va_runV (As := []) (rest := []) ⟨hx, hb, hml, hown, hts⟩ (uX14_here l dC dI ca base B hB hAp hB16 hB110 G0 H_314 r0 wt_311 pe) (cwV 0 hts gX14_readNumber_X14_here rfl rfl rfl (by decide +kernel) ⟨by rw [← hR]; exact Nat.le_of_ble_eq_true rfl, by rw [← hR]; exact Nat.le_of_ble_eq_true rfl⟩) ⟨fun a U g mk q => by obtain ⟨q0, q1, q2, qK, q10, q11, q12⟩ := q; exact ⟨q0, q1, q2, jG.calling g mk a qK, q10, q11, q12⟩, hh_388.recv (C := RX14) (T := TX14) (N := 74) hB16 rfl (by decide) hg_r0 hK, fun U hU hW => ⟨rfl, hU, hh_388.2.1, hG.step hW hU hh_388.1, hg_r0, (hh_388.2.2.1.sub (L1 := [(r0, 16, 29, .int wt_311), (r0, 16, 30, .int pe)]) [2, 4] rfl), by first | omega | (refine ⟨?_, ?_, ?_, ?_⟩ <;> (first | omega | rfl | assumption | decide | exact Or.inl rfl | exact Or.inr rfl | (simp only; omega)))⟩⟩ rfl rfl hl.1 rfl (lv_room (Nat.le_of_ble_eq_true rfl)) dX14_readNumber_143 ⟨Nat.zero_le _, Nat.zero_le _⟩) hh_388.1 (fun q _ h => h) (fun q h => h) (fun r_454 u_453 t_453 H_453 locs_453 ht_453 hvm_453 hr_454 hb_453 hz_453 hk_453 hS_453 => ?_)
                  rw [ht_453] at hb_453
                  obtain ⟨hb_4531, hb_4532, hb_4533, hb_4534, hb_4535⟩ := hb_453
                  have hh_453 : jSt (dC, dI) B base G0 G0 EX14_readNumber s.heap 0 0 [(r0, 16, 31, .int bad_389), (r0, 16, 9, .ref kept_384), (r0, 16, 29, .int wt_311), (r0, 16, 26, .int qn_1), (r0, 16, 30, .int pe)] [] [] H_453 locs_453 := (hh_388.call hb_4531 hb_4532 hb_4533 hb_4534 hS_453 rfl (L1 := [(r0, 16, 31, .int bad_389), (r0, 16, 9, .ref kept_384), (r0, 16, 29, .int wt_311), (r0, 16, 26, .int qn_1), (r0, 16, 30, .int pe)]) [0, 1, 2, 3, 4] rfl rfl (M1 := []) [] rfl rfl (I1 := []) [] rfl rfl).more hb_4535
                  clear hh_388 ht_453 hvm_453 hz_453 hk_453 hS_453 hb_4531 hb_4532 hb_4533 hb_4534 hb_4535
                  obtain ⟨hr_454_0, hr_454_1, hr_454_2⟩ := hr_454
                  refine lv_bipush (v := 46) hx hb dX14_readNumber_146 (by decide) ?_
                  refine lv_icmp_ne (tgt := 168) hx hb dX14_readNumber_148 (by decide) (fun c_455 => ?_) (fun c_455 => ?_)
                  · skip
                    have c_455' : r_454.toInt ≠ 46 := jb_ne (rfl) ((by decide)) c_455
                    first | replace hr_454_2 := hr_454_2.resolve_left (by omega) | replace hr_454_2 := hr_454_2.resolve_right (by omega) | skip
                    exact C168 1 wt_311 bad_389 _ _ (hh_453.sub (L1 := [(r0, 16, 29, .int wt_311), (r0, 16, 31, .int bad_389), (r0, 16, 9, .ref kept_384), (r0, 16, 26, .int qn_1), (r0, 16, 30, .int pe)]) [2, 0, 1, 3, 4] rfl (M1 := []) [] rfl (I1 := []) [] rfl) (Or.inr rfl) (by first | omega | (refine ⟨?_, ?_, ?_⟩ <;> (first | omega | rfl | assumption | decide | exact Or.inl rfl | exact Or.inr rfl | (simp only; omega)))) _ (lv_sub hl [1, 2, 3, 4, 5, 0] rfl)
                  · skip
                    have c_455' : r_454.toInt = 46 := jb_ne_n (rfl) ((by decide)) c_455
                    first | replace hr_454_2 := hr_454_2.resolve_left (by omega) | replace hr_454_2 := hr_454_2.resolve_right (by omega) | skip
                    refine lv_iconst (v := 0) hx hb dX14_readNumber_151 (by decide) ?_
                    refine lv_istore (lv' := [(6, .int 0), (0, .ref r0), (1, .int r_2), (2, .int 1), (3, .int wt_310), (4, .long v4_311)]) hx hb dX14_readNumber_152 hl (by decide) rfl (fun ls hl => ?_)
                    refine lv_aload_n hx hb dX14_readNumber_154 rfl (lv_at hl 1 rfl) ?_
                    refine lv_dup hx hb dX14_readNumber_155 rfl ?_
                    refine j7_read hx hb hown hK (C := RX14) (T := TX14) (N := 74) rfl hly_16_29 (hts (.fieldLink RX14 273 "ProofServerModel" "at" "I") (by decide +kernel)) (hh_453.at 2 rfl) dX14_readNumber_156 ?_
                    refine lv_iconst (v := 1) hx hb dX14_readNumber_159 (by decide) ?_
                    refine lv_iadd hx hb dX14_readNumber_160 ?_
                    refine lv_topi (fun z_456 ez_456 => ?_)
                    have hz_456 : z_456.toInt = wt_311.toInt + 1 := by rw [ez_456]; exact jb_iadd2 (rfl) ((by decide)) (by omega)
                    refine j7_put hx hb hown hK hh_453 hB hAp hB16 (C := RX14) (T := TX14) (N := 74) rfl (by decide) hg_r0 (i := 29) (by decide) hly_16_29 rfl (hts (.fieldLink RX14 273 "ProofServerModel" "at" "I") (by decide +kernel)) rfl (ty := .int) (v := .int z_456) (by decide +kernel) rfl rfl (⟨_, rfl, by omega, by omega⟩) rfl (L1 := [(r0, 16, 31, .int bad_389), (r0, 16, 9, .ref kept_384), (r0, 16, 26, .int qn_1), (r0, 16, 30, .int pe)]) [0, 1, 3, 4] rfl rfl rfl dX14_readNumber_161 (fun H_457 locs_457 hh_457 => ?_)
                    clear hh_453
                    refine lv_aload_n hx hb dX14_readNumber_164 rfl (lv_at hl 1 rfl) ?_
                    refine va_callv (A0 := jA base) (H0 := s.heap) (va_runV (As := []) (rest := []) ⟨hx, hb, hml, hown, hts⟩ (uX14_digits l dC dI ca base B hB hAp hB16 hB110 G0 H_457 r0 z_456 pe) (cwV 0 hts gX14_readNumber_X14_digits rfl rfl rfl (by decide +kernel) ⟨by rw [← hR]; exact Nat.le_of_ble_eq_true rfl, by rw [← hR]; exact Nat.le_of_ble_eq_true rfl⟩) ⟨fun a U g mk q => by obtain ⟨q0, q1, q2, qK, q10, q11, q12⟩ := q; exact ⟨q0, q1, q2, jG.calling g mk a qK, q10, q11, q12⟩, hh_457.recv (C := RX14) (T := TX14) (N := 74) hB16 rfl (by decide) hg_r0 hK, fun U hU hW => ⟨rfl, hU, hh_457.2.1, hG.step hW hU hh_457.1, hg_r0, (hh_457.2.2.1.sub (L1 := [(r0, 16, 29, .int z_456), (r0, 16, 30, .int pe)]) [0, 4] rfl), by first | omega | (refine ⟨?_, ?_, ?_, ?_, ?_⟩ <;> (first | omega | rfl | assumption | decide | exact Or.inl rfl | exact Or.inr rfl | (simp only; omega)))⟩⟩ rfl rfl hl.1 rfl (lv_room (Nat.le_of_ble_eq_true rfl)) dX14_readNumber_165 ⟨Nat.zero_le _, Nat.zero_le _⟩) hh_457.1 (fun q _ h => h) (fun q h => h) (fun u_458 t_458 H_458 locs_458 ht_458 hvm_458 hr_459 hb_458 hz_458 hk_458 hS_458 => ?_)
                    obtain ⟨qt_458, rfl⟩ : ∃ z, z = u_458 := ⟨_, rfl⟩
                    rw [ht_458] at hb_458
                    obtain ⟨hb_4581, hb_4582, hb_4583, hb_4584, hb_4585⟩ := hb_458
                    have hh_458 : jSt (dC, dI) B base G0 G0 EX14_readNumber s.heap 0 0 [(r0, 16, 29, .int qt_458), (r0, 16, 9, .ref kept_384), (r0, 16, 26, .int qn_1), (r0, 16, 30, .int pe)] [] [] H_458 locs_458 := (hh_457.call hb_4581 hb_4582 hb_4583 hb_4584 hS_458 rfl (L1 := [(r0, 16, 9, .ref kept_384), (r0, 16, 26, .int qn_1), (r0, 16, 30, .int pe)]) [2, 3, 4] rfl rfl (M1 := []) [] rfl rfl (I1 := []) [] rfl rfl).more hb_4585
                    clear hh_457 ht_458 hvm_458 hz_458 hk_458 hS_458 hb_4581 hb_4582 hb_4583 hb_4584 hb_4585
                    obtain ⟨hr_459_0, hr_459_1⟩ := hr_459
                    obtain ⟨v_460, hv_460, hh_461⟩ := hh_458.pin (C := RX14) (T := TX14) (N := 74) hB16 rfl (by decide) hg_r0 (i := 31) (by decide) rfl
                    obtain ⟨bad_462, rfl, hzbad_462⟩ := hv_460
                    have hzbad_462' := jb_01 hzbad_462
                    exact C168 0 qt_458 bad_462 _ _ (hh_461.sub (L1 := [(r0, 16, 29, .int qt_458), (r0, 16, 31, .int bad_462), (r0, 16, 9, .ref kept_384), (r0, 16, 26, .int qn_1), (r0, 16, 30, .int pe)]) [1, 0, 2, 3, 4] rfl (M1 := []) [] rfl (I1 := []) [] rfl) (Or.inl rfl) (by first | omega | (refine ⟨?_, ?_, ?_⟩ <;> (first | omega | rfl | assumption | decide | exact Or.inl rfl | exact Or.inr rfl | (simp only; omega)))) _ (lv_sub hl [1, 2, 3, 4, 5, 0] rfl)
              · skip
                have c_386' : z_385.toInt = 48 := jb_ne_n (rfl) ((by decide)) c_386
                refine lv_aload_n hx hb dX14_readNumber_117 rfl (lv_at hl 0 rfl) ?_
                refine j7_read hx hb hown hK (C := RX14) (T := TX14) (N := 74) rfl hly_16_29 (hts (.fieldLink RX14 273 "ProofServerModel" "at" "I") (by decide +kernel)) (hh_383.at 1 rfl) dX14_readNumber_118 ?_
                refine lv_iload_n hx hb dX14_readNumber_121 rfl (lv_at hl 3 rfl) ?_
                refine lv_isub hx hb dX14_readNumber_122 ?_
                refine lv_topi (fun z_463 ez_463 => ?_)
                have hz_463 : z_463.toInt = wt_311.toInt - wt_310.toInt := by rw [ez_463]; exact jb_isub2 (rfl) (rfl) (by omega)
                refine lv_iconst (v := 1) hx hb dX14_readNumber_123 (by decide) ?_
                refine lv_icmp_le (tgt := 132) hx hb dX14_readNumber_124 (by decide) (fun c_464 => ?_) (fun c_464 => ?_)
                · skip
                  have c_464' : z_463.toInt ≤ 1 := jb_le (rfl) ((by decide)) c_464
                  refine lv_iconst (v := 1) hx hb dX14_readNumber_132 (by decide) ?_
                  refine lv_istore (lv' := [(6, .int 1), (0, .ref r0), (1, .int r_2), (2, .int 1), (3, .int wt_310), (4, .long v4_311)]) hx hb dX14_readNumber_133 hl (by decide) rfl (fun ls hl => ?_)
                  refine lv_aload_n hx hb dX14_readNumber_135 rfl (lv_at hl 1 rfl) ?_
                  obtain ⟨v_465, hv_465, hh_466⟩ := hh_383.pin (C := RX14) (T := TX14) (N := 74) hB16 rfl (by decide) hg_r0 (i := 31) (by decide) rfl
                  clear hh_383
                  obtain ⟨bad_467, rfl, hzbad_467⟩ := hv_465
                  have hzbad_467' := jb_01 hzbad_467
                  refine j7_read hx hb hown hK (C := RX14) (T := TX14) (N := 74) rfl hly_16_31 (hts (.fieldLink RX14 288 "ProofServerModel" "bad" "Z") (by decide +kernel)) (hh_466.at 0 rfl) dX14_readNumber_136 ?_
                  have C168 : ∀ (v6_468 : Int32) (wt_468 : Int32) (wb_468 : Int32) (H_468 : Heap) (locs_468 : List Loc), jSt (dC, dI) B base G0 G0 EX14_readNumber s.heap 0 0 [(r0, 16, 29, .int wt_468), (r0, 16, 31, .int wb_468), (r0, 16, 9, .ref kept_384), (r0, 16, 26, .int qn_1), (r0, 16, 30, .int pe)] [] [] H_468 locs_468 → (v6_468 = 0 ∨ v6_468 = 1) → (pt.toInt ≤ wt_468.toInt ∧ wt_468.toInt ≤ pe.toInt ∧ (wb_468.toInt = 1 ∨ pt.toInt + 1 ≤ wt_468.toInt)) → ∀ ls : Array Slot, lv_has ls 9 [(0, .ref r0), (1, .int r_2), (2, .int 1), (3, .int wt_310), (4, .long v4_311), (6, .int v6_468)] → W p l e R s m ([.ref r0] : List Value).toArray below meth c H_468 locs_468 0 0 Q (F0 m 168 ls []) := by
                    intro v6_468 wt_468 wb_468 H_468 locs_468 hh_468 hb_v6_468 hi_468 ls hl
                    obtain ⟨hi_468_0, hi_468_1, hi_468_2⟩ := hi_468
                    have hb_v6_468' := jb_01 hb_v6_468
                    clear hr_313_2
                    refine lv_aload_n hx hb dX14_readNumber_168 rfl (lv_at hl 0 rfl) ?_
                    refine j7_read hx hb hown hK (C := RX14) (T := TX14) (N := 74) rfl hly_16_31 (hts (.fieldLink RX14 288 "ProofServerModel" "bad" "Z") (by decide +kernel)) (hh_468.at 1 rfl) dX14_readNumber_169 ?_
                    have C238 : ∀ (v6_469 : Int32) (wt_469 : Int32) (wb_469 : Int32) (H_469 : Heap) (locs_469 : List Loc), jSt (dC, dI) B base G0 G0 EX14_readNumber s.heap 0 0 [(r0, 16, 29, .int wt_469), (r0, 16, 31, .int wb_469), (r0, 16, 9, .ref kept_384), (r0, 16, 26, .int qn_1), (r0, 16, 30, .int pe)] [] [] H_469 locs_469 → (v6_469 = 0 ∨ v6_469 = 1) → (pt.toInt ≤ wt_469.toInt ∧ wt_469.toInt ≤ pe.toInt ∧ (wb_469.toInt = 1 ∨ pt.toInt + 1 ≤ wt_469.toInt)) → ∀ ls : Array Slot, lv_has ls 9 [(0, .ref r0), (1, .int r_2), (2, .int 1), (3, .int wt_310), (4, .long v4_311), (6, .int v6_469)] → W p l e R s m ([.ref r0] : List Value).toArray below meth c H_469 locs_469 0 0 Q (F0 m 238 ls []) := by
                      intro v6_469 wt_469 wb_469 H_469 locs_469 hh_469 hb_v6_469 hi_469 ls hl
                      obtain ⟨hi_469_0, hi_469_1, hi_469_2⟩ := hi_469
                      have hb_v6_469' := jb_01 hb_v6_469
                      refine lv_iload_n hx hb dX14_readNumber_238 rfl (lv_at hl 2 rfl) ?_
                      refine lv_if_eq (tgt := 248) hx hb dX14_readNumber_239 (by decide) (fun c_470 => ?_) (fun c_470 => ?_)
                      · skip
                        exact absurd c_470 (by decide)
                      · skip
                        refine lv_lload hx hb dX14_readNumber_242 (lv_at hl 4 rfl) ?_
                        refine lv_lneg hx hb dX14_readNumber_244 ?_
                        refine lv_topl (fun z_471 ez_471 => ?_)
                        refine lv_goto (tgt := 250) hx hb dX14_readNumber_245 (by decide) ?_
                        refine lv_lstore (lv' := [(7, .long z_471), (0, .ref r0), (1, .int r_2), (2, .int 1), (3, .int wt_310), (4, .long v4_311), (6, .int v6_469)]) hx hb dX14_readNumber_250 hl (by decide) rfl (fun ls hl => ?_)
                        refine lv_aload_n hx hb dX14_readNumber_252 rfl (lv_at hl 1 rfl) ?_
                        obtain ⟨v_472, hv_472, hh_473⟩ := hh_469.pin (C := RX14) (T := TX14) (N := 74) hB16 rfl (by decide) hg_r0 (i := 24) (by decide) rfl
                        clear hh_469
                        obtain ⟨isInt_474, rfl, hg_isInt_474⟩ := hv_472
                        refine j7_read hx hb hown hK (C := RX14) (T := TX14) (N := 74) rfl hly_16_24 (hts (.fieldLink RX14 58 "ProofServerModel" "isInt" "[Z") (by decide +kernel)) (hh_473.at 0 rfl) dX14_readNumber_253 ?_
                        refine lv_iload_n hx hb dX14_readNumber_256 rfl (lv_at hl 2 rfl) ?_
                        refine lv_iload hx hb dX14_readNumber_257 (lv_at hl 6 rfl) ?_
                        have C285 : ∀ (w0_475 : Int32) (H_475 : Heap) (locs_475 : List Loc), jSt (dC, dI) B base G0 G0 EX14_readNumber s.heap 0 0 [(r0, 16, 24, .ref isInt_474), (r0, 16, 29, .int wt_469), (r0, 16, 31, .int wb_469), (r0, 16, 9, .ref kept_384), (r0, 16, 26, .int qn_1), (r0, 16, 30, .int pe)] [] [] H_475 locs_475 → (w0_475 = 0 ∨ w0_475 = 1) → (True) → ∀ ls : Array Slot, lv_has ls 9 [(0, .ref r0), (1, .int r_2), (2, .int 1), (3, .int wt_310), (4, .long v4_311), (6, .int v6_469), (7, .long z_471)] → W p l e R s m ([.ref r0] : List Value).toArray below meth c H_475 locs_475 0 0 Q (F0 m 285 ls [.int w0_475, .int r_2, .ref isInt_474]) := by
                          intro w0_475 H_475 locs_475 hh_475 hb_w0_475 hi_475 ls hl
                          have hb_w0_475' := jb_01 hb_w0_475
                          refine j7_zast hx hb hK hh_475 hB hB124 3 rfl (by decide) (by decide) rfl rfl rfl hg_isInt_474 (rfl) (by omega) (hb_w0_475) (hb_w0_475) dX14_readNumber_285 (fun H_476 locs_476 hh_476 => ?_)
                          clear hh_475
                          refine lv_aload_n hx hb dX14_readNumber_286 rfl (lv_at hl 0 rfl) ?_
                          obtain ⟨v_477, hv_477, hh_478⟩ := hh_476.pin (C := RX14) (T := TX14) (N := 74) hB16 rfl (by decide) hg_r0 (i := 25) (by decide) rfl
                          clear hh_476
                          obtain ⟨ints_479, rfl, hg_ints_479⟩ := hv_477
                          refine j7_read hx hb hown hK (C := RX14) (T := TX14) (N := 74) rfl hly_16_25 (hts (.fieldLink RX14 62 "ProofServerModel" "ints" "[I") (by decide +kernel)) (hh_478.at 0 rfl) dX14_readNumber_287 ?_
                          refine lv_iload_n hx hb dX14_readNumber_290 rfl (lv_at hl 1 rfl) ?_
                          refine lv_lload hx hb dX14_readNumber_291 (lv_at hl 6 rfl) ?_
                          refine lv_l2i hx hb dX14_readNumber_293 rfl ?_
                          refine lv_topi (fun z_480 ez_480 => ?_)
                          refine j7_iast hx hb hK hh_478 hB hB125 1 rfl (by decide) (by decide) rfl rfl rfl hg_ints_479 (rfl) (by omega) (trivial) dX14_readNumber_294 (fun H_481 locs_481 hh_481 => ?_)
                          clear hh_478
                          refine lv_iload_n hx hb dX14_readNumber_295 rfl (lv_at hl 1 rfl) ?_
                          rw [hQ]
                          exact W.iret (v := r_2) hx hb hr (fun t ht hW => ⟨⟨r_2, (wt_469, qn_1, wb_469), rfl, by first | omega | (refine ⟨?_, ?_, ?_, ?_, ?_⟩ <;> (first | omega | rfl | assumption | decide | exact Or.inl rfl | exact Or.inr rfl | (simp only; omega))), hh_481.rt (M1 := [(r0, 16, 29, .int wt_469), (r0, 16, 26, .int qn_1), (r0, 16, 31, .int wb_469)]) [2, 5, 3] rfl ht⟩, by rw [ht]; try exact hh_481.1.1, fun q h9 hq => by rw [ht]; try exact hh_481.1.2.1 q h9 hq⟩) hh_481.1.2.2 dX14_readNumber_296
                        refine lv_if_eq (tgt := 284) hx hb dX14_readNumber_259 (by decide) (fun c_482 => ?_) (fun c_482 => ?_)
                        · skip
                          have c_482' : v6_469.toInt = 0 := jb_eq (rfl) ((by decide)) c_482
                          refine lv_iconst (v := 0) hx hb dX14_readNumber_284 (by decide) ?_
                          exact C285 0 _ _ hh_473 (Or.inl rfl) (trivial) _ (lv_sub hl [1, 2, 3, 4, 5, 6, 0] rfl)
                        · skip
                          have c_482' : v6_469.toInt ≠ 0 := jb_eq_n (rfl) ((by decide)) c_482
                          refine lv_lload hx hb dX14_readNumber_262 (lv_at hl 0 rfl) ?_
                          refine lv_ldc2 hx hb hown (hts (.constantLong RX14 329 (-2147483648)) (by decide +kernel)) dX14_readNumber_264 ?_
                          refine W.lcmp hx hb dX14_readNumber_267 ?_
                          refine lv_topi (fun z_483 ez_483 => ?_)
                          have hz_483 := jb_lcmp ez_483
                          have hqz_483_m2147483648 : ((-2147483648) : Int64).toInt = (-2147483648) := by decide
                          refine lv_if_lt (tgt := 284) hx hb dX14_readNumber_268 (by decide) (fun c_484 => ?_) (fun c_484 => ?_)
                          · skip
                            have c_484' : z_483.toInt < 0 := jb_lt (rfl) ((by decide)) c_484
                            refine lv_iconst (v := 0) hx hb dX14_readNumber_284 (by decide) ?_
                            exact C285 0 _ _ hh_473 (Or.inl rfl) (trivial) _ (lv_sub hl [1, 2, 3, 4, 5, 6, 0] rfl)
                          · skip
                            have c_484' : z_483.toInt ≥ 0 := jb_lt_n (rfl) ((by decide)) c_484
                            refine lv_lload hx hb dX14_readNumber_271 (lv_at hl 0 rfl) ?_
                            refine lv_ldc2 hx hb hown (hts (.constantLong RX14 331 2147483647) (by decide +kernel)) dX14_readNumber_273 ?_
                            refine W.lcmp hx hb dX14_readNumber_276 ?_
                            refine lv_topi (fun z_485 ez_485 => ?_)
                            have hz_485 := jb_lcmp ez_485
                            have hqz_485_2147483647 : (2147483647 : Int64).toInt = 2147483647 := by decide
                            refine lv_if_gt (tgt := 284) hx hb dX14_readNumber_277 (by decide) (fun c_486 => ?_) (fun c_486 => ?_)
                            · skip
                              have c_486' : z_485.toInt > 0 := jb_gt (rfl) ((by decide)) c_486
                              refine lv_iconst (v := 0) hx hb dX14_readNumber_284 (by decide) ?_
                              exact C285 0 _ _ hh_473 (Or.inl rfl) (trivial) _ (lv_sub hl [1, 2, 3, 4, 5, 6, 0] rfl)
                            · skip
                              have c_486' : z_485.toInt ≤ 0 := jb_gt_n (rfl) ((by decide)) c_486
                              refine lv_iconst (v := 1) hx hb dX14_readNumber_280 (by decide) ?_
                              refine lv_goto (tgt := 285) hx hb dX14_readNumber_281 (by decide) ?_
                              exact C285 1 _ _ hh_473 (Or.inr rfl) (trivial) _ (lv_sub hl [1, 2, 3, 4, 5, 6, 0] rfl)
                    refine lv_if_ne (tgt := 238) hx hb dX14_readNumber_172 (by decide) (fun c_487 => ?_) (fun c_487 => ?_)
                    · skip
                      have c_487' : wb_468.toInt ≠ 0 := jb_ne (rfl) ((by decide)) c_487
                      exact C238 v6_468 wt_468 wb_468 _ _ hh_468 (hb_v6_468) (by first | omega | (refine ⟨?_, ?_, ?_⟩ <;> (first | omega | rfl | assumption | decide | exact Or.inl rfl | exact Or.inr rfl | (simp only; omega)))) _ (lv_sub hl [0, 1, 2, 3, 4, 5] rfl)
                    · skip
                      have c_487' : wb_468.toInt = 0 := jb_ne_n (rfl) ((by decide)) c_487
                      refine lv_aload_n hx hb dX14_readNumber_175 rfl (lv_at hl 0 rfl) ?_
                      refine va_calli (A0 := jA base) (H0 := s.heap) (va_runV (As := []) (rest := []) ⟨hx, hb, hml, hown, hts⟩ (uX14_here l dC dI ca base B hB hAp hB16 hB110 G0 H_468 r0 wt_468 pe) (cwV 0 hts gX14_readNumber_X14_here rfl rfl rfl (by decide +kernel) ⟨by rw [← hR]; exact Nat.le_of_ble_eq_true rfl, by rw [← hR]; exact Nat.le_of_ble_eq_true rfl⟩) ⟨fun a U g mk q => by obtain ⟨q0, q1, q2, qK, q10, q11, q12⟩ := q; exact ⟨q0, q1, q2, jG.calling g mk a qK, q10, q11, q12⟩, hh_468.recv (C := RX14) (T := TX14) (N := 74) hB16 rfl (by decide) hg_r0 hK, fun U hU hW => ⟨rfl, hU, hh_468.2.1, hG.step hW hU hh_468.1, hg_r0, (hh_468.2.2.1.sub (L1 := [(r0, 16, 29, .int wt_468), (r0, 16, 30, .int pe)]) [0, 4] rfl), by first | omega | (refine ⟨?_, ?_, ?_, ?_⟩ <;> (first | omega | rfl | assumption | decide | exact Or.inl rfl | exact Or.inr rfl | (simp only; omega)))⟩⟩ rfl rfl hl.1 rfl (lv_room (Nat.le_of_ble_eq_true rfl)) dX14_readNumber_176 ⟨Nat.zero_le _, Nat.zero_le _⟩) hh_468.1 (fun q _ h => h) (fun q h => h) (fun r_489 u_488 t_488 H_488 locs_488 ht_488 hvm_488 hr_489 hb_488 hz_488 hk_488 hS_488 => ?_)
                      rw [ht_488] at hb_488
                      obtain ⟨hb_4881, hb_4882, hb_4883, hb_4884, hb_4885⟩ := hb_488
                      have hh_488 : jSt (dC, dI) B base G0 G0 EX14_readNumber s.heap 0 0 [(r0, 16, 29, .int wt_468), (r0, 16, 31, .int wb_468), (r0, 16, 9, .ref kept_384), (r0, 16, 26, .int qn_1), (r0, 16, 30, .int pe)] [] [] H_488 locs_488 := (hh_468.call hb_4881 hb_4882 hb_4883 hb_4884 hS_488 rfl (L1 := [(r0, 16, 29, .int wt_468), (r0, 16, 31, .int wb_468), (r0, 16, 9, .ref kept_384), (r0, 16, 26, .int qn_1), (r0, 16, 30, .int pe)]) [0, 1, 2, 3, 4] rfl rfl (M1 := []) [] rfl rfl (I1 := []) [] rfl rfl).more hb_4885
                      clear hh_468 ht_488 hvm_488 hz_488 hk_488 hS_488 hb_4881 hb_4882 hb_4883 hb_4884 hb_4885
                      obtain ⟨hr_489_0, hr_489_1, hr_489_2⟩ := hr_489
                      refine lv_bipush (v := 101) hx hb dX14_readNumber_179 (by decide) ?_
                      refine lv_icmp_eq (tgt := 193) hx hb dX14_readNumber_181 (by decide) (fun c_490 => ?_) (fun c_490 => ?_)
                      · skip
                        have c_490' : r_489.toInt = 101 := jb_eq (rfl) ((by decide)) c_490
                        first | replace hr_489_2 := hr_489_2.resolve_left (by omega) | replace hr_489_2 := hr_489_2.resolve_right (by omega) | skip
                        refine lv_iconst (v := 0) hx hb dX14_readNumber_193 (by decide) ?_
                        refine lv_istore (lv' := [(6, .int 0), (0, .ref r0), (1, .int r_2), (2, .int 1), (3, .int wt_310), (4, .long v4_311)]) hx hb dX14_readNumber_194 hl (by decide) rfl (fun ls hl => ?_)
                        refine lv_aload_n hx hb dX14_readNumber_196 rfl (lv_at hl 1 rfl) ?_
                        refine lv_dup hx hb dX14_readNumber_197 rfl ?_
                        refine j7_read hx hb hown hK (C := RX14) (T := TX14) (N := 74) rfl hly_16_29 (hts (.fieldLink RX14 273 "ProofServerModel" "at" "I") (by decide +kernel)) (hh_488.at 0 rfl) dX14_readNumber_198 ?_
                        refine lv_iconst (v := 1) hx hb dX14_readNumber_201 (by decide) ?_
                        refine lv_iadd hx hb dX14_readNumber_202 ?_
                        refine lv_topi (fun z_491 ez_491 => ?_)
                        have hz_491 : z_491.toInt = wt_468.toInt + 1 := by rw [ez_491]; exact jb_iadd2 (rfl) ((by decide)) (by omega)
                        refine j7_put hx hb hown hK hh_488 hB hAp hB16 (C := RX14) (T := TX14) (N := 74) rfl (by decide) hg_r0 (i := 29) (by decide) hly_16_29 rfl (hts (.fieldLink RX14 273 "ProofServerModel" "at" "I") (by decide +kernel)) rfl (ty := .int) (v := .int z_491) (by decide +kernel) rfl rfl (⟨_, rfl, by omega, by omega⟩) rfl (L1 := [(r0, 16, 31, .int wb_468), (r0, 16, 9, .ref kept_384), (r0, 16, 26, .int qn_1), (r0, 16, 30, .int pe)]) [1, 2, 3, 4] rfl rfl rfl dX14_readNumber_203 (fun H_492 locs_492 hh_492 => ?_)
                        clear hh_488
                        refine lv_aload_n hx hb dX14_readNumber_206 rfl (lv_at hl 1 rfl) ?_
                        refine va_calli (A0 := jA base) (H0 := s.heap) (va_runV (As := []) (rest := []) ⟨hx, hb, hml, hown, hts⟩ (uX14_here l dC dI ca base B hB hAp hB16 hB110 G0 H_492 r0 z_491 pe) (cwV 0 hts gX14_readNumber_X14_here rfl rfl rfl (by decide +kernel) ⟨by rw [← hR]; exact Nat.le_of_ble_eq_true rfl, by rw [← hR]; exact Nat.le_of_ble_eq_true rfl⟩) ⟨fun a U g mk q => by obtain ⟨q0, q1, q2, qK, q10, q11, q12⟩ := q; exact ⟨q0, q1, q2, jG.calling g mk a qK, q10, q11, q12⟩, hh_492.recv (C := RX14) (T := TX14) (N := 74) hB16 rfl (by decide) hg_r0 hK, fun U hU hW => ⟨rfl, hU, hh_492.2.1, hG.step hW hU hh_492.1, hg_r0, (hh_492.2.2.1.sub (L1 := [(r0, 16, 29, .int z_491), (r0, 16, 30, .int pe)]) [0, 4] rfl), by first | omega | (refine ⟨?_, ?_, ?_, ?_⟩ <;> (first | omega | rfl | assumption | decide | exact Or.inl rfl | exact Or.inr rfl | (simp only; omega)))⟩⟩ rfl rfl hl.1 rfl (lv_room (Nat.le_of_ble_eq_true rfl)) dX14_readNumber_207 ⟨Nat.zero_le _, Nat.zero_le _⟩) hh_492.1 (fun q _ h => h) (fun q h => h) (fun r_494 u_493 t_493 H_493 locs_493 ht_493 hvm_493 hr_494 hb_493 hz_493 hk_493 hS_493 => ?_)
                        rw [ht_493] at hb_493
                        obtain ⟨hb_4931, hb_4932, hb_4933, hb_4934, hb_4935⟩ := hb_493
                        have hh_493 : jSt (dC, dI) B base G0 G0 EX14_readNumber s.heap 0 0 [(r0, 16, 29, .int z_491), (r0, 16, 31, .int wb_468), (r0, 16, 9, .ref kept_384), (r0, 16, 26, .int qn_1), (r0, 16, 30, .int pe)] [] [] H_493 locs_493 := (hh_492.call hb_4931 hb_4932 hb_4933 hb_4934 hS_493 rfl (L1 := [(r0, 16, 29, .int z_491), (r0, 16, 31, .int wb_468), (r0, 16, 9, .ref kept_384), (r0, 16, 26, .int qn_1), (r0, 16, 30, .int pe)]) [0, 1, 2, 3, 4] rfl rfl (M1 := []) [] rfl rfl (I1 := []) [] rfl rfl).more hb_4935
                        clear hh_492 ht_493 hvm_493 hz_493 hk_493 hS_493 hb_4931 hb_4932 hb_4933 hb_4934 hb_4935
                        obtain ⟨hr_494_0, hr_494_1, hr_494_2⟩ := hr_494
                        refine lv_bipush (v := 43) hx hb dX14_readNumber_210 (by decide) ?_
                        have C234 : ∀ (wt_495 : Int32) (H_495 : Heap) (locs_495 : List Loc), jSt (dC, dI) B base G0 G0 EX14_readNumber s.heap 0 0 [(r0, 16, 29, .int wt_495), (r0, 16, 31, .int wb_468), (r0, 16, 9, .ref kept_384), (r0, 16, 26, .int qn_1), (r0, 16, 30, .int pe)] [] [] H_495 locs_495 → (pt.toInt ≤ wt_495.toInt ∧ wt_495.toInt ≤ pe.toInt ∧ pt.toInt + 1 ≤ wt_495.toInt) → ∀ ls : Array Slot, lv_has ls 9 [(0, .ref r0), (1, .int r_2), (2, .int 1), (3, .int wt_310), (4, .long v4_311), (6, .int 0)] → W p l e R s m ([.ref r0] : List Value).toArray below meth c H_495 locs_495 0 0 Q (F0 m 234 ls []) := by
                          intro wt_495 H_495 locs_495 hh_495  hi_495 ls hl
                          obtain ⟨hi_495_0, hi_495_1, hi_495_2⟩ := hi_495
                          clear hr_489_2 hr_494_2
                          refine lv_aload_n hx hb dX14_readNumber_234 rfl (lv_at hl 0 rfl) ?_
                          refine va_callv (A0 := jA base) (H0 := s.heap) (va_runV (As := []) (rest := []) ⟨hx, hb, hml, hown, hts⟩ (uX14_digits l dC dI ca base B hB hAp hB16 hB110 G0 H_495 r0 wt_495 pe) (cwV 0 hts gX14_readNumber_X14_digits rfl rfl rfl (by decide +kernel) ⟨by rw [← hR]; exact Nat.le_of_ble_eq_true rfl, by rw [← hR]; exact Nat.le_of_ble_eq_true rfl⟩) ⟨fun a U g mk q => by obtain ⟨q0, q1, q2, qK, q10, q11, q12⟩ := q; exact ⟨q0, q1, q2, jG.calling g mk a qK, q10, q11, q12⟩, hh_495.recv (C := RX14) (T := TX14) (N := 74) hB16 rfl (by decide) hg_r0 hK, fun U hU hW => ⟨rfl, hU, hh_495.2.1, hG.step hW hU hh_495.1, hg_r0, (hh_495.2.2.1.sub (L1 := [(r0, 16, 29, .int wt_495), (r0, 16, 30, .int pe)]) [0, 4] rfl), by first | omega | (refine ⟨?_, ?_, ?_, ?_, ?_⟩ <;> (first | omega | rfl | assumption | decide | exact Or.inl rfl | exact Or.inr rfl | (simp only; omega)))⟩⟩ rfl rfl hl.1 rfl (lv_room (Nat.le_of_ble_eq_true rfl)) dX14_readNumber_235 ⟨Nat.zero_le _, Nat.zero_le _⟩) hh_495.1 (fun q _ h => h) (fun q h => h) (fun u_496 t_496 H_496 locs_496 ht_496 hvm_496 hr_497 hb_496 hz_496 hk_496 hS_496 => ?_)
                          obtain ⟨qt_496, rfl⟩ : ∃ z, z = u_496 := ⟨_, rfl⟩
                          rw [ht_496] at hb_496
                          obtain ⟨hb_4961, hb_4962, hb_4963, hb_4964, hb_4965⟩ := hb_496
                          have hh_496 : jSt (dC, dI) B base G0 G0 EX14_readNumber s.heap 0 0 [(r0, 16, 29, .int qt_496), (r0, 16, 9, .ref kept_384), (r0, 16, 26, .int qn_1), (r0, 16, 30, .int pe)] [] [] H_496 locs_496 := (hh_495.call hb_4961 hb_4962 hb_4963 hb_4964 hS_496 rfl (L1 := [(r0, 16, 9, .ref kept_384), (r0, 16, 26, .int qn_1), (r0, 16, 30, .int pe)]) [2, 3, 4] rfl rfl (M1 := []) [] rfl rfl (I1 := []) [] rfl rfl).more hb_4965
                          clear hh_495 ht_496 hvm_496 hz_496 hk_496 hS_496 hb_4961 hb_4962 hb_4963 hb_4964 hb_4965
                          obtain ⟨hr_497_0, hr_497_1⟩ := hr_497
                          obtain ⟨v_498, hv_498, hh_499⟩ := hh_496.pin (C := RX14) (T := TX14) (N := 74) hB16 rfl (by decide) hg_r0 (i := 31) (by decide) rfl
                          obtain ⟨bad_500, rfl, hzbad_500⟩ := hv_498
                          have hzbad_500' := jb_01 hzbad_500
                          exact C238 0 qt_496 bad_500 _ _ (hh_499.sub (L1 := [(r0, 16, 29, .int qt_496), (r0, 16, 31, .int bad_500), (r0, 16, 9, .ref kept_384), (r0, 16, 26, .int qn_1), (r0, 16, 30, .int pe)]) [1, 0, 2, 3, 4] rfl (M1 := []) [] rfl (I1 := []) [] rfl) (Or.inl rfl) (by first | omega | (refine ⟨?_, ?_, ?_⟩ <;> (first | omega | rfl | assumption | decide | exact Or.inl rfl | exact Or.inr rfl | (simp only; omega)))) _ (lv_sub hl [0, 1, 2, 3, 4, 5] rfl)
                        refine lv_icmp_eq (tgt := 224) hx hb dX14_readNumber_212 (by decide) (fun c_501 => ?_) (fun c_501 => ?_)
                        · skip
                          have c_501' : r_494.toInt = 43 := jb_eq (rfl) ((by decide)) c_501
                          first | replace hr_494_2 := hr_494_2.resolve_left (by omega) | replace hr_494_2 := hr_494_2.resolve_right (by omega) | skip
                          refine lv_aload_n hx hb dX14_readNumber_224 rfl (lv_at hl 1 rfl) ?_
                          refine lv_dup hx hb dX14_readNumber_225 rfl ?_
                          refine j7_read hx hb hown hK (C := RX14) (T := TX14) (N := 74) rfl hly_16_29 (hts (.fieldLink RX14 273 "ProofServerModel" "at" "I") (by decide +kernel)) (hh_493.at 0 rfl) dX14_readNumber_226 ?_
                          refine lv_iconst (v := 1) hx hb dX14_readNumber_229 (by decide) ?_
                          refine lv_iadd hx hb dX14_readNumber_230 ?_
                          refine lv_topi (fun z_502 ez_502 => ?_)
                          have hz_502 : z_502.toInt = z_491.toInt + 1 := by rw [ez_502]; exact jb_iadd2 (rfl) ((by decide)) (by omega)
                          refine j7_put hx hb hown hK hh_493 hB hAp hB16 (C := RX14) (T := TX14) (N := 74) rfl (by decide) hg_r0 (i := 29) (by decide) hly_16_29 rfl (hts (.fieldLink RX14 273 "ProofServerModel" "at" "I") (by decide +kernel)) rfl (ty := .int) (v := .int z_502) (by decide +kernel) rfl rfl (⟨_, rfl, by omega, by omega⟩) rfl (L1 := [(r0, 16, 31, .int wb_468), (r0, 16, 9, .ref kept_384), (r0, 16, 26, .int qn_1), (r0, 16, 30, .int pe)]) [1, 2, 3, 4] rfl rfl rfl dX14_readNumber_231 (fun H_503 locs_503 hh_503 => ?_)
                          clear hh_493
                          exact C234 z_502 _ _ hh_503 (by first | omega | (refine ⟨?_, ?_, ?_⟩ <;> (first | omega | rfl | assumption | decide | exact Or.inl rfl | exact Or.inr rfl | (simp only; omega)))) _ (lv_sub hl [1, 2, 3, 4, 5, 0] rfl)
                        · skip
                          have c_501' : r_494.toInt ≠ 43 := jb_eq_n (rfl) ((by decide)) c_501
                          first | replace hr_494_2 := hr_494_2.resolve_left (by omega) | replace hr_494_2 := hr_494_2.resolve_right (by omega) | skip
                          refine lv_aload_n hx hb dX14_readNumber_215 rfl (lv_at hl 1 rfl) ?_
                          refine va_calli (A0 := jA base) (H0 := s.heap) (va_runV (As := []) (rest := []) ⟨hx, hb, hml, hown, hts⟩ (uX14_here l dC dI ca base B hB hAp hB16 hB110 G0 H_493 r0 z_491 pe) (cwV 0 hts gX14_readNumber_X14_here rfl rfl rfl (by decide +kernel) ⟨by rw [← hR]; exact Nat.le_of_ble_eq_true rfl, by rw [← hR]; exact Nat.le_of_ble_eq_true rfl⟩) ⟨fun a U g mk q => by obtain ⟨q0, q1, q2, qK, q10, q11, q12⟩ := q; exact ⟨q0, q1, q2, jG.calling g mk a qK, q10, q11, q12⟩, hh_493.recv (C := RX14) (T := TX14) (N := 74) hB16 rfl (by decide) hg_r0 hK, fun U hU hW => ⟨rfl, hU, hh_493.2.1, hG.step hW hU hh_493.1, hg_r0, (hh_493.2.2.1.sub (L1 := [(r0, 16, 29, .int z_491), (r0, 16, 30, .int pe)]) [0, 4] rfl), by first | omega | (refine ⟨?_, ?_, ?_, ?_⟩ <;> (first | omega | rfl | assumption | decide | exact Or.inl rfl | exact Or.inr rfl | (simp only; omega)))⟩⟩ rfl rfl hl.1 rfl (lv_room (Nat.le_of_ble_eq_true rfl)) dX14_readNumber_216 ⟨Nat.zero_le _, Nat.zero_le _⟩) hh_493.1 (fun q _ h => h) (fun q h => h) (fun r_505 u_504 t_504 H_504 locs_504 ht_504 hvm_504 hr_505 hb_504 hz_504 hk_504 hS_504 => ?_)
                          rw [ht_504] at hb_504
                          obtain ⟨hb_5041, hb_5042, hb_5043, hb_5044, hb_5045⟩ := hb_504
                          have hh_504 : jSt (dC, dI) B base G0 G0 EX14_readNumber s.heap 0 0 [(r0, 16, 29, .int z_491), (r0, 16, 31, .int wb_468), (r0, 16, 9, .ref kept_384), (r0, 16, 26, .int qn_1), (r0, 16, 30, .int pe)] [] [] H_504 locs_504 := (hh_493.call hb_5041 hb_5042 hb_5043 hb_5044 hS_504 rfl (L1 := [(r0, 16, 29, .int z_491), (r0, 16, 31, .int wb_468), (r0, 16, 9, .ref kept_384), (r0, 16, 26, .int qn_1), (r0, 16, 30, .int pe)]) [0, 1, 2, 3, 4] rfl rfl (M1 := []) [] rfl rfl (I1 := []) [] rfl rfl).more hb_5045
                          clear hh_493 ht_504 hvm_504 hz_504 hk_504 hS_504 hb_5041 hb_5042 hb_5043 hb_5044 hb_5045
                          obtain ⟨hr_505_0, hr_505_1, hr_505_2⟩ := hr_505
                          refine lv_bipush (v := 45) hx hb dX14_readNumber_219 (by decide) ?_
                          refine lv_icmp_ne (tgt := 234) hx hb dX14_readNumber_221 (by decide) (fun c_506 => ?_) (fun c_506 => ?_)
                          · skip
                            have c_506' : r_505.toInt ≠ 45 := jb_ne (rfl) ((by decide)) c_506
                            first | replace hr_505_2 := hr_505_2.resolve_left (by omega) | replace hr_505_2 := hr_505_2.resolve_right (by omega) | skip
                            exact C234 z_491 _ _ hh_504 (by first | omega | (refine ⟨?_, ?_, ?_⟩ <;> (first | omega | rfl | assumption | decide | exact Or.inl rfl | exact Or.inr rfl | (simp only; omega)))) _ (lv_sub hl [1, 2, 3, 4, 5, 0] rfl)
                          · skip
                            have c_506' : r_505.toInt = 45 := jb_ne_n (rfl) ((by decide)) c_506
                            first | replace hr_505_2 := hr_505_2.resolve_left (by omega) | replace hr_505_2 := hr_505_2.resolve_right (by omega) | skip
                            refine lv_aload_n hx hb dX14_readNumber_224 rfl (lv_at hl 1 rfl) ?_
                            refine lv_dup hx hb dX14_readNumber_225 rfl ?_
                            refine j7_read hx hb hown hK (C := RX14) (T := TX14) (N := 74) rfl hly_16_29 (hts (.fieldLink RX14 273 "ProofServerModel" "at" "I") (by decide +kernel)) (hh_504.at 0 rfl) dX14_readNumber_226 ?_
                            refine lv_iconst (v := 1) hx hb dX14_readNumber_229 (by decide) ?_
                            refine lv_iadd hx hb dX14_readNumber_230 ?_
                            refine lv_topi (fun z_507 ez_507 => ?_)
                            have hz_507 : z_507.toInt = z_491.toInt + 1 := by rw [ez_507]; exact jb_iadd2 (rfl) ((by decide)) (by omega)
                            refine j7_put hx hb hown hK hh_504 hB hAp hB16 (C := RX14) (T := TX14) (N := 74) rfl (by decide) hg_r0 (i := 29) (by decide) hly_16_29 rfl (hts (.fieldLink RX14 273 "ProofServerModel" "at" "I") (by decide +kernel)) rfl (ty := .int) (v := .int z_507) (by decide +kernel) rfl rfl (⟨_, rfl, by omega, by omega⟩) rfl (L1 := [(r0, 16, 31, .int wb_468), (r0, 16, 9, .ref kept_384), (r0, 16, 26, .int qn_1), (r0, 16, 30, .int pe)]) [1, 2, 3, 4] rfl rfl rfl dX14_readNumber_231 (fun H_508 locs_508 hh_508 => ?_)
                            clear hh_504
                            exact C234 z_507 _ _ hh_508 (by first | omega | (refine ⟨?_, ?_, ?_⟩ <;> (first | omega | rfl | assumption | decide | exact Or.inl rfl | exact Or.inr rfl | (simp only; omega)))) _ (lv_sub hl [1, 2, 3, 4, 5, 0] rfl)
                      · skip
                        have c_490' : r_489.toInt ≠ 101 := jb_eq_n (rfl) ((by decide)) c_490
                        first | replace hr_489_2 := hr_489_2.resolve_left (by omega) | replace hr_489_2 := hr_489_2.resolve_right (by omega) | skip
                        refine lv_aload_n hx hb dX14_readNumber_184 rfl (lv_at hl 0 rfl) ?_
                        refine va_calli (A0 := jA base) (H0 := s.heap) (va_runV (As := []) (rest := []) ⟨hx, hb, hml, hown, hts⟩ (uX14_here l dC dI ca base B hB hAp hB16 hB110 G0 H_488 r0 wt_468 pe) (cwV 0 hts gX14_readNumber_X14_here rfl rfl rfl (by decide +kernel) ⟨by rw [← hR]; exact Nat.le_of_ble_eq_true rfl, by rw [← hR]; exact Nat.le_of_ble_eq_true rfl⟩) ⟨fun a U g mk q => by obtain ⟨q0, q1, q2, qK, q10, q11, q12⟩ := q; exact ⟨q0, q1, q2, jG.calling g mk a qK, q10, q11, q12⟩, hh_488.recv (C := RX14) (T := TX14) (N := 74) hB16 rfl (by decide) hg_r0 hK, fun U hU hW => ⟨rfl, hU, hh_488.2.1, hG.step hW hU hh_488.1, hg_r0, (hh_488.2.2.1.sub (L1 := [(r0, 16, 29, .int wt_468), (r0, 16, 30, .int pe)]) [0, 4] rfl), by first | omega | (refine ⟨?_, ?_, ?_, ?_⟩ <;> (first | omega | rfl | assumption | decide | exact Or.inl rfl | exact Or.inr rfl | (simp only; omega)))⟩⟩ rfl rfl hl.1 rfl (lv_room (Nat.le_of_ble_eq_true rfl)) dX14_readNumber_185 ⟨Nat.zero_le _, Nat.zero_le _⟩) hh_488.1 (fun q _ h => h) (fun q h => h) (fun r_510 u_509 t_509 H_509 locs_509 ht_509 hvm_509 hr_510 hb_509 hz_509 hk_509 hS_509 => ?_)
                        rw [ht_509] at hb_509
                        obtain ⟨hb_5091, hb_5092, hb_5093, hb_5094, hb_5095⟩ := hb_509
                        have hh_509 : jSt (dC, dI) B base G0 G0 EX14_readNumber s.heap 0 0 [(r0, 16, 29, .int wt_468), (r0, 16, 31, .int wb_468), (r0, 16, 9, .ref kept_384), (r0, 16, 26, .int qn_1), (r0, 16, 30, .int pe)] [] [] H_509 locs_509 := (hh_488.call hb_5091 hb_5092 hb_5093 hb_5094 hS_509 rfl (L1 := [(r0, 16, 29, .int wt_468), (r0, 16, 31, .int wb_468), (r0, 16, 9, .ref kept_384), (r0, 16, 26, .int qn_1), (r0, 16, 30, .int pe)]) [0, 1, 2, 3, 4] rfl rfl (M1 := []) [] rfl rfl (I1 := []) [] rfl rfl).more hb_5095
                        clear hh_488 ht_509 hvm_509 hz_509 hk_509 hS_509 hb_5091 hb_5092 hb_5093 hb_5094 hb_5095
                        obtain ⟨hr_510_0, hr_510_1, hr_510_2⟩ := hr_510
                        refine lv_bipush (v := 69) hx hb dX14_readNumber_188 (by decide) ?_
                        refine lv_icmp_ne (tgt := 238) hx hb dX14_readNumber_190 (by decide) (fun c_511 => ?_) (fun c_511 => ?_)
                        · skip
                          have c_511' : r_510.toInt ≠ 69 := jb_ne (rfl) ((by decide)) c_511
                          first | replace hr_510_2 := hr_510_2.resolve_left (by omega) | replace hr_510_2 := hr_510_2.resolve_right (by omega) | skip
                          exact C238 v6_468 wt_468 wb_468 _ _ hh_509 (hb_v6_468) (by first | omega | (refine ⟨?_, ?_, ?_⟩ <;> (first | omega | rfl | assumption | decide | exact Or.inl rfl | exact Or.inr rfl | (simp only; omega)))) _ (lv_sub hl [0, 1, 2, 3, 4, 5] rfl)
                        · skip
                          have c_511' : r_510.toInt = 69 := jb_ne_n (rfl) ((by decide)) c_511
                          first | replace hr_510_2 := hr_510_2.resolve_left (by omega) | replace hr_510_2 := hr_510_2.resolve_right (by omega) | skip
                          refine lv_iconst (v := 0) hx hb dX14_readNumber_193 (by decide) ?_
                          refine lv_istore (lv' := [(6, .int 0), (0, .ref r0), (1, .int r_2), (2, .int 1), (3, .int wt_310), (4, .long v4_311)]) hx hb dX14_readNumber_194 hl (by decide) rfl (fun ls hl => ?_)
                          refine lv_aload_n hx hb dX14_readNumber_196 rfl (lv_at hl 1 rfl) ?_
                          refine lv_dup hx hb dX14_readNumber_197 rfl ?_
                          refine j7_read hx hb hown hK (C := RX14) (T := TX14) (N := 74) rfl hly_16_29 (hts (.fieldLink RX14 273 "ProofServerModel" "at" "I") (by decide +kernel)) (hh_509.at 0 rfl) dX14_readNumber_198 ?_
                          refine lv_iconst (v := 1) hx hb dX14_readNumber_201 (by decide) ?_
                          refine lv_iadd hx hb dX14_readNumber_202 ?_
                          refine lv_topi (fun z_512 ez_512 => ?_)
                          have hz_512 : z_512.toInt = wt_468.toInt + 1 := by rw [ez_512]; exact jb_iadd2 (rfl) ((by decide)) (by omega)
                          refine j7_put hx hb hown hK hh_509 hB hAp hB16 (C := RX14) (T := TX14) (N := 74) rfl (by decide) hg_r0 (i := 29) (by decide) hly_16_29 rfl (hts (.fieldLink RX14 273 "ProofServerModel" "at" "I") (by decide +kernel)) rfl (ty := .int) (v := .int z_512) (by decide +kernel) rfl rfl (⟨_, rfl, by omega, by omega⟩) rfl (L1 := [(r0, 16, 31, .int wb_468), (r0, 16, 9, .ref kept_384), (r0, 16, 26, .int qn_1), (r0, 16, 30, .int pe)]) [1, 2, 3, 4] rfl rfl rfl dX14_readNumber_203 (fun H_513 locs_513 hh_513 => ?_)
                          clear hh_509
                          refine lv_aload_n hx hb dX14_readNumber_206 rfl (lv_at hl 1 rfl) ?_
                          refine va_calli (A0 := jA base) (H0 := s.heap) (va_runV (As := []) (rest := []) ⟨hx, hb, hml, hown, hts⟩ (uX14_here l dC dI ca base B hB hAp hB16 hB110 G0 H_513 r0 z_512 pe) (cwV 0 hts gX14_readNumber_X14_here rfl rfl rfl (by decide +kernel) ⟨by rw [← hR]; exact Nat.le_of_ble_eq_true rfl, by rw [← hR]; exact Nat.le_of_ble_eq_true rfl⟩) ⟨fun a U g mk q => by obtain ⟨q0, q1, q2, qK, q10, q11, q12⟩ := q; exact ⟨q0, q1, q2, jG.calling g mk a qK, q10, q11, q12⟩, hh_513.recv (C := RX14) (T := TX14) (N := 74) hB16 rfl (by decide) hg_r0 hK, fun U hU hW => ⟨rfl, hU, hh_513.2.1, hG.step hW hU hh_513.1, hg_r0, (hh_513.2.2.1.sub (L1 := [(r0, 16, 29, .int z_512), (r0, 16, 30, .int pe)]) [0, 4] rfl), by first | omega | (refine ⟨?_, ?_, ?_, ?_⟩ <;> (first | omega | rfl | assumption | decide | exact Or.inl rfl | exact Or.inr rfl | (simp only; omega)))⟩⟩ rfl rfl hl.1 rfl (lv_room (Nat.le_of_ble_eq_true rfl)) dX14_readNumber_207 ⟨Nat.zero_le _, Nat.zero_le _⟩) hh_513.1 (fun q _ h => h) (fun q h => h) (fun r_515 u_514 t_514 H_514 locs_514 ht_514 hvm_514 hr_515 hb_514 hz_514 hk_514 hS_514 => ?_)
                          rw [ht_514] at hb_514
                          obtain ⟨hb_5141, hb_5142, hb_5143, hb_5144, hb_5145⟩ := hb_514
                          have hh_514 : jSt (dC, dI) B base G0 G0 EX14_readNumber s.heap 0 0 [(r0, 16, 29, .int z_512), (r0, 16, 31, .int wb_468), (r0, 16, 9, .ref kept_384), (r0, 16, 26, .int qn_1), (r0, 16, 30, .int pe)] [] [] H_514 locs_514 := (hh_513.call hb_5141 hb_5142 hb_5143 hb_5144 hS_514 rfl (L1 := [(r0, 16, 29, .int z_512), (r0, 16, 31, .int wb_468), (r0, 16, 9, .ref kept_384), (r0, 16, 26, .int qn_1), (r0, 16, 30, .int pe)]) [0, 1, 2, 3, 4] rfl rfl (M1 := []) [] rfl rfl (I1 := []) [] rfl rfl).more hb_5145
                          clear hh_513 ht_514 hvm_514 hz_514 hk_514 hS_514 hb_5141 hb_5142 hb_5143 hb_5144 hb_5145
                          obtain ⟨hr_515_0, hr_515_1, hr_515_2⟩ := hr_515
                          refine lv_bipush (v := 43) hx hb dX14_readNumber_210 (by decide) ?_
                          have C234 : ∀ (wt_516 : Int32) (H_516 : Heap) (locs_516 : List Loc), jSt (dC, dI) B base G0 G0 EX14_readNumber s.heap 0 0 [(r0, 16, 29, .int wt_516), (r0, 16, 31, .int wb_468), (r0, 16, 9, .ref kept_384), (r0, 16, 26, .int qn_1), (r0, 16, 30, .int pe)] [] [] H_516 locs_516 → (pt.toInt ≤ wt_516.toInt ∧ wt_516.toInt ≤ pe.toInt ∧ pt.toInt + 1 ≤ wt_516.toInt) → ∀ ls : Array Slot, lv_has ls 9 [(0, .ref r0), (1, .int r_2), (2, .int 1), (3, .int wt_310), (4, .long v4_311), (6, .int 0)] → W p l e R s m ([.ref r0] : List Value).toArray below meth c H_516 locs_516 0 0 Q (F0 m 234 ls []) := by
                            intro wt_516 H_516 locs_516 hh_516  hi_516 ls hl
                            obtain ⟨hi_516_0, hi_516_1, hi_516_2⟩ := hi_516
                            clear hr_489_2 hr_510_2 hr_515_2
                            refine lv_aload_n hx hb dX14_readNumber_234 rfl (lv_at hl 0 rfl) ?_
                            refine va_callv (A0 := jA base) (H0 := s.heap) (va_runV (As := []) (rest := []) ⟨hx, hb, hml, hown, hts⟩ (uX14_digits l dC dI ca base B hB hAp hB16 hB110 G0 H_516 r0 wt_516 pe) (cwV 0 hts gX14_readNumber_X14_digits rfl rfl rfl (by decide +kernel) ⟨by rw [← hR]; exact Nat.le_of_ble_eq_true rfl, by rw [← hR]; exact Nat.le_of_ble_eq_true rfl⟩) ⟨fun a U g mk q => by obtain ⟨q0, q1, q2, qK, q10, q11, q12⟩ := q; exact ⟨q0, q1, q2, jG.calling g mk a qK, q10, q11, q12⟩, hh_516.recv (C := RX14) (T := TX14) (N := 74) hB16 rfl (by decide) hg_r0 hK, fun U hU hW => ⟨rfl, hU, hh_516.2.1, hG.step hW hU hh_516.1, hg_r0, (hh_516.2.2.1.sub (L1 := [(r0, 16, 29, .int wt_516), (r0, 16, 30, .int pe)]) [0, 4] rfl), by first | omega | (refine ⟨?_, ?_, ?_, ?_, ?_⟩ <;> (first | omega | rfl | assumption | decide | exact Or.inl rfl | exact Or.inr rfl | (simp only; omega)))⟩⟩ rfl rfl hl.1 rfl (lv_room (Nat.le_of_ble_eq_true rfl)) dX14_readNumber_235 ⟨Nat.zero_le _, Nat.zero_le _⟩) hh_516.1 (fun q _ h => h) (fun q h => h) (fun u_517 t_517 H_517 locs_517 ht_517 hvm_517 hr_518 hb_517 hz_517 hk_517 hS_517 => ?_)
                            obtain ⟨qt_517, rfl⟩ : ∃ z, z = u_517 := ⟨_, rfl⟩
                            rw [ht_517] at hb_517
                            obtain ⟨hb_5171, hb_5172, hb_5173, hb_5174, hb_5175⟩ := hb_517
                            have hh_517 : jSt (dC, dI) B base G0 G0 EX14_readNumber s.heap 0 0 [(r0, 16, 29, .int qt_517), (r0, 16, 9, .ref kept_384), (r0, 16, 26, .int qn_1), (r0, 16, 30, .int pe)] [] [] H_517 locs_517 := (hh_516.call hb_5171 hb_5172 hb_5173 hb_5174 hS_517 rfl (L1 := [(r0, 16, 9, .ref kept_384), (r0, 16, 26, .int qn_1), (r0, 16, 30, .int pe)]) [2, 3, 4] rfl rfl (M1 := []) [] rfl rfl (I1 := []) [] rfl rfl).more hb_5175
                            clear hh_516 ht_517 hvm_517 hz_517 hk_517 hS_517 hb_5171 hb_5172 hb_5173 hb_5174 hb_5175
                            obtain ⟨hr_518_0, hr_518_1⟩ := hr_518
                            obtain ⟨v_519, hv_519, hh_520⟩ := hh_517.pin (C := RX14) (T := TX14) (N := 74) hB16 rfl (by decide) hg_r0 (i := 31) (by decide) rfl
                            obtain ⟨bad_521, rfl, hzbad_521⟩ := hv_519
                            have hzbad_521' := jb_01 hzbad_521
                            exact C238 0 qt_517 bad_521 _ _ (hh_520.sub (L1 := [(r0, 16, 29, .int qt_517), (r0, 16, 31, .int bad_521), (r0, 16, 9, .ref kept_384), (r0, 16, 26, .int qn_1), (r0, 16, 30, .int pe)]) [1, 0, 2, 3, 4] rfl (M1 := []) [] rfl (I1 := []) [] rfl) (Or.inl rfl) (by first | omega | (refine ⟨?_, ?_, ?_⟩ <;> (first | omega | rfl | assumption | decide | exact Or.inl rfl | exact Or.inr rfl | (simp only; omega)))) _ (lv_sub hl [0, 1, 2, 3, 4, 5] rfl)
                          refine lv_icmp_eq (tgt := 224) hx hb dX14_readNumber_212 (by decide) (fun c_522 => ?_) (fun c_522 => ?_)
                          · skip
                            have c_522' : r_515.toInt = 43 := jb_eq (rfl) ((by decide)) c_522
                            first | replace hr_515_2 := hr_515_2.resolve_left (by omega) | replace hr_515_2 := hr_515_2.resolve_right (by omega) | skip
                            refine lv_aload_n hx hb dX14_readNumber_224 rfl (lv_at hl 1 rfl) ?_
                            refine lv_dup hx hb dX14_readNumber_225 rfl ?_
                            refine j7_read hx hb hown hK (C := RX14) (T := TX14) (N := 74) rfl hly_16_29 (hts (.fieldLink RX14 273 "ProofServerModel" "at" "I") (by decide +kernel)) (hh_514.at 0 rfl) dX14_readNumber_226 ?_
                            refine lv_iconst (v := 1) hx hb dX14_readNumber_229 (by decide) ?_
                            refine lv_iadd hx hb dX14_readNumber_230 ?_
                            refine lv_topi (fun z_523 ez_523 => ?_)
                            have hz_523 : z_523.toInt = z_512.toInt + 1 := by rw [ez_523]; exact jb_iadd2 (rfl) ((by decide)) (by omega)
                            refine j7_put hx hb hown hK hh_514 hB hAp hB16 (C := RX14) (T := TX14) (N := 74) rfl (by decide) hg_r0 (i := 29) (by decide) hly_16_29 rfl (hts (.fieldLink RX14 273 "ProofServerModel" "at" "I") (by decide +kernel)) rfl (ty := .int) (v := .int z_523) (by decide +kernel) rfl rfl (⟨_, rfl, by omega, by omega⟩) rfl (L1 := [(r0, 16, 31, .int wb_468), (r0, 16, 9, .ref kept_384), (r0, 16, 26, .int qn_1), (r0, 16, 30, .int pe)]) [1, 2, 3, 4] rfl rfl rfl dX14_readNumber_231 (fun H_524 locs_524 hh_524 => ?_)
                            clear hh_514
                            exact C234 z_523 _ _ hh_524 (by first | omega | (refine ⟨?_, ?_, ?_⟩ <;> (first | omega | rfl | assumption | decide | exact Or.inl rfl | exact Or.inr rfl | (simp only; omega)))) _ (lv_sub hl [1, 2, 3, 4, 5, 0] rfl)
                          · skip
                            have c_522' : r_515.toInt ≠ 43 := jb_eq_n (rfl) ((by decide)) c_522
                            first | replace hr_515_2 := hr_515_2.resolve_left (by omega) | replace hr_515_2 := hr_515_2.resolve_right (by omega) | skip
                            refine lv_aload_n hx hb dX14_readNumber_215 rfl (lv_at hl 1 rfl) ?_
                            refine va_calli (A0 := jA base) (H0 := s.heap) (va_runV (As := []) (rest := []) ⟨hx, hb, hml, hown, hts⟩ (uX14_here l dC dI ca base B hB hAp hB16 hB110 G0 H_514 r0 z_512 pe) (cwV 0 hts gX14_readNumber_X14_here rfl rfl rfl (by decide +kernel) ⟨by rw [← hR]; exact Nat.le_of_ble_eq_true rfl, by rw [← hR]; exact Nat.le_of_ble_eq_true rfl⟩) ⟨fun a U g mk q => by obtain ⟨q0, q1, q2, qK, q10, q11, q12⟩ := q; exact ⟨q0, q1, q2, jG.calling g mk a qK, q10, q11, q12⟩, hh_514.recv (C := RX14) (T := TX14) (N := 74) hB16 rfl (by decide) hg_r0 hK, fun U hU hW => ⟨rfl, hU, hh_514.2.1, hG.step hW hU hh_514.1, hg_r0, (hh_514.2.2.1.sub (L1 := [(r0, 16, 29, .int z_512), (r0, 16, 30, .int pe)]) [0, 4] rfl), by first | omega | (refine ⟨?_, ?_, ?_, ?_⟩ <;> (first | omega | rfl | assumption | decide | exact Or.inl rfl | exact Or.inr rfl | (simp only; omega)))⟩⟩ rfl rfl hl.1 rfl (lv_room (Nat.le_of_ble_eq_true rfl)) dX14_readNumber_216 ⟨Nat.zero_le _, Nat.zero_le _⟩) hh_514.1 (fun q _ h => h) (fun q h => h) (fun r_526 u_525 t_525 H_525 locs_525 ht_525 hvm_525 hr_526 hb_525 hz_525 hk_525 hS_525 => ?_)
                            rw [ht_525] at hb_525
                            obtain ⟨hb_5251, hb_5252, hb_5253, hb_5254, hb_5255⟩ := hb_525
                            have hh_525 : jSt (dC, dI) B base G0 G0 EX14_readNumber s.heap 0 0 [(r0, 16, 29, .int z_512), (r0, 16, 31, .int wb_468), (r0, 16, 9, .ref kept_384), (r0, 16, 26, .int qn_1), (r0, 16, 30, .int pe)] [] [] H_525 locs_525 := (hh_514.call hb_5251 hb_5252 hb_5253 hb_5254 hS_525 rfl (L1 := [(r0, 16, 29, .int z_512), (r0, 16, 31, .int wb_468), (r0, 16, 9, .ref kept_384), (r0, 16, 26, .int qn_1), (r0, 16, 30, .int pe)]) [0, 1, 2, 3, 4] rfl rfl (M1 := []) [] rfl rfl (I1 := []) [] rfl rfl).more hb_5255
                            clear hh_514 ht_525 hvm_525 hz_525 hk_525 hS_525 hb_5251 hb_5252 hb_5253 hb_5254 hb_5255
                            obtain ⟨hr_526_0, hr_526_1, hr_526_2⟩ := hr_526
                            refine lv_bipush (v := 45) hx hb dX14_readNumber_219 (by decide) ?_
                            refine lv_icmp_ne (tgt := 234) hx hb dX14_readNumber_221 (by decide) (fun c_527 => ?_) (fun c_527 => ?_)
                            · skip
                              have c_527' : r_526.toInt ≠ 45 := jb_ne (rfl) ((by decide)) c_527
                              first | replace hr_526_2 := hr_526_2.resolve_left (by omega) | replace hr_526_2 := hr_526_2.resolve_right (by omega) | skip
                              exact C234 z_512 _ _ hh_525 (by first | omega | (refine ⟨?_, ?_, ?_⟩ <;> (first | omega | rfl | assumption | decide | exact Or.inl rfl | exact Or.inr rfl | (simp only; omega)))) _ (lv_sub hl [1, 2, 3, 4, 5, 0] rfl)
                            · skip
                              have c_527' : r_526.toInt = 45 := jb_ne_n (rfl) ((by decide)) c_527
                              first | replace hr_526_2 := hr_526_2.resolve_left (by omega) | replace hr_526_2 := hr_526_2.resolve_right (by omega) | skip
                              refine lv_aload_n hx hb dX14_readNumber_224 rfl (lv_at hl 1 rfl) ?_
                              refine lv_dup hx hb dX14_readNumber_225 rfl ?_
                              refine j7_read hx hb hown hK (C := RX14) (T := TX14) (N := 74) rfl hly_16_29 (hts (.fieldLink RX14 273 "ProofServerModel" "at" "I") (by decide +kernel)) (hh_525.at 0 rfl) dX14_readNumber_226 ?_
                              refine lv_iconst (v := 1) hx hb dX14_readNumber_229 (by decide) ?_
                              refine lv_iadd hx hb dX14_readNumber_230 ?_
                              refine lv_topi (fun z_528 ez_528 => ?_)
                              have hz_528 : z_528.toInt = z_512.toInt + 1 := by rw [ez_528]; exact jb_iadd2 (rfl) ((by decide)) (by omega)
                              refine j7_put hx hb hown hK hh_525 hB hAp hB16 (C := RX14) (T := TX14) (N := 74) rfl (by decide) hg_r0 (i := 29) (by decide) hly_16_29 rfl (hts (.fieldLink RX14 273 "ProofServerModel" "at" "I") (by decide +kernel)) rfl (ty := .int) (v := .int z_528) (by decide +kernel) rfl rfl (⟨_, rfl, by omega, by omega⟩) rfl (L1 := [(r0, 16, 31, .int wb_468), (r0, 16, 9, .ref kept_384), (r0, 16, 26, .int qn_1), (r0, 16, 30, .int pe)]) [1, 2, 3, 4] rfl rfl rfl dX14_readNumber_231 (fun H_529 locs_529 hh_529 => ?_)
                              clear hh_525
                              exact C234 z_528 _ _ hh_529 (by first | omega | (refine ⟨?_, ?_, ?_⟩ <;> (first | omega | rfl | assumption | decide | exact Or.inl rfl | exact Or.inr rfl | (simp only; omega)))) _ (lv_sub hl [1, 2, 3, 4, 5, 0] rfl)
                  refine lv_if_ne (tgt := 168) hx hb dX14_readNumber_139 (by decide) (fun c_530 => ?_) (fun c_530 => ?_)
                  · skip
                    have c_530' : bad_467.toInt ≠ 0 := jb_ne (rfl) ((by decide)) c_530
                    exact C168 1 wt_311 bad_467 _ _ (hh_466.sub (L1 := [(r0, 16, 29, .int wt_311), (r0, 16, 31, .int bad_467), (r0, 16, 9, .ref kept_384), (r0, 16, 26, .int qn_1), (r0, 16, 30, .int pe)]) [2, 0, 1, 3, 4] rfl (M1 := []) [] rfl (I1 := []) [] rfl) (Or.inr rfl) (by first | omega | (refine ⟨?_, ?_, ?_⟩ <;> (first | omega | rfl | assumption | decide | exact Or.inl rfl | exact Or.inr rfl | (simp only; omega)))) _ (lv_sub hl [1, 2, 3, 4, 5, 0] rfl)
                  · skip
                    have c_530' : bad_467.toInt = 0 := jb_ne_n (rfl) ((by decide)) c_530
                    refine lv_aload_n hx hb dX14_readNumber_142 rfl (lv_at hl 1 rfl) ?_
                    refine va_calli (A0 := jA base) (H0 := s.heap) (va_runV (As := []) (rest := []) ⟨hx, hb, hml, hown, hts⟩ (uX14_here l dC dI ca base B hB hAp hB16 hB110 G0 H_314 r0 wt_311 pe) (cwV 0 hts gX14_readNumber_X14_here rfl rfl rfl (by decide +kernel) ⟨by rw [← hR]; exact Nat.le_of_ble_eq_true rfl, by rw [← hR]; exact Nat.le_of_ble_eq_true rfl⟩) ⟨fun a U g mk q => by obtain ⟨q0, q1, q2, qK, q10, q11, q12⟩ := q; exact ⟨q0, q1, q2, jG.calling g mk a qK, q10, q11, q12⟩, hh_466.recv (C := RX14) (T := TX14) (N := 74) hB16 rfl (by decide) hg_r0 hK, fun U hU hW => ⟨rfl, hU, hh_466.2.1, hG.step hW hU hh_466.1, hg_r0, (hh_466.2.2.1.sub (L1 := [(r0, 16, 29, .int wt_311), (r0, 16, 30, .int pe)]) [2, 4] rfl), by first | omega | (refine ⟨?_, ?_, ?_, ?_⟩ <;> (first | omega | rfl | assumption | decide | exact Or.inl rfl | exact Or.inr rfl | (simp only; omega)))⟩⟩ rfl rfl hl.1 rfl (lv_room (Nat.le_of_ble_eq_true rfl)) dX14_readNumber_143 ⟨Nat.zero_le _, Nat.zero_le _⟩) hh_466.1 (fun q _ h => h) (fun q h => h) (fun r_532 u_531 t_531 H_531 locs_531 ht_531 hvm_531 hr_532 hb_531 hz_531 hk_531 hS_531 => ?_)
                    rw [ht_531] at hb_531
                    obtain ⟨hb_5311, hb_5312, hb_5313, hb_5314, hb_5315⟩ := hb_531
                    have hh_531 : jSt (dC, dI) B base G0 G0 EX14_readNumber s.heap 0 0 [(r0, 16, 31, .int bad_467), (r0, 16, 9, .ref kept_384), (r0, 16, 29, .int wt_311), (r0, 16, 26, .int qn_1), (r0, 16, 30, .int pe)] [] [] H_531 locs_531 := (hh_466.call hb_5311 hb_5312 hb_5313 hb_5314 hS_531 rfl (L1 := [(r0, 16, 31, .int bad_467), (r0, 16, 9, .ref kept_384), (r0, 16, 29, .int wt_311), (r0, 16, 26, .int qn_1), (r0, 16, 30, .int pe)]) [0, 1, 2, 3, 4] rfl rfl (M1 := []) [] rfl rfl (I1 := []) [] rfl rfl).more hb_5315
                    clear hh_466 ht_531 hvm_531 hz_531 hk_531 hS_531 hb_5311 hb_5312 hb_5313 hb_5314 hb_5315
                    obtain ⟨hr_532_0, hr_532_1, hr_532_2⟩ := hr_532
                    refine lv_bipush (v := 46) hx hb dX14_readNumber_146 (by decide) ?_
                    refine lv_icmp_ne (tgt := 168) hx hb dX14_readNumber_148 (by decide) (fun c_533 => ?_) (fun c_533 => ?_)
                    · skip
                      have c_533' : r_532.toInt ≠ 46 := jb_ne (rfl) ((by decide)) c_533
                      first | replace hr_532_2 := hr_532_2.resolve_left (by omega) | replace hr_532_2 := hr_532_2.resolve_right (by omega) | skip
                      exact C168 1 wt_311 bad_467 _ _ (hh_531.sub (L1 := [(r0, 16, 29, .int wt_311), (r0, 16, 31, .int bad_467), (r0, 16, 9, .ref kept_384), (r0, 16, 26, .int qn_1), (r0, 16, 30, .int pe)]) [2, 0, 1, 3, 4] rfl (M1 := []) [] rfl (I1 := []) [] rfl) (Or.inr rfl) (by first | omega | (refine ⟨?_, ?_, ?_⟩ <;> (first | omega | rfl | assumption | decide | exact Or.inl rfl | exact Or.inr rfl | (simp only; omega)))) _ (lv_sub hl [1, 2, 3, 4, 5, 0] rfl)
                    · skip
                      have c_533' : r_532.toInt = 46 := jb_ne_n (rfl) ((by decide)) c_533
                      first | replace hr_532_2 := hr_532_2.resolve_left (by omega) | replace hr_532_2 := hr_532_2.resolve_right (by omega) | skip
                      refine lv_iconst (v := 0) hx hb dX14_readNumber_151 (by decide) ?_
                      refine lv_istore (lv' := [(6, .int 0), (0, .ref r0), (1, .int r_2), (2, .int 1), (3, .int wt_310), (4, .long v4_311)]) hx hb dX14_readNumber_152 hl (by decide) rfl (fun ls hl => ?_)
                      refine lv_aload_n hx hb dX14_readNumber_154 rfl (lv_at hl 1 rfl) ?_
                      refine lv_dup hx hb dX14_readNumber_155 rfl ?_
                      refine j7_read hx hb hown hK (C := RX14) (T := TX14) (N := 74) rfl hly_16_29 (hts (.fieldLink RX14 273 "ProofServerModel" "at" "I") (by decide +kernel)) (hh_531.at 2 rfl) dX14_readNumber_156 ?_
                      refine lv_iconst (v := 1) hx hb dX14_readNumber_159 (by decide) ?_
                      refine lv_iadd hx hb dX14_readNumber_160 ?_
                      refine lv_topi (fun z_534 ez_534 => ?_)
                      have hz_534 : z_534.toInt = wt_311.toInt + 1 := by rw [ez_534]; exact jb_iadd2 (rfl) ((by decide)) (by omega)
                      refine j7_put hx hb hown hK hh_531 hB hAp hB16 (C := RX14) (T := TX14) (N := 74) rfl (by decide) hg_r0 (i := 29) (by decide) hly_16_29 rfl (hts (.fieldLink RX14 273 "ProofServerModel" "at" "I") (by decide +kernel)) rfl (ty := .int) (v := .int z_534) (by decide +kernel) rfl rfl (⟨_, rfl, by omega, by omega⟩) rfl (L1 := [(r0, 16, 31, .int bad_467), (r0, 16, 9, .ref kept_384), (r0, 16, 26, .int qn_1), (r0, 16, 30, .int pe)]) [0, 1, 3, 4] rfl rfl rfl dX14_readNumber_161 (fun H_535 locs_535 hh_535 => ?_)
                      clear hh_531
                      refine lv_aload_n hx hb dX14_readNumber_164 rfl (lv_at hl 1 rfl) ?_
                      refine va_callv (A0 := jA base) (H0 := s.heap) (va_runV (As := []) (rest := []) ⟨hx, hb, hml, hown, hts⟩ (uX14_digits l dC dI ca base B hB hAp hB16 hB110 G0 H_535 r0 z_534 pe) (cwV 0 hts gX14_readNumber_X14_digits rfl rfl rfl (by decide +kernel) ⟨by rw [← hR]; exact Nat.le_of_ble_eq_true rfl, by rw [← hR]; exact Nat.le_of_ble_eq_true rfl⟩) ⟨fun a U g mk q => by obtain ⟨q0, q1, q2, qK, q10, q11, q12⟩ := q; exact ⟨q0, q1, q2, jG.calling g mk a qK, q10, q11, q12⟩, hh_535.recv (C := RX14) (T := TX14) (N := 74) hB16 rfl (by decide) hg_r0 hK, fun U hU hW => ⟨rfl, hU, hh_535.2.1, hG.step hW hU hh_535.1, hg_r0, (hh_535.2.2.1.sub (L1 := [(r0, 16, 29, .int z_534), (r0, 16, 30, .int pe)]) [0, 4] rfl), by first | omega | (refine ⟨?_, ?_, ?_, ?_, ?_⟩ <;> (first | omega | rfl | assumption | decide | exact Or.inl rfl | exact Or.inr rfl | (simp only; omega)))⟩⟩ rfl rfl hl.1 rfl (lv_room (Nat.le_of_ble_eq_true rfl)) dX14_readNumber_165 ⟨Nat.zero_le _, Nat.zero_le _⟩) hh_535.1 (fun q _ h => h) (fun q h => h) (fun u_536 t_536 H_536 locs_536 ht_536 hvm_536 hr_537 hb_536 hz_536 hk_536 hS_536 => ?_)
                      obtain ⟨qt_536, rfl⟩ : ∃ z, z = u_536 := ⟨_, rfl⟩
                      rw [ht_536] at hb_536
                      obtain ⟨hb_5361, hb_5362, hb_5363, hb_5364, hb_5365⟩ := hb_536
                      have hh_536 : jSt (dC, dI) B base G0 G0 EX14_readNumber s.heap 0 0 [(r0, 16, 29, .int qt_536), (r0, 16, 9, .ref kept_384), (r0, 16, 26, .int qn_1), (r0, 16, 30, .int pe)] [] [] H_536 locs_536 := (hh_535.call hb_5361 hb_5362 hb_5363 hb_5364 hS_536 rfl (L1 := [(r0, 16, 9, .ref kept_384), (r0, 16, 26, .int qn_1), (r0, 16, 30, .int pe)]) [2, 3, 4] rfl rfl (M1 := []) [] rfl rfl (I1 := []) [] rfl rfl).more hb_5365
                      clear hh_535 ht_536 hvm_536 hz_536 hk_536 hS_536 hb_5361 hb_5362 hb_5363 hb_5364 hb_5365
                      obtain ⟨hr_537_0, hr_537_1⟩ := hr_537
                      obtain ⟨v_538, hv_538, hh_539⟩ := hh_536.pin (C := RX14) (T := TX14) (N := 74) hB16 rfl (by decide) hg_r0 (i := 31) (by decide) rfl
                      obtain ⟨bad_540, rfl, hzbad_540⟩ := hv_538
                      have hzbad_540' := jb_01 hzbad_540
                      exact C168 0 qt_536 bad_540 _ _ (hh_539.sub (L1 := [(r0, 16, 29, .int qt_536), (r0, 16, 31, .int bad_540), (r0, 16, 9, .ref kept_384), (r0, 16, 26, .int qn_1), (r0, 16, 30, .int pe)]) [1, 0, 2, 3, 4] rfl (M1 := []) [] rfl (I1 := []) [] rfl) (Or.inl rfl) (by first | omega | (refine ⟨?_, ?_, ?_⟩ <;> (first | omega | rfl | assumption | decide | exact Or.inl rfl | exact Or.inr rfl | (simp only; omega)))) _ (lv_sub hl [1, 2, 3, 4, 5, 0] rfl)
                · skip
                  have c_464' : z_463.toInt > 1 := jb_le_n (rfl) ((by decide)) c_464
                  refine lv_aload_n hx hb dX14_readNumber_127 rfl (lv_at hl 0 rfl) ?_
                  refine lv_iconst (v := 1) hx hb dX14_readNumber_128 (by decide) ?_
                  refine j7_put hx hb hown hK hh_383 hB hAp hB16 (C := RX14) (T := TX14) (N := 74) rfl (by decide) hg_r0 (i := 31) (by decide) hly_16_31 rfl (hts (.fieldLink RX14 288 "ProofServerModel" "bad" "Z") (by decide +kernel)) rfl (ty := .boolean) (v := .int 1) (by decide +kernel) (jb_nz (Or.inr rfl)) (jb_fz (Or.inr rfl)) (⟨_, rfl, (Or.inr rfl)⟩) rfl (L1 := [(r0, 16, 9, .ref kept_384), (r0, 16, 29, .int wt_311), (r0, 16, 26, .int qn_1), (r0, 16, 30, .int pe)]) [0, 1, 2, 3] rfl rfl rfl dX14_readNumber_129 (fun H_541 locs_541 hh_541 => ?_)
                  clear hh_383
                  refine lv_iconst (v := 1) hx hb dX14_readNumber_132 (by decide) ?_
                  refine lv_istore (lv' := [(6, .int 1), (0, .ref r0), (1, .int r_2), (2, .int 1), (3, .int wt_310), (4, .long v4_311)]) hx hb dX14_readNumber_133 hl (by decide) rfl (fun ls hl => ?_)
                  refine lv_aload_n hx hb dX14_readNumber_135 rfl (lv_at hl 1 rfl) ?_
                  refine j7_read hx hb hown hK (C := RX14) (T := TX14) (N := 74) rfl hly_16_31 (hts (.fieldLink RX14 288 "ProofServerModel" "bad" "Z") (by decide +kernel)) (hh_541.at 0 rfl) dX14_readNumber_136 ?_
                  have C168 : ∀ (v6_542 : Int32) (wt_542 : Int32) (wb_542 : Int32) (H_542 : Heap) (locs_542 : List Loc), jSt (dC, dI) B base G0 G0 EX14_readNumber s.heap 0 0 [(r0, 16, 29, .int wt_542), (r0, 16, 31, .int wb_542), (r0, 16, 9, .ref kept_384), (r0, 16, 26, .int qn_1), (r0, 16, 30, .int pe)] [] [] H_542 locs_542 → (v6_542 = 0 ∨ v6_542 = 1) → (pt.toInt ≤ wt_542.toInt ∧ wt_542.toInt ≤ pe.toInt ∧ (wb_542.toInt = 1 ∨ pt.toInt + 1 ≤ wt_542.toInt)) → ∀ ls : Array Slot, lv_has ls 9 [(0, .ref r0), (1, .int r_2), (2, .int 1), (3, .int wt_310), (4, .long v4_311), (6, .int v6_542)] → W p l e R s m ([.ref r0] : List Value).toArray below meth c H_542 locs_542 0 0 Q (F0 m 168 ls []) := by
                    intro v6_542 wt_542 wb_542 H_542 locs_542 hh_542 hb_v6_542 hi_542 ls hl
                    obtain ⟨hi_542_0, hi_542_1, hi_542_2⟩ := hi_542
                    have hb_v6_542' := jb_01 hb_v6_542
                    clear hr_313_2
                    refine lv_aload_n hx hb dX14_readNumber_168 rfl (lv_at hl 0 rfl) ?_
                    refine j7_read hx hb hown hK (C := RX14) (T := TX14) (N := 74) rfl hly_16_31 (hts (.fieldLink RX14 288 "ProofServerModel" "bad" "Z") (by decide +kernel)) (hh_542.at 1 rfl) dX14_readNumber_169 ?_
                    have C238 : ∀ (v6_543 : Int32) (wt_543 : Int32) (wb_543 : Int32) (H_543 : Heap) (locs_543 : List Loc), jSt (dC, dI) B base G0 G0 EX14_readNumber s.heap 0 0 [(r0, 16, 29, .int wt_543), (r0, 16, 31, .int wb_543), (r0, 16, 9, .ref kept_384), (r0, 16, 26, .int qn_1), (r0, 16, 30, .int pe)] [] [] H_543 locs_543 → (v6_543 = 0 ∨ v6_543 = 1) → (pt.toInt ≤ wt_543.toInt ∧ wt_543.toInt ≤ pe.toInt ∧ (wb_543.toInt = 1 ∨ pt.toInt + 1 ≤ wt_543.toInt)) → ∀ ls : Array Slot, lv_has ls 9 [(0, .ref r0), (1, .int r_2), (2, .int 1), (3, .int wt_310), (4, .long v4_311), (6, .int v6_543)] → W p l e R s m ([.ref r0] : List Value).toArray below meth c H_543 locs_543 0 0 Q (F0 m 238 ls []) := by
                      intro v6_543 wt_543 wb_543 H_543 locs_543 hh_543 hb_v6_543 hi_543 ls hl
                      obtain ⟨hi_543_0, hi_543_1, hi_543_2⟩ := hi_543
                      have hb_v6_543' := jb_01 hb_v6_543
                      refine lv_iload_n hx hb dX14_readNumber_238 rfl (lv_at hl 2 rfl) ?_
                      refine lv_if_eq (tgt := 248) hx hb dX14_readNumber_239 (by decide) (fun c_544 => ?_) (fun c_544 => ?_)
                      · skip
                        exact absurd c_544 (by decide)
                      · skip
                        refine lv_lload hx hb dX14_readNumber_242 (lv_at hl 4 rfl) ?_
                        refine lv_lneg hx hb dX14_readNumber_244 ?_
                        refine lv_topl (fun z_545 ez_545 => ?_)
                        refine lv_goto (tgt := 250) hx hb dX14_readNumber_245 (by decide) ?_
                        refine lv_lstore (lv' := [(7, .long z_545), (0, .ref r0), (1, .int r_2), (2, .int 1), (3, .int wt_310), (4, .long v4_311), (6, .int v6_543)]) hx hb dX14_readNumber_250 hl (by decide) rfl (fun ls hl => ?_)
                        refine lv_aload_n hx hb dX14_readNumber_252 rfl (lv_at hl 1 rfl) ?_
                        obtain ⟨v_546, hv_546, hh_547⟩ := hh_543.pin (C := RX14) (T := TX14) (N := 74) hB16 rfl (by decide) hg_r0 (i := 24) (by decide) rfl
                        clear hh_543
                        obtain ⟨isInt_548, rfl, hg_isInt_548⟩ := hv_546
                        refine j7_read hx hb hown hK (C := RX14) (T := TX14) (N := 74) rfl hly_16_24 (hts (.fieldLink RX14 58 "ProofServerModel" "isInt" "[Z") (by decide +kernel)) (hh_547.at 0 rfl) dX14_readNumber_253 ?_
                        refine lv_iload_n hx hb dX14_readNumber_256 rfl (lv_at hl 2 rfl) ?_
                        refine lv_iload hx hb dX14_readNumber_257 (lv_at hl 6 rfl) ?_
                        have C285 : ∀ (w0_549 : Int32) (H_549 : Heap) (locs_549 : List Loc), jSt (dC, dI) B base G0 G0 EX14_readNumber s.heap 0 0 [(r0, 16, 24, .ref isInt_548), (r0, 16, 29, .int wt_543), (r0, 16, 31, .int wb_543), (r0, 16, 9, .ref kept_384), (r0, 16, 26, .int qn_1), (r0, 16, 30, .int pe)] [] [] H_549 locs_549 → (w0_549 = 0 ∨ w0_549 = 1) → (True) → ∀ ls : Array Slot, lv_has ls 9 [(0, .ref r0), (1, .int r_2), (2, .int 1), (3, .int wt_310), (4, .long v4_311), (6, .int v6_543), (7, .long z_545)] → W p l e R s m ([.ref r0] : List Value).toArray below meth c H_549 locs_549 0 0 Q (F0 m 285 ls [.int w0_549, .int r_2, .ref isInt_548]) := by
                          intro w0_549 H_549 locs_549 hh_549 hb_w0_549 hi_549 ls hl
                          have hb_w0_549' := jb_01 hb_w0_549
                          refine j7_zast hx hb hK hh_549 hB hB124 3 rfl (by decide) (by decide) rfl rfl rfl hg_isInt_548 (rfl) (by omega) (hb_w0_549) (hb_w0_549) dX14_readNumber_285 (fun H_550 locs_550 hh_550 => ?_)
                          clear hh_549
                          refine lv_aload_n hx hb dX14_readNumber_286 rfl (lv_at hl 0 rfl) ?_
                          obtain ⟨v_551, hv_551, hh_552⟩ := hh_550.pin (C := RX14) (T := TX14) (N := 74) hB16 rfl (by decide) hg_r0 (i := 25) (by decide) rfl
                          clear hh_550
                          obtain ⟨ints_553, rfl, hg_ints_553⟩ := hv_551
                          refine j7_read hx hb hown hK (C := RX14) (T := TX14) (N := 74) rfl hly_16_25 (hts (.fieldLink RX14 62 "ProofServerModel" "ints" "[I") (by decide +kernel)) (hh_552.at 0 rfl) dX14_readNumber_287 ?_
                          refine lv_iload_n hx hb dX14_readNumber_290 rfl (lv_at hl 1 rfl) ?_
                          refine lv_lload hx hb dX14_readNumber_291 (lv_at hl 6 rfl) ?_
                          refine lv_l2i hx hb dX14_readNumber_293 rfl ?_
                          refine lv_topi (fun z_554 ez_554 => ?_)
                          refine j7_iast hx hb hK hh_552 hB hB125 1 rfl (by decide) (by decide) rfl rfl rfl hg_ints_553 (rfl) (by omega) (trivial) dX14_readNumber_294 (fun H_555 locs_555 hh_555 => ?_)
                          clear hh_552
                          refine lv_iload_n hx hb dX14_readNumber_295 rfl (lv_at hl 1 rfl) ?_
                          rw [hQ]
                          exact W.iret (v := r_2) hx hb hr (fun t ht hW => ⟨⟨r_2, (wt_543, qn_1, wb_543), rfl, by first | omega | (refine ⟨?_, ?_, ?_, ?_, ?_⟩ <;> (first | omega | rfl | assumption | decide | exact Or.inl rfl | exact Or.inr rfl | (simp only; omega))), hh_555.rt (M1 := [(r0, 16, 29, .int wt_543), (r0, 16, 26, .int qn_1), (r0, 16, 31, .int wb_543)]) [2, 5, 3] rfl ht⟩, by rw [ht]; try exact hh_555.1.1, fun q h9 hq => by rw [ht]; try exact hh_555.1.2.1 q h9 hq⟩) hh_555.1.2.2 dX14_readNumber_296
                        refine lv_if_eq (tgt := 284) hx hb dX14_readNumber_259 (by decide) (fun c_556 => ?_) (fun c_556 => ?_)
                        · skip
                          have c_556' : v6_543.toInt = 0 := jb_eq (rfl) ((by decide)) c_556
                          refine lv_iconst (v := 0) hx hb dX14_readNumber_284 (by decide) ?_
                          exact C285 0 _ _ hh_547 (Or.inl rfl) (trivial) _ (lv_sub hl [1, 2, 3, 4, 5, 6, 0] rfl)
                        · skip
                          have c_556' : v6_543.toInt ≠ 0 := jb_eq_n (rfl) ((by decide)) c_556
                          refine lv_lload hx hb dX14_readNumber_262 (lv_at hl 0 rfl) ?_
                          refine lv_ldc2 hx hb hown (hts (.constantLong RX14 329 (-2147483648)) (by decide +kernel)) dX14_readNumber_264 ?_
                          refine W.lcmp hx hb dX14_readNumber_267 ?_
                          refine lv_topi (fun z_557 ez_557 => ?_)
                          have hz_557 := jb_lcmp ez_557
                          have hqz_557_m2147483648 : ((-2147483648) : Int64).toInt = (-2147483648) := by decide
                          refine lv_if_lt (tgt := 284) hx hb dX14_readNumber_268 (by decide) (fun c_558 => ?_) (fun c_558 => ?_)
                          · skip
                            have c_558' : z_557.toInt < 0 := jb_lt (rfl) ((by decide)) c_558
                            refine lv_iconst (v := 0) hx hb dX14_readNumber_284 (by decide) ?_
                            exact C285 0 _ _ hh_547 (Or.inl rfl) (trivial) _ (lv_sub hl [1, 2, 3, 4, 5, 6, 0] rfl)
                          · skip
                            have c_558' : z_557.toInt ≥ 0 := jb_lt_n (rfl) ((by decide)) c_558
                            refine lv_lload hx hb dX14_readNumber_271 (lv_at hl 0 rfl) ?_
                            refine lv_ldc2 hx hb hown (hts (.constantLong RX14 331 2147483647) (by decide +kernel)) dX14_readNumber_273 ?_
                            refine W.lcmp hx hb dX14_readNumber_276 ?_
                            refine lv_topi (fun z_559 ez_559 => ?_)
                            have hz_559 := jb_lcmp ez_559
                            have hqz_559_2147483647 : (2147483647 : Int64).toInt = 2147483647 := by decide
                            refine lv_if_gt (tgt := 284) hx hb dX14_readNumber_277 (by decide) (fun c_560 => ?_) (fun c_560 => ?_)
                            · skip
                              have c_560' : z_559.toInt > 0 := jb_gt (rfl) ((by decide)) c_560
                              refine lv_iconst (v := 0) hx hb dX14_readNumber_284 (by decide) ?_
                              exact C285 0 _ _ hh_547 (Or.inl rfl) (trivial) _ (lv_sub hl [1, 2, 3, 4, 5, 6, 0] rfl)
                            · skip
                              have c_560' : z_559.toInt ≤ 0 := jb_gt_n (rfl) ((by decide)) c_560
                              refine lv_iconst (v := 1) hx hb dX14_readNumber_280 (by decide) ?_
                              refine lv_goto (tgt := 285) hx hb dX14_readNumber_281 (by decide) ?_
                              exact C285 1 _ _ hh_547 (Or.inr rfl) (trivial) _ (lv_sub hl [1, 2, 3, 4, 5, 6, 0] rfl)
                    refine lv_if_ne (tgt := 238) hx hb dX14_readNumber_172 (by decide) (fun c_561 => ?_) (fun c_561 => ?_)
                    · skip
                      have c_561' : wb_542.toInt ≠ 0 := jb_ne (rfl) ((by decide)) c_561
                      exact C238 v6_542 wt_542 wb_542 _ _ hh_542 (hb_v6_542) (by first | omega | (refine ⟨?_, ?_, ?_⟩ <;> (first | omega | rfl | assumption | decide | exact Or.inl rfl | exact Or.inr rfl | (simp only; omega)))) _ (lv_sub hl [0, 1, 2, 3, 4, 5] rfl)
                    · skip
                      have c_561' : wb_542.toInt = 0 := jb_ne_n (rfl) ((by decide)) c_561
                      refine lv_aload_n hx hb dX14_readNumber_175 rfl (lv_at hl 0 rfl) ?_
                      refine va_calli (A0 := jA base) (H0 := s.heap) (va_runV (As := []) (rest := []) ⟨hx, hb, hml, hown, hts⟩ (uX14_here l dC dI ca base B hB hAp hB16 hB110 G0 H_542 r0 wt_542 pe) (cwV 0 hts gX14_readNumber_X14_here rfl rfl rfl (by decide +kernel) ⟨by rw [← hR]; exact Nat.le_of_ble_eq_true rfl, by rw [← hR]; exact Nat.le_of_ble_eq_true rfl⟩) ⟨fun a U g mk q => by obtain ⟨q0, q1, q2, qK, q10, q11, q12⟩ := q; exact ⟨q0, q1, q2, jG.calling g mk a qK, q10, q11, q12⟩, hh_542.recv (C := RX14) (T := TX14) (N := 74) hB16 rfl (by decide) hg_r0 hK, fun U hU hW => ⟨rfl, hU, hh_542.2.1, hG.step hW hU hh_542.1, hg_r0, (hh_542.2.2.1.sub (L1 := [(r0, 16, 29, .int wt_542), (r0, 16, 30, .int pe)]) [0, 4] rfl), by first | omega | (refine ⟨?_, ?_, ?_, ?_⟩ <;> (first | omega | rfl | assumption | decide | exact Or.inl rfl | exact Or.inr rfl | (simp only; omega)))⟩⟩ rfl rfl hl.1 rfl (lv_room (Nat.le_of_ble_eq_true rfl)) dX14_readNumber_176 ⟨Nat.zero_le _, Nat.zero_le _⟩) hh_542.1 (fun q _ h => h) (fun q h => h) (fun r_563 u_562 t_562 H_562 locs_562 ht_562 hvm_562 hr_563 hb_562 hz_562 hk_562 hS_562 => ?_)
                      rw [ht_562] at hb_562
                      obtain ⟨hb_5621, hb_5622, hb_5623, hb_5624, hb_5625⟩ := hb_562
                      have hh_562 : jSt (dC, dI) B base G0 G0 EX14_readNumber s.heap 0 0 [(r0, 16, 29, .int wt_542), (r0, 16, 31, .int wb_542), (r0, 16, 9, .ref kept_384), (r0, 16, 26, .int qn_1), (r0, 16, 30, .int pe)] [] [] H_562 locs_562 := (hh_542.call hb_5621 hb_5622 hb_5623 hb_5624 hS_562 rfl (L1 := [(r0, 16, 29, .int wt_542), (r0, 16, 31, .int wb_542), (r0, 16, 9, .ref kept_384), (r0, 16, 26, .int qn_1), (r0, 16, 30, .int pe)]) [0, 1, 2, 3, 4] rfl rfl (M1 := []) [] rfl rfl (I1 := []) [] rfl rfl).more hb_5625
                      clear hh_542 ht_562 hvm_562 hz_562 hk_562 hS_562 hb_5621 hb_5622 hb_5623 hb_5624 hb_5625
                      obtain ⟨hr_563_0, hr_563_1, hr_563_2⟩ := hr_563
                      refine lv_bipush (v := 101) hx hb dX14_readNumber_179 (by decide) ?_
                      refine lv_icmp_eq (tgt := 193) hx hb dX14_readNumber_181 (by decide) (fun c_564 => ?_) (fun c_564 => ?_)
                      · skip
                        have c_564' : r_563.toInt = 101 := jb_eq (rfl) ((by decide)) c_564
                        first | replace hr_563_2 := hr_563_2.resolve_left (by omega) | replace hr_563_2 := hr_563_2.resolve_right (by omega) | skip
                        refine lv_iconst (v := 0) hx hb dX14_readNumber_193 (by decide) ?_
                        refine lv_istore (lv' := [(6, .int 0), (0, .ref r0), (1, .int r_2), (2, .int 1), (3, .int wt_310), (4, .long v4_311)]) hx hb dX14_readNumber_194 hl (by decide) rfl (fun ls hl => ?_)
                        refine lv_aload_n hx hb dX14_readNumber_196 rfl (lv_at hl 1 rfl) ?_
                        refine lv_dup hx hb dX14_readNumber_197 rfl ?_
                        refine j7_read hx hb hown hK (C := RX14) (T := TX14) (N := 74) rfl hly_16_29 (hts (.fieldLink RX14 273 "ProofServerModel" "at" "I") (by decide +kernel)) (hh_562.at 0 rfl) dX14_readNumber_198 ?_
                        refine lv_iconst (v := 1) hx hb dX14_readNumber_201 (by decide) ?_
                        refine lv_iadd hx hb dX14_readNumber_202 ?_
                        refine lv_topi (fun z_565 ez_565 => ?_)
                        have hz_565 : z_565.toInt = wt_542.toInt + 1 := by rw [ez_565]; exact jb_iadd2 (rfl) ((by decide)) (by omega)
                        refine j7_put hx hb hown hK hh_562 hB hAp hB16 (C := RX14) (T := TX14) (N := 74) rfl (by decide) hg_r0 (i := 29) (by decide) hly_16_29 rfl (hts (.fieldLink RX14 273 "ProofServerModel" "at" "I") (by decide +kernel)) rfl (ty := .int) (v := .int z_565) (by decide +kernel) rfl rfl (⟨_, rfl, by omega, by omega⟩) rfl (L1 := [(r0, 16, 31, .int wb_542), (r0, 16, 9, .ref kept_384), (r0, 16, 26, .int qn_1), (r0, 16, 30, .int pe)]) [1, 2, 3, 4] rfl rfl rfl dX14_readNumber_203 (fun H_566 locs_566 hh_566 => ?_)
                        clear hh_562
                        refine lv_aload_n hx hb dX14_readNumber_206 rfl (lv_at hl 1 rfl) ?_
                        refine va_calli (A0 := jA base) (H0 := s.heap) (va_runV (As := []) (rest := []) ⟨hx, hb, hml, hown, hts⟩ (uX14_here l dC dI ca base B hB hAp hB16 hB110 G0 H_566 r0 z_565 pe) (cwV 0 hts gX14_readNumber_X14_here rfl rfl rfl (by decide +kernel) ⟨by rw [← hR]; exact Nat.le_of_ble_eq_true rfl, by rw [← hR]; exact Nat.le_of_ble_eq_true rfl⟩) ⟨fun a U g mk q => by obtain ⟨q0, q1, q2, qK, q10, q11, q12⟩ := q; exact ⟨q0, q1, q2, jG.calling g mk a qK, q10, q11, q12⟩, hh_566.recv (C := RX14) (T := TX14) (N := 74) hB16 rfl (by decide) hg_r0 hK, fun U hU hW => ⟨rfl, hU, hh_566.2.1, hG.step hW hU hh_566.1, hg_r0, (hh_566.2.2.1.sub (L1 := [(r0, 16, 29, .int z_565), (r0, 16, 30, .int pe)]) [0, 4] rfl), by first | omega | (refine ⟨?_, ?_, ?_, ?_⟩ <;> (first | omega | rfl | assumption | decide | exact Or.inl rfl | exact Or.inr rfl | (simp only; omega)))⟩⟩ rfl rfl hl.1 rfl (lv_room (Nat.le_of_ble_eq_true rfl)) dX14_readNumber_207 ⟨Nat.zero_le _, Nat.zero_le _⟩) hh_566.1 (fun q _ h => h) (fun q h => h) (fun r_568 u_567 t_567 H_567 locs_567 ht_567 hvm_567 hr_568 hb_567 hz_567 hk_567 hS_567 => ?_)
                        rw [ht_567] at hb_567
                        obtain ⟨hb_5671, hb_5672, hb_5673, hb_5674, hb_5675⟩ := hb_567
                        have hh_567 : jSt (dC, dI) B base G0 G0 EX14_readNumber s.heap 0 0 [(r0, 16, 29, .int z_565), (r0, 16, 31, .int wb_542), (r0, 16, 9, .ref kept_384), (r0, 16, 26, .int qn_1), (r0, 16, 30, .int pe)] [] [] H_567 locs_567 := (hh_566.call hb_5671 hb_5672 hb_5673 hb_5674 hS_567 rfl (L1 := [(r0, 16, 29, .int z_565), (r0, 16, 31, .int wb_542), (r0, 16, 9, .ref kept_384), (r0, 16, 26, .int qn_1), (r0, 16, 30, .int pe)]) [0, 1, 2, 3, 4] rfl rfl (M1 := []) [] rfl rfl (I1 := []) [] rfl rfl).more hb_5675
                        clear hh_566 ht_567 hvm_567 hz_567 hk_567 hS_567 hb_5671 hb_5672 hb_5673 hb_5674 hb_5675
                        obtain ⟨hr_568_0, hr_568_1, hr_568_2⟩ := hr_568
                        refine lv_bipush (v := 43) hx hb dX14_readNumber_210 (by decide) ?_
                        have C234 : ∀ (wt_569 : Int32) (H_569 : Heap) (locs_569 : List Loc), jSt (dC, dI) B base G0 G0 EX14_readNumber s.heap 0 0 [(r0, 16, 29, .int wt_569), (r0, 16, 31, .int wb_542), (r0, 16, 9, .ref kept_384), (r0, 16, 26, .int qn_1), (r0, 16, 30, .int pe)] [] [] H_569 locs_569 → (pt.toInt ≤ wt_569.toInt ∧ wt_569.toInt ≤ pe.toInt ∧ pt.toInt + 1 ≤ wt_569.toInt) → ∀ ls : Array Slot, lv_has ls 9 [(0, .ref r0), (1, .int r_2), (2, .int 1), (3, .int wt_310), (4, .long v4_311), (6, .int 0)] → W p l e R s m ([.ref r0] : List Value).toArray below meth c H_569 locs_569 0 0 Q (F0 m 234 ls []) := by
                          intro wt_569 H_569 locs_569 hh_569  hi_569 ls hl
                          obtain ⟨hi_569_0, hi_569_1, hi_569_2⟩ := hi_569
                          clear hr_563_2 hr_568_2
                          refine lv_aload_n hx hb dX14_readNumber_234 rfl (lv_at hl 0 rfl) ?_
                          refine va_callv (A0 := jA base) (H0 := s.heap) (va_runV (As := []) (rest := []) ⟨hx, hb, hml, hown, hts⟩ (uX14_digits l dC dI ca base B hB hAp hB16 hB110 G0 H_569 r0 wt_569 pe) (cwV 0 hts gX14_readNumber_X14_digits rfl rfl rfl (by decide +kernel) ⟨by rw [← hR]; exact Nat.le_of_ble_eq_true rfl, by rw [← hR]; exact Nat.le_of_ble_eq_true rfl⟩) ⟨fun a U g mk q => by obtain ⟨q0, q1, q2, qK, q10, q11, q12⟩ := q; exact ⟨q0, q1, q2, jG.calling g mk a qK, q10, q11, q12⟩, hh_569.recv (C := RX14) (T := TX14) (N := 74) hB16 rfl (by decide) hg_r0 hK, fun U hU hW => ⟨rfl, hU, hh_569.2.1, hG.step hW hU hh_569.1, hg_r0, (hh_569.2.2.1.sub (L1 := [(r0, 16, 29, .int wt_569), (r0, 16, 30, .int pe)]) [0, 4] rfl), by first | omega | (refine ⟨?_, ?_, ?_, ?_, ?_⟩ <;> (first | omega | rfl | assumption | decide | exact Or.inl rfl | exact Or.inr rfl | (simp only; omega)))⟩⟩ rfl rfl hl.1 rfl (lv_room (Nat.le_of_ble_eq_true rfl)) dX14_readNumber_235 ⟨Nat.zero_le _, Nat.zero_le _⟩) hh_569.1 (fun q _ h => h) (fun q h => h) (fun u_570 t_570 H_570 locs_570 ht_570 hvm_570 hr_571 hb_570 hz_570 hk_570 hS_570 => ?_)
                          obtain ⟨qt_570, rfl⟩ : ∃ z, z = u_570 := ⟨_, rfl⟩
                          rw [ht_570] at hb_570
                          obtain ⟨hb_5701, hb_5702, hb_5703, hb_5704, hb_5705⟩ := hb_570
                          have hh_570 : jSt (dC, dI) B base G0 G0 EX14_readNumber s.heap 0 0 [(r0, 16, 29, .int qt_570), (r0, 16, 9, .ref kept_384), (r0, 16, 26, .int qn_1), (r0, 16, 30, .int pe)] [] [] H_570 locs_570 := (hh_569.call hb_5701 hb_5702 hb_5703 hb_5704 hS_570 rfl (L1 := [(r0, 16, 9, .ref kept_384), (r0, 16, 26, .int qn_1), (r0, 16, 30, .int pe)]) [2, 3, 4] rfl rfl (M1 := []) [] rfl rfl (I1 := []) [] rfl rfl).more hb_5705
                          clear hh_569 ht_570 hvm_570 hz_570 hk_570 hS_570 hb_5701 hb_5702 hb_5703 hb_5704 hb_5705
                          obtain ⟨hr_571_0, hr_571_1⟩ := hr_571
                          obtain ⟨v_572, hv_572, hh_573⟩ := hh_570.pin (C := RX14) (T := TX14) (N := 74) hB16 rfl (by decide) hg_r0 (i := 31) (by decide) rfl
                          obtain ⟨bad_574, rfl, hzbad_574⟩ := hv_572
                          have hzbad_574' := jb_01 hzbad_574
                          exact C238 0 qt_570 bad_574 _ _ (hh_573.sub (L1 := [(r0, 16, 29, .int qt_570), (r0, 16, 31, .int bad_574), (r0, 16, 9, .ref kept_384), (r0, 16, 26, .int qn_1), (r0, 16, 30, .int pe)]) [1, 0, 2, 3, 4] rfl (M1 := []) [] rfl (I1 := []) [] rfl) (Or.inl rfl) (by first | omega | (refine ⟨?_, ?_, ?_⟩ <;> (first | omega | rfl | assumption | decide | exact Or.inl rfl | exact Or.inr rfl | (simp only; omega)))) _ (lv_sub hl [0, 1, 2, 3, 4, 5] rfl)
                        refine lv_icmp_eq (tgt := 224) hx hb dX14_readNumber_212 (by decide) (fun c_575 => ?_) (fun c_575 => ?_)
                        · skip
                          have c_575' : r_568.toInt = 43 := jb_eq (rfl) ((by decide)) c_575
                          first | replace hr_568_2 := hr_568_2.resolve_left (by omega) | replace hr_568_2 := hr_568_2.resolve_right (by omega) | skip
                          refine lv_aload_n hx hb dX14_readNumber_224 rfl (lv_at hl 1 rfl) ?_
                          refine lv_dup hx hb dX14_readNumber_225 rfl ?_
                          refine j7_read hx hb hown hK (C := RX14) (T := TX14) (N := 74) rfl hly_16_29 (hts (.fieldLink RX14 273 "ProofServerModel" "at" "I") (by decide +kernel)) (hh_567.at 0 rfl) dX14_readNumber_226 ?_
                          refine lv_iconst (v := 1) hx hb dX14_readNumber_229 (by decide) ?_
                          refine lv_iadd hx hb dX14_readNumber_230 ?_
                          refine lv_topi (fun z_576 ez_576 => ?_)
                          have hz_576 : z_576.toInt = z_565.toInt + 1 := by rw [ez_576]; exact jb_iadd2 (rfl) ((by decide)) (by omega)
                          refine j7_put hx hb hown hK hh_567 hB hAp hB16 (C := RX14) (T := TX14) (N := 74) rfl (by decide) hg_r0 (i := 29) (by decide) hly_16_29 rfl (hts (.fieldLink RX14 273 "ProofServerModel" "at" "I") (by decide +kernel)) rfl (ty := .int) (v := .int z_576) (by decide +kernel) rfl rfl (⟨_, rfl, by omega, by omega⟩) rfl (L1 := [(r0, 16, 31, .int wb_542), (r0, 16, 9, .ref kept_384), (r0, 16, 26, .int qn_1), (r0, 16, 30, .int pe)]) [1, 2, 3, 4] rfl rfl rfl dX14_readNumber_231 (fun H_577 locs_577 hh_577 => ?_)
                          clear hh_567
                          exact C234 z_576 _ _ hh_577 (by first | omega | (refine ⟨?_, ?_, ?_⟩ <;> (first | omega | rfl | assumption | decide | exact Or.inl rfl | exact Or.inr rfl | (simp only; omega)))) _ (lv_sub hl [1, 2, 3, 4, 5, 0] rfl)
                        · skip
                          have c_575' : r_568.toInt ≠ 43 := jb_eq_n (rfl) ((by decide)) c_575
                          first | replace hr_568_2 := hr_568_2.resolve_left (by omega) | replace hr_568_2 := hr_568_2.resolve_right (by omega) | skip
                          refine lv_aload_n hx hb dX14_readNumber_215 rfl (lv_at hl 1 rfl) ?_
                          refine va_calli (A0 := jA base) (H0 := s.heap) (va_runV (As := []) (rest := []) ⟨hx, hb, hml, hown, hts⟩ (uX14_here l dC dI ca base B hB hAp hB16 hB110 G0 H_567 r0 z_565 pe) (cwV 0 hts gX14_readNumber_X14_here rfl rfl rfl (by decide +kernel) ⟨by rw [← hR]; exact Nat.le_of_ble_eq_true rfl, by rw [← hR]; exact Nat.le_of_ble_eq_true rfl⟩) ⟨fun a U g mk q => by obtain ⟨q0, q1, q2, qK, q10, q11, q12⟩ := q; exact ⟨q0, q1, q2, jG.calling g mk a qK, q10, q11, q12⟩, hh_567.recv (C := RX14) (T := TX14) (N := 74) hB16 rfl (by decide) hg_r0 hK, fun U hU hW => ⟨rfl, hU, hh_567.2.1, hG.step hW hU hh_567.1, hg_r0, (hh_567.2.2.1.sub (L1 := [(r0, 16, 29, .int z_565), (r0, 16, 30, .int pe)]) [0, 4] rfl), by first | omega | (refine ⟨?_, ?_, ?_, ?_⟩ <;> (first | omega | rfl | assumption | decide | exact Or.inl rfl | exact Or.inr rfl | (simp only; omega)))⟩⟩ rfl rfl hl.1 rfl (lv_room (Nat.le_of_ble_eq_true rfl)) dX14_readNumber_216 ⟨Nat.zero_le _, Nat.zero_le _⟩) hh_567.1 (fun q _ h => h) (fun q h => h) (fun r_579 u_578 t_578 H_578 locs_578 ht_578 hvm_578 hr_579 hb_578 hz_578 hk_578 hS_578 => ?_)
                          rw [ht_578] at hb_578
                          obtain ⟨hb_5781, hb_5782, hb_5783, hb_5784, hb_5785⟩ := hb_578
                          have hh_578 : jSt (dC, dI) B base G0 G0 EX14_readNumber s.heap 0 0 [(r0, 16, 29, .int z_565), (r0, 16, 31, .int wb_542), (r0, 16, 9, .ref kept_384), (r0, 16, 26, .int qn_1), (r0, 16, 30, .int pe)] [] [] H_578 locs_578 := (hh_567.call hb_5781 hb_5782 hb_5783 hb_5784 hS_578 rfl (L1 := [(r0, 16, 29, .int z_565), (r0, 16, 31, .int wb_542), (r0, 16, 9, .ref kept_384), (r0, 16, 26, .int qn_1), (r0, 16, 30, .int pe)]) [0, 1, 2, 3, 4] rfl rfl (M1 := []) [] rfl rfl (I1 := []) [] rfl rfl).more hb_5785
                          clear hh_567 ht_578 hvm_578 hz_578 hk_578 hS_578 hb_5781 hb_5782 hb_5783 hb_5784 hb_5785
                          obtain ⟨hr_579_0, hr_579_1, hr_579_2⟩ := hr_579
                          refine lv_bipush (v := 45) hx hb dX14_readNumber_219 (by decide) ?_
                          refine lv_icmp_ne (tgt := 234) hx hb dX14_readNumber_221 (by decide) (fun c_580 => ?_) (fun c_580 => ?_)
                          · skip
                            have c_580' : r_579.toInt ≠ 45 := jb_ne (rfl) ((by decide)) c_580
                            first | replace hr_579_2 := hr_579_2.resolve_left (by omega) | replace hr_579_2 := hr_579_2.resolve_right (by omega) | skip
                            exact C234 z_565 _ _ hh_578 (by first | omega | (refine ⟨?_, ?_, ?_⟩ <;> (first | omega | rfl | assumption | decide | exact Or.inl rfl | exact Or.inr rfl | (simp only; omega)))) _ (lv_sub hl [1, 2, 3, 4, 5, 0] rfl)
                          · skip
                            have c_580' : r_579.toInt = 45 := jb_ne_n (rfl) ((by decide)) c_580
                            first | replace hr_579_2 := hr_579_2.resolve_left (by omega) | replace hr_579_2 := hr_579_2.resolve_right (by omega) | skip
                            refine lv_aload_n hx hb dX14_readNumber_224 rfl (lv_at hl 1 rfl) ?_
                            refine lv_dup hx hb dX14_readNumber_225 rfl ?_
                            refine j7_read hx hb hown hK (C := RX14) (T := TX14) (N := 74) rfl hly_16_29 (hts (.fieldLink RX14 273 "ProofServerModel" "at" "I") (by decide +kernel)) (hh_578.at 0 rfl) dX14_readNumber_226 ?_
                            refine lv_iconst (v := 1) hx hb dX14_readNumber_229 (by decide) ?_
                            refine lv_iadd hx hb dX14_readNumber_230 ?_
                            refine lv_topi (fun z_581 ez_581 => ?_)
                            have hz_581 : z_581.toInt = z_565.toInt + 1 := by rw [ez_581]; exact jb_iadd2 (rfl) ((by decide)) (by omega)
                            refine j7_put hx hb hown hK hh_578 hB hAp hB16 (C := RX14) (T := TX14) (N := 74) rfl (by decide) hg_r0 (i := 29) (by decide) hly_16_29 rfl (hts (.fieldLink RX14 273 "ProofServerModel" "at" "I") (by decide +kernel)) rfl (ty := .int) (v := .int z_581) (by decide +kernel) rfl rfl (⟨_, rfl, by omega, by omega⟩) rfl (L1 := [(r0, 16, 31, .int wb_542), (r0, 16, 9, .ref kept_384), (r0, 16, 26, .int qn_1), (r0, 16, 30, .int pe)]) [1, 2, 3, 4] rfl rfl rfl dX14_readNumber_231 (fun H_582 locs_582 hh_582 => ?_)
                            clear hh_578
                            exact C234 z_581 _ _ hh_582 (by first | omega | (refine ⟨?_, ?_, ?_⟩ <;> (first | omega | rfl | assumption | decide | exact Or.inl rfl | exact Or.inr rfl | (simp only; omega)))) _ (lv_sub hl [1, 2, 3, 4, 5, 0] rfl)
                      · skip
                        have c_564' : r_563.toInt ≠ 101 := jb_eq_n (rfl) ((by decide)) c_564
                        first | replace hr_563_2 := hr_563_2.resolve_left (by omega) | replace hr_563_2 := hr_563_2.resolve_right (by omega) | skip
                        refine lv_aload_n hx hb dX14_readNumber_184 rfl (lv_at hl 0 rfl) ?_
                        refine va_calli (A0 := jA base) (H0 := s.heap) (va_runV (As := []) (rest := []) ⟨hx, hb, hml, hown, hts⟩ (uX14_here l dC dI ca base B hB hAp hB16 hB110 G0 H_562 r0 wt_542 pe) (cwV 0 hts gX14_readNumber_X14_here rfl rfl rfl (by decide +kernel) ⟨by rw [← hR]; exact Nat.le_of_ble_eq_true rfl, by rw [← hR]; exact Nat.le_of_ble_eq_true rfl⟩) ⟨fun a U g mk q => by obtain ⟨q0, q1, q2, qK, q10, q11, q12⟩ := q; exact ⟨q0, q1, q2, jG.calling g mk a qK, q10, q11, q12⟩, hh_562.recv (C := RX14) (T := TX14) (N := 74) hB16 rfl (by decide) hg_r0 hK, fun U hU hW => ⟨rfl, hU, hh_562.2.1, hG.step hW hU hh_562.1, hg_r0, (hh_562.2.2.1.sub (L1 := [(r0, 16, 29, .int wt_542), (r0, 16, 30, .int pe)]) [0, 4] rfl), by first | omega | (refine ⟨?_, ?_, ?_, ?_⟩ <;> (first | omega | rfl | assumption | decide | exact Or.inl rfl | exact Or.inr rfl | (simp only; omega)))⟩⟩ rfl rfl hl.1 rfl (lv_room (Nat.le_of_ble_eq_true rfl)) dX14_readNumber_185 ⟨Nat.zero_le _, Nat.zero_le _⟩) hh_562.1 (fun q _ h => h) (fun q h => h) (fun r_584 u_583 t_583 H_583 locs_583 ht_583 hvm_583 hr_584 hb_583 hz_583 hk_583 hS_583 => ?_)
                        rw [ht_583] at hb_583
                        obtain ⟨hb_5831, hb_5832, hb_5833, hb_5834, hb_5835⟩ := hb_583
                        have hh_583 : jSt (dC, dI) B base G0 G0 EX14_readNumber s.heap 0 0 [(r0, 16, 29, .int wt_542), (r0, 16, 31, .int wb_542), (r0, 16, 9, .ref kept_384), (r0, 16, 26, .int qn_1), (r0, 16, 30, .int pe)] [] [] H_583 locs_583 := (hh_562.call hb_5831 hb_5832 hb_5833 hb_5834 hS_583 rfl (L1 := [(r0, 16, 29, .int wt_542), (r0, 16, 31, .int wb_542), (r0, 16, 9, .ref kept_384), (r0, 16, 26, .int qn_1), (r0, 16, 30, .int pe)]) [0, 1, 2, 3, 4] rfl rfl (M1 := []) [] rfl rfl (I1 := []) [] rfl rfl).more hb_5835
                        clear hh_562 ht_583 hvm_583 hz_583 hk_583 hS_583 hb_5831 hb_5832 hb_5833 hb_5834 hb_5835
                        obtain ⟨hr_584_0, hr_584_1, hr_584_2⟩ := hr_584
                        refine lv_bipush (v := 69) hx hb dX14_readNumber_188 (by decide) ?_
                        refine lv_icmp_ne (tgt := 238) hx hb dX14_readNumber_190 (by decide) (fun c_585 => ?_) (fun c_585 => ?_)
                        · skip
                          have c_585' : r_584.toInt ≠ 69 := jb_ne (rfl) ((by decide)) c_585
                          first | replace hr_584_2 := hr_584_2.resolve_left (by omega) | replace hr_584_2 := hr_584_2.resolve_right (by omega) | skip
                          exact C238 v6_542 wt_542 wb_542 _ _ hh_583 (hb_v6_542) (by first | omega | (refine ⟨?_, ?_, ?_⟩ <;> (first | omega | rfl | assumption | decide | exact Or.inl rfl | exact Or.inr rfl | (simp only; omega)))) _ (lv_sub hl [0, 1, 2, 3, 4, 5] rfl)
                        · skip
                          have c_585' : r_584.toInt = 69 := jb_ne_n (rfl) ((by decide)) c_585
                          first | replace hr_584_2 := hr_584_2.resolve_left (by omega) | replace hr_584_2 := hr_584_2.resolve_right (by omega) | skip
                          refine lv_iconst (v := 0) hx hb dX14_readNumber_193 (by decide) ?_
                          refine lv_istore (lv' := [(6, .int 0), (0, .ref r0), (1, .int r_2), (2, .int 1), (3, .int wt_310), (4, .long v4_311)]) hx hb dX14_readNumber_194 hl (by decide) rfl (fun ls hl => ?_)
                          refine lv_aload_n hx hb dX14_readNumber_196 rfl (lv_at hl 1 rfl) ?_
                          refine lv_dup hx hb dX14_readNumber_197 rfl ?_
                          refine j7_read hx hb hown hK (C := RX14) (T := TX14) (N := 74) rfl hly_16_29 (hts (.fieldLink RX14 273 "ProofServerModel" "at" "I") (by decide +kernel)) (hh_583.at 0 rfl) dX14_readNumber_198 ?_
                          refine lv_iconst (v := 1) hx hb dX14_readNumber_201 (by decide) ?_
                          refine lv_iadd hx hb dX14_readNumber_202 ?_
                          refine lv_topi (fun z_586 ez_586 => ?_)
                          have hz_586 : z_586.toInt = wt_542.toInt + 1 := by rw [ez_586]; exact jb_iadd2 (rfl) ((by decide)) (by omega)
                          refine j7_put hx hb hown hK hh_583 hB hAp hB16 (C := RX14) (T := TX14) (N := 74) rfl (by decide) hg_r0 (i := 29) (by decide) hly_16_29 rfl (hts (.fieldLink RX14 273 "ProofServerModel" "at" "I") (by decide +kernel)) rfl (ty := .int) (v := .int z_586) (by decide +kernel) rfl rfl (⟨_, rfl, by omega, by omega⟩) rfl (L1 := [(r0, 16, 31, .int wb_542), (r0, 16, 9, .ref kept_384), (r0, 16, 26, .int qn_1), (r0, 16, 30, .int pe)]) [1, 2, 3, 4] rfl rfl rfl dX14_readNumber_203 (fun H_587 locs_587 hh_587 => ?_)
                          clear hh_583
                          refine lv_aload_n hx hb dX14_readNumber_206 rfl (lv_at hl 1 rfl) ?_
                          refine va_calli (A0 := jA base) (H0 := s.heap) (va_runV (As := []) (rest := []) ⟨hx, hb, hml, hown, hts⟩ (uX14_here l dC dI ca base B hB hAp hB16 hB110 G0 H_587 r0 z_586 pe) (cwV 0 hts gX14_readNumber_X14_here rfl rfl rfl (by decide +kernel) ⟨by rw [← hR]; exact Nat.le_of_ble_eq_true rfl, by rw [← hR]; exact Nat.le_of_ble_eq_true rfl⟩) ⟨fun a U g mk q => by obtain ⟨q0, q1, q2, qK, q10, q11, q12⟩ := q; exact ⟨q0, q1, q2, jG.calling g mk a qK, q10, q11, q12⟩, hh_587.recv (C := RX14) (T := TX14) (N := 74) hB16 rfl (by decide) hg_r0 hK, fun U hU hW => ⟨rfl, hU, hh_587.2.1, hG.step hW hU hh_587.1, hg_r0, (hh_587.2.2.1.sub (L1 := [(r0, 16, 29, .int z_586), (r0, 16, 30, .int pe)]) [0, 4] rfl), by first | omega | (refine ⟨?_, ?_, ?_, ?_⟩ <;> (first | omega | rfl | assumption | decide | exact Or.inl rfl | exact Or.inr rfl | (simp only; omega)))⟩⟩ rfl rfl hl.1 rfl (lv_room (Nat.le_of_ble_eq_true rfl)) dX14_readNumber_207 ⟨Nat.zero_le _, Nat.zero_le _⟩) hh_587.1 (fun q _ h => h) (fun q h => h) (fun r_589 u_588 t_588 H_588 locs_588 ht_588 hvm_588 hr_589 hb_588 hz_588 hk_588 hS_588 => ?_)
                          rw [ht_588] at hb_588
                          obtain ⟨hb_5881, hb_5882, hb_5883, hb_5884, hb_5885⟩ := hb_588
                          have hh_588 : jSt (dC, dI) B base G0 G0 EX14_readNumber s.heap 0 0 [(r0, 16, 29, .int z_586), (r0, 16, 31, .int wb_542), (r0, 16, 9, .ref kept_384), (r0, 16, 26, .int qn_1), (r0, 16, 30, .int pe)] [] [] H_588 locs_588 := (hh_587.call hb_5881 hb_5882 hb_5883 hb_5884 hS_588 rfl (L1 := [(r0, 16, 29, .int z_586), (r0, 16, 31, .int wb_542), (r0, 16, 9, .ref kept_384), (r0, 16, 26, .int qn_1), (r0, 16, 30, .int pe)]) [0, 1, 2, 3, 4] rfl rfl (M1 := []) [] rfl rfl (I1 := []) [] rfl rfl).more hb_5885
                          clear hh_587 ht_588 hvm_588 hz_588 hk_588 hS_588 hb_5881 hb_5882 hb_5883 hb_5884 hb_5885
                          obtain ⟨hr_589_0, hr_589_1, hr_589_2⟩ := hr_589
                          refine lv_bipush (v := 43) hx hb dX14_readNumber_210 (by decide) ?_
                          have C234 : ∀ (wt_590 : Int32) (H_590 : Heap) (locs_590 : List Loc), jSt (dC, dI) B base G0 G0 EX14_readNumber s.heap 0 0 [(r0, 16, 29, .int wt_590), (r0, 16, 31, .int wb_542), (r0, 16, 9, .ref kept_384), (r0, 16, 26, .int qn_1), (r0, 16, 30, .int pe)] [] [] H_590 locs_590 → (pt.toInt ≤ wt_590.toInt ∧ wt_590.toInt ≤ pe.toInt ∧ pt.toInt + 1 ≤ wt_590.toInt) → ∀ ls : Array Slot, lv_has ls 9 [(0, .ref r0), (1, .int r_2), (2, .int 1), (3, .int wt_310), (4, .long v4_311), (6, .int 0)] → W p l e R s m ([.ref r0] : List Value).toArray below meth c H_590 locs_590 0 0 Q (F0 m 234 ls []) := by
                            intro wt_590 H_590 locs_590 hh_590  hi_590 ls hl
                            obtain ⟨hi_590_0, hi_590_1, hi_590_2⟩ := hi_590
                            clear hr_563_2 hr_584_2 hr_589_2
                            refine lv_aload_n hx hb dX14_readNumber_234 rfl (lv_at hl 0 rfl) ?_
                            refine va_callv (A0 := jA base) (H0 := s.heap) (va_runV (As := []) (rest := []) ⟨hx, hb, hml, hown, hts⟩ (uX14_digits l dC dI ca base B hB hAp hB16 hB110 G0 H_590 r0 wt_590 pe) (cwV 0 hts gX14_readNumber_X14_digits rfl rfl rfl (by decide +kernel) ⟨by rw [← hR]; exact Nat.le_of_ble_eq_true rfl, by rw [← hR]; exact Nat.le_of_ble_eq_true rfl⟩) ⟨fun a U g mk q => by obtain ⟨q0, q1, q2, qK, q10, q11, q12⟩ := q; exact ⟨q0, q1, q2, jG.calling g mk a qK, q10, q11, q12⟩, hh_590.recv (C := RX14) (T := TX14) (N := 74) hB16 rfl (by decide) hg_r0 hK, fun U hU hW => ⟨rfl, hU, hh_590.2.1, hG.step hW hU hh_590.1, hg_r0, (hh_590.2.2.1.sub (L1 := [(r0, 16, 29, .int wt_590), (r0, 16, 30, .int pe)]) [0, 4] rfl), by first | omega | (refine ⟨?_, ?_, ?_, ?_, ?_⟩ <;> (first | omega | rfl | assumption | decide | exact Or.inl rfl | exact Or.inr rfl | (simp only; omega)))⟩⟩ rfl rfl hl.1 rfl (lv_room (Nat.le_of_ble_eq_true rfl)) dX14_readNumber_235 ⟨Nat.zero_le _, Nat.zero_le _⟩) hh_590.1 (fun q _ h => h) (fun q h => h) (fun u_591 t_591 H_591 locs_591 ht_591 hvm_591 hr_592 hb_591 hz_591 hk_591 hS_591 => ?_)
                            obtain ⟨qt_591, rfl⟩ : ∃ z, z = u_591 := ⟨_, rfl⟩
                            rw [ht_591] at hb_591
                            obtain ⟨hb_5911, hb_5912, hb_5913, hb_5914, hb_5915⟩ := hb_591
                            have hh_591 : jSt (dC, dI) B base G0 G0 EX14_readNumber s.heap 0 0 [(r0, 16, 29, .int qt_591), (r0, 16, 9, .ref kept_384), (r0, 16, 26, .int qn_1), (r0, 16, 30, .int pe)] [] [] H_591 locs_591 := (hh_590.call hb_5911 hb_5912 hb_5913 hb_5914 hS_591 rfl (L1 := [(r0, 16, 9, .ref kept_384), (r0, 16, 26, .int qn_1), (r0, 16, 30, .int pe)]) [2, 3, 4] rfl rfl (M1 := []) [] rfl rfl (I1 := []) [] rfl rfl).more hb_5915
                            clear hh_590 ht_591 hvm_591 hz_591 hk_591 hS_591 hb_5911 hb_5912 hb_5913 hb_5914 hb_5915
                            obtain ⟨hr_592_0, hr_592_1⟩ := hr_592
                            obtain ⟨v_593, hv_593, hh_594⟩ := hh_591.pin (C := RX14) (T := TX14) (N := 74) hB16 rfl (by decide) hg_r0 (i := 31) (by decide) rfl
                            obtain ⟨bad_595, rfl, hzbad_595⟩ := hv_593
                            have hzbad_595' := jb_01 hzbad_595
                            exact C238 0 qt_591 bad_595 _ _ (hh_594.sub (L1 := [(r0, 16, 29, .int qt_591), (r0, 16, 31, .int bad_595), (r0, 16, 9, .ref kept_384), (r0, 16, 26, .int qn_1), (r0, 16, 30, .int pe)]) [1, 0, 2, 3, 4] rfl (M1 := []) [] rfl (I1 := []) [] rfl) (Or.inl rfl) (by first | omega | (refine ⟨?_, ?_, ?_⟩ <;> (first | omega | rfl | assumption | decide | exact Or.inl rfl | exact Or.inr rfl | (simp only; omega)))) _ (lv_sub hl [0, 1, 2, 3, 4, 5] rfl)
                          refine lv_icmp_eq (tgt := 224) hx hb dX14_readNumber_212 (by decide) (fun c_596 => ?_) (fun c_596 => ?_)
                          · skip
                            have c_596' : r_589.toInt = 43 := jb_eq (rfl) ((by decide)) c_596
                            first | replace hr_589_2 := hr_589_2.resolve_left (by omega) | replace hr_589_2 := hr_589_2.resolve_right (by omega) | skip
                            refine lv_aload_n hx hb dX14_readNumber_224 rfl (lv_at hl 1 rfl) ?_
                            refine lv_dup hx hb dX14_readNumber_225 rfl ?_
                            refine j7_read hx hb hown hK (C := RX14) (T := TX14) (N := 74) rfl hly_16_29 (hts (.fieldLink RX14 273 "ProofServerModel" "at" "I") (by decide +kernel)) (hh_588.at 0 rfl) dX14_readNumber_226 ?_
                            refine lv_iconst (v := 1) hx hb dX14_readNumber_229 (by decide) ?_
                            refine lv_iadd hx hb dX14_readNumber_230 ?_
                            refine lv_topi (fun z_597 ez_597 => ?_)
                            have hz_597 : z_597.toInt = z_586.toInt + 1 := by rw [ez_597]; exact jb_iadd2 (rfl) ((by decide)) (by omega)
                            refine j7_put hx hb hown hK hh_588 hB hAp hB16 (C := RX14) (T := TX14) (N := 74) rfl (by decide) hg_r0 (i := 29) (by decide) hly_16_29 rfl (hts (.fieldLink RX14 273 "ProofServerModel" "at" "I") (by decide +kernel)) rfl (ty := .int) (v := .int z_597) (by decide +kernel) rfl rfl (⟨_, rfl, by omega, by omega⟩) rfl (L1 := [(r0, 16, 31, .int wb_542), (r0, 16, 9, .ref kept_384), (r0, 16, 26, .int qn_1), (r0, 16, 30, .int pe)]) [1, 2, 3, 4] rfl rfl rfl dX14_readNumber_231 (fun H_598 locs_598 hh_598 => ?_)
                            clear hh_588
                            exact C234 z_597 _ _ hh_598 (by first | omega | (refine ⟨?_, ?_, ?_⟩ <;> (first | omega | rfl | assumption | decide | exact Or.inl rfl | exact Or.inr rfl | (simp only; omega)))) _ (lv_sub hl [1, 2, 3, 4, 5, 0] rfl)
                          · skip
                            have c_596' : r_589.toInt ≠ 43 := jb_eq_n (rfl) ((by decide)) c_596
                            first | replace hr_589_2 := hr_589_2.resolve_left (by omega) | replace hr_589_2 := hr_589_2.resolve_right (by omega) | skip
                            refine lv_aload_n hx hb dX14_readNumber_215 rfl (lv_at hl 1 rfl) ?_
                            refine va_calli (A0 := jA base) (H0 := s.heap) (va_runV (As := []) (rest := []) ⟨hx, hb, hml, hown, hts⟩ (uX14_here l dC dI ca base B hB hAp hB16 hB110 G0 H_588 r0 z_586 pe) (cwV 0 hts gX14_readNumber_X14_here rfl rfl rfl (by decide +kernel) ⟨by rw [← hR]; exact Nat.le_of_ble_eq_true rfl, by rw [← hR]; exact Nat.le_of_ble_eq_true rfl⟩) ⟨fun a U g mk q => by obtain ⟨q0, q1, q2, qK, q10, q11, q12⟩ := q; exact ⟨q0, q1, q2, jG.calling g mk a qK, q10, q11, q12⟩, hh_588.recv (C := RX14) (T := TX14) (N := 74) hB16 rfl (by decide) hg_r0 hK, fun U hU hW => ⟨rfl, hU, hh_588.2.1, hG.step hW hU hh_588.1, hg_r0, (hh_588.2.2.1.sub (L1 := [(r0, 16, 29, .int z_586), (r0, 16, 30, .int pe)]) [0, 4] rfl), by first | omega | (refine ⟨?_, ?_, ?_, ?_⟩ <;> (first | omega | rfl | assumption | decide | exact Or.inl rfl | exact Or.inr rfl | (simp only; omega)))⟩⟩ rfl rfl hl.1 rfl (lv_room (Nat.le_of_ble_eq_true rfl)) dX14_readNumber_216 ⟨Nat.zero_le _, Nat.zero_le _⟩) hh_588.1 (fun q _ h => h) (fun q h => h) (fun r_600 u_599 t_599 H_599 locs_599 ht_599 hvm_599 hr_600 hb_599 hz_599 hk_599 hS_599 => ?_)
                            rw [ht_599] at hb_599
                            obtain ⟨hb_5991, hb_5992, hb_5993, hb_5994, hb_5995⟩ := hb_599
                            have hh_599 : jSt (dC, dI) B base G0 G0 EX14_readNumber s.heap 0 0 [(r0, 16, 29, .int z_586), (r0, 16, 31, .int wb_542), (r0, 16, 9, .ref kept_384), (r0, 16, 26, .int qn_1), (r0, 16, 30, .int pe)] [] [] H_599 locs_599 := (hh_588.call hb_5991 hb_5992 hb_5993 hb_5994 hS_599 rfl (L1 := [(r0, 16, 29, .int z_586), (r0, 16, 31, .int wb_542), (r0, 16, 9, .ref kept_384), (r0, 16, 26, .int qn_1), (r0, 16, 30, .int pe)]) [0, 1, 2, 3, 4] rfl rfl (M1 := []) [] rfl rfl (I1 := []) [] rfl rfl).more hb_5995
                            clear hh_588 ht_599 hvm_599 hz_599 hk_599 hS_599 hb_5991 hb_5992 hb_5993 hb_5994 hb_5995
                            obtain ⟨hr_600_0, hr_600_1, hr_600_2⟩ := hr_600
                            refine lv_bipush (v := 45) hx hb dX14_readNumber_219 (by decide) ?_
                            refine lv_icmp_ne (tgt := 234) hx hb dX14_readNumber_221 (by decide) (fun c_601 => ?_) (fun c_601 => ?_)
                            · skip
                              have c_601' : r_600.toInt ≠ 45 := jb_ne (rfl) ((by decide)) c_601
                              first | replace hr_600_2 := hr_600_2.resolve_left (by omega) | replace hr_600_2 := hr_600_2.resolve_right (by omega) | skip
                              exact C234 z_586 _ _ hh_599 (by first | omega | (refine ⟨?_, ?_, ?_⟩ <;> (first | omega | rfl | assumption | decide | exact Or.inl rfl | exact Or.inr rfl | (simp only; omega)))) _ (lv_sub hl [1, 2, 3, 4, 5, 0] rfl)
                            · skip
                              have c_601' : r_600.toInt = 45 := jb_ne_n (rfl) ((by decide)) c_601
                              first | replace hr_600_2 := hr_600_2.resolve_left (by omega) | replace hr_600_2 := hr_600_2.resolve_right (by omega) | skip
                              refine lv_aload_n hx hb dX14_readNumber_224 rfl (lv_at hl 1 rfl) ?_
                              refine lv_dup hx hb dX14_readNumber_225 rfl ?_
                              refine j7_read hx hb hown hK (C := RX14) (T := TX14) (N := 74) rfl hly_16_29 (hts (.fieldLink RX14 273 "ProofServerModel" "at" "I") (by decide +kernel)) (hh_599.at 0 rfl) dX14_readNumber_226 ?_
                              refine lv_iconst (v := 1) hx hb dX14_readNumber_229 (by decide) ?_
                              refine lv_iadd hx hb dX14_readNumber_230 ?_
                              refine lv_topi (fun z_602 ez_602 => ?_)
                              have hz_602 : z_602.toInt = z_586.toInt + 1 := by rw [ez_602]; exact jb_iadd2 (rfl) ((by decide)) (by omega)
                              refine j7_put hx hb hown hK hh_599 hB hAp hB16 (C := RX14) (T := TX14) (N := 74) rfl (by decide) hg_r0 (i := 29) (by decide) hly_16_29 rfl (hts (.fieldLink RX14 273 "ProofServerModel" "at" "I") (by decide +kernel)) rfl (ty := .int) (v := .int z_602) (by decide +kernel) rfl rfl (⟨_, rfl, by omega, by omega⟩) rfl (L1 := [(r0, 16, 31, .int wb_542), (r0, 16, 9, .ref kept_384), (r0, 16, 26, .int qn_1), (r0, 16, 30, .int pe)]) [1, 2, 3, 4] rfl rfl rfl dX14_readNumber_231 (fun H_603 locs_603 hh_603 => ?_)
                              clear hh_599
                              exact C234 z_602 _ _ hh_603 (by first | omega | (refine ⟨?_, ?_, ?_⟩ <;> (first | omega | rfl | assumption | decide | exact Or.inl rfl | exact Or.inr rfl | (simp only; omega)))) _ (lv_sub hl [1, 2, 3, 4, 5, 0] rfl)
                  refine lv_if_ne (tgt := 168) hx hb dX14_readNumber_139 (by decide) (fun c_604 => ?_) (fun c_604 => ?_)
                  · skip
                    exact C168 1 wt_311 1 _ _ (hh_541.sub (L1 := [(r0, 16, 29, .int wt_311), (r0, 16, 31, .int 1), (r0, 16, 9, .ref kept_384), (r0, 16, 26, .int qn_1), (r0, 16, 30, .int pe)]) [2, 0, 1, 3, 4] rfl (M1 := []) [] rfl (I1 := []) [] rfl) (Or.inr rfl) (by first | omega | (refine ⟨?_, ?_, ?_⟩ <;> (first | omega | rfl | assumption | decide | exact Or.inl rfl | exact Or.inr rfl | (simp only; omega)))) _ (lv_sub hl [1, 2, 3, 4, 5, 0] rfl)
                  · skip
                    exact absurd c_604 (by decide)
          · skip
            have c_316' : r_315.toInt ≠ 0 := jb_eq_n (rfl) ((by decide)) c_316
            first | replace hr_313_2 := hr_313_2.resolve_left (by omega) | replace hr_313_2 := hr_313_2.resolve_right (by omega) | skip
            refine lv_lload hx hb dX14_readNumber_53 (lv_at hl 4 rfl) ?_
            refine lv_ldc2 hx hb hown (hts (.constantLong RX14 320 99999999999) (by decide +kernel)) dX14_readNumber_55 ?_
            refine W.lcmp hx hb dX14_readNumber_58 ?_
            refine lv_topi (fun z_605 ez_605 => ?_)
            have hz_605 := jb_lcmp ez_605
            have hqz_605_99999999999 : (99999999999 : Int64).toInt = 99999999999 := by decide
            refine lv_if_le (tgt := 67) hx hb dX14_readNumber_59 (by decide) (fun c_606 => ?_) (fun c_606 => ?_)
            · skip
              have c_606' : z_605.toInt ≤ 0 := jb_le (rfl) ((by decide)) c_606
              refine lv_ldc2 hx hb hown (hts (.constantLong RX14 322 10) (by decide +kernel)) dX14_readNumber_67 ?_
              refine lv_lload hx hb dX14_readNumber_70 (lv_at hl 4 rfl) ?_
              refine lv_lmul hx hb dX14_readNumber_72 ?_
              refine lv_topl (fun z_607 ez_607 => ?_)
              refine lv_aload_n hx hb dX14_readNumber_73 rfl (lv_at hl 0 rfl) ?_
              refine va_calli (A0 := jA base) (H0 := s.heap) (va_runV (As := []) (rest := [.long z_607]) ⟨hx, hb, hml, hown, hts⟩ (uX14_here l dC dI ca base B hB hAp hB16 hB110 G0 H_314 r0 wt_311 pe) (cwV 0 hts gX14_readNumber_X14_here rfl rfl rfl (by decide +kernel) ⟨by rw [← hR]; exact Nat.le_of_ble_eq_true rfl, by rw [← hR]; exact Nat.le_of_ble_eq_true rfl⟩) ⟨fun a U g mk q => by obtain ⟨q0, q1, q2, qK, q10, q11, q12⟩ := q; exact ⟨q0, q1, q2, jG.calling g mk a qK, q10, q11, q12⟩, hh_314.recv (C := RX14) (T := TX14) (N := 74) hB16 rfl (by decide) hg_r0 hK, fun U hU hW => ⟨rfl, hU, hh_314.2.1, hG.step hW hU hh_314.1, hg_r0, (hh_314.2.2.1.sub (L1 := [(r0, 16, 29, .int wt_311), (r0, 16, 30, .int pe)]) [0, 2] rfl), by first | omega | (refine ⟨?_, ?_, ?_, ?_⟩ <;> (first | omega | rfl | assumption | decide | exact Or.inl rfl | exact Or.inr rfl | (simp only; omega)))⟩⟩ rfl rfl hl.1 rfl (lv_room (Nat.le_of_ble_eq_true rfl)) dX14_readNumber_74 ⟨Nat.zero_le _, Nat.zero_le _⟩) hh_314.1 (fun q _ h => h) (fun q h => h) (fun r_609 u_608 t_608 H_608 locs_608 ht_608 hvm_608 hr_609 hb_608 hz_608 hk_608 hS_608 => ?_)
              rw [ht_608] at hb_608
              obtain ⟨hb_6081, hb_6082, hb_6083, hb_6084, hb_6085⟩ := hb_608
              have hh_608 : jSt (dC, dI) B base G0 G0 EX14_readNumber s.heap 0 0 [(r0, 16, 29, .int wt_311), (r0, 16, 26, .int qn_1), (r0, 16, 30, .int pe)] [] [] H_608 locs_608 := (hh_314.call hb_6081 hb_6082 hb_6083 hb_6084 hS_608 rfl (L1 := [(r0, 16, 29, .int wt_311), (r0, 16, 26, .int qn_1), (r0, 16, 30, .int pe)]) [0, 1, 2] rfl rfl (M1 := []) [] rfl rfl (I1 := []) [] rfl rfl).more hb_6085
              clear hh_314 ht_608 hvm_608 hz_608 hk_608 hS_608 hb_6081 hb_6082 hb_6083 hb_6084 hb_6085
              obtain ⟨hr_609_0, hr_609_1, hr_609_2⟩ := hr_609
              refine lv_i2l hx hb dX14_readNumber_77 rfl ?_
              refine lv_topl (fun z_610 ez_610 => ?_)
              refine lv_ladd hx hb dX14_readNumber_78 ?_
              refine lv_topl (fun z_611 ez_611 => ?_)
              refine lv_ldc2 hx hb hown (hts (.constantLong RX14 324 48) (by decide +kernel)) dX14_readNumber_79 ?_
              refine lv_lsub hx hb dX14_readNumber_82 ?_
              refine lv_topl (fun z_612 ez_612 => ?_)
              refine lv_lstore (lv' := [(4, .long z_612), (0, .ref r0), (1, .int r_2), (2, .int 1), (3, .int wt_310)]) hx hb dX14_readNumber_83 hl (by decide) rfl (fun ls hl => ?_)
              refine lv_aload_n hx hb dX14_readNumber_85 rfl (lv_at hl 1 rfl) ?_
              refine lv_dup hx hb dX14_readNumber_86 rfl ?_
              refine j7_read hx hb hown hK (C := RX14) (T := TX14) (N := 74) rfl hly_16_29 (hts (.fieldLink RX14 273 "ProofServerModel" "at" "I") (by decide +kernel)) (hh_608.at 0 rfl) dX14_readNumber_87 ?_
              refine lv_iconst (v := 1) hx hb dX14_readNumber_90 (by decide) ?_
              refine lv_iadd hx hb dX14_readNumber_91 ?_
              refine lv_topi (fun z_613 ez_613 => ?_)
              have hz_613 : z_613.toInt = wt_311.toInt + 1 := by rw [ez_613]; exact jb_iadd2 (rfl) ((by decide)) (by omega)
              refine j7_put hx hb hown hK hh_608 hB hAp hB16 (C := RX14) (T := TX14) (N := 74) rfl (by decide) hg_r0 (i := 29) (by decide) hly_16_29 rfl (hts (.fieldLink RX14 273 "ProofServerModel" "at" "I") (by decide +kernel)) rfl (ty := .int) (v := .int z_613) (by decide +kernel) rfl rfl (⟨_, rfl, by omega, by omega⟩) rfl (L1 := [(r0, 16, 26, .int qn_1), (r0, 16, 30, .int pe)]) [1, 2] rfl rfl rfl dX14_readNumber_92 (fun H_614 locs_614 hh_614 => ?_)
              clear hh_608
              refine lv_goto (tgt := 43) hx hb dX14_readNumber_95 (by decide) ?_
              exact L43 z_612 z_613 _ _ hh_614 (by first | omega | (refine ⟨?_, ?_⟩ <;> (first | omega | rfl | assumption | decide | exact Or.inl rfl | exact Or.inr rfl | (simp only; omega)))) (by omega) _ (lv_sub hl [1, 2, 3, 4, 0] rfl)
            · skip
              have c_606' : z_605.toInt > 0 := jb_le_n (rfl) ((by decide)) c_606
              refine lv_lload hx hb dX14_readNumber_62 (lv_at hl 4 rfl) ?_
              refine lv_goto (tgt := 83) hx hb dX14_readNumber_64 (by decide) ?_
              refine lv_lstore (lv' := [(4, .long v4_311), (0, .ref r0), (1, .int r_2), (2, .int 1), (3, .int wt_310)]) hx hb dX14_readNumber_83 hl (by decide) rfl (fun ls hl => ?_)
              refine lv_aload_n hx hb dX14_readNumber_85 rfl (lv_at hl 1 rfl) ?_
              refine lv_dup hx hb dX14_readNumber_86 rfl ?_
              refine j7_read hx hb hown hK (C := RX14) (T := TX14) (N := 74) rfl hly_16_29 (hts (.fieldLink RX14 273 "ProofServerModel" "at" "I") (by decide +kernel)) (hh_314.at 0 rfl) dX14_readNumber_87 ?_
              refine lv_iconst (v := 1) hx hb dX14_readNumber_90 (by decide) ?_
              refine lv_iadd hx hb dX14_readNumber_91 ?_
              refine lv_topi (fun z_615 ez_615 => ?_)
              have hz_615 : z_615.toInt = wt_311.toInt + 1 := by rw [ez_615]; exact jb_iadd2 (rfl) ((by decide)) (by omega)
              refine j7_put hx hb hown hK hh_314 hB hAp hB16 (C := RX14) (T := TX14) (N := 74) rfl (by decide) hg_r0 (i := 29) (by decide) hly_16_29 rfl (hts (.fieldLink RX14 273 "ProofServerModel" "at" "I") (by decide +kernel)) rfl (ty := .int) (v := .int z_615) (by decide +kernel) rfl rfl (⟨_, rfl, by omega, by omega⟩) rfl (L1 := [(r0, 16, 26, .int qn_1), (r0, 16, 30, .int pe)]) [1, 2] rfl rfl rfl dX14_readNumber_92 (fun H_616 locs_616 hh_616 => ?_)
              clear hh_314
              refine lv_goto (tgt := 43) hx hb dX14_readNumber_95 (by decide) ?_
              exact L43 v4_311 z_615 _ _ hh_616 (by first | omega | (refine ⟨?_, ?_⟩ <;> (first | omega | rfl | assumption | decide | exact Or.inl rfl | exact Or.inr rfl | (simp only; omega)))) (by omega) _ (lv_sub hl [1, 2, 3, 4, 0] rfl)
      exact L43 (pe.toInt - (wt_310 : Int32).toInt : Int).toNat.succ 0 wt_310 _ _ hh_310 (by first | omega | (refine ⟨?_, ?_⟩ <;> (first | omega | rfl | assumption | decide | exact Or.inl rfl | exact Or.inr rfl | (simp only; omega)))) (by omega) _ (lv_sub hl [2, 3, 4, 1, 0] rfl)
    refine lv_if_eq (tgt := 35) hx hb dX14_readNumber_22 (by decide) (fun c_617 => ?_) (fun c_617 => ?_)
    · skip
      exact absurd c_617 (by decide)
    · skip
      refine lv_aload_n hx hb dX14_readNumber_25 rfl (lv_at hl 2 rfl) ?_
      refine lv_dup hx hb dX14_readNumber_26 rfl ?_
      refine j7_read hx hb hown hK (C := RX14) (T := TX14) (N := 74) rfl hly_16_29 (hts (.fieldLink RX14 273 "ProofServerModel" "at" "I") (by decide +kernel)) (hh_3.at 1 rfl) dX14_readNumber_27 ?_
      refine lv_iconst (v := 1) hx hb dX14_readNumber_30 (by decide) ?_
      refine lv_iadd hx hb dX14_readNumber_31 ?_
      refine lv_topi (fun z_618 ez_618 => ?_)
      have hz_618 : z_618.toInt = pt.toInt + 1 := by rw [ez_618]; exact jb_iadd2 (rfl) ((by decide)) (by omega)
      refine j7_put hx hb hown hK hh_3 hB hAp hB16 (C := RX14) (T := TX14) (N := 74) rfl (by decide) hg_r0 (i := 29) (by decide) hly_16_29 rfl (hts (.fieldLink RX14 273 "ProofServerModel" "at" "I") (by decide +kernel)) rfl (ty := .int) (v := .int z_618) (by decide +kernel) rfl rfl (⟨_, rfl, by omega, by omega⟩) rfl (L1 := [(r0, 16, 26, .int qn_1), (r0, 16, 30, .int pe)]) [0, 2] rfl rfl rfl dX14_readNumber_32 (fun H_619 locs_619 hh_619 => ?_)
      clear hh_3
      exact C35 z_618 _ _ hh_619 (by first | omega | (refine ⟨?_, ?_⟩ <;> (first | omega | rfl | assumption | decide | exact Or.inl rfl | exact Or.inr rfl | (simp only; omega)))) _ (lv_sub hl [2, 1, 0] rfl)
