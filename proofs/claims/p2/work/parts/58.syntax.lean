def F8 (n : Nat) (G : jT) : List (Value → Prop) := [jRf G 102 8192, jRf G 132 8192, jRf G 133 16384, jI 0 8192]
def F12 (n : Nat) (G : jT) : List (Value → Prop) := [jRf G 8 0, jRf G 101 1500, jRf G 101 1500, jI 0 1500, jI 0 1503, jIa, jRf G 101 3, jI 0 3, jIa, jRf G 101 3000, jI 0 3000]
abbrev wsX60 : List Cond := u_ws RX6 TX6 4
abbrev cX6_numberOf : ByteArray := prog_8_method_2_code
def yX6_numberOf : MethodName := ⟨RX6, "numberOf", "([IIIZ)I"⟩
abbrev cX6_find : ByteArray := prog_8_method_3_code
def yX6_find : MethodName := ⟨RX6, "find", "(JIZ)I"⟩
abbrev wsX100 : List Cond := u_ws RX10 TX10 11
abbrev cX10_scan : ByteArray := prog_12_method_2_code
def yX10_scan : MethodName := ⟨RX10, "scan", "([III)I"⟩
abbrev cX10_scanName : ByteArray := prog_12_method_3_code
def yX10_scanName : MethodName := ⟨RX10, "scanName", "([III)I"⟩
abbrev cX10_add : ByteArray := prog_12_method_4_code
def yX10_add : MethodName := ⟨RX10, "add", "(II)V"⟩
abbrev cX10_peek : ByteArray := prog_12_method_6_code
def yX10_peek : MethodName := ⟨RX10, "peek", "()I"⟩
abbrev cX10_peekName : ByteArray := prog_12_method_7_code
def yX10_peekName : MethodName := ⟨RX10, "peekName", "()I"⟩
abbrev cX10_isSign : ByteArray := prog_12_method_8_code
def yX10_isSign : MethodName := ⟨RX10, "isSign", "(I)Z"⟩
abbrev cX10_isName : ByteArray := prog_12_method_9_code
def yX10_isName : MethodName := ⟨RX10, "isName", "()Z"⟩
abbrev cX10_isArity : ByteArray := prog_12_method_10_code
def yX10_isArity : MethodName := ⟨RX10, "isArity", "()Z"⟩
abbrev cX10_addNode : ByteArray := prog_12_method_11_code
def yX10_addNode : MethodName := ⟨RX10, "addNode", "(I)Z"⟩
abbrev cX10_insertNode : ByteArray := prog_12_method_12_code
def yX10_insertNode : MethodName := ⟨RX10, "insertNode", "(II)Z"⟩
abbrev cX11_opensComment : ByteArray := prog_1_method_51_code
def yX11_opensComment : MethodName := ⟨RX11, "opensComment", "([III)Z"⟩
abbrev cX11_commentEnd : ByteArray := prog_1_method_52_code
def yX11_commentEnd : MethodName := ⟨RX11, "commentEnd", "([III)I"⟩
def wsX11_opensComment : List Cond := .code yX11_opensComment cX11_opensComment 3 (some .boolean) :: ([])
def wsX11_commentEnd : List Cond := .code yX11_commentEnd cX11_commentEnd 5 (some .int) :: ([.methodLink RX11 609 yX11_opensComment, .static yX11_opensComment, .initialized RX11, .code yX11_opensComment cX11_opensComment 3 (some .boolean)])
def wsX6_find : List Cond := .code yX6_find cX6_find 9 (some .int) :: ([.constantLong RX6 50 (-7046029254386353131), .fieldLink RX6 19 "ProofServer$Names" "slots" "[I", .fieldLink RX6 52 "ProofServer$Names" "count" "I", .fieldLink RX6 11 "ProofServer$Names" "stems" "[J", .fieldLink RX6 15 "ProofServer$Names" "primes" "[I"] ++ wsX60)
def wsX6_numberOf : List Cond := .code yX6_numberOf cX6_numberOf 10 (some .int) :: ([.static yX11_isLetter, .initialized RX11, .code yX11_isLetter cX11_isLetter 1 (some .boolean), .methodLink RX6 42 yX6_signOf, .static yX6_signOf, .initialized RX6, .code yX6_signOf cX6_signOf 1 (some .int), .methodLink RX6 46 yX6_find, .instanceMethod yX6_find, .selects RX6 yX6_find yX6_find, .code yX6_find cX6_find 9 (some .int), .constantLong RX6 50 (-7046029254386353131), .fieldLink RX6 19 "ProofServer$Names" "slots" "[I", .fieldLink RX6 52 "ProofServer$Names" "count" "I", .fieldLink RX6 11 "ProofServer$Names" "stems" "[J", .fieldLink RX6 15 "ProofServer$Names" "primes" "[I"] ++ wsX60)
def wsX10_add : List Cond := .code yX10_add cX10_add 3 none :: ([.fieldLink RX10 28 "ProofServer$Syntax" "tokens" "I", .fieldLink RX10 9 "ProofServer$Syntax" "kinds" "[I", .fieldLink RX10 15 "ProofServer$Syntax" "values" "[I"] ++ wsX100)
def wsX10_scanName_r1 : List Cond := [Cond.fieldLink RX10 24 "ProofServer$Syntax" "names" "LProofServer$Names;", Cond.static yX6_signOf, Cond.initialized RX6, Cond.code yX6_signOf cX6_signOf 1 (some .int), Cond.methodLink RX10 79 yX6_numberOf, Cond.instanceMethod yX6_numberOf, Cond.selects RX6 yX6_numberOf yX6_numberOf, Cond.code yX6_numberOf cX6_numberOf 10 (some .int), Cond.static yX11_isLetter, Cond.initialized RX11, Cond.code yX11_isLetter cX11_isLetter 1 (some .boolean), Cond.methodLink RX6 42 yX6_signOf, Cond.methodLink RX6 46 yX6_find, Cond.instanceMethod yX6_find, Cond.selects RX6 yX6_find yX6_find, Cond.code yX6_find cX6_find 9 (some .int), Cond.constantLong RX6 50 (-7046029254386353131), Cond.fieldLink RX6 19 "ProofServer$Names" "slots" "[I", Cond.fieldLink RX6 52 "ProofServer$Names" "count" "I", Cond.fieldLink RX6 11 "ProofServer$Names" "stems" "[J", Cond.fieldLink RX6 15 "ProofServer$Names" "primes" "[I", Cond.methodLink RX10 56 yX10_add, Cond.instanceMethod yX10_add, Cond.selects RX10 yX10_add yX10_add]
def wsX10_scanName_r2 : List Cond := [Cond.initialized RX10, Cond.code yX10_add cX10_add 3 none, Cond.fieldLink RX10 28 "ProofServer$Syntax" "tokens" "I", Cond.fieldLink RX10 9 "ProofServer$Syntax" "kinds" "[I", Cond.fieldLink RX10 15 "ProofServer$Syntax" "values" "[I"]
def wsX10_scanName : List Cond := .code yX10_scanName cX10_scanName 6 (some .int) :: ((wsX10_scanName_r1 ++ wsX10_scanName_r2) ++ wsX100 ++ wsX60)
def wsX10_scan_r1 : List Cond := [Cond.fieldLink RX10 28 "ProofServer$Syntax" "tokens" "I", Cond.methodLink RX10 32 Lib.Math.min.name, Cond.static Lib.Math.min.name, Cond.initialized "java/lang/Math", Cond.code Lib.Math.min.name Lib.Math.min.code 2 (some .int), Cond.methodLink RX10 38 Lib.Math.max.name, Cond.static Lib.Math.max.name, Cond.code Lib.Math.max.name Lib.Math.max.code 2 (some .int), Cond.static yX11_opensComment, Cond.initialized RX11, Cond.code yX11_opensComment cX11_opensComment 3 (some .boolean), Cond.static yX11_commentEnd, Cond.code yX11_commentEnd cX11_commentEnd 5 (some .int), Cond.methodLink RX11 609 yX11_opensComment, Cond.static yX11_isLetter, Cond.code yX11_isLetter cX11_isLetter 1 (some .boolean), Cond.methodLink RX10 53 yX10_scanName, Cond.instanceMethod yX10_scanName, Cond.selects RX10 yX10_scanName yX10_scanName, Cond.initialized RX10, Cond.code yX10_scanName cX10_scanName 6 (some .int), Cond.fieldLink RX10 24 "ProofServer$Syntax" "names" "LProofServer$Names;", Cond.static yX6_signOf, Cond.initialized RX6]
def wsX10_scan_r2 : List Cond := [Cond.code yX6_signOf cX6_signOf 1 (some .int), Cond.methodLink RX10 79 yX6_numberOf, Cond.instanceMethod yX6_numberOf, Cond.selects RX6 yX6_numberOf yX6_numberOf, Cond.code yX6_numberOf cX6_numberOf 10 (some .int), Cond.methodLink RX6 42 yX6_signOf, Cond.methodLink RX6 46 yX6_find, Cond.instanceMethod yX6_find, Cond.selects RX6 yX6_find yX6_find, Cond.code yX6_find cX6_find 9 (some .int), Cond.constantLong RX6 50 (-7046029254386353131), Cond.fieldLink RX6 19 "ProofServer$Names" "slots" "[I", Cond.fieldLink RX6 52 "ProofServer$Names" "count" "I", Cond.fieldLink RX6 11 "ProofServer$Names" "stems" "[J", Cond.fieldLink RX6 15 "ProofServer$Names" "primes" "[I", Cond.methodLink RX10 56 yX10_add, Cond.instanceMethod yX10_add, Cond.selects RX10 yX10_add yX10_add, Cond.code yX10_add cX10_add 3 none, Cond.fieldLink RX10 9 "ProofServer$Syntax" "kinds" "[I", Cond.fieldLink RX10 15 "ProofServer$Syntax" "values" "[I", Cond.static yX11_isDigit, Cond.code yX11_isDigit cX11_isDigit 1 (some .boolean), Cond.static yX11_isBlank]
def wsX10_scan_r3 : List Cond := [Cond.code yX11_isBlank cX11_isBlank 1 (some .boolean), Cond.methodLink RX10 68 yJ0_indexOf_0f7a4, Cond.instanceMethod yJ0_indexOf_0f7a4, Cond.selects RJ0 yJ0_indexOf_0f7a4 yJ0_indexOf_0f7a4, Cond.initialized RJ0, Cond.code yJ0_indexOf_0f7a4 cJ0_indexOf_0f7a4 2 (some .int), Cond.methodLink RJ0 633 yJ0_indexOf_7cf53, Cond.instanceMethod yJ0_indexOf_7cf53, Cond.selects RJ0 yJ0_indexOf_7cf53 yJ0_indexOf_7cf53, Cond.code yJ0_indexOf_7cf53 cJ0_indexOf_7cf53 3 (some .int), Cond.fieldLink RJ0 9 "java/lang/String" "value" "[B", Cond.methodLink RJ0 492 yJ0_isLatin1_aae02, Cond.instanceMethod yJ0_isLatin1_aae02, Cond.selects RJ0 yJ0_isLatin1_aae02 yJ0_isLatin1_aae02, Cond.code yJ0_isLatin1_aae02 cJ0_isLatin1_aae02 1 (some .boolean), Cond.fieldLink RJ0 38 "java/lang/String" "COMPACT_STRINGS" "Z", Cond.fieldLink RJ0 15 "java/lang/String" "coder" "B", Cond.methodLink RJ0 505 yJ0_length_8abf5, Cond.instanceMethod yJ0_length_8abf5, Cond.selects RJ0 yJ0_length_8abf5 yJ0_length_8abf5, Cond.code yJ0_length_8abf5 cJ0_length_8abf5 1 (some .int), Cond.methodLink RJ0 335 yJ0_coder_7d493, Cond.instanceMethod yJ0_coder_7d493, Cond.selects RJ0 yJ0_coder_7d493 yJ0_coder_7d493]
def wsX10_scan_r4 : List Cond := [Cond.code yJ0_coder_7d493 cJ0_coder_7d493 1 (some .byte), Cond.methodLink RJ0 637 yJ1_indexOf_4cfef, Cond.static yJ1_indexOf_4cfef, Cond.initialized RJ1, Cond.code yJ1_indexOf_4cfef cJ1_indexOf_4cfef 4 (some .int), Cond.methodLink RJ1 92 Lib.Math.max.name, Cond.methodLink RJ1 38 Lib.Math.min.name, Cond.methodLink RJ1 88 yJ1_canEncode_9a6ad, Cond.static yJ1_canEncode_9a6ad, Cond.code yJ1_canEncode_9a6ad cJ1_canEncode_9a6ad 1 (some .boolean), Cond.methodLink RJ1 95 yJ1_indexOfChar_4cfef, Cond.static yJ1_indexOfChar_4cfef, Cond.code yJ1_indexOfChar_4cfef cJ1_indexOfChar_4cfef 6 (some .int), Cond.methodLink RJ0 640 yJ2_indexOf_4cfef, Cond.static yJ2_indexOf_4cfef, Cond.initialized RJ2, Cond.code yJ2_indexOf_4cfef cJ2_indexOf_4cfef 4 (some .int), Cond.methodLink RJ2 224 Lib.Math.max.name, Cond.methodLink RJ2 183 Lib.Math.min.name, Cond.constant RJ2 227 (65536), Cond.methodLink RJ2 228 yJ2_indexOfChar_4cfef, Cond.static yJ2_indexOfChar_4cfef, Cond.code yJ2_indexOfChar_4cfef cJ2_indexOfChar_4cfef 4 (some .int), Cond.methodLink RJ2 96 yJ2_checkBoundsBeginEnd_d044e]
def wsX10_scan_r5 : List Cond := [Cond.static yJ2_checkBoundsBeginEnd_d044e, Cond.code yJ2_checkBoundsBeginEnd_d044e cJ2_checkBoundsBeginEnd_d044e 3 none, Cond.methodLink RJ2 48 yJ2_length_9d52b, Cond.static yJ2_length_9d52b, Cond.code yJ2_length_9d52b cJ2_length_9d52b 1 (some .int), Cond.methodLink RJ2 241 yJ0_checkBoundsBeginEnd_23922, Cond.static yJ0_checkBoundsBeginEnd_23922, Cond.code yJ0_checkBoundsBeginEnd_23922 cJ0_checkBoundsBeginEnd_23922 3 none, Cond.fieldLink RJ0 1053 "jdk/internal/util/Preconditions" "SIOOBE_FORMATTER" "Ljava/util/function/BiFunction;", Cond.methodLink RJ0 1062 yJ3_checkFromToIndex_8c36e, Cond.static yJ3_checkFromToIndex_8c36e, Cond.initialized RJ3, Cond.code yJ3_checkFromToIndex_8c36e cJ3_checkFromToIndex_8c36e 4 (some .int), Cond.methodLink RJ2 244 yJ2_indexOfCharUnsafe_4cfef, Cond.static yJ2_indexOfCharUnsafe_4cfef, Cond.code yJ2_indexOfCharUnsafe_4cfef cJ2_indexOfCharUnsafe_4cfef 5 (some .int), Cond.methodLink RJ2 71 yJ2_getChar_3b067, Cond.static yJ2_getChar_3b067, Cond.code yJ2_getChar_3b067 cJ2_getChar_3b067 2 (some .char), Cond.fieldLink RJ2 44 "java/lang/StringUTF16" "$assertionsDisabled" "Z", Cond.fieldLink RJ2 59 "java/lang/StringUTF16" "HI_BYTE_SHIFT" "I", Cond.fieldLink RJ2 63 "java/lang/StringUTF16" "LO_BYTE_SHIFT" "I", Cond.methodLink RJ2 232 yJ2_indexOfSupplementary_4cfef, Cond.static yJ2_indexOfSupplementary_4cfef]
def wsX10_scan_r6 : List Cond := [Cond.code yJ2_indexOfSupplementary_4cfef cJ2_indexOfSupplementary_4cfef 7 (some .int), Cond.methodLink RJ2 164 yJ11_isValidCodePoint_9a6ad, Cond.static yJ11_isValidCodePoint_9a6ad, Cond.initialized RJ11, Cond.code yJ11_isValidCodePoint_9a6ad cJ11_isValidCodePoint_9a6ad 2 (some .boolean), Cond.methodLink RJ2 157 yJ11_highSurrogate_5068e, Cond.static yJ11_highSurrogate_5068e, Cond.code yJ11_highSurrogate_5068e cJ11_highSurrogate_5068e 1 (some .char), Cond.constant RJ11 110 (55232), Cond.methodLink RJ2 161 yJ11_lowSurrogate_5068e, Cond.static yJ11_lowSurrogate_5068e, Cond.code yJ11_lowSurrogate_5068e cJ11_lowSurrogate_5068e 1 (some .char), Cond.constant RJ11 76 (56320)]
def wsX10_scan : List Cond := .code yX10_scan cX10_scan 8 (some .int) :: ((wsX10_scan_r1 ++ (wsX10_scan_r2 ++ (wsX10_scan_r3 ++ (wsX10_scan_r4 ++ (wsX10_scan_r5 ++ wsX10_scan_r6))))) ++ wsX100 ++ wsX60)
def wsX10_peek : List Cond := .code yX10_peek cX10_peek 1 (some .int) :: ([.fieldLink RX10 83 "ProofServer$Syntax" "at" "I", .fieldLink RX10 28 "ProofServer$Syntax" "tokens" "I", .fieldLink RX10 9 "ProofServer$Syntax" "kinds" "[I"] ++ wsX100)
def wsX10_peekName : List Cond := .code yX10_peekName cX10_peekName 1 (some .int) :: ([.fieldLink RX10 15 "ProofServer$Syntax" "values" "[I", .fieldLink RX10 83 "ProofServer$Syntax" "at" "I", .methodLink RX10 115 yX10_peek, .instanceMethod yX10_peek, .selects RX10 yX10_peek yX10_peek, .initialized RX10, .code yX10_peek cX10_peek 1 (some .int), .fieldLink RX10 28 "ProofServer$Syntax" "tokens" "I", .fieldLink RX10 9 "ProofServer$Syntax" "kinds" "[I"] ++ wsX100)
def wsX10_isName : List Cond := .code yX10_isName cX10_isName 2 (some .boolean) :: ([.fieldLink RX10 83 "ProofServer$Syntax" "at" "I", .fieldLink RX10 86 "ProofServer$Syntax" "toldCount" "I", .fieldLink RX10 18 "ProofServer$Syntax" "told" "[I", .methodLink RX10 119 yX10_peekName, .instanceMethod yX10_peekName, .selects RX10 yX10_peekName yX10_peekName, .initialized RX10, .code yX10_peekName cX10_peekName 1 (some .int), .fieldLink RX10 15 "ProofServer$Syntax" "values" "[I", .methodLink RX10 115 yX10_peek, .instanceMethod yX10_peek, .selects RX10 yX10_peek yX10_peek, .code yX10_peek cX10_peek 1 (some .int), .fieldLink RX10 28 "ProofServer$Syntax" "tokens" "I", .fieldLink RX10 9 "ProofServer$Syntax" "kinds" "[I"] ++ wsX100)
def wsX10_isArity : List Cond := .code yX10_isArity cX10_isArity 1 (some .boolean) :: ([.fieldLink RX10 15 "ProofServer$Syntax" "values" "[I", .fieldLink RX10 83 "ProofServer$Syntax" "at" "I", .fieldLink RX10 92 "ProofServer$Syntax" "terms" "I", .methodLink RX10 115 yX10_peek, .instanceMethod yX10_peek, .selects RX10 yX10_peek yX10_peek, .initialized RX10, .code yX10_peek cX10_peek 1 (some .int), .fieldLink RX10 28 "ProofServer$Syntax" "tokens" "I", .fieldLink RX10 9 "ProofServer$Syntax" "kinds" "[I"] ++ wsX100)
def wsX10_isSign : List Cond := .code yX10_isSign cX10_isSign 3 (some .boolean) :: ([.fieldLink RX10 83 "ProofServer$Syntax" "at" "I", .fieldLink RX10 28 "ProofServer$Syntax" "tokens" "I", .fieldLink RX10 9 "ProofServer$Syntax" "kinds" "[I"] ++ wsX100)
def wsX10_insertNode : List Cond := .code yX10_insertNode cX10_insertNode 4 (some .boolean) :: ([.fieldLink RX10 89 "ProofServer$Syntax" "nodeCount" "I", .fieldLink RX10 21 "ProofServer$Syntax" "nodes" "[I"] ++ wsX100)
def wsX10_addNode : List Cond := .code yX10_addNode cX10_addNode 2 (some .boolean) :: ([.fieldLink RX10 89 "ProofServer$Syntax" "nodeCount" "I", .fieldLink RX10 21 "ProofServer$Syntax" "nodes" "[I"] ++ wsX100)
set_option maxRecDepth 20000 in
theorem ggX6_numberOf_X11_isLetter : GoodIn wsX6_numberOf wsX11_isLetter := goodIn_r _ [3] (by decide +kernel) (by decide +kernel)
set_option maxRecDepth 20000 in
theorem gX6_numberOf_X11_isLetter_n38 : GoodIn wsX6_numberOf (wsX11_isLetter) := ggX6_numberOf_X11_isLetter
set_option maxRecDepth 20000 in
theorem ggX6_numberOf_X6_signOf : GoodIn wsX6_numberOf wsX6_signOf := goodIn_r _ [7] (by decide +kernel) (by decide +kernel)
set_option maxRecDepth 20000 in
theorem gX6_numberOf_X6_signOf : GoodIn wsX6_numberOf (va_wsS RX6 42 yX6_signOf wsX6_signOf) := goodIn_app (goodIn_of _ (by decide +kernel)) ggX6_numberOf_X6_signOf
set_option maxRecDepth 20000 in
theorem ggX6_numberOf_X6_find : GoodIn wsX6_numberOf wsX6_find := goodIn_r _ [11, 12, 13, 14, 15, 16, 17, 18, 19, 20] (by decide +kernel) (by decide +kernel)
set_option maxRecDepth 20000 in
theorem gX6_numberOf_X6_find : GoodIn wsX6_numberOf (wsV RX6 46 RX6 yX6_find wsX6_find) := goodIn_app (goodIn_of _ (by decide +kernel)) ggX6_numberOf_X6_find
theorem dX6_numberOf_0 : decode cX6_numberOf 0 = .ok (.iload_n 2, 1) := by decide +kernel
theorem dX6_numberOf_1 : decode cX6_numberOf 1 = .ok (.ifCond .lt 31, 3) := by decide +kernel
theorem dX6_numberOf_4 : decode cX6_numberOf 4 = .ok (.iload_n 3, 1) := by decide +kernel
theorem dX6_numberOf_5 : decode cX6_numberOf 5 = .ok (.aload_n 1, 1) := by decide +kernel
theorem dX6_numberOf_6 : decode cX6_numberOf 6 = .ok (.arraylength, 1) := by decide +kernel
theorem dX6_numberOf_7 : decode cX6_numberOf 7 = .ok (.if_icmp .gt 25, 3) := by decide +kernel
theorem dX6_numberOf_10 : decode cX6_numberOf 10 = .ok (.iload_n 2, 1) := by decide +kernel
theorem dX6_numberOf_11 : decode cX6_numberOf 11 = .ok (.iload_n 3, 1) := by decide +kernel
theorem dX6_numberOf_12 : decode cX6_numberOf 12 = .ok (.if_icmp .ge 20, 3) := by decide +kernel
theorem dX6_numberOf_15 : decode cX6_numberOf 15 = .ok (.iload_n 3, 1) := by decide +kernel
theorem dX6_numberOf_16 : decode cX6_numberOf 16 = .ok (.iload_n 2, 1) := by decide +kernel
theorem dX6_numberOf_17 : decode cX6_numberOf 17 = .ok (.isub, 1) := by decide +kernel
theorem dX6_numberOf_18 : decode cX6_numberOf 18 = .ok (.bipush 10, 2) := by decide +kernel
theorem dX6_numberOf_20 : decode cX6_numberOf 20 = .ok (.if_icmp .gt 12, 3) := by decide +kernel
theorem dX6_numberOf_23 : decode cX6_numberOf 23 = .ok (.aload_n 1, 1) := by decide +kernel
theorem dX6_numberOf_24 : decode cX6_numberOf 24 = .ok (.iload_n 2, 1) := by decide +kernel
theorem dX6_numberOf_25 : decode cX6_numberOf 25 = .ok (.iaload, 1) := by decide +kernel
theorem dX6_numberOf_26 : decode cX6_numberOf 26 = .ok (.invokestatic 38, 3) := by decide +kernel
theorem dX6_numberOf_29 : decode cX6_numberOf 29 = .ok (.ifCond .ne 5, 3) := by decide +kernel
theorem dX6_numberOf_32 : decode cX6_numberOf 32 = .ok (.iconst (-1), 1) := by decide +kernel
theorem dX6_numberOf_33 : decode cX6_numberOf 33 = .ok (.ireturn, 1) := by decide +kernel
theorem dX6_numberOf_34 : decode cX6_numberOf 34 = .ok (.iload_n 3, 1) := by decide +kernel
theorem dX6_numberOf_35 : decode cX6_numberOf 35 = .ok (.istore 5, 2) := by decide +kernel
theorem dX6_numberOf_37 : decode cX6_numberOf 37 = .ok (.iload 5, 2) := by decide +kernel
theorem dX6_numberOf_39 : decode cX6_numberOf 39 = .ok (.iload_n 2, 1) := by decide +kernel
theorem dX6_numberOf_40 : decode cX6_numberOf 40 = .ok (.if_icmp .le 20, 3) := by decide +kernel
theorem dX6_numberOf_43 : decode cX6_numberOf 43 = .ok (.aload_n 1, 1) := by decide +kernel
theorem dX6_numberOf_44 : decode cX6_numberOf 44 = .ok (.iload 5, 2) := by decide +kernel
theorem dX6_numberOf_46 : decode cX6_numberOf 46 = .ok (.iconst 1, 1) := by decide +kernel
theorem dX6_numberOf_47 : decode cX6_numberOf 47 = .ok (.isub, 1) := by decide +kernel
theorem dX6_numberOf_48 : decode cX6_numberOf 48 = .ok (.iaload, 1) := by decide +kernel
theorem dX6_numberOf_49 : decode cX6_numberOf 49 = .ok (.bipush 39, 2) := by decide +kernel
theorem dX6_numberOf_51 : decode cX6_numberOf 51 = .ok (.if_icmp .ne 9, 3) := by decide +kernel
theorem dX6_numberOf_54 : decode cX6_numberOf 54 = .ok (.iinc 5 (-1), 3) := by decide +kernel
theorem dX6_numberOf_57 : decode cX6_numberOf 57 = .ok (.goto (-20), 3) := by decide +kernel
theorem dX6_numberOf_60 : decode cX6_numberOf 60 = .ok (.lconst 1, 1) := by decide +kernel
theorem dX6_numberOf_61 : decode cX6_numberOf 61 = .ok (.lstore 6, 2) := by decide +kernel
theorem dX6_numberOf_63 : decode cX6_numberOf 63 = .ok (.iload 5, 2) := by decide +kernel
theorem dX6_numberOf_65 : decode cX6_numberOf 65 = .ok (.iconst 1, 1) := by decide +kernel
theorem dX6_numberOf_66 : decode cX6_numberOf 66 = .ok (.isub, 1) := by decide +kernel
theorem dX6_numberOf_67 : decode cX6_numberOf 67 = .ok (.istore 8, 2) := by decide +kernel
theorem dX6_numberOf_69 : decode cX6_numberOf 69 = .ok (.iload 8, 2) := by decide +kernel
theorem dX6_numberOf_71 : decode cX6_numberOf 71 = .ok (.iload_n 2, 1) := by decide +kernel
theorem dX6_numberOf_72 : decode cX6_numberOf 72 = .ok (.if_icmp .lt 36, 3) := by decide +kernel
theorem dX6_numberOf_75 : decode cX6_numberOf 75 = .ok (.aload_n 1, 1) := by decide +kernel
theorem dX6_numberOf_76 : decode cX6_numberOf 76 = .ok (.iload 8, 2) := by decide +kernel
theorem dX6_numberOf_78 : decode cX6_numberOf 78 = .ok (.iaload, 1) := by decide +kernel
theorem dX6_numberOf_79 : decode cX6_numberOf 79 = .ok (.invokestatic 42, 3) := by decide +kernel
theorem dX6_numberOf_82 : decode cX6_numberOf 82 = .ok (.istore 9, 2) := by decide +kernel
theorem dX6_numberOf_84 : decode cX6_numberOf 84 = .ok (.iload 9, 2) := by decide +kernel
theorem dX6_numberOf_86 : decode cX6_numberOf 86 = .ok (.ifCond .ge 5, 3) := by decide +kernel
theorem dX6_numberOf_89 : decode cX6_numberOf 89 = .ok (.iconst (-1), 1) := by decide +kernel
theorem dX6_numberOf_90 : decode cX6_numberOf 90 = .ok (.ireturn, 1) := by decide +kernel
theorem dX6_numberOf_91 : decode cX6_numberOf 91 = .ok (.lload 6, 2) := by decide +kernel
theorem dX6_numberOf_93 : decode cX6_numberOf 93 = .ok (.bipush 6, 2) := by decide +kernel
theorem dX6_numberOf_95 : decode cX6_numberOf 95 = .ok (.lshl, 1) := by decide +kernel
theorem dX6_numberOf_96 : decode cX6_numberOf 96 = .ok (.iload 9, 2) := by decide +kernel
theorem dX6_numberOf_98 : decode cX6_numberOf 98 = .ok (.i2l, 1) := by decide +kernel
theorem dX6_numberOf_99 : decode cX6_numberOf 99 = .ok (.lor, 1) := by decide +kernel
theorem dX6_numberOf_100 : decode cX6_numberOf 100 = .ok (.lstore 6, 2) := by decide +kernel
theorem dX6_numberOf_102 : decode cX6_numberOf 102 = .ok (.iinc 8 (-1), 3) := by decide +kernel
theorem dX6_numberOf_105 : decode cX6_numberOf 105 = .ok (.goto (-36), 3) := by decide +kernel
theorem dX6_numberOf_108 : decode cX6_numberOf 108 = .ok (.aload_n 0, 1) := by decide +kernel
theorem dX6_numberOf_109 : decode cX6_numberOf 109 = .ok (.lload 6, 2) := by decide +kernel
theorem dX6_numberOf_111 : decode cX6_numberOf 111 = .ok (.iload_n 3, 1) := by decide +kernel
theorem dX6_numberOf_112 : decode cX6_numberOf 112 = .ok (.iload 5, 2) := by decide +kernel
theorem dX6_numberOf_114 : decode cX6_numberOf 114 = .ok (.isub, 1) := by decide +kernel
theorem dX6_numberOf_115 : decode cX6_numberOf 115 = .ok (.iload 4, 2) := by decide +kernel
theorem dX6_numberOf_117 : decode cX6_numberOf 117 = .ok (.invokevirtual 46, 3) := by decide +kernel
theorem dX6_numberOf_120 : decode cX6_numberOf 120 = .ok (.ireturn, 1) := by decide +kernel
theorem dX6_find_0 : decode cX6_find 0 = .ok (.lload_n 1, 1) := by decide +kernel
theorem dX6_find_1 : decode cX6_find 1 = .ok (.ldc2_w 50, 3) := by decide +kernel
theorem dX6_find_4 : decode cX6_find 4 = .ok (.lmul, 1) := by decide +kernel
theorem dX6_find_5 : decode cX6_find 5 = .ok (.bipush 40, 2) := by decide +kernel
theorem dX6_find_7 : decode cX6_find 7 = .ok (.lushr, 1) := by decide +kernel
theorem dX6_find_8 : decode cX6_find 8 = .ok (.l2i, 1) := by decide +kernel
theorem dX6_find_9 : decode cX6_find 9 = .ok (.bipush 31, 2) := by decide +kernel
theorem dX6_find_11 : decode cX6_find 11 = .ok (.iload_n 3, 1) := by decide +kernel
theorem dX6_find_12 : decode cX6_find 12 = .ok (.imul, 1) := by decide +kernel
theorem dX6_find_13 : decode cX6_find 13 = .ok (.iadd, 1) := by decide +kernel
theorem dX6_find_14 : decode cX6_find 14 = .ok (.istore 5, 2) := by decide +kernel
theorem dX6_find_16 : decode cX6_find 16 = .ok (.iconst 0, 1) := by decide +kernel
theorem dX6_find_17 : decode cX6_find 17 = .ok (.istore 6, 2) := by decide +kernel
theorem dX6_find_19 : decode cX6_find 19 = .ok (.iload 6, 2) := by decide +kernel
theorem dX6_find_21 : decode cX6_find 21 = .ok (.sipush 16384, 3) := by decide +kernel
theorem dX6_find_24 : decode cX6_find 24 = .ok (.if_icmp .ge 127, 3) := by decide +kernel
theorem dX6_find_27 : decode cX6_find 27 = .ok (.iload 5, 2) := by decide +kernel
theorem dX6_find_29 : decode cX6_find 29 = .ok (.iload 6, 2) := by decide +kernel
theorem dX6_find_31 : decode cX6_find 31 = .ok (.iadd, 1) := by decide +kernel
theorem dX6_find_32 : decode cX6_find 32 = .ok (.sipush 16383, 3) := by decide +kernel
theorem dX6_find_35 : decode cX6_find 35 = .ok (.iand, 1) := by decide +kernel
theorem dX6_find_36 : decode cX6_find 36 = .ok (.istore 7, 2) := by decide +kernel
theorem dX6_find_38 : decode cX6_find 38 = .ok (.aload_n 0, 1) := by decide +kernel
theorem dX6_find_39 : decode cX6_find 39 = .ok (.getfield 19, 3) := by decide +kernel
theorem dX6_find_42 : decode cX6_find 42 = .ok (.iload 7, 2) := by decide +kernel
theorem dX6_find_44 : decode cX6_find 44 = .ok (.iaload, 1) := by decide +kernel
theorem dX6_find_45 : decode cX6_find 45 = .ok (.iconst 1, 1) := by decide +kernel
theorem dX6_find_46 : decode cX6_find 46 = .ok (.isub, 1) := by decide +kernel
theorem dX6_find_47 : decode cX6_find 47 = .ok (.istore 8, 2) := by decide +kernel
theorem dX6_find_49 : decode cX6_find 49 = .ok (.iload 8, 2) := by decide +kernel
theorem dX6_find_51 : decode cX6_find 51 = .ok (.ifCond .ge 68, 3) := by decide +kernel
theorem dX6_find_54 : decode cX6_find 54 = .ok (.iload 4, 2) := by decide +kernel
theorem dX6_find_56 : decode cX6_find 56 = .ok (.ifCond .eq 13, 3) := by decide +kernel
theorem dX6_find_59 : decode cX6_find 59 = .ok (.aload_n 0, 1) := by decide +kernel
theorem dX6_find_60 : decode cX6_find 60 = .ok (.getfield 52, 3) := by decide +kernel
theorem dX6_find_63 : decode cX6_find 63 = .ok (.sipush 8192, 3) := by decide +kernel
theorem dX6_find_66 : decode cX6_find 66 = .ok (.if_icmp .lt 5, 3) := by decide +kernel
theorem dX6_find_69 : decode cX6_find 69 = .ok (.iconst (-1), 1) := by decide +kernel
theorem dX6_find_70 : decode cX6_find 70 = .ok (.ireturn, 1) := by decide +kernel
theorem dX6_find_71 : decode cX6_find 71 = .ok (.aload_n 0, 1) := by decide +kernel
theorem dX6_find_72 : decode cX6_find 72 = .ok (.getfield 11, 3) := by decide +kernel
theorem dX6_find_75 : decode cX6_find 75 = .ok (.aload_n 0, 1) := by decide +kernel
theorem dX6_find_76 : decode cX6_find 76 = .ok (.getfield 52, 3) := by decide +kernel
theorem dX6_find_79 : decode cX6_find 79 = .ok (.lload_n 1, 1) := by decide +kernel
theorem dX6_find_80 : decode cX6_find 80 = .ok (.lastore, 1) := by decide +kernel
theorem dX6_find_81 : decode cX6_find 81 = .ok (.aload_n 0, 1) := by decide +kernel
theorem dX6_find_82 : decode cX6_find 82 = .ok (.getfield 15, 3) := by decide +kernel
theorem dX6_find_85 : decode cX6_find 85 = .ok (.aload_n 0, 1) := by decide +kernel
theorem dX6_find_86 : decode cX6_find 86 = .ok (.getfield 52, 3) := by decide +kernel
theorem dX6_find_89 : decode cX6_find 89 = .ok (.iload_n 3, 1) := by decide +kernel
theorem dX6_find_90 : decode cX6_find 90 = .ok (.iastore, 1) := by decide +kernel
theorem dX6_find_91 : decode cX6_find 91 = .ok (.aload_n 0, 1) := by decide +kernel
theorem dX6_find_92 : decode cX6_find 92 = .ok (.dup, 1) := by decide +kernel
theorem dX6_find_93 : decode cX6_find 93 = .ok (.getfield 52, 3) := by decide +kernel
theorem dX6_find_96 : decode cX6_find 96 = .ok (.iconst 1, 1) := by decide +kernel
theorem dX6_find_97 : decode cX6_find 97 = .ok (.iadd, 1) := by decide +kernel
theorem dX6_find_98 : decode cX6_find 98 = .ok (.putfield 52, 3) := by decide +kernel
theorem dX6_find_101 : decode cX6_find 101 = .ok (.aload_n 0, 1) := by decide +kernel
theorem dX6_find_102 : decode cX6_find 102 = .ok (.getfield 19, 3) := by decide +kernel
theorem dX6_find_105 : decode cX6_find 105 = .ok (.iload 7, 2) := by decide +kernel
theorem dX6_find_107 : decode cX6_find 107 = .ok (.aload_n 0, 1) := by decide +kernel
theorem dX6_find_108 : decode cX6_find 108 = .ok (.getfield 52, 3) := by decide +kernel
theorem dX6_find_111 : decode cX6_find 111 = .ok (.iastore, 1) := by decide +kernel
theorem dX6_find_112 : decode cX6_find 112 = .ok (.aload_n 0, 1) := by decide +kernel
theorem dX6_find_113 : decode cX6_find 113 = .ok (.getfield 52, 3) := by decide +kernel
theorem dX6_find_116 : decode cX6_find 116 = .ok (.iconst 1, 1) := by decide +kernel
theorem dX6_find_117 : decode cX6_find 117 = .ok (.isub, 1) := by decide +kernel
theorem dX6_find_118 : decode cX6_find 118 = .ok (.ireturn, 1) := by decide +kernel
theorem dX6_find_119 : decode cX6_find 119 = .ok (.aload_n 0, 1) := by decide +kernel
theorem dX6_find_120 : decode cX6_find 120 = .ok (.getfield 11, 3) := by decide +kernel
theorem dX6_find_123 : decode cX6_find 123 = .ok (.iload 8, 2) := by decide +kernel
theorem dX6_find_125 : decode cX6_find 125 = .ok (.laload, 1) := by decide +kernel
theorem dX6_find_126 : decode cX6_find 126 = .ok (.lload_n 1, 1) := by decide +kernel
theorem dX6_find_127 : decode cX6_find 127 = .ok (.lcmp, 1) := by decide +kernel
theorem dX6_find_128 : decode cX6_find 128 = .ok (.ifCond .ne 17, 3) := by decide +kernel
theorem dX6_find_131 : decode cX6_find 131 = .ok (.aload_n 0, 1) := by decide +kernel
theorem dX6_find_132 : decode cX6_find 132 = .ok (.getfield 15, 3) := by decide +kernel
theorem dX6_find_135 : decode cX6_find 135 = .ok (.iload 8, 2) := by decide +kernel
theorem dX6_find_137 : decode cX6_find 137 = .ok (.iaload, 1) := by decide +kernel
theorem dX6_find_138 : decode cX6_find 138 = .ok (.iload_n 3, 1) := by decide +kernel
theorem dX6_find_139 : decode cX6_find 139 = .ok (.if_icmp .ne 6, 3) := by decide +kernel
theorem dX6_find_142 : decode cX6_find 142 = .ok (.iload 8, 2) := by decide +kernel
theorem dX6_find_144 : decode cX6_find 144 = .ok (.ireturn, 1) := by decide +kernel
theorem dX6_find_145 : decode cX6_find 145 = .ok (.iinc 6 1, 3) := by decide +kernel
theorem dX6_find_148 : decode cX6_find 148 = .ok (.goto (-129), 3) := by decide +kernel
theorem dX6_find_151 : decode cX6_find 151 = .ok (.iconst (-1), 1) := by decide +kernel
theorem dX6_find_152 : decode cX6_find 152 = .ok (.ireturn, 1) := by decide +kernel
set_option maxRecDepth 20000 in
theorem ggX10_scan_X11_opensComment : GoodIn wsX10_scan wsX11_opensComment := goodIn_r _ [11] (by decide +kernel) (by decide +kernel)
set_option maxRecDepth 20000 in
theorem gX10_scan_X11_opensComment_n41 : GoodIn wsX10_scan (wsX11_opensComment) := ggX10_scan_X11_opensComment
set_option maxRecDepth 20000 in
theorem ggX10_scan_X11_commentEnd : GoodIn wsX10_scan wsX11_commentEnd := goodIn_r _ [13, 14, 9, 10, 11] (by decide +kernel) (by decide +kernel)
set_option maxRecDepth 20000 in
theorem gX10_scan_X11_commentEnd_n45 : GoodIn wsX10_scan (wsX11_commentEnd) := ggX10_scan_X11_commentEnd
set_option maxRecDepth 20000 in
theorem ggX10_scan_X11_isLetter : GoodIn wsX10_scan wsX11_isLetter := goodIn_r _ [16] (by decide +kernel) (by decide +kernel)
set_option maxRecDepth 20000 in
theorem gX10_scan_X11_isLetter_n49 : GoodIn wsX10_scan (wsX11_isLetter) := ggX10_scan_X11_isLetter
set_option maxRecDepth 20000 in
theorem ggX10_scan_X10_scanName : GoodIn wsX10_scan wsX10_scanName := goodIn_r _ [21, 22, 23, 24, 25, 26, 27, 28, 29, 15, 10, 16, 30, 31, 32, 33, 34, 35, 36, 37, 38, 39, 40, 41, 42, 20, 43, 1, 44, 45, 134, 135, 136, 137, 138, 139, 140, 141, 142, 143, 144, 145, 146, 147, 148] (by decide +kernel) (by decide +kernel)
set_option maxRecDepth 20000 in
theorem gX10_scan_X10_scanName : GoodIn wsX10_scan (wsV RX10 53 RX10 yX10_scanName wsX10_scanName) := goodIn_app (goodIn_of _ (by decide +kernel)) ggX10_scan_X10_scanName
set_option maxRecDepth 20000 in
theorem ggX10_scan_X10_add : GoodIn wsX10_scan wsX10_add := goodIn_r _ [43, 1, 44, 45, 134, 135, 136, 137, 138, 139, 140, 141, 142, 143, 144] (by decide +kernel) (by decide +kernel)
set_option maxRecDepth 20000 in
theorem gX10_scan_X10_add : GoodIn wsX10_scan (wsV RX10 56 RX10 yX10_add wsX10_add) := goodIn_app (goodIn_of _ (by decide +kernel)) ggX10_scan_X10_add
set_option maxRecDepth 20000 in
theorem ggX10_scan_X11_isDigit : GoodIn wsX10_scan wsX11_isDigit := goodIn_r _ [47] (by decide +kernel) (by decide +kernel)
set_option maxRecDepth 20000 in
theorem gX10_scan_X11_isDigit_n60 : GoodIn wsX10_scan (wsX11_isDigit) := ggX10_scan_X11_isDigit
set_option maxRecDepth 20000 in
theorem ggX10_scan_X11_isBlank : GoodIn wsX10_scan wsX11_isBlank := goodIn_r _ [49] (by decide +kernel) (by decide +kernel)
set_option maxRecDepth 20000 in
theorem gX10_scan_X11_isBlank_n63 : GoodIn wsX10_scan (wsX11_isBlank) := ggX10_scan_X11_isBlank
set_option maxRecDepth 20000 in
theorem ggX10_scan_J0_indexOf_0f7a4 : GoodIn wsX10_scan wsJ0_indexOf_0f7a4 := goodIn_r _ [54, 55, 56, 57, 53, 58, 59, 60, 61, 62, 63, 64, 65, 66, 67, 68, 69, 70, 71, 72, 73, 74, 75, 76, 77, 78, 7, 4, 8, 79, 3, 5, 80, 81, 82, 83, 84, 85, 86, 87, 88, 89, 90, 91, 92, 93, 94, 95, 96, 97, 98, 99, 100, 101, 102, 103, 104, 105, 106, 107, 108, 109, 110, 111, 112, 113, 114, 115, 116, 117, 118, 119, 120, 121, 122, 123, 124, 125, 126, 127, 128, 129, 130, 131, 132, 133] (by decide +kernel) (by decide +kernel)
set_option maxRecDepth 20000 in
theorem gX10_scan_J0_indexOf_0f7a4 : GoodIn wsX10_scan (wsV RX10 68 RJ0 yJ0_indexOf_0f7a4 wsJ0_indexOf_0f7a4) := goodIn_app (goodIn_of _ (by decide +kernel)) ggX10_scan_J0_indexOf_0f7a4
theorem dX10_scan_0 : decode cX10_scan 0 = .ok (.aload_n 0, 1) := by decide +kernel
theorem dX10_scan_1 : decode cX10_scan 1 = .ok (.iconst 0, 1) := by decide +kernel
theorem dX10_scan_2 : decode cX10_scan 2 = .ok (.putfield 28, 3) := by decide +kernel
theorem dX10_scan_5 : decode cX10_scan 5 = .ok (.iload_n 3, 1) := by decide +kernel
theorem dX10_scan_6 : decode cX10_scan 6 = .ok (.aload_n 1, 1) := by decide +kernel
theorem dX10_scan_7 : decode cX10_scan 7 = .ok (.arraylength, 1) := by decide +kernel
theorem dX10_scan_8 : decode cX10_scan 8 = .ok (.invokestatic 32, 3) := by decide +kernel
theorem dX10_scan_11 : decode cX10_scan 11 = .ok (.istore 4, 2) := by decide +kernel
theorem dX10_scan_13 : decode cX10_scan 13 = .ok (.iload_n 2, 1) := by decide +kernel
theorem dX10_scan_14 : decode cX10_scan 14 = .ok (.iconst 0, 1) := by decide +kernel
theorem dX10_scan_15 : decode cX10_scan 15 = .ok (.invokestatic 38, 3) := by decide +kernel
theorem dX10_scan_18 : decode cX10_scan 18 = .ok (.istore 5, 2) := by decide +kernel
theorem dX10_scan_20 : decode cX10_scan 20 = .ok (.iload 5, 2) := by decide +kernel
theorem dX10_scan_22 : decode cX10_scan 22 = .ok (.iload 4, 2) := by decide +kernel
theorem dX10_scan_24 : decode cX10_scan 24 = .ok (.if_icmp .ge 216, 3) := by decide +kernel
theorem dX10_scan_27 : decode cX10_scan 27 = .ok (.iload 5, 2) := by decide +kernel
theorem dX10_scan_29 : decode cX10_scan 29 = .ok (.iconst 1, 1) := by decide +kernel
theorem dX10_scan_30 : decode cX10_scan 30 = .ok (.iadd, 1) := by decide +kernel
theorem dX10_scan_31 : decode cX10_scan 31 = .ok (.istore 6, 2) := by decide +kernel
theorem dX10_scan_33 : decode cX10_scan 33 = .ok (.aload_n 1, 1) := by decide +kernel
theorem dX10_scan_34 : decode cX10_scan 34 = .ok (.iload 5, 2) := by decide +kernel
theorem dX10_scan_36 : decode cX10_scan 36 = .ok (.iload 4, 2) := by decide +kernel
theorem dX10_scan_38 : decode cX10_scan 38 = .ok (.invokestatic 41, 3) := by decide +kernel
theorem dX10_scan_41 : decode cX10_scan 41 = .ok (.ifCond .eq 16, 3) := by decide +kernel
theorem dX10_scan_44 : decode cX10_scan 44 = .ok (.aload_n 1, 1) := by decide +kernel
theorem dX10_scan_45 : decode cX10_scan 45 = .ok (.iload 5, 2) := by decide +kernel
theorem dX10_scan_47 : decode cX10_scan 47 = .ok (.iload 4, 2) := by decide +kernel
theorem dX10_scan_49 : decode cX10_scan 49 = .ok (.invokestatic 45, 3) := by decide +kernel
theorem dX10_scan_52 : decode cX10_scan 52 = .ok (.istore 6, 2) := by decide +kernel
theorem dX10_scan_54 : decode cX10_scan 54 = .ok (.goto 172, 3) := by decide +kernel
theorem dX10_scan_57 : decode cX10_scan 57 = .ok (.aload_n 1, 1) := by decide +kernel
theorem dX10_scan_58 : decode cX10_scan 58 = .ok (.iload 5, 2) := by decide +kernel
theorem dX10_scan_60 : decode cX10_scan 60 = .ok (.iaload, 1) := by decide +kernel
theorem dX10_scan_61 : decode cX10_scan 61 = .ok (.invokestatic 49, 3) := by decide +kernel
theorem dX10_scan_64 : decode cX10_scan 64 = .ok (.ifCond .eq 17, 3) := by decide +kernel
theorem dX10_scan_67 : decode cX10_scan 67 = .ok (.aload_n 0, 1) := by decide +kernel
theorem dX10_scan_68 : decode cX10_scan 68 = .ok (.aload_n 1, 1) := by decide +kernel
theorem dX10_scan_69 : decode cX10_scan 69 = .ok (.iload 5, 2) := by decide +kernel
theorem dX10_scan_71 : decode cX10_scan 71 = .ok (.iload 4, 2) := by decide +kernel
theorem dX10_scan_73 : decode cX10_scan 73 = .ok (.invokevirtual 53, 3) := by decide +kernel
theorem dX10_scan_76 : decode cX10_scan 76 = .ok (.istore 6, 2) := by decide +kernel
theorem dX10_scan_78 : decode cX10_scan 78 = .ok (.goto 148, 3) := by decide +kernel
theorem dX10_scan_81 : decode cX10_scan 81 = .ok (.aload_n 1, 1) := by decide +kernel
theorem dX10_scan_82 : decode cX10_scan 82 = .ok (.iload 5, 2) := by decide +kernel
theorem dX10_scan_84 : decode cX10_scan 84 = .ok (.iaload, 1) := by decide +kernel
theorem dX10_scan_85 : decode cX10_scan 85 = .ok (.bipush 45, 2) := by decide +kernel
theorem dX10_scan_87 : decode cX10_scan 87 = .ok (.if_icmp .ne 39, 3) := by decide +kernel
theorem dX10_scan_90 : decode cX10_scan 90 = .ok (.iload 5, 2) := by decide +kernel
theorem dX10_scan_92 : decode cX10_scan 92 = .ok (.iconst 1, 1) := by decide +kernel
theorem dX10_scan_93 : decode cX10_scan 93 = .ok (.iadd, 1) := by decide +kernel
theorem dX10_scan_94 : decode cX10_scan 94 = .ok (.iload 4, 2) := by decide +kernel
theorem dX10_scan_96 : decode cX10_scan 96 = .ok (.if_icmp .ge 30, 3) := by decide +kernel
theorem dX10_scan_99 : decode cX10_scan 99 = .ok (.aload_n 1, 1) := by decide +kernel
theorem dX10_scan_100 : decode cX10_scan 100 = .ok (.iload 5, 2) := by decide +kernel
theorem dX10_scan_102 : decode cX10_scan 102 = .ok (.iconst 1, 1) := by decide +kernel
theorem dX10_scan_103 : decode cX10_scan 103 = .ok (.iadd, 1) := by decide +kernel
theorem dX10_scan_104 : decode cX10_scan 104 = .ok (.iaload, 1) := by decide +kernel
theorem dX10_scan_105 : decode cX10_scan 105 = .ok (.bipush 62, 2) := by decide +kernel
theorem dX10_scan_107 : decode cX10_scan 107 = .ok (.if_icmp .ne 19, 3) := by decide +kernel
theorem dX10_scan_110 : decode cX10_scan 110 = .ok (.aload_n 0, 1) := by decide +kernel
theorem dX10_scan_111 : decode cX10_scan 111 = .ok (.bipush 62, 2) := by decide +kernel
theorem dX10_scan_113 : decode cX10_scan 113 = .ok (.iconst 0, 1) := by decide +kernel
theorem dX10_scan_114 : decode cX10_scan 114 = .ok (.invokevirtual 56, 3) := by decide +kernel
theorem dX10_scan_117 : decode cX10_scan 117 = .ok (.iload 5, 2) := by decide +kernel
theorem dX10_scan_119 : decode cX10_scan 119 = .ok (.iconst 2, 1) := by decide +kernel
theorem dX10_scan_120 : decode cX10_scan 120 = .ok (.iadd, 1) := by decide +kernel
theorem dX10_scan_121 : decode cX10_scan 121 = .ok (.istore 6, 2) := by decide +kernel
theorem dX10_scan_123 : decode cX10_scan 123 = .ok (.goto 103, 3) := by decide +kernel
theorem dX10_scan_126 : decode cX10_scan 126 = .ok (.aload_n 1, 1) := by decide +kernel
theorem dX10_scan_127 : decode cX10_scan 127 = .ok (.iload 5, 2) := by decide +kernel
theorem dX10_scan_129 : decode cX10_scan 129 = .ok (.iaload, 1) := by decide +kernel
theorem dX10_scan_130 : decode cX10_scan 130 = .ok (.invokestatic 60, 3) := by decide +kernel
theorem dX10_scan_133 : decode cX10_scan 133 = .ok (.ifCond .eq 19, 3) := by decide +kernel
theorem dX10_scan_136 : decode cX10_scan 136 = .ok (.aload_n 0, 1) := by decide +kernel
theorem dX10_scan_137 : decode cX10_scan 137 = .ok (.bipush 100, 2) := by decide +kernel
theorem dX10_scan_139 : decode cX10_scan 139 = .ok (.aload_n 1, 1) := by decide +kernel
theorem dX10_scan_140 : decode cX10_scan 140 = .ok (.iload 5, 2) := by decide +kernel
theorem dX10_scan_142 : decode cX10_scan 142 = .ok (.iaload, 1) := by decide +kernel
theorem dX10_scan_143 : decode cX10_scan 143 = .ok (.bipush 48, 2) := by decide +kernel
theorem dX10_scan_145 : decode cX10_scan 145 = .ok (.isub, 1) := by decide +kernel
theorem dX10_scan_146 : decode cX10_scan 146 = .ok (.invokevirtual 56, 3) := by decide +kernel
theorem dX10_scan_149 : decode cX10_scan 149 = .ok (.goto 77, 3) := by decide +kernel
theorem dX10_scan_152 : decode cX10_scan 152 = .ok (.aload_n 1, 1) := by decide +kernel
theorem dX10_scan_153 : decode cX10_scan 153 = .ok (.iload 5, 2) := by decide +kernel
theorem dX10_scan_155 : decode cX10_scan 155 = .ok (.iaload, 1) := by decide +kernel
theorem dX10_scan_156 : decode cX10_scan 156 = .ok (.invokestatic 63, 3) := by decide +kernel
theorem dX10_scan_159 : decode cX10_scan 159 = .ok (.ifCond .ne 67, 3) := by decide +kernel
theorem dX10_scan_162 : decode cX10_scan 162 = .ok (.aload_n 1, 1) := by decide +kernel
theorem dX10_scan_163 : decode cX10_scan 163 = .ok (.iload 5, 2) := by decide +kernel
theorem dX10_scan_165 : decode cX10_scan 165 = .ok (.iaload, 1) := by decide +kernel
theorem dX10_scan_166 : decode cX10_scan 166 = .ok (.bipush 46, 2) := by decide +kernel
theorem dX10_scan_168 : decode cX10_scan 168 = .ok (.if_icmp .ne 10, 3) := by decide +kernel
theorem dX10_scan_171 : decode cX10_scan 171 = .ok (.iload 6, 2) := by decide +kernel
theorem dX10_scan_173 : decode cX10_scan 173 = .ok (.iload 4, 2) := by decide +kernel
theorem dX10_scan_175 : decode cX10_scan 175 = .ok (.if_icmp .eq 26, 3) := by decide +kernel
theorem dX10_scan_178 : decode cX10_scan 178 = .ok (.aload_n 1, 1) := by decide +kernel
theorem dX10_scan_179 : decode cX10_scan 179 = .ok (.iload 5, 2) := by decide +kernel
theorem dX10_scan_181 : decode cX10_scan 181 = .ok (.iaload, 1) := by decide +kernel
theorem dX10_scan_182 : decode cX10_scan 182 = .ok (.sipush 128, 3) := by decide +kernel
theorem dX10_scan_185 : decode cX10_scan 185 = .ok (.if_icmp .ge 20, 3) := by decide +kernel
theorem dX10_scan_188 : decode cX10_scan 188 = .ok (.ldc 66, 2) := by decide +kernel
theorem dX10_scan_190 : decode cX10_scan 190 = .ok (.aload_n 1, 1) := by decide +kernel
theorem dX10_scan_191 : decode cX10_scan 191 = .ok (.iload 5, 2) := by decide +kernel
theorem dX10_scan_193 : decode cX10_scan 193 = .ok (.iaload, 1) := by decide +kernel
theorem dX10_scan_194 : decode cX10_scan 194 = .ok (.i2c, 1) := by decide +kernel
theorem dX10_scan_195 : decode cX10_scan 195 = .ok (.invokevirtual 68, 3) := by decide +kernel
theorem dX10_scan_198 : decode cX10_scan 198 = .ok (.ifCond .lt 7, 3) := by decide +kernel
theorem dX10_scan_201 : decode cX10_scan 201 = .ok (.iconst 1, 1) := by decide +kernel
theorem dX10_scan_202 : decode cX10_scan 202 = .ok (.goto 4, 3) := by decide +kernel
theorem dX10_scan_205 : decode cX10_scan 205 = .ok (.iconst 0, 1) := by decide +kernel
theorem dX10_scan_206 : decode cX10_scan 206 = .ok (.istore 7, 2) := by decide +kernel
theorem dX10_scan_208 : decode cX10_scan 208 = .ok (.aload_n 0, 1) := by decide +kernel
theorem dX10_scan_209 : decode cX10_scan 209 = .ok (.iload 7, 2) := by decide +kernel
theorem dX10_scan_211 : decode cX10_scan 211 = .ok (.ifCond .eq 10, 3) := by decide +kernel
theorem dX10_scan_214 : decode cX10_scan 214 = .ok (.aload_n 1, 1) := by decide +kernel
theorem dX10_scan_215 : decode cX10_scan 215 = .ok (.iload 5, 2) := by decide +kernel
theorem dX10_scan_217 : decode cX10_scan 217 = .ok (.iaload, 1) := by decide +kernel
theorem dX10_scan_218 : decode cX10_scan 218 = .ok (.goto 4, 3) := by decide +kernel
theorem dX10_scan_221 : decode cX10_scan 221 = .ok (.iconst 0, 1) := by decide +kernel
theorem dX10_scan_222 : decode cX10_scan 222 = .ok (.iconst 0, 1) := by decide +kernel
theorem dX10_scan_223 : decode cX10_scan 223 = .ok (.invokevirtual 56, 3) := by decide +kernel
theorem dX10_scan_226 : decode cX10_scan 226 = .ok (.iload 5, 2) := by decide +kernel
theorem dX10_scan_228 : decode cX10_scan 228 = .ok (.iconst 1, 1) := by decide +kernel
theorem dX10_scan_229 : decode cX10_scan 229 = .ok (.iadd, 1) := by decide +kernel
theorem dX10_scan_230 : decode cX10_scan 230 = .ok (.iload 6, 2) := by decide +kernel
theorem dX10_scan_232 : decode cX10_scan 232 = .ok (.invokestatic 38, 3) := by decide +kernel
theorem dX10_scan_235 : decode cX10_scan 235 = .ok (.istore 5, 2) := by decide +kernel
theorem dX10_scan_237 : decode cX10_scan 237 = .ok (.goto (-217), 3) := by decide +kernel
theorem dX10_scan_240 : decode cX10_scan 240 = .ok (.aload_n 0, 1) := by decide +kernel
theorem dX10_scan_241 : decode cX10_scan 241 = .ok (.getfield 28, 3) := by decide +kernel
theorem dX10_scan_244 : decode cX10_scan 244 = .ok (.ireturn, 1) := by decide +kernel
set_option maxRecDepth 20000 in
theorem ggX10_scanName_X6_signOf : GoodIn wsX10_scanName wsX6_signOf := goodIn_r _ [4] (by decide +kernel) (by decide +kernel)
set_option maxRecDepth 20000 in
theorem gX10_scanName_X6_signOf_n74 : GoodIn wsX10_scanName (wsX6_signOf) := ggX10_scanName_X6_signOf
set_option maxRecDepth 20000 in
theorem ggX10_scanName_X6_numberOf : GoodIn wsX10_scanName wsX6_numberOf := goodIn_r _ [8, 9, 10, 11, 12, 2, 3, 4, 13, 14, 15, 16, 17, 18, 19, 20, 21, 41, 42, 43, 44] (by decide +kernel) (by decide +kernel)
set_option maxRecDepth 20000 in
theorem gX10_scanName_X6_numberOf : GoodIn wsX10_scanName (wsV RX10 79 RX6 yX6_numberOf wsX6_numberOf) := goodIn_app (goodIn_of _ (by decide +kernel)) ggX10_scanName_X6_numberOf
set_option maxRecDepth 20000 in
theorem ggX10_scanName_X10_add : GoodIn wsX10_scanName wsX10_add := goodIn_r _ [26, 27, 28, 29, 30, 31, 32, 33, 34, 35, 36, 37, 38, 39, 40] (by decide +kernel) (by decide +kernel)
set_option maxRecDepth 20000 in
theorem gX10_scanName_X10_add : GoodIn wsX10_scanName (wsV RX10 56 RX10 yX10_add wsX10_add) := goodIn_app (goodIn_of _ (by decide +kernel)) ggX10_scanName_X10_add
theorem dX10_scanName_0 : decode cX10_scanName 0 = .ok (.iload_n 2, 1) := by decide +kernel
theorem dX10_scanName_1 : decode cX10_scanName 1 = .ok (.iconst 1, 1) := by decide +kernel
theorem dX10_scanName_2 : decode cX10_scanName 2 = .ok (.iadd, 1) := by decide +kernel
theorem dX10_scanName_3 : decode cX10_scanName 3 = .ok (.istore 4, 2) := by decide +kernel
theorem dX10_scanName_5 : decode cX10_scanName 5 = .ok (.iload 4, 2) := by decide +kernel
theorem dX10_scanName_7 : decode cX10_scanName 7 = .ok (.iload_n 3, 1) := by decide +kernel
theorem dX10_scanName_8 : decode cX10_scanName 8 = .ok (.if_icmp .ge 19, 3) := by decide +kernel
theorem dX10_scanName_11 : decode cX10_scanName 11 = .ok (.aload_n 1, 1) := by decide +kernel
theorem dX10_scanName_12 : decode cX10_scanName 12 = .ok (.iload 4, 2) := by decide +kernel
theorem dX10_scanName_14 : decode cX10_scanName 14 = .ok (.iaload, 1) := by decide +kernel
theorem dX10_scanName_15 : decode cX10_scanName 15 = .ok (.invokestatic 74, 3) := by decide +kernel
theorem dX10_scanName_18 : decode cX10_scanName 18 = .ok (.ifCond .lt 9, 3) := by decide +kernel
theorem dX10_scanName_21 : decode cX10_scanName 21 = .ok (.iinc 4 1, 3) := by decide +kernel
theorem dX10_scanName_24 : decode cX10_scanName 24 = .ok (.goto (-19), 3) := by decide +kernel
theorem dX10_scanName_27 : decode cX10_scanName 27 = .ok (.iload 4, 2) := by decide +kernel
theorem dX10_scanName_29 : decode cX10_scanName 29 = .ok (.iload_n 2, 1) := by decide +kernel
theorem dX10_scanName_30 : decode cX10_scanName 30 = .ok (.isub, 1) := by decide +kernel
theorem dX10_scanName_31 : decode cX10_scanName 31 = .ok (.bipush 10, 2) := by decide +kernel
theorem dX10_scanName_33 : decode cX10_scanName 33 = .ok (.if_icmp .gt 37, 3) := by decide +kernel
theorem dX10_scanName_36 : decode cX10_scanName 36 = .ok (.aload_n 0, 1) := by decide +kernel
theorem dX10_scanName_37 : decode cX10_scanName 37 = .ok (.getfield 24, 3) := by decide +kernel
theorem dX10_scanName_40 : decode cX10_scanName 40 = .ok (.aload_n 1, 1) := by decide +kernel
theorem dX10_scanName_41 : decode cX10_scanName 41 = .ok (.iload_n 2, 1) := by decide +kernel
theorem dX10_scanName_42 : decode cX10_scanName 42 = .ok (.iload 4, 2) := by decide +kernel
theorem dX10_scanName_44 : decode cX10_scanName 44 = .ok (.iconst 1, 1) := by decide +kernel
theorem dX10_scanName_45 : decode cX10_scanName 45 = .ok (.invokevirtual 79, 3) := by decide +kernel
theorem dX10_scanName_48 : decode cX10_scanName 48 = .ok (.istore 5, 2) := by decide +kernel
theorem dX10_scanName_50 : decode cX10_scanName 50 = .ok (.aload_n 0, 1) := by decide +kernel
theorem dX10_scanName_51 : decode cX10_scanName 51 = .ok (.iload 5, 2) := by decide +kernel
theorem dX10_scanName_53 : decode cX10_scanName 53 = .ok (.ifCond .ge 7, 3) := by decide +kernel
theorem dX10_scanName_56 : decode cX10_scanName 56 = .ok (.iconst 0, 1) := by decide +kernel
theorem dX10_scanName_57 : decode cX10_scanName 57 = .ok (.goto 5, 3) := by decide +kernel
theorem dX10_scanName_60 : decode cX10_scanName 60 = .ok (.bipush 110, 2) := by decide +kernel
theorem dX10_scanName_62 : decode cX10_scanName 62 = .ok (.iload 5, 2) := by decide +kernel
theorem dX10_scanName_64 : decode cX10_scanName 64 = .ok (.invokevirtual 56, 3) := by decide +kernel
theorem dX10_scanName_67 : decode cX10_scanName 67 = .ok (.goto 25, 3) := by decide +kernel
theorem dX10_scanName_70 : decode cX10_scanName 70 = .ok (.iload_n 2, 1) := by decide +kernel
theorem dX10_scanName_71 : decode cX10_scanName 71 = .ok (.istore 5, 2) := by decide +kernel
theorem dX10_scanName_73 : decode cX10_scanName 73 = .ok (.iload 5, 2) := by decide +kernel
theorem dX10_scanName_75 : decode cX10_scanName 75 = .ok (.iload 4, 2) := by decide +kernel
theorem dX10_scanName_77 : decode cX10_scanName 77 = .ok (.if_icmp .ge 15, 3) := by decide +kernel
theorem dX10_scanName_80 : decode cX10_scanName 80 = .ok (.aload_n 0, 1) := by decide +kernel
theorem dX10_scanName_81 : decode cX10_scanName 81 = .ok (.iconst 0, 1) := by decide +kernel
theorem dX10_scanName_82 : decode cX10_scanName 82 = .ok (.iconst 0, 1) := by decide +kernel
theorem dX10_scanName_83 : decode cX10_scanName 83 = .ok (.invokevirtual 56, 3) := by decide +kernel
theorem dX10_scanName_86 : decode cX10_scanName 86 = .ok (.iinc 5 1, 3) := by decide +kernel
theorem dX10_scanName_89 : decode cX10_scanName 89 = .ok (.goto (-16), 3) := by decide +kernel
theorem dX10_scanName_92 : decode cX10_scanName 92 = .ok (.iload 4, 2) := by decide +kernel
theorem dX10_scanName_94 : decode cX10_scanName 94 = .ok (.ireturn, 1) := by decide +kernel
theorem dX10_add_0 : decode cX10_add 0 = .ok (.aload_n 0, 1) := by decide +kernel
theorem dX10_add_1 : decode cX10_add 1 = .ok (.getfield 28, 3) := by decide +kernel
theorem dX10_add_4 : decode cX10_add 4 = .ok (.sipush 1500, 3) := by decide +kernel
theorem dX10_add_7 : decode cX10_add 7 = .ok (.if_icmp .ge 33, 3) := by decide +kernel
theorem dX10_add_10 : decode cX10_add 10 = .ok (.aload_n 0, 1) := by decide +kernel
theorem dX10_add_11 : decode cX10_add 11 = .ok (.getfield 9, 3) := by decide +kernel
theorem dX10_add_14 : decode cX10_add 14 = .ok (.aload_n 0, 1) := by decide +kernel
theorem dX10_add_15 : decode cX10_add 15 = .ok (.getfield 28, 3) := by decide +kernel
theorem dX10_add_18 : decode cX10_add 18 = .ok (.iload_n 1, 1) := by decide +kernel
theorem dX10_add_19 : decode cX10_add 19 = .ok (.iastore, 1) := by decide +kernel
theorem dX10_add_20 : decode cX10_add 20 = .ok (.aload_n 0, 1) := by decide +kernel
theorem dX10_add_21 : decode cX10_add 21 = .ok (.getfield 15, 3) := by decide +kernel
theorem dX10_add_24 : decode cX10_add 24 = .ok (.aload_n 0, 1) := by decide +kernel
theorem dX10_add_25 : decode cX10_add 25 = .ok (.getfield 28, 3) := by decide +kernel
theorem dX10_add_28 : decode cX10_add 28 = .ok (.iload_n 2, 1) := by decide +kernel
theorem dX10_add_29 : decode cX10_add 29 = .ok (.iastore, 1) := by decide +kernel
theorem dX10_add_30 : decode cX10_add 30 = .ok (.aload_n 0, 1) := by decide +kernel
theorem dX10_add_31 : decode cX10_add 31 = .ok (.dup, 1) := by decide +kernel
theorem dX10_add_32 : decode cX10_add 32 = .ok (.getfield 28, 3) := by decide +kernel
theorem dX10_add_35 : decode cX10_add 35 = .ok (.iconst 1, 1) := by decide +kernel
theorem dX10_add_36 : decode cX10_add 36 = .ok (.iadd, 1) := by decide +kernel
theorem dX10_add_37 : decode cX10_add 37 = .ok (.putfield 28, 3) := by decide +kernel
theorem dX10_add_40 : decode cX10_add 40 = .ok (.return_, 1) := by decide +kernel
theorem dX10_peek_0 : decode cX10_peek 0 = .ok (.aload_n 0, 1) := by decide +kernel
theorem dX10_peek_1 : decode cX10_peek 1 = .ok (.getfield 83, 3) := by decide +kernel
theorem dX10_peek_4 : decode cX10_peek 4 = .ok (.aload_n 0, 1) := by decide +kernel
theorem dX10_peek_5 : decode cX10_peek 5 = .ok (.getfield 28, 3) := by decide +kernel
theorem dX10_peek_8 : decode cX10_peek 8 = .ok (.if_icmp .ge 25, 3) := by decide +kernel
theorem dX10_peek_11 : decode cX10_peek 11 = .ok (.aload_n 0, 1) := by decide +kernel
theorem dX10_peek_12 : decode cX10_peek 12 = .ok (.getfield 83, 3) := by decide +kernel
theorem dX10_peek_15 : decode cX10_peek 15 = .ok (.sipush 1500, 3) := by decide +kernel
theorem dX10_peek_18 : decode cX10_peek 18 = .ok (.if_icmp .ge 15, 3) := by decide +kernel
theorem dX10_peek_21 : decode cX10_peek 21 = .ok (.aload_n 0, 1) := by decide +kernel
theorem dX10_peek_22 : decode cX10_peek 22 = .ok (.getfield 9, 3) := by decide +kernel
theorem dX10_peek_25 : decode cX10_peek 25 = .ok (.aload_n 0, 1) := by decide +kernel
theorem dX10_peek_26 : decode cX10_peek 26 = .ok (.getfield 83, 3) := by decide +kernel
theorem dX10_peek_29 : decode cX10_peek 29 = .ok (.iaload, 1) := by decide +kernel
theorem dX10_peek_30 : decode cX10_peek 30 = .ok (.goto 4, 3) := by decide +kernel
theorem dX10_peek_33 : decode cX10_peek 33 = .ok (.iconst 0, 1) := by decide +kernel
theorem dX10_peek_34 : decode cX10_peek 34 = .ok (.ireturn, 1) := by decide +kernel
set_option maxRecDepth 20000 in
theorem ggX10_peekName_X10_peek : GoodIn wsX10_peekName wsX10_peek := goodIn_r _ [7, 2, 8, 9, 10, 11, 12, 13, 14, 15, 16, 17, 18, 19, 20] (by decide +kernel) (by decide +kernel)
set_option maxRecDepth 20000 in
theorem gX10_peekName_X10_peek : GoodIn wsX10_peekName (wsV RX10 115 RX10 yX10_peek wsX10_peek) := goodIn_app (goodIn_of _ (by decide +kernel)) ggX10_peekName_X10_peek
theorem dX10_peekName_0 : decode cX10_peekName 0 = .ok (.aload_n 0, 1) := by decide +kernel
theorem dX10_peekName_1 : decode cX10_peekName 1 = .ok (.invokevirtual 115, 3) := by decide +kernel
theorem dX10_peekName_4 : decode cX10_peekName 4 = .ok (.bipush 110, 2) := by decide +kernel
theorem dX10_peekName_6 : decode cX10_peekName 6 = .ok (.if_icmp .ne 15, 3) := by decide +kernel
theorem dX10_peekName_9 : decode cX10_peekName 9 = .ok (.aload_n 0, 1) := by decide +kernel
theorem dX10_peekName_10 : decode cX10_peekName 10 = .ok (.getfield 15, 3) := by decide +kernel
theorem dX10_peekName_13 : decode cX10_peekName 13 = .ok (.aload_n 0, 1) := by decide +kernel
theorem dX10_peekName_14 : decode cX10_peekName 14 = .ok (.getfield 83, 3) := by decide +kernel
theorem dX10_peekName_17 : decode cX10_peekName 17 = .ok (.iaload, 1) := by decide +kernel
theorem dX10_peekName_18 : decode cX10_peekName 18 = .ok (.goto 4, 3) := by decide +kernel
theorem dX10_peekName_21 : decode cX10_peekName 21 = .ok (.iconst (-1), 1) := by decide +kernel
theorem dX10_peekName_22 : decode cX10_peekName 22 = .ok (.ireturn, 1) := by decide +kernel
theorem dX10_isSign_0 : decode cX10_isSign 0 = .ok (.aload_n 0, 1) := by decide +kernel
theorem dX10_isSign_1 : decode cX10_isSign 1 = .ok (.getfield 83, 3) := by decide +kernel
theorem dX10_isSign_4 : decode cX10_isSign 4 = .ok (.aload_n 0, 1) := by decide +kernel
theorem dX10_isSign_5 : decode cX10_isSign 5 = .ok (.getfield 28, 3) := by decide +kernel
theorem dX10_isSign_8 : decode cX10_isSign 8 = .ok (.if_icmp .ge 30, 3) := by decide +kernel
theorem dX10_isSign_11 : decode cX10_isSign 11 = .ok (.aload_n 0, 1) := by decide +kernel
theorem dX10_isSign_12 : decode cX10_isSign 12 = .ok (.getfield 83, 3) := by decide +kernel
theorem dX10_isSign_15 : decode cX10_isSign 15 = .ok (.sipush 1500, 3) := by decide +kernel
theorem dX10_isSign_18 : decode cX10_isSign 18 = .ok (.if_icmp .ge 20, 3) := by decide +kernel
theorem dX10_isSign_21 : decode cX10_isSign 21 = .ok (.aload_n 0, 1) := by decide +kernel
theorem dX10_isSign_22 : decode cX10_isSign 22 = .ok (.getfield 9, 3) := by decide +kernel
theorem dX10_isSign_25 : decode cX10_isSign 25 = .ok (.aload_n 0, 1) := by decide +kernel
theorem dX10_isSign_26 : decode cX10_isSign 26 = .ok (.getfield 83, 3) := by decide +kernel
theorem dX10_isSign_29 : decode cX10_isSign 29 = .ok (.iaload, 1) := by decide +kernel
theorem dX10_isSign_30 : decode cX10_isSign 30 = .ok (.iload_n 1, 1) := by decide +kernel
theorem dX10_isSign_31 : decode cX10_isSign 31 = .ok (.if_icmp .ne 7, 3) := by decide +kernel
theorem dX10_isSign_34 : decode cX10_isSign 34 = .ok (.iconst 1, 1) := by decide +kernel
theorem dX10_isSign_35 : decode cX10_isSign 35 = .ok (.goto 4, 3) := by decide +kernel
theorem dX10_isSign_38 : decode cX10_isSign 38 = .ok (.iconst 0, 1) := by decide +kernel
theorem dX10_isSign_39 : decode cX10_isSign 39 = .ok (.istore_n 2, 1) := by decide +kernel
theorem dX10_isSign_40 : decode cX10_isSign 40 = .ok (.aload_n 0, 1) := by decide +kernel
theorem dX10_isSign_41 : decode cX10_isSign 41 = .ok (.dup, 1) := by decide +kernel
theorem dX10_isSign_42 : decode cX10_isSign 42 = .ok (.getfield 83, 3) := by decide +kernel
theorem dX10_isSign_45 : decode cX10_isSign 45 = .ok (.iconst 1, 1) := by decide +kernel
theorem dX10_isSign_46 : decode cX10_isSign 46 = .ok (.iadd, 1) := by decide +kernel
theorem dX10_isSign_47 : decode cX10_isSign 47 = .ok (.putfield 83, 3) := by decide +kernel
theorem dX10_isSign_50 : decode cX10_isSign 50 = .ok (.iload_n 2, 1) := by decide +kernel
theorem dX10_isSign_51 : decode cX10_isSign 51 = .ok (.ireturn, 1) := by decide +kernel
set_option maxRecDepth 20000 in
theorem ggX10_isName_X10_peekName : GoodIn wsX10_isName wsX10_peekName := goodIn_r _ [8, 9, 1, 10, 11, 12, 7, 13, 14, 15, 16, 17, 18, 19, 20, 21, 22, 23, 24, 25, 26] (by decide +kernel) (by decide +kernel)
set_option maxRecDepth 20000 in
theorem gX10_isName_X10_peekName : GoodIn wsX10_isName (wsV RX10 119 RX10 yX10_peekName wsX10_peekName) := goodIn_app (goodIn_of _ (by decide +kernel)) ggX10_isName_X10_peekName
theorem dX10_isName_0 : decode cX10_isName 0 = .ok (.aload_n 0, 1) := by decide +kernel
theorem dX10_isName_1 : decode cX10_isName 1 = .ok (.invokevirtual 119, 3) := by decide +kernel
theorem dX10_isName_4 : decode cX10_isName 4 = .ok (.istore_n 1, 1) := by decide +kernel
theorem dX10_isName_5 : decode cX10_isName 5 = .ok (.aload_n 0, 1) := by decide +kernel
theorem dX10_isName_6 : decode cX10_isName 6 = .ok (.dup, 1) := by decide +kernel
theorem dX10_isName_7 : decode cX10_isName 7 = .ok (.getfield 83, 3) := by decide +kernel
theorem dX10_isName_10 : decode cX10_isName 10 = .ok (.iconst 1, 1) := by decide +kernel
theorem dX10_isName_11 : decode cX10_isName 11 = .ok (.iadd, 1) := by decide +kernel
theorem dX10_isName_12 : decode cX10_isName 12 = .ok (.putfield 83, 3) := by decide +kernel
theorem dX10_isName_15 : decode cX10_isName 15 = .ok (.iload_n 1, 1) := by decide +kernel
theorem dX10_isName_16 : decode cX10_isName 16 = .ok (.iconst 2, 1) := by decide +kernel
theorem dX10_isName_17 : decode cX10_isName 17 = .ok (.if_icmp .le 15, 3) := by decide +kernel
theorem dX10_isName_20 : decode cX10_isName 20 = .ok (.aload_n 0, 1) := by decide +kernel
theorem dX10_isName_21 : decode cX10_isName 21 = .ok (.getfield 86, 3) := by decide +kernel
theorem dX10_isName_24 : decode cX10_isName 24 = .ok (.aload_n 0, 1) := by decide +kernel
theorem dX10_isName_25 : decode cX10_isName 25 = .ok (.getfield 18, 3) := by decide +kernel
theorem dX10_isName_28 : decode cX10_isName 28 = .ok (.arraylength, 1) := by decide +kernel
theorem dX10_isName_29 : decode cX10_isName 29 = .ok (.if_icmp .lt 5, 3) := by decide +kernel
theorem dX10_isName_32 : decode cX10_isName 32 = .ok (.iconst 0, 1) := by decide +kernel
theorem dX10_isName_33 : decode cX10_isName 33 = .ok (.ireturn, 1) := by decide +kernel
theorem dX10_isName_34 : decode cX10_isName 34 = .ok (.aload_n 0, 1) := by decide +kernel
theorem dX10_isName_35 : decode cX10_isName 35 = .ok (.getfield 18, 3) := by decide +kernel
theorem dX10_isName_38 : decode cX10_isName 38 = .ok (.aload_n 0, 1) := by decide +kernel
theorem dX10_isName_39 : decode cX10_isName 39 = .ok (.getfield 86, 3) := by decide +kernel
theorem dX10_isName_42 : decode cX10_isName 42 = .ok (.iload_n 1, 1) := by decide +kernel
theorem dX10_isName_43 : decode cX10_isName 43 = .ok (.iastore, 1) := by decide +kernel
theorem dX10_isName_44 : decode cX10_isName 44 = .ok (.aload_n 0, 1) := by decide +kernel
theorem dX10_isName_45 : decode cX10_isName 45 = .ok (.dup, 1) := by decide +kernel
theorem dX10_isName_46 : decode cX10_isName 46 = .ok (.getfield 86, 3) := by decide +kernel
theorem dX10_isName_49 : decode cX10_isName 49 = .ok (.iconst 1, 1) := by decide +kernel
theorem dX10_isName_50 : decode cX10_isName 50 = .ok (.iadd, 1) := by decide +kernel
theorem dX10_isName_51 : decode cX10_isName 51 = .ok (.putfield 86, 3) := by decide +kernel
theorem dX10_isName_54 : decode cX10_isName 54 = .ok (.iconst 1, 1) := by decide +kernel
theorem dX10_isName_55 : decode cX10_isName 55 = .ok (.ireturn, 1) := by decide +kernel
set_option maxRecDepth 20000 in
theorem ggX10_isArity_X10_peek : GoodIn wsX10_isArity wsX10_peek := goodIn_r _ [8, 2, 9, 10, 11, 12, 13, 14, 15, 16, 17, 18, 19, 20, 21] (by decide +kernel) (by decide +kernel)
set_option maxRecDepth 20000 in
theorem gX10_isArity_X10_peek : GoodIn wsX10_isArity (wsV RX10 115 RX10 yX10_peek wsX10_peek) := goodIn_app (goodIn_of _ (by decide +kernel)) ggX10_isArity_X10_peek
theorem dX10_isArity_0 : decode cX10_isArity 0 = .ok (.aload_n 0, 1) := by decide +kernel
theorem dX10_isArity_1 : decode cX10_isArity 1 = .ok (.aload_n 0, 1) := by decide +kernel
theorem dX10_isArity_2 : decode cX10_isArity 2 = .ok (.invokevirtual 115, 3) := by decide +kernel
theorem dX10_isArity_5 : decode cX10_isArity 5 = .ok (.bipush 100, 2) := by decide +kernel
theorem dX10_isArity_7 : decode cX10_isArity 7 = .ok (.if_icmp .ne 15, 3) := by decide +kernel
theorem dX10_isArity_10 : decode cX10_isArity 10 = .ok (.aload_n 0, 1) := by decide +kernel
theorem dX10_isArity_11 : decode cX10_isArity 11 = .ok (.getfield 15, 3) := by decide +kernel
theorem dX10_isArity_14 : decode cX10_isArity 14 = .ok (.aload_n 0, 1) := by decide +kernel
theorem dX10_isArity_15 : decode cX10_isArity 15 = .ok (.getfield 83, 3) := by decide +kernel
theorem dX10_isArity_18 : decode cX10_isArity 18 = .ok (.iaload, 1) := by decide +kernel
theorem dX10_isArity_19 : decode cX10_isArity 19 = .ok (.goto 4, 3) := by decide +kernel
theorem dX10_isArity_22 : decode cX10_isArity 22 = .ok (.iconst (-1), 1) := by decide +kernel
theorem dX10_isArity_23 : decode cX10_isArity 23 = .ok (.putfield 92, 3) := by decide +kernel
theorem dX10_isArity_26 : decode cX10_isArity 26 = .ok (.aload_n 0, 1) := by decide +kernel
theorem dX10_isArity_27 : decode cX10_isArity 27 = .ok (.dup, 1) := by decide +kernel
theorem dX10_isArity_28 : decode cX10_isArity 28 = .ok (.getfield 83, 3) := by decide +kernel
theorem dX10_isArity_31 : decode cX10_isArity 31 = .ok (.iconst 1, 1) := by decide +kernel
theorem dX10_isArity_32 : decode cX10_isArity 32 = .ok (.iadd, 1) := by decide +kernel
theorem dX10_isArity_33 : decode cX10_isArity 33 = .ok (.putfield 83, 3) := by decide +kernel
theorem dX10_isArity_36 : decode cX10_isArity 36 = .ok (.aload_n 0, 1) := by decide +kernel
theorem dX10_isArity_37 : decode cX10_isArity 37 = .ok (.getfield 92, 3) := by decide +kernel
theorem dX10_isArity_40 : decode cX10_isArity 40 = .ok (.ifCond .lt 15, 3) := by decide +kernel
theorem dX10_isArity_43 : decode cX10_isArity 43 = .ok (.aload_n 0, 1) := by decide +kernel
theorem dX10_isArity_44 : decode cX10_isArity 44 = .ok (.getfield 92, 3) := by decide +kernel
theorem dX10_isArity_47 : decode cX10_isArity 47 = .ok (.iconst 3, 1) := by decide +kernel
theorem dX10_isArity_48 : decode cX10_isArity 48 = .ok (.if_icmp .gt 7, 3) := by decide +kernel
theorem dX10_isArity_51 : decode cX10_isArity 51 = .ok (.iconst 1, 1) := by decide +kernel
theorem dX10_isArity_52 : decode cX10_isArity 52 = .ok (.goto 4, 3) := by decide +kernel
theorem dX10_isArity_55 : decode cX10_isArity 55 = .ok (.iconst 0, 1) := by decide +kernel
theorem dX10_isArity_56 : decode cX10_isArity 56 = .ok (.ireturn, 1) := by decide +kernel
theorem dX10_addNode_0 : decode cX10_addNode 0 = .ok (.aload_n 0, 1) := by decide +kernel
theorem dX10_addNode_1 : decode cX10_addNode 1 = .ok (.getfield 89, 3) := by decide +kernel
theorem dX10_addNode_4 : decode cX10_addNode 4 = .ok (.sipush 3000, 3) := by decide +kernel
theorem dX10_addNode_7 : decode cX10_addNode 7 = .ok (.if_icmp .lt 5, 3) := by decide +kernel
theorem dX10_addNode_10 : decode cX10_addNode 10 = .ok (.iconst 0, 1) := by decide +kernel
theorem dX10_addNode_11 : decode cX10_addNode 11 = .ok (.ireturn, 1) := by decide +kernel
theorem dX10_addNode_12 : decode cX10_addNode 12 = .ok (.aload_n 0, 1) := by decide +kernel
theorem dX10_addNode_13 : decode cX10_addNode 13 = .ok (.getfield 21, 3) := by decide +kernel
theorem dX10_addNode_16 : decode cX10_addNode 16 = .ok (.aload_n 0, 1) := by decide +kernel
theorem dX10_addNode_17 : decode cX10_addNode 17 = .ok (.getfield 89, 3) := by decide +kernel
theorem dX10_addNode_20 : decode cX10_addNode 20 = .ok (.iload_n 1, 1) := by decide +kernel
theorem dX10_addNode_21 : decode cX10_addNode 21 = .ok (.iastore, 1) := by decide +kernel
theorem dX10_addNode_22 : decode cX10_addNode 22 = .ok (.aload_n 0, 1) := by decide +kernel
theorem dX10_addNode_23 : decode cX10_addNode 23 = .ok (.dup, 1) := by decide +kernel
theorem dX10_addNode_24 : decode cX10_addNode 24 = .ok (.getfield 89, 3) := by decide +kernel
theorem dX10_addNode_27 : decode cX10_addNode 27 = .ok (.iconst 1, 1) := by decide +kernel
theorem dX10_addNode_28 : decode cX10_addNode 28 = .ok (.iadd, 1) := by decide +kernel
theorem dX10_addNode_29 : decode cX10_addNode 29 = .ok (.putfield 89, 3) := by decide +kernel
theorem dX10_addNode_32 : decode cX10_addNode 32 = .ok (.iconst 1, 1) := by decide +kernel
theorem dX10_addNode_33 : decode cX10_addNode 33 = .ok (.ireturn, 1) := by decide +kernel
theorem dX10_insertNode_0 : decode cX10_insertNode 0 = .ok (.iload_n 1, 1) := by decide +kernel
theorem dX10_insertNode_1 : decode cX10_insertNode 1 = .ok (.ifCond .lt 21, 3) := by decide +kernel
theorem dX10_insertNode_4 : decode cX10_insertNode 4 = .ok (.iload_n 1, 1) := by decide +kernel
theorem dX10_insertNode_5 : decode cX10_insertNode 5 = .ok (.aload_n 0, 1) := by decide +kernel
theorem dX10_insertNode_6 : decode cX10_insertNode 6 = .ok (.getfield 89, 3) := by decide +kernel
theorem dX10_insertNode_9 : decode cX10_insertNode 9 = .ok (.if_icmp .gt 13, 3) := by decide +kernel
theorem dX10_insertNode_12 : decode cX10_insertNode 12 = .ok (.aload_n 0, 1) := by decide +kernel
theorem dX10_insertNode_13 : decode cX10_insertNode 13 = .ok (.getfield 89, 3) := by decide +kernel
theorem dX10_insertNode_16 : decode cX10_insertNode 16 = .ok (.sipush 3000, 3) := by decide +kernel
theorem dX10_insertNode_19 : decode cX10_insertNode 19 = .ok (.if_icmp .lt 5, 3) := by decide +kernel
theorem dX10_insertNode_22 : decode cX10_insertNode 22 = .ok (.iconst 0, 1) := by decide +kernel
theorem dX10_insertNode_23 : decode cX10_insertNode 23 = .ok (.ireturn, 1) := by decide +kernel
theorem dX10_insertNode_24 : decode cX10_insertNode 24 = .ok (.aload_n 0, 1) := by decide +kernel
theorem dX10_insertNode_25 : decode cX10_insertNode 25 = .ok (.getfield 89, 3) := by decide +kernel
theorem dX10_insertNode_28 : decode cX10_insertNode 28 = .ok (.istore_n 3, 1) := by decide +kernel
theorem dX10_insertNode_29 : decode cX10_insertNode 29 = .ok (.iload_n 3, 1) := by decide +kernel
theorem dX10_insertNode_30 : decode cX10_insertNode 30 = .ok (.iload_n 1, 1) := by decide +kernel
theorem dX10_insertNode_31 : decode cX10_insertNode 31 = .ok (.if_icmp .le 23, 3) := by decide +kernel
theorem dX10_insertNode_34 : decode cX10_insertNode 34 = .ok (.aload_n 0, 1) := by decide +kernel
theorem dX10_insertNode_35 : decode cX10_insertNode 35 = .ok (.getfield 21, 3) := by decide +kernel
theorem dX10_insertNode_38 : decode cX10_insertNode 38 = .ok (.iload_n 3, 1) := by decide +kernel
theorem dX10_insertNode_39 : decode cX10_insertNode 39 = .ok (.aload_n 0, 1) := by decide +kernel
theorem dX10_insertNode_40 : decode cX10_insertNode 40 = .ok (.getfield 21, 3) := by decide +kernel
theorem dX10_insertNode_43 : decode cX10_insertNode 43 = .ok (.iload_n 3, 1) := by decide +kernel
theorem dX10_insertNode_44 : decode cX10_insertNode 44 = .ok (.iconst 1, 1) := by decide +kernel
theorem dX10_insertNode_45 : decode cX10_insertNode 45 = .ok (.isub, 1) := by decide +kernel
theorem dX10_insertNode_46 : decode cX10_insertNode 46 = .ok (.iaload, 1) := by decide +kernel
theorem dX10_insertNode_47 : decode cX10_insertNode 47 = .ok (.iastore, 1) := by decide +kernel
theorem dX10_insertNode_48 : decode cX10_insertNode 48 = .ok (.iinc 3 (-1), 3) := by decide +kernel
theorem dX10_insertNode_51 : decode cX10_insertNode 51 = .ok (.goto (-22), 3) := by decide +kernel
theorem dX10_insertNode_54 : decode cX10_insertNode 54 = .ok (.aload_n 0, 1) := by decide +kernel
theorem dX10_insertNode_55 : decode cX10_insertNode 55 = .ok (.getfield 21, 3) := by decide +kernel
theorem dX10_insertNode_58 : decode cX10_insertNode 58 = .ok (.iload_n 1, 1) := by decide +kernel
theorem dX10_insertNode_59 : decode cX10_insertNode 59 = .ok (.iload_n 2, 1) := by decide +kernel
theorem dX10_insertNode_60 : decode cX10_insertNode 60 = .ok (.iastore, 1) := by decide +kernel
theorem dX10_insertNode_61 : decode cX10_insertNode 61 = .ok (.aload_n 0, 1) := by decide +kernel
theorem dX10_insertNode_62 : decode cX10_insertNode 62 = .ok (.dup, 1) := by decide +kernel
theorem dX10_insertNode_63 : decode cX10_insertNode 63 = .ok (.getfield 89, 3) := by decide +kernel
theorem dX10_insertNode_66 : decode cX10_insertNode 66 = .ok (.iconst 1, 1) := by decide +kernel
theorem dX10_insertNode_67 : decode cX10_insertNode 67 = .ok (.iadd, 1) := by decide +kernel
theorem dX10_insertNode_68 : decode cX10_insertNode 68 = .ok (.putfield 89, 3) := by decide +kernel
theorem dX10_insertNode_71 : decode cX10_insertNode 71 = .ok (.iconst 1, 1) := by decide +kernel
theorem dX10_insertNode_72 : decode cX10_insertNode 72 = .ok (.ireturn, 1) := by decide +kernel
theorem dX11_opensComment_0 : decode cX11_opensComment 0 = .ok (.iload_n 1, 1) := by decide +kernel
theorem dX11_opensComment_1 : decode cX11_opensComment 1 = .ok (.ifCond .lt 38, 3) := by decide +kernel
theorem dX11_opensComment_4 : decode cX11_opensComment 4 = .ok (.iload_n 1, 1) := by decide +kernel
theorem dX11_opensComment_5 : decode cX11_opensComment 5 = .ok (.iconst 1, 1) := by decide +kernel
theorem dX11_opensComment_6 : decode cX11_opensComment 6 = .ok (.iadd, 1) := by decide +kernel
theorem dX11_opensComment_7 : decode cX11_opensComment 7 = .ok (.iload_n 2, 1) := by decide +kernel
theorem dX11_opensComment_8 : decode cX11_opensComment 8 = .ok (.if_icmp .ge 31, 3) := by decide +kernel
theorem dX11_opensComment_11 : decode cX11_opensComment 11 = .ok (.iload_n 2, 1) := by decide +kernel
theorem dX11_opensComment_12 : decode cX11_opensComment 12 = .ok (.aload_n 0, 1) := by decide +kernel
theorem dX11_opensComment_13 : decode cX11_opensComment 13 = .ok (.arraylength, 1) := by decide +kernel
theorem dX11_opensComment_14 : decode cX11_opensComment 14 = .ok (.if_icmp .gt 25, 3) := by decide +kernel
theorem dX11_opensComment_17 : decode cX11_opensComment 17 = .ok (.aload_n 0, 1) := by decide +kernel
theorem dX11_opensComment_18 : decode cX11_opensComment 18 = .ok (.iload_n 1, 1) := by decide +kernel
theorem dX11_opensComment_19 : decode cX11_opensComment 19 = .ok (.iaload, 1) := by decide +kernel
theorem dX11_opensComment_20 : decode cX11_opensComment 20 = .ok (.bipush 40, 2) := by decide +kernel
theorem dX11_opensComment_22 : decode cX11_opensComment 22 = .ok (.if_icmp .ne 17, 3) := by decide +kernel
theorem dX11_opensComment_25 : decode cX11_opensComment 25 = .ok (.aload_n 0, 1) := by decide +kernel
theorem dX11_opensComment_26 : decode cX11_opensComment 26 = .ok (.iload_n 1, 1) := by decide +kernel
theorem dX11_opensComment_27 : decode cX11_opensComment 27 = .ok (.iconst 1, 1) := by decide +kernel
theorem dX11_opensComment_28 : decode cX11_opensComment 28 = .ok (.iadd, 1) := by decide +kernel
theorem dX11_opensComment_29 : decode cX11_opensComment 29 = .ok (.iaload, 1) := by decide +kernel
theorem dX11_opensComment_30 : decode cX11_opensComment 30 = .ok (.bipush 42, 2) := by decide +kernel
theorem dX11_opensComment_32 : decode cX11_opensComment 32 = .ok (.if_icmp .ne 7, 3) := by decide +kernel
theorem dX11_opensComment_35 : decode cX11_opensComment 35 = .ok (.iconst 1, 1) := by decide +kernel
theorem dX11_opensComment_36 : decode cX11_opensComment 36 = .ok (.goto 4, 3) := by decide +kernel
theorem dX11_opensComment_39 : decode cX11_opensComment 39 = .ok (.iconst 0, 1) := by decide +kernel
theorem dX11_opensComment_40 : decode cX11_opensComment 40 = .ok (.ireturn, 1) := by decide +kernel
set_option maxRecDepth 20000 in
theorem ggX11_commentEnd_X11_opensComment : GoodIn wsX11_commentEnd wsX11_opensComment := goodIn_r _ [4] (by decide +kernel) (by decide +kernel)
set_option maxRecDepth 20000 in
theorem gX11_commentEnd_X11_opensComment : GoodIn wsX11_commentEnd (va_wsS RX11 609 yX11_opensComment wsX11_opensComment) := goodIn_app (goodIn_of _ (by decide +kernel)) ggX11_commentEnd_X11_opensComment
theorem dX11_commentEnd_0 : decode cX11_commentEnd 0 = .ok (.aload_n 0, 1) := by decide +kernel
theorem dX11_commentEnd_1 : decode cX11_commentEnd 1 = .ok (.iload_n 1, 1) := by decide +kernel
theorem dX11_commentEnd_2 : decode cX11_commentEnd 2 = .ok (.iload_n 2, 1) := by decide +kernel
theorem dX11_commentEnd_3 : decode cX11_commentEnd 3 = .ok (.invokestatic 609, 3) := by decide +kernel
theorem dX11_commentEnd_6 : decode cX11_commentEnd 6 = .ok (.ifCond .ne 5, 3) := by decide +kernel
theorem dX11_commentEnd_9 : decode cX11_commentEnd 9 = .ok (.iconst (-1), 1) := by decide +kernel
theorem dX11_commentEnd_10 : decode cX11_commentEnd 10 = .ok (.ireturn, 1) := by decide +kernel
theorem dX11_commentEnd_11 : decode cX11_commentEnd 11 = .ok (.iconst 1, 1) := by decide +kernel
theorem dX11_commentEnd_12 : decode cX11_commentEnd 12 = .ok (.istore_n 3, 1) := by decide +kernel
theorem dX11_commentEnd_13 : decode cX11_commentEnd 13 = .ok (.iload_n 1, 1) := by decide +kernel
theorem dX11_commentEnd_14 : decode cX11_commentEnd 14 = .ok (.iconst 2, 1) := by decide +kernel
theorem dX11_commentEnd_15 : decode cX11_commentEnd 15 = .ok (.iadd, 1) := by decide +kernel
theorem dX11_commentEnd_16 : decode cX11_commentEnd 16 = .ok (.istore 4, 2) := by decide +kernel
theorem dX11_commentEnd_18 : decode cX11_commentEnd 18 = .ok (.iload 4, 2) := by decide +kernel
theorem dX11_commentEnd_20 : decode cX11_commentEnd 20 = .ok (.iconst 1, 1) := by decide +kernel
theorem dX11_commentEnd_21 : decode cX11_commentEnd 21 = .ok (.iadd, 1) := by decide +kernel
theorem dX11_commentEnd_22 : decode cX11_commentEnd 22 = .ok (.iload_n 2, 1) := by decide +kernel
theorem dX11_commentEnd_23 : decode cX11_commentEnd 23 = .ok (.if_icmp .ge 73, 3) := by decide +kernel
theorem dX11_commentEnd_26 : decode cX11_commentEnd 26 = .ok (.aload_n 0, 1) := by decide +kernel
theorem dX11_commentEnd_27 : decode cX11_commentEnd 27 = .ok (.iload 4, 2) := by decide +kernel
theorem dX11_commentEnd_29 : decode cX11_commentEnd 29 = .ok (.iaload, 1) := by decide +kernel
theorem dX11_commentEnd_30 : decode cX11_commentEnd 30 = .ok (.bipush 40, 2) := by decide +kernel
theorem dX11_commentEnd_32 : decode cX11_commentEnd 32 = .ok (.if_icmp .ne 23, 3) := by decide +kernel
theorem dX11_commentEnd_35 : decode cX11_commentEnd 35 = .ok (.aload_n 0, 1) := by decide +kernel
theorem dX11_commentEnd_36 : decode cX11_commentEnd 36 = .ok (.iload 4, 2) := by decide +kernel
theorem dX11_commentEnd_38 : decode cX11_commentEnd 38 = .ok (.iconst 1, 1) := by decide +kernel
theorem dX11_commentEnd_39 : decode cX11_commentEnd 39 = .ok (.iadd, 1) := by decide +kernel
theorem dX11_commentEnd_40 : decode cX11_commentEnd 40 = .ok (.iaload, 1) := by decide +kernel
theorem dX11_commentEnd_41 : decode cX11_commentEnd 41 = .ok (.bipush 42, 2) := by decide +kernel
theorem dX11_commentEnd_43 : decode cX11_commentEnd 43 = .ok (.if_icmp .ne 12, 3) := by decide +kernel
theorem dX11_commentEnd_46 : decode cX11_commentEnd 46 = .ok (.iinc 3 1, 3) := by decide +kernel
theorem dX11_commentEnd_49 : decode cX11_commentEnd 49 = .ok (.iinc 4 1, 3) := by decide +kernel
theorem dX11_commentEnd_52 : decode cX11_commentEnd 52 = .ok (.goto 38, 3) := by decide +kernel
theorem dX11_commentEnd_55 : decode cX11_commentEnd 55 = .ok (.aload_n 0, 1) := by decide +kernel
theorem dX11_commentEnd_56 : decode cX11_commentEnd 56 = .ok (.iload 4, 2) := by decide +kernel
theorem dX11_commentEnd_58 : decode cX11_commentEnd 58 = .ok (.iaload, 1) := by decide +kernel
theorem dX11_commentEnd_59 : decode cX11_commentEnd 59 = .ok (.bipush 42, 2) := by decide +kernel
theorem dX11_commentEnd_61 : decode cX11_commentEnd 61 = .ok (.if_icmp .ne 29, 3) := by decide +kernel
theorem dX11_commentEnd_64 : decode cX11_commentEnd 64 = .ok (.aload_n 0, 1) := by decide +kernel
theorem dX11_commentEnd_65 : decode cX11_commentEnd 65 = .ok (.iload 4, 2) := by decide +kernel
theorem dX11_commentEnd_67 : decode cX11_commentEnd 67 = .ok (.iconst 1, 1) := by decide +kernel
theorem dX11_commentEnd_68 : decode cX11_commentEnd 68 = .ok (.iadd, 1) := by decide +kernel
theorem dX11_commentEnd_69 : decode cX11_commentEnd 69 = .ok (.iaload, 1) := by decide +kernel
theorem dX11_commentEnd_70 : decode cX11_commentEnd 70 = .ok (.bipush 41, 2) := by decide +kernel
theorem dX11_commentEnd_72 : decode cX11_commentEnd 72 = .ok (.if_icmp .ne 18, 3) := by decide +kernel
theorem dX11_commentEnd_75 : decode cX11_commentEnd 75 = .ok (.iinc 3 (-1), 3) := by decide +kernel
theorem dX11_commentEnd_78 : decode cX11_commentEnd 78 = .ok (.iinc 4 1, 3) := by decide +kernel
theorem dX11_commentEnd_81 : decode cX11_commentEnd 81 = .ok (.iload_n 3, 1) := by decide +kernel
theorem dX11_commentEnd_82 : decode cX11_commentEnd 82 = .ok (.ifCond .ne 8, 3) := by decide +kernel
theorem dX11_commentEnd_85 : decode cX11_commentEnd 85 = .ok (.iload 4, 2) := by decide +kernel
theorem dX11_commentEnd_87 : decode cX11_commentEnd 87 = .ok (.iconst 1, 1) := by decide +kernel
theorem dX11_commentEnd_88 : decode cX11_commentEnd 88 = .ok (.iadd, 1) := by decide +kernel
theorem dX11_commentEnd_89 : decode cX11_commentEnd 89 = .ok (.ireturn, 1) := by decide +kernel
theorem dX11_commentEnd_90 : decode cX11_commentEnd 90 = .ok (.iinc 4 1, 3) := by decide +kernel
theorem dX11_commentEnd_93 : decode cX11_commentEnd 93 = .ok (.goto (-75), 3) := by decide +kernel
theorem dX11_commentEnd_96 : decode cX11_commentEnd 96 = .ok (.iconst (-1), 1) := by decide +kernel
theorem dX11_commentEnd_97 : decode cX11_commentEnd 97 = .ok (.ireturn, 1) := by decide +kernel
def EX11_opensComment : List (Nat × Nat) := []
def EX11_commentEnd : List (Nat × Nat) := []
def EX6_find : List (Nat × Nat) := [(8, 3), (102, 0), (132, 0), (133, 0)]
def EX6_numberOf : List (Nat × Nat) := [(8, 3), (102, 0), (132, 0), (133, 0)]
def EX10_peek : List (Nat × Nat) := []
def EX10_peekName : List (Nat × Nat) := []
def EX10_isSign : List (Nat × Nat) := [(12, 4)]
def EX10_isName : List (Nat × Nat) := [(12, 4), (12, 7), (101, 0)]
def EX10_isArity : List (Nat × Nat) := [(12, 4), (12, 8)]
def EX10_addNode : List (Nat × Nat) := [(12, 10), (101, 0)]
def EX10_insertNode : List (Nat × Nat) := [(12, 10), (101, 0)]
def EX10_add : List (Nat × Nat) := [(12, 3), (101, 0)]
def EX10_scanName : List (Nat × Nat) := [(8, 3), (12, 3), (101, 0), (102, 0), (132, 0), (133, 0)]
def EX10_scan : List (Nat × Nat) := [(8, 3), (12, 3), (101, 0), (102, 0), (132, 0), (133, 0)]
set_option maxHeartbeats 4000000 in
set_option maxRecDepth 20000 in
theorem uX11_opensComment (l : Launch) (dC : Nat → ClassId) (dI : Nat → Nat → Nat) (ca : Nat → ClassId) (base : Nat) (B : jF) (hB : jBok B) (hAp : jAp (dC, dI)) (hB101 : ∀ n G a H, B 101 n G a H ↔ jAr (dC, dI) (ca 1) (fun j z => True) n a H) (G0 : jT) (H0 : Heap) (r0 : Nat) (a1 : Int32) (a2 : Int32) (n0 : Nat) : Met l yX11_opensComment wsX11_opensComment ({ frames := 0, cells := 0, slots := 0, locals := 0 }) (va_Pc [.ref r0, .int a1, .int a2] (fun U => U.heap = H0 ∧ jX B base G0 [] H0 ∧ jG dC dI ca base U ∧ G0 r0 = some (101, n0) ∧ jP (dC, dI) G0 H0 [] ∧ n0 < 1000000 ∧ a1.toInt ≤ 1000000)) (va_Qi (S := Unit) (fun r u => (r = 0 ∨ r = 1) ∧ (r.toInt = 0 ∨ (0 ≤ a1.toInt ∧ a1.toInt + 1 < a2.toInt ∧ a2.toInt ≤ n0))) (fun u t => jRt (dC, dI) B base G0 EX11_opensComment H0 [] t.heap) (jA base)) 0 0 (jA base) := by
  refine Met.ofW (cc := cX11_opensComment) (maxL := 3) (ret := (some .boolean)) (by decide) rfl ?_
  intro p e s m args below meth c s₁ Bd hml hv
  obtain ⟨rfl, hH0, hX, hG, hg_r0, hP0, hp0, hp1⟩ := hv
  have hK := hG.1
  have hx := Bd.exec
  have hb := Bd.bytes
  have hr := Bd.returns
  have hts := atoms_spec (ws := wsX11_opensComment) Bd.pre
  have hown : s.vm.findClass RX11 = some m.cls := findClass_of_methodNamed Bd.named
  have hlocks := Bd.notSynchronized
  obtain ⟨Q, hQ⟩ : ∃ Q, Q = MQ below (va_Qi (S := Unit) (fun r u => (r = 0 ∨ r = 1) ∧ (r.toInt = 0 ∨ (0 ≤ a1.toInt ∧ a1.toInt + 1 < a2.toInt ∧ a2.toInt ≤ n0))) (fun u t => jRt (dC, dI) B base G0 EX11_opensComment H0 [] t.heap) (jA base)) ([.ref r0, .int a1, .int a2] : List Value).toArray s 0 0 (jA base) := ⟨_, rfl⟩
  rw [← hQ]
  have hl := lv_entry ([.ref r0, .int a1, .int a2]) (n := 3) (Nat.le_of_ble_eq_true rfl)
  rw [lg_entry_eq]
  generalize (lg_sl ([.ref r0, .int a1, .int a2]) ++ List.replicate (3 - (lg_sl ([.ref r0, .int a1, .int a2])).length) Slot.unset).toArray = ls at hl ⊢
  have hl : lv_has ls 3 [(0, .ref r0), (1, .int a1), (2, .int a2)] := hl
  generalize hR : (headSpec wsX11_opensComment ({ frames := 0, cells := 0, slots := 0, locals := 0 })).room = R
  subst hH0
  have hh : jSt (dC, dI) B base G0 G0 EX11_opensComment s.heap 0 0 [] [] [] s.heap [] := jSt.start hX hP0 jMc.nil jIs.nil
  clear hX hP0
  have hk0 : (0 : Int32).toInt = 0 := by decide
  have hk1 : (1 : Int32).toInt = 1 := by decide
  have hk40 : (40 : Int32).toInt = 40 := by decide
  have hk42 : (42 : Int32).toInt = 42 := by decide
  have hrg_a1 := jb_rng a1
  have hrg_a2 := jb_rng a2
  refine lv_iload_n hx hb dX11_opensComment_0 rfl (lv_at hl 1 rfl) ?_
  refine lv_if_lt (tgt := 39) hx hb dX11_opensComment_1 (by decide) (fun c_1 => ?_) (fun c_1 => ?_)
  · skip
    have c_1' : a1.toInt < 0 := jb_lt (rfl) ((by decide)) c_1
    refine lv_iconst (v := 0) hx hb dX11_opensComment_39 (by decide) ?_
    rw [hQ]
    exact W.zret (v := 0) hx hb hr (jb_nz (Or.inl rfl)) (fun t ht hW => ⟨⟨0, (), rfl, ⟨(Or.inl rfl), by first | omega | rfl | assumption | decide | exact Or.inl rfl | exact Or.inr rfl | (simp only; omega)⟩, hh.rt (M1 := []) [] rfl ht⟩, by rw [ht]; try exact hh.1.1, fun q h9 hq => by rw [ht]; try exact hh.1.2.1 q h9 hq⟩) hh.1.2.2 dX11_opensComment_40
  · skip
    have c_1' : a1.toInt ≥ 0 := jb_lt_n (rfl) ((by decide)) c_1
    refine lv_iload_n hx hb dX11_opensComment_4 rfl (lv_at hl 1 rfl) ?_
    refine lv_iconst (v := 1) hx hb dX11_opensComment_5 (by decide) ?_
    refine lv_iadd hx hb dX11_opensComment_6 ?_
    refine lv_topi (fun z_2 ez_2 => ?_)
    have hz_2 : z_2.toInt = a1.toInt + 1 := by rw [ez_2]; exact jb_iadd2 (rfl) ((by decide)) (by omega)
    refine lv_iload_n hx hb dX11_opensComment_7 rfl (lv_at hl 2 rfl) ?_
    refine lv_icmp_ge (tgt := 39) hx hb dX11_opensComment_8 (by decide) (fun c_3 => ?_) (fun c_3 => ?_)
    · skip
      have c_3' : z_2.toInt ≥ a2.toInt := jb_ge (rfl) (rfl) c_3
      refine lv_iconst (v := 0) hx hb dX11_opensComment_39 (by decide) ?_
      rw [hQ]
      exact W.zret (v := 0) hx hb hr (jb_nz (Or.inl rfl)) (fun t ht hW => ⟨⟨0, (), rfl, ⟨(Or.inl rfl), by first | omega | rfl | assumption | decide | exact Or.inl rfl | exact Or.inr rfl | (simp only; omega)⟩, hh.rt (M1 := []) [] rfl ht⟩, by rw [ht]; try exact hh.1.1, fun q h9 hq => by rw [ht]; try exact hh.1.2.1 q h9 hq⟩) hh.1.2.2 dX11_opensComment_40
    · skip
      have c_3' : z_2.toInt < a2.toInt := jb_ge_n (rfl) (rfl) c_3
      refine lv_iload_n hx hb dX11_opensComment_11 rfl (lv_at hl 2 rfl) ?_
      refine lv_aload_n hx hb dX11_opensComment_12 rfl (lv_at hl 0 rfl) ?_
      refine j7_len hx hb hK hh hB101 1 rfl (by decide) hg_r0 (by omega) dX11_opensComment_13 (fun z_4 hz_4 => ?_)
      refine lv_icmp_gt (tgt := 39) hx hb dX11_opensComment_14 (by decide) (fun c_5 => ?_) (fun c_5 => ?_)
      · skip
        have c_5' : a2.toInt > z_4.toInt := jb_gt (rfl) (rfl) c_5
        refine lv_iconst (v := 0) hx hb dX11_opensComment_39 (by decide) ?_
        rw [hQ]
        exact W.zret (v := 0) hx hb hr (jb_nz (Or.inl rfl)) (fun t ht hW => ⟨⟨0, (), rfl, ⟨(Or.inl rfl), by first | omega | rfl | assumption | decide | exact Or.inl rfl | exact Or.inr rfl | (simp only; omega)⟩, hh.rt (M1 := []) [] rfl ht⟩, by rw [ht]; try exact hh.1.1, fun q h9 hq => by rw [ht]; try exact hh.1.2.1 q h9 hq⟩) hh.1.2.2 dX11_opensComment_40
      · skip
        have c_5' : a2.toInt ≤ z_4.toInt := jb_gt_n (rfl) (rfl) c_5
        refine lv_aload_n hx hb dX11_opensComment_17 rfl (lv_at hl 0 rfl) ?_
        refine lv_iload_n hx hb dX11_opensComment_18 rfl (lv_at hl 1 rfl) ?_
        refine j7_iald hx hb hK hh hB101 1 rfl (by decide) hg_r0 (rfl) (by omega) dX11_opensComment_19 (fun z_6 (hz_6 : True) => ?_)
        refine lv_bipush (v := 40) hx hb dX11_opensComment_20 (by decide) ?_
        refine lv_icmp_ne (tgt := 39) hx hb dX11_opensComment_22 (by decide) (fun c_7 => ?_) (fun c_7 => ?_)
        · skip
          have c_7' : z_6.toInt ≠ 40 := jb_ne (rfl) ((by decide)) c_7
          refine lv_iconst (v := 0) hx hb dX11_opensComment_39 (by decide) ?_
          rw [hQ]
          exact W.zret (v := 0) hx hb hr (jb_nz (Or.inl rfl)) (fun t ht hW => ⟨⟨0, (), rfl, ⟨(Or.inl rfl), by first | omega | rfl | assumption | decide | exact Or.inl rfl | exact Or.inr rfl | (simp only; omega)⟩, hh.rt (M1 := []) [] rfl ht⟩, by rw [ht]; try exact hh.1.1, fun q h9 hq => by rw [ht]; try exact hh.1.2.1 q h9 hq⟩) hh.1.2.2 dX11_opensComment_40
        · skip
          have c_7' : z_6.toInt = 40 := jb_ne_n (rfl) ((by decide)) c_7
          refine lv_aload_n hx hb dX11_opensComment_25 rfl (lv_at hl 0 rfl) ?_
          refine lv_iload_n hx hb dX11_opensComment_26 rfl (lv_at hl 1 rfl) ?_
          refine lv_iconst (v := 1) hx hb dX11_opensComment_27 (by decide) ?_
          refine lv_iadd hx hb dX11_opensComment_28 ?_
          refine lv_topi (fun z_8 ez_8 => ?_)
          have hz_8 : z_8.toInt = a1.toInt + 1 := by rw [ez_8]; exact jb_iadd2 (rfl) ((by decide)) (by omega)
          refine j7_iald hx hb hK hh hB101 1 rfl (by decide) hg_r0 (rfl) (by omega) dX11_opensComment_29 (fun z_9 (hz_9 : True) => ?_)
          refine lv_bipush (v := 42) hx hb dX11_opensComment_30 (by decide) ?_
          refine lv_icmp_ne (tgt := 39) hx hb dX11_opensComment_32 (by decide) (fun c_10 => ?_) (fun c_10 => ?_)
          · skip
            have c_10' : z_9.toInt ≠ 42 := jb_ne (rfl) ((by decide)) c_10
            refine lv_iconst (v := 0) hx hb dX11_opensComment_39 (by decide) ?_
            rw [hQ]
            exact W.zret (v := 0) hx hb hr (jb_nz (Or.inl rfl)) (fun t ht hW => ⟨⟨0, (), rfl, ⟨(Or.inl rfl), by first | omega | rfl | assumption | decide | exact Or.inl rfl | exact Or.inr rfl | (simp only; omega)⟩, hh.rt (M1 := []) [] rfl ht⟩, by rw [ht]; try exact hh.1.1, fun q h9 hq => by rw [ht]; try exact hh.1.2.1 q h9 hq⟩) hh.1.2.2 dX11_opensComment_40
          · skip
            have c_10' : z_9.toInt = 42 := jb_ne_n (rfl) ((by decide)) c_10
            refine lv_iconst (v := 1) hx hb dX11_opensComment_35 (by decide) ?_
            refine lv_goto (tgt := 40) hx hb dX11_opensComment_36 (by decide) ?_
            rw [hQ]
            exact W.zret (v := 1) hx hb hr (jb_nz (Or.inr rfl)) (fun t ht hW => ⟨⟨1, (), rfl, ⟨(Or.inr rfl), by first | omega | rfl | assumption | decide | exact Or.inl rfl | exact Or.inr rfl | (simp only; omega)⟩, hh.rt (M1 := []) [] rfl ht⟩, by rw [ht]; try exact hh.1.1, fun q h9 hq => by rw [ht]; try exact hh.1.2.1 q h9 hq⟩) hh.1.2.2 dX11_opensComment_40
set_option maxHeartbeats 4000000 in
set_option maxRecDepth 20000 in
theorem uX11_commentEnd (l : Launch) (dC : Nat → ClassId) (dI : Nat → Nat → Nat) (ca : Nat → ClassId) (base : Nat) (B : jF) (hB : jBok B) (hAp : jAp (dC, dI)) (hB101 : ∀ n G a H, B 101 n G a H ↔ jAr (dC, dI) (ca 1) (fun j z => True) n a H) (G0 : jT) (H0 : Heap) (r0 : Nat) (a1 : Int32) (a2 : Int32) (n0 : Nat) : Met l yX11_commentEnd wsX11_commentEnd ({ frames := 1, cells := 0, slots := 0, locals := 22 }) (va_Pc [.ref r0, .int a1, .int a2] (fun U => U.heap = H0 ∧ jX B base G0 [] H0 ∧ jG dC dI ca base U ∧ G0 r0 = some (101, n0) ∧ jP (dC, dI) G0 H0 [] ∧ n0 < 1000000 ∧ a1.toInt ≤ 1000000)) (va_Qi (S := Unit) (fun r u => (r.toInt = -1 ∨ (a1.toInt + 4 ≤ r.toInt ∧ r.toInt ≤ a2.toInt))) (fun u t => jRt (dC, dI) B base G0 EX11_commentEnd H0 [] t.heap) (jA base)) 0 0 (jA base) := by
  refine Met.ofW (cc := cX11_commentEnd) (maxL := 5) (ret := (some .int)) (by decide) rfl ?_
  intro p e s m args below meth c s₁ Bd hml hv
  obtain ⟨rfl, hH0, hX, hG, hg_r0, hP0, hp0, hp1⟩ := hv
  have hK := hG.1
  have hx := Bd.exec
  have hb := Bd.bytes
  have hr := Bd.returns
  have hts := atoms_spec (ws := wsX11_commentEnd) Bd.pre
  have hown : s.vm.findClass RX11 = some m.cls := findClass_of_methodNamed Bd.named
  have hlocks := Bd.notSynchronized
  obtain ⟨Q, hQ⟩ : ∃ Q, Q = MQ below (va_Qi (S := Unit) (fun r u => (r.toInt = -1 ∨ (a1.toInt + 4 ≤ r.toInt ∧ r.toInt ≤ a2.toInt))) (fun u t => jRt (dC, dI) B base G0 EX11_commentEnd H0 [] t.heap) (jA base)) ([.ref r0, .int a1, .int a2] : List Value).toArray s 0 0 (jA base) := ⟨_, rfl⟩
  rw [← hQ]
  have hl := lv_entry ([.ref r0, .int a1, .int a2]) (n := 5) (Nat.le_of_ble_eq_true rfl)
  rw [lg_entry_eq]
  generalize (lg_sl ([.ref r0, .int a1, .int a2]) ++ List.replicate (5 - (lg_sl ([.ref r0, .int a1, .int a2])).length) Slot.unset).toArray = ls at hl ⊢
  have hl : lv_has ls 5 [(0, .ref r0), (1, .int a1), (2, .int a2)] := hl
  generalize hR : (headSpec wsX11_commentEnd ({ frames := 1, cells := 0, slots := 0, locals := 22 })).room = R
  subst hH0
  have hh : jSt (dC, dI) B base G0 G0 EX11_commentEnd s.heap 0 0 [] [] [] s.heap [] := jSt.start hX hP0 jMc.nil jIs.nil
  clear hX hP0
  have hkm1 : ((-1) : Int32).toInt = (-1) := by decide
  have hk0 : (0 : Int32).toInt = 0 := by decide
  have hk1 : (1 : Int32).toInt = 1 := by decide
  have hk2 : (2 : Int32).toInt = 2 := by decide
  have hk40 : (40 : Int32).toInt = 40 := by decide
  have hk41 : (41 : Int32).toInt = 41 := by decide
  have hk42 : (42 : Int32).toInt = 42 := by decide
  have hrg_a1 := jb_rng a1
  have hrg_a2 := jb_rng a2
  refine lv_aload_n hx hb dX11_commentEnd_0 rfl (lv_at hl 0 rfl) ?_
  refine lv_iload_n hx hb dX11_commentEnd_1 rfl (lv_at hl 1 rfl) ?_
  refine lv_iload_n hx hb dX11_commentEnd_2 rfl (lv_at hl 2 rfl) ?_
  refine va_calli (A0 := jA base) (H0 := s.heap) (va_runS (As := [.ref r0, .int a1, .int a2]) (rest := []) ⟨hx, hb, hml, hown, hts⟩ (uX11_opensComment l dC dI ca base B hB hAp hB101 G0 s.heap r0 a1 a2 n0) (va_cwS 3 hts gX11_commentEnd_X11_opensComment rfl rfl rfl (by decide +kernel) ⟨by rw [← hR]; exact Nat.le_of_ble_eq_true rfl, by rw [← hR]; exact Nat.le_of_ble_eq_true rfl⟩) ⟨fun a U g mk q => by obtain ⟨q0, q1, q2, qK, q10, q11, q12⟩ := q; exact ⟨q0, q1, q2, jG.calling g mk a qK, q10, q11, q12⟩, fun U hU hW => ⟨rfl, hU, hh.2.1, hG.step hW hU hh.1, hg_r0, jP.nil, by first | omega | (refine ⟨?_, ?_⟩ <;> (first | omega | rfl | assumption | decide | exact Or.inl rfl | exact Or.inr rfl | (simp only; omega)))⟩⟩ rfl rfl hl.1 rfl (lv_room (Nat.le_of_ble_eq_true rfl)) dX11_commentEnd_3 ⟨Nat.zero_le _, Nat.zero_le _⟩) hh.1 (fun q _ h => h) (fun q h => h) (fun r_2 u_1 t_1 H_1 locs_1 ht_1 hvm_1 hr_2 hb_1 hz_1 hk_1 hS_1 => ?_)
  rw [ht_1] at hb_1
  obtain ⟨hb_11, hb_12, hb_13, hb_14, hb_15⟩ := hb_1
  have hh_1 : jSt (dC, dI) B base G0 G0 EX11_commentEnd s.heap 0 0 [] [] [] H_1 locs_1 := (hh.call hb_11 hb_12 hb_13 hb_14 hS_1 rfl (L1 := []) [] rfl rfl (M1 := []) [] rfl rfl (I1 := []) [] rfl rfl).more hb_15
  clear hh ht_1 hvm_1 hz_1 hk_1 hS_1 hb_11 hb_12 hb_13 hb_14 hb_15
  obtain ⟨hr_2b, hr_2p⟩ := hr_2
  have hr_2' := jb_01 hr_2b
  refine lv_if_ne (tgt := 11) hx hb dX11_commentEnd_6 (by decide) (fun c_3 => ?_) (fun c_3 => ?_)
  · skip
    have c_3' : r_2.toInt ≠ 0 := jb_ne (rfl) ((by decide)) c_3
    first | replace hr_2p := hr_2p.resolve_left (by omega) | replace hr_2p := hr_2p.resolve_right (by omega) | skip
    refine lv_iconst (v := 1) hx hb dX11_commentEnd_11 (by decide) ?_
    refine lv_istore_n (lv' := [(3, .int 1), (0, .ref r0), (1, .int a1), (2, .int a2)]) hx hb dX11_commentEnd_12 rfl hl (by decide) rfl (fun ls hl => ?_)
    refine lv_iload_n hx hb dX11_commentEnd_13 rfl (lv_at hl 2 rfl) ?_
    refine lv_iconst (v := 2) hx hb dX11_commentEnd_14 (by decide) ?_
    refine lv_iadd hx hb dX11_commentEnd_15 ?_
    refine lv_topi (fun z_4 ez_4 => ?_)
    have hz_4 : z_4.toInt = a1.toInt + 2 := by rw [ez_4]; exact jb_iadd2 (rfl) ((by decide)) (by omega)
    refine lv_istore (lv' := [(4, .int z_4), (3, .int 1), (0, .ref r0), (1, .int a1), (2, .int a2)]) hx hb dX11_commentEnd_16 hl (by decide) rfl (fun ls hl => ?_)
    have L18 : ∀ (N : Nat) (v3_5 : Int32) (v4_5 : Int32) (H_5 : Heap) (locs_5 : List Loc), jSt (dC, dI) B base G0 G0 EX11_commentEnd s.heap 0 0 [] [] [] H_5 locs_5 → (a1.toInt + 2 ≤ v4_5.toInt ∧ v4_5.toInt ≤ a2.toInt + 2 ∧ 1 ≤ v3_5.toInt ∧ v3_5.toInt ≤ v4_5.toInt) → (((a2.toInt - v4_5.toInt).toNat : Int) : Int) < N → ∀ ls : Array Slot, lv_has ls 5 [(0, .ref r0), (1, .int a1), (2, .int a2), (3, .int v3_5), (4, .int v4_5)] → W p l e R s m ([.ref r0, .int a1, .int a2] : List Value).toArray below meth c H_5 locs_5 0 0 Q (F0 m 18 ls []) := by
      intro N
      induction N with
      | zero => intro v3_5 v4_5 H_5 locs_5 hh_5  hi_5 hm; exact absurd hm (by omega)
      | succ N L18 =>
        intro v3_5 v4_5 H_5 locs_5 hh_5  hi_5 hm_5 ls hl
        obtain ⟨hi_5_0, hi_5_1, hi_5_2, hi_5_3⟩ := hi_5
        clear hr_2p
        refine lv_iload hx hb dX11_commentEnd_18 (lv_at hl 4 rfl) ?_
        refine lv_iconst (v := 1) hx hb dX11_commentEnd_20 (by decide) ?_
        refine lv_iadd hx hb dX11_commentEnd_21 ?_
        refine lv_topi (fun z_6 ez_6 => ?_)
        have hz_6 : z_6.toInt = v4_5.toInt + 1 := by rw [ez_6]; exact jb_iadd2 (rfl) ((by decide)) (by omega)
        refine lv_iload_n hx hb dX11_commentEnd_22 rfl (lv_at hl 2 rfl) ?_
        refine lv_icmp_ge (tgt := 96) hx hb dX11_commentEnd_23 (by decide) (fun c_7 => ?_) (fun c_7 => ?_)
        · skip
          have c_7' : z_6.toInt ≥ a2.toInt := jb_ge (rfl) (rfl) c_7
          refine lv_iconst (v := (-1)) hx hb dX11_commentEnd_96 (by decide) ?_
          rw [hQ]
          exact W.iret (v := (-1)) hx hb hr (fun t ht hW => ⟨⟨(-1), (), rfl, by first | omega | rfl | assumption | decide | exact Or.inl rfl | exact Or.inr rfl | (simp only; omega), hh_5.rt (M1 := []) [] rfl ht⟩, by rw [ht]; try exact hh_5.1.1, fun q h9 hq => by rw [ht]; try exact hh_5.1.2.1 q h9 hq⟩) hh_5.1.2.2 dX11_commentEnd_97
        · skip
          have c_7' : z_6.toInt < a2.toInt := jb_ge_n (rfl) (rfl) c_7
          refine lv_aload_n hx hb dX11_commentEnd_26 rfl (lv_at hl 0 rfl) ?_
          refine lv_iload hx hb dX11_commentEnd_27 (lv_at hl 4 rfl) ?_
          refine j7_iald hx hb hK hh_5 hB101 1 rfl (by decide) hg_r0 (rfl) (by omega) dX11_commentEnd_29 (fun z_8 (hz_8 : True) => ?_)
          refine lv_bipush (v := 40) hx hb dX11_commentEnd_30 (by decide) ?_
          refine lv_icmp_ne (tgt := 55) hx hb dX11_commentEnd_32 (by decide) (fun c_9 => ?_) (fun c_9 => ?_)
          · skip
            have c_9' : z_8.toInt ≠ 40 := jb_ne (rfl) ((by decide)) c_9
            refine lv_aload_n hx hb dX11_commentEnd_55 rfl (lv_at hl 0 rfl) ?_
            refine lv_iload hx hb dX11_commentEnd_56 (lv_at hl 4 rfl) ?_
            refine j7_iald hx hb hK hh_5 hB101 1 rfl (by decide) hg_r0 (rfl) (by omega) dX11_commentEnd_58 (fun z_10 (hz_10 : True) => ?_)
            refine lv_bipush (v := 42) hx hb dX11_commentEnd_59 (by decide) ?_
            refine lv_icmp_ne (tgt := 90) hx hb dX11_commentEnd_61 (by decide) (fun c_11 => ?_) (fun c_11 => ?_)
            · skip
              have c_11' : z_10.toInt ≠ 42 := jb_ne (rfl) ((by decide)) c_11
              obtain ⟨z_12, ez_12⟩ : ∃ y : Int32, y = v4_5 + 1 := ⟨_, rfl⟩
              refine lv_iinc (v := z_12) (lv' := [(4, .int z_12), (0, .ref r0), (1, .int a1), (2, .int a2), (3, .int v3_5)]) hx hb dX11_commentEnd_90 hl (k := 4) rfl (by rw [ez_12]; rfl) (by decide) rfl (fun ls hl => ?_)
              have hz_12 : z_12.toInt = v4_5.toInt + 1 := by rw [ez_12]; exact jb_iadd2 (rfl) (by decide) (by omega)
              refine lv_goto (tgt := 18) hx hb dX11_commentEnd_93 (by decide) ?_
              exact L18 v3_5 z_12 _ _ hh_5 (by first | omega | (refine ⟨?_, ?_, ?_, ?_⟩ <;> (first | omega | rfl | assumption | decide | exact Or.inl rfl | exact Or.inr rfl | (simp only; omega)))) (by omega) _ (lv_sub hl [1, 2, 3, 4, 0] rfl)
            · skip
              have c_11' : z_10.toInt = 42 := jb_ne_n (rfl) ((by decide)) c_11
              refine lv_aload_n hx hb dX11_commentEnd_64 rfl (lv_at hl 0 rfl) ?_
              refine lv_iload hx hb dX11_commentEnd_65 (lv_at hl 4 rfl) ?_
              refine lv_iconst (v := 1) hx hb dX11_commentEnd_67 (by decide) ?_
              refine lv_iadd hx hb dX11_commentEnd_68 ?_
              refine lv_topi (fun z_13 ez_13 => ?_)
              have hz_13 : z_13.toInt = v4_5.toInt + 1 := by rw [ez_13]; exact jb_iadd2 (rfl) ((by decide)) (by omega)
              refine j7_iald hx hb hK hh_5 hB101 1 rfl (by decide) hg_r0 (rfl) (by omega) dX11_commentEnd_69 (fun z_14 (hz_14 : True) => ?_)
              refine lv_bipush (v := 41) hx hb dX11_commentEnd_70 (by decide) ?_
              refine lv_icmp_ne (tgt := 90) hx hb dX11_commentEnd_72 (by decide) (fun c_15 => ?_) (fun c_15 => ?_)
              · skip
                have c_15' : z_14.toInt ≠ 41 := jb_ne (rfl) ((by decide)) c_15
                obtain ⟨z_16, ez_16⟩ : ∃ y : Int32, y = v4_5 + 1 := ⟨_, rfl⟩
                refine lv_iinc (v := z_16) (lv' := [(4, .int z_16), (0, .ref r0), (1, .int a1), (2, .int a2), (3, .int v3_5)]) hx hb dX11_commentEnd_90 hl (k := 4) rfl (by rw [ez_16]; rfl) (by decide) rfl (fun ls hl => ?_)
                have hz_16 : z_16.toInt = v4_5.toInt + 1 := by rw [ez_16]; exact jb_iadd2 (rfl) (by decide) (by omega)
                refine lv_goto (tgt := 18) hx hb dX11_commentEnd_93 (by decide) ?_
                exact L18 v3_5 z_16 _ _ hh_5 (by first | omega | (refine ⟨?_, ?_, ?_, ?_⟩ <;> (first | omega | rfl | assumption | decide | exact Or.inl rfl | exact Or.inr rfl | (simp only; omega)))) (by omega) _ (lv_sub hl [1, 2, 3, 4, 0] rfl)
              · skip
                have c_15' : z_14.toInt = 41 := jb_ne_n (rfl) ((by decide)) c_15
                obtain ⟨z_17, ez_17⟩ : ∃ y : Int32, y = v3_5 + (-1) := ⟨_, rfl⟩
                refine lv_iinc (v := z_17) (lv' := [(3, .int z_17), (0, .ref r0), (1, .int a1), (2, .int a2), (4, .int v4_5)]) hx hb dX11_commentEnd_75 hl (k := 3) rfl (by rw [ez_17]; rfl) (by decide) rfl (fun ls hl => ?_)
                have hz_17 : z_17.toInt = v3_5.toInt + (-1) := by rw [ez_17]; exact jb_iadd2 (rfl) (by decide) (by omega)
                obtain ⟨z_18, ez_18⟩ : ∃ y : Int32, y = v4_5 + 1 := ⟨_, rfl⟩
                refine lv_iinc (v := z_18) (lv' := [(4, .int z_18), (3, .int z_17), (0, .ref r0), (1, .int a1), (2, .int a2)]) hx hb dX11_commentEnd_78 hl (k := 4) rfl (by rw [ez_18]; rfl) (by decide) rfl (fun ls hl => ?_)
                have hz_18 : z_18.toInt = v4_5.toInt + 1 := by rw [ez_18]; exact jb_iadd2 (rfl) (by decide) (by omega)
                refine lv_iload_n hx hb dX11_commentEnd_81 rfl (lv_at hl 1 rfl) ?_
                refine lv_if_ne (tgt := 90) hx hb dX11_commentEnd_82 (by decide) (fun c_19 => ?_) (fun c_19 => ?_)
                · skip
                  have c_19' : z_17.toInt ≠ 0 := jb_ne (rfl) ((by decide)) c_19
                  obtain ⟨z_20, ez_20⟩ : ∃ y : Int32, y = z_18 + 1 := ⟨_, rfl⟩
                  refine lv_iinc (v := z_20) (lv' := [(4, .int z_20), (3, .int z_17), (0, .ref r0), (1, .int a1), (2, .int a2)]) hx hb dX11_commentEnd_90 hl (k := 0) rfl (by rw [ez_20]; rfl) (by decide) rfl (fun ls hl => ?_)
                  have hz_20 : z_20.toInt = z_18.toInt + 1 := by rw [ez_20]; exact jb_iadd2 (rfl) (by decide) (by omega)
                  refine lv_goto (tgt := 18) hx hb dX11_commentEnd_93 (by decide) ?_
                  exact L18 z_17 z_20 _ _ hh_5 (by first | omega | (refine ⟨?_, ?_, ?_, ?_⟩ <;> (first | omega | rfl | assumption | decide | exact Or.inl rfl | exact Or.inr rfl | (simp only; omega)))) (by omega) _ (lv_sub hl [2, 3, 4, 1, 0] rfl)
                · skip
                  have c_19' : z_17.toInt = 0 := jb_ne_n (rfl) ((by decide)) c_19
                  refine lv_iload hx hb dX11_commentEnd_85 (lv_at hl 0 rfl) ?_
                  refine lv_iconst (v := 1) hx hb dX11_commentEnd_87 (by decide) ?_
                  refine lv_iadd hx hb dX11_commentEnd_88 ?_
                  refine lv_topi (fun z_21 ez_21 => ?_)
                  have hz_21 : z_21.toInt = z_18.toInt + 1 := by rw [ez_21]; exact jb_iadd2 (rfl) ((by decide)) (by omega)
                  rw [hQ]
                  exact W.iret (v := z_21) hx hb hr (fun t ht hW => ⟨⟨z_21, (), rfl, by first | omega | rfl | assumption | decide | exact Or.inl rfl | exact Or.inr rfl | (simp only; omega), hh_5.rt (M1 := []) [] rfl ht⟩, by rw [ht]; try exact hh_5.1.1, fun q h9 hq => by rw [ht]; try exact hh_5.1.2.1 q h9 hq⟩) hh_5.1.2.2 dX11_commentEnd_89
          · skip
            have c_9' : z_8.toInt = 40 := jb_ne_n (rfl) ((by decide)) c_9
            refine lv_aload_n hx hb dX11_commentEnd_35 rfl (lv_at hl 0 rfl) ?_
            refine lv_iload hx hb dX11_commentEnd_36 (lv_at hl 4 rfl) ?_
            refine lv_iconst (v := 1) hx hb dX11_commentEnd_38 (by decide) ?_
            refine lv_iadd hx hb dX11_commentEnd_39 ?_
            refine lv_topi (fun z_22 ez_22 => ?_)
            have hz_22 : z_22.toInt = v4_5.toInt + 1 := by rw [ez_22]; exact jb_iadd2 (rfl) ((by decide)) (by omega)
            refine j7_iald hx hb hK hh_5 hB101 1 rfl (by decide) hg_r0 (rfl) (by omega) dX11_commentEnd_40 (fun z_23 (hz_23 : True) => ?_)
            refine lv_bipush (v := 42) hx hb dX11_commentEnd_41 (by decide) ?_
            refine lv_icmp_ne (tgt := 55) hx hb dX11_commentEnd_43 (by decide) (fun c_24 => ?_) (fun c_24 => ?_)
            · skip
              have c_24' : z_23.toInt ≠ 42 := jb_ne (rfl) ((by decide)) c_24
              refine lv_aload_n hx hb dX11_commentEnd_55 rfl (lv_at hl 0 rfl) ?_
              refine lv_iload hx hb dX11_commentEnd_56 (lv_at hl 4 rfl) ?_
              refine j7_iald hx hb hK hh_5 hB101 1 rfl (by decide) hg_r0 (rfl) (by omega) dX11_commentEnd_58 (fun z_25 (hz_25 : True) => ?_)
              refine lv_bipush (v := 42) hx hb dX11_commentEnd_59 (by decide) ?_
              refine lv_icmp_ne (tgt := 90) hx hb dX11_commentEnd_61 (by decide) (fun c_26 => ?_) (fun c_26 => ?_)
              · skip
                have c_26' : z_25.toInt ≠ 42 := jb_ne (rfl) ((by decide)) c_26
                obtain ⟨z_27, ez_27⟩ : ∃ y : Int32, y = v4_5 + 1 := ⟨_, rfl⟩
                refine lv_iinc (v := z_27) (lv' := [(4, .int z_27), (0, .ref r0), (1, .int a1), (2, .int a2), (3, .int v3_5)]) hx hb dX11_commentEnd_90 hl (k := 4) rfl (by rw [ez_27]; rfl) (by decide) rfl (fun ls hl => ?_)
                have hz_27 : z_27.toInt = v4_5.toInt + 1 := by rw [ez_27]; exact jb_iadd2 (rfl) (by decide) (by omega)
                refine lv_goto (tgt := 18) hx hb dX11_commentEnd_93 (by decide) ?_
                exact L18 v3_5 z_27 _ _ hh_5 (by first | omega | (refine ⟨?_, ?_, ?_, ?_⟩ <;> (first | omega | rfl | assumption | decide | exact Or.inl rfl | exact Or.inr rfl | (simp only; omega)))) (by omega) _ (lv_sub hl [1, 2, 3, 4, 0] rfl)
              · skip
                have c_26' : z_25.toInt = 42 := jb_ne_n (rfl) ((by decide)) c_26
                refine lv_aload_n hx hb dX11_commentEnd_64 rfl (lv_at hl 0 rfl) ?_
                refine lv_iload hx hb dX11_commentEnd_65 (lv_at hl 4 rfl) ?_
                refine lv_iconst (v := 1) hx hb dX11_commentEnd_67 (by decide) ?_
                refine lv_iadd hx hb dX11_commentEnd_68 ?_
                refine lv_topi (fun z_28 ez_28 => ?_)
                have hz_28 : z_28.toInt = v4_5.toInt + 1 := by rw [ez_28]; exact jb_iadd2 (rfl) ((by decide)) (by omega)
                refine j7_iald hx hb hK hh_5 hB101 1 rfl (by decide) hg_r0 (rfl) (by omega) dX11_commentEnd_69 (fun z_29 (hz_29 : True) => ?_)
                refine lv_bipush (v := 41) hx hb dX11_commentEnd_70 (by decide) ?_
                refine lv_icmp_ne (tgt := 90) hx hb dX11_commentEnd_72 (by decide) (fun c_30 => ?_) (fun c_30 => ?_)
                · skip
                  have c_30' : z_29.toInt ≠ 41 := jb_ne (rfl) ((by decide)) c_30
                  obtain ⟨z_31, ez_31⟩ : ∃ y : Int32, y = v4_5 + 1 := ⟨_, rfl⟩
                  refine lv_iinc (v := z_31) (lv' := [(4, .int z_31), (0, .ref r0), (1, .int a1), (2, .int a2), (3, .int v3_5)]) hx hb dX11_commentEnd_90 hl (k := 4) rfl (by rw [ez_31]; rfl) (by decide) rfl (fun ls hl => ?_)
                  have hz_31 : z_31.toInt = v4_5.toInt + 1 := by rw [ez_31]; exact jb_iadd2 (rfl) (by decide) (by omega)
                  refine lv_goto (tgt := 18) hx hb dX11_commentEnd_93 (by decide) ?_
                  exact L18 v3_5 z_31 _ _ hh_5 (by first | omega | (refine ⟨?_, ?_, ?_, ?_⟩ <;> (first | omega | rfl | assumption | decide | exact Or.inl rfl | exact Or.inr rfl | (simp only; omega)))) (by omega) _ (lv_sub hl [1, 2, 3, 4, 0] rfl)
                · skip
                  have c_30' : z_29.toInt = 41 := jb_ne_n (rfl) ((by decide)) c_30
                  obtain ⟨z_32, ez_32⟩ : ∃ y : Int32, y = v3_5 + (-1) := ⟨_, rfl⟩
                  refine lv_iinc (v := z_32) (lv' := [(3, .int z_32), (0, .ref r0), (1, .int a1), (2, .int a2), (4, .int v4_5)]) hx hb dX11_commentEnd_75 hl (k := 3) rfl (by rw [ez_32]; rfl) (by decide) rfl (fun ls hl => ?_)
                  have hz_32 : z_32.toInt = v3_5.toInt + (-1) := by rw [ez_32]; exact jb_iadd2 (rfl) (by decide) (by omega)
                  obtain ⟨z_33, ez_33⟩ : ∃ y : Int32, y = v4_5 + 1 := ⟨_, rfl⟩
                  refine lv_iinc (v := z_33) (lv' := [(4, .int z_33), (3, .int z_32), (0, .ref r0), (1, .int a1), (2, .int a2)]) hx hb dX11_commentEnd_78 hl (k := 4) rfl (by rw [ez_33]; rfl) (by decide) rfl (fun ls hl => ?_)
                  have hz_33 : z_33.toInt = v4_5.toInt + 1 := by rw [ez_33]; exact jb_iadd2 (rfl) (by decide) (by omega)
                  refine lv_iload_n hx hb dX11_commentEnd_81 rfl (lv_at hl 1 rfl) ?_
                  refine lv_if_ne (tgt := 90) hx hb dX11_commentEnd_82 (by decide) (fun c_34 => ?_) (fun c_34 => ?_)
                  · skip
                    have c_34' : z_32.toInt ≠ 0 := jb_ne (rfl) ((by decide)) c_34
                    obtain ⟨z_35, ez_35⟩ : ∃ y : Int32, y = z_33 + 1 := ⟨_, rfl⟩
                    refine lv_iinc (v := z_35) (lv' := [(4, .int z_35), (3, .int z_32), (0, .ref r0), (1, .int a1), (2, .int a2)]) hx hb dX11_commentEnd_90 hl (k := 0) rfl (by rw [ez_35]; rfl) (by decide) rfl (fun ls hl => ?_)
                    have hz_35 : z_35.toInt = z_33.toInt + 1 := by rw [ez_35]; exact jb_iadd2 (rfl) (by decide) (by omega)
                    refine lv_goto (tgt := 18) hx hb dX11_commentEnd_93 (by decide) ?_
                    exact L18 z_32 z_35 _ _ hh_5 (by first | omega | (refine ⟨?_, ?_, ?_, ?_⟩ <;> (first | omega | rfl | assumption | decide | exact Or.inl rfl | exact Or.inr rfl | (simp only; omega)))) (by omega) _ (lv_sub hl [2, 3, 4, 1, 0] rfl)
                  · skip
                    have c_34' : z_32.toInt = 0 := jb_ne_n (rfl) ((by decide)) c_34
                    refine lv_iload hx hb dX11_commentEnd_85 (lv_at hl 0 rfl) ?_
                    refine lv_iconst (v := 1) hx hb dX11_commentEnd_87 (by decide) ?_
                    refine lv_iadd hx hb dX11_commentEnd_88 ?_
                    refine lv_topi (fun z_36 ez_36 => ?_)
                    have hz_36 : z_36.toInt = z_33.toInt + 1 := by rw [ez_36]; exact jb_iadd2 (rfl) ((by decide)) (by omega)
                    rw [hQ]
                    exact W.iret (v := z_36) hx hb hr (fun t ht hW => ⟨⟨z_36, (), rfl, by first | omega | rfl | assumption | decide | exact Or.inl rfl | exact Or.inr rfl | (simp only; omega), hh_5.rt (M1 := []) [] rfl ht⟩, by rw [ht]; try exact hh_5.1.1, fun q h9 hq => by rw [ht]; try exact hh_5.1.2.1 q h9 hq⟩) hh_5.1.2.2 dX11_commentEnd_89
            · skip
              have c_24' : z_23.toInt = 42 := jb_ne_n (rfl) ((by decide)) c_24
              obtain ⟨z_37, ez_37⟩ : ∃ y : Int32, y = v3_5 + 1 := ⟨_, rfl⟩
              refine lv_iinc (v := z_37) (lv' := [(3, .int z_37), (0, .ref r0), (1, .int a1), (2, .int a2), (4, .int v4_5)]) hx hb dX11_commentEnd_46 hl (k := 3) rfl (by rw [ez_37]; rfl) (by decide) rfl (fun ls hl => ?_)
              have hz_37 : z_37.toInt = v3_5.toInt + 1 := by rw [ez_37]; exact jb_iadd2 (rfl) (by decide) (by omega)
              obtain ⟨z_38, ez_38⟩ : ∃ y : Int32, y = v4_5 + 1 := ⟨_, rfl⟩
              refine lv_iinc (v := z_38) (lv' := [(4, .int z_38), (3, .int z_37), (0, .ref r0), (1, .int a1), (2, .int a2)]) hx hb dX11_commentEnd_49 hl (k := 4) rfl (by rw [ez_38]; rfl) (by decide) rfl (fun ls hl => ?_)
              have hz_38 : z_38.toInt = v4_5.toInt + 1 := by rw [ez_38]; exact jb_iadd2 (rfl) (by decide) (by omega)
              refine lv_goto (tgt := 90) hx hb dX11_commentEnd_52 (by decide) ?_
              obtain ⟨z_39, ez_39⟩ : ∃ y : Int32, y = z_38 + 1 := ⟨_, rfl⟩
              refine lv_iinc (v := z_39) (lv' := [(4, .int z_39), (3, .int z_37), (0, .ref r0), (1, .int a1), (2, .int a2)]) hx hb dX11_commentEnd_90 hl (k := 0) rfl (by rw [ez_39]; rfl) (by decide) rfl (fun ls hl => ?_)
              have hz_39 : z_39.toInt = z_38.toInt + 1 := by rw [ez_39]; exact jb_iadd2 (rfl) (by decide) (by omega)
              refine lv_goto (tgt := 18) hx hb dX11_commentEnd_93 (by decide) ?_
              exact L18 z_37 z_39 _ _ hh_5 (by first | omega | (refine ⟨?_, ?_, ?_, ?_⟩ <;> (first | omega | rfl | assumption | decide | exact Or.inl rfl | exact Or.inr rfl | (simp only; omega)))) (by omega) _ (lv_sub hl [2, 3, 4, 1, 0] rfl)
    exact L18 (((a2.toInt - (z_4 : Int32).toInt).toNat : Int) : Int).toNat.succ 1 z_4 _ _ hh_1 (by first | omega | (refine ⟨?_, ?_, ?_, ?_⟩ <;> (first | omega | rfl | assumption | decide | exact Or.inl rfl | exact Or.inr rfl | (simp only; omega)))) (by omega) _ (lv_sub hl [2, 3, 4, 1, 0] rfl)
  · skip
    have c_3' : r_2.toInt = 0 := jb_ne_n (rfl) ((by decide)) c_3
    first | replace hr_2p := hr_2p.resolve_left (by omega) | replace hr_2p := hr_2p.resolve_right (by omega) | skip
    refine lv_iconst (v := (-1)) hx hb dX11_commentEnd_9 (by decide) ?_
    rw [hQ]
    exact W.iret (v := (-1)) hx hb hr (fun t ht hW => ⟨⟨(-1), (), rfl, by first | omega | rfl | assumption | decide | exact Or.inl rfl | exact Or.inr rfl | (simp only; omega), hh_1.rt (M1 := []) [] rfl ht⟩, by rw [ht]; try exact hh_1.1.1, fun q h9 hq => by rw [ht]; try exact hh_1.1.2.1 q h9 hq⟩) hh_1.1.2.2 dX11_commentEnd_10
set_option maxHeartbeats 4000000 in
set_option maxRecDepth 20000 in
theorem uX6_find (l : Launch) (dC : Nat → ClassId) (dI : Nat → Nat → Nat) (ca : Nat → ClassId) (base : Nat) (B : jF) (hB : jBok B) (hAp : jAp (dC, dI)) (hB8 : ∀ n G a H, B 8 n G a H ↔ jOb (dC, dI) 8 4 (F8 n G) a H) (hB102 : ∀ n G a H, B 102 n G a H ↔ jAl (dC, dI) (ca 2) n a H) (hB132 : ∀ n G a H, B 132 n G a H ↔ jAr (dC, dI) (ca 1) (fun j z => 0 ≤ z.toInt ∧ z.toInt ≤ 10) n a H) (hB133 : ∀ n G a H, B 133 n G a H ↔ jAr (dC, dI) (ca 1) (fun j z => 0 ≤ z.toInt ∧ z.toInt ≤ 8192) n a H) (G0 : jT) (H0 : Heap) (r0 : Nat) (a1 : Int64) (a3 : Int32) (a4 : Int32) : Met l yX6_find wsX6_find ({ frames := 0, cells := 0, slots := 0, locals := 0 }) (va_Pc [.ref r0, .long a1, .int a3, .int a4] (fun U => U.heap = H0 ∧ jX B base G0 [] H0 ∧ jG dC dI ca base U ∧ G0 r0 = some (8, 0) ∧ jP (dC, dI) G0 H0 [] ∧ 0 ≤ a3.toInt ∧ a3.toInt ≤ 10)) (va_Qi (S := Unit) (fun r u => (-1 ≤ r.toInt ∧ r.toInt ≤ 8191)) (fun u t => jRt (dC, dI) B base G0 EX6_find H0 [] t.heap) (jA base)) 0 0 (jA base) := by
  refine Met.ofW (cc := cX6_find) (maxL := 9) (ret := (some .int)) (by decide) rfl ?_
  intro p e s m args below meth c s₁ Bd hml hv
  obtain ⟨rfl, hH0, hX, hG, hg_r0, hP0, hp0, hp1⟩ := hv
  have hK := hG.1
  have hx := Bd.exec
  have hb := Bd.bytes
  have hr := Bd.returns
  have hts := atoms_spec (ws := wsX6_find) Bd.pre
  have hown : s.vm.findClass RX6 = some m.cls := findClass_of_methodNamed Bd.named
  have hlocks := Bd.notSynchronized
  obtain ⟨Q, hQ⟩ : ∃ Q, Q = MQ below (va_Qi (S := Unit) (fun r u => (-1 ≤ r.toInt ∧ r.toInt ≤ 8191)) (fun u t => jRt (dC, dI) B base G0 EX6_find H0 [] t.heap) (jA base)) ([.ref r0, .long a1, .int a3, .int a4] : List Value).toArray s 0 0 (jA base) := ⟨_, rfl⟩
  rw [← hQ]
  have hl := lv_entry ([.ref r0, .long a1, .int a3, .int a4]) (n := 9) (Nat.le_of_ble_eq_true rfl)
  rw [lg_entry_eq]
  generalize (lg_sl ([.ref r0, .long a1, .int a3, .int a4]) ++ List.replicate (9 - (lg_sl ([.ref r0, .long a1, .int a3, .int a4])).length) Slot.unset).toArray = ls at hl ⊢
  have hl : lv_has ls 9 [(0, .ref r0), (1, .long a1), (3, .int a3), (4, .int a4)] := hl
  generalize hR : (headSpec wsX6_find ({ frames := 0, cells := 0, slots := 0, locals := 0 })).room = R
  subst hH0
  have hh : jSt (dC, dI) B base G0 G0 EX6_find s.heap 0 0 [] [] [] s.heap [] := jSt.start hX hP0 jMc.nil jIs.nil
  clear hX hP0
  have hkm1 : ((-1) : Int32).toInt = (-1) := by decide
  have hk0 : (0 : Int32).toInt = 0 := by decide
  have hk1 : (1 : Int32).toInt = 1 := by decide
  have hk31 : (31 : Int32).toInt = 31 := by decide
  have hk40 : (40 : Int32).toInt = 40 := by decide
  have hk8192 : (8192 : Int32).toInt = 8192 := by decide
  have hk16383 : (16383 : Int32).toInt = 16383 := by decide
  have hk16384 : (16384 : Int32).toInt = 16384 := by decide
  have hly_8_0 := hts (u_lay RX6 TX6 0) (by decide +kernel)
  have hly_8_1 := hts (u_lay RX6 TX6 1) (by decide +kernel)
  have hly_8_2 := hts (u_lay RX6 TX6 2) (by decide +kernel)
  have hly_8_3 := hts (u_lay RX6 TX6 3) (by decide +kernel)
  have hrg_a3 := jb_rng a3
  have hrg_a4 := jb_rng a4
  refine lv_lload_n hx hb dX6_find_0 rfl (lv_at hl 1 rfl) ?_
  refine lv_ldc2 hx hb hown (hts (.constantLong RX6 50 (-7046029254386353131)) (by decide +kernel)) dX6_find_1 ?_
  refine lv_lmul hx hb dX6_find_4 ?_
  refine lv_topl (fun z_1 ez_1 => ?_)
  refine lv_bipush (v := 40) hx hb dX6_find_5 (by decide) ?_
  refine lv_lushr hx hb dX6_find_7 rfl ?_
  refine lv_topl (fun z_2 ez_2 => ?_)
  refine lv_l2i hx hb dX6_find_8 rfl ?_
  refine lv_topi (fun z_3 ez_3 => ?_)
  refine lv_bipush (v := 31) hx hb dX6_find_9 (by decide) ?_
  refine lv_iload_n hx hb dX6_find_11 rfl (lv_at hl 2 rfl) ?_
  refine lv_imul hx hb dX6_find_12 ?_
  refine lv_topi (fun z_4 ez_4 => ?_)
  refine lv_iadd hx hb dX6_find_13 ?_
  refine lv_topi (fun z_5 ez_5 => ?_)
  refine lv_istore (lv' := [(5, .int z_5), (0, .ref r0), (1, .long a1), (3, .int a3), (4, .int a4)]) hx hb dX6_find_14 hl (by decide) rfl (fun ls hl => ?_)
  refine lv_iconst (v := 0) hx hb dX6_find_16 (by decide) ?_
  refine lv_istore (lv' := [(6, .int 0), (5, .int z_5), (0, .ref r0), (1, .long a1), (3, .int a3), (4, .int a4)]) hx hb dX6_find_17 hl (by decide) rfl (fun ls hl => ?_)
  have L19 : ∀ (N : Nat) (v6_6 : Int32) (H_6 : Heap) (locs_6 : List Loc), jSt (dC, dI) B base G0 G0 EX6_find s.heap 0 0 [] [] [] H_6 locs_6 → (0 ≤ v6_6.toInt ∧ v6_6.toInt ≤ 16384) → (16384 - v6_6.toInt : Int) < N → ∀ ls : Array Slot, lv_has ls 9 [(0, .ref r0), (1, .long a1), (3, .int a3), (4, .int a4), (5, .int z_5), (6, .int v6_6)] → W p l e R s m ([.ref r0, .long a1, .int a3, .int a4] : List Value).toArray below meth c H_6 locs_6 0 0 Q (F0 m 19 ls []) := by
    intro N
    induction N with
    | zero => intro v6_6 H_6 locs_6 hh_6  hi_6 hm; exact absurd hm (by omega)
    | succ N L19 =>
      intro v6_6 H_6 locs_6 hh_6  hi_6 hm_6 ls hl
      obtain ⟨hi_6_0, hi_6_1⟩ := hi_6
      refine lv_iload hx hb dX6_find_19 (lv_at hl 5 rfl) ?_
      refine lv_sipush (v := 16384) hx hb dX6_find_21 (by decide) ?_
      refine lv_icmp_ge (tgt := 151) hx hb dX6_find_24 (by decide) (fun c_7 => ?_) (fun c_7 => ?_)
      · skip
        have c_7' : v6_6.toInt ≥ 16384 := jb_ge (rfl) ((by decide)) c_7
        refine lv_iconst (v := (-1)) hx hb dX6_find_151 (by decide) ?_
        rw [hQ]
        exact W.iret (v := (-1)) hx hb hr (fun t ht hW => ⟨⟨(-1), (), rfl, by first | omega | (refine ⟨?_, ?_⟩ <;> (first | omega | rfl | assumption | decide | exact Or.inl rfl | exact Or.inr rfl | (simp only; omega))), hh_6.rt (M1 := []) [] rfl ht⟩, by rw [ht]; try exact hh_6.1.1, fun q h9 hq => by rw [ht]; try exact hh_6.1.2.1 q h9 hq⟩) hh_6.1.2.2 dX6_find_152
      · skip
        have c_7' : v6_6.toInt < 16384 := jb_ge_n (rfl) ((by decide)) c_7
        refine lv_iload hx hb dX6_find_27 (lv_at hl 4 rfl) ?_
        refine lv_iload hx hb dX6_find_29 (lv_at hl 5 rfl) ?_
        refine lv_iadd hx hb dX6_find_31 ?_
        refine lv_topi (fun z_8 ez_8 => ?_)
        refine lv_sipush (v := 16383) hx hb dX6_find_32 (by decide) ?_
        refine lv_iand hx hb dX6_find_35 ?_
        refine lv_topi (fun z_9 ez_9 => ?_)
        have hz_9 : 0 ≤ z_9.toInt ∧ z_9.toInt ≤ 16383 := by rw [ez_9]; exact jb_and z_8 (m := 16383) (k := 14) (by decide) (by decide)
        refine lv_istore (lv' := [(7, .int z_9), (0, .ref r0), (1, .long a1), (3, .int a3), (4, .int a4), (5, .int z_5), (6, .int v6_6)]) hx hb dX6_find_36 hl (by decide) rfl (fun ls hl => ?_)
        refine lv_aload_n hx hb dX6_find_38 rfl (lv_at hl 1 rfl) ?_
        obtain ⟨v_10, hv_10, hh_11⟩ := hh_6.pin (C := RX6) (T := TX6) (N := 4) hB8 rfl (by decide) hg_r0 (i := 2) (by decide) rfl
        clear hh_6
        obtain ⟨slots_12, rfl, hg_slots_12⟩ := hv_10
        refine j7_read hx hb hown hK (C := RX6) (T := TX6) (N := 4) rfl hly_8_2 (hts (.fieldLink RX6 19 "ProofServer$Names" "slots" "[I") (by decide +kernel)) (hh_11.at 0 rfl) dX6_find_39 ?_
        refine lv_iload hx hb dX6_find_42 (lv_at hl 0 rfl) ?_
        refine j7_iald hx hb hK hh_11 hB133 1 rfl (by decide) hg_slots_12 (rfl) (by omega) dX6_find_44 (fun z_13 (hz_13 : 0 ≤ z_13.toInt ∧ z_13.toInt ≤ 8192) => ?_)
        refine lv_iconst (v := 1) hx hb dX6_find_45 (by decide) ?_
        refine lv_isub hx hb dX6_find_46 ?_
        refine lv_topi (fun z_14 ez_14 => ?_)
        have hz_14 : z_14.toInt = z_13.toInt - 1 := by rw [ez_14]; exact jb_isub2 (rfl) ((by decide)) (by omega)
        refine lv_istore (lv' := [(8, .int z_14), (7, .int z_9), (0, .ref r0), (1, .long a1), (3, .int a3), (4, .int a4), (5, .int z_5), (6, .int v6_6)]) hx hb dX6_find_47 hl (by decide) rfl (fun ls hl => ?_)
        refine lv_iload hx hb dX6_find_49 (lv_at hl 0 rfl) ?_
        refine lv_if_ge (tgt := 119) hx hb dX6_find_51 (by decide) (fun c_15 => ?_) (fun c_15 => ?_)
        · skip
          have c_15' : z_14.toInt ≥ 0 := jb_ge (rfl) ((by decide)) c_15
          refine lv_aload_n hx hb dX6_find_119 rfl (lv_at hl 2 rfl) ?_
          obtain ⟨v_16, hv_16, hh_17⟩ := hh_11.pin (C := RX6) (T := TX6) (N := 4) hB8 rfl (by decide) hg_r0 (i := 0) (by decide) rfl
          clear hh_11
          obtain ⟨stems_18, rfl, hg_stems_18⟩ := hv_16
          refine j7_read hx hb hown hK (C := RX6) (T := TX6) (N := 4) rfl hly_8_0 (hts (.fieldLink RX6 11 "ProofServer$Names" "stems" "[J") (by decide +kernel)) (hh_17.at 0 rfl) dX6_find_120 ?_
          refine lv_iload hx hb dX6_find_123 (lv_at hl 0 rfl) ?_
          refine j7_lald hx hb hK hh_17 hB102 2 rfl (by decide) hg_stems_18 (rfl) (by omega) dX6_find_125 (fun z_19 => ?_)
          refine lv_lload_n hx hb dX6_find_126 rfl (lv_at hl 3 rfl) ?_
          refine W.lcmp hx hb dX6_find_127 ?_
          refine lv_topi (fun z_20 ez_20 => ?_)
          have hz_20 := jb_lcmp ez_20
          refine lv_if_ne (tgt := 145) hx hb dX6_find_128 (by decide) (fun c_21 => ?_) (fun c_21 => ?_)
          · skip
            have c_21' : z_20.toInt ≠ 0 := jb_ne (rfl) ((by decide)) c_21
            obtain ⟨z_22, ez_22⟩ : ∃ y : Int32, y = v6_6 + 1 := ⟨_, rfl⟩
            refine lv_iinc (v := z_22) (lv' := [(6, .int z_22), (8, .int z_14), (7, .int z_9), (0, .ref r0), (1, .long a1), (3, .int a3), (4, .int a4), (5, .int z_5)]) hx hb dX6_find_145 hl (k := 7) rfl (by rw [ez_22]; rfl) (by decide) rfl (fun ls hl => ?_)
            have hz_22 : z_22.toInt = v6_6.toInt + 1 := by rw [ez_22]; exact jb_iadd2 (rfl) (by decide) (by omega)
            refine lv_goto (tgt := 19) hx hb dX6_find_148 (by decide) ?_
            exact L19 z_22 _ _ (hh_17.sub (L1 := []) [] rfl (M1 := []) [] rfl (I1 := []) [] rfl) (by first | omega | (refine ⟨?_, ?_⟩ <;> (first | omega | rfl | assumption | decide | exact Or.inl rfl | exact Or.inr rfl | (simp only; omega)))) (by omega) _ (lv_sub hl [3, 4, 5, 6, 7, 0] rfl)
          · skip
            have c_21' : z_20.toInt = 0 := jb_ne_n (rfl) ((by decide)) c_21
            refine lv_aload_n hx hb dX6_find_131 rfl (lv_at hl 2 rfl) ?_
            obtain ⟨v_23, hv_23, hh_24⟩ := hh_17.pin (C := RX6) (T := TX6) (N := 4) hB8 rfl (by decide) hg_r0 (i := 1) (by decide) rfl
            clear hh_17
            obtain ⟨primes_25, rfl, hg_primes_25⟩ := hv_23
            refine j7_read hx hb hown hK (C := RX6) (T := TX6) (N := 4) rfl hly_8_1 (hts (.fieldLink RX6 15 "ProofServer$Names" "primes" "[I") (by decide +kernel)) (hh_24.at 0 rfl) dX6_find_132 ?_
            refine lv_iload hx hb dX6_find_135 (lv_at hl 0 rfl) ?_
            refine j7_iald hx hb hK hh_24 hB132 1 rfl (by decide) hg_primes_25 (rfl) (by omega) dX6_find_137 (fun z_26 (hz_26 : 0 ≤ z_26.toInt ∧ z_26.toInt ≤ 10) => ?_)
            refine lv_iload_n hx hb dX6_find_138 rfl (lv_at hl 4 rfl) ?_
            refine lv_icmp_ne (tgt := 145) hx hb dX6_find_139 (by decide) (fun c_27 => ?_) (fun c_27 => ?_)
            · skip
              have c_27' : z_26.toInt ≠ a3.toInt := jb_ne (rfl) (rfl) c_27
              obtain ⟨z_28, ez_28⟩ : ∃ y : Int32, y = v6_6 + 1 := ⟨_, rfl⟩
              refine lv_iinc (v := z_28) (lv' := [(6, .int z_28), (8, .int z_14), (7, .int z_9), (0, .ref r0), (1, .long a1), (3, .int a3), (4, .int a4), (5, .int z_5)]) hx hb dX6_find_145 hl (k := 7) rfl (by rw [ez_28]; rfl) (by decide) rfl (fun ls hl => ?_)
              have hz_28 : z_28.toInt = v6_6.toInt + 1 := by rw [ez_28]; exact jb_iadd2 (rfl) (by decide) (by omega)
              refine lv_goto (tgt := 19) hx hb dX6_find_148 (by decide) ?_
              exact L19 z_28 _ _ (hh_24.sub (L1 := []) [] rfl (M1 := []) [] rfl (I1 := []) [] rfl) (by first | omega | (refine ⟨?_, ?_⟩ <;> (first | omega | rfl | assumption | decide | exact Or.inl rfl | exact Or.inr rfl | (simp only; omega)))) (by omega) _ (lv_sub hl [3, 4, 5, 6, 7, 0] rfl)
            · skip
              have c_27' : z_26.toInt = a3.toInt := jb_ne_n (rfl) (rfl) c_27
              refine lv_iload hx hb dX6_find_142 (lv_at hl 0 rfl) ?_
              rw [hQ]
              exact W.iret (v := z_14) hx hb hr (fun t ht hW => ⟨⟨z_14, (), rfl, by first | omega | (refine ⟨?_, ?_⟩ <;> (first | omega | rfl | assumption | decide | exact Or.inl rfl | exact Or.inr rfl | (simp only; omega))), hh_24.rt (M1 := []) [] rfl ht⟩, by rw [ht]; try exact hh_24.1.1, fun q h9 hq => by rw [ht]; try exact hh_24.1.2.1 q h9 hq⟩) hh_24.1.2.2 dX6_find_144
        · skip
          have c_15' : z_14.toInt < 0 := jb_ge_n (rfl) ((by decide)) c_15
          refine lv_iload hx hb dX6_find_54 (lv_at hl 5 rfl) ?_
          refine lv_if_eq (tgt := 69) hx hb dX6_find_56 (by decide) (fun c_29 => ?_) (fun c_29 => ?_)
          · skip
            have c_29' : a4.toInt = 0 := jb_eq (rfl) ((by decide)) c_29
            refine lv_iconst (v := (-1)) hx hb dX6_find_69 (by decide) ?_
            rw [hQ]
            exact W.iret (v := (-1)) hx hb hr (fun t ht hW => ⟨⟨(-1), (), rfl, by first | omega | (refine ⟨?_, ?_⟩ <;> (first | omega | rfl | assumption | decide | exact Or.inl rfl | exact Or.inr rfl | (simp only; omega))), hh_11.rt (M1 := []) [] rfl ht⟩, by rw [ht]; try exact hh_11.1.1, fun q h9 hq => by rw [ht]; try exact hh_11.1.2.1 q h9 hq⟩) hh_11.1.2.2 dX6_find_70
          · skip
            have c_29' : a4.toInt ≠ 0 := jb_eq_n (rfl) ((by decide)) c_29
            refine lv_aload_n hx hb dX6_find_59 rfl (lv_at hl 2 rfl) ?_
            obtain ⟨v_30, hv_30, hh_31⟩ := hh_11.pin (C := RX6) (T := TX6) (N := 4) hB8 rfl (by decide) hg_r0 (i := 3) (by decide) rfl
            clear hh_11
            obtain ⟨count_32, rfl, hlocount_32, hhicount_32⟩ := hv_30
            refine j7_read hx hb hown hK (C := RX6) (T := TX6) (N := 4) rfl hly_8_3 (hts (.fieldLink RX6 52 "ProofServer$Names" "count" "I") (by decide +kernel)) (hh_31.at 0 rfl) dX6_find_60 ?_
            refine lv_sipush (v := 8192) hx hb dX6_find_63 (by decide) ?_
            refine lv_icmp_lt (tgt := 71) hx hb dX6_find_66 (by decide) (fun c_33 => ?_) (fun c_33 => ?_)
            · skip
              have c_33' : count_32.toInt < 8192 := jb_lt (rfl) ((by decide)) c_33
              refine lv_aload_n hx hb dX6_find_71 rfl (lv_at hl 2 rfl) ?_
              obtain ⟨v_34, hv_34, hh_35⟩ := hh_31.pin (C := RX6) (T := TX6) (N := 4) hB8 rfl (by decide) hg_r0 (i := 0) (by decide) rfl
              clear hh_31
              obtain ⟨stems_36, rfl, hg_stems_36⟩ := hv_34
              refine j7_read hx hb hown hK (C := RX6) (T := TX6) (N := 4) rfl hly_8_0 (hts (.fieldLink RX6 11 "ProofServer$Names" "stems" "[J") (by decide +kernel)) (hh_35.at 0 rfl) dX6_find_72 ?_
              refine lv_aload_n hx hb dX6_find_75 rfl (lv_at hl 2 rfl) ?_
              refine j7_read hx hb hown hK (C := RX6) (T := TX6) (N := 4) rfl hly_8_3 (hts (.fieldLink RX6 52 "ProofServer$Names" "count" "I") (by decide +kernel)) (hh_35.at 1 rfl) dX6_find_76 ?_
              refine lv_lload_n hx hb dX6_find_79 rfl (lv_at hl 3 rfl) ?_
              refine j7_last hx hb hK hh_35 hB hB102 2 rfl (by decide) (by decide) rfl rfl rfl hg_stems_36 (rfl) (by omega) dX6_find_80 (fun H_37 locs_37 hh_37 => ?_)
              clear hh_35
              refine lv_aload_n hx hb dX6_find_81 rfl (lv_at hl 2 rfl) ?_
              obtain ⟨v_38, hv_38, hh_39⟩ := hh_37.pin (C := RX6) (T := TX6) (N := 4) hB8 rfl (by decide) hg_r0 (i := 1) (by decide) rfl
              clear hh_37
              obtain ⟨primes_40, rfl, hg_primes_40⟩ := hv_38
              refine j7_read hx hb hown hK (C := RX6) (T := TX6) (N := 4) rfl hly_8_1 (hts (.fieldLink RX6 15 "ProofServer$Names" "primes" "[I") (by decide +kernel)) (hh_39.at 0 rfl) dX6_find_82 ?_
              refine lv_aload_n hx hb dX6_find_85 rfl (lv_at hl 2 rfl) ?_
              refine j7_read hx hb hown hK (C := RX6) (T := TX6) (N := 4) rfl hly_8_3 (hts (.fieldLink RX6 52 "ProofServer$Names" "count" "I") (by decide +kernel)) (hh_39.at 2 rfl) dX6_find_86 ?_
              refine lv_iload_n hx hb dX6_find_89 rfl (lv_at hl 4 rfl) ?_
              refine j7_iast hx hb hK hh_39 hB hB132 1 rfl (by decide) (by decide) rfl rfl rfl hg_primes_40 (rfl) (by omega) (by first | omega | (refine ⟨?_, ?_⟩ <;> (first | omega | rfl | assumption | decide | exact Or.inl rfl | exact Or.inr rfl | (simp only; omega)))) dX6_find_90 (fun H_41 locs_41 hh_41 => ?_)
              clear hh_39
              refine lv_aload_n hx hb dX6_find_91 rfl (lv_at hl 2 rfl) ?_
              refine lv_dup hx hb dX6_find_92 rfl ?_
              refine j7_read hx hb hown hK (C := RX6) (T := TX6) (N := 4) rfl hly_8_3 (hts (.fieldLink RX6 52 "ProofServer$Names" "count" "I") (by decide +kernel)) (hh_41.at 2 rfl) dX6_find_93 ?_
              refine lv_iconst (v := 1) hx hb dX6_find_96 (by decide) ?_
              refine lv_iadd hx hb dX6_find_97 ?_
              refine lv_topi (fun z_42 ez_42 => ?_)
              have hz_42 : z_42.toInt = count_32.toInt + 1 := by rw [ez_42]; exact jb_iadd2 (rfl) ((by decide)) (by omega)
              refine j7_put hx hb hown hK hh_41 hB hAp hB8 (C := RX6) (T := TX6) (N := 4) rfl (by decide) hg_r0 (i := 3) (by decide) hly_8_3 rfl (hts (.fieldLink RX6 52 "ProofServer$Names" "count" "I") (by decide +kernel)) rfl (ty := .int) (v := .int z_42) (by decide +kernel) rfl rfl (⟨_, rfl, by omega, by omega⟩) rfl (L1 := [(r0, 8, 1, .ref primes_40), (r0, 8, 0, .ref stems_36), (r0, 8, 2, .ref slots_12)]) [0, 1, 3] rfl rfl rfl dX6_find_98 (fun H_43 locs_43 hh_43 => ?_)
              clear hh_41
              refine lv_aload_n hx hb dX6_find_101 rfl (lv_at hl 2 rfl) ?_
              refine j7_read hx hb hown hK (C := RX6) (T := TX6) (N := 4) rfl hly_8_2 (hts (.fieldLink RX6 19 "ProofServer$Names" "slots" "[I") (by decide +kernel)) (hh_43.at 3 rfl) dX6_find_102 ?_
              refine lv_iload hx hb dX6_find_105 (lv_at hl 1 rfl) ?_
              refine lv_aload_n hx hb dX6_find_107 rfl (lv_at hl 2 rfl) ?_
              refine j7_read hx hb hown hK (C := RX6) (T := TX6) (N := 4) rfl hly_8_3 (hts (.fieldLink RX6 52 "ProofServer$Names" "count" "I") (by decide +kernel)) (hh_43.at 0 rfl) dX6_find_108 ?_
              refine j7_iast hx hb hK hh_43 hB hB133 1 rfl (by decide) (by decide) rfl rfl rfl hg_slots_12 (rfl) (by omega) (by first | omega | (refine ⟨?_, ?_⟩ <;> (first | omega | rfl | assumption | decide | exact Or.inl rfl | exact Or.inr rfl | (simp only; omega)))) dX6_find_111 (fun H_44 locs_44 hh_44 => ?_)
              clear hh_43
              refine lv_aload_n hx hb dX6_find_112 rfl (lv_at hl 2 rfl) ?_
              refine j7_read hx hb hown hK (C := RX6) (T := TX6) (N := 4) rfl hly_8_3 (hts (.fieldLink RX6 52 "ProofServer$Names" "count" "I") (by decide +kernel)) (hh_44.at 0 rfl) dX6_find_113 ?_
              refine lv_iconst (v := 1) hx hb dX6_find_116 (by decide) ?_
              refine lv_isub hx hb dX6_find_117 ?_
              refine lv_topi (fun z_45 ez_45 => ?_)
              have hz_45 : z_45.toInt = z_42.toInt - 1 := by rw [ez_45]; exact jb_isub2 (rfl) ((by decide)) (by omega)
              rw [hQ]
              exact W.iret (v := z_45) hx hb hr (fun t ht hW => ⟨⟨z_45, (), rfl, by first | omega | (refine ⟨?_, ?_⟩ <;> (first | omega | rfl | assumption | decide | exact Or.inl rfl | exact Or.inr rfl | (simp only; omega))), hh_44.rt (M1 := []) [] rfl ht⟩, by rw [ht]; try exact hh_44.1.1, fun q h9 hq => by rw [ht]; try exact hh_44.1.2.1 q h9 hq⟩) hh_44.1.2.2 dX6_find_118
            · skip
              have c_33' : count_32.toInt ≥ 8192 := jb_lt_n (rfl) ((by decide)) c_33
              refine lv_iconst (v := (-1)) hx hb dX6_find_69 (by decide) ?_
              rw [hQ]
              exact W.iret (v := (-1)) hx hb hr (fun t ht hW => ⟨⟨(-1), (), rfl, by first | omega | (refine ⟨?_, ?_⟩ <;> (first | omega | rfl | assumption | decide | exact Or.inl rfl | exact Or.inr rfl | (simp only; omega))), hh_31.rt (M1 := []) [] rfl ht⟩, by rw [ht]; try exact hh_31.1.1, fun q h9 hq => by rw [ht]; try exact hh_31.1.2.1 q h9 hq⟩) hh_31.1.2.2 dX6_find_70
  exact L19 (16384 - (0 : Int32).toInt : Int).toNat.succ 0 _ _ hh (by first | omega | (refine ⟨?_, ?_⟩ <;> (first | omega | rfl | assumption | decide | exact Or.inl rfl | exact Or.inr rfl | (simp only; omega)))) (by omega) _ (lv_sub hl [2, 3, 4, 5, 1, 0] rfl)
set_option maxHeartbeats 4000000 in
set_option maxRecDepth 20000 in
theorem uX6_numberOf (l : Launch) (dC : Nat → ClassId) (dI : Nat → Nat → Nat) (ca : Nat → ClassId) (base : Nat) (B : jF) (hB : jBok B) (hAp : jAp (dC, dI)) (hB8 : ∀ n G a H, B 8 n G a H ↔ jOb (dC, dI) 8 4 (F8 n G) a H) (hB101 : ∀ n G a H, B 101 n G a H ↔ jAr (dC, dI) (ca 1) (fun j z => True) n a H) (hB102 : ∀ n G a H, B 102 n G a H ↔ jAl (dC, dI) (ca 2) n a H) (hB132 : ∀ n G a H, B 132 n G a H ↔ jAr (dC, dI) (ca 1) (fun j z => 0 ≤ z.toInt ∧ z.toInt ≤ 10) n a H) (hB133 : ∀ n G a H, B 133 n G a H ↔ jAr (dC, dI) (ca 1) (fun j z => 0 ≤ z.toInt ∧ z.toInt ≤ 8192) n a H) (G0 : jT) (H0 : Heap) (r0 : Nat) (r1 : Nat) (a2 : Int32) (a3 : Int32) (a4 : Int32) (n1 : Nat) : Met l yX6_numberOf wsX6_numberOf ({ frames := 1, cells := 0, slots := 0, locals := 28 }) (va_Pc [.ref r0, .ref r1, .int a2, .int a3, .int a4] (fun U => U.heap = H0 ∧ jX B base G0 [] H0 ∧ jG dC dI ca base U ∧ G0 r1 = some (101, n1) ∧ G0 r0 = some (8, 0) ∧ jP (dC, dI) G0 H0 [] ∧ n1 < 2147483648)) (va_Qi (S := Unit) (fun r u => (-1 ≤ r.toInt ∧ r.toInt ≤ 8191)) (fun u t => jRt (dC, dI) B base G0 EX6_numberOf H0 [] t.heap) (jA base)) 0 0 (jA base) := by
  refine Met.ofW (cc := cX6_numberOf) (maxL := 10) (ret := (some .int)) (by decide) rfl ?_
  intro p e s m args below meth c s₁ Bd hml hv
  obtain ⟨rfl, hH0, hX, hG, hg_r1, hg_r0, hP0, hp0⟩ := hv
  have hK := hG.1
  have hx := Bd.exec
  have hb := Bd.bytes
  have hr := Bd.returns
  have hts := atoms_spec (ws := wsX6_numberOf) Bd.pre
  have hown : s.vm.findClass RX6 = some m.cls := findClass_of_methodNamed Bd.named
  have hlocks := Bd.notSynchronized
  obtain ⟨Q, hQ⟩ : ∃ Q, Q = MQ below (va_Qi (S := Unit) (fun r u => (-1 ≤ r.toInt ∧ r.toInt ≤ 8191)) (fun u t => jRt (dC, dI) B base G0 EX6_numberOf H0 [] t.heap) (jA base)) ([.ref r0, .ref r1, .int a2, .int a3, .int a4] : List Value).toArray s 0 0 (jA base) := ⟨_, rfl⟩
  rw [← hQ]
  have hl := lv_entry ([.ref r0, .ref r1, .int a2, .int a3, .int a4]) (n := 10) (Nat.le_of_ble_eq_true rfl)
  rw [lg_entry_eq]
  generalize (lg_sl ([.ref r0, .ref r1, .int a2, .int a3, .int a4]) ++ List.replicate (10 - (lg_sl ([.ref r0, .ref r1, .int a2, .int a3, .int a4])).length) Slot.unset).toArray = ls at hl ⊢
  have hl : lv_has ls 10 [(0, .ref r0), (1, .ref r1), (2, .int a2), (3, .int a3), (4, .int a4)] := hl
  generalize hR : (headSpec wsX6_numberOf ({ frames := 1, cells := 0, slots := 0, locals := 28 })).room = R
  subst hH0
  have hh : jSt (dC, dI) B base G0 G0 EX6_numberOf s.heap 0 0 [] [] [] s.heap [] := jSt.start hX hP0 jMc.nil jIs.nil
  clear hX hP0
  have hkm1 : ((-1) : Int32).toInt = (-1) := by decide
  have hk0 : (0 : Int32).toInt = 0 := by decide
  have hk1 : (1 : Int32).toInt = 1 := by decide
  have hk6 : (6 : Int32).toInt = 6 := by decide
  have hk10 : (10 : Int32).toInt = 10 := by decide
  have hk39 : (39 : Int32).toInt = 39 := by decide
  have hrg_a2 := jb_rng a2
  have hrg_a3 := jb_rng a3
  have hrg_a4 := jb_rng a4
  refine lv_iload_n hx hb dX6_numberOf_0 rfl (lv_at hl 2 rfl) ?_
  refine lv_if_lt (tgt := 32) hx hb dX6_numberOf_1 (by decide) (fun c_1 => ?_) (fun c_1 => ?_)
  · skip
    have c_1' : a2.toInt < 0 := jb_lt (rfl) ((by decide)) c_1
    refine lv_iconst (v := (-1)) hx hb dX6_numberOf_32 (by decide) ?_
    rw [hQ]
    exact W.iret (v := (-1)) hx hb hr (fun t ht hW => ⟨⟨(-1), (), rfl, by first | omega | (refine ⟨?_, ?_⟩ <;> (first | omega | rfl | assumption | decide | exact Or.inl rfl | exact Or.inr rfl | (simp only; omega))), hh.rt (M1 := []) [] rfl ht⟩, by rw [ht]; try exact hh.1.1, fun q h9 hq => by rw [ht]; try exact hh.1.2.1 q h9 hq⟩) hh.1.2.2 dX6_numberOf_33
  · skip
    have c_1' : a2.toInt ≥ 0 := jb_lt_n (rfl) ((by decide)) c_1
    refine lv_iload_n hx hb dX6_numberOf_4 rfl (lv_at hl 3 rfl) ?_
    refine lv_aload_n hx hb dX6_numberOf_5 rfl (lv_at hl 1 rfl) ?_
    refine j7_len hx hb hK hh hB101 1 rfl (by decide) hg_r1 (by omega) dX6_numberOf_6 (fun z_2 hz_2 => ?_)
    refine lv_icmp_gt (tgt := 32) hx hb dX6_numberOf_7 (by decide) (fun c_3 => ?_) (fun c_3 => ?_)
    · skip
      have c_3' : a3.toInt > z_2.toInt := jb_gt (rfl) (rfl) c_3
      refine lv_iconst (v := (-1)) hx hb dX6_numberOf_32 (by decide) ?_
      rw [hQ]
      exact W.iret (v := (-1)) hx hb hr (fun t ht hW => ⟨⟨(-1), (), rfl, by first | omega | (refine ⟨?_, ?_⟩ <;> (first | omega | rfl | assumption | decide | exact Or.inl rfl | exact Or.inr rfl | (simp only; omega))), hh.rt (M1 := []) [] rfl ht⟩, by rw [ht]; try exact hh.1.1, fun q h9 hq => by rw [ht]; try exact hh.1.2.1 q h9 hq⟩) hh.1.2.2 dX6_numberOf_33
    · skip
      have c_3' : a3.toInt ≤ z_2.toInt := jb_gt_n (rfl) (rfl) c_3
      refine lv_iload_n hx hb dX6_numberOf_10 rfl (lv_at hl 2 rfl) ?_
      refine lv_iload_n hx hb dX6_numberOf_11 rfl (lv_at hl 3 rfl) ?_
      refine lv_icmp_ge (tgt := 32) hx hb dX6_numberOf_12 (by decide) (fun c_4 => ?_) (fun c_4 => ?_)
      · skip
        have c_4' : a2.toInt ≥ a3.toInt := jb_ge (rfl) (rfl) c_4
        refine lv_iconst (v := (-1)) hx hb dX6_numberOf_32 (by decide) ?_
        rw [hQ]
        exact W.iret (v := (-1)) hx hb hr (fun t ht hW => ⟨⟨(-1), (), rfl, by first | omega | (refine ⟨?_, ?_⟩ <;> (first | omega | rfl | assumption | decide | exact Or.inl rfl | exact Or.inr rfl | (simp only; omega))), hh.rt (M1 := []) [] rfl ht⟩, by rw [ht]; try exact hh.1.1, fun q h9 hq => by rw [ht]; try exact hh.1.2.1 q h9 hq⟩) hh.1.2.2 dX6_numberOf_33
      · skip
        have c_4' : a2.toInt < a3.toInt := jb_ge_n (rfl) (rfl) c_4
        refine lv_iload_n hx hb dX6_numberOf_15 rfl (lv_at hl 3 rfl) ?_
        refine lv_iload_n hx hb dX6_numberOf_16 rfl (lv_at hl 2 rfl) ?_
        refine lv_isub hx hb dX6_numberOf_17 ?_
        refine lv_topi (fun z_5 ez_5 => ?_)
        have hz_5 : z_5.toInt = a3.toInt - a2.toInt := by rw [ez_5]; exact jb_isub2 (rfl) (rfl) (by omega)
        refine lv_bipush (v := 10) hx hb dX6_numberOf_18 (by decide) ?_
        refine lv_icmp_gt (tgt := 32) hx hb dX6_numberOf_20 (by decide) (fun c_6 => ?_) (fun c_6 => ?_)
        · skip
          have c_6' : z_5.toInt > 10 := jb_gt (rfl) ((by decide)) c_6
          refine lv_iconst (v := (-1)) hx hb dX6_numberOf_32 (by decide) ?_
          rw [hQ]
          exact W.iret (v := (-1)) hx hb hr (fun t ht hW => ⟨⟨(-1), (), rfl, by first | omega | (refine ⟨?_, ?_⟩ <;> (first | omega | rfl | assumption | decide | exact Or.inl rfl | exact Or.inr rfl | (simp only; omega))), hh.rt (M1 := []) [] rfl ht⟩, by rw [ht]; try exact hh.1.1, fun q h9 hq => by rw [ht]; try exact hh.1.2.1 q h9 hq⟩) hh.1.2.2 dX6_numberOf_33
        · skip
          have c_6' : z_5.toInt ≤ 10 := jb_gt_n (rfl) ((by decide)) c_6
          refine lv_aload_n hx hb dX6_numberOf_23 rfl (lv_at hl 1 rfl) ?_
          refine lv_iload_n hx hb dX6_numberOf_24 rfl (lv_at hl 2 rfl) ?_
          refine j7_iald hx hb hK hh hB101 1 rfl (by decide) hg_r1 (rfl) (by omega) dX6_numberOf_25 (fun z_7 (hz_7 : True) => ?_)
          refine vp_callSi (va_Run.run (va_runSN (As := [.int z_7]) (rest := []) ⟨hx, hb, hml, hown, hts⟩ (kX11_isLetter l dC dI ca base s.heap z_7) ⟨va_cnB 1 hts gX6_numberOf_X11_isLetter_n38 rfl rfl rfl (hG.2.2.1 RX6 38 yX11_isLetter "ProofServer" (List.mem_of_getElem? (i := 217) (by decide +kernel))) (hts (.initialized RX11) (by decide +kernel)) (by decide +kernel) ⟨by rw [← hR]; exact Nat.le_of_ble_eq_true rfl, by rw [← hR]; exact Nat.le_of_ble_eq_true rfl⟩, hts (.static yX11_isLetter) (by decide +kernel), trivial⟩ ⟨fun a U g mk q => by obtain ⟨q0, q1, qK, q9⟩ := q; exact ⟨q0, q1, jG.calling g mk a qK, q9⟩, fun U hU hW => ⟨rfl, hU, hG.step hW hU hh.1, by first | trivial | omega | (constructor <;> omega)⟩⟩ rfl rfl hl.1 rfl (lv_room (Nat.le_of_ble_eq_true rfl)) dX6_numberOf_26 ⟨Nat.zero_le _, Nat.zero_le _⟩)) (fun r_8 hr_8 => ?_)
          have hr_8' : r_8.toInt = 0 ∨ r_8.toInt = 1 := jb_01 hr_8
          refine lv_if_ne (tgt := 34) hx hb dX6_numberOf_29 (by decide) (fun c_9 => ?_) (fun c_9 => ?_)
          · skip
            have c_9' : r_8.toInt ≠ 0 := jb_ne (rfl) ((by decide)) c_9
            refine lv_iload_n hx hb dX6_numberOf_34 rfl (lv_at hl 3 rfl) ?_
            refine lv_istore (lv' := [(5, .int a3), (0, .ref r0), (1, .ref r1), (2, .int a2), (3, .int a3), (4, .int a4)]) hx hb dX6_numberOf_35 hl (by decide) rfl (fun ls hl => ?_)
            have L37 : ∀ (N : Nat) (v5_10 : Int32) (H_10 : Heap) (locs_10 : List Loc), jSt (dC, dI) B base G0 G0 EX6_numberOf s.heap 0 0 [] [] [] H_10 locs_10 → (a2.toInt ≤ v5_10.toInt ∧ v5_10.toInt ≤ a3.toInt) → (v5_10.toInt - a2.toInt : Int) < N → ∀ ls : Array Slot, lv_has ls 10 [(0, .ref r0), (1, .ref r1), (2, .int a2), (3, .int a3), (4, .int a4), (5, .int v5_10)] → W p l e R s m ([.ref r0, .ref r1, .int a2, .int a3, .int a4] : List Value).toArray below meth c H_10 locs_10 0 0 Q (F0 m 37 ls []) := by
              intro N
              induction N with
              | zero => intro v5_10 H_10 locs_10 hh_10  hi_10 hm; exact absurd hm (by omega)
              | succ N L37 =>
                intro v5_10 H_10 locs_10 hh_10  hi_10 hm_10 ls hl
                obtain ⟨hi_10_0, hi_10_1⟩ := hi_10
                refine lv_iload hx hb dX6_numberOf_37 (lv_at hl 5 rfl) ?_
                refine lv_iload_n hx hb dX6_numberOf_39 rfl (lv_at hl 2 rfl) ?_
                refine lv_icmp_le (tgt := 60) hx hb dX6_numberOf_40 (by decide) (fun c_11 => ?_) (fun c_11 => ?_)
                · skip
                  have c_11' : v5_10.toInt ≤ a2.toInt := jb_le (rfl) (rfl) c_11
                  refine lv_lconst (v := 1) hx hb dX6_numberOf_60 (by decide) ?_
                  refine lv_lstore (lv' := [(6, .long 1), (0, .ref r0), (1, .ref r1), (2, .int a2), (3, .int a3), (4, .int a4), (5, .int v5_10)]) hx hb dX6_numberOf_61 hl (by decide) rfl (fun ls hl => ?_)
                  refine lv_iload hx hb dX6_numberOf_63 (lv_at hl 6 rfl) ?_
                  refine lv_iconst (v := 1) hx hb dX6_numberOf_65 (by decide) ?_
                  refine lv_isub hx hb dX6_numberOf_66 ?_
                  refine lv_topi (fun z_12 ez_12 => ?_)
                  have hz_12 : z_12.toInt = v5_10.toInt - 1 := by rw [ez_12]; exact jb_isub2 (rfl) ((by decide)) (by omega)
                  refine lv_istore (lv' := [(8, .int z_12), (6, .long 1), (0, .ref r0), (1, .ref r1), (2, .int a2), (3, .int a3), (4, .int a4), (5, .int v5_10)]) hx hb dX6_numberOf_67 hl (by decide) rfl (fun ls hl => ?_)
                  have L69 : ∀ (N : Nat) (v6_13 : Int64) (v8_13 : Int32) (H_13 : Heap) (locs_13 : List Loc), jSt (dC, dI) B base G0 G0 EX6_numberOf s.heap 0 0 [] [] [] H_13 locs_13 → (a2.toInt - 1 ≤ v8_13.toInt ∧ v8_13.toInt < a3.toInt) → (v8_13.toInt + 1 - a2.toInt : Int) < N → ∀ ls : Array Slot, lv_has ls 10 [(0, .ref r0), (1, .ref r1), (2, .int a2), (3, .int a3), (4, .int a4), (5, .int v5_10), (6, .long v6_13), (8, .int v8_13)] → W p l e R s m ([.ref r0, .ref r1, .int a2, .int a3, .int a4] : List Value).toArray below meth c H_13 locs_13 0 0 Q (F0 m 69 ls []) := by
                    intro N
                    induction N with
                    | zero => intro v6_13 v8_13 H_13 locs_13 hh_13  hi_13 hm; exact absurd hm (by omega)
                    | succ N L69 =>
                      intro v6_13 v8_13 H_13 locs_13 hh_13  hi_13 hm_13 ls hl
                      obtain ⟨hi_13_0, hi_13_1⟩ := hi_13
                      refine lv_iload hx hb dX6_numberOf_69 (lv_at hl 7 rfl) ?_
                      refine lv_iload_n hx hb dX6_numberOf_71 rfl (lv_at hl 2 rfl) ?_
                      refine lv_icmp_lt (tgt := 108) hx hb dX6_numberOf_72 (by decide) (fun c_14 => ?_) (fun c_14 => ?_)
                      · skip
                        have c_14' : v8_13.toInt < a2.toInt := jb_lt (rfl) (rfl) c_14
                        refine lv_aload_n hx hb dX6_numberOf_108 rfl (lv_at hl 0 rfl) ?_
                        refine lv_lload hx hb dX6_numberOf_109 (lv_at hl 6 rfl) ?_
                        refine lv_iload_n hx hb dX6_numberOf_111 rfl (lv_at hl 3 rfl) ?_
                        refine lv_iload hx hb dX6_numberOf_112 (lv_at hl 5 rfl) ?_
                        refine lv_isub hx hb dX6_numberOf_114 ?_
                        refine lv_topi (fun z_15 ez_15 => ?_)
                        have hz_15 : z_15.toInt = a3.toInt - v5_10.toInt := by rw [ez_15]; exact jb_isub2 (rfl) (rfl) (by omega)
                        refine lv_iload hx hb dX6_numberOf_115 (lv_at hl 4 rfl) ?_
                        refine va_calli (A0 := jA base) (H0 := s.heap) (va_runV (As := [.long v6_13, .int z_15, .int a4]) (rest := []) ⟨hx, hb, hml, hown, hts⟩ (uX6_find l dC dI ca base B hB hAp hB8 hB102 hB132 hB133 G0 H_13 r0 v6_13 z_15 a4) (cwV 3 hts gX6_numberOf_X6_find rfl rfl rfl (by decide +kernel) ⟨by rw [← hR]; exact Nat.le_of_ble_eq_true rfl, by rw [← hR]; exact Nat.le_of_ble_eq_true rfl⟩) ⟨fun a U g mk q => by obtain ⟨q0, q1, q2, qK, q10, q11, q12⟩ := q; exact ⟨q0, q1, q2, jG.calling g mk a qK, q10, q11, q12⟩, hh_13.recv (C := RX6) (T := TX6) (N := 4) hB8 rfl (by decide) hg_r0 hK, fun U hU hW => ⟨rfl, hU, hh_13.2.1, hG.step hW hU hh_13.1, hg_r0, jP.nil, by first | omega | (refine ⟨?_, ?_⟩ <;> (first | omega | rfl | assumption | decide | exact Or.inl rfl | exact Or.inr rfl | (simp only; omega)))⟩⟩ rfl rfl hl.1 rfl (lv_room (Nat.le_of_ble_eq_true rfl)) dX6_numberOf_117 ⟨Nat.zero_le _, Nat.zero_le _⟩) hh_13.1 (fun q _ h => h) (fun q h => h) (fun r_17 u_16 t_16 H_16 locs_16 ht_16 hvm_16 hr_17 hb_16 hz_16 hk_16 hS_16 => ?_)
                        rw [ht_16] at hb_16
                        obtain ⟨hb_161, hb_162, hb_163, hb_164, hb_165⟩ := hb_16
                        have hh_16 : jSt (dC, dI) B base G0 G0 EX6_numberOf s.heap 0 0 [] [] [] H_16 locs_16 := (hh_13.call hb_161 hb_162 hb_163 hb_164 hS_16 rfl (L1 := []) [] rfl rfl (M1 := []) [] rfl rfl (I1 := []) [] rfl rfl).more hb_165
                        clear hh_13 ht_16 hvm_16 hz_16 hk_16 hS_16 hb_161 hb_162 hb_163 hb_164 hb_165
                        obtain ⟨hr_17_0, hr_17_1⟩ := hr_17
                        rw [hQ]
                        exact W.iret (v := r_17) hx hb hr (fun t ht hW => ⟨⟨r_17, (), rfl, by first | omega | (refine ⟨?_, ?_⟩ <;> (first | omega | rfl | assumption | decide | exact Or.inl rfl | exact Or.inr rfl | (simp only; omega))), hh_16.rt (M1 := []) [] rfl ht⟩, by rw [ht]; try exact hh_16.1.1, fun q h9 hq => by rw [ht]; try exact hh_16.1.2.1 q h9 hq⟩) hh_16.1.2.2 dX6_numberOf_120
                      · skip
                        have c_14' : v8_13.toInt ≥ a2.toInt := jb_lt_n (rfl) (rfl) c_14
                        refine lv_aload_n hx hb dX6_numberOf_75 rfl (lv_at hl 1 rfl) ?_
                        refine lv_iload hx hb dX6_numberOf_76 (lv_at hl 7 rfl) ?_
                        refine j7_iald hx hb hK hh_13 hB101 1 rfl (by decide) hg_r1 (rfl) (by omega) dX6_numberOf_78 (fun z_18 (hz_18 : True) => ?_)
                        refine vp_callSi (W.runS (As := [.int z_18]) (rest := []) ⟨hx, hb, hml, hown, hts⟩ (kX6_signOf l dC dI ca base H_13 z_18) (va_cwS 1 hts gX6_numberOf_X6_signOf rfl rfl rfl (by decide +kernel) ⟨by rw [← hR]; exact Nat.le_of_ble_eq_true rfl, by rw [← hR]; exact Nat.le_of_ble_eq_true rfl⟩) ⟨fun a U g mk q => by obtain ⟨q0, q1, qK, q9⟩ := q; exact ⟨q0, q1, jG.calling g mk a qK, q9⟩, fun U hU hW => ⟨rfl, hU, hG.step hW hU hh_13.1, by first | trivial | omega | (constructor <;> omega)⟩⟩ rfl rfl hl.1 rfl (lv_room (Nat.le_of_ble_eq_true rfl)) dX6_numberOf_79 ⟨Nat.zero_le _, Nat.zero_le _⟩) (fun r_19 hr_19 => ?_)
                        refine lv_istore (lv' := [(9, .int r_19), (0, .ref r0), (1, .ref r1), (2, .int a2), (3, .int a3), (4, .int a4), (5, .int v5_10), (6, .long v6_13), (8, .int v8_13)]) hx hb dX6_numberOf_82 hl (by decide) rfl (fun ls hl => ?_)
                        refine lv_iload hx hb dX6_numberOf_84 (lv_at hl 0 rfl) ?_
                        refine lv_if_ge (tgt := 91) hx hb dX6_numberOf_86 (by decide) (fun c_20 => ?_) (fun c_20 => ?_)
                        · skip
                          have c_20' : r_19.toInt ≥ 0 := jb_ge (rfl) ((by decide)) c_20
                          refine lv_lload hx hb dX6_numberOf_91 (lv_at hl 7 rfl) ?_
                          refine lv_bipush (v := 6) hx hb dX6_numberOf_93 (by decide) ?_
                          refine lv_lshl hx hb dX6_numberOf_95 rfl ?_
                          refine lv_topl (fun z_21 ez_21 => ?_)
                          refine lv_iload hx hb dX6_numberOf_96 (lv_at hl 0 rfl) ?_
                          refine lv_i2l hx hb dX6_numberOf_98 rfl ?_
                          refine lv_topl (fun z_22 ez_22 => ?_)
                          refine lv_lor hx hb dX6_numberOf_99 ?_
                          refine lv_topl (fun z_23 ez_23 => ?_)
                          refine lv_lstore (lv' := [(6, .long z_23), (9, .int r_19), (0, .ref r0), (1, .ref r1), (2, .int a2), (3, .int a3), (4, .int a4), (5, .int v5_10), (8, .int v8_13)]) hx hb dX6_numberOf_100 hl (by decide) rfl (fun ls hl => ?_)
                          obtain ⟨z_24, ez_24⟩ : ∃ y : Int32, y = v8_13 + (-1) := ⟨_, rfl⟩
                          refine lv_iinc (v := z_24) (lv' := [(8, .int z_24), (6, .long z_23), (9, .int r_19), (0, .ref r0), (1, .ref r1), (2, .int a2), (3, .int a3), (4, .int a4), (5, .int v5_10)]) hx hb dX6_numberOf_102 hl (k := 8) rfl (by rw [ez_24]; rfl) (by decide) rfl (fun ls hl => ?_)
                          have hz_24 : z_24.toInt = v8_13.toInt + (-1) := by rw [ez_24]; exact jb_iadd2 (rfl) (by decide) (by omega)
                          refine lv_goto (tgt := 69) hx hb dX6_numberOf_105 (by decide) ?_
                          exact L69 z_23 z_24 _ _ hh_13 (by first | omega | (refine ⟨?_, ?_⟩ <;> (first | omega | rfl | assumption | decide | exact Or.inl rfl | exact Or.inr rfl | (simp only; omega)))) (by omega) _ (lv_sub hl [3, 4, 5, 6, 7, 8, 1, 0] rfl)
                        · skip
                          have c_20' : r_19.toInt < 0 := jb_ge_n (rfl) ((by decide)) c_20
                          refine lv_iconst (v := (-1)) hx hb dX6_numberOf_89 (by decide) ?_
                          rw [hQ]
                          exact W.iret (v := (-1)) hx hb hr (fun t ht hW => ⟨⟨(-1), (), rfl, by first | omega | (refine ⟨?_, ?_⟩ <;> (first | omega | rfl | assumption | decide | exact Or.inl rfl | exact Or.inr rfl | (simp only; omega))), hh_13.rt (M1 := []) [] rfl ht⟩, by rw [ht]; try exact hh_13.1.1, fun q h9 hq => by rw [ht]; try exact hh_13.1.2.1 q h9 hq⟩) hh_13.1.2.2 dX6_numberOf_90
                  exact L69 ((z_12 : Int32).toInt + 1 - a2.toInt : Int).toNat.succ 1 z_12 _ _ hh_10 (by first | omega | (refine ⟨?_, ?_⟩ <;> (first | omega | rfl | assumption | decide | exact Or.inl rfl | exact Or.inr rfl | (simp only; omega)))) (by omega) _ (lv_sub hl [2, 3, 4, 5, 6, 7, 1, 0] rfl)
                · skip
                  have c_11' : v5_10.toInt > a2.toInt := jb_le_n (rfl) (rfl) c_11
                  refine lv_aload_n hx hb dX6_numberOf_43 rfl (lv_at hl 1 rfl) ?_
                  refine lv_iload hx hb dX6_numberOf_44 (lv_at hl 5 rfl) ?_
                  refine lv_iconst (v := 1) hx hb dX6_numberOf_46 (by decide) ?_
                  refine lv_isub hx hb dX6_numberOf_47 ?_
                  refine lv_topi (fun z_25 ez_25 => ?_)
                  have hz_25 : z_25.toInt = v5_10.toInt - 1 := by rw [ez_25]; exact jb_isub2 (rfl) ((by decide)) (by omega)
                  refine j7_iald hx hb hK hh_10 hB101 1 rfl (by decide) hg_r1 (rfl) (by omega) dX6_numberOf_48 (fun z_26 (hz_26 : True) => ?_)
                  refine lv_bipush (v := 39) hx hb dX6_numberOf_49 (by decide) ?_
                  refine lv_icmp_ne (tgt := 60) hx hb dX6_numberOf_51 (by decide) (fun c_27 => ?_) (fun c_27 => ?_)
                  · skip
                    have c_27' : z_26.toInt ≠ 39 := jb_ne (rfl) ((by decide)) c_27
                    refine lv_lconst (v := 1) hx hb dX6_numberOf_60 (by decide) ?_
                    refine lv_lstore (lv' := [(6, .long 1), (0, .ref r0), (1, .ref r1), (2, .int a2), (3, .int a3), (4, .int a4), (5, .int v5_10)]) hx hb dX6_numberOf_61 hl (by decide) rfl (fun ls hl => ?_)
                    refine lv_iload hx hb dX6_numberOf_63 (lv_at hl 6 rfl) ?_
                    refine lv_iconst (v := 1) hx hb dX6_numberOf_65 (by decide) ?_
                    refine lv_isub hx hb dX6_numberOf_66 ?_
                    refine lv_topi (fun z_28 ez_28 => ?_)
                    have hz_28 : z_28.toInt = v5_10.toInt - 1 := by rw [ez_28]; exact jb_isub2 (rfl) ((by decide)) (by omega)
                    refine lv_istore (lv' := [(8, .int z_28), (6, .long 1), (0, .ref r0), (1, .ref r1), (2, .int a2), (3, .int a3), (4, .int a4), (5, .int v5_10)]) hx hb dX6_numberOf_67 hl (by decide) rfl (fun ls hl => ?_)
                    have L69 : ∀ (N : Nat) (v6_29 : Int64) (v8_29 : Int32) (H_29 : Heap) (locs_29 : List Loc), jSt (dC, dI) B base G0 G0 EX6_numberOf s.heap 0 0 [] [] [] H_29 locs_29 → (a2.toInt - 1 ≤ v8_29.toInt ∧ v8_29.toInt < a3.toInt) → (v8_29.toInt + 1 - a2.toInt : Int) < N → ∀ ls : Array Slot, lv_has ls 10 [(0, .ref r0), (1, .ref r1), (2, .int a2), (3, .int a3), (4, .int a4), (5, .int v5_10), (6, .long v6_29), (8, .int v8_29)] → W p l e R s m ([.ref r0, .ref r1, .int a2, .int a3, .int a4] : List Value).toArray below meth c H_29 locs_29 0 0 Q (F0 m 69 ls []) := by
                      intro N
                      induction N with
                      | zero => intro v6_29 v8_29 H_29 locs_29 hh_29  hi_29 hm; exact absurd hm (by omega)
                      | succ N L69 =>
                        intro v6_29 v8_29 H_29 locs_29 hh_29  hi_29 hm_29 ls hl
                        obtain ⟨hi_29_0, hi_29_1⟩ := hi_29
                        refine lv_iload hx hb dX6_numberOf_69 (lv_at hl 7 rfl) ?_
                        refine lv_iload_n hx hb dX6_numberOf_71 rfl (lv_at hl 2 rfl) ?_
                        refine lv_icmp_lt (tgt := 108) hx hb dX6_numberOf_72 (by decide) (fun c_30 => ?_) (fun c_30 => ?_)
                        · skip
                          have c_30' : v8_29.toInt < a2.toInt := jb_lt (rfl) (rfl) c_30
                          refine lv_aload_n hx hb dX6_numberOf_108 rfl (lv_at hl 0 rfl) ?_
                          refine lv_lload hx hb dX6_numberOf_109 (lv_at hl 6 rfl) ?_
                          refine lv_iload_n hx hb dX6_numberOf_111 rfl (lv_at hl 3 rfl) ?_
                          refine lv_iload hx hb dX6_numberOf_112 (lv_at hl 5 rfl) ?_
                          refine lv_isub hx hb dX6_numberOf_114 ?_
                          refine lv_topi (fun z_31 ez_31 => ?_)
                          have hz_31 : z_31.toInt = a3.toInt - v5_10.toInt := by rw [ez_31]; exact jb_isub2 (rfl) (rfl) (by omega)
                          refine lv_iload hx hb dX6_numberOf_115 (lv_at hl 4 rfl) ?_
                          refine va_calli (A0 := jA base) (H0 := s.heap) (va_runV (As := [.long v6_29, .int z_31, .int a4]) (rest := []) ⟨hx, hb, hml, hown, hts⟩ (uX6_find l dC dI ca base B hB hAp hB8 hB102 hB132 hB133 G0 H_29 r0 v6_29 z_31 a4) (cwV 3 hts gX6_numberOf_X6_find rfl rfl rfl (by decide +kernel) ⟨by rw [← hR]; exact Nat.le_of_ble_eq_true rfl, by rw [← hR]; exact Nat.le_of_ble_eq_true rfl⟩) ⟨fun a U g mk q => by obtain ⟨q0, q1, q2, qK, q10, q11, q12⟩ := q; exact ⟨q0, q1, q2, jG.calling g mk a qK, q10, q11, q12⟩, hh_29.recv (C := RX6) (T := TX6) (N := 4) hB8 rfl (by decide) hg_r0 hK, fun U hU hW => ⟨rfl, hU, hh_29.2.1, hG.step hW hU hh_29.1, hg_r0, jP.nil, by first | omega | (refine ⟨?_, ?_⟩ <;> (first | omega | rfl | assumption | decide | exact Or.inl rfl | exact Or.inr rfl | (simp only; omega)))⟩⟩ rfl rfl hl.1 rfl (lv_room (Nat.le_of_ble_eq_true rfl)) dX6_numberOf_117 ⟨Nat.zero_le _, Nat.zero_le _⟩) hh_29.1 (fun q _ h => h) (fun q h => h) (fun r_33 u_32 t_32 H_32 locs_32 ht_32 hvm_32 hr_33 hb_32 hz_32 hk_32 hS_32 => ?_)
                          rw [ht_32] at hb_32
                          obtain ⟨hb_321, hb_322, hb_323, hb_324, hb_325⟩ := hb_32
                          have hh_32 : jSt (dC, dI) B base G0 G0 EX6_numberOf s.heap 0 0 [] [] [] H_32 locs_32 := (hh_29.call hb_321 hb_322 hb_323 hb_324 hS_32 rfl (L1 := []) [] rfl rfl (M1 := []) [] rfl rfl (I1 := []) [] rfl rfl).more hb_325
                          clear hh_29 ht_32 hvm_32 hz_32 hk_32 hS_32 hb_321 hb_322 hb_323 hb_324 hb_325
                          obtain ⟨hr_33_0, hr_33_1⟩ := hr_33
                          rw [hQ]
                          exact W.iret (v := r_33) hx hb hr (fun t ht hW => ⟨⟨r_33, (), rfl, by first | omega | (refine ⟨?_, ?_⟩ <;> (first | omega | rfl | assumption | decide | exact Or.inl rfl | exact Or.inr rfl | (simp only; omega))), hh_32.rt (M1 := []) [] rfl ht⟩, by rw [ht]; try exact hh_32.1.1, fun q h9 hq => by rw [ht]; try exact hh_32.1.2.1 q h9 hq⟩) hh_32.1.2.2 dX6_numberOf_120
                        · skip
                          have c_30' : v8_29.toInt ≥ a2.toInt := jb_lt_n (rfl) (rfl) c_30
                          refine lv_aload_n hx hb dX6_numberOf_75 rfl (lv_at hl 1 rfl) ?_
                          refine lv_iload hx hb dX6_numberOf_76 (lv_at hl 7 rfl) ?_
                          refine j7_iald hx hb hK hh_29 hB101 1 rfl (by decide) hg_r1 (rfl) (by omega) dX6_numberOf_78 (fun z_34 (hz_34 : True) => ?_)
                          refine vp_callSi (W.runS (As := [.int z_34]) (rest := []) ⟨hx, hb, hml, hown, hts⟩ (kX6_signOf l dC dI ca base H_29 z_34) (va_cwS 1 hts gX6_numberOf_X6_signOf rfl rfl rfl (by decide +kernel) ⟨by rw [← hR]; exact Nat.le_of_ble_eq_true rfl, by rw [← hR]; exact Nat.le_of_ble_eq_true rfl⟩) ⟨fun a U g mk q => by obtain ⟨q0, q1, qK, q9⟩ := q; exact ⟨q0, q1, jG.calling g mk a qK, q9⟩, fun U hU hW => ⟨rfl, hU, hG.step hW hU hh_29.1, by first | trivial | omega | (constructor <;> omega)⟩⟩ rfl rfl hl.1 rfl (lv_room (Nat.le_of_ble_eq_true rfl)) dX6_numberOf_79 ⟨Nat.zero_le _, Nat.zero_le _⟩) (fun r_35 hr_35 => ?_)
                          refine lv_istore (lv' := [(9, .int r_35), (0, .ref r0), (1, .ref r1), (2, .int a2), (3, .int a3), (4, .int a4), (5, .int v5_10), (6, .long v6_29), (8, .int v8_29)]) hx hb dX6_numberOf_82 hl (by decide) rfl (fun ls hl => ?_)
                          refine lv_iload hx hb dX6_numberOf_84 (lv_at hl 0 rfl) ?_
                          refine lv_if_ge (tgt := 91) hx hb dX6_numberOf_86 (by decide) (fun c_36 => ?_) (fun c_36 => ?_)
                          · skip
                            have c_36' : r_35.toInt ≥ 0 := jb_ge (rfl) ((by decide)) c_36
                            refine lv_lload hx hb dX6_numberOf_91 (lv_at hl 7 rfl) ?_
                            refine lv_bipush (v := 6) hx hb dX6_numberOf_93 (by decide) ?_
                            refine lv_lshl hx hb dX6_numberOf_95 rfl ?_
                            refine lv_topl (fun z_37 ez_37 => ?_)
                            refine lv_iload hx hb dX6_numberOf_96 (lv_at hl 0 rfl) ?_
                            refine lv_i2l hx hb dX6_numberOf_98 rfl ?_
                            refine lv_topl (fun z_38 ez_38 => ?_)
                            refine lv_lor hx hb dX6_numberOf_99 ?_
                            refine lv_topl (fun z_39 ez_39 => ?_)
                            refine lv_lstore (lv' := [(6, .long z_39), (9, .int r_35), (0, .ref r0), (1, .ref r1), (2, .int a2), (3, .int a3), (4, .int a4), (5, .int v5_10), (8, .int v8_29)]) hx hb dX6_numberOf_100 hl (by decide) rfl (fun ls hl => ?_)
                            obtain ⟨z_40, ez_40⟩ : ∃ y : Int32, y = v8_29 + (-1) := ⟨_, rfl⟩
                            refine lv_iinc (v := z_40) (lv' := [(8, .int z_40), (6, .long z_39), (9, .int r_35), (0, .ref r0), (1, .ref r1), (2, .int a2), (3, .int a3), (4, .int a4), (5, .int v5_10)]) hx hb dX6_numberOf_102 hl (k := 8) rfl (by rw [ez_40]; rfl) (by decide) rfl (fun ls hl => ?_)
                            have hz_40 : z_40.toInt = v8_29.toInt + (-1) := by rw [ez_40]; exact jb_iadd2 (rfl) (by decide) (by omega)
                            refine lv_goto (tgt := 69) hx hb dX6_numberOf_105 (by decide) ?_
                            exact L69 z_39 z_40 _ _ hh_29 (by first | omega | (refine ⟨?_, ?_⟩ <;> (first | omega | rfl | assumption | decide | exact Or.inl rfl | exact Or.inr rfl | (simp only; omega)))) (by omega) _ (lv_sub hl [3, 4, 5, 6, 7, 8, 1, 0] rfl)
                          · skip
                            have c_36' : r_35.toInt < 0 := jb_ge_n (rfl) ((by decide)) c_36
                            refine lv_iconst (v := (-1)) hx hb dX6_numberOf_89 (by decide) ?_
                            rw [hQ]
                            exact W.iret (v := (-1)) hx hb hr (fun t ht hW => ⟨⟨(-1), (), rfl, by first | omega | (refine ⟨?_, ?_⟩ <;> (first | omega | rfl | assumption | decide | exact Or.inl rfl | exact Or.inr rfl | (simp only; omega))), hh_29.rt (M1 := []) [] rfl ht⟩, by rw [ht]; try exact hh_29.1.1, fun q h9 hq => by rw [ht]; try exact hh_29.1.2.1 q h9 hq⟩) hh_29.1.2.2 dX6_numberOf_90
                    exact L69 ((z_28 : Int32).toInt + 1 - a2.toInt : Int).toNat.succ 1 z_28 _ _ hh_10 (by first | omega | (refine ⟨?_, ?_⟩ <;> (first | omega | rfl | assumption | decide | exact Or.inl rfl | exact Or.inr rfl | (simp only; omega)))) (by omega) _ (lv_sub hl [2, 3, 4, 5, 6, 7, 1, 0] rfl)
                  · skip
                    have c_27' : z_26.toInt = 39 := jb_ne_n (rfl) ((by decide)) c_27
                    obtain ⟨z_41, ez_41⟩ : ∃ y : Int32, y = v5_10 + (-1) := ⟨_, rfl⟩
                    refine lv_iinc (v := z_41) (lv' := [(5, .int z_41), (0, .ref r0), (1, .ref r1), (2, .int a2), (3, .int a3), (4, .int a4)]) hx hb dX6_numberOf_54 hl (k := 5) rfl (by rw [ez_41]; rfl) (by decide) rfl (fun ls hl => ?_)
                    have hz_41 : z_41.toInt = v5_10.toInt + (-1) := by rw [ez_41]; exact jb_iadd2 (rfl) (by decide) (by omega)
                    refine lv_goto (tgt := 37) hx hb dX6_numberOf_57 (by decide) ?_
                    exact L37 z_41 _ _ hh_10 (by first | omega | (refine ⟨?_, ?_⟩ <;> (first | omega | rfl | assumption | decide | exact Or.inl rfl | exact Or.inr rfl | (simp only; omega)))) (by omega) _ (lv_sub hl [1, 2, 3, 4, 5, 0] rfl)
            exact L37 ((a3 : Int32).toInt - a2.toInt : Int).toNat.succ a3 _ _ hh (by first | omega | (refine ⟨?_, ?_⟩ <;> (first | omega | rfl | assumption | decide | exact Or.inl rfl | exact Or.inr rfl | (simp only; omega)))) (by omega) _ (lv_sub hl [1, 2, 3, 4, 5, 0] rfl)
          · skip
            have c_9' : r_8.toInt = 0 := jb_ne_n (rfl) ((by decide)) c_9
            refine lv_iconst (v := (-1)) hx hb dX6_numberOf_32 (by decide) ?_
            rw [hQ]
            exact W.iret (v := (-1)) hx hb hr (fun t ht hW => ⟨⟨(-1), (), rfl, by first | omega | (refine ⟨?_, ?_⟩ <;> (first | omega | rfl | assumption | decide | exact Or.inl rfl | exact Or.inr rfl | (simp only; omega))), hh.rt (M1 := []) [] rfl ht⟩, by rw [ht]; try exact hh.1.1, fun q h9 hq => by rw [ht]; try exact hh.1.2.1 q h9 hq⟩) hh.1.2.2 dX6_numberOf_33
set_option maxHeartbeats 4000000 in
set_option maxRecDepth 20000 in
theorem uX10_peek (l : Launch) (dC : Nat → ClassId) (dI : Nat → Nat → Nat) (ca : Nat → ClassId) (base : Nat) (B : jF) (hB : jBok B) (hAp : jAp (dC, dI)) (hB12 : ∀ n G a H, B 12 n G a H ↔ jOb (dC, dI) 12 11 (F12 n G) a H) (hB101 : ∀ n G a H, B 101 n G a H ↔ jAr (dC, dI) (ca 1) (fun j z => True) n a H) (G0 : jT) (H0 : Heap) (r0 : Nat) (tk : Int32) (pa : Int32) : Met l yX10_peek wsX10_peek ({ frames := 0, cells := 0, slots := 0, locals := 0 }) (va_Pc [.ref r0] (fun U => U.heap = H0 ∧ jX B base G0 [] H0 ∧ jG dC dI ca base U ∧ G0 r0 = some (12, 0) ∧ jP (dC, dI) G0 H0 [(r0, 12, 3, .int tk), (r0, 12, 4, .int pa)] ∧ 0 ≤ tk.toInt ∧ tk.toInt ≤ 1500 ∧ 0 ≤ pa.toInt ∧ pa.toInt ≤ 1503)) (va_Qi (S := Unit) (fun r u => (r.toInt = 0 ∨ pa.toInt < tk.toInt)) (fun u t => jRt (dC, dI) B base G0 EX10_peek H0 [] t.heap) (jA base)) 0 0 (jA base) := by
  refine Met.ofW (cc := cX10_peek) (maxL := 1) (ret := (some .int)) (by decide) rfl ?_
  intro p e s m args below meth c s₁ Bd hml hv
  obtain ⟨rfl, hH0, hX, hG, hg_r0, hP0, hp0, hp1, hp2, hp3⟩ := hv
  have hK := hG.1
  have hx := Bd.exec
  have hb := Bd.bytes
  have hr := Bd.returns
  have hts := atoms_spec (ws := wsX10_peek) Bd.pre
  have hown : s.vm.findClass RX10 = some m.cls := findClass_of_methodNamed Bd.named
  have hlocks := Bd.notSynchronized
  obtain ⟨Q, hQ⟩ : ∃ Q, Q = MQ below (va_Qi (S := Unit) (fun r u => (r.toInt = 0 ∨ pa.toInt < tk.toInt)) (fun u t => jRt (dC, dI) B base G0 EX10_peek H0 [] t.heap) (jA base)) ([.ref r0] : List Value).toArray s 0 0 (jA base) := ⟨_, rfl⟩
  rw [← hQ]
  have hl := lv_entry ([.ref r0]) (n := 1) (Nat.le_of_ble_eq_true rfl)
  rw [lg_entry_eq]
  generalize (lg_sl ([.ref r0]) ++ List.replicate (1 - (lg_sl ([.ref r0])).length) Slot.unset).toArray = ls at hl ⊢
  have hl : lv_has ls 1 [(0, .ref r0)] := hl
  generalize hR : (headSpec wsX10_peek ({ frames := 0, cells := 0, slots := 0, locals := 0 })).room = R
  subst hH0
  have hh : jSt (dC, dI) B base G0 G0 EX10_peek s.heap 0 0 [(r0, 12, 3, .int tk), (r0, 12, 4, .int pa)] [] [] s.heap [] := jSt.start hX hP0 jMc.nil jIs.nil
  clear hX hP0
  have hk0 : (0 : Int32).toInt = 0 := by decide
  have hk1 : (1 : Int32).toInt = 1 := by decide
  have hk1500 : (1500 : Int32).toInt = 1500 := by decide
  have hly_12_1 := hts (u_lay RX10 TX10 1) (by decide +kernel)
  have hly_12_3 := hts (u_lay RX10 TX10 3) (by decide +kernel)
  have hly_12_4 := hts (u_lay RX10 TX10 4) (by decide +kernel)
  refine lv_aload_n hx hb dX10_peek_0 rfl (lv_at hl 0 rfl) ?_
  refine j7_read hx hb hown hK (C := RX10) (T := TX10) (N := 11) rfl hly_12_4 (hts (.fieldLink RX10 83 "ProofServer$Syntax" "at" "I") (by decide +kernel)) (hh.at 1 rfl) dX10_peek_1 ?_
  refine lv_aload_n hx hb dX10_peek_4 rfl (lv_at hl 0 rfl) ?_
  refine j7_read hx hb hown hK (C := RX10) (T := TX10) (N := 11) rfl hly_12_3 (hts (.fieldLink RX10 28 "ProofServer$Syntax" "tokens" "I") (by decide +kernel)) (hh.at 0 rfl) dX10_peek_5 ?_
  refine lv_icmp_ge (tgt := 33) hx hb dX10_peek_8 (by decide) (fun c_1 => ?_) (fun c_1 => ?_)
  · skip
    have c_1' : pa.toInt ≥ tk.toInt := jb_ge (rfl) (rfl) c_1
    refine lv_iconst (v := 0) hx hb dX10_peek_33 (by decide) ?_
    rw [hQ]
    exact W.iret (v := 0) hx hb hr (fun t ht hW => ⟨⟨0, (), rfl, by first | omega | rfl | assumption | decide | exact Or.inl rfl | exact Or.inr rfl | (simp only; omega), hh.rt (M1 := []) [] rfl ht⟩, by rw [ht]; try exact hh.1.1, fun q h9 hq => by rw [ht]; try exact hh.1.2.1 q h9 hq⟩) hh.1.2.2 dX10_peek_34
  · skip
    have c_1' : pa.toInt < tk.toInt := jb_ge_n (rfl) (rfl) c_1
    refine lv_aload_n hx hb dX10_peek_11 rfl (lv_at hl 0 rfl) ?_
    refine j7_read hx hb hown hK (C := RX10) (T := TX10) (N := 11) rfl hly_12_4 (hts (.fieldLink RX10 83 "ProofServer$Syntax" "at" "I") (by decide +kernel)) (hh.at 1 rfl) dX10_peek_12 ?_
    refine lv_sipush (v := 1500) hx hb dX10_peek_15 (by decide) ?_
    refine lv_icmp_ge (tgt := 33) hx hb dX10_peek_18 (by decide) (fun c_2 => ?_) (fun c_2 => ?_)
    · skip
      have c_2' : pa.toInt ≥ 1500 := jb_ge (rfl) ((by decide)) c_2
      refine lv_iconst (v := 0) hx hb dX10_peek_33 (by decide) ?_
      rw [hQ]
      exact W.iret (v := 0) hx hb hr (fun t ht hW => ⟨⟨0, (), rfl, by first | omega | rfl | assumption | decide | exact Or.inl rfl | exact Or.inr rfl | (simp only; omega), hh.rt (M1 := []) [] rfl ht⟩, by rw [ht]; try exact hh.1.1, fun q h9 hq => by rw [ht]; try exact hh.1.2.1 q h9 hq⟩) hh.1.2.2 dX10_peek_34
    · skip
      have c_2' : pa.toInt < 1500 := jb_ge_n (rfl) ((by decide)) c_2
      refine lv_aload_n hx hb dX10_peek_21 rfl (lv_at hl 0 rfl) ?_
      obtain ⟨v_3, hv_3, hh_4⟩ := hh.pin (C := RX10) (T := TX10) (N := 11) hB12 rfl (by decide) hg_r0 (i := 1) (by decide) rfl
      clear hh
      obtain ⟨kinds_5, rfl, hg_kinds_5⟩ := hv_3
      refine j7_read hx hb hown hK (C := RX10) (T := TX10) (N := 11) rfl hly_12_1 (hts (.fieldLink RX10 9 "ProofServer$Syntax" "kinds" "[I") (by decide +kernel)) (hh_4.at 0 rfl) dX10_peek_22 ?_
      refine lv_aload_n hx hb dX10_peek_25 rfl (lv_at hl 0 rfl) ?_
      refine j7_read hx hb hown hK (C := RX10) (T := TX10) (N := 11) rfl hly_12_4 (hts (.fieldLink RX10 83 "ProofServer$Syntax" "at" "I") (by decide +kernel)) (hh_4.at 2 rfl) dX10_peek_26 ?_
      refine j7_iald hx hb hK hh_4 hB101 1 rfl (by decide) hg_kinds_5 (rfl) (by omega) dX10_peek_29 (fun z_6 (hz_6 : True) => ?_)
      refine lv_goto (tgt := 34) hx hb dX10_peek_30 (by decide) ?_
      rw [hQ]
      exact W.iret (v := z_6) hx hb hr (fun t ht hW => ⟨⟨z_6, (), rfl, by first | omega | rfl | assumption | decide | exact Or.inl rfl | exact Or.inr rfl | (simp only; omega), hh_4.rt (M1 := []) [] rfl ht⟩, by rw [ht]; try exact hh_4.1.1, fun q h9 hq => by rw [ht]; try exact hh_4.1.2.1 q h9 hq⟩) hh_4.1.2.2 dX10_peek_34
set_option maxHeartbeats 4000000 in
set_option maxRecDepth 20000 in
theorem uX10_peekName (l : Launch) (dC : Nat → ClassId) (dI : Nat → Nat → Nat) (ca : Nat → ClassId) (base : Nat) (B : jF) (hB : jBok B) (hAp : jAp (dC, dI)) (hB12 : ∀ n G a H, B 12 n G a H ↔ jOb (dC, dI) 12 11 (F12 n G) a H) (hB101 : ∀ n G a H, B 101 n G a H ↔ jAr (dC, dI) (ca 1) (fun j z => True) n a H) (G0 : jT) (H0 : Heap) (r0 : Nat) (tk : Int32) (pa : Int32) : Met l yX10_peekName wsX10_peekName ({ frames := 1, cells := 0, slots := 0, locals := 20 }) (va_Pc [.ref r0] (fun U => U.heap = H0 ∧ jX B base G0 [] H0 ∧ jG dC dI ca base U ∧ G0 r0 = some (12, 0) ∧ jP (dC, dI) G0 H0 [(r0, 12, 3, .int tk), (r0, 12, 4, .int pa)] ∧ 0 ≤ tk.toInt ∧ tk.toInt ≤ 1500 ∧ 0 ≤ pa.toInt ∧ pa.toInt ≤ 1503)) (va_Qi (S := Unit) (fun r u => (r.toInt = -1 ∨ pa.toInt < tk.toInt)) (fun u t => jRt (dC, dI) B base G0 EX10_peekName H0 [] t.heap) (jA base)) 0 0 (jA base) := by
  refine Met.ofW (cc := cX10_peekName) (maxL := 1) (ret := (some .int)) (by decide) rfl ?_
  intro p e s m args below meth c s₁ Bd hml hv
  obtain ⟨rfl, hH0, hX, hG, hg_r0, hP0, hp0, hp1, hp2, hp3⟩ := hv
  have hK := hG.1
  have hx := Bd.exec
  have hb := Bd.bytes
  have hr := Bd.returns
  have hts := atoms_spec (ws := wsX10_peekName) Bd.pre
  have hown : s.vm.findClass RX10 = some m.cls := findClass_of_methodNamed Bd.named
  have hlocks := Bd.notSynchronized
  obtain ⟨Q, hQ⟩ : ∃ Q, Q = MQ below (va_Qi (S := Unit) (fun r u => (r.toInt = -1 ∨ pa.toInt < tk.toInt)) (fun u t => jRt (dC, dI) B base G0 EX10_peekName H0 [] t.heap) (jA base)) ([.ref r0] : List Value).toArray s 0 0 (jA base) := ⟨_, rfl⟩
  rw [← hQ]
  have hl := lv_entry ([.ref r0]) (n := 1) (Nat.le_of_ble_eq_true rfl)
  rw [lg_entry_eq]
  generalize (lg_sl ([.ref r0]) ++ List.replicate (1 - (lg_sl ([.ref r0])).length) Slot.unset).toArray = ls at hl ⊢
  have hl : lv_has ls 1 [(0, .ref r0)] := hl
  generalize hR : (headSpec wsX10_peekName ({ frames := 1, cells := 0, slots := 0, locals := 20 })).room = R
  subst hH0
  have hh : jSt (dC, dI) B base G0 G0 EX10_peekName s.heap 0 0 [(r0, 12, 3, .int tk), (r0, 12, 4, .int pa)] [] [] s.heap [] := jSt.start hX hP0 jMc.nil jIs.nil
  clear hX hP0
  have hkm1 : ((-1) : Int32).toInt = (-1) := by decide
  have hk0 : (0 : Int32).toInt = 0 := by decide
  have hk1 : (1 : Int32).toInt = 1 := by decide
  have hk110 : (110 : Int32).toInt = 110 := by decide
  have hly_12_2 := hts (u_lay RX10 TX10 2) (by decide +kernel)
  have hly_12_4 := hts (u_lay RX10 TX10 4) (by decide +kernel)
  refine lv_aload_n hx hb dX10_peekName_0 rfl (lv_at hl 0 rfl) ?_
  refine va_calli (A0 := jA base) (H0 := s.heap) (va_runV (As := []) (rest := []) ⟨hx, hb, hml, hown, hts⟩ (uX10_peek l dC dI ca base B hB hAp hB12 hB101 G0 s.heap r0 tk pa) (cwV 0 hts gX10_peekName_X10_peek rfl rfl rfl (by decide +kernel) ⟨by rw [← hR]; exact Nat.le_of_ble_eq_true rfl, by rw [← hR]; exact Nat.le_of_ble_eq_true rfl⟩) ⟨fun a U g mk q => by obtain ⟨q0, q1, q2, qK, q10, q11, q12⟩ := q; exact ⟨q0, q1, q2, jG.calling g mk a qK, q10, q11, q12⟩, hh.recv (C := RX10) (T := TX10) (N := 11) hB12 rfl (by decide) hg_r0 hK, fun U hU hW => ⟨rfl, hU, hh.2.1, hG.step hW hU hh.1, hg_r0, (hh.2.2.1.sub (L1 := [(r0, 12, 3, .int tk), (r0, 12, 4, .int pa)]) [0, 1] rfl), by first | omega | (refine ⟨?_, ?_, ?_, ?_⟩ <;> (first | omega | rfl | assumption | decide | exact Or.inl rfl | exact Or.inr rfl | (simp only; omega)))⟩⟩ rfl rfl hl.1 rfl (lv_room (Nat.le_of_ble_eq_true rfl)) dX10_peekName_1 ⟨Nat.zero_le _, Nat.zero_le _⟩) hh.1 (fun q _ h => h) (fun q h => h) (fun r_2 u_1 t_1 H_1 locs_1 ht_1 hvm_1 hr_2 hb_1 hz_1 hk_1 hS_1 => ?_)
  rw [ht_1] at hb_1
  obtain ⟨hb_11, hb_12, hb_13, hb_14, hb_15⟩ := hb_1
  have hh_1 : jSt (dC, dI) B base G0 G0 EX10_peekName s.heap 0 0 [(r0, 12, 3, .int tk), (r0, 12, 4, .int pa)] [] [] H_1 locs_1 := (hh.call hb_11 hb_12 hb_13 hb_14 hS_1 rfl (L1 := [(r0, 12, 3, .int tk), (r0, 12, 4, .int pa)]) [0, 1] rfl rfl (M1 := []) [] rfl rfl (I1 := []) [] rfl rfl).more hb_15
  clear hh ht_1 hvm_1 hz_1 hk_1 hS_1 hb_11 hb_12 hb_13 hb_14 hb_15
  refine lv_bipush (v := 110) hx hb dX10_peekName_4 (by decide) ?_
  refine lv_icmp_ne (tgt := 21) hx hb dX10_peekName_6 (by decide) (fun c_3 => ?_) (fun c_3 => ?_)
  · skip
    have c_3' : r_2.toInt ≠ 110 := jb_ne (rfl) ((by decide)) c_3
    first | replace hr_2 := hr_2.resolve_left (by omega) | replace hr_2 := hr_2.resolve_right (by omega) | skip
    refine lv_iconst (v := (-1)) hx hb dX10_peekName_21 (by decide) ?_
    rw [hQ]
    exact W.iret (v := (-1)) hx hb hr (fun t ht hW => ⟨⟨(-1), (), rfl, by first | omega | rfl | assumption | decide | exact Or.inl rfl | exact Or.inr rfl | (simp only; omega), hh_1.rt (M1 := []) [] rfl ht⟩, by rw [ht]; try exact hh_1.1.1, fun q h9 hq => by rw [ht]; try exact hh_1.1.2.1 q h9 hq⟩) hh_1.1.2.2 dX10_peekName_22
  · skip
    have c_3' : r_2.toInt = 110 := jb_ne_n (rfl) ((by decide)) c_3
    first | replace hr_2 := hr_2.resolve_left (by omega) | replace hr_2 := hr_2.resolve_right (by omega) | skip
    refine lv_aload_n hx hb dX10_peekName_9 rfl (lv_at hl 0 rfl) ?_
    obtain ⟨v_4, hv_4, hh_5⟩ := hh_1.pin (C := RX10) (T := TX10) (N := 11) hB12 rfl (by decide) hg_r0 (i := 2) (by decide) rfl
    clear hh_1
    obtain ⟨values_6, rfl, hg_values_6⟩ := hv_4
    refine j7_read hx hb hown hK (C := RX10) (T := TX10) (N := 11) rfl hly_12_2 (hts (.fieldLink RX10 15 "ProofServer$Syntax" "values" "[I") (by decide +kernel)) (hh_5.at 0 rfl) dX10_peekName_10 ?_
    refine lv_aload_n hx hb dX10_peekName_13 rfl (lv_at hl 0 rfl) ?_
    refine j7_read hx hb hown hK (C := RX10) (T := TX10) (N := 11) rfl hly_12_4 (hts (.fieldLink RX10 83 "ProofServer$Syntax" "at" "I") (by decide +kernel)) (hh_5.at 2 rfl) dX10_peekName_14 ?_
    refine j7_iald hx hb hK hh_5 hB101 1 rfl (by decide) hg_values_6 (rfl) (by omega) dX10_peekName_17 (fun z_7 (hz_7 : True) => ?_)
    refine lv_goto (tgt := 22) hx hb dX10_peekName_18 (by decide) ?_
    rw [hQ]
    exact W.iret (v := z_7) hx hb hr (fun t ht hW => ⟨⟨z_7, (), rfl, by first | omega | rfl | assumption | decide | exact Or.inl rfl | exact Or.inr rfl | (simp only; omega), hh_5.rt (M1 := []) [] rfl ht⟩, by rw [ht]; try exact hh_5.1.1, fun q h9 hq => by rw [ht]; try exact hh_5.1.2.1 q h9 hq⟩) hh_5.1.2.2 dX10_peekName_22
set_option maxHeartbeats 4000000 in
set_option maxRecDepth 20000 in
theorem uX10_isSign (l : Launch) (dC : Nat → ClassId) (dI : Nat → Nat → Nat) (ca : Nat → ClassId) (base : Nat) (B : jF) (hB : jBok B) (hAp : jAp (dC, dI)) (hB12 : ∀ n G a H, B 12 n G a H ↔ jOb (dC, dI) 12 11 (F12 n G) a H) (hB101 : ∀ n G a H, B 101 n G a H ↔ jAr (dC, dI) (ca 1) (fun j z => True) n a H) (G0 : jT) (H0 : Heap) (r0 : Nat) (a1 : Int32) (tk : Int32) (pa : Int32) : Met l yX10_isSign wsX10_isSign ({ frames := 0, cells := 0, slots := 0, locals := 0 }) (va_Pc [.ref r0, .int a1] (fun U => U.heap = H0 ∧ jX B base G0 [] H0 ∧ jG dC dI ca base U ∧ G0 r0 = some (12, 0) ∧ jP (dC, dI) G0 H0 [(r0, 12, 3, .int tk), (r0, 12, 4, .int pa)] ∧ 0 ≤ tk.toInt ∧ tk.toInt ≤ 1500 ∧ 0 ≤ pa.toInt ∧ pa.toInt ≤ 1503 ∧ pa.toInt ≤ tk.toInt + 2)) (va_Qi (S := Int32) (fun r u => (r = 0 ∨ r = 1) ∧ (u.toInt = pa.toInt + 1 ∧ (r.toInt = 0 ∨ pa.toInt < tk.toInt))) (fun u t => jRt (dC, dI) B base G0 EX10_isSign H0 [(r0, 12, 4, .int u)] t.heap) (jA base)) 0 0 (jA base) := by
  refine Met.ofW (cc := cX10_isSign) (maxL := 3) (ret := (some .boolean)) (by decide) rfl ?_
  intro p e s m args below meth c s₁ Bd hml hv
  obtain ⟨rfl, hH0, hX, hG, hg_r0, hP0, hp0, hp1, hp2, hp3, hp4⟩ := hv
  have hK := hG.1
  have hx := Bd.exec
  have hb := Bd.bytes
  have hr := Bd.returns
  have hts := atoms_spec (ws := wsX10_isSign) Bd.pre
  have hown : s.vm.findClass RX10 = some m.cls := findClass_of_methodNamed Bd.named
  have hlocks := Bd.notSynchronized
  obtain ⟨Q, hQ⟩ : ∃ Q, Q = MQ below (va_Qi (S := Int32) (fun r u => (r = 0 ∨ r = 1) ∧ (u.toInt = pa.toInt + 1 ∧ (r.toInt = 0 ∨ pa.toInt < tk.toInt))) (fun u t => jRt (dC, dI) B base G0 EX10_isSign H0 [(r0, 12, 4, .int u)] t.heap) (jA base)) ([.ref r0, .int a1] : List Value).toArray s 0 0 (jA base) := ⟨_, rfl⟩
  rw [← hQ]
  have hl := lv_entry ([.ref r0, .int a1]) (n := 3) (Nat.le_of_ble_eq_true rfl)
  rw [lg_entry_eq]
  generalize (lg_sl ([.ref r0, .int a1]) ++ List.replicate (3 - (lg_sl ([.ref r0, .int a1])).length) Slot.unset).toArray = ls at hl ⊢
  have hl : lv_has ls 3 [(0, .ref r0), (1, .int a1)] := hl
  generalize hR : (headSpec wsX10_isSign ({ frames := 0, cells := 0, slots := 0, locals := 0 })).room = R
  subst hH0
  have hh : jSt (dC, dI) B base G0 G0 EX10_isSign s.heap 0 0 [(r0, 12, 3, .int tk), (r0, 12, 4, .int pa)] [] [] s.heap [] := jSt.start hX hP0 jMc.nil jIs.nil
  clear hX hP0
  have hk0 : (0 : Int32).toInt = 0 := by decide
  have hk1 : (1 : Int32).toInt = 1 := by decide
  have hk1500 : (1500 : Int32).toInt = 1500 := by decide
  have hly_12_1 := hts (u_lay RX10 TX10 1) (by decide +kernel)
  have hly_12_3 := hts (u_lay RX10 TX10 3) (by decide +kernel)
  have hly_12_4 := hts (u_lay RX10 TX10 4) (by decide +kernel)
  have hrg_a1 := jb_rng a1
  refine lv_aload_n hx hb dX10_isSign_0 rfl (lv_at hl 0 rfl) ?_
  refine j7_read hx hb hown hK (C := RX10) (T := TX10) (N := 11) rfl hly_12_4 (hts (.fieldLink RX10 83 "ProofServer$Syntax" "at" "I") (by decide +kernel)) (hh.at 1 rfl) dX10_isSign_1 ?_
  refine lv_aload_n hx hb dX10_isSign_4 rfl (lv_at hl 0 rfl) ?_
  refine j7_read hx hb hown hK (C := RX10) (T := TX10) (N := 11) rfl hly_12_3 (hts (.fieldLink RX10 28 "ProofServer$Syntax" "tokens" "I") (by decide +kernel)) (hh.at 0 rfl) dX10_isSign_5 ?_
  refine lv_icmp_ge (tgt := 38) hx hb dX10_isSign_8 (by decide) (fun c_1 => ?_) (fun c_1 => ?_)
  · skip
    have c_1' : pa.toInt ≥ tk.toInt := jb_ge (rfl) (rfl) c_1
    refine lv_iconst (v := 0) hx hb dX10_isSign_38 (by decide) ?_
    refine lv_istore_n (lv' := [(2, .int 0), (0, .ref r0), (1, .int a1)]) hx hb dX10_isSign_39 rfl hl (by decide) rfl (fun ls hl => ?_)
    refine lv_aload_n hx hb dX10_isSign_40 rfl (lv_at hl 1 rfl) ?_
    refine lv_dup hx hb dX10_isSign_41 rfl ?_
    refine j7_read hx hb hown hK (C := RX10) (T := TX10) (N := 11) rfl hly_12_4 (hts (.fieldLink RX10 83 "ProofServer$Syntax" "at" "I") (by decide +kernel)) (hh.at 1 rfl) dX10_isSign_42 ?_
    refine lv_iconst (v := 1) hx hb dX10_isSign_45 (by decide) ?_
    refine lv_iadd hx hb dX10_isSign_46 ?_
    refine lv_topi (fun z_2 ez_2 => ?_)
    have hz_2 : z_2.toInt = pa.toInt + 1 := by rw [ez_2]; exact jb_iadd2 (rfl) ((by decide)) (by omega)
    refine j7_put hx hb hown hK hh hB hAp hB12 (C := RX10) (T := TX10) (N := 11) rfl (by decide) hg_r0 (i := 4) (by decide) hly_12_4 rfl (hts (.fieldLink RX10 83 "ProofServer$Syntax" "at" "I") (by decide +kernel)) rfl (ty := .int) (v := .int z_2) (by decide +kernel) rfl rfl (⟨_, rfl, by omega, by omega⟩) rfl (L1 := [(r0, 12, 3, .int tk)]) [0] rfl rfl rfl dX10_isSign_47 (fun H_3 locs_3 hh_3 => ?_)
    clear hh
    refine lv_iload_n hx hb dX10_isSign_50 rfl (lv_at hl 0 rfl) ?_
    rw [hQ]
    exact W.zret (v := 0) hx hb hr (jb_nz (Or.inl rfl)) (fun t ht hW => ⟨⟨0, z_2, rfl, ⟨(Or.inl rfl), by first | omega | (refine ⟨?_, ?_⟩ <;> (first | omega | rfl | assumption | decide | exact Or.inl rfl | exact Or.inr rfl | (simp only; omega)))⟩, hh_3.rt (M1 := [(r0, 12, 4, .int z_2)]) [0] rfl ht⟩, by rw [ht]; try exact hh_3.1.1, fun q h9 hq => by rw [ht]; try exact hh_3.1.2.1 q h9 hq⟩) hh_3.1.2.2 dX10_isSign_51
  · skip
    have c_1' : pa.toInt < tk.toInt := jb_ge_n (rfl) (rfl) c_1
    refine lv_aload_n hx hb dX10_isSign_11 rfl (lv_at hl 0 rfl) ?_
    refine j7_read hx hb hown hK (C := RX10) (T := TX10) (N := 11) rfl hly_12_4 (hts (.fieldLink RX10 83 "ProofServer$Syntax" "at" "I") (by decide +kernel)) (hh.at 1 rfl) dX10_isSign_12 ?_
    refine lv_sipush (v := 1500) hx hb dX10_isSign_15 (by decide) ?_
    refine lv_icmp_ge (tgt := 38) hx hb dX10_isSign_18 (by decide) (fun c_4 => ?_) (fun c_4 => ?_)
    · skip
      have c_4' : pa.toInt ≥ 1500 := jb_ge (rfl) ((by decide)) c_4
      refine lv_iconst (v := 0) hx hb dX10_isSign_38 (by decide) ?_
      refine lv_istore_n (lv' := [(2, .int 0), (0, .ref r0), (1, .int a1)]) hx hb dX10_isSign_39 rfl hl (by decide) rfl (fun ls hl => ?_)
      refine lv_aload_n hx hb dX10_isSign_40 rfl (lv_at hl 1 rfl) ?_
      refine lv_dup hx hb dX10_isSign_41 rfl ?_
      refine j7_read hx hb hown hK (C := RX10) (T := TX10) (N := 11) rfl hly_12_4 (hts (.fieldLink RX10 83 "ProofServer$Syntax" "at" "I") (by decide +kernel)) (hh.at 1 rfl) dX10_isSign_42 ?_
      refine lv_iconst (v := 1) hx hb dX10_isSign_45 (by decide) ?_
      refine lv_iadd hx hb dX10_isSign_46 ?_
      refine lv_topi (fun z_5 ez_5 => ?_)
      have hz_5 : z_5.toInt = pa.toInt + 1 := by rw [ez_5]; exact jb_iadd2 (rfl) ((by decide)) (by omega)
      refine j7_put hx hb hown hK hh hB hAp hB12 (C := RX10) (T := TX10) (N := 11) rfl (by decide) hg_r0 (i := 4) (by decide) hly_12_4 rfl (hts (.fieldLink RX10 83 "ProofServer$Syntax" "at" "I") (by decide +kernel)) rfl (ty := .int) (v := .int z_5) (by decide +kernel) rfl rfl (⟨_, rfl, by omega, by omega⟩) rfl (L1 := [(r0, 12, 3, .int tk)]) [0] rfl rfl rfl dX10_isSign_47 (fun H_6 locs_6 hh_6 => ?_)
      clear hh
      refine lv_iload_n hx hb dX10_isSign_50 rfl (lv_at hl 0 rfl) ?_
      rw [hQ]
      exact W.zret (v := 0) hx hb hr (jb_nz (Or.inl rfl)) (fun t ht hW => ⟨⟨0, z_5, rfl, ⟨(Or.inl rfl), by first | omega | (refine ⟨?_, ?_⟩ <;> (first | omega | rfl | assumption | decide | exact Or.inl rfl | exact Or.inr rfl | (simp only; omega)))⟩, hh_6.rt (M1 := [(r0, 12, 4, .int z_5)]) [0] rfl ht⟩, by rw [ht]; try exact hh_6.1.1, fun q h9 hq => by rw [ht]; try exact hh_6.1.2.1 q h9 hq⟩) hh_6.1.2.2 dX10_isSign_51
    · skip
      have c_4' : pa.toInt < 1500 := jb_ge_n (rfl) ((by decide)) c_4
      refine lv_aload_n hx hb dX10_isSign_21 rfl (lv_at hl 0 rfl) ?_
      obtain ⟨v_7, hv_7, hh_8⟩ := hh.pin (C := RX10) (T := TX10) (N := 11) hB12 rfl (by decide) hg_r0 (i := 1) (by decide) rfl
      clear hh
      obtain ⟨kinds_9, rfl, hg_kinds_9⟩ := hv_7
      refine j7_read hx hb hown hK (C := RX10) (T := TX10) (N := 11) rfl hly_12_1 (hts (.fieldLink RX10 9 "ProofServer$Syntax" "kinds" "[I") (by decide +kernel)) (hh_8.at 0 rfl) dX10_isSign_22 ?_
      refine lv_aload_n hx hb dX10_isSign_25 rfl (lv_at hl 0 rfl) ?_
      refine j7_read hx hb hown hK (C := RX10) (T := TX10) (N := 11) rfl hly_12_4 (hts (.fieldLink RX10 83 "ProofServer$Syntax" "at" "I") (by decide +kernel)) (hh_8.at 2 rfl) dX10_isSign_26 ?_
      refine j7_iald hx hb hK hh_8 hB101 1 rfl (by decide) hg_kinds_9 (rfl) (by omega) dX10_isSign_29 (fun z_10 (hz_10 : True) => ?_)
      refine lv_iload_n hx hb dX10_isSign_30 rfl (lv_at hl 1 rfl) ?_
      refine lv_icmp_ne (tgt := 38) hx hb dX10_isSign_31 (by decide) (fun c_11 => ?_) (fun c_11 => ?_)
      · skip
        have c_11' : z_10.toInt ≠ a1.toInt := jb_ne (rfl) (rfl) c_11
        refine lv_iconst (v := 0) hx hb dX10_isSign_38 (by decide) ?_
        refine lv_istore_n (lv' := [(2, .int 0), (0, .ref r0), (1, .int a1)]) hx hb dX10_isSign_39 rfl hl (by decide) rfl (fun ls hl => ?_)
        refine lv_aload_n hx hb dX10_isSign_40 rfl (lv_at hl 1 rfl) ?_
        refine lv_dup hx hb dX10_isSign_41 rfl ?_
        refine j7_read hx hb hown hK (C := RX10) (T := TX10) (N := 11) rfl hly_12_4 (hts (.fieldLink RX10 83 "ProofServer$Syntax" "at" "I") (by decide +kernel)) (hh_8.at 2 rfl) dX10_isSign_42 ?_
        refine lv_iconst (v := 1) hx hb dX10_isSign_45 (by decide) ?_
        refine lv_iadd hx hb dX10_isSign_46 ?_
        refine lv_topi (fun z_12 ez_12 => ?_)
        have hz_12 : z_12.toInt = pa.toInt + 1 := by rw [ez_12]; exact jb_iadd2 (rfl) ((by decide)) (by omega)
        refine j7_put hx hb hown hK hh_8 hB hAp hB12 (C := RX10) (T := TX10) (N := 11) rfl (by decide) hg_r0 (i := 4) (by decide) hly_12_4 rfl (hts (.fieldLink RX10 83 "ProofServer$Syntax" "at" "I") (by decide +kernel)) rfl (ty := .int) (v := .int z_12) (by decide +kernel) rfl rfl (⟨_, rfl, by omega, by omega⟩) rfl (L1 := [(r0, 12, 1, .ref kinds_9), (r0, 12, 3, .int tk)]) [0, 1] rfl rfl rfl dX10_isSign_47 (fun H_13 locs_13 hh_13 => ?_)
        clear hh_8
        refine lv_iload_n hx hb dX10_isSign_50 rfl (lv_at hl 0 rfl) ?_
        rw [hQ]
        exact W.zret (v := 0) hx hb hr (jb_nz (Or.inl rfl)) (fun t ht hW => ⟨⟨0, z_12, rfl, ⟨(Or.inl rfl), by first | omega | (refine ⟨?_, ?_⟩ <;> (first | omega | rfl | assumption | decide | exact Or.inl rfl | exact Or.inr rfl | (simp only; omega)))⟩, hh_13.rt (M1 := [(r0, 12, 4, .int z_12)]) [0] rfl ht⟩, by rw [ht]; try exact hh_13.1.1, fun q h9 hq => by rw [ht]; try exact hh_13.1.2.1 q h9 hq⟩) hh_13.1.2.2 dX10_isSign_51
      · skip
        have c_11' : z_10.toInt = a1.toInt := jb_ne_n (rfl) (rfl) c_11
        refine lv_iconst (v := 1) hx hb dX10_isSign_34 (by decide) ?_
        refine lv_goto (tgt := 39) hx hb dX10_isSign_35 (by decide) ?_
        refine lv_istore_n (lv' := [(2, .int 1), (0, .ref r0), (1, .int a1)]) hx hb dX10_isSign_39 rfl hl (by decide) rfl (fun ls hl => ?_)
        refine lv_aload_n hx hb dX10_isSign_40 rfl (lv_at hl 1 rfl) ?_
        refine lv_dup hx hb dX10_isSign_41 rfl ?_
        refine j7_read hx hb hown hK (C := RX10) (T := TX10) (N := 11) rfl hly_12_4 (hts (.fieldLink RX10 83 "ProofServer$Syntax" "at" "I") (by decide +kernel)) (hh_8.at 2 rfl) dX10_isSign_42 ?_
        refine lv_iconst (v := 1) hx hb dX10_isSign_45 (by decide) ?_
        refine lv_iadd hx hb dX10_isSign_46 ?_
        refine lv_topi (fun z_14 ez_14 => ?_)
        have hz_14 : z_14.toInt = pa.toInt + 1 := by rw [ez_14]; exact jb_iadd2 (rfl) ((by decide)) (by omega)
        refine j7_put hx hb hown hK hh_8 hB hAp hB12 (C := RX10) (T := TX10) (N := 11) rfl (by decide) hg_r0 (i := 4) (by decide) hly_12_4 rfl (hts (.fieldLink RX10 83 "ProofServer$Syntax" "at" "I") (by decide +kernel)) rfl (ty := .int) (v := .int z_14) (by decide +kernel) rfl rfl (⟨_, rfl, by omega, by omega⟩) rfl (L1 := [(r0, 12, 1, .ref kinds_9), (r0, 12, 3, .int tk)]) [0, 1] rfl rfl rfl dX10_isSign_47 (fun H_15 locs_15 hh_15 => ?_)
        clear hh_8
        refine lv_iload_n hx hb dX10_isSign_50 rfl (lv_at hl 0 rfl) ?_
        rw [hQ]
        exact W.zret (v := 1) hx hb hr (jb_nz (Or.inr rfl)) (fun t ht hW => ⟨⟨1, z_14, rfl, ⟨(Or.inr rfl), by first | omega | (refine ⟨?_, ?_⟩ <;> (first | omega | rfl | assumption | decide | exact Or.inl rfl | exact Or.inr rfl | (simp only; omega)))⟩, hh_15.rt (M1 := [(r0, 12, 4, .int z_14)]) [0] rfl ht⟩, by rw [ht]; try exact hh_15.1.1, fun q h9 hq => by rw [ht]; try exact hh_15.1.2.1 q h9 hq⟩) hh_15.1.2.2 dX10_isSign_51
set_option maxHeartbeats 4000000 in
set_option maxRecDepth 20000 in
theorem uX10_isName (l : Launch) (dC : Nat → ClassId) (dI : Nat → Nat → Nat) (ca : Nat → ClassId) (base : Nat) (B : jF) (hB : jBok B) (hAp : jAp (dC, dI)) (hB12 : ∀ n G a H, B 12 n G a H ↔ jOb (dC, dI) 12 11 (F12 n G) a H) (hB101 : ∀ n G a H, B 101 n G a H ↔ jAr (dC, dI) (ca 1) (fun j z => True) n a H) (G0 : jT) (H0 : Heap) (r0 : Nat) (tk : Int32) (pa : Int32) : Met l yX10_isName wsX10_isName ({ frames := 2, cells := 0, slots := 0, locals := 40 }) (va_Pc [.ref r0] (fun U => U.heap = H0 ∧ jX B base G0 [] H0 ∧ jG dC dI ca base U ∧ G0 r0 = some (12, 0) ∧ jP (dC, dI) G0 H0 [(r0, 12, 3, .int tk), (r0, 12, 4, .int pa)] ∧ 0 ≤ tk.toInt ∧ tk.toInt ≤ 1500 ∧ 0 ≤ pa.toInt ∧ pa.toInt ≤ 1503 ∧ pa.toInt ≤ tk.toInt + 2)) (va_Qi (S := Int32) (fun r u => (r = 0 ∨ r = 1) ∧ (u.toInt = pa.toInt + 1 ∧ (r.toInt = 0 ∨ pa.toInt < tk.toInt))) (fun u t => jRt (dC, dI) B base G0 EX10_isName H0 [(r0, 12, 4, .int u)] t.heap) (jA base)) 0 0 (jA base) := by
  refine Met.ofW (cc := cX10_isName) (maxL := 2) (ret := (some .boolean)) (by decide) rfl ?_
  intro p e s m args below meth c s₁ Bd hml hv
  obtain ⟨rfl, hH0, hX, hG, hg_r0, hP0, hp0, hp1, hp2, hp3, hp4⟩ := hv
  have hK := hG.1
  have hx := Bd.exec
  have hb := Bd.bytes
  have hr := Bd.returns
  have hts := atoms_spec (ws := wsX10_isName) Bd.pre
  have hown : s.vm.findClass RX10 = some m.cls := findClass_of_methodNamed Bd.named
  have hlocks := Bd.notSynchronized
  obtain ⟨Q, hQ⟩ : ∃ Q, Q = MQ below (va_Qi (S := Int32) (fun r u => (r = 0 ∨ r = 1) ∧ (u.toInt = pa.toInt + 1 ∧ (r.toInt = 0 ∨ pa.toInt < tk.toInt))) (fun u t => jRt (dC, dI) B base G0 EX10_isName H0 [(r0, 12, 4, .int u)] t.heap) (jA base)) ([.ref r0] : List Value).toArray s 0 0 (jA base) := ⟨_, rfl⟩
  rw [← hQ]
  have hl := lv_entry ([.ref r0]) (n := 2) (Nat.le_of_ble_eq_true rfl)
  rw [lg_entry_eq]
  generalize (lg_sl ([.ref r0]) ++ List.replicate (2 - (lg_sl ([.ref r0])).length) Slot.unset).toArray = ls at hl ⊢
  have hl : lv_has ls 2 [(0, .ref r0)] := hl
  generalize hR : (headSpec wsX10_isName ({ frames := 2, cells := 0, slots := 0, locals := 40 })).room = R
  subst hH0
  have hh : jSt (dC, dI) B base G0 G0 EX10_isName s.heap 0 0 [(r0, 12, 3, .int tk), (r0, 12, 4, .int pa)] [] [] s.heap [] := jSt.start hX hP0 jMc.nil jIs.nil
  clear hX hP0
  have hk0 : (0 : Int32).toInt = 0 := by decide
  have hk1 : (1 : Int32).toInt = 1 := by decide
  have hk2 : (2 : Int32).toInt = 2 := by decide
  have hly_12_4 := hts (u_lay RX10 TX10 4) (by decide +kernel)
  have hly_12_6 := hts (u_lay RX10 TX10 6) (by decide +kernel)
  have hly_12_7 := hts (u_lay RX10 TX10 7) (by decide +kernel)
  refine lv_aload_n hx hb dX10_isName_0 rfl (lv_at hl 0 rfl) ?_
  refine va_calli (A0 := jA base) (H0 := s.heap) (va_runV (As := []) (rest := []) ⟨hx, hb, hml, hown, hts⟩ (uX10_peekName l dC dI ca base B hB hAp hB12 hB101 G0 s.heap r0 tk pa) (cwV 0 hts gX10_isName_X10_peekName rfl rfl rfl (by decide +kernel) ⟨by rw [← hR]; exact Nat.le_of_ble_eq_true rfl, by rw [← hR]; exact Nat.le_of_ble_eq_true rfl⟩) ⟨fun a U g mk q => by obtain ⟨q0, q1, q2, qK, q10, q11, q12⟩ := q; exact ⟨q0, q1, q2, jG.calling g mk a qK, q10, q11, q12⟩, hh.recv (C := RX10) (T := TX10) (N := 11) hB12 rfl (by decide) hg_r0 hK, fun U hU hW => ⟨rfl, hU, hh.2.1, hG.step hW hU hh.1, hg_r0, (hh.2.2.1.sub (L1 := [(r0, 12, 3, .int tk), (r0, 12, 4, .int pa)]) [0, 1] rfl), by first | omega | (refine ⟨?_, ?_, ?_, ?_⟩ <;> (first | omega | rfl | assumption | decide | exact Or.inl rfl | exact Or.inr rfl | (simp only; omega)))⟩⟩ rfl rfl hl.1 rfl (lv_room (Nat.le_of_ble_eq_true rfl)) dX10_isName_1 ⟨Nat.zero_le _, Nat.zero_le _⟩) hh.1 (fun q _ h => h) (fun q h => h) (fun r_2 u_1 t_1 H_1 locs_1 ht_1 hvm_1 hr_2 hb_1 hz_1 hk_1 hS_1 => ?_)
  rw [ht_1] at hb_1
  obtain ⟨hb_11, hb_12, hb_13, hb_14, hb_15⟩ := hb_1
  have hh_1 : jSt (dC, dI) B base G0 G0 EX10_isName s.heap 0 0 [(r0, 12, 3, .int tk), (r0, 12, 4, .int pa)] [] [] H_1 locs_1 := (hh.call hb_11 hb_12 hb_13 hb_14 hS_1 rfl (L1 := [(r0, 12, 3, .int tk), (r0, 12, 4, .int pa)]) [0, 1] rfl rfl (M1 := []) [] rfl rfl (I1 := []) [] rfl rfl).more hb_15
  clear hh ht_1 hvm_1 hz_1 hk_1 hS_1 hb_11 hb_12 hb_13 hb_14 hb_15
  refine lv_istore_n (lv' := [(1, .int r_2), (0, .ref r0)]) hx hb dX10_isName_4 rfl hl (by decide) rfl (fun ls hl => ?_)
  refine lv_aload_n hx hb dX10_isName_5 rfl (lv_at hl 1 rfl) ?_
  refine lv_dup hx hb dX10_isName_6 rfl ?_
  refine j7_read hx hb hown hK (C := RX10) (T := TX10) (N := 11) rfl hly_12_4 (hts (.fieldLink RX10 83 "ProofServer$Syntax" "at" "I") (by decide +kernel)) (hh_1.at 1 rfl) dX10_isName_7 ?_
  refine lv_iconst (v := 1) hx hb dX10_isName_10 (by decide) ?_
  refine lv_iadd hx hb dX10_isName_11 ?_
  refine lv_topi (fun z_3 ez_3 => ?_)
  have hz_3 : z_3.toInt = pa.toInt + 1 := by rw [ez_3]; exact jb_iadd2 (rfl) ((by decide)) (by omega)
  refine j7_put hx hb hown hK hh_1 hB hAp hB12 (C := RX10) (T := TX10) (N := 11) rfl (by decide) hg_r0 (i := 4) (by decide) hly_12_4 rfl (hts (.fieldLink RX10 83 "ProofServer$Syntax" "at" "I") (by decide +kernel)) rfl (ty := .int) (v := .int z_3) (by decide +kernel) rfl rfl (⟨_, rfl, by omega, by omega⟩) rfl (L1 := [(r0, 12, 3, .int tk)]) [0] rfl rfl rfl dX10_isName_12 (fun H_4 locs_4 hh_4 => ?_)
  clear hh_1
  refine lv_iload_n hx hb dX10_isName_15 rfl (lv_at hl 0 rfl) ?_
  refine lv_iconst (v := 2) hx hb dX10_isName_16 (by decide) ?_
  refine lv_icmp_le (tgt := 32) hx hb dX10_isName_17 (by decide) (fun c_5 => ?_) (fun c_5 => ?_)
  · skip
    have c_5' : r_2.toInt ≤ 2 := jb_le (rfl) ((by decide)) c_5
    first | replace hr_2 := hr_2.resolve_left (by omega) | replace hr_2 := hr_2.resolve_right (by omega) | skip
    refine lv_iconst (v := 0) hx hb dX10_isName_32 (by decide) ?_
    rw [hQ]
    exact W.zret (v := 0) hx hb hr (jb_nz (Or.inl rfl)) (fun t ht hW => ⟨⟨0, z_3, rfl, ⟨(Or.inl rfl), by first | omega | (refine ⟨?_, ?_⟩ <;> (first | omega | rfl | assumption | decide | exact Or.inl rfl | exact Or.inr rfl | (simp only; omega)))⟩, hh_4.rt (M1 := [(r0, 12, 4, .int z_3)]) [0] rfl ht⟩, by rw [ht]; try exact hh_4.1.1, fun q h9 hq => by rw [ht]; try exact hh_4.1.2.1 q h9 hq⟩) hh_4.1.2.2 dX10_isName_33
  · skip
    have c_5' : r_2.toInt > 2 := jb_le_n (rfl) ((by decide)) c_5
    first | replace hr_2 := hr_2.resolve_left (by omega) | replace hr_2 := hr_2.resolve_right (by omega) | skip
    refine lv_aload_n hx hb dX10_isName_20 rfl (lv_at hl 1 rfl) ?_
    obtain ⟨v_6, hv_6, hh_7⟩ := hh_4.pin (C := RX10) (T := TX10) (N := 11) hB12 rfl (by decide) hg_r0 (i := 7) (by decide) rfl
    clear hh_4
    obtain ⟨toldCount_8, rfl, hlotoldCount_8, hhitoldCount_8⟩ := hv_6
    refine j7_read hx hb hown hK (C := RX10) (T := TX10) (N := 11) rfl hly_12_7 (hts (.fieldLink RX10 86 "ProofServer$Syntax" "toldCount" "I") (by decide +kernel)) (hh_7.at 0 rfl) dX10_isName_21 ?_
    refine lv_aload_n hx hb dX10_isName_24 rfl (lv_at hl 1 rfl) ?_
    obtain ⟨v_9, hv_9, hh_10⟩ := hh_7.pin (C := RX10) (T := TX10) (N := 11) hB12 rfl (by decide) hg_r0 (i := 6) (by decide) rfl
    clear hh_7
    obtain ⟨told_11, rfl, hg_told_11⟩ := hv_9
    refine j7_read hx hb hown hK (C := RX10) (T := TX10) (N := 11) rfl hly_12_6 (hts (.fieldLink RX10 18 "ProofServer$Syntax" "told" "[I") (by decide +kernel)) (hh_10.at 0 rfl) dX10_isName_25 ?_
    refine j7_len hx hb hK hh_10 hB101 1 rfl (by decide) hg_told_11 (by omega) dX10_isName_28 (fun z_12 hz_12 => ?_)
    refine lv_icmp_lt (tgt := 34) hx hb dX10_isName_29 (by decide) (fun c_13 => ?_) (fun c_13 => ?_)
    · skip
      have c_13' : toldCount_8.toInt < z_12.toInt := jb_lt (rfl) (rfl) c_13
      refine lv_aload_n hx hb dX10_isName_34 rfl (lv_at hl 1 rfl) ?_
      refine j7_read hx hb hown hK (C := RX10) (T := TX10) (N := 11) rfl hly_12_6 (hts (.fieldLink RX10 18 "ProofServer$Syntax" "told" "[I") (by decide +kernel)) (hh_10.at 0 rfl) dX10_isName_35 ?_
      refine lv_aload_n hx hb dX10_isName_38 rfl (lv_at hl 1 rfl) ?_
      refine j7_read hx hb hown hK (C := RX10) (T := TX10) (N := 11) rfl hly_12_7 (hts (.fieldLink RX10 86 "ProofServer$Syntax" "toldCount" "I") (by decide +kernel)) (hh_10.at 1 rfl) dX10_isName_39 ?_
      refine lv_iload_n hx hb dX10_isName_42 rfl (lv_at hl 0 rfl) ?_
      refine j7_iast hx hb hK hh_10 hB hB101 1 rfl (by decide) (by decide) rfl rfl rfl hg_told_11 (rfl) (by omega) (trivial) dX10_isName_43 (fun H_14 locs_14 hh_14 => ?_)
      clear hh_10
      refine lv_aload_n hx hb dX10_isName_44 rfl (lv_at hl 1 rfl) ?_
      refine lv_dup hx hb dX10_isName_45 rfl ?_
      refine j7_read hx hb hown hK (C := RX10) (T := TX10) (N := 11) rfl hly_12_7 (hts (.fieldLink RX10 86 "ProofServer$Syntax" "toldCount" "I") (by decide +kernel)) (hh_14.at 1 rfl) dX10_isName_46 ?_
      refine lv_iconst (v := 1) hx hb dX10_isName_49 (by decide) ?_
      refine lv_iadd hx hb dX10_isName_50 ?_
      refine lv_topi (fun z_15 ez_15 => ?_)
      have hz_15 : z_15.toInt = toldCount_8.toInt + 1 := by rw [ez_15]; exact jb_iadd2 (rfl) ((by decide)) (by omega)
      refine j7_put hx hb hown hK hh_14 hB hAp hB12 (C := RX10) (T := TX10) (N := 11) rfl (by decide) hg_r0 (i := 7) (by decide) hly_12_7 rfl (hts (.fieldLink RX10 86 "ProofServer$Syntax" "toldCount" "I") (by decide +kernel)) rfl (ty := .int) (v := .int z_15) (by decide +kernel) rfl rfl (⟨_, rfl, by omega, by omega⟩) rfl (L1 := [(r0, 12, 6, .ref told_11), (r0, 12, 4, .int z_3), (r0, 12, 3, .int tk)]) [0, 2, 3] rfl rfl rfl dX10_isName_51 (fun H_16 locs_16 hh_16 => ?_)
      clear hh_14
      refine lv_iconst (v := 1) hx hb dX10_isName_54 (by decide) ?_
      rw [hQ]
      exact W.zret (v := 1) hx hb hr (jb_nz (Or.inr rfl)) (fun t ht hW => ⟨⟨1, z_3, rfl, ⟨(Or.inr rfl), by first | omega | (refine ⟨?_, ?_⟩ <;> (first | omega | rfl | assumption | decide | exact Or.inl rfl | exact Or.inr rfl | (simp only; omega)))⟩, hh_16.rt (M1 := [(r0, 12, 4, .int z_3)]) [2] rfl ht⟩, by rw [ht]; try exact hh_16.1.1, fun q h9 hq => by rw [ht]; try exact hh_16.1.2.1 q h9 hq⟩) hh_16.1.2.2 dX10_isName_55
    · skip
      have c_13' : toldCount_8.toInt ≥ z_12.toInt := jb_lt_n (rfl) (rfl) c_13
      refine lv_iconst (v := 0) hx hb dX10_isName_32 (by decide) ?_
      rw [hQ]
      exact W.zret (v := 0) hx hb hr (jb_nz (Or.inl rfl)) (fun t ht hW => ⟨⟨0, z_3, rfl, ⟨(Or.inl rfl), by first | omega | (refine ⟨?_, ?_⟩ <;> (first | omega | rfl | assumption | decide | exact Or.inl rfl | exact Or.inr rfl | (simp only; omega)))⟩, hh_10.rt (M1 := [(r0, 12, 4, .int z_3)]) [2] rfl ht⟩, by rw [ht]; try exact hh_10.1.1, fun q h9 hq => by rw [ht]; try exact hh_10.1.2.1 q h9 hq⟩) hh_10.1.2.2 dX10_isName_33
set_option maxHeartbeats 4000000 in
set_option maxRecDepth 20000 in
theorem uX10_isArity (l : Launch) (dC : Nat → ClassId) (dI : Nat → Nat → Nat) (ca : Nat → ClassId) (base : Nat) (B : jF) (hB : jBok B) (hAp : jAp (dC, dI)) (hB12 : ∀ n G a H, B 12 n G a H ↔ jOb (dC, dI) 12 11 (F12 n G) a H) (hB101 : ∀ n G a H, B 101 n G a H ↔ jAr (dC, dI) (ca 1) (fun j z => True) n a H) (G0 : jT) (H0 : Heap) (r0 : Nat) (tk : Int32) (pa : Int32) : Met l yX10_isArity wsX10_isArity ({ frames := 1, cells := 0, slots := 0, locals := 20 }) (va_Pc [.ref r0] (fun U => U.heap = H0 ∧ jX B base G0 [] H0 ∧ jG dC dI ca base U ∧ G0 r0 = some (12, 0) ∧ jP (dC, dI) G0 H0 [(r0, 12, 3, .int tk), (r0, 12, 4, .int pa)] ∧ 0 ≤ tk.toInt ∧ tk.toInt ≤ 1500 ∧ 0 ≤ pa.toInt ∧ pa.toInt ≤ 1503 ∧ pa.toInt ≤ tk.toInt + 2)) (va_Qi (S := Int32) (fun r u => (r = 0 ∨ r = 1) ∧ (u.toInt = pa.toInt + 1 ∧ (r.toInt = 0 ∨ pa.toInt < tk.toInt))) (fun u t => jRt (dC, dI) B base G0 EX10_isArity H0 [(r0, 12, 4, .int u)] t.heap) (jA base)) 0 0 (jA base) := by
  refine Met.ofW (cc := cX10_isArity) (maxL := 1) (ret := (some .boolean)) (by decide) rfl ?_
  intro p e s m args below meth c s₁ Bd hml hv
  obtain ⟨rfl, hH0, hX, hG, hg_r0, hP0, hp0, hp1, hp2, hp3, hp4⟩ := hv
  have hK := hG.1
  have hx := Bd.exec
  have hb := Bd.bytes
  have hr := Bd.returns
  have hts := atoms_spec (ws := wsX10_isArity) Bd.pre
  have hown : s.vm.findClass RX10 = some m.cls := findClass_of_methodNamed Bd.named
  have hlocks := Bd.notSynchronized
  obtain ⟨Q, hQ⟩ : ∃ Q, Q = MQ below (va_Qi (S := Int32) (fun r u => (r = 0 ∨ r = 1) ∧ (u.toInt = pa.toInt + 1 ∧ (r.toInt = 0 ∨ pa.toInt < tk.toInt))) (fun u t => jRt (dC, dI) B base G0 EX10_isArity H0 [(r0, 12, 4, .int u)] t.heap) (jA base)) ([.ref r0] : List Value).toArray s 0 0 (jA base) := ⟨_, rfl⟩
  rw [← hQ]
  have hl := lv_entry ([.ref r0]) (n := 1) (Nat.le_of_ble_eq_true rfl)
  rw [lg_entry_eq]
  generalize (lg_sl ([.ref r0]) ++ List.replicate (1 - (lg_sl ([.ref r0])).length) Slot.unset).toArray = ls at hl ⊢
  have hl : lv_has ls 1 [(0, .ref r0)] := hl
  generalize hR : (headSpec wsX10_isArity ({ frames := 1, cells := 0, slots := 0, locals := 20 })).room = R
  subst hH0
  have hh : jSt (dC, dI) B base G0 G0 EX10_isArity s.heap 0 0 [(r0, 12, 3, .int tk), (r0, 12, 4, .int pa)] [] [] s.heap [] := jSt.start hX hP0 jMc.nil jIs.nil
  clear hX hP0
  have hkm1 : ((-1) : Int32).toInt = (-1) := by decide
  have hk0 : (0 : Int32).toInt = 0 := by decide
  have hk1 : (1 : Int32).toInt = 1 := by decide
  have hk3 : (3 : Int32).toInt = 3 := by decide
  have hk100 : (100 : Int32).toInt = 100 := by decide
  have hly_12_2 := hts (u_lay RX10 TX10 2) (by decide +kernel)
  have hly_12_4 := hts (u_lay RX10 TX10 4) (by decide +kernel)
  have hly_12_8 := hts (u_lay RX10 TX10 8) (by decide +kernel)
  refine lv_aload_n hx hb dX10_isArity_0 rfl (lv_at hl 0 rfl) ?_
  refine lv_aload_n hx hb dX10_isArity_1 rfl (lv_at hl 0 rfl) ?_
  refine va_calli (A0 := jA base) (H0 := s.heap) (va_runV (As := []) (rest := [.ref r0]) ⟨hx, hb, hml, hown, hts⟩ (uX10_peek l dC dI ca base B hB hAp hB12 hB101 G0 s.heap r0 tk pa) (cwV 0 hts gX10_isArity_X10_peek rfl rfl rfl (by decide +kernel) ⟨by rw [← hR]; exact Nat.le_of_ble_eq_true rfl, by rw [← hR]; exact Nat.le_of_ble_eq_true rfl⟩) ⟨fun a U g mk q => by obtain ⟨q0, q1, q2, qK, q10, q11, q12⟩ := q; exact ⟨q0, q1, q2, jG.calling g mk a qK, q10, q11, q12⟩, hh.recv (C := RX10) (T := TX10) (N := 11) hB12 rfl (by decide) hg_r0 hK, fun U hU hW => ⟨rfl, hU, hh.2.1, hG.step hW hU hh.1, hg_r0, (hh.2.2.1.sub (L1 := [(r0, 12, 3, .int tk), (r0, 12, 4, .int pa)]) [0, 1] rfl), by first | omega | (refine ⟨?_, ?_, ?_, ?_⟩ <;> (first | omega | rfl | assumption | decide | exact Or.inl rfl | exact Or.inr rfl | (simp only; omega)))⟩⟩ rfl rfl hl.1 rfl (lv_room (Nat.le_of_ble_eq_true rfl)) dX10_isArity_2 ⟨Nat.zero_le _, Nat.zero_le _⟩) hh.1 (fun q _ h => h) (fun q h => h) (fun r_2 u_1 t_1 H_1 locs_1 ht_1 hvm_1 hr_2 hb_1 hz_1 hk_1 hS_1 => ?_)
  rw [ht_1] at hb_1
  obtain ⟨hb_11, hb_12, hb_13, hb_14, hb_15⟩ := hb_1
  have hh_1 : jSt (dC, dI) B base G0 G0 EX10_isArity s.heap 0 0 [(r0, 12, 3, .int tk), (r0, 12, 4, .int pa)] [] [] H_1 locs_1 := (hh.call hb_11 hb_12 hb_13 hb_14 hS_1 rfl (L1 := [(r0, 12, 3, .int tk), (r0, 12, 4, .int pa)]) [0, 1] rfl rfl (M1 := []) [] rfl rfl (I1 := []) [] rfl rfl).more hb_15
  clear hh ht_1 hvm_1 hz_1 hk_1 hS_1 hb_11 hb_12 hb_13 hb_14 hb_15
  refine lv_bipush (v := 100) hx hb dX10_isArity_5 (by decide) ?_
  refine lv_icmp_ne (tgt := 22) hx hb dX10_isArity_7 (by decide) (fun c_3 => ?_) (fun c_3 => ?_)
  · skip
    have c_3' : r_2.toInt ≠ 100 := jb_ne (rfl) ((by decide)) c_3
    first | replace hr_2 := hr_2.resolve_left (by omega) | replace hr_2 := hr_2.resolve_right (by omega) | skip
    refine lv_iconst (v := (-1)) hx hb dX10_isArity_22 (by decide) ?_
    refine j7_put hx hb hown hK hh_1 hB hAp hB12 (C := RX10) (T := TX10) (N := 11) rfl (by decide) hg_r0 (i := 8) (by decide) hly_12_8 rfl (hts (.fieldLink RX10 92 "ProofServer$Syntax" "terms" "I") (by decide +kernel)) rfl (ty := .int) (v := .int (-1)) (by decide +kernel) rfl rfl (⟨_, rfl⟩) rfl (L1 := [(r0, 12, 3, .int tk), (r0, 12, 4, .int pa)]) [0, 1] rfl rfl rfl dX10_isArity_23 (fun H_4 locs_4 hh_4 => ?_)
    clear hh_1
    refine lv_aload_n hx hb dX10_isArity_26 rfl (lv_at hl 0 rfl) ?_
    refine lv_dup hx hb dX10_isArity_27 rfl ?_
    refine j7_read hx hb hown hK (C := RX10) (T := TX10) (N := 11) rfl hly_12_4 (hts (.fieldLink RX10 83 "ProofServer$Syntax" "at" "I") (by decide +kernel)) (hh_4.at 2 rfl) dX10_isArity_28 ?_
    refine lv_iconst (v := 1) hx hb dX10_isArity_31 (by decide) ?_
    refine lv_iadd hx hb dX10_isArity_32 ?_
    refine lv_topi (fun z_5 ez_5 => ?_)
    have hz_5 : z_5.toInt = pa.toInt + 1 := by rw [ez_5]; exact jb_iadd2 (rfl) ((by decide)) (by omega)
    refine j7_put hx hb hown hK hh_4 hB hAp hB12 (C := RX10) (T := TX10) (N := 11) rfl (by decide) hg_r0 (i := 4) (by decide) hly_12_4 rfl (hts (.fieldLink RX10 83 "ProofServer$Syntax" "at" "I") (by decide +kernel)) rfl (ty := .int) (v := .int z_5) (by decide +kernel) rfl rfl (⟨_, rfl, by omega, by omega⟩) rfl (L1 := [(r0, 12, 8, .int (-1)), (r0, 12, 3, .int tk)]) [0, 1] rfl rfl rfl dX10_isArity_33 (fun H_6 locs_6 hh_6 => ?_)
    clear hh_4
    refine lv_aload_n hx hb dX10_isArity_36 rfl (lv_at hl 0 rfl) ?_
    refine j7_read hx hb hown hK (C := RX10) (T := TX10) (N := 11) rfl hly_12_8 (hts (.fieldLink RX10 92 "ProofServer$Syntax" "terms" "I") (by decide +kernel)) (hh_6.at 1 rfl) dX10_isArity_37 ?_
    refine lv_if_lt (tgt := 55) hx hb dX10_isArity_40 (by decide) (fun c_7 => ?_) (fun c_7 => ?_)
    · skip
      refine lv_iconst (v := 0) hx hb dX10_isArity_55 (by decide) ?_
      rw [hQ]
      exact W.zret (v := 0) hx hb hr (jb_nz (Or.inl rfl)) (fun t ht hW => ⟨⟨0, z_5, rfl, ⟨(Or.inl rfl), by first | omega | (refine ⟨?_, ?_⟩ <;> (first | omega | rfl | assumption | decide | exact Or.inl rfl | exact Or.inr rfl | (simp only; omega)))⟩, hh_6.rt (M1 := [(r0, 12, 4, .int z_5)]) [0] rfl ht⟩, by rw [ht]; try exact hh_6.1.1, fun q h9 hq => by rw [ht]; try exact hh_6.1.2.1 q h9 hq⟩) hh_6.1.2.2 dX10_isArity_56
    · skip
      exact absurd c_7 (by decide)
  · skip
    have c_3' : r_2.toInt = 100 := jb_ne_n (rfl) ((by decide)) c_3
    first | replace hr_2 := hr_2.resolve_left (by omega) | replace hr_2 := hr_2.resolve_right (by omega) | skip
    refine lv_aload_n hx hb dX10_isArity_10 rfl (lv_at hl 0 rfl) ?_
    obtain ⟨v_8, hv_8, hh_9⟩ := hh_1.pin (C := RX10) (T := TX10) (N := 11) hB12 rfl (by decide) hg_r0 (i := 2) (by decide) rfl
    clear hh_1
    obtain ⟨values_10, rfl, hg_values_10⟩ := hv_8
    refine j7_read hx hb hown hK (C := RX10) (T := TX10) (N := 11) rfl hly_12_2 (hts (.fieldLink RX10 15 "ProofServer$Syntax" "values" "[I") (by decide +kernel)) (hh_9.at 0 rfl) dX10_isArity_11 ?_
    refine lv_aload_n hx hb dX10_isArity_14 rfl (lv_at hl 0 rfl) ?_
    refine j7_read hx hb hown hK (C := RX10) (T := TX10) (N := 11) rfl hly_12_4 (hts (.fieldLink RX10 83 "ProofServer$Syntax" "at" "I") (by decide +kernel)) (hh_9.at 2 rfl) dX10_isArity_15 ?_
    refine j7_iald hx hb hK hh_9 hB101 1 rfl (by decide) hg_values_10 (rfl) (by omega) dX10_isArity_18 (fun z_11 (hz_11 : True) => ?_)
    refine lv_goto (tgt := 23) hx hb dX10_isArity_19 (by decide) ?_
    refine j7_put hx hb hown hK hh_9 hB hAp hB12 (C := RX10) (T := TX10) (N := 11) rfl (by decide) hg_r0 (i := 8) (by decide) hly_12_8 rfl (hts (.fieldLink RX10 92 "ProofServer$Syntax" "terms" "I") (by decide +kernel)) rfl (ty := .int) (v := .int z_11) (by decide +kernel) rfl rfl (⟨_, rfl⟩) rfl (L1 := [(r0, 12, 2, .ref values_10), (r0, 12, 3, .int tk), (r0, 12, 4, .int pa)]) [0, 1, 2] rfl rfl rfl dX10_isArity_23 (fun H_12 locs_12 hh_12 => ?_)
    clear hh_9
    refine lv_aload_n hx hb dX10_isArity_26 rfl (lv_at hl 0 rfl) ?_
    refine lv_dup hx hb dX10_isArity_27 rfl ?_
    refine j7_read hx hb hown hK (C := RX10) (T := TX10) (N := 11) rfl hly_12_4 (hts (.fieldLink RX10 83 "ProofServer$Syntax" "at" "I") (by decide +kernel)) (hh_12.at 3 rfl) dX10_isArity_28 ?_
    refine lv_iconst (v := 1) hx hb dX10_isArity_31 (by decide) ?_
    refine lv_iadd hx hb dX10_isArity_32 ?_
    refine lv_topi (fun z_13 ez_13 => ?_)
    have hz_13 : z_13.toInt = pa.toInt + 1 := by rw [ez_13]; exact jb_iadd2 (rfl) ((by decide)) (by omega)
    refine j7_put hx hb hown hK hh_12 hB hAp hB12 (C := RX10) (T := TX10) (N := 11) rfl (by decide) hg_r0 (i := 4) (by decide) hly_12_4 rfl (hts (.fieldLink RX10 83 "ProofServer$Syntax" "at" "I") (by decide +kernel)) rfl (ty := .int) (v := .int z_13) (by decide +kernel) rfl rfl (⟨_, rfl, by omega, by omega⟩) rfl (L1 := [(r0, 12, 8, .int z_11), (r0, 12, 2, .ref values_10), (r0, 12, 3, .int tk)]) [0, 1, 2] rfl rfl rfl dX10_isArity_33 (fun H_14 locs_14 hh_14 => ?_)
    clear hh_12
    refine lv_aload_n hx hb dX10_isArity_36 rfl (lv_at hl 0 rfl) ?_
    refine j7_read hx hb hown hK (C := RX10) (T := TX10) (N := 11) rfl hly_12_8 (hts (.fieldLink RX10 92 "ProofServer$Syntax" "terms" "I") (by decide +kernel)) (hh_14.at 1 rfl) dX10_isArity_37 ?_
    refine lv_if_lt (tgt := 55) hx hb dX10_isArity_40 (by decide) (fun c_15 => ?_) (fun c_15 => ?_)
    · skip
      have c_15' : z_11.toInt < 0 := jb_lt (rfl) ((by decide)) c_15
      refine lv_iconst (v := 0) hx hb dX10_isArity_55 (by decide) ?_
      rw [hQ]
      exact W.zret (v := 0) hx hb hr (jb_nz (Or.inl rfl)) (fun t ht hW => ⟨⟨0, z_13, rfl, ⟨(Or.inl rfl), by first | omega | (refine ⟨?_, ?_⟩ <;> (first | omega | rfl | assumption | decide | exact Or.inl rfl | exact Or.inr rfl | (simp only; omega)))⟩, hh_14.rt (M1 := [(r0, 12, 4, .int z_13)]) [0] rfl ht⟩, by rw [ht]; try exact hh_14.1.1, fun q h9 hq => by rw [ht]; try exact hh_14.1.2.1 q h9 hq⟩) hh_14.1.2.2 dX10_isArity_56
    · skip
      have c_15' : z_11.toInt ≥ 0 := jb_lt_n (rfl) ((by decide)) c_15
      refine lv_aload_n hx hb dX10_isArity_43 rfl (lv_at hl 0 rfl) ?_
      refine j7_read hx hb hown hK (C := RX10) (T := TX10) (N := 11) rfl hly_12_8 (hts (.fieldLink RX10 92 "ProofServer$Syntax" "terms" "I") (by decide +kernel)) (hh_14.at 1 rfl) dX10_isArity_44 ?_
      refine lv_iconst (v := 3) hx hb dX10_isArity_47 (by decide) ?_
      refine lv_icmp_gt (tgt := 55) hx hb dX10_isArity_48 (by decide) (fun c_16 => ?_) (fun c_16 => ?_)
      · skip
        have c_16' : z_11.toInt > 3 := jb_gt (rfl) ((by decide)) c_16
        refine lv_iconst (v := 0) hx hb dX10_isArity_55 (by decide) ?_
        rw [hQ]
        exact W.zret (v := 0) hx hb hr (jb_nz (Or.inl rfl)) (fun t ht hW => ⟨⟨0, z_13, rfl, ⟨(Or.inl rfl), by first | omega | (refine ⟨?_, ?_⟩ <;> (first | omega | rfl | assumption | decide | exact Or.inl rfl | exact Or.inr rfl | (simp only; omega)))⟩, hh_14.rt (M1 := [(r0, 12, 4, .int z_13)]) [0] rfl ht⟩, by rw [ht]; try exact hh_14.1.1, fun q h9 hq => by rw [ht]; try exact hh_14.1.2.1 q h9 hq⟩) hh_14.1.2.2 dX10_isArity_56
      · skip
        have c_16' : z_11.toInt ≤ 3 := jb_gt_n (rfl) ((by decide)) c_16
        refine lv_iconst (v := 1) hx hb dX10_isArity_51 (by decide) ?_
        refine lv_goto (tgt := 56) hx hb dX10_isArity_52 (by decide) ?_
        rw [hQ]
        exact W.zret (v := 1) hx hb hr (jb_nz (Or.inr rfl)) (fun t ht hW => ⟨⟨1, z_13, rfl, ⟨(Or.inr rfl), by first | omega | (refine ⟨?_, ?_⟩ <;> (first | omega | rfl | assumption | decide | exact Or.inl rfl | exact Or.inr rfl | (simp only; omega)))⟩, hh_14.rt (M1 := [(r0, 12, 4, .int z_13)]) [0] rfl ht⟩, by rw [ht]; try exact hh_14.1.1, fun q h9 hq => by rw [ht]; try exact hh_14.1.2.1 q h9 hq⟩) hh_14.1.2.2 dX10_isArity_56
set_option maxHeartbeats 4000000 in
set_option maxRecDepth 20000 in
theorem uX10_addNode (l : Launch) (dC : Nat → ClassId) (dI : Nat → Nat → Nat) (ca : Nat → ClassId) (base : Nat) (B : jF) (hB : jBok B) (hAp : jAp (dC, dI)) (hB12 : ∀ n G a H, B 12 n G a H ↔ jOb (dC, dI) 12 11 (F12 n G) a H) (hB101 : ∀ n G a H, B 101 n G a H ↔ jAr (dC, dI) (ca 1) (fun j z => True) n a H) (G0 : jT) (H0 : Heap) (r0 : Nat) (a1 : Int32) (nc : Int32) : Met l yX10_addNode wsX10_addNode ({ frames := 0, cells := 0, slots := 0, locals := 0 }) (va_Pc [.ref r0, .int a1] (fun U => U.heap = H0 ∧ jX B base G0 [] H0 ∧ jG dC dI ca base U ∧ G0 r0 = some (12, 0) ∧ jP (dC, dI) G0 H0 [(r0, 12, 10, .int nc)] ∧ 0 ≤ nc.toInt ∧ nc.toInt ≤ 3000)) (va_Qi (S := Int32) (fun r u => (r = 0 ∨ r = 1) ∧ (((r.toInt = 0 ∧ u.toInt = nc.toInt) ∨ u.toInt = nc.toInt + 1) ∧ u.toInt ≤ 3000)) (fun u t => jRt (dC, dI) B base G0 EX10_addNode H0 [(r0, 12, 10, .int u)] t.heap) (jA base)) 0 0 (jA base) := by
  refine Met.ofW (cc := cX10_addNode) (maxL := 2) (ret := (some .boolean)) (by decide) rfl ?_
  intro p e s m args below meth c s₁ Bd hml hv
  obtain ⟨rfl, hH0, hX, hG, hg_r0, hP0, hp0, hp1⟩ := hv
  have hK := hG.1
  have hx := Bd.exec
  have hb := Bd.bytes
  have hr := Bd.returns
  have hts := atoms_spec (ws := wsX10_addNode) Bd.pre
  have hown : s.vm.findClass RX10 = some m.cls := findClass_of_methodNamed Bd.named
  have hlocks := Bd.notSynchronized
  obtain ⟨Q, hQ⟩ : ∃ Q, Q = MQ below (va_Qi (S := Int32) (fun r u => (r = 0 ∨ r = 1) ∧ (((r.toInt = 0 ∧ u.toInt = nc.toInt) ∨ u.toInt = nc.toInt + 1) ∧ u.toInt ≤ 3000)) (fun u t => jRt (dC, dI) B base G0 EX10_addNode H0 [(r0, 12, 10, .int u)] t.heap) (jA base)) ([.ref r0, .int a1] : List Value).toArray s 0 0 (jA base) := ⟨_, rfl⟩
  rw [← hQ]
  have hl := lv_entry ([.ref r0, .int a1]) (n := 2) (Nat.le_of_ble_eq_true rfl)
  rw [lg_entry_eq]
  generalize (lg_sl ([.ref r0, .int a1]) ++ List.replicate (2 - (lg_sl ([.ref r0, .int a1])).length) Slot.unset).toArray = ls at hl ⊢
  have hl : lv_has ls 2 [(0, .ref r0), (1, .int a1)] := hl
  generalize hR : (headSpec wsX10_addNode ({ frames := 0, cells := 0, slots := 0, locals := 0 })).room = R
  subst hH0
  have hh : jSt (dC, dI) B base G0 G0 EX10_addNode s.heap 0 0 [(r0, 12, 10, .int nc)] [] [] s.heap [] := jSt.start hX hP0 jMc.nil jIs.nil
  clear hX hP0
  have hk0 : (0 : Int32).toInt = 0 := by decide
  have hk1 : (1 : Int32).toInt = 1 := by decide
  have hk3000 : (3000 : Int32).toInt = 3000 := by decide
  have hly_12_9 := hts (u_lay RX10 TX10 9) (by decide +kernel)
  have hly_12_10 := hts (u_lay RX10 TX10 10) (by decide +kernel)
  have hrg_a1 := jb_rng a1
  refine lv_aload_n hx hb dX10_addNode_0 rfl (lv_at hl 0 rfl) ?_
  refine j7_read hx hb hown hK (C := RX10) (T := TX10) (N := 11) rfl hly_12_10 (hts (.fieldLink RX10 89 "ProofServer$Syntax" "nodeCount" "I") (by decide +kernel)) (hh.at 0 rfl) dX10_addNode_1 ?_
  refine lv_sipush (v := 3000) hx hb dX10_addNode_4 (by decide) ?_
  refine lv_icmp_lt (tgt := 12) hx hb dX10_addNode_7 (by decide) (fun c_1 => ?_) (fun c_1 => ?_)
  · skip
    have c_1' : nc.toInt < 3000 := jb_lt (rfl) ((by decide)) c_1
    refine lv_aload_n hx hb dX10_addNode_12 rfl (lv_at hl 0 rfl) ?_
    obtain ⟨v_2, hv_2, hh_3⟩ := hh.pin (C := RX10) (T := TX10) (N := 11) hB12 rfl (by decide) hg_r0 (i := 9) (by decide) rfl
    clear hh
    obtain ⟨nodes_4, rfl, hg_nodes_4⟩ := hv_2
    refine j7_read hx hb hown hK (C := RX10) (T := TX10) (N := 11) rfl hly_12_9 (hts (.fieldLink RX10 21 "ProofServer$Syntax" "nodes" "[I") (by decide +kernel)) (hh_3.at 0 rfl) dX10_addNode_13 ?_
    refine lv_aload_n hx hb dX10_addNode_16 rfl (lv_at hl 0 rfl) ?_
    refine j7_read hx hb hown hK (C := RX10) (T := TX10) (N := 11) rfl hly_12_10 (hts (.fieldLink RX10 89 "ProofServer$Syntax" "nodeCount" "I") (by decide +kernel)) (hh_3.at 1 rfl) dX10_addNode_17 ?_
    refine lv_iload_n hx hb dX10_addNode_20 rfl (lv_at hl 1 rfl) ?_
    refine j7_iast hx hb hK hh_3 hB hB101 1 rfl (by decide) (by decide) rfl rfl rfl hg_nodes_4 (rfl) (by omega) (trivial) dX10_addNode_21 (fun H_5 locs_5 hh_5 => ?_)
    clear hh_3
    refine lv_aload_n hx hb dX10_addNode_22 rfl (lv_at hl 0 rfl) ?_
    refine lv_dup hx hb dX10_addNode_23 rfl ?_
    refine j7_read hx hb hown hK (C := RX10) (T := TX10) (N := 11) rfl hly_12_10 (hts (.fieldLink RX10 89 "ProofServer$Syntax" "nodeCount" "I") (by decide +kernel)) (hh_5.at 1 rfl) dX10_addNode_24 ?_
    refine lv_iconst (v := 1) hx hb dX10_addNode_27 (by decide) ?_
    refine lv_iadd hx hb dX10_addNode_28 ?_
    refine lv_topi (fun z_6 ez_6 => ?_)
    have hz_6 : z_6.toInt = nc.toInt + 1 := by rw [ez_6]; exact jb_iadd2 (rfl) ((by decide)) (by omega)
    refine j7_put hx hb hown hK hh_5 hB hAp hB12 (C := RX10) (T := TX10) (N := 11) rfl (by decide) hg_r0 (i := 10) (by decide) hly_12_10 rfl (hts (.fieldLink RX10 89 "ProofServer$Syntax" "nodeCount" "I") (by decide +kernel)) rfl (ty := .int) (v := .int z_6) (by decide +kernel) rfl rfl (⟨_, rfl, by omega, by omega⟩) rfl (L1 := [(r0, 12, 9, .ref nodes_4)]) [0] rfl rfl rfl dX10_addNode_29 (fun H_7 locs_7 hh_7 => ?_)
    clear hh_5
    refine lv_iconst (v := 1) hx hb dX10_addNode_32 (by decide) ?_
    rw [hQ]
    exact W.zret (v := 1) hx hb hr (jb_nz (Or.inr rfl)) (fun t ht hW => ⟨⟨1, z_6, rfl, ⟨(Or.inr rfl), by first | omega | (refine ⟨?_, ?_⟩ <;> (first | omega | rfl | assumption | decide | exact Or.inl rfl | exact Or.inr rfl | (simp only; omega)))⟩, hh_7.rt (M1 := [(r0, 12, 10, .int z_6)]) [0] rfl ht⟩, by rw [ht]; try exact hh_7.1.1, fun q h9 hq => by rw [ht]; try exact hh_7.1.2.1 q h9 hq⟩) hh_7.1.2.2 dX10_addNode_33
  · skip
    have c_1' : nc.toInt ≥ 3000 := jb_lt_n (rfl) ((by decide)) c_1
    refine lv_iconst (v := 0) hx hb dX10_addNode_10 (by decide) ?_
    rw [hQ]
    exact W.zret (v := 0) hx hb hr (jb_nz (Or.inl rfl)) (fun t ht hW => ⟨⟨0, nc, rfl, ⟨(Or.inl rfl), by first | omega | (refine ⟨?_, ?_⟩ <;> (first | omega | rfl | assumption | decide | exact Or.inl rfl | exact Or.inr rfl | (simp only; omega)))⟩, hh.rt (M1 := [(r0, 12, 10, .int nc)]) [0] rfl ht⟩, by rw [ht]; try exact hh.1.1, fun q h9 hq => by rw [ht]; try exact hh.1.2.1 q h9 hq⟩) hh.1.2.2 dX10_addNode_11
set_option maxHeartbeats 4000000 in
set_option maxRecDepth 20000 in
theorem uX10_insertNode (l : Launch) (dC : Nat → ClassId) (dI : Nat → Nat → Nat) (ca : Nat → ClassId) (base : Nat) (B : jF) (hB : jBok B) (hAp : jAp (dC, dI)) (hB12 : ∀ n G a H, B 12 n G a H ↔ jOb (dC, dI) 12 11 (F12 n G) a H) (hB101 : ∀ n G a H, B 101 n G a H ↔ jAr (dC, dI) (ca 1) (fun j z => True) n a H) (G0 : jT) (H0 : Heap) (r0 : Nat) (a1 : Int32) (a2 : Int32) (nc : Int32) : Met l yX10_insertNode wsX10_insertNode ({ frames := 0, cells := 0, slots := 0, locals := 0 }) (va_Pc [.ref r0, .int a1, .int a2] (fun U => U.heap = H0 ∧ jX B base G0 [] H0 ∧ jG dC dI ca base U ∧ G0 r0 = some (12, 0) ∧ jP (dC, dI) G0 H0 [(r0, 12, 10, .int nc)] ∧ 0 ≤ nc.toInt ∧ nc.toInt ≤ 3000)) (va_Qi (S := Int32) (fun r u => (r = 0 ∨ r = 1) ∧ (((r.toInt = 0 ∧ u.toInt = nc.toInt) ∨ u.toInt = nc.toInt + 1) ∧ u.toInt ≤ 3000)) (fun u t => jRt (dC, dI) B base G0 EX10_insertNode H0 [(r0, 12, 10, .int u)] t.heap) (jA base)) 0 0 (jA base) := by
  refine Met.ofW (cc := cX10_insertNode) (maxL := 4) (ret := (some .boolean)) (by decide) rfl ?_
  intro p e s m args below meth c s₁ Bd hml hv
  obtain ⟨rfl, hH0, hX, hG, hg_r0, hP0, hp0, hp1⟩ := hv
  have hK := hG.1
  have hx := Bd.exec
  have hb := Bd.bytes
  have hr := Bd.returns
  have hts := atoms_spec (ws := wsX10_insertNode) Bd.pre
  have hown : s.vm.findClass RX10 = some m.cls := findClass_of_methodNamed Bd.named
  have hlocks := Bd.notSynchronized
  obtain ⟨Q, hQ⟩ : ∃ Q, Q = MQ below (va_Qi (S := Int32) (fun r u => (r = 0 ∨ r = 1) ∧ (((r.toInt = 0 ∧ u.toInt = nc.toInt) ∨ u.toInt = nc.toInt + 1) ∧ u.toInt ≤ 3000)) (fun u t => jRt (dC, dI) B base G0 EX10_insertNode H0 [(r0, 12, 10, .int u)] t.heap) (jA base)) ([.ref r0, .int a1, .int a2] : List Value).toArray s 0 0 (jA base) := ⟨_, rfl⟩
  rw [← hQ]
  have hl := lv_entry ([.ref r0, .int a1, .int a2]) (n := 4) (Nat.le_of_ble_eq_true rfl)
  rw [lg_entry_eq]
  generalize (lg_sl ([.ref r0, .int a1, .int a2]) ++ List.replicate (4 - (lg_sl ([.ref r0, .int a1, .int a2])).length) Slot.unset).toArray = ls at hl ⊢
  have hl : lv_has ls 4 [(0, .ref r0), (1, .int a1), (2, .int a2)] := hl
  generalize hR : (headSpec wsX10_insertNode ({ frames := 0, cells := 0, slots := 0, locals := 0 })).room = R
  subst hH0
  have hh : jSt (dC, dI) B base G0 G0 EX10_insertNode s.heap 0 0 [(r0, 12, 10, .int nc)] [] [] s.heap [] := jSt.start hX hP0 jMc.nil jIs.nil
  clear hX hP0
  have hk0 : (0 : Int32).toInt = 0 := by decide
  have hk1 : (1 : Int32).toInt = 1 := by decide
  have hk3000 : (3000 : Int32).toInt = 3000 := by decide
  have hly_12_9 := hts (u_lay RX10 TX10 9) (by decide +kernel)
  have hly_12_10 := hts (u_lay RX10 TX10 10) (by decide +kernel)
  have hrg_a1 := jb_rng a1
  have hrg_a2 := jb_rng a2
  refine lv_iload_n hx hb dX10_insertNode_0 rfl (lv_at hl 1 rfl) ?_
  refine lv_if_lt (tgt := 22) hx hb dX10_insertNode_1 (by decide) (fun c_1 => ?_) (fun c_1 => ?_)
  · skip
    have c_1' : a1.toInt < 0 := jb_lt (rfl) ((by decide)) c_1
    refine lv_iconst (v := 0) hx hb dX10_insertNode_22 (by decide) ?_
    rw [hQ]
    exact W.zret (v := 0) hx hb hr (jb_nz (Or.inl rfl)) (fun t ht hW => ⟨⟨0, nc, rfl, ⟨(Or.inl rfl), by first | omega | (refine ⟨?_, ?_⟩ <;> (first | omega | rfl | assumption | decide | exact Or.inl rfl | exact Or.inr rfl | (simp only; omega)))⟩, hh.rt (M1 := [(r0, 12, 10, .int nc)]) [0] rfl ht⟩, by rw [ht]; try exact hh.1.1, fun q h9 hq => by rw [ht]; try exact hh.1.2.1 q h9 hq⟩) hh.1.2.2 dX10_insertNode_23
  · skip
    have c_1' : a1.toInt ≥ 0 := jb_lt_n (rfl) ((by decide)) c_1
    refine lv_iload_n hx hb dX10_insertNode_4 rfl (lv_at hl 1 rfl) ?_
    refine lv_aload_n hx hb dX10_insertNode_5 rfl (lv_at hl 0 rfl) ?_
    refine j7_read hx hb hown hK (C := RX10) (T := TX10) (N := 11) rfl hly_12_10 (hts (.fieldLink RX10 89 "ProofServer$Syntax" "nodeCount" "I") (by decide +kernel)) (hh.at 0 rfl) dX10_insertNode_6 ?_
    refine lv_icmp_gt (tgt := 22) hx hb dX10_insertNode_9 (by decide) (fun c_2 => ?_) (fun c_2 => ?_)
    · skip
      have c_2' : a1.toInt > nc.toInt := jb_gt (rfl) (rfl) c_2
      refine lv_iconst (v := 0) hx hb dX10_insertNode_22 (by decide) ?_
      rw [hQ]
      exact W.zret (v := 0) hx hb hr (jb_nz (Or.inl rfl)) (fun t ht hW => ⟨⟨0, nc, rfl, ⟨(Or.inl rfl), by first | omega | (refine ⟨?_, ?_⟩ <;> (first | omega | rfl | assumption | decide | exact Or.inl rfl | exact Or.inr rfl | (simp only; omega)))⟩, hh.rt (M1 := [(r0, 12, 10, .int nc)]) [0] rfl ht⟩, by rw [ht]; try exact hh.1.1, fun q h9 hq => by rw [ht]; try exact hh.1.2.1 q h9 hq⟩) hh.1.2.2 dX10_insertNode_23
    · skip
      have c_2' : a1.toInt ≤ nc.toInt := jb_gt_n (rfl) (rfl) c_2
      refine lv_aload_n hx hb dX10_insertNode_12 rfl (lv_at hl 0 rfl) ?_
      refine j7_read hx hb hown hK (C := RX10) (T := TX10) (N := 11) rfl hly_12_10 (hts (.fieldLink RX10 89 "ProofServer$Syntax" "nodeCount" "I") (by decide +kernel)) (hh.at 0 rfl) dX10_insertNode_13 ?_
      refine lv_sipush (v := 3000) hx hb dX10_insertNode_16 (by decide) ?_
      refine lv_icmp_lt (tgt := 24) hx hb dX10_insertNode_19 (by decide) (fun c_3 => ?_) (fun c_3 => ?_)
      · skip
        have c_3' : nc.toInt < 3000 := jb_lt (rfl) ((by decide)) c_3
        refine lv_aload_n hx hb dX10_insertNode_24 rfl (lv_at hl 0 rfl) ?_
        refine j7_read hx hb hown hK (C := RX10) (T := TX10) (N := 11) rfl hly_12_10 (hts (.fieldLink RX10 89 "ProofServer$Syntax" "nodeCount" "I") (by decide +kernel)) (hh.at 0 rfl) dX10_insertNode_25 ?_
        refine lv_istore_n (lv' := [(3, .int nc), (0, .ref r0), (1, .int a1), (2, .int a2)]) hx hb dX10_insertNode_28 rfl hl (by decide) rfl (fun ls hl => ?_)
        have L29 : ∀ (N : Nat) (v3_4 : Int32) (H_4 : Heap) (locs_4 : List Loc), jSt (dC, dI) B base G0 G0 EX10_insertNode s.heap 0 0 [(r0, 12, 10, .int nc)] [] [] H_4 locs_4 → (a1.toInt ≤ v3_4.toInt ∧ v3_4.toInt ≤ 2999) → (v3_4.toInt - a1.toInt : Int) < N → ∀ ls : Array Slot, lv_has ls 4 [(0, .ref r0), (1, .int a1), (2, .int a2), (3, .int v3_4)] → W p l e R s m ([.ref r0, .int a1, .int a2] : List Value).toArray below meth c H_4 locs_4 0 0 Q (F0 m 29 ls []) := by
          intro N
          induction N with
          | zero => intro v3_4 H_4 locs_4 hh_4  hi_4 hm; exact absurd hm (by omega)
          | succ N L29 =>
            intro v3_4 H_4 locs_4 hh_4  hi_4 hm_4 ls hl
            obtain ⟨hi_4_0, hi_4_1⟩ := hi_4
            refine lv_iload_n hx hb dX10_insertNode_29 rfl (lv_at hl 3 rfl) ?_
            refine lv_iload_n hx hb dX10_insertNode_30 rfl (lv_at hl 1 rfl) ?_
            refine lv_icmp_le (tgt := 54) hx hb dX10_insertNode_31 (by decide) (fun c_5 => ?_) (fun c_5 => ?_)
            · skip
              have c_5' : v3_4.toInt ≤ a1.toInt := jb_le (rfl) (rfl) c_5
              refine lv_aload_n hx hb dX10_insertNode_54 rfl (lv_at hl 0 rfl) ?_
              obtain ⟨v_6, hv_6, hh_7⟩ := hh_4.pin (C := RX10) (T := TX10) (N := 11) hB12 rfl (by decide) hg_r0 (i := 9) (by decide) rfl
              clear hh_4
              obtain ⟨nodes_8, rfl, hg_nodes_8⟩ := hv_6
              refine j7_read hx hb hown hK (C := RX10) (T := TX10) (N := 11) rfl hly_12_9 (hts (.fieldLink RX10 21 "ProofServer$Syntax" "nodes" "[I") (by decide +kernel)) (hh_7.at 0 rfl) dX10_insertNode_55 ?_
              refine lv_iload_n hx hb dX10_insertNode_58 rfl (lv_at hl 1 rfl) ?_
              refine lv_iload_n hx hb dX10_insertNode_59 rfl (lv_at hl 2 rfl) ?_
              refine j7_iast hx hb hK hh_7 hB hB101 1 rfl (by decide) (by decide) rfl rfl rfl hg_nodes_8 (rfl) (by omega) (trivial) dX10_insertNode_60 (fun H_9 locs_9 hh_9 => ?_)
              clear hh_7
              refine lv_aload_n hx hb dX10_insertNode_61 rfl (lv_at hl 0 rfl) ?_
              refine lv_dup hx hb dX10_insertNode_62 rfl ?_
              refine j7_read hx hb hown hK (C := RX10) (T := TX10) (N := 11) rfl hly_12_10 (hts (.fieldLink RX10 89 "ProofServer$Syntax" "nodeCount" "I") (by decide +kernel)) (hh_9.at 1 rfl) dX10_insertNode_63 ?_
              refine lv_iconst (v := 1) hx hb dX10_insertNode_66 (by decide) ?_
              refine lv_iadd hx hb dX10_insertNode_67 ?_
              refine lv_topi (fun z_10 ez_10 => ?_)
              have hz_10 : z_10.toInt = nc.toInt + 1 := by rw [ez_10]; exact jb_iadd2 (rfl) ((by decide)) (by omega)
              refine j7_put hx hb hown hK hh_9 hB hAp hB12 (C := RX10) (T := TX10) (N := 11) rfl (by decide) hg_r0 (i := 10) (by decide) hly_12_10 rfl (hts (.fieldLink RX10 89 "ProofServer$Syntax" "nodeCount" "I") (by decide +kernel)) rfl (ty := .int) (v := .int z_10) (by decide +kernel) rfl rfl (⟨_, rfl, by omega, by omega⟩) rfl (L1 := [(r0, 12, 9, .ref nodes_8)]) [0] rfl rfl rfl dX10_insertNode_68 (fun H_11 locs_11 hh_11 => ?_)
              clear hh_9
              refine lv_iconst (v := 1) hx hb dX10_insertNode_71 (by decide) ?_
              rw [hQ]
              exact W.zret (v := 1) hx hb hr (jb_nz (Or.inr rfl)) (fun t ht hW => ⟨⟨1, z_10, rfl, ⟨(Or.inr rfl), by first | omega | (refine ⟨?_, ?_⟩ <;> (first | omega | rfl | assumption | decide | exact Or.inl rfl | exact Or.inr rfl | (simp only; omega)))⟩, hh_11.rt (M1 := [(r0, 12, 10, .int z_10)]) [0] rfl ht⟩, by rw [ht]; try exact hh_11.1.1, fun q h9 hq => by rw [ht]; try exact hh_11.1.2.1 q h9 hq⟩) hh_11.1.2.2 dX10_insertNode_72
            · skip
              have c_5' : v3_4.toInt > a1.toInt := jb_le_n (rfl) (rfl) c_5
              refine lv_aload_n hx hb dX10_insertNode_34 rfl (lv_at hl 0 rfl) ?_
              obtain ⟨v_12, hv_12, hh_13⟩ := hh_4.pin (C := RX10) (T := TX10) (N := 11) hB12 rfl (by decide) hg_r0 (i := 9) (by decide) rfl
              clear hh_4
              obtain ⟨nodes_14, rfl, hg_nodes_14⟩ := hv_12
              refine j7_read hx hb hown hK (C := RX10) (T := TX10) (N := 11) rfl hly_12_9 (hts (.fieldLink RX10 21 "ProofServer$Syntax" "nodes" "[I") (by decide +kernel)) (hh_13.at 0 rfl) dX10_insertNode_35 ?_
              refine lv_iload_n hx hb dX10_insertNode_38 rfl (lv_at hl 3 rfl) ?_
              refine lv_aload_n hx hb dX10_insertNode_39 rfl (lv_at hl 0 rfl) ?_
              refine j7_read hx hb hown hK (C := RX10) (T := TX10) (N := 11) rfl hly_12_9 (hts (.fieldLink RX10 21 "ProofServer$Syntax" "nodes" "[I") (by decide +kernel)) (hh_13.at 0 rfl) dX10_insertNode_40 ?_
              refine lv_iload_n hx hb dX10_insertNode_43 rfl (lv_at hl 3 rfl) ?_
              refine lv_iconst (v := 1) hx hb dX10_insertNode_44 (by decide) ?_
              refine lv_isub hx hb dX10_insertNode_45 ?_
              refine lv_topi (fun z_15 ez_15 => ?_)
              have hz_15 : z_15.toInt = v3_4.toInt - 1 := by rw [ez_15]; exact jb_isub2 (rfl) ((by decide)) (by omega)
              refine j7_iald hx hb hK hh_13 hB101 1 rfl (by decide) hg_nodes_14 (rfl) (by omega) dX10_insertNode_46 (fun z_16 (hz_16 : True) => ?_)
              refine j7_iast hx hb hK hh_13 hB hB101 1 rfl (by decide) (by decide) rfl rfl rfl hg_nodes_14 (rfl) (by omega) (trivial) dX10_insertNode_47 (fun H_17 locs_17 hh_17 => ?_)
              clear hh_13
              obtain ⟨z_18, ez_18⟩ : ∃ y : Int32, y = v3_4 + (-1) := ⟨_, rfl⟩
              refine lv_iinc (v := z_18) (lv' := [(3, .int z_18), (0, .ref r0), (1, .int a1), (2, .int a2)]) hx hb dX10_insertNode_48 hl (k := 3) rfl (by rw [ez_18]; rfl) (by decide) rfl (fun ls hl => ?_)
              have hz_18 : z_18.toInt = v3_4.toInt + (-1) := by rw [ez_18]; exact jb_iadd2 (rfl) (by decide) (by omega)
              refine lv_goto (tgt := 29) hx hb dX10_insertNode_51 (by decide) ?_
              exact L29 z_18 _ _ (hh_17.sub (L1 := [(r0, 12, 10, .int nc)]) [1] rfl (M1 := []) [] rfl (I1 := []) [] rfl) (by first | omega | (refine ⟨?_, ?_⟩ <;> (first | omega | rfl | assumption | decide | exact Or.inl rfl | exact Or.inr rfl | (simp only; omega)))) (by omega) _ (lv_sub hl [1, 2, 3, 0] rfl)
        exact L29 ((nc : Int32).toInt - a1.toInt : Int).toNat.succ nc _ _ hh (by first | omega | (refine ⟨?_, ?_⟩ <;> (first | omega | rfl | assumption | decide | exact Or.inl rfl | exact Or.inr rfl | (simp only; omega)))) (by omega) _ (lv_sub hl [1, 2, 3, 0] rfl)
      · skip
        have c_3' : nc.toInt ≥ 3000 := jb_lt_n (rfl) ((by decide)) c_3
        refine lv_iconst (v := 0) hx hb dX10_insertNode_22 (by decide) ?_
        rw [hQ]
        exact W.zret (v := 0) hx hb hr (jb_nz (Or.inl rfl)) (fun t ht hW => ⟨⟨0, nc, rfl, ⟨(Or.inl rfl), by first | omega | (refine ⟨?_, ?_⟩ <;> (first | omega | rfl | assumption | decide | exact Or.inl rfl | exact Or.inr rfl | (simp only; omega)))⟩, hh.rt (M1 := [(r0, 12, 10, .int nc)]) [0] rfl ht⟩, by rw [ht]; try exact hh.1.1, fun q h9 hq => by rw [ht]; try exact hh.1.2.1 q h9 hq⟩) hh.1.2.2 dX10_insertNode_23
set_option maxHeartbeats 4000000 in
set_option maxRecDepth 20000 in
theorem uX10_add (l : Launch) (dC : Nat → ClassId) (dI : Nat → Nat → Nat) (ca : Nat → ClassId) (base : Nat) (B : jF) (hB : jBok B) (hAp : jAp (dC, dI)) (hB12 : ∀ n G a H, B 12 n G a H ↔ jOb (dC, dI) 12 11 (F12 n G) a H) (hB101 : ∀ n G a H, B 101 n G a H ↔ jAr (dC, dI) (ca 1) (fun j z => True) n a H) (G0 : jT) (H0 : Heap) (r0 : Nat) (a1 : Int32) (a2 : Int32) (tk : Int32) : Met l yX10_add wsX10_add ({ frames := 0, cells := 0, slots := 0, locals := 0 }) (va_Pc [.ref r0, .int a1, .int a2] (fun U => U.heap = H0 ∧ jX B base G0 [] H0 ∧ jG dC dI ca base U ∧ G0 r0 = some (12, 0) ∧ jP (dC, dI) G0 H0 [(r0, 12, 3, .int tk)] ∧ 0 ≤ tk.toInt ∧ tk.toInt ≤ 1500)) (va_Qv (S := Int32) (fun u => tk.toInt ≤ u.toInt ∧ u.toInt ≤ tk.toInt + 1 ∧ u.toInt ≤ 1500) (fun u t => jRt (dC, dI) B base G0 EX10_add H0 [(r0, 12, 3, .int u)] t.heap) (jA base)) 0 0 (jA base) := by
  refine Met.ofW (cc := cX10_add) (maxL := 3) (ret := none) (by decide) rfl ?_
  intro p e s m args below meth c s₁ Bd hml hv
  obtain ⟨rfl, hH0, hX, hG, hg_r0, hP0, hp0, hp1⟩ := hv
  have hK := hG.1
  have hx := Bd.exec
  have hb := Bd.bytes
  have hr := Bd.returns
  have hts := atoms_spec (ws := wsX10_add) Bd.pre
  have hown : s.vm.findClass RX10 = some m.cls := findClass_of_methodNamed Bd.named
  have hlocks := Bd.notSynchronized
  obtain ⟨Q, hQ⟩ : ∃ Q, Q = MQ below (va_Qv (S := Int32) (fun u => tk.toInt ≤ u.toInt ∧ u.toInt ≤ tk.toInt + 1 ∧ u.toInt ≤ 1500) (fun u t => jRt (dC, dI) B base G0 EX10_add H0 [(r0, 12, 3, .int u)] t.heap) (jA base)) ([.ref r0, .int a1, .int a2] : List Value).toArray s 0 0 (jA base) := ⟨_, rfl⟩
  rw [← hQ]
  have hl := lv_entry ([.ref r0, .int a1, .int a2]) (n := 3) (Nat.le_of_ble_eq_true rfl)
  rw [lg_entry_eq]
  generalize (lg_sl ([.ref r0, .int a1, .int a2]) ++ List.replicate (3 - (lg_sl ([.ref r0, .int a1, .int a2])).length) Slot.unset).toArray = ls at hl ⊢
  have hl : lv_has ls 3 [(0, .ref r0), (1, .int a1), (2, .int a2)] := hl
  generalize hR : (headSpec wsX10_add ({ frames := 0, cells := 0, slots := 0, locals := 0 })).room = R
  subst hH0
  have hh : jSt (dC, dI) B base G0 G0 EX10_add s.heap 0 0 [(r0, 12, 3, .int tk)] [] [] s.heap [] := jSt.start hX hP0 jMc.nil jIs.nil
  clear hX hP0
  have hk0 : (0 : Int32).toInt = 0 := by decide
  have hk1 : (1 : Int32).toInt = 1 := by decide
  have hk1500 : (1500 : Int32).toInt = 1500 := by decide
  have hly_12_1 := hts (u_lay RX10 TX10 1) (by decide +kernel)
  have hly_12_2 := hts (u_lay RX10 TX10 2) (by decide +kernel)
  have hly_12_3 := hts (u_lay RX10 TX10 3) (by decide +kernel)
  have hrg_a1 := jb_rng a1
  have hrg_a2 := jb_rng a2
  refine lv_aload_n hx hb dX10_add_0 rfl (lv_at hl 0 rfl) ?_
  refine j7_read hx hb hown hK (C := RX10) (T := TX10) (N := 11) rfl hly_12_3 (hts (.fieldLink RX10 28 "ProofServer$Syntax" "tokens" "I") (by decide +kernel)) (hh.at 0 rfl) dX10_add_1 ?_
  refine lv_sipush (v := 1500) hx hb dX10_add_4 (by decide) ?_
  refine lv_icmp_ge (tgt := 40) hx hb dX10_add_7 (by decide) (fun c_1 => ?_) (fun c_1 => ?_)
  · skip
    have c_1' : tk.toInt ≥ 1500 := jb_ge (rfl) ((by decide)) c_1
    rw [hQ]
    exact W.vret hx hb hr (fun t ht hW => ⟨⟨tk, rfl, by first | omega | (refine ⟨?_, ?_, ?_⟩ <;> (first | omega | rfl | assumption | decide | exact Or.inl rfl | exact Or.inr rfl | (simp only; omega))), hh.rt (M1 := [(r0, 12, 3, .int tk)]) [0] rfl ht⟩, by rw [ht]; try exact hh.1.1, fun q h9 hq => by rw [ht]; try exact hh.1.2.1 q h9 hq⟩) hh.1.2.2 dX10_add_40
  · skip
    have c_1' : tk.toInt < 1500 := jb_ge_n (rfl) ((by decide)) c_1
    refine lv_aload_n hx hb dX10_add_10 rfl (lv_at hl 0 rfl) ?_
    obtain ⟨v_2, hv_2, hh_3⟩ := hh.pin (C := RX10) (T := TX10) (N := 11) hB12 rfl (by decide) hg_r0 (i := 1) (by decide) rfl
    clear hh
    obtain ⟨kinds_4, rfl, hg_kinds_4⟩ := hv_2
    refine j7_read hx hb hown hK (C := RX10) (T := TX10) (N := 11) rfl hly_12_1 (hts (.fieldLink RX10 9 "ProofServer$Syntax" "kinds" "[I") (by decide +kernel)) (hh_3.at 0 rfl) dX10_add_11 ?_
    refine lv_aload_n hx hb dX10_add_14 rfl (lv_at hl 0 rfl) ?_
    refine j7_read hx hb hown hK (C := RX10) (T := TX10) (N := 11) rfl hly_12_3 (hts (.fieldLink RX10 28 "ProofServer$Syntax" "tokens" "I") (by decide +kernel)) (hh_3.at 1 rfl) dX10_add_15 ?_
    refine lv_iload_n hx hb dX10_add_18 rfl (lv_at hl 1 rfl) ?_
    refine j7_iast hx hb hK hh_3 hB hB101 1 rfl (by decide) (by decide) rfl rfl rfl hg_kinds_4 (rfl) (by omega) (trivial) dX10_add_19 (fun H_5 locs_5 hh_5 => ?_)
    clear hh_3
    refine lv_aload_n hx hb dX10_add_20 rfl (lv_at hl 0 rfl) ?_
    obtain ⟨v_6, hv_6, hh_7⟩ := hh_5.pin (C := RX10) (T := TX10) (N := 11) hB12 rfl (by decide) hg_r0 (i := 2) (by decide) rfl
    clear hh_5
    obtain ⟨values_8, rfl, hg_values_8⟩ := hv_6
    refine j7_read hx hb hown hK (C := RX10) (T := TX10) (N := 11) rfl hly_12_2 (hts (.fieldLink RX10 15 "ProofServer$Syntax" "values" "[I") (by decide +kernel)) (hh_7.at 0 rfl) dX10_add_21 ?_
    refine lv_aload_n hx hb dX10_add_24 rfl (lv_at hl 0 rfl) ?_
    refine j7_read hx hb hown hK (C := RX10) (T := TX10) (N := 11) rfl hly_12_3 (hts (.fieldLink RX10 28 "ProofServer$Syntax" "tokens" "I") (by decide +kernel)) (hh_7.at 2 rfl) dX10_add_25 ?_
    refine lv_iload_n hx hb dX10_add_28 rfl (lv_at hl 2 rfl) ?_
    refine j7_iast hx hb hK hh_7 hB hB101 1 rfl (by decide) (by decide) rfl rfl rfl hg_values_8 (rfl) (by omega) (trivial) dX10_add_29 (fun H_9 locs_9 hh_9 => ?_)
    clear hh_7
    refine lv_aload_n hx hb dX10_add_30 rfl (lv_at hl 0 rfl) ?_
    refine lv_dup hx hb dX10_add_31 rfl ?_
    refine j7_read hx hb hown hK (C := RX10) (T := TX10) (N := 11) rfl hly_12_3 (hts (.fieldLink RX10 28 "ProofServer$Syntax" "tokens" "I") (by decide +kernel)) (hh_9.at 2 rfl) dX10_add_32 ?_
    refine lv_iconst (v := 1) hx hb dX10_add_35 (by decide) ?_
    refine lv_iadd hx hb dX10_add_36 ?_
    refine lv_topi (fun z_10 ez_10 => ?_)
    have hz_10 : z_10.toInt = tk.toInt + 1 := by rw [ez_10]; exact jb_iadd2 (rfl) ((by decide)) (by omega)
    refine j7_put hx hb hown hK hh_9 hB hAp hB12 (C := RX10) (T := TX10) (N := 11) rfl (by decide) hg_r0 (i := 3) (by decide) hly_12_3 rfl (hts (.fieldLink RX10 28 "ProofServer$Syntax" "tokens" "I") (by decide +kernel)) rfl (ty := .int) (v := .int z_10) (by decide +kernel) rfl rfl (⟨_, rfl, by omega, by omega⟩) rfl (L1 := [(r0, 12, 2, .ref values_8), (r0, 12, 1, .ref kinds_4)]) [0, 1] rfl rfl rfl dX10_add_37 (fun H_11 locs_11 hh_11 => ?_)
    clear hh_9
    rw [hQ]
    exact W.vret hx hb hr (fun t ht hW => ⟨⟨z_10, rfl, by first | omega | (refine ⟨?_, ?_, ?_⟩ <;> (first | omega | rfl | assumption | decide | exact Or.inl rfl | exact Or.inr rfl | (simp only; omega))), hh_11.rt (M1 := [(r0, 12, 3, .int z_10)]) [0] rfl ht⟩, by rw [ht]; try exact hh_11.1.1, fun q h9 hq => by rw [ht]; try exact hh_11.1.2.1 q h9 hq⟩) hh_11.1.2.2 dX10_add_40
set_option maxHeartbeats 4000000 in
set_option maxRecDepth 20000 in
theorem uX10_scanName (l : Launch) (dC : Nat → ClassId) (dI : Nat → Nat → Nat) (ca : Nat → ClassId) (base : Nat) (B : jF) (hB : jBok B) (hAp : jAp (dC, dI)) (hB8 : ∀ n G a H, B 8 n G a H ↔ jOb (dC, dI) 8 4 (F8 n G) a H) (hB12 : ∀ n G a H, B 12 n G a H ↔ jOb (dC, dI) 12 11 (F12 n G) a H) (hB101 : ∀ n G a H, B 101 n G a H ↔ jAr (dC, dI) (ca 1) (fun j z => True) n a H) (hB102 : ∀ n G a H, B 102 n G a H ↔ jAl (dC, dI) (ca 2) n a H) (hB132 : ∀ n G a H, B 132 n G a H ↔ jAr (dC, dI) (ca 1) (fun j z => 0 ≤ z.toInt ∧ z.toInt ≤ 10) n a H) (hB133 : ∀ n G a H, B 133 n G a H ↔ jAr (dC, dI) (ca 1) (fun j z => 0 ≤ z.toInt ∧ z.toInt ≤ 8192) n a H) (G0 : jT) (H0 : Heap) (r0 : Nat) (r1 : Nat) (a2 : Int32) (a3 : Int32) (n1 : Nat) : Met l yX10_scanName wsX10_scanName ({ frames := 2, cells := 0, slots := 0, locals := 57 }) (va_Pc [.ref r0, .ref r1, .int a2, .int a3] (fun U => U.heap = H0 ∧ jX B base G0 [] H0 ∧ jG dC dI ca base U ∧ G0 r1 = some (101, n1) ∧ G0 r0 = some (12, 0) ∧ jP (dC, dI) G0 H0 [] ∧ 0 ≤ a2.toInt ∧ a2.toInt < a3.toInt ∧ a3.toInt ≤ n1 ∧ n1 < 1000000)) (va_Qi (S := Unit) (fun r u => (a2.toInt < r.toInt ∧ r.toInt ≤ a3.toInt)) (fun u t => jRt (dC, dI) B base G0 EX10_scanName H0 [] t.heap) (jA base)) 0 0 (jA base) := by
  refine Met.ofW (cc := cX10_scanName) (maxL := 6) (ret := (some .int)) (by decide) rfl ?_
  intro p e s m args below meth c s₁ Bd hml hv
  obtain ⟨rfl, hH0, hX, hG, hg_r1, hg_r0, hP0, hp0, hp1, hp2, hp3⟩ := hv
  have hK := hG.1
  have hx := Bd.exec
  have hb := Bd.bytes
  have hr := Bd.returns
  have hts := atoms_spec (ws := wsX10_scanName) Bd.pre
  have hown : s.vm.findClass RX10 = some m.cls := findClass_of_methodNamed Bd.named
  have hlocks := Bd.notSynchronized
  obtain ⟨Q, hQ⟩ : ∃ Q, Q = MQ below (va_Qi (S := Unit) (fun r u => (a2.toInt < r.toInt ∧ r.toInt ≤ a3.toInt)) (fun u t => jRt (dC, dI) B base G0 EX10_scanName H0 [] t.heap) (jA base)) ([.ref r0, .ref r1, .int a2, .int a3] : List Value).toArray s 0 0 (jA base) := ⟨_, rfl⟩
  rw [← hQ]
  have hl := lv_entry ([.ref r0, .ref r1, .int a2, .int a3]) (n := 6) (Nat.le_of_ble_eq_true rfl)
  rw [lg_entry_eq]
  generalize (lg_sl ([.ref r0, .ref r1, .int a2, .int a3]) ++ List.replicate (6 - (lg_sl ([.ref r0, .ref r1, .int a2, .int a3])).length) Slot.unset).toArray = ls at hl ⊢
  have hl : lv_has ls 6 [(0, .ref r0), (1, .ref r1), (2, .int a2), (3, .int a3)] := hl
  generalize hR : (headSpec wsX10_scanName ({ frames := 2, cells := 0, slots := 0, locals := 57 })).room = R
  subst hH0
  have hh : jSt (dC, dI) B base G0 G0 EX10_scanName s.heap 0 0 [] [] [] s.heap [] := jSt.start hX hP0 jMc.nil jIs.nil
  clear hX hP0
  have hk0 : (0 : Int32).toInt = 0 := by decide
  have hk1 : (1 : Int32).toInt = 1 := by decide
  have hk10 : (10 : Int32).toInt = 10 := by decide
  have hk110 : (110 : Int32).toInt = 110 := by decide
  have hly_12_0 := hts (u_lay RX10 TX10 0) (by decide +kernel)
  have hrg_a2 := jb_rng a2
  have hrg_a3 := jb_rng a3
  refine lv_iload_n hx hb dX10_scanName_0 rfl (lv_at hl 2 rfl) ?_
  refine lv_iconst (v := 1) hx hb dX10_scanName_1 (by decide) ?_
  refine lv_iadd hx hb dX10_scanName_2 ?_
  refine lv_topi (fun z_1 ez_1 => ?_)
  have hz_1 : z_1.toInt = a2.toInt + 1 := by rw [ez_1]; exact jb_iadd2 (rfl) ((by decide)) (by omega)
  refine lv_istore (lv' := [(4, .int z_1), (0, .ref r0), (1, .ref r1), (2, .int a2), (3, .int a3)]) hx hb dX10_scanName_3 hl (by decide) rfl (fun ls hl => ?_)
  have L5 : ∀ (N : Nat) (v4_2 : Int32) (H_2 : Heap) (locs_2 : List Loc), jSt (dC, dI) B base G0 G0 EX10_scanName s.heap 0 0 [] [] [] H_2 locs_2 → (a2.toInt < v4_2.toInt ∧ v4_2.toInt ≤ a3.toInt) → (a3.toInt - v4_2.toInt : Int) < N → ∀ ls : Array Slot, lv_has ls 6 [(0, .ref r0), (1, .ref r1), (2, .int a2), (3, .int a3), (4, .int v4_2)] → W p l e R s m ([.ref r0, .ref r1, .int a2, .int a3] : List Value).toArray below meth c H_2 locs_2 0 0 Q (F0 m 5 ls []) := by
    intro N
    induction N with
    | zero => intro v4_2 H_2 locs_2 hh_2  hi_2 hm; exact absurd hm (by omega)
    | succ N L5 =>
      intro v4_2 H_2 locs_2 hh_2  hi_2 hm_2 ls hl
      obtain ⟨hi_2_0, hi_2_1⟩ := hi_2
      refine lv_iload hx hb dX10_scanName_5 (lv_at hl 4 rfl) ?_
      refine lv_iload_n hx hb dX10_scanName_7 rfl (lv_at hl 3 rfl) ?_
      refine lv_icmp_ge (tgt := 27) hx hb dX10_scanName_8 (by decide) (fun c_3 => ?_) (fun c_3 => ?_)
      · skip
        have c_3' : v4_2.toInt ≥ a3.toInt := jb_ge (rfl) (rfl) c_3
        refine lv_iload hx hb dX10_scanName_27 (lv_at hl 4 rfl) ?_
        refine lv_iload_n hx hb dX10_scanName_29 rfl (lv_at hl 2 rfl) ?_
        refine lv_isub hx hb dX10_scanName_30 ?_
        refine lv_topi (fun z_4 ez_4 => ?_)
        have hz_4 : z_4.toInt = v4_2.toInt - a2.toInt := by rw [ez_4]; exact jb_isub2 (rfl) (rfl) (by omega)
        refine lv_bipush (v := 10) hx hb dX10_scanName_31 (by decide) ?_
        refine lv_icmp_gt (tgt := 70) hx hb dX10_scanName_33 (by decide) (fun c_5 => ?_) (fun c_5 => ?_)
        · skip
          have c_5' : z_4.toInt > 10 := jb_gt (rfl) ((by decide)) c_5
          refine lv_iload_n hx hb dX10_scanName_70 rfl (lv_at hl 2 rfl) ?_
          refine lv_istore (lv' := [(5, .int a2), (0, .ref r0), (1, .ref r1), (2, .int a2), (3, .int a3), (4, .int v4_2)]) hx hb dX10_scanName_71 hl (by decide) rfl (fun ls hl => ?_)
          have L73 : ∀ (N : Nat) (v5_6 : Int32) (H_6 : Heap) (locs_6 : List Loc), jSt (dC, dI) B base G0 G0 EX10_scanName s.heap 0 0 [] [] [] H_6 locs_6 → (a2.toInt ≤ v5_6.toInt ∧ v5_6.toInt ≤ v4_2.toInt) → (v4_2.toInt - v5_6.toInt : Int) < N → ∀ ls : Array Slot, lv_has ls 6 [(0, .ref r0), (1, .ref r1), (2, .int a2), (3, .int a3), (4, .int v4_2), (5, .int v5_6)] → W p l e R s m ([.ref r0, .ref r1, .int a2, .int a3] : List Value).toArray below meth c H_6 locs_6 0 0 Q (F0 m 73 ls []) := by
            intro N
            induction N with
            | zero => intro v5_6 H_6 locs_6 hh_6  hi_6 hm; exact absurd hm (by omega)
            | succ N L73 =>
              intro v5_6 H_6 locs_6 hh_6  hi_6 hm_6 ls hl
              obtain ⟨hi_6_0, hi_6_1⟩ := hi_6
              refine lv_iload hx hb dX10_scanName_73 (lv_at hl 5 rfl) ?_
              refine lv_iload hx hb dX10_scanName_75 (lv_at hl 4 rfl) ?_
              refine lv_icmp_ge (tgt := 92) hx hb dX10_scanName_77 (by decide) (fun c_7 => ?_) (fun c_7 => ?_)
              · skip
                have c_7' : v5_6.toInt ≥ v4_2.toInt := jb_ge (rfl) (rfl) c_7
                refine lv_iload hx hb dX10_scanName_92 (lv_at hl 4 rfl) ?_
                rw [hQ]
                exact W.iret (v := v4_2) hx hb hr (fun t ht hW => ⟨⟨v4_2, (), rfl, by first | omega | (refine ⟨?_, ?_⟩ <;> (first | omega | rfl | assumption | decide | exact Or.inl rfl | exact Or.inr rfl | (simp only; omega))), hh_6.rt (M1 := []) [] rfl ht⟩, by rw [ht]; try exact hh_6.1.1, fun q h9 hq => by rw [ht]; try exact hh_6.1.2.1 q h9 hq⟩) hh_6.1.2.2 dX10_scanName_94
              · skip
                have c_7' : v5_6.toInt < v4_2.toInt := jb_ge_n (rfl) (rfl) c_7
                refine lv_aload_n hx hb dX10_scanName_80 rfl (lv_at hl 0 rfl) ?_
                refine lv_iconst (v := 0) hx hb dX10_scanName_81 (by decide) ?_
                refine lv_iconst (v := 0) hx hb dX10_scanName_82 (by decide) ?_
                obtain ⟨v_10, hv_10, hh_11⟩ := hh_6.pin (C := RX10) (T := TX10) (N := 11) hB12 rfl (by decide) hg_r0 (i := 3) (by decide) rfl
                obtain ⟨tokens_12, rfl, hlotokens_12, hhitokens_12⟩ := hv_10
                refine va_callv (A0 := jA base) (H0 := s.heap) (va_runV (As := [.int 0, .int 0]) (rest := []) ⟨hx, hb, hml, hown, hts⟩ (uX10_add l dC dI ca base B hB hAp hB12 hB101 G0 H_6 r0 0 0 tokens_12) (cwV 2 hts gX10_scanName_X10_add rfl rfl rfl (by decide +kernel) ⟨by rw [← hR]; exact Nat.le_of_ble_eq_true rfl, by rw [← hR]; exact Nat.le_of_ble_eq_true rfl⟩) ⟨fun a U g mk q => by obtain ⟨q0, q1, q2, qK, q10, q11, q12⟩ := q; exact ⟨q0, q1, q2, jG.calling g mk a qK, q10, q11, q12⟩, hh_11.recv (C := RX10) (T := TX10) (N := 11) hB12 rfl (by decide) hg_r0 hK, fun U hU hW => ⟨rfl, hU, hh_11.2.1, hG.step hW hU hh_11.1, hg_r0, (hh_11.2.2.1.sub (L1 := [(r0, 12, 3, .int tokens_12)]) [0] rfl), by first | omega | (refine ⟨?_, ?_⟩ <;> (first | omega | rfl | assumption | decide | exact Or.inl rfl | exact Or.inr rfl | (simp only; omega)))⟩⟩ rfl rfl hl.1 rfl (lv_room (Nat.le_of_ble_eq_true rfl)) dX10_scanName_83 ⟨Nat.zero_le _, Nat.zero_le _⟩) hh_11.1 (fun q _ h => h) (fun q h => h) (fun u_8 t_8 H_8 locs_8 ht_8 hvm_8 hr_9 hb_8 hz_8 hk_8 hS_8 => ?_)
                obtain ⟨qk_8, rfl⟩ : ∃ z, z = u_8 := ⟨_, rfl⟩
                rw [ht_8] at hb_8
                obtain ⟨hb_81, hb_82, hb_83, hb_84, hb_85⟩ := hb_8
                have hh_8 : jSt (dC, dI) B base G0 G0 EX10_scanName s.heap 0 0 [(r0, 12, 3, .int qk_8)] [] [] H_8 locs_8 := (hh_11.call hb_81 hb_82 hb_83 hb_84 hS_8 rfl (L1 := []) [] rfl rfl (M1 := []) [] rfl rfl (I1 := []) [] rfl rfl).more hb_85
                clear hh_11 ht_8 hvm_8 hz_8 hk_8 hS_8 hb_81 hb_82 hb_83 hb_84 hb_85
                obtain ⟨hr_9_0, hr_9_1, hr_9_2⟩ := hr_9
                obtain ⟨z_13, ez_13⟩ : ∃ y : Int32, y = v5_6 + 1 := ⟨_, rfl⟩
                refine lv_iinc (v := z_13) (lv' := [(5, .int z_13), (0, .ref r0), (1, .ref r1), (2, .int a2), (3, .int a3), (4, .int v4_2)]) hx hb dX10_scanName_86 hl (k := 5) rfl (by rw [ez_13]; rfl) (by decide) rfl (fun ls hl => ?_)
                have hz_13 : z_13.toInt = v5_6.toInt + 1 := by rw [ez_13]; exact jb_iadd2 (rfl) (by decide) (by omega)
                refine lv_goto (tgt := 73) hx hb dX10_scanName_89 (by decide) ?_
                exact L73 z_13 _ _ (hh_8.sub (L1 := []) [] rfl (M1 := []) [] rfl (I1 := []) [] rfl) (by first | omega | (refine ⟨?_, ?_⟩ <;> (first | omega | rfl | assumption | decide | exact Or.inl rfl | exact Or.inr rfl | (simp only; omega)))) (by omega) _ (lv_sub hl [1, 2, 3, 4, 5, 0] rfl)
          exact L73 (v4_2.toInt - (a2 : Int32).toInt : Int).toNat.succ a2 _ _ hh_2 (by first | omega | (refine ⟨?_, ?_⟩ <;> (first | omega | rfl | assumption | decide | exact Or.inl rfl | exact Or.inr rfl | (simp only; omega)))) (by omega) _ (lv_sub hl [1, 2, 3, 4, 5, 0] rfl)
        · skip
          have c_5' : z_4.toInt ≤ 10 := jb_gt_n (rfl) ((by decide)) c_5
          refine lv_aload_n hx hb dX10_scanName_36 rfl (lv_at hl 0 rfl) ?_
          obtain ⟨v_14, hv_14, hh_15⟩ := hh_2.pin (C := RX10) (T := TX10) (N := 11) hB12 rfl (by decide) hg_r0 (i := 0) (by decide) rfl
          clear hh_2
          obtain ⟨names_16, rfl, hg_names_16⟩ := hv_14
          refine j7_read hx hb hown hK (C := RX10) (T := TX10) (N := 11) rfl hly_12_0 (hts (.fieldLink RX10 24 "ProofServer$Syntax" "names" "LProofServer$Names;") (by decide +kernel)) (hh_15.at 0 rfl) dX10_scanName_37 ?_
          refine lv_aload_n hx hb dX10_scanName_40 rfl (lv_at hl 1 rfl) ?_
          refine lv_iload_n hx hb dX10_scanName_41 rfl (lv_at hl 2 rfl) ?_
          refine lv_iload hx hb dX10_scanName_42 (lv_at hl 4 rfl) ?_
          refine lv_iconst (v := 1) hx hb dX10_scanName_44 (by decide) ?_
          refine va_calli (A0 := jA base) (H0 := s.heap) (va_runV (As := [.ref r1, .int a2, .int v4_2, .int 1]) (rest := []) ⟨hx, hb, hml, hown, hts⟩ (uX6_numberOf l dC dI ca base B hB hAp hB8 hB101 hB102 hB132 hB133 G0 H_2 names_16 r1 a2 v4_2 1 n1) (cwV 4 hts gX10_scanName_X6_numberOf rfl rfl rfl (by decide +kernel) ⟨by rw [← hR]; exact Nat.le_of_ble_eq_true rfl, by rw [← hR]; exact Nat.le_of_ble_eq_true rfl⟩) ⟨fun a U g mk q => by obtain ⟨q0, q1, q2, qK, q10, q11, q12, q13⟩ := q; exact ⟨q0, q1, q2, jG.calling g mk a qK, q10, q11, q12, q13⟩, hh_15.recv (C := RX6) (T := TX6) (N := 4) hB8 rfl (by decide) hg_names_16 hK, fun U hU hW => ⟨rfl, hU, hh_15.2.1, hG.step hW hU hh_15.1, hg_r1, hg_names_16, jP.nil, by first | omega | rfl | assumption | decide | exact Or.inl rfl | exact Or.inr rfl | (simp only; omega)⟩⟩ rfl rfl hl.1 rfl (lv_room (Nat.le_of_ble_eq_true rfl)) dX10_scanName_45 ⟨Nat.zero_le _, Nat.zero_le _⟩) hh_15.1 (fun q _ h => h) (fun q h => h) (fun r_18 u_17 t_17 H_17 locs_17 ht_17 hvm_17 hr_18 hb_17 hz_17 hk_17 hS_17 => ?_)
          rw [ht_17] at hb_17
          obtain ⟨hb_171, hb_172, hb_173, hb_174, hb_175⟩ := hb_17
          have hh_17 : jSt (dC, dI) B base G0 G0 EX10_scanName s.heap 0 0 [(r0, 12, 0, .ref names_16)] [] [] H_17 locs_17 := (hh_15.call hb_171 hb_172 hb_173 hb_174 hS_17 rfl (L1 := [(r0, 12, 0, .ref names_16)]) [0] rfl rfl (M1 := []) [] rfl rfl (I1 := []) [] rfl rfl).more hb_175
          clear hh_15 ht_17 hvm_17 hz_17 hk_17 hS_17 hb_171 hb_172 hb_173 hb_174 hb_175
          obtain ⟨hr_18_0, hr_18_1⟩ := hr_18
          refine lv_istore (lv' := [(5, .int r_18), (0, .ref r0), (1, .ref r1), (2, .int a2), (3, .int a3), (4, .int v4_2)]) hx hb dX10_scanName_48 hl (by decide) rfl (fun ls hl => ?_)
          refine lv_aload_n hx hb dX10_scanName_50 rfl (lv_at hl 1 rfl) ?_
          refine lv_iload hx hb dX10_scanName_51 (lv_at hl 0 rfl) ?_
          refine lv_if_ge (tgt := 60) hx hb dX10_scanName_53 (by decide) (fun c_19 => ?_) (fun c_19 => ?_)
          · skip
            have c_19' : r_18.toInt ≥ 0 := jb_ge (rfl) ((by decide)) c_19
            refine lv_bipush (v := 110) hx hb dX10_scanName_60 (by decide) ?_
            refine lv_iload hx hb dX10_scanName_62 (lv_at hl 0 rfl) ?_
            obtain ⟨v_22, hv_22, hh_23⟩ := hh_17.pin (C := RX10) (T := TX10) (N := 11) hB12 rfl (by decide) hg_r0 (i := 3) (by decide) rfl
            obtain ⟨tokens_24, rfl, hlotokens_24, hhitokens_24⟩ := hv_22
            refine va_callv (A0 := jA base) (H0 := s.heap) (va_runV (As := [.int 110, .int r_18]) (rest := []) ⟨hx, hb, hml, hown, hts⟩ (uX10_add l dC dI ca base B hB hAp hB12 hB101 G0 H_17 r0 110 r_18 tokens_24) (cwV 2 hts gX10_scanName_X10_add rfl rfl rfl (by decide +kernel) ⟨by rw [← hR]; exact Nat.le_of_ble_eq_true rfl, by rw [← hR]; exact Nat.le_of_ble_eq_true rfl⟩) ⟨fun a U g mk q => by obtain ⟨q0, q1, q2, qK, q10, q11, q12⟩ := q; exact ⟨q0, q1, q2, jG.calling g mk a qK, q10, q11, q12⟩, hh_23.recv (C := RX10) (T := TX10) (N := 11) hB12 rfl (by decide) hg_r0 hK, fun U hU hW => ⟨rfl, hU, hh_23.2.1, hG.step hW hU hh_23.1, hg_r0, (hh_23.2.2.1.sub (L1 := [(r0, 12, 3, .int tokens_24)]) [0] rfl), by first | omega | (refine ⟨?_, ?_⟩ <;> (first | omega | rfl | assumption | decide | exact Or.inl rfl | exact Or.inr rfl | (simp only; omega)))⟩⟩ rfl rfl hl.1 rfl (lv_room (Nat.le_of_ble_eq_true rfl)) dX10_scanName_64 ⟨Nat.zero_le _, Nat.zero_le _⟩) hh_23.1 (fun q _ h => h) (fun q h => h) (fun u_20 t_20 H_20 locs_20 ht_20 hvm_20 hr_21 hb_20 hz_20 hk_20 hS_20 => ?_)
            obtain ⟨qk_20, rfl⟩ : ∃ z, z = u_20 := ⟨_, rfl⟩
            rw [ht_20] at hb_20
            obtain ⟨hb_201, hb_202, hb_203, hb_204, hb_205⟩ := hb_20
            have hh_20 : jSt (dC, dI) B base G0 G0 EX10_scanName s.heap 0 0 [(r0, 12, 3, .int qk_20), (r0, 12, 0, .ref names_16)] [] [] H_20 locs_20 := (hh_23.call hb_201 hb_202 hb_203 hb_204 hS_20 rfl (L1 := [(r0, 12, 0, .ref names_16)]) [1] rfl rfl (M1 := []) [] rfl rfl (I1 := []) [] rfl rfl).more hb_205
            clear hh_23 ht_20 hvm_20 hz_20 hk_20 hS_20 hb_201 hb_202 hb_203 hb_204 hb_205
            obtain ⟨hr_21_0, hr_21_1, hr_21_2⟩ := hr_21
            refine lv_goto (tgt := 92) hx hb dX10_scanName_67 (by decide) ?_
            refine lv_iload hx hb dX10_scanName_92 (lv_at hl 5 rfl) ?_
            rw [hQ]
            exact W.iret (v := v4_2) hx hb hr (fun t ht hW => ⟨⟨v4_2, (), rfl, by first | omega | (refine ⟨?_, ?_⟩ <;> (first | omega | rfl | assumption | decide | exact Or.inl rfl | exact Or.inr rfl | (simp only; omega))), hh_20.rt (M1 := []) [] rfl ht⟩, by rw [ht]; try exact hh_20.1.1, fun q h9 hq => by rw [ht]; try exact hh_20.1.2.1 q h9 hq⟩) hh_20.1.2.2 dX10_scanName_94
          · skip
            have c_19' : r_18.toInt < 0 := jb_ge_n (rfl) ((by decide)) c_19
            refine lv_iconst (v := 0) hx hb dX10_scanName_56 (by decide) ?_
            refine lv_goto (tgt := 62) hx hb dX10_scanName_57 (by decide) ?_
            refine lv_iload hx hb dX10_scanName_62 (lv_at hl 0 rfl) ?_
            obtain ⟨v_27, hv_27, hh_28⟩ := hh_17.pin (C := RX10) (T := TX10) (N := 11) hB12 rfl (by decide) hg_r0 (i := 3) (by decide) rfl
            obtain ⟨tokens_29, rfl, hlotokens_29, hhitokens_29⟩ := hv_27
            refine va_callv (A0 := jA base) (H0 := s.heap) (va_runV (As := [.int 0, .int r_18]) (rest := []) ⟨hx, hb, hml, hown, hts⟩ (uX10_add l dC dI ca base B hB hAp hB12 hB101 G0 H_17 r0 0 r_18 tokens_29) (cwV 2 hts gX10_scanName_X10_add rfl rfl rfl (by decide +kernel) ⟨by rw [← hR]; exact Nat.le_of_ble_eq_true rfl, by rw [← hR]; exact Nat.le_of_ble_eq_true rfl⟩) ⟨fun a U g mk q => by obtain ⟨q0, q1, q2, qK, q10, q11, q12⟩ := q; exact ⟨q0, q1, q2, jG.calling g mk a qK, q10, q11, q12⟩, hh_28.recv (C := RX10) (T := TX10) (N := 11) hB12 rfl (by decide) hg_r0 hK, fun U hU hW => ⟨rfl, hU, hh_28.2.1, hG.step hW hU hh_28.1, hg_r0, (hh_28.2.2.1.sub (L1 := [(r0, 12, 3, .int tokens_29)]) [0] rfl), by first | omega | (refine ⟨?_, ?_⟩ <;> (first | omega | rfl | assumption | decide | exact Or.inl rfl | exact Or.inr rfl | (simp only; omega)))⟩⟩ rfl rfl hl.1 rfl (lv_room (Nat.le_of_ble_eq_true rfl)) dX10_scanName_64 ⟨Nat.zero_le _, Nat.zero_le _⟩) hh_28.1 (fun q _ h => h) (fun q h => h) (fun u_25 t_25 H_25 locs_25 ht_25 hvm_25 hr_26 hb_25 hz_25 hk_25 hS_25 => ?_)
            obtain ⟨qk_25, rfl⟩ : ∃ z, z = u_25 := ⟨_, rfl⟩
            rw [ht_25] at hb_25
            obtain ⟨hb_251, hb_252, hb_253, hb_254, hb_255⟩ := hb_25
            have hh_25 : jSt (dC, dI) B base G0 G0 EX10_scanName s.heap 0 0 [(r0, 12, 3, .int qk_25), (r0, 12, 0, .ref names_16)] [] [] H_25 locs_25 := (hh_28.call hb_251 hb_252 hb_253 hb_254 hS_25 rfl (L1 := [(r0, 12, 0, .ref names_16)]) [1] rfl rfl (M1 := []) [] rfl rfl (I1 := []) [] rfl rfl).more hb_255
            clear hh_28 ht_25 hvm_25 hz_25 hk_25 hS_25 hb_251 hb_252 hb_253 hb_254 hb_255
            obtain ⟨hr_26_0, hr_26_1, hr_26_2⟩ := hr_26
            refine lv_goto (tgt := 92) hx hb dX10_scanName_67 (by decide) ?_
            refine lv_iload hx hb dX10_scanName_92 (lv_at hl 5 rfl) ?_
            rw [hQ]
            exact W.iret (v := v4_2) hx hb hr (fun t ht hW => ⟨⟨v4_2, (), rfl, by first | omega | (refine ⟨?_, ?_⟩ <;> (first | omega | rfl | assumption | decide | exact Or.inl rfl | exact Or.inr rfl | (simp only; omega))), hh_25.rt (M1 := []) [] rfl ht⟩, by rw [ht]; try exact hh_25.1.1, fun q h9 hq => by rw [ht]; try exact hh_25.1.2.1 q h9 hq⟩) hh_25.1.2.2 dX10_scanName_94
      · skip
        have c_3' : v4_2.toInt < a3.toInt := jb_ge_n (rfl) (rfl) c_3
        refine lv_aload_n hx hb dX10_scanName_11 rfl (lv_at hl 1 rfl) ?_
        refine lv_iload hx hb dX10_scanName_12 (lv_at hl 4 rfl) ?_
        refine j7_iald hx hb hK hh_2 hB101 1 rfl (by decide) hg_r1 (rfl) (by omega) dX10_scanName_14 (fun z_30 (hz_30 : True) => ?_)
        refine vp_callSi (va_Run.run (va_runSN (As := [.int z_30]) (rest := []) ⟨hx, hb, hml, hown, hts⟩ (kX6_signOf l dC dI ca base H_2 z_30) ⟨va_cnB 1 hts gX10_scanName_X6_signOf_n74 rfl rfl rfl (hG.2.2.1 RX10 74 yX6_signOf "ProofServer" (List.mem_of_getElem? (i := 1144) (by decide +kernel))) (hts (.initialized RX6) (by decide +kernel)) (by decide +kernel) ⟨by rw [← hR]; exact Nat.le_of_ble_eq_true rfl, by rw [← hR]; exact Nat.le_of_ble_eq_true rfl⟩, hts (.static yX6_signOf) (by decide +kernel), trivial⟩ ⟨fun a U g mk q => by obtain ⟨q0, q1, qK, q9⟩ := q; exact ⟨q0, q1, jG.calling g mk a qK, q9⟩, fun U hU hW => ⟨rfl, hU, hG.step hW hU hh_2.1, by first | trivial | omega | (constructor <;> omega)⟩⟩ rfl rfl hl.1 rfl (lv_room (Nat.le_of_ble_eq_true rfl)) dX10_scanName_15 ⟨Nat.zero_le _, Nat.zero_le _⟩)) (fun r_31 hr_31 => ?_)
        refine lv_if_lt (tgt := 27) hx hb dX10_scanName_18 (by decide) (fun c_32 => ?_) (fun c_32 => ?_)
        · skip
          have c_32' : r_31.toInt < 0 := jb_lt (rfl) ((by decide)) c_32
          refine lv_iload hx hb dX10_scanName_27 (lv_at hl 4 rfl) ?_
          refine lv_iload_n hx hb dX10_scanName_29 rfl (lv_at hl 2 rfl) ?_
          refine lv_isub hx hb dX10_scanName_30 ?_
          refine lv_topi (fun z_33 ez_33 => ?_)
          have hz_33 : z_33.toInt = v4_2.toInt - a2.toInt := by rw [ez_33]; exact jb_isub2 (rfl) (rfl) (by omega)
          refine lv_bipush (v := 10) hx hb dX10_scanName_31 (by decide) ?_
          refine lv_icmp_gt (tgt := 70) hx hb dX10_scanName_33 (by decide) (fun c_34 => ?_) (fun c_34 => ?_)
          · skip
            have c_34' : z_33.toInt > 10 := jb_gt (rfl) ((by decide)) c_34
            refine lv_iload_n hx hb dX10_scanName_70 rfl (lv_at hl 2 rfl) ?_
            refine lv_istore (lv' := [(5, .int a2), (0, .ref r0), (1, .ref r1), (2, .int a2), (3, .int a3), (4, .int v4_2)]) hx hb dX10_scanName_71 hl (by decide) rfl (fun ls hl => ?_)
            have L73 : ∀ (N : Nat) (v5_35 : Int32) (H_35 : Heap) (locs_35 : List Loc), jSt (dC, dI) B base G0 G0 EX10_scanName s.heap 0 0 [] [] [] H_35 locs_35 → (a2.toInt ≤ v5_35.toInt ∧ v5_35.toInt ≤ v4_2.toInt) → (v4_2.toInt - v5_35.toInt : Int) < N → ∀ ls : Array Slot, lv_has ls 6 [(0, .ref r0), (1, .ref r1), (2, .int a2), (3, .int a3), (4, .int v4_2), (5, .int v5_35)] → W p l e R s m ([.ref r0, .ref r1, .int a2, .int a3] : List Value).toArray below meth c H_35 locs_35 0 0 Q (F0 m 73 ls []) := by
              intro N
              induction N with
              | zero => intro v5_35 H_35 locs_35 hh_35  hi_35 hm; exact absurd hm (by omega)
              | succ N L73 =>
                intro v5_35 H_35 locs_35 hh_35  hi_35 hm_35 ls hl
                obtain ⟨hi_35_0, hi_35_1⟩ := hi_35
                refine lv_iload hx hb dX10_scanName_73 (lv_at hl 5 rfl) ?_
                refine lv_iload hx hb dX10_scanName_75 (lv_at hl 4 rfl) ?_
                refine lv_icmp_ge (tgt := 92) hx hb dX10_scanName_77 (by decide) (fun c_36 => ?_) (fun c_36 => ?_)
                · skip
                  have c_36' : v5_35.toInt ≥ v4_2.toInt := jb_ge (rfl) (rfl) c_36
                  refine lv_iload hx hb dX10_scanName_92 (lv_at hl 4 rfl) ?_
                  rw [hQ]
                  exact W.iret (v := v4_2) hx hb hr (fun t ht hW => ⟨⟨v4_2, (), rfl, by first | omega | (refine ⟨?_, ?_⟩ <;> (first | omega | rfl | assumption | decide | exact Or.inl rfl | exact Or.inr rfl | (simp only; omega))), hh_35.rt (M1 := []) [] rfl ht⟩, by rw [ht]; try exact hh_35.1.1, fun q h9 hq => by rw [ht]; try exact hh_35.1.2.1 q h9 hq⟩) hh_35.1.2.2 dX10_scanName_94
                · skip
                  have c_36' : v5_35.toInt < v4_2.toInt := jb_ge_n (rfl) (rfl) c_36
                  refine lv_aload_n hx hb dX10_scanName_80 rfl (lv_at hl 0 rfl) ?_
                  refine lv_iconst (v := 0) hx hb dX10_scanName_81 (by decide) ?_
                  refine lv_iconst (v := 0) hx hb dX10_scanName_82 (by decide) ?_
                  obtain ⟨v_39, hv_39, hh_40⟩ := hh_35.pin (C := RX10) (T := TX10) (N := 11) hB12 rfl (by decide) hg_r0 (i := 3) (by decide) rfl
                  obtain ⟨tokens_41, rfl, hlotokens_41, hhitokens_41⟩ := hv_39
                  refine va_callv (A0 := jA base) (H0 := s.heap) (va_runV (As := [.int 0, .int 0]) (rest := []) ⟨hx, hb, hml, hown, hts⟩ (uX10_add l dC dI ca base B hB hAp hB12 hB101 G0 H_35 r0 0 0 tokens_41) (cwV 2 hts gX10_scanName_X10_add rfl rfl rfl (by decide +kernel) ⟨by rw [← hR]; exact Nat.le_of_ble_eq_true rfl, by rw [← hR]; exact Nat.le_of_ble_eq_true rfl⟩) ⟨fun a U g mk q => by obtain ⟨q0, q1, q2, qK, q10, q11, q12⟩ := q; exact ⟨q0, q1, q2, jG.calling g mk a qK, q10, q11, q12⟩, hh_40.recv (C := RX10) (T := TX10) (N := 11) hB12 rfl (by decide) hg_r0 hK, fun U hU hW => ⟨rfl, hU, hh_40.2.1, hG.step hW hU hh_40.1, hg_r0, (hh_40.2.2.1.sub (L1 := [(r0, 12, 3, .int tokens_41)]) [0] rfl), by first | omega | (refine ⟨?_, ?_⟩ <;> (first | omega | rfl | assumption | decide | exact Or.inl rfl | exact Or.inr rfl | (simp only; omega)))⟩⟩ rfl rfl hl.1 rfl (lv_room (Nat.le_of_ble_eq_true rfl)) dX10_scanName_83 ⟨Nat.zero_le _, Nat.zero_le _⟩) hh_40.1 (fun q _ h => h) (fun q h => h) (fun u_37 t_37 H_37 locs_37 ht_37 hvm_37 hr_38 hb_37 hz_37 hk_37 hS_37 => ?_)
                  obtain ⟨qk_37, rfl⟩ : ∃ z, z = u_37 := ⟨_, rfl⟩
                  rw [ht_37] at hb_37
                  obtain ⟨hb_371, hb_372, hb_373, hb_374, hb_375⟩ := hb_37
                  have hh_37 : jSt (dC, dI) B base G0 G0 EX10_scanName s.heap 0 0 [(r0, 12, 3, .int qk_37)] [] [] H_37 locs_37 := (hh_40.call hb_371 hb_372 hb_373 hb_374 hS_37 rfl (L1 := []) [] rfl rfl (M1 := []) [] rfl rfl (I1 := []) [] rfl rfl).more hb_375
                  clear hh_40 ht_37 hvm_37 hz_37 hk_37 hS_37 hb_371 hb_372 hb_373 hb_374 hb_375
                  obtain ⟨hr_38_0, hr_38_1, hr_38_2⟩ := hr_38
                  obtain ⟨z_42, ez_42⟩ : ∃ y : Int32, y = v5_35 + 1 := ⟨_, rfl⟩
                  refine lv_iinc (v := z_42) (lv' := [(5, .int z_42), (0, .ref r0), (1, .ref r1), (2, .int a2), (3, .int a3), (4, .int v4_2)]) hx hb dX10_scanName_86 hl (k := 5) rfl (by rw [ez_42]; rfl) (by decide) rfl (fun ls hl => ?_)
                  have hz_42 : z_42.toInt = v5_35.toInt + 1 := by rw [ez_42]; exact jb_iadd2 (rfl) (by decide) (by omega)
                  refine lv_goto (tgt := 73) hx hb dX10_scanName_89 (by decide) ?_
                  exact L73 z_42 _ _ (hh_37.sub (L1 := []) [] rfl (M1 := []) [] rfl (I1 := []) [] rfl) (by first | omega | (refine ⟨?_, ?_⟩ <;> (first | omega | rfl | assumption | decide | exact Or.inl rfl | exact Or.inr rfl | (simp only; omega)))) (by omega) _ (lv_sub hl [1, 2, 3, 4, 5, 0] rfl)
            exact L73 (v4_2.toInt - (a2 : Int32).toInt : Int).toNat.succ a2 _ _ hh_2 (by first | omega | (refine ⟨?_, ?_⟩ <;> (first | omega | rfl | assumption | decide | exact Or.inl rfl | exact Or.inr rfl | (simp only; omega)))) (by omega) _ (lv_sub hl [1, 2, 3, 4, 5, 0] rfl)
          · skip
            have c_34' : z_33.toInt ≤ 10 := jb_gt_n (rfl) ((by decide)) c_34
            refine lv_aload_n hx hb dX10_scanName_36 rfl (lv_at hl 0 rfl) ?_
            obtain ⟨v_43, hv_43, hh_44⟩ := hh_2.pin (C := RX10) (T := TX10) (N := 11) hB12 rfl (by decide) hg_r0 (i := 0) (by decide) rfl
            clear hh_2
            obtain ⟨names_45, rfl, hg_names_45⟩ := hv_43
            refine j7_read hx hb hown hK (C := RX10) (T := TX10) (N := 11) rfl hly_12_0 (hts (.fieldLink RX10 24 "ProofServer$Syntax" "names" "LProofServer$Names;") (by decide +kernel)) (hh_44.at 0 rfl) dX10_scanName_37 ?_
            refine lv_aload_n hx hb dX10_scanName_40 rfl (lv_at hl 1 rfl) ?_
            refine lv_iload_n hx hb dX10_scanName_41 rfl (lv_at hl 2 rfl) ?_
            refine lv_iload hx hb dX10_scanName_42 (lv_at hl 4 rfl) ?_
            refine lv_iconst (v := 1) hx hb dX10_scanName_44 (by decide) ?_
            refine va_calli (A0 := jA base) (H0 := s.heap) (va_runV (As := [.ref r1, .int a2, .int v4_2, .int 1]) (rest := []) ⟨hx, hb, hml, hown, hts⟩ (uX6_numberOf l dC dI ca base B hB hAp hB8 hB101 hB102 hB132 hB133 G0 H_2 names_45 r1 a2 v4_2 1 n1) (cwV 4 hts gX10_scanName_X6_numberOf rfl rfl rfl (by decide +kernel) ⟨by rw [← hR]; exact Nat.le_of_ble_eq_true rfl, by rw [← hR]; exact Nat.le_of_ble_eq_true rfl⟩) ⟨fun a U g mk q => by obtain ⟨q0, q1, q2, qK, q10, q11, q12, q13⟩ := q; exact ⟨q0, q1, q2, jG.calling g mk a qK, q10, q11, q12, q13⟩, hh_44.recv (C := RX6) (T := TX6) (N := 4) hB8 rfl (by decide) hg_names_45 hK, fun U hU hW => ⟨rfl, hU, hh_44.2.1, hG.step hW hU hh_44.1, hg_r1, hg_names_45, jP.nil, by first | omega | rfl | assumption | decide | exact Or.inl rfl | exact Or.inr rfl | (simp only; omega)⟩⟩ rfl rfl hl.1 rfl (lv_room (Nat.le_of_ble_eq_true rfl)) dX10_scanName_45 ⟨Nat.zero_le _, Nat.zero_le _⟩) hh_44.1 (fun q _ h => h) (fun q h => h) (fun r_47 u_46 t_46 H_46 locs_46 ht_46 hvm_46 hr_47 hb_46 hz_46 hk_46 hS_46 => ?_)
            rw [ht_46] at hb_46
            obtain ⟨hb_461, hb_462, hb_463, hb_464, hb_465⟩ := hb_46
            have hh_46 : jSt (dC, dI) B base G0 G0 EX10_scanName s.heap 0 0 [(r0, 12, 0, .ref names_45)] [] [] H_46 locs_46 := (hh_44.call hb_461 hb_462 hb_463 hb_464 hS_46 rfl (L1 := [(r0, 12, 0, .ref names_45)]) [0] rfl rfl (M1 := []) [] rfl rfl (I1 := []) [] rfl rfl).more hb_465
            clear hh_44 ht_46 hvm_46 hz_46 hk_46 hS_46 hb_461 hb_462 hb_463 hb_464 hb_465
            obtain ⟨hr_47_0, hr_47_1⟩ := hr_47
            refine lv_istore (lv' := [(5, .int r_47), (0, .ref r0), (1, .ref r1), (2, .int a2), (3, .int a3), (4, .int v4_2)]) hx hb dX10_scanName_48 hl (by decide) rfl (fun ls hl => ?_)
            refine lv_aload_n hx hb dX10_scanName_50 rfl (lv_at hl 1 rfl) ?_
            refine lv_iload hx hb dX10_scanName_51 (lv_at hl 0 rfl) ?_
            refine lv_if_ge (tgt := 60) hx hb dX10_scanName_53 (by decide) (fun c_48 => ?_) (fun c_48 => ?_)
            · skip
              have c_48' : r_47.toInt ≥ 0 := jb_ge (rfl) ((by decide)) c_48
              refine lv_bipush (v := 110) hx hb dX10_scanName_60 (by decide) ?_
              refine lv_iload hx hb dX10_scanName_62 (lv_at hl 0 rfl) ?_
              obtain ⟨v_51, hv_51, hh_52⟩ := hh_46.pin (C := RX10) (T := TX10) (N := 11) hB12 rfl (by decide) hg_r0 (i := 3) (by decide) rfl
              obtain ⟨tokens_53, rfl, hlotokens_53, hhitokens_53⟩ := hv_51
              refine va_callv (A0 := jA base) (H0 := s.heap) (va_runV (As := [.int 110, .int r_47]) (rest := []) ⟨hx, hb, hml, hown, hts⟩ (uX10_add l dC dI ca base B hB hAp hB12 hB101 G0 H_46 r0 110 r_47 tokens_53) (cwV 2 hts gX10_scanName_X10_add rfl rfl rfl (by decide +kernel) ⟨by rw [← hR]; exact Nat.le_of_ble_eq_true rfl, by rw [← hR]; exact Nat.le_of_ble_eq_true rfl⟩) ⟨fun a U g mk q => by obtain ⟨q0, q1, q2, qK, q10, q11, q12⟩ := q; exact ⟨q0, q1, q2, jG.calling g mk a qK, q10, q11, q12⟩, hh_52.recv (C := RX10) (T := TX10) (N := 11) hB12 rfl (by decide) hg_r0 hK, fun U hU hW => ⟨rfl, hU, hh_52.2.1, hG.step hW hU hh_52.1, hg_r0, (hh_52.2.2.1.sub (L1 := [(r0, 12, 3, .int tokens_53)]) [0] rfl), by first | omega | (refine ⟨?_, ?_⟩ <;> (first | omega | rfl | assumption | decide | exact Or.inl rfl | exact Or.inr rfl | (simp only; omega)))⟩⟩ rfl rfl hl.1 rfl (lv_room (Nat.le_of_ble_eq_true rfl)) dX10_scanName_64 ⟨Nat.zero_le _, Nat.zero_le _⟩) hh_52.1 (fun q _ h => h) (fun q h => h) (fun u_49 t_49 H_49 locs_49 ht_49 hvm_49 hr_50 hb_49 hz_49 hk_49 hS_49 => ?_)
              obtain ⟨qk_49, rfl⟩ : ∃ z, z = u_49 := ⟨_, rfl⟩
              rw [ht_49] at hb_49
              obtain ⟨hb_491, hb_492, hb_493, hb_494, hb_495⟩ := hb_49
              have hh_49 : jSt (dC, dI) B base G0 G0 EX10_scanName s.heap 0 0 [(r0, 12, 3, .int qk_49), (r0, 12, 0, .ref names_45)] [] [] H_49 locs_49 := (hh_52.call hb_491 hb_492 hb_493 hb_494 hS_49 rfl (L1 := [(r0, 12, 0, .ref names_45)]) [1] rfl rfl (M1 := []) [] rfl rfl (I1 := []) [] rfl rfl).more hb_495
              clear hh_52 ht_49 hvm_49 hz_49 hk_49 hS_49 hb_491 hb_492 hb_493 hb_494 hb_495
              obtain ⟨hr_50_0, hr_50_1, hr_50_2⟩ := hr_50
              refine lv_goto (tgt := 92) hx hb dX10_scanName_67 (by decide) ?_
              refine lv_iload hx hb dX10_scanName_92 (lv_at hl 5 rfl) ?_
              rw [hQ]
              exact W.iret (v := v4_2) hx hb hr (fun t ht hW => ⟨⟨v4_2, (), rfl, by first | omega | (refine ⟨?_, ?_⟩ <;> (first | omega | rfl | assumption | decide | exact Or.inl rfl | exact Or.inr rfl | (simp only; omega))), hh_49.rt (M1 := []) [] rfl ht⟩, by rw [ht]; try exact hh_49.1.1, fun q h9 hq => by rw [ht]; try exact hh_49.1.2.1 q h9 hq⟩) hh_49.1.2.2 dX10_scanName_94
            · skip
              have c_48' : r_47.toInt < 0 := jb_ge_n (rfl) ((by decide)) c_48
              refine lv_iconst (v := 0) hx hb dX10_scanName_56 (by decide) ?_
              refine lv_goto (tgt := 62) hx hb dX10_scanName_57 (by decide) ?_
              refine lv_iload hx hb dX10_scanName_62 (lv_at hl 0 rfl) ?_
              obtain ⟨v_56, hv_56, hh_57⟩ := hh_46.pin (C := RX10) (T := TX10) (N := 11) hB12 rfl (by decide) hg_r0 (i := 3) (by decide) rfl
              obtain ⟨tokens_58, rfl, hlotokens_58, hhitokens_58⟩ := hv_56
              refine va_callv (A0 := jA base) (H0 := s.heap) (va_runV (As := [.int 0, .int r_47]) (rest := []) ⟨hx, hb, hml, hown, hts⟩ (uX10_add l dC dI ca base B hB hAp hB12 hB101 G0 H_46 r0 0 r_47 tokens_58) (cwV 2 hts gX10_scanName_X10_add rfl rfl rfl (by decide +kernel) ⟨by rw [← hR]; exact Nat.le_of_ble_eq_true rfl, by rw [← hR]; exact Nat.le_of_ble_eq_true rfl⟩) ⟨fun a U g mk q => by obtain ⟨q0, q1, q2, qK, q10, q11, q12⟩ := q; exact ⟨q0, q1, q2, jG.calling g mk a qK, q10, q11, q12⟩, hh_57.recv (C := RX10) (T := TX10) (N := 11) hB12 rfl (by decide) hg_r0 hK, fun U hU hW => ⟨rfl, hU, hh_57.2.1, hG.step hW hU hh_57.1, hg_r0, (hh_57.2.2.1.sub (L1 := [(r0, 12, 3, .int tokens_58)]) [0] rfl), by first | omega | (refine ⟨?_, ?_⟩ <;> (first | omega | rfl | assumption | decide | exact Or.inl rfl | exact Or.inr rfl | (simp only; omega)))⟩⟩ rfl rfl hl.1 rfl (lv_room (Nat.le_of_ble_eq_true rfl)) dX10_scanName_64 ⟨Nat.zero_le _, Nat.zero_le _⟩) hh_57.1 (fun q _ h => h) (fun q h => h) (fun u_54 t_54 H_54 locs_54 ht_54 hvm_54 hr_55 hb_54 hz_54 hk_54 hS_54 => ?_)
              obtain ⟨qk_54, rfl⟩ : ∃ z, z = u_54 := ⟨_, rfl⟩
              rw [ht_54] at hb_54
              obtain ⟨hb_541, hb_542, hb_543, hb_544, hb_545⟩ := hb_54
              have hh_54 : jSt (dC, dI) B base G0 G0 EX10_scanName s.heap 0 0 [(r0, 12, 3, .int qk_54), (r0, 12, 0, .ref names_45)] [] [] H_54 locs_54 := (hh_57.call hb_541 hb_542 hb_543 hb_544 hS_54 rfl (L1 := [(r0, 12, 0, .ref names_45)]) [1] rfl rfl (M1 := []) [] rfl rfl (I1 := []) [] rfl rfl).more hb_545
              clear hh_57 ht_54 hvm_54 hz_54 hk_54 hS_54 hb_541 hb_542 hb_543 hb_544 hb_545
              obtain ⟨hr_55_0, hr_55_1, hr_55_2⟩ := hr_55
              refine lv_goto (tgt := 92) hx hb dX10_scanName_67 (by decide) ?_
              refine lv_iload hx hb dX10_scanName_92 (lv_at hl 5 rfl) ?_
              rw [hQ]
              exact W.iret (v := v4_2) hx hb hr (fun t ht hW => ⟨⟨v4_2, (), rfl, by first | omega | (refine ⟨?_, ?_⟩ <;> (first | omega | rfl | assumption | decide | exact Or.inl rfl | exact Or.inr rfl | (simp only; omega))), hh_54.rt (M1 := []) [] rfl ht⟩, by rw [ht]; try exact hh_54.1.1, fun q h9 hq => by rw [ht]; try exact hh_54.1.2.1 q h9 hq⟩) hh_54.1.2.2 dX10_scanName_94
        · skip
          have c_32' : r_31.toInt ≥ 0 := jb_lt_n (rfl) ((by decide)) c_32
          obtain ⟨z_59, ez_59⟩ : ∃ y : Int32, y = v4_2 + 1 := ⟨_, rfl⟩
          refine lv_iinc (v := z_59) (lv' := [(4, .int z_59), (0, .ref r0), (1, .ref r1), (2, .int a2), (3, .int a3)]) hx hb dX10_scanName_21 hl (k := 4) rfl (by rw [ez_59]; rfl) (by decide) rfl (fun ls hl => ?_)
          have hz_59 : z_59.toInt = v4_2.toInt + 1 := by rw [ez_59]; exact jb_iadd2 (rfl) (by decide) (by omega)
          refine lv_goto (tgt := 5) hx hb dX10_scanName_24 (by decide) ?_
          exact L5 z_59 _ _ hh_2 (by first | omega | (refine ⟨?_, ?_⟩ <;> (first | omega | rfl | assumption | decide | exact Or.inl rfl | exact Or.inr rfl | (simp only; omega)))) (by omega) _ (lv_sub hl [1, 2, 3, 4, 0] rfl)
  exact L5 (a3.toInt - (z_1 : Int32).toInt : Int).toNat.succ z_1 _ _ hh (by first | omega | (refine ⟨?_, ?_⟩ <;> (first | omega | rfl | assumption | decide | exact Or.inl rfl | exact Or.inr rfl | (simp only; omega)))) (by omega) _ (lv_sub hl [1, 2, 3, 4, 0] rfl)
set_option maxHeartbeats 4000000 in
set_option maxRecDepth 20000 in
theorem uX10_scan (l : Launch) (dC : Nat → ClassId) (dI : Nat → Nat → Nat) (ca : Nat → ClassId) (base : Nat) (B : jF) (hB : jBok B) (hAp : jAp (dC, dI)) (hB8 : ∀ n G a H, B 8 n G a H ↔ jOb (dC, dI) 8 4 (F8 n G) a H) (hB12 : ∀ n G a H, B 12 n G a H ↔ jOb (dC, dI) 12 11 (F12 n G) a H) (hB101 : ∀ n G a H, B 101 n G a H ↔ jAr (dC, dI) (ca 1) (fun j z => True) n a H) (hB102 : ∀ n G a H, B 102 n G a H ↔ jAl (dC, dI) (ca 2) n a H) (hB132 : ∀ n G a H, B 132 n G a H ↔ jAr (dC, dI) (ca 1) (fun j z => 0 ≤ z.toInt ∧ z.toInt ≤ 10) n a H) (hB133 : ∀ n G a H, B 133 n G a H ↔ jAr (dC, dI) (ca 1) (fun j z => 0 ≤ z.toInt ∧ z.toInt ≤ 8192) n a H) (G0 : jT) (H0 : Heap) (r0 : Nat) (r1 : Nat) (a2 : Int32) (a3 : Int32) (n1 : Nat) : Met l yX10_scan wsX10_scan ({ frames := 5, cells := 0, slots := 0, locals := 181 }) (va_Pc [.ref r0, .ref r1, .int a2, .int a3] (fun U => U.heap = H0 ∧ jX B base G0 [] H0 ∧ jG dC dI ca base U ∧ G0 r1 = some (101, n1) ∧ G0 r0 = some (12, 0) ∧ jP (dC, dI) G0 H0 [] ∧ n1 < 1000000 ∧ a2.toInt ≤ 1000000)) (va_Qi (S := Unit) (fun r u => (True)) (fun u t => jRt (dC, dI) B base G0 EX10_scan H0 [] t.heap) (jA base)) 0 0 (jA base) := by
  refine Met.ofW (cc := cX10_scan) (maxL := 8) (ret := (some .int)) (by decide) rfl ?_
  intro p e s m args below meth c s₁ Bd hml hv
  obtain ⟨rfl, hH0, hX, hG, hg_r1, hg_r0, hP0, hp0, hp1⟩ := hv
  have hK := hG.1
  have hx := Bd.exec
  have hb := Bd.bytes
  have hr := Bd.returns
  have hts := atoms_spec (ws := wsX10_scan) Bd.pre
  have hown : s.vm.findClass RX10 = some m.cls := findClass_of_methodNamed Bd.named
  have hlocks := Bd.notSynchronized
  obtain ⟨Q, hQ⟩ : ∃ Q, Q = MQ below (va_Qi (S := Unit) (fun r u => (True)) (fun u t => jRt (dC, dI) B base G0 EX10_scan H0 [] t.heap) (jA base)) ([.ref r0, .ref r1, .int a2, .int a3] : List Value).toArray s 0 0 (jA base) := ⟨_, rfl⟩
  rw [← hQ]
  have hl := lv_entry ([.ref r0, .ref r1, .int a2, .int a3]) (n := 8) (Nat.le_of_ble_eq_true rfl)
  rw [lg_entry_eq]
  generalize (lg_sl ([.ref r0, .ref r1, .int a2, .int a3]) ++ List.replicate (8 - (lg_sl ([.ref r0, .ref r1, .int a2, .int a3])).length) Slot.unset).toArray = ls at hl ⊢
  have hl : lv_has ls 8 [(0, .ref r0), (1, .ref r1), (2, .int a2), (3, .int a3)] := hl
  generalize hR : (headSpec wsX10_scan ({ frames := 5, cells := 0, slots := 0, locals := 181 })).room = R
  subst hH0
  have hh : jSt (dC, dI) B base G0 G0 EX10_scan s.heap 0 0 [] [] [] s.heap [] := jSt.start hX hP0 jMc.nil jIs.nil
  clear hX hP0
  have hk0 : (0 : Int32).toInt = 0 := by decide
  have hk1 : (1 : Int32).toInt = 1 := by decide
  have hk2 : (2 : Int32).toInt = 2 := by decide
  have hk45 : (45 : Int32).toInt = 45 := by decide
  have hk46 : (46 : Int32).toInt = 46 := by decide
  have hk48 : (48 : Int32).toInt = 48 := by decide
  have hk62 : (62 : Int32).toInt = 62 := by decide
  have hk100 : (100 : Int32).toInt = 100 := by decide
  have hk128 : (128 : Int32).toInt = 128 := by decide
  have hly_12_3 := hts (u_lay RX10 TX10 3) (by decide +kernel)
  have hrg_a2 := jb_rng a2
  have hrg_a3 := jb_rng a3
  refine lv_aload_n hx hb dX10_scan_0 rfl (lv_at hl 0 rfl) ?_
  refine lv_iconst (v := 0) hx hb dX10_scan_1 (by decide) ?_
  refine j7_put hx hb hown hK hh hB hAp hB12 (C := RX10) (T := TX10) (N := 11) rfl (by decide) hg_r0 (i := 3) (by decide) hly_12_3 rfl (hts (.fieldLink RX10 28 "ProofServer$Syntax" "tokens" "I") (by decide +kernel)) rfl (ty := .int) (v := .int 0) (by decide +kernel) rfl rfl (⟨_, rfl, by omega, by omega⟩) rfl (L1 := []) [] rfl rfl rfl dX10_scan_2 (fun H_1 locs_1 hh_1 => ?_)
  clear hh
  refine lv_iload_n hx hb dX10_scan_5 rfl (lv_at hl 3 rfl) ?_
  refine lv_aload_n hx hb dX10_scan_6 rfl (lv_at hl 1 rfl) ?_
  refine j7_len hx hb hK hh_1 hB101 1 rfl (by decide) hg_r1 (by omega) dX10_scan_7 (fun z_2 hz_2 => ?_)
  refine va_mmin hx hb (by rw [hml]; exact hl.1.symm) hown (hts (.methodLink RX10 32 Lib.Math.min.name) (by decide +kernel)) (hts (.static Lib.Math.min.name) (by decide +kernel)) (hts (.initialized "java/lang/Math") (by decide +kernel)) (hts (.code Lib.Math.min.name Lib.Math.min.code 2 (some .int)) (by decide +kernel)) (by rw [← hR]; exact Nat.le_of_ble_eq_true rfl) (by rw [← hR]; exact Nat.le_of_ble_eq_true rfl) (Nat.zero_le _) (Nat.zero_le _) dX10_scan_8 ?_
  refine lv_topi (fun z_3 ez_3 => ?_)
  have hz_3 := jb_min ez_3
  refine lv_istore (lv' := [(4, .int z_3), (0, .ref r0), (1, .ref r1), (2, .int a2), (3, .int a3)]) hx hb dX10_scan_11 hl (by decide) rfl (fun ls hl => ?_)
  refine lv_iload_n hx hb dX10_scan_13 rfl (lv_at hl 3 rfl) ?_
  refine lv_iconst (v := 0) hx hb dX10_scan_14 (by decide) ?_
  refine va_mmax hx hb (by rw [hml]; exact hl.1.symm) hown (hts (.methodLink RX10 38 Lib.Math.max.name) (by decide +kernel)) (hts (.static Lib.Math.max.name) (by decide +kernel)) (hts (.initialized "java/lang/Math") (by decide +kernel)) (hts (.code Lib.Math.max.name Lib.Math.max.code 2 (some .int)) (by decide +kernel)) (by rw [← hR]; exact Nat.le_of_ble_eq_true rfl) (by rw [← hR]; exact Nat.le_of_ble_eq_true rfl) (Nat.zero_le _) (Nat.zero_le _) dX10_scan_15 ?_
  refine lv_topi (fun z_4 ez_4 => ?_)
  have hz_4 := jb_max ez_4
  refine lv_istore (lv' := [(5, .int z_4), (4, .int z_3), (0, .ref r0), (1, .ref r1), (2, .int a2), (3, .int a3)]) hx hb dX10_scan_18 hl (by decide) rfl (fun ls hl => ?_)
  have L20 : ∀ (N : Nat) (v5_5 : Int32) (H_5 : Heap) (locs_5 : List Loc), jSt (dC, dI) B base G0 G0 EX10_scan s.heap 0 0 [] [] [] H_5 locs_5 → (0 ≤ v5_5.toInt) → (((z_3.toInt - v5_5.toInt).toNat : Int) : Int) < N → ∀ ls : Array Slot, lv_has ls 8 [(0, .ref r0), (1, .ref r1), (2, .int a2), (3, .int a3), (4, .int z_3), (5, .int v5_5)] → W p l e R s m ([.ref r0, .ref r1, .int a2, .int a3] : List Value).toArray below meth c H_5 locs_5 0 0 Q (F0 m 20 ls []) := by
    intro N
    induction N with
    | zero => intro v5_5 H_5 locs_5 hh_5  hi_5 hm; exact absurd hm (by omega)
    | succ N L20 =>
      intro v5_5 H_5 locs_5 hh_5  hi_5 hm_5 ls hl
      refine lv_iload hx hb dX10_scan_20 (lv_at hl 5 rfl) ?_
      refine lv_iload hx hb dX10_scan_22 (lv_at hl 4 rfl) ?_
      refine lv_icmp_ge (tgt := 240) hx hb dX10_scan_24 (by decide) (fun c_6 => ?_) (fun c_6 => ?_)
      · skip
        have c_6' : v5_5.toInt ≥ z_3.toInt := jb_ge (rfl) (rfl) c_6
        refine lv_aload_n hx hb dX10_scan_240 rfl (lv_at hl 0 rfl) ?_
        obtain ⟨v_7, hv_7, hh_8⟩ := hh_5.pin (C := RX10) (T := TX10) (N := 11) hB12 rfl (by decide) hg_r0 (i := 3) (by decide) rfl
        clear hh_5
        obtain ⟨tokens_9, rfl, hlotokens_9, hhitokens_9⟩ := hv_7
        refine j7_read hx hb hown hK (C := RX10) (T := TX10) (N := 11) rfl hly_12_3 (hts (.fieldLink RX10 28 "ProofServer$Syntax" "tokens" "I") (by decide +kernel)) (hh_8.at 0 rfl) dX10_scan_241 ?_
        rw [hQ]
        exact W.iret (v := tokens_9) hx hb hr (fun t ht hW => ⟨⟨tokens_9, (), rfl, trivial, hh_8.rt (M1 := []) [] rfl ht⟩, by rw [ht]; try exact hh_8.1.1, fun q h9 hq => by rw [ht]; try exact hh_8.1.2.1 q h9 hq⟩) hh_8.1.2.2 dX10_scan_244
      · skip
        have c_6' : v5_5.toInt < z_3.toInt := jb_ge_n (rfl) (rfl) c_6
        refine lv_iload hx hb dX10_scan_27 (lv_at hl 5 rfl) ?_
        refine lv_iconst (v := 1) hx hb dX10_scan_29 (by decide) ?_
        refine lv_iadd hx hb dX10_scan_30 ?_
        refine lv_topi (fun z_10 ez_10 => ?_)
        have hz_10 : z_10.toInt = v5_5.toInt + 1 := by rw [ez_10]; exact jb_iadd2 (rfl) ((by decide)) (by omega)
        refine lv_istore (lv' := [(6, .int z_10), (0, .ref r0), (1, .ref r1), (2, .int a2), (3, .int a3), (4, .int z_3), (5, .int v5_5)]) hx hb dX10_scan_31 hl (by decide) rfl (fun ls hl => ?_)
        refine lv_aload_n hx hb dX10_scan_33 rfl (lv_at hl 2 rfl) ?_
        refine lv_iload hx hb dX10_scan_34 (lv_at hl 6 rfl) ?_
        refine lv_iload hx hb dX10_scan_36 (lv_at hl 5 rfl) ?_
        refine va_calli (A0 := jA base) (H0 := s.heap) (va_runSN (As := [.ref r1, .int v5_5, .int z_3]) (rest := []) ⟨hx, hb, hml, hown, hts⟩ (uX11_opensComment l dC dI ca base B hB hAp hB101 G0 H_5 r1 v5_5 z_3 n1) ⟨va_cnB 3 hts gX10_scan_X11_opensComment_n41 rfl rfl rfl (hG.2.2.1 RX10 41 yX11_opensComment "ProofServer" (List.mem_of_getElem? (i := 1137) (by decide +kernel))) (hts (.initialized RX11) (by decide +kernel)) (by decide +kernel) ⟨by rw [← hR]; exact Nat.le_of_ble_eq_true rfl, by rw [← hR]; exact Nat.le_of_ble_eq_true rfl⟩, hts (.static yX11_opensComment) (by decide +kernel), trivial⟩ ⟨fun a U g mk q => by obtain ⟨q0, q1, q2, qK, q10, q11, q12⟩ := q; exact ⟨q0, q1, q2, jG.calling g mk a qK, q10, q11, q12⟩, fun U hU hW => ⟨rfl, hU, hh_5.2.1, hG.step hW hU hh_5.1, hg_r1, jP.nil, by first | omega | (refine ⟨?_, ?_⟩ <;> (first | omega | rfl | assumption | decide | exact Or.inl rfl | exact Or.inr rfl | (simp only; omega)))⟩⟩ rfl rfl hl.1 rfl (lv_room (Nat.le_of_ble_eq_true rfl)) dX10_scan_38 ⟨Nat.zero_le _, Nat.zero_le _⟩) hh_5.1 (fun q _ h => h) (fun q h => h) (fun r_12 u_11 t_11 H_11 locs_11 ht_11 hvm_11 hr_12 hb_11 hz_11 hk_11 hS_11 => ?_)
        rw [ht_11] at hb_11
        obtain ⟨hb_111, hb_112, hb_113, hb_114, hb_115⟩ := hb_11
        have hh_11 : jSt (dC, dI) B base G0 G0 EX10_scan s.heap 0 0 [] [] [] H_11 locs_11 := (hh_5.call hb_111 hb_112 hb_113 hb_114 hS_11 rfl (L1 := []) [] rfl rfl (M1 := []) [] rfl rfl (I1 := []) [] rfl rfl).more hb_115
        clear hh_5 ht_11 hvm_11 hz_11 hk_11 hS_11 hb_111 hb_112 hb_113 hb_114 hb_115
        obtain ⟨hr_12b, hr_12p⟩ := hr_12
        have hr_12' := jb_01 hr_12b
        have C226 : ∀ (v6_13 : Int32) (v6_13 : Int32) (H_13 : Heap) (locs_13 : List Loc), jSt (dC, dI) B base G0 G0 EX10_scan s.heap 0 0 [] [] [] H_13 locs_13 → (0 ≤ v5_5.toInt ∧ v6_13.toInt ≤ 1000000) → ∀ ls : Array Slot, lv_has ls 8 [(0, .ref r0), (1, .ref r1), (2, .int a2), (3, .int a3), (4, .int z_3), (5, .int v5_5), (6, .int v6_13), (6, .int v6_13)] → W p l e R s m ([.ref r0, .ref r1, .int a2, .int a3] : List Value).toArray below meth c H_13 locs_13 0 0 Q (F0 m 226 ls []) := by
          intro v6_13 v6_13 H_13 locs_13 hh_13  hi_13 ls hl
          obtain ⟨hi_13_0, hi_13_1⟩ := hi_13
          clear hr_12p
          refine lv_iload hx hb dX10_scan_226 (lv_at hl 5 rfl) ?_
          refine lv_iconst (v := 1) hx hb dX10_scan_228 (by decide) ?_
          refine lv_iadd hx hb dX10_scan_229 ?_
          refine lv_topi (fun z_14 ez_14 => ?_)
          have hz_14 : z_14.toInt = v5_5.toInt + 1 := by rw [ez_14]; exact jb_iadd2 (rfl) ((by decide)) (by omega)
          refine lv_iload hx hb dX10_scan_230 (lv_at hl 6 rfl) ?_
          refine va_mmax hx hb (by rw [hml]; exact hl.1.symm) hown (hts (.methodLink RX10 38 Lib.Math.max.name) (by decide +kernel)) (hts (.static Lib.Math.max.name) (by decide +kernel)) (hts (.initialized "java/lang/Math") (by decide +kernel)) (hts (.code Lib.Math.max.name Lib.Math.max.code 2 (some .int)) (by decide +kernel)) (by rw [← hR]; exact Nat.le_of_ble_eq_true rfl) (by rw [← hR]; exact Nat.le_of_ble_eq_true rfl) (Nat.zero_le _) (Nat.zero_le _) dX10_scan_232 ?_
          refine lv_topi (fun z_15 ez_15 => ?_)
          have hz_15 := jb_max ez_15
          refine lv_istore (lv' := [(5, .int z_15), (0, .ref r0), (1, .ref r1), (2, .int a2), (3, .int a3), (4, .int z_3), (6, .int v6_13), (6, .int v6_13)]) hx hb dX10_scan_235 hl (by decide) rfl (fun ls hl => ?_)
          refine lv_goto (tgt := 20) hx hb dX10_scan_237 (by decide) ?_
          exact L20 z_15 _ _ hh_13 (by first | omega | rfl | assumption | decide | exact Or.inl rfl | exact Or.inr rfl | (simp only; omega)) (by omega) _ (lv_sub hl [1, 2, 3, 4, 5, 0] rfl)
        refine lv_if_eq (tgt := 57) hx hb dX10_scan_41 (by decide) (fun c_16 => ?_) (fun c_16 => ?_)
        · skip
          have c_16' : r_12.toInt = 0 := jb_eq (rfl) ((by decide)) c_16
          first | replace hr_12p := hr_12p.resolve_left (by omega) | replace hr_12p := hr_12p.resolve_right (by omega) | skip
          refine lv_aload_n hx hb dX10_scan_57 rfl (lv_at hl 2 rfl) ?_
          refine lv_iload hx hb dX10_scan_58 (lv_at hl 6 rfl) ?_
          refine j7_iald hx hb hK hh_11 hB101 1 rfl (by decide) hg_r1 (rfl) (by omega) dX10_scan_60 (fun z_17 (hz_17 : True) => ?_)
          refine vp_callSi (va_Run.run (va_runSN (As := [.int z_17]) (rest := []) ⟨hx, hb, hml, hown, hts⟩ (kX11_isLetter l dC dI ca base H_11 z_17) ⟨va_cnB 1 hts gX10_scan_X11_isLetter_n49 rfl rfl rfl (hG.2.2.1 RX10 49 yX11_isLetter "ProofServer" (List.mem_of_getElem? (i := 1139) (by decide +kernel))) (hts (.initialized RX11) (by decide +kernel)) (by decide +kernel) ⟨by rw [← hR]; exact Nat.le_of_ble_eq_true rfl, by rw [← hR]; exact Nat.le_of_ble_eq_true rfl⟩, hts (.static yX11_isLetter) (by decide +kernel), trivial⟩ ⟨fun a U g mk q => by obtain ⟨q0, q1, qK, q9⟩ := q; exact ⟨q0, q1, jG.calling g mk a qK, q9⟩, fun U hU hW => ⟨rfl, hU, hG.step hW hU hh_11.1, by first | trivial | omega | (constructor <;> omega)⟩⟩ rfl rfl hl.1 rfl (lv_room (Nat.le_of_ble_eq_true rfl)) dX10_scan_61 ⟨Nat.zero_le _, Nat.zero_le _⟩)) (fun r_18 hr_18 => ?_)
          have hr_18' : r_18.toInt = 0 ∨ r_18.toInt = 1 := jb_01 hr_18
          refine lv_if_eq (tgt := 81) hx hb dX10_scan_64 (by decide) (fun c_19 => ?_) (fun c_19 => ?_)
          · skip
            have c_19' : r_18.toInt = 0 := jb_eq (rfl) ((by decide)) c_19
            refine lv_aload_n hx hb dX10_scan_81 rfl (lv_at hl 2 rfl) ?_
            refine lv_iload hx hb dX10_scan_82 (lv_at hl 6 rfl) ?_
            refine j7_iald hx hb hK hh_11 hB101 1 rfl (by decide) hg_r1 (rfl) (by omega) dX10_scan_84 (fun z_20 (hz_20 : True) => ?_)
            refine lv_bipush (v := 45) hx hb dX10_scan_85 (by decide) ?_
            refine lv_icmp_ne (tgt := 126) hx hb dX10_scan_87 (by decide) (fun c_21 => ?_) (fun c_21 => ?_)
            · skip
              have c_21' : z_20.toInt ≠ 45 := jb_ne (rfl) ((by decide)) c_21
              refine lv_aload_n hx hb dX10_scan_126 rfl (lv_at hl 2 rfl) ?_
              refine lv_iload hx hb dX10_scan_127 (lv_at hl 6 rfl) ?_
              refine j7_iald hx hb hK hh_11 hB101 1 rfl (by decide) hg_r1 (rfl) (by omega) dX10_scan_129 (fun z_22 (hz_22 : True) => ?_)
              refine vp_callSi (va_Run.run (va_runSN (As := [.int z_22]) (rest := []) ⟨hx, hb, hml, hown, hts⟩ (kX11_isDigit l dC dI ca base H_11 z_22) ⟨va_cnB 1 hts gX10_scan_X11_isDigit_n60 rfl rfl rfl (hG.2.2.1 RX10 60 yX11_isDigit "ProofServer" (List.mem_of_getElem? (i := 1150) (by decide +kernel))) (hts (.initialized RX11) (by decide +kernel)) (by decide +kernel) ⟨by rw [← hR]; exact Nat.le_of_ble_eq_true rfl, by rw [← hR]; exact Nat.le_of_ble_eq_true rfl⟩, hts (.static yX11_isDigit) (by decide +kernel), trivial⟩ ⟨fun a U g mk q => by obtain ⟨q0, q1, qK, q9⟩ := q; exact ⟨q0, q1, jG.calling g mk a qK, q9⟩, fun U hU hW => ⟨rfl, hU, hG.step hW hU hh_11.1, by first | trivial | omega | (constructor <;> omega)⟩⟩ rfl rfl hl.1 rfl (lv_room (Nat.le_of_ble_eq_true rfl)) dX10_scan_130 ⟨Nat.zero_le _, Nat.zero_le _⟩)) (fun r_23 hr_23 => ?_)
              have hr_23' : r_23.toInt = 0 ∨ r_23.toInt = 1 := jb_01 hr_23
              refine lv_if_eq (tgt := 152) hx hb dX10_scan_133 (by decide) (fun c_24 => ?_) (fun c_24 => ?_)
              · skip
                have c_24' : r_23.toInt = 0 := jb_eq (rfl) ((by decide)) c_24
                refine lv_aload_n hx hb dX10_scan_152 rfl (lv_at hl 2 rfl) ?_
                refine lv_iload hx hb dX10_scan_153 (lv_at hl 6 rfl) ?_
                refine j7_iald hx hb hK hh_11 hB101 1 rfl (by decide) hg_r1 (rfl) (by omega) dX10_scan_155 (fun z_25 (hz_25 : True) => ?_)
                refine vp_callSi (va_Run.run (va_runSN (As := [.int z_25]) (rest := []) ⟨hx, hb, hml, hown, hts⟩ (kX11_isBlank l dC dI ca base H_11 z_25) ⟨va_cnB 1 hts gX10_scan_X11_isBlank_n63 rfl rfl rfl (hG.2.2.1 RX10 63 yX11_isBlank "ProofServer" (List.mem_of_getElem? (i := 1151) (by decide +kernel))) (hts (.initialized RX11) (by decide +kernel)) (by decide +kernel) ⟨by rw [← hR]; exact Nat.le_of_ble_eq_true rfl, by rw [← hR]; exact Nat.le_of_ble_eq_true rfl⟩, hts (.static yX11_isBlank) (by decide +kernel), trivial⟩ ⟨fun a U g mk q => by obtain ⟨q0, q1, qK, q9⟩ := q; exact ⟨q0, q1, jG.calling g mk a qK, q9⟩, fun U hU hW => ⟨rfl, hU, hG.step hW hU hh_11.1, by first | trivial | omega | (constructor <;> omega)⟩⟩ rfl rfl hl.1 rfl (lv_room (Nat.le_of_ble_eq_true rfl)) dX10_scan_156 ⟨Nat.zero_le _, Nat.zero_le _⟩)) (fun r_26 hr_26 => ?_)
                have hr_26' : r_26.toInt = 0 ∨ r_26.toInt = 1 := jb_01 hr_26
                refine lv_if_ne (tgt := 226) hx hb dX10_scan_159 (by decide) (fun c_27 => ?_) (fun c_27 => ?_)
                · skip
                  have c_27' : r_26.toInt ≠ 0 := jb_ne (rfl) ((by decide)) c_27
                  exact C226 z_10 z_10 _ _ hh_11 (by first | omega | (refine ⟨?_, ?_⟩ <;> (first | omega | rfl | assumption | decide | exact Or.inl rfl | exact Or.inr rfl | (simp only; omega)))) _ (lv_sub hl [1, 2, 3, 4, 5, 6, 0, 0] rfl)
                · skip
                  have c_27' : r_26.toInt = 0 := jb_ne_n (rfl) ((by decide)) c_27
                  refine lv_aload_n hx hb dX10_scan_162 rfl (lv_at hl 2 rfl) ?_
                  refine lv_iload hx hb dX10_scan_163 (lv_at hl 6 rfl) ?_
                  refine j7_iald hx hb hK hh_11 hB101 1 rfl (by decide) hg_r1 (rfl) (by omega) dX10_scan_165 (fun z_28 (hz_28 : True) => ?_)
                  refine lv_bipush (v := 46) hx hb dX10_scan_166 (by decide) ?_
                  refine lv_icmp_ne (tgt := 178) hx hb dX10_scan_168 (by decide) (fun c_29 => ?_) (fun c_29 => ?_)
                  · skip
                    have c_29' : z_28.toInt ≠ 46 := jb_ne (rfl) ((by decide)) c_29
                    refine lv_aload_n hx hb dX10_scan_178 rfl (lv_at hl 2 rfl) ?_
                    refine lv_iload hx hb dX10_scan_179 (lv_at hl 6 rfl) ?_
                    refine j7_iald hx hb hK hh_11 hB101 1 rfl (by decide) hg_r1 (rfl) (by omega) dX10_scan_181 (fun z_30 (hz_30 : True) => ?_)
                    refine lv_sipush (v := 128) hx hb dX10_scan_182 (by decide) ?_
                    refine lv_icmp_ge (tgt := 205) hx hb dX10_scan_185 (by decide) (fun c_31 => ?_) (fun c_31 => ?_)
                    · skip
                      have c_31' : z_30.toInt ≥ 128 := jb_ge (rfl) ((by decide)) c_31
                      refine lv_iconst (v := 0) hx hb dX10_scan_205 (by decide) ?_
                      refine lv_istore (lv' := [(7, .int 0), (6, .int z_10), (0, .ref r0), (1, .ref r1), (2, .int a2), (3, .int a3), (4, .int z_3), (5, .int v5_5)]) hx hb dX10_scan_206 hl (by decide) rfl (fun ls hl => ?_)
                      refine lv_aload_n hx hb dX10_scan_208 rfl (lv_at hl 2 rfl) ?_
                      refine lv_iload hx hb dX10_scan_209 (lv_at hl 0 rfl) ?_
                      refine lv_if_eq (tgt := 221) hx hb dX10_scan_211 (by decide) (fun c_32 => ?_) (fun c_32 => ?_)
                      · skip
                        refine lv_iconst (v := 0) hx hb dX10_scan_221 (by decide) ?_
                        refine lv_iconst (v := 0) hx hb dX10_scan_222 (by decide) ?_
                        obtain ⟨v_35, hv_35, hh_36⟩ := hh_11.pin (C := RX10) (T := TX10) (N := 11) hB12 rfl (by decide) hg_r0 (i := 3) (by decide) rfl
                        obtain ⟨tokens_37, rfl, hlotokens_37, hhitokens_37⟩ := hv_35
                        refine va_callv (A0 := jA base) (H0 := s.heap) (va_runV (As := [.int 0, .int 0]) (rest := []) ⟨hx, hb, hml, hown, hts⟩ (uX10_add l dC dI ca base B hB hAp hB12 hB101 G0 H_11 r0 0 0 tokens_37) (cwV 2 hts gX10_scan_X10_add rfl rfl rfl (by decide +kernel) ⟨by rw [← hR]; exact Nat.le_of_ble_eq_true rfl, by rw [← hR]; exact Nat.le_of_ble_eq_true rfl⟩) ⟨fun a U g mk q => by obtain ⟨q0, q1, q2, qK, q10, q11, q12⟩ := q; exact ⟨q0, q1, q2, jG.calling g mk a qK, q10, q11, q12⟩, hh_36.recv (C := RX10) (T := TX10) (N := 11) hB12 rfl (by decide) hg_r0 hK, fun U hU hW => ⟨rfl, hU, hh_36.2.1, hG.step hW hU hh_36.1, hg_r0, (hh_36.2.2.1.sub (L1 := [(r0, 12, 3, .int tokens_37)]) [0] rfl), by first | omega | (refine ⟨?_, ?_⟩ <;> (first | omega | rfl | assumption | decide | exact Or.inl rfl | exact Or.inr rfl | (simp only; omega)))⟩⟩ rfl rfl hl.1 rfl (lv_room (Nat.le_of_ble_eq_true rfl)) dX10_scan_223 ⟨Nat.zero_le _, Nat.zero_le _⟩) hh_36.1 (fun q _ h => h) (fun q h => h) (fun u_33 t_33 H_33 locs_33 ht_33 hvm_33 hr_34 hb_33 hz_33 hk_33 hS_33 => ?_)
                        obtain ⟨qk_33, rfl⟩ : ∃ z, z = u_33 := ⟨_, rfl⟩
                        rw [ht_33] at hb_33
                        obtain ⟨hb_331, hb_332, hb_333, hb_334, hb_335⟩ := hb_33
                        have hh_33 : jSt (dC, dI) B base G0 G0 EX10_scan s.heap 0 0 [(r0, 12, 3, .int qk_33)] [] [] H_33 locs_33 := (hh_36.call hb_331 hb_332 hb_333 hb_334 hS_33 rfl (L1 := []) [] rfl rfl (M1 := []) [] rfl rfl (I1 := []) [] rfl rfl).more hb_335
                        clear hh_36 ht_33 hvm_33 hz_33 hk_33 hS_33 hb_331 hb_332 hb_333 hb_334 hb_335
                        obtain ⟨hr_34_0, hr_34_1, hr_34_2⟩ := hr_34
                        exact C226 z_10 z_10 _ _ (hh_33.sub (L1 := []) [] rfl (M1 := []) [] rfl (I1 := []) [] rfl) (by first | omega | (refine ⟨?_, ?_⟩ <;> (first | omega | rfl | assumption | decide | exact Or.inl rfl | exact Or.inr rfl | (simp only; omega)))) _ (lv_sub hl [2, 3, 4, 5, 6, 7, 1, 1] rfl)
                      · skip
                        exact absurd c_32 (by decide)
                    · skip
                      have c_31' : z_30.toInt < 128 := jb_ge_n (rfl) ((by decide)) c_31
                      obtain ⟨str_38, rstr_38, hstr_380⟩ := hG.str (o := RX10) (k := 66) (tx := "*+~=:,()") (List.mem_of_getElem? (i := 1152) (by decide +kernel))
                      have hstr_38 : jStr base str_38 8 s s.heap := hstr_380
                      refine va_ldcS hx hb hown rstr_38 dX10_scan_188 ?_
                      refine lv_aload_n hx hb dX10_scan_190 rfl (lv_at hl 2 rfl) ?_
                      refine lv_iload hx hb dX10_scan_191 (lv_at hl 6 rfl) ?_
                      refine j7_iald hx hb hK hh_11 hB101 1 rfl (by decide) hg_r1 (rfl) (by omega) dX10_scan_193 (fun z_39 (hz_39 : True) => ?_)
                      refine lv_i2c hx hb dX10_scan_194 rfl ?_
                      refine lv_topi (fun z_40 ez_40 => ?_)
                      refine vp_callSi (W.runV (As := [.int z_40]) (rest := []) ⟨hx, hb, hml, hown, hts⟩ (kJ0_indexOf_0f7a4 l dC dI ca base H_11 str_38 8 z_40) (cwV 1 hts gX10_scan_J0_indexOf_0f7a4 rfl rfl rfl (by decide +kernel) ⟨by rw [← hR]; exact Nat.le_of_ble_eq_true rfl, by rw [← hR]; exact Nat.le_of_ble_eq_true rfl⟩) ⟨fun a U g mk q => by obtain ⟨q0, q1, q2, qK, q9⟩ := q; exact ⟨q0, q1, (q2.moved (Vm.Alike.refl U.vm)), jG.calling g mk a qK, q9⟩, jStr_recv hstr_38 hh_11.1, fun U hU hW => ⟨rfl, hU, (hstr_38.moved hW.alike).kept hh_11.1.2.1, hG.step hW hU hh_11.1, by omega⟩⟩ rfl rfl hl.1 rfl (lv_room (Nat.le_of_ble_eq_true rfl)) dX10_scan_195 ⟨Nat.zero_le _, Nat.zero_le _⟩) (fun r_41 hr_41 => ?_)
                      refine lv_if_lt (tgt := 205) hx hb dX10_scan_198 (by decide) (fun c_42 => ?_) (fun c_42 => ?_)
                      · skip
                        have c_42' : r_41.toInt < 0 := jb_lt (rfl) ((by decide)) c_42
                        refine lv_iconst (v := 0) hx hb dX10_scan_205 (by decide) ?_
                        refine lv_istore (lv' := [(7, .int 0), (6, .int z_10), (0, .ref r0), (1, .ref r1), (2, .int a2), (3, .int a3), (4, .int z_3), (5, .int v5_5)]) hx hb dX10_scan_206 hl (by decide) rfl (fun ls hl => ?_)
                        refine lv_aload_n hx hb dX10_scan_208 rfl (lv_at hl 2 rfl) ?_
                        refine lv_iload hx hb dX10_scan_209 (lv_at hl 0 rfl) ?_
                        refine lv_if_eq (tgt := 221) hx hb dX10_scan_211 (by decide) (fun c_43 => ?_) (fun c_43 => ?_)
                        · skip
                          refine lv_iconst (v := 0) hx hb dX10_scan_221 (by decide) ?_
                          refine lv_iconst (v := 0) hx hb dX10_scan_222 (by decide) ?_
                          obtain ⟨v_46, hv_46, hh_47⟩ := hh_11.pin (C := RX10) (T := TX10) (N := 11) hB12 rfl (by decide) hg_r0 (i := 3) (by decide) rfl
                          obtain ⟨tokens_48, rfl, hlotokens_48, hhitokens_48⟩ := hv_46
                          refine va_callv (A0 := jA base) (H0 := s.heap) (va_runV (As := [.int 0, .int 0]) (rest := []) ⟨hx, hb, hml, hown, hts⟩ (uX10_add l dC dI ca base B hB hAp hB12 hB101 G0 H_11 r0 0 0 tokens_48) (cwV 2 hts gX10_scan_X10_add rfl rfl rfl (by decide +kernel) ⟨by rw [← hR]; exact Nat.le_of_ble_eq_true rfl, by rw [← hR]; exact Nat.le_of_ble_eq_true rfl⟩) ⟨fun a U g mk q => by obtain ⟨q0, q1, q2, qK, q10, q11, q12⟩ := q; exact ⟨q0, q1, q2, jG.calling g mk a qK, q10, q11, q12⟩, hh_47.recv (C := RX10) (T := TX10) (N := 11) hB12 rfl (by decide) hg_r0 hK, fun U hU hW => ⟨rfl, hU, hh_47.2.1, hG.step hW hU hh_47.1, hg_r0, (hh_47.2.2.1.sub (L1 := [(r0, 12, 3, .int tokens_48)]) [0] rfl), by first | omega | (refine ⟨?_, ?_⟩ <;> (first | omega | rfl | assumption | decide | exact Or.inl rfl | exact Or.inr rfl | (simp only; omega)))⟩⟩ rfl rfl hl.1 rfl (lv_room (Nat.le_of_ble_eq_true rfl)) dX10_scan_223 ⟨Nat.zero_le _, Nat.zero_le _⟩) hh_47.1 (fun q _ h => h) (fun q h => h) (fun u_44 t_44 H_44 locs_44 ht_44 hvm_44 hr_45 hb_44 hz_44 hk_44 hS_44 => ?_)
                          obtain ⟨qk_44, rfl⟩ : ∃ z, z = u_44 := ⟨_, rfl⟩
                          rw [ht_44] at hb_44
                          obtain ⟨hb_441, hb_442, hb_443, hb_444, hb_445⟩ := hb_44
                          have hh_44 : jSt (dC, dI) B base G0 G0 EX10_scan s.heap 0 0 [(r0, 12, 3, .int qk_44)] [] [] H_44 locs_44 := (hh_47.call hb_441 hb_442 hb_443 hb_444 hS_44 rfl (L1 := []) [] rfl rfl (M1 := []) [] rfl rfl (I1 := []) [] rfl rfl).more hb_445
                          clear hh_47 ht_44 hvm_44 hz_44 hk_44 hS_44 hb_441 hb_442 hb_443 hb_444 hb_445
                          obtain ⟨hr_45_0, hr_45_1, hr_45_2⟩ := hr_45
                          exact C226 z_10 z_10 _ _ (hh_44.sub (L1 := []) [] rfl (M1 := []) [] rfl (I1 := []) [] rfl) (by first | omega | (refine ⟨?_, ?_⟩ <;> (first | omega | rfl | assumption | decide | exact Or.inl rfl | exact Or.inr rfl | (simp only; omega)))) _ (lv_sub hl [2, 3, 4, 5, 6, 7, 1, 1] rfl)
                        · skip
                          exact absurd c_43 (by decide)
                      · skip
                        have c_42' : r_41.toInt ≥ 0 := jb_lt_n (rfl) ((by decide)) c_42
                        refine lv_iconst (v := 1) hx hb dX10_scan_201 (by decide) ?_
                        refine lv_goto (tgt := 206) hx hb dX10_scan_202 (by decide) ?_
                        refine lv_istore (lv' := [(7, .int 1), (6, .int z_10), (0, .ref r0), (1, .ref r1), (2, .int a2), (3, .int a3), (4, .int z_3), (5, .int v5_5)]) hx hb dX10_scan_206 hl (by decide) rfl (fun ls hl => ?_)
                        refine lv_aload_n hx hb dX10_scan_208 rfl (lv_at hl 2 rfl) ?_
                        refine lv_iload hx hb dX10_scan_209 (lv_at hl 0 rfl) ?_
                        refine lv_if_eq (tgt := 221) hx hb dX10_scan_211 (by decide) (fun c_49 => ?_) (fun c_49 => ?_)
                        · skip
                          exact absurd c_49 (by decide)
                        · skip
                          refine lv_aload_n hx hb dX10_scan_214 rfl (lv_at hl 3 rfl) ?_
                          refine lv_iload hx hb dX10_scan_215 (lv_at hl 7 rfl) ?_
                          refine j7_iald hx hb hK hh_11 hB101 1 rfl (by decide) hg_r1 (rfl) (by omega) dX10_scan_217 (fun z_50 (hz_50 : True) => ?_)
                          refine lv_goto (tgt := 222) hx hb dX10_scan_218 (by decide) ?_
                          refine lv_iconst (v := 0) hx hb dX10_scan_222 (by decide) ?_
                          obtain ⟨v_53, hv_53, hh_54⟩ := hh_11.pin (C := RX10) (T := TX10) (N := 11) hB12 rfl (by decide) hg_r0 (i := 3) (by decide) rfl
                          obtain ⟨tokens_55, rfl, hlotokens_55, hhitokens_55⟩ := hv_53
                          refine va_callv (A0 := jA base) (H0 := s.heap) (va_runV (As := [.int z_50, .int 0]) (rest := []) ⟨hx, hb, hml, hown, hts⟩ (uX10_add l dC dI ca base B hB hAp hB12 hB101 G0 H_11 r0 z_50 0 tokens_55) (cwV 2 hts gX10_scan_X10_add rfl rfl rfl (by decide +kernel) ⟨by rw [← hR]; exact Nat.le_of_ble_eq_true rfl, by rw [← hR]; exact Nat.le_of_ble_eq_true rfl⟩) ⟨fun a U g mk q => by obtain ⟨q0, q1, q2, qK, q10, q11, q12⟩ := q; exact ⟨q0, q1, q2, jG.calling g mk a qK, q10, q11, q12⟩, hh_54.recv (C := RX10) (T := TX10) (N := 11) hB12 rfl (by decide) hg_r0 hK, fun U hU hW => ⟨rfl, hU, hh_54.2.1, hG.step hW hU hh_54.1, hg_r0, (hh_54.2.2.1.sub (L1 := [(r0, 12, 3, .int tokens_55)]) [0] rfl), by first | omega | (refine ⟨?_, ?_⟩ <;> (first | omega | rfl | assumption | decide | exact Or.inl rfl | exact Or.inr rfl | (simp only; omega)))⟩⟩ rfl rfl hl.1 rfl (lv_room (Nat.le_of_ble_eq_true rfl)) dX10_scan_223 ⟨Nat.zero_le _, Nat.zero_le _⟩) hh_54.1 (fun q _ h => h) (fun q h => h) (fun u_51 t_51 H_51 locs_51 ht_51 hvm_51 hr_52 hb_51 hz_51 hk_51 hS_51 => ?_)
                          obtain ⟨qk_51, rfl⟩ : ∃ z, z = u_51 := ⟨_, rfl⟩
                          rw [ht_51] at hb_51
                          obtain ⟨hb_511, hb_512, hb_513, hb_514, hb_515⟩ := hb_51
                          have hh_51 : jSt (dC, dI) B base G0 G0 EX10_scan s.heap 0 0 [(r0, 12, 3, .int qk_51)] [] [] H_51 locs_51 := (hh_54.call hb_511 hb_512 hb_513 hb_514 hS_51 rfl (L1 := []) [] rfl rfl (M1 := []) [] rfl rfl (I1 := []) [] rfl rfl).more hb_515
                          clear hh_54 ht_51 hvm_51 hz_51 hk_51 hS_51 hb_511 hb_512 hb_513 hb_514 hb_515
                          obtain ⟨hr_52_0, hr_52_1, hr_52_2⟩ := hr_52
                          exact C226 z_10 z_10 _ _ (hh_51.sub (L1 := []) [] rfl (M1 := []) [] rfl (I1 := []) [] rfl) (by first | omega | (refine ⟨?_, ?_⟩ <;> (first | omega | rfl | assumption | decide | exact Or.inl rfl | exact Or.inr rfl | (simp only; omega)))) _ (lv_sub hl [2, 3, 4, 5, 6, 7, 1, 1] rfl)
                  · skip
                    have c_29' : z_28.toInt = 46 := jb_ne_n (rfl) ((by decide)) c_29
                    refine lv_iload hx hb dX10_scan_171 (lv_at hl 0 rfl) ?_
                    refine lv_iload hx hb dX10_scan_173 (lv_at hl 5 rfl) ?_
                    refine lv_icmp_eq (tgt := 201) hx hb dX10_scan_175 (by decide) (fun c_56 => ?_) (fun c_56 => ?_)
                    · skip
                      have c_56' : z_10.toInt = z_3.toInt := jb_eq (rfl) (rfl) c_56
                      first | replace hr_12p := hr_12p.resolve_left (by omega) | replace hr_12p := hr_12p.resolve_right (by omega) | skip
                      refine lv_iconst (v := 1) hx hb dX10_scan_201 (by decide) ?_
                      refine lv_goto (tgt := 206) hx hb dX10_scan_202 (by decide) ?_
                      refine lv_istore (lv' := [(7, .int 1), (6, .int z_10), (0, .ref r0), (1, .ref r1), (2, .int a2), (3, .int a3), (4, .int z_3), (5, .int v5_5)]) hx hb dX10_scan_206 hl (by decide) rfl (fun ls hl => ?_)
                      refine lv_aload_n hx hb dX10_scan_208 rfl (lv_at hl 2 rfl) ?_
                      refine lv_iload hx hb dX10_scan_209 (lv_at hl 0 rfl) ?_
                      refine lv_if_eq (tgt := 221) hx hb dX10_scan_211 (by decide) (fun c_57 => ?_) (fun c_57 => ?_)
                      · skip
                        exact absurd c_57 (by decide)
                      · skip
                        refine lv_aload_n hx hb dX10_scan_214 rfl (lv_at hl 3 rfl) ?_
                        refine lv_iload hx hb dX10_scan_215 (lv_at hl 7 rfl) ?_
                        refine j7_iald hx hb hK hh_11 hB101 1 rfl (by decide) hg_r1 (rfl) (by omega) dX10_scan_217 (fun z_58 (hz_58 : True) => ?_)
                        refine lv_goto (tgt := 222) hx hb dX10_scan_218 (by decide) ?_
                        refine lv_iconst (v := 0) hx hb dX10_scan_222 (by decide) ?_
                        obtain ⟨v_61, hv_61, hh_62⟩ := hh_11.pin (C := RX10) (T := TX10) (N := 11) hB12 rfl (by decide) hg_r0 (i := 3) (by decide) rfl
                        obtain ⟨tokens_63, rfl, hlotokens_63, hhitokens_63⟩ := hv_61
                        refine va_callv (A0 := jA base) (H0 := s.heap) (va_runV (As := [.int z_58, .int 0]) (rest := []) ⟨hx, hb, hml, hown, hts⟩ (uX10_add l dC dI ca base B hB hAp hB12 hB101 G0 H_11 r0 z_58 0 tokens_63) (cwV 2 hts gX10_scan_X10_add rfl rfl rfl (by decide +kernel) ⟨by rw [← hR]; exact Nat.le_of_ble_eq_true rfl, by rw [← hR]; exact Nat.le_of_ble_eq_true rfl⟩) ⟨fun a U g mk q => by obtain ⟨q0, q1, q2, qK, q10, q11, q12⟩ := q; exact ⟨q0, q1, q2, jG.calling g mk a qK, q10, q11, q12⟩, hh_62.recv (C := RX10) (T := TX10) (N := 11) hB12 rfl (by decide) hg_r0 hK, fun U hU hW => ⟨rfl, hU, hh_62.2.1, hG.step hW hU hh_62.1, hg_r0, (hh_62.2.2.1.sub (L1 := [(r0, 12, 3, .int tokens_63)]) [0] rfl), by first | omega | (refine ⟨?_, ?_⟩ <;> (first | omega | rfl | assumption | decide | exact Or.inl rfl | exact Or.inr rfl | (simp only; omega)))⟩⟩ rfl rfl hl.1 rfl (lv_room (Nat.le_of_ble_eq_true rfl)) dX10_scan_223 ⟨Nat.zero_le _, Nat.zero_le _⟩) hh_62.1 (fun q _ h => h) (fun q h => h) (fun u_59 t_59 H_59 locs_59 ht_59 hvm_59 hr_60 hb_59 hz_59 hk_59 hS_59 => ?_)
                        obtain ⟨qk_59, rfl⟩ : ∃ z, z = u_59 := ⟨_, rfl⟩
                        rw [ht_59] at hb_59
                        obtain ⟨hb_591, hb_592, hb_593, hb_594, hb_595⟩ := hb_59
                        have hh_59 : jSt (dC, dI) B base G0 G0 EX10_scan s.heap 0 0 [(r0, 12, 3, .int qk_59)] [] [] H_59 locs_59 := (hh_62.call hb_591 hb_592 hb_593 hb_594 hS_59 rfl (L1 := []) [] rfl rfl (M1 := []) [] rfl rfl (I1 := []) [] rfl rfl).more hb_595
                        clear hh_62 ht_59 hvm_59 hz_59 hk_59 hS_59 hb_591 hb_592 hb_593 hb_594 hb_595
                        obtain ⟨hr_60_0, hr_60_1, hr_60_2⟩ := hr_60
                        exact C226 z_10 z_10 _ _ (hh_59.sub (L1 := []) [] rfl (M1 := []) [] rfl (I1 := []) [] rfl) (by first | omega | (refine ⟨?_, ?_⟩ <;> (first | omega | rfl | assumption | decide | exact Or.inl rfl | exact Or.inr rfl | (simp only; omega)))) _ (lv_sub hl [2, 3, 4, 5, 6, 7, 1, 1] rfl)
                    · skip
                      have c_56' : z_10.toInt ≠ z_3.toInt := jb_eq_n (rfl) (rfl) c_56
                      first | replace hr_12p := hr_12p.resolve_left (by omega) | replace hr_12p := hr_12p.resolve_right (by omega) | skip
                      refine lv_aload_n hx hb dX10_scan_178 rfl (lv_at hl 2 rfl) ?_
                      refine lv_iload hx hb dX10_scan_179 (lv_at hl 6 rfl) ?_
                      refine j7_iald hx hb hK hh_11 hB101 1 rfl (by decide) hg_r1 (rfl) (by omega) dX10_scan_181 (fun z_64 (hz_64 : True) => ?_)
                      refine lv_sipush (v := 128) hx hb dX10_scan_182 (by decide) ?_
                      refine lv_icmp_ge (tgt := 205) hx hb dX10_scan_185 (by decide) (fun c_65 => ?_) (fun c_65 => ?_)
                      · skip
                        have c_65' : z_64.toInt ≥ 128 := jb_ge (rfl) ((by decide)) c_65
                        refine lv_iconst (v := 0) hx hb dX10_scan_205 (by decide) ?_
                        refine lv_istore (lv' := [(7, .int 0), (6, .int z_10), (0, .ref r0), (1, .ref r1), (2, .int a2), (3, .int a3), (4, .int z_3), (5, .int v5_5)]) hx hb dX10_scan_206 hl (by decide) rfl (fun ls hl => ?_)
                        refine lv_aload_n hx hb dX10_scan_208 rfl (lv_at hl 2 rfl) ?_
                        refine lv_iload hx hb dX10_scan_209 (lv_at hl 0 rfl) ?_
                        refine lv_if_eq (tgt := 221) hx hb dX10_scan_211 (by decide) (fun c_66 => ?_) (fun c_66 => ?_)
                        · skip
                          refine lv_iconst (v := 0) hx hb dX10_scan_221 (by decide) ?_
                          refine lv_iconst (v := 0) hx hb dX10_scan_222 (by decide) ?_
                          obtain ⟨v_69, hv_69, hh_70⟩ := hh_11.pin (C := RX10) (T := TX10) (N := 11) hB12 rfl (by decide) hg_r0 (i := 3) (by decide) rfl
                          obtain ⟨tokens_71, rfl, hlotokens_71, hhitokens_71⟩ := hv_69
                          refine va_callv (A0 := jA base) (H0 := s.heap) (va_runV (As := [.int 0, .int 0]) (rest := []) ⟨hx, hb, hml, hown, hts⟩ (uX10_add l dC dI ca base B hB hAp hB12 hB101 G0 H_11 r0 0 0 tokens_71) (cwV 2 hts gX10_scan_X10_add rfl rfl rfl (by decide +kernel) ⟨by rw [← hR]; exact Nat.le_of_ble_eq_true rfl, by rw [← hR]; exact Nat.le_of_ble_eq_true rfl⟩) ⟨fun a U g mk q => by obtain ⟨q0, q1, q2, qK, q10, q11, q12⟩ := q; exact ⟨q0, q1, q2, jG.calling g mk a qK, q10, q11, q12⟩, hh_70.recv (C := RX10) (T := TX10) (N := 11) hB12 rfl (by decide) hg_r0 hK, fun U hU hW => ⟨rfl, hU, hh_70.2.1, hG.step hW hU hh_70.1, hg_r0, (hh_70.2.2.1.sub (L1 := [(r0, 12, 3, .int tokens_71)]) [0] rfl), by first | omega | (refine ⟨?_, ?_⟩ <;> (first | omega | rfl | assumption | decide | exact Or.inl rfl | exact Or.inr rfl | (simp only; omega)))⟩⟩ rfl rfl hl.1 rfl (lv_room (Nat.le_of_ble_eq_true rfl)) dX10_scan_223 ⟨Nat.zero_le _, Nat.zero_le _⟩) hh_70.1 (fun q _ h => h) (fun q h => h) (fun u_67 t_67 H_67 locs_67 ht_67 hvm_67 hr_68 hb_67 hz_67 hk_67 hS_67 => ?_)
                          obtain ⟨qk_67, rfl⟩ : ∃ z, z = u_67 := ⟨_, rfl⟩
                          rw [ht_67] at hb_67
                          obtain ⟨hb_671, hb_672, hb_673, hb_674, hb_675⟩ := hb_67
                          have hh_67 : jSt (dC, dI) B base G0 G0 EX10_scan s.heap 0 0 [(r0, 12, 3, .int qk_67)] [] [] H_67 locs_67 := (hh_70.call hb_671 hb_672 hb_673 hb_674 hS_67 rfl (L1 := []) [] rfl rfl (M1 := []) [] rfl rfl (I1 := []) [] rfl rfl).more hb_675
                          clear hh_70 ht_67 hvm_67 hz_67 hk_67 hS_67 hb_671 hb_672 hb_673 hb_674 hb_675
                          obtain ⟨hr_68_0, hr_68_1, hr_68_2⟩ := hr_68
                          exact C226 z_10 z_10 _ _ (hh_67.sub (L1 := []) [] rfl (M1 := []) [] rfl (I1 := []) [] rfl) (by first | omega | (refine ⟨?_, ?_⟩ <;> (first | omega | rfl | assumption | decide | exact Or.inl rfl | exact Or.inr rfl | (simp only; omega)))) _ (lv_sub hl [2, 3, 4, 5, 6, 7, 1, 1] rfl)
                        · skip
                          exact absurd c_66 (by decide)
                      · skip
                        have c_65' : z_64.toInt < 128 := jb_ge_n (rfl) ((by decide)) c_65
                        obtain ⟨str_72, rstr_72, hstr_720⟩ := hG.str (o := RX10) (k := 66) (tx := "*+~=:,()") (List.mem_of_getElem? (i := 1152) (by decide +kernel))
                        have hstr_72 : jStr base str_72 8 s s.heap := hstr_720
                        refine va_ldcS hx hb hown rstr_72 dX10_scan_188 ?_
                        refine lv_aload_n hx hb dX10_scan_190 rfl (lv_at hl 2 rfl) ?_
                        refine lv_iload hx hb dX10_scan_191 (lv_at hl 6 rfl) ?_
                        refine j7_iald hx hb hK hh_11 hB101 1 rfl (by decide) hg_r1 (rfl) (by omega) dX10_scan_193 (fun z_73 (hz_73 : True) => ?_)
                        refine lv_i2c hx hb dX10_scan_194 rfl ?_
                        refine lv_topi (fun z_74 ez_74 => ?_)
                        refine vp_callSi (W.runV (As := [.int z_74]) (rest := []) ⟨hx, hb, hml, hown, hts⟩ (kJ0_indexOf_0f7a4 l dC dI ca base H_11 str_72 8 z_74) (cwV 1 hts gX10_scan_J0_indexOf_0f7a4 rfl rfl rfl (by decide +kernel) ⟨by rw [← hR]; exact Nat.le_of_ble_eq_true rfl, by rw [← hR]; exact Nat.le_of_ble_eq_true rfl⟩) ⟨fun a U g mk q => by obtain ⟨q0, q1, q2, qK, q9⟩ := q; exact ⟨q0, q1, (q2.moved (Vm.Alike.refl U.vm)), jG.calling g mk a qK, q9⟩, jStr_recv hstr_72 hh_11.1, fun U hU hW => ⟨rfl, hU, (hstr_72.moved hW.alike).kept hh_11.1.2.1, hG.step hW hU hh_11.1, by omega⟩⟩ rfl rfl hl.1 rfl (lv_room (Nat.le_of_ble_eq_true rfl)) dX10_scan_195 ⟨Nat.zero_le _, Nat.zero_le _⟩) (fun r_75 hr_75 => ?_)
                        refine lv_if_lt (tgt := 205) hx hb dX10_scan_198 (by decide) (fun c_76 => ?_) (fun c_76 => ?_)
                        · skip
                          have c_76' : r_75.toInt < 0 := jb_lt (rfl) ((by decide)) c_76
                          refine lv_iconst (v := 0) hx hb dX10_scan_205 (by decide) ?_
                          refine lv_istore (lv' := [(7, .int 0), (6, .int z_10), (0, .ref r0), (1, .ref r1), (2, .int a2), (3, .int a3), (4, .int z_3), (5, .int v5_5)]) hx hb dX10_scan_206 hl (by decide) rfl (fun ls hl => ?_)
                          refine lv_aload_n hx hb dX10_scan_208 rfl (lv_at hl 2 rfl) ?_
                          refine lv_iload hx hb dX10_scan_209 (lv_at hl 0 rfl) ?_
                          refine lv_if_eq (tgt := 221) hx hb dX10_scan_211 (by decide) (fun c_77 => ?_) (fun c_77 => ?_)
                          · skip
                            refine lv_iconst (v := 0) hx hb dX10_scan_221 (by decide) ?_
                            refine lv_iconst (v := 0) hx hb dX10_scan_222 (by decide) ?_
                            obtain ⟨v_80, hv_80, hh_81⟩ := hh_11.pin (C := RX10) (T := TX10) (N := 11) hB12 rfl (by decide) hg_r0 (i := 3) (by decide) rfl
                            obtain ⟨tokens_82, rfl, hlotokens_82, hhitokens_82⟩ := hv_80
                            refine va_callv (A0 := jA base) (H0 := s.heap) (va_runV (As := [.int 0, .int 0]) (rest := []) ⟨hx, hb, hml, hown, hts⟩ (uX10_add l dC dI ca base B hB hAp hB12 hB101 G0 H_11 r0 0 0 tokens_82) (cwV 2 hts gX10_scan_X10_add rfl rfl rfl (by decide +kernel) ⟨by rw [← hR]; exact Nat.le_of_ble_eq_true rfl, by rw [← hR]; exact Nat.le_of_ble_eq_true rfl⟩) ⟨fun a U g mk q => by obtain ⟨q0, q1, q2, qK, q10, q11, q12⟩ := q; exact ⟨q0, q1, q2, jG.calling g mk a qK, q10, q11, q12⟩, hh_81.recv (C := RX10) (T := TX10) (N := 11) hB12 rfl (by decide) hg_r0 hK, fun U hU hW => ⟨rfl, hU, hh_81.2.1, hG.step hW hU hh_81.1, hg_r0, (hh_81.2.2.1.sub (L1 := [(r0, 12, 3, .int tokens_82)]) [0] rfl), by first | omega | (refine ⟨?_, ?_⟩ <;> (first | omega | rfl | assumption | decide | exact Or.inl rfl | exact Or.inr rfl | (simp only; omega)))⟩⟩ rfl rfl hl.1 rfl (lv_room (Nat.le_of_ble_eq_true rfl)) dX10_scan_223 ⟨Nat.zero_le _, Nat.zero_le _⟩) hh_81.1 (fun q _ h => h) (fun q h => h) (fun u_78 t_78 H_78 locs_78 ht_78 hvm_78 hr_79 hb_78 hz_78 hk_78 hS_78 => ?_)
                            obtain ⟨qk_78, rfl⟩ : ∃ z, z = u_78 := ⟨_, rfl⟩
                            rw [ht_78] at hb_78
                            obtain ⟨hb_781, hb_782, hb_783, hb_784, hb_785⟩ := hb_78
                            have hh_78 : jSt (dC, dI) B base G0 G0 EX10_scan s.heap 0 0 [(r0, 12, 3, .int qk_78)] [] [] H_78 locs_78 := (hh_81.call hb_781 hb_782 hb_783 hb_784 hS_78 rfl (L1 := []) [] rfl rfl (M1 := []) [] rfl rfl (I1 := []) [] rfl rfl).more hb_785
                            clear hh_81 ht_78 hvm_78 hz_78 hk_78 hS_78 hb_781 hb_782 hb_783 hb_784 hb_785
                            obtain ⟨hr_79_0, hr_79_1, hr_79_2⟩ := hr_79
                            exact C226 z_10 z_10 _ _ (hh_78.sub (L1 := []) [] rfl (M1 := []) [] rfl (I1 := []) [] rfl) (by first | omega | (refine ⟨?_, ?_⟩ <;> (first | omega | rfl | assumption | decide | exact Or.inl rfl | exact Or.inr rfl | (simp only; omega)))) _ (lv_sub hl [2, 3, 4, 5, 6, 7, 1, 1] rfl)
                          · skip
                            exact absurd c_77 (by decide)
                        · skip
                          have c_76' : r_75.toInt ≥ 0 := jb_lt_n (rfl) ((by decide)) c_76
                          refine lv_iconst (v := 1) hx hb dX10_scan_201 (by decide) ?_
                          refine lv_goto (tgt := 206) hx hb dX10_scan_202 (by decide) ?_
                          refine lv_istore (lv' := [(7, .int 1), (6, .int z_10), (0, .ref r0), (1, .ref r1), (2, .int a2), (3, .int a3), (4, .int z_3), (5, .int v5_5)]) hx hb dX10_scan_206 hl (by decide) rfl (fun ls hl => ?_)
                          refine lv_aload_n hx hb dX10_scan_208 rfl (lv_at hl 2 rfl) ?_
                          refine lv_iload hx hb dX10_scan_209 (lv_at hl 0 rfl) ?_
                          refine lv_if_eq (tgt := 221) hx hb dX10_scan_211 (by decide) (fun c_83 => ?_) (fun c_83 => ?_)
                          · skip
                            exact absurd c_83 (by decide)
                          · skip
                            refine lv_aload_n hx hb dX10_scan_214 rfl (lv_at hl 3 rfl) ?_
                            refine lv_iload hx hb dX10_scan_215 (lv_at hl 7 rfl) ?_
                            refine j7_iald hx hb hK hh_11 hB101 1 rfl (by decide) hg_r1 (rfl) (by omega) dX10_scan_217 (fun z_84 (hz_84 : True) => ?_)
                            refine lv_goto (tgt := 222) hx hb dX10_scan_218 (by decide) ?_
                            refine lv_iconst (v := 0) hx hb dX10_scan_222 (by decide) ?_
                            obtain ⟨v_87, hv_87, hh_88⟩ := hh_11.pin (C := RX10) (T := TX10) (N := 11) hB12 rfl (by decide) hg_r0 (i := 3) (by decide) rfl
                            obtain ⟨tokens_89, rfl, hlotokens_89, hhitokens_89⟩ := hv_87
                            refine va_callv (A0 := jA base) (H0 := s.heap) (va_runV (As := [.int z_84, .int 0]) (rest := []) ⟨hx, hb, hml, hown, hts⟩ (uX10_add l dC dI ca base B hB hAp hB12 hB101 G0 H_11 r0 z_84 0 tokens_89) (cwV 2 hts gX10_scan_X10_add rfl rfl rfl (by decide +kernel) ⟨by rw [← hR]; exact Nat.le_of_ble_eq_true rfl, by rw [← hR]; exact Nat.le_of_ble_eq_true rfl⟩) ⟨fun a U g mk q => by obtain ⟨q0, q1, q2, qK, q10, q11, q12⟩ := q; exact ⟨q0, q1, q2, jG.calling g mk a qK, q10, q11, q12⟩, hh_88.recv (C := RX10) (T := TX10) (N := 11) hB12 rfl (by decide) hg_r0 hK, fun U hU hW => ⟨rfl, hU, hh_88.2.1, hG.step hW hU hh_88.1, hg_r0, (hh_88.2.2.1.sub (L1 := [(r0, 12, 3, .int tokens_89)]) [0] rfl), by first | omega | (refine ⟨?_, ?_⟩ <;> (first | omega | rfl | assumption | decide | exact Or.inl rfl | exact Or.inr rfl | (simp only; omega)))⟩⟩ rfl rfl hl.1 rfl (lv_room (Nat.le_of_ble_eq_true rfl)) dX10_scan_223 ⟨Nat.zero_le _, Nat.zero_le _⟩) hh_88.1 (fun q _ h => h) (fun q h => h) (fun u_85 t_85 H_85 locs_85 ht_85 hvm_85 hr_86 hb_85 hz_85 hk_85 hS_85 => ?_)
                            obtain ⟨qk_85, rfl⟩ : ∃ z, z = u_85 := ⟨_, rfl⟩
                            rw [ht_85] at hb_85
                            obtain ⟨hb_851, hb_852, hb_853, hb_854, hb_855⟩ := hb_85
                            have hh_85 : jSt (dC, dI) B base G0 G0 EX10_scan s.heap 0 0 [(r0, 12, 3, .int qk_85)] [] [] H_85 locs_85 := (hh_88.call hb_851 hb_852 hb_853 hb_854 hS_85 rfl (L1 := []) [] rfl rfl (M1 := []) [] rfl rfl (I1 := []) [] rfl rfl).more hb_855
                            clear hh_88 ht_85 hvm_85 hz_85 hk_85 hS_85 hb_851 hb_852 hb_853 hb_854 hb_855
                            obtain ⟨hr_86_0, hr_86_1, hr_86_2⟩ := hr_86
                            exact C226 z_10 z_10 _ _ (hh_85.sub (L1 := []) [] rfl (M1 := []) [] rfl (I1 := []) [] rfl) (by first | omega | (refine ⟨?_, ?_⟩ <;> (first | omega | rfl | assumption | decide | exact Or.inl rfl | exact Or.inr rfl | (simp only; omega)))) _ (lv_sub hl [2, 3, 4, 5, 6, 7, 1, 1] rfl)
              · skip
                have c_24' : r_23.toInt ≠ 0 := jb_eq_n (rfl) ((by decide)) c_24
                refine lv_aload_n hx hb dX10_scan_136 rfl (lv_at hl 1 rfl) ?_
                refine lv_bipush (v := 100) hx hb dX10_scan_137 (by decide) ?_
                refine lv_aload_n hx hb dX10_scan_139 rfl (lv_at hl 2 rfl) ?_
                refine lv_iload hx hb dX10_scan_140 (lv_at hl 6 rfl) ?_
                refine j7_iald hx hb hK hh_11 hB101 1 rfl (by decide) hg_r1 (rfl) (by omega) dX10_scan_142 (fun z_90 (hz_90 : True) => ?_)
                refine lv_bipush (v := 48) hx hb dX10_scan_143 (by decide) ?_
                refine lv_isub hx hb dX10_scan_145 ?_
                refine lv_topi (fun z_91 ez_91 => ?_)
                obtain ⟨v_94, hv_94, hh_95⟩ := hh_11.pin (C := RX10) (T := TX10) (N := 11) hB12 rfl (by decide) hg_r0 (i := 3) (by decide) rfl
                obtain ⟨tokens_96, rfl, hlotokens_96, hhitokens_96⟩ := hv_94
                refine va_callv (A0 := jA base) (H0 := s.heap) (va_runV (As := [.int 100, .int z_91]) (rest := []) ⟨hx, hb, hml, hown, hts⟩ (uX10_add l dC dI ca base B hB hAp hB12 hB101 G0 H_11 r0 100 z_91 tokens_96) (cwV 2 hts gX10_scan_X10_add rfl rfl rfl (by decide +kernel) ⟨by rw [← hR]; exact Nat.le_of_ble_eq_true rfl, by rw [← hR]; exact Nat.le_of_ble_eq_true rfl⟩) ⟨fun a U g mk q => by obtain ⟨q0, q1, q2, qK, q10, q11, q12⟩ := q; exact ⟨q0, q1, q2, jG.calling g mk a qK, q10, q11, q12⟩, hh_95.recv (C := RX10) (T := TX10) (N := 11) hB12 rfl (by decide) hg_r0 hK, fun U hU hW => ⟨rfl, hU, hh_95.2.1, hG.step hW hU hh_95.1, hg_r0, (hh_95.2.2.1.sub (L1 := [(r0, 12, 3, .int tokens_96)]) [0] rfl), by first | omega | (refine ⟨?_, ?_⟩ <;> (first | omega | rfl | assumption | decide | exact Or.inl rfl | exact Or.inr rfl | (simp only; omega)))⟩⟩ rfl rfl hl.1 rfl (lv_room (Nat.le_of_ble_eq_true rfl)) dX10_scan_146 ⟨Nat.zero_le _, Nat.zero_le _⟩) hh_95.1 (fun q _ h => h) (fun q h => h) (fun u_92 t_92 H_92 locs_92 ht_92 hvm_92 hr_93 hb_92 hz_92 hk_92 hS_92 => ?_)
                obtain ⟨qk_92, rfl⟩ : ∃ z, z = u_92 := ⟨_, rfl⟩
                rw [ht_92] at hb_92
                obtain ⟨hb_921, hb_922, hb_923, hb_924, hb_925⟩ := hb_92
                have hh_92 : jSt (dC, dI) B base G0 G0 EX10_scan s.heap 0 0 [(r0, 12, 3, .int qk_92)] [] [] H_92 locs_92 := (hh_95.call hb_921 hb_922 hb_923 hb_924 hS_92 rfl (L1 := []) [] rfl rfl (M1 := []) [] rfl rfl (I1 := []) [] rfl rfl).more hb_925
                clear hh_95 ht_92 hvm_92 hz_92 hk_92 hS_92 hb_921 hb_922 hb_923 hb_924 hb_925
                obtain ⟨hr_93_0, hr_93_1, hr_93_2⟩ := hr_93
                refine lv_goto (tgt := 226) hx hb dX10_scan_149 (by decide) ?_
                exact C226 z_10 z_10 _ _ (hh_92.sub (L1 := []) [] rfl (M1 := []) [] rfl (I1 := []) [] rfl) (by first | omega | (refine ⟨?_, ?_⟩ <;> (first | omega | rfl | assumption | decide | exact Or.inl rfl | exact Or.inr rfl | (simp only; omega)))) _ (lv_sub hl [1, 2, 3, 4, 5, 6, 0, 0] rfl)
            · skip
              have c_21' : z_20.toInt = 45 := jb_ne_n (rfl) ((by decide)) c_21
              refine lv_iload hx hb dX10_scan_90 (lv_at hl 6 rfl) ?_
              refine lv_iconst (v := 1) hx hb dX10_scan_92 (by decide) ?_
              refine lv_iadd hx hb dX10_scan_93 ?_
              refine lv_topi (fun z_97 ez_97 => ?_)
              have hz_97 : z_97.toInt = v5_5.toInt + 1 := by rw [ez_97]; exact jb_iadd2 (rfl) ((by decide)) (by omega)
              refine lv_iload hx hb dX10_scan_94 (lv_at hl 5 rfl) ?_
              refine lv_icmp_ge (tgt := 126) hx hb dX10_scan_96 (by decide) (fun c_98 => ?_) (fun c_98 => ?_)
              · skip
                have c_98' : z_97.toInt ≥ z_3.toInt := jb_ge (rfl) (rfl) c_98
                first | replace hr_12p := hr_12p.resolve_left (by omega) | replace hr_12p := hr_12p.resolve_right (by omega) | skip
                refine lv_aload_n hx hb dX10_scan_126 rfl (lv_at hl 2 rfl) ?_
                refine lv_iload hx hb dX10_scan_127 (lv_at hl 6 rfl) ?_
                refine j7_iald hx hb hK hh_11 hB101 1 rfl (by decide) hg_r1 (rfl) (by omega) dX10_scan_129 (fun z_99 (hz_99 : True) => ?_)
                refine vp_callSi (va_Run.run (va_runSN (As := [.int z_99]) (rest := []) ⟨hx, hb, hml, hown, hts⟩ (kX11_isDigit l dC dI ca base H_11 z_99) ⟨va_cnB 1 hts gX10_scan_X11_isDigit_n60 rfl rfl rfl (hG.2.2.1 RX10 60 yX11_isDigit "ProofServer" (List.mem_of_getElem? (i := 1150) (by decide +kernel))) (hts (.initialized RX11) (by decide +kernel)) (by decide +kernel) ⟨by rw [← hR]; exact Nat.le_of_ble_eq_true rfl, by rw [← hR]; exact Nat.le_of_ble_eq_true rfl⟩, hts (.static yX11_isDigit) (by decide +kernel), trivial⟩ ⟨fun a U g mk q => by obtain ⟨q0, q1, qK, q9⟩ := q; exact ⟨q0, q1, jG.calling g mk a qK, q9⟩, fun U hU hW => ⟨rfl, hU, hG.step hW hU hh_11.1, by first | trivial | omega | (constructor <;> omega)⟩⟩ rfl rfl hl.1 rfl (lv_room (Nat.le_of_ble_eq_true rfl)) dX10_scan_130 ⟨Nat.zero_le _, Nat.zero_le _⟩)) (fun r_100 hr_100 => ?_)
                have hr_100' : r_100.toInt = 0 ∨ r_100.toInt = 1 := jb_01 hr_100
                refine lv_if_eq (tgt := 152) hx hb dX10_scan_133 (by decide) (fun c_101 => ?_) (fun c_101 => ?_)
                · skip
                  have c_101' : r_100.toInt = 0 := jb_eq (rfl) ((by decide)) c_101
                  refine lv_aload_n hx hb dX10_scan_152 rfl (lv_at hl 2 rfl) ?_
                  refine lv_iload hx hb dX10_scan_153 (lv_at hl 6 rfl) ?_
                  refine j7_iald hx hb hK hh_11 hB101 1 rfl (by decide) hg_r1 (rfl) (by omega) dX10_scan_155 (fun z_102 (hz_102 : True) => ?_)
                  refine vp_callSi (va_Run.run (va_runSN (As := [.int z_102]) (rest := []) ⟨hx, hb, hml, hown, hts⟩ (kX11_isBlank l dC dI ca base H_11 z_102) ⟨va_cnB 1 hts gX10_scan_X11_isBlank_n63 rfl rfl rfl (hG.2.2.1 RX10 63 yX11_isBlank "ProofServer" (List.mem_of_getElem? (i := 1151) (by decide +kernel))) (hts (.initialized RX11) (by decide +kernel)) (by decide +kernel) ⟨by rw [← hR]; exact Nat.le_of_ble_eq_true rfl, by rw [← hR]; exact Nat.le_of_ble_eq_true rfl⟩, hts (.static yX11_isBlank) (by decide +kernel), trivial⟩ ⟨fun a U g mk q => by obtain ⟨q0, q1, qK, q9⟩ := q; exact ⟨q0, q1, jG.calling g mk a qK, q9⟩, fun U hU hW => ⟨rfl, hU, hG.step hW hU hh_11.1, by first | trivial | omega | (constructor <;> omega)⟩⟩ rfl rfl hl.1 rfl (lv_room (Nat.le_of_ble_eq_true rfl)) dX10_scan_156 ⟨Nat.zero_le _, Nat.zero_le _⟩)) (fun r_103 hr_103 => ?_)
                  have hr_103' : r_103.toInt = 0 ∨ r_103.toInt = 1 := jb_01 hr_103
                  refine lv_if_ne (tgt := 226) hx hb dX10_scan_159 (by decide) (fun c_104 => ?_) (fun c_104 => ?_)
                  · skip
                    have c_104' : r_103.toInt ≠ 0 := jb_ne (rfl) ((by decide)) c_104
                    exact C226 z_10 z_10 _ _ hh_11 (by first | omega | (refine ⟨?_, ?_⟩ <;> (first | omega | rfl | assumption | decide | exact Or.inl rfl | exact Or.inr rfl | (simp only; omega)))) _ (lv_sub hl [1, 2, 3, 4, 5, 6, 0, 0] rfl)
                  · skip
                    have c_104' : r_103.toInt = 0 := jb_ne_n (rfl) ((by decide)) c_104
                    refine lv_aload_n hx hb dX10_scan_162 rfl (lv_at hl 2 rfl) ?_
                    refine lv_iload hx hb dX10_scan_163 (lv_at hl 6 rfl) ?_
                    refine j7_iald hx hb hK hh_11 hB101 1 rfl (by decide) hg_r1 (rfl) (by omega) dX10_scan_165 (fun z_105 (hz_105 : True) => ?_)
                    refine lv_bipush (v := 46) hx hb dX10_scan_166 (by decide) ?_
                    refine lv_icmp_ne (tgt := 178) hx hb dX10_scan_168 (by decide) (fun c_106 => ?_) (fun c_106 => ?_)
                    · skip
                      have c_106' : z_105.toInt ≠ 46 := jb_ne (rfl) ((by decide)) c_106
                      refine lv_aload_n hx hb dX10_scan_178 rfl (lv_at hl 2 rfl) ?_
                      refine lv_iload hx hb dX10_scan_179 (lv_at hl 6 rfl) ?_
                      refine j7_iald hx hb hK hh_11 hB101 1 rfl (by decide) hg_r1 (rfl) (by omega) dX10_scan_181 (fun z_107 (hz_107 : True) => ?_)
                      refine lv_sipush (v := 128) hx hb dX10_scan_182 (by decide) ?_
                      refine lv_icmp_ge (tgt := 205) hx hb dX10_scan_185 (by decide) (fun c_108 => ?_) (fun c_108 => ?_)
                      · skip
                        have c_108' : z_107.toInt ≥ 128 := jb_ge (rfl) ((by decide)) c_108
                        refine lv_iconst (v := 0) hx hb dX10_scan_205 (by decide) ?_
                        refine lv_istore (lv' := [(7, .int 0), (6, .int z_10), (0, .ref r0), (1, .ref r1), (2, .int a2), (3, .int a3), (4, .int z_3), (5, .int v5_5)]) hx hb dX10_scan_206 hl (by decide) rfl (fun ls hl => ?_)
                        refine lv_aload_n hx hb dX10_scan_208 rfl (lv_at hl 2 rfl) ?_
                        refine lv_iload hx hb dX10_scan_209 (lv_at hl 0 rfl) ?_
                        refine lv_if_eq (tgt := 221) hx hb dX10_scan_211 (by decide) (fun c_109 => ?_) (fun c_109 => ?_)
                        · skip
                          refine lv_iconst (v := 0) hx hb dX10_scan_221 (by decide) ?_
                          refine lv_iconst (v := 0) hx hb dX10_scan_222 (by decide) ?_
                          obtain ⟨v_112, hv_112, hh_113⟩ := hh_11.pin (C := RX10) (T := TX10) (N := 11) hB12 rfl (by decide) hg_r0 (i := 3) (by decide) rfl
                          obtain ⟨tokens_114, rfl, hlotokens_114, hhitokens_114⟩ := hv_112
                          refine va_callv (A0 := jA base) (H0 := s.heap) (va_runV (As := [.int 0, .int 0]) (rest := []) ⟨hx, hb, hml, hown, hts⟩ (uX10_add l dC dI ca base B hB hAp hB12 hB101 G0 H_11 r0 0 0 tokens_114) (cwV 2 hts gX10_scan_X10_add rfl rfl rfl (by decide +kernel) ⟨by rw [← hR]; exact Nat.le_of_ble_eq_true rfl, by rw [← hR]; exact Nat.le_of_ble_eq_true rfl⟩) ⟨fun a U g mk q => by obtain ⟨q0, q1, q2, qK, q10, q11, q12⟩ := q; exact ⟨q0, q1, q2, jG.calling g mk a qK, q10, q11, q12⟩, hh_113.recv (C := RX10) (T := TX10) (N := 11) hB12 rfl (by decide) hg_r0 hK, fun U hU hW => ⟨rfl, hU, hh_113.2.1, hG.step hW hU hh_113.1, hg_r0, (hh_113.2.2.1.sub (L1 := [(r0, 12, 3, .int tokens_114)]) [0] rfl), by first | omega | (refine ⟨?_, ?_⟩ <;> (first | omega | rfl | assumption | decide | exact Or.inl rfl | exact Or.inr rfl | (simp only; omega)))⟩⟩ rfl rfl hl.1 rfl (lv_room (Nat.le_of_ble_eq_true rfl)) dX10_scan_223 ⟨Nat.zero_le _, Nat.zero_le _⟩) hh_113.1 (fun q _ h => h) (fun q h => h) (fun u_110 t_110 H_110 locs_110 ht_110 hvm_110 hr_111 hb_110 hz_110 hk_110 hS_110 => ?_)
                          obtain ⟨qk_110, rfl⟩ : ∃ z, z = u_110 := ⟨_, rfl⟩
                          rw [ht_110] at hb_110
                          obtain ⟨hb_1101, hb_1102, hb_1103, hb_1104, hb_1105⟩ := hb_110
                          have hh_110 : jSt (dC, dI) B base G0 G0 EX10_scan s.heap 0 0 [(r0, 12, 3, .int qk_110)] [] [] H_110 locs_110 := (hh_113.call hb_1101 hb_1102 hb_1103 hb_1104 hS_110 rfl (L1 := []) [] rfl rfl (M1 := []) [] rfl rfl (I1 := []) [] rfl rfl).more hb_1105
                          clear hh_113 ht_110 hvm_110 hz_110 hk_110 hS_110 hb_1101 hb_1102 hb_1103 hb_1104 hb_1105
                          obtain ⟨hr_111_0, hr_111_1, hr_111_2⟩ := hr_111
                          exact C226 z_10 z_10 _ _ (hh_110.sub (L1 := []) [] rfl (M1 := []) [] rfl (I1 := []) [] rfl) (by first | omega | (refine ⟨?_, ?_⟩ <;> (first | omega | rfl | assumption | decide | exact Or.inl rfl | exact Or.inr rfl | (simp only; omega)))) _ (lv_sub hl [2, 3, 4, 5, 6, 7, 1, 1] rfl)
                        · skip
                          exact absurd c_109 (by decide)
                      · skip
                        have c_108' : z_107.toInt < 128 := jb_ge_n (rfl) ((by decide)) c_108
                        obtain ⟨str_115, rstr_115, hstr_1150⟩ := hG.str (o := RX10) (k := 66) (tx := "*+~=:,()") (List.mem_of_getElem? (i := 1152) (by decide +kernel))
                        have hstr_115 : jStr base str_115 8 s s.heap := hstr_1150
                        refine va_ldcS hx hb hown rstr_115 dX10_scan_188 ?_
                        refine lv_aload_n hx hb dX10_scan_190 rfl (lv_at hl 2 rfl) ?_
                        refine lv_iload hx hb dX10_scan_191 (lv_at hl 6 rfl) ?_
                        refine j7_iald hx hb hK hh_11 hB101 1 rfl (by decide) hg_r1 (rfl) (by omega) dX10_scan_193 (fun z_116 (hz_116 : True) => ?_)
                        refine lv_i2c hx hb dX10_scan_194 rfl ?_
                        refine lv_topi (fun z_117 ez_117 => ?_)
                        refine vp_callSi (W.runV (As := [.int z_117]) (rest := []) ⟨hx, hb, hml, hown, hts⟩ (kJ0_indexOf_0f7a4 l dC dI ca base H_11 str_115 8 z_117) (cwV 1 hts gX10_scan_J0_indexOf_0f7a4 rfl rfl rfl (by decide +kernel) ⟨by rw [← hR]; exact Nat.le_of_ble_eq_true rfl, by rw [← hR]; exact Nat.le_of_ble_eq_true rfl⟩) ⟨fun a U g mk q => by obtain ⟨q0, q1, q2, qK, q9⟩ := q; exact ⟨q0, q1, (q2.moved (Vm.Alike.refl U.vm)), jG.calling g mk a qK, q9⟩, jStr_recv hstr_115 hh_11.1, fun U hU hW => ⟨rfl, hU, (hstr_115.moved hW.alike).kept hh_11.1.2.1, hG.step hW hU hh_11.1, by omega⟩⟩ rfl rfl hl.1 rfl (lv_room (Nat.le_of_ble_eq_true rfl)) dX10_scan_195 ⟨Nat.zero_le _, Nat.zero_le _⟩) (fun r_118 hr_118 => ?_)
                        refine lv_if_lt (tgt := 205) hx hb dX10_scan_198 (by decide) (fun c_119 => ?_) (fun c_119 => ?_)
                        · skip
                          have c_119' : r_118.toInt < 0 := jb_lt (rfl) ((by decide)) c_119
                          refine lv_iconst (v := 0) hx hb dX10_scan_205 (by decide) ?_
                          refine lv_istore (lv' := [(7, .int 0), (6, .int z_10), (0, .ref r0), (1, .ref r1), (2, .int a2), (3, .int a3), (4, .int z_3), (5, .int v5_5)]) hx hb dX10_scan_206 hl (by decide) rfl (fun ls hl => ?_)
                          refine lv_aload_n hx hb dX10_scan_208 rfl (lv_at hl 2 rfl) ?_
                          refine lv_iload hx hb dX10_scan_209 (lv_at hl 0 rfl) ?_
                          refine lv_if_eq (tgt := 221) hx hb dX10_scan_211 (by decide) (fun c_120 => ?_) (fun c_120 => ?_)
                          · skip
                            refine lv_iconst (v := 0) hx hb dX10_scan_221 (by decide) ?_
                            refine lv_iconst (v := 0) hx hb dX10_scan_222 (by decide) ?_
                            obtain ⟨v_123, hv_123, hh_124⟩ := hh_11.pin (C := RX10) (T := TX10) (N := 11) hB12 rfl (by decide) hg_r0 (i := 3) (by decide) rfl
                            obtain ⟨tokens_125, rfl, hlotokens_125, hhitokens_125⟩ := hv_123
                            refine va_callv (A0 := jA base) (H0 := s.heap) (va_runV (As := [.int 0, .int 0]) (rest := []) ⟨hx, hb, hml, hown, hts⟩ (uX10_add l dC dI ca base B hB hAp hB12 hB101 G0 H_11 r0 0 0 tokens_125) (cwV 2 hts gX10_scan_X10_add rfl rfl rfl (by decide +kernel) ⟨by rw [← hR]; exact Nat.le_of_ble_eq_true rfl, by rw [← hR]; exact Nat.le_of_ble_eq_true rfl⟩) ⟨fun a U g mk q => by obtain ⟨q0, q1, q2, qK, q10, q11, q12⟩ := q; exact ⟨q0, q1, q2, jG.calling g mk a qK, q10, q11, q12⟩, hh_124.recv (C := RX10) (T := TX10) (N := 11) hB12 rfl (by decide) hg_r0 hK, fun U hU hW => ⟨rfl, hU, hh_124.2.1, hG.step hW hU hh_124.1, hg_r0, (hh_124.2.2.1.sub (L1 := [(r0, 12, 3, .int tokens_125)]) [0] rfl), by first | omega | (refine ⟨?_, ?_⟩ <;> (first | omega | rfl | assumption | decide | exact Or.inl rfl | exact Or.inr rfl | (simp only; omega)))⟩⟩ rfl rfl hl.1 rfl (lv_room (Nat.le_of_ble_eq_true rfl)) dX10_scan_223 ⟨Nat.zero_le _, Nat.zero_le _⟩) hh_124.1 (fun q _ h => h) (fun q h => h) (fun u_121 t_121 H_121 locs_121 ht_121 hvm_121 hr_122 hb_121 hz_121 hk_121 hS_121 => ?_)
                            obtain ⟨qk_121, rfl⟩ : ∃ z, z = u_121 := ⟨_, rfl⟩
                            rw [ht_121] at hb_121
                            obtain ⟨hb_1211, hb_1212, hb_1213, hb_1214, hb_1215⟩ := hb_121
                            have hh_121 : jSt (dC, dI) B base G0 G0 EX10_scan s.heap 0 0 [(r0, 12, 3, .int qk_121)] [] [] H_121 locs_121 := (hh_124.call hb_1211 hb_1212 hb_1213 hb_1214 hS_121 rfl (L1 := []) [] rfl rfl (M1 := []) [] rfl rfl (I1 := []) [] rfl rfl).more hb_1215
                            clear hh_124 ht_121 hvm_121 hz_121 hk_121 hS_121 hb_1211 hb_1212 hb_1213 hb_1214 hb_1215
                            obtain ⟨hr_122_0, hr_122_1, hr_122_2⟩ := hr_122
                            exact C226 z_10 z_10 _ _ (hh_121.sub (L1 := []) [] rfl (M1 := []) [] rfl (I1 := []) [] rfl) (by first | omega | (refine ⟨?_, ?_⟩ <;> (first | omega | rfl | assumption | decide | exact Or.inl rfl | exact Or.inr rfl | (simp only; omega)))) _ (lv_sub hl [2, 3, 4, 5, 6, 7, 1, 1] rfl)
                          · skip
                            exact absurd c_120 (by decide)
                        · skip
                          have c_119' : r_118.toInt ≥ 0 := jb_lt_n (rfl) ((by decide)) c_119
                          refine lv_iconst (v := 1) hx hb dX10_scan_201 (by decide) ?_
                          refine lv_goto (tgt := 206) hx hb dX10_scan_202 (by decide) ?_
                          refine lv_istore (lv' := [(7, .int 1), (6, .int z_10), (0, .ref r0), (1, .ref r1), (2, .int a2), (3, .int a3), (4, .int z_3), (5, .int v5_5)]) hx hb dX10_scan_206 hl (by decide) rfl (fun ls hl => ?_)
                          refine lv_aload_n hx hb dX10_scan_208 rfl (lv_at hl 2 rfl) ?_
                          refine lv_iload hx hb dX10_scan_209 (lv_at hl 0 rfl) ?_
                          refine lv_if_eq (tgt := 221) hx hb dX10_scan_211 (by decide) (fun c_126 => ?_) (fun c_126 => ?_)
                          · skip
                            exact absurd c_126 (by decide)
                          · skip
                            refine lv_aload_n hx hb dX10_scan_214 rfl (lv_at hl 3 rfl) ?_
                            refine lv_iload hx hb dX10_scan_215 (lv_at hl 7 rfl) ?_
                            refine j7_iald hx hb hK hh_11 hB101 1 rfl (by decide) hg_r1 (rfl) (by omega) dX10_scan_217 (fun z_127 (hz_127 : True) => ?_)
                            refine lv_goto (tgt := 222) hx hb dX10_scan_218 (by decide) ?_
                            refine lv_iconst (v := 0) hx hb dX10_scan_222 (by decide) ?_
                            obtain ⟨v_130, hv_130, hh_131⟩ := hh_11.pin (C := RX10) (T := TX10) (N := 11) hB12 rfl (by decide) hg_r0 (i := 3) (by decide) rfl
                            obtain ⟨tokens_132, rfl, hlotokens_132, hhitokens_132⟩ := hv_130
                            refine va_callv (A0 := jA base) (H0 := s.heap) (va_runV (As := [.int z_127, .int 0]) (rest := []) ⟨hx, hb, hml, hown, hts⟩ (uX10_add l dC dI ca base B hB hAp hB12 hB101 G0 H_11 r0 z_127 0 tokens_132) (cwV 2 hts gX10_scan_X10_add rfl rfl rfl (by decide +kernel) ⟨by rw [← hR]; exact Nat.le_of_ble_eq_true rfl, by rw [← hR]; exact Nat.le_of_ble_eq_true rfl⟩) ⟨fun a U g mk q => by obtain ⟨q0, q1, q2, qK, q10, q11, q12⟩ := q; exact ⟨q0, q1, q2, jG.calling g mk a qK, q10, q11, q12⟩, hh_131.recv (C := RX10) (T := TX10) (N := 11) hB12 rfl (by decide) hg_r0 hK, fun U hU hW => ⟨rfl, hU, hh_131.2.1, hG.step hW hU hh_131.1, hg_r0, (hh_131.2.2.1.sub (L1 := [(r0, 12, 3, .int tokens_132)]) [0] rfl), by first | omega | (refine ⟨?_, ?_⟩ <;> (first | omega | rfl | assumption | decide | exact Or.inl rfl | exact Or.inr rfl | (simp only; omega)))⟩⟩ rfl rfl hl.1 rfl (lv_room (Nat.le_of_ble_eq_true rfl)) dX10_scan_223 ⟨Nat.zero_le _, Nat.zero_le _⟩) hh_131.1 (fun q _ h => h) (fun q h => h) (fun u_128 t_128 H_128 locs_128 ht_128 hvm_128 hr_129 hb_128 hz_128 hk_128 hS_128 => ?_)
                            obtain ⟨qk_128, rfl⟩ : ∃ z, z = u_128 := ⟨_, rfl⟩
                            rw [ht_128] at hb_128
                            obtain ⟨hb_1281, hb_1282, hb_1283, hb_1284, hb_1285⟩ := hb_128
                            have hh_128 : jSt (dC, dI) B base G0 G0 EX10_scan s.heap 0 0 [(r0, 12, 3, .int qk_128)] [] [] H_128 locs_128 := (hh_131.call hb_1281 hb_1282 hb_1283 hb_1284 hS_128 rfl (L1 := []) [] rfl rfl (M1 := []) [] rfl rfl (I1 := []) [] rfl rfl).more hb_1285
                            clear hh_131 ht_128 hvm_128 hz_128 hk_128 hS_128 hb_1281 hb_1282 hb_1283 hb_1284 hb_1285
                            obtain ⟨hr_129_0, hr_129_1, hr_129_2⟩ := hr_129
                            exact C226 z_10 z_10 _ _ (hh_128.sub (L1 := []) [] rfl (M1 := []) [] rfl (I1 := []) [] rfl) (by first | omega | (refine ⟨?_, ?_⟩ <;> (first | omega | rfl | assumption | decide | exact Or.inl rfl | exact Or.inr rfl | (simp only; omega)))) _ (lv_sub hl [2, 3, 4, 5, 6, 7, 1, 1] rfl)
                    · skip
                      have c_106' : z_105.toInt = 46 := jb_ne_n (rfl) ((by decide)) c_106
                      refine lv_iload hx hb dX10_scan_171 (lv_at hl 0 rfl) ?_
                      refine lv_iload hx hb dX10_scan_173 (lv_at hl 5 rfl) ?_
                      refine lv_icmp_eq (tgt := 201) hx hb dX10_scan_175 (by decide) (fun c_133 => ?_) (fun c_133 => ?_)
                      · skip
                        have c_133' : z_10.toInt = z_3.toInt := jb_eq (rfl) (rfl) c_133
                        first | replace hr_12p := hr_12p.resolve_left (by omega) | replace hr_12p := hr_12p.resolve_right (by omega) | skip
                        refine lv_iconst (v := 1) hx hb dX10_scan_201 (by decide) ?_
                        refine lv_goto (tgt := 206) hx hb dX10_scan_202 (by decide) ?_
                        refine lv_istore (lv' := [(7, .int 1), (6, .int z_10), (0, .ref r0), (1, .ref r1), (2, .int a2), (3, .int a3), (4, .int z_3), (5, .int v5_5)]) hx hb dX10_scan_206 hl (by decide) rfl (fun ls hl => ?_)
                        refine lv_aload_n hx hb dX10_scan_208 rfl (lv_at hl 2 rfl) ?_
                        refine lv_iload hx hb dX10_scan_209 (lv_at hl 0 rfl) ?_
                        refine lv_if_eq (tgt := 221) hx hb dX10_scan_211 (by decide) (fun c_134 => ?_) (fun c_134 => ?_)
                        · skip
                          exact absurd c_134 (by decide)
                        · skip
                          refine lv_aload_n hx hb dX10_scan_214 rfl (lv_at hl 3 rfl) ?_
                          refine lv_iload hx hb dX10_scan_215 (lv_at hl 7 rfl) ?_
                          refine j7_iald hx hb hK hh_11 hB101 1 rfl (by decide) hg_r1 (rfl) (by omega) dX10_scan_217 (fun z_135 (hz_135 : True) => ?_)
                          refine lv_goto (tgt := 222) hx hb dX10_scan_218 (by decide) ?_
                          refine lv_iconst (v := 0) hx hb dX10_scan_222 (by decide) ?_
                          obtain ⟨v_138, hv_138, hh_139⟩ := hh_11.pin (C := RX10) (T := TX10) (N := 11) hB12 rfl (by decide) hg_r0 (i := 3) (by decide) rfl
                          obtain ⟨tokens_140, rfl, hlotokens_140, hhitokens_140⟩ := hv_138
                          refine va_callv (A0 := jA base) (H0 := s.heap) (va_runV (As := [.int z_135, .int 0]) (rest := []) ⟨hx, hb, hml, hown, hts⟩ (uX10_add l dC dI ca base B hB hAp hB12 hB101 G0 H_11 r0 z_135 0 tokens_140) (cwV 2 hts gX10_scan_X10_add rfl rfl rfl (by decide +kernel) ⟨by rw [← hR]; exact Nat.le_of_ble_eq_true rfl, by rw [← hR]; exact Nat.le_of_ble_eq_true rfl⟩) ⟨fun a U g mk q => by obtain ⟨q0, q1, q2, qK, q10, q11, q12⟩ := q; exact ⟨q0, q1, q2, jG.calling g mk a qK, q10, q11, q12⟩, hh_139.recv (C := RX10) (T := TX10) (N := 11) hB12 rfl (by decide) hg_r0 hK, fun U hU hW => ⟨rfl, hU, hh_139.2.1, hG.step hW hU hh_139.1, hg_r0, (hh_139.2.2.1.sub (L1 := [(r0, 12, 3, .int tokens_140)]) [0] rfl), by first | omega | (refine ⟨?_, ?_⟩ <;> (first | omega | rfl | assumption | decide | exact Or.inl rfl | exact Or.inr rfl | (simp only; omega)))⟩⟩ rfl rfl hl.1 rfl (lv_room (Nat.le_of_ble_eq_true rfl)) dX10_scan_223 ⟨Nat.zero_le _, Nat.zero_le _⟩) hh_139.1 (fun q _ h => h) (fun q h => h) (fun u_136 t_136 H_136 locs_136 ht_136 hvm_136 hr_137 hb_136 hz_136 hk_136 hS_136 => ?_)
                          obtain ⟨qk_136, rfl⟩ : ∃ z, z = u_136 := ⟨_, rfl⟩
                          rw [ht_136] at hb_136
                          obtain ⟨hb_1361, hb_1362, hb_1363, hb_1364, hb_1365⟩ := hb_136
                          have hh_136 : jSt (dC, dI) B base G0 G0 EX10_scan s.heap 0 0 [(r0, 12, 3, .int qk_136)] [] [] H_136 locs_136 := (hh_139.call hb_1361 hb_1362 hb_1363 hb_1364 hS_136 rfl (L1 := []) [] rfl rfl (M1 := []) [] rfl rfl (I1 := []) [] rfl rfl).more hb_1365
                          clear hh_139 ht_136 hvm_136 hz_136 hk_136 hS_136 hb_1361 hb_1362 hb_1363 hb_1364 hb_1365
                          obtain ⟨hr_137_0, hr_137_1, hr_137_2⟩ := hr_137
                          exact C226 z_10 z_10 _ _ (hh_136.sub (L1 := []) [] rfl (M1 := []) [] rfl (I1 := []) [] rfl) (by first | omega | (refine ⟨?_, ?_⟩ <;> (first | omega | rfl | assumption | decide | exact Or.inl rfl | exact Or.inr rfl | (simp only; omega)))) _ (lv_sub hl [2, 3, 4, 5, 6, 7, 1, 1] rfl)
                      · skip
                        have c_133' : z_10.toInt ≠ z_3.toInt := jb_eq_n (rfl) (rfl) c_133
                        first | replace hr_12p := hr_12p.resolve_left (by omega) | replace hr_12p := hr_12p.resolve_right (by omega) | skip
                        refine lv_aload_n hx hb dX10_scan_178 rfl (lv_at hl 2 rfl) ?_
                        refine lv_iload hx hb dX10_scan_179 (lv_at hl 6 rfl) ?_
                        refine j7_iald hx hb hK hh_11 hB101 1 rfl (by decide) hg_r1 (rfl) (by omega) dX10_scan_181 (fun z_141 (hz_141 : True) => ?_)
                        refine lv_sipush (v := 128) hx hb dX10_scan_182 (by decide) ?_
                        refine lv_icmp_ge (tgt := 205) hx hb dX10_scan_185 (by decide) (fun c_142 => ?_) (fun c_142 => ?_)
                        · skip
                          have c_142' : z_141.toInt ≥ 128 := jb_ge (rfl) ((by decide)) c_142
                          refine lv_iconst (v := 0) hx hb dX10_scan_205 (by decide) ?_
                          refine lv_istore (lv' := [(7, .int 0), (6, .int z_10), (0, .ref r0), (1, .ref r1), (2, .int a2), (3, .int a3), (4, .int z_3), (5, .int v5_5)]) hx hb dX10_scan_206 hl (by decide) rfl (fun ls hl => ?_)
                          refine lv_aload_n hx hb dX10_scan_208 rfl (lv_at hl 2 rfl) ?_
                          refine lv_iload hx hb dX10_scan_209 (lv_at hl 0 rfl) ?_
                          refine lv_if_eq (tgt := 221) hx hb dX10_scan_211 (by decide) (fun c_143 => ?_) (fun c_143 => ?_)
                          · skip
                            refine lv_iconst (v := 0) hx hb dX10_scan_221 (by decide) ?_
                            refine lv_iconst (v := 0) hx hb dX10_scan_222 (by decide) ?_
                            obtain ⟨v_146, hv_146, hh_147⟩ := hh_11.pin (C := RX10) (T := TX10) (N := 11) hB12 rfl (by decide) hg_r0 (i := 3) (by decide) rfl
                            obtain ⟨tokens_148, rfl, hlotokens_148, hhitokens_148⟩ := hv_146
                            refine va_callv (A0 := jA base) (H0 := s.heap) (va_runV (As := [.int 0, .int 0]) (rest := []) ⟨hx, hb, hml, hown, hts⟩ (uX10_add l dC dI ca base B hB hAp hB12 hB101 G0 H_11 r0 0 0 tokens_148) (cwV 2 hts gX10_scan_X10_add rfl rfl rfl (by decide +kernel) ⟨by rw [← hR]; exact Nat.le_of_ble_eq_true rfl, by rw [← hR]; exact Nat.le_of_ble_eq_true rfl⟩) ⟨fun a U g mk q => by obtain ⟨q0, q1, q2, qK, q10, q11, q12⟩ := q; exact ⟨q0, q1, q2, jG.calling g mk a qK, q10, q11, q12⟩, hh_147.recv (C := RX10) (T := TX10) (N := 11) hB12 rfl (by decide) hg_r0 hK, fun U hU hW => ⟨rfl, hU, hh_147.2.1, hG.step hW hU hh_147.1, hg_r0, (hh_147.2.2.1.sub (L1 := [(r0, 12, 3, .int tokens_148)]) [0] rfl), by first | omega | (refine ⟨?_, ?_⟩ <;> (first | omega | rfl | assumption | decide | exact Or.inl rfl | exact Or.inr rfl | (simp only; omega)))⟩⟩ rfl rfl hl.1 rfl (lv_room (Nat.le_of_ble_eq_true rfl)) dX10_scan_223 ⟨Nat.zero_le _, Nat.zero_le _⟩) hh_147.1 (fun q _ h => h) (fun q h => h) (fun u_144 t_144 H_144 locs_144 ht_144 hvm_144 hr_145 hb_144 hz_144 hk_144 hS_144 => ?_)
                            obtain ⟨qk_144, rfl⟩ : ∃ z, z = u_144 := ⟨_, rfl⟩
                            rw [ht_144] at hb_144
                            obtain ⟨hb_1441, hb_1442, hb_1443, hb_1444, hb_1445⟩ := hb_144
                            have hh_144 : jSt (dC, dI) B base G0 G0 EX10_scan s.heap 0 0 [(r0, 12, 3, .int qk_144)] [] [] H_144 locs_144 := (hh_147.call hb_1441 hb_1442 hb_1443 hb_1444 hS_144 rfl (L1 := []) [] rfl rfl (M1 := []) [] rfl rfl (I1 := []) [] rfl rfl).more hb_1445
                            clear hh_147 ht_144 hvm_144 hz_144 hk_144 hS_144 hb_1441 hb_1442 hb_1443 hb_1444 hb_1445
                            obtain ⟨hr_145_0, hr_145_1, hr_145_2⟩ := hr_145
                            exact C226 z_10 z_10 _ _ (hh_144.sub (L1 := []) [] rfl (M1 := []) [] rfl (I1 := []) [] rfl) (by first | omega | (refine ⟨?_, ?_⟩ <;> (first | omega | rfl | assumption | decide | exact Or.inl rfl | exact Or.inr rfl | (simp only; omega)))) _ (lv_sub hl [2, 3, 4, 5, 6, 7, 1, 1] rfl)
                          · skip
                            exact absurd c_143 (by decide)
                        · skip
                          have c_142' : z_141.toInt < 128 := jb_ge_n (rfl) ((by decide)) c_142
                          obtain ⟨str_149, rstr_149, hstr_1490⟩ := hG.str (o := RX10) (k := 66) (tx := "*+~=:,()") (List.mem_of_getElem? (i := 1152) (by decide +kernel))
                          have hstr_149 : jStr base str_149 8 s s.heap := hstr_1490
                          refine va_ldcS hx hb hown rstr_149 dX10_scan_188 ?_
                          refine lv_aload_n hx hb dX10_scan_190 rfl (lv_at hl 2 rfl) ?_
                          refine lv_iload hx hb dX10_scan_191 (lv_at hl 6 rfl) ?_
                          refine j7_iald hx hb hK hh_11 hB101 1 rfl (by decide) hg_r1 (rfl) (by omega) dX10_scan_193 (fun z_150 (hz_150 : True) => ?_)
                          refine lv_i2c hx hb dX10_scan_194 rfl ?_
                          refine lv_topi (fun z_151 ez_151 => ?_)
                          refine vp_callSi (W.runV (As := [.int z_151]) (rest := []) ⟨hx, hb, hml, hown, hts⟩ (kJ0_indexOf_0f7a4 l dC dI ca base H_11 str_149 8 z_151) (cwV 1 hts gX10_scan_J0_indexOf_0f7a4 rfl rfl rfl (by decide +kernel) ⟨by rw [← hR]; exact Nat.le_of_ble_eq_true rfl, by rw [← hR]; exact Nat.le_of_ble_eq_true rfl⟩) ⟨fun a U g mk q => by obtain ⟨q0, q1, q2, qK, q9⟩ := q; exact ⟨q0, q1, (q2.moved (Vm.Alike.refl U.vm)), jG.calling g mk a qK, q9⟩, jStr_recv hstr_149 hh_11.1, fun U hU hW => ⟨rfl, hU, (hstr_149.moved hW.alike).kept hh_11.1.2.1, hG.step hW hU hh_11.1, by omega⟩⟩ rfl rfl hl.1 rfl (lv_room (Nat.le_of_ble_eq_true rfl)) dX10_scan_195 ⟨Nat.zero_le _, Nat.zero_le _⟩) (fun r_152 hr_152 => ?_)
                          refine lv_if_lt (tgt := 205) hx hb dX10_scan_198 (by decide) (fun c_153 => ?_) (fun c_153 => ?_)
                          · skip
                            have c_153' : r_152.toInt < 0 := jb_lt (rfl) ((by decide)) c_153
                            refine lv_iconst (v := 0) hx hb dX10_scan_205 (by decide) ?_
                            refine lv_istore (lv' := [(7, .int 0), (6, .int z_10), (0, .ref r0), (1, .ref r1), (2, .int a2), (3, .int a3), (4, .int z_3), (5, .int v5_5)]) hx hb dX10_scan_206 hl (by decide) rfl (fun ls hl => ?_)
                            refine lv_aload_n hx hb dX10_scan_208 rfl (lv_at hl 2 rfl) ?_
                            refine lv_iload hx hb dX10_scan_209 (lv_at hl 0 rfl) ?_
                            refine lv_if_eq (tgt := 221) hx hb dX10_scan_211 (by decide) (fun c_154 => ?_) (fun c_154 => ?_)
                            · skip
                              refine lv_iconst (v := 0) hx hb dX10_scan_221 (by decide) ?_
                              refine lv_iconst (v := 0) hx hb dX10_scan_222 (by decide) ?_
                              obtain ⟨v_157, hv_157, hh_158⟩ := hh_11.pin (C := RX10) (T := TX10) (N := 11) hB12 rfl (by decide) hg_r0 (i := 3) (by decide) rfl
                              obtain ⟨tokens_159, rfl, hlotokens_159, hhitokens_159⟩ := hv_157
                              refine va_callv (A0 := jA base) (H0 := s.heap) (va_runV (As := [.int 0, .int 0]) (rest := []) ⟨hx, hb, hml, hown, hts⟩ (uX10_add l dC dI ca base B hB hAp hB12 hB101 G0 H_11 r0 0 0 tokens_159) (cwV 2 hts gX10_scan_X10_add rfl rfl rfl (by decide +kernel) ⟨by rw [← hR]; exact Nat.le_of_ble_eq_true rfl, by rw [← hR]; exact Nat.le_of_ble_eq_true rfl⟩) ⟨fun a U g mk q => by obtain ⟨q0, q1, q2, qK, q10, q11, q12⟩ := q; exact ⟨q0, q1, q2, jG.calling g mk a qK, q10, q11, q12⟩, hh_158.recv (C := RX10) (T := TX10) (N := 11) hB12 rfl (by decide) hg_r0 hK, fun U hU hW => ⟨rfl, hU, hh_158.2.1, hG.step hW hU hh_158.1, hg_r0, (hh_158.2.2.1.sub (L1 := [(r0, 12, 3, .int tokens_159)]) [0] rfl), by first | omega | (refine ⟨?_, ?_⟩ <;> (first | omega | rfl | assumption | decide | exact Or.inl rfl | exact Or.inr rfl | (simp only; omega)))⟩⟩ rfl rfl hl.1 rfl (lv_room (Nat.le_of_ble_eq_true rfl)) dX10_scan_223 ⟨Nat.zero_le _, Nat.zero_le _⟩) hh_158.1 (fun q _ h => h) (fun q h => h) (fun u_155 t_155 H_155 locs_155 ht_155 hvm_155 hr_156 hb_155 hz_155 hk_155 hS_155 => ?_)
                              obtain ⟨qk_155, rfl⟩ : ∃ z, z = u_155 := ⟨_, rfl⟩
                              rw [ht_155] at hb_155
                              obtain ⟨hb_1551, hb_1552, hb_1553, hb_1554, hb_1555⟩ := hb_155
                              have hh_155 : jSt (dC, dI) B base G0 G0 EX10_scan s.heap 0 0 [(r0, 12, 3, .int qk_155)] [] [] H_155 locs_155 := (hh_158.call hb_1551 hb_1552 hb_1553 hb_1554 hS_155 rfl (L1 := []) [] rfl rfl (M1 := []) [] rfl rfl (I1 := []) [] rfl rfl).more hb_1555
                              clear hh_158 ht_155 hvm_155 hz_155 hk_155 hS_155 hb_1551 hb_1552 hb_1553 hb_1554 hb_1555
                              obtain ⟨hr_156_0, hr_156_1, hr_156_2⟩ := hr_156
                              exact C226 z_10 z_10 _ _ (hh_155.sub (L1 := []) [] rfl (M1 := []) [] rfl (I1 := []) [] rfl) (by first | omega | (refine ⟨?_, ?_⟩ <;> (first | omega | rfl | assumption | decide | exact Or.inl rfl | exact Or.inr rfl | (simp only; omega)))) _ (lv_sub hl [2, 3, 4, 5, 6, 7, 1, 1] rfl)
                            · skip
                              exact absurd c_154 (by decide)
                          · skip
                            have c_153' : r_152.toInt ≥ 0 := jb_lt_n (rfl) ((by decide)) c_153
                            refine lv_iconst (v := 1) hx hb dX10_scan_201 (by decide) ?_
                            refine lv_goto (tgt := 206) hx hb dX10_scan_202 (by decide) ?_
                            refine lv_istore (lv' := [(7, .int 1), (6, .int z_10), (0, .ref r0), (1, .ref r1), (2, .int a2), (3, .int a3), (4, .int z_3), (5, .int v5_5)]) hx hb dX10_scan_206 hl (by decide) rfl (fun ls hl => ?_)
                            refine lv_aload_n hx hb dX10_scan_208 rfl (lv_at hl 2 rfl) ?_
                            refine lv_iload hx hb dX10_scan_209 (lv_at hl 0 rfl) ?_
                            refine lv_if_eq (tgt := 221) hx hb dX10_scan_211 (by decide) (fun c_160 => ?_) (fun c_160 => ?_)
                            · skip
                              exact absurd c_160 (by decide)
                            · skip
                              refine lv_aload_n hx hb dX10_scan_214 rfl (lv_at hl 3 rfl) ?_
                              refine lv_iload hx hb dX10_scan_215 (lv_at hl 7 rfl) ?_
                              refine j7_iald hx hb hK hh_11 hB101 1 rfl (by decide) hg_r1 (rfl) (by omega) dX10_scan_217 (fun z_161 (hz_161 : True) => ?_)
                              refine lv_goto (tgt := 222) hx hb dX10_scan_218 (by decide) ?_
                              refine lv_iconst (v := 0) hx hb dX10_scan_222 (by decide) ?_
                              obtain ⟨v_164, hv_164, hh_165⟩ := hh_11.pin (C := RX10) (T := TX10) (N := 11) hB12 rfl (by decide) hg_r0 (i := 3) (by decide) rfl
                              obtain ⟨tokens_166, rfl, hlotokens_166, hhitokens_166⟩ := hv_164
                              refine va_callv (A0 := jA base) (H0 := s.heap) (va_runV (As := [.int z_161, .int 0]) (rest := []) ⟨hx, hb, hml, hown, hts⟩ (uX10_add l dC dI ca base B hB hAp hB12 hB101 G0 H_11 r0 z_161 0 tokens_166) (cwV 2 hts gX10_scan_X10_add rfl rfl rfl (by decide +kernel) ⟨by rw [← hR]; exact Nat.le_of_ble_eq_true rfl, by rw [← hR]; exact Nat.le_of_ble_eq_true rfl⟩) ⟨fun a U g mk q => by obtain ⟨q0, q1, q2, qK, q10, q11, q12⟩ := q; exact ⟨q0, q1, q2, jG.calling g mk a qK, q10, q11, q12⟩, hh_165.recv (C := RX10) (T := TX10) (N := 11) hB12 rfl (by decide) hg_r0 hK, fun U hU hW => ⟨rfl, hU, hh_165.2.1, hG.step hW hU hh_165.1, hg_r0, (hh_165.2.2.1.sub (L1 := [(r0, 12, 3, .int tokens_166)]) [0] rfl), by first | omega | (refine ⟨?_, ?_⟩ <;> (first | omega | rfl | assumption | decide | exact Or.inl rfl | exact Or.inr rfl | (simp only; omega)))⟩⟩ rfl rfl hl.1 rfl (lv_room (Nat.le_of_ble_eq_true rfl)) dX10_scan_223 ⟨Nat.zero_le _, Nat.zero_le _⟩) hh_165.1 (fun q _ h => h) (fun q h => h) (fun u_162 t_162 H_162 locs_162 ht_162 hvm_162 hr_163 hb_162 hz_162 hk_162 hS_162 => ?_)
                              obtain ⟨qk_162, rfl⟩ : ∃ z, z = u_162 := ⟨_, rfl⟩
                              rw [ht_162] at hb_162
                              obtain ⟨hb_1621, hb_1622, hb_1623, hb_1624, hb_1625⟩ := hb_162
                              have hh_162 : jSt (dC, dI) B base G0 G0 EX10_scan s.heap 0 0 [(r0, 12, 3, .int qk_162)] [] [] H_162 locs_162 := (hh_165.call hb_1621 hb_1622 hb_1623 hb_1624 hS_162 rfl (L1 := []) [] rfl rfl (M1 := []) [] rfl rfl (I1 := []) [] rfl rfl).more hb_1625
                              clear hh_165 ht_162 hvm_162 hz_162 hk_162 hS_162 hb_1621 hb_1622 hb_1623 hb_1624 hb_1625
                              obtain ⟨hr_163_0, hr_163_1, hr_163_2⟩ := hr_163
                              exact C226 z_10 z_10 _ _ (hh_162.sub (L1 := []) [] rfl (M1 := []) [] rfl (I1 := []) [] rfl) (by first | omega | (refine ⟨?_, ?_⟩ <;> (first | omega | rfl | assumption | decide | exact Or.inl rfl | exact Or.inr rfl | (simp only; omega)))) _ (lv_sub hl [2, 3, 4, 5, 6, 7, 1, 1] rfl)
                · skip
                  have c_101' : r_100.toInt ≠ 0 := jb_eq_n (rfl) ((by decide)) c_101
                  refine lv_aload_n hx hb dX10_scan_136 rfl (lv_at hl 1 rfl) ?_
                  refine lv_bipush (v := 100) hx hb dX10_scan_137 (by decide) ?_
                  refine lv_aload_n hx hb dX10_scan_139 rfl (lv_at hl 2 rfl) ?_
                  refine lv_iload hx hb dX10_scan_140 (lv_at hl 6 rfl) ?_
                  refine j7_iald hx hb hK hh_11 hB101 1 rfl (by decide) hg_r1 (rfl) (by omega) dX10_scan_142 (fun z_167 (hz_167 : True) => ?_)
                  refine lv_bipush (v := 48) hx hb dX10_scan_143 (by decide) ?_
                  refine lv_isub hx hb dX10_scan_145 ?_
                  refine lv_topi (fun z_168 ez_168 => ?_)
                  obtain ⟨v_171, hv_171, hh_172⟩ := hh_11.pin (C := RX10) (T := TX10) (N := 11) hB12 rfl (by decide) hg_r0 (i := 3) (by decide) rfl
                  obtain ⟨tokens_173, rfl, hlotokens_173, hhitokens_173⟩ := hv_171
                  refine va_callv (A0 := jA base) (H0 := s.heap) (va_runV (As := [.int 100, .int z_168]) (rest := []) ⟨hx, hb, hml, hown, hts⟩ (uX10_add l dC dI ca base B hB hAp hB12 hB101 G0 H_11 r0 100 z_168 tokens_173) (cwV 2 hts gX10_scan_X10_add rfl rfl rfl (by decide +kernel) ⟨by rw [← hR]; exact Nat.le_of_ble_eq_true rfl, by rw [← hR]; exact Nat.le_of_ble_eq_true rfl⟩) ⟨fun a U g mk q => by obtain ⟨q0, q1, q2, qK, q10, q11, q12⟩ := q; exact ⟨q0, q1, q2, jG.calling g mk a qK, q10, q11, q12⟩, hh_172.recv (C := RX10) (T := TX10) (N := 11) hB12 rfl (by decide) hg_r0 hK, fun U hU hW => ⟨rfl, hU, hh_172.2.1, hG.step hW hU hh_172.1, hg_r0, (hh_172.2.2.1.sub (L1 := [(r0, 12, 3, .int tokens_173)]) [0] rfl), by first | omega | (refine ⟨?_, ?_⟩ <;> (first | omega | rfl | assumption | decide | exact Or.inl rfl | exact Or.inr rfl | (simp only; omega)))⟩⟩ rfl rfl hl.1 rfl (lv_room (Nat.le_of_ble_eq_true rfl)) dX10_scan_146 ⟨Nat.zero_le _, Nat.zero_le _⟩) hh_172.1 (fun q _ h => h) (fun q h => h) (fun u_169 t_169 H_169 locs_169 ht_169 hvm_169 hr_170 hb_169 hz_169 hk_169 hS_169 => ?_)
                  obtain ⟨qk_169, rfl⟩ : ∃ z, z = u_169 := ⟨_, rfl⟩
                  rw [ht_169] at hb_169
                  obtain ⟨hb_1691, hb_1692, hb_1693, hb_1694, hb_1695⟩ := hb_169
                  have hh_169 : jSt (dC, dI) B base G0 G0 EX10_scan s.heap 0 0 [(r0, 12, 3, .int qk_169)] [] [] H_169 locs_169 := (hh_172.call hb_1691 hb_1692 hb_1693 hb_1694 hS_169 rfl (L1 := []) [] rfl rfl (M1 := []) [] rfl rfl (I1 := []) [] rfl rfl).more hb_1695
                  clear hh_172 ht_169 hvm_169 hz_169 hk_169 hS_169 hb_1691 hb_1692 hb_1693 hb_1694 hb_1695
                  obtain ⟨hr_170_0, hr_170_1, hr_170_2⟩ := hr_170
                  refine lv_goto (tgt := 226) hx hb dX10_scan_149 (by decide) ?_
                  exact C226 z_10 z_10 _ _ (hh_169.sub (L1 := []) [] rfl (M1 := []) [] rfl (I1 := []) [] rfl) (by first | omega | (refine ⟨?_, ?_⟩ <;> (first | omega | rfl | assumption | decide | exact Or.inl rfl | exact Or.inr rfl | (simp only; omega)))) _ (lv_sub hl [1, 2, 3, 4, 5, 6, 0, 0] rfl)
              · skip
                have c_98' : z_97.toInt < z_3.toInt := jb_ge_n (rfl) (rfl) c_98
                first | replace hr_12p := hr_12p.resolve_left (by omega) | replace hr_12p := hr_12p.resolve_right (by omega) | skip
                refine lv_aload_n hx hb dX10_scan_99 rfl (lv_at hl 2 rfl) ?_
                refine lv_iload hx hb dX10_scan_100 (lv_at hl 6 rfl) ?_
                refine lv_iconst (v := 1) hx hb dX10_scan_102 (by decide) ?_
                refine lv_iadd hx hb dX10_scan_103 ?_
                refine lv_topi (fun z_174 ez_174 => ?_)
                have hz_174 : z_174.toInt = v5_5.toInt + 1 := by rw [ez_174]; exact jb_iadd2 (rfl) ((by decide)) (by omega)
                refine j7_iald hx hb hK hh_11 hB101 1 rfl (by decide) hg_r1 (rfl) (by omega) dX10_scan_104 (fun z_175 (hz_175 : True) => ?_)
                refine lv_bipush (v := 62) hx hb dX10_scan_105 (by decide) ?_
                refine lv_icmp_ne (tgt := 126) hx hb dX10_scan_107 (by decide) (fun c_176 => ?_) (fun c_176 => ?_)
                · skip
                  have c_176' : z_175.toInt ≠ 62 := jb_ne (rfl) ((by decide)) c_176
                  refine lv_aload_n hx hb dX10_scan_126 rfl (lv_at hl 2 rfl) ?_
                  refine lv_iload hx hb dX10_scan_127 (lv_at hl 6 rfl) ?_
                  refine j7_iald hx hb hK hh_11 hB101 1 rfl (by decide) hg_r1 (rfl) (by omega) dX10_scan_129 (fun z_177 (hz_177 : True) => ?_)
                  refine vp_callSi (va_Run.run (va_runSN (As := [.int z_177]) (rest := []) ⟨hx, hb, hml, hown, hts⟩ (kX11_isDigit l dC dI ca base H_11 z_177) ⟨va_cnB 1 hts gX10_scan_X11_isDigit_n60 rfl rfl rfl (hG.2.2.1 RX10 60 yX11_isDigit "ProofServer" (List.mem_of_getElem? (i := 1150) (by decide +kernel))) (hts (.initialized RX11) (by decide +kernel)) (by decide +kernel) ⟨by rw [← hR]; exact Nat.le_of_ble_eq_true rfl, by rw [← hR]; exact Nat.le_of_ble_eq_true rfl⟩, hts (.static yX11_isDigit) (by decide +kernel), trivial⟩ ⟨fun a U g mk q => by obtain ⟨q0, q1, qK, q9⟩ := q; exact ⟨q0, q1, jG.calling g mk a qK, q9⟩, fun U hU hW => ⟨rfl, hU, hG.step hW hU hh_11.1, by first | trivial | omega | (constructor <;> omega)⟩⟩ rfl rfl hl.1 rfl (lv_room (Nat.le_of_ble_eq_true rfl)) dX10_scan_130 ⟨Nat.zero_le _, Nat.zero_le _⟩)) (fun r_178 hr_178 => ?_)
                  have hr_178' : r_178.toInt = 0 ∨ r_178.toInt = 1 := jb_01 hr_178
                  refine lv_if_eq (tgt := 152) hx hb dX10_scan_133 (by decide) (fun c_179 => ?_) (fun c_179 => ?_)
                  · skip
                    have c_179' : r_178.toInt = 0 := jb_eq (rfl) ((by decide)) c_179
                    refine lv_aload_n hx hb dX10_scan_152 rfl (lv_at hl 2 rfl) ?_
                    refine lv_iload hx hb dX10_scan_153 (lv_at hl 6 rfl) ?_
                    refine j7_iald hx hb hK hh_11 hB101 1 rfl (by decide) hg_r1 (rfl) (by omega) dX10_scan_155 (fun z_180 (hz_180 : True) => ?_)
                    refine vp_callSi (va_Run.run (va_runSN (As := [.int z_180]) (rest := []) ⟨hx, hb, hml, hown, hts⟩ (kX11_isBlank l dC dI ca base H_11 z_180) ⟨va_cnB 1 hts gX10_scan_X11_isBlank_n63 rfl rfl rfl (hG.2.2.1 RX10 63 yX11_isBlank "ProofServer" (List.mem_of_getElem? (i := 1151) (by decide +kernel))) (hts (.initialized RX11) (by decide +kernel)) (by decide +kernel) ⟨by rw [← hR]; exact Nat.le_of_ble_eq_true rfl, by rw [← hR]; exact Nat.le_of_ble_eq_true rfl⟩, hts (.static yX11_isBlank) (by decide +kernel), trivial⟩ ⟨fun a U g mk q => by obtain ⟨q0, q1, qK, q9⟩ := q; exact ⟨q0, q1, jG.calling g mk a qK, q9⟩, fun U hU hW => ⟨rfl, hU, hG.step hW hU hh_11.1, by first | trivial | omega | (constructor <;> omega)⟩⟩ rfl rfl hl.1 rfl (lv_room (Nat.le_of_ble_eq_true rfl)) dX10_scan_156 ⟨Nat.zero_le _, Nat.zero_le _⟩)) (fun r_181 hr_181 => ?_)
                    have hr_181' : r_181.toInt = 0 ∨ r_181.toInt = 1 := jb_01 hr_181
                    refine lv_if_ne (tgt := 226) hx hb dX10_scan_159 (by decide) (fun c_182 => ?_) (fun c_182 => ?_)
                    · skip
                      have c_182' : r_181.toInt ≠ 0 := jb_ne (rfl) ((by decide)) c_182
                      exact C226 z_10 z_10 _ _ hh_11 (by first | omega | (refine ⟨?_, ?_⟩ <;> (first | omega | rfl | assumption | decide | exact Or.inl rfl | exact Or.inr rfl | (simp only; omega)))) _ (lv_sub hl [1, 2, 3, 4, 5, 6, 0, 0] rfl)
                    · skip
                      have c_182' : r_181.toInt = 0 := jb_ne_n (rfl) ((by decide)) c_182
                      refine lv_aload_n hx hb dX10_scan_162 rfl (lv_at hl 2 rfl) ?_
                      refine lv_iload hx hb dX10_scan_163 (lv_at hl 6 rfl) ?_
                      refine j7_iald hx hb hK hh_11 hB101 1 rfl (by decide) hg_r1 (rfl) (by omega) dX10_scan_165 (fun z_183 (hz_183 : True) => ?_)
                      refine lv_bipush (v := 46) hx hb dX10_scan_166 (by decide) ?_
                      refine lv_icmp_ne (tgt := 178) hx hb dX10_scan_168 (by decide) (fun c_184 => ?_) (fun c_184 => ?_)
                      · skip
                        have c_184' : z_183.toInt ≠ 46 := jb_ne (rfl) ((by decide)) c_184
                        refine lv_aload_n hx hb dX10_scan_178 rfl (lv_at hl 2 rfl) ?_
                        refine lv_iload hx hb dX10_scan_179 (lv_at hl 6 rfl) ?_
                        refine j7_iald hx hb hK hh_11 hB101 1 rfl (by decide) hg_r1 (rfl) (by omega) dX10_scan_181 (fun z_185 (hz_185 : True) => ?_)
                        refine lv_sipush (v := 128) hx hb dX10_scan_182 (by decide) ?_
                        refine lv_icmp_ge (tgt := 205) hx hb dX10_scan_185 (by decide) (fun c_186 => ?_) (fun c_186 => ?_)
                        · skip
                          have c_186' : z_185.toInt ≥ 128 := jb_ge (rfl) ((by decide)) c_186
                          refine lv_iconst (v := 0) hx hb dX10_scan_205 (by decide) ?_
                          refine lv_istore (lv' := [(7, .int 0), (6, .int z_10), (0, .ref r0), (1, .ref r1), (2, .int a2), (3, .int a3), (4, .int z_3), (5, .int v5_5)]) hx hb dX10_scan_206 hl (by decide) rfl (fun ls hl => ?_)
                          refine lv_aload_n hx hb dX10_scan_208 rfl (lv_at hl 2 rfl) ?_
                          refine lv_iload hx hb dX10_scan_209 (lv_at hl 0 rfl) ?_
                          refine lv_if_eq (tgt := 221) hx hb dX10_scan_211 (by decide) (fun c_187 => ?_) (fun c_187 => ?_)
                          · skip
                            refine lv_iconst (v := 0) hx hb dX10_scan_221 (by decide) ?_
                            refine lv_iconst (v := 0) hx hb dX10_scan_222 (by decide) ?_
                            obtain ⟨v_190, hv_190, hh_191⟩ := hh_11.pin (C := RX10) (T := TX10) (N := 11) hB12 rfl (by decide) hg_r0 (i := 3) (by decide) rfl
                            obtain ⟨tokens_192, rfl, hlotokens_192, hhitokens_192⟩ := hv_190
                            refine va_callv (A0 := jA base) (H0 := s.heap) (va_runV (As := [.int 0, .int 0]) (rest := []) ⟨hx, hb, hml, hown, hts⟩ (uX10_add l dC dI ca base B hB hAp hB12 hB101 G0 H_11 r0 0 0 tokens_192) (cwV 2 hts gX10_scan_X10_add rfl rfl rfl (by decide +kernel) ⟨by rw [← hR]; exact Nat.le_of_ble_eq_true rfl, by rw [← hR]; exact Nat.le_of_ble_eq_true rfl⟩) ⟨fun a U g mk q => by obtain ⟨q0, q1, q2, qK, q10, q11, q12⟩ := q; exact ⟨q0, q1, q2, jG.calling g mk a qK, q10, q11, q12⟩, hh_191.recv (C := RX10) (T := TX10) (N := 11) hB12 rfl (by decide) hg_r0 hK, fun U hU hW => ⟨rfl, hU, hh_191.2.1, hG.step hW hU hh_191.1, hg_r0, (hh_191.2.2.1.sub (L1 := [(r0, 12, 3, .int tokens_192)]) [0] rfl), by first | omega | (refine ⟨?_, ?_⟩ <;> (first | omega | rfl | assumption | decide | exact Or.inl rfl | exact Or.inr rfl | (simp only; omega)))⟩⟩ rfl rfl hl.1 rfl (lv_room (Nat.le_of_ble_eq_true rfl)) dX10_scan_223 ⟨Nat.zero_le _, Nat.zero_le _⟩) hh_191.1 (fun q _ h => h) (fun q h => h) (fun u_188 t_188 H_188 locs_188 ht_188 hvm_188 hr_189 hb_188 hz_188 hk_188 hS_188 => ?_)
                            obtain ⟨qk_188, rfl⟩ : ∃ z, z = u_188 := ⟨_, rfl⟩
                            rw [ht_188] at hb_188
                            obtain ⟨hb_1881, hb_1882, hb_1883, hb_1884, hb_1885⟩ := hb_188
                            have hh_188 : jSt (dC, dI) B base G0 G0 EX10_scan s.heap 0 0 [(r0, 12, 3, .int qk_188)] [] [] H_188 locs_188 := (hh_191.call hb_1881 hb_1882 hb_1883 hb_1884 hS_188 rfl (L1 := []) [] rfl rfl (M1 := []) [] rfl rfl (I1 := []) [] rfl rfl).more hb_1885
                            clear hh_191 ht_188 hvm_188 hz_188 hk_188 hS_188 hb_1881 hb_1882 hb_1883 hb_1884 hb_1885
                            obtain ⟨hr_189_0, hr_189_1, hr_189_2⟩ := hr_189
                            exact C226 z_10 z_10 _ _ (hh_188.sub (L1 := []) [] rfl (M1 := []) [] rfl (I1 := []) [] rfl) (by first | omega | (refine ⟨?_, ?_⟩ <;> (first | omega | rfl | assumption | decide | exact Or.inl rfl | exact Or.inr rfl | (simp only; omega)))) _ (lv_sub hl [2, 3, 4, 5, 6, 7, 1, 1] rfl)
                          · skip
                            exact absurd c_187 (by decide)
                        · skip
                          have c_186' : z_185.toInt < 128 := jb_ge_n (rfl) ((by decide)) c_186
                          obtain ⟨str_193, rstr_193, hstr_1930⟩ := hG.str (o := RX10) (k := 66) (tx := "*+~=:,()") (List.mem_of_getElem? (i := 1152) (by decide +kernel))
                          have hstr_193 : jStr base str_193 8 s s.heap := hstr_1930
                          refine va_ldcS hx hb hown rstr_193 dX10_scan_188 ?_
                          refine lv_aload_n hx hb dX10_scan_190 rfl (lv_at hl 2 rfl) ?_
                          refine lv_iload hx hb dX10_scan_191 (lv_at hl 6 rfl) ?_
                          refine j7_iald hx hb hK hh_11 hB101 1 rfl (by decide) hg_r1 (rfl) (by omega) dX10_scan_193 (fun z_194 (hz_194 : True) => ?_)
                          refine lv_i2c hx hb dX10_scan_194 rfl ?_
                          refine lv_topi (fun z_195 ez_195 => ?_)
                          refine vp_callSi (W.runV (As := [.int z_195]) (rest := []) ⟨hx, hb, hml, hown, hts⟩ (kJ0_indexOf_0f7a4 l dC dI ca base H_11 str_193 8 z_195) (cwV 1 hts gX10_scan_J0_indexOf_0f7a4 rfl rfl rfl (by decide +kernel) ⟨by rw [← hR]; exact Nat.le_of_ble_eq_true rfl, by rw [← hR]; exact Nat.le_of_ble_eq_true rfl⟩) ⟨fun a U g mk q => by obtain ⟨q0, q1, q2, qK, q9⟩ := q; exact ⟨q0, q1, (q2.moved (Vm.Alike.refl U.vm)), jG.calling g mk a qK, q9⟩, jStr_recv hstr_193 hh_11.1, fun U hU hW => ⟨rfl, hU, (hstr_193.moved hW.alike).kept hh_11.1.2.1, hG.step hW hU hh_11.1, by omega⟩⟩ rfl rfl hl.1 rfl (lv_room (Nat.le_of_ble_eq_true rfl)) dX10_scan_195 ⟨Nat.zero_le _, Nat.zero_le _⟩) (fun r_196 hr_196 => ?_)
                          refine lv_if_lt (tgt := 205) hx hb dX10_scan_198 (by decide) (fun c_197 => ?_) (fun c_197 => ?_)
                          · skip
                            have c_197' : r_196.toInt < 0 := jb_lt (rfl) ((by decide)) c_197
                            refine lv_iconst (v := 0) hx hb dX10_scan_205 (by decide) ?_
                            refine lv_istore (lv' := [(7, .int 0), (6, .int z_10), (0, .ref r0), (1, .ref r1), (2, .int a2), (3, .int a3), (4, .int z_3), (5, .int v5_5)]) hx hb dX10_scan_206 hl (by decide) rfl (fun ls hl => ?_)
                            refine lv_aload_n hx hb dX10_scan_208 rfl (lv_at hl 2 rfl) ?_
                            refine lv_iload hx hb dX10_scan_209 (lv_at hl 0 rfl) ?_
                            refine lv_if_eq (tgt := 221) hx hb dX10_scan_211 (by decide) (fun c_198 => ?_) (fun c_198 => ?_)
                            · skip
                              refine lv_iconst (v := 0) hx hb dX10_scan_221 (by decide) ?_
                              refine lv_iconst (v := 0) hx hb dX10_scan_222 (by decide) ?_
                              obtain ⟨v_201, hv_201, hh_202⟩ := hh_11.pin (C := RX10) (T := TX10) (N := 11) hB12 rfl (by decide) hg_r0 (i := 3) (by decide) rfl
                              obtain ⟨tokens_203, rfl, hlotokens_203, hhitokens_203⟩ := hv_201
                              refine va_callv (A0 := jA base) (H0 := s.heap) (va_runV (As := [.int 0, .int 0]) (rest := []) ⟨hx, hb, hml, hown, hts⟩ (uX10_add l dC dI ca base B hB hAp hB12 hB101 G0 H_11 r0 0 0 tokens_203) (cwV 2 hts gX10_scan_X10_add rfl rfl rfl (by decide +kernel) ⟨by rw [← hR]; exact Nat.le_of_ble_eq_true rfl, by rw [← hR]; exact Nat.le_of_ble_eq_true rfl⟩) ⟨fun a U g mk q => by obtain ⟨q0, q1, q2, qK, q10, q11, q12⟩ := q; exact ⟨q0, q1, q2, jG.calling g mk a qK, q10, q11, q12⟩, hh_202.recv (C := RX10) (T := TX10) (N := 11) hB12 rfl (by decide) hg_r0 hK, fun U hU hW => ⟨rfl, hU, hh_202.2.1, hG.step hW hU hh_202.1, hg_r0, (hh_202.2.2.1.sub (L1 := [(r0, 12, 3, .int tokens_203)]) [0] rfl), by first | omega | (refine ⟨?_, ?_⟩ <;> (first | omega | rfl | assumption | decide | exact Or.inl rfl | exact Or.inr rfl | (simp only; omega)))⟩⟩ rfl rfl hl.1 rfl (lv_room (Nat.le_of_ble_eq_true rfl)) dX10_scan_223 ⟨Nat.zero_le _, Nat.zero_le _⟩) hh_202.1 (fun q _ h => h) (fun q h => h) (fun u_199 t_199 H_199 locs_199 ht_199 hvm_199 hr_200 hb_199 hz_199 hk_199 hS_199 => ?_)
                              obtain ⟨qk_199, rfl⟩ : ∃ z, z = u_199 := ⟨_, rfl⟩
                              rw [ht_199] at hb_199
                              obtain ⟨hb_1991, hb_1992, hb_1993, hb_1994, hb_1995⟩ := hb_199
                              have hh_199 : jSt (dC, dI) B base G0 G0 EX10_scan s.heap 0 0 [(r0, 12, 3, .int qk_199)] [] [] H_199 locs_199 := (hh_202.call hb_1991 hb_1992 hb_1993 hb_1994 hS_199 rfl (L1 := []) [] rfl rfl (M1 := []) [] rfl rfl (I1 := []) [] rfl rfl).more hb_1995
                              clear hh_202 ht_199 hvm_199 hz_199 hk_199 hS_199 hb_1991 hb_1992 hb_1993 hb_1994 hb_1995
                              obtain ⟨hr_200_0, hr_200_1, hr_200_2⟩ := hr_200
                              exact C226 z_10 z_10 _ _ (hh_199.sub (L1 := []) [] rfl (M1 := []) [] rfl (I1 := []) [] rfl) (by first | omega | (refine ⟨?_, ?_⟩ <;> (first | omega | rfl | assumption | decide | exact Or.inl rfl | exact Or.inr rfl | (simp only; omega)))) _ (lv_sub hl [2, 3, 4, 5, 6, 7, 1, 1] rfl)
                            · skip
                              exact absurd c_198 (by decide)
                          · skip
                            have c_197' : r_196.toInt ≥ 0 := jb_lt_n (rfl) ((by decide)) c_197
                            refine lv_iconst (v := 1) hx hb dX10_scan_201 (by decide) ?_
                            refine lv_goto (tgt := 206) hx hb dX10_scan_202 (by decide) ?_
                            refine lv_istore (lv' := [(7, .int 1), (6, .int z_10), (0, .ref r0), (1, .ref r1), (2, .int a2), (3, .int a3), (4, .int z_3), (5, .int v5_5)]) hx hb dX10_scan_206 hl (by decide) rfl (fun ls hl => ?_)
                            refine lv_aload_n hx hb dX10_scan_208 rfl (lv_at hl 2 rfl) ?_
                            refine lv_iload hx hb dX10_scan_209 (lv_at hl 0 rfl) ?_
                            refine lv_if_eq (tgt := 221) hx hb dX10_scan_211 (by decide) (fun c_204 => ?_) (fun c_204 => ?_)
                            · skip
                              exact absurd c_204 (by decide)
                            · skip
                              refine lv_aload_n hx hb dX10_scan_214 rfl (lv_at hl 3 rfl) ?_
                              refine lv_iload hx hb dX10_scan_215 (lv_at hl 7 rfl) ?_
                              refine j7_iald hx hb hK hh_11 hB101 1 rfl (by decide) hg_r1 (rfl) (by omega) dX10_scan_217 (fun z_205 (hz_205 : True) => ?_)
                              refine lv_goto (tgt := 222) hx hb dX10_scan_218 (by decide) ?_
                              refine lv_iconst (v := 0) hx hb dX10_scan_222 (by decide) ?_
                              obtain ⟨v_208, hv_208, hh_209⟩ := hh_11.pin (C := RX10) (T := TX10) (N := 11) hB12 rfl (by decide) hg_r0 (i := 3) (by decide) rfl
                              obtain ⟨tokens_210, rfl, hlotokens_210, hhitokens_210⟩ := hv_208
                              refine va_callv (A0 := jA base) (H0 := s.heap) (va_runV (As := [.int z_205, .int 0]) (rest := []) ⟨hx, hb, hml, hown, hts⟩ (uX10_add l dC dI ca base B hB hAp hB12 hB101 G0 H_11 r0 z_205 0 tokens_210) (cwV 2 hts gX10_scan_X10_add rfl rfl rfl (by decide +kernel) ⟨by rw [← hR]; exact Nat.le_of_ble_eq_true rfl, by rw [← hR]; exact Nat.le_of_ble_eq_true rfl⟩) ⟨fun a U g mk q => by obtain ⟨q0, q1, q2, qK, q10, q11, q12⟩ := q; exact ⟨q0, q1, q2, jG.calling g mk a qK, q10, q11, q12⟩, hh_209.recv (C := RX10) (T := TX10) (N := 11) hB12 rfl (by decide) hg_r0 hK, fun U hU hW => ⟨rfl, hU, hh_209.2.1, hG.step hW hU hh_209.1, hg_r0, (hh_209.2.2.1.sub (L1 := [(r0, 12, 3, .int tokens_210)]) [0] rfl), by first | omega | (refine ⟨?_, ?_⟩ <;> (first | omega | rfl | assumption | decide | exact Or.inl rfl | exact Or.inr rfl | (simp only; omega)))⟩⟩ rfl rfl hl.1 rfl (lv_room (Nat.le_of_ble_eq_true rfl)) dX10_scan_223 ⟨Nat.zero_le _, Nat.zero_le _⟩) hh_209.1 (fun q _ h => h) (fun q h => h) (fun u_206 t_206 H_206 locs_206 ht_206 hvm_206 hr_207 hb_206 hz_206 hk_206 hS_206 => ?_)
                              obtain ⟨qk_206, rfl⟩ : ∃ z, z = u_206 := ⟨_, rfl⟩
                              rw [ht_206] at hb_206
                              obtain ⟨hb_2061, hb_2062, hb_2063, hb_2064, hb_2065⟩ := hb_206
                              have hh_206 : jSt (dC, dI) B base G0 G0 EX10_scan s.heap 0 0 [(r0, 12, 3, .int qk_206)] [] [] H_206 locs_206 := (hh_209.call hb_2061 hb_2062 hb_2063 hb_2064 hS_206 rfl (L1 := []) [] rfl rfl (M1 := []) [] rfl rfl (I1 := []) [] rfl rfl).more hb_2065
                              clear hh_209 ht_206 hvm_206 hz_206 hk_206 hS_206 hb_2061 hb_2062 hb_2063 hb_2064 hb_2065
                              obtain ⟨hr_207_0, hr_207_1, hr_207_2⟩ := hr_207
                              exact C226 z_10 z_10 _ _ (hh_206.sub (L1 := []) [] rfl (M1 := []) [] rfl (I1 := []) [] rfl) (by first | omega | (refine ⟨?_, ?_⟩ <;> (first | omega | rfl | assumption | decide | exact Or.inl rfl | exact Or.inr rfl | (simp only; omega)))) _ (lv_sub hl [2, 3, 4, 5, 6, 7, 1, 1] rfl)
                      · skip
                        have c_184' : z_183.toInt = 46 := jb_ne_n (rfl) ((by decide)) c_184
                        refine lv_iload hx hb dX10_scan_171 (lv_at hl 0 rfl) ?_
                        refine lv_iload hx hb dX10_scan_173 (lv_at hl 5 rfl) ?_
                        refine lv_icmp_eq (tgt := 201) hx hb dX10_scan_175 (by decide) (fun c_211 => ?_) (fun c_211 => ?_)
                        · skip
                          have c_211' : z_10.toInt = z_3.toInt := jb_eq (rfl) (rfl) c_211
                          first | replace hr_12p := hr_12p.resolve_left (by omega) | replace hr_12p := hr_12p.resolve_right (by omega) | skip
                          refine lv_iconst (v := 1) hx hb dX10_scan_201 (by decide) ?_
                          refine lv_goto (tgt := 206) hx hb dX10_scan_202 (by decide) ?_
                          refine lv_istore (lv' := [(7, .int 1), (6, .int z_10), (0, .ref r0), (1, .ref r1), (2, .int a2), (3, .int a3), (4, .int z_3), (5, .int v5_5)]) hx hb dX10_scan_206 hl (by decide) rfl (fun ls hl => ?_)
                          refine lv_aload_n hx hb dX10_scan_208 rfl (lv_at hl 2 rfl) ?_
                          refine lv_iload hx hb dX10_scan_209 (lv_at hl 0 rfl) ?_
                          refine lv_if_eq (tgt := 221) hx hb dX10_scan_211 (by decide) (fun c_212 => ?_) (fun c_212 => ?_)
                          · skip
                            exact absurd c_212 (by decide)
                          · skip
                            refine lv_aload_n hx hb dX10_scan_214 rfl (lv_at hl 3 rfl) ?_
                            refine lv_iload hx hb dX10_scan_215 (lv_at hl 7 rfl) ?_
                            refine j7_iald hx hb hK hh_11 hB101 1 rfl (by decide) hg_r1 (rfl) (by omega) dX10_scan_217 (fun z_213 (hz_213 : True) => ?_)
                            refine lv_goto (tgt := 222) hx hb dX10_scan_218 (by decide) ?_
                            refine lv_iconst (v := 0) hx hb dX10_scan_222 (by decide) ?_
                            obtain ⟨v_216, hv_216, hh_217⟩ := hh_11.pin (C := RX10) (T := TX10) (N := 11) hB12 rfl (by decide) hg_r0 (i := 3) (by decide) rfl
                            obtain ⟨tokens_218, rfl, hlotokens_218, hhitokens_218⟩ := hv_216
                            refine va_callv (A0 := jA base) (H0 := s.heap) (va_runV (As := [.int z_213, .int 0]) (rest := []) ⟨hx, hb, hml, hown, hts⟩ (uX10_add l dC dI ca base B hB hAp hB12 hB101 G0 H_11 r0 z_213 0 tokens_218) (cwV 2 hts gX10_scan_X10_add rfl rfl rfl (by decide +kernel) ⟨by rw [← hR]; exact Nat.le_of_ble_eq_true rfl, by rw [← hR]; exact Nat.le_of_ble_eq_true rfl⟩) ⟨fun a U g mk q => by obtain ⟨q0, q1, q2, qK, q10, q11, q12⟩ := q; exact ⟨q0, q1, q2, jG.calling g mk a qK, q10, q11, q12⟩, hh_217.recv (C := RX10) (T := TX10) (N := 11) hB12 rfl (by decide) hg_r0 hK, fun U hU hW => ⟨rfl, hU, hh_217.2.1, hG.step hW hU hh_217.1, hg_r0, (hh_217.2.2.1.sub (L1 := [(r0, 12, 3, .int tokens_218)]) [0] rfl), by first | omega | (refine ⟨?_, ?_⟩ <;> (first | omega | rfl | assumption | decide | exact Or.inl rfl | exact Or.inr rfl | (simp only; omega)))⟩⟩ rfl rfl hl.1 rfl (lv_room (Nat.le_of_ble_eq_true rfl)) dX10_scan_223 ⟨Nat.zero_le _, Nat.zero_le _⟩) hh_217.1 (fun q _ h => h) (fun q h => h) (fun u_214 t_214 H_214 locs_214 ht_214 hvm_214 hr_215 hb_214 hz_214 hk_214 hS_214 => ?_)
                            obtain ⟨qk_214, rfl⟩ : ∃ z, z = u_214 := ⟨_, rfl⟩
                            rw [ht_214] at hb_214
                            obtain ⟨hb_2141, hb_2142, hb_2143, hb_2144, hb_2145⟩ := hb_214
                            have hh_214 : jSt (dC, dI) B base G0 G0 EX10_scan s.heap 0 0 [(r0, 12, 3, .int qk_214)] [] [] H_214 locs_214 := (hh_217.call hb_2141 hb_2142 hb_2143 hb_2144 hS_214 rfl (L1 := []) [] rfl rfl (M1 := []) [] rfl rfl (I1 := []) [] rfl rfl).more hb_2145
                            clear hh_217 ht_214 hvm_214 hz_214 hk_214 hS_214 hb_2141 hb_2142 hb_2143 hb_2144 hb_2145
                            obtain ⟨hr_215_0, hr_215_1, hr_215_2⟩ := hr_215
                            exact C226 z_10 z_10 _ _ (hh_214.sub (L1 := []) [] rfl (M1 := []) [] rfl (I1 := []) [] rfl) (by first | omega | (refine ⟨?_, ?_⟩ <;> (first | omega | rfl | assumption | decide | exact Or.inl rfl | exact Or.inr rfl | (simp only; omega)))) _ (lv_sub hl [2, 3, 4, 5, 6, 7, 1, 1] rfl)
                        · skip
                          have c_211' : z_10.toInt ≠ z_3.toInt := jb_eq_n (rfl) (rfl) c_211
                          first | replace hr_12p := hr_12p.resolve_left (by omega) | replace hr_12p := hr_12p.resolve_right (by omega) | skip
                          refine lv_aload_n hx hb dX10_scan_178 rfl (lv_at hl 2 rfl) ?_
                          refine lv_iload hx hb dX10_scan_179 (lv_at hl 6 rfl) ?_
                          refine j7_iald hx hb hK hh_11 hB101 1 rfl (by decide) hg_r1 (rfl) (by omega) dX10_scan_181 (fun z_219 (hz_219 : True) => ?_)
                          refine lv_sipush (v := 128) hx hb dX10_scan_182 (by decide) ?_
                          refine lv_icmp_ge (tgt := 205) hx hb dX10_scan_185 (by decide) (fun c_220 => ?_) (fun c_220 => ?_)
                          · skip
                            have c_220' : z_219.toInt ≥ 128 := jb_ge (rfl) ((by decide)) c_220
                            refine lv_iconst (v := 0) hx hb dX10_scan_205 (by decide) ?_
                            refine lv_istore (lv' := [(7, .int 0), (6, .int z_10), (0, .ref r0), (1, .ref r1), (2, .int a2), (3, .int a3), (4, .int z_3), (5, .int v5_5)]) hx hb dX10_scan_206 hl (by decide) rfl (fun ls hl => ?_)
                            refine lv_aload_n hx hb dX10_scan_208 rfl (lv_at hl 2 rfl) ?_
                            refine lv_iload hx hb dX10_scan_209 (lv_at hl 0 rfl) ?_
                            refine lv_if_eq (tgt := 221) hx hb dX10_scan_211 (by decide) (fun c_221 => ?_) (fun c_221 => ?_)
                            · skip
                              refine lv_iconst (v := 0) hx hb dX10_scan_221 (by decide) ?_
                              refine lv_iconst (v := 0) hx hb dX10_scan_222 (by decide) ?_
                              obtain ⟨v_224, hv_224, hh_225⟩ := hh_11.pin (C := RX10) (T := TX10) (N := 11) hB12 rfl (by decide) hg_r0 (i := 3) (by decide) rfl
                              obtain ⟨tokens_226, rfl, hlotokens_226, hhitokens_226⟩ := hv_224
                              refine va_callv (A0 := jA base) (H0 := s.heap) (va_runV (As := [.int 0, .int 0]) (rest := []) ⟨hx, hb, hml, hown, hts⟩ (uX10_add l dC dI ca base B hB hAp hB12 hB101 G0 H_11 r0 0 0 tokens_226) (cwV 2 hts gX10_scan_X10_add rfl rfl rfl (by decide +kernel) ⟨by rw [← hR]; exact Nat.le_of_ble_eq_true rfl, by rw [← hR]; exact Nat.le_of_ble_eq_true rfl⟩) ⟨fun a U g mk q => by obtain ⟨q0, q1, q2, qK, q10, q11, q12⟩ := q; exact ⟨q0, q1, q2, jG.calling g mk a qK, q10, q11, q12⟩, hh_225.recv (C := RX10) (T := TX10) (N := 11) hB12 rfl (by decide) hg_r0 hK, fun U hU hW => ⟨rfl, hU, hh_225.2.1, hG.step hW hU hh_225.1, hg_r0, (hh_225.2.2.1.sub (L1 := [(r0, 12, 3, .int tokens_226)]) [0] rfl), by first | omega | (refine ⟨?_, ?_⟩ <;> (first | omega | rfl | assumption | decide | exact Or.inl rfl | exact Or.inr rfl | (simp only; omega)))⟩⟩ rfl rfl hl.1 rfl (lv_room (Nat.le_of_ble_eq_true rfl)) dX10_scan_223 ⟨Nat.zero_le _, Nat.zero_le _⟩) hh_225.1 (fun q _ h => h) (fun q h => h) (fun u_222 t_222 H_222 locs_222 ht_222 hvm_222 hr_223 hb_222 hz_222 hk_222 hS_222 => ?_)
                              obtain ⟨qk_222, rfl⟩ : ∃ z, z = u_222 := ⟨_, rfl⟩
                              rw [ht_222] at hb_222
                              obtain ⟨hb_2221, hb_2222, hb_2223, hb_2224, hb_2225⟩ := hb_222
                              have hh_222 : jSt (dC, dI) B base G0 G0 EX10_scan s.heap 0 0 [(r0, 12, 3, .int qk_222)] [] [] H_222 locs_222 := (hh_225.call hb_2221 hb_2222 hb_2223 hb_2224 hS_222 rfl (L1 := []) [] rfl rfl (M1 := []) [] rfl rfl (I1 := []) [] rfl rfl).more hb_2225
                              clear hh_225 ht_222 hvm_222 hz_222 hk_222 hS_222 hb_2221 hb_2222 hb_2223 hb_2224 hb_2225
                              obtain ⟨hr_223_0, hr_223_1, hr_223_2⟩ := hr_223
                              exact C226 z_10 z_10 _ _ (hh_222.sub (L1 := []) [] rfl (M1 := []) [] rfl (I1 := []) [] rfl) (by first | omega | (refine ⟨?_, ?_⟩ <;> (first | omega | rfl | assumption | decide | exact Or.inl rfl | exact Or.inr rfl | (simp only; omega)))) _ (lv_sub hl [2, 3, 4, 5, 6, 7, 1, 1] rfl)
                            · skip
                              exact absurd c_221 (by decide)
                          · skip
                            have c_220' : z_219.toInt < 128 := jb_ge_n (rfl) ((by decide)) c_220
                            obtain ⟨str_227, rstr_227, hstr_2270⟩ := hG.str (o := RX10) (k := 66) (tx := "*+~=:,()") (List.mem_of_getElem? (i := 1152) (by decide +kernel))
                            have hstr_227 : jStr base str_227 8 s s.heap := hstr_2270
                            refine va_ldcS hx hb hown rstr_227 dX10_scan_188 ?_
                            refine lv_aload_n hx hb dX10_scan_190 rfl (lv_at hl 2 rfl) ?_
                            refine lv_iload hx hb dX10_scan_191 (lv_at hl 6 rfl) ?_
                            refine j7_iald hx hb hK hh_11 hB101 1 rfl (by decide) hg_r1 (rfl) (by omega) dX10_scan_193 (fun z_228 (hz_228 : True) => ?_)
                            refine lv_i2c hx hb dX10_scan_194 rfl ?_
                            refine lv_topi (fun z_229 ez_229 => ?_)
                            refine vp_callSi (W.runV (As := [.int z_229]) (rest := []) ⟨hx, hb, hml, hown, hts⟩ (kJ0_indexOf_0f7a4 l dC dI ca base H_11 str_227 8 z_229) (cwV 1 hts gX10_scan_J0_indexOf_0f7a4 rfl rfl rfl (by decide +kernel) ⟨by rw [← hR]; exact Nat.le_of_ble_eq_true rfl, by rw [← hR]; exact Nat.le_of_ble_eq_true rfl⟩) ⟨fun a U g mk q => by obtain ⟨q0, q1, q2, qK, q9⟩ := q; exact ⟨q0, q1, (q2.moved (Vm.Alike.refl U.vm)), jG.calling g mk a qK, q9⟩, jStr_recv hstr_227 hh_11.1, fun U hU hW => ⟨rfl, hU, (hstr_227.moved hW.alike).kept hh_11.1.2.1, hG.step hW hU hh_11.1, by omega⟩⟩ rfl rfl hl.1 rfl (lv_room (Nat.le_of_ble_eq_true rfl)) dX10_scan_195 ⟨Nat.zero_le _, Nat.zero_le _⟩) (fun r_230 hr_230 => ?_)
                            refine lv_if_lt (tgt := 205) hx hb dX10_scan_198 (by decide) (fun c_231 => ?_) (fun c_231 => ?_)
                            · skip
                              have c_231' : r_230.toInt < 0 := jb_lt (rfl) ((by decide)) c_231
                              refine lv_iconst (v := 0) hx hb dX10_scan_205 (by decide) ?_
                              refine lv_istore (lv' := [(7, .int 0), (6, .int z_10), (0, .ref r0), (1, .ref r1), (2, .int a2), (3, .int a3), (4, .int z_3), (5, .int v5_5)]) hx hb dX10_scan_206 hl (by decide) rfl (fun ls hl => ?_)
                              refine lv_aload_n hx hb dX10_scan_208 rfl (lv_at hl 2 rfl) ?_
                              refine lv_iload hx hb dX10_scan_209 (lv_at hl 0 rfl) ?_
                              refine lv_if_eq (tgt := 221) hx hb dX10_scan_211 (by decide) (fun c_232 => ?_) (fun c_232 => ?_)
                              · skip
                                refine lv_iconst (v := 0) hx hb dX10_scan_221 (by decide) ?_
                                refine lv_iconst (v := 0) hx hb dX10_scan_222 (by decide) ?_
                                obtain ⟨v_235, hv_235, hh_236⟩ := hh_11.pin (C := RX10) (T := TX10) (N := 11) hB12 rfl (by decide) hg_r0 (i := 3) (by decide) rfl
                                obtain ⟨tokens_237, rfl, hlotokens_237, hhitokens_237⟩ := hv_235
                                refine va_callv (A0 := jA base) (H0 := s.heap) (va_runV (As := [.int 0, .int 0]) (rest := []) ⟨hx, hb, hml, hown, hts⟩ (uX10_add l dC dI ca base B hB hAp hB12 hB101 G0 H_11 r0 0 0 tokens_237) (cwV 2 hts gX10_scan_X10_add rfl rfl rfl (by decide +kernel) ⟨by rw [← hR]; exact Nat.le_of_ble_eq_true rfl, by rw [← hR]; exact Nat.le_of_ble_eq_true rfl⟩) ⟨fun a U g mk q => by obtain ⟨q0, q1, q2, qK, q10, q11, q12⟩ := q; exact ⟨q0, q1, q2, jG.calling g mk a qK, q10, q11, q12⟩, hh_236.recv (C := RX10) (T := TX10) (N := 11) hB12 rfl (by decide) hg_r0 hK, fun U hU hW => ⟨rfl, hU, hh_236.2.1, hG.step hW hU hh_236.1, hg_r0, (hh_236.2.2.1.sub (L1 := [(r0, 12, 3, .int tokens_237)]) [0] rfl), by first | omega | (refine ⟨?_, ?_⟩ <;> (first | omega | rfl | assumption | decide | exact Or.inl rfl | exact Or.inr rfl | (simp only; omega)))⟩⟩ rfl rfl hl.1 rfl (lv_room (Nat.le_of_ble_eq_true rfl)) dX10_scan_223 ⟨Nat.zero_le _, Nat.zero_le _⟩) hh_236.1 (fun q _ h => h) (fun q h => h) (fun u_233 t_233 H_233 locs_233 ht_233 hvm_233 hr_234 hb_233 hz_233 hk_233 hS_233 => ?_)
                                obtain ⟨qk_233, rfl⟩ : ∃ z, z = u_233 := ⟨_, rfl⟩
                                rw [ht_233] at hb_233
                                obtain ⟨hb_2331, hb_2332, hb_2333, hb_2334, hb_2335⟩ := hb_233
                                have hh_233 : jSt (dC, dI) B base G0 G0 EX10_scan s.heap 0 0 [(r0, 12, 3, .int qk_233)] [] [] H_233 locs_233 := (hh_236.call hb_2331 hb_2332 hb_2333 hb_2334 hS_233 rfl (L1 := []) [] rfl rfl (M1 := []) [] rfl rfl (I1 := []) [] rfl rfl).more hb_2335
                                clear hh_236 ht_233 hvm_233 hz_233 hk_233 hS_233 hb_2331 hb_2332 hb_2333 hb_2334 hb_2335
                                obtain ⟨hr_234_0, hr_234_1, hr_234_2⟩ := hr_234
                                exact C226 z_10 z_10 _ _ (hh_233.sub (L1 := []) [] rfl (M1 := []) [] rfl (I1 := []) [] rfl) (by first | omega | (refine ⟨?_, ?_⟩ <;> (first | omega | rfl | assumption | decide | exact Or.inl rfl | exact Or.inr rfl | (simp only; omega)))) _ (lv_sub hl [2, 3, 4, 5, 6, 7, 1, 1] rfl)
                              · skip
                                exact absurd c_232 (by decide)
                            · skip
                              have c_231' : r_230.toInt ≥ 0 := jb_lt_n (rfl) ((by decide)) c_231
                              refine lv_iconst (v := 1) hx hb dX10_scan_201 (by decide) ?_
                              refine lv_goto (tgt := 206) hx hb dX10_scan_202 (by decide) ?_
                              refine lv_istore (lv' := [(7, .int 1), (6, .int z_10), (0, .ref r0), (1, .ref r1), (2, .int a2), (3, .int a3), (4, .int z_3), (5, .int v5_5)]) hx hb dX10_scan_206 hl (by decide) rfl (fun ls hl => ?_)
                              refine lv_aload_n hx hb dX10_scan_208 rfl (lv_at hl 2 rfl) ?_
                              refine lv_iload hx hb dX10_scan_209 (lv_at hl 0 rfl) ?_
                              refine lv_if_eq (tgt := 221) hx hb dX10_scan_211 (by decide) (fun c_238 => ?_) (fun c_238 => ?_)
                              · skip
                                exact absurd c_238 (by decide)
                              · skip
                                refine lv_aload_n hx hb dX10_scan_214 rfl (lv_at hl 3 rfl) ?_
                                refine lv_iload hx hb dX10_scan_215 (lv_at hl 7 rfl) ?_
                                refine j7_iald hx hb hK hh_11 hB101 1 rfl (by decide) hg_r1 (rfl) (by omega) dX10_scan_217 (fun z_239 (hz_239 : True) => ?_)
                                refine lv_goto (tgt := 222) hx hb dX10_scan_218 (by decide) ?_
                                refine lv_iconst (v := 0) hx hb dX10_scan_222 (by decide) ?_
                                obtain ⟨v_242, hv_242, hh_243⟩ := hh_11.pin (C := RX10) (T := TX10) (N := 11) hB12 rfl (by decide) hg_r0 (i := 3) (by decide) rfl
                                obtain ⟨tokens_244, rfl, hlotokens_244, hhitokens_244⟩ := hv_242
                                refine va_callv (A0 := jA base) (H0 := s.heap) (va_runV (As := [.int z_239, .int 0]) (rest := []) ⟨hx, hb, hml, hown, hts⟩ (uX10_add l dC dI ca base B hB hAp hB12 hB101 G0 H_11 r0 z_239 0 tokens_244) (cwV 2 hts gX10_scan_X10_add rfl rfl rfl (by decide +kernel) ⟨by rw [← hR]; exact Nat.le_of_ble_eq_true rfl, by rw [← hR]; exact Nat.le_of_ble_eq_true rfl⟩) ⟨fun a U g mk q => by obtain ⟨q0, q1, q2, qK, q10, q11, q12⟩ := q; exact ⟨q0, q1, q2, jG.calling g mk a qK, q10, q11, q12⟩, hh_243.recv (C := RX10) (T := TX10) (N := 11) hB12 rfl (by decide) hg_r0 hK, fun U hU hW => ⟨rfl, hU, hh_243.2.1, hG.step hW hU hh_243.1, hg_r0, (hh_243.2.2.1.sub (L1 := [(r0, 12, 3, .int tokens_244)]) [0] rfl), by first | omega | (refine ⟨?_, ?_⟩ <;> (first | omega | rfl | assumption | decide | exact Or.inl rfl | exact Or.inr rfl | (simp only; omega)))⟩⟩ rfl rfl hl.1 rfl (lv_room (Nat.le_of_ble_eq_true rfl)) dX10_scan_223 ⟨Nat.zero_le _, Nat.zero_le _⟩) hh_243.1 (fun q _ h => h) (fun q h => h) (fun u_240 t_240 H_240 locs_240 ht_240 hvm_240 hr_241 hb_240 hz_240 hk_240 hS_240 => ?_)
                                obtain ⟨qk_240, rfl⟩ : ∃ z, z = u_240 := ⟨_, rfl⟩
                                rw [ht_240] at hb_240
                                obtain ⟨hb_2401, hb_2402, hb_2403, hb_2404, hb_2405⟩ := hb_240
                                have hh_240 : jSt (dC, dI) B base G0 G0 EX10_scan s.heap 0 0 [(r0, 12, 3, .int qk_240)] [] [] H_240 locs_240 := (hh_243.call hb_2401 hb_2402 hb_2403 hb_2404 hS_240 rfl (L1 := []) [] rfl rfl (M1 := []) [] rfl rfl (I1 := []) [] rfl rfl).more hb_2405
                                clear hh_243 ht_240 hvm_240 hz_240 hk_240 hS_240 hb_2401 hb_2402 hb_2403 hb_2404 hb_2405
                                obtain ⟨hr_241_0, hr_241_1, hr_241_2⟩ := hr_241
                                exact C226 z_10 z_10 _ _ (hh_240.sub (L1 := []) [] rfl (M1 := []) [] rfl (I1 := []) [] rfl) (by first | omega | (refine ⟨?_, ?_⟩ <;> (first | omega | rfl | assumption | decide | exact Or.inl rfl | exact Or.inr rfl | (simp only; omega)))) _ (lv_sub hl [2, 3, 4, 5, 6, 7, 1, 1] rfl)
                  · skip
                    have c_179' : r_178.toInt ≠ 0 := jb_eq_n (rfl) ((by decide)) c_179
                    refine lv_aload_n hx hb dX10_scan_136 rfl (lv_at hl 1 rfl) ?_
                    refine lv_bipush (v := 100) hx hb dX10_scan_137 (by decide) ?_
                    refine lv_aload_n hx hb dX10_scan_139 rfl (lv_at hl 2 rfl) ?_
                    refine lv_iload hx hb dX10_scan_140 (lv_at hl 6 rfl) ?_
                    refine j7_iald hx hb hK hh_11 hB101 1 rfl (by decide) hg_r1 (rfl) (by omega) dX10_scan_142 (fun z_245 (hz_245 : True) => ?_)
                    refine lv_bipush (v := 48) hx hb dX10_scan_143 (by decide) ?_
                    refine lv_isub hx hb dX10_scan_145 ?_
                    refine lv_topi (fun z_246 ez_246 => ?_)
                    obtain ⟨v_249, hv_249, hh_250⟩ := hh_11.pin (C := RX10) (T := TX10) (N := 11) hB12 rfl (by decide) hg_r0 (i := 3) (by decide) rfl
                    obtain ⟨tokens_251, rfl, hlotokens_251, hhitokens_251⟩ := hv_249
                    refine va_callv (A0 := jA base) (H0 := s.heap) (va_runV (As := [.int 100, .int z_246]) (rest := []) ⟨hx, hb, hml, hown, hts⟩ (uX10_add l dC dI ca base B hB hAp hB12 hB101 G0 H_11 r0 100 z_246 tokens_251) (cwV 2 hts gX10_scan_X10_add rfl rfl rfl (by decide +kernel) ⟨by rw [← hR]; exact Nat.le_of_ble_eq_true rfl, by rw [← hR]; exact Nat.le_of_ble_eq_true rfl⟩) ⟨fun a U g mk q => by obtain ⟨q0, q1, q2, qK, q10, q11, q12⟩ := q; exact ⟨q0, q1, q2, jG.calling g mk a qK, q10, q11, q12⟩, hh_250.recv (C := RX10) (T := TX10) (N := 11) hB12 rfl (by decide) hg_r0 hK, fun U hU hW => ⟨rfl, hU, hh_250.2.1, hG.step hW hU hh_250.1, hg_r0, (hh_250.2.2.1.sub (L1 := [(r0, 12, 3, .int tokens_251)]) [0] rfl), by first | omega | (refine ⟨?_, ?_⟩ <;> (first | omega | rfl | assumption | decide | exact Or.inl rfl | exact Or.inr rfl | (simp only; omega)))⟩⟩ rfl rfl hl.1 rfl (lv_room (Nat.le_of_ble_eq_true rfl)) dX10_scan_146 ⟨Nat.zero_le _, Nat.zero_le _⟩) hh_250.1 (fun q _ h => h) (fun q h => h) (fun u_247 t_247 H_247 locs_247 ht_247 hvm_247 hr_248 hb_247 hz_247 hk_247 hS_247 => ?_)
                    obtain ⟨qk_247, rfl⟩ : ∃ z, z = u_247 := ⟨_, rfl⟩
                    rw [ht_247] at hb_247
                    obtain ⟨hb_2471, hb_2472, hb_2473, hb_2474, hb_2475⟩ := hb_247
                    have hh_247 : jSt (dC, dI) B base G0 G0 EX10_scan s.heap 0 0 [(r0, 12, 3, .int qk_247)] [] [] H_247 locs_247 := (hh_250.call hb_2471 hb_2472 hb_2473 hb_2474 hS_247 rfl (L1 := []) [] rfl rfl (M1 := []) [] rfl rfl (I1 := []) [] rfl rfl).more hb_2475
                    clear hh_250 ht_247 hvm_247 hz_247 hk_247 hS_247 hb_2471 hb_2472 hb_2473 hb_2474 hb_2475
                    obtain ⟨hr_248_0, hr_248_1, hr_248_2⟩ := hr_248
                    refine lv_goto (tgt := 226) hx hb dX10_scan_149 (by decide) ?_
                    exact C226 z_10 z_10 _ _ (hh_247.sub (L1 := []) [] rfl (M1 := []) [] rfl (I1 := []) [] rfl) (by first | omega | (refine ⟨?_, ?_⟩ <;> (first | omega | rfl | assumption | decide | exact Or.inl rfl | exact Or.inr rfl | (simp only; omega)))) _ (lv_sub hl [1, 2, 3, 4, 5, 6, 0, 0] rfl)
                · skip
                  have c_176' : z_175.toInt = 62 := jb_ne_n (rfl) ((by decide)) c_176
                  refine lv_aload_n hx hb dX10_scan_110 rfl (lv_at hl 1 rfl) ?_
                  refine lv_bipush (v := 62) hx hb dX10_scan_111 (by decide) ?_
                  refine lv_iconst (v := 0) hx hb dX10_scan_113 (by decide) ?_
                  obtain ⟨v_254, hv_254, hh_255⟩ := hh_11.pin (C := RX10) (T := TX10) (N := 11) hB12 rfl (by decide) hg_r0 (i := 3) (by decide) rfl
                  obtain ⟨tokens_256, rfl, hlotokens_256, hhitokens_256⟩ := hv_254
                  refine va_callv (A0 := jA base) (H0 := s.heap) (va_runV (As := [.int 62, .int 0]) (rest := []) ⟨hx, hb, hml, hown, hts⟩ (uX10_add l dC dI ca base B hB hAp hB12 hB101 G0 H_11 r0 62 0 tokens_256) (cwV 2 hts gX10_scan_X10_add rfl rfl rfl (by decide +kernel) ⟨by rw [← hR]; exact Nat.le_of_ble_eq_true rfl, by rw [← hR]; exact Nat.le_of_ble_eq_true rfl⟩) ⟨fun a U g mk q => by obtain ⟨q0, q1, q2, qK, q10, q11, q12⟩ := q; exact ⟨q0, q1, q2, jG.calling g mk a qK, q10, q11, q12⟩, hh_255.recv (C := RX10) (T := TX10) (N := 11) hB12 rfl (by decide) hg_r0 hK, fun U hU hW => ⟨rfl, hU, hh_255.2.1, hG.step hW hU hh_255.1, hg_r0, (hh_255.2.2.1.sub (L1 := [(r0, 12, 3, .int tokens_256)]) [0] rfl), by first | omega | (refine ⟨?_, ?_⟩ <;> (first | omega | rfl | assumption | decide | exact Or.inl rfl | exact Or.inr rfl | (simp only; omega)))⟩⟩ rfl rfl hl.1 rfl (lv_room (Nat.le_of_ble_eq_true rfl)) dX10_scan_114 ⟨Nat.zero_le _, Nat.zero_le _⟩) hh_255.1 (fun q _ h => h) (fun q h => h) (fun u_252 t_252 H_252 locs_252 ht_252 hvm_252 hr_253 hb_252 hz_252 hk_252 hS_252 => ?_)
                  obtain ⟨qk_252, rfl⟩ : ∃ z, z = u_252 := ⟨_, rfl⟩
                  rw [ht_252] at hb_252
                  obtain ⟨hb_2521, hb_2522, hb_2523, hb_2524, hb_2525⟩ := hb_252
                  have hh_252 : jSt (dC, dI) B base G0 G0 EX10_scan s.heap 0 0 [(r0, 12, 3, .int qk_252)] [] [] H_252 locs_252 := (hh_255.call hb_2521 hb_2522 hb_2523 hb_2524 hS_252 rfl (L1 := []) [] rfl rfl (M1 := []) [] rfl rfl (I1 := []) [] rfl rfl).more hb_2525
                  clear hh_255 ht_252 hvm_252 hz_252 hk_252 hS_252 hb_2521 hb_2522 hb_2523 hb_2524 hb_2525
                  obtain ⟨hr_253_0, hr_253_1, hr_253_2⟩ := hr_253
                  refine lv_iload hx hb dX10_scan_117 (lv_at hl 6 rfl) ?_
                  refine lv_iconst (v := 2) hx hb dX10_scan_119 (by decide) ?_
                  refine lv_iadd hx hb dX10_scan_120 ?_
                  refine lv_topi (fun z_257 ez_257 => ?_)
                  have hz_257 : z_257.toInt = v5_5.toInt + 2 := by rw [ez_257]; exact jb_iadd2 (rfl) ((by decide)) (by omega)
                  refine lv_istore (lv' := [(6, .int z_257), (0, .ref r0), (1, .ref r1), (2, .int a2), (3, .int a3), (4, .int z_3), (5, .int v5_5)]) hx hb dX10_scan_121 hl (by decide) rfl (fun ls hl => ?_)
                  refine lv_goto (tgt := 226) hx hb dX10_scan_123 (by decide) ?_
                  exact C226 z_257 z_257 _ _ (hh_252.sub (L1 := []) [] rfl (M1 := []) [] rfl (I1 := []) [] rfl) (by first | omega | (refine ⟨?_, ?_⟩ <;> (first | omega | rfl | assumption | decide | exact Or.inl rfl | exact Or.inr rfl | (simp only; omega)))) _ (lv_sub hl [1, 2, 3, 4, 5, 6, 0, 0] rfl)
          · skip
            have c_19' : r_18.toInt ≠ 0 := jb_eq_n (rfl) ((by decide)) c_19
            refine lv_aload_n hx hb dX10_scan_67 rfl (lv_at hl 1 rfl) ?_
            refine lv_aload_n hx hb dX10_scan_68 rfl (lv_at hl 2 rfl) ?_
            refine lv_iload hx hb dX10_scan_69 (lv_at hl 6 rfl) ?_
            refine lv_iload hx hb dX10_scan_71 (lv_at hl 5 rfl) ?_
            refine va_calli (A0 := jA base) (H0 := s.heap) (va_runV (As := [.ref r1, .int v5_5, .int z_3]) (rest := []) ⟨hx, hb, hml, hown, hts⟩ (uX10_scanName l dC dI ca base B hB hAp hB8 hB12 hB101 hB102 hB132 hB133 G0 H_11 r0 r1 v5_5 z_3 n1) (cwV 3 hts gX10_scan_X10_scanName rfl rfl rfl (by decide +kernel) ⟨by rw [← hR]; exact Nat.le_of_ble_eq_true rfl, by rw [← hR]; exact Nat.le_of_ble_eq_true rfl⟩) ⟨fun a U g mk q => by obtain ⟨q0, q1, q2, qK, q10, q11, q12, q13⟩ := q; exact ⟨q0, q1, q2, jG.calling g mk a qK, q10, q11, q12, q13⟩, hh_11.recv (C := RX10) (T := TX10) (N := 11) hB12 rfl (by decide) hg_r0 hK, fun U hU hW => ⟨rfl, hU, hh_11.2.1, hG.step hW hU hh_11.1, hg_r1, hg_r0, jP.nil, by first | omega | (refine ⟨?_, ?_, ?_, ?_⟩ <;> (first | omega | rfl | assumption | decide | exact Or.inl rfl | exact Or.inr rfl | (simp only; omega)))⟩⟩ rfl rfl hl.1 rfl (lv_room (Nat.le_of_ble_eq_true rfl)) dX10_scan_73 ⟨Nat.zero_le _, Nat.zero_le _⟩) hh_11.1 (fun q _ h => h) (fun q h => h) (fun r_259 u_258 t_258 H_258 locs_258 ht_258 hvm_258 hr_259 hb_258 hz_258 hk_258 hS_258 => ?_)
            rw [ht_258] at hb_258
            obtain ⟨hb_2581, hb_2582, hb_2583, hb_2584, hb_2585⟩ := hb_258
            have hh_258 : jSt (dC, dI) B base G0 G0 EX10_scan s.heap 0 0 [] [] [] H_258 locs_258 := (hh_11.call hb_2581 hb_2582 hb_2583 hb_2584 hS_258 rfl (L1 := []) [] rfl rfl (M1 := []) [] rfl rfl (I1 := []) [] rfl rfl).more hb_2585
            clear hh_11 ht_258 hvm_258 hz_258 hk_258 hS_258 hb_2581 hb_2582 hb_2583 hb_2584 hb_2585
            obtain ⟨hr_259_0, hr_259_1⟩ := hr_259
            refine lv_istore (lv' := [(6, .int r_259), (0, .ref r0), (1, .ref r1), (2, .int a2), (3, .int a3), (4, .int z_3), (5, .int v5_5)]) hx hb dX10_scan_76 hl (by decide) rfl (fun ls hl => ?_)
            refine lv_goto (tgt := 226) hx hb dX10_scan_78 (by decide) ?_
            exact C226 r_259 r_259 _ _ hh_258 (by first | omega | (refine ⟨?_, ?_⟩ <;> (first | omega | rfl | assumption | decide | exact Or.inl rfl | exact Or.inr rfl | (simp only; omega)))) _ (lv_sub hl [1, 2, 3, 4, 5, 6, 0, 0] rfl)
        · skip
          have c_16' : r_12.toInt ≠ 0 := jb_eq_n (rfl) ((by decide)) c_16
          first | replace hr_12p := hr_12p.resolve_left (by omega) | replace hr_12p := hr_12p.resolve_right (by omega) | skip
          refine lv_aload_n hx hb dX10_scan_44 rfl (lv_at hl 2 rfl) ?_
          refine lv_iload hx hb dX10_scan_45 (lv_at hl 6 rfl) ?_
          refine lv_iload hx hb dX10_scan_47 (lv_at hl 5 rfl) ?_
          refine va_calli (A0 := jA base) (H0 := s.heap) (va_runSN (As := [.ref r1, .int v5_5, .int z_3]) (rest := []) ⟨hx, hb, hml, hown, hts⟩ (uX11_commentEnd l dC dI ca base B hB hAp hB101 G0 H_11 r1 v5_5 z_3 n1) ⟨va_cnB 3 hts gX10_scan_X11_commentEnd_n45 rfl rfl rfl (hG.2.2.1 RX10 45 yX11_commentEnd "ProofServer" (List.mem_of_getElem? (i := 1138) (by decide +kernel))) (hts (.initialized RX11) (by decide +kernel)) (by decide +kernel) ⟨by rw [← hR]; exact Nat.le_of_ble_eq_true rfl, by rw [← hR]; exact Nat.le_of_ble_eq_true rfl⟩, hts (.static yX11_commentEnd) (by decide +kernel), trivial⟩ ⟨fun a U g mk q => by obtain ⟨q0, q1, q2, qK, q10, q11, q12⟩ := q; exact ⟨q0, q1, q2, jG.calling g mk a qK, q10, q11, q12⟩, fun U hU hW => ⟨rfl, hU, hh_11.2.1, hG.step hW hU hh_11.1, hg_r1, jP.nil, by first | omega | (refine ⟨?_, ?_⟩ <;> (first | omega | rfl | assumption | decide | exact Or.inl rfl | exact Or.inr rfl | (simp only; omega)))⟩⟩ rfl rfl hl.1 rfl (lv_room (Nat.le_of_ble_eq_true rfl)) dX10_scan_49 ⟨Nat.zero_le _, Nat.zero_le _⟩) hh_11.1 (fun q _ h => h) (fun q h => h) (fun r_261 u_260 t_260 H_260 locs_260 ht_260 hvm_260 hr_261 hb_260 hz_260 hk_260 hS_260 => ?_)
          rw [ht_260] at hb_260
          obtain ⟨hb_2601, hb_2602, hb_2603, hb_2604, hb_2605⟩ := hb_260
          have hh_260 : jSt (dC, dI) B base G0 G0 EX10_scan s.heap 0 0 [] [] [] H_260 locs_260 := (hh_11.call hb_2601 hb_2602 hb_2603 hb_2604 hS_260 rfl (L1 := []) [] rfl rfl (M1 := []) [] rfl rfl (I1 := []) [] rfl rfl).more hb_2605
          clear hh_11 ht_260 hvm_260 hz_260 hk_260 hS_260 hb_2601 hb_2602 hb_2603 hb_2604 hb_2605
          refine lv_istore (lv' := [(6, .int r_261), (0, .ref r0), (1, .ref r1), (2, .int a2), (3, .int a3), (4, .int z_3), (5, .int v5_5)]) hx hb dX10_scan_52 hl (by decide) rfl (fun ls hl => ?_)
          refine lv_goto (tgt := 226) hx hb dX10_scan_54 (by decide) ?_
          exact C226 r_261 r_261 _ _ hh_260 (by first | omega | (refine ⟨?_, ?_⟩ <;> (first | omega | rfl | assumption | decide | exact Or.inl rfl | exact Or.inr rfl | (simp only; omega)))) _ (lv_sub hl [1, 2, 3, 4, 5, 6, 0, 0] rfl)
  exact L20 (((z_3.toInt - (z_4 : Int32).toInt).toNat : Int) : Int).toNat.succ z_4 _ _ (hh_1.sub (L1 := []) [] rfl (M1 := []) [] rfl (I1 := []) [] rfl) (by first | omega | rfl | assumption | decide | exact Or.inl rfl | exact Or.inr rfl | (simp only; omega)) (by omega) _ (lv_sub hl [2, 3, 4, 5, 1, 0] rfl)
