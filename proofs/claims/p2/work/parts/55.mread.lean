abbrev cX14_readValue : ByteArray := prog_14_method_27_code
def yX14_readValue : MethodName := ⟨RX14, "readValue", "(I)I"⟩
abbrev cX14_escape : ByteArray := prog_14_method_33_code
def yX14_escape : MethodName := ⟨RX14, "escape", "()V"⟩
abbrev cX14_readString : ByteArray := prog_14_method_34_code
def yX14_readString : MethodName := ⟨RX14, "readString", "()V"⟩
abbrev cX14_readMany : ByteArray := prog_14_method_36_code
def yX14_readMany : MethodName := ⟨RX14, "readMany", "(ZI)I"⟩
def wsX14_escape_r1 : List Cond := [Cond.fieldLink RX14 273 "ProofServerModel" "at" "I", Cond.constant RX14 185 (56320), Cond.constant RX14 186 (57343), Cond.fieldLink RX14 288 "ProofServerModel" "bad" "Z", Cond.constant RX14 179 (55296), Cond.constant RX14 180 (56319), Cond.methodLink RX14 279 yX14_here, Cond.instanceMethod yX14_here, Cond.selects RX14 yX14_here yX14_here, Cond.initialized RX14, Cond.code yX14_here cX14_here 1 (some .int), Cond.fieldLink RX14 276 "ProofServerModel" "end" "I", Cond.fieldLink RX14 20 "ProofServerModel" "kept" "[I", Cond.methodLink RX14 339 yJ0_indexOf_0f7a4, Cond.instanceMethod yJ0_indexOf_0f7a4, Cond.selects RJ0 yJ0_indexOf_0f7a4 yJ0_indexOf_0f7a4, Cond.initialized RJ0, Cond.code yJ0_indexOf_0f7a4 cJ0_indexOf_0f7a4 2 (some .int), Cond.methodLink RJ0 633 yJ0_indexOf_7cf53, Cond.instanceMethod yJ0_indexOf_7cf53, Cond.selects RJ0 yJ0_indexOf_7cf53 yJ0_indexOf_7cf53, Cond.code yJ0_indexOf_7cf53 cJ0_indexOf_7cf53 3 (some .int), Cond.fieldLink RJ0 9 "java/lang/String" "value" "[B", Cond.methodLink RJ0 492 yJ0_isLatin1_aae02]
def wsX14_escape_r2 : List Cond := [Cond.instanceMethod yJ0_isLatin1_aae02, Cond.selects RJ0 yJ0_isLatin1_aae02 yJ0_isLatin1_aae02, Cond.code yJ0_isLatin1_aae02 cJ0_isLatin1_aae02 1 (some .boolean), Cond.fieldLink RJ0 38 "java/lang/String" "COMPACT_STRINGS" "Z", Cond.fieldLink RJ0 15 "java/lang/String" "coder" "B", Cond.methodLink RJ0 505 yJ0_length_8abf5, Cond.instanceMethod yJ0_length_8abf5, Cond.selects RJ0 yJ0_length_8abf5 yJ0_length_8abf5, Cond.code yJ0_length_8abf5 cJ0_length_8abf5 1 (some .int), Cond.methodLink RJ0 335 yJ0_coder_7d493, Cond.instanceMethod yJ0_coder_7d493, Cond.selects RJ0 yJ0_coder_7d493 yJ0_coder_7d493, Cond.code yJ0_coder_7d493 cJ0_coder_7d493 1 (some .byte), Cond.methodLink RJ0 637 yJ1_indexOf_4cfef, Cond.static yJ1_indexOf_4cfef, Cond.initialized RJ1, Cond.code yJ1_indexOf_4cfef cJ1_indexOf_4cfef 4 (some .int), Cond.methodLink RJ1 92 Lib.Math.max.name, Cond.static Lib.Math.max.name, Cond.initialized "java/lang/Math", Cond.code Lib.Math.max.name Lib.Math.max.code 2 (some .int), Cond.methodLink RJ1 38 Lib.Math.min.name, Cond.static Lib.Math.min.name, Cond.code Lib.Math.min.name Lib.Math.min.code 2 (some .int)]
def wsX14_escape_r3 : List Cond := [Cond.methodLink RJ1 88 yJ1_canEncode_9a6ad, Cond.static yJ1_canEncode_9a6ad, Cond.code yJ1_canEncode_9a6ad cJ1_canEncode_9a6ad 1 (some .boolean), Cond.methodLink RJ1 95 yJ1_indexOfChar_4cfef, Cond.static yJ1_indexOfChar_4cfef, Cond.code yJ1_indexOfChar_4cfef cJ1_indexOfChar_4cfef 6 (some .int), Cond.methodLink RJ0 640 yJ2_indexOf_4cfef, Cond.static yJ2_indexOf_4cfef, Cond.initialized RJ2, Cond.code yJ2_indexOf_4cfef cJ2_indexOf_4cfef 4 (some .int), Cond.methodLink RJ2 224 Lib.Math.max.name, Cond.methodLink RJ2 183 Lib.Math.min.name, Cond.constant RJ2 227 (65536), Cond.methodLink RJ2 228 yJ2_indexOfChar_4cfef, Cond.static yJ2_indexOfChar_4cfef, Cond.code yJ2_indexOfChar_4cfef cJ2_indexOfChar_4cfef 4 (some .int), Cond.methodLink RJ2 96 yJ2_checkBoundsBeginEnd_d044e, Cond.static yJ2_checkBoundsBeginEnd_d044e, Cond.code yJ2_checkBoundsBeginEnd_d044e cJ2_checkBoundsBeginEnd_d044e 3 none, Cond.methodLink RJ2 48 yJ2_length_9d52b, Cond.static yJ2_length_9d52b, Cond.code yJ2_length_9d52b cJ2_length_9d52b 1 (some .int), Cond.methodLink RJ2 241 yJ0_checkBoundsBeginEnd_23922, Cond.static yJ0_checkBoundsBeginEnd_23922]
def wsX14_escape_r4 : List Cond := [Cond.code yJ0_checkBoundsBeginEnd_23922 cJ0_checkBoundsBeginEnd_23922 3 none, Cond.fieldLink RJ0 1053 "jdk/internal/util/Preconditions" "SIOOBE_FORMATTER" "Ljava/util/function/BiFunction;", Cond.methodLink RJ0 1062 yJ3_checkFromToIndex_8c36e, Cond.static yJ3_checkFromToIndex_8c36e, Cond.initialized RJ3, Cond.code yJ3_checkFromToIndex_8c36e cJ3_checkFromToIndex_8c36e 4 (some .int), Cond.methodLink RJ2 244 yJ2_indexOfCharUnsafe_4cfef, Cond.static yJ2_indexOfCharUnsafe_4cfef, Cond.code yJ2_indexOfCharUnsafe_4cfef cJ2_indexOfCharUnsafe_4cfef 5 (some .int), Cond.methodLink RJ2 71 yJ2_getChar_3b067, Cond.static yJ2_getChar_3b067, Cond.code yJ2_getChar_3b067 cJ2_getChar_3b067 2 (some .char), Cond.fieldLink RJ2 44 "java/lang/StringUTF16" "$assertionsDisabled" "Z", Cond.fieldLink RJ2 59 "java/lang/StringUTF16" "HI_BYTE_SHIFT" "I", Cond.fieldLink RJ2 63 "java/lang/StringUTF16" "LO_BYTE_SHIFT" "I", Cond.methodLink RJ2 232 yJ2_indexOfSupplementary_4cfef, Cond.static yJ2_indexOfSupplementary_4cfef, Cond.code yJ2_indexOfSupplementary_4cfef cJ2_indexOfSupplementary_4cfef 7 (some .int), Cond.methodLink RJ2 164 yJ11_isValidCodePoint_9a6ad, Cond.static yJ11_isValidCodePoint_9a6ad, Cond.initialized RJ11, Cond.code yJ11_isValidCodePoint_9a6ad cJ11_isValidCodePoint_9a6ad 2 (some .boolean), Cond.methodLink RJ2 157 yJ11_highSurrogate_5068e, Cond.static yJ11_highSurrogate_5068e]
def wsX14_escape_r5 : List Cond := [Cond.code yJ11_highSurrogate_5068e cJ11_highSurrogate_5068e 1 (some .char), Cond.constant RJ11 110 (55232), Cond.methodLink RJ2 161 yJ11_lowSurrogate_5068e, Cond.static yJ11_lowSurrogate_5068e, Cond.code yJ11_lowSurrogate_5068e cJ11_lowSurrogate_5068e 1 (some .char), Cond.constant RJ11 76 (56320), Cond.methodLink RX14 342 yX14_unit, Cond.instanceMethod yX14_unit, Cond.selects RX14 yX14_unit yX14_unit, Cond.code yX14_unit cX14_unit 2 none, Cond.constant RX14 333 (65535), Cond.fieldLink RX14 65 "ProofServerModel" "pool" "[I", Cond.fieldLink RX14 304 "ProofServerModel" "pooled" "I", Cond.constant RX14 197 (65536), Cond.methodLink RX14 345 yX14_four, Cond.instanceMethod yX14_four, Cond.selects RX14 yX14_four yX14_four, Cond.code yX14_four cX14_four 4 (some .int), Cond.methodLink RX14 334 yX14_hexOf, Cond.static yX14_hexOf, Cond.code yX14_hexOf cX14_hexOf 1 (some .int), Cond.methodLink RX14 224 yX14_isDigit, Cond.static yX14_isDigit, Cond.code yX14_isDigit cX14_isDigit 1 (some .boolean)]
def wsX14_escape_r6 : List Cond := [Cond.methodLink RX14 181 yX14_in, Cond.static yX14_in, Cond.code yX14_in cX14_in 3 (some .boolean), Cond.methodLink RX14 309 yX14_takes, Cond.instanceMethod yX14_takes, Cond.selects RX14 yX14_takes yX14_takes, Cond.code yX14_takes cX14_takes 3 (some .boolean), Cond.methodLink RX14 163 yJ0_length_8abf5, Cond.methodLink RX14 168 yJ0_charAt_5068e, Cond.instanceMethod yJ0_charAt_5068e, Cond.selects RJ0 yJ0_charAt_5068e yJ0_charAt_5068e, Cond.code yJ0_charAt_5068e cJ0_charAt_5068e 2 (some .char), Cond.methodLink RJ0 495 yJ1_charAt_3b067, Cond.static yJ1_charAt_3b067, Cond.code yJ1_charAt_3b067 cJ1_charAt_3b067 2 (some .char), Cond.methodLink RJ1 9 yJ0_checkIndex_df160, Cond.static yJ0_checkIndex_df160, Cond.code yJ0_checkIndex_df160 cJ0_checkIndex_df160 2 none, Cond.methodLink RJ0 1059 yJ3_checkIndex_8e157, Cond.static yJ3_checkIndex_8e157, Cond.code yJ3_checkIndex_8e157 cJ3_checkIndex_8e157 3 (some .int), Cond.methodLink RJ0 498 yJ2_charAt_3b067, Cond.static yJ2_charAt_3b067, Cond.code yJ2_charAt_3b067 cJ2_charAt_3b067 2 (some .char)]
def wsX14_escape_r7 : List Cond := [Cond.methodLink RJ2 67 yJ2_checkIndex_2214a, Cond.static yJ2_checkIndex_2214a, Cond.code yJ2_checkIndex_2214a cJ2_checkIndex_2214a 2 none, Cond.methodLink RJ2 414 yJ0_checkIndex_df160]
def wsX14_escape : List Cond := .code yX14_escape cX14_escape 6 none :: ((wsX14_escape_r1 ++ (wsX14_escape_r2 ++ (wsX14_escape_r3 ++ (wsX14_escape_r4 ++ (wsX14_escape_r5 ++ (wsX14_escape_r6 ++ wsX14_escape_r7)))))) ++ wsX140)
def wsX14_readString_r1 : List Cond := [Cond.fieldLink RX14 273 "ProofServerModel" "at" "I", Cond.fieldLink RX14 304 "ProofServerModel" "pooled" "I", Cond.fieldLink RX14 288 "ProofServerModel" "bad" "Z", Cond.fieldLink RX14 20 "ProofServerModel" "kept" "[I", Cond.fieldLink RX14 276 "ProofServerModel" "end" "I", Cond.fieldLink RX14 357 "ProofServerModel" "utfChar" "I", Cond.fieldLink RX14 301 "ProofServerModel" "stringFrom" "I", Cond.methodLink RX14 279 yX14_here, Cond.instanceMethod yX14_here, Cond.selects RX14 yX14_here yX14_here, Cond.initialized RX14, Cond.code yX14_here cX14_here 1 (some .int), Cond.methodLink RX14 350 yX14_escape, Cond.instanceMethod yX14_escape, Cond.selects RX14 yX14_escape yX14_escape, Cond.code yX14_escape cX14_escape 6 none, Cond.constant RX14 185 (56320), Cond.constant RX14 186 (57343), Cond.constant RX14 179 (55296), Cond.constant RX14 180 (56319), Cond.methodLink RX14 339 yJ0_indexOf_0f7a4, Cond.instanceMethod yJ0_indexOf_0f7a4, Cond.selects RJ0 yJ0_indexOf_0f7a4 yJ0_indexOf_0f7a4, Cond.initialized RJ0]
def wsX14_readString_r2 : List Cond := [Cond.code yJ0_indexOf_0f7a4 cJ0_indexOf_0f7a4 2 (some .int), Cond.methodLink RJ0 633 yJ0_indexOf_7cf53, Cond.instanceMethod yJ0_indexOf_7cf53, Cond.selects RJ0 yJ0_indexOf_7cf53 yJ0_indexOf_7cf53, Cond.code yJ0_indexOf_7cf53 cJ0_indexOf_7cf53 3 (some .int), Cond.fieldLink RJ0 9 "java/lang/String" "value" "[B", Cond.methodLink RJ0 492 yJ0_isLatin1_aae02, Cond.instanceMethod yJ0_isLatin1_aae02, Cond.selects RJ0 yJ0_isLatin1_aae02 yJ0_isLatin1_aae02, Cond.code yJ0_isLatin1_aae02 cJ0_isLatin1_aae02 1 (some .boolean), Cond.fieldLink RJ0 38 "java/lang/String" "COMPACT_STRINGS" "Z", Cond.fieldLink RJ0 15 "java/lang/String" "coder" "B", Cond.methodLink RJ0 505 yJ0_length_8abf5, Cond.instanceMethod yJ0_length_8abf5, Cond.selects RJ0 yJ0_length_8abf5 yJ0_length_8abf5, Cond.code yJ0_length_8abf5 cJ0_length_8abf5 1 (some .int), Cond.methodLink RJ0 335 yJ0_coder_7d493, Cond.instanceMethod yJ0_coder_7d493, Cond.selects RJ0 yJ0_coder_7d493 yJ0_coder_7d493, Cond.code yJ0_coder_7d493 cJ0_coder_7d493 1 (some .byte), Cond.methodLink RJ0 637 yJ1_indexOf_4cfef, Cond.static yJ1_indexOf_4cfef, Cond.initialized RJ1, Cond.code yJ1_indexOf_4cfef cJ1_indexOf_4cfef 4 (some .int)]
def wsX14_readString_r3 : List Cond := [Cond.methodLink RJ1 92 Lib.Math.max.name, Cond.static Lib.Math.max.name, Cond.initialized "java/lang/Math", Cond.code Lib.Math.max.name Lib.Math.max.code 2 (some .int), Cond.methodLink RJ1 38 Lib.Math.min.name, Cond.static Lib.Math.min.name, Cond.code Lib.Math.min.name Lib.Math.min.code 2 (some .int), Cond.methodLink RJ1 88 yJ1_canEncode_9a6ad, Cond.static yJ1_canEncode_9a6ad, Cond.code yJ1_canEncode_9a6ad cJ1_canEncode_9a6ad 1 (some .boolean), Cond.methodLink RJ1 95 yJ1_indexOfChar_4cfef, Cond.static yJ1_indexOfChar_4cfef, Cond.code yJ1_indexOfChar_4cfef cJ1_indexOfChar_4cfef 6 (some .int), Cond.methodLink RJ0 640 yJ2_indexOf_4cfef, Cond.static yJ2_indexOf_4cfef, Cond.initialized RJ2, Cond.code yJ2_indexOf_4cfef cJ2_indexOf_4cfef 4 (some .int), Cond.methodLink RJ2 224 Lib.Math.max.name, Cond.methodLink RJ2 183 Lib.Math.min.name, Cond.constant RJ2 227 (65536), Cond.methodLink RJ2 228 yJ2_indexOfChar_4cfef, Cond.static yJ2_indexOfChar_4cfef, Cond.code yJ2_indexOfChar_4cfef cJ2_indexOfChar_4cfef 4 (some .int), Cond.methodLink RJ2 96 yJ2_checkBoundsBeginEnd_d044e]
def wsX14_readString_r4 : List Cond := [Cond.static yJ2_checkBoundsBeginEnd_d044e, Cond.code yJ2_checkBoundsBeginEnd_d044e cJ2_checkBoundsBeginEnd_d044e 3 none, Cond.methodLink RJ2 48 yJ2_length_9d52b, Cond.static yJ2_length_9d52b, Cond.code yJ2_length_9d52b cJ2_length_9d52b 1 (some .int), Cond.methodLink RJ2 241 yJ0_checkBoundsBeginEnd_23922, Cond.static yJ0_checkBoundsBeginEnd_23922, Cond.code yJ0_checkBoundsBeginEnd_23922 cJ0_checkBoundsBeginEnd_23922 3 none, Cond.fieldLink RJ0 1053 "jdk/internal/util/Preconditions" "SIOOBE_FORMATTER" "Ljava/util/function/BiFunction;", Cond.methodLink RJ0 1062 yJ3_checkFromToIndex_8c36e, Cond.static yJ3_checkFromToIndex_8c36e, Cond.initialized RJ3, Cond.code yJ3_checkFromToIndex_8c36e cJ3_checkFromToIndex_8c36e 4 (some .int), Cond.methodLink RJ2 244 yJ2_indexOfCharUnsafe_4cfef, Cond.static yJ2_indexOfCharUnsafe_4cfef, Cond.code yJ2_indexOfCharUnsafe_4cfef cJ2_indexOfCharUnsafe_4cfef 5 (some .int), Cond.methodLink RJ2 71 yJ2_getChar_3b067, Cond.static yJ2_getChar_3b067, Cond.code yJ2_getChar_3b067 cJ2_getChar_3b067 2 (some .char), Cond.fieldLink RJ2 44 "java/lang/StringUTF16" "$assertionsDisabled" "Z", Cond.fieldLink RJ2 59 "java/lang/StringUTF16" "HI_BYTE_SHIFT" "I", Cond.fieldLink RJ2 63 "java/lang/StringUTF16" "LO_BYTE_SHIFT" "I", Cond.methodLink RJ2 232 yJ2_indexOfSupplementary_4cfef, Cond.static yJ2_indexOfSupplementary_4cfef]
def wsX14_readString_r5 : List Cond := [Cond.code yJ2_indexOfSupplementary_4cfef cJ2_indexOfSupplementary_4cfef 7 (some .int), Cond.methodLink RJ2 164 yJ11_isValidCodePoint_9a6ad, Cond.static yJ11_isValidCodePoint_9a6ad, Cond.initialized RJ11, Cond.code yJ11_isValidCodePoint_9a6ad cJ11_isValidCodePoint_9a6ad 2 (some .boolean), Cond.methodLink RJ2 157 yJ11_highSurrogate_5068e, Cond.static yJ11_highSurrogate_5068e, Cond.code yJ11_highSurrogate_5068e cJ11_highSurrogate_5068e 1 (some .char), Cond.constant RJ11 110 (55232), Cond.methodLink RJ2 161 yJ11_lowSurrogate_5068e, Cond.static yJ11_lowSurrogate_5068e, Cond.code yJ11_lowSurrogate_5068e cJ11_lowSurrogate_5068e 1 (some .char), Cond.constant RJ11 76 (56320), Cond.methodLink RX14 342 yX14_unit, Cond.instanceMethod yX14_unit, Cond.selects RX14 yX14_unit yX14_unit, Cond.code yX14_unit cX14_unit 2 none, Cond.constant RX14 333 (65535), Cond.fieldLink RX14 65 "ProofServerModel" "pool" "[I", Cond.constant RX14 197 (65536), Cond.methodLink RX14 345 yX14_four, Cond.instanceMethod yX14_four, Cond.selects RX14 yX14_four yX14_four, Cond.code yX14_four cX14_four 4 (some .int)]
def wsX14_readString_r6 : List Cond := [Cond.methodLink RX14 334 yX14_hexOf, Cond.static yX14_hexOf, Cond.code yX14_hexOf cX14_hexOf 1 (some .int), Cond.methodLink RX14 224 yX14_isDigit, Cond.static yX14_isDigit, Cond.code yX14_isDigit cX14_isDigit 1 (some .boolean), Cond.methodLink RX14 181 yX14_in, Cond.static yX14_in, Cond.code yX14_in cX14_in 3 (some .boolean), Cond.methodLink RX14 309 yX14_takes, Cond.instanceMethod yX14_takes, Cond.selects RX14 yX14_takes yX14_takes, Cond.code yX14_takes cX14_takes 3 (some .boolean), Cond.methodLink RX14 163 yJ0_length_8abf5, Cond.methodLink RX14 168 yJ0_charAt_5068e, Cond.instanceMethod yJ0_charAt_5068e, Cond.selects RJ0 yJ0_charAt_5068e yJ0_charAt_5068e, Cond.code yJ0_charAt_5068e cJ0_charAt_5068e 2 (some .char), Cond.methodLink RJ0 495 yJ1_charAt_3b067, Cond.static yJ1_charAt_3b067, Cond.code yJ1_charAt_3b067 cJ1_charAt_3b067 2 (some .char), Cond.methodLink RJ1 9 yJ0_checkIndex_df160, Cond.static yJ0_checkIndex_df160, Cond.code yJ0_checkIndex_df160 cJ0_checkIndex_df160 2 none]
def wsX14_readString_r7 : List Cond := [Cond.methodLink RJ0 1059 yJ3_checkIndex_8e157, Cond.static yJ3_checkIndex_8e157, Cond.code yJ3_checkIndex_8e157 cJ3_checkIndex_8e157 3 (some .int), Cond.methodLink RJ0 498 yJ2_charAt_3b067, Cond.static yJ2_charAt_3b067, Cond.code yJ2_charAt_3b067 cJ2_charAt_3b067 2 (some .char), Cond.methodLink RJ2 67 yJ2_checkIndex_2214a, Cond.static yJ2_checkIndex_2214a, Cond.code yJ2_checkIndex_2214a cJ2_checkIndex_2214a 2 none, Cond.methodLink RJ2 414 yJ0_checkIndex_df160, Cond.methodLink RX14 353 yX14_utfLength, Cond.instanceMethod yX14_utfLength, Cond.selects RX14 yX14_utfLength yX14_utfLength, Cond.code yX14_utfLength cX14_utfLength 8 (some .int), Cond.constant RX14 360 (1114111)]
def wsX14_readString : List Cond := .code yX14_readString cX14_readString 4 none :: ((wsX14_readString_r1 ++ (wsX14_readString_r2 ++ (wsX14_readString_r3 ++ (wsX14_readString_r4 ++ (wsX14_readString_r5 ++ (wsX14_readString_r6 ++ wsX14_readString_r7)))))) ++ wsX140)
def wsX14_readMany_r1 : List Cond := [Cond.fieldLink RX14 273 "ProofServerModel" "at" "I", Cond.fieldLink RX14 288 "ProofServerModel" "bad" "Z", Cond.fieldLink RX14 301 "ProofServerModel" "stringFrom" "I", Cond.fieldLink RX14 304 "ProofServerModel" "pooled" "I", Cond.fieldLink RX14 46 "ProofServerModel" "nameFrom" "[I", Cond.fieldLink RX14 49 "ProofServerModel" "nameTo" "[I", Cond.fieldLink RX14 40 "ProofServerModel" "heir" "[I", Cond.fieldLink RX14 43 "ProofServerModel" "next" "[I", Cond.methodLink RX14 295 yX14_node, Cond.instanceMethod yX14_node, Cond.selects RX14 yX14_node yX14_node, Cond.initialized RX14, Cond.code yX14_node cX14_node 2 (some .int), Cond.fieldLink RX14 37 "ProofServerModel" "sort" "[I", Cond.fieldLink RX14 282 "ProofServerModel" "nodes" "I", Cond.fieldLink RX14 58 "ProofServerModel" "isInt" "[Z", Cond.methodLink RX14 285 yX14_blanks, Cond.instanceMethod yX14_blanks, Cond.selects RX14 yX14_blanks yX14_blanks, Cond.code yX14_blanks cX14_blanks 1 none, Cond.methodLink RX14 279 yX14_here, Cond.instanceMethod yX14_here, Cond.selects RX14 yX14_here yX14_here, Cond.code yX14_here cX14_here 1 (some .int)]
def wsX14_readMany_r2 : List Cond := [Cond.fieldLink RX14 276 "ProofServerModel" "end" "I", Cond.fieldLink RX14 20 "ProofServerModel" "kept" "[I", Cond.methodLink RX14 298 yX14_readString, Cond.instanceMethod yX14_readString, Cond.selects RX14 yX14_readString yX14_readString, Cond.code yX14_readString cX14_readString 4 none, Cond.fieldLink RX14 357 "ProofServerModel" "utfChar" "I", Cond.methodLink RX14 350 yX14_escape, Cond.instanceMethod yX14_escape, Cond.selects RX14 yX14_escape yX14_escape, Cond.code yX14_escape cX14_escape 6 none, Cond.constant RX14 185 (56320), Cond.constant RX14 186 (57343), Cond.constant RX14 179 (55296), Cond.constant RX14 180 (56319), Cond.methodLink RX14 339 yJ0_indexOf_0f7a4, Cond.instanceMethod yJ0_indexOf_0f7a4, Cond.selects RJ0 yJ0_indexOf_0f7a4 yJ0_indexOf_0f7a4, Cond.initialized RJ0, Cond.code yJ0_indexOf_0f7a4 cJ0_indexOf_0f7a4 2 (some .int), Cond.methodLink RJ0 633 yJ0_indexOf_7cf53, Cond.instanceMethod yJ0_indexOf_7cf53, Cond.selects RJ0 yJ0_indexOf_7cf53 yJ0_indexOf_7cf53, Cond.code yJ0_indexOf_7cf53 cJ0_indexOf_7cf53 3 (some .int)]
def wsX14_readMany_r3 : List Cond := [Cond.fieldLink RJ0 9 "java/lang/String" "value" "[B", Cond.methodLink RJ0 492 yJ0_isLatin1_aae02, Cond.instanceMethod yJ0_isLatin1_aae02, Cond.selects RJ0 yJ0_isLatin1_aae02 yJ0_isLatin1_aae02, Cond.code yJ0_isLatin1_aae02 cJ0_isLatin1_aae02 1 (some .boolean), Cond.fieldLink RJ0 38 "java/lang/String" "COMPACT_STRINGS" "Z", Cond.fieldLink RJ0 15 "java/lang/String" "coder" "B", Cond.methodLink RJ0 505 yJ0_length_8abf5, Cond.instanceMethod yJ0_length_8abf5, Cond.selects RJ0 yJ0_length_8abf5 yJ0_length_8abf5, Cond.code yJ0_length_8abf5 cJ0_length_8abf5 1 (some .int), Cond.methodLink RJ0 335 yJ0_coder_7d493, Cond.instanceMethod yJ0_coder_7d493, Cond.selects RJ0 yJ0_coder_7d493 yJ0_coder_7d493, Cond.code yJ0_coder_7d493 cJ0_coder_7d493 1 (some .byte), Cond.methodLink RJ0 637 yJ1_indexOf_4cfef, Cond.static yJ1_indexOf_4cfef, Cond.initialized RJ1, Cond.code yJ1_indexOf_4cfef cJ1_indexOf_4cfef 4 (some .int), Cond.methodLink RJ1 92 Lib.Math.max.name, Cond.static Lib.Math.max.name, Cond.initialized "java/lang/Math", Cond.code Lib.Math.max.name Lib.Math.max.code 2 (some .int), Cond.methodLink RJ1 38 Lib.Math.min.name]
def wsX14_readMany_r4 : List Cond := [Cond.static Lib.Math.min.name, Cond.code Lib.Math.min.name Lib.Math.min.code 2 (some .int), Cond.methodLink RJ1 88 yJ1_canEncode_9a6ad, Cond.static yJ1_canEncode_9a6ad, Cond.code yJ1_canEncode_9a6ad cJ1_canEncode_9a6ad 1 (some .boolean), Cond.methodLink RJ1 95 yJ1_indexOfChar_4cfef, Cond.static yJ1_indexOfChar_4cfef, Cond.code yJ1_indexOfChar_4cfef cJ1_indexOfChar_4cfef 6 (some .int), Cond.methodLink RJ0 640 yJ2_indexOf_4cfef, Cond.static yJ2_indexOf_4cfef, Cond.initialized RJ2, Cond.code yJ2_indexOf_4cfef cJ2_indexOf_4cfef 4 (some .int), Cond.methodLink RJ2 224 Lib.Math.max.name, Cond.methodLink RJ2 183 Lib.Math.min.name, Cond.constant RJ2 227 (65536), Cond.methodLink RJ2 228 yJ2_indexOfChar_4cfef, Cond.static yJ2_indexOfChar_4cfef, Cond.code yJ2_indexOfChar_4cfef cJ2_indexOfChar_4cfef 4 (some .int), Cond.methodLink RJ2 96 yJ2_checkBoundsBeginEnd_d044e, Cond.static yJ2_checkBoundsBeginEnd_d044e, Cond.code yJ2_checkBoundsBeginEnd_d044e cJ2_checkBoundsBeginEnd_d044e 3 none, Cond.methodLink RJ2 48 yJ2_length_9d52b, Cond.static yJ2_length_9d52b, Cond.code yJ2_length_9d52b cJ2_length_9d52b 1 (some .int)]
def wsX14_readMany_r5 : List Cond := [Cond.methodLink RJ2 241 yJ0_checkBoundsBeginEnd_23922, Cond.static yJ0_checkBoundsBeginEnd_23922, Cond.code yJ0_checkBoundsBeginEnd_23922 cJ0_checkBoundsBeginEnd_23922 3 none, Cond.fieldLink RJ0 1053 "jdk/internal/util/Preconditions" "SIOOBE_FORMATTER" "Ljava/util/function/BiFunction;", Cond.methodLink RJ0 1062 yJ3_checkFromToIndex_8c36e, Cond.static yJ3_checkFromToIndex_8c36e, Cond.initialized RJ3, Cond.code yJ3_checkFromToIndex_8c36e cJ3_checkFromToIndex_8c36e 4 (some .int), Cond.methodLink RJ2 244 yJ2_indexOfCharUnsafe_4cfef, Cond.static yJ2_indexOfCharUnsafe_4cfef, Cond.code yJ2_indexOfCharUnsafe_4cfef cJ2_indexOfCharUnsafe_4cfef 5 (some .int), Cond.methodLink RJ2 71 yJ2_getChar_3b067, Cond.static yJ2_getChar_3b067, Cond.code yJ2_getChar_3b067 cJ2_getChar_3b067 2 (some .char), Cond.fieldLink RJ2 44 "java/lang/StringUTF16" "$assertionsDisabled" "Z", Cond.fieldLink RJ2 59 "java/lang/StringUTF16" "HI_BYTE_SHIFT" "I", Cond.fieldLink RJ2 63 "java/lang/StringUTF16" "LO_BYTE_SHIFT" "I", Cond.methodLink RJ2 232 yJ2_indexOfSupplementary_4cfef, Cond.static yJ2_indexOfSupplementary_4cfef, Cond.code yJ2_indexOfSupplementary_4cfef cJ2_indexOfSupplementary_4cfef 7 (some .int), Cond.methodLink RJ2 164 yJ11_isValidCodePoint_9a6ad, Cond.static yJ11_isValidCodePoint_9a6ad, Cond.initialized RJ11, Cond.code yJ11_isValidCodePoint_9a6ad cJ11_isValidCodePoint_9a6ad 2 (some .boolean)]
def wsX14_readMany_r6 : List Cond := [Cond.methodLink RJ2 157 yJ11_highSurrogate_5068e, Cond.static yJ11_highSurrogate_5068e, Cond.code yJ11_highSurrogate_5068e cJ11_highSurrogate_5068e 1 (some .char), Cond.constant RJ11 110 (55232), Cond.methodLink RJ2 161 yJ11_lowSurrogate_5068e, Cond.static yJ11_lowSurrogate_5068e, Cond.code yJ11_lowSurrogate_5068e cJ11_lowSurrogate_5068e 1 (some .char), Cond.constant RJ11 76 (56320), Cond.methodLink RX14 342 yX14_unit, Cond.instanceMethod yX14_unit, Cond.selects RX14 yX14_unit yX14_unit, Cond.code yX14_unit cX14_unit 2 none, Cond.constant RX14 333 (65535), Cond.fieldLink RX14 65 "ProofServerModel" "pool" "[I", Cond.constant RX14 197 (65536), Cond.methodLink RX14 345 yX14_four, Cond.instanceMethod yX14_four, Cond.selects RX14 yX14_four yX14_four, Cond.code yX14_four cX14_four 4 (some .int), Cond.methodLink RX14 334 yX14_hexOf, Cond.static yX14_hexOf, Cond.code yX14_hexOf cX14_hexOf 1 (some .int), Cond.methodLink RX14 224 yX14_isDigit, Cond.static yX14_isDigit]
def wsX14_readMany_r7 : List Cond := [Cond.code yX14_isDigit cX14_isDigit 1 (some .boolean), Cond.methodLink RX14 181 yX14_in, Cond.static yX14_in, Cond.code yX14_in cX14_in 3 (some .boolean), Cond.methodLink RX14 309 yX14_takes, Cond.instanceMethod yX14_takes, Cond.selects RX14 yX14_takes yX14_takes, Cond.code yX14_takes cX14_takes 3 (some .boolean), Cond.methodLink RX14 163 yJ0_length_8abf5, Cond.methodLink RX14 168 yJ0_charAt_5068e, Cond.instanceMethod yJ0_charAt_5068e, Cond.selects RJ0 yJ0_charAt_5068e yJ0_charAt_5068e, Cond.code yJ0_charAt_5068e cJ0_charAt_5068e 2 (some .char), Cond.methodLink RJ0 495 yJ1_charAt_3b067, Cond.static yJ1_charAt_3b067, Cond.code yJ1_charAt_3b067 cJ1_charAt_3b067 2 (some .char), Cond.methodLink RJ1 9 yJ0_checkIndex_df160, Cond.static yJ0_checkIndex_df160, Cond.code yJ0_checkIndex_df160 cJ0_checkIndex_df160 2 none, Cond.methodLink RJ0 1059 yJ3_checkIndex_8e157, Cond.static yJ3_checkIndex_8e157, Cond.code yJ3_checkIndex_8e157 cJ3_checkIndex_8e157 3 (some .int), Cond.methodLink RJ0 498 yJ2_charAt_3b067, Cond.static yJ2_charAt_3b067]
def wsX14_readMany_r8 : List Cond := [Cond.code yJ2_charAt_3b067 cJ2_charAt_3b067 2 (some .char), Cond.methodLink RJ2 67 yJ2_checkIndex_2214a, Cond.static yJ2_checkIndex_2214a, Cond.code yJ2_checkIndex_2214a cJ2_checkIndex_2214a 2 none, Cond.methodLink RJ2 414 yJ0_checkIndex_df160, Cond.methodLink RX14 353 yX14_utfLength, Cond.instanceMethod yX14_utfLength, Cond.selects RX14 yX14_utfLength yX14_utfLength, Cond.code yX14_utfLength cX14_utfLength 8 (some .int), Cond.constant RX14 360 (1114111), Cond.methodLink RX14 361 yX14_readValue, Cond.instanceMethod yX14_readValue, Cond.selects RX14 yX14_readValue yX14_readValue, Cond.code yX14_readValue cX14_readValue 4 (some .int), Cond.fieldLink RX14 52 "ProofServerModel" "from" "[I", Cond.fieldLink RX14 55 "ProofServerModel" "to" "[I", Cond.methodLink RX14 291 yX14_readMany, Cond.instanceMethod yX14_readMany, Cond.selects RX14 yX14_readMany yX14_readMany, Cond.methodLink RX14 317 yX14_readNumber, Cond.instanceMethod yX14_readNumber, Cond.selects RX14 yX14_readNumber yX14_readNumber, Cond.code yX14_readNumber cX14_readNumber 9 (some .int), Cond.constantLong RX14 320 (99999999999)]
def wsX14_readMany_r9 : List Cond := [Cond.constantLong RX14 322 (10), Cond.constantLong RX14 324 (48), Cond.constantLong RX14 329 (-2147483648), Cond.constantLong RX14 331 (2147483647), Cond.fieldLink RX14 62 "ProofServerModel" "ints" "[I", Cond.methodLink RX14 326 yX14_digits, Cond.instanceMethod yX14_digits, Cond.selects RX14 yX14_digits yX14_digits, Cond.code yX14_digits cX14_digits 1 none]
def wsX14_readMany : List Cond := .code yX14_readMany cX14_readMany 10 (some .int) :: ((wsX14_readMany_r1 ++ (wsX14_readMany_r2 ++ (wsX14_readMany_r3 ++ (wsX14_readMany_r4 ++ (wsX14_readMany_r5 ++ (wsX14_readMany_r6 ++ (wsX14_readMany_r7 ++ (wsX14_readMany_r8 ++ wsX14_readMany_r9)))))))) ++ wsX140)
def wsX14_readValue_r1 : List Cond := [Cond.fieldLink RX14 288 "ProofServerModel" "bad" "Z", Cond.fieldLink RX14 52 "ProofServerModel" "from" "[I", Cond.fieldLink RX14 301 "ProofServerModel" "stringFrom" "I", Cond.fieldLink RX14 55 "ProofServerModel" "to" "[I", Cond.fieldLink RX14 304 "ProofServerModel" "pooled" "I", Cond.methodLink RX14 285 yX14_blanks, Cond.instanceMethod yX14_blanks, Cond.selects RX14 yX14_blanks yX14_blanks, Cond.initialized RX14, Cond.code yX14_blanks cX14_blanks 1 none, Cond.fieldLink RX14 273 "ProofServerModel" "at" "I", Cond.methodLink RX14 279 yX14_here, Cond.instanceMethod yX14_here, Cond.selects RX14 yX14_here yX14_here, Cond.code yX14_here cX14_here 1 (some .int), Cond.fieldLink RX14 276 "ProofServerModel" "end" "I", Cond.fieldLink RX14 20 "ProofServerModel" "kept" "[I", Cond.methodLink RX14 291 yX14_readMany, Cond.instanceMethod yX14_readMany, Cond.selects RX14 yX14_readMany yX14_readMany, Cond.methodLink RX14 295 yX14_node, Cond.instanceMethod yX14_node, Cond.selects RX14 yX14_node yX14_node, Cond.code yX14_node cX14_node 2 (some .int)]
def wsX14_readValue_r2 : List Cond := [Cond.fieldLink RX14 37 "ProofServerModel" "sort" "[I", Cond.fieldLink RX14 282 "ProofServerModel" "nodes" "I", Cond.fieldLink RX14 40 "ProofServerModel" "heir" "[I", Cond.fieldLink RX14 43 "ProofServerModel" "next" "[I", Cond.fieldLink RX14 58 "ProofServerModel" "isInt" "[Z", Cond.methodLink RX14 298 yX14_readString, Cond.instanceMethod yX14_readString, Cond.selects RX14 yX14_readString yX14_readString, Cond.code yX14_readString cX14_readString 4 none, Cond.fieldLink RX14 357 "ProofServerModel" "utfChar" "I", Cond.methodLink RX14 350 yX14_escape, Cond.instanceMethod yX14_escape, Cond.selects RX14 yX14_escape yX14_escape, Cond.code yX14_escape cX14_escape 6 none, Cond.constant RX14 185 (56320), Cond.constant RX14 186 (57343), Cond.constant RX14 179 (55296), Cond.constant RX14 180 (56319), Cond.methodLink RX14 339 yJ0_indexOf_0f7a4, Cond.instanceMethod yJ0_indexOf_0f7a4, Cond.selects RJ0 yJ0_indexOf_0f7a4 yJ0_indexOf_0f7a4, Cond.initialized RJ0, Cond.code yJ0_indexOf_0f7a4 cJ0_indexOf_0f7a4 2 (some .int), Cond.methodLink RJ0 633 yJ0_indexOf_7cf53]
def wsX14_readValue_r3 : List Cond := [Cond.instanceMethod yJ0_indexOf_7cf53, Cond.selects RJ0 yJ0_indexOf_7cf53 yJ0_indexOf_7cf53, Cond.code yJ0_indexOf_7cf53 cJ0_indexOf_7cf53 3 (some .int), Cond.fieldLink RJ0 9 "java/lang/String" "value" "[B", Cond.methodLink RJ0 492 yJ0_isLatin1_aae02, Cond.instanceMethod yJ0_isLatin1_aae02, Cond.selects RJ0 yJ0_isLatin1_aae02 yJ0_isLatin1_aae02, Cond.code yJ0_isLatin1_aae02 cJ0_isLatin1_aae02 1 (some .boolean), Cond.fieldLink RJ0 38 "java/lang/String" "COMPACT_STRINGS" "Z", Cond.fieldLink RJ0 15 "java/lang/String" "coder" "B", Cond.methodLink RJ0 505 yJ0_length_8abf5, Cond.instanceMethod yJ0_length_8abf5, Cond.selects RJ0 yJ0_length_8abf5 yJ0_length_8abf5, Cond.code yJ0_length_8abf5 cJ0_length_8abf5 1 (some .int), Cond.methodLink RJ0 335 yJ0_coder_7d493, Cond.instanceMethod yJ0_coder_7d493, Cond.selects RJ0 yJ0_coder_7d493 yJ0_coder_7d493, Cond.code yJ0_coder_7d493 cJ0_coder_7d493 1 (some .byte), Cond.methodLink RJ0 637 yJ1_indexOf_4cfef, Cond.static yJ1_indexOf_4cfef, Cond.initialized RJ1, Cond.code yJ1_indexOf_4cfef cJ1_indexOf_4cfef 4 (some .int), Cond.methodLink RJ1 92 Lib.Math.max.name, Cond.static Lib.Math.max.name]
def wsX14_readValue_r4 : List Cond := [Cond.initialized "java/lang/Math", Cond.code Lib.Math.max.name Lib.Math.max.code 2 (some .int), Cond.methodLink RJ1 38 Lib.Math.min.name, Cond.static Lib.Math.min.name, Cond.code Lib.Math.min.name Lib.Math.min.code 2 (some .int), Cond.methodLink RJ1 88 yJ1_canEncode_9a6ad, Cond.static yJ1_canEncode_9a6ad, Cond.code yJ1_canEncode_9a6ad cJ1_canEncode_9a6ad 1 (some .boolean), Cond.methodLink RJ1 95 yJ1_indexOfChar_4cfef, Cond.static yJ1_indexOfChar_4cfef, Cond.code yJ1_indexOfChar_4cfef cJ1_indexOfChar_4cfef 6 (some .int), Cond.methodLink RJ0 640 yJ2_indexOf_4cfef, Cond.static yJ2_indexOf_4cfef, Cond.initialized RJ2, Cond.code yJ2_indexOf_4cfef cJ2_indexOf_4cfef 4 (some .int), Cond.methodLink RJ2 224 Lib.Math.max.name, Cond.methodLink RJ2 183 Lib.Math.min.name, Cond.constant RJ2 227 (65536), Cond.methodLink RJ2 228 yJ2_indexOfChar_4cfef, Cond.static yJ2_indexOfChar_4cfef, Cond.code yJ2_indexOfChar_4cfef cJ2_indexOfChar_4cfef 4 (some .int), Cond.methodLink RJ2 96 yJ2_checkBoundsBeginEnd_d044e, Cond.static yJ2_checkBoundsBeginEnd_d044e, Cond.code yJ2_checkBoundsBeginEnd_d044e cJ2_checkBoundsBeginEnd_d044e 3 none]
def wsX14_readValue_r5 : List Cond := [Cond.methodLink RJ2 48 yJ2_length_9d52b, Cond.static yJ2_length_9d52b, Cond.code yJ2_length_9d52b cJ2_length_9d52b 1 (some .int), Cond.methodLink RJ2 241 yJ0_checkBoundsBeginEnd_23922, Cond.static yJ0_checkBoundsBeginEnd_23922, Cond.code yJ0_checkBoundsBeginEnd_23922 cJ0_checkBoundsBeginEnd_23922 3 none, Cond.fieldLink RJ0 1053 "jdk/internal/util/Preconditions" "SIOOBE_FORMATTER" "Ljava/util/function/BiFunction;", Cond.methodLink RJ0 1062 yJ3_checkFromToIndex_8c36e, Cond.static yJ3_checkFromToIndex_8c36e, Cond.initialized RJ3, Cond.code yJ3_checkFromToIndex_8c36e cJ3_checkFromToIndex_8c36e 4 (some .int), Cond.methodLink RJ2 244 yJ2_indexOfCharUnsafe_4cfef, Cond.static yJ2_indexOfCharUnsafe_4cfef, Cond.code yJ2_indexOfCharUnsafe_4cfef cJ2_indexOfCharUnsafe_4cfef 5 (some .int), Cond.methodLink RJ2 71 yJ2_getChar_3b067, Cond.static yJ2_getChar_3b067, Cond.code yJ2_getChar_3b067 cJ2_getChar_3b067 2 (some .char), Cond.fieldLink RJ2 44 "java/lang/StringUTF16" "$assertionsDisabled" "Z", Cond.fieldLink RJ2 59 "java/lang/StringUTF16" "HI_BYTE_SHIFT" "I", Cond.fieldLink RJ2 63 "java/lang/StringUTF16" "LO_BYTE_SHIFT" "I", Cond.methodLink RJ2 232 yJ2_indexOfSupplementary_4cfef, Cond.static yJ2_indexOfSupplementary_4cfef, Cond.code yJ2_indexOfSupplementary_4cfef cJ2_indexOfSupplementary_4cfef 7 (some .int), Cond.methodLink RJ2 164 yJ11_isValidCodePoint_9a6ad]
def wsX14_readValue_r6 : List Cond := [Cond.static yJ11_isValidCodePoint_9a6ad, Cond.initialized RJ11, Cond.code yJ11_isValidCodePoint_9a6ad cJ11_isValidCodePoint_9a6ad 2 (some .boolean), Cond.methodLink RJ2 157 yJ11_highSurrogate_5068e, Cond.static yJ11_highSurrogate_5068e, Cond.code yJ11_highSurrogate_5068e cJ11_highSurrogate_5068e 1 (some .char), Cond.constant RJ11 110 (55232), Cond.methodLink RJ2 161 yJ11_lowSurrogate_5068e, Cond.static yJ11_lowSurrogate_5068e, Cond.code yJ11_lowSurrogate_5068e cJ11_lowSurrogate_5068e 1 (some .char), Cond.constant RJ11 76 (56320), Cond.methodLink RX14 342 yX14_unit, Cond.instanceMethod yX14_unit, Cond.selects RX14 yX14_unit yX14_unit, Cond.code yX14_unit cX14_unit 2 none, Cond.constant RX14 333 (65535), Cond.fieldLink RX14 65 "ProofServerModel" "pool" "[I", Cond.constant RX14 197 (65536), Cond.methodLink RX14 345 yX14_four, Cond.instanceMethod yX14_four, Cond.selects RX14 yX14_four yX14_four, Cond.code yX14_four cX14_four 4 (some .int), Cond.methodLink RX14 334 yX14_hexOf, Cond.static yX14_hexOf]
def wsX14_readValue_r7 : List Cond := [Cond.code yX14_hexOf cX14_hexOf 1 (some .int), Cond.methodLink RX14 224 yX14_isDigit, Cond.static yX14_isDigit, Cond.code yX14_isDigit cX14_isDigit 1 (some .boolean), Cond.methodLink RX14 181 yX14_in, Cond.static yX14_in, Cond.code yX14_in cX14_in 3 (some .boolean), Cond.methodLink RX14 309 yX14_takes, Cond.instanceMethod yX14_takes, Cond.selects RX14 yX14_takes yX14_takes, Cond.code yX14_takes cX14_takes 3 (some .boolean), Cond.methodLink RX14 163 yJ0_length_8abf5, Cond.methodLink RX14 168 yJ0_charAt_5068e, Cond.instanceMethod yJ0_charAt_5068e, Cond.selects RJ0 yJ0_charAt_5068e yJ0_charAt_5068e, Cond.code yJ0_charAt_5068e cJ0_charAt_5068e 2 (some .char), Cond.methodLink RJ0 495 yJ1_charAt_3b067, Cond.static yJ1_charAt_3b067, Cond.code yJ1_charAt_3b067 cJ1_charAt_3b067 2 (some .char), Cond.methodLink RJ1 9 yJ0_checkIndex_df160, Cond.static yJ0_checkIndex_df160, Cond.code yJ0_checkIndex_df160 cJ0_checkIndex_df160 2 none, Cond.methodLink RJ0 1059 yJ3_checkIndex_8e157, Cond.static yJ3_checkIndex_8e157]
def wsX14_readValue_r8 : List Cond := [Cond.code yJ3_checkIndex_8e157 cJ3_checkIndex_8e157 3 (some .int), Cond.methodLink RJ0 498 yJ2_charAt_3b067, Cond.static yJ2_charAt_3b067, Cond.code yJ2_charAt_3b067 cJ2_charAt_3b067 2 (some .char), Cond.methodLink RJ2 67 yJ2_checkIndex_2214a, Cond.static yJ2_checkIndex_2214a, Cond.code yJ2_checkIndex_2214a cJ2_checkIndex_2214a 2 none, Cond.methodLink RJ2 414 yJ0_checkIndex_df160, Cond.methodLink RX14 353 yX14_utfLength, Cond.instanceMethod yX14_utfLength, Cond.selects RX14 yX14_utfLength yX14_utfLength, Cond.code yX14_utfLength cX14_utfLength 8 (some .int), Cond.constant RX14 360 (1114111), Cond.methodLink RX14 317 yX14_readNumber, Cond.instanceMethod yX14_readNumber, Cond.selects RX14 yX14_readNumber yX14_readNumber, Cond.code yX14_readNumber cX14_readNumber 9 (some .int), Cond.constantLong RX14 320 (99999999999), Cond.constantLong RX14 322 (10), Cond.constantLong RX14 324 (48), Cond.constantLong RX14 329 (-2147483648), Cond.constantLong RX14 331 (2147483647), Cond.fieldLink RX14 62 "ProofServerModel" "ints" "[I", Cond.methodLink RX14 326 yX14_digits]
def wsX14_readValue_r9 : List Cond := [Cond.instanceMethod yX14_digits, Cond.selects RX14 yX14_digits yX14_digits, Cond.code yX14_digits cX14_digits 1 none, Cond.code yX14_readMany cX14_readMany 10 (some .int), Cond.fieldLink RX14 46 "ProofServerModel" "nameFrom" "[I", Cond.fieldLink RX14 49 "ProofServerModel" "nameTo" "[I", Cond.methodLink RX14 361 yX14_readValue, Cond.instanceMethod yX14_readValue, Cond.selects RX14 yX14_readValue yX14_readValue]
def wsX14_readValue : List Cond := .code yX14_readValue cX14_readValue 4 (some .int) :: ((wsX14_readValue_r1 ++ (wsX14_readValue_r2 ++ (wsX14_readValue_r3 ++ (wsX14_readValue_r4 ++ (wsX14_readValue_r5 ++ (wsX14_readValue_r6 ++ (wsX14_readValue_r7 ++ (wsX14_readValue_r8 ++ wsX14_readValue_r9)))))))) ++ wsX140)
set_option maxRecDepth 20000 in
theorem ggX14_readValue_X14_blanks : GoodIn wsX14_readValue wsX14_blanks := goodIn_r _ [10, 11, 12, 13, 14, 9, 15, 16, 17, 202, 203, 204, 205, 206, 207, 208, 209, 210, 211, 212, 213, 214, 215, 216, 217, 218, 219, 220, 221, 222, 223, 224, 225, 226, 227, 228, 229, 230, 231, 232, 233, 234, 235, 236, 237, 238, 239, 240, 241, 242, 243, 244, 245, 246, 247, 248, 249, 250, 251, 252, 253, 254, 255, 256, 257, 258, 259, 260, 261, 262, 263, 264, 265, 266, 267, 268, 269, 270, 271, 272, 273, 274, 275] (by decide +kernel) (by decide +kernel)
set_option maxRecDepth 20000 in
theorem gX14_readValue_X14_blanks : GoodIn wsX14_readValue (wsV RX14 285 RX14 yX14_blanks wsX14_blanks) := goodIn_app (goodIn_of _ (by decide +kernel)) ggX14_readValue_X14_blanks
set_option maxRecDepth 20000 in
theorem ggX14_readValue_X14_here : GoodIn wsX14_readValue wsX14_here := goodIn_r _ [15, 11, 16, 17, 202, 203, 204, 205, 206, 207, 208, 209, 210, 211, 212, 213, 214, 215, 216, 217, 218, 219, 220, 221, 222, 223, 224, 225, 226, 227, 228, 229, 230, 231, 232, 233, 234, 235, 236, 237, 238, 239, 240, 241, 242, 243, 244, 245, 246, 247, 248, 249, 250, 251, 252, 253, 254, 255, 256, 257, 258, 259, 260, 261, 262, 263, 264, 265, 266, 267, 268, 269, 270, 271, 272, 273, 274, 275] (by decide +kernel) (by decide +kernel)
set_option maxRecDepth 20000 in
theorem gX14_readValue_X14_here : GoodIn wsX14_readValue (wsV RX14 279 RX14 yX14_here wsX14_here) := goodIn_app (goodIn_of _ (by decide +kernel)) ggX14_readValue_X14_here
set_option maxRecDepth 20000 in
theorem ggX14_readValue_X14_readMany_c0 : GoodIn wsX14_readValue ((wsX14_readMany.drop 0).take 60) := goodIn_r _ [196, 11, 1, 3, 5, 197, 198, 27, 28, 21, 22, 23, 9, 24, 25, 26, 29, 6, 7, 8, 10, 12, 13, 14, 15, 16, 17, 30, 31, 32, 33, 34, 35, 36, 37, 38, 39, 40, 41, 42, 43, 44, 45, 46, 47, 48, 49, 50, 51, 52, 53, 54, 55, 56, 57, 58, 59, 60, 61, 62] (by decide +kernel) (by decide +kernel)
set_option maxRecDepth 20000 in
theorem ggX14_readValue_X14_readMany_c60 : GoodIn wsX14_readValue ((wsX14_readMany.drop 60).take 60) := goodIn_r _ [63, 64, 65, 66, 67, 68, 69, 70, 71, 72, 73, 74, 75, 76, 77, 78, 79, 80, 81, 82, 83, 84, 85, 86, 87, 88, 89, 90, 91, 92, 93, 94, 95, 96, 97, 98, 99, 100, 101, 102, 103, 104, 105, 106, 107, 108, 109, 110, 111, 112, 113, 114, 115, 116, 117, 118, 119, 120, 121, 122] (by decide +kernel) (by decide +kernel)
set_option maxRecDepth 20000 in
theorem ggX14_readValue_X14_readMany_c120 : GoodIn wsX14_readValue ((wsX14_readMany.drop 120).take 60) := goodIn_r _ [123, 124, 125, 126, 127, 128, 129, 130, 131, 132, 133, 134, 135, 136, 137, 138, 139, 140, 141, 142, 143, 144, 145, 146, 147, 148, 149, 150, 151, 152, 153, 154, 155, 156, 157, 158, 159, 160, 161, 162, 163, 164, 165, 166, 167, 168, 169, 170, 171, 172, 173, 174, 175, 176, 177, 178, 179, 180, 181, 199] (by decide +kernel) (by decide +kernel)
set_option maxRecDepth 20000 in
theorem ggX14_readValue_X14_readMany_c180 : GoodIn wsX14_readValue ((wsX14_readMany.drop 180).take 60) := goodIn_r _ [200, 201, 0, 2, 4, 18, 19, 20, 182, 183, 184, 185, 186, 187, 188, 189, 190, 191, 192, 193, 194, 195, 202, 203, 204, 205, 206, 207, 208, 209, 210, 211, 212, 213, 214, 215, 216, 217, 218, 219, 220, 221, 222, 223, 224, 225, 226, 227, 228, 229, 230, 231, 232, 233, 234, 235, 236, 237, 238, 239] (by decide +kernel) (by decide +kernel)
set_option maxRecDepth 20000 in
theorem ggX14_readValue_X14_readMany_c240 : GoodIn wsX14_readValue (wsX14_readMany.drop 240) := goodIn_r _ [240, 241, 242, 243, 244, 245, 246, 247, 248, 249, 250, 251, 252, 253, 254, 255, 256, 257, 258, 259, 260, 261, 262, 263, 264, 265, 266, 267, 268, 269, 270, 271, 272, 273, 274, 275] (by decide +kernel) (by decide +kernel)
set_option maxRecDepth 20000 in
theorem ggX14_readValue_X14_readMany : GoodIn wsX14_readValue wsX14_readMany := (j_chunk 0 60 ggX14_readValue_X14_readMany_c0 (j_chunk 60 60 ggX14_readValue_X14_readMany_c60 (j_chunk 120 60 ggX14_readValue_X14_readMany_c120 (j_chunk 180 60 ggX14_readValue_X14_readMany_c180 ggX14_readValue_X14_readMany_c240))))
set_option maxRecDepth 20000 in
theorem gX14_readValue_X14_readMany : GoodIn wsX14_readValue (wsV RX14 291 RX14 yX14_readMany wsX14_readMany) := goodIn_app (goodIn_of _ (by decide +kernel)) ggX14_readValue_X14_readMany
set_option maxRecDepth 20000 in
theorem ggX14_readValue_X14_node : GoodIn wsX14_readValue wsX14_node := goodIn_r _ [24, 25, 26, 27, 28, 29, 202, 203, 204, 205, 206, 207, 208, 209, 210, 211, 212, 213, 214, 215, 216, 217, 218, 219, 220, 221, 222, 223, 224, 225, 226, 227, 228, 229, 230, 231, 232, 233, 234, 235, 236, 237, 238, 239, 240, 241, 242, 243, 244, 245, 246, 247, 248, 249, 250, 251, 252, 253, 254, 255, 256, 257, 258, 259, 260, 261, 262, 263, 264, 265, 266, 267, 268, 269, 270, 271, 272, 273, 274, 275] (by decide +kernel) (by decide +kernel)
set_option maxRecDepth 20000 in
theorem gX14_readValue_X14_node : GoodIn wsX14_readValue (wsV RX14 295 RX14 yX14_node wsX14_node) := goodIn_app (goodIn_of _ (by decide +kernel)) ggX14_readValue_X14_node
set_option maxRecDepth 20000 in
theorem ggX14_readValue_X14_readString_c0 : GoodIn wsX14_readValue ((wsX14_readString.drop 0).take 60) := goodIn_r _ [33, 11, 5, 1, 17, 16, 34, 3, 12, 13, 14, 9, 15, 35, 36, 37, 38, 39, 40, 41, 42, 43, 44, 45, 46, 47, 48, 49, 50, 51, 52, 53, 54, 55, 56, 57, 58, 59, 60, 61, 62, 63, 64, 65, 66, 67, 68, 69, 70, 71, 72, 73, 74, 75, 76, 77, 78, 79, 80, 81] (by decide +kernel) (by decide +kernel)
set_option maxRecDepth 20000 in
theorem ggX14_readValue_X14_readString_c60 : GoodIn wsX14_readValue ((wsX14_readString.drop 60).take 60) := goodIn_r _ [82, 83, 84, 85, 86, 87, 88, 89, 90, 91, 92, 93, 94, 95, 96, 97, 98, 99, 100, 101, 102, 103, 104, 105, 106, 107, 108, 109, 110, 111, 112, 113, 114, 115, 116, 117, 118, 119, 120, 121, 122, 123, 124, 125, 126, 127, 128, 129, 130, 131, 132, 133, 134, 135, 136, 137, 138, 139, 140, 141] (by decide +kernel) (by decide +kernel)
set_option maxRecDepth 20000 in
theorem ggX14_readValue_X14_readString_c120 : GoodIn wsX14_readValue ((wsX14_readString.drop 120).take 60) := goodIn_r _ [142, 143, 144, 145, 146, 147, 148, 149, 150, 151, 152, 153, 154, 155, 156, 157, 158, 159, 160, 161, 162, 163, 164, 165, 166, 167, 168, 169, 170, 171, 172, 173, 174, 175, 176, 177, 178, 179, 180, 181, 202, 203, 204, 205, 206, 207, 208, 209, 210, 211, 212, 213, 214, 215, 216, 217, 218, 219, 220, 221] (by decide +kernel) (by decide +kernel)
set_option maxRecDepth 20000 in
theorem ggX14_readValue_X14_readString_c180 : GoodIn wsX14_readValue (wsX14_readString.drop 180) := goodIn_r _ [222, 223, 224, 225, 226, 227, 228, 229, 230, 231, 232, 233, 234, 235, 236, 237, 238, 239, 240, 241, 242, 243, 244, 245, 246, 247, 248, 249, 250, 251, 252, 253, 254, 255, 256, 257, 258, 259, 260, 261, 262, 263, 264, 265, 266, 267, 268, 269, 270, 271, 272, 273, 274, 275] (by decide +kernel) (by decide +kernel)
set_option maxRecDepth 20000 in
theorem ggX14_readValue_X14_readString : GoodIn wsX14_readValue wsX14_readString := (j_chunk 0 60 ggX14_readValue_X14_readString_c0 (j_chunk 60 60 ggX14_readValue_X14_readString_c60 (j_chunk 120 60 ggX14_readValue_X14_readString_c120 ggX14_readValue_X14_readString_c180)))
set_option maxRecDepth 20000 in
theorem gX14_readValue_X14_readString : GoodIn wsX14_readValue (wsV RX14 298 RX14 yX14_readString wsX14_readString) := goodIn_app (goodIn_of _ (by decide +kernel)) ggX14_readValue_X14_readString
set_option maxRecDepth 20000 in
theorem ggX14_readValue_X14_takes_c0 : GoodIn wsX14_readValue ((wsX14_takes.drop 0).take 60) := goodIn_r _ [155, 11, 16, 17, 156, 60, 61, 46, 62, 52, 63, 64, 65, 66, 57, 58, 157, 158, 159, 160, 53, 54, 55, 56, 161, 162, 69, 163, 164, 165, 166, 103, 167, 168, 106, 169, 170, 171, 86, 172, 173, 174, 175, 97, 98, 99, 176, 111, 112, 113, 114, 115, 116, 202, 203, 204, 205, 206, 207, 208] (by decide +kernel) (by decide +kernel)
set_option maxRecDepth 20000 in
theorem ggX14_readValue_X14_takes_c60 : GoodIn wsX14_readValue ((wsX14_takes.drop 60).take 60) := goodIn_r _ [209, 210, 211, 212, 213, 214, 215, 216, 217, 218, 219, 220, 221, 222, 223, 224, 225, 226, 227, 228, 229, 230, 231, 232, 233, 234, 235, 236, 237, 238, 239, 240, 241, 242, 243, 244, 245, 246, 247, 248, 249, 250, 251, 252, 253, 254, 255, 256, 257, 258, 259, 260, 261, 262, 263, 264, 265, 266, 267, 268] (by decide +kernel) (by decide +kernel)
set_option maxRecDepth 20000 in
theorem ggX14_readValue_X14_takes_c120 : GoodIn wsX14_readValue (wsX14_takes.drop 120) := goodIn_r _ [269, 270, 271, 272, 273, 274, 275] (by decide +kernel) (by decide +kernel)
set_option maxRecDepth 20000 in
theorem ggX14_readValue_X14_takes : GoodIn wsX14_readValue wsX14_takes := (j_chunk 0 60 ggX14_readValue_X14_takes_c0 (j_chunk 60 60 ggX14_readValue_X14_takes_c60 ggX14_readValue_X14_takes_c120))
set_option maxRecDepth 20000 in
theorem gX14_readValue_X14_takes : GoodIn wsX14_readValue (wsV RX14 309 RX14 yX14_takes wsX14_takes) := goodIn_app (goodIn_of _ (by decide +kernel)) ggX14_readValue_X14_takes
set_option maxRecDepth 20000 in
theorem ggX14_readValue_X14_readNumber_c0 : GoodIn wsX14_readValue ((wsX14_readNumber.drop 0).take 60) := goodIn_r _ [185, 11, 186, 187, 188, 17, 1, 29, 189, 190, 191, 21, 22, 23, 9, 24, 25, 26, 27, 28, 12, 13, 14, 15, 16, 146, 147, 148, 149, 150, 151, 192, 193, 194, 195, 202, 203, 204, 205, 206, 207, 208, 209, 210, 211, 212, 213, 214, 215, 216, 217, 218, 219, 220, 221, 222, 223, 224, 225, 226] (by decide +kernel) (by decide +kernel)
set_option maxRecDepth 20000 in
theorem ggX14_readValue_X14_readNumber_c60 : GoodIn wsX14_readValue (wsX14_readNumber.drop 60) := goodIn_r _ [227, 228, 229, 230, 231, 232, 233, 234, 235, 236, 237, 238, 239, 240, 241, 242, 243, 244, 245, 246, 247, 248, 249, 250, 251, 252, 253, 254, 255, 256, 257, 258, 259, 260, 261, 262, 263, 264, 265, 266, 267, 268, 269, 270, 271, 272, 273, 274, 275] (by decide +kernel) (by decide +kernel)
set_option maxRecDepth 20000 in
theorem ggX14_readValue_X14_readNumber : GoodIn wsX14_readValue wsX14_readNumber := (j_chunk 0 60 ggX14_readValue_X14_readNumber_c0 ggX14_readValue_X14_readNumber_c60)
set_option maxRecDepth 20000 in
theorem gX14_readValue_X14_readNumber : GoodIn wsX14_readValue (wsV RX14 317 RX14 yX14_readNumber wsX14_readNumber) := goodIn_app (goodIn_of _ (by decide +kernel)) ggX14_readValue_X14_readNumber
theorem dX14_readValue_0 : decode cX14_readValue 0 = .ok (.aload_n 0, 1) := by decide +kernel
theorem dX14_readValue_1 : decode cX14_readValue 1 = .ok (.invokevirtual 285, 3) := by decide +kernel
theorem dX14_readValue_4 : decode cX14_readValue 4 = .ok (.aload_n 0, 1) := by decide +kernel
theorem dX14_readValue_5 : decode cX14_readValue 5 = .ok (.invokevirtual 279, 3) := by decide +kernel
theorem dX14_readValue_8 : decode cX14_readValue 8 = .ok (.istore_n 2, 1) := by decide +kernel
theorem dX14_readValue_9 : decode cX14_readValue 9 = .ok (.iload_n 2, 1) := by decide +kernel
theorem dX14_readValue_10 : decode cX14_readValue 10 = .ok (.bipush 123, 2) := by decide +kernel
theorem dX14_readValue_12 : decode cX14_readValue 12 = .ok (.if_icmp .eq 9, 3) := by decide +kernel
theorem dX14_readValue_15 : decode cX14_readValue 15 = .ok (.iload_n 2, 1) := by decide +kernel
theorem dX14_readValue_16 : decode cX14_readValue 16 = .ok (.bipush 91, 2) := by decide +kernel
theorem dX14_readValue_18 : decode cX14_readValue 18 = .ok (.if_icmp .ne 44, 3) := by decide +kernel
theorem dX14_readValue_21 : decode cX14_readValue 21 = .ok (.iload_n 1, 1) := by decide +kernel
theorem dX14_readValue_22 : decode cX14_readValue 22 = .ok (.bipush 10, 2) := by decide +kernel
theorem dX14_readValue_24 : decode cX14_readValue 24 = .ok (.if_icmp .ne 8, 3) := by decide +kernel
theorem dX14_readValue_27 : decode cX14_readValue 27 = .ok (.aload_n 0, 1) := by decide +kernel
theorem dX14_readValue_28 : decode cX14_readValue 28 = .ok (.iconst 1, 1) := by decide +kernel
theorem dX14_readValue_29 : decode cX14_readValue 29 = .ok (.putfield 288, 3) := by decide +kernel
theorem dX14_readValue_32 : decode cX14_readValue 32 = .ok (.aload_n 0, 1) := by decide +kernel
theorem dX14_readValue_33 : decode cX14_readValue 33 = .ok (.getfield 288, 3) := by decide +kernel
theorem dX14_readValue_36 : decode cX14_readValue 36 = .ok (.ifCond .eq 7, 3) := by decide +kernel
theorem dX14_readValue_39 : decode cX14_readValue 39 = .ok (.iconst 0, 1) := by decide +kernel
theorem dX14_readValue_40 : decode cX14_readValue 40 = .ok (.goto 21, 3) := by decide +kernel
theorem dX14_readValue_43 : decode cX14_readValue 43 = .ok (.aload_n 0, 1) := by decide +kernel
theorem dX14_readValue_44 : decode cX14_readValue 44 = .ok (.iload_n 2, 1) := by decide +kernel
theorem dX14_readValue_45 : decode cX14_readValue 45 = .ok (.bipush 123, 2) := by decide +kernel
theorem dX14_readValue_47 : decode cX14_readValue 47 = .ok (.if_icmp .ne 7, 3) := by decide +kernel
theorem dX14_readValue_50 : decode cX14_readValue 50 = .ok (.iconst 1, 1) := by decide +kernel
theorem dX14_readValue_51 : decode cX14_readValue 51 = .ok (.goto 4, 3) := by decide +kernel
theorem dX14_readValue_54 : decode cX14_readValue 54 = .ok (.iconst 0, 1) := by decide +kernel
theorem dX14_readValue_55 : decode cX14_readValue 55 = .ok (.iload_n 1, 1) := by decide +kernel
theorem dX14_readValue_56 : decode cX14_readValue 56 = .ok (.iconst 1, 1) := by decide +kernel
theorem dX14_readValue_57 : decode cX14_readValue 57 = .ok (.iadd, 1) := by decide +kernel
theorem dX14_readValue_58 : decode cX14_readValue 58 = .ok (.invokevirtual 291, 3) := by decide +kernel
theorem dX14_readValue_61 : decode cX14_readValue 61 = .ok (.ireturn, 1) := by decide +kernel
theorem dX14_readValue_62 : decode cX14_readValue 62 = .ok (.iload_n 2, 1) := by decide +kernel
theorem dX14_readValue_63 : decode cX14_readValue 63 = .ok (.bipush 34, 2) := by decide +kernel
theorem dX14_readValue_65 : decode cX14_readValue 65 = .ok (.if_icmp .ne 35, 3) := by decide +kernel
theorem dX14_readValue_68 : decode cX14_readValue 68 = .ok (.aload_n 0, 1) := by decide +kernel
theorem dX14_readValue_69 : decode cX14_readValue 69 = .ok (.iconst 4, 1) := by decide +kernel
theorem dX14_readValue_70 : decode cX14_readValue 70 = .ok (.invokevirtual 295, 3) := by decide +kernel
theorem dX14_readValue_73 : decode cX14_readValue 73 = .ok (.istore_n 3, 1) := by decide +kernel
theorem dX14_readValue_74 : decode cX14_readValue 74 = .ok (.aload_n 0, 1) := by decide +kernel
theorem dX14_readValue_75 : decode cX14_readValue 75 = .ok (.invokevirtual 298, 3) := by decide +kernel
theorem dX14_readValue_78 : decode cX14_readValue 78 = .ok (.aload_n 0, 1) := by decide +kernel
theorem dX14_readValue_79 : decode cX14_readValue 79 = .ok (.getfield 52, 3) := by decide +kernel
theorem dX14_readValue_82 : decode cX14_readValue 82 = .ok (.iload_n 3, 1) := by decide +kernel
theorem dX14_readValue_83 : decode cX14_readValue 83 = .ok (.aload_n 0, 1) := by decide +kernel
theorem dX14_readValue_84 : decode cX14_readValue 84 = .ok (.getfield 301, 3) := by decide +kernel
theorem dX14_readValue_87 : decode cX14_readValue 87 = .ok (.iastore, 1) := by decide +kernel
theorem dX14_readValue_88 : decode cX14_readValue 88 = .ok (.aload_n 0, 1) := by decide +kernel
theorem dX14_readValue_89 : decode cX14_readValue 89 = .ok (.getfield 55, 3) := by decide +kernel
theorem dX14_readValue_92 : decode cX14_readValue 92 = .ok (.iload_n 3, 1) := by decide +kernel
theorem dX14_readValue_93 : decode cX14_readValue 93 = .ok (.aload_n 0, 1) := by decide +kernel
theorem dX14_readValue_94 : decode cX14_readValue 94 = .ok (.getfield 304, 3) := by decide +kernel
theorem dX14_readValue_97 : decode cX14_readValue 97 = .ok (.iastore, 1) := by decide +kernel
theorem dX14_readValue_98 : decode cX14_readValue 98 = .ok (.iload_n 3, 1) := by decide +kernel
theorem dX14_readValue_99 : decode cX14_readValue 99 = .ok (.ireturn, 1) := by decide +kernel
theorem dX14_readValue_100 : decode cX14_readValue 100 = .ok (.aload_n 0, 1) := by decide +kernel
theorem dX14_readValue_101 : decode cX14_readValue 101 = .ok (.ldc_w 307, 3) := by decide +kernel
theorem dX14_readValue_104 : decode cX14_readValue 104 = .ok (.invokevirtual 309, 3) := by decide +kernel
theorem dX14_readValue_107 : decode cX14_readValue 107 = .ok (.ifCond .eq 9, 3) := by decide +kernel
theorem dX14_readValue_110 : decode cX14_readValue 110 = .ok (.aload_n 0, 1) := by decide +kernel
theorem dX14_readValue_111 : decode cX14_readValue 111 = .ok (.iconst 0, 1) := by decide +kernel
theorem dX14_readValue_112 : decode cX14_readValue 112 = .ok (.invokevirtual 295, 3) := by decide +kernel
theorem dX14_readValue_115 : decode cX14_readValue 115 = .ok (.ireturn, 1) := by decide +kernel
theorem dX14_readValue_116 : decode cX14_readValue 116 = .ok (.aload_n 0, 1) := by decide +kernel
theorem dX14_readValue_117 : decode cX14_readValue 117 = .ok (.ldc_w 313, 3) := by decide +kernel
theorem dX14_readValue_120 : decode cX14_readValue 120 = .ok (.invokevirtual 309, 3) := by decide +kernel
theorem dX14_readValue_123 : decode cX14_readValue 123 = .ok (.ifCond .eq 9, 3) := by decide +kernel
theorem dX14_readValue_126 : decode cX14_readValue 126 = .ok (.aload_n 0, 1) := by decide +kernel
theorem dX14_readValue_127 : decode cX14_readValue 127 = .ok (.iconst 1, 1) := by decide +kernel
theorem dX14_readValue_128 : decode cX14_readValue 128 = .ok (.invokevirtual 295, 3) := by decide +kernel
theorem dX14_readValue_131 : decode cX14_readValue 131 = .ok (.ireturn, 1) := by decide +kernel
theorem dX14_readValue_132 : decode cX14_readValue 132 = .ok (.aload_n 0, 1) := by decide +kernel
theorem dX14_readValue_133 : decode cX14_readValue 133 = .ok (.ldc_w 315, 3) := by decide +kernel
theorem dX14_readValue_136 : decode cX14_readValue 136 = .ok (.invokevirtual 309, 3) := by decide +kernel
theorem dX14_readValue_139 : decode cX14_readValue 139 = .ok (.ifCond .eq 9, 3) := by decide +kernel
theorem dX14_readValue_142 : decode cX14_readValue 142 = .ok (.aload_n 0, 1) := by decide +kernel
theorem dX14_readValue_143 : decode cX14_readValue 143 = .ok (.iconst 2, 1) := by decide +kernel
theorem dX14_readValue_144 : decode cX14_readValue 144 = .ok (.invokevirtual 295, 3) := by decide +kernel
theorem dX14_readValue_147 : decode cX14_readValue 147 = .ok (.ireturn, 1) := by decide +kernel
theorem dX14_readValue_148 : decode cX14_readValue 148 = .ok (.aload_n 0, 1) := by decide +kernel
theorem dX14_readValue_149 : decode cX14_readValue 149 = .ok (.invokevirtual 317, 3) := by decide +kernel
theorem dX14_readValue_152 : decode cX14_readValue 152 = .ok (.ireturn, 1) := by decide +kernel
set_option maxRecDepth 20000 in
theorem ggX14_escape_X14_here : GoodIn wsX14_escape wsX14_here := goodIn_r _ [11, 1, 12, 13, 149, 150, 151, 152, 153, 154, 155, 156, 157, 158, 159, 160, 161, 162, 163, 164, 165, 166, 167, 168, 169, 170, 171, 172, 173, 174, 175, 176, 177, 178, 179, 180, 181, 182, 183, 184, 185, 186, 187, 188, 189, 190, 191, 192, 193, 194, 195, 196, 197, 198, 199, 200, 201, 202, 203, 204, 205, 206, 207, 208, 209, 210, 211, 212, 213, 214, 215, 216, 217, 218, 219, 220, 221, 222] (by decide +kernel) (by decide +kernel)
set_option maxRecDepth 20000 in
theorem gX14_escape_X14_here : GoodIn wsX14_escape (wsV RX14 279 RX14 yX14_here wsX14_here) := goodIn_app (goodIn_of _ (by decide +kernel)) ggX14_escape_X14_here
set_option maxRecDepth 20000 in
theorem ggX14_escape_J0_indexOf_0f7a4 : GoodIn wsX14_escape wsJ0_indexOf_0f7a4 := goodIn_r _ [18, 19, 20, 21, 17, 22, 23, 24, 25, 26, 27, 28, 29, 30, 31, 32, 33, 34, 35, 36, 37, 38, 39, 40, 41, 42, 43, 44, 45, 46, 47, 48, 49, 50, 51, 52, 53, 54, 55, 56, 57, 58, 59, 60, 61, 62, 63, 64, 65, 66, 67, 68, 69, 70, 71, 72, 73, 74, 75, 76, 77, 78, 79, 80, 81, 82, 83, 84, 85, 86, 87, 88, 89, 90, 91, 92, 93, 94, 95, 96, 97, 98, 99, 100, 101, 102] (by decide +kernel) (by decide +kernel)
set_option maxRecDepth 20000 in
theorem gX14_escape_J0_indexOf_0f7a4 : GoodIn wsX14_escape (wsV RX14 339 RJ0 yJ0_indexOf_0f7a4 wsJ0_indexOf_0f7a4) := goodIn_app (goodIn_of _ (by decide +kernel)) ggX14_escape_J0_indexOf_0f7a4
set_option maxRecDepth 20000 in
theorem ggX14_escape_X14_unit : GoodIn wsX14_escape wsX14_unit := goodIn_r _ [106, 107, 108, 109, 5, 110, 2, 149, 150, 151, 152, 153, 154, 155, 156, 157, 158, 159, 160, 161, 162, 163, 164, 165, 166, 167, 168, 169, 170, 171, 172, 173, 174, 175, 176, 177, 178, 179, 180, 181, 182, 183, 184, 185, 186, 187, 188, 189, 190, 191, 192, 193, 194, 195, 196, 197, 198, 199, 200, 201, 202, 203, 204, 205, 206, 207, 208, 209, 210, 211, 212, 213, 214, 215, 216, 217, 218, 219, 220, 221, 222] (by decide +kernel) (by decide +kernel)
set_option maxRecDepth 20000 in
theorem gX14_escape_X14_unit : GoodIn wsX14_escape (wsV RX14 342 RX14 yX14_unit wsX14_unit) := goodIn_app (goodIn_of _ (by decide +kernel)) ggX14_escape_X14_unit
set_option maxRecDepth 20000 in
theorem ggX14_escape_X14_four : GoodIn wsX14_escape wsX14_four := goodIn_r _ [114, 4, 1, 7, 8, 9, 10, 11, 12, 13, 115, 116, 117, 118, 119, 120, 121, 122, 123, 149, 150, 151, 152, 153, 154, 155, 156, 157, 158, 159, 160, 161, 162, 163, 164, 165, 166, 167, 168, 169, 170, 171, 172, 173, 174, 175, 176, 177, 178, 179, 180, 181, 182, 183, 184, 185, 186, 187, 188, 189, 190, 191, 192, 193, 194, 195, 196, 197, 198, 199, 200, 201, 202, 203, 204, 205, 206, 207, 208, 209, 210, 211, 212, 213, 214, 215, 216, 217, 218, 219, 220, 221, 222] (by decide +kernel) (by decide +kernel)
set_option maxRecDepth 20000 in
theorem gX14_escape_X14_four : GoodIn wsX14_escape (wsV RX14 345 RX14 yX14_four wsX14_four) := goodIn_app (goodIn_of _ (by decide +kernel)) ggX14_escape_X14_four
set_option maxRecDepth 20000 in
theorem ggX14_escape_X14_in : GoodIn wsX14_escape wsX14_in := goodIn_r _ [123] (by decide +kernel) (by decide +kernel)
set_option maxRecDepth 20000 in
theorem gX14_escape_X14_in : GoodIn wsX14_escape (va_wsS RX14 181 yX14_in wsX14_in) := goodIn_app (goodIn_of _ (by decide +kernel)) ggX14_escape_X14_in
set_option maxRecDepth 20000 in
theorem ggX14_escape_X14_takes_c0 : GoodIn wsX14_escape ((wsX14_takes.drop 0).take 60) := goodIn_r _ [127, 1, 12, 13, 128, 31, 32, 17, 33, 23, 34, 35, 36, 37, 28, 29, 129, 130, 131, 132, 24, 25, 26, 27, 133, 134, 40, 135, 136, 137, 138, 74, 139, 140, 77, 141, 142, 143, 57, 144, 145, 146, 147, 68, 69, 70, 148, 82, 83, 84, 85, 86, 87, 149, 150, 151, 152, 153, 154, 155] (by decide +kernel) (by decide +kernel)
set_option maxRecDepth 20000 in
theorem ggX14_escape_X14_takes_c60 : GoodIn wsX14_escape ((wsX14_takes.drop 60).take 60) := goodIn_r _ [156, 157, 158, 159, 160, 161, 162, 163, 164, 165, 166, 167, 168, 169, 170, 171, 172, 173, 174, 175, 176, 177, 178, 179, 180, 181, 182, 183, 184, 185, 186, 187, 188, 189, 190, 191, 192, 193, 194, 195, 196, 197, 198, 199, 200, 201, 202, 203, 204, 205, 206, 207, 208, 209, 210, 211, 212, 213, 214, 215] (by decide +kernel) (by decide +kernel)
set_option maxRecDepth 20000 in
theorem ggX14_escape_X14_takes_c120 : GoodIn wsX14_escape (wsX14_takes.drop 120) := goodIn_r _ [216, 217, 218, 219, 220, 221, 222] (by decide +kernel) (by decide +kernel)
set_option maxRecDepth 20000 in
theorem ggX14_escape_X14_takes : GoodIn wsX14_escape wsX14_takes := (j_chunk 0 60 ggX14_escape_X14_takes_c0 (j_chunk 60 60 ggX14_escape_X14_takes_c60 ggX14_escape_X14_takes_c120))
set_option maxRecDepth 20000 in
theorem gX14_escape_X14_takes : GoodIn wsX14_escape (wsV RX14 309 RX14 yX14_takes wsX14_takes) := goodIn_app (goodIn_of _ (by decide +kernel)) ggX14_escape_X14_takes
theorem dX14_escape_0 : decode cX14_escape 0 = .ok (.aload_n 0, 1) := by decide +kernel
theorem dX14_escape_1 : decode cX14_escape 1 = .ok (.invokevirtual 279, 3) := by decide +kernel
theorem dX14_escape_4 : decode cX14_escape 4 = .ok (.istore_n 1, 1) := by decide +kernel
theorem dX14_escape_5 : decode cX14_escape 5 = .ok (.aload_n 0, 1) := by decide +kernel
theorem dX14_escape_6 : decode cX14_escape 6 = .ok (.dup, 1) := by decide +kernel
theorem dX14_escape_7 : decode cX14_escape 7 = .ok (.getfield 273, 3) := by decide +kernel
theorem dX14_escape_10 : decode cX14_escape 10 = .ok (.iconst 1, 1) := by decide +kernel
theorem dX14_escape_11 : decode cX14_escape 11 = .ok (.iadd, 1) := by decide +kernel
theorem dX14_escape_12 : decode cX14_escape 12 = .ok (.putfield 273, 3) := by decide +kernel
theorem dX14_escape_15 : decode cX14_escape 15 = .ok (.ldc_w 337, 3) := by decide +kernel
theorem dX14_escape_18 : decode cX14_escape 18 = .ok (.astore_n 2, 1) := by decide +kernel
theorem dX14_escape_19 : decode cX14_escape 19 = .ok (.iload_n 1, 1) := by decide +kernel
theorem dX14_escape_20 : decode cX14_escape 20 = .ok (.ifCond .ge 7, 3) := by decide +kernel
theorem dX14_escape_23 : decode cX14_escape 23 = .ok (.iconst (-1), 1) := by decide +kernel
theorem dX14_escape_24 : decode cX14_escape 24 = .ok (.goto 8, 3) := by decide +kernel
theorem dX14_escape_27 : decode cX14_escape 27 = .ok (.aload_n 2, 1) := by decide +kernel
theorem dX14_escape_28 : decode cX14_escape 28 = .ok (.iload_n 1, 1) := by decide +kernel
theorem dX14_escape_29 : decode cX14_escape 29 = .ok (.invokevirtual 339, 3) := by decide +kernel
theorem dX14_escape_32 : decode cX14_escape 32 = .ok (.istore_n 3, 1) := by decide +kernel
theorem dX14_escape_33 : decode cX14_escape 33 = .ok (.iload_n 3, 1) := by decide +kernel
theorem dX14_escape_34 : decode cX14_escape 34 = .ok (.ifCond .lt 63, 3) := by decide +kernel
theorem dX14_escape_37 : decode cX14_escape 37 = .ok (.aload_n 0, 1) := by decide +kernel
theorem dX14_escape_38 : decode cX14_escape 38 = .ok (.iload_n 3, 1) := by decide +kernel
theorem dX14_escape_39 : decode cX14_escape 39 = .ok (.iconst 3, 1) := by decide +kernel
theorem dX14_escape_40 : decode cX14_escape 40 = .ok (.if_icmp .ge 7, 3) := by decide +kernel
theorem dX14_escape_43 : decode cX14_escape 43 = .ok (.iload_n 1, 1) := by decide +kernel
theorem dX14_escape_44 : decode cX14_escape 44 = .ok (.goto 49, 3) := by decide +kernel
theorem dX14_escape_47 : decode cX14_escape 47 = .ok (.iload_n 1, 1) := by decide +kernel
theorem dX14_escape_48 : decode cX14_escape 48 = .ok (.bipush 98, 2) := by decide +kernel
theorem dX14_escape_50 : decode cX14_escape 50 = .ok (.if_icmp .ne 8, 3) := by decide +kernel
theorem dX14_escape_53 : decode cX14_escape 53 = .ok (.bipush 8, 2) := by decide +kernel
theorem dX14_escape_55 : decode cX14_escape 55 = .ok (.goto 38, 3) := by decide +kernel
theorem dX14_escape_58 : decode cX14_escape 58 = .ok (.iload_n 1, 1) := by decide +kernel
theorem dX14_escape_59 : decode cX14_escape 59 = .ok (.bipush 102, 2) := by decide +kernel
theorem dX14_escape_61 : decode cX14_escape 61 = .ok (.if_icmp .ne 8, 3) := by decide +kernel
theorem dX14_escape_64 : decode cX14_escape 64 = .ok (.bipush 12, 2) := by decide +kernel
theorem dX14_escape_66 : decode cX14_escape 66 = .ok (.goto 27, 3) := by decide +kernel
theorem dX14_escape_69 : decode cX14_escape 69 = .ok (.iload_n 1, 1) := by decide +kernel
theorem dX14_escape_70 : decode cX14_escape 70 = .ok (.bipush 110, 2) := by decide +kernel
theorem dX14_escape_72 : decode cX14_escape 72 = .ok (.if_icmp .ne 8, 3) := by decide +kernel
theorem dX14_escape_75 : decode cX14_escape 75 = .ok (.bipush 10, 2) := by decide +kernel
theorem dX14_escape_77 : decode cX14_escape 77 = .ok (.goto 16, 3) := by decide +kernel
theorem dX14_escape_80 : decode cX14_escape 80 = .ok (.iload_n 1, 1) := by decide +kernel
theorem dX14_escape_81 : decode cX14_escape 81 = .ok (.bipush 114, 2) := by decide +kernel
theorem dX14_escape_83 : decode cX14_escape 83 = .ok (.if_icmp .ne 8, 3) := by decide +kernel
theorem dX14_escape_86 : decode cX14_escape 86 = .ok (.bipush 13, 2) := by decide +kernel
theorem dX14_escape_88 : decode cX14_escape 88 = .ok (.goto 5, 3) := by decide +kernel
theorem dX14_escape_91 : decode cX14_escape 91 = .ok (.bipush 9, 2) := by decide +kernel
theorem dX14_escape_93 : decode cX14_escape 93 = .ok (.invokevirtual 342, 3) := by decide +kernel
theorem dX14_escape_96 : decode cX14_escape 96 = .ok (.return_, 1) := by decide +kernel
theorem dX14_escape_97 : decode cX14_escape 97 = .ok (.iload_n 1, 1) := by decide +kernel
theorem dX14_escape_98 : decode cX14_escape 98 = .ok (.bipush 117, 2) := by decide +kernel
theorem dX14_escape_100 : decode cX14_escape 100 = .ok (.if_icmp .ne 10, 3) := by decide +kernel
theorem dX14_escape_103 : decode cX14_escape 103 = .ok (.aload_n 0, 1) := by decide +kernel
theorem dX14_escape_104 : decode cX14_escape 104 = .ok (.invokevirtual 345, 3) := by decide +kernel
theorem dX14_escape_107 : decode cX14_escape 107 = .ok (.goto 4, 3) := by decide +kernel
theorem dX14_escape_110 : decode cX14_escape 110 = .ok (.iconst (-1), 1) := by decide +kernel
theorem dX14_escape_111 : decode cX14_escape 111 = .ok (.istore 4, 2) := by decide +kernel
theorem dX14_escape_113 : decode cX14_escape 113 = .ok (.iload 4, 2) := by decide +kernel
theorem dX14_escape_115 : decode cX14_escape 115 = .ok (.ifCond .lt 15, 3) := by decide +kernel
theorem dX14_escape_118 : decode cX14_escape 118 = .ok (.iload 4, 2) := by decide +kernel
theorem dX14_escape_120 : decode cX14_escape 120 = .ok (.ldc 185, 2) := by decide +kernel
theorem dX14_escape_122 : decode cX14_escape 122 = .ok (.ldc 186, 2) := by decide +kernel
theorem dX14_escape_124 : decode cX14_escape 124 = .ok (.invokestatic 181, 3) := by decide +kernel
theorem dX14_escape_127 : decode cX14_escape 127 = .ok (.ifCond .eq 9, 3) := by decide +kernel
theorem dX14_escape_130 : decode cX14_escape 130 = .ok (.aload_n 0, 1) := by decide +kernel
theorem dX14_escape_131 : decode cX14_escape 131 = .ok (.iconst 1, 1) := by decide +kernel
theorem dX14_escape_132 : decode cX14_escape 132 = .ok (.putfield 288, 3) := by decide +kernel
theorem dX14_escape_135 : decode cX14_escape 135 = .ok (.return_, 1) := by decide +kernel
theorem dX14_escape_136 : decode cX14_escape 136 = .ok (.iload 4, 2) := by decide +kernel
theorem dX14_escape_138 : decode cX14_escape 138 = .ok (.ldc 179, 2) := by decide +kernel
theorem dX14_escape_140 : decode cX14_escape 140 = .ok (.ldc 180, 2) := by decide +kernel
theorem dX14_escape_142 : decode cX14_escape 142 = .ok (.invokestatic 181, 3) := by decide +kernel
theorem dX14_escape_145 : decode cX14_escape 145 = .ok (.ifCond .ne 10, 3) := by decide +kernel
theorem dX14_escape_148 : decode cX14_escape 148 = .ok (.aload_n 0, 1) := by decide +kernel
theorem dX14_escape_149 : decode cX14_escape 149 = .ok (.iload 4, 2) := by decide +kernel
theorem dX14_escape_151 : decode cX14_escape 151 = .ok (.invokevirtual 342, 3) := by decide +kernel
theorem dX14_escape_154 : decode cX14_escape 154 = .ok (.return_, 1) := by decide +kernel
theorem dX14_escape_155 : decode cX14_escape 155 = .ok (.aload_n 0, 1) := by decide +kernel
theorem dX14_escape_156 : decode cX14_escape 156 = .ok (.ldc_w 348, 3) := by decide +kernel
theorem dX14_escape_159 : decode cX14_escape 159 = .ok (.invokevirtual 309, 3) := by decide +kernel
theorem dX14_escape_162 : decode cX14_escape 162 = .ok (.ifCond .eq 10, 3) := by decide +kernel
theorem dX14_escape_165 : decode cX14_escape 165 = .ok (.aload_n 0, 1) := by decide +kernel
theorem dX14_escape_166 : decode cX14_escape 166 = .ok (.invokevirtual 345, 3) := by decide +kernel
theorem dX14_escape_169 : decode cX14_escape 169 = .ok (.goto 4, 3) := by decide +kernel
theorem dX14_escape_172 : decode cX14_escape 172 = .ok (.iconst (-1), 1) := by decide +kernel
theorem dX14_escape_173 : decode cX14_escape 173 = .ok (.istore 5, 2) := by decide +kernel
theorem dX14_escape_175 : decode cX14_escape 175 = .ok (.iload 5, 2) := by decide +kernel
theorem dX14_escape_177 : decode cX14_escape 177 = .ok (.ldc 185, 2) := by decide +kernel
theorem dX14_escape_179 : decode cX14_escape 179 = .ok (.ldc 186, 2) := by decide +kernel
theorem dX14_escape_181 : decode cX14_escape 181 = .ok (.invokestatic 181, 3) := by decide +kernel
theorem dX14_escape_184 : decode cX14_escape 184 = .ok (.ifCond .ne 9, 3) := by decide +kernel
theorem dX14_escape_187 : decode cX14_escape 187 = .ok (.aload_n 0, 1) := by decide +kernel
theorem dX14_escape_188 : decode cX14_escape 188 = .ok (.iconst 1, 1) := by decide +kernel
theorem dX14_escape_189 : decode cX14_escape 189 = .ok (.putfield 288, 3) := by decide +kernel
theorem dX14_escape_192 : decode cX14_escape 192 = .ok (.return_, 1) := by decide +kernel
theorem dX14_escape_193 : decode cX14_escape 193 = .ok (.aload_n 0, 1) := by decide +kernel
theorem dX14_escape_194 : decode cX14_escape 194 = .ok (.iload 4, 2) := by decide +kernel
theorem dX14_escape_196 : decode cX14_escape 196 = .ok (.invokevirtual 342, 3) := by decide +kernel
theorem dX14_escape_199 : decode cX14_escape 199 = .ok (.aload_n 0, 1) := by decide +kernel
theorem dX14_escape_200 : decode cX14_escape 200 = .ok (.iload 5, 2) := by decide +kernel
theorem dX14_escape_202 : decode cX14_escape 202 = .ok (.invokevirtual 342, 3) := by decide +kernel
theorem dX14_escape_205 : decode cX14_escape 205 = .ok (.return_, 1) := by decide +kernel
set_option maxRecDepth 20000 in
theorem ggX14_readString_X14_here : GoodIn wsX14_readString wsX14_here := goodIn_r _ [12, 1, 5, 4, 160, 161, 162, 163, 164, 165, 166, 167, 168, 169, 170, 171, 172, 173, 174, 175, 176, 177, 178, 179, 180, 181, 182, 183, 184, 185, 186, 187, 188, 189, 190, 191, 192, 193, 194, 195, 196, 197, 198, 199, 200, 201, 202, 203, 204, 205, 206, 207, 208, 209, 210, 211, 212, 213, 214, 215, 216, 217, 218, 219, 220, 221, 222, 223, 224, 225, 226, 227, 228, 229, 230, 231, 232, 233] (by decide +kernel) (by decide +kernel)
set_option maxRecDepth 20000 in
theorem gX14_readString_X14_here : GoodIn wsX14_readString (wsV RX14 279 RX14 yX14_here wsX14_here) := goodIn_app (goodIn_of _ (by decide +kernel)) ggX14_readString_X14_here
set_option maxRecDepth 20000 in
theorem ggX14_readString_X14_escape_c0 : GoodIn wsX14_readString ((wsX14_escape.drop 0).take 60) := goodIn_r _ [16, 1, 17, 18, 3, 19, 20, 8, 9, 10, 11, 12, 5, 4, 21, 22, 23, 24, 25, 26, 27, 28, 29, 30, 31, 32, 33, 34, 35, 36, 37, 38, 39, 40, 41, 42, 43, 44, 45, 46, 47, 48, 49, 50, 51, 52, 53, 54, 55, 56, 57, 58, 59, 60, 61, 62, 63, 64, 65, 66] (by decide +kernel) (by decide +kernel)
set_option maxRecDepth 20000 in
theorem ggX14_readString_X14_escape_c60 : GoodIn wsX14_readString ((wsX14_escape.drop 60).take 60) := goodIn_r _ [67, 68, 69, 70, 71, 72, 73, 74, 75, 76, 77, 78, 79, 80, 81, 82, 83, 84, 85, 86, 87, 88, 89, 90, 91, 92, 93, 94, 95, 96, 97, 98, 99, 100, 101, 102, 103, 104, 105, 106, 107, 108, 109, 110, 111, 112, 113, 114, 115, 2, 116, 117, 118, 119, 120, 121, 122, 123, 124, 125] (by decide +kernel) (by decide +kernel)
set_option maxRecDepth 20000 in
theorem ggX14_readString_X14_escape_c120 : GoodIn wsX14_readString ((wsX14_escape.drop 120).take 60) := goodIn_r _ [126, 127, 128, 129, 130, 131, 132, 133, 134, 135, 136, 137, 138, 139, 140, 141, 142, 143, 144, 145, 146, 147, 148, 149, 150, 151, 152, 153, 154, 160, 161, 162, 163, 164, 165, 166, 167, 168, 169, 170, 171, 172, 173, 174, 175, 176, 177, 178, 179, 180, 181, 182, 183, 184, 185, 186, 187, 188, 189, 190] (by decide +kernel) (by decide +kernel)
set_option maxRecDepth 20000 in
theorem ggX14_readString_X14_escape_c180 : GoodIn wsX14_readString (wsX14_escape.drop 180) := goodIn_r _ [191, 192, 193, 194, 195, 196, 197, 198, 199, 200, 201, 202, 203, 204, 205, 206, 207, 208, 209, 210, 211, 212, 213, 214, 215, 216, 217, 218, 219, 220, 221, 222, 223, 224, 225, 226, 227, 228, 229, 230, 231, 232, 233] (by decide +kernel) (by decide +kernel)
set_option maxRecDepth 20000 in
theorem ggX14_readString_X14_escape : GoodIn wsX14_readString wsX14_escape := (j_chunk 0 60 ggX14_readString_X14_escape_c0 (j_chunk 60 60 ggX14_readString_X14_escape_c60 (j_chunk 120 60 ggX14_readString_X14_escape_c120 ggX14_readString_X14_escape_c180)))
set_option maxRecDepth 20000 in
theorem gX14_readString_X14_escape : GoodIn wsX14_readString (wsV RX14 350 RX14 yX14_escape wsX14_escape) := goodIn_app (goodIn_of _ (by decide +kernel)) ggX14_readString_X14_escape
set_option maxRecDepth 20000 in
theorem ggX14_readString_X14_utfLength : GoodIn wsX14_readString wsX14_utfLength := goodIn_r _ [158, 6, 116, 19, 18, 159, 127, 128, 11, 129, 160, 161, 162, 163, 164, 165, 166, 167, 168, 169, 170, 171, 172, 173, 174, 175, 176, 177, 178, 179, 180, 181, 182, 183, 184, 185, 186, 187, 188, 189, 190, 191, 192, 193, 194, 195, 196, 197, 198, 199, 200, 201, 202, 203, 204, 205, 206, 207, 208, 209, 210, 211, 212, 213, 214, 215, 216, 217, 218, 219, 220, 221, 222, 223, 224, 225, 226, 227, 228, 229, 230, 231, 232, 233] (by decide +kernel) (by decide +kernel)
set_option maxRecDepth 20000 in
theorem gX14_readString_X14_utfLength : GoodIn wsX14_readString (wsV RX14 353 RX14 yX14_utfLength wsX14_utfLength) := goodIn_app (goodIn_of _ (by decide +kernel)) ggX14_readString_X14_utfLength
set_option maxRecDepth 20000 in
theorem ggX14_readString_X14_unit : GoodIn wsX14_readString wsX14_unit := goodIn_r _ [113, 114, 115, 2, 19, 116, 17, 160, 161, 162, 163, 164, 165, 166, 167, 168, 169, 170, 171, 172, 173, 174, 175, 176, 177, 178, 179, 180, 181, 182, 183, 184, 185, 186, 187, 188, 189, 190, 191, 192, 193, 194, 195, 196, 197, 198, 199, 200, 201, 202, 203, 204, 205, 206, 207, 208, 209, 210, 211, 212, 213, 214, 215, 216, 217, 218, 219, 220, 221, 222, 223, 224, 225, 226, 227, 228, 229, 230, 231, 232, 233] (by decide +kernel) (by decide +kernel)
set_option maxRecDepth 20000 in
theorem gX14_readString_X14_unit : GoodIn wsX14_readString (wsV RX14 342 RX14 yX14_unit wsX14_unit) := goodIn_app (goodIn_of _ (by decide +kernel)) ggX14_readString_X14_unit
theorem dX14_readString_0 : decode cX14_readString 0 = .ok (.aload_n 0, 1) := by decide +kernel
theorem dX14_readString_1 : decode cX14_readString 1 = .ok (.dup, 1) := by decide +kernel
theorem dX14_readString_2 : decode cX14_readString 2 = .ok (.getfield 273, 3) := by decide +kernel
theorem dX14_readString_5 : decode cX14_readString 5 = .ok (.iconst 1, 1) := by decide +kernel
theorem dX14_readString_6 : decode cX14_readString 6 = .ok (.iadd, 1) := by decide +kernel
theorem dX14_readString_7 : decode cX14_readString 7 = .ok (.putfield 273, 3) := by decide +kernel
theorem dX14_readString_10 : decode cX14_readString 10 = .ok (.aload_n 0, 1) := by decide +kernel
theorem dX14_readString_11 : decode cX14_readString 11 = .ok (.getfield 304, 3) := by decide +kernel
theorem dX14_readString_14 : decode cX14_readString 14 = .ok (.istore_n 1, 1) := by decide +kernel
theorem dX14_readString_15 : decode cX14_readString 15 = .ok (.aload_n 0, 1) := by decide +kernel
theorem dX14_readString_16 : decode cX14_readString 16 = .ok (.getfield 288, 3) := by decide +kernel
theorem dX14_readString_19 : decode cX14_readString 19 = .ok (.ifCond .ne 104, 3) := by decide +kernel
theorem dX14_readString_22 : decode cX14_readString 22 = .ok (.aload_n 0, 1) := by decide +kernel
theorem dX14_readString_23 : decode cX14_readString 23 = .ok (.invokevirtual 279, 3) := by decide +kernel
theorem dX14_readString_26 : decode cX14_readString 26 = .ok (.bipush 34, 2) := by decide +kernel
theorem dX14_readString_28 : decode cX14_readString 28 = .ok (.if_icmp .eq 95, 3) := by decide +kernel
theorem dX14_readString_31 : decode cX14_readString 31 = .ok (.aload_n 0, 1) := by decide +kernel
theorem dX14_readString_32 : decode cX14_readString 32 = .ok (.invokevirtual 279, 3) := by decide +kernel
theorem dX14_readString_35 : decode cX14_readString 35 = .ok (.istore_n 2, 1) := by decide +kernel
theorem dX14_readString_36 : decode cX14_readString 36 = .ok (.iload_n 2, 1) := by decide +kernel
theorem dX14_readString_37 : decode cX14_readString 37 = .ok (.bipush 32, 2) := by decide +kernel
theorem dX14_readString_39 : decode cX14_readString 39 = .ok (.if_icmp .ge 11, 3) := by decide +kernel
theorem dX14_readString_42 : decode cX14_readString 42 = .ok (.aload_n 0, 1) := by decide +kernel
theorem dX14_readString_43 : decode cX14_readString 43 = .ok (.iconst 1, 1) := by decide +kernel
theorem dX14_readString_44 : decode cX14_readString 44 = .ok (.putfield 288, 3) := by decide +kernel
theorem dX14_readString_47 : decode cX14_readString 47 = .ok (.goto 73, 3) := by decide +kernel
theorem dX14_readString_50 : decode cX14_readString 50 = .ok (.iload_n 2, 1) := by decide +kernel
theorem dX14_readString_51 : decode cX14_readString 51 = .ok (.bipush 92, 2) := by decide +kernel
theorem dX14_readString_53 : decode cX14_readString 53 = .ok (.if_icmp .ne 20, 3) := by decide +kernel
theorem dX14_readString_56 : decode cX14_readString 56 = .ok (.aload_n 0, 1) := by decide +kernel
theorem dX14_readString_57 : decode cX14_readString 57 = .ok (.dup, 1) := by decide +kernel
theorem dX14_readString_58 : decode cX14_readString 58 = .ok (.getfield 273, 3) := by decide +kernel
theorem dX14_readString_61 : decode cX14_readString 61 = .ok (.iconst 1, 1) := by decide +kernel
theorem dX14_readString_62 : decode cX14_readString 62 = .ok (.iadd, 1) := by decide +kernel
theorem dX14_readString_63 : decode cX14_readString 63 = .ok (.putfield 273, 3) := by decide +kernel
theorem dX14_readString_66 : decode cX14_readString 66 = .ok (.aload_n 0, 1) := by decide +kernel
theorem dX14_readString_67 : decode cX14_readString 67 = .ok (.invokevirtual 350, 3) := by decide +kernel
theorem dX14_readString_70 : decode cX14_readString 70 = .ok (.goto 50, 3) := by decide +kernel
theorem dX14_readString_73 : decode cX14_readString 73 = .ok (.aload_n 0, 1) := by decide +kernel
theorem dX14_readString_74 : decode cX14_readString 74 = .ok (.aload_n 0, 1) := by decide +kernel
theorem dX14_readString_75 : decode cX14_readString 75 = .ok (.getfield 20, 3) := by decide +kernel
theorem dX14_readString_78 : decode cX14_readString 78 = .ok (.aload_n 0, 1) := by decide +kernel
theorem dX14_readString_79 : decode cX14_readString 79 = .ok (.getfield 273, 3) := by decide +kernel
theorem dX14_readString_82 : decode cX14_readString 82 = .ok (.aload_n 0, 1) := by decide +kernel
theorem dX14_readString_83 : decode cX14_readString 83 = .ok (.getfield 276, 3) := by decide +kernel
theorem dX14_readString_86 : decode cX14_readString 86 = .ok (.invokevirtual 353, 3) := by decide +kernel
theorem dX14_readString_89 : decode cX14_readString 89 = .ok (.istore_n 3, 1) := by decide +kernel
theorem dX14_readString_90 : decode cX14_readString 90 = .ok (.iload_n 3, 1) := by decide +kernel
theorem dX14_readString_91 : decode cX14_readString 91 = .ok (.ifCond .ne 11, 3) := by decide +kernel
theorem dX14_readString_94 : decode cX14_readString 94 = .ok (.aload_n 0, 1) := by decide +kernel
theorem dX14_readString_95 : decode cX14_readString 95 = .ok (.iconst 1, 1) := by decide +kernel
theorem dX14_readString_96 : decode cX14_readString 96 = .ok (.putfield 288, 3) := by decide +kernel
theorem dX14_readString_99 : decode cX14_readString 99 = .ok (.goto 11, 3) := by decide +kernel
theorem dX14_readString_102 : decode cX14_readString 102 = .ok (.aload_n 0, 1) := by decide +kernel
theorem dX14_readString_103 : decode cX14_readString 103 = .ok (.aload_n 0, 1) := by decide +kernel
theorem dX14_readString_104 : decode cX14_readString 104 = .ok (.getfield 357, 3) := by decide +kernel
theorem dX14_readString_107 : decode cX14_readString 107 = .ok (.invokevirtual 342, 3) := by decide +kernel
theorem dX14_readString_110 : decode cX14_readString 110 = .ok (.aload_n 0, 1) := by decide +kernel
theorem dX14_readString_111 : decode cX14_readString 111 = .ok (.dup, 1) := by decide +kernel
theorem dX14_readString_112 : decode cX14_readString 112 = .ok (.getfield 273, 3) := by decide +kernel
theorem dX14_readString_115 : decode cX14_readString 115 = .ok (.iload_n 3, 1) := by decide +kernel
theorem dX14_readString_116 : decode cX14_readString 116 = .ok (.iadd, 1) := by decide +kernel
theorem dX14_readString_117 : decode cX14_readString 117 = .ok (.putfield 273, 3) := by decide +kernel
theorem dX14_readString_120 : decode cX14_readString 120 = .ok (.goto (-105), 3) := by decide +kernel
theorem dX14_readString_123 : decode cX14_readString 123 = .ok (.aload_n 0, 1) := by decide +kernel
theorem dX14_readString_124 : decode cX14_readString 124 = .ok (.dup, 1) := by decide +kernel
theorem dX14_readString_125 : decode cX14_readString 125 = .ok (.getfield 273, 3) := by decide +kernel
theorem dX14_readString_128 : decode cX14_readString 128 = .ok (.iconst 1, 1) := by decide +kernel
theorem dX14_readString_129 : decode cX14_readString 129 = .ok (.iadd, 1) := by decide +kernel
theorem dX14_readString_130 : decode cX14_readString 130 = .ok (.putfield 273, 3) := by decide +kernel
theorem dX14_readString_133 : decode cX14_readString 133 = .ok (.aload_n 0, 1) := by decide +kernel
theorem dX14_readString_134 : decode cX14_readString 134 = .ok (.iload_n 1, 1) := by decide +kernel
theorem dX14_readString_135 : decode cX14_readString 135 = .ok (.putfield 301, 3) := by decide +kernel
theorem dX14_readString_138 : decode cX14_readString 138 = .ok (.return_, 1) := by decide +kernel
set_option maxRecDepth 20000 in
theorem ggX14_readMany_X14_node : GoodIn wsX14_readMany wsX14_node := goodIn_r _ [13, 14, 15, 7, 8, 16, 202, 203, 204, 205, 206, 207, 208, 209, 210, 211, 212, 213, 214, 215, 216, 217, 218, 219, 220, 221, 222, 223, 224, 225, 226, 227, 228, 229, 230, 231, 232, 233, 234, 235, 236, 237, 238, 239, 240, 241, 242, 243, 244, 245, 246, 247, 248, 249, 250, 251, 252, 253, 254, 255, 256, 257, 258, 259, 260, 261, 262, 263, 264, 265, 266, 267, 268, 269, 270, 271, 272, 273, 274, 275] (by decide +kernel) (by decide +kernel)
set_option maxRecDepth 20000 in
theorem gX14_readMany_X14_node : GoodIn wsX14_readMany (wsV RX14 295 RX14 yX14_node wsX14_node) := goodIn_app (goodIn_of _ (by decide +kernel)) ggX14_readMany_X14_node
set_option maxRecDepth 20000 in
theorem ggX14_readMany_X14_blanks : GoodIn wsX14_readMany wsX14_blanks := goodIn_r _ [20, 1, 21, 22, 23, 12, 24, 25, 26, 202, 203, 204, 205, 206, 207, 208, 209, 210, 211, 212, 213, 214, 215, 216, 217, 218, 219, 220, 221, 222, 223, 224, 225, 226, 227, 228, 229, 230, 231, 232, 233, 234, 235, 236, 237, 238, 239, 240, 241, 242, 243, 244, 245, 246, 247, 248, 249, 250, 251, 252, 253, 254, 255, 256, 257, 258, 259, 260, 261, 262, 263, 264, 265, 266, 267, 268, 269, 270, 271, 272, 273, 274, 275] (by decide +kernel) (by decide +kernel)
set_option maxRecDepth 20000 in
theorem gX14_readMany_X14_blanks : GoodIn wsX14_readMany (wsV RX14 285 RX14 yX14_blanks wsX14_blanks) := goodIn_app (goodIn_of _ (by decide +kernel)) ggX14_readMany_X14_blanks
set_option maxRecDepth 20000 in
theorem ggX14_readMany_X14_here : GoodIn wsX14_readMany wsX14_here := goodIn_r _ [24, 1, 25, 26, 202, 203, 204, 205, 206, 207, 208, 209, 210, 211, 212, 213, 214, 215, 216, 217, 218, 219, 220, 221, 222, 223, 224, 225, 226, 227, 228, 229, 230, 231, 232, 233, 234, 235, 236, 237, 238, 239, 240, 241, 242, 243, 244, 245, 246, 247, 248, 249, 250, 251, 252, 253, 254, 255, 256, 257, 258, 259, 260, 261, 262, 263, 264, 265, 266, 267, 268, 269, 270, 271, 272, 273, 274, 275] (by decide +kernel) (by decide +kernel)
set_option maxRecDepth 20000 in
theorem gX14_readMany_X14_here : GoodIn wsX14_readMany (wsV RX14 279 RX14 yX14_here wsX14_here) := goodIn_app (goodIn_of _ (by decide +kernel)) ggX14_readMany_X14_here
set_option maxRecDepth 20000 in
theorem ggX14_readMany_X14_readString_c0 : GoodIn wsX14_readMany ((wsX14_readString.drop 0).take 60) := goodIn_r _ [30, 1, 4, 2, 26, 25, 31, 3, 21, 22, 23, 12, 24, 32, 33, 34, 35, 36, 37, 38, 39, 40, 41, 42, 43, 44, 45, 46, 47, 48, 49, 50, 51, 52, 53, 54, 55, 56, 57, 58, 59, 60, 61, 62, 63, 64, 65, 66, 67, 68, 69, 70, 71, 72, 73, 74, 75, 76, 77, 78] (by decide +kernel) (by decide +kernel)
set_option maxRecDepth 20000 in
theorem ggX14_readMany_X14_readString_c60 : GoodIn wsX14_readMany ((wsX14_readString.drop 60).take 60) := goodIn_r _ [79, 80, 81, 82, 83, 84, 85, 86, 87, 88, 89, 90, 91, 92, 93, 94, 95, 96, 97, 98, 99, 100, 101, 102, 103, 104, 105, 106, 107, 108, 109, 110, 111, 112, 113, 114, 115, 116, 117, 118, 119, 120, 121, 122, 123, 124, 125, 126, 127, 128, 129, 130, 131, 132, 133, 134, 135, 136, 137, 138] (by decide +kernel) (by decide +kernel)
set_option maxRecDepth 20000 in
theorem ggX14_readMany_X14_readString_c120 : GoodIn wsX14_readMany ((wsX14_readString.drop 120).take 60) := goodIn_r _ [139, 140, 141, 142, 143, 144, 145, 146, 147, 148, 149, 150, 151, 152, 153, 154, 155, 156, 157, 158, 159, 160, 161, 162, 163, 164, 165, 166, 167, 168, 169, 170, 171, 172, 173, 174, 175, 176, 177, 178, 202, 203, 204, 205, 206, 207, 208, 209, 210, 211, 212, 213, 214, 215, 216, 217, 218, 219, 220, 221] (by decide +kernel) (by decide +kernel)
set_option maxRecDepth 20000 in
theorem ggX14_readMany_X14_readString_c180 : GoodIn wsX14_readMany (wsX14_readString.drop 180) := goodIn_r _ [222, 223, 224, 225, 226, 227, 228, 229, 230, 231, 232, 233, 234, 235, 236, 237, 238, 239, 240, 241, 242, 243, 244, 245, 246, 247, 248, 249, 250, 251, 252, 253, 254, 255, 256, 257, 258, 259, 260, 261, 262, 263, 264, 265, 266, 267, 268, 269, 270, 271, 272, 273, 274, 275] (by decide +kernel) (by decide +kernel)
set_option maxRecDepth 20000 in
theorem ggX14_readMany_X14_readString : GoodIn wsX14_readMany wsX14_readString := (j_chunk 0 60 ggX14_readMany_X14_readString_c0 (j_chunk 60 60 ggX14_readMany_X14_readString_c60 (j_chunk 120 60 ggX14_readMany_X14_readString_c120 ggX14_readMany_X14_readString_c180)))
set_option maxRecDepth 20000 in
theorem gX14_readMany_X14_readString : GoodIn wsX14_readMany (wsV RX14 298 RX14 yX14_readString wsX14_readString) := goodIn_app (goodIn_of _ (by decide +kernel)) ggX14_readMany_X14_readString
set_option maxRecDepth 20000 in
theorem ggX14_readMany_X14_readValue_c0 : GoodIn wsX14_readMany ((wsX14_readValue.drop 0).take 60) := goodIn_r _ [182, 2, 183, 3, 184, 4, 17, 18, 19, 12, 20, 1, 21, 22, 23, 24, 25, 26, 185, 186, 187, 9, 10, 11, 13, 14, 15, 7, 8, 16, 27, 28, 29, 30, 31, 32, 33, 34, 35, 36, 37, 38, 39, 40, 41, 42, 43, 44, 45, 46, 47, 48, 49, 50, 51, 52, 53, 54, 55, 56] (by decide +kernel) (by decide +kernel)
set_option maxRecDepth 20000 in
theorem ggX14_readMany_X14_readValue_c60 : GoodIn wsX14_readMany ((wsX14_readValue.drop 60).take 60) := goodIn_r _ [57, 58, 59, 60, 61, 62, 63, 64, 65, 66, 67, 68, 69, 70, 71, 72, 73, 74, 75, 76, 77, 78, 79, 80, 81, 82, 83, 84, 85, 86, 87, 88, 89, 90, 91, 92, 93, 94, 95, 96, 97, 98, 99, 100, 101, 102, 103, 104, 105, 106, 107, 108, 109, 110, 111, 112, 113, 114, 115, 116] (by decide +kernel) (by decide +kernel)
set_option maxRecDepth 20000 in
theorem ggX14_readMany_X14_readValue_c120 : GoodIn wsX14_readMany ((wsX14_readValue.drop 120).take 60) := goodIn_r _ [117, 118, 119, 120, 121, 122, 123, 124, 125, 126, 127, 128, 129, 130, 131, 132, 133, 134, 135, 136, 137, 138, 139, 140, 141, 142, 143, 144, 145, 146, 147, 148, 149, 150, 151, 152, 153, 154, 155, 156, 157, 158, 159, 160, 161, 162, 163, 164, 165, 166, 167, 168, 169, 170, 171, 172, 173, 174, 175, 176] (by decide +kernel) (by decide +kernel)
set_option maxRecDepth 20000 in
theorem ggX14_readMany_X14_readValue_c180 : GoodIn wsX14_readMany ((wsX14_readValue.drop 180).take 60) := goodIn_r _ [177, 178, 188, 189, 190, 191, 192, 193, 194, 195, 196, 197, 198, 199, 200, 201, 0, 5, 6, 179, 180, 181, 202, 203, 204, 205, 206, 207, 208, 209, 210, 211, 212, 213, 214, 215, 216, 217, 218, 219, 220, 221, 222, 223, 224, 225, 226, 227, 228, 229, 230, 231, 232, 233, 234, 235, 236, 237, 238, 239] (by decide +kernel) (by decide +kernel)
set_option maxRecDepth 20000 in
theorem ggX14_readMany_X14_readValue_c240 : GoodIn wsX14_readMany (wsX14_readValue.drop 240) := goodIn_r _ [240, 241, 242, 243, 244, 245, 246, 247, 248, 249, 250, 251, 252, 253, 254, 255, 256, 257, 258, 259, 260, 261, 262, 263, 264, 265, 266, 267, 268, 269, 270, 271, 272, 273, 274, 275] (by decide +kernel) (by decide +kernel)
set_option maxRecDepth 20000 in
theorem ggX14_readMany_X14_readValue : GoodIn wsX14_readMany wsX14_readValue := (j_chunk 0 60 ggX14_readMany_X14_readValue_c0 (j_chunk 60 60 ggX14_readMany_X14_readValue_c60 (j_chunk 120 60 ggX14_readMany_X14_readValue_c120 (j_chunk 180 60 ggX14_readMany_X14_readValue_c180 ggX14_readMany_X14_readValue_c240))))
set_option maxRecDepth 20000 in
theorem gX14_readMany_X14_readValue : GoodIn wsX14_readMany (wsV RX14 361 RX14 yX14_readValue wsX14_readValue) := goodIn_app (goodIn_of _ (by decide +kernel)) ggX14_readMany_X14_readValue
theorem dX14_readMany_0 : decode cX14_readMany 0 = .ok (.aload_n 0, 1) := by decide +kernel
theorem dX14_readMany_1 : decode cX14_readMany 1 = .ok (.iload_n 1, 1) := by decide +kernel
theorem dX14_readMany_2 : decode cX14_readMany 2 = .ok (.ifCond .eq 8, 3) := by decide +kernel
theorem dX14_readMany_5 : decode cX14_readMany 5 = .ok (.bipush 6, 2) := by decide +kernel
theorem dX14_readMany_7 : decode cX14_readMany 7 = .ok (.goto 4, 3) := by decide +kernel
theorem dX14_readMany_10 : decode cX14_readMany 10 = .ok (.iconst 5, 1) := by decide +kernel
theorem dX14_readMany_11 : decode cX14_readMany 11 = .ok (.invokevirtual 295, 3) := by decide +kernel
theorem dX14_readMany_14 : decode cX14_readMany 14 = .ok (.istore_n 3, 1) := by decide +kernel
theorem dX14_readMany_15 : decode cX14_readMany 15 = .ok (.aload_n 0, 1) := by decide +kernel
theorem dX14_readMany_16 : decode cX14_readMany 16 = .ok (.dup, 1) := by decide +kernel
theorem dX14_readMany_17 : decode cX14_readMany 17 = .ok (.getfield 273, 3) := by decide +kernel
theorem dX14_readMany_20 : decode cX14_readMany 20 = .ok (.iconst 1, 1) := by decide +kernel
theorem dX14_readMany_21 : decode cX14_readMany 21 = .ok (.iadd, 1) := by decide +kernel
theorem dX14_readMany_22 : decode cX14_readMany 22 = .ok (.putfield 273, 3) := by decide +kernel
theorem dX14_readMany_25 : decode cX14_readMany 25 = .ok (.iload_n 1, 1) := by decide +kernel
theorem dX14_readMany_26 : decode cX14_readMany 26 = .ok (.ifCond .eq 8, 3) := by decide +kernel
theorem dX14_readMany_29 : decode cX14_readMany 29 = .ok (.bipush 125, 2) := by decide +kernel
theorem dX14_readMany_31 : decode cX14_readMany 31 = .ok (.goto 5, 3) := by decide +kernel
theorem dX14_readMany_34 : decode cX14_readMany 34 = .ok (.bipush 93, 2) := by decide +kernel
theorem dX14_readMany_36 : decode cX14_readMany 36 = .ok (.istore 4, 2) := by decide +kernel
theorem dX14_readMany_38 : decode cX14_readMany 38 = .ok (.aload_n 0, 1) := by decide +kernel
theorem dX14_readMany_39 : decode cX14_readMany 39 = .ok (.invokevirtual 285, 3) := by decide +kernel
theorem dX14_readMany_42 : decode cX14_readMany 42 = .ok (.aload_n 0, 1) := by decide +kernel
theorem dX14_readMany_43 : decode cX14_readMany 43 = .ok (.invokevirtual 279, 3) := by decide +kernel
theorem dX14_readMany_46 : decode cX14_readMany 46 = .ok (.iload 4, 2) := by decide +kernel
theorem dX14_readMany_48 : decode cX14_readMany 48 = .ok (.if_icmp .ne 15, 3) := by decide +kernel
theorem dX14_readMany_51 : decode cX14_readMany 51 = .ok (.aload_n 0, 1) := by decide +kernel
theorem dX14_readMany_52 : decode cX14_readMany 52 = .ok (.dup, 1) := by decide +kernel
theorem dX14_readMany_53 : decode cX14_readMany 53 = .ok (.getfield 273, 3) := by decide +kernel
theorem dX14_readMany_56 : decode cX14_readMany 56 = .ok (.iconst 1, 1) := by decide +kernel
theorem dX14_readMany_57 : decode cX14_readMany 57 = .ok (.iadd, 1) := by decide +kernel
theorem dX14_readMany_58 : decode cX14_readMany 58 = .ok (.putfield 273, 3) := by decide +kernel
theorem dX14_readMany_61 : decode cX14_readMany 61 = .ok (.iload_n 3, 1) := by decide +kernel
theorem dX14_readMany_62 : decode cX14_readMany 62 = .ok (.ireturn, 1) := by decide +kernel
theorem dX14_readMany_63 : decode cX14_readMany 63 = .ok (.iconst (-1), 1) := by decide +kernel
theorem dX14_readMany_64 : decode cX14_readMany 64 = .ok (.istore 5, 2) := by decide +kernel
theorem dX14_readMany_66 : decode cX14_readMany 66 = .ok (.iconst 1, 1) := by decide +kernel
theorem dX14_readMany_67 : decode cX14_readMany 67 = .ok (.istore 6, 2) := by decide +kernel
theorem dX14_readMany_69 : decode cX14_readMany 69 = .ok (.iload 6, 2) := by decide +kernel
theorem dX14_readMany_71 : decode cX14_readMany 71 = .ok (.ifCond .eq 215, 3) := by decide +kernel
theorem dX14_readMany_74 : decode cX14_readMany 74 = .ok (.aload_n 0, 1) := by decide +kernel
theorem dX14_readMany_75 : decode cX14_readMany 75 = .ok (.getfield 288, 3) := by decide +kernel
theorem dX14_readMany_78 : decode cX14_readMany 78 = .ok (.ifCond .ne 208, 3) := by decide +kernel
theorem dX14_readMany_81 : decode cX14_readMany 81 = .ok (.iconst 0, 1) := by decide +kernel
theorem dX14_readMany_82 : decode cX14_readMany 82 = .ok (.istore 7, 2) := by decide +kernel
theorem dX14_readMany_84 : decode cX14_readMany 84 = .ok (.iconst 0, 1) := by decide +kernel
theorem dX14_readMany_85 : decode cX14_readMany 85 = .ok (.istore 8, 2) := by decide +kernel
theorem dX14_readMany_87 : decode cX14_readMany 87 = .ok (.iload_n 1, 1) := by decide +kernel
theorem dX14_readMany_88 : decode cX14_readMany 88 = .ok (.ifCond .eq 72, 3) := by decide +kernel
theorem dX14_readMany_91 : decode cX14_readMany 91 = .ok (.aload_n 0, 1) := by decide +kernel
theorem dX14_readMany_92 : decode cX14_readMany 92 = .ok (.invokevirtual 285, 3) := by decide +kernel
theorem dX14_readMany_95 : decode cX14_readMany 95 = .ok (.aload_n 0, 1) := by decide +kernel
theorem dX14_readMany_96 : decode cX14_readMany 96 = .ok (.invokevirtual 279, 3) := by decide +kernel
theorem dX14_readMany_99 : decode cX14_readMany 99 = .ok (.bipush 34, 2) := by decide +kernel
theorem dX14_readMany_101 : decode cX14_readMany 101 = .ok (.if_icmp .eq 8, 3) := by decide +kernel
theorem dX14_readMany_104 : decode cX14_readMany 104 = .ok (.aload_n 0, 1) := by decide +kernel
theorem dX14_readMany_105 : decode cX14_readMany 105 = .ok (.iconst 1, 1) := by decide +kernel
theorem dX14_readMany_106 : decode cX14_readMany 106 = .ok (.putfield 288, 3) := by decide +kernel
theorem dX14_readMany_109 : decode cX14_readMany 109 = .ok (.aload_n 0, 1) := by decide +kernel
theorem dX14_readMany_110 : decode cX14_readMany 110 = .ok (.getfield 288, 3) := by decide +kernel
theorem dX14_readMany_113 : decode cX14_readMany 113 = .ok (.ifCond .ne 7, 3) := by decide +kernel
theorem dX14_readMany_116 : decode cX14_readMany 116 = .ok (.aload_n 0, 1) := by decide +kernel
theorem dX14_readMany_117 : decode cX14_readMany 117 = .ok (.invokevirtual 298, 3) := by decide +kernel
theorem dX14_readMany_120 : decode cX14_readMany 120 = .ok (.aload_n 0, 1) := by decide +kernel
theorem dX14_readMany_121 : decode cX14_readMany 121 = .ok (.getfield 301, 3) := by decide +kernel
theorem dX14_readMany_124 : decode cX14_readMany 124 = .ok (.istore 7, 2) := by decide +kernel
theorem dX14_readMany_126 : decode cX14_readMany 126 = .ok (.aload_n 0, 1) := by decide +kernel
theorem dX14_readMany_127 : decode cX14_readMany 127 = .ok (.getfield 304, 3) := by decide +kernel
theorem dX14_readMany_130 : decode cX14_readMany 130 = .ok (.istore 8, 2) := by decide +kernel
theorem dX14_readMany_132 : decode cX14_readMany 132 = .ok (.aload_n 0, 1) := by decide +kernel
theorem dX14_readMany_133 : decode cX14_readMany 133 = .ok (.invokevirtual 285, 3) := by decide +kernel
theorem dX14_readMany_136 : decode cX14_readMany 136 = .ok (.aload_n 0, 1) := by decide +kernel
theorem dX14_readMany_137 : decode cX14_readMany 137 = .ok (.invokevirtual 279, 3) := by decide +kernel
theorem dX14_readMany_140 : decode cX14_readMany 140 = .ok (.bipush 58, 2) := by decide +kernel
theorem dX14_readMany_142 : decode cX14_readMany 142 = .ok (.if_icmp .eq 8, 3) := by decide +kernel
theorem dX14_readMany_145 : decode cX14_readMany 145 = .ok (.aload_n 0, 1) := by decide +kernel
theorem dX14_readMany_146 : decode cX14_readMany 146 = .ok (.iconst 1, 1) := by decide +kernel
theorem dX14_readMany_147 : decode cX14_readMany 147 = .ok (.putfield 288, 3) := by decide +kernel
theorem dX14_readMany_150 : decode cX14_readMany 150 = .ok (.aload_n 0, 1) := by decide +kernel
theorem dX14_readMany_151 : decode cX14_readMany 151 = .ok (.dup, 1) := by decide +kernel
theorem dX14_readMany_152 : decode cX14_readMany 152 = .ok (.getfield 273, 3) := by decide +kernel
theorem dX14_readMany_155 : decode cX14_readMany 155 = .ok (.iconst 1, 1) := by decide +kernel
theorem dX14_readMany_156 : decode cX14_readMany 156 = .ok (.iadd, 1) := by decide +kernel
theorem dX14_readMany_157 : decode cX14_readMany 157 = .ok (.putfield 273, 3) := by decide +kernel
theorem dX14_readMany_160 : decode cX14_readMany 160 = .ok (.aload_n 0, 1) := by decide +kernel
theorem dX14_readMany_161 : decode cX14_readMany 161 = .ok (.getfield 288, 3) := by decide +kernel
theorem dX14_readMany_164 : decode cX14_readMany 164 = .ok (.ifCond .eq 7, 3) := by decide +kernel
theorem dX14_readMany_167 : decode cX14_readMany 167 = .ok (.iconst 0, 1) := by decide +kernel
theorem dX14_readMany_168 : decode cX14_readMany 168 = .ok (.goto 8, 3) := by decide +kernel
theorem dX14_readMany_171 : decode cX14_readMany 171 = .ok (.aload_n 0, 1) := by decide +kernel
theorem dX14_readMany_172 : decode cX14_readMany 172 = .ok (.iload_n 2, 1) := by decide +kernel
theorem dX14_readMany_173 : decode cX14_readMany 173 = .ok (.invokevirtual 361, 3) := by decide +kernel
theorem dX14_readMany_176 : decode cX14_readMany 176 = .ok (.istore 9, 2) := by decide +kernel
theorem dX14_readMany_178 : decode cX14_readMany 178 = .ok (.aload_n 0, 1) := by decide +kernel
theorem dX14_readMany_179 : decode cX14_readMany 179 = .ok (.getfield 288, 3) := by decide +kernel
theorem dX14_readMany_182 : decode cX14_readMany 182 = .ok (.ifCond .eq 5, 3) := by decide +kernel
theorem dX14_readMany_185 : decode cX14_readMany 185 = .ok (.iload_n 3, 1) := by decide +kernel
theorem dX14_readMany_186 : decode cX14_readMany 186 = .ok (.ireturn, 1) := by decide +kernel
theorem dX14_readMany_187 : decode cX14_readMany 187 = .ok (.aload_n 0, 1) := by decide +kernel
theorem dX14_readMany_188 : decode cX14_readMany 188 = .ok (.getfield 46, 3) := by decide +kernel
theorem dX14_readMany_191 : decode cX14_readMany 191 = .ok (.iload 9, 2) := by decide +kernel
theorem dX14_readMany_193 : decode cX14_readMany 193 = .ok (.iload 7, 2) := by decide +kernel
theorem dX14_readMany_195 : decode cX14_readMany 195 = .ok (.iastore, 1) := by decide +kernel
theorem dX14_readMany_196 : decode cX14_readMany 196 = .ok (.aload_n 0, 1) := by decide +kernel
theorem dX14_readMany_197 : decode cX14_readMany 197 = .ok (.getfield 49, 3) := by decide +kernel
theorem dX14_readMany_200 : decode cX14_readMany 200 = .ok (.iload 9, 2) := by decide +kernel
theorem dX14_readMany_202 : decode cX14_readMany 202 = .ok (.iload 8, 2) := by decide +kernel
theorem dX14_readMany_204 : decode cX14_readMany 204 = .ok (.iastore, 1) := by decide +kernel
theorem dX14_readMany_205 : decode cX14_readMany 205 = .ok (.iload 5, 2) := by decide +kernel
theorem dX14_readMany_207 : decode cX14_readMany 207 = .ok (.ifCond .ge 14, 3) := by decide +kernel
theorem dX14_readMany_210 : decode cX14_readMany 210 = .ok (.aload_n 0, 1) := by decide +kernel
theorem dX14_readMany_211 : decode cX14_readMany 211 = .ok (.getfield 40, 3) := by decide +kernel
theorem dX14_readMany_214 : decode cX14_readMany 214 = .ok (.iload_n 3, 1) := by decide +kernel
theorem dX14_readMany_215 : decode cX14_readMany 215 = .ok (.iload 9, 2) := by decide +kernel
theorem dX14_readMany_217 : decode cX14_readMany 217 = .ok (.iastore, 1) := by decide +kernel
theorem dX14_readMany_218 : decode cX14_readMany 218 = .ok (.goto 12, 3) := by decide +kernel
theorem dX14_readMany_221 : decode cX14_readMany 221 = .ok (.aload_n 0, 1) := by decide +kernel
theorem dX14_readMany_222 : decode cX14_readMany 222 = .ok (.getfield 43, 3) := by decide +kernel
theorem dX14_readMany_225 : decode cX14_readMany 225 = .ok (.iload 5, 2) := by decide +kernel
theorem dX14_readMany_227 : decode cX14_readMany 227 = .ok (.iload 9, 2) := by decide +kernel
theorem dX14_readMany_229 : decode cX14_readMany 229 = .ok (.iastore, 1) := by decide +kernel
theorem dX14_readMany_230 : decode cX14_readMany 230 = .ok (.iload 9, 2) := by decide +kernel
theorem dX14_readMany_232 : decode cX14_readMany 232 = .ok (.istore 5, 2) := by decide +kernel
theorem dX14_readMany_234 : decode cX14_readMany 234 = .ok (.aload_n 0, 1) := by decide +kernel
theorem dX14_readMany_235 : decode cX14_readMany 235 = .ok (.invokevirtual 285, 3) := by decide +kernel
theorem dX14_readMany_238 : decode cX14_readMany 238 = .ok (.aload_n 0, 1) := by decide +kernel
theorem dX14_readMany_239 : decode cX14_readMany 239 = .ok (.invokevirtual 279, 3) := by decide +kernel
theorem dX14_readMany_242 : decode cX14_readMany 242 = .ok (.bipush 44, 2) := by decide +kernel
theorem dX14_readMany_244 : decode cX14_readMany 244 = .ok (.if_icmp .ne 7, 3) := by decide +kernel
theorem dX14_readMany_247 : decode cX14_readMany 247 = .ok (.iconst 1, 1) := by decide +kernel
theorem dX14_readMany_248 : decode cX14_readMany 248 = .ok (.goto 4, 3) := by decide +kernel
theorem dX14_readMany_251 : decode cX14_readMany 251 = .ok (.iconst 0, 1) := by decide +kernel
theorem dX14_readMany_252 : decode cX14_readMany 252 = .ok (.istore 6, 2) := by decide +kernel
theorem dX14_readMany_254 : decode cX14_readMany 254 = .ok (.iload 6, 2) := by decide +kernel
theorem dX14_readMany_256 : decode cX14_readMany 256 = .ok (.ifCond .ne 17, 3) := by decide +kernel
theorem dX14_readMany_259 : decode cX14_readMany 259 = .ok (.aload_n 0, 1) := by decide +kernel
theorem dX14_readMany_260 : decode cX14_readMany 260 = .ok (.invokevirtual 279, 3) := by decide +kernel
theorem dX14_readMany_263 : decode cX14_readMany 263 = .ok (.iload 4, 2) := by decide +kernel
theorem dX14_readMany_265 : decode cX14_readMany 265 = .ok (.if_icmp .eq 8, 3) := by decide +kernel
theorem dX14_readMany_268 : decode cX14_readMany 268 = .ok (.aload_n 0, 1) := by decide +kernel
theorem dX14_readMany_269 : decode cX14_readMany 269 = .ok (.iconst 1, 1) := by decide +kernel
theorem dX14_readMany_270 : decode cX14_readMany 270 = .ok (.putfield 288, 3) := by decide +kernel
theorem dX14_readMany_273 : decode cX14_readMany 273 = .ok (.aload_n 0, 1) := by decide +kernel
theorem dX14_readMany_274 : decode cX14_readMany 274 = .ok (.dup, 1) := by decide +kernel
theorem dX14_readMany_275 : decode cX14_readMany 275 = .ok (.getfield 273, 3) := by decide +kernel
theorem dX14_readMany_278 : decode cX14_readMany 278 = .ok (.iconst 1, 1) := by decide +kernel
theorem dX14_readMany_279 : decode cX14_readMany 279 = .ok (.iadd, 1) := by decide +kernel
theorem dX14_readMany_280 : decode cX14_readMany 280 = .ok (.putfield 273, 3) := by decide +kernel
theorem dX14_readMany_283 : decode cX14_readMany 283 = .ok (.goto (-214), 3) := by decide +kernel
theorem dX14_readMany_286 : decode cX14_readMany 286 = .ok (.iload_n 3, 1) := by decide +kernel
theorem dX14_readMany_287 : decode cX14_readMany 287 = .ok (.ireturn, 1) := by decide +kernel
def EX14_escape : List (Nat × Nat) := [(16, 28), (16, 29), (16, 31), (127, 0)]
def EX14_readString : List (Nat × Nat) := [(16, 28), (16, 29), (16, 31), (16, 32), (16, 33), (127, 0)]
def EX14_readValue : List (Nat × Nat) := [(16, 26), (16, 28), (16, 29), (16, 31), (16, 32), (16, 33), (117, 0), (118, 0), (119, 0), (120, 0), (121, 0), (122, 0), (123, 0), (124, 0), (125, 0), (127, 0)]
def EX14_readMany : List (Nat × Nat) := [(16, 26), (16, 28), (16, 29), (16, 31), (16, 32), (16, 33), (117, 0), (118, 0), (119, 0), (120, 0), (121, 0), (122, 0), (123, 0), (124, 0), (125, 0), (127, 0)]
def qX14_readValue (l : Launch) (dC : Nat → ClassId) (dI : Nat → Nat → Nat) (ca : Nat → ClassId) (base : Nat) (B : jF) (ef : Nat) : Prop := ∀ (G0 : jT) (H0 : Heap) (r0 : Nat) (a1 : Int32) (pt : Int32) (pe : Int32) (pn : Int32) (pp : Int32) (pb : Int32), Met l yX14_readValue wsX14_readValue ({ frames := 2 * ef + 6, cells := 0, slots := 0, locals := 130 * ef + 400 }) (va_Pc [.ref r0, .int a1] (fun U => U.heap = H0 ∧ jX B base G0 [] H0 ∧ jG dC dI ca base U ∧ G0 r0 = some (16, 0) ∧ jP (dC, dI) G0 H0 [(r0, 16, 29, .int pt), (r0, 16, 30, .int pe), (r0, 16, 26, .int pn), (r0, 16, 28, .int pp), (r0, 16, 31, .int pb)] ∧ 0 ≤ pt.toInt ∧ pt.toInt ≤ 90000 ∧ 0 ≤ pe.toInt ∧ pe.toInt ≤ 3000 ∧ pt.toInt ≤ pe.toInt ∧ 0 ≤ pn.toInt ∧ pn.toInt ≤ pt.toInt ∧ 0 ≤ pp.toInt ∧ pp.toInt ≤ pt.toInt ∧ pb.toInt = 0 ∧ a1.toInt = 10 - ef ∧ ef ≤ 10)) (va_Qi (S := Int32 × Int32 × Int32 × Int32) (fun r u => (0 ≤ u.2.2.2.toInt ∧ u.2.2.2.toInt ≤ 1 ∧ pt.toInt ≤ u.1.toInt ∧ pp.toInt ≤ u.2.2.1.toInt ∧ pn.toInt ≤ u.2.1.toInt ∧ u.1.toInt ≤ pe.toInt + 4 * u.2.2.2.toInt ∧ u.2.1.toInt ≤ u.1.toInt + u.2.2.2.toInt ∧ u.2.2.1.toInt ≤ u.1.toInt ∧ pn.toInt ≤ r.toInt + 4000 * u.2.2.2.toInt ∧ r.toInt + 1 ≤ u.2.1.toInt + 4000 * u.2.2.2.toInt)) (fun u t => jRt (dC, dI) B base G0 EX14_readValue H0 [(r0, 16, 29, .int u.1), (r0, 16, 26, .int u.2.1), (r0, 16, 28, .int u.2.2.1), (r0, 16, 31, .int u.2.2.2)] t.heap) (jA base)) 0 0 (jA base)
def qX14_readMany (l : Launch) (dC : Nat → ClassId) (dI : Nat → Nat → Nat) (ca : Nat → ClassId) (base : Nat) (B : jF) (ef : Nat) : Prop := ∀ (G0 : jT) (H0 : Heap) (r0 : Nat) (a1 : Int32) (a2 : Int32) (pt : Int32) (pe : Int32) (pn : Int32) (pp : Int32) (pb : Int32), Met l yX14_readMany wsX14_readMany ({ frames := 2 * ef + 7, cells := 0, slots := 0, locals := 130 * ef + 460 }) (va_Pc [.ref r0, .int a1, .int a2] (fun U => U.heap = H0 ∧ jX B base G0 [] H0 ∧ jG dC dI ca base U ∧ G0 r0 = some (16, 0) ∧ jP (dC, dI) G0 H0 [(r0, 16, 29, .int pt), (r0, 16, 30, .int pe), (r0, 16, 26, .int pn), (r0, 16, 28, .int pp), (r0, 16, 31, .int pb)] ∧ 0 ≤ pt.toInt ∧ pt.toInt ≤ 90000 ∧ 0 ≤ pe.toInt ∧ pe.toInt ≤ 3000 ∧ pt.toInt < pe.toInt ∧ 0 ≤ pn.toInt ∧ pn.toInt ≤ pt.toInt ∧ 0 ≤ pp.toInt ∧ pp.toInt ≤ pt.toInt ∧ pb.toInt = 0 ∧ a2.toInt = 10 - ef ∧ ef ≤ 10)) (va_Qi (S := Int32 × Int32 × Int32 × Int32) (fun r u => (0 ≤ u.2.2.2.toInt ∧ u.2.2.2.toInt ≤ 1 ∧ pt.toInt ≤ u.1.toInt ∧ pp.toInt ≤ u.2.2.1.toInt ∧ pn.toInt ≤ u.2.1.toInt ∧ u.1.toInt ≤ pe.toInt + 4 * u.2.2.2.toInt ∧ u.2.1.toInt ≤ u.1.toInt + u.2.2.2.toInt ∧ u.2.2.1.toInt ≤ u.1.toInt ∧ pn.toInt ≤ r.toInt + 4000 * u.2.2.2.toInt ∧ r.toInt + 1 ≤ u.2.1.toInt + 4000 * u.2.2.2.toInt)) (fun u t => jRt (dC, dI) B base G0 EX14_readMany H0 [(r0, 16, 29, .int u.1), (r0, 16, 26, .int u.2.1), (r0, 16, 28, .int u.2.2.1), (r0, 16, 31, .int u.2.2.2)] t.heap) (jA base)) 0 0 (jA base)
set_option maxHeartbeats 4000000 in
set_option maxRecDepth 20000 in
theorem uX14_escape (l : Launch) (dC : Nat → ClassId) (dI : Nat → Nat → Nat) (ca : Nat → ClassId) (base : Nat) (B : jF) (hB : jBok B) (hAp : jAp (dC, dI)) (hB16 : ∀ n G a H, B 16 n G a H ↔ jOb (dC, dI) 16 74 (F16 n G) a H) (hB110 : ∀ n G a H, B 110 n G a H ↔ jAr (dC, dI) (ca 1) (fun j z => 0 ≤ z.toInt ∧ z.toInt ≤ 255) n a H) (hB127 : ∀ n G a H, B 127 n G a H ↔ jAr (dC, dI) (ca 1) (fun j z => True) n a H) (G0 : jT) (H0 : Heap) (r0 : Nat) (pt : Int32) (pe : Int32) (pp : Int32) (pb : Int32) : Met l yX14_escape wsX14_escape ({ frames := 5, cells := 0, slots := 0, locals := 181 }) (va_Pc [.ref r0] (fun U => U.heap = H0 ∧ jX B base G0 [] H0 ∧ jG dC dI ca base U ∧ G0 r0 = some (16, 0) ∧ jP (dC, dI) G0 H0 [(r0, 16, 29, .int pt), (r0, 16, 30, .int pe), (r0, 16, 28, .int pp), (r0, 16, 31, .int pb)] ∧ 0 ≤ pt.toInt ∧ pt.toInt ≤ 90000 ∧ 0 ≤ pe.toInt ∧ pe.toInt ≤ 3000 ∧ pt.toInt ≤ pe.toInt ∧ 0 ≤ pp.toInt ∧ pp.toInt ≤ 3290 ∧ pb.toInt = 0)) (va_Qv (S := Int32 × Int32 × Int32) (fun u => 0 ≤ u.2.2.toInt ∧ u.2.2.toInt ≤ 1 ∧ pt.toInt + 1 ≤ u.1.toInt + u.2.2.toInt ∧ pt.toInt ≤ u.1.toInt ∧ u.1.toInt ≤ pe.toInt + u.2.2.toInt ∧ pp.toInt ≤ u.2.1.toInt ∧ u.2.1.toInt ≤ pp.toInt + (u.1.toInt - pt.toInt) + u.2.2.toInt) (fun u t => jRt (dC, dI) B base G0 EX14_escape H0 [(r0, 16, 29, .int u.1), (r0, 16, 28, .int u.2.1), (r0, 16, 31, .int u.2.2)] t.heap) (jA base)) 0 0 (jA base) := by
  refine Met.ofW (cc := cX14_escape) (maxL := 6) (ret := none) (by decide) rfl ?_
  intro p e s m args below meth c s₁ Bd hml hv
  obtain ⟨rfl, hH0, hX, hG, hg_r0, hP0, hp0, hp1, hp2, hp3, hp4, hp5, hp6, hp7⟩ := hv
  have hK := hG.1
  have hx := Bd.exec
  have hb := Bd.bytes
  have hr := Bd.returns
  have hts := atoms_spec (ws := wsX14_escape) Bd.pre
  have hown : s.vm.findClass RX14 = some m.cls := findClass_of_methodNamed Bd.named
  have hlocks := Bd.notSynchronized
  obtain ⟨Q, hQ⟩ : ∃ Q, Q = MQ below (va_Qv (S := Int32 × Int32 × Int32) (fun u => 0 ≤ u.2.2.toInt ∧ u.2.2.toInt ≤ 1 ∧ pt.toInt + 1 ≤ u.1.toInt + u.2.2.toInt ∧ pt.toInt ≤ u.1.toInt ∧ u.1.toInt ≤ pe.toInt + u.2.2.toInt ∧ pp.toInt ≤ u.2.1.toInt ∧ u.2.1.toInt ≤ pp.toInt + (u.1.toInt - pt.toInt) + u.2.2.toInt) (fun u t => jRt (dC, dI) B base G0 EX14_escape H0 [(r0, 16, 29, .int u.1), (r0, 16, 28, .int u.2.1), (r0, 16, 31, .int u.2.2)] t.heap) (jA base)) ([.ref r0] : List Value).toArray s 0 0 (jA base) := ⟨_, rfl⟩
  rw [← hQ]
  have hl := lv_entry ([.ref r0]) (n := 6) (Nat.le_of_ble_eq_true rfl)
  rw [lg_entry_eq]
  generalize (lg_sl ([.ref r0]) ++ List.replicate (6 - (lg_sl ([.ref r0])).length) Slot.unset).toArray = ls at hl ⊢
  have hl : lv_has ls 6 [(0, .ref r0)] := hl
  generalize hR : (headSpec wsX14_escape ({ frames := 5, cells := 0, slots := 0, locals := 181 })).room = R
  subst hH0
  have hh : jSt (dC, dI) B base G0 G0 EX14_escape s.heap 0 0 [(r0, 16, 29, .int pt), (r0, 16, 30, .int pe), (r0, 16, 28, .int pp), (r0, 16, 31, .int pb)] [] [] s.heap [] := jSt.start hX hP0 jMc.nil jIs.nil
  clear hX hP0
  have hkm1 : ((-1) : Int32).toInt = (-1) := by decide
  have hk0 : (0 : Int32).toInt = 0 := by decide
  have hk1 : (1 : Int32).toInt = 1 := by decide
  have hk3 : (3 : Int32).toInt = 3 := by decide
  have hk8 : (8 : Int32).toInt = 8 := by decide
  have hk9 : (9 : Int32).toInt = 9 := by decide
  have hk10 : (10 : Int32).toInt = 10 := by decide
  have hk12 : (12 : Int32).toInt = 12 := by decide
  have hk13 : (13 : Int32).toInt = 13 := by decide
  have hk98 : (98 : Int32).toInt = 98 := by decide
  have hk102 : (102 : Int32).toInt = 102 := by decide
  have hk110 : (110 : Int32).toInt = 110 := by decide
  have hk114 : (114 : Int32).toInt = 114 := by decide
  have hk117 : (117 : Int32).toInt = 117 := by decide
  have hk55296 : (55296 : Int32).toInt = 55296 := by decide
  have hk56319 : (56319 : Int32).toInt = 56319 := by decide
  have hk56320 : (56320 : Int32).toInt = 56320 := by decide
  have hk57343 : (57343 : Int32).toInt = 57343 := by decide
  have hly_16_29 := hts (u_lay RX14 TX14 29) (by decide +kernel)
  have hly_16_31 := hts (u_lay RX14 TX14 31) (by decide +kernel)
  refine lv_aload_n hx hb dX14_escape_0 rfl (lv_at hl 0 rfl) ?_
  refine va_calli (A0 := jA base) (H0 := s.heap) (va_runV (As := []) (rest := []) ⟨hx, hb, hml, hown, hts⟩ (uX14_here l dC dI ca base B hB hAp hB16 hB110 G0 s.heap r0 pt pe) (cwV 0 hts gX14_escape_X14_here rfl rfl rfl (by decide +kernel) ⟨by rw [← hR]; exact Nat.le_of_ble_eq_true rfl, by rw [← hR]; exact Nat.le_of_ble_eq_true rfl⟩) ⟨fun a U g mk q => by obtain ⟨q0, q1, q2, qK, q10, q11, q12⟩ := q; exact ⟨q0, q1, q2, jG.calling g mk a qK, q10, q11, q12⟩, hh.recv (C := RX14) (T := TX14) (N := 74) hB16 rfl (by decide) hg_r0 hK, fun U hU hW => ⟨rfl, hU, hh.2.1, hG.step hW hU hh.1, hg_r0, (hh.2.2.1.sub (L1 := [(r0, 16, 29, .int pt), (r0, 16, 30, .int pe)]) [0, 1] rfl), by first | omega | (refine ⟨?_, ?_, ?_, ?_⟩ <;> (first | omega | rfl | assumption | decide | exact Or.inl rfl | exact Or.inr rfl | (simp only; omega)))⟩⟩ rfl rfl hl.1 rfl (lv_room (Nat.le_of_ble_eq_true rfl)) dX14_escape_1 ⟨Nat.zero_le _, Nat.zero_le _⟩) hh.1 (fun q _ h => h) (fun q h => h) (fun r_2 u_1 t_1 H_1 locs_1 ht_1 hvm_1 hr_2 hb_1 hz_1 hk_1 hS_1 => ?_)
  rw [ht_1] at hb_1
  obtain ⟨hb_11, hb_12, hb_13, hb_14, hb_15⟩ := hb_1
  have hh_1 : jSt (dC, dI) B base G0 G0 EX14_escape s.heap 0 0 [(r0, 16, 29, .int pt), (r0, 16, 30, .int pe), (r0, 16, 28, .int pp), (r0, 16, 31, .int pb)] [] [] H_1 locs_1 := (hh.call hb_11 hb_12 hb_13 hb_14 hS_1 rfl (L1 := [(r0, 16, 29, .int pt), (r0, 16, 30, .int pe), (r0, 16, 28, .int pp), (r0, 16, 31, .int pb)]) [0, 1, 2, 3] rfl rfl (M1 := []) [] rfl rfl (I1 := []) [] rfl rfl).more hb_15
  clear hh ht_1 hvm_1 hz_1 hk_1 hS_1 hb_11 hb_12 hb_13 hb_14 hb_15
  obtain ⟨hr_2_0, hr_2_1, hr_2_2⟩ := hr_2
  refine lv_istore_n (lv' := [(1, .int r_2), (0, .ref r0)]) hx hb dX14_escape_4 rfl hl (by decide) rfl (fun ls hl => ?_)
  refine lv_aload_n hx hb dX14_escape_5 rfl (lv_at hl 1 rfl) ?_
  refine lv_dup hx hb dX14_escape_6 rfl ?_
  refine j7_read hx hb hown hK (C := RX14) (T := TX14) (N := 74) rfl hly_16_29 (hts (.fieldLink RX14 273 "ProofServerModel" "at" "I") (by decide +kernel)) (hh_1.at 0 rfl) dX14_escape_7 ?_
  refine lv_iconst (v := 1) hx hb dX14_escape_10 (by decide) ?_
  refine lv_iadd hx hb dX14_escape_11 ?_
  refine lv_topi (fun z_3 ez_3 => ?_)
  have hz_3 : z_3.toInt = pt.toInt + 1 := by rw [ez_3]; exact jb_iadd2 (rfl) ((by decide)) (by omega)
  refine j7_put hx hb hown hK hh_1 hB hAp hB16 (C := RX14) (T := TX14) (N := 74) rfl (by decide) hg_r0 (i := 29) (by decide) hly_16_29 rfl (hts (.fieldLink RX14 273 "ProofServerModel" "at" "I") (by decide +kernel)) rfl (ty := .int) (v := .int z_3) (by decide +kernel) rfl rfl (⟨_, rfl, by omega, by omega⟩) rfl (L1 := [(r0, 16, 30, .int pe), (r0, 16, 28, .int pp), (r0, 16, 31, .int pb)]) [1, 2, 3] rfl rfl rfl dX14_escape_12 (fun H_4 locs_4 hh_4 => ?_)
  clear hh_1
  obtain ⟨str_5, rstr_5, hstr_50⟩ := hG.str (o := RX14) (k := 337) (tx := "\"\\/bfnrt") (List.mem_of_getElem? (i := 2337) (by decide +kernel))
  have hstr_5 : jStr base str_5 8 s s.heap := hstr_50
  refine j_ldcSw hx hb hown rstr_5 dX14_escape_15 ?_
  refine lv_astore_n (lv' := [(2, .ref str_5), (1, .int r_2), (0, .ref r0)]) hx hb dX14_escape_18 rfl hl (by decide) rfl (fun ls hl => ?_)
  refine lv_iload_n hx hb dX14_escape_19 rfl (lv_at hl 1 rfl) ?_
  have C32 : ∀ (w0_6 : Int32) (H_6 : Heap) (locs_6 : List Loc), jSt (dC, dI) B base G0 G0 EX14_escape s.heap 0 0 [(r0, 16, 29, .int z_3), (r0, 16, 30, .int pe), (r0, 16, 28, .int pp), (r0, 16, 31, .int pb)] [] [] H_6 locs_6 → (-1 ≤ w0_6.toInt ∧ (w0_6.toInt = -1 ∨ pt.toInt < pe.toInt)) → ∀ ls : Array Slot, lv_has ls 6 [(0, .ref r0), (1, .int r_2), (2, .ref str_5)] → W p l e R s m ([.ref r0] : List Value).toArray below meth c H_6 locs_6 0 0 Q (F0 m 32 ls [.int w0_6]) := by
    intro w0_6 H_6 locs_6 hh_6  hi_6 ls hl
    obtain ⟨hi_6_0, hi_6_1⟩ := hi_6
    clear hr_2_2
    refine lv_istore_n (lv' := [(3, .int w0_6), (0, .ref r0), (1, .int r_2), (2, .ref str_5)]) hx hb dX14_escape_32 rfl hl (by decide) rfl (fun ls hl => ?_)
    refine lv_iload_n hx hb dX14_escape_33 rfl (lv_at hl 0 rfl) ?_
    refine lv_if_lt (tgt := 97) hx hb dX14_escape_34 (by decide) (fun c_7 => ?_) (fun c_7 => ?_)
    · skip
      have c_7' : w0_6.toInt < 0 := jb_lt (rfl) ((by decide)) c_7
      refine lv_iload_n hx hb dX14_escape_97 rfl (lv_at hl 2 rfl) ?_
      refine lv_bipush (v := 117) hx hb dX14_escape_98 (by decide) ?_
      refine lv_icmp_ne (tgt := 110) hx hb dX14_escape_100 (by decide) (fun c_8 => ?_) (fun c_8 => ?_)
      · skip
        have c_8' : r_2.toInt ≠ 117 := jb_ne (rfl) ((by decide)) c_8
        refine lv_iconst (v := (-1)) hx hb dX14_escape_110 (by decide) ?_
        refine lv_istore (lv' := [(4, .int (-1)), (3, .int w0_6), (0, .ref r0), (1, .int r_2), (2, .ref str_5)]) hx hb dX14_escape_111 hl (by decide) rfl (fun ls hl => ?_)
        refine lv_iload hx hb dX14_escape_113 (lv_at hl 0 rfl) ?_
        refine lv_if_lt (tgt := 130) hx hb dX14_escape_115 (by decide) (fun c_9 => ?_) (fun c_9 => ?_)
        · skip
          refine lv_aload_n hx hb dX14_escape_130 rfl (lv_at hl 2 rfl) ?_
          refine lv_iconst (v := 1) hx hb dX14_escape_131 (by decide) ?_
          refine j7_put hx hb hown hK hh_6 hB hAp hB16 (C := RX14) (T := TX14) (N := 74) rfl (by decide) hg_r0 (i := 31) (by decide) hly_16_31 rfl (hts (.fieldLink RX14 288 "ProofServerModel" "bad" "Z") (by decide +kernel)) rfl (ty := .boolean) (v := .int 1) (by decide +kernel) (jb_nz (Or.inr rfl)) (jb_fz (Or.inr rfl)) (⟨_, rfl, (Or.inr rfl)⟩) rfl (L1 := [(r0, 16, 29, .int z_3), (r0, 16, 30, .int pe), (r0, 16, 28, .int pp)]) [0, 1, 2] rfl rfl rfl dX14_escape_132 (fun H_10 locs_10 hh_10 => ?_)
          clear hh_6
          rw [hQ]
          exact W.vret hx hb hr (fun t ht hW => ⟨⟨(z_3, pp, 1), rfl, by first | omega | (refine ⟨?_, ?_, ?_, ?_, ?_, ?_, ?_⟩ <;> (first | omega | rfl | assumption | decide | exact Or.inl rfl | exact Or.inr rfl | (simp only; omega))), hh_10.rt (M1 := [(r0, 16, 29, .int z_3), (r0, 16, 28, .int pp), (r0, 16, 31, .int 1)]) [1, 3, 0] rfl ht⟩, by rw [ht]; try exact hh_10.1.1, fun q h9 hq => by rw [ht]; try exact hh_10.1.2.1 q h9 hq⟩) hh_10.1.2.2 dX14_escape_135
        · skip
          exact absurd c_9 (by decide)
      · skip
        have c_8' : r_2.toInt = 117 := jb_ne_n (rfl) ((by decide)) c_8
        refine lv_aload_n hx hb dX14_escape_103 rfl (lv_at hl 1 rfl) ?_
        refine va_calli (A0 := jA base) (H0 := s.heap) (va_runV (As := []) (rest := []) ⟨hx, hb, hml, hown, hts⟩ (uX14_four l dC dI ca base B hB hAp hB16 hB110 G0 H_6 r0 z_3 pe) (cwV 0 hts gX14_escape_X14_four rfl rfl rfl (by decide +kernel) ⟨by rw [← hR]; exact Nat.le_of_ble_eq_true rfl, by rw [← hR]; exact Nat.le_of_ble_eq_true rfl⟩) ⟨fun a U g mk q => by obtain ⟨q0, q1, q2, qK, q10, q11, q12⟩ := q; exact ⟨q0, q1, q2, jG.calling g mk a qK, q10, q11, q12⟩, hh_6.recv (C := RX14) (T := TX14) (N := 74) hB16 rfl (by decide) hg_r0 hK, fun U hU hW => ⟨rfl, hU, hh_6.2.1, hG.step hW hU hh_6.1, hg_r0, (hh_6.2.2.1.sub (L1 := [(r0, 16, 29, .int z_3), (r0, 16, 30, .int pe)]) [0, 1] rfl), by first | omega | (refine ⟨?_, ?_, ?_, ?_, ?_⟩ <;> (first | omega | rfl | assumption | decide | exact Or.inl rfl | exact Or.inr rfl | (simp only; omega)))⟩⟩ rfl rfl hl.1 rfl (lv_room (Nat.le_of_ble_eq_true rfl)) dX14_escape_104 ⟨Nat.zero_le _, Nat.zero_le _⟩) hh_6.1 (fun q _ h => h) (fun q h => h) (fun r_12 u_11 t_11 H_11 locs_11 ht_11 hvm_11 hr_12 hb_11 hz_11 hk_11 hS_11 => ?_)
        obtain ⟨qt_11, rfl⟩ : ∃ z, z = u_11 := ⟨_, rfl⟩
        rw [ht_11] at hb_11
        obtain ⟨hb_111, hb_112, hb_113, hb_114, hb_115⟩ := hb_11
        have hh_11 : jSt (dC, dI) B base G0 G0 EX14_escape s.heap 0 0 [(r0, 16, 29, .int qt_11), (r0, 16, 30, .int pe), (r0, 16, 28, .int pp)] [] [] H_11 locs_11 := (hh_6.call hb_111 hb_112 hb_113 hb_114 hS_11 rfl (L1 := [(r0, 16, 30, .int pe), (r0, 16, 28, .int pp)]) [1, 2] rfl rfl (M1 := []) [] rfl rfl (I1 := []) [] rfl rfl).more hb_115
        clear hh_6 ht_11 hvm_11 hz_11 hk_11 hS_11 hb_111 hb_112 hb_113 hb_114 hb_115
        obtain ⟨hr_12_0, hr_12_1, hr_12_2, hr_12_3⟩ := hr_12
        refine lv_goto (tgt := 111) hx hb dX14_escape_107 (by decide) ?_
        refine lv_istore (lv' := [(4, .int r_12), (3, .int w0_6), (0, .ref r0), (1, .int r_2), (2, .ref str_5)]) hx hb dX14_escape_111 hl (by decide) rfl (fun ls hl => ?_)
        refine lv_iload hx hb dX14_escape_113 (lv_at hl 0 rfl) ?_
        refine lv_if_lt (tgt := 130) hx hb dX14_escape_115 (by decide) (fun c_13 => ?_) (fun c_13 => ?_)
        · skip
          have c_13' : r_12.toInt < 0 := jb_lt (rfl) ((by decide)) c_13
          refine lv_aload_n hx hb dX14_escape_130 rfl (lv_at hl 2 rfl) ?_
          refine lv_iconst (v := 1) hx hb dX14_escape_131 (by decide) ?_
          refine j7_put hx hb hown hK hh_11 hB hAp hB16 (C := RX14) (T := TX14) (N := 74) rfl (by decide) hg_r0 (i := 31) (by decide) hly_16_31 rfl (hts (.fieldLink RX14 288 "ProofServerModel" "bad" "Z") (by decide +kernel)) rfl (ty := .boolean) (v := .int 1) (by decide +kernel) (jb_nz (Or.inr rfl)) (jb_fz (Or.inr rfl)) (⟨_, rfl, (Or.inr rfl)⟩) rfl (L1 := [(r0, 16, 29, .int qt_11), (r0, 16, 30, .int pe), (r0, 16, 28, .int pp)]) [0, 1, 2] rfl rfl rfl dX14_escape_132 (fun H_14 locs_14 hh_14 => ?_)
          clear hh_11
          rw [hQ]
          exact W.vret hx hb hr (fun t ht hW => ⟨⟨(qt_11, pp, 1), rfl, by first | omega | (refine ⟨?_, ?_, ?_, ?_, ?_, ?_, ?_⟩ <;> (first | omega | rfl | assumption | decide | exact Or.inl rfl | exact Or.inr rfl | (simp only; omega))), hh_14.rt (M1 := [(r0, 16, 29, .int qt_11), (r0, 16, 28, .int pp), (r0, 16, 31, .int 1)]) [1, 3, 0] rfl ht⟩, by rw [ht]; try exact hh_14.1.1, fun q h9 hq => by rw [ht]; try exact hh_14.1.2.1 q h9 hq⟩) hh_14.1.2.2 dX14_escape_135
        · skip
          have c_13' : r_12.toInt ≥ 0 := jb_lt_n (rfl) ((by decide)) c_13
          refine lv_iload hx hb dX14_escape_118 (lv_at hl 0 rfl) ?_
          refine lv_ldc hx hb hown (hts (.constant RX14 185 56320) (by decide +kernel)) dX14_escape_120 ?_
          refine lv_ldc hx hb hown (hts (.constant RX14 186 57343) (by decide +kernel)) dX14_escape_122 ?_
          refine va_calli (A0 := jA base) (H0 := s.heap) (va_runS (As := [.int r_12, .int 56320, .int 57343]) (rest := []) ⟨hx, hb, hml, hown, hts⟩ (uX14_in l dC dI ca base B hB hAp G0 H_11 r_12 56320 57343) (va_cwS 3 hts gX14_escape_X14_in rfl rfl rfl (by decide +kernel) ⟨by rw [← hR]; exact Nat.le_of_ble_eq_true rfl, by rw [← hR]; exact Nat.le_of_ble_eq_true rfl⟩) ⟨fun a U g mk q => by obtain ⟨q0, q1, q2, qK, q10, q11⟩ := q; exact ⟨q0, q1, q2, jG.calling g mk a qK, q10, q11⟩, fun U hU hW => ⟨rfl, hU, hh_11.2.1, hG.step hW hU hh_11.1, jP.nil, trivial⟩⟩ rfl rfl hl.1 rfl (lv_room (Nat.le_of_ble_eq_true rfl)) dX14_escape_124 ⟨Nat.zero_le _, Nat.zero_le _⟩) hh_11.1 (fun q _ h => h) (fun q h => h) (fun r_16 u_15 t_15 H_15 locs_15 ht_15 hvm_15 hr_16 hb_15 hz_15 hk_15 hS_15 => ?_)
          rw [ht_15] at hb_15
          obtain ⟨hb_151, hb_152, hb_153, hb_154, hb_155⟩ := hb_15
          have hh_15 : jSt (dC, dI) B base G0 G0 EX14_escape s.heap 0 0 [(r0, 16, 29, .int qt_11), (r0, 16, 30, .int pe), (r0, 16, 28, .int pp)] [] [] H_15 locs_15 := (hh_11.call hb_151 hb_152 hb_153 hb_154 hS_15 rfl (L1 := [(r0, 16, 29, .int qt_11), (r0, 16, 30, .int pe), (r0, 16, 28, .int pp)]) [0, 1, 2] rfl rfl (M1 := []) [] rfl rfl (I1 := []) [] rfl rfl).more hb_155
          clear hh_11 ht_15 hvm_15 hz_15 hk_15 hS_15 hb_151 hb_152 hb_153 hb_154 hb_155
          obtain ⟨hr_16b, hr_16p⟩ := hr_16
          obtain ⟨hr_16p_0, hr_16p_1⟩ := hr_16p
          have hr_16' := jb_01 hr_16b
          refine lv_if_eq (tgt := 136) hx hb dX14_escape_127 (by decide) (fun c_17 => ?_) (fun c_17 => ?_)
          · skip
            have c_17' : r_16.toInt = 0 := jb_eq (rfl) ((by decide)) c_17
            refine lv_iload hx hb dX14_escape_136 (lv_at hl 0 rfl) ?_
            refine lv_ldc hx hb hown (hts (.constant RX14 179 55296) (by decide +kernel)) dX14_escape_138 ?_
            refine lv_ldc hx hb hown (hts (.constant RX14 180 56319) (by decide +kernel)) dX14_escape_140 ?_
            refine va_calli (A0 := jA base) (H0 := s.heap) (va_runS (As := [.int r_12, .int 55296, .int 56319]) (rest := []) ⟨hx, hb, hml, hown, hts⟩ (uX14_in l dC dI ca base B hB hAp G0 H_15 r_12 55296 56319) (va_cwS 3 hts gX14_escape_X14_in rfl rfl rfl (by decide +kernel) ⟨by rw [← hR]; exact Nat.le_of_ble_eq_true rfl, by rw [← hR]; exact Nat.le_of_ble_eq_true rfl⟩) ⟨fun a U g mk q => by obtain ⟨q0, q1, q2, qK, q10, q11⟩ := q; exact ⟨q0, q1, q2, jG.calling g mk a qK, q10, q11⟩, fun U hU hW => ⟨rfl, hU, hh_15.2.1, hG.step hW hU hh_15.1, jP.nil, trivial⟩⟩ rfl rfl hl.1 rfl (lv_room (Nat.le_of_ble_eq_true rfl)) dX14_escape_142 ⟨Nat.zero_le _, Nat.zero_le _⟩) hh_15.1 (fun q _ h => h) (fun q h => h) (fun r_19 u_18 t_18 H_18 locs_18 ht_18 hvm_18 hr_19 hb_18 hz_18 hk_18 hS_18 => ?_)
            rw [ht_18] at hb_18
            obtain ⟨hb_181, hb_182, hb_183, hb_184, hb_185⟩ := hb_18
            have hh_18 : jSt (dC, dI) B base G0 G0 EX14_escape s.heap 0 0 [(r0, 16, 29, .int qt_11), (r0, 16, 30, .int pe), (r0, 16, 28, .int pp)] [] [] H_18 locs_18 := (hh_15.call hb_181 hb_182 hb_183 hb_184 hS_18 rfl (L1 := [(r0, 16, 29, .int qt_11), (r0, 16, 30, .int pe), (r0, 16, 28, .int pp)]) [0, 1, 2] rfl rfl (M1 := []) [] rfl rfl (I1 := []) [] rfl rfl).more hb_185
            clear hh_15 ht_18 hvm_18 hz_18 hk_18 hS_18 hb_181 hb_182 hb_183 hb_184 hb_185
            obtain ⟨hr_19b, hr_19p⟩ := hr_19
            obtain ⟨hr_19p_0, hr_19p_1⟩ := hr_19p
            have hr_19' := jb_01 hr_19b
            refine lv_if_ne (tgt := 155) hx hb dX14_escape_145 (by decide) (fun c_20 => ?_) (fun c_20 => ?_)
            · skip
              have c_20' : r_19.toInt ≠ 0 := jb_ne (rfl) ((by decide)) c_20
              refine lv_aload_n hx hb dX14_escape_155 rfl (lv_at hl 2 rfl) ?_
              obtain ⟨str_21, rstr_21, hstr_210⟩ := hG.str (o := RX14) (k := 348) (tx := "\\u") (List.mem_of_getElem? (i := 2356) (by decide +kernel))
              have hstr_21 : jStr base str_21 2 s s.heap := hstr_210
              refine j_ldcSw hx hb hown rstr_21 dX14_escape_156 ?_
              refine va_calli (A0 := jA base) (H0 := s.heap) (va_runV (As := [.ref str_21]) (rest := []) ⟨hx, hb, hml, hown, hts⟩ (uX14_takes l dC dI ca base B hB hAp hB16 hB110 G0 H_18 r0 str_21 2 qt_11 pe) (cwV 1 hts gX14_escape_X14_takes rfl rfl rfl (by decide +kernel) ⟨by rw [← hR]; exact Nat.le_of_ble_eq_true rfl, by rw [← hR]; exact Nat.le_of_ble_eq_true rfl⟩) ⟨fun a U g mk q => by obtain ⟨q0, q1, q2, qK, q10, q11, q12, q13⟩ := q; exact ⟨q0, q1, q2, jG.calling g mk a qK, (q10.moved (Vm.Alike.refl U.vm)), q11, q12, q13⟩, hh_18.recv (C := RX14) (T := TX14) (N := 74) hB16 rfl (by decide) hg_r0 hK, fun U hU hW => ⟨rfl, hU, hh_18.2.1, hG.step hW hU hh_18.1, (hstr_21.moved hW.alike).kept hh_18.1.2.1, hg_r0, (hh_18.2.2.1.sub (L1 := [(r0, 16, 29, .int qt_11), (r0, 16, 30, .int pe)]) [0, 1] rfl), by first | omega | (refine ⟨?_, ?_, ?_, ?_, ?_, ?_, ?_⟩ <;> (first | omega | rfl | assumption | decide | exact Or.inl rfl | exact Or.inr rfl | (simp only; omega)))⟩⟩ rfl rfl hl.1 rfl (lv_room (Nat.le_of_ble_eq_true rfl)) dX14_escape_159 ⟨Nat.zero_le _, Nat.zero_le _⟩) hh_18.1 (fun q _ h => h) (fun q h => h) (fun r_23 u_22 t_22 H_22 locs_22 ht_22 hvm_22 hr_23 hb_22 hz_22 hk_22 hS_22 => ?_)
              obtain ⟨qt_22, rfl⟩ : ∃ z, z = u_22 := ⟨_, rfl⟩
              rw [ht_22] at hb_22
              obtain ⟨hb_221, hb_222, hb_223, hb_224, hb_225⟩ := hb_22
              have hh_22 : jSt (dC, dI) B base G0 G0 EX14_escape s.heap 0 0 [(r0, 16, 29, .int qt_22), (r0, 16, 30, .int pe), (r0, 16, 28, .int pp)] [] [] H_22 locs_22 := (hh_18.call hb_221 hb_222 hb_223 hb_224 hS_22 rfl (L1 := [(r0, 16, 30, .int pe), (r0, 16, 28, .int pp)]) [1, 2] rfl rfl (M1 := []) [] rfl rfl (I1 := []) [] rfl rfl).more hb_225
              clear hh_18 ht_22 hvm_22 hz_22 hk_22 hS_22 hb_221 hb_222 hb_223 hb_224 hb_225
              obtain ⟨hr_23b, hr_23p⟩ := hr_23
              obtain ⟨hr_23p_0, hr_23p_1, hr_23p_2⟩ := hr_23p
              have hr_23' := jb_01 hr_23b
              refine lv_if_eq (tgt := 172) hx hb dX14_escape_162 (by decide) (fun c_24 => ?_) (fun c_24 => ?_)
              · skip
                have c_24' : r_23.toInt = 0 := jb_eq (rfl) ((by decide)) c_24
                refine lv_iconst (v := (-1)) hx hb dX14_escape_172 (by decide) ?_
                refine lv_istore (lv' := [(5, .int (-1)), (4, .int r_12), (3, .int w0_6), (0, .ref r0), (1, .int r_2), (2, .ref str_5)]) hx hb dX14_escape_173 hl (by decide) rfl (fun ls hl => ?_)
                refine lv_iload hx hb dX14_escape_175 (lv_at hl 0 rfl) ?_
                refine lv_ldc hx hb hown (hts (.constant RX14 185 56320) (by decide +kernel)) dX14_escape_177 ?_
                refine lv_ldc hx hb hown (hts (.constant RX14 186 57343) (by decide +kernel)) dX14_escape_179 ?_
                refine va_calli (A0 := jA base) (H0 := s.heap) (va_runS (As := [.int (-1), .int 56320, .int 57343]) (rest := []) ⟨hx, hb, hml, hown, hts⟩ (uX14_in l dC dI ca base B hB hAp G0 H_22 (-1) 56320 57343) (va_cwS 3 hts gX14_escape_X14_in rfl rfl rfl (by decide +kernel) ⟨by rw [← hR]; exact Nat.le_of_ble_eq_true rfl, by rw [← hR]; exact Nat.le_of_ble_eq_true rfl⟩) ⟨fun a U g mk q => by obtain ⟨q0, q1, q2, qK, q10, q11⟩ := q; exact ⟨q0, q1, q2, jG.calling g mk a qK, q10, q11⟩, fun U hU hW => ⟨rfl, hU, hh_22.2.1, hG.step hW hU hh_22.1, jP.nil, trivial⟩⟩ rfl rfl hl.1 rfl (lv_room (Nat.le_of_ble_eq_true rfl)) dX14_escape_181 ⟨Nat.zero_le _, Nat.zero_le _⟩) hh_22.1 (fun q _ h => h) (fun q h => h) (fun r_26 u_25 t_25 H_25 locs_25 ht_25 hvm_25 hr_26 hb_25 hz_25 hk_25 hS_25 => ?_)
                rw [ht_25] at hb_25
                obtain ⟨hb_251, hb_252, hb_253, hb_254, hb_255⟩ := hb_25
                have hh_25 : jSt (dC, dI) B base G0 G0 EX14_escape s.heap 0 0 [(r0, 16, 29, .int qt_22), (r0, 16, 30, .int pe), (r0, 16, 28, .int pp)] [] [] H_25 locs_25 := (hh_22.call hb_251 hb_252 hb_253 hb_254 hS_25 rfl (L1 := [(r0, 16, 29, .int qt_22), (r0, 16, 30, .int pe), (r0, 16, 28, .int pp)]) [0, 1, 2] rfl rfl (M1 := []) [] rfl rfl (I1 := []) [] rfl rfl).more hb_255
                clear hh_22 ht_25 hvm_25 hz_25 hk_25 hS_25 hb_251 hb_252 hb_253 hb_254 hb_255
                obtain ⟨hr_26b, hr_26p⟩ := hr_26
                obtain ⟨hr_26p_0, hr_26p_1⟩ := hr_26p
                have hr_26' := jb_01 hr_26b
                refine lv_if_ne (tgt := 193) hx hb dX14_escape_184 (by decide) (fun c_27 => ?_) (fun c_27 => ?_)
                · skip
                  have c_27' : r_26.toInt ≠ 0 := jb_ne (rfl) ((by decide)) c_27
                  refine lv_aload_n hx hb dX14_escape_193 rfl (lv_at hl 3 rfl) ?_
                  refine lv_iload hx hb dX14_escape_194 (lv_at hl 1 rfl) ?_
                  refine va_callv (A0 := jA base) (H0 := s.heap) (va_runV (As := [.int r_12]) (rest := []) ⟨hx, hb, hml, hown, hts⟩ (uX14_unit l dC dI ca base B hB hAp hB16 hB127 G0 H_25 r0 r_12 pp) (cwV 1 hts gX14_escape_X14_unit rfl rfl rfl (by decide +kernel) ⟨by rw [← hR]; exact Nat.le_of_ble_eq_true rfl, by rw [← hR]; exact Nat.le_of_ble_eq_true rfl⟩) ⟨fun a U g mk q => by obtain ⟨q0, q1, q2, qK, q10, q11, q12⟩ := q; exact ⟨q0, q1, q2, jG.calling g mk a qK, q10, q11, q12⟩, hh_25.recv (C := RX14) (T := TX14) (N := 74) hB16 rfl (by decide) hg_r0 hK, fun U hU hW => ⟨rfl, hU, hh_25.2.1, hG.step hW hU hh_25.1, hg_r0, (hh_25.2.2.1.sub (L1 := [(r0, 16, 28, .int pp)]) [2] rfl), by first | omega | (refine ⟨?_, ?_⟩ <;> (first | omega | rfl | assumption | decide | exact Or.inl rfl | exact Or.inr rfl | (simp only; omega)))⟩⟩ rfl rfl hl.1 rfl (lv_room (Nat.le_of_ble_eq_true rfl)) dX14_escape_196 ⟨Nat.zero_le _, Nat.zero_le _⟩) hh_25.1 (fun q _ h => h) (fun q h => h) (fun u_28 t_28 H_28 locs_28 ht_28 hvm_28 hr_29 hb_28 hz_28 hk_28 hS_28 => ?_)
                  obtain ⟨qp_28, rfl⟩ : ∃ z, z = u_28 := ⟨_, rfl⟩
                  rw [ht_28] at hb_28
                  obtain ⟨hb_281, hb_282, hb_283, hb_284, hb_285⟩ := hb_28
                  have hh_28 : jSt (dC, dI) B base G0 G0 EX14_escape s.heap 0 0 [(r0, 16, 28, .int qp_28), (r0, 16, 29, .int qt_22), (r0, 16, 30, .int pe)] [] [] H_28 locs_28 := (hh_25.call hb_281 hb_282 hb_283 hb_284 hS_28 rfl (L1 := [(r0, 16, 29, .int qt_22), (r0, 16, 30, .int pe)]) [0, 1] rfl rfl (M1 := []) [] rfl rfl (I1 := []) [] rfl rfl).more hb_285
                  clear hh_25 ht_28 hvm_28 hz_28 hk_28 hS_28 hb_281 hb_282 hb_283 hb_284 hb_285
                  obtain ⟨hr_29_0, hr_29_1, hr_29_2⟩ := hr_29
                  refine lv_aload_n hx hb dX14_escape_199 rfl (lv_at hl 3 rfl) ?_
                  refine lv_iload hx hb dX14_escape_200 (lv_at hl 0 rfl) ?_
                  refine va_callv (A0 := jA base) (H0 := s.heap) (va_runV (As := [.int (-1)]) (rest := []) ⟨hx, hb, hml, hown, hts⟩ (uX14_unit l dC dI ca base B hB hAp hB16 hB127 G0 H_28 r0 (-1) qp_28) (cwV 1 hts gX14_escape_X14_unit rfl rfl rfl (by decide +kernel) ⟨by rw [← hR]; exact Nat.le_of_ble_eq_true rfl, by rw [← hR]; exact Nat.le_of_ble_eq_true rfl⟩) ⟨fun a U g mk q => by obtain ⟨q0, q1, q2, qK, q10, q11, q12⟩ := q; exact ⟨q0, q1, q2, jG.calling g mk a qK, q10, q11, q12⟩, hh_28.recv (C := RX14) (T := TX14) (N := 74) hB16 rfl (by decide) hg_r0 hK, fun U hU hW => ⟨rfl, hU, hh_28.2.1, hG.step hW hU hh_28.1, hg_r0, (hh_28.2.2.1.sub (L1 := [(r0, 16, 28, .int qp_28)]) [0] rfl), by first | omega | (refine ⟨?_, ?_⟩ <;> (first | omega | rfl | assumption | decide | exact Or.inl rfl | exact Or.inr rfl | (simp only; omega)))⟩⟩ rfl rfl hl.1 rfl (lv_room (Nat.le_of_ble_eq_true rfl)) dX14_escape_202 ⟨Nat.zero_le _, Nat.zero_le _⟩) hh_28.1 (fun q _ h => h) (fun q h => h) (fun u_30 t_30 H_30 locs_30 ht_30 hvm_30 hr_31 hb_30 hz_30 hk_30 hS_30 => ?_)
                  obtain ⟨qp_30, rfl⟩ : ∃ z, z = u_30 := ⟨_, rfl⟩
                  rw [ht_30] at hb_30
                  obtain ⟨hb_301, hb_302, hb_303, hb_304, hb_305⟩ := hb_30
                  have hh_30 : jSt (dC, dI) B base G0 G0 EX14_escape s.heap 0 0 [(r0, 16, 28, .int qp_30), (r0, 16, 29, .int qt_22), (r0, 16, 30, .int pe)] [] [] H_30 locs_30 := (hh_28.call hb_301 hb_302 hb_303 hb_304 hS_30 rfl (L1 := [(r0, 16, 29, .int qt_22), (r0, 16, 30, .int pe)]) [1, 2] rfl rfl (M1 := []) [] rfl rfl (I1 := []) [] rfl rfl).more hb_305
                  clear hh_28 ht_30 hvm_30 hz_30 hk_30 hS_30 hb_301 hb_302 hb_303 hb_304 hb_305
                  obtain ⟨hr_31_0, hr_31_1, hr_31_2⟩ := hr_31
                  rw [hQ]
                  obtain ⟨v_32, hv_32, hh_33⟩ := hh_30.pin (C := RX14) (T := TX14) (N := 74) hB16 rfl (by decide) hg_r0 (i := 31) (by decide) rfl
                  obtain ⟨bad_34, rfl, hzbad_34⟩ := hv_32
                  have hzbad_34' := jb_01 hzbad_34
                  exact W.vret hx hb hr (fun t ht hW => ⟨⟨(qt_22, qp_30, bad_34), rfl, by first | omega | (refine ⟨?_, ?_, ?_, ?_, ?_, ?_, ?_⟩ <;> (first | omega | rfl | assumption | decide | exact Or.inl rfl | exact Or.inr rfl | (simp only; omega))), hh_33.rt (M1 := [(r0, 16, 29, .int qt_22), (r0, 16, 28, .int qp_30), (r0, 16, 31, .int bad_34)]) [2, 1, 0] rfl ht⟩, by rw [ht]; try exact hh_33.1.1, fun q h9 hq => by rw [ht]; try exact hh_33.1.2.1 q h9 hq⟩) hh_33.1.2.2 dX14_escape_205
                · skip
                  have c_27' : r_26.toInt = 0 := jb_ne_n (rfl) ((by decide)) c_27
                  refine lv_aload_n hx hb dX14_escape_187 rfl (lv_at hl 3 rfl) ?_
                  refine lv_iconst (v := 1) hx hb dX14_escape_188 (by decide) ?_
                  refine j7_put hx hb hown hK hh_25 hB hAp hB16 (C := RX14) (T := TX14) (N := 74) rfl (by decide) hg_r0 (i := 31) (by decide) hly_16_31 rfl (hts (.fieldLink RX14 288 "ProofServerModel" "bad" "Z") (by decide +kernel)) rfl (ty := .boolean) (v := .int 1) (by decide +kernel) (jb_nz (Or.inr rfl)) (jb_fz (Or.inr rfl)) (⟨_, rfl, (Or.inr rfl)⟩) rfl (L1 := [(r0, 16, 29, .int qt_22), (r0, 16, 30, .int pe), (r0, 16, 28, .int pp)]) [0, 1, 2] rfl rfl rfl dX14_escape_189 (fun H_35 locs_35 hh_35 => ?_)
                  clear hh_25
                  rw [hQ]
                  exact W.vret hx hb hr (fun t ht hW => ⟨⟨(qt_22, pp, 1), rfl, by first | omega | (refine ⟨?_, ?_, ?_, ?_, ?_, ?_, ?_⟩ <;> (first | omega | rfl | assumption | decide | exact Or.inl rfl | exact Or.inr rfl | (simp only; omega))), hh_35.rt (M1 := [(r0, 16, 29, .int qt_22), (r0, 16, 28, .int pp), (r0, 16, 31, .int 1)]) [1, 3, 0] rfl ht⟩, by rw [ht]; try exact hh_35.1.1, fun q h9 hq => by rw [ht]; try exact hh_35.1.2.1 q h9 hq⟩) hh_35.1.2.2 dX14_escape_192
              · skip
                have c_24' : r_23.toInt ≠ 0 := jb_eq_n (rfl) ((by decide)) c_24
                refine lv_aload_n hx hb dX14_escape_165 rfl (lv_at hl 2 rfl) ?_
                refine va_calli (A0 := jA base) (H0 := s.heap) (va_runV (As := []) (rest := []) ⟨hx, hb, hml, hown, hts⟩ (uX14_four l dC dI ca base B hB hAp hB16 hB110 G0 H_22 r0 qt_22 pe) (cwV 0 hts gX14_escape_X14_four rfl rfl rfl (by decide +kernel) ⟨by rw [← hR]; exact Nat.le_of_ble_eq_true rfl, by rw [← hR]; exact Nat.le_of_ble_eq_true rfl⟩) ⟨fun a U g mk q => by obtain ⟨q0, q1, q2, qK, q10, q11, q12⟩ := q; exact ⟨q0, q1, q2, jG.calling g mk a qK, q10, q11, q12⟩, hh_22.recv (C := RX14) (T := TX14) (N := 74) hB16 rfl (by decide) hg_r0 hK, fun U hU hW => ⟨rfl, hU, hh_22.2.1, hG.step hW hU hh_22.1, hg_r0, (hh_22.2.2.1.sub (L1 := [(r0, 16, 29, .int qt_22), (r0, 16, 30, .int pe)]) [0, 1] rfl), by first | omega | (refine ⟨?_, ?_, ?_, ?_, ?_⟩ <;> (first | omega | rfl | assumption | decide | exact Or.inl rfl | exact Or.inr rfl | (simp only; omega)))⟩⟩ rfl rfl hl.1 rfl (lv_room (Nat.le_of_ble_eq_true rfl)) dX14_escape_166 ⟨Nat.zero_le _, Nat.zero_le _⟩) hh_22.1 (fun q _ h => h) (fun q h => h) (fun r_37 u_36 t_36 H_36 locs_36 ht_36 hvm_36 hr_37 hb_36 hz_36 hk_36 hS_36 => ?_)
                obtain ⟨qt_36, rfl⟩ : ∃ z, z = u_36 := ⟨_, rfl⟩
                rw [ht_36] at hb_36
                obtain ⟨hb_361, hb_362, hb_363, hb_364, hb_365⟩ := hb_36
                have hh_36 : jSt (dC, dI) B base G0 G0 EX14_escape s.heap 0 0 [(r0, 16, 29, .int qt_36), (r0, 16, 30, .int pe), (r0, 16, 28, .int pp)] [] [] H_36 locs_36 := (hh_22.call hb_361 hb_362 hb_363 hb_364 hS_36 rfl (L1 := [(r0, 16, 30, .int pe), (r0, 16, 28, .int pp)]) [1, 2] rfl rfl (M1 := []) [] rfl rfl (I1 := []) [] rfl rfl).more hb_365
                clear hh_22 ht_36 hvm_36 hz_36 hk_36 hS_36 hb_361 hb_362 hb_363 hb_364 hb_365
                obtain ⟨hr_37_0, hr_37_1, hr_37_2, hr_37_3⟩ := hr_37
                refine lv_goto (tgt := 173) hx hb dX14_escape_169 (by decide) ?_
                refine lv_istore (lv' := [(5, .int r_37), (4, .int r_12), (3, .int w0_6), (0, .ref r0), (1, .int r_2), (2, .ref str_5)]) hx hb dX14_escape_173 hl (by decide) rfl (fun ls hl => ?_)
                refine lv_iload hx hb dX14_escape_175 (lv_at hl 0 rfl) ?_
                refine lv_ldc hx hb hown (hts (.constant RX14 185 56320) (by decide +kernel)) dX14_escape_177 ?_
                refine lv_ldc hx hb hown (hts (.constant RX14 186 57343) (by decide +kernel)) dX14_escape_179 ?_
                refine va_calli (A0 := jA base) (H0 := s.heap) (va_runS (As := [.int r_37, .int 56320, .int 57343]) (rest := []) ⟨hx, hb, hml, hown, hts⟩ (uX14_in l dC dI ca base B hB hAp G0 H_36 r_37 56320 57343) (va_cwS 3 hts gX14_escape_X14_in rfl rfl rfl (by decide +kernel) ⟨by rw [← hR]; exact Nat.le_of_ble_eq_true rfl, by rw [← hR]; exact Nat.le_of_ble_eq_true rfl⟩) ⟨fun a U g mk q => by obtain ⟨q0, q1, q2, qK, q10, q11⟩ := q; exact ⟨q0, q1, q2, jG.calling g mk a qK, q10, q11⟩, fun U hU hW => ⟨rfl, hU, hh_36.2.1, hG.step hW hU hh_36.1, jP.nil, trivial⟩⟩ rfl rfl hl.1 rfl (lv_room (Nat.le_of_ble_eq_true rfl)) dX14_escape_181 ⟨Nat.zero_le _, Nat.zero_le _⟩) hh_36.1 (fun q _ h => h) (fun q h => h) (fun r_39 u_38 t_38 H_38 locs_38 ht_38 hvm_38 hr_39 hb_38 hz_38 hk_38 hS_38 => ?_)
                rw [ht_38] at hb_38
                obtain ⟨hb_381, hb_382, hb_383, hb_384, hb_385⟩ := hb_38
                have hh_38 : jSt (dC, dI) B base G0 G0 EX14_escape s.heap 0 0 [(r0, 16, 29, .int qt_36), (r0, 16, 30, .int pe), (r0, 16, 28, .int pp)] [] [] H_38 locs_38 := (hh_36.call hb_381 hb_382 hb_383 hb_384 hS_38 rfl (L1 := [(r0, 16, 29, .int qt_36), (r0, 16, 30, .int pe), (r0, 16, 28, .int pp)]) [0, 1, 2] rfl rfl (M1 := []) [] rfl rfl (I1 := []) [] rfl rfl).more hb_385
                clear hh_36 ht_38 hvm_38 hz_38 hk_38 hS_38 hb_381 hb_382 hb_383 hb_384 hb_385
                obtain ⟨hr_39b, hr_39p⟩ := hr_39
                obtain ⟨hr_39p_0, hr_39p_1⟩ := hr_39p
                have hr_39' := jb_01 hr_39b
                refine lv_if_ne (tgt := 193) hx hb dX14_escape_184 (by decide) (fun c_40 => ?_) (fun c_40 => ?_)
                · skip
                  have c_40' : r_39.toInt ≠ 0 := jb_ne (rfl) ((by decide)) c_40
                  refine lv_aload_n hx hb dX14_escape_193 rfl (lv_at hl 3 rfl) ?_
                  refine lv_iload hx hb dX14_escape_194 (lv_at hl 1 rfl) ?_
                  refine va_callv (A0 := jA base) (H0 := s.heap) (va_runV (As := [.int r_12]) (rest := []) ⟨hx, hb, hml, hown, hts⟩ (uX14_unit l dC dI ca base B hB hAp hB16 hB127 G0 H_38 r0 r_12 pp) (cwV 1 hts gX14_escape_X14_unit rfl rfl rfl (by decide +kernel) ⟨by rw [← hR]; exact Nat.le_of_ble_eq_true rfl, by rw [← hR]; exact Nat.le_of_ble_eq_true rfl⟩) ⟨fun a U g mk q => by obtain ⟨q0, q1, q2, qK, q10, q11, q12⟩ := q; exact ⟨q0, q1, q2, jG.calling g mk a qK, q10, q11, q12⟩, hh_38.recv (C := RX14) (T := TX14) (N := 74) hB16 rfl (by decide) hg_r0 hK, fun U hU hW => ⟨rfl, hU, hh_38.2.1, hG.step hW hU hh_38.1, hg_r0, (hh_38.2.2.1.sub (L1 := [(r0, 16, 28, .int pp)]) [2] rfl), by first | omega | (refine ⟨?_, ?_⟩ <;> (first | omega | rfl | assumption | decide | exact Or.inl rfl | exact Or.inr rfl | (simp only; omega)))⟩⟩ rfl rfl hl.1 rfl (lv_room (Nat.le_of_ble_eq_true rfl)) dX14_escape_196 ⟨Nat.zero_le _, Nat.zero_le _⟩) hh_38.1 (fun q _ h => h) (fun q h => h) (fun u_41 t_41 H_41 locs_41 ht_41 hvm_41 hr_42 hb_41 hz_41 hk_41 hS_41 => ?_)
                  obtain ⟨qp_41, rfl⟩ : ∃ z, z = u_41 := ⟨_, rfl⟩
                  rw [ht_41] at hb_41
                  obtain ⟨hb_411, hb_412, hb_413, hb_414, hb_415⟩ := hb_41
                  have hh_41 : jSt (dC, dI) B base G0 G0 EX14_escape s.heap 0 0 [(r0, 16, 28, .int qp_41), (r0, 16, 29, .int qt_36), (r0, 16, 30, .int pe)] [] [] H_41 locs_41 := (hh_38.call hb_411 hb_412 hb_413 hb_414 hS_41 rfl (L1 := [(r0, 16, 29, .int qt_36), (r0, 16, 30, .int pe)]) [0, 1] rfl rfl (M1 := []) [] rfl rfl (I1 := []) [] rfl rfl).more hb_415
                  clear hh_38 ht_41 hvm_41 hz_41 hk_41 hS_41 hb_411 hb_412 hb_413 hb_414 hb_415
                  obtain ⟨hr_42_0, hr_42_1, hr_42_2⟩ := hr_42
                  refine lv_aload_n hx hb dX14_escape_199 rfl (lv_at hl 3 rfl) ?_
                  refine lv_iload hx hb dX14_escape_200 (lv_at hl 0 rfl) ?_
                  refine va_callv (A0 := jA base) (H0 := s.heap) (va_runV (As := [.int r_37]) (rest := []) ⟨hx, hb, hml, hown, hts⟩ (uX14_unit l dC dI ca base B hB hAp hB16 hB127 G0 H_41 r0 r_37 qp_41) (cwV 1 hts gX14_escape_X14_unit rfl rfl rfl (by decide +kernel) ⟨by rw [← hR]; exact Nat.le_of_ble_eq_true rfl, by rw [← hR]; exact Nat.le_of_ble_eq_true rfl⟩) ⟨fun a U g mk q => by obtain ⟨q0, q1, q2, qK, q10, q11, q12⟩ := q; exact ⟨q0, q1, q2, jG.calling g mk a qK, q10, q11, q12⟩, hh_41.recv (C := RX14) (T := TX14) (N := 74) hB16 rfl (by decide) hg_r0 hK, fun U hU hW => ⟨rfl, hU, hh_41.2.1, hG.step hW hU hh_41.1, hg_r0, (hh_41.2.2.1.sub (L1 := [(r0, 16, 28, .int qp_41)]) [0] rfl), by first | omega | (refine ⟨?_, ?_⟩ <;> (first | omega | rfl | assumption | decide | exact Or.inl rfl | exact Or.inr rfl | (simp only; omega)))⟩⟩ rfl rfl hl.1 rfl (lv_room (Nat.le_of_ble_eq_true rfl)) dX14_escape_202 ⟨Nat.zero_le _, Nat.zero_le _⟩) hh_41.1 (fun q _ h => h) (fun q h => h) (fun u_43 t_43 H_43 locs_43 ht_43 hvm_43 hr_44 hb_43 hz_43 hk_43 hS_43 => ?_)
                  obtain ⟨qp_43, rfl⟩ : ∃ z, z = u_43 := ⟨_, rfl⟩
                  rw [ht_43] at hb_43
                  obtain ⟨hb_431, hb_432, hb_433, hb_434, hb_435⟩ := hb_43
                  have hh_43 : jSt (dC, dI) B base G0 G0 EX14_escape s.heap 0 0 [(r0, 16, 28, .int qp_43), (r0, 16, 29, .int qt_36), (r0, 16, 30, .int pe)] [] [] H_43 locs_43 := (hh_41.call hb_431 hb_432 hb_433 hb_434 hS_43 rfl (L1 := [(r0, 16, 29, .int qt_36), (r0, 16, 30, .int pe)]) [1, 2] rfl rfl (M1 := []) [] rfl rfl (I1 := []) [] rfl rfl).more hb_435
                  clear hh_41 ht_43 hvm_43 hz_43 hk_43 hS_43 hb_431 hb_432 hb_433 hb_434 hb_435
                  obtain ⟨hr_44_0, hr_44_1, hr_44_2⟩ := hr_44
                  rw [hQ]
                  obtain ⟨v_45, hv_45, hh_46⟩ := hh_43.pin (C := RX14) (T := TX14) (N := 74) hB16 rfl (by decide) hg_r0 (i := 31) (by decide) rfl
                  obtain ⟨bad_47, rfl, hzbad_47⟩ := hv_45
                  have hzbad_47' := jb_01 hzbad_47
                  exact W.vret hx hb hr (fun t ht hW => ⟨⟨(qt_36, qp_43, bad_47), rfl, by first | omega | (refine ⟨?_, ?_, ?_, ?_, ?_, ?_, ?_⟩ <;> (first | omega | rfl | assumption | decide | exact Or.inl rfl | exact Or.inr rfl | (simp only; omega))), hh_46.rt (M1 := [(r0, 16, 29, .int qt_36), (r0, 16, 28, .int qp_43), (r0, 16, 31, .int bad_47)]) [2, 1, 0] rfl ht⟩, by rw [ht]; try exact hh_46.1.1, fun q h9 hq => by rw [ht]; try exact hh_46.1.2.1 q h9 hq⟩) hh_46.1.2.2 dX14_escape_205
                · skip
                  have c_40' : r_39.toInt = 0 := jb_ne_n (rfl) ((by decide)) c_40
                  refine lv_aload_n hx hb dX14_escape_187 rfl (lv_at hl 3 rfl) ?_
                  refine lv_iconst (v := 1) hx hb dX14_escape_188 (by decide) ?_
                  refine j7_put hx hb hown hK hh_38 hB hAp hB16 (C := RX14) (T := TX14) (N := 74) rfl (by decide) hg_r0 (i := 31) (by decide) hly_16_31 rfl (hts (.fieldLink RX14 288 "ProofServerModel" "bad" "Z") (by decide +kernel)) rfl (ty := .boolean) (v := .int 1) (by decide +kernel) (jb_nz (Or.inr rfl)) (jb_fz (Or.inr rfl)) (⟨_, rfl, (Or.inr rfl)⟩) rfl (L1 := [(r0, 16, 29, .int qt_36), (r0, 16, 30, .int pe), (r0, 16, 28, .int pp)]) [0, 1, 2] rfl rfl rfl dX14_escape_189 (fun H_48 locs_48 hh_48 => ?_)
                  clear hh_38
                  rw [hQ]
                  exact W.vret hx hb hr (fun t ht hW => ⟨⟨(qt_36, pp, 1), rfl, by first | omega | (refine ⟨?_, ?_, ?_, ?_, ?_, ?_, ?_⟩ <;> (first | omega | rfl | assumption | decide | exact Or.inl rfl | exact Or.inr rfl | (simp only; omega))), hh_48.rt (M1 := [(r0, 16, 29, .int qt_36), (r0, 16, 28, .int pp), (r0, 16, 31, .int 1)]) [1, 3, 0] rfl ht⟩, by rw [ht]; try exact hh_48.1.1, fun q h9 hq => by rw [ht]; try exact hh_48.1.2.1 q h9 hq⟩) hh_48.1.2.2 dX14_escape_192
            · skip
              have c_20' : r_19.toInt = 0 := jb_ne_n (rfl) ((by decide)) c_20
              refine lv_aload_n hx hb dX14_escape_148 rfl (lv_at hl 2 rfl) ?_
              refine lv_iload hx hb dX14_escape_149 (lv_at hl 0 rfl) ?_
              refine va_callv (A0 := jA base) (H0 := s.heap) (va_runV (As := [.int r_12]) (rest := []) ⟨hx, hb, hml, hown, hts⟩ (uX14_unit l dC dI ca base B hB hAp hB16 hB127 G0 H_18 r0 r_12 pp) (cwV 1 hts gX14_escape_X14_unit rfl rfl rfl (by decide +kernel) ⟨by rw [← hR]; exact Nat.le_of_ble_eq_true rfl, by rw [← hR]; exact Nat.le_of_ble_eq_true rfl⟩) ⟨fun a U g mk q => by obtain ⟨q0, q1, q2, qK, q10, q11, q12⟩ := q; exact ⟨q0, q1, q2, jG.calling g mk a qK, q10, q11, q12⟩, hh_18.recv (C := RX14) (T := TX14) (N := 74) hB16 rfl (by decide) hg_r0 hK, fun U hU hW => ⟨rfl, hU, hh_18.2.1, hG.step hW hU hh_18.1, hg_r0, (hh_18.2.2.1.sub (L1 := [(r0, 16, 28, .int pp)]) [2] rfl), by first | omega | (refine ⟨?_, ?_⟩ <;> (first | omega | rfl | assumption | decide | exact Or.inl rfl | exact Or.inr rfl | (simp only; omega)))⟩⟩ rfl rfl hl.1 rfl (lv_room (Nat.le_of_ble_eq_true rfl)) dX14_escape_151 ⟨Nat.zero_le _, Nat.zero_le _⟩) hh_18.1 (fun q _ h => h) (fun q h => h) (fun u_49 t_49 H_49 locs_49 ht_49 hvm_49 hr_50 hb_49 hz_49 hk_49 hS_49 => ?_)
              obtain ⟨qp_49, rfl⟩ : ∃ z, z = u_49 := ⟨_, rfl⟩
              rw [ht_49] at hb_49
              obtain ⟨hb_491, hb_492, hb_493, hb_494, hb_495⟩ := hb_49
              have hh_49 : jSt (dC, dI) B base G0 G0 EX14_escape s.heap 0 0 [(r0, 16, 28, .int qp_49), (r0, 16, 29, .int qt_11), (r0, 16, 30, .int pe)] [] [] H_49 locs_49 := (hh_18.call hb_491 hb_492 hb_493 hb_494 hS_49 rfl (L1 := [(r0, 16, 29, .int qt_11), (r0, 16, 30, .int pe)]) [0, 1] rfl rfl (M1 := []) [] rfl rfl (I1 := []) [] rfl rfl).more hb_495
              clear hh_18 ht_49 hvm_49 hz_49 hk_49 hS_49 hb_491 hb_492 hb_493 hb_494 hb_495
              obtain ⟨hr_50_0, hr_50_1, hr_50_2⟩ := hr_50
              rw [hQ]
              obtain ⟨v_51, hv_51, hh_52⟩ := hh_49.pin (C := RX14) (T := TX14) (N := 74) hB16 rfl (by decide) hg_r0 (i := 31) (by decide) rfl
              obtain ⟨bad_53, rfl, hzbad_53⟩ := hv_51
              have hzbad_53' := jb_01 hzbad_53
              exact W.vret hx hb hr (fun t ht hW => ⟨⟨(qt_11, qp_49, bad_53), rfl, by first | omega | (refine ⟨?_, ?_, ?_, ?_, ?_, ?_, ?_⟩ <;> (first | omega | rfl | assumption | decide | exact Or.inl rfl | exact Or.inr rfl | (simp only; omega))), hh_52.rt (M1 := [(r0, 16, 29, .int qt_11), (r0, 16, 28, .int qp_49), (r0, 16, 31, .int bad_53)]) [2, 1, 0] rfl ht⟩, by rw [ht]; try exact hh_52.1.1, fun q h9 hq => by rw [ht]; try exact hh_52.1.2.1 q h9 hq⟩) hh_52.1.2.2 dX14_escape_154
          · skip
            have c_17' : r_16.toInt ≠ 0 := jb_eq_n (rfl) ((by decide)) c_17
            refine lv_aload_n hx hb dX14_escape_130 rfl (lv_at hl 2 rfl) ?_
            refine lv_iconst (v := 1) hx hb dX14_escape_131 (by decide) ?_
            refine j7_put hx hb hown hK hh_15 hB hAp hB16 (C := RX14) (T := TX14) (N := 74) rfl (by decide) hg_r0 (i := 31) (by decide) hly_16_31 rfl (hts (.fieldLink RX14 288 "ProofServerModel" "bad" "Z") (by decide +kernel)) rfl (ty := .boolean) (v := .int 1) (by decide +kernel) (jb_nz (Or.inr rfl)) (jb_fz (Or.inr rfl)) (⟨_, rfl, (Or.inr rfl)⟩) rfl (L1 := [(r0, 16, 29, .int qt_11), (r0, 16, 30, .int pe), (r0, 16, 28, .int pp)]) [0, 1, 2] rfl rfl rfl dX14_escape_132 (fun H_54 locs_54 hh_54 => ?_)
            clear hh_15
            rw [hQ]
            exact W.vret hx hb hr (fun t ht hW => ⟨⟨(qt_11, pp, 1), rfl, by first | omega | (refine ⟨?_, ?_, ?_, ?_, ?_, ?_, ?_⟩ <;> (first | omega | rfl | assumption | decide | exact Or.inl rfl | exact Or.inr rfl | (simp only; omega))), hh_54.rt (M1 := [(r0, 16, 29, .int qt_11), (r0, 16, 28, .int pp), (r0, 16, 31, .int 1)]) [1, 3, 0] rfl ht⟩, by rw [ht]; try exact hh_54.1.1, fun q h9 hq => by rw [ht]; try exact hh_54.1.2.1 q h9 hq⟩) hh_54.1.2.2 dX14_escape_135
    · skip
      have c_7' : w0_6.toInt ≥ 0 := jb_lt_n (rfl) ((by decide)) c_7
      refine lv_aload_n hx hb dX14_escape_37 rfl (lv_at hl 1 rfl) ?_
      refine lv_iload_n hx hb dX14_escape_38 rfl (lv_at hl 0 rfl) ?_
      refine lv_iconst (v := 3) hx hb dX14_escape_39 (by decide) ?_
      have C93 : ∀ (w0_55 : Int32) (H_55 : Heap) (locs_55 : List Loc), jSt (dC, dI) B base G0 G0 EX14_escape s.heap 0 0 [(r0, 16, 29, .int z_3), (r0, 16, 30, .int pe), (r0, 16, 28, .int pp), (r0, 16, 31, .int pb)] [] [] H_55 locs_55 → (w0_55.toInt ≤ 255) → ∀ ls : Array Slot, lv_has ls 6 [(0, .ref r0), (1, .int r_2), (2, .ref str_5), (3, .int w0_6)] → W p l e R s m ([.ref r0] : List Value).toArray below meth c H_55 locs_55 0 0 Q (F0 m 93 ls [.int w0_55, .ref r0]) := by
        intro w0_55 H_55 locs_55 hh_55  hi_55 ls hl
        refine va_callv (A0 := jA base) (H0 := s.heap) (va_runV (As := [.int w0_55]) (rest := []) ⟨hx, hb, hml, hown, hts⟩ (uX14_unit l dC dI ca base B hB hAp hB16 hB127 G0 H_55 r0 w0_55 pp) (cwV 1 hts gX14_escape_X14_unit rfl rfl rfl (by decide +kernel) ⟨by rw [← hR]; exact Nat.le_of_ble_eq_true rfl, by rw [← hR]; exact Nat.le_of_ble_eq_true rfl⟩) ⟨fun a U g mk q => by obtain ⟨q0, q1, q2, qK, q10, q11, q12⟩ := q; exact ⟨q0, q1, q2, jG.calling g mk a qK, q10, q11, q12⟩, hh_55.recv (C := RX14) (T := TX14) (N := 74) hB16 rfl (by decide) hg_r0 hK, fun U hU hW => ⟨rfl, hU, hh_55.2.1, hG.step hW hU hh_55.1, hg_r0, (hh_55.2.2.1.sub (L1 := [(r0, 16, 28, .int pp)]) [2] rfl), by first | omega | (refine ⟨?_, ?_⟩ <;> (first | omega | rfl | assumption | decide | exact Or.inl rfl | exact Or.inr rfl | (simp only; omega)))⟩⟩ rfl rfl hl.1 rfl (lv_room (Nat.le_of_ble_eq_true rfl)) dX14_escape_93 ⟨Nat.zero_le _, Nat.zero_le _⟩) hh_55.1 (fun q _ h => h) (fun q h => h) (fun u_56 t_56 H_56 locs_56 ht_56 hvm_56 hr_57 hb_56 hz_56 hk_56 hS_56 => ?_)
        obtain ⟨qp_56, rfl⟩ : ∃ z, z = u_56 := ⟨_, rfl⟩
        rw [ht_56] at hb_56
        obtain ⟨hb_561, hb_562, hb_563, hb_564, hb_565⟩ := hb_56
        have hh_56 : jSt (dC, dI) B base G0 G0 EX14_escape s.heap 0 0 [(r0, 16, 28, .int qp_56), (r0, 16, 29, .int z_3), (r0, 16, 30, .int pe), (r0, 16, 31, .int pb)] [] [] H_56 locs_56 := (hh_55.call hb_561 hb_562 hb_563 hb_564 hS_56 rfl (L1 := [(r0, 16, 29, .int z_3), (r0, 16, 30, .int pe), (r0, 16, 31, .int pb)]) [0, 1, 3] rfl rfl (M1 := []) [] rfl rfl (I1 := []) [] rfl rfl).more hb_565
        clear hh_55 ht_56 hvm_56 hz_56 hk_56 hS_56 hb_561 hb_562 hb_563 hb_564 hb_565
        obtain ⟨hr_57_0, hr_57_1, hr_57_2⟩ := hr_57
        rw [hQ]
        exact W.vret hx hb hr (fun t ht hW => ⟨⟨(z_3, qp_56, pb), rfl, by first | omega | (refine ⟨?_, ?_, ?_, ?_, ?_, ?_, ?_⟩ <;> (first | omega | rfl | assumption | decide | exact Or.inl rfl | exact Or.inr rfl | (simp only; omega))), hh_56.rt (M1 := [(r0, 16, 29, .int z_3), (r0, 16, 28, .int qp_56), (r0, 16, 31, .int pb)]) [1, 0, 3] rfl ht⟩, by rw [ht]; try exact hh_56.1.1, fun q h9 hq => by rw [ht]; try exact hh_56.1.2.1 q h9 hq⟩) hh_56.1.2.2 dX14_escape_96
      refine lv_icmp_ge (tgt := 47) hx hb dX14_escape_40 (by decide) (fun c_58 => ?_) (fun c_58 => ?_)
      · skip
        have c_58' : w0_6.toInt ≥ 3 := jb_ge (rfl) ((by decide)) c_58
        refine lv_iload_n hx hb dX14_escape_47 rfl (lv_at hl 2 rfl) ?_
        refine lv_bipush (v := 98) hx hb dX14_escape_48 (by decide) ?_
        refine lv_icmp_ne (tgt := 58) hx hb dX14_escape_50 (by decide) (fun c_59 => ?_) (fun c_59 => ?_)
        · skip
          have c_59' : r_2.toInt ≠ 98 := jb_ne (rfl) ((by decide)) c_59
          refine lv_iload_n hx hb dX14_escape_58 rfl (lv_at hl 2 rfl) ?_
          refine lv_bipush (v := 102) hx hb dX14_escape_59 (by decide) ?_
          refine lv_icmp_ne (tgt := 69) hx hb dX14_escape_61 (by decide) (fun c_60 => ?_) (fun c_60 => ?_)
          · skip
            have c_60' : r_2.toInt ≠ 102 := jb_ne (rfl) ((by decide)) c_60
            refine lv_iload_n hx hb dX14_escape_69 rfl (lv_at hl 2 rfl) ?_
            refine lv_bipush (v := 110) hx hb dX14_escape_70 (by decide) ?_
            refine lv_icmp_ne (tgt := 80) hx hb dX14_escape_72 (by decide) (fun c_61 => ?_) (fun c_61 => ?_)
            · skip
              have c_61' : r_2.toInt ≠ 110 := jb_ne (rfl) ((by decide)) c_61
              refine lv_iload_n hx hb dX14_escape_80 rfl (lv_at hl 2 rfl) ?_
              refine lv_bipush (v := 114) hx hb dX14_escape_81 (by decide) ?_
              refine lv_icmp_ne (tgt := 91) hx hb dX14_escape_83 (by decide) (fun c_62 => ?_) (fun c_62 => ?_)
              · skip
                have c_62' : r_2.toInt ≠ 114 := jb_ne (rfl) ((by decide)) c_62
                refine lv_bipush (v := 9) hx hb dX14_escape_91 (by decide) ?_
                exact C93 9 _ _ hh_6 (by first | omega | rfl | assumption | decide | exact Or.inl rfl | exact Or.inr rfl | (simp only; omega)) _ (lv_sub hl [1, 2, 3, 0] rfl)
              · skip
                have c_62' : r_2.toInt = 114 := jb_ne_n (rfl) ((by decide)) c_62
                refine lv_bipush (v := 13) hx hb dX14_escape_86 (by decide) ?_
                refine lv_goto (tgt := 93) hx hb dX14_escape_88 (by decide) ?_
                exact C93 13 _ _ hh_6 (by first | omega | rfl | assumption | decide | exact Or.inl rfl | exact Or.inr rfl | (simp only; omega)) _ (lv_sub hl [1, 2, 3, 0] rfl)
            · skip
              have c_61' : r_2.toInt = 110 := jb_ne_n (rfl) ((by decide)) c_61
              refine lv_bipush (v := 10) hx hb dX14_escape_75 (by decide) ?_
              refine lv_goto (tgt := 93) hx hb dX14_escape_77 (by decide) ?_
              exact C93 10 _ _ hh_6 (by first | omega | rfl | assumption | decide | exact Or.inl rfl | exact Or.inr rfl | (simp only; omega)) _ (lv_sub hl [1, 2, 3, 0] rfl)
          · skip
            have c_60' : r_2.toInt = 102 := jb_ne_n (rfl) ((by decide)) c_60
            refine lv_bipush (v := 12) hx hb dX14_escape_64 (by decide) ?_
            refine lv_goto (tgt := 93) hx hb dX14_escape_66 (by decide) ?_
            exact C93 12 _ _ hh_6 (by first | omega | rfl | assumption | decide | exact Or.inl rfl | exact Or.inr rfl | (simp only; omega)) _ (lv_sub hl [1, 2, 3, 0] rfl)
        · skip
          have c_59' : r_2.toInt = 98 := jb_ne_n (rfl) ((by decide)) c_59
          refine lv_bipush (v := 8) hx hb dX14_escape_53 (by decide) ?_
          refine lv_goto (tgt := 93) hx hb dX14_escape_55 (by decide) ?_
          exact C93 8 _ _ hh_6 (by first | omega | rfl | assumption | decide | exact Or.inl rfl | exact Or.inr rfl | (simp only; omega)) _ (lv_sub hl [1, 2, 3, 0] rfl)
      · skip
        have c_58' : w0_6.toInt < 3 := jb_ge_n (rfl) ((by decide)) c_58
        refine lv_iload_n hx hb dX14_escape_43 rfl (lv_at hl 2 rfl) ?_
        refine lv_goto (tgt := 93) hx hb dX14_escape_44 (by decide) ?_
        exact C93 r_2 _ _ hh_6 (by first | omega | rfl | assumption | decide | exact Or.inl rfl | exact Or.inr rfl | (simp only; omega)) _ (lv_sub hl [1, 2, 3, 0] rfl)
  refine lv_if_ge (tgt := 27) hx hb dX14_escape_20 (by decide) (fun c_63 => ?_) (fun c_63 => ?_)
  · skip
    have c_63' : r_2.toInt ≥ 0 := jb_ge (rfl) ((by decide)) c_63
    first | replace hr_2_2 := hr_2_2.resolve_left (by omega) | replace hr_2_2 := hr_2_2.resolve_right (by omega) | skip
    refine lv_aload_n hx hb dX14_escape_27 rfl (lv_at hl 0 rfl) ?_
    refine lv_iload_n hx hb dX14_escape_28 rfl (lv_at hl 1 rfl) ?_
    refine vp_callSi (W.runV (As := [.int r_2]) (rest := []) ⟨hx, hb, hml, hown, hts⟩ (kJ0_indexOf_0f7a4 l dC dI ca base H_4 str_5 8 r_2) (cwV 1 hts gX14_escape_J0_indexOf_0f7a4 rfl rfl rfl (by decide +kernel) ⟨by rw [← hR]; exact Nat.le_of_ble_eq_true rfl, by rw [← hR]; exact Nat.le_of_ble_eq_true rfl⟩) ⟨fun a U g mk q => by obtain ⟨q0, q1, q2, qK, q9⟩ := q; exact ⟨q0, q1, (q2.moved (Vm.Alike.refl U.vm)), jG.calling g mk a qK, q9⟩, jStr_recv hstr_5 hh_4.1, fun U hU hW => ⟨rfl, hU, (hstr_5.moved hW.alike).kept hh_4.1.2.1, hG.step hW hU hh_4.1, by omega⟩⟩ rfl rfl hl.1 rfl (lv_room (Nat.le_of_ble_eq_true rfl)) dX14_escape_29 ⟨Nat.zero_le _, Nat.zero_le _⟩) (fun r_64 hr_64 => ?_)
    exact C32 r_64 _ _ hh_4 (by first | omega | (refine ⟨?_, ?_⟩ <;> (first | omega | rfl | assumption | decide | exact Or.inl rfl | exact Or.inr rfl | (simp only; omega)))) _ (lv_sub hl [2, 1, 0] rfl)
  · skip
    have c_63' : r_2.toInt < 0 := jb_ge_n (rfl) ((by decide)) c_63
    first | replace hr_2_2 := hr_2_2.resolve_left (by omega) | replace hr_2_2 := hr_2_2.resolve_right (by omega) | skip
    refine lv_iconst (v := (-1)) hx hb dX14_escape_23 (by decide) ?_
    refine lv_goto (tgt := 32) hx hb dX14_escape_24 (by decide) ?_
    exact C32 (-1) _ _ hh_4 (by first | omega | (refine ⟨?_, ?_⟩ <;> (first | omega | rfl | assumption | decide | exact Or.inl rfl | exact Or.inr rfl | (simp only; omega)))) _ (lv_sub hl [2, 1, 0] rfl)
set_option maxHeartbeats 4000000 in
set_option maxRecDepth 20000 in
theorem uX14_readString (l : Launch) (dC : Nat → ClassId) (dI : Nat → Nat → Nat) (ca : Nat → ClassId) (base : Nat) (B : jF) (hB : jBok B) (hAp : jAp (dC, dI)) (hB16 : ∀ n G a H, B 16 n G a H ↔ jOb (dC, dI) 16 74 (F16 n G) a H) (hB110 : ∀ n G a H, B 110 n G a H ↔ jAr (dC, dI) (ca 1) (fun j z => 0 ≤ z.toInt ∧ z.toInt ≤ 255) n a H) (hB127 : ∀ n G a H, B 127 n G a H ↔ jAr (dC, dI) (ca 1) (fun j z => True) n a H) (G0 : jT) (H0 : Heap) (r0 : Nat) (pt : Int32) (pe : Int32) (pp : Int32) (pb : Int32) : Met l yX14_readString wsX14_readString ({ frames := 6, cells := 0, slots := 0, locals := 206 }) (va_Pc [.ref r0] (fun U => U.heap = H0 ∧ jX B base G0 [] H0 ∧ jG dC dI ca base U ∧ G0 r0 = some (16, 0) ∧ jP (dC, dI) G0 H0 [(r0, 16, 29, .int pt), (r0, 16, 30, .int pe), (r0, 16, 28, .int pp), (r0, 16, 31, .int pb)] ∧ 0 ≤ pt.toInt ∧ pt.toInt ≤ 90000 ∧ 0 ≤ pe.toInt ∧ pe.toInt ≤ 3000 ∧ pt.toInt < pe.toInt ∧ 0 ≤ pp.toInt ∧ pp.toInt ≤ pt.toInt ∧ pb.toInt = 0)) (va_Qv (S := Int32 × Int32 × Int32 × Int32) (fun u => 0 ≤ u.2.2.1.toInt ∧ u.2.2.1.toInt ≤ 1 ∧ pt.toInt + 1 ≤ u.1.toInt ∧ pp.toInt ≤ u.2.1.toInt ∧ u.2.1.toInt ≤ u.1.toInt ∧ u.2.2.2.toInt = pp.toInt ∧ u.1.toInt ≤ pe.toInt + 2 * u.2.2.1.toInt) (fun u t => jRt (dC, dI) B base G0 EX14_readString H0 [(r0, 16, 29, .int u.1), (r0, 16, 28, .int u.2.1), (r0, 16, 31, .int u.2.2.1), (r0, 16, 32, .int u.2.2.2)] t.heap) (jA base)) 0 0 (jA base) := by
  refine Met.ofW (cc := cX14_readString) (maxL := 4) (ret := none) (by decide) rfl ?_
  intro p e s m args below meth c s₁ Bd hml hv
  obtain ⟨rfl, hH0, hX, hG, hg_r0, hP0, hp0, hp1, hp2, hp3, hp4, hp5, hp6, hp7⟩ := hv
  have hK := hG.1
  have hx := Bd.exec
  have hb := Bd.bytes
  have hr := Bd.returns
  have hts := atoms_spec (ws := wsX14_readString) Bd.pre
  have hown : s.vm.findClass RX14 = some m.cls := findClass_of_methodNamed Bd.named
  have hlocks := Bd.notSynchronized
  obtain ⟨Q, hQ⟩ : ∃ Q, Q = MQ below (va_Qv (S := Int32 × Int32 × Int32 × Int32) (fun u => 0 ≤ u.2.2.1.toInt ∧ u.2.2.1.toInt ≤ 1 ∧ pt.toInt + 1 ≤ u.1.toInt ∧ pp.toInt ≤ u.2.1.toInt ∧ u.2.1.toInt ≤ u.1.toInt ∧ u.2.2.2.toInt = pp.toInt ∧ u.1.toInt ≤ pe.toInt + 2 * u.2.2.1.toInt) (fun u t => jRt (dC, dI) B base G0 EX14_readString H0 [(r0, 16, 29, .int u.1), (r0, 16, 28, .int u.2.1), (r0, 16, 31, .int u.2.2.1), (r0, 16, 32, .int u.2.2.2)] t.heap) (jA base)) ([.ref r0] : List Value).toArray s 0 0 (jA base) := ⟨_, rfl⟩
  rw [← hQ]
  have hl := lv_entry ([.ref r0]) (n := 4) (Nat.le_of_ble_eq_true rfl)
  rw [lg_entry_eq]
  generalize (lg_sl ([.ref r0]) ++ List.replicate (4 - (lg_sl ([.ref r0])).length) Slot.unset).toArray = ls at hl ⊢
  have hl : lv_has ls 4 [(0, .ref r0)] := hl
  generalize hR : (headSpec wsX14_readString ({ frames := 6, cells := 0, slots := 0, locals := 206 })).room = R
  subst hH0
  have hh : jSt (dC, dI) B base G0 G0 EX14_readString s.heap 0 0 [(r0, 16, 29, .int pt), (r0, 16, 30, .int pe), (r0, 16, 28, .int pp), (r0, 16, 31, .int pb)] [] [] s.heap [] := jSt.start hX hP0 jMc.nil jIs.nil
  clear hX hP0
  have hk0 : (0 : Int32).toInt = 0 := by decide
  have hk1 : (1 : Int32).toInt = 1 := by decide
  have hk32 : (32 : Int32).toInt = 32 := by decide
  have hk34 : (34 : Int32).toInt = 34 := by decide
  have hk92 : (92 : Int32).toInt = 92 := by decide
  have hly_16_9 := hts (u_lay RX14 TX14 9) (by decide +kernel)
  have hly_16_28 := hts (u_lay RX14 TX14 28) (by decide +kernel)
  have hly_16_29 := hts (u_lay RX14 TX14 29) (by decide +kernel)
  have hly_16_30 := hts (u_lay RX14 TX14 30) (by decide +kernel)
  have hly_16_31 := hts (u_lay RX14 TX14 31) (by decide +kernel)
  have hly_16_32 := hts (u_lay RX14 TX14 32) (by decide +kernel)
  have hly_16_33 := hts (u_lay RX14 TX14 33) (by decide +kernel)
  refine lv_aload_n hx hb dX14_readString_0 rfl (lv_at hl 0 rfl) ?_
  refine lv_dup hx hb dX14_readString_1 rfl ?_
  refine j7_read hx hb hown hK (C := RX14) (T := TX14) (N := 74) rfl hly_16_29 (hts (.fieldLink RX14 273 "ProofServerModel" "at" "I") (by decide +kernel)) (hh.at 0 rfl) dX14_readString_2 ?_
  refine lv_iconst (v := 1) hx hb dX14_readString_5 (by decide) ?_
  refine lv_iadd hx hb dX14_readString_6 ?_
  refine lv_topi (fun z_1 ez_1 => ?_)
  have hz_1 : z_1.toInt = pt.toInt + 1 := by rw [ez_1]; exact jb_iadd2 (rfl) ((by decide)) (by omega)
  refine j7_put hx hb hown hK hh hB hAp hB16 (C := RX14) (T := TX14) (N := 74) rfl (by decide) hg_r0 (i := 29) (by decide) hly_16_29 rfl (hts (.fieldLink RX14 273 "ProofServerModel" "at" "I") (by decide +kernel)) rfl (ty := .int) (v := .int z_1) (by decide +kernel) rfl rfl (⟨_, rfl, by omega, by omega⟩) rfl (L1 := [(r0, 16, 30, .int pe), (r0, 16, 28, .int pp), (r0, 16, 31, .int pb)]) [1, 2, 3] rfl rfl rfl dX14_readString_7 (fun H_2 locs_2 hh_2 => ?_)
  clear hh
  refine lv_aload_n hx hb dX14_readString_10 rfl (lv_at hl 0 rfl) ?_
  refine j7_read hx hb hown hK (C := RX14) (T := TX14) (N := 74) rfl hly_16_28 (hts (.fieldLink RX14 304 "ProofServerModel" "pooled" "I") (by decide +kernel)) (hh_2.at 2 rfl) dX14_readString_11 ?_
  refine lv_istore_n (lv' := [(1, .int pp), (0, .ref r0)]) hx hb dX14_readString_14 rfl hl (by decide) rfl (fun ls hl => ?_)
  have L15 : ∀ (N : Nat) (wt_3 : Int32) (wp_3 : Int32) (wb_3 : Int32) (H_3 : Heap) (locs_3 : List Loc), jSt (dC, dI) B base G0 G0 EX14_readString s.heap 0 0 [(r0, 16, 29, .int wt_3), (r0, 16, 28, .int wp_3), (r0, 16, 31, .int wb_3), (r0, 16, 30, .int pe)] [] [] H_3 locs_3 → (pt.toInt + 1 ≤ wt_3.toInt ∧ pp.toInt ≤ wp_3.toInt ∧ wp_3.toInt ≤ wt_3.toInt ∧ 0 ≤ wb_3.toInt ∧ wb_3.toInt ≤ 1 ∧ wt_3.toInt ≤ pe.toInt + wb_3.toInt) → (((pe.toInt - wt_3.toInt).toNat : Int) + (1 - wb_3.toInt) : Int) < N → ∀ ls : Array Slot, lv_has ls 4 [(0, .ref r0), (1, .int pp)] → W p l e R s m ([.ref r0] : List Value).toArray below meth c H_3 locs_3 0 0 Q (F0 m 15 ls []) := by
    intro N
    induction N with
    | zero => intro wt_3 wp_3 wb_3 H_3 locs_3 hh_3  hi_3 hm; exact absurd hm (by omega)
    | succ N L15 =>
      intro wt_3 wp_3 wb_3 H_3 locs_3 hh_3  hi_3 hm_3 ls hl
      obtain ⟨hi_3_0, hi_3_1, hi_3_2, hi_3_3, hi_3_4, hi_3_5⟩ := hi_3
      refine lv_aload_n hx hb dX14_readString_15 rfl (lv_at hl 0 rfl) ?_
      refine j7_read hx hb hown hK (C := RX14) (T := TX14) (N := 74) rfl hly_16_31 (hts (.fieldLink RX14 288 "ProofServerModel" "bad" "Z") (by decide +kernel)) (hh_3.at 2 rfl) dX14_readString_16 ?_
      refine lv_if_ne (tgt := 123) hx hb dX14_readString_19 (by decide) (fun c_4 => ?_) (fun c_4 => ?_)
      · skip
        have c_4' : wb_3.toInt ≠ 0 := jb_ne (rfl) ((by decide)) c_4
        refine lv_aload_n hx hb dX14_readString_123 rfl (lv_at hl 0 rfl) ?_
        refine lv_dup hx hb dX14_readString_124 rfl ?_
        refine j7_read hx hb hown hK (C := RX14) (T := TX14) (N := 74) rfl hly_16_29 (hts (.fieldLink RX14 273 "ProofServerModel" "at" "I") (by decide +kernel)) (hh_3.at 0 rfl) dX14_readString_125 ?_
        refine lv_iconst (v := 1) hx hb dX14_readString_128 (by decide) ?_
        refine lv_iadd hx hb dX14_readString_129 ?_
        refine lv_topi (fun z_5 ez_5 => ?_)
        have hz_5 : z_5.toInt = wt_3.toInt + 1 := by rw [ez_5]; exact jb_iadd2 (rfl) ((by decide)) (by omega)
        refine j7_put hx hb hown hK hh_3 hB hAp hB16 (C := RX14) (T := TX14) (N := 74) rfl (by decide) hg_r0 (i := 29) (by decide) hly_16_29 rfl (hts (.fieldLink RX14 273 "ProofServerModel" "at" "I") (by decide +kernel)) rfl (ty := .int) (v := .int z_5) (by decide +kernel) rfl rfl (⟨_, rfl, by omega, by omega⟩) rfl (L1 := [(r0, 16, 28, .int wp_3), (r0, 16, 31, .int wb_3), (r0, 16, 30, .int pe)]) [1, 2, 3] rfl rfl rfl dX14_readString_130 (fun H_6 locs_6 hh_6 => ?_)
        clear hh_3
        refine lv_aload_n hx hb dX14_readString_133 rfl (lv_at hl 0 rfl) ?_
        refine lv_iload_n hx hb dX14_readString_134 rfl (lv_at hl 1 rfl) ?_
        refine j7_put hx hb hown hK hh_6 hB hAp hB16 (C := RX14) (T := TX14) (N := 74) rfl (by decide) hg_r0 (i := 32) (by decide) hly_16_32 rfl (hts (.fieldLink RX14 301 "ProofServerModel" "stringFrom" "I") (by decide +kernel)) rfl (ty := .int) (v := .int pp) (by decide +kernel) rfl rfl (⟨_, rfl, by omega, by omega⟩) rfl (L1 := [(r0, 16, 29, .int z_5), (r0, 16, 28, .int wp_3), (r0, 16, 31, .int wb_3), (r0, 16, 30, .int pe)]) [0, 1, 2, 3] rfl rfl rfl dX14_readString_135 (fun H_7 locs_7 hh_7 => ?_)
        clear hh_6
        rw [hQ]
        exact W.vret hx hb hr (fun t ht hW => ⟨⟨(z_5, wp_3, wb_3, pp), rfl, by first | omega | (refine ⟨?_, ?_, ?_, ?_, ?_, ?_, ?_⟩ <;> (first | omega | rfl | assumption | decide | exact Or.inl rfl | exact Or.inr rfl | (simp only; omega))), hh_7.rt (M1 := [(r0, 16, 29, .int z_5), (r0, 16, 28, .int wp_3), (r0, 16, 31, .int wb_3), (r0, 16, 32, .int pp)]) [1, 2, 3, 0] rfl ht⟩, by rw [ht]; try exact hh_7.1.1, fun q h9 hq => by rw [ht]; try exact hh_7.1.2.1 q h9 hq⟩) hh_7.1.2.2 dX14_readString_138
      · skip
        have c_4' : wb_3.toInt = 0 := jb_ne_n (rfl) ((by decide)) c_4
        refine lv_aload_n hx hb dX14_readString_22 rfl (lv_at hl 0 rfl) ?_
        refine va_calli (A0 := jA base) (H0 := s.heap) (va_runV (As := []) (rest := []) ⟨hx, hb, hml, hown, hts⟩ (uX14_here l dC dI ca base B hB hAp hB16 hB110 G0 H_3 r0 wt_3 pe) (cwV 0 hts gX14_readString_X14_here rfl rfl rfl (by decide +kernel) ⟨by rw [← hR]; exact Nat.le_of_ble_eq_true rfl, by rw [← hR]; exact Nat.le_of_ble_eq_true rfl⟩) ⟨fun a U g mk q => by obtain ⟨q0, q1, q2, qK, q10, q11, q12⟩ := q; exact ⟨q0, q1, q2, jG.calling g mk a qK, q10, q11, q12⟩, hh_3.recv (C := RX14) (T := TX14) (N := 74) hB16 rfl (by decide) hg_r0 hK, fun U hU hW => ⟨rfl, hU, hh_3.2.1, hG.step hW hU hh_3.1, hg_r0, (hh_3.2.2.1.sub (L1 := [(r0, 16, 29, .int wt_3), (r0, 16, 30, .int pe)]) [0, 3] rfl), by first | omega | (refine ⟨?_, ?_, ?_, ?_⟩ <;> (first | omega | rfl | assumption | decide | exact Or.inl rfl | exact Or.inr rfl | (simp only; omega)))⟩⟩ rfl rfl hl.1 rfl (lv_room (Nat.le_of_ble_eq_true rfl)) dX14_readString_23 ⟨Nat.zero_le _, Nat.zero_le _⟩) hh_3.1 (fun q _ h => h) (fun q h => h) (fun r_9 u_8 t_8 H_8 locs_8 ht_8 hvm_8 hr_9 hb_8 hz_8 hk_8 hS_8 => ?_)
        rw [ht_8] at hb_8
        obtain ⟨hb_81, hb_82, hb_83, hb_84, hb_85⟩ := hb_8
        have hh_8 : jSt (dC, dI) B base G0 G0 EX14_readString s.heap 0 0 [(r0, 16, 29, .int wt_3), (r0, 16, 28, .int wp_3), (r0, 16, 31, .int wb_3), (r0, 16, 30, .int pe)] [] [] H_8 locs_8 := (hh_3.call hb_81 hb_82 hb_83 hb_84 hS_8 rfl (L1 := [(r0, 16, 29, .int wt_3), (r0, 16, 28, .int wp_3), (r0, 16, 31, .int wb_3), (r0, 16, 30, .int pe)]) [0, 1, 2, 3] rfl rfl (M1 := []) [] rfl rfl (I1 := []) [] rfl rfl).more hb_85
        clear hh_3 ht_8 hvm_8 hz_8 hk_8 hS_8 hb_81 hb_82 hb_83 hb_84 hb_85
        obtain ⟨hr_9_0, hr_9_1, hr_9_2⟩ := hr_9
        refine lv_bipush (v := 34) hx hb dX14_readString_26 (by decide) ?_
        refine lv_icmp_eq (tgt := 123) hx hb dX14_readString_28 (by decide) (fun c_10 => ?_) (fun c_10 => ?_)
        · skip
          have c_10' : r_9.toInt = 34 := jb_eq (rfl) ((by decide)) c_10
          first | replace hr_9_2 := hr_9_2.resolve_left (by omega) | replace hr_9_2 := hr_9_2.resolve_right (by omega) | skip
          refine lv_aload_n hx hb dX14_readString_123 rfl (lv_at hl 0 rfl) ?_
          refine lv_dup hx hb dX14_readString_124 rfl ?_
          refine j7_read hx hb hown hK (C := RX14) (T := TX14) (N := 74) rfl hly_16_29 (hts (.fieldLink RX14 273 "ProofServerModel" "at" "I") (by decide +kernel)) (hh_8.at 0 rfl) dX14_readString_125 ?_
          refine lv_iconst (v := 1) hx hb dX14_readString_128 (by decide) ?_
          refine lv_iadd hx hb dX14_readString_129 ?_
          refine lv_topi (fun z_11 ez_11 => ?_)
          have hz_11 : z_11.toInt = wt_3.toInt + 1 := by rw [ez_11]; exact jb_iadd2 (rfl) ((by decide)) (by omega)
          refine j7_put hx hb hown hK hh_8 hB hAp hB16 (C := RX14) (T := TX14) (N := 74) rfl (by decide) hg_r0 (i := 29) (by decide) hly_16_29 rfl (hts (.fieldLink RX14 273 "ProofServerModel" "at" "I") (by decide +kernel)) rfl (ty := .int) (v := .int z_11) (by decide +kernel) rfl rfl (⟨_, rfl, by omega, by omega⟩) rfl (L1 := [(r0, 16, 28, .int wp_3), (r0, 16, 31, .int wb_3), (r0, 16, 30, .int pe)]) [1, 2, 3] rfl rfl rfl dX14_readString_130 (fun H_12 locs_12 hh_12 => ?_)
          clear hh_8
          refine lv_aload_n hx hb dX14_readString_133 rfl (lv_at hl 0 rfl) ?_
          refine lv_iload_n hx hb dX14_readString_134 rfl (lv_at hl 1 rfl) ?_
          refine j7_put hx hb hown hK hh_12 hB hAp hB16 (C := RX14) (T := TX14) (N := 74) rfl (by decide) hg_r0 (i := 32) (by decide) hly_16_32 rfl (hts (.fieldLink RX14 301 "ProofServerModel" "stringFrom" "I") (by decide +kernel)) rfl (ty := .int) (v := .int pp) (by decide +kernel) rfl rfl (⟨_, rfl, by omega, by omega⟩) rfl (L1 := [(r0, 16, 29, .int z_11), (r0, 16, 28, .int wp_3), (r0, 16, 31, .int wb_3), (r0, 16, 30, .int pe)]) [0, 1, 2, 3] rfl rfl rfl dX14_readString_135 (fun H_13 locs_13 hh_13 => ?_)
          clear hh_12
          rw [hQ]
          exact W.vret hx hb hr (fun t ht hW => ⟨⟨(z_11, wp_3, wb_3, pp), rfl, by first | omega | (refine ⟨?_, ?_, ?_, ?_, ?_, ?_, ?_⟩ <;> (first | omega | rfl | assumption | decide | exact Or.inl rfl | exact Or.inr rfl | (simp only; omega))), hh_13.rt (M1 := [(r0, 16, 29, .int z_11), (r0, 16, 28, .int wp_3), (r0, 16, 31, .int wb_3), (r0, 16, 32, .int pp)]) [1, 2, 3, 0] rfl ht⟩, by rw [ht]; try exact hh_13.1.1, fun q h9 hq => by rw [ht]; try exact hh_13.1.2.1 q h9 hq⟩) hh_13.1.2.2 dX14_readString_138
        · skip
          have c_10' : r_9.toInt ≠ 34 := jb_eq_n (rfl) ((by decide)) c_10
          first | replace hr_9_2 := hr_9_2.resolve_left (by omega) | replace hr_9_2 := hr_9_2.resolve_right (by omega) | skip
          refine lv_aload_n hx hb dX14_readString_31 rfl (lv_at hl 0 rfl) ?_
          refine va_calli (A0 := jA base) (H0 := s.heap) (va_runV (As := []) (rest := []) ⟨hx, hb, hml, hown, hts⟩ (uX14_here l dC dI ca base B hB hAp hB16 hB110 G0 H_8 r0 wt_3 pe) (cwV 0 hts gX14_readString_X14_here rfl rfl rfl (by decide +kernel) ⟨by rw [← hR]; exact Nat.le_of_ble_eq_true rfl, by rw [← hR]; exact Nat.le_of_ble_eq_true rfl⟩) ⟨fun a U g mk q => by obtain ⟨q0, q1, q2, qK, q10, q11, q12⟩ := q; exact ⟨q0, q1, q2, jG.calling g mk a qK, q10, q11, q12⟩, hh_8.recv (C := RX14) (T := TX14) (N := 74) hB16 rfl (by decide) hg_r0 hK, fun U hU hW => ⟨rfl, hU, hh_8.2.1, hG.step hW hU hh_8.1, hg_r0, (hh_8.2.2.1.sub (L1 := [(r0, 16, 29, .int wt_3), (r0, 16, 30, .int pe)]) [0, 3] rfl), by first | omega | (refine ⟨?_, ?_, ?_, ?_⟩ <;> (first | omega | rfl | assumption | decide | exact Or.inl rfl | exact Or.inr rfl | (simp only; omega)))⟩⟩ rfl rfl hl.1 rfl (lv_room (Nat.le_of_ble_eq_true rfl)) dX14_readString_32 ⟨Nat.zero_le _, Nat.zero_le _⟩) hh_8.1 (fun q _ h => h) (fun q h => h) (fun r_15 u_14 t_14 H_14 locs_14 ht_14 hvm_14 hr_15 hb_14 hz_14 hk_14 hS_14 => ?_)
          rw [ht_14] at hb_14
          obtain ⟨hb_141, hb_142, hb_143, hb_144, hb_145⟩ := hb_14
          have hh_14 : jSt (dC, dI) B base G0 G0 EX14_readString s.heap 0 0 [(r0, 16, 29, .int wt_3), (r0, 16, 28, .int wp_3), (r0, 16, 31, .int wb_3), (r0, 16, 30, .int pe)] [] [] H_14 locs_14 := (hh_8.call hb_141 hb_142 hb_143 hb_144 hS_14 rfl (L1 := [(r0, 16, 29, .int wt_3), (r0, 16, 28, .int wp_3), (r0, 16, 31, .int wb_3), (r0, 16, 30, .int pe)]) [0, 1, 2, 3] rfl rfl (M1 := []) [] rfl rfl (I1 := []) [] rfl rfl).more hb_145
          clear hh_8 ht_14 hvm_14 hz_14 hk_14 hS_14 hb_141 hb_142 hb_143 hb_144 hb_145
          obtain ⟨hr_15_0, hr_15_1, hr_15_2⟩ := hr_15
          refine lv_istore_n (lv' := [(2, .int r_15), (0, .ref r0), (1, .int pp)]) hx hb dX14_readString_35 rfl hl (by decide) rfl (fun ls hl => ?_)
          refine lv_iload_n hx hb dX14_readString_36 rfl (lv_at hl 0 rfl) ?_
          refine lv_bipush (v := 32) hx hb dX14_readString_37 (by decide) ?_
          refine lv_icmp_ge (tgt := 50) hx hb dX14_readString_39 (by decide) (fun c_16 => ?_) (fun c_16 => ?_)
          · skip
            have c_16' : r_15.toInt ≥ 32 := jb_ge (rfl) ((by decide)) c_16
            first | replace hr_15_2 := hr_15_2.resolve_left (by omega) | replace hr_15_2 := hr_15_2.resolve_right (by omega) | skip
            refine lv_iload_n hx hb dX14_readString_50 rfl (lv_at hl 0 rfl) ?_
            refine lv_bipush (v := 92) hx hb dX14_readString_51 (by decide) ?_
            refine lv_icmp_ne (tgt := 73) hx hb dX14_readString_53 (by decide) (fun c_17 => ?_) (fun c_17 => ?_)
            · skip
              have c_17' : r_15.toInt ≠ 92 := jb_ne (rfl) ((by decide)) c_17
              first | replace hr_15_2 := hr_15_2.resolve_left (by omega) | replace hr_15_2 := hr_15_2.resolve_right (by omega) | skip
              refine lv_aload_n hx hb dX14_readString_73 rfl (lv_at hl 1 rfl) ?_
              refine lv_aload_n hx hb dX14_readString_74 rfl (lv_at hl 1 rfl) ?_
              obtain ⟨v_18, hv_18, hh_19⟩ := hh_14.pin (C := RX14) (T := TX14) (N := 74) hB16 rfl (by decide) hg_r0 (i := 9) (by decide) rfl
              clear hh_14
              obtain ⟨kept_20, rfl, hg_kept_20⟩ := hv_18
              refine j7_read hx hb hown hK (C := RX14) (T := TX14) (N := 74) rfl hly_16_9 (hts (.fieldLink RX14 20 "ProofServerModel" "kept" "[I") (by decide +kernel)) (hh_19.at 0 rfl) dX14_readString_75 ?_
              refine lv_aload_n hx hb dX14_readString_78 rfl (lv_at hl 1 rfl) ?_
              refine j7_read hx hb hown hK (C := RX14) (T := TX14) (N := 74) rfl hly_16_29 (hts (.fieldLink RX14 273 "ProofServerModel" "at" "I") (by decide +kernel)) (hh_19.at 1 rfl) dX14_readString_79 ?_
              refine lv_aload_n hx hb dX14_readString_82 rfl (lv_at hl 1 rfl) ?_
              refine j7_read hx hb hown hK (C := RX14) (T := TX14) (N := 74) rfl hly_16_30 (hts (.fieldLink RX14 276 "ProofServerModel" "end" "I") (by decide +kernel)) (hh_19.at 4 rfl) dX14_readString_83 ?_
              refine va_calli (A0 := jA base) (H0 := s.heap) (va_runV (As := [.ref kept_20, .int wt_3, .int pe]) (rest := []) ⟨hx, hb, hml, hown, hts⟩ (uX14_utfLength l dC dI ca base B hB hAp hB16 hB110 G0 H_14 r0 kept_20 wt_3 pe 3300) (cwV 3 hts gX14_readString_X14_utfLength rfl rfl rfl (by decide +kernel) ⟨by rw [← hR]; exact Nat.le_of_ble_eq_true rfl, by rw [← hR]; exact Nat.le_of_ble_eq_true rfl⟩) ⟨fun a U g mk q => by obtain ⟨q0, q1, q2, qK, q10, q11, q12, q13⟩ := q; exact ⟨q0, q1, q2, jG.calling g mk a qK, q10, q11, q12, q13⟩, hh_19.recv (C := RX14) (T := TX14) (N := 74) hB16 rfl (by decide) hg_r0 hK, fun U hU hW => ⟨rfl, hU, hh_19.2.1, hG.step hW hU hh_19.1, hg_kept_20, hg_r0, jP.nil, by first | omega | (refine ⟨?_, ?_, ?_, ?_⟩ <;> (first | omega | rfl | assumption | decide | exact Or.inl rfl | exact Or.inr rfl | (simp only; omega)))⟩⟩ rfl rfl hl.1 rfl (lv_room (Nat.le_of_ble_eq_true rfl)) dX14_readString_86 ⟨Nat.zero_le _, Nat.zero_le _⟩) hh_19.1 (fun q _ h => h) (fun q h => h) (fun r_22 u_21 t_21 H_21 locs_21 ht_21 hvm_21 hr_22 hb_21 hz_21 hk_21 hS_21 => ?_)
              obtain ⟨qc_21, rfl⟩ : ∃ z, z = u_21 := ⟨_, rfl⟩
              rw [ht_21] at hb_21
              obtain ⟨hb_211, hb_212, hb_213, hb_214, hb_215⟩ := hb_21
              have hh_21 : jSt (dC, dI) B base G0 G0 EX14_readString s.heap 0 0 [(r0, 16, 33, .int qc_21), (r0, 16, 9, .ref kept_20), (r0, 16, 29, .int wt_3), (r0, 16, 28, .int wp_3), (r0, 16, 31, .int wb_3), (r0, 16, 30, .int pe)] [] [] H_21 locs_21 := (hh_19.call hb_211 hb_212 hb_213 hb_214 hS_21 rfl (L1 := [(r0, 16, 9, .ref kept_20), (r0, 16, 29, .int wt_3), (r0, 16, 28, .int wp_3), (r0, 16, 31, .int wb_3), (r0, 16, 30, .int pe)]) [0, 1, 2, 3, 4] rfl rfl (M1 := []) [] rfl rfl (I1 := []) [] rfl rfl).more hb_215
              clear hh_19 ht_21 hvm_21 hz_21 hk_21 hS_21 hb_211 hb_212 hb_213 hb_214 hb_215
              refine lv_istore_n (lv' := [(3, .int r_22), (2, .int r_15), (0, .ref r0), (1, .int pp)]) hx hb dX14_readString_89 rfl hl (by decide) rfl (fun ls hl => ?_)
              refine lv_iload_n hx hb dX14_readString_90 rfl (lv_at hl 0 rfl) ?_
              refine lv_if_ne (tgt := 102) hx hb dX14_readString_91 (by decide) (fun c_23 => ?_) (fun c_23 => ?_)
              · skip
                have c_23' : r_22.toInt ≠ 0 := jb_ne (rfl) ((by decide)) c_23
                first | replace hr_22 := hr_22.resolve_left (by omega) | replace hr_22 := hr_22.resolve_right (by omega) | skip
                refine lv_aload_n hx hb dX14_readString_102 rfl (lv_at hl 2 rfl) ?_
                refine lv_aload_n hx hb dX14_readString_103 rfl (lv_at hl 2 rfl) ?_
                refine j7_read hx hb hown hK (C := RX14) (T := TX14) (N := 74) rfl hly_16_33 (hts (.fieldLink RX14 357 "ProofServerModel" "utfChar" "I") (by decide +kernel)) (hh_21.at 0 rfl) dX14_readString_104 ?_
                refine va_callv (A0 := jA base) (H0 := s.heap) (va_runV (As := [.int qc_21]) (rest := []) ⟨hx, hb, hml, hown, hts⟩ (uX14_unit l dC dI ca base B hB hAp hB16 hB127 G0 H_21 r0 qc_21 wp_3) (cwV 1 hts gX14_readString_X14_unit rfl rfl rfl (by decide +kernel) ⟨by rw [← hR]; exact Nat.le_of_ble_eq_true rfl, by rw [← hR]; exact Nat.le_of_ble_eq_true rfl⟩) ⟨fun a U g mk q => by obtain ⟨q0, q1, q2, qK, q10, q11, q12⟩ := q; exact ⟨q0, q1, q2, jG.calling g mk a qK, q10, q11, q12⟩, hh_21.recv (C := RX14) (T := TX14) (N := 74) hB16 rfl (by decide) hg_r0 hK, fun U hU hW => ⟨rfl, hU, hh_21.2.1, hG.step hW hU hh_21.1, hg_r0, (hh_21.2.2.1.sub (L1 := [(r0, 16, 28, .int wp_3)]) [3] rfl), by first | omega | (refine ⟨?_, ?_⟩ <;> (first | omega | rfl | assumption | decide | exact Or.inl rfl | exact Or.inr rfl | (simp only; omega)))⟩⟩ rfl rfl hl.1 rfl (lv_room (Nat.le_of_ble_eq_true rfl)) dX14_readString_107 ⟨Nat.zero_le _, Nat.zero_le _⟩) hh_21.1 (fun q _ h => h) (fun q h => h) (fun u_24 t_24 H_24 locs_24 ht_24 hvm_24 hr_25 hb_24 hz_24 hk_24 hS_24 => ?_)
                obtain ⟨qp_24, rfl⟩ : ∃ z, z = u_24 := ⟨_, rfl⟩
                rw [ht_24] at hb_24
                obtain ⟨hb_241, hb_242, hb_243, hb_244, hb_245⟩ := hb_24
                have hh_24 : jSt (dC, dI) B base G0 G0 EX14_readString s.heap 0 0 [(r0, 16, 28, .int qp_24), (r0, 16, 33, .int qc_21), (r0, 16, 9, .ref kept_20), (r0, 16, 29, .int wt_3), (r0, 16, 31, .int wb_3), (r0, 16, 30, .int pe)] [] [] H_24 locs_24 := (hh_21.call hb_241 hb_242 hb_243 hb_244 hS_24 rfl (L1 := [(r0, 16, 33, .int qc_21), (r0, 16, 9, .ref kept_20), (r0, 16, 29, .int wt_3), (r0, 16, 31, .int wb_3), (r0, 16, 30, .int pe)]) [0, 1, 2, 4, 5] rfl rfl (M1 := []) [] rfl rfl (I1 := []) [] rfl rfl).more hb_245
                clear hh_21 ht_24 hvm_24 hz_24 hk_24 hS_24 hb_241 hb_242 hb_243 hb_244 hb_245
                obtain ⟨hr_25_0, hr_25_1, hr_25_2⟩ := hr_25
                refine lv_aload_n hx hb dX14_readString_110 rfl (lv_at hl 2 rfl) ?_
                refine lv_dup hx hb dX14_readString_111 rfl ?_
                refine j7_read hx hb hown hK (C := RX14) (T := TX14) (N := 74) rfl hly_16_29 (hts (.fieldLink RX14 273 "ProofServerModel" "at" "I") (by decide +kernel)) (hh_24.at 3 rfl) dX14_readString_112 ?_
                refine lv_iload_n hx hb dX14_readString_115 rfl (lv_at hl 0 rfl) ?_
                refine lv_iadd hx hb dX14_readString_116 ?_
                refine lv_topi (fun z_26 ez_26 => ?_)
                have hz_26 : z_26.toInt = wt_3.toInt + r_22.toInt := by rw [ez_26]; exact jb_iadd2 (rfl) (rfl) (by omega)
                refine j7_put hx hb hown hK hh_24 hB hAp hB16 (C := RX14) (T := TX14) (N := 74) rfl (by decide) hg_r0 (i := 29) (by decide) hly_16_29 rfl (hts (.fieldLink RX14 273 "ProofServerModel" "at" "I") (by decide +kernel)) rfl (ty := .int) (v := .int z_26) (by decide +kernel) rfl rfl (⟨_, rfl, by omega, by omega⟩) rfl (L1 := [(r0, 16, 28, .int qp_24), (r0, 16, 33, .int qc_21), (r0, 16, 9, .ref kept_20), (r0, 16, 31, .int wb_3), (r0, 16, 30, .int pe)]) [0, 1, 2, 4, 5] rfl rfl rfl dX14_readString_117 (fun H_27 locs_27 hh_27 => ?_)
                clear hh_24
                refine lv_goto (tgt := 15) hx hb dX14_readString_120 (by decide) ?_
                exact L15 z_26 qp_24 wb_3 _ _ (hh_27.sub (L1 := [(r0, 16, 29, .int z_26), (r0, 16, 28, .int qp_24), (r0, 16, 31, .int wb_3), (r0, 16, 30, .int pe)]) [0, 1, 4, 5] rfl (M1 := []) [] rfl (I1 := []) [] rfl) (by first | omega | (refine ⟨?_, ?_, ?_, ?_, ?_, ?_⟩ <;> (first | omega | rfl | assumption | decide | exact Or.inl rfl | exact Or.inr rfl | (simp only; omega)))) (by omega) _ (lv_sub hl [2, 3] rfl)
              · skip
                have c_23' : r_22.toInt = 0 := jb_ne_n (rfl) ((by decide)) c_23
                first | replace hr_22 := hr_22.resolve_left (by omega) | replace hr_22 := hr_22.resolve_right (by omega) | skip
                refine lv_aload_n hx hb dX14_readString_94 rfl (lv_at hl 2 rfl) ?_
                refine lv_iconst (v := 1) hx hb dX14_readString_95 (by decide) ?_
                refine j7_put hx hb hown hK hh_21 hB hAp hB16 (C := RX14) (T := TX14) (N := 74) rfl (by decide) hg_r0 (i := 31) (by decide) hly_16_31 rfl (hts (.fieldLink RX14 288 "ProofServerModel" "bad" "Z") (by decide +kernel)) rfl (ty := .boolean) (v := .int 1) (by decide +kernel) (jb_nz (Or.inr rfl)) (jb_fz (Or.inr rfl)) (⟨_, rfl, (Or.inr rfl)⟩) rfl (L1 := [(r0, 16, 33, .int qc_21), (r0, 16, 9, .ref kept_20), (r0, 16, 29, .int wt_3), (r0, 16, 28, .int wp_3), (r0, 16, 30, .int pe)]) [0, 1, 2, 3, 5] rfl rfl rfl dX14_readString_96 (fun H_28 locs_28 hh_28 => ?_)
                clear hh_21
                refine lv_goto (tgt := 110) hx hb dX14_readString_99 (by decide) ?_
                refine lv_aload_n hx hb dX14_readString_110 rfl (lv_at hl 2 rfl) ?_
                refine lv_dup hx hb dX14_readString_111 rfl ?_
                refine j7_read hx hb hown hK (C := RX14) (T := TX14) (N := 74) rfl hly_16_29 (hts (.fieldLink RX14 273 "ProofServerModel" "at" "I") (by decide +kernel)) (hh_28.at 3 rfl) dX14_readString_112 ?_
                refine lv_iload_n hx hb dX14_readString_115 rfl (lv_at hl 0 rfl) ?_
                refine lv_iadd hx hb dX14_readString_116 ?_
                refine lv_topi (fun z_29 ez_29 => ?_)
                have hz_29 : z_29.toInt = wt_3.toInt + r_22.toInt := by rw [ez_29]; exact jb_iadd2 (rfl) (rfl) (by omega)
                refine j7_put hx hb hown hK hh_28 hB hAp hB16 (C := RX14) (T := TX14) (N := 74) rfl (by decide) hg_r0 (i := 29) (by decide) hly_16_29 rfl (hts (.fieldLink RX14 273 "ProofServerModel" "at" "I") (by decide +kernel)) rfl (ty := .int) (v := .int z_29) (by decide +kernel) rfl rfl (⟨_, rfl, by omega, by omega⟩) rfl (L1 := [(r0, 16, 31, .int 1), (r0, 16, 33, .int qc_21), (r0, 16, 9, .ref kept_20), (r0, 16, 28, .int wp_3), (r0, 16, 30, .int pe)]) [0, 1, 2, 4, 5] rfl rfl rfl dX14_readString_117 (fun H_30 locs_30 hh_30 => ?_)
                clear hh_28
                refine lv_goto (tgt := 15) hx hb dX14_readString_120 (by decide) ?_
                exact L15 z_29 wp_3 1 _ _ (hh_30.sub (L1 := [(r0, 16, 29, .int z_29), (r0, 16, 28, .int wp_3), (r0, 16, 31, .int 1), (r0, 16, 30, .int pe)]) [0, 4, 1, 5] rfl (M1 := []) [] rfl (I1 := []) [] rfl) (by first | omega | (refine ⟨?_, ?_, ?_, ?_, ?_, ?_⟩ <;> (first | omega | rfl | assumption | decide | exact Or.inl rfl | exact Or.inr rfl | (simp only; omega)))) (by omega) _ (lv_sub hl [2, 3] rfl)
            · skip
              have c_17' : r_15.toInt = 92 := jb_ne_n (rfl) ((by decide)) c_17
              first | replace hr_15_2 := hr_15_2.resolve_left (by omega) | replace hr_15_2 := hr_15_2.resolve_right (by omega) | skip
              refine lv_aload_n hx hb dX14_readString_56 rfl (lv_at hl 1 rfl) ?_
              refine lv_dup hx hb dX14_readString_57 rfl ?_
              refine j7_read hx hb hown hK (C := RX14) (T := TX14) (N := 74) rfl hly_16_29 (hts (.fieldLink RX14 273 "ProofServerModel" "at" "I") (by decide +kernel)) (hh_14.at 0 rfl) dX14_readString_58 ?_
              refine lv_iconst (v := 1) hx hb dX14_readString_61 (by decide) ?_
              refine lv_iadd hx hb dX14_readString_62 ?_
              refine lv_topi (fun z_31 ez_31 => ?_)
              have hz_31 : z_31.toInt = wt_3.toInt + 1 := by rw [ez_31]; exact jb_iadd2 (rfl) ((by decide)) (by omega)
              refine j7_put hx hb hown hK hh_14 hB hAp hB16 (C := RX14) (T := TX14) (N := 74) rfl (by decide) hg_r0 (i := 29) (by decide) hly_16_29 rfl (hts (.fieldLink RX14 273 "ProofServerModel" "at" "I") (by decide +kernel)) rfl (ty := .int) (v := .int z_31) (by decide +kernel) rfl rfl (⟨_, rfl, by omega, by omega⟩) rfl (L1 := [(r0, 16, 28, .int wp_3), (r0, 16, 31, .int wb_3), (r0, 16, 30, .int pe)]) [1, 2, 3] rfl rfl rfl dX14_readString_63 (fun H_32 locs_32 hh_32 => ?_)
              clear hh_14
              refine lv_aload_n hx hb dX14_readString_66 rfl (lv_at hl 1 rfl) ?_
              refine va_callv (A0 := jA base) (H0 := s.heap) (va_runV (As := []) (rest := []) ⟨hx, hb, hml, hown, hts⟩ (uX14_escape l dC dI ca base B hB hAp hB16 hB110 hB127 G0 H_32 r0 z_31 pe wp_3 wb_3) (cwV 0 hts gX14_readString_X14_escape rfl rfl rfl (by decide +kernel) ⟨by rw [← hR]; exact Nat.le_of_ble_eq_true rfl, by rw [← hR]; exact Nat.le_of_ble_eq_true rfl⟩) ⟨fun a U g mk q => by obtain ⟨q0, q1, q2, qK, q10, q11, q12⟩ := q; exact ⟨q0, q1, q2, jG.calling g mk a qK, q10, q11, q12⟩, hh_32.recv (C := RX14) (T := TX14) (N := 74) hB16 rfl (by decide) hg_r0 hK, fun U hU hW => ⟨rfl, hU, hh_32.2.1, hG.step hW hU hh_32.1, hg_r0, (hh_32.2.2.1.sub (L1 := [(r0, 16, 29, .int z_31), (r0, 16, 30, .int pe), (r0, 16, 28, .int wp_3), (r0, 16, 31, .int wb_3)]) [0, 3, 1, 2] rfl), by first | omega | (refine ⟨?_, ?_, ?_, ?_, ?_, ?_, ?_, ?_⟩ <;> (first | omega | rfl | assumption | decide | exact Or.inl rfl | exact Or.inr rfl | (simp only; omega)))⟩⟩ rfl rfl hl.1 rfl (lv_room (Nat.le_of_ble_eq_true rfl)) dX14_readString_67 ⟨Nat.zero_le _, Nat.zero_le _⟩) hh_32.1 (fun q _ h => h) (fun q h => h) (fun u_33 t_33 H_33 locs_33 ht_33 hvm_33 hr_34 hb_33 hz_33 hk_33 hS_33 => ?_)
              obtain ⟨qt_33, qp_33, qb_33⟩ := u_33
              rw [ht_33] at hb_33
              obtain ⟨hb_331, hb_332, hb_333, hb_334, hb_335⟩ := hb_33
              have hh_33 : jSt (dC, dI) B base G0 G0 EX14_readString s.heap 0 0 [(r0, 16, 29, .int qt_33), (r0, 16, 28, .int qp_33), (r0, 16, 31, .int qb_33), (r0, 16, 30, .int pe)] [] [] H_33 locs_33 := (hh_32.call hb_331 hb_332 hb_333 hb_334 hS_33 rfl (L1 := [(r0, 16, 30, .int pe)]) [3] rfl rfl (M1 := []) [] rfl rfl (I1 := []) [] rfl rfl).more hb_335
              clear hh_32 ht_33 hvm_33 hz_33 hk_33 hS_33 hb_331 hb_332 hb_333 hb_334 hb_335
              try simp only at hr_34
              obtain ⟨hr_34_0, hr_34_1, hr_34_2, hr_34_3, hr_34_4, hr_34_5, hr_34_6⟩ := hr_34
              refine lv_goto (tgt := 120) hx hb dX14_readString_70 (by decide) ?_
              refine lv_goto (tgt := 15) hx hb dX14_readString_120 (by decide) ?_
              exact L15 qt_33 qp_33 qb_33 _ _ hh_33 (by first | omega | (refine ⟨?_, ?_, ?_, ?_, ?_, ?_⟩ <;> (first | omega | rfl | assumption | decide | exact Or.inl rfl | exact Or.inr rfl | (simp only; omega)))) (by omega) _ (lv_sub hl [1, 2] rfl)
          · skip
            have c_16' : r_15.toInt < 32 := jb_ge_n (rfl) ((by decide)) c_16
            first | replace hr_15_2 := hr_15_2.resolve_left (by omega) | replace hr_15_2 := hr_15_2.resolve_right (by omega) | skip
            refine lv_aload_n hx hb dX14_readString_42 rfl (lv_at hl 1 rfl) ?_
            refine lv_iconst (v := 1) hx hb dX14_readString_43 (by decide) ?_
            refine j7_put hx hb hown hK hh_14 hB hAp hB16 (C := RX14) (T := TX14) (N := 74) rfl (by decide) hg_r0 (i := 31) (by decide) hly_16_31 rfl (hts (.fieldLink RX14 288 "ProofServerModel" "bad" "Z") (by decide +kernel)) rfl (ty := .boolean) (v := .int 1) (by decide +kernel) (jb_nz (Or.inr rfl)) (jb_fz (Or.inr rfl)) (⟨_, rfl, (Or.inr rfl)⟩) rfl (L1 := [(r0, 16, 29, .int wt_3), (r0, 16, 28, .int wp_3), (r0, 16, 30, .int pe)]) [0, 1, 3] rfl rfl rfl dX14_readString_44 (fun H_35 locs_35 hh_35 => ?_)
            clear hh_14
            refine lv_goto (tgt := 120) hx hb dX14_readString_47 (by decide) ?_
            refine lv_goto (tgt := 15) hx hb dX14_readString_120 (by decide) ?_
            exact L15 wt_3 wp_3 1 _ _ (hh_35.sub (L1 := [(r0, 16, 29, .int wt_3), (r0, 16, 28, .int wp_3), (r0, 16, 31, .int 1), (r0, 16, 30, .int pe)]) [1, 2, 0, 3] rfl (M1 := []) [] rfl (I1 := []) [] rfl) (by first | omega | (refine ⟨?_, ?_, ?_, ?_, ?_, ?_⟩ <;> (first | omega | rfl | assumption | decide | exact Or.inl rfl | exact Or.inr rfl | (simp only; omega)))) (by omega) _ (lv_sub hl [1, 2] rfl)
  exact L15 (((pe.toInt - (z_1 : Int32).toInt).toNat : Int) + (1 - (pb : Int32).toInt) : Int).toNat.succ z_1 pp pb _ _ (hh_2.sub (L1 := [(r0, 16, 29, .int z_1), (r0, 16, 28, .int pp), (r0, 16, 31, .int pb), (r0, 16, 30, .int pe)]) [0, 2, 3, 1] rfl (M1 := []) [] rfl (I1 := []) [] rfl) (by first | omega | (refine ⟨?_, ?_, ?_, ?_, ?_, ?_⟩ <;> (first | omega | rfl | assumption | decide | exact Or.inl rfl | exact Or.inr rfl | (simp only; omega)))) (by omega) _ (lv_sub hl [1, 0] rfl)
set_option maxHeartbeats 4000000 in
set_option maxRecDepth 20000 in
theorem uX14_readValue (l : Launch) (dC : Nat → ClassId) (dI : Nat → Nat → Nat) (ca : Nat → ClassId) (base : Nat) (B : jF) (hB : jBok B) (hAp : jAp (dC, dI)) (hB16 : ∀ n G a H, B 16 n G a H ↔ jOb (dC, dI) 16 74 (F16 n G) a H) (hB110 : ∀ n G a H, B 110 n G a H ↔ jAr (dC, dI) (ca 1) (fun j z => 0 ≤ z.toInt ∧ z.toInt ≤ 255) n a H) (hB117 : ∀ n G a H, B 117 n G a H ↔ jAr (dC, dI) (ca 1) (fun j z => True) n a H) (hB118 : ∀ n G a H, B 118 n G a H ↔ jAr (dC, dI) (ca 1) (fun j z => -1 ≤ z.toInt ∧ z.toInt ≤ 3099) n a H) (hB119 : ∀ n G a H, B 119 n G a H ↔ jAr (dC, dI) (ca 1) (fun j z => z.toInt = -1 ∨ (j < z.toInt ∧ z.toInt ≤ 3099)) n a H) (hB120 : ∀ n G a H, B 120 n G a H ↔ jAr (dC, dI) (ca 1) (fun j z => 0 ≤ z.toInt ∧ z.toInt ≤ 3300) n a H) (hB121 : ∀ n G a H, B 121 n G a H ↔ jAr (dC, dI) (ca 1) (fun j z => 0 ≤ z.toInt ∧ z.toInt ≤ 3300) n a H) (hB122 : ∀ n G a H, B 122 n G a H ↔ jAr (dC, dI) (ca 1) (fun j z => 0 ≤ z.toInt ∧ z.toInt ≤ 3300) n a H) (hB123 : ∀ n G a H, B 123 n G a H ↔ jAr (dC, dI) (ca 1) (fun j z => 0 ≤ z.toInt ∧ z.toInt ≤ 3300) n a H) (hB124 : ∀ n G a H, B 124 n G a H ↔ jAr (dC, dI) (ca 3) (fun j z => (z = 0 ∨ z = 1)) n a H) (hB125 : ∀ n G a H, B 125 n G a H ↔ jAr (dC, dI) (ca 1) (fun j z => True) n a H) (hB127 : ∀ n G a H, B 127 n G a H ↔ jAr (dC, dI) (ca 1) (fun j z => True) n a H) (ef : Nat) (ihM : ∀ e1, e1 < ef → qX14_readMany l dC dI ca base B e1) (G0 : jT) (H0 : Heap) (r0 : Nat) (a1 : Int32) (pt : Int32) (pe : Int32) (pn : Int32) (pp : Int32) (pb : Int32) : Met l yX14_readValue wsX14_readValue ({ frames := 2 * ef + 6, cells := 0, slots := 0, locals := 130 * ef + 400 }) (va_Pc [.ref r0, .int a1] (fun U => U.heap = H0 ∧ jX B base G0 [] H0 ∧ jG dC dI ca base U ∧ G0 r0 = some (16, 0) ∧ jP (dC, dI) G0 H0 [(r0, 16, 29, .int pt), (r0, 16, 30, .int pe), (r0, 16, 26, .int pn), (r0, 16, 28, .int pp), (r0, 16, 31, .int pb)] ∧ 0 ≤ pt.toInt ∧ pt.toInt ≤ 90000 ∧ 0 ≤ pe.toInt ∧ pe.toInt ≤ 3000 ∧ pt.toInt ≤ pe.toInt ∧ 0 ≤ pn.toInt ∧ pn.toInt ≤ pt.toInt ∧ 0 ≤ pp.toInt ∧ pp.toInt ≤ pt.toInt ∧ pb.toInt = 0 ∧ a1.toInt = 10 - ef ∧ ef ≤ 10)) (va_Qi (S := Int32 × Int32 × Int32 × Int32) (fun r u => (0 ≤ u.2.2.2.toInt ∧ u.2.2.2.toInt ≤ 1 ∧ pt.toInt ≤ u.1.toInt ∧ pp.toInt ≤ u.2.2.1.toInt ∧ pn.toInt ≤ u.2.1.toInt ∧ u.1.toInt ≤ pe.toInt + 4 * u.2.2.2.toInt ∧ u.2.1.toInt ≤ u.1.toInt + u.2.2.2.toInt ∧ u.2.2.1.toInt ≤ u.1.toInt ∧ pn.toInt ≤ r.toInt + 4000 * u.2.2.2.toInt ∧ r.toInt + 1 ≤ u.2.1.toInt + 4000 * u.2.2.2.toInt)) (fun u t => jRt (dC, dI) B base G0 EX14_readValue H0 [(r0, 16, 29, .int u.1), (r0, 16, 26, .int u.2.1), (r0, 16, 28, .int u.2.2.1), (r0, 16, 31, .int u.2.2.2)] t.heap) (jA base)) 0 0 (jA base) := by
  refine Met.ofW (cc := cX14_readValue) (maxL := 4) (ret := (some .int)) (by decide) rfl ?_
  intro p e s m args below meth c s₁ Bd hml hv
  obtain ⟨rfl, hH0, hX, hG, hg_r0, hP0, hp0, hp1, hp2, hp3, hp4, hp5, hp6, hp7, hp8, hp9, hp10, hp11⟩ := hv
  have hK := hG.1
  have hx := Bd.exec
  have hb := Bd.bytes
  have hr := Bd.returns
  have hts := atoms_spec (ws := wsX14_readValue) Bd.pre
  have hown : s.vm.findClass RX14 = some m.cls := findClass_of_methodNamed Bd.named
  have hlocks := Bd.notSynchronized
  obtain ⟨Q, hQ⟩ : ∃ Q, Q = MQ below (va_Qi (S := Int32 × Int32 × Int32 × Int32) (fun r u => (0 ≤ u.2.2.2.toInt ∧ u.2.2.2.toInt ≤ 1 ∧ pt.toInt ≤ u.1.toInt ∧ pp.toInt ≤ u.2.2.1.toInt ∧ pn.toInt ≤ u.2.1.toInt ∧ u.1.toInt ≤ pe.toInt + 4 * u.2.2.2.toInt ∧ u.2.1.toInt ≤ u.1.toInt + u.2.2.2.toInt ∧ u.2.2.1.toInt ≤ u.1.toInt ∧ pn.toInt ≤ r.toInt + 4000 * u.2.2.2.toInt ∧ r.toInt + 1 ≤ u.2.1.toInt + 4000 * u.2.2.2.toInt)) (fun u t => jRt (dC, dI) B base G0 EX14_readValue H0 [(r0, 16, 29, .int u.1), (r0, 16, 26, .int u.2.1), (r0, 16, 28, .int u.2.2.1), (r0, 16, 31, .int u.2.2.2)] t.heap) (jA base)) ([.ref r0, .int a1] : List Value).toArray s 0 0 (jA base) := ⟨_, rfl⟩
  rw [← hQ]
  have hl := lv_entry ([.ref r0, .int a1]) (n := 4) (Nat.le_of_ble_eq_true rfl)
  rw [lg_entry_eq]
  generalize (lg_sl ([.ref r0, .int a1]) ++ List.replicate (4 - (lg_sl ([.ref r0, .int a1])).length) Slot.unset).toArray = ls at hl ⊢
  have hl : lv_has ls 4 [(0, .ref r0), (1, .int a1)] := hl
  generalize hR : (headSpec wsX14_readValue ({ frames := 2 * ef + 6, cells := 0, slots := 0, locals := 130 * ef + 400 })).room = R
  subst hH0
  have hh : jSt (dC, dI) B base G0 G0 EX14_readValue s.heap 0 0 [(r0, 16, 29, .int pt), (r0, 16, 30, .int pe), (r0, 16, 26, .int pn), (r0, 16, 28, .int pp), (r0, 16, 31, .int pb)] [] [] s.heap [] := jSt.start hX hP0 jMc.nil jIs.nil
  clear hX hP0
  have hk0 : (0 : Int32).toInt = 0 := by decide
  have hk1 : (1 : Int32).toInt = 1 := by decide
  have hk2 : (2 : Int32).toInt = 2 := by decide
  have hk4 : (4 : Int32).toInt = 4 := by decide
  have hk10 : (10 : Int32).toInt = 10 := by decide
  have hk34 : (34 : Int32).toInt = 34 := by decide
  have hk91 : (91 : Int32).toInt = 91 := by decide
  have hk123 : (123 : Int32).toInt = 123 := by decide
  have hly_16_22 := hts (u_lay RX14 TX14 22) (by decide +kernel)
  have hly_16_23 := hts (u_lay RX14 TX14 23) (by decide +kernel)
  have hly_16_28 := hts (u_lay RX14 TX14 28) (by decide +kernel)
  have hly_16_31 := hts (u_lay RX14 TX14 31) (by decide +kernel)
  have hly_16_32 := hts (u_lay RX14 TX14 32) (by decide +kernel)
  have hrg_a1 := jb_rng a1
  refine lv_aload_n hx hb dX14_readValue_0 rfl (lv_at hl 0 rfl) ?_
  refine va_callv (A0 := jA base) (H0 := s.heap) (va_runV (As := []) (rest := []) ⟨hx, hb, hml, hown, hts⟩ (uX14_blanks l dC dI ca base B hB hAp hB16 hB110 G0 s.heap r0 pt pe (pe.toInt + 8 * (pb.toInt))) (cwV 0 hts gX14_readValue_X14_blanks rfl rfl rfl (by decide +kernel) ⟨by rw [← hR]; show (1) + 1 ≤ 2 * ef + 6; omega, by rw [← hR]; show 8 + (1 + 11) + (20) ≤ 130 * ef + 400; omega⟩) ⟨fun a U g mk q => by obtain ⟨q0, q1, q2, qK, q10, q11, q12⟩ := q; exact ⟨q0, q1, q2, jG.calling g mk a qK, q10, q11, q12⟩, hh.recv (C := RX14) (T := TX14) (N := 74) hB16 rfl (by decide) hg_r0 hK, fun U hU hW => ⟨rfl, hU, hh.2.1, hG.step hW hU hh.1, hg_r0, (hh.2.2.1.sub (L1 := [(r0, 16, 29, .int pt), (r0, 16, 30, .int pe)]) [0, 1] rfl), by first | omega | (refine ⟨?_, ?_, ?_, ?_, ?_, ?_, ?_⟩ <;> (first | omega | rfl | assumption | decide | exact Or.inl rfl | exact Or.inr rfl | (simp only; omega)))⟩⟩ rfl rfl hl.1 rfl (lv_room (Nat.le_of_ble_eq_true rfl)) dX14_readValue_1 ⟨Nat.zero_le _, Nat.zero_le _⟩) hh.1 (fun q _ h => h) (fun q h => h) (fun u_1 t_1 H_1 locs_1 ht_1 hvm_1 hr_2 hb_1 hz_1 hk_1 hS_1 => ?_)
  obtain ⟨qt_1, rfl⟩ : ∃ z, z = u_1 := ⟨_, rfl⟩
  rw [ht_1] at hb_1
  obtain ⟨hb_11, hb_12, hb_13, hb_14, hb_15⟩ := hb_1
  have hh_1 : jSt (dC, dI) B base G0 G0 EX14_readValue s.heap 0 0 [(r0, 16, 29, .int qt_1), (r0, 16, 30, .int pe), (r0, 16, 26, .int pn), (r0, 16, 28, .int pp), (r0, 16, 31, .int pb)] [] [] H_1 locs_1 := (hh.call hb_11 hb_12 hb_13 hb_14 hS_1 rfl (L1 := [(r0, 16, 30, .int pe), (r0, 16, 26, .int pn), (r0, 16, 28, .int pp), (r0, 16, 31, .int pb)]) [1, 2, 3, 4] rfl rfl (M1 := []) [] rfl rfl (I1 := []) [] rfl rfl).more hb_15
  clear hh ht_1 hvm_1 hz_1 hk_1 hS_1 hb_11 hb_12 hb_13 hb_14 hb_15
  obtain ⟨hr_2_0, hr_2_1⟩ := hr_2
  refine lv_aload_n hx hb dX14_readValue_4 rfl (lv_at hl 0 rfl) ?_
  refine va_calli (A0 := jA base) (H0 := s.heap) (va_runV (As := []) (rest := []) ⟨hx, hb, hml, hown, hts⟩ (uX14_here l dC dI ca base B hB hAp hB16 hB110 G0 H_1 r0 qt_1 pe) (cwV 0 hts gX14_readValue_X14_here rfl rfl rfl (by decide +kernel) ⟨by rw [← hR]; show (0) + 1 ≤ 2 * ef + 6; omega, by rw [← hR]; show 8 + (1 + 11) + (0) ≤ 130 * ef + 400; omega⟩) ⟨fun a U g mk q => by obtain ⟨q0, q1, q2, qK, q10, q11, q12⟩ := q; exact ⟨q0, q1, q2, jG.calling g mk a qK, q10, q11, q12⟩, hh_1.recv (C := RX14) (T := TX14) (N := 74) hB16 rfl (by decide) hg_r0 hK, fun U hU hW => ⟨rfl, hU, hh_1.2.1, hG.step hW hU hh_1.1, hg_r0, (hh_1.2.2.1.sub (L1 := [(r0, 16, 29, .int qt_1), (r0, 16, 30, .int pe)]) [0, 1] rfl), by first | omega | (refine ⟨?_, ?_, ?_, ?_⟩ <;> (first | omega | rfl | assumption | decide | exact Or.inl rfl | exact Or.inr rfl | (simp only; omega)))⟩⟩ rfl rfl hl.1 rfl (lv_room (Nat.le_of_ble_eq_true rfl)) dX14_readValue_5 ⟨Nat.zero_le _, Nat.zero_le _⟩) hh_1.1 (fun q _ h => h) (fun q h => h) (fun r_4 u_3 t_3 H_3 locs_3 ht_3 hvm_3 hr_4 hb_3 hz_3 hk_3 hS_3 => ?_)
  rw [ht_3] at hb_3
  obtain ⟨hb_31, hb_32, hb_33, hb_34, hb_35⟩ := hb_3
  have hh_3 : jSt (dC, dI) B base G0 G0 EX14_readValue s.heap 0 0 [(r0, 16, 29, .int qt_1), (r0, 16, 30, .int pe), (r0, 16, 26, .int pn), (r0, 16, 28, .int pp), (r0, 16, 31, .int pb)] [] [] H_3 locs_3 := (hh_1.call hb_31 hb_32 hb_33 hb_34 hS_3 rfl (L1 := [(r0, 16, 29, .int qt_1), (r0, 16, 30, .int pe), (r0, 16, 26, .int pn), (r0, 16, 28, .int pp), (r0, 16, 31, .int pb)]) [0, 1, 2, 3, 4] rfl rfl (M1 := []) [] rfl rfl (I1 := []) [] rfl rfl).more hb_35
  clear hh_1 ht_3 hvm_3 hz_3 hk_3 hS_3 hb_31 hb_32 hb_33 hb_34 hb_35
  obtain ⟨hr_4_0, hr_4_1, hr_4_2⟩ := hr_4
  refine lv_istore_n (lv' := [(2, .int r_4), (0, .ref r0), (1, .int a1)]) hx hb dX14_readValue_8 rfl hl (by decide) rfl (fun ls hl => ?_)
  refine lv_iload_n hx hb dX14_readValue_9 rfl (lv_at hl 0 rfl) ?_
  refine lv_bipush (v := 123) hx hb dX14_readValue_10 (by decide) ?_
  refine lv_icmp_eq (tgt := 21) hx hb dX14_readValue_12 (by decide) (fun c_5 => ?_) (fun c_5 => ?_)
  · skip
    have c_5' : r_4.toInt = 123 := jb_eq (rfl) ((by decide)) c_5
    first | replace hr_4_2 := hr_4_2.resolve_left (by omega) | replace hr_4_2 := hr_4_2.resolve_right (by omega) | skip
    refine lv_iload_n hx hb dX14_readValue_21 rfl (lv_at hl 2 rfl) ?_
    refine lv_bipush (v := 10) hx hb dX14_readValue_22 (by decide) ?_
    refine lv_icmp_ne (tgt := 32) hx hb dX14_readValue_24 (by decide) (fun c_6 => ?_) (fun c_6 => ?_)
    · skip
      have c_6' : a1.toInt ≠ 10 := jb_ne (rfl) ((by decide)) c_6
      refine lv_aload_n hx hb dX14_readValue_32 rfl (lv_at hl 1 rfl) ?_
      refine j7_read hx hb hown hK (C := RX14) (T := TX14) (N := 74) rfl hly_16_31 (hts (.fieldLink RX14 288 "ProofServerModel" "bad" "Z") (by decide +kernel)) (hh_3.at 4 rfl) dX14_readValue_33 ?_
      refine lv_if_eq (tgt := 43) hx hb dX14_readValue_36 (by decide) (fun c_7 => ?_) (fun c_7 => ?_)
      · skip
        have c_7' : pb.toInt = 0 := jb_eq (rfl) ((by decide)) c_7
        refine lv_aload_n hx hb dX14_readValue_43 rfl (lv_at hl 1 rfl) ?_
        refine lv_iload_n hx hb dX14_readValue_44 rfl (lv_at hl 0 rfl) ?_
        refine lv_bipush (v := 123) hx hb dX14_readValue_45 (by decide) ?_
        refine lv_icmp_ne (tgt := 54) hx hb dX14_readValue_47 (by decide) (fun c_8 => ?_) (fun c_8 => ?_)
        · skip
          have c_8' : r_4.toInt ≠ 123 := jb_ne (rfl) ((by decide)) c_8
          first | replace hr_4_2 := hr_4_2.resolve_left (by omega) | replace hr_4_2 := hr_4_2.resolve_right (by omega) | skip
          refine lv_iconst (v := 0) hx hb dX14_readValue_54 (by decide) ?_
          refine lv_iload_n hx hb dX14_readValue_55 rfl (lv_at hl 2 rfl) ?_
          refine lv_iconst (v := 1) hx hb dX14_readValue_56 (by decide) ?_
          refine lv_iadd hx hb dX14_readValue_57 ?_
          refine lv_topi (fun z_9 ez_9 => ?_)
          have hz_9 : z_9.toInt = a1.toInt + 1 := by rw [ez_9]; exact jb_iadd2 (rfl) ((by decide)) (by omega)
          refine va_calli (A0 := jA base) (H0 := s.heap) (va_runV (As := [.int 0, .int z_9]) (rest := []) ⟨hx, hb, hml, hown, hts⟩ (ihM (ef - 1) (by omega) G0 H_3 r0 0 z_9 qt_1 pe pn pp pb) (cwV 2 hts gX14_readValue_X14_readMany rfl rfl rfl (by decide +kernel) ⟨by rw [← hR]; show (2 * (ef - 1) + 7) + 1 ≤ 2 * ef + 6; omega, by rw [← hR]; show 8 + (10 + 11) + (130 * (ef - 1) + 460) ≤ 130 * ef + 400; omega⟩) ⟨fun a U g mk q => by obtain ⟨q0, q1, q2, qK, q10, q11, q12⟩ := q; exact ⟨q0, q1, q2, jG.calling g mk a qK, q10, q11, q12⟩, hh_3.recv (C := RX14) (T := TX14) (N := 74) hB16 rfl (by decide) hg_r0 hK, fun U hU hW => ⟨rfl, hU, hh_3.2.1, hG.step hW hU hh_3.1, hg_r0, (hh_3.2.2.1.sub (L1 := [(r0, 16, 29, .int qt_1), (r0, 16, 30, .int pe), (r0, 16, 26, .int pn), (r0, 16, 28, .int pp), (r0, 16, 31, .int pb)]) [0, 1, 2, 3, 4] rfl), by first | omega | (refine ⟨?_, ?_, ?_, ?_, ?_, ?_, ?_, ?_, ?_, ?_, ?_, ?_⟩ <;> (first | omega | rfl | assumption | decide | exact Or.inl rfl | exact Or.inr rfl | (simp only; omega)))⟩⟩ rfl rfl hl.1 rfl (lv_room (Nat.le_of_ble_eq_true rfl)) dX14_readValue_58 ⟨Nat.zero_le _, Nat.zero_le _⟩) hh_3.1 (fun q _ h => h) (fun q h => h) (fun r_11 u_10 t_10 H_10 locs_10 ht_10 hvm_10 hr_11 hb_10 hz_10 hk_10 hS_10 => ?_)
          obtain ⟨qt_10, qn_10, qp_10, qb_10⟩ := u_10
          rw [ht_10] at hb_10
          obtain ⟨hb_101, hb_102, hb_103, hb_104, hb_105⟩ := hb_10
          have hh_10 : jSt (dC, dI) B base G0 G0 EX14_readValue s.heap 0 0 [(r0, 16, 29, .int qt_10), (r0, 16, 26, .int qn_10), (r0, 16, 28, .int qp_10), (r0, 16, 31, .int qb_10), (r0, 16, 30, .int pe)] [] [] H_10 locs_10 := (hh_3.call hb_101 hb_102 hb_103 hb_104 hS_10 rfl (L1 := [(r0, 16, 30, .int pe)]) [1] rfl rfl (M1 := []) [] rfl rfl (I1 := []) [] rfl rfl).more hb_105
          clear hh_3 ht_10 hvm_10 hz_10 hk_10 hS_10 hb_101 hb_102 hb_103 hb_104 hb_105
          try simp only at hr_11
          obtain ⟨hr_11_0, hr_11_1, hr_11_2, hr_11_3, hr_11_4, hr_11_5, hr_11_6, hr_11_7, hr_11_8, hr_11_9⟩ := hr_11
          rw [hQ]
          exact W.iret (v := r_11) hx hb hr (fun t ht hW => ⟨⟨r_11, (qt_10, qn_10, qp_10, qb_10), rfl, by first | omega | (refine ⟨?_, ?_, ?_, ?_, ?_, ?_, ?_, ?_, ?_, ?_⟩ <;> (first | omega | rfl | assumption | decide | exact Or.inl rfl | exact Or.inr rfl | (simp only; omega))), hh_10.rt (M1 := [(r0, 16, 29, .int qt_10), (r0, 16, 26, .int qn_10), (r0, 16, 28, .int qp_10), (r0, 16, 31, .int qb_10)]) [0, 1, 2, 3] rfl ht⟩, by rw [ht]; try exact hh_10.1.1, fun q h9 hq => by rw [ht]; try exact hh_10.1.2.1 q h9 hq⟩) hh_10.1.2.2 dX14_readValue_61
        · skip
          have c_8' : r_4.toInt = 123 := jb_ne_n (rfl) ((by decide)) c_8
          first | replace hr_4_2 := hr_4_2.resolve_left (by omega) | replace hr_4_2 := hr_4_2.resolve_right (by omega) | skip
          refine lv_iconst (v := 1) hx hb dX14_readValue_50 (by decide) ?_
          refine lv_goto (tgt := 55) hx hb dX14_readValue_51 (by decide) ?_
          refine lv_iload_n hx hb dX14_readValue_55 rfl (lv_at hl 2 rfl) ?_
          refine lv_iconst (v := 1) hx hb dX14_readValue_56 (by decide) ?_
          refine lv_iadd hx hb dX14_readValue_57 ?_
          refine lv_topi (fun z_12 ez_12 => ?_)
          have hz_12 : z_12.toInt = a1.toInt + 1 := by rw [ez_12]; exact jb_iadd2 (rfl) ((by decide)) (by omega)
          refine va_calli (A0 := jA base) (H0 := s.heap) (va_runV (As := [.int 1, .int z_12]) (rest := []) ⟨hx, hb, hml, hown, hts⟩ (ihM (ef - 1) (by omega) G0 H_3 r0 1 z_12 qt_1 pe pn pp pb) (cwV 2 hts gX14_readValue_X14_readMany rfl rfl rfl (by decide +kernel) ⟨by rw [← hR]; show (2 * (ef - 1) + 7) + 1 ≤ 2 * ef + 6; omega, by rw [← hR]; show 8 + (10 + 11) + (130 * (ef - 1) + 460) ≤ 130 * ef + 400; omega⟩) ⟨fun a U g mk q => by obtain ⟨q0, q1, q2, qK, q10, q11, q12⟩ := q; exact ⟨q0, q1, q2, jG.calling g mk a qK, q10, q11, q12⟩, hh_3.recv (C := RX14) (T := TX14) (N := 74) hB16 rfl (by decide) hg_r0 hK, fun U hU hW => ⟨rfl, hU, hh_3.2.1, hG.step hW hU hh_3.1, hg_r0, (hh_3.2.2.1.sub (L1 := [(r0, 16, 29, .int qt_1), (r0, 16, 30, .int pe), (r0, 16, 26, .int pn), (r0, 16, 28, .int pp), (r0, 16, 31, .int pb)]) [0, 1, 2, 3, 4] rfl), by first | omega | (refine ⟨?_, ?_, ?_, ?_, ?_, ?_, ?_, ?_, ?_, ?_, ?_, ?_⟩ <;> (first | omega | rfl | assumption | decide | exact Or.inl rfl | exact Or.inr rfl | (simp only; omega)))⟩⟩ rfl rfl hl.1 rfl (lv_room (Nat.le_of_ble_eq_true rfl)) dX14_readValue_58 ⟨Nat.zero_le _, Nat.zero_le _⟩) hh_3.1 (fun q _ h => h) (fun q h => h) (fun r_14 u_13 t_13 H_13 locs_13 ht_13 hvm_13 hr_14 hb_13 hz_13 hk_13 hS_13 => ?_)
          obtain ⟨qt_13, qn_13, qp_13, qb_13⟩ := u_13
          rw [ht_13] at hb_13
          obtain ⟨hb_131, hb_132, hb_133, hb_134, hb_135⟩ := hb_13
          have hh_13 : jSt (dC, dI) B base G0 G0 EX14_readValue s.heap 0 0 [(r0, 16, 29, .int qt_13), (r0, 16, 26, .int qn_13), (r0, 16, 28, .int qp_13), (r0, 16, 31, .int qb_13), (r0, 16, 30, .int pe)] [] [] H_13 locs_13 := (hh_3.call hb_131 hb_132 hb_133 hb_134 hS_13 rfl (L1 := [(r0, 16, 30, .int pe)]) [1] rfl rfl (M1 := []) [] rfl rfl (I1 := []) [] rfl rfl).more hb_135
          clear hh_3 ht_13 hvm_13 hz_13 hk_13 hS_13 hb_131 hb_132 hb_133 hb_134 hb_135
          try simp only at hr_14
          obtain ⟨hr_14_0, hr_14_1, hr_14_2, hr_14_3, hr_14_4, hr_14_5, hr_14_6, hr_14_7, hr_14_8, hr_14_9⟩ := hr_14
          rw [hQ]
          exact W.iret (v := r_14) hx hb hr (fun t ht hW => ⟨⟨r_14, (qt_13, qn_13, qp_13, qb_13), rfl, by first | omega | (refine ⟨?_, ?_, ?_, ?_, ?_, ?_, ?_, ?_, ?_, ?_⟩ <;> (first | omega | rfl | assumption | decide | exact Or.inl rfl | exact Or.inr rfl | (simp only; omega))), hh_13.rt (M1 := [(r0, 16, 29, .int qt_13), (r0, 16, 26, .int qn_13), (r0, 16, 28, .int qp_13), (r0, 16, 31, .int qb_13)]) [0, 1, 2, 3] rfl ht⟩, by rw [ht]; try exact hh_13.1.1, fun q h9 hq => by rw [ht]; try exact hh_13.1.2.1 q h9 hq⟩) hh_13.1.2.2 dX14_readValue_61
      · skip
        have c_7' : pb.toInt ≠ 0 := jb_eq_n (rfl) ((by decide)) c_7
        refine lv_iconst (v := 0) hx hb dX14_readValue_39 (by decide) ?_
        refine lv_goto (tgt := 61) hx hb dX14_readValue_40 (by decide) ?_
        rw [hQ]
        exact W.iret (v := 0) hx hb hr (fun t ht hW => ⟨⟨0, (qt_1, pn, pp, pb), rfl, by first | omega | (refine ⟨?_, ?_, ?_, ?_, ?_, ?_, ?_, ?_, ?_, ?_⟩ <;> (first | omega | rfl | assumption | decide | exact Or.inl rfl | exact Or.inr rfl | (simp only; omega))), hh_3.rt (M1 := [(r0, 16, 29, .int qt_1), (r0, 16, 26, .int pn), (r0, 16, 28, .int pp), (r0, 16, 31, .int pb)]) [0, 2, 3, 4] rfl ht⟩, by rw [ht]; try exact hh_3.1.1, fun q h9 hq => by rw [ht]; try exact hh_3.1.2.1 q h9 hq⟩) hh_3.1.2.2 dX14_readValue_61
    · skip
      have c_6' : a1.toInt = 10 := jb_ne_n (rfl) ((by decide)) c_6
      refine lv_aload_n hx hb dX14_readValue_27 rfl (lv_at hl 1 rfl) ?_
      refine lv_iconst (v := 1) hx hb dX14_readValue_28 (by decide) ?_
      refine j7_put hx hb hown hK hh_3 hB hAp hB16 (C := RX14) (T := TX14) (N := 74) rfl (by decide) hg_r0 (i := 31) (by decide) hly_16_31 rfl (hts (.fieldLink RX14 288 "ProofServerModel" "bad" "Z") (by decide +kernel)) rfl (ty := .boolean) (v := .int 1) (by decide +kernel) (jb_nz (Or.inr rfl)) (jb_fz (Or.inr rfl)) (⟨_, rfl, (Or.inr rfl)⟩) rfl (L1 := [(r0, 16, 29, .int qt_1), (r0, 16, 30, .int pe), (r0, 16, 26, .int pn), (r0, 16, 28, .int pp)]) [0, 1, 2, 3] rfl rfl rfl dX14_readValue_29 (fun H_15 locs_15 hh_15 => ?_)
      clear hh_3
      refine lv_aload_n hx hb dX14_readValue_32 rfl (lv_at hl 1 rfl) ?_
      refine j7_read hx hb hown hK (C := RX14) (T := TX14) (N := 74) rfl hly_16_31 (hts (.fieldLink RX14 288 "ProofServerModel" "bad" "Z") (by decide +kernel)) (hh_15.at 0 rfl) dX14_readValue_33 ?_
      refine lv_if_eq (tgt := 43) hx hb dX14_readValue_36 (by decide) (fun c_16 => ?_) (fun c_16 => ?_)
      · skip
        exact absurd c_16 (by decide)
      · skip
        refine lv_iconst (v := 0) hx hb dX14_readValue_39 (by decide) ?_
        refine lv_goto (tgt := 61) hx hb dX14_readValue_40 (by decide) ?_
        rw [hQ]
        exact W.iret (v := 0) hx hb hr (fun t ht hW => ⟨⟨0, (qt_1, pn, pp, 1), rfl, by first | omega | (refine ⟨?_, ?_, ?_, ?_, ?_, ?_, ?_, ?_, ?_, ?_⟩ <;> (first | omega | rfl | assumption | decide | exact Or.inl rfl | exact Or.inr rfl | (simp only; omega))), hh_15.rt (M1 := [(r0, 16, 29, .int qt_1), (r0, 16, 26, .int pn), (r0, 16, 28, .int pp), (r0, 16, 31, .int 1)]) [1, 3, 4, 0] rfl ht⟩, by rw [ht]; try exact hh_15.1.1, fun q h9 hq => by rw [ht]; try exact hh_15.1.2.1 q h9 hq⟩) hh_15.1.2.2 dX14_readValue_61
  · skip
    have c_5' : r_4.toInt ≠ 123 := jb_eq_n (rfl) ((by decide)) c_5
    first | replace hr_4_2 := hr_4_2.resolve_left (by omega) | replace hr_4_2 := hr_4_2.resolve_right (by omega) | skip
    refine lv_iload_n hx hb dX14_readValue_15 rfl (lv_at hl 0 rfl) ?_
    refine lv_bipush (v := 91) hx hb dX14_readValue_16 (by decide) ?_
    refine lv_icmp_ne (tgt := 62) hx hb dX14_readValue_18 (by decide) (fun c_17 => ?_) (fun c_17 => ?_)
    · skip
      have c_17' : r_4.toInt ≠ 91 := jb_ne (rfl) ((by decide)) c_17
      first | replace hr_4_2 := hr_4_2.resolve_left (by omega) | replace hr_4_2 := hr_4_2.resolve_right (by omega) | skip
      refine lv_iload_n hx hb dX14_readValue_62 rfl (lv_at hl 0 rfl) ?_
      refine lv_bipush (v := 34) hx hb dX14_readValue_63 (by decide) ?_
      refine lv_icmp_ne (tgt := 100) hx hb dX14_readValue_65 (by decide) (fun c_18 => ?_) (fun c_18 => ?_)
      · skip
        have c_18' : r_4.toInt ≠ 34 := jb_ne (rfl) ((by decide)) c_18
        first | replace hr_4_2 := hr_4_2.resolve_left (by omega) | replace hr_4_2 := hr_4_2.resolve_right (by omega) | skip
        refine lv_aload_n hx hb dX14_readValue_100 rfl (lv_at hl 1 rfl) ?_
        obtain ⟨str_19, rstr_19, hstr_190⟩ := hG.str (o := RX14) (k := 307) (tx := "null") (List.mem_of_getElem? (i := 2366) (by decide +kernel))
        have hstr_19 : jStr base str_19 4 s s.heap := hstr_190
        refine j_ldcSw hx hb hown rstr_19 dX14_readValue_101 ?_
        refine va_calli (A0 := jA base) (H0 := s.heap) (va_runV (As := [.ref str_19]) (rest := []) ⟨hx, hb, hml, hown, hts⟩ (uX14_takes l dC dI ca base B hB hAp hB16 hB110 G0 H_3 r0 str_19 4 qt_1 pe) (cwV 1 hts gX14_readValue_X14_takes rfl rfl rfl (by decide +kernel) ⟨by rw [← hR]; show (4) + 1 ≤ 2 * ef + 6; omega, by rw [← hR]; show 8 + (3 + 11) + (141) ≤ 130 * ef + 400; omega⟩) ⟨fun a U g mk q => by obtain ⟨q0, q1, q2, qK, q10, q11, q12, q13⟩ := q; exact ⟨q0, q1, q2, jG.calling g mk a qK, (q10.moved (Vm.Alike.refl U.vm)), q11, q12, q13⟩, hh_3.recv (C := RX14) (T := TX14) (N := 74) hB16 rfl (by decide) hg_r0 hK, fun U hU hW => ⟨rfl, hU, hh_3.2.1, hG.step hW hU hh_3.1, (hstr_19.moved hW.alike).kept hh_3.1.2.1, hg_r0, (hh_3.2.2.1.sub (L1 := [(r0, 16, 29, .int qt_1), (r0, 16, 30, .int pe)]) [0, 1] rfl), by first | omega | (refine ⟨?_, ?_, ?_, ?_, ?_, ?_, ?_⟩ <;> (first | omega | rfl | assumption | decide | exact Or.inl rfl | exact Or.inr rfl | (simp only; omega)))⟩⟩ rfl rfl hl.1 rfl (lv_room (Nat.le_of_ble_eq_true rfl)) dX14_readValue_104 ⟨Nat.zero_le _, Nat.zero_le _⟩) hh_3.1 (fun q _ h => h) (fun q h => h) (fun r_21 u_20 t_20 H_20 locs_20 ht_20 hvm_20 hr_21 hb_20 hz_20 hk_20 hS_20 => ?_)
        obtain ⟨qt_20, rfl⟩ : ∃ z, z = u_20 := ⟨_, rfl⟩
        rw [ht_20] at hb_20
        obtain ⟨hb_201, hb_202, hb_203, hb_204, hb_205⟩ := hb_20
        have hh_20 : jSt (dC, dI) B base G0 G0 EX14_readValue s.heap 0 0 [(r0, 16, 29, .int qt_20), (r0, 16, 30, .int pe), (r0, 16, 26, .int pn), (r0, 16, 28, .int pp), (r0, 16, 31, .int pb)] [] [] H_20 locs_20 := (hh_3.call hb_201 hb_202 hb_203 hb_204 hS_20 rfl (L1 := [(r0, 16, 30, .int pe), (r0, 16, 26, .int pn), (r0, 16, 28, .int pp), (r0, 16, 31, .int pb)]) [1, 2, 3, 4] rfl rfl (M1 := []) [] rfl rfl (I1 := []) [] rfl rfl).more hb_205
        clear hh_3 ht_20 hvm_20 hz_20 hk_20 hS_20 hb_201 hb_202 hb_203 hb_204 hb_205
        obtain ⟨hr_21b, hr_21p⟩ := hr_21
        obtain ⟨hr_21p_0, hr_21p_1, hr_21p_2⟩ := hr_21p
        have hr_21' := jb_01 hr_21b
        refine lv_if_eq (tgt := 116) hx hb dX14_readValue_107 (by decide) (fun c_22 => ?_) (fun c_22 => ?_)
        · skip
          have c_22' : r_21.toInt = 0 := jb_eq (rfl) ((by decide)) c_22
          refine lv_aload_n hx hb dX14_readValue_116 rfl (lv_at hl 1 rfl) ?_
          obtain ⟨str_23, rstr_23, hstr_230⟩ := hG.str (o := RX14) (k := 313) (tx := "true") (List.mem_of_getElem? (i := 2367) (by decide +kernel))
          have hstr_23 : jStr base str_23 4 s s.heap := hstr_230
          refine j_ldcSw hx hb hown rstr_23 dX14_readValue_117 ?_
          refine va_calli (A0 := jA base) (H0 := s.heap) (va_runV (As := [.ref str_23]) (rest := []) ⟨hx, hb, hml, hown, hts⟩ (uX14_takes l dC dI ca base B hB hAp hB16 hB110 G0 H_20 r0 str_23 4 qt_20 pe) (cwV 1 hts gX14_readValue_X14_takes rfl rfl rfl (by decide +kernel) ⟨by rw [← hR]; show (4) + 1 ≤ 2 * ef + 6; omega, by rw [← hR]; show 8 + (3 + 11) + (141) ≤ 130 * ef + 400; omega⟩) ⟨fun a U g mk q => by obtain ⟨q0, q1, q2, qK, q10, q11, q12, q13⟩ := q; exact ⟨q0, q1, q2, jG.calling g mk a qK, (q10.moved (Vm.Alike.refl U.vm)), q11, q12, q13⟩, hh_20.recv (C := RX14) (T := TX14) (N := 74) hB16 rfl (by decide) hg_r0 hK, fun U hU hW => ⟨rfl, hU, hh_20.2.1, hG.step hW hU hh_20.1, (hstr_23.moved hW.alike).kept hh_20.1.2.1, hg_r0, (hh_20.2.2.1.sub (L1 := [(r0, 16, 29, .int qt_20), (r0, 16, 30, .int pe)]) [0, 1] rfl), by first | omega | (refine ⟨?_, ?_, ?_, ?_, ?_, ?_, ?_⟩ <;> (first | omega | rfl | assumption | decide | exact Or.inl rfl | exact Or.inr rfl | (simp only; omega)))⟩⟩ rfl rfl hl.1 rfl (lv_room (Nat.le_of_ble_eq_true rfl)) dX14_readValue_120 ⟨Nat.zero_le _, Nat.zero_le _⟩) hh_20.1 (fun q _ h => h) (fun q h => h) (fun r_25 u_24 t_24 H_24 locs_24 ht_24 hvm_24 hr_25 hb_24 hz_24 hk_24 hS_24 => ?_)
          obtain ⟨qt_24, rfl⟩ : ∃ z, z = u_24 := ⟨_, rfl⟩
          rw [ht_24] at hb_24
          obtain ⟨hb_241, hb_242, hb_243, hb_244, hb_245⟩ := hb_24
          have hh_24 : jSt (dC, dI) B base G0 G0 EX14_readValue s.heap 0 0 [(r0, 16, 29, .int qt_24), (r0, 16, 30, .int pe), (r0, 16, 26, .int pn), (r0, 16, 28, .int pp), (r0, 16, 31, .int pb)] [] [] H_24 locs_24 := (hh_20.call hb_241 hb_242 hb_243 hb_244 hS_24 rfl (L1 := [(r0, 16, 30, .int pe), (r0, 16, 26, .int pn), (r0, 16, 28, .int pp), (r0, 16, 31, .int pb)]) [1, 2, 3, 4] rfl rfl (M1 := []) [] rfl rfl (I1 := []) [] rfl rfl).more hb_245
          clear hh_20 ht_24 hvm_24 hz_24 hk_24 hS_24 hb_241 hb_242 hb_243 hb_244 hb_245
          obtain ⟨hr_25b, hr_25p⟩ := hr_25
          obtain ⟨hr_25p_0, hr_25p_1, hr_25p_2⟩ := hr_25p
          have hr_25' := jb_01 hr_25b
          refine lv_if_eq (tgt := 132) hx hb dX14_readValue_123 (by decide) (fun c_26 => ?_) (fun c_26 => ?_)
          · skip
            have c_26' : r_25.toInt = 0 := jb_eq (rfl) ((by decide)) c_26
            refine lv_aload_n hx hb dX14_readValue_132 rfl (lv_at hl 1 rfl) ?_
            obtain ⟨str_27, rstr_27, hstr_270⟩ := hG.str (o := RX14) (k := 315) (tx := "false") (List.mem_of_getElem? (i := 2368) (by decide +kernel))
            have hstr_27 : jStr base str_27 5 s s.heap := hstr_270
            refine j_ldcSw hx hb hown rstr_27 dX14_readValue_133 ?_
            refine va_calli (A0 := jA base) (H0 := s.heap) (va_runV (As := [.ref str_27]) (rest := []) ⟨hx, hb, hml, hown, hts⟩ (uX14_takes l dC dI ca base B hB hAp hB16 hB110 G0 H_24 r0 str_27 5 qt_24 pe) (cwV 1 hts gX14_readValue_X14_takes rfl rfl rfl (by decide +kernel) ⟨by rw [← hR]; show (4) + 1 ≤ 2 * ef + 6; omega, by rw [← hR]; show 8 + (3 + 11) + (141) ≤ 130 * ef + 400; omega⟩) ⟨fun a U g mk q => by obtain ⟨q0, q1, q2, qK, q10, q11, q12, q13⟩ := q; exact ⟨q0, q1, q2, jG.calling g mk a qK, (q10.moved (Vm.Alike.refl U.vm)), q11, q12, q13⟩, hh_24.recv (C := RX14) (T := TX14) (N := 74) hB16 rfl (by decide) hg_r0 hK, fun U hU hW => ⟨rfl, hU, hh_24.2.1, hG.step hW hU hh_24.1, (hstr_27.moved hW.alike).kept hh_24.1.2.1, hg_r0, (hh_24.2.2.1.sub (L1 := [(r0, 16, 29, .int qt_24), (r0, 16, 30, .int pe)]) [0, 1] rfl), by first | omega | (refine ⟨?_, ?_, ?_, ?_, ?_, ?_, ?_⟩ <;> (first | omega | rfl | assumption | decide | exact Or.inl rfl | exact Or.inr rfl | (simp only; omega)))⟩⟩ rfl rfl hl.1 rfl (lv_room (Nat.le_of_ble_eq_true rfl)) dX14_readValue_136 ⟨Nat.zero_le _, Nat.zero_le _⟩) hh_24.1 (fun q _ h => h) (fun q h => h) (fun r_29 u_28 t_28 H_28 locs_28 ht_28 hvm_28 hr_29 hb_28 hz_28 hk_28 hS_28 => ?_)
            obtain ⟨qt_28, rfl⟩ : ∃ z, z = u_28 := ⟨_, rfl⟩
            rw [ht_28] at hb_28
            obtain ⟨hb_281, hb_282, hb_283, hb_284, hb_285⟩ := hb_28
            have hh_28 : jSt (dC, dI) B base G0 G0 EX14_readValue s.heap 0 0 [(r0, 16, 29, .int qt_28), (r0, 16, 30, .int pe), (r0, 16, 26, .int pn), (r0, 16, 28, .int pp), (r0, 16, 31, .int pb)] [] [] H_28 locs_28 := (hh_24.call hb_281 hb_282 hb_283 hb_284 hS_28 rfl (L1 := [(r0, 16, 30, .int pe), (r0, 16, 26, .int pn), (r0, 16, 28, .int pp), (r0, 16, 31, .int pb)]) [1, 2, 3, 4] rfl rfl (M1 := []) [] rfl rfl (I1 := []) [] rfl rfl).more hb_285
            clear hh_24 ht_28 hvm_28 hz_28 hk_28 hS_28 hb_281 hb_282 hb_283 hb_284 hb_285
            obtain ⟨hr_29b, hr_29p⟩ := hr_29
            obtain ⟨hr_29p_0, hr_29p_1, hr_29p_2⟩ := hr_29p
            have hr_29' := jb_01 hr_29b
            refine lv_if_eq (tgt := 148) hx hb dX14_readValue_139 (by decide) (fun c_30 => ?_) (fun c_30 => ?_)
            · skip
              have c_30' : r_29.toInt = 0 := jb_eq (rfl) ((by decide)) c_30
              refine lv_aload_n hx hb dX14_readValue_148 rfl (lv_at hl 1 rfl) ?_
              refine va_calli (A0 := jA base) (H0 := s.heap) (va_runV (As := []) (rest := []) ⟨hx, hb, hml, hown, hts⟩ (uX14_readNumber l dC dI ca base B hB hAp hB16 hB110 hB117 hB118 hB119 hB124 hB125 G0 H_28 r0 qt_28 pe pn) (cwV 0 hts gX14_readValue_X14_readNumber rfl rfl rfl (by decide +kernel) ⟨by rw [← hR]; show (3) + 1 ≤ 2 * ef + 6; omega, by rw [← hR]; show 8 + (9 + 11) + (62) ≤ 130 * ef + 400; omega⟩) ⟨fun a U g mk q => by obtain ⟨q0, q1, q2, qK, q10, q11, q12⟩ := q; exact ⟨q0, q1, q2, jG.calling g mk a qK, q10, q11, q12⟩, hh_28.recv (C := RX14) (T := TX14) (N := 74) hB16 rfl (by decide) hg_r0 hK, fun U hU hW => ⟨rfl, hU, hh_28.2.1, hG.step hW hU hh_28.1, hg_r0, (hh_28.2.2.1.sub (L1 := [(r0, 16, 29, .int qt_28), (r0, 16, 30, .int pe), (r0, 16, 26, .int pn)]) [0, 1, 2] rfl), by first | omega | (refine ⟨?_, ?_, ?_, ?_, ?_, ?_, ?_⟩ <;> (first | omega | rfl | assumption | decide | exact Or.inl rfl | exact Or.inr rfl | (simp only; omega)))⟩⟩ rfl rfl hl.1 rfl (lv_room (Nat.le_of_ble_eq_true rfl)) dX14_readValue_149 ⟨Nat.zero_le _, Nat.zero_le _⟩) hh_28.1 (fun q _ h => h) (fun q h => h) (fun r_32 u_31 t_31 H_31 locs_31 ht_31 hvm_31 hr_32 hb_31 hz_31 hk_31 hS_31 => ?_)
              obtain ⟨qt_31, qn_31, qb_31⟩ := u_31
              rw [ht_31] at hb_31
              obtain ⟨hb_311, hb_312, hb_313, hb_314, hb_315⟩ := hb_31
              have hh_31 : jSt (dC, dI) B base G0 G0 EX14_readValue s.heap 0 0 [(r0, 16, 29, .int qt_31), (r0, 16, 26, .int qn_31), (r0, 16, 31, .int qb_31), (r0, 16, 30, .int pe), (r0, 16, 28, .int pp)] [] [] H_31 locs_31 := (hh_28.call hb_311 hb_312 hb_313 hb_314 hS_31 rfl (L1 := [(r0, 16, 30, .int pe), (r0, 16, 28, .int pp)]) [1, 3] rfl rfl (M1 := []) [] rfl rfl (I1 := []) [] rfl rfl).more hb_315
              clear hh_28 ht_31 hvm_31 hz_31 hk_31 hS_31 hb_311 hb_312 hb_313 hb_314 hb_315
              try simp only at hr_32
              obtain ⟨hr_32_0, hr_32_1, hr_32_2, hr_32_3, hr_32_4⟩ := hr_32
              rw [hQ]
              exact W.iret (v := r_32) hx hb hr (fun t ht hW => ⟨⟨r_32, (qt_31, qn_31, pp, qb_31), rfl, by first | omega | (refine ⟨?_, ?_, ?_, ?_, ?_, ?_, ?_, ?_, ?_, ?_⟩ <;> (first | omega | rfl | assumption | decide | exact Or.inl rfl | exact Or.inr rfl | (simp only; omega))), hh_31.rt (M1 := [(r0, 16, 29, .int qt_31), (r0, 16, 26, .int qn_31), (r0, 16, 28, .int pp), (r0, 16, 31, .int qb_31)]) [0, 1, 4, 2] rfl ht⟩, by rw [ht]; try exact hh_31.1.1, fun q h9 hq => by rw [ht]; try exact hh_31.1.2.1 q h9 hq⟩) hh_31.1.2.2 dX14_readValue_152
            · skip
              have c_30' : r_29.toInt ≠ 0 := jb_eq_n (rfl) ((by decide)) c_30
              refine lv_aload_n hx hb dX14_readValue_142 rfl (lv_at hl 1 rfl) ?_
              refine lv_iconst (v := 2) hx hb dX14_readValue_143 (by decide) ?_
              refine va_calli (A0 := jA base) (H0 := s.heap) (va_runV (As := [.int 2]) (rest := []) ⟨hx, hb, hml, hown, hts⟩ (uX14_node l dC dI ca base B hB hAp hB16 hB117 hB118 hB119 hB124 G0 H_28 r0 2 pn) (cwV 1 hts gX14_readValue_X14_node rfl rfl rfl (by decide +kernel) ⟨by rw [← hR]; show (0) + 1 ≤ 2 * ef + 6; omega, by rw [← hR]; show 8 + (2 + 11) + (0) ≤ 130 * ef + 400; omega⟩) ⟨fun a U g mk q => by obtain ⟨q0, q1, q2, qK, q10, q11, q12⟩ := q; exact ⟨q0, q1, q2, jG.calling g mk a qK, q10, q11, q12⟩, hh_28.recv (C := RX14) (T := TX14) (N := 74) hB16 rfl (by decide) hg_r0 hK, fun U hU hW => ⟨rfl, hU, hh_28.2.1, hG.step hW hU hh_28.1, hg_r0, (hh_28.2.2.1.sub (L1 := [(r0, 16, 26, .int pn)]) [2] rfl), by first | omega | (refine ⟨?_, ?_⟩ <;> (first | omega | rfl | assumption | decide | exact Or.inl rfl | exact Or.inr rfl | (simp only; omega)))⟩⟩ rfl rfl hl.1 rfl (lv_room (Nat.le_of_ble_eq_true rfl)) dX14_readValue_144 ⟨Nat.zero_le _, Nat.zero_le _⟩) hh_28.1 (fun q _ h => h) (fun q h => h) (fun r_34 u_33 t_33 H_33 locs_33 ht_33 hvm_33 hr_34 hb_33 hz_33 hk_33 hS_33 => ?_)
              obtain ⟨qn_33, rfl⟩ : ∃ z, z = u_33 := ⟨_, rfl⟩
              rw [ht_33] at hb_33
              obtain ⟨hb_331, hb_332, hb_333, hb_334, hb_335⟩ := hb_33
              have hh_33 : jSt (dC, dI) B base G0 G0 EX14_readValue s.heap 0 0 [(r0, 16, 26, .int qn_33), (r0, 16, 29, .int qt_28), (r0, 16, 30, .int pe), (r0, 16, 28, .int pp), (r0, 16, 31, .int pb)] [] [] H_33 locs_33 := (hh_28.call hb_331 hb_332 hb_333 hb_334 hS_33 rfl (L1 := [(r0, 16, 29, .int qt_28), (r0, 16, 30, .int pe), (r0, 16, 28, .int pp), (r0, 16, 31, .int pb)]) [0, 1, 3, 4] rfl rfl (M1 := []) [] rfl rfl (I1 := []) [] rfl rfl).more hb_335
              clear hh_28 ht_33 hvm_33 hz_33 hk_33 hS_33 hb_331 hb_332 hb_333 hb_334 hb_335
              obtain ⟨hr_34_0, hr_34_1⟩ := hr_34
              rw [hQ]
              exact W.iret (v := r_34) hx hb hr (fun t ht hW => ⟨⟨r_34, (qt_28, qn_33, pp, pb), rfl, by first | omega | (refine ⟨?_, ?_, ?_, ?_, ?_, ?_, ?_, ?_, ?_, ?_⟩ <;> (first | omega | rfl | assumption | decide | exact Or.inl rfl | exact Or.inr rfl | (simp only; omega))), hh_33.rt (M1 := [(r0, 16, 29, .int qt_28), (r0, 16, 26, .int qn_33), (r0, 16, 28, .int pp), (r0, 16, 31, .int pb)]) [1, 0, 3, 4] rfl ht⟩, by rw [ht]; try exact hh_33.1.1, fun q h9 hq => by rw [ht]; try exact hh_33.1.2.1 q h9 hq⟩) hh_33.1.2.2 dX14_readValue_147
          · skip
            have c_26' : r_25.toInt ≠ 0 := jb_eq_n (rfl) ((by decide)) c_26
            refine lv_aload_n hx hb dX14_readValue_126 rfl (lv_at hl 1 rfl) ?_
            refine lv_iconst (v := 1) hx hb dX14_readValue_127 (by decide) ?_
            refine va_calli (A0 := jA base) (H0 := s.heap) (va_runV (As := [.int 1]) (rest := []) ⟨hx, hb, hml, hown, hts⟩ (uX14_node l dC dI ca base B hB hAp hB16 hB117 hB118 hB119 hB124 G0 H_24 r0 1 pn) (cwV 1 hts gX14_readValue_X14_node rfl rfl rfl (by decide +kernel) ⟨by rw [← hR]; show (0) + 1 ≤ 2 * ef + 6; omega, by rw [← hR]; show 8 + (2 + 11) + (0) ≤ 130 * ef + 400; omega⟩) ⟨fun a U g mk q => by obtain ⟨q0, q1, q2, qK, q10, q11, q12⟩ := q; exact ⟨q0, q1, q2, jG.calling g mk a qK, q10, q11, q12⟩, hh_24.recv (C := RX14) (T := TX14) (N := 74) hB16 rfl (by decide) hg_r0 hK, fun U hU hW => ⟨rfl, hU, hh_24.2.1, hG.step hW hU hh_24.1, hg_r0, (hh_24.2.2.1.sub (L1 := [(r0, 16, 26, .int pn)]) [2] rfl), by first | omega | (refine ⟨?_, ?_⟩ <;> (first | omega | rfl | assumption | decide | exact Or.inl rfl | exact Or.inr rfl | (simp only; omega)))⟩⟩ rfl rfl hl.1 rfl (lv_room (Nat.le_of_ble_eq_true rfl)) dX14_readValue_128 ⟨Nat.zero_le _, Nat.zero_le _⟩) hh_24.1 (fun q _ h => h) (fun q h => h) (fun r_36 u_35 t_35 H_35 locs_35 ht_35 hvm_35 hr_36 hb_35 hz_35 hk_35 hS_35 => ?_)
            obtain ⟨qn_35, rfl⟩ : ∃ z, z = u_35 := ⟨_, rfl⟩
            rw [ht_35] at hb_35
            obtain ⟨hb_351, hb_352, hb_353, hb_354, hb_355⟩ := hb_35
            have hh_35 : jSt (dC, dI) B base G0 G0 EX14_readValue s.heap 0 0 [(r0, 16, 26, .int qn_35), (r0, 16, 29, .int qt_24), (r0, 16, 30, .int pe), (r0, 16, 28, .int pp), (r0, 16, 31, .int pb)] [] [] H_35 locs_35 := (hh_24.call hb_351 hb_352 hb_353 hb_354 hS_35 rfl (L1 := [(r0, 16, 29, .int qt_24), (r0, 16, 30, .int pe), (r0, 16, 28, .int pp), (r0, 16, 31, .int pb)]) [0, 1, 3, 4] rfl rfl (M1 := []) [] rfl rfl (I1 := []) [] rfl rfl).more hb_355
            clear hh_24 ht_35 hvm_35 hz_35 hk_35 hS_35 hb_351 hb_352 hb_353 hb_354 hb_355
            obtain ⟨hr_36_0, hr_36_1⟩ := hr_36
            rw [hQ]
            exact W.iret (v := r_36) hx hb hr (fun t ht hW => ⟨⟨r_36, (qt_24, qn_35, pp, pb), rfl, by first | omega | (refine ⟨?_, ?_, ?_, ?_, ?_, ?_, ?_, ?_, ?_, ?_⟩ <;> (first | omega | rfl | assumption | decide | exact Or.inl rfl | exact Or.inr rfl | (simp only; omega))), hh_35.rt (M1 := [(r0, 16, 29, .int qt_24), (r0, 16, 26, .int qn_35), (r0, 16, 28, .int pp), (r0, 16, 31, .int pb)]) [1, 0, 3, 4] rfl ht⟩, by rw [ht]; try exact hh_35.1.1, fun q h9 hq => by rw [ht]; try exact hh_35.1.2.1 q h9 hq⟩) hh_35.1.2.2 dX14_readValue_131
        · skip
          have c_22' : r_21.toInt ≠ 0 := jb_eq_n (rfl) ((by decide)) c_22
          refine lv_aload_n hx hb dX14_readValue_110 rfl (lv_at hl 1 rfl) ?_
          refine lv_iconst (v := 0) hx hb dX14_readValue_111 (by decide) ?_
          refine va_calli (A0 := jA base) (H0 := s.heap) (va_runV (As := [.int 0]) (rest := []) ⟨hx, hb, hml, hown, hts⟩ (uX14_node l dC dI ca base B hB hAp hB16 hB117 hB118 hB119 hB124 G0 H_20 r0 0 pn) (cwV 1 hts gX14_readValue_X14_node rfl rfl rfl (by decide +kernel) ⟨by rw [← hR]; show (0) + 1 ≤ 2 * ef + 6; omega, by rw [← hR]; show 8 + (2 + 11) + (0) ≤ 130 * ef + 400; omega⟩) ⟨fun a U g mk q => by obtain ⟨q0, q1, q2, qK, q10, q11, q12⟩ := q; exact ⟨q0, q1, q2, jG.calling g mk a qK, q10, q11, q12⟩, hh_20.recv (C := RX14) (T := TX14) (N := 74) hB16 rfl (by decide) hg_r0 hK, fun U hU hW => ⟨rfl, hU, hh_20.2.1, hG.step hW hU hh_20.1, hg_r0, (hh_20.2.2.1.sub (L1 := [(r0, 16, 26, .int pn)]) [2] rfl), by first | omega | (refine ⟨?_, ?_⟩ <;> (first | omega | rfl | assumption | decide | exact Or.inl rfl | exact Or.inr rfl | (simp only; omega)))⟩⟩ rfl rfl hl.1 rfl (lv_room (Nat.le_of_ble_eq_true rfl)) dX14_readValue_112 ⟨Nat.zero_le _, Nat.zero_le _⟩) hh_20.1 (fun q _ h => h) (fun q h => h) (fun r_38 u_37 t_37 H_37 locs_37 ht_37 hvm_37 hr_38 hb_37 hz_37 hk_37 hS_37 => ?_)
          obtain ⟨qn_37, rfl⟩ : ∃ z, z = u_37 := ⟨_, rfl⟩
          rw [ht_37] at hb_37
          obtain ⟨hb_371, hb_372, hb_373, hb_374, hb_375⟩ := hb_37
          have hh_37 : jSt (dC, dI) B base G0 G0 EX14_readValue s.heap 0 0 [(r0, 16, 26, .int qn_37), (r0, 16, 29, .int qt_20), (r0, 16, 30, .int pe), (r0, 16, 28, .int pp), (r0, 16, 31, .int pb)] [] [] H_37 locs_37 := (hh_20.call hb_371 hb_372 hb_373 hb_374 hS_37 rfl (L1 := [(r0, 16, 29, .int qt_20), (r0, 16, 30, .int pe), (r0, 16, 28, .int pp), (r0, 16, 31, .int pb)]) [0, 1, 3, 4] rfl rfl (M1 := []) [] rfl rfl (I1 := []) [] rfl rfl).more hb_375
          clear hh_20 ht_37 hvm_37 hz_37 hk_37 hS_37 hb_371 hb_372 hb_373 hb_374 hb_375
          obtain ⟨hr_38_0, hr_38_1⟩ := hr_38
          rw [hQ]
          exact W.iret (v := r_38) hx hb hr (fun t ht hW => ⟨⟨r_38, (qt_20, qn_37, pp, pb), rfl, by first | omega | (refine ⟨?_, ?_, ?_, ?_, ?_, ?_, ?_, ?_, ?_, ?_⟩ <;> (first | omega | rfl | assumption | decide | exact Or.inl rfl | exact Or.inr rfl | (simp only; omega))), hh_37.rt (M1 := [(r0, 16, 29, .int qt_20), (r0, 16, 26, .int qn_37), (r0, 16, 28, .int pp), (r0, 16, 31, .int pb)]) [1, 0, 3, 4] rfl ht⟩, by rw [ht]; try exact hh_37.1.1, fun q h9 hq => by rw [ht]; try exact hh_37.1.2.1 q h9 hq⟩) hh_37.1.2.2 dX14_readValue_115
      · skip
        have c_18' : r_4.toInt = 34 := jb_ne_n (rfl) ((by decide)) c_18
        first | replace hr_4_2 := hr_4_2.resolve_left (by omega) | replace hr_4_2 := hr_4_2.resolve_right (by omega) | skip
        refine lv_aload_n hx hb dX14_readValue_68 rfl (lv_at hl 1 rfl) ?_
        refine lv_iconst (v := 4) hx hb dX14_readValue_69 (by decide) ?_
        refine va_calli (A0 := jA base) (H0 := s.heap) (va_runV (As := [.int 4]) (rest := []) ⟨hx, hb, hml, hown, hts⟩ (uX14_node l dC dI ca base B hB hAp hB16 hB117 hB118 hB119 hB124 G0 H_3 r0 4 pn) (cwV 1 hts gX14_readValue_X14_node rfl rfl rfl (by decide +kernel) ⟨by rw [← hR]; show (0) + 1 ≤ 2 * ef + 6; omega, by rw [← hR]; show 8 + (2 + 11) + (0) ≤ 130 * ef + 400; omega⟩) ⟨fun a U g mk q => by obtain ⟨q0, q1, q2, qK, q10, q11, q12⟩ := q; exact ⟨q0, q1, q2, jG.calling g mk a qK, q10, q11, q12⟩, hh_3.recv (C := RX14) (T := TX14) (N := 74) hB16 rfl (by decide) hg_r0 hK, fun U hU hW => ⟨rfl, hU, hh_3.2.1, hG.step hW hU hh_3.1, hg_r0, (hh_3.2.2.1.sub (L1 := [(r0, 16, 26, .int pn)]) [2] rfl), by first | omega | (refine ⟨?_, ?_⟩ <;> (first | omega | rfl | assumption | decide | exact Or.inl rfl | exact Or.inr rfl | (simp only; omega)))⟩⟩ rfl rfl hl.1 rfl (lv_room (Nat.le_of_ble_eq_true rfl)) dX14_readValue_70 ⟨Nat.zero_le _, Nat.zero_le _⟩) hh_3.1 (fun q _ h => h) (fun q h => h) (fun r_40 u_39 t_39 H_39 locs_39 ht_39 hvm_39 hr_40 hb_39 hz_39 hk_39 hS_39 => ?_)
        obtain ⟨qn_39, rfl⟩ : ∃ z, z = u_39 := ⟨_, rfl⟩
        rw [ht_39] at hb_39
        obtain ⟨hb_391, hb_392, hb_393, hb_394, hb_395⟩ := hb_39
        have hh_39 : jSt (dC, dI) B base G0 G0 EX14_readValue s.heap 0 0 [(r0, 16, 26, .int qn_39), (r0, 16, 29, .int qt_1), (r0, 16, 30, .int pe), (r0, 16, 28, .int pp), (r0, 16, 31, .int pb)] [] [] H_39 locs_39 := (hh_3.call hb_391 hb_392 hb_393 hb_394 hS_39 rfl (L1 := [(r0, 16, 29, .int qt_1), (r0, 16, 30, .int pe), (r0, 16, 28, .int pp), (r0, 16, 31, .int pb)]) [0, 1, 3, 4] rfl rfl (M1 := []) [] rfl rfl (I1 := []) [] rfl rfl).more hb_395
        clear hh_3 ht_39 hvm_39 hz_39 hk_39 hS_39 hb_391 hb_392 hb_393 hb_394 hb_395
        obtain ⟨hr_40_0, hr_40_1⟩ := hr_40
        refine lv_istore_n (lv' := [(3, .int r_40), (2, .int r_4), (0, .ref r0), (1, .int a1)]) hx hb dX14_readValue_73 rfl hl (by decide) rfl (fun ls hl => ?_)
        refine lv_aload_n hx hb dX14_readValue_74 rfl (lv_at hl 2 rfl) ?_
        refine va_callv (A0 := jA base) (H0 := s.heap) (va_runV (As := []) (rest := []) ⟨hx, hb, hml, hown, hts⟩ (uX14_readString l dC dI ca base B hB hAp hB16 hB110 hB127 G0 H_39 r0 qt_1 pe pp pb) (cwV 0 hts gX14_readValue_X14_readString rfl rfl rfl (by decide +kernel) ⟨by rw [← hR]; show (6) + 1 ≤ 2 * ef + 6; omega, by rw [← hR]; show 8 + (4 + 11) + (206) ≤ 130 * ef + 400; omega⟩) ⟨fun a U g mk q => by obtain ⟨q0, q1, q2, qK, q10, q11, q12⟩ := q; exact ⟨q0, q1, q2, jG.calling g mk a qK, q10, q11, q12⟩, hh_39.recv (C := RX14) (T := TX14) (N := 74) hB16 rfl (by decide) hg_r0 hK, fun U hU hW => ⟨rfl, hU, hh_39.2.1, hG.step hW hU hh_39.1, hg_r0, (hh_39.2.2.1.sub (L1 := [(r0, 16, 29, .int qt_1), (r0, 16, 30, .int pe), (r0, 16, 28, .int pp), (r0, 16, 31, .int pb)]) [1, 2, 3, 4] rfl), by first | omega | (refine ⟨?_, ?_, ?_, ?_, ?_, ?_, ?_, ?_⟩ <;> (first | omega | rfl | assumption | decide | exact Or.inl rfl | exact Or.inr rfl | (simp only; omega)))⟩⟩ rfl rfl hl.1 rfl (lv_room (Nat.le_of_ble_eq_true rfl)) dX14_readValue_75 ⟨Nat.zero_le _, Nat.zero_le _⟩) hh_39.1 (fun q _ h => h) (fun q h => h) (fun u_41 t_41 H_41 locs_41 ht_41 hvm_41 hr_42 hb_41 hz_41 hk_41 hS_41 => ?_)
        obtain ⟨qt_41, qp_41, qb_41, qs_41⟩ := u_41
        rw [ht_41] at hb_41
        obtain ⟨hb_411, hb_412, hb_413, hb_414, hb_415⟩ := hb_41
        have hh_41 : jSt (dC, dI) B base G0 G0 EX14_readValue s.heap 0 0 [(r0, 16, 29, .int qt_41), (r0, 16, 28, .int qp_41), (r0, 16, 31, .int qb_41), (r0, 16, 32, .int qs_41), (r0, 16, 26, .int qn_39), (r0, 16, 30, .int pe)] [] [] H_41 locs_41 := (hh_39.call hb_411 hb_412 hb_413 hb_414 hS_41 rfl (L1 := [(r0, 16, 26, .int qn_39), (r0, 16, 30, .int pe)]) [0, 2] rfl rfl (M1 := []) [] rfl rfl (I1 := []) [] rfl rfl).more hb_415
        clear hh_39 ht_41 hvm_41 hz_41 hk_41 hS_41 hb_411 hb_412 hb_413 hb_414 hb_415
        try simp only at hr_42
        obtain ⟨hr_42_0, hr_42_1, hr_42_2, hr_42_3, hr_42_4, hr_42_5, hr_42_6⟩ := hr_42
        refine lv_aload_n hx hb dX14_readValue_78 rfl (lv_at hl 2 rfl) ?_
        obtain ⟨v_43, hv_43, hh_44⟩ := hh_41.pin (C := RX14) (T := TX14) (N := 74) hB16 rfl (by decide) hg_r0 (i := 22) (by decide) rfl
        clear hh_41
        obtain ⟨from_45, rfl, hg_from_45⟩ := hv_43
        refine j7_read hx hb hown hK (C := RX14) (T := TX14) (N := 74) rfl hly_16_22 (hts (.fieldLink RX14 52 "ProofServerModel" "from" "[I") (by decide +kernel)) (hh_44.at 0 rfl) dX14_readValue_79 ?_
        refine lv_iload_n hx hb dX14_readValue_82 rfl (lv_at hl 0 rfl) ?_
        refine lv_aload_n hx hb dX14_readValue_83 rfl (lv_at hl 2 rfl) ?_
        refine j7_read hx hb hown hK (C := RX14) (T := TX14) (N := 74) rfl hly_16_32 (hts (.fieldLink RX14 301 "ProofServerModel" "stringFrom" "I") (by decide +kernel)) (hh_44.at 4 rfl) dX14_readValue_84 ?_
        refine j7_iast hx hb hK hh_44 hB hB122 1 rfl (by decide) (by decide) rfl rfl rfl hg_from_45 (rfl) (by omega) (by first | omega | (refine ⟨?_, ?_⟩ <;> (first | omega | rfl | assumption | decide | exact Or.inl rfl | exact Or.inr rfl | (simp only; omega)))) dX14_readValue_87 (fun H_46 locs_46 hh_46 => ?_)
        clear hh_44
        refine lv_aload_n hx hb dX14_readValue_88 rfl (lv_at hl 2 rfl) ?_
        obtain ⟨v_47, hv_47, hh_48⟩ := hh_46.pin (C := RX14) (T := TX14) (N := 74) hB16 rfl (by decide) hg_r0 (i := 23) (by decide) rfl
        clear hh_46
        obtain ⟨to_49, rfl, hg_to_49⟩ := hv_47
        refine j7_read hx hb hown hK (C := RX14) (T := TX14) (N := 74) rfl hly_16_23 (hts (.fieldLink RX14 55 "ProofServerModel" "to" "[I") (by decide +kernel)) (hh_48.at 0 rfl) dX14_readValue_89 ?_
        refine lv_iload_n hx hb dX14_readValue_92 rfl (lv_at hl 0 rfl) ?_
        refine lv_aload_n hx hb dX14_readValue_93 rfl (lv_at hl 2 rfl) ?_
        refine j7_read hx hb hown hK (C := RX14) (T := TX14) (N := 74) rfl hly_16_28 (hts (.fieldLink RX14 304 "ProofServerModel" "pooled" "I") (by decide +kernel)) (hh_48.at 3 rfl) dX14_readValue_94 ?_
        refine j7_iast hx hb hK hh_48 hB hB123 1 rfl (by decide) (by decide) rfl rfl rfl hg_to_49 (rfl) (by omega) (by first | omega | (refine ⟨?_, ?_⟩ <;> (first | omega | rfl | assumption | decide | exact Or.inl rfl | exact Or.inr rfl | (simp only; omega)))) dX14_readValue_97 (fun H_50 locs_50 hh_50 => ?_)
        clear hh_48
        refine lv_iload_n hx hb dX14_readValue_98 rfl (lv_at hl 0 rfl) ?_
        rw [hQ]
        exact W.iret (v := r_40) hx hb hr (fun t ht hW => ⟨⟨r_40, (qt_41, qn_39, qp_41, qb_41), rfl, by first | omega | (refine ⟨?_, ?_, ?_, ?_, ?_, ?_, ?_, ?_, ?_, ?_⟩ <;> (first | omega | rfl | assumption | decide | exact Or.inl rfl | exact Or.inr rfl | (simp only; omega))), hh_50.rt (M1 := [(r0, 16, 29, .int qt_41), (r0, 16, 26, .int qn_39), (r0, 16, 28, .int qp_41), (r0, 16, 31, .int qb_41)]) [2, 6, 3, 4] rfl ht⟩, by rw [ht]; try exact hh_50.1.1, fun q h9 hq => by rw [ht]; try exact hh_50.1.2.1 q h9 hq⟩) hh_50.1.2.2 dX14_readValue_99
    · skip
      have c_17' : r_4.toInt = 91 := jb_ne_n (rfl) ((by decide)) c_17
      first | replace hr_4_2 := hr_4_2.resolve_left (by omega) | replace hr_4_2 := hr_4_2.resolve_right (by omega) | skip
      refine lv_iload_n hx hb dX14_readValue_21 rfl (lv_at hl 2 rfl) ?_
      refine lv_bipush (v := 10) hx hb dX14_readValue_22 (by decide) ?_
      refine lv_icmp_ne (tgt := 32) hx hb dX14_readValue_24 (by decide) (fun c_51 => ?_) (fun c_51 => ?_)
      · skip
        have c_51' : a1.toInt ≠ 10 := jb_ne (rfl) ((by decide)) c_51
        refine lv_aload_n hx hb dX14_readValue_32 rfl (lv_at hl 1 rfl) ?_
        refine j7_read hx hb hown hK (C := RX14) (T := TX14) (N := 74) rfl hly_16_31 (hts (.fieldLink RX14 288 "ProofServerModel" "bad" "Z") (by decide +kernel)) (hh_3.at 4 rfl) dX14_readValue_33 ?_
        refine lv_if_eq (tgt := 43) hx hb dX14_readValue_36 (by decide) (fun c_52 => ?_) (fun c_52 => ?_)
        · skip
          have c_52' : pb.toInt = 0 := jb_eq (rfl) ((by decide)) c_52
          refine lv_aload_n hx hb dX14_readValue_43 rfl (lv_at hl 1 rfl) ?_
          refine lv_iload_n hx hb dX14_readValue_44 rfl (lv_at hl 0 rfl) ?_
          refine lv_bipush (v := 123) hx hb dX14_readValue_45 (by decide) ?_
          refine lv_icmp_ne (tgt := 54) hx hb dX14_readValue_47 (by decide) (fun c_53 => ?_) (fun c_53 => ?_)
          · skip
            have c_53' : r_4.toInt ≠ 123 := jb_ne (rfl) ((by decide)) c_53
            first | replace hr_4_2 := hr_4_2.resolve_left (by omega) | replace hr_4_2 := hr_4_2.resolve_right (by omega) | skip
            refine lv_iconst (v := 0) hx hb dX14_readValue_54 (by decide) ?_
            refine lv_iload_n hx hb dX14_readValue_55 rfl (lv_at hl 2 rfl) ?_
            refine lv_iconst (v := 1) hx hb dX14_readValue_56 (by decide) ?_
            refine lv_iadd hx hb dX14_readValue_57 ?_
            refine lv_topi (fun z_54 ez_54 => ?_)
            have hz_54 : z_54.toInt = a1.toInt + 1 := by rw [ez_54]; exact jb_iadd2 (rfl) ((by decide)) (by omega)
            refine va_calli (A0 := jA base) (H0 := s.heap) (va_runV (As := [.int 0, .int z_54]) (rest := []) ⟨hx, hb, hml, hown, hts⟩ (ihM (ef - 1) (by omega) G0 H_3 r0 0 z_54 qt_1 pe pn pp pb) (cwV 2 hts gX14_readValue_X14_readMany rfl rfl rfl (by decide +kernel) ⟨by rw [← hR]; show (2 * (ef - 1) + 7) + 1 ≤ 2 * ef + 6; omega, by rw [← hR]; show 8 + (10 + 11) + (130 * (ef - 1) + 460) ≤ 130 * ef + 400; omega⟩) ⟨fun a U g mk q => by obtain ⟨q0, q1, q2, qK, q10, q11, q12⟩ := q; exact ⟨q0, q1, q2, jG.calling g mk a qK, q10, q11, q12⟩, hh_3.recv (C := RX14) (T := TX14) (N := 74) hB16 rfl (by decide) hg_r0 hK, fun U hU hW => ⟨rfl, hU, hh_3.2.1, hG.step hW hU hh_3.1, hg_r0, (hh_3.2.2.1.sub (L1 := [(r0, 16, 29, .int qt_1), (r0, 16, 30, .int pe), (r0, 16, 26, .int pn), (r0, 16, 28, .int pp), (r0, 16, 31, .int pb)]) [0, 1, 2, 3, 4] rfl), by first | omega | (refine ⟨?_, ?_, ?_, ?_, ?_, ?_, ?_, ?_, ?_, ?_, ?_, ?_⟩ <;> (first | omega | rfl | assumption | decide | exact Or.inl rfl | exact Or.inr rfl | (simp only; omega)))⟩⟩ rfl rfl hl.1 rfl (lv_room (Nat.le_of_ble_eq_true rfl)) dX14_readValue_58 ⟨Nat.zero_le _, Nat.zero_le _⟩) hh_3.1 (fun q _ h => h) (fun q h => h) (fun r_56 u_55 t_55 H_55 locs_55 ht_55 hvm_55 hr_56 hb_55 hz_55 hk_55 hS_55 => ?_)
            obtain ⟨qt_55, qn_55, qp_55, qb_55⟩ := u_55
            rw [ht_55] at hb_55
            obtain ⟨hb_551, hb_552, hb_553, hb_554, hb_555⟩ := hb_55
            have hh_55 : jSt (dC, dI) B base G0 G0 EX14_readValue s.heap 0 0 [(r0, 16, 29, .int qt_55), (r0, 16, 26, .int qn_55), (r0, 16, 28, .int qp_55), (r0, 16, 31, .int qb_55), (r0, 16, 30, .int pe)] [] [] H_55 locs_55 := (hh_3.call hb_551 hb_552 hb_553 hb_554 hS_55 rfl (L1 := [(r0, 16, 30, .int pe)]) [1] rfl rfl (M1 := []) [] rfl rfl (I1 := []) [] rfl rfl).more hb_555
            clear hh_3 ht_55 hvm_55 hz_55 hk_55 hS_55 hb_551 hb_552 hb_553 hb_554 hb_555
            try simp only at hr_56
            obtain ⟨hr_56_0, hr_56_1, hr_56_2, hr_56_3, hr_56_4, hr_56_5, hr_56_6, hr_56_7, hr_56_8, hr_56_9⟩ := hr_56
            rw [hQ]
            exact W.iret (v := r_56) hx hb hr (fun t ht hW => ⟨⟨r_56, (qt_55, qn_55, qp_55, qb_55), rfl, by first | omega | (refine ⟨?_, ?_, ?_, ?_, ?_, ?_, ?_, ?_, ?_, ?_⟩ <;> (first | omega | rfl | assumption | decide | exact Or.inl rfl | exact Or.inr rfl | (simp only; omega))), hh_55.rt (M1 := [(r0, 16, 29, .int qt_55), (r0, 16, 26, .int qn_55), (r0, 16, 28, .int qp_55), (r0, 16, 31, .int qb_55)]) [0, 1, 2, 3] rfl ht⟩, by rw [ht]; try exact hh_55.1.1, fun q h9 hq => by rw [ht]; try exact hh_55.1.2.1 q h9 hq⟩) hh_55.1.2.2 dX14_readValue_61
          · skip
            have c_53' : r_4.toInt = 123 := jb_ne_n (rfl) ((by decide)) c_53
            first | replace hr_4_2 := hr_4_2.resolve_left (by omega) | replace hr_4_2 := hr_4_2.resolve_right (by omega) | skip
            refine lv_iconst (v := 1) hx hb dX14_readValue_50 (by decide) ?_
            refine lv_goto (tgt := 55) hx hb dX14_readValue_51 (by decide) ?_
            refine lv_iload_n hx hb dX14_readValue_55 rfl (lv_at hl 2 rfl) ?_
            refine lv_iconst (v := 1) hx hb dX14_readValue_56 (by decide) ?_
            refine lv_iadd hx hb dX14_readValue_57 ?_
            refine lv_topi (fun z_57 ez_57 => ?_)
            have hz_57 : z_57.toInt = a1.toInt + 1 := by rw [ez_57]; exact jb_iadd2 (rfl) ((by decide)) (by omega)
            refine va_calli (A0 := jA base) (H0 := s.heap) (va_runV (As := [.int 1, .int z_57]) (rest := []) ⟨hx, hb, hml, hown, hts⟩ (ihM (ef - 1) (by omega) G0 H_3 r0 1 z_57 qt_1 pe pn pp pb) (cwV 2 hts gX14_readValue_X14_readMany rfl rfl rfl (by decide +kernel) ⟨by rw [← hR]; show (2 * (ef - 1) + 7) + 1 ≤ 2 * ef + 6; omega, by rw [← hR]; show 8 + (10 + 11) + (130 * (ef - 1) + 460) ≤ 130 * ef + 400; omega⟩) ⟨fun a U g mk q => by obtain ⟨q0, q1, q2, qK, q10, q11, q12⟩ := q; exact ⟨q0, q1, q2, jG.calling g mk a qK, q10, q11, q12⟩, hh_3.recv (C := RX14) (T := TX14) (N := 74) hB16 rfl (by decide) hg_r0 hK, fun U hU hW => ⟨rfl, hU, hh_3.2.1, hG.step hW hU hh_3.1, hg_r0, (hh_3.2.2.1.sub (L1 := [(r0, 16, 29, .int qt_1), (r0, 16, 30, .int pe), (r0, 16, 26, .int pn), (r0, 16, 28, .int pp), (r0, 16, 31, .int pb)]) [0, 1, 2, 3, 4] rfl), by first | omega | (refine ⟨?_, ?_, ?_, ?_, ?_, ?_, ?_, ?_, ?_, ?_, ?_, ?_⟩ <;> (first | omega | rfl | assumption | decide | exact Or.inl rfl | exact Or.inr rfl | (simp only; omega)))⟩⟩ rfl rfl hl.1 rfl (lv_room (Nat.le_of_ble_eq_true rfl)) dX14_readValue_58 ⟨Nat.zero_le _, Nat.zero_le _⟩) hh_3.1 (fun q _ h => h) (fun q h => h) (fun r_59 u_58 t_58 H_58 locs_58 ht_58 hvm_58 hr_59 hb_58 hz_58 hk_58 hS_58 => ?_)
            obtain ⟨qt_58, qn_58, qp_58, qb_58⟩ := u_58
            rw [ht_58] at hb_58
            obtain ⟨hb_581, hb_582, hb_583, hb_584, hb_585⟩ := hb_58
            have hh_58 : jSt (dC, dI) B base G0 G0 EX14_readValue s.heap 0 0 [(r0, 16, 29, .int qt_58), (r0, 16, 26, .int qn_58), (r0, 16, 28, .int qp_58), (r0, 16, 31, .int qb_58), (r0, 16, 30, .int pe)] [] [] H_58 locs_58 := (hh_3.call hb_581 hb_582 hb_583 hb_584 hS_58 rfl (L1 := [(r0, 16, 30, .int pe)]) [1] rfl rfl (M1 := []) [] rfl rfl (I1 := []) [] rfl rfl).more hb_585
            clear hh_3 ht_58 hvm_58 hz_58 hk_58 hS_58 hb_581 hb_582 hb_583 hb_584 hb_585
            try simp only at hr_59
            obtain ⟨hr_59_0, hr_59_1, hr_59_2, hr_59_3, hr_59_4, hr_59_5, hr_59_6, hr_59_7, hr_59_8, hr_59_9⟩ := hr_59
            rw [hQ]
            exact W.iret (v := r_59) hx hb hr (fun t ht hW => ⟨⟨r_59, (qt_58, qn_58, qp_58, qb_58), rfl, by first | omega | (refine ⟨?_, ?_, ?_, ?_, ?_, ?_, ?_, ?_, ?_, ?_⟩ <;> (first | omega | rfl | assumption | decide | exact Or.inl rfl | exact Or.inr rfl | (simp only; omega))), hh_58.rt (M1 := [(r0, 16, 29, .int qt_58), (r0, 16, 26, .int qn_58), (r0, 16, 28, .int qp_58), (r0, 16, 31, .int qb_58)]) [0, 1, 2, 3] rfl ht⟩, by rw [ht]; try exact hh_58.1.1, fun q h9 hq => by rw [ht]; try exact hh_58.1.2.1 q h9 hq⟩) hh_58.1.2.2 dX14_readValue_61
        · skip
          have c_52' : pb.toInt ≠ 0 := jb_eq_n (rfl) ((by decide)) c_52
          refine lv_iconst (v := 0) hx hb dX14_readValue_39 (by decide) ?_
          refine lv_goto (tgt := 61) hx hb dX14_readValue_40 (by decide) ?_
          rw [hQ]
          exact W.iret (v := 0) hx hb hr (fun t ht hW => ⟨⟨0, (qt_1, pn, pp, pb), rfl, by first | omega | (refine ⟨?_, ?_, ?_, ?_, ?_, ?_, ?_, ?_, ?_, ?_⟩ <;> (first | omega | rfl | assumption | decide | exact Or.inl rfl | exact Or.inr rfl | (simp only; omega))), hh_3.rt (M1 := [(r0, 16, 29, .int qt_1), (r0, 16, 26, .int pn), (r0, 16, 28, .int pp), (r0, 16, 31, .int pb)]) [0, 2, 3, 4] rfl ht⟩, by rw [ht]; try exact hh_3.1.1, fun q h9 hq => by rw [ht]; try exact hh_3.1.2.1 q h9 hq⟩) hh_3.1.2.2 dX14_readValue_61
      · skip
        have c_51' : a1.toInt = 10 := jb_ne_n (rfl) ((by decide)) c_51
        refine lv_aload_n hx hb dX14_readValue_27 rfl (lv_at hl 1 rfl) ?_
        refine lv_iconst (v := 1) hx hb dX14_readValue_28 (by decide) ?_
        refine j7_put hx hb hown hK hh_3 hB hAp hB16 (C := RX14) (T := TX14) (N := 74) rfl (by decide) hg_r0 (i := 31) (by decide) hly_16_31 rfl (hts (.fieldLink RX14 288 "ProofServerModel" "bad" "Z") (by decide +kernel)) rfl (ty := .boolean) (v := .int 1) (by decide +kernel) (jb_nz (Or.inr rfl)) (jb_fz (Or.inr rfl)) (⟨_, rfl, (Or.inr rfl)⟩) rfl (L1 := [(r0, 16, 29, .int qt_1), (r0, 16, 30, .int pe), (r0, 16, 26, .int pn), (r0, 16, 28, .int pp)]) [0, 1, 2, 3] rfl rfl rfl dX14_readValue_29 (fun H_60 locs_60 hh_60 => ?_)
        clear hh_3
        refine lv_aload_n hx hb dX14_readValue_32 rfl (lv_at hl 1 rfl) ?_
        refine j7_read hx hb hown hK (C := RX14) (T := TX14) (N := 74) rfl hly_16_31 (hts (.fieldLink RX14 288 "ProofServerModel" "bad" "Z") (by decide +kernel)) (hh_60.at 0 rfl) dX14_readValue_33 ?_
        refine lv_if_eq (tgt := 43) hx hb dX14_readValue_36 (by decide) (fun c_61 => ?_) (fun c_61 => ?_)
        · skip
          exact absurd c_61 (by decide)
        · skip
          refine lv_iconst (v := 0) hx hb dX14_readValue_39 (by decide) ?_
          refine lv_goto (tgt := 61) hx hb dX14_readValue_40 (by decide) ?_
          rw [hQ]
          exact W.iret (v := 0) hx hb hr (fun t ht hW => ⟨⟨0, (qt_1, pn, pp, 1), rfl, by first | omega | (refine ⟨?_, ?_, ?_, ?_, ?_, ?_, ?_, ?_, ?_, ?_⟩ <;> (first | omega | rfl | assumption | decide | exact Or.inl rfl | exact Or.inr rfl | (simp only; omega))), hh_60.rt (M1 := [(r0, 16, 29, .int qt_1), (r0, 16, 26, .int pn), (r0, 16, 28, .int pp), (r0, 16, 31, .int 1)]) [1, 3, 4, 0] rfl ht⟩, by rw [ht]; try exact hh_60.1.1, fun q h9 hq => by rw [ht]; try exact hh_60.1.2.1 q h9 hq⟩) hh_60.1.2.2 dX14_readValue_61
set_option maxHeartbeats 4000000 in
set_option maxRecDepth 20000 in
theorem uX14_readMany (l : Launch) (dC : Nat → ClassId) (dI : Nat → Nat → Nat) (ca : Nat → ClassId) (base : Nat) (B : jF) (hB : jBok B) (hAp : jAp (dC, dI)) (hB16 : ∀ n G a H, B 16 n G a H ↔ jOb (dC, dI) 16 74 (F16 n G) a H) (hB110 : ∀ n G a H, B 110 n G a H ↔ jAr (dC, dI) (ca 1) (fun j z => 0 ≤ z.toInt ∧ z.toInt ≤ 255) n a H) (hB117 : ∀ n G a H, B 117 n G a H ↔ jAr (dC, dI) (ca 1) (fun j z => True) n a H) (hB118 : ∀ n G a H, B 118 n G a H ↔ jAr (dC, dI) (ca 1) (fun j z => -1 ≤ z.toInt ∧ z.toInt ≤ 3099) n a H) (hB119 : ∀ n G a H, B 119 n G a H ↔ jAr (dC, dI) (ca 1) (fun j z => z.toInt = -1 ∨ (j < z.toInt ∧ z.toInt ≤ 3099)) n a H) (hB120 : ∀ n G a H, B 120 n G a H ↔ jAr (dC, dI) (ca 1) (fun j z => 0 ≤ z.toInt ∧ z.toInt ≤ 3300) n a H) (hB121 : ∀ n G a H, B 121 n G a H ↔ jAr (dC, dI) (ca 1) (fun j z => 0 ≤ z.toInt ∧ z.toInt ≤ 3300) n a H) (hB122 : ∀ n G a H, B 122 n G a H ↔ jAr (dC, dI) (ca 1) (fun j z => 0 ≤ z.toInt ∧ z.toInt ≤ 3300) n a H) (hB123 : ∀ n G a H, B 123 n G a H ↔ jAr (dC, dI) (ca 1) (fun j z => 0 ≤ z.toInt ∧ z.toInt ≤ 3300) n a H) (hB124 : ∀ n G a H, B 124 n G a H ↔ jAr (dC, dI) (ca 3) (fun j z => (z = 0 ∨ z = 1)) n a H) (hB125 : ∀ n G a H, B 125 n G a H ↔ jAr (dC, dI) (ca 1) (fun j z => True) n a H) (hB127 : ∀ n G a H, B 127 n G a H ↔ jAr (dC, dI) (ca 1) (fun j z => True) n a H) (ef : Nat) (hV : qX14_readValue l dC dI ca base B ef) (G0 : jT) (H0 : Heap) (r0 : Nat) (a1 : Int32) (a2 : Int32) (pt : Int32) (pe : Int32) (pn : Int32) (pp : Int32) (pb : Int32) : Met l yX14_readMany wsX14_readMany ({ frames := 2 * ef + 7, cells := 0, slots := 0, locals := 130 * ef + 460 }) (va_Pc [.ref r0, .int a1, .int a2] (fun U => U.heap = H0 ∧ jX B base G0 [] H0 ∧ jG dC dI ca base U ∧ G0 r0 = some (16, 0) ∧ jP (dC, dI) G0 H0 [(r0, 16, 29, .int pt), (r0, 16, 30, .int pe), (r0, 16, 26, .int pn), (r0, 16, 28, .int pp), (r0, 16, 31, .int pb)] ∧ 0 ≤ pt.toInt ∧ pt.toInt ≤ 90000 ∧ 0 ≤ pe.toInt ∧ pe.toInt ≤ 3000 ∧ pt.toInt < pe.toInt ∧ 0 ≤ pn.toInt ∧ pn.toInt ≤ pt.toInt ∧ 0 ≤ pp.toInt ∧ pp.toInt ≤ pt.toInt ∧ pb.toInt = 0 ∧ a2.toInt = 10 - ef ∧ ef ≤ 10)) (va_Qi (S := Int32 × Int32 × Int32 × Int32) (fun r u => (0 ≤ u.2.2.2.toInt ∧ u.2.2.2.toInt ≤ 1 ∧ pt.toInt ≤ u.1.toInt ∧ pp.toInt ≤ u.2.2.1.toInt ∧ pn.toInt ≤ u.2.1.toInt ∧ u.1.toInt ≤ pe.toInt + 4 * u.2.2.2.toInt ∧ u.2.1.toInt ≤ u.1.toInt + u.2.2.2.toInt ∧ u.2.2.1.toInt ≤ u.1.toInt ∧ pn.toInt ≤ r.toInt + 4000 * u.2.2.2.toInt ∧ r.toInt + 1 ≤ u.2.1.toInt + 4000 * u.2.2.2.toInt)) (fun u t => jRt (dC, dI) B base G0 EX14_readMany H0 [(r0, 16, 29, .int u.1), (r0, 16, 26, .int u.2.1), (r0, 16, 28, .int u.2.2.1), (r0, 16, 31, .int u.2.2.2)] t.heap) (jA base)) 0 0 (jA base) := by
  refine Met.ofW (cc := cX14_readMany) (maxL := 10) (ret := (some .int)) (by decide) rfl ?_
  intro p e s m args below meth c s₁ Bd hml hv
  obtain ⟨rfl, hH0, hX, hG, hg_r0, hP0, hp0, hp1, hp2, hp3, hp4, hp5, hp6, hp7, hp8, hp9, hp10, hp11⟩ := hv
  have hK := hG.1
  have hx := Bd.exec
  have hb := Bd.bytes
  have hr := Bd.returns
  have hts := atoms_spec (ws := wsX14_readMany) Bd.pre
  have hown : s.vm.findClass RX14 = some m.cls := findClass_of_methodNamed Bd.named
  have hlocks := Bd.notSynchronized
  obtain ⟨Q, hQ⟩ : ∃ Q, Q = MQ below (va_Qi (S := Int32 × Int32 × Int32 × Int32) (fun r u => (0 ≤ u.2.2.2.toInt ∧ u.2.2.2.toInt ≤ 1 ∧ pt.toInt ≤ u.1.toInt ∧ pp.toInt ≤ u.2.2.1.toInt ∧ pn.toInt ≤ u.2.1.toInt ∧ u.1.toInt ≤ pe.toInt + 4 * u.2.2.2.toInt ∧ u.2.1.toInt ≤ u.1.toInt + u.2.2.2.toInt ∧ u.2.2.1.toInt ≤ u.1.toInt ∧ pn.toInt ≤ r.toInt + 4000 * u.2.2.2.toInt ∧ r.toInt + 1 ≤ u.2.1.toInt + 4000 * u.2.2.2.toInt)) (fun u t => jRt (dC, dI) B base G0 EX14_readMany H0 [(r0, 16, 29, .int u.1), (r0, 16, 26, .int u.2.1), (r0, 16, 28, .int u.2.2.1), (r0, 16, 31, .int u.2.2.2)] t.heap) (jA base)) ([.ref r0, .int a1, .int a2] : List Value).toArray s 0 0 (jA base) := ⟨_, rfl⟩
  rw [← hQ]
  have hl := lv_entry ([.ref r0, .int a1, .int a2]) (n := 10) (Nat.le_of_ble_eq_true rfl)
  rw [lg_entry_eq]
  generalize (lg_sl ([.ref r0, .int a1, .int a2]) ++ List.replicate (10 - (lg_sl ([.ref r0, .int a1, .int a2])).length) Slot.unset).toArray = ls at hl ⊢
  have hl : lv_has ls 10 [(0, .ref r0), (1, .int a1), (2, .int a2)] := hl
  generalize hR : (headSpec wsX14_readMany ({ frames := 2 * ef + 7, cells := 0, slots := 0, locals := 130 * ef + 460 })).room = R
  subst hH0
  have hh : jSt (dC, dI) B base G0 G0 EX14_readMany s.heap 0 0 [(r0, 16, 29, .int pt), (r0, 16, 30, .int pe), (r0, 16, 26, .int pn), (r0, 16, 28, .int pp), (r0, 16, 31, .int pb)] [] [] s.heap [] := jSt.start hX hP0 jMc.nil jIs.nil
  clear hX hP0
  have hkm1 : ((-1) : Int32).toInt = (-1) := by decide
  have hk0 : (0 : Int32).toInt = 0 := by decide
  have hk1 : (1 : Int32).toInt = 1 := by decide
  have hk5 : (5 : Int32).toInt = 5 := by decide
  have hk6 : (6 : Int32).toInt = 6 := by decide
  have hk34 : (34 : Int32).toInt = 34 := by decide
  have hk44 : (44 : Int32).toInt = 44 := by decide
  have hk58 : (58 : Int32).toInt = 58 := by decide
  have hk93 : (93 : Int32).toInt = 93 := by decide
  have hk125 : (125 : Int32).toInt = 125 := by decide
  have hly_16_18 := hts (u_lay RX14 TX14 18) (by decide +kernel)
  have hly_16_19 := hts (u_lay RX14 TX14 19) (by decide +kernel)
  have hly_16_20 := hts (u_lay RX14 TX14 20) (by decide +kernel)
  have hly_16_21 := hts (u_lay RX14 TX14 21) (by decide +kernel)
  have hly_16_28 := hts (u_lay RX14 TX14 28) (by decide +kernel)
  have hly_16_29 := hts (u_lay RX14 TX14 29) (by decide +kernel)
  have hly_16_31 := hts (u_lay RX14 TX14 31) (by decide +kernel)
  have hly_16_32 := hts (u_lay RX14 TX14 32) (by decide +kernel)
  have hrg_a1 := jb_rng a1
  have hrg_a2 := jb_rng a2
  refine lv_aload_n hx hb dX14_readMany_0 rfl (lv_at hl 0 rfl) ?_
  refine lv_iload_n hx hb dX14_readMany_1 rfl (lv_at hl 1 rfl) ?_
  have C11 : ∀ (w0_1 : Int32) (H_1 : Heap) (locs_1 : List Loc), jSt (dC, dI) B base G0 G0 EX14_readMany s.heap 0 0 [(r0, 16, 29, .int pt), (r0, 16, 30, .int pe), (r0, 16, 26, .int pn), (r0, 16, 28, .int pp), (r0, 16, 31, .int pb)] [] [] H_1 locs_1 → (True) → ∀ ls : Array Slot, lv_has ls 10 [(0, .ref r0), (1, .int a1), (2, .int a2)] → W p l e R s m ([.ref r0, .int a1, .int a2] : List Value).toArray below meth c H_1 locs_1 0 0 Q (F0 m 11 ls [.int w0_1, .ref r0]) := by
    intro w0_1 H_1 locs_1 hh_1  hi_1 ls hl
    refine va_calli (A0 := jA base) (H0 := s.heap) (va_runV (As := [.int w0_1]) (rest := []) ⟨hx, hb, hml, hown, hts⟩ (uX14_node l dC dI ca base B hB hAp hB16 hB117 hB118 hB119 hB124 G0 H_1 r0 w0_1 pn) (cwV 1 hts gX14_readMany_X14_node rfl rfl rfl (by decide +kernel) ⟨by rw [← hR]; show (0) + 1 ≤ 2 * ef + 7; omega, by rw [← hR]; show 8 + (2 + 11) + (0) ≤ 130 * ef + 460; omega⟩) ⟨fun a U g mk q => by obtain ⟨q0, q1, q2, qK, q10, q11, q12⟩ := q; exact ⟨q0, q1, q2, jG.calling g mk a qK, q10, q11, q12⟩, hh_1.recv (C := RX14) (T := TX14) (N := 74) hB16 rfl (by decide) hg_r0 hK, fun U hU hW => ⟨rfl, hU, hh_1.2.1, hG.step hW hU hh_1.1, hg_r0, (hh_1.2.2.1.sub (L1 := [(r0, 16, 26, .int pn)]) [2] rfl), by first | omega | (refine ⟨?_, ?_⟩ <;> (first | omega | rfl | assumption | decide | exact Or.inl rfl | exact Or.inr rfl | (simp only; omega)))⟩⟩ rfl rfl hl.1 rfl (lv_room (Nat.le_of_ble_eq_true rfl)) dX14_readMany_11 ⟨Nat.zero_le _, Nat.zero_le _⟩) hh_1.1 (fun q _ h => h) (fun q h => h) (fun r_3 u_2 t_2 H_2 locs_2 ht_2 hvm_2 hr_3 hb_2 hz_2 hk_2 hS_2 => ?_)
    obtain ⟨qn_2, rfl⟩ : ∃ z, z = u_2 := ⟨_, rfl⟩
    rw [ht_2] at hb_2
    obtain ⟨hb_21, hb_22, hb_23, hb_24, hb_25⟩ := hb_2
    have hh_2 : jSt (dC, dI) B base G0 G0 EX14_readMany s.heap 0 0 [(r0, 16, 26, .int qn_2), (r0, 16, 29, .int pt), (r0, 16, 30, .int pe), (r0, 16, 28, .int pp), (r0, 16, 31, .int pb)] [] [] H_2 locs_2 := (hh_1.call hb_21 hb_22 hb_23 hb_24 hS_2 rfl (L1 := [(r0, 16, 29, .int pt), (r0, 16, 30, .int pe), (r0, 16, 28, .int pp), (r0, 16, 31, .int pb)]) [0, 1, 3, 4] rfl rfl (M1 := []) [] rfl rfl (I1 := []) [] rfl rfl).more hb_25
    clear hh_1 ht_2 hvm_2 hz_2 hk_2 hS_2 hb_21 hb_22 hb_23 hb_24 hb_25
    obtain ⟨hr_3_0, hr_3_1⟩ := hr_3
    refine lv_istore_n (lv' := [(3, .int r_3), (0, .ref r0), (1, .int a1), (2, .int a2)]) hx hb dX14_readMany_14 rfl hl (by decide) rfl (fun ls hl => ?_)
    refine lv_aload_n hx hb dX14_readMany_15 rfl (lv_at hl 1 rfl) ?_
    refine lv_dup hx hb dX14_readMany_16 rfl ?_
    refine j7_read hx hb hown hK (C := RX14) (T := TX14) (N := 74) rfl hly_16_29 (hts (.fieldLink RX14 273 "ProofServerModel" "at" "I") (by decide +kernel)) (hh_2.at 1 rfl) dX14_readMany_17 ?_
    refine lv_iconst (v := 1) hx hb dX14_readMany_20 (by decide) ?_
    refine lv_iadd hx hb dX14_readMany_21 ?_
    refine lv_topi (fun z_4 ez_4 => ?_)
    have hz_4 : z_4.toInt = pt.toInt + 1 := by rw [ez_4]; exact jb_iadd2 (rfl) ((by decide)) (by omega)
    refine j7_put hx hb hown hK hh_2 hB hAp hB16 (C := RX14) (T := TX14) (N := 74) rfl (by decide) hg_r0 (i := 29) (by decide) hly_16_29 rfl (hts (.fieldLink RX14 273 "ProofServerModel" "at" "I") (by decide +kernel)) rfl (ty := .int) (v := .int z_4) (by decide +kernel) rfl rfl (⟨_, rfl, by omega, by omega⟩) rfl (L1 := [(r0, 16, 26, .int qn_2), (r0, 16, 30, .int pe), (r0, 16, 28, .int pp), (r0, 16, 31, .int pb)]) [0, 2, 3, 4] rfl rfl rfl dX14_readMany_22 (fun H_5 locs_5 hh_5 => ?_)
    clear hh_2
    refine lv_iload_n hx hb dX14_readMany_25 rfl (lv_at hl 2 rfl) ?_
    have C36 : ∀ (w0_6 : Int32) (H_6 : Heap) (locs_6 : List Loc), jSt (dC, dI) B base G0 G0 EX14_readMany s.heap 0 0 [(r0, 16, 29, .int z_4), (r0, 16, 26, .int qn_2), (r0, 16, 30, .int pe), (r0, 16, 28, .int pp), (r0, 16, 31, .int pb)] [] [] H_6 locs_6 → (True) → ∀ ls : Array Slot, lv_has ls 10 [(0, .ref r0), (1, .int a1), (2, .int a2), (3, .int r_3)] → W p l e R s m ([.ref r0, .int a1, .int a2] : List Value).toArray below meth c H_6 locs_6 0 0 Q (F0 m 36 ls [.int w0_6]) := by
      intro w0_6 H_6 locs_6 hh_6  hi_6 ls hl
      refine lv_istore (lv' := [(4, .int w0_6), (0, .ref r0), (1, .int a1), (2, .int a2), (3, .int r_3)]) hx hb dX14_readMany_36 hl (by decide) rfl (fun ls hl => ?_)
      refine lv_aload_n hx hb dX14_readMany_38 rfl (lv_at hl 1 rfl) ?_
      refine va_callv (A0 := jA base) (H0 := s.heap) (va_runV (As := []) (rest := []) ⟨hx, hb, hml, hown, hts⟩ (uX14_blanks l dC dI ca base B hB hAp hB16 hB110 G0 H_6 r0 z_4 pe (pe.toInt + 8 * (pb.toInt))) (cwV 0 hts gX14_readMany_X14_blanks rfl rfl rfl (by decide +kernel) ⟨by rw [← hR]; show (1) + 1 ≤ 2 * ef + 7; omega, by rw [← hR]; show 8 + (1 + 11) + (20) ≤ 130 * ef + 460; omega⟩) ⟨fun a U g mk q => by obtain ⟨q0, q1, q2, qK, q10, q11, q12⟩ := q; exact ⟨q0, q1, q2, jG.calling g mk a qK, q10, q11, q12⟩, hh_6.recv (C := RX14) (T := TX14) (N := 74) hB16 rfl (by decide) hg_r0 hK, fun U hU hW => ⟨rfl, hU, hh_6.2.1, hG.step hW hU hh_6.1, hg_r0, (hh_6.2.2.1.sub (L1 := [(r0, 16, 29, .int z_4), (r0, 16, 30, .int pe)]) [0, 2] rfl), by first | omega | (refine ⟨?_, ?_, ?_, ?_, ?_, ?_, ?_⟩ <;> (first | omega | rfl | assumption | decide | exact Or.inl rfl | exact Or.inr rfl | (simp only; omega)))⟩⟩ rfl rfl hl.1 rfl (lv_room (Nat.le_of_ble_eq_true rfl)) dX14_readMany_39 ⟨Nat.zero_le _, Nat.zero_le _⟩) hh_6.1 (fun q _ h => h) (fun q h => h) (fun u_7 t_7 H_7 locs_7 ht_7 hvm_7 hr_8 hb_7 hz_7 hk_7 hS_7 => ?_)
      obtain ⟨qt_7, rfl⟩ : ∃ z, z = u_7 := ⟨_, rfl⟩
      rw [ht_7] at hb_7
      obtain ⟨hb_71, hb_72, hb_73, hb_74, hb_75⟩ := hb_7
      have hh_7 : jSt (dC, dI) B base G0 G0 EX14_readMany s.heap 0 0 [(r0, 16, 29, .int qt_7), (r0, 16, 26, .int qn_2), (r0, 16, 30, .int pe), (r0, 16, 28, .int pp), (r0, 16, 31, .int pb)] [] [] H_7 locs_7 := (hh_6.call hb_71 hb_72 hb_73 hb_74 hS_7 rfl (L1 := [(r0, 16, 26, .int qn_2), (r0, 16, 30, .int pe), (r0, 16, 28, .int pp), (r0, 16, 31, .int pb)]) [1, 2, 3, 4] rfl rfl (M1 := []) [] rfl rfl (I1 := []) [] rfl rfl).more hb_75
      clear hh_6 ht_7 hvm_7 hz_7 hk_7 hS_7 hb_71 hb_72 hb_73 hb_74 hb_75
      obtain ⟨hr_8_0, hr_8_1⟩ := hr_8
      refine lv_aload_n hx hb dX14_readMany_42 rfl (lv_at hl 1 rfl) ?_
      refine va_calli (A0 := jA base) (H0 := s.heap) (va_runV (As := []) (rest := []) ⟨hx, hb, hml, hown, hts⟩ (uX14_here l dC dI ca base B hB hAp hB16 hB110 G0 H_7 r0 qt_7 pe) (cwV 0 hts gX14_readMany_X14_here rfl rfl rfl (by decide +kernel) ⟨by rw [← hR]; show (0) + 1 ≤ 2 * ef + 7; omega, by rw [← hR]; show 8 + (1 + 11) + (0) ≤ 130 * ef + 460; omega⟩) ⟨fun a U g mk q => by obtain ⟨q0, q1, q2, qK, q10, q11, q12⟩ := q; exact ⟨q0, q1, q2, jG.calling g mk a qK, q10, q11, q12⟩, hh_7.recv (C := RX14) (T := TX14) (N := 74) hB16 rfl (by decide) hg_r0 hK, fun U hU hW => ⟨rfl, hU, hh_7.2.1, hG.step hW hU hh_7.1, hg_r0, (hh_7.2.2.1.sub (L1 := [(r0, 16, 29, .int qt_7), (r0, 16, 30, .int pe)]) [0, 2] rfl), by first | omega | (refine ⟨?_, ?_, ?_, ?_⟩ <;> (first | omega | rfl | assumption | decide | exact Or.inl rfl | exact Or.inr rfl | (simp only; omega)))⟩⟩ rfl rfl hl.1 rfl (lv_room (Nat.le_of_ble_eq_true rfl)) dX14_readMany_43 ⟨Nat.zero_le _, Nat.zero_le _⟩) hh_7.1 (fun q _ h => h) (fun q h => h) (fun r_10 u_9 t_9 H_9 locs_9 ht_9 hvm_9 hr_10 hb_9 hz_9 hk_9 hS_9 => ?_)
      rw [ht_9] at hb_9
      obtain ⟨hb_91, hb_92, hb_93, hb_94, hb_95⟩ := hb_9
      have hh_9 : jSt (dC, dI) B base G0 G0 EX14_readMany s.heap 0 0 [(r0, 16, 29, .int qt_7), (r0, 16, 26, .int qn_2), (r0, 16, 30, .int pe), (r0, 16, 28, .int pp), (r0, 16, 31, .int pb)] [] [] H_9 locs_9 := (hh_7.call hb_91 hb_92 hb_93 hb_94 hS_9 rfl (L1 := [(r0, 16, 29, .int qt_7), (r0, 16, 26, .int qn_2), (r0, 16, 30, .int pe), (r0, 16, 28, .int pp), (r0, 16, 31, .int pb)]) [0, 1, 2, 3, 4] rfl rfl (M1 := []) [] rfl rfl (I1 := []) [] rfl rfl).more hb_95
      clear hh_7 ht_9 hvm_9 hz_9 hk_9 hS_9 hb_91 hb_92 hb_93 hb_94 hb_95
      obtain ⟨hr_10_0, hr_10_1, hr_10_2⟩ := hr_10
      refine lv_iload hx hb dX14_readMany_46 (lv_at hl 0 rfl) ?_
      refine lv_icmp_ne (tgt := 63) hx hb dX14_readMany_48 (by decide) (fun c_11 => ?_) (fun c_11 => ?_)
      · skip
        have c_11' : r_10.toInt ≠ w0_6.toInt := jb_ne (rfl) (rfl) c_11
        first | replace hr_10_2 := hr_10_2.resolve_left (by omega) | replace hr_10_2 := hr_10_2.resolve_right (by omega) | skip
        refine lv_iconst (v := (-1)) hx hb dX14_readMany_63 (by decide) ?_
        refine lv_istore (lv' := [(5, .int (-1)), (4, .int w0_6), (0, .ref r0), (1, .int a1), (2, .int a2), (3, .int r_3)]) hx hb dX14_readMany_64 hl (by decide) rfl (fun ls hl => ?_)
        refine lv_iconst (v := 1) hx hb dX14_readMany_66 (by decide) ?_
        refine lv_istore (lv' := [(6, .int 1), (5, .int (-1)), (4, .int w0_6), (0, .ref r0), (1, .int a1), (2, .int a2), (3, .int r_3)]) hx hb dX14_readMany_67 hl (by decide) rfl (fun ls hl => ?_)
        have L69 : ∀ (N : Nat) (v5_12 : Int32) (v6_12 : Int32) (wt_12 : Int32) (wn_12 : Int32) (wp_12 : Int32) (wb_12 : Int32) (H_12 : Heap) (locs_12 : List Loc), jSt (dC, dI) B base G0 G0 EX14_readMany s.heap 0 0 [(r0, 16, 29, .int wt_12), (r0, 16, 26, .int wn_12), (r0, 16, 28, .int wp_12), (r0, 16, 31, .int wb_12), (r0, 16, 30, .int pe)] [] [] H_12 locs_12 → (v6_12 = 0 ∨ v6_12 = 1) → (0 ≤ v5_12.toInt + 1 ∧ v5_12.toInt < wn_12.toInt ∧ r_3.toInt < wn_12.toInt ∧ pt.toInt + 1 ≤ wt_12.toInt ∧ pp.toInt ≤ wp_12.toInt ∧ wp_12.toInt ≤ wt_12.toInt ∧ pn.toInt < wn_12.toInt ∧ wn_12.toInt ≤ wt_12.toInt ∧ 0 ≤ wb_12.toInt ∧ wb_12.toInt ≤ 1 ∧ wt_12.toInt ≤ pe.toInt + wb_12.toInt) → (((pe.toInt - wt_12.toInt).toNat : Int) + (1 - wb_12.toInt) + (1 - wb_12.toInt) : Int) < N → ∀ ls : Array Slot, lv_has ls 10 [(0, .ref r0), (1, .int a1), (2, .int a2), (3, .int r_3), (4, .int w0_6), (5, .int v5_12), (6, .int v6_12)] → W p l e R s m ([.ref r0, .int a1, .int a2] : List Value).toArray below meth c H_12 locs_12 0 0 Q (F0 m 69 ls []) := by
          intro N
          induction N with
          | zero => intro v5_12 v6_12 wt_12 wn_12 wp_12 wb_12 H_12 locs_12 hh_12 hb_v6_12 hi_12 hm; exact absurd hm (by omega)
          | succ N L69 =>
            intro v5_12 v6_12 wt_12 wn_12 wp_12 wb_12 H_12 locs_12 hh_12 hb_v6_12 hi_12 hm_12 ls hl
            obtain ⟨hi_12_0, hi_12_1, hi_12_2, hi_12_3, hi_12_4, hi_12_5, hi_12_6, hi_12_7, hi_12_8, hi_12_9, hi_12_10⟩ := hi_12
            have hb_v6_12' := jb_01 hb_v6_12
            clear hr_10_2
            refine lv_iload hx hb dX14_readMany_69 (lv_at hl 6 rfl) ?_
            refine lv_if_eq (tgt := 286) hx hb dX14_readMany_71 (by decide) (fun c_13 => ?_) (fun c_13 => ?_)
            · skip
              have c_13' : v6_12.toInt = 0 := jb_eq (rfl) ((by decide)) c_13
              refine lv_iload_n hx hb dX14_readMany_286 rfl (lv_at hl 3 rfl) ?_
              rw [hQ]
              exact W.iret (v := r_3) hx hb hr (fun t ht hW => ⟨⟨r_3, (wt_12, wn_12, wp_12, wb_12), rfl, by first | omega | (refine ⟨?_, ?_, ?_, ?_, ?_, ?_, ?_, ?_, ?_, ?_⟩ <;> (first | omega | rfl | assumption | decide | exact Or.inl rfl | exact Or.inr rfl | (simp only; omega))), hh_12.rt (M1 := [(r0, 16, 29, .int wt_12), (r0, 16, 26, .int wn_12), (r0, 16, 28, .int wp_12), (r0, 16, 31, .int wb_12)]) [0, 1, 2, 3] rfl ht⟩, by rw [ht]; try exact hh_12.1.1, fun q h9 hq => by rw [ht]; try exact hh_12.1.2.1 q h9 hq⟩) hh_12.1.2.2 dX14_readMany_287
            · skip
              have c_13' : v6_12.toInt ≠ 0 := jb_eq_n (rfl) ((by decide)) c_13
              refine lv_aload_n hx hb dX14_readMany_74 rfl (lv_at hl 0 rfl) ?_
              refine j7_read hx hb hown hK (C := RX14) (T := TX14) (N := 74) rfl hly_16_31 (hts (.fieldLink RX14 288 "ProofServerModel" "bad" "Z") (by decide +kernel)) (hh_12.at 3 rfl) dX14_readMany_75 ?_
              refine lv_if_ne (tgt := 286) hx hb dX14_readMany_78 (by decide) (fun c_14 => ?_) (fun c_14 => ?_)
              · skip
                have c_14' : wb_12.toInt ≠ 0 := jb_ne (rfl) ((by decide)) c_14
                refine lv_iload_n hx hb dX14_readMany_286 rfl (lv_at hl 3 rfl) ?_
                rw [hQ]
                exact W.iret (v := r_3) hx hb hr (fun t ht hW => ⟨⟨r_3, (wt_12, wn_12, wp_12, wb_12), rfl, by first | omega | (refine ⟨?_, ?_, ?_, ?_, ?_, ?_, ?_, ?_, ?_, ?_⟩ <;> (first | omega | rfl | assumption | decide | exact Or.inl rfl | exact Or.inr rfl | (simp only; omega))), hh_12.rt (M1 := [(r0, 16, 29, .int wt_12), (r0, 16, 26, .int wn_12), (r0, 16, 28, .int wp_12), (r0, 16, 31, .int wb_12)]) [0, 1, 2, 3] rfl ht⟩, by rw [ht]; try exact hh_12.1.1, fun q h9 hq => by rw [ht]; try exact hh_12.1.2.1 q h9 hq⟩) hh_12.1.2.2 dX14_readMany_287
              · skip
                have c_14' : wb_12.toInt = 0 := jb_ne_n (rfl) ((by decide)) c_14
                refine lv_iconst (v := 0) hx hb dX14_readMany_81 (by decide) ?_
                refine lv_istore (lv' := [(7, .int 0), (0, .ref r0), (1, .int a1), (2, .int a2), (3, .int r_3), (4, .int w0_6), (5, .int v5_12), (6, .int v6_12)]) hx hb dX14_readMany_82 hl (by decide) rfl (fun ls hl => ?_)
                refine lv_iconst (v := 0) hx hb dX14_readMany_84 (by decide) ?_
                refine lv_istore (lv' := [(8, .int 0), (7, .int 0), (0, .ref r0), (1, .int a1), (2, .int a2), (3, .int r_3), (4, .int w0_6), (5, .int v5_12), (6, .int v6_12)]) hx hb dX14_readMany_85 hl (by decide) rfl (fun ls hl => ?_)
                refine lv_iload_n hx hb dX14_readMany_87 rfl (lv_at hl 3 rfl) ?_
                have C160 : ∀ (v7_15 : Int32) (v8_15 : Int32) (v7_15 : Int32) (v8_15 : Int32) (wt_15 : Int32) (wp_15 : Int32) (wb_15 : Int32) (H_15 : Heap) (locs_15 : List Loc), jSt (dC, dI) B base G0 G0 EX14_readMany s.heap 0 0 [(r0, 16, 29, .int wt_15), (r0, 16, 28, .int wp_15), (r0, 16, 31, .int wb_15), (r0, 16, 26, .int wn_12), (r0, 16, 30, .int pe)] [] [] H_15 locs_15 → (0 ≤ v7_15.toInt ∧ v7_15.toInt ≤ 3300 ∧ 0 ≤ v8_15.toInt ∧ v8_15.toInt ≤ 3300 ∧ wt_12.toInt ≤ wt_15.toInt ∧ wp_12.toInt ≤ wp_15.toInt ∧ wp_15.toInt ≤ wt_15.toInt ∧ 0 ≤ wb_15.toInt ∧ wb_15.toInt ≤ 1 ∧ wt_15.toInt ≤ pe.toInt + 4 * wb_15.toInt) → ∀ ls : Array Slot, lv_has ls 10 [(0, .ref r0), (1, .int a1), (2, .int a2), (3, .int r_3), (4, .int w0_6), (5, .int v5_12), (6, .int v6_12), (7, .int v7_15), (8, .int v8_15), (7, .int v7_15), (8, .int v8_15)] → W p l e R s m ([.ref r0, .int a1, .int a2] : List Value).toArray below meth c H_15 locs_15 0 0 Q (F0 m 160 ls []) := by
                  intro v7_15 v8_15 v7_15 v8_15 wt_15 wp_15 wb_15 H_15 locs_15 hh_15  hi_15 ls hl
                  obtain ⟨hi_15_0, hi_15_1, hi_15_2, hi_15_3, hi_15_4, hi_15_5, hi_15_6, hi_15_7, hi_15_8, hi_15_9⟩ := hi_15
                  refine lv_aload_n hx hb dX14_readMany_160 rfl (lv_at hl 0 rfl) ?_
                  refine j7_read hx hb hown hK (C := RX14) (T := TX14) (N := 74) rfl hly_16_31 (hts (.fieldLink RX14 288 "ProofServerModel" "bad" "Z") (by decide +kernel)) (hh_15.at 2 rfl) dX14_readMany_161 ?_
                  refine lv_if_eq (tgt := 171) hx hb dX14_readMany_164 (by decide) (fun c_16 => ?_) (fun c_16 => ?_)
                  · skip
                    have c_16' : wb_15.toInt = 0 := jb_eq (rfl) ((by decide)) c_16
                    refine lv_aload_n hx hb dX14_readMany_171 rfl (lv_at hl 0 rfl) ?_
                    refine lv_iload_n hx hb dX14_readMany_172 rfl (lv_at hl 2 rfl) ?_
                    refine va_calli (A0 := jA base) (H0 := s.heap) (va_runV (As := [.int a2]) (rest := []) ⟨hx, hb, hml, hown, hts⟩ (hV G0 H_15 r0 a2 wt_15 pe wn_12 wp_15 wb_15) (cwV 1 hts gX14_readMany_X14_readValue rfl rfl rfl (by decide +kernel) ⟨by rw [← hR]; show (2 * ef + 6) + 1 ≤ 2 * ef + 7; omega, by rw [← hR]; show 8 + (4 + 11) + (130 * ef + 400) ≤ 130 * ef + 460; omega⟩) ⟨fun a U g mk q => by obtain ⟨q0, q1, q2, qK, q10, q11, q12⟩ := q; exact ⟨q0, q1, q2, jG.calling g mk a qK, q10, q11, q12⟩, hh_15.recv (C := RX14) (T := TX14) (N := 74) hB16 rfl (by decide) hg_r0 hK, fun U hU hW => ⟨rfl, hU, hh_15.2.1, hG.step hW hU hh_15.1, hg_r0, (hh_15.2.2.1.sub (L1 := [(r0, 16, 29, .int wt_15), (r0, 16, 30, .int pe), (r0, 16, 26, .int wn_12), (r0, 16, 28, .int wp_15), (r0, 16, 31, .int wb_15)]) [0, 4, 3, 1, 2] rfl), by first | omega | (refine ⟨?_, ?_, ?_, ?_, ?_, ?_, ?_, ?_, ?_, ?_, ?_, ?_⟩ <;> (first | omega | rfl | assumption | decide | exact Or.inl rfl | exact Or.inr rfl | (simp only; omega)))⟩⟩ rfl rfl hl.1 rfl (lv_room (Nat.le_of_ble_eq_true rfl)) dX14_readMany_173 ⟨Nat.zero_le _, Nat.zero_le _⟩) hh_15.1 (fun q _ h => h) (fun q h => h) (fun r_18 u_17 t_17 H_17 locs_17 ht_17 hvm_17 hr_18 hb_17 hz_17 hk_17 hS_17 => ?_)
                    obtain ⟨qt_17, qn_17, qp_17, qb_17⟩ := u_17
                    rw [ht_17] at hb_17
                    obtain ⟨hb_171, hb_172, hb_173, hb_174, hb_175⟩ := hb_17
                    have hh_17 : jSt (dC, dI) B base G0 G0 EX14_readMany s.heap 0 0 [(r0, 16, 29, .int qt_17), (r0, 16, 26, .int qn_17), (r0, 16, 28, .int qp_17), (r0, 16, 31, .int qb_17), (r0, 16, 30, .int pe)] [] [] H_17 locs_17 := (hh_15.call hb_171 hb_172 hb_173 hb_174 hS_17 rfl (L1 := [(r0, 16, 30, .int pe)]) [4] rfl rfl (M1 := []) [] rfl rfl (I1 := []) [] rfl rfl).more hb_175
                    clear hh_15 ht_17 hvm_17 hz_17 hk_17 hS_17 hb_171 hb_172 hb_173 hb_174 hb_175
                    try simp only at hr_18
                    obtain ⟨hr_18_0, hr_18_1, hr_18_2, hr_18_3, hr_18_4, hr_18_5, hr_18_6, hr_18_7, hr_18_8, hr_18_9⟩ := hr_18
                    refine lv_istore (lv' := [(9, .int r_18), (0, .ref r0), (1, .int a1), (2, .int a2), (3, .int r_3), (4, .int w0_6), (5, .int v5_12), (6, .int v6_12), (7, .int v7_15), (8, .int v8_15), (7, .int v7_15), (8, .int v8_15)]) hx hb dX14_readMany_176 hl (by decide) rfl (fun ls hl => ?_)
                    refine lv_aload_n hx hb dX14_readMany_178 rfl (lv_at hl 1 rfl) ?_
                    refine j7_read hx hb hown hK (C := RX14) (T := TX14) (N := 74) rfl hly_16_31 (hts (.fieldLink RX14 288 "ProofServerModel" "bad" "Z") (by decide +kernel)) (hh_17.at 3 rfl) dX14_readMany_179 ?_
                    refine lv_if_eq (tgt := 187) hx hb dX14_readMany_182 (by decide) (fun c_19 => ?_) (fun c_19 => ?_)
                    · skip
                      have c_19' : qb_17.toInt = 0 := jb_eq (rfl) ((by decide)) c_19
                      refine lv_aload_n hx hb dX14_readMany_187 rfl (lv_at hl 1 rfl) ?_
                      obtain ⟨v_20, hv_20, hh_21⟩ := hh_17.pin (C := RX14) (T := TX14) (N := 74) hB16 rfl (by decide) hg_r0 (i := 20) (by decide) rfl
                      clear hh_17
                      obtain ⟨nameFrom_22, rfl, hg_nameFrom_22⟩ := hv_20
                      refine j7_read hx hb hown hK (C := RX14) (T := TX14) (N := 74) rfl hly_16_20 (hts (.fieldLink RX14 46 "ProofServerModel" "nameFrom" "[I") (by decide +kernel)) (hh_21.at 0 rfl) dX14_readMany_188 ?_
                      refine lv_iload hx hb dX14_readMany_191 (lv_at hl 0 rfl) ?_
                      refine lv_iload hx hb dX14_readMany_193 (lv_at hl 8 rfl) ?_
                      refine j7_iast hx hb hK hh_21 hB hB120 1 rfl (by decide) (by decide) rfl rfl rfl hg_nameFrom_22 (rfl) (by omega) (by first | omega | (refine ⟨?_, ?_⟩ <;> (first | omega | rfl | assumption | decide | exact Or.inl rfl | exact Or.inr rfl | (simp only; omega)))) dX14_readMany_195 (fun H_23 locs_23 hh_23 => ?_)
                      clear hh_21
                      refine lv_aload_n hx hb dX14_readMany_196 rfl (lv_at hl 1 rfl) ?_
                      obtain ⟨v_24, hv_24, hh_25⟩ := hh_23.pin (C := RX14) (T := TX14) (N := 74) hB16 rfl (by decide) hg_r0 (i := 21) (by decide) rfl
                      clear hh_23
                      obtain ⟨nameTo_26, rfl, hg_nameTo_26⟩ := hv_24
                      refine j7_read hx hb hown hK (C := RX14) (T := TX14) (N := 74) rfl hly_16_21 (hts (.fieldLink RX14 49 "ProofServerModel" "nameTo" "[I") (by decide +kernel)) (hh_25.at 0 rfl) dX14_readMany_197 ?_
                      refine lv_iload hx hb dX14_readMany_200 (lv_at hl 0 rfl) ?_
                      refine lv_iload hx hb dX14_readMany_202 (lv_at hl 9 rfl) ?_
                      refine j7_iast hx hb hK hh_25 hB hB121 1 rfl (by decide) (by decide) rfl rfl rfl hg_nameTo_26 (rfl) (by omega) (by first | omega | (refine ⟨?_, ?_⟩ <;> (first | omega | rfl | assumption | decide | exact Or.inl rfl | exact Or.inr rfl | (simp only; omega)))) dX14_readMany_204 (fun H_27 locs_27 hh_27 => ?_)
                      clear hh_25
                      refine lv_iload hx hb dX14_readMany_205 (lv_at hl 6 rfl) ?_
                      have C230 : ∀ (H_28 : Heap) (locs_28 : List Loc), jSt (dC, dI) B base G0 G0 EX14_readMany s.heap 0 0 [(r0, 16, 21, .ref nameTo_26), (r0, 16, 20, .ref nameFrom_22), (r0, 16, 29, .int qt_17), (r0, 16, 26, .int qn_17), (r0, 16, 28, .int qp_17), (r0, 16, 31, .int qb_17), (r0, 16, 30, .int pe)] [] [] H_28 locs_28 → (True) → ∀ ls : Array Slot, lv_has ls 10 [(0, .ref r0), (1, .int a1), (2, .int a2), (3, .int r_3), (4, .int w0_6), (5, .int v5_12), (6, .int v6_12), (7, .int v7_15), (7, .int v7_15), (8, .int v8_15), (8, .int v8_15), (9, .int r_18)] → W p l e R s m ([.ref r0, .int a1, .int a2] : List Value).toArray below meth c H_28 locs_28 0 0 Q (F0 m 230 ls []) := by
                        intro  H_28 locs_28 hh_28  hi_28 ls hl
                        refine lv_iload hx hb dX14_readMany_230 (lv_at hl 11 rfl) ?_
                        refine lv_istore (lv' := [(5, .int r_18), (0, .ref r0), (1, .int a1), (2, .int a2), (3, .int r_3), (4, .int w0_6), (6, .int v6_12), (7, .int v7_15), (7, .int v7_15), (8, .int v8_15), (8, .int v8_15), (9, .int r_18)]) hx hb dX14_readMany_232 hl (by decide) rfl (fun ls hl => ?_)
                        refine lv_aload_n hx hb dX14_readMany_234 rfl (lv_at hl 1 rfl) ?_
                        refine va_callv (A0 := jA base) (H0 := s.heap) (va_runV (As := []) (rest := []) ⟨hx, hb, hml, hown, hts⟩ (uX14_blanks l dC dI ca base B hB hAp hB16 hB110 G0 H_28 r0 qt_17 pe (pe.toInt + 8 * (qb_17.toInt))) (cwV 0 hts gX14_readMany_X14_blanks rfl rfl rfl (by decide +kernel) ⟨by rw [← hR]; show (1) + 1 ≤ 2 * ef + 7; omega, by rw [← hR]; show 8 + (1 + 11) + (20) ≤ 130 * ef + 460; omega⟩) ⟨fun a U g mk q => by obtain ⟨q0, q1, q2, qK, q10, q11, q12⟩ := q; exact ⟨q0, q1, q2, jG.calling g mk a qK, q10, q11, q12⟩, hh_28.recv (C := RX14) (T := TX14) (N := 74) hB16 rfl (by decide) hg_r0 hK, fun U hU hW => ⟨rfl, hU, hh_28.2.1, hG.step hW hU hh_28.1, hg_r0, (hh_28.2.2.1.sub (L1 := [(r0, 16, 29, .int qt_17), (r0, 16, 30, .int pe)]) [2, 6] rfl), by first | omega | (refine ⟨?_, ?_, ?_, ?_, ?_, ?_, ?_⟩ <;> (first | omega | rfl | assumption | decide | exact Or.inl rfl | exact Or.inr rfl | (simp only; omega)))⟩⟩ rfl rfl hl.1 rfl (lv_room (Nat.le_of_ble_eq_true rfl)) dX14_readMany_235 ⟨Nat.zero_le _, Nat.zero_le _⟩) hh_28.1 (fun q _ h => h) (fun q h => h) (fun u_29 t_29 H_29 locs_29 ht_29 hvm_29 hr_30 hb_29 hz_29 hk_29 hS_29 => ?_)
                        obtain ⟨qt_29, rfl⟩ : ∃ z, z = u_29 := ⟨_, rfl⟩
                        rw [ht_29] at hb_29
                        obtain ⟨hb_291, hb_292, hb_293, hb_294, hb_295⟩ := hb_29
                        have hh_29 : jSt (dC, dI) B base G0 G0 EX14_readMany s.heap 0 0 [(r0, 16, 29, .int qt_29), (r0, 16, 21, .ref nameTo_26), (r0, 16, 20, .ref nameFrom_22), (r0, 16, 26, .int qn_17), (r0, 16, 28, .int qp_17), (r0, 16, 31, .int qb_17), (r0, 16, 30, .int pe)] [] [] H_29 locs_29 := (hh_28.call hb_291 hb_292 hb_293 hb_294 hS_29 rfl (L1 := [(r0, 16, 21, .ref nameTo_26), (r0, 16, 20, .ref nameFrom_22), (r0, 16, 26, .int qn_17), (r0, 16, 28, .int qp_17), (r0, 16, 31, .int qb_17), (r0, 16, 30, .int pe)]) [0, 1, 3, 4, 5, 6] rfl rfl (M1 := []) [] rfl rfl (I1 := []) [] rfl rfl).more hb_295
                        clear hh_28 ht_29 hvm_29 hz_29 hk_29 hS_29 hb_291 hb_292 hb_293 hb_294 hb_295
                        obtain ⟨hr_30_0, hr_30_1⟩ := hr_30
                        refine lv_aload_n hx hb dX14_readMany_238 rfl (lv_at hl 1 rfl) ?_
                        refine va_calli (A0 := jA base) (H0 := s.heap) (va_runV (As := []) (rest := []) ⟨hx, hb, hml, hown, hts⟩ (uX14_here l dC dI ca base B hB hAp hB16 hB110 G0 H_29 r0 qt_29 pe) (cwV 0 hts gX14_readMany_X14_here rfl rfl rfl (by decide +kernel) ⟨by rw [← hR]; show (0) + 1 ≤ 2 * ef + 7; omega, by rw [← hR]; show 8 + (1 + 11) + (0) ≤ 130 * ef + 460; omega⟩) ⟨fun a U g mk q => by obtain ⟨q0, q1, q2, qK, q10, q11, q12⟩ := q; exact ⟨q0, q1, q2, jG.calling g mk a qK, q10, q11, q12⟩, hh_29.recv (C := RX14) (T := TX14) (N := 74) hB16 rfl (by decide) hg_r0 hK, fun U hU hW => ⟨rfl, hU, hh_29.2.1, hG.step hW hU hh_29.1, hg_r0, (hh_29.2.2.1.sub (L1 := [(r0, 16, 29, .int qt_29), (r0, 16, 30, .int pe)]) [0, 6] rfl), by first | omega | (refine ⟨?_, ?_, ?_, ?_⟩ <;> (first | omega | rfl | assumption | decide | exact Or.inl rfl | exact Or.inr rfl | (simp only; omega)))⟩⟩ rfl rfl hl.1 rfl (lv_room (Nat.le_of_ble_eq_true rfl)) dX14_readMany_239 ⟨Nat.zero_le _, Nat.zero_le _⟩) hh_29.1 (fun q _ h => h) (fun q h => h) (fun r_32 u_31 t_31 H_31 locs_31 ht_31 hvm_31 hr_32 hb_31 hz_31 hk_31 hS_31 => ?_)
                        rw [ht_31] at hb_31
                        obtain ⟨hb_311, hb_312, hb_313, hb_314, hb_315⟩ := hb_31
                        have hh_31 : jSt (dC, dI) B base G0 G0 EX14_readMany s.heap 0 0 [(r0, 16, 29, .int qt_29), (r0, 16, 21, .ref nameTo_26), (r0, 16, 20, .ref nameFrom_22), (r0, 16, 26, .int qn_17), (r0, 16, 28, .int qp_17), (r0, 16, 31, .int qb_17), (r0, 16, 30, .int pe)] [] [] H_31 locs_31 := (hh_29.call hb_311 hb_312 hb_313 hb_314 hS_31 rfl (L1 := [(r0, 16, 29, .int qt_29), (r0, 16, 21, .ref nameTo_26), (r0, 16, 20, .ref nameFrom_22), (r0, 16, 26, .int qn_17), (r0, 16, 28, .int qp_17), (r0, 16, 31, .int qb_17), (r0, 16, 30, .int pe)]) [0, 1, 2, 3, 4, 5, 6] rfl rfl (M1 := []) [] rfl rfl (I1 := []) [] rfl rfl).more hb_315
                        clear hh_29 ht_31 hvm_31 hz_31 hk_31 hS_31 hb_311 hb_312 hb_313 hb_314 hb_315
                        obtain ⟨hr_32_0, hr_32_1, hr_32_2⟩ := hr_32
                        refine lv_bipush (v := 44) hx hb dX14_readMany_242 (by decide) ?_
                        refine lv_icmp_ne (tgt := 251) hx hb dX14_readMany_244 (by decide) (fun c_33 => ?_) (fun c_33 => ?_)
                        · skip
                          have c_33' : r_32.toInt ≠ 44 := jb_ne (rfl) ((by decide)) c_33
                          first | replace hr_32_2 := hr_32_2.resolve_left (by omega) | replace hr_32_2 := hr_32_2.resolve_right (by omega) | skip
                          refine lv_iconst (v := 0) hx hb dX14_readMany_251 (by decide) ?_
                          refine lv_istore (lv' := [(6, .int 0), (5, .int r_18), (0, .ref r0), (1, .int a1), (2, .int a2), (3, .int r_3), (4, .int w0_6), (7, .int v7_15), (7, .int v7_15), (8, .int v8_15), (8, .int v8_15), (9, .int r_18)]) hx hb dX14_readMany_252 hl (by decide) rfl (fun ls hl => ?_)
                          refine lv_iload hx hb dX14_readMany_254 (lv_at hl 0 rfl) ?_
                          have C273 : ∀ (wb_34 : Int32) (H_34 : Heap) (locs_34 : List Loc), jSt (dC, dI) B base G0 G0 EX14_readMany s.heap 0 0 [(r0, 16, 31, .int wb_34), (r0, 16, 29, .int qt_29), (r0, 16, 21, .ref nameTo_26), (r0, 16, 20, .ref nameFrom_22), (r0, 16, 26, .int qn_17), (r0, 16, 28, .int qp_17), (r0, 16, 30, .int pe)] [] [] H_34 locs_34 → (0 ≤ wb_34.toInt ∧ wb_34.toInt ≤ 1 ∧ qt_29.toInt + 1 ≤ pe.toInt + wb_34.toInt) → ∀ ls : Array Slot, lv_has ls 10 [(0, .ref r0), (1, .int a1), (2, .int a2), (3, .int r_3), (4, .int w0_6), (5, .int r_18), (6, .int 0), (7, .int v7_15), (7, .int v7_15), (8, .int v8_15), (8, .int v8_15), (9, .int r_18)] → W p l e R s m ([.ref r0, .int a1, .int a2] : List Value).toArray below meth c H_34 locs_34 0 0 Q (F0 m 273 ls []) := by
                            intro wb_34 H_34 locs_34 hh_34  hi_34 ls hl
                            obtain ⟨hi_34_0, hi_34_1, hi_34_2⟩ := hi_34
                            clear hr_32_2
                            refine lv_aload_n hx hb dX14_readMany_273 rfl (lv_at hl 0 rfl) ?_
                            refine lv_dup hx hb dX14_readMany_274 rfl ?_
                            refine j7_read hx hb hown hK (C := RX14) (T := TX14) (N := 74) rfl hly_16_29 (hts (.fieldLink RX14 273 "ProofServerModel" "at" "I") (by decide +kernel)) (hh_34.at 1 rfl) dX14_readMany_275 ?_
                            refine lv_iconst (v := 1) hx hb dX14_readMany_278 (by decide) ?_
                            refine lv_iadd hx hb dX14_readMany_279 ?_
                            refine lv_topi (fun z_35 ez_35 => ?_)
                            have hz_35 : z_35.toInt = qt_29.toInt + 1 := by rw [ez_35]; exact jb_iadd2 (rfl) ((by decide)) (by omega)
                            refine j7_put hx hb hown hK hh_34 hB hAp hB16 (C := RX14) (T := TX14) (N := 74) rfl (by decide) hg_r0 (i := 29) (by decide) hly_16_29 rfl (hts (.fieldLink RX14 273 "ProofServerModel" "at" "I") (by decide +kernel)) rfl (ty := .int) (v := .int z_35) (by decide +kernel) rfl rfl (⟨_, rfl, by omega, by omega⟩) rfl (L1 := [(r0, 16, 31, .int wb_34), (r0, 16, 21, .ref nameTo_26), (r0, 16, 20, .ref nameFrom_22), (r0, 16, 26, .int qn_17), (r0, 16, 28, .int qp_17), (r0, 16, 30, .int pe)]) [0, 2, 3, 4, 5, 6] rfl rfl rfl dX14_readMany_280 (fun H_36 locs_36 hh_36 => ?_)
                            clear hh_34
                            refine lv_goto (tgt := 69) hx hb dX14_readMany_283 (by decide) ?_
                            exact L69 r_18 0 z_35 qn_17 qp_17 wb_34 _ _ (hh_36.sub (L1 := [(r0, 16, 29, .int z_35), (r0, 16, 26, .int qn_17), (r0, 16, 28, .int qp_17), (r0, 16, 31, .int wb_34), (r0, 16, 30, .int pe)]) [0, 4, 5, 1, 6] rfl (M1 := []) [] rfl (I1 := []) [] rfl) (Or.inl rfl) (by first | omega | (refine ⟨?_, ?_, ?_, ?_, ?_, ?_, ?_, ?_, ?_, ?_, ?_⟩ <;> (first | omega | rfl | assumption | decide | exact Or.inl rfl | exact Or.inr rfl | (simp only; omega)))) (by omega) _ (lv_sub hl [0, 1, 2, 3, 4, 5, 6] rfl)
                          refine lv_if_ne (tgt := 273) hx hb dX14_readMany_256 (by decide) (fun c_37 => ?_) (fun c_37 => ?_)
                          · skip
                            exact absurd c_37 (by decide)
                          · skip
                            refine lv_aload_n hx hb dX14_readMany_259 rfl (lv_at hl 2 rfl) ?_
                            refine va_calli (A0 := jA base) (H0 := s.heap) (va_runV (As := []) (rest := []) ⟨hx, hb, hml, hown, hts⟩ (uX14_here l dC dI ca base B hB hAp hB16 hB110 G0 H_31 r0 qt_29 pe) (cwV 0 hts gX14_readMany_X14_here rfl rfl rfl (by decide +kernel) ⟨by rw [← hR]; show (0) + 1 ≤ 2 * ef + 7; omega, by rw [← hR]; show 8 + (1 + 11) + (0) ≤ 130 * ef + 460; omega⟩) ⟨fun a U g mk q => by obtain ⟨q0, q1, q2, qK, q10, q11, q12⟩ := q; exact ⟨q0, q1, q2, jG.calling g mk a qK, q10, q11, q12⟩, hh_31.recv (C := RX14) (T := TX14) (N := 74) hB16 rfl (by decide) hg_r0 hK, fun U hU hW => ⟨rfl, hU, hh_31.2.1, hG.step hW hU hh_31.1, hg_r0, (hh_31.2.2.1.sub (L1 := [(r0, 16, 29, .int qt_29), (r0, 16, 30, .int pe)]) [0, 6] rfl), by first | omega | (refine ⟨?_, ?_, ?_, ?_⟩ <;> (first | omega | rfl | assumption | decide | exact Or.inl rfl | exact Or.inr rfl | (simp only; omega)))⟩⟩ rfl rfl hl.1 rfl (lv_room (Nat.le_of_ble_eq_true rfl)) dX14_readMany_260 ⟨Nat.zero_le _, Nat.zero_le _⟩) hh_31.1 (fun q _ h => h) (fun q h => h) (fun r_39 u_38 t_38 H_38 locs_38 ht_38 hvm_38 hr_39 hb_38 hz_38 hk_38 hS_38 => ?_)
                            rw [ht_38] at hb_38
                            obtain ⟨hb_381, hb_382, hb_383, hb_384, hb_385⟩ := hb_38
                            have hh_38 : jSt (dC, dI) B base G0 G0 EX14_readMany s.heap 0 0 [(r0, 16, 29, .int qt_29), (r0, 16, 21, .ref nameTo_26), (r0, 16, 20, .ref nameFrom_22), (r0, 16, 26, .int qn_17), (r0, 16, 28, .int qp_17), (r0, 16, 31, .int qb_17), (r0, 16, 30, .int pe)] [] [] H_38 locs_38 := (hh_31.call hb_381 hb_382 hb_383 hb_384 hS_38 rfl (L1 := [(r0, 16, 29, .int qt_29), (r0, 16, 21, .ref nameTo_26), (r0, 16, 20, .ref nameFrom_22), (r0, 16, 26, .int qn_17), (r0, 16, 28, .int qp_17), (r0, 16, 31, .int qb_17), (r0, 16, 30, .int pe)]) [0, 1, 2, 3, 4, 5, 6] rfl rfl (M1 := []) [] rfl rfl (I1 := []) [] rfl rfl).more hb_385
                            clear hh_31 ht_38 hvm_38 hz_38 hk_38 hS_38 hb_381 hb_382 hb_383 hb_384 hb_385
                            obtain ⟨hr_39_0, hr_39_1, hr_39_2⟩ := hr_39
                            refine lv_iload hx hb dX14_readMany_263 (lv_at hl 6 rfl) ?_
                            refine lv_icmp_eq (tgt := 273) hx hb dX14_readMany_265 (by decide) (fun c_40 => ?_) (fun c_40 => ?_)
                            · skip
                              have c_40' : r_39.toInt = w0_6.toInt := jb_eq (rfl) (rfl) c_40
                              first | replace hr_39_2 := hr_39_2.resolve_left (by omega) | replace hr_39_2 := hr_39_2.resolve_right (by omega) | skip
                              exact C273 qb_17 _ _ (hh_38.sub (L1 := [(r0, 16, 31, .int qb_17), (r0, 16, 29, .int qt_29), (r0, 16, 21, .ref nameTo_26), (r0, 16, 20, .ref nameFrom_22), (r0, 16, 26, .int qn_17), (r0, 16, 28, .int qp_17), (r0, 16, 30, .int pe)]) [5, 0, 1, 2, 3, 4, 6] rfl (M1 := []) [] rfl (I1 := []) [] rfl) (by first | omega | (refine ⟨?_, ?_, ?_⟩ <;> (first | omega | rfl | assumption | decide | exact Or.inl rfl | exact Or.inr rfl | (simp only; omega)))) _ (lv_sub hl [2, 3, 4, 5, 6, 1, 0, 7, 7, 9, 9, 11] rfl)
                            · skip
                              have c_40' : r_39.toInt ≠ w0_6.toInt := jb_eq_n (rfl) (rfl) c_40
                              first | replace hr_39_2 := hr_39_2.resolve_left (by omega) | replace hr_39_2 := hr_39_2.resolve_right (by omega) | skip
                              refine lv_aload_n hx hb dX14_readMany_268 rfl (lv_at hl 2 rfl) ?_
                              refine lv_iconst (v := 1) hx hb dX14_readMany_269 (by decide) ?_
                              refine j7_put hx hb hown hK hh_38 hB hAp hB16 (C := RX14) (T := TX14) (N := 74) rfl (by decide) hg_r0 (i := 31) (by decide) hly_16_31 rfl (hts (.fieldLink RX14 288 "ProofServerModel" "bad" "Z") (by decide +kernel)) rfl (ty := .boolean) (v := .int 1) (by decide +kernel) (jb_nz (Or.inr rfl)) (jb_fz (Or.inr rfl)) (⟨_, rfl, (Or.inr rfl)⟩) rfl (L1 := [(r0, 16, 29, .int qt_29), (r0, 16, 21, .ref nameTo_26), (r0, 16, 20, .ref nameFrom_22), (r0, 16, 26, .int qn_17), (r0, 16, 28, .int qp_17), (r0, 16, 30, .int pe)]) [0, 1, 2, 3, 4, 6] rfl rfl rfl dX14_readMany_270 (fun H_41 locs_41 hh_41 => ?_)
                              clear hh_38
                              exact C273 1 _ _ hh_41 (by first | omega | (refine ⟨?_, ?_, ?_⟩ <;> (first | omega | rfl | assumption | decide | exact Or.inl rfl | exact Or.inr rfl | (simp only; omega)))) _ (lv_sub hl [2, 3, 4, 5, 6, 1, 0, 7, 7, 9, 9, 11] rfl)
                        · skip
                          have c_33' : r_32.toInt = 44 := jb_ne_n (rfl) ((by decide)) c_33
                          first | replace hr_32_2 := hr_32_2.resolve_left (by omega) | replace hr_32_2 := hr_32_2.resolve_right (by omega) | skip
                          refine lv_iconst (v := 1) hx hb dX14_readMany_247 (by decide) ?_
                          refine lv_goto (tgt := 252) hx hb dX14_readMany_248 (by decide) ?_
                          refine lv_istore (lv' := [(6, .int 1), (5, .int r_18), (0, .ref r0), (1, .int a1), (2, .int a2), (3, .int r_3), (4, .int w0_6), (7, .int v7_15), (7, .int v7_15), (8, .int v8_15), (8, .int v8_15), (9, .int r_18)]) hx hb dX14_readMany_252 hl (by decide) rfl (fun ls hl => ?_)
                          refine lv_iload hx hb dX14_readMany_254 (lv_at hl 0 rfl) ?_
                          have C273 : ∀ (wb_42 : Int32) (H_42 : Heap) (locs_42 : List Loc), jSt (dC, dI) B base G0 G0 EX14_readMany s.heap 0 0 [(r0, 16, 31, .int wb_42), (r0, 16, 29, .int qt_29), (r0, 16, 21, .ref nameTo_26), (r0, 16, 20, .ref nameFrom_22), (r0, 16, 26, .int qn_17), (r0, 16, 28, .int qp_17), (r0, 16, 30, .int pe)] [] [] H_42 locs_42 → (0 ≤ wb_42.toInt ∧ wb_42.toInt ≤ 1 ∧ qt_29.toInt + 1 ≤ pe.toInt + wb_42.toInt) → ∀ ls : Array Slot, lv_has ls 10 [(0, .ref r0), (1, .int a1), (2, .int a2), (3, .int r_3), (4, .int w0_6), (5, .int r_18), (6, .int 1), (7, .int v7_15), (7, .int v7_15), (8, .int v8_15), (8, .int v8_15), (9, .int r_18)] → W p l e R s m ([.ref r0, .int a1, .int a2] : List Value).toArray below meth c H_42 locs_42 0 0 Q (F0 m 273 ls []) := by
                            intro wb_42 H_42 locs_42 hh_42  hi_42 ls hl
                            obtain ⟨hi_42_0, hi_42_1, hi_42_2⟩ := hi_42
                            clear hr_32_2
                            refine lv_aload_n hx hb dX14_readMany_273 rfl (lv_at hl 0 rfl) ?_
                            refine lv_dup hx hb dX14_readMany_274 rfl ?_
                            refine j7_read hx hb hown hK (C := RX14) (T := TX14) (N := 74) rfl hly_16_29 (hts (.fieldLink RX14 273 "ProofServerModel" "at" "I") (by decide +kernel)) (hh_42.at 1 rfl) dX14_readMany_275 ?_
                            refine lv_iconst (v := 1) hx hb dX14_readMany_278 (by decide) ?_
                            refine lv_iadd hx hb dX14_readMany_279 ?_
                            refine lv_topi (fun z_43 ez_43 => ?_)
                            have hz_43 : z_43.toInt = qt_29.toInt + 1 := by rw [ez_43]; exact jb_iadd2 (rfl) ((by decide)) (by omega)
                            refine j7_put hx hb hown hK hh_42 hB hAp hB16 (C := RX14) (T := TX14) (N := 74) rfl (by decide) hg_r0 (i := 29) (by decide) hly_16_29 rfl (hts (.fieldLink RX14 273 "ProofServerModel" "at" "I") (by decide +kernel)) rfl (ty := .int) (v := .int z_43) (by decide +kernel) rfl rfl (⟨_, rfl, by omega, by omega⟩) rfl (L1 := [(r0, 16, 31, .int wb_42), (r0, 16, 21, .ref nameTo_26), (r0, 16, 20, .ref nameFrom_22), (r0, 16, 26, .int qn_17), (r0, 16, 28, .int qp_17), (r0, 16, 30, .int pe)]) [0, 2, 3, 4, 5, 6] rfl rfl rfl dX14_readMany_280 (fun H_44 locs_44 hh_44 => ?_)
                            clear hh_42
                            refine lv_goto (tgt := 69) hx hb dX14_readMany_283 (by decide) ?_
                            exact L69 r_18 1 z_43 qn_17 qp_17 wb_42 _ _ (hh_44.sub (L1 := [(r0, 16, 29, .int z_43), (r0, 16, 26, .int qn_17), (r0, 16, 28, .int qp_17), (r0, 16, 31, .int wb_42), (r0, 16, 30, .int pe)]) [0, 4, 5, 1, 6] rfl (M1 := []) [] rfl (I1 := []) [] rfl) (Or.inr rfl) (by first | omega | (refine ⟨?_, ?_, ?_, ?_, ?_, ?_, ?_, ?_, ?_, ?_, ?_⟩ <;> (first | omega | rfl | assumption | decide | exact Or.inl rfl | exact Or.inr rfl | (simp only; omega)))) (by omega) _ (lv_sub hl [0, 1, 2, 3, 4, 5, 6] rfl)
                          refine lv_if_ne (tgt := 273) hx hb dX14_readMany_256 (by decide) (fun c_45 => ?_) (fun c_45 => ?_)
                          · skip
                            exact C273 qb_17 _ _ (hh_31.sub (L1 := [(r0, 16, 31, .int qb_17), (r0, 16, 29, .int qt_29), (r0, 16, 21, .ref nameTo_26), (r0, 16, 20, .ref nameFrom_22), (r0, 16, 26, .int qn_17), (r0, 16, 28, .int qp_17), (r0, 16, 30, .int pe)]) [5, 0, 1, 2, 3, 4, 6] rfl (M1 := []) [] rfl (I1 := []) [] rfl) (by first | omega | (refine ⟨?_, ?_, ?_⟩ <;> (first | omega | rfl | assumption | decide | exact Or.inl rfl | exact Or.inr rfl | (simp only; omega)))) _ (lv_sub hl [2, 3, 4, 5, 6, 1, 0, 7, 7, 9, 9, 11] rfl)
                          · skip
                            exact absurd c_45 (by decide)
                      refine lv_if_ge (tgt := 221) hx hb dX14_readMany_207 (by decide) (fun c_46 => ?_) (fun c_46 => ?_)
                      · skip
                        have c_46' : v5_12.toInt ≥ 0 := jb_ge (rfl) ((by decide)) c_46
                        refine lv_aload_n hx hb dX14_readMany_221 rfl (lv_at hl 1 rfl) ?_
                        obtain ⟨v_47, hv_47, hh_48⟩ := hh_27.pin (C := RX14) (T := TX14) (N := 74) hB16 rfl (by decide) hg_r0 (i := 19) (by decide) rfl
                        clear hh_27
                        obtain ⟨next_49, rfl, hg_next_49⟩ := hv_47
                        refine j7_read hx hb hown hK (C := RX14) (T := TX14) (N := 74) rfl hly_16_19 (hts (.fieldLink RX14 43 "ProofServerModel" "next" "[I") (by decide +kernel)) (hh_48.at 0 rfl) dX14_readMany_222 ?_
                        refine lv_iload hx hb dX14_readMany_225 (lv_at hl 6 rfl) ?_
                        refine lv_iload hx hb dX14_readMany_227 (lv_at hl 0 rfl) ?_
                        refine j7_iast hx hb hK hh_48 hB hB119 1 rfl (by decide) (by decide) rfl rfl rfl hg_next_49 (rfl) (by omega) (by first | omega | rfl | assumption | decide | exact Or.inl rfl | exact Or.inr rfl | (simp only; omega)) dX14_readMany_229 (fun H_50 locs_50 hh_50 => ?_)
                        clear hh_48
                        exact C230  _ _ (hh_50.sub (L1 := [(r0, 16, 21, .ref nameTo_26), (r0, 16, 20, .ref nameFrom_22), (r0, 16, 29, .int qt_17), (r0, 16, 26, .int qn_17), (r0, 16, 28, .int qp_17), (r0, 16, 31, .int qb_17), (r0, 16, 30, .int pe)]) [1, 2, 3, 4, 5, 6, 7] rfl (M1 := []) [] rfl (I1 := []) [] rfl) (trivial) _ (lv_sub hl [1, 2, 3, 4, 5, 6, 7, 8, 8, 9, 9, 0] rfl)
                      · skip
                        have c_46' : v5_12.toInt < 0 := jb_ge_n (rfl) ((by decide)) c_46
                        refine lv_aload_n hx hb dX14_readMany_210 rfl (lv_at hl 1 rfl) ?_
                        obtain ⟨v_51, hv_51, hh_52⟩ := hh_27.pin (C := RX14) (T := TX14) (N := 74) hB16 rfl (by decide) hg_r0 (i := 18) (by decide) rfl
                        clear hh_27
                        obtain ⟨heir_53, rfl, hg_heir_53⟩ := hv_51
                        refine j7_read hx hb hown hK (C := RX14) (T := TX14) (N := 74) rfl hly_16_18 (hts (.fieldLink RX14 40 "ProofServerModel" "heir" "[I") (by decide +kernel)) (hh_52.at 0 rfl) dX14_readMany_211 ?_
                        refine lv_iload_n hx hb dX14_readMany_214 rfl (lv_at hl 4 rfl) ?_
                        refine lv_iload hx hb dX14_readMany_215 (lv_at hl 0 rfl) ?_
                        refine j7_iast hx hb hK hh_52 hB hB118 1 rfl (by decide) (by decide) rfl rfl rfl hg_heir_53 (rfl) (by omega) (by first | omega | (refine ⟨?_, ?_⟩ <;> (first | omega | rfl | assumption | decide | exact Or.inl rfl | exact Or.inr rfl | (simp only; omega)))) dX14_readMany_217 (fun H_54 locs_54 hh_54 => ?_)
                        clear hh_52
                        refine lv_goto (tgt := 230) hx hb dX14_readMany_218 (by decide) ?_
                        exact C230  _ _ (hh_54.sub (L1 := [(r0, 16, 21, .ref nameTo_26), (r0, 16, 20, .ref nameFrom_22), (r0, 16, 29, .int qt_17), (r0, 16, 26, .int qn_17), (r0, 16, 28, .int qp_17), (r0, 16, 31, .int qb_17), (r0, 16, 30, .int pe)]) [1, 2, 3, 4, 5, 6, 7] rfl (M1 := []) [] rfl (I1 := []) [] rfl) (trivial) _ (lv_sub hl [1, 2, 3, 4, 5, 6, 7, 8, 8, 9, 9, 0] rfl)
                    · skip
                      have c_19' : qb_17.toInt ≠ 0 := jb_eq_n (rfl) ((by decide)) c_19
                      refine lv_iload_n hx hb dX14_readMany_185 rfl (lv_at hl 4 rfl) ?_
                      rw [hQ]
                      exact W.iret (v := r_3) hx hb hr (fun t ht hW => ⟨⟨r_3, (qt_17, qn_17, qp_17, qb_17), rfl, by first | omega | (refine ⟨?_, ?_, ?_, ?_, ?_, ?_, ?_, ?_, ?_, ?_⟩ <;> (first | omega | rfl | assumption | decide | exact Or.inl rfl | exact Or.inr rfl | (simp only; omega))), hh_17.rt (M1 := [(r0, 16, 29, .int qt_17), (r0, 16, 26, .int qn_17), (r0, 16, 28, .int qp_17), (r0, 16, 31, .int qb_17)]) [0, 1, 2, 3] rfl ht⟩, by rw [ht]; try exact hh_17.1.1, fun q h9 hq => by rw [ht]; try exact hh_17.1.2.1 q h9 hq⟩) hh_17.1.2.2 dX14_readMany_186
                  · skip
                    have c_16' : wb_15.toInt ≠ 0 := jb_eq_n (rfl) ((by decide)) c_16
                    refine lv_iconst (v := 0) hx hb dX14_readMany_167 (by decide) ?_
                    refine lv_goto (tgt := 176) hx hb dX14_readMany_168 (by decide) ?_
                    refine lv_istore (lv' := [(9, .int 0), (0, .ref r0), (1, .int a1), (2, .int a2), (3, .int r_3), (4, .int w0_6), (5, .int v5_12), (6, .int v6_12), (7, .int v7_15), (8, .int v8_15), (7, .int v7_15), (8, .int v8_15)]) hx hb dX14_readMany_176 hl (by decide) rfl (fun ls hl => ?_)
                    refine lv_aload_n hx hb dX14_readMany_178 rfl (lv_at hl 1 rfl) ?_
                    refine j7_read hx hb hown hK (C := RX14) (T := TX14) (N := 74) rfl hly_16_31 (hts (.fieldLink RX14 288 "ProofServerModel" "bad" "Z") (by decide +kernel)) (hh_15.at 2 rfl) dX14_readMany_179 ?_
                    refine lv_if_eq (tgt := 187) hx hb dX14_readMany_182 (by decide) (fun c_55 => ?_) (fun c_55 => ?_)
                    · skip
                      have c_55' : wb_15.toInt = 0 := jb_eq (rfl) ((by decide)) c_55
                      refine lv_aload_n hx hb dX14_readMany_187 rfl (lv_at hl 1 rfl) ?_
                      obtain ⟨v_56, hv_56, hh_57⟩ := hh_15.pin (C := RX14) (T := TX14) (N := 74) hB16 rfl (by decide) hg_r0 (i := 20) (by decide) rfl
                      clear hh_15
                      obtain ⟨nameFrom_58, rfl, hg_nameFrom_58⟩ := hv_56
                      refine j7_read hx hb hown hK (C := RX14) (T := TX14) (N := 74) rfl hly_16_20 (hts (.fieldLink RX14 46 "ProofServerModel" "nameFrom" "[I") (by decide +kernel)) (hh_57.at 0 rfl) dX14_readMany_188 ?_
                      refine lv_iload hx hb dX14_readMany_191 (lv_at hl 0 rfl) ?_
                      refine lv_iload hx hb dX14_readMany_193 (lv_at hl 8 rfl) ?_
                      refine j7_iast hx hb hK hh_57 hB hB120 1 rfl (by decide) (by decide) rfl rfl rfl hg_nameFrom_58 ((by decide)) (by omega) (by first | omega | (refine ⟨?_, ?_⟩ <;> (first | omega | rfl | assumption | decide | exact Or.inl rfl | exact Or.inr rfl | (simp only; omega)))) dX14_readMany_195 (fun H_59 locs_59 hh_59 => ?_)
                      clear hh_57
                      refine lv_aload_n hx hb dX14_readMany_196 rfl (lv_at hl 1 rfl) ?_
                      obtain ⟨v_60, hv_60, hh_61⟩ := hh_59.pin (C := RX14) (T := TX14) (N := 74) hB16 rfl (by decide) hg_r0 (i := 21) (by decide) rfl
                      clear hh_59
                      obtain ⟨nameTo_62, rfl, hg_nameTo_62⟩ := hv_60
                      refine j7_read hx hb hown hK (C := RX14) (T := TX14) (N := 74) rfl hly_16_21 (hts (.fieldLink RX14 49 "ProofServerModel" "nameTo" "[I") (by decide +kernel)) (hh_61.at 0 rfl) dX14_readMany_197 ?_
                      refine lv_iload hx hb dX14_readMany_200 (lv_at hl 0 rfl) ?_
                      refine lv_iload hx hb dX14_readMany_202 (lv_at hl 9 rfl) ?_
                      refine j7_iast hx hb hK hh_61 hB hB121 1 rfl (by decide) (by decide) rfl rfl rfl hg_nameTo_62 ((by decide)) (by omega) (by first | omega | (refine ⟨?_, ?_⟩ <;> (first | omega | rfl | assumption | decide | exact Or.inl rfl | exact Or.inr rfl | (simp only; omega)))) dX14_readMany_204 (fun H_63 locs_63 hh_63 => ?_)
                      clear hh_61
                      refine lv_iload hx hb dX14_readMany_205 (lv_at hl 6 rfl) ?_
                      have C230 : ∀ (H_64 : Heap) (locs_64 : List Loc), jSt (dC, dI) B base G0 G0 EX14_readMany s.heap 0 0 [(r0, 16, 21, .ref nameTo_62), (r0, 16, 20, .ref nameFrom_58), (r0, 16, 29, .int wt_15), (r0, 16, 28, .int wp_15), (r0, 16, 31, .int wb_15), (r0, 16, 26, .int wn_12), (r0, 16, 30, .int pe)] [] [] H_64 locs_64 → (True) → ∀ ls : Array Slot, lv_has ls 10 [(0, .ref r0), (1, .int a1), (2, .int a2), (3, .int r_3), (4, .int w0_6), (5, .int v5_12), (6, .int v6_12), (7, .int v7_15), (7, .int v7_15), (8, .int v8_15), (8, .int v8_15), (9, .int 0)] → W p l e R s m ([.ref r0, .int a1, .int a2] : List Value).toArray below meth c H_64 locs_64 0 0 Q (F0 m 230 ls []) := by
                        intro  H_64 locs_64 hh_64  hi_64 ls hl
                        refine lv_iload hx hb dX14_readMany_230 (lv_at hl 11 rfl) ?_
                        refine lv_istore (lv' := [(5, .int 0), (0, .ref r0), (1, .int a1), (2, .int a2), (3, .int r_3), (4, .int w0_6), (6, .int v6_12), (7, .int v7_15), (7, .int v7_15), (8, .int v8_15), (8, .int v8_15), (9, .int 0)]) hx hb dX14_readMany_232 hl (by decide) rfl (fun ls hl => ?_)
                        refine lv_aload_n hx hb dX14_readMany_234 rfl (lv_at hl 1 rfl) ?_
                        refine va_callv (A0 := jA base) (H0 := s.heap) (va_runV (As := []) (rest := []) ⟨hx, hb, hml, hown, hts⟩ (uX14_blanks l dC dI ca base B hB hAp hB16 hB110 G0 H_64 r0 wt_15 pe (pe.toInt + 8 * (wb_15.toInt))) (cwV 0 hts gX14_readMany_X14_blanks rfl rfl rfl (by decide +kernel) ⟨by rw [← hR]; show (1) + 1 ≤ 2 * ef + 7; omega, by rw [← hR]; show 8 + (1 + 11) + (20) ≤ 130 * ef + 460; omega⟩) ⟨fun a U g mk q => by obtain ⟨q0, q1, q2, qK, q10, q11, q12⟩ := q; exact ⟨q0, q1, q2, jG.calling g mk a qK, q10, q11, q12⟩, hh_64.recv (C := RX14) (T := TX14) (N := 74) hB16 rfl (by decide) hg_r0 hK, fun U hU hW => ⟨rfl, hU, hh_64.2.1, hG.step hW hU hh_64.1, hg_r0, (hh_64.2.2.1.sub (L1 := [(r0, 16, 29, .int wt_15), (r0, 16, 30, .int pe)]) [2, 6] rfl), by first | omega | (refine ⟨?_, ?_, ?_, ?_, ?_, ?_, ?_⟩ <;> (first | omega | rfl | assumption | decide | exact Or.inl rfl | exact Or.inr rfl | (simp only; omega)))⟩⟩ rfl rfl hl.1 rfl (lv_room (Nat.le_of_ble_eq_true rfl)) dX14_readMany_235 ⟨Nat.zero_le _, Nat.zero_le _⟩) hh_64.1 (fun q _ h => h) (fun q h => h) (fun u_65 t_65 H_65 locs_65 ht_65 hvm_65 hr_66 hb_65 hz_65 hk_65 hS_65 => ?_)
                        obtain ⟨qt_65, rfl⟩ : ∃ z, z = u_65 := ⟨_, rfl⟩
                        rw [ht_65] at hb_65
                        obtain ⟨hb_651, hb_652, hb_653, hb_654, hb_655⟩ := hb_65
                        have hh_65 : jSt (dC, dI) B base G0 G0 EX14_readMany s.heap 0 0 [(r0, 16, 29, .int qt_65), (r0, 16, 21, .ref nameTo_62), (r0, 16, 20, .ref nameFrom_58), (r0, 16, 28, .int wp_15), (r0, 16, 31, .int wb_15), (r0, 16, 26, .int wn_12), (r0, 16, 30, .int pe)] [] [] H_65 locs_65 := (hh_64.call hb_651 hb_652 hb_653 hb_654 hS_65 rfl (L1 := [(r0, 16, 21, .ref nameTo_62), (r0, 16, 20, .ref nameFrom_58), (r0, 16, 28, .int wp_15), (r0, 16, 31, .int wb_15), (r0, 16, 26, .int wn_12), (r0, 16, 30, .int pe)]) [0, 1, 3, 4, 5, 6] rfl rfl (M1 := []) [] rfl rfl (I1 := []) [] rfl rfl).more hb_655
                        clear hh_64 ht_65 hvm_65 hz_65 hk_65 hS_65 hb_651 hb_652 hb_653 hb_654 hb_655
                        obtain ⟨hr_66_0, hr_66_1⟩ := hr_66
                        refine lv_aload_n hx hb dX14_readMany_238 rfl (lv_at hl 1 rfl) ?_
                        refine va_calli (A0 := jA base) (H0 := s.heap) (va_runV (As := []) (rest := []) ⟨hx, hb, hml, hown, hts⟩ (uX14_here l dC dI ca base B hB hAp hB16 hB110 G0 H_65 r0 qt_65 pe) (cwV 0 hts gX14_readMany_X14_here rfl rfl rfl (by decide +kernel) ⟨by rw [← hR]; show (0) + 1 ≤ 2 * ef + 7; omega, by rw [← hR]; show 8 + (1 + 11) + (0) ≤ 130 * ef + 460; omega⟩) ⟨fun a U g mk q => by obtain ⟨q0, q1, q2, qK, q10, q11, q12⟩ := q; exact ⟨q0, q1, q2, jG.calling g mk a qK, q10, q11, q12⟩, hh_65.recv (C := RX14) (T := TX14) (N := 74) hB16 rfl (by decide) hg_r0 hK, fun U hU hW => ⟨rfl, hU, hh_65.2.1, hG.step hW hU hh_65.1, hg_r0, (hh_65.2.2.1.sub (L1 := [(r0, 16, 29, .int qt_65), (r0, 16, 30, .int pe)]) [0, 6] rfl), by first | omega | (refine ⟨?_, ?_, ?_, ?_⟩ <;> (first | omega | rfl | assumption | decide | exact Or.inl rfl | exact Or.inr rfl | (simp only; omega)))⟩⟩ rfl rfl hl.1 rfl (lv_room (Nat.le_of_ble_eq_true rfl)) dX14_readMany_239 ⟨Nat.zero_le _, Nat.zero_le _⟩) hh_65.1 (fun q _ h => h) (fun q h => h) (fun r_68 u_67 t_67 H_67 locs_67 ht_67 hvm_67 hr_68 hb_67 hz_67 hk_67 hS_67 => ?_)
                        rw [ht_67] at hb_67
                        obtain ⟨hb_671, hb_672, hb_673, hb_674, hb_675⟩ := hb_67
                        have hh_67 : jSt (dC, dI) B base G0 G0 EX14_readMany s.heap 0 0 [(r0, 16, 29, .int qt_65), (r0, 16, 21, .ref nameTo_62), (r0, 16, 20, .ref nameFrom_58), (r0, 16, 28, .int wp_15), (r0, 16, 31, .int wb_15), (r0, 16, 26, .int wn_12), (r0, 16, 30, .int pe)] [] [] H_67 locs_67 := (hh_65.call hb_671 hb_672 hb_673 hb_674 hS_67 rfl (L1 := [(r0, 16, 29, .int qt_65), (r0, 16, 21, .ref nameTo_62), (r0, 16, 20, .ref nameFrom_58), (r0, 16, 28, .int wp_15), (r0, 16, 31, .int wb_15), (r0, 16, 26, .int wn_12), (r0, 16, 30, .int pe)]) [0, 1, 2, 3, 4, 5, 6] rfl rfl (M1 := []) [] rfl rfl (I1 := []) [] rfl rfl).more hb_675
                        clear hh_65 ht_67 hvm_67 hz_67 hk_67 hS_67 hb_671 hb_672 hb_673 hb_674 hb_675
                        obtain ⟨hr_68_0, hr_68_1, hr_68_2⟩ := hr_68
                        refine lv_bipush (v := 44) hx hb dX14_readMany_242 (by decide) ?_
                        refine lv_icmp_ne (tgt := 251) hx hb dX14_readMany_244 (by decide) (fun c_69 => ?_) (fun c_69 => ?_)
                        · skip
                          have c_69' : r_68.toInt ≠ 44 := jb_ne (rfl) ((by decide)) c_69
                          first | replace hr_68_2 := hr_68_2.resolve_left (by omega) | replace hr_68_2 := hr_68_2.resolve_right (by omega) | skip
                          refine lv_iconst (v := 0) hx hb dX14_readMany_251 (by decide) ?_
                          refine lv_istore (lv' := [(6, .int 0), (5, .int 0), (0, .ref r0), (1, .int a1), (2, .int a2), (3, .int r_3), (4, .int w0_6), (7, .int v7_15), (7, .int v7_15), (8, .int v8_15), (8, .int v8_15), (9, .int 0)]) hx hb dX14_readMany_252 hl (by decide) rfl (fun ls hl => ?_)
                          refine lv_iload hx hb dX14_readMany_254 (lv_at hl 0 rfl) ?_
                          have C273 : ∀ (wb_70 : Int32) (H_70 : Heap) (locs_70 : List Loc), jSt (dC, dI) B base G0 G0 EX14_readMany s.heap 0 0 [(r0, 16, 31, .int wb_70), (r0, 16, 29, .int qt_65), (r0, 16, 21, .ref nameTo_62), (r0, 16, 20, .ref nameFrom_58), (r0, 16, 28, .int wp_15), (r0, 16, 26, .int wn_12), (r0, 16, 30, .int pe)] [] [] H_70 locs_70 → (0 ≤ wb_70.toInt ∧ wb_70.toInt ≤ 1 ∧ qt_65.toInt + 1 ≤ pe.toInt + wb_70.toInt) → ∀ ls : Array Slot, lv_has ls 10 [(0, .ref r0), (1, .int a1), (2, .int a2), (3, .int r_3), (4, .int w0_6), (5, .int 0), (6, .int 0), (7, .int v7_15), (7, .int v7_15), (8, .int v8_15), (8, .int v8_15), (9, .int 0)] → W p l e R s m ([.ref r0, .int a1, .int a2] : List Value).toArray below meth c H_70 locs_70 0 0 Q (F0 m 273 ls []) := by
                            intro wb_70 H_70 locs_70 hh_70  hi_70 ls hl
                            obtain ⟨hi_70_0, hi_70_1, hi_70_2⟩ := hi_70
                            clear hr_68_2
                            refine lv_aload_n hx hb dX14_readMany_273 rfl (lv_at hl 0 rfl) ?_
                            refine lv_dup hx hb dX14_readMany_274 rfl ?_
                            refine j7_read hx hb hown hK (C := RX14) (T := TX14) (N := 74) rfl hly_16_29 (hts (.fieldLink RX14 273 "ProofServerModel" "at" "I") (by decide +kernel)) (hh_70.at 1 rfl) dX14_readMany_275 ?_
                            refine lv_iconst (v := 1) hx hb dX14_readMany_278 (by decide) ?_
                            refine lv_iadd hx hb dX14_readMany_279 ?_
                            refine lv_topi (fun z_71 ez_71 => ?_)
                            have hz_71 : z_71.toInt = qt_65.toInt + 1 := by rw [ez_71]; exact jb_iadd2 (rfl) ((by decide)) (by omega)
                            refine j7_put hx hb hown hK hh_70 hB hAp hB16 (C := RX14) (T := TX14) (N := 74) rfl (by decide) hg_r0 (i := 29) (by decide) hly_16_29 rfl (hts (.fieldLink RX14 273 "ProofServerModel" "at" "I") (by decide +kernel)) rfl (ty := .int) (v := .int z_71) (by decide +kernel) rfl rfl (⟨_, rfl, by omega, by omega⟩) rfl (L1 := [(r0, 16, 31, .int wb_70), (r0, 16, 21, .ref nameTo_62), (r0, 16, 20, .ref nameFrom_58), (r0, 16, 28, .int wp_15), (r0, 16, 26, .int wn_12), (r0, 16, 30, .int pe)]) [0, 2, 3, 4, 5, 6] rfl rfl rfl dX14_readMany_280 (fun H_72 locs_72 hh_72 => ?_)
                            clear hh_70
                            refine lv_goto (tgt := 69) hx hb dX14_readMany_283 (by decide) ?_
                            exact L69 0 0 z_71 wn_12 wp_15 wb_70 _ _ (hh_72.sub (L1 := [(r0, 16, 29, .int z_71), (r0, 16, 26, .int wn_12), (r0, 16, 28, .int wp_15), (r0, 16, 31, .int wb_70), (r0, 16, 30, .int pe)]) [0, 5, 4, 1, 6] rfl (M1 := []) [] rfl (I1 := []) [] rfl) (Or.inl rfl) (by first | omega | (refine ⟨?_, ?_, ?_, ?_, ?_, ?_, ?_, ?_, ?_, ?_, ?_⟩ <;> (first | omega | rfl | assumption | decide | exact Or.inl rfl | exact Or.inr rfl | (simp only; omega)))) (by omega) _ (lv_sub hl [0, 1, 2, 3, 4, 5, 6] rfl)
                          refine lv_if_ne (tgt := 273) hx hb dX14_readMany_256 (by decide) (fun c_73 => ?_) (fun c_73 => ?_)
                          · skip
                            exact absurd c_73 (by decide)
                          · skip
                            refine lv_aload_n hx hb dX14_readMany_259 rfl (lv_at hl 2 rfl) ?_
                            refine va_calli (A0 := jA base) (H0 := s.heap) (va_runV (As := []) (rest := []) ⟨hx, hb, hml, hown, hts⟩ (uX14_here l dC dI ca base B hB hAp hB16 hB110 G0 H_67 r0 qt_65 pe) (cwV 0 hts gX14_readMany_X14_here rfl rfl rfl (by decide +kernel) ⟨by rw [← hR]; show (0) + 1 ≤ 2 * ef + 7; omega, by rw [← hR]; show 8 + (1 + 11) + (0) ≤ 130 * ef + 460; omega⟩) ⟨fun a U g mk q => by obtain ⟨q0, q1, q2, qK, q10, q11, q12⟩ := q; exact ⟨q0, q1, q2, jG.calling g mk a qK, q10, q11, q12⟩, hh_67.recv (C := RX14) (T := TX14) (N := 74) hB16 rfl (by decide) hg_r0 hK, fun U hU hW => ⟨rfl, hU, hh_67.2.1, hG.step hW hU hh_67.1, hg_r0, (hh_67.2.2.1.sub (L1 := [(r0, 16, 29, .int qt_65), (r0, 16, 30, .int pe)]) [0, 6] rfl), by first | omega | (refine ⟨?_, ?_, ?_, ?_⟩ <;> (first | omega | rfl | assumption | decide | exact Or.inl rfl | exact Or.inr rfl | (simp only; omega)))⟩⟩ rfl rfl hl.1 rfl (lv_room (Nat.le_of_ble_eq_true rfl)) dX14_readMany_260 ⟨Nat.zero_le _, Nat.zero_le _⟩) hh_67.1 (fun q _ h => h) (fun q h => h) (fun r_75 u_74 t_74 H_74 locs_74 ht_74 hvm_74 hr_75 hb_74 hz_74 hk_74 hS_74 => ?_)
                            rw [ht_74] at hb_74
                            obtain ⟨hb_741, hb_742, hb_743, hb_744, hb_745⟩ := hb_74
                            have hh_74 : jSt (dC, dI) B base G0 G0 EX14_readMany s.heap 0 0 [(r0, 16, 29, .int qt_65), (r0, 16, 21, .ref nameTo_62), (r0, 16, 20, .ref nameFrom_58), (r0, 16, 28, .int wp_15), (r0, 16, 31, .int wb_15), (r0, 16, 26, .int wn_12), (r0, 16, 30, .int pe)] [] [] H_74 locs_74 := (hh_67.call hb_741 hb_742 hb_743 hb_744 hS_74 rfl (L1 := [(r0, 16, 29, .int qt_65), (r0, 16, 21, .ref nameTo_62), (r0, 16, 20, .ref nameFrom_58), (r0, 16, 28, .int wp_15), (r0, 16, 31, .int wb_15), (r0, 16, 26, .int wn_12), (r0, 16, 30, .int pe)]) [0, 1, 2, 3, 4, 5, 6] rfl rfl (M1 := []) [] rfl rfl (I1 := []) [] rfl rfl).more hb_745
                            clear hh_67 ht_74 hvm_74 hz_74 hk_74 hS_74 hb_741 hb_742 hb_743 hb_744 hb_745
                            obtain ⟨hr_75_0, hr_75_1, hr_75_2⟩ := hr_75
                            refine lv_iload hx hb dX14_readMany_263 (lv_at hl 6 rfl) ?_
                            refine lv_icmp_eq (tgt := 273) hx hb dX14_readMany_265 (by decide) (fun c_76 => ?_) (fun c_76 => ?_)
                            · skip
                              have c_76' : r_75.toInt = w0_6.toInt := jb_eq (rfl) (rfl) c_76
                              first | replace hr_75_2 := hr_75_2.resolve_left (by omega) | replace hr_75_2 := hr_75_2.resolve_right (by omega) | skip
                              exact C273 wb_15 _ _ (hh_74.sub (L1 := [(r0, 16, 31, .int wb_15), (r0, 16, 29, .int qt_65), (r0, 16, 21, .ref nameTo_62), (r0, 16, 20, .ref nameFrom_58), (r0, 16, 28, .int wp_15), (r0, 16, 26, .int wn_12), (r0, 16, 30, .int pe)]) [4, 0, 1, 2, 3, 5, 6] rfl (M1 := []) [] rfl (I1 := []) [] rfl) (by first | omega | (refine ⟨?_, ?_, ?_⟩ <;> (first | omega | rfl | assumption | decide | exact Or.inl rfl | exact Or.inr rfl | (simp only; omega)))) _ (lv_sub hl [2, 3, 4, 5, 6, 1, 0, 7, 7, 9, 9, 11] rfl)
                            · skip
                              have c_76' : r_75.toInt ≠ w0_6.toInt := jb_eq_n (rfl) (rfl) c_76
                              first | replace hr_75_2 := hr_75_2.resolve_left (by omega) | replace hr_75_2 := hr_75_2.resolve_right (by omega) | skip
                              refine lv_aload_n hx hb dX14_readMany_268 rfl (lv_at hl 2 rfl) ?_
                              refine lv_iconst (v := 1) hx hb dX14_readMany_269 (by decide) ?_
                              refine j7_put hx hb hown hK hh_74 hB hAp hB16 (C := RX14) (T := TX14) (N := 74) rfl (by decide) hg_r0 (i := 31) (by decide) hly_16_31 rfl (hts (.fieldLink RX14 288 "ProofServerModel" "bad" "Z") (by decide +kernel)) rfl (ty := .boolean) (v := .int 1) (by decide +kernel) (jb_nz (Or.inr rfl)) (jb_fz (Or.inr rfl)) (⟨_, rfl, (Or.inr rfl)⟩) rfl (L1 := [(r0, 16, 29, .int qt_65), (r0, 16, 21, .ref nameTo_62), (r0, 16, 20, .ref nameFrom_58), (r0, 16, 28, .int wp_15), (r0, 16, 26, .int wn_12), (r0, 16, 30, .int pe)]) [0, 1, 2, 3, 5, 6] rfl rfl rfl dX14_readMany_270 (fun H_77 locs_77 hh_77 => ?_)
                              clear hh_74
                              exact C273 1 _ _ hh_77 (by first | omega | (refine ⟨?_, ?_, ?_⟩ <;> (first | omega | rfl | assumption | decide | exact Or.inl rfl | exact Or.inr rfl | (simp only; omega)))) _ (lv_sub hl [2, 3, 4, 5, 6, 1, 0, 7, 7, 9, 9, 11] rfl)
                        · skip
                          have c_69' : r_68.toInt = 44 := jb_ne_n (rfl) ((by decide)) c_69
                          first | replace hr_68_2 := hr_68_2.resolve_left (by omega) | replace hr_68_2 := hr_68_2.resolve_right (by omega) | skip
                          refine lv_iconst (v := 1) hx hb dX14_readMany_247 (by decide) ?_
                          refine lv_goto (tgt := 252) hx hb dX14_readMany_248 (by decide) ?_
                          refine lv_istore (lv' := [(6, .int 1), (5, .int 0), (0, .ref r0), (1, .int a1), (2, .int a2), (3, .int r_3), (4, .int w0_6), (7, .int v7_15), (7, .int v7_15), (8, .int v8_15), (8, .int v8_15), (9, .int 0)]) hx hb dX14_readMany_252 hl (by decide) rfl (fun ls hl => ?_)
                          refine lv_iload hx hb dX14_readMany_254 (lv_at hl 0 rfl) ?_
                          have C273 : ∀ (wb_78 : Int32) (H_78 : Heap) (locs_78 : List Loc), jSt (dC, dI) B base G0 G0 EX14_readMany s.heap 0 0 [(r0, 16, 31, .int wb_78), (r0, 16, 29, .int qt_65), (r0, 16, 21, .ref nameTo_62), (r0, 16, 20, .ref nameFrom_58), (r0, 16, 28, .int wp_15), (r0, 16, 26, .int wn_12), (r0, 16, 30, .int pe)] [] [] H_78 locs_78 → (0 ≤ wb_78.toInt ∧ wb_78.toInt ≤ 1 ∧ qt_65.toInt + 1 ≤ pe.toInt + wb_78.toInt) → ∀ ls : Array Slot, lv_has ls 10 [(0, .ref r0), (1, .int a1), (2, .int a2), (3, .int r_3), (4, .int w0_6), (5, .int 0), (6, .int 1), (7, .int v7_15), (7, .int v7_15), (8, .int v8_15), (8, .int v8_15), (9, .int 0)] → W p l e R s m ([.ref r0, .int a1, .int a2] : List Value).toArray below meth c H_78 locs_78 0 0 Q (F0 m 273 ls []) := by
                            intro wb_78 H_78 locs_78 hh_78  hi_78 ls hl
                            obtain ⟨hi_78_0, hi_78_1, hi_78_2⟩ := hi_78
                            clear hr_68_2
                            refine lv_aload_n hx hb dX14_readMany_273 rfl (lv_at hl 0 rfl) ?_
                            refine lv_dup hx hb dX14_readMany_274 rfl ?_
                            refine j7_read hx hb hown hK (C := RX14) (T := TX14) (N := 74) rfl hly_16_29 (hts (.fieldLink RX14 273 "ProofServerModel" "at" "I") (by decide +kernel)) (hh_78.at 1 rfl) dX14_readMany_275 ?_
                            refine lv_iconst (v := 1) hx hb dX14_readMany_278 (by decide) ?_
                            refine lv_iadd hx hb dX14_readMany_279 ?_
                            refine lv_topi (fun z_79 ez_79 => ?_)
                            have hz_79 : z_79.toInt = qt_65.toInt + 1 := by rw [ez_79]; exact jb_iadd2 (rfl) ((by decide)) (by omega)
                            refine j7_put hx hb hown hK hh_78 hB hAp hB16 (C := RX14) (T := TX14) (N := 74) rfl (by decide) hg_r0 (i := 29) (by decide) hly_16_29 rfl (hts (.fieldLink RX14 273 "ProofServerModel" "at" "I") (by decide +kernel)) rfl (ty := .int) (v := .int z_79) (by decide +kernel) rfl rfl (⟨_, rfl, by omega, by omega⟩) rfl (L1 := [(r0, 16, 31, .int wb_78), (r0, 16, 21, .ref nameTo_62), (r0, 16, 20, .ref nameFrom_58), (r0, 16, 28, .int wp_15), (r0, 16, 26, .int wn_12), (r0, 16, 30, .int pe)]) [0, 2, 3, 4, 5, 6] rfl rfl rfl dX14_readMany_280 (fun H_80 locs_80 hh_80 => ?_)
                            clear hh_78
                            refine lv_goto (tgt := 69) hx hb dX14_readMany_283 (by decide) ?_
                            exact L69 0 1 z_79 wn_12 wp_15 wb_78 _ _ (hh_80.sub (L1 := [(r0, 16, 29, .int z_79), (r0, 16, 26, .int wn_12), (r0, 16, 28, .int wp_15), (r0, 16, 31, .int wb_78), (r0, 16, 30, .int pe)]) [0, 5, 4, 1, 6] rfl (M1 := []) [] rfl (I1 := []) [] rfl) (Or.inr rfl) (by first | omega | (refine ⟨?_, ?_, ?_, ?_, ?_, ?_, ?_, ?_, ?_, ?_, ?_⟩ <;> (first | omega | rfl | assumption | decide | exact Or.inl rfl | exact Or.inr rfl | (simp only; omega)))) (by omega) _ (lv_sub hl [0, 1, 2, 3, 4, 5, 6] rfl)
                          refine lv_if_ne (tgt := 273) hx hb dX14_readMany_256 (by decide) (fun c_81 => ?_) (fun c_81 => ?_)
                          · skip
                            exact C273 wb_15 _ _ (hh_67.sub (L1 := [(r0, 16, 31, .int wb_15), (r0, 16, 29, .int qt_65), (r0, 16, 21, .ref nameTo_62), (r0, 16, 20, .ref nameFrom_58), (r0, 16, 28, .int wp_15), (r0, 16, 26, .int wn_12), (r0, 16, 30, .int pe)]) [4, 0, 1, 2, 3, 5, 6] rfl (M1 := []) [] rfl (I1 := []) [] rfl) (by first | omega | (refine ⟨?_, ?_, ?_⟩ <;> (first | omega | rfl | assumption | decide | exact Or.inl rfl | exact Or.inr rfl | (simp only; omega)))) _ (lv_sub hl [2, 3, 4, 5, 6, 1, 0, 7, 7, 9, 9, 11] rfl)
                          · skip
                            exact absurd c_81 (by decide)
                      refine lv_if_ge (tgt := 221) hx hb dX14_readMany_207 (by decide) (fun c_82 => ?_) (fun c_82 => ?_)
                      · skip
                        have c_82' : v5_12.toInt ≥ 0 := jb_ge (rfl) ((by decide)) c_82
                        refine lv_aload_n hx hb dX14_readMany_221 rfl (lv_at hl 1 rfl) ?_
                        obtain ⟨v_83, hv_83, hh_84⟩ := hh_63.pin (C := RX14) (T := TX14) (N := 74) hB16 rfl (by decide) hg_r0 (i := 19) (by decide) rfl
                        clear hh_63
                        obtain ⟨next_85, rfl, hg_next_85⟩ := hv_83
                        refine j7_read hx hb hown hK (C := RX14) (T := TX14) (N := 74) rfl hly_16_19 (hts (.fieldLink RX14 43 "ProofServerModel" "next" "[I") (by decide +kernel)) (hh_84.at 0 rfl) dX14_readMany_222 ?_
                        refine lv_iload hx hb dX14_readMany_225 (lv_at hl 6 rfl) ?_
                        refine lv_iload hx hb dX14_readMany_227 (lv_at hl 0 rfl) ?_
                        refine j7_iast hx hb hK hh_84 hB hB119 1 rfl (by decide) (by decide) rfl rfl rfl hg_next_85 (rfl) (by omega) (by first | omega | rfl | assumption | decide | exact Or.inl rfl | exact Or.inr rfl | (simp only; omega)) dX14_readMany_229 (fun H_86 locs_86 hh_86 => ?_)
                        clear hh_84
                        exact C230  _ _ (hh_86.sub (L1 := [(r0, 16, 21, .ref nameTo_62), (r0, 16, 20, .ref nameFrom_58), (r0, 16, 29, .int wt_15), (r0, 16, 28, .int wp_15), (r0, 16, 31, .int wb_15), (r0, 16, 26, .int wn_12), (r0, 16, 30, .int pe)]) [1, 2, 3, 4, 5, 6, 7] rfl (M1 := []) [] rfl (I1 := []) [] rfl) (trivial) _ (lv_sub hl [1, 2, 3, 4, 5, 6, 7, 8, 8, 9, 9, 0] rfl)
                      · skip
                        have c_82' : v5_12.toInt < 0 := jb_ge_n (rfl) ((by decide)) c_82
                        refine lv_aload_n hx hb dX14_readMany_210 rfl (lv_at hl 1 rfl) ?_
                        obtain ⟨v_87, hv_87, hh_88⟩ := hh_63.pin (C := RX14) (T := TX14) (N := 74) hB16 rfl (by decide) hg_r0 (i := 18) (by decide) rfl
                        clear hh_63
                        obtain ⟨heir_89, rfl, hg_heir_89⟩ := hv_87
                        refine j7_read hx hb hown hK (C := RX14) (T := TX14) (N := 74) rfl hly_16_18 (hts (.fieldLink RX14 40 "ProofServerModel" "heir" "[I") (by decide +kernel)) (hh_88.at 0 rfl) dX14_readMany_211 ?_
                        refine lv_iload_n hx hb dX14_readMany_214 rfl (lv_at hl 4 rfl) ?_
                        refine lv_iload hx hb dX14_readMany_215 (lv_at hl 0 rfl) ?_
                        refine j7_iast hx hb hK hh_88 hB hB118 1 rfl (by decide) (by decide) rfl rfl rfl hg_heir_89 (rfl) (by omega) (by first | omega | (refine ⟨?_, ?_⟩ <;> (first | omega | rfl | assumption | decide | exact Or.inl rfl | exact Or.inr rfl | (simp only; omega)))) dX14_readMany_217 (fun H_90 locs_90 hh_90 => ?_)
                        clear hh_88
                        refine lv_goto (tgt := 230) hx hb dX14_readMany_218 (by decide) ?_
                        exact C230  _ _ (hh_90.sub (L1 := [(r0, 16, 21, .ref nameTo_62), (r0, 16, 20, .ref nameFrom_58), (r0, 16, 29, .int wt_15), (r0, 16, 28, .int wp_15), (r0, 16, 31, .int wb_15), (r0, 16, 26, .int wn_12), (r0, 16, 30, .int pe)]) [1, 2, 3, 4, 5, 6, 7] rfl (M1 := []) [] rfl (I1 := []) [] rfl) (trivial) _ (lv_sub hl [1, 2, 3, 4, 5, 6, 7, 8, 8, 9, 9, 0] rfl)
                    · skip
                      have c_55' : wb_15.toInt ≠ 0 := jb_eq_n (rfl) ((by decide)) c_55
                      refine lv_iload_n hx hb dX14_readMany_185 rfl (lv_at hl 4 rfl) ?_
                      rw [hQ]
                      exact W.iret (v := r_3) hx hb hr (fun t ht hW => ⟨⟨r_3, (wt_15, wn_12, wp_15, wb_15), rfl, by first | omega | (refine ⟨?_, ?_, ?_, ?_, ?_, ?_, ?_, ?_, ?_, ?_⟩ <;> (first | omega | rfl | assumption | decide | exact Or.inl rfl | exact Or.inr rfl | (simp only; omega))), hh_15.rt (M1 := [(r0, 16, 29, .int wt_15), (r0, 16, 26, .int wn_12), (r0, 16, 28, .int wp_15), (r0, 16, 31, .int wb_15)]) [0, 3, 1, 2] rfl ht⟩, by rw [ht]; try exact hh_15.1.1, fun q h9 hq => by rw [ht]; try exact hh_15.1.2.1 q h9 hq⟩) hh_15.1.2.2 dX14_readMany_186
                refine lv_if_eq (tgt := 160) hx hb dX14_readMany_88 (by decide) (fun c_91 => ?_) (fun c_91 => ?_)
                · skip
                  have c_91' : a1.toInt = 0 := jb_eq (rfl) ((by decide)) c_91
                  exact C160 0 0 0 0 wt_12 wp_12 wb_12 _ _ (hh_12.sub (L1 := [(r0, 16, 29, .int wt_12), (r0, 16, 28, .int wp_12), (r0, 16, 31, .int wb_12), (r0, 16, 26, .int wn_12), (r0, 16, 30, .int pe)]) [0, 2, 3, 1, 4] rfl (M1 := []) [] rfl (I1 := []) [] rfl) (by first | omega | (refine ⟨?_, ?_, ?_, ?_, ?_, ?_, ?_, ?_, ?_, ?_⟩ <;> (first | omega | rfl | assumption | decide | exact Or.inl rfl | exact Or.inr rfl | (simp only; omega)))) _ (lv_sub hl [2, 3, 4, 5, 6, 7, 8, 1, 0, 1, 0] rfl)
                · skip
                  have c_91' : a1.toInt ≠ 0 := jb_eq_n (rfl) ((by decide)) c_91
                  refine lv_aload_n hx hb dX14_readMany_91 rfl (lv_at hl 2 rfl) ?_
                  refine va_callv (A0 := jA base) (H0 := s.heap) (va_runV (As := []) (rest := []) ⟨hx, hb, hml, hown, hts⟩ (uX14_blanks l dC dI ca base B hB hAp hB16 hB110 G0 H_12 r0 wt_12 pe (pe.toInt + 8 * (wb_12.toInt))) (cwV 0 hts gX14_readMany_X14_blanks rfl rfl rfl (by decide +kernel) ⟨by rw [← hR]; show (1) + 1 ≤ 2 * ef + 7; omega, by rw [← hR]; show 8 + (1 + 11) + (20) ≤ 130 * ef + 460; omega⟩) ⟨fun a U g mk q => by obtain ⟨q0, q1, q2, qK, q10, q11, q12⟩ := q; exact ⟨q0, q1, q2, jG.calling g mk a qK, q10, q11, q12⟩, hh_12.recv (C := RX14) (T := TX14) (N := 74) hB16 rfl (by decide) hg_r0 hK, fun U hU hW => ⟨rfl, hU, hh_12.2.1, hG.step hW hU hh_12.1, hg_r0, (hh_12.2.2.1.sub (L1 := [(r0, 16, 29, .int wt_12), (r0, 16, 30, .int pe)]) [0, 4] rfl), by first | omega | (refine ⟨?_, ?_, ?_, ?_, ?_, ?_, ?_⟩ <;> (first | omega | rfl | assumption | decide | exact Or.inl rfl | exact Or.inr rfl | (simp only; omega)))⟩⟩ rfl rfl hl.1 rfl (lv_room (Nat.le_of_ble_eq_true rfl)) dX14_readMany_92 ⟨Nat.zero_le _, Nat.zero_le _⟩) hh_12.1 (fun q _ h => h) (fun q h => h) (fun u_92 t_92 H_92 locs_92 ht_92 hvm_92 hr_93 hb_92 hz_92 hk_92 hS_92 => ?_)
                  obtain ⟨qt_92, rfl⟩ : ∃ z, z = u_92 := ⟨_, rfl⟩
                  rw [ht_92] at hb_92
                  obtain ⟨hb_921, hb_922, hb_923, hb_924, hb_925⟩ := hb_92
                  have hh_92 : jSt (dC, dI) B base G0 G0 EX14_readMany s.heap 0 0 [(r0, 16, 29, .int qt_92), (r0, 16, 26, .int wn_12), (r0, 16, 28, .int wp_12), (r0, 16, 31, .int wb_12), (r0, 16, 30, .int pe)] [] [] H_92 locs_92 := (hh_12.call hb_921 hb_922 hb_923 hb_924 hS_92 rfl (L1 := [(r0, 16, 26, .int wn_12), (r0, 16, 28, .int wp_12), (r0, 16, 31, .int wb_12), (r0, 16, 30, .int pe)]) [1, 2, 3, 4] rfl rfl (M1 := []) [] rfl rfl (I1 := []) [] rfl rfl).more hb_925
                  clear hh_12 ht_92 hvm_92 hz_92 hk_92 hS_92 hb_921 hb_922 hb_923 hb_924 hb_925
                  obtain ⟨hr_93_0, hr_93_1⟩ := hr_93
                  refine lv_aload_n hx hb dX14_readMany_95 rfl (lv_at hl 2 rfl) ?_
                  refine va_calli (A0 := jA base) (H0 := s.heap) (va_runV (As := []) (rest := []) ⟨hx, hb, hml, hown, hts⟩ (uX14_here l dC dI ca base B hB hAp hB16 hB110 G0 H_92 r0 qt_92 pe) (cwV 0 hts gX14_readMany_X14_here rfl rfl rfl (by decide +kernel) ⟨by rw [← hR]; show (0) + 1 ≤ 2 * ef + 7; omega, by rw [← hR]; show 8 + (1 + 11) + (0) ≤ 130 * ef + 460; omega⟩) ⟨fun a U g mk q => by obtain ⟨q0, q1, q2, qK, q10, q11, q12⟩ := q; exact ⟨q0, q1, q2, jG.calling g mk a qK, q10, q11, q12⟩, hh_92.recv (C := RX14) (T := TX14) (N := 74) hB16 rfl (by decide) hg_r0 hK, fun U hU hW => ⟨rfl, hU, hh_92.2.1, hG.step hW hU hh_92.1, hg_r0, (hh_92.2.2.1.sub (L1 := [(r0, 16, 29, .int qt_92), (r0, 16, 30, .int pe)]) [0, 4] rfl), by first | omega | (refine ⟨?_, ?_, ?_, ?_⟩ <;> (first | omega | rfl | assumption | decide | exact Or.inl rfl | exact Or.inr rfl | (simp only; omega)))⟩⟩ rfl rfl hl.1 rfl (lv_room (Nat.le_of_ble_eq_true rfl)) dX14_readMany_96 ⟨Nat.zero_le _, Nat.zero_le _⟩) hh_92.1 (fun q _ h => h) (fun q h => h) (fun r_95 u_94 t_94 H_94 locs_94 ht_94 hvm_94 hr_95 hb_94 hz_94 hk_94 hS_94 => ?_)
                  rw [ht_94] at hb_94
                  obtain ⟨hb_941, hb_942, hb_943, hb_944, hb_945⟩ := hb_94
                  have hh_94 : jSt (dC, dI) B base G0 G0 EX14_readMany s.heap 0 0 [(r0, 16, 29, .int qt_92), (r0, 16, 26, .int wn_12), (r0, 16, 28, .int wp_12), (r0, 16, 31, .int wb_12), (r0, 16, 30, .int pe)] [] [] H_94 locs_94 := (hh_92.call hb_941 hb_942 hb_943 hb_944 hS_94 rfl (L1 := [(r0, 16, 29, .int qt_92), (r0, 16, 26, .int wn_12), (r0, 16, 28, .int wp_12), (r0, 16, 31, .int wb_12), (r0, 16, 30, .int pe)]) [0, 1, 2, 3, 4] rfl rfl (M1 := []) [] rfl rfl (I1 := []) [] rfl rfl).more hb_945
                  clear hh_92 ht_94 hvm_94 hz_94 hk_94 hS_94 hb_941 hb_942 hb_943 hb_944 hb_945
                  obtain ⟨hr_95_0, hr_95_1, hr_95_2⟩ := hr_95
                  refine lv_bipush (v := 34) hx hb dX14_readMany_99 (by decide) ?_
                  have C109 : ∀ (wb_96 : Int32) (H_96 : Heap) (locs_96 : List Loc), jSt (dC, dI) B base G0 G0 EX14_readMany s.heap 0 0 [(r0, 16, 31, .int wb_96), (r0, 16, 29, .int qt_92), (r0, 16, 26, .int wn_12), (r0, 16, 28, .int wp_12), (r0, 16, 30, .int pe)] [] [] H_96 locs_96 → (0 ≤ wb_96.toInt ∧ wb_96.toInt ≤ 1 ∧ qt_92.toInt ≤ pe.toInt ∧ (wb_96.toInt = 1 ∨ qt_92.toInt < pe.toInt)) → ∀ ls : Array Slot, lv_has ls 10 [(0, .ref r0), (1, .int a1), (2, .int a2), (3, .int r_3), (4, .int w0_6), (5, .int v5_12), (6, .int v6_12), (7, .int 0), (8, .int 0)] → W p l e R s m ([.ref r0, .int a1, .int a2] : List Value).toArray below meth c H_96 locs_96 0 0 Q (F0 m 109 ls []) := by
                    intro wb_96 H_96 locs_96 hh_96  hi_96 ls hl
                    obtain ⟨hi_96_0, hi_96_1, hi_96_2, hi_96_3⟩ := hi_96
                    clear hr_95_2
                    refine lv_aload_n hx hb dX14_readMany_109 rfl (lv_at hl 0 rfl) ?_
                    refine j7_read hx hb hown hK (C := RX14) (T := TX14) (N := 74) rfl hly_16_31 (hts (.fieldLink RX14 288 "ProofServerModel" "bad" "Z") (by decide +kernel)) (hh_96.at 0 rfl) dX14_readMany_110 ?_
                    have C120 : ∀ (wt_97 : Int32) (wp_97 : Int32) (wb_97 : Int32) (ws_97 : Int32) (H_97 : Heap) (locs_97 : List Loc), jSt (dC, dI) B base G0 G0 EX14_readMany s.heap 0 0 [(r0, 16, 29, .int wt_97), (r0, 16, 28, .int wp_97), (r0, 16, 31, .int wb_97), (r0, 16, 32, .int ws_97), (r0, 16, 26, .int wn_12), (r0, 16, 30, .int pe)] [] [] H_97 locs_97 → (0 ≤ ws_97.toInt ∧ ws_97.toInt ≤ 3300 ∧ qt_92.toInt ≤ wt_97.toInt ∧ wp_12.toInt ≤ wp_97.toInt ∧ wp_97.toInt ≤ wt_97.toInt ∧ 0 ≤ wb_97.toInt ∧ wb_97.toInt ≤ 1 ∧ wt_97.toInt ≤ pe.toInt + 2 * wb_97.toInt) → ∀ ls : Array Slot, lv_has ls 10 [(0, .ref r0), (1, .int a1), (2, .int a2), (3, .int r_3), (4, .int w0_6), (5, .int v5_12), (6, .int v6_12), (7, .int 0), (8, .int 0)] → W p l e R s m ([.ref r0, .int a1, .int a2] : List Value).toArray below meth c H_97 locs_97 0 0 Q (F0 m 120 ls []) := by
                      intro wt_97 wp_97 wb_97 ws_97 H_97 locs_97 hh_97  hi_97 ls hl
                      obtain ⟨hi_97_0, hi_97_1, hi_97_2, hi_97_3, hi_97_4, hi_97_5, hi_97_6, hi_97_7⟩ := hi_97
                      refine lv_aload_n hx hb dX14_readMany_120 rfl (lv_at hl 0 rfl) ?_
                      refine j7_read hx hb hown hK (C := RX14) (T := TX14) (N := 74) rfl hly_16_32 (hts (.fieldLink RX14 301 "ProofServerModel" "stringFrom" "I") (by decide +kernel)) (hh_97.at 3 rfl) dX14_readMany_121 ?_
                      refine lv_istore (lv' := [(7, .int ws_97), (0, .ref r0), (1, .int a1), (2, .int a2), (3, .int r_3), (4, .int w0_6), (5, .int v5_12), (6, .int v6_12), (8, .int 0)]) hx hb dX14_readMany_124 hl (by decide) rfl (fun ls hl => ?_)
                      refine lv_aload_n hx hb dX14_readMany_126 rfl (lv_at hl 1 rfl) ?_
                      refine j7_read hx hb hown hK (C := RX14) (T := TX14) (N := 74) rfl hly_16_28 (hts (.fieldLink RX14 304 "ProofServerModel" "pooled" "I") (by decide +kernel)) (hh_97.at 1 rfl) dX14_readMany_127 ?_
                      refine lv_istore (lv' := [(8, .int wp_97), (7, .int ws_97), (0, .ref r0), (1, .int a1), (2, .int a2), (3, .int r_3), (4, .int w0_6), (5, .int v5_12), (6, .int v6_12)]) hx hb dX14_readMany_130 hl (by decide) rfl (fun ls hl => ?_)
                      refine lv_aload_n hx hb dX14_readMany_132 rfl (lv_at hl 2 rfl) ?_
                      refine va_callv (A0 := jA base) (H0 := s.heap) (va_runV (As := []) (rest := []) ⟨hx, hb, hml, hown, hts⟩ (uX14_blanks l dC dI ca base B hB hAp hB16 hB110 G0 H_97 r0 wt_97 pe (pe.toInt + 8 * (wb_97.toInt))) (cwV 0 hts gX14_readMany_X14_blanks rfl rfl rfl (by decide +kernel) ⟨by rw [← hR]; show (1) + 1 ≤ 2 * ef + 7; omega, by rw [← hR]; show 8 + (1 + 11) + (20) ≤ 130 * ef + 460; omega⟩) ⟨fun a U g mk q => by obtain ⟨q0, q1, q2, qK, q10, q11, q12⟩ := q; exact ⟨q0, q1, q2, jG.calling g mk a qK, q10, q11, q12⟩, hh_97.recv (C := RX14) (T := TX14) (N := 74) hB16 rfl (by decide) hg_r0 hK, fun U hU hW => ⟨rfl, hU, hh_97.2.1, hG.step hW hU hh_97.1, hg_r0, (hh_97.2.2.1.sub (L1 := [(r0, 16, 29, .int wt_97), (r0, 16, 30, .int pe)]) [0, 5] rfl), by first | omega | (refine ⟨?_, ?_, ?_, ?_, ?_, ?_, ?_⟩ <;> (first | omega | rfl | assumption | decide | exact Or.inl rfl | exact Or.inr rfl | (simp only; omega)))⟩⟩ rfl rfl hl.1 rfl (lv_room (Nat.le_of_ble_eq_true rfl)) dX14_readMany_133 ⟨Nat.zero_le _, Nat.zero_le _⟩) hh_97.1 (fun q _ h => h) (fun q h => h) (fun u_98 t_98 H_98 locs_98 ht_98 hvm_98 hr_99 hb_98 hz_98 hk_98 hS_98 => ?_)
                      obtain ⟨qt_98, rfl⟩ : ∃ z, z = u_98 := ⟨_, rfl⟩
                      rw [ht_98] at hb_98
                      obtain ⟨hb_981, hb_982, hb_983, hb_984, hb_985⟩ := hb_98
                      have hh_98 : jSt (dC, dI) B base G0 G0 EX14_readMany s.heap 0 0 [(r0, 16, 29, .int qt_98), (r0, 16, 28, .int wp_97), (r0, 16, 31, .int wb_97), (r0, 16, 32, .int ws_97), (r0, 16, 26, .int wn_12), (r0, 16, 30, .int pe)] [] [] H_98 locs_98 := (hh_97.call hb_981 hb_982 hb_983 hb_984 hS_98 rfl (L1 := [(r0, 16, 28, .int wp_97), (r0, 16, 31, .int wb_97), (r0, 16, 32, .int ws_97), (r0, 16, 26, .int wn_12), (r0, 16, 30, .int pe)]) [1, 2, 3, 4, 5] rfl rfl (M1 := []) [] rfl rfl (I1 := []) [] rfl rfl).more hb_985
                      clear hh_97 ht_98 hvm_98 hz_98 hk_98 hS_98 hb_981 hb_982 hb_983 hb_984 hb_985
                      obtain ⟨hr_99_0, hr_99_1⟩ := hr_99
                      refine lv_aload_n hx hb dX14_readMany_136 rfl (lv_at hl 2 rfl) ?_
                      refine va_calli (A0 := jA base) (H0 := s.heap) (va_runV (As := []) (rest := []) ⟨hx, hb, hml, hown, hts⟩ (uX14_here l dC dI ca base B hB hAp hB16 hB110 G0 H_98 r0 qt_98 pe) (cwV 0 hts gX14_readMany_X14_here rfl rfl rfl (by decide +kernel) ⟨by rw [← hR]; show (0) + 1 ≤ 2 * ef + 7; omega, by rw [← hR]; show 8 + (1 + 11) + (0) ≤ 130 * ef + 460; omega⟩) ⟨fun a U g mk q => by obtain ⟨q0, q1, q2, qK, q10, q11, q12⟩ := q; exact ⟨q0, q1, q2, jG.calling g mk a qK, q10, q11, q12⟩, hh_98.recv (C := RX14) (T := TX14) (N := 74) hB16 rfl (by decide) hg_r0 hK, fun U hU hW => ⟨rfl, hU, hh_98.2.1, hG.step hW hU hh_98.1, hg_r0, (hh_98.2.2.1.sub (L1 := [(r0, 16, 29, .int qt_98), (r0, 16, 30, .int pe)]) [0, 5] rfl), by first | omega | (refine ⟨?_, ?_, ?_, ?_⟩ <;> (first | omega | rfl | assumption | decide | exact Or.inl rfl | exact Or.inr rfl | (simp only; omega)))⟩⟩ rfl rfl hl.1 rfl (lv_room (Nat.le_of_ble_eq_true rfl)) dX14_readMany_137 ⟨Nat.zero_le _, Nat.zero_le _⟩) hh_98.1 (fun q _ h => h) (fun q h => h) (fun r_101 u_100 t_100 H_100 locs_100 ht_100 hvm_100 hr_101 hb_100 hz_100 hk_100 hS_100 => ?_)
                      rw [ht_100] at hb_100
                      obtain ⟨hb_1001, hb_1002, hb_1003, hb_1004, hb_1005⟩ := hb_100
                      have hh_100 : jSt (dC, dI) B base G0 G0 EX14_readMany s.heap 0 0 [(r0, 16, 29, .int qt_98), (r0, 16, 28, .int wp_97), (r0, 16, 31, .int wb_97), (r0, 16, 32, .int ws_97), (r0, 16, 26, .int wn_12), (r0, 16, 30, .int pe)] [] [] H_100 locs_100 := (hh_98.call hb_1001 hb_1002 hb_1003 hb_1004 hS_100 rfl (L1 := [(r0, 16, 29, .int qt_98), (r0, 16, 28, .int wp_97), (r0, 16, 31, .int wb_97), (r0, 16, 32, .int ws_97), (r0, 16, 26, .int wn_12), (r0, 16, 30, .int pe)]) [0, 1, 2, 3, 4, 5] rfl rfl (M1 := []) [] rfl rfl (I1 := []) [] rfl rfl).more hb_1005
                      clear hh_98 ht_100 hvm_100 hz_100 hk_100 hS_100 hb_1001 hb_1002 hb_1003 hb_1004 hb_1005
                      obtain ⟨hr_101_0, hr_101_1, hr_101_2⟩ := hr_101
                      refine lv_bipush (v := 58) hx hb dX14_readMany_140 (by decide) ?_
                      have C150 : ∀ (wb_102 : Int32) (H_102 : Heap) (locs_102 : List Loc), jSt (dC, dI) B base G0 G0 EX14_readMany s.heap 0 0 [(r0, 16, 31, .int wb_102), (r0, 16, 29, .int qt_98), (r0, 16, 28, .int wp_97), (r0, 16, 32, .int ws_97), (r0, 16, 26, .int wn_12), (r0, 16, 30, .int pe)] [] [] H_102 locs_102 → (0 ≤ wb_102.toInt ∧ wb_102.toInt ≤ 1 ∧ qt_98.toInt + 1 ≤ pe.toInt + 4 * wb_102.toInt) → ∀ ls : Array Slot, lv_has ls 10 [(0, .ref r0), (1, .int a1), (2, .int a2), (3, .int r_3), (4, .int w0_6), (5, .int v5_12), (6, .int v6_12), (7, .int ws_97), (8, .int wp_97)] → W p l e R s m ([.ref r0, .int a1, .int a2] : List Value).toArray below meth c H_102 locs_102 0 0 Q (F0 m 150 ls []) := by
                        intro wb_102 H_102 locs_102 hh_102  hi_102 ls hl
                        obtain ⟨hi_102_0, hi_102_1, hi_102_2⟩ := hi_102
                        clear hr_101_2
                        refine lv_aload_n hx hb dX14_readMany_150 rfl (lv_at hl 0 rfl) ?_
                        refine lv_dup hx hb dX14_readMany_151 rfl ?_
                        refine j7_read hx hb hown hK (C := RX14) (T := TX14) (N := 74) rfl hly_16_29 (hts (.fieldLink RX14 273 "ProofServerModel" "at" "I") (by decide +kernel)) (hh_102.at 1 rfl) dX14_readMany_152 ?_
                        refine lv_iconst (v := 1) hx hb dX14_readMany_155 (by decide) ?_
                        refine lv_iadd hx hb dX14_readMany_156 ?_
                        refine lv_topi (fun z_103 ez_103 => ?_)
                        have hz_103 : z_103.toInt = qt_98.toInt + 1 := by rw [ez_103]; exact jb_iadd2 (rfl) ((by decide)) (by omega)
                        refine j7_put hx hb hown hK hh_102 hB hAp hB16 (C := RX14) (T := TX14) (N := 74) rfl (by decide) hg_r0 (i := 29) (by decide) hly_16_29 rfl (hts (.fieldLink RX14 273 "ProofServerModel" "at" "I") (by decide +kernel)) rfl (ty := .int) (v := .int z_103) (by decide +kernel) rfl rfl (⟨_, rfl, by omega, by omega⟩) rfl (L1 := [(r0, 16, 31, .int wb_102), (r0, 16, 28, .int wp_97), (r0, 16, 32, .int ws_97), (r0, 16, 26, .int wn_12), (r0, 16, 30, .int pe)]) [0, 2, 3, 4, 5] rfl rfl rfl dX14_readMany_157 (fun H_104 locs_104 hh_104 => ?_)
                        clear hh_102
                        exact C160 ws_97 wp_97 ws_97 wp_97 z_103 wp_97 wb_102 _ _ (hh_104.sub (L1 := [(r0, 16, 29, .int z_103), (r0, 16, 28, .int wp_97), (r0, 16, 31, .int wb_102), (r0, 16, 26, .int wn_12), (r0, 16, 30, .int pe)]) [0, 2, 1, 4, 5] rfl (M1 := []) [] rfl (I1 := []) [] rfl) (by first | omega | (refine ⟨?_, ?_, ?_, ?_, ?_, ?_, ?_, ?_, ?_, ?_⟩ <;> (first | omega | rfl | assumption | decide | exact Or.inl rfl | exact Or.inr rfl | (simp only; omega)))) _ (lv_sub hl [0, 1, 2, 3, 4, 5, 6, 7, 8, 7, 8] rfl)
                      refine lv_icmp_eq (tgt := 150) hx hb dX14_readMany_142 (by decide) (fun c_105 => ?_) (fun c_105 => ?_)
                      · skip
                        have c_105' : r_101.toInt = 58 := jb_eq (rfl) ((by decide)) c_105
                        first | replace hr_101_2 := hr_101_2.resolve_left (by omega) | replace hr_101_2 := hr_101_2.resolve_right (by omega) | skip
                        exact C150 wb_97 _ _ (hh_100.sub (L1 := [(r0, 16, 31, .int wb_97), (r0, 16, 29, .int qt_98), (r0, 16, 28, .int wp_97), (r0, 16, 32, .int ws_97), (r0, 16, 26, .int wn_12), (r0, 16, 30, .int pe)]) [2, 0, 1, 3, 4, 5] rfl (M1 := []) [] rfl (I1 := []) [] rfl) (by first | omega | (refine ⟨?_, ?_, ?_⟩ <;> (first | omega | rfl | assumption | decide | exact Or.inl rfl | exact Or.inr rfl | (simp only; omega)))) _ (lv_sub hl [2, 3, 4, 5, 6, 7, 8, 1, 0] rfl)
                      · skip
                        have c_105' : r_101.toInt ≠ 58 := jb_eq_n (rfl) ((by decide)) c_105
                        first | replace hr_101_2 := hr_101_2.resolve_left (by omega) | replace hr_101_2 := hr_101_2.resolve_right (by omega) | skip
                        refine lv_aload_n hx hb dX14_readMany_145 rfl (lv_at hl 2 rfl) ?_
                        refine lv_iconst (v := 1) hx hb dX14_readMany_146 (by decide) ?_
                        refine j7_put hx hb hown hK hh_100 hB hAp hB16 (C := RX14) (T := TX14) (N := 74) rfl (by decide) hg_r0 (i := 31) (by decide) hly_16_31 rfl (hts (.fieldLink RX14 288 "ProofServerModel" "bad" "Z") (by decide +kernel)) rfl (ty := .boolean) (v := .int 1) (by decide +kernel) (jb_nz (Or.inr rfl)) (jb_fz (Or.inr rfl)) (⟨_, rfl, (Or.inr rfl)⟩) rfl (L1 := [(r0, 16, 29, .int qt_98), (r0, 16, 28, .int wp_97), (r0, 16, 32, .int ws_97), (r0, 16, 26, .int wn_12), (r0, 16, 30, .int pe)]) [0, 1, 3, 4, 5] rfl rfl rfl dX14_readMany_147 (fun H_106 locs_106 hh_106 => ?_)
                        clear hh_100
                        exact C150 1 _ _ hh_106 (by first | omega | (refine ⟨?_, ?_, ?_⟩ <;> (first | omega | rfl | assumption | decide | exact Or.inl rfl | exact Or.inr rfl | (simp only; omega)))) _ (lv_sub hl [2, 3, 4, 5, 6, 7, 8, 1, 0] rfl)
                    refine lv_if_ne (tgt := 120) hx hb dX14_readMany_113 (by decide) (fun c_107 => ?_) (fun c_107 => ?_)
                    · skip
                      have c_107' : wb_96.toInt ≠ 0 := jb_ne (rfl) ((by decide)) c_107
                      obtain ⟨v_108, hv_108, hh_109⟩ := hh_96.pin (C := RX14) (T := TX14) (N := 74) hB16 rfl (by decide) hg_r0 (i := 32) (by decide) rfl
                      obtain ⟨stringFrom_110, rfl, hlostringFrom_110, hhistringFrom_110⟩ := hv_108
                      exact C120 qt_92 wp_12 wb_96 stringFrom_110 _ _ (hh_109.sub (L1 := [(r0, 16, 29, .int qt_92), (r0, 16, 28, .int wp_12), (r0, 16, 31, .int wb_96), (r0, 16, 32, .int stringFrom_110), (r0, 16, 26, .int wn_12), (r0, 16, 30, .int pe)]) [2, 4, 1, 0, 3, 5] rfl (M1 := []) [] rfl (I1 := []) [] rfl) (by first | omega | (refine ⟨?_, ?_, ?_, ?_, ?_, ?_, ?_, ?_⟩ <;> (first | omega | rfl | assumption | decide | exact Or.inl rfl | exact Or.inr rfl | (simp only; omega)))) _ (lv_sub hl [0, 1, 2, 3, 4, 5, 6, 7, 8] rfl)
                    · skip
                      have c_107' : wb_96.toInt = 0 := jb_ne_n (rfl) ((by decide)) c_107
                      refine lv_aload_n hx hb dX14_readMany_116 rfl (lv_at hl 0 rfl) ?_
                      refine va_callv (A0 := jA base) (H0 := s.heap) (va_runV (As := []) (rest := []) ⟨hx, hb, hml, hown, hts⟩ (uX14_readString l dC dI ca base B hB hAp hB16 hB110 hB127 G0 H_96 r0 qt_92 pe wp_12 wb_96) (cwV 0 hts gX14_readMany_X14_readString rfl rfl rfl (by decide +kernel) ⟨by rw [← hR]; show (6) + 1 ≤ 2 * ef + 7; omega, by rw [← hR]; show 8 + (4 + 11) + (206) ≤ 130 * ef + 460; omega⟩) ⟨fun a U g mk q => by obtain ⟨q0, q1, q2, qK, q10, q11, q12⟩ := q; exact ⟨q0, q1, q2, jG.calling g mk a qK, q10, q11, q12⟩, hh_96.recv (C := RX14) (T := TX14) (N := 74) hB16 rfl (by decide) hg_r0 hK, fun U hU hW => ⟨rfl, hU, hh_96.2.1, hG.step hW hU hh_96.1, hg_r0, (hh_96.2.2.1.sub (L1 := [(r0, 16, 29, .int qt_92), (r0, 16, 30, .int pe), (r0, 16, 28, .int wp_12), (r0, 16, 31, .int wb_96)]) [1, 4, 3, 0] rfl), by first | omega | (refine ⟨?_, ?_, ?_, ?_, ?_, ?_, ?_, ?_⟩ <;> (first | omega | rfl | assumption | decide | exact Or.inl rfl | exact Or.inr rfl | (simp only; omega)))⟩⟩ rfl rfl hl.1 rfl (lv_room (Nat.le_of_ble_eq_true rfl)) dX14_readMany_117 ⟨Nat.zero_le _, Nat.zero_le _⟩) hh_96.1 (fun q _ h => h) (fun q h => h) (fun u_111 t_111 H_111 locs_111 ht_111 hvm_111 hr_112 hb_111 hz_111 hk_111 hS_111 => ?_)
                      obtain ⟨qt_111, qp_111, qb_111, qs_111⟩ := u_111
                      rw [ht_111] at hb_111
                      obtain ⟨hb_1111, hb_1112, hb_1113, hb_1114, hb_1115⟩ := hb_111
                      have hh_111 : jSt (dC, dI) B base G0 G0 EX14_readMany s.heap 0 0 [(r0, 16, 29, .int qt_111), (r0, 16, 28, .int qp_111), (r0, 16, 31, .int qb_111), (r0, 16, 32, .int qs_111), (r0, 16, 26, .int wn_12), (r0, 16, 30, .int pe)] [] [] H_111 locs_111 := (hh_96.call hb_1111 hb_1112 hb_1113 hb_1114 hS_111 rfl (L1 := [(r0, 16, 26, .int wn_12), (r0, 16, 30, .int pe)]) [2, 4] rfl rfl (M1 := []) [] rfl rfl (I1 := []) [] rfl rfl).more hb_1115
                      clear hh_96 ht_111 hvm_111 hz_111 hk_111 hS_111 hb_1111 hb_1112 hb_1113 hb_1114 hb_1115
                      try simp only at hr_112
                      obtain ⟨hr_112_0, hr_112_1, hr_112_2, hr_112_3, hr_112_4, hr_112_5, hr_112_6⟩ := hr_112
                      exact C120 qt_111 qp_111 qb_111 qs_111 _ _ hh_111 (by first | omega | (refine ⟨?_, ?_, ?_, ?_, ?_, ?_, ?_, ?_⟩ <;> (first | omega | rfl | assumption | decide | exact Or.inl rfl | exact Or.inr rfl | (simp only; omega)))) _ (lv_sub hl [0, 1, 2, 3, 4, 5, 6, 7, 8] rfl)
                  refine lv_icmp_eq (tgt := 109) hx hb dX14_readMany_101 (by decide) (fun c_113 => ?_) (fun c_113 => ?_)
                  · skip
                    have c_113' : r_95.toInt = 34 := jb_eq (rfl) ((by decide)) c_113
                    first | replace hr_95_2 := hr_95_2.resolve_left (by omega) | replace hr_95_2 := hr_95_2.resolve_right (by omega) | skip
                    exact C109 wb_12 _ _ (hh_94.sub (L1 := [(r0, 16, 31, .int wb_12), (r0, 16, 29, .int qt_92), (r0, 16, 26, .int wn_12), (r0, 16, 28, .int wp_12), (r0, 16, 30, .int pe)]) [3, 0, 1, 2, 4] rfl (M1 := []) [] rfl (I1 := []) [] rfl) (by first | omega | (refine ⟨?_, ?_, ?_, ?_⟩ <;> (first | omega | rfl | assumption | decide | exact Or.inl rfl | exact Or.inr rfl | (simp only; omega)))) _ (lv_sub hl [2, 3, 4, 5, 6, 7, 8, 1, 0] rfl)
                  · skip
                    have c_113' : r_95.toInt ≠ 34 := jb_eq_n (rfl) ((by decide)) c_113
                    first | replace hr_95_2 := hr_95_2.resolve_left (by omega) | replace hr_95_2 := hr_95_2.resolve_right (by omega) | skip
                    refine lv_aload_n hx hb dX14_readMany_104 rfl (lv_at hl 2 rfl) ?_
                    refine lv_iconst (v := 1) hx hb dX14_readMany_105 (by decide) ?_
                    refine j7_put hx hb hown hK hh_94 hB hAp hB16 (C := RX14) (T := TX14) (N := 74) rfl (by decide) hg_r0 (i := 31) (by decide) hly_16_31 rfl (hts (.fieldLink RX14 288 "ProofServerModel" "bad" "Z") (by decide +kernel)) rfl (ty := .boolean) (v := .int 1) (by decide +kernel) (jb_nz (Or.inr rfl)) (jb_fz (Or.inr rfl)) (⟨_, rfl, (Or.inr rfl)⟩) rfl (L1 := [(r0, 16, 29, .int qt_92), (r0, 16, 26, .int wn_12), (r0, 16, 28, .int wp_12), (r0, 16, 30, .int pe)]) [0, 1, 2, 4] rfl rfl rfl dX14_readMany_106 (fun H_114 locs_114 hh_114 => ?_)
                    clear hh_94
                    exact C109 1 _ _ hh_114 (by first | omega | (refine ⟨?_, ?_, ?_, ?_⟩ <;> (first | omega | rfl | assumption | decide | exact Or.inl rfl | exact Or.inr rfl | (simp only; omega)))) _ (lv_sub hl [2, 3, 4, 5, 6, 7, 8, 1, 0] rfl)
        exact L69 (((pe.toInt - (qt_7 : Int32).toInt).toNat : Int) + (1 - (pb : Int32).toInt) + (1 - (pb : Int32).toInt) : Int).toNat.succ (-1) 1 qt_7 qn_2 pp pb _ _ (hh_9.sub (L1 := [(r0, 16, 29, .int qt_7), (r0, 16, 26, .int qn_2), (r0, 16, 28, .int pp), (r0, 16, 31, .int pb), (r0, 16, 30, .int pe)]) [0, 1, 3, 4, 2] rfl (M1 := []) [] rfl (I1 := []) [] rfl) (Or.inr rfl) (by first | omega | (refine ⟨?_, ?_, ?_, ?_, ?_, ?_, ?_, ?_, ?_, ?_, ?_⟩ <;> (first | omega | rfl | assumption | decide | exact Or.inl rfl | exact Or.inr rfl | (simp only; omega)))) (by omega) _ (lv_sub hl [3, 4, 5, 6, 2, 1, 0] rfl)
      · skip
        have c_11' : r_10.toInt = w0_6.toInt := jb_ne_n (rfl) (rfl) c_11
        first | replace hr_10_2 := hr_10_2.resolve_left (by omega) | replace hr_10_2 := hr_10_2.resolve_right (by omega) | skip
        refine lv_aload_n hx hb dX14_readMany_51 rfl (lv_at hl 1 rfl) ?_
        refine lv_dup hx hb dX14_readMany_52 rfl ?_
        refine j7_read hx hb hown hK (C := RX14) (T := TX14) (N := 74) rfl hly_16_29 (hts (.fieldLink RX14 273 "ProofServerModel" "at" "I") (by decide +kernel)) (hh_9.at 0 rfl) dX14_readMany_53 ?_
        refine lv_iconst (v := 1) hx hb dX14_readMany_56 (by decide) ?_
        refine lv_iadd hx hb dX14_readMany_57 ?_
        refine lv_topi (fun z_115 ez_115 => ?_)
        have hz_115 : z_115.toInt = qt_7.toInt + 1 := by rw [ez_115]; exact jb_iadd2 (rfl) ((by decide)) (by omega)
        refine j7_put hx hb hown hK hh_9 hB hAp hB16 (C := RX14) (T := TX14) (N := 74) rfl (by decide) hg_r0 (i := 29) (by decide) hly_16_29 rfl (hts (.fieldLink RX14 273 "ProofServerModel" "at" "I") (by decide +kernel)) rfl (ty := .int) (v := .int z_115) (by decide +kernel) rfl rfl (⟨_, rfl, by omega, by omega⟩) rfl (L1 := [(r0, 16, 26, .int qn_2), (r0, 16, 30, .int pe), (r0, 16, 28, .int pp), (r0, 16, 31, .int pb)]) [1, 2, 3, 4] rfl rfl rfl dX14_readMany_58 (fun H_116 locs_116 hh_116 => ?_)
        clear hh_9
        refine lv_iload_n hx hb dX14_readMany_61 rfl (lv_at hl 4 rfl) ?_
        rw [hQ]
        exact W.iret (v := r_3) hx hb hr (fun t ht hW => ⟨⟨r_3, (z_115, qn_2, pp, pb), rfl, by first | omega | (refine ⟨?_, ?_, ?_, ?_, ?_, ?_, ?_, ?_, ?_, ?_⟩ <;> (first | omega | rfl | assumption | decide | exact Or.inl rfl | exact Or.inr rfl | (simp only; omega))), hh_116.rt (M1 := [(r0, 16, 29, .int z_115), (r0, 16, 26, .int qn_2), (r0, 16, 28, .int pp), (r0, 16, 31, .int pb)]) [0, 1, 3, 4] rfl ht⟩, by rw [ht]; try exact hh_116.1.1, fun q h9 hq => by rw [ht]; try exact hh_116.1.2.1 q h9 hq⟩) hh_116.1.2.2 dX14_readMany_62
    refine lv_if_eq (tgt := 34) hx hb dX14_readMany_26 (by decide) (fun c_117 => ?_) (fun c_117 => ?_)
    · skip
      have c_117' : a1.toInt = 0 := jb_eq (rfl) ((by decide)) c_117
      refine lv_bipush (v := 93) hx hb dX14_readMany_34 (by decide) ?_
      exact C36 93 _ _ hh_5 (trivial) _ (lv_sub hl [1, 2, 3, 0] rfl)
    · skip
      have c_117' : a1.toInt ≠ 0 := jb_eq_n (rfl) ((by decide)) c_117
      refine lv_bipush (v := 125) hx hb dX14_readMany_29 (by decide) ?_
      refine lv_goto (tgt := 36) hx hb dX14_readMany_31 (by decide) ?_
      exact C36 125 _ _ hh_5 (trivial) _ (lv_sub hl [1, 2, 3, 0] rfl)
  refine lv_if_eq (tgt := 10) hx hb dX14_readMany_2 (by decide) (fun c_118 => ?_) (fun c_118 => ?_)
  · skip
    have c_118' : a1.toInt = 0 := jb_eq (rfl) ((by decide)) c_118
    refine lv_iconst (v := 5) hx hb dX14_readMany_10 (by decide) ?_
    exact C11 5 _ _ hh (trivial) _ (lv_sub hl [0, 1, 2] rfl)
  · skip
    have c_118' : a1.toInt ≠ 0 := jb_eq_n (rfl) ((by decide)) c_118
    refine lv_bipush (v := 6) hx hb dX14_readMany_5 (by decide) ?_
    refine lv_goto (tgt := 11) hx hb dX14_readMany_7 (by decide) ?_
    exact C11 6 _ _ hh (trivial) _ (lv_sub hl [0, 1, 2] rfl)
theorem aX14_readValueMany (l : Launch) (dC : Nat → ClassId) (dI : Nat → Nat → Nat) (ca : Nat → ClassId) (base : Nat) (B : jF) (hB : jBok B) (hAp : jAp (dC, dI)) (hB16 : ∀ n G a H, B 16 n G a H ↔ jOb (dC, dI) 16 74 (F16 n G) a H) (hB110 : ∀ n G a H, B 110 n G a H ↔ jAr (dC, dI) (ca 1) (fun j z => 0 ≤ z.toInt ∧ z.toInt ≤ 255) n a H) (hB117 : ∀ n G a H, B 117 n G a H ↔ jAr (dC, dI) (ca 1) (fun j z => True) n a H) (hB118 : ∀ n G a H, B 118 n G a H ↔ jAr (dC, dI) (ca 1) (fun j z => -1 ≤ z.toInt ∧ z.toInt ≤ 3099) n a H) (hB119 : ∀ n G a H, B 119 n G a H ↔ jAr (dC, dI) (ca 1) (fun j z => z.toInt = -1 ∨ (j < z.toInt ∧ z.toInt ≤ 3099)) n a H) (hB120 : ∀ n G a H, B 120 n G a H ↔ jAr (dC, dI) (ca 1) (fun j z => 0 ≤ z.toInt ∧ z.toInt ≤ 3300) n a H) (hB121 : ∀ n G a H, B 121 n G a H ↔ jAr (dC, dI) (ca 1) (fun j z => 0 ≤ z.toInt ∧ z.toInt ≤ 3300) n a H) (hB122 : ∀ n G a H, B 122 n G a H ↔ jAr (dC, dI) (ca 1) (fun j z => 0 ≤ z.toInt ∧ z.toInt ≤ 3300) n a H) (hB123 : ∀ n G a H, B 123 n G a H ↔ jAr (dC, dI) (ca 1) (fun j z => 0 ≤ z.toInt ∧ z.toInt ≤ 3300) n a H) (hB124 : ∀ n G a H, B 124 n G a H ↔ jAr (dC, dI) (ca 3) (fun j z => (z = 0 ∨ z = 1)) n a H) (hB125 : ∀ n G a H, B 125 n G a H ↔ jAr (dC, dI) (ca 1) (fun j z => True) n a H) (hB127 : ∀ n G a H, B 127 n G a H ↔ jAr (dC, dI) (ca 1) (fun j z => True) n a H) : ∀ ef, qX14_readValue l dC dI ca base B ef ∧ qX14_readMany l dC dI ca base B ef := fun ef => Nat.strongRecOn ef (fun e ih => by
  have hV : qX14_readValue l dC dI ca base B e := fun G0 H0 r0 a1 pt pe pn pp pb => uX14_readValue l dC dI ca base B hB hAp hB16 hB110 hB117 hB118 hB119 hB120 hB121 hB122 hB123 hB124 hB125 hB127 e (fun e1 h => (ih e1 h).2) G0 H0 r0 a1 pt pe pn pp pb
  exact ⟨hV, fun G0 H0 r0 a1 a2 pt pe pn pp pb => uX14_readMany l dC dI ca base B hB hAp hB16 hB110 hB117 hB118 hB119 hB120 hB121 hB122 hB123 hB124 hB125 hB127 e hV G0 H0 r0 a1 a2 pt pe pn pp pb⟩)
