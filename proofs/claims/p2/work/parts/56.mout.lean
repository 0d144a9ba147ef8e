abbrev cX14_string : ByteArray := prog_14_method_8_code
def yX14_string : MethodName := ⟨RX14, "string", "([III)V"⟩
abbrev cX14_send : ByteArray := prog_14_method_11_code
def yX14_send : MethodName := ⟨RX14, "send", "()V"⟩
abbrev cX14_feed : ByteArray := prog_14_method_12_code
def yX14_feed : MethodName := ⟨RX14, "feed", "(IIIII)I"⟩
abbrev cX14_out : ByteArray := prog_14_method_13_code
def yX14_out : MethodName := ⟨RX14, "out", "(I)I"⟩
abbrev cX14_take : ByteArray := prog_14_method_14_code
def yX14_take : MethodName := ⟨RX14, "take", "()I"⟩
abbrev cX14_isText : ByteArray := prog_14_method_37_code
def yX14_isText : MethodName := ⟨RX14, "isText", "(IILjava/lang/String;)Z"⟩
abbrev cX14_member : ByteArray := prog_14_method_38_code
def yX14_member : MethodName := ⟨RX14, "member", "(ILjava/lang/String;)I"⟩
abbrev cX14_isString : ByteArray := prog_14_method_39_code
def yX14_isString : MethodName := ⟨RX14, "isString", "(I)Z"⟩
abbrev cX14_isString_ : ByteArray := prog_14_method_40_code
def yX14_isString_ : MethodName := ⟨RX14, "isString", "(ILjava/lang/String;)Z"⟩
abbrev cX14_isWhole : ByteArray := prog_14_method_41_code
def yX14_isWhole : MethodName := ⟨RX14, "isWhole", "(I)Z"⟩
abbrev cX14_isId : ByteArray := prog_14_method_42_code
def yX14_isId : MethodName := ⟨RX14, "isId", "(I)Z"⟩
abbrev cX14_beginAnswer : ByteArray := prog_14_method_44_code
def yX14_beginAnswer : MethodName := ⟨RX14, "beginAnswer", "()V"⟩
abbrev cX14_beginResult : ByteArray := prog_14_method_45_code
def yX14_beginResult : MethodName := ⟨RX14, "beginResult", "()V"⟩
abbrev cX14_endAnswer : ByteArray := prog_14_method_46_code
def yX14_endAnswer : MethodName := ⟨RX14, "endAnswer", "()V"⟩
abbrev cX14_error : ByteArray := prog_14_method_47_code
def yX14_error : MethodName := ⟨RX14, "error", "(I)V"⟩
def wsX14_string_r1 : List Cond := [Cond.constant RX14 179 (55296), Cond.constant RX14 180 (56319), Cond.constant RX14 185 (56320), Cond.constant RX14 186 (57343), Cond.constant RX14 197 (65536), Cond.constant RX14 201 (65533), Cond.methodLink RX14 172 yX14_put, Cond.instanceMethod yX14_put, Cond.selects RX14 yX14_put yX14_put, Cond.initialized RX14, Cond.code yX14_put cX14_put 2 none, Cond.fieldLink RX14 160 "ProofServerModel" "framed" "I", Cond.constant RX14 16 (100000), Cond.fieldLink RX14 17 "ProofServerModel" "frame" "[I", Cond.methodLink RX14 181 yX14_in, Cond.static yX14_in, Cond.code yX14_in cX14_in 3 (some .boolean), Cond.methodLink RX14 189 yX14_word, Cond.instanceMethod yX14_word, Cond.selects RX14 yX14_word yX14_word, Cond.code yX14_word cX14_word 3 none, Cond.methodLink RX14 163 yJ0_length_8abf5, Cond.instanceMethod yJ0_length_8abf5, Cond.selects RJ0 yJ0_length_8abf5 yJ0_length_8abf5]
def wsX14_string_r2 : List Cond := [Cond.initialized RJ0, Cond.code yJ0_length_8abf5 cJ0_length_8abf5 1 (some .int), Cond.fieldLink RJ0 9 "java/lang/String" "value" "[B", Cond.methodLink RJ0 335 yJ0_coder_7d493, Cond.instanceMethod yJ0_coder_7d493, Cond.selects RJ0 yJ0_coder_7d493 yJ0_coder_7d493, Cond.code yJ0_coder_7d493 cJ0_coder_7d493 1 (some .byte), Cond.fieldLink RJ0 38 "java/lang/String" "COMPACT_STRINGS" "Z", Cond.fieldLink RJ0 15 "java/lang/String" "coder" "B", Cond.methodLink RX14 168 yJ0_charAt_5068e, Cond.instanceMethod yJ0_charAt_5068e, Cond.selects RJ0 yJ0_charAt_5068e yJ0_charAt_5068e, Cond.code yJ0_charAt_5068e cJ0_charAt_5068e 2 (some .char), Cond.methodLink RJ0 492 yJ0_isLatin1_aae02, Cond.instanceMethod yJ0_isLatin1_aae02, Cond.selects RJ0 yJ0_isLatin1_aae02 yJ0_isLatin1_aae02, Cond.code yJ0_isLatin1_aae02 cJ0_isLatin1_aae02 1 (some .boolean), Cond.methodLink RJ0 495 yJ1_charAt_3b067, Cond.static yJ1_charAt_3b067, Cond.initialized RJ1, Cond.code yJ1_charAt_3b067 cJ1_charAt_3b067 2 (some .char), Cond.methodLink RJ1 9 yJ0_checkIndex_df160, Cond.static yJ0_checkIndex_df160, Cond.code yJ0_checkIndex_df160 cJ0_checkIndex_df160 2 none]
def wsX14_string_r3 : List Cond := [Cond.fieldLink RJ0 1053 "jdk/internal/util/Preconditions" "SIOOBE_FORMATTER" "Ljava/util/function/BiFunction;", Cond.methodLink RJ0 1059 yJ3_checkIndex_8e157, Cond.static yJ3_checkIndex_8e157, Cond.initialized RJ3, Cond.code yJ3_checkIndex_8e157 cJ3_checkIndex_8e157 3 (some .int), Cond.methodLink RJ0 498 yJ2_charAt_3b067, Cond.static yJ2_charAt_3b067, Cond.initialized RJ2, Cond.code yJ2_charAt_3b067 cJ2_charAt_3b067 2 (some .char), Cond.methodLink RJ2 67 yJ2_checkIndex_2214a, Cond.static yJ2_checkIndex_2214a, Cond.code yJ2_checkIndex_2214a cJ2_checkIndex_2214a 2 none, Cond.methodLink RJ2 48 yJ2_length_9d52b, Cond.static yJ2_length_9d52b, Cond.code yJ2_length_9d52b cJ2_length_9d52b 1 (some .int), Cond.methodLink RJ2 414 yJ0_checkIndex_df160, Cond.methodLink RJ2 71 yJ2_getChar_3b067, Cond.static yJ2_getChar_3b067, Cond.code yJ2_getChar_3b067 cJ2_getChar_3b067 2 (some .char), Cond.fieldLink RJ2 44 "java/lang/StringUTF16" "$assertionsDisabled" "Z", Cond.fieldLink RJ2 59 "java/lang/StringUTF16" "HI_BYTE_SHIFT" "I", Cond.fieldLink RJ2 63 "java/lang/StringUTF16" "LO_BYTE_SHIFT" "I", Cond.methodLink RX14 193 yX14_hex, Cond.static yX14_hex]
def wsX14_string_r4 : List Cond := [Cond.code yX14_hex cX14_hex 1 (some .int), Cond.methodLink RX14 198 yX14_utf8, Cond.instanceMethod yX14_utf8, Cond.selects RX14 yX14_utf8 yX14_utf8, Cond.code yX14_utf8 cX14_utf8 2 none]
def wsX14_string : List Cond := .code yX14_string cX14_string 7 none :: ((wsX14_string_r1 ++ (wsX14_string_r2 ++ (wsX14_string_r3 ++ wsX14_string_r4))) ++ wsX140)
def wsX14_send_r1 : List Cond := [Cond.fieldLink RX14 202 "ProofServerModel" "broken" "Z", Cond.fieldLink RX14 160 "ProofServerModel" "framed" "I", Cond.fieldLink RX14 211 "ProofServerModel" "outs" "I", Cond.fieldLink RX14 214 "ProofServerModel" "lost" "I", Cond.fieldLink RX14 13 "ProofServerModel" "out" "[I", Cond.fieldLink RX14 17 "ProofServerModel" "frame" "[I", Cond.methodLink RX14 189 yX14_word, Cond.instanceMethod yX14_word, Cond.selects RX14 yX14_word yX14_word, Cond.initialized RX14, Cond.code yX14_word cX14_word 3 none, Cond.methodLink RX14 163 yJ0_length_8abf5, Cond.instanceMethod yJ0_length_8abf5, Cond.selects RJ0 yJ0_length_8abf5 yJ0_length_8abf5, Cond.initialized RJ0, Cond.code yJ0_length_8abf5 cJ0_length_8abf5 1 (some .int), Cond.fieldLink RJ0 9 "java/lang/String" "value" "[B", Cond.methodLink RJ0 335 yJ0_coder_7d493, Cond.instanceMethod yJ0_coder_7d493, Cond.selects RJ0 yJ0_coder_7d493 yJ0_coder_7d493, Cond.code yJ0_coder_7d493 cJ0_coder_7d493 1 (some .byte), Cond.fieldLink RJ0 38 "java/lang/String" "COMPACT_STRINGS" "Z", Cond.fieldLink RJ0 15 "java/lang/String" "coder" "B", Cond.methodLink RX14 168 yJ0_charAt_5068e]
def wsX14_send_r2 : List Cond := [Cond.instanceMethod yJ0_charAt_5068e, Cond.selects RJ0 yJ0_charAt_5068e yJ0_charAt_5068e, Cond.code yJ0_charAt_5068e cJ0_charAt_5068e 2 (some .char), Cond.methodLink RJ0 492 yJ0_isLatin1_aae02, Cond.instanceMethod yJ0_isLatin1_aae02, Cond.selects RJ0 yJ0_isLatin1_aae02 yJ0_isLatin1_aae02, Cond.code yJ0_isLatin1_aae02 cJ0_isLatin1_aae02 1 (some .boolean), Cond.methodLink RJ0 495 yJ1_charAt_3b067, Cond.static yJ1_charAt_3b067, Cond.initialized RJ1, Cond.code yJ1_charAt_3b067 cJ1_charAt_3b067 2 (some .char), Cond.methodLink RJ1 9 yJ0_checkIndex_df160, Cond.static yJ0_checkIndex_df160, Cond.code yJ0_checkIndex_df160 cJ0_checkIndex_df160 2 none, Cond.fieldLink RJ0 1053 "jdk/internal/util/Preconditions" "SIOOBE_FORMATTER" "Ljava/util/function/BiFunction;", Cond.methodLink RJ0 1059 yJ3_checkIndex_8e157, Cond.static yJ3_checkIndex_8e157, Cond.initialized RJ3, Cond.code yJ3_checkIndex_8e157 cJ3_checkIndex_8e157 3 (some .int), Cond.methodLink RJ0 498 yJ2_charAt_3b067, Cond.static yJ2_charAt_3b067, Cond.initialized RJ2, Cond.code yJ2_charAt_3b067 cJ2_charAt_3b067 2 (some .char), Cond.methodLink RJ2 67 yJ2_checkIndex_2214a]
def wsX14_send_r3 : List Cond := [Cond.static yJ2_checkIndex_2214a, Cond.code yJ2_checkIndex_2214a cJ2_checkIndex_2214a 2 none, Cond.methodLink RJ2 48 yJ2_length_9d52b, Cond.static yJ2_length_9d52b, Cond.code yJ2_length_9d52b cJ2_length_9d52b 1 (some .int), Cond.methodLink RJ2 414 yJ0_checkIndex_df160, Cond.methodLink RJ2 71 yJ2_getChar_3b067, Cond.static yJ2_getChar_3b067, Cond.code yJ2_getChar_3b067 cJ2_getChar_3b067 2 (some .char), Cond.fieldLink RJ2 44 "java/lang/StringUTF16" "$assertionsDisabled" "Z", Cond.fieldLink RJ2 59 "java/lang/StringUTF16" "HI_BYTE_SHIFT" "I", Cond.fieldLink RJ2 63 "java/lang/StringUTF16" "LO_BYTE_SHIFT" "I", Cond.methodLink RX14 172 yX14_put, Cond.instanceMethod yX14_put, Cond.selects RX14 yX14_put yX14_put, Cond.code yX14_put cX14_put 2 none, Cond.constant RX14 16 (100000), Cond.methodLink RX14 208 yX14_number, Cond.instanceMethod yX14_number, Cond.selects RX14 yX14_number yX14_number, Cond.code yX14_number cX14_number 2 none, Cond.methodLink RX14 176 yX14_digitsOf, Cond.instanceMethod yX14_digitsOf, Cond.selects RX14 yX14_digitsOf yX14_digitsOf]
def wsX14_send_r4 : List Cond := [Cond.code yX14_digitsOf cX14_digitsOf 2 none]
def wsX14_send : List Cond := .code yX14_send cX14_send 4 none :: ((wsX14_send_r1 ++ (wsX14_send_r2 ++ (wsX14_send_r3 ++ wsX14_send_r4))) ++ wsX140)
def wsX14_feed : List Cond := .code yX14_feed cX14_feed 8 (some .int) :: ([.fieldLink RX14 217 "ProofServerModel" "taped" "I", .fieldLink RX14 9 "ProofServerModel" "tape" "[I"] ++ wsX140)
def wsX14_out : List Cond := .code yX14_out cX14_out 2 (some .int) :: ([.fieldLink RX14 211 "ProofServerModel" "outs" "I", .fieldLink RX14 13 "ProofServerModel" "out" "[I"] ++ wsX140)
def wsX14_take : List Cond := .code yX14_take cX14_take 2 (some .int) :: ([.fieldLink RX14 211 "ProofServerModel" "outs" "I"] ++ wsX140)
def wsX14_beginAnswer_r1 : List Cond := [Cond.fieldLink RX14 160 "ProofServerModel" "framed" "I", Cond.fieldLink RX14 374 "ProofServerModel" "idNull" "Z", Cond.fieldLink RX14 377 "ProofServerModel" "idString" "Z", Cond.fieldLink RX14 68 "ProofServerModel" "idUnits" "[I", Cond.fieldLink RX14 383 "ProofServerModel" "idLength" "I", Cond.fieldLink RX14 380 "ProofServerModel" "idInt" "I", Cond.methodLink RX14 189 yX14_word, Cond.instanceMethod yX14_word, Cond.selects RX14 yX14_word yX14_word, Cond.initialized RX14, Cond.code yX14_word cX14_word 3 none, Cond.methodLink RX14 163 yJ0_length_8abf5, Cond.instanceMethod yJ0_length_8abf5, Cond.selects RJ0 yJ0_length_8abf5 yJ0_length_8abf5, Cond.initialized RJ0, Cond.code yJ0_length_8abf5 cJ0_length_8abf5 1 (some .int), Cond.fieldLink RJ0 9 "java/lang/String" "value" "[B", Cond.methodLink RJ0 335 yJ0_coder_7d493, Cond.instanceMethod yJ0_coder_7d493, Cond.selects RJ0 yJ0_coder_7d493 yJ0_coder_7d493, Cond.code yJ0_coder_7d493 cJ0_coder_7d493 1 (some .byte), Cond.fieldLink RJ0 38 "java/lang/String" "COMPACT_STRINGS" "Z", Cond.fieldLink RJ0 15 "java/lang/String" "coder" "B", Cond.methodLink RX14 168 yJ0_charAt_5068e]
def wsX14_beginAnswer_r2 : List Cond := [Cond.instanceMethod yJ0_charAt_5068e, Cond.selects RJ0 yJ0_charAt_5068e yJ0_charAt_5068e, Cond.code yJ0_charAt_5068e cJ0_charAt_5068e 2 (some .char), Cond.methodLink RJ0 492 yJ0_isLatin1_aae02, Cond.instanceMethod yJ0_isLatin1_aae02, Cond.selects RJ0 yJ0_isLatin1_aae02 yJ0_isLatin1_aae02, Cond.code yJ0_isLatin1_aae02 cJ0_isLatin1_aae02 1 (some .boolean), Cond.methodLink RJ0 495 yJ1_charAt_3b067, Cond.static yJ1_charAt_3b067, Cond.initialized RJ1, Cond.code yJ1_charAt_3b067 cJ1_charAt_3b067 2 (some .char), Cond.methodLink RJ1 9 yJ0_checkIndex_df160, Cond.static yJ0_checkIndex_df160, Cond.code yJ0_checkIndex_df160 cJ0_checkIndex_df160 2 none, Cond.fieldLink RJ0 1053 "jdk/internal/util/Preconditions" "SIOOBE_FORMATTER" "Ljava/util/function/BiFunction;", Cond.methodLink RJ0 1059 yJ3_checkIndex_8e157, Cond.static yJ3_checkIndex_8e157, Cond.initialized RJ3, Cond.code yJ3_checkIndex_8e157 cJ3_checkIndex_8e157 3 (some .int), Cond.methodLink RJ0 498 yJ2_charAt_3b067, Cond.static yJ2_charAt_3b067, Cond.initialized RJ2, Cond.code yJ2_charAt_3b067 cJ2_charAt_3b067 2 (some .char), Cond.methodLink RJ2 67 yJ2_checkIndex_2214a]
def wsX14_beginAnswer_r3 : List Cond := [Cond.static yJ2_checkIndex_2214a, Cond.code yJ2_checkIndex_2214a cJ2_checkIndex_2214a 2 none, Cond.methodLink RJ2 48 yJ2_length_9d52b, Cond.static yJ2_length_9d52b, Cond.code yJ2_length_9d52b cJ2_length_9d52b 1 (some .int), Cond.methodLink RJ2 414 yJ0_checkIndex_df160, Cond.methodLink RJ2 71 yJ2_getChar_3b067, Cond.static yJ2_getChar_3b067, Cond.code yJ2_getChar_3b067 cJ2_getChar_3b067 2 (some .char), Cond.fieldLink RJ2 44 "java/lang/StringUTF16" "$assertionsDisabled" "Z", Cond.fieldLink RJ2 59 "java/lang/StringUTF16" "HI_BYTE_SHIFT" "I", Cond.fieldLink RJ2 63 "java/lang/StringUTF16" "LO_BYTE_SHIFT" "I", Cond.methodLink RX14 172 yX14_put, Cond.instanceMethod yX14_put, Cond.selects RX14 yX14_put yX14_put, Cond.code yX14_put cX14_put 2 none, Cond.constant RX14 16 (100000), Cond.fieldLink RX14 17 "ProofServerModel" "frame" "[I", Cond.methodLink RX14 388 yX14_string, Cond.instanceMethod yX14_string, Cond.selects RX14 yX14_string yX14_string, Cond.code yX14_string cX14_string 7 none, Cond.constant RX14 179 (55296), Cond.constant RX14 180 (56319)]
def wsX14_beginAnswer_r4 : List Cond := [Cond.constant RX14 185 (56320), Cond.constant RX14 186 (57343), Cond.constant RX14 197 (65536), Cond.constant RX14 201 (65533), Cond.methodLink RX14 181 yX14_in, Cond.static yX14_in, Cond.code yX14_in cX14_in 3 (some .boolean), Cond.methodLink RX14 193 yX14_hex, Cond.static yX14_hex, Cond.code yX14_hex cX14_hex 1 (some .int), Cond.methodLink RX14 198 yX14_utf8, Cond.instanceMethod yX14_utf8, Cond.selects RX14 yX14_utf8 yX14_utf8, Cond.code yX14_utf8 cX14_utf8 2 none, Cond.methodLink RX14 208 yX14_number, Cond.instanceMethod yX14_number, Cond.selects RX14 yX14_number yX14_number, Cond.code yX14_number cX14_number 2 none, Cond.methodLink RX14 176 yX14_digitsOf, Cond.instanceMethod yX14_digitsOf, Cond.selects RX14 yX14_digitsOf yX14_digitsOf, Cond.code yX14_digitsOf cX14_digitsOf 2 none]
def wsX14_beginAnswer : List Cond := .code yX14_beginAnswer cX14_beginAnswer 1 none :: ((wsX14_beginAnswer_r1 ++ (wsX14_beginAnswer_r2 ++ (wsX14_beginAnswer_r3 ++ wsX14_beginAnswer_r4))) ++ wsX140)
def wsX14_endAnswer_r1 : List Cond := [Cond.methodLink RX14 172 yX14_put, Cond.instanceMethod yX14_put, Cond.selects RX14 yX14_put yX14_put, Cond.initialized RX14, Cond.code yX14_put cX14_put 2 none, Cond.fieldLink RX14 160 "ProofServerModel" "framed" "I", Cond.constant RX14 16 (100000), Cond.fieldLink RX14 17 "ProofServerModel" "frame" "[I", Cond.methodLink RX14 397 yX14_send, Cond.instanceMethod yX14_send, Cond.selects RX14 yX14_send yX14_send, Cond.code yX14_send cX14_send 4 none, Cond.fieldLink RX14 202 "ProofServerModel" "broken" "Z", Cond.fieldLink RX14 211 "ProofServerModel" "outs" "I", Cond.fieldLink RX14 214 "ProofServerModel" "lost" "I", Cond.fieldLink RX14 13 "ProofServerModel" "out" "[I", Cond.methodLink RX14 189 yX14_word, Cond.instanceMethod yX14_word, Cond.selects RX14 yX14_word yX14_word, Cond.code yX14_word cX14_word 3 none, Cond.methodLink RX14 163 yJ0_length_8abf5, Cond.instanceMethod yJ0_length_8abf5, Cond.selects RJ0 yJ0_length_8abf5 yJ0_length_8abf5, Cond.initialized RJ0]
def wsX14_endAnswer_r2 : List Cond := [Cond.code yJ0_length_8abf5 cJ0_length_8abf5 1 (some .int), Cond.fieldLink RJ0 9 "java/lang/String" "value" "[B", Cond.methodLink RJ0 335 yJ0_coder_7d493, Cond.instanceMethod yJ0_coder_7d493, Cond.selects RJ0 yJ0_coder_7d493 yJ0_coder_7d493, Cond.code yJ0_coder_7d493 cJ0_coder_7d493 1 (some .byte), Cond.fieldLink RJ0 38 "java/lang/String" "COMPACT_STRINGS" "Z", Cond.fieldLink RJ0 15 "java/lang/String" "coder" "B", Cond.methodLink RX14 168 yJ0_charAt_5068e, Cond.instanceMethod yJ0_charAt_5068e, Cond.selects RJ0 yJ0_charAt_5068e yJ0_charAt_5068e, Cond.code yJ0_charAt_5068e cJ0_charAt_5068e 2 (some .char), Cond.methodLink RJ0 492 yJ0_isLatin1_aae02, Cond.instanceMethod yJ0_isLatin1_aae02, Cond.selects RJ0 yJ0_isLatin1_aae02 yJ0_isLatin1_aae02, Cond.code yJ0_isLatin1_aae02 cJ0_isLatin1_aae02 1 (some .boolean), Cond.methodLink RJ0 495 yJ1_charAt_3b067, Cond.static yJ1_charAt_3b067, Cond.initialized RJ1, Cond.code yJ1_charAt_3b067 cJ1_charAt_3b067 2 (some .char), Cond.methodLink RJ1 9 yJ0_checkIndex_df160, Cond.static yJ0_checkIndex_df160, Cond.code yJ0_checkIndex_df160 cJ0_checkIndex_df160 2 none, Cond.fieldLink RJ0 1053 "jdk/internal/util/Preconditions" "SIOOBE_FORMATTER" "Ljava/util/function/BiFunction;"]
def wsX14_endAnswer_r3 : List Cond := [Cond.methodLink RJ0 1059 yJ3_checkIndex_8e157, Cond.static yJ3_checkIndex_8e157, Cond.initialized RJ3, Cond.code yJ3_checkIndex_8e157 cJ3_checkIndex_8e157 3 (some .int), Cond.methodLink RJ0 498 yJ2_charAt_3b067, Cond.static yJ2_charAt_3b067, Cond.initialized RJ2, Cond.code yJ2_charAt_3b067 cJ2_charAt_3b067 2 (some .char), Cond.methodLink RJ2 67 yJ2_checkIndex_2214a, Cond.static yJ2_checkIndex_2214a, Cond.code yJ2_checkIndex_2214a cJ2_checkIndex_2214a 2 none, Cond.methodLink RJ2 48 yJ2_length_9d52b, Cond.static yJ2_length_9d52b, Cond.code yJ2_length_9d52b cJ2_length_9d52b 1 (some .int), Cond.methodLink RJ2 414 yJ0_checkIndex_df160, Cond.methodLink RJ2 71 yJ2_getChar_3b067, Cond.static yJ2_getChar_3b067, Cond.code yJ2_getChar_3b067 cJ2_getChar_3b067 2 (some .char), Cond.fieldLink RJ2 44 "java/lang/StringUTF16" "$assertionsDisabled" "Z", Cond.fieldLink RJ2 59 "java/lang/StringUTF16" "HI_BYTE_SHIFT" "I", Cond.fieldLink RJ2 63 "java/lang/StringUTF16" "LO_BYTE_SHIFT" "I", Cond.methodLink RX14 208 yX14_number, Cond.instanceMethod yX14_number, Cond.selects RX14 yX14_number yX14_number]
def wsX14_endAnswer_r4 : List Cond := [Cond.code yX14_number cX14_number 2 none, Cond.methodLink RX14 176 yX14_digitsOf, Cond.instanceMethod yX14_digitsOf, Cond.selects RX14 yX14_digitsOf yX14_digitsOf, Cond.code yX14_digitsOf cX14_digitsOf 2 none]
def wsX14_endAnswer : List Cond := .code yX14_endAnswer cX14_endAnswer 1 none :: ((wsX14_endAnswer_r1 ++ (wsX14_endAnswer_r2 ++ (wsX14_endAnswer_r3 ++ wsX14_endAnswer_r4))) ++ wsX140)
def wsX14_error_r1 : List Cond := [Cond.constant RX14 414 (-32800), Cond.methodLink RX14 392 yX14_beginAnswer, Cond.instanceMethod yX14_beginAnswer, Cond.selects RX14 yX14_beginAnswer yX14_beginAnswer, Cond.initialized RX14, Cond.code yX14_beginAnswer cX14_beginAnswer 1 none, Cond.fieldLink RX14 160 "ProofServerModel" "framed" "I", Cond.fieldLink RX14 374 "ProofServerModel" "idNull" "Z", Cond.fieldLink RX14 377 "ProofServerModel" "idString" "Z", Cond.fieldLink RX14 68 "ProofServerModel" "idUnits" "[I", Cond.fieldLink RX14 383 "ProofServerModel" "idLength" "I", Cond.fieldLink RX14 380 "ProofServerModel" "idInt" "I", Cond.methodLink RX14 189 yX14_word, Cond.instanceMethod yX14_word, Cond.selects RX14 yX14_word yX14_word, Cond.code yX14_word cX14_word 3 none, Cond.methodLink RX14 163 yJ0_length_8abf5, Cond.instanceMethod yJ0_length_8abf5, Cond.selects RJ0 yJ0_length_8abf5 yJ0_length_8abf5, Cond.initialized RJ0, Cond.code yJ0_length_8abf5 cJ0_length_8abf5 1 (some .int), Cond.fieldLink RJ0 9 "java/lang/String" "value" "[B", Cond.methodLink RJ0 335 yJ0_coder_7d493, Cond.instanceMethod yJ0_coder_7d493]
def wsX14_error_r2 : List Cond := [Cond.selects RJ0 yJ0_coder_7d493 yJ0_coder_7d493, Cond.code yJ0_coder_7d493 cJ0_coder_7d493 1 (some .byte), Cond.fieldLink RJ0 38 "java/lang/String" "COMPACT_STRINGS" "Z", Cond.fieldLink RJ0 15 "java/lang/String" "coder" "B", Cond.methodLink RX14 168 yJ0_charAt_5068e, Cond.instanceMethod yJ0_charAt_5068e, Cond.selects RJ0 yJ0_charAt_5068e yJ0_charAt_5068e, Cond.code yJ0_charAt_5068e cJ0_charAt_5068e 2 (some .char), Cond.methodLink RJ0 492 yJ0_isLatin1_aae02, Cond.instanceMethod yJ0_isLatin1_aae02, Cond.selects RJ0 yJ0_isLatin1_aae02 yJ0_isLatin1_aae02, Cond.code yJ0_isLatin1_aae02 cJ0_isLatin1_aae02 1 (some .boolean), Cond.methodLink RJ0 495 yJ1_charAt_3b067, Cond.static yJ1_charAt_3b067, Cond.initialized RJ1, Cond.code yJ1_charAt_3b067 cJ1_charAt_3b067 2 (some .char), Cond.methodLink RJ1 9 yJ0_checkIndex_df160, Cond.static yJ0_checkIndex_df160, Cond.code yJ0_checkIndex_df160 cJ0_checkIndex_df160 2 none, Cond.fieldLink RJ0 1053 "jdk/internal/util/Preconditions" "SIOOBE_FORMATTER" "Ljava/util/function/BiFunction;", Cond.methodLink RJ0 1059 yJ3_checkIndex_8e157, Cond.static yJ3_checkIndex_8e157, Cond.initialized RJ3, Cond.code yJ3_checkIndex_8e157 cJ3_checkIndex_8e157 3 (some .int)]
def wsX14_error_r3 : List Cond := [Cond.methodLink RJ0 498 yJ2_charAt_3b067, Cond.static yJ2_charAt_3b067, Cond.initialized RJ2, Cond.code yJ2_charAt_3b067 cJ2_charAt_3b067 2 (some .char), Cond.methodLink RJ2 67 yJ2_checkIndex_2214a, Cond.static yJ2_checkIndex_2214a, Cond.code yJ2_checkIndex_2214a cJ2_checkIndex_2214a 2 none, Cond.methodLink RJ2 48 yJ2_length_9d52b, Cond.static yJ2_length_9d52b, Cond.code yJ2_length_9d52b cJ2_length_9d52b 1 (some .int), Cond.methodLink RJ2 414 yJ0_checkIndex_df160, Cond.methodLink RJ2 71 yJ2_getChar_3b067, Cond.static yJ2_getChar_3b067, Cond.code yJ2_getChar_3b067 cJ2_getChar_3b067 2 (some .char), Cond.fieldLink RJ2 44 "java/lang/StringUTF16" "$assertionsDisabled" "Z", Cond.fieldLink RJ2 59 "java/lang/StringUTF16" "HI_BYTE_SHIFT" "I", Cond.fieldLink RJ2 63 "java/lang/StringUTF16" "LO_BYTE_SHIFT" "I", Cond.methodLink RX14 172 yX14_put, Cond.instanceMethod yX14_put, Cond.selects RX14 yX14_put yX14_put, Cond.code yX14_put cX14_put 2 none, Cond.constant RX14 16 (100000), Cond.fieldLink RX14 17 "ProofServerModel" "frame" "[I", Cond.methodLink RX14 388 yX14_string]
def wsX14_error_r4 : List Cond := [Cond.instanceMethod yX14_string, Cond.selects RX14 yX14_string yX14_string, Cond.code yX14_string cX14_string 7 none, Cond.constant RX14 179 (55296), Cond.constant RX14 180 (56319), Cond.constant RX14 185 (56320), Cond.constant RX14 186 (57343), Cond.constant RX14 197 (65536), Cond.constant RX14 201 (65533), Cond.methodLink RX14 181 yX14_in, Cond.static yX14_in, Cond.code yX14_in cX14_in 3 (some .boolean), Cond.methodLink RX14 193 yX14_hex, Cond.static yX14_hex, Cond.code yX14_hex cX14_hex 1 (some .int), Cond.methodLink RX14 198 yX14_utf8, Cond.instanceMethod yX14_utf8, Cond.selects RX14 yX14_utf8 yX14_utf8, Cond.code yX14_utf8 cX14_utf8 2 none, Cond.methodLink RX14 208 yX14_number, Cond.instanceMethod yX14_number, Cond.selects RX14 yX14_number yX14_number, Cond.code yX14_number cX14_number 2 none, Cond.methodLink RX14 176 yX14_digitsOf]
def wsX14_error_r5 : List Cond := [Cond.instanceMethod yX14_digitsOf, Cond.selects RX14 yX14_digitsOf yX14_digitsOf, Cond.code yX14_digitsOf cX14_digitsOf 2 none, Cond.methodLink RX14 419 yX14_text, Cond.instanceMethod yX14_text, Cond.selects RX14 yX14_text yX14_text, Cond.code yX14_text cX14_text 2 none, Cond.methodLink RX14 422 yX14_endAnswer, Cond.instanceMethod yX14_endAnswer, Cond.selects RX14 yX14_endAnswer yX14_endAnswer, Cond.code yX14_endAnswer cX14_endAnswer 1 none, Cond.methodLink RX14 397 yX14_send, Cond.instanceMethod yX14_send, Cond.selects RX14 yX14_send yX14_send, Cond.code yX14_send cX14_send 4 none, Cond.fieldLink RX14 202 "ProofServerModel" "broken" "Z", Cond.fieldLink RX14 211 "ProofServerModel" "outs" "I", Cond.fieldLink RX14 214 "ProofServerModel" "lost" "I", Cond.fieldLink RX14 13 "ProofServerModel" "out" "[I"]
def wsX14_error : List Cond := .code yX14_error cX14_error 2 none :: ((wsX14_error_r1 ++ (wsX14_error_r2 ++ (wsX14_error_r3 ++ (wsX14_error_r4 ++ wsX14_error_r5)))) ++ wsX140)
def wsX14_isText_r1 : List Cond := [Cond.fieldLink RX14 65 "ProofServerModel" "pool" "[I", Cond.methodLink RX14 163 yJ0_length_8abf5, Cond.instanceMethod yJ0_length_8abf5, Cond.selects RJ0 yJ0_length_8abf5 yJ0_length_8abf5, Cond.initialized RJ0, Cond.code yJ0_length_8abf5 cJ0_length_8abf5 1 (some .int), Cond.fieldLink RJ0 9 "java/lang/String" "value" "[B", Cond.methodLink RJ0 335 yJ0_coder_7d493, Cond.instanceMethod yJ0_coder_7d493, Cond.selects RJ0 yJ0_coder_7d493 yJ0_coder_7d493, Cond.code yJ0_coder_7d493 cJ0_coder_7d493 1 (some .byte), Cond.fieldLink RJ0 38 "java/lang/String" "COMPACT_STRINGS" "Z", Cond.fieldLink RJ0 15 "java/lang/String" "coder" "B", Cond.methodLink RX14 168 yJ0_charAt_5068e, Cond.instanceMethod yJ0_charAt_5068e, Cond.selects RJ0 yJ0_charAt_5068e yJ0_charAt_5068e, Cond.code yJ0_charAt_5068e cJ0_charAt_5068e 2 (some .char), Cond.methodLink RJ0 492 yJ0_isLatin1_aae02, Cond.instanceMethod yJ0_isLatin1_aae02, Cond.selects RJ0 yJ0_isLatin1_aae02 yJ0_isLatin1_aae02, Cond.code yJ0_isLatin1_aae02 cJ0_isLatin1_aae02 1 (some .boolean), Cond.methodLink RJ0 495 yJ1_charAt_3b067, Cond.static yJ1_charAt_3b067, Cond.initialized RJ1]
def wsX14_isText_r2 : List Cond := [Cond.code yJ1_charAt_3b067 cJ1_charAt_3b067 2 (some .char), Cond.methodLink RJ1 9 yJ0_checkIndex_df160, Cond.static yJ0_checkIndex_df160, Cond.code yJ0_checkIndex_df160 cJ0_checkIndex_df160 2 none, Cond.fieldLink RJ0 1053 "jdk/internal/util/Preconditions" "SIOOBE_FORMATTER" "Ljava/util/function/BiFunction;", Cond.methodLink RJ0 1059 yJ3_checkIndex_8e157, Cond.static yJ3_checkIndex_8e157, Cond.initialized RJ3, Cond.code yJ3_checkIndex_8e157 cJ3_checkIndex_8e157 3 (some .int), Cond.methodLink RJ0 498 yJ2_charAt_3b067, Cond.static yJ2_charAt_3b067, Cond.initialized RJ2, Cond.code yJ2_charAt_3b067 cJ2_charAt_3b067 2 (some .char), Cond.methodLink RJ2 67 yJ2_checkIndex_2214a, Cond.static yJ2_checkIndex_2214a, Cond.code yJ2_checkIndex_2214a cJ2_checkIndex_2214a 2 none, Cond.methodLink RJ2 48 yJ2_length_9d52b, Cond.static yJ2_length_9d52b, Cond.code yJ2_length_9d52b cJ2_length_9d52b 1 (some .int), Cond.methodLink RJ2 414 yJ0_checkIndex_df160, Cond.methodLink RJ2 71 yJ2_getChar_3b067, Cond.static yJ2_getChar_3b067, Cond.code yJ2_getChar_3b067 cJ2_getChar_3b067 2 (some .char), Cond.fieldLink RJ2 44 "java/lang/StringUTF16" "$assertionsDisabled" "Z"]
def wsX14_isText_r3 : List Cond := [Cond.fieldLink RJ2 59 "java/lang/StringUTF16" "HI_BYTE_SHIFT" "I", Cond.fieldLink RJ2 63 "java/lang/StringUTF16" "LO_BYTE_SHIFT" "I"]
def wsX14_isText : List Cond := .code yX14_isText cX14_isText 5 (some .boolean) :: ((wsX14_isText_r1 ++ (wsX14_isText_r2 ++ wsX14_isText_r3)) ++ wsX140)
def wsX14_member_r1 : List Cond := [Cond.fieldLink RX14 37 "ProofServerModel" "sort" "[I", Cond.fieldLink RX14 40 "ProofServerModel" "heir" "[I", Cond.fieldLink RX14 46 "ProofServerModel" "nameFrom" "[I", Cond.fieldLink RX14 49 "ProofServerModel" "nameTo" "[I", Cond.fieldLink RX14 43 "ProofServerModel" "next" "[I", Cond.methodLink RX14 364 yX14_isText, Cond.instanceMethod yX14_isText, Cond.selects RX14 yX14_isText yX14_isText, Cond.initialized RX14, Cond.code yX14_isText cX14_isText 5 (some .boolean), Cond.fieldLink RX14 65 "ProofServerModel" "pool" "[I", Cond.methodLink RX14 163 yJ0_length_8abf5, Cond.instanceMethod yJ0_length_8abf5, Cond.selects RJ0 yJ0_length_8abf5 yJ0_length_8abf5, Cond.initialized RJ0, Cond.code yJ0_length_8abf5 cJ0_length_8abf5 1 (some .int), Cond.fieldLink RJ0 9 "java/lang/String" "value" "[B", Cond.methodLink RJ0 335 yJ0_coder_7d493, Cond.instanceMethod yJ0_coder_7d493, Cond.selects RJ0 yJ0_coder_7d493 yJ0_coder_7d493, Cond.code yJ0_coder_7d493 cJ0_coder_7d493 1 (some .byte), Cond.fieldLink RJ0 38 "java/lang/String" "COMPACT_STRINGS" "Z", Cond.fieldLink RJ0 15 "java/lang/String" "coder" "B", Cond.methodLink RX14 168 yJ0_charAt_5068e]
def wsX14_member_r2 : List Cond := [Cond.instanceMethod yJ0_charAt_5068e, Cond.selects RJ0 yJ0_charAt_5068e yJ0_charAt_5068e, Cond.code yJ0_charAt_5068e cJ0_charAt_5068e 2 (some .char), Cond.methodLink RJ0 492 yJ0_isLatin1_aae02, Cond.instanceMethod yJ0_isLatin1_aae02, Cond.selects RJ0 yJ0_isLatin1_aae02 yJ0_isLatin1_aae02, Cond.code yJ0_isLatin1_aae02 cJ0_isLatin1_aae02 1 (some .boolean), Cond.methodLink RJ0 495 yJ1_charAt_3b067, Cond.static yJ1_charAt_3b067, Cond.initialized RJ1, Cond.code yJ1_charAt_3b067 cJ1_charAt_3b067 2 (some .char), Cond.methodLink RJ1 9 yJ0_checkIndex_df160, Cond.static yJ0_checkIndex_df160, Cond.code yJ0_checkIndex_df160 cJ0_checkIndex_df160 2 none, Cond.fieldLink RJ0 1053 "jdk/internal/util/Preconditions" "SIOOBE_FORMATTER" "Ljava/util/function/BiFunction;", Cond.methodLink RJ0 1059 yJ3_checkIndex_8e157, Cond.static yJ3_checkIndex_8e157, Cond.initialized RJ3, Cond.code yJ3_checkIndex_8e157 cJ3_checkIndex_8e157 3 (some .int), Cond.methodLink RJ0 498 yJ2_charAt_3b067, Cond.static yJ2_charAt_3b067, Cond.initialized RJ2, Cond.code yJ2_charAt_3b067 cJ2_charAt_3b067 2 (some .char), Cond.methodLink RJ2 67 yJ2_checkIndex_2214a]
def wsX14_member_r3 : List Cond := [Cond.static yJ2_checkIndex_2214a, Cond.code yJ2_checkIndex_2214a cJ2_checkIndex_2214a 2 none, Cond.methodLink RJ2 48 yJ2_length_9d52b, Cond.static yJ2_length_9d52b, Cond.code yJ2_length_9d52b cJ2_length_9d52b 1 (some .int), Cond.methodLink RJ2 414 yJ0_checkIndex_df160, Cond.methodLink RJ2 71 yJ2_getChar_3b067, Cond.static yJ2_getChar_3b067, Cond.code yJ2_getChar_3b067 cJ2_getChar_3b067 2 (some .char), Cond.fieldLink RJ2 44 "java/lang/StringUTF16" "$assertionsDisabled" "Z", Cond.fieldLink RJ2 59 "java/lang/StringUTF16" "HI_BYTE_SHIFT" "I", Cond.fieldLink RJ2 63 "java/lang/StringUTF16" "LO_BYTE_SHIFT" "I"]
def wsX14_member : List Cond := .code yX14_member cX14_member 5 (some .int) :: ((wsX14_member_r1 ++ (wsX14_member_r2 ++ wsX14_member_r3)) ++ wsX140)
def wsX14_isString : List Cond := .code yX14_isString cX14_isString 2 (some .boolean) :: ([.fieldLink RX14 37 "ProofServerModel" "sort" "[I"] ++ wsX140)
def wsX14_isString__r1 : List Cond := [Cond.fieldLink RX14 52 "ProofServerModel" "from" "[I", Cond.fieldLink RX14 55 "ProofServerModel" "to" "[I", Cond.methodLink RX14 368 yX14_isString, Cond.instanceMethod yX14_isString, Cond.selects RX14 yX14_isString yX14_isString, Cond.initialized RX14, Cond.code yX14_isString cX14_isString 2 (some .boolean), Cond.fieldLink RX14 37 "ProofServerModel" "sort" "[I", Cond.methodLink RX14 364 yX14_isText, Cond.instanceMethod yX14_isText, Cond.selects RX14 yX14_isText yX14_isText, Cond.code yX14_isText cX14_isText 5 (some .boolean), Cond.fieldLink RX14 65 "ProofServerModel" "pool" "[I", Cond.methodLink RX14 163 yJ0_length_8abf5, Cond.instanceMethod yJ0_length_8abf5, Cond.selects RJ0 yJ0_length_8abf5 yJ0_length_8abf5, Cond.initialized RJ0, Cond.code yJ0_length_8abf5 cJ0_length_8abf5 1 (some .int), Cond.fieldLink RJ0 9 "java/lang/String" "value" "[B", Cond.methodLink RJ0 335 yJ0_coder_7d493, Cond.instanceMethod yJ0_coder_7d493, Cond.selects RJ0 yJ0_coder_7d493 yJ0_coder_7d493, Cond.code yJ0_coder_7d493 cJ0_coder_7d493 1 (some .byte), Cond.fieldLink RJ0 38 "java/lang/String" "COMPACT_STRINGS" "Z"]
def wsX14_isString__r2 : List Cond := [Cond.fieldLink RJ0 15 "java/lang/String" "coder" "B", Cond.methodLink RX14 168 yJ0_charAt_5068e, Cond.instanceMethod yJ0_charAt_5068e, Cond.selects RJ0 yJ0_charAt_5068e yJ0_charAt_5068e, Cond.code yJ0_charAt_5068e cJ0_charAt_5068e 2 (some .char), Cond.methodLink RJ0 492 yJ0_isLatin1_aae02, Cond.instanceMethod yJ0_isLatin1_aae02, Cond.selects RJ0 yJ0_isLatin1_aae02 yJ0_isLatin1_aae02, Cond.code yJ0_isLatin1_aae02 cJ0_isLatin1_aae02 1 (some .boolean), Cond.methodLink RJ0 495 yJ1_charAt_3b067, Cond.static yJ1_charAt_3b067, Cond.initialized RJ1, Cond.code yJ1_charAt_3b067 cJ1_charAt_3b067 2 (some .char), Cond.methodLink RJ1 9 yJ0_checkIndex_df160, Cond.static yJ0_checkIndex_df160, Cond.code yJ0_checkIndex_df160 cJ0_checkIndex_df160 2 none, Cond.fieldLink RJ0 1053 "jdk/internal/util/Preconditions" "SIOOBE_FORMATTER" "Ljava/util/function/BiFunction;", Cond.methodLink RJ0 1059 yJ3_checkIndex_8e157, Cond.static yJ3_checkIndex_8e157, Cond.initialized RJ3, Cond.code yJ3_checkIndex_8e157 cJ3_checkIndex_8e157 3 (some .int), Cond.methodLink RJ0 498 yJ2_charAt_3b067, Cond.static yJ2_charAt_3b067, Cond.initialized RJ2]
def wsX14_isString__r3 : List Cond := [Cond.code yJ2_charAt_3b067 cJ2_charAt_3b067 2 (some .char), Cond.methodLink RJ2 67 yJ2_checkIndex_2214a, Cond.static yJ2_checkIndex_2214a, Cond.code yJ2_checkIndex_2214a cJ2_checkIndex_2214a 2 none, Cond.methodLink RJ2 48 yJ2_length_9d52b, Cond.static yJ2_length_9d52b, Cond.code yJ2_length_9d52b cJ2_length_9d52b 1 (some .int), Cond.methodLink RJ2 414 yJ0_checkIndex_df160, Cond.methodLink RJ2 71 yJ2_getChar_3b067, Cond.static yJ2_getChar_3b067, Cond.code yJ2_getChar_3b067 cJ2_getChar_3b067 2 (some .char), Cond.fieldLink RJ2 44 "java/lang/StringUTF16" "$assertionsDisabled" "Z", Cond.fieldLink RJ2 59 "java/lang/StringUTF16" "HI_BYTE_SHIFT" "I", Cond.fieldLink RJ2 63 "java/lang/StringUTF16" "LO_BYTE_SHIFT" "I"]
def wsX14_isString_ : List Cond := .code yX14_isString_ cX14_isString_ 3 (some .boolean) :: ((wsX14_isString__r1 ++ (wsX14_isString__r2 ++ wsX14_isString__r3)) ++ wsX140)
def wsX14_isWhole : List Cond := .code yX14_isWhole cX14_isWhole 2 (some .boolean) :: ([.fieldLink RX14 37 "ProofServerModel" "sort" "[I", .fieldLink RX14 58 "ProofServerModel" "isInt" "[Z"] ++ wsX140)
def wsX14_isId : List Cond := .code yX14_isId cX14_isId 2 (some .boolean) :: ([.fieldLink RX14 55 "ProofServerModel" "to" "[I", .fieldLink RX14 52 "ProofServerModel" "from" "[I", .methodLink RX14 371 yX14_isWhole, .instanceMethod yX14_isWhole, .selects RX14 yX14_isWhole yX14_isWhole, .initialized RX14, .code yX14_isWhole cX14_isWhole 2 (some .boolean), .fieldLink RX14 37 "ProofServerModel" "sort" "[I", .fieldLink RX14 58 "ProofServerModel" "isInt" "[Z", .methodLink RX14 368 yX14_isString, .instanceMethod yX14_isString, .selects RX14 yX14_isString yX14_isString, .code yX14_isString cX14_isString 2 (some .boolean)] ++ wsX140)
def wsX14_beginResult_r1 : List Cond := [Cond.methodLink RX14 392 yX14_beginAnswer, Cond.instanceMethod yX14_beginAnswer, Cond.selects RX14 yX14_beginAnswer yX14_beginAnswer, Cond.initialized RX14, Cond.code yX14_beginAnswer cX14_beginAnswer 1 none, Cond.fieldLink RX14 160 "ProofServerModel" "framed" "I", Cond.fieldLink RX14 374 "ProofServerModel" "idNull" "Z", Cond.fieldLink RX14 377 "ProofServerModel" "idString" "Z", Cond.fieldLink RX14 68 "ProofServerModel" "idUnits" "[I", Cond.fieldLink RX14 383 "ProofServerModel" "idLength" "I", Cond.fieldLink RX14 380 "ProofServerModel" "idInt" "I", Cond.methodLink RX14 189 yX14_word, Cond.instanceMethod yX14_word, Cond.selects RX14 yX14_word yX14_word, Cond.code yX14_word cX14_word 3 none, Cond.methodLink RX14 163 yJ0_length_8abf5, Cond.instanceMethod yJ0_length_8abf5, Cond.selects RJ0 yJ0_length_8abf5 yJ0_length_8abf5, Cond.initialized RJ0, Cond.code yJ0_length_8abf5 cJ0_length_8abf5 1 (some .int), Cond.fieldLink RJ0 9 "java/lang/String" "value" "[B", Cond.methodLink RJ0 335 yJ0_coder_7d493, Cond.instanceMethod yJ0_coder_7d493, Cond.selects RJ0 yJ0_coder_7d493 yJ0_coder_7d493]
def wsX14_beginResult_r2 : List Cond := [Cond.code yJ0_coder_7d493 cJ0_coder_7d493 1 (some .byte), Cond.fieldLink RJ0 38 "java/lang/String" "COMPACT_STRINGS" "Z", Cond.fieldLink RJ0 15 "java/lang/String" "coder" "B", Cond.methodLink RX14 168 yJ0_charAt_5068e, Cond.instanceMethod yJ0_charAt_5068e, Cond.selects RJ0 yJ0_charAt_5068e yJ0_charAt_5068e, Cond.code yJ0_charAt_5068e cJ0_charAt_5068e 2 (some .char), Cond.methodLink RJ0 492 yJ0_isLatin1_aae02, Cond.instanceMethod yJ0_isLatin1_aae02, Cond.selects RJ0 yJ0_isLatin1_aae02 yJ0_isLatin1_aae02, Cond.code yJ0_isLatin1_aae02 cJ0_isLatin1_aae02 1 (some .boolean), Cond.methodLink RJ0 495 yJ1_charAt_3b067, Cond.static yJ1_charAt_3b067, Cond.initialized RJ1, Cond.code yJ1_charAt_3b067 cJ1_charAt_3b067 2 (some .char), Cond.methodLink RJ1 9 yJ0_checkIndex_df160, Cond.static yJ0_checkIndex_df160, Cond.code yJ0_checkIndex_df160 cJ0_checkIndex_df160 2 none, Cond.fieldLink RJ0 1053 "jdk/internal/util/Preconditions" "SIOOBE_FORMATTER" "Ljava/util/function/BiFunction;", Cond.methodLink RJ0 1059 yJ3_checkIndex_8e157, Cond.static yJ3_checkIndex_8e157, Cond.initialized RJ3, Cond.code yJ3_checkIndex_8e157 cJ3_checkIndex_8e157 3 (some .int), Cond.methodLink RJ0 498 yJ2_charAt_3b067]
def wsX14_beginResult_r3 : List Cond := [Cond.static yJ2_charAt_3b067, Cond.initialized RJ2, Cond.code yJ2_charAt_3b067 cJ2_charAt_3b067 2 (some .char), Cond.methodLink RJ2 67 yJ2_checkIndex_2214a, Cond.static yJ2_checkIndex_2214a, Cond.code yJ2_checkIndex_2214a cJ2_checkIndex_2214a 2 none, Cond.methodLink RJ2 48 yJ2_length_9d52b, Cond.static yJ2_length_9d52b, Cond.code yJ2_length_9d52b cJ2_length_9d52b 1 (some .int), Cond.methodLink RJ2 414 yJ0_checkIndex_df160, Cond.methodLink RJ2 71 yJ2_getChar_3b067, Cond.static yJ2_getChar_3b067, Cond.code yJ2_getChar_3b067 cJ2_getChar_3b067 2 (some .char), Cond.fieldLink RJ2 44 "java/lang/StringUTF16" "$assertionsDisabled" "Z", Cond.fieldLink RJ2 59 "java/lang/StringUTF16" "HI_BYTE_SHIFT" "I", Cond.fieldLink RJ2 63 "java/lang/StringUTF16" "LO_BYTE_SHIFT" "I", Cond.methodLink RX14 172 yX14_put, Cond.instanceMethod yX14_put, Cond.selects RX14 yX14_put yX14_put, Cond.code yX14_put cX14_put 2 none, Cond.constant RX14 16 (100000), Cond.fieldLink RX14 17 "ProofServerModel" "frame" "[I", Cond.methodLink RX14 388 yX14_string, Cond.instanceMethod yX14_string]
def wsX14_beginResult_r4 : List Cond := [Cond.selects RX14 yX14_string yX14_string, Cond.code yX14_string cX14_string 7 none, Cond.constant RX14 179 (55296), Cond.constant RX14 180 (56319), Cond.constant RX14 185 (56320), Cond.constant RX14 186 (57343), Cond.constant RX14 197 (65536), Cond.constant RX14 201 (65533), Cond.methodLink RX14 181 yX14_in, Cond.static yX14_in, Cond.code yX14_in cX14_in 3 (some .boolean), Cond.methodLink RX14 193 yX14_hex, Cond.static yX14_hex, Cond.code yX14_hex cX14_hex 1 (some .int), Cond.methodLink RX14 198 yX14_utf8, Cond.instanceMethod yX14_utf8, Cond.selects RX14 yX14_utf8 yX14_utf8, Cond.code yX14_utf8 cX14_utf8 2 none, Cond.methodLink RX14 208 yX14_number, Cond.instanceMethod yX14_number, Cond.selects RX14 yX14_number yX14_number, Cond.code yX14_number cX14_number 2 none, Cond.methodLink RX14 176 yX14_digitsOf, Cond.instanceMethod yX14_digitsOf]
def wsX14_beginResult_r5 : List Cond := [Cond.selects RX14 yX14_digitsOf yX14_digitsOf, Cond.code yX14_digitsOf cX14_digitsOf 2 none]
def wsX14_beginResult : List Cond := .code yX14_beginResult cX14_beginResult 1 none :: ((wsX14_beginResult_r1 ++ (wsX14_beginResult_r2 ++ (wsX14_beginResult_r3 ++ (wsX14_beginResult_r4 ++ wsX14_beginResult_r5)))) ++ wsX140)
set_option maxRecDepth 20000 in
theorem ggX14_string_X14_put : GoodIn wsX14_string wsX14_put := goodIn_r _ [11, 12, 13, 14, 78, 79, 80, 81, 82, 83, 84, 85, 86, 87, 88, 89, 90, 91, 92, 93, 94, 95, 96, 97, 98, 99, 100, 101, 102, 103, 104, 105, 106, 107, 108, 109, 110, 111, 112, 113, 114, 115, 116, 117, 118, 119, 120, 121, 122, 123, 124, 125, 126, 127, 128, 129, 130, 131, 132, 133, 134, 135, 136, 137, 138, 139, 140, 141, 142, 143, 144, 145, 146, 147, 148, 149, 150, 151] (by decide +kernel) (by decide +kernel)
set_option maxRecDepth 20000 in
theorem gX14_string_X14_put : GoodIn wsX14_string (wsV RX14 172 RX14 yX14_put wsX14_put) := goodIn_app (goodIn_of _ (by decide +kernel)) ggX14_string_X14_put
set_option maxRecDepth 20000 in
theorem ggX14_string_X14_in : GoodIn wsX14_string wsX14_in := goodIn_r _ [17] (by decide +kernel) (by decide +kernel)
set_option maxRecDepth 20000 in
theorem gX14_string_X14_in : GoodIn wsX14_string (va_wsS RX14 181 yX14_in wsX14_in) := goodIn_app (goodIn_of _ (by decide +kernel)) ggX14_string_X14_in
set_option maxRecDepth 20000 in
theorem ggX14_string_X14_word_c0 : GoodIn wsX14_string ((wsX14_word.drop 0).take 60) := goodIn_r _ [21, 22, 23, 24, 25, 26, 27, 28, 29, 30, 31, 32, 33, 34, 35, 36, 37, 38, 39, 40, 41, 42, 43, 44, 45, 46, 47, 48, 49, 50, 51, 52, 53, 54, 55, 56, 57, 58, 59, 60, 61, 62, 63, 64, 65, 66, 67, 68, 69, 70, 7, 8, 9, 10, 11, 12, 13, 14, 78, 79] (by decide +kernel) (by decide +kernel)
set_option maxRecDepth 20000 in
theorem ggX14_string_X14_word_c60 : GoodIn wsX14_string ((wsX14_word.drop 60).take 60) := goodIn_r _ [80, 81, 82, 83, 84, 85, 86, 87, 88, 89, 90, 91, 92, 93, 94, 95, 96, 97, 98, 99, 100, 101, 102, 103, 104, 105, 106, 107, 108, 109, 110, 111, 112, 113, 114, 115, 116, 117, 118, 119, 120, 121, 122, 123, 124, 125, 126, 127, 128, 129, 130, 131, 132, 133, 134, 135, 136, 137, 138, 139] (by decide +kernel) (by decide +kernel)
set_option maxRecDepth 20000 in
theorem ggX14_string_X14_word_c120 : GoodIn wsX14_string (wsX14_word.drop 120) := goodIn_r _ [140, 141, 142, 143, 144, 145, 146, 147, 148, 149, 150, 151] (by decide +kernel) (by decide +kernel)
set_option maxRecDepth 20000 in
theorem ggX14_string_X14_word : GoodIn wsX14_string wsX14_word := (j_chunk 0 60 ggX14_string_X14_word_c0 (j_chunk 60 60 ggX14_string_X14_word_c60 ggX14_string_X14_word_c120))
set_option maxRecDepth 20000 in
theorem gX14_string_X14_word : GoodIn wsX14_string (wsV RX14 189 RX14 yX14_word wsX14_word) := goodIn_app (goodIn_of _ (by decide +kernel)) ggX14_string_X14_word
set_option maxRecDepth 20000 in
theorem ggX14_string_X14_hex : GoodIn wsX14_string wsX14_hex := goodIn_r _ [73] (by decide +kernel) (by decide +kernel)
set_option maxRecDepth 20000 in
theorem gX14_string_X14_hex : GoodIn wsX14_string (va_wsS RX14 193 yX14_hex wsX14_hex) := goodIn_app (goodIn_of _ (by decide +kernel)) ggX14_string_X14_hex
set_option maxRecDepth 20000 in
theorem ggX14_string_X14_utf8 : GoodIn wsX14_string wsX14_utf8 := goodIn_r _ [77, 5, 7, 8, 9, 10, 11, 12, 13, 14, 78, 79, 80, 81, 82, 83, 84, 85, 86, 87, 88, 89, 90, 91, 92, 93, 94, 95, 96, 97, 98, 99, 100, 101, 102, 103, 104, 105, 106, 107, 108, 109, 110, 111, 112, 113, 114, 115, 116, 117, 118, 119, 120, 121, 122, 123, 124, 125, 126, 127, 128, 129, 130, 131, 132, 133, 134, 135, 136, 137, 138, 139, 140, 141, 142, 143, 144, 145, 146, 147, 148, 149, 150, 151] (by decide +kernel) (by decide +kernel)
set_option maxRecDepth 20000 in
theorem gX14_string_X14_utf8 : GoodIn wsX14_string (wsV RX14 198 RX14 yX14_utf8 wsX14_utf8) := goodIn_app (goodIn_of _ (by decide +kernel)) ggX14_string_X14_utf8
theorem dX14_string_0 : decode cX14_string 0 = .ok (.aload_n 0, 1) := by decide +kernel
theorem dX14_string_1 : decode cX14_string 1 = .ok (.bipush 34, 2) := by decide +kernel
theorem dX14_string_3 : decode cX14_string 3 = .ok (.invokevirtual 172, 3) := by decide +kernel
theorem dX14_string_6 : decode cX14_string 6 = .ok (.iload_n 2, 1) := by decide +kernel
theorem dX14_string_7 : decode cX14_string 7 = .ok (.istore 4, 2) := by decide +kernel
theorem dX14_string_9 : decode cX14_string 9 = .ok (.iload 4, 2) := by decide +kernel
theorem dX14_string_11 : decode cX14_string 11 = .ok (.iload_n 3, 1) := by decide +kernel
theorem dX14_string_12 : decode cX14_string 12 = .ok (.if_icmp .ge 191, 3) := by decide +kernel
theorem dX14_string_15 : decode cX14_string 15 = .ok (.aload_n 1, 1) := by decide +kernel
theorem dX14_string_16 : decode cX14_string 16 = .ok (.iload 4, 2) := by decide +kernel
theorem dX14_string_18 : decode cX14_string 18 = .ok (.iaload, 1) := by decide +kernel
theorem dX14_string_19 : decode cX14_string 19 = .ok (.istore 5, 2) := by decide +kernel
theorem dX14_string_21 : decode cX14_string 21 = .ok (.iload 5, 2) := by decide +kernel
theorem dX14_string_23 : decode cX14_string 23 = .ok (.ldc 179, 2) := by decide +kernel
theorem dX14_string_25 : decode cX14_string 25 = .ok (.ldc 180, 2) := by decide +kernel
theorem dX14_string_27 : decode cX14_string 27 = .ok (.invokestatic 181, 3) := by decide +kernel
theorem dX14_string_30 : decode cX14_string 30 = .ok (.ifCond .eq 31, 3) := by decide +kernel
theorem dX14_string_33 : decode cX14_string 33 = .ok (.iload 4, 2) := by decide +kernel
theorem dX14_string_35 : decode cX14_string 35 = .ok (.iconst 1, 1) := by decide +kernel
theorem dX14_string_36 : decode cX14_string 36 = .ok (.iadd, 1) := by decide +kernel
theorem dX14_string_37 : decode cX14_string 37 = .ok (.iload_n 3, 1) := by decide +kernel
theorem dX14_string_38 : decode cX14_string 38 = .ok (.if_icmp .ge 23, 3) := by decide +kernel
theorem dX14_string_41 : decode cX14_string 41 = .ok (.aload_n 1, 1) := by decide +kernel
theorem dX14_string_42 : decode cX14_string 42 = .ok (.iload 4, 2) := by decide +kernel
theorem dX14_string_44 : decode cX14_string 44 = .ok (.iconst 1, 1) := by decide +kernel
theorem dX14_string_45 : decode cX14_string 45 = .ok (.iadd, 1) := by decide +kernel
theorem dX14_string_46 : decode cX14_string 46 = .ok (.iaload, 1) := by decide +kernel
theorem dX14_string_47 : decode cX14_string 47 = .ok (.ldc 185, 2) := by decide +kernel
theorem dX14_string_49 : decode cX14_string 49 = .ok (.ldc 186, 2) := by decide +kernel
theorem dX14_string_51 : decode cX14_string 51 = .ok (.invokestatic 181, 3) := by decide +kernel
theorem dX14_string_54 : decode cX14_string 54 = .ok (.ifCond .eq 7, 3) := by decide +kernel
theorem dX14_string_57 : decode cX14_string 57 = .ok (.iconst 1, 1) := by decide +kernel
theorem dX14_string_58 : decode cX14_string 58 = .ok (.goto 4, 3) := by decide +kernel
theorem dX14_string_61 : decode cX14_string 61 = .ok (.iconst 0, 1) := by decide +kernel
theorem dX14_string_62 : decode cX14_string 62 = .ok (.istore 6, 2) := by decide +kernel
theorem dX14_string_64 : decode cX14_string 64 = .ok (.iload 5, 2) := by decide +kernel
theorem dX14_string_66 : decode cX14_string 66 = .ok (.bipush 34, 2) := by decide +kernel
theorem dX14_string_68 : decode cX14_string 68 = .ok (.if_icmp .eq 10, 3) := by decide +kernel
theorem dX14_string_71 : decode cX14_string 71 = .ok (.iload 5, 2) := by decide +kernel
theorem dX14_string_73 : decode cX14_string 73 = .ok (.bipush 92, 2) := by decide +kernel
theorem dX14_string_75 : decode cX14_string 75 = .ok (.if_icmp .ne 18, 3) := by decide +kernel
theorem dX14_string_78 : decode cX14_string 78 = .ok (.aload_n 0, 1) := by decide +kernel
theorem dX14_string_79 : decode cX14_string 79 = .ok (.bipush 92, 2) := by decide +kernel
theorem dX14_string_81 : decode cX14_string 81 = .ok (.invokevirtual 172, 3) := by decide +kernel
theorem dX14_string_84 : decode cX14_string 84 = .ok (.aload_n 0, 1) := by decide +kernel
theorem dX14_string_85 : decode cX14_string 85 = .ok (.iload 5, 2) := by decide +kernel
theorem dX14_string_87 : decode cX14_string 87 = .ok (.invokevirtual 172, 3) := by decide +kernel
theorem dX14_string_90 : decode cX14_string 90 = .ok (.goto 107, 3) := by decide +kernel
theorem dX14_string_93 : decode cX14_string 93 = .ok (.iload 5, 2) := by decide +kernel
theorem dX14_string_95 : decode cX14_string 95 = .ok (.bipush 32, 2) := by decide +kernel
theorem dX14_string_97 : decode cX14_string 97 = .ok (.if_icmp .ge 41, 3) := by decide +kernel
theorem dX14_string_100 : decode cX14_string 100 = .ok (.aload_n 0, 1) := by decide +kernel
theorem dX14_string_101 : decode cX14_string 101 = .ok (.bipush 92, 2) := by decide +kernel
theorem dX14_string_103 : decode cX14_string 103 = .ok (.invokevirtual 172, 3) := by decide +kernel
theorem dX14_string_106 : decode cX14_string 106 = .ok (.aload_n 0, 1) := by decide +kernel
theorem dX14_string_107 : decode cX14_string 107 = .ok (.ldc 187, 2) := by decide +kernel
theorem dX14_string_109 : decode cX14_string 109 = .ok (.invokevirtual 189, 3) := by decide +kernel
theorem dX14_string_112 : decode cX14_string 112 = .ok (.aload_n 0, 1) := by decide +kernel
theorem dX14_string_113 : decode cX14_string 113 = .ok (.iload 5, 2) := by decide +kernel
theorem dX14_string_115 : decode cX14_string 115 = .ok (.iconst 4, 1) := by decide +kernel
theorem dX14_string_116 : decode cX14_string 116 = .ok (.ishr, 1) := by decide +kernel
theorem dX14_string_117 : decode cX14_string 117 = .ok (.invokestatic 193, 3) := by decide +kernel
theorem dX14_string_120 : decode cX14_string 120 = .ok (.invokevirtual 172, 3) := by decide +kernel
theorem dX14_string_123 : decode cX14_string 123 = .ok (.aload_n 0, 1) := by decide +kernel
theorem dX14_string_124 : decode cX14_string 124 = .ok (.iload 5, 2) := by decide +kernel
theorem dX14_string_126 : decode cX14_string 126 = .ok (.bipush 15, 2) := by decide +kernel
theorem dX14_string_128 : decode cX14_string 128 = .ok (.iand, 1) := by decide +kernel
theorem dX14_string_129 : decode cX14_string 129 = .ok (.invokestatic 193, 3) := by decide +kernel
theorem dX14_string_132 : decode cX14_string 132 = .ok (.invokevirtual 172, 3) := by decide +kernel
theorem dX14_string_135 : decode cX14_string 135 = .ok (.goto 62, 3) := by decide +kernel
theorem dX14_string_138 : decode cX14_string 138 = .ok (.iload 6, 2) := by decide +kernel
theorem dX14_string_140 : decode cX14_string 140 = .ok (.ifCond .eq 34, 3) := by decide +kernel
theorem dX14_string_143 : decode cX14_string 143 = .ok (.aload_n 0, 1) := by decide +kernel
theorem dX14_string_144 : decode cX14_string 144 = .ok (.ldc 197, 2) := by decide +kernel
theorem dX14_string_146 : decode cX14_string 146 = .ok (.iload 5, 2) := by decide +kernel
theorem dX14_string_148 : decode cX14_string 148 = .ok (.ldc 179, 2) := by decide +kernel
theorem dX14_string_150 : decode cX14_string 150 = .ok (.isub, 1) := by decide +kernel
theorem dX14_string_151 : decode cX14_string 151 = .ok (.bipush 10, 2) := by decide +kernel
theorem dX14_string_153 : decode cX14_string 153 = .ok (.ishl, 1) := by decide +kernel
theorem dX14_string_154 : decode cX14_string 154 = .ok (.iadd, 1) := by decide +kernel
theorem dX14_string_155 : decode cX14_string 155 = .ok (.aload_n 1, 1) := by decide +kernel
theorem dX14_string_156 : decode cX14_string 156 = .ok (.iload 4, 2) := by decide +kernel
theorem dX14_string_158 : decode cX14_string 158 = .ok (.iconst 1, 1) := by decide +kernel
theorem dX14_string_159 : decode cX14_string 159 = .ok (.iadd, 1) := by decide +kernel
theorem dX14_string_160 : decode cX14_string 160 = .ok (.iaload, 1) := by decide +kernel
theorem dX14_string_161 : decode cX14_string 161 = .ok (.iadd, 1) := by decide +kernel
theorem dX14_string_162 : decode cX14_string 162 = .ok (.ldc 185, 2) := by decide +kernel
theorem dX14_string_164 : decode cX14_string 164 = .ok (.isub, 1) := by decide +kernel
theorem dX14_string_165 : decode cX14_string 165 = .ok (.invokevirtual 198, 3) := by decide +kernel
theorem dX14_string_168 : decode cX14_string 168 = .ok (.iinc 4 1, 3) := by decide +kernel
theorem dX14_string_171 : decode cX14_string 171 = .ok (.goto 26, 3) := by decide +kernel
theorem dX14_string_174 : decode cX14_string 174 = .ok (.aload_n 0, 1) := by decide +kernel
theorem dX14_string_175 : decode cX14_string 175 = .ok (.iload 5, 2) := by decide +kernel
theorem dX14_string_177 : decode cX14_string 177 = .ok (.ldc 179, 2) := by decide +kernel
theorem dX14_string_179 : decode cX14_string 179 = .ok (.ldc 186, 2) := by decide +kernel
theorem dX14_string_181 : decode cX14_string 181 = .ok (.invokestatic 181, 3) := by decide +kernel
theorem dX14_string_184 : decode cX14_string 184 = .ok (.ifCond .eq 8, 3) := by decide +kernel
theorem dX14_string_187 : decode cX14_string 187 = .ok (.ldc 201, 2) := by decide +kernel
theorem dX14_string_189 : decode cX14_string 189 = .ok (.goto 5, 3) := by decide +kernel
theorem dX14_string_192 : decode cX14_string 192 = .ok (.iload 5, 2) := by decide +kernel
theorem dX14_string_194 : decode cX14_string 194 = .ok (.invokevirtual 198, 3) := by decide +kernel
theorem dX14_string_197 : decode cX14_string 197 = .ok (.iinc 4 1, 3) := by decide +kernel
theorem dX14_string_200 : decode cX14_string 200 = .ok (.goto (-191), 3) := by decide +kernel
theorem dX14_string_203 : decode cX14_string 203 = .ok (.aload_n 0, 1) := by decide +kernel
theorem dX14_string_204 : decode cX14_string 204 = .ok (.bipush 34, 2) := by decide +kernel
theorem dX14_string_206 : decode cX14_string 206 = .ok (.invokevirtual 172, 3) := by decide +kernel
theorem dX14_string_209 : decode cX14_string 209 = .ok (.return_, 1) := by decide +kernel
set_option maxRecDepth 20000 in
theorem ggX14_send_X14_word_c0 : GoodIn wsX14_send ((wsX14_word.drop 0).take 60) := goodIn_r _ [11, 12, 13, 14, 15, 16, 17, 18, 19, 20, 21, 22, 23, 24, 25, 26, 27, 28, 29, 30, 31, 32, 33, 34, 35, 36, 37, 38, 39, 40, 41, 42, 43, 44, 45, 46, 47, 48, 49, 50, 51, 52, 53, 54, 55, 56, 57, 58, 59, 60, 61, 62, 63, 10, 64, 2, 65, 6, 74, 75] (by decide +kernel) (by decide +kernel)
set_option maxRecDepth 20000 in
theorem ggX14_send_X14_word_c60 : GoodIn wsX14_send ((wsX14_word.drop 60).take 60) := goodIn_r _ [76, 77, 78, 79, 80, 81, 82, 83, 84, 85, 86, 87, 88, 89, 90, 91, 92, 93, 94, 95, 96, 97, 98, 99, 100, 101, 102, 103, 104, 105, 106, 107, 108, 109, 110, 111, 112, 113, 114, 115, 116, 117, 118, 119, 120, 121, 122, 123, 124, 125, 126, 127, 128, 129, 130, 131, 132, 133, 134, 135] (by decide +kernel) (by decide +kernel)
set_option maxRecDepth 20000 in
theorem ggX14_send_X14_word_c120 : GoodIn wsX14_send (wsX14_word.drop 120) := goodIn_r _ [136, 137, 138, 139, 140, 141, 142, 143, 144, 145, 146, 147] (by decide +kernel) (by decide +kernel)
set_option maxRecDepth 20000 in
theorem ggX14_send_X14_word : GoodIn wsX14_send wsX14_word := (j_chunk 0 60 ggX14_send_X14_word_c0 (j_chunk 60 60 ggX14_send_X14_word_c60 ggX14_send_X14_word_c120))
set_option maxRecDepth 20000 in
theorem gX14_send_X14_word : GoodIn wsX14_send (wsV RX14 189 RX14 yX14_word wsX14_word) := goodIn_app (goodIn_of _ (by decide +kernel)) ggX14_send_X14_word
set_option maxRecDepth 20000 in
theorem ggX14_send_X14_number : GoodIn wsX14_send wsX14_number := goodIn_r _ [69, 61, 62, 63, 10, 64, 2, 65, 6, 70, 71, 72, 73, 74, 75, 76, 77, 78, 79, 80, 81, 82, 83, 84, 85, 86, 87, 88, 89, 90, 91, 92, 93, 94, 95, 96, 97, 98, 99, 100, 101, 102, 103, 104, 105, 106, 107, 108, 109, 110, 111, 112, 113, 114, 115, 116, 117, 118, 119, 120, 121, 122, 123, 124, 125, 126, 127, 128, 129, 130, 131, 132, 133, 134, 135, 136, 137, 138, 139, 140, 141, 142, 143, 144, 145, 146, 147] (by decide +kernel) (by decide +kernel)
set_option maxRecDepth 20000 in
theorem gX14_send_X14_number : GoodIn wsX14_send (wsV RX14 208 RX14 yX14_number wsX14_number) := goodIn_app (goodIn_of _ (by decide +kernel)) ggX14_send_X14_number
set_option maxRecDepth 20000 in
theorem ggX14_send_X14_put : GoodIn wsX14_send wsX14_put := goodIn_r _ [64, 2, 65, 6, 74, 75, 76, 77, 78, 79, 80, 81, 82, 83, 84, 85, 86, 87, 88, 89, 90, 91, 92, 93, 94, 95, 96, 97, 98, 99, 100, 101, 102, 103, 104, 105, 106, 107, 108, 109, 110, 111, 112, 113, 114, 115, 116, 117, 118, 119, 120, 121, 122, 123, 124, 125, 126, 127, 128, 129, 130, 131, 132, 133, 134, 135, 136, 137, 138, 139, 140, 141, 142, 143, 144, 145, 146, 147] (by decide +kernel) (by decide +kernel)
set_option maxRecDepth 20000 in
theorem gX14_send_X14_put : GoodIn wsX14_send (wsV RX14 172 RX14 yX14_put wsX14_put) := goodIn_app (goodIn_of _ (by decide +kernel)) ggX14_send_X14_put
theorem dX14_send_0 : decode cX14_send 0 = .ok (.aload_n 0, 1) := by decide +kernel
theorem dX14_send_1 : decode cX14_send 1 = .ok (.getfield 202, 3) := by decide +kernel
theorem dX14_send_4 : decode cX14_send 4 = .ok (.ifCond .eq 4, 3) := by decide +kernel
theorem dX14_send_7 : decode cX14_send 7 = .ok (.return_, 1) := by decide +kernel
theorem dX14_send_8 : decode cX14_send 8 = .ok (.aload_n 0, 1) := by decide +kernel
theorem dX14_send_9 : decode cX14_send 9 = .ok (.getfield 160, 3) := by decide +kernel
theorem dX14_send_12 : decode cX14_send 12 = .ok (.istore_n 1, 1) := by decide +kernel
theorem dX14_send_13 : decode cX14_send 13 = .ok (.aload_n 0, 1) := by decide +kernel
theorem dX14_send_14 : decode cX14_send 14 = .ok (.ldc 206, 2) := by decide +kernel
theorem dX14_send_16 : decode cX14_send 16 = .ok (.invokevirtual 189, 3) := by decide +kernel
theorem dX14_send_19 : decode cX14_send 19 = .ok (.aload_n 0, 1) := by decide +kernel
theorem dX14_send_20 : decode cX14_send 20 = .ok (.iload_n 1, 1) := by decide +kernel
theorem dX14_send_21 : decode cX14_send 21 = .ok (.invokevirtual 208, 3) := by decide +kernel
theorem dX14_send_24 : decode cX14_send 24 = .ok (.aload_n 0, 1) := by decide +kernel
theorem dX14_send_25 : decode cX14_send 25 = .ok (.bipush 13, 2) := by decide +kernel
theorem dX14_send_27 : decode cX14_send 27 = .ok (.invokevirtual 172, 3) := by decide +kernel
theorem dX14_send_30 : decode cX14_send 30 = .ok (.aload_n 0, 1) := by decide +kernel
theorem dX14_send_31 : decode cX14_send 31 = .ok (.bipush 10, 2) := by decide +kernel
theorem dX14_send_33 : decode cX14_send 33 = .ok (.invokevirtual 172, 3) := by decide +kernel
theorem dX14_send_36 : decode cX14_send 36 = .ok (.aload_n 0, 1) := by decide +kernel
theorem dX14_send_37 : decode cX14_send 37 = .ok (.bipush 13, 2) := by decide +kernel
theorem dX14_send_39 : decode cX14_send 39 = .ok (.invokevirtual 172, 3) := by decide +kernel
theorem dX14_send_42 : decode cX14_send 42 = .ok (.aload_n 0, 1) := by decide +kernel
theorem dX14_send_43 : decode cX14_send 43 = .ok (.bipush 10, 2) := by decide +kernel
theorem dX14_send_45 : decode cX14_send 45 = .ok (.invokevirtual 172, 3) := by decide +kernel
theorem dX14_send_48 : decode cX14_send 48 = .ok (.aload_n 0, 1) := by decide +kernel
theorem dX14_send_49 : decode cX14_send 49 = .ok (.getfield 160, 3) := by decide +kernel
theorem dX14_send_52 : decode cX14_send 52 = .ok (.istore_n 2, 1) := by decide +kernel
theorem dX14_send_53 : decode cX14_send 53 = .ok (.aload_n 0, 1) := by decide +kernel
theorem dX14_send_54 : decode cX14_send 54 = .ok (.iload_n 1, 1) := by decide +kernel
theorem dX14_send_55 : decode cX14_send 55 = .ok (.putfield 160, 3) := by decide +kernel
theorem dX14_send_58 : decode cX14_send 58 = .ok (.iload_n 1, 1) := by decide +kernel
theorem dX14_send_59 : decode cX14_send 59 = .ok (.sipush 20000, 3) := by decide +kernel
theorem dX14_send_62 : decode cX14_send 62 = .ok (.if_icmp .gt 15, 3) := by decide +kernel
theorem dX14_send_65 : decode cX14_send 65 = .ok (.aload_n 0, 1) := by decide +kernel
theorem dX14_send_66 : decode cX14_send 66 = .ok (.getfield 211, 3) := by decide +kernel
theorem dX14_send_69 : decode cX14_send 69 = .ok (.iload_n 2, 1) := by decide +kernel
theorem dX14_send_70 : decode cX14_send 70 = .ok (.iadd, 1) := by decide +kernel
theorem dX14_send_71 : decode cX14_send 71 = .ok (.sipush 20000, 3) := by decide +kernel
theorem dX14_send_74 : decode cX14_send 74 = .ok (.if_icmp .le 14, 3) := by decide +kernel
theorem dX14_send_77 : decode cX14_send 77 = .ok (.aload_n 0, 1) := by decide +kernel
theorem dX14_send_78 : decode cX14_send 78 = .ok (.dup, 1) := by decide +kernel
theorem dX14_send_79 : decode cX14_send 79 = .ok (.getfield 214, 3) := by decide +kernel
theorem dX14_send_82 : decode cX14_send 82 = .ok (.iconst 1, 1) := by decide +kernel
theorem dX14_send_83 : decode cX14_send 83 = .ok (.iadd, 1) := by decide +kernel
theorem dX14_send_84 : decode cX14_send 84 = .ok (.putfield 214, 3) := by decide +kernel
theorem dX14_send_87 : decode cX14_send 87 = .ok (.return_, 1) := by decide +kernel
theorem dX14_send_88 : decode cX14_send 88 = .ok (.iload_n 1, 1) := by decide +kernel
theorem dX14_send_89 : decode cX14_send 89 = .ok (.istore_n 3, 1) := by decide +kernel
theorem dX14_send_90 : decode cX14_send 90 = .ok (.iload_n 3, 1) := by decide +kernel
theorem dX14_send_91 : decode cX14_send 91 = .ok (.iload_n 2, 1) := by decide +kernel
theorem dX14_send_92 : decode cX14_send 92 = .ok (.if_icmp .ge 28, 3) := by decide +kernel
theorem dX14_send_95 : decode cX14_send 95 = .ok (.aload_n 0, 1) := by decide +kernel
theorem dX14_send_96 : decode cX14_send 96 = .ok (.getfield 13, 3) := by decide +kernel
theorem dX14_send_99 : decode cX14_send 99 = .ok (.aload_n 0, 1) := by decide +kernel
theorem dX14_send_100 : decode cX14_send 100 = .ok (.getfield 211, 3) := by decide +kernel
theorem dX14_send_103 : decode cX14_send 103 = .ok (.iload_n 3, 1) := by decide +kernel
theorem dX14_send_104 : decode cX14_send 104 = .ok (.iadd, 1) := by decide +kernel
theorem dX14_send_105 : decode cX14_send 105 = .ok (.iload_n 1, 1) := by decide +kernel
theorem dX14_send_106 : decode cX14_send 106 = .ok (.isub, 1) := by decide +kernel
theorem dX14_send_107 : decode cX14_send 107 = .ok (.aload_n 0, 1) := by decide +kernel
theorem dX14_send_108 : decode cX14_send 108 = .ok (.getfield 17, 3) := by decide +kernel
theorem dX14_send_111 : decode cX14_send 111 = .ok (.iload_n 3, 1) := by decide +kernel
theorem dX14_send_112 : decode cX14_send 112 = .ok (.iaload, 1) := by decide +kernel
theorem dX14_send_113 : decode cX14_send 113 = .ok (.iastore, 1) := by decide +kernel
theorem dX14_send_114 : decode cX14_send 114 = .ok (.iinc 3 1, 3) := by decide +kernel
theorem dX14_send_117 : decode cX14_send 117 = .ok (.goto (-27), 3) := by decide +kernel
theorem dX14_send_120 : decode cX14_send 120 = .ok (.aload_n 0, 1) := by decide +kernel
theorem dX14_send_121 : decode cX14_send 121 = .ok (.dup, 1) := by decide +kernel
theorem dX14_send_122 : decode cX14_send 122 = .ok (.getfield 211, 3) := by decide +kernel
theorem dX14_send_125 : decode cX14_send 125 = .ok (.iload_n 2, 1) := by decide +kernel
theorem dX14_send_126 : decode cX14_send 126 = .ok (.iload_n 1, 1) := by decide +kernel
theorem dX14_send_127 : decode cX14_send 127 = .ok (.isub, 1) := by decide +kernel
theorem dX14_send_128 : decode cX14_send 128 = .ok (.iadd, 1) := by decide +kernel
theorem dX14_send_129 : decode cX14_send 129 = .ok (.putfield 211, 3) := by decide +kernel
theorem dX14_send_132 : decode cX14_send 132 = .ok (.iconst 0, 1) := by decide +kernel
theorem dX14_send_133 : decode cX14_send 133 = .ok (.istore_n 3, 1) := by decide +kernel
theorem dX14_send_134 : decode cX14_send 134 = .ok (.iload_n 3, 1) := by decide +kernel
theorem dX14_send_135 : decode cX14_send 135 = .ok (.iload_n 1, 1) := by decide +kernel
theorem dX14_send_136 : decode cX14_send 136 = .ok (.if_icmp .ge 26, 3) := by decide +kernel
theorem dX14_send_139 : decode cX14_send 139 = .ok (.aload_n 0, 1) := by decide +kernel
theorem dX14_send_140 : decode cX14_send 140 = .ok (.getfield 13, 3) := by decide +kernel
theorem dX14_send_143 : decode cX14_send 143 = .ok (.aload_n 0, 1) := by decide +kernel
theorem dX14_send_144 : decode cX14_send 144 = .ok (.getfield 211, 3) := by decide +kernel
theorem dX14_send_147 : decode cX14_send 147 = .ok (.iload_n 3, 1) := by decide +kernel
theorem dX14_send_148 : decode cX14_send 148 = .ok (.iadd, 1) := by decide +kernel
theorem dX14_send_149 : decode cX14_send 149 = .ok (.aload_n 0, 1) := by decide +kernel
theorem dX14_send_150 : decode cX14_send 150 = .ok (.getfield 17, 3) := by decide +kernel
theorem dX14_send_153 : decode cX14_send 153 = .ok (.iload_n 3, 1) := by decide +kernel
theorem dX14_send_154 : decode cX14_send 154 = .ok (.iaload, 1) := by decide +kernel
theorem dX14_send_155 : decode cX14_send 155 = .ok (.iastore, 1) := by decide +kernel
theorem dX14_send_156 : decode cX14_send 156 = .ok (.iinc 3 1, 3) := by decide +kernel
theorem dX14_send_159 : decode cX14_send 159 = .ok (.goto (-25), 3) := by decide +kernel
theorem dX14_send_162 : decode cX14_send 162 = .ok (.aload_n 0, 1) := by decide +kernel
theorem dX14_send_163 : decode cX14_send 163 = .ok (.dup, 1) := by decide +kernel
theorem dX14_send_164 : decode cX14_send 164 = .ok (.getfield 211, 3) := by decide +kernel
theorem dX14_send_167 : decode cX14_send 167 = .ok (.iload_n 1, 1) := by decide +kernel
theorem dX14_send_168 : decode cX14_send 168 = .ok (.iadd, 1) := by decide +kernel
theorem dX14_send_169 : decode cX14_send 169 = .ok (.putfield 211, 3) := by decide +kernel
theorem dX14_send_172 : decode cX14_send 172 = .ok (.return_, 1) := by decide +kernel
theorem dX14_feed_0 : decode cX14_feed 0 = .ok (.aload_n 0, 1) := by decide +kernel
theorem dX14_feed_1 : decode cX14_feed 1 = .ok (.getfield 217, 3) := by decide +kernel
theorem dX14_feed_4 : decode cX14_feed 4 = .ok (.bipush 20, 2) := by decide +kernel
theorem dX14_feed_6 : decode cX14_feed 6 = .ok (.iadd, 1) := by decide +kernel
theorem dX14_feed_7 : decode cX14_feed 7 = .ok (.sipush 4000, 3) := by decide +kernel
theorem dX14_feed_10 : decode cX14_feed 10 = .ok (.if_icmp .le 5, 3) := by decide +kernel
theorem dX14_feed_13 : decode cX14_feed 13 = .ok (.iconst (-1), 1) := by decide +kernel
theorem dX14_feed_14 : decode cX14_feed 14 = .ok (.ireturn, 1) := by decide +kernel
theorem dX14_feed_15 : decode cX14_feed 15 = .ok (.iconst 0, 1) := by decide +kernel
theorem dX14_feed_16 : decode cX14_feed 16 = .ok (.istore 6, 2) := by decide +kernel
theorem dX14_feed_18 : decode cX14_feed 18 = .ok (.iload 6, 2) := by decide +kernel
theorem dX14_feed_20 : decode cX14_feed 20 = .ok (.bipush 20, 2) := by decide +kernel
theorem dX14_feed_22 : decode cX14_feed 22 = .ok (.if_icmp .ge 86, 3) := by decide +kernel
theorem dX14_feed_25 : decode cX14_feed 25 = .ok (.iload 6, 2) := by decide +kernel
theorem dX14_feed_27 : decode cX14_feed 27 = .ok (.iconst 4, 1) := by decide +kernel
theorem dX14_feed_28 : decode cX14_feed 28 = .ok (.if_icmp .ge 7, 3) := by decide +kernel
theorem dX14_feed_31 : decode cX14_feed 31 = .ok (.iload_n 1, 1) := by decide +kernel
theorem dX14_feed_32 : decode cX14_feed 32 = .ok (.goto 39, 3) := by decide +kernel
theorem dX14_feed_35 : decode cX14_feed 35 = .ok (.iload 6, 2) := by decide +kernel
theorem dX14_feed_37 : decode cX14_feed 37 = .ok (.bipush 8, 2) := by decide +kernel
theorem dX14_feed_39 : decode cX14_feed 39 = .ok (.if_icmp .ge 7, 3) := by decide +kernel
theorem dX14_feed_42 : decode cX14_feed 42 = .ok (.iload_n 2, 1) := by decide +kernel
theorem dX14_feed_43 : decode cX14_feed 43 = .ok (.goto 28, 3) := by decide +kernel
theorem dX14_feed_46 : decode cX14_feed 46 = .ok (.iload 6, 2) := by decide +kernel
theorem dX14_feed_48 : decode cX14_feed 48 = .ok (.bipush 12, 2) := by decide +kernel
theorem dX14_feed_50 : decode cX14_feed 50 = .ok (.if_icmp .ge 7, 3) := by decide +kernel
theorem dX14_feed_53 : decode cX14_feed 53 = .ok (.iload_n 3, 1) := by decide +kernel
theorem dX14_feed_54 : decode cX14_feed 54 = .ok (.goto 17, 3) := by decide +kernel
theorem dX14_feed_57 : decode cX14_feed 57 = .ok (.iload 6, 2) := by decide +kernel
theorem dX14_feed_59 : decode cX14_feed 59 = .ok (.bipush 16, 2) := by decide +kernel
theorem dX14_feed_61 : decode cX14_feed 61 = .ok (.if_icmp .ge 8, 3) := by decide +kernel
theorem dX14_feed_64 : decode cX14_feed 64 = .ok (.iload 4, 2) := by decide +kernel
theorem dX14_feed_66 : decode cX14_feed 66 = .ok (.goto 5, 3) := by decide +kernel
theorem dX14_feed_69 : decode cX14_feed 69 = .ok (.iload 5, 2) := by decide +kernel
theorem dX14_feed_71 : decode cX14_feed 71 = .ok (.istore 7, 2) := by decide +kernel
theorem dX14_feed_73 : decode cX14_feed 73 = .ok (.aload_n 0, 1) := by decide +kernel
theorem dX14_feed_74 : decode cX14_feed 74 = .ok (.getfield 9, 3) := by decide +kernel
theorem dX14_feed_77 : decode cX14_feed 77 = .ok (.aload_n 0, 1) := by decide +kernel
theorem dX14_feed_78 : decode cX14_feed 78 = .ok (.getfield 217, 3) := by decide +kernel
theorem dX14_feed_81 : decode cX14_feed 81 = .ok (.iload 6, 2) := by decide +kernel
theorem dX14_feed_83 : decode cX14_feed 83 = .ok (.iadd, 1) := by decide +kernel
theorem dX14_feed_84 : decode cX14_feed 84 = .ok (.iload 7, 2) := by decide +kernel
theorem dX14_feed_86 : decode cX14_feed 86 = .ok (.bipush 24, 2) := by decide +kernel
theorem dX14_feed_88 : decode cX14_feed 88 = .ok (.bipush 8, 2) := by decide +kernel
theorem dX14_feed_90 : decode cX14_feed 90 = .ok (.iload 6, 2) := by decide +kernel
theorem dX14_feed_92 : decode cX14_feed 92 = .ok (.iconst 4, 1) := by decide +kernel
theorem dX14_feed_93 : decode cX14_feed 93 = .ok (.irem, 1) := by decide +kernel
theorem dX14_feed_94 : decode cX14_feed 94 = .ok (.imul, 1) := by decide +kernel
theorem dX14_feed_95 : decode cX14_feed 95 = .ok (.isub, 1) := by decide +kernel
theorem dX14_feed_96 : decode cX14_feed 96 = .ok (.ishr, 1) := by decide +kernel
theorem dX14_feed_97 : decode cX14_feed 97 = .ok (.sipush 255, 3) := by decide +kernel
theorem dX14_feed_100 : decode cX14_feed 100 = .ok (.iand, 1) := by decide +kernel
theorem dX14_feed_101 : decode cX14_feed 101 = .ok (.iastore, 1) := by decide +kernel
theorem dX14_feed_102 : decode cX14_feed 102 = .ok (.iinc 6 1, 3) := by decide +kernel
theorem dX14_feed_105 : decode cX14_feed 105 = .ok (.goto (-87), 3) := by decide +kernel
theorem dX14_feed_108 : decode cX14_feed 108 = .ok (.aload_n 0, 1) := by decide +kernel
theorem dX14_feed_109 : decode cX14_feed 109 = .ok (.dup, 1) := by decide +kernel
theorem dX14_feed_110 : decode cX14_feed 110 = .ok (.getfield 217, 3) := by decide +kernel
theorem dX14_feed_113 : decode cX14_feed 113 = .ok (.bipush 20, 2) := by decide +kernel
theorem dX14_feed_115 : decode cX14_feed 115 = .ok (.iadd, 1) := by decide +kernel
theorem dX14_feed_116 : decode cX14_feed 116 = .ok (.putfield 217, 3) := by decide +kernel
theorem dX14_feed_119 : decode cX14_feed 119 = .ok (.aload_n 0, 1) := by decide +kernel
theorem dX14_feed_120 : decode cX14_feed 120 = .ok (.getfield 217, 3) := by decide +kernel
theorem dX14_feed_123 : decode cX14_feed 123 = .ok (.ireturn, 1) := by decide +kernel
theorem dX14_out_0 : decode cX14_out 0 = .ok (.iload_n 1, 1) := by decide +kernel
theorem dX14_out_1 : decode cX14_out 1 = .ok (.ifCond .lt 20, 3) := by decide +kernel
theorem dX14_out_4 : decode cX14_out 4 = .ok (.iload_n 1, 1) := by decide +kernel
theorem dX14_out_5 : decode cX14_out 5 = .ok (.aload_n 0, 1) := by decide +kernel
theorem dX14_out_6 : decode cX14_out 6 = .ok (.getfield 211, 3) := by decide +kernel
theorem dX14_out_9 : decode cX14_out 9 = .ok (.if_icmp .ge 12, 3) := by decide +kernel
theorem dX14_out_12 : decode cX14_out 12 = .ok (.aload_n 0, 1) := by decide +kernel
theorem dX14_out_13 : decode cX14_out 13 = .ok (.getfield 13, 3) := by decide +kernel
theorem dX14_out_16 : decode cX14_out 16 = .ok (.iload_n 1, 1) := by decide +kernel
theorem dX14_out_17 : decode cX14_out 17 = .ok (.iaload, 1) := by decide +kernel
theorem dX14_out_18 : decode cX14_out 18 = .ok (.goto 4, 3) := by decide +kernel
theorem dX14_out_21 : decode cX14_out 21 = .ok (.iconst (-1), 1) := by decide +kernel
theorem dX14_out_22 : decode cX14_out 22 = .ok (.ireturn, 1) := by decide +kernel
theorem dX14_take_0 : decode cX14_take 0 = .ok (.aload_n 0, 1) := by decide +kernel
theorem dX14_take_1 : decode cX14_take 1 = .ok (.getfield 211, 3) := by decide +kernel
theorem dX14_take_4 : decode cX14_take 4 = .ok (.istore_n 1, 1) := by decide +kernel
theorem dX14_take_5 : decode cX14_take 5 = .ok (.aload_n 0, 1) := by decide +kernel
theorem dX14_take_6 : decode cX14_take 6 = .ok (.iconst 0, 1) := by decide +kernel
theorem dX14_take_7 : decode cX14_take 7 = .ok (.putfield 211, 3) := by decide +kernel
theorem dX14_take_10 : decode cX14_take 10 = .ok (.iload_n 1, 1) := by decide +kernel
theorem dX14_take_11 : decode cX14_take 11 = .ok (.ireturn, 1) := by decide +kernel
set_option maxRecDepth 20000 in
theorem ggX14_isText_J0_length_8abf5 : GoodIn wsX14_isText wsJ0_length_8abf5 := goodIn_r _ [6, 7, 8, 9, 10, 5, 11, 12, 13] (by decide +kernel) (by decide +kernel)
set_option maxRecDepth 20000 in
theorem gX14_isText_J0_length_8abf5 : GoodIn wsX14_isText (wsV RX14 163 RJ0 yJ0_length_8abf5 wsJ0_length_8abf5) := goodIn_app (goodIn_of _ (by decide +kernel)) ggX14_isText_J0_length_8abf5
set_option maxRecDepth 20000 in
theorem ggX14_isText_J0_charAt_5068e : GoodIn wsX14_isText wsJ0_charAt_5068e := goodIn_r _ [17, 7, 18, 19, 20, 5, 21, 12, 13, 22, 23, 24, 25, 26, 27, 28, 29, 30, 31, 32, 33, 34, 35, 36, 37, 38, 39, 40, 41, 42, 43, 44, 45, 46, 47, 48, 49, 50] (by decide +kernel) (by decide +kernel)
set_option maxRecDepth 20000 in
theorem gX14_isText_J0_charAt_5068e : GoodIn wsX14_isText (wsV RX14 168 RJ0 yJ0_charAt_5068e wsJ0_charAt_5068e) := goodIn_app (goodIn_of _ (by decide +kernel)) ggX14_isText_J0_charAt_5068e
theorem dX14_isText_0 : decode cX14_isText 0 = .ok (.iload_n 2, 1) := by decide +kernel
theorem dX14_isText_1 : decode cX14_isText 1 = .ok (.iload_n 1, 1) := by decide +kernel
theorem dX14_isText_2 : decode cX14_isText 2 = .ok (.isub, 1) := by decide +kernel
theorem dX14_isText_3 : decode cX14_isText 3 = .ok (.aload_n 3, 1) := by decide +kernel
theorem dX14_isText_4 : decode cX14_isText 4 = .ok (.invokevirtual 163, 3) := by decide +kernel
theorem dX14_isText_7 : decode cX14_isText 7 = .ok (.if_icmp .eq 5, 3) := by decide +kernel
theorem dX14_isText_10 : decode cX14_isText 10 = .ok (.iconst 0, 1) := by decide +kernel
theorem dX14_isText_11 : decode cX14_isText 11 = .ok (.ireturn, 1) := by decide +kernel
theorem dX14_isText_12 : decode cX14_isText 12 = .ok (.iconst 0, 1) := by decide +kernel
theorem dX14_isText_13 : decode cX14_isText 13 = .ok (.istore 4, 2) := by decide +kernel
theorem dX14_isText_15 : decode cX14_isText 15 = .ok (.iload 4, 2) := by decide +kernel
theorem dX14_isText_17 : decode cX14_isText 17 = .ok (.aload_n 3, 1) := by decide +kernel
theorem dX14_isText_18 : decode cX14_isText 18 = .ok (.invokevirtual 163, 3) := by decide +kernel
theorem dX14_isText_21 : decode cX14_isText 21 = .ok (.if_icmp .ge 29, 3) := by decide +kernel
theorem dX14_isText_24 : decode cX14_isText 24 = .ok (.aload_n 0, 1) := by decide +kernel
theorem dX14_isText_25 : decode cX14_isText 25 = .ok (.getfield 65, 3) := by decide +kernel
theorem dX14_isText_28 : decode cX14_isText 28 = .ok (.iload_n 1, 1) := by decide +kernel
theorem dX14_isText_29 : decode cX14_isText 29 = .ok (.iload 4, 2) := by decide +kernel
theorem dX14_isText_31 : decode cX14_isText 31 = .ok (.iadd, 1) := by decide +kernel
theorem dX14_isText_32 : decode cX14_isText 32 = .ok (.iaload, 1) := by decide +kernel
theorem dX14_isText_33 : decode cX14_isText 33 = .ok (.aload_n 3, 1) := by decide +kernel
theorem dX14_isText_34 : decode cX14_isText 34 = .ok (.iload 4, 2) := by decide +kernel
theorem dX14_isText_36 : decode cX14_isText 36 = .ok (.invokevirtual 168, 3) := by decide +kernel
theorem dX14_isText_39 : decode cX14_isText 39 = .ok (.if_icmp .eq 5, 3) := by decide +kernel
theorem dX14_isText_42 : decode cX14_isText 42 = .ok (.iconst 0, 1) := by decide +kernel
theorem dX14_isText_43 : decode cX14_isText 43 = .ok (.ireturn, 1) := by decide +kernel
theorem dX14_isText_44 : decode cX14_isText 44 = .ok (.iinc 4 1, 3) := by decide +kernel
theorem dX14_isText_47 : decode cX14_isText 47 = .ok (.goto (-32), 3) := by decide +kernel
theorem dX14_isText_50 : decode cX14_isText 50 = .ok (.iconst 1, 1) := by decide +kernel
theorem dX14_isText_51 : decode cX14_isText 51 = .ok (.ireturn, 1) := by decide +kernel
set_option maxRecDepth 20000 in
theorem ggX14_member_X14_isText_c0 : GoodIn wsX14_member ((wsX14_isText.drop 0).take 60) := goodIn_r _ [10, 11, 12, 13, 14, 15, 16, 17, 18, 19, 20, 21, 22, 23, 24, 25, 26, 27, 28, 29, 30, 31, 32, 33, 34, 35, 36, 37, 38, 39, 40, 41, 42, 43, 44, 45, 46, 47, 48, 49, 50, 51, 52, 53, 54, 55, 56, 57, 58, 59, 60, 61, 62, 63, 64, 65, 66, 67, 68, 69] (by decide +kernel) (by decide +kernel)
set_option maxRecDepth 20000 in
theorem ggX14_member_X14_isText_c60 : GoodIn wsX14_member ((wsX14_isText.drop 60).take 60) := goodIn_r _ [70, 71, 72, 73, 74, 75, 76, 77, 78, 79, 80, 81, 82, 83, 84, 85, 86, 87, 88, 89, 90, 91, 92, 93, 94, 95, 96, 97, 98, 99, 100, 101, 102, 103, 104, 105, 106, 107, 108, 109, 110, 111, 112, 113, 114, 115, 116, 117, 118, 119, 120, 121, 122, 123, 124, 125, 126, 127, 128, 129] (by decide +kernel) (by decide +kernel)
set_option maxRecDepth 20000 in
theorem ggX14_member_X14_isText_c120 : GoodIn wsX14_member (wsX14_isText.drop 120) := goodIn_r _ [130, 131, 132, 133, 134] (by decide +kernel) (by decide +kernel)
set_option maxRecDepth 20000 in
theorem ggX14_member_X14_isText : GoodIn wsX14_member wsX14_isText := (j_chunk 0 60 ggX14_member_X14_isText_c0 (j_chunk 60 60 ggX14_member_X14_isText_c60 ggX14_member_X14_isText_c120))
set_option maxRecDepth 20000 in
theorem gX14_member_X14_isText : GoodIn wsX14_member (wsV RX14 364 RX14 yX14_isText wsX14_isText) := goodIn_app (goodIn_of _ (by decide +kernel)) ggX14_member_X14_isText
theorem dX14_member_0 : decode cX14_member 0 = .ok (.iconst (-1), 1) := by decide +kernel
theorem dX14_member_1 : decode cX14_member 1 = .ok (.istore_n 3, 1) := by decide +kernel
theorem dX14_member_2 : decode cX14_member 2 = .ok (.iload_n 1, 1) := by decide +kernel
theorem dX14_member_3 : decode cX14_member 3 = .ok (.ifCond .lt 14, 3) := by decide +kernel
theorem dX14_member_6 : decode cX14_member 6 = .ok (.aload_n 0, 1) := by decide +kernel
theorem dX14_member_7 : decode cX14_member 7 = .ok (.getfield 37, 3) := by decide +kernel
theorem dX14_member_10 : decode cX14_member 10 = .ok (.iload_n 1, 1) := by decide +kernel
theorem dX14_member_11 : decode cX14_member 11 = .ok (.iaload, 1) := by decide +kernel
theorem dX14_member_12 : decode cX14_member 12 = .ok (.bipush 6, 2) := by decide +kernel
theorem dX14_member_14 : decode cX14_member 14 = .ok (.if_icmp .eq 5, 3) := by decide +kernel
theorem dX14_member_17 : decode cX14_member 17 = .ok (.iconst (-1), 1) := by decide +kernel
theorem dX14_member_18 : decode cX14_member 18 = .ok (.ireturn, 1) := by decide +kernel
theorem dX14_member_19 : decode cX14_member 19 = .ok (.aload_n 0, 1) := by decide +kernel
theorem dX14_member_20 : decode cX14_member 20 = .ok (.getfield 40, 3) := by decide +kernel
theorem dX14_member_23 : decode cX14_member 23 = .ok (.iload_n 1, 1) := by decide +kernel
theorem dX14_member_24 : decode cX14_member 24 = .ok (.iaload, 1) := by decide +kernel
theorem dX14_member_25 : decode cX14_member 25 = .ok (.istore 4, 2) := by decide +kernel
theorem dX14_member_27 : decode cX14_member 27 = .ok (.iload 4, 2) := by decide +kernel
theorem dX14_member_29 : decode cX14_member 29 = .ok (.ifCond .lt 44, 3) := by decide +kernel
theorem dX14_member_32 : decode cX14_member 32 = .ok (.aload_n 0, 1) := by decide +kernel
theorem dX14_member_33 : decode cX14_member 33 = .ok (.aload_n 0, 1) := by decide +kernel
theorem dX14_member_34 : decode cX14_member 34 = .ok (.getfield 46, 3) := by decide +kernel
theorem dX14_member_37 : decode cX14_member 37 = .ok (.iload 4, 2) := by decide +kernel
theorem dX14_member_39 : decode cX14_member 39 = .ok (.iaload, 1) := by decide +kernel
theorem dX14_member_40 : decode cX14_member 40 = .ok (.aload_n 0, 1) := by decide +kernel
theorem dX14_member_41 : decode cX14_member 41 = .ok (.getfield 49, 3) := by decide +kernel
theorem dX14_member_44 : decode cX14_member 44 = .ok (.iload 4, 2) := by decide +kernel
theorem dX14_member_46 : decode cX14_member 46 = .ok (.iaload, 1) := by decide +kernel
theorem dX14_member_47 : decode cX14_member 47 = .ok (.aload_n 2, 1) := by decide +kernel
theorem dX14_member_48 : decode cX14_member 48 = .ok (.invokevirtual 364, 3) := by decide +kernel
theorem dX14_member_51 : decode cX14_member 51 = .ok (.ifCond .eq 8, 3) := by decide +kernel
theorem dX14_member_54 : decode cX14_member 54 = .ok (.iload 4, 2) := by decide +kernel
theorem dX14_member_56 : decode cX14_member 56 = .ok (.goto 4, 3) := by decide +kernel
theorem dX14_member_59 : decode cX14_member 59 = .ok (.iload_n 3, 1) := by decide +kernel
theorem dX14_member_60 : decode cX14_member 60 = .ok (.istore_n 3, 1) := by decide +kernel
theorem dX14_member_61 : decode cX14_member 61 = .ok (.aload_n 0, 1) := by decide +kernel
theorem dX14_member_62 : decode cX14_member 62 = .ok (.getfield 43, 3) := by decide +kernel
theorem dX14_member_65 : decode cX14_member 65 = .ok (.iload 4, 2) := by decide +kernel
theorem dX14_member_67 : decode cX14_member 67 = .ok (.iaload, 1) := by decide +kernel
theorem dX14_member_68 : decode cX14_member 68 = .ok (.istore 4, 2) := by decide +kernel
theorem dX14_member_70 : decode cX14_member 70 = .ok (.goto (-43), 3) := by decide +kernel
theorem dX14_member_73 : decode cX14_member 73 = .ok (.iload_n 3, 1) := by decide +kernel
theorem dX14_member_74 : decode cX14_member 74 = .ok (.ireturn, 1) := by decide +kernel
theorem dX14_isString_0 : decode cX14_isString 0 = .ok (.iload_n 1, 1) := by decide +kernel
theorem dX14_isString_1 : decode cX14_isString 1 = .ok (.ifCond .lt 17, 3) := by decide +kernel
theorem dX14_isString_4 : decode cX14_isString 4 = .ok (.aload_n 0, 1) := by decide +kernel
theorem dX14_isString_5 : decode cX14_isString 5 = .ok (.getfield 37, 3) := by decide +kernel
theorem dX14_isString_8 : decode cX14_isString 8 = .ok (.iload_n 1, 1) := by decide +kernel
theorem dX14_isString_9 : decode cX14_isString 9 = .ok (.iaload, 1) := by decide +kernel
theorem dX14_isString_10 : decode cX14_isString 10 = .ok (.iconst 4, 1) := by decide +kernel
theorem dX14_isString_11 : decode cX14_isString 11 = .ok (.if_icmp .ne 7, 3) := by decide +kernel
theorem dX14_isString_14 : decode cX14_isString 14 = .ok (.iconst 1, 1) := by decide +kernel
theorem dX14_isString_15 : decode cX14_isString 15 = .ok (.goto 4, 3) := by decide +kernel
theorem dX14_isString_18 : decode cX14_isString 18 = .ok (.iconst 0, 1) := by decide +kernel
theorem dX14_isString_19 : decode cX14_isString 19 = .ok (.ireturn, 1) := by decide +kernel
set_option maxRecDepth 20000 in
theorem ggX14_isString__X14_isString : GoodIn wsX14_isString_ wsX14_isString := goodIn_r _ [7, 8, 63, 64, 65, 66, 67, 68, 69, 70, 71, 72, 73, 74, 75, 76, 77, 78, 79, 80, 81, 82, 83, 84, 85, 86, 87, 88, 89, 90, 91, 92, 93, 94, 95, 96, 97, 98, 99, 100, 101, 102, 103, 104, 105, 106, 107, 108, 109, 110, 111, 112, 113, 114, 115, 116, 117, 118, 119, 120, 121, 122, 123, 124, 125, 126, 127, 128, 129, 130, 131, 132, 133, 134, 135, 136] (by decide +kernel) (by decide +kernel)
set_option maxRecDepth 20000 in
theorem gX14_isString__X14_isString : GoodIn wsX14_isString_ (wsV RX14 368 RX14 yX14_isString wsX14_isString) := goodIn_app (goodIn_of _ (by decide +kernel)) ggX14_isString__X14_isString
set_option maxRecDepth 20000 in
theorem ggX14_isString__X14_isText_c0 : GoodIn wsX14_isString_ ((wsX14_isText.drop 0).take 60) := goodIn_r _ [12, 13, 14, 15, 16, 17, 18, 19, 20, 21, 22, 23, 24, 25, 26, 27, 28, 29, 30, 31, 32, 33, 34, 35, 36, 37, 38, 39, 40, 41, 42, 43, 44, 45, 46, 47, 48, 49, 50, 51, 52, 53, 54, 55, 56, 57, 58, 59, 60, 61, 62, 63, 64, 65, 66, 67, 68, 69, 70, 71] (by decide +kernel) (by decide +kernel)
set_option maxRecDepth 20000 in
theorem ggX14_isString__X14_isText_c60 : GoodIn wsX14_isString_ ((wsX14_isText.drop 60).take 60) := goodIn_r _ [72, 73, 74, 75, 76, 77, 78, 79, 80, 81, 82, 83, 84, 85, 86, 87, 88, 89, 90, 91, 92, 93, 94, 95, 96, 97, 98, 99, 100, 101, 102, 103, 104, 105, 106, 107, 108, 109, 110, 111, 112, 113, 114, 115, 116, 117, 118, 119, 120, 121, 122, 123, 124, 125, 126, 127, 128, 129, 130, 131] (by decide +kernel) (by decide +kernel)
set_option maxRecDepth 20000 in
theorem ggX14_isString__X14_isText_c120 : GoodIn wsX14_isString_ (wsX14_isText.drop 120) := goodIn_r _ [132, 133, 134, 135, 136] (by decide +kernel) (by decide +kernel)
set_option maxRecDepth 20000 in
theorem ggX14_isString__X14_isText : GoodIn wsX14_isString_ wsX14_isText := (j_chunk 0 60 ggX14_isString__X14_isText_c0 (j_chunk 60 60 ggX14_isString__X14_isText_c60 ggX14_isString__X14_isText_c120))
set_option maxRecDepth 20000 in
theorem gX14_isString__X14_isText : GoodIn wsX14_isString_ (wsV RX14 364 RX14 yX14_isText wsX14_isText) := goodIn_app (goodIn_of _ (by decide +kernel)) ggX14_isString__X14_isText
theorem dX14_isString__0 : decode cX14_isString_ 0 = .ok (.aload_n 0, 1) := by decide +kernel
theorem dX14_isString__1 : decode cX14_isString_ 1 = .ok (.iload_n 1, 1) := by decide +kernel
theorem dX14_isString__2 : decode cX14_isString_ 2 = .ok (.invokevirtual 368, 3) := by decide +kernel
theorem dX14_isString__5 : decode cX14_isString_ 5 = .ok (.ifCond .eq 27, 3) := by decide +kernel
theorem dX14_isString__8 : decode cX14_isString_ 8 = .ok (.aload_n 0, 1) := by decide +kernel
theorem dX14_isString__9 : decode cX14_isString_ 9 = .ok (.aload_n 0, 1) := by decide +kernel
theorem dX14_isString__10 : decode cX14_isString_ 10 = .ok (.getfield 52, 3) := by decide +kernel
theorem dX14_isString__13 : decode cX14_isString_ 13 = .ok (.iload_n 1, 1) := by decide +kernel
theorem dX14_isString__14 : decode cX14_isString_ 14 = .ok (.iaload, 1) := by decide +kernel
theorem dX14_isString__15 : decode cX14_isString_ 15 = .ok (.aload_n 0, 1) := by decide +kernel
theorem dX14_isString__16 : decode cX14_isString_ 16 = .ok (.getfield 55, 3) := by decide +kernel
theorem dX14_isString__19 : decode cX14_isString_ 19 = .ok (.iload_n 1, 1) := by decide +kernel
theorem dX14_isString__20 : decode cX14_isString_ 20 = .ok (.iaload, 1) := by decide +kernel
theorem dX14_isString__21 : decode cX14_isString_ 21 = .ok (.aload_n 2, 1) := by decide +kernel
theorem dX14_isString__22 : decode cX14_isString_ 22 = .ok (.invokevirtual 364, 3) := by decide +kernel
theorem dX14_isString__25 : decode cX14_isString_ 25 = .ok (.ifCond .eq 7, 3) := by decide +kernel
theorem dX14_isString__28 : decode cX14_isString_ 28 = .ok (.iconst 1, 1) := by decide +kernel
theorem dX14_isString__29 : decode cX14_isString_ 29 = .ok (.goto 4, 3) := by decide +kernel
theorem dX14_isString__32 : decode cX14_isString_ 32 = .ok (.iconst 0, 1) := by decide +kernel
theorem dX14_isString__33 : decode cX14_isString_ 33 = .ok (.ireturn, 1) := by decide +kernel
theorem dX14_isWhole_0 : decode cX14_isWhole 0 = .ok (.iload_n 1, 1) := by decide +kernel
theorem dX14_isWhole_1 : decode cX14_isWhole 1 = .ok (.ifCond .lt 26, 3) := by decide +kernel
theorem dX14_isWhole_4 : decode cX14_isWhole 4 = .ok (.aload_n 0, 1) := by decide +kernel
theorem dX14_isWhole_5 : decode cX14_isWhole 5 = .ok (.getfield 37, 3) := by decide +kernel
theorem dX14_isWhole_8 : decode cX14_isWhole 8 = .ok (.iload_n 1, 1) := by decide +kernel
theorem dX14_isWhole_9 : decode cX14_isWhole 9 = .ok (.iaload, 1) := by decide +kernel
theorem dX14_isWhole_10 : decode cX14_isWhole 10 = .ok (.iconst 3, 1) := by decide +kernel
theorem dX14_isWhole_11 : decode cX14_isWhole 11 = .ok (.if_icmp .ne 16, 3) := by decide +kernel
theorem dX14_isWhole_14 : decode cX14_isWhole 14 = .ok (.aload_n 0, 1) := by decide +kernel
theorem dX14_isWhole_15 : decode cX14_isWhole 15 = .ok (.getfield 58, 3) := by decide +kernel
theorem dX14_isWhole_18 : decode cX14_isWhole 18 = .ok (.iload_n 1, 1) := by decide +kernel
theorem dX14_isWhole_19 : decode cX14_isWhole 19 = .ok (.baload, 1) := by decide +kernel
theorem dX14_isWhole_20 : decode cX14_isWhole 20 = .ok (.ifCond .eq 7, 3) := by decide +kernel
theorem dX14_isWhole_23 : decode cX14_isWhole 23 = .ok (.iconst 1, 1) := by decide +kernel
theorem dX14_isWhole_24 : decode cX14_isWhole 24 = .ok (.goto 4, 3) := by decide +kernel
theorem dX14_isWhole_27 : decode cX14_isWhole 27 = .ok (.iconst 0, 1) := by decide +kernel
theorem dX14_isWhole_28 : decode cX14_isWhole 28 = .ok (.ireturn, 1) := by decide +kernel
set_option maxRecDepth 20000 in
theorem ggX14_isId_X14_isWhole : GoodIn wsX14_isId wsX14_isWhole := goodIn_r _ [7, 8, 9, 14, 15, 16, 17, 18, 19, 20, 21, 22, 23, 24, 25, 26, 27, 28, 29, 30, 31, 32, 33, 34, 35, 36, 37, 38, 39, 40, 41, 42, 43, 44, 45, 46, 47, 48, 49, 50, 51, 52, 53, 54, 55, 56, 57, 58, 59, 60, 61, 62, 63, 64, 65, 66, 67, 68, 69, 70, 71, 72, 73, 74, 75, 76, 77, 78, 79, 80, 81, 82, 83, 84, 85, 86, 87] (by decide +kernel) (by decide +kernel)
set_option maxRecDepth 20000 in
theorem gX14_isId_X14_isWhole : GoodIn wsX14_isId (wsV RX14 371 RX14 yX14_isWhole wsX14_isWhole) := goodIn_app (goodIn_of _ (by decide +kernel)) ggX14_isId_X14_isWhole
set_option maxRecDepth 20000 in
theorem ggX14_isId_X14_isString : GoodIn wsX14_isId wsX14_isString := goodIn_r _ [13, 8, 14, 15, 16, 17, 18, 19, 20, 21, 22, 23, 24, 25, 26, 27, 28, 29, 30, 31, 32, 33, 34, 35, 36, 37, 38, 39, 40, 41, 42, 43, 44, 45, 46, 47, 48, 49, 50, 51, 52, 53, 54, 55, 56, 57, 58, 59, 60, 61, 62, 63, 64, 65, 66, 67, 68, 69, 70, 71, 72, 73, 74, 75, 76, 77, 78, 79, 80, 81, 82, 83, 84, 85, 86, 87] (by decide +kernel) (by decide +kernel)
set_option maxRecDepth 20000 in
theorem gX14_isId_X14_isString : GoodIn wsX14_isId (wsV RX14 368 RX14 yX14_isString wsX14_isString) := goodIn_app (goodIn_of _ (by decide +kernel)) ggX14_isId_X14_isString
theorem dX14_isId_0 : decode cX14_isId 0 = .ok (.aload_n 0, 1) := by decide +kernel
theorem dX14_isId_1 : decode cX14_isId 1 = .ok (.iload_n 1, 1) := by decide +kernel
theorem dX14_isId_2 : decode cX14_isId 2 = .ok (.invokevirtual 371, 3) := by decide +kernel
theorem dX14_isId_5 : decode cX14_isId 5 = .ok (.ifCond .ne 29, 3) := by decide +kernel
theorem dX14_isId_8 : decode cX14_isId 8 = .ok (.aload_n 0, 1) := by decide +kernel
theorem dX14_isId_9 : decode cX14_isId 9 = .ok (.iload_n 1, 1) := by decide +kernel
theorem dX14_isId_10 : decode cX14_isId 10 = .ok (.invokevirtual 368, 3) := by decide +kernel
theorem dX14_isId_13 : decode cX14_isId 13 = .ok (.ifCond .eq 25, 3) := by decide +kernel
theorem dX14_isId_16 : decode cX14_isId 16 = .ok (.aload_n 0, 1) := by decide +kernel
theorem dX14_isId_17 : decode cX14_isId 17 = .ok (.getfield 55, 3) := by decide +kernel
theorem dX14_isId_20 : decode cX14_isId 20 = .ok (.iload_n 1, 1) := by decide +kernel
theorem dX14_isId_21 : decode cX14_isId 21 = .ok (.iaload, 1) := by decide +kernel
theorem dX14_isId_22 : decode cX14_isId 22 = .ok (.aload_n 0, 1) := by decide +kernel
theorem dX14_isId_23 : decode cX14_isId 23 = .ok (.getfield 52, 3) := by decide +kernel
theorem dX14_isId_26 : decode cX14_isId 26 = .ok (.iload_n 1, 1) := by decide +kernel
theorem dX14_isId_27 : decode cX14_isId 27 = .ok (.iaload, 1) := by decide +kernel
theorem dX14_isId_28 : decode cX14_isId 28 = .ok (.isub, 1) := by decide +kernel
theorem dX14_isId_29 : decode cX14_isId 29 = .ok (.bipush 20, 2) := by decide +kernel
theorem dX14_isId_31 : decode cX14_isId 31 = .ok (.if_icmp .gt 7, 3) := by decide +kernel
theorem dX14_isId_34 : decode cX14_isId 34 = .ok (.iconst 1, 1) := by decide +kernel
theorem dX14_isId_35 : decode cX14_isId 35 = .ok (.goto 4, 3) := by decide +kernel
theorem dX14_isId_38 : decode cX14_isId 38 = .ok (.iconst 0, 1) := by decide +kernel
theorem dX14_isId_39 : decode cX14_isId 39 = .ok (.ireturn, 1) := by decide +kernel
set_option maxRecDepth 20000 in
theorem ggX14_beginAnswer_X14_word_c0 : GoodIn wsX14_beginAnswer ((wsX14_word.drop 0).take 60) := goodIn_r _ [11, 12, 13, 14, 15, 16, 17, 18, 19, 20, 21, 22, 23, 24, 25, 26, 27, 28, 29, 30, 31, 32, 33, 34, 35, 36, 37, 38, 39, 40, 41, 42, 43, 44, 45, 46, 47, 48, 49, 50, 51, 52, 53, 54, 55, 56, 57, 58, 59, 60, 61, 62, 63, 10, 64, 1, 65, 66, 95, 96] (by decide +kernel) (by decide +kernel)
set_option maxRecDepth 20000 in
theorem ggX14_beginAnswer_X14_word_c60 : GoodIn wsX14_beginAnswer ((wsX14_word.drop 60).take 60) := goodIn_r _ [97, 98, 99, 100, 101, 102, 103, 104, 105, 106, 107, 108, 109, 110, 111, 112, 113, 114, 115, 116, 117, 118, 119, 120, 121, 122, 123, 124, 125, 126, 127, 128, 129, 130, 131, 132, 133, 134, 135, 136, 137, 138, 139, 140, 141, 142, 143, 144, 145, 146, 147, 148, 149, 150, 151, 152, 153, 154, 155, 156] (by decide +kernel) (by decide +kernel)
set_option maxRecDepth 20000 in
theorem ggX14_beginAnswer_X14_word_c120 : GoodIn wsX14_beginAnswer (wsX14_word.drop 120) := goodIn_r _ [157, 158, 159, 160, 161, 162, 163, 164, 165, 166, 167, 168] (by decide +kernel) (by decide +kernel)
set_option maxRecDepth 20000 in
theorem ggX14_beginAnswer_X14_word : GoodIn wsX14_beginAnswer wsX14_word := (j_chunk 0 60 ggX14_beginAnswer_X14_word_c0 (j_chunk 60 60 ggX14_beginAnswer_X14_word_c60 ggX14_beginAnswer_X14_word_c120))
set_option maxRecDepth 20000 in
theorem gX14_beginAnswer_X14_word : GoodIn wsX14_beginAnswer (wsV RX14 189 RX14 yX14_word wsX14_word) := goodIn_app (goodIn_of _ (by decide +kernel)) ggX14_beginAnswer_X14_word
set_option maxRecDepth 20000 in
theorem ggX14_beginAnswer_X14_string_c0 : GoodIn wsX14_beginAnswer ((wsX14_string.drop 0).take 60) := goodIn_r _ [70, 71, 72, 73, 74, 75, 76, 61, 62, 63, 10, 64, 1, 65, 66, 77, 78, 79, 7, 8, 9, 11, 12, 13, 14, 15, 16, 17, 18, 19, 20, 21, 22, 23, 24, 25, 26, 27, 28, 29, 30, 31, 32, 33, 34, 35, 36, 37, 38, 39, 40, 41, 42, 43, 44, 45, 46, 47, 48, 49] (by decide +kernel) (by decide +kernel)
set_option maxRecDepth 20000 in
theorem ggX14_beginAnswer_X14_string_c60 : GoodIn wsX14_beginAnswer ((wsX14_string.drop 60).take 60) := goodIn_r _ [50, 51, 52, 53, 54, 55, 56, 57, 58, 59, 60, 80, 81, 82, 83, 84, 85, 86, 95, 96, 97, 98, 99, 100, 101, 102, 103, 104, 105, 106, 107, 108, 109, 110, 111, 112, 113, 114, 115, 116, 117, 118, 119, 120, 121, 122, 123, 124, 125, 126, 127, 128, 129, 130, 131, 132, 133, 134, 135, 136] (by decide +kernel) (by decide +kernel)
set_option maxRecDepth 20000 in
theorem ggX14_beginAnswer_X14_string_c120 : GoodIn wsX14_beginAnswer (wsX14_string.drop 120) := goodIn_r _ [137, 138, 139, 140, 141, 142, 143, 144, 145, 146, 147, 148, 149, 150, 151, 152, 153, 154, 155, 156, 157, 158, 159, 160, 161, 162, 163, 164, 165, 166, 167, 168] (by decide +kernel) (by decide +kernel)
set_option maxRecDepth 20000 in
theorem ggX14_beginAnswer_X14_string : GoodIn wsX14_beginAnswer wsX14_string := (j_chunk 0 60 ggX14_beginAnswer_X14_string_c0 (j_chunk 60 60 ggX14_beginAnswer_X14_string_c60 ggX14_beginAnswer_X14_string_c120))
set_option maxRecDepth 20000 in
theorem gX14_beginAnswer_X14_string : GoodIn wsX14_beginAnswer (wsV RX14 388 RX14 yX14_string wsX14_string) := goodIn_app (goodIn_of _ (by decide +kernel)) ggX14_beginAnswer_X14_string
set_option maxRecDepth 20000 in
theorem ggX14_beginAnswer_X14_number : GoodIn wsX14_beginAnswer wsX14_number := goodIn_r _ [90, 61, 62, 63, 10, 64, 1, 65, 66, 91, 92, 93, 94, 95, 96, 97, 98, 99, 100, 101, 102, 103, 104, 105, 106, 107, 108, 109, 110, 111, 112, 113, 114, 115, 116, 117, 118, 119, 120, 121, 122, 123, 124, 125, 126, 127, 128, 129, 130, 131, 132, 133, 134, 135, 136, 137, 138, 139, 140, 141, 142, 143, 144, 145, 146, 147, 148, 149, 150, 151, 152, 153, 154, 155, 156, 157, 158, 159, 160, 161, 162, 163, 164, 165, 166, 167, 168] (by decide +kernel) (by decide +kernel)
set_option maxRecDepth 20000 in
theorem gX14_beginAnswer_X14_number : GoodIn wsX14_beginAnswer (wsV RX14 208 RX14 yX14_number wsX14_number) := goodIn_app (goodIn_of _ (by decide +kernel)) ggX14_beginAnswer_X14_number
theorem dX14_beginAnswer_0 : decode cX14_beginAnswer 0 = .ok (.aload_n 0, 1) := by decide +kernel
theorem dX14_beginAnswer_1 : decode cX14_beginAnswer 1 = .ok (.iconst 0, 1) := by decide +kernel
theorem dX14_beginAnswer_2 : decode cX14_beginAnswer 2 = .ok (.putfield 160, 3) := by decide +kernel
theorem dX14_beginAnswer_5 : decode cX14_beginAnswer 5 = .ok (.aload_n 0, 1) := by decide +kernel
theorem dX14_beginAnswer_6 : decode cX14_beginAnswer 6 = .ok (.ldc_w 386, 3) := by decide +kernel
theorem dX14_beginAnswer_9 : decode cX14_beginAnswer 9 = .ok (.invokevirtual 189, 3) := by decide +kernel
theorem dX14_beginAnswer_12 : decode cX14_beginAnswer 12 = .ok (.aload_n 0, 1) := by decide +kernel
theorem dX14_beginAnswer_13 : decode cX14_beginAnswer 13 = .ok (.getfield 374, 3) := by decide +kernel
theorem dX14_beginAnswer_16 : decode cX14_beginAnswer 16 = .ok (.ifCond .eq 13, 3) := by decide +kernel
theorem dX14_beginAnswer_19 : decode cX14_beginAnswer 19 = .ok (.aload_n 0, 1) := by decide +kernel
theorem dX14_beginAnswer_20 : decode cX14_beginAnswer 20 = .ok (.ldc_w 307, 3) := by decide +kernel
theorem dX14_beginAnswer_23 : decode cX14_beginAnswer 23 = .ok (.invokevirtual 189, 3) := by decide +kernel
theorem dX14_beginAnswer_26 : decode cX14_beginAnswer 26 = .ok (.goto 34, 3) := by decide +kernel
theorem dX14_beginAnswer_29 : decode cX14_beginAnswer 29 = .ok (.aload_n 0, 1) := by decide +kernel
theorem dX14_beginAnswer_30 : decode cX14_beginAnswer 30 = .ok (.getfield 377, 3) := by decide +kernel
theorem dX14_beginAnswer_33 : decode cX14_beginAnswer 33 = .ok (.ifCond .eq 19, 3) := by decide +kernel
theorem dX14_beginAnswer_36 : decode cX14_beginAnswer 36 = .ok (.aload_n 0, 1) := by decide +kernel
theorem dX14_beginAnswer_37 : decode cX14_beginAnswer 37 = .ok (.aload_n 0, 1) := by decide +kernel
theorem dX14_beginAnswer_38 : decode cX14_beginAnswer 38 = .ok (.getfield 68, 3) := by decide +kernel
theorem dX14_beginAnswer_41 : decode cX14_beginAnswer 41 = .ok (.iconst 0, 1) := by decide +kernel
theorem dX14_beginAnswer_42 : decode cX14_beginAnswer 42 = .ok (.aload_n 0, 1) := by decide +kernel
theorem dX14_beginAnswer_43 : decode cX14_beginAnswer 43 = .ok (.getfield 383, 3) := by decide +kernel
theorem dX14_beginAnswer_46 : decode cX14_beginAnswer 46 = .ok (.invokevirtual 388, 3) := by decide +kernel
theorem dX14_beginAnswer_49 : decode cX14_beginAnswer 49 = .ok (.goto 11, 3) := by decide +kernel
theorem dX14_beginAnswer_52 : decode cX14_beginAnswer 52 = .ok (.aload_n 0, 1) := by decide +kernel
theorem dX14_beginAnswer_53 : decode cX14_beginAnswer 53 = .ok (.aload_n 0, 1) := by decide +kernel
theorem dX14_beginAnswer_54 : decode cX14_beginAnswer 54 = .ok (.getfield 380, 3) := by decide +kernel
theorem dX14_beginAnswer_57 : decode cX14_beginAnswer 57 = .ok (.invokevirtual 208, 3) := by decide +kernel
theorem dX14_beginAnswer_60 : decode cX14_beginAnswer 60 = .ok (.return_, 1) := by decide +kernel
set_option maxRecDepth 20000 in
theorem ggX14_beginResult_X14_beginAnswer_c0 : GoodIn wsX14_beginResult ((wsX14_beginAnswer.drop 0).take 60) := goodIn_r _ [5, 6, 7, 8, 9, 10, 11, 12, 13, 14, 4, 15, 16, 17, 18, 19, 20, 21, 22, 23, 24, 25, 26, 27, 28, 29, 30, 31, 32, 33, 34, 35, 36, 37, 38, 39, 40, 41, 42, 43, 44, 45, 46, 47, 48, 49, 50, 51, 52, 53, 54, 55, 56, 57, 58, 59, 60, 61, 62, 63] (by decide +kernel) (by decide +kernel)
set_option maxRecDepth 20000 in
theorem ggX14_beginResult_X14_beginAnswer_c60 : GoodIn wsX14_beginResult ((wsX14_beginAnswer.drop 60).take 60) := goodIn_r _ [64, 65, 66, 67, 68, 69, 70, 71, 72, 73, 74, 75, 76, 77, 78, 79, 80, 81, 82, 83, 84, 85, 86, 87, 88, 89, 90, 91, 92, 93, 94, 95, 96, 97, 98, 99, 100, 101, 102, 103, 104, 105, 106, 107, 108, 109, 110, 111, 112, 113, 114, 115, 116, 117, 118, 119, 120, 121, 122, 123] (by decide +kernel) (by decide +kernel)
set_option maxRecDepth 20000 in
theorem ggX14_beginResult_X14_beginAnswer_c120 : GoodIn wsX14_beginResult (wsX14_beginAnswer.drop 120) := goodIn_r _ [124, 125, 126, 127, 128, 129, 130, 131, 132, 133, 134, 135, 136, 137, 138, 139, 140, 141, 142, 143, 144, 145, 146, 147, 148, 149, 150, 151, 152, 153, 154, 155, 156, 157, 158, 159, 160, 161, 162, 163, 164, 165, 166, 167, 168, 169, 170, 171, 172] (by decide +kernel) (by decide +kernel)
set_option maxRecDepth 20000 in
theorem ggX14_beginResult_X14_beginAnswer : GoodIn wsX14_beginResult wsX14_beginAnswer := (j_chunk 0 60 ggX14_beginResult_X14_beginAnswer_c0 (j_chunk 60 60 ggX14_beginResult_X14_beginAnswer_c60 ggX14_beginResult_X14_beginAnswer_c120))
set_option maxRecDepth 20000 in
theorem gX14_beginResult_X14_beginAnswer : GoodIn wsX14_beginResult (wsV RX14 392 RX14 yX14_beginAnswer wsX14_beginAnswer) := goodIn_app (goodIn_of _ (by decide +kernel)) ggX14_beginResult_X14_beginAnswer
set_option maxRecDepth 20000 in
theorem ggX14_beginResult_X14_word_c0 : GoodIn wsX14_beginResult ((wsX14_word.drop 0).take 60) := goodIn_r _ [15, 16, 17, 18, 19, 20, 21, 22, 23, 24, 25, 26, 27, 28, 29, 30, 31, 32, 33, 34, 35, 36, 37, 38, 39, 40, 41, 42, 43, 44, 45, 46, 47, 48, 49, 50, 51, 52, 53, 54, 55, 56, 57, 58, 59, 60, 61, 62, 63, 64, 65, 66, 67, 4, 68, 6, 69, 70, 99, 100] (by decide +kernel) (by decide +kernel)
set_option maxRecDepth 20000 in
theorem ggX14_beginResult_X14_word_c60 : GoodIn wsX14_beginResult ((wsX14_word.drop 60).take 60) := goodIn_r _ [101, 102, 103, 104, 105, 106, 107, 108, 109, 110, 111, 112, 113, 114, 115, 116, 117, 118, 119, 120, 121, 122, 123, 124, 125, 126, 127, 128, 129, 130, 131, 132, 133, 134, 135, 136, 137, 138, 139, 140, 141, 142, 143, 144, 145, 146, 147, 148, 149, 150, 151, 152, 153, 154, 155, 156, 157, 158, 159, 160] (by decide +kernel) (by decide +kernel)
set_option maxRecDepth 20000 in
theorem ggX14_beginResult_X14_word_c120 : GoodIn wsX14_beginResult (wsX14_word.drop 120) := goodIn_r _ [161, 162, 163, 164, 165, 166, 167, 168, 169, 170, 171, 172] (by decide +kernel) (by decide +kernel)
set_option maxRecDepth 20000 in
theorem ggX14_beginResult_X14_word : GoodIn wsX14_beginResult wsX14_word := (j_chunk 0 60 ggX14_beginResult_X14_word_c0 (j_chunk 60 60 ggX14_beginResult_X14_word_c60 ggX14_beginResult_X14_word_c120))
set_option maxRecDepth 20000 in
theorem gX14_beginResult_X14_word : GoodIn wsX14_beginResult (wsV RX14 189 RX14 yX14_word wsX14_word) := goodIn_app (goodIn_of _ (by decide +kernel)) ggX14_beginResult_X14_word
theorem dX14_beginResult_0 : decode cX14_beginResult 0 = .ok (.aload_n 0, 1) := by decide +kernel
theorem dX14_beginResult_1 : decode cX14_beginResult 1 = .ok (.invokevirtual 392, 3) := by decide +kernel
theorem dX14_beginResult_4 : decode cX14_beginResult 4 = .ok (.aload_n 0, 1) := by decide +kernel
theorem dX14_beginResult_5 : decode cX14_beginResult 5 = .ok (.ldc_w 395, 3) := by decide +kernel
theorem dX14_beginResult_8 : decode cX14_beginResult 8 = .ok (.invokevirtual 189, 3) := by decide +kernel
theorem dX14_beginResult_11 : decode cX14_beginResult 11 = .ok (.return_, 1) := by decide +kernel
set_option maxRecDepth 20000 in
theorem ggX14_endAnswer_X14_put : GoodIn wsX14_endAnswer wsX14_put := goodIn_r _ [5, 6, 7, 8, 78, 79, 80, 81, 82, 83, 84, 85, 86, 87, 88, 89, 90, 91, 92, 93, 94, 95, 96, 97, 98, 99, 100, 101, 102, 103, 104, 105, 106, 107, 108, 109, 110, 111, 112, 113, 114, 115, 116, 117, 118, 119, 120, 121, 122, 123, 124, 125, 126, 127, 128, 129, 130, 131, 132, 133, 134, 135, 136, 137, 138, 139, 140, 141, 142, 143, 144, 145, 146, 147, 148, 149, 150, 151] (by decide +kernel) (by decide +kernel)
set_option maxRecDepth 20000 in
theorem gX14_endAnswer_X14_put : GoodIn wsX14_endAnswer (wsV RX14 172 RX14 yX14_put wsX14_put) := goodIn_app (goodIn_of _ (by decide +kernel)) ggX14_endAnswer_X14_put
set_option maxRecDepth 20000 in
theorem ggX14_endAnswer_X14_send_c0 : GoodIn wsX14_endAnswer ((wsX14_send.drop 0).take 60) := goodIn_r _ [12, 13, 6, 14, 15, 16, 8, 17, 18, 19, 4, 20, 21, 22, 23, 24, 25, 26, 27, 28, 29, 30, 31, 32, 33, 34, 35, 36, 37, 38, 39, 40, 41, 42, 43, 44, 45, 46, 47, 48, 49, 50, 51, 52, 53, 54, 55, 56, 57, 58, 59, 60, 61, 62, 63, 64, 65, 66, 67, 68] (by decide +kernel) (by decide +kernel)
set_option maxRecDepth 20000 in
theorem ggX14_endAnswer_X14_send_c60 : GoodIn wsX14_endAnswer ((wsX14_send.drop 60).take 60) := goodIn_r _ [69, 1, 2, 3, 5, 7, 70, 71, 72, 73, 74, 75, 76, 77, 78, 79, 80, 81, 82, 83, 84, 85, 86, 87, 88, 89, 90, 91, 92, 93, 94, 95, 96, 97, 98, 99, 100, 101, 102, 103, 104, 105, 106, 107, 108, 109, 110, 111, 112, 113, 114, 115, 116, 117, 118, 119, 120, 121, 122, 123] (by decide +kernel) (by decide +kernel)
set_option maxRecDepth 20000 in
theorem ggX14_endAnswer_X14_send_c120 : GoodIn wsX14_endAnswer (wsX14_send.drop 120) := goodIn_r _ [124, 125, 126, 127, 128, 129, 130, 131, 132, 133, 134, 135, 136, 137, 138, 139, 140, 141, 142, 143, 144, 145, 146, 147, 148, 149, 150, 151] (by decide +kernel) (by decide +kernel)
set_option maxRecDepth 20000 in
theorem ggX14_endAnswer_X14_send : GoodIn wsX14_endAnswer wsX14_send := (j_chunk 0 60 ggX14_endAnswer_X14_send_c0 (j_chunk 60 60 ggX14_endAnswer_X14_send_c60 ggX14_endAnswer_X14_send_c120))
set_option maxRecDepth 20000 in
theorem gX14_endAnswer_X14_send : GoodIn wsX14_endAnswer (wsV RX14 397 RX14 yX14_send wsX14_send) := goodIn_app (goodIn_of _ (by decide +kernel)) ggX14_endAnswer_X14_send
theorem dX14_endAnswer_0 : decode cX14_endAnswer 0 = .ok (.aload_n 0, 1) := by decide +kernel
theorem dX14_endAnswer_1 : decode cX14_endAnswer 1 = .ok (.bipush 125, 2) := by decide +kernel
theorem dX14_endAnswer_3 : decode cX14_endAnswer 3 = .ok (.invokevirtual 172, 3) := by decide +kernel
theorem dX14_endAnswer_6 : decode cX14_endAnswer 6 = .ok (.aload_n 0, 1) := by decide +kernel
theorem dX14_endAnswer_7 : decode cX14_endAnswer 7 = .ok (.invokevirtual 397, 3) := by decide +kernel
theorem dX14_endAnswer_10 : decode cX14_endAnswer 10 = .ok (.return_, 1) := by decide +kernel
set_option maxRecDepth 20000 in
theorem ggX14_error_X14_beginAnswer_c0 : GoodIn wsX14_error ((wsX14_beginAnswer.drop 0).take 60) := goodIn_r _ [6, 7, 8, 9, 10, 11, 12, 13, 14, 15, 5, 16, 17, 18, 19, 20, 21, 22, 23, 24, 25, 26, 27, 28, 29, 30, 31, 32, 33, 34, 35, 36, 37, 38, 39, 40, 41, 42, 43, 44, 45, 46, 47, 48, 49, 50, 51, 52, 53, 54, 55, 56, 57, 58, 59, 60, 61, 62, 63, 64] (by decide +kernel) (by decide +kernel)
set_option maxRecDepth 20000 in
theorem ggX14_error_X14_beginAnswer_c60 : GoodIn wsX14_error ((wsX14_beginAnswer.drop 60).take 60) := goodIn_r _ [65, 66, 67, 68, 69, 70, 71, 72, 73, 74, 75, 76, 77, 78, 79, 80, 81, 82, 83, 84, 85, 86, 87, 88, 89, 90, 91, 92, 93, 94, 95, 96, 97, 98, 99, 116, 117, 118, 119, 120, 121, 122, 123, 124, 125, 126, 127, 128, 129, 130, 131, 132, 133, 134, 135, 136, 137, 138, 139, 140] (by decide +kernel) (by decide +kernel)
set_option maxRecDepth 20000 in
theorem ggX14_error_X14_beginAnswer_c120 : GoodIn wsX14_error (wsX14_beginAnswer.drop 120) := goodIn_r _ [141, 142, 143, 144, 145, 146, 147, 148, 149, 150, 151, 152, 153, 154, 155, 156, 157, 158, 159, 160, 161, 162, 163, 164, 165, 166, 167, 168, 169, 170, 171, 172, 173, 174, 175, 176, 177, 178, 179, 180, 181, 182, 183, 184, 185, 186, 187, 188, 189] (by decide +kernel) (by decide +kernel)
set_option maxRecDepth 20000 in
theorem ggX14_error_X14_beginAnswer : GoodIn wsX14_error wsX14_beginAnswer := (j_chunk 0 60 ggX14_error_X14_beginAnswer_c0 (j_chunk 60 60 ggX14_error_X14_beginAnswer_c60 ggX14_error_X14_beginAnswer_c120))
set_option maxRecDepth 20000 in
theorem gX14_error_X14_beginAnswer : GoodIn wsX14_error (wsV RX14 392 RX14 yX14_beginAnswer wsX14_beginAnswer) := goodIn_app (goodIn_of _ (by decide +kernel)) ggX14_error_X14_beginAnswer
set_option maxRecDepth 20000 in
theorem ggX14_error_X14_word_c0 : GoodIn wsX14_error ((wsX14_word.drop 0).take 60) := goodIn_r _ [16, 17, 18, 19, 20, 21, 22, 23, 24, 25, 26, 27, 28, 29, 30, 31, 32, 33, 34, 35, 36, 37, 38, 39, 40, 41, 42, 43, 44, 45, 46, 47, 48, 49, 50, 51, 52, 53, 54, 55, 56, 57, 58, 59, 60, 61, 62, 63, 64, 65, 66, 67, 68, 5, 69, 7, 70, 71, 116, 117] (by decide +kernel) (by decide +kernel)
set_option maxRecDepth 20000 in
theorem ggX14_error_X14_word_c60 : GoodIn wsX14_error ((wsX14_word.drop 60).take 60) := goodIn_r _ [118, 119, 120, 121, 122, 123, 124, 125, 126, 127, 128, 129, 130, 131, 132, 133, 134, 135, 136, 137, 138, 139, 140, 141, 142, 143, 144, 145, 146, 147, 148, 149, 150, 151, 152, 153, 154, 155, 156, 157, 158, 159, 160, 161, 162, 163, 164, 165, 166, 167, 168, 169, 170, 171, 172, 173, 174, 175, 176, 177] (by decide +kernel) (by decide +kernel)
set_option maxRecDepth 20000 in
theorem ggX14_error_X14_word_c120 : GoodIn wsX14_error (wsX14_word.drop 120) := goodIn_r _ [178, 179, 180, 181, 182, 183, 184, 185, 186, 187, 188, 189] (by decide +kernel) (by decide +kernel)
set_option maxRecDepth 20000 in
theorem ggX14_error_X14_word : GoodIn wsX14_error wsX14_word := (j_chunk 0 60 ggX14_error_X14_word_c0 (j_chunk 60 60 ggX14_error_X14_word_c60 ggX14_error_X14_word_c120))
set_option maxRecDepth 20000 in
theorem gX14_error_X14_word : GoodIn wsX14_error (wsV RX14 189 RX14 yX14_word wsX14_word) := goodIn_app (goodIn_of _ (by decide +kernel)) ggX14_error_X14_word
set_option maxRecDepth 20000 in
theorem ggX14_error_X14_number : GoodIn wsX14_error wsX14_number := goodIn_r _ [95, 66, 67, 68, 5, 69, 7, 70, 71, 96, 97, 98, 99, 116, 117, 118, 119, 120, 121, 122, 123, 124, 125, 126, 127, 128, 129, 130, 131, 132, 133, 134, 135, 136, 137, 138, 139, 140, 141, 142, 143, 144, 145, 146, 147, 148, 149, 150, 151, 152, 153, 154, 155, 156, 157, 158, 159, 160, 161, 162, 163, 164, 165, 166, 167, 168, 169, 170, 171, 172, 173, 174, 175, 176, 177, 178, 179, 180, 181, 182, 183, 184, 185, 186, 187, 188, 189] (by decide +kernel) (by decide +kernel)
set_option maxRecDepth 20000 in
theorem gX14_error_X14_number : GoodIn wsX14_error (wsV RX14 208 RX14 yX14_number wsX14_number) := goodIn_app (goodIn_of _ (by decide +kernel)) ggX14_error_X14_number
set_option maxRecDepth 20000 in
theorem ggX14_error_X14_text_c0 : GoodIn wsX14_error ((wsX14_text.drop 0).take 60) := goodIn_r _ [103, 66, 67, 68, 5, 69, 7, 70, 71, 13, 14, 15, 16, 17, 18, 19, 20, 21, 22, 23, 24, 25, 26, 27, 28, 29, 30, 31, 32, 33, 34, 35, 36, 37, 38, 39, 40, 41, 42, 43, 44, 45, 46, 47, 48, 49, 50, 51, 52, 53, 54, 55, 56, 57, 58, 59, 60, 61, 62, 63] (by decide +kernel) (by decide +kernel)
set_option maxRecDepth 20000 in
theorem ggX14_error_X14_text_c60 : GoodIn wsX14_error ((wsX14_text.drop 60).take 60) := goodIn_r _ [64, 65, 116, 117, 118, 119, 120, 121, 122, 123, 124, 125, 126, 127, 128, 129, 130, 131, 132, 133, 134, 135, 136, 137, 138, 139, 140, 141, 142, 143, 144, 145, 146, 147, 148, 149, 150, 151, 152, 153, 154, 155, 156, 157, 158, 159, 160, 161, 162, 163, 164, 165, 166, 167, 168, 169, 170, 171, 172, 173] (by decide +kernel) (by decide +kernel)
set_option maxRecDepth 20000 in
theorem ggX14_error_X14_text_c120 : GoodIn wsX14_error (wsX14_text.drop 120) := goodIn_r _ [174, 175, 176, 177, 178, 179, 180, 181, 182, 183, 184, 185, 186, 187, 188, 189] (by decide +kernel) (by decide +kernel)
set_option maxRecDepth 20000 in
theorem ggX14_error_X14_text : GoodIn wsX14_error wsX14_text := (j_chunk 0 60 ggX14_error_X14_text_c0 (j_chunk 60 60 ggX14_error_X14_text_c60 ggX14_error_X14_text_c120))
set_option maxRecDepth 20000 in
theorem gX14_error_X14_text : GoodIn wsX14_error (wsV RX14 419 RX14 yX14_text wsX14_text) := goodIn_app (goodIn_of _ (by decide +kernel)) ggX14_error_X14_text
set_option maxRecDepth 20000 in
theorem ggX14_error_X14_put : GoodIn wsX14_error wsX14_put := goodIn_r _ [69, 7, 70, 71, 116, 117, 118, 119, 120, 121, 122, 123, 124, 125, 126, 127, 128, 129, 130, 131, 132, 133, 134, 135, 136, 137, 138, 139, 140, 141, 142, 143, 144, 145, 146, 147, 148, 149, 150, 151, 152, 153, 154, 155, 156, 157, 158, 159, 160, 161, 162, 163, 164, 165, 166, 167, 168, 169, 170, 171, 172, 173, 174, 175, 176, 177, 178, 179, 180, 181, 182, 183, 184, 185, 186, 187, 188, 189] (by decide +kernel) (by decide +kernel)
set_option maxRecDepth 20000 in
theorem gX14_error_X14_put : GoodIn wsX14_error (wsV RX14 172 RX14 yX14_put wsX14_put) := goodIn_app (goodIn_of _ (by decide +kernel)) ggX14_error_X14_put
set_option maxRecDepth 20000 in
theorem ggX14_error_X14_endAnswer_c0 : GoodIn wsX14_error ((wsX14_endAnswer.drop 0).take 60) := goodIn_r _ [107, 66, 67, 68, 5, 69, 7, 70, 71, 108, 109, 110, 111, 112, 113, 114, 115, 13, 14, 15, 16, 17, 18, 19, 20, 21, 22, 23, 24, 25, 26, 27, 28, 29, 30, 31, 32, 33, 34, 35, 36, 37, 38, 39, 40, 41, 42, 43, 44, 45, 46, 47, 48, 49, 50, 51, 52, 53, 54, 55] (by decide +kernel) (by decide +kernel)
set_option maxRecDepth 20000 in
theorem ggX14_error_X14_endAnswer_c60 : GoodIn wsX14_error ((wsX14_endAnswer.drop 60).take 60) := goodIn_r _ [56, 57, 58, 59, 60, 61, 62, 63, 64, 65, 92, 93, 94, 95, 96, 97, 98, 99, 116, 117, 118, 119, 120, 121, 122, 123, 124, 125, 126, 127, 128, 129, 130, 131, 132, 133, 134, 135, 136, 137, 138, 139, 140, 141, 142, 143, 144, 145, 146, 147, 148, 149, 150, 151, 152, 153, 154, 155, 156, 157] (by decide +kernel) (by decide +kernel)
set_option maxRecDepth 20000 in
theorem ggX14_error_X14_endAnswer_c120 : GoodIn wsX14_error (wsX14_endAnswer.drop 120) := goodIn_r _ [158, 159, 160, 161, 162, 163, 164, 165, 166, 167, 168, 169, 170, 171, 172, 173, 174, 175, 176, 177, 178, 179, 180, 181, 182, 183, 184, 185, 186, 187, 188, 189] (by decide +kernel) (by decide +kernel)
set_option maxRecDepth 20000 in
theorem ggX14_error_X14_endAnswer : GoodIn wsX14_error wsX14_endAnswer := (j_chunk 0 60 ggX14_error_X14_endAnswer_c0 (j_chunk 60 60 ggX14_error_X14_endAnswer_c60 ggX14_error_X14_endAnswer_c120))
set_option maxRecDepth 20000 in
theorem gX14_error_X14_endAnswer : GoodIn wsX14_error (wsV RX14 422 RX14 yX14_endAnswer wsX14_endAnswer) := goodIn_app (goodIn_of _ (by decide +kernel)) ggX14_error_X14_endAnswer
theorem dX14_error_0 : decode cX14_error 0 = .ok (.aload_n 0, 1) := by decide +kernel
theorem dX14_error_1 : decode cX14_error 1 = .ok (.invokevirtual 392, 3) := by decide +kernel
theorem dX14_error_4 : decode cX14_error 4 = .ok (.aload_n 0, 1) := by decide +kernel
theorem dX14_error_5 : decode cX14_error 5 = .ok (.ldc_w 400, 3) := by decide +kernel
theorem dX14_error_8 : decode cX14_error 8 = .ok (.invokevirtual 189, 3) := by decide +kernel
theorem dX14_error_11 : decode cX14_error 11 = .ok (.aload_n 0, 1) := by decide +kernel
theorem dX14_error_12 : decode cX14_error 12 = .ok (.iload_n 1, 1) := by decide +kernel
theorem dX14_error_13 : decode cX14_error 13 = .ok (.invokevirtual 208, 3) := by decide +kernel
theorem dX14_error_16 : decode cX14_error 16 = .ok (.aload_n 0, 1) := by decide +kernel
theorem dX14_error_17 : decode cX14_error 17 = .ok (.ldc_w 402, 3) := by decide +kernel
theorem dX14_error_20 : decode cX14_error 20 = .ok (.invokevirtual 189, 3) := by decide +kernel
theorem dX14_error_23 : decode cX14_error 23 = .ok (.aload_n 0, 1) := by decide +kernel
theorem dX14_error_24 : decode cX14_error 24 = .ok (.iload_n 1, 1) := by decide +kernel
theorem dX14_error_25 : decode cX14_error 25 = .ok (.sipush (-32700), 3) := by decide +kernel
theorem dX14_error_28 : decode cX14_error 28 = .ok (.if_icmp .ne 9, 3) := by decide +kernel
theorem dX14_error_31 : decode cX14_error 31 = .ok (.ldc_w 404, 3) := by decide +kernel
theorem dX14_error_34 : decode cX14_error 34 = .ok (.goto 71, 3) := by decide +kernel
theorem dX14_error_37 : decode cX14_error 37 = .ok (.iload_n 1, 1) := by decide +kernel
theorem dX14_error_38 : decode cX14_error 38 = .ok (.sipush (-32600), 3) := by decide +kernel
theorem dX14_error_41 : decode cX14_error 41 = .ok (.if_icmp .ne 9, 3) := by decide +kernel
theorem dX14_error_44 : decode cX14_error 44 = .ok (.ldc_w 406, 3) := by decide +kernel
theorem dX14_error_47 : decode cX14_error 47 = .ok (.goto 58, 3) := by decide +kernel
theorem dX14_error_50 : decode cX14_error 50 = .ok (.iload_n 1, 1) := by decide +kernel
theorem dX14_error_51 : decode cX14_error 51 = .ok (.sipush (-32601), 3) := by decide +kernel
theorem dX14_error_54 : decode cX14_error 54 = .ok (.if_icmp .ne 9, 3) := by decide +kernel
theorem dX14_error_57 : decode cX14_error 57 = .ok (.ldc_w 408, 3) := by decide +kernel
theorem dX14_error_60 : decode cX14_error 60 = .ok (.goto 45, 3) := by decide +kernel
theorem dX14_error_63 : decode cX14_error 63 = .ok (.iload_n 1, 1) := by decide +kernel
theorem dX14_error_64 : decode cX14_error 64 = .ok (.sipush (-32602), 3) := by decide +kernel
theorem dX14_error_67 : decode cX14_error 67 = .ok (.if_icmp .ne 9, 3) := by decide +kernel
theorem dX14_error_70 : decode cX14_error 70 = .ok (.ldc_w 410, 3) := by decide +kernel
theorem dX14_error_73 : decode cX14_error 73 = .ok (.goto 32, 3) := by decide +kernel
theorem dX14_error_76 : decode cX14_error 76 = .ok (.iload_n 1, 1) := by decide +kernel
theorem dX14_error_77 : decode cX14_error 77 = .ok (.sipush (-32002), 3) := by decide +kernel
theorem dX14_error_80 : decode cX14_error 80 = .ok (.if_icmp .ne 9, 3) := by decide +kernel
theorem dX14_error_83 : decode cX14_error 83 = .ok (.ldc_w 412, 3) := by decide +kernel
theorem dX14_error_86 : decode cX14_error 86 = .ok (.goto 19, 3) := by decide +kernel
theorem dX14_error_89 : decode cX14_error 89 = .ok (.iload_n 1, 1) := by decide +kernel
theorem dX14_error_90 : decode cX14_error 90 = .ok (.ldc_w 414, 3) := by decide +kernel
theorem dX14_error_93 : decode cX14_error 93 = .ok (.if_icmp .ne 9, 3) := by decide +kernel
theorem dX14_error_96 : decode cX14_error 96 = .ok (.ldc_w 415, 3) := by decide +kernel
theorem dX14_error_99 : decode cX14_error 99 = .ok (.goto 6, 3) := by decide +kernel
theorem dX14_error_102 : decode cX14_error 102 = .ok (.ldc_w 417, 3) := by decide +kernel
theorem dX14_error_105 : decode cX14_error 105 = .ok (.invokevirtual 419, 3) := by decide +kernel
theorem dX14_error_108 : decode cX14_error 108 = .ok (.aload_n 0, 1) := by decide +kernel
theorem dX14_error_109 : decode cX14_error 109 = .ok (.bipush 125, 2) := by decide +kernel
theorem dX14_error_111 : decode cX14_error 111 = .ok (.invokevirtual 172, 3) := by decide +kernel
theorem dX14_error_114 : decode cX14_error 114 = .ok (.aload_n 0, 1) := by decide +kernel
theorem dX14_error_115 : decode cX14_error 115 = .ok (.invokevirtual 422, 3) := by decide +kernel
theorem dX14_error_118 : decode cX14_error 118 = .ok (.return_, 1) := by decide +kernel
def EX14_string : List (Nat × Nat) := [(16, 6), (101, 0)]
def EX14_send : List (Nat × Nat) := [(16, 3), (16, 4), (16, 6), (101, 0)]
def EX14_feed : List (Nat × Nat) := [(16, 1), (110, 0)]
def EX14_out : List (Nat × Nat) := []
def EX14_take : List (Nat × Nat) := [(16, 3)]
def EX14_isText : List (Nat × Nat) := []
def EX14_member : List (Nat × Nat) := []
def EX14_isString : List (Nat × Nat) := []
def EX14_isString_ : List (Nat × Nat) := []
def EX14_isWhole : List (Nat × Nat) := []
def EX14_isId : List (Nat × Nat) := []
def EX14_beginAnswer : List (Nat × Nat) := [(16, 6), (101, 0)]
def EX14_beginResult : List (Nat × Nat) := [(16, 6), (101, 0)]
def EX14_endAnswer : List (Nat × Nat) := [(16, 3), (16, 4), (16, 6), (101, 0)]
def EX14_error : List (Nat × Nat) := [(16, 3), (16, 4), (16, 6), (101, 0)]
def qtx2426 : String := match tables_1[2426]? with | some (Jvm.Cond.stringRef _ _ t) => t | _ => ""
set_option maxHeartbeats 4000000 in
set_option maxRecDepth 20000 in
theorem uX14_string (l : Launch) (dC : Nat → ClassId) (dI : Nat → Nat → Nat) (ca : Nat → ClassId) (base : Nat) (B : jF) (hB : jBok B) (hAp : jAp (dC, dI)) (hB16 : ∀ n G a H, B 16 n G a H ↔ jOb (dC, dI) 16 74 (F16 n G) a H) (hB101 : ∀ n G a H, B 101 n G a H ↔ jAr (dC, dI) (ca 1) (fun j z => True) n a H) (G0 : jT) (H0 : Heap) (r0 : Nat) (r1 : Nat) (a2 : Int32) (a3 : Int32) (n1 : Nat) (pf : Int32) : Met l yX14_string wsX14_string ({ frames := 5, cells := 0, slots := 0, locals := 163 }) (va_Pc [.ref r0, .ref r1, .int a2, .int a3] (fun U => U.heap = H0 ∧ jX B base G0 [] H0 ∧ jG dC dI ca base U ∧ G0 r1 = some (101, n1) ∧ G0 r0 = some (16, 0) ∧ jP (dC, dI) G0 H0 [(r0, 16, 6, .int pf)] ∧ 0 ≤ pf.toInt ∧ pf.toInt ≤ 100000 ∧ 0 ≤ a2.toInt ∧ a3.toInt ≤ n1 ∧ n1 ≤ 200000)) (va_Qv (S := Int32) (fun u => pf.toInt ≤ u.toInt ∧ u.toInt ≤ 100000) (fun u t => jRt (dC, dI) B base G0 EX14_string H0 [(r0, 16, 6, .int u)] t.heap) (jA base)) 0 0 (jA base) := by
  refine Met.ofW (cc := cX14_string) (maxL := 7) (ret := none) (by decide) rfl ?_
  intro p e s m args below meth c s₁ Bd hml hv
  obtain ⟨rfl, hH0, hX, hG, hg_r1, hg_r0, hP0, hp0, hp1, hp2, hp3, hp4⟩ := hv
  have hK := hG.1
  have hx := Bd.exec
  have hb := Bd.bytes
  have hr := Bd.returns
  have hts := atoms_spec (ws := wsX14_string) Bd.pre
  have hown : s.vm.findClass RX14 = some m.cls := findClass_of_methodNamed Bd.named
  have hlocks := Bd.notSynchronized
  obtain ⟨Q, hQ⟩ : ∃ Q, Q = MQ below (va_Qv (S := Int32) (fun u => pf.toInt ≤ u.toInt ∧ u.toInt ≤ 100000) (fun u t => jRt (dC, dI) B base G0 EX14_string H0 [(r0, 16, 6, .int u)] t.heap) (jA base)) ([.ref r0, .ref r1, .int a2, .int a3] : List Value).toArray s 0 0 (jA base) := ⟨_, rfl⟩
  rw [← hQ]
  have hl := lv_entry ([.ref r0, .ref r1, .int a2, .int a3]) (n := 7) (Nat.le_of_ble_eq_true rfl)
  rw [lg_entry_eq]
  generalize (lg_sl ([.ref r0, .ref r1, .int a2, .int a3]) ++ List.replicate (7 - (lg_sl ([.ref r0, .ref r1, .int a2, .int a3])).length) Slot.unset).toArray = ls at hl ⊢
  have hl : lv_has ls 7 [(0, .ref r0), (1, .ref r1), (2, .int a2), (3, .int a3)] := hl
  generalize hR : (headSpec wsX14_string ({ frames := 5, cells := 0, slots := 0, locals := 163 })).room = R
  subst hH0
  have hh : jSt (dC, dI) B base G0 G0 EX14_string s.heap 0 0 [(r0, 16, 6, .int pf)] [] [] s.heap [] := jSt.start hX hP0 jMc.nil jIs.nil
  clear hX hP0
  have hk0 : (0 : Int32).toInt = 0 := by decide
  have hk1 : (1 : Int32).toInt = 1 := by decide
  have hk4 : (4 : Int32).toInt = 4 := by decide
  have hk10 : (10 : Int32).toInt = 10 := by decide
  have hk15 : (15 : Int32).toInt = 15 := by decide
  have hk32 : (32 : Int32).toInt = 32 := by decide
  have hk34 : (34 : Int32).toInt = 34 := by decide
  have hk92 : (92 : Int32).toInt = 92 := by decide
  have hk55296 : (55296 : Int32).toInt = 55296 := by decide
  have hk56319 : (56319 : Int32).toInt = 56319 := by decide
  have hk56320 : (56320 : Int32).toInt = 56320 := by decide
  have hk57343 : (57343 : Int32).toInt = 57343 := by decide
  have hk65533 : (65533 : Int32).toInt = 65533 := by decide
  have hk65536 : (65536 : Int32).toInt = 65536 := by decide
  have hrg_a2 := jb_rng a2
  have hrg_a3 := jb_rng a3
  refine lv_aload_n hx hb dX14_string_0 rfl (lv_at hl 0 rfl) ?_
  refine lv_bipush (v := 34) hx hb dX14_string_1 (by decide) ?_
  refine va_callv (A0 := jA base) (H0 := s.heap) (va_runV (As := [.int 34]) (rest := []) ⟨hx, hb, hml, hown, hts⟩ (uX14_put l dC dI ca base B hB hAp hB16 hB101 G0 s.heap r0 34 pf) (cwV 1 hts gX14_string_X14_put rfl rfl rfl (by decide +kernel) ⟨by rw [← hR]; exact Nat.le_of_ble_eq_true rfl, by rw [← hR]; exact Nat.le_of_ble_eq_true rfl⟩) ⟨fun a U g mk q => by obtain ⟨q0, q1, q2, qK, q10, q11, q12⟩ := q; exact ⟨q0, q1, q2, jG.calling g mk a qK, q10, q11, q12⟩, hh.recv (C := RX14) (T := TX14) (N := 74) hB16 rfl (by decide) hg_r0 hK, fun U hU hW => ⟨rfl, hU, hh.2.1, hG.step hW hU hh.1, hg_r0, (hh.2.2.1.sub (L1 := [(r0, 16, 6, .int pf)]) [0] rfl), by first | omega | (refine ⟨?_, ?_⟩ <;> (first | omega | rfl | assumption | decide | exact Or.inl rfl | exact Or.inr rfl | (simp only; omega)))⟩⟩ rfl rfl hl.1 rfl (lv_room (Nat.le_of_ble_eq_true rfl)) dX14_string_3 ⟨Nat.zero_le _, Nat.zero_le _⟩) hh.1 (fun q _ h => h) (fun q h => h) (fun u_1 t_1 H_1 locs_1 ht_1 hvm_1 hr_2 hb_1 hz_1 hk_1 hS_1 => ?_)
  obtain ⟨qf_1, rfl⟩ : ∃ z, z = u_1 := ⟨_, rfl⟩
  rw [ht_1] at hb_1
  obtain ⟨hb_11, hb_12, hb_13, hb_14, hb_15⟩ := hb_1
  have hh_1 : jSt (dC, dI) B base G0 G0 EX14_string s.heap 0 0 [(r0, 16, 6, .int qf_1)] [] [] H_1 locs_1 := (hh.call hb_11 hb_12 hb_13 hb_14 hS_1 rfl (L1 := []) [] rfl rfl (M1 := []) [] rfl rfl (I1 := []) [] rfl rfl).more hb_15
  clear hh ht_1 hvm_1 hz_1 hk_1 hS_1 hb_11 hb_12 hb_13 hb_14 hb_15
  obtain ⟨hr_2_0, hr_2_1⟩ := hr_2
  refine lv_iload_n hx hb dX14_string_6 rfl (lv_at hl 2 rfl) ?_
  refine lv_istore (lv' := [(4, .int a2), (0, .ref r0), (1, .ref r1), (2, .int a2), (3, .int a3)]) hx hb dX14_string_7 hl (by decide) rfl (fun ls hl => ?_)
  have L9 : ∀ (N : Nat) (v4_3 : Int32) (wf_3 : Int32) (H_3 : Heap) (locs_3 : List Loc), jSt (dC, dI) B base G0 G0 EX14_string s.heap 0 0 [(r0, 16, 6, .int wf_3)] [] [] H_3 locs_3 → (a2.toInt ≤ v4_3.toInt ∧ pf.toInt ≤ wf_3.toInt ∧ wf_3.toInt ≤ 100000) → (((a3.toInt - v4_3.toInt).toNat : Int) : Int) < N → ∀ ls : Array Slot, lv_has ls 7 [(0, .ref r0), (1, .ref r1), (2, .int a2), (3, .int a3), (4, .int v4_3)] → W p l e R s m ([.ref r0, .ref r1, .int a2, .int a3] : List Value).toArray below meth c H_3 locs_3 0 0 Q (F0 m 9 ls []) := by
    intro N
    induction N with
    | zero => intro v4_3 wf_3 H_3 locs_3 hh_3  hi_3 hm; exact absurd hm (by omega)
    | succ N L9 =>
      intro v4_3 wf_3 H_3 locs_3 hh_3  hi_3 hm_3 ls hl
      obtain ⟨hi_3_0, hi_3_1, hi_3_2⟩ := hi_3
      refine lv_iload hx hb dX14_string_9 (lv_at hl 4 rfl) ?_
      refine lv_iload_n hx hb dX14_string_11 rfl (lv_at hl 3 rfl) ?_
      refine lv_icmp_ge (tgt := 203) hx hb dX14_string_12 (by decide) (fun c_4 => ?_) (fun c_4 => ?_)
      · skip
        have c_4' : v4_3.toInt ≥ a3.toInt := jb_ge (rfl) (rfl) c_4
        refine lv_aload_n hx hb dX14_string_203 rfl (lv_at hl 0 rfl) ?_
        refine lv_bipush (v := 34) hx hb dX14_string_204 (by decide) ?_
        refine va_callv (A0 := jA base) (H0 := s.heap) (va_runV (As := [.int 34]) (rest := []) ⟨hx, hb, hml, hown, hts⟩ (uX14_put l dC dI ca base B hB hAp hB16 hB101 G0 H_3 r0 34 wf_3) (cwV 1 hts gX14_string_X14_put rfl rfl rfl (by decide +kernel) ⟨by rw [← hR]; exact Nat.le_of_ble_eq_true rfl, by rw [← hR]; exact Nat.le_of_ble_eq_true rfl⟩) ⟨fun a U g mk q => by obtain ⟨q0, q1, q2, qK, q10, q11, q12⟩ := q; exact ⟨q0, q1, q2, jG.calling g mk a qK, q10, q11, q12⟩, hh_3.recv (C := RX14) (T := TX14) (N := 74) hB16 rfl (by decide) hg_r0 hK, fun U hU hW => ⟨rfl, hU, hh_3.2.1, hG.step hW hU hh_3.1, hg_r0, (hh_3.2.2.1.sub (L1 := [(r0, 16, 6, .int wf_3)]) [0] rfl), by first | omega | (refine ⟨?_, ?_⟩ <;> (first | omega | rfl | assumption | decide | exact Or.inl rfl | exact Or.inr rfl | (simp only; omega)))⟩⟩ rfl rfl hl.1 rfl (lv_room (Nat.le_of_ble_eq_true rfl)) dX14_string_206 ⟨Nat.zero_le _, Nat.zero_le _⟩) hh_3.1 (fun q _ h => h) (fun q h => h) (fun u_5 t_5 H_5 locs_5 ht_5 hvm_5 hr_6 hb_5 hz_5 hk_5 hS_5 => ?_)
        obtain ⟨qf_5, rfl⟩ : ∃ z, z = u_5 := ⟨_, rfl⟩
        rw [ht_5] at hb_5
        obtain ⟨hb_51, hb_52, hb_53, hb_54, hb_55⟩ := hb_5
        have hh_5 : jSt (dC, dI) B base G0 G0 EX14_string s.heap 0 0 [(r0, 16, 6, .int qf_5)] [] [] H_5 locs_5 := (hh_3.call hb_51 hb_52 hb_53 hb_54 hS_5 rfl (L1 := []) [] rfl rfl (M1 := []) [] rfl rfl (I1 := []) [] rfl rfl).more hb_55
        clear hh_3 ht_5 hvm_5 hz_5 hk_5 hS_5 hb_51 hb_52 hb_53 hb_54 hb_55
        obtain ⟨hr_6_0, hr_6_1⟩ := hr_6
        rw [hQ]
        exact W.vret hx hb hr (fun t ht hW => ⟨⟨qf_5, rfl, by first | omega | (refine ⟨?_, ?_⟩ <;> (first | omega | rfl | assumption | decide | exact Or.inl rfl | exact Or.inr rfl | (simp only; omega))), hh_5.rt (M1 := [(r0, 16, 6, .int qf_5)]) [0] rfl ht⟩, by rw [ht]; try exact hh_5.1.1, fun q h9 hq => by rw [ht]; try exact hh_5.1.2.1 q h9 hq⟩) hh_5.1.2.2 dX14_string_209
      · skip
        have c_4' : v4_3.toInt < a3.toInt := jb_ge_n (rfl) (rfl) c_4
        refine lv_aload_n hx hb dX14_string_15 rfl (lv_at hl 1 rfl) ?_
        refine lv_iload hx hb dX14_string_16 (lv_at hl 4 rfl) ?_
        refine j7_iald hx hb hK hh_3 hB101 1 rfl (by decide) hg_r1 (rfl) (by omega) dX14_string_18 (fun z_7 (hz_7 : True) => ?_)
        refine lv_istore (lv' := [(5, .int z_7), (0, .ref r0), (1, .ref r1), (2, .int a2), (3, .int a3), (4, .int v4_3)]) hx hb dX14_string_19 hl (by decide) rfl (fun ls hl => ?_)
        refine lv_iload hx hb dX14_string_21 (lv_at hl 0 rfl) ?_
        refine lv_ldc hx hb hown (hts (.constant RX14 179 55296) (by decide +kernel)) dX14_string_23 ?_
        refine lv_ldc hx hb hown (hts (.constant RX14 180 56319) (by decide +kernel)) dX14_string_25 ?_
        refine va_calli (A0 := jA base) (H0 := s.heap) (va_runS (As := [.int z_7, .int 55296, .int 56319]) (rest := []) ⟨hx, hb, hml, hown, hts⟩ (uX14_in l dC dI ca base B hB hAp G0 H_3 z_7 55296 56319) (va_cwS 3 hts gX14_string_X14_in rfl rfl rfl (by decide +kernel) ⟨by rw [← hR]; exact Nat.le_of_ble_eq_true rfl, by rw [← hR]; exact Nat.le_of_ble_eq_true rfl⟩) ⟨fun a U g mk q => by obtain ⟨q0, q1, q2, qK, q10, q11⟩ := q; exact ⟨q0, q1, q2, jG.calling g mk a qK, q10, q11⟩, fun U hU hW => ⟨rfl, hU, hh_3.2.1, hG.step hW hU hh_3.1, jP.nil, trivial⟩⟩ rfl rfl hl.1 rfl (lv_room (Nat.le_of_ble_eq_true rfl)) dX14_string_27 ⟨Nat.zero_le _, Nat.zero_le _⟩) hh_3.1 (fun q _ h => h) (fun q h => h) (fun r_9 u_8 t_8 H_8 locs_8 ht_8 hvm_8 hr_9 hb_8 hz_8 hk_8 hS_8 => ?_)
        rw [ht_8] at hb_8
        obtain ⟨hb_81, hb_82, hb_83, hb_84, hb_85⟩ := hb_8
        have hh_8 : jSt (dC, dI) B base G0 G0 EX14_string s.heap 0 0 [(r0, 16, 6, .int wf_3)] [] [] H_8 locs_8 := (hh_3.call hb_81 hb_82 hb_83 hb_84 hS_8 rfl (L1 := [(r0, 16, 6, .int wf_3)]) [0] rfl rfl (M1 := []) [] rfl rfl (I1 := []) [] rfl rfl).more hb_85
        clear hh_3 ht_8 hvm_8 hz_8 hk_8 hS_8 hb_81 hb_82 hb_83 hb_84 hb_85
        obtain ⟨hr_9b, hr_9p⟩ := hr_9
        obtain ⟨hr_9p_0, hr_9p_1⟩ := hr_9p
        have hr_9' := jb_01 hr_9b
        have C62 : ∀ (w0_10 : Int32) (H_10 : Heap) (locs_10 : List Loc), jSt (dC, dI) B base G0 G0 EX14_string s.heap 0 0 [(r0, 16, 6, .int wf_3)] [] [] H_10 locs_10 → (w0_10 = 0 ∨ w0_10 = 1) → (w0_10.toInt = 0 ∨ v4_3.toInt + 1 < a3.toInt) → ∀ ls : Array Slot, lv_has ls 7 [(0, .ref r0), (1, .ref r1), (2, .int a2), (3, .int a3), (4, .int v4_3), (5, .int z_7)] → W p l e R s m ([.ref r0, .ref r1, .int a2, .int a3] : List Value).toArray below meth c H_10 locs_10 0 0 Q (F0 m 62 ls [.int w0_10]) := by
          intro w0_10 H_10 locs_10 hh_10 hb_w0_10 hi_10 ls hl
          have hb_w0_10' := jb_01 hb_w0_10
          refine lv_istore (lv' := [(6, .int w0_10), (0, .ref r0), (1, .ref r1), (2, .int a2), (3, .int a3), (4, .int v4_3), (5, .int z_7)]) hx hb dX14_string_62 hl (by decide) rfl (fun ls hl => ?_)
          refine lv_iload hx hb dX14_string_64 (lv_at hl 6 rfl) ?_
          refine lv_bipush (v := 34) hx hb dX14_string_66 (by decide) ?_
          refine lv_icmp_eq (tgt := 78) hx hb dX14_string_68 (by decide) (fun c_11 => ?_) (fun c_11 => ?_)
          · skip
            have c_11' : z_7.toInt = 34 := jb_eq (rfl) ((by decide)) c_11
            refine lv_aload_n hx hb dX14_string_78 rfl (lv_at hl 1 rfl) ?_
            refine lv_bipush (v := 92) hx hb dX14_string_79 (by decide) ?_
            refine va_callv (A0 := jA base) (H0 := s.heap) (va_runV (As := [.int 92]) (rest := []) ⟨hx, hb, hml, hown, hts⟩ (uX14_put l dC dI ca base B hB hAp hB16 hB101 G0 H_10 r0 92 wf_3) (cwV 1 hts gX14_string_X14_put rfl rfl rfl (by decide +kernel) ⟨by rw [← hR]; exact Nat.le_of_ble_eq_true rfl, by rw [← hR]; exact Nat.le_of_ble_eq_true rfl⟩) ⟨fun a U g mk q => by obtain ⟨q0, q1, q2, qK, q10, q11, q12⟩ := q; exact ⟨q0, q1, q2, jG.calling g mk a qK, q10, q11, q12⟩, hh_10.recv (C := RX14) (T := TX14) (N := 74) hB16 rfl (by decide) hg_r0 hK, fun U hU hW => ⟨rfl, hU, hh_10.2.1, hG.step hW hU hh_10.1, hg_r0, (hh_10.2.2.1.sub (L1 := [(r0, 16, 6, .int wf_3)]) [0] rfl), by first | omega | (refine ⟨?_, ?_⟩ <;> (first | omega | rfl | assumption | decide | exact Or.inl rfl | exact Or.inr rfl | (simp only; omega)))⟩⟩ rfl rfl hl.1 rfl (lv_room (Nat.le_of_ble_eq_true rfl)) dX14_string_81 ⟨Nat.zero_le _, Nat.zero_le _⟩) hh_10.1 (fun q _ h => h) (fun q h => h) (fun u_12 t_12 H_12 locs_12 ht_12 hvm_12 hr_13 hb_12 hz_12 hk_12 hS_12 => ?_)
            obtain ⟨qf_12, rfl⟩ : ∃ z, z = u_12 := ⟨_, rfl⟩
            rw [ht_12] at hb_12
            obtain ⟨hb_121, hb_122, hb_123, hb_124, hb_125⟩ := hb_12
            have hh_12 : jSt (dC, dI) B base G0 G0 EX14_string s.heap 0 0 [(r0, 16, 6, .int qf_12)] [] [] H_12 locs_12 := (hh_10.call hb_121 hb_122 hb_123 hb_124 hS_12 rfl (L1 := []) [] rfl rfl (M1 := []) [] rfl rfl (I1 := []) [] rfl rfl).more hb_125
            clear hh_10 ht_12 hvm_12 hz_12 hk_12 hS_12 hb_121 hb_122 hb_123 hb_124 hb_125
            obtain ⟨hr_13_0, hr_13_1⟩ := hr_13
            refine lv_aload_n hx hb dX14_string_84 rfl (lv_at hl 1 rfl) ?_
            refine lv_iload hx hb dX14_string_85 (lv_at hl 6 rfl) ?_
            refine va_callv (A0 := jA base) (H0 := s.heap) (va_runV (As := [.int z_7]) (rest := []) ⟨hx, hb, hml, hown, hts⟩ (uX14_put l dC dI ca base B hB hAp hB16 hB101 G0 H_12 r0 z_7 qf_12) (cwV 1 hts gX14_string_X14_put rfl rfl rfl (by decide +kernel) ⟨by rw [← hR]; exact Nat.le_of_ble_eq_true rfl, by rw [← hR]; exact Nat.le_of_ble_eq_true rfl⟩) ⟨fun a U g mk q => by obtain ⟨q0, q1, q2, qK, q10, q11, q12⟩ := q; exact ⟨q0, q1, q2, jG.calling g mk a qK, q10, q11, q12⟩, hh_12.recv (C := RX14) (T := TX14) (N := 74) hB16 rfl (by decide) hg_r0 hK, fun U hU hW => ⟨rfl, hU, hh_12.2.1, hG.step hW hU hh_12.1, hg_r0, (hh_12.2.2.1.sub (L1 := [(r0, 16, 6, .int qf_12)]) [0] rfl), by first | omega | (refine ⟨?_, ?_⟩ <;> (first | omega | rfl | assumption | decide | exact Or.inl rfl | exact Or.inr rfl | (simp only; omega)))⟩⟩ rfl rfl hl.1 rfl (lv_room (Nat.le_of_ble_eq_true rfl)) dX14_string_87 ⟨Nat.zero_le _, Nat.zero_le _⟩) hh_12.1 (fun q _ h => h) (fun q h => h) (fun u_14 t_14 H_14 locs_14 ht_14 hvm_14 hr_15 hb_14 hz_14 hk_14 hS_14 => ?_)
            obtain ⟨qf_14, rfl⟩ : ∃ z, z = u_14 := ⟨_, rfl⟩
            rw [ht_14] at hb_14
            obtain ⟨hb_141, hb_142, hb_143, hb_144, hb_145⟩ := hb_14
            have hh_14 : jSt (dC, dI) B base G0 G0 EX14_string s.heap 0 0 [(r0, 16, 6, .int qf_14)] [] [] H_14 locs_14 := (hh_12.call hb_141 hb_142 hb_143 hb_144 hS_14 rfl (L1 := []) [] rfl rfl (M1 := []) [] rfl rfl (I1 := []) [] rfl rfl).more hb_145
            clear hh_12 ht_14 hvm_14 hz_14 hk_14 hS_14 hb_141 hb_142 hb_143 hb_144 hb_145
            obtain ⟨hr_15_0, hr_15_1⟩ := hr_15
            refine lv_goto (tgt := 197) hx hb dX14_string_90 (by decide) ?_
            obtain ⟨z_16, ez_16⟩ : ∃ y : Int32, y = v4_3 + 1 := ⟨_, rfl⟩
            refine lv_iinc (v := z_16) (lv' := [(4, .int z_16), (6, .int w0_10), (0, .ref r0), (1, .ref r1), (2, .int a2), (3, .int a3), (5, .int z_7)]) hx hb dX14_string_197 hl (k := 5) rfl (by rw [ez_16]; rfl) (by decide) rfl (fun ls hl => ?_)
            have hz_16 : z_16.toInt = v4_3.toInt + 1 := by rw [ez_16]; exact jb_iadd2 (rfl) (by decide) (by omega)
            refine lv_goto (tgt := 9) hx hb dX14_string_200 (by decide) ?_
            exact L9 z_16 qf_14 _ _ hh_14 (by first | omega | (refine ⟨?_, ?_, ?_⟩ <;> (first | omega | rfl | assumption | decide | exact Or.inl rfl | exact Or.inr rfl | (simp only; omega)))) (by omega) _ (lv_sub hl [2, 3, 4, 5, 0] rfl)
          · skip
            have c_11' : z_7.toInt ≠ 34 := jb_eq_n (rfl) ((by decide)) c_11
            refine lv_iload hx hb dX14_string_71 (lv_at hl 6 rfl) ?_
            refine lv_bipush (v := 92) hx hb dX14_string_73 (by decide) ?_
            refine lv_icmp_ne (tgt := 93) hx hb dX14_string_75 (by decide) (fun c_17 => ?_) (fun c_17 => ?_)
            · skip
              have c_17' : z_7.toInt ≠ 92 := jb_ne (rfl) ((by decide)) c_17
              refine lv_iload hx hb dX14_string_93 (lv_at hl 6 rfl) ?_
              refine lv_bipush (v := 32) hx hb dX14_string_95 (by decide) ?_
              refine lv_icmp_ge (tgt := 138) hx hb dX14_string_97 (by decide) (fun c_18 => ?_) (fun c_18 => ?_)
              · skip
                have c_18' : z_7.toInt ≥ 32 := jb_ge (rfl) ((by decide)) c_18
                refine lv_iload hx hb dX14_string_138 (lv_at hl 0 rfl) ?_
                refine lv_if_eq (tgt := 174) hx hb dX14_string_140 (by decide) (fun c_19 => ?_) (fun c_19 => ?_)
                · skip
                  have c_19' : w0_10.toInt = 0 := jb_eq (rfl) ((by decide)) c_19
                  refine lv_aload_n hx hb dX14_string_174 rfl (lv_at hl 1 rfl) ?_
                  refine lv_iload hx hb dX14_string_175 (lv_at hl 6 rfl) ?_
                  refine lv_ldc hx hb hown (hts (.constant RX14 179 55296) (by decide +kernel)) dX14_string_177 ?_
                  refine lv_ldc hx hb hown (hts (.constant RX14 186 57343) (by decide +kernel)) dX14_string_179 ?_
                  refine va_calli (A0 := jA base) (H0 := s.heap) (va_runS (As := [.int z_7, .int 55296, .int 57343]) (rest := [.ref r0]) ⟨hx, hb, hml, hown, hts⟩ (uX14_in l dC dI ca base B hB hAp G0 H_10 z_7 55296 57343) (va_cwS 3 hts gX14_string_X14_in rfl rfl rfl (by decide +kernel) ⟨by rw [← hR]; exact Nat.le_of_ble_eq_true rfl, by rw [← hR]; exact Nat.le_of_ble_eq_true rfl⟩) ⟨fun a U g mk q => by obtain ⟨q0, q1, q2, qK, q10, q11⟩ := q; exact ⟨q0, q1, q2, jG.calling g mk a qK, q10, q11⟩, fun U hU hW => ⟨rfl, hU, hh_10.2.1, hG.step hW hU hh_10.1, jP.nil, trivial⟩⟩ rfl rfl hl.1 rfl (lv_room (Nat.le_of_ble_eq_true rfl)) dX14_string_181 ⟨Nat.zero_le _, Nat.zero_le _⟩) hh_10.1 (fun q _ h => h) (fun q h => h) (fun r_21 u_20 t_20 H_20 locs_20 ht_20 hvm_20 hr_21 hb_20 hz_20 hk_20 hS_20 => ?_)
                  rw [ht_20] at hb_20
                  obtain ⟨hb_201, hb_202, hb_203, hb_204, hb_205⟩ := hb_20
                  have hh_20 : jSt (dC, dI) B base G0 G0 EX14_string s.heap 0 0 [(r0, 16, 6, .int wf_3)] [] [] H_20 locs_20 := (hh_10.call hb_201 hb_202 hb_203 hb_204 hS_20 rfl (L1 := [(r0, 16, 6, .int wf_3)]) [0] rfl rfl (M1 := []) [] rfl rfl (I1 := []) [] rfl rfl).more hb_205
                  clear hh_10 ht_20 hvm_20 hz_20 hk_20 hS_20 hb_201 hb_202 hb_203 hb_204 hb_205
                  obtain ⟨hr_21b, hr_21p⟩ := hr_21
                  obtain ⟨hr_21p_0, hr_21p_1⟩ := hr_21p
                  have hr_21' := jb_01 hr_21b
                  refine lv_if_eq (tgt := 192) hx hb dX14_string_184 (by decide) (fun c_22 => ?_) (fun c_22 => ?_)
                  · skip
                    have c_22' : r_21.toInt = 0 := jb_eq (rfl) ((by decide)) c_22
                    refine lv_iload hx hb dX14_string_192 (lv_at hl 6 rfl) ?_
                    refine va_callv (A0 := jA base) (H0 := s.heap) (va_runV (As := [.int z_7]) (rest := []) ⟨hx, hb, hml, hown, hts⟩ (uX14_utf8 l dC dI ca base B hB hAp hB16 hB101 G0 H_20 r0 z_7 wf_3) (cwV 1 hts gX14_string_X14_utf8 rfl rfl rfl (by decide +kernel) ⟨by rw [← hR]; exact Nat.le_of_ble_eq_true rfl, by rw [← hR]; exact Nat.le_of_ble_eq_true rfl⟩) ⟨fun a U g mk q => by obtain ⟨q0, q1, q2, qK, q10, q11, q12⟩ := q; exact ⟨q0, q1, q2, jG.calling g mk a qK, q10, q11, q12⟩, hh_20.recv (C := RX14) (T := TX14) (N := 74) hB16 rfl (by decide) hg_r0 hK, fun U hU hW => ⟨rfl, hU, hh_20.2.1, hG.step hW hU hh_20.1, hg_r0, (hh_20.2.2.1.sub (L1 := [(r0, 16, 6, .int wf_3)]) [0] rfl), by first | omega | (refine ⟨?_, ?_⟩ <;> (first | omega | rfl | assumption | decide | exact Or.inl rfl | exact Or.inr rfl | (simp only; omega)))⟩⟩ rfl rfl hl.1 rfl (lv_room (Nat.le_of_ble_eq_true rfl)) dX14_string_194 ⟨Nat.zero_le _, Nat.zero_le _⟩) hh_20.1 (fun q _ h => h) (fun q h => h) (fun u_23 t_23 H_23 locs_23 ht_23 hvm_23 hr_24 hb_23 hz_23 hk_23 hS_23 => ?_)
                    obtain ⟨qf_23, rfl⟩ : ∃ z, z = u_23 := ⟨_, rfl⟩
                    rw [ht_23] at hb_23
                    obtain ⟨hb_231, hb_232, hb_233, hb_234, hb_235⟩ := hb_23
                    have hh_23 : jSt (dC, dI) B base G0 G0 EX14_string s.heap 0 0 [(r0, 16, 6, .int qf_23)] [] [] H_23 locs_23 := (hh_20.call hb_231 hb_232 hb_233 hb_234 hS_23 rfl (L1 := []) [] rfl rfl (M1 := []) [] rfl rfl (I1 := []) [] rfl rfl).more hb_235
                    clear hh_20 ht_23 hvm_23 hz_23 hk_23 hS_23 hb_231 hb_232 hb_233 hb_234 hb_235
                    obtain ⟨hr_24_0, hr_24_1⟩ := hr_24
                    obtain ⟨z_25, ez_25⟩ : ∃ y : Int32, y = v4_3 + 1 := ⟨_, rfl⟩
                    refine lv_iinc (v := z_25) (lv' := [(4, .int z_25), (6, .int w0_10), (0, .ref r0), (1, .ref r1), (2, .int a2), (3, .int a3), (5, .int z_7)]) hx hb dX14_string_197 hl (k := 5) rfl (by rw [ez_25]; rfl) (by decide) rfl (fun ls hl => ?_)
                    have hz_25 : z_25.toInt = v4_3.toInt + 1 := by rw [ez_25]; exact jb_iadd2 (rfl) (by decide) (by omega)
                    refine lv_goto (tgt := 9) hx hb dX14_string_200 (by decide) ?_
                    exact L9 z_25 qf_23 _ _ hh_23 (by first | omega | (refine ⟨?_, ?_, ?_⟩ <;> (first | omega | rfl | assumption | decide | exact Or.inl rfl | exact Or.inr rfl | (simp only; omega)))) (by omega) _ (lv_sub hl [2, 3, 4, 5, 0] rfl)
                  · skip
                    have c_22' : r_21.toInt ≠ 0 := jb_eq_n (rfl) ((by decide)) c_22
                    refine lv_ldc hx hb hown (hts (.constant RX14 201 65533) (by decide +kernel)) dX14_string_187 ?_
                    refine lv_goto (tgt := 194) hx hb dX14_string_189 (by decide) ?_
                    refine va_callv (A0 := jA base) (H0 := s.heap) (va_runV (As := [.int 65533]) (rest := []) ⟨hx, hb, hml, hown, hts⟩ (uX14_utf8 l dC dI ca base B hB hAp hB16 hB101 G0 H_20 r0 65533 wf_3) (cwV 1 hts gX14_string_X14_utf8 rfl rfl rfl (by decide +kernel) ⟨by rw [← hR]; exact Nat.le_of_ble_eq_true rfl, by rw [← hR]; exact Nat.le_of_ble_eq_true rfl⟩) ⟨fun a U g mk q => by obtain ⟨q0, q1, q2, qK, q10, q11, q12⟩ := q; exact ⟨q0, q1, q2, jG.calling g mk a qK, q10, q11, q12⟩, hh_20.recv (C := RX14) (T := TX14) (N := 74) hB16 rfl (by decide) hg_r0 hK, fun U hU hW => ⟨rfl, hU, hh_20.2.1, hG.step hW hU hh_20.1, hg_r0, (hh_20.2.2.1.sub (L1 := [(r0, 16, 6, .int wf_3)]) [0] rfl), by first | omega | (refine ⟨?_, ?_⟩ <;> (first | omega | rfl | assumption | decide | exact Or.inl rfl | exact Or.inr rfl | (simp only; omega)))⟩⟩ rfl rfl hl.1 rfl (lv_room (Nat.le_of_ble_eq_true rfl)) dX14_string_194 ⟨Nat.zero_le _, Nat.zero_le _⟩) hh_20.1 (fun q _ h => h) (fun q h => h) (fun u_26 t_26 H_26 locs_26 ht_26 hvm_26 hr_27 hb_26 hz_26 hk_26 hS_26 => ?_)
                    obtain ⟨qf_26, rfl⟩ : ∃ z, z = u_26 := ⟨_, rfl⟩
                    rw [ht_26] at hb_26
                    obtain ⟨hb_261, hb_262, hb_263, hb_264, hb_265⟩ := hb_26
                    have hh_26 : jSt (dC, dI) B base G0 G0 EX14_string s.heap 0 0 [(r0, 16, 6, .int qf_26)] [] [] H_26 locs_26 := (hh_20.call hb_261 hb_262 hb_263 hb_264 hS_26 rfl (L1 := []) [] rfl rfl (M1 := []) [] rfl rfl (I1 := []) [] rfl rfl).more hb_265
                    clear hh_20 ht_26 hvm_26 hz_26 hk_26 hS_26 hb_261 hb_262 hb_263 hb_264 hb_265
                    obtain ⟨hr_27_0, hr_27_1⟩ := hr_27
                    obtain ⟨z_28, ez_28⟩ : ∃ y : Int32, y = v4_3 + 1 := ⟨_, rfl⟩
                    refine lv_iinc (v := z_28) (lv' := [(4, .int z_28), (6, .int w0_10), (0, .ref r0), (1, .ref r1), (2, .int a2), (3, .int a3), (5, .int z_7)]) hx hb dX14_string_197 hl (k := 5) rfl (by rw [ez_28]; rfl) (by decide) rfl (fun ls hl => ?_)
                    have hz_28 : z_28.toInt = v4_3.toInt + 1 := by rw [ez_28]; exact jb_iadd2 (rfl) (by decide) (by omega)
                    refine lv_goto (tgt := 9) hx hb dX14_string_200 (by decide) ?_
                    exact L9 z_28 qf_26 _ _ hh_26 (by first | omega | (refine ⟨?_, ?_, ?_⟩ <;> (first | omega | rfl | assumption | decide | exact Or.inl rfl | exact Or.inr rfl | (simp only; omega)))) (by omega) _ (lv_sub hl [2, 3, 4, 5, 0] rfl)
                · skip
                  have c_19' : w0_10.toInt ≠ 0 := jb_eq_n (rfl) ((by decide)) c_19
                  refine lv_aload_n hx hb dX14_string_143 rfl (lv_at hl 1 rfl) ?_
                  refine lv_ldc hx hb hown (hts (.constant RX14 197 65536) (by decide +kernel)) dX14_string_144 ?_
                  refine lv_iload hx hb dX14_string_146 (lv_at hl 6 rfl) ?_
                  refine lv_ldc hx hb hown (hts (.constant RX14 179 55296) (by decide +kernel)) dX14_string_148 ?_
                  refine lv_isub hx hb dX14_string_150 ?_
                  refine lv_topi (fun z_29 ez_29 => ?_)
                  refine lv_bipush (v := 10) hx hb dX14_string_151 (by decide) ?_
                  refine lv_ishl hx hb dX14_string_153 ?_
                  refine lv_topi (fun z_30 ez_30 => ?_)
                  refine lv_iadd hx hb dX14_string_154 ?_
                  refine lv_topi (fun z_31 ez_31 => ?_)
                  refine lv_aload_n hx hb dX14_string_155 rfl (lv_at hl 2 rfl) ?_
                  refine lv_iload hx hb dX14_string_156 (lv_at hl 5 rfl) ?_
                  refine lv_iconst (v := 1) hx hb dX14_string_158 (by decide) ?_
                  refine lv_iadd hx hb dX14_string_159 ?_
                  refine lv_topi (fun z_32 ez_32 => ?_)
                  have hz_32 : z_32.toInt = v4_3.toInt + 1 := by rw [ez_32]; exact jb_iadd2 (rfl) ((by decide)) (by omega)
                  refine j7_iald hx hb hK hh_10 hB101 1 rfl (by decide) hg_r1 (rfl) (by omega) dX14_string_160 (fun z_33 (hz_33 : True) => ?_)
                  refine lv_iadd hx hb dX14_string_161 ?_
                  refine lv_topi (fun z_34 ez_34 => ?_)
                  refine lv_ldc hx hb hown (hts (.constant RX14 185 56320) (by decide +kernel)) dX14_string_162 ?_
                  refine lv_isub hx hb dX14_string_164 ?_
                  refine lv_topi (fun z_35 ez_35 => ?_)
                  refine va_callv (A0 := jA base) (H0 := s.heap) (va_runV (As := [.int z_35]) (rest := []) ⟨hx, hb, hml, hown, hts⟩ (uX14_utf8 l dC dI ca base B hB hAp hB16 hB101 G0 H_10 r0 z_35 wf_3) (cwV 1 hts gX14_string_X14_utf8 rfl rfl rfl (by decide +kernel) ⟨by rw [← hR]; exact Nat.le_of_ble_eq_true rfl, by rw [← hR]; exact Nat.le_of_ble_eq_true rfl⟩) ⟨fun a U g mk q => by obtain ⟨q0, q1, q2, qK, q10, q11, q12⟩ := q; exact ⟨q0, q1, q2, jG.calling g mk a qK, q10, q11, q12⟩, hh_10.recv (C := RX14) (T := TX14) (N := 74) hB16 rfl (by decide) hg_r0 hK, fun U hU hW => ⟨rfl, hU, hh_10.2.1, hG.step hW hU hh_10.1, hg_r0, (hh_10.2.2.1.sub (L1 := [(r0, 16, 6, .int wf_3)]) [0] rfl), by first | omega | (refine ⟨?_, ?_⟩ <;> (first | omega | rfl | assumption | decide | exact Or.inl rfl | exact Or.inr rfl | (simp only; omega)))⟩⟩ rfl rfl hl.1 rfl (lv_room (Nat.le_of_ble_eq_true rfl)) dX14_string_165 ⟨Nat.zero_le _, Nat.zero_le _⟩) hh_10.1 (fun q _ h => h) (fun q h => h) (fun u_36 t_36 H_36 locs_36 ht_36 hvm_36 hr_37 hb_36 hz_36 hk_36 hS_36 => ?_)
                  obtain ⟨qf_36, rfl⟩ : ∃ z, z = u_36 := ⟨_, rfl⟩
                  rw [ht_36] at hb_36
                  obtain ⟨hb_361, hb_362, hb_363, hb_364, hb_365⟩ := hb_36
                  have hh_36 : jSt (dC, dI) B base G0 G0 EX14_string s.heap 0 0 [(r0, 16, 6, .int qf_36)] [] [] H_36 locs_36 := (hh_10.call hb_361 hb_362 hb_363 hb_364 hS_36 rfl (L1 := []) [] rfl rfl (M1 := []) [] rfl rfl (I1 := []) [] rfl rfl).more hb_365
                  clear hh_10 ht_36 hvm_36 hz_36 hk_36 hS_36 hb_361 hb_362 hb_363 hb_364 hb_365
                  obtain ⟨hr_37_0, hr_37_1⟩ := hr_37
                  obtain ⟨z_38, ez_38⟩ : ∃ y : Int32, y = v4_3 + 1 := ⟨_, rfl⟩
                  refine lv_iinc (v := z_38) (lv' := [(4, .int z_38), (6, .int w0_10), (0, .ref r0), (1, .ref r1), (2, .int a2), (3, .int a3), (5, .int z_7)]) hx hb dX14_string_168 hl (k := 5) rfl (by rw [ez_38]; rfl) (by decide) rfl (fun ls hl => ?_)
                  have hz_38 : z_38.toInt = v4_3.toInt + 1 := by rw [ez_38]; exact jb_iadd2 (rfl) (by decide) (by omega)
                  refine lv_goto (tgt := 197) hx hb dX14_string_171 (by decide) ?_
                  obtain ⟨z_39, ez_39⟩ : ∃ y : Int32, y = z_38 + 1 := ⟨_, rfl⟩
                  refine lv_iinc (v := z_39) (lv' := [(4, .int z_39), (6, .int w0_10), (0, .ref r0), (1, .ref r1), (2, .int a2), (3, .int a3), (5, .int z_7)]) hx hb dX14_string_197 hl (k := 0) rfl (by rw [ez_39]; rfl) (by decide) rfl (fun ls hl => ?_)
                  have hz_39 : z_39.toInt = z_38.toInt + 1 := by rw [ez_39]; exact jb_iadd2 (rfl) (by decide) (by omega)
                  refine lv_goto (tgt := 9) hx hb dX14_string_200 (by decide) ?_
                  exact L9 z_39 qf_36 _ _ hh_36 (by first | omega | (refine ⟨?_, ?_, ?_⟩ <;> (first | omega | rfl | assumption | decide | exact Or.inl rfl | exact Or.inr rfl | (simp only; omega)))) (by omega) _ (lv_sub hl [2, 3, 4, 5, 0] rfl)
              · skip
                have c_18' : z_7.toInt < 32 := jb_ge_n (rfl) ((by decide)) c_18
                refine lv_aload_n hx hb dX14_string_100 rfl (lv_at hl 1 rfl) ?_
                refine lv_bipush (v := 92) hx hb dX14_string_101 (by decide) ?_
                refine va_callv (A0 := jA base) (H0 := s.heap) (va_runV (As := [.int 92]) (rest := []) ⟨hx, hb, hml, hown, hts⟩ (uX14_put l dC dI ca base B hB hAp hB16 hB101 G0 H_10 r0 92 wf_3) (cwV 1 hts gX14_string_X14_put rfl rfl rfl (by decide +kernel) ⟨by rw [← hR]; exact Nat.le_of_ble_eq_true rfl, by rw [← hR]; exact Nat.le_of_ble_eq_true rfl⟩) ⟨fun a U g mk q => by obtain ⟨q0, q1, q2, qK, q10, q11, q12⟩ := q; exact ⟨q0, q1, q2, jG.calling g mk a qK, q10, q11, q12⟩, hh_10.recv (C := RX14) (T := TX14) (N := 74) hB16 rfl (by decide) hg_r0 hK, fun U hU hW => ⟨rfl, hU, hh_10.2.1, hG.step hW hU hh_10.1, hg_r0, (hh_10.2.2.1.sub (L1 := [(r0, 16, 6, .int wf_3)]) [0] rfl), by first | omega | (refine ⟨?_, ?_⟩ <;> (first | omega | rfl | assumption | decide | exact Or.inl rfl | exact Or.inr rfl | (simp only; omega)))⟩⟩ rfl rfl hl.1 rfl (lv_room (Nat.le_of_ble_eq_true rfl)) dX14_string_103 ⟨Nat.zero_le _, Nat.zero_le _⟩) hh_10.1 (fun q _ h => h) (fun q h => h) (fun u_40 t_40 H_40 locs_40 ht_40 hvm_40 hr_41 hb_40 hz_40 hk_40 hS_40 => ?_)
                obtain ⟨qf_40, rfl⟩ : ∃ z, z = u_40 := ⟨_, rfl⟩
                rw [ht_40] at hb_40
                obtain ⟨hb_401, hb_402, hb_403, hb_404, hb_405⟩ := hb_40
                have hh_40 : jSt (dC, dI) B base G0 G0 EX14_string s.heap 0 0 [(r0, 16, 6, .int qf_40)] [] [] H_40 locs_40 := (hh_10.call hb_401 hb_402 hb_403 hb_404 hS_40 rfl (L1 := []) [] rfl rfl (M1 := []) [] rfl rfl (I1 := []) [] rfl rfl).more hb_405
                clear hh_10 ht_40 hvm_40 hz_40 hk_40 hS_40 hb_401 hb_402 hb_403 hb_404 hb_405
                obtain ⟨hr_41_0, hr_41_1⟩ := hr_41
                refine lv_aload_n hx hb dX14_string_106 rfl (lv_at hl 1 rfl) ?_
                obtain ⟨str_42, rstr_42, hstr_420⟩ := hG.str (o := RX14) (k := 187) (tx := "u00") (List.mem_of_getElem? (i := 2403) (by decide +kernel))
                have hstr_42 : jStr base str_42 3 s s.heap := hstr_420
                refine va_ldcS hx hb hown rstr_42 dX14_string_107 ?_
                refine va_callv (A0 := jA base) (H0 := s.heap) (va_runV (As := [.ref str_42]) (rest := []) ⟨hx, hb, hml, hown, hts⟩ (uX14_word l dC dI ca base B hB hAp hB16 hB101 G0 H_40 r0 str_42 3 qf_40) (cwV 1 hts gX14_string_X14_word rfl rfl rfl (by decide +kernel) ⟨by rw [← hR]; exact Nat.le_of_ble_eq_true rfl, by rw [← hR]; exact Nat.le_of_ble_eq_true rfl⟩) ⟨fun a U g mk q => by obtain ⟨q0, q1, q2, qK, q10, q11, q12, q13⟩ := q; exact ⟨q0, q1, q2, jG.calling g mk a qK, (q10.moved (Vm.Alike.refl U.vm)), q11, q12, q13⟩, hh_40.recv (C := RX14) (T := TX14) (N := 74) hB16 rfl (by decide) hg_r0 hK, fun U hU hW => ⟨rfl, hU, hh_40.2.1, hG.step hW hU hh_40.1, (hstr_42.moved hW.alike).kept hh_40.1.2.1, hg_r0, (hh_40.2.2.1.sub (L1 := [(r0, 16, 6, .int qf_40)]) [0] rfl), by first | omega | (refine ⟨?_, ?_, ?_⟩ <;> (first | omega | rfl | assumption | decide | exact Or.inl rfl | exact Or.inr rfl | (simp only; omega)))⟩⟩ rfl rfl hl.1 rfl (lv_room (Nat.le_of_ble_eq_true rfl)) dX14_string_109 ⟨Nat.zero_le _, Nat.zero_le _⟩) hh_40.1 (fun q _ h => h) (fun q h => h) (fun u_43 t_43 H_43 locs_43 ht_43 hvm_43 hr_44 hb_43 hz_43 hk_43 hS_43 => ?_)
                obtain ⟨qf_43, rfl⟩ : ∃ z, z = u_43 := ⟨_, rfl⟩
                rw [ht_43] at hb_43
                obtain ⟨hb_431, hb_432, hb_433, hb_434, hb_435⟩ := hb_43
                have hh_43 : jSt (dC, dI) B base G0 G0 EX14_string s.heap 0 0 [(r0, 16, 6, .int qf_43)] [] [] H_43 locs_43 := (hh_40.call hb_431 hb_432 hb_433 hb_434 hS_43 rfl (L1 := []) [] rfl rfl (M1 := []) [] rfl rfl (I1 := []) [] rfl rfl).more hb_435
                clear hh_40 ht_43 hvm_43 hz_43 hk_43 hS_43 hb_431 hb_432 hb_433 hb_434 hb_435
                obtain ⟨hr_44_0, hr_44_1⟩ := hr_44
                refine lv_aload_n hx hb dX14_string_112 rfl (lv_at hl 1 rfl) ?_
                refine lv_iload hx hb dX14_string_113 (lv_at hl 6 rfl) ?_
                refine lv_iconst (v := 4) hx hb dX14_string_115 (by decide) ?_
                refine lv_ishr hx hb dX14_string_116 ?_
                refine lv_topi (fun z_45 ez_45 => ?_)
                have hz_45 : z_45.toInt = z_7.toInt / 2 ^ 4 := by rw [ez_45]; exact jb_ishr 4 (rfl) (by decide)
                refine vp_callSi (W.runS (As := [.int z_45]) (rest := [.ref r0]) ⟨hx, hb, hml, hown, hts⟩ (kX14_hex l dC dI ca base H_43 z_45) (va_cwS 1 hts gX14_string_X14_hex rfl rfl rfl (by decide +kernel) ⟨by rw [← hR]; exact Nat.le_of_ble_eq_true rfl, by rw [← hR]; exact Nat.le_of_ble_eq_true rfl⟩) ⟨fun a U g mk q => by obtain ⟨q0, q1, qK, q9⟩ := q; exact ⟨q0, q1, jG.calling g mk a qK, q9⟩, fun U hU hW => ⟨rfl, hU, hG.step hW hU hh_43.1, by first | trivial | omega | (constructor <;> omega)⟩⟩ rfl rfl hl.1 rfl (lv_room (Nat.le_of_ble_eq_true rfl)) dX14_string_117 ⟨Nat.zero_le _, Nat.zero_le _⟩) (fun r_46 hr_46 => ?_)
                refine va_callv (A0 := jA base) (H0 := s.heap) (va_runV (As := [.int r_46]) (rest := []) ⟨hx, hb, hml, hown, hts⟩ (uX14_put l dC dI ca base B hB hAp hB16 hB101 G0 H_43 r0 r_46 qf_43) (cwV 1 hts gX14_string_X14_put rfl rfl rfl (by decide +kernel) ⟨by rw [← hR]; exact Nat.le_of_ble_eq_true rfl, by rw [← hR]; exact Nat.le_of_ble_eq_true rfl⟩) ⟨fun a U g mk q => by obtain ⟨q0, q1, q2, qK, q10, q11, q12⟩ := q; exact ⟨q0, q1, q2, jG.calling g mk a qK, q10, q11, q12⟩, hh_43.recv (C := RX14) (T := TX14) (N := 74) hB16 rfl (by decide) hg_r0 hK, fun U hU hW => ⟨rfl, hU, hh_43.2.1, hG.step hW hU hh_43.1, hg_r0, (hh_43.2.2.1.sub (L1 := [(r0, 16, 6, .int qf_43)]) [0] rfl), by first | omega | (refine ⟨?_, ?_⟩ <;> (first | omega | rfl | assumption | decide | exact Or.inl rfl | exact Or.inr rfl | (simp only; omega)))⟩⟩ rfl rfl hl.1 rfl (lv_room (Nat.le_of_ble_eq_true rfl)) dX14_string_120 ⟨Nat.zero_le _, Nat.zero_le _⟩) hh_43.1 (fun q _ h => h) (fun q h => h) (fun u_47 t_47 H_47 locs_47 ht_47 hvm_47 hr_48 hb_47 hz_47 hk_47 hS_47 => ?_)
                obtain ⟨qf_47, rfl⟩ : ∃ z, z = u_47 := ⟨_, rfl⟩
                rw [ht_47] at hb_47
                obtain ⟨hb_471, hb_472, hb_473, hb_474, hb_475⟩ := hb_47
                have hh_47 : jSt (dC, dI) B base G0 G0 EX14_string s.heap 0 0 [(r0, 16, 6, .int qf_47)] [] [] H_47 locs_47 := (hh_43.call hb_471 hb_472 hb_473 hb_474 hS_47 rfl (L1 := []) [] rfl rfl (M1 := []) [] rfl rfl (I1 := []) [] rfl rfl).more hb_475
                clear hh_43 ht_47 hvm_47 hz_47 hk_47 hS_47 hb_471 hb_472 hb_473 hb_474 hb_475
                obtain ⟨hr_48_0, hr_48_1⟩ := hr_48
                refine lv_aload_n hx hb dX14_string_123 rfl (lv_at hl 1 rfl) ?_
                refine lv_iload hx hb dX14_string_124 (lv_at hl 6 rfl) ?_
                refine lv_bipush (v := 15) hx hb dX14_string_126 (by decide) ?_
                refine lv_iand hx hb dX14_string_128 ?_
                refine lv_topi (fun z_49 ez_49 => ?_)
                have hz_49 : 0 ≤ z_49.toInt ∧ z_49.toInt ≤ 15 := by rw [ez_49]; exact jb_and z_7 (m := 15) (k := 4) (by decide) (by decide)
                refine vp_callSi (W.runS (As := [.int z_49]) (rest := [.ref r0]) ⟨hx, hb, hml, hown, hts⟩ (kX14_hex l dC dI ca base H_47 z_49) (va_cwS 1 hts gX14_string_X14_hex rfl rfl rfl (by decide +kernel) ⟨by rw [← hR]; exact Nat.le_of_ble_eq_true rfl, by rw [← hR]; exact Nat.le_of_ble_eq_true rfl⟩) ⟨fun a U g mk q => by obtain ⟨q0, q1, qK, q9⟩ := q; exact ⟨q0, q1, jG.calling g mk a qK, q9⟩, fun U hU hW => ⟨rfl, hU, hG.step hW hU hh_47.1, by first | trivial | omega | (constructor <;> omega)⟩⟩ rfl rfl hl.1 rfl (lv_room (Nat.le_of_ble_eq_true rfl)) dX14_string_129 ⟨Nat.zero_le _, Nat.zero_le _⟩) (fun r_50 hr_50 => ?_)
                refine va_callv (A0 := jA base) (H0 := s.heap) (va_runV (As := [.int r_50]) (rest := []) ⟨hx, hb, hml, hown, hts⟩ (uX14_put l dC dI ca base B hB hAp hB16 hB101 G0 H_47 r0 r_50 qf_47) (cwV 1 hts gX14_string_X14_put rfl rfl rfl (by decide +kernel) ⟨by rw [← hR]; exact Nat.le_of_ble_eq_true rfl, by rw [← hR]; exact Nat.le_of_ble_eq_true rfl⟩) ⟨fun a U g mk q => by obtain ⟨q0, q1, q2, qK, q10, q11, q12⟩ := q; exact ⟨q0, q1, q2, jG.calling g mk a qK, q10, q11, q12⟩, hh_47.recv (C := RX14) (T := TX14) (N := 74) hB16 rfl (by decide) hg_r0 hK, fun U hU hW => ⟨rfl, hU, hh_47.2.1, hG.step hW hU hh_47.1, hg_r0, (hh_47.2.2.1.sub (L1 := [(r0, 16, 6, .int qf_47)]) [0] rfl), by first | omega | (refine ⟨?_, ?_⟩ <;> (first | omega | rfl | assumption | decide | exact Or.inl rfl | exact Or.inr rfl | (simp only; omega)))⟩⟩ rfl rfl hl.1 rfl (lv_room (Nat.le_of_ble_eq_true rfl)) dX14_string_132 ⟨Nat.zero_le _, Nat.zero_le _⟩) hh_47.1 (fun q _ h => h) (fun q h => h) (fun u_51 t_51 H_51 locs_51 ht_51 hvm_51 hr_52 hb_51 hz_51 hk_51 hS_51 => ?_)
                obtain ⟨qf_51, rfl⟩ : ∃ z, z = u_51 := ⟨_, rfl⟩
                rw [ht_51] at hb_51
                obtain ⟨hb_511, hb_512, hb_513, hb_514, hb_515⟩ := hb_51
                have hh_51 : jSt (dC, dI) B base G0 G0 EX14_string s.heap 0 0 [(r0, 16, 6, .int qf_51)] [] [] H_51 locs_51 := (hh_47.call hb_511 hb_512 hb_513 hb_514 hS_51 rfl (L1 := []) [] rfl rfl (M1 := []) [] rfl rfl (I1 := []) [] rfl rfl).more hb_515
                clear hh_47 ht_51 hvm_51 hz_51 hk_51 hS_51 hb_511 hb_512 hb_513 hb_514 hb_515
                obtain ⟨hr_52_0, hr_52_1⟩ := hr_52
                refine lv_goto (tgt := 197) hx hb dX14_string_135 (by decide) ?_
                obtain ⟨z_53, ez_53⟩ : ∃ y : Int32, y = v4_3 + 1 := ⟨_, rfl⟩
                refine lv_iinc (v := z_53) (lv' := [(4, .int z_53), (6, .int w0_10), (0, .ref r0), (1, .ref r1), (2, .int a2), (3, .int a3), (5, .int z_7)]) hx hb dX14_string_197 hl (k := 5) rfl (by rw [ez_53]; rfl) (by decide) rfl (fun ls hl => ?_)
                have hz_53 : z_53.toInt = v4_3.toInt + 1 := by rw [ez_53]; exact jb_iadd2 (rfl) (by decide) (by omega)
                refine lv_goto (tgt := 9) hx hb dX14_string_200 (by decide) ?_
                exact L9 z_53 qf_51 _ _ hh_51 (by first | omega | (refine ⟨?_, ?_, ?_⟩ <;> (first | omega | rfl | assumption | decide | exact Or.inl rfl | exact Or.inr rfl | (simp only; omega)))) (by omega) _ (lv_sub hl [2, 3, 4, 5, 0] rfl)
            · skip
              have c_17' : z_7.toInt = 92 := jb_ne_n (rfl) ((by decide)) c_17
              refine lv_aload_n hx hb dX14_string_78 rfl (lv_at hl 1 rfl) ?_
              refine lv_bipush (v := 92) hx hb dX14_string_79 (by decide) ?_
              refine va_callv (A0 := jA base) (H0 := s.heap) (va_runV (As := [.int 92]) (rest := []) ⟨hx, hb, hml, hown, hts⟩ (uX14_put l dC dI ca base B hB hAp hB16 hB101 G0 H_10 r0 92 wf_3) (cwV 1 hts gX14_string_X14_put rfl rfl rfl (by decide +kernel) ⟨by rw [← hR]; exact Nat.le_of_ble_eq_true rfl, by rw [← hR]; exact Nat.le_of_ble_eq_true rfl⟩) ⟨fun a U g mk q => by obtain ⟨q0, q1, q2, qK, q10, q11, q12⟩ := q; exact ⟨q0, q1, q2, jG.calling g mk a qK, q10, q11, q12⟩, hh_10.recv (C := RX14) (T := TX14) (N := 74) hB16 rfl (by decide) hg_r0 hK, fun U hU hW => ⟨rfl, hU, hh_10.2.1, hG.step hW hU hh_10.1, hg_r0, (hh_10.2.2.1.sub (L1 := [(r0, 16, 6, .int wf_3)]) [0] rfl), by first | omega | (refine ⟨?_, ?_⟩ <;> (first | omega | rfl | assumption | decide | exact Or.inl rfl | exact Or.inr rfl | (simp only; omega)))⟩⟩ rfl rfl hl.1 rfl (lv_room (Nat.le_of_ble_eq_true rfl)) dX14_string_81 ⟨Nat.zero_le _, Nat.zero_le _⟩) hh_10.1 (fun q _ h => h) (fun q h => h) (fun u_54 t_54 H_54 locs_54 ht_54 hvm_54 hr_55 hb_54 hz_54 hk_54 hS_54 => ?_)
              obtain ⟨qf_54, rfl⟩ : ∃ z, z = u_54 := ⟨_, rfl⟩
              rw [ht_54] at hb_54
              obtain ⟨hb_541, hb_542, hb_543, hb_544, hb_545⟩ := hb_54
              have hh_54 : jSt (dC, dI) B base G0 G0 EX14_string s.heap 0 0 [(r0, 16, 6, .int qf_54)] [] [] H_54 locs_54 := (hh_10.call hb_541 hb_542 hb_543 hb_544 hS_54 rfl (L1 := []) [] rfl rfl (M1 := []) [] rfl rfl (I1 := []) [] rfl rfl).more hb_545
              clear hh_10 ht_54 hvm_54 hz_54 hk_54 hS_54 hb_541 hb_542 hb_543 hb_544 hb_545
              obtain ⟨hr_55_0, hr_55_1⟩ := hr_55
              refine lv_aload_n hx hb dX14_string_84 rfl (lv_at hl 1 rfl) ?_
              refine lv_iload hx hb dX14_string_85 (lv_at hl 6 rfl) ?_
              refine va_callv (A0 := jA base) (H0 := s.heap) (va_runV (As := [.int z_7]) (rest := []) ⟨hx, hb, hml, hown, hts⟩ (uX14_put l dC dI ca base B hB hAp hB16 hB101 G0 H_54 r0 z_7 qf_54) (cwV 1 hts gX14_string_X14_put rfl rfl rfl (by decide +kernel) ⟨by rw [← hR]; exact Nat.le_of_ble_eq_true rfl, by rw [← hR]; exact Nat.le_of_ble_eq_true rfl⟩) ⟨fun a U g mk q => by obtain ⟨q0, q1, q2, qK, q10, q11, q12⟩ := q; exact ⟨q0, q1, q2, jG.calling g mk a qK, q10, q11, q12⟩, hh_54.recv (C := RX14) (T := TX14) (N := 74) hB16 rfl (by decide) hg_r0 hK, fun U hU hW => ⟨rfl, hU, hh_54.2.1, hG.step hW hU hh_54.1, hg_r0, (hh_54.2.2.1.sub (L1 := [(r0, 16, 6, .int qf_54)]) [0] rfl), by first | omega | (refine ⟨?_, ?_⟩ <;> (first | omega | rfl | assumption | decide | exact Or.inl rfl | exact Or.inr rfl | (simp only; omega)))⟩⟩ rfl rfl hl.1 rfl (lv_room (Nat.le_of_ble_eq_true rfl)) dX14_string_87 ⟨Nat.zero_le _, Nat.zero_le _⟩) hh_54.1 (fun q _ h => h) (fun q h => h) (fun u_56 t_56 H_56 locs_56 ht_56 hvm_56 hr_57 hb_56 hz_56 hk_56 hS_56 => ?_)
              obtain ⟨qf_56, rfl⟩ : ∃ z, z = u_56 := ⟨_, rfl⟩
              rw [ht_56] at hb_56
              obtain ⟨hb_561, hb_562, hb_563, hb_564, hb_565⟩ := hb_56
              have hh_56 : jSt (dC, dI) B base G0 G0 EX14_string s.heap 0 0 [(r0, 16, 6, .int qf_56)] [] [] H_56 locs_56 := (hh_54.call hb_561 hb_562 hb_563 hb_564 hS_56 rfl (L1 := []) [] rfl rfl (M1 := []) [] rfl rfl (I1 := []) [] rfl rfl).more hb_565
              clear hh_54 ht_56 hvm_56 hz_56 hk_56 hS_56 hb_561 hb_562 hb_563 hb_564 hb_565
              obtain ⟨hr_57_0, hr_57_1⟩ := hr_57
              refine lv_goto (tgt := 197) hx hb dX14_string_90 (by decide) ?_
              obtain ⟨z_58, ez_58⟩ : ∃ y : Int32, y = v4_3 + 1 := ⟨_, rfl⟩
              refine lv_iinc (v := z_58) (lv' := [(4, .int z_58), (6, .int w0_10), (0, .ref r0), (1, .ref r1), (2, .int a2), (3, .int a3), (5, .int z_7)]) hx hb dX14_string_197 hl (k := 5) rfl (by rw [ez_58]; rfl) (by decide) rfl (fun ls hl => ?_)
              have hz_58 : z_58.toInt = v4_3.toInt + 1 := by rw [ez_58]; exact jb_iadd2 (rfl) (by decide) (by omega)
              refine lv_goto (tgt := 9) hx hb dX14_string_200 (by decide) ?_
              exact L9 z_58 qf_56 _ _ hh_56 (by first | omega | (refine ⟨?_, ?_, ?_⟩ <;> (first | omega | rfl | assumption | decide | exact Or.inl rfl | exact Or.inr rfl | (simp only; omega)))) (by omega) _ (lv_sub hl [2, 3, 4, 5, 0] rfl)
        refine lv_if_eq (tgt := 61) hx hb dX14_string_30 (by decide) (fun c_59 => ?_) (fun c_59 => ?_)
        · skip
          have c_59' : r_9.toInt = 0 := jb_eq (rfl) ((by decide)) c_59
          refine lv_iconst (v := 0) hx hb dX14_string_61 (by decide) ?_
          exact C62 0 _ _ hh_8 (Or.inl rfl) (by first | omega | rfl | assumption | decide | exact Or.inl rfl | exact Or.inr rfl | (simp only; omega)) _ (lv_sub hl [1, 2, 3, 4, 5, 0] rfl)
        · skip
          have c_59' : r_9.toInt ≠ 0 := jb_eq_n (rfl) ((by decide)) c_59
          refine lv_iload hx hb dX14_string_33 (lv_at hl 5 rfl) ?_
          refine lv_iconst (v := 1) hx hb dX14_string_35 (by decide) ?_
          refine lv_iadd hx hb dX14_string_36 ?_
          refine lv_topi (fun z_60 ez_60 => ?_)
          have hz_60 : z_60.toInt = v4_3.toInt + 1 := by rw [ez_60]; exact jb_iadd2 (rfl) ((by decide)) (by omega)
          refine lv_iload_n hx hb dX14_string_37 rfl (lv_at hl 4 rfl) ?_
          refine lv_icmp_ge (tgt := 61) hx hb dX14_string_38 (by decide) (fun c_61 => ?_) (fun c_61 => ?_)
          · skip
            have c_61' : z_60.toInt ≥ a3.toInt := jb_ge (rfl) (rfl) c_61
            refine lv_iconst (v := 0) hx hb dX14_string_61 (by decide) ?_
            exact C62 0 _ _ hh_8 (Or.inl rfl) (by first | omega | rfl | assumption | decide | exact Or.inl rfl | exact Or.inr rfl | (simp only; omega)) _ (lv_sub hl [1, 2, 3, 4, 5, 0] rfl)
          · skip
            have c_61' : z_60.toInt < a3.toInt := jb_ge_n (rfl) (rfl) c_61
            refine lv_aload_n hx hb dX14_string_41 rfl (lv_at hl 2 rfl) ?_
            refine lv_iload hx hb dX14_string_42 (lv_at hl 5 rfl) ?_
            refine lv_iconst (v := 1) hx hb dX14_string_44 (by decide) ?_
            refine lv_iadd hx hb dX14_string_45 ?_
            refine lv_topi (fun z_62 ez_62 => ?_)
            have hz_62 : z_62.toInt = v4_3.toInt + 1 := by rw [ez_62]; exact jb_iadd2 (rfl) ((by decide)) (by omega)
            refine j7_iald hx hb hK hh_8 hB101 1 rfl (by decide) hg_r1 (rfl) (by omega) dX14_string_46 (fun z_63 (hz_63 : True) => ?_)
            refine lv_ldc hx hb hown (hts (.constant RX14 185 56320) (by decide +kernel)) dX14_string_47 ?_
            refine lv_ldc hx hb hown (hts (.constant RX14 186 57343) (by decide +kernel)) dX14_string_49 ?_
            refine va_calli (A0 := jA base) (H0 := s.heap) (va_runS (As := [.int z_63, .int 56320, .int 57343]) (rest := []) ⟨hx, hb, hml, hown, hts⟩ (uX14_in l dC dI ca base B hB hAp G0 H_8 z_63 56320 57343) (va_cwS 3 hts gX14_string_X14_in rfl rfl rfl (by decide +kernel) ⟨by rw [← hR]; exact Nat.le_of_ble_eq_true rfl, by rw [← hR]; exact Nat.le_of_ble_eq_true rfl⟩) ⟨fun a U g mk q => by obtain ⟨q0, q1, q2, qK, q10, q11⟩ := q; exact ⟨q0, q1, q2, jG.calling g mk a qK, q10, q11⟩, fun U hU hW => ⟨rfl, hU, hh_8.2.1, hG.step hW hU hh_8.1, jP.nil, trivial⟩⟩ rfl rfl hl.1 rfl (lv_room (Nat.le_of_ble_eq_true rfl)) dX14_string_51 ⟨Nat.zero_le _, Nat.zero_le _⟩) hh_8.1 (fun q _ h => h) (fun q h => h) (fun r_65 u_64 t_64 H_64 locs_64 ht_64 hvm_64 hr_65 hb_64 hz_64 hk_64 hS_64 => ?_)
            rw [ht_64] at hb_64
            obtain ⟨hb_641, hb_642, hb_643, hb_644, hb_645⟩ := hb_64
            have hh_64 : jSt (dC, dI) B base G0 G0 EX14_string s.heap 0 0 [(r0, 16, 6, .int wf_3)] [] [] H_64 locs_64 := (hh_8.call hb_641 hb_642 hb_643 hb_644 hS_64 rfl (L1 := [(r0, 16, 6, .int wf_3)]) [0] rfl rfl (M1 := []) [] rfl rfl (I1 := []) [] rfl rfl).more hb_645
            clear hh_8 ht_64 hvm_64 hz_64 hk_64 hS_64 hb_641 hb_642 hb_643 hb_644 hb_645
            obtain ⟨hr_65b, hr_65p⟩ := hr_65
            obtain ⟨hr_65p_0, hr_65p_1⟩ := hr_65p
            have hr_65' := jb_01 hr_65b
            refine lv_if_eq (tgt := 61) hx hb dX14_string_54 (by decide) (fun c_66 => ?_) (fun c_66 => ?_)
            · skip
              have c_66' : r_65.toInt = 0 := jb_eq (rfl) ((by decide)) c_66
              refine lv_iconst (v := 0) hx hb dX14_string_61 (by decide) ?_
              exact C62 0 _ _ hh_64 (Or.inl rfl) (by first | omega | rfl | assumption | decide | exact Or.inl rfl | exact Or.inr rfl | (simp only; omega)) _ (lv_sub hl [1, 2, 3, 4, 5, 0] rfl)
            · skip
              have c_66' : r_65.toInt ≠ 0 := jb_eq_n (rfl) ((by decide)) c_66
              refine lv_iconst (v := 1) hx hb dX14_string_57 (by decide) ?_
              refine lv_goto (tgt := 62) hx hb dX14_string_58 (by decide) ?_
              exact C62 1 _ _ hh_64 (Or.inr rfl) (by first | omega | rfl | assumption | decide | exact Or.inl rfl | exact Or.inr rfl | (simp only; omega)) _ (lv_sub hl [1, 2, 3, 4, 5, 0] rfl)
  exact L9 (((a3.toInt - (a2 : Int32).toInt).toNat : Int) : Int).toNat.succ a2 qf_1 _ _ hh_1 (by first | omega | (refine ⟨?_, ?_, ?_⟩ <;> (first | omega | rfl | assumption | decide | exact Or.inl rfl | exact Or.inr rfl | (simp only; omega)))) (by omega) _ (lv_sub hl [1, 2, 3, 4, 0] rfl)
set_option maxHeartbeats 4000000 in
set_option maxRecDepth 20000 in
theorem uX14_send (l : Launch) (dC : Nat → ClassId) (dI : Nat → Nat → Nat) (ca : Nat → ClassId) (base : Nat) (B : jF) (hB : jBok B) (hAp : jAp (dC, dI)) (hB16 : ∀ n G a H, B 16 n G a H ↔ jOb (dC, dI) 16 74 (F16 n G) a H) (hB101 : ∀ n G a H, B 101 n G a H ↔ jAr (dC, dI) (ca 1) (fun j z => True) n a H) (G0 : jT) (H0 : Heap) (r0 : Nat) : Met l yX14_send wsX14_send ({ frames := 12, cells := 0, slots := 0, locals := 462 }) (va_Pc [.ref r0] (fun U => U.heap = H0 ∧ jX B base G0 [] H0 ∧ jG dC dI ca base U ∧ G0 r0 = some (16, 0) ∧ jP (dC, dI) G0 H0 [] ∧ True)) (va_Qv (S := Unit) (fun u => True) (fun u t => jRt (dC, dI) B base G0 EX14_send H0 [] t.heap) (jA base)) 0 0 (jA base) := by
  refine Met.ofW (cc := cX14_send) (maxL := 4) (ret := none) (by decide) rfl ?_
  intro p e s m args below meth c s₁ Bd hml hv
  obtain ⟨rfl, hH0, hX, hG, hg_r0, hP0, hp0⟩ := hv
  have hK := hG.1
  have hx := Bd.exec
  have hb := Bd.bytes
  have hr := Bd.returns
  have hts := atoms_spec (ws := wsX14_send) Bd.pre
  have hown : s.vm.findClass RX14 = some m.cls := findClass_of_methodNamed Bd.named
  have hlocks := Bd.notSynchronized
  obtain ⟨Q, hQ⟩ : ∃ Q, Q = MQ below (va_Qv (S := Unit) (fun u => True) (fun u t => jRt (dC, dI) B base G0 EX14_send H0 [] t.heap) (jA base)) ([.ref r0] : List Value).toArray s 0 0 (jA base) := ⟨_, rfl⟩
  rw [← hQ]
  have hl := lv_entry ([.ref r0]) (n := 4) (Nat.le_of_ble_eq_true rfl)
  rw [lg_entry_eq]
  generalize (lg_sl ([.ref r0]) ++ List.replicate (4 - (lg_sl ([.ref r0])).length) Slot.unset).toArray = ls at hl ⊢
  have hl : lv_has ls 4 [(0, .ref r0)] := hl
  generalize hR : (headSpec wsX14_send ({ frames := 12, cells := 0, slots := 0, locals := 462 })).room = R
  subst hH0
  have hh : jSt (dC, dI) B base G0 G0 EX14_send s.heap 0 0 [] [] [] s.heap [] := jSt.start hX hP0 jMc.nil jIs.nil
  clear hX hP0
  have hk0 : (0 : Int32).toInt = 0 := by decide
  have hk1 : (1 : Int32).toInt = 1 := by decide
  have hk10 : (10 : Int32).toInt = 10 := by decide
  have hk13 : (13 : Int32).toInt = 13 := by decide
  have hk20000 : (20000 : Int32).toInt = 20000 := by decide
  have hly_16_2 := hts (u_lay RX14 TX14 2) (by decide +kernel)
  have hly_16_3 := hts (u_lay RX14 TX14 3) (by decide +kernel)
  have hly_16_4 := hts (u_lay RX14 TX14 4) (by decide +kernel)
  have hly_16_5 := hts (u_lay RX14 TX14 5) (by decide +kernel)
  have hly_16_6 := hts (u_lay RX14 TX14 6) (by decide +kernel)
  have hly_16_7 := hts (u_lay RX14 TX14 7) (by decide +kernel)
  refine lv_aload_n hx hb dX14_send_0 rfl (lv_at hl 0 rfl) ?_
  obtain ⟨v_1, hv_1, hh_2⟩ := hh.pin (C := RX14) (T := TX14) (N := 74) hB16 rfl (by decide) hg_r0 (i := 7) (by decide) rfl
  clear hh
  obtain ⟨broken_3, rfl, hzbroken_3⟩ := hv_1
  have hzbroken_3' := jb_01 hzbroken_3
  refine j7_read hx hb hown hK (C := RX14) (T := TX14) (N := 74) rfl hly_16_7 (hts (.fieldLink RX14 202 "ProofServerModel" "broken" "Z") (by decide +kernel)) (hh_2.at 0 rfl) dX14_send_1 ?_
  refine lv_if_eq (tgt := 8) hx hb dX14_send_4 (by decide) (fun c_4 => ?_) (fun c_4 => ?_)
  · skip
    have c_4' : broken_3.toInt = 0 := jb_eq (rfl) ((by decide)) c_4
    refine lv_aload_n hx hb dX14_send_8 rfl (lv_at hl 0 rfl) ?_
    obtain ⟨v_5, hv_5, hh_6⟩ := hh_2.pin (C := RX14) (T := TX14) (N := 74) hB16 rfl (by decide) hg_r0 (i := 6) (by decide) rfl
    clear hh_2
    obtain ⟨framed_7, rfl, hloframed_7, hhiframed_7⟩ := hv_5
    refine j7_read hx hb hown hK (C := RX14) (T := TX14) (N := 74) rfl hly_16_6 (hts (.fieldLink RX14 160 "ProofServerModel" "framed" "I") (by decide +kernel)) (hh_6.at 0 rfl) dX14_send_9 ?_
    refine lv_istore_n (lv' := [(1, .int framed_7), (0, .ref r0)]) hx hb dX14_send_12 rfl hl (by decide) rfl (fun ls hl => ?_)
    refine lv_aload_n hx hb dX14_send_13 rfl (lv_at hl 1 rfl) ?_
    obtain ⟨str_8, rstr_8, hstr_80⟩ := hG.str (o := RX14) (k := 206) (tx := "Content-Length: ") (List.mem_of_getElem? (i := 2442) (by decide +kernel))
    have hstr_8 : jStr base str_8 16 s s.heap := hstr_80
    refine va_ldcS hx hb hown rstr_8 dX14_send_14 ?_
    refine va_callv (A0 := jA base) (H0 := s.heap) (va_runV (As := [.ref str_8]) (rest := []) ⟨hx, hb, hml, hown, hts⟩ (uX14_word l dC dI ca base B hB hAp hB16 hB101 G0 s.heap r0 str_8 16 framed_7) (cwV 1 hts gX14_send_X14_word rfl rfl rfl (by decide +kernel) ⟨by rw [← hR]; exact Nat.le_of_ble_eq_true rfl, by rw [← hR]; exact Nat.le_of_ble_eq_true rfl⟩) ⟨fun a U g mk q => by obtain ⟨q0, q1, q2, qK, q10, q11, q12, q13⟩ := q; exact ⟨q0, q1, q2, jG.calling g mk a qK, (q10.moved (Vm.Alike.refl U.vm)), q11, q12, q13⟩, hh_6.recv (C := RX14) (T := TX14) (N := 74) hB16 rfl (by decide) hg_r0 hK, fun U hU hW => ⟨rfl, hU, hh_6.2.1, hG.step hW hU hh_6.1, (hstr_8.moved hW.alike).kept hh_6.1.2.1, hg_r0, (hh_6.2.2.1.sub (L1 := [(r0, 16, 6, .int framed_7)]) [0] rfl), by first | omega | (refine ⟨?_, ?_, ?_⟩ <;> (first | omega | rfl | assumption | decide | exact Or.inl rfl | exact Or.inr rfl | (simp only; omega)))⟩⟩ rfl rfl hl.1 rfl (lv_room (Nat.le_of_ble_eq_true rfl)) dX14_send_16 ⟨Nat.zero_le _, Nat.zero_le _⟩) hh_6.1 (fun q _ h => h) (fun q h => h) (fun u_9 t_9 H_9 locs_9 ht_9 hvm_9 hr_10 hb_9 hz_9 hk_9 hS_9 => ?_)
    obtain ⟨qf_9, rfl⟩ : ∃ z, z = u_9 := ⟨_, rfl⟩
    rw [ht_9] at hb_9
    obtain ⟨hb_91, hb_92, hb_93, hb_94, hb_95⟩ := hb_9
    have hh_9 : jSt (dC, dI) B base G0 G0 EX14_send s.heap 0 0 [(r0, 16, 6, .int qf_9), (r0, 16, 7, .int broken_3)] [] [] H_9 locs_9 := (hh_6.call hb_91 hb_92 hb_93 hb_94 hS_9 rfl (L1 := [(r0, 16, 7, .int broken_3)]) [1] rfl rfl (M1 := []) [] rfl rfl (I1 := []) [] rfl rfl).more hb_95
    clear hh_6 ht_9 hvm_9 hz_9 hk_9 hS_9 hb_91 hb_92 hb_93 hb_94 hb_95
    obtain ⟨hr_10_0, hr_10_1⟩ := hr_10
    refine lv_aload_n hx hb dX14_send_19 rfl (lv_at hl 1 rfl) ?_
    refine lv_iload_n hx hb dX14_send_20 rfl (lv_at hl 0 rfl) ?_
    refine va_callv (A0 := jA base) (H0 := s.heap) (va_runV (As := [.int framed_7]) (rest := []) ⟨hx, hb, hml, hown, hts⟩ (uX14_number l dC dI ca base B hB hAp hB16 hB101 G0 H_9 r0 framed_7 qf_9) (cwV 1 hts gX14_send_X14_number rfl rfl rfl (by decide +kernel) ⟨by rw [← hR]; exact Nat.le_of_ble_eq_true rfl, by rw [← hR]; exact Nat.le_of_ble_eq_true rfl⟩) ⟨fun a U g mk q => by obtain ⟨q0, q1, q2, qK, q10, q11, q12⟩ := q; exact ⟨q0, q1, q2, jG.calling g mk a qK, q10, q11, q12⟩, hh_9.recv (C := RX14) (T := TX14) (N := 74) hB16 rfl (by decide) hg_r0 hK, fun U hU hW => ⟨rfl, hU, hh_9.2.1, hG.step hW hU hh_9.1, hg_r0, (hh_9.2.2.1.sub (L1 := [(r0, 16, 6, .int qf_9)]) [0] rfl), by first | omega | (refine ⟨?_, ?_⟩ <;> (first | omega | rfl | assumption | decide | exact Or.inl rfl | exact Or.inr rfl | (simp only; omega)))⟩⟩ rfl rfl hl.1 rfl (lv_room (Nat.le_of_ble_eq_true rfl)) dX14_send_21 ⟨Nat.zero_le _, Nat.zero_le _⟩) hh_9.1 (fun q _ h => h) (fun q h => h) (fun u_11 t_11 H_11 locs_11 ht_11 hvm_11 hr_12 hb_11 hz_11 hk_11 hS_11 => ?_)
    obtain ⟨qf_11, rfl⟩ : ∃ z, z = u_11 := ⟨_, rfl⟩
    rw [ht_11] at hb_11
    obtain ⟨hb_111, hb_112, hb_113, hb_114, hb_115⟩ := hb_11
    have hh_11 : jSt (dC, dI) B base G0 G0 EX14_send s.heap 0 0 [(r0, 16, 6, .int qf_11), (r0, 16, 7, .int broken_3)] [] [] H_11 locs_11 := (hh_9.call hb_111 hb_112 hb_113 hb_114 hS_11 rfl (L1 := [(r0, 16, 7, .int broken_3)]) [1] rfl rfl (M1 := []) [] rfl rfl (I1 := []) [] rfl rfl).more hb_115
    clear hh_9 ht_11 hvm_11 hz_11 hk_11 hS_11 hb_111 hb_112 hb_113 hb_114 hb_115
    obtain ⟨hr_12_0, hr_12_1⟩ := hr_12
    refine lv_aload_n hx hb dX14_send_24 rfl (lv_at hl 1 rfl) ?_
    refine lv_bipush (v := 13) hx hb dX14_send_25 (by decide) ?_
    refine va_callv (A0 := jA base) (H0 := s.heap) (va_runV (As := [.int 13]) (rest := []) ⟨hx, hb, hml, hown, hts⟩ (uX14_put l dC dI ca base B hB hAp hB16 hB101 G0 H_11 r0 13 qf_11) (cwV 1 hts gX14_send_X14_put rfl rfl rfl (by decide +kernel) ⟨by rw [← hR]; exact Nat.le_of_ble_eq_true rfl, by rw [← hR]; exact Nat.le_of_ble_eq_true rfl⟩) ⟨fun a U g mk q => by obtain ⟨q0, q1, q2, qK, q10, q11, q12⟩ := q; exact ⟨q0, q1, q2, jG.calling g mk a qK, q10, q11, q12⟩, hh_11.recv (C := RX14) (T := TX14) (N := 74) hB16 rfl (by decide) hg_r0 hK, fun U hU hW => ⟨rfl, hU, hh_11.2.1, hG.step hW hU hh_11.1, hg_r0, (hh_11.2.2.1.sub (L1 := [(r0, 16, 6, .int qf_11)]) [0] rfl), by first | omega | (refine ⟨?_, ?_⟩ <;> (first | omega | rfl | assumption | decide | exact Or.inl rfl | exact Or.inr rfl | (simp only; omega)))⟩⟩ rfl rfl hl.1 rfl (lv_room (Nat.le_of_ble_eq_true rfl)) dX14_send_27 ⟨Nat.zero_le _, Nat.zero_le _⟩) hh_11.1 (fun q _ h => h) (fun q h => h) (fun u_13 t_13 H_13 locs_13 ht_13 hvm_13 hr_14 hb_13 hz_13 hk_13 hS_13 => ?_)
    obtain ⟨qf_13, rfl⟩ : ∃ z, z = u_13 := ⟨_, rfl⟩
    rw [ht_13] at hb_13
    obtain ⟨hb_131, hb_132, hb_133, hb_134, hb_135⟩ := hb_13
    have hh_13 : jSt (dC, dI) B base G0 G0 EX14_send s.heap 0 0 [(r0, 16, 6, .int qf_13), (r0, 16, 7, .int broken_3)] [] [] H_13 locs_13 := (hh_11.call hb_131 hb_132 hb_133 hb_134 hS_13 rfl (L1 := [(r0, 16, 7, .int broken_3)]) [1] rfl rfl (M1 := []) [] rfl rfl (I1 := []) [] rfl rfl).more hb_135
    clear hh_11 ht_13 hvm_13 hz_13 hk_13 hS_13 hb_131 hb_132 hb_133 hb_134 hb_135
    obtain ⟨hr_14_0, hr_14_1⟩ := hr_14
    refine lv_aload_n hx hb dX14_send_30 rfl (lv_at hl 1 rfl) ?_
    refine lv_bipush (v := 10) hx hb dX14_send_31 (by decide) ?_
    refine va_callv (A0 := jA base) (H0 := s.heap) (va_runV (As := [.int 10]) (rest := []) ⟨hx, hb, hml, hown, hts⟩ (uX14_put l dC dI ca base B hB hAp hB16 hB101 G0 H_13 r0 10 qf_13) (cwV 1 hts gX14_send_X14_put rfl rfl rfl (by decide +kernel) ⟨by rw [← hR]; exact Nat.le_of_ble_eq_true rfl, by rw [← hR]; exact Nat.le_of_ble_eq_true rfl⟩) ⟨fun a U g mk q => by obtain ⟨q0, q1, q2, qK, q10, q11, q12⟩ := q; exact ⟨q0, q1, q2, jG.calling g mk a qK, q10, q11, q12⟩, hh_13.recv (C := RX14) (T := TX14) (N := 74) hB16 rfl (by decide) hg_r0 hK, fun U hU hW => ⟨rfl, hU, hh_13.2.1, hG.step hW hU hh_13.1, hg_r0, (hh_13.2.2.1.sub (L1 := [(r0, 16, 6, .int qf_13)]) [0] rfl), by first | omega | (refine ⟨?_, ?_⟩ <;> (first | omega | rfl | assumption | decide | exact Or.inl rfl | exact Or.inr rfl | (simp only; omega)))⟩⟩ rfl rfl hl.1 rfl (lv_room (Nat.le_of_ble_eq_true rfl)) dX14_send_33 ⟨Nat.zero_le _, Nat.zero_le _⟩) hh_13.1 (fun q _ h => h) (fun q h => h) (fun u_15 t_15 H_15 locs_15 ht_15 hvm_15 hr_16 hb_15 hz_15 hk_15 hS_15 => ?_)
    obtain ⟨qf_15, rfl⟩ : ∃ z, z = u_15 := ⟨_, rfl⟩
    rw [ht_15] at hb_15
    obtain ⟨hb_151, hb_152, hb_153, hb_154, hb_155⟩ := hb_15
    have hh_15 : jSt (dC, dI) B base G0 G0 EX14_send s.heap 0 0 [(r0, 16, 6, .int qf_15), (r0, 16, 7, .int broken_3)] [] [] H_15 locs_15 := (hh_13.call hb_151 hb_152 hb_153 hb_154 hS_15 rfl (L1 := [(r0, 16, 7, .int broken_3)]) [1] rfl rfl (M1 := []) [] rfl rfl (I1 := []) [] rfl rfl).more hb_155
    clear hh_13 ht_15 hvm_15 hz_15 hk_15 hS_15 hb_151 hb_152 hb_153 hb_154 hb_155
    obtain ⟨hr_16_0, hr_16_1⟩ := hr_16
    refine lv_aload_n hx hb dX14_send_36 rfl (lv_at hl 1 rfl) ?_
    refine lv_bipush (v := 13) hx hb dX14_send_37 (by decide) ?_
    refine va_callv (A0 := jA base) (H0 := s.heap) (va_runV (As := [.int 13]) (rest := []) ⟨hx, hb, hml, hown, hts⟩ (uX14_put l dC dI ca base B hB hAp hB16 hB101 G0 H_15 r0 13 qf_15) (cwV 1 hts gX14_send_X14_put rfl rfl rfl (by decide +kernel) ⟨by rw [← hR]; exact Nat.le_of_ble_eq_true rfl, by rw [← hR]; exact Nat.le_of_ble_eq_true rfl⟩) ⟨fun a U g mk q => by obtain ⟨q0, q1, q2, qK, q10, q11, q12⟩ := q; exact ⟨q0, q1, q2, jG.calling g mk a qK, q10, q11, q12⟩, hh_15.recv (C := RX14) (T := TX14) (N := 74) hB16 rfl (by decide) hg_r0 hK, fun U hU hW => ⟨rfl, hU, hh_15.2.1, hG.step hW hU hh_15.1, hg_r0, (hh_15.2.2.1.sub (L1 := [(r0, 16, 6, .int qf_15)]) [0] rfl), by first | omega | (refine ⟨?_, ?_⟩ <;> (first | omega | rfl | assumption | decide | exact Or.inl rfl | exact Or.inr rfl | (simp only; omega)))⟩⟩ rfl rfl hl.1 rfl (lv_room (Nat.le_of_ble_eq_true rfl)) dX14_send_39 ⟨Nat.zero_le _, Nat.zero_le _⟩) hh_15.1 (fun q _ h => h) (fun q h => h) (fun u_17 t_17 H_17 locs_17 ht_17 hvm_17 hr_18 hb_17 hz_17 hk_17 hS_17 => ?_)
    obtain ⟨qf_17, rfl⟩ : ∃ z, z = u_17 := ⟨_, rfl⟩
    rw [ht_17] at hb_17
    obtain ⟨hb_171, hb_172, hb_173, hb_174, hb_175⟩ := hb_17
    have hh_17 : jSt (dC, dI) B base G0 G0 EX14_send s.heap 0 0 [(r0, 16, 6, .int qf_17), (r0, 16, 7, .int broken_3)] [] [] H_17 locs_17 := (hh_15.call hb_171 hb_172 hb_173 hb_174 hS_17 rfl (L1 := [(r0, 16, 7, .int broken_3)]) [1] rfl rfl (M1 := []) [] rfl rfl (I1 := []) [] rfl rfl).more hb_175
    clear hh_15 ht_17 hvm_17 hz_17 hk_17 hS_17 hb_171 hb_172 hb_173 hb_174 hb_175
    obtain ⟨hr_18_0, hr_18_1⟩ := hr_18
    refine lv_aload_n hx hb dX14_send_42 rfl (lv_at hl 1 rfl) ?_
    refine lv_bipush (v := 10) hx hb dX14_send_43 (by decide) ?_
    refine va_callv (A0 := jA base) (H0 := s.heap) (va_runV (As := [.int 10]) (rest := []) ⟨hx, hb, hml, hown, hts⟩ (uX14_put l dC dI ca base B hB hAp hB16 hB101 G0 H_17 r0 10 qf_17) (cwV 1 hts gX14_send_X14_put rfl rfl rfl (by decide +kernel) ⟨by rw [← hR]; exact Nat.le_of_ble_eq_true rfl, by rw [← hR]; exact Nat.le_of_ble_eq_true rfl⟩) ⟨fun a U g mk q => by obtain ⟨q0, q1, q2, qK, q10, q11, q12⟩ := q; exact ⟨q0, q1, q2, jG.calling g mk a qK, q10, q11, q12⟩, hh_17.recv (C := RX14) (T := TX14) (N := 74) hB16 rfl (by decide) hg_r0 hK, fun U hU hW => ⟨rfl, hU, hh_17.2.1, hG.step hW hU hh_17.1, hg_r0, (hh_17.2.2.1.sub (L1 := [(r0, 16, 6, .int qf_17)]) [0] rfl), by first | omega | (refine ⟨?_, ?_⟩ <;> (first | omega | rfl | assumption | decide | exact Or.inl rfl | exact Or.inr rfl | (simp only; omega)))⟩⟩ rfl rfl hl.1 rfl (lv_room (Nat.le_of_ble_eq_true rfl)) dX14_send_45 ⟨Nat.zero_le _, Nat.zero_le _⟩) hh_17.1 (fun q _ h => h) (fun q h => h) (fun u_19 t_19 H_19 locs_19 ht_19 hvm_19 hr_20 hb_19 hz_19 hk_19 hS_19 => ?_)
    obtain ⟨qf_19, rfl⟩ : ∃ z, z = u_19 := ⟨_, rfl⟩
    rw [ht_19] at hb_19
    obtain ⟨hb_191, hb_192, hb_193, hb_194, hb_195⟩ := hb_19
    have hh_19 : jSt (dC, dI) B base G0 G0 EX14_send s.heap 0 0 [(r0, 16, 6, .int qf_19), (r0, 16, 7, .int broken_3)] [] [] H_19 locs_19 := (hh_17.call hb_191 hb_192 hb_193 hb_194 hS_19 rfl (L1 := [(r0, 16, 7, .int broken_3)]) [1] rfl rfl (M1 := []) [] rfl rfl (I1 := []) [] rfl rfl).more hb_195
    clear hh_17 ht_19 hvm_19 hz_19 hk_19 hS_19 hb_191 hb_192 hb_193 hb_194 hb_195
    obtain ⟨hr_20_0, hr_20_1⟩ := hr_20
    refine lv_aload_n hx hb dX14_send_48 rfl (lv_at hl 1 rfl) ?_
    refine j7_read hx hb hown hK (C := RX14) (T := TX14) (N := 74) rfl hly_16_6 (hts (.fieldLink RX14 160 "ProofServerModel" "framed" "I") (by decide +kernel)) (hh_19.at 0 rfl) dX14_send_49 ?_
    refine lv_istore_n (lv' := [(2, .int qf_19), (1, .int framed_7), (0, .ref r0)]) hx hb dX14_send_52 rfl hl (by decide) rfl (fun ls hl => ?_)
    refine lv_aload_n hx hb dX14_send_53 rfl (lv_at hl 2 rfl) ?_
    refine lv_iload_n hx hb dX14_send_54 rfl (lv_at hl 1 rfl) ?_
    refine j7_put hx hb hown hK hh_19 hB hAp hB16 (C := RX14) (T := TX14) (N := 74) rfl (by decide) hg_r0 (i := 6) (by decide) hly_16_6 rfl (hts (.fieldLink RX14 160 "ProofServerModel" "framed" "I") (by decide +kernel)) rfl (ty := .int) (v := .int framed_7) (by decide +kernel) rfl rfl (⟨_, rfl, by omega, by omega⟩) rfl (L1 := [(r0, 16, 7, .int broken_3)]) [1] rfl rfl rfl dX14_send_55 (fun H_21 locs_21 hh_21 => ?_)
    clear hh_19
    refine lv_iload_n hx hb dX14_send_58 rfl (lv_at hl 1 rfl) ?_
    refine lv_sipush (v := 20000) hx hb dX14_send_59 (by decide) ?_
    refine lv_icmp_gt (tgt := 77) hx hb dX14_send_62 (by decide) (fun c_22 => ?_) (fun c_22 => ?_)
    · skip
      have c_22' : framed_7.toInt > 20000 := jb_gt (rfl) ((by decide)) c_22
      refine lv_aload_n hx hb dX14_send_77 rfl (lv_at hl 2 rfl) ?_
      refine lv_dup hx hb dX14_send_78 rfl ?_
      obtain ⟨v_23, hv_23, hh_24⟩ := hh_21.pin (C := RX14) (T := TX14) (N := 74) hB16 rfl (by decide) hg_r0 (i := 4) (by decide) rfl
      clear hh_21
      obtain ⟨lost_25, rfl⟩ := hv_23
      refine j7_read hx hb hown hK (C := RX14) (T := TX14) (N := 74) rfl hly_16_4 (hts (.fieldLink RX14 214 "ProofServerModel" "lost" "I") (by decide +kernel)) (hh_24.at 0 rfl) dX14_send_79 ?_
      refine lv_iconst (v := 1) hx hb dX14_send_82 (by decide) ?_
      refine lv_iadd hx hb dX14_send_83 ?_
      refine lv_topi (fun z_26 ez_26 => ?_)
      refine j7_put hx hb hown hK hh_24 hB hAp hB16 (C := RX14) (T := TX14) (N := 74) rfl (by decide) hg_r0 (i := 4) (by decide) hly_16_4 rfl (hts (.fieldLink RX14 214 "ProofServerModel" "lost" "I") (by decide +kernel)) rfl (ty := .int) (v := .int z_26) (by decide +kernel) rfl rfl (⟨_, rfl⟩) rfl (L1 := [(r0, 16, 6, .int framed_7), (r0, 16, 7, .int broken_3)]) [1, 2] rfl rfl rfl dX14_send_84 (fun H_27 locs_27 hh_27 => ?_)
      clear hh_24
      rw [hQ]
      exact W.vret hx hb hr (fun t ht hW => ⟨⟨(), rfl, trivial, hh_27.rt (M1 := []) [] rfl ht⟩, by rw [ht]; try exact hh_27.1.1, fun q h9 hq => by rw [ht]; try exact hh_27.1.2.1 q h9 hq⟩) hh_27.1.2.2 dX14_send_87
    · skip
      have c_22' : framed_7.toInt ≤ 20000 := jb_gt_n (rfl) ((by decide)) c_22
      refine lv_aload_n hx hb dX14_send_65 rfl (lv_at hl 2 rfl) ?_
      obtain ⟨v_28, hv_28, hh_29⟩ := hh_21.pin (C := RX14) (T := TX14) (N := 74) hB16 rfl (by decide) hg_r0 (i := 3) (by decide) rfl
      clear hh_21
      obtain ⟨outs_30, rfl, hloouts_30, hhiouts_30⟩ := hv_28
      refine j7_read hx hb hown hK (C := RX14) (T := TX14) (N := 74) rfl hly_16_3 (hts (.fieldLink RX14 211 "ProofServerModel" "outs" "I") (by decide +kernel)) (hh_29.at 0 rfl) dX14_send_66 ?_
      refine lv_iload_n hx hb dX14_send_69 rfl (lv_at hl 0 rfl) ?_
      refine lv_iadd hx hb dX14_send_70 ?_
      refine lv_topi (fun z_31 ez_31 => ?_)
      have hz_31 : z_31.toInt = outs_30.toInt + qf_19.toInt := by rw [ez_31]; exact jb_iadd2 (rfl) (rfl) (by omega)
      refine lv_sipush (v := 20000) hx hb dX14_send_71 (by decide) ?_
      refine lv_icmp_le (tgt := 88) hx hb dX14_send_74 (by decide) (fun c_32 => ?_) (fun c_32 => ?_)
      · skip
        have c_32' : z_31.toInt ≤ 20000 := jb_le (rfl) ((by decide)) c_32
        refine lv_iload_n hx hb dX14_send_88 rfl (lv_at hl 1 rfl) ?_
        refine lv_istore_n (lv' := [(3, .int framed_7), (2, .int qf_19), (1, .int framed_7), (0, .ref r0)]) hx hb dX14_send_89 rfl hl (by decide) rfl (fun ls hl => ?_)
        have L90 : ∀ (N : Nat) (v3_33 : Int32) (H_33 : Heap) (locs_33 : List Loc), jSt (dC, dI) B base G0 G0 EX14_send s.heap 0 0 [(r0, 16, 3, .int outs_30), (r0, 16, 6, .int framed_7), (r0, 16, 7, .int broken_3)] [] [] H_33 locs_33 → (framed_7.toInt ≤ v3_33.toInt) → (((qf_19.toInt - v3_33.toInt).toNat : Int) : Int) < N → ∀ ls : Array Slot, lv_has ls 4 [(0, .ref r0), (1, .int framed_7), (2, .int qf_19), (3, .int v3_33)] → W p l e R s m ([.ref r0] : List Value).toArray below meth c H_33 locs_33 0 0 Q (F0 m 90 ls []) := by
          intro N
          induction N with
          | zero => intro v3_33 H_33 locs_33 hh_33  hi_33 hm; exact absurd hm (by omega)
          | succ N L90 =>
            intro v3_33 H_33 locs_33 hh_33  hi_33 hm_33 ls hl
            refine lv_iload_n hx hb dX14_send_90 rfl (lv_at hl 3 rfl) ?_
            refine lv_iload_n hx hb dX14_send_91 rfl (lv_at hl 2 rfl) ?_
            refine lv_icmp_ge (tgt := 120) hx hb dX14_send_92 (by decide) (fun c_34 => ?_) (fun c_34 => ?_)
            · skip
              have c_34' : v3_33.toInt ≥ qf_19.toInt := jb_ge (rfl) (rfl) c_34
              refine lv_aload_n hx hb dX14_send_120 rfl (lv_at hl 0 rfl) ?_
              refine lv_dup hx hb dX14_send_121 rfl ?_
              refine j7_read hx hb hown hK (C := RX14) (T := TX14) (N := 74) rfl hly_16_3 (hts (.fieldLink RX14 211 "ProofServerModel" "outs" "I") (by decide +kernel)) (hh_33.at 0 rfl) dX14_send_122 ?_
              refine lv_iload_n hx hb dX14_send_125 rfl (lv_at hl 2 rfl) ?_
              refine lv_iload_n hx hb dX14_send_126 rfl (lv_at hl 1 rfl) ?_
              refine lv_isub hx hb dX14_send_127 ?_
              refine lv_topi (fun z_35 ez_35 => ?_)
              have hz_35 : z_35.toInt = qf_19.toInt - framed_7.toInt := by rw [ez_35]; exact jb_isub2 (rfl) (rfl) (by omega)
              refine lv_iadd hx hb dX14_send_128 ?_
              refine lv_topi (fun z_36 ez_36 => ?_)
              have hz_36 : z_36.toInt = outs_30.toInt + z_35.toInt := by rw [ez_36]; exact jb_iadd2 (rfl) (rfl) (by omega)
              refine j7_put hx hb hown hK hh_33 hB hAp hB16 (C := RX14) (T := TX14) (N := 74) rfl (by decide) hg_r0 (i := 3) (by decide) hly_16_3 rfl (hts (.fieldLink RX14 211 "ProofServerModel" "outs" "I") (by decide +kernel)) rfl (ty := .int) (v := .int z_36) (by decide +kernel) rfl rfl (⟨_, rfl, by omega, by omega⟩) rfl (L1 := [(r0, 16, 6, .int framed_7), (r0, 16, 7, .int broken_3)]) [1, 2] rfl rfl rfl dX14_send_129 (fun H_37 locs_37 hh_37 => ?_)
              clear hh_33
              refine lv_iconst (v := 0) hx hb dX14_send_132 (by decide) ?_
              refine lv_istore_n (lv' := [(3, .int 0), (0, .ref r0), (1, .int framed_7), (2, .int qf_19)]) hx hb dX14_send_133 rfl hl (by decide) rfl (fun ls hl => ?_)
              have L134 : ∀ (N : Nat) (v3_38 : Int32) (H_38 : Heap) (locs_38 : List Loc), jSt (dC, dI) B base G0 G0 EX14_send s.heap 0 0 [(r0, 16, 3, .int z_36), (r0, 16, 6, .int framed_7), (r0, 16, 7, .int broken_3)] [] [] H_38 locs_38 → (0 ≤ v3_38.toInt) → (((framed_7.toInt - v3_38.toInt).toNat : Int) : Int) < N → ∀ ls : Array Slot, lv_has ls 4 [(0, .ref r0), (1, .int framed_7), (2, .int qf_19), (3, .int v3_38)] → W p l e R s m ([.ref r0] : List Value).toArray below meth c H_38 locs_38 0 0 Q (F0 m 134 ls []) := by
                intro N
                induction N with
                | zero => intro v3_38 H_38 locs_38 hh_38  hi_38 hm; exact absurd hm (by omega)
                | succ N L134 =>
                  intro v3_38 H_38 locs_38 hh_38  hi_38 hm_38 ls hl
                  refine lv_iload_n hx hb dX14_send_134 rfl (lv_at hl 3 rfl) ?_
                  refine lv_iload_n hx hb dX14_send_135 rfl (lv_at hl 1 rfl) ?_
                  refine lv_icmp_ge (tgt := 162) hx hb dX14_send_136 (by decide) (fun c_39 => ?_) (fun c_39 => ?_)
                  · skip
                    have c_39' : v3_38.toInt ≥ framed_7.toInt := jb_ge (rfl) (rfl) c_39
                    refine lv_aload_n hx hb dX14_send_162 rfl (lv_at hl 0 rfl) ?_
                    refine lv_dup hx hb dX14_send_163 rfl ?_
                    refine j7_read hx hb hown hK (C := RX14) (T := TX14) (N := 74) rfl hly_16_3 (hts (.fieldLink RX14 211 "ProofServerModel" "outs" "I") (by decide +kernel)) (hh_38.at 0 rfl) dX14_send_164 ?_
                    refine lv_iload_n hx hb dX14_send_167 rfl (lv_at hl 1 rfl) ?_
                    refine lv_iadd hx hb dX14_send_168 ?_
                    refine lv_topi (fun z_40 ez_40 => ?_)
                    have hz_40 : z_40.toInt = z_36.toInt + framed_7.toInt := by rw [ez_40]; exact jb_iadd2 (rfl) (rfl) (by omega)
                    refine j7_put hx hb hown hK hh_38 hB hAp hB16 (C := RX14) (T := TX14) (N := 74) rfl (by decide) hg_r0 (i := 3) (by decide) hly_16_3 rfl (hts (.fieldLink RX14 211 "ProofServerModel" "outs" "I") (by decide +kernel)) rfl (ty := .int) (v := .int z_40) (by decide +kernel) rfl rfl (⟨_, rfl, by omega, by omega⟩) rfl (L1 := [(r0, 16, 6, .int framed_7), (r0, 16, 7, .int broken_3)]) [1, 2] rfl rfl rfl dX14_send_169 (fun H_41 locs_41 hh_41 => ?_)
                    clear hh_38
                    rw [hQ]
                    exact W.vret hx hb hr (fun t ht hW => ⟨⟨(), rfl, trivial, hh_41.rt (M1 := []) [] rfl ht⟩, by rw [ht]; try exact hh_41.1.1, fun q h9 hq => by rw [ht]; try exact hh_41.1.2.1 q h9 hq⟩) hh_41.1.2.2 dX14_send_172
                  · skip
                    have c_39' : v3_38.toInt < framed_7.toInt := jb_ge_n (rfl) (rfl) c_39
                    refine lv_aload_n hx hb dX14_send_139 rfl (lv_at hl 0 rfl) ?_
                    obtain ⟨v_42, hv_42, hh_43⟩ := hh_38.pin (C := RX14) (T := TX14) (N := 74) hB16 rfl (by decide) hg_r0 (i := 2) (by decide) rfl
                    clear hh_38
                    obtain ⟨out_44, rfl, hg_out_44⟩ := hv_42
                    refine j7_read hx hb hown hK (C := RX14) (T := TX14) (N := 74) rfl hly_16_2 (hts (.fieldLink RX14 13 "ProofServerModel" "out" "[I") (by decide +kernel)) (hh_43.at 0 rfl) dX14_send_140 ?_
                    refine lv_aload_n hx hb dX14_send_143 rfl (lv_at hl 0 rfl) ?_
                    refine j7_read hx hb hown hK (C := RX14) (T := TX14) (N := 74) rfl hly_16_3 (hts (.fieldLink RX14 211 "ProofServerModel" "outs" "I") (by decide +kernel)) (hh_43.at 1 rfl) dX14_send_144 ?_
                    refine lv_iload_n hx hb dX14_send_147 rfl (lv_at hl 3 rfl) ?_
                    refine lv_iadd hx hb dX14_send_148 ?_
                    refine lv_topi (fun z_45 ez_45 => ?_)
                    have hz_45 : z_45.toInt = z_36.toInt + v3_38.toInt := by rw [ez_45]; exact jb_iadd2 (rfl) (rfl) (by omega)
                    refine lv_aload_n hx hb dX14_send_149 rfl (lv_at hl 0 rfl) ?_
                    obtain ⟨v_46, hv_46, hh_47⟩ := hh_43.pin (C := RX14) (T := TX14) (N := 74) hB16 rfl (by decide) hg_r0 (i := 5) (by decide) rfl
                    clear hh_43
                    obtain ⟨frame_48, rfl, hg_frame_48⟩ := hv_46
                    refine j7_read hx hb hown hK (C := RX14) (T := TX14) (N := 74) rfl hly_16_5 (hts (.fieldLink RX14 17 "ProofServerModel" "frame" "[I") (by decide +kernel)) (hh_47.at 0 rfl) dX14_send_150 ?_
                    refine lv_iload_n hx hb dX14_send_153 rfl (lv_at hl 3 rfl) ?_
                    refine j7_iald hx hb hK hh_47 hB101 1 rfl (by decide) hg_frame_48 (rfl) (by omega) dX14_send_154 (fun z_49 (hz_49 : True) => ?_)
                    refine j7_iast hx hb hK hh_47 hB hB101 1 rfl (by decide) (by decide) rfl rfl rfl hg_out_44 (rfl) (by omega) (trivial) dX14_send_155 (fun H_50 locs_50 hh_50 => ?_)
                    clear hh_47
                    obtain ⟨z_51, ez_51⟩ : ∃ y : Int32, y = v3_38 + 1 := ⟨_, rfl⟩
                    refine lv_iinc (v := z_51) (lv' := [(3, .int z_51), (0, .ref r0), (1, .int framed_7), (2, .int qf_19)]) hx hb dX14_send_156 hl (k := 3) rfl (by rw [ez_51]; rfl) (by decide) rfl (fun ls hl => ?_)
                    have hz_51 : z_51.toInt = v3_38.toInt + 1 := by rw [ez_51]; exact jb_iadd2 (rfl) (by decide) (by omega)
                    refine lv_goto (tgt := 134) hx hb dX14_send_159 (by decide) ?_
                    exact L134 z_51 _ _ (hh_50.sub (L1 := [(r0, 16, 3, .int z_36), (r0, 16, 6, .int framed_7), (r0, 16, 7, .int broken_3)]) [2, 3, 4] rfl (M1 := []) [] rfl (I1 := []) [] rfl) (by first | omega | rfl | assumption | decide | exact Or.inl rfl | exact Or.inr rfl | (simp only; omega)) (by omega) _ (lv_sub hl [1, 2, 3, 0] rfl)
              exact L134 (((framed_7.toInt - (0 : Int32).toInt).toNat : Int) : Int).toNat.succ 0 _ _ hh_37 (by first | omega | rfl | assumption | decide | exact Or.inl rfl | exact Or.inr rfl | (simp only; omega)) (by omega) _ (lv_sub hl [1, 2, 3, 0] rfl)
            · skip
              have c_34' : v3_33.toInt < qf_19.toInt := jb_ge_n (rfl) (rfl) c_34
              refine lv_aload_n hx hb dX14_send_95 rfl (lv_at hl 0 rfl) ?_
              obtain ⟨v_52, hv_52, hh_53⟩ := hh_33.pin (C := RX14) (T := TX14) (N := 74) hB16 rfl (by decide) hg_r0 (i := 2) (by decide) rfl
              clear hh_33
              obtain ⟨out_54, rfl, hg_out_54⟩ := hv_52
              refine j7_read hx hb hown hK (C := RX14) (T := TX14) (N := 74) rfl hly_16_2 (hts (.fieldLink RX14 13 "ProofServerModel" "out" "[I") (by decide +kernel)) (hh_53.at 0 rfl) dX14_send_96 ?_
              refine lv_aload_n hx hb dX14_send_99 rfl (lv_at hl 0 rfl) ?_
              refine j7_read hx hb hown hK (C := RX14) (T := TX14) (N := 74) rfl hly_16_3 (hts (.fieldLink RX14 211 "ProofServerModel" "outs" "I") (by decide +kernel)) (hh_53.at 1 rfl) dX14_send_100 ?_
              refine lv_iload_n hx hb dX14_send_103 rfl (lv_at hl 3 rfl) ?_
              refine lv_iadd hx hb dX14_send_104 ?_
              refine lv_topi (fun z_55 ez_55 => ?_)
              have hz_55 : z_55.toInt = outs_30.toInt + v3_33.toInt := by rw [ez_55]; exact jb_iadd2 (rfl) (rfl) (by omega)
              refine lv_iload_n hx hb dX14_send_105 rfl (lv_at hl 1 rfl) ?_
              refine lv_isub hx hb dX14_send_106 ?_
              refine lv_topi (fun z_56 ez_56 => ?_)
              have hz_56 : z_56.toInt = z_55.toInt - framed_7.toInt := by rw [ez_56]; exact jb_isub2 (rfl) (rfl) (by omega)
              refine lv_aload_n hx hb dX14_send_107 rfl (lv_at hl 0 rfl) ?_
              obtain ⟨v_57, hv_57, hh_58⟩ := hh_53.pin (C := RX14) (T := TX14) (N := 74) hB16 rfl (by decide) hg_r0 (i := 5) (by decide) rfl
              clear hh_53
              obtain ⟨frame_59, rfl, hg_frame_59⟩ := hv_57
              refine j7_read hx hb hown hK (C := RX14) (T := TX14) (N := 74) rfl hly_16_5 (hts (.fieldLink RX14 17 "ProofServerModel" "frame" "[I") (by decide +kernel)) (hh_58.at 0 rfl) dX14_send_108 ?_
              refine lv_iload_n hx hb dX14_send_111 rfl (lv_at hl 3 rfl) ?_
              refine j7_iald hx hb hK hh_58 hB101 1 rfl (by decide) hg_frame_59 (rfl) (by omega) dX14_send_112 (fun z_60 (hz_60 : True) => ?_)
              refine j7_iast hx hb hK hh_58 hB hB101 1 rfl (by decide) (by decide) rfl rfl rfl hg_out_54 (rfl) (by omega) (trivial) dX14_send_113 (fun H_61 locs_61 hh_61 => ?_)
              clear hh_58
              obtain ⟨z_62, ez_62⟩ : ∃ y : Int32, y = v3_33 + 1 := ⟨_, rfl⟩
              refine lv_iinc (v := z_62) (lv' := [(3, .int z_62), (0, .ref r0), (1, .int framed_7), (2, .int qf_19)]) hx hb dX14_send_114 hl (k := 3) rfl (by rw [ez_62]; rfl) (by decide) rfl (fun ls hl => ?_)
              have hz_62 : z_62.toInt = v3_33.toInt + 1 := by rw [ez_62]; exact jb_iadd2 (rfl) (by decide) (by omega)
              refine lv_goto (tgt := 90) hx hb dX14_send_117 (by decide) ?_
              exact L90 z_62 _ _ (hh_61.sub (L1 := [(r0, 16, 3, .int outs_30), (r0, 16, 6, .int framed_7), (r0, 16, 7, .int broken_3)]) [2, 3, 4] rfl (M1 := []) [] rfl (I1 := []) [] rfl) (by first | omega | rfl | assumption | decide | exact Or.inl rfl | exact Or.inr rfl | (simp only; omega)) (by omega) _ (lv_sub hl [1, 2, 3, 0] rfl)
        exact L90 (((qf_19.toInt - (framed_7 : Int32).toInt).toNat : Int) : Int).toNat.succ framed_7 _ _ hh_29 (by first | omega | rfl | assumption | decide | exact Or.inl rfl | exact Or.inr rfl | (simp only; omega)) (by omega) _ (lv_sub hl [3, 2, 1, 0] rfl)
      · skip
        have c_32' : z_31.toInt > 20000 := jb_le_n (rfl) ((by decide)) c_32
        refine lv_aload_n hx hb dX14_send_77 rfl (lv_at hl 2 rfl) ?_
        refine lv_dup hx hb dX14_send_78 rfl ?_
        obtain ⟨v_63, hv_63, hh_64⟩ := hh_29.pin (C := RX14) (T := TX14) (N := 74) hB16 rfl (by decide) hg_r0 (i := 4) (by decide) rfl
        clear hh_29
        obtain ⟨lost_65, rfl⟩ := hv_63
        refine j7_read hx hb hown hK (C := RX14) (T := TX14) (N := 74) rfl hly_16_4 (hts (.fieldLink RX14 214 "ProofServerModel" "lost" "I") (by decide +kernel)) (hh_64.at 0 rfl) dX14_send_79 ?_
        refine lv_iconst (v := 1) hx hb dX14_send_82 (by decide) ?_
        refine lv_iadd hx hb dX14_send_83 ?_
        refine lv_topi (fun z_66 ez_66 => ?_)
        refine j7_put hx hb hown hK hh_64 hB hAp hB16 (C := RX14) (T := TX14) (N := 74) rfl (by decide) hg_r0 (i := 4) (by decide) hly_16_4 rfl (hts (.fieldLink RX14 214 "ProofServerModel" "lost" "I") (by decide +kernel)) rfl (ty := .int) (v := .int z_66) (by decide +kernel) rfl rfl (⟨_, rfl⟩) rfl (L1 := [(r0, 16, 3, .int outs_30), (r0, 16, 6, .int framed_7), (r0, 16, 7, .int broken_3)]) [1, 2, 3] rfl rfl rfl dX14_send_84 (fun H_67 locs_67 hh_67 => ?_)
        clear hh_64
        rw [hQ]
        exact W.vret hx hb hr (fun t ht hW => ⟨⟨(), rfl, trivial, hh_67.rt (M1 := []) [] rfl ht⟩, by rw [ht]; try exact hh_67.1.1, fun q h9 hq => by rw [ht]; try exact hh_67.1.2.1 q h9 hq⟩) hh_67.1.2.2 dX14_send_87
  · skip
    have c_4' : broken_3.toInt ≠ 0 := jb_eq_n (rfl) ((by decide)) c_4
    rw [hQ]
    exact W.vret hx hb hr (fun t ht hW => ⟨⟨(), rfl, trivial, hh_2.rt (M1 := []) [] rfl ht⟩, by rw [ht]; try exact hh_2.1.1, fun q h9 hq => by rw [ht]; try exact hh_2.1.2.1 q h9 hq⟩) hh_2.1.2.2 dX14_send_7
set_option maxHeartbeats 4000000 in
set_option maxRecDepth 20000 in
theorem uX14_feed (l : Launch) (dC : Nat → ClassId) (dI : Nat → Nat → Nat) (ca : Nat → ClassId) (base : Nat) (B : jF) (hB : jBok B) (hAp : jAp (dC, dI)) (hB16 : ∀ n G a H, B 16 n G a H ↔ jOb (dC, dI) 16 74 (F16 n G) a H) (hB110 : ∀ n G a H, B 110 n G a H ↔ jAr (dC, dI) (ca 1) (fun j z => 0 ≤ z.toInt ∧ z.toInt ≤ 255) n a H) (G0 : jT) (H0 : Heap) (r0 : Nat) (a1 : Int32) (a2 : Int32) (a3 : Int32) (a4 : Int32) (a5 : Int32) (pd : Int32) : Met l yX14_feed wsX14_feed ({ frames := 0, cells := 0, slots := 0, locals := 0 }) (va_Pc [.ref r0, .int a1, .int a2, .int a3, .int a4, .int a5] (fun U => U.heap = H0 ∧ jX B base G0 [] H0 ∧ jG dC dI ca base U ∧ G0 r0 = some (16, 0) ∧ jP (dC, dI) G0 H0 [(r0, 16, 1, .int pd)] ∧ 0 ≤ pd.toInt ∧ pd.toInt ≤ 4000)) (va_Qi (S := Int32) (fun r u => ((3980 < pd.toInt ∧ r.toInt = -1 ∧ u.toInt = pd.toInt) ∨ (pd.toInt ≤ 3980 ∧ r.toInt = pd.toInt + 20 ∧ u.toInt = pd.toInt + 20))) (fun u t => jRt (dC, dI) B base G0 EX14_feed H0 [(r0, 16, 1, .int u)] t.heap) (jA base)) 0 0 (jA base) := by
  refine Met.ofW (cc := cX14_feed) (maxL := 8) (ret := (some .int)) (by decide) rfl ?_
  intro p e s m args below meth c s₁ Bd hml hv
  obtain ⟨rfl, hH0, hX, hG, hg_r0, hP0, hp0, hp1⟩ := hv
  have hK := hG.1
  have hx := Bd.exec
  have hb := Bd.bytes
  have hr := Bd.returns
  have hts := atoms_spec (ws := wsX14_feed) Bd.pre
  have hown : s.vm.findClass RX14 = some m.cls := findClass_of_methodNamed Bd.named
  have hlocks := Bd.notSynchronized
  obtain ⟨Q, hQ⟩ : ∃ Q, Q = MQ below (va_Qi (S := Int32) (fun r u => ((3980 < pd.toInt ∧ r.toInt = -1 ∧ u.toInt = pd.toInt) ∨ (pd.toInt ≤ 3980 ∧ r.toInt = pd.toInt + 20 ∧ u.toInt = pd.toInt + 20))) (fun u t => jRt (dC, dI) B base G0 EX14_feed H0 [(r0, 16, 1, .int u)] t.heap) (jA base)) ([.ref r0, .int a1, .int a2, .int a3, .int a4, .int a5] : List Value).toArray s 0 0 (jA base) := ⟨_, rfl⟩
  rw [← hQ]
  have hl := lv_entry ([.ref r0, .int a1, .int a2, .int a3, .int a4, .int a5]) (n := 8) (Nat.le_of_ble_eq_true rfl)
  rw [lg_entry_eq]
  generalize (lg_sl ([.ref r0, .int a1, .int a2, .int a3, .int a4, .int a5]) ++ List.replicate (8 - (lg_sl ([.ref r0, .int a1, .int a2, .int a3, .int a4, .int a5])).length) Slot.unset).toArray = ls at hl ⊢
  have hl : lv_has ls 8 [(0, .ref r0), (1, .int a1), (2, .int a2), (3, .int a3), (4, .int a4), (5, .int a5)] := hl
  generalize hR : (headSpec wsX14_feed ({ frames := 0, cells := 0, slots := 0, locals := 0 })).room = R
  subst hH0
  have hh : jSt (dC, dI) B base G0 G0 EX14_feed s.heap 0 0 [(r0, 16, 1, .int pd)] [] [] s.heap [] := jSt.start hX hP0 jMc.nil jIs.nil
  clear hX hP0
  have hkm1 : ((-1) : Int32).toInt = (-1) := by decide
  have hk0 : (0 : Int32).toInt = 0 := by decide
  have hk1 : (1 : Int32).toInt = 1 := by decide
  have hk4 : (4 : Int32).toInt = 4 := by decide
  have hk8 : (8 : Int32).toInt = 8 := by decide
  have hk12 : (12 : Int32).toInt = 12 := by decide
  have hk16 : (16 : Int32).toInt = 16 := by decide
  have hk20 : (20 : Int32).toInt = 20 := by decide
  have hk24 : (24 : Int32).toInt = 24 := by decide
  have hk255 : (255 : Int32).toInt = 255 := by decide
  have hk4000 : (4000 : Int32).toInt = 4000 := by decide
  have hly_16_0 := hts (u_lay RX14 TX14 0) (by decide +kernel)
  have hly_16_1 := hts (u_lay RX14 TX14 1) (by decide +kernel)
  have hrg_a1 := jb_rng a1
  have hrg_a2 := jb_rng a2
  have hrg_a3 := jb_rng a3
  have hrg_a4 := jb_rng a4
  have hrg_a5 := jb_rng a5
  refine lv_aload_n hx hb dX14_feed_0 rfl (lv_at hl 0 rfl) ?_
  refine j7_read hx hb hown hK (C := RX14) (T := TX14) (N := 74) rfl hly_16_1 (hts (.fieldLink RX14 217 "ProofServerModel" "taped" "I") (by decide +kernel)) (hh.at 0 rfl) dX14_feed_1 ?_
  refine lv_bipush (v := 20) hx hb dX14_feed_4 (by decide) ?_
  refine lv_iadd hx hb dX14_feed_6 ?_
  refine lv_topi (fun z_1 ez_1 => ?_)
  have hz_1 : z_1.toInt = pd.toInt + 20 := by rw [ez_1]; exact jb_iadd2 (rfl) ((by decide)) (by omega)
  refine lv_sipush (v := 4000) hx hb dX14_feed_7 (by decide) ?_
  refine lv_icmp_le (tgt := 15) hx hb dX14_feed_10 (by decide) (fun c_2 => ?_) (fun c_2 => ?_)
  · skip
    have c_2' : z_1.toInt ≤ 4000 := jb_le (rfl) ((by decide)) c_2
    refine lv_iconst (v := 0) hx hb dX14_feed_15 (by decide) ?_
    refine lv_istore (lv' := [(6, .int 0), (0, .ref r0), (1, .int a1), (2, .int a2), (3, .int a3), (4, .int a4), (5, .int a5)]) hx hb dX14_feed_16 hl (by decide) rfl (fun ls hl => ?_)
    have L18 : ∀ (N : Nat) (v6_3 : Int32) (H_3 : Heap) (locs_3 : List Loc), jSt (dC, dI) B base G0 G0 EX14_feed s.heap 0 0 [(r0, 16, 1, .int pd)] [] [] H_3 locs_3 → (0 ≤ v6_3.toInt ∧ v6_3.toInt ≤ 20) → (20 - v6_3.toInt : Int) < N → ∀ ls : Array Slot, lv_has ls 8 [(0, .ref r0), (1, .int a1), (2, .int a2), (3, .int a3), (4, .int a4), (5, .int a5), (6, .int v6_3)] → W p l e R s m ([.ref r0, .int a1, .int a2, .int a3, .int a4, .int a5] : List Value).toArray below meth c H_3 locs_3 0 0 Q (F0 m 18 ls []) := by
      intro N
      induction N with
      | zero => intro v6_3 H_3 locs_3 hh_3  hi_3 hm; exact absurd hm (by omega)
      | succ N L18 =>
        intro v6_3 H_3 locs_3 hh_3  hi_3 hm_3 ls hl
        obtain ⟨hi_3_0, hi_3_1⟩ := hi_3
        refine lv_iload hx hb dX14_feed_18 (lv_at hl 6 rfl) ?_
        refine lv_bipush (v := 20) hx hb dX14_feed_20 (by decide) ?_
        refine lv_icmp_ge (tgt := 108) hx hb dX14_feed_22 (by decide) (fun c_4 => ?_) (fun c_4 => ?_)
        · skip
          have c_4' : v6_3.toInt ≥ 20 := jb_ge (rfl) ((by decide)) c_4
          refine lv_aload_n hx hb dX14_feed_108 rfl (lv_at hl 0 rfl) ?_
          refine lv_dup hx hb dX14_feed_109 rfl ?_
          refine j7_read hx hb hown hK (C := RX14) (T := TX14) (N := 74) rfl hly_16_1 (hts (.fieldLink RX14 217 "ProofServerModel" "taped" "I") (by decide +kernel)) (hh_3.at 0 rfl) dX14_feed_110 ?_
          refine lv_bipush (v := 20) hx hb dX14_feed_113 (by decide) ?_
          refine lv_iadd hx hb dX14_feed_115 ?_
          refine lv_topi (fun z_5 ez_5 => ?_)
          have hz_5 : z_5.toInt = pd.toInt + 20 := by rw [ez_5]; exact jb_iadd2 (rfl) ((by decide)) (by omega)
          refine j7_put hx hb hown hK hh_3 hB hAp hB16 (C := RX14) (T := TX14) (N := 74) rfl (by decide) hg_r0 (i := 1) (by decide) hly_16_1 rfl (hts (.fieldLink RX14 217 "ProofServerModel" "taped" "I") (by decide +kernel)) rfl (ty := .int) (v := .int z_5) (by decide +kernel) rfl rfl (⟨_, rfl, by omega, by omega⟩) rfl (L1 := []) [] rfl rfl rfl dX14_feed_116 (fun H_6 locs_6 hh_6 => ?_)
          clear hh_3
          refine lv_aload_n hx hb dX14_feed_119 rfl (lv_at hl 0 rfl) ?_
          refine j7_read hx hb hown hK (C := RX14) (T := TX14) (N := 74) rfl hly_16_1 (hts (.fieldLink RX14 217 "ProofServerModel" "taped" "I") (by decide +kernel)) (hh_6.at 0 rfl) dX14_feed_120 ?_
          rw [hQ]
          exact W.iret (v := z_5) hx hb hr (fun t ht hW => ⟨⟨z_5, z_5, rfl, by first | omega | rfl | assumption | decide | exact Or.inl rfl | exact Or.inr rfl | (simp only; omega), hh_6.rt (M1 := [(r0, 16, 1, .int z_5)]) [0] rfl ht⟩, by rw [ht]; try exact hh_6.1.1, fun q h9 hq => by rw [ht]; try exact hh_6.1.2.1 q h9 hq⟩) hh_6.1.2.2 dX14_feed_123
        · skip
          have c_4' : v6_3.toInt < 20 := jb_ge_n (rfl) ((by decide)) c_4
          refine lv_iload hx hb dX14_feed_25 (lv_at hl 6 rfl) ?_
          refine lv_iconst (v := 4) hx hb dX14_feed_27 (by decide) ?_
          refine lv_icmp_ge (tgt := 35) hx hb dX14_feed_28 (by decide) (fun c_7 => ?_) (fun c_7 => ?_)
          · skip
            have c_7' : v6_3.toInt ≥ 4 := jb_ge (rfl) ((by decide)) c_7
            refine lv_iload hx hb dX14_feed_35 (lv_at hl 6 rfl) ?_
            refine lv_bipush (v := 8) hx hb dX14_feed_37 (by decide) ?_
            refine lv_icmp_ge (tgt := 46) hx hb dX14_feed_39 (by decide) (fun c_8 => ?_) (fun c_8 => ?_)
            · skip
              have c_8' : v6_3.toInt ≥ 8 := jb_ge (rfl) ((by decide)) c_8
              refine lv_iload hx hb dX14_feed_46 (lv_at hl 6 rfl) ?_
              refine lv_bipush (v := 12) hx hb dX14_feed_48 (by decide) ?_
              refine lv_icmp_ge (tgt := 57) hx hb dX14_feed_50 (by decide) (fun c_9 => ?_) (fun c_9 => ?_)
              · skip
                have c_9' : v6_3.toInt ≥ 12 := jb_ge (rfl) ((by decide)) c_9
                refine lv_iload hx hb dX14_feed_57 (lv_at hl 6 rfl) ?_
                refine lv_bipush (v := 16) hx hb dX14_feed_59 (by decide) ?_
                refine lv_icmp_ge (tgt := 69) hx hb dX14_feed_61 (by decide) (fun c_10 => ?_) (fun c_10 => ?_)
                · skip
                  have c_10' : v6_3.toInt ≥ 16 := jb_ge (rfl) ((by decide)) c_10
                  refine lv_iload hx hb dX14_feed_69 (lv_at hl 5 rfl) ?_
                  refine lv_istore (lv' := [(7, .int a5), (0, .ref r0), (1, .int a1), (2, .int a2), (3, .int a3), (4, .int a4), (5, .int a5), (6, .int v6_3)]) hx hb dX14_feed_71 hl (by decide) rfl (fun ls hl => ?_)
                  refine lv_aload_n hx hb dX14_feed_73 rfl (lv_at hl 1 rfl) ?_
                  obtain ⟨v_11, hv_11, hh_12⟩ := hh_3.pin (C := RX14) (T := TX14) (N := 74) hB16 rfl (by decide) hg_r0 (i := 0) (by decide) rfl
                  clear hh_3
                  obtain ⟨tape_13, rfl, hg_tape_13⟩ := hv_11
                  refine j7_read hx hb hown hK (C := RX14) (T := TX14) (N := 74) rfl hly_16_0 (hts (.fieldLink RX14 9 "ProofServerModel" "tape" "[I") (by decide +kernel)) (hh_12.at 0 rfl) dX14_feed_74 ?_
                  refine lv_aload_n hx hb dX14_feed_77 rfl (lv_at hl 1 rfl) ?_
                  refine j7_read hx hb hown hK (C := RX14) (T := TX14) (N := 74) rfl hly_16_1 (hts (.fieldLink RX14 217 "ProofServerModel" "taped" "I") (by decide +kernel)) (hh_12.at 1 rfl) dX14_feed_78 ?_
                  refine lv_iload hx hb dX14_feed_81 (lv_at hl 7 rfl) ?_
                  refine lv_iadd hx hb dX14_feed_83 ?_
                  refine lv_topi (fun z_14 ez_14 => ?_)
                  have hz_14 : z_14.toInt = pd.toInt + v6_3.toInt := by rw [ez_14]; exact jb_iadd2 (rfl) (rfl) (by omega)
                  refine lv_iload hx hb dX14_feed_84 (lv_at hl 0 rfl) ?_
                  refine lv_bipush (v := 24) hx hb dX14_feed_86 (by decide) ?_
                  refine lv_bipush (v := 8) hx hb dX14_feed_88 (by decide) ?_
                  refine lv_iload hx hb dX14_feed_90 (lv_at hl 7 rfl) ?_
                  refine lv_iconst (v := 4) hx hb dX14_feed_92 (by decide) ?_
                  refine lv_irem hx hb dX14_feed_93 (by decide) ?_
                  refine lv_topi (fun z_15 ez_15 => ?_)
                  have hz_15 := jb_irem (n := 4) ez_15 (by decide) (by decide)
                  refine lv_imul hx hb dX14_feed_94 ?_
                  refine lv_topi (fun z_16 ez_16 => ?_)
                  have hz_16 : z_16.toInt = 8 * z_15.toInt := by rw [ez_16]; exact jb_imul2 ((by decide)) (rfl) (by omega)
                  refine lv_isub hx hb dX14_feed_95 ?_
                  refine lv_topi (fun z_17 ez_17 => ?_)
                  have hz_17 : z_17.toInt = 24 - z_16.toInt := by rw [ez_17]; exact jb_isub2 ((by decide)) (rfl) (by omega)
                  refine lv_ishr hx hb dX14_feed_96 ?_
                  refine lv_topi (fun z_18 ez_18 => ?_)
                  refine lv_sipush (v := 255) hx hb dX14_feed_97 (by decide) ?_
                  refine lv_iand hx hb dX14_feed_100 ?_
                  refine lv_topi (fun z_19 ez_19 => ?_)
                  have hz_19 : 0 ≤ z_19.toInt ∧ z_19.toInt ≤ 255 := by rw [ez_19]; exact jb_and z_18 (m := 255) (k := 8) (by decide) (by decide)
                  refine j7_iast hx hb hK hh_12 hB hB110 1 rfl (by decide) (by decide) rfl rfl rfl hg_tape_13 (rfl) (by omega) (by first | omega | (refine ⟨?_, ?_⟩ <;> (first | omega | rfl | assumption | decide | exact Or.inl rfl | exact Or.inr rfl | (simp only; omega)))) dX14_feed_101 (fun H_20 locs_20 hh_20 => ?_)
                  clear hh_12
                  obtain ⟨z_21, ez_21⟩ : ∃ y : Int32, y = v6_3 + 1 := ⟨_, rfl⟩
                  refine lv_iinc (v := z_21) (lv' := [(6, .int z_21), (7, .int a5), (0, .ref r0), (1, .int a1), (2, .int a2), (3, .int a3), (4, .int a4), (5, .int a5)]) hx hb dX14_feed_102 hl (k := 7) rfl (by rw [ez_21]; rfl) (by decide) rfl (fun ls hl => ?_)
                  have hz_21 : z_21.toInt = v6_3.toInt + 1 := by rw [ez_21]; exact jb_iadd2 (rfl) (by decide) (by omega)
                  refine lv_goto (tgt := 18) hx hb dX14_feed_105 (by decide) ?_
                  exact L18 z_21 _ _ (hh_20.sub (L1 := [(r0, 16, 1, .int pd)]) [1] rfl (M1 := []) [] rfl (I1 := []) [] rfl) (by first | omega | (refine ⟨?_, ?_⟩ <;> (first | omega | rfl | assumption | decide | exact Or.inl rfl | exact Or.inr rfl | (simp only; omega)))) (by omega) _ (lv_sub hl [2, 3, 4, 5, 6, 7, 0] rfl)
                · skip
                  have c_10' : v6_3.toInt < 16 := jb_ge_n (rfl) ((by decide)) c_10
                  refine lv_iload hx hb dX14_feed_64 (lv_at hl 4 rfl) ?_
                  refine lv_goto (tgt := 71) hx hb dX14_feed_66 (by decide) ?_
                  refine lv_istore (lv' := [(7, .int a4), (0, .ref r0), (1, .int a1), (2, .int a2), (3, .int a3), (4, .int a4), (5, .int a5), (6, .int v6_3)]) hx hb dX14_feed_71 hl (by decide) rfl (fun ls hl => ?_)
                  refine lv_aload_n hx hb dX14_feed_73 rfl (lv_at hl 1 rfl) ?_
                  obtain ⟨v_22, hv_22, hh_23⟩ := hh_3.pin (C := RX14) (T := TX14) (N := 74) hB16 rfl (by decide) hg_r0 (i := 0) (by decide) rfl
                  clear hh_3
                  obtain ⟨tape_24, rfl, hg_tape_24⟩ := hv_22
                  refine j7_read hx hb hown hK (C := RX14) (T := TX14) (N := 74) rfl hly_16_0 (hts (.fieldLink RX14 9 "ProofServerModel" "tape" "[I") (by decide +kernel)) (hh_23.at 0 rfl) dX14_feed_74 ?_
                  refine lv_aload_n hx hb dX14_feed_77 rfl (lv_at hl 1 rfl) ?_
                  refine j7_read hx hb hown hK (C := RX14) (T := TX14) (N := 74) rfl hly_16_1 (hts (.fieldLink RX14 217 "ProofServerModel" "taped" "I") (by decide +kernel)) (hh_23.at 1 rfl) dX14_feed_78 ?_
                  refine lv_iload hx hb dX14_feed_81 (lv_at hl 7 rfl) ?_
                  refine lv_iadd hx hb dX14_feed_83 ?_
                  refine lv_topi (fun z_25 ez_25 => ?_)
                  have hz_25 : z_25.toInt = pd.toInt + v6_3.toInt := by rw [ez_25]; exact jb_iadd2 (rfl) (rfl) (by omega)
                  refine lv_iload hx hb dX14_feed_84 (lv_at hl 0 rfl) ?_
                  refine lv_bipush (v := 24) hx hb dX14_feed_86 (by decide) ?_
                  refine lv_bipush (v := 8) hx hb dX14_feed_88 (by decide) ?_
                  refine lv_iload hx hb dX14_feed_90 (lv_at hl 7 rfl) ?_
                  refine lv_iconst (v := 4) hx hb dX14_feed_92 (by decide) ?_
                  refine lv_irem hx hb dX14_feed_93 (by decide) ?_
                  refine lv_topi (fun z_26 ez_26 => ?_)
                  have hz_26 := jb_irem (n := 4) ez_26 (by decide) (by decide)
                  refine lv_imul hx hb dX14_feed_94 ?_
                  refine lv_topi (fun z_27 ez_27 => ?_)
                  have hz_27 : z_27.toInt = 8 * z_26.toInt := by rw [ez_27]; exact jb_imul2 ((by decide)) (rfl) (by omega)
                  refine lv_isub hx hb dX14_feed_95 ?_
                  refine lv_topi (fun z_28 ez_28 => ?_)
                  have hz_28 : z_28.toInt = 24 - z_27.toInt := by rw [ez_28]; exact jb_isub2 ((by decide)) (rfl) (by omega)
                  refine lv_ishr hx hb dX14_feed_96 ?_
                  refine lv_topi (fun z_29 ez_29 => ?_)
                  refine lv_sipush (v := 255) hx hb dX14_feed_97 (by decide) ?_
                  refine lv_iand hx hb dX14_feed_100 ?_
                  refine lv_topi (fun z_30 ez_30 => ?_)
                  have hz_30 : 0 ≤ z_30.toInt ∧ z_30.toInt ≤ 255 := by rw [ez_30]; exact jb_and z_29 (m := 255) (k := 8) (by decide) (by decide)
                  refine j7_iast hx hb hK hh_23 hB hB110 1 rfl (by decide) (by decide) rfl rfl rfl hg_tape_24 (rfl) (by omega) (by first | omega | (refine ⟨?_, ?_⟩ <;> (first | omega | rfl | assumption | decide | exact Or.inl rfl | exact Or.inr rfl | (simp only; omega)))) dX14_feed_101 (fun H_31 locs_31 hh_31 => ?_)
                  clear hh_23
                  obtain ⟨z_32, ez_32⟩ : ∃ y : Int32, y = v6_3 + 1 := ⟨_, rfl⟩
                  refine lv_iinc (v := z_32) (lv' := [(6, .int z_32), (7, .int a4), (0, .ref r0), (1, .int a1), (2, .int a2), (3, .int a3), (4, .int a4), (5, .int a5)]) hx hb dX14_feed_102 hl (k := 7) rfl (by rw [ez_32]; rfl) (by decide) rfl (fun ls hl => ?_)
                  have hz_32 : z_32.toInt = v6_3.toInt + 1 := by rw [ez_32]; exact jb_iadd2 (rfl) (by decide) (by omega)
                  refine lv_goto (tgt := 18) hx hb dX14_feed_105 (by decide) ?_
                  exact L18 z_32 _ _ (hh_31.sub (L1 := [(r0, 16, 1, .int pd)]) [1] rfl (M1 := []) [] rfl (I1 := []) [] rfl) (by first | omega | (refine ⟨?_, ?_⟩ <;> (first | omega | rfl | assumption | decide | exact Or.inl rfl | exact Or.inr rfl | (simp only; omega)))) (by omega) _ (lv_sub hl [2, 3, 4, 5, 6, 7, 0] rfl)
              · skip
                have c_9' : v6_3.toInt < 12 := jb_ge_n (rfl) ((by decide)) c_9
                refine lv_iload_n hx hb dX14_feed_53 rfl (lv_at hl 3 rfl) ?_
                refine lv_goto (tgt := 71) hx hb dX14_feed_54 (by decide) ?_
                refine lv_istore (lv' := [(7, .int a3), (0, .ref r0), (1, .int a1), (2, .int a2), (3, .int a3), (4, .int a4), (5, .int a5), (6, .int v6_3)]) hx hb dX14_feed_71 hl (by decide) rfl (fun ls hl => ?_)
                refine lv_aload_n hx hb dX14_feed_73 rfl (lv_at hl 1 rfl) ?_
                obtain ⟨v_33, hv_33, hh_34⟩ := hh_3.pin (C := RX14) (T := TX14) (N := 74) hB16 rfl (by decide) hg_r0 (i := 0) (by decide) rfl
                clear hh_3
                obtain ⟨tape_35, rfl, hg_tape_35⟩ := hv_33
                refine j7_read hx hb hown hK (C := RX14) (T := TX14) (N := 74) rfl hly_16_0 (hts (.fieldLink RX14 9 "ProofServerModel" "tape" "[I") (by decide +kernel)) (hh_34.at 0 rfl) dX14_feed_74 ?_
                refine lv_aload_n hx hb dX14_feed_77 rfl (lv_at hl 1 rfl) ?_
                refine j7_read hx hb hown hK (C := RX14) (T := TX14) (N := 74) rfl hly_16_1 (hts (.fieldLink RX14 217 "ProofServerModel" "taped" "I") (by decide +kernel)) (hh_34.at 1 rfl) dX14_feed_78 ?_
                refine lv_iload hx hb dX14_feed_81 (lv_at hl 7 rfl) ?_
                refine lv_iadd hx hb dX14_feed_83 ?_
                refine lv_topi (fun z_36 ez_36 => ?_)
                have hz_36 : z_36.toInt = pd.toInt + v6_3.toInt := by rw [ez_36]; exact jb_iadd2 (rfl) (rfl) (by omega)
                refine lv_iload hx hb dX14_feed_84 (lv_at hl 0 rfl) ?_
                refine lv_bipush (v := 24) hx hb dX14_feed_86 (by decide) ?_
                refine lv_bipush (v := 8) hx hb dX14_feed_88 (by decide) ?_
                refine lv_iload hx hb dX14_feed_90 (lv_at hl 7 rfl) ?_
                refine lv_iconst (v := 4) hx hb dX14_feed_92 (by decide) ?_
                refine lv_irem hx hb dX14_feed_93 (by decide) ?_
                refine lv_topi (fun z_37 ez_37 => ?_)
                have hz_37 := jb_irem (n := 4) ez_37 (by decide) (by decide)
                refine lv_imul hx hb dX14_feed_94 ?_
                refine lv_topi (fun z_38 ez_38 => ?_)
                have hz_38 : z_38.toInt = 8 * z_37.toInt := by rw [ez_38]; exact jb_imul2 ((by decide)) (rfl) (by omega)
                refine lv_isub hx hb dX14_feed_95 ?_
                refine lv_topi (fun z_39 ez_39 => ?_)
                have hz_39 : z_39.toInt = 24 - z_38.toInt := by rw [ez_39]; exact jb_isub2 ((by decide)) (rfl) (by omega)
                refine lv_ishr hx hb dX14_feed_96 ?_
                refine lv_topi (fun z_40 ez_40 => ?_)
                refine lv_sipush (v := 255) hx hb dX14_feed_97 (by decide) ?_
                refine lv_iand hx hb dX14_feed_100 ?_
                refine lv_topi (fun z_41 ez_41 => ?_)
                have hz_41 : 0 ≤ z_41.toInt ∧ z_41.toInt ≤ 255 := by rw [ez_41]; exact jb_and z_40 (m := 255) (k := 8) (by decide) (by decide)
                refine j7_iast hx hb hK hh_34 hB hB110 1 rfl (by decide) (by decide) rfl rfl rfl hg_tape_35 (rfl) (by omega) (by first | omega | (refine ⟨?_, ?_⟩ <;> (first | omega | rfl | assumption | decide | exact Or.inl rfl | exact Or.inr rfl | (simp only; omega)))) dX14_feed_101 (fun H_42 locs_42 hh_42 => ?_)
                clear hh_34
                obtain ⟨z_43, ez_43⟩ : ∃ y : Int32, y = v6_3 + 1 := ⟨_, rfl⟩
                refine lv_iinc (v := z_43) (lv' := [(6, .int z_43), (7, .int a3), (0, .ref r0), (1, .int a1), (2, .int a2), (3, .int a3), (4, .int a4), (5, .int a5)]) hx hb dX14_feed_102 hl (k := 7) rfl (by rw [ez_43]; rfl) (by decide) rfl (fun ls hl => ?_)
                have hz_43 : z_43.toInt = v6_3.toInt + 1 := by rw [ez_43]; exact jb_iadd2 (rfl) (by decide) (by omega)
                refine lv_goto (tgt := 18) hx hb dX14_feed_105 (by decide) ?_
                exact L18 z_43 _ _ (hh_42.sub (L1 := [(r0, 16, 1, .int pd)]) [1] rfl (M1 := []) [] rfl (I1 := []) [] rfl) (by first | omega | (refine ⟨?_, ?_⟩ <;> (first | omega | rfl | assumption | decide | exact Or.inl rfl | exact Or.inr rfl | (simp only; omega)))) (by omega) _ (lv_sub hl [2, 3, 4, 5, 6, 7, 0] rfl)
            · skip
              have c_8' : v6_3.toInt < 8 := jb_ge_n (rfl) ((by decide)) c_8
              refine lv_iload_n hx hb dX14_feed_42 rfl (lv_at hl 2 rfl) ?_
              refine lv_goto (tgt := 71) hx hb dX14_feed_43 (by decide) ?_
              refine lv_istore (lv' := [(7, .int a2), (0, .ref r0), (1, .int a1), (2, .int a2), (3, .int a3), (4, .int a4), (5, .int a5), (6, .int v6_3)]) hx hb dX14_feed_71 hl (by decide) rfl (fun ls hl => ?_)
              refine lv_aload_n hx hb dX14_feed_73 rfl (lv_at hl 1 rfl) ?_
              obtain ⟨v_44, hv_44, hh_45⟩ := hh_3.pin (C := RX14) (T := TX14) (N := 74) hB16 rfl (by decide) hg_r0 (i := 0) (by decide) rfl
              clear hh_3
              obtain ⟨tape_46, rfl, hg_tape_46⟩ := hv_44
              refine j7_read hx hb hown hK (C := RX14) (T := TX14) (N := 74) rfl hly_16_0 (hts (.fieldLink RX14 9 "ProofServerModel" "tape" "[I") (by decide +kernel)) (hh_45.at 0 rfl) dX14_feed_74 ?_
              refine lv_aload_n hx hb dX14_feed_77 rfl (lv_at hl 1 rfl) ?_
              refine j7_read hx hb hown hK (C := RX14) (T := TX14) (N := 74) rfl hly_16_1 (hts (.fieldLink RX14 217 "ProofServerModel" "taped" "I") (by decide +kernel)) (hh_45.at 1 rfl) dX14_feed_78 ?_
              refine lv_iload hx hb dX14_feed_81 (lv_at hl 7 rfl) ?_
              refine lv_iadd hx hb dX14_feed_83 ?_
              refine lv_topi (fun z_47 ez_47 => ?_)
              have hz_47 : z_47.toInt = pd.toInt + v6_3.toInt := by rw [ez_47]; exact jb_iadd2 (rfl) (rfl) (by omega)
              refine lv_iload hx hb dX14_feed_84 (lv_at hl 0 rfl) ?_
              refine lv_bipush (v := 24) hx hb dX14_feed_86 (by decide) ?_
              refine lv_bipush (v := 8) hx hb dX14_feed_88 (by decide) ?_
              refine lv_iload hx hb dX14_feed_90 (lv_at hl 7 rfl) ?_
              refine lv_iconst (v := 4) hx hb dX14_feed_92 (by decide) ?_
              refine lv_irem hx hb dX14_feed_93 (by decide) ?_
              refine lv_topi (fun z_48 ez_48 => ?_)
              have hz_48 := jb_irem (n := 4) ez_48 (by decide) (by decide)
              refine lv_imul hx hb dX14_feed_94 ?_
              refine lv_topi (fun z_49 ez_49 => ?_)
              have hz_49 : z_49.toInt = 8 * z_48.toInt := by rw [ez_49]; exact jb_imul2 ((by decide)) (rfl) (by omega)
              refine lv_isub hx hb dX14_feed_95 ?_
              refine lv_topi (fun z_50 ez_50 => ?_)
              have hz_50 : z_50.toInt = 24 - z_49.toInt := by rw [ez_50]; exact jb_isub2 ((by decide)) (rfl) (by omega)
              refine lv_ishr hx hb dX14_feed_96 ?_
              refine lv_topi (fun z_51 ez_51 => ?_)
              refine lv_sipush (v := 255) hx hb dX14_feed_97 (by decide) ?_
              refine lv_iand hx hb dX14_feed_100 ?_
              refine lv_topi (fun z_52 ez_52 => ?_)
              have hz_52 : 0 ≤ z_52.toInt ∧ z_52.toInt ≤ 255 := by rw [ez_52]; exact jb_and z_51 (m := 255) (k := 8) (by decide) (by decide)
              refine j7_iast hx hb hK hh_45 hB hB110 1 rfl (by decide) (by decide) rfl rfl rfl hg_tape_46 (rfl) (by omega) (by first | omega | (refine ⟨?_, ?_⟩ <;> (first | omega | rfl | assumption | decide | exact Or.inl rfl | exact Or.inr rfl | (simp only; omega)))) dX14_feed_101 (fun H_53 locs_53 hh_53 => ?_)
              clear hh_45
              obtain ⟨z_54, ez_54⟩ : ∃ y : Int32, y = v6_3 + 1 := ⟨_, rfl⟩
              refine lv_iinc (v := z_54) (lv' := [(6, .int z_54), (7, .int a2), (0, .ref r0), (1, .int a1), (2, .int a2), (3, .int a3), (4, .int a4), (5, .int a5)]) hx hb dX14_feed_102 hl (k := 7) rfl (by rw [ez_54]; rfl) (by decide) rfl (fun ls hl => ?_)
              have hz_54 : z_54.toInt = v6_3.toInt + 1 := by rw [ez_54]; exact jb_iadd2 (rfl) (by decide) (by omega)
              refine lv_goto (tgt := 18) hx hb dX14_feed_105 (by decide) ?_
              exact L18 z_54 _ _ (hh_53.sub (L1 := [(r0, 16, 1, .int pd)]) [1] rfl (M1 := []) [] rfl (I1 := []) [] rfl) (by first | omega | (refine ⟨?_, ?_⟩ <;> (first | omega | rfl | assumption | decide | exact Or.inl rfl | exact Or.inr rfl | (simp only; omega)))) (by omega) _ (lv_sub hl [2, 3, 4, 5, 6, 7, 0] rfl)
          · skip
            have c_7' : v6_3.toInt < 4 := jb_ge_n (rfl) ((by decide)) c_7
            refine lv_iload_n hx hb dX14_feed_31 rfl (lv_at hl 1 rfl) ?_
            refine lv_goto (tgt := 71) hx hb dX14_feed_32 (by decide) ?_
            refine lv_istore (lv' := [(7, .int a1), (0, .ref r0), (1, .int a1), (2, .int a2), (3, .int a3), (4, .int a4), (5, .int a5), (6, .int v6_3)]) hx hb dX14_feed_71 hl (by decide) rfl (fun ls hl => ?_)
            refine lv_aload_n hx hb dX14_feed_73 rfl (lv_at hl 1 rfl) ?_
            obtain ⟨v_55, hv_55, hh_56⟩ := hh_3.pin (C := RX14) (T := TX14) (N := 74) hB16 rfl (by decide) hg_r0 (i := 0) (by decide) rfl
            clear hh_3
            obtain ⟨tape_57, rfl, hg_tape_57⟩ := hv_55
            refine j7_read hx hb hown hK (C := RX14) (T := TX14) (N := 74) rfl hly_16_0 (hts (.fieldLink RX14 9 "ProofServerModel" "tape" "[I") (by decide +kernel)) (hh_56.at 0 rfl) dX14_feed_74 ?_
            refine lv_aload_n hx hb dX14_feed_77 rfl (lv_at hl 1 rfl) ?_
            refine j7_read hx hb hown hK (C := RX14) (T := TX14) (N := 74) rfl hly_16_1 (hts (.fieldLink RX14 217 "ProofServerModel" "taped" "I") (by decide +kernel)) (hh_56.at 1 rfl) dX14_feed_78 ?_
            refine lv_iload hx hb dX14_feed_81 (lv_at hl 7 rfl) ?_
            refine lv_iadd hx hb dX14_feed_83 ?_
            refine lv_topi (fun z_58 ez_58 => ?_)
            have hz_58 : z_58.toInt = pd.toInt + v6_3.toInt := by rw [ez_58]; exact jb_iadd2 (rfl) (rfl) (by omega)
            refine lv_iload hx hb dX14_feed_84 (lv_at hl 0 rfl) ?_
            refine lv_bipush (v := 24) hx hb dX14_feed_86 (by decide) ?_
            refine lv_bipush (v := 8) hx hb dX14_feed_88 (by decide) ?_
            refine lv_iload hx hb dX14_feed_90 (lv_at hl 7 rfl) ?_
            refine lv_iconst (v := 4) hx hb dX14_feed_92 (by decide) ?_
            refine lv_irem hx hb dX14_feed_93 (by decide) ?_
            refine lv_topi (fun z_59 ez_59 => ?_)
            have hz_59 := jb_irem (n := 4) ez_59 (by decide) (by decide)
            refine lv_imul hx hb dX14_feed_94 ?_
            refine lv_topi (fun z_60 ez_60 => ?_)
            have hz_60 : z_60.toInt = 8 * z_59.toInt := by rw [ez_60]; exact jb_imul2 ((by decide)) (rfl) (by omega)
            refine lv_isub hx hb dX14_feed_95 ?_
            refine lv_topi (fun z_61 ez_61 => ?_)
            have hz_61 : z_61.toInt = 24 - z_60.toInt := by rw [ez_61]; exact jb_isub2 ((by decide)) (rfl) (by omega)
            refine lv_ishr hx hb dX14_feed_96 ?_
            refine lv_topi (fun z_62 ez_62 => ?_)
            refine lv_sipush (v := 255) hx hb dX14_feed_97 (by decide) ?_
            refine lv_iand hx hb dX14_feed_100 ?_
            refine lv_topi (fun z_63 ez_63 => ?_)
            have hz_63 : 0 ≤ z_63.toInt ∧ z_63.toInt ≤ 255 := by rw [ez_63]; exact jb_and z_62 (m := 255) (k := 8) (by decide) (by decide)
            refine j7_iast hx hb hK hh_56 hB hB110 1 rfl (by decide) (by decide) rfl rfl rfl hg_tape_57 (rfl) (by omega) (by first | omega | (refine ⟨?_, ?_⟩ <;> (first | omega | rfl | assumption | decide | exact Or.inl rfl | exact Or.inr rfl | (simp only; omega)))) dX14_feed_101 (fun H_64 locs_64 hh_64 => ?_)
            clear hh_56
            obtain ⟨z_65, ez_65⟩ : ∃ y : Int32, y = v6_3 + 1 := ⟨_, rfl⟩
            refine lv_iinc (v := z_65) (lv' := [(6, .int z_65), (7, .int a1), (0, .ref r0), (1, .int a1), (2, .int a2), (3, .int a3), (4, .int a4), (5, .int a5)]) hx hb dX14_feed_102 hl (k := 7) rfl (by rw [ez_65]; rfl) (by decide) rfl (fun ls hl => ?_)
            have hz_65 : z_65.toInt = v6_3.toInt + 1 := by rw [ez_65]; exact jb_iadd2 (rfl) (by decide) (by omega)
            refine lv_goto (tgt := 18) hx hb dX14_feed_105 (by decide) ?_
            exact L18 z_65 _ _ (hh_64.sub (L1 := [(r0, 16, 1, .int pd)]) [1] rfl (M1 := []) [] rfl (I1 := []) [] rfl) (by first | omega | (refine ⟨?_, ?_⟩ <;> (first | omega | rfl | assumption | decide | exact Or.inl rfl | exact Or.inr rfl | (simp only; omega)))) (by omega) _ (lv_sub hl [2, 3, 4, 5, 6, 7, 0] rfl)
    exact L18 (20 - (0 : Int32).toInt : Int).toNat.succ 0 _ _ hh (by first | omega | (refine ⟨?_, ?_⟩ <;> (first | omega | rfl | assumption | decide | exact Or.inl rfl | exact Or.inr rfl | (simp only; omega)))) (by omega) _ (lv_sub hl [1, 2, 3, 4, 5, 6, 0] rfl)
  · skip
    have c_2' : z_1.toInt > 4000 := jb_le_n (rfl) ((by decide)) c_2
    refine lv_iconst (v := (-1)) hx hb dX14_feed_13 (by decide) ?_
    rw [hQ]
    exact W.iret (v := (-1)) hx hb hr (fun t ht hW => ⟨⟨(-1), pd, rfl, by first | omega | rfl | assumption | decide | exact Or.inl rfl | exact Or.inr rfl | (simp only; omega), hh.rt (M1 := [(r0, 16, 1, .int pd)]) [0] rfl ht⟩, by rw [ht]; try exact hh.1.1, fun q h9 hq => by rw [ht]; try exact hh.1.2.1 q h9 hq⟩) hh.1.2.2 dX14_feed_14
set_option maxHeartbeats 4000000 in
set_option maxRecDepth 20000 in
theorem uX14_out (l : Launch) (dC : Nat → ClassId) (dI : Nat → Nat → Nat) (ca : Nat → ClassId) (base : Nat) (B : jF) (hB : jBok B) (hAp : jAp (dC, dI)) (hB16 : ∀ n G a H, B 16 n G a H ↔ jOb (dC, dI) 16 74 (F16 n G) a H) (hB101 : ∀ n G a H, B 101 n G a H ↔ jAr (dC, dI) (ca 1) (fun j z => True) n a H) (G0 : jT) (H0 : Heap) (r0 : Nat) (a1 : Int32) : Met l yX14_out wsX14_out ({ frames := 0, cells := 0, slots := 0, locals := 0 }) (va_Pc [.ref r0, .int a1] (fun U => U.heap = H0 ∧ jX B base G0 [] H0 ∧ jG dC dI ca base U ∧ G0 r0 = some (16, 0) ∧ jP (dC, dI) G0 H0 [] ∧ True)) (va_Qi (S := Unit) (fun r u => (True)) (fun u t => jRt (dC, dI) B base G0 EX14_out H0 [] t.heap) (jA base)) 0 0 (jA base) := by
  refine Met.ofW (cc := cX14_out) (maxL := 2) (ret := (some .int)) (by decide) rfl ?_
  intro p e s m args below meth c s₁ Bd hml hv
  obtain ⟨rfl, hH0, hX, hG, hg_r0, hP0, hp0⟩ := hv
  have hK := hG.1
  have hx := Bd.exec
  have hb := Bd.bytes
  have hr := Bd.returns
  have hts := atoms_spec (ws := wsX14_out) Bd.pre
  have hown : s.vm.findClass RX14 = some m.cls := findClass_of_methodNamed Bd.named
  have hlocks := Bd.notSynchronized
  obtain ⟨Q, hQ⟩ : ∃ Q, Q = MQ below (va_Qi (S := Unit) (fun r u => (True)) (fun u t => jRt (dC, dI) B base G0 EX14_out H0 [] t.heap) (jA base)) ([.ref r0, .int a1] : List Value).toArray s 0 0 (jA base) := ⟨_, rfl⟩
  rw [← hQ]
  have hl := lv_entry ([.ref r0, .int a1]) (n := 2) (Nat.le_of_ble_eq_true rfl)
  rw [lg_entry_eq]
  generalize (lg_sl ([.ref r0, .int a1]) ++ List.replicate (2 - (lg_sl ([.ref r0, .int a1])).length) Slot.unset).toArray = ls at hl ⊢
  have hl : lv_has ls 2 [(0, .ref r0), (1, .int a1)] := hl
  generalize hR : (headSpec wsX14_out ({ frames := 0, cells := 0, slots := 0, locals := 0 })).room = R
  subst hH0
  have hh : jSt (dC, dI) B base G0 G0 EX14_out s.heap 0 0 [] [] [] s.heap [] := jSt.start hX hP0 jMc.nil jIs.nil
  clear hX hP0
  have hkm1 : ((-1) : Int32).toInt = (-1) := by decide
  have hk0 : (0 : Int32).toInt = 0 := by decide
  have hk1 : (1 : Int32).toInt = 1 := by decide
  have hly_16_2 := hts (u_lay RX14 TX14 2) (by decide +kernel)
  have hly_16_3 := hts (u_lay RX14 TX14 3) (by decide +kernel)
  have hrg_a1 := jb_rng a1
  refine lv_iload_n hx hb dX14_out_0 rfl (lv_at hl 1 rfl) ?_
  refine lv_if_lt (tgt := 21) hx hb dX14_out_1 (by decide) (fun c_1 => ?_) (fun c_1 => ?_)
  · skip
    have c_1' : a1.toInt < 0 := jb_lt (rfl) ((by decide)) c_1
    refine lv_iconst (v := (-1)) hx hb dX14_out_21 (by decide) ?_
    rw [hQ]
    exact W.iret (v := (-1)) hx hb hr (fun t ht hW => ⟨⟨(-1), (), rfl, trivial, hh.rt (M1 := []) [] rfl ht⟩, by rw [ht]; try exact hh.1.1, fun q h9 hq => by rw [ht]; try exact hh.1.2.1 q h9 hq⟩) hh.1.2.2 dX14_out_22
  · skip
    have c_1' : a1.toInt ≥ 0 := jb_lt_n (rfl) ((by decide)) c_1
    refine lv_iload_n hx hb dX14_out_4 rfl (lv_at hl 1 rfl) ?_
    refine lv_aload_n hx hb dX14_out_5 rfl (lv_at hl 0 rfl) ?_
    obtain ⟨v_2, hv_2, hh_3⟩ := hh.pin (C := RX14) (T := TX14) (N := 74) hB16 rfl (by decide) hg_r0 (i := 3) (by decide) rfl
    clear hh
    obtain ⟨outs_4, rfl, hloouts_4, hhiouts_4⟩ := hv_2
    refine j7_read hx hb hown hK (C := RX14) (T := TX14) (N := 74) rfl hly_16_3 (hts (.fieldLink RX14 211 "ProofServerModel" "outs" "I") (by decide +kernel)) (hh_3.at 0 rfl) dX14_out_6 ?_
    refine lv_icmp_ge (tgt := 21) hx hb dX14_out_9 (by decide) (fun c_5 => ?_) (fun c_5 => ?_)
    · skip
      have c_5' : a1.toInt ≥ outs_4.toInt := jb_ge (rfl) (rfl) c_5
      refine lv_iconst (v := (-1)) hx hb dX14_out_21 (by decide) ?_
      rw [hQ]
      exact W.iret (v := (-1)) hx hb hr (fun t ht hW => ⟨⟨(-1), (), rfl, trivial, hh_3.rt (M1 := []) [] rfl ht⟩, by rw [ht]; try exact hh_3.1.1, fun q h9 hq => by rw [ht]; try exact hh_3.1.2.1 q h9 hq⟩) hh_3.1.2.2 dX14_out_22
    · skip
      have c_5' : a1.toInt < outs_4.toInt := jb_ge_n (rfl) (rfl) c_5
      refine lv_aload_n hx hb dX14_out_12 rfl (lv_at hl 0 rfl) ?_
      obtain ⟨v_6, hv_6, hh_7⟩ := hh_3.pin (C := RX14) (T := TX14) (N := 74) hB16 rfl (by decide) hg_r0 (i := 2) (by decide) rfl
      clear hh_3
      obtain ⟨out_8, rfl, hg_out_8⟩ := hv_6
      refine j7_read hx hb hown hK (C := RX14) (T := TX14) (N := 74) rfl hly_16_2 (hts (.fieldLink RX14 13 "ProofServerModel" "out" "[I") (by decide +kernel)) (hh_7.at 0 rfl) dX14_out_13 ?_
      refine lv_iload_n hx hb dX14_out_16 rfl (lv_at hl 1 rfl) ?_
      refine j7_iald hx hb hK hh_7 hB101 1 rfl (by decide) hg_out_8 (rfl) (by omega) dX14_out_17 (fun z_9 (hz_9 : True) => ?_)
      refine lv_goto (tgt := 22) hx hb dX14_out_18 (by decide) ?_
      rw [hQ]
      exact W.iret (v := z_9) hx hb hr (fun t ht hW => ⟨⟨z_9, (), rfl, trivial, hh_7.rt (M1 := []) [] rfl ht⟩, by rw [ht]; try exact hh_7.1.1, fun q h9 hq => by rw [ht]; try exact hh_7.1.2.1 q h9 hq⟩) hh_7.1.2.2 dX14_out_22
set_option maxHeartbeats 4000000 in
set_option maxRecDepth 20000 in
theorem uX14_take (l : Launch) (dC : Nat → ClassId) (dI : Nat → Nat → Nat) (ca : Nat → ClassId) (base : Nat) (B : jF) (hB : jBok B) (hAp : jAp (dC, dI)) (hB16 : ∀ n G a H, B 16 n G a H ↔ jOb (dC, dI) 16 74 (F16 n G) a H) (G0 : jT) (H0 : Heap) (r0 : Nat) : Met l yX14_take wsX14_take ({ frames := 0, cells := 0, slots := 0, locals := 0 }) (va_Pc [.ref r0] (fun U => U.heap = H0 ∧ jX B base G0 [] H0 ∧ jG dC dI ca base U ∧ G0 r0 = some (16, 0) ∧ jP (dC, dI) G0 H0 [] ∧ True)) (va_Qi (S := Unit) (fun r u => (True)) (fun u t => jRt (dC, dI) B base G0 EX14_take H0 [] t.heap) (jA base)) 0 0 (jA base) := by
  refine Met.ofW (cc := cX14_take) (maxL := 2) (ret := (some .int)) (by decide) rfl ?_
  intro p e s m args below meth c s₁ Bd hml hv
  obtain ⟨rfl, hH0, hX, hG, hg_r0, hP0, hp0⟩ := hv
  have hK := hG.1
  have hx := Bd.exec
  have hb := Bd.bytes
  have hr := Bd.returns
  have hts := atoms_spec (ws := wsX14_take) Bd.pre
  have hown : s.vm.findClass RX14 = some m.cls := findClass_of_methodNamed Bd.named
  have hlocks := Bd.notSynchronized
  obtain ⟨Q, hQ⟩ : ∃ Q, Q = MQ below (va_Qi (S := Unit) (fun r u => (True)) (fun u t => jRt (dC, dI) B base G0 EX14_take H0 [] t.heap) (jA base)) ([.ref r0] : List Value).toArray s 0 0 (jA base) := ⟨_, rfl⟩
  rw [← hQ]
  have hl := lv_entry ([.ref r0]) (n := 2) (Nat.le_of_ble_eq_true rfl)
  rw [lg_entry_eq]
  generalize (lg_sl ([.ref r0]) ++ List.replicate (2 - (lg_sl ([.ref r0])).length) Slot.unset).toArray = ls at hl ⊢
  have hl : lv_has ls 2 [(0, .ref r0)] := hl
  generalize hR : (headSpec wsX14_take ({ frames := 0, cells := 0, slots := 0, locals := 0 })).room = R
  subst hH0
  have hh : jSt (dC, dI) B base G0 G0 EX14_take s.heap 0 0 [] [] [] s.heap [] := jSt.start hX hP0 jMc.nil jIs.nil
  clear hX hP0
  have hk0 : (0 : Int32).toInt = 0 := by decide
  have hk1 : (1 : Int32).toInt = 1 := by decide
  have hly_16_3 := hts (u_lay RX14 TX14 3) (by decide +kernel)
  refine lv_aload_n hx hb dX14_take_0 rfl (lv_at hl 0 rfl) ?_
  obtain ⟨v_1, hv_1, hh_2⟩ := hh.pin (C := RX14) (T := TX14) (N := 74) hB16 rfl (by decide) hg_r0 (i := 3) (by decide) rfl
  clear hh
  obtain ⟨outs_3, rfl, hloouts_3, hhiouts_3⟩ := hv_1
  refine j7_read hx hb hown hK (C := RX14) (T := TX14) (N := 74) rfl hly_16_3 (hts (.fieldLink RX14 211 "ProofServerModel" "outs" "I") (by decide +kernel)) (hh_2.at 0 rfl) dX14_take_1 ?_
  refine lv_istore_n (lv' := [(1, .int outs_3), (0, .ref r0)]) hx hb dX14_take_4 rfl hl (by decide) rfl (fun ls hl => ?_)
  refine lv_aload_n hx hb dX14_take_5 rfl (lv_at hl 1 rfl) ?_
  refine lv_iconst (v := 0) hx hb dX14_take_6 (by decide) ?_
  refine j7_put hx hb hown hK hh_2 hB hAp hB16 (C := RX14) (T := TX14) (N := 74) rfl (by decide) hg_r0 (i := 3) (by decide) hly_16_3 rfl (hts (.fieldLink RX14 211 "ProofServerModel" "outs" "I") (by decide +kernel)) rfl (ty := .int) (v := .int 0) (by decide +kernel) rfl rfl (⟨_, rfl, by omega, by omega⟩) rfl (L1 := []) [] rfl rfl rfl dX14_take_7 (fun H_4 locs_4 hh_4 => ?_)
  clear hh_2
  refine lv_iload_n hx hb dX14_take_10 rfl (lv_at hl 0 rfl) ?_
  rw [hQ]
  exact W.iret (v := outs_3) hx hb hr (fun t ht hW => ⟨⟨outs_3, (), rfl, trivial, hh_4.rt (M1 := []) [] rfl ht⟩, by rw [ht]; try exact hh_4.1.1, fun q h9 hq => by rw [ht]; try exact hh_4.1.2.1 q h9 hq⟩) hh_4.1.2.2 dX14_take_11
set_option maxHeartbeats 4000000 in
set_option maxRecDepth 20000 in
theorem uX14_isText (l : Launch) (dC : Nat → ClassId) (dI : Nat → Nat → Nat) (ca : Nat → ClassId) (base : Nat) (B : jF) (hB : jBok B) (hAp : jAp (dC, dI)) (hB16 : ∀ n G a H, B 16 n G a H ↔ jOb (dC, dI) 16 74 (F16 n G) a H) (hB127 : ∀ n G a H, B 127 n G a H ↔ jAr (dC, dI) (ca 1) (fun j z => True) n a H) (G0 : jT) (H0 : Heap) (r0 : Nat) (a1 : Int32) (a2 : Int32) (r3 : Nat) (n3 : Nat) : Met l yX14_isText wsX14_isText ({ frames := 4, cells := 0, slots := 0, locals := 141 }) (va_Pc [.ref r0, .int a1, .int a2, .ref r3] (fun U => U.heap = H0 ∧ jX B base G0 [] H0 ∧ jG dC dI ca base U ∧ jStr base r3 n3 U H0 ∧ G0 r0 = some (16, 0) ∧ jP (dC, dI) G0 H0 [] ∧ 0 ≤ a1.toInt ∧ a2.toInt ≤ 3300 ∧ a1.toInt ≤ 3300 ∧ 0 ≤ a2.toInt ∧ n3 < 2147483648)) (va_Qi (S := Unit) (fun r u => (r = 0 ∨ r = 1) ∧ (True)) (fun u t => jRt (dC, dI) B base G0 EX14_isText H0 [] t.heap) (jA base)) 0 0 (jA base) := by
  refine Met.ofW (cc := cX14_isText) (maxL := 5) (ret := (some .boolean)) (by decide) rfl ?_
  intro p e s m args below meth c s₁ Bd hml hv
  obtain ⟨rfl, hH0, hX, hG, hstr_r3, hg_r0, hP0, hp0, hp1, hp2, hp3, hp4⟩ := hv
  have hK := hG.1
  have hx := Bd.exec
  have hb := Bd.bytes
  have hr := Bd.returns
  have hts := atoms_spec (ws := wsX14_isText) Bd.pre
  have hown : s.vm.findClass RX14 = some m.cls := findClass_of_methodNamed Bd.named
  have hlocks := Bd.notSynchronized
  obtain ⟨Q, hQ⟩ : ∃ Q, Q = MQ below (va_Qi (S := Unit) (fun r u => (r = 0 ∨ r = 1) ∧ (True)) (fun u t => jRt (dC, dI) B base G0 EX14_isText H0 [] t.heap) (jA base)) ([.ref r0, .int a1, .int a2, .ref r3] : List Value).toArray s 0 0 (jA base) := ⟨_, rfl⟩
  rw [← hQ]
  have hl := lv_entry ([.ref r0, .int a1, .int a2, .ref r3]) (n := 5) (Nat.le_of_ble_eq_true rfl)
  rw [lg_entry_eq]
  generalize (lg_sl ([.ref r0, .int a1, .int a2, .ref r3]) ++ List.replicate (5 - (lg_sl ([.ref r0, .int a1, .int a2, .ref r3])).length) Slot.unset).toArray = ls at hl ⊢
  have hl : lv_has ls 5 [(0, .ref r0), (1, .int a1), (2, .int a2), (3, .ref r3)] := hl
  generalize hR : (headSpec wsX14_isText ({ frames := 4, cells := 0, slots := 0, locals := 141 })).room = R
  subst hH0
  have hh : jSt (dC, dI) B base G0 G0 EX14_isText s.heap 0 0 [] [] [] s.heap [] := jSt.start hX hP0 jMc.nil jIs.nil
  clear hX hP0
  have hk0 : (0 : Int32).toInt = 0 := by decide
  have hk1 : (1 : Int32).toInt = 1 := by decide
  have hly_16_27 := hts (u_lay RX14 TX14 27) (by decide +kernel)
  have hrg_a1 := jb_rng a1
  have hrg_a2 := jb_rng a2
  refine lv_iload_n hx hb dX14_isText_0 rfl (lv_at hl 2 rfl) ?_
  refine lv_iload_n hx hb dX14_isText_1 rfl (lv_at hl 1 rfl) ?_
  refine lv_isub hx hb dX14_isText_2 ?_
  refine lv_topi (fun z_1 ez_1 => ?_)
  have hz_1 : z_1.toInt = a2.toInt - a1.toInt := by rw [ez_1]; exact jb_isub2 (rfl) (rfl) (by omega)
  refine lv_aload_n hx hb dX14_isText_3 rfl (lv_at hl 3 rfl) ?_
  refine vp_callSi (W.runV (As := []) (rest := [.int z_1]) ⟨hx, hb, hml, hown, hts⟩ (kJ0_length_8abf5 l dC dI ca base s.heap r3 n3) (cwV 0 hts gX14_isText_J0_length_8abf5 rfl rfl rfl (by decide +kernel) ⟨by rw [← hR]; exact Nat.le_of_ble_eq_true rfl, by rw [← hR]; exact Nat.le_of_ble_eq_true rfl⟩) ⟨fun a U g mk q => by obtain ⟨q0, q1, q2, qK, q9⟩ := q; exact ⟨q0, q1, (q2.moved (Vm.Alike.refl U.vm)), jG.calling g mk a qK, q9⟩, jStr_recv hstr_r3 hh.1, fun U hU hW => ⟨rfl, hU, (hstr_r3.moved hW.alike).kept hh.1.2.1, hG.step hW hU hh.1, by omega⟩⟩ rfl rfl hl.1 rfl (lv_room (Nat.le_of_ble_eq_true rfl)) dX14_isText_4 ⟨Nat.zero_le _, Nat.zero_le _⟩) (fun r_2 hr_2 => ?_)
  refine lv_icmp_eq (tgt := 12) hx hb dX14_isText_7 (by decide) (fun c_3 => ?_) (fun c_3 => ?_)
  · skip
    have c_3' : z_1.toInt = r_2.toInt := jb_eq (rfl) (rfl) c_3
    refine lv_iconst (v := 0) hx hb dX14_isText_12 (by decide) ?_
    refine lv_istore (lv' := [(4, .int 0), (0, .ref r0), (1, .int a1), (2, .int a2), (3, .ref r3)]) hx hb dX14_isText_13 hl (by decide) rfl (fun ls hl => ?_)
    have L15 : ∀ (N : Nat) (v4_4 : Int32) (H_4 : Heap) (locs_4 : List Loc), jSt (dC, dI) B base G0 G0 EX14_isText s.heap 0 0 [] [] [] H_4 locs_4 → (0 ≤ v4_4.toInt ∧ v4_4.toInt ≤ n3) → (n3 - v4_4.toInt : Int) < N → ∀ ls : Array Slot, lv_has ls 5 [(0, .ref r0), (1, .int a1), (2, .int a2), (3, .ref r3), (4, .int v4_4)] → W p l e R s m ([.ref r0, .int a1, .int a2, .ref r3] : List Value).toArray below meth c H_4 locs_4 0 0 Q (F0 m 15 ls []) := by
      intro N
      induction N with
      | zero => intro v4_4 H_4 locs_4 hh_4  hi_4 hm; exact absurd hm (by omega)
      | succ N L15 =>
        intro v4_4 H_4 locs_4 hh_4  hi_4 hm_4 ls hl
        obtain ⟨hi_4_0, hi_4_1⟩ := hi_4
        refine lv_iload hx hb dX14_isText_15 (lv_at hl 4 rfl) ?_
        refine lv_aload_n hx hb dX14_isText_17 rfl (lv_at hl 3 rfl) ?_
        refine vp_callSi (W.runV (As := []) (rest := [.int v4_4]) ⟨hx, hb, hml, hown, hts⟩ (kJ0_length_8abf5 l dC dI ca base H_4 r3 n3) (cwV 0 hts gX14_isText_J0_length_8abf5 rfl rfl rfl (by decide +kernel) ⟨by rw [← hR]; exact Nat.le_of_ble_eq_true rfl, by rw [← hR]; exact Nat.le_of_ble_eq_true rfl⟩) ⟨fun a U g mk q => by obtain ⟨q0, q1, q2, qK, q9⟩ := q; exact ⟨q0, q1, (q2.moved (Vm.Alike.refl U.vm)), jG.calling g mk a qK, q9⟩, jStr_recv hstr_r3 hh_4.1, fun U hU hW => ⟨rfl, hU, (hstr_r3.moved hW.alike).kept hh_4.1.2.1, hG.step hW hU hh_4.1, by omega⟩⟩ rfl rfl hl.1 rfl (lv_room (Nat.le_of_ble_eq_true rfl)) dX14_isText_18 ⟨Nat.zero_le _, Nat.zero_le _⟩) (fun r_5 hr_5 => ?_)
        refine lv_icmp_ge (tgt := 50) hx hb dX14_isText_21 (by decide) (fun c_6 => ?_) (fun c_6 => ?_)
        · skip
          have c_6' : v4_4.toInt ≥ r_5.toInt := jb_ge (rfl) (rfl) c_6
          refine lv_iconst (v := 1) hx hb dX14_isText_50 (by decide) ?_
          rw [hQ]
          exact W.zret (v := 1) hx hb hr (jb_nz (Or.inr rfl)) (fun t ht hW => ⟨⟨1, (), rfl, ⟨(Or.inr rfl), trivial⟩, hh_4.rt (M1 := []) [] rfl ht⟩, by rw [ht]; try exact hh_4.1.1, fun q h9 hq => by rw [ht]; try exact hh_4.1.2.1 q h9 hq⟩) hh_4.1.2.2 dX14_isText_51
        · skip
          have c_6' : v4_4.toInt < r_5.toInt := jb_ge_n (rfl) (rfl) c_6
          refine lv_aload_n hx hb dX14_isText_24 rfl (lv_at hl 0 rfl) ?_
          obtain ⟨v_7, hv_7, hh_8⟩ := hh_4.pin (C := RX14) (T := TX14) (N := 74) hB16 rfl (by decide) hg_r0 (i := 27) (by decide) rfl
          clear hh_4
          obtain ⟨pool_9, rfl, hg_pool_9⟩ := hv_7
          refine j7_read hx hb hown hK (C := RX14) (T := TX14) (N := 74) rfl hly_16_27 (hts (.fieldLink RX14 65 "ProofServerModel" "pool" "[I") (by decide +kernel)) (hh_8.at 0 rfl) dX14_isText_25 ?_
          refine lv_iload_n hx hb dX14_isText_28 rfl (lv_at hl 1 rfl) ?_
          refine lv_iload hx hb dX14_isText_29 (lv_at hl 4 rfl) ?_
          refine lv_iadd hx hb dX14_isText_31 ?_
          refine lv_topi (fun z_10 ez_10 => ?_)
          have hz_10 : z_10.toInt = a1.toInt + v4_4.toInt := by rw [ez_10]; exact jb_iadd2 (rfl) (rfl) (by omega)
          refine j7_iald hx hb hK hh_8 hB127 1 rfl (by decide) hg_pool_9 (rfl) (by omega) dX14_isText_32 (fun z_11 (hz_11 : True) => ?_)
          refine lv_aload_n hx hb dX14_isText_33 rfl (lv_at hl 3 rfl) ?_
          refine lv_iload hx hb dX14_isText_34 (lv_at hl 4 rfl) ?_
          refine vp_callSi (W.runV (As := [.int v4_4]) (rest := [.int z_11]) ⟨hx, hb, hml, hown, hts⟩ (kJ0_charAt_5068e l dC dI ca base H_4 r3 n3 v4_4) (cwV 1 hts gX14_isText_J0_charAt_5068e rfl rfl rfl (by decide +kernel) ⟨by rw [← hR]; exact Nat.le_of_ble_eq_true rfl, by rw [← hR]; exact Nat.le_of_ble_eq_true rfl⟩) ⟨fun a U g mk q => by obtain ⟨q0, q1, q2, qK, q9⟩ := q; exact ⟨q0, q1, (q2.moved (Vm.Alike.refl U.vm)), jG.calling g mk a qK, q9⟩, jStr_recv hstr_r3 hh_8.1, fun U hU hW => ⟨rfl, hU, (hstr_r3.moved hW.alike).kept hh_8.1.2.1, hG.step hW hU hh_8.1, ⟨by omega, by omega, by omega⟩⟩⟩ rfl rfl hl.1 rfl (lv_room (Nat.le_of_ble_eq_true rfl)) dX14_isText_36 ⟨Nat.zero_le _, Nat.zero_le _⟩) (fun r_12 hr_12 => ?_)
          refine lv_icmp_eq (tgt := 44) hx hb dX14_isText_39 (by decide) (fun c_13 => ?_) (fun c_13 => ?_)
          · skip
            have c_13' : z_11.toInt = r_12.toInt := jb_eq (rfl) (rfl) c_13
            obtain ⟨z_14, ez_14⟩ : ∃ y : Int32, y = v4_4 + 1 := ⟨_, rfl⟩
            refine lv_iinc (v := z_14) (lv' := [(4, .int z_14), (0, .ref r0), (1, .int a1), (2, .int a2), (3, .ref r3)]) hx hb dX14_isText_44 hl (k := 4) rfl (by rw [ez_14]; rfl) (by decide) rfl (fun ls hl => ?_)
            have hz_14 : z_14.toInt = v4_4.toInt + 1 := by rw [ez_14]; exact jb_iadd2 (rfl) (by decide) (by omega)
            refine lv_goto (tgt := 15) hx hb dX14_isText_47 (by decide) ?_
            exact L15 z_14 _ _ (hh_8.sub (L1 := []) [] rfl (M1 := []) [] rfl (I1 := []) [] rfl) (by first | omega | (refine ⟨?_, ?_⟩ <;> (first | omega | rfl | assumption | decide | exact Or.inl rfl | exact Or.inr rfl | (simp only; omega)))) (by omega) _ (lv_sub hl [1, 2, 3, 4, 0] rfl)
          · skip
            have c_13' : z_11.toInt ≠ r_12.toInt := jb_eq_n (rfl) (rfl) c_13
            refine lv_iconst (v := 0) hx hb dX14_isText_42 (by decide) ?_
            rw [hQ]
            exact W.zret (v := 0) hx hb hr (jb_nz (Or.inl rfl)) (fun t ht hW => ⟨⟨0, (), rfl, ⟨(Or.inl rfl), trivial⟩, hh_8.rt (M1 := []) [] rfl ht⟩, by rw [ht]; try exact hh_8.1.1, fun q h9 hq => by rw [ht]; try exact hh_8.1.2.1 q h9 hq⟩) hh_8.1.2.2 dX14_isText_43
    exact L15 (n3 - (0 : Int32).toInt : Int).toNat.succ 0 _ _ hh (by first | omega | (refine ⟨?_, ?_⟩ <;> (first | omega | rfl | assumption | decide | exact Or.inl rfl | exact Or.inr rfl | (simp only; omega)))) (by omega) _ (lv_sub hl [1, 2, 3, 4, 0] rfl)
  · skip
    have c_3' : z_1.toInt ≠ r_2.toInt := jb_eq_n (rfl) (rfl) c_3
    refine lv_iconst (v := 0) hx hb dX14_isText_10 (by decide) ?_
    rw [hQ]
    exact W.zret (v := 0) hx hb hr (jb_nz (Or.inl rfl)) (fun t ht hW => ⟨⟨0, (), rfl, ⟨(Or.inl rfl), trivial⟩, hh.rt (M1 := []) [] rfl ht⟩, by rw [ht]; try exact hh.1.1, fun q h9 hq => by rw [ht]; try exact hh.1.2.1 q h9 hq⟩) hh.1.2.2 dX14_isText_11
set_option maxHeartbeats 4000000 in
set_option maxRecDepth 20000 in
theorem uX14_member (l : Launch) (dC : Nat → ClassId) (dI : Nat → Nat → Nat) (ca : Nat → ClassId) (base : Nat) (B : jF) (hB : jBok B) (hAp : jAp (dC, dI)) (hB16 : ∀ n G a H, B 16 n G a H ↔ jOb (dC, dI) 16 74 (F16 n G) a H) (hB117 : ∀ n G a H, B 117 n G a H ↔ jAr (dC, dI) (ca 1) (fun j z => True) n a H) (hB118 : ∀ n G a H, B 118 n G a H ↔ jAr (dC, dI) (ca 1) (fun j z => -1 ≤ z.toInt ∧ z.toInt ≤ 3099) n a H) (hB119 : ∀ n G a H, B 119 n G a H ↔ jAr (dC, dI) (ca 1) (fun j z => z.toInt = -1 ∨ (j < z.toInt ∧ z.toInt ≤ 3099)) n a H) (hB120 : ∀ n G a H, B 120 n G a H ↔ jAr (dC, dI) (ca 1) (fun j z => 0 ≤ z.toInt ∧ z.toInt ≤ 3300) n a H) (hB121 : ∀ n G a H, B 121 n G a H ↔ jAr (dC, dI) (ca 1) (fun j z => 0 ≤ z.toInt ∧ z.toInt ≤ 3300) n a H) (hB127 : ∀ n G a H, B 127 n G a H ↔ jAr (dC, dI) (ca 1) (fun j z => True) n a H) (G0 : jT) (H0 : Heap) (r0 : Nat) (a1 : Int32) (r2 : Nat) (n2 : Nat) : Met l yX14_member wsX14_member ({ frames := 5, cells := 0, slots := 0, locals := 165 }) (va_Pc [.ref r0, .int a1, .ref r2] (fun U => U.heap = H0 ∧ jX B base G0 [] H0 ∧ jG dC dI ca base U ∧ jStr base r2 n2 U H0 ∧ G0 r0 = some (16, 0) ∧ jP (dC, dI) G0 H0 [] ∧ a1.toInt ≤ 3099 ∧ n2 < 2147483648)) (va_Qi (S := Unit) (fun r u => (-1 ≤ r.toInt ∧ r.toInt ≤ 3099)) (fun u t => jRt (dC, dI) B base G0 EX14_member H0 [] t.heap) (jA base)) 0 0 (jA base) := by
  refine Met.ofW (cc := cX14_member) (maxL := 5) (ret := (some .int)) (by decide) rfl ?_
  intro p e s m args below meth c s₁ Bd hml hv
  obtain ⟨rfl, hH0, hX, hG, hstr_r2, hg_r0, hP0, hp0, hp1⟩ := hv
  have hK := hG.1
  have hx := Bd.exec
  have hb := Bd.bytes
  have hr := Bd.returns
  have hts := atoms_spec (ws := wsX14_member) Bd.pre
  have hown : s.vm.findClass RX14 = some m.cls := findClass_of_methodNamed Bd.named
  have hlocks := Bd.notSynchronized
  obtain ⟨Q, hQ⟩ : ∃ Q, Q = MQ below (va_Qi (S := Unit) (fun r u => (-1 ≤ r.toInt ∧ r.toInt ≤ 3099)) (fun u t => jRt (dC, dI) B base G0 EX14_member H0 [] t.heap) (jA base)) ([.ref r0, .int a1, .ref r2] : List Value).toArray s 0 0 (jA base) := ⟨_, rfl⟩
  rw [← hQ]
  have hl := lv_entry ([.ref r0, .int a1, .ref r2]) (n := 5) (Nat.le_of_ble_eq_true rfl)
  rw [lg_entry_eq]
  generalize (lg_sl ([.ref r0, .int a1, .ref r2]) ++ List.replicate (5 - (lg_sl ([.ref r0, .int a1, .ref r2])).length) Slot.unset).toArray = ls at hl ⊢
  have hl : lv_has ls 5 [(0, .ref r0), (1, .int a1), (2, .ref r2)] := hl
  generalize hR : (headSpec wsX14_member ({ frames := 5, cells := 0, slots := 0, locals := 165 })).room = R
  subst hH0
  have hh : jSt (dC, dI) B base G0 G0 EX14_member s.heap 0 0 [] [] [] s.heap [] := jSt.start hX hP0 jMc.nil jIs.nil
  clear hX hP0
  have hkm1 : ((-1) : Int32).toInt = (-1) := by decide
  have hk0 : (0 : Int32).toInt = 0 := by decide
  have hk1 : (1 : Int32).toInt = 1 := by decide
  have hk6 : (6 : Int32).toInt = 6 := by decide
  have hly_16_17 := hts (u_lay RX14 TX14 17) (by decide +kernel)
  have hly_16_18 := hts (u_lay RX14 TX14 18) (by decide +kernel)
  have hly_16_19 := hts (u_lay RX14 TX14 19) (by decide +kernel)
  have hly_16_20 := hts (u_lay RX14 TX14 20) (by decide +kernel)
  have hly_16_21 := hts (u_lay RX14 TX14 21) (by decide +kernel)
  have hrg_a1 := jb_rng a1
  refine lv_iconst (v := (-1)) hx hb dX14_member_0 (by decide) ?_
  refine lv_istore_n (lv' := [(3, .int (-1)), (0, .ref r0), (1, .int a1), (2, .ref r2)]) hx hb dX14_member_1 rfl hl (by decide) rfl (fun ls hl => ?_)
  refine lv_iload_n hx hb dX14_member_2 rfl (lv_at hl 2 rfl) ?_
  refine lv_if_lt (tgt := 17) hx hb dX14_member_3 (by decide) (fun c_1 => ?_) (fun c_1 => ?_)
  · skip
    have c_1' : a1.toInt < 0 := jb_lt (rfl) ((by decide)) c_1
    refine lv_iconst (v := (-1)) hx hb dX14_member_17 (by decide) ?_
    rw [hQ]
    exact W.iret (v := (-1)) hx hb hr (fun t ht hW => ⟨⟨(-1), (), rfl, by first | omega | (refine ⟨?_, ?_⟩ <;> (first | omega | rfl | assumption | decide | exact Or.inl rfl | exact Or.inr rfl | (simp only; omega))), hh.rt (M1 := []) [] rfl ht⟩, by rw [ht]; try exact hh.1.1, fun q h9 hq => by rw [ht]; try exact hh.1.2.1 q h9 hq⟩) hh.1.2.2 dX14_member_18
  · skip
    have c_1' : a1.toInt ≥ 0 := jb_lt_n (rfl) ((by decide)) c_1
    refine lv_aload_n hx hb dX14_member_6 rfl (lv_at hl 1 rfl) ?_
    obtain ⟨v_2, hv_2, hh_3⟩ := hh.pin (C := RX14) (T := TX14) (N := 74) hB16 rfl (by decide) hg_r0 (i := 17) (by decide) rfl
    clear hh
    obtain ⟨sort_4, rfl, hg_sort_4⟩ := hv_2
    refine j7_read hx hb hown hK (C := RX14) (T := TX14) (N := 74) rfl hly_16_17 (hts (.fieldLink RX14 37 "ProofServerModel" "sort" "[I") (by decide +kernel)) (hh_3.at 0 rfl) dX14_member_7 ?_
    refine lv_iload_n hx hb dX14_member_10 rfl (lv_at hl 2 rfl) ?_
    refine j7_iald hx hb hK hh_3 hB117 1 rfl (by decide) hg_sort_4 (rfl) (by omega) dX14_member_11 (fun z_5 (hz_5 : True) => ?_)
    refine lv_bipush (v := 6) hx hb dX14_member_12 (by decide) ?_
    refine lv_icmp_eq (tgt := 19) hx hb dX14_member_14 (by decide) (fun c_6 => ?_) (fun c_6 => ?_)
    · skip
      have c_6' : z_5.toInt = 6 := jb_eq (rfl) ((by decide)) c_6
      refine lv_aload_n hx hb dX14_member_19 rfl (lv_at hl 1 rfl) ?_
      obtain ⟨v_7, hv_7, hh_8⟩ := hh_3.pin (C := RX14) (T := TX14) (N := 74) hB16 rfl (by decide) hg_r0 (i := 18) (by decide) rfl
      clear hh_3
      obtain ⟨heir_9, rfl, hg_heir_9⟩ := hv_7
      refine j7_read hx hb hown hK (C := RX14) (T := TX14) (N := 74) rfl hly_16_18 (hts (.fieldLink RX14 40 "ProofServerModel" "heir" "[I") (by decide +kernel)) (hh_8.at 0 rfl) dX14_member_20 ?_
      refine lv_iload_n hx hb dX14_member_23 rfl (lv_at hl 2 rfl) ?_
      refine j7_iald hx hb hK hh_8 hB118 1 rfl (by decide) hg_heir_9 (rfl) (by omega) dX14_member_24 (fun z_10 (hz_10 : -1 ≤ z_10.toInt ∧ z_10.toInt ≤ 3099) => ?_)
      refine lv_istore (lv' := [(4, .int z_10), (3, .int (-1)), (0, .ref r0), (1, .int a1), (2, .ref r2)]) hx hb dX14_member_25 hl (by decide) rfl (fun ls hl => ?_)
      have L27 : ∀ (N : Nat) (v3_11 : Int32) (v4_11 : Int32) (H_11 : Heap) (locs_11 : List Loc), jSt (dC, dI) B base G0 G0 EX14_member s.heap 0 0 [(r0, 16, 18, .ref heir_9), (r0, 16, 17, .ref sort_4)] [] [] H_11 locs_11 → (-1 ≤ v4_11.toInt ∧ v4_11.toInt ≤ 3099 ∧ -1 ≤ v3_11.toInt ∧ v3_11.toInt ≤ 3099) → (3100 - v4_11.toInt % 3101 : Int) < N → ∀ ls : Array Slot, lv_has ls 5 [(0, .ref r0), (1, .int a1), (2, .ref r2), (3, .int v3_11), (4, .int v4_11)] → W p l e R s m ([.ref r0, .int a1, .ref r2] : List Value).toArray below meth c H_11 locs_11 0 0 Q (F0 m 27 ls []) := by
        intro N
        induction N with
        | zero => intro v3_11 v4_11 H_11 locs_11 hh_11  hi_11 hm; exact absurd hm (by omega)
        | succ N L27 =>
          intro v3_11 v4_11 H_11 locs_11 hh_11  hi_11 hm_11 ls hl
          obtain ⟨hi_11_0, hi_11_1, hi_11_2, hi_11_3⟩ := hi_11
          refine lv_iload hx hb dX14_member_27 (lv_at hl 4 rfl) ?_
          refine lv_if_lt (tgt := 73) hx hb dX14_member_29 (by decide) (fun c_12 => ?_) (fun c_12 => ?_)
          · skip
            have c_12' : v4_11.toInt < 0 := jb_lt (rfl) ((by decide)) c_12
            refine lv_iload_n hx hb dX14_member_73 rfl (lv_at hl 3 rfl) ?_
            rw [hQ]
            exact W.iret (v := v3_11) hx hb hr (fun t ht hW => ⟨⟨v3_11, (), rfl, by first | omega | (refine ⟨?_, ?_⟩ <;> (first | omega | rfl | assumption | decide | exact Or.inl rfl | exact Or.inr rfl | (simp only; omega))), hh_11.rt (M1 := []) [] rfl ht⟩, by rw [ht]; try exact hh_11.1.1, fun q h9 hq => by rw [ht]; try exact hh_11.1.2.1 q h9 hq⟩) hh_11.1.2.2 dX14_member_74
          · skip
            have c_12' : v4_11.toInt ≥ 0 := jb_lt_n (rfl) ((by decide)) c_12
            refine lv_aload_n hx hb dX14_member_32 rfl (lv_at hl 0 rfl) ?_
            refine lv_aload_n hx hb dX14_member_33 rfl (lv_at hl 0 rfl) ?_
            obtain ⟨v_13, hv_13, hh_14⟩ := hh_11.pin (C := RX14) (T := TX14) (N := 74) hB16 rfl (by decide) hg_r0 (i := 20) (by decide) rfl
            clear hh_11
            obtain ⟨nameFrom_15, rfl, hg_nameFrom_15⟩ := hv_13
            refine j7_read hx hb hown hK (C := RX14) (T := TX14) (N := 74) rfl hly_16_20 (hts (.fieldLink RX14 46 "ProofServerModel" "nameFrom" "[I") (by decide +kernel)) (hh_14.at 0 rfl) dX14_member_34 ?_
            refine lv_iload hx hb dX14_member_37 (lv_at hl 4 rfl) ?_
            refine j7_iald hx hb hK hh_14 hB120 1 rfl (by decide) hg_nameFrom_15 (rfl) (by omega) dX14_member_39 (fun z_16 (hz_16 : 0 ≤ z_16.toInt ∧ z_16.toInt ≤ 3300) => ?_)
            refine lv_aload_n hx hb dX14_member_40 rfl (lv_at hl 0 rfl) ?_
            obtain ⟨v_17, hv_17, hh_18⟩ := hh_14.pin (C := RX14) (T := TX14) (N := 74) hB16 rfl (by decide) hg_r0 (i := 21) (by decide) rfl
            clear hh_14
            obtain ⟨nameTo_19, rfl, hg_nameTo_19⟩ := hv_17
            refine j7_read hx hb hown hK (C := RX14) (T := TX14) (N := 74) rfl hly_16_21 (hts (.fieldLink RX14 49 "ProofServerModel" "nameTo" "[I") (by decide +kernel)) (hh_18.at 0 rfl) dX14_member_41 ?_
            refine lv_iload hx hb dX14_member_44 (lv_at hl 4 rfl) ?_
            refine j7_iald hx hb hK hh_18 hB121 1 rfl (by decide) hg_nameTo_19 (rfl) (by omega) dX14_member_46 (fun z_20 (hz_20 : 0 ≤ z_20.toInt ∧ z_20.toInt ≤ 3300) => ?_)
            refine lv_aload_n hx hb dX14_member_47 rfl (lv_at hl 2 rfl) ?_
            refine va_calli (A0 := jA base) (H0 := s.heap) (va_runV (As := [.int z_16, .int z_20, .ref r2]) (rest := []) ⟨hx, hb, hml, hown, hts⟩ (uX14_isText l dC dI ca base B hB hAp hB16 hB127 G0 H_11 r0 z_16 z_20 r2 n2) (cwV 3 hts gX14_member_X14_isText rfl rfl rfl (by decide +kernel) ⟨by rw [← hR]; exact Nat.le_of_ble_eq_true rfl, by rw [← hR]; exact Nat.le_of_ble_eq_true rfl⟩) ⟨fun a U g mk q => by obtain ⟨q0, q1, q2, qK, q10, q11, q12, q13⟩ := q; exact ⟨q0, q1, q2, jG.calling g mk a qK, (q10.moved (Vm.Alike.refl U.vm)), q11, q12, q13⟩, hh_18.recv (C := RX14) (T := TX14) (N := 74) hB16 rfl (by decide) hg_r0 hK, fun U hU hW => ⟨rfl, hU, hh_18.2.1, hG.step hW hU hh_18.1, (hstr_r2.moved hW.alike).kept hh_18.1.2.1, hg_r0, jP.nil, by first | omega | (refine ⟨?_, ?_, ?_, ?_, ?_⟩ <;> (first | omega | rfl | assumption | decide | exact Or.inl rfl | exact Or.inr rfl | (simp only; omega)))⟩⟩ rfl rfl hl.1 rfl (lv_room (Nat.le_of_ble_eq_true rfl)) dX14_member_48 ⟨Nat.zero_le _, Nat.zero_le _⟩) hh_18.1 (fun q _ h => h) (fun q h => h) (fun r_22 u_21 t_21 H_21 locs_21 ht_21 hvm_21 hr_22 hb_21 hz_21 hk_21 hS_21 => ?_)
            rw [ht_21] at hb_21
            obtain ⟨hb_211, hb_212, hb_213, hb_214, hb_215⟩ := hb_21
            have hh_21 : jSt (dC, dI) B base G0 G0 EX14_member s.heap 0 0 [(r0, 16, 21, .ref nameTo_19), (r0, 16, 20, .ref nameFrom_15), (r0, 16, 18, .ref heir_9), (r0, 16, 17, .ref sort_4)] [] [] H_21 locs_21 := (hh_18.call hb_211 hb_212 hb_213 hb_214 hS_21 rfl (L1 := [(r0, 16, 21, .ref nameTo_19), (r0, 16, 20, .ref nameFrom_15), (r0, 16, 18, .ref heir_9), (r0, 16, 17, .ref sort_4)]) [0, 1, 2, 3] rfl rfl (M1 := []) [] rfl rfl (I1 := []) [] rfl rfl).more hb_215
            clear hh_18 ht_21 hvm_21 hz_21 hk_21 hS_21 hb_211 hb_212 hb_213 hb_214 hb_215
            obtain ⟨hr_22b, hr_22p⟩ := hr_22
            have hr_22' := jb_01 hr_22b
            refine lv_if_eq (tgt := 59) hx hb dX14_member_51 (by decide) (fun c_23 => ?_) (fun c_23 => ?_)
            · skip
              have c_23' : r_22.toInt = 0 := jb_eq (rfl) ((by decide)) c_23
              refine lv_iload_n hx hb dX14_member_59 rfl (lv_at hl 3 rfl) ?_
              refine lv_istore_n (lv' := [(3, .int v3_11), (0, .ref r0), (1, .int a1), (2, .ref r2), (4, .int v4_11)]) hx hb dX14_member_60 rfl hl (by decide) rfl (fun ls hl => ?_)
              refine lv_aload_n hx hb dX14_member_61 rfl (lv_at hl 1 rfl) ?_
              obtain ⟨v_24, hv_24, hh_25⟩ := hh_21.pin (C := RX14) (T := TX14) (N := 74) hB16 rfl (by decide) hg_r0 (i := 19) (by decide) rfl
              clear hh_21
              obtain ⟨next_26, rfl, hg_next_26⟩ := hv_24
              refine j7_read hx hb hown hK (C := RX14) (T := TX14) (N := 74) rfl hly_16_19 (hts (.fieldLink RX14 43 "ProofServerModel" "next" "[I") (by decide +kernel)) (hh_25.at 0 rfl) dX14_member_62 ?_
              refine lv_iload hx hb dX14_member_65 (lv_at hl 4 rfl) ?_
              refine j7_iald hx hb hK hh_25 hB119 1 rfl (by decide) hg_next_26 (rfl) (by omega) dX14_member_67 (fun z_27 (hz_27 : z_27.toInt = -1 ∨ ((v4_11.toInt).toNat < z_27.toInt ∧ z_27.toInt ≤ 3099)) => ?_)
              refine lv_istore (lv' := [(4, .int z_27), (3, .int v3_11), (0, .ref r0), (1, .int a1), (2, .ref r2)]) hx hb dX14_member_68 hl (by decide) rfl (fun ls hl => ?_)
              refine lv_goto (tgt := 27) hx hb dX14_member_70 (by decide) ?_
              exact L27 v3_11 z_27 _ _ (hh_25.sub (L1 := [(r0, 16, 18, .ref heir_9), (r0, 16, 17, .ref sort_4)]) [3, 4] rfl (M1 := []) [] rfl (I1 := []) [] rfl) (by first | omega | (refine ⟨?_, ?_, ?_, ?_⟩ <;> (first | omega | rfl | assumption | decide | exact Or.inl rfl | exact Or.inr rfl | (simp only; omega)))) (by omega) _ (lv_sub hl [2, 3, 4, 1, 0] rfl)
            · skip
              have c_23' : r_22.toInt ≠ 0 := jb_eq_n (rfl) ((by decide)) c_23
              refine lv_iload hx hb dX14_member_54 (lv_at hl 4 rfl) ?_
              refine lv_goto (tgt := 60) hx hb dX14_member_56 (by decide) ?_
              refine lv_istore_n (lv' := [(3, .int v4_11), (0, .ref r0), (1, .int a1), (2, .ref r2), (4, .int v4_11)]) hx hb dX14_member_60 rfl hl (by decide) rfl (fun ls hl => ?_)
              refine lv_aload_n hx hb dX14_member_61 rfl (lv_at hl 1 rfl) ?_
              obtain ⟨v_28, hv_28, hh_29⟩ := hh_21.pin (C := RX14) (T := TX14) (N := 74) hB16 rfl (by decide) hg_r0 (i := 19) (by decide) rfl
              clear hh_21
              obtain ⟨next_30, rfl, hg_next_30⟩ := hv_28
              refine j7_read hx hb hown hK (C := RX14) (T := TX14) (N := 74) rfl hly_16_19 (hts (.fieldLink RX14 43 "ProofServerModel" "next" "[I") (by decide +kernel)) (hh_29.at 0 rfl) dX14_member_62 ?_
              refine lv_iload hx hb dX14_member_65 (lv_at hl 4 rfl) ?_
              refine j7_iald hx hb hK hh_29 hB119 1 rfl (by decide) hg_next_30 (rfl) (by omega) dX14_member_67 (fun z_31 (hz_31 : z_31.toInt = -1 ∨ ((v4_11.toInt).toNat < z_31.toInt ∧ z_31.toInt ≤ 3099)) => ?_)
              refine lv_istore (lv' := [(4, .int z_31), (3, .int v4_11), (0, .ref r0), (1, .int a1), (2, .ref r2)]) hx hb dX14_member_68 hl (by decide) rfl (fun ls hl => ?_)
              refine lv_goto (tgt := 27) hx hb dX14_member_70 (by decide) ?_
              exact L27 v4_11 z_31 _ _ (hh_29.sub (L1 := [(r0, 16, 18, .ref heir_9), (r0, 16, 17, .ref sort_4)]) [3, 4] rfl (M1 := []) [] rfl (I1 := []) [] rfl) (by first | omega | (refine ⟨?_, ?_, ?_, ?_⟩ <;> (first | omega | rfl | assumption | decide | exact Or.inl rfl | exact Or.inr rfl | (simp only; omega)))) (by omega) _ (lv_sub hl [2, 3, 4, 1, 0] rfl)
      exact L27 (3100 - (z_10 : Int32).toInt % 3101 : Int).toNat.succ (-1) z_10 _ _ hh_8 (by first | omega | (refine ⟨?_, ?_, ?_, ?_⟩ <;> (first | omega | rfl | assumption | decide | exact Or.inl rfl | exact Or.inr rfl | (simp only; omega)))) (by omega) _ (lv_sub hl [2, 3, 4, 1, 0] rfl)
    · skip
      have c_6' : z_5.toInt ≠ 6 := jb_eq_n (rfl) ((by decide)) c_6
      refine lv_iconst (v := (-1)) hx hb dX14_member_17 (by decide) ?_
      rw [hQ]
      exact W.iret (v := (-1)) hx hb hr (fun t ht hW => ⟨⟨(-1), (), rfl, by first | omega | (refine ⟨?_, ?_⟩ <;> (first | omega | rfl | assumption | decide | exact Or.inl rfl | exact Or.inr rfl | (simp only; omega))), hh_3.rt (M1 := []) [] rfl ht⟩, by rw [ht]; try exact hh_3.1.1, fun q h9 hq => by rw [ht]; try exact hh_3.1.2.1 q h9 hq⟩) hh_3.1.2.2 dX14_member_18
set_option maxHeartbeats 4000000 in
set_option maxRecDepth 20000 in
theorem uX14_isString (l : Launch) (dC : Nat → ClassId) (dI : Nat → Nat → Nat) (ca : Nat → ClassId) (base : Nat) (B : jF) (hB : jBok B) (hAp : jAp (dC, dI)) (hB16 : ∀ n G a H, B 16 n G a H ↔ jOb (dC, dI) 16 74 (F16 n G) a H) (hB117 : ∀ n G a H, B 117 n G a H ↔ jAr (dC, dI) (ca 1) (fun j z => True) n a H) (G0 : jT) (H0 : Heap) (r0 : Nat) (a1 : Int32) : Met l yX14_isString wsX14_isString ({ frames := 0, cells := 0, slots := 0, locals := 0 }) (va_Pc [.ref r0, .int a1] (fun U => U.heap = H0 ∧ jX B base G0 [] H0 ∧ jG dC dI ca base U ∧ G0 r0 = some (16, 0) ∧ jP (dC, dI) G0 H0 [] ∧ a1.toInt ≤ 3099)) (va_Qi (S := Unit) (fun r u => (r = 0 ∨ r = 1) ∧ (r.toInt = 0 ∨ 0 ≤ a1.toInt)) (fun u t => jRt (dC, dI) B base G0 EX14_isString H0 [] t.heap) (jA base)) 0 0 (jA base) := by
  refine Met.ofW (cc := cX14_isString) (maxL := 2) (ret := (some .boolean)) (by decide) rfl ?_
  intro p e s m args below meth c s₁ Bd hml hv
  obtain ⟨rfl, hH0, hX, hG, hg_r0, hP0, hp0⟩ := hv
  have hK := hG.1
  have hx := Bd.exec
  have hb := Bd.bytes
  have hr := Bd.returns
  have hts := atoms_spec (ws := wsX14_isString) Bd.pre
  have hown : s.vm.findClass RX14 = some m.cls := findClass_of_methodNamed Bd.named
  have hlocks := Bd.notSynchronized
  obtain ⟨Q, hQ⟩ : ∃ Q, Q = MQ below (va_Qi (S := Unit) (fun r u => (r = 0 ∨ r = 1) ∧ (r.toInt = 0 ∨ 0 ≤ a1.toInt)) (fun u t => jRt (dC, dI) B base G0 EX14_isString H0 [] t.heap) (jA base)) ([.ref r0, .int a1] : List Value).toArray s 0 0 (jA base) := ⟨_, rfl⟩
  rw [← hQ]
  have hl := lv_entry ([.ref r0, .int a1]) (n := 2) (Nat.le_of_ble_eq_true rfl)
  rw [lg_entry_eq]
  generalize (lg_sl ([.ref r0, .int a1]) ++ List.replicate (2 - (lg_sl ([.ref r0, .int a1])).length) Slot.unset).toArray = ls at hl ⊢
  have hl : lv_has ls 2 [(0, .ref r0), (1, .int a1)] := hl
  generalize hR : (headSpec wsX14_isString ({ frames := 0, cells := 0, slots := 0, locals := 0 })).room = R
  subst hH0
  have hh : jSt (dC, dI) B base G0 G0 EX14_isString s.heap 0 0 [] [] [] s.heap [] := jSt.start hX hP0 jMc.nil jIs.nil
  clear hX hP0
  have hk0 : (0 : Int32).toInt = 0 := by decide
  have hk1 : (1 : Int32).toInt = 1 := by decide
  have hk4 : (4 : Int32).toInt = 4 := by decide
  have hly_16_17 := hts (u_lay RX14 TX14 17) (by decide +kernel)
  have hrg_a1 := jb_rng a1
  refine lv_iload_n hx hb dX14_isString_0 rfl (lv_at hl 1 rfl) ?_
  refine lv_if_lt (tgt := 18) hx hb dX14_isString_1 (by decide) (fun c_1 => ?_) (fun c_1 => ?_)
  · skip
    have c_1' : a1.toInt < 0 := jb_lt (rfl) ((by decide)) c_1
    refine lv_iconst (v := 0) hx hb dX14_isString_18 (by decide) ?_
    rw [hQ]
    exact W.zret (v := 0) hx hb hr (jb_nz (Or.inl rfl)) (fun t ht hW => ⟨⟨0, (), rfl, ⟨(Or.inl rfl), by first | omega | rfl | assumption | decide | exact Or.inl rfl | exact Or.inr rfl | (simp only; omega)⟩, hh.rt (M1 := []) [] rfl ht⟩, by rw [ht]; try exact hh.1.1, fun q h9 hq => by rw [ht]; try exact hh.1.2.1 q h9 hq⟩) hh.1.2.2 dX14_isString_19
  · skip
    have c_1' : a1.toInt ≥ 0 := jb_lt_n (rfl) ((by decide)) c_1
    refine lv_aload_n hx hb dX14_isString_4 rfl (lv_at hl 0 rfl) ?_
    obtain ⟨v_2, hv_2, hh_3⟩ := hh.pin (C := RX14) (T := TX14) (N := 74) hB16 rfl (by decide) hg_r0 (i := 17) (by decide) rfl
    clear hh
    obtain ⟨sort_4, rfl, hg_sort_4⟩ := hv_2
    refine j7_read hx hb hown hK (C := RX14) (T := TX14) (N := 74) rfl hly_16_17 (hts (.fieldLink RX14 37 "ProofServerModel" "sort" "[I") (by decide +kernel)) (hh_3.at 0 rfl) dX14_isString_5 ?_
    refine lv_iload_n hx hb dX14_isString_8 rfl (lv_at hl 1 rfl) ?_
    refine j7_iald hx hb hK hh_3 hB117 1 rfl (by decide) hg_sort_4 (rfl) (by omega) dX14_isString_9 (fun z_5 (hz_5 : True) => ?_)
    refine lv_iconst (v := 4) hx hb dX14_isString_10 (by decide) ?_
    refine lv_icmp_ne (tgt := 18) hx hb dX14_isString_11 (by decide) (fun c_6 => ?_) (fun c_6 => ?_)
    · skip
      have c_6' : z_5.toInt ≠ 4 := jb_ne (rfl) ((by decide)) c_6
      refine lv_iconst (v := 0) hx hb dX14_isString_18 (by decide) ?_
      rw [hQ]
      exact W.zret (v := 0) hx hb hr (jb_nz (Or.inl rfl)) (fun t ht hW => ⟨⟨0, (), rfl, ⟨(Or.inl rfl), by first | omega | rfl | assumption | decide | exact Or.inl rfl | exact Or.inr rfl | (simp only; omega)⟩, hh_3.rt (M1 := []) [] rfl ht⟩, by rw [ht]; try exact hh_3.1.1, fun q h9 hq => by rw [ht]; try exact hh_3.1.2.1 q h9 hq⟩) hh_3.1.2.2 dX14_isString_19
    · skip
      have c_6' : z_5.toInt = 4 := jb_ne_n (rfl) ((by decide)) c_6
      refine lv_iconst (v := 1) hx hb dX14_isString_14 (by decide) ?_
      refine lv_goto (tgt := 19) hx hb dX14_isString_15 (by decide) ?_
      rw [hQ]
      exact W.zret (v := 1) hx hb hr (jb_nz (Or.inr rfl)) (fun t ht hW => ⟨⟨1, (), rfl, ⟨(Or.inr rfl), by first | omega | rfl | assumption | decide | exact Or.inl rfl | exact Or.inr rfl | (simp only; omega)⟩, hh_3.rt (M1 := []) [] rfl ht⟩, by rw [ht]; try exact hh_3.1.1, fun q h9 hq => by rw [ht]; try exact hh_3.1.2.1 q h9 hq⟩) hh_3.1.2.2 dX14_isString_19
set_option maxHeartbeats 4000000 in
set_option maxRecDepth 20000 in
theorem uX14_isString_ (l : Launch) (dC : Nat → ClassId) (dI : Nat → Nat → Nat) (ca : Nat → ClassId) (base : Nat) (B : jF) (hB : jBok B) (hAp : jAp (dC, dI)) (hB16 : ∀ n G a H, B 16 n G a H ↔ jOb (dC, dI) 16 74 (F16 n G) a H) (hB117 : ∀ n G a H, B 117 n G a H ↔ jAr (dC, dI) (ca 1) (fun j z => True) n a H) (hB122 : ∀ n G a H, B 122 n G a H ↔ jAr (dC, dI) (ca 1) (fun j z => 0 ≤ z.toInt ∧ z.toInt ≤ 3300) n a H) (hB123 : ∀ n G a H, B 123 n G a H ↔ jAr (dC, dI) (ca 1) (fun j z => 0 ≤ z.toInt ∧ z.toInt ≤ 3300) n a H) (hB127 : ∀ n G a H, B 127 n G a H ↔ jAr (dC, dI) (ca 1) (fun j z => True) n a H) (G0 : jT) (H0 : Heap) (r0 : Nat) (a1 : Int32) (r2 : Nat) (n2 : Nat) : Met l yX14_isString_ wsX14_isString_ ({ frames := 5, cells := 0, slots := 0, locals := 165 }) (va_Pc [.ref r0, .int a1, .ref r2] (fun U => U.heap = H0 ∧ jX B base G0 [] H0 ∧ jG dC dI ca base U ∧ jStr base r2 n2 U H0 ∧ G0 r0 = some (16, 0) ∧ jP (dC, dI) G0 H0 [] ∧ a1.toInt ≤ 3099 ∧ n2 < 2147483648)) (va_Qi (S := Unit) (fun r u => (r = 0 ∨ r = 1) ∧ (r.toInt = 0 ∨ 0 ≤ a1.toInt)) (fun u t => jRt (dC, dI) B base G0 EX14_isString_ H0 [] t.heap) (jA base)) 0 0 (jA base) := by
  refine Met.ofW (cc := cX14_isString_) (maxL := 3) (ret := (some .boolean)) (by decide) rfl ?_
  intro p e s m args below meth c s₁ Bd hml hv
  obtain ⟨rfl, hH0, hX, hG, hstr_r2, hg_r0, hP0, hp0, hp1⟩ := hv
  have hK := hG.1
  have hx := Bd.exec
  have hb := Bd.bytes
  have hr := Bd.returns
  have hts := atoms_spec (ws := wsX14_isString_) Bd.pre
  have hown : s.vm.findClass RX14 = some m.cls := findClass_of_methodNamed Bd.named
  have hlocks := Bd.notSynchronized
  obtain ⟨Q, hQ⟩ : ∃ Q, Q = MQ below (va_Qi (S := Unit) (fun r u => (r = 0 ∨ r = 1) ∧ (r.toInt = 0 ∨ 0 ≤ a1.toInt)) (fun u t => jRt (dC, dI) B base G0 EX14_isString_ H0 [] t.heap) (jA base)) ([.ref r0, .int a1, .ref r2] : List Value).toArray s 0 0 (jA base) := ⟨_, rfl⟩
  rw [← hQ]
  have hl := lv_entry ([.ref r0, .int a1, .ref r2]) (n := 3) (Nat.le_of_ble_eq_true rfl)
  rw [lg_entry_eq]
  generalize (lg_sl ([.ref r0, .int a1, .ref r2]) ++ List.replicate (3 - (lg_sl ([.ref r0, .int a1, .ref r2])).length) Slot.unset).toArray = ls at hl ⊢
  have hl : lv_has ls 3 [(0, .ref r0), (1, .int a1), (2, .ref r2)] := hl
  generalize hR : (headSpec wsX14_isString_ ({ frames := 5, cells := 0, slots := 0, locals := 165 })).room = R
  subst hH0
  have hh : jSt (dC, dI) B base G0 G0 EX14_isString_ s.heap 0 0 [] [] [] s.heap [] := jSt.start hX hP0 jMc.nil jIs.nil
  clear hX hP0
  have hk0 : (0 : Int32).toInt = 0 := by decide
  have hk1 : (1 : Int32).toInt = 1 := by decide
  have hly_16_22 := hts (u_lay RX14 TX14 22) (by decide +kernel)
  have hly_16_23 := hts (u_lay RX14 TX14 23) (by decide +kernel)
  have hrg_a1 := jb_rng a1
  refine lv_aload_n hx hb dX14_isString__0 rfl (lv_at hl 0 rfl) ?_
  refine lv_iload_n hx hb dX14_isString__1 rfl (lv_at hl 1 rfl) ?_
  refine va_calli (A0 := jA base) (H0 := s.heap) (va_runV (As := [.int a1]) (rest := []) ⟨hx, hb, hml, hown, hts⟩ (uX14_isString l dC dI ca base B hB hAp hB16 hB117 G0 s.heap r0 a1) (cwV 1 hts gX14_isString__X14_isString rfl rfl rfl (by decide +kernel) ⟨by rw [← hR]; exact Nat.le_of_ble_eq_true rfl, by rw [← hR]; exact Nat.le_of_ble_eq_true rfl⟩) ⟨fun a U g mk q => by obtain ⟨q0, q1, q2, qK, q10, q11, q12⟩ := q; exact ⟨q0, q1, q2, jG.calling g mk a qK, q10, q11, q12⟩, hh.recv (C := RX14) (T := TX14) (N := 74) hB16 rfl (by decide) hg_r0 hK, fun U hU hW => ⟨rfl, hU, hh.2.1, hG.step hW hU hh.1, hg_r0, jP.nil, by first | omega | rfl | assumption | decide | exact Or.inl rfl | exact Or.inr rfl | (simp only; omega)⟩⟩ rfl rfl hl.1 rfl (lv_room (Nat.le_of_ble_eq_true rfl)) dX14_isString__2 ⟨Nat.zero_le _, Nat.zero_le _⟩) hh.1 (fun q _ h => h) (fun q h => h) (fun r_2 u_1 t_1 H_1 locs_1 ht_1 hvm_1 hr_2 hb_1 hz_1 hk_1 hS_1 => ?_)
  rw [ht_1] at hb_1
  obtain ⟨hb_11, hb_12, hb_13, hb_14, hb_15⟩ := hb_1
  have hh_1 : jSt (dC, dI) B base G0 G0 EX14_isString_ s.heap 0 0 [] [] [] H_1 locs_1 := (hh.call hb_11 hb_12 hb_13 hb_14 hS_1 rfl (L1 := []) [] rfl rfl (M1 := []) [] rfl rfl (I1 := []) [] rfl rfl).more hb_15
  clear hh ht_1 hvm_1 hz_1 hk_1 hS_1 hb_11 hb_12 hb_13 hb_14 hb_15
  obtain ⟨hr_2b, hr_2p⟩ := hr_2
  have hr_2' := jb_01 hr_2b
  refine lv_if_eq (tgt := 32) hx hb dX14_isString__5 (by decide) (fun c_3 => ?_) (fun c_3 => ?_)
  · skip
    have c_3' : r_2.toInt = 0 := jb_eq (rfl) ((by decide)) c_3
    first | replace hr_2p := hr_2p.resolve_left (by omega) | replace hr_2p := hr_2p.resolve_right (by omega) | skip
    refine lv_iconst (v := 0) hx hb dX14_isString__32 (by decide) ?_
    rw [hQ]
    exact W.zret (v := 0) hx hb hr (jb_nz (Or.inl rfl)) (fun t ht hW => ⟨⟨0, (), rfl, ⟨(Or.inl rfl), by first | omega | rfl | assumption | decide | exact Or.inl rfl | exact Or.inr rfl | (simp only; omega)⟩, hh_1.rt (M1 := []) [] rfl ht⟩, by rw [ht]; try exact hh_1.1.1, fun q h9 hq => by rw [ht]; try exact hh_1.1.2.1 q h9 hq⟩) hh_1.1.2.2 dX14_isString__33
  · skip
    have c_3' : r_2.toInt ≠ 0 := jb_eq_n (rfl) ((by decide)) c_3
    first | replace hr_2p := hr_2p.resolve_left (by omega) | replace hr_2p := hr_2p.resolve_right (by omega) | skip
    refine lv_aload_n hx hb dX14_isString__8 rfl (lv_at hl 0 rfl) ?_
    refine lv_aload_n hx hb dX14_isString__9 rfl (lv_at hl 0 rfl) ?_
    obtain ⟨v_4, hv_4, hh_5⟩ := hh_1.pin (C := RX14) (T := TX14) (N := 74) hB16 rfl (by decide) hg_r0 (i := 22) (by decide) rfl
    clear hh_1
    obtain ⟨from_6, rfl, hg_from_6⟩ := hv_4
    refine j7_read hx hb hown hK (C := RX14) (T := TX14) (N := 74) rfl hly_16_22 (hts (.fieldLink RX14 52 "ProofServerModel" "from" "[I") (by decide +kernel)) (hh_5.at 0 rfl) dX14_isString__10 ?_
    refine lv_iload_n hx hb dX14_isString__13 rfl (lv_at hl 1 rfl) ?_
    refine j7_iald hx hb hK hh_5 hB122 1 rfl (by decide) hg_from_6 (rfl) (by omega) dX14_isString__14 (fun z_7 (hz_7 : 0 ≤ z_7.toInt ∧ z_7.toInt ≤ 3300) => ?_)
    refine lv_aload_n hx hb dX14_isString__15 rfl (lv_at hl 0 rfl) ?_
    obtain ⟨v_8, hv_8, hh_9⟩ := hh_5.pin (C := RX14) (T := TX14) (N := 74) hB16 rfl (by decide) hg_r0 (i := 23) (by decide) rfl
    clear hh_5
    obtain ⟨to_10, rfl, hg_to_10⟩ := hv_8
    refine j7_read hx hb hown hK (C := RX14) (T := TX14) (N := 74) rfl hly_16_23 (hts (.fieldLink RX14 55 "ProofServerModel" "to" "[I") (by decide +kernel)) (hh_9.at 0 rfl) dX14_isString__16 ?_
    refine lv_iload_n hx hb dX14_isString__19 rfl (lv_at hl 1 rfl) ?_
    refine j7_iald hx hb hK hh_9 hB123 1 rfl (by decide) hg_to_10 (rfl) (by omega) dX14_isString__20 (fun z_11 (hz_11 : 0 ≤ z_11.toInt ∧ z_11.toInt ≤ 3300) => ?_)
    refine lv_aload_n hx hb dX14_isString__21 rfl (lv_at hl 2 rfl) ?_
    refine va_calli (A0 := jA base) (H0 := s.heap) (va_runV (As := [.int z_7, .int z_11, .ref r2]) (rest := []) ⟨hx, hb, hml, hown, hts⟩ (uX14_isText l dC dI ca base B hB hAp hB16 hB127 G0 H_1 r0 z_7 z_11 r2 n2) (cwV 3 hts gX14_isString__X14_isText rfl rfl rfl (by decide +kernel) ⟨by rw [← hR]; exact Nat.le_of_ble_eq_true rfl, by rw [← hR]; exact Nat.le_of_ble_eq_true rfl⟩) ⟨fun a U g mk q => by obtain ⟨q0, q1, q2, qK, q10, q11, q12, q13⟩ := q; exact ⟨q0, q1, q2, jG.calling g mk a qK, (q10.moved (Vm.Alike.refl U.vm)), q11, q12, q13⟩, hh_9.recv (C := RX14) (T := TX14) (N := 74) hB16 rfl (by decide) hg_r0 hK, fun U hU hW => ⟨rfl, hU, hh_9.2.1, hG.step hW hU hh_9.1, (hstr_r2.moved hW.alike).kept hh_9.1.2.1, hg_r0, jP.nil, by first | omega | (refine ⟨?_, ?_, ?_, ?_, ?_⟩ <;> (first | omega | rfl | assumption | decide | exact Or.inl rfl | exact Or.inr rfl | (simp only; omega)))⟩⟩ rfl rfl hl.1 rfl (lv_room (Nat.le_of_ble_eq_true rfl)) dX14_isString__22 ⟨Nat.zero_le _, Nat.zero_le _⟩) hh_9.1 (fun q _ h => h) (fun q h => h) (fun r_13 u_12 t_12 H_12 locs_12 ht_12 hvm_12 hr_13 hb_12 hz_12 hk_12 hS_12 => ?_)
    rw [ht_12] at hb_12
    obtain ⟨hb_121, hb_122, hb_123, hb_124, hb_125⟩ := hb_12
    have hh_12 : jSt (dC, dI) B base G0 G0 EX14_isString_ s.heap 0 0 [(r0, 16, 23, .ref to_10), (r0, 16, 22, .ref from_6)] [] [] H_12 locs_12 := (hh_9.call hb_121 hb_122 hb_123 hb_124 hS_12 rfl (L1 := [(r0, 16, 23, .ref to_10), (r0, 16, 22, .ref from_6)]) [0, 1] rfl rfl (M1 := []) [] rfl rfl (I1 := []) [] rfl rfl).more hb_125
    clear hh_9 ht_12 hvm_12 hz_12 hk_12 hS_12 hb_121 hb_122 hb_123 hb_124 hb_125
    obtain ⟨hr_13b, hr_13p⟩ := hr_13
    have hr_13' := jb_01 hr_13b
    refine lv_if_eq (tgt := 32) hx hb dX14_isString__25 (by decide) (fun c_14 => ?_) (fun c_14 => ?_)
    · skip
      have c_14' : r_13.toInt = 0 := jb_eq (rfl) ((by decide)) c_14
      refine lv_iconst (v := 0) hx hb dX14_isString__32 (by decide) ?_
      rw [hQ]
      exact W.zret (v := 0) hx hb hr (jb_nz (Or.inl rfl)) (fun t ht hW => ⟨⟨0, (), rfl, ⟨(Or.inl rfl), by first | omega | rfl | assumption | decide | exact Or.inl rfl | exact Or.inr rfl | (simp only; omega)⟩, hh_12.rt (M1 := []) [] rfl ht⟩, by rw [ht]; try exact hh_12.1.1, fun q h9 hq => by rw [ht]; try exact hh_12.1.2.1 q h9 hq⟩) hh_12.1.2.2 dX14_isString__33
    · skip
      have c_14' : r_13.toInt ≠ 0 := jb_eq_n (rfl) ((by decide)) c_14
      refine lv_iconst (v := 1) hx hb dX14_isString__28 (by decide) ?_
      refine lv_goto (tgt := 33) hx hb dX14_isString__29 (by decide) ?_
      rw [hQ]
      exact W.zret (v := 1) hx hb hr (jb_nz (Or.inr rfl)) (fun t ht hW => ⟨⟨1, (), rfl, ⟨(Or.inr rfl), by first | omega | rfl | assumption | decide | exact Or.inl rfl | exact Or.inr rfl | (simp only; omega)⟩, hh_12.rt (M1 := []) [] rfl ht⟩, by rw [ht]; try exact hh_12.1.1, fun q h9 hq => by rw [ht]; try exact hh_12.1.2.1 q h9 hq⟩) hh_12.1.2.2 dX14_isString__33
set_option maxHeartbeats 4000000 in
set_option maxRecDepth 20000 in
theorem uX14_isWhole (l : Launch) (dC : Nat → ClassId) (dI : Nat → Nat → Nat) (ca : Nat → ClassId) (base : Nat) (B : jF) (hB : jBok B) (hAp : jAp (dC, dI)) (hB16 : ∀ n G a H, B 16 n G a H ↔ jOb (dC, dI) 16 74 (F16 n G) a H) (hB117 : ∀ n G a H, B 117 n G a H ↔ jAr (dC, dI) (ca 1) (fun j z => True) n a H) (hB124 : ∀ n G a H, B 124 n G a H ↔ jAr (dC, dI) (ca 3) (fun j z => (z = 0 ∨ z = 1)) n a H) (G0 : jT) (H0 : Heap) (r0 : Nat) (a1 : Int32) : Met l yX14_isWhole wsX14_isWhole ({ frames := 0, cells := 0, slots := 0, locals := 0 }) (va_Pc [.ref r0, .int a1] (fun U => U.heap = H0 ∧ jX B base G0 [] H0 ∧ jG dC dI ca base U ∧ G0 r0 = some (16, 0) ∧ jP (dC, dI) G0 H0 [] ∧ a1.toInt ≤ 3099)) (va_Qi (S := Unit) (fun r u => (r = 0 ∨ r = 1) ∧ (r.toInt = 0 ∨ 0 ≤ a1.toInt)) (fun u t => jRt (dC, dI) B base G0 EX14_isWhole H0 [] t.heap) (jA base)) 0 0 (jA base) := by
  refine Met.ofW (cc := cX14_isWhole) (maxL := 2) (ret := (some .boolean)) (by decide) rfl ?_
  intro p e s m args below meth c s₁ Bd hml hv
  obtain ⟨rfl, hH0, hX, hG, hg_r0, hP0, hp0⟩ := hv
  have hK := hG.1
  have hx := Bd.exec
  have hb := Bd.bytes
  have hr := Bd.returns
  have hts := atoms_spec (ws := wsX14_isWhole) Bd.pre
  have hown : s.vm.findClass RX14 = some m.cls := findClass_of_methodNamed Bd.named
  have hlocks := Bd.notSynchronized
  obtain ⟨Q, hQ⟩ : ∃ Q, Q = MQ below (va_Qi (S := Unit) (fun r u => (r = 0 ∨ r = 1) ∧ (r.toInt = 0 ∨ 0 ≤ a1.toInt)) (fun u t => jRt (dC, dI) B base G0 EX14_isWhole H0 [] t.heap) (jA base)) ([.ref r0, .int a1] : List Value).toArray s 0 0 (jA base) := ⟨_, rfl⟩
  rw [← hQ]
  have hl := lv_entry ([.ref r0, .int a1]) (n := 2) (Nat.le_of_ble_eq_true rfl)
  rw [lg_entry_eq]
  generalize (lg_sl ([.ref r0, .int a1]) ++ List.replicate (2 - (lg_sl ([.ref r0, .int a1])).length) Slot.unset).toArray = ls at hl ⊢
  have hl : lv_has ls 2 [(0, .ref r0), (1, .int a1)] := hl
  generalize hR : (headSpec wsX14_isWhole ({ frames := 0, cells := 0, slots := 0, locals := 0 })).room = R
  subst hH0
  have hh : jSt (dC, dI) B base G0 G0 EX14_isWhole s.heap 0 0 [] [] [] s.heap [] := jSt.start hX hP0 jMc.nil jIs.nil
  clear hX hP0
  have hk0 : (0 : Int32).toInt = 0 := by decide
  have hk1 : (1 : Int32).toInt = 1 := by decide
  have hk3 : (3 : Int32).toInt = 3 := by decide
  have hly_16_17 := hts (u_lay RX14 TX14 17) (by decide +kernel)
  have hly_16_24 := hts (u_lay RX14 TX14 24) (by decide +kernel)
  have hrg_a1 := jb_rng a1
  refine lv_iload_n hx hb dX14_isWhole_0 rfl (lv_at hl 1 rfl) ?_
  refine lv_if_lt (tgt := 27) hx hb dX14_isWhole_1 (by decide) (fun c_1 => ?_) (fun c_1 => ?_)
  · skip
    have c_1' : a1.toInt < 0 := jb_lt (rfl) ((by decide)) c_1
    refine lv_iconst (v := 0) hx hb dX14_isWhole_27 (by decide) ?_
    rw [hQ]
    exact W.zret (v := 0) hx hb hr (jb_nz (Or.inl rfl)) (fun t ht hW => ⟨⟨0, (), rfl, ⟨(Or.inl rfl), by first | omega | rfl | assumption | decide | exact Or.inl rfl | exact Or.inr rfl | (simp only; omega)⟩, hh.rt (M1 := []) [] rfl ht⟩, by rw [ht]; try exact hh.1.1, fun q h9 hq => by rw [ht]; try exact hh.1.2.1 q h9 hq⟩) hh.1.2.2 dX14_isWhole_28
  · skip
    have c_1' : a1.toInt ≥ 0 := jb_lt_n (rfl) ((by decide)) c_1
    refine lv_aload_n hx hb dX14_isWhole_4 rfl (lv_at hl 0 rfl) ?_
    obtain ⟨v_2, hv_2, hh_3⟩ := hh.pin (C := RX14) (T := TX14) (N := 74) hB16 rfl (by decide) hg_r0 (i := 17) (by decide) rfl
    clear hh
    obtain ⟨sort_4, rfl, hg_sort_4⟩ := hv_2
    refine j7_read hx hb hown hK (C := RX14) (T := TX14) (N := 74) rfl hly_16_17 (hts (.fieldLink RX14 37 "ProofServerModel" "sort" "[I") (by decide +kernel)) (hh_3.at 0 rfl) dX14_isWhole_5 ?_
    refine lv_iload_n hx hb dX14_isWhole_8 rfl (lv_at hl 1 rfl) ?_
    refine j7_iald hx hb hK hh_3 hB117 1 rfl (by decide) hg_sort_4 (rfl) (by omega) dX14_isWhole_9 (fun z_5 (hz_5 : True) => ?_)
    refine lv_iconst (v := 3) hx hb dX14_isWhole_10 (by decide) ?_
    refine lv_icmp_ne (tgt := 27) hx hb dX14_isWhole_11 (by decide) (fun c_6 => ?_) (fun c_6 => ?_)
    · skip
      have c_6' : z_5.toInt ≠ 3 := jb_ne (rfl) ((by decide)) c_6
      refine lv_iconst (v := 0) hx hb dX14_isWhole_27 (by decide) ?_
      rw [hQ]
      exact W.zret (v := 0) hx hb hr (jb_nz (Or.inl rfl)) (fun t ht hW => ⟨⟨0, (), rfl, ⟨(Or.inl rfl), by first | omega | rfl | assumption | decide | exact Or.inl rfl | exact Or.inr rfl | (simp only; omega)⟩, hh_3.rt (M1 := []) [] rfl ht⟩, by rw [ht]; try exact hh_3.1.1, fun q h9 hq => by rw [ht]; try exact hh_3.1.2.1 q h9 hq⟩) hh_3.1.2.2 dX14_isWhole_28
    · skip
      have c_6' : z_5.toInt = 3 := jb_ne_n (rfl) ((by decide)) c_6
      refine lv_aload_n hx hb dX14_isWhole_14 rfl (lv_at hl 0 rfl) ?_
      obtain ⟨v_7, hv_7, hh_8⟩ := hh_3.pin (C := RX14) (T := TX14) (N := 74) hB16 rfl (by decide) hg_r0 (i := 24) (by decide) rfl
      clear hh_3
      obtain ⟨isInt_9, rfl, hg_isInt_9⟩ := hv_7
      refine j7_read hx hb hown hK (C := RX14) (T := TX14) (N := 74) rfl hly_16_24 (hts (.fieldLink RX14 58 "ProofServerModel" "isInt" "[Z") (by decide +kernel)) (hh_8.at 0 rfl) dX14_isWhole_15 ?_
      refine lv_iload_n hx hb dX14_isWhole_18 rfl (lv_at hl 1 rfl) ?_
      refine j7_zald hx hb hK hh_8 hB124 3 rfl (by decide) hg_isInt_9 (rfl) (by omega) dX14_isWhole_19 (fun z_10 (hz_10 : (z_10 = 0 ∨ z_10 = 1)) => ?_)
      have hz_10' := jb_01 hz_10
      refine lv_if_eq (tgt := 27) hx hb dX14_isWhole_20 (by decide) (fun c_11 => ?_) (fun c_11 => ?_)
      · skip
        have c_11' : z_10.toInt = 0 := jb_eq (rfl) ((by decide)) c_11
        refine lv_iconst (v := 0) hx hb dX14_isWhole_27 (by decide) ?_
        rw [hQ]
        exact W.zret (v := 0) hx hb hr (jb_nz (Or.inl rfl)) (fun t ht hW => ⟨⟨0, (), rfl, ⟨(Or.inl rfl), by first | omega | rfl | assumption | decide | exact Or.inl rfl | exact Or.inr rfl | (simp only; omega)⟩, hh_8.rt (M1 := []) [] rfl ht⟩, by rw [ht]; try exact hh_8.1.1, fun q h9 hq => by rw [ht]; try exact hh_8.1.2.1 q h9 hq⟩) hh_8.1.2.2 dX14_isWhole_28
      · skip
        have c_11' : z_10.toInt ≠ 0 := jb_eq_n (rfl) ((by decide)) c_11
        refine lv_iconst (v := 1) hx hb dX14_isWhole_23 (by decide) ?_
        refine lv_goto (tgt := 28) hx hb dX14_isWhole_24 (by decide) ?_
        rw [hQ]
        exact W.zret (v := 1) hx hb hr (jb_nz (Or.inr rfl)) (fun t ht hW => ⟨⟨1, (), rfl, ⟨(Or.inr rfl), by first | omega | rfl | assumption | decide | exact Or.inl rfl | exact Or.inr rfl | (simp only; omega)⟩, hh_8.rt (M1 := []) [] rfl ht⟩, by rw [ht]; try exact hh_8.1.1, fun q h9 hq => by rw [ht]; try exact hh_8.1.2.1 q h9 hq⟩) hh_8.1.2.2 dX14_isWhole_28
set_option maxHeartbeats 4000000 in
set_option maxRecDepth 20000 in
theorem uX14_isId (l : Launch) (dC : Nat → ClassId) (dI : Nat → Nat → Nat) (ca : Nat → ClassId) (base : Nat) (B : jF) (hB : jBok B) (hAp : jAp (dC, dI)) (hB16 : ∀ n G a H, B 16 n G a H ↔ jOb (dC, dI) 16 74 (F16 n G) a H) (hB117 : ∀ n G a H, B 117 n G a H ↔ jAr (dC, dI) (ca 1) (fun j z => True) n a H) (hB122 : ∀ n G a H, B 122 n G a H ↔ jAr (dC, dI) (ca 1) (fun j z => 0 ≤ z.toInt ∧ z.toInt ≤ 3300) n a H) (hB123 : ∀ n G a H, B 123 n G a H ↔ jAr (dC, dI) (ca 1) (fun j z => 0 ≤ z.toInt ∧ z.toInt ≤ 3300) n a H) (hB124 : ∀ n G a H, B 124 n G a H ↔ jAr (dC, dI) (ca 3) (fun j z => (z = 0 ∨ z = 1)) n a H) (G0 : jT) (H0 : Heap) (r0 : Nat) (a1 : Int32) : Met l yX14_isId wsX14_isId ({ frames := 1, cells := 0, slots := 0, locals := 21 }) (va_Pc [.ref r0, .int a1] (fun U => U.heap = H0 ∧ jX B base G0 [] H0 ∧ jG dC dI ca base U ∧ G0 r0 = some (16, 0) ∧ jP (dC, dI) G0 H0 [] ∧ a1.toInt ≤ 3099)) (va_Qi (S := Unit) (fun r u => (r = 0 ∨ r = 1) ∧ (r.toInt = 0 ∨ 0 ≤ a1.toInt)) (fun u t => jRt (dC, dI) B base G0 EX14_isId H0 [] t.heap) (jA base)) 0 0 (jA base) := by
  refine Met.ofW (cc := cX14_isId) (maxL := 2) (ret := (some .boolean)) (by decide) rfl ?_
  intro p e s m args below meth c s₁ Bd hml hv
  obtain ⟨rfl, hH0, hX, hG, hg_r0, hP0, hp0⟩ := hv
  have hK := hG.1
  have hx := Bd.exec
  have hb := Bd.bytes
  have hr := Bd.returns
  have hts := atoms_spec (ws := wsX14_isId) Bd.pre
  have hown : s.vm.findClass RX14 = some m.cls := findClass_of_methodNamed Bd.named
  have hlocks := Bd.notSynchronized
  obtain ⟨Q, hQ⟩ : ∃ Q, Q = MQ below (va_Qi (S := Unit) (fun r u => (r = 0 ∨ r = 1) ∧ (r.toInt = 0 ∨ 0 ≤ a1.toInt)) (fun u t => jRt (dC, dI) B base G0 EX14_isId H0 [] t.heap) (jA base)) ([.ref r0, .int a1] : List Value).toArray s 0 0 (jA base) := ⟨_, rfl⟩
  rw [← hQ]
  have hl := lv_entry ([.ref r0, .int a1]) (n := 2) (Nat.le_of_ble_eq_true rfl)
  rw [lg_entry_eq]
  generalize (lg_sl ([.ref r0, .int a1]) ++ List.replicate (2 - (lg_sl ([.ref r0, .int a1])).length) Slot.unset).toArray = ls at hl ⊢
  have hl : lv_has ls 2 [(0, .ref r0), (1, .int a1)] := hl
  generalize hR : (headSpec wsX14_isId ({ frames := 1, cells := 0, slots := 0, locals := 21 })).room = R
  subst hH0
  have hh : jSt (dC, dI) B base G0 G0 EX14_isId s.heap 0 0 [] [] [] s.heap [] := jSt.start hX hP0 jMc.nil jIs.nil
  clear hX hP0
  have hk0 : (0 : Int32).toInt = 0 := by decide
  have hk1 : (1 : Int32).toInt = 1 := by decide
  have hk20 : (20 : Int32).toInt = 20 := by decide
  have hly_16_22 := hts (u_lay RX14 TX14 22) (by decide +kernel)
  have hly_16_23 := hts (u_lay RX14 TX14 23) (by decide +kernel)
  have hrg_a1 := jb_rng a1
  refine lv_aload_n hx hb dX14_isId_0 rfl (lv_at hl 0 rfl) ?_
  refine lv_iload_n hx hb dX14_isId_1 rfl (lv_at hl 1 rfl) ?_
  refine va_calli (A0 := jA base) (H0 := s.heap) (va_runV (As := [.int a1]) (rest := []) ⟨hx, hb, hml, hown, hts⟩ (uX14_isWhole l dC dI ca base B hB hAp hB16 hB117 hB124 G0 s.heap r0 a1) (cwV 1 hts gX14_isId_X14_isWhole rfl rfl rfl (by decide +kernel) ⟨by rw [← hR]; exact Nat.le_of_ble_eq_true rfl, by rw [← hR]; exact Nat.le_of_ble_eq_true rfl⟩) ⟨fun a U g mk q => by obtain ⟨q0, q1, q2, qK, q10, q11, q12⟩ := q; exact ⟨q0, q1, q2, jG.calling g mk a qK, q10, q11, q12⟩, hh.recv (C := RX14) (T := TX14) (N := 74) hB16 rfl (by decide) hg_r0 hK, fun U hU hW => ⟨rfl, hU, hh.2.1, hG.step hW hU hh.1, hg_r0, jP.nil, by first | omega | rfl | assumption | decide | exact Or.inl rfl | exact Or.inr rfl | (simp only; omega)⟩⟩ rfl rfl hl.1 rfl (lv_room (Nat.le_of_ble_eq_true rfl)) dX14_isId_2 ⟨Nat.zero_le _, Nat.zero_le _⟩) hh.1 (fun q _ h => h) (fun q h => h) (fun r_2 u_1 t_1 H_1 locs_1 ht_1 hvm_1 hr_2 hb_1 hz_1 hk_1 hS_1 => ?_)
  rw [ht_1] at hb_1
  obtain ⟨hb_11, hb_12, hb_13, hb_14, hb_15⟩ := hb_1
  have hh_1 : jSt (dC, dI) B base G0 G0 EX14_isId s.heap 0 0 [] [] [] H_1 locs_1 := (hh.call hb_11 hb_12 hb_13 hb_14 hS_1 rfl (L1 := []) [] rfl rfl (M1 := []) [] rfl rfl (I1 := []) [] rfl rfl).more hb_15
  clear hh ht_1 hvm_1 hz_1 hk_1 hS_1 hb_11 hb_12 hb_13 hb_14 hb_15
  obtain ⟨hr_2b, hr_2p⟩ := hr_2
  have hr_2' := jb_01 hr_2b
  refine lv_if_ne (tgt := 34) hx hb dX14_isId_5 (by decide) (fun c_3 => ?_) (fun c_3 => ?_)
  · skip
    have c_3' : r_2.toInt ≠ 0 := jb_ne (rfl) ((by decide)) c_3
    first | replace hr_2p := hr_2p.resolve_left (by omega) | replace hr_2p := hr_2p.resolve_right (by omega) | skip
    refine lv_iconst (v := 1) hx hb dX14_isId_34 (by decide) ?_
    refine lv_goto (tgt := 39) hx hb dX14_isId_35 (by decide) ?_
    rw [hQ]
    exact W.zret (v := 1) hx hb hr (jb_nz (Or.inr rfl)) (fun t ht hW => ⟨⟨1, (), rfl, ⟨(Or.inr rfl), by first | omega | rfl | assumption | decide | exact Or.inl rfl | exact Or.inr rfl | (simp only; omega)⟩, hh_1.rt (M1 := []) [] rfl ht⟩, by rw [ht]; try exact hh_1.1.1, fun q h9 hq => by rw [ht]; try exact hh_1.1.2.1 q h9 hq⟩) hh_1.1.2.2 dX14_isId_39
  · skip
    have c_3' : r_2.toInt = 0 := jb_ne_n (rfl) ((by decide)) c_3
    first | replace hr_2p := hr_2p.resolve_left (by omega) | replace hr_2p := hr_2p.resolve_right (by omega) | skip
    refine lv_aload_n hx hb dX14_isId_8 rfl (lv_at hl 0 rfl) ?_
    refine lv_iload_n hx hb dX14_isId_9 rfl (lv_at hl 1 rfl) ?_
    refine va_calli (A0 := jA base) (H0 := s.heap) (va_runV (As := [.int a1]) (rest := []) ⟨hx, hb, hml, hown, hts⟩ (uX14_isString l dC dI ca base B hB hAp hB16 hB117 G0 H_1 r0 a1) (cwV 1 hts gX14_isId_X14_isString rfl rfl rfl (by decide +kernel) ⟨by rw [← hR]; exact Nat.le_of_ble_eq_true rfl, by rw [← hR]; exact Nat.le_of_ble_eq_true rfl⟩) ⟨fun a U g mk q => by obtain ⟨q0, q1, q2, qK, q10, q11, q12⟩ := q; exact ⟨q0, q1, q2, jG.calling g mk a qK, q10, q11, q12⟩, hh_1.recv (C := RX14) (T := TX14) (N := 74) hB16 rfl (by decide) hg_r0 hK, fun U hU hW => ⟨rfl, hU, hh_1.2.1, hG.step hW hU hh_1.1, hg_r0, jP.nil, by first | omega | rfl | assumption | decide | exact Or.inl rfl | exact Or.inr rfl | (simp only; omega)⟩⟩ rfl rfl hl.1 rfl (lv_room (Nat.le_of_ble_eq_true rfl)) dX14_isId_10 ⟨Nat.zero_le _, Nat.zero_le _⟩) hh_1.1 (fun q _ h => h) (fun q h => h) (fun r_5 u_4 t_4 H_4 locs_4 ht_4 hvm_4 hr_5 hb_4 hz_4 hk_4 hS_4 => ?_)
    rw [ht_4] at hb_4
    obtain ⟨hb_41, hb_42, hb_43, hb_44, hb_45⟩ := hb_4
    have hh_4 : jSt (dC, dI) B base G0 G0 EX14_isId s.heap 0 0 [] [] [] H_4 locs_4 := (hh_1.call hb_41 hb_42 hb_43 hb_44 hS_4 rfl (L1 := []) [] rfl rfl (M1 := []) [] rfl rfl (I1 := []) [] rfl rfl).more hb_45
    clear hh_1 ht_4 hvm_4 hz_4 hk_4 hS_4 hb_41 hb_42 hb_43 hb_44 hb_45
    obtain ⟨hr_5b, hr_5p⟩ := hr_5
    have hr_5' := jb_01 hr_5b
    refine lv_if_eq (tgt := 38) hx hb dX14_isId_13 (by decide) (fun c_6 => ?_) (fun c_6 => ?_)
    · skip
      have c_6' : r_5.toInt = 0 := jb_eq (rfl) ((by decide)) c_6
      first | replace hr_2p := hr_2p.resolve_left (by omega) | replace hr_2p := hr_2p.resolve_right (by omega) | skip
      first | replace hr_5p := hr_5p.resolve_left (by omega) | replace hr_5p := hr_5p.resolve_right (by omega) | skip
      refine lv_iconst (v := 0) hx hb dX14_isId_38 (by decide) ?_
      rw [hQ]
      exact W.zret (v := 0) hx hb hr (jb_nz (Or.inl rfl)) (fun t ht hW => ⟨⟨0, (), rfl, ⟨(Or.inl rfl), by first | omega | rfl | assumption | decide | exact Or.inl rfl | exact Or.inr rfl | (simp only; omega)⟩, hh_4.rt (M1 := []) [] rfl ht⟩, by rw [ht]; try exact hh_4.1.1, fun q h9 hq => by rw [ht]; try exact hh_4.1.2.1 q h9 hq⟩) hh_4.1.2.2 dX14_isId_39
    · skip
      have c_6' : r_5.toInt ≠ 0 := jb_eq_n (rfl) ((by decide)) c_6
      first | replace hr_2p := hr_2p.resolve_left (by omega) | replace hr_2p := hr_2p.resolve_right (by omega) | skip
      first | replace hr_5p := hr_5p.resolve_left (by omega) | replace hr_5p := hr_5p.resolve_right (by omega) | skip
      refine lv_aload_n hx hb dX14_isId_16 rfl (lv_at hl 0 rfl) ?_
      obtain ⟨v_7, hv_7, hh_8⟩ := hh_4.pin (C := RX14) (T := TX14) (N := 74) hB16 rfl (by decide) hg_r0 (i := 23) (by decide) rfl
      clear hh_4
      obtain ⟨to_9, rfl, hg_to_9⟩ := hv_7
      refine j7_read hx hb hown hK (C := RX14) (T := TX14) (N := 74) rfl hly_16_23 (hts (.fieldLink RX14 55 "ProofServerModel" "to" "[I") (by decide +kernel)) (hh_8.at 0 rfl) dX14_isId_17 ?_
      refine lv_iload_n hx hb dX14_isId_20 rfl (lv_at hl 1 rfl) ?_
      refine j7_iald hx hb hK hh_8 hB123 1 rfl (by decide) hg_to_9 (rfl) (by omega) dX14_isId_21 (fun z_10 (hz_10 : 0 ≤ z_10.toInt ∧ z_10.toInt ≤ 3300) => ?_)
      refine lv_aload_n hx hb dX14_isId_22 rfl (lv_at hl 0 rfl) ?_
      obtain ⟨v_11, hv_11, hh_12⟩ := hh_8.pin (C := RX14) (T := TX14) (N := 74) hB16 rfl (by decide) hg_r0 (i := 22) (by decide) rfl
      clear hh_8
      obtain ⟨from_13, rfl, hg_from_13⟩ := hv_11
      refine j7_read hx hb hown hK (C := RX14) (T := TX14) (N := 74) rfl hly_16_22 (hts (.fieldLink RX14 52 "ProofServerModel" "from" "[I") (by decide +kernel)) (hh_12.at 0 rfl) dX14_isId_23 ?_
      refine lv_iload_n hx hb dX14_isId_26 rfl (lv_at hl 1 rfl) ?_
      refine j7_iald hx hb hK hh_12 hB122 1 rfl (by decide) hg_from_13 (rfl) (by omega) dX14_isId_27 (fun z_14 (hz_14 : 0 ≤ z_14.toInt ∧ z_14.toInt ≤ 3300) => ?_)
      refine lv_isub hx hb dX14_isId_28 ?_
      refine lv_topi (fun z_15 ez_15 => ?_)
      have hz_15 : z_15.toInt = z_10.toInt - z_14.toInt := by rw [ez_15]; exact jb_isub2 (rfl) (rfl) (by omega)
      refine lv_bipush (v := 20) hx hb dX14_isId_29 (by decide) ?_
      refine lv_icmp_gt (tgt := 38) hx hb dX14_isId_31 (by decide) (fun c_16 => ?_) (fun c_16 => ?_)
      · skip
        have c_16' : z_15.toInt > 20 := jb_gt (rfl) ((by decide)) c_16
        refine lv_iconst (v := 0) hx hb dX14_isId_38 (by decide) ?_
        rw [hQ]
        exact W.zret (v := 0) hx hb hr (jb_nz (Or.inl rfl)) (fun t ht hW => ⟨⟨0, (), rfl, ⟨(Or.inl rfl), by first | omega | rfl | assumption | decide | exact Or.inl rfl | exact Or.inr rfl | (simp only; omega)⟩, hh_12.rt (M1 := []) [] rfl ht⟩, by rw [ht]; try exact hh_12.1.1, fun q h9 hq => by rw [ht]; try exact hh_12.1.2.1 q h9 hq⟩) hh_12.1.2.2 dX14_isId_39
      · skip
        have c_16' : z_15.toInt ≤ 20 := jb_gt_n (rfl) ((by decide)) c_16
        refine lv_iconst (v := 1) hx hb dX14_isId_34 (by decide) ?_
        refine lv_goto (tgt := 39) hx hb dX14_isId_35 (by decide) ?_
        rw [hQ]
        exact W.zret (v := 1) hx hb hr (jb_nz (Or.inr rfl)) (fun t ht hW => ⟨⟨1, (), rfl, ⟨(Or.inr rfl), by first | omega | rfl | assumption | decide | exact Or.inl rfl | exact Or.inr rfl | (simp only; omega)⟩, hh_12.rt (M1 := []) [] rfl ht⟩, by rw [ht]; try exact hh_12.1.1, fun q h9 hq => by rw [ht]; try exact hh_12.1.2.1 q h9 hq⟩) hh_12.1.2.2 dX14_isId_39
set_option maxHeartbeats 4000000 in
set_option maxRecDepth 20000 in
theorem uX14_beginAnswer (l : Launch) (dC : Nat → ClassId) (dI : Nat → Nat → Nat) (ca : Nat → ClassId) (base : Nat) (B : jF) (hB : jBok B) (hAp : jAp (dC, dI)) (hB16 : ∀ n G a H, B 16 n G a H ↔ jOb (dC, dI) 16 74 (F16 n G) a H) (hB101 : ∀ n G a H, B 101 n G a H ↔ jAr (dC, dI) (ca 1) (fun j z => True) n a H) (G0 : jT) (H0 : Heap) (r0 : Nat) : Met l yX14_beginAnswer wsX14_beginAnswer ({ frames := 12, cells := 0, slots := 0, locals := 462 }) (va_Pc [.ref r0] (fun U => U.heap = H0 ∧ jX B base G0 [] H0 ∧ jG dC dI ca base U ∧ G0 r0 = some (16, 0) ∧ jP (dC, dI) G0 H0 [] ∧ True)) (va_Qv (S := Unit) (fun u => True) (fun u t => jRt (dC, dI) B base G0 EX14_beginAnswer H0 [] t.heap) (jA base)) 0 0 (jA base) := by
  refine Met.ofW (cc := cX14_beginAnswer) (maxL := 1) (ret := none) (by decide) rfl ?_
  intro p e s m args below meth c s₁ Bd hml hv
  obtain ⟨rfl, hH0, hX, hG, hg_r0, hP0, hp0⟩ := hv
  have hK := hG.1
  have hx := Bd.exec
  have hb := Bd.bytes
  have hr := Bd.returns
  have hts := atoms_spec (ws := wsX14_beginAnswer) Bd.pre
  have hown : s.vm.findClass RX14 = some m.cls := findClass_of_methodNamed Bd.named
  have hlocks := Bd.notSynchronized
  obtain ⟨Q, hQ⟩ : ∃ Q, Q = MQ below (va_Qv (S := Unit) (fun u => True) (fun u t => jRt (dC, dI) B base G0 EX14_beginAnswer H0 [] t.heap) (jA base)) ([.ref r0] : List Value).toArray s 0 0 (jA base) := ⟨_, rfl⟩
  rw [← hQ]
  have hl := lv_entry ([.ref r0]) (n := 1) (Nat.le_of_ble_eq_true rfl)
  rw [lg_entry_eq]
  generalize (lg_sl ([.ref r0]) ++ List.replicate (1 - (lg_sl ([.ref r0])).length) Slot.unset).toArray = ls at hl ⊢
  have hl : lv_has ls 1 [(0, .ref r0)] := hl
  generalize hR : (headSpec wsX14_beginAnswer ({ frames := 12, cells := 0, slots := 0, locals := 462 })).room = R
  subst hH0
  have hh : jSt (dC, dI) B base G0 G0 EX14_beginAnswer s.heap 0 0 [] [] [] s.heap [] := jSt.start hX hP0 jMc.nil jIs.nil
  clear hX hP0
  have hk0 : (0 : Int32).toInt = 0 := by decide
  have hk1 : (1 : Int32).toInt = 1 := by decide
  have hly_16_6 := hts (u_lay RX14 TX14 6) (by decide +kernel)
  have hly_16_36 := hts (u_lay RX14 TX14 36) (by decide +kernel)
  have hly_16_37 := hts (u_lay RX14 TX14 37) (by decide +kernel)
  have hly_16_38 := hts (u_lay RX14 TX14 38) (by decide +kernel)
  have hly_16_39 := hts (u_lay RX14 TX14 39) (by decide +kernel)
  have hly_16_40 := hts (u_lay RX14 TX14 40) (by decide +kernel)
  refine lv_aload_n hx hb dX14_beginAnswer_0 rfl (lv_at hl 0 rfl) ?_
  refine lv_iconst (v := 0) hx hb dX14_beginAnswer_1 (by decide) ?_
  refine j7_put hx hb hown hK hh hB hAp hB16 (C := RX14) (T := TX14) (N := 74) rfl (by decide) hg_r0 (i := 6) (by decide) hly_16_6 rfl (hts (.fieldLink RX14 160 "ProofServerModel" "framed" "I") (by decide +kernel)) rfl (ty := .int) (v := .int 0) (by decide +kernel) rfl rfl (⟨_, rfl, by omega, by omega⟩) rfl (L1 := []) [] rfl rfl rfl dX14_beginAnswer_2 (fun H_1 locs_1 hh_1 => ?_)
  clear hh
  refine lv_aload_n hx hb dX14_beginAnswer_5 rfl (lv_at hl 0 rfl) ?_
  obtain ⟨str_2, rstr_2, hstr_20⟩ := hG.str (o := RX14) (k := 386) (tx := "{\"jsonrpc\":\"2.0\",\"id\":") (List.mem_of_getElem? (i := 2390) (by decide +kernel))
  have hstr_2 : jStr base str_2 22 s s.heap := hstr_20
  refine j_ldcSw hx hb hown rstr_2 dX14_beginAnswer_6 ?_
  refine va_callv (A0 := jA base) (H0 := s.heap) (va_runV (As := [.ref str_2]) (rest := []) ⟨hx, hb, hml, hown, hts⟩ (uX14_word l dC dI ca base B hB hAp hB16 hB101 G0 H_1 r0 str_2 22 0) (cwV 1 hts gX14_beginAnswer_X14_word rfl rfl rfl (by decide +kernel) ⟨by rw [← hR]; exact Nat.le_of_ble_eq_true rfl, by rw [← hR]; exact Nat.le_of_ble_eq_true rfl⟩) ⟨fun a U g mk q => by obtain ⟨q0, q1, q2, qK, q10, q11, q12, q13⟩ := q; exact ⟨q0, q1, q2, jG.calling g mk a qK, (q10.moved (Vm.Alike.refl U.vm)), q11, q12, q13⟩, hh_1.recv (C := RX14) (T := TX14) (N := 74) hB16 rfl (by decide) hg_r0 hK, fun U hU hW => ⟨rfl, hU, hh_1.2.1, hG.step hW hU hh_1.1, (hstr_2.moved hW.alike).kept hh_1.1.2.1, hg_r0, (hh_1.2.2.1.sub (L1 := [(r0, 16, 6, .int 0)]) [0] rfl), by first | omega | (refine ⟨?_, ?_, ?_⟩ <;> (first | omega | rfl | assumption | decide | exact Or.inl rfl | exact Or.inr rfl | (simp only; omega)))⟩⟩ rfl rfl hl.1 rfl (lv_room (Nat.le_of_ble_eq_true rfl)) dX14_beginAnswer_9 ⟨Nat.zero_le _, Nat.zero_le _⟩) hh_1.1 (fun q _ h => h) (fun q h => h) (fun u_3 t_3 H_3 locs_3 ht_3 hvm_3 hr_4 hb_3 hz_3 hk_3 hS_3 => ?_)
  obtain ⟨qf_3, rfl⟩ : ∃ z, z = u_3 := ⟨_, rfl⟩
  rw [ht_3] at hb_3
  obtain ⟨hb_31, hb_32, hb_33, hb_34, hb_35⟩ := hb_3
  have hh_3 : jSt (dC, dI) B base G0 G0 EX14_beginAnswer s.heap 0 0 [(r0, 16, 6, .int qf_3)] [] [] H_3 locs_3 := (hh_1.call hb_31 hb_32 hb_33 hb_34 hS_3 rfl (L1 := []) [] rfl rfl (M1 := []) [] rfl rfl (I1 := []) [] rfl rfl).more hb_35
  clear hh_1 ht_3 hvm_3 hz_3 hk_3 hS_3 hb_31 hb_32 hb_33 hb_34 hb_35
  obtain ⟨hr_4_0, hr_4_1⟩ := hr_4
  refine lv_aload_n hx hb dX14_beginAnswer_12 rfl (lv_at hl 0 rfl) ?_
  obtain ⟨v_5, hv_5, hh_6⟩ := hh_3.pin (C := RX14) (T := TX14) (N := 74) hB16 rfl (by decide) hg_r0 (i := 40) (by decide) rfl
  clear hh_3
  obtain ⟨idNull_7, rfl, hzidNull_7⟩ := hv_5
  have hzidNull_7' := jb_01 hzidNull_7
  refine j7_read hx hb hown hK (C := RX14) (T := TX14) (N := 74) rfl hly_16_40 (hts (.fieldLink RX14 374 "ProofServerModel" "idNull" "Z") (by decide +kernel)) (hh_6.at 0 rfl) dX14_beginAnswer_13 ?_
  refine lv_if_eq (tgt := 29) hx hb dX14_beginAnswer_16 (by decide) (fun c_8 => ?_) (fun c_8 => ?_)
  · skip
    have c_8' : idNull_7.toInt = 0 := jb_eq (rfl) ((by decide)) c_8
    refine lv_aload_n hx hb dX14_beginAnswer_29 rfl (lv_at hl 0 rfl) ?_
    obtain ⟨v_9, hv_9, hh_10⟩ := hh_6.pin (C := RX14) (T := TX14) (N := 74) hB16 rfl (by decide) hg_r0 (i := 36) (by decide) rfl
    clear hh_6
    obtain ⟨idString_11, rfl, hzidString_11⟩ := hv_9
    have hzidString_11' := jb_01 hzidString_11
    refine j7_read hx hb hown hK (C := RX14) (T := TX14) (N := 74) rfl hly_16_36 (hts (.fieldLink RX14 377 "ProofServerModel" "idString" "Z") (by decide +kernel)) (hh_10.at 0 rfl) dX14_beginAnswer_30 ?_
    refine lv_if_eq (tgt := 52) hx hb dX14_beginAnswer_33 (by decide) (fun c_12 => ?_) (fun c_12 => ?_)
    · skip
      have c_12' : idString_11.toInt = 0 := jb_eq (rfl) ((by decide)) c_12
      refine lv_aload_n hx hb dX14_beginAnswer_52 rfl (lv_at hl 0 rfl) ?_
      refine lv_aload_n hx hb dX14_beginAnswer_53 rfl (lv_at hl 0 rfl) ?_
      obtain ⟨v_13, hv_13, hh_14⟩ := hh_10.pin (C := RX14) (T := TX14) (N := 74) hB16 rfl (by decide) hg_r0 (i := 37) (by decide) rfl
      clear hh_10
      obtain ⟨idInt_15, rfl⟩ := hv_13
      refine j7_read hx hb hown hK (C := RX14) (T := TX14) (N := 74) rfl hly_16_37 (hts (.fieldLink RX14 380 "ProofServerModel" "idInt" "I") (by decide +kernel)) (hh_14.at 0 rfl) dX14_beginAnswer_54 ?_
      refine va_callv (A0 := jA base) (H0 := s.heap) (va_runV (As := [.int idInt_15]) (rest := []) ⟨hx, hb, hml, hown, hts⟩ (uX14_number l dC dI ca base B hB hAp hB16 hB101 G0 H_3 r0 idInt_15 qf_3) (cwV 1 hts gX14_beginAnswer_X14_number rfl rfl rfl (by decide +kernel) ⟨by rw [← hR]; exact Nat.le_of_ble_eq_true rfl, by rw [← hR]; exact Nat.le_of_ble_eq_true rfl⟩) ⟨fun a U g mk q => by obtain ⟨q0, q1, q2, qK, q10, q11, q12⟩ := q; exact ⟨q0, q1, q2, jG.calling g mk a qK, q10, q11, q12⟩, hh_14.recv (C := RX14) (T := TX14) (N := 74) hB16 rfl (by decide) hg_r0 hK, fun U hU hW => ⟨rfl, hU, hh_14.2.1, hG.step hW hU hh_14.1, hg_r0, (hh_14.2.2.1.sub (L1 := [(r0, 16, 6, .int qf_3)]) [3] rfl), by first | omega | (refine ⟨?_, ?_⟩ <;> (first | omega | rfl | assumption | decide | exact Or.inl rfl | exact Or.inr rfl | (simp only; omega)))⟩⟩ rfl rfl hl.1 rfl (lv_room (Nat.le_of_ble_eq_true rfl)) dX14_beginAnswer_57 ⟨Nat.zero_le _, Nat.zero_le _⟩) hh_14.1 (fun q _ h => h) (fun q h => h) (fun u_16 t_16 H_16 locs_16 ht_16 hvm_16 hr_17 hb_16 hz_16 hk_16 hS_16 => ?_)
      obtain ⟨qf_16, rfl⟩ : ∃ z, z = u_16 := ⟨_, rfl⟩
      rw [ht_16] at hb_16
      obtain ⟨hb_161, hb_162, hb_163, hb_164, hb_165⟩ := hb_16
      have hh_16 : jSt (dC, dI) B base G0 G0 EX14_beginAnswer s.heap 0 0 [(r0, 16, 6, .int qf_16), (r0, 16, 37, .int idInt_15), (r0, 16, 36, .int idString_11), (r0, 16, 40, .int idNull_7)] [] [] H_16 locs_16 := (hh_14.call hb_161 hb_162 hb_163 hb_164 hS_16 rfl (L1 := [(r0, 16, 37, .int idInt_15), (r0, 16, 36, .int idString_11), (r0, 16, 40, .int idNull_7)]) [0, 1, 2] rfl rfl (M1 := []) [] rfl rfl (I1 := []) [] rfl rfl).more hb_165
      clear hh_14 ht_16 hvm_16 hz_16 hk_16 hS_16 hb_161 hb_162 hb_163 hb_164 hb_165
      obtain ⟨hr_17_0, hr_17_1⟩ := hr_17
      rw [hQ]
      exact W.vret hx hb hr (fun t ht hW => ⟨⟨(), rfl, trivial, hh_16.rt (M1 := []) [] rfl ht⟩, by rw [ht]; try exact hh_16.1.1, fun q h9 hq => by rw [ht]; try exact hh_16.1.2.1 q h9 hq⟩) hh_16.1.2.2 dX14_beginAnswer_60
    · skip
      have c_12' : idString_11.toInt ≠ 0 := jb_eq_n (rfl) ((by decide)) c_12
      refine lv_aload_n hx hb dX14_beginAnswer_36 rfl (lv_at hl 0 rfl) ?_
      refine lv_aload_n hx hb dX14_beginAnswer_37 rfl (lv_at hl 0 rfl) ?_
      obtain ⟨v_18, hv_18, hh_19⟩ := hh_10.pin (C := RX14) (T := TX14) (N := 74) hB16 rfl (by decide) hg_r0 (i := 38) (by decide) rfl
      clear hh_10
      obtain ⟨idUnits_20, rfl, hg_idUnits_20⟩ := hv_18
      refine j7_read hx hb hown hK (C := RX14) (T := TX14) (N := 74) rfl hly_16_38 (hts (.fieldLink RX14 68 "ProofServerModel" "idUnits" "[I") (by decide +kernel)) (hh_19.at 0 rfl) dX14_beginAnswer_38 ?_
      refine lv_iconst (v := 0) hx hb dX14_beginAnswer_41 (by decide) ?_
      refine lv_aload_n hx hb dX14_beginAnswer_42 rfl (lv_at hl 0 rfl) ?_
      obtain ⟨v_21, hv_21, hh_22⟩ := hh_19.pin (C := RX14) (T := TX14) (N := 74) hB16 rfl (by decide) hg_r0 (i := 39) (by decide) rfl
      clear hh_19
      obtain ⟨idLength_23, rfl, hloidLength_23, hhiidLength_23⟩ := hv_21
      refine j7_read hx hb hown hK (C := RX14) (T := TX14) (N := 74) rfl hly_16_39 (hts (.fieldLink RX14 383 "ProofServerModel" "idLength" "I") (by decide +kernel)) (hh_22.at 0 rfl) dX14_beginAnswer_43 ?_
      refine va_callv (A0 := jA base) (H0 := s.heap) (va_runV (As := [.ref idUnits_20, .int 0, .int idLength_23]) (rest := []) ⟨hx, hb, hml, hown, hts⟩ (uX14_string l dC dI ca base B hB hAp hB16 hB101 G0 H_3 r0 idUnits_20 0 idLength_23 20 qf_3) (cwV 3 hts gX14_beginAnswer_X14_string rfl rfl rfl (by decide +kernel) ⟨by rw [← hR]; exact Nat.le_of_ble_eq_true rfl, by rw [← hR]; exact Nat.le_of_ble_eq_true rfl⟩) ⟨fun a U g mk q => by obtain ⟨q0, q1, q2, qK, q10, q11, q12, q13⟩ := q; exact ⟨q0, q1, q2, jG.calling g mk a qK, q10, q11, q12, q13⟩, hh_22.recv (C := RX14) (T := TX14) (N := 74) hB16 rfl (by decide) hg_r0 hK, fun U hU hW => ⟨rfl, hU, hh_22.2.1, hG.step hW hU hh_22.1, hg_idUnits_20, hg_r0, (hh_22.2.2.1.sub (L1 := [(r0, 16, 6, .int qf_3)]) [4] rfl), by first | omega | (refine ⟨?_, ?_, ?_, ?_, ?_⟩ <;> (first | omega | rfl | assumption | decide | exact Or.inl rfl | exact Or.inr rfl | (simp only; omega)))⟩⟩ rfl rfl hl.1 rfl (lv_room (Nat.le_of_ble_eq_true rfl)) dX14_beginAnswer_46 ⟨Nat.zero_le _, Nat.zero_le _⟩) hh_22.1 (fun q _ h => h) (fun q h => h) (fun u_24 t_24 H_24 locs_24 ht_24 hvm_24 hr_25 hb_24 hz_24 hk_24 hS_24 => ?_)
      obtain ⟨qf_24, rfl⟩ : ∃ z, z = u_24 := ⟨_, rfl⟩
      rw [ht_24] at hb_24
      obtain ⟨hb_241, hb_242, hb_243, hb_244, hb_245⟩ := hb_24
      have hh_24 : jSt (dC, dI) B base G0 G0 EX14_beginAnswer s.heap 0 0 [(r0, 16, 6, .int qf_24), (r0, 16, 39, .int idLength_23), (r0, 16, 38, .ref idUnits_20), (r0, 16, 36, .int idString_11), (r0, 16, 40, .int idNull_7)] [] [] H_24 locs_24 := (hh_22.call hb_241 hb_242 hb_243 hb_244 hS_24 rfl (L1 := [(r0, 16, 39, .int idLength_23), (r0, 16, 38, .ref idUnits_20), (r0, 16, 36, .int idString_11), (r0, 16, 40, .int idNull_7)]) [0, 1, 2, 3] rfl rfl (M1 := []) [] rfl rfl (I1 := []) [] rfl rfl).more hb_245
      clear hh_22 ht_24 hvm_24 hz_24 hk_24 hS_24 hb_241 hb_242 hb_243 hb_244 hb_245
      obtain ⟨hr_25_0, hr_25_1⟩ := hr_25
      refine lv_goto (tgt := 60) hx hb dX14_beginAnswer_49 (by decide) ?_
      rw [hQ]
      exact W.vret hx hb hr (fun t ht hW => ⟨⟨(), rfl, trivial, hh_24.rt (M1 := []) [] rfl ht⟩, by rw [ht]; try exact hh_24.1.1, fun q h9 hq => by rw [ht]; try exact hh_24.1.2.1 q h9 hq⟩) hh_24.1.2.2 dX14_beginAnswer_60
  · skip
    have c_8' : idNull_7.toInt ≠ 0 := jb_eq_n (rfl) ((by decide)) c_8
    refine lv_aload_n hx hb dX14_beginAnswer_19 rfl (lv_at hl 0 rfl) ?_
    obtain ⟨str_26, rstr_26, hstr_260⟩ := hG.str (o := RX14) (k := 307) (tx := "null") (List.mem_of_getElem? (i := 2366) (by decide +kernel))
    have hstr_26 : jStr base str_26 4 s s.heap := hstr_260
    refine j_ldcSw hx hb hown rstr_26 dX14_beginAnswer_20 ?_
    refine va_callv (A0 := jA base) (H0 := s.heap) (va_runV (As := [.ref str_26]) (rest := []) ⟨hx, hb, hml, hown, hts⟩ (uX14_word l dC dI ca base B hB hAp hB16 hB101 G0 H_3 r0 str_26 4 qf_3) (cwV 1 hts gX14_beginAnswer_X14_word rfl rfl rfl (by decide +kernel) ⟨by rw [← hR]; exact Nat.le_of_ble_eq_true rfl, by rw [← hR]; exact Nat.le_of_ble_eq_true rfl⟩) ⟨fun a U g mk q => by obtain ⟨q0, q1, q2, qK, q10, q11, q12, q13⟩ := q; exact ⟨q0, q1, q2, jG.calling g mk a qK, (q10.moved (Vm.Alike.refl U.vm)), q11, q12, q13⟩, hh_6.recv (C := RX14) (T := TX14) (N := 74) hB16 rfl (by decide) hg_r0 hK, fun U hU hW => ⟨rfl, hU, hh_6.2.1, hG.step hW hU hh_6.1, (hstr_26.moved hW.alike).kept hh_6.1.2.1, hg_r0, (hh_6.2.2.1.sub (L1 := [(r0, 16, 6, .int qf_3)]) [1] rfl), by first | omega | (refine ⟨?_, ?_, ?_⟩ <;> (first | omega | rfl | assumption | decide | exact Or.inl rfl | exact Or.inr rfl | (simp only; omega)))⟩⟩ rfl rfl hl.1 rfl (lv_room (Nat.le_of_ble_eq_true rfl)) dX14_beginAnswer_23 ⟨Nat.zero_le _, Nat.zero_le _⟩) hh_6.1 (fun q _ h => h) (fun q h => h) (fun u_27 t_27 H_27 locs_27 ht_27 hvm_27 hr_28 hb_27 hz_27 hk_27 hS_27 => ?_)
    obtain ⟨qf_27, rfl⟩ : ∃ z, z = u_27 := ⟨_, rfl⟩
    rw [ht_27] at hb_27
    obtain ⟨hb_271, hb_272, hb_273, hb_274, hb_275⟩ := hb_27
    have hh_27 : jSt (dC, dI) B base G0 G0 EX14_beginAnswer s.heap 0 0 [(r0, 16, 6, .int qf_27), (r0, 16, 40, .int idNull_7)] [] [] H_27 locs_27 := (hh_6.call hb_271 hb_272 hb_273 hb_274 hS_27 rfl (L1 := [(r0, 16, 40, .int idNull_7)]) [0] rfl rfl (M1 := []) [] rfl rfl (I1 := []) [] rfl rfl).more hb_275
    clear hh_6 ht_27 hvm_27 hz_27 hk_27 hS_27 hb_271 hb_272 hb_273 hb_274 hb_275
    obtain ⟨hr_28_0, hr_28_1⟩ := hr_28
    refine lv_goto (tgt := 60) hx hb dX14_beginAnswer_26 (by decide) ?_
    rw [hQ]
    exact W.vret hx hb hr (fun t ht hW => ⟨⟨(), rfl, trivial, hh_27.rt (M1 := []) [] rfl ht⟩, by rw [ht]; try exact hh_27.1.1, fun q h9 hq => by rw [ht]; try exact hh_27.1.2.1 q h9 hq⟩) hh_27.1.2.2 dX14_beginAnswer_60
set_option maxHeartbeats 4000000 in
set_option maxRecDepth 20000 in
theorem uX14_beginResult (l : Launch) (dC : Nat → ClassId) (dI : Nat → Nat → Nat) (ca : Nat → ClassId) (base : Nat) (B : jF) (hB : jBok B) (hAp : jAp (dC, dI)) (hB16 : ∀ n G a H, B 16 n G a H ↔ jOb (dC, dI) 16 74 (F16 n G) a H) (hB101 : ∀ n G a H, B 101 n G a H ↔ jAr (dC, dI) (ca 1) (fun j z => True) n a H) (G0 : jT) (H0 : Heap) (r0 : Nat) : Met l yX14_beginResult wsX14_beginResult ({ frames := 13, cells := 0, slots := 0, locals := 482 }) (va_Pc [.ref r0] (fun U => U.heap = H0 ∧ jX B base G0 [] H0 ∧ jG dC dI ca base U ∧ G0 r0 = some (16, 0) ∧ jP (dC, dI) G0 H0 [] ∧ True)) (va_Qv (S := Unit) (fun u => True) (fun u t => jRt (dC, dI) B base G0 EX14_beginResult H0 [] t.heap) (jA base)) 0 0 (jA base) := by
  refine Met.ofW (cc := cX14_beginResult) (maxL := 1) (ret := none) (by decide) rfl ?_
  intro p e s m args below meth c s₁ Bd hml hv
  obtain ⟨rfl, hH0, hX, hG, hg_r0, hP0, hp0⟩ := hv
  have hK := hG.1
  have hx := Bd.exec
  have hb := Bd.bytes
  have hr := Bd.returns
  have hts := atoms_spec (ws := wsX14_beginResult) Bd.pre
  have hown : s.vm.findClass RX14 = some m.cls := findClass_of_methodNamed Bd.named
  have hlocks := Bd.notSynchronized
  obtain ⟨Q, hQ⟩ : ∃ Q, Q = MQ below (va_Qv (S := Unit) (fun u => True) (fun u t => jRt (dC, dI) B base G0 EX14_beginResult H0 [] t.heap) (jA base)) ([.ref r0] : List Value).toArray s 0 0 (jA base) := ⟨_, rfl⟩
  rw [← hQ]
  have hl := lv_entry ([.ref r0]) (n := 1) (Nat.le_of_ble_eq_true rfl)
  rw [lg_entry_eq]
  generalize (lg_sl ([.ref r0]) ++ List.replicate (1 - (lg_sl ([.ref r0])).length) Slot.unset).toArray = ls at hl ⊢
  have hl : lv_has ls 1 [(0, .ref r0)] := hl
  generalize hR : (headSpec wsX14_beginResult ({ frames := 13, cells := 0, slots := 0, locals := 482 })).room = R
  subst hH0
  have hh : jSt (dC, dI) B base G0 G0 EX14_beginResult s.heap 0 0 [] [] [] s.heap [] := jSt.start hX hP0 jMc.nil jIs.nil
  clear hX hP0
  have hk0 : (0 : Int32).toInt = 0 := by decide
  have hk1 : (1 : Int32).toInt = 1 := by decide
  refine lv_aload_n hx hb dX14_beginResult_0 rfl (lv_at hl 0 rfl) ?_
  refine va_callv (A0 := jA base) (H0 := s.heap) (va_runV (As := []) (rest := []) ⟨hx, hb, hml, hown, hts⟩ (uX14_beginAnswer l dC dI ca base B hB hAp hB16 hB101 G0 s.heap r0) (cwV 0 hts gX14_beginResult_X14_beginAnswer rfl rfl rfl (by decide +kernel) ⟨by rw [← hR]; exact Nat.le_of_ble_eq_true rfl, by rw [← hR]; exact Nat.le_of_ble_eq_true rfl⟩) ⟨fun a U g mk q => by obtain ⟨q0, q1, q2, qK, q10, q11, q12⟩ := q; exact ⟨q0, q1, q2, jG.calling g mk a qK, q10, q11, q12⟩, hh.recv (C := RX14) (T := TX14) (N := 74) hB16 rfl (by decide) hg_r0 hK, fun U hU hW => ⟨rfl, hU, hh.2.1, hG.step hW hU hh.1, hg_r0, jP.nil, trivial⟩⟩ rfl rfl hl.1 rfl (lv_room (Nat.le_of_ble_eq_true rfl)) dX14_beginResult_1 ⟨Nat.zero_le _, Nat.zero_le _⟩) hh.1 (fun q _ h => h) (fun q h => h) (fun u_1 t_1 H_1 locs_1 ht_1 hvm_1 hr_2 hb_1 hz_1 hk_1 hS_1 => ?_)
  rw [ht_1] at hb_1
  obtain ⟨hb_11, hb_12, hb_13, hb_14, hb_15⟩ := hb_1
  have hh_1 : jSt (dC, dI) B base G0 G0 EX14_beginResult s.heap 0 0 [] [] [] H_1 locs_1 := (hh.call hb_11 hb_12 hb_13 hb_14 hS_1 rfl (L1 := []) [] rfl rfl (M1 := []) [] rfl rfl (I1 := []) [] rfl rfl).more hb_15
  clear hh ht_1 hvm_1 hz_1 hk_1 hS_1 hb_11 hb_12 hb_13 hb_14 hb_15
  refine lv_aload_n hx hb dX14_beginResult_4 rfl (lv_at hl 0 rfl) ?_
  obtain ⟨str_3, rstr_3, hstr_30⟩ := hG.str (o := RX14) (k := 395) (tx := ",\"result\":") (List.mem_of_getElem? (i := 2800) (by decide +kernel))
  have hstr_3 : jStr base str_3 10 s s.heap := hstr_30
  refine j_ldcSw hx hb hown rstr_3 dX14_beginResult_5 ?_
  obtain ⟨v_6, hv_6, hh_7⟩ := hh_1.pin (C := RX14) (T := TX14) (N := 74) hB16 rfl (by decide) hg_r0 (i := 6) (by decide) rfl
  obtain ⟨framed_8, rfl, hloframed_8, hhiframed_8⟩ := hv_6
  refine va_callv (A0 := jA base) (H0 := s.heap) (va_runV (As := [.ref str_3]) (rest := []) ⟨hx, hb, hml, hown, hts⟩ (uX14_word l dC dI ca base B hB hAp hB16 hB101 G0 H_1 r0 str_3 10 framed_8) (cwV 1 hts gX14_beginResult_X14_word rfl rfl rfl (by decide +kernel) ⟨by rw [← hR]; exact Nat.le_of_ble_eq_true rfl, by rw [← hR]; exact Nat.le_of_ble_eq_true rfl⟩) ⟨fun a U g mk q => by obtain ⟨q0, q1, q2, qK, q10, q11, q12, q13⟩ := q; exact ⟨q0, q1, q2, jG.calling g mk a qK, (q10.moved (Vm.Alike.refl U.vm)), q11, q12, q13⟩, hh_7.recv (C := RX14) (T := TX14) (N := 74) hB16 rfl (by decide) hg_r0 hK, fun U hU hW => ⟨rfl, hU, hh_7.2.1, hG.step hW hU hh_7.1, (hstr_3.moved hW.alike).kept hh_7.1.2.1, hg_r0, (hh_7.2.2.1.sub (L1 := [(r0, 16, 6, .int framed_8)]) [0] rfl), by first | omega | (refine ⟨?_, ?_, ?_⟩ <;> (first | omega | rfl | assumption | decide | exact Or.inl rfl | exact Or.inr rfl | (simp only; omega)))⟩⟩ rfl rfl hl.1 rfl (lv_room (Nat.le_of_ble_eq_true rfl)) dX14_beginResult_8 ⟨Nat.zero_le _, Nat.zero_le _⟩) hh_7.1 (fun q _ h => h) (fun q h => h) (fun u_4 t_4 H_4 locs_4 ht_4 hvm_4 hr_5 hb_4 hz_4 hk_4 hS_4 => ?_)
  obtain ⟨qf_4, rfl⟩ : ∃ z, z = u_4 := ⟨_, rfl⟩
  rw [ht_4] at hb_4
  obtain ⟨hb_41, hb_42, hb_43, hb_44, hb_45⟩ := hb_4
  have hh_4 : jSt (dC, dI) B base G0 G0 EX14_beginResult s.heap 0 0 [(r0, 16, 6, .int qf_4)] [] [] H_4 locs_4 := (hh_7.call hb_41 hb_42 hb_43 hb_44 hS_4 rfl (L1 := []) [] rfl rfl (M1 := []) [] rfl rfl (I1 := []) [] rfl rfl).more hb_45
  clear hh_7 ht_4 hvm_4 hz_4 hk_4 hS_4 hb_41 hb_42 hb_43 hb_44 hb_45
  obtain ⟨hr_5_0, hr_5_1⟩ := hr_5
  rw [hQ]
  exact W.vret hx hb hr (fun t ht hW => ⟨⟨(), rfl, trivial, hh_4.rt (M1 := []) [] rfl ht⟩, by rw [ht]; try exact hh_4.1.1, fun q h9 hq => by rw [ht]; try exact hh_4.1.2.1 q h9 hq⟩) hh_4.1.2.2 dX14_beginResult_11
set_option maxHeartbeats 4000000 in
set_option maxRecDepth 20000 in
theorem uX14_endAnswer (l : Launch) (dC : Nat → ClassId) (dI : Nat → Nat → Nat) (ca : Nat → ClassId) (base : Nat) (B : jF) (hB : jBok B) (hAp : jAp (dC, dI)) (hB16 : ∀ n G a H, B 16 n G a H ↔ jOb (dC, dI) 16 74 (F16 n G) a H) (hB101 : ∀ n G a H, B 101 n G a H ↔ jAr (dC, dI) (ca 1) (fun j z => True) n a H) (G0 : jT) (H0 : Heap) (r0 : Nat) : Met l yX14_endAnswer wsX14_endAnswer ({ frames := 13, cells := 0, slots := 0, locals := 485 }) (va_Pc [.ref r0] (fun U => U.heap = H0 ∧ jX B base G0 [] H0 ∧ jG dC dI ca base U ∧ G0 r0 = some (16, 0) ∧ jP (dC, dI) G0 H0 [] ∧ True)) (va_Qv (S := Unit) (fun u => True) (fun u t => jRt (dC, dI) B base G0 EX14_endAnswer H0 [] t.heap) (jA base)) 0 0 (jA base) := by
  refine Met.ofW (cc := cX14_endAnswer) (maxL := 1) (ret := none) (by decide) rfl ?_
  intro p e s m args below meth c s₁ Bd hml hv
  obtain ⟨rfl, hH0, hX, hG, hg_r0, hP0, hp0⟩ := hv
  have hK := hG.1
  have hx := Bd.exec
  have hb := Bd.bytes
  have hr := Bd.returns
  have hts := atoms_spec (ws := wsX14_endAnswer) Bd.pre
  have hown : s.vm.findClass RX14 = some m.cls := findClass_of_methodNamed Bd.named
  have hlocks := Bd.notSynchronized
  obtain ⟨Q, hQ⟩ : ∃ Q, Q = MQ below (va_Qv (S := Unit) (fun u => True) (fun u t => jRt (dC, dI) B base G0 EX14_endAnswer H0 [] t.heap) (jA base)) ([.ref r0] : List Value).toArray s 0 0 (jA base) := ⟨_, rfl⟩
  rw [← hQ]
  have hl := lv_entry ([.ref r0]) (n := 1) (Nat.le_of_ble_eq_true rfl)
  rw [lg_entry_eq]
  generalize (lg_sl ([.ref r0]) ++ List.replicate (1 - (lg_sl ([.ref r0])).length) Slot.unset).toArray = ls at hl ⊢
  have hl : lv_has ls 1 [(0, .ref r0)] := hl
  generalize hR : (headSpec wsX14_endAnswer ({ frames := 13, cells := 0, slots := 0, locals := 485 })).room = R
  subst hH0
  have hh : jSt (dC, dI) B base G0 G0 EX14_endAnswer s.heap 0 0 [] [] [] s.heap [] := jSt.start hX hP0 jMc.nil jIs.nil
  clear hX hP0
  have hk0 : (0 : Int32).toInt = 0 := by decide
  have hk1 : (1 : Int32).toInt = 1 := by decide
  have hk125 : (125 : Int32).toInt = 125 := by decide
  refine lv_aload_n hx hb dX14_endAnswer_0 rfl (lv_at hl 0 rfl) ?_
  refine lv_bipush (v := 125) hx hb dX14_endAnswer_1 (by decide) ?_
  obtain ⟨v_3, hv_3, hh_4⟩ := hh.pin (C := RX14) (T := TX14) (N := 74) hB16 rfl (by decide) hg_r0 (i := 6) (by decide) rfl
  obtain ⟨framed_5, rfl, hloframed_5, hhiframed_5⟩ := hv_3
  refine va_callv (A0 := jA base) (H0 := s.heap) (va_runV (As := [.int 125]) (rest := []) ⟨hx, hb, hml, hown, hts⟩ (uX14_put l dC dI ca base B hB hAp hB16 hB101 G0 s.heap r0 125 framed_5) (cwV 1 hts gX14_endAnswer_X14_put rfl rfl rfl (by decide +kernel) ⟨by rw [← hR]; exact Nat.le_of_ble_eq_true rfl, by rw [← hR]; exact Nat.le_of_ble_eq_true rfl⟩) ⟨fun a U g mk q => by obtain ⟨q0, q1, q2, qK, q10, q11, q12⟩ := q; exact ⟨q0, q1, q2, jG.calling g mk a qK, q10, q11, q12⟩, hh_4.recv (C := RX14) (T := TX14) (N := 74) hB16 rfl (by decide) hg_r0 hK, fun U hU hW => ⟨rfl, hU, hh_4.2.1, hG.step hW hU hh_4.1, hg_r0, (hh_4.2.2.1.sub (L1 := [(r0, 16, 6, .int framed_5)]) [0] rfl), by first | omega | (refine ⟨?_, ?_⟩ <;> (first | omega | rfl | assumption | decide | exact Or.inl rfl | exact Or.inr rfl | (simp only; omega)))⟩⟩ rfl rfl hl.1 rfl (lv_room (Nat.le_of_ble_eq_true rfl)) dX14_endAnswer_3 ⟨Nat.zero_le _, Nat.zero_le _⟩) hh_4.1 (fun q _ h => h) (fun q h => h) (fun u_1 t_1 H_1 locs_1 ht_1 hvm_1 hr_2 hb_1 hz_1 hk_1 hS_1 => ?_)
  obtain ⟨qf_1, rfl⟩ : ∃ z, z = u_1 := ⟨_, rfl⟩
  rw [ht_1] at hb_1
  obtain ⟨hb_11, hb_12, hb_13, hb_14, hb_15⟩ := hb_1
  have hh_1 : jSt (dC, dI) B base G0 G0 EX14_endAnswer s.heap 0 0 [(r0, 16, 6, .int qf_1)] [] [] H_1 locs_1 := (hh_4.call hb_11 hb_12 hb_13 hb_14 hS_1 rfl (L1 := []) [] rfl rfl (M1 := []) [] rfl rfl (I1 := []) [] rfl rfl).more hb_15
  clear hh_4 ht_1 hvm_1 hz_1 hk_1 hS_1 hb_11 hb_12 hb_13 hb_14 hb_15
  obtain ⟨hr_2_0, hr_2_1⟩ := hr_2
  refine lv_aload_n hx hb dX14_endAnswer_6 rfl (lv_at hl 0 rfl) ?_
  refine va_callv (A0 := jA base) (H0 := s.heap) (va_runV (As := []) (rest := []) ⟨hx, hb, hml, hown, hts⟩ (uX14_send l dC dI ca base B hB hAp hB16 hB101 G0 H_1 r0) (cwV 0 hts gX14_endAnswer_X14_send rfl rfl rfl (by decide +kernel) ⟨by rw [← hR]; exact Nat.le_of_ble_eq_true rfl, by rw [← hR]; exact Nat.le_of_ble_eq_true rfl⟩) ⟨fun a U g mk q => by obtain ⟨q0, q1, q2, qK, q10, q11, q12⟩ := q; exact ⟨q0, q1, q2, jG.calling g mk a qK, q10, q11, q12⟩, hh_1.recv (C := RX14) (T := TX14) (N := 74) hB16 rfl (by decide) hg_r0 hK, fun U hU hW => ⟨rfl, hU, hh_1.2.1, hG.step hW hU hh_1.1, hg_r0, jP.nil, trivial⟩⟩ rfl rfl hl.1 rfl (lv_room (Nat.le_of_ble_eq_true rfl)) dX14_endAnswer_7 ⟨Nat.zero_le _, Nat.zero_le _⟩) hh_1.1 (fun q _ h => h) (fun q h => h) (fun u_6 t_6 H_6 locs_6 ht_6 hvm_6 hr_7 hb_6 hz_6 hk_6 hS_6 => ?_)
  rw [ht_6] at hb_6
  obtain ⟨hb_61, hb_62, hb_63, hb_64, hb_65⟩ := hb_6
  have hh_6 : jSt (dC, dI) B base G0 G0 EX14_endAnswer s.heap 0 0 [] [] [] H_6 locs_6 := (hh_1.call hb_61 hb_62 hb_63 hb_64 hS_6 rfl (L1 := []) [] rfl rfl (M1 := []) [] rfl rfl (I1 := []) [] rfl rfl).more hb_65
  clear hh_1 ht_6 hvm_6 hz_6 hk_6 hS_6 hb_61 hb_62 hb_63 hb_64 hb_65
  rw [hQ]
  exact W.vret hx hb hr (fun t ht hW => ⟨⟨(), rfl, trivial, hh_6.rt (M1 := []) [] rfl ht⟩, by rw [ht]; try exact hh_6.1.1, fun q h9 hq => by rw [ht]; try exact hh_6.1.2.1 q h9 hq⟩) hh_6.1.2.2 dX14_endAnswer_10
set_option maxHeartbeats 4000000 in
set_option maxRecDepth 20000 in
theorem uX14_error (l : Launch) (dC : Nat → ClassId) (dI : Nat → Nat → Nat) (ca : Nat → ClassId) (base : Nat) (B : jF) (hB : jBok B) (hAp : jAp (dC, dI)) (hB16 : ∀ n G a H, B 16 n G a H ↔ jOb (dC, dI) 16 74 (F16 n G) a H) (hB101 : ∀ n G a H, B 101 n G a H ↔ jAr (dC, dI) (ca 1) (fun j z => True) n a H) (G0 : jT) (H0 : Heap) (r0 : Nat) (a1 : Int32) : Met l yX14_error wsX14_error ({ frames := 14, cells := 0, slots := 0, locals := 505 }) (va_Pc [.ref r0, .int a1] (fun U => U.heap = H0 ∧ jX B base G0 [] H0 ∧ jG dC dI ca base U ∧ G0 r0 = some (16, 0) ∧ jP (dC, dI) G0 H0 [] ∧ True)) (va_Qv (S := Unit) (fun u => True) (fun u t => jRt (dC, dI) B base G0 EX14_error H0 [] t.heap) (jA base)) 0 0 (jA base) := by
  refine Met.ofW (cc := cX14_error) (maxL := 2) (ret := none) (by decide) rfl ?_
  intro p e s m args below meth c s₁ Bd hml hv
  obtain ⟨rfl, hH0, hX, hG, hg_r0, hP0, hp0⟩ := hv
  have hK := hG.1
  have hx := Bd.exec
  have hb := Bd.bytes
  have hr := Bd.returns
  have hts := atoms_spec (ws := wsX14_error) Bd.pre
  have hown : s.vm.findClass RX14 = some m.cls := findClass_of_methodNamed Bd.named
  have hlocks := Bd.notSynchronized
  obtain ⟨Q, hQ⟩ : ∃ Q, Q = MQ below (va_Qv (S := Unit) (fun u => True) (fun u t => jRt (dC, dI) B base G0 EX14_error H0 [] t.heap) (jA base)) ([.ref r0, .int a1] : List Value).toArray s 0 0 (jA base) := ⟨_, rfl⟩
  rw [← hQ]
  have hl := lv_entry ([.ref r0, .int a1]) (n := 2) (Nat.le_of_ble_eq_true rfl)
  rw [lg_entry_eq]
  generalize (lg_sl ([.ref r0, .int a1]) ++ List.replicate (2 - (lg_sl ([.ref r0, .int a1])).length) Slot.unset).toArray = ls at hl ⊢
  have hl : lv_has ls 2 [(0, .ref r0), (1, .int a1)] := hl
  generalize hR : (headSpec wsX14_error ({ frames := 14, cells := 0, slots := 0, locals := 505 })).room = R
  subst hH0
  have hh : jSt (dC, dI) B base G0 G0 EX14_error s.heap 0 0 [] [] [] s.heap [] := jSt.start hX hP0 jMc.nil jIs.nil
  clear hX hP0
  have hkm32800 : ((-32800) : Int32).toInt = (-32800) := by decide
  have hkm32700 : ((-32700) : Int32).toInt = (-32700) := by decide
  have hkm32602 : ((-32602) : Int32).toInt = (-32602) := by decide
  have hkm32601 : ((-32601) : Int32).toInt = (-32601) := by decide
  have hkm32600 : ((-32600) : Int32).toInt = (-32600) := by decide
  have hkm32002 : ((-32002) : Int32).toInt = (-32002) := by decide
  have hk0 : (0 : Int32).toInt = 0 := by decide
  have hk1 : (1 : Int32).toInt = 1 := by decide
  have hk125 : (125 : Int32).toInt = 125 := by decide
  have hrg_a1 := jb_rng a1
  refine lv_aload_n hx hb dX14_error_0 rfl (lv_at hl 0 rfl) ?_
  refine va_callv (A0 := jA base) (H0 := s.heap) (va_runV (As := []) (rest := []) ⟨hx, hb, hml, hown, hts⟩ (uX14_beginAnswer l dC dI ca base B hB hAp hB16 hB101 G0 s.heap r0) (cwV 0 hts gX14_error_X14_beginAnswer rfl rfl rfl (by decide +kernel) ⟨by rw [← hR]; exact Nat.le_of_ble_eq_true rfl, by rw [← hR]; exact Nat.le_of_ble_eq_true rfl⟩) ⟨fun a U g mk q => by obtain ⟨q0, q1, q2, qK, q10, q11, q12⟩ := q; exact ⟨q0, q1, q2, jG.calling g mk a qK, q10, q11, q12⟩, hh.recv (C := RX14) (T := TX14) (N := 74) hB16 rfl (by decide) hg_r0 hK, fun U hU hW => ⟨rfl, hU, hh.2.1, hG.step hW hU hh.1, hg_r0, jP.nil, trivial⟩⟩ rfl rfl hl.1 rfl (lv_room (Nat.le_of_ble_eq_true rfl)) dX14_error_1 ⟨Nat.zero_le _, Nat.zero_le _⟩) hh.1 (fun q _ h => h) (fun q h => h) (fun u_1 t_1 H_1 locs_1 ht_1 hvm_1 hr_2 hb_1 hz_1 hk_1 hS_1 => ?_)
  rw [ht_1] at hb_1
  obtain ⟨hb_11, hb_12, hb_13, hb_14, hb_15⟩ := hb_1
  have hh_1 : jSt (dC, dI) B base G0 G0 EX14_error s.heap 0 0 [] [] [] H_1 locs_1 := (hh.call hb_11 hb_12 hb_13 hb_14 hS_1 rfl (L1 := []) [] rfl rfl (M1 := []) [] rfl rfl (I1 := []) [] rfl rfl).more hb_15
  clear hh ht_1 hvm_1 hz_1 hk_1 hS_1 hb_11 hb_12 hb_13 hb_14 hb_15
  refine lv_aload_n hx hb dX14_error_4 rfl (lv_at hl 0 rfl) ?_
  obtain ⟨str_3, rstr_3, hstr_30⟩ := hG.str (o := RX14) (k := 400) (tx := ",\"error\":{\"code\":") (List.mem_of_getElem? (i := 2420) (by decide +kernel))
  have hstr_3 : jStr base str_3 17 s s.heap := hstr_30
  refine j_ldcSw hx hb hown rstr_3 dX14_error_5 ?_
  obtain ⟨v_6, hv_6, hh_7⟩ := hh_1.pin (C := RX14) (T := TX14) (N := 74) hB16 rfl (by decide) hg_r0 (i := 6) (by decide) rfl
  obtain ⟨framed_8, rfl, hloframed_8, hhiframed_8⟩ := hv_6
  refine va_callv (A0 := jA base) (H0 := s.heap) (va_runV (As := [.ref str_3]) (rest := []) ⟨hx, hb, hml, hown, hts⟩ (uX14_word l dC dI ca base B hB hAp hB16 hB101 G0 H_1 r0 str_3 17 framed_8) (cwV 1 hts gX14_error_X14_word rfl rfl rfl (by decide +kernel) ⟨by rw [← hR]; exact Nat.le_of_ble_eq_true rfl, by rw [← hR]; exact Nat.le_of_ble_eq_true rfl⟩) ⟨fun a U g mk q => by obtain ⟨q0, q1, q2, qK, q10, q11, q12, q13⟩ := q; exact ⟨q0, q1, q2, jG.calling g mk a qK, (q10.moved (Vm.Alike.refl U.vm)), q11, q12, q13⟩, hh_7.recv (C := RX14) (T := TX14) (N := 74) hB16 rfl (by decide) hg_r0 hK, fun U hU hW => ⟨rfl, hU, hh_7.2.1, hG.step hW hU hh_7.1, (hstr_3.moved hW.alike).kept hh_7.1.2.1, hg_r0, (hh_7.2.2.1.sub (L1 := [(r0, 16, 6, .int framed_8)]) [0] rfl), by first | omega | (refine ⟨?_, ?_, ?_⟩ <;> (first | omega | rfl | assumption | decide | exact Or.inl rfl | exact Or.inr rfl | (simp only; omega)))⟩⟩ rfl rfl hl.1 rfl (lv_room (Nat.le_of_ble_eq_true rfl)) dX14_error_8 ⟨Nat.zero_le _, Nat.zero_le _⟩) hh_7.1 (fun q _ h => h) (fun q h => h) (fun u_4 t_4 H_4 locs_4 ht_4 hvm_4 hr_5 hb_4 hz_4 hk_4 hS_4 => ?_)
  obtain ⟨qf_4, rfl⟩ : ∃ z, z = u_4 := ⟨_, rfl⟩
  rw [ht_4] at hb_4
  obtain ⟨hb_41, hb_42, hb_43, hb_44, hb_45⟩ := hb_4
  have hh_4 : jSt (dC, dI) B base G0 G0 EX14_error s.heap 0 0 [(r0, 16, 6, .int qf_4)] [] [] H_4 locs_4 := (hh_7.call hb_41 hb_42 hb_43 hb_44 hS_4 rfl (L1 := []) [] rfl rfl (M1 := []) [] rfl rfl (I1 := []) [] rfl rfl).more hb_45
  clear hh_7 ht_4 hvm_4 hz_4 hk_4 hS_4 hb_41 hb_42 hb_43 hb_44 hb_45
  obtain ⟨hr_5_0, hr_5_1⟩ := hr_5
  refine lv_aload_n hx hb dX14_error_11 rfl (lv_at hl 0 rfl) ?_
  refine lv_iload_n hx hb dX14_error_12 rfl (lv_at hl 1 rfl) ?_
  refine va_callv (A0 := jA base) (H0 := s.heap) (va_runV (As := [.int a1]) (rest := []) ⟨hx, hb, hml, hown, hts⟩ (uX14_number l dC dI ca base B hB hAp hB16 hB101 G0 H_4 r0 a1 qf_4) (cwV 1 hts gX14_error_X14_number rfl rfl rfl (by decide +kernel) ⟨by rw [← hR]; exact Nat.le_of_ble_eq_true rfl, by rw [← hR]; exact Nat.le_of_ble_eq_true rfl⟩) ⟨fun a U g mk q => by obtain ⟨q0, q1, q2, qK, q10, q11, q12⟩ := q; exact ⟨q0, q1, q2, jG.calling g mk a qK, q10, q11, q12⟩, hh_4.recv (C := RX14) (T := TX14) (N := 74) hB16 rfl (by decide) hg_r0 hK, fun U hU hW => ⟨rfl, hU, hh_4.2.1, hG.step hW hU hh_4.1, hg_r0, (hh_4.2.2.1.sub (L1 := [(r0, 16, 6, .int qf_4)]) [0] rfl), by first | omega | (refine ⟨?_, ?_⟩ <;> (first | omega | rfl | assumption | decide | exact Or.inl rfl | exact Or.inr rfl | (simp only; omega)))⟩⟩ rfl rfl hl.1 rfl (lv_room (Nat.le_of_ble_eq_true rfl)) dX14_error_13 ⟨Nat.zero_le _, Nat.zero_le _⟩) hh_4.1 (fun q _ h => h) (fun q h => h) (fun u_9 t_9 H_9 locs_9 ht_9 hvm_9 hr_10 hb_9 hz_9 hk_9 hS_9 => ?_)
  obtain ⟨qf_9, rfl⟩ : ∃ z, z = u_9 := ⟨_, rfl⟩
  rw [ht_9] at hb_9
  obtain ⟨hb_91, hb_92, hb_93, hb_94, hb_95⟩ := hb_9
  have hh_9 : jSt (dC, dI) B base G0 G0 EX14_error s.heap 0 0 [(r0, 16, 6, .int qf_9)] [] [] H_9 locs_9 := (hh_4.call hb_91 hb_92 hb_93 hb_94 hS_9 rfl (L1 := []) [] rfl rfl (M1 := []) [] rfl rfl (I1 := []) [] rfl rfl).more hb_95
  clear hh_4 ht_9 hvm_9 hz_9 hk_9 hS_9 hb_91 hb_92 hb_93 hb_94 hb_95
  obtain ⟨hr_10_0, hr_10_1⟩ := hr_10
  refine lv_aload_n hx hb dX14_error_16 rfl (lv_at hl 0 rfl) ?_
  obtain ⟨str_11, rstr_11, hstr_110⟩ := hG.str (o := RX14) (k := 402) (tx := ",\"message\":") (List.mem_of_getElem? (i := 2421) (by decide +kernel))
  have hstr_11 : jStr base str_11 11 s s.heap := hstr_110
  refine j_ldcSw hx hb hown rstr_11 dX14_error_17 ?_
  refine va_callv (A0 := jA base) (H0 := s.heap) (va_runV (As := [.ref str_11]) (rest := []) ⟨hx, hb, hml, hown, hts⟩ (uX14_word l dC dI ca base B hB hAp hB16 hB101 G0 H_9 r0 str_11 11 qf_9) (cwV 1 hts gX14_error_X14_word rfl rfl rfl (by decide +kernel) ⟨by rw [← hR]; exact Nat.le_of_ble_eq_true rfl, by rw [← hR]; exact Nat.le_of_ble_eq_true rfl⟩) ⟨fun a U g mk q => by obtain ⟨q0, q1, q2, qK, q10, q11, q12, q13⟩ := q; exact ⟨q0, q1, q2, jG.calling g mk a qK, (q10.moved (Vm.Alike.refl U.vm)), q11, q12, q13⟩, hh_9.recv (C := RX14) (T := TX14) (N := 74) hB16 rfl (by decide) hg_r0 hK, fun U hU hW => ⟨rfl, hU, hh_9.2.1, hG.step hW hU hh_9.1, (hstr_11.moved hW.alike).kept hh_9.1.2.1, hg_r0, (hh_9.2.2.1.sub (L1 := [(r0, 16, 6, .int qf_9)]) [0] rfl), by first | omega | (refine ⟨?_, ?_, ?_⟩ <;> (first | omega | rfl | assumption | decide | exact Or.inl rfl | exact Or.inr rfl | (simp only; omega)))⟩⟩ rfl rfl hl.1 rfl (lv_room (Nat.le_of_ble_eq_true rfl)) dX14_error_20 ⟨Nat.zero_le _, Nat.zero_le _⟩) hh_9.1 (fun q _ h => h) (fun q h => h) (fun u_12 t_12 H_12 locs_12 ht_12 hvm_12 hr_13 hb_12 hz_12 hk_12 hS_12 => ?_)
  obtain ⟨qf_12, rfl⟩ : ∃ z, z = u_12 := ⟨_, rfl⟩
  rw [ht_12] at hb_12
  obtain ⟨hb_121, hb_122, hb_123, hb_124, hb_125⟩ := hb_12
  have hh_12 : jSt (dC, dI) B base G0 G0 EX14_error s.heap 0 0 [(r0, 16, 6, .int qf_12)] [] [] H_12 locs_12 := (hh_9.call hb_121 hb_122 hb_123 hb_124 hS_12 rfl (L1 := []) [] rfl rfl (M1 := []) [] rfl rfl (I1 := []) [] rfl rfl).more hb_125
  clear hh_9 ht_12 hvm_12 hz_12 hk_12 hS_12 hb_121 hb_122 hb_123 hb_124 hb_125
  obtain ⟨hr_13_0, hr_13_1⟩ := hr_13
  refine lv_aload_n hx hb dX14_error_23 rfl (lv_at hl 0 rfl) ?_
  refine lv_iload_n hx hb dX14_error_24 rfl (lv_at hl 1 rfl) ?_
  refine lv_sipush (v := (-32700)) hx hb dX14_error_25 (by decide) ?_
  refine lv_icmp_ne (tgt := 37) hx hb dX14_error_28 (by decide) (fun c_14 => ?_) (fun c_14 => ?_)
  · skip
    have c_14' : a1.toInt ≠ (-32700) := jb_ne (rfl) ((by decide)) c_14
    refine lv_iload_n hx hb dX14_error_37 rfl (lv_at hl 1 rfl) ?_
    refine lv_sipush (v := (-32600)) hx hb dX14_error_38 (by decide) ?_
    refine lv_icmp_ne (tgt := 50) hx hb dX14_error_41 (by decide) (fun c_15 => ?_) (fun c_15 => ?_)
    · skip
      have c_15' : a1.toInt ≠ (-32600) := jb_ne (rfl) ((by decide)) c_15
      refine lv_iload_n hx hb dX14_error_50 rfl (lv_at hl 1 rfl) ?_
      refine lv_sipush (v := (-32601)) hx hb dX14_error_51 (by decide) ?_
      refine lv_icmp_ne (tgt := 63) hx hb dX14_error_54 (by decide) (fun c_16 => ?_) (fun c_16 => ?_)
      · skip
        have c_16' : a1.toInt ≠ (-32601) := jb_ne (rfl) ((by decide)) c_16
        refine lv_iload_n hx hb dX14_error_63 rfl (lv_at hl 1 rfl) ?_
        refine lv_sipush (v := (-32602)) hx hb dX14_error_64 (by decide) ?_
        refine lv_icmp_ne (tgt := 76) hx hb dX14_error_67 (by decide) (fun c_17 => ?_) (fun c_17 => ?_)
        · skip
          have c_17' : a1.toInt ≠ (-32602) := jb_ne (rfl) ((by decide)) c_17
          refine lv_iload_n hx hb dX14_error_76 rfl (lv_at hl 1 rfl) ?_
          refine lv_sipush (v := (-32002)) hx hb dX14_error_77 (by decide) ?_
          refine lv_icmp_ne (tgt := 89) hx hb dX14_error_80 (by decide) (fun c_18 => ?_) (fun c_18 => ?_)
          · skip
            have c_18' : a1.toInt ≠ (-32002) := jb_ne (rfl) ((by decide)) c_18
            refine lv_iload_n hx hb dX14_error_89 rfl (lv_at hl 1 rfl) ?_
            refine lv_ldcw hx hb hown (hts (.constant RX14 414 (-32800)) (by decide +kernel)) dX14_error_90 ?_
            refine lv_icmp_ne (tgt := 102) hx hb dX14_error_93 (by decide) (fun c_19 => ?_) (fun c_19 => ?_)
            · skip
              have c_19' : a1.toInt ≠ (-32800) := jb_ne (rfl) ((by decide)) c_19
              obtain ⟨str_20, rstr_20, hstr_200⟩ := hG.str (o := RX14) (k := 417) (tx := "modified") (List.mem_of_getElem? (i := 2429) (by decide +kernel))
              have hstr_20 : jStr base str_20 8 s s.heap := hstr_200
              refine j_ldcSw hx hb hown rstr_20 dX14_error_102 ?_
              refine va_callv (A0 := jA base) (H0 := s.heap) (va_runV (As := [.ref str_20]) (rest := []) ⟨hx, hb, hml, hown, hts⟩ (uX14_text l dC dI ca base B hB hAp hB16 hB101 G0 H_12 r0 str_20 8 qf_12) (cwV 1 hts gX14_error_X14_text rfl rfl rfl (by decide +kernel) ⟨by rw [← hR]; exact Nat.le_of_ble_eq_true rfl, by rw [← hR]; exact Nat.le_of_ble_eq_true rfl⟩) ⟨fun a U g mk q => by obtain ⟨q0, q1, q2, qK, q10, q11, q12, q13⟩ := q; exact ⟨q0, q1, q2, jG.calling g mk a qK, (q10.moved (Vm.Alike.refl U.vm)), q11, q12, q13⟩, hh_12.recv (C := RX14) (T := TX14) (N := 74) hB16 rfl (by decide) hg_r0 hK, fun U hU hW => ⟨rfl, hU, hh_12.2.1, hG.step hW hU hh_12.1, (hstr_20.moved hW.alike).kept hh_12.1.2.1, hg_r0, (hh_12.2.2.1.sub (L1 := [(r0, 16, 6, .int qf_12)]) [0] rfl), by first | omega | (refine ⟨?_, ?_, ?_⟩ <;> (first | omega | rfl | assumption | decide | exact Or.inl rfl | exact Or.inr rfl | (simp only; omega)))⟩⟩ rfl rfl hl.1 rfl (lv_room (Nat.le_of_ble_eq_true rfl)) dX14_error_105 ⟨Nat.zero_le _, Nat.zero_le _⟩) hh_12.1 (fun q _ h => h) (fun q h => h) (fun u_21 t_21 H_21 locs_21 ht_21 hvm_21 hr_22 hb_21 hz_21 hk_21 hS_21 => ?_)
              obtain ⟨qf_21, rfl⟩ : ∃ z, z = u_21 := ⟨_, rfl⟩
              rw [ht_21] at hb_21
              obtain ⟨hb_211, hb_212, hb_213, hb_214, hb_215⟩ := hb_21
              have hh_21 : jSt (dC, dI) B base G0 G0 EX14_error s.heap 0 0 [(r0, 16, 6, .int qf_21)] [] [] H_21 locs_21 := (hh_12.call hb_211 hb_212 hb_213 hb_214 hS_21 rfl (L1 := []) [] rfl rfl (M1 := []) [] rfl rfl (I1 := []) [] rfl rfl).more hb_215
              clear hh_12 ht_21 hvm_21 hz_21 hk_21 hS_21 hb_211 hb_212 hb_213 hb_214 hb_215
              obtain ⟨hr_22_0, hr_22_1⟩ := hr_22
              refine lv_aload_n hx hb dX14_error_108 rfl (lv_at hl 0 rfl) ?_
              refine lv_bipush (v := 125) hx hb dX14_error_109 (by decide) ?_
              refine va_callv (A0 := jA base) (H0 := s.heap) (va_runV (As := [.int 125]) (rest := []) ⟨hx, hb, hml, hown, hts⟩ (uX14_put l dC dI ca base B hB hAp hB16 hB101 G0 H_21 r0 125 qf_21) (cwV 1 hts gX14_error_X14_put rfl rfl rfl (by decide +kernel) ⟨by rw [← hR]; exact Nat.le_of_ble_eq_true rfl, by rw [← hR]; exact Nat.le_of_ble_eq_true rfl⟩) ⟨fun a U g mk q => by obtain ⟨q0, q1, q2, qK, q10, q11, q12⟩ := q; exact ⟨q0, q1, q2, jG.calling g mk a qK, q10, q11, q12⟩, hh_21.recv (C := RX14) (T := TX14) (N := 74) hB16 rfl (by decide) hg_r0 hK, fun U hU hW => ⟨rfl, hU, hh_21.2.1, hG.step hW hU hh_21.1, hg_r0, (hh_21.2.2.1.sub (L1 := [(r0, 16, 6, .int qf_21)]) [0] rfl), by first | omega | (refine ⟨?_, ?_⟩ <;> (first | omega | rfl | assumption | decide | exact Or.inl rfl | exact Or.inr rfl | (simp only; omega)))⟩⟩ rfl rfl hl.1 rfl (lv_room (Nat.le_of_ble_eq_true rfl)) dX14_error_111 ⟨Nat.zero_le _, Nat.zero_le _⟩) hh_21.1 (fun q _ h => h) (fun q h => h) (fun u_23 t_23 H_23 locs_23 ht_23 hvm_23 hr_24 hb_23 hz_23 hk_23 hS_23 => ?_)
              obtain ⟨qf_23, rfl⟩ : ∃ z, z = u_23 := ⟨_, rfl⟩
              rw [ht_23] at hb_23
              obtain ⟨hb_231, hb_232, hb_233, hb_234, hb_235⟩ := hb_23
              have hh_23 : jSt (dC, dI) B base G0 G0 EX14_error s.heap 0 0 [(r0, 16, 6, .int qf_23)] [] [] H_23 locs_23 := (hh_21.call hb_231 hb_232 hb_233 hb_234 hS_23 rfl (L1 := []) [] rfl rfl (M1 := []) [] rfl rfl (I1 := []) [] rfl rfl).more hb_235
              clear hh_21 ht_23 hvm_23 hz_23 hk_23 hS_23 hb_231 hb_232 hb_233 hb_234 hb_235
              obtain ⟨hr_24_0, hr_24_1⟩ := hr_24
              refine lv_aload_n hx hb dX14_error_114 rfl (lv_at hl 0 rfl) ?_
              refine va_callv (A0 := jA base) (H0 := s.heap) (va_runV (As := []) (rest := []) ⟨hx, hb, hml, hown, hts⟩ (uX14_endAnswer l dC dI ca base B hB hAp hB16 hB101 G0 H_23 r0) (cwV 0 hts gX14_error_X14_endAnswer rfl rfl rfl (by decide +kernel) ⟨by rw [← hR]; exact Nat.le_of_ble_eq_true rfl, by rw [← hR]; exact Nat.le_of_ble_eq_true rfl⟩) ⟨fun a U g mk q => by obtain ⟨q0, q1, q2, qK, q10, q11, q12⟩ := q; exact ⟨q0, q1, q2, jG.calling g mk a qK, q10, q11, q12⟩, hh_23.recv (C := RX14) (T := TX14) (N := 74) hB16 rfl (by decide) hg_r0 hK, fun U hU hW => ⟨rfl, hU, hh_23.2.1, hG.step hW hU hh_23.1, hg_r0, jP.nil, trivial⟩⟩ rfl rfl hl.1 rfl (lv_room (Nat.le_of_ble_eq_true rfl)) dX14_error_115 ⟨Nat.zero_le _, Nat.zero_le _⟩) hh_23.1 (fun q _ h => h) (fun q h => h) (fun u_25 t_25 H_25 locs_25 ht_25 hvm_25 hr_26 hb_25 hz_25 hk_25 hS_25 => ?_)
              rw [ht_25] at hb_25
              obtain ⟨hb_251, hb_252, hb_253, hb_254, hb_255⟩ := hb_25
              have hh_25 : jSt (dC, dI) B base G0 G0 EX14_error s.heap 0 0 [] [] [] H_25 locs_25 := (hh_23.call hb_251 hb_252 hb_253 hb_254 hS_25 rfl (L1 := []) [] rfl rfl (M1 := []) [] rfl rfl (I1 := []) [] rfl rfl).more hb_255
              clear hh_23 ht_25 hvm_25 hz_25 hk_25 hS_25 hb_251 hb_252 hb_253 hb_254 hb_255
              rw [hQ]
              exact W.vret hx hb hr (fun t ht hW => ⟨⟨(), rfl, trivial, hh_25.rt (M1 := []) [] rfl ht⟩, by rw [ht]; try exact hh_25.1.1, fun q h9 hq => by rw [ht]; try exact hh_25.1.2.1 q h9 hq⟩) hh_25.1.2.2 dX14_error_118
            · skip
              have c_19' : a1.toInt = (-32800) := jb_ne_n (rfl) ((by decide)) c_19
              obtain ⟨str_27, rstr_27, hstr_270⟩ := hG.str (o := RX14) (k := 415) (tx := "cancelled") (List.mem_of_getElem? (i := 2428) (by decide +kernel))
              have hstr_27 : jStr base str_27 9 s s.heap := hstr_270
              refine j_ldcSw hx hb hown rstr_27 dX14_error_96 ?_
              refine lv_goto (tgt := 105) hx hb dX14_error_99 (by decide) ?_
              refine va_callv (A0 := jA base) (H0 := s.heap) (va_runV (As := [.ref str_27]) (rest := []) ⟨hx, hb, hml, hown, hts⟩ (uX14_text l dC dI ca base B hB hAp hB16 hB101 G0 H_12 r0 str_27 9 qf_12) (cwV 1 hts gX14_error_X14_text rfl rfl rfl (by decide +kernel) ⟨by rw [← hR]; exact Nat.le_of_ble_eq_true rfl, by rw [← hR]; exact Nat.le_of_ble_eq_true rfl⟩) ⟨fun a U g mk q => by obtain ⟨q0, q1, q2, qK, q10, q11, q12, q13⟩ := q; exact ⟨q0, q1, q2, jG.calling g mk a qK, (q10.moved (Vm.Alike.refl U.vm)), q11, q12, q13⟩, hh_12.recv (C := RX14) (T := TX14) (N := 74) hB16 rfl (by decide) hg_r0 hK, fun U hU hW => ⟨rfl, hU, hh_12.2.1, hG.step hW hU hh_12.1, (hstr_27.moved hW.alike).kept hh_12.1.2.1, hg_r0, (hh_12.2.2.1.sub (L1 := [(r0, 16, 6, .int qf_12)]) [0] rfl), by first | omega | (refine ⟨?_, ?_, ?_⟩ <;> (first | omega | rfl | assumption | decide | exact Or.inl rfl | exact Or.inr rfl | (simp only; omega)))⟩⟩ rfl rfl hl.1 rfl (lv_room (Nat.le_of_ble_eq_true rfl)) dX14_error_105 ⟨Nat.zero_le _, Nat.zero_le _⟩) hh_12.1 (fun q _ h => h) (fun q h => h) (fun u_28 t_28 H_28 locs_28 ht_28 hvm_28 hr_29 hb_28 hz_28 hk_28 hS_28 => ?_)
              obtain ⟨qf_28, rfl⟩ : ∃ z, z = u_28 := ⟨_, rfl⟩
              rw [ht_28] at hb_28
              obtain ⟨hb_281, hb_282, hb_283, hb_284, hb_285⟩ := hb_28
              have hh_28 : jSt (dC, dI) B base G0 G0 EX14_error s.heap 0 0 [(r0, 16, 6, .int qf_28)] [] [] H_28 locs_28 := (hh_12.call hb_281 hb_282 hb_283 hb_284 hS_28 rfl (L1 := []) [] rfl rfl (M1 := []) [] rfl rfl (I1 := []) [] rfl rfl).more hb_285
              clear hh_12 ht_28 hvm_28 hz_28 hk_28 hS_28 hb_281 hb_282 hb_283 hb_284 hb_285
              obtain ⟨hr_29_0, hr_29_1⟩ := hr_29
              refine lv_aload_n hx hb dX14_error_108 rfl (lv_at hl 0 rfl) ?_
              refine lv_bipush (v := 125) hx hb dX14_error_109 (by decide) ?_
              refine va_callv (A0 := jA base) (H0 := s.heap) (va_runV (As := [.int 125]) (rest := []) ⟨hx, hb, hml, hown, hts⟩ (uX14_put l dC dI ca base B hB hAp hB16 hB101 G0 H_28 r0 125 qf_28) (cwV 1 hts gX14_error_X14_put rfl rfl rfl (by decide +kernel) ⟨by rw [← hR]; exact Nat.le_of_ble_eq_true rfl, by rw [← hR]; exact Nat.le_of_ble_eq_true rfl⟩) ⟨fun a U g mk q => by obtain ⟨q0, q1, q2, qK, q10, q11, q12⟩ := q; exact ⟨q0, q1, q2, jG.calling g mk a qK, q10, q11, q12⟩, hh_28.recv (C := RX14) (T := TX14) (N := 74) hB16 rfl (by decide) hg_r0 hK, fun U hU hW => ⟨rfl, hU, hh_28.2.1, hG.step hW hU hh_28.1, hg_r0, (hh_28.2.2.1.sub (L1 := [(r0, 16, 6, .int qf_28)]) [0] rfl), by first | omega | (refine ⟨?_, ?_⟩ <;> (first | omega | rfl | assumption | decide | exact Or.inl rfl | exact Or.inr rfl | (simp only; omega)))⟩⟩ rfl rfl hl.1 rfl (lv_room (Nat.le_of_ble_eq_true rfl)) dX14_error_111 ⟨Nat.zero_le _, Nat.zero_le _⟩) hh_28.1 (fun q _ h => h) (fun q h => h) (fun u_30 t_30 H_30 locs_30 ht_30 hvm_30 hr_31 hb_30 hz_30 hk_30 hS_30 => ?_)
              obtain ⟨qf_30, rfl⟩ : ∃ z, z = u_30 := ⟨_, rfl⟩
              rw [ht_30] at hb_30
              obtain ⟨hb_301, hb_302, hb_303, hb_304, hb_305⟩ := hb_30
              have hh_30 : jSt (dC, dI) B base G0 G0 EX14_error s.heap 0 0 [(r0, 16, 6, .int qf_30)] [] [] H_30 locs_30 := (hh_28.call hb_301 hb_302 hb_303 hb_304 hS_30 rfl (L1 := []) [] rfl rfl (M1 := []) [] rfl rfl (I1 := []) [] rfl rfl).more hb_305
              clear hh_28 ht_30 hvm_30 hz_30 hk_30 hS_30 hb_301 hb_302 hb_303 hb_304 hb_305
              obtain ⟨hr_31_0, hr_31_1⟩ := hr_31
              refine lv_aload_n hx hb dX14_error_114 rfl (lv_at hl 0 rfl) ?_
              refine va_callv (A0 := jA base) (H0 := s.heap) (va_runV (As := []) (rest := []) ⟨hx, hb, hml, hown, hts⟩ (uX14_endAnswer l dC dI ca base B hB hAp hB16 hB101 G0 H_30 r0) (cwV 0 hts gX14_error_X14_endAnswer rfl rfl rfl (by decide +kernel) ⟨by rw [← hR]; exact Nat.le_of_ble_eq_true rfl, by rw [← hR]; exact Nat.le_of_ble_eq_true rfl⟩) ⟨fun a U g mk q => by obtain ⟨q0, q1, q2, qK, q10, q11, q12⟩ := q; exact ⟨q0, q1, q2, jG.calling g mk a qK, q10, q11, q12⟩, hh_30.recv (C := RX14) (T := TX14) (N := 74) hB16 rfl (by decide) hg_r0 hK, fun U hU hW => ⟨rfl, hU, hh_30.2.1, hG.step hW hU hh_30.1, hg_r0, jP.nil, trivial⟩⟩ rfl rfl hl.1 rfl (lv_room (Nat.le_of_ble_eq_true rfl)) dX14_error_115 ⟨Nat.zero_le _, Nat.zero_le _⟩) hh_30.1 (fun q _ h => h) (fun q h => h) (fun u_32 t_32 H_32 locs_32 ht_32 hvm_32 hr_33 hb_32 hz_32 hk_32 hS_32 => ?_)
              rw [ht_32] at hb_32
              obtain ⟨hb_321, hb_322, hb_323, hb_324, hb_325⟩ := hb_32
              have hh_32 : jSt (dC, dI) B base G0 G0 EX14_error s.heap 0 0 [] [] [] H_32 locs_32 := (hh_30.call hb_321 hb_322 hb_323 hb_324 hS_32 rfl (L1 := []) [] rfl rfl (M1 := []) [] rfl rfl (I1 := []) [] rfl rfl).more hb_325
              clear hh_30 ht_32 hvm_32 hz_32 hk_32 hS_32 hb_321 hb_322 hb_323 hb_324 hb_325
              rw [hQ]
              exact W.vret hx hb hr (fun t ht hW => ⟨⟨(), rfl, trivial, hh_32.rt (M1 := []) [] rfl ht⟩, by rw [ht]; try exact hh_32.1.1, fun q h9 hq => by rw [ht]; try exact hh_32.1.2.1 q h9 hq⟩) hh_32.1.2.2 dX14_error_118
          · skip
            have c_18' : a1.toInt = (-32002) := jb_ne_n (rfl) ((by decide)) c_18
            obtain ⟨str_34, rstr_34, hstr_340⟩ := hG.str (o := RX14) (k := 412) (tx := qtx2426) (List.mem_of_getElem? (i := 2426) (by decide +kernel))
            have h9str_34 : qtx2426.length = 15 := by decide +kernel
            have hstr_34 : jStr base str_34 15 s s.heap := by rw [h9str_34] at hstr_340; exact hstr_340
            refine j_ldcSw hx hb hown rstr_34 dX14_error_83 ?_
            refine lv_goto (tgt := 105) hx hb dX14_error_86 (by decide) ?_
            refine va_callv (A0 := jA base) (H0 := s.heap) (va_runV (As := [.ref str_34]) (rest := []) ⟨hx, hb, hml, hown, hts⟩ (uX14_text l dC dI ca base B hB hAp hB16 hB101 G0 H_12 r0 str_34 15 qf_12) (cwV 1 hts gX14_error_X14_text rfl rfl rfl (by decide +kernel) ⟨by rw [← hR]; exact Nat.le_of_ble_eq_true rfl, by rw [← hR]; exact Nat.le_of_ble_eq_true rfl⟩) ⟨fun a U g mk q => by obtain ⟨q0, q1, q2, qK, q10, q11, q12, q13⟩ := q; exact ⟨q0, q1, q2, jG.calling g mk a qK, (q10.moved (Vm.Alike.refl U.vm)), q11, q12, q13⟩, hh_12.recv (C := RX14) (T := TX14) (N := 74) hB16 rfl (by decide) hg_r0 hK, fun U hU hW => ⟨rfl, hU, hh_12.2.1, hG.step hW hU hh_12.1, (hstr_34.moved hW.alike).kept hh_12.1.2.1, hg_r0, (hh_12.2.2.1.sub (L1 := [(r0, 16, 6, .int qf_12)]) [0] rfl), by first | omega | (refine ⟨?_, ?_, ?_⟩ <;> (first | omega | rfl | assumption | decide | exact Or.inl rfl | exact Or.inr rfl | (simp only; omega)))⟩⟩ rfl rfl hl.1 rfl (lv_room (Nat.le_of_ble_eq_true rfl)) dX14_error_105 ⟨Nat.zero_le _, Nat.zero_le _⟩) hh_12.1 (fun q _ h => h) (fun q h => h) (fun u_35 t_35 H_35 locs_35 ht_35 hvm_35 hr_36 hb_35 hz_35 hk_35 hS_35 => ?_)
            obtain ⟨qf_35, rfl⟩ : ∃ z, z = u_35 := ⟨_, rfl⟩
            rw [ht_35] at hb_35
            obtain ⟨hb_351, hb_352, hb_353, hb_354, hb_355⟩ := hb_35
            have hh_35 : jSt (dC, dI) B base G0 G0 EX14_error s.heap 0 0 [(r0, 16, 6, .int qf_35)] [] [] H_35 locs_35 := (hh_12.call hb_351 hb_352 hb_353 hb_354 hS_35 rfl (L1 := []) [] rfl rfl (M1 := []) [] rfl rfl (I1 := []) [] rfl rfl).more hb_355
            clear hh_12 ht_35 hvm_35 hz_35 hk_35 hS_35 hb_351 hb_352 hb_353 hb_354 hb_355
            obtain ⟨hr_36_0, hr_36_1⟩ := hr_36
            refine lv_aload_n hx hb dX14_error_108 rfl (lv_at hl 0 rfl) ?_
            refine lv_bipush (v := 125) hx hb dX14_error_109 (by decide) ?_
            refine va_callv (A0 := jA base) (H0 := s.heap) (va_runV (As := [.int 125]) (rest := []) ⟨hx, hb, hml, hown, hts⟩ (uX14_put l dC dI ca base B hB hAp hB16 hB101 G0 H_35 r0 125 qf_35) (cwV 1 hts gX14_error_X14_put rfl rfl rfl (by decide +kernel) ⟨by rw [← hR]; exact Nat.le_of_ble_eq_true rfl, by rw [← hR]; exact Nat.le_of_ble_eq_true rfl⟩) ⟨fun a U g mk q => by obtain ⟨q0, q1, q2, qK, q10, q11, q12⟩ := q; exact ⟨q0, q1, q2, jG.calling g mk a qK, q10, q11, q12⟩, hh_35.recv (C := RX14) (T := TX14) (N := 74) hB16 rfl (by decide) hg_r0 hK, fun U hU hW => ⟨rfl, hU, hh_35.2.1, hG.step hW hU hh_35.1, hg_r0, (hh_35.2.2.1.sub (L1 := [(r0, 16, 6, .int qf_35)]) [0] rfl), by first | omega | (refine ⟨?_, ?_⟩ <;> (first | omega | rfl | assumption | decide | exact Or.inl rfl | exact Or.inr rfl | (simp only; omega)))⟩⟩ rfl rfl hl.1 rfl (lv_room (Nat.le_of_ble_eq_true rfl)) dX14_error_111 ⟨Nat.zero_le _, Nat.zero_le _⟩) hh_35.1 (fun q _ h => h) (fun q h => h) (fun u_37 t_37 H_37 locs_37 ht_37 hvm_37 hr_38 hb_37 hz_37 hk_37 hS_37 => ?_)
            obtain ⟨qf_37, rfl⟩ : ∃ z, z = u_37 := ⟨_, rfl⟩
            rw [ht_37] at hb_37
            obtain ⟨hb_371, hb_372, hb_373, hb_374, hb_375⟩ := hb_37
            have hh_37 : jSt (dC, dI) B base G0 G0 EX14_error s.heap 0 0 [(r0, 16, 6, .int qf_37)] [] [] H_37 locs_37 := (hh_35.call hb_371 hb_372 hb_373 hb_374 hS_37 rfl (L1 := []) [] rfl rfl (M1 := []) [] rfl rfl (I1 := []) [] rfl rfl).more hb_375
            clear hh_35 ht_37 hvm_37 hz_37 hk_37 hS_37 hb_371 hb_372 hb_373 hb_374 hb_375
            obtain ⟨hr_38_0, hr_38_1⟩ := hr_38
            refine lv_aload_n hx hb dX14_error_114 rfl (lv_at hl 0 rfl) ?_
            refine va_callv (A0 := jA base) (H0 := s.heap) (va_runV (As := []) (rest := []) ⟨hx, hb, hml, hown, hts⟩ (uX14_endAnswer l dC dI ca base B hB hAp hB16 hB101 G0 H_37 r0) (cwV 0 hts gX14_error_X14_endAnswer rfl rfl rfl (by decide +kernel) ⟨by rw [← hR]; exact Nat.le_of_ble_eq_true rfl, by rw [← hR]; exact Nat.le_of_ble_eq_true rfl⟩) ⟨fun a U g mk q => by obtain ⟨q0, q1, q2, qK, q10, q11, q12⟩ := q; exact ⟨q0, q1, q2, jG.calling g mk a qK, q10, q11, q12⟩, hh_37.recv (C := RX14) (T := TX14) (N := 74) hB16 rfl (by decide) hg_r0 hK, fun U hU hW => ⟨rfl, hU, hh_37.2.1, hG.step hW hU hh_37.1, hg_r0, jP.nil, trivial⟩⟩ rfl rfl hl.1 rfl (lv_room (Nat.le_of_ble_eq_true rfl)) dX14_error_115 ⟨Nat.zero_le _, Nat.zero_le _⟩) hh_37.1 (fun q _ h => h) (fun q h => h) (fun u_39 t_39 H_39 locs_39 ht_39 hvm_39 hr_40 hb_39 hz_39 hk_39 hS_39 => ?_)
            rw [ht_39] at hb_39
            obtain ⟨hb_391, hb_392, hb_393, hb_394, hb_395⟩ := hb_39
            have hh_39 : jSt (dC, dI) B base G0 G0 EX14_error s.heap 0 0 [] [] [] H_39 locs_39 := (hh_37.call hb_391 hb_392 hb_393 hb_394 hS_39 rfl (L1 := []) [] rfl rfl (M1 := []) [] rfl rfl (I1 := []) [] rfl rfl).more hb_395
            clear hh_37 ht_39 hvm_39 hz_39 hk_39 hS_39 hb_391 hb_392 hb_393 hb_394 hb_395
            rw [hQ]
            exact W.vret hx hb hr (fun t ht hW => ⟨⟨(), rfl, trivial, hh_39.rt (M1 := []) [] rfl ht⟩, by rw [ht]; try exact hh_39.1.1, fun q h9 hq => by rw [ht]; try exact hh_39.1.2.1 q h9 hq⟩) hh_39.1.2.2 dX14_error_118
        · skip
          have c_17' : a1.toInt = (-32602) := jb_ne_n (rfl) ((by decide)) c_17
          obtain ⟨str_41, rstr_41, hstr_410⟩ := hG.str (o := RX14) (k := 410) (tx := "bad params") (List.mem_of_getElem? (i := 2425) (by decide +kernel))
          have hstr_41 : jStr base str_41 10 s s.heap := hstr_410
          refine j_ldcSw hx hb hown rstr_41 dX14_error_70 ?_
          refine lv_goto (tgt := 105) hx hb dX14_error_73 (by decide) ?_
          refine va_callv (A0 := jA base) (H0 := s.heap) (va_runV (As := [.ref str_41]) (rest := []) ⟨hx, hb, hml, hown, hts⟩ (uX14_text l dC dI ca base B hB hAp hB16 hB101 G0 H_12 r0 str_41 10 qf_12) (cwV 1 hts gX14_error_X14_text rfl rfl rfl (by decide +kernel) ⟨by rw [← hR]; exact Nat.le_of_ble_eq_true rfl, by rw [← hR]; exact Nat.le_of_ble_eq_true rfl⟩) ⟨fun a U g mk q => by obtain ⟨q0, q1, q2, qK, q10, q11, q12, q13⟩ := q; exact ⟨q0, q1, q2, jG.calling g mk a qK, (q10.moved (Vm.Alike.refl U.vm)), q11, q12, q13⟩, hh_12.recv (C := RX14) (T := TX14) (N := 74) hB16 rfl (by decide) hg_r0 hK, fun U hU hW => ⟨rfl, hU, hh_12.2.1, hG.step hW hU hh_12.1, (hstr_41.moved hW.alike).kept hh_12.1.2.1, hg_r0, (hh_12.2.2.1.sub (L1 := [(r0, 16, 6, .int qf_12)]) [0] rfl), by first | omega | (refine ⟨?_, ?_, ?_⟩ <;> (first | omega | rfl | assumption | decide | exact Or.inl rfl | exact Or.inr rfl | (simp only; omega)))⟩⟩ rfl rfl hl.1 rfl (lv_room (Nat.le_of_ble_eq_true rfl)) dX14_error_105 ⟨Nat.zero_le _, Nat.zero_le _⟩) hh_12.1 (fun q _ h => h) (fun q h => h) (fun u_42 t_42 H_42 locs_42 ht_42 hvm_42 hr_43 hb_42 hz_42 hk_42 hS_42 => ?_)
          obtain ⟨qf_42, rfl⟩ : ∃ z, z = u_42 := ⟨_, rfl⟩
          rw [ht_42] at hb_42
          obtain ⟨hb_421, hb_422, hb_423, hb_424, hb_425⟩ := hb_42
          have hh_42 : jSt (dC, dI) B base G0 G0 EX14_error s.heap 0 0 [(r0, 16, 6, .int qf_42)] [] [] H_42 locs_42 := (hh_12.call hb_421 hb_422 hb_423 hb_424 hS_42 rfl (L1 := []) [] rfl rfl (M1 := []) [] rfl rfl (I1 := []) [] rfl rfl).more hb_425
          clear hh_12 ht_42 hvm_42 hz_42 hk_42 hS_42 hb_421 hb_422 hb_423 hb_424 hb_425
          obtain ⟨hr_43_0, hr_43_1⟩ := hr_43
          refine lv_aload_n hx hb dX14_error_108 rfl (lv_at hl 0 rfl) ?_
          refine lv_bipush (v := 125) hx hb dX14_error_109 (by decide) ?_
          refine va_callv (A0 := jA base) (H0 := s.heap) (va_runV (As := [.int 125]) (rest := []) ⟨hx, hb, hml, hown, hts⟩ (uX14_put l dC dI ca base B hB hAp hB16 hB101 G0 H_42 r0 125 qf_42) (cwV 1 hts gX14_error_X14_put rfl rfl rfl (by decide +kernel) ⟨by rw [← hR]; exact Nat.le_of_ble_eq_true rfl, by rw [← hR]; exact Nat.le_of_ble_eq_true rfl⟩) ⟨fun a U g mk q => by obtain ⟨q0, q1, q2, qK, q10, q11, q12⟩ := q; exact ⟨q0, q1, q2, jG.calling g mk a qK, q10, q11, q12⟩, hh_42.recv (C := RX14) (T := TX14) (N := 74) hB16 rfl (by decide) hg_r0 hK, fun U hU hW => ⟨rfl, hU, hh_42.2.1, hG.step hW hU hh_42.1, hg_r0, (hh_42.2.2.1.sub (L1 := [(r0, 16, 6, .int qf_42)]) [0] rfl), by first | omega | (refine ⟨?_, ?_⟩ <;> (first | omega | rfl | assumption | decide | exact Or.inl rfl | exact Or.inr rfl | (simp only; omega)))⟩⟩ rfl rfl hl.1 rfl (lv_room (Nat.le_of_ble_eq_true rfl)) dX14_error_111 ⟨Nat.zero_le _, Nat.zero_le _⟩) hh_42.1 (fun q _ h => h) (fun q h => h) (fun u_44 t_44 H_44 locs_44 ht_44 hvm_44 hr_45 hb_44 hz_44 hk_44 hS_44 => ?_)
          obtain ⟨qf_44, rfl⟩ : ∃ z, z = u_44 := ⟨_, rfl⟩
          rw [ht_44] at hb_44
          obtain ⟨hb_441, hb_442, hb_443, hb_444, hb_445⟩ := hb_44
          have hh_44 : jSt (dC, dI) B base G0 G0 EX14_error s.heap 0 0 [(r0, 16, 6, .int qf_44)] [] [] H_44 locs_44 := (hh_42.call hb_441 hb_442 hb_443 hb_444 hS_44 rfl (L1 := []) [] rfl rfl (M1 := []) [] rfl rfl (I1 := []) [] rfl rfl).more hb_445
          clear hh_42 ht_44 hvm_44 hz_44 hk_44 hS_44 hb_441 hb_442 hb_443 hb_444 hb_445
          obtain ⟨hr_45_0, hr_45_1⟩ := hr_45
          refine lv_aload_n hx hb dX14_error_114 rfl (lv_at hl 0 rfl) ?_
          refine va_callv (A0 := jA base) (H0 := s.heap) (va_runV (As := []) (rest := []) ⟨hx, hb, hml, hown, hts⟩ (uX14_endAnswer l dC dI ca base B hB hAp hB16 hB101 G0 H_44 r0) (cwV 0 hts gX14_error_X14_endAnswer rfl rfl rfl (by decide +kernel) ⟨by rw [← hR]; exact Nat.le_of_ble_eq_true rfl, by rw [← hR]; exact Nat.le_of_ble_eq_true rfl⟩) ⟨fun a U g mk q => by obtain ⟨q0, q1, q2, qK, q10, q11, q12⟩ := q; exact ⟨q0, q1, q2, jG.calling g mk a qK, q10, q11, q12⟩, hh_44.recv (C := RX14) (T := TX14) (N := 74) hB16 rfl (by decide) hg_r0 hK, fun U hU hW => ⟨rfl, hU, hh_44.2.1, hG.step hW hU hh_44.1, hg_r0, jP.nil, trivial⟩⟩ rfl rfl hl.1 rfl (lv_room (Nat.le_of_ble_eq_true rfl)) dX14_error_115 ⟨Nat.zero_le _, Nat.zero_le _⟩) hh_44.1 (fun q _ h => h) (fun q h => h) (fun u_46 t_46 H_46 locs_46 ht_46 hvm_46 hr_47 hb_46 hz_46 hk_46 hS_46 => ?_)
          rw [ht_46] at hb_46
          obtain ⟨hb_461, hb_462, hb_463, hb_464, hb_465⟩ := hb_46
          have hh_46 : jSt (dC, dI) B base G0 G0 EX14_error s.heap 0 0 [] [] [] H_46 locs_46 := (hh_44.call hb_461 hb_462 hb_463 hb_464 hS_46 rfl (L1 := []) [] rfl rfl (M1 := []) [] rfl rfl (I1 := []) [] rfl rfl).more hb_465
          clear hh_44 ht_46 hvm_46 hz_46 hk_46 hS_46 hb_461 hb_462 hb_463 hb_464 hb_465
          rw [hQ]
          exact W.vret hx hb hr (fun t ht hW => ⟨⟨(), rfl, trivial, hh_46.rt (M1 := []) [] rfl ht⟩, by rw [ht]; try exact hh_46.1.1, fun q h9 hq => by rw [ht]; try exact hh_46.1.2.1 q h9 hq⟩) hh_46.1.2.2 dX14_error_118
      · skip
        have c_16' : a1.toInt = (-32601) := jb_ne_n (rfl) ((by decide)) c_16
        obtain ⟨str_48, rstr_48, hstr_480⟩ := hG.str (o := RX14) (k := 408) (tx := "no method") (List.mem_of_getElem? (i := 2424) (by decide +kernel))
        have hstr_48 : jStr base str_48 9 s s.heap := hstr_480
        refine j_ldcSw hx hb hown rstr_48 dX14_error_57 ?_
        refine lv_goto (tgt := 105) hx hb dX14_error_60 (by decide) ?_
        refine va_callv (A0 := jA base) (H0 := s.heap) (va_runV (As := [.ref str_48]) (rest := []) ⟨hx, hb, hml, hown, hts⟩ (uX14_text l dC dI ca base B hB hAp hB16 hB101 G0 H_12 r0 str_48 9 qf_12) (cwV 1 hts gX14_error_X14_text rfl rfl rfl (by decide +kernel) ⟨by rw [← hR]; exact Nat.le_of_ble_eq_true rfl, by rw [← hR]; exact Nat.le_of_ble_eq_true rfl⟩) ⟨fun a U g mk q => by obtain ⟨q0, q1, q2, qK, q10, q11, q12, q13⟩ := q; exact ⟨q0, q1, q2, jG.calling g mk a qK, (q10.moved (Vm.Alike.refl U.vm)), q11, q12, q13⟩, hh_12.recv (C := RX14) (T := TX14) (N := 74) hB16 rfl (by decide) hg_r0 hK, fun U hU hW => ⟨rfl, hU, hh_12.2.1, hG.step hW hU hh_12.1, (hstr_48.moved hW.alike).kept hh_12.1.2.1, hg_r0, (hh_12.2.2.1.sub (L1 := [(r0, 16, 6, .int qf_12)]) [0] rfl), by first | omega | (refine ⟨?_, ?_, ?_⟩ <;> (first | omega | rfl | assumption | decide | exact Or.inl rfl | exact Or.inr rfl | (simp only; omega)))⟩⟩ rfl rfl hl.1 rfl (lv_room (Nat.le_of_ble_eq_true rfl)) dX14_error_105 ⟨Nat.zero_le _, Nat.zero_le _⟩) hh_12.1 (fun q _ h => h) (fun q h => h) (fun u_49 t_49 H_49 locs_49 ht_49 hvm_49 hr_50 hb_49 hz_49 hk_49 hS_49 => ?_)
        obtain ⟨qf_49, rfl⟩ : ∃ z, z = u_49 := ⟨_, rfl⟩
        rw [ht_49] at hb_49
        obtain ⟨hb_491, hb_492, hb_493, hb_494, hb_495⟩ := hb_49
        have hh_49 : jSt (dC, dI) B base G0 G0 EX14_error s.heap 0 0 [(r0, 16, 6, .int qf_49)] [] [] H_49 locs_49 := (hh_12.call hb_491 hb_492 hb_493 hb_494 hS_49 rfl (L1 := []) [] rfl rfl (M1 := []) [] rfl rfl (I1 := []) [] rfl rfl).more hb_495
        clear hh_12 ht_49 hvm_49 hz_49 hk_49 hS_49 hb_491 hb_492 hb_493 hb_494 hb_495
        obtain ⟨hr_50_0, hr_50_1⟩ := hr_50
        refine lv_aload_n hx hb dX14_error_108 rfl (lv_at hl 0 rfl) ?_
        refine lv_bipush (v := 125) hx hb dX14_error_109 (by decide) ?_
        refine va_callv (A0 := jA base) (H0 := s.heap) (va_runV (As := [.int 125]) (rest := []) ⟨hx, hb, hml, hown, hts⟩ (uX14_put l dC dI ca base B hB hAp hB16 hB101 G0 H_49 r0 125 qf_49) (cwV 1 hts gX14_error_X14_put rfl rfl rfl (by decide +kernel) ⟨by rw [← hR]; exact Nat.le_of_ble_eq_true rfl, by rw [← hR]; exact Nat.le_of_ble_eq_true rfl⟩) ⟨fun a U g mk q => by obtain ⟨q0, q1, q2, qK, q10, q11, q12⟩ := q; exact ⟨q0, q1, q2, jG.calling g mk a qK, q10, q11, q12⟩, hh_49.recv (C := RX14) (T := TX14) (N := 74) hB16 rfl (by decide) hg_r0 hK, fun U hU hW => ⟨rfl, hU, hh_49.2.1, hG.step hW hU hh_49.1, hg_r0, (hh_49.2.2.1.sub (L1 := [(r0, 16, 6, .int qf_49)]) [0] rfl), by first | omega | (refine ⟨?_, ?_⟩ <;> (first | omega | rfl | assumption | decide | exact Or.inl rfl | exact Or.inr rfl | (simp only; omega)))⟩⟩ rfl rfl hl.1 rfl (lv_room (Nat.le_of_ble_eq_true rfl)) dX14_error_111 ⟨Nat.zero_le _, Nat.zero_le _⟩) hh_49.1 (fun q _ h => h) (fun q h => h) (fun u_51 t_51 H_51 locs_51 ht_51 hvm_51 hr_52 hb_51 hz_51 hk_51 hS_51 => ?_)
        obtain ⟨qf_51, rfl⟩ : ∃ z, z = u_51 := ⟨_, rfl⟩
        rw [ht_51] at hb_51
        obtain ⟨hb_511, hb_512, hb_513, hb_514, hb_515⟩ := hb_51
        have hh_51 : jSt (dC, dI) B base G0 G0 EX14_error s.heap 0 0 [(r0, 16, 6, .int qf_51)] [] [] H_51 locs_51 := (hh_49.call hb_511 hb_512 hb_513 hb_514 hS_51 rfl (L1 := []) [] rfl rfl (M1 := []) [] rfl rfl (I1 := []) [] rfl rfl).more hb_515
        clear hh_49 ht_51 hvm_51 hz_51 hk_51 hS_51 hb_511 hb_512 hb_513 hb_514 hb_515
        obtain ⟨hr_52_0, hr_52_1⟩ := hr_52
        refine lv_aload_n hx hb dX14_error_114 rfl (lv_at hl 0 rfl) ?_
        refine va_callv (A0 := jA base) (H0 := s.heap) (va_runV (As := []) (rest := []) ⟨hx, hb, hml, hown, hts⟩ (uX14_endAnswer l dC dI ca base B hB hAp hB16 hB101 G0 H_51 r0) (cwV 0 hts gX14_error_X14_endAnswer rfl rfl rfl (by decide +kernel) ⟨by rw [← hR]; exact Nat.le_of_ble_eq_true rfl, by rw [← hR]; exact Nat.le_of_ble_eq_true rfl⟩) ⟨fun a U g mk q => by obtain ⟨q0, q1, q2, qK, q10, q11, q12⟩ := q; exact ⟨q0, q1, q2, jG.calling g mk a qK, q10, q11, q12⟩, hh_51.recv (C := RX14) (T := TX14) (N := 74) hB16 rfl (by decide) hg_r0 hK, fun U hU hW => ⟨rfl, hU, hh_51.2.1, hG.step hW hU hh_51.1, hg_r0, jP.nil, trivial⟩⟩ rfl rfl hl.1 rfl (lv_room (Nat.le_of_ble_eq_true rfl)) dX14_error_115 ⟨Nat.zero_le _, Nat.zero_le _⟩) hh_51.1 (fun q _ h => h) (fun q h => h) (fun u_53 t_53 H_53 locs_53 ht_53 hvm_53 hr_54 hb_53 hz_53 hk_53 hS_53 => ?_)
        rw [ht_53] at hb_53
        obtain ⟨hb_531, hb_532, hb_533, hb_534, hb_535⟩ := hb_53
        have hh_53 : jSt (dC, dI) B base G0 G0 EX14_error s.heap 0 0 [] [] [] H_53 locs_53 := (hh_51.call hb_531 hb_532 hb_533 hb_534 hS_53 rfl (L1 := []) [] rfl rfl (M1 := []) [] rfl rfl (I1 := []) [] rfl rfl).more hb_535
        clear hh_51 ht_53 hvm_53 hz_53 hk_53 hS_53 hb_531 hb_532 hb_533 hb_534 hb_535
        rw [hQ]
        exact W.vret hx hb hr (fun t ht hW => ⟨⟨(), rfl, trivial, hh_53.rt (M1 := []) [] rfl ht⟩, by rw [ht]; try exact hh_53.1.1, fun q h9 hq => by rw [ht]; try exact hh_53.1.2.1 q h9 hq⟩) hh_53.1.2.2 dX14_error_118
    · skip
      have c_15' : a1.toInt = (-32600) := jb_ne_n (rfl) ((by decide)) c_15
      obtain ⟨str_55, rstr_55, hstr_550⟩ := hG.str (o := RX14) (k := 406) (tx := "no request") (List.mem_of_getElem? (i := 2423) (by decide +kernel))
      have hstr_55 : jStr base str_55 10 s s.heap := hstr_550
      refine j_ldcSw hx hb hown rstr_55 dX14_error_44 ?_
      refine lv_goto (tgt := 105) hx hb dX14_error_47 (by decide) ?_
      refine va_callv (A0 := jA base) (H0 := s.heap) (va_runV (As := [.ref str_55]) (rest := []) ⟨hx, hb, hml, hown, hts⟩ (uX14_text l dC dI ca base B hB hAp hB16 hB101 G0 H_12 r0 str_55 10 qf_12) (cwV 1 hts gX14_error_X14_text rfl rfl rfl (by decide +kernel) ⟨by rw [← hR]; exact Nat.le_of_ble_eq_true rfl, by rw [← hR]; exact Nat.le_of_ble_eq_true rfl⟩) ⟨fun a U g mk q => by obtain ⟨q0, q1, q2, qK, q10, q11, q12, q13⟩ := q; exact ⟨q0, q1, q2, jG.calling g mk a qK, (q10.moved (Vm.Alike.refl U.vm)), q11, q12, q13⟩, hh_12.recv (C := RX14) (T := TX14) (N := 74) hB16 rfl (by decide) hg_r0 hK, fun U hU hW => ⟨rfl, hU, hh_12.2.1, hG.step hW hU hh_12.1, (hstr_55.moved hW.alike).kept hh_12.1.2.1, hg_r0, (hh_12.2.2.1.sub (L1 := [(r0, 16, 6, .int qf_12)]) [0] rfl), by first | omega | (refine ⟨?_, ?_, ?_⟩ <;> (first | omega | rfl | assumption | decide | exact Or.inl rfl | exact Or.inr rfl | (simp only; omega)))⟩⟩ rfl rfl hl.1 rfl (lv_room (Nat.le_of_ble_eq_true rfl)) dX14_error_105 ⟨Nat.zero_le _, Nat.zero_le _⟩) hh_12.1 (fun q _ h => h) (fun q h => h) (fun u_56 t_56 H_56 locs_56 ht_56 hvm_56 hr_57 hb_56 hz_56 hk_56 hS_56 => ?_)
      obtain ⟨qf_56, rfl⟩ : ∃ z, z = u_56 := ⟨_, rfl⟩
      rw [ht_56] at hb_56
      obtain ⟨hb_561, hb_562, hb_563, hb_564, hb_565⟩ := hb_56
      have hh_56 : jSt (dC, dI) B base G0 G0 EX14_error s.heap 0 0 [(r0, 16, 6, .int qf_56)] [] [] H_56 locs_56 := (hh_12.call hb_561 hb_562 hb_563 hb_564 hS_56 rfl (L1 := []) [] rfl rfl (M1 := []) [] rfl rfl (I1 := []) [] rfl rfl).more hb_565
      clear hh_12 ht_56 hvm_56 hz_56 hk_56 hS_56 hb_561 hb_562 hb_563 hb_564 hb_565
      obtain ⟨hr_57_0, hr_57_1⟩ := hr_57
      refine lv_aload_n hx hb dX14_error_108 rfl (lv_at hl 0 rfl) ?_
      refine lv_bipush (v := 125) hx hb dX14_error_109 (by decide) ?_
      refine va_callv (A0 := jA base) (H0 := s.heap) (va_runV (As := [.int 125]) (rest := []) ⟨hx, hb, hml, hown, hts⟩ (uX14_put l dC dI ca base B hB hAp hB16 hB101 G0 H_56 r0 125 qf_56) (cwV 1 hts gX14_error_X14_put rfl rfl rfl (by decide +kernel) ⟨by rw [← hR]; exact Nat.le_of_ble_eq_true rfl, by rw [← hR]; exact Nat.le_of_ble_eq_true rfl⟩) ⟨fun a U g mk q => by obtain ⟨q0, q1, q2, qK, q10, q11, q12⟩ := q; exact ⟨q0, q1, q2, jG.calling g mk a qK, q10, q11, q12⟩, hh_56.recv (C := RX14) (T := TX14) (N := 74) hB16 rfl (by decide) hg_r0 hK, fun U hU hW => ⟨rfl, hU, hh_56.2.1, hG.step hW hU hh_56.1, hg_r0, (hh_56.2.2.1.sub (L1 := [(r0, 16, 6, .int qf_56)]) [0] rfl), by first | omega | (refine ⟨?_, ?_⟩ <;> (first | omega | rfl | assumption | decide | exact Or.inl rfl | exact Or.inr rfl | (simp only; omega)))⟩⟩ rfl rfl hl.1 rfl (lv_room (Nat.le_of_ble_eq_true rfl)) dX14_error_111 ⟨Nat.zero_le _, Nat.zero_le _⟩) hh_56.1 (fun q _ h => h) (fun q h => h) (fun u_58 t_58 H_58 locs_58 ht_58 hvm_58 hr_59 hb_58 hz_58 hk_58 hS_58 => ?_)
      obtain ⟨qf_58, rfl⟩ : ∃ z, z = u_58 := ⟨_, rfl⟩
      rw [ht_58] at hb_58
      obtain ⟨hb_581, hb_582, hb_583, hb_584, hb_585⟩ := hb_58
      have hh_58 : jSt (dC, dI) B base G0 G0 EX14_error s.heap 0 0 [(r0, 16, 6, .int qf_58)] [] [] H_58 locs_58 := (hh_56.call hb_581 hb_582 hb_583 hb_584 hS_58 rfl (L1 := []) [] rfl rfl (M1 := []) [] rfl rfl (I1 := []) [] rfl rfl).more hb_585
      clear hh_56 ht_58 hvm_58 hz_58 hk_58 hS_58 hb_581 hb_582 hb_583 hb_584 hb_585
      obtain ⟨hr_59_0, hr_59_1⟩ := hr_59
      refine lv_aload_n hx hb dX14_error_114 rfl (lv_at hl 0 rfl) ?_
      refine va_callv (A0 := jA base) (H0 := s.heap) (va_runV (As := []) (rest := []) ⟨hx, hb, hml, hown, hts⟩ (uX14_endAnswer l dC dI ca base B hB hAp hB16 hB101 G0 H_58 r0) (cwV 0 hts gX14_error_X14_endAnswer rfl rfl rfl (by decide +kernel) ⟨by rw [← hR]; exact Nat.le_of_ble_eq_true rfl, by rw [← hR]; exact Nat.le_of_ble_eq_true rfl⟩) ⟨fun a U g mk q => by obtain ⟨q0, q1, q2, qK, q10, q11, q12⟩ := q; exact ⟨q0, q1, q2, jG.calling g mk a qK, q10, q11, q12⟩, hh_58.recv (C := RX14) (T := TX14) (N := 74) hB16 rfl (by decide) hg_r0 hK, fun U hU hW => ⟨rfl, hU, hh_58.2.1, hG.step hW hU hh_58.1, hg_r0, jP.nil, trivial⟩⟩ rfl rfl hl.1 rfl (lv_room (Nat.le_of_ble_eq_true rfl)) dX14_error_115 ⟨Nat.zero_le _, Nat.zero_le _⟩) hh_58.1 (fun q _ h => h) (fun q h => h) (fun u_60 t_60 H_60 locs_60 ht_60 hvm_60 hr_61 hb_60 hz_60 hk_60 hS_60 => ?_)
      rw [ht_60] at hb_60
      obtain ⟨hb_601, hb_602, hb_603, hb_604, hb_605⟩ := hb_60
      have hh_60 : jSt (dC, dI) B base G0 G0 EX14_error s.heap 0 0 [] [] [] H_60 locs_60 := (hh_58.call hb_601 hb_602 hb_603 hb_604 hS_60 rfl (L1 := []) [] rfl rfl (M1 := []) [] rfl rfl (I1 := []) [] rfl rfl).more hb_605
      clear hh_58 ht_60 hvm_60 hz_60 hk_60 hS_60 hb_601 hb_602 hb_603 hb_604 hb_605
      rw [hQ]
      exact W.vret hx hb hr (fun t ht hW => ⟨⟨(), rfl, trivial, hh_60.rt (M1 := []) [] rfl ht⟩, by rw [ht]; try exact hh_60.1.1, fun q h9 hq => by rw [ht]; try exact hh_60.1.2.1 q h9 hq⟩) hh_60.1.2.2 dX14_error_118
  · skip
    have c_14' : a1.toInt = (-32700) := jb_ne_n (rfl) ((by decide)) c_14
    obtain ⟨str_62, rstr_62, hstr_620⟩ := hG.str (o := RX14) (k := 404) (tx := "not json") (List.mem_of_getElem? (i := 2422) (by decide +kernel))
    have hstr_62 : jStr base str_62 8 s s.heap := hstr_620
    refine j_ldcSw hx hb hown rstr_62 dX14_error_31 ?_
    refine lv_goto (tgt := 105) hx hb dX14_error_34 (by decide) ?_
    refine va_callv (A0 := jA base) (H0 := s.heap) (va_runV (As := [.ref str_62]) (rest := []) ⟨hx, hb, hml, hown, hts⟩ (uX14_text l dC dI ca base B hB hAp hB16 hB101 G0 H_12 r0 str_62 8 qf_12) (cwV 1 hts gX14_error_X14_text rfl rfl rfl (by decide +kernel) ⟨by rw [← hR]; exact Nat.le_of_ble_eq_true rfl, by rw [← hR]; exact Nat.le_of_ble_eq_true rfl⟩) ⟨fun a U g mk q => by obtain ⟨q0, q1, q2, qK, q10, q11, q12, q13⟩ := q; exact ⟨q0, q1, q2, jG.calling g mk a qK, (q10.moved (Vm.Alike.refl U.vm)), q11, q12, q13⟩, hh_12.recv (C := RX14) (T := TX14) (N := 74) hB16 rfl (by decide) hg_r0 hK, fun U hU hW => ⟨rfl, hU, hh_12.2.1, hG.step hW hU hh_12.1, (hstr_62.moved hW.alike).kept hh_12.1.2.1, hg_r0, (hh_12.2.2.1.sub (L1 := [(r0, 16, 6, .int qf_12)]) [0] rfl), by first | omega | (refine ⟨?_, ?_, ?_⟩ <;> (first | omega | rfl | assumption | decide | exact Or.inl rfl | exact Or.inr rfl | (simp only; omega)))⟩⟩ rfl rfl hl.1 rfl (lv_room (Nat.le_of_ble_eq_true rfl)) dX14_error_105 ⟨Nat.zero_le _, Nat.zero_le _⟩) hh_12.1 (fun q _ h => h) (fun q h => h) (fun u_63 t_63 H_63 locs_63 ht_63 hvm_63 hr_64 hb_63 hz_63 hk_63 hS_63 => ?_)
    obtain ⟨qf_63, rfl⟩ : ∃ z, z = u_63 := ⟨_, rfl⟩
    rw [ht_63] at hb_63
    obtain ⟨hb_631, hb_632, hb_633, hb_634, hb_635⟩ := hb_63
    have hh_63 : jSt (dC, dI) B base G0 G0 EX14_error s.heap 0 0 [(r0, 16, 6, .int qf_63)] [] [] H_63 locs_63 := (hh_12.call hb_631 hb_632 hb_633 hb_634 hS_63 rfl (L1 := []) [] rfl rfl (M1 := []) [] rfl rfl (I1 := []) [] rfl rfl).more hb_635
    clear hh_12 ht_63 hvm_63 hz_63 hk_63 hS_63 hb_631 hb_632 hb_633 hb_634 hb_635
    obtain ⟨hr_64_0, hr_64_1⟩ := hr_64
    refine lv_aload_n hx hb dX14_error_108 rfl (lv_at hl 0 rfl) ?_
    refine lv_bipush (v := 125) hx hb dX14_error_109 (by decide) ?_
    refine va_callv (A0 := jA base) (H0 := s.heap) (va_runV (As := [.int 125]) (rest := []) ⟨hx, hb, hml, hown, hts⟩ (uX14_put l dC dI ca base B hB hAp hB16 hB101 G0 H_63 r0 125 qf_63) (cwV 1 hts gX14_error_X14_put rfl rfl rfl (by decide +kernel) ⟨by rw [← hR]; exact Nat.le_of_ble_eq_true rfl, by rw [← hR]; exact Nat.le_of_ble_eq_true rfl⟩) ⟨fun a U g mk q => by obtain ⟨q0, q1, q2, qK, q10, q11, q12⟩ := q; exact ⟨q0, q1, q2, jG.calling g mk a qK, q10, q11, q12⟩, hh_63.recv (C := RX14) (T := TX14) (N := 74) hB16 rfl (by decide) hg_r0 hK, fun U hU hW => ⟨rfl, hU, hh_63.2.1, hG.step hW hU hh_63.1, hg_r0, (hh_63.2.2.1.sub (L1 := [(r0, 16, 6, .int qf_63)]) [0] rfl), by first | omega | (refine ⟨?_, ?_⟩ <;> (first | omega | rfl | assumption | decide | exact Or.inl rfl | exact Or.inr rfl | (simp only; omega)))⟩⟩ rfl rfl hl.1 rfl (lv_room (Nat.le_of_ble_eq_true rfl)) dX14_error_111 ⟨Nat.zero_le _, Nat.zero_le _⟩) hh_63.1 (fun q _ h => h) (fun q h => h) (fun u_65 t_65 H_65 locs_65 ht_65 hvm_65 hr_66 hb_65 hz_65 hk_65 hS_65 => ?_)
    obtain ⟨qf_65, rfl⟩ : ∃ z, z = u_65 := ⟨_, rfl⟩
    rw [ht_65] at hb_65
    obtain ⟨hb_651, hb_652, hb_653, hb_654, hb_655⟩ := hb_65
    have hh_65 : jSt (dC, dI) B base G0 G0 EX14_error s.heap 0 0 [(r0, 16, 6, .int qf_65)] [] [] H_65 locs_65 := (hh_63.call hb_651 hb_652 hb_653 hb_654 hS_65 rfl (L1 := []) [] rfl rfl (M1 := []) [] rfl rfl (I1 := []) [] rfl rfl).more hb_655
    clear hh_63 ht_65 hvm_65 hz_65 hk_65 hS_65 hb_651 hb_652 hb_653 hb_654 hb_655
    obtain ⟨hr_66_0, hr_66_1⟩ := hr_66
    refine lv_aload_n hx hb dX14_error_114 rfl (lv_at hl 0 rfl) ?_
    refine va_callv (A0 := jA base) (H0 := s.heap) (va_runV (As := []) (rest := []) ⟨hx, hb, hml, hown, hts⟩ (uX14_endAnswer l dC dI ca base B hB hAp hB16 hB101 G0 H_65 r0) (cwV 0 hts gX14_error_X14_endAnswer rfl rfl rfl (by decide +kernel) ⟨by rw [← hR]; exact Nat.le_of_ble_eq_true rfl, by rw [← hR]; exact Nat.le_of_ble_eq_true rfl⟩) ⟨fun a U g mk q => by obtain ⟨q0, q1, q2, qK, q10, q11, q12⟩ := q; exact ⟨q0, q1, q2, jG.calling g mk a qK, q10, q11, q12⟩, hh_65.recv (C := RX14) (T := TX14) (N := 74) hB16 rfl (by decide) hg_r0 hK, fun U hU hW => ⟨rfl, hU, hh_65.2.1, hG.step hW hU hh_65.1, hg_r0, jP.nil, trivial⟩⟩ rfl rfl hl.1 rfl (lv_room (Nat.le_of_ble_eq_true rfl)) dX14_error_115 ⟨Nat.zero_le _, Nat.zero_le _⟩) hh_65.1 (fun q _ h => h) (fun q h => h) (fun u_67 t_67 H_67 locs_67 ht_67 hvm_67 hr_68 hb_67 hz_67 hk_67 hS_67 => ?_)
    rw [ht_67] at hb_67
    obtain ⟨hb_671, hb_672, hb_673, hb_674, hb_675⟩ := hb_67
    have hh_67 : jSt (dC, dI) B base G0 G0 EX14_error s.heap 0 0 [] [] [] H_67 locs_67 := (hh_65.call hb_671 hb_672 hb_673 hb_674 hS_67 rfl (L1 := []) [] rfl rfl (M1 := []) [] rfl rfl (I1 := []) [] rfl rfl).more hb_675
    clear hh_65 ht_67 hvm_67 hz_67 hk_67 hS_67 hb_671 hb_672 hb_673 hb_674 hb_675
    rw [hQ]
    exact W.vret hx hb hr (fun t ht hW => ⟨⟨(), rfl, trivial, hh_67.rt (M1 := []) [] rfl ht⟩, by rw [ht]; try exact hh_67.1.1, fun q h9 hq => by rw [ht]; try exact hh_67.1.2.1 q h9 hq⟩) hh_67.1.2.2 dX14_error_118
