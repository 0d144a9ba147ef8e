abbrev cX2_isHeader : ByteArray := prog_4_method_3_code
def yX2_isHeader : MethodName := ⟨RX2, "isHeader", "(I)Z"⟩
abbrev cX2_isLineBegin : ByteArray := prog_4_method_4_code
def yX2_isLineBegin : MethodName := ⟨RX2, "isLineBegin", "(I)Z"⟩
def wsX2_isLineBegin_r1 : List Cond := [Cond.fieldLink RX2 15 "ProofServer$Frames" "place" "I", Cond.fieldLink RX2 19 "ProofServer$Frames" "told" "I", Cond.fieldLink RX2 54 "ProofServer$Frames" "signs" "I", Cond.fieldLink RX2 57 "ProofServer$Frames" "isLengthName" "Z", Cond.methodLink RX2 45 yX2_isInName, Cond.instanceMethod yX2_isInName, Cond.selects RX2 yX2_isInName yX2_isInName, Cond.initialized RX2, Cond.code yX2_isInName cX2_isInName 3 (some .boolean), Cond.fieldLink RX2 67 "ProofServer$Frames" "digits" "I", Cond.fieldLink RX2 70 "ProofServer$Frames" "value" "I", Cond.methodLink RX2 62 yJ0_length_8abf5, Cond.instanceMethod yJ0_length_8abf5, Cond.selects RJ0 yJ0_length_8abf5 yJ0_length_8abf5, Cond.initialized RJ0, Cond.code yJ0_length_8abf5 cJ0_length_8abf5 1 (some .int), Cond.fieldLink RJ0 9 "java/lang/String" "value" "[B", Cond.methodLink RJ0 335 yJ0_coder_7d493, Cond.instanceMethod yJ0_coder_7d493, Cond.selects RJ0 yJ0_coder_7d493 yJ0_coder_7d493, Cond.code yJ0_coder_7d493 cJ0_coder_7d493 1 (some .byte), Cond.fieldLink RJ0 38 "java/lang/String" "COMPACT_STRINGS" "Z", Cond.fieldLink RJ0 15 "java/lang/String" "coder" "B", Cond.methodLink RX2 73 yJ0_charAt_5068e]
def wsX2_isLineBegin_r2 : List Cond := [Cond.instanceMethod yJ0_charAt_5068e, Cond.selects RJ0 yJ0_charAt_5068e yJ0_charAt_5068e, Cond.code yJ0_charAt_5068e cJ0_charAt_5068e 2 (some .char), Cond.methodLink RJ0 492 yJ0_isLatin1_aae02, Cond.instanceMethod yJ0_isLatin1_aae02, Cond.selects RJ0 yJ0_isLatin1_aae02 yJ0_isLatin1_aae02, Cond.code yJ0_isLatin1_aae02 cJ0_isLatin1_aae02 1 (some .boolean), Cond.methodLink RJ0 495 yJ1_charAt_3b067, Cond.static yJ1_charAt_3b067, Cond.initialized RJ1, Cond.code yJ1_charAt_3b067 cJ1_charAt_3b067 2 (some .char), Cond.methodLink RJ1 9 yJ0_checkIndex_df160, Cond.static yJ0_checkIndex_df160, Cond.code yJ0_checkIndex_df160 cJ0_checkIndex_df160 2 none, Cond.fieldLink RJ0 1053 "jdk/internal/util/Preconditions" "SIOOBE_FORMATTER" "Ljava/util/function/BiFunction;", Cond.methodLink RJ0 1059 yJ3_checkIndex_8e157, Cond.static yJ3_checkIndex_8e157, Cond.initialized RJ3, Cond.code yJ3_checkIndex_8e157 cJ3_checkIndex_8e157 3 (some .int), Cond.methodLink RJ0 498 yJ2_charAt_3b067, Cond.static yJ2_charAt_3b067, Cond.initialized RJ2, Cond.code yJ2_charAt_3b067 cJ2_charAt_3b067 2 (some .char), Cond.methodLink RJ2 67 yJ2_checkIndex_2214a]
def wsX2_isLineBegin_r3 : List Cond := [Cond.static yJ2_checkIndex_2214a, Cond.code yJ2_checkIndex_2214a cJ2_checkIndex_2214a 2 none, Cond.methodLink RJ2 48 yJ2_length_9d52b, Cond.static yJ2_length_9d52b, Cond.code yJ2_length_9d52b cJ2_length_9d52b 1 (some .int), Cond.methodLink RJ2 414 yJ0_checkIndex_df160, Cond.methodLink RJ2 71 yJ2_getChar_3b067, Cond.static yJ2_getChar_3b067, Cond.code yJ2_getChar_3b067 cJ2_getChar_3b067 2 (some .char), Cond.fieldLink RJ2 44 "java/lang/StringUTF16" "$assertionsDisabled" "Z", Cond.fieldLink RJ2 59 "java/lang/StringUTF16" "HI_BYTE_SHIFT" "I", Cond.fieldLink RJ2 63 "java/lang/StringUTF16" "LO_BYTE_SHIFT" "I"]
def wsX2_isLineBegin : List Cond := .code yX2_isLineBegin cX2_isLineBegin 2 (some .boolean) :: ((wsX2_isLineBegin_r1 ++ (wsX2_isLineBegin_r2 ++ wsX2_isLineBegin_r3)) ++ wsX20)
def wsX2_isHeader_r1 : List Cond := [Cond.fieldLink RX2 15 "ProofServer$Frames" "place" "I", Cond.methodLink RX2 42 yX2_isLineBegin, Cond.instanceMethod yX2_isLineBegin, Cond.selects RX2 yX2_isLineBegin yX2_isLineBegin, Cond.initialized RX2, Cond.code yX2_isLineBegin cX2_isLineBegin 2 (some .boolean), Cond.fieldLink RX2 19 "ProofServer$Frames" "told" "I", Cond.fieldLink RX2 54 "ProofServer$Frames" "signs" "I", Cond.fieldLink RX2 57 "ProofServer$Frames" "isLengthName" "Z", Cond.methodLink RX2 45 yX2_isInName, Cond.instanceMethod yX2_isInName, Cond.selects RX2 yX2_isInName yX2_isInName, Cond.code yX2_isInName cX2_isInName 3 (some .boolean), Cond.fieldLink RX2 67 "ProofServer$Frames" "digits" "I", Cond.fieldLink RX2 70 "ProofServer$Frames" "value" "I", Cond.methodLink RX2 62 yJ0_length_8abf5, Cond.instanceMethod yJ0_length_8abf5, Cond.selects RJ0 yJ0_length_8abf5 yJ0_length_8abf5, Cond.initialized RJ0, Cond.code yJ0_length_8abf5 cJ0_length_8abf5 1 (some .int), Cond.fieldLink RJ0 9 "java/lang/String" "value" "[B", Cond.methodLink RJ0 335 yJ0_coder_7d493, Cond.instanceMethod yJ0_coder_7d493, Cond.selects RJ0 yJ0_coder_7d493 yJ0_coder_7d493]
def wsX2_isHeader_r2 : List Cond := [Cond.code yJ0_coder_7d493 cJ0_coder_7d493 1 (some .byte), Cond.fieldLink RJ0 38 "java/lang/String" "COMPACT_STRINGS" "Z", Cond.fieldLink RJ0 15 "java/lang/String" "coder" "B", Cond.methodLink RX2 73 yJ0_charAt_5068e, Cond.instanceMethod yJ0_charAt_5068e, Cond.selects RJ0 yJ0_charAt_5068e yJ0_charAt_5068e, Cond.code yJ0_charAt_5068e cJ0_charAt_5068e 2 (some .char), Cond.methodLink RJ0 492 yJ0_isLatin1_aae02, Cond.instanceMethod yJ0_isLatin1_aae02, Cond.selects RJ0 yJ0_isLatin1_aae02 yJ0_isLatin1_aae02, Cond.code yJ0_isLatin1_aae02 cJ0_isLatin1_aae02 1 (some .boolean), Cond.methodLink RJ0 495 yJ1_charAt_3b067, Cond.static yJ1_charAt_3b067, Cond.initialized RJ1, Cond.code yJ1_charAt_3b067 cJ1_charAt_3b067 2 (some .char), Cond.methodLink RJ1 9 yJ0_checkIndex_df160, Cond.static yJ0_checkIndex_df160, Cond.code yJ0_checkIndex_df160 cJ0_checkIndex_df160 2 none, Cond.fieldLink RJ0 1053 "jdk/internal/util/Preconditions" "SIOOBE_FORMATTER" "Ljava/util/function/BiFunction;", Cond.methodLink RJ0 1059 yJ3_checkIndex_8e157, Cond.static yJ3_checkIndex_8e157, Cond.initialized RJ3, Cond.code yJ3_checkIndex_8e157 cJ3_checkIndex_8e157 3 (some .int), Cond.methodLink RJ0 498 yJ2_charAt_3b067]
def wsX2_isHeader_r3 : List Cond := [Cond.static yJ2_charAt_3b067, Cond.initialized RJ2, Cond.code yJ2_charAt_3b067 cJ2_charAt_3b067 2 (some .char), Cond.methodLink RJ2 67 yJ2_checkIndex_2214a, Cond.static yJ2_checkIndex_2214a, Cond.code yJ2_checkIndex_2214a cJ2_checkIndex_2214a 2 none, Cond.methodLink RJ2 48 yJ2_length_9d52b, Cond.static yJ2_length_9d52b, Cond.code yJ2_length_9d52b cJ2_length_9d52b 1 (some .int), Cond.methodLink RJ2 414 yJ0_checkIndex_df160, Cond.methodLink RJ2 71 yJ2_getChar_3b067, Cond.static yJ2_getChar_3b067, Cond.code yJ2_getChar_3b067 cJ2_getChar_3b067 2 (some .char), Cond.fieldLink RJ2 44 "java/lang/StringUTF16" "$assertionsDisabled" "Z", Cond.fieldLink RJ2 59 "java/lang/StringUTF16" "HI_BYTE_SHIFT" "I", Cond.fieldLink RJ2 63 "java/lang/StringUTF16" "LO_BYTE_SHIFT" "I", Cond.methodLink RX2 48 yX2_isInValue, Cond.instanceMethod yX2_isInValue, Cond.selects RX2 yX2_isInValue yX2_isInValue, Cond.code yX2_isInValue cX2_isInValue 2 (some .boolean), Cond.methodLink RX2 51 yX2_isInLength, Cond.instanceMethod yX2_isInLength, Cond.selects RX2 yX2_isInLength yX2_isInLength, Cond.code yX2_isInLength cX2_isInLength 2 (some .boolean)]
def wsX2_isHeader : List Cond := .code yX2_isHeader cX2_isHeader 2 (some .boolean) :: ((wsX2_isHeader_r1 ++ (wsX2_isHeader_r2 ++ wsX2_isHeader_r3)) ++ wsX20)
set_option maxRecDepth 20000 in
theorem ggX2_isHeader_X2_isLineBegin : GoodIn wsX2_isHeader wsX2_isLineBegin := goodIn_r _ [6, 1, 7, 8, 9, 10, 11, 12, 5, 13, 14, 15, 16, 17, 18, 19, 20, 21, 22, 23, 24, 25, 26, 27, 28, 29, 30, 31, 32, 33, 34, 35, 36, 37, 38, 39, 40, 41, 42, 43, 44, 45, 46, 47, 48, 49, 50, 51, 52, 53, 54, 55, 56, 57, 58, 59, 60, 61, 62, 63, 64, 73, 74, 75, 76, 77, 78, 79, 80, 81, 82, 83, 84] (by decide +kernel) (by decide +kernel)
set_option maxRecDepth 20000 in
theorem gX2_isHeader_X2_isLineBegin : GoodIn wsX2_isHeader (wsV RX2 42 RX2 yX2_isLineBegin wsX2_isLineBegin) := goodIn_app (goodIn_of _ (by decide +kernel)) ggX2_isHeader_X2_isLineBegin
set_option maxRecDepth 20000 in
theorem ggX2_isHeader_X2_isInName : GoodIn wsX2_isHeader wsX2_isInName := goodIn_r _ [13, 9, 8, 1, 14, 15, 16, 17, 18, 19, 20, 21, 22, 23, 24, 25, 26, 27, 28, 29, 30, 31, 32, 33, 34, 35, 36, 37, 38, 39, 40, 41, 42, 43, 44, 45, 46, 47, 48, 49, 50, 51, 52, 53, 54, 55, 56, 57, 58, 59, 60, 61, 62, 63, 64, 73, 74, 75, 76, 77, 78, 79, 80, 81, 82, 83, 84] (by decide +kernel) (by decide +kernel)
set_option maxRecDepth 20000 in
theorem gX2_isHeader_X2_isInName : GoodIn wsX2_isHeader (wsV RX2 45 RX2 yX2_isInName wsX2_isInName) := goodIn_app (goodIn_of _ (by decide +kernel)) ggX2_isHeader_X2_isInName
set_option maxRecDepth 20000 in
theorem ggX2_isHeader_X2_isInValue : GoodIn wsX2_isHeader wsX2_isInValue := goodIn_r _ [68, 1, 73, 74, 75, 76, 77, 78, 79, 80, 81, 82, 83, 84] (by decide +kernel) (by decide +kernel)
set_option maxRecDepth 20000 in
theorem gX2_isHeader_X2_isInValue : GoodIn wsX2_isHeader (wsV RX2 48 RX2 yX2_isInValue wsX2_isInValue) := goodIn_app (goodIn_of _ (by decide +kernel)) ggX2_isHeader_X2_isInValue
set_option maxRecDepth 20000 in
theorem ggX2_isHeader_X2_isInLength : GoodIn wsX2_isHeader wsX2_isInLength := goodIn_r _ [72, 1, 15, 7, 14, 73, 74, 75, 76, 77, 78, 79, 80, 81, 82, 83, 84] (by decide +kernel) (by decide +kernel)
set_option maxRecDepth 20000 in
theorem gX2_isHeader_X2_isInLength : GoodIn wsX2_isHeader (wsV RX2 51 RX2 yX2_isInLength wsX2_isInLength) := goodIn_app (goodIn_of _ (by decide +kernel)) ggX2_isHeader_X2_isInLength
theorem dX2_isHeader_0 : decode cX2_isHeader 0 = .ok (.aload_n 0, 1) := by decide +kernel
theorem dX2_isHeader_1 : decode cX2_isHeader 1 = .ok (.getfield 15, 3) := by decide +kernel
theorem dX2_isHeader_4 : decode cX2_isHeader 4 = .ok (.tableswitch 77 0 4 #[36, 42, 48, 54, 60], 36) := by decide +kernel
theorem dX2_isHeader_40 : decode cX2_isHeader 40 = .ok (.aload_n 0, 1) := by decide +kernel
theorem dX2_isHeader_41 : decode cX2_isHeader 41 = .ok (.iload_n 1, 1) := by decide +kernel
theorem dX2_isHeader_42 : decode cX2_isHeader 42 = .ok (.invokevirtual 42, 3) := by decide +kernel
theorem dX2_isHeader_45 : decode cX2_isHeader 45 = .ok (.ireturn, 1) := by decide +kernel
theorem dX2_isHeader_46 : decode cX2_isHeader 46 = .ok (.aload_n 0, 1) := by decide +kernel
theorem dX2_isHeader_47 : decode cX2_isHeader 47 = .ok (.iload_n 1, 1) := by decide +kernel
theorem dX2_isHeader_48 : decode cX2_isHeader 48 = .ok (.invokevirtual 45, 3) := by decide +kernel
theorem dX2_isHeader_51 : decode cX2_isHeader 51 = .ok (.ireturn, 1) := by decide +kernel
theorem dX2_isHeader_52 : decode cX2_isHeader 52 = .ok (.aload_n 0, 1) := by decide +kernel
theorem dX2_isHeader_53 : decode cX2_isHeader 53 = .ok (.iload_n 1, 1) := by decide +kernel
theorem dX2_isHeader_54 : decode cX2_isHeader 54 = .ok (.invokevirtual 48, 3) := by decide +kernel
theorem dX2_isHeader_57 : decode cX2_isHeader 57 = .ok (.ireturn, 1) := by decide +kernel
theorem dX2_isHeader_58 : decode cX2_isHeader 58 = .ok (.aload_n 0, 1) := by decide +kernel
theorem dX2_isHeader_59 : decode cX2_isHeader 59 = .ok (.iload_n 1, 1) := by decide +kernel
theorem dX2_isHeader_60 : decode cX2_isHeader 60 = .ok (.invokevirtual 51, 3) := by decide +kernel
theorem dX2_isHeader_63 : decode cX2_isHeader 63 = .ok (.ireturn, 1) := by decide +kernel
theorem dX2_isHeader_64 : decode cX2_isHeader 64 = .ok (.aload_n 0, 1) := by decide +kernel
theorem dX2_isHeader_65 : decode cX2_isHeader 65 = .ok (.iconst 0, 1) := by decide +kernel
theorem dX2_isHeader_66 : decode cX2_isHeader 66 = .ok (.putfield 15, 3) := by decide +kernel
theorem dX2_isHeader_69 : decode cX2_isHeader 69 = .ok (.iload_n 1, 1) := by decide +kernel
theorem dX2_isHeader_70 : decode cX2_isHeader 70 = .ok (.bipush 10, 2) := by decide +kernel
theorem dX2_isHeader_72 : decode cX2_isHeader 72 = .ok (.if_icmp .ne 7, 3) := by decide +kernel
theorem dX2_isHeader_75 : decode cX2_isHeader 75 = .ok (.iconst 1, 1) := by decide +kernel
theorem dX2_isHeader_76 : decode cX2_isHeader 76 = .ok (.goto 4, 3) := by decide +kernel
theorem dX2_isHeader_79 : decode cX2_isHeader 79 = .ok (.iconst 0, 1) := by decide +kernel
theorem dX2_isHeader_80 : decode cX2_isHeader 80 = .ok (.ireturn, 1) := by decide +kernel
theorem dX2_isHeader_81 : decode cX2_isHeader 81 = .ok (.aload_n 0, 1) := by decide +kernel
theorem dX2_isHeader_82 : decode cX2_isHeader 82 = .ok (.bipush 6, 2) := by decide +kernel
theorem dX2_isHeader_84 : decode cX2_isHeader 84 = .ok (.putfield 15, 3) := by decide +kernel
theorem dX2_isHeader_87 : decode cX2_isHeader 87 = .ok (.iload_n 1, 1) := by decide +kernel
theorem dX2_isHeader_88 : decode cX2_isHeader 88 = .ok (.bipush 10, 2) := by decide +kernel
theorem dX2_isHeader_90 : decode cX2_isHeader 90 = .ok (.if_icmp .ne 7, 3) := by decide +kernel
theorem dX2_isHeader_93 : decode cX2_isHeader 93 = .ok (.iconst 1, 1) := by decide +kernel
theorem dX2_isHeader_94 : decode cX2_isHeader 94 = .ok (.goto 4, 3) := by decide +kernel
theorem dX2_isHeader_97 : decode cX2_isHeader 97 = .ok (.iconst 0, 1) := by decide +kernel
theorem dX2_isHeader_98 : decode cX2_isHeader 98 = .ok (.ireturn, 1) := by decide +kernel
set_option maxRecDepth 20000 in
theorem ggX2_isLineBegin_X2_isInName : GoodIn wsX2_isLineBegin wsX2_isInName := goodIn_r _ [9, 4, 3, 1, 10, 11, 12, 13, 14, 15, 16, 17, 18, 19, 20, 21, 22, 23, 24, 25, 26, 27, 28, 29, 30, 31, 32, 33, 34, 35, 36, 37, 38, 39, 40, 41, 42, 43, 44, 45, 46, 47, 48, 49, 50, 51, 52, 53, 54, 55, 56, 57, 58, 59, 60, 61, 62, 63, 64, 65, 66, 67, 68, 69, 70, 71, 72] (by decide +kernel) (by decide +kernel)
set_option maxRecDepth 20000 in
theorem gX2_isLineBegin_X2_isInName : GoodIn wsX2_isLineBegin (wsV RX2 45 RX2 yX2_isInName wsX2_isInName) := goodIn_app (goodIn_of _ (by decide +kernel)) ggX2_isLineBegin_X2_isInName
theorem dX2_isLineBegin_0 : decode cX2_isLineBegin 0 = .ok (.iload_n 1, 1) := by decide +kernel
theorem dX2_isLineBegin_1 : decode cX2_isLineBegin 1 = .ok (.bipush 13, 2) := by decide +kernel
theorem dX2_isLineBegin_3 : decode cX2_isLineBegin 3 = .ok (.if_icmp .ne 21, 3) := by decide +kernel
theorem dX2_isLineBegin_6 : decode cX2_isLineBegin 6 = .ok (.aload_n 0, 1) := by decide +kernel
theorem dX2_isLineBegin_7 : decode cX2_isLineBegin 7 = .ok (.iconst 5, 1) := by decide +kernel
theorem dX2_isLineBegin_8 : decode cX2_isLineBegin 8 = .ok (.putfield 15, 3) := by decide +kernel
theorem dX2_isLineBegin_11 : decode cX2_isLineBegin 11 = .ok (.aload_n 0, 1) := by decide +kernel
theorem dX2_isLineBegin_12 : decode cX2_isLineBegin 12 = .ok (.getfield 19, 3) := by decide +kernel
theorem dX2_isLineBegin_15 : decode cX2_isLineBegin 15 = .ok (.ifCond .lt 7, 3) := by decide +kernel
theorem dX2_isLineBegin_18 : decode cX2_isLineBegin 18 = .ok (.iconst 1, 1) := by decide +kernel
theorem dX2_isLineBegin_19 : decode cX2_isLineBegin 19 = .ok (.goto 4, 3) := by decide +kernel
theorem dX2_isLineBegin_22 : decode cX2_isLineBegin 22 = .ok (.iconst 0, 1) := by decide +kernel
theorem dX2_isLineBegin_23 : decode cX2_isLineBegin 23 = .ok (.ireturn, 1) := by decide +kernel
theorem dX2_isLineBegin_24 : decode cX2_isLineBegin 24 = .ok (.aload_n 0, 1) := by decide +kernel
theorem dX2_isLineBegin_25 : decode cX2_isLineBegin 25 = .ok (.iconst 1, 1) := by decide +kernel
theorem dX2_isLineBegin_26 : decode cX2_isLineBegin 26 = .ok (.putfield 15, 3) := by decide +kernel
theorem dX2_isLineBegin_29 : decode cX2_isLineBegin 29 = .ok (.aload_n 0, 1) := by decide +kernel
theorem dX2_isLineBegin_30 : decode cX2_isLineBegin 30 = .ok (.iconst 0, 1) := by decide +kernel
theorem dX2_isLineBegin_31 : decode cX2_isLineBegin 31 = .ok (.putfield 54, 3) := by decide +kernel
theorem dX2_isLineBegin_34 : decode cX2_isLineBegin 34 = .ok (.aload_n 0, 1) := by decide +kernel
theorem dX2_isLineBegin_35 : decode cX2_isLineBegin 35 = .ok (.iconst 1, 1) := by decide +kernel
theorem dX2_isLineBegin_36 : decode cX2_isLineBegin 36 = .ok (.putfield 57, 3) := by decide +kernel
theorem dX2_isLineBegin_39 : decode cX2_isLineBegin 39 = .ok (.iload_n 1, 1) := by decide +kernel
theorem dX2_isLineBegin_40 : decode cX2_isLineBegin 40 = .ok (.bipush 58, 2) := by decide +kernel
theorem dX2_isLineBegin_42 : decode cX2_isLineBegin 42 = .ok (.if_icmp .eq 15, 3) := by decide +kernel
theorem dX2_isLineBegin_45 : decode cX2_isLineBegin 45 = .ok (.aload_n 0, 1) := by decide +kernel
theorem dX2_isLineBegin_46 : decode cX2_isLineBegin 46 = .ok (.iload_n 1, 1) := by decide +kernel
theorem dX2_isLineBegin_47 : decode cX2_isLineBegin 47 = .ok (.invokevirtual 45, 3) := by decide +kernel
theorem dX2_isLineBegin_50 : decode cX2_isLineBegin 50 = .ok (.ifCond .eq 7, 3) := by decide +kernel
theorem dX2_isLineBegin_53 : decode cX2_isLineBegin 53 = .ok (.iconst 1, 1) := by decide +kernel
theorem dX2_isLineBegin_54 : decode cX2_isLineBegin 54 = .ok (.goto 4, 3) := by decide +kernel
theorem dX2_isLineBegin_57 : decode cX2_isLineBegin 57 = .ok (.iconst 0, 1) := by decide +kernel
theorem dX2_isLineBegin_58 : decode cX2_isLineBegin 58 = .ok (.ireturn, 1) := by decide +kernel
set_option maxHeartbeats 4000000 in
set_option maxRecDepth 20000 in
theorem kX2_isLineBegin (l : Launch) (dC : Nat → ClassId) (dI : Nat → Nat → Nat) (ca : Nat → ClassId) (base : Nat) (H0 : Heap) (h0 bd : Nat) (len kp ms br pl td fl sg il dg vl : Int32) (a1 : Int32) : Met l yX2_isLineBegin wsX2_isLineBegin ({ frames := 5, cells := 0, slots := 0, locals := 200 }) (va_Pc [.ref h0, .int a1] (fun U => U.heap = H0 ∧ va_at (dC, dI) vwCl (h0, .inr (4, [.ref bd, .int len, .int kp, .int ms, .int br, .int pl, .int td, .int fl, .int sg, .int il, .int dg, .int vl])) H0 ∧ jG dC dI ca base U ∧ (base ≤ h0 ∧ (br = 0 ∨ br = 1) ∧ (il = 0 ∨ il = 1) ∧ (0 ≤ sg.toInt ∧ sg.toInt ≤ 1000 ∧ 0 ≤ vl.toInt ∧ vl.toInt ≤ 3000)))) (va_Qi (S := List Value) (fun r u => (r = 0 ∨ r = 1) ∧ ∃ len' kp' ms' br' pl' td' fl' sg' il' dg' vl' : Int32, u = [.ref bd, .int len', .int kp', .int ms', .int br', .int pl', .int td', .int fl', .int sg', .int il', .int dg', .int vl'] ∧ len = len' ∧ kp = kp' ∧ ms = ms' ∧ br = br' ∧ fl = fl' ∧ (il' = 0 ∨ il' = 1) ∧ (td'.toInt = td.toInt ∧ 0 ≤ vl'.toInt ∧ vl'.toInt ≤ 3000 ∧ 0 ≤ sg'.toInt ∧ sg'.toInt ≤ 1000 ∧ (pl'.toInt = 5 ∨ (sg'.toInt ≤ 1 ∧ 1 ≤ pl'.toInt ∧ pl'.toInt ≤ 3)))) (fun u t => va_at (dC, dI) vwCl (h0, .inr (4, u)) t.heap ∧ t.heap.size = H0.size ∧ (∀ q, ¬ q = h0 → t.heap[q]? = H0[q]?)) (jA base)) 0 0 (jA base) := by
  refine Met.ofW (cc := cX2_isLineBegin) (maxL := 2) (ret := (some .boolean)) (by decide) rfl ?_
  intro p e s m args below meth c s₁ B hml hv
  obtain ⟨rfl, hH0, hat_h0, hG, hb0, hbr, hil, hs0, hs1, hv0, hv1⟩ := hv
  have hK := hG.1
  have hx := B.exec
  have hb := B.bytes
  have hr := B.returns
  have hts := atoms_spec (ws := wsX2_isLineBegin) B.pre
  have hown : s.vm.findClass RX2 = some m.cls := findClass_of_methodNamed B.named
  have hlocks := B.notSynchronized
  have hin_4 : ∀ w ∈ u_ws RX2 TX2 12, w ∈ wsX2_isLineBegin := by decide +kernel
  obtain ⟨Q, hQ⟩ : ∃ Q, Q = MQ below (va_Qi (S := List Value) (fun r u => (r = 0 ∨ r = 1) ∧ ∃ len' kp' ms' br' pl' td' fl' sg' il' dg' vl' : Int32, u = [.ref bd, .int len', .int kp', .int ms', .int br', .int pl', .int td', .int fl', .int sg', .int il', .int dg', .int vl'] ∧ len = len' ∧ kp = kp' ∧ ms = ms' ∧ br = br' ∧ fl = fl' ∧ (il' = 0 ∨ il' = 1) ∧ (td'.toInt = td.toInt ∧ 0 ≤ vl'.toInt ∧ vl'.toInt ≤ 3000 ∧ 0 ≤ sg'.toInt ∧ sg'.toInt ≤ 1000 ∧ (pl'.toInt = 5 ∨ (sg'.toInt ≤ 1 ∧ 1 ≤ pl'.toInt ∧ pl'.toInt ≤ 3)))) (fun u t => va_at (dC, dI) vwCl (h0, .inr (4, u)) t.heap ∧ t.heap.size = H0.size ∧ (∀ q, ¬ q = h0 → t.heap[q]? = H0[q]?)) (jA base)) ([.ref h0, .int a1] : List Value).toArray s 0 0 (jA base) := ⟨_, rfl⟩
  rw [← hQ]
  have hl := lv_entry ([.ref h0, .int a1]) (n := 2) (Nat.le_of_ble_eq_true rfl)
  rw [lg_entry_eq]
  generalize (lg_sl ([.ref h0, .int a1]) ++ List.replicate (2 - (lg_sl ([.ref h0, .int a1])).length) Slot.unset).toArray = ls at hl ⊢
  have hl : lv_has ls 2 [(0, .ref h0), (1, .int a1)] := hl
  generalize hR : (headSpec wsX2_isLineBegin ({ frames := 5, cells := 0, slots := 0, locals := 200 })).room = R
  subst hH0
  have hS : va_S (jA base) s.heap s.heap [] := va_S.rf
  obtain ⟨H, eH⟩ : ∃ z, z = s.heap := ⟨_, rfl⟩
  obtain ⟨locs, elocs⟩ : ∃ z : List Loc, z = [] := ⟨_, rfl⟩
  have hsz : H.size = s.heap.size := by rw [eH]
  have hfr : ∀ q, ¬ (fun q => q = h0) q → H[q]? = s.heap[q]? := fun _ _ => by rw [eH]
  have hS : va_S (jA base) s.heap H locs := by rw [eH, elocs]; exact va_S.rf
  rw [← eH] at hat_h0
  rw [← elocs]
  conv => arg 11; rw [← eH]
  have hk0 : (0 : Int32).toInt = 0 := by decide
  have hk1 : (1 : Int32).toInt = 1 := by decide
  have hk5 : (5 : Int32).toInt = 5 := by decide
  have hk13 : (13 : Int32).toInt = 13 := by decide
  have hk58 : (58 : Int32).toInt = 58 := by decide
  refine lv_iload_n hx hb dX2_isLineBegin_0 rfl (lv_at hl 1 rfl) ?_
  refine lv_bipush (v := 13) hx hb dX2_isLineBegin_1 (by decide) ?_
  refine lv_icmp_ne (tgt := 24) hx hb dX2_isLineBegin_3 (by decide) (fun c_1 => ?_) (fun c_1 => ?_)
  · skip
    have c_1' : a1.toInt ≠ 13 := jb_ne (rfl) ((by decide)) c_1
    refine lv_aload_n hx hb dX2_isLineBegin_24 rfl (lv_at hl 0 rfl) ?_
    refine lv_iconst (v := 1) hx hb dX2_isLineBegin_25 (by decide) ?_
    refine j_put (D := (dC, dI)) (ci := 4) (v := .int 1) (ty := .int) (C := RX2) (T := TX2) (N := 12) (A := jA base) hx hb hts hin_4 tyX2 tyX2_ok nmX2 hown hK hat_h0 hb0 hS.2.2 rfl 5 (by decide) (hts (.fieldLink RX2 15 "ProofServer$Frames" "place" "I") (by decide +kernel)) (fun _ h9 => h9) rfl (by decide +kernel) rfl rfl (Nat.le_of_ble_eq_true rfl) dX2_isLineBegin_26 (fun H1 locs1 hat1 hsz1 hfr1 hT1 hL1 => ?_)
    have hfr2 : ∀ q, ¬ (fun q => q = h0) q → H1[q]? = s.heap[q]? := fun q hq => (hfr1 q (fun h => hq (h))).trans (hfr q hq)
    have hsz2 : H1.size = s.heap.size := hsz1.trans hsz
    have hS2 := jS_put hS hsz1 hfr1 hb0 hL1
    try clear hT1
    clear hfr hsz hfr1 hsz1 hL1 hS hat_h0
    have hfr := hfr2
    have hsz := hsz2
    have hS := hS2
    clear hfr2 hsz2 hS2
    generalize locs1 = locs at hS ⊢
    generalize H1 = H at hfr hsz hS hat1 ⊢
    have hat_h0 : va_at (dC, dI) vwCl (h0, .inr (4, [.ref bd, .int len, .int kp, .int ms, .int br, .int 1, .int td, .int fl, .int sg, .int il, .int dg, .int vl])) H := hat1
    refine lv_aload_n hx hb dX2_isLineBegin_29 rfl (lv_at hl 0 rfl) ?_
    refine lv_iconst (v := 0) hx hb dX2_isLineBegin_30 (by decide) ?_
    refine j_put (D := (dC, dI)) (ci := 4) (v := .int 0) (ty := .int) (C := RX2) (T := TX2) (N := 12) (A := jA base) hx hb hts hin_4 tyX2 tyX2_ok nmX2 hown hK hat_h0 hb0 hS.2.2 rfl 8 (by decide) (hts (.fieldLink RX2 54 "ProofServer$Frames" "signs" "I") (by decide +kernel)) (fun _ h9 => h9) rfl (by decide +kernel) rfl rfl (Nat.le_of_ble_eq_true rfl) dX2_isLineBegin_31 (fun H1 locs1 hat1 hsz1 hfr1 hT1 hL1 => ?_)
    have hfr2 : ∀ q, ¬ (fun q => q = h0) q → H1[q]? = s.heap[q]? := fun q hq => (hfr1 q (fun h => hq (h))).trans (hfr q hq)
    have hsz2 : H1.size = s.heap.size := hsz1.trans hsz
    have hS2 := jS_put hS hsz1 hfr1 hb0 hL1
    try clear hT1
    clear hfr hsz hfr1 hsz1 hL1 hS hat_h0
    have hfr := hfr2
    have hsz := hsz2
    have hS := hS2
    clear hfr2 hsz2 hS2
    generalize locs1 = locs at hS ⊢
    generalize H1 = H at hfr hsz hS hat1 ⊢
    have hat_h0 : va_at (dC, dI) vwCl (h0, .inr (4, [.ref bd, .int len, .int kp, .int ms, .int br, .int 1, .int td, .int fl, .int 0, .int il, .int dg, .int vl])) H := hat1
    refine lv_aload_n hx hb dX2_isLineBegin_34 rfl (lv_at hl 0 rfl) ?_
    refine lv_iconst (v := 1) hx hb dX2_isLineBegin_35 (by decide) ?_
    refine j_put (D := (dC, dI)) (ci := 4) (v := .int 1) (ty := .boolean) (C := RX2) (T := TX2) (N := 12) (A := jA base) hx hb hts hin_4 tyX2 tyX2_ok nmX2 hown hK hat_h0 hb0 hS.2.2 rfl 9 (by decide) (hts (.fieldLink RX2 57 "ProofServer$Frames" "isLengthName" "Z") (by decide +kernel)) (fun _ h9 => h9) rfl (by decide +kernel) (jb_nz (Or.inr rfl)) (jb_fz (Or.inr rfl)) (Nat.le_of_ble_eq_true rfl) dX2_isLineBegin_36 (fun H1 locs1 hat1 hsz1 hfr1 hT1 hL1 => ?_)
    have hfr2 : ∀ q, ¬ (fun q => q = h0) q → H1[q]? = s.heap[q]? := fun q hq => (hfr1 q (fun h => hq (h))).trans (hfr q hq)
    have hsz2 : H1.size = s.heap.size := hsz1.trans hsz
    have hS2 := jS_put hS hsz1 hfr1 hb0 hL1
    try clear hT1
    clear hfr hsz hfr1 hsz1 hL1 hS hat_h0
    have hfr := hfr2
    have hsz := hsz2
    have hS := hS2
    clear hfr2 hsz2 hS2
    generalize locs1 = locs at hS ⊢
    generalize H1 = H at hfr hsz hS hat1 ⊢
    have hat_h0 : va_at (dC, dI) vwCl (h0, .inr (4, [.ref bd, .int len, .int kp, .int ms, .int br, .int 1, .int td, .int fl, .int 0, .int 1, .int dg, .int vl])) H := hat1
    refine lv_iload_n hx hb dX2_isLineBegin_39 rfl (lv_at hl 1 rfl) ?_
    refine lv_bipush (v := 58) hx hb dX2_isLineBegin_40 (by decide) ?_
    refine lv_icmp_eq (tgt := 57) hx hb dX2_isLineBegin_42 (by decide) (fun c_2 => ?_) (fun c_2 => ?_)
    · skip
      have c_2' : a1.toInt = 58 := jb_eq (rfl) ((by decide)) c_2
      refine lv_iconst (v := 0) hx hb dX2_isLineBegin_57 (by decide) ?_
      rw [hQ]
      exact W.zret (v := 0) hx hb hr (jb_nz (Or.inl rfl)) (fun t ht hW => ⟨⟨0, [.ref bd, .int len, .int kp, .int ms, .int br, .int 1, .int td, .int fl, .int 0, .int 1, .int dg, .int vl], rfl, ⟨by first | exact Or.inl rfl | exact Or.inr rfl | assumption, len, kp, ms, br, 1, td, fl, 0, 1, dg, vl, rfl, rfl, rfl, rfl, rfl, rfl, (Or.inr rfl), by refine ⟨?_, ?_, ?_, ?_, ?_, ?_⟩ <;> omega⟩, by rw [ht]; exact hat_h0, by rw [ht]; exact hsz, fun q hq => by rw [ht]; exact hfr q hq⟩, by rw [ht, hsz]; exact Nat.le_refl _, fun q _ hq => by rw [ht]; exact hfr q (fun h => hq (by rw [h]; exact hb0))⟩) hS.2.2 dX2_isLineBegin_58
    · skip
      have c_2' : a1.toInt ≠ 58 := jb_eq_n (rfl) ((by decide)) c_2
      refine lv_aload_n hx hb dX2_isLineBegin_45 rfl (lv_at hl 0 rfl) ?_
      refine lv_iload_n hx hb dX2_isLineBegin_46 rfl (lv_at hl 1 rfl) ?_
      refine va_calli (A0 := jA base) (H0 := s.heap) (va_runV (As := [.int a1]) (rest := []) ⟨hx, hb, hml, hown, hts⟩ (kX2_isInName l dC dI ca base H h0 bd len kp ms br 1 td fl 0 1 dg vl a1) (cwV 1 hts gX2_isLineBegin_X2_isInName rfl rfl rfl (by decide +kernel) ⟨by rw [← hR]; exact Nat.le_of_ble_eq_true rfl, by rw [← hR]; exact Nat.le_of_ble_eq_true rfl⟩) ⟨fun a U g mk q => by obtain ⟨q0, q1, q2, qK, q9⟩ := q; exact ⟨q0, q1, q2, jG.calling g mk a qK, q9⟩, va_recv hK (jp_one hat_h0) (ci := 4) (q0 := 0) rfl rfl, fun U hU hW => ⟨rfl, hU, hat_h0, hG.step hW hU hS, ⟨hb0, (hbr), (Or.inr rfl), by first | trivial | omega | (constructor <;> omega) | (refine ⟨?_, ?_, ?_⟩ <;> omega)⟩⟩⟩ rfl rfl hl.1 rfl (lv_room (Nat.le_of_ble_eq_true rfl)) dX2_isLineBegin_47 ⟨Nat.zero_le _, Nat.zero_le _⟩) hS (fun q _ h => h) (fun q h => h) (fun r_3 u t H1 locs1 ht hvm hw hB hz1 hk1 hS1 => ?_)
      obtain ⟨hr_3, len_4, kp_4, ms_4, br_4, pl_4, td_4, fl_4, sg_4, il_4, dg_4, vl_4, rfl, el_4, ek_4, em_4, eb_4, ef_4, hil_4, hq_4⟩ := hw
      obtain ⟨hat1, hsz1, hfr1⟩ := hB
      rw [ht] at hat1 hsz1
      have hfr1 : ∀ q, q ≠ h0 → H1[q]? = H[q]? := fun q hq => by rw [← ht]; exact hfr1 q hq
      have hL1 : ∀ q ∈ locs1, base ≤ q.base := hS1.2.2
      subst el_4 ek_4 em_4 eb_4 ef_4
      clear hS1 hk1 hz1 ht hvm
      have hfr2 : ∀ q, ¬ (fun q => q = h0) q → H1[q]? = s.heap[q]? := fun q hq => (hfr1 q (fun h => hq (h))).trans (hfr q hq)
      have hsz2 : H1.size = s.heap.size := hsz1.trans hsz
      have hS2 := jS_put hS hsz1 hfr1 hb0 hL1
      try clear hT1
      clear hfr hsz hfr1 hsz1 hL1 hS hat_h0
      have hfr := hfr2
      have hsz := hsz2
      have hS := hS2
      clear hfr2 hsz2 hS2
      generalize locs1 = locs at hS ⊢
      generalize H1 = H at hfr hsz hS hat1 ⊢
      have hat_h0 : va_at (dC, dI) vwCl (h0, .inr (4, [.ref bd, .int len, .int kp, .int ms, .int br, .int pl_4, .int td_4, .int fl, .int sg_4, .int il_4, .int dg_4, .int vl_4])) H := hat1
      have hr_3' := jb_01 hr_3
      refine lv_if_eq (tgt := 57) hx hb dX2_isLineBegin_50 (by decide) (fun c_5 => ?_) (fun c_5 => ?_)
      · skip
        have c_5' : r_3.toInt = 0 := jb_eq (rfl) ((by decide)) c_5
        refine lv_iconst (v := 0) hx hb dX2_isLineBegin_57 (by decide) ?_
        rw [hQ]
        exact W.zret (v := 0) hx hb hr (jb_nz (Or.inl rfl)) (fun t ht hW => ⟨⟨0, [.ref bd, .int len, .int kp, .int ms, .int br, .int pl_4, .int td_4, .int fl, .int sg_4, .int il_4, .int dg_4, .int vl_4], rfl, ⟨by first | exact Or.inl rfl | exact Or.inr rfl | assumption, len, kp, ms, br, pl_4, td_4, fl, sg_4, il_4, dg_4, vl_4, rfl, rfl, rfl, rfl, rfl, rfl, (hil_4), by refine ⟨?_, ?_, ?_, ?_, ?_, ?_⟩ <;> omega⟩, by rw [ht]; exact hat_h0, by rw [ht]; exact hsz, fun q hq => by rw [ht]; exact hfr q hq⟩, by rw [ht, hsz]; exact Nat.le_refl _, fun q _ hq => by rw [ht]; exact hfr q (fun h => hq (by rw [h]; exact hb0))⟩) hS.2.2 dX2_isLineBegin_58
      · skip
        have c_5' : r_3.toInt ≠ 0 := jb_eq_n (rfl) ((by decide)) c_5
        refine lv_iconst (v := 1) hx hb dX2_isLineBegin_53 (by decide) ?_
        refine lv_goto (tgt := 58) hx hb dX2_isLineBegin_54 (by decide) ?_
        rw [hQ]
        exact W.zret (v := 1) hx hb hr (jb_nz (Or.inr rfl)) (fun t ht hW => ⟨⟨1, [.ref bd, .int len, .int kp, .int ms, .int br, .int pl_4, .int td_4, .int fl, .int sg_4, .int il_4, .int dg_4, .int vl_4], rfl, ⟨by first | exact Or.inl rfl | exact Or.inr rfl | assumption, len, kp, ms, br, pl_4, td_4, fl, sg_4, il_4, dg_4, vl_4, rfl, rfl, rfl, rfl, rfl, rfl, (hil_4), by refine ⟨?_, ?_, ?_, ?_, ?_, ?_⟩ <;> omega⟩, by rw [ht]; exact hat_h0, by rw [ht]; exact hsz, fun q hq => by rw [ht]; exact hfr q hq⟩, by rw [ht, hsz]; exact Nat.le_refl _, fun q _ hq => by rw [ht]; exact hfr q (fun h => hq (by rw [h]; exact hb0))⟩) hS.2.2 dX2_isLineBegin_58
  · skip
    have c_1' : a1.toInt = 13 := jb_ne_n (rfl) ((by decide)) c_1
    refine lv_aload_n hx hb dX2_isLineBegin_6 rfl (lv_at hl 0 rfl) ?_
    refine lv_iconst (v := 5) hx hb dX2_isLineBegin_7 (by decide) ?_
    refine j_put (D := (dC, dI)) (ci := 4) (v := .int 5) (ty := .int) (C := RX2) (T := TX2) (N := 12) (A := jA base) hx hb hts hin_4 tyX2 tyX2_ok nmX2 hown hK hat_h0 hb0 hS.2.2 rfl 5 (by decide) (hts (.fieldLink RX2 15 "ProofServer$Frames" "place" "I") (by decide +kernel)) (fun _ h9 => h9) rfl (by decide +kernel) rfl rfl (Nat.le_of_ble_eq_true rfl) dX2_isLineBegin_8 (fun H1 locs1 hat1 hsz1 hfr1 hT1 hL1 => ?_)
    have hfr2 : ∀ q, ¬ (fun q => q = h0) q → H1[q]? = s.heap[q]? := fun q hq => (hfr1 q (fun h => hq (h))).trans (hfr q hq)
    have hsz2 : H1.size = s.heap.size := hsz1.trans hsz
    have hS2 := jS_put hS hsz1 hfr1 hb0 hL1
    try clear hT1
    clear hfr hsz hfr1 hsz1 hL1 hS hat_h0
    have hfr := hfr2
    have hsz := hsz2
    have hS := hS2
    clear hfr2 hsz2 hS2
    generalize locs1 = locs at hS ⊢
    generalize H1 = H at hfr hsz hS hat1 ⊢
    have hat_h0 : va_at (dC, dI) vwCl (h0, .inr (4, [.ref bd, .int len, .int kp, .int ms, .int br, .int 5, .int td, .int fl, .int sg, .int il, .int dg, .int vl])) H := hat1
    refine lv_aload_n hx hb dX2_isLineBegin_11 rfl (lv_at hl 0 rfl) ?_
    refine va_get (D := (dC, dI)) (ci := 4) (v := .int td) (C := RX2) (T := TX2) (N := 12) hx hb hts hin_4 hown hK (jp_one hat_h0) 0 rfl rfl 6 (by decide) (hts (.fieldLink RX2 19 "ProofServer$Frames" "told" "I") (by decide +kernel)) (fun _ h9 => h9) rfl dX2_isLineBegin_12 ?_
    refine lv_if_lt (tgt := 22) hx hb dX2_isLineBegin_15 (by decide) (fun c_6 => ?_) (fun c_6 => ?_)
    · skip
      have c_6' : td.toInt < 0 := jb_lt (rfl) ((by decide)) c_6
      refine lv_iconst (v := 0) hx hb dX2_isLineBegin_22 (by decide) ?_
      rw [hQ]
      exact W.zret (v := 0) hx hb hr (jb_nz (Or.inl rfl)) (fun t ht hW => ⟨⟨0, [.ref bd, .int len, .int kp, .int ms, .int br, .int 5, .int td, .int fl, .int sg, .int il, .int dg, .int vl], rfl, ⟨by first | exact Or.inl rfl | exact Or.inr rfl | assumption, len, kp, ms, br, 5, td, fl, sg, il, dg, vl, rfl, rfl, rfl, rfl, rfl, rfl, (hil), by refine ⟨?_, ?_, ?_, ?_, ?_, ?_⟩ <;> omega⟩, by rw [ht]; exact hat_h0, by rw [ht]; exact hsz, fun q hq => by rw [ht]; exact hfr q hq⟩, by rw [ht, hsz]; exact Nat.le_refl _, fun q _ hq => by rw [ht]; exact hfr q (fun h => hq (by rw [h]; exact hb0))⟩) hS.2.2 dX2_isLineBegin_23
    · skip
      have c_6' : td.toInt ≥ 0 := jb_lt_n (rfl) ((by decide)) c_6
      refine lv_iconst (v := 1) hx hb dX2_isLineBegin_18 (by decide) ?_
      refine lv_goto (tgt := 23) hx hb dX2_isLineBegin_19 (by decide) ?_
      rw [hQ]
      exact W.zret (v := 1) hx hb hr (jb_nz (Or.inr rfl)) (fun t ht hW => ⟨⟨1, [.ref bd, .int len, .int kp, .int ms, .int br, .int 5, .int td, .int fl, .int sg, .int il, .int dg, .int vl], rfl, ⟨by first | exact Or.inl rfl | exact Or.inr rfl | assumption, len, kp, ms, br, 5, td, fl, sg, il, dg, vl, rfl, rfl, rfl, rfl, rfl, rfl, (hil), by refine ⟨?_, ?_, ?_, ?_, ?_, ?_⟩ <;> omega⟩, by rw [ht]; exact hat_h0, by rw [ht]; exact hsz, fun q hq => by rw [ht]; exact hfr q hq⟩, by rw [ht, hsz]; exact Nat.le_refl _, fun q _ hq => by rw [ht]; exact hfr q (fun h => hq (by rw [h]; exact hb0))⟩) hS.2.2 dX2_isLineBegin_23
set_option maxHeartbeats 4000000 in
set_option maxRecDepth 20000 in
theorem kX2_isHeader (l : Launch) (dC : Nat → ClassId) (dI : Nat → Nat → Nat) (ca : Nat → ClassId) (base : Nat) (H0 : Heap) (h0 bd : Nat) (len kp ms br pl td fl sg il dg vl : Int32) (a1 : Int32) : Met l yX2_isHeader wsX2_isHeader ({ frames := 6, cells := 0, slots := 0, locals := 240 }) (va_Pc [.ref h0, .int a1] (fun U => U.heap = H0 ∧ va_at (dC, dI) vwCl (h0, .inr (4, [.ref bd, .int len, .int kp, .int ms, .int br, .int pl, .int td, .int fl, .int sg, .int il, .int dg, .int vl])) H0 ∧ jG dC dI ca base U ∧ (base ≤ h0 ∧ (br = 0 ∨ br = 1) ∧ (il = 0 ∨ il = 1) ∧ (0 ≤ sg.toInt ∧ sg.toInt ≤ 1000 ∧ 0 ≤ vl.toInt ∧ vl.toInt ≤ 3000 ∧ -1 ≤ td.toInt ∧ td.toInt ≤ 3000 ∧ (pl.toInt = 1 → sg.toInt ≤ kp.toInt) ∧ 0 ≤ kp.toInt ∧ kp.toInt < 200)))) (va_Qi (S := List Value) (fun r u => (r = 0 ∨ r = 1) ∧ ∃ len' kp' ms' br' pl' td' fl' sg' il' dg' vl' : Int32, u = [.ref bd, .int len', .int kp', .int ms', .int br', .int pl', .int td', .int fl', .int sg', .int il', .int dg', .int vl'] ∧ len = len' ∧ kp = kp' ∧ ms = ms' ∧ br = br' ∧ fl = fl' ∧ (il' = 0 ∨ il' = 1) ∧ (-1 ≤ td'.toInt ∧ td'.toInt ≤ 3000 ∧ 0 ≤ sg'.toInt ∧ sg'.toInt ≤ 1000 ∧ (pl'.toInt = 1 → sg'.toInt ≤ kp.toInt + 1) ∧ 0 ≤ vl'.toInt ∧ (r.toInt = 0 ∨ vl'.toInt ≤ 3000))) (fun u t => va_at (dC, dI) vwCl (h0, .inr (4, u)) t.heap ∧ t.heap.size = H0.size ∧ (∀ q, ¬ q = h0 → t.heap[q]? = H0[q]?)) (jA base)) 0 0 (jA base) := by
  refine Met.ofW (cc := cX2_isHeader) (maxL := 2) (ret := (some .boolean)) (by decide) rfl ?_
  intro p e s m args below meth c s₁ B hml hv
  obtain ⟨rfl, hH0, hat_h0, hG, hb0, hbr, hil, hs0, hs1, hv0, hv1, ht0, ht1, hp1, hk0_, hk1_⟩ := hv
  have hK := hG.1
  have hx := B.exec
  have hb := B.bytes
  have hr := B.returns
  have hts := atoms_spec (ws := wsX2_isHeader) B.pre
  have hown : s.vm.findClass RX2 = some m.cls := findClass_of_methodNamed B.named
  have hlocks := B.notSynchronized
  have hin_4 : ∀ w ∈ u_ws RX2 TX2 12, w ∈ wsX2_isHeader := by decide +kernel
  obtain ⟨Q, hQ⟩ : ∃ Q, Q = MQ below (va_Qi (S := List Value) (fun r u => (r = 0 ∨ r = 1) ∧ ∃ len' kp' ms' br' pl' td' fl' sg' il' dg' vl' : Int32, u = [.ref bd, .int len', .int kp', .int ms', .int br', .int pl', .int td', .int fl', .int sg', .int il', .int dg', .int vl'] ∧ len = len' ∧ kp = kp' ∧ ms = ms' ∧ br = br' ∧ fl = fl' ∧ (il' = 0 ∨ il' = 1) ∧ (-1 ≤ td'.toInt ∧ td'.toInt ≤ 3000 ∧ 0 ≤ sg'.toInt ∧ sg'.toInt ≤ 1000 ∧ (pl'.toInt = 1 → sg'.toInt ≤ kp.toInt + 1) ∧ 0 ≤ vl'.toInt ∧ (r.toInt = 0 ∨ vl'.toInt ≤ 3000))) (fun u t => va_at (dC, dI) vwCl (h0, .inr (4, u)) t.heap ∧ t.heap.size = H0.size ∧ (∀ q, ¬ q = h0 → t.heap[q]? = H0[q]?)) (jA base)) ([.ref h0, .int a1] : List Value).toArray s 0 0 (jA base) := ⟨_, rfl⟩
  rw [← hQ]
  have hl := lv_entry ([.ref h0, .int a1]) (n := 2) (Nat.le_of_ble_eq_true rfl)
  rw [lg_entry_eq]
  generalize (lg_sl ([.ref h0, .int a1]) ++ List.replicate (2 - (lg_sl ([.ref h0, .int a1])).length) Slot.unset).toArray = ls at hl ⊢
  have hl : lv_has ls 2 [(0, .ref h0), (1, .int a1)] := hl
  generalize hR : (headSpec wsX2_isHeader ({ frames := 6, cells := 0, slots := 0, locals := 240 })).room = R
  subst hH0
  have hS : va_S (jA base) s.heap s.heap [] := va_S.rf
  obtain ⟨H, eH⟩ : ∃ z, z = s.heap := ⟨_, rfl⟩
  obtain ⟨locs, elocs⟩ : ∃ z : List Loc, z = [] := ⟨_, rfl⟩
  have hsz : H.size = s.heap.size := by rw [eH]
  have hfr : ∀ q, ¬ (fun q => q = h0) q → H[q]? = s.heap[q]? := fun _ _ => by rw [eH]
  have hS : va_S (jA base) s.heap H locs := by rw [eH, elocs]; exact va_S.rf
  rw [← eH] at hat_h0
  rw [← elocs]
  conv => arg 11; rw [← eH]
  have hk0 : (0 : Int32).toInt = 0 := by decide
  have hk1 : (1 : Int32).toInt = 1 := by decide
  have hk6 : (6 : Int32).toInt = 6 := by decide
  have hk10 : (10 : Int32).toInt = 10 := by decide
  refine lv_aload_n hx hb dX2_isHeader_0 rfl (lv_at hl 0 rfl) ?_
  refine va_get (D := (dC, dI)) (ci := 4) (v := .int pl) (C := RX2) (T := TX2) (N := 12) hx hb hts hin_4 hown hK (jp_one hat_h0) 0 rfl rfl 5 (by decide) (hts (.fieldLink RX2 15 "ProofServer$Frames" "place" "I") (by decide +kernel)) (fun _ h9 => h9) rfl dX2_isHeader_1 ?_
  rcases (by omega : (pl.toInt < 0 ∨ 4 < pl.toInt) ∨ pl.toInt = 0 ∨ pl.toInt = 1 ∨ pl.toInt = 2 ∨ pl.toInt = 3 ∨ pl.toInt = 4) with c_1 | c_1 | c_1 | c_1 | c_1 | c_1
  · refine lv_tableOut (tgt := 81) hx hb dX2_isHeader_4 c_1 (by decide) ?_
    refine lv_aload_n hx hb dX2_isHeader_81 rfl (lv_at hl 0 rfl) ?_
    refine lv_bipush (v := 6) hx hb dX2_isHeader_82 (by decide) ?_
    refine j_put (D := (dC, dI)) (ci := 4) (v := .int 6) (ty := .int) (C := RX2) (T := TX2) (N := 12) (A := jA base) hx hb hts hin_4 tyX2 tyX2_ok nmX2 hown hK hat_h0 hb0 hS.2.2 rfl 5 (by decide) (hts (.fieldLink RX2 15 "ProofServer$Frames" "place" "I") (by decide +kernel)) (fun _ h9 => h9) rfl (by decide +kernel) rfl rfl (Nat.le_of_ble_eq_true rfl) dX2_isHeader_84 (fun H1 locs1 hat1 hsz1 hfr1 hT1 hL1 => ?_)
    have hfr2 : ∀ q, ¬ (fun q => q = h0) q → H1[q]? = s.heap[q]? := fun q hq => (hfr1 q (fun h => hq (h))).trans (hfr q hq)
    have hsz2 : H1.size = s.heap.size := hsz1.trans hsz
    have hS2 := jS_put hS hsz1 hfr1 hb0 hL1
    try clear hT1
    clear hfr hsz hfr1 hsz1 hL1 hS hat_h0
    have hfr := hfr2
    have hsz := hsz2
    have hS := hS2
    clear hfr2 hsz2 hS2
    generalize locs1 = locs at hS ⊢
    generalize H1 = H at hfr hsz hS hat1 ⊢
    have hat_h0 : va_at (dC, dI) vwCl (h0, .inr (4, [.ref bd, .int len, .int kp, .int ms, .int br, .int 6, .int td, .int fl, .int sg, .int il, .int dg, .int vl])) H := hat1
    refine lv_iload_n hx hb dX2_isHeader_87 rfl (lv_at hl 1 rfl) ?_
    refine lv_bipush (v := 10) hx hb dX2_isHeader_88 (by decide) ?_
    refine lv_icmp_ne (tgt := 97) hx hb dX2_isHeader_90 (by decide) (fun c_2 => ?_) (fun c_2 => ?_)
    · skip
      have c_2' : a1.toInt ≠ 10 := jb_ne (rfl) ((by decide)) c_2
      refine lv_iconst (v := 0) hx hb dX2_isHeader_97 (by decide) ?_
      rw [hQ]
      exact W.zret (v := 0) hx hb hr (jb_nz (Or.inl rfl)) (fun t ht hW => ⟨⟨0, [.ref bd, .int len, .int kp, .int ms, .int br, .int 6, .int td, .int fl, .int sg, .int il, .int dg, .int vl], rfl, ⟨by first | exact Or.inl rfl | exact Or.inr rfl | assumption, len, kp, ms, br, 6, td, fl, sg, il, dg, vl, rfl, rfl, rfl, rfl, rfl, rfl, (hil), by refine ⟨?_, ?_, ?_, ?_, ?_, ?_, ?_⟩ <;> omega⟩, by rw [ht]; exact hat_h0, by rw [ht]; exact hsz, fun q hq => by rw [ht]; exact hfr q hq⟩, by rw [ht, hsz]; exact Nat.le_refl _, fun q _ hq => by rw [ht]; exact hfr q (fun h => hq (by rw [h]; exact hb0))⟩) hS.2.2 dX2_isHeader_98
    · skip
      have c_2' : a1.toInt = 10 := jb_ne_n (rfl) ((by decide)) c_2
      refine lv_iconst (v := 1) hx hb dX2_isHeader_93 (by decide) ?_
      refine lv_goto (tgt := 98) hx hb dX2_isHeader_94 (by decide) ?_
      rw [hQ]
      exact W.zret (v := 1) hx hb hr (jb_nz (Or.inr rfl)) (fun t ht hW => ⟨⟨1, [.ref bd, .int len, .int kp, .int ms, .int br, .int 6, .int td, .int fl, .int sg, .int il, .int dg, .int vl], rfl, ⟨by first | exact Or.inl rfl | exact Or.inr rfl | assumption, len, kp, ms, br, 6, td, fl, sg, il, dg, vl, rfl, rfl, rfl, rfl, rfl, rfl, (hil), by refine ⟨?_, ?_, ?_, ?_, ?_, ?_, ?_⟩ <;> omega⟩, by rw [ht]; exact hat_h0, by rw [ht]; exact hsz, fun q hq => by rw [ht]; exact hfr q hq⟩, by rw [ht, hsz]; exact Nat.le_refl _, fun q _ hq => by rw [ht]; exact hfr q (fun h => hq (by rw [h]; exact hb0))⟩) hS.2.2 dX2_isHeader_98
  · refine lv_tableIn (off := 36) (tgt := 40) hx hb dX2_isHeader_4 (by omega) (by omega) (by rw [c_1]; rfl) (by decide) ?_
    refine lv_aload_n hx hb dX2_isHeader_40 rfl (lv_at hl 0 rfl) ?_
    refine lv_iload_n hx hb dX2_isHeader_41 rfl (lv_at hl 1 rfl) ?_
    refine va_calli (A0 := jA base) (H0 := s.heap) (va_runV (As := [.int a1]) (rest := []) ⟨hx, hb, hml, hown, hts⟩ (kX2_isLineBegin l dC dI ca base H h0 bd len kp ms br pl td fl sg il dg vl a1) (cwV 1 hts gX2_isHeader_X2_isLineBegin rfl rfl rfl (by decide +kernel) ⟨by rw [← hR]; exact Nat.le_of_ble_eq_true rfl, by rw [← hR]; exact Nat.le_of_ble_eq_true rfl⟩) ⟨fun a U g mk q => by obtain ⟨q0, q1, q2, qK, q9⟩ := q; exact ⟨q0, q1, q2, jG.calling g mk a qK, q9⟩, va_recv hK (jp_one hat_h0) (ci := 4) (q0 := 0) rfl rfl, fun U hU hW => ⟨rfl, hU, hat_h0, hG.step hW hU hS, ⟨hb0, (hbr), (hil), by first | trivial | omega | (constructor <;> omega) | (refine ⟨?_, ?_, ?_⟩ <;> omega)⟩⟩⟩ rfl rfl hl.1 rfl (lv_room (Nat.le_of_ble_eq_true rfl)) dX2_isHeader_42 ⟨Nat.zero_le _, Nat.zero_le _⟩) hS (fun q _ h => h) (fun q h => h) (fun r_3 u t H1 locs1 ht hvm hw hB hz1 hk1 hS1 => ?_)
    obtain ⟨hr_3, len_4, kp_4, ms_4, br_4, pl_4, td_4, fl_4, sg_4, il_4, dg_4, vl_4, rfl, el_4, ek_4, em_4, eb_4, ef_4, hil_4, hq_4⟩ := hw
    obtain ⟨hat1, hsz1, hfr1⟩ := hB
    rw [ht] at hat1 hsz1
    have hfr1 : ∀ q, q ≠ h0 → H1[q]? = H[q]? := fun q hq => by rw [← ht]; exact hfr1 q hq
    have hL1 : ∀ q ∈ locs1, base ≤ q.base := hS1.2.2
    subst el_4 ek_4 em_4 eb_4 ef_4
    clear hS1 hk1 hz1 ht hvm
    have hfr2 : ∀ q, ¬ (fun q => q = h0) q → H1[q]? = s.heap[q]? := fun q hq => (hfr1 q (fun h => hq (h))).trans (hfr q hq)
    have hsz2 : H1.size = s.heap.size := hsz1.trans hsz
    have hS2 := jS_put hS hsz1 hfr1 hb0 hL1
    try clear hT1
    clear hfr hsz hfr1 hsz1 hL1 hS hat_h0
    have hfr := hfr2
    have hsz := hsz2
    have hS := hS2
    clear hfr2 hsz2 hS2
    generalize locs1 = locs at hS ⊢
    generalize H1 = H at hfr hsz hS hat1 ⊢
    have hat_h0 : va_at (dC, dI) vwCl (h0, .inr (4, [.ref bd, .int len, .int kp, .int ms, .int br, .int pl_4, .int td_4, .int fl, .int sg_4, .int il_4, .int dg_4, .int vl_4])) H := hat1
    have hr_3' := jb_01 hr_3
    rw [hQ]
    exact W.zret (v := r_3) hx hb hr (jb_nz (hr_3)) (fun t ht hW => ⟨⟨r_3, [.ref bd, .int len, .int kp, .int ms, .int br, .int pl_4, .int td_4, .int fl, .int sg_4, .int il_4, .int dg_4, .int vl_4], rfl, ⟨by first | exact Or.inl rfl | exact Or.inr rfl | assumption, len, kp, ms, br, pl_4, td_4, fl, sg_4, il_4, dg_4, vl_4, rfl, rfl, rfl, rfl, rfl, rfl, (hil_4), by refine ⟨?_, ?_, ?_, ?_, ?_, ?_, ?_⟩ <;> omega⟩, by rw [ht]; exact hat_h0, by rw [ht]; exact hsz, fun q hq => by rw [ht]; exact hfr q hq⟩, by rw [ht, hsz]; exact Nat.le_refl _, fun q _ hq => by rw [ht]; exact hfr q (fun h => hq (by rw [h]; exact hb0))⟩) hS.2.2 dX2_isHeader_45
  · refine lv_tableIn (off := 42) (tgt := 46) hx hb dX2_isHeader_4 (by omega) (by omega) (by rw [c_1]; rfl) (by decide) ?_
    refine lv_aload_n hx hb dX2_isHeader_46 rfl (lv_at hl 0 rfl) ?_
    refine lv_iload_n hx hb dX2_isHeader_47 rfl (lv_at hl 1 rfl) ?_
    refine va_calli (A0 := jA base) (H0 := s.heap) (va_runV (As := [.int a1]) (rest := []) ⟨hx, hb, hml, hown, hts⟩ (kX2_isInName l dC dI ca base H h0 bd len kp ms br pl td fl sg il dg vl a1) (cwV 1 hts gX2_isHeader_X2_isInName rfl rfl rfl (by decide +kernel) ⟨by rw [← hR]; exact Nat.le_of_ble_eq_true rfl, by rw [← hR]; exact Nat.le_of_ble_eq_true rfl⟩) ⟨fun a U g mk q => by obtain ⟨q0, q1, q2, qK, q9⟩ := q; exact ⟨q0, q1, q2, jG.calling g mk a qK, q9⟩, va_recv hK (jp_one hat_h0) (ci := 4) (q0 := 0) rfl rfl, fun U hU hW => ⟨rfl, hU, hat_h0, hG.step hW hU hS, ⟨hb0, (hbr), (hil), by first | trivial | omega | (constructor <;> omega) | (refine ⟨?_, ?_, ?_⟩ <;> omega)⟩⟩⟩ rfl rfl hl.1 rfl (lv_room (Nat.le_of_ble_eq_true rfl)) dX2_isHeader_48 ⟨Nat.zero_le _, Nat.zero_le _⟩) hS (fun q _ h => h) (fun q h => h) (fun r_5 u t H1 locs1 ht hvm hw hB hz1 hk1 hS1 => ?_)
    obtain ⟨hr_5, len_6, kp_6, ms_6, br_6, pl_6, td_6, fl_6, sg_6, il_6, dg_6, vl_6, rfl, el_6, ek_6, em_6, eb_6, ef_6, hil_6, hq_6⟩ := hw
    obtain ⟨hat1, hsz1, hfr1⟩ := hB
    rw [ht] at hat1 hsz1
    have hfr1 : ∀ q, q ≠ h0 → H1[q]? = H[q]? := fun q hq => by rw [← ht]; exact hfr1 q hq
    have hL1 : ∀ q ∈ locs1, base ≤ q.base := hS1.2.2
    subst el_6 ek_6 em_6 eb_6 ef_6
    clear hS1 hk1 hz1 ht hvm
    have hfr2 : ∀ q, ¬ (fun q => q = h0) q → H1[q]? = s.heap[q]? := fun q hq => (hfr1 q (fun h => hq (h))).trans (hfr q hq)
    have hsz2 : H1.size = s.heap.size := hsz1.trans hsz
    have hS2 := jS_put hS hsz1 hfr1 hb0 hL1
    try clear hT1
    clear hfr hsz hfr1 hsz1 hL1 hS hat_h0
    have hfr := hfr2
    have hsz := hsz2
    have hS := hS2
    clear hfr2 hsz2 hS2
    generalize locs1 = locs at hS ⊢
    generalize H1 = H at hfr hsz hS hat1 ⊢
    have hat_h0 : va_at (dC, dI) vwCl (h0, .inr (4, [.ref bd, .int len, .int kp, .int ms, .int br, .int pl_6, .int td_6, .int fl, .int sg_6, .int il_6, .int dg_6, .int vl_6])) H := hat1
    have hr_5' := jb_01 hr_5
    rw [hQ]
    exact W.zret (v := r_5) hx hb hr (jb_nz (hr_5)) (fun t ht hW => ⟨⟨r_5, [.ref bd, .int len, .int kp, .int ms, .int br, .int pl_6, .int td_6, .int fl, .int sg_6, .int il_6, .int dg_6, .int vl_6], rfl, ⟨by first | exact Or.inl rfl | exact Or.inr rfl | assumption, len, kp, ms, br, pl_6, td_6, fl, sg_6, il_6, dg_6, vl_6, rfl, rfl, rfl, rfl, rfl, rfl, (hil_6), by refine ⟨?_, ?_, ?_, ?_, ?_, ?_, ?_⟩ <;> omega⟩, by rw [ht]; exact hat_h0, by rw [ht]; exact hsz, fun q hq => by rw [ht]; exact hfr q hq⟩, by rw [ht, hsz]; exact Nat.le_refl _, fun q _ hq => by rw [ht]; exact hfr q (fun h => hq (by rw [h]; exact hb0))⟩) hS.2.2 dX2_isHeader_51
  · refine lv_tableIn (off := 48) (tgt := 52) hx hb dX2_isHeader_4 (by omega) (by omega) (by rw [c_1]; rfl) (by decide) ?_
    refine lv_aload_n hx hb dX2_isHeader_52 rfl (lv_at hl 0 rfl) ?_
    refine lv_iload_n hx hb dX2_isHeader_53 rfl (lv_at hl 1 rfl) ?_
    refine va_calli (A0 := jA base) (H0 := s.heap) (va_runV (As := [.int a1]) (rest := []) ⟨hx, hb, hml, hown, hts⟩ (kX2_isInValue l dC dI ca base H h0 bd len kp ms br pl td fl sg il dg vl a1) (cwV 1 hts gX2_isHeader_X2_isInValue rfl rfl rfl (by decide +kernel) ⟨by rw [← hR]; exact Nat.le_of_ble_eq_true rfl, by rw [← hR]; exact Nat.le_of_ble_eq_true rfl⟩) ⟨fun a U g mk q => by obtain ⟨q0, q1, q2, qK, q9⟩ := q; exact ⟨q0, q1, q2, jG.calling g mk a qK, q9⟩, va_recv hK (jp_one hat_h0) (ci := 4) (q0 := 0) rfl rfl, fun U hU hW => ⟨rfl, hU, hat_h0, hG.step hW hU hS, ⟨hb0, (hbr), (hil), by first | trivial | omega | (constructor <;> omega) | (refine ⟨?_, ?_, ?_⟩ <;> omega)⟩⟩⟩ rfl rfl hl.1 rfl (lv_room (Nat.le_of_ble_eq_true rfl)) dX2_isHeader_54 ⟨Nat.zero_le _, Nat.zero_le _⟩) hS (fun q _ h => h) (fun q h => h) (fun r_7 u t H1 locs1 ht hvm hw hB hz1 hk1 hS1 => ?_)
    obtain ⟨hr_7, len_8, kp_8, ms_8, br_8, pl_8, td_8, fl_8, sg_8, il_8, dg_8, vl_8, rfl, el_8, ek_8, em_8, eb_8, ef_8, hil_8, hq_8⟩ := hw
    obtain ⟨hat1, hsz1, hfr1⟩ := hB
    rw [ht] at hat1 hsz1
    have hfr1 : ∀ q, q ≠ h0 → H1[q]? = H[q]? := fun q hq => by rw [← ht]; exact hfr1 q hq
    have hL1 : ∀ q ∈ locs1, base ≤ q.base := hS1.2.2
    subst el_8 ek_8 em_8 eb_8 ef_8
    clear hS1 hk1 hz1 ht hvm
    have hfr2 : ∀ q, ¬ (fun q => q = h0) q → H1[q]? = s.heap[q]? := fun q hq => (hfr1 q (fun h => hq (h))).trans (hfr q hq)
    have hsz2 : H1.size = s.heap.size := hsz1.trans hsz
    have hS2 := jS_put hS hsz1 hfr1 hb0 hL1
    try clear hT1
    clear hfr hsz hfr1 hsz1 hL1 hS hat_h0
    have hfr := hfr2
    have hsz := hsz2
    have hS := hS2
    clear hfr2 hsz2 hS2
    generalize locs1 = locs at hS ⊢
    generalize H1 = H at hfr hsz hS hat1 ⊢
    have hat_h0 : va_at (dC, dI) vwCl (h0, .inr (4, [.ref bd, .int len, .int kp, .int ms, .int br, .int pl_8, .int td_8, .int fl, .int sg_8, .int il_8, .int dg_8, .int vl_8])) H := hat1
    have hr_7' := jb_01 hr_7
    rw [hQ]
    exact W.zret (v := r_7) hx hb hr (jb_nz (hr_7)) (fun t ht hW => ⟨⟨r_7, [.ref bd, .int len, .int kp, .int ms, .int br, .int pl_8, .int td_8, .int fl, .int sg_8, .int il_8, .int dg_8, .int vl_8], rfl, ⟨by first | exact Or.inl rfl | exact Or.inr rfl | assumption, len, kp, ms, br, pl_8, td_8, fl, sg_8, il_8, dg_8, vl_8, rfl, rfl, rfl, rfl, rfl, rfl, (hil_8), by refine ⟨?_, ?_, ?_, ?_, ?_, ?_, ?_⟩ <;> omega⟩, by rw [ht]; exact hat_h0, by rw [ht]; exact hsz, fun q hq => by rw [ht]; exact hfr q hq⟩, by rw [ht, hsz]; exact Nat.le_refl _, fun q _ hq => by rw [ht]; exact hfr q (fun h => hq (by rw [h]; exact hb0))⟩) hS.2.2 dX2_isHeader_57
  · refine lv_tableIn (off := 54) (tgt := 58) hx hb dX2_isHeader_4 (by omega) (by omega) (by rw [c_1]; rfl) (by decide) ?_
    refine lv_aload_n hx hb dX2_isHeader_58 rfl (lv_at hl 0 rfl) ?_
    refine lv_iload_n hx hb dX2_isHeader_59 rfl (lv_at hl 1 rfl) ?_
    refine va_calli (A0 := jA base) (H0 := s.heap) (va_runV (As := [.int a1]) (rest := []) ⟨hx, hb, hml, hown, hts⟩ (kX2_isInLength l dC dI ca base H h0 bd len kp ms br pl td fl sg il dg vl a1) (cwV 1 hts gX2_isHeader_X2_isInLength rfl rfl rfl (by decide +kernel) ⟨by rw [← hR]; exact Nat.le_of_ble_eq_true rfl, by rw [← hR]; exact Nat.le_of_ble_eq_true rfl⟩) ⟨fun a U g mk q => by obtain ⟨q0, q1, q2, qK, q9⟩ := q; exact ⟨q0, q1, q2, jG.calling g mk a qK, q9⟩, va_recv hK (jp_one hat_h0) (ci := 4) (q0 := 0) rfl rfl, fun U hU hW => ⟨rfl, hU, hat_h0, hG.step hW hU hS, ⟨hb0, (hbr), (hil), by first | trivial | omega | (constructor <;> omega) | (refine ⟨?_, ?_, ?_⟩ <;> omega)⟩⟩⟩ rfl rfl hl.1 rfl (lv_room (Nat.le_of_ble_eq_true rfl)) dX2_isHeader_60 ⟨Nat.zero_le _, Nat.zero_le _⟩) hS (fun q _ h => h) (fun q h => h) (fun r_9 u t H1 locs1 ht hvm hw hB hz1 hk1 hS1 => ?_)
    obtain ⟨hr_9, len_10, kp_10, ms_10, br_10, pl_10, td_10, fl_10, sg_10, il_10, dg_10, vl_10, rfl, el_10, ek_10, em_10, eb_10, ef_10, hil_10, hq_10⟩ := hw
    obtain ⟨hat1, hsz1, hfr1⟩ := hB
    rw [ht] at hat1 hsz1
    have hfr1 : ∀ q, q ≠ h0 → H1[q]? = H[q]? := fun q hq => by rw [← ht]; exact hfr1 q hq
    have hL1 : ∀ q ∈ locs1, base ≤ q.base := hS1.2.2
    subst el_10 ek_10 em_10 eb_10 ef_10
    clear hS1 hk1 hz1 ht hvm
    have hfr2 : ∀ q, ¬ (fun q => q = h0) q → H1[q]? = s.heap[q]? := fun q hq => (hfr1 q (fun h => hq (h))).trans (hfr q hq)
    have hsz2 : H1.size = s.heap.size := hsz1.trans hsz
    have hS2 := jS_put hS hsz1 hfr1 hb0 hL1
    try clear hT1
    clear hfr hsz hfr1 hsz1 hL1 hS hat_h0
    have hfr := hfr2
    have hsz := hsz2
    have hS := hS2
    clear hfr2 hsz2 hS2
    generalize locs1 = locs at hS ⊢
    generalize H1 = H at hfr hsz hS hat1 ⊢
    have hat_h0 : va_at (dC, dI) vwCl (h0, .inr (4, [.ref bd, .int len, .int kp, .int ms, .int br, .int pl_10, .int td_10, .int fl, .int sg_10, .int il_10, .int dg_10, .int vl_10])) H := hat1
    have hr_9' := jb_01 hr_9
    rw [hQ]
    exact W.zret (v := r_9) hx hb hr (jb_nz (hr_9)) (fun t ht hW => ⟨⟨r_9, [.ref bd, .int len, .int kp, .int ms, .int br, .int pl_10, .int td_10, .int fl, .int sg_10, .int il_10, .int dg_10, .int vl_10], rfl, ⟨by first | exact Or.inl rfl | exact Or.inr rfl | assumption, len, kp, ms, br, pl_10, td_10, fl, sg_10, il_10, dg_10, vl_10, rfl, rfl, rfl, rfl, rfl, rfl, (hil_10), by refine ⟨?_, ?_, ?_, ?_, ?_, ?_, ?_⟩ <;> omega⟩, by rw [ht]; exact hat_h0, by rw [ht]; exact hsz, fun q hq => by rw [ht]; exact hfr q hq⟩, by rw [ht, hsz]; exact Nat.le_refl _, fun q _ hq => by rw [ht]; exact hfr q (fun h => hq (by rw [h]; exact hb0))⟩) hS.2.2 dX2_isHeader_63
  · refine lv_tableIn (off := 60) (tgt := 64) hx hb dX2_isHeader_4 (by omega) (by omega) (by rw [c_1]; rfl) (by decide) ?_
    refine lv_aload_n hx hb dX2_isHeader_64 rfl (lv_at hl 0 rfl) ?_
    refine lv_iconst (v := 0) hx hb dX2_isHeader_65 (by decide) ?_
    refine j_put (D := (dC, dI)) (ci := 4) (v := .int 0) (ty := .int) (C := RX2) (T := TX2) (N := 12) (A := jA base) hx hb hts hin_4 tyX2 tyX2_ok nmX2 hown hK hat_h0 hb0 hS.2.2 rfl 5 (by decide) (hts (.fieldLink RX2 15 "ProofServer$Frames" "place" "I") (by decide +kernel)) (fun _ h9 => h9) rfl (by decide +kernel) rfl rfl (Nat.le_of_ble_eq_true rfl) dX2_isHeader_66 (fun H1 locs1 hat1 hsz1 hfr1 hT1 hL1 => ?_)
    have hfr2 : ∀ q, ¬ (fun q => q = h0) q → H1[q]? = s.heap[q]? := fun q hq => (hfr1 q (fun h => hq (h))).trans (hfr q hq)
    have hsz2 : H1.size = s.heap.size := hsz1.trans hsz
    have hS2 := jS_put hS hsz1 hfr1 hb0 hL1
    try clear hT1
    clear hfr hsz hfr1 hsz1 hL1 hS hat_h0
    have hfr := hfr2
    have hsz := hsz2
    have hS := hS2
    clear hfr2 hsz2 hS2
    generalize locs1 = locs at hS ⊢
    generalize H1 = H at hfr hsz hS hat1 ⊢
    have hat_h0 : va_at (dC, dI) vwCl (h0, .inr (4, [.ref bd, .int len, .int kp, .int ms, .int br, .int 0, .int td, .int fl, .int sg, .int il, .int dg, .int vl])) H := hat1
    refine lv_iload_n hx hb dX2_isHeader_69 rfl (lv_at hl 1 rfl) ?_
    refine lv_bipush (v := 10) hx hb dX2_isHeader_70 (by decide) ?_
    refine lv_icmp_ne (tgt := 79) hx hb dX2_isHeader_72 (by decide) (fun c_11 => ?_) (fun c_11 => ?_)
    · skip
      have c_11' : a1.toInt ≠ 10 := jb_ne (rfl) ((by decide)) c_11
      refine lv_iconst (v := 0) hx hb dX2_isHeader_79 (by decide) ?_
      rw [hQ]
      exact W.zret (v := 0) hx hb hr (jb_nz (Or.inl rfl)) (fun t ht hW => ⟨⟨0, [.ref bd, .int len, .int kp, .int ms, .int br, .int 0, .int td, .int fl, .int sg, .int il, .int dg, .int vl], rfl, ⟨by first | exact Or.inl rfl | exact Or.inr rfl | assumption, len, kp, ms, br, 0, td, fl, sg, il, dg, vl, rfl, rfl, rfl, rfl, rfl, rfl, (hil), by refine ⟨?_, ?_, ?_, ?_, ?_, ?_, ?_⟩ <;> omega⟩, by rw [ht]; exact hat_h0, by rw [ht]; exact hsz, fun q hq => by rw [ht]; exact hfr q hq⟩, by rw [ht, hsz]; exact Nat.le_refl _, fun q _ hq => by rw [ht]; exact hfr q (fun h => hq (by rw [h]; exact hb0))⟩) hS.2.2 dX2_isHeader_80
    · skip
      have c_11' : a1.toInt = 10 := jb_ne_n (rfl) ((by decide)) c_11
      refine lv_iconst (v := 1) hx hb dX2_isHeader_75 (by decide) ?_
      refine lv_goto (tgt := 80) hx hb dX2_isHeader_76 (by decide) ?_
      rw [hQ]
      exact W.zret (v := 1) hx hb hr (jb_nz (Or.inr rfl)) (fun t ht hW => ⟨⟨1, [.ref bd, .int len, .int kp, .int ms, .int br, .int 0, .int td, .int fl, .int sg, .int il, .int dg, .int vl], rfl, ⟨by first | exact Or.inl rfl | exact Or.inr rfl | assumption, len, kp, ms, br, 0, td, fl, sg, il, dg, vl, rfl, rfl, rfl, rfl, rfl, rfl, (hil), by refine ⟨?_, ?_, ?_, ?_, ?_, ?_, ?_⟩ <;> omega⟩, by rw [ht]; exact hat_h0, by rw [ht]; exact hsz, fun q hq => by rw [ht]; exact hfr q hq⟩, by rw [ht, hsz]; exact Nat.le_refl _, fun q _ hq => by rw [ht]; exact hfr q (fun h => hq (by rw [h]; exact hb0))⟩) hS.2.2 dX2_isHeader_80
