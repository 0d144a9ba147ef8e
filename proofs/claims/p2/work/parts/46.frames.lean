abbrev wsX20 : List Cond := u_ws RX2 TX2 12
abbrev cX2_isInName : ByteArray := prog_4_method_5_code
def yX2_isInName : MethodName := ⟨RX2, "isInName", "(I)Z"⟩
abbrev cX2_isInValue : ByteArray := prog_4_method_6_code
def yX2_isInValue : MethodName := ⟨RX2, "isInValue", "(I)Z"⟩
abbrev cX2_isInLength : ByteArray := prog_4_method_7_code
def yX2_isInLength : MethodName := ⟨RX2, "isInLength", "(I)Z"⟩
def wsX2_isInName_r1 : List Cond := [Cond.fieldLink RX2 57 "ProofServer$Frames" "isLengthName" "Z", Cond.fieldLink RX2 54 "ProofServer$Frames" "signs" "I", Cond.fieldLink RX2 15 "ProofServer$Frames" "place" "I", Cond.fieldLink RX2 67 "ProofServer$Frames" "digits" "I", Cond.fieldLink RX2 70 "ProofServer$Frames" "value" "I", Cond.methodLink RX2 62 yJ0_length_8abf5, Cond.instanceMethod yJ0_length_8abf5, Cond.selects RJ0 yJ0_length_8abf5 yJ0_length_8abf5, Cond.initialized RJ0, Cond.code yJ0_length_8abf5 cJ0_length_8abf5 1 (some .int), Cond.fieldLink RJ0 9 "java/lang/String" "value" "[B", Cond.methodLink RJ0 335 yJ0_coder_7d493, Cond.instanceMethod yJ0_coder_7d493, Cond.selects RJ0 yJ0_coder_7d493 yJ0_coder_7d493, Cond.code yJ0_coder_7d493 cJ0_coder_7d493 1 (some .byte), Cond.fieldLink RJ0 38 "java/lang/String" "COMPACT_STRINGS" "Z", Cond.fieldLink RJ0 15 "java/lang/String" "coder" "B", Cond.methodLink RX2 73 yJ0_charAt_5068e, Cond.instanceMethod yJ0_charAt_5068e, Cond.selects RJ0 yJ0_charAt_5068e yJ0_charAt_5068e, Cond.code yJ0_charAt_5068e cJ0_charAt_5068e 2 (some .char), Cond.methodLink RJ0 492 yJ0_isLatin1_aae02, Cond.instanceMethod yJ0_isLatin1_aae02, Cond.selects RJ0 yJ0_isLatin1_aae02 yJ0_isLatin1_aae02]
def wsX2_isInName_r2 : List Cond := [Cond.code yJ0_isLatin1_aae02 cJ0_isLatin1_aae02 1 (some .boolean), Cond.methodLink RJ0 495 yJ1_charAt_3b067, Cond.static yJ1_charAt_3b067, Cond.initialized RJ1, Cond.code yJ1_charAt_3b067 cJ1_charAt_3b067 2 (some .char), Cond.methodLink RJ1 9 yJ0_checkIndex_df160, Cond.static yJ0_checkIndex_df160, Cond.code yJ0_checkIndex_df160 cJ0_checkIndex_df160 2 none, Cond.fieldLink RJ0 1053 "jdk/internal/util/Preconditions" "SIOOBE_FORMATTER" "Ljava/util/function/BiFunction;", Cond.methodLink RJ0 1059 yJ3_checkIndex_8e157, Cond.static yJ3_checkIndex_8e157, Cond.initialized RJ3, Cond.code yJ3_checkIndex_8e157 cJ3_checkIndex_8e157 3 (some .int), Cond.methodLink RJ0 498 yJ2_charAt_3b067, Cond.static yJ2_charAt_3b067, Cond.initialized RJ2, Cond.code yJ2_charAt_3b067 cJ2_charAt_3b067 2 (some .char), Cond.methodLink RJ2 67 yJ2_checkIndex_2214a, Cond.static yJ2_checkIndex_2214a, Cond.code yJ2_checkIndex_2214a cJ2_checkIndex_2214a 2 none, Cond.methodLink RJ2 48 yJ2_length_9d52b, Cond.static yJ2_length_9d52b, Cond.code yJ2_length_9d52b cJ2_length_9d52b 1 (some .int), Cond.methodLink RJ2 414 yJ0_checkIndex_df160]
def wsX2_isInName_r3 : List Cond := [Cond.methodLink RJ2 71 yJ2_getChar_3b067, Cond.static yJ2_getChar_3b067, Cond.code yJ2_getChar_3b067 cJ2_getChar_3b067 2 (some .char), Cond.fieldLink RJ2 44 "java/lang/StringUTF16" "$assertionsDisabled" "Z", Cond.fieldLink RJ2 59 "java/lang/StringUTF16" "HI_BYTE_SHIFT" "I", Cond.fieldLink RJ2 63 "java/lang/StringUTF16" "LO_BYTE_SHIFT" "I"]
def wsX2_isInName : List Cond := .code yX2_isInName cX2_isInName 3 (some .boolean) :: ((wsX2_isInName_r1 ++ (wsX2_isInName_r2 ++ wsX2_isInName_r3)) ++ wsX20)
def wsX2_isInValue : List Cond := .code yX2_isInValue cX2_isInValue 2 (some .boolean) :: ([.fieldLink RX2 15 "ProofServer$Frames" "place" "I"] ++ wsX20)
def wsX2_isInLength : List Cond := .code yX2_isInLength cX2_isInLength 2 (some .boolean) :: ([.fieldLink RX2 15 "ProofServer$Frames" "place" "I", .fieldLink RX2 70 "ProofServer$Frames" "value" "I", .fieldLink RX2 19 "ProofServer$Frames" "told" "I", .fieldLink RX2 67 "ProofServer$Frames" "digits" "I"] ++ wsX20)
set_option maxRecDepth 20000 in
theorem ggX2_isInName_J0_length_8abf5 : GoodIn wsX2_isInName wsJ0_length_8abf5 := goodIn_r _ [10, 11, 12, 13, 14, 9, 15, 16, 17] (by decide +kernel) (by decide +kernel)
set_option maxRecDepth 20000 in
theorem gX2_isInName_J0_length_8abf5 : GoodIn wsX2_isInName (wsV RX2 62 RJ0 yJ0_length_8abf5 wsJ0_length_8abf5) := goodIn_app (goodIn_of _ (by decide +kernel)) ggX2_isInName_J0_length_8abf5
set_option maxRecDepth 20000 in
theorem ggX2_isInName_J0_charAt_5068e : GoodIn wsX2_isInName wsJ0_charAt_5068e := goodIn_r _ [21, 11, 22, 23, 24, 9, 25, 16, 17, 26, 27, 28, 29, 30, 31, 32, 33, 34, 35, 36, 37, 38, 39, 40, 41, 42, 43, 44, 45, 46, 47, 48, 49, 50, 51, 52, 53, 54] (by decide +kernel) (by decide +kernel)
set_option maxRecDepth 20000 in
theorem gX2_isInName_J0_charAt_5068e : GoodIn wsX2_isInName (wsV RX2 73 RJ0 yJ0_charAt_5068e wsJ0_charAt_5068e) := goodIn_app (goodIn_of _ (by decide +kernel)) ggX2_isInName_J0_charAt_5068e
theorem dX2_isInName_0 : decode cX2_isInName 0 = .ok (.iload_n 1, 1) := by decide +kernel
theorem dX2_isInName_1 : decode cX2_isInName 1 = .ok (.bipush 58, 2) := by decide +kernel
theorem dX2_isInName_3 : decode cX2_isInName 3 = .ok (.if_icmp .ne 43, 3) := by decide +kernel
theorem dX2_isInName_6 : decode cX2_isInName 6 = .ok (.aload_n 0, 1) := by decide +kernel
theorem dX2_isInName_7 : decode cX2_isInName 7 = .ok (.aload_n 0, 1) := by decide +kernel
theorem dX2_isInName_8 : decode cX2_isInName 8 = .ok (.getfield 57, 3) := by decide +kernel
theorem dX2_isInName_11 : decode cX2_isInName 11 = .ok (.ifCond .eq 19, 3) := by decide +kernel
theorem dX2_isInName_14 : decode cX2_isInName 14 = .ok (.aload_n 0, 1) := by decide +kernel
theorem dX2_isInName_15 : decode cX2_isInName 15 = .ok (.getfield 54, 3) := by decide +kernel
theorem dX2_isInName_18 : decode cX2_isInName 18 = .ok (.ldc 60, 2) := by decide +kernel
theorem dX2_isInName_20 : decode cX2_isInName 20 = .ok (.invokevirtual 62, 3) := by decide +kernel
theorem dX2_isInName_23 : decode cX2_isInName 23 = .ok (.if_icmp .ne 7, 3) := by decide +kernel
theorem dX2_isInName_26 : decode cX2_isInName 26 = .ok (.iconst 3, 1) := by decide +kernel
theorem dX2_isInName_27 : decode cX2_isInName 27 = .ok (.goto 4, 3) := by decide +kernel
theorem dX2_isInName_30 : decode cX2_isInName 30 = .ok (.iconst 2, 1) := by decide +kernel
theorem dX2_isInName_31 : decode cX2_isInName 31 = .ok (.putfield 15, 3) := by decide +kernel
theorem dX2_isInName_34 : decode cX2_isInName 34 = .ok (.aload_n 0, 1) := by decide +kernel
theorem dX2_isInName_35 : decode cX2_isInName 35 = .ok (.iconst 0, 1) := by decide +kernel
theorem dX2_isInName_36 : decode cX2_isInName 36 = .ok (.putfield 67, 3) := by decide +kernel
theorem dX2_isInName_39 : decode cX2_isInName 39 = .ok (.aload_n 0, 1) := by decide +kernel
theorem dX2_isInName_40 : decode cX2_isInName 40 = .ok (.iconst 0, 1) := by decide +kernel
theorem dX2_isInName_41 : decode cX2_isInName 41 = .ok (.putfield 70, 3) := by decide +kernel
theorem dX2_isInName_44 : decode cX2_isInName 44 = .ok (.iconst 1, 1) := by decide +kernel
theorem dX2_isInName_45 : decode cX2_isInName 45 = .ok (.ireturn, 1) := by decide +kernel
theorem dX2_isInName_46 : decode cX2_isInName 46 = .ok (.iload_n 1, 1) := by decide +kernel
theorem dX2_isInName_47 : decode cX2_isInName 47 = .ok (.bipush 65, 2) := by decide +kernel
theorem dX2_isInName_49 : decode cX2_isInName 49 = .ok (.if_icmp .lt 16, 3) := by decide +kernel
theorem dX2_isInName_52 : decode cX2_isInName 52 = .ok (.iload_n 1, 1) := by decide +kernel
theorem dX2_isInName_53 : decode cX2_isInName 53 = .ok (.bipush 90, 2) := by decide +kernel
theorem dX2_isInName_55 : decode cX2_isInName 55 = .ok (.if_icmp .gt 10, 3) := by decide +kernel
theorem dX2_isInName_58 : decode cX2_isInName 58 = .ok (.iload_n 1, 1) := by decide +kernel
theorem dX2_isInName_59 : decode cX2_isInName 59 = .ok (.bipush 32, 2) := by decide +kernel
theorem dX2_isInName_61 : decode cX2_isInName 61 = .ok (.iadd, 1) := by decide +kernel
theorem dX2_isInName_62 : decode cX2_isInName 62 = .ok (.goto 4, 3) := by decide +kernel
theorem dX2_isInName_65 : decode cX2_isInName 65 = .ok (.iload_n 1, 1) := by decide +kernel
theorem dX2_isInName_66 : decode cX2_isInName 66 = .ok (.istore_n 2, 1) := by decide +kernel
theorem dX2_isInName_67 : decode cX2_isInName 67 = .ok (.aload_n 0, 1) := by decide +kernel
theorem dX2_isInName_68 : decode cX2_isInName 68 = .ok (.aload_n 0, 1) := by decide +kernel
theorem dX2_isInName_69 : decode cX2_isInName 69 = .ok (.getfield 57, 3) := by decide +kernel
theorem dX2_isInName_72 : decode cX2_isInName 72 = .ok (.ifCond .eq 32, 3) := by decide +kernel
theorem dX2_isInName_75 : decode cX2_isInName 75 = .ok (.aload_n 0, 1) := by decide +kernel
theorem dX2_isInName_76 : decode cX2_isInName 76 = .ok (.getfield 54, 3) := by decide +kernel
theorem dX2_isInName_79 : decode cX2_isInName 79 = .ok (.ldc 60, 2) := by decide +kernel
theorem dX2_isInName_81 : decode cX2_isInName 81 = .ok (.invokevirtual 62, 3) := by decide +kernel
theorem dX2_isInName_84 : decode cX2_isInName 84 = .ok (.if_icmp .ge 20, 3) := by decide +kernel
theorem dX2_isInName_87 : decode cX2_isInName 87 = .ok (.ldc 60, 2) := by decide +kernel
theorem dX2_isInName_89 : decode cX2_isInName 89 = .ok (.aload_n 0, 1) := by decide +kernel
theorem dX2_isInName_90 : decode cX2_isInName 90 = .ok (.getfield 54, 3) := by decide +kernel
theorem dX2_isInName_93 : decode cX2_isInName 93 = .ok (.invokevirtual 73, 3) := by decide +kernel
theorem dX2_isInName_96 : decode cX2_isInName 96 = .ok (.iload_n 2, 1) := by decide +kernel
theorem dX2_isInName_97 : decode cX2_isInName 97 = .ok (.if_icmp .ne 7, 3) := by decide +kernel
theorem dX2_isInName_100 : decode cX2_isInName 100 = .ok (.iconst 1, 1) := by decide +kernel
theorem dX2_isInName_101 : decode cX2_isInName 101 = .ok (.goto 4, 3) := by decide +kernel
theorem dX2_isInName_104 : decode cX2_isInName 104 = .ok (.iconst 0, 1) := by decide +kernel
theorem dX2_isInName_105 : decode cX2_isInName 105 = .ok (.putfield 57, 3) := by decide +kernel
theorem dX2_isInName_108 : decode cX2_isInName 108 = .ok (.aload_n 0, 1) := by decide +kernel
theorem dX2_isInName_109 : decode cX2_isInName 109 = .ok (.dup, 1) := by decide +kernel
theorem dX2_isInName_110 : decode cX2_isInName 110 = .ok (.getfield 54, 3) := by decide +kernel
theorem dX2_isInName_113 : decode cX2_isInName 113 = .ok (.iconst 1, 1) := by decide +kernel
theorem dX2_isInName_114 : decode cX2_isInName 114 = .ok (.iadd, 1) := by decide +kernel
theorem dX2_isInName_115 : decode cX2_isInName 115 = .ok (.putfield 54, 3) := by decide +kernel
theorem dX2_isInName_118 : decode cX2_isInName 118 = .ok (.iload_n 2, 1) := by decide +kernel
theorem dX2_isInName_119 : decode cX2_isInName 119 = .ok (.bipush 45, 2) := by decide +kernel
theorem dX2_isInName_121 : decode cX2_isInName 121 = .ok (.if_icmp .eq 15, 3) := by decide +kernel
theorem dX2_isInName_124 : decode cX2_isInName 124 = .ok (.iload_n 2, 1) := by decide +kernel
theorem dX2_isInName_125 : decode cX2_isInName 125 = .ok (.bipush 97, 2) := by decide +kernel
theorem dX2_isInName_127 : decode cX2_isInName 127 = .ok (.if_icmp .lt 13, 3) := by decide +kernel
theorem dX2_isInName_130 : decode cX2_isInName 130 = .ok (.iload_n 2, 1) := by decide +kernel
theorem dX2_isInName_131 : decode cX2_isInName 131 = .ok (.bipush 122, 2) := by decide +kernel
theorem dX2_isInName_133 : decode cX2_isInName 133 = .ok (.if_icmp .gt 7, 3) := by decide +kernel
theorem dX2_isInName_136 : decode cX2_isInName 136 = .ok (.iconst 1, 1) := by decide +kernel
theorem dX2_isInName_137 : decode cX2_isInName 137 = .ok (.goto 4, 3) := by decide +kernel
theorem dX2_isInName_140 : decode cX2_isInName 140 = .ok (.iconst 0, 1) := by decide +kernel
theorem dX2_isInName_141 : decode cX2_isInName 141 = .ok (.ireturn, 1) := by decide +kernel
theorem dX2_isInValue_0 : decode cX2_isInValue 0 = .ok (.iload_n 1, 1) := by decide +kernel
theorem dX2_isInValue_1 : decode cX2_isInValue 1 = .ok (.bipush 13, 2) := by decide +kernel
theorem dX2_isInValue_3 : decode cX2_isInValue 3 = .ok (.if_icmp .ne 10, 3) := by decide +kernel
theorem dX2_isInValue_6 : decode cX2_isInValue 6 = .ok (.aload_n 0, 1) := by decide +kernel
theorem dX2_isInValue_7 : decode cX2_isInValue 7 = .ok (.iconst 4, 1) := by decide +kernel
theorem dX2_isInValue_8 : decode cX2_isInValue 8 = .ok (.putfield 15, 3) := by decide +kernel
theorem dX2_isInValue_11 : decode cX2_isInValue 11 = .ok (.iconst 1, 1) := by decide +kernel
theorem dX2_isInValue_12 : decode cX2_isInValue 12 = .ok (.ireturn, 1) := by decide +kernel
theorem dX2_isInValue_13 : decode cX2_isInValue 13 = .ok (.iload_n 1, 1) := by decide +kernel
theorem dX2_isInValue_14 : decode cX2_isInValue 14 = .ok (.bipush 32, 2) := by decide +kernel
theorem dX2_isInValue_16 : decode cX2_isInValue 16 = .ok (.if_icmp .lt 13, 3) := by decide +kernel
theorem dX2_isInValue_19 : decode cX2_isInValue 19 = .ok (.iload_n 1, 1) := by decide +kernel
theorem dX2_isInValue_20 : decode cX2_isInValue 20 = .ok (.bipush 126, 2) := by decide +kernel
theorem dX2_isInValue_22 : decode cX2_isInValue 22 = .ok (.if_icmp .gt 7, 3) := by decide +kernel
theorem dX2_isInValue_25 : decode cX2_isInValue 25 = .ok (.iconst 1, 1) := by decide +kernel
theorem dX2_isInValue_26 : decode cX2_isInValue 26 = .ok (.goto 4, 3) := by decide +kernel
theorem dX2_isInValue_29 : decode cX2_isInValue 29 = .ok (.iconst 0, 1) := by decide +kernel
theorem dX2_isInValue_30 : decode cX2_isInValue 30 = .ok (.ireturn, 1) := by decide +kernel
theorem dX2_isInLength_0 : decode cX2_isInLength 0 = .ok (.iload_n 1, 1) := by decide +kernel
theorem dX2_isInLength_1 : decode cX2_isInLength 1 = .ok (.bipush 13, 2) := by decide +kernel
theorem dX2_isInLength_3 : decode cX2_isInLength 3 = .ok (.if_icmp .ne 29, 3) := by decide +kernel
theorem dX2_isInLength_6 : decode cX2_isInLength 6 = .ok (.aload_n 0, 1) := by decide +kernel
theorem dX2_isInLength_7 : decode cX2_isInLength 7 = .ok (.iconst 4, 1) := by decide +kernel
theorem dX2_isInLength_8 : decode cX2_isInLength 8 = .ok (.putfield 15, 3) := by decide +kernel
theorem dX2_isInLength_11 : decode cX2_isInLength 11 = .ok (.aload_n 0, 1) := by decide +kernel
theorem dX2_isInLength_12 : decode cX2_isInLength 12 = .ok (.aload_n 0, 1) := by decide +kernel
theorem dX2_isInLength_13 : decode cX2_isInLength 13 = .ok (.getfield 70, 3) := by decide +kernel
theorem dX2_isInLength_16 : decode cX2_isInLength 16 = .ok (.putfield 19, 3) := by decide +kernel
theorem dX2_isInLength_19 : decode cX2_isInLength 19 = .ok (.aload_n 0, 1) := by decide +kernel
theorem dX2_isInLength_20 : decode cX2_isInLength 20 = .ok (.getfield 67, 3) := by decide +kernel
theorem dX2_isInLength_23 : decode cX2_isInLength 23 = .ok (.ifCond .le 7, 3) := by decide +kernel
theorem dX2_isInLength_26 : decode cX2_isInLength 26 = .ok (.iconst 1, 1) := by decide +kernel
theorem dX2_isInLength_27 : decode cX2_isInLength 27 = .ok (.goto 4, 3) := by decide +kernel
theorem dX2_isInLength_30 : decode cX2_isInLength 30 = .ok (.iconst 0, 1) := by decide +kernel
theorem dX2_isInLength_31 : decode cX2_isInLength 31 = .ok (.ireturn, 1) := by decide +kernel
theorem dX2_isInLength_32 : decode cX2_isInLength 32 = .ok (.iload_n 1, 1) := by decide +kernel
theorem dX2_isInLength_33 : decode cX2_isInLength 33 = .ok (.bipush 48, 2) := by decide +kernel
theorem dX2_isInLength_35 : decode cX2_isInLength 35 = .ok (.if_icmp .lt 9, 3) := by decide +kernel
theorem dX2_isInLength_38 : decode cX2_isInLength 38 = .ok (.iload_n 1, 1) := by decide +kernel
theorem dX2_isInLength_39 : decode cX2_isInLength 39 = .ok (.bipush 57, 2) := by decide +kernel
theorem dX2_isInLength_41 : decode cX2_isInLength 41 = .ok (.if_icmp .le 22, 3) := by decide +kernel
theorem dX2_isInLength_44 : decode cX2_isInLength 44 = .ok (.iload_n 1, 1) := by decide +kernel
theorem dX2_isInLength_45 : decode cX2_isInLength 45 = .ok (.bipush 32, 2) := by decide +kernel
theorem dX2_isInLength_47 : decode cX2_isInLength 47 = .ok (.if_icmp .ne 14, 3) := by decide +kernel
theorem dX2_isInLength_50 : decode cX2_isInLength 50 = .ok (.aload_n 0, 1) := by decide +kernel
theorem dX2_isInLength_51 : decode cX2_isInLength 51 = .ok (.getfield 67, 3) := by decide +kernel
theorem dX2_isInLength_54 : decode cX2_isInLength 54 = .ok (.ifCond .ne 7, 3) := by decide +kernel
theorem dX2_isInLength_57 : decode cX2_isInLength 57 = .ok (.iconst 1, 1) := by decide +kernel
theorem dX2_isInLength_58 : decode cX2_isInLength 58 = .ok (.goto 4, 3) := by decide +kernel
theorem dX2_isInLength_61 : decode cX2_isInLength 61 = .ok (.iconst 0, 1) := by decide +kernel
theorem dX2_isInLength_62 : decode cX2_isInLength 62 = .ok (.ireturn, 1) := by decide +kernel
theorem dX2_isInLength_63 : decode cX2_isInLength 63 = .ok (.aload_n 0, 1) := by decide +kernel
theorem dX2_isInLength_64 : decode cX2_isInLength 64 = .ok (.dup, 1) := by decide +kernel
theorem dX2_isInLength_65 : decode cX2_isInLength 65 = .ok (.getfield 67, 3) := by decide +kernel
theorem dX2_isInLength_68 : decode cX2_isInLength 68 = .ok (.iconst 1, 1) := by decide +kernel
theorem dX2_isInLength_69 : decode cX2_isInLength 69 = .ok (.iadd, 1) := by decide +kernel
theorem dX2_isInLength_70 : decode cX2_isInLength 70 = .ok (.putfield 67, 3) := by decide +kernel
theorem dX2_isInLength_73 : decode cX2_isInLength 73 = .ok (.aload_n 0, 1) := by decide +kernel
theorem dX2_isInLength_74 : decode cX2_isInLength 74 = .ok (.aload_n 0, 1) := by decide +kernel
theorem dX2_isInLength_75 : decode cX2_isInLength 75 = .ok (.getfield 70, 3) := by decide +kernel
theorem dX2_isInLength_78 : decode cX2_isInLength 78 = .ok (.bipush 10, 2) := by decide +kernel
theorem dX2_isInLength_80 : decode cX2_isInLength 80 = .ok (.imul, 1) := by decide +kernel
theorem dX2_isInLength_81 : decode cX2_isInLength 81 = .ok (.iload_n 1, 1) := by decide +kernel
theorem dX2_isInLength_82 : decode cX2_isInLength 82 = .ok (.iadd, 1) := by decide +kernel
theorem dX2_isInLength_83 : decode cX2_isInLength 83 = .ok (.bipush 48, 2) := by decide +kernel
theorem dX2_isInLength_85 : decode cX2_isInLength 85 = .ok (.isub, 1) := by decide +kernel
theorem dX2_isInLength_86 : decode cX2_isInLength 86 = .ok (.putfield 70, 3) := by decide +kernel
theorem dX2_isInLength_89 : decode cX2_isInLength 89 = .ok (.aload_n 0, 1) := by decide +kernel
theorem dX2_isInLength_90 : decode cX2_isInLength 90 = .ok (.getfield 67, 3) := by decide +kernel
theorem dX2_isInLength_93 : decode cX2_isInLength 93 = .ok (.iconst 4, 1) := by decide +kernel
theorem dX2_isInLength_94 : decode cX2_isInLength 94 = .ok (.if_icmp .gt 17, 3) := by decide +kernel
theorem dX2_isInLength_97 : decode cX2_isInLength 97 = .ok (.aload_n 0, 1) := by decide +kernel
theorem dX2_isInLength_98 : decode cX2_isInLength 98 = .ok (.getfield 70, 3) := by decide +kernel
theorem dX2_isInLength_101 : decode cX2_isInLength 101 = .ok (.sipush 3000, 3) := by decide +kernel
theorem dX2_isInLength_104 : decode cX2_isInLength 104 = .ok (.if_icmp .gt 7, 3) := by decide +kernel
theorem dX2_isInLength_107 : decode cX2_isInLength 107 = .ok (.iconst 1, 1) := by decide +kernel
theorem dX2_isInLength_108 : decode cX2_isInLength 108 = .ok (.goto 4, 3) := by decide +kernel
theorem dX2_isInLength_111 : decode cX2_isInLength 111 = .ok (.iconst 0, 1) := by decide +kernel
theorem dX2_isInLength_112 : decode cX2_isInLength 112 = .ok (.ireturn, 1) := by decide +kernel
set_option maxHeartbeats 4000000 in
set_option maxRecDepth 20000 in
theorem kX2_isInValue (l : Launch) (dC : Nat → ClassId) (dI : Nat → Nat → Nat) (ca : Nat → ClassId) (base : Nat) (H0 : Heap) (h0 bd : Nat) (len kp ms br pl td fl sg il dg vl : Int32) (a1 : Int32) : Met l yX2_isInValue wsX2_isInValue ({ frames := 0, cells := 0, slots := 0, locals := 0 }) (va_Pc [.ref h0, .int a1] (fun U => U.heap = H0 ∧ va_at (dC, dI) vwCl (h0, .inr (4, [.ref bd, .int len, .int kp, .int ms, .int br, .int pl, .int td, .int fl, .int sg, .int il, .int dg, .int vl])) H0 ∧ jG dC dI ca base U ∧ (base ≤ h0 ∧ (br = 0 ∨ br = 1) ∧ (il = 0 ∨ il = 1) ∧ (True)))) (va_Qi (S := List Value) (fun r u => (r = 0 ∨ r = 1) ∧ ∃ len' kp' ms' br' pl' td' fl' sg' il' dg' vl' : Int32, u = [.ref bd, .int len', .int kp', .int ms', .int br', .int pl', .int td', .int fl', .int sg', .int il', .int dg', .int vl'] ∧ len = len' ∧ kp = kp' ∧ ms = ms' ∧ br = br' ∧ fl = fl' ∧ (il' = 0 ∨ il' = 1) ∧ (sg'.toInt = sg.toInt ∧ td'.toInt = td.toInt ∧ vl'.toInt = vl.toInt ∧ (pl'.toInt = pl.toInt ∨ pl'.toInt = 4))) (fun u t => va_at (dC, dI) vwCl (h0, .inr (4, u)) t.heap ∧ t.heap.size = H0.size ∧ (∀ q, ¬ q = h0 → t.heap[q]? = H0[q]?)) (jA base)) 0 0 (jA base) := by
  refine Met.ofW (cc := cX2_isInValue) (maxL := 2) (ret := (some .boolean)) (by decide) rfl ?_
  intro p e s m args below meth c s₁ B hml hv
  obtain ⟨rfl, hH0, hat_h0, hG, hb0, hbr, hil, hpre⟩ := hv
  have hK := hG.1
  have hx := B.exec
  have hb := B.bytes
  have hr := B.returns
  have hts := atoms_spec (ws := wsX2_isInValue) B.pre
  have hown : s.vm.findClass RX2 = some m.cls := findClass_of_methodNamed B.named
  have hlocks := B.notSynchronized
  have hin_4 : ∀ w ∈ u_ws RX2 TX2 12, w ∈ wsX2_isInValue := by decide +kernel
  obtain ⟨Q, hQ⟩ : ∃ Q, Q = MQ below (va_Qi (S := List Value) (fun r u => (r = 0 ∨ r = 1) ∧ ∃ len' kp' ms' br' pl' td' fl' sg' il' dg' vl' : Int32, u = [.ref bd, .int len', .int kp', .int ms', .int br', .int pl', .int td', .int fl', .int sg', .int il', .int dg', .int vl'] ∧ len = len' ∧ kp = kp' ∧ ms = ms' ∧ br = br' ∧ fl = fl' ∧ (il' = 0 ∨ il' = 1) ∧ (sg'.toInt = sg.toInt ∧ td'.toInt = td.toInt ∧ vl'.toInt = vl.toInt ∧ (pl'.toInt = pl.toInt ∨ pl'.toInt = 4))) (fun u t => va_at (dC, dI) vwCl (h0, .inr (4, u)) t.heap ∧ t.heap.size = H0.size ∧ (∀ q, ¬ q = h0 → t.heap[q]? = H0[q]?)) (jA base)) ([.ref h0, .int a1] : List Value).toArray s 0 0 (jA base) := ⟨_, rfl⟩
  rw [← hQ]
  have hl := lv_entry ([.ref h0, .int a1]) (n := 2) (Nat.le_of_ble_eq_true rfl)
  rw [lg_entry_eq]
  generalize (lg_sl ([.ref h0, .int a1]) ++ List.replicate (2 - (lg_sl ([.ref h0, .int a1])).length) Slot.unset).toArray = ls at hl ⊢
  have hl : lv_has ls 2 [(0, .ref h0), (1, .int a1)] := hl
  generalize hR : (headSpec wsX2_isInValue ({ frames := 0, cells := 0, slots := 0, locals := 0 })).room = R
  subst hH0
  have hS : va_S (jA base) s.heap s.heap [] := va_S.rf
  obtain ⟨H, eH⟩ : ∃ z, z = s.heap := ⟨_, rfl⟩
  obtain ⟨locs, elocs⟩ : ∃ z : List Loc, z = [] := ⟨_, rfl⟩
  have hsz : H.size = s.heap.size := by rw [eH]
  have hfr : ∀ q, ¬ (fun q => q = h0) q → H[q]? = s.heap[q]? := fun _ _ => by rw [eH]
  have hS : va_S (jA base) s.heap H locs := by rw [eH, elocs]; exact va_S.rf
  rw [← eH] at hat_h0
  rw [← elocs]
  conv => arg 11; rw [← eH]
  have hk0 : (0 : Int32).toInt = 0 := by decide
  have hk1 : (1 : Int32).toInt = 1 := by decide
  have hk4 : (4 : Int32).toInt = 4 := by decide
  have hk13 : (13 : Int32).toInt = 13 := by decide
  have hk32 : (32 : Int32).toInt = 32 := by decide
  have hk126 : (126 : Int32).toInt = 126 := by decide
  refine lv_iload_n hx hb dX2_isInValue_0 rfl (lv_at hl 1 rfl) ?_
  refine lv_bipush (v := 13) hx hb dX2_isInValue_1 (by decide) ?_
  refine lv_icmp_ne (tgt := 13) hx hb dX2_isInValue_3 (by decide) (fun c_1 => ?_) (fun c_1 => ?_)
  · skip
    have c_1' : a1.toInt ≠ 13 := jb_ne (rfl) ((by decide)) c_1
    refine lv_iload_n hx hb dX2_isInValue_13 rfl (lv_at hl 1 rfl) ?_
    refine lv_bipush (v := 32) hx hb dX2_isInValue_14 (by decide) ?_
    refine lv_icmp_lt (tgt := 29) hx hb dX2_isInValue_16 (by decide) (fun c_2 => ?_) (fun c_2 => ?_)
    · skip
      have c_2' : a1.toInt < 32 := jb_lt (rfl) ((by decide)) c_2
      refine lv_iconst (v := 0) hx hb dX2_isInValue_29 (by decide) ?_
      rw [hQ]
      exact W.zret (v := 0) hx hb hr (jb_nz (Or.inl rfl)) (fun t ht hW => ⟨⟨0, [.ref bd, .int len, .int kp, .int ms, .int br, .int pl, .int td, .int fl, .int sg, .int il, .int dg, .int vl], rfl, ⟨by first | exact Or.inl rfl | exact Or.inr rfl | assumption, len, kp, ms, br, pl, td, fl, sg, il, dg, vl, rfl, rfl, rfl, rfl, rfl, rfl, (hil), by first | omega | (constructor <;> omega) | (refine ⟨?_, ?_, ?_⟩ <;> omega) | (refine ⟨?_, ?_, ?_, ?_⟩ <;> omega) | (refine ⟨?_, ?_, ?_, ?_, ?_⟩ <;> omega)⟩, by rw [ht]; exact hat_h0, by rw [ht]; exact hsz, fun q hq => by rw [ht]; exact hfr q hq⟩, by rw [ht, hsz]; exact Nat.le_refl _, fun q _ hq => by rw [ht]; exact hfr q (fun h => hq (by rw [h]; exact hb0))⟩) hS.2.2 dX2_isInValue_30
    · skip
      have c_2' : a1.toInt ≥ 32 := jb_lt_n (rfl) ((by decide)) c_2
      refine lv_iload_n hx hb dX2_isInValue_19 rfl (lv_at hl 1 rfl) ?_
      refine lv_bipush (v := 126) hx hb dX2_isInValue_20 (by decide) ?_
      refine lv_icmp_gt (tgt := 29) hx hb dX2_isInValue_22 (by decide) (fun c_3 => ?_) (fun c_3 => ?_)
      · skip
        have c_3' : a1.toInt > 126 := jb_gt (rfl) ((by decide)) c_3
        refine lv_iconst (v := 0) hx hb dX2_isInValue_29 (by decide) ?_
        rw [hQ]
        exact W.zret (v := 0) hx hb hr (jb_nz (Or.inl rfl)) (fun t ht hW => ⟨⟨0, [.ref bd, .int len, .int kp, .int ms, .int br, .int pl, .int td, .int fl, .int sg, .int il, .int dg, .int vl], rfl, ⟨by first | exact Or.inl rfl | exact Or.inr rfl | assumption, len, kp, ms, br, pl, td, fl, sg, il, dg, vl, rfl, rfl, rfl, rfl, rfl, rfl, (hil), by first | omega | (constructor <;> omega) | (refine ⟨?_, ?_, ?_⟩ <;> omega) | (refine ⟨?_, ?_, ?_, ?_⟩ <;> omega) | (refine ⟨?_, ?_, ?_, ?_, ?_⟩ <;> omega)⟩, by rw [ht]; exact hat_h0, by rw [ht]; exact hsz, fun q hq => by rw [ht]; exact hfr q hq⟩, by rw [ht, hsz]; exact Nat.le_refl _, fun q _ hq => by rw [ht]; exact hfr q (fun h => hq (by rw [h]; exact hb0))⟩) hS.2.2 dX2_isInValue_30
      · skip
        have c_3' : a1.toInt ≤ 126 := jb_gt_n (rfl) ((by decide)) c_3
        refine lv_iconst (v := 1) hx hb dX2_isInValue_25 (by decide) ?_
        refine lv_goto (tgt := 30) hx hb dX2_isInValue_26 (by decide) ?_
        rw [hQ]
        exact W.zret (v := 1) hx hb hr (jb_nz (Or.inr rfl)) (fun t ht hW => ⟨⟨1, [.ref bd, .int len, .int kp, .int ms, .int br, .int pl, .int td, .int fl, .int sg, .int il, .int dg, .int vl], rfl, ⟨by first | exact Or.inl rfl | exact Or.inr rfl | assumption, len, kp, ms, br, pl, td, fl, sg, il, dg, vl, rfl, rfl, rfl, rfl, rfl, rfl, (hil), by first | omega | (constructor <;> omega) | (refine ⟨?_, ?_, ?_⟩ <;> omega) | (refine ⟨?_, ?_, ?_, ?_⟩ <;> omega) | (refine ⟨?_, ?_, ?_, ?_, ?_⟩ <;> omega)⟩, by rw [ht]; exact hat_h0, by rw [ht]; exact hsz, fun q hq => by rw [ht]; exact hfr q hq⟩, by rw [ht, hsz]; exact Nat.le_refl _, fun q _ hq => by rw [ht]; exact hfr q (fun h => hq (by rw [h]; exact hb0))⟩) hS.2.2 dX2_isInValue_30
  · skip
    have c_1' : a1.toInt = 13 := jb_ne_n (rfl) ((by decide)) c_1
    refine lv_aload_n hx hb dX2_isInValue_6 rfl (lv_at hl 0 rfl) ?_
    refine lv_iconst (v := 4) hx hb dX2_isInValue_7 (by decide) ?_
    refine j_put (D := (dC, dI)) (ci := 4) (v := .int 4) (ty := .int) (C := RX2) (T := TX2) (N := 12) (A := jA base) hx hb hts hin_4 tyX2 tyX2_ok nmX2 hown hK hat_h0 hb0 hS.2.2 rfl 5 (by decide) (hts (.fieldLink RX2 15 "ProofServer$Frames" "place" "I") (by decide +kernel)) (fun _ h9 => h9) rfl (by decide +kernel) rfl rfl (Nat.le_of_ble_eq_true rfl) dX2_isInValue_8 (fun H1 locs1 hat1 hsz1 hfr1 hT1 hL1 => ?_)
    have hfr2 : ∀ q, ¬ (fun q => q = h0) q → H1[q]? = s.heap[q]? := fun q hq => (hfr1 q (fun h => hq (h))).trans (hfr q hq)
    have hsz2 : H1.size = s.heap.size := hsz1.trans hsz
    have hS2 := jS_put hS hsz1 hfr1 hb0 hL1
    try clear hT1
    clear hfr hsz hfr1 hsz1 hL1 hS hat_h0
    have hfr := hfr2
    have hsz := hsz2
    have hS := hS2
    clear hfr2 hsz2 hS2
    generalize locs1 = locs at hS ⊢
    generalize H1 = H at hfr hsz hS hat1 ⊢
    have hat_h0 : va_at (dC, dI) vwCl (h0, .inr (4, [.ref bd, .int len, .int kp, .int ms, .int br, .int 4, .int td, .int fl, .int sg, .int il, .int dg, .int vl])) H := hat1
    refine lv_iconst (v := 1) hx hb dX2_isInValue_11 (by decide) ?_
    rw [hQ]
    exact W.zret (v := 1) hx hb hr (jb_nz (Or.inr rfl)) (fun t ht hW => ⟨⟨1, [.ref bd, .int len, .int kp, .int ms, .int br, .int 4, .int td, .int fl, .int sg, .int il, .int dg, .int vl], rfl, ⟨by first | exact Or.inl rfl | exact Or.inr rfl | assumption, len, kp, ms, br, 4, td, fl, sg, il, dg, vl, rfl, rfl, rfl, rfl, rfl, rfl, (hil), by first | omega | (constructor <;> omega) | (refine ⟨?_, ?_, ?_⟩ <;> omega) | (refine ⟨?_, ?_, ?_, ?_⟩ <;> omega) | (refine ⟨?_, ?_, ?_, ?_, ?_⟩ <;> omega)⟩, by rw [ht]; exact hat_h0, by rw [ht]; exact hsz, fun q hq => by rw [ht]; exact hfr q hq⟩, by rw [ht, hsz]; exact Nat.le_refl _, fun q _ hq => by rw [ht]; exact hfr q (fun h => hq (by rw [h]; exact hb0))⟩) hS.2.2 dX2_isInValue_12
set_option maxHeartbeats 4000000 in
set_option maxRecDepth 20000 in
theorem kX2_isInLength (l : Launch) (dC : Nat → ClassId) (dI : Nat → Nat → Nat) (ca : Nat → ClassId) (base : Nat) (H0 : Heap) (h0 bd : Nat) (len kp ms br pl td fl sg il dg vl : Int32) (a1 : Int32) : Met l yX2_isInLength wsX2_isInLength ({ frames := 0, cells := 0, slots := 0, locals := 0 }) (va_Pc [.ref h0, .int a1] (fun U => U.heap = H0 ∧ va_at (dC, dI) vwCl (h0, .inr (4, [.ref bd, .int len, .int kp, .int ms, .int br, .int pl, .int td, .int fl, .int sg, .int il, .int dg, .int vl])) H0 ∧ jG dC dI ca base U ∧ (base ≤ h0 ∧ (br = 0 ∨ br = 1) ∧ (il = 0 ∨ il = 1) ∧ (0 ≤ vl.toInt ∧ vl.toInt ≤ 3000)))) (va_Qi (S := List Value) (fun r u => (r = 0 ∨ r = 1) ∧ ∃ len' kp' ms' br' pl' td' fl' sg' il' dg' vl' : Int32, u = [.ref bd, .int len', .int kp', .int ms', .int br', .int pl', .int td', .int fl', .int sg', .int il', .int dg', .int vl'] ∧ len = len' ∧ kp = kp' ∧ ms = ms' ∧ br = br' ∧ fl = fl' ∧ (il' = 0 ∨ il' = 1) ∧ (sg'.toInt = sg.toInt ∧ 0 ≤ vl'.toInt ∧ (td'.toInt = td.toInt ∨ td'.toInt = vl.toInt) ∧ (pl'.toInt = pl.toInt ∨ pl'.toInt = 4) ∧ (r.toInt = 0 ∨ vl'.toInt ≤ 3000))) (fun u t => va_at (dC, dI) vwCl (h0, .inr (4, u)) t.heap ∧ t.heap.size = H0.size ∧ (∀ q, ¬ q = h0 → t.heap[q]? = H0[q]?)) (jA base)) 0 0 (jA base) := by
  refine Met.ofW (cc := cX2_isInLength) (maxL := 2) (ret := (some .boolean)) (by decide) rfl ?_
  intro p e s m args below meth c s₁ B hml hv
  obtain ⟨rfl, hH0, hat_h0, hG, hb0, hbr, hil, hv0, hv1⟩ := hv
  have hK := hG.1
  have hx := B.exec
  have hb := B.bytes
  have hr := B.returns
  have hts := atoms_spec (ws := wsX2_isInLength) B.pre
  have hown : s.vm.findClass RX2 = some m.cls := findClass_of_methodNamed B.named
  have hlocks := B.notSynchronized
  have hin_4 : ∀ w ∈ u_ws RX2 TX2 12, w ∈ wsX2_isInLength := by decide +kernel
  obtain ⟨Q, hQ⟩ : ∃ Q, Q = MQ below (va_Qi (S := List Value) (fun r u => (r = 0 ∨ r = 1) ∧ ∃ len' kp' ms' br' pl' td' fl' sg' il' dg' vl' : Int32, u = [.ref bd, .int len', .int kp', .int ms', .int br', .int pl', .int td', .int fl', .int sg', .int il', .int dg', .int vl'] ∧ len = len' ∧ kp = kp' ∧ ms = ms' ∧ br = br' ∧ fl = fl' ∧ (il' = 0 ∨ il' = 1) ∧ (sg'.toInt = sg.toInt ∧ 0 ≤ vl'.toInt ∧ (td'.toInt = td.toInt ∨ td'.toInt = vl.toInt) ∧ (pl'.toInt = pl.toInt ∨ pl'.toInt = 4) ∧ (r.toInt = 0 ∨ vl'.toInt ≤ 3000))) (fun u t => va_at (dC, dI) vwCl (h0, .inr (4, u)) t.heap ∧ t.heap.size = H0.size ∧ (∀ q, ¬ q = h0 → t.heap[q]? = H0[q]?)) (jA base)) ([.ref h0, .int a1] : List Value).toArray s 0 0 (jA base) := ⟨_, rfl⟩
  rw [← hQ]
  have hl := lv_entry ([.ref h0, .int a1]) (n := 2) (Nat.le_of_ble_eq_true rfl)
  rw [lg_entry_eq]
  generalize (lg_sl ([.ref h0, .int a1]) ++ List.replicate (2 - (lg_sl ([.ref h0, .int a1])).length) Slot.unset).toArray = ls at hl ⊢
  have hl : lv_has ls 2 [(0, .ref h0), (1, .int a1)] := hl
  generalize hR : (headSpec wsX2_isInLength ({ frames := 0, cells := 0, slots := 0, locals := 0 })).room = R
  subst hH0
  have hS : va_S (jA base) s.heap s.heap [] := va_S.rf
  obtain ⟨H, eH⟩ : ∃ z, z = s.heap := ⟨_, rfl⟩
  obtain ⟨locs, elocs⟩ : ∃ z : List Loc, z = [] := ⟨_, rfl⟩
  have hsz : H.size = s.heap.size := by rw [eH]
  have hfr : ∀ q, ¬ (fun q => q = h0) q → H[q]? = s.heap[q]? := fun _ _ => by rw [eH]
  have hS : va_S (jA base) s.heap H locs := by rw [eH, elocs]; exact va_S.rf
  rw [← eH] at hat_h0
  rw [← elocs]
  conv => arg 11; rw [← eH]
  have hk0 : (0 : Int32).toInt = 0 := by decide
  have hk1 : (1 : Int32).toInt = 1 := by decide
  have hk4 : (4 : Int32).toInt = 4 := by decide
  have hk10 : (10 : Int32).toInt = 10 := by decide
  have hk13 : (13 : Int32).toInt = 13 := by decide
  have hk32 : (32 : Int32).toInt = 32 := by decide
  have hk48 : (48 : Int32).toInt = 48 := by decide
  have hk57 : (57 : Int32).toInt = 57 := by decide
  have hk3000 : (3000 : Int32).toInt = 3000 := by decide
  refine lv_iload_n hx hb dX2_isInLength_0 rfl (lv_at hl 1 rfl) ?_
  refine lv_bipush (v := 13) hx hb dX2_isInLength_1 (by decide) ?_
  refine lv_icmp_ne (tgt := 32) hx hb dX2_isInLength_3 (by decide) (fun c_1 => ?_) (fun c_1 => ?_)
  · skip
    have c_1' : a1.toInt ≠ 13 := jb_ne (rfl) ((by decide)) c_1
    refine lv_iload_n hx hb dX2_isInLength_32 rfl (lv_at hl 1 rfl) ?_
    refine lv_bipush (v := 48) hx hb dX2_isInLength_33 (by decide) ?_
    refine lv_icmp_lt (tgt := 44) hx hb dX2_isInLength_35 (by decide) (fun c_2 => ?_) (fun c_2 => ?_)
    · skip
      have c_2' : a1.toInt < 48 := jb_lt (rfl) ((by decide)) c_2
      refine lv_iload_n hx hb dX2_isInLength_44 rfl (lv_at hl 1 rfl) ?_
      refine lv_bipush (v := 32) hx hb dX2_isInLength_45 (by decide) ?_
      refine lv_icmp_ne (tgt := 61) hx hb dX2_isInLength_47 (by decide) (fun c_3 => ?_) (fun c_3 => ?_)
      · skip
        have c_3' : a1.toInt ≠ 32 := jb_ne (rfl) ((by decide)) c_3
        refine lv_iconst (v := 0) hx hb dX2_isInLength_61 (by decide) ?_
        rw [hQ]
        exact W.zret (v := 0) hx hb hr (jb_nz (Or.inl rfl)) (fun t ht hW => ⟨⟨0, [.ref bd, .int len, .int kp, .int ms, .int br, .int pl, .int td, .int fl, .int sg, .int il, .int dg, .int vl], rfl, ⟨by first | exact Or.inl rfl | exact Or.inr rfl | assumption, len, kp, ms, br, pl, td, fl, sg, il, dg, vl, rfl, rfl, rfl, rfl, rfl, rfl, (hil), by first | omega | (constructor <;> omega) | (refine ⟨?_, ?_, ?_⟩ <;> omega) | (refine ⟨?_, ?_, ?_, ?_⟩ <;> omega) | (refine ⟨?_, ?_, ?_, ?_, ?_⟩ <;> omega)⟩, by rw [ht]; exact hat_h0, by rw [ht]; exact hsz, fun q hq => by rw [ht]; exact hfr q hq⟩, by rw [ht, hsz]; exact Nat.le_refl _, fun q _ hq => by rw [ht]; exact hfr q (fun h => hq (by rw [h]; exact hb0))⟩) hS.2.2 dX2_isInLength_62
      · skip
        have c_3' : a1.toInt = 32 := jb_ne_n (rfl) ((by decide)) c_3
        refine lv_aload_n hx hb dX2_isInLength_50 rfl (lv_at hl 0 rfl) ?_
        refine va_get (D := (dC, dI)) (ci := 4) (v := .int dg) (C := RX2) (T := TX2) (N := 12) hx hb hts hin_4 hown hK (jp_one hat_h0) 0 rfl rfl 10 (by decide) (hts (.fieldLink RX2 67 "ProofServer$Frames" "digits" "I") (by decide +kernel)) (fun _ h9 => h9) rfl dX2_isInLength_51 ?_
        refine lv_if_ne (tgt := 61) hx hb dX2_isInLength_54 (by decide) (fun c_4 => ?_) (fun c_4 => ?_)
        · skip
          have c_4' : dg.toInt ≠ 0 := jb_ne (rfl) ((by decide)) c_4
          refine lv_iconst (v := 0) hx hb dX2_isInLength_61 (by decide) ?_
          rw [hQ]
          exact W.zret (v := 0) hx hb hr (jb_nz (Or.inl rfl)) (fun t ht hW => ⟨⟨0, [.ref bd, .int len, .int kp, .int ms, .int br, .int pl, .int td, .int fl, .int sg, .int il, .int dg, .int vl], rfl, ⟨by first | exact Or.inl rfl | exact Or.inr rfl | assumption, len, kp, ms, br, pl, td, fl, sg, il, dg, vl, rfl, rfl, rfl, rfl, rfl, rfl, (hil), by first | omega | (constructor <;> omega) | (refine ⟨?_, ?_, ?_⟩ <;> omega) | (refine ⟨?_, ?_, ?_, ?_⟩ <;> omega) | (refine ⟨?_, ?_, ?_, ?_, ?_⟩ <;> omega)⟩, by rw [ht]; exact hat_h0, by rw [ht]; exact hsz, fun q hq => by rw [ht]; exact hfr q hq⟩, by rw [ht, hsz]; exact Nat.le_refl _, fun q _ hq => by rw [ht]; exact hfr q (fun h => hq (by rw [h]; exact hb0))⟩) hS.2.2 dX2_isInLength_62
        · skip
          have c_4' : dg.toInt = 0 := jb_ne_n (rfl) ((by decide)) c_4
          refine lv_iconst (v := 1) hx hb dX2_isInLength_57 (by decide) ?_
          refine lv_goto (tgt := 62) hx hb dX2_isInLength_58 (by decide) ?_
          rw [hQ]
          exact W.zret (v := 1) hx hb hr (jb_nz (Or.inr rfl)) (fun t ht hW => ⟨⟨1, [.ref bd, .int len, .int kp, .int ms, .int br, .int pl, .int td, .int fl, .int sg, .int il, .int dg, .int vl], rfl, ⟨by first | exact Or.inl rfl | exact Or.inr rfl | assumption, len, kp, ms, br, pl, td, fl, sg, il, dg, vl, rfl, rfl, rfl, rfl, rfl, rfl, (hil), by first | omega | (constructor <;> omega) | (refine ⟨?_, ?_, ?_⟩ <;> omega) | (refine ⟨?_, ?_, ?_, ?_⟩ <;> omega) | (refine ⟨?_, ?_, ?_, ?_, ?_⟩ <;> omega)⟩, by rw [ht]; exact hat_h0, by rw [ht]; exact hsz, fun q hq => by rw [ht]; exact hfr q hq⟩, by rw [ht, hsz]; exact Nat.le_refl _, fun q _ hq => by rw [ht]; exact hfr q (fun h => hq (by rw [h]; exact hb0))⟩) hS.2.2 dX2_isInLength_62
    · skip
      have c_2' : a1.toInt ≥ 48 := jb_lt_n (rfl) ((by decide)) c_2
      refine lv_iload_n hx hb dX2_isInLength_38 rfl (lv_at hl 1 rfl) ?_
      refine lv_bipush (v := 57) hx hb dX2_isInLength_39 (by decide) ?_
      refine lv_icmp_le (tgt := 63) hx hb dX2_isInLength_41 (by decide) (fun c_5 => ?_) (fun c_5 => ?_)
      · skip
        have c_5' : a1.toInt ≤ 57 := jb_le (rfl) ((by decide)) c_5
        refine lv_aload_n hx hb dX2_isInLength_63 rfl (lv_at hl 0 rfl) ?_
        refine lv_dup hx hb dX2_isInLength_64 rfl ?_
        refine va_get (D := (dC, dI)) (ci := 4) (v := .int dg) (C := RX2) (T := TX2) (N := 12) hx hb hts hin_4 hown hK (jp_one hat_h0) 0 rfl rfl 10 (by decide) (hts (.fieldLink RX2 67 "ProofServer$Frames" "digits" "I") (by decide +kernel)) (fun _ h9 => h9) rfl dX2_isInLength_65 ?_
        refine lv_iconst (v := 1) hx hb dX2_isInLength_68 (by decide) ?_
        refine lv_iadd hx hb dX2_isInLength_69 ?_
        refine lv_topi (fun z_6 ez_6 => ?_)
        refine j_put (D := (dC, dI)) (ci := 4) (v := .int z_6) (ty := .int) (C := RX2) (T := TX2) (N := 12) (A := jA base) hx hb hts hin_4 tyX2 tyX2_ok nmX2 hown hK hat_h0 hb0 hS.2.2 rfl 10 (by decide) (hts (.fieldLink RX2 67 "ProofServer$Frames" "digits" "I") (by decide +kernel)) (fun _ h9 => h9) rfl (by decide +kernel) rfl rfl (Nat.le_of_ble_eq_true rfl) dX2_isInLength_70 (fun H1 locs1 hat1 hsz1 hfr1 hT1 hL1 => ?_)
        have hfr2 : ∀ q, ¬ (fun q => q = h0) q → H1[q]? = s.heap[q]? := fun q hq => (hfr1 q (fun h => hq (h))).trans (hfr q hq)
        have hsz2 : H1.size = s.heap.size := hsz1.trans hsz
        have hS2 := jS_put hS hsz1 hfr1 hb0 hL1
        try clear hT1
        clear hfr hsz hfr1 hsz1 hL1 hS hat_h0
        have hfr := hfr2
        have hsz := hsz2
        have hS := hS2
        clear hfr2 hsz2 hS2
        generalize locs1 = locs at hS ⊢
        generalize H1 = H at hfr hsz hS hat1 ⊢
        have hat_h0 : va_at (dC, dI) vwCl (h0, .inr (4, [.ref bd, .int len, .int kp, .int ms, .int br, .int pl, .int td, .int fl, .int sg, .int il, .int z_6, .int vl])) H := hat1
        refine lv_aload_n hx hb dX2_isInLength_73 rfl (lv_at hl 0 rfl) ?_
        refine lv_aload_n hx hb dX2_isInLength_74 rfl (lv_at hl 0 rfl) ?_
        refine va_get (D := (dC, dI)) (ci := 4) (v := .int vl) (C := RX2) (T := TX2) (N := 12) hx hb hts hin_4 hown hK (jp_one hat_h0) 0 rfl rfl 11 (by decide) (hts (.fieldLink RX2 70 "ProofServer$Frames" "value" "I") (by decide +kernel)) (fun _ h9 => h9) rfl dX2_isInLength_75 ?_
        refine lv_bipush (v := 10) hx hb dX2_isInLength_78 (by decide) ?_
        refine lv_imul hx hb dX2_isInLength_80 ?_
        refine lv_topi (fun z_7 ez_7 => ?_)
        have hz_7 : z_7.toInt = vl.toInt * 10 := by rw [ez_7]; exact jb_imul (rfl) ((by decide)) (by omega) (by omega)
        refine lv_iload_n hx hb dX2_isInLength_81 rfl (lv_at hl 1 rfl) ?_
        refine lv_iadd hx hb dX2_isInLength_82 ?_
        refine lv_topi (fun z_8 ez_8 => ?_)
        have hz_8 : z_8.toInt = z_7.toInt + a1.toInt := by rw [ez_8]; exact jb_iadd (rfl) (rfl) (by omega) (by omega)
        refine lv_bipush (v := 48) hx hb dX2_isInLength_83 (by decide) ?_
        refine lv_isub hx hb dX2_isInLength_85 ?_
        refine lv_topi (fun z_9 ez_9 => ?_)
        have hz_9 : z_9.toInt = z_8.toInt - 48 := by rw [ez_9]; exact jb_isub (rfl) ((by decide)) (by omega) (by omega)
        refine j_put (D := (dC, dI)) (ci := 4) (v := .int z_9) (ty := .int) (C := RX2) (T := TX2) (N := 12) (A := jA base) hx hb hts hin_4 tyX2 tyX2_ok nmX2 hown hK hat_h0 hb0 hS.2.2 rfl 11 (by decide) (hts (.fieldLink RX2 70 "ProofServer$Frames" "value" "I") (by decide +kernel)) (fun _ h9 => h9) rfl (by decide +kernel) rfl rfl (Nat.le_of_ble_eq_true rfl) dX2_isInLength_86 (fun H1 locs1 hat1 hsz1 hfr1 hT1 hL1 => ?_)
        have hfr2 : ∀ q, ¬ (fun q => q = h0) q → H1[q]? = s.heap[q]? := fun q hq => (hfr1 q (fun h => hq (h))).trans (hfr q hq)
        have hsz2 : H1.size = s.heap.size := hsz1.trans hsz
        have hS2 := jS_put hS hsz1 hfr1 hb0 hL1
        try clear hT1
        clear hfr hsz hfr1 hsz1 hL1 hS hat_h0
        have hfr := hfr2
        have hsz := hsz2
        have hS := hS2
        clear hfr2 hsz2 hS2
        generalize locs1 = locs at hS ⊢
        generalize H1 = H at hfr hsz hS hat1 ⊢
        have hat_h0 : va_at (dC, dI) vwCl (h0, .inr (4, [.ref bd, .int len, .int kp, .int ms, .int br, .int pl, .int td, .int fl, .int sg, .int il, .int z_6, .int z_9])) H := hat1
        refine lv_aload_n hx hb dX2_isInLength_89 rfl (lv_at hl 0 rfl) ?_
        refine va_get (D := (dC, dI)) (ci := 4) (v := .int z_6) (C := RX2) (T := TX2) (N := 12) hx hb hts hin_4 hown hK (jp_one hat_h0) 0 rfl rfl 10 (by decide) (hts (.fieldLink RX2 67 "ProofServer$Frames" "digits" "I") (by decide +kernel)) (fun _ h9 => h9) rfl dX2_isInLength_90 ?_
        refine lv_iconst (v := 4) hx hb dX2_isInLength_93 (by decide) ?_
        refine lv_icmp_gt (tgt := 111) hx hb dX2_isInLength_94 (by decide) (fun c_10 => ?_) (fun c_10 => ?_)
        · skip
          have c_10' : z_6.toInt > 4 := jb_gt (rfl) ((by decide)) c_10
          refine lv_iconst (v := 0) hx hb dX2_isInLength_111 (by decide) ?_
          rw [hQ]
          exact W.zret (v := 0) hx hb hr (jb_nz (Or.inl rfl)) (fun t ht hW => ⟨⟨0, [.ref bd, .int len, .int kp, .int ms, .int br, .int pl, .int td, .int fl, .int sg, .int il, .int z_6, .int z_9], rfl, ⟨by first | exact Or.inl rfl | exact Or.inr rfl | assumption, len, kp, ms, br, pl, td, fl, sg, il, z_6, z_9, rfl, rfl, rfl, rfl, rfl, rfl, (hil), by first | omega | (constructor <;> omega) | (refine ⟨?_, ?_, ?_⟩ <;> omega) | (refine ⟨?_, ?_, ?_, ?_⟩ <;> omega) | (refine ⟨?_, ?_, ?_, ?_, ?_⟩ <;> omega)⟩, by rw [ht]; exact hat_h0, by rw [ht]; exact hsz, fun q hq => by rw [ht]; exact hfr q hq⟩, by rw [ht, hsz]; exact Nat.le_refl _, fun q _ hq => by rw [ht]; exact hfr q (fun h => hq (by rw [h]; exact hb0))⟩) hS.2.2 dX2_isInLength_112
        · skip
          have c_10' : z_6.toInt ≤ 4 := jb_gt_n (rfl) ((by decide)) c_10
          refine lv_aload_n hx hb dX2_isInLength_97 rfl (lv_at hl 0 rfl) ?_
          refine va_get (D := (dC, dI)) (ci := 4) (v := .int z_9) (C := RX2) (T := TX2) (N := 12) hx hb hts hin_4 hown hK (jp_one hat_h0) 0 rfl rfl 11 (by decide) (hts (.fieldLink RX2 70 "ProofServer$Frames" "value" "I") (by decide +kernel)) (fun _ h9 => h9) rfl dX2_isInLength_98 ?_
          refine lv_sipush (v := 3000) hx hb dX2_isInLength_101 (by decide) ?_
          refine lv_icmp_gt (tgt := 111) hx hb dX2_isInLength_104 (by decide) (fun c_11 => ?_) (fun c_11 => ?_)
          · skip
            have c_11' : z_9.toInt > 3000 := jb_gt (rfl) ((by decide)) c_11
            refine lv_iconst (v := 0) hx hb dX2_isInLength_111 (by decide) ?_
            rw [hQ]
            exact W.zret (v := 0) hx hb hr (jb_nz (Or.inl rfl)) (fun t ht hW => ⟨⟨0, [.ref bd, .int len, .int kp, .int ms, .int br, .int pl, .int td, .int fl, .int sg, .int il, .int z_6, .int z_9], rfl, ⟨by first | exact Or.inl rfl | exact Or.inr rfl | assumption, len, kp, ms, br, pl, td, fl, sg, il, z_6, z_9, rfl, rfl, rfl, rfl, rfl, rfl, (hil), by first | omega | (constructor <;> omega) | (refine ⟨?_, ?_, ?_⟩ <;> omega) | (refine ⟨?_, ?_, ?_, ?_⟩ <;> omega) | (refine ⟨?_, ?_, ?_, ?_, ?_⟩ <;> omega)⟩, by rw [ht]; exact hat_h0, by rw [ht]; exact hsz, fun q hq => by rw [ht]; exact hfr q hq⟩, by rw [ht, hsz]; exact Nat.le_refl _, fun q _ hq => by rw [ht]; exact hfr q (fun h => hq (by rw [h]; exact hb0))⟩) hS.2.2 dX2_isInLength_112
          · skip
            have c_11' : z_9.toInt ≤ 3000 := jb_gt_n (rfl) ((by decide)) c_11
            refine lv_iconst (v := 1) hx hb dX2_isInLength_107 (by decide) ?_
            refine lv_goto (tgt := 112) hx hb dX2_isInLength_108 (by decide) ?_
            rw [hQ]
            exact W.zret (v := 1) hx hb hr (jb_nz (Or.inr rfl)) (fun t ht hW => ⟨⟨1, [.ref bd, .int len, .int kp, .int ms, .int br, .int pl, .int td, .int fl, .int sg, .int il, .int z_6, .int z_9], rfl, ⟨by first | exact Or.inl rfl | exact Or.inr rfl | assumption, len, kp, ms, br, pl, td, fl, sg, il, z_6, z_9, rfl, rfl, rfl, rfl, rfl, rfl, (hil), by first | omega | (constructor <;> omega) | (refine ⟨?_, ?_, ?_⟩ <;> omega) | (refine ⟨?_, ?_, ?_, ?_⟩ <;> omega) | (refine ⟨?_, ?_, ?_, ?_, ?_⟩ <;> omega)⟩, by rw [ht]; exact hat_h0, by rw [ht]; exact hsz, fun q hq => by rw [ht]; exact hfr q hq⟩, by rw [ht, hsz]; exact Nat.le_refl _, fun q _ hq => by rw [ht]; exact hfr q (fun h => hq (by rw [h]; exact hb0))⟩) hS.2.2 dX2_isInLength_112
      · skip
        have c_5' : a1.toInt > 57 := jb_le_n (rfl) ((by decide)) c_5
        refine lv_iload_n hx hb dX2_isInLength_44 rfl (lv_at hl 1 rfl) ?_
        refine lv_bipush (v := 32) hx hb dX2_isInLength_45 (by decide) ?_
        refine lv_icmp_ne (tgt := 61) hx hb dX2_isInLength_47 (by decide) (fun c_12 => ?_) (fun c_12 => ?_)
        · skip
          have c_12' : a1.toInt ≠ 32 := jb_ne (rfl) ((by decide)) c_12
          refine lv_iconst (v := 0) hx hb dX2_isInLength_61 (by decide) ?_
          rw [hQ]
          exact W.zret (v := 0) hx hb hr (jb_nz (Or.inl rfl)) (fun t ht hW => ⟨⟨0, [.ref bd, .int len, .int kp, .int ms, .int br, .int pl, .int td, .int fl, .int sg, .int il, .int dg, .int vl], rfl, ⟨by first | exact Or.inl rfl | exact Or.inr rfl | assumption, len, kp, ms, br, pl, td, fl, sg, il, dg, vl, rfl, rfl, rfl, rfl, rfl, rfl, (hil), by first | omega | (constructor <;> omega) | (refine ⟨?_, ?_, ?_⟩ <;> omega) | (refine ⟨?_, ?_, ?_, ?_⟩ <;> omega) | (refine ⟨?_, ?_, ?_, ?_, ?_⟩ <;> omega)⟩, by rw [ht]; exact hat_h0, by rw [ht]; exact hsz, fun q hq => by rw [ht]; exact hfr q hq⟩, by rw [ht, hsz]; exact Nat.le_refl _, fun q _ hq => by rw [ht]; exact hfr q (fun h => hq (by rw [h]; exact hb0))⟩) hS.2.2 dX2_isInLength_62
        · skip
          have c_12' : a1.toInt = 32 := jb_ne_n (rfl) ((by decide)) c_12
          refine lv_aload_n hx hb dX2_isInLength_50 rfl (lv_at hl 0 rfl) ?_
          refine va_get (D := (dC, dI)) (ci := 4) (v := .int dg) (C := RX2) (T := TX2) (N := 12) hx hb hts hin_4 hown hK (jp_one hat_h0) 0 rfl rfl 10 (by decide) (hts (.fieldLink RX2 67 "ProofServer$Frames" "digits" "I") (by decide +kernel)) (fun _ h9 => h9) rfl dX2_isInLength_51 ?_
          refine lv_if_ne (tgt := 61) hx hb dX2_isInLength_54 (by decide) (fun c_13 => ?_) (fun c_13 => ?_)
          · skip
            have c_13' : dg.toInt ≠ 0 := jb_ne (rfl) ((by decide)) c_13
            refine lv_iconst (v := 0) hx hb dX2_isInLength_61 (by decide) ?_
            rw [hQ]
            exact W.zret (v := 0) hx hb hr (jb_nz (Or.inl rfl)) (fun t ht hW => ⟨⟨0, [.ref bd, .int len, .int kp, .int ms, .int br, .int pl, .int td, .int fl, .int sg, .int il, .int dg, .int vl], rfl, ⟨by first | exact Or.inl rfl | exact Or.inr rfl | assumption, len, kp, ms, br, pl, td, fl, sg, il, dg, vl, rfl, rfl, rfl, rfl, rfl, rfl, (hil), by first | omega | (constructor <;> omega) | (refine ⟨?_, ?_, ?_⟩ <;> omega) | (refine ⟨?_, ?_, ?_, ?_⟩ <;> omega) | (refine ⟨?_, ?_, ?_, ?_, ?_⟩ <;> omega)⟩, by rw [ht]; exact hat_h0, by rw [ht]; exact hsz, fun q hq => by rw [ht]; exact hfr q hq⟩, by rw [ht, hsz]; exact Nat.le_refl _, fun q _ hq => by rw [ht]; exact hfr q (fun h => hq (by rw [h]; exact hb0))⟩) hS.2.2 dX2_isInLength_62
          · skip
            have c_13' : dg.toInt = 0 := jb_ne_n (rfl) ((by decide)) c_13
            refine lv_iconst (v := 1) hx hb dX2_isInLength_57 (by decide) ?_
            refine lv_goto (tgt := 62) hx hb dX2_isInLength_58 (by decide) ?_
            rw [hQ]
            exact W.zret (v := 1) hx hb hr (jb_nz (Or.inr rfl)) (fun t ht hW => ⟨⟨1, [.ref bd, .int len, .int kp, .int ms, .int br, .int pl, .int td, .int fl, .int sg, .int il, .int dg, .int vl], rfl, ⟨by first | exact Or.inl rfl | exact Or.inr rfl | assumption, len, kp, ms, br, pl, td, fl, sg, il, dg, vl, rfl, rfl, rfl, rfl, rfl, rfl, (hil), by first | omega | (constructor <;> omega) | (refine ⟨?_, ?_, ?_⟩ <;> omega) | (refine ⟨?_, ?_, ?_, ?_⟩ <;> omega) | (refine ⟨?_, ?_, ?_, ?_, ?_⟩ <;> omega)⟩, by rw [ht]; exact hat_h0, by rw [ht]; exact hsz, fun q hq => by rw [ht]; exact hfr q hq⟩, by rw [ht, hsz]; exact Nat.le_refl _, fun q _ hq => by rw [ht]; exact hfr q (fun h => hq (by rw [h]; exact hb0))⟩) hS.2.2 dX2_isInLength_62
  · skip
    have c_1' : a1.toInt = 13 := jb_ne_n (rfl) ((by decide)) c_1
    refine lv_aload_n hx hb dX2_isInLength_6 rfl (lv_at hl 0 rfl) ?_
    refine lv_iconst (v := 4) hx hb dX2_isInLength_7 (by decide) ?_
    refine j_put (D := (dC, dI)) (ci := 4) (v := .int 4) (ty := .int) (C := RX2) (T := TX2) (N := 12) (A := jA base) hx hb hts hin_4 tyX2 tyX2_ok nmX2 hown hK hat_h0 hb0 hS.2.2 rfl 5 (by decide) (hts (.fieldLink RX2 15 "ProofServer$Frames" "place" "I") (by decide +kernel)) (fun _ h9 => h9) rfl (by decide +kernel) rfl rfl (Nat.le_of_ble_eq_true rfl) dX2_isInLength_8 (fun H1 locs1 hat1 hsz1 hfr1 hT1 hL1 => ?_)
    have hfr2 : ∀ q, ¬ (fun q => q = h0) q → H1[q]? = s.heap[q]? := fun q hq => (hfr1 q (fun h => hq (h))).trans (hfr q hq)
    have hsz2 : H1.size = s.heap.size := hsz1.trans hsz
    have hS2 := jS_put hS hsz1 hfr1 hb0 hL1
    try clear hT1
    clear hfr hsz hfr1 hsz1 hL1 hS hat_h0
    have hfr := hfr2
    have hsz := hsz2
    have hS := hS2
    clear hfr2 hsz2 hS2
    generalize locs1 = locs at hS ⊢
    generalize H1 = H at hfr hsz hS hat1 ⊢
    have hat_h0 : va_at (dC, dI) vwCl (h0, .inr (4, [.ref bd, .int len, .int kp, .int ms, .int br, .int 4, .int td, .int fl, .int sg, .int il, .int dg, .int vl])) H := hat1
    refine lv_aload_n hx hb dX2_isInLength_11 rfl (lv_at hl 0 rfl) ?_
    refine lv_aload_n hx hb dX2_isInLength_12 rfl (lv_at hl 0 rfl) ?_
    refine va_get (D := (dC, dI)) (ci := 4) (v := .int vl) (C := RX2) (T := TX2) (N := 12) hx hb hts hin_4 hown hK (jp_one hat_h0) 0 rfl rfl 11 (by decide) (hts (.fieldLink RX2 70 "ProofServer$Frames" "value" "I") (by decide +kernel)) (fun _ h9 => h9) rfl dX2_isInLength_13 ?_
    refine j_put (D := (dC, dI)) (ci := 4) (v := .int vl) (ty := .int) (C := RX2) (T := TX2) (N := 12) (A := jA base) hx hb hts hin_4 tyX2 tyX2_ok nmX2 hown hK hat_h0 hb0 hS.2.2 rfl 6 (by decide) (hts (.fieldLink RX2 19 "ProofServer$Frames" "told" "I") (by decide +kernel)) (fun _ h9 => h9) rfl (by decide +kernel) rfl rfl (Nat.le_of_ble_eq_true rfl) dX2_isInLength_16 (fun H1 locs1 hat1 hsz1 hfr1 hT1 hL1 => ?_)
    have hfr2 : ∀ q, ¬ (fun q => q = h0) q → H1[q]? = s.heap[q]? := fun q hq => (hfr1 q (fun h => hq (h))).trans (hfr q hq)
    have hsz2 : H1.size = s.heap.size := hsz1.trans hsz
    have hS2 := jS_put hS hsz1 hfr1 hb0 hL1
    try clear hT1
    clear hfr hsz hfr1 hsz1 hL1 hS hat_h0
    have hfr := hfr2
    have hsz := hsz2
    have hS := hS2
    clear hfr2 hsz2 hS2
    generalize locs1 = locs at hS ⊢
    generalize H1 = H at hfr hsz hS hat1 ⊢
    have hat_h0 : va_at (dC, dI) vwCl (h0, .inr (4, [.ref bd, .int len, .int kp, .int ms, .int br, .int 4, .int vl, .int fl, .int sg, .int il, .int dg, .int vl])) H := hat1
    refine lv_aload_n hx hb dX2_isInLength_19 rfl (lv_at hl 0 rfl) ?_
    refine va_get (D := (dC, dI)) (ci := 4) (v := .int dg) (C := RX2) (T := TX2) (N := 12) hx hb hts hin_4 hown hK (jp_one hat_h0) 0 rfl rfl 10 (by decide) (hts (.fieldLink RX2 67 "ProofServer$Frames" "digits" "I") (by decide +kernel)) (fun _ h9 => h9) rfl dX2_isInLength_20 ?_
    refine lv_if_le (tgt := 30) hx hb dX2_isInLength_23 (by decide) (fun c_14 => ?_) (fun c_14 => ?_)
    · skip
      have c_14' : dg.toInt ≤ 0 := jb_le (rfl) ((by decide)) c_14
      refine lv_iconst (v := 0) hx hb dX2_isInLength_30 (by decide) ?_
      rw [hQ]
      exact W.zret (v := 0) hx hb hr (jb_nz (Or.inl rfl)) (fun t ht hW => ⟨⟨0, [.ref bd, .int len, .int kp, .int ms, .int br, .int 4, .int vl, .int fl, .int sg, .int il, .int dg, .int vl], rfl, ⟨by first | exact Or.inl rfl | exact Or.inr rfl | assumption, len, kp, ms, br, 4, vl, fl, sg, il, dg, vl, rfl, rfl, rfl, rfl, rfl, rfl, (hil), by first | omega | (constructor <;> omega) | (refine ⟨?_, ?_, ?_⟩ <;> omega) | (refine ⟨?_, ?_, ?_, ?_⟩ <;> omega) | (refine ⟨?_, ?_, ?_, ?_, ?_⟩ <;> omega)⟩, by rw [ht]; exact hat_h0, by rw [ht]; exact hsz, fun q hq => by rw [ht]; exact hfr q hq⟩, by rw [ht, hsz]; exact Nat.le_refl _, fun q _ hq => by rw [ht]; exact hfr q (fun h => hq (by rw [h]; exact hb0))⟩) hS.2.2 dX2_isInLength_31
    · skip
      have c_14' : dg.toInt > 0 := jb_le_n (rfl) ((by decide)) c_14
      refine lv_iconst (v := 1) hx hb dX2_isInLength_26 (by decide) ?_
      refine lv_goto (tgt := 31) hx hb dX2_isInLength_27 (by decide) ?_
      rw [hQ]
      exact W.zret (v := 1) hx hb hr (jb_nz (Or.inr rfl)) (fun t ht hW => ⟨⟨1, [.ref bd, .int len, .int kp, .int ms, .int br, .int 4, .int vl, .int fl, .int sg, .int il, .int dg, .int vl], rfl, ⟨by first | exact Or.inl rfl | exact Or.inr rfl | assumption, len, kp, ms, br, 4, vl, fl, sg, il, dg, vl, rfl, rfl, rfl, rfl, rfl, rfl, (hil), by first | omega | (constructor <;> omega) | (refine ⟨?_, ?_, ?_⟩ <;> omega) | (refine ⟨?_, ?_, ?_, ?_⟩ <;> omega) | (refine ⟨?_, ?_, ?_, ?_, ?_⟩ <;> omega)⟩, by rw [ht]; exact hat_h0, by rw [ht]; exact hsz, fun q hq => by rw [ht]; exact hfr q hq⟩, by rw [ht, hsz]; exact Nat.le_refl _, fun q _ hq => by rw [ht]; exact hfr q (fun h => hq (by rw [h]; exact hb0))⟩) hS.2.2 dX2_isInLength_31
set_option maxHeartbeats 4000000 in
set_option maxRecDepth 20000 in
theorem kX2_isInName (l : Launch) (dC : Nat → ClassId) (dI : Nat → Nat → Nat) (ca : Nat → ClassId) (base : Nat) (H0 : Heap) (h0 bd : Nat) (len kp ms br pl td fl sg il dg vl : Int32) (a1 : Int32) : Met l yX2_isInName wsX2_isInName ({ frames := 4, cells := 0, slots := 0, locals := 160 }) (va_Pc [.ref h0, .int a1] (fun U => U.heap = H0 ∧ va_at (dC, dI) vwCl (h0, .inr (4, [.ref bd, .int len, .int kp, .int ms, .int br, .int pl, .int td, .int fl, .int sg, .int il, .int dg, .int vl])) H0 ∧ jG dC dI ca base U ∧ (base ≤ h0 ∧ (br = 0 ∨ br = 1) ∧ (il = 0 ∨ il = 1) ∧ (0 ≤ sg.toInt ∧ sg.toInt ≤ 1000 ∧ 0 ≤ vl.toInt ∧ vl.toInt ≤ 3000)))) (va_Qi (S := List Value) (fun r u => (r = 0 ∨ r = 1) ∧ ∃ len' kp' ms' br' pl' td' fl' sg' il' dg' vl' : Int32, u = [.ref bd, .int len', .int kp', .int ms', .int br', .int pl', .int td', .int fl', .int sg', .int il', .int dg', .int vl'] ∧ len = len' ∧ kp = kp' ∧ ms = ms' ∧ br = br' ∧ fl = fl' ∧ (il' = 0 ∨ il' = 1) ∧ (sg.toInt ≤ sg'.toInt ∧ sg'.toInt ≤ sg.toInt + 1 ∧ td'.toInt = td.toInt ∧ 0 ≤ vl'.toInt ∧ vl'.toInt ≤ 3000 ∧ (pl'.toInt = pl.toInt ∨ pl'.toInt = 2 ∨ pl'.toInt = 3))) (fun u t => va_at (dC, dI) vwCl (h0, .inr (4, u)) t.heap ∧ t.heap.size = H0.size ∧ (∀ q, ¬ q = h0 → t.heap[q]? = H0[q]?)) (jA base)) 0 0 (jA base) := by
  refine Met.ofW (cc := cX2_isInName) (maxL := 3) (ret := (some .boolean)) (by decide) rfl ?_
  intro p e s m args below meth c s₁ B hml hv
  obtain ⟨rfl, hH0, hat_h0, hG, hb0, hbr, hil, hs0, hs1, hv0, hv1⟩ := hv
  have hK := hG.1
  have hx := B.exec
  have hb := B.bytes
  have hr := B.returns
  have hts := atoms_spec (ws := wsX2_isInName) B.pre
  have hown : s.vm.findClass RX2 = some m.cls := findClass_of_methodNamed B.named
  have hlocks := B.notSynchronized
  have hin_4 : ∀ w ∈ u_ws RX2 TX2 12, w ∈ wsX2_isInName := by decide +kernel
  obtain ⟨Q, hQ⟩ : ∃ Q, Q = MQ below (va_Qi (S := List Value) (fun r u => (r = 0 ∨ r = 1) ∧ ∃ len' kp' ms' br' pl' td' fl' sg' il' dg' vl' : Int32, u = [.ref bd, .int len', .int kp', .int ms', .int br', .int pl', .int td', .int fl', .int sg', .int il', .int dg', .int vl'] ∧ len = len' ∧ kp = kp' ∧ ms = ms' ∧ br = br' ∧ fl = fl' ∧ (il' = 0 ∨ il' = 1) ∧ (sg.toInt ≤ sg'.toInt ∧ sg'.toInt ≤ sg.toInt + 1 ∧ td'.toInt = td.toInt ∧ 0 ≤ vl'.toInt ∧ vl'.toInt ≤ 3000 ∧ (pl'.toInt = pl.toInt ∨ pl'.toInt = 2 ∨ pl'.toInt = 3))) (fun u t => va_at (dC, dI) vwCl (h0, .inr (4, u)) t.heap ∧ t.heap.size = H0.size ∧ (∀ q, ¬ q = h0 → t.heap[q]? = H0[q]?)) (jA base)) ([.ref h0, .int a1] : List Value).toArray s 0 0 (jA base) := ⟨_, rfl⟩
  rw [← hQ]
  have hl := lv_entry ([.ref h0, .int a1]) (n := 3) (Nat.le_of_ble_eq_true rfl)
  rw [lg_entry_eq]
  generalize (lg_sl ([.ref h0, .int a1]) ++ List.replicate (3 - (lg_sl ([.ref h0, .int a1])).length) Slot.unset).toArray = ls at hl ⊢
  have hl : lv_has ls 3 [(0, .ref h0), (1, .int a1)] := hl
  generalize hR : (headSpec wsX2_isInName ({ frames := 4, cells := 0, slots := 0, locals := 160 })).room = R
  subst hH0
  have hS : va_S (jA base) s.heap s.heap [] := va_S.rf
  obtain ⟨H, eH⟩ : ∃ z, z = s.heap := ⟨_, rfl⟩
  obtain ⟨locs, elocs⟩ : ∃ z : List Loc, z = [] := ⟨_, rfl⟩
  have hsz : H.size = s.heap.size := by rw [eH]
  have hfr : ∀ q, ¬ (fun q => q = h0) q → H[q]? = s.heap[q]? := fun _ _ => by rw [eH]
  have hS : va_S (jA base) s.heap H locs := by rw [eH, elocs]; exact va_S.rf
  rw [← eH] at hat_h0
  rw [← elocs]
  conv => arg 11; rw [← eH]
  have hk0 : (0 : Int32).toInt = 0 := by decide
  have hk1 : (1 : Int32).toInt = 1 := by decide
  have hk2 : (2 : Int32).toInt = 2 := by decide
  have hk3 : (3 : Int32).toInt = 3 := by decide
  have hk32 : (32 : Int32).toInt = 32 := by decide
  have hk45 : (45 : Int32).toInt = 45 := by decide
  have hk58 : (58 : Int32).toInt = 58 := by decide
  have hk65 : (65 : Int32).toInt = 65 := by decide
  have hk90 : (90 : Int32).toInt = 90 := by decide
  have hk97 : (97 : Int32).toInt = 97 := by decide
  have hk122 : (122 : Int32).toInt = 122 := by decide
  refine lv_iload_n hx hb dX2_isInName_0 rfl (lv_at hl 1 rfl) ?_
  refine lv_bipush (v := 58) hx hb dX2_isInName_1 (by decide) ?_
  refine lv_icmp_ne (tgt := 46) hx hb dX2_isInName_3 (by decide) (fun c_1 => ?_) (fun c_1 => ?_)
  · skip
    have c_1' : a1.toInt ≠ 58 := jb_ne (rfl) ((by decide)) c_1
    refine lv_iload_n hx hb dX2_isInName_46 rfl (lv_at hl 1 rfl) ?_
    refine lv_bipush (v := 65) hx hb dX2_isInName_47 (by decide) ?_
    refine lv_icmp_lt (tgt := 65) hx hb dX2_isInName_49 (by decide) (fun c_2 => ?_) (fun c_2 => ?_)
    · skip
      have c_2' : a1.toInt < 65 := jb_lt (rfl) ((by decide)) c_2
      refine lv_iload_n hx hb dX2_isInName_65 rfl (lv_at hl 1 rfl) ?_
      refine lv_istore_n (lv' := [(2, .int a1), (0, .ref h0), (1, .int a1)]) hx hb dX2_isInName_66 rfl hl (by decide) rfl (fun ls hl => ?_)
      refine lv_aload_n hx hb dX2_isInName_67 rfl (lv_at hl 1 rfl) ?_
      refine lv_aload_n hx hb dX2_isInName_68 rfl (lv_at hl 1 rfl) ?_
      refine va_get (D := (dC, dI)) (ci := 4) (v := .int il) (C := RX2) (T := TX2) (N := 12) hx hb hts hin_4 hown hK (jp_one hat_h0) 0 rfl rfl 9 (by decide) (hts (.fieldLink RX2 57 "ProofServer$Frames" "isLengthName" "Z") (by decide +kernel)) (fun _ h9 => h9) rfl dX2_isInName_69 ?_
      refine lv_if_eq (tgt := 104) hx hb dX2_isInName_72 (by decide) (fun c_3 => ?_) (fun c_3 => ?_)
      · skip
        have c_3' : il.toInt = 0 := jb_eq (rfl) ((by decide)) c_3
        refine lv_iconst (v := 0) hx hb dX2_isInName_104 (by decide) ?_
        refine j_put (D := (dC, dI)) (ci := 4) (v := .int 0) (ty := .boolean) (C := RX2) (T := TX2) (N := 12) (A := jA base) hx hb hts hin_4 tyX2 tyX2_ok nmX2 hown hK hat_h0 hb0 hS.2.2 rfl 9 (by decide) (hts (.fieldLink RX2 57 "ProofServer$Frames" "isLengthName" "Z") (by decide +kernel)) (fun _ h9 => h9) rfl (by decide +kernel) (jb_nz (Or.inl rfl)) (jb_fz (Or.inl rfl)) (Nat.le_of_ble_eq_true rfl) dX2_isInName_105 (fun H1 locs1 hat1 hsz1 hfr1 hT1 hL1 => ?_)
        have hfr2 : ∀ q, ¬ (fun q => q = h0) q → H1[q]? = s.heap[q]? := fun q hq => (hfr1 q (fun h => hq (h))).trans (hfr q hq)
        have hsz2 : H1.size = s.heap.size := hsz1.trans hsz
        have hS2 := jS_put hS hsz1 hfr1 hb0 hL1
        try clear hT1
        clear hfr hsz hfr1 hsz1 hL1 hS hat_h0
        have hfr := hfr2
        have hsz := hsz2
        have hS := hS2
        clear hfr2 hsz2 hS2
        generalize locs1 = locs at hS ⊢
        generalize H1 = H at hfr hsz hS hat1 ⊢
        have hat_h0 : va_at (dC, dI) vwCl (h0, .inr (4, [.ref bd, .int len, .int kp, .int ms, .int br, .int pl, .int td, .int fl, .int sg, .int 0, .int dg, .int vl])) H := hat1
        refine lv_aload_n hx hb dX2_isInName_108 rfl (lv_at hl 1 rfl) ?_
        refine lv_dup hx hb dX2_isInName_109 rfl ?_
        refine va_get (D := (dC, dI)) (ci := 4) (v := .int sg) (C := RX2) (T := TX2) (N := 12) hx hb hts hin_4 hown hK (jp_one hat_h0) 0 rfl rfl 8 (by decide) (hts (.fieldLink RX2 54 "ProofServer$Frames" "signs" "I") (by decide +kernel)) (fun _ h9 => h9) rfl dX2_isInName_110 ?_
        refine lv_iconst (v := 1) hx hb dX2_isInName_113 (by decide) ?_
        refine lv_iadd hx hb dX2_isInName_114 ?_
        refine lv_topi (fun z_4 ez_4 => ?_)
        have hz_4 : z_4.toInt = sg.toInt + 1 := by rw [ez_4]; exact jb_iadd (rfl) ((by decide)) (by omega) (by omega)
        refine j_put (D := (dC, dI)) (ci := 4) (v := .int z_4) (ty := .int) (C := RX2) (T := TX2) (N := 12) (A := jA base) hx hb hts hin_4 tyX2 tyX2_ok nmX2 hown hK hat_h0 hb0 hS.2.2 rfl 8 (by decide) (hts (.fieldLink RX2 54 "ProofServer$Frames" "signs" "I") (by decide +kernel)) (fun _ h9 => h9) rfl (by decide +kernel) rfl rfl (Nat.le_of_ble_eq_true rfl) dX2_isInName_115 (fun H1 locs1 hat1 hsz1 hfr1 hT1 hL1 => ?_)
        have hfr2 : ∀ q, ¬ (fun q => q = h0) q → H1[q]? = s.heap[q]? := fun q hq => (hfr1 q (fun h => hq (h))).trans (hfr q hq)
        have hsz2 : H1.size = s.heap.size := hsz1.trans hsz
        have hS2 := jS_put hS hsz1 hfr1 hb0 hL1
        try clear hT1
        clear hfr hsz hfr1 hsz1 hL1 hS hat_h0
        have hfr := hfr2
        have hsz := hsz2
        have hS := hS2
        clear hfr2 hsz2 hS2
        generalize locs1 = locs at hS ⊢
        generalize H1 = H at hfr hsz hS hat1 ⊢
        have hat_h0 : va_at (dC, dI) vwCl (h0, .inr (4, [.ref bd, .int len, .int kp, .int ms, .int br, .int pl, .int td, .int fl, .int z_4, .int 0, .int dg, .int vl])) H := hat1
        refine lv_iload_n hx hb dX2_isInName_118 rfl (lv_at hl 0 rfl) ?_
        refine lv_bipush (v := 45) hx hb dX2_isInName_119 (by decide) ?_
        refine lv_icmp_eq (tgt := 136) hx hb dX2_isInName_121 (by decide) (fun c_5 => ?_) (fun c_5 => ?_)
        · skip
          have c_5' : a1.toInt = 45 := jb_eq (rfl) ((by decide)) c_5
          refine lv_iconst (v := 1) hx hb dX2_isInName_136 (by decide) ?_
          refine lv_goto (tgt := 141) hx hb dX2_isInName_137 (by decide) ?_
          rw [hQ]
          exact W.zret (v := 1) hx hb hr (jb_nz (Or.inr rfl)) (fun t ht hW => ⟨⟨1, [.ref bd, .int len, .int kp, .int ms, .int br, .int pl, .int td, .int fl, .int z_4, .int 0, .int dg, .int vl], rfl, ⟨by first | exact Or.inl rfl | exact Or.inr rfl | assumption, len, kp, ms, br, pl, td, fl, z_4, 0, dg, vl, rfl, rfl, rfl, rfl, rfl, rfl, (Or.inl rfl), by refine ⟨?_, ?_, ?_, ?_, ?_, ?_⟩ <;> omega⟩, by rw [ht]; exact hat_h0, by rw [ht]; exact hsz, fun q hq => by rw [ht]; exact hfr q hq⟩, by rw [ht, hsz]; exact Nat.le_refl _, fun q _ hq => by rw [ht]; exact hfr q (fun h => hq (by rw [h]; exact hb0))⟩) hS.2.2 dX2_isInName_141
        · skip
          have c_5' : a1.toInt ≠ 45 := jb_eq_n (rfl) ((by decide)) c_5
          refine lv_iload_n hx hb dX2_isInName_124 rfl (lv_at hl 0 rfl) ?_
          refine lv_bipush (v := 97) hx hb dX2_isInName_125 (by decide) ?_
          refine lv_icmp_lt (tgt := 140) hx hb dX2_isInName_127 (by decide) (fun c_6 => ?_) (fun c_6 => ?_)
          · skip
            have c_6' : a1.toInt < 97 := jb_lt (rfl) ((by decide)) c_6
            refine lv_iconst (v := 0) hx hb dX2_isInName_140 (by decide) ?_
            rw [hQ]
            exact W.zret (v := 0) hx hb hr (jb_nz (Or.inl rfl)) (fun t ht hW => ⟨⟨0, [.ref bd, .int len, .int kp, .int ms, .int br, .int pl, .int td, .int fl, .int z_4, .int 0, .int dg, .int vl], rfl, ⟨by first | exact Or.inl rfl | exact Or.inr rfl | assumption, len, kp, ms, br, pl, td, fl, z_4, 0, dg, vl, rfl, rfl, rfl, rfl, rfl, rfl, (Or.inl rfl), by refine ⟨?_, ?_, ?_, ?_, ?_, ?_⟩ <;> omega⟩, by rw [ht]; exact hat_h0, by rw [ht]; exact hsz, fun q hq => by rw [ht]; exact hfr q hq⟩, by rw [ht, hsz]; exact Nat.le_refl _, fun q _ hq => by rw [ht]; exact hfr q (fun h => hq (by rw [h]; exact hb0))⟩) hS.2.2 dX2_isInName_141
          · skip
            have c_6' : a1.toInt ≥ 97 := jb_lt_n (rfl) ((by decide)) c_6
            refine lv_iload_n hx hb dX2_isInName_130 rfl (lv_at hl 0 rfl) ?_
            refine lv_bipush (v := 122) hx hb dX2_isInName_131 (by decide) ?_
            refine lv_icmp_gt (tgt := 140) hx hb dX2_isInName_133 (by decide) (fun c_7 => ?_) (fun c_7 => ?_)
            · skip
              have c_7' : a1.toInt > 122 := jb_gt (rfl) ((by decide)) c_7
              refine lv_iconst (v := 0) hx hb dX2_isInName_140 (by decide) ?_
              rw [hQ]
              exact W.zret (v := 0) hx hb hr (jb_nz (Or.inl rfl)) (fun t ht hW => ⟨⟨0, [.ref bd, .int len, .int kp, .int ms, .int br, .int pl, .int td, .int fl, .int z_4, .int 0, .int dg, .int vl], rfl, ⟨by first | exact Or.inl rfl | exact Or.inr rfl | assumption, len, kp, ms, br, pl, td, fl, z_4, 0, dg, vl, rfl, rfl, rfl, rfl, rfl, rfl, (Or.inl rfl), by refine ⟨?_, ?_, ?_, ?_, ?_, ?_⟩ <;> omega⟩, by rw [ht]; exact hat_h0, by rw [ht]; exact hsz, fun q hq => by rw [ht]; exact hfr q hq⟩, by rw [ht, hsz]; exact Nat.le_refl _, fun q _ hq => by rw [ht]; exact hfr q (fun h => hq (by rw [h]; exact hb0))⟩) hS.2.2 dX2_isInName_141
            · skip
              have c_7' : a1.toInt ≤ 122 := jb_gt_n (rfl) ((by decide)) c_7
              refine lv_iconst (v := 1) hx hb dX2_isInName_136 (by decide) ?_
              refine lv_goto (tgt := 141) hx hb dX2_isInName_137 (by decide) ?_
              rw [hQ]
              exact W.zret (v := 1) hx hb hr (jb_nz (Or.inr rfl)) (fun t ht hW => ⟨⟨1, [.ref bd, .int len, .int kp, .int ms, .int br, .int pl, .int td, .int fl, .int z_4, .int 0, .int dg, .int vl], rfl, ⟨by first | exact Or.inl rfl | exact Or.inr rfl | assumption, len, kp, ms, br, pl, td, fl, z_4, 0, dg, vl, rfl, rfl, rfl, rfl, rfl, rfl, (Or.inl rfl), by refine ⟨?_, ?_, ?_, ?_, ?_, ?_⟩ <;> omega⟩, by rw [ht]; exact hat_h0, by rw [ht]; exact hsz, fun q hq => by rw [ht]; exact hfr q hq⟩, by rw [ht, hsz]; exact Nat.le_refl _, fun q _ hq => by rw [ht]; exact hfr q (fun h => hq (by rw [h]; exact hb0))⟩) hS.2.2 dX2_isInName_141
      · skip
        have c_3' : il.toInt ≠ 0 := jb_eq_n (rfl) ((by decide)) c_3
        refine lv_aload_n hx hb dX2_isInName_75 rfl (lv_at hl 1 rfl) ?_
        refine va_get (D := (dC, dI)) (ci := 4) (v := .int sg) (C := RX2) (T := TX2) (N := 12) hx hb hts hin_4 hown hK (jp_one hat_h0) 0 rfl rfl 8 (by decide) (hts (.fieldLink RX2 54 "ProofServer$Frames" "signs" "I") (by decide +kernel)) (fun _ h9 => h9) rfl dX2_isInName_76 ?_
        obtain ⟨str_8, rstr_8, hstr_80⟩ := hG.str (o := RX2) (k := 60) (tx := "content-length") (List.mem_of_getElem? (i := 613) (by decide +kernel))
        have hstr_8 : jStr base str_8 14 s s.heap := hstr_80
        refine va_ldcS hx hb hown rstr_8 dX2_isInName_79 ?_
        refine vp_callSi (W.runV (As := []) (rest := [.int sg, .ref h0]) ⟨hx, hb, hml, hown, hts⟩ (kJ0_length_8abf5 l dC dI ca base H str_8 14) (cwV 0 hts gX2_isInName_J0_length_8abf5 rfl rfl rfl (by decide +kernel) ⟨by rw [← hR]; exact Nat.le_of_ble_eq_true rfl, by rw [← hR]; exact Nat.le_of_ble_eq_true rfl⟩) ⟨fun a U g mk q => by obtain ⟨q0, q1, q2, qK, q9⟩ := q; exact ⟨q0, q1, (q2.moved (Vm.Alike.refl U.vm)), jG.calling g mk a qK, q9⟩, jStr_recv hstr_8 hS, fun U hU hW => ⟨rfl, hU, (hstr_8.moved hW.alike).kept hS.2.1, hG.step hW hU hS, by omega⟩⟩ rfl rfl hl.1 rfl (lv_room (Nat.le_of_ble_eq_true rfl)) dX2_isInName_81 ⟨Nat.zero_le _, Nat.zero_le _⟩) (fun r_9 hr_9 => ?_)
        refine lv_icmp_ge (tgt := 104) hx hb dX2_isInName_84 (by decide) (fun c_10 => ?_) (fun c_10 => ?_)
        · skip
          have c_10' : sg.toInt ≥ r_9.toInt := jb_ge (rfl) (rfl) c_10
          refine lv_iconst (v := 0) hx hb dX2_isInName_104 (by decide) ?_
          refine j_put (D := (dC, dI)) (ci := 4) (v := .int 0) (ty := .boolean) (C := RX2) (T := TX2) (N := 12) (A := jA base) hx hb hts hin_4 tyX2 tyX2_ok nmX2 hown hK hat_h0 hb0 hS.2.2 rfl 9 (by decide) (hts (.fieldLink RX2 57 "ProofServer$Frames" "isLengthName" "Z") (by decide +kernel)) (fun _ h9 => h9) rfl (by decide +kernel) (jb_nz (Or.inl rfl)) (jb_fz (Or.inl rfl)) (Nat.le_of_ble_eq_true rfl) dX2_isInName_105 (fun H1 locs1 hat1 hsz1 hfr1 hT1 hL1 => ?_)
          have hfr2 : ∀ q, ¬ (fun q => q = h0) q → H1[q]? = s.heap[q]? := fun q hq => (hfr1 q (fun h => hq (h))).trans (hfr q hq)
          have hsz2 : H1.size = s.heap.size := hsz1.trans hsz
          have hS2 := jS_put hS hsz1 hfr1 hb0 hL1
          try clear hT1
          clear hfr hsz hfr1 hsz1 hL1 hS hat_h0
          have hfr := hfr2
          have hsz := hsz2
          have hS := hS2
          clear hfr2 hsz2 hS2
          generalize locs1 = locs at hS ⊢
          generalize H1 = H at hfr hsz hS hat1 ⊢
          have hat_h0 : va_at (dC, dI) vwCl (h0, .inr (4, [.ref bd, .int len, .int kp, .int ms, .int br, .int pl, .int td, .int fl, .int sg, .int 0, .int dg, .int vl])) H := hat1
          refine lv_aload_n hx hb dX2_isInName_108 rfl (lv_at hl 1 rfl) ?_
          refine lv_dup hx hb dX2_isInName_109 rfl ?_
          refine va_get (D := (dC, dI)) (ci := 4) (v := .int sg) (C := RX2) (T := TX2) (N := 12) hx hb hts hin_4 hown hK (jp_one hat_h0) 0 rfl rfl 8 (by decide) (hts (.fieldLink RX2 54 "ProofServer$Frames" "signs" "I") (by decide +kernel)) (fun _ h9 => h9) rfl dX2_isInName_110 ?_
          refine lv_iconst (v := 1) hx hb dX2_isInName_113 (by decide) ?_
          refine lv_iadd hx hb dX2_isInName_114 ?_
          refine lv_topi (fun z_11 ez_11 => ?_)
          have hz_11 : z_11.toInt = sg.toInt + 1 := by rw [ez_11]; exact jb_iadd (rfl) ((by decide)) (by omega) (by omega)
          refine j_put (D := (dC, dI)) (ci := 4) (v := .int z_11) (ty := .int) (C := RX2) (T := TX2) (N := 12) (A := jA base) hx hb hts hin_4 tyX2 tyX2_ok nmX2 hown hK hat_h0 hb0 hS.2.2 rfl 8 (by decide) (hts (.fieldLink RX2 54 "ProofServer$Frames" "signs" "I") (by decide +kernel)) (fun _ h9 => h9) rfl (by decide +kernel) rfl rfl (Nat.le_of_ble_eq_true rfl) dX2_isInName_115 (fun H1 locs1 hat1 hsz1 hfr1 hT1 hL1 => ?_)
          have hfr2 : ∀ q, ¬ (fun q => q = h0) q → H1[q]? = s.heap[q]? := fun q hq => (hfr1 q (fun h => hq (h))).trans (hfr q hq)
          have hsz2 : H1.size = s.heap.size := hsz1.trans hsz
          have hS2 := jS_put hS hsz1 hfr1 hb0 hL1
          try clear hT1
          clear hfr hsz hfr1 hsz1 hL1 hS hat_h0
          have hfr := hfr2
          have hsz := hsz2
          have hS := hS2
          clear hfr2 hsz2 hS2
          generalize locs1 = locs at hS ⊢
          generalize H1 = H at hfr hsz hS hat1 ⊢
          have hat_h0 : va_at (dC, dI) vwCl (h0, .inr (4, [.ref bd, .int len, .int kp, .int ms, .int br, .int pl, .int td, .int fl, .int z_11, .int 0, .int dg, .int vl])) H := hat1
          refine lv_iload_n hx hb dX2_isInName_118 rfl (lv_at hl 0 rfl) ?_
          refine lv_bipush (v := 45) hx hb dX2_isInName_119 (by decide) ?_
          refine lv_icmp_eq (tgt := 136) hx hb dX2_isInName_121 (by decide) (fun c_12 => ?_) (fun c_12 => ?_)
          · skip
            have c_12' : a1.toInt = 45 := jb_eq (rfl) ((by decide)) c_12
            refine lv_iconst (v := 1) hx hb dX2_isInName_136 (by decide) ?_
            refine lv_goto (tgt := 141) hx hb dX2_isInName_137 (by decide) ?_
            rw [hQ]
            exact W.zret (v := 1) hx hb hr (jb_nz (Or.inr rfl)) (fun t ht hW => ⟨⟨1, [.ref bd, .int len, .int kp, .int ms, .int br, .int pl, .int td, .int fl, .int z_11, .int 0, .int dg, .int vl], rfl, ⟨by first | exact Or.inl rfl | exact Or.inr rfl | assumption, len, kp, ms, br, pl, td, fl, z_11, 0, dg, vl, rfl, rfl, rfl, rfl, rfl, rfl, (Or.inl rfl), by refine ⟨?_, ?_, ?_, ?_, ?_, ?_⟩ <;> omega⟩, by rw [ht]; exact hat_h0, by rw [ht]; exact hsz, fun q hq => by rw [ht]; exact hfr q hq⟩, by rw [ht, hsz]; exact Nat.le_refl _, fun q _ hq => by rw [ht]; exact hfr q (fun h => hq (by rw [h]; exact hb0))⟩) hS.2.2 dX2_isInName_141
          · skip
            have c_12' : a1.toInt ≠ 45 := jb_eq_n (rfl) ((by decide)) c_12
            refine lv_iload_n hx hb dX2_isInName_124 rfl (lv_at hl 0 rfl) ?_
            refine lv_bipush (v := 97) hx hb dX2_isInName_125 (by decide) ?_
            refine lv_icmp_lt (tgt := 140) hx hb dX2_isInName_127 (by decide) (fun c_13 => ?_) (fun c_13 => ?_)
            · skip
              have c_13' : a1.toInt < 97 := jb_lt (rfl) ((by decide)) c_13
              refine lv_iconst (v := 0) hx hb dX2_isInName_140 (by decide) ?_
              rw [hQ]
              exact W.zret (v := 0) hx hb hr (jb_nz (Or.inl rfl)) (fun t ht hW => ⟨⟨0, [.ref bd, .int len, .int kp, .int ms, .int br, .int pl, .int td, .int fl, .int z_11, .int 0, .int dg, .int vl], rfl, ⟨by first | exact Or.inl rfl | exact Or.inr rfl | assumption, len, kp, ms, br, pl, td, fl, z_11, 0, dg, vl, rfl, rfl, rfl, rfl, rfl, rfl, (Or.inl rfl), by refine ⟨?_, ?_, ?_, ?_, ?_, ?_⟩ <;> omega⟩, by rw [ht]; exact hat_h0, by rw [ht]; exact hsz, fun q hq => by rw [ht]; exact hfr q hq⟩, by rw [ht, hsz]; exact Nat.le_refl _, fun q _ hq => by rw [ht]; exact hfr q (fun h => hq (by rw [h]; exact hb0))⟩) hS.2.2 dX2_isInName_141
            · skip
              have c_13' : a1.toInt ≥ 97 := jb_lt_n (rfl) ((by decide)) c_13
              refine lv_iload_n hx hb dX2_isInName_130 rfl (lv_at hl 0 rfl) ?_
              refine lv_bipush (v := 122) hx hb dX2_isInName_131 (by decide) ?_
              refine lv_icmp_gt (tgt := 140) hx hb dX2_isInName_133 (by decide) (fun c_14 => ?_) (fun c_14 => ?_)
              · skip
                have c_14' : a1.toInt > 122 := jb_gt (rfl) ((by decide)) c_14
                refine lv_iconst (v := 0) hx hb dX2_isInName_140 (by decide) ?_
                rw [hQ]
                exact W.zret (v := 0) hx hb hr (jb_nz (Or.inl rfl)) (fun t ht hW => ⟨⟨0, [.ref bd, .int len, .int kp, .int ms, .int br, .int pl, .int td, .int fl, .int z_11, .int 0, .int dg, .int vl], rfl, ⟨by first | exact Or.inl rfl | exact Or.inr rfl | assumption, len, kp, ms, br, pl, td, fl, z_11, 0, dg, vl, rfl, rfl, rfl, rfl, rfl, rfl, (Or.inl rfl), by refine ⟨?_, ?_, ?_, ?_, ?_, ?_⟩ <;> omega⟩, by rw [ht]; exact hat_h0, by rw [ht]; exact hsz, fun q hq => by rw [ht]; exact hfr q hq⟩, by rw [ht, hsz]; exact Nat.le_refl _, fun q _ hq => by rw [ht]; exact hfr q (fun h => hq (by rw [h]; exact hb0))⟩) hS.2.2 dX2_isInName_141
              · skip
                have c_14' : a1.toInt ≤ 122 := jb_gt_n (rfl) ((by decide)) c_14
                refine lv_iconst (v := 1) hx hb dX2_isInName_136 (by decide) ?_
                refine lv_goto (tgt := 141) hx hb dX2_isInName_137 (by decide) ?_
                rw [hQ]
                exact W.zret (v := 1) hx hb hr (jb_nz (Or.inr rfl)) (fun t ht hW => ⟨⟨1, [.ref bd, .int len, .int kp, .int ms, .int br, .int pl, .int td, .int fl, .int z_11, .int 0, .int dg, .int vl], rfl, ⟨by first | exact Or.inl rfl | exact Or.inr rfl | assumption, len, kp, ms, br, pl, td, fl, z_11, 0, dg, vl, rfl, rfl, rfl, rfl, rfl, rfl, (Or.inl rfl), by refine ⟨?_, ?_, ?_, ?_, ?_, ?_⟩ <;> omega⟩, by rw [ht]; exact hat_h0, by rw [ht]; exact hsz, fun q hq => by rw [ht]; exact hfr q hq⟩, by rw [ht, hsz]; exact Nat.le_refl _, fun q _ hq => by rw [ht]; exact hfr q (fun h => hq (by rw [h]; exact hb0))⟩) hS.2.2 dX2_isInName_141
        · skip
          have c_10' : sg.toInt < r_9.toInt := jb_ge_n (rfl) (rfl) c_10
          obtain ⟨str_15, rstr_15, hstr_150⟩ := hG.str (o := RX2) (k := 60) (tx := "content-length") (List.mem_of_getElem? (i := 613) (by decide +kernel))
          have hstr_15 : jStr base str_15 14 s s.heap := hstr_150
          refine va_ldcS hx hb hown rstr_15 dX2_isInName_87 ?_
          refine lv_aload_n hx hb dX2_isInName_89 rfl (lv_at hl 1 rfl) ?_
          refine va_get (D := (dC, dI)) (ci := 4) (v := .int sg) (C := RX2) (T := TX2) (N := 12) hx hb hts hin_4 hown hK (jp_one hat_h0) 0 rfl rfl 8 (by decide) (hts (.fieldLink RX2 54 "ProofServer$Frames" "signs" "I") (by decide +kernel)) (fun _ h9 => h9) rfl dX2_isInName_90 ?_
          refine vp_callSi (W.runV (As := [.int sg]) (rest := [.ref h0]) ⟨hx, hb, hml, hown, hts⟩ (kJ0_charAt_5068e l dC dI ca base H str_15 14 sg) (cwV 1 hts gX2_isInName_J0_charAt_5068e rfl rfl rfl (by decide +kernel) ⟨by rw [← hR]; exact Nat.le_of_ble_eq_true rfl, by rw [← hR]; exact Nat.le_of_ble_eq_true rfl⟩) ⟨fun a U g mk q => by obtain ⟨q0, q1, q2, qK, q9⟩ := q; exact ⟨q0, q1, (q2.moved (Vm.Alike.refl U.vm)), jG.calling g mk a qK, q9⟩, jStr_recv hstr_15 hS, fun U hU hW => ⟨rfl, hU, (hstr_15.moved hW.alike).kept hS.2.1, hG.step hW hU hS, ⟨by omega, by omega, by omega⟩⟩⟩ rfl rfl hl.1 rfl (lv_room (Nat.le_of_ble_eq_true rfl)) dX2_isInName_93 ⟨Nat.zero_le _, Nat.zero_le _⟩) (fun r_16 hr_16 => ?_)
          refine lv_iload_n hx hb dX2_isInName_96 rfl (lv_at hl 0 rfl) ?_
          refine lv_icmp_ne (tgt := 104) hx hb dX2_isInName_97 (by decide) (fun c_17 => ?_) (fun c_17 => ?_)
          · skip
            have c_17' : r_16.toInt ≠ a1.toInt := jb_ne (rfl) (rfl) c_17
            refine lv_iconst (v := 0) hx hb dX2_isInName_104 (by decide) ?_
            refine j_put (D := (dC, dI)) (ci := 4) (v := .int 0) (ty := .boolean) (C := RX2) (T := TX2) (N := 12) (A := jA base) hx hb hts hin_4 tyX2 tyX2_ok nmX2 hown hK hat_h0 hb0 hS.2.2 rfl 9 (by decide) (hts (.fieldLink RX2 57 "ProofServer$Frames" "isLengthName" "Z") (by decide +kernel)) (fun _ h9 => h9) rfl (by decide +kernel) (jb_nz (Or.inl rfl)) (jb_fz (Or.inl rfl)) (Nat.le_of_ble_eq_true rfl) dX2_isInName_105 (fun H1 locs1 hat1 hsz1 hfr1 hT1 hL1 => ?_)
            have hfr2 : ∀ q, ¬ (fun q => q = h0) q → H1[q]? = s.heap[q]? := fun q hq => (hfr1 q (fun h => hq (h))).trans (hfr q hq)
            have hsz2 : H1.size = s.heap.size := hsz1.trans hsz
            have hS2 := jS_put hS hsz1 hfr1 hb0 hL1
            try clear hT1
            clear hfr hsz hfr1 hsz1 hL1 hS hat_h0
            have hfr := hfr2
            have hsz := hsz2
            have hS := hS2
            clear hfr2 hsz2 hS2
            generalize locs1 = locs at hS ⊢
            generalize H1 = H at hfr hsz hS hat1 ⊢
            have hat_h0 : va_at (dC, dI) vwCl (h0, .inr (4, [.ref bd, .int len, .int kp, .int ms, .int br, .int pl, .int td, .int fl, .int sg, .int 0, .int dg, .int vl])) H := hat1
            refine lv_aload_n hx hb dX2_isInName_108 rfl (lv_at hl 1 rfl) ?_
            refine lv_dup hx hb dX2_isInName_109 rfl ?_
            refine va_get (D := (dC, dI)) (ci := 4) (v := .int sg) (C := RX2) (T := TX2) (N := 12) hx hb hts hin_4 hown hK (jp_one hat_h0) 0 rfl rfl 8 (by decide) (hts (.fieldLink RX2 54 "ProofServer$Frames" "signs" "I") (by decide +kernel)) (fun _ h9 => h9) rfl dX2_isInName_110 ?_
            refine lv_iconst (v := 1) hx hb dX2_isInName_113 (by decide) ?_
            refine lv_iadd hx hb dX2_isInName_114 ?_
            refine lv_topi (fun z_18 ez_18 => ?_)
            have hz_18 : z_18.toInt = sg.toInt + 1 := by rw [ez_18]; exact jb_iadd (rfl) ((by decide)) (by omega) (by omega)
            refine j_put (D := (dC, dI)) (ci := 4) (v := .int z_18) (ty := .int) (C := RX2) (T := TX2) (N := 12) (A := jA base) hx hb hts hin_4 tyX2 tyX2_ok nmX2 hown hK hat_h0 hb0 hS.2.2 rfl 8 (by decide) (hts (.fieldLink RX2 54 "ProofServer$Frames" "signs" "I") (by decide +kernel)) (fun _ h9 => h9) rfl (by decide +kernel) rfl rfl (Nat.le_of_ble_eq_true rfl) dX2_isInName_115 (fun H1 locs1 hat1 hsz1 hfr1 hT1 hL1 => ?_)
            have hfr2 : ∀ q, ¬ (fun q => q = h0) q → H1[q]? = s.heap[q]? := fun q hq => (hfr1 q (fun h => hq (h))).trans (hfr q hq)
            have hsz2 : H1.size = s.heap.size := hsz1.trans hsz
            have hS2 := jS_put hS hsz1 hfr1 hb0 hL1
            try clear hT1
            clear hfr hsz hfr1 hsz1 hL1 hS hat_h0
            have hfr := hfr2
            have hsz := hsz2
            have hS := hS2
            clear hfr2 hsz2 hS2
            generalize locs1 = locs at hS ⊢
            generalize H1 = H at hfr hsz hS hat1 ⊢
            have hat_h0 : va_at (dC, dI) vwCl (h0, .inr (4, [.ref bd, .int len, .int kp, .int ms, .int br, .int pl, .int td, .int fl, .int z_18, .int 0, .int dg, .int vl])) H := hat1
            refine lv_iload_n hx hb dX2_isInName_118 rfl (lv_at hl 0 rfl) ?_
            refine lv_bipush (v := 45) hx hb dX2_isInName_119 (by decide) ?_
            refine lv_icmp_eq (tgt := 136) hx hb dX2_isInName_121 (by decide) (fun c_19 => ?_) (fun c_19 => ?_)
            · skip
              have c_19' : a1.toInt = 45 := jb_eq (rfl) ((by decide)) c_19
              refine lv_iconst (v := 1) hx hb dX2_isInName_136 (by decide) ?_
              refine lv_goto (tgt := 141) hx hb dX2_isInName_137 (by decide) ?_
              rw [hQ]
              exact W.zret (v := 1) hx hb hr (jb_nz (Or.inr rfl)) (fun t ht hW => ⟨⟨1, [.ref bd, .int len, .int kp, .int ms, .int br, .int pl, .int td, .int fl, .int z_18, .int 0, .int dg, .int vl], rfl, ⟨by first | exact Or.inl rfl | exact Or.inr rfl | assumption, len, kp, ms, br, pl, td, fl, z_18, 0, dg, vl, rfl, rfl, rfl, rfl, rfl, rfl, (Or.inl rfl), by refine ⟨?_, ?_, ?_, ?_, ?_, ?_⟩ <;> omega⟩, by rw [ht]; exact hat_h0, by rw [ht]; exact hsz, fun q hq => by rw [ht]; exact hfr q hq⟩, by rw [ht, hsz]; exact Nat.le_refl _, fun q _ hq => by rw [ht]; exact hfr q (fun h => hq (by rw [h]; exact hb0))⟩) hS.2.2 dX2_isInName_141
            · skip
              have c_19' : a1.toInt ≠ 45 := jb_eq_n (rfl) ((by decide)) c_19
              refine lv_iload_n hx hb dX2_isInName_124 rfl (lv_at hl 0 rfl) ?_
              refine lv_bipush (v := 97) hx hb dX2_isInName_125 (by decide) ?_
              refine lv_icmp_lt (tgt := 140) hx hb dX2_isInName_127 (by decide) (fun c_20 => ?_) (fun c_20 => ?_)
              · skip
                have c_20' : a1.toInt < 97 := jb_lt (rfl) ((by decide)) c_20
                refine lv_iconst (v := 0) hx hb dX2_isInName_140 (by decide) ?_
                rw [hQ]
                exact W.zret (v := 0) hx hb hr (jb_nz (Or.inl rfl)) (fun t ht hW => ⟨⟨0, [.ref bd, .int len, .int kp, .int ms, .int br, .int pl, .int td, .int fl, .int z_18, .int 0, .int dg, .int vl], rfl, ⟨by first | exact Or.inl rfl | exact Or.inr rfl | assumption, len, kp, ms, br, pl, td, fl, z_18, 0, dg, vl, rfl, rfl, rfl, rfl, rfl, rfl, (Or.inl rfl), by refine ⟨?_, ?_, ?_, ?_, ?_, ?_⟩ <;> omega⟩, by rw [ht]; exact hat_h0, by rw [ht]; exact hsz, fun q hq => by rw [ht]; exact hfr q hq⟩, by rw [ht, hsz]; exact Nat.le_refl _, fun q _ hq => by rw [ht]; exact hfr q (fun h => hq (by rw [h]; exact hb0))⟩) hS.2.2 dX2_isInName_141
              · skip
                have c_20' : a1.toInt ≥ 97 := jb_lt_n (rfl) ((by decide)) c_20
                refine lv_iload_n hx hb dX2_isInName_130 rfl (lv_at hl 0 rfl) ?_
                refine lv_bipush (v := 122) hx hb dX2_isInName_131 (by decide) ?_
                refine lv_icmp_gt (tgt := 140) hx hb dX2_isInName_133 (by decide) (fun c_21 => ?_) (fun c_21 => ?_)
                · skip
                  have c_21' : a1.toInt > 122 := jb_gt (rfl) ((by decide)) c_21
                  refine lv_iconst (v := 0) hx hb dX2_isInName_140 (by decide) ?_
                  rw [hQ]
                  exact W.zret (v := 0) hx hb hr (jb_nz (Or.inl rfl)) (fun t ht hW => ⟨⟨0, [.ref bd, .int len, .int kp, .int ms, .int br, .int pl, .int td, .int fl, .int z_18, .int 0, .int dg, .int vl], rfl, ⟨by first | exact Or.inl rfl | exact Or.inr rfl | assumption, len, kp, ms, br, pl, td, fl, z_18, 0, dg, vl, rfl, rfl, rfl, rfl, rfl, rfl, (Or.inl rfl), by refine ⟨?_, ?_, ?_, ?_, ?_, ?_⟩ <;> omega⟩, by rw [ht]; exact hat_h0, by rw [ht]; exact hsz, fun q hq => by rw [ht]; exact hfr q hq⟩, by rw [ht, hsz]; exact Nat.le_refl _, fun q _ hq => by rw [ht]; exact hfr q (fun h => hq (by rw [h]; exact hb0))⟩) hS.2.2 dX2_isInName_141
                · skip
                  have c_21' : a1.toInt ≤ 122 := jb_gt_n (rfl) ((by decide)) c_21
                  refine lv_iconst (v := 1) hx hb dX2_isInName_136 (by decide) ?_
                  refine lv_goto (tgt := 141) hx hb dX2_isInName_137 (by decide) ?_
                  rw [hQ]
                  exact W.zret (v := 1) hx hb hr (jb_nz (Or.inr rfl)) (fun t ht hW => ⟨⟨1, [.ref bd, .int len, .int kp, .int ms, .int br, .int pl, .int td, .int fl, .int z_18, .int 0, .int dg, .int vl], rfl, ⟨by first | exact Or.inl rfl | exact Or.inr rfl | assumption, len, kp, ms, br, pl, td, fl, z_18, 0, dg, vl, rfl, rfl, rfl, rfl, rfl, rfl, (Or.inl rfl), by refine ⟨?_, ?_, ?_, ?_, ?_, ?_⟩ <;> omega⟩, by rw [ht]; exact hat_h0, by rw [ht]; exact hsz, fun q hq => by rw [ht]; exact hfr q hq⟩, by rw [ht, hsz]; exact Nat.le_refl _, fun q _ hq => by rw [ht]; exact hfr q (fun h => hq (by rw [h]; exact hb0))⟩) hS.2.2 dX2_isInName_141
          · skip
            have c_17' : r_16.toInt = a1.toInt := jb_ne_n (rfl) (rfl) c_17
            refine lv_iconst (v := 1) hx hb dX2_isInName_100 (by decide) ?_
            refine lv_goto (tgt := 105) hx hb dX2_isInName_101 (by decide) ?_
            refine j_put (D := (dC, dI)) (ci := 4) (v := .int 1) (ty := .boolean) (C := RX2) (T := TX2) (N := 12) (A := jA base) hx hb hts hin_4 tyX2 tyX2_ok nmX2 hown hK hat_h0 hb0 hS.2.2 rfl 9 (by decide) (hts (.fieldLink RX2 57 "ProofServer$Frames" "isLengthName" "Z") (by decide +kernel)) (fun _ h9 => h9) rfl (by decide +kernel) (jb_nz (Or.inr rfl)) (jb_fz (Or.inr rfl)) (Nat.le_of_ble_eq_true rfl) dX2_isInName_105 (fun H1 locs1 hat1 hsz1 hfr1 hT1 hL1 => ?_)
            have hfr2 : ∀ q, ¬ (fun q => q = h0) q → H1[q]? = s.heap[q]? := fun q hq => (hfr1 q (fun h => hq (h))).trans (hfr q hq)
            have hsz2 : H1.size = s.heap.size := hsz1.trans hsz
            have hS2 := jS_put hS hsz1 hfr1 hb0 hL1
            try clear hT1
            clear hfr hsz hfr1 hsz1 hL1 hS hat_h0
            have hfr := hfr2
            have hsz := hsz2
            have hS := hS2
            clear hfr2 hsz2 hS2
            generalize locs1 = locs at hS ⊢
            generalize H1 = H at hfr hsz hS hat1 ⊢
            have hat_h0 : va_at (dC, dI) vwCl (h0, .inr (4, [.ref bd, .int len, .int kp, .int ms, .int br, .int pl, .int td, .int fl, .int sg, .int 1, .int dg, .int vl])) H := hat1
            refine lv_aload_n hx hb dX2_isInName_108 rfl (lv_at hl 1 rfl) ?_
            refine lv_dup hx hb dX2_isInName_109 rfl ?_
            refine va_get (D := (dC, dI)) (ci := 4) (v := .int sg) (C := RX2) (T := TX2) (N := 12) hx hb hts hin_4 hown hK (jp_one hat_h0) 0 rfl rfl 8 (by decide) (hts (.fieldLink RX2 54 "ProofServer$Frames" "signs" "I") (by decide +kernel)) (fun _ h9 => h9) rfl dX2_isInName_110 ?_
            refine lv_iconst (v := 1) hx hb dX2_isInName_113 (by decide) ?_
            refine lv_iadd hx hb dX2_isInName_114 ?_
            refine lv_topi (fun z_22 ez_22 => ?_)
            have hz_22 : z_22.toInt = sg.toInt + 1 := by rw [ez_22]; exact jb_iadd (rfl) ((by decide)) (by omega) (by omega)
            refine j_put (D := (dC, dI)) (ci := 4) (v := .int z_22) (ty := .int) (C := RX2) (T := TX2) (N := 12) (A := jA base) hx hb hts hin_4 tyX2 tyX2_ok nmX2 hown hK hat_h0 hb0 hS.2.2 rfl 8 (by decide) (hts (.fieldLink RX2 54 "ProofServer$Frames" "signs" "I") (by decide +kernel)) (fun _ h9 => h9) rfl (by decide +kernel) rfl rfl (Nat.le_of_ble_eq_true rfl) dX2_isInName_115 (fun H1 locs1 hat1 hsz1 hfr1 hT1 hL1 => ?_)
            have hfr2 : ∀ q, ¬ (fun q => q = h0) q → H1[q]? = s.heap[q]? := fun q hq => (hfr1 q (fun h => hq (h))).trans (hfr q hq)
            have hsz2 : H1.size = s.heap.size := hsz1.trans hsz
            have hS2 := jS_put hS hsz1 hfr1 hb0 hL1
            try clear hT1
            clear hfr hsz hfr1 hsz1 hL1 hS hat_h0
            have hfr := hfr2
            have hsz := hsz2
            have hS := hS2
            clear hfr2 hsz2 hS2
            generalize locs1 = locs at hS ⊢
            generalize H1 = H at hfr hsz hS hat1 ⊢
            have hat_h0 : va_at (dC, dI) vwCl (h0, .inr (4, [.ref bd, .int len, .int kp, .int ms, .int br, .int pl, .int td, .int fl, .int z_22, .int 1, .int dg, .int vl])) H := hat1
            refine lv_iload_n hx hb dX2_isInName_118 rfl (lv_at hl 0 rfl) ?_
            refine lv_bipush (v := 45) hx hb dX2_isInName_119 (by decide) ?_
            refine lv_icmp_eq (tgt := 136) hx hb dX2_isInName_121 (by decide) (fun c_23 => ?_) (fun c_23 => ?_)
            · skip
              have c_23' : a1.toInt = 45 := jb_eq (rfl) ((by decide)) c_23
              refine lv_iconst (v := 1) hx hb dX2_isInName_136 (by decide) ?_
              refine lv_goto (tgt := 141) hx hb dX2_isInName_137 (by decide) ?_
              rw [hQ]
              exact W.zret (v := 1) hx hb hr (jb_nz (Or.inr rfl)) (fun t ht hW => ⟨⟨1, [.ref bd, .int len, .int kp, .int ms, .int br, .int pl, .int td, .int fl, .int z_22, .int 1, .int dg, .int vl], rfl, ⟨by first | exact Or.inl rfl | exact Or.inr rfl | assumption, len, kp, ms, br, pl, td, fl, z_22, 1, dg, vl, rfl, rfl, rfl, rfl, rfl, rfl, (Or.inr rfl), by refine ⟨?_, ?_, ?_, ?_, ?_, ?_⟩ <;> omega⟩, by rw [ht]; exact hat_h0, by rw [ht]; exact hsz, fun q hq => by rw [ht]; exact hfr q hq⟩, by rw [ht, hsz]; exact Nat.le_refl _, fun q _ hq => by rw [ht]; exact hfr q (fun h => hq (by rw [h]; exact hb0))⟩) hS.2.2 dX2_isInName_141
            · skip
              have c_23' : a1.toInt ≠ 45 := jb_eq_n (rfl) ((by decide)) c_23
              refine lv_iload_n hx hb dX2_isInName_124 rfl (lv_at hl 0 rfl) ?_
              refine lv_bipush (v := 97) hx hb dX2_isInName_125 (by decide) ?_
              refine lv_icmp_lt (tgt := 140) hx hb dX2_isInName_127 (by decide) (fun c_24 => ?_) (fun c_24 => ?_)
              · skip
                have c_24' : a1.toInt < 97 := jb_lt (rfl) ((by decide)) c_24
                refine lv_iconst (v := 0) hx hb dX2_isInName_140 (by decide) ?_
                rw [hQ]
                exact W.zret (v := 0) hx hb hr (jb_nz (Or.inl rfl)) (fun t ht hW => ⟨⟨0, [.ref bd, .int len, .int kp, .int ms, .int br, .int pl, .int td, .int fl, .int z_22, .int 1, .int dg, .int vl], rfl, ⟨by first | exact Or.inl rfl | exact Or.inr rfl | assumption, len, kp, ms, br, pl, td, fl, z_22, 1, dg, vl, rfl, rfl, rfl, rfl, rfl, rfl, (Or.inr rfl), by refine ⟨?_, ?_, ?_, ?_, ?_, ?_⟩ <;> omega⟩, by rw [ht]; exact hat_h0, by rw [ht]; exact hsz, fun q hq => by rw [ht]; exact hfr q hq⟩, by rw [ht, hsz]; exact Nat.le_refl _, fun q _ hq => by rw [ht]; exact hfr q (fun h => hq (by rw [h]; exact hb0))⟩) hS.2.2 dX2_isInName_141
              · skip
                have c_24' : a1.toInt ≥ 97 := jb_lt_n (rfl) ((by decide)) c_24
                refine lv_iload_n hx hb dX2_isInName_130 rfl (lv_at hl 0 rfl) ?_
                refine lv_bipush (v := 122) hx hb dX2_isInName_131 (by decide) ?_
                refine lv_icmp_gt (tgt := 140) hx hb dX2_isInName_133 (by decide) (fun c_25 => ?_) (fun c_25 => ?_)
                · skip
                  have c_25' : a1.toInt > 122 := jb_gt (rfl) ((by decide)) c_25
                  refine lv_iconst (v := 0) hx hb dX2_isInName_140 (by decide) ?_
                  rw [hQ]
                  exact W.zret (v := 0) hx hb hr (jb_nz (Or.inl rfl)) (fun t ht hW => ⟨⟨0, [.ref bd, .int len, .int kp, .int ms, .int br, .int pl, .int td, .int fl, .int z_22, .int 1, .int dg, .int vl], rfl, ⟨by first | exact Or.inl rfl | exact Or.inr rfl | assumption, len, kp, ms, br, pl, td, fl, z_22, 1, dg, vl, rfl, rfl, rfl, rfl, rfl, rfl, (Or.inr rfl), by refine ⟨?_, ?_, ?_, ?_, ?_, ?_⟩ <;> omega⟩, by rw [ht]; exact hat_h0, by rw [ht]; exact hsz, fun q hq => by rw [ht]; exact hfr q hq⟩, by rw [ht, hsz]; exact Nat.le_refl _, fun q _ hq => by rw [ht]; exact hfr q (fun h => hq (by rw [h]; exact hb0))⟩) hS.2.2 dX2_isInName_141
                · skip
                  have c_25' : a1.toInt ≤ 122 := jb_gt_n (rfl) ((by decide)) c_25
                  refine lv_iconst (v := 1) hx hb dX2_isInName_136 (by decide) ?_
                  refine lv_goto (tgt := 141) hx hb dX2_isInName_137 (by decide) ?_
                  rw [hQ]
                  exact W.zret (v := 1) hx hb hr (jb_nz (Or.inr rfl)) (fun t ht hW => ⟨⟨1, [.ref bd, .int len, .int kp, .int ms, .int br, .int pl, .int td, .int fl, .int z_22, .int 1, .int dg, .int vl], rfl, ⟨by first | exact Or.inl rfl | exact Or.inr rfl | assumption, len, kp, ms, br, pl, td, fl, z_22, 1, dg, vl, rfl, rfl, rfl, rfl, rfl, rfl, (Or.inr rfl), by refine ⟨?_, ?_, ?_, ?_, ?_, ?_⟩ <;> omega⟩, by rw [ht]; exact hat_h0, by rw [ht]; exact hsz, fun q hq => by rw [ht]; exact hfr q hq⟩, by rw [ht, hsz]; exact Nat.le_refl _, fun q _ hq => by rw [ht]; exact hfr q (fun h => hq (by rw [h]; exact hb0))⟩) hS.2.2 dX2_isInName_141
    · skip
      have c_2' : a1.toInt ≥ 65 := jb_lt_n (rfl) ((by decide)) c_2
      refine lv_iload_n hx hb dX2_isInName_52 rfl (lv_at hl 1 rfl) ?_
      refine lv_bipush (v := 90) hx hb dX2_isInName_53 (by decide) ?_
      refine lv_icmp_gt (tgt := 65) hx hb dX2_isInName_55 (by decide) (fun c_26 => ?_) (fun c_26 => ?_)
      · skip
        have c_26' : a1.toInt > 90 := jb_gt (rfl) ((by decide)) c_26
        refine lv_iload_n hx hb dX2_isInName_65 rfl (lv_at hl 1 rfl) ?_
        refine lv_istore_n (lv' := [(2, .int a1), (0, .ref h0), (1, .int a1)]) hx hb dX2_isInName_66 rfl hl (by decide) rfl (fun ls hl => ?_)
        refine lv_aload_n hx hb dX2_isInName_67 rfl (lv_at hl 1 rfl) ?_
        refine lv_aload_n hx hb dX2_isInName_68 rfl (lv_at hl 1 rfl) ?_
        refine va_get (D := (dC, dI)) (ci := 4) (v := .int il) (C := RX2) (T := TX2) (N := 12) hx hb hts hin_4 hown hK (jp_one hat_h0) 0 rfl rfl 9 (by decide) (hts (.fieldLink RX2 57 "ProofServer$Frames" "isLengthName" "Z") (by decide +kernel)) (fun _ h9 => h9) rfl dX2_isInName_69 ?_
        refine lv_if_eq (tgt := 104) hx hb dX2_isInName_72 (by decide) (fun c_27 => ?_) (fun c_27 => ?_)
        · skip
          have c_27' : il.toInt = 0 := jb_eq (rfl) ((by decide)) c_27
          refine lv_iconst (v := 0) hx hb dX2_isInName_104 (by decide) ?_
          refine j_put (D := (dC, dI)) (ci := 4) (v := .int 0) (ty := .boolean) (C := RX2) (T := TX2) (N := 12) (A := jA base) hx hb hts hin_4 tyX2 tyX2_ok nmX2 hown hK hat_h0 hb0 hS.2.2 rfl 9 (by decide) (hts (.fieldLink RX2 57 "ProofServer$Frames" "isLengthName" "Z") (by decide +kernel)) (fun _ h9 => h9) rfl (by decide +kernel) (jb_nz (Or.inl rfl)) (jb_fz (Or.inl rfl)) (Nat.le_of_ble_eq_true rfl) dX2_isInName_105 (fun H1 locs1 hat1 hsz1 hfr1 hT1 hL1 => ?_)
          have hfr2 : ∀ q, ¬ (fun q => q = h0) q → H1[q]? = s.heap[q]? := fun q hq => (hfr1 q (fun h => hq (h))).trans (hfr q hq)
          have hsz2 : H1.size = s.heap.size := hsz1.trans hsz
          have hS2 := jS_put hS hsz1 hfr1 hb0 hL1
          try clear hT1
          clear hfr hsz hfr1 hsz1 hL1 hS hat_h0
          have hfr := hfr2
          have hsz := hsz2
          have hS := hS2
          clear hfr2 hsz2 hS2
          generalize locs1 = locs at hS ⊢
          generalize H1 = H at hfr hsz hS hat1 ⊢
          have hat_h0 : va_at (dC, dI) vwCl (h0, .inr (4, [.ref bd, .int len, .int kp, .int ms, .int br, .int pl, .int td, .int fl, .int sg, .int 0, .int dg, .int vl])) H := hat1
          refine lv_aload_n hx hb dX2_isInName_108 rfl (lv_at hl 1 rfl) ?_
          refine lv_dup hx hb dX2_isInName_109 rfl ?_
          refine va_get (D := (dC, dI)) (ci := 4) (v := .int sg) (C := RX2) (T := TX2) (N := 12) hx hb hts hin_4 hown hK (jp_one hat_h0) 0 rfl rfl 8 (by decide) (hts (.fieldLink RX2 54 "ProofServer$Frames" "signs" "I") (by decide +kernel)) (fun _ h9 => h9) rfl dX2_isInName_110 ?_
          refine lv_iconst (v := 1) hx hb dX2_isInName_113 (by decide) ?_
          refine lv_iadd hx hb dX2_isInName_114 ?_
          refine lv_topi (fun z_28 ez_28 => ?_)
          have hz_28 : z_28.toInt = sg.toInt + 1 := by rw [ez_28]; exact jb_iadd (rfl) ((by decide)) (by omega) (by omega)
          refine j_put (D := (dC, dI)) (ci := 4) (v := .int z_28) (ty := .int) (C := RX2) (T := TX2) (N := 12) (A := jA base) hx hb hts hin_4 tyX2 tyX2_ok nmX2 hown hK hat_h0 hb0 hS.2.2 rfl 8 (by decide) (hts (.fieldLink RX2 54 "ProofServer$Frames" "signs" "I") (by decide +kernel)) (fun _ h9 => h9) rfl (by decide +kernel) rfl rfl (Nat.le_of_ble_eq_true rfl) dX2_isInName_115 (fun H1 locs1 hat1 hsz1 hfr1 hT1 hL1 => ?_)
          have hfr2 : ∀ q, ¬ (fun q => q = h0) q → H1[q]? = s.heap[q]? := fun q hq => (hfr1 q (fun h => hq (h))).trans (hfr q hq)
          have hsz2 : H1.size = s.heap.size := hsz1.trans hsz
          have hS2 := jS_put hS hsz1 hfr1 hb0 hL1
          try clear hT1
          clear hfr hsz hfr1 hsz1 hL1 hS hat_h0
          have hfr := hfr2
          have hsz := hsz2
          have hS := hS2
          clear hfr2 hsz2 hS2
          generalize locs1 = locs at hS ⊢
          generalize H1 = H at hfr hsz hS hat1 ⊢
          have hat_h0 : va_at (dC, dI) vwCl (h0, .inr (4, [.ref bd, .int len, .int kp, .int ms, .int br, .int pl, .int td, .int fl, .int z_28, .int 0, .int dg, .int vl])) H := hat1
          refine lv_iload_n hx hb dX2_isInName_118 rfl (lv_at hl 0 rfl) ?_
          refine lv_bipush (v := 45) hx hb dX2_isInName_119 (by decide) ?_
          refine lv_icmp_eq (tgt := 136) hx hb dX2_isInName_121 (by decide) (fun c_29 => ?_) (fun c_29 => ?_)
          · skip
            have c_29' : a1.toInt = 45 := jb_eq (rfl) ((by decide)) c_29
            refine lv_iconst (v := 1) hx hb dX2_isInName_136 (by decide) ?_
            refine lv_goto (tgt := 141) hx hb dX2_isInName_137 (by decide) ?_
            rw [hQ]
            exact W.zret (v := 1) hx hb hr (jb_nz (Or.inr rfl)) (fun t ht hW => ⟨⟨1, [.ref bd, .int len, .int kp, .int ms, .int br, .int pl, .int td, .int fl, .int z_28, .int 0, .int dg, .int vl], rfl, ⟨by first | exact Or.inl rfl | exact Or.inr rfl | assumption, len, kp, ms, br, pl, td, fl, z_28, 0, dg, vl, rfl, rfl, rfl, rfl, rfl, rfl, (Or.inl rfl), by refine ⟨?_, ?_, ?_, ?_, ?_, ?_⟩ <;> omega⟩, by rw [ht]; exact hat_h0, by rw [ht]; exact hsz, fun q hq => by rw [ht]; exact hfr q hq⟩, by rw [ht, hsz]; exact Nat.le_refl _, fun q _ hq => by rw [ht]; exact hfr q (fun h => hq (by rw [h]; exact hb0))⟩) hS.2.2 dX2_isInName_141
          · skip
            have c_29' : a1.toInt ≠ 45 := jb_eq_n (rfl) ((by decide)) c_29
            refine lv_iload_n hx hb dX2_isInName_124 rfl (lv_at hl 0 rfl) ?_
            refine lv_bipush (v := 97) hx hb dX2_isInName_125 (by decide) ?_
            refine lv_icmp_lt (tgt := 140) hx hb dX2_isInName_127 (by decide) (fun c_30 => ?_) (fun c_30 => ?_)
            · skip
              have c_30' : a1.toInt < 97 := jb_lt (rfl) ((by decide)) c_30
              refine lv_iconst (v := 0) hx hb dX2_isInName_140 (by decide) ?_
              rw [hQ]
              exact W.zret (v := 0) hx hb hr (jb_nz (Or.inl rfl)) (fun t ht hW => ⟨⟨0, [.ref bd, .int len, .int kp, .int ms, .int br, .int pl, .int td, .int fl, .int z_28, .int 0, .int dg, .int vl], rfl, ⟨by first | exact Or.inl rfl | exact Or.inr rfl | assumption, len, kp, ms, br, pl, td, fl, z_28, 0, dg, vl, rfl, rfl, rfl, rfl, rfl, rfl, (Or.inl rfl), by refine ⟨?_, ?_, ?_, ?_, ?_, ?_⟩ <;> omega⟩, by rw [ht]; exact hat_h0, by rw [ht]; exact hsz, fun q hq => by rw [ht]; exact hfr q hq⟩, by rw [ht, hsz]; exact Nat.le_refl _, fun q _ hq => by rw [ht]; exact hfr q (fun h => hq (by rw [h]; exact hb0))⟩) hS.2.2 dX2_isInName_141
            · skip
              have c_30' : a1.toInt ≥ 97 := jb_lt_n (rfl) ((by decide)) c_30
              refine lv_iload_n hx hb dX2_isInName_130 rfl (lv_at hl 0 rfl) ?_
              refine lv_bipush (v := 122) hx hb dX2_isInName_131 (by decide) ?_
              refine lv_icmp_gt (tgt := 140) hx hb dX2_isInName_133 (by decide) (fun c_31 => ?_) (fun c_31 => ?_)
              · skip
                have c_31' : a1.toInt > 122 := jb_gt (rfl) ((by decide)) c_31
                refine lv_iconst (v := 0) hx hb dX2_isInName_140 (by decide) ?_
                rw [hQ]
                exact W.zret (v := 0) hx hb hr (jb_nz (Or.inl rfl)) (fun t ht hW => ⟨⟨0, [.ref bd, .int len, .int kp, .int ms, .int br, .int pl, .int td, .int fl, .int z_28, .int 0, .int dg, .int vl], rfl, ⟨by first | exact Or.inl rfl | exact Or.inr rfl | assumption, len, kp, ms, br, pl, td, fl, z_28, 0, dg, vl, rfl, rfl, rfl, rfl, rfl, rfl, (Or.inl rfl), by refine ⟨?_, ?_, ?_, ?_, ?_, ?_⟩ <;> omega⟩, by rw [ht]; exact hat_h0, by rw [ht]; exact hsz, fun q hq => by rw [ht]; exact hfr q hq⟩, by rw [ht, hsz]; exact Nat.le_refl _, fun q _ hq => by rw [ht]; exact hfr q (fun h => hq (by rw [h]; exact hb0))⟩) hS.2.2 dX2_isInName_141
              · skip
                have c_31' : a1.toInt ≤ 122 := jb_gt_n (rfl) ((by decide)) c_31
                refine lv_iconst (v := 1) hx hb dX2_isInName_136 (by decide) ?_
                refine lv_goto (tgt := 141) hx hb dX2_isInName_137 (by decide) ?_
                rw [hQ]
                exact W.zret (v := 1) hx hb hr (jb_nz (Or.inr rfl)) (fun t ht hW => ⟨⟨1, [.ref bd, .int len, .int kp, .int ms, .int br, .int pl, .int td, .int fl, .int z_28, .int 0, .int dg, .int vl], rfl, ⟨by first | exact Or.inl rfl | exact Or.inr rfl | assumption, len, kp, ms, br, pl, td, fl, z_28, 0, dg, vl, rfl, rfl, rfl, rfl, rfl, rfl, (Or.inl rfl), by refine ⟨?_, ?_, ?_, ?_, ?_, ?_⟩ <;> omega⟩, by rw [ht]; exact hat_h0, by rw [ht]; exact hsz, fun q hq => by rw [ht]; exact hfr q hq⟩, by rw [ht, hsz]; exact Nat.le_refl _, fun q _ hq => by rw [ht]; exact hfr q (fun h => hq (by rw [h]; exact hb0))⟩) hS.2.2 dX2_isInName_141
        · skip
          have c_27' : il.toInt ≠ 0 := jb_eq_n (rfl) ((by decide)) c_27
          refine lv_aload_n hx hb dX2_isInName_75 rfl (lv_at hl 1 rfl) ?_
          refine va_get (D := (dC, dI)) (ci := 4) (v := .int sg) (C := RX2) (T := TX2) (N := 12) hx hb hts hin_4 hown hK (jp_one hat_h0) 0 rfl rfl 8 (by decide) (hts (.fieldLink RX2 54 "ProofServer$Frames" "signs" "I") (by decide +kernel)) (fun _ h9 => h9) rfl dX2_isInName_76 ?_
          obtain ⟨str_32, rstr_32, hstr_320⟩ := hG.str (o := RX2) (k := 60) (tx := "content-length") (List.mem_of_getElem? (i := 613) (by decide +kernel))
          have hstr_32 : jStr base str_32 14 s s.heap := hstr_320
          refine va_ldcS hx hb hown rstr_32 dX2_isInName_79 ?_
          refine vp_callSi (W.runV (As := []) (rest := [.int sg, .ref h0]) ⟨hx, hb, hml, hown, hts⟩ (kJ0_length_8abf5 l dC dI ca base H str_32 14) (cwV 0 hts gX2_isInName_J0_length_8abf5 rfl rfl rfl (by decide +kernel) ⟨by rw [← hR]; exact Nat.le_of_ble_eq_true rfl, by rw [← hR]; exact Nat.le_of_ble_eq_true rfl⟩) ⟨fun a U g mk q => by obtain ⟨q0, q1, q2, qK, q9⟩ := q; exact ⟨q0, q1, (q2.moved (Vm.Alike.refl U.vm)), jG.calling g mk a qK, q9⟩, jStr_recv hstr_32 hS, fun U hU hW => ⟨rfl, hU, (hstr_32.moved hW.alike).kept hS.2.1, hG.step hW hU hS, by omega⟩⟩ rfl rfl hl.1 rfl (lv_room (Nat.le_of_ble_eq_true rfl)) dX2_isInName_81 ⟨Nat.zero_le _, Nat.zero_le _⟩) (fun r_33 hr_33 => ?_)
          refine lv_icmp_ge (tgt := 104) hx hb dX2_isInName_84 (by decide) (fun c_34 => ?_) (fun c_34 => ?_)
          · skip
            have c_34' : sg.toInt ≥ r_33.toInt := jb_ge (rfl) (rfl) c_34
            refine lv_iconst (v := 0) hx hb dX2_isInName_104 (by decide) ?_
            refine j_put (D := (dC, dI)) (ci := 4) (v := .int 0) (ty := .boolean) (C := RX2) (T := TX2) (N := 12) (A := jA base) hx hb hts hin_4 tyX2 tyX2_ok nmX2 hown hK hat_h0 hb0 hS.2.2 rfl 9 (by decide) (hts (.fieldLink RX2 57 "ProofServer$Frames" "isLengthName" "Z") (by decide +kernel)) (fun _ h9 => h9) rfl (by decide +kernel) (jb_nz (Or.inl rfl)) (jb_fz (Or.inl rfl)) (Nat.le_of_ble_eq_true rfl) dX2_isInName_105 (fun H1 locs1 hat1 hsz1 hfr1 hT1 hL1 => ?_)
            have hfr2 : ∀ q, ¬ (fun q => q = h0) q → H1[q]? = s.heap[q]? := fun q hq => (hfr1 q (fun h => hq (h))).trans (hfr q hq)
            have hsz2 : H1.size = s.heap.size := hsz1.trans hsz
            have hS2 := jS_put hS hsz1 hfr1 hb0 hL1
            try clear hT1
            clear hfr hsz hfr1 hsz1 hL1 hS hat_h0
            have hfr := hfr2
            have hsz := hsz2
            have hS := hS2
            clear hfr2 hsz2 hS2
            generalize locs1 = locs at hS ⊢
            generalize H1 = H at hfr hsz hS hat1 ⊢
            have hat_h0 : va_at (dC, dI) vwCl (h0, .inr (4, [.ref bd, .int len, .int kp, .int ms, .int br, .int pl, .int td, .int fl, .int sg, .int 0, .int dg, .int vl])) H := hat1
            refine lv_aload_n hx hb dX2_isInName_108 rfl (lv_at hl 1 rfl) ?_
            refine lv_dup hx hb dX2_isInName_109 rfl ?_
            refine va_get (D := (dC, dI)) (ci := 4) (v := .int sg) (C := RX2) (T := TX2) (N := 12) hx hb hts hin_4 hown hK (jp_one hat_h0) 0 rfl rfl 8 (by decide) (hts (.fieldLink RX2 54 "ProofServer$Frames" "signs" "I") (by decide +kernel)) (fun _ h9 => h9) rfl dX2_isInName_110 ?_
            refine lv_iconst (v := 1) hx hb dX2_isInName_113 (by decide) ?_
            refine lv_iadd hx hb dX2_isInName_114 ?_
            refine lv_topi (fun z_35 ez_35 => ?_)
            have hz_35 : z_35.toInt = sg.toInt + 1 := by rw [ez_35]; exact jb_iadd (rfl) ((by decide)) (by omega) (by omega)
            refine j_put (D := (dC, dI)) (ci := 4) (v := .int z_35) (ty := .int) (C := RX2) (T := TX2) (N := 12) (A := jA base) hx hb hts hin_4 tyX2 tyX2_ok nmX2 hown hK hat_h0 hb0 hS.2.2 rfl 8 (by decide) (hts (.fieldLink RX2 54 "ProofServer$Frames" "signs" "I") (by decide +kernel)) (fun _ h9 => h9) rfl (by decide +kernel) rfl rfl (Nat.le_of_ble_eq_true rfl) dX2_isInName_115 (fun H1 locs1 hat1 hsz1 hfr1 hT1 hL1 => ?_)
            have hfr2 : ∀ q, ¬ (fun q => q = h0) q → H1[q]? = s.heap[q]? := fun q hq => (hfr1 q (fun h => hq (h))).trans (hfr q hq)
            have hsz2 : H1.size = s.heap.size := hsz1.trans hsz
            have hS2 := jS_put hS hsz1 hfr1 hb0 hL1
            try clear hT1
            clear hfr hsz hfr1 hsz1 hL1 hS hat_h0
            have hfr := hfr2
            have hsz := hsz2
            have hS := hS2
            clear hfr2 hsz2 hS2
            generalize locs1 = locs at hS ⊢
            generalize H1 = H at hfr hsz hS hat1 ⊢
            have hat_h0 : va_at (dC, dI) vwCl (h0, .inr (4, [.ref bd, .int len, .int kp, .int ms, .int br, .int pl, .int td, .int fl, .int z_35, .int 0, .int dg, .int vl])) H := hat1
            refine lv_iload_n hx hb dX2_isInName_118 rfl (lv_at hl 0 rfl) ?_
            refine lv_bipush (v := 45) hx hb dX2_isInName_119 (by decide) ?_
            refine lv_icmp_eq (tgt := 136) hx hb dX2_isInName_121 (by decide) (fun c_36 => ?_) (fun c_36 => ?_)
            · skip
              have c_36' : a1.toInt = 45 := jb_eq (rfl) ((by decide)) c_36
              refine lv_iconst (v := 1) hx hb dX2_isInName_136 (by decide) ?_
              refine lv_goto (tgt := 141) hx hb dX2_isInName_137 (by decide) ?_
              rw [hQ]
              exact W.zret (v := 1) hx hb hr (jb_nz (Or.inr rfl)) (fun t ht hW => ⟨⟨1, [.ref bd, .int len, .int kp, .int ms, .int br, .int pl, .int td, .int fl, .int z_35, .int 0, .int dg, .int vl], rfl, ⟨by first | exact Or.inl rfl | exact Or.inr rfl | assumption, len, kp, ms, br, pl, td, fl, z_35, 0, dg, vl, rfl, rfl, rfl, rfl, rfl, rfl, (Or.inl rfl), by refine ⟨?_, ?_, ?_, ?_, ?_, ?_⟩ <;> omega⟩, by rw [ht]; exact hat_h0, by rw [ht]; exact hsz, fun q hq => by rw [ht]; exact hfr q hq⟩, by rw [ht, hsz]; exact Nat.le_refl _, fun q _ hq => by rw [ht]; exact hfr q (fun h => hq (by rw [h]; exact hb0))⟩) hS.2.2 dX2_isInName_141
            · skip
              have c_36' : a1.toInt ≠ 45 := jb_eq_n (rfl) ((by decide)) c_36
              refine lv_iload_n hx hb dX2_isInName_124 rfl (lv_at hl 0 rfl) ?_
              refine lv_bipush (v := 97) hx hb dX2_isInName_125 (by decide) ?_
              refine lv_icmp_lt (tgt := 140) hx hb dX2_isInName_127 (by decide) (fun c_37 => ?_) (fun c_37 => ?_)
              · skip
                have c_37' : a1.toInt < 97 := jb_lt (rfl) ((by decide)) c_37
                refine lv_iconst (v := 0) hx hb dX2_isInName_140 (by decide) ?_
                rw [hQ]
                exact W.zret (v := 0) hx hb hr (jb_nz (Or.inl rfl)) (fun t ht hW => ⟨⟨0, [.ref bd, .int len, .int kp, .int ms, .int br, .int pl, .int td, .int fl, .int z_35, .int 0, .int dg, .int vl], rfl, ⟨by first | exact Or.inl rfl | exact Or.inr rfl | assumption, len, kp, ms, br, pl, td, fl, z_35, 0, dg, vl, rfl, rfl, rfl, rfl, rfl, rfl, (Or.inl rfl), by refine ⟨?_, ?_, ?_, ?_, ?_, ?_⟩ <;> omega⟩, by rw [ht]; exact hat_h0, by rw [ht]; exact hsz, fun q hq => by rw [ht]; exact hfr q hq⟩, by rw [ht, hsz]; exact Nat.le_refl _, fun q _ hq => by rw [ht]; exact hfr q (fun h => hq (by rw [h]; exact hb0))⟩) hS.2.2 dX2_isInName_141
              · skip
                have c_37' : a1.toInt ≥ 97 := jb_lt_n (rfl) ((by decide)) c_37
                refine lv_iload_n hx hb dX2_isInName_130 rfl (lv_at hl 0 rfl) ?_
                refine lv_bipush (v := 122) hx hb dX2_isInName_131 (by decide) ?_
                refine lv_icmp_gt (tgt := 140) hx hb dX2_isInName_133 (by decide) (fun c_38 => ?_) (fun c_38 => ?_)
                · skip
                  have c_38' : a1.toInt > 122 := jb_gt (rfl) ((by decide)) c_38
                  refine lv_iconst (v := 0) hx hb dX2_isInName_140 (by decide) ?_
                  rw [hQ]
                  exact W.zret (v := 0) hx hb hr (jb_nz (Or.inl rfl)) (fun t ht hW => ⟨⟨0, [.ref bd, .int len, .int kp, .int ms, .int br, .int pl, .int td, .int fl, .int z_35, .int 0, .int dg, .int vl], rfl, ⟨by first | exact Or.inl rfl | exact Or.inr rfl | assumption, len, kp, ms, br, pl, td, fl, z_35, 0, dg, vl, rfl, rfl, rfl, rfl, rfl, rfl, (Or.inl rfl), by refine ⟨?_, ?_, ?_, ?_, ?_, ?_⟩ <;> omega⟩, by rw [ht]; exact hat_h0, by rw [ht]; exact hsz, fun q hq => by rw [ht]; exact hfr q hq⟩, by rw [ht, hsz]; exact Nat.le_refl _, fun q _ hq => by rw [ht]; exact hfr q (fun h => hq (by rw [h]; exact hb0))⟩) hS.2.2 dX2_isInName_141
                · skip
                  have c_38' : a1.toInt ≤ 122 := jb_gt_n (rfl) ((by decide)) c_38
                  refine lv_iconst (v := 1) hx hb dX2_isInName_136 (by decide) ?_
                  refine lv_goto (tgt := 141) hx hb dX2_isInName_137 (by decide) ?_
                  rw [hQ]
                  exact W.zret (v := 1) hx hb hr (jb_nz (Or.inr rfl)) (fun t ht hW => ⟨⟨1, [.ref bd, .int len, .int kp, .int ms, .int br, .int pl, .int td, .int fl, .int z_35, .int 0, .int dg, .int vl], rfl, ⟨by first | exact Or.inl rfl | exact Or.inr rfl | assumption, len, kp, ms, br, pl, td, fl, z_35, 0, dg, vl, rfl, rfl, rfl, rfl, rfl, rfl, (Or.inl rfl), by refine ⟨?_, ?_, ?_, ?_, ?_, ?_⟩ <;> omega⟩, by rw [ht]; exact hat_h0, by rw [ht]; exact hsz, fun q hq => by rw [ht]; exact hfr q hq⟩, by rw [ht, hsz]; exact Nat.le_refl _, fun q _ hq => by rw [ht]; exact hfr q (fun h => hq (by rw [h]; exact hb0))⟩) hS.2.2 dX2_isInName_141
          · skip
            have c_34' : sg.toInt < r_33.toInt := jb_ge_n (rfl) (rfl) c_34
            obtain ⟨str_39, rstr_39, hstr_390⟩ := hG.str (o := RX2) (k := 60) (tx := "content-length") (List.mem_of_getElem? (i := 613) (by decide +kernel))
            have hstr_39 : jStr base str_39 14 s s.heap := hstr_390
            refine va_ldcS hx hb hown rstr_39 dX2_isInName_87 ?_
            refine lv_aload_n hx hb dX2_isInName_89 rfl (lv_at hl 1 rfl) ?_
            refine va_get (D := (dC, dI)) (ci := 4) (v := .int sg) (C := RX2) (T := TX2) (N := 12) hx hb hts hin_4 hown hK (jp_one hat_h0) 0 rfl rfl 8 (by decide) (hts (.fieldLink RX2 54 "ProofServer$Frames" "signs" "I") (by decide +kernel)) (fun _ h9 => h9) rfl dX2_isInName_90 ?_
            refine vp_callSi (W.runV (As := [.int sg]) (rest := [.ref h0]) ⟨hx, hb, hml, hown, hts⟩ (kJ0_charAt_5068e l dC dI ca base H str_39 14 sg) (cwV 1 hts gX2_isInName_J0_charAt_5068e rfl rfl rfl (by decide +kernel) ⟨by rw [← hR]; exact Nat.le_of_ble_eq_true rfl, by rw [← hR]; exact Nat.le_of_ble_eq_true rfl⟩) ⟨fun a U g mk q => by obtain ⟨q0, q1, q2, qK, q9⟩ := q; exact ⟨q0, q1, (q2.moved (Vm.Alike.refl U.vm)), jG.calling g mk a qK, q9⟩, jStr_recv hstr_39 hS, fun U hU hW => ⟨rfl, hU, (hstr_39.moved hW.alike).kept hS.2.1, hG.step hW hU hS, ⟨by omega, by omega, by omega⟩⟩⟩ rfl rfl hl.1 rfl (lv_room (Nat.le_of_ble_eq_true rfl)) dX2_isInName_93 ⟨Nat.zero_le _, Nat.zero_le _⟩) (fun r_40 hr_40 => ?_)
            refine lv_iload_n hx hb dX2_isInName_96 rfl (lv_at hl 0 rfl) ?_
            refine lv_icmp_ne (tgt := 104) hx hb dX2_isInName_97 (by decide) (fun c_41 => ?_) (fun c_41 => ?_)
            · skip
              have c_41' : r_40.toInt ≠ a1.toInt := jb_ne (rfl) (rfl) c_41
              refine lv_iconst (v := 0) hx hb dX2_isInName_104 (by decide) ?_
              refine j_put (D := (dC, dI)) (ci := 4) (v := .int 0) (ty := .boolean) (C := RX2) (T := TX2) (N := 12) (A := jA base) hx hb hts hin_4 tyX2 tyX2_ok nmX2 hown hK hat_h0 hb0 hS.2.2 rfl 9 (by decide) (hts (.fieldLink RX2 57 "ProofServer$Frames" "isLengthName" "Z") (by decide +kernel)) (fun _ h9 => h9) rfl (by decide +kernel) (jb_nz (Or.inl rfl)) (jb_fz (Or.inl rfl)) (Nat.le_of_ble_eq_true rfl) dX2_isInName_105 (fun H1 locs1 hat1 hsz1 hfr1 hT1 hL1 => ?_)
              have hfr2 : ∀ q, ¬ (fun q => q = h0) q → H1[q]? = s.heap[q]? := fun q hq => (hfr1 q (fun h => hq (h))).trans (hfr q hq)
              have hsz2 : H1.size = s.heap.size := hsz1.trans hsz
              have hS2 := jS_put hS hsz1 hfr1 hb0 hL1
              try clear hT1
              clear hfr hsz hfr1 hsz1 hL1 hS hat_h0
              have hfr := hfr2
              have hsz := hsz2
              have hS := hS2
              clear hfr2 hsz2 hS2
              generalize locs1 = locs at hS ⊢
              generalize H1 = H at hfr hsz hS hat1 ⊢
              have hat_h0 : va_at (dC, dI) vwCl (h0, .inr (4, [.ref bd, .int len, .int kp, .int ms, .int br, .int pl, .int td, .int fl, .int sg, .int 0, .int dg, .int vl])) H := hat1
              refine lv_aload_n hx hb dX2_isInName_108 rfl (lv_at hl 1 rfl) ?_
              refine lv_dup hx hb dX2_isInName_109 rfl ?_
              refine va_get (D := (dC, dI)) (ci := 4) (v := .int sg) (C := RX2) (T := TX2) (N := 12) hx hb hts hin_4 hown hK (jp_one hat_h0) 0 rfl rfl 8 (by decide) (hts (.fieldLink RX2 54 "ProofServer$Frames" "signs" "I") (by decide +kernel)) (fun _ h9 => h9) rfl dX2_isInName_110 ?_
              refine lv_iconst (v := 1) hx hb dX2_isInName_113 (by decide) ?_
              refine lv_iadd hx hb dX2_isInName_114 ?_
              refine lv_topi (fun z_42 ez_42 => ?_)
              have hz_42 : z_42.toInt = sg.toInt + 1 := by rw [ez_42]; exact jb_iadd (rfl) ((by decide)) (by omega) (by omega)
              refine j_put (D := (dC, dI)) (ci := 4) (v := .int z_42) (ty := .int) (C := RX2) (T := TX2) (N := 12) (A := jA base) hx hb hts hin_4 tyX2 tyX2_ok nmX2 hown hK hat_h0 hb0 hS.2.2 rfl 8 (by decide) (hts (.fieldLink RX2 54 "ProofServer$Frames" "signs" "I") (by decide +kernel)) (fun _ h9 => h9) rfl (by decide +kernel) rfl rfl (Nat.le_of_ble_eq_true rfl) dX2_isInName_115 (fun H1 locs1 hat1 hsz1 hfr1 hT1 hL1 => ?_)
              have hfr2 : ∀ q, ¬ (fun q => q = h0) q → H1[q]? = s.heap[q]? := fun q hq => (hfr1 q (fun h => hq (h))).trans (hfr q hq)
              have hsz2 : H1.size = s.heap.size := hsz1.trans hsz
              have hS2 := jS_put hS hsz1 hfr1 hb0 hL1
              try clear hT1
              clear hfr hsz hfr1 hsz1 hL1 hS hat_h0
              have hfr := hfr2
              have hsz := hsz2
              have hS := hS2
              clear hfr2 hsz2 hS2
              generalize locs1 = locs at hS ⊢
              generalize H1 = H at hfr hsz hS hat1 ⊢
              have hat_h0 : va_at (dC, dI) vwCl (h0, .inr (4, [.ref bd, .int len, .int kp, .int ms, .int br, .int pl, .int td, .int fl, .int z_42, .int 0, .int dg, .int vl])) H := hat1
              refine lv_iload_n hx hb dX2_isInName_118 rfl (lv_at hl 0 rfl) ?_
              refine lv_bipush (v := 45) hx hb dX2_isInName_119 (by decide) ?_
              refine lv_icmp_eq (tgt := 136) hx hb dX2_isInName_121 (by decide) (fun c_43 => ?_) (fun c_43 => ?_)
              · skip
                have c_43' : a1.toInt = 45 := jb_eq (rfl) ((by decide)) c_43
                refine lv_iconst (v := 1) hx hb dX2_isInName_136 (by decide) ?_
                refine lv_goto (tgt := 141) hx hb dX2_isInName_137 (by decide) ?_
                rw [hQ]
                exact W.zret (v := 1) hx hb hr (jb_nz (Or.inr rfl)) (fun t ht hW => ⟨⟨1, [.ref bd, .int len, .int kp, .int ms, .int br, .int pl, .int td, .int fl, .int z_42, .int 0, .int dg, .int vl], rfl, ⟨by first | exact Or.inl rfl | exact Or.inr rfl | assumption, len, kp, ms, br, pl, td, fl, z_42, 0, dg, vl, rfl, rfl, rfl, rfl, rfl, rfl, (Or.inl rfl), by refine ⟨?_, ?_, ?_, ?_, ?_, ?_⟩ <;> omega⟩, by rw [ht]; exact hat_h0, by rw [ht]; exact hsz, fun q hq => by rw [ht]; exact hfr q hq⟩, by rw [ht, hsz]; exact Nat.le_refl _, fun q _ hq => by rw [ht]; exact hfr q (fun h => hq (by rw [h]; exact hb0))⟩) hS.2.2 dX2_isInName_141
              · skip
                have c_43' : a1.toInt ≠ 45 := jb_eq_n (rfl) ((by decide)) c_43
                refine lv_iload_n hx hb dX2_isInName_124 rfl (lv_at hl 0 rfl) ?_
                refine lv_bipush (v := 97) hx hb dX2_isInName_125 (by decide) ?_
                refine lv_icmp_lt (tgt := 140) hx hb dX2_isInName_127 (by decide) (fun c_44 => ?_) (fun c_44 => ?_)
                · skip
                  have c_44' : a1.toInt < 97 := jb_lt (rfl) ((by decide)) c_44
                  refine lv_iconst (v := 0) hx hb dX2_isInName_140 (by decide) ?_
                  rw [hQ]
                  exact W.zret (v := 0) hx hb hr (jb_nz (Or.inl rfl)) (fun t ht hW => ⟨⟨0, [.ref bd, .int len, .int kp, .int ms, .int br, .int pl, .int td, .int fl, .int z_42, .int 0, .int dg, .int vl], rfl, ⟨by first | exact Or.inl rfl | exact Or.inr rfl | assumption, len, kp, ms, br, pl, td, fl, z_42, 0, dg, vl, rfl, rfl, rfl, rfl, rfl, rfl, (Or.inl rfl), by refine ⟨?_, ?_, ?_, ?_, ?_, ?_⟩ <;> omega⟩, by rw [ht]; exact hat_h0, by rw [ht]; exact hsz, fun q hq => by rw [ht]; exact hfr q hq⟩, by rw [ht, hsz]; exact Nat.le_refl _, fun q _ hq => by rw [ht]; exact hfr q (fun h => hq (by rw [h]; exact hb0))⟩) hS.2.2 dX2_isInName_141
                · skip
                  have c_44' : a1.toInt ≥ 97 := jb_lt_n (rfl) ((by decide)) c_44
                  refine lv_iload_n hx hb dX2_isInName_130 rfl (lv_at hl 0 rfl) ?_
                  refine lv_bipush (v := 122) hx hb dX2_isInName_131 (by decide) ?_
                  refine lv_icmp_gt (tgt := 140) hx hb dX2_isInName_133 (by decide) (fun c_45 => ?_) (fun c_45 => ?_)
                  · skip
                    have c_45' : a1.toInt > 122 := jb_gt (rfl) ((by decide)) c_45
                    refine lv_iconst (v := 0) hx hb dX2_isInName_140 (by decide) ?_
                    rw [hQ]
                    exact W.zret (v := 0) hx hb hr (jb_nz (Or.inl rfl)) (fun t ht hW => ⟨⟨0, [.ref bd, .int len, .int kp, .int ms, .int br, .int pl, .int td, .int fl, .int z_42, .int 0, .int dg, .int vl], rfl, ⟨by first | exact Or.inl rfl | exact Or.inr rfl | assumption, len, kp, ms, br, pl, td, fl, z_42, 0, dg, vl, rfl, rfl, rfl, rfl, rfl, rfl, (Or.inl rfl), by refine ⟨?_, ?_, ?_, ?_, ?_, ?_⟩ <;> omega⟩, by rw [ht]; exact hat_h0, by rw [ht]; exact hsz, fun q hq => by rw [ht]; exact hfr q hq⟩, by rw [ht, hsz]; exact Nat.le_refl _, fun q _ hq => by rw [ht]; exact hfr q (fun h => hq (by rw [h]; exact hb0))⟩) hS.2.2 dX2_isInName_141
                  · skip
                    have c_45' : a1.toInt ≤ 122 := jb_gt_n (rfl) ((by decide)) c_45
                    refine lv_iconst (v := 1) hx hb dX2_isInName_136 (by decide) ?_
                    refine lv_goto (tgt := 141) hx hb dX2_isInName_137 (by decide) ?_
                    rw [hQ]
                    exact W.zret (v := 1) hx hb hr (jb_nz (Or.inr rfl)) (fun t ht hW => ⟨⟨1, [.ref bd, .int len, .int kp, .int ms, .int br, .int pl, .int td, .int fl, .int z_42, .int 0, .int dg, .int vl], rfl, ⟨by first | exact Or.inl rfl | exact Or.inr rfl | assumption, len, kp, ms, br, pl, td, fl, z_42, 0, dg, vl, rfl, rfl, rfl, rfl, rfl, rfl, (Or.inl rfl), by refine ⟨?_, ?_, ?_, ?_, ?_, ?_⟩ <;> omega⟩, by rw [ht]; exact hat_h0, by rw [ht]; exact hsz, fun q hq => by rw [ht]; exact hfr q hq⟩, by rw [ht, hsz]; exact Nat.le_refl _, fun q _ hq => by rw [ht]; exact hfr q (fun h => hq (by rw [h]; exact hb0))⟩) hS.2.2 dX2_isInName_141
            · skip
              have c_41' : r_40.toInt = a1.toInt := jb_ne_n (rfl) (rfl) c_41
              refine lv_iconst (v := 1) hx hb dX2_isInName_100 (by decide) ?_
              refine lv_goto (tgt := 105) hx hb dX2_isInName_101 (by decide) ?_
              refine j_put (D := (dC, dI)) (ci := 4) (v := .int 1) (ty := .boolean) (C := RX2) (T := TX2) (N := 12) (A := jA base) hx hb hts hin_4 tyX2 tyX2_ok nmX2 hown hK hat_h0 hb0 hS.2.2 rfl 9 (by decide) (hts (.fieldLink RX2 57 "ProofServer$Frames" "isLengthName" "Z") (by decide +kernel)) (fun _ h9 => h9) rfl (by decide +kernel) (jb_nz (Or.inr rfl)) (jb_fz (Or.inr rfl)) (Nat.le_of_ble_eq_true rfl) dX2_isInName_105 (fun H1 locs1 hat1 hsz1 hfr1 hT1 hL1 => ?_)
              have hfr2 : ∀ q, ¬ (fun q => q = h0) q → H1[q]? = s.heap[q]? := fun q hq => (hfr1 q (fun h => hq (h))).trans (hfr q hq)
              have hsz2 : H1.size = s.heap.size := hsz1.trans hsz
              have hS2 := jS_put hS hsz1 hfr1 hb0 hL1
              try clear hT1
              clear hfr hsz hfr1 hsz1 hL1 hS hat_h0
              have hfr := hfr2
              have hsz := hsz2
              have hS := hS2
              clear hfr2 hsz2 hS2
              generalize locs1 = locs at hS ⊢
              generalize H1 = H at hfr hsz hS hat1 ⊢
              have hat_h0 : va_at (dC, dI) vwCl (h0, .inr (4, [.ref bd, .int len, .int kp, .int ms, .int br, .int pl, .int td, .int fl, .int sg, .int 1, .int dg, .int vl])) H := hat1
              refine lv_aload_n hx hb dX2_isInName_108 rfl (lv_at hl 1 rfl) ?_
              refine lv_dup hx hb dX2_isInName_109 rfl ?_
              refine va_get (D := (dC, dI)) (ci := 4) (v := .int sg) (C := RX2) (T := TX2) (N := 12) hx hb hts hin_4 hown hK (jp_one hat_h0) 0 rfl rfl 8 (by decide) (hts (.fieldLink RX2 54 "ProofServer$Frames" "signs" "I") (by decide +kernel)) (fun _ h9 => h9) rfl dX2_isInName_110 ?_
              refine lv_iconst (v := 1) hx hb dX2_isInName_113 (by decide) ?_
              refine lv_iadd hx hb dX2_isInName_114 ?_
              refine lv_topi (fun z_46 ez_46 => ?_)
              have hz_46 : z_46.toInt = sg.toInt + 1 := by rw [ez_46]; exact jb_iadd (rfl) ((by decide)) (by omega) (by omega)
              refine j_put (D := (dC, dI)) (ci := 4) (v := .int z_46) (ty := .int) (C := RX2) (T := TX2) (N := 12) (A := jA base) hx hb hts hin_4 tyX2 tyX2_ok nmX2 hown hK hat_h0 hb0 hS.2.2 rfl 8 (by decide) (hts (.fieldLink RX2 54 "ProofServer$Frames" "signs" "I") (by decide +kernel)) (fun _ h9 => h9) rfl (by decide +kernel) rfl rfl (Nat.le_of_ble_eq_true rfl) dX2_isInName_115 (fun H1 locs1 hat1 hsz1 hfr1 hT1 hL1 => ?_)
              have hfr2 : ∀ q, ¬ (fun q => q = h0) q → H1[q]? = s.heap[q]? := fun q hq => (hfr1 q (fun h => hq (h))).trans (hfr q hq)
              have hsz2 : H1.size = s.heap.size := hsz1.trans hsz
              have hS2 := jS_put hS hsz1 hfr1 hb0 hL1
              try clear hT1
              clear hfr hsz hfr1 hsz1 hL1 hS hat_h0
              have hfr := hfr2
              have hsz := hsz2
              have hS := hS2
              clear hfr2 hsz2 hS2
              generalize locs1 = locs at hS ⊢
              generalize H1 = H at hfr hsz hS hat1 ⊢
              have hat_h0 : va_at (dC, dI) vwCl (h0, .inr (4, [.ref bd, .int len, .int kp, .int ms, .int br, .int pl, .int td, .int fl, .int z_46, .int 1, .int dg, .int vl])) H := hat1
              refine lv_iload_n hx hb dX2_isInName_118 rfl (lv_at hl 0 rfl) ?_
              refine lv_bipush (v := 45) hx hb dX2_isInName_119 (by decide) ?_
              refine lv_icmp_eq (tgt := 136) hx hb dX2_isInName_121 (by decide) (fun c_47 => ?_) (fun c_47 => ?_)
              · skip
                have c_47' : a1.toInt = 45 := jb_eq (rfl) ((by decide)) c_47
                refine lv_iconst (v := 1) hx hb dX2_isInName_136 (by decide) ?_
                refine lv_goto (tgt := 141) hx hb dX2_isInName_137 (by decide) ?_
                rw [hQ]
                exact W.zret (v := 1) hx hb hr (jb_nz (Or.inr rfl)) (fun t ht hW => ⟨⟨1, [.ref bd, .int len, .int kp, .int ms, .int br, .int pl, .int td, .int fl, .int z_46, .int 1, .int dg, .int vl], rfl, ⟨by first | exact Or.inl rfl | exact Or.inr rfl | assumption, len, kp, ms, br, pl, td, fl, z_46, 1, dg, vl, rfl, rfl, rfl, rfl, rfl, rfl, (Or.inr rfl), by refine ⟨?_, ?_, ?_, ?_, ?_, ?_⟩ <;> omega⟩, by rw [ht]; exact hat_h0, by rw [ht]; exact hsz, fun q hq => by rw [ht]; exact hfr q hq⟩, by rw [ht, hsz]; exact Nat.le_refl _, fun q _ hq => by rw [ht]; exact hfr q (fun h => hq (by rw [h]; exact hb0))⟩) hS.2.2 dX2_isInName_141
              · skip
                have c_47' : a1.toInt ≠ 45 := jb_eq_n (rfl) ((by decide)) c_47
                refine lv_iload_n hx hb dX2_isInName_124 rfl (lv_at hl 0 rfl) ?_
                refine lv_bipush (v := 97) hx hb dX2_isInName_125 (by decide) ?_
                refine lv_icmp_lt (tgt := 140) hx hb dX2_isInName_127 (by decide) (fun c_48 => ?_) (fun c_48 => ?_)
                · skip
                  have c_48' : a1.toInt < 97 := jb_lt (rfl) ((by decide)) c_48
                  refine lv_iconst (v := 0) hx hb dX2_isInName_140 (by decide) ?_
                  rw [hQ]
                  exact W.zret (v := 0) hx hb hr (jb_nz (Or.inl rfl)) (fun t ht hW => ⟨⟨0, [.ref bd, .int len, .int kp, .int ms, .int br, .int pl, .int td, .int fl, .int z_46, .int 1, .int dg, .int vl], rfl, ⟨by first | exact Or.inl rfl | exact Or.inr rfl | assumption, len, kp, ms, br, pl, td, fl, z_46, 1, dg, vl, rfl, rfl, rfl, rfl, rfl, rfl, (Or.inr rfl), by refine ⟨?_, ?_, ?_, ?_, ?_, ?_⟩ <;> omega⟩, by rw [ht]; exact hat_h0, by rw [ht]; exact hsz, fun q hq => by rw [ht]; exact hfr q hq⟩, by rw [ht, hsz]; exact Nat.le_refl _, fun q _ hq => by rw [ht]; exact hfr q (fun h => hq (by rw [h]; exact hb0))⟩) hS.2.2 dX2_isInName_141
                · skip
                  have c_48' : a1.toInt ≥ 97 := jb_lt_n (rfl) ((by decide)) c_48
                  refine lv_iload_n hx hb dX2_isInName_130 rfl (lv_at hl 0 rfl) ?_
                  refine lv_bipush (v := 122) hx hb dX2_isInName_131 (by decide) ?_
                  refine lv_icmp_gt (tgt := 140) hx hb dX2_isInName_133 (by decide) (fun c_49 => ?_) (fun c_49 => ?_)
                  · skip
                    have c_49' : a1.toInt > 122 := jb_gt (rfl) ((by decide)) c_49
                    refine lv_iconst (v := 0) hx hb dX2_isInName_140 (by decide) ?_
                    rw [hQ]
                    exact W.zret (v := 0) hx hb hr (jb_nz (Or.inl rfl)) (fun t ht hW => ⟨⟨0, [.ref bd, .int len, .int kp, .int ms, .int br, .int pl, .int td, .int fl, .int z_46, .int 1, .int dg, .int vl], rfl, ⟨by first | exact Or.inl rfl | exact Or.inr rfl | assumption, len, kp, ms, br, pl, td, fl, z_46, 1, dg, vl, rfl, rfl, rfl, rfl, rfl, rfl, (Or.inr rfl), by refine ⟨?_, ?_, ?_, ?_, ?_, ?_⟩ <;> omega⟩, by rw [ht]; exact hat_h0, by rw [ht]; exact hsz, fun q hq => by rw [ht]; exact hfr q hq⟩, by rw [ht, hsz]; exact Nat.le_refl _, fun q _ hq => by rw [ht]; exact hfr q (fun h => hq (by rw [h]; exact hb0))⟩) hS.2.2 dX2_isInName_141
                  · skip
                    have c_49' : a1.toInt ≤ 122 := jb_gt_n (rfl) ((by decide)) c_49
                    refine lv_iconst (v := 1) hx hb dX2_isInName_136 (by decide) ?_
                    refine lv_goto (tgt := 141) hx hb dX2_isInName_137 (by decide) ?_
                    rw [hQ]
                    exact W.zret (v := 1) hx hb hr (jb_nz (Or.inr rfl)) (fun t ht hW => ⟨⟨1, [.ref bd, .int len, .int kp, .int ms, .int br, .int pl, .int td, .int fl, .int z_46, .int 1, .int dg, .int vl], rfl, ⟨by first | exact Or.inl rfl | exact Or.inr rfl | assumption, len, kp, ms, br, pl, td, fl, z_46, 1, dg, vl, rfl, rfl, rfl, rfl, rfl, rfl, (Or.inr rfl), by refine ⟨?_, ?_, ?_, ?_, ?_, ?_⟩ <;> omega⟩, by rw [ht]; exact hat_h0, by rw [ht]; exact hsz, fun q hq => by rw [ht]; exact hfr q hq⟩, by rw [ht, hsz]; exact Nat.le_refl _, fun q _ hq => by rw [ht]; exact hfr q (fun h => hq (by rw [h]; exact hb0))⟩) hS.2.2 dX2_isInName_141
      · skip
        have c_26' : a1.toInt ≤ 90 := jb_gt_n (rfl) ((by decide)) c_26
        refine lv_iload_n hx hb dX2_isInName_58 rfl (lv_at hl 1 rfl) ?_
        refine lv_bipush (v := 32) hx hb dX2_isInName_59 (by decide) ?_
        refine lv_iadd hx hb dX2_isInName_61 ?_
        refine lv_topi (fun z_50 ez_50 => ?_)
        have hz_50 : z_50.toInt = a1.toInt + 32 := by rw [ez_50]; exact jb_iadd (rfl) ((by decide)) (by omega) (by omega)
        refine lv_goto (tgt := 66) hx hb dX2_isInName_62 (by decide) ?_
        refine lv_istore_n (lv' := [(2, .int z_50), (0, .ref h0), (1, .int a1)]) hx hb dX2_isInName_66 rfl hl (by decide) rfl (fun ls hl => ?_)
        refine lv_aload_n hx hb dX2_isInName_67 rfl (lv_at hl 1 rfl) ?_
        refine lv_aload_n hx hb dX2_isInName_68 rfl (lv_at hl 1 rfl) ?_
        refine va_get (D := (dC, dI)) (ci := 4) (v := .int il) (C := RX2) (T := TX2) (N := 12) hx hb hts hin_4 hown hK (jp_one hat_h0) 0 rfl rfl 9 (by decide) (hts (.fieldLink RX2 57 "ProofServer$Frames" "isLengthName" "Z") (by decide +kernel)) (fun _ h9 => h9) rfl dX2_isInName_69 ?_
        refine lv_if_eq (tgt := 104) hx hb dX2_isInName_72 (by decide) (fun c_51 => ?_) (fun c_51 => ?_)
        · skip
          have c_51' : il.toInt = 0 := jb_eq (rfl) ((by decide)) c_51
          refine lv_iconst (v := 0) hx hb dX2_isInName_104 (by decide) ?_
          refine j_put (D := (dC, dI)) (ci := 4) (v := .int 0) (ty := .boolean) (C := RX2) (T := TX2) (N := 12) (A := jA base) hx hb hts hin_4 tyX2 tyX2_ok nmX2 hown hK hat_h0 hb0 hS.2.2 rfl 9 (by decide) (hts (.fieldLink RX2 57 "ProofServer$Frames" "isLengthName" "Z") (by decide +kernel)) (fun _ h9 => h9) rfl (by decide +kernel) (jb_nz (Or.inl rfl)) (jb_fz (Or.inl rfl)) (Nat.le_of_ble_eq_true rfl) dX2_isInName_105 (fun H1 locs1 hat1 hsz1 hfr1 hT1 hL1 => ?_)
          have hfr2 : ∀ q, ¬ (fun q => q = h0) q → H1[q]? = s.heap[q]? := fun q hq => (hfr1 q (fun h => hq (h))).trans (hfr q hq)
          have hsz2 : H1.size = s.heap.size := hsz1.trans hsz
          have hS2 := jS_put hS hsz1 hfr1 hb0 hL1
          try clear hT1
          clear hfr hsz hfr1 hsz1 hL1 hS hat_h0
          have hfr := hfr2
          have hsz := hsz2
          have hS := hS2
          clear hfr2 hsz2 hS2
          generalize locs1 = locs at hS ⊢
          generalize H1 = H at hfr hsz hS hat1 ⊢
          have hat_h0 : va_at (dC, dI) vwCl (h0, .inr (4, [.ref bd, .int len, .int kp, .int ms, .int br, .int pl, .int td, .int fl, .int sg, .int 0, .int dg, .int vl])) H := hat1
          refine lv_aload_n hx hb dX2_isInName_108 rfl (lv_at hl 1 rfl) ?_
          refine lv_dup hx hb dX2_isInName_109 rfl ?_
          refine va_get (D := (dC, dI)) (ci := 4) (v := .int sg) (C := RX2) (T := TX2) (N := 12) hx hb hts hin_4 hown hK (jp_one hat_h0) 0 rfl rfl 8 (by decide) (hts (.fieldLink RX2 54 "ProofServer$Frames" "signs" "I") (by decide +kernel)) (fun _ h9 => h9) rfl dX2_isInName_110 ?_
          refine lv_iconst (v := 1) hx hb dX2_isInName_113 (by decide) ?_
          refine lv_iadd hx hb dX2_isInName_114 ?_
          refine lv_topi (fun z_52 ez_52 => ?_)
          have hz_52 : z_52.toInt = sg.toInt + 1 := by rw [ez_52]; exact jb_iadd (rfl) ((by decide)) (by omega) (by omega)
          refine j_put (D := (dC, dI)) (ci := 4) (v := .int z_52) (ty := .int) (C := RX2) (T := TX2) (N := 12) (A := jA base) hx hb hts hin_4 tyX2 tyX2_ok nmX2 hown hK hat_h0 hb0 hS.2.2 rfl 8 (by decide) (hts (.fieldLink RX2 54 "ProofServer$Frames" "signs" "I") (by decide +kernel)) (fun _ h9 => h9) rfl (by decide +kernel) rfl rfl (Nat.le_of_ble_eq_true rfl) dX2_isInName_115 (fun H1 locs1 hat1 hsz1 hfr1 hT1 hL1 => ?_)
          have hfr2 : ∀ q, ¬ (fun q => q = h0) q → H1[q]? = s.heap[q]? := fun q hq => (hfr1 q (fun h => hq (h))).trans (hfr q hq)
          have hsz2 : H1.size = s.heap.size := hsz1.trans hsz
          have hS2 := jS_put hS hsz1 hfr1 hb0 hL1
          try clear hT1
          clear hfr hsz hfr1 hsz1 hL1 hS hat_h0
          have hfr := hfr2
          have hsz := hsz2
          have hS := hS2
          clear hfr2 hsz2 hS2
          generalize locs1 = locs at hS ⊢
          generalize H1 = H at hfr hsz hS hat1 ⊢
          have hat_h0 : va_at (dC, dI) vwCl (h0, .inr (4, [.ref bd, .int len, .int kp, .int ms, .int br, .int pl, .int td, .int fl, .int z_52, .int 0, .int dg, .int vl])) H := hat1
          refine lv_iload_n hx hb dX2_isInName_118 rfl (lv_at hl 0 rfl) ?_
          refine lv_bipush (v := 45) hx hb dX2_isInName_119 (by decide) ?_
          refine lv_icmp_eq (tgt := 136) hx hb dX2_isInName_121 (by decide) (fun c_53 => ?_) (fun c_53 => ?_)
          · skip
            have c_53' : z_50.toInt = 45 := jb_eq (rfl) ((by decide)) c_53
            refine lv_iconst (v := 1) hx hb dX2_isInName_136 (by decide) ?_
            refine lv_goto (tgt := 141) hx hb dX2_isInName_137 (by decide) ?_
            rw [hQ]
            exact W.zret (v := 1) hx hb hr (jb_nz (Or.inr rfl)) (fun t ht hW => ⟨⟨1, [.ref bd, .int len, .int kp, .int ms, .int br, .int pl, .int td, .int fl, .int z_52, .int 0, .int dg, .int vl], rfl, ⟨by first | exact Or.inl rfl | exact Or.inr rfl | assumption, len, kp, ms, br, pl, td, fl, z_52, 0, dg, vl, rfl, rfl, rfl, rfl, rfl, rfl, (Or.inl rfl), by refine ⟨?_, ?_, ?_, ?_, ?_, ?_⟩ <;> omega⟩, by rw [ht]; exact hat_h0, by rw [ht]; exact hsz, fun q hq => by rw [ht]; exact hfr q hq⟩, by rw [ht, hsz]; exact Nat.le_refl _, fun q _ hq => by rw [ht]; exact hfr q (fun h => hq (by rw [h]; exact hb0))⟩) hS.2.2 dX2_isInName_141
          · skip
            have c_53' : z_50.toInt ≠ 45 := jb_eq_n (rfl) ((by decide)) c_53
            refine lv_iload_n hx hb dX2_isInName_124 rfl (lv_at hl 0 rfl) ?_
            refine lv_bipush (v := 97) hx hb dX2_isInName_125 (by decide) ?_
            refine lv_icmp_lt (tgt := 140) hx hb dX2_isInName_127 (by decide) (fun c_54 => ?_) (fun c_54 => ?_)
            · skip
              have c_54' : z_50.toInt < 97 := jb_lt (rfl) ((by decide)) c_54
              refine lv_iconst (v := 0) hx hb dX2_isInName_140 (by decide) ?_
              rw [hQ]
              exact W.zret (v := 0) hx hb hr (jb_nz (Or.inl rfl)) (fun t ht hW => ⟨⟨0, [.ref bd, .int len, .int kp, .int ms, .int br, .int pl, .int td, .int fl, .int z_52, .int 0, .int dg, .int vl], rfl, ⟨by first | exact Or.inl rfl | exact Or.inr rfl | assumption, len, kp, ms, br, pl, td, fl, z_52, 0, dg, vl, rfl, rfl, rfl, rfl, rfl, rfl, (Or.inl rfl), by refine ⟨?_, ?_, ?_, ?_, ?_, ?_⟩ <;> omega⟩, by rw [ht]; exact hat_h0, by rw [ht]; exact hsz, fun q hq => by rw [ht]; exact hfr q hq⟩, by rw [ht, hsz]; exact Nat.le_refl _, fun q _ hq => by rw [ht]; exact hfr q (fun h => hq (by rw [h]; exact hb0))⟩) hS.2.2 dX2_isInName_141
            · skip
              have c_54' : z_50.toInt ≥ 97 := jb_lt_n (rfl) ((by decide)) c_54
              refine lv_iload_n hx hb dX2_isInName_130 rfl (lv_at hl 0 rfl) ?_
              refine lv_bipush (v := 122) hx hb dX2_isInName_131 (by decide) ?_
              refine lv_icmp_gt (tgt := 140) hx hb dX2_isInName_133 (by decide) (fun c_55 => ?_) (fun c_55 => ?_)
              · skip
                have c_55' : z_50.toInt > 122 := jb_gt (rfl) ((by decide)) c_55
                refine lv_iconst (v := 0) hx hb dX2_isInName_140 (by decide) ?_
                rw [hQ]
                exact W.zret (v := 0) hx hb hr (jb_nz (Or.inl rfl)) (fun t ht hW => ⟨⟨0, [.ref bd, .int len, .int kp, .int ms, .int br, .int pl, .int td, .int fl, .int z_52, .int 0, .int dg, .int vl], rfl, ⟨by first | exact Or.inl rfl | exact Or.inr rfl | assumption, len, kp, ms, br, pl, td, fl, z_52, 0, dg, vl, rfl, rfl, rfl, rfl, rfl, rfl, (Or.inl rfl), by refine ⟨?_, ?_, ?_, ?_, ?_, ?_⟩ <;> omega⟩, by rw [ht]; exact hat_h0, by rw [ht]; exact hsz, fun q hq => by rw [ht]; exact hfr q hq⟩, by rw [ht, hsz]; exact Nat.le_refl _, fun q _ hq => by rw [ht]; exact hfr q (fun h => hq (by rw [h]; exact hb0))⟩) hS.2.2 dX2_isInName_141
              · skip
                have c_55' : z_50.toInt ≤ 122 := jb_gt_n (rfl) ((by decide)) c_55
                refine lv_iconst (v := 1) hx hb dX2_isInName_136 (by decide) ?_
                refine lv_goto (tgt := 141) hx hb dX2_isInName_137 (by decide) ?_
                rw [hQ]
                exact W.zret (v := 1) hx hb hr (jb_nz (Or.inr rfl)) (fun t ht hW => ⟨⟨1, [.ref bd, .int len, .int kp, .int ms, .int br, .int pl, .int td, .int fl, .int z_52, .int 0, .int dg, .int vl], rfl, ⟨by first | exact Or.inl rfl | exact Or.inr rfl | assumption, len, kp, ms, br, pl, td, fl, z_52, 0, dg, vl, rfl, rfl, rfl, rfl, rfl, rfl, (Or.inl rfl), by refine ⟨?_, ?_, ?_, ?_, ?_, ?_⟩ <;> omega⟩, by rw [ht]; exact hat_h0, by rw [ht]; exact hsz, fun q hq => by rw [ht]; exact hfr q hq⟩, by rw [ht, hsz]; exact Nat.le_refl _, fun q _ hq => by rw [ht]; exact hfr q (fun h => hq (by rw [h]; exact hb0))⟩) hS.2.2 dX2_isInName_141
        · skip
          have c_51' : il.toInt ≠ 0 := jb_eq_n (rfl) ((by decide)) c_51
          refine lv_aload_n hx hb dX2_isInName_75 rfl (lv_at hl 1 rfl) ?_
          refine va_get (D := (dC, dI)) (ci := 4) (v := .int sg) (C := RX2) (T := TX2) (N := 12) hx hb hts hin_4 hown hK (jp_one hat_h0) 0 rfl rfl 8 (by decide) (hts (.fieldLink RX2 54 "ProofServer$Frames" "signs" "I") (by decide +kernel)) (fun _ h9 => h9) rfl dX2_isInName_76 ?_
          obtain ⟨str_56, rstr_56, hstr_560⟩ := hG.str (o := RX2) (k := 60) (tx := "content-length") (List.mem_of_getElem? (i := 613) (by decide +kernel))
          have hstr_56 : jStr base str_56 14 s s.heap := hstr_560
          refine va_ldcS hx hb hown rstr_56 dX2_isInName_79 ?_
          refine vp_callSi (W.runV (As := []) (rest := [.int sg, .ref h0]) ⟨hx, hb, hml, hown, hts⟩ (kJ0_length_8abf5 l dC dI ca base H str_56 14) (cwV 0 hts gX2_isInName_J0_length_8abf5 rfl rfl rfl (by decide +kernel) ⟨by rw [← hR]; exact Nat.le_of_ble_eq_true rfl, by rw [← hR]; exact Nat.le_of_ble_eq_true rfl⟩) ⟨fun a U g mk q => by obtain ⟨q0, q1, q2, qK, q9⟩ := q; exact ⟨q0, q1, (q2.moved (Vm.Alike.refl U.vm)), jG.calling g mk a qK, q9⟩, jStr_recv hstr_56 hS, fun U hU hW => ⟨rfl, hU, (hstr_56.moved hW.alike).kept hS.2.1, hG.step hW hU hS, by omega⟩⟩ rfl rfl hl.1 rfl (lv_room (Nat.le_of_ble_eq_true rfl)) dX2_isInName_81 ⟨Nat.zero_le _, Nat.zero_le _⟩) (fun r_57 hr_57 => ?_)
          refine lv_icmp_ge (tgt := 104) hx hb dX2_isInName_84 (by decide) (fun c_58 => ?_) (fun c_58 => ?_)
          · skip
            have c_58' : sg.toInt ≥ r_57.toInt := jb_ge (rfl) (rfl) c_58
            refine lv_iconst (v := 0) hx hb dX2_isInName_104 (by decide) ?_
            refine j_put (D := (dC, dI)) (ci := 4) (v := .int 0) (ty := .boolean) (C := RX2) (T := TX2) (N := 12) (A := jA base) hx hb hts hin_4 tyX2 tyX2_ok nmX2 hown hK hat_h0 hb0 hS.2.2 rfl 9 (by decide) (hts (.fieldLink RX2 57 "ProofServer$Frames" "isLengthName" "Z") (by decide +kernel)) (fun _ h9 => h9) rfl (by decide +kernel) (jb_nz (Or.inl rfl)) (jb_fz (Or.inl rfl)) (Nat.le_of_ble_eq_true rfl) dX2_isInName_105 (fun H1 locs1 hat1 hsz1 hfr1 hT1 hL1 => ?_)
            have hfr2 : ∀ q, ¬ (fun q => q = h0) q → H1[q]? = s.heap[q]? := fun q hq => (hfr1 q (fun h => hq (h))).trans (hfr q hq)
            have hsz2 : H1.size = s.heap.size := hsz1.trans hsz
            have hS2 := jS_put hS hsz1 hfr1 hb0 hL1
            try clear hT1
            clear hfr hsz hfr1 hsz1 hL1 hS hat_h0
            have hfr := hfr2
            have hsz := hsz2
            have hS := hS2
            clear hfr2 hsz2 hS2
            generalize locs1 = locs at hS ⊢
            generalize H1 = H at hfr hsz hS hat1 ⊢
            have hat_h0 : va_at (dC, dI) vwCl (h0, .inr (4, [.ref bd, .int len, .int kp, .int ms, .int br, .int pl, .int td, .int fl, .int sg, .int 0, .int dg, .int vl])) H := hat1
            refine lv_aload_n hx hb dX2_isInName_108 rfl (lv_at hl 1 rfl) ?_
            refine lv_dup hx hb dX2_isInName_109 rfl ?_
            refine va_get (D := (dC, dI)) (ci := 4) (v := .int sg) (C := RX2) (T := TX2) (N := 12) hx hb hts hin_4 hown hK (jp_one hat_h0) 0 rfl rfl 8 (by decide) (hts (.fieldLink RX2 54 "ProofServer$Frames" "signs" "I") (by decide +kernel)) (fun _ h9 => h9) rfl dX2_isInName_110 ?_
            refine lv_iconst (v := 1) hx hb dX2_isInName_113 (by decide) ?_
            refine lv_iadd hx hb dX2_isInName_114 ?_
            refine lv_topi (fun z_59 ez_59 => ?_)
            have hz_59 : z_59.toInt = sg.toInt + 1 := by rw [ez_59]; exact jb_iadd (rfl) ((by decide)) (by omega) (by omega)
            refine j_put (D := (dC, dI)) (ci := 4) (v := .int z_59) (ty := .int) (C := RX2) (T := TX2) (N := 12) (A := jA base) hx hb hts hin_4 tyX2 tyX2_ok nmX2 hown hK hat_h0 hb0 hS.2.2 rfl 8 (by decide) (hts (.fieldLink RX2 54 "ProofServer$Frames" "signs" "I") (by decide +kernel)) (fun _ h9 => h9) rfl (by decide +kernel) rfl rfl (Nat.le_of_ble_eq_true rfl) dX2_isInName_115 (fun H1 locs1 hat1 hsz1 hfr1 hT1 hL1 => ?_)
            have hfr2 : ∀ q, ¬ (fun q => q = h0) q → H1[q]? = s.heap[q]? := fun q hq => (hfr1 q (fun h => hq (h))).trans (hfr q hq)
            have hsz2 : H1.size = s.heap.size := hsz1.trans hsz
            have hS2 := jS_put hS hsz1 hfr1 hb0 hL1
            try clear hT1
            clear hfr hsz hfr1 hsz1 hL1 hS hat_h0
            have hfr := hfr2
            have hsz := hsz2
            have hS := hS2
            clear hfr2 hsz2 hS2
            generalize locs1 = locs at hS ⊢
            generalize H1 = H at hfr hsz hS hat1 ⊢
            have hat_h0 : va_at (dC, dI) vwCl (h0, .inr (4, [.ref bd, .int len, .int kp, .int ms, .int br, .int pl, .int td, .int fl, .int z_59, .int 0, .int dg, .int vl])) H := hat1
            refine lv_iload_n hx hb dX2_isInName_118 rfl (lv_at hl 0 rfl) ?_
            refine lv_bipush (v := 45) hx hb dX2_isInName_119 (by decide) ?_
            refine lv_icmp_eq (tgt := 136) hx hb dX2_isInName_121 (by decide) (fun c_60 => ?_) (fun c_60 => ?_)
            · skip
              have c_60' : z_50.toInt = 45 := jb_eq (rfl) ((by decide)) c_60
              refine lv_iconst (v := 1) hx hb dX2_isInName_136 (by decide) ?_
              refine lv_goto (tgt := 141) hx hb dX2_isInName_137 (by decide) ?_
              rw [hQ]
              exact W.zret (v := 1) hx hb hr (jb_nz (Or.inr rfl)) (fun t ht hW => ⟨⟨1, [.ref bd, .int len, .int kp, .int ms, .int br, .int pl, .int td, .int fl, .int z_59, .int 0, .int dg, .int vl], rfl, ⟨by first | exact Or.inl rfl | exact Or.inr rfl | assumption, len, kp, ms, br, pl, td, fl, z_59, 0, dg, vl, rfl, rfl, rfl, rfl, rfl, rfl, (Or.inl rfl), by refine ⟨?_, ?_, ?_, ?_, ?_, ?_⟩ <;> omega⟩, by rw [ht]; exact hat_h0, by rw [ht]; exact hsz, fun q hq => by rw [ht]; exact hfr q hq⟩, by rw [ht, hsz]; exact Nat.le_refl _, fun q _ hq => by rw [ht]; exact hfr q (fun h => hq (by rw [h]; exact hb0))⟩) hS.2.2 dX2_isInName_141
            · skip
              have c_60' : z_50.toInt ≠ 45 := jb_eq_n (rfl) ((by decide)) c_60
              refine lv_iload_n hx hb dX2_isInName_124 rfl (lv_at hl 0 rfl) ?_
              refine lv_bipush (v := 97) hx hb dX2_isInName_125 (by decide) ?_
              refine lv_icmp_lt (tgt := 140) hx hb dX2_isInName_127 (by decide) (fun c_61 => ?_) (fun c_61 => ?_)
              · skip
                have c_61' : z_50.toInt < 97 := jb_lt (rfl) ((by decide)) c_61
                refine lv_iconst (v := 0) hx hb dX2_isInName_140 (by decide) ?_
                rw [hQ]
                exact W.zret (v := 0) hx hb hr (jb_nz (Or.inl rfl)) (fun t ht hW => ⟨⟨0, [.ref bd, .int len, .int kp, .int ms, .int br, .int pl, .int td, .int fl, .int z_59, .int 0, .int dg, .int vl], rfl, ⟨by first | exact Or.inl rfl | exact Or.inr rfl | assumption, len, kp, ms, br, pl, td, fl, z_59, 0, dg, vl, rfl, rfl, rfl, rfl, rfl, rfl, (Or.inl rfl), by refine ⟨?_, ?_, ?_, ?_, ?_, ?_⟩ <;> omega⟩, by rw [ht]; exact hat_h0, by rw [ht]; exact hsz, fun q hq => by rw [ht]; exact hfr q hq⟩, by rw [ht, hsz]; exact Nat.le_refl _, fun q _ hq => by rw [ht]; exact hfr q (fun h => hq (by rw [h]; exact hb0))⟩) hS.2.2 dX2_isInName_141
              · skip
                have c_61' : z_50.toInt ≥ 97 := jb_lt_n (rfl) ((by decide)) c_61
                refine lv_iload_n hx hb dX2_isInName_130 rfl (lv_at hl 0 rfl) ?_
                refine lv_bipush (v := 122) hx hb dX2_isInName_131 (by decide) ?_
                refine lv_icmp_gt (tgt := 140) hx hb dX2_isInName_133 (by decide) (fun c_62 => ?_) (fun c_62 => ?_)
                · skip
                  have c_62' : z_50.toInt > 122 := jb_gt (rfl) ((by decide)) c_62
                  refine lv_iconst (v := 0) hx hb dX2_isInName_140 (by decide) ?_
                  rw [hQ]
                  exact W.zret (v := 0) hx hb hr (jb_nz (Or.inl rfl)) (fun t ht hW => ⟨⟨0, [.ref bd, .int len, .int kp, .int ms, .int br, .int pl, .int td, .int fl, .int z_59, .int 0, .int dg, .int vl], rfl, ⟨by first | exact Or.inl rfl | exact Or.inr rfl | assumption, len, kp, ms, br, pl, td, fl, z_59, 0, dg, vl, rfl, rfl, rfl, rfl, rfl, rfl, (Or.inl rfl), by refine ⟨?_, ?_, ?_, ?_, ?_, ?_⟩ <;> omega⟩, by rw [ht]; exact hat_h0, by rw [ht]; exact hsz, fun q hq => by rw [ht]; exact hfr q hq⟩, by rw [ht, hsz]; exact Nat.le_refl _, fun q _ hq => by rw [ht]; exact hfr q (fun h => hq (by rw [h]; exact hb0))⟩) hS.2.2 dX2_isInName_141
                · skip
                  have c_62' : z_50.toInt ≤ 122 := jb_gt_n (rfl) ((by decide)) c_62
                  refine lv_iconst (v := 1) hx hb dX2_isInName_136 (by decide) ?_
                  refine lv_goto (tgt := 141) hx hb dX2_isInName_137 (by decide) ?_
                  rw [hQ]
                  exact W.zret (v := 1) hx hb hr (jb_nz (Or.inr rfl)) (fun t ht hW => ⟨⟨1, [.ref bd, .int len, .int kp, .int ms, .int br, .int pl, .int td, .int fl, .int z_59, .int 0, .int dg, .int vl], rfl, ⟨by first | exact Or.inl rfl | exact Or.inr rfl | assumption, len, kp, ms, br, pl, td, fl, z_59, 0, dg, vl, rfl, rfl, rfl, rfl, rfl, rfl, (Or.inl rfl), by refine ⟨?_, ?_, ?_, ?_, ?_, ?_⟩ <;> omega⟩, by rw [ht]; exact hat_h0, by rw [ht]; exact hsz, fun q hq => by rw [ht]; exact hfr q hq⟩, by rw [ht, hsz]; exact Nat.le_refl _, fun q _ hq => by rw [ht]; exact hfr q (fun h => hq (by rw [h]; exact hb0))⟩) hS.2.2 dX2_isInName_141
          · skip
            have c_58' : sg.toInt < r_57.toInt := jb_ge_n (rfl) (rfl) c_58
            obtain ⟨str_63, rstr_63, hstr_630⟩ := hG.str (o := RX2) (k := 60) (tx := "content-length") (List.mem_of_getElem? (i := 613) (by decide +kernel))
            have hstr_63 : jStr base str_63 14 s s.heap := hstr_630
            refine va_ldcS hx hb hown rstr_63 dX2_isInName_87 ?_
            refine lv_aload_n hx hb dX2_isInName_89 rfl (lv_at hl 1 rfl) ?_
            refine va_get (D := (dC, dI)) (ci := 4) (v := .int sg) (C := RX2) (T := TX2) (N := 12) hx hb hts hin_4 hown hK (jp_one hat_h0) 0 rfl rfl 8 (by decide) (hts (.fieldLink RX2 54 "ProofServer$Frames" "signs" "I") (by decide +kernel)) (fun _ h9 => h9) rfl dX2_isInName_90 ?_
            refine vp_callSi (W.runV (As := [.int sg]) (rest := [.ref h0]) ⟨hx, hb, hml, hown, hts⟩ (kJ0_charAt_5068e l dC dI ca base H str_63 14 sg) (cwV 1 hts gX2_isInName_J0_charAt_5068e rfl rfl rfl (by decide +kernel) ⟨by rw [← hR]; exact Nat.le_of_ble_eq_true rfl, by rw [← hR]; exact Nat.le_of_ble_eq_true rfl⟩) ⟨fun a U g mk q => by obtain ⟨q0, q1, q2, qK, q9⟩ := q; exact ⟨q0, q1, (q2.moved (Vm.Alike.refl U.vm)), jG.calling g mk a qK, q9⟩, jStr_recv hstr_63 hS, fun U hU hW => ⟨rfl, hU, (hstr_63.moved hW.alike).kept hS.2.1, hG.step hW hU hS, ⟨by omega, by omega, by omega⟩⟩⟩ rfl rfl hl.1 rfl (lv_room (Nat.le_of_ble_eq_true rfl)) dX2_isInName_93 ⟨Nat.zero_le _, Nat.zero_le _⟩) (fun r_64 hr_64 => ?_)
            refine lv_iload_n hx hb dX2_isInName_96 rfl (lv_at hl 0 rfl) ?_
            refine lv_icmp_ne (tgt := 104) hx hb dX2_isInName_97 (by decide) (fun c_65 => ?_) (fun c_65 => ?_)
            · skip
              have c_65' : r_64.toInt ≠ z_50.toInt := jb_ne (rfl) (rfl) c_65
              refine lv_iconst (v := 0) hx hb dX2_isInName_104 (by decide) ?_
              refine j_put (D := (dC, dI)) (ci := 4) (v := .int 0) (ty := .boolean) (C := RX2) (T := TX2) (N := 12) (A := jA base) hx hb hts hin_4 tyX2 tyX2_ok nmX2 hown hK hat_h0 hb0 hS.2.2 rfl 9 (by decide) (hts (.fieldLink RX2 57 "ProofServer$Frames" "isLengthName" "Z") (by decide +kernel)) (fun _ h9 => h9) rfl (by decide +kernel) (jb_nz (Or.inl rfl)) (jb_fz (Or.inl rfl)) (Nat.le_of_ble_eq_true rfl) dX2_isInName_105 (fun H1 locs1 hat1 hsz1 hfr1 hT1 hL1 => ?_)
              have hfr2 : ∀ q, ¬ (fun q => q = h0) q → H1[q]? = s.heap[q]? := fun q hq => (hfr1 q (fun h => hq (h))).trans (hfr q hq)
              have hsz2 : H1.size = s.heap.size := hsz1.trans hsz
              have hS2 := jS_put hS hsz1 hfr1 hb0 hL1
              try clear hT1
              clear hfr hsz hfr1 hsz1 hL1 hS hat_h0
              have hfr := hfr2
              have hsz := hsz2
              have hS := hS2
              clear hfr2 hsz2 hS2
              generalize locs1 = locs at hS ⊢
              generalize H1 = H at hfr hsz hS hat1 ⊢
              have hat_h0 : va_at (dC, dI) vwCl (h0, .inr (4, [.ref bd, .int len, .int kp, .int ms, .int br, .int pl, .int td, .int fl, .int sg, .int 0, .int dg, .int vl])) H := hat1
              refine lv_aload_n hx hb dX2_isInName_108 rfl (lv_at hl 1 rfl) ?_
              refine lv_dup hx hb dX2_isInName_109 rfl ?_
              refine va_get (D := (dC, dI)) (ci := 4) (v := .int sg) (C := RX2) (T := TX2) (N := 12) hx hb hts hin_4 hown hK (jp_one hat_h0) 0 rfl rfl 8 (by decide) (hts (.fieldLink RX2 54 "ProofServer$Frames" "signs" "I") (by decide +kernel)) (fun _ h9 => h9) rfl dX2_isInName_110 ?_
              refine lv_iconst (v := 1) hx hb dX2_isInName_113 (by decide) ?_
              refine lv_iadd hx hb dX2_isInName_114 ?_
              refine lv_topi (fun z_66 ez_66 => ?_)
              have hz_66 : z_66.toInt = sg.toInt + 1 := by rw [ez_66]; exact jb_iadd (rfl) ((by decide)) (by omega) (by omega)
              refine j_put (D := (dC, dI)) (ci := 4) (v := .int z_66) (ty := .int) (C := RX2) (T := TX2) (N := 12) (A := jA base) hx hb hts hin_4 tyX2 tyX2_ok nmX2 hown hK hat_h0 hb0 hS.2.2 rfl 8 (by decide) (hts (.fieldLink RX2 54 "ProofServer$Frames" "signs" "I") (by decide +kernel)) (fun _ h9 => h9) rfl (by decide +kernel) rfl rfl (Nat.le_of_ble_eq_true rfl) dX2_isInName_115 (fun H1 locs1 hat1 hsz1 hfr1 hT1 hL1 => ?_)
              have hfr2 : ∀ q, ¬ (fun q => q = h0) q → H1[q]? = s.heap[q]? := fun q hq => (hfr1 q (fun h => hq (h))).trans (hfr q hq)
              have hsz2 : H1.size = s.heap.size := hsz1.trans hsz
              have hS2 := jS_put hS hsz1 hfr1 hb0 hL1
              try clear hT1
              clear hfr hsz hfr1 hsz1 hL1 hS hat_h0
              have hfr := hfr2
              have hsz := hsz2
              have hS := hS2
              clear hfr2 hsz2 hS2
              generalize locs1 = locs at hS ⊢
              generalize H1 = H at hfr hsz hS hat1 ⊢
              have hat_h0 : va_at (dC, dI) vwCl (h0, .inr (4, [.ref bd, .int len, .int kp, .int ms, .int br, .int pl, .int td, .int fl, .int z_66, .int 0, .int dg, .int vl])) H := hat1
              refine lv_iload_n hx hb dX2_isInName_118 rfl (lv_at hl 0 rfl) ?_
              refine lv_bipush (v := 45) hx hb dX2_isInName_119 (by decide) ?_
              refine lv_icmp_eq (tgt := 136) hx hb dX2_isInName_121 (by decide) (fun c_67 => ?_) (fun c_67 => ?_)
              · skip
                have c_67' : z_50.toInt = 45 := jb_eq (rfl) ((by decide)) c_67
                refine lv_iconst (v := 1) hx hb dX2_isInName_136 (by decide) ?_
                refine lv_goto (tgt := 141) hx hb dX2_isInName_137 (by decide) ?_
                rw [hQ]
                exact W.zret (v := 1) hx hb hr (jb_nz (Or.inr rfl)) (fun t ht hW => ⟨⟨1, [.ref bd, .int len, .int kp, .int ms, .int br, .int pl, .int td, .int fl, .int z_66, .int 0, .int dg, .int vl], rfl, ⟨by first | exact Or.inl rfl | exact Or.inr rfl | assumption, len, kp, ms, br, pl, td, fl, z_66, 0, dg, vl, rfl, rfl, rfl, rfl, rfl, rfl, (Or.inl rfl), by refine ⟨?_, ?_, ?_, ?_, ?_, ?_⟩ <;> omega⟩, by rw [ht]; exact hat_h0, by rw [ht]; exact hsz, fun q hq => by rw [ht]; exact hfr q hq⟩, by rw [ht, hsz]; exact Nat.le_refl _, fun q _ hq => by rw [ht]; exact hfr q (fun h => hq (by rw [h]; exact hb0))⟩) hS.2.2 dX2_isInName_141
              · skip
                have c_67' : z_50.toInt ≠ 45 := jb_eq_n (rfl) ((by decide)) c_67
                refine lv_iload_n hx hb dX2_isInName_124 rfl (lv_at hl 0 rfl) ?_
                refine lv_bipush (v := 97) hx hb dX2_isInName_125 (by decide) ?_
                refine lv_icmp_lt (tgt := 140) hx hb dX2_isInName_127 (by decide) (fun c_68 => ?_) (fun c_68 => ?_)
                · skip
                  have c_68' : z_50.toInt < 97 := jb_lt (rfl) ((by decide)) c_68
                  refine lv_iconst (v := 0) hx hb dX2_isInName_140 (by decide) ?_
                  rw [hQ]
                  exact W.zret (v := 0) hx hb hr (jb_nz (Or.inl rfl)) (fun t ht hW => ⟨⟨0, [.ref bd, .int len, .int kp, .int ms, .int br, .int pl, .int td, .int fl, .int z_66, .int 0, .int dg, .int vl], rfl, ⟨by first | exact Or.inl rfl | exact Or.inr rfl | assumption, len, kp, ms, br, pl, td, fl, z_66, 0, dg, vl, rfl, rfl, rfl, rfl, rfl, rfl, (Or.inl rfl), by refine ⟨?_, ?_, ?_, ?_, ?_, ?_⟩ <;> omega⟩, by rw [ht]; exact hat_h0, by rw [ht]; exact hsz, fun q hq => by rw [ht]; exact hfr q hq⟩, by rw [ht, hsz]; exact Nat.le_refl _, fun q _ hq => by rw [ht]; exact hfr q (fun h => hq (by rw [h]; exact hb0))⟩) hS.2.2 dX2_isInName_141
                · skip
                  have c_68' : z_50.toInt ≥ 97 := jb_lt_n (rfl) ((by decide)) c_68
                  refine lv_iload_n hx hb dX2_isInName_130 rfl (lv_at hl 0 rfl) ?_
                  refine lv_bipush (v := 122) hx hb dX2_isInName_131 (by decide) ?_
                  refine lv_icmp_gt (tgt := 140) hx hb dX2_isInName_133 (by decide) (fun c_69 => ?_) (fun c_69 => ?_)
                  · skip
                    have c_69' : z_50.toInt > 122 := jb_gt (rfl) ((by decide)) c_69
                    refine lv_iconst (v := 0) hx hb dX2_isInName_140 (by decide) ?_
                    rw [hQ]
                    exact W.zret (v := 0) hx hb hr (jb_nz (Or.inl rfl)) (fun t ht hW => ⟨⟨0, [.ref bd, .int len, .int kp, .int ms, .int br, .int pl, .int td, .int fl, .int z_66, .int 0, .int dg, .int vl], rfl, ⟨by first | exact Or.inl rfl | exact Or.inr rfl | assumption, len, kp, ms, br, pl, td, fl, z_66, 0, dg, vl, rfl, rfl, rfl, rfl, rfl, rfl, (Or.inl rfl), by refine ⟨?_, ?_, ?_, ?_, ?_, ?_⟩ <;> omega⟩, by rw [ht]; exact hat_h0, by rw [ht]; exact hsz, fun q hq => by rw [ht]; exact hfr q hq⟩, by rw [ht, hsz]; exact Nat.le_refl _, fun q _ hq => by rw [ht]; exact hfr q (fun h => hq (by rw [h]; exact hb0))⟩) hS.2.2 dX2_isInName_141
                  · skip
                    have c_69' : z_50.toInt ≤ 122 := jb_gt_n (rfl) ((by decide)) c_69
                    refine lv_iconst (v := 1) hx hb dX2_isInName_136 (by decide) ?_
                    refine lv_goto (tgt := 141) hx hb dX2_isInName_137 (by decide) ?_
                    rw [hQ]
                    exact W.zret (v := 1) hx hb hr (jb_nz (Or.inr rfl)) (fun t ht hW => ⟨⟨1, [.ref bd, .int len, .int kp, .int ms, .int br, .int pl, .int td, .int fl, .int z_66, .int 0, .int dg, .int vl], rfl, ⟨by first | exact Or.inl rfl | exact Or.inr rfl | assumption, len, kp, ms, br, pl, td, fl, z_66, 0, dg, vl, rfl, rfl, rfl, rfl, rfl, rfl, (Or.inl rfl), by refine ⟨?_, ?_, ?_, ?_, ?_, ?_⟩ <;> omega⟩, by rw [ht]; exact hat_h0, by rw [ht]; exact hsz, fun q hq => by rw [ht]; exact hfr q hq⟩, by rw [ht, hsz]; exact Nat.le_refl _, fun q _ hq => by rw [ht]; exact hfr q (fun h => hq (by rw [h]; exact hb0))⟩) hS.2.2 dX2_isInName_141
            · skip
              have c_65' : r_64.toInt = z_50.toInt := jb_ne_n (rfl) (rfl) c_65
              refine lv_iconst (v := 1) hx hb dX2_isInName_100 (by decide) ?_
              refine lv_goto (tgt := 105) hx hb dX2_isInName_101 (by decide) ?_
              refine j_put (D := (dC, dI)) (ci := 4) (v := .int 1) (ty := .boolean) (C := RX2) (T := TX2) (N := 12) (A := jA base) hx hb hts hin_4 tyX2 tyX2_ok nmX2 hown hK hat_h0 hb0 hS.2.2 rfl 9 (by decide) (hts (.fieldLink RX2 57 "ProofServer$Frames" "isLengthName" "Z") (by decide +kernel)) (fun _ h9 => h9) rfl (by decide +kernel) (jb_nz (Or.inr rfl)) (jb_fz (Or.inr rfl)) (Nat.le_of_ble_eq_true rfl) dX2_isInName_105 (fun H1 locs1 hat1 hsz1 hfr1 hT1 hL1 => ?_)
              have hfr2 : ∀ q, ¬ (fun q => q = h0) q → H1[q]? = s.heap[q]? := fun q hq => (hfr1 q (fun h => hq (h))).trans (hfr q hq)
              have hsz2 : H1.size = s.heap.size := hsz1.trans hsz
              have hS2 := jS_put hS hsz1 hfr1 hb0 hL1
              try clear hT1
              clear hfr hsz hfr1 hsz1 hL1 hS hat_h0
              have hfr := hfr2
              have hsz := hsz2
              have hS := hS2
              clear hfr2 hsz2 hS2
              generalize locs1 = locs at hS ⊢
              generalize H1 = H at hfr hsz hS hat1 ⊢
              have hat_h0 : va_at (dC, dI) vwCl (h0, .inr (4, [.ref bd, .int len, .int kp, .int ms, .int br, .int pl, .int td, .int fl, .int sg, .int 1, .int dg, .int vl])) H := hat1
              refine lv_aload_n hx hb dX2_isInName_108 rfl (lv_at hl 1 rfl) ?_
              refine lv_dup hx hb dX2_isInName_109 rfl ?_
              refine va_get (D := (dC, dI)) (ci := 4) (v := .int sg) (C := RX2) (T := TX2) (N := 12) hx hb hts hin_4 hown hK (jp_one hat_h0) 0 rfl rfl 8 (by decide) (hts (.fieldLink RX2 54 "ProofServer$Frames" "signs" "I") (by decide +kernel)) (fun _ h9 => h9) rfl dX2_isInName_110 ?_
              refine lv_iconst (v := 1) hx hb dX2_isInName_113 (by decide) ?_
              refine lv_iadd hx hb dX2_isInName_114 ?_
              refine lv_topi (fun z_70 ez_70 => ?_)
              have hz_70 : z_70.toInt = sg.toInt + 1 := by rw [ez_70]; exact jb_iadd (rfl) ((by decide)) (by omega) (by omega)
              refine j_put (D := (dC, dI)) (ci := 4) (v := .int z_70) (ty := .int) (C := RX2) (T := TX2) (N := 12) (A := jA base) hx hb hts hin_4 tyX2 tyX2_ok nmX2 hown hK hat_h0 hb0 hS.2.2 rfl 8 (by decide) (hts (.fieldLink RX2 54 "ProofServer$Frames" "signs" "I") (by decide +kernel)) (fun _ h9 => h9) rfl (by decide +kernel) rfl rfl (Nat.le_of_ble_eq_true rfl) dX2_isInName_115 (fun H1 locs1 hat1 hsz1 hfr1 hT1 hL1 => ?_)
              have hfr2 : ∀ q, ¬ (fun q => q = h0) q → H1[q]? = s.heap[q]? := fun q hq => (hfr1 q (fun h => hq (h))).trans (hfr q hq)
              have hsz2 : H1.size = s.heap.size := hsz1.trans hsz
              have hS2 := jS_put hS hsz1 hfr1 hb0 hL1
              try clear hT1
              clear hfr hsz hfr1 hsz1 hL1 hS hat_h0
              have hfr := hfr2
              have hsz := hsz2
              have hS := hS2
              clear hfr2 hsz2 hS2
              generalize locs1 = locs at hS ⊢
              generalize H1 = H at hfr hsz hS hat1 ⊢
              have hat_h0 : va_at (dC, dI) vwCl (h0, .inr (4, [.ref bd, .int len, .int kp, .int ms, .int br, .int pl, .int td, .int fl, .int z_70, .int 1, .int dg, .int vl])) H := hat1
              refine lv_iload_n hx hb dX2_isInName_118 rfl (lv_at hl 0 rfl) ?_
              refine lv_bipush (v := 45) hx hb dX2_isInName_119 (by decide) ?_
              refine lv_icmp_eq (tgt := 136) hx hb dX2_isInName_121 (by decide) (fun c_71 => ?_) (fun c_71 => ?_)
              · skip
                have c_71' : z_50.toInt = 45 := jb_eq (rfl) ((by decide)) c_71
                refine lv_iconst (v := 1) hx hb dX2_isInName_136 (by decide) ?_
                refine lv_goto (tgt := 141) hx hb dX2_isInName_137 (by decide) ?_
                rw [hQ]
                exact W.zret (v := 1) hx hb hr (jb_nz (Or.inr rfl)) (fun t ht hW => ⟨⟨1, [.ref bd, .int len, .int kp, .int ms, .int br, .int pl, .int td, .int fl, .int z_70, .int 1, .int dg, .int vl], rfl, ⟨by first | exact Or.inl rfl | exact Or.inr rfl | assumption, len, kp, ms, br, pl, td, fl, z_70, 1, dg, vl, rfl, rfl, rfl, rfl, rfl, rfl, (Or.inr rfl), by refine ⟨?_, ?_, ?_, ?_, ?_, ?_⟩ <;> omega⟩, by rw [ht]; exact hat_h0, by rw [ht]; exact hsz, fun q hq => by rw [ht]; exact hfr q hq⟩, by rw [ht, hsz]; exact Nat.le_refl _, fun q _ hq => by rw [ht]; exact hfr q (fun h => hq (by rw [h]; exact hb0))⟩) hS.2.2 dX2_isInName_141
              · skip
                have c_71' : z_50.toInt ≠ 45 := jb_eq_n (rfl) ((by decide)) c_71
                refine lv_iload_n hx hb dX2_isInName_124 rfl (lv_at hl 0 rfl) ?_
                refine lv_bipush (v := 97) hx hb dX2_isInName_125 (by decide) ?_
                refine lv_icmp_lt (tgt := 140) hx hb dX2_isInName_127 (by decide) (fun c_72 => ?_) (fun c_72 => ?_)
                · skip
                  have c_72' : z_50.toInt < 97 := jb_lt (rfl) ((by decide)) c_72
                  refine lv_iconst (v := 0) hx hb dX2_isInName_140 (by decide) ?_
                  rw [hQ]
                  exact W.zret (v := 0) hx hb hr (jb_nz (Or.inl rfl)) (fun t ht hW => ⟨⟨0, [.ref bd, .int len, .int kp, .int ms, .int br, .int pl, .int td, .int fl, .int z_70, .int 1, .int dg, .int vl], rfl, ⟨by first | exact Or.inl rfl | exact Or.inr rfl | assumption, len, kp, ms, br, pl, td, fl, z_70, 1, dg, vl, rfl, rfl, rfl, rfl, rfl, rfl, (Or.inr rfl), by refine ⟨?_, ?_, ?_, ?_, ?_, ?_⟩ <;> omega⟩, by rw [ht]; exact hat_h0, by rw [ht]; exact hsz, fun q hq => by rw [ht]; exact hfr q hq⟩, by rw [ht, hsz]; exact Nat.le_refl _, fun q _ hq => by rw [ht]; exact hfr q (fun h => hq (by rw [h]; exact hb0))⟩) hS.2.2 dX2_isInName_141
                · skip
                  have c_72' : z_50.toInt ≥ 97 := jb_lt_n (rfl) ((by decide)) c_72
                  refine lv_iload_n hx hb dX2_isInName_130 rfl (lv_at hl 0 rfl) ?_
                  refine lv_bipush (v := 122) hx hb dX2_isInName_131 (by decide) ?_
                  refine lv_icmp_gt (tgt := 140) hx hb dX2_isInName_133 (by decide) (fun c_73 => ?_) (fun c_73 => ?_)
                  · skip
                    have c_73' : z_50.toInt > 122 := jb_gt (rfl) ((by decide)) c_73
                    refine lv_iconst (v := 0) hx hb dX2_isInName_140 (by decide) ?_
                    rw [hQ]
                    exact W.zret (v := 0) hx hb hr (jb_nz (Or.inl rfl)) (fun t ht hW => ⟨⟨0, [.ref bd, .int len, .int kp, .int ms, .int br, .int pl, .int td, .int fl, .int z_70, .int 1, .int dg, .int vl], rfl, ⟨by first | exact Or.inl rfl | exact Or.inr rfl | assumption, len, kp, ms, br, pl, td, fl, z_70, 1, dg, vl, rfl, rfl, rfl, rfl, rfl, rfl, (Or.inr rfl), by refine ⟨?_, ?_, ?_, ?_, ?_, ?_⟩ <;> omega⟩, by rw [ht]; exact hat_h0, by rw [ht]; exact hsz, fun q hq => by rw [ht]; exact hfr q hq⟩, by rw [ht, hsz]; exact Nat.le_refl _, fun q _ hq => by rw [ht]; exact hfr q (fun h => hq (by rw [h]; exact hb0))⟩) hS.2.2 dX2_isInName_141
                  · skip
                    have c_73' : z_50.toInt ≤ 122 := jb_gt_n (rfl) ((by decide)) c_73
                    refine lv_iconst (v := 1) hx hb dX2_isInName_136 (by decide) ?_
                    refine lv_goto (tgt := 141) hx hb dX2_isInName_137 (by decide) ?_
                    rw [hQ]
                    exact W.zret (v := 1) hx hb hr (jb_nz (Or.inr rfl)) (fun t ht hW => ⟨⟨1, [.ref bd, .int len, .int kp, .int ms, .int br, .int pl, .int td, .int fl, .int z_70, .int 1, .int dg, .int vl], rfl, ⟨by first | exact Or.inl rfl | exact Or.inr rfl | assumption, len, kp, ms, br, pl, td, fl, z_70, 1, dg, vl, rfl, rfl, rfl, rfl, rfl, rfl, (Or.inr rfl), by refine ⟨?_, ?_, ?_, ?_, ?_, ?_⟩ <;> omega⟩, by rw [ht]; exact hat_h0, by rw [ht]; exact hsz, fun q hq => by rw [ht]; exact hfr q hq⟩, by rw [ht, hsz]; exact Nat.le_refl _, fun q _ hq => by rw [ht]; exact hfr q (fun h => hq (by rw [h]; exact hb0))⟩) hS.2.2 dX2_isInName_141
  · skip
    have c_1' : a1.toInt = 58 := jb_ne_n (rfl) ((by decide)) c_1
    refine lv_aload_n hx hb dX2_isInName_6 rfl (lv_at hl 0 rfl) ?_
    refine lv_aload_n hx hb dX2_isInName_7 rfl (lv_at hl 0 rfl) ?_
    refine va_get (D := (dC, dI)) (ci := 4) (v := .int il) (C := RX2) (T := TX2) (N := 12) hx hb hts hin_4 hown hK (jp_one hat_h0) 0 rfl rfl 9 (by decide) (hts (.fieldLink RX2 57 "ProofServer$Frames" "isLengthName" "Z") (by decide +kernel)) (fun _ h9 => h9) rfl dX2_isInName_8 ?_
    refine lv_if_eq (tgt := 30) hx hb dX2_isInName_11 (by decide) (fun c_74 => ?_) (fun c_74 => ?_)
    · skip
      have c_74' : il.toInt = 0 := jb_eq (rfl) ((by decide)) c_74
      refine lv_iconst (v := 2) hx hb dX2_isInName_30 (by decide) ?_
      refine j_put (D := (dC, dI)) (ci := 4) (v := .int 2) (ty := .int) (C := RX2) (T := TX2) (N := 12) (A := jA base) hx hb hts hin_4 tyX2 tyX2_ok nmX2 hown hK hat_h0 hb0 hS.2.2 rfl 5 (by decide) (hts (.fieldLink RX2 15 "ProofServer$Frames" "place" "I") (by decide +kernel)) (fun _ h9 => h9) rfl (by decide +kernel) rfl rfl (Nat.le_of_ble_eq_true rfl) dX2_isInName_31 (fun H1 locs1 hat1 hsz1 hfr1 hT1 hL1 => ?_)
      have hfr2 : ∀ q, ¬ (fun q => q = h0) q → H1[q]? = s.heap[q]? := fun q hq => (hfr1 q (fun h => hq (h))).trans (hfr q hq)
      have hsz2 : H1.size = s.heap.size := hsz1.trans hsz
      have hS2 := jS_put hS hsz1 hfr1 hb0 hL1
      try clear hT1
      clear hfr hsz hfr1 hsz1 hL1 hS hat_h0
      have hfr := hfr2
      have hsz := hsz2
      have hS := hS2
      clear hfr2 hsz2 hS2
      generalize locs1 = locs at hS ⊢
      generalize H1 = H at hfr hsz hS hat1 ⊢
      have hat_h0 : va_at (dC, dI) vwCl (h0, .inr (4, [.ref bd, .int len, .int kp, .int ms, .int br, .int 2, .int td, .int fl, .int sg, .int il, .int dg, .int vl])) H := hat1
      refine lv_aload_n hx hb dX2_isInName_34 rfl (lv_at hl 0 rfl) ?_
      refine lv_iconst (v := 0) hx hb dX2_isInName_35 (by decide) ?_
      refine j_put (D := (dC, dI)) (ci := 4) (v := .int 0) (ty := .int) (C := RX2) (T := TX2) (N := 12) (A := jA base) hx hb hts hin_4 tyX2 tyX2_ok nmX2 hown hK hat_h0 hb0 hS.2.2 rfl 10 (by decide) (hts (.fieldLink RX2 67 "ProofServer$Frames" "digits" "I") (by decide +kernel)) (fun _ h9 => h9) rfl (by decide +kernel) rfl rfl (Nat.le_of_ble_eq_true rfl) dX2_isInName_36 (fun H1 locs1 hat1 hsz1 hfr1 hT1 hL1 => ?_)
      have hfr2 : ∀ q, ¬ (fun q => q = h0) q → H1[q]? = s.heap[q]? := fun q hq => (hfr1 q (fun h => hq (h))).trans (hfr q hq)
      have hsz2 : H1.size = s.heap.size := hsz1.trans hsz
      have hS2 := jS_put hS hsz1 hfr1 hb0 hL1
      try clear hT1
      clear hfr hsz hfr1 hsz1 hL1 hS hat_h0
      have hfr := hfr2
      have hsz := hsz2
      have hS := hS2
      clear hfr2 hsz2 hS2
      generalize locs1 = locs at hS ⊢
      generalize H1 = H at hfr hsz hS hat1 ⊢
      have hat_h0 : va_at (dC, dI) vwCl (h0, .inr (4, [.ref bd, .int len, .int kp, .int ms, .int br, .int 2, .int td, .int fl, .int sg, .int il, .int 0, .int vl])) H := hat1
      refine lv_aload_n hx hb dX2_isInName_39 rfl (lv_at hl 0 rfl) ?_
      refine lv_iconst (v := 0) hx hb dX2_isInName_40 (by decide) ?_
      refine j_put (D := (dC, dI)) (ci := 4) (v := .int 0) (ty := .int) (C := RX2) (T := TX2) (N := 12) (A := jA base) hx hb hts hin_4 tyX2 tyX2_ok nmX2 hown hK hat_h0 hb0 hS.2.2 rfl 11 (by decide) (hts (.fieldLink RX2 70 "ProofServer$Frames" "value" "I") (by decide +kernel)) (fun _ h9 => h9) rfl (by decide +kernel) rfl rfl (Nat.le_of_ble_eq_true rfl) dX2_isInName_41 (fun H1 locs1 hat1 hsz1 hfr1 hT1 hL1 => ?_)
      have hfr2 : ∀ q, ¬ (fun q => q = h0) q → H1[q]? = s.heap[q]? := fun q hq => (hfr1 q (fun h => hq (h))).trans (hfr q hq)
      have hsz2 : H1.size = s.heap.size := hsz1.trans hsz
      have hS2 := jS_put hS hsz1 hfr1 hb0 hL1
      try clear hT1
      clear hfr hsz hfr1 hsz1 hL1 hS hat_h0
      have hfr := hfr2
      have hsz := hsz2
      have hS := hS2
      clear hfr2 hsz2 hS2
      generalize locs1 = locs at hS ⊢
      generalize H1 = H at hfr hsz hS hat1 ⊢
      have hat_h0 : va_at (dC, dI) vwCl (h0, .inr (4, [.ref bd, .int len, .int kp, .int ms, .int br, .int 2, .int td, .int fl, .int sg, .int il, .int 0, .int 0])) H := hat1
      refine lv_iconst (v := 1) hx hb dX2_isInName_44 (by decide) ?_
      rw [hQ]
      exact W.zret (v := 1) hx hb hr (jb_nz (Or.inr rfl)) (fun t ht hW => ⟨⟨1, [.ref bd, .int len, .int kp, .int ms, .int br, .int 2, .int td, .int fl, .int sg, .int il, .int 0, .int 0], rfl, ⟨by first | exact Or.inl rfl | exact Or.inr rfl | assumption, len, kp, ms, br, 2, td, fl, sg, il, 0, 0, rfl, rfl, rfl, rfl, rfl, rfl, (hil), by refine ⟨?_, ?_, ?_, ?_, ?_, ?_⟩ <;> omega⟩, by rw [ht]; exact hat_h0, by rw [ht]; exact hsz, fun q hq => by rw [ht]; exact hfr q hq⟩, by rw [ht, hsz]; exact Nat.le_refl _, fun q _ hq => by rw [ht]; exact hfr q (fun h => hq (by rw [h]; exact hb0))⟩) hS.2.2 dX2_isInName_45
    · skip
      have c_74' : il.toInt ≠ 0 := jb_eq_n (rfl) ((by decide)) c_74
      refine lv_aload_n hx hb dX2_isInName_14 rfl (lv_at hl 0 rfl) ?_
      refine va_get (D := (dC, dI)) (ci := 4) (v := .int sg) (C := RX2) (T := TX2) (N := 12) hx hb hts hin_4 hown hK (jp_one hat_h0) 0 rfl rfl 8 (by decide) (hts (.fieldLink RX2 54 "ProofServer$Frames" "signs" "I") (by decide +kernel)) (fun _ h9 => h9) rfl dX2_isInName_15 ?_
      obtain ⟨str_75, rstr_75, hstr_750⟩ := hG.str (o := RX2) (k := 60) (tx := "content-length") (List.mem_of_getElem? (i := 613) (by decide +kernel))
      have hstr_75 : jStr base str_75 14 s s.heap := hstr_750
      refine va_ldcS hx hb hown rstr_75 dX2_isInName_18 ?_
      refine vp_callSi (W.runV (As := []) (rest := [.int sg, .ref h0]) ⟨hx, hb, hml, hown, hts⟩ (kJ0_length_8abf5 l dC dI ca base H str_75 14) (cwV 0 hts gX2_isInName_J0_length_8abf5 rfl rfl rfl (by decide +kernel) ⟨by rw [← hR]; exact Nat.le_of_ble_eq_true rfl, by rw [← hR]; exact Nat.le_of_ble_eq_true rfl⟩) ⟨fun a U g mk q => by obtain ⟨q0, q1, q2, qK, q9⟩ := q; exact ⟨q0, q1, (q2.moved (Vm.Alike.refl U.vm)), jG.calling g mk a qK, q9⟩, jStr_recv hstr_75 hS, fun U hU hW => ⟨rfl, hU, (hstr_75.moved hW.alike).kept hS.2.1, hG.step hW hU hS, by omega⟩⟩ rfl rfl hl.1 rfl (lv_room (Nat.le_of_ble_eq_true rfl)) dX2_isInName_20 ⟨Nat.zero_le _, Nat.zero_le _⟩) (fun r_76 hr_76 => ?_)
      refine lv_icmp_ne (tgt := 30) hx hb dX2_isInName_23 (by decide) (fun c_77 => ?_) (fun c_77 => ?_)
      · skip
        have c_77' : sg.toInt ≠ r_76.toInt := jb_ne (rfl) (rfl) c_77
        refine lv_iconst (v := 2) hx hb dX2_isInName_30 (by decide) ?_
        refine j_put (D := (dC, dI)) (ci := 4) (v := .int 2) (ty := .int) (C := RX2) (T := TX2) (N := 12) (A := jA base) hx hb hts hin_4 tyX2 tyX2_ok nmX2 hown hK hat_h0 hb0 hS.2.2 rfl 5 (by decide) (hts (.fieldLink RX2 15 "ProofServer$Frames" "place" "I") (by decide +kernel)) (fun _ h9 => h9) rfl (by decide +kernel) rfl rfl (Nat.le_of_ble_eq_true rfl) dX2_isInName_31 (fun H1 locs1 hat1 hsz1 hfr1 hT1 hL1 => ?_)
        have hfr2 : ∀ q, ¬ (fun q => q = h0) q → H1[q]? = s.heap[q]? := fun q hq => (hfr1 q (fun h => hq (h))).trans (hfr q hq)
        have hsz2 : H1.size = s.heap.size := hsz1.trans hsz
        have hS2 := jS_put hS hsz1 hfr1 hb0 hL1
        try clear hT1
        clear hfr hsz hfr1 hsz1 hL1 hS hat_h0
        have hfr := hfr2
        have hsz := hsz2
        have hS := hS2
        clear hfr2 hsz2 hS2
        generalize locs1 = locs at hS ⊢
        generalize H1 = H at hfr hsz hS hat1 ⊢
        have hat_h0 : va_at (dC, dI) vwCl (h0, .inr (4, [.ref bd, .int len, .int kp, .int ms, .int br, .int 2, .int td, .int fl, .int sg, .int il, .int dg, .int vl])) H := hat1
        refine lv_aload_n hx hb dX2_isInName_34 rfl (lv_at hl 0 rfl) ?_
        refine lv_iconst (v := 0) hx hb dX2_isInName_35 (by decide) ?_
        refine j_put (D := (dC, dI)) (ci := 4) (v := .int 0) (ty := .int) (C := RX2) (T := TX2) (N := 12) (A := jA base) hx hb hts hin_4 tyX2 tyX2_ok nmX2 hown hK hat_h0 hb0 hS.2.2 rfl 10 (by decide) (hts (.fieldLink RX2 67 "ProofServer$Frames" "digits" "I") (by decide +kernel)) (fun _ h9 => h9) rfl (by decide +kernel) rfl rfl (Nat.le_of_ble_eq_true rfl) dX2_isInName_36 (fun H1 locs1 hat1 hsz1 hfr1 hT1 hL1 => ?_)
        have hfr2 : ∀ q, ¬ (fun q => q = h0) q → H1[q]? = s.heap[q]? := fun q hq => (hfr1 q (fun h => hq (h))).trans (hfr q hq)
        have hsz2 : H1.size = s.heap.size := hsz1.trans hsz
        have hS2 := jS_put hS hsz1 hfr1 hb0 hL1
        try clear hT1
        clear hfr hsz hfr1 hsz1 hL1 hS hat_h0
        have hfr := hfr2
        have hsz := hsz2
        have hS := hS2
        clear hfr2 hsz2 hS2
        generalize locs1 = locs at hS ⊢
        generalize H1 = H at hfr hsz hS hat1 ⊢
        have hat_h0 : va_at (dC, dI) vwCl (h0, .inr (4, [.ref bd, .int len, .int kp, .int ms, .int br, .int 2, .int td, .int fl, .int sg, .int il, .int 0, .int vl])) H := hat1
        refine lv_aload_n hx hb dX2_isInName_39 rfl (lv_at hl 0 rfl) ?_
        refine lv_iconst (v := 0) hx hb dX2_isInName_40 (by decide) ?_
        refine j_put (D := (dC, dI)) (ci := 4) (v := .int 0) (ty := .int) (C := RX2) (T := TX2) (N := 12) (A := jA base) hx hb hts hin_4 tyX2 tyX2_ok nmX2 hown hK hat_h0 hb0 hS.2.2 rfl 11 (by decide) (hts (.fieldLink RX2 70 "ProofServer$Frames" "value" "I") (by decide +kernel)) (fun _ h9 => h9) rfl (by decide +kernel) rfl rfl (Nat.le_of_ble_eq_true rfl) dX2_isInName_41 (fun H1 locs1 hat1 hsz1 hfr1 hT1 hL1 => ?_)
        have hfr2 : ∀ q, ¬ (fun q => q = h0) q → H1[q]? = s.heap[q]? := fun q hq => (hfr1 q (fun h => hq (h))).trans (hfr q hq)
        have hsz2 : H1.size = s.heap.size := hsz1.trans hsz
        have hS2 := jS_put hS hsz1 hfr1 hb0 hL1
        try clear hT1
        clear hfr hsz hfr1 hsz1 hL1 hS hat_h0
        have hfr := hfr2
        have hsz := hsz2
        have hS := hS2
        clear hfr2 hsz2 hS2
        generalize locs1 = locs at hS ⊢
        generalize H1 = H at hfr hsz hS hat1 ⊢
        have hat_h0 : va_at (dC, dI) vwCl (h0, .inr (4, [.ref bd, .int len, .int kp, .int ms, .int br, .int 2, .int td, .int fl, .int sg, .int il, .int 0, .int 0])) H := hat1
        refine lv_iconst (v := 1) hx hb dX2_isInName_44 (by decide) ?_
        rw [hQ]
        exact W.zret (v := 1) hx hb hr (jb_nz (Or.inr rfl)) (fun t ht hW => ⟨⟨1, [.ref bd, .int len, .int kp, .int ms, .int br, .int 2, .int td, .int fl, .int sg, .int il, .int 0, .int 0], rfl, ⟨by first | exact Or.inl rfl | exact Or.inr rfl | assumption, len, kp, ms, br, 2, td, fl, sg, il, 0, 0, rfl, rfl, rfl, rfl, rfl, rfl, (hil), by refine ⟨?_, ?_, ?_, ?_, ?_, ?_⟩ <;> omega⟩, by rw [ht]; exact hat_h0, by rw [ht]; exact hsz, fun q hq => by rw [ht]; exact hfr q hq⟩, by rw [ht, hsz]; exact Nat.le_refl _, fun q _ hq => by rw [ht]; exact hfr q (fun h => hq (by rw [h]; exact hb0))⟩) hS.2.2 dX2_isInName_45
      · skip
        have c_77' : sg.toInt = r_76.toInt := jb_ne_n (rfl) (rfl) c_77
        refine lv_iconst (v := 3) hx hb dX2_isInName_26 (by decide) ?_
        refine lv_goto (tgt := 31) hx hb dX2_isInName_27 (by decide) ?_
        refine j_put (D := (dC, dI)) (ci := 4) (v := .int 3) (ty := .int) (C := RX2) (T := TX2) (N := 12) (A := jA base) hx hb hts hin_4 tyX2 tyX2_ok nmX2 hown hK hat_h0 hb0 hS.2.2 rfl 5 (by decide) (hts (.fieldLink RX2 15 "ProofServer$Frames" "place" "I") (by decide +kernel)) (fun _ h9 => h9) rfl (by decide +kernel) rfl rfl (Nat.le_of_ble_eq_true rfl) dX2_isInName_31 (fun H1 locs1 hat1 hsz1 hfr1 hT1 hL1 => ?_)
        have hfr2 : ∀ q, ¬ (fun q => q = h0) q → H1[q]? = s.heap[q]? := fun q hq => (hfr1 q (fun h => hq (h))).trans (hfr q hq)
        have hsz2 : H1.size = s.heap.size := hsz1.trans hsz
        have hS2 := jS_put hS hsz1 hfr1 hb0 hL1
        try clear hT1
        clear hfr hsz hfr1 hsz1 hL1 hS hat_h0
        have hfr := hfr2
        have hsz := hsz2
        have hS := hS2
        clear hfr2 hsz2 hS2
        generalize locs1 = locs at hS ⊢
        generalize H1 = H at hfr hsz hS hat1 ⊢
        have hat_h0 : va_at (dC, dI) vwCl (h0, .inr (4, [.ref bd, .int len, .int kp, .int ms, .int br, .int 3, .int td, .int fl, .int sg, .int il, .int dg, .int vl])) H := hat1
        refine lv_aload_n hx hb dX2_isInName_34 rfl (lv_at hl 0 rfl) ?_
        refine lv_iconst (v := 0) hx hb dX2_isInName_35 (by decide) ?_
        refine j_put (D := (dC, dI)) (ci := 4) (v := .int 0) (ty := .int) (C := RX2) (T := TX2) (N := 12) (A := jA base) hx hb hts hin_4 tyX2 tyX2_ok nmX2 hown hK hat_h0 hb0 hS.2.2 rfl 10 (by decide) (hts (.fieldLink RX2 67 "ProofServer$Frames" "digits" "I") (by decide +kernel)) (fun _ h9 => h9) rfl (by decide +kernel) rfl rfl (Nat.le_of_ble_eq_true rfl) dX2_isInName_36 (fun H1 locs1 hat1 hsz1 hfr1 hT1 hL1 => ?_)
        have hfr2 : ∀ q, ¬ (fun q => q = h0) q → H1[q]? = s.heap[q]? := fun q hq => (hfr1 q (fun h => hq (h))).trans (hfr q hq)
        have hsz2 : H1.size = s.heap.size := hsz1.trans hsz
        have hS2 := jS_put hS hsz1 hfr1 hb0 hL1
        try clear hT1
        clear hfr hsz hfr1 hsz1 hL1 hS hat_h0
        have hfr := hfr2
        have hsz := hsz2
        have hS := hS2
        clear hfr2 hsz2 hS2
        generalize locs1 = locs at hS ⊢
        generalize H1 = H at hfr hsz hS hat1 ⊢
        have hat_h0 : va_at (dC, dI) vwCl (h0, .inr (4, [.ref bd, .int len, .int kp, .int ms, .int br, .int 3, .int td, .int fl, .int sg, .int il, .int 0, .int vl])) H := hat1
        refine lv_aload_n hx hb dX2_isInName_39 rfl (lv_at hl 0 rfl) ?_
        refine lv_iconst (v := 0) hx hb dX2_isInName_40 (by decide) ?_
        refine j_put (D := (dC, dI)) (ci := 4) (v := .int 0) (ty := .int) (C := RX2) (T := TX2) (N := 12) (A := jA base) hx hb hts hin_4 tyX2 tyX2_ok nmX2 hown hK hat_h0 hb0 hS.2.2 rfl 11 (by decide) (hts (.fieldLink RX2 70 "ProofServer$Frames" "value" "I") (by decide +kernel)) (fun _ h9 => h9) rfl (by decide +kernel) rfl rfl (Nat.le_of_ble_eq_true rfl) dX2_isInName_41 (fun H1 locs1 hat1 hsz1 hfr1 hT1 hL1 => ?_)
        have hfr2 : ∀ q, ¬ (fun q => q = h0) q → H1[q]? = s.heap[q]? := fun q hq => (hfr1 q (fun h => hq (h))).trans (hfr q hq)
        have hsz2 : H1.size = s.heap.size := hsz1.trans hsz
        have hS2 := jS_put hS hsz1 hfr1 hb0 hL1
        try clear hT1
        clear hfr hsz hfr1 hsz1 hL1 hS hat_h0
        have hfr := hfr2
        have hsz := hsz2
        have hS := hS2
        clear hfr2 hsz2 hS2
        generalize locs1 = locs at hS ⊢
        generalize H1 = H at hfr hsz hS hat1 ⊢
        have hat_h0 : va_at (dC, dI) vwCl (h0, .inr (4, [.ref bd, .int len, .int kp, .int ms, .int br, .int 3, .int td, .int fl, .int sg, .int il, .int 0, .int 0])) H := hat1
        refine lv_iconst (v := 1) hx hb dX2_isInName_44 (by decide) ?_
        rw [hQ]
        exact W.zret (v := 1) hx hb hr (jb_nz (Or.inr rfl)) (fun t ht hW => ⟨⟨1, [.ref bd, .int len, .int kp, .int ms, .int br, .int 3, .int td, .int fl, .int sg, .int il, .int 0, .int 0], rfl, ⟨by first | exact Or.inl rfl | exact Or.inr rfl | assumption, len, kp, ms, br, 3, td, fl, sg, il, 0, 0, rfl, rfl, rfl, rfl, rfl, rfl, (hil), by refine ⟨?_, ?_, ?_, ?_, ?_, ?_⟩ <;> omega⟩, by rw [ht]; exact hat_h0, by rw [ht]; exact hsz, fun q hq => by rw [ht]; exact hfr q hq⟩, by rw [ht, hsz]; exact Nat.le_refl _, fun q _ hq => by rw [ht]; exact hfr q (fun h => hq (by rw [h]; exact hb0))⟩) hS.2.2 dX2_isInName_45
