abbrev cX0_quoted : ByteArray := prog_2_method_6_code
def yX0_quoted : MethodName := ⟨RX0, "quoted", "([III)V"⟩
def wsX0_quoted_r1 : List Cond := [Cond.methodLink RX0 50 Lib.Math.min.name, Cond.static Lib.Math.min.name, Cond.initialized "java/lang/Math", Cond.code Lib.Math.min.name Lib.Math.min.code 2 (some .int), Cond.methodLink RX0 7 Lib.Math.max.name, Cond.static Lib.Math.max.name, Cond.code Lib.Math.max.name Lib.Math.max.code 2 (some .int), Cond.constant RX0 60 (65536), Cond.constant RX0 61 (55296), Cond.constant RX0 62 (56320), Cond.constant RX0 66 (65533), Cond.methodLink RX0 40 yX0_put, Cond.instanceMethod yX0_put, Cond.selects RX0 yX0_put yX0_put, Cond.initialized RX0, Cond.code yX0_put cX0_put 2 none, Cond.fieldLink RX0 19 "ProofServer$Bytes" "count" "I", Cond.fieldLink RX0 13 "ProofServer$Bytes" "row" "[B", Cond.constant RX0 23 (1000000), Cond.methodLink RX0 24 yJ7_copyOf_9075b, Cond.static yJ7_copyOf_9075b, Cond.initialized RJ7, Cond.code yJ7_copyOf_9075b cJ7_copyOf_9075b 3 (some (.array .byte)), Cond.methodLink RJ7 310 ⟨"[B", "clone", "()Ljava/lang/Object;"⟩]
def wsX0_quoted_r2 : List Cond := [Cond.sameMethod "[B" "java/lang/Object" "clone" "()Ljava/lang/Object;", Cond.native ⟨"java/lang/Object", "clone", "()Ljava/lang/Object;"⟩, Cond.instanceMethod ⟨"java/lang/Object", "clone", "()Ljava/lang/Object;"⟩, Cond.selects "[B" ⟨"[B", "clone", "()Ljava/lang/Object;"⟩ ⟨"java/lang/Object", "clone", "()Ljava/lang/Object;"⟩, Cond.classLink RJ7 311 "[B", Cond.arrayClass .byte, Cond.methodLink RJ7 304 Lib.Math.min.name, Cond.methodLink RJ7 150 arraycopyName, Cond.native arraycopyName, Cond.static arraycopyName, Cond.initialized "java/lang/System", Cond.methodLink RX0 53 yX0_isHigh, Cond.static yX0_isHigh, Cond.code yX0_isHigh cX0_isHigh 1 (some .boolean), Cond.methodLink RX0 57 yX0_isLow, Cond.static yX0_isLow, Cond.code yX0_isLow cX0_isLow 1 (some .boolean), Cond.constant RX0 73 (57344), Cond.methodLink RX0 63 yX0_character, Cond.instanceMethod yX0_character, Cond.selects RX0 yX0_character yX0_character, Cond.code yX0_character cX0_character 2 none, Cond.methodLink RX0 69 yX0_text, Cond.instanceMethod yX0_text]
def wsX0_quoted_r3 : List Cond := [Cond.selects RX0 yX0_text yX0_text, Cond.code yX0_text cX0_text 3 none, Cond.methodLink RX0 30 yJ0_length_8abf5, Cond.instanceMethod yJ0_length_8abf5, Cond.selects RJ0 yJ0_length_8abf5 yJ0_length_8abf5, Cond.initialized RJ0, Cond.code yJ0_length_8abf5 cJ0_length_8abf5 1 (some .int), Cond.fieldLink RJ0 9 "java/lang/String" "value" "[B", Cond.methodLink RJ0 335 yJ0_coder_7d493, Cond.instanceMethod yJ0_coder_7d493, Cond.selects RJ0 yJ0_coder_7d493 yJ0_coder_7d493, Cond.code yJ0_coder_7d493 cJ0_coder_7d493 1 (some .byte), Cond.fieldLink RJ0 38 "java/lang/String" "COMPACT_STRINGS" "Z", Cond.fieldLink RJ0 15 "java/lang/String" "coder" "B", Cond.methodLink RX0 36 yJ0_charAt_5068e, Cond.instanceMethod yJ0_charAt_5068e, Cond.selects RJ0 yJ0_charAt_5068e yJ0_charAt_5068e, Cond.code yJ0_charAt_5068e cJ0_charAt_5068e 2 (some .char), Cond.methodLink RJ0 492 yJ0_isLatin1_aae02, Cond.instanceMethod yJ0_isLatin1_aae02, Cond.selects RJ0 yJ0_isLatin1_aae02 yJ0_isLatin1_aae02, Cond.code yJ0_isLatin1_aae02 cJ0_isLatin1_aae02 1 (some .boolean), Cond.methodLink RJ0 495 yJ1_charAt_3b067, Cond.static yJ1_charAt_3b067]
def wsX0_quoted_r4 : List Cond := [Cond.initialized RJ1, Cond.code yJ1_charAt_3b067 cJ1_charAt_3b067 2 (some .char), Cond.methodLink RJ1 9 yJ0_checkIndex_df160, Cond.static yJ0_checkIndex_df160, Cond.code yJ0_checkIndex_df160 cJ0_checkIndex_df160 2 none, Cond.fieldLink RJ0 1053 "jdk/internal/util/Preconditions" "SIOOBE_FORMATTER" "Ljava/util/function/BiFunction;", Cond.methodLink RJ0 1059 yJ3_checkIndex_8e157, Cond.static yJ3_checkIndex_8e157, Cond.initialized RJ3, Cond.code yJ3_checkIndex_8e157 cJ3_checkIndex_8e157 3 (some .int), Cond.methodLink RJ0 498 yJ2_charAt_3b067, Cond.static yJ2_charAt_3b067, Cond.initialized RJ2, Cond.code yJ2_charAt_3b067 cJ2_charAt_3b067 2 (some .char), Cond.methodLink RJ2 67 yJ2_checkIndex_2214a, Cond.static yJ2_checkIndex_2214a, Cond.code yJ2_checkIndex_2214a cJ2_checkIndex_2214a 2 none, Cond.methodLink RJ2 48 yJ2_length_9d52b, Cond.static yJ2_length_9d52b, Cond.code yJ2_length_9d52b cJ2_length_9d52b 1 (some .int), Cond.methodLink RJ2 414 yJ0_checkIndex_df160, Cond.methodLink RJ2 71 yJ2_getChar_3b067, Cond.static yJ2_getChar_3b067, Cond.code yJ2_getChar_3b067 cJ2_getChar_3b067 2 (some .char)]
def wsX0_quoted_r5 : List Cond := [Cond.fieldLink RJ2 44 "java/lang/StringUTF16" "$assertionsDisabled" "Z", Cond.fieldLink RJ2 59 "java/lang/StringUTF16" "HI_BYTE_SHIFT" "I", Cond.fieldLink RJ2 63 "java/lang/StringUTF16" "LO_BYTE_SHIFT" "I"]
def wsX0_quoted : List Cond := .code yX0_quoted cX0_quoted 7 none :: ((wsX0_quoted_r1 ++ (wsX0_quoted_r2 ++ (wsX0_quoted_r3 ++ (wsX0_quoted_r4 ++ wsX0_quoted_r5)))) ++ wsX00)
set_option maxRecDepth 20000 in
theorem ggX0_quoted_X0_put : GoodIn wsX0_quoted wsX0_put := goodIn_r _ [16, 17, 18, 19, 20, 21, 22, 23, 24, 25, 26, 27, 28, 29, 30, 31, 2, 3, 4, 32, 33, 34, 35, 100, 101] (by decide +kernel) (by decide +kernel)
set_option maxRecDepth 20000 in
theorem gX0_quoted_X0_put : GoodIn wsX0_quoted (wsV RX0 40 RX0 yX0_put wsX0_put) := goodIn_app (goodIn_of _ (by decide +kernel)) ggX0_quoted_X0_put
set_option maxRecDepth 20000 in
theorem ggX0_quoted_X0_isHigh : GoodIn wsX0_quoted wsX0_isHigh := goodIn_r _ [38, 9, 10] (by decide +kernel) (by decide +kernel)
set_option maxRecDepth 20000 in
theorem gX0_quoted_X0_isHigh : GoodIn wsX0_quoted (va_wsS RX0 53 yX0_isHigh wsX0_isHigh) := goodIn_app (goodIn_of _ (by decide +kernel)) ggX0_quoted_X0_isHigh
set_option maxRecDepth 20000 in
theorem ggX0_quoted_X0_isLow : GoodIn wsX0_quoted wsX0_isLow := goodIn_r _ [41, 10, 42] (by decide +kernel) (by decide +kernel)
set_option maxRecDepth 20000 in
theorem gX0_quoted_X0_isLow : GoodIn wsX0_quoted (va_wsS RX0 57 yX0_isLow wsX0_isLow) := goodIn_app (goodIn_of _ (by decide +kernel)) ggX0_quoted_X0_isLow
set_option maxRecDepth 20000 in
theorem ggX0_quoted_X0_character : GoodIn wsX0_quoted wsX0_character := goodIn_r _ [46, 8, 12, 13, 14, 15, 16, 17, 18, 19, 20, 21, 22, 23, 24, 25, 26, 27, 28, 29, 30, 31, 2, 3, 4, 32, 33, 34, 35, 100, 101] (by decide +kernel) (by decide +kernel)
set_option maxRecDepth 20000 in
theorem gX0_quoted_X0_character : GoodIn wsX0_quoted (wsV RX0 63 RX0 yX0_character wsX0_character) := goodIn_app (goodIn_of _ (by decide +kernel)) ggX0_quoted_X0_character
set_option maxRecDepth 20000 in
theorem ggX0_quoted_X0_text : GoodIn wsX0_quoted wsX0_text := goodIn_r _ [50, 51, 52, 53, 54, 55, 56, 57, 58, 59, 60, 61, 62, 63, 64, 65, 66, 67, 68, 69, 70, 71, 72, 73, 74, 75, 76, 77, 78, 79, 80, 81, 82, 83, 84, 85, 86, 87, 88, 89, 90, 91, 92, 93, 94, 95, 96, 97, 98, 99, 12, 13, 14, 15, 16, 17, 18, 19, 20, 21, 22, 23, 24, 25, 26, 27, 28, 29, 30, 31, 2, 3, 4, 32, 33, 34, 35, 100, 101] (by decide +kernel) (by decide +kernel)
set_option maxRecDepth 20000 in
theorem gX0_quoted_X0_text : GoodIn wsX0_quoted (wsV RX0 69 RX0 yX0_text wsX0_text) := goodIn_app (goodIn_of _ (by decide +kernel)) ggX0_quoted_X0_text
theorem dX0_quoted_0 : decode cX0_quoted 0 = .ok (.aload_n 0, 1) := by decide +kernel
theorem dX0_quoted_1 : decode cX0_quoted 1 = .ok (.bipush 34, 2) := by decide +kernel
theorem dX0_quoted_3 : decode cX0_quoted 3 = .ok (.invokevirtual 40, 3) := by decide +kernel
theorem dX0_quoted_6 : decode cX0_quoted 6 = .ok (.iload_n 2, 1) := by decide +kernel
theorem dX0_quoted_7 : decode cX0_quoted 7 = .ok (.iload_n 3, 1) := by decide +kernel
theorem dX0_quoted_8 : decode cX0_quoted 8 = .ok (.iadd, 1) := by decide +kernel
theorem dX0_quoted_9 : decode cX0_quoted 9 = .ok (.aload_n 1, 1) := by decide +kernel
theorem dX0_quoted_10 : decode cX0_quoted 10 = .ok (.arraylength, 1) := by decide +kernel
theorem dX0_quoted_11 : decode cX0_quoted 11 = .ok (.invokestatic 50, 3) := by decide +kernel
theorem dX0_quoted_14 : decode cX0_quoted 14 = .ok (.istore 4, 2) := by decide +kernel
theorem dX0_quoted_16 : decode cX0_quoted 16 = .ok (.iload_n 2, 1) := by decide +kernel
theorem dX0_quoted_17 : decode cX0_quoted 17 = .ok (.iconst 0, 1) := by decide +kernel
theorem dX0_quoted_18 : decode cX0_quoted 18 = .ok (.invokestatic 7, 3) := by decide +kernel
theorem dX0_quoted_21 : decode cX0_quoted 21 = .ok (.istore 5, 2) := by decide +kernel
theorem dX0_quoted_23 : decode cX0_quoted 23 = .ok (.iload 5, 2) := by decide +kernel
theorem dX0_quoted_25 : decode cX0_quoted 25 = .ok (.iload 4, 2) := by decide +kernel
theorem dX0_quoted_27 : decode cX0_quoted 27 = .ok (.if_icmp .ge 187, 3) := by decide +kernel
theorem dX0_quoted_30 : decode cX0_quoted 30 = .ok (.aload_n 1, 1) := by decide +kernel
theorem dX0_quoted_31 : decode cX0_quoted 31 = .ok (.iload 5, 2) := by decide +kernel
theorem dX0_quoted_33 : decode cX0_quoted 33 = .ok (.iaload, 1) := by decide +kernel
theorem dX0_quoted_34 : decode cX0_quoted 34 = .ok (.istore 6, 2) := by decide +kernel
theorem dX0_quoted_36 : decode cX0_quoted 36 = .ok (.iload 6, 2) := by decide +kernel
theorem dX0_quoted_38 : decode cX0_quoted 38 = .ok (.invokestatic 53, 3) := by decide +kernel
theorem dX0_quoted_41 : decode cX0_quoted 41 = .ok (.ifCond .eq 53, 3) := by decide +kernel
theorem dX0_quoted_44 : decode cX0_quoted 44 = .ok (.iload 5, 2) := by decide +kernel
theorem dX0_quoted_46 : decode cX0_quoted 46 = .ok (.iconst 1, 1) := by decide +kernel
theorem dX0_quoted_47 : decode cX0_quoted 47 = .ok (.iadd, 1) := by decide +kernel
theorem dX0_quoted_48 : decode cX0_quoted 48 = .ok (.iload 4, 2) := by decide +kernel
theorem dX0_quoted_50 : decode cX0_quoted 50 = .ok (.if_icmp .ge 44, 3) := by decide +kernel
theorem dX0_quoted_53 : decode cX0_quoted 53 = .ok (.aload_n 1, 1) := by decide +kernel
theorem dX0_quoted_54 : decode cX0_quoted 54 = .ok (.iload 5, 2) := by decide +kernel
theorem dX0_quoted_56 : decode cX0_quoted 56 = .ok (.iconst 1, 1) := by decide +kernel
theorem dX0_quoted_57 : decode cX0_quoted 57 = .ok (.iadd, 1) := by decide +kernel
theorem dX0_quoted_58 : decode cX0_quoted 58 = .ok (.iaload, 1) := by decide +kernel
theorem dX0_quoted_59 : decode cX0_quoted 59 = .ok (.invokestatic 57, 3) := by decide +kernel
theorem dX0_quoted_62 : decode cX0_quoted 62 = .ok (.ifCond .eq 32, 3) := by decide +kernel
theorem dX0_quoted_65 : decode cX0_quoted 65 = .ok (.iinc 5 1, 3) := by decide +kernel
theorem dX0_quoted_68 : decode cX0_quoted 68 = .ok (.aload_n 0, 1) := by decide +kernel
theorem dX0_quoted_69 : decode cX0_quoted 69 = .ok (.ldc 60, 2) := by decide +kernel
theorem dX0_quoted_71 : decode cX0_quoted 71 = .ok (.iload 6, 2) := by decide +kernel
theorem dX0_quoted_73 : decode cX0_quoted 73 = .ok (.ldc 61, 2) := by decide +kernel
theorem dX0_quoted_75 : decode cX0_quoted 75 = .ok (.isub, 1) := by decide +kernel
theorem dX0_quoted_76 : decode cX0_quoted 76 = .ok (.bipush 10, 2) := by decide +kernel
theorem dX0_quoted_78 : decode cX0_quoted 78 = .ok (.ishl, 1) := by decide +kernel
theorem dX0_quoted_79 : decode cX0_quoted 79 = .ok (.iadd, 1) := by decide +kernel
theorem dX0_quoted_80 : decode cX0_quoted 80 = .ok (.aload_n 1, 1) := by decide +kernel
theorem dX0_quoted_81 : decode cX0_quoted 81 = .ok (.iload 5, 2) := by decide +kernel
theorem dX0_quoted_83 : decode cX0_quoted 83 = .ok (.iaload, 1) := by decide +kernel
theorem dX0_quoted_84 : decode cX0_quoted 84 = .ok (.iadd, 1) := by decide +kernel
theorem dX0_quoted_85 : decode cX0_quoted 85 = .ok (.ldc 62, 2) := by decide +kernel
theorem dX0_quoted_87 : decode cX0_quoted 87 = .ok (.isub, 1) := by decide +kernel
theorem dX0_quoted_88 : decode cX0_quoted 88 = .ok (.invokevirtual 63, 3) := by decide +kernel
theorem dX0_quoted_91 : decode cX0_quoted 91 = .ok (.goto 117, 3) := by decide +kernel
theorem dX0_quoted_94 : decode cX0_quoted 94 = .ok (.iload 6, 2) := by decide +kernel
theorem dX0_quoted_96 : decode cX0_quoted 96 = .ok (.invokestatic 53, 3) := by decide +kernel
theorem dX0_quoted_99 : decode cX0_quoted 99 = .ok (.ifCond .ne 11, 3) := by decide +kernel
theorem dX0_quoted_102 : decode cX0_quoted 102 = .ok (.iload 6, 2) := by decide +kernel
theorem dX0_quoted_104 : decode cX0_quoted 104 = .ok (.invokestatic 57, 3) := by decide +kernel
theorem dX0_quoted_107 : decode cX0_quoted 107 = .ok (.ifCond .eq 12, 3) := by decide +kernel
theorem dX0_quoted_110 : decode cX0_quoted 110 = .ok (.aload_n 0, 1) := by decide +kernel
theorem dX0_quoted_111 : decode cX0_quoted 111 = .ok (.ldc 66, 2) := by decide +kernel
theorem dX0_quoted_113 : decode cX0_quoted 113 = .ok (.invokevirtual 63, 3) := by decide +kernel
theorem dX0_quoted_116 : decode cX0_quoted 116 = .ok (.goto 92, 3) := by decide +kernel
theorem dX0_quoted_119 : decode cX0_quoted 119 = .ok (.iload 6, 2) := by decide +kernel
theorem dX0_quoted_121 : decode cX0_quoted 121 = .ok (.bipush 32, 2) := by decide +kernel
theorem dX0_quoted_123 : decode cX0_quoted 123 = .ok (.if_icmp .ge 59, 3) := by decide +kernel
theorem dX0_quoted_126 : decode cX0_quoted 126 = .ok (.aload_n 0, 1) := by decide +kernel
theorem dX0_quoted_127 : decode cX0_quoted 127 = .ok (.ldc 67, 2) := by decide +kernel
theorem dX0_quoted_129 : decode cX0_quoted 129 = .ok (.invokevirtual 69, 3) := by decide +kernel
theorem dX0_quoted_132 : decode cX0_quoted 132 = .ok (.aload_n 0, 1) := by decide +kernel
theorem dX0_quoted_133 : decode cX0_quoted 133 = .ok (.bipush 48, 2) := by decide +kernel
theorem dX0_quoted_135 : decode cX0_quoted 135 = .ok (.iload 6, 2) := by decide +kernel
theorem dX0_quoted_137 : decode cX0_quoted 137 = .ok (.iconst 4, 1) := by decide +kernel
theorem dX0_quoted_138 : decode cX0_quoted 138 = .ok (.ishr, 1) := by decide +kernel
theorem dX0_quoted_139 : decode cX0_quoted 139 = .ok (.iadd, 1) := by decide +kernel
theorem dX0_quoted_140 : decode cX0_quoted 140 = .ok (.invokevirtual 40, 3) := by decide +kernel
theorem dX0_quoted_143 : decode cX0_quoted 143 = .ok (.aload_n 0, 1) := by decide +kernel
theorem dX0_quoted_144 : decode cX0_quoted 144 = .ok (.iload 6, 2) := by decide +kernel
theorem dX0_quoted_146 : decode cX0_quoted 146 = .ok (.bipush 15, 2) := by decide +kernel
theorem dX0_quoted_148 : decode cX0_quoted 148 = .ok (.iand, 1) := by decide +kernel
theorem dX0_quoted_149 : decode cX0_quoted 149 = .ok (.bipush 10, 2) := by decide +kernel
theorem dX0_quoted_151 : decode cX0_quoted 151 = .ok (.if_icmp .ge 14, 3) := by decide +kernel
theorem dX0_quoted_154 : decode cX0_quoted 154 = .ok (.bipush 48, 2) := by decide +kernel
theorem dX0_quoted_156 : decode cX0_quoted 156 = .ok (.iload 6, 2) := by decide +kernel
theorem dX0_quoted_158 : decode cX0_quoted 158 = .ok (.bipush 15, 2) := by decide +kernel
theorem dX0_quoted_160 : decode cX0_quoted 160 = .ok (.iand, 1) := by decide +kernel
theorem dX0_quoted_161 : decode cX0_quoted 161 = .ok (.iadd, 1) := by decide +kernel
theorem dX0_quoted_162 : decode cX0_quoted 162 = .ok (.goto 14, 3) := by decide +kernel
theorem dX0_quoted_165 : decode cX0_quoted 165 = .ok (.bipush 97, 2) := by decide +kernel
theorem dX0_quoted_167 : decode cX0_quoted 167 = .ok (.iload 6, 2) := by decide +kernel
theorem dX0_quoted_169 : decode cX0_quoted 169 = .ok (.bipush 15, 2) := by decide +kernel
theorem dX0_quoted_171 : decode cX0_quoted 171 = .ok (.iand, 1) := by decide +kernel
theorem dX0_quoted_172 : decode cX0_quoted 172 = .ok (.iadd, 1) := by decide +kernel
theorem dX0_quoted_173 : decode cX0_quoted 173 = .ok (.bipush 10, 2) := by decide +kernel
theorem dX0_quoted_175 : decode cX0_quoted 175 = .ok (.isub, 1) := by decide +kernel
theorem dX0_quoted_176 : decode cX0_quoted 176 = .ok (.invokevirtual 40, 3) := by decide +kernel
theorem dX0_quoted_179 : decode cX0_quoted 179 = .ok (.goto 29, 3) := by decide +kernel
theorem dX0_quoted_182 : decode cX0_quoted 182 = .ok (.iload 6, 2) := by decide +kernel
theorem dX0_quoted_184 : decode cX0_quoted 184 = .ok (.bipush 34, 2) := by decide +kernel
theorem dX0_quoted_186 : decode cX0_quoted 186 = .ok (.if_icmp .eq 10, 3) := by decide +kernel
theorem dX0_quoted_189 : decode cX0_quoted 189 = .ok (.iload 6, 2) := by decide +kernel
theorem dX0_quoted_191 : decode cX0_quoted 191 = .ok (.bipush 92, 2) := by decide +kernel
theorem dX0_quoted_193 : decode cX0_quoted 193 = .ok (.if_icmp .ne 9, 3) := by decide +kernel
theorem dX0_quoted_196 : decode cX0_quoted 196 = .ok (.aload_n 0, 1) := by decide +kernel
theorem dX0_quoted_197 : decode cX0_quoted 197 = .ok (.bipush 92, 2) := by decide +kernel
theorem dX0_quoted_199 : decode cX0_quoted 199 = .ok (.invokevirtual 40, 3) := by decide +kernel
theorem dX0_quoted_202 : decode cX0_quoted 202 = .ok (.aload_n 0, 1) := by decide +kernel
theorem dX0_quoted_203 : decode cX0_quoted 203 = .ok (.iload 6, 2) := by decide +kernel
theorem dX0_quoted_205 : decode cX0_quoted 205 = .ok (.invokevirtual 63, 3) := by decide +kernel
theorem dX0_quoted_208 : decode cX0_quoted 208 = .ok (.iinc 5 1, 3) := by decide +kernel
theorem dX0_quoted_211 : decode cX0_quoted 211 = .ok (.goto (-188), 3) := by decide +kernel
theorem dX0_quoted_214 : decode cX0_quoted 214 = .ok (.aload_n 0, 1) := by decide +kernel
theorem dX0_quoted_215 : decode cX0_quoted 215 = .ok (.bipush 34, 2) := by decide +kernel
theorem dX0_quoted_217 : decode cX0_quoted 217 = .ok (.invokevirtual 40, 3) := by decide +kernel
theorem dX0_quoted_220 : decode cX0_quoted 220 = .ok (.return_, 1) := by decide +kernel
set_option maxHeartbeats 4000000 in
set_option maxRecDepth 20000 in
theorem tX0_quoted (l : Launch) (dC : Nat → ClassId) (dI : Nat → Nat → Nat) (ca : Nat → ClassId) (base LC LS : Nat) (B : jF) (hB : jBok B) (hB101 : ∀ n G a H, B 101 n G a H ↔ ∃ f : Nat → Int32, va_at (dC, dI) vwCl (a, .inl (ca 1, n, .inl f)) H) (G0 : jT) (X : List Nat) (H0 : Heap) (a len0 : Nat) (cnt0 : Int32) (un nu : Nat) (from_ sz : Int32) : Met l yX0_quoted wsX0_quoted ({ frames := 6, cells := LC - H0.size, slots := LS - jTot H0, locals := 300 }) (va_Pc [.ref a, .ref un, .int from_, .int sz] (fun U => jPre2 dC dI ca base B LC LS G0 X a len0 cnt0 (6 * nu + 2) H0 U ∧ G0 un = some (101, nu) ∧ un ∉ X ∧ (nu < 1000000))) (va_Qv (S := jT × Nat × Int32) (fun _ => True) (fun u t => jPost2 dC dI ca base B G0 X a len0 cnt0 (6 * nu + 2) H0 u t.heap) (jA base)) (LC - H0.size) (LS - jTot H0) (jA base) := by
  refine Met.ofW (cc := cX0_quoted) (maxL := 7) (ret := none) (by decide) rfl ?_
  intro p e s m args below meth c s₁ Bd hml hv
  obtain ⟨rfl, ⟨hH0, hX0, hBy0, hG, hga, haX, hN⟩, hg_un, hn_un, hpre⟩ := hv
  have hK := hG.1
  have hx := Bd.exec
  have hb := Bd.bytes
  have hr := Bd.returns
  have hts := atoms_spec (ws := wsX0_quoted) Bd.pre
  have hown : s.vm.findClass RX0 = some m.cls := findClass_of_methodNamed Bd.named
  have hlocks := Bd.notSynchronized
  obtain ⟨Q, hQ⟩ : ∃ Q, Q = MQ below (va_Qv (S := jT × Nat × Int32) (fun _ => True) (fun u t => jPost2 dC dI ca base B G0 X a len0 cnt0 (6 * nu + 2) H0 u t.heap) (jA base)) ([.ref a, .ref un, .int from_, .int sz] : List Value).toArray s (LC - H0.size) (LS - jTot H0) (jA base) := ⟨_, rfl⟩
  rw [← hQ]
  have hl := lv_entry ([.ref a, .ref un, .int from_, .int sz]) (n := 7) (Nat.le_of_ble_eq_true rfl)
  rw [lg_entry_eq]
  generalize (lg_sl ([.ref a, .ref un, .int from_, .int sz]) ++ List.replicate (7 - (lg_sl ([.ref a, .ref un, .int from_, .int sz])).length) Slot.unset).toArray = ls at hl ⊢
  have hl : lv_has ls 7 [(0, .ref a), (1, .ref un), (2, .int from_), (3, .int sz)] := hl
  generalize hR : (headSpec wsX0_quoted ({ frames := 6, cells := LC - H0.size, slots := LS - jTot H0, locals := 300 })).room = R
  subst hH0
  have hS : va_S (jA base) s.heap s.heap [] := va_S.rf
  have hC := hX0.rf2 hBy0 hN
  obtain ⟨hn1, hn2, hn3, hn4, -⟩ := id hN
  have hlt_un := (hX0.2 _ _ hg_un).2
  have hk0 : (0 : Int32).toInt = 0 := by decide
  have hk1 : (1 : Int32).toInt = 1 := by decide
  have hk4 : (4 : Int32).toInt = 4 := by decide
  have hk10 : (10 : Int32).toInt = 10 := by decide
  have hk15 : (15 : Int32).toInt = 15 := by decide
  have hk32 : (32 : Int32).toInt = 32 := by decide
  have hk34 : (34 : Int32).toInt = 34 := by decide
  have hk48 : (48 : Int32).toInt = 48 := by decide
  have hk92 : (92 : Int32).toInt = 92 := by decide
  have hk97 : (97 : Int32).toInt = 97 := by decide
  refine lv_aload_n hx hb dX0_quoted_0 rfl (lv_at hl 0 rfl) ?_
  refine lv_bipush (v := 34) hx hb dX0_quoted_1 (by decide) ?_
  refine W.room (fun kz_1 kt_1 => ?_)
  obtain ⟨kc_1, ks_1, -, -⟩ := hN.cells hC (by omega) kt_1
  refine va_callv (A0 := jA base) (H0 := s.heap) (va_runV (As := [.int 34]) (rest := []) ⟨hx, hb, hml, hown, hts⟩ (tX0_put l dC dI ca base LC LS B hB G0 X s.heap a len0 cnt0 34) (cwV 1 hts gX0_quoted_X0_put rfl rfl rfl (by decide +kernel) ⟨by rw [← hR]; exact Nat.le_of_ble_eq_true rfl, by rw [← hR]; exact Nat.le_of_ble_eq_true rfl⟩) ⟨fun av U g mk q => ⟨q.1, jPre2.blind g mk av q.2⟩, hC.2.2.1.recv hK, fun U hU hW => ⟨rfl, jPre2.mk (K2 := 1) hG hW hU hS hN hga haX hX0 hC (by omega)⟩⟩ rfl rfl hl.1 rfl (lv_room (Nat.le_of_ble_eq_true rfl)) dX0_quoted_3 ⟨by rw [← hR]; exact kc_1, by rw [← hR]; exact ks_1⟩) hS (fun q _ h => h) (fun q h => h) (fun u t H_1 locs_1 ht_1 hvm_1 hw_1 hBb_1 hz_1 hk_1_ hS_1 => ?_)
  obtain ⟨G_1, len_1, cnt_1⟩ := u
  rw [ht_1] at hBb_1
  have hC_1 := hC.tr hBb_1
  clear hBb_1 ht_1 hvm_1 hw_1 hz_1 hk_1_ kc_1 ks_1 kz_1 kt_1
  refine lv_iload_n hx hb dX0_quoted_6 rfl (lv_at hl 2 rfl) ?_
  refine lv_iload_n hx hb dX0_quoted_7 rfl (lv_at hl 3 rfl) ?_
  refine lv_iadd hx hb dX0_quoted_8 ?_
  refine lv_topi (fun z_2 ez_2 => ?_)
  refine lv_aload_n hx hb dX0_quoted_9 rfl (lv_at hl 1 rfl) ?_
  have hb_4 := (hB101 _ _ _ _).mp (hC_1.1.1 un 101 nu (hC_1.2.1.at hlt_un hg_un) (by omega) hn_un)
  obtain ⟨ft_5, hft_5⟩ := hb_4
  refine va_alen (v := Int32.ofNat nu) hx hb hK (jp_one hft_5) 0 1 rfl rfl rfl dX0_quoted_10 ?_
  refine lv_topi (fun z_3 ez_3 => ?_)
  have hz_3 : z_3.toInt = nu := by rw [ez_3]; exact jb_nat (by omega)
  refine W.room (fun kz_6 kt_6 => ?_)
  obtain ⟨-, -, kc_6, ks_6⟩ := hN.cells hC_1 (by omega) kt_6
  refine va_mmin hx hb (by rw [hml]; exact hl.1.symm) hown (hts (.methodLink RX0 50 Lib.Math.min.name) (by decide +kernel)) (hts (.static Lib.Math.min.name) (by decide +kernel)) (hts (.initialized "java/lang/Math") (by decide +kernel)) (hts (.code Lib.Math.min.name Lib.Math.min.code 2 (some .int)) (by decide +kernel)) (by rw [← hR]; exact Nat.le_of_ble_eq_true rfl) (by rw [← hR]; exact Nat.le_of_ble_eq_true rfl) (by rw [← hR]; exact kc_6) (by rw [← hR]; exact ks_6) dX0_quoted_11 ?_
  refine lv_topi (fun z_7 ez_7 => ?_)
  have hz_7 := jb_min ez_7
  refine lv_istore (lv' := [(4, .int z_7), (0, .ref a), (1, .ref un), (2, .int from_), (3, .int sz)]) hx hb dX0_quoted_14 hl (by decide) rfl (fun ls hl => ?_)
  refine lv_iload_n hx hb dX0_quoted_16 rfl (lv_at hl 3 rfl) ?_
  refine lv_iconst (v := 0) hx hb dX0_quoted_17 (by decide) ?_
  refine W.room (fun kz_8 kt_8 => ?_)
  obtain ⟨-, -, kc_8, ks_8⟩ := hN.cells hC_1 (by omega) kt_8
  refine va_mmax hx hb (by rw [hml]; exact hl.1.symm) hown (hts (.methodLink RX0 7 Lib.Math.max.name) (by decide +kernel)) (hts (.static Lib.Math.max.name) (by decide +kernel)) (hts (.initialized "java/lang/Math") (by decide +kernel)) (hts (.code Lib.Math.max.name Lib.Math.max.code 2 (some .int)) (by decide +kernel)) (by rw [← hR]; exact Nat.le_of_ble_eq_true rfl) (by rw [← hR]; exact Nat.le_of_ble_eq_true rfl) (by rw [← hR]; exact kc_8) (by rw [← hR]; exact ks_8) dX0_quoted_18 ?_
  refine lv_topi (fun z_9 ez_9 => ?_)
  have hz_9 := jb_max ez_9
  refine lv_istore (lv' := [(5, .int z_9), (4, .int z_7), (0, .ref a), (1, .ref un), (2, .int from_), (3, .int sz)]) hx hb dX0_quoted_21 hl (by decide) rfl (fun ls hl => ?_)
  have L23 : ∀ (N : Nat) (st i : Int32) (G : jT) (len : Nat) (cnt : Int32) (H : Heap) (locs : List Loc) (Kd cc ss : Nat), jPost2 dC dI ca base B G0 X a len0 cnt0 Kd s.heap (G, len, cnt) H → va_S (jA base) s.heap H locs → (0 ≤ i.toInt ∧ st.toInt ≤ nu ∧ (Kd : Int) ≤ 1 + 6 * i.toInt ∧ (Kd : Int) ≤ 1 + 6 * nu) → (((st.toInt - i.toInt).toNat : Int) : Int) < N → ∀ ls : Array Slot, lv_has ls 7 [(0, .ref a), (1, .ref un), (4, .int st), (5, .int i)] → W p l e R s m ([.ref a, .ref un, .int from_, .int sz] : List Value).toArray below meth c H locs cc ss Q (F0 m 23 ls []) := by
    intro N
    induction N with
    | zero => intro st i G len cnt H locs Kd cc ss hC hS hi hm; exact absurd hm (by omega)
    | succ N ih =>
      have L23 := ih
      intro st i G len cnt H locs Kd cc ss hC hS hi hm ls hl
      obtain ⟨hi0, hi1, hi2, hi3⟩ := hi
      refine lv_iload hx hb dX0_quoted_23 (lv_at hl 3 rfl) ?_
      refine lv_iload hx hb dX0_quoted_25 (lv_at hl 2 rfl) ?_
      refine lv_icmp_ge (tgt := 214) hx hb dX0_quoted_27 (by decide) (fun c_10 => ?_) (fun c_10 => ?_)
      · skip
        have c_10' : i.toInt ≥ st.toInt := jb_ge (rfl) (rfl) c_10
        refine lv_aload_n hx hb dX0_quoted_214 rfl (lv_at hl 0 rfl) ?_
        refine lv_bipush (v := 34) hx hb dX0_quoted_215 (by decide) ?_
        refine W.room (fun kz_11 kt_11 => ?_)
        obtain ⟨kc_11, ks_11, -, -⟩ := hN.cells hC (by omega) kt_11
        refine va_callv (A0 := jA base) (H0 := s.heap) (va_runV (As := [.int 34]) (rest := []) ⟨hx, hb, hml, hown, hts⟩ (tX0_put l dC dI ca base LC LS B hB G X H a len cnt 34) (cwV 1 hts gX0_quoted_X0_put rfl rfl rfl (by decide +kernel) ⟨by rw [← hR]; exact Nat.le_of_ble_eq_true rfl, by rw [← hR]; exact Nat.le_of_ble_eq_true rfl⟩) ⟨fun av U g mk q => ⟨q.1, jPre2.blind g mk av q.2⟩, hC.2.2.1.recv hK, fun U hU hW => ⟨rfl, jPre2.mk (K2 := 1) hG hW hU hS hN hga haX hX0 hC (by omega)⟩⟩ rfl rfl hl.1 rfl (lv_room (Nat.le_of_ble_eq_true rfl)) dX0_quoted_217 ⟨by rw [← hR]; exact kc_11, by rw [← hR]; exact ks_11⟩) hS (fun q _ h => h) (fun q h => h) (fun u t H_11 locs_11 ht_11 hvm_11 hw_11 hBb_11 hz_11 hk_11_ hS_11 => ?_)
        obtain ⟨G_11, len_11, cnt_11⟩ := u
        rw [ht_11] at hBb_11
        have hC_11 := hC.tr hBb_11
        clear hBb_11 ht_11 hvm_11 hw_11 hz_11 hk_11_ kc_11 ks_11 kz_11 kt_11
        rw [hQ]
        refine W.room (fun kz kt => ?_)
        obtain ⟨-, -, kc, ks⟩ := hN.cells hC_11 (by omega) kt
        refine W.widen (k := LC - s.heap.size) (n := LS - jTot s.heap) kc ks ?_
        exact W.vret hx hb hr (fun t ht hW => ⟨⟨(G_11, len_11, cnt_11), rfl, trivial, by simp only; rw [ht]; exact hC_11.le (by omega)⟩, by rw [ht]; exact hS_11.1, fun q h9 hq => by rw [ht]; exact hS_11.2.1 q h9 hq⟩) hS_11.2.2 dX0_quoted_220
      · skip
        have c_10' : i.toInt < st.toInt := jb_ge_n (rfl) (rfl) c_10
        refine lv_aload_n hx hb dX0_quoted_30 rfl (lv_at hl 1 rfl) ?_
        refine lv_iload hx hb dX0_quoted_31 (lv_at hl 3 rfl) ?_
        have hb_13 := (hB101 _ _ _ _).mp (hC.1.1 un 101 nu (hC.2.1.at hlt_un hg_un) (by omega) hn_un)
        obtain ⟨ft_14, hft_14⟩ := hb_13
        refine va_iald hx hb hK (jp_one hft_14) 0 1 rfl rfl (jb_in (rfl) (by omega) (by omega)) dX0_quoted_33 ?_
        refine lv_topi (fun z_12 ez_12 => ?_)
        refine lv_istore (lv' := [(6, .int z_12), (0, .ref a), (1, .ref un), (4, .int st), (5, .int i)]) hx hb dX0_quoted_34 hl (by decide) rfl (fun ls hl => ?_)
        refine lv_iload hx hb dX0_quoted_36 (lv_at hl 0 rfl) ?_
        refine W.room (fun kz_16 kt_16 => ?_)
        obtain ⟨-, -, kc_16, ks_16⟩ := hN.cells hC (by omega) kt_16
        refine vp_callSi (W.runS (As := [.int z_12]) (rest := []) ⟨hx, hb, hml, hown, hts⟩ (kX0_isHigh l dC dI ca base H z_12) (va_cwS 1 hts gX0_quoted_X0_isHigh rfl rfl rfl (by decide +kernel) ⟨by rw [← hR]; exact Nat.le_of_ble_eq_true rfl, by rw [← hR]; exact Nat.le_of_ble_eq_true rfl⟩) ⟨fun a U g mk q => by obtain ⟨q0, q1, qK, q9⟩ := q; exact ⟨q0, q1, jG.calling g mk a qK, q9⟩, fun U hU hW => ⟨rfl, hU, hG.step hW hU hS, by first | trivial | omega | (constructor <;> omega)⟩⟩ rfl rfl hl.1 rfl (lv_room (Nat.le_of_ble_eq_true rfl)) dX0_quoted_38 ⟨by rw [← hR]; exact kc_16, by rw [← hR]; exact ks_16⟩) (fun r_15 hr_15 => ?_)
        have hr_15' : r_15.toInt = 0 ∨ r_15.toInt = 1 := jb_01 hr_15
        refine lv_if_eq (tgt := 94) hx hb dX0_quoted_41 (by decide) (fun c_17 => ?_) (fun c_17 => ?_)
        · skip
          have c_17' : r_15.toInt = 0 := jb_eq (rfl) ((by decide)) c_17
          refine lv_iload hx hb dX0_quoted_94 (lv_at hl 0 rfl) ?_
          refine W.room (fun kz_19 kt_19 => ?_)
          obtain ⟨-, -, kc_19, ks_19⟩ := hN.cells hC (by omega) kt_19
          refine vp_callSi (W.runS (As := [.int z_12]) (rest := []) ⟨hx, hb, hml, hown, hts⟩ (kX0_isHigh l dC dI ca base H z_12) (va_cwS 1 hts gX0_quoted_X0_isHigh rfl rfl rfl (by decide +kernel) ⟨by rw [← hR]; exact Nat.le_of_ble_eq_true rfl, by rw [← hR]; exact Nat.le_of_ble_eq_true rfl⟩) ⟨fun a U g mk q => by obtain ⟨q0, q1, qK, q9⟩ := q; exact ⟨q0, q1, jG.calling g mk a qK, q9⟩, fun U hU hW => ⟨rfl, hU, hG.step hW hU hS, by first | trivial | omega | (constructor <;> omega)⟩⟩ rfl rfl hl.1 rfl (lv_room (Nat.le_of_ble_eq_true rfl)) dX0_quoted_96 ⟨by rw [← hR]; exact kc_19, by rw [← hR]; exact ks_19⟩) (fun r_18 hr_18 => ?_)
          have hr_18' : r_18.toInt = 0 ∨ r_18.toInt = 1 := jb_01 hr_18
          refine lv_if_ne (tgt := 110) hx hb dX0_quoted_99 (by decide) (fun c_20 => ?_) (fun c_20 => ?_)
          · skip
            have c_20' : r_18.toInt ≠ 0 := jb_ne (rfl) ((by decide)) c_20
            refine lv_aload_n hx hb dX0_quoted_110 rfl (lv_at hl 1 rfl) ?_
            refine lv_ldc hx hb hown (hts (.constant RX0 66 65533) (by decide +kernel)) dX0_quoted_111 ?_
            refine W.room (fun kz_21 kt_21 => ?_)
            obtain ⟨kc_21, ks_21, -, -⟩ := hN.cells hC (by omega) kt_21
            refine va_callv (A0 := jA base) (H0 := s.heap) (va_runV (As := [.int 65533]) (rest := []) ⟨hx, hb, hml, hown, hts⟩ (tX0_character l dC dI ca base LC LS B hB G X H a len cnt 65533) (cwV 1 hts gX0_quoted_X0_character rfl rfl rfl (by decide +kernel) ⟨by rw [← hR]; exact Nat.le_of_ble_eq_true rfl, by rw [← hR]; exact Nat.le_of_ble_eq_true rfl⟩) ⟨fun av U g mk q => by obtain ⟨q8, q9, q7⟩ := q; exact ⟨q8, jPre2.blind g mk av q9, q7⟩, hC.2.2.1.recv hK, fun U hU hW => ⟨rfl, jPre2.mk (K2 := 4) hG hW hU hS hN hga haX hX0 hC (by omega), trivial⟩⟩ rfl rfl hl.1 rfl (lv_room (Nat.le_of_ble_eq_true rfl)) dX0_quoted_113 ⟨by rw [← hR]; exact kc_21, by rw [← hR]; exact ks_21⟩) hS (fun q _ h => h) (fun q h => h) (fun u t H_21 locs_21 ht_21 hvm_21 hw_21 hBb_21 hz_21 hk_21_ hS_21 => ?_)
            obtain ⟨G_21, len_21, cnt_21⟩ := u
            rw [ht_21] at hBb_21
            have hC_21 := hC.tr hBb_21
            clear hBb_21 ht_21 hvm_21 hw_21 hz_21 hk_21_ kc_21 ks_21 kz_21 kt_21
            refine lv_goto (tgt := 208) hx hb dX0_quoted_116 (by decide) ?_
            obtain ⟨z_22, ez_22⟩ : ∃ y : Int32, y = i + 1 := ⟨_, rfl⟩
            refine lv_iinc (v := z_22) (lv' := [(5, .int z_22), (6, .int z_12), (0, .ref a), (1, .ref un), (4, .int st)]) hx hb dX0_quoted_208 hl (k := 4) rfl (by rw [ez_22]; rfl) (by decide) rfl (fun ls hl => ?_)
            have hz_22 : z_22.toInt = i.toInt + 1 := by rw [ez_22]; exact jb_iadd (rfl) (by decide) (by omega) (by omega)
            refine lv_goto (tgt := 23) hx hb dX0_quoted_211 (by decide) ?_
            exact L23 st z_22 G_21 len_21 cnt_21 H_21 locs_21 ((Kd + 4)) _ _ hC_21 hS_21 (by refine ⟨?_, ?_, ?_, ?_⟩ <;> omega) (by omega) _ (lv_sub hl [2, 3, 4, 0] rfl)
          · skip
            have c_20' : r_18.toInt = 0 := jb_ne_n (rfl) ((by decide)) c_20
            refine lv_iload hx hb dX0_quoted_102 (lv_at hl 0 rfl) ?_
            refine W.room (fun kz_24 kt_24 => ?_)
            obtain ⟨-, -, kc_24, ks_24⟩ := hN.cells hC (by omega) kt_24
            refine vp_callSi (W.runS (As := [.int z_12]) (rest := []) ⟨hx, hb, hml, hown, hts⟩ (kX0_isLow l dC dI ca base H z_12) (va_cwS 1 hts gX0_quoted_X0_isLow rfl rfl rfl (by decide +kernel) ⟨by rw [← hR]; exact Nat.le_of_ble_eq_true rfl, by rw [← hR]; exact Nat.le_of_ble_eq_true rfl⟩) ⟨fun a U g mk q => by obtain ⟨q0, q1, qK, q9⟩ := q; exact ⟨q0, q1, jG.calling g mk a qK, q9⟩, fun U hU hW => ⟨rfl, hU, hG.step hW hU hS, by first | trivial | omega | (constructor <;> omega)⟩⟩ rfl rfl hl.1 rfl (lv_room (Nat.le_of_ble_eq_true rfl)) dX0_quoted_104 ⟨by rw [← hR]; exact kc_24, by rw [← hR]; exact ks_24⟩) (fun r_23 hr_23 => ?_)
            have hr_23' : r_23.toInt = 0 ∨ r_23.toInt = 1 := jb_01 hr_23
            refine lv_if_eq (tgt := 119) hx hb dX0_quoted_107 (by decide) (fun c_25 => ?_) (fun c_25 => ?_)
            · skip
              have c_25' : r_23.toInt = 0 := jb_eq (rfl) ((by decide)) c_25
              refine lv_iload hx hb dX0_quoted_119 (lv_at hl 0 rfl) ?_
              refine lv_bipush (v := 32) hx hb dX0_quoted_121 (by decide) ?_
              refine lv_icmp_ge (tgt := 182) hx hb dX0_quoted_123 (by decide) (fun c_26 => ?_) (fun c_26 => ?_)
              · skip
                have c_26' : z_12.toInt ≥ 32 := jb_ge (rfl) ((by decide)) c_26
                refine lv_iload hx hb dX0_quoted_182 (lv_at hl 0 rfl) ?_
                refine lv_bipush (v := 34) hx hb dX0_quoted_184 (by decide) ?_
                refine lv_icmp_eq (tgt := 196) hx hb dX0_quoted_186 (by decide) (fun c_27 => ?_) (fun c_27 => ?_)
                · skip
                  have c_27' : z_12.toInt = 34 := jb_eq (rfl) ((by decide)) c_27
                  refine lv_aload_n hx hb dX0_quoted_196 rfl (lv_at hl 1 rfl) ?_
                  refine lv_bipush (v := 92) hx hb dX0_quoted_197 (by decide) ?_
                  refine W.room (fun kz_28 kt_28 => ?_)
                  obtain ⟨kc_28, ks_28, -, -⟩ := hN.cells hC (by omega) kt_28
                  refine va_callv (A0 := jA base) (H0 := s.heap) (va_runV (As := [.int 92]) (rest := []) ⟨hx, hb, hml, hown, hts⟩ (tX0_put l dC dI ca base LC LS B hB G X H a len cnt 92) (cwV 1 hts gX0_quoted_X0_put rfl rfl rfl (by decide +kernel) ⟨by rw [← hR]; exact Nat.le_of_ble_eq_true rfl, by rw [← hR]; exact Nat.le_of_ble_eq_true rfl⟩) ⟨fun av U g mk q => ⟨q.1, jPre2.blind g mk av q.2⟩, hC.2.2.1.recv hK, fun U hU hW => ⟨rfl, jPre2.mk (K2 := 1) hG hW hU hS hN hga haX hX0 hC (by omega)⟩⟩ rfl rfl hl.1 rfl (lv_room (Nat.le_of_ble_eq_true rfl)) dX0_quoted_199 ⟨by rw [← hR]; exact kc_28, by rw [← hR]; exact ks_28⟩) hS (fun q _ h => h) (fun q h => h) (fun u t H_28 locs_28 ht_28 hvm_28 hw_28 hBb_28 hz_28 hk_28_ hS_28 => ?_)
                  obtain ⟨G_28, len_28, cnt_28⟩ := u
                  rw [ht_28] at hBb_28
                  have hC_28 := hC.tr hBb_28
                  clear hBb_28 ht_28 hvm_28 hw_28 hz_28 hk_28_ kc_28 ks_28 kz_28 kt_28
                  refine lv_aload_n hx hb dX0_quoted_202 rfl (lv_at hl 1 rfl) ?_
                  refine lv_iload hx hb dX0_quoted_203 (lv_at hl 0 rfl) ?_
                  refine W.room (fun kz_29 kt_29 => ?_)
                  obtain ⟨kc_29, ks_29, -, -⟩ := hN.cells hC_28 (by omega) kt_29
                  refine va_callv (A0 := jA base) (H0 := s.heap) (va_runV (As := [.int z_12]) (rest := []) ⟨hx, hb, hml, hown, hts⟩ (tX0_character l dC dI ca base LC LS B hB G_28 X H_28 a len_28 cnt_28 z_12) (cwV 1 hts gX0_quoted_X0_character rfl rfl rfl (by decide +kernel) ⟨by rw [← hR]; exact Nat.le_of_ble_eq_true rfl, by rw [← hR]; exact Nat.le_of_ble_eq_true rfl⟩) ⟨fun av U g mk q => by obtain ⟨q8, q9, q7⟩ := q; exact ⟨q8, jPre2.blind g mk av q9, q7⟩, hC_28.2.2.1.recv hK, fun U hU hW => ⟨rfl, jPre2.mk (K2 := 4) hG hW hU hS_28 hN hga haX hX0 hC_28 (by omega), trivial⟩⟩ rfl rfl hl.1 rfl (lv_room (Nat.le_of_ble_eq_true rfl)) dX0_quoted_205 ⟨by rw [← hR]; exact kc_29, by rw [← hR]; exact ks_29⟩) hS_28 (fun q _ h => h) (fun q h => h) (fun u t H_29 locs_29 ht_29 hvm_29 hw_29 hBb_29 hz_29 hk_29_ hS_29 => ?_)
                  obtain ⟨G_29, len_29, cnt_29⟩ := u
                  rw [ht_29] at hBb_29
                  have hC_29 := hC_28.tr hBb_29
                  clear hBb_29 ht_29 hvm_29 hw_29 hz_29 hk_29_ kc_29 ks_29 kz_29 kt_29
                  obtain ⟨z_30, ez_30⟩ : ∃ y : Int32, y = i + 1 := ⟨_, rfl⟩
                  refine lv_iinc (v := z_30) (lv' := [(5, .int z_30), (6, .int z_12), (0, .ref a), (1, .ref un), (4, .int st)]) hx hb dX0_quoted_208 hl (k := 4) rfl (by rw [ez_30]; rfl) (by decide) rfl (fun ls hl => ?_)
                  have hz_30 : z_30.toInt = i.toInt + 1 := by rw [ez_30]; exact jb_iadd (rfl) (by decide) (by omega) (by omega)
                  refine lv_goto (tgt := 23) hx hb dX0_quoted_211 (by decide) ?_
                  exact L23 st z_30 G_29 len_29 cnt_29 H_29 locs_29 (((Kd + 1) + 4)) _ _ hC_29 hS_29 (by refine ⟨?_, ?_, ?_, ?_⟩ <;> omega) (by omega) _ (lv_sub hl [2, 3, 4, 0] rfl)
                · skip
                  have c_27' : z_12.toInt ≠ 34 := jb_eq_n (rfl) ((by decide)) c_27
                  refine lv_iload hx hb dX0_quoted_189 (lv_at hl 0 rfl) ?_
                  refine lv_bipush (v := 92) hx hb dX0_quoted_191 (by decide) ?_
                  refine lv_icmp_ne (tgt := 202) hx hb dX0_quoted_193 (by decide) (fun c_31 => ?_) (fun c_31 => ?_)
                  · skip
                    have c_31' : z_12.toInt ≠ 92 := jb_ne (rfl) ((by decide)) c_31
                    refine lv_aload_n hx hb dX0_quoted_202 rfl (lv_at hl 1 rfl) ?_
                    refine lv_iload hx hb dX0_quoted_203 (lv_at hl 0 rfl) ?_
                    refine W.room (fun kz_32 kt_32 => ?_)
                    obtain ⟨kc_32, ks_32, -, -⟩ := hN.cells hC (by omega) kt_32
                    refine va_callv (A0 := jA base) (H0 := s.heap) (va_runV (As := [.int z_12]) (rest := []) ⟨hx, hb, hml, hown, hts⟩ (tX0_character l dC dI ca base LC LS B hB G X H a len cnt z_12) (cwV 1 hts gX0_quoted_X0_character rfl rfl rfl (by decide +kernel) ⟨by rw [← hR]; exact Nat.le_of_ble_eq_true rfl, by rw [← hR]; exact Nat.le_of_ble_eq_true rfl⟩) ⟨fun av U g mk q => by obtain ⟨q8, q9, q7⟩ := q; exact ⟨q8, jPre2.blind g mk av q9, q7⟩, hC.2.2.1.recv hK, fun U hU hW => ⟨rfl, jPre2.mk (K2 := 4) hG hW hU hS hN hga haX hX0 hC (by omega), trivial⟩⟩ rfl rfl hl.1 rfl (lv_room (Nat.le_of_ble_eq_true rfl)) dX0_quoted_205 ⟨by rw [← hR]; exact kc_32, by rw [← hR]; exact ks_32⟩) hS (fun q _ h => h) (fun q h => h) (fun u t H_32 locs_32 ht_32 hvm_32 hw_32 hBb_32 hz_32 hk_32_ hS_32 => ?_)
                    obtain ⟨G_32, len_32, cnt_32⟩ := u
                    rw [ht_32] at hBb_32
                    have hC_32 := hC.tr hBb_32
                    clear hBb_32 ht_32 hvm_32 hw_32 hz_32 hk_32_ kc_32 ks_32 kz_32 kt_32
                    obtain ⟨z_33, ez_33⟩ : ∃ y : Int32, y = i + 1 := ⟨_, rfl⟩
                    refine lv_iinc (v := z_33) (lv' := [(5, .int z_33), (6, .int z_12), (0, .ref a), (1, .ref un), (4, .int st)]) hx hb dX0_quoted_208 hl (k := 4) rfl (by rw [ez_33]; rfl) (by decide) rfl (fun ls hl => ?_)
                    have hz_33 : z_33.toInt = i.toInt + 1 := by rw [ez_33]; exact jb_iadd (rfl) (by decide) (by omega) (by omega)
                    refine lv_goto (tgt := 23) hx hb dX0_quoted_211 (by decide) ?_
                    exact L23 st z_33 G_32 len_32 cnt_32 H_32 locs_32 ((Kd + 4)) _ _ hC_32 hS_32 (by refine ⟨?_, ?_, ?_, ?_⟩ <;> omega) (by omega) _ (lv_sub hl [2, 3, 4, 0] rfl)
                  · skip
                    have c_31' : z_12.toInt = 92 := jb_ne_n (rfl) ((by decide)) c_31
                    refine lv_aload_n hx hb dX0_quoted_196 rfl (lv_at hl 1 rfl) ?_
                    refine lv_bipush (v := 92) hx hb dX0_quoted_197 (by decide) ?_
                    refine W.room (fun kz_34 kt_34 => ?_)
                    obtain ⟨kc_34, ks_34, -, -⟩ := hN.cells hC (by omega) kt_34
                    refine va_callv (A0 := jA base) (H0 := s.heap) (va_runV (As := [.int 92]) (rest := []) ⟨hx, hb, hml, hown, hts⟩ (tX0_put l dC dI ca base LC LS B hB G X H a len cnt 92) (cwV 1 hts gX0_quoted_X0_put rfl rfl rfl (by decide +kernel) ⟨by rw [← hR]; exact Nat.le_of_ble_eq_true rfl, by rw [← hR]; exact Nat.le_of_ble_eq_true rfl⟩) ⟨fun av U g mk q => ⟨q.1, jPre2.blind g mk av q.2⟩, hC.2.2.1.recv hK, fun U hU hW => ⟨rfl, jPre2.mk (K2 := 1) hG hW hU hS hN hga haX hX0 hC (by omega)⟩⟩ rfl rfl hl.1 rfl (lv_room (Nat.le_of_ble_eq_true rfl)) dX0_quoted_199 ⟨by rw [← hR]; exact kc_34, by rw [← hR]; exact ks_34⟩) hS (fun q _ h => h) (fun q h => h) (fun u t H_34 locs_34 ht_34 hvm_34 hw_34 hBb_34 hz_34 hk_34_ hS_34 => ?_)
                    obtain ⟨G_34, len_34, cnt_34⟩ := u
                    rw [ht_34] at hBb_34
                    have hC_34 := hC.tr hBb_34
                    clear hBb_34 ht_34 hvm_34 hw_34 hz_34 hk_34_ kc_34 ks_34 kz_34 kt_34
                    refine lv_aload_n hx hb dX0_quoted_202 rfl (lv_at hl 1 rfl) ?_
                    refine lv_iload hx hb dX0_quoted_203 (lv_at hl 0 rfl) ?_
                    refine W.room (fun kz_35 kt_35 => ?_)
                    obtain ⟨kc_35, ks_35, -, -⟩ := hN.cells hC_34 (by omega) kt_35
                    refine va_callv (A0 := jA base) (H0 := s.heap) (va_runV (As := [.int z_12]) (rest := []) ⟨hx, hb, hml, hown, hts⟩ (tX0_character l dC dI ca base LC LS B hB G_34 X H_34 a len_34 cnt_34 z_12) (cwV 1 hts gX0_quoted_X0_character rfl rfl rfl (by decide +kernel) ⟨by rw [← hR]; exact Nat.le_of_ble_eq_true rfl, by rw [← hR]; exact Nat.le_of_ble_eq_true rfl⟩) ⟨fun av U g mk q => by obtain ⟨q8, q9, q7⟩ := q; exact ⟨q8, jPre2.blind g mk av q9, q7⟩, hC_34.2.2.1.recv hK, fun U hU hW => ⟨rfl, jPre2.mk (K2 := 4) hG hW hU hS_34 hN hga haX hX0 hC_34 (by omega), trivial⟩⟩ rfl rfl hl.1 rfl (lv_room (Nat.le_of_ble_eq_true rfl)) dX0_quoted_205 ⟨by rw [← hR]; exact kc_35, by rw [← hR]; exact ks_35⟩) hS_34 (fun q _ h => h) (fun q h => h) (fun u t H_35 locs_35 ht_35 hvm_35 hw_35 hBb_35 hz_35 hk_35_ hS_35 => ?_)
                    obtain ⟨G_35, len_35, cnt_35⟩ := u
                    rw [ht_35] at hBb_35
                    have hC_35 := hC_34.tr hBb_35
                    clear hBb_35 ht_35 hvm_35 hw_35 hz_35 hk_35_ kc_35 ks_35 kz_35 kt_35
                    obtain ⟨z_36, ez_36⟩ : ∃ y : Int32, y = i + 1 := ⟨_, rfl⟩
                    refine lv_iinc (v := z_36) (lv' := [(5, .int z_36), (6, .int z_12), (0, .ref a), (1, .ref un), (4, .int st)]) hx hb dX0_quoted_208 hl (k := 4) rfl (by rw [ez_36]; rfl) (by decide) rfl (fun ls hl => ?_)
                    have hz_36 : z_36.toInt = i.toInt + 1 := by rw [ez_36]; exact jb_iadd (rfl) (by decide) (by omega) (by omega)
                    refine lv_goto (tgt := 23) hx hb dX0_quoted_211 (by decide) ?_
                    exact L23 st z_36 G_35 len_35 cnt_35 H_35 locs_35 (((Kd + 1) + 4)) _ _ hC_35 hS_35 (by refine ⟨?_, ?_, ?_, ?_⟩ <;> omega) (by omega) _ (lv_sub hl [2, 3, 4, 0] rfl)
              · skip
                have c_26' : z_12.toInt < 32 := jb_ge_n (rfl) ((by decide)) c_26
                refine lv_aload_n hx hb dX0_quoted_126 rfl (lv_at hl 1 rfl) ?_
                obtain ⟨str_37, rstr_37, hstr_370⟩ := hG.str (o := RX0) (k := 67) (tx := "\\u00") (List.mem_of_getElem? (i := 790) (by decide +kernel))
                have hstr_37 : jStr base str_37 4 s s.heap := hstr_370
                refine va_ldcS hx hb hown rstr_37 dX0_quoted_127 ?_
                refine W.room (fun kz_38 kt_38 => ?_)
                obtain ⟨kc_38, ks_38, -, -⟩ := hN.cells hC (by omega) kt_38
                refine va_callv (A0 := jA base) (H0 := s.heap) (va_runV (As := [.ref str_37]) (rest := []) ⟨hx, hb, hml, hown, hts⟩ (tX0_text l dC dI ca base LC LS B hB G X H a len cnt str_37 4) (cwV 1 hts gX0_quoted_X0_text rfl rfl rfl (by decide +kernel) ⟨by rw [← hR]; exact Nat.le_of_ble_eq_true rfl, by rw [← hR]; exact Nat.le_of_ble_eq_true rfl⟩) ⟨fun av U g mk q => by obtain ⟨q8, q9, q0, q7⟩ := q; exact ⟨q8, jPre2.blind g mk av q9, q0.moved (Vm.Alike.refl U.vm), q7⟩, hC.2.2.1.recv hK, fun U hU hW => ⟨rfl, jPre2.mk (K2 := 4) hG hW hU hS hN hga haX hX0 hC (by omega), (hstr_37.moved hW.alike).kept hS.2.1, by omega⟩⟩ rfl rfl hl.1 rfl (lv_room (Nat.le_of_ble_eq_true rfl)) dX0_quoted_129 ⟨by rw [← hR]; exact kc_38, by rw [← hR]; exact ks_38⟩) hS (fun q _ h => h) (fun q h => h) (fun u t H_38 locs_38 ht_38 hvm_38 hw_38 hBb_38 hz_38 hk_38_ hS_38 => ?_)
                obtain ⟨G_38, len_38, cnt_38⟩ := u
                rw [ht_38] at hBb_38
                have hC_38 := hC.tr hBb_38
                clear hBb_38 ht_38 hvm_38 hw_38 hz_38 hk_38_ kc_38 ks_38 kz_38 kt_38
                refine lv_aload_n hx hb dX0_quoted_132 rfl (lv_at hl 1 rfl) ?_
                refine lv_bipush (v := 48) hx hb dX0_quoted_133 (by decide) ?_
                refine lv_iload hx hb dX0_quoted_135 (lv_at hl 0 rfl) ?_
                refine lv_iconst (v := 4) hx hb dX0_quoted_137 (by decide) ?_
                refine lv_ishr hx hb dX0_quoted_138 ?_
                refine lv_topi (fun z_39 ez_39 => ?_)
                have hz_39 : z_39.toInt = z_12.toInt / 2 ^ 4 := by rw [ez_39]; exact jb_ishr 4 (rfl) (by decide)
                refine lv_iadd hx hb dX0_quoted_139 ?_
                refine lv_topi (fun z_40 ez_40 => ?_)
                refine W.room (fun kz_41 kt_41 => ?_)
                obtain ⟨kc_41, ks_41, -, -⟩ := hN.cells hC_38 (by omega) kt_41
                refine va_callv (A0 := jA base) (H0 := s.heap) (va_runV (As := [.int z_40]) (rest := []) ⟨hx, hb, hml, hown, hts⟩ (tX0_put l dC dI ca base LC LS B hB G_38 X H_38 a len_38 cnt_38 z_40) (cwV 1 hts gX0_quoted_X0_put rfl rfl rfl (by decide +kernel) ⟨by rw [← hR]; exact Nat.le_of_ble_eq_true rfl, by rw [← hR]; exact Nat.le_of_ble_eq_true rfl⟩) ⟨fun av U g mk q => ⟨q.1, jPre2.blind g mk av q.2⟩, hC_38.2.2.1.recv hK, fun U hU hW => ⟨rfl, jPre2.mk (K2 := 1) hG hW hU hS_38 hN hga haX hX0 hC_38 (by omega)⟩⟩ rfl rfl hl.1 rfl (lv_room (Nat.le_of_ble_eq_true rfl)) dX0_quoted_140 ⟨by rw [← hR]; exact kc_41, by rw [← hR]; exact ks_41⟩) hS_38 (fun q _ h => h) (fun q h => h) (fun u t H_41 locs_41 ht_41 hvm_41 hw_41 hBb_41 hz_41 hk_41_ hS_41 => ?_)
                obtain ⟨G_41, len_41, cnt_41⟩ := u
                rw [ht_41] at hBb_41
                have hC_41 := hC_38.tr hBb_41
                clear hBb_41 ht_41 hvm_41 hw_41 hz_41 hk_41_ kc_41 ks_41 kz_41 kt_41
                refine lv_aload_n hx hb dX0_quoted_143 rfl (lv_at hl 1 rfl) ?_
                refine lv_iload hx hb dX0_quoted_144 (lv_at hl 0 rfl) ?_
                refine lv_bipush (v := 15) hx hb dX0_quoted_146 (by decide) ?_
                refine lv_iand hx hb dX0_quoted_148 ?_
                refine lv_topi (fun z_42 ez_42 => ?_)
                have hz_42 : 0 ≤ z_42.toInt ∧ z_42.toInt ≤ 15 := by rw [ez_42]; exact jb_and z_12 (m := 15) (k := 4) (by decide) (by decide)
                refine lv_bipush (v := 10) hx hb dX0_quoted_149 (by decide) ?_
                refine lv_icmp_ge (tgt := 165) hx hb dX0_quoted_151 (by decide) (fun c_43 => ?_) (fun c_43 => ?_)
                · skip
                  have c_43' : z_42.toInt ≥ 10 := jb_ge (rfl) ((by decide)) c_43
                  refine lv_bipush (v := 97) hx hb dX0_quoted_165 (by decide) ?_
                  refine lv_iload hx hb dX0_quoted_167 (lv_at hl 0 rfl) ?_
                  refine lv_bipush (v := 15) hx hb dX0_quoted_169 (by decide) ?_
                  refine lv_iand hx hb dX0_quoted_171 ?_
                  refine lv_topi (fun z_44 ez_44 => ?_)
                  have hz_44 : 0 ≤ z_44.toInt ∧ z_44.toInt ≤ 15 := by rw [ez_44]; exact jb_and z_12 (m := 15) (k := 4) (by decide) (by decide)
                  refine lv_iadd hx hb dX0_quoted_172 ?_
                  refine lv_topi (fun z_45 ez_45 => ?_)
                  have hz_45 : z_45.toInt = 97 + z_44.toInt := by rw [ez_45]; exact jb_iadd ((by decide)) (rfl) (by omega) (by omega)
                  refine lv_bipush (v := 10) hx hb dX0_quoted_173 (by decide) ?_
                  refine lv_isub hx hb dX0_quoted_175 ?_
                  refine lv_topi (fun z_46 ez_46 => ?_)
                  have hz_46 : z_46.toInt = z_45.toInt - 10 := by rw [ez_46]; exact jb_isub (rfl) ((by decide)) (by omega) (by omega)
                  refine W.room (fun kz_47 kt_47 => ?_)
                  obtain ⟨kc_47, ks_47, -, -⟩ := hN.cells hC_41 (by omega) kt_47
                  refine va_callv (A0 := jA base) (H0 := s.heap) (va_runV (As := [.int z_46]) (rest := []) ⟨hx, hb, hml, hown, hts⟩ (tX0_put l dC dI ca base LC LS B hB G_41 X H_41 a len_41 cnt_41 z_46) (cwV 1 hts gX0_quoted_X0_put rfl rfl rfl (by decide +kernel) ⟨by rw [← hR]; exact Nat.le_of_ble_eq_true rfl, by rw [← hR]; exact Nat.le_of_ble_eq_true rfl⟩) ⟨fun av U g mk q => ⟨q.1, jPre2.blind g mk av q.2⟩, hC_41.2.2.1.recv hK, fun U hU hW => ⟨rfl, jPre2.mk (K2 := 1) hG hW hU hS_41 hN hga haX hX0 hC_41 (by omega)⟩⟩ rfl rfl hl.1 rfl (lv_room (Nat.le_of_ble_eq_true rfl)) dX0_quoted_176 ⟨by rw [← hR]; exact kc_47, by rw [← hR]; exact ks_47⟩) hS_41 (fun q _ h => h) (fun q h => h) (fun u t H_47 locs_47 ht_47 hvm_47 hw_47 hBb_47 hz_47 hk_47_ hS_47 => ?_)
                  obtain ⟨G_47, len_47, cnt_47⟩ := u
                  rw [ht_47] at hBb_47
                  have hC_47 := hC_41.tr hBb_47
                  clear hBb_47 ht_47 hvm_47 hw_47 hz_47 hk_47_ kc_47 ks_47 kz_47 kt_47
                  refine lv_goto (tgt := 208) hx hb dX0_quoted_179 (by decide) ?_
                  obtain ⟨z_48, ez_48⟩ : ∃ y : Int32, y = i + 1 := ⟨_, rfl⟩
                  refine lv_iinc (v := z_48) (lv' := [(5, .int z_48), (6, .int z_12), (0, .ref a), (1, .ref un), (4, .int st)]) hx hb dX0_quoted_208 hl (k := 4) rfl (by rw [ez_48]; rfl) (by decide) rfl (fun ls hl => ?_)
                  have hz_48 : z_48.toInt = i.toInt + 1 := by rw [ez_48]; exact jb_iadd (rfl) (by decide) (by omega) (by omega)
                  refine lv_goto (tgt := 23) hx hb dX0_quoted_211 (by decide) ?_
                  exact L23 st z_48 G_47 len_47 cnt_47 H_47 locs_47 ((((Kd + 4) + 1) + 1)) _ _ hC_47 hS_47 (by refine ⟨?_, ?_, ?_, ?_⟩ <;> omega) (by omega) _ (lv_sub hl [2, 3, 4, 0] rfl)
                · skip
                  have c_43' : z_42.toInt < 10 := jb_ge_n (rfl) ((by decide)) c_43
                  refine lv_bipush (v := 48) hx hb dX0_quoted_154 (by decide) ?_
                  refine lv_iload hx hb dX0_quoted_156 (lv_at hl 0 rfl) ?_
                  refine lv_bipush (v := 15) hx hb dX0_quoted_158 (by decide) ?_
                  refine lv_iand hx hb dX0_quoted_160 ?_
                  refine lv_topi (fun z_49 ez_49 => ?_)
                  have hz_49 : 0 ≤ z_49.toInt ∧ z_49.toInt ≤ 15 := by rw [ez_49]; exact jb_and z_12 (m := 15) (k := 4) (by decide) (by decide)
                  refine lv_iadd hx hb dX0_quoted_161 ?_
                  refine lv_topi (fun z_50 ez_50 => ?_)
                  have hz_50 : z_50.toInt = 48 + z_49.toInt := by rw [ez_50]; exact jb_iadd ((by decide)) (rfl) (by omega) (by omega)
                  refine lv_goto (tgt := 176) hx hb dX0_quoted_162 (by decide) ?_
                  refine W.room (fun kz_51 kt_51 => ?_)
                  obtain ⟨kc_51, ks_51, -, -⟩ := hN.cells hC_41 (by omega) kt_51
                  refine va_callv (A0 := jA base) (H0 := s.heap) (va_runV (As := [.int z_50]) (rest := []) ⟨hx, hb, hml, hown, hts⟩ (tX0_put l dC dI ca base LC LS B hB G_41 X H_41 a len_41 cnt_41 z_50) (cwV 1 hts gX0_quoted_X0_put rfl rfl rfl (by decide +kernel) ⟨by rw [← hR]; exact Nat.le_of_ble_eq_true rfl, by rw [← hR]; exact Nat.le_of_ble_eq_true rfl⟩) ⟨fun av U g mk q => ⟨q.1, jPre2.blind g mk av q.2⟩, hC_41.2.2.1.recv hK, fun U hU hW => ⟨rfl, jPre2.mk (K2 := 1) hG hW hU hS_41 hN hga haX hX0 hC_41 (by omega)⟩⟩ rfl rfl hl.1 rfl (lv_room (Nat.le_of_ble_eq_true rfl)) dX0_quoted_176 ⟨by rw [← hR]; exact kc_51, by rw [← hR]; exact ks_51⟩) hS_41 (fun q _ h => h) (fun q h => h) (fun u t H_51 locs_51 ht_51 hvm_51 hw_51 hBb_51 hz_51 hk_51_ hS_51 => ?_)
                  obtain ⟨G_51, len_51, cnt_51⟩ := u
                  rw [ht_51] at hBb_51
                  have hC_51 := hC_41.tr hBb_51
                  clear hBb_51 ht_51 hvm_51 hw_51 hz_51 hk_51_ kc_51 ks_51 kz_51 kt_51
                  refine lv_goto (tgt := 208) hx hb dX0_quoted_179 (by decide) ?_
                  obtain ⟨z_52, ez_52⟩ : ∃ y : Int32, y = i + 1 := ⟨_, rfl⟩
                  refine lv_iinc (v := z_52) (lv' := [(5, .int z_52), (6, .int z_12), (0, .ref a), (1, .ref un), (4, .int st)]) hx hb dX0_quoted_208 hl (k := 4) rfl (by rw [ez_52]; rfl) (by decide) rfl (fun ls hl => ?_)
                  have hz_52 : z_52.toInt = i.toInt + 1 := by rw [ez_52]; exact jb_iadd (rfl) (by decide) (by omega) (by omega)
                  refine lv_goto (tgt := 23) hx hb dX0_quoted_211 (by decide) ?_
                  exact L23 st z_52 G_51 len_51 cnt_51 H_51 locs_51 ((((Kd + 4) + 1) + 1)) _ _ hC_51 hS_51 (by refine ⟨?_, ?_, ?_, ?_⟩ <;> omega) (by omega) _ (lv_sub hl [2, 3, 4, 0] rfl)
            · skip
              have c_25' : r_23.toInt ≠ 0 := jb_eq_n (rfl) ((by decide)) c_25
              refine lv_aload_n hx hb dX0_quoted_110 rfl (lv_at hl 1 rfl) ?_
              refine lv_ldc hx hb hown (hts (.constant RX0 66 65533) (by decide +kernel)) dX0_quoted_111 ?_
              refine W.room (fun kz_53 kt_53 => ?_)
              obtain ⟨kc_53, ks_53, -, -⟩ := hN.cells hC (by omega) kt_53
              refine va_callv (A0 := jA base) (H0 := s.heap) (va_runV (As := [.int 65533]) (rest := []) ⟨hx, hb, hml, hown, hts⟩ (tX0_character l dC dI ca base LC LS B hB G X H a len cnt 65533) (cwV 1 hts gX0_quoted_X0_character rfl rfl rfl (by decide +kernel) ⟨by rw [← hR]; exact Nat.le_of_ble_eq_true rfl, by rw [← hR]; exact Nat.le_of_ble_eq_true rfl⟩) ⟨fun av U g mk q => by obtain ⟨q8, q9, q7⟩ := q; exact ⟨q8, jPre2.blind g mk av q9, q7⟩, hC.2.2.1.recv hK, fun U hU hW => ⟨rfl, jPre2.mk (K2 := 4) hG hW hU hS hN hga haX hX0 hC (by omega), trivial⟩⟩ rfl rfl hl.1 rfl (lv_room (Nat.le_of_ble_eq_true rfl)) dX0_quoted_113 ⟨by rw [← hR]; exact kc_53, by rw [← hR]; exact ks_53⟩) hS (fun q _ h => h) (fun q h => h) (fun u t H_53 locs_53 ht_53 hvm_53 hw_53 hBb_53 hz_53 hk_53_ hS_53 => ?_)
              obtain ⟨G_53, len_53, cnt_53⟩ := u
              rw [ht_53] at hBb_53
              have hC_53 := hC.tr hBb_53
              clear hBb_53 ht_53 hvm_53 hw_53 hz_53 hk_53_ kc_53 ks_53 kz_53 kt_53
              refine lv_goto (tgt := 208) hx hb dX0_quoted_116 (by decide) ?_
              obtain ⟨z_54, ez_54⟩ : ∃ y : Int32, y = i + 1 := ⟨_, rfl⟩
              refine lv_iinc (v := z_54) (lv' := [(5, .int z_54), (6, .int z_12), (0, .ref a), (1, .ref un), (4, .int st)]) hx hb dX0_quoted_208 hl (k := 4) rfl (by rw [ez_54]; rfl) (by decide) rfl (fun ls hl => ?_)
              have hz_54 : z_54.toInt = i.toInt + 1 := by rw [ez_54]; exact jb_iadd (rfl) (by decide) (by omega) (by omega)
              refine lv_goto (tgt := 23) hx hb dX0_quoted_211 (by decide) ?_
              exact L23 st z_54 G_53 len_53 cnt_53 H_53 locs_53 ((Kd + 4)) _ _ hC_53 hS_53 (by refine ⟨?_, ?_, ?_, ?_⟩ <;> omega) (by omega) _ (lv_sub hl [2, 3, 4, 0] rfl)
        · skip
          have c_17' : r_15.toInt ≠ 0 := jb_eq_n (rfl) ((by decide)) c_17
          refine lv_iload hx hb dX0_quoted_44 (lv_at hl 4 rfl) ?_
          refine lv_iconst (v := 1) hx hb dX0_quoted_46 (by decide) ?_
          refine lv_iadd hx hb dX0_quoted_47 ?_
          refine lv_topi (fun z_55 ez_55 => ?_)
          have hz_55 : z_55.toInt = i.toInt + 1 := by rw [ez_55]; exact jb_iadd (rfl) ((by decide)) (by omega) (by omega)
          refine lv_iload hx hb dX0_quoted_48 (lv_at hl 3 rfl) ?_
          refine lv_icmp_ge (tgt := 94) hx hb dX0_quoted_50 (by decide) (fun c_56 => ?_) (fun c_56 => ?_)
          · skip
            have c_56' : z_55.toInt ≥ st.toInt := jb_ge (rfl) (rfl) c_56
            refine lv_iload hx hb dX0_quoted_94 (lv_at hl 0 rfl) ?_
            refine W.room (fun kz_58 kt_58 => ?_)
            obtain ⟨-, -, kc_58, ks_58⟩ := hN.cells hC (by omega) kt_58
            refine vp_callSi (W.runS (As := [.int z_12]) (rest := []) ⟨hx, hb, hml, hown, hts⟩ (kX0_isHigh l dC dI ca base H z_12) (va_cwS 1 hts gX0_quoted_X0_isHigh rfl rfl rfl (by decide +kernel) ⟨by rw [← hR]; exact Nat.le_of_ble_eq_true rfl, by rw [← hR]; exact Nat.le_of_ble_eq_true rfl⟩) ⟨fun a U g mk q => by obtain ⟨q0, q1, qK, q9⟩ := q; exact ⟨q0, q1, jG.calling g mk a qK, q9⟩, fun U hU hW => ⟨rfl, hU, hG.step hW hU hS, by first | trivial | omega | (constructor <;> omega)⟩⟩ rfl rfl hl.1 rfl (lv_room (Nat.le_of_ble_eq_true rfl)) dX0_quoted_96 ⟨by rw [← hR]; exact kc_58, by rw [← hR]; exact ks_58⟩) (fun r_57 hr_57 => ?_)
            have hr_57' : r_57.toInt = 0 ∨ r_57.toInt = 1 := jb_01 hr_57
            refine lv_if_ne (tgt := 110) hx hb dX0_quoted_99 (by decide) (fun c_59 => ?_) (fun c_59 => ?_)
            · skip
              have c_59' : r_57.toInt ≠ 0 := jb_ne (rfl) ((by decide)) c_59
              refine lv_aload_n hx hb dX0_quoted_110 rfl (lv_at hl 1 rfl) ?_
              refine lv_ldc hx hb hown (hts (.constant RX0 66 65533) (by decide +kernel)) dX0_quoted_111 ?_
              refine W.room (fun kz_60 kt_60 => ?_)
              obtain ⟨kc_60, ks_60, -, -⟩ := hN.cells hC (by omega) kt_60
              refine va_callv (A0 := jA base) (H0 := s.heap) (va_runV (As := [.int 65533]) (rest := []) ⟨hx, hb, hml, hown, hts⟩ (tX0_character l dC dI ca base LC LS B hB G X H a len cnt 65533) (cwV 1 hts gX0_quoted_X0_character rfl rfl rfl (by decide +kernel) ⟨by rw [← hR]; exact Nat.le_of_ble_eq_true rfl, by rw [← hR]; exact Nat.le_of_ble_eq_true rfl⟩) ⟨fun av U g mk q => by obtain ⟨q8, q9, q7⟩ := q; exact ⟨q8, jPre2.blind g mk av q9, q7⟩, hC.2.2.1.recv hK, fun U hU hW => ⟨rfl, jPre2.mk (K2 := 4) hG hW hU hS hN hga haX hX0 hC (by omega), trivial⟩⟩ rfl rfl hl.1 rfl (lv_room (Nat.le_of_ble_eq_true rfl)) dX0_quoted_113 ⟨by rw [← hR]; exact kc_60, by rw [← hR]; exact ks_60⟩) hS (fun q _ h => h) (fun q h => h) (fun u t H_60 locs_60 ht_60 hvm_60 hw_60 hBb_60 hz_60 hk_60_ hS_60 => ?_)
              obtain ⟨G_60, len_60, cnt_60⟩ := u
              rw [ht_60] at hBb_60
              have hC_60 := hC.tr hBb_60
              clear hBb_60 ht_60 hvm_60 hw_60 hz_60 hk_60_ kc_60 ks_60 kz_60 kt_60
              refine lv_goto (tgt := 208) hx hb dX0_quoted_116 (by decide) ?_
              obtain ⟨z_61, ez_61⟩ : ∃ y : Int32, y = i + 1 := ⟨_, rfl⟩
              refine lv_iinc (v := z_61) (lv' := [(5, .int z_61), (6, .int z_12), (0, .ref a), (1, .ref un), (4, .int st)]) hx hb dX0_quoted_208 hl (k := 4) rfl (by rw [ez_61]; rfl) (by decide) rfl (fun ls hl => ?_)
              have hz_61 : z_61.toInt = i.toInt + 1 := by rw [ez_61]; exact jb_iadd (rfl) (by decide) (by omega) (by omega)
              refine lv_goto (tgt := 23) hx hb dX0_quoted_211 (by decide) ?_
              exact L23 st z_61 G_60 len_60 cnt_60 H_60 locs_60 ((Kd + 4)) _ _ hC_60 hS_60 (by refine ⟨?_, ?_, ?_, ?_⟩ <;> omega) (by omega) _ (lv_sub hl [2, 3, 4, 0] rfl)
            · skip
              have c_59' : r_57.toInt = 0 := jb_ne_n (rfl) ((by decide)) c_59
              refine lv_iload hx hb dX0_quoted_102 (lv_at hl 0 rfl) ?_
              refine W.room (fun kz_63 kt_63 => ?_)
              obtain ⟨-, -, kc_63, ks_63⟩ := hN.cells hC (by omega) kt_63
              refine vp_callSi (W.runS (As := [.int z_12]) (rest := []) ⟨hx, hb, hml, hown, hts⟩ (kX0_isLow l dC dI ca base H z_12) (va_cwS 1 hts gX0_quoted_X0_isLow rfl rfl rfl (by decide +kernel) ⟨by rw [← hR]; exact Nat.le_of_ble_eq_true rfl, by rw [← hR]; exact Nat.le_of_ble_eq_true rfl⟩) ⟨fun a U g mk q => by obtain ⟨q0, q1, qK, q9⟩ := q; exact ⟨q0, q1, jG.calling g mk a qK, q9⟩, fun U hU hW => ⟨rfl, hU, hG.step hW hU hS, by first | trivial | omega | (constructor <;> omega)⟩⟩ rfl rfl hl.1 rfl (lv_room (Nat.le_of_ble_eq_true rfl)) dX0_quoted_104 ⟨by rw [← hR]; exact kc_63, by rw [← hR]; exact ks_63⟩) (fun r_62 hr_62 => ?_)
              have hr_62' : r_62.toInt = 0 ∨ r_62.toInt = 1 := jb_01 hr_62
              refine lv_if_eq (tgt := 119) hx hb dX0_quoted_107 (by decide) (fun c_64 => ?_) (fun c_64 => ?_)
              · skip
                have c_64' : r_62.toInt = 0 := jb_eq (rfl) ((by decide)) c_64
                refine lv_iload hx hb dX0_quoted_119 (lv_at hl 0 rfl) ?_
                refine lv_bipush (v := 32) hx hb dX0_quoted_121 (by decide) ?_
                refine lv_icmp_ge (tgt := 182) hx hb dX0_quoted_123 (by decide) (fun c_65 => ?_) (fun c_65 => ?_)
                · skip
                  have c_65' : z_12.toInt ≥ 32 := jb_ge (rfl) ((by decide)) c_65
                  refine lv_iload hx hb dX0_quoted_182 (lv_at hl 0 rfl) ?_
                  refine lv_bipush (v := 34) hx hb dX0_quoted_184 (by decide) ?_
                  refine lv_icmp_eq (tgt := 196) hx hb dX0_quoted_186 (by decide) (fun c_66 => ?_) (fun c_66 => ?_)
                  · skip
                    have c_66' : z_12.toInt = 34 := jb_eq (rfl) ((by decide)) c_66
                    refine lv_aload_n hx hb dX0_quoted_196 rfl (lv_at hl 1 rfl) ?_
                    refine lv_bipush (v := 92) hx hb dX0_quoted_197 (by decide) ?_
                    refine W.room (fun kz_67 kt_67 => ?_)
                    obtain ⟨kc_67, ks_67, -, -⟩ := hN.cells hC (by omega) kt_67
                    refine va_callv (A0 := jA base) (H0 := s.heap) (va_runV (As := [.int 92]) (rest := []) ⟨hx, hb, hml, hown, hts⟩ (tX0_put l dC dI ca base LC LS B hB G X H a len cnt 92) (cwV 1 hts gX0_quoted_X0_put rfl rfl rfl (by decide +kernel) ⟨by rw [← hR]; exact Nat.le_of_ble_eq_true rfl, by rw [← hR]; exact Nat.le_of_ble_eq_true rfl⟩) ⟨fun av U g mk q => ⟨q.1, jPre2.blind g mk av q.2⟩, hC.2.2.1.recv hK, fun U hU hW => ⟨rfl, jPre2.mk (K2 := 1) hG hW hU hS hN hga haX hX0 hC (by omega)⟩⟩ rfl rfl hl.1 rfl (lv_room (Nat.le_of_ble_eq_true rfl)) dX0_quoted_199 ⟨by rw [← hR]; exact kc_67, by rw [← hR]; exact ks_67⟩) hS (fun q _ h => h) (fun q h => h) (fun u t H_67 locs_67 ht_67 hvm_67 hw_67 hBb_67 hz_67 hk_67_ hS_67 => ?_)
                    obtain ⟨G_67, len_67, cnt_67⟩ := u
                    rw [ht_67] at hBb_67
                    have hC_67 := hC.tr hBb_67
                    clear hBb_67 ht_67 hvm_67 hw_67 hz_67 hk_67_ kc_67 ks_67 kz_67 kt_67
                    refine lv_aload_n hx hb dX0_quoted_202 rfl (lv_at hl 1 rfl) ?_
                    refine lv_iload hx hb dX0_quoted_203 (lv_at hl 0 rfl) ?_
                    refine W.room (fun kz_68 kt_68 => ?_)
                    obtain ⟨kc_68, ks_68, -, -⟩ := hN.cells hC_67 (by omega) kt_68
                    refine va_callv (A0 := jA base) (H0 := s.heap) (va_runV (As := [.int z_12]) (rest := []) ⟨hx, hb, hml, hown, hts⟩ (tX0_character l dC dI ca base LC LS B hB G_67 X H_67 a len_67 cnt_67 z_12) (cwV 1 hts gX0_quoted_X0_character rfl rfl rfl (by decide +kernel) ⟨by rw [← hR]; exact Nat.le_of_ble_eq_true rfl, by rw [← hR]; exact Nat.le_of_ble_eq_true rfl⟩) ⟨fun av U g mk q => by obtain ⟨q8, q9, q7⟩ := q; exact ⟨q8, jPre2.blind g mk av q9, q7⟩, hC_67.2.2.1.recv hK, fun U hU hW => ⟨rfl, jPre2.mk (K2 := 4) hG hW hU hS_67 hN hga haX hX0 hC_67 (by omega), trivial⟩⟩ rfl rfl hl.1 rfl (lv_room (Nat.le_of_ble_eq_true rfl)) dX0_quoted_205 ⟨by rw [← hR]; exact kc_68, by rw [← hR]; exact ks_68⟩) hS_67 (fun q _ h => h) (fun q h => h) (fun u t H_68 locs_68 ht_68 hvm_68 hw_68 hBb_68 hz_68 hk_68_ hS_68 => ?_)
                    obtain ⟨G_68, len_68, cnt_68⟩ := u
                    rw [ht_68] at hBb_68
                    have hC_68 := hC_67.tr hBb_68
                    clear hBb_68 ht_68 hvm_68 hw_68 hz_68 hk_68_ kc_68 ks_68 kz_68 kt_68
                    obtain ⟨z_69, ez_69⟩ : ∃ y : Int32, y = i + 1 := ⟨_, rfl⟩
                    refine lv_iinc (v := z_69) (lv' := [(5, .int z_69), (6, .int z_12), (0, .ref a), (1, .ref un), (4, .int st)]) hx hb dX0_quoted_208 hl (k := 4) rfl (by rw [ez_69]; rfl) (by decide) rfl (fun ls hl => ?_)
                    have hz_69 : z_69.toInt = i.toInt + 1 := by rw [ez_69]; exact jb_iadd (rfl) (by decide) (by omega) (by omega)
                    refine lv_goto (tgt := 23) hx hb dX0_quoted_211 (by decide) ?_
                    exact L23 st z_69 G_68 len_68 cnt_68 H_68 locs_68 (((Kd + 1) + 4)) _ _ hC_68 hS_68 (by refine ⟨?_, ?_, ?_, ?_⟩ <;> omega) (by omega) _ (lv_sub hl [2, 3, 4, 0] rfl)
                  · skip
                    have c_66' : z_12.toInt ≠ 34 := jb_eq_n (rfl) ((by decide)) c_66
                    refine lv_iload hx hb dX0_quoted_189 (lv_at hl 0 rfl) ?_
                    refine lv_bipush (v := 92) hx hb dX0_quoted_191 (by decide) ?_
                    refine lv_icmp_ne (tgt := 202) hx hb dX0_quoted_193 (by decide) (fun c_70 => ?_) (fun c_70 => ?_)
                    · skip
                      have c_70' : z_12.toInt ≠ 92 := jb_ne (rfl) ((by decide)) c_70
                      refine lv_aload_n hx hb dX0_quoted_202 rfl (lv_at hl 1 rfl) ?_
                      refine lv_iload hx hb dX0_quoted_203 (lv_at hl 0 rfl) ?_
                      refine W.room (fun kz_71 kt_71 => ?_)
                      obtain ⟨kc_71, ks_71, -, -⟩ := hN.cells hC (by omega) kt_71
                      refine va_callv (A0 := jA base) (H0 := s.heap) (va_runV (As := [.int z_12]) (rest := []) ⟨hx, hb, hml, hown, hts⟩ (tX0_character l dC dI ca base LC LS B hB G X H a len cnt z_12) (cwV 1 hts gX0_quoted_X0_character rfl rfl rfl (by decide +kernel) ⟨by rw [← hR]; exact Nat.le_of_ble_eq_true rfl, by rw [← hR]; exact Nat.le_of_ble_eq_true rfl⟩) ⟨fun av U g mk q => by obtain ⟨q8, q9, q7⟩ := q; exact ⟨q8, jPre2.blind g mk av q9, q7⟩, hC.2.2.1.recv hK, fun U hU hW => ⟨rfl, jPre2.mk (K2 := 4) hG hW hU hS hN hga haX hX0 hC (by omega), trivial⟩⟩ rfl rfl hl.1 rfl (lv_room (Nat.le_of_ble_eq_true rfl)) dX0_quoted_205 ⟨by rw [← hR]; exact kc_71, by rw [← hR]; exact ks_71⟩) hS (fun q _ h => h) (fun q h => h) (fun u t H_71 locs_71 ht_71 hvm_71 hw_71 hBb_71 hz_71 hk_71_ hS_71 => ?_)
                      obtain ⟨G_71, len_71, cnt_71⟩ := u
                      rw [ht_71] at hBb_71
                      have hC_71 := hC.tr hBb_71
                      clear hBb_71 ht_71 hvm_71 hw_71 hz_71 hk_71_ kc_71 ks_71 kz_71 kt_71
                      obtain ⟨z_72, ez_72⟩ : ∃ y : Int32, y = i + 1 := ⟨_, rfl⟩
                      refine lv_iinc (v := z_72) (lv' := [(5, .int z_72), (6, .int z_12), (0, .ref a), (1, .ref un), (4, .int st)]) hx hb dX0_quoted_208 hl (k := 4) rfl (by rw [ez_72]; rfl) (by decide) rfl (fun ls hl => ?_)
                      have hz_72 : z_72.toInt = i.toInt + 1 := by rw [ez_72]; exact jb_iadd (rfl) (by decide) (by omega) (by omega)
                      refine lv_goto (tgt := 23) hx hb dX0_quoted_211 (by decide) ?_
                      exact L23 st z_72 G_71 len_71 cnt_71 H_71 locs_71 ((Kd + 4)) _ _ hC_71 hS_71 (by refine ⟨?_, ?_, ?_, ?_⟩ <;> omega) (by omega) _ (lv_sub hl [2, 3, 4, 0] rfl)
                    · skip
                      have c_70' : z_12.toInt = 92 := jb_ne_n (rfl) ((by decide)) c_70
                      refine lv_aload_n hx hb dX0_quoted_196 rfl (lv_at hl 1 rfl) ?_
                      refine lv_bipush (v := 92) hx hb dX0_quoted_197 (by decide) ?_
                      refine W.room (fun kz_73 kt_73 => ?_)
                      obtain ⟨kc_73, ks_73, -, -⟩ := hN.cells hC (by omega) kt_73
                      refine va_callv (A0 := jA base) (H0 := s.heap) (va_runV (As := [.int 92]) (rest := []) ⟨hx, hb, hml, hown, hts⟩ (tX0_put l dC dI ca base LC LS B hB G X H a len cnt 92) (cwV 1 hts gX0_quoted_X0_put rfl rfl rfl (by decide +kernel) ⟨by rw [← hR]; exact Nat.le_of_ble_eq_true rfl, by rw [← hR]; exact Nat.le_of_ble_eq_true rfl⟩) ⟨fun av U g mk q => ⟨q.1, jPre2.blind g mk av q.2⟩, hC.2.2.1.recv hK, fun U hU hW => ⟨rfl, jPre2.mk (K2 := 1) hG hW hU hS hN hga haX hX0 hC (by omega)⟩⟩ rfl rfl hl.1 rfl (lv_room (Nat.le_of_ble_eq_true rfl)) dX0_quoted_199 ⟨by rw [← hR]; exact kc_73, by rw [← hR]; exact ks_73⟩) hS (fun q _ h => h) (fun q h => h) (fun u t H_73 locs_73 ht_73 hvm_73 hw_73 hBb_73 hz_73 hk_73_ hS_73 => ?_)
                      obtain ⟨G_73, len_73, cnt_73⟩ := u
                      rw [ht_73] at hBb_73
                      have hC_73 := hC.tr hBb_73
                      clear hBb_73 ht_73 hvm_73 hw_73 hz_73 hk_73_ kc_73 ks_73 kz_73 kt_73
                      refine lv_aload_n hx hb dX0_quoted_202 rfl (lv_at hl 1 rfl) ?_
                      refine lv_iload hx hb dX0_quoted_203 (lv_at hl 0 rfl) ?_
                      refine W.room (fun kz_74 kt_74 => ?_)
                      obtain ⟨kc_74, ks_74, -, -⟩ := hN.cells hC_73 (by omega) kt_74
                      refine va_callv (A0 := jA base) (H0 := s.heap) (va_runV (As := [.int z_12]) (rest := []) ⟨hx, hb, hml, hown, hts⟩ (tX0_character l dC dI ca base LC LS B hB G_73 X H_73 a len_73 cnt_73 z_12) (cwV 1 hts gX0_quoted_X0_character rfl rfl rfl (by decide +kernel) ⟨by rw [← hR]; exact Nat.le_of_ble_eq_true rfl, by rw [← hR]; exact Nat.le_of_ble_eq_true rfl⟩) ⟨fun av U g mk q => by obtain ⟨q8, q9, q7⟩ := q; exact ⟨q8, jPre2.blind g mk av q9, q7⟩, hC_73.2.2.1.recv hK, fun U hU hW => ⟨rfl, jPre2.mk (K2 := 4) hG hW hU hS_73 hN hga haX hX0 hC_73 (by omega), trivial⟩⟩ rfl rfl hl.1 rfl (lv_room (Nat.le_of_ble_eq_true rfl)) dX0_quoted_205 ⟨by rw [← hR]; exact kc_74, by rw [← hR]; exact ks_74⟩) hS_73 (fun q _ h => h) (fun q h => h) (fun u t H_74 locs_74 ht_74 hvm_74 hw_74 hBb_74 hz_74 hk_74_ hS_74 => ?_)
                      obtain ⟨G_74, len_74, cnt_74⟩ := u
                      rw [ht_74] at hBb_74
                      have hC_74 := hC_73.tr hBb_74
                      clear hBb_74 ht_74 hvm_74 hw_74 hz_74 hk_74_ kc_74 ks_74 kz_74 kt_74
                      obtain ⟨z_75, ez_75⟩ : ∃ y : Int32, y = i + 1 := ⟨_, rfl⟩
                      refine lv_iinc (v := z_75) (lv' := [(5, .int z_75), (6, .int z_12), (0, .ref a), (1, .ref un), (4, .int st)]) hx hb dX0_quoted_208 hl (k := 4) rfl (by rw [ez_75]; rfl) (by decide) rfl (fun ls hl => ?_)
                      have hz_75 : z_75.toInt = i.toInt + 1 := by rw [ez_75]; exact jb_iadd (rfl) (by decide) (by omega) (by omega)
                      refine lv_goto (tgt := 23) hx hb dX0_quoted_211 (by decide) ?_
                      exact L23 st z_75 G_74 len_74 cnt_74 H_74 locs_74 (((Kd + 1) + 4)) _ _ hC_74 hS_74 (by refine ⟨?_, ?_, ?_, ?_⟩ <;> omega) (by omega) _ (lv_sub hl [2, 3, 4, 0] rfl)
                · skip
                  have c_65' : z_12.toInt < 32 := jb_ge_n (rfl) ((by decide)) c_65
                  refine lv_aload_n hx hb dX0_quoted_126 rfl (lv_at hl 1 rfl) ?_
                  obtain ⟨str_76, rstr_76, hstr_760⟩ := hG.str (o := RX0) (k := 67) (tx := "\\u00") (List.mem_of_getElem? (i := 790) (by decide +kernel))
                  have hstr_76 : jStr base str_76 4 s s.heap := hstr_760
                  refine va_ldcS hx hb hown rstr_76 dX0_quoted_127 ?_
                  refine W.room (fun kz_77 kt_77 => ?_)
                  obtain ⟨kc_77, ks_77, -, -⟩ := hN.cells hC (by omega) kt_77
                  refine va_callv (A0 := jA base) (H0 := s.heap) (va_runV (As := [.ref str_76]) (rest := []) ⟨hx, hb, hml, hown, hts⟩ (tX0_text l dC dI ca base LC LS B hB G X H a len cnt str_76 4) (cwV 1 hts gX0_quoted_X0_text rfl rfl rfl (by decide +kernel) ⟨by rw [← hR]; exact Nat.le_of_ble_eq_true rfl, by rw [← hR]; exact Nat.le_of_ble_eq_true rfl⟩) ⟨fun av U g mk q => by obtain ⟨q8, q9, q0, q7⟩ := q; exact ⟨q8, jPre2.blind g mk av q9, q0.moved (Vm.Alike.refl U.vm), q7⟩, hC.2.2.1.recv hK, fun U hU hW => ⟨rfl, jPre2.mk (K2 := 4) hG hW hU hS hN hga haX hX0 hC (by omega), (hstr_76.moved hW.alike).kept hS.2.1, by omega⟩⟩ rfl rfl hl.1 rfl (lv_room (Nat.le_of_ble_eq_true rfl)) dX0_quoted_129 ⟨by rw [← hR]; exact kc_77, by rw [← hR]; exact ks_77⟩) hS (fun q _ h => h) (fun q h => h) (fun u t H_77 locs_77 ht_77 hvm_77 hw_77 hBb_77 hz_77 hk_77_ hS_77 => ?_)
                  obtain ⟨G_77, len_77, cnt_77⟩ := u
                  rw [ht_77] at hBb_77
                  have hC_77 := hC.tr hBb_77
                  clear hBb_77 ht_77 hvm_77 hw_77 hz_77 hk_77_ kc_77 ks_77 kz_77 kt_77
                  refine lv_aload_n hx hb dX0_quoted_132 rfl (lv_at hl 1 rfl) ?_
                  refine lv_bipush (v := 48) hx hb dX0_quoted_133 (by decide) ?_
                  refine lv_iload hx hb dX0_quoted_135 (lv_at hl 0 rfl) ?_
                  refine lv_iconst (v := 4) hx hb dX0_quoted_137 (by decide) ?_
                  refine lv_ishr hx hb dX0_quoted_138 ?_
                  refine lv_topi (fun z_78 ez_78 => ?_)
                  have hz_78 : z_78.toInt = z_12.toInt / 2 ^ 4 := by rw [ez_78]; exact jb_ishr 4 (rfl) (by decide)
                  refine lv_iadd hx hb dX0_quoted_139 ?_
                  refine lv_topi (fun z_79 ez_79 => ?_)
                  refine W.room (fun kz_80 kt_80 => ?_)
                  obtain ⟨kc_80, ks_80, -, -⟩ := hN.cells hC_77 (by omega) kt_80
                  refine va_callv (A0 := jA base) (H0 := s.heap) (va_runV (As := [.int z_79]) (rest := []) ⟨hx, hb, hml, hown, hts⟩ (tX0_put l dC dI ca base LC LS B hB G_77 X H_77 a len_77 cnt_77 z_79) (cwV 1 hts gX0_quoted_X0_put rfl rfl rfl (by decide +kernel) ⟨by rw [← hR]; exact Nat.le_of_ble_eq_true rfl, by rw [← hR]; exact Nat.le_of_ble_eq_true rfl⟩) ⟨fun av U g mk q => ⟨q.1, jPre2.blind g mk av q.2⟩, hC_77.2.2.1.recv hK, fun U hU hW => ⟨rfl, jPre2.mk (K2 := 1) hG hW hU hS_77 hN hga haX hX0 hC_77 (by omega)⟩⟩ rfl rfl hl.1 rfl (lv_room (Nat.le_of_ble_eq_true rfl)) dX0_quoted_140 ⟨by rw [← hR]; exact kc_80, by rw [← hR]; exact ks_80⟩) hS_77 (fun q _ h => h) (fun q h => h) (fun u t H_80 locs_80 ht_80 hvm_80 hw_80 hBb_80 hz_80 hk_80_ hS_80 => ?_)
                  obtain ⟨G_80, len_80, cnt_80⟩ := u
                  rw [ht_80] at hBb_80
                  have hC_80 := hC_77.tr hBb_80
                  clear hBb_80 ht_80 hvm_80 hw_80 hz_80 hk_80_ kc_80 ks_80 kz_80 kt_80
                  refine lv_aload_n hx hb dX0_quoted_143 rfl (lv_at hl 1 rfl) ?_
                  refine lv_iload hx hb dX0_quoted_144 (lv_at hl 0 rfl) ?_
                  refine lv_bipush (v := 15) hx hb dX0_quoted_146 (by decide) ?_
                  refine lv_iand hx hb dX0_quoted_148 ?_
                  refine lv_topi (fun z_81 ez_81 => ?_)
                  have hz_81 : 0 ≤ z_81.toInt ∧ z_81.toInt ≤ 15 := by rw [ez_81]; exact jb_and z_12 (m := 15) (k := 4) (by decide) (by decide)
                  refine lv_bipush (v := 10) hx hb dX0_quoted_149 (by decide) ?_
                  refine lv_icmp_ge (tgt := 165) hx hb dX0_quoted_151 (by decide) (fun c_82 => ?_) (fun c_82 => ?_)
                  · skip
                    have c_82' : z_81.toInt ≥ 10 := jb_ge (rfl) ((by decide)) c_82
                    refine lv_bipush (v := 97) hx hb dX0_quoted_165 (by decide) ?_
                    refine lv_iload hx hb dX0_quoted_167 (lv_at hl 0 rfl) ?_
                    refine lv_bipush (v := 15) hx hb dX0_quoted_169 (by decide) ?_
                    refine lv_iand hx hb dX0_quoted_171 ?_
                    refine lv_topi (fun z_83 ez_83 => ?_)
                    have hz_83 : 0 ≤ z_83.toInt ∧ z_83.toInt ≤ 15 := by rw [ez_83]; exact jb_and z_12 (m := 15) (k := 4) (by decide) (by decide)
                    refine lv_iadd hx hb dX0_quoted_172 ?_
                    refine lv_topi (fun z_84 ez_84 => ?_)
                    have hz_84 : z_84.toInt = 97 + z_83.toInt := by rw [ez_84]; exact jb_iadd ((by decide)) (rfl) (by omega) (by omega)
                    refine lv_bipush (v := 10) hx hb dX0_quoted_173 (by decide) ?_
                    refine lv_isub hx hb dX0_quoted_175 ?_
                    refine lv_topi (fun z_85 ez_85 => ?_)
                    have hz_85 : z_85.toInt = z_84.toInt - 10 := by rw [ez_85]; exact jb_isub (rfl) ((by decide)) (by omega) (by omega)
                    refine W.room (fun kz_86 kt_86 => ?_)
                    obtain ⟨kc_86, ks_86, -, -⟩ := hN.cells hC_80 (by omega) kt_86
                    refine va_callv (A0 := jA base) (H0 := s.heap) (va_runV (As := [.int z_85]) (rest := []) ⟨hx, hb, hml, hown, hts⟩ (tX0_put l dC dI ca base LC LS B hB G_80 X H_80 a len_80 cnt_80 z_85) (cwV 1 hts gX0_quoted_X0_put rfl rfl rfl (by decide +kernel) ⟨by rw [← hR]; exact Nat.le_of_ble_eq_true rfl, by rw [← hR]; exact Nat.le_of_ble_eq_true rfl⟩) ⟨fun av U g mk q => ⟨q.1, jPre2.blind g mk av q.2⟩, hC_80.2.2.1.recv hK, fun U hU hW => ⟨rfl, jPre2.mk (K2 := 1) hG hW hU hS_80 hN hga haX hX0 hC_80 (by omega)⟩⟩ rfl rfl hl.1 rfl (lv_room (Nat.le_of_ble_eq_true rfl)) dX0_quoted_176 ⟨by rw [← hR]; exact kc_86, by rw [← hR]; exact ks_86⟩) hS_80 (fun q _ h => h) (fun q h => h) (fun u t H_86 locs_86 ht_86 hvm_86 hw_86 hBb_86 hz_86 hk_86_ hS_86 => ?_)
                    obtain ⟨G_86, len_86, cnt_86⟩ := u
                    rw [ht_86] at hBb_86
                    have hC_86 := hC_80.tr hBb_86
                    clear hBb_86 ht_86 hvm_86 hw_86 hz_86 hk_86_ kc_86 ks_86 kz_86 kt_86
                    refine lv_goto (tgt := 208) hx hb dX0_quoted_179 (by decide) ?_
                    obtain ⟨z_87, ez_87⟩ : ∃ y : Int32, y = i + 1 := ⟨_, rfl⟩
                    refine lv_iinc (v := z_87) (lv' := [(5, .int z_87), (6, .int z_12), (0, .ref a), (1, .ref un), (4, .int st)]) hx hb dX0_quoted_208 hl (k := 4) rfl (by rw [ez_87]; rfl) (by decide) rfl (fun ls hl => ?_)
                    have hz_87 : z_87.toInt = i.toInt + 1 := by rw [ez_87]; exact jb_iadd (rfl) (by decide) (by omega) (by omega)
                    refine lv_goto (tgt := 23) hx hb dX0_quoted_211 (by decide) ?_
                    exact L23 st z_87 G_86 len_86 cnt_86 H_86 locs_86 ((((Kd + 4) + 1) + 1)) _ _ hC_86 hS_86 (by refine ⟨?_, ?_, ?_, ?_⟩ <;> omega) (by omega) _ (lv_sub hl [2, 3, 4, 0] rfl)
                  · skip
                    have c_82' : z_81.toInt < 10 := jb_ge_n (rfl) ((by decide)) c_82
                    refine lv_bipush (v := 48) hx hb dX0_quoted_154 (by decide) ?_
                    refine lv_iload hx hb dX0_quoted_156 (lv_at hl 0 rfl) ?_
                    refine lv_bipush (v := 15) hx hb dX0_quoted_158 (by decide) ?_
                    refine lv_iand hx hb dX0_quoted_160 ?_
                    refine lv_topi (fun z_88 ez_88 => ?_)
                    have hz_88 : 0 ≤ z_88.toInt ∧ z_88.toInt ≤ 15 := by rw [ez_88]; exact jb_and z_12 (m := 15) (k := 4) (by decide) (by decide)
                    refine lv_iadd hx hb dX0_quoted_161 ?_
                    refine lv_topi (fun z_89 ez_89 => ?_)
                    have hz_89 : z_89.toInt = 48 + z_88.toInt := by rw [ez_89]; exact jb_iadd ((by decide)) (rfl) (by omega) (by omega)
                    refine lv_goto (tgt := 176) hx hb dX0_quoted_162 (by decide) ?_
                    refine W.room (fun kz_90 kt_90 => ?_)
                    obtain ⟨kc_90, ks_90, -, -⟩ := hN.cells hC_80 (by omega) kt_90
                    refine va_callv (A0 := jA base) (H0 := s.heap) (va_runV (As := [.int z_89]) (rest := []) ⟨hx, hb, hml, hown, hts⟩ (tX0_put l dC dI ca base LC LS B hB G_80 X H_80 a len_80 cnt_80 z_89) (cwV 1 hts gX0_quoted_X0_put rfl rfl rfl (by decide +kernel) ⟨by rw [← hR]; exact Nat.le_of_ble_eq_true rfl, by rw [← hR]; exact Nat.le_of_ble_eq_true rfl⟩) ⟨fun av U g mk q => ⟨q.1, jPre2.blind g mk av q.2⟩, hC_80.2.2.1.recv hK, fun U hU hW => ⟨rfl, jPre2.mk (K2 := 1) hG hW hU hS_80 hN hga haX hX0 hC_80 (by omega)⟩⟩ rfl rfl hl.1 rfl (lv_room (Nat.le_of_ble_eq_true rfl)) dX0_quoted_176 ⟨by rw [← hR]; exact kc_90, by rw [← hR]; exact ks_90⟩) hS_80 (fun q _ h => h) (fun q h => h) (fun u t H_90 locs_90 ht_90 hvm_90 hw_90 hBb_90 hz_90 hk_90_ hS_90 => ?_)
                    obtain ⟨G_90, len_90, cnt_90⟩ := u
                    rw [ht_90] at hBb_90
                    have hC_90 := hC_80.tr hBb_90
                    clear hBb_90 ht_90 hvm_90 hw_90 hz_90 hk_90_ kc_90 ks_90 kz_90 kt_90
                    refine lv_goto (tgt := 208) hx hb dX0_quoted_179 (by decide) ?_
                    obtain ⟨z_91, ez_91⟩ : ∃ y : Int32, y = i + 1 := ⟨_, rfl⟩
                    refine lv_iinc (v := z_91) (lv' := [(5, .int z_91), (6, .int z_12), (0, .ref a), (1, .ref un), (4, .int st)]) hx hb dX0_quoted_208 hl (k := 4) rfl (by rw [ez_91]; rfl) (by decide) rfl (fun ls hl => ?_)
                    have hz_91 : z_91.toInt = i.toInt + 1 := by rw [ez_91]; exact jb_iadd (rfl) (by decide) (by omega) (by omega)
                    refine lv_goto (tgt := 23) hx hb dX0_quoted_211 (by decide) ?_
                    exact L23 st z_91 G_90 len_90 cnt_90 H_90 locs_90 ((((Kd + 4) + 1) + 1)) _ _ hC_90 hS_90 (by refine ⟨?_, ?_, ?_, ?_⟩ <;> omega) (by omega) _ (lv_sub hl [2, 3, 4, 0] rfl)
              · skip
                have c_64' : r_62.toInt ≠ 0 := jb_eq_n (rfl) ((by decide)) c_64
                refine lv_aload_n hx hb dX0_quoted_110 rfl (lv_at hl 1 rfl) ?_
                refine lv_ldc hx hb hown (hts (.constant RX0 66 65533) (by decide +kernel)) dX0_quoted_111 ?_
                refine W.room (fun kz_92 kt_92 => ?_)
                obtain ⟨kc_92, ks_92, -, -⟩ := hN.cells hC (by omega) kt_92
                refine va_callv (A0 := jA base) (H0 := s.heap) (va_runV (As := [.int 65533]) (rest := []) ⟨hx, hb, hml, hown, hts⟩ (tX0_character l dC dI ca base LC LS B hB G X H a len cnt 65533) (cwV 1 hts gX0_quoted_X0_character rfl rfl rfl (by decide +kernel) ⟨by rw [← hR]; exact Nat.le_of_ble_eq_true rfl, by rw [← hR]; exact Nat.le_of_ble_eq_true rfl⟩) ⟨fun av U g mk q => by obtain ⟨q8, q9, q7⟩ := q; exact ⟨q8, jPre2.blind g mk av q9, q7⟩, hC.2.2.1.recv hK, fun U hU hW => ⟨rfl, jPre2.mk (K2 := 4) hG hW hU hS hN hga haX hX0 hC (by omega), trivial⟩⟩ rfl rfl hl.1 rfl (lv_room (Nat.le_of_ble_eq_true rfl)) dX0_quoted_113 ⟨by rw [← hR]; exact kc_92, by rw [← hR]; exact ks_92⟩) hS (fun q _ h => h) (fun q h => h) (fun u t H_92 locs_92 ht_92 hvm_92 hw_92 hBb_92 hz_92 hk_92_ hS_92 => ?_)
                obtain ⟨G_92, len_92, cnt_92⟩ := u
                rw [ht_92] at hBb_92
                have hC_92 := hC.tr hBb_92
                clear hBb_92 ht_92 hvm_92 hw_92 hz_92 hk_92_ kc_92 ks_92 kz_92 kt_92
                refine lv_goto (tgt := 208) hx hb dX0_quoted_116 (by decide) ?_
                obtain ⟨z_93, ez_93⟩ : ∃ y : Int32, y = i + 1 := ⟨_, rfl⟩
                refine lv_iinc (v := z_93) (lv' := [(5, .int z_93), (6, .int z_12), (0, .ref a), (1, .ref un), (4, .int st)]) hx hb dX0_quoted_208 hl (k := 4) rfl (by rw [ez_93]; rfl) (by decide) rfl (fun ls hl => ?_)
                have hz_93 : z_93.toInt = i.toInt + 1 := by rw [ez_93]; exact jb_iadd (rfl) (by decide) (by omega) (by omega)
                refine lv_goto (tgt := 23) hx hb dX0_quoted_211 (by decide) ?_
                exact L23 st z_93 G_92 len_92 cnt_92 H_92 locs_92 ((Kd + 4)) _ _ hC_92 hS_92 (by refine ⟨?_, ?_, ?_, ?_⟩ <;> omega) (by omega) _ (lv_sub hl [2, 3, 4, 0] rfl)
          · skip
            have c_56' : z_55.toInt < st.toInt := jb_ge_n (rfl) (rfl) c_56
            refine lv_aload_n hx hb dX0_quoted_53 rfl (lv_at hl 2 rfl) ?_
            refine lv_iload hx hb dX0_quoted_54 (lv_at hl 4 rfl) ?_
            refine lv_iconst (v := 1) hx hb dX0_quoted_56 (by decide) ?_
            refine lv_iadd hx hb dX0_quoted_57 ?_
            refine lv_topi (fun z_94 ez_94 => ?_)
            have hz_94 : z_94.toInt = i.toInt + 1 := by rw [ez_94]; exact jb_iadd (rfl) ((by decide)) (by omega) (by omega)
            have hb_96 := (hB101 _ _ _ _).mp (hC.1.1 un 101 nu (hC.2.1.at hlt_un hg_un) (by omega) hn_un)
            obtain ⟨ft_97, hft_97⟩ := hb_96
            refine va_iald hx hb hK (jp_one hft_97) 0 1 rfl rfl (jb_in (rfl) (by omega) (by omega)) dX0_quoted_58 ?_
            refine lv_topi (fun z_95 ez_95 => ?_)
            refine W.room (fun kz_99 kt_99 => ?_)
            obtain ⟨-, -, kc_99, ks_99⟩ := hN.cells hC (by omega) kt_99
            refine vp_callSi (W.runS (As := [.int z_95]) (rest := []) ⟨hx, hb, hml, hown, hts⟩ (kX0_isLow l dC dI ca base H z_95) (va_cwS 1 hts gX0_quoted_X0_isLow rfl rfl rfl (by decide +kernel) ⟨by rw [← hR]; exact Nat.le_of_ble_eq_true rfl, by rw [← hR]; exact Nat.le_of_ble_eq_true rfl⟩) ⟨fun a U g mk q => by obtain ⟨q0, q1, qK, q9⟩ := q; exact ⟨q0, q1, jG.calling g mk a qK, q9⟩, fun U hU hW => ⟨rfl, hU, hG.step hW hU hS, by first | trivial | omega | (constructor <;> omega)⟩⟩ rfl rfl hl.1 rfl (lv_room (Nat.le_of_ble_eq_true rfl)) dX0_quoted_59 ⟨by rw [← hR]; exact kc_99, by rw [← hR]; exact ks_99⟩) (fun r_98 hr_98 => ?_)
            have hr_98' : r_98.toInt = 0 ∨ r_98.toInt = 1 := jb_01 hr_98
            refine lv_if_eq (tgt := 94) hx hb dX0_quoted_62 (by decide) (fun c_100 => ?_) (fun c_100 => ?_)
            · skip
              have c_100' : r_98.toInt = 0 := jb_eq (rfl) ((by decide)) c_100
              refine lv_iload hx hb dX0_quoted_94 (lv_at hl 0 rfl) ?_
              refine W.room (fun kz_102 kt_102 => ?_)
              obtain ⟨-, -, kc_102, ks_102⟩ := hN.cells hC (by omega) kt_102
              refine vp_callSi (W.runS (As := [.int z_12]) (rest := []) ⟨hx, hb, hml, hown, hts⟩ (kX0_isHigh l dC dI ca base H z_12) (va_cwS 1 hts gX0_quoted_X0_isHigh rfl rfl rfl (by decide +kernel) ⟨by rw [← hR]; exact Nat.le_of_ble_eq_true rfl, by rw [← hR]; exact Nat.le_of_ble_eq_true rfl⟩) ⟨fun a U g mk q => by obtain ⟨q0, q1, qK, q9⟩ := q; exact ⟨q0, q1, jG.calling g mk a qK, q9⟩, fun U hU hW => ⟨rfl, hU, hG.step hW hU hS, by first | trivial | omega | (constructor <;> omega)⟩⟩ rfl rfl hl.1 rfl (lv_room (Nat.le_of_ble_eq_true rfl)) dX0_quoted_96 ⟨by rw [← hR]; exact kc_102, by rw [← hR]; exact ks_102⟩) (fun r_101 hr_101 => ?_)
              have hr_101' : r_101.toInt = 0 ∨ r_101.toInt = 1 := jb_01 hr_101
              refine lv_if_ne (tgt := 110) hx hb dX0_quoted_99 (by decide) (fun c_103 => ?_) (fun c_103 => ?_)
              · skip
                have c_103' : r_101.toInt ≠ 0 := jb_ne (rfl) ((by decide)) c_103
                refine lv_aload_n hx hb dX0_quoted_110 rfl (lv_at hl 1 rfl) ?_
                refine lv_ldc hx hb hown (hts (.constant RX0 66 65533) (by decide +kernel)) dX0_quoted_111 ?_
                refine W.room (fun kz_104 kt_104 => ?_)
                obtain ⟨kc_104, ks_104, -, -⟩ := hN.cells hC (by omega) kt_104
                refine va_callv (A0 := jA base) (H0 := s.heap) (va_runV (As := [.int 65533]) (rest := []) ⟨hx, hb, hml, hown, hts⟩ (tX0_character l dC dI ca base LC LS B hB G X H a len cnt 65533) (cwV 1 hts gX0_quoted_X0_character rfl rfl rfl (by decide +kernel) ⟨by rw [← hR]; exact Nat.le_of_ble_eq_true rfl, by rw [← hR]; exact Nat.le_of_ble_eq_true rfl⟩) ⟨fun av U g mk q => by obtain ⟨q8, q9, q7⟩ := q; exact ⟨q8, jPre2.blind g mk av q9, q7⟩, hC.2.2.1.recv hK, fun U hU hW => ⟨rfl, jPre2.mk (K2 := 4) hG hW hU hS hN hga haX hX0 hC (by omega), trivial⟩⟩ rfl rfl hl.1 rfl (lv_room (Nat.le_of_ble_eq_true rfl)) dX0_quoted_113 ⟨by rw [← hR]; exact kc_104, by rw [← hR]; exact ks_104⟩) hS (fun q _ h => h) (fun q h => h) (fun u t H_104 locs_104 ht_104 hvm_104 hw_104 hBb_104 hz_104 hk_104_ hS_104 => ?_)
                obtain ⟨G_104, len_104, cnt_104⟩ := u
                rw [ht_104] at hBb_104
                have hC_104 := hC.tr hBb_104
                clear hBb_104 ht_104 hvm_104 hw_104 hz_104 hk_104_ kc_104 ks_104 kz_104 kt_104
                refine lv_goto (tgt := 208) hx hb dX0_quoted_116 (by decide) ?_
                obtain ⟨z_105, ez_105⟩ : ∃ y : Int32, y = i + 1 := ⟨_, rfl⟩
                refine lv_iinc (v := z_105) (lv' := [(5, .int z_105), (6, .int z_12), (0, .ref a), (1, .ref un), (4, .int st)]) hx hb dX0_quoted_208 hl (k := 4) rfl (by rw [ez_105]; rfl) (by decide) rfl (fun ls hl => ?_)
                have hz_105 : z_105.toInt = i.toInt + 1 := by rw [ez_105]; exact jb_iadd (rfl) (by decide) (by omega) (by omega)
                refine lv_goto (tgt := 23) hx hb dX0_quoted_211 (by decide) ?_
                exact L23 st z_105 G_104 len_104 cnt_104 H_104 locs_104 ((Kd + 4)) _ _ hC_104 hS_104 (by refine ⟨?_, ?_, ?_, ?_⟩ <;> omega) (by omega) _ (lv_sub hl [2, 3, 4, 0] rfl)
              · skip
                have c_103' : r_101.toInt = 0 := jb_ne_n (rfl) ((by decide)) c_103
                refine lv_iload hx hb dX0_quoted_102 (lv_at hl 0 rfl) ?_
                refine W.room (fun kz_107 kt_107 => ?_)
                obtain ⟨-, -, kc_107, ks_107⟩ := hN.cells hC (by omega) kt_107
                refine vp_callSi (W.runS (As := [.int z_12]) (rest := []) ⟨hx, hb, hml, hown, hts⟩ (kX0_isLow l dC dI ca base H z_12) (va_cwS 1 hts gX0_quoted_X0_isLow rfl rfl rfl (by decide +kernel) ⟨by rw [← hR]; exact Nat.le_of_ble_eq_true rfl, by rw [← hR]; exact Nat.le_of_ble_eq_true rfl⟩) ⟨fun a U g mk q => by obtain ⟨q0, q1, qK, q9⟩ := q; exact ⟨q0, q1, jG.calling g mk a qK, q9⟩, fun U hU hW => ⟨rfl, hU, hG.step hW hU hS, by first | trivial | omega | (constructor <;> omega)⟩⟩ rfl rfl hl.1 rfl (lv_room (Nat.le_of_ble_eq_true rfl)) dX0_quoted_104 ⟨by rw [← hR]; exact kc_107, by rw [← hR]; exact ks_107⟩) (fun r_106 hr_106 => ?_)
                have hr_106' : r_106.toInt = 0 ∨ r_106.toInt = 1 := jb_01 hr_106
                refine lv_if_eq (tgt := 119) hx hb dX0_quoted_107 (by decide) (fun c_108 => ?_) (fun c_108 => ?_)
                · skip
                  have c_108' : r_106.toInt = 0 := jb_eq (rfl) ((by decide)) c_108
                  refine lv_iload hx hb dX0_quoted_119 (lv_at hl 0 rfl) ?_
                  refine lv_bipush (v := 32) hx hb dX0_quoted_121 (by decide) ?_
                  refine lv_icmp_ge (tgt := 182) hx hb dX0_quoted_123 (by decide) (fun c_109 => ?_) (fun c_109 => ?_)
                  · skip
                    have c_109' : z_12.toInt ≥ 32 := jb_ge (rfl) ((by decide)) c_109
                    refine lv_iload hx hb dX0_quoted_182 (lv_at hl 0 rfl) ?_
                    refine lv_bipush (v := 34) hx hb dX0_quoted_184 (by decide) ?_
                    refine lv_icmp_eq (tgt := 196) hx hb dX0_quoted_186 (by decide) (fun c_110 => ?_) (fun c_110 => ?_)
                    · skip
                      have c_110' : z_12.toInt = 34 := jb_eq (rfl) ((by decide)) c_110
                      refine lv_aload_n hx hb dX0_quoted_196 rfl (lv_at hl 1 rfl) ?_
                      refine lv_bipush (v := 92) hx hb dX0_quoted_197 (by decide) ?_
                      refine W.room (fun kz_111 kt_111 => ?_)
                      obtain ⟨kc_111, ks_111, -, -⟩ := hN.cells hC (by omega) kt_111
                      refine va_callv (A0 := jA base) (H0 := s.heap) (va_runV (As := [.int 92]) (rest := []) ⟨hx, hb, hml, hown, hts⟩ (tX0_put l dC dI ca base LC LS B hB G X H a len cnt 92) (cwV 1 hts gX0_quoted_X0_put rfl rfl rfl (by decide +kernel) ⟨by rw [← hR]; exact Nat.le_of_ble_eq_true rfl, by rw [← hR]; exact Nat.le_of_ble_eq_true rfl⟩) ⟨fun av U g mk q => ⟨q.1, jPre2.blind g mk av q.2⟩, hC.2.2.1.recv hK, fun U hU hW => ⟨rfl, jPre2.mk (K2 := 1) hG hW hU hS hN hga haX hX0 hC (by omega)⟩⟩ rfl rfl hl.1 rfl (lv_room (Nat.le_of_ble_eq_true rfl)) dX0_quoted_199 ⟨by rw [← hR]; exact kc_111, by rw [← hR]; exact ks_111⟩) hS (fun q _ h => h) (fun q h => h) (fun u t H_111 locs_111 ht_111 hvm_111 hw_111 hBb_111 hz_111 hk_111_ hS_111 => ?_)
                      obtain ⟨G_111, len_111, cnt_111⟩ := u
                      rw [ht_111] at hBb_111
                      have hC_111 := hC.tr hBb_111
                      clear hBb_111 ht_111 hvm_111 hw_111 hz_111 hk_111_ kc_111 ks_111 kz_111 kt_111
                      refine lv_aload_n hx hb dX0_quoted_202 rfl (lv_at hl 1 rfl) ?_
                      refine lv_iload hx hb dX0_quoted_203 (lv_at hl 0 rfl) ?_
                      refine W.room (fun kz_112 kt_112 => ?_)
                      obtain ⟨kc_112, ks_112, -, -⟩ := hN.cells hC_111 (by omega) kt_112
                      refine va_callv (A0 := jA base) (H0 := s.heap) (va_runV (As := [.int z_12]) (rest := []) ⟨hx, hb, hml, hown, hts⟩ (tX0_character l dC dI ca base LC LS B hB G_111 X H_111 a len_111 cnt_111 z_12) (cwV 1 hts gX0_quoted_X0_character rfl rfl rfl (by decide +kernel) ⟨by rw [← hR]; exact Nat.le_of_ble_eq_true rfl, by rw [← hR]; exact Nat.le_of_ble_eq_true rfl⟩) ⟨fun av U g mk q => by obtain ⟨q8, q9, q7⟩ := q; exact ⟨q8, jPre2.blind g mk av q9, q7⟩, hC_111.2.2.1.recv hK, fun U hU hW => ⟨rfl, jPre2.mk (K2 := 4) hG hW hU hS_111 hN hga haX hX0 hC_111 (by omega), trivial⟩⟩ rfl rfl hl.1 rfl (lv_room (Nat.le_of_ble_eq_true rfl)) dX0_quoted_205 ⟨by rw [← hR]; exact kc_112, by rw [← hR]; exact ks_112⟩) hS_111 (fun q _ h => h) (fun q h => h) (fun u t H_112 locs_112 ht_112 hvm_112 hw_112 hBb_112 hz_112 hk_112_ hS_112 => ?_)
                      obtain ⟨G_112, len_112, cnt_112⟩ := u
                      rw [ht_112] at hBb_112
                      have hC_112 := hC_111.tr hBb_112
                      clear hBb_112 ht_112 hvm_112 hw_112 hz_112 hk_112_ kc_112 ks_112 kz_112 kt_112
                      obtain ⟨z_113, ez_113⟩ : ∃ y : Int32, y = i + 1 := ⟨_, rfl⟩
                      refine lv_iinc (v := z_113) (lv' := [(5, .int z_113), (6, .int z_12), (0, .ref a), (1, .ref un), (4, .int st)]) hx hb dX0_quoted_208 hl (k := 4) rfl (by rw [ez_113]; rfl) (by decide) rfl (fun ls hl => ?_)
                      have hz_113 : z_113.toInt = i.toInt + 1 := by rw [ez_113]; exact jb_iadd (rfl) (by decide) (by omega) (by omega)
                      refine lv_goto (tgt := 23) hx hb dX0_quoted_211 (by decide) ?_
                      exact L23 st z_113 G_112 len_112 cnt_112 H_112 locs_112 (((Kd + 1) + 4)) _ _ hC_112 hS_112 (by refine ⟨?_, ?_, ?_, ?_⟩ <;> omega) (by omega) _ (lv_sub hl [2, 3, 4, 0] rfl)
                    · skip
                      have c_110' : z_12.toInt ≠ 34 := jb_eq_n (rfl) ((by decide)) c_110
                      refine lv_iload hx hb dX0_quoted_189 (lv_at hl 0 rfl) ?_
                      refine lv_bipush (v := 92) hx hb dX0_quoted_191 (by decide) ?_
                      refine lv_icmp_ne (tgt := 202) hx hb dX0_quoted_193 (by decide) (fun c_114 => ?_) (fun c_114 => ?_)
                      · skip
                        have c_114' : z_12.toInt ≠ 92 := jb_ne (rfl) ((by decide)) c_114
                        refine lv_aload_n hx hb dX0_quoted_202 rfl (lv_at hl 1 rfl) ?_
                        refine lv_iload hx hb dX0_quoted_203 (lv_at hl 0 rfl) ?_
                        refine W.room (fun kz_115 kt_115 => ?_)
                        obtain ⟨kc_115, ks_115, -, -⟩ := hN.cells hC (by omega) kt_115
                        refine va_callv (A0 := jA base) (H0 := s.heap) (va_runV (As := [.int z_12]) (rest := []) ⟨hx, hb, hml, hown, hts⟩ (tX0_character l dC dI ca base LC LS B hB G X H a len cnt z_12) (cwV 1 hts gX0_quoted_X0_character rfl rfl rfl (by decide +kernel) ⟨by rw [← hR]; exact Nat.le_of_ble_eq_true rfl, by rw [← hR]; exact Nat.le_of_ble_eq_true rfl⟩) ⟨fun av U g mk q => by obtain ⟨q8, q9, q7⟩ := q; exact ⟨q8, jPre2.blind g mk av q9, q7⟩, hC.2.2.1.recv hK, fun U hU hW => ⟨rfl, jPre2.mk (K2 := 4) hG hW hU hS hN hga haX hX0 hC (by omega), trivial⟩⟩ rfl rfl hl.1 rfl (lv_room (Nat.le_of_ble_eq_true rfl)) dX0_quoted_205 ⟨by rw [← hR]; exact kc_115, by rw [← hR]; exact ks_115⟩) hS (fun q _ h => h) (fun q h => h) (fun u t H_115 locs_115 ht_115 hvm_115 hw_115 hBb_115 hz_115 hk_115_ hS_115 => ?_)
                        obtain ⟨G_115, len_115, cnt_115⟩ := u
                        rw [ht_115] at hBb_115
                        have hC_115 := hC.tr hBb_115
                        clear hBb_115 ht_115 hvm_115 hw_115 hz_115 hk_115_ kc_115 ks_115 kz_115 kt_115
                        obtain ⟨z_116, ez_116⟩ : ∃ y : Int32, y = i + 1 := ⟨_, rfl⟩
                        refine lv_iinc (v := z_116) (lv' := [(5, .int z_116), (6, .int z_12), (0, .ref a), (1, .ref un), (4, .int st)]) hx hb dX0_quoted_208 hl (k := 4) rfl (by rw [ez_116]; rfl) (by decide) rfl (fun ls hl => ?_)
                        have hz_116 : z_116.toInt = i.toInt + 1 := by rw [ez_116]; exact jb_iadd (rfl) (by decide) (by omega) (by omega)
                        refine lv_goto (tgt := 23) hx hb dX0_quoted_211 (by decide) ?_
                        exact L23 st z_116 G_115 len_115 cnt_115 H_115 locs_115 ((Kd + 4)) _ _ hC_115 hS_115 (by refine ⟨?_, ?_, ?_, ?_⟩ <;> omega) (by omega) _ (lv_sub hl [2, 3, 4, 0] rfl)
                      · skip
                        have c_114' : z_12.toInt = 92 := jb_ne_n (rfl) ((by decide)) c_114
                        refine lv_aload_n hx hb dX0_quoted_196 rfl (lv_at hl 1 rfl) ?_
                        refine lv_bipush (v := 92) hx hb dX0_quoted_197 (by decide) ?_
                        refine W.room (fun kz_117 kt_117 => ?_)
                        obtain ⟨kc_117, ks_117, -, -⟩ := hN.cells hC (by omega) kt_117
                        refine va_callv (A0 := jA base) (H0 := s.heap) (va_runV (As := [.int 92]) (rest := []) ⟨hx, hb, hml, hown, hts⟩ (tX0_put l dC dI ca base LC LS B hB G X H a len cnt 92) (cwV 1 hts gX0_quoted_X0_put rfl rfl rfl (by decide +kernel) ⟨by rw [← hR]; exact Nat.le_of_ble_eq_true rfl, by rw [← hR]; exact Nat.le_of_ble_eq_true rfl⟩) ⟨fun av U g mk q => ⟨q.1, jPre2.blind g mk av q.2⟩, hC.2.2.1.recv hK, fun U hU hW => ⟨rfl, jPre2.mk (K2 := 1) hG hW hU hS hN hga haX hX0 hC (by omega)⟩⟩ rfl rfl hl.1 rfl (lv_room (Nat.le_of_ble_eq_true rfl)) dX0_quoted_199 ⟨by rw [← hR]; exact kc_117, by rw [← hR]; exact ks_117⟩) hS (fun q _ h => h) (fun q h => h) (fun u t H_117 locs_117 ht_117 hvm_117 hw_117 hBb_117 hz_117 hk_117_ hS_117 => ?_)
                        obtain ⟨G_117, len_117, cnt_117⟩ := u
                        rw [ht_117] at hBb_117
                        have hC_117 := hC.tr hBb_117
                        clear hBb_117 ht_117 hvm_117 hw_117 hz_117 hk_117_ kc_117 ks_117 kz_117 kt_117
                        refine lv_aload_n hx hb dX0_quoted_202 rfl (lv_at hl 1 rfl) ?_
                        refine lv_iload hx hb dX0_quoted_203 (lv_at hl 0 rfl) ?_
                        refine W.room (fun kz_118 kt_118 => ?_)
                        obtain ⟨kc_118, ks_118, -, -⟩ := hN.cells hC_117 (by omega) kt_118
                        refine va_callv (A0 := jA base) (H0 := s.heap) (va_runV (As := [.int z_12]) (rest := []) ⟨hx, hb, hml, hown, hts⟩ (tX0_character l dC dI ca base LC LS B hB G_117 X H_117 a len_117 cnt_117 z_12) (cwV 1 hts gX0_quoted_X0_character rfl rfl rfl (by decide +kernel) ⟨by rw [← hR]; exact Nat.le_of_ble_eq_true rfl, by rw [← hR]; exact Nat.le_of_ble_eq_true rfl⟩) ⟨fun av U g mk q => by obtain ⟨q8, q9, q7⟩ := q; exact ⟨q8, jPre2.blind g mk av q9, q7⟩, hC_117.2.2.1.recv hK, fun U hU hW => ⟨rfl, jPre2.mk (K2 := 4) hG hW hU hS_117 hN hga haX hX0 hC_117 (by omega), trivial⟩⟩ rfl rfl hl.1 rfl (lv_room (Nat.le_of_ble_eq_true rfl)) dX0_quoted_205 ⟨by rw [← hR]; exact kc_118, by rw [← hR]; exact ks_118⟩) hS_117 (fun q _ h => h) (fun q h => h) (fun u t H_118 locs_118 ht_118 hvm_118 hw_118 hBb_118 hz_118 hk_118_ hS_118 => ?_)
                        obtain ⟨G_118, len_118, cnt_118⟩ := u
                        rw [ht_118] at hBb_118
                        have hC_118 := hC_117.tr hBb_118
                        clear hBb_118 ht_118 hvm_118 hw_118 hz_118 hk_118_ kc_118 ks_118 kz_118 kt_118
                        obtain ⟨z_119, ez_119⟩ : ∃ y : Int32, y = i + 1 := ⟨_, rfl⟩
                        refine lv_iinc (v := z_119) (lv' := [(5, .int z_119), (6, .int z_12), (0, .ref a), (1, .ref un), (4, .int st)]) hx hb dX0_quoted_208 hl (k := 4) rfl (by rw [ez_119]; rfl) (by decide) rfl (fun ls hl => ?_)
                        have hz_119 : z_119.toInt = i.toInt + 1 := by rw [ez_119]; exact jb_iadd (rfl) (by decide) (by omega) (by omega)
                        refine lv_goto (tgt := 23) hx hb dX0_quoted_211 (by decide) ?_
                        exact L23 st z_119 G_118 len_118 cnt_118 H_118 locs_118 (((Kd + 1) + 4)) _ _ hC_118 hS_118 (by refine ⟨?_, ?_, ?_, ?_⟩ <;> omega) (by omega) _ (lv_sub hl [2, 3, 4, 0] rfl)
                  · skip
                    have c_109' : z_12.toInt < 32 := jb_ge_n (rfl) ((by decide)) c_109
                    refine lv_aload_n hx hb dX0_quoted_126 rfl (lv_at hl 1 rfl) ?_
                    obtain ⟨str_120, rstr_120, hstr_1200⟩ := hG.str (o := RX0) (k := 67) (tx := "\\u00") (List.mem_of_getElem? (i := 790) (by decide +kernel))
                    have hstr_120 : jStr base str_120 4 s s.heap := hstr_1200
                    refine va_ldcS hx hb hown rstr_120 dX0_quoted_127 ?_
                    refine W.room (fun kz_121 kt_121 => ?_)
                    obtain ⟨kc_121, ks_121, -, -⟩ := hN.cells hC (by omega) kt_121
                    refine va_callv (A0 := jA base) (H0 := s.heap) (va_runV (As := [.ref str_120]) (rest := []) ⟨hx, hb, hml, hown, hts⟩ (tX0_text l dC dI ca base LC LS B hB G X H a len cnt str_120 4) (cwV 1 hts gX0_quoted_X0_text rfl rfl rfl (by decide +kernel) ⟨by rw [← hR]; exact Nat.le_of_ble_eq_true rfl, by rw [← hR]; exact Nat.le_of_ble_eq_true rfl⟩) ⟨fun av U g mk q => by obtain ⟨q8, q9, q0, q7⟩ := q; exact ⟨q8, jPre2.blind g mk av q9, q0.moved (Vm.Alike.refl U.vm), q7⟩, hC.2.2.1.recv hK, fun U hU hW => ⟨rfl, jPre2.mk (K2 := 4) hG hW hU hS hN hga haX hX0 hC (by omega), (hstr_120.moved hW.alike).kept hS.2.1, by omega⟩⟩ rfl rfl hl.1 rfl (lv_room (Nat.le_of_ble_eq_true rfl)) dX0_quoted_129 ⟨by rw [← hR]; exact kc_121, by rw [← hR]; exact ks_121⟩) hS (fun q _ h => h) (fun q h => h) (fun u t H_121 locs_121 ht_121 hvm_121 hw_121 hBb_121 hz_121 hk_121_ hS_121 => ?_)
                    obtain ⟨G_121, len_121, cnt_121⟩ := u
                    rw [ht_121] at hBb_121
                    have hC_121 := hC.tr hBb_121
                    clear hBb_121 ht_121 hvm_121 hw_121 hz_121 hk_121_ kc_121 ks_121 kz_121 kt_121
                    refine lv_aload_n hx hb dX0_quoted_132 rfl (lv_at hl 1 rfl) ?_
                    refine lv_bipush (v := 48) hx hb dX0_quoted_133 (by decide) ?_
                    refine lv_iload hx hb dX0_quoted_135 (lv_at hl 0 rfl) ?_
                    refine lv_iconst (v := 4) hx hb dX0_quoted_137 (by decide) ?_
                    refine lv_ishr hx hb dX0_quoted_138 ?_
                    refine lv_topi (fun z_122 ez_122 => ?_)
                    have hz_122 : z_122.toInt = z_12.toInt / 2 ^ 4 := by rw [ez_122]; exact jb_ishr 4 (rfl) (by decide)
                    refine lv_iadd hx hb dX0_quoted_139 ?_
                    refine lv_topi (fun z_123 ez_123 => ?_)
                    refine W.room (fun kz_124 kt_124 => ?_)
                    obtain ⟨kc_124, ks_124, -, -⟩ := hN.cells hC_121 (by omega) kt_124
                    refine va_callv (A0 := jA base) (H0 := s.heap) (va_runV (As := [.int z_123]) (rest := []) ⟨hx, hb, hml, hown, hts⟩ (tX0_put l dC dI ca base LC LS B hB G_121 X H_121 a len_121 cnt_121 z_123) (cwV 1 hts gX0_quoted_X0_put rfl rfl rfl (by decide +kernel) ⟨by rw [← hR]; exact Nat.le_of_ble_eq_true rfl, by rw [← hR]; exact Nat.le_of_ble_eq_true rfl⟩) ⟨fun av U g mk q => ⟨q.1, jPre2.blind g mk av q.2⟩, hC_121.2.2.1.recv hK, fun U hU hW => ⟨rfl, jPre2.mk (K2 := 1) hG hW hU hS_121 hN hga haX hX0 hC_121 (by omega)⟩⟩ rfl rfl hl.1 rfl (lv_room (Nat.le_of_ble_eq_true rfl)) dX0_quoted_140 ⟨by rw [← hR]; exact kc_124, by rw [← hR]; exact ks_124⟩) hS_121 (fun q _ h => h) (fun q h => h) (fun u t H_124 locs_124 ht_124 hvm_124 hw_124 hBb_124 hz_124 hk_124_ hS_124 => ?_)
                    obtain ⟨G_124, len_124, cnt_124⟩ := u
                    rw [ht_124] at hBb_124
                    have hC_124 := hC_121.tr hBb_124
                    clear hBb_124 ht_124 hvm_124 hw_124 hz_124 hk_124_ kc_124 ks_124 kz_124 kt_124
                    refine lv_aload_n hx hb dX0_quoted_143 rfl (lv_at hl 1 rfl) ?_
                    refine lv_iload hx hb dX0_quoted_144 (lv_at hl 0 rfl) ?_
                    refine lv_bipush (v := 15) hx hb dX0_quoted_146 (by decide) ?_
                    refine lv_iand hx hb dX0_quoted_148 ?_
                    refine lv_topi (fun z_125 ez_125 => ?_)
                    have hz_125 : 0 ≤ z_125.toInt ∧ z_125.toInt ≤ 15 := by rw [ez_125]; exact jb_and z_12 (m := 15) (k := 4) (by decide) (by decide)
                    refine lv_bipush (v := 10) hx hb dX0_quoted_149 (by decide) ?_
                    refine lv_icmp_ge (tgt := 165) hx hb dX0_quoted_151 (by decide) (fun c_126 => ?_) (fun c_126 => ?_)
                    · skip
                      have c_126' : z_125.toInt ≥ 10 := jb_ge (rfl) ((by decide)) c_126
                      refine lv_bipush (v := 97) hx hb dX0_quoted_165 (by decide) ?_
                      refine lv_iload hx hb dX0_quoted_167 (lv_at hl 0 rfl) ?_
                      refine lv_bipush (v := 15) hx hb dX0_quoted_169 (by decide) ?_
                      refine lv_iand hx hb dX0_quoted_171 ?_
                      refine lv_topi (fun z_127 ez_127 => ?_)
                      have hz_127 : 0 ≤ z_127.toInt ∧ z_127.toInt ≤ 15 := by rw [ez_127]; exact jb_and z_12 (m := 15) (k := 4) (by decide) (by decide)
                      refine lv_iadd hx hb dX0_quoted_172 ?_
                      refine lv_topi (fun z_128 ez_128 => ?_)
                      have hz_128 : z_128.toInt = 97 + z_127.toInt := by rw [ez_128]; exact jb_iadd ((by decide)) (rfl) (by omega) (by omega)
                      refine lv_bipush (v := 10) hx hb dX0_quoted_173 (by decide) ?_
                      refine lv_isub hx hb dX0_quoted_175 ?_
                      refine lv_topi (fun z_129 ez_129 => ?_)
                      have hz_129 : z_129.toInt = z_128.toInt - 10 := by rw [ez_129]; exact jb_isub (rfl) ((by decide)) (by omega) (by omega)
                      refine W.room (fun kz_130 kt_130 => ?_)
                      obtain ⟨kc_130, ks_130, -, -⟩ := hN.cells hC_124 (by omega) kt_130
                      refine va_callv (A0 := jA base) (H0 := s.heap) (va_runV (As := [.int z_129]) (rest := []) ⟨hx, hb, hml, hown, hts⟩ (tX0_put l dC dI ca base LC LS B hB G_124 X H_124 a len_124 cnt_124 z_129) (cwV 1 hts gX0_quoted_X0_put rfl rfl rfl (by decide +kernel) ⟨by rw [← hR]; exact Nat.le_of_ble_eq_true rfl, by rw [← hR]; exact Nat.le_of_ble_eq_true rfl⟩) ⟨fun av U g mk q => ⟨q.1, jPre2.blind g mk av q.2⟩, hC_124.2.2.1.recv hK, fun U hU hW => ⟨rfl, jPre2.mk (K2 := 1) hG hW hU hS_124 hN hga haX hX0 hC_124 (by omega)⟩⟩ rfl rfl hl.1 rfl (lv_room (Nat.le_of_ble_eq_true rfl)) dX0_quoted_176 ⟨by rw [← hR]; exact kc_130, by rw [← hR]; exact ks_130⟩) hS_124 (fun q _ h => h) (fun q h => h) (fun u t H_130 locs_130 ht_130 hvm_130 hw_130 hBb_130 hz_130 hk_130_ hS_130 => ?_)
                      obtain ⟨G_130, len_130, cnt_130⟩ := u
                      rw [ht_130] at hBb_130
                      have hC_130 := hC_124.tr hBb_130
                      clear hBb_130 ht_130 hvm_130 hw_130 hz_130 hk_130_ kc_130 ks_130 kz_130 kt_130
                      refine lv_goto (tgt := 208) hx hb dX0_quoted_179 (by decide) ?_
                      obtain ⟨z_131, ez_131⟩ : ∃ y : Int32, y = i + 1 := ⟨_, rfl⟩
                      refine lv_iinc (v := z_131) (lv' := [(5, .int z_131), (6, .int z_12), (0, .ref a), (1, .ref un), (4, .int st)]) hx hb dX0_quoted_208 hl (k := 4) rfl (by rw [ez_131]; rfl) (by decide) rfl (fun ls hl => ?_)
                      have hz_131 : z_131.toInt = i.toInt + 1 := by rw [ez_131]; exact jb_iadd (rfl) (by decide) (by omega) (by omega)
                      refine lv_goto (tgt := 23) hx hb dX0_quoted_211 (by decide) ?_
                      exact L23 st z_131 G_130 len_130 cnt_130 H_130 locs_130 ((((Kd + 4) + 1) + 1)) _ _ hC_130 hS_130 (by refine ⟨?_, ?_, ?_, ?_⟩ <;> omega) (by omega) _ (lv_sub hl [2, 3, 4, 0] rfl)
                    · skip
                      have c_126' : z_125.toInt < 10 := jb_ge_n (rfl) ((by decide)) c_126
                      refine lv_bipush (v := 48) hx hb dX0_quoted_154 (by decide) ?_
                      refine lv_iload hx hb dX0_quoted_156 (lv_at hl 0 rfl) ?_
                      refine lv_bipush (v := 15) hx hb dX0_quoted_158 (by decide) ?_
                      refine lv_iand hx hb dX0_quoted_160 ?_
                      refine lv_topi (fun z_132 ez_132 => ?_)
                      have hz_132 : 0 ≤ z_132.toInt ∧ z_132.toInt ≤ 15 := by rw [ez_132]; exact jb_and z_12 (m := 15) (k := 4) (by decide) (by decide)
                      refine lv_iadd hx hb dX0_quoted_161 ?_
                      refine lv_topi (fun z_133 ez_133 => ?_)
                      have hz_133 : z_133.toInt = 48 + z_132.toInt := by rw [ez_133]; exact jb_iadd ((by decide)) (rfl) (by omega) (by omega)
                      refine lv_goto (tgt := 176) hx hb dX0_quoted_162 (by decide) ?_
                      refine W.room (fun kz_134 kt_134 => ?_)
                      obtain ⟨kc_134, ks_134, -, -⟩ := hN.cells hC_124 (by omega) kt_134
                      refine va_callv (A0 := jA base) (H0 := s.heap) (va_runV (As := [.int z_133]) (rest := []) ⟨hx, hb, hml, hown, hts⟩ (tX0_put l dC dI ca base LC LS B hB G_124 X H_124 a len_124 cnt_124 z_133) (cwV 1 hts gX0_quoted_X0_put rfl rfl rfl (by decide +kernel) ⟨by rw [← hR]; exact Nat.le_of_ble_eq_true rfl, by rw [← hR]; exact Nat.le_of_ble_eq_true rfl⟩) ⟨fun av U g mk q => ⟨q.1, jPre2.blind g mk av q.2⟩, hC_124.2.2.1.recv hK, fun U hU hW => ⟨rfl, jPre2.mk (K2 := 1) hG hW hU hS_124 hN hga haX hX0 hC_124 (by omega)⟩⟩ rfl rfl hl.1 rfl (lv_room (Nat.le_of_ble_eq_true rfl)) dX0_quoted_176 ⟨by rw [← hR]; exact kc_134, by rw [← hR]; exact ks_134⟩) hS_124 (fun q _ h => h) (fun q h => h) (fun u t H_134 locs_134 ht_134 hvm_134 hw_134 hBb_134 hz_134 hk_134_ hS_134 => ?_)
                      obtain ⟨G_134, len_134, cnt_134⟩ := u
                      rw [ht_134] at hBb_134
                      have hC_134 := hC_124.tr hBb_134
                      clear hBb_134 ht_134 hvm_134 hw_134 hz_134 hk_134_ kc_134 ks_134 kz_134 kt_134
                      refine lv_goto (tgt := 208) hx hb dX0_quoted_179 (by decide) ?_
                      obtain ⟨z_135, ez_135⟩ : ∃ y : Int32, y = i + 1 := ⟨_, rfl⟩
                      refine lv_iinc (v := z_135) (lv' := [(5, .int z_135), (6, .int z_12), (0, .ref a), (1, .ref un), (4, .int st)]) hx hb dX0_quoted_208 hl (k := 4) rfl (by rw [ez_135]; rfl) (by decide) rfl (fun ls hl => ?_)
                      have hz_135 : z_135.toInt = i.toInt + 1 := by rw [ez_135]; exact jb_iadd (rfl) (by decide) (by omega) (by omega)
                      refine lv_goto (tgt := 23) hx hb dX0_quoted_211 (by decide) ?_
                      exact L23 st z_135 G_134 len_134 cnt_134 H_134 locs_134 ((((Kd + 4) + 1) + 1)) _ _ hC_134 hS_134 (by refine ⟨?_, ?_, ?_, ?_⟩ <;> omega) (by omega) _ (lv_sub hl [2, 3, 4, 0] rfl)
                · skip
                  have c_108' : r_106.toInt ≠ 0 := jb_eq_n (rfl) ((by decide)) c_108
                  refine lv_aload_n hx hb dX0_quoted_110 rfl (lv_at hl 1 rfl) ?_
                  refine lv_ldc hx hb hown (hts (.constant RX0 66 65533) (by decide +kernel)) dX0_quoted_111 ?_
                  refine W.room (fun kz_136 kt_136 => ?_)
                  obtain ⟨kc_136, ks_136, -, -⟩ := hN.cells hC (by omega) kt_136
                  refine va_callv (A0 := jA base) (H0 := s.heap) (va_runV (As := [.int 65533]) (rest := []) ⟨hx, hb, hml, hown, hts⟩ (tX0_character l dC dI ca base LC LS B hB G X H a len cnt 65533) (cwV 1 hts gX0_quoted_X0_character rfl rfl rfl (by decide +kernel) ⟨by rw [← hR]; exact Nat.le_of_ble_eq_true rfl, by rw [← hR]; exact Nat.le_of_ble_eq_true rfl⟩) ⟨fun av U g mk q => by obtain ⟨q8, q9, q7⟩ := q; exact ⟨q8, jPre2.blind g mk av q9, q7⟩, hC.2.2.1.recv hK, fun U hU hW => ⟨rfl, jPre2.mk (K2 := 4) hG hW hU hS hN hga haX hX0 hC (by omega), trivial⟩⟩ rfl rfl hl.1 rfl (lv_room (Nat.le_of_ble_eq_true rfl)) dX0_quoted_113 ⟨by rw [← hR]; exact kc_136, by rw [← hR]; exact ks_136⟩) hS (fun q _ h => h) (fun q h => h) (fun u t H_136 locs_136 ht_136 hvm_136 hw_136 hBb_136 hz_136 hk_136_ hS_136 => ?_)
                  obtain ⟨G_136, len_136, cnt_136⟩ := u
                  rw [ht_136] at hBb_136
                  have hC_136 := hC.tr hBb_136
                  clear hBb_136 ht_136 hvm_136 hw_136 hz_136 hk_136_ kc_136 ks_136 kz_136 kt_136
                  refine lv_goto (tgt := 208) hx hb dX0_quoted_116 (by decide) ?_
                  obtain ⟨z_137, ez_137⟩ : ∃ y : Int32, y = i + 1 := ⟨_, rfl⟩
                  refine lv_iinc (v := z_137) (lv' := [(5, .int z_137), (6, .int z_12), (0, .ref a), (1, .ref un), (4, .int st)]) hx hb dX0_quoted_208 hl (k := 4) rfl (by rw [ez_137]; rfl) (by decide) rfl (fun ls hl => ?_)
                  have hz_137 : z_137.toInt = i.toInt + 1 := by rw [ez_137]; exact jb_iadd (rfl) (by decide) (by omega) (by omega)
                  refine lv_goto (tgt := 23) hx hb dX0_quoted_211 (by decide) ?_
                  exact L23 st z_137 G_136 len_136 cnt_136 H_136 locs_136 ((Kd + 4)) _ _ hC_136 hS_136 (by refine ⟨?_, ?_, ?_, ?_⟩ <;> omega) (by omega) _ (lv_sub hl [2, 3, 4, 0] rfl)
            · skip
              have c_100' : r_98.toInt ≠ 0 := jb_eq_n (rfl) ((by decide)) c_100
              obtain ⟨z_138, ez_138⟩ : ∃ y : Int32, y = i + 1 := ⟨_, rfl⟩
              refine lv_iinc (v := z_138) (lv' := [(5, .int z_138), (6, .int z_12), (0, .ref a), (1, .ref un), (4, .int st)]) hx hb dX0_quoted_65 hl (k := 4) rfl (by rw [ez_138]; rfl) (by decide) rfl (fun ls hl => ?_)
              have hz_138 : z_138.toInt = i.toInt + 1 := by rw [ez_138]; exact jb_iadd (rfl) (by decide) (by omega) (by omega)
              refine lv_aload_n hx hb dX0_quoted_68 rfl (lv_at hl 2 rfl) ?_
              refine lv_ldc hx hb hown (hts (.constant RX0 60 65536) (by decide +kernel)) dX0_quoted_69 ?_
              refine lv_iload hx hb dX0_quoted_71 (lv_at hl 1 rfl) ?_
              refine lv_ldc hx hb hown (hts (.constant RX0 61 55296) (by decide +kernel)) dX0_quoted_73 ?_
              refine lv_isub hx hb dX0_quoted_75 ?_
              refine lv_topi (fun z_139 ez_139 => ?_)
              refine lv_bipush (v := 10) hx hb dX0_quoted_76 (by decide) ?_
              refine lv_ishl hx hb dX0_quoted_78 ?_
              refine lv_topi (fun z_140 ez_140 => ?_)
              refine lv_iadd hx hb dX0_quoted_79 ?_
              refine lv_topi (fun z_141 ez_141 => ?_)
              refine lv_aload_n hx hb dX0_quoted_80 rfl (lv_at hl 3 rfl) ?_
              refine lv_iload hx hb dX0_quoted_81 (lv_at hl 0 rfl) ?_
              have hb_143 := (hB101 _ _ _ _).mp (hC.1.1 un 101 nu (hC.2.1.at hlt_un hg_un) (by omega) hn_un)
              obtain ⟨ft_144, hft_144⟩ := hb_143
              refine va_iald hx hb hK (jp_one hft_144) 0 1 rfl rfl (jb_in (rfl) (by omega) (by omega)) dX0_quoted_83 ?_
              refine lv_topi (fun z_142 ez_142 => ?_)
              refine lv_iadd hx hb dX0_quoted_84 ?_
              refine lv_topi (fun z_145 ez_145 => ?_)
              refine lv_ldc hx hb hown (hts (.constant RX0 62 56320) (by decide +kernel)) dX0_quoted_85 ?_
              refine lv_isub hx hb dX0_quoted_87 ?_
              refine lv_topi (fun z_146 ez_146 => ?_)
              refine W.room (fun kz_147 kt_147 => ?_)
              obtain ⟨kc_147, ks_147, -, -⟩ := hN.cells hC (by omega) kt_147
              refine va_callv (A0 := jA base) (H0 := s.heap) (va_runV (As := [.int z_146]) (rest := []) ⟨hx, hb, hml, hown, hts⟩ (tX0_character l dC dI ca base LC LS B hB G X H a len cnt z_146) (cwV 1 hts gX0_quoted_X0_character rfl rfl rfl (by decide +kernel) ⟨by rw [← hR]; exact Nat.le_of_ble_eq_true rfl, by rw [← hR]; exact Nat.le_of_ble_eq_true rfl⟩) ⟨fun av U g mk q => by obtain ⟨q8, q9, q7⟩ := q; exact ⟨q8, jPre2.blind g mk av q9, q7⟩, hC.2.2.1.recv hK, fun U hU hW => ⟨rfl, jPre2.mk (K2 := 4) hG hW hU hS hN hga haX hX0 hC (by omega), trivial⟩⟩ rfl rfl hl.1 rfl (lv_room (Nat.le_of_ble_eq_true rfl)) dX0_quoted_88 ⟨by rw [← hR]; exact kc_147, by rw [← hR]; exact ks_147⟩) hS (fun q _ h => h) (fun q h => h) (fun u t H_147 locs_147 ht_147 hvm_147 hw_147 hBb_147 hz_147 hk_147_ hS_147 => ?_)
              obtain ⟨G_147, len_147, cnt_147⟩ := u
              rw [ht_147] at hBb_147
              have hC_147 := hC.tr hBb_147
              clear hBb_147 ht_147 hvm_147 hw_147 hz_147 hk_147_ kc_147 ks_147 kz_147 kt_147
              refine lv_goto (tgt := 208) hx hb dX0_quoted_91 (by decide) ?_
              obtain ⟨z_148, ez_148⟩ : ∃ y : Int32, y = z_138 + 1 := ⟨_, rfl⟩
              refine lv_iinc (v := z_148) (lv' := [(5, .int z_148), (6, .int z_12), (0, .ref a), (1, .ref un), (4, .int st)]) hx hb dX0_quoted_208 hl (k := 0) rfl (by rw [ez_148]; rfl) (by decide) rfl (fun ls hl => ?_)
              have hz_148 : z_148.toInt = z_138.toInt + 1 := by rw [ez_148]; exact jb_iadd (rfl) (by decide) (by omega) (by omega)
              refine lv_goto (tgt := 23) hx hb dX0_quoted_211 (by decide) ?_
              exact L23 st z_148 G_147 len_147 cnt_147 H_147 locs_147 ((Kd + 4)) _ _ hC_147 hS_147 (by refine ⟨?_, ?_, ?_, ?_⟩ <;> omega) (by omega) _ (lv_sub hl [2, 3, 4, 0] rfl)
  exact L23 ((((z_7 : Int32).toInt - (z_9 : Int32).toInt).toNat : Int) : Int).toNat.succ z_7 z_9 G_1 len_1 cnt_1 H_1 locs_1 ((0 + 1)) _ _ hC_1 hS_1 (by refine ⟨?_, ?_, ?_, ?_⟩ <;> omega) (by omega) _ (lv_sub hl [2, 3, 1, 0] rfl)
