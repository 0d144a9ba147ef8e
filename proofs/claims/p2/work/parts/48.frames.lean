abbrev cX2_accept : ByteArray := prog_4_method_2_code
def yX2_accept : MethodName := ⟨RX2, "accept", "(I)Z"⟩
def wsX2_accept_r1 : List Cond := [Cond.fieldLink RX2 22 "ProofServer$Frames" "broken" "Z", Cond.fieldLink RX2 15 "ProofServer$Frames" "place" "I", Cond.fieldLink RX2 26 "ProofServer$Frames" "filled" "I", Cond.fieldLink RX2 9 "ProofServer$Frames" "body" "[B", Cond.fieldLink RX2 29 "ProofServer$Frames" "kept" "I", Cond.fieldLink RX2 19 "ProofServer$Frames" "told" "I", Cond.fieldLink RX2 36 "ProofServer$Frames" "length" "I", Cond.fieldLink RX2 39 "ProofServer$Frames" "messages" "I", Cond.methodLink RX2 32 yX2_isHeader, Cond.instanceMethod yX2_isHeader, Cond.selects RX2 yX2_isHeader yX2_isHeader, Cond.initialized RX2, Cond.code yX2_isHeader cX2_isHeader 2 (some .boolean), Cond.methodLink RX2 42 yX2_isLineBegin, Cond.instanceMethod yX2_isLineBegin, Cond.selects RX2 yX2_isLineBegin yX2_isLineBegin, Cond.code yX2_isLineBegin cX2_isLineBegin 2 (some .boolean), Cond.fieldLink RX2 54 "ProofServer$Frames" "signs" "I", Cond.fieldLink RX2 57 "ProofServer$Frames" "isLengthName" "Z", Cond.methodLink RX2 45 yX2_isInName, Cond.instanceMethod yX2_isInName, Cond.selects RX2 yX2_isInName yX2_isInName, Cond.code yX2_isInName cX2_isInName 3 (some .boolean), Cond.fieldLink RX2 67 "ProofServer$Frames" "digits" "I"]
def wsX2_accept_r2 : List Cond := [Cond.fieldLink RX2 70 "ProofServer$Frames" "value" "I", Cond.methodLink RX2 62 yJ0_length_8abf5, Cond.instanceMethod yJ0_length_8abf5, Cond.selects RJ0 yJ0_length_8abf5 yJ0_length_8abf5, Cond.initialized RJ0, Cond.code yJ0_length_8abf5 cJ0_length_8abf5 1 (some .int), Cond.fieldLink RJ0 9 "java/lang/String" "value" "[B", Cond.methodLink RJ0 335 yJ0_coder_7d493, Cond.instanceMethod yJ0_coder_7d493, Cond.selects RJ0 yJ0_coder_7d493 yJ0_coder_7d493, Cond.code yJ0_coder_7d493 cJ0_coder_7d493 1 (some .byte), Cond.fieldLink RJ0 38 "java/lang/String" "COMPACT_STRINGS" "Z", Cond.fieldLink RJ0 15 "java/lang/String" "coder" "B", Cond.methodLink RX2 73 yJ0_charAt_5068e, Cond.instanceMethod yJ0_charAt_5068e, Cond.selects RJ0 yJ0_charAt_5068e yJ0_charAt_5068e, Cond.code yJ0_charAt_5068e cJ0_charAt_5068e 2 (some .char), Cond.methodLink RJ0 492 yJ0_isLatin1_aae02, Cond.instanceMethod yJ0_isLatin1_aae02, Cond.selects RJ0 yJ0_isLatin1_aae02 yJ0_isLatin1_aae02, Cond.code yJ0_isLatin1_aae02 cJ0_isLatin1_aae02 1 (some .boolean), Cond.methodLink RJ0 495 yJ1_charAt_3b067, Cond.static yJ1_charAt_3b067, Cond.initialized RJ1]
def wsX2_accept_r3 : List Cond := [Cond.code yJ1_charAt_3b067 cJ1_charAt_3b067 2 (some .char), Cond.methodLink RJ1 9 yJ0_checkIndex_df160, Cond.static yJ0_checkIndex_df160, Cond.code yJ0_checkIndex_df160 cJ0_checkIndex_df160 2 none, Cond.fieldLink RJ0 1053 "jdk/internal/util/Preconditions" "SIOOBE_FORMATTER" "Ljava/util/function/BiFunction;", Cond.methodLink RJ0 1059 yJ3_checkIndex_8e157, Cond.static yJ3_checkIndex_8e157, Cond.initialized RJ3, Cond.code yJ3_checkIndex_8e157 cJ3_checkIndex_8e157 3 (some .int), Cond.methodLink RJ0 498 yJ2_charAt_3b067, Cond.static yJ2_charAt_3b067, Cond.initialized RJ2, Cond.code yJ2_charAt_3b067 cJ2_charAt_3b067 2 (some .char), Cond.methodLink RJ2 67 yJ2_checkIndex_2214a, Cond.static yJ2_checkIndex_2214a, Cond.code yJ2_checkIndex_2214a cJ2_checkIndex_2214a 2 none, Cond.methodLink RJ2 48 yJ2_length_9d52b, Cond.static yJ2_length_9d52b, Cond.code yJ2_length_9d52b cJ2_length_9d52b 1 (some .int), Cond.methodLink RJ2 414 yJ0_checkIndex_df160, Cond.methodLink RJ2 71 yJ2_getChar_3b067, Cond.static yJ2_getChar_3b067, Cond.code yJ2_getChar_3b067 cJ2_getChar_3b067 2 (some .char), Cond.fieldLink RJ2 44 "java/lang/StringUTF16" "$assertionsDisabled" "Z"]
def wsX2_accept_r4 : List Cond := [Cond.fieldLink RJ2 59 "java/lang/StringUTF16" "HI_BYTE_SHIFT" "I", Cond.fieldLink RJ2 63 "java/lang/StringUTF16" "LO_BYTE_SHIFT" "I", Cond.methodLink RX2 48 yX2_isInValue, Cond.instanceMethod yX2_isInValue, Cond.selects RX2 yX2_isInValue yX2_isInValue, Cond.code yX2_isInValue cX2_isInValue 2 (some .boolean), Cond.methodLink RX2 51 yX2_isInLength, Cond.instanceMethod yX2_isInLength, Cond.selects RX2 yX2_isInLength yX2_isInLength, Cond.code yX2_isInLength cX2_isInLength 2 (some .boolean)]
def wsX2_accept : List Cond := .code yX2_accept cX2_accept 2 (some .boolean) :: ((wsX2_accept_r1 ++ (wsX2_accept_r2 ++ (wsX2_accept_r3 ++ wsX2_accept_r4))) ++ wsX20)
set_option maxRecDepth 20000 in
theorem ggX2_accept_X2_isHeader : GoodIn wsX2_accept wsX2_isHeader := goodIn_r _ [13, 2, 14, 15, 16, 12, 17, 6, 18, 19, 20, 21, 22, 23, 24, 25, 26, 27, 28, 29, 30, 31, 32, 33, 34, 35, 36, 37, 38, 39, 40, 41, 42, 43, 44, 45, 46, 47, 48, 49, 50, 51, 52, 53, 54, 55, 56, 57, 58, 59, 60, 61, 62, 63, 64, 65, 66, 67, 68, 69, 70, 71, 72, 73, 74, 75, 76, 77, 78, 79, 80, 81, 82, 83, 84, 85, 86, 87, 88, 89, 90, 91, 92, 93, 94] (by decide +kernel) (by decide +kernel)
set_option maxRecDepth 20000 in
theorem gX2_accept_X2_isHeader : GoodIn wsX2_accept (wsV RX2 32 RX2 yX2_isHeader wsX2_isHeader) := goodIn_app (goodIn_of _ (by decide +kernel)) ggX2_accept_X2_isHeader
theorem dX2_accept_0 : decode cX2_accept 0 = .ok (.aload_n 0, 1) := by decide +kernel
theorem dX2_accept_1 : decode cX2_accept 1 = .ok (.getfield 22, 3) := by decide +kernel
theorem dX2_accept_4 : decode cX2_accept 4 = .ok (.ifCond .eq 5, 3) := by decide +kernel
theorem dX2_accept_7 : decode cX2_accept 7 = .ok (.iconst 0, 1) := by decide +kernel
theorem dX2_accept_8 : decode cX2_accept 8 = .ok (.ireturn, 1) := by decide +kernel
theorem dX2_accept_9 : decode cX2_accept 9 = .ok (.aload_n 0, 1) := by decide +kernel
theorem dX2_accept_10 : decode cX2_accept 10 = .ok (.getfield 15, 3) := by decide +kernel
theorem dX2_accept_13 : decode cX2_accept 13 = .ok (.bipush 6, 2) := by decide +kernel
theorem dX2_accept_15 : decode cX2_accept 15 = .ok (.if_icmp .ne 39, 3) := by decide +kernel
theorem dX2_accept_18 : decode cX2_accept 18 = .ok (.aload_n 0, 1) := by decide +kernel
theorem dX2_accept_19 : decode cX2_accept 19 = .ok (.getfield 26, 3) := by decide +kernel
theorem dX2_accept_22 : decode cX2_accept 22 = .ok (.aload_n 0, 1) := by decide +kernel
theorem dX2_accept_23 : decode cX2_accept 23 = .ok (.getfield 9, 3) := by decide +kernel
theorem dX2_accept_26 : decode cX2_accept 26 = .ok (.arraylength, 1) := by decide +kernel
theorem dX2_accept_27 : decode cX2_accept 27 = .ok (.if_icmp .ge 14, 3) := by decide +kernel
theorem dX2_accept_30 : decode cX2_accept 30 = .ok (.aload_n 0, 1) := by decide +kernel
theorem dX2_accept_31 : decode cX2_accept 31 = .ok (.getfield 9, 3) := by decide +kernel
theorem dX2_accept_34 : decode cX2_accept 34 = .ok (.aload_n 0, 1) := by decide +kernel
theorem dX2_accept_35 : decode cX2_accept 35 = .ok (.getfield 26, 3) := by decide +kernel
theorem dX2_accept_38 : decode cX2_accept 38 = .ok (.iload_n 1, 1) := by decide +kernel
theorem dX2_accept_39 : decode cX2_accept 39 = .ok (.i2b, 1) := by decide +kernel
theorem dX2_accept_40 : decode cX2_accept 40 = .ok (.bastore, 1) := by decide +kernel
theorem dX2_accept_41 : decode cX2_accept 41 = .ok (.aload_n 0, 1) := by decide +kernel
theorem dX2_accept_42 : decode cX2_accept 42 = .ok (.dup, 1) := by decide +kernel
theorem dX2_accept_43 : decode cX2_accept 43 = .ok (.getfield 26, 3) := by decide +kernel
theorem dX2_accept_46 : decode cX2_accept 46 = .ok (.iconst 1, 1) := by decide +kernel
theorem dX2_accept_47 : decode cX2_accept 47 = .ok (.iadd, 1) := by decide +kernel
theorem dX2_accept_48 : decode cX2_accept 48 = .ok (.putfield 26, 3) := by decide +kernel
theorem dX2_accept_51 : decode cX2_accept 51 = .ok (.goto 28, 3) := by decide +kernel
theorem dX2_accept_54 : decode cX2_accept 54 = .ok (.aload_n 0, 1) := by decide +kernel
theorem dX2_accept_55 : decode cX2_accept 55 = .ok (.getfield 29, 3) := by decide +kernel
theorem dX2_accept_58 : decode cX2_accept 58 = .ok (.sipush 200, 3) := by decide +kernel
theorem dX2_accept_61 : decode cX2_accept 61 = .ok (.if_icmp .ge 11, 3) := by decide +kernel
theorem dX2_accept_64 : decode cX2_accept 64 = .ok (.aload_n 0, 1) := by decide +kernel
theorem dX2_accept_65 : decode cX2_accept 65 = .ok (.iload_n 1, 1) := by decide +kernel
theorem dX2_accept_66 : decode cX2_accept 66 = .ok (.invokevirtual 32, 3) := by decide +kernel
theorem dX2_accept_69 : decode cX2_accept 69 = .ok (.ifCond .ne 10, 3) := by decide +kernel
theorem dX2_accept_72 : decode cX2_accept 72 = .ok (.aload_n 0, 1) := by decide +kernel
theorem dX2_accept_73 : decode cX2_accept 73 = .ok (.iconst 1, 1) := by decide +kernel
theorem dX2_accept_74 : decode cX2_accept 74 = .ok (.putfield 22, 3) := by decide +kernel
theorem dX2_accept_77 : decode cX2_accept 77 = .ok (.iconst 0, 1) := by decide +kernel
theorem dX2_accept_78 : decode cX2_accept 78 = .ok (.ireturn, 1) := by decide +kernel
theorem dX2_accept_79 : decode cX2_accept 79 = .ok (.aload_n 0, 1) := by decide +kernel
theorem dX2_accept_80 : decode cX2_accept 80 = .ok (.dup, 1) := by decide +kernel
theorem dX2_accept_81 : decode cX2_accept 81 = .ok (.getfield 29, 3) := by decide +kernel
theorem dX2_accept_84 : decode cX2_accept 84 = .ok (.iconst 1, 1) := by decide +kernel
theorem dX2_accept_85 : decode cX2_accept 85 = .ok (.iadd, 1) := by decide +kernel
theorem dX2_accept_86 : decode cX2_accept 86 = .ok (.putfield 29, 3) := by decide +kernel
theorem dX2_accept_89 : decode cX2_accept 89 = .ok (.aload_n 0, 1) := by decide +kernel
theorem dX2_accept_90 : decode cX2_accept 90 = .ok (.getfield 15, 3) := by decide +kernel
theorem dX2_accept_93 : decode cX2_accept 93 = .ok (.bipush 6, 2) := by decide +kernel
theorem dX2_accept_95 : decode cX2_accept 95 = .ok (.if_icmp .ne 14, 3) := by decide +kernel
theorem dX2_accept_98 : decode cX2_accept 98 = .ok (.aload_n 0, 1) := by decide +kernel
theorem dX2_accept_99 : decode cX2_accept 99 = .ok (.getfield 26, 3) := by decide +kernel
theorem dX2_accept_102 : decode cX2_accept 102 = .ok (.aload_n 0, 1) := by decide +kernel
theorem dX2_accept_103 : decode cX2_accept 103 = .ok (.getfield 19, 3) := by decide +kernel
theorem dX2_accept_106 : decode cX2_accept 106 = .ok (.if_icmp .ge 5, 3) := by decide +kernel
theorem dX2_accept_109 : decode cX2_accept 109 = .ok (.iconst 0, 1) := by decide +kernel
theorem dX2_accept_110 : decode cX2_accept 110 = .ok (.ireturn, 1) := by decide +kernel
theorem dX2_accept_111 : decode cX2_accept 111 = .ok (.aload_n 0, 1) := by decide +kernel
theorem dX2_accept_112 : decode cX2_accept 112 = .ok (.aload_n 0, 1) := by decide +kernel
theorem dX2_accept_113 : decode cX2_accept 113 = .ok (.getfield 19, 3) := by decide +kernel
theorem dX2_accept_116 : decode cX2_accept 116 = .ok (.putfield 36, 3) := by decide +kernel
theorem dX2_accept_119 : decode cX2_accept 119 = .ok (.aload_n 0, 1) := by decide +kernel
theorem dX2_accept_120 : decode cX2_accept 120 = .ok (.iconst (-1), 1) := by decide +kernel
theorem dX2_accept_121 : decode cX2_accept 121 = .ok (.putfield 19, 3) := by decide +kernel
theorem dX2_accept_124 : decode cX2_accept 124 = .ok (.aload_n 0, 1) := by decide +kernel
theorem dX2_accept_125 : decode cX2_accept 125 = .ok (.iconst 0, 1) := by decide +kernel
theorem dX2_accept_126 : decode cX2_accept 126 = .ok (.putfield 26, 3) := by decide +kernel
theorem dX2_accept_129 : decode cX2_accept 129 = .ok (.aload_n 0, 1) := by decide +kernel
theorem dX2_accept_130 : decode cX2_accept 130 = .ok (.iconst 0, 1) := by decide +kernel
theorem dX2_accept_131 : decode cX2_accept 131 = .ok (.putfield 29, 3) := by decide +kernel
theorem dX2_accept_134 : decode cX2_accept 134 = .ok (.aload_n 0, 1) := by decide +kernel
theorem dX2_accept_135 : decode cX2_accept 135 = .ok (.iconst 0, 1) := by decide +kernel
theorem dX2_accept_136 : decode cX2_accept 136 = .ok (.putfield 15, 3) := by decide +kernel
theorem dX2_accept_139 : decode cX2_accept 139 = .ok (.aload_n 0, 1) := by decide +kernel
theorem dX2_accept_140 : decode cX2_accept 140 = .ok (.dup, 1) := by decide +kernel
theorem dX2_accept_141 : decode cX2_accept 141 = .ok (.getfield 39, 3) := by decide +kernel
theorem dX2_accept_144 : decode cX2_accept 144 = .ok (.iconst 1, 1) := by decide +kernel
theorem dX2_accept_145 : decode cX2_accept 145 = .ok (.iadd, 1) := by decide +kernel
theorem dX2_accept_146 : decode cX2_accept 146 = .ok (.putfield 39, 3) := by decide +kernel
theorem dX2_accept_149 : decode cX2_accept 149 = .ok (.iconst 1, 1) := by decide +kernel
theorem dX2_accept_150 : decode cX2_accept 150 = .ok (.ireturn, 1) := by decide +kernel
set_option maxHeartbeats 4000000 in
set_option maxRecDepth 20000 in
theorem kX2_accept (l : Launch) (dC : Nat → ClassId) (dI : Nat → Nat → Nat) (ca : Nat → ClassId) (base : Nat) (H0 : Heap) (h0 bd : Nat) (len kp ms br pl td fl sg il dg vl : Int32) (a1 : Int32) (fb : Nat → Int32) : Met l yX2_accept wsX2_accept ({ frames := 7, cells := 0, slots := 0, locals := 280 }) (va_Pc [.ref h0, .int a1] (fun U => U.heap = H0 ∧ va_at (dC, dI) vwCl (h0, .inr (4, [.ref bd, .int len, .int kp, .int ms, .int br, .int pl, .int td, .int fl, .int sg, .int il, .int dg, .int vl])) H0 ∧ va_at (dC, dI) vwCl (bd, .inl (ca 0, 3000, .inl fb)) H0 ∧ jG dC dI ca base U ∧ (base ≤ h0 ∧ base ≤ bd ∧ h0 ≠ bd ∧ (br = 0 ∨ br = 1) ∧ (il = 0 ∨ il = 1) ∧ 0 ≤ fl.toInt ∧ (fl.toInt < td.toInt ∨ fl.toInt = 0) ∧ -1 ≤ td.toInt ∧ td.toInt ≤ 3000 ∧ 0 ≤ sg.toInt ∧ sg.toInt ≤ 1000 ∧ 0 ≤ kp.toInt ∧ kp.toInt ≤ 200 + fl.toInt ∧ (br.toInt = 0 → pl.toInt = 1 → sg.toInt ≤ kp.toInt) ∧ (pl.toInt ≠ 6 → fl.toInt = 0) ∧ 0 ≤ vl.toInt ∧ (br.toInt = 0 → vl.toInt ≤ 3000)))) (va_Qi (S := List Value × (Nat → Int32)) (fun r u => (r = 0 ∨ r = 1) ∧ ∃ len' kp' ms' br' pl' td' fl' sg' il' dg' vl' : Int32, ∃ fb' : Nat → Int32, u = ([.ref bd, .int len', .int kp', .int ms', .int br', .int pl', .int td', .int fl', .int sg', .int il', .int dg', .int vl'], fb') ∧ (br' = 0 ∨ br' = 1) ∧ (il' = 0 ∨ il' = 1) ∧ 0 ≤ fl'.toInt ∧ (fl'.toInt < td'.toInt ∨ fl'.toInt = 0) ∧ -1 ≤ td'.toInt ∧ td'.toInt ≤ 3000 ∧ 0 ≤ sg'.toInt ∧ sg'.toInt ≤ 1000 ∧ 0 ≤ kp'.toInt ∧ kp'.toInt ≤ 200 + fl'.toInt ∧ (br'.toInt = 0 → pl'.toInt = 1 → sg'.toInt ≤ kp'.toInt) ∧ (pl'.toInt ≠ 6 → fl'.toInt = 0) ∧ 0 ≤ vl'.toInt ∧ (br'.toInt = 0 → vl'.toInt ≤ 3000)) (fun u t => va_at (dC, dI) vwCl (h0, .inr (4, u.1)) t.heap ∧ va_at (dC, dI) vwCl (bd, .inl (ca 0, 3000, .inl u.2)) t.heap ∧ t.heap.size = H0.size ∧ (∀ q, ¬ (q = h0 ∨ q = bd) → t.heap[q]? = H0[q]?)) (jA base)) 0 0 (jA base) := by
  refine Met.ofW (cc := cX2_accept) (maxL := 2) (ret := (some .boolean)) (by decide) rfl ?_
  intro p e s m args below meth c s₁ B hml hv
  obtain ⟨rfl, hH0, hat_h0, hat_bd, hG, hb0, hb1, hne, hbr, hil, h1, h2, h3, h4, h5, h6, h7, h8, h9, h10, h11, h12⟩ := hv
  have hK := hG.1
  have hx := B.exec
  have hb := B.bytes
  have hr := B.returns
  have hts := atoms_spec (ws := wsX2_accept) B.pre
  have hown : s.vm.findClass RX2 = some m.cls := findClass_of_methodNamed B.named
  have hlocks := B.notSynchronized
  have hin_4 : ∀ w ∈ u_ws RX2 TX2 12, w ∈ wsX2_accept := by decide +kernel
  obtain ⟨Q, hQ⟩ : ∃ Q, Q = MQ below (va_Qi (S := List Value × (Nat → Int32)) (fun r u => (r = 0 ∨ r = 1) ∧ ∃ len' kp' ms' br' pl' td' fl' sg' il' dg' vl' : Int32, ∃ fb' : Nat → Int32, u = ([.ref bd, .int len', .int kp', .int ms', .int br', .int pl', .int td', .int fl', .int sg', .int il', .int dg', .int vl'], fb') ∧ (br' = 0 ∨ br' = 1) ∧ (il' = 0 ∨ il' = 1) ∧ 0 ≤ fl'.toInt ∧ (fl'.toInt < td'.toInt ∨ fl'.toInt = 0) ∧ -1 ≤ td'.toInt ∧ td'.toInt ≤ 3000 ∧ 0 ≤ sg'.toInt ∧ sg'.toInt ≤ 1000 ∧ 0 ≤ kp'.toInt ∧ kp'.toInt ≤ 200 + fl'.toInt ∧ (br'.toInt = 0 → pl'.toInt = 1 → sg'.toInt ≤ kp'.toInt) ∧ (pl'.toInt ≠ 6 → fl'.toInt = 0) ∧ 0 ≤ vl'.toInt ∧ (br'.toInt = 0 → vl'.toInt ≤ 3000)) (fun u t => va_at (dC, dI) vwCl (h0, .inr (4, u.1)) t.heap ∧ va_at (dC, dI) vwCl (bd, .inl (ca 0, 3000, .inl u.2)) t.heap ∧ t.heap.size = H0.size ∧ (∀ q, ¬ (q = h0 ∨ q = bd) → t.heap[q]? = H0[q]?)) (jA base)) ([.ref h0, .int a1] : List Value).toArray s 0 0 (jA base) := ⟨_, rfl⟩
  rw [← hQ]
  have hl := lv_entry ([.ref h0, .int a1]) (n := 2) (Nat.le_of_ble_eq_true rfl)
  rw [lg_entry_eq]
  generalize (lg_sl ([.ref h0, .int a1]) ++ List.replicate (2 - (lg_sl ([.ref h0, .int a1])).length) Slot.unset).toArray = ls at hl ⊢
  have hl : lv_has ls 2 [(0, .ref h0), (1, .int a1)] := hl
  generalize hR : (headSpec wsX2_accept ({ frames := 7, cells := 0, slots := 0, locals := 280 })).room = R
  subst hH0
  have hS : va_S (jA base) s.heap s.heap [] := va_S.rf
  obtain ⟨H, eH⟩ : ∃ z, z = s.heap := ⟨_, rfl⟩
  obtain ⟨locs, elocs⟩ : ∃ z : List Loc, z = [] := ⟨_, rfl⟩
  have hsz : H.size = s.heap.size := by rw [eH]
  have hfr : ∀ q, ¬ (fun q => q = h0 ∨ q = bd) q → H[q]? = s.heap[q]? := fun _ _ => by rw [eH]
  have hS : va_S (jA base) s.heap H locs := by rw [eH, elocs]; exact va_S.rf
  rw [← eH] at hat_h0
  rw [← eH] at hat_bd
  rw [← elocs]
  conv => arg 11; rw [← eH]
  have hkm1 : ((-1) : Int32).toInt = (-1) := by decide
  have hk0 : (0 : Int32).toInt = 0 := by decide
  have hk1 : (1 : Int32).toInt = 1 := by decide
  have hk6 : (6 : Int32).toInt = 6 := by decide
  have hk200 : (200 : Int32).toInt = 200 := by decide
  have hbr' := jb_01 hbr
  have hn0 : ((-1) : Int32).toInt = -1 := by decide
  refine lv_aload_n hx hb dX2_accept_0 rfl (lv_at hl 0 rfl) ?_
  refine va_get (D := (dC, dI)) (ci := 4) (v := .int br) (C := RX2) (T := TX2) (N := 12) hx hb hts hin_4 hown hK (jp_one hat_h0) 0 rfl rfl 4 (by decide) (hts (.fieldLink RX2 22 "ProofServer$Frames" "broken" "Z") (by decide +kernel)) (fun _ h9 => h9) rfl dX2_accept_1 ?_
  refine lv_if_eq (tgt := 9) hx hb dX2_accept_4 (by decide) (fun c_1 => ?_) (fun c_1 => ?_)
  · skip
    have c_1' : br.toInt = 0 := jb_eq (rfl) ((by decide)) c_1
    refine lv_aload_n hx hb dX2_accept_9 rfl (lv_at hl 0 rfl) ?_
    refine va_get (D := (dC, dI)) (ci := 4) (v := .int pl) (C := RX2) (T := TX2) (N := 12) hx hb hts hin_4 hown hK (jp_one hat_h0) 0 rfl rfl 5 (by decide) (hts (.fieldLink RX2 15 "ProofServer$Frames" "place" "I") (by decide +kernel)) (fun _ h9 => h9) rfl dX2_accept_10 ?_
    refine lv_bipush (v := 6) hx hb dX2_accept_13 (by decide) ?_
    refine lv_icmp_ne (tgt := 54) hx hb dX2_accept_15 (by decide) (fun c_2 => ?_) (fun c_2 => ?_)
    · skip
      have c_2' : pl.toInt ≠ 6 := jb_ne (rfl) ((by decide)) c_2
      refine lv_aload_n hx hb dX2_accept_54 rfl (lv_at hl 0 rfl) ?_
      refine va_get (D := (dC, dI)) (ci := 4) (v := .int kp) (C := RX2) (T := TX2) (N := 12) hx hb hts hin_4 hown hK (jp_one hat_h0) 0 rfl rfl 2 (by decide) (hts (.fieldLink RX2 29 "ProofServer$Frames" "kept" "I") (by decide +kernel)) (fun _ h9 => h9) rfl dX2_accept_55 ?_
      refine lv_sipush (v := 200) hx hb dX2_accept_58 (by decide) ?_
      refine lv_icmp_ge (tgt := 72) hx hb dX2_accept_61 (by decide) (fun c_3 => ?_) (fun c_3 => ?_)
      · skip
        have c_3' : kp.toInt ≥ 200 := jb_ge (rfl) ((by decide)) c_3
        refine lv_aload_n hx hb dX2_accept_72 rfl (lv_at hl 0 rfl) ?_
        refine lv_iconst (v := 1) hx hb dX2_accept_73 (by decide) ?_
        refine j_put (D := (dC, dI)) (ci := 4) (v := .int 1) (ty := .boolean) (C := RX2) (T := TX2) (N := 12) (A := jA base) hx hb hts hin_4 tyX2 tyX2_ok nmX2 hown hK hat_h0 hb0 hS.2.2 rfl 4 (by decide) (hts (.fieldLink RX2 22 "ProofServer$Frames" "broken" "Z") (by decide +kernel)) (fun _ h9 => h9) rfl (by decide +kernel) (jb_nz (Or.inr rfl)) (jb_fz (Or.inr rfl)) (Nat.le_of_ble_eq_true rfl) dX2_accept_74 (fun H1 locs1 hat1 hsz1 hfr1 hT1 hL1 => ?_)
        have hat_bd := hat_bd.kept (hfr1 _ hne.symm)
        have hfr2 : ∀ q, ¬ (fun q => q = h0 ∨ q = bd) q → H1[q]? = s.heap[q]? := fun q hq => (hfr1 q (fun h => hq (Or.inl h))).trans (hfr q hq)
        have hsz2 : H1.size = s.heap.size := hsz1.trans hsz
        have hS2 := jS_put hS hsz1 hfr1 hb0 hL1
        try clear hT1
        clear hfr hsz hfr1 hsz1 hL1 hS hat_h0
        have hfr := hfr2
        have hsz := hsz2
        have hS := hS2
        clear hfr2 hsz2 hS2
        generalize locs1 = locs at hS ⊢
        generalize H1 = H at hfr hsz hS hat1 hat_bd ⊢
        have hat_h0 : va_at (dC, dI) vwCl (h0, .inr (4, [.ref bd, .int len, .int kp, .int ms, .int 1, .int pl, .int td, .int fl, .int sg, .int il, .int dg, .int vl])) H := hat1
        refine lv_iconst (v := 0) hx hb dX2_accept_77 (by decide) ?_
        rw [hQ]
        exact W.zret (v := 0) hx hb hr (jb_nz (Or.inl rfl)) (fun t ht hW => ⟨⟨0, ([.ref bd, .int len, .int kp, .int ms, .int 1, .int pl, .int td, .int fl, .int sg, .int il, .int dg, .int vl], fb), rfl, ⟨by first | exact Or.inl rfl | exact Or.inr rfl | assumption, len, kp, ms, 1, pl, td, fl, sg, il, dg, vl, fb, rfl, (Or.inr rfl), (hil), by refine ⟨?_, ?_, ?_, ?_, ?_, ?_, ?_, ?_, ?_, ?_, ?_, ?_⟩ <;> omega⟩, by rw [ht]; exact hat_h0, by rw [ht]; exact hat_bd, by rw [ht]; exact hsz, fun q hq => by rw [ht]; exact hfr q hq⟩, by rw [ht, hsz]; exact Nat.le_refl _, fun q _ hq => by rw [ht]; exact hfr q (fun h => hq (h.elim (fun h => by rw [h]; exact hb0) (fun h => by rw [h]; exact hb1)))⟩) hS.2.2 dX2_accept_78
      · skip
        have c_3' : kp.toInt < 200 := jb_ge_n (rfl) ((by decide)) c_3
        refine lv_aload_n hx hb dX2_accept_64 rfl (lv_at hl 0 rfl) ?_
        refine lv_iload_n hx hb dX2_accept_65 rfl (lv_at hl 1 rfl) ?_
        refine va_calli (A0 := jA base) (H0 := s.heap) (va_runV (As := [.int a1]) (rest := []) ⟨hx, hb, hml, hown, hts⟩ (kX2_isHeader l dC dI ca base H h0 bd len kp ms br pl td fl sg il dg vl a1) (cwV 1 hts gX2_accept_X2_isHeader rfl rfl rfl (by decide +kernel) ⟨by rw [← hR]; exact Nat.le_of_ble_eq_true rfl, by rw [← hR]; exact Nat.le_of_ble_eq_true rfl⟩) ⟨fun a U g mk q => by obtain ⟨q0, q1, q2, qK, q9⟩ := q; exact ⟨q0, q1, q2, jG.calling g mk a qK, q9⟩, va_recv hK (jp_one hat_h0) (ci := 4) (q0 := 0) rfl rfl, fun U hU hW => ⟨rfl, hU, hat_h0, hG.step hW hU hS, ⟨hb0, (hbr), (hil), by first | trivial | omega | (constructor <;> omega) | (refine ⟨?_, ?_, ?_⟩ <;> omega)⟩⟩⟩ rfl rfl hl.1 rfl (lv_room (Nat.le_of_ble_eq_true rfl)) dX2_accept_66 ⟨Nat.zero_le _, Nat.zero_le _⟩) hS (fun q _ h => h) (fun q h => h) (fun r_4 u t H1 locs1 ht hvm hw hB hz1 hk1 hS1 => ?_)
        obtain ⟨hr_4, len_5, kp_5, ms_5, br_5, pl_5, td_5, fl_5, sg_5, il_5, dg_5, vl_5, rfl, el_5, ek_5, em_5, eb_5, ef_5, hil_5, hq_5⟩ := hw
        obtain ⟨hat1, hsz1, hfr1⟩ := hB
        rw [ht] at hat1 hsz1
        have hfr1 : ∀ q, q ≠ h0 → H1[q]? = H[q]? := fun q hq => by rw [← ht]; exact hfr1 q hq
        have hL1 : ∀ q ∈ locs1, base ≤ q.base := hS1.2.2
        subst el_5 ek_5 em_5 eb_5 ef_5
        clear hS1 hk1 hz1 ht hvm
        have hat_bd := hat_bd.kept (hfr1 _ hne.symm)
        have hfr2 : ∀ q, ¬ (fun q => q = h0 ∨ q = bd) q → H1[q]? = s.heap[q]? := fun q hq => (hfr1 q (fun h => hq (Or.inl h))).trans (hfr q hq)
        have hsz2 : H1.size = s.heap.size := hsz1.trans hsz
        have hS2 := jS_put hS hsz1 hfr1 hb0 hL1
        try clear hT1
        clear hfr hsz hfr1 hsz1 hL1 hS hat_h0
        have hfr := hfr2
        have hsz := hsz2
        have hS := hS2
        clear hfr2 hsz2 hS2
        generalize locs1 = locs at hS ⊢
        generalize H1 = H at hfr hsz hS hat1 hat_bd ⊢
        have hat_h0 : va_at (dC, dI) vwCl (h0, .inr (4, [.ref bd, .int len, .int kp, .int ms, .int br, .int pl_5, .int td_5, .int fl, .int sg_5, .int il_5, .int dg_5, .int vl_5])) H := hat1
        have hr_4' := jb_01 hr_4
        refine lv_if_ne (tgt := 79) hx hb dX2_accept_69 (by decide) (fun c_6 => ?_) (fun c_6 => ?_)
        · skip
          have c_6' : r_4.toInt ≠ 0 := jb_ne (rfl) ((by decide)) c_6
          refine lv_aload_n hx hb dX2_accept_79 rfl (lv_at hl 0 rfl) ?_
          refine lv_dup hx hb dX2_accept_80 rfl ?_
          refine va_get (D := (dC, dI)) (ci := 4) (v := .int kp) (C := RX2) (T := TX2) (N := 12) hx hb hts hin_4 hown hK (jp_one hat_h0) 0 rfl rfl 2 (by decide) (hts (.fieldLink RX2 29 "ProofServer$Frames" "kept" "I") (by decide +kernel)) (fun _ h9 => h9) rfl dX2_accept_81 ?_
          refine lv_iconst (v := 1) hx hb dX2_accept_84 (by decide) ?_
          refine lv_iadd hx hb dX2_accept_85 ?_
          refine lv_topi (fun z_7 ez_7 => ?_)
          have hz_7 : z_7.toInt = kp.toInt + 1 := by rw [ez_7]; exact jb_iadd (rfl) ((by decide)) (by omega) (by omega)
          refine j_put (D := (dC, dI)) (ci := 4) (v := .int z_7) (ty := .int) (C := RX2) (T := TX2) (N := 12) (A := jA base) hx hb hts hin_4 tyX2 tyX2_ok nmX2 hown hK hat_h0 hb0 hS.2.2 rfl 2 (by decide) (hts (.fieldLink RX2 29 "ProofServer$Frames" "kept" "I") (by decide +kernel)) (fun _ h9 => h9) rfl (by decide +kernel) rfl rfl (Nat.le_of_ble_eq_true rfl) dX2_accept_86 (fun H1 locs1 hat1 hsz1 hfr1 hT1 hL1 => ?_)
          have hat_bd := hat_bd.kept (hfr1 _ hne.symm)
          have hfr2 : ∀ q, ¬ (fun q => q = h0 ∨ q = bd) q → H1[q]? = s.heap[q]? := fun q hq => (hfr1 q (fun h => hq (Or.inl h))).trans (hfr q hq)
          have hsz2 : H1.size = s.heap.size := hsz1.trans hsz
          have hS2 := jS_put hS hsz1 hfr1 hb0 hL1
          try clear hT1
          clear hfr hsz hfr1 hsz1 hL1 hS hat_h0
          have hfr := hfr2
          have hsz := hsz2
          have hS := hS2
          clear hfr2 hsz2 hS2
          generalize locs1 = locs at hS ⊢
          generalize H1 = H at hfr hsz hS hat1 hat_bd ⊢
          have hat_h0 : va_at (dC, dI) vwCl (h0, .inr (4, [.ref bd, .int len, .int z_7, .int ms, .int br, .int pl_5, .int td_5, .int fl, .int sg_5, .int il_5, .int dg_5, .int vl_5])) H := hat1
          refine lv_aload_n hx hb dX2_accept_89 rfl (lv_at hl 0 rfl) ?_
          refine va_get (D := (dC, dI)) (ci := 4) (v := .int pl_5) (C := RX2) (T := TX2) (N := 12) hx hb hts hin_4 hown hK (jp_one hat_h0) 0 rfl rfl 5 (by decide) (hts (.fieldLink RX2 15 "ProofServer$Frames" "place" "I") (by decide +kernel)) (fun _ h9 => h9) rfl dX2_accept_90 ?_
          refine lv_bipush (v := 6) hx hb dX2_accept_93 (by decide) ?_
          refine lv_icmp_ne (tgt := 109) hx hb dX2_accept_95 (by decide) (fun c_8 => ?_) (fun c_8 => ?_)
          · skip
            have c_8' : pl_5.toInt ≠ 6 := jb_ne (rfl) ((by decide)) c_8
            refine lv_iconst (v := 0) hx hb dX2_accept_109 (by decide) ?_
            rw [hQ]
            exact W.zret (v := 0) hx hb hr (jb_nz (Or.inl rfl)) (fun t ht hW => ⟨⟨0, ([.ref bd, .int len, .int z_7, .int ms, .int br, .int pl_5, .int td_5, .int fl, .int sg_5, .int il_5, .int dg_5, .int vl_5], fb), rfl, ⟨by first | exact Or.inl rfl | exact Or.inr rfl | assumption, len, z_7, ms, br, pl_5, td_5, fl, sg_5, il_5, dg_5, vl_5, fb, rfl, (hbr), (hil_5), by refine ⟨?_, ?_, ?_, ?_, ?_, ?_, ?_, ?_, ?_, ?_, ?_, ?_⟩ <;> omega⟩, by rw [ht]; exact hat_h0, by rw [ht]; exact hat_bd, by rw [ht]; exact hsz, fun q hq => by rw [ht]; exact hfr q hq⟩, by rw [ht, hsz]; exact Nat.le_refl _, fun q _ hq => by rw [ht]; exact hfr q (fun h => hq (h.elim (fun h => by rw [h]; exact hb0) (fun h => by rw [h]; exact hb1)))⟩) hS.2.2 dX2_accept_110
          · skip
            have c_8' : pl_5.toInt = 6 := jb_ne_n (rfl) ((by decide)) c_8
            refine lv_aload_n hx hb dX2_accept_98 rfl (lv_at hl 0 rfl) ?_
            refine va_get (D := (dC, dI)) (ci := 4) (v := .int fl) (C := RX2) (T := TX2) (N := 12) hx hb hts hin_4 hown hK (jp_one hat_h0) 0 rfl rfl 7 (by decide) (hts (.fieldLink RX2 26 "ProofServer$Frames" "filled" "I") (by decide +kernel)) (fun _ h9 => h9) rfl dX2_accept_99 ?_
            refine lv_aload_n hx hb dX2_accept_102 rfl (lv_at hl 0 rfl) ?_
            refine va_get (D := (dC, dI)) (ci := 4) (v := .int td_5) (C := RX2) (T := TX2) (N := 12) hx hb hts hin_4 hown hK (jp_one hat_h0) 0 rfl rfl 6 (by decide) (hts (.fieldLink RX2 19 "ProofServer$Frames" "told" "I") (by decide +kernel)) (fun _ h9 => h9) rfl dX2_accept_103 ?_
            refine lv_icmp_ge (tgt := 111) hx hb dX2_accept_106 (by decide) (fun c_9 => ?_) (fun c_9 => ?_)
            · skip
              have c_9' : fl.toInt ≥ td_5.toInt := jb_ge (rfl) (rfl) c_9
              refine lv_aload_n hx hb dX2_accept_111 rfl (lv_at hl 0 rfl) ?_
              refine lv_aload_n hx hb dX2_accept_112 rfl (lv_at hl 0 rfl) ?_
              refine va_get (D := (dC, dI)) (ci := 4) (v := .int td_5) (C := RX2) (T := TX2) (N := 12) hx hb hts hin_4 hown hK (jp_one hat_h0) 0 rfl rfl 6 (by decide) (hts (.fieldLink RX2 19 "ProofServer$Frames" "told" "I") (by decide +kernel)) (fun _ h9 => h9) rfl dX2_accept_113 ?_
              refine j_put (D := (dC, dI)) (ci := 4) (v := .int td_5) (ty := .int) (C := RX2) (T := TX2) (N := 12) (A := jA base) hx hb hts hin_4 tyX2 tyX2_ok nmX2 hown hK hat_h0 hb0 hS.2.2 rfl 1 (by decide) (hts (.fieldLink RX2 36 "ProofServer$Frames" "length" "I") (by decide +kernel)) (fun _ h9 => h9) rfl (by decide +kernel) rfl rfl (Nat.le_of_ble_eq_true rfl) dX2_accept_116 (fun H1 locs1 hat1 hsz1 hfr1 hT1 hL1 => ?_)
              have hat_bd := hat_bd.kept (hfr1 _ hne.symm)
              have hfr2 : ∀ q, ¬ (fun q => q = h0 ∨ q = bd) q → H1[q]? = s.heap[q]? := fun q hq => (hfr1 q (fun h => hq (Or.inl h))).trans (hfr q hq)
              have hsz2 : H1.size = s.heap.size := hsz1.trans hsz
              have hS2 := jS_put hS hsz1 hfr1 hb0 hL1
              try clear hT1
              clear hfr hsz hfr1 hsz1 hL1 hS hat_h0
              have hfr := hfr2
              have hsz := hsz2
              have hS := hS2
              clear hfr2 hsz2 hS2
              generalize locs1 = locs at hS ⊢
              generalize H1 = H at hfr hsz hS hat1 hat_bd ⊢
              have hat_h0 : va_at (dC, dI) vwCl (h0, .inr (4, [.ref bd, .int td_5, .int z_7, .int ms, .int br, .int pl_5, .int td_5, .int fl, .int sg_5, .int il_5, .int dg_5, .int vl_5])) H := hat1
              refine lv_aload_n hx hb dX2_accept_119 rfl (lv_at hl 0 rfl) ?_
              refine lv_iconst (v := (-1)) hx hb dX2_accept_120 (by decide) ?_
              refine j_put (D := (dC, dI)) (ci := 4) (v := .int (-1)) (ty := .int) (C := RX2) (T := TX2) (N := 12) (A := jA base) hx hb hts hin_4 tyX2 tyX2_ok nmX2 hown hK hat_h0 hb0 hS.2.2 rfl 6 (by decide) (hts (.fieldLink RX2 19 "ProofServer$Frames" "told" "I") (by decide +kernel)) (fun _ h9 => h9) rfl (by decide +kernel) rfl rfl (Nat.le_of_ble_eq_true rfl) dX2_accept_121 (fun H1 locs1 hat1 hsz1 hfr1 hT1 hL1 => ?_)
              have hat_bd := hat_bd.kept (hfr1 _ hne.symm)
              have hfr2 : ∀ q, ¬ (fun q => q = h0 ∨ q = bd) q → H1[q]? = s.heap[q]? := fun q hq => (hfr1 q (fun h => hq (Or.inl h))).trans (hfr q hq)
              have hsz2 : H1.size = s.heap.size := hsz1.trans hsz
              have hS2 := jS_put hS hsz1 hfr1 hb0 hL1
              try clear hT1
              clear hfr hsz hfr1 hsz1 hL1 hS hat_h0
              have hfr := hfr2
              have hsz := hsz2
              have hS := hS2
              clear hfr2 hsz2 hS2
              generalize locs1 = locs at hS ⊢
              generalize H1 = H at hfr hsz hS hat1 hat_bd ⊢
              have hat_h0 : va_at (dC, dI) vwCl (h0, .inr (4, [.ref bd, .int td_5, .int z_7, .int ms, .int br, .int pl_5, .int (-1), .int fl, .int sg_5, .int il_5, .int dg_5, .int vl_5])) H := hat1
              refine lv_aload_n hx hb dX2_accept_124 rfl (lv_at hl 0 rfl) ?_
              refine lv_iconst (v := 0) hx hb dX2_accept_125 (by decide) ?_
              refine j_put (D := (dC, dI)) (ci := 4) (v := .int 0) (ty := .int) (C := RX2) (T := TX2) (N := 12) (A := jA base) hx hb hts hin_4 tyX2 tyX2_ok nmX2 hown hK hat_h0 hb0 hS.2.2 rfl 7 (by decide) (hts (.fieldLink RX2 26 "ProofServer$Frames" "filled" "I") (by decide +kernel)) (fun _ h9 => h9) rfl (by decide +kernel) rfl rfl (Nat.le_of_ble_eq_true rfl) dX2_accept_126 (fun H1 locs1 hat1 hsz1 hfr1 hT1 hL1 => ?_)
              have hat_bd := hat_bd.kept (hfr1 _ hne.symm)
              have hfr2 : ∀ q, ¬ (fun q => q = h0 ∨ q = bd) q → H1[q]? = s.heap[q]? := fun q hq => (hfr1 q (fun h => hq (Or.inl h))).trans (hfr q hq)
              have hsz2 : H1.size = s.heap.size := hsz1.trans hsz
              have hS2 := jS_put hS hsz1 hfr1 hb0 hL1
              try clear hT1
              clear hfr hsz hfr1 hsz1 hL1 hS hat_h0
              have hfr := hfr2
              have hsz := hsz2
              have hS := hS2
              clear hfr2 hsz2 hS2
              generalize locs1 = locs at hS ⊢
              generalize H1 = H at hfr hsz hS hat1 hat_bd ⊢
              have hat_h0 : va_at (dC, dI) vwCl (h0, .inr (4, [.ref bd, .int td_5, .int z_7, .int ms, .int br, .int pl_5, .int (-1), .int 0, .int sg_5, .int il_5, .int dg_5, .int vl_5])) H := hat1
              refine lv_aload_n hx hb dX2_accept_129 rfl (lv_at hl 0 rfl) ?_
              refine lv_iconst (v := 0) hx hb dX2_accept_130 (by decide) ?_
              refine j_put (D := (dC, dI)) (ci := 4) (v := .int 0) (ty := .int) (C := RX2) (T := TX2) (N := 12) (A := jA base) hx hb hts hin_4 tyX2 tyX2_ok nmX2 hown hK hat_h0 hb0 hS.2.2 rfl 2 (by decide) (hts (.fieldLink RX2 29 "ProofServer$Frames" "kept" "I") (by decide +kernel)) (fun _ h9 => h9) rfl (by decide +kernel) rfl rfl (Nat.le_of_ble_eq_true rfl) dX2_accept_131 (fun H1 locs1 hat1 hsz1 hfr1 hT1 hL1 => ?_)
              have hat_bd := hat_bd.kept (hfr1 _ hne.symm)
              have hfr2 : ∀ q, ¬ (fun q => q = h0 ∨ q = bd) q → H1[q]? = s.heap[q]? := fun q hq => (hfr1 q (fun h => hq (Or.inl h))).trans (hfr q hq)
              have hsz2 : H1.size = s.heap.size := hsz1.trans hsz
              have hS2 := jS_put hS hsz1 hfr1 hb0 hL1
              try clear hT1
              clear hfr hsz hfr1 hsz1 hL1 hS hat_h0
              have hfr := hfr2
              have hsz := hsz2
              have hS := hS2
              clear hfr2 hsz2 hS2
              generalize locs1 = locs at hS ⊢
              generalize H1 = H at hfr hsz hS hat1 hat_bd ⊢
              have hat_h0 : va_at (dC, dI) vwCl (h0, .inr (4, [.ref bd, .int td_5, .int 0, .int ms, .int br, .int pl_5, .int (-1), .int 0, .int sg_5, .int il_5, .int dg_5, .int vl_5])) H := hat1
              refine lv_aload_n hx hb dX2_accept_134 rfl (lv_at hl 0 rfl) ?_
              refine lv_iconst (v := 0) hx hb dX2_accept_135 (by decide) ?_
              refine j_put (D := (dC, dI)) (ci := 4) (v := .int 0) (ty := .int) (C := RX2) (T := TX2) (N := 12) (A := jA base) hx hb hts hin_4 tyX2 tyX2_ok nmX2 hown hK hat_h0 hb0 hS.2.2 rfl 5 (by decide) (hts (.fieldLink RX2 15 "ProofServer$Frames" "place" "I") (by decide +kernel)) (fun _ h9 => h9) rfl (by decide +kernel) rfl rfl (Nat.le_of_ble_eq_true rfl) dX2_accept_136 (fun H1 locs1 hat1 hsz1 hfr1 hT1 hL1 => ?_)
              have hat_bd := hat_bd.kept (hfr1 _ hne.symm)
              have hfr2 : ∀ q, ¬ (fun q => q = h0 ∨ q = bd) q → H1[q]? = s.heap[q]? := fun q hq => (hfr1 q (fun h => hq (Or.inl h))).trans (hfr q hq)
              have hsz2 : H1.size = s.heap.size := hsz1.trans hsz
              have hS2 := jS_put hS hsz1 hfr1 hb0 hL1
              try clear hT1
              clear hfr hsz hfr1 hsz1 hL1 hS hat_h0
              have hfr := hfr2
              have hsz := hsz2
              have hS := hS2
              clear hfr2 hsz2 hS2
              generalize locs1 = locs at hS ⊢
              generalize H1 = H at hfr hsz hS hat1 hat_bd ⊢
              have hat_h0 : va_at (dC, dI) vwCl (h0, .inr (4, [.ref bd, .int td_5, .int 0, .int ms, .int br, .int 0, .int (-1), .int 0, .int sg_5, .int il_5, .int dg_5, .int vl_5])) H := hat1
              refine lv_aload_n hx hb dX2_accept_139 rfl (lv_at hl 0 rfl) ?_
              refine lv_dup hx hb dX2_accept_140 rfl ?_
              refine va_get (D := (dC, dI)) (ci := 4) (v := .int ms) (C := RX2) (T := TX2) (N := 12) hx hb hts hin_4 hown hK (jp_one hat_h0) 0 rfl rfl 3 (by decide) (hts (.fieldLink RX2 39 "ProofServer$Frames" "messages" "I") (by decide +kernel)) (fun _ h9 => h9) rfl dX2_accept_141 ?_
              refine lv_iconst (v := 1) hx hb dX2_accept_144 (by decide) ?_
              refine lv_iadd hx hb dX2_accept_145 ?_
              refine lv_topi (fun z_10 ez_10 => ?_)
              refine j_put (D := (dC, dI)) (ci := 4) (v := .int z_10) (ty := .int) (C := RX2) (T := TX2) (N := 12) (A := jA base) hx hb hts hin_4 tyX2 tyX2_ok nmX2 hown hK hat_h0 hb0 hS.2.2 rfl 3 (by decide) (hts (.fieldLink RX2 39 "ProofServer$Frames" "messages" "I") (by decide +kernel)) (fun _ h9 => h9) rfl (by decide +kernel) rfl rfl (Nat.le_of_ble_eq_true rfl) dX2_accept_146 (fun H1 locs1 hat1 hsz1 hfr1 hT1 hL1 => ?_)
              have hat_bd := hat_bd.kept (hfr1 _ hne.symm)
              have hfr2 : ∀ q, ¬ (fun q => q = h0 ∨ q = bd) q → H1[q]? = s.heap[q]? := fun q hq => (hfr1 q (fun h => hq (Or.inl h))).trans (hfr q hq)
              have hsz2 : H1.size = s.heap.size := hsz1.trans hsz
              have hS2 := jS_put hS hsz1 hfr1 hb0 hL1
              try clear hT1
              clear hfr hsz hfr1 hsz1 hL1 hS hat_h0
              have hfr := hfr2
              have hsz := hsz2
              have hS := hS2
              clear hfr2 hsz2 hS2
              generalize locs1 = locs at hS ⊢
              generalize H1 = H at hfr hsz hS hat1 hat_bd ⊢
              have hat_h0 : va_at (dC, dI) vwCl (h0, .inr (4, [.ref bd, .int td_5, .int 0, .int z_10, .int br, .int 0, .int (-1), .int 0, .int sg_5, .int il_5, .int dg_5, .int vl_5])) H := hat1
              refine lv_iconst (v := 1) hx hb dX2_accept_149 (by decide) ?_
              rw [hQ]
              exact W.zret (v := 1) hx hb hr (jb_nz (Or.inr rfl)) (fun t ht hW => ⟨⟨1, ([.ref bd, .int td_5, .int 0, .int z_10, .int br, .int 0, .int (-1), .int 0, .int sg_5, .int il_5, .int dg_5, .int vl_5], fb), rfl, ⟨by first | exact Or.inl rfl | exact Or.inr rfl | assumption, td_5, 0, z_10, br, 0, (-1), 0, sg_5, il_5, dg_5, vl_5, fb, rfl, (hbr), (hil_5), by refine ⟨?_, ?_, ?_, ?_, ?_, ?_, ?_, ?_, ?_, ?_, ?_, ?_⟩ <;> omega⟩, by rw [ht]; exact hat_h0, by rw [ht]; exact hat_bd, by rw [ht]; exact hsz, fun q hq => by rw [ht]; exact hfr q hq⟩, by rw [ht, hsz]; exact Nat.le_refl _, fun q _ hq => by rw [ht]; exact hfr q (fun h => hq (h.elim (fun h => by rw [h]; exact hb0) (fun h => by rw [h]; exact hb1)))⟩) hS.2.2 dX2_accept_150
            · skip
              have c_9' : fl.toInt < td_5.toInt := jb_ge_n (rfl) (rfl) c_9
              refine lv_iconst (v := 0) hx hb dX2_accept_109 (by decide) ?_
              rw [hQ]
              exact W.zret (v := 0) hx hb hr (jb_nz (Or.inl rfl)) (fun t ht hW => ⟨⟨0, ([.ref bd, .int len, .int z_7, .int ms, .int br, .int pl_5, .int td_5, .int fl, .int sg_5, .int il_5, .int dg_5, .int vl_5], fb), rfl, ⟨by first | exact Or.inl rfl | exact Or.inr rfl | assumption, len, z_7, ms, br, pl_5, td_5, fl, sg_5, il_5, dg_5, vl_5, fb, rfl, (hbr), (hil_5), by refine ⟨?_, ?_, ?_, ?_, ?_, ?_, ?_, ?_, ?_, ?_, ?_, ?_⟩ <;> omega⟩, by rw [ht]; exact hat_h0, by rw [ht]; exact hat_bd, by rw [ht]; exact hsz, fun q hq => by rw [ht]; exact hfr q hq⟩, by rw [ht, hsz]; exact Nat.le_refl _, fun q _ hq => by rw [ht]; exact hfr q (fun h => hq (h.elim (fun h => by rw [h]; exact hb0) (fun h => by rw [h]; exact hb1)))⟩) hS.2.2 dX2_accept_110
        · skip
          have c_6' : r_4.toInt = 0 := jb_ne_n (rfl) ((by decide)) c_6
          refine lv_aload_n hx hb dX2_accept_72 rfl (lv_at hl 0 rfl) ?_
          refine lv_iconst (v := 1) hx hb dX2_accept_73 (by decide) ?_
          refine j_put (D := (dC, dI)) (ci := 4) (v := .int 1) (ty := .boolean) (C := RX2) (T := TX2) (N := 12) (A := jA base) hx hb hts hin_4 tyX2 tyX2_ok nmX2 hown hK hat_h0 hb0 hS.2.2 rfl 4 (by decide) (hts (.fieldLink RX2 22 "ProofServer$Frames" "broken" "Z") (by decide +kernel)) (fun _ h9 => h9) rfl (by decide +kernel) (jb_nz (Or.inr rfl)) (jb_fz (Or.inr rfl)) (Nat.le_of_ble_eq_true rfl) dX2_accept_74 (fun H1 locs1 hat1 hsz1 hfr1 hT1 hL1 => ?_)
          have hat_bd := hat_bd.kept (hfr1 _ hne.symm)
          have hfr2 : ∀ q, ¬ (fun q => q = h0 ∨ q = bd) q → H1[q]? = s.heap[q]? := fun q hq => (hfr1 q (fun h => hq (Or.inl h))).trans (hfr q hq)
          have hsz2 : H1.size = s.heap.size := hsz1.trans hsz
          have hS2 := jS_put hS hsz1 hfr1 hb0 hL1
          try clear hT1
          clear hfr hsz hfr1 hsz1 hL1 hS hat_h0
          have hfr := hfr2
          have hsz := hsz2
          have hS := hS2
          clear hfr2 hsz2 hS2
          generalize locs1 = locs at hS ⊢
          generalize H1 = H at hfr hsz hS hat1 hat_bd ⊢
          have hat_h0 : va_at (dC, dI) vwCl (h0, .inr (4, [.ref bd, .int len, .int kp, .int ms, .int 1, .int pl_5, .int td_5, .int fl, .int sg_5, .int il_5, .int dg_5, .int vl_5])) H := hat1
          refine lv_iconst (v := 0) hx hb dX2_accept_77 (by decide) ?_
          rw [hQ]
          exact W.zret (v := 0) hx hb hr (jb_nz (Or.inl rfl)) (fun t ht hW => ⟨⟨0, ([.ref bd, .int len, .int kp, .int ms, .int 1, .int pl_5, .int td_5, .int fl, .int sg_5, .int il_5, .int dg_5, .int vl_5], fb), rfl, ⟨by first | exact Or.inl rfl | exact Or.inr rfl | assumption, len, kp, ms, 1, pl_5, td_5, fl, sg_5, il_5, dg_5, vl_5, fb, rfl, (Or.inr rfl), (hil_5), by refine ⟨?_, ?_, ?_, ?_, ?_, ?_, ?_, ?_, ?_, ?_, ?_, ?_⟩ <;> omega⟩, by rw [ht]; exact hat_h0, by rw [ht]; exact hat_bd, by rw [ht]; exact hsz, fun q hq => by rw [ht]; exact hfr q hq⟩, by rw [ht, hsz]; exact Nat.le_refl _, fun q _ hq => by rw [ht]; exact hfr q (fun h => hq (h.elim (fun h => by rw [h]; exact hb0) (fun h => by rw [h]; exact hb1)))⟩) hS.2.2 dX2_accept_78
    · skip
      have c_2' : pl.toInt = 6 := jb_ne_n (rfl) ((by decide)) c_2
      refine lv_aload_n hx hb dX2_accept_18 rfl (lv_at hl 0 rfl) ?_
      refine va_get (D := (dC, dI)) (ci := 4) (v := .int fl) (C := RX2) (T := TX2) (N := 12) hx hb hts hin_4 hown hK (jp_one hat_h0) 0 rfl rfl 7 (by decide) (hts (.fieldLink RX2 26 "ProofServer$Frames" "filled" "I") (by decide +kernel)) (fun _ h9 => h9) rfl dX2_accept_19 ?_
      refine lv_aload_n hx hb dX2_accept_22 rfl (lv_at hl 0 rfl) ?_
      refine va_get (D := (dC, dI)) (ci := 4) (v := .ref bd) (C := RX2) (T := TX2) (N := 12) hx hb hts hin_4 hown hK (jp_one hat_h0) 0 rfl rfl 0 (by decide) (hts (.fieldLink RX2 9 "ProofServer$Frames" "body" "[B") (by decide +kernel)) (fun _ h9 => h9) rfl dX2_accept_23 ?_
      refine va_alen (v := Int32.ofNat 3000) hx hb hK (jp_one hat_bd) 0 0 rfl rfl rfl dX2_accept_26 ?_
      refine lv_topi (fun z_11 ez_11 => ?_)
      have hz_11 : z_11.toInt = 3000 := by rw [ez_11]; exact jb_nat (by omega)
      refine lv_icmp_ge (tgt := 41) hx hb dX2_accept_27 (by decide) (fun c_12 => ?_) (fun c_12 => ?_)
      · skip
        have c_12' : fl.toInt ≥ z_11.toInt := jb_ge (rfl) (rfl) c_12
        refine lv_aload_n hx hb dX2_accept_41 rfl (lv_at hl 0 rfl) ?_
        refine lv_dup hx hb dX2_accept_42 rfl ?_
        refine va_get (D := (dC, dI)) (ci := 4) (v := .int fl) (C := RX2) (T := TX2) (N := 12) hx hb hts hin_4 hown hK (jp_one hat_h0) 0 rfl rfl 7 (by decide) (hts (.fieldLink RX2 26 "ProofServer$Frames" "filled" "I") (by decide +kernel)) (fun _ h9 => h9) rfl dX2_accept_43 ?_
        refine lv_iconst (v := 1) hx hb dX2_accept_46 (by decide) ?_
        refine lv_iadd hx hb dX2_accept_47 ?_
        refine lv_topi (fun z_13 ez_13 => ?_)
        have hz_13 : z_13.toInt = fl.toInt + 1 := by rw [ez_13]; exact jb_iadd (rfl) ((by decide)) (by omega) (by omega)
        refine j_put (D := (dC, dI)) (ci := 4) (v := .int z_13) (ty := .int) (C := RX2) (T := TX2) (N := 12) (A := jA base) hx hb hts hin_4 tyX2 tyX2_ok nmX2 hown hK hat_h0 hb0 hS.2.2 rfl 7 (by decide) (hts (.fieldLink RX2 26 "ProofServer$Frames" "filled" "I") (by decide +kernel)) (fun _ h9 => h9) rfl (by decide +kernel) rfl rfl (Nat.le_of_ble_eq_true rfl) dX2_accept_48 (fun H1 locs1 hat1 hsz1 hfr1 hT1 hL1 => ?_)
        have hat_bd := hat_bd.kept (hfr1 _ hne.symm)
        have hfr2 : ∀ q, ¬ (fun q => q = h0 ∨ q = bd) q → H1[q]? = s.heap[q]? := fun q hq => (hfr1 q (fun h => hq (Or.inl h))).trans (hfr q hq)
        have hsz2 : H1.size = s.heap.size := hsz1.trans hsz
        have hS2 := jS_put hS hsz1 hfr1 hb0 hL1
        try clear hT1
        clear hfr hsz hfr1 hsz1 hL1 hS hat_h0
        have hfr := hfr2
        have hsz := hsz2
        have hS := hS2
        clear hfr2 hsz2 hS2
        generalize locs1 = locs at hS ⊢
        generalize H1 = H at hfr hsz hS hat1 hat_bd ⊢
        have hat_h0 : va_at (dC, dI) vwCl (h0, .inr (4, [.ref bd, .int len, .int kp, .int ms, .int br, .int pl, .int td, .int z_13, .int sg, .int il, .int dg, .int vl])) H := hat1
        refine lv_goto (tgt := 79) hx hb dX2_accept_51 (by decide) ?_
        refine lv_aload_n hx hb dX2_accept_79 rfl (lv_at hl 0 rfl) ?_
        refine lv_dup hx hb dX2_accept_80 rfl ?_
        refine va_get (D := (dC, dI)) (ci := 4) (v := .int kp) (C := RX2) (T := TX2) (N := 12) hx hb hts hin_4 hown hK (jp_one hat_h0) 0 rfl rfl 2 (by decide) (hts (.fieldLink RX2 29 "ProofServer$Frames" "kept" "I") (by decide +kernel)) (fun _ h9 => h9) rfl dX2_accept_81 ?_
        refine lv_iconst (v := 1) hx hb dX2_accept_84 (by decide) ?_
        refine lv_iadd hx hb dX2_accept_85 ?_
        refine lv_topi (fun z_14 ez_14 => ?_)
        have hz_14 : z_14.toInt = kp.toInt + 1 := by rw [ez_14]; exact jb_iadd (rfl) ((by decide)) (by omega) (by omega)
        refine j_put (D := (dC, dI)) (ci := 4) (v := .int z_14) (ty := .int) (C := RX2) (T := TX2) (N := 12) (A := jA base) hx hb hts hin_4 tyX2 tyX2_ok nmX2 hown hK hat_h0 hb0 hS.2.2 rfl 2 (by decide) (hts (.fieldLink RX2 29 "ProofServer$Frames" "kept" "I") (by decide +kernel)) (fun _ h9 => h9) rfl (by decide +kernel) rfl rfl (Nat.le_of_ble_eq_true rfl) dX2_accept_86 (fun H1 locs1 hat1 hsz1 hfr1 hT1 hL1 => ?_)
        have hat_bd := hat_bd.kept (hfr1 _ hne.symm)
        have hfr2 : ∀ q, ¬ (fun q => q = h0 ∨ q = bd) q → H1[q]? = s.heap[q]? := fun q hq => (hfr1 q (fun h => hq (Or.inl h))).trans (hfr q hq)
        have hsz2 : H1.size = s.heap.size := hsz1.trans hsz
        have hS2 := jS_put hS hsz1 hfr1 hb0 hL1
        try clear hT1
        clear hfr hsz hfr1 hsz1 hL1 hS hat_h0
        have hfr := hfr2
        have hsz := hsz2
        have hS := hS2
        clear hfr2 hsz2 hS2
        generalize locs1 = locs at hS ⊢
        generalize H1 = H at hfr hsz hS hat1 hat_bd ⊢
        have hat_h0 : va_at (dC, dI) vwCl (h0, .inr (4, [.ref bd, .int len, .int z_14, .int ms, .int br, .int pl, .int td, .int z_13, .int sg, .int il, .int dg, .int vl])) H := hat1
        refine lv_aload_n hx hb dX2_accept_89 rfl (lv_at hl 0 rfl) ?_
        refine va_get (D := (dC, dI)) (ci := 4) (v := .int pl) (C := RX2) (T := TX2) (N := 12) hx hb hts hin_4 hown hK (jp_one hat_h0) 0 rfl rfl 5 (by decide) (hts (.fieldLink RX2 15 "ProofServer$Frames" "place" "I") (by decide +kernel)) (fun _ h9 => h9) rfl dX2_accept_90 ?_
        refine lv_bipush (v := 6) hx hb dX2_accept_93 (by decide) ?_
        refine lv_icmp_ne (tgt := 109) hx hb dX2_accept_95 (by decide) (fun c_15 => ?_) (fun c_15 => ?_)
        · skip
          have c_15' : pl.toInt ≠ 6 := jb_ne (rfl) ((by decide)) c_15
          refine lv_iconst (v := 0) hx hb dX2_accept_109 (by decide) ?_
          rw [hQ]
          exact W.zret (v := 0) hx hb hr (jb_nz (Or.inl rfl)) (fun t ht hW => ⟨⟨0, ([.ref bd, .int len, .int z_14, .int ms, .int br, .int pl, .int td, .int z_13, .int sg, .int il, .int dg, .int vl], fb), rfl, ⟨by first | exact Or.inl rfl | exact Or.inr rfl | assumption, len, z_14, ms, br, pl, td, z_13, sg, il, dg, vl, fb, rfl, (hbr), (hil), by refine ⟨?_, ?_, ?_, ?_, ?_, ?_, ?_, ?_, ?_, ?_, ?_, ?_⟩ <;> omega⟩, by rw [ht]; exact hat_h0, by rw [ht]; exact hat_bd, by rw [ht]; exact hsz, fun q hq => by rw [ht]; exact hfr q hq⟩, by rw [ht, hsz]; exact Nat.le_refl _, fun q _ hq => by rw [ht]; exact hfr q (fun h => hq (h.elim (fun h => by rw [h]; exact hb0) (fun h => by rw [h]; exact hb1)))⟩) hS.2.2 dX2_accept_110
        · skip
          have c_15' : pl.toInt = 6 := jb_ne_n (rfl) ((by decide)) c_15
          refine lv_aload_n hx hb dX2_accept_98 rfl (lv_at hl 0 rfl) ?_
          refine va_get (D := (dC, dI)) (ci := 4) (v := .int z_13) (C := RX2) (T := TX2) (N := 12) hx hb hts hin_4 hown hK (jp_one hat_h0) 0 rfl rfl 7 (by decide) (hts (.fieldLink RX2 26 "ProofServer$Frames" "filled" "I") (by decide +kernel)) (fun _ h9 => h9) rfl dX2_accept_99 ?_
          refine lv_aload_n hx hb dX2_accept_102 rfl (lv_at hl 0 rfl) ?_
          refine va_get (D := (dC, dI)) (ci := 4) (v := .int td) (C := RX2) (T := TX2) (N := 12) hx hb hts hin_4 hown hK (jp_one hat_h0) 0 rfl rfl 6 (by decide) (hts (.fieldLink RX2 19 "ProofServer$Frames" "told" "I") (by decide +kernel)) (fun _ h9 => h9) rfl dX2_accept_103 ?_
          refine lv_icmp_ge (tgt := 111) hx hb dX2_accept_106 (by decide) (fun c_16 => ?_) (fun c_16 => ?_)
          · skip
            have c_16' : z_13.toInt ≥ td.toInt := jb_ge (rfl) (rfl) c_16
            refine lv_aload_n hx hb dX2_accept_111 rfl (lv_at hl 0 rfl) ?_
            refine lv_aload_n hx hb dX2_accept_112 rfl (lv_at hl 0 rfl) ?_
            refine va_get (D := (dC, dI)) (ci := 4) (v := .int td) (C := RX2) (T := TX2) (N := 12) hx hb hts hin_4 hown hK (jp_one hat_h0) 0 rfl rfl 6 (by decide) (hts (.fieldLink RX2 19 "ProofServer$Frames" "told" "I") (by decide +kernel)) (fun _ h9 => h9) rfl dX2_accept_113 ?_
            refine j_put (D := (dC, dI)) (ci := 4) (v := .int td) (ty := .int) (C := RX2) (T := TX2) (N := 12) (A := jA base) hx hb hts hin_4 tyX2 tyX2_ok nmX2 hown hK hat_h0 hb0 hS.2.2 rfl 1 (by decide) (hts (.fieldLink RX2 36 "ProofServer$Frames" "length" "I") (by decide +kernel)) (fun _ h9 => h9) rfl (by decide +kernel) rfl rfl (Nat.le_of_ble_eq_true rfl) dX2_accept_116 (fun H1 locs1 hat1 hsz1 hfr1 hT1 hL1 => ?_)
            have hat_bd := hat_bd.kept (hfr1 _ hne.symm)
            have hfr2 : ∀ q, ¬ (fun q => q = h0 ∨ q = bd) q → H1[q]? = s.heap[q]? := fun q hq => (hfr1 q (fun h => hq (Or.inl h))).trans (hfr q hq)
            have hsz2 : H1.size = s.heap.size := hsz1.trans hsz
            have hS2 := jS_put hS hsz1 hfr1 hb0 hL1
            try clear hT1
            clear hfr hsz hfr1 hsz1 hL1 hS hat_h0
            have hfr := hfr2
            have hsz := hsz2
            have hS := hS2
            clear hfr2 hsz2 hS2
            generalize locs1 = locs at hS ⊢
            generalize H1 = H at hfr hsz hS hat1 hat_bd ⊢
            have hat_h0 : va_at (dC, dI) vwCl (h0, .inr (4, [.ref bd, .int td, .int z_14, .int ms, .int br, .int pl, .int td, .int z_13, .int sg, .int il, .int dg, .int vl])) H := hat1
            refine lv_aload_n hx hb dX2_accept_119 rfl (lv_at hl 0 rfl) ?_
            refine lv_iconst (v := (-1)) hx hb dX2_accept_120 (by decide) ?_
            refine j_put (D := (dC, dI)) (ci := 4) (v := .int (-1)) (ty := .int) (C := RX2) (T := TX2) (N := 12) (A := jA base) hx hb hts hin_4 tyX2 tyX2_ok nmX2 hown hK hat_h0 hb0 hS.2.2 rfl 6 (by decide) (hts (.fieldLink RX2 19 "ProofServer$Frames" "told" "I") (by decide +kernel)) (fun _ h9 => h9) rfl (by decide +kernel) rfl rfl (Nat.le_of_ble_eq_true rfl) dX2_accept_121 (fun H1 locs1 hat1 hsz1 hfr1 hT1 hL1 => ?_)
            have hat_bd := hat_bd.kept (hfr1 _ hne.symm)
            have hfr2 : ∀ q, ¬ (fun q => q = h0 ∨ q = bd) q → H1[q]? = s.heap[q]? := fun q hq => (hfr1 q (fun h => hq (Or.inl h))).trans (hfr q hq)
            have hsz2 : H1.size = s.heap.size := hsz1.trans hsz
            have hS2 := jS_put hS hsz1 hfr1 hb0 hL1
            try clear hT1
            clear hfr hsz hfr1 hsz1 hL1 hS hat_h0
            have hfr := hfr2
            have hsz := hsz2
            have hS := hS2
            clear hfr2 hsz2 hS2
            generalize locs1 = locs at hS ⊢
            generalize H1 = H at hfr hsz hS hat1 hat_bd ⊢
            have hat_h0 : va_at (dC, dI) vwCl (h0, .inr (4, [.ref bd, .int td, .int z_14, .int ms, .int br, .int pl, .int (-1), .int z_13, .int sg, .int il, .int dg, .int vl])) H := hat1
            refine lv_aload_n hx hb dX2_accept_124 rfl (lv_at hl 0 rfl) ?_
            refine lv_iconst (v := 0) hx hb dX2_accept_125 (by decide) ?_
            refine j_put (D := (dC, dI)) (ci := 4) (v := .int 0) (ty := .int) (C := RX2) (T := TX2) (N := 12) (A := jA base) hx hb hts hin_4 tyX2 tyX2_ok nmX2 hown hK hat_h0 hb0 hS.2.2 rfl 7 (by decide) (hts (.fieldLink RX2 26 "ProofServer$Frames" "filled" "I") (by decide +kernel)) (fun _ h9 => h9) rfl (by decide +kernel) rfl rfl (Nat.le_of_ble_eq_true rfl) dX2_accept_126 (fun H1 locs1 hat1 hsz1 hfr1 hT1 hL1 => ?_)
            have hat_bd := hat_bd.kept (hfr1 _ hne.symm)
            have hfr2 : ∀ q, ¬ (fun q => q = h0 ∨ q = bd) q → H1[q]? = s.heap[q]? := fun q hq => (hfr1 q (fun h => hq (Or.inl h))).trans (hfr q hq)
            have hsz2 : H1.size = s.heap.size := hsz1.trans hsz
            have hS2 := jS_put hS hsz1 hfr1 hb0 hL1
            try clear hT1
            clear hfr hsz hfr1 hsz1 hL1 hS hat_h0
            have hfr := hfr2
            have hsz := hsz2
            have hS := hS2
            clear hfr2 hsz2 hS2
            generalize locs1 = locs at hS ⊢
            generalize H1 = H at hfr hsz hS hat1 hat_bd ⊢
            have hat_h0 : va_at (dC, dI) vwCl (h0, .inr (4, [.ref bd, .int td, .int z_14, .int ms, .int br, .int pl, .int (-1), .int 0, .int sg, .int il, .int dg, .int vl])) H := hat1
            refine lv_aload_n hx hb dX2_accept_129 rfl (lv_at hl 0 rfl) ?_
            refine lv_iconst (v := 0) hx hb dX2_accept_130 (by decide) ?_
            refine j_put (D := (dC, dI)) (ci := 4) (v := .int 0) (ty := .int) (C := RX2) (T := TX2) (N := 12) (A := jA base) hx hb hts hin_4 tyX2 tyX2_ok nmX2 hown hK hat_h0 hb0 hS.2.2 rfl 2 (by decide) (hts (.fieldLink RX2 29 "ProofServer$Frames" "kept" "I") (by decide +kernel)) (fun _ h9 => h9) rfl (by decide +kernel) rfl rfl (Nat.le_of_ble_eq_true rfl) dX2_accept_131 (fun H1 locs1 hat1 hsz1 hfr1 hT1 hL1 => ?_)
            have hat_bd := hat_bd.kept (hfr1 _ hne.symm)
            have hfr2 : ∀ q, ¬ (fun q => q = h0 ∨ q = bd) q → H1[q]? = s.heap[q]? := fun q hq => (hfr1 q (fun h => hq (Or.inl h))).trans (hfr q hq)
            have hsz2 : H1.size = s.heap.size := hsz1.trans hsz
            have hS2 := jS_put hS hsz1 hfr1 hb0 hL1
            try clear hT1
            clear hfr hsz hfr1 hsz1 hL1 hS hat_h0
            have hfr := hfr2
            have hsz := hsz2
            have hS := hS2
            clear hfr2 hsz2 hS2
            generalize locs1 = locs at hS ⊢
            generalize H1 = H at hfr hsz hS hat1 hat_bd ⊢
            have hat_h0 : va_at (dC, dI) vwCl (h0, .inr (4, [.ref bd, .int td, .int 0, .int ms, .int br, .int pl, .int (-1), .int 0, .int sg, .int il, .int dg, .int vl])) H := hat1
            refine lv_aload_n hx hb dX2_accept_134 rfl (lv_at hl 0 rfl) ?_
            refine lv_iconst (v := 0) hx hb dX2_accept_135 (by decide) ?_
            refine j_put (D := (dC, dI)) (ci := 4) (v := .int 0) (ty := .int) (C := RX2) (T := TX2) (N := 12) (A := jA base) hx hb hts hin_4 tyX2 tyX2_ok nmX2 hown hK hat_h0 hb0 hS.2.2 rfl 5 (by decide) (hts (.fieldLink RX2 15 "ProofServer$Frames" "place" "I") (by decide +kernel)) (fun _ h9 => h9) rfl (by decide +kernel) rfl rfl (Nat.le_of_ble_eq_true rfl) dX2_accept_136 (fun H1 locs1 hat1 hsz1 hfr1 hT1 hL1 => ?_)
            have hat_bd := hat_bd.kept (hfr1 _ hne.symm)
            have hfr2 : ∀ q, ¬ (fun q => q = h0 ∨ q = bd) q → H1[q]? = s.heap[q]? := fun q hq => (hfr1 q (fun h => hq (Or.inl h))).trans (hfr q hq)
            have hsz2 : H1.size = s.heap.size := hsz1.trans hsz
            have hS2 := jS_put hS hsz1 hfr1 hb0 hL1
            try clear hT1
            clear hfr hsz hfr1 hsz1 hL1 hS hat_h0
            have hfr := hfr2
            have hsz := hsz2
            have hS := hS2
            clear hfr2 hsz2 hS2
            generalize locs1 = locs at hS ⊢
            generalize H1 = H at hfr hsz hS hat1 hat_bd ⊢
            have hat_h0 : va_at (dC, dI) vwCl (h0, .inr (4, [.ref bd, .int td, .int 0, .int ms, .int br, .int 0, .int (-1), .int 0, .int sg, .int il, .int dg, .int vl])) H := hat1
            refine lv_aload_n hx hb dX2_accept_139 rfl (lv_at hl 0 rfl) ?_
            refine lv_dup hx hb dX2_accept_140 rfl ?_
            refine va_get (D := (dC, dI)) (ci := 4) (v := .int ms) (C := RX2) (T := TX2) (N := 12) hx hb hts hin_4 hown hK (jp_one hat_h0) 0 rfl rfl 3 (by decide) (hts (.fieldLink RX2 39 "ProofServer$Frames" "messages" "I") (by decide +kernel)) (fun _ h9 => h9) rfl dX2_accept_141 ?_
            refine lv_iconst (v := 1) hx hb dX2_accept_144 (by decide) ?_
            refine lv_iadd hx hb dX2_accept_145 ?_
            refine lv_topi (fun z_17 ez_17 => ?_)
            refine j_put (D := (dC, dI)) (ci := 4) (v := .int z_17) (ty := .int) (C := RX2) (T := TX2) (N := 12) (A := jA base) hx hb hts hin_4 tyX2 tyX2_ok nmX2 hown hK hat_h0 hb0 hS.2.2 rfl 3 (by decide) (hts (.fieldLink RX2 39 "ProofServer$Frames" "messages" "I") (by decide +kernel)) (fun _ h9 => h9) rfl (by decide +kernel) rfl rfl (Nat.le_of_ble_eq_true rfl) dX2_accept_146 (fun H1 locs1 hat1 hsz1 hfr1 hT1 hL1 => ?_)
            have hat_bd := hat_bd.kept (hfr1 _ hne.symm)
            have hfr2 : ∀ q, ¬ (fun q => q = h0 ∨ q = bd) q → H1[q]? = s.heap[q]? := fun q hq => (hfr1 q (fun h => hq (Or.inl h))).trans (hfr q hq)
            have hsz2 : H1.size = s.heap.size := hsz1.trans hsz
            have hS2 := jS_put hS hsz1 hfr1 hb0 hL1
            try clear hT1
            clear hfr hsz hfr1 hsz1 hL1 hS hat_h0
            have hfr := hfr2
            have hsz := hsz2
            have hS := hS2
            clear hfr2 hsz2 hS2
            generalize locs1 = locs at hS ⊢
            generalize H1 = H at hfr hsz hS hat1 hat_bd ⊢
            have hat_h0 : va_at (dC, dI) vwCl (h0, .inr (4, [.ref bd, .int td, .int 0, .int z_17, .int br, .int 0, .int (-1), .int 0, .int sg, .int il, .int dg, .int vl])) H := hat1
            refine lv_iconst (v := 1) hx hb dX2_accept_149 (by decide) ?_
            rw [hQ]
            exact W.zret (v := 1) hx hb hr (jb_nz (Or.inr rfl)) (fun t ht hW => ⟨⟨1, ([.ref bd, .int td, .int 0, .int z_17, .int br, .int 0, .int (-1), .int 0, .int sg, .int il, .int dg, .int vl], fb), rfl, ⟨by first | exact Or.inl rfl | exact Or.inr rfl | assumption, td, 0, z_17, br, 0, (-1), 0, sg, il, dg, vl, fb, rfl, (hbr), (hil), by refine ⟨?_, ?_, ?_, ?_, ?_, ?_, ?_, ?_, ?_, ?_, ?_, ?_⟩ <;> omega⟩, by rw [ht]; exact hat_h0, by rw [ht]; exact hat_bd, by rw [ht]; exact hsz, fun q hq => by rw [ht]; exact hfr q hq⟩, by rw [ht, hsz]; exact Nat.le_refl _, fun q _ hq => by rw [ht]; exact hfr q (fun h => hq (h.elim (fun h => by rw [h]; exact hb0) (fun h => by rw [h]; exact hb1)))⟩) hS.2.2 dX2_accept_150
          · skip
            have c_16' : z_13.toInt < td.toInt := jb_ge_n (rfl) (rfl) c_16
            refine lv_iconst (v := 0) hx hb dX2_accept_109 (by decide) ?_
            rw [hQ]
            exact W.zret (v := 0) hx hb hr (jb_nz (Or.inl rfl)) (fun t ht hW => ⟨⟨0, ([.ref bd, .int len, .int z_14, .int ms, .int br, .int pl, .int td, .int z_13, .int sg, .int il, .int dg, .int vl], fb), rfl, ⟨by first | exact Or.inl rfl | exact Or.inr rfl | assumption, len, z_14, ms, br, pl, td, z_13, sg, il, dg, vl, fb, rfl, (hbr), (hil), by refine ⟨?_, ?_, ?_, ?_, ?_, ?_, ?_, ?_, ?_, ?_, ?_, ?_⟩ <;> omega⟩, by rw [ht]; exact hat_h0, by rw [ht]; exact hat_bd, by rw [ht]; exact hsz, fun q hq => by rw [ht]; exact hfr q hq⟩, by rw [ht, hsz]; exact Nat.le_refl _, fun q _ hq => by rw [ht]; exact hfr q (fun h => hq (h.elim (fun h => by rw [h]; exact hb0) (fun h => by rw [h]; exact hb1)))⟩) hS.2.2 dX2_accept_110
      · skip
        have c_12' : fl.toInt < z_11.toInt := jb_ge_n (rfl) (rfl) c_12
        refine lv_aload_n hx hb dX2_accept_30 rfl (lv_at hl 0 rfl) ?_
        refine va_get (D := (dC, dI)) (ci := 4) (v := .ref bd) (C := RX2) (T := TX2) (N := 12) hx hb hts hin_4 hown hK (jp_one hat_h0) 0 rfl rfl 0 (by decide) (hts (.fieldLink RX2 9 "ProofServer$Frames" "body" "[B") (by decide +kernel)) (fun _ h9 => h9) rfl dX2_accept_31 ?_
        refine lv_aload_n hx hb dX2_accept_34 rfl (lv_at hl 0 rfl) ?_
        refine va_get (D := (dC, dI)) (ci := 4) (v := .int fl) (C := RX2) (T := TX2) (N := 12) hx hb hts hin_4 hown hK (jp_one hat_h0) 0 rfl rfl 7 (by decide) (hts (.fieldLink RX2 26 "ProofServer$Frames" "filled" "I") (by decide +kernel)) (fun _ h9 => h9) rfl dX2_accept_35 ?_
        refine lv_iload_n hx hb dX2_accept_38 rfl (lv_at hl 1 rfl) ?_
        refine lv_i2b hx hb dX2_accept_39 rfl ?_
        refine lv_topi (fun z_18 ez_18 => ?_)
        refine j_bast (A := jA base) hx hb hK 0 hat_bd hb1 hS.2.2 rfl (jb_in (rfl) (by omega) (by omega)) dX2_accept_40 (fun H1 locs1 f_19 hfit1 hat1 hsz1 hfr1 hT1 hL1 => ?_)
        have hat_h0 := hat_h0.kept (hfr1 _ hne)
        have hfr2 : ∀ q, ¬ (fun q => q = h0 ∨ q = bd) q → H1[q]? = s.heap[q]? := fun q hq => (hfr1 q (fun h => hq (Or.inr h))).trans (hfr q hq)
        have hsz2 : H1.size = s.heap.size := hsz1.trans hsz
        have hS2 := jS_put hS hsz1 hfr1 hb1 hL1
        try clear hT1
        clear hfr hsz hfr1 hsz1 hL1 hS hat_bd
        have hfr := hfr2
        have hsz := hsz2
        have hS := hS2
        clear hfr2 hsz2 hS2
        generalize locs1 = locs at hS ⊢
        generalize H1 = H at hfr hsz hS hat1 hat_h0 ⊢
        have hat_bd : va_at (dC, dI) vwCl (bd, .inl (ca 0, 3000, .inl f_19)) H := hat1
        refine lv_aload_n hx hb dX2_accept_41 rfl (lv_at hl 0 rfl) ?_
        refine lv_dup hx hb dX2_accept_42 rfl ?_
        refine va_get (D := (dC, dI)) (ci := 4) (v := .int fl) (C := RX2) (T := TX2) (N := 12) hx hb hts hin_4 hown hK (jp_one hat_h0) 0 rfl rfl 7 (by decide) (hts (.fieldLink RX2 26 "ProofServer$Frames" "filled" "I") (by decide +kernel)) (fun _ h9 => h9) rfl dX2_accept_43 ?_
        refine lv_iconst (v := 1) hx hb dX2_accept_46 (by decide) ?_
        refine lv_iadd hx hb dX2_accept_47 ?_
        refine lv_topi (fun z_20 ez_20 => ?_)
        have hz_20 : z_20.toInt = fl.toInt + 1 := by rw [ez_20]; exact jb_iadd (rfl) ((by decide)) (by omega) (by omega)
        refine j_put (D := (dC, dI)) (ci := 4) (v := .int z_20) (ty := .int) (C := RX2) (T := TX2) (N := 12) (A := jA base) hx hb hts hin_4 tyX2 tyX2_ok nmX2 hown hK hat_h0 hb0 hS.2.2 rfl 7 (by decide) (hts (.fieldLink RX2 26 "ProofServer$Frames" "filled" "I") (by decide +kernel)) (fun _ h9 => h9) rfl (by decide +kernel) rfl rfl (Nat.le_of_ble_eq_true rfl) dX2_accept_48 (fun H1 locs1 hat1 hsz1 hfr1 hT1 hL1 => ?_)
        have hat_bd := hat_bd.kept (hfr1 _ hne.symm)
        have hfr2 : ∀ q, ¬ (fun q => q = h0 ∨ q = bd) q → H1[q]? = s.heap[q]? := fun q hq => (hfr1 q (fun h => hq (Or.inl h))).trans (hfr q hq)
        have hsz2 : H1.size = s.heap.size := hsz1.trans hsz
        have hS2 := jS_put hS hsz1 hfr1 hb0 hL1
        try clear hT1
        clear hfr hsz hfr1 hsz1 hL1 hS hat_h0
        have hfr := hfr2
        have hsz := hsz2
        have hS := hS2
        clear hfr2 hsz2 hS2
        generalize locs1 = locs at hS ⊢
        generalize H1 = H at hfr hsz hS hat1 hat_bd ⊢
        have hat_h0 : va_at (dC, dI) vwCl (h0, .inr (4, [.ref bd, .int len, .int kp, .int ms, .int br, .int pl, .int td, .int z_20, .int sg, .int il, .int dg, .int vl])) H := hat1
        refine lv_goto (tgt := 79) hx hb dX2_accept_51 (by decide) ?_
        refine lv_aload_n hx hb dX2_accept_79 rfl (lv_at hl 0 rfl) ?_
        refine lv_dup hx hb dX2_accept_80 rfl ?_
        refine va_get (D := (dC, dI)) (ci := 4) (v := .int kp) (C := RX2) (T := TX2) (N := 12) hx hb hts hin_4 hown hK (jp_one hat_h0) 0 rfl rfl 2 (by decide) (hts (.fieldLink RX2 29 "ProofServer$Frames" "kept" "I") (by decide +kernel)) (fun _ h9 => h9) rfl dX2_accept_81 ?_
        refine lv_iconst (v := 1) hx hb dX2_accept_84 (by decide) ?_
        refine lv_iadd hx hb dX2_accept_85 ?_
        refine lv_topi (fun z_21 ez_21 => ?_)
        have hz_21 : z_21.toInt = kp.toInt + 1 := by rw [ez_21]; exact jb_iadd (rfl) ((by decide)) (by omega) (by omega)
        refine j_put (D := (dC, dI)) (ci := 4) (v := .int z_21) (ty := .int) (C := RX2) (T := TX2) (N := 12) (A := jA base) hx hb hts hin_4 tyX2 tyX2_ok nmX2 hown hK hat_h0 hb0 hS.2.2 rfl 2 (by decide) (hts (.fieldLink RX2 29 "ProofServer$Frames" "kept" "I") (by decide +kernel)) (fun _ h9 => h9) rfl (by decide +kernel) rfl rfl (Nat.le_of_ble_eq_true rfl) dX2_accept_86 (fun H1 locs1 hat1 hsz1 hfr1 hT1 hL1 => ?_)
        have hat_bd := hat_bd.kept (hfr1 _ hne.symm)
        have hfr2 : ∀ q, ¬ (fun q => q = h0 ∨ q = bd) q → H1[q]? = s.heap[q]? := fun q hq => (hfr1 q (fun h => hq (Or.inl h))).trans (hfr q hq)
        have hsz2 : H1.size = s.heap.size := hsz1.trans hsz
        have hS2 := jS_put hS hsz1 hfr1 hb0 hL1
        try clear hT1
        clear hfr hsz hfr1 hsz1 hL1 hS hat_h0
        have hfr := hfr2
        have hsz := hsz2
        have hS := hS2
        clear hfr2 hsz2 hS2
        generalize locs1 = locs at hS ⊢
        generalize H1 = H at hfr hsz hS hat1 hat_bd ⊢
        have hat_h0 : va_at (dC, dI) vwCl (h0, .inr (4, [.ref bd, .int len, .int z_21, .int ms, .int br, .int pl, .int td, .int z_20, .int sg, .int il, .int dg, .int vl])) H := hat1
        refine lv_aload_n hx hb dX2_accept_89 rfl (lv_at hl 0 rfl) ?_
        refine va_get (D := (dC, dI)) (ci := 4) (v := .int pl) (C := RX2) (T := TX2) (N := 12) hx hb hts hin_4 hown hK (jp_one hat_h0) 0 rfl rfl 5 (by decide) (hts (.fieldLink RX2 15 "ProofServer$Frames" "place" "I") (by decide +kernel)) (fun _ h9 => h9) rfl dX2_accept_90 ?_
        refine lv_bipush (v := 6) hx hb dX2_accept_93 (by decide) ?_
        refine lv_icmp_ne (tgt := 109) hx hb dX2_accept_95 (by decide) (fun c_22 => ?_) (fun c_22 => ?_)
        · skip
          have c_22' : pl.toInt ≠ 6 := jb_ne (rfl) ((by decide)) c_22
          refine lv_iconst (v := 0) hx hb dX2_accept_109 (by decide) ?_
          rw [hQ]
          exact W.zret (v := 0) hx hb hr (jb_nz (Or.inl rfl)) (fun t ht hW => ⟨⟨0, ([.ref bd, .int len, .int z_21, .int ms, .int br, .int pl, .int td, .int z_20, .int sg, .int il, .int dg, .int vl], f_19), rfl, ⟨by first | exact Or.inl rfl | exact Or.inr rfl | assumption, len, z_21, ms, br, pl, td, z_20, sg, il, dg, vl, f_19, rfl, (hbr), (hil), by refine ⟨?_, ?_, ?_, ?_, ?_, ?_, ?_, ?_, ?_, ?_, ?_, ?_⟩ <;> omega⟩, by rw [ht]; exact hat_h0, by rw [ht]; exact hat_bd, by rw [ht]; exact hsz, fun q hq => by rw [ht]; exact hfr q hq⟩, by rw [ht, hsz]; exact Nat.le_refl _, fun q _ hq => by rw [ht]; exact hfr q (fun h => hq (h.elim (fun h => by rw [h]; exact hb0) (fun h => by rw [h]; exact hb1)))⟩) hS.2.2 dX2_accept_110
        · skip
          have c_22' : pl.toInt = 6 := jb_ne_n (rfl) ((by decide)) c_22
          refine lv_aload_n hx hb dX2_accept_98 rfl (lv_at hl 0 rfl) ?_
          refine va_get (D := (dC, dI)) (ci := 4) (v := .int z_20) (C := RX2) (T := TX2) (N := 12) hx hb hts hin_4 hown hK (jp_one hat_h0) 0 rfl rfl 7 (by decide) (hts (.fieldLink RX2 26 "ProofServer$Frames" "filled" "I") (by decide +kernel)) (fun _ h9 => h9) rfl dX2_accept_99 ?_
          refine lv_aload_n hx hb dX2_accept_102 rfl (lv_at hl 0 rfl) ?_
          refine va_get (D := (dC, dI)) (ci := 4) (v := .int td) (C := RX2) (T := TX2) (N := 12) hx hb hts hin_4 hown hK (jp_one hat_h0) 0 rfl rfl 6 (by decide) (hts (.fieldLink RX2 19 "ProofServer$Frames" "told" "I") (by decide +kernel)) (fun _ h9 => h9) rfl dX2_accept_103 ?_
          refine lv_icmp_ge (tgt := 111) hx hb dX2_accept_106 (by decide) (fun c_23 => ?_) (fun c_23 => ?_)
          · skip
            have c_23' : z_20.toInt ≥ td.toInt := jb_ge (rfl) (rfl) c_23
            refine lv_aload_n hx hb dX2_accept_111 rfl (lv_at hl 0 rfl) ?_
            refine lv_aload_n hx hb dX2_accept_112 rfl (lv_at hl 0 rfl) ?_
            refine va_get (D := (dC, dI)) (ci := 4) (v := .int td) (C := RX2) (T := TX2) (N := 12) hx hb hts hin_4 hown hK (jp_one hat_h0) 0 rfl rfl 6 (by decide) (hts (.fieldLink RX2 19 "ProofServer$Frames" "told" "I") (by decide +kernel)) (fun _ h9 => h9) rfl dX2_accept_113 ?_
            refine j_put (D := (dC, dI)) (ci := 4) (v := .int td) (ty := .int) (C := RX2) (T := TX2) (N := 12) (A := jA base) hx hb hts hin_4 tyX2 tyX2_ok nmX2 hown hK hat_h0 hb0 hS.2.2 rfl 1 (by decide) (hts (.fieldLink RX2 36 "ProofServer$Frames" "length" "I") (by decide +kernel)) (fun _ h9 => h9) rfl (by decide +kernel) rfl rfl (Nat.le_of_ble_eq_true rfl) dX2_accept_116 (fun H1 locs1 hat1 hsz1 hfr1 hT1 hL1 => ?_)
            have hat_bd := hat_bd.kept (hfr1 _ hne.symm)
            have hfr2 : ∀ q, ¬ (fun q => q = h0 ∨ q = bd) q → H1[q]? = s.heap[q]? := fun q hq => (hfr1 q (fun h => hq (Or.inl h))).trans (hfr q hq)
            have hsz2 : H1.size = s.heap.size := hsz1.trans hsz
            have hS2 := jS_put hS hsz1 hfr1 hb0 hL1
            try clear hT1
            clear hfr hsz hfr1 hsz1 hL1 hS hat_h0
            have hfr := hfr2
            have hsz := hsz2
            have hS := hS2
            clear hfr2 hsz2 hS2
            generalize locs1 = locs at hS ⊢
            generalize H1 = H at hfr hsz hS hat1 hat_bd ⊢
            have hat_h0 : va_at (dC, dI) vwCl (h0, .inr (4, [.ref bd, .int td, .int z_21, .int ms, .int br, .int pl, .int td, .int z_20, .int sg, .int il, .int dg, .int vl])) H := hat1
            refine lv_aload_n hx hb dX2_accept_119 rfl (lv_at hl 0 rfl) ?_
            refine lv_iconst (v := (-1)) hx hb dX2_accept_120 (by decide) ?_
            refine j_put (D := (dC, dI)) (ci := 4) (v := .int (-1)) (ty := .int) (C := RX2) (T := TX2) (N := 12) (A := jA base) hx hb hts hin_4 tyX2 tyX2_ok nmX2 hown hK hat_h0 hb0 hS.2.2 rfl 6 (by decide) (hts (.fieldLink RX2 19 "ProofServer$Frames" "told" "I") (by decide +kernel)) (fun _ h9 => h9) rfl (by decide +kernel) rfl rfl (Nat.le_of_ble_eq_true rfl) dX2_accept_121 (fun H1 locs1 hat1 hsz1 hfr1 hT1 hL1 => ?_)
            have hat_bd := hat_bd.kept (hfr1 _ hne.symm)
            have hfr2 : ∀ q, ¬ (fun q => q = h0 ∨ q = bd) q → H1[q]? = s.heap[q]? := fun q hq => (hfr1 q (fun h => hq (Or.inl h))).trans (hfr q hq)
            have hsz2 : H1.size = s.heap.size := hsz1.trans hsz
            have hS2 := jS_put hS hsz1 hfr1 hb0 hL1
            try clear hT1
            clear hfr hsz hfr1 hsz1 hL1 hS hat_h0
            have hfr := hfr2
            have hsz := hsz2
            have hS := hS2
            clear hfr2 hsz2 hS2
            generalize locs1 = locs at hS ⊢
            generalize H1 = H at hfr hsz hS hat1 hat_bd ⊢
            have hat_h0 : va_at (dC, dI) vwCl (h0, .inr (4, [.ref bd, .int td, .int z_21, .int ms, .int br, .int pl, .int (-1), .int z_20, .int sg, .int il, .int dg, .int vl])) H := hat1
            refine lv_aload_n hx hb dX2_accept_124 rfl (lv_at hl 0 rfl) ?_
            refine lv_iconst (v := 0) hx hb dX2_accept_125 (by decide) ?_
            refine j_put (D := (dC, dI)) (ci := 4) (v := .int 0) (ty := .int) (C := RX2) (T := TX2) (N := 12) (A := jA base) hx hb hts hin_4 tyX2 tyX2_ok nmX2 hown hK hat_h0 hb0 hS.2.2 rfl 7 (by decide) (hts (.fieldLink RX2 26 "ProofServer$Frames" "filled" "I") (by decide +kernel)) (fun _ h9 => h9) rfl (by decide +kernel) rfl rfl (Nat.le_of_ble_eq_true rfl) dX2_accept_126 (fun H1 locs1 hat1 hsz1 hfr1 hT1 hL1 => ?_)
            have hat_bd := hat_bd.kept (hfr1 _ hne.symm)
            have hfr2 : ∀ q, ¬ (fun q => q = h0 ∨ q = bd) q → H1[q]? = s.heap[q]? := fun q hq => (hfr1 q (fun h => hq (Or.inl h))).trans (hfr q hq)
            have hsz2 : H1.size = s.heap.size := hsz1.trans hsz
            have hS2 := jS_put hS hsz1 hfr1 hb0 hL1
            try clear hT1
            clear hfr hsz hfr1 hsz1 hL1 hS hat_h0
            have hfr := hfr2
            have hsz := hsz2
            have hS := hS2
            clear hfr2 hsz2 hS2
            generalize locs1 = locs at hS ⊢
            generalize H1 = H at hfr hsz hS hat1 hat_bd ⊢
            have hat_h0 : va_at (dC, dI) vwCl (h0, .inr (4, [.ref bd, .int td, .int z_21, .int ms, .int br, .int pl, .int (-1), .int 0, .int sg, .int il, .int dg, .int vl])) H := hat1
            refine lv_aload_n hx hb dX2_accept_129 rfl (lv_at hl 0 rfl) ?_
            refine lv_iconst (v := 0) hx hb dX2_accept_130 (by decide) ?_
            refine j_put (D := (dC, dI)) (ci := 4) (v := .int 0) (ty := .int) (C := RX2) (T := TX2) (N := 12) (A := jA base) hx hb hts hin_4 tyX2 tyX2_ok nmX2 hown hK hat_h0 hb0 hS.2.2 rfl 2 (by decide) (hts (.fieldLink RX2 29 "ProofServer$Frames" "kept" "I") (by decide +kernel)) (fun _ h9 => h9) rfl (by decide +kernel) rfl rfl (Nat.le_of_ble_eq_true rfl) dX2_accept_131 (fun H1 locs1 hat1 hsz1 hfr1 hT1 hL1 => ?_)
            have hat_bd := hat_bd.kept (hfr1 _ hne.symm)
            have hfr2 : ∀ q, ¬ (fun q => q = h0 ∨ q = bd) q → H1[q]? = s.heap[q]? := fun q hq => (hfr1 q (fun h => hq (Or.inl h))).trans (hfr q hq)
            have hsz2 : H1.size = s.heap.size := hsz1.trans hsz
            have hS2 := jS_put hS hsz1 hfr1 hb0 hL1
            try clear hT1
            clear hfr hsz hfr1 hsz1 hL1 hS hat_h0
            have hfr := hfr2
            have hsz := hsz2
            have hS := hS2
            clear hfr2 hsz2 hS2
            generalize locs1 = locs at hS ⊢
            generalize H1 = H at hfr hsz hS hat1 hat_bd ⊢
            have hat_h0 : va_at (dC, dI) vwCl (h0, .inr (4, [.ref bd, .int td, .int 0, .int ms, .int br, .int pl, .int (-1), .int 0, .int sg, .int il, .int dg, .int vl])) H := hat1
            refine lv_aload_n hx hb dX2_accept_134 rfl (lv_at hl 0 rfl) ?_
            refine lv_iconst (v := 0) hx hb dX2_accept_135 (by decide) ?_
            refine j_put (D := (dC, dI)) (ci := 4) (v := .int 0) (ty := .int) (C := RX2) (T := TX2) (N := 12) (A := jA base) hx hb hts hin_4 tyX2 tyX2_ok nmX2 hown hK hat_h0 hb0 hS.2.2 rfl 5 (by decide) (hts (.fieldLink RX2 15 "ProofServer$Frames" "place" "I") (by decide +kernel)) (fun _ h9 => h9) rfl (by decide +kernel) rfl rfl (Nat.le_of_ble_eq_true rfl) dX2_accept_136 (fun H1 locs1 hat1 hsz1 hfr1 hT1 hL1 => ?_)
            have hat_bd := hat_bd.kept (hfr1 _ hne.symm)
            have hfr2 : ∀ q, ¬ (fun q => q = h0 ∨ q = bd) q → H1[q]? = s.heap[q]? := fun q hq => (hfr1 q (fun h => hq (Or.inl h))).trans (hfr q hq)
            have hsz2 : H1.size = s.heap.size := hsz1.trans hsz
            have hS2 := jS_put hS hsz1 hfr1 hb0 hL1
            try clear hT1
            clear hfr hsz hfr1 hsz1 hL1 hS hat_h0
            have hfr := hfr2
            have hsz := hsz2
            have hS := hS2
            clear hfr2 hsz2 hS2
            generalize locs1 = locs at hS ⊢
            generalize H1 = H at hfr hsz hS hat1 hat_bd ⊢
            have hat_h0 : va_at (dC, dI) vwCl (h0, .inr (4, [.ref bd, .int td, .int 0, .int ms, .int br, .int 0, .int (-1), .int 0, .int sg, .int il, .int dg, .int vl])) H := hat1
            refine lv_aload_n hx hb dX2_accept_139 rfl (lv_at hl 0 rfl) ?_
            refine lv_dup hx hb dX2_accept_140 rfl ?_
            refine va_get (D := (dC, dI)) (ci := 4) (v := .int ms) (C := RX2) (T := TX2) (N := 12) hx hb hts hin_4 hown hK (jp_one hat_h0) 0 rfl rfl 3 (by decide) (hts (.fieldLink RX2 39 "ProofServer$Frames" "messages" "I") (by decide +kernel)) (fun _ h9 => h9) rfl dX2_accept_141 ?_
            refine lv_iconst (v := 1) hx hb dX2_accept_144 (by decide) ?_
            refine lv_iadd hx hb dX2_accept_145 ?_
            refine lv_topi (fun z_24 ez_24 => ?_)
            refine j_put (D := (dC, dI)) (ci := 4) (v := .int z_24) (ty := .int) (C := RX2) (T := TX2) (N := 12) (A := jA base) hx hb hts hin_4 tyX2 tyX2_ok nmX2 hown hK hat_h0 hb0 hS.2.2 rfl 3 (by decide) (hts (.fieldLink RX2 39 "ProofServer$Frames" "messages" "I") (by decide +kernel)) (fun _ h9 => h9) rfl (by decide +kernel) rfl rfl (Nat.le_of_ble_eq_true rfl) dX2_accept_146 (fun H1 locs1 hat1 hsz1 hfr1 hT1 hL1 => ?_)
            have hat_bd := hat_bd.kept (hfr1 _ hne.symm)
            have hfr2 : ∀ q, ¬ (fun q => q = h0 ∨ q = bd) q → H1[q]? = s.heap[q]? := fun q hq => (hfr1 q (fun h => hq (Or.inl h))).trans (hfr q hq)
            have hsz2 : H1.size = s.heap.size := hsz1.trans hsz
            have hS2 := jS_put hS hsz1 hfr1 hb0 hL1
            try clear hT1
            clear hfr hsz hfr1 hsz1 hL1 hS hat_h0
            have hfr := hfr2
            have hsz := hsz2
            have hS := hS2
            clear hfr2 hsz2 hS2
            generalize locs1 = locs at hS ⊢
            generalize H1 = H at hfr hsz hS hat1 hat_bd ⊢
            have hat_h0 : va_at (dC, dI) vwCl (h0, .inr (4, [.ref bd, .int td, .int 0, .int z_24, .int br, .int 0, .int (-1), .int 0, .int sg, .int il, .int dg, .int vl])) H := hat1
            refine lv_iconst (v := 1) hx hb dX2_accept_149 (by decide) ?_
            rw [hQ]
            exact W.zret (v := 1) hx hb hr (jb_nz (Or.inr rfl)) (fun t ht hW => ⟨⟨1, ([.ref bd, .int td, .int 0, .int z_24, .int br, .int 0, .int (-1), .int 0, .int sg, .int il, .int dg, .int vl], f_19), rfl, ⟨by first | exact Or.inl rfl | exact Or.inr rfl | assumption, td, 0, z_24, br, 0, (-1), 0, sg, il, dg, vl, f_19, rfl, (hbr), (hil), by refine ⟨?_, ?_, ?_, ?_, ?_, ?_, ?_, ?_, ?_, ?_, ?_, ?_⟩ <;> omega⟩, by rw [ht]; exact hat_h0, by rw [ht]; exact hat_bd, by rw [ht]; exact hsz, fun q hq => by rw [ht]; exact hfr q hq⟩, by rw [ht, hsz]; exact Nat.le_refl _, fun q _ hq => by rw [ht]; exact hfr q (fun h => hq (h.elim (fun h => by rw [h]; exact hb0) (fun h => by rw [h]; exact hb1)))⟩) hS.2.2 dX2_accept_150
          · skip
            have c_23' : z_20.toInt < td.toInt := jb_ge_n (rfl) (rfl) c_23
            refine lv_iconst (v := 0) hx hb dX2_accept_109 (by decide) ?_
            rw [hQ]
            exact W.zret (v := 0) hx hb hr (jb_nz (Or.inl rfl)) (fun t ht hW => ⟨⟨0, ([.ref bd, .int len, .int z_21, .int ms, .int br, .int pl, .int td, .int z_20, .int sg, .int il, .int dg, .int vl], f_19), rfl, ⟨by first | exact Or.inl rfl | exact Or.inr rfl | assumption, len, z_21, ms, br, pl, td, z_20, sg, il, dg, vl, f_19, rfl, (hbr), (hil), by refine ⟨?_, ?_, ?_, ?_, ?_, ?_, ?_, ?_, ?_, ?_, ?_, ?_⟩ <;> omega⟩, by rw [ht]; exact hat_h0, by rw [ht]; exact hat_bd, by rw [ht]; exact hsz, fun q hq => by rw [ht]; exact hfr q hq⟩, by rw [ht, hsz]; exact Nat.le_refl _, fun q _ hq => by rw [ht]; exact hfr q (fun h => hq (h.elim (fun h => by rw [h]; exact hb0) (fun h => by rw [h]; exact hb1)))⟩) hS.2.2 dX2_accept_110
  · skip
    have c_1' : br.toInt ≠ 0 := jb_eq_n (rfl) ((by decide)) c_1
    refine lv_iconst (v := 0) hx hb dX2_accept_7 (by decide) ?_
    rw [hQ]
    exact W.zret (v := 0) hx hb hr (jb_nz (Or.inl rfl)) (fun t ht hW => ⟨⟨0, ([.ref bd, .int len, .int kp, .int ms, .int br, .int pl, .int td, .int fl, .int sg, .int il, .int dg, .int vl], fb), rfl, ⟨by first | exact Or.inl rfl | exact Or.inr rfl | assumption, len, kp, ms, br, pl, td, fl, sg, il, dg, vl, fb, rfl, (hbr), (hil), by refine ⟨?_, ?_, ?_, ?_, ?_, ?_, ?_, ?_, ?_, ?_, ?_, ?_⟩ <;> omega⟩, by rw [ht]; exact hat_h0, by rw [ht]; exact hat_bd, by rw [ht]; exact hsz, fun q hq => by rw [ht]; exact hfr q hq⟩, by rw [ht, hsz]; exact Nat.le_refl _, fun q _ hq => by rw [ht]; exact hfr q (fun h => hq (h.elim (fun h => by rw [h]; exact hb0) (fun h => by rw [h]; exact hb1)))⟩) hS.2.2 dX2_accept_8
