abbrev cX0_text : ByteArray := prog_2_method_3_code
def yX0_text : MethodName := ⟨RX0, "text", "(Ljava/lang/String;)V"⟩
abbrev cX0_character : ByteArray := prog_2_method_7_code
def yX0_character : MethodName := ⟨RX0, "character", "(I)V"⟩
def wsX0_text_r1 : List Cond := [Cond.methodLink RX0 30 yJ0_length_8abf5, Cond.instanceMethod yJ0_length_8abf5, Cond.selects RJ0 yJ0_length_8abf5 yJ0_length_8abf5, Cond.initialized RJ0, Cond.code yJ0_length_8abf5 cJ0_length_8abf5 1 (some .int), Cond.fieldLink RJ0 9 "java/lang/String" "value" "[B", Cond.methodLink RJ0 335 yJ0_coder_7d493, Cond.instanceMethod yJ0_coder_7d493, Cond.selects RJ0 yJ0_coder_7d493 yJ0_coder_7d493, Cond.code yJ0_coder_7d493 cJ0_coder_7d493 1 (some .byte), Cond.fieldLink RJ0 38 "java/lang/String" "COMPACT_STRINGS" "Z", Cond.fieldLink RJ0 15 "java/lang/String" "coder" "B", Cond.methodLink RX0 36 yJ0_charAt_5068e, Cond.instanceMethod yJ0_charAt_5068e, Cond.selects RJ0 yJ0_charAt_5068e yJ0_charAt_5068e, Cond.code yJ0_charAt_5068e cJ0_charAt_5068e 2 (some .char), Cond.methodLink RJ0 492 yJ0_isLatin1_aae02, Cond.instanceMethod yJ0_isLatin1_aae02, Cond.selects RJ0 yJ0_isLatin1_aae02 yJ0_isLatin1_aae02, Cond.code yJ0_isLatin1_aae02 cJ0_isLatin1_aae02 1 (some .boolean), Cond.methodLink RJ0 495 yJ1_charAt_3b067, Cond.static yJ1_charAt_3b067, Cond.initialized RJ1, Cond.code yJ1_charAt_3b067 cJ1_charAt_3b067 2 (some .char)]
def wsX0_text_r2 : List Cond := [Cond.methodLink RJ1 9 yJ0_checkIndex_df160, Cond.static yJ0_checkIndex_df160, Cond.code yJ0_checkIndex_df160 cJ0_checkIndex_df160 2 none, Cond.fieldLink RJ0 1053 "jdk/internal/util/Preconditions" "SIOOBE_FORMATTER" "Ljava/util/function/BiFunction;", Cond.methodLink RJ0 1059 yJ3_checkIndex_8e157, Cond.static yJ3_checkIndex_8e157, Cond.initialized RJ3, Cond.code yJ3_checkIndex_8e157 cJ3_checkIndex_8e157 3 (some .int), Cond.methodLink RJ0 498 yJ2_charAt_3b067, Cond.static yJ2_charAt_3b067, Cond.initialized RJ2, Cond.code yJ2_charAt_3b067 cJ2_charAt_3b067 2 (some .char), Cond.methodLink RJ2 67 yJ2_checkIndex_2214a, Cond.static yJ2_checkIndex_2214a, Cond.code yJ2_checkIndex_2214a cJ2_checkIndex_2214a 2 none, Cond.methodLink RJ2 48 yJ2_length_9d52b, Cond.static yJ2_length_9d52b, Cond.code yJ2_length_9d52b cJ2_length_9d52b 1 (some .int), Cond.methodLink RJ2 414 yJ0_checkIndex_df160, Cond.methodLink RJ2 71 yJ2_getChar_3b067, Cond.static yJ2_getChar_3b067, Cond.code yJ2_getChar_3b067 cJ2_getChar_3b067 2 (some .char), Cond.fieldLink RJ2 44 "java/lang/StringUTF16" "$assertionsDisabled" "Z", Cond.fieldLink RJ2 59 "java/lang/StringUTF16" "HI_BYTE_SHIFT" "I"]
def wsX0_text_r3 : List Cond := [Cond.fieldLink RJ2 63 "java/lang/StringUTF16" "LO_BYTE_SHIFT" "I", Cond.methodLink RX0 40 yX0_put, Cond.instanceMethod yX0_put, Cond.selects RX0 yX0_put yX0_put, Cond.initialized RX0, Cond.code yX0_put cX0_put 2 none, Cond.fieldLink RX0 19 "ProofServer$Bytes" "count" "I", Cond.fieldLink RX0 13 "ProofServer$Bytes" "row" "[B", Cond.constant RX0 23 (1000000), Cond.methodLink RX0 24 yJ7_copyOf_9075b, Cond.static yJ7_copyOf_9075b, Cond.initialized RJ7, Cond.code yJ7_copyOf_9075b cJ7_copyOf_9075b 3 (some (.array .byte)), Cond.methodLink RJ7 310 ⟨"[B", "clone", "()Ljava/lang/Object;"⟩, Cond.sameMethod "[B" "java/lang/Object" "clone" "()Ljava/lang/Object;", Cond.native ⟨"java/lang/Object", "clone", "()Ljava/lang/Object;"⟩, Cond.instanceMethod ⟨"java/lang/Object", "clone", "()Ljava/lang/Object;"⟩, Cond.selects "[B" ⟨"[B", "clone", "()Ljava/lang/Object;"⟩ ⟨"java/lang/Object", "clone", "()Ljava/lang/Object;"⟩, Cond.classLink RJ7 311 "[B", Cond.arrayClass .byte, Cond.methodLink RJ7 304 Lib.Math.min.name, Cond.static Lib.Math.min.name, Cond.initialized "java/lang/Math", Cond.code Lib.Math.min.name Lib.Math.min.code 2 (some .int)]
def wsX0_text_r4 : List Cond := [Cond.methodLink RJ7 150 arraycopyName, Cond.native arraycopyName, Cond.static arraycopyName, Cond.initialized "java/lang/System"]
def wsX0_text : List Cond := .code yX0_text cX0_text 3 none :: ((wsX0_text_r1 ++ (wsX0_text_r2 ++ (wsX0_text_r3 ++ wsX0_text_r4))) ++ wsX00)
def wsX0_character_r1 : List Cond := [Cond.constant RX0 60 (65536), Cond.methodLink RX0 40 yX0_put, Cond.instanceMethod yX0_put, Cond.selects RX0 yX0_put yX0_put, Cond.initialized RX0, Cond.code yX0_put cX0_put 2 none, Cond.fieldLink RX0 19 "ProofServer$Bytes" "count" "I", Cond.fieldLink RX0 13 "ProofServer$Bytes" "row" "[B", Cond.constant RX0 23 (1000000), Cond.methodLink RX0 24 yJ7_copyOf_9075b, Cond.static yJ7_copyOf_9075b, Cond.initialized RJ7, Cond.code yJ7_copyOf_9075b cJ7_copyOf_9075b 3 (some (.array .byte)), Cond.methodLink RJ7 310 ⟨"[B", "clone", "()Ljava/lang/Object;"⟩, Cond.sameMethod "[B" "java/lang/Object" "clone" "()Ljava/lang/Object;", Cond.native ⟨"java/lang/Object", "clone", "()Ljava/lang/Object;"⟩, Cond.instanceMethod ⟨"java/lang/Object", "clone", "()Ljava/lang/Object;"⟩, Cond.selects "[B" ⟨"[B", "clone", "()Ljava/lang/Object;"⟩ ⟨"java/lang/Object", "clone", "()Ljava/lang/Object;"⟩, Cond.classLink RJ7 311 "[B", Cond.arrayClass .byte, Cond.methodLink RJ7 304 Lib.Math.min.name, Cond.static Lib.Math.min.name, Cond.initialized "java/lang/Math", Cond.code Lib.Math.min.name Lib.Math.min.code 2 (some .int)]
def wsX0_character_r2 : List Cond := [Cond.methodLink RJ7 150 arraycopyName, Cond.native arraycopyName, Cond.static arraycopyName, Cond.initialized "java/lang/System"]
def wsX0_character : List Cond := .code yX0_character cX0_character 2 none :: ((wsX0_character_r1 ++ wsX0_character_r2) ++ wsX00)
set_option maxRecDepth 20000 in
theorem ggX0_text_J0_length_8abf5 : GoodIn wsX0_text wsJ0_length_8abf5 := goodIn_r _ [5, 6, 7, 8, 9, 4, 10, 11, 12] (by decide +kernel) (by decide +kernel)
set_option maxRecDepth 20000 in
theorem gX0_text_J0_length_8abf5 : GoodIn wsX0_text (wsV RX0 30 RJ0 yJ0_length_8abf5 wsJ0_length_8abf5) := goodIn_app (goodIn_of _ (by decide +kernel)) ggX0_text_J0_length_8abf5
set_option maxRecDepth 20000 in
theorem ggX0_text_J0_charAt_5068e : GoodIn wsX0_text wsJ0_charAt_5068e := goodIn_r _ [16, 6, 17, 18, 19, 4, 20, 11, 12, 21, 22, 23, 24, 25, 26, 27, 28, 29, 30, 31, 32, 33, 34, 35, 36, 37, 38, 39, 40, 41, 42, 43, 44, 45, 46, 47, 48, 49] (by decide +kernel) (by decide +kernel)
set_option maxRecDepth 20000 in
theorem gX0_text_J0_charAt_5068e : GoodIn wsX0_text (wsV RX0 36 RJ0 yJ0_charAt_5068e wsJ0_charAt_5068e) := goodIn_app (goodIn_of _ (by decide +kernel)) ggX0_text_J0_charAt_5068e
set_option maxRecDepth 20000 in
theorem ggX0_text_X0_put : GoodIn wsX0_text wsX0_put := goodIn_r _ [54, 55, 56, 57, 58, 59, 60, 61, 62, 63, 64, 65, 66, 67, 68, 69, 70, 71, 72, 73, 74, 75, 76, 77, 78] (by decide +kernel) (by decide +kernel)
set_option maxRecDepth 20000 in
theorem gX0_text_X0_put : GoodIn wsX0_text (wsV RX0 40 RX0 yX0_put wsX0_put) := goodIn_app (goodIn_of _ (by decide +kernel)) ggX0_text_X0_put
theorem dX0_text_0 : decode cX0_text 0 = .ok (.iconst 0, 1) := by decide +kernel
theorem dX0_text_1 : decode cX0_text 1 = .ok (.istore_n 2, 1) := by decide +kernel
theorem dX0_text_2 : decode cX0_text 2 = .ok (.iload_n 2, 1) := by decide +kernel
theorem dX0_text_3 : decode cX0_text 3 = .ok (.aload_n 1, 1) := by decide +kernel
theorem dX0_text_4 : decode cX0_text 4 = .ok (.invokevirtual 30, 3) := by decide +kernel
theorem dX0_text_7 : decode cX0_text 7 = .ok (.if_icmp .ge 18, 3) := by decide +kernel
theorem dX0_text_10 : decode cX0_text 10 = .ok (.aload_n 0, 1) := by decide +kernel
theorem dX0_text_11 : decode cX0_text 11 = .ok (.aload_n 1, 1) := by decide +kernel
theorem dX0_text_12 : decode cX0_text 12 = .ok (.iload_n 2, 1) := by decide +kernel
theorem dX0_text_13 : decode cX0_text 13 = .ok (.invokevirtual 36, 3) := by decide +kernel
theorem dX0_text_16 : decode cX0_text 16 = .ok (.invokevirtual 40, 3) := by decide +kernel
theorem dX0_text_19 : decode cX0_text 19 = .ok (.iinc 2 1, 3) := by decide +kernel
theorem dX0_text_22 : decode cX0_text 22 = .ok (.goto (-20), 3) := by decide +kernel
theorem dX0_text_25 : decode cX0_text 25 = .ok (.return_, 1) := by decide +kernel
set_option maxRecDepth 20000 in
theorem ggX0_character_X0_put : GoodIn wsX0_character wsX0_put := goodIn_r _ [6, 7, 8, 9, 10, 11, 12, 13, 14, 15, 16, 17, 18, 19, 20, 21, 22, 23, 24, 25, 26, 27, 28, 29, 30] (by decide +kernel) (by decide +kernel)
set_option maxRecDepth 20000 in
theorem gX0_character_X0_put : GoodIn wsX0_character (wsV RX0 40 RX0 yX0_put wsX0_put) := goodIn_app (goodIn_of _ (by decide +kernel)) ggX0_character_X0_put
theorem dX0_character_0 : decode cX0_character 0 = .ok (.iload_n 1, 1) := by decide +kernel
theorem dX0_character_1 : decode cX0_character 1 = .ok (.sipush 128, 3) := by decide +kernel
theorem dX0_character_4 : decode cX0_character 4 = .ok (.if_icmp .ge 9, 3) := by decide +kernel
theorem dX0_character_7 : decode cX0_character 7 = .ok (.aload_n 0, 1) := by decide +kernel
theorem dX0_character_8 : decode cX0_character 8 = .ok (.iload_n 1, 1) := by decide +kernel
theorem dX0_character_9 : decode cX0_character 9 = .ok (.invokevirtual 40, 3) := by decide +kernel
theorem dX0_character_12 : decode cX0_character 12 = .ok (.return_, 1) := by decide +kernel
theorem dX0_character_13 : decode cX0_character 13 = .ok (.iload_n 1, 1) := by decide +kernel
theorem dX0_character_14 : decode cX0_character 14 = .ok (.sipush 2048, 3) := by decide +kernel
theorem dX0_character_17 : decode cX0_character 17 = .ok (.if_icmp .ge 18, 3) := by decide +kernel
theorem dX0_character_20 : decode cX0_character 20 = .ok (.aload_n 0, 1) := by decide +kernel
theorem dX0_character_21 : decode cX0_character 21 = .ok (.sipush 192, 3) := by decide +kernel
theorem dX0_character_24 : decode cX0_character 24 = .ok (.iload_n 1, 1) := by decide +kernel
theorem dX0_character_25 : decode cX0_character 25 = .ok (.bipush 6, 2) := by decide +kernel
theorem dX0_character_27 : decode cX0_character 27 = .ok (.ishr, 1) := by decide +kernel
theorem dX0_character_28 : decode cX0_character 28 = .ok (.ior, 1) := by decide +kernel
theorem dX0_character_29 : decode cX0_character 29 = .ok (.invokevirtual 40, 3) := by decide +kernel
theorem dX0_character_32 : decode cX0_character 32 = .ok (.goto 66, 3) := by decide +kernel
theorem dX0_character_35 : decode cX0_character 35 = .ok (.iload_n 1, 1) := by decide +kernel
theorem dX0_character_36 : decode cX0_character 36 = .ok (.ldc 60, 2) := by decide +kernel
theorem dX0_character_38 : decode cX0_character 38 = .ok (.if_icmp .ge 18, 3) := by decide +kernel
theorem dX0_character_41 : decode cX0_character 41 = .ok (.aload_n 0, 1) := by decide +kernel
theorem dX0_character_42 : decode cX0_character 42 = .ok (.sipush 224, 3) := by decide +kernel
theorem dX0_character_45 : decode cX0_character 45 = .ok (.iload_n 1, 1) := by decide +kernel
theorem dX0_character_46 : decode cX0_character 46 = .ok (.bipush 12, 2) := by decide +kernel
theorem dX0_character_48 : decode cX0_character 48 = .ok (.ishr, 1) := by decide +kernel
theorem dX0_character_49 : decode cX0_character 49 = .ok (.ior, 1) := by decide +kernel
theorem dX0_character_50 : decode cX0_character 50 = .ok (.invokevirtual 40, 3) := by decide +kernel
theorem dX0_character_53 : decode cX0_character 53 = .ok (.goto 30, 3) := by decide +kernel
theorem dX0_character_56 : decode cX0_character 56 = .ok (.aload_n 0, 1) := by decide +kernel
theorem dX0_character_57 : decode cX0_character 57 = .ok (.sipush 240, 3) := by decide +kernel
theorem dX0_character_60 : decode cX0_character 60 = .ok (.iload_n 1, 1) := by decide +kernel
theorem dX0_character_61 : decode cX0_character 61 = .ok (.bipush 18, 2) := by decide +kernel
theorem dX0_character_63 : decode cX0_character 63 = .ok (.ishr, 1) := by decide +kernel
theorem dX0_character_64 : decode cX0_character 64 = .ok (.ior, 1) := by decide +kernel
theorem dX0_character_65 : decode cX0_character 65 = .ok (.invokevirtual 40, 3) := by decide +kernel
theorem dX0_character_68 : decode cX0_character 68 = .ok (.aload_n 0, 1) := by decide +kernel
theorem dX0_character_69 : decode cX0_character 69 = .ok (.sipush 128, 3) := by decide +kernel
theorem dX0_character_72 : decode cX0_character 72 = .ok (.iload_n 1, 1) := by decide +kernel
theorem dX0_character_73 : decode cX0_character 73 = .ok (.bipush 12, 2) := by decide +kernel
theorem dX0_character_75 : decode cX0_character 75 = .ok (.ishr, 1) := by decide +kernel
theorem dX0_character_76 : decode cX0_character 76 = .ok (.bipush 63, 2) := by decide +kernel
theorem dX0_character_78 : decode cX0_character 78 = .ok (.iand, 1) := by decide +kernel
theorem dX0_character_79 : decode cX0_character 79 = .ok (.ior, 1) := by decide +kernel
theorem dX0_character_80 : decode cX0_character 80 = .ok (.invokevirtual 40, 3) := by decide +kernel
theorem dX0_character_83 : decode cX0_character 83 = .ok (.aload_n 0, 1) := by decide +kernel
theorem dX0_character_84 : decode cX0_character 84 = .ok (.sipush 128, 3) := by decide +kernel
theorem dX0_character_87 : decode cX0_character 87 = .ok (.iload_n 1, 1) := by decide +kernel
theorem dX0_character_88 : decode cX0_character 88 = .ok (.bipush 6, 2) := by decide +kernel
theorem dX0_character_90 : decode cX0_character 90 = .ok (.ishr, 1) := by decide +kernel
theorem dX0_character_91 : decode cX0_character 91 = .ok (.bipush 63, 2) := by decide +kernel
theorem dX0_character_93 : decode cX0_character 93 = .ok (.iand, 1) := by decide +kernel
theorem dX0_character_94 : decode cX0_character 94 = .ok (.ior, 1) := by decide +kernel
theorem dX0_character_95 : decode cX0_character 95 = .ok (.invokevirtual 40, 3) := by decide +kernel
theorem dX0_character_98 : decode cX0_character 98 = .ok (.aload_n 0, 1) := by decide +kernel
theorem dX0_character_99 : decode cX0_character 99 = .ok (.sipush 128, 3) := by decide +kernel
theorem dX0_character_102 : decode cX0_character 102 = .ok (.iload_n 1, 1) := by decide +kernel
theorem dX0_character_103 : decode cX0_character 103 = .ok (.bipush 63, 2) := by decide +kernel
theorem dX0_character_105 : decode cX0_character 105 = .ok (.iand, 1) := by decide +kernel
theorem dX0_character_106 : decode cX0_character 106 = .ok (.ior, 1) := by decide +kernel
theorem dX0_character_107 : decode cX0_character 107 = .ok (.invokevirtual 40, 3) := by decide +kernel
theorem dX0_character_110 : decode cX0_character 110 = .ok (.return_, 1) := by decide +kernel
set_option maxHeartbeats 4000000 in
set_option maxRecDepth 20000 in
theorem tX0_text (l : Launch) (dC : Nat → ClassId) (dI : Nat → Nat → Nat) (ca : Nat → ClassId) (base LC LS : Nat) (B : jF) (hB : jBok B) (G0 : jT) (X : List Nat) (H0 : Heap) (a len0 : Nat) (cnt0 : Int32) (h0 n : Nat) : Met l yX0_text wsX0_text ({ frames := 5, cells := LC - H0.size, slots := LS - jTot H0, locals := 240 }) (va_Pc [.ref a, .ref h0] (fun U => jPre2 dC dI ca base B LC LS G0 X a len0 cnt0 (n) H0 U ∧ jStr base h0 n U H0 ∧ (n < 1000000))) (va_Qv (S := jT × Nat × Int32) (fun _ => True) (fun u t => jPost2 dC dI ca base B G0 X a len0 cnt0 (n) H0 u t.heap) (jA base)) (LC - H0.size) (LS - jTot H0) (jA base) := by
  refine Met.ofW (cc := cX0_text) (maxL := 3) (ret := none) (by decide) rfl ?_
  intro p e s m args below meth c s₁ Bd hml hv
  obtain ⟨rfl, ⟨hH0, hX0, hBy0, hG, hga, haX, hN⟩, hstr_h0, hpre⟩ := hv
  have hK := hG.1
  have hx := Bd.exec
  have hb := Bd.bytes
  have hr := Bd.returns
  have hts := atoms_spec (ws := wsX0_text) Bd.pre
  have hown : s.vm.findClass RX0 = some m.cls := findClass_of_methodNamed Bd.named
  have hlocks := Bd.notSynchronized
  obtain ⟨Q, hQ⟩ : ∃ Q, Q = MQ below (va_Qv (S := jT × Nat × Int32) (fun _ => True) (fun u t => jPost2 dC dI ca base B G0 X a len0 cnt0 (n) H0 u t.heap) (jA base)) ([.ref a, .ref h0] : List Value).toArray s (LC - H0.size) (LS - jTot H0) (jA base) := ⟨_, rfl⟩
  rw [← hQ]
  have hl := lv_entry ([.ref a, .ref h0]) (n := 3) (Nat.le_of_ble_eq_true rfl)
  rw [lg_entry_eq]
  generalize (lg_sl ([.ref a, .ref h0]) ++ List.replicate (3 - (lg_sl ([.ref a, .ref h0])).length) Slot.unset).toArray = ls at hl ⊢
  have hl : lv_has ls 3 [(0, .ref a), (1, .ref h0)] := hl
  generalize hR : (headSpec wsX0_text ({ frames := 5, cells := LC - H0.size, slots := LS - jTot H0, locals := 240 })).room = R
  subst hH0
  have hS : va_S (jA base) s.heap s.heap [] := va_S.rf
  have hC := hX0.rf2 hBy0 hN
  obtain ⟨hn1, hn2, hn3, hn4, -⟩ := id hN
  have hk0 : (0 : Int32).toInt = 0 := by decide
  have hk1 : (1 : Int32).toInt = 1 := by decide
  refine lv_iconst (v := 0) hx hb dX0_text_0 (by decide) ?_
  refine lv_istore_n (lv' := [(2, .int 0), (0, .ref a), (1, .ref h0)]) hx hb dX0_text_1 rfl hl (by decide) rfl (fun ls hl => ?_)
  have L2 : ∀ (N : Nat) (i : Int32) (G : jT) (len : Nat) (cnt : Int32) (H : Heap) (locs : List Loc) (Kd cc ss : Nat), jPost2 dC dI ca base B G0 X a len0 cnt0 Kd s.heap (G, len, cnt) H → va_S (jA base) s.heap H locs → (0 ≤ i.toInt ∧ i.toInt ≤ n ∧ (Kd : Int) = i.toInt) → (n - i.toInt : Int) < N → ∀ ls : Array Slot, lv_has ls 3 [(0, .ref a), (1, .ref h0), (2, .int i)] → W p l e R s m ([.ref a, .ref h0] : List Value).toArray below meth c H locs cc ss Q (F0 m 2 ls []) := by
    intro N
    induction N with
    | zero => intro i G len cnt H locs Kd cc ss hC hS hi hm; exact absurd hm (by omega)
    | succ N ih =>
      have L2 := ih
      intro i G len cnt H locs Kd cc ss hC hS hi hm ls hl
      obtain ⟨hi0, hi1, hi2⟩ := hi
      refine lv_iload_n hx hb dX0_text_2 rfl (lv_at hl 2 rfl) ?_
      refine lv_aload_n hx hb dX0_text_3 rfl (lv_at hl 1 rfl) ?_
      refine W.room (fun kz_2 kt_2 => ?_)
      obtain ⟨-, -, kc_2, ks_2⟩ := hN.cells hC (by omega) kt_2
      refine vp_callSi (W.runV (As := []) (rest := [.int i]) ⟨hx, hb, hml, hown, hts⟩ (kJ0_length_8abf5 l dC dI ca base H h0 n) (cwV 0 hts gX0_text_J0_length_8abf5 rfl rfl rfl (by decide +kernel) ⟨by rw [← hR]; exact Nat.le_of_ble_eq_true rfl, by rw [← hR]; exact Nat.le_of_ble_eq_true rfl⟩) ⟨fun a U g mk q => by obtain ⟨q0, q1, q2, qK, q9⟩ := q; exact ⟨q0, q1, (q2.moved (Vm.Alike.refl U.vm)), jG.calling g mk a qK, q9⟩, jStr_recv hstr_h0 hS, fun U hU hW => ⟨rfl, hU, (hstr_h0.moved hW.alike).kept hS.2.1, hG.step hW hU hS, by omega⟩⟩ rfl rfl hl.1 rfl (lv_room (Nat.le_of_ble_eq_true rfl)) dX0_text_4 ⟨by rw [← hR]; exact kc_2, by rw [← hR]; exact ks_2⟩) (fun r_1 hr_1 => ?_)
      refine lv_icmp_ge (tgt := 25) hx hb dX0_text_7 (by decide) (fun c_3 => ?_) (fun c_3 => ?_)
      · skip
        have c_3' : i.toInt ≥ r_1.toInt := jb_ge (rfl) (rfl) c_3
        rw [hQ]
        refine W.room (fun kz kt => ?_)
        obtain ⟨-, -, kc, ks⟩ := hN.cells hC (by omega) kt
        refine W.widen (k := LC - s.heap.size) (n := LS - jTot s.heap) kc ks ?_
        exact W.vret hx hb hr (fun t ht hW => ⟨⟨(G, len, cnt), rfl, trivial, by simp only; rw [ht]; exact hC.le (by omega)⟩, by rw [ht]; exact hS.1, fun q h9 hq => by rw [ht]; exact hS.2.1 q h9 hq⟩) hS.2.2 dX0_text_25
      · skip
        have c_3' : i.toInt < r_1.toInt := jb_ge_n (rfl) (rfl) c_3
        refine lv_aload_n hx hb dX0_text_10 rfl (lv_at hl 0 rfl) ?_
        refine lv_aload_n hx hb dX0_text_11 rfl (lv_at hl 1 rfl) ?_
        refine lv_iload_n hx hb dX0_text_12 rfl (lv_at hl 2 rfl) ?_
        refine W.room (fun kz_5 kt_5 => ?_)
        obtain ⟨-, -, kc_5, ks_5⟩ := hN.cells hC (by omega) kt_5
        refine vp_callSi (W.runV (As := [.int i]) (rest := [.ref a]) ⟨hx, hb, hml, hown, hts⟩ (kJ0_charAt_5068e l dC dI ca base H h0 n i) (cwV 1 hts gX0_text_J0_charAt_5068e rfl rfl rfl (by decide +kernel) ⟨by rw [← hR]; exact Nat.le_of_ble_eq_true rfl, by rw [← hR]; exact Nat.le_of_ble_eq_true rfl⟩) ⟨fun a U g mk q => by obtain ⟨q0, q1, q2, qK, q9⟩ := q; exact ⟨q0, q1, (q2.moved (Vm.Alike.refl U.vm)), jG.calling g mk a qK, q9⟩, jStr_recv hstr_h0 hS, fun U hU hW => ⟨rfl, hU, (hstr_h0.moved hW.alike).kept hS.2.1, hG.step hW hU hS, ⟨by omega, by omega, by omega⟩⟩⟩ rfl rfl hl.1 rfl (lv_room (Nat.le_of_ble_eq_true rfl)) dX0_text_13 ⟨by rw [← hR]; exact kc_5, by rw [← hR]; exact ks_5⟩) (fun r_4 hr_4 => ?_)
        refine W.room (fun kz_6 kt_6 => ?_)
        obtain ⟨kc_6, ks_6, -, -⟩ := hN.cells hC (by omega) kt_6
        refine va_callv (A0 := jA base) (H0 := s.heap) (va_runV (As := [.int r_4]) (rest := []) ⟨hx, hb, hml, hown, hts⟩ (tX0_put l dC dI ca base LC LS B hB G X H a len cnt r_4) (cwV 1 hts gX0_text_X0_put rfl rfl rfl (by decide +kernel) ⟨by rw [← hR]; exact Nat.le_of_ble_eq_true rfl, by rw [← hR]; exact Nat.le_of_ble_eq_true rfl⟩) ⟨fun av U g mk q => ⟨q.1, jPre2.blind g mk av q.2⟩, hC.2.2.1.recv hK, fun U hU hW => ⟨rfl, jPre2.mk (K2 := 1) hG hW hU hS hN hga haX hX0 hC (by omega)⟩⟩ rfl rfl hl.1 rfl (lv_room (Nat.le_of_ble_eq_true rfl)) dX0_text_16 ⟨by rw [← hR]; exact kc_6, by rw [← hR]; exact ks_6⟩) hS (fun q _ h => h) (fun q h => h) (fun u t H_6 locs_6 ht_6 hvm_6 hw_6 hBb_6 hz_6 hk_6_ hS_6 => ?_)
        obtain ⟨G_6, len_6, cnt_6⟩ := u
        rw [ht_6] at hBb_6
        have hC_6 := hC.tr hBb_6
        clear hBb_6 ht_6 hvm_6 hw_6 hz_6 hk_6_ kc_6 ks_6 kz_6 kt_6
        obtain ⟨z_7, ez_7⟩ : ∃ y : Int32, y = i + 1 := ⟨_, rfl⟩
        refine lv_iinc (v := z_7) (lv' := [(2, .int z_7), (0, .ref a), (1, .ref h0)]) hx hb dX0_text_19 hl (k := 2) rfl (by rw [ez_7]; rfl) (by decide) rfl (fun ls hl => ?_)
        have hz_7 : z_7.toInt = i.toInt + 1 := by rw [ez_7]; exact jb_iadd (rfl) (by decide) (by omega) (by omega)
        refine lv_goto (tgt := 2) hx hb dX0_text_22 (by decide) ?_
        exact L2 z_7 G_6 len_6 cnt_6 H_6 locs_6 ((Kd + 1)) _ _ hC_6 hS_6 (⟨by omega, by omega, by omega⟩) (by omega) _ (lv_sub hl [1, 2, 0] rfl)
  exact L2 (n - (0 : Int32).toInt : Int).toNat.succ 0 G0 len0 cnt0 s.heap [] (0) _ _ hC hS (⟨by omega, by omega, by omega⟩) (by omega) _ (lv_sub hl [1, 2, 0] rfl)
set_option maxHeartbeats 4000000 in
set_option maxRecDepth 20000 in
theorem tX0_character (l : Launch) (dC : Nat → ClassId) (dI : Nat → Nat → Nat) (ca : Nat → ClassId) (base LC LS : Nat) (B : jF) (hB : jBok B) (G0 : jT) (X : List Nat) (H0 : Heap) (a len0 : Nat) (cnt0 : Int32) (v : Int32) : Met l yX0_character wsX0_character ({ frames := 3, cells := LC - H0.size, slots := LS - jTot H0, locals := 120 }) (va_Pc [.ref a, .int v] (fun U => jPre2 dC dI ca base B LC LS G0 X a len0 cnt0 (4) H0 U ∧ (True))) (va_Qv (S := jT × Nat × Int32) (fun _ => True) (fun u t => jPost2 dC dI ca base B G0 X a len0 cnt0 (4) H0 u t.heap) (jA base)) (LC - H0.size) (LS - jTot H0) (jA base) := by
  refine Met.ofW (cc := cX0_character) (maxL := 2) (ret := none) (by decide) rfl ?_
  intro p e s m args below meth c s₁ Bd hml hv
  obtain ⟨rfl, ⟨hH0, hX0, hBy0, hG, hga, haX, hN⟩, hpre⟩ := hv
  have hK := hG.1
  have hx := Bd.exec
  have hb := Bd.bytes
  have hr := Bd.returns
  have hts := atoms_spec (ws := wsX0_character) Bd.pre
  have hown : s.vm.findClass RX0 = some m.cls := findClass_of_methodNamed Bd.named
  have hlocks := Bd.notSynchronized
  obtain ⟨Q, hQ⟩ : ∃ Q, Q = MQ below (va_Qv (S := jT × Nat × Int32) (fun _ => True) (fun u t => jPost2 dC dI ca base B G0 X a len0 cnt0 (4) H0 u t.heap) (jA base)) ([.ref a, .int v] : List Value).toArray s (LC - H0.size) (LS - jTot H0) (jA base) := ⟨_, rfl⟩
  rw [← hQ]
  have hl := lv_entry ([.ref a, .int v]) (n := 2) (Nat.le_of_ble_eq_true rfl)
  rw [lg_entry_eq]
  generalize (lg_sl ([.ref a, .int v]) ++ List.replicate (2 - (lg_sl ([.ref a, .int v])).length) Slot.unset).toArray = ls at hl ⊢
  have hl : lv_has ls 2 [(0, .ref a), (1, .int v)] := hl
  generalize hR : (headSpec wsX0_character ({ frames := 3, cells := LC - H0.size, slots := LS - jTot H0, locals := 120 })).room = R
  subst hH0
  have hS : va_S (jA base) s.heap s.heap [] := va_S.rf
  have hC := hX0.rf2 hBy0 hN
  obtain ⟨hn1, hn2, hn3, hn4, -⟩ := id hN
  have hk0 : (0 : Int32).toInt = 0 := by decide
  have hk1 : (1 : Int32).toInt = 1 := by decide
  have hk6 : (6 : Int32).toInt = 6 := by decide
  have hk12 : (12 : Int32).toInt = 12 := by decide
  have hk18 : (18 : Int32).toInt = 18 := by decide
  have hk63 : (63 : Int32).toInt = 63 := by decide
  have hk128 : (128 : Int32).toInt = 128 := by decide
  have hk192 : (192 : Int32).toInt = 192 := by decide
  have hk224 : (224 : Int32).toInt = 224 := by decide
  have hk240 : (240 : Int32).toInt = 240 := by decide
  have hk2048 : (2048 : Int32).toInt = 2048 := by decide
  refine lv_iload_n hx hb dX0_character_0 rfl (lv_at hl 1 rfl) ?_
  refine lv_sipush (v := 128) hx hb dX0_character_1 (by decide) ?_
  refine lv_icmp_ge (tgt := 13) hx hb dX0_character_4 (by decide) (fun c_1 => ?_) (fun c_1 => ?_)
  · skip
    have c_1' : v.toInt ≥ 128 := jb_ge (rfl) ((by decide)) c_1
    refine lv_iload_n hx hb dX0_character_13 rfl (lv_at hl 1 rfl) ?_
    refine lv_sipush (v := 2048) hx hb dX0_character_14 (by decide) ?_
    refine lv_icmp_ge (tgt := 35) hx hb dX0_character_17 (by decide) (fun c_2 => ?_) (fun c_2 => ?_)
    · skip
      have c_2' : v.toInt ≥ 2048 := jb_ge (rfl) ((by decide)) c_2
      refine lv_iload_n hx hb dX0_character_35 rfl (lv_at hl 1 rfl) ?_
      refine lv_ldc hx hb hown (hts (.constant RX0 60 65536) (by decide +kernel)) dX0_character_36 ?_
      refine lv_icmp_ge (tgt := 56) hx hb dX0_character_38 (by decide) (fun c_3 => ?_) (fun c_3 => ?_)
      · skip
        have c_3' : v.toInt ≥ 65536 := jb_ge (rfl) ((by decide)) c_3
        refine lv_aload_n hx hb dX0_character_56 rfl (lv_at hl 0 rfl) ?_
        refine lv_sipush (v := 240) hx hb dX0_character_57 (by decide) ?_
        refine lv_iload_n hx hb dX0_character_60 rfl (lv_at hl 1 rfl) ?_
        refine lv_bipush (v := 18) hx hb dX0_character_61 (by decide) ?_
        refine lv_ishr hx hb dX0_character_63 ?_
        refine lv_topi (fun z_4 ez_4 => ?_)
        have hz_4 : z_4.toInt = v.toInt / 2 ^ 18 := by rw [ez_4]; exact jb_ishr 18 (rfl) (by decide)
        refine lv_ior hx hb dX0_character_64 ?_
        refine lv_topi (fun z_5 ez_5 => ?_)
        refine W.room (fun kz_6 kt_6 => ?_)
        obtain ⟨kc_6, ks_6, -, -⟩ := hN.cells hC (by omega) kt_6
        refine va_callv (A0 := jA base) (H0 := s.heap) (va_runV (As := [.int z_5]) (rest := []) ⟨hx, hb, hml, hown, hts⟩ (tX0_put l dC dI ca base LC LS B hB G0 X s.heap a len0 cnt0 z_5) (cwV 1 hts gX0_character_X0_put rfl rfl rfl (by decide +kernel) ⟨by rw [← hR]; exact Nat.le_of_ble_eq_true rfl, by rw [← hR]; exact Nat.le_of_ble_eq_true rfl⟩) ⟨fun av U g mk q => ⟨q.1, jPre2.blind g mk av q.2⟩, hC.2.2.1.recv hK, fun U hU hW => ⟨rfl, jPre2.mk (K2 := 1) hG hW hU hS hN hga haX hX0 hC (by omega)⟩⟩ rfl rfl hl.1 rfl (lv_room (Nat.le_of_ble_eq_true rfl)) dX0_character_65 ⟨by rw [← hR]; exact kc_6, by rw [← hR]; exact ks_6⟩) hS (fun q _ h => h) (fun q h => h) (fun u t H_6 locs_6 ht_6 hvm_6 hw_6 hBb_6 hz_6 hk_6_ hS_6 => ?_)
        obtain ⟨G_6, len_6, cnt_6⟩ := u
        rw [ht_6] at hBb_6
        have hC_6 := hC.tr hBb_6
        clear hBb_6 ht_6 hvm_6 hw_6 hz_6 hk_6_ kc_6 ks_6 kz_6 kt_6
        refine lv_aload_n hx hb dX0_character_68 rfl (lv_at hl 0 rfl) ?_
        refine lv_sipush (v := 128) hx hb dX0_character_69 (by decide) ?_
        refine lv_iload_n hx hb dX0_character_72 rfl (lv_at hl 1 rfl) ?_
        refine lv_bipush (v := 12) hx hb dX0_character_73 (by decide) ?_
        refine lv_ishr hx hb dX0_character_75 ?_
        refine lv_topi (fun z_7 ez_7 => ?_)
        have hz_7 : z_7.toInt = v.toInt / 2 ^ 12 := by rw [ez_7]; exact jb_ishr 12 (rfl) (by decide)
        refine lv_bipush (v := 63) hx hb dX0_character_76 (by decide) ?_
        refine lv_iand hx hb dX0_character_78 ?_
        refine lv_topi (fun z_8 ez_8 => ?_)
        have hz_8 : 0 ≤ z_8.toInt ∧ z_8.toInt ≤ 63 := by rw [ez_8]; exact jb_and z_7 (m := 63) (k := 6) (by decide) (by decide)
        refine lv_ior hx hb dX0_character_79 ?_
        refine lv_topi (fun z_9 ez_9 => ?_)
        refine W.room (fun kz_10 kt_10 => ?_)
        obtain ⟨kc_10, ks_10, -, -⟩ := hN.cells hC_6 (by omega) kt_10
        refine va_callv (A0 := jA base) (H0 := s.heap) (va_runV (As := [.int z_9]) (rest := []) ⟨hx, hb, hml, hown, hts⟩ (tX0_put l dC dI ca base LC LS B hB G_6 X H_6 a len_6 cnt_6 z_9) (cwV 1 hts gX0_character_X0_put rfl rfl rfl (by decide +kernel) ⟨by rw [← hR]; exact Nat.le_of_ble_eq_true rfl, by rw [← hR]; exact Nat.le_of_ble_eq_true rfl⟩) ⟨fun av U g mk q => ⟨q.1, jPre2.blind g mk av q.2⟩, hC_6.2.2.1.recv hK, fun U hU hW => ⟨rfl, jPre2.mk (K2 := 1) hG hW hU hS_6 hN hga haX hX0 hC_6 (by omega)⟩⟩ rfl rfl hl.1 rfl (lv_room (Nat.le_of_ble_eq_true rfl)) dX0_character_80 ⟨by rw [← hR]; exact kc_10, by rw [← hR]; exact ks_10⟩) hS_6 (fun q _ h => h) (fun q h => h) (fun u t H_10 locs_10 ht_10 hvm_10 hw_10 hBb_10 hz_10 hk_10_ hS_10 => ?_)
        obtain ⟨G_10, len_10, cnt_10⟩ := u
        rw [ht_10] at hBb_10
        have hC_10 := hC_6.tr hBb_10
        clear hBb_10 ht_10 hvm_10 hw_10 hz_10 hk_10_ kc_10 ks_10 kz_10 kt_10
        refine lv_aload_n hx hb dX0_character_83 rfl (lv_at hl 0 rfl) ?_
        refine lv_sipush (v := 128) hx hb dX0_character_84 (by decide) ?_
        refine lv_iload_n hx hb dX0_character_87 rfl (lv_at hl 1 rfl) ?_
        refine lv_bipush (v := 6) hx hb dX0_character_88 (by decide) ?_
        refine lv_ishr hx hb dX0_character_90 ?_
        refine lv_topi (fun z_11 ez_11 => ?_)
        have hz_11 : z_11.toInt = v.toInt / 2 ^ 6 := by rw [ez_11]; exact jb_ishr 6 (rfl) (by decide)
        refine lv_bipush (v := 63) hx hb dX0_character_91 (by decide) ?_
        refine lv_iand hx hb dX0_character_93 ?_
        refine lv_topi (fun z_12 ez_12 => ?_)
        have hz_12 : 0 ≤ z_12.toInt ∧ z_12.toInt ≤ 63 := by rw [ez_12]; exact jb_and z_11 (m := 63) (k := 6) (by decide) (by decide)
        refine lv_ior hx hb dX0_character_94 ?_
        refine lv_topi (fun z_13 ez_13 => ?_)
        refine W.room (fun kz_14 kt_14 => ?_)
        obtain ⟨kc_14, ks_14, -, -⟩ := hN.cells hC_10 (by omega) kt_14
        refine va_callv (A0 := jA base) (H0 := s.heap) (va_runV (As := [.int z_13]) (rest := []) ⟨hx, hb, hml, hown, hts⟩ (tX0_put l dC dI ca base LC LS B hB G_10 X H_10 a len_10 cnt_10 z_13) (cwV 1 hts gX0_character_X0_put rfl rfl rfl (by decide +kernel) ⟨by rw [← hR]; exact Nat.le_of_ble_eq_true rfl, by rw [← hR]; exact Nat.le_of_ble_eq_true rfl⟩) ⟨fun av U g mk q => ⟨q.1, jPre2.blind g mk av q.2⟩, hC_10.2.2.1.recv hK, fun U hU hW => ⟨rfl, jPre2.mk (K2 := 1) hG hW hU hS_10 hN hga haX hX0 hC_10 (by omega)⟩⟩ rfl rfl hl.1 rfl (lv_room (Nat.le_of_ble_eq_true rfl)) dX0_character_95 ⟨by rw [← hR]; exact kc_14, by rw [← hR]; exact ks_14⟩) hS_10 (fun q _ h => h) (fun q h => h) (fun u t H_14 locs_14 ht_14 hvm_14 hw_14 hBb_14 hz_14 hk_14_ hS_14 => ?_)
        obtain ⟨G_14, len_14, cnt_14⟩ := u
        rw [ht_14] at hBb_14
        have hC_14 := hC_10.tr hBb_14
        clear hBb_14 ht_14 hvm_14 hw_14 hz_14 hk_14_ kc_14 ks_14 kz_14 kt_14
        refine lv_aload_n hx hb dX0_character_98 rfl (lv_at hl 0 rfl) ?_
        refine lv_sipush (v := 128) hx hb dX0_character_99 (by decide) ?_
        refine lv_iload_n hx hb dX0_character_102 rfl (lv_at hl 1 rfl) ?_
        refine lv_bipush (v := 63) hx hb dX0_character_103 (by decide) ?_
        refine lv_iand hx hb dX0_character_105 ?_
        refine lv_topi (fun z_15 ez_15 => ?_)
        have hz_15 : 0 ≤ z_15.toInt ∧ z_15.toInt ≤ 63 := by rw [ez_15]; exact jb_and v (m := 63) (k := 6) (by decide) (by decide)
        refine lv_ior hx hb dX0_character_106 ?_
        refine lv_topi (fun z_16 ez_16 => ?_)
        refine W.room (fun kz_17 kt_17 => ?_)
        obtain ⟨kc_17, ks_17, -, -⟩ := hN.cells hC_14 (by omega) kt_17
        refine va_callv (A0 := jA base) (H0 := s.heap) (va_runV (As := [.int z_16]) (rest := []) ⟨hx, hb, hml, hown, hts⟩ (tX0_put l dC dI ca base LC LS B hB G_14 X H_14 a len_14 cnt_14 z_16) (cwV 1 hts gX0_character_X0_put rfl rfl rfl (by decide +kernel) ⟨by rw [← hR]; exact Nat.le_of_ble_eq_true rfl, by rw [← hR]; exact Nat.le_of_ble_eq_true rfl⟩) ⟨fun av U g mk q => ⟨q.1, jPre2.blind g mk av q.2⟩, hC_14.2.2.1.recv hK, fun U hU hW => ⟨rfl, jPre2.mk (K2 := 1) hG hW hU hS_14 hN hga haX hX0 hC_14 (by omega)⟩⟩ rfl rfl hl.1 rfl (lv_room (Nat.le_of_ble_eq_true rfl)) dX0_character_107 ⟨by rw [← hR]; exact kc_17, by rw [← hR]; exact ks_17⟩) hS_14 (fun q _ h => h) (fun q h => h) (fun u t H_17 locs_17 ht_17 hvm_17 hw_17 hBb_17 hz_17 hk_17_ hS_17 => ?_)
        obtain ⟨G_17, len_17, cnt_17⟩ := u
        rw [ht_17] at hBb_17
        have hC_17 := hC_14.tr hBb_17
        clear hBb_17 ht_17 hvm_17 hw_17 hz_17 hk_17_ kc_17 ks_17 kz_17 kt_17
        rw [hQ]
        refine W.room (fun kz kt => ?_)
        obtain ⟨-, -, kc, ks⟩ := hN.cells hC_17 (by omega) kt
        refine W.widen (k := LC - s.heap.size) (n := LS - jTot s.heap) kc ks ?_
        exact W.vret hx hb hr (fun t ht hW => ⟨⟨(G_17, len_17, cnt_17), rfl, trivial, by simp only; rw [ht]; exact hC_17.le (by omega)⟩, by rw [ht]; exact hS_17.1, fun q h9 hq => by rw [ht]; exact hS_17.2.1 q h9 hq⟩) hS_17.2.2 dX0_character_110
      · skip
        have c_3' : v.toInt < 65536 := jb_ge_n (rfl) ((by decide)) c_3
        refine lv_aload_n hx hb dX0_character_41 rfl (lv_at hl 0 rfl) ?_
        refine lv_sipush (v := 224) hx hb dX0_character_42 (by decide) ?_
        refine lv_iload_n hx hb dX0_character_45 rfl (lv_at hl 1 rfl) ?_
        refine lv_bipush (v := 12) hx hb dX0_character_46 (by decide) ?_
        refine lv_ishr hx hb dX0_character_48 ?_
        refine lv_topi (fun z_18 ez_18 => ?_)
        have hz_18 : z_18.toInt = v.toInt / 2 ^ 12 := by rw [ez_18]; exact jb_ishr 12 (rfl) (by decide)
        refine lv_ior hx hb dX0_character_49 ?_
        refine lv_topi (fun z_19 ez_19 => ?_)
        refine W.room (fun kz_20 kt_20 => ?_)
        obtain ⟨kc_20, ks_20, -, -⟩ := hN.cells hC (by omega) kt_20
        refine va_callv (A0 := jA base) (H0 := s.heap) (va_runV (As := [.int z_19]) (rest := []) ⟨hx, hb, hml, hown, hts⟩ (tX0_put l dC dI ca base LC LS B hB G0 X s.heap a len0 cnt0 z_19) (cwV 1 hts gX0_character_X0_put rfl rfl rfl (by decide +kernel) ⟨by rw [← hR]; exact Nat.le_of_ble_eq_true rfl, by rw [← hR]; exact Nat.le_of_ble_eq_true rfl⟩) ⟨fun av U g mk q => ⟨q.1, jPre2.blind g mk av q.2⟩, hC.2.2.1.recv hK, fun U hU hW => ⟨rfl, jPre2.mk (K2 := 1) hG hW hU hS hN hga haX hX0 hC (by omega)⟩⟩ rfl rfl hl.1 rfl (lv_room (Nat.le_of_ble_eq_true rfl)) dX0_character_50 ⟨by rw [← hR]; exact kc_20, by rw [← hR]; exact ks_20⟩) hS (fun q _ h => h) (fun q h => h) (fun u t H_20 locs_20 ht_20 hvm_20 hw_20 hBb_20 hz_20 hk_20_ hS_20 => ?_)
        obtain ⟨G_20, len_20, cnt_20⟩ := u
        rw [ht_20] at hBb_20
        have hC_20 := hC.tr hBb_20
        clear hBb_20 ht_20 hvm_20 hw_20 hz_20 hk_20_ kc_20 ks_20 kz_20 kt_20
        refine lv_goto (tgt := 83) hx hb dX0_character_53 (by decide) ?_
        refine lv_aload_n hx hb dX0_character_83 rfl (lv_at hl 0 rfl) ?_
        refine lv_sipush (v := 128) hx hb dX0_character_84 (by decide) ?_
        refine lv_iload_n hx hb dX0_character_87 rfl (lv_at hl 1 rfl) ?_
        refine lv_bipush (v := 6) hx hb dX0_character_88 (by decide) ?_
        refine lv_ishr hx hb dX0_character_90 ?_
        refine lv_topi (fun z_21 ez_21 => ?_)
        have hz_21 : z_21.toInt = v.toInt / 2 ^ 6 := by rw [ez_21]; exact jb_ishr 6 (rfl) (by decide)
        refine lv_bipush (v := 63) hx hb dX0_character_91 (by decide) ?_
        refine lv_iand hx hb dX0_character_93 ?_
        refine lv_topi (fun z_22 ez_22 => ?_)
        have hz_22 : 0 ≤ z_22.toInt ∧ z_22.toInt ≤ 63 := by rw [ez_22]; exact jb_and z_21 (m := 63) (k := 6) (by decide) (by decide)
        refine lv_ior hx hb dX0_character_94 ?_
        refine lv_topi (fun z_23 ez_23 => ?_)
        refine W.room (fun kz_24 kt_24 => ?_)
        obtain ⟨kc_24, ks_24, -, -⟩ := hN.cells hC_20 (by omega) kt_24
        refine va_callv (A0 := jA base) (H0 := s.heap) (va_runV (As := [.int z_23]) (rest := []) ⟨hx, hb, hml, hown, hts⟩ (tX0_put l dC dI ca base LC LS B hB G_20 X H_20 a len_20 cnt_20 z_23) (cwV 1 hts gX0_character_X0_put rfl rfl rfl (by decide +kernel) ⟨by rw [← hR]; exact Nat.le_of_ble_eq_true rfl, by rw [← hR]; exact Nat.le_of_ble_eq_true rfl⟩) ⟨fun av U g mk q => ⟨q.1, jPre2.blind g mk av q.2⟩, hC_20.2.2.1.recv hK, fun U hU hW => ⟨rfl, jPre2.mk (K2 := 1) hG hW hU hS_20 hN hga haX hX0 hC_20 (by omega)⟩⟩ rfl rfl hl.1 rfl (lv_room (Nat.le_of_ble_eq_true rfl)) dX0_character_95 ⟨by rw [← hR]; exact kc_24, by rw [← hR]; exact ks_24⟩) hS_20 (fun q _ h => h) (fun q h => h) (fun u t H_24 locs_24 ht_24 hvm_24 hw_24 hBb_24 hz_24 hk_24_ hS_24 => ?_)
        obtain ⟨G_24, len_24, cnt_24⟩ := u
        rw [ht_24] at hBb_24
        have hC_24 := hC_20.tr hBb_24
        clear hBb_24 ht_24 hvm_24 hw_24 hz_24 hk_24_ kc_24 ks_24 kz_24 kt_24
        refine lv_aload_n hx hb dX0_character_98 rfl (lv_at hl 0 rfl) ?_
        refine lv_sipush (v := 128) hx hb dX0_character_99 (by decide) ?_
        refine lv_iload_n hx hb dX0_character_102 rfl (lv_at hl 1 rfl) ?_
        refine lv_bipush (v := 63) hx hb dX0_character_103 (by decide) ?_
        refine lv_iand hx hb dX0_character_105 ?_
        refine lv_topi (fun z_25 ez_25 => ?_)
        have hz_25 : 0 ≤ z_25.toInt ∧ z_25.toInt ≤ 63 := by rw [ez_25]; exact jb_and v (m := 63) (k := 6) (by decide) (by decide)
        refine lv_ior hx hb dX0_character_106 ?_
        refine lv_topi (fun z_26 ez_26 => ?_)
        refine W.room (fun kz_27 kt_27 => ?_)
        obtain ⟨kc_27, ks_27, -, -⟩ := hN.cells hC_24 (by omega) kt_27
        refine va_callv (A0 := jA base) (H0 := s.heap) (va_runV (As := [.int z_26]) (rest := []) ⟨hx, hb, hml, hown, hts⟩ (tX0_put l dC dI ca base LC LS B hB G_24 X H_24 a len_24 cnt_24 z_26) (cwV 1 hts gX0_character_X0_put rfl rfl rfl (by decide +kernel) ⟨by rw [← hR]; exact Nat.le_of_ble_eq_true rfl, by rw [← hR]; exact Nat.le_of_ble_eq_true rfl⟩) ⟨fun av U g mk q => ⟨q.1, jPre2.blind g mk av q.2⟩, hC_24.2.2.1.recv hK, fun U hU hW => ⟨rfl, jPre2.mk (K2 := 1) hG hW hU hS_24 hN hga haX hX0 hC_24 (by omega)⟩⟩ rfl rfl hl.1 rfl (lv_room (Nat.le_of_ble_eq_true rfl)) dX0_character_107 ⟨by rw [← hR]; exact kc_27, by rw [← hR]; exact ks_27⟩) hS_24 (fun q _ h => h) (fun q h => h) (fun u t H_27 locs_27 ht_27 hvm_27 hw_27 hBb_27 hz_27 hk_27_ hS_27 => ?_)
        obtain ⟨G_27, len_27, cnt_27⟩ := u
        rw [ht_27] at hBb_27
        have hC_27 := hC_24.tr hBb_27
        clear hBb_27 ht_27 hvm_27 hw_27 hz_27 hk_27_ kc_27 ks_27 kz_27 kt_27
        rw [hQ]
        refine W.room (fun kz kt => ?_)
        obtain ⟨-, -, kc, ks⟩ := hN.cells hC_27 (by omega) kt
        refine W.widen (k := LC - s.heap.size) (n := LS - jTot s.heap) kc ks ?_
        exact W.vret hx hb hr (fun t ht hW => ⟨⟨(G_27, len_27, cnt_27), rfl, trivial, by simp only; rw [ht]; exact hC_27.le (by omega)⟩, by rw [ht]; exact hS_27.1, fun q h9 hq => by rw [ht]; exact hS_27.2.1 q h9 hq⟩) hS_27.2.2 dX0_character_110
    · skip
      have c_2' : v.toInt < 2048 := jb_ge_n (rfl) ((by decide)) c_2
      refine lv_aload_n hx hb dX0_character_20 rfl (lv_at hl 0 rfl) ?_
      refine lv_sipush (v := 192) hx hb dX0_character_21 (by decide) ?_
      refine lv_iload_n hx hb dX0_character_24 rfl (lv_at hl 1 rfl) ?_
      refine lv_bipush (v := 6) hx hb dX0_character_25 (by decide) ?_
      refine lv_ishr hx hb dX0_character_27 ?_
      refine lv_topi (fun z_28 ez_28 => ?_)
      have hz_28 : z_28.toInt = v.toInt / 2 ^ 6 := by rw [ez_28]; exact jb_ishr 6 (rfl) (by decide)
      refine lv_ior hx hb dX0_character_28 ?_
      refine lv_topi (fun z_29 ez_29 => ?_)
      refine W.room (fun kz_30 kt_30 => ?_)
      obtain ⟨kc_30, ks_30, -, -⟩ := hN.cells hC (by omega) kt_30
      refine va_callv (A0 := jA base) (H0 := s.heap) (va_runV (As := [.int z_29]) (rest := []) ⟨hx, hb, hml, hown, hts⟩ (tX0_put l dC dI ca base LC LS B hB G0 X s.heap a len0 cnt0 z_29) (cwV 1 hts gX0_character_X0_put rfl rfl rfl (by decide +kernel) ⟨by rw [← hR]; exact Nat.le_of_ble_eq_true rfl, by rw [← hR]; exact Nat.le_of_ble_eq_true rfl⟩) ⟨fun av U g mk q => ⟨q.1, jPre2.blind g mk av q.2⟩, hC.2.2.1.recv hK, fun U hU hW => ⟨rfl, jPre2.mk (K2 := 1) hG hW hU hS hN hga haX hX0 hC (by omega)⟩⟩ rfl rfl hl.1 rfl (lv_room (Nat.le_of_ble_eq_true rfl)) dX0_character_29 ⟨by rw [← hR]; exact kc_30, by rw [← hR]; exact ks_30⟩) hS (fun q _ h => h) (fun q h => h) (fun u t H_30 locs_30 ht_30 hvm_30 hw_30 hBb_30 hz_30 hk_30_ hS_30 => ?_)
      obtain ⟨G_30, len_30, cnt_30⟩ := u
      rw [ht_30] at hBb_30
      have hC_30 := hC.tr hBb_30
      clear hBb_30 ht_30 hvm_30 hw_30 hz_30 hk_30_ kc_30 ks_30 kz_30 kt_30
      refine lv_goto (tgt := 98) hx hb dX0_character_32 (by decide) ?_
      refine lv_aload_n hx hb dX0_character_98 rfl (lv_at hl 0 rfl) ?_
      refine lv_sipush (v := 128) hx hb dX0_character_99 (by decide) ?_
      refine lv_iload_n hx hb dX0_character_102 rfl (lv_at hl 1 rfl) ?_
      refine lv_bipush (v := 63) hx hb dX0_character_103 (by decide) ?_
      refine lv_iand hx hb dX0_character_105 ?_
      refine lv_topi (fun z_31 ez_31 => ?_)
      have hz_31 : 0 ≤ z_31.toInt ∧ z_31.toInt ≤ 63 := by rw [ez_31]; exact jb_and v (m := 63) (k := 6) (by decide) (by decide)
      refine lv_ior hx hb dX0_character_106 ?_
      refine lv_topi (fun z_32 ez_32 => ?_)
      refine W.room (fun kz_33 kt_33 => ?_)
      obtain ⟨kc_33, ks_33, -, -⟩ := hN.cells hC_30 (by omega) kt_33
      refine va_callv (A0 := jA base) (H0 := s.heap) (va_runV (As := [.int z_32]) (rest := []) ⟨hx, hb, hml, hown, hts⟩ (tX0_put l dC dI ca base LC LS B hB G_30 X H_30 a len_30 cnt_30 z_32) (cwV 1 hts gX0_character_X0_put rfl rfl rfl (by decide +kernel) ⟨by rw [← hR]; exact Nat.le_of_ble_eq_true rfl, by rw [← hR]; exact Nat.le_of_ble_eq_true rfl⟩) ⟨fun av U g mk q => ⟨q.1, jPre2.blind g mk av q.2⟩, hC_30.2.2.1.recv hK, fun U hU hW => ⟨rfl, jPre2.mk (K2 := 1) hG hW hU hS_30 hN hga haX hX0 hC_30 (by omega)⟩⟩ rfl rfl hl.1 rfl (lv_room (Nat.le_of_ble_eq_true rfl)) dX0_character_107 ⟨by rw [← hR]; exact kc_33, by rw [← hR]; exact ks_33⟩) hS_30 (fun q _ h => h) (fun q h => h) (fun u t H_33 locs_33 ht_33 hvm_33 hw_33 hBb_33 hz_33 hk_33_ hS_33 => ?_)
      obtain ⟨G_33, len_33, cnt_33⟩ := u
      rw [ht_33] at hBb_33
      have hC_33 := hC_30.tr hBb_33
      clear hBb_33 ht_33 hvm_33 hw_33 hz_33 hk_33_ kc_33 ks_33 kz_33 kt_33
      rw [hQ]
      refine W.room (fun kz kt => ?_)
      obtain ⟨-, -, kc, ks⟩ := hN.cells hC_33 (by omega) kt
      refine W.widen (k := LC - s.heap.size) (n := LS - jTot s.heap) kc ks ?_
      exact W.vret hx hb hr (fun t ht hW => ⟨⟨(G_33, len_33, cnt_33), rfl, trivial, by simp only; rw [ht]; exact hC_33.le (by omega)⟩, by rw [ht]; exact hS_33.1, fun q h9 hq => by rw [ht]; exact hS_33.2.1 q h9 hq⟩) hS_33.2.2 dX0_character_110
  · skip
    have c_1' : v.toInt < 128 := jb_ge_n (rfl) ((by decide)) c_1
    refine lv_aload_n hx hb dX0_character_7 rfl (lv_at hl 0 rfl) ?_
    refine lv_iload_n hx hb dX0_character_8 rfl (lv_at hl 1 rfl) ?_
    refine W.room (fun kz_34 kt_34 => ?_)
    obtain ⟨kc_34, ks_34, -, -⟩ := hN.cells hC (by omega) kt_34
    refine va_callv (A0 := jA base) (H0 := s.heap) (va_runV (As := [.int v]) (rest := []) ⟨hx, hb, hml, hown, hts⟩ (tX0_put l dC dI ca base LC LS B hB G0 X s.heap a len0 cnt0 v) (cwV 1 hts gX0_character_X0_put rfl rfl rfl (by decide +kernel) ⟨by rw [← hR]; exact Nat.le_of_ble_eq_true rfl, by rw [← hR]; exact Nat.le_of_ble_eq_true rfl⟩) ⟨fun av U g mk q => ⟨q.1, jPre2.blind g mk av q.2⟩, hC.2.2.1.recv hK, fun U hU hW => ⟨rfl, jPre2.mk (K2 := 1) hG hW hU hS hN hga haX hX0 hC (by omega)⟩⟩ rfl rfl hl.1 rfl (lv_room (Nat.le_of_ble_eq_true rfl)) dX0_character_9 ⟨by rw [← hR]; exact kc_34, by rw [← hR]; exact ks_34⟩) hS (fun q _ h => h) (fun q h => h) (fun u t H_34 locs_34 ht_34 hvm_34 hw_34 hBb_34 hz_34 hk_34_ hS_34 => ?_)
    obtain ⟨G_34, len_34, cnt_34⟩ := u
    rw [ht_34] at hBb_34
    have hC_34 := hC.tr hBb_34
    clear hBb_34 ht_34 hvm_34 hw_34 hz_34 hk_34_ kc_34 ks_34 kz_34 kt_34
    rw [hQ]
    refine W.room (fun kz kt => ?_)
    obtain ⟨-, -, kc, ks⟩ := hN.cells hC_34 (by omega) kt
    refine W.widen (k := LC - s.heap.size) (n := LS - jTot s.heap) kc ks ?_
    exact W.vret hx hb hr (fun t ht hW => ⟨⟨(G_34, len_34, cnt_34), rfl, trivial, by simp only; rw [ht]; exact hC_34.le (by omega)⟩, by rw [ht]; exact hS_34.1, fun q h9 hq => by rw [ht]; exact hS_34.2.1 q h9 hq⟩) hS_34.2.2 dX0_character_12
