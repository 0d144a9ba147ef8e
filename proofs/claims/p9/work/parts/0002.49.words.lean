section
abbrev cX0_init : ByteArray := prog_2_method_1_code
def yX0_init : MethodName := ⟨RX0, "<init>", "(I)V"⟩
abbrev wsX10 : List Cond := u_ws RX1 TX1 17
abbrev cX1_init : ByteArray := prog_3_method_1_code
def yX1_init : MethodName := ⟨RX1, "<init>", "()V"⟩
abbrev cX1_copyText : ByteArray := prog_3_method_2_code
def yX1_copyText : MethodName := ⟨RX1, "copyText", "(LProofServer$Document;)V"⟩
abbrev cX1_replace : ByteArray := prog_3_method_3_code
def yX1_replace : MethodName := ⟨RX1, "replace", "(IILProofServer$Json;I)Z"⟩
abbrev cX1_decode : ByteArray := prog_3_method_4_code
def yX1_decode : MethodName := ⟨RX1, "decode", "([BI)Z"⟩
abbrev cX1_stateBehind : ByteArray := prog_3_method_5_code
def yX1_stateBehind : MethodName := ⟨RX1, "stateBehind", "(ILProofServer$State;)LProofServer$State;"⟩
abbrev cX1_endedBy : ByteArray := prog_3_method_6_code
def yX1_endedBy : MethodName := ⟨RX1, "endedBy", "(I)I"⟩
abbrev cX1_earlyFault : ByteArray := prog_3_method_7_code
def yX1_earlyFault : MethodName := ⟨RX1, "earlyFault", "()I"⟩
abbrev cX1_addChecked : ByteArray := prog_3_method_8_code
def yX1_addChecked : MethodName := ⟨RX1, "addChecked", "(LProofServer$State;)V"⟩
abbrev cX1_isSentence : ByteArray := prog_3_method_9_code
def yX1_isSentence : MethodName := ⟨RX1, "isSentence", "(I[I)Z"⟩
abbrev cX1_part : ByteArray := prog_3_method_10_code
def yX1_part : MethodName := ⟨RX1, "part", "(LProofServer$Syntax;)V"⟩
abbrev cX1_sentenceBegin : ByteArray := prog_3_method_11_code
def yX1_sentenceBegin : MethodName := ⟨RX1, "sentenceBegin", "(I)I"⟩
abbrev cX1_sentenceEnd : ByteArray := prog_3_method_12_code
def yX1_sentenceEnd : MethodName := ⟨RX1, "sentenceEnd", "(I)I"⟩
abbrev cX1_keepChecked : ByteArray := prog_3_method_13_code
def yX1_keepChecked : MethodName := ⟨RX1, "keepChecked", "()Z"⟩
abbrev cX1_placeOf : ByteArray := prog_3_method_14_code
def yX1_placeOf : MethodName := ⟨RX1, "placeOf", "(II)I"⟩
abbrev cX1_endsLine : ByteArray := prog_3_method_15_code
def yX1_endsLine : MethodName := ⟨RX1, "endsLine", "(I)Z"⟩
abbrev cX1_rewind : ByteArray := prog_3_method_16_code
def yX1_rewind : MethodName := ⟨RX1, "rewind", "()V"⟩
abbrev cX1_seek : ByteArray := prog_3_method_17_code
def yX1_seek : MethodName := ⟨RX1, "seek", "(I)V"⟩
abbrev wsX20 : List Cond := u_ws RX2 TX2 12
abbrev cX2_init : ByteArray := prog_4_method_1_code
def yX2_init : MethodName := ⟨RX2, "<init>", "()V"⟩
abbrev cX2_accept : ByteArray := prog_4_method_2_code
def yX2_accept : MethodName := ⟨RX2, "accept", "(I)Z"⟩
abbrev cX2_isHeader : ByteArray := prog_4_method_3_code
def yX2_isHeader : MethodName := ⟨RX2, "isHeader", "(I)Z"⟩
abbrev cX2_isLineBegin : ByteArray := prog_4_method_4_code
def yX2_isLineBegin : MethodName := ⟨RX2, "isLineBegin", "(I)Z"⟩
abbrev cX2_isInName : ByteArray := prog_4_method_5_code
def yX2_isInName : MethodName := ⟨RX2, "isInName", "(I)Z"⟩
abbrev cX2_isInValue : ByteArray := prog_4_method_6_code
def yX2_isInValue : MethodName := ⟨RX2, "isInValue", "(I)Z"⟩
abbrev cX2_isInLength : ByteArray := prog_4_method_7_code
def yX2_isInLength : MethodName := ⟨RX2, "isInLength", "(I)Z"⟩
abbrev wsX30 : List Cond := u_ws RX3 TX3 4
abbrev cX3_init : ByteArray := prog_5_method_1_code
def yX3_init : MethodName := ⟨RX3, "<init>", "([I[I[[I[I)V"⟩
abbrev cX3_withFormula : ByteArray := prog_5_method_2_code
def yX3_withFormula : MethodName := ⟨RX3, "withFormula", "([I)LProofServer$Goal;"⟩
abbrev cX3_withVariable : ByteArray := prog_5_method_3_code
def yX3_withVariable : MethodName := ⟨RX3, "withVariable", "(I[I)LProofServer$Goal;"⟩
abbrev cX3_withHypothesis : ByteArray := prog_5_method_4_code
def yX3_withHypothesis : MethodName := ⟨RX3, "withHypothesis", "(I[I[I)LProofServer$Goal;"⟩
abbrev cX3_without : ByteArray := prog_5_method_5_code
def yX3_without : MethodName := ⟨RX3, "without", "(I)LProofServer$Goal;"⟩
abbrev cX3_fits : ByteArray := prog_5_method_6_code
def yX3_fits : MethodName := ⟨RX3, "fits", "()Z"⟩
abbrev wsX40 : List Cond := u_ws RX4 TX4 12
abbrev cX4_init : ByteArray := prog_6_method_1_code
def yX4_init : MethodName := ⟨RX4, "<init>", "()V"⟩
abbrev cX4_read : ByteArray := prog_6_method_2_code
def yX4_read : MethodName := ⟨RX4, "read", "([BI)Z"⟩
abbrev cX4_kindOf : ByteArray := prog_6_method_3_code
def yX4_kindOf : MethodName := ⟨RX4, "kindOf", "(I)I"⟩
abbrev cX4_sizeOf : ByteArray := prog_6_method_4_code
def yX4_sizeOf : MethodName := ⟨RX4, "sizeOf", "(I)I"⟩
abbrev cX4_valueOf : ByteArray := prog_6_method_5_code
def yX4_valueOf : MethodName := ⟨RX4, "valueOf", "(I)I"⟩
abbrev cX4_firstOf : ByteArray := prog_6_method_6_code
def yX4_firstOf : MethodName := ⟨RX4, "firstOf", "(I)I"⟩
abbrev cX4_nextOf : ByteArray := prog_6_method_7_code
def yX4_nextOf : MethodName := ⟨RX4, "nextOf", "(I)I"⟩
abbrev cX4_member : ByteArray := prog_6_method_8_code
def yX4_member : MethodName := ⟨RX4, "member", "(ILjava/lang/String;)I"⟩
abbrev cX4_isText : ByteArray := prog_6_method_9_code
def yX4_isText : MethodName := ⟨RX4, "isText", "(ILjava/lang/String;)Z"⟩
abbrev cX4_areUnits : ByteArray := prog_6_method_10_code
def yX4_areUnits : MethodName := ⟨RX4, "areUnits", "(IILjava/lang/String;)Z"⟩
abbrev cX4_isUnits : ByteArray := prog_6_method_11_code
def yX4_isUnits : MethodName := ⟨RX4, "isUnits", "(I[I)Z"⟩
abbrev cX4_unitAt : ByteArray := prog_6_method_12_code
def yX4_unitAt : MethodName := ⟨RX4, "unitAt", "(II)I"⟩
abbrev cX4_unitsOf : ByteArray := prog_6_method_13_code
def yX4_unitsOf : MethodName := ⟨RX4, "unitsOf", "(I)[I"⟩
abbrev cX4_peek : ByteArray := prog_6_method_14_code
def yX4_peek : MethodName := ⟨RX4, "peek", "()I"⟩
abbrev cX4_skipBlanks : ByteArray := prog_6_method_15_code
def yX4_skipBlanks : MethodName := ⟨RX4, "skipBlanks", "()V"⟩
abbrev cX4_make : ByteArray := prog_6_method_16_code
def yX4_make : MethodName := ⟨RX4, "make", "(III)I"⟩
abbrev cX4_value : ByteArray := prog_6_method_17_code
def yX4_value : MethodName := ⟨RX4, "value", "(I)I"⟩
abbrev cX4_holder : ByteArray := prog_6_method_18_code
def yX4_holder : MethodName := ⟨RX4, "holder", "(IZ)I"⟩
abbrev cX4_isColon : ByteArray := prog_6_method_19_code
def yX4_isColon : MethodName := ⟨RX4, "isColon", "()Z"⟩
abbrev cX4_isWord : ByteArray := prog_6_method_20_code
def yX4_isWord : MethodName := ⟨RX4, "isWord", "(Ljava/lang/String;)Z"⟩
abbrev cX4_number : ByteArray := prog_6_method_21_code
def yX4_number : MethodName := ⟨RX4, "number", "()I"⟩
abbrev cX4_digits : ByteArray := prog_6_method_22_code
def yX4_digits : MethodName := ⟨RX4, "digits", "()I"⟩
abbrev cX4_isString : ByteArray := prog_6_method_23_code
def yX4_isString : MethodName := ⟨RX4, "isString", "()Z"⟩
abbrev cX4_addChar : ByteArray := prog_6_method_24_code
def yX4_addChar : MethodName := ⟨RX4, "addChar", "(I)V"⟩
abbrev cX4_addUnit : ByteArray := prog_6_method_25_code
def yX4_addUnit : MethodName := ⟨RX4, "addUnit", "(I)V"⟩
abbrev cX4_isEscape : ByteArray := prog_6_method_26_code
def yX4_isEscape : MethodName := ⟨RX4, "isEscape", "()Z"⟩
abbrev cX4_isUnitEscape : ByteArray := prog_6_method_27_code
def yX4_isUnitEscape : MethodName := ⟨RX4, "isUnitEscape", "()Z"⟩
abbrev cX4_fourDigits : ByteArray := prog_6_method_28_code
def yX4_fourDigits : MethodName := ⟨RX4, "fourDigits", "()I"⟩
abbrev wsX50 : List Cond := u_ws RX5 TX5 11
abbrev cX5_init : ByteArray := prog_7_method_1_code
def yX5_init : MethodName := ⟨RX5, "<init>", "()V"⟩
abbrev cX5_check : ByteArray := prog_7_method_2_code
def yX5_check : MethodName := ⟨RX5, "check", "(LProofServer$State;[II)LProofServer$State;"⟩
abbrev cX5_declare : ByteArray := prog_7_method_3_code
def yX5_declare : MethodName := ⟨RX5, "declare", "(LProofServer$State;)I"⟩
abbrev cX5_propose : ByteArray := prog_7_method_4_code
def yX5_propose : MethodName := ⟨RX5, "propose", "(LProofServer$State;)I"⟩
abbrev cX5_leaveProof : ByteArray := prog_7_method_5_code
def yX5_leaveProof : MethodName := ⟨RX5, "leaveProof", "(LProofServer$State;)I"⟩
abbrev cX5_tactic : ByteArray := prog_7_method_6_code
def yX5_tactic : MethodName := ⟨RX5, "tactic", "(LProofServer$State;)I"⟩
abbrev cX5_nameFault : ByteArray := prog_7_method_7_code
def yX5_nameFault : MethodName := ⟨RX5, "nameFault", "(LProofServer$State;LProofServer$Goal;)I"⟩
abbrev cX5_isTaken : ByteArray := prog_7_method_8_code
def yX5_isTaken : MethodName := ⟨RX5, "isTaken", "(LProofServer$State;LProofServer$Goal;I)Z"⟩
abbrev cX5_named : ByteArray := prog_7_method_9_code
def yX5_named : MethodName := ⟨RX5, "named", "(LProofServer$State;LProofServer$Goal;I)[I"⟩
abbrev cX5_isResolved : ByteArray := prog_7_method_10_code
def yX5_isResolved : MethodName := ⟨RX5, "isResolved", "(LProofServer$State;LProofServer$Goal;)Z"⟩
abbrev cX5_resolved : ByteArray := prog_7_method_11_code
def yX5_resolved : MethodName := ⟨RX5, "resolved", "(LProofServer$State;LProofServer$Goal;II)I"⟩
abbrev cX5_act : ByteArray := prog_7_method_12_code
def yX5_act : MethodName := ⟨RX5, "act", "(LProofServer$Goal;[I)I"⟩
abbrev cX5_intro : ByteArray := prog_7_method_13_code
def yX5_intro : MethodName := ⟨RX5, "intro", "(LProofServer$Goal;II)I"⟩
abbrev cX5_addSide : ByteArray := prog_7_method_14_code
def yX5_addSide : MethodName := ⟨RX5, "addSide", "(LProofServer$Goal;ZII)I"⟩
abbrev cX5_leadingBound : ByteArray := prog_7_method_15_code
def yX5_leadingBound : MethodName := ⟨RX5, "leadingBound", "([I)I"⟩
abbrev cX5_premisesFor : ByteArray := prog_7_method_16_code
def yX5_premisesFor : MethodName := ⟨RX5, "premisesFor", "([I[I)I"⟩
abbrev cX5_addPremises : ByteArray := prog_7_method_17_code
def yX5_addPremises : MethodName := ⟨RX5, "addPremises", "(LProofServer$Goal;[II)I"⟩
abbrev cX5_cases : ByteArray := prog_7_method_18_code
def yX5_cases : MethodName := ⟨RX5, "cases", "(LProofServer$Goal;)I"⟩
abbrev cX5_use : ByteArray := prog_7_method_19_code
def yX5_use : MethodName := ⟨RX5, "use", "(LProofServer$Goal;[I)I"⟩
abbrev cX5_have : ByteArray := prog_7_method_20_code
def yX5_have : MethodName := ⟨RX5, "have", "(LProofServer$Goal;)I"⟩
abbrev cX5_rewrite : ByteArray := prog_7_method_21_code
def yX5_rewrite : MethodName := ⟨RX5, "rewrite", "(LProofServer$Goal;[I)I"⟩
abbrev cX5_add : ByteArray := prog_7_method_22_code
def yX5_add : MethodName := ⟨RX5, "add", "(LProofServer$Goal;)I"⟩
abbrev cX5_putFresh : ByteArray := prog_7_method_23_code
def yX5_putFresh : MethodName := ⟨RX5, "putFresh", "(LProofServer$State;)I"⟩
abbrev cX5_part : ByteArray := prog_7_method_24_code
def yX5_part : MethodName := ⟨RX5, "part", "([III)[I"⟩
abbrev cX5_areSame : ByteArray := prog_7_method_26_code
def yX5_areSame : MethodName := ⟨RX5, "areSame", "([I[I)Z"⟩
abbrev cX5_standsAt : ByteArray := prog_7_method_27_code
def yX5_standsAt : MethodName := ⟨RX5, "standsAt", "([II[III)Z"⟩
abbrev cX5_matches : ByteArray := prog_7_method_28_code
def yX5_matches : MethodName := ⟨RX5, "matches", "([III[I)Z"⟩
abbrev cX5_tells : ByteArray := prog_7_method_29_code
def yX5_tells : MethodName := ⟨RX5, "tells", "(III)Z"⟩
abbrev cX5_opened : ByteArray := prog_7_method_30_code
def yX5_opened : MethodName := ⟨RX5, "opened", "([I[II)[I"⟩
abbrev cX5_variable : ByteArray := prog_7_method_31_code
def yX5_variable : MethodName := ⟨RX5, "variable", "(I)[I"⟩
abbrev cX5_instance : ByteArray := prog_7_method_32_code
def yX5_instance : MethodName := ⟨RX5, "instance", "([IIII)[I"⟩
abbrev wsX60 : List Cond := u_ws RX6 TX6 4
abbrev cX6_init : ByteArray := prog_8_method_1_code
def yX6_init : MethodName := ⟨RX6, "<init>", "()V"⟩
abbrev cX6_numberOf : ByteArray := prog_8_method_2_code
def yX6_numberOf : MethodName := ⟨RX6, "numberOf", "([IIIZ)I"⟩
abbrev cX6_find : ByteArray := prog_8_method_3_code
def yX6_find : MethodName := ⟨RX6, "find", "(JIZ)I"⟩
abbrev cX6_write : ByteArray := prog_8_method_5_code
def yX6_write : MethodName := ⟨RX6, "write", "(IILProofServer$Bytes;)V"⟩
abbrev wsX70 : List Cond := u_ws RX7 TX7 5
abbrev cX7_init : ByteArray := prog_9_method_1_code
def yX7_init : MethodName := ⟨RX7, "<init>", "(LProofServer$Names;)V"⟩
abbrev cX7_proof : ByteArray := prog_9_method_2_code
def yX7_proof : MethodName := ⟨RX7, "proof", "(LProofServer$State;LProofServer$Bytes;)V"⟩
abbrev cX7_statement : ByteArray := prog_9_method_3_code
def yX7_statement : MethodName := ⟨RX7, "statement", "(LProofServer$State;ILProofServer$Bytes;)V"⟩
abbrev cX7_formula : ByteArray := prog_9_method_4_code
def yX7_formula : MethodName := ⟨RX7, "formula", "([ILProofServer$Bytes;)V"⟩
abbrev cX7_signText : ByteArray := prog_9_method_5_code
def yX7_signText : MethodName := ⟨RX7, "signText", "(I)Ljava/lang/String;"⟩
abbrev cX7_push : ByteArray := prog_9_method_6_code
def yX7_push : MethodName := ⟨RX7, "push", "(II)V"⟩
abbrev cX7_pushJoined : ByteArray := prog_9_method_7_code
def yX7_pushJoined : MethodName := ⟨RX7, "pushJoined", "([III)V"⟩
abbrev cX7_pushQuantified : ByteArray := prog_9_method_8_code
def yX7_pushQuantified : MethodName := ⟨RX7, "pushQuantified", "([III)V"⟩
abbrev cX7_isWrittenIn : ByteArray := prog_9_method_9_code
def yX7_isWrittenIn : MethodName := ⟨RX7, "isWrittenIn", "([IIII)Z"⟩
abbrev cX7_pushTerm : ByteArray := prog_9_method_10_code
def yX7_pushTerm : MethodName := ⟨RX7, "pushTerm", "([II)V"⟩
abbrev wsX80 : List Cond := u_ws RX8 TX8 5
abbrev cX8_init : ByteArray := prog_10_method_1_code
def yX8_init : MethodName := ⟨RX8, "<init>", "(LProofServer$Json;I)V"⟩
abbrev cX8_isReady : ByteArray := prog_10_method_2_code
def yX8_isReady : MethodName := ⟨RX8, "isReady", "()Z"⟩
abbrev cX8_hasIdOf : ByteArray := prog_10_method_3_code
def yX8_hasIdOf : MethodName := ⟨RX8, "hasIdOf", "(LProofServer$Request;)Z"⟩
abbrev wsX90 : List Cond := u_ws RX9 TX9 9
abbrev cX9_init : ByteArray := prog_11_method_1_code
def yX9_init : MethodName := ⟨RX9, "<init>", "()V"⟩
abbrev cX9_init_ : ByteArray := prog_11_method_2_code
def yX9_init_ : MethodName := ⟨RX9, "<init>", "(LProofServer$State;[I)V"⟩
abbrev cX9_isSameRow : ByteArray := prog_11_method_3_code
def yX9_isSameRow : MethodName := ⟨RX9, "isSameRow", "(LProofServer$State;LProofServer$State;)Z"⟩
abbrev cX9_find : ByteArray := prog_11_method_4_code
def yX9_find : MethodName := ⟨RX9, "find", "([II)I"⟩
abbrev cX9_longer : ByteArray := prog_11_method_5_code
def yX9_longer : MethodName := ⟨RX9, "longer", "([II)[I"⟩
abbrev cX9_longer_ : ByteArray := prog_11_method_6_code
def yX9_longer_ : MethodName := ⟨RX9, "longer", "([[I[I)[[I"⟩
abbrev cX9_symbolOf : ByteArray := prog_11_method_7_code
def yX9_symbolOf : MethodName := ⟨RX9, "symbolOf", "(I)I"⟩
abbrev cX9_addFact : ByteArray := prog_11_method_8_code
def yX9_addFact : MethodName := ⟨RX9, "addFact", "(I[I)V"⟩
abbrev cX9_endProof : ByteArray := prog_11_method_9_code
def yX9_endProof : MethodName := ⟨RX9, "endProof", "()V"⟩
abbrev wsX100 : List Cond := u_ws RX10 TX10 11
abbrev cX10_init : ByteArray := prog_12_method_1_code
def yX10_init : MethodName := ⟨RX10, "<init>", "(LProofServer$Names;)V"⟩
abbrev cX10_scan : ByteArray := prog_12_method_2_code
def yX10_scan : MethodName := ⟨RX10, "scan", "([III)I"⟩
abbrev cX10_scanName : ByteArray := prog_12_method_3_code
def yX10_scanName : MethodName := ⟨RX10, "scanName", "([III)I"⟩
abbrev cX10_add : ByteArray := prog_12_method_4_code
def yX10_add : MethodName := ⟨RX10, "add", "(II)V"⟩
abbrev cX10_isSentence : ByteArray := prog_12_method_5_code
def yX10_isSentence : MethodName := ⟨RX10, "isSentence", "()Z"⟩
abbrev cX10_peek : ByteArray := prog_12_method_6_code
def yX10_peek : MethodName := ⟨RX10, "peek", "()I"⟩
abbrev cX10_peekName : ByteArray := prog_12_method_7_code
def yX10_peekName : MethodName := ⟨RX10, "peekName", "()I"⟩
abbrev cX10_isSign : ByteArray := prog_12_method_8_code
def yX10_isSign : MethodName := ⟨RX10, "isSign", "(I)Z"⟩
abbrev cX10_isName : ByteArray := prog_12_method_9_code
def yX10_isName : MethodName := ⟨RX10, "isName", "()Z"⟩
abbrev cX10_isArity : ByteArray := prog_12_method_10_code
def yX10_isArity : MethodName := ⟨RX10, "isArity", "()Z"⟩
abbrev cX10_addNode : ByteArray := prog_12_method_11_code
def yX10_addNode : MethodName := ⟨RX10, "addNode", "(I)Z"⟩
abbrev cX10_insertNode : ByteArray := prog_12_method_12_code
def yX10_insertNode : MethodName := ⟨RX10, "insertNode", "(II)Z"⟩
abbrev cX10_isChain : ByteArray := prog_12_method_13_code
def yX10_isChain : MethodName := ⟨RX10, "isChain", "(II)Z"⟩
abbrev cX10_isOne : ByteArray := prog_12_method_14_code
def yX10_isOne : MethodName := ⟨RX10, "isOne", "(I)Z"⟩
abbrev cX10_isTerm : ByteArray := prog_12_method_15_code
def yX10_isTerm : MethodName := ⟨RX10, "isTerm", "(II)Z"⟩
abbrev wsX110 : List Cond := u_ws RX11 TX11 19
abbrev cX11_init : ByteArray := prog_1_method_1_code
def yX11_init : MethodName := ⟨RX11, "<init>", "()V"⟩
abbrev cX11_feed : ByteArray := prog_1_method_2_code
def yX11_feed : MethodName := ⟨RX11, "feed", "(IIIII)I"⟩
abbrev cX11_give : ByteArray := prog_1_method_3_code
def yX11_give : MethodName := ⟨RX11, "give", "(I)I"⟩
abbrev cX11_out : ByteArray := prog_1_method_4_code
def yX11_out : MethodName := ⟨RX11, "out", "(I)I"⟩
abbrev cX11_take : ByteArray := prog_1_method_5_code
def yX11_take : MethodName := ⟨RX11, "take", "()I"⟩
abbrev cX11_work : ByteArray := prog_1_method_6_code
def yX11_work : MethodName := ⟨RX11, "work", "(I)I"⟩
abbrev cX11_state : ByteArray := prog_1_method_7_code
def yX11_state : MethodName := ⟨RX11, "state", "(I)I"⟩
abbrev cX11_document : ByteArray := prog_1_method_8_code
def yX11_document : MethodName := ⟨RX11, "document", "(II)I"⟩
abbrev cX11_unit : ByteArray := prog_1_method_9_code
def yX11_unit : MethodName := ⟨RX11, "unit", "(II)I"⟩
abbrev cX11_sentence : ByteArray := prog_1_method_10_code
def yX11_sentence : MethodName := ⟨RX11, "sentence", "(III)I"⟩
abbrev cX11_batch : ByteArray := prog_1_method_11_code
def yX11_batch : MethodName := ⟨RX11, "batch", "(I)I"⟩
abbrev cX11_verdict : ByteArray := prog_1_method_12_code
def yX11_verdict : MethodName := ⟨RX11, "verdict", "(II)I"⟩
abbrev cX11_goals : ByteArray := prog_1_method_13_code
def yX11_goals : MethodName := ⟨RX11, "goals", "(II)I"⟩
abbrev cX11_putOnTape : ByteArray := prog_1_method_14_code
def yX11_putOnTape : MethodName := ⟨RX11, "putOnTape", "(I)V"⟩
abbrev cX11_openAt : ByteArray := prog_1_method_15_code
def yX11_openAt : MethodName := ⟨RX11, "openAt", "(I)LProofServer$Document;"⟩
abbrev cX11_numberOf : ByteArray := prog_1_method_16_code
def yX11_numberOf : MethodName := ⟨RX11, "numberOf", "(LProofServer$Document;)I"⟩
abbrev cX11_understood : ByteArray := prog_1_method_17_code
def yX11_understood : MethodName := ⟨RX11, "understood", "()LProofServer$Request;"⟩
abbrev cX11_request : ByteArray := prog_1_method_18_code
def yX11_request : MethodName := ⟨RX11, "request", "(LProofServer$Request;)V"⟩
abbrev cX11_notification : ByteArray := prog_1_method_19_code
def yX11_notification : MethodName := ⟨RX11, "notification", "()V"⟩
abbrev cX11_addressed : ByteArray := prog_1_method_20_code
def yX11_addressed : MethodName := ⟨RX11, "addressed", "()LProofServer$Document;"⟩
abbrev cX11_openDocument : ByteArray := prog_1_method_21_code
def yX11_openDocument : MethodName := ⟨RX11, "openDocument", "()V"⟩
abbrev cX11_changeDocument : ByteArray := prog_1_method_22_code
def yX11_changeDocument : MethodName := ⟨RX11, "changeDocument", "()V"⟩
abbrev cX11_makeChange : ByteArray := prog_1_method_23_code
def yX11_makeChange : MethodName := ⟨RX11, "makeChange", "(I)Z"⟩
abbrev cX11_placeTold : ByteArray := prog_1_method_24_code
def yX11_placeTold : MethodName := ⟨RX11, "placeTold", "(ILProofServer$Document;)I"⟩
abbrev cX11_closeDocument : ByteArray := prog_1_method_25_code
def yX11_closeDocument : MethodName := ⟨RX11, "closeDocument", "()V"⟩
abbrev cX11_cancelRequest : ByteArray := prog_1_method_26_code
def yX11_cancelRequest : MethodName := ⟨RX11, "cancelRequest", "()V"⟩
abbrev cX11_aimAtPlace : ByteArray := prog_1_method_27_code
def yX11_aimAtPlace : MethodName := ⟨RX11, "aimAtPlace", "(LProofServer$Request;)Z"⟩
abbrev cX11_aimAtName : ByteArray := prog_1_method_28_code
def yX11_aimAtName : MethodName := ⟨RX11, "aimAtName", "(LProofServer$Request;)Z"⟩
abbrev cX11_answerOrWait : ByteArray := prog_1_method_29_code
def yX11_answerOrWait : MethodName := ⟨RX11, "answerOrWait", "(LProofServer$Request;Z)V"⟩
abbrev cX11_dismiss : ByteArray := prog_1_method_30_code
def yX11_dismiss : MethodName := ⟨RX11, "dismiss", "(LProofServer$Document;)V"⟩
abbrev cX11_answerReady : ByteArray := prog_1_method_31_code
def yX11_answerReady : MethodName := ⟨RX11, "answerReady", "()V"⟩
abbrev cX11_reply : ByteArray := prog_1_method_32_code
def yX11_reply : MethodName := ⟨RX11, "reply", "(LProofServer$Request;)V"⟩
abbrev cX11_refuse : ByteArray := prog_1_method_33_code
def yX11_refuse : MethodName := ⟨RX11, "refuse", "(LProofServer$Request;I)V"⟩
abbrev cX11_errorText : ByteArray := prog_1_method_34_code
def yX11_errorText : MethodName := ⟨RX11, "errorText", "(I)Ljava/lang/String;"⟩
abbrev cX11_beginAnswer : ByteArray := prog_1_method_35_code
def yX11_beginAnswer : MethodName := ⟨RX11, "beginAnswer", "(LProofServer$Request;Ljava/lang/String;)V"⟩
abbrev cX11_publish : ByteArray := prog_1_method_36_code
def yX11_publish : MethodName := ⟨RX11, "publish", "(LProofServer$Document;Z)V"⟩
abbrev cX11_diagnostic : ByteArray := prog_1_method_37_code
def yX11_diagnostic : MethodName := ⟨RX11, "diagnostic", "(LProofServer$Document;I)V"⟩
abbrev cX11_position : ByteArray := prog_1_method_38_code
def yX11_position : MethodName := ⟨RX11, "position", "(LProofServer$Document;I)V"⟩
abbrev cX11_faultText : ByteArray := prog_1_method_39_code
def yX11_faultText : MethodName := ⟨RX11, "faultText", "(I)Ljava/lang/String;"⟩
abbrev cX11_send : ByteArray := prog_1_method_40_code
def yX11_send : MethodName := ⟨RX11, "send", "()V"⟩
abbrev cX11_hasWork : ByteArray := prog_1_method_41_code
def yX11_hasWork : MethodName := ⟨RX11, "hasWork", "()Z"⟩
abbrev cX11_nextToCheck : ByteArray := prog_1_method_42_code
def yX11_nextToCheck : MethodName := ⟨RX11, "nextToCheck", "()LProofServer$Document;"⟩
abbrev cX11_isAskedAbout : ByteArray := prog_1_method_43_code
def yX11_isAskedAbout : MethodName := ⟨RX11, "isAskedAbout", "(LProofServer$Document;)Z"⟩
abbrev cX11_advance : ByteArray := prog_1_method_44_code
def yX11_advance : MethodName := ⟨RX11, "advance", "(I)V"⟩
abbrev cX11_begin : ByteArray := prog_1_method_45_code
def yX11_begin : MethodName := ⟨RX11, "begin", "(LProofServer$Document;)V"⟩
abbrev cX11_remember : ByteArray := prog_1_method_46_code
def yX11_remember : MethodName := ⟨RX11, "remember", "(LProofServer$State;)V"⟩
abbrev cX11_release : ByteArray := prog_1_method_47_code
def yX11_release : MethodName := ⟨RX11, "release", "(LProofServer$Document;)V"⟩
abbrev cX11_opensComment : ByteArray := prog_1_method_51_code
def yX11_opensComment : MethodName := ⟨RX11, "opensComment", "([III)Z"⟩
abbrev cX11_commentEnd : ByteArray := prog_1_method_52_code
def yX11_commentEnd : MethodName := ⟨RX11, "commentEnd", "([III)I"⟩
abbrev cX11_endOf : ByteArray := prog_1_method_53_code
def yX11_endOf : MethodName := ⟨RX11, "endOf", "([III)I"⟩
abbrev wsX120 : List Cond := u_ws RX12 TX12 11
abbrev cX12_init : ByteArray := prog_15_method_1_code
def yX12_init : MethodName := ⟨RX12, "<init>", "()V"⟩
abbrev wsX130 : List Cond := u_ws RX13 TX13 50
abbrev cX13_init : ByteArray := prog_16_method_1_code
def yX13_init : MethodName := ⟨RX13, "<init>", "()V"⟩
abbrev cX13_begin : ByteArray := prog_16_method_2_code
def yX13_begin : MethodName := ⟨RX13, "begin", "()V"⟩
abbrev cX13_nameOf : ByteArray := prog_16_method_3_code
def yX13_nameOf : MethodName := ⟨RX13, "nameOf", "([III)I"⟩
abbrev cX13_isNamed : ByteArray := prog_16_method_4_code
def yX13_isNamed : MethodName := ⟨RX13, "isNamed", "(ILjava/lang/String;)Z"⟩
abbrev cX13_node : ByteArray := prog_16_method_5_code
def yX13_node : MethodName := ⟨RX13, "node", "(IIIII)I"⟩
abbrev cX13_part : ByteArray := prog_16_method_6_code
def yX13_part : MethodName := ⟨RX13, "part", "(II)I"⟩
abbrev cX13_parts : ByteArray := prog_16_method_7_code
def yX13_parts : MethodName := ⟨RX13, "parts", "(I)I"⟩
abbrev cX13_isLetter : ByteArray := prog_16_method_8_code
def yX13_isLetter : MethodName := ⟨RX13, "isLetter", "(I)Z"⟩
abbrev cX13_isNameSign : ByteArray := prog_16_method_9_code
def yX13_isNameSign : MethodName := ⟨RX13, "isNameSign", "(I)Z"⟩
abbrev cX13_token : ByteArray := prog_16_method_10_code
def yX13_token : MethodName := ⟨RX13, "token", "(II)V"⟩
abbrev cX13_scan : ByteArray := prog_16_method_11_code
def yX13_scan : MethodName := ⟨RX13, "scan", "([III)V"⟩
abbrev cX13_cost : ByteArray := prog_16_method_12_code
def yX13_cost : MethodName := ⟨RX13, "cost", "([IIII)I"⟩
abbrev cX13_is : ByteArray := prog_16_method_13_code
def yX13_is : MethodName := ⟨RX13, "is", "(I)Z"⟩
abbrev cX13_isWord : ByteArray := prog_16_method_14_code
def yX13_isWord : MethodName := ⟨RX13, "isWord", "(Ljava/lang/String;)Z"⟩
abbrev cX13_expect : ByteArray := prog_16_method_15_code
def yX13_expect : MethodName := ⟨RX13, "expect", "(I)V"⟩
abbrev cX13_readName : ByteArray := prog_16_method_16_code
def yX13_readName : MethodName := ⟨RX13, "readName", "()I"⟩
abbrev cX13_readNumber : ByteArray := prog_16_method_17_code
def yX13_readNumber : MethodName := ⟨RX13, "readNumber", "()I"⟩
abbrev cX13_readTerm : ByteArray := prog_16_method_18_code
def yX13_readTerm : MethodName := ⟨RX13, "readTerm", "(I)I"⟩
abbrev cX13_readImp : ByteArray := prog_16_method_19_code
def yX13_readImp : MethodName := ⟨RX13, "readImp", "(I)I"⟩
abbrev cX13_readOr : ByteArray := prog_16_method_20_code
def yX13_readOr : MethodName := ⟨RX13, "readOr", "(I)I"⟩
abbrev cX13_readAnd : ByteArray := prog_16_method_21_code
def yX13_readAnd : MethodName := ⟨RX13, "readAnd", "(I)I"⟩
abbrev cX13_readOne : ByteArray := prog_16_method_22_code
def yX13_readOne : MethodName := ⟨RX13, "readOne", "(I)I"⟩
abbrev cX13_fails : ByteArray := prog_16_method_23_code
def yX13_fails : MethodName := ⟨RX13, "fails", "(I)V"⟩
abbrev cX13_symbolOf : ByteArray := prog_16_method_24_code
def yX13_symbolOf : MethodName := ⟨RX13, "symbolOf", "(I)I"⟩
abbrev cX13_factOf : ByteArray := prog_16_method_25_code
def yX13_factOf : MethodName := ⟨RX13, "factOf", "(I)I"⟩
abbrev cX13_isVariable : ByteArray := prog_16_method_26_code
def yX13_isVariable : MethodName := ⟨RX13, "isVariable", "(I)Z"⟩
abbrev cX13_hypOf : ByteArray := prog_16_method_27_code
def yX13_hypOf : MethodName := ⟨RX13, "hypOf", "(I)I"⟩
abbrev cX13_checkNew : ByteArray := prog_16_method_28_code
def yX13_checkNew : MethodName := ⟨RX13, "checkNew", "(I)V"⟩
abbrev cX13_formulaOf : ByteArray := prog_16_method_29_code
def yX13_formulaOf : MethodName := ⟨RX13, "formulaOf", "(I)I"⟩
abbrev cX13_withParts : ByteArray := prog_16_method_30_code
def yX13_withParts : MethodName := ⟨RX13, "withParts", "(III)I"⟩
abbrev cX13_meantTerm : ByteArray := prog_16_method_31_code
def yX13_meantTerm : MethodName := ⟨RX13, "meantTerm", "(I)I"⟩
abbrev cX13_meant : ByteArray := prog_16_method_32_code
def yX13_meant : MethodName := ⟨RX13, "meant", "(I)I"⟩
abbrev cX13_size : ByteArray := prog_16_method_33_code
def yX13_size : MethodName := ⟨RX13, "size", "(I)I"⟩
abbrev cX13_isSame : ByteArray := prog_16_method_34_code
def yX13_isSame : MethodName := ⟨RX13, "isSame", "(II)Z"⟩
abbrev cX13_sizeWith : ByteArray := prog_16_method_35_code
def yX13_sizeWith : MethodName := ⟨RX13, "sizeWith", "(II[II)I"⟩
abbrev cX13_with : ByteArray := prog_16_method_36_code
def yX13_with : MethodName := ⟨RX13, "with", "(II[II)I"⟩
abbrev cX13_opened : ByteArray := prog_16_method_37_code
def yX13_opened : MethodName := ⟨RX13, "opened", "(II)I"⟩
abbrev cX13_hasBound : ByteArray := prog_16_method_38_code
def yX13_hasBound : MethodName := ⟨RX13, "hasBound", "(I)Z"⟩
abbrev cX13_matches : ByteArray := prog_16_method_39_code
def yX13_matches : MethodName := ⟨RX13, "matches", "(III[II)Z"⟩
abbrev cX13_countOf : ByteArray := prog_16_method_40_code
def yX13_countOf : MethodName := ⟨RX13, "countOf", "(II)I"⟩
abbrev cX13_replaced : ByteArray := prog_16_method_41_code
def yX13_replaced : MethodName := ⟨RX13, "replaced", "(III)I"⟩
abbrev cX13_command : ByteArray := prog_16_method_42_code
def yX13_command : MethodName := ⟨RX13, "command", "()I"⟩
abbrev cX13_read : ByteArray := prog_16_method_43_code
def yX13_read : MethodName := ⟨RX13, "read", "(I)V"⟩
abbrev cX13_sentence : ByteArray := prog_16_method_44_code
def yX13_sentence : MethodName := ⟨RX13, "sentence", "([IIII)I"⟩
abbrev cX13_declare : ByteArray := prog_16_method_45_code
def yX13_declare : MethodName := ⟨RX13, "declare", "(I)V"⟩
abbrev cX13_addFact : ByteArray := prog_16_method_46_code
def yX13_addFact : MethodName := ⟨RX13, "addFact", "(II)V"⟩
abbrev cX13_close : ByteArray := prog_16_method_47_code
def yX13_close : MethodName := ⟨RX13, "close", "(I)V"⟩
abbrev cX13_copyGoal : ByteArray := prog_16_method_48_code
def yX13_copyGoal : MethodName := ⟨RX13, "copyGoal", "(II)V"⟩
abbrev cX13_times : ByteArray := prog_16_method_49_code
def yX13_times : MethodName := ⟨RX13, "times", "(I)V"⟩
abbrev cX13_addHyp : ByteArray := prog_16_method_50_code
def yX13_addHyp : MethodName := ⟨RX13, "addHyp", "(III)V"⟩
abbrev cX13_dropHyp : ByteArray := prog_16_method_51_code
def yX13_dropHyp : MethodName := ⟨RX13, "dropHyp", "(II)V"⟩
abbrev cX13_tactic : ByteArray := prog_16_method_52_code
def yX13_tactic : MethodName := ⟨RX13, "tactic", "(I)V"⟩
abbrev cX13_done : ByteArray := prog_16_method_53_code
def yX13_done : MethodName := ⟨RX13, "done", "(Z)V"⟩
abbrev cX13_intro : ByteArray := prog_16_method_54_code
def yX13_intro : MethodName := ⟨RX13, "intro", "(II)V"⟩
abbrev cX13_cases : ByteArray := prog_16_method_55_code
def yX13_cases : MethodName := ⟨RX13, "cases", "(I)V"⟩
abbrev cX13_rewrite : ByteArray := prog_16_method_56_code
def yX13_rewrite : MethodName := ⟨RX13, "rewrite", "(II)V"⟩
abbrev cX13_others : ByteArray := prog_16_method_57_code
def yX13_others : MethodName := ⟨RX13, "others", "(IIIII)V"⟩
abbrev cX13_apply : ByteArray := prog_16_method_58_code
def yX13_apply : MethodName := ⟨RX13, "apply", "(II)V"⟩
abbrev cX13_put : ByteArray := prog_16_method_59_code
def yX13_put : MethodName := ⟨RX13, "put", "(I)V"⟩
abbrev cX13_words : ByteArray := prog_16_method_60_code
def yX13_words : MethodName := ⟨RX13, "words", "(Ljava/lang/String;)V"⟩
abbrev cX13_putName : ByteArray := prog_16_method_61_code
def yX13_putName : MethodName := ⟨RX13, "putName", "(I)V"⟩
abbrev cX13_putBound : ByteArray := prog_16_method_62_code
def yX13_putBound : MethodName := ⟨RX13, "putBound", "(I)V"⟩
abbrev cX13_areAlike : ByteArray := prog_16_method_63_code
def yX13_areAlike : MethodName := ⟨RX13, "areAlike", "(IIII)Z"⟩
abbrev cX13_stands : ByteArray := prog_16_method_64_code
def yX13_stands : MethodName := ⟨RX13, "stands", "(IIII)Z"⟩
abbrev cX13_print : ByteArray := prog_16_method_65_code
def yX13_print : MethodName := ⟨RX13, "print", "(IZ)V"⟩
abbrev cX13_side : ByteArray := prog_16_method_66_code
def yX13_side : MethodName := ⟨RX13, "side", "(IZZ)V"⟩
abbrev cX13_quantified : ByteArray := prog_16_method_67_code
def yX13_quantified : MethodName := ⟨RX13, "quantified", "(II)V"⟩
abbrev cX13_applied : ByteArray := prog_16_method_68_code
def yX13_applied : MethodName := ⟨RX13, "applied", "(I)V"⟩
abbrev cX13_printFormula : ByteArray := prog_16_method_69_code
def yX13_printFormula : MethodName := ⟨RX13, "printFormula", "(I)V"⟩
abbrev cX13_printGoal : ByteArray := prog_16_method_70_code
def yX13_printGoal : MethodName := ⟨RX13, "printGoal", "(I)V"⟩
abbrev wsX140 : List Cond := u_ws RX14 TX14 74
abbrev cX14_init : ByteArray := prog_14_method_1_code
def yX14_init : MethodName := ⟨RX14, "<init>", "()V"⟩
abbrev cX14_put : ByteArray := prog_14_method_3_code
def yX14_put : MethodName := ⟨RX14, "put", "(I)V"⟩
abbrev cX14_word : ByteArray := prog_14_method_4_code
def yX14_word : MethodName := ⟨RX14, "word", "(Ljava/lang/String;)V"⟩
abbrev cX14_number : ByteArray := prog_14_method_5_code
def yX14_number : MethodName := ⟨RX14, "number", "(I)V"⟩
abbrev cX14_digitsOf : ByteArray := prog_14_method_6_code
def yX14_digitsOf : MethodName := ⟨RX14, "digitsOf", "(I)V"⟩
abbrev cX14_string : ByteArray := prog_14_method_8_code
def yX14_string : MethodName := ⟨RX14, "string", "([III)V"⟩
abbrev cX14_utf8 : ByteArray := prog_14_method_9_code
def yX14_utf8 : MethodName := ⟨RX14, "utf8", "(I)V"⟩
abbrev cX14_text : ByteArray := prog_14_method_10_code
def yX14_text : MethodName := ⟨RX14, "text", "(Ljava/lang/String;)V"⟩
abbrev cX14_send : ByteArray := prog_14_method_11_code
def yX14_send : MethodName := ⟨RX14, "send", "()V"⟩
abbrev cX14_feed : ByteArray := prog_14_method_12_code
def yX14_feed : MethodName := ⟨RX14, "feed", "(IIIII)I"⟩
abbrev cX14_out : ByteArray := prog_14_method_13_code
def yX14_out : MethodName := ⟨RX14, "out", "(I)I"⟩
abbrev cX14_take : ByteArray := prog_14_method_14_code
def yX14_take : MethodName := ⟨RX14, "take", "()I"⟩
abbrev cX14_isContentLength : ByteArray := prog_14_method_17_code
def yX14_isContentLength : MethodName := ⟨RX14, "isContentLength", "()Z"⟩
abbrev cX14_isLengthSoFar : ByteArray := prog_14_method_18_code
def yX14_isLengthSoFar : MethodName := ⟨RX14, "isLengthSoFar", "(Z)Z"⟩
abbrev cX14_lengthTold : ByteArray := prog_14_method_19_code
def yX14_lengthTold : MethodName := ⟨RX14, "lengthTold", "()I"⟩
abbrev cX14_headerByte : ByteArray := prog_14_method_20_code
def yX14_headerByte : MethodName := ⟨RX14, "headerByte", "(I)Z"⟩
abbrev cX14_byteComes : ByteArray := prog_14_method_21_code
def yX14_byteComes : MethodName := ⟨RX14, "byteComes", "(I)V"⟩
abbrev cX14_give : ByteArray := prog_14_method_22_code
def yX14_give : MethodName := ⟨RX14, "give", "(I)I"⟩
abbrev cX14_here : ByteArray := prog_14_method_23_code
def yX14_here : MethodName := ⟨RX14, "here", "()I"⟩
abbrev cX14_blanks : ByteArray := prog_14_method_24_code
def yX14_blanks : MethodName := ⟨RX14, "blanks", "()V"⟩
abbrev cX14_node : ByteArray := prog_14_method_25_code
def yX14_node : MethodName := ⟨RX14, "node", "(I)I"⟩
abbrev cX14_takes : ByteArray := prog_14_method_26_code
def yX14_takes : MethodName := ⟨RX14, "takes", "(Ljava/lang/String;)Z"⟩
abbrev cX14_readValue : ByteArray := prog_14_method_27_code
def yX14_readValue : MethodName := ⟨RX14, "readValue", "(I)I"⟩
abbrev cX14_readNumber : ByteArray := prog_14_method_28_code
def yX14_readNumber : MethodName := ⟨RX14, "readNumber", "()I"⟩
abbrev cX14_digits : ByteArray := prog_14_method_29_code
def yX14_digits : MethodName := ⟨RX14, "digits", "()V"⟩
abbrev cX14_unit : ByteArray := prog_14_method_30_code
def yX14_unit : MethodName := ⟨RX14, "unit", "(I)V"⟩
abbrev cX14_hexOf : ByteArray := prog_14_method_31_code
def yX14_hexOf : MethodName := ⟨RX14, "hexOf", "(I)I"⟩
abbrev cX14_four : ByteArray := prog_14_method_32_code
def yX14_four : MethodName := ⟨RX14, "four", "()I"⟩
abbrev cX14_escape : ByteArray := prog_14_method_33_code
def yX14_escape : MethodName := ⟨RX14, "escape", "()V"⟩
abbrev cX14_readString : ByteArray := prog_14_method_34_code
def yX14_readString : MethodName := ⟨RX14, "readString", "()V"⟩
abbrev cX14_utfLength : ByteArray := prog_14_method_35_code
def yX14_utfLength : MethodName := ⟨RX14, "utfLength", "([III)I"⟩
abbrev cX14_readMany : ByteArray := prog_14_method_36_code
def yX14_readMany : MethodName := ⟨RX14, "readMany", "(ZI)I"⟩
abbrev cX14_isText : ByteArray := prog_14_method_37_code
def yX14_isText : MethodName := ⟨RX14, "isText", "(IILjava/lang/String;)Z"⟩
abbrev cX14_member : ByteArray := prog_14_method_38_code
def yX14_member : MethodName := ⟨RX14, "member", "(ILjava/lang/String;)I"⟩
abbrev cX14_isString : ByteArray := prog_14_method_39_code
def yX14_isString : MethodName := ⟨RX14, "isString", "(I)Z"⟩
abbrev cX14_isString_ : ByteArray := prog_14_method_40_code
def yX14_isString_ : MethodName := ⟨RX14, "isString", "(ILjava/lang/String;)Z"⟩
abbrev cX14_isWhole : ByteArray := prog_14_method_41_code
def yX14_isWhole : MethodName := ⟨RX14, "isWhole", "(I)Z"⟩
abbrev cX14_isId : ByteArray := prog_14_method_42_code
def yX14_isId : MethodName := ⟨RX14, "isId", "(I)Z"⟩
abbrev cX14_takeId : ByteArray := prog_14_method_43_code
def yX14_takeId : MethodName := ⟨RX14, "takeId", "(I)V"⟩
abbrev cX14_beginAnswer : ByteArray := prog_14_method_44_code
def yX14_beginAnswer : MethodName := ⟨RX14, "beginAnswer", "()V"⟩
abbrev cX14_beginResult : ByteArray := prog_14_method_45_code
def yX14_beginResult : MethodName := ⟨RX14, "beginResult", "()V"⟩
abbrev cX14_endAnswer : ByteArray := prog_14_method_46_code
def yX14_endAnswer : MethodName := ⟨RX14, "endAnswer", "()V"⟩
abbrev cX14_error : ByteArray := prog_14_method_47_code
def yX14_error : MethodName := ⟨RX14, "error", "(I)V"⟩
abbrev cX14_message : ByteArray := prog_14_method_48_code
def yX14_message : MethodName := ⟨RX14, "message", "(I)V"⟩
abbrev cX14_requested : ByteArray := prog_14_method_49_code
def yX14_requested : MethodName := ⟨RX14, "requested", "(II)V"⟩
abbrev cX14_notified : ByteArray := prog_14_method_50_code
def yX14_notified : MethodName := ⟨RX14, "notified", "(II)V"⟩
abbrev cX14_documentOf : ByteArray := prog_14_method_51_code
def yX14_documentOf : MethodName := ⟨RX14, "documentOf", "(I)LProofServerModel$Document;"⟩
abbrev cX14_open : ByteArray := prog_14_method_52_code
def yX14_open : MethodName := ⟨RX14, "open", "(I)V"⟩
abbrev cX14_lineBegin : ByteArray := prog_14_method_53_code
def yX14_lineBegin : MethodName := ⟨RX14, "lineBegin", "([III)I"⟩
abbrev cX14_placeOf : ByteArray := prog_14_method_54_code
def yX14_placeOf : MethodName := ⟨RX14, "placeOf", "([IIII)I"⟩
abbrev cX14_isPosition : ByteArray := prog_14_method_55_code
def yX14_isPosition : MethodName := ⟨RX14, "isPosition", "(I)Z"⟩
abbrev cX14_lineOf : ByteArray := prog_14_method_56_code
def yX14_lineOf : MethodName := ⟨RX14, "lineOf", "(I)I"⟩
abbrev cX14_characterOf : ByteArray := prog_14_method_57_code
def yX14_characterOf : MethodName := ⟨RX14, "characterOf", "(I)I"⟩
abbrev cX14_make : ByteArray := prog_14_method_58_code
def yX14_make : MethodName := ⟨RX14, "make", "(I)Z"⟩
abbrev cX14_isChange : ByteArray := prog_14_method_59_code
def yX14_isChange : MethodName := ⟨RX14, "isChange", "(I)Z"⟩
abbrev cX14_change : ByteArray := prog_14_method_60_code
def yX14_change : MethodName := ⟨RX14, "change", "(I)V"⟩
abbrev cX14_same : ByteArray := prog_14_method_61_code
def yX14_same : MethodName := ⟨RX14, "same", "(LProofServerModel$Document;)I"⟩
abbrev cX14_isSame : ByteArray := prog_14_method_62_code
def yX14_isSame : MethodName := ⟨RX14, "isSame", "(LProofServerModel$Document;ILProofServerModel$Document;I)Z"⟩
abbrev cX14_settleChecks : ByteArray := prog_14_method_63_code
def yX14_settleChecks : MethodName := ⟨RX14, "settleChecks", "(LProofServerModel$Document;I)V"⟩
abbrev cX14_close : ByteArray := prog_14_method_64_code
def yX14_close : MethodName := ⟨RX14, "close", "(I)V"⟩
abbrev cX14_opens : ByteArray := prog_14_method_66_code
def yX14_opens : MethodName := ⟨RX14, "opens", "([III)Z"⟩
abbrev cX14_closes : ByteArray := prog_14_method_67_code
def yX14_closes : MethodName := ⟨RX14, "closes", "([III)Z"⟩
abbrev cX14_behindComment : ByteArray := prog_14_method_68_code
def yX14_behindComment : MethodName := ⟨RX14, "behindComment", "([III)I"⟩
abbrev cX14_behindGaps : ByteArray := prog_14_method_69_code
def yX14_behindGaps : MethodName := ⟨RX14, "behindGaps", "([III)I"⟩
abbrev cX14_part : ByteArray := prog_14_method_70_code
def yX14_part : MethodName := ⟨RX14, "part", "(LProofServerModel$Document;)V"⟩
abbrev cX14_sentenceEnd : ByteArray := prog_14_method_71_code
def yX14_sentenceEnd : MethodName := ⟨RX14, "sentenceEnd", "([III)I"⟩
abbrev cX14_reach : ByteArray := prog_14_method_72_code
def yX14_reach : MethodName := ⟨RX14, "reach", "(LProofServerModel$Document;I)V"⟩
abbrev cX14_putLine : ByteArray := prog_14_method_73_code
def yX14_putLine : MethodName := ⟨RX14, "putLine", "(I)V"⟩
abbrev cX14_goalsOf : ByteArray := prog_14_method_74_code
def yX14_goalsOf : MethodName := ⟨RX14, "goalsOf", "()V"⟩
abbrev cX14_statementOf : ByteArray := prog_14_method_75_code
def yX14_statementOf : MethodName := ⟨RX14, "statementOf", "([III)V"⟩
abbrev cX14_isNamed : ByteArray := prog_14_method_76_code
def yX14_isNamed : MethodName := ⟨RX14, "isNamed", "(I[III)Z"⟩
abbrev cX14_askGoals : ByteArray := prog_14_method_77_code
def yX14_askGoals : MethodName := ⟨RX14, "askGoals", "(I)V"⟩
abbrev cX14_askStatement : ByteArray := prog_14_method_78_code
def yX14_askStatement : MethodName := ⟨RX14, "askStatement", "(I)V"⟩
abbrev cX14_waitFor : ByteArray := prog_14_method_79_code
def yX14_waitFor : MethodName := ⟨RX14, "waitFor", "(LProofServerModel$Document;ZI)Z"⟩
abbrev cX14_release : ByteArray := prog_14_method_80_code
def yX14_release : MethodName := ⟨RX14, "release", "(I)V"⟩
abbrev cX14_isIdOf : ByteArray := prog_14_method_81_code
def yX14_isIdOf : MethodName := ⟨RX14, "isIdOf", "(II)Z"⟩
abbrev cX14_cancel : ByteArray := prog_14_method_82_code
def yX14_cancel : MethodName := ⟨RX14, "cancel", "(I)V"⟩
abbrev cX14_modified : ByteArray := prog_14_method_83_code
def yX14_modified : MethodName := ⟨RX14, "modified", "(LProofServerModel$Document;)V"⟩
abbrev cX14_beginDiagnostics : ByteArray := prog_14_method_84_code
def yX14_beginDiagnostics : MethodName := ⟨RX14, "beginDiagnostics", "(LProofServerModel$Document;)V"⟩
abbrev cX14_endDiagnostics : ByteArray := prog_14_method_85_code
def yX14_endDiagnostics : MethodName := ⟨RX14, "endDiagnostics", "()V"⟩
abbrev cX14_position : ByteArray := prog_14_method_86_code
def yX14_position : MethodName := ⟨RX14, "position", "(LProofServerModel$Document;I)V"⟩
abbrev cX14_messageOf : ByteArray := prog_14_method_87_code
def yX14_messageOf : MethodName := ⟨RX14, "messageOf", "(I)Ljava/lang/String;"⟩
abbrev cX14_settled : ByteArray := prog_14_method_88_code
def yX14_settled : MethodName := ⟨RX14, "settled", "(LProofServerModel$Document;)V"⟩
abbrev cX14_takeRow : ByteArray := prog_14_method_89_code
def yX14_takeRow : MethodName := ⟨RX14, "takeRow", "(LProofServerModel$Document;I)V"⟩
abbrev cX14_inCache : ByteArray := prog_14_method_90_code
def yX14_inCache : MethodName := ⟨RX14, "inCache", "()I"⟩
abbrev cX14_keepRow : ByteArray := prog_14_method_91_code
def yX14_keepRow : MethodName := ⟨RX14, "keepRow", "()V"⟩
abbrev cX14_isWaitedFor : ByteArray := prog_14_method_92_code
def yX14_isWaitedFor : MethodName := ⟨RX14, "isWaitedFor", "(LProofServerModel$Document;)Z"⟩
abbrev cX14_nextDocument : ByteArray := prog_14_method_93_code
def yX14_nextDocument : MethodName := ⟨RX14, "nextDocument", "()LProofServerModel$Document;"⟩
abbrev cX14_costOf : ByteArray := prog_14_method_94_code
def yX14_costOf : MethodName := ⟨RX14, "costOf", "(LProofServerModel$Document;I)I"⟩
abbrev cX14_takeCheck : ByteArray := prog_14_method_95_code
def yX14_takeCheck : MethodName := ⟨RX14, "takeCheck", "(I)V"⟩
abbrev cX14_finish : ByteArray := prog_14_method_96_code
def yX14_finish : MethodName := ⟨RX14, "finish", "(I)V"⟩
abbrev cX14_step : ByteArray := prog_14_method_97_code
def yX14_step : MethodName := ⟨RX14, "step", "()V"⟩
abbrev cX14_work : ByteArray := prog_14_method_98_code
def yX14_work : MethodName := ⟨RX14, "work", "(I)I"⟩
abbrev cX14_numberOf : ByteArray := prog_14_method_99_code
def yX14_numberOf : MethodName := ⟨RX14, "numberOf", "(LProofServerModel$Document;)I"⟩
abbrev cX14_state : ByteArray := prog_14_method_100_code
def yX14_state : MethodName := ⟨RX14, "state", "(I)I"⟩
abbrev cX14_document : ByteArray := prog_14_method_101_code
def yX14_document : MethodName := ⟨RX14, "document", "(II)I"⟩
abbrev cX14_unit_ : ByteArray := prog_14_method_102_code
def yX14_unit_ : MethodName := ⟨RX14, "unit", "(II)I"⟩
abbrev cX14_sentence : ByteArray := prog_14_method_103_code
def yX14_sentence : MethodName := ⟨RX14, "sentence", "(III)I"⟩
abbrev cX14_batch : ByteArray := prog_14_method_104_code
def yX14_batch : MethodName := ⟨RX14, "batch", "(I)I"⟩
abbrev cX14_verdict : ByteArray := prog_14_method_105_code
def yX14_verdict : MethodName := ⟨RX14, "verdict", "(II)I"⟩
abbrev cX14_goals : ByteArray := prog_14_method_106_code
def yX14_goals : MethodName := ⟨RX14, "goals", "(II)I"⟩
def RJ5 : String := "java/lang/AbstractStringBuilder"
abbrev cJ5_init_d00df : ByteArray := prog_18_method_2_code
def yJ5_init_d00df : MethodName := ⟨RJ5, "<init>", "(I)V"⟩
abbrev cJ5_length_8abf5 : ByteArray := prog_18_method_6_code
def yJ5_length_8abf5 : MethodName := ⟨RJ5, "length", "()I"⟩
abbrev cJ5_ensureCapacityInternal_d00df : ByteArray := prog_18_method_9_code
def yJ5_ensureCapacityInternal_d00df : MethodName := ⟨RJ5, "ensureCapacityInternal", "(I)V"⟩
abbrev cJ5_newCapacity_0f7a4 : ByteArray := prog_18_method_10_code
def yJ5_newCapacity_0f7a4 : MethodName := ⟨RJ5, "newCapacity", "(I)I"⟩
abbrev cJ5_inflate_da8c8 : ByteArray := prog_18_method_11_code
def yJ5_inflate_da8c8 : MethodName := ⟨RJ5, "inflate", "()V"⟩
abbrev cJ5_setLength_d00df : ByteArray := prog_18_method_13_code
def yJ5_setLength_d00df : MethodName := ⟨RJ5, "setLength", "(I)V"⟩
abbrev cJ5_charAt_5068e : ByteArray := prog_18_method_14_code
def yJ5_charAt_5068e : MethodName := ⟨RJ5, "charAt", "(I)C"⟩
abbrev cJ5_append_3fe6f : ByteArray := prog_18_method_31_code
def yJ5_append_3fe6f : MethodName := ⟨RJ5, "append", "(C)Ljava/lang/AbstractStringBuilder;"⟩
abbrev cJ5_isLatin1_aae02 : ByteArray := prog_18_method_68_code
def yJ5_isLatin1_aae02 : MethodName := ⟨RJ5, "isLatin1", "()Z"⟩
def RJ11 : String := "java/lang/Character"
abbrev cJ11_isValidCodePoint_9a6ad : ByteArray := prog_19_method_11_code
def yJ11_isValidCodePoint_9a6ad : MethodName := ⟨RJ11, "isValidCodePoint", "(I)Z"⟩
abbrev cJ11_highSurrogate_5068e : ByteArray := prog_19_method_28_code
def yJ11_highSurrogate_5068e : MethodName := ⟨RJ11, "highSurrogate", "(I)C"⟩
abbrev cJ11_lowSurrogate_5068e : ByteArray := prog_19_method_29_code
def yJ11_lowSurrogate_5068e : MethodName := ⟨RJ11, "lowSurrogate", "(I)C"⟩
abbrev cJ0_indexOf_0f7a4 : ByteArray := prog_23_method_79_code
def yJ0_indexOf_0f7a4 : MethodName := ⟨RJ0, "indexOf", "(I)I"⟩
abbrev cJ0_indexOf_7cf53 : ByteArray := prog_23_method_80_code
def yJ0_indexOf_7cf53 : MethodName := ⟨RJ0, "indexOf", "(II)I"⟩
abbrev cJ0_checkBoundsOffCount_cabcc : ByteArray := prog_23_method_157_code
def yJ0_checkBoundsOffCount_cabcc : MethodName := ⟨RJ0, "checkBoundsOffCount", "(III)I"⟩
abbrev cJ0_checkBoundsBeginEnd_23922 : ByteArray := prog_23_method_158_code
def yJ0_checkBoundsBeginEnd_23922 : MethodName := ⟨RJ0, "checkBoundsBeginEnd", "(III)V"⟩
abbrev wsJ40 : List Cond := u_ws RJ4 TJ4 4
abbrev cJ4_init_da8c8 : ByteArray := prog_24_method_1_code
def yJ4_init_da8c8 : MethodName := ⟨RJ4, "<init>", "()V"⟩
abbrev cJ4_append_cf468 : ByteArray := prog_24_method_14_code
def yJ4_append_cf468 : MethodName := ⟨RJ4, "append", "(C)Ljava/lang/StringBuilder;"⟩
abbrev cJ4_charAt_5068e : ByteArray := prog_24_method_88_code
def yJ4_charAt_5068e : MethodName := ⟨RJ4, "charAt", "(I)C"⟩
abbrev cJ4_setLength_d00df : ByteArray := prog_24_method_89_code
def yJ4_setLength_d00df : MethodName := ⟨RJ4, "setLength", "(I)V"⟩
abbrev cJ4_length_8abf5 : ByteArray := prog_24_method_93_code
def yJ4_length_8abf5 : MethodName := ⟨RJ4, "length", "()I"⟩
abbrev cJ1_canEncode_fc78d : ByteArray := prog_25_method_3_code
def yJ1_canEncode_fc78d : MethodName := ⟨RJ1, "canEncode", "(C)Z"⟩
abbrev cJ1_canEncode_9a6ad : ByteArray := prog_25_method_4_code
def yJ1_canEncode_9a6ad : MethodName := ⟨RJ1, "canEncode", "(I)Z"⟩
abbrev cJ1_indexOf_4cfef : ByteArray := prog_25_method_22_code
def yJ1_indexOf_4cfef : MethodName := ⟨RJ1, "indexOf", "([BIII)I"⟩
abbrev cJ1_indexOfChar_4cfef : ByteArray := prog_25_method_23_code
def yJ1_indexOfChar_4cfef : MethodName := ⟨RJ1, "indexOfChar", "([BIII)I"⟩
abbrev cJ1_fillNull_b72d1 : ByteArray := prog_25_method_48_code
def yJ1_fillNull_b72d1 : MethodName := ⟨RJ1, "fillNull", "([BII)V"⟩
abbrev cJ1_inflate_0e8fd : ByteArray := prog_25_method_50_code
def yJ1_inflate_0e8fd : MethodName := ⟨RJ1, "inflate", "([BI[BII)V"⟩
abbrev cJ2_newBytesFor_77867 : ByteArray := prog_26_method_2_code
def yJ2_newBytesFor_77867 : MethodName := ⟨RJ2, "newBytesFor", "(I)[B"⟩
abbrev cJ2_newBytesLength_0f7a4 : ByteArray := prog_26_method_3_code
def yJ2_newBytesLength_0f7a4 : MethodName := ⟨RJ2, "newBytesLength", "(I)I"⟩
abbrev cJ2_putChar_b72d1 : ByteArray := prog_26_method_4_code
def yJ2_putChar_b72d1 : MethodName := ⟨RJ2, "putChar", "([BII)V"⟩
abbrev cJ2_indexOf_4cfef : ByteArray := prog_26_method_40_code
def yJ2_indexOf_4cfef : MethodName := ⟨RJ2, "indexOf", "([BIII)I"⟩
abbrev cJ2_indexOfChar_4cfef : ByteArray := prog_26_method_47_code
def yJ2_indexOfChar_4cfef : MethodName := ⟨RJ2, "indexOfChar", "([BIII)I"⟩
abbrev cJ2_indexOfCharUnsafe_4cfef : ByteArray := prog_26_method_48_code
def yJ2_indexOfCharUnsafe_4cfef : MethodName := ⟨RJ2, "indexOfCharUnsafe", "([BIII)I"⟩
abbrev cJ2_indexOfSupplementary_4cfef : ByteArray := prog_26_method_49_code
def yJ2_indexOfSupplementary_4cfef : MethodName := ⟨RJ2, "indexOfSupplementary", "([BIII)I"⟩
abbrev cJ2_fillNull_b72d1 : ByteArray := prog_26_method_70_code
def yJ2_fillNull_b72d1 : MethodName := ⟨RJ2, "fillNull", "([BII)V"⟩
abbrev cJ2_putCharSB_b72d1 : ByteArray := prog_26_method_71_code
def yJ2_putCharSB_b72d1 : MethodName := ⟨RJ2, "putCharSB", "([BII)V"⟩
abbrev cJ2_inflate_0e8fd : ByteArray := prog_26_method_86_code
def yJ2_inflate_0e8fd : MethodName := ⟨RJ2, "inflate", "([BI[BII)V"⟩
abbrev cJ2_checkBoundsBeginEnd_d044e : ByteArray := prog_26_method_93_code
def yJ2_checkBoundsBeginEnd_d044e : MethodName := ⟨RJ2, "checkBoundsBeginEnd", "(II[B)V"⟩
abbrev cJ2_checkBoundsOffCount_d044e : ByteArray := prog_26_method_94_code
def yJ2_checkBoundsOffCount_d044e : MethodName := ⟨RJ2, "checkBoundsOffCount", "(II[B)V"⟩
def RJxa1e45 : String := "java/util/AbstractCollection"
abbrev cJxa1e45_init_da8c8 : ByteArray := prog_28_method_1_code
def yJxa1e45_init_da8c8 : MethodName := ⟨RJxa1e45, "<init>", "()V"⟩
def RJxc12de : String := "java/util/AbstractList"
abbrev cJxc12de_init_da8c8 : ByteArray := prog_29_method_1_code
def yJxc12de_init_da8c8 : MethodName := ⟨RJxc12de, "<init>", "()V"⟩
abbrev wsJx4a65c0 : List Cond := u_ws RJx4a65c TJx4a65c 3
abbrev cJx4a65c_init_da8c8 : ByteArray := prog_30_method_2_code
def yJx4a65c_init_da8c8 : MethodName := ⟨RJx4a65c, "<init>", "()V"⟩
abbrev cJx4a65c_grow_92f84 : ByteArray := prog_30_method_6_code
def yJx4a65c_grow_92f84 : MethodName := ⟨RJx4a65c, "grow", "(I)[Ljava/lang/Object;"⟩
abbrev cJx4a65c_grow_d5877 : ByteArray := prog_30_method_7_code
def yJx4a65c_grow_d5877 : MethodName := ⟨RJx4a65c, "grow", "()[Ljava/lang/Object;"⟩
abbrev cJx4a65c_size_8abf5 : ByteArray := prog_30_method_8_code
def yJx4a65c_size_8abf5 : MethodName := ⟨RJx4a65c, "size", "()I"⟩
abbrev cJx4a65c_elementData_915e3 : ByteArray := prog_30_method_18_code
def yJx4a65c_elementData_915e3 : MethodName := ⟨RJx4a65c, "elementData", "(I)Ljava/lang/Object;"⟩
abbrev cJx4a65c_get_915e3 : ByteArray := prog_30_method_20_code
def yJx4a65c_get_915e3 : MethodName := ⟨RJx4a65c, "get", "(I)Ljava/lang/Object;"⟩
abbrev cJx4a65c_add_72be8 : ByteArray := prog_30_method_24_code
def yJx4a65c_add_72be8 : MethodName := ⟨RJx4a65c, "add", "(Ljava/lang/Object;[Ljava/lang/Object;I)V"⟩
abbrev cJx4a65c_add_9ea2d : ByteArray := prog_30_method_25_code
def yJx4a65c_add_9ea2d : MethodName := ⟨RJx4a65c, "add", "(Ljava/lang/Object;)Z"⟩
abbrev cJx4a65c_remove_915e3 : ByteArray := prog_30_method_29_code
def yJx4a65c_remove_915e3 : MethodName := ⟨RJx4a65c, "remove", "(I)Ljava/lang/Object;"⟩
abbrev cJx4a65c_fastRemove_b59b0 : ByteArray := prog_30_method_39_code
def yJx4a65c_fastRemove_b59b0 : MethodName := ⟨RJx4a65c, "fastRemove", "([Ljava/lang/Object;I)V"⟩
abbrev cJ7_rangeCheck_23922 : ByteArray := prog_31_method_30_code
def yJ7_rangeCheck_23922 : MethodName := ⟨RJ7, "rangeCheck", "(III)V"⟩
abbrev cJ7_fill_53178 : ByteArray := prog_31_method_103_code
def yJ7_fill_53178 : MethodName := ⟨RJ7, "fill", "([II)V"⟩
abbrev cJ7_fill_eb02e : ByteArray := prog_31_method_110_code
def yJ7_fill_eb02e : MethodName := ⟨RJ7, "fill", "([BIIB)V"⟩
abbrev cJ7_copyOf_1904c : ByteArray := prog_31_method_119_code
def yJ7_copyOf_1904c : MethodName := ⟨RJ7, "copyOf", "([Ljava/lang/Object;I)[Ljava/lang/Object;"⟩
abbrev cJ7_copyOf_6403c : ByteArray := prog_31_method_120_code
def yJ7_copyOf_6403c : MethodName := ⟨RJ7, "copyOf", "([Ljava/lang/Object;ILjava/lang/Class;)[Ljava/lang/Object;"⟩
abbrev cJ7_copyOf_59c91 : ByteArray := prog_31_method_123_code
def yJ7_copyOf_59c91 : MethodName := ⟨RJ7, "copyOf", "([II)[I"⟩
abbrev cJ7_checkLength_df160 : ByteArray := prog_31_method_131_code
def yJ7_checkLength_df160 : MethodName := ⟨RJ7, "checkLength", "(II)V"⟩
abbrev cJ7_copyOfRange_feecc : ByteArray := prog_31_method_136_code
def yJ7_copyOfRange_feecc : MethodName := ⟨RJ7, "copyOfRange", "([III)[I"⟩
abbrev cJ7_copyOfRangeInt_feecc : ByteArray := prog_31_method_137_code
def yJ7_copyOfRangeInt_feecc : MethodName := ⟨RJ7, "copyOfRangeInt", "([III)[I"⟩
def RJ15 : String := "java/util/Objects"
abbrev cJ15_checkIndex_7cf53 : ByteArray := prog_34_method_17_code
def yJ15_checkIndex_7cf53 : MethodName := ⟨RJ15, "checkIndex", "(II)I"⟩
def RJ8 : String := "jdk/internal/util/ArraysSupport"
abbrev cJ8_newLength_cabcc : ByteArray := prog_37_method_27_code
def yJ8_newLength_cabcc : MethodName := ⟨RJ8, "newLength", "(III)I"⟩
abbrev cJ8_hugeLength_7cf53 : ByteArray := prog_37_method_28_code
def yJ8_hugeLength_7cf53 : MethodName := ⟨RJ8, "hugeLength", "(II)I"⟩
abbrev cJ3_checkFromToIndex_8c36e : ByteArray := prog_38_method_12_code
def yJ3_checkFromToIndex_8c36e : MethodName := ⟨RJ3, "checkFromToIndex", "(IIILjava/util/function/BiFunction;)I"⟩
abbrev cJ3_checkFromIndexSize_8c36e : ByteArray := prog_38_method_13_code
def yJ3_checkFromIndexSize_8c36e : MethodName := ⟨RJ3, "checkFromIndexSize", "(IIILjava/util/function/BiFunction;)I"⟩
def RL : String := "ProofServerLaw"
def wsL_law_r1 : List Cond := [Cond.classLink RL 7 RX11, Cond.instantiable RX11 19, Cond.initialized RX11, Cond.classLink RL 10 RX14, Cond.instantiable RX14 74, Cond.initialized RX14, Cond.methodLink RL 9 yX11_init, Cond.instanceMethod yX11_init, Cond.code yX11_init cX11_init 1 none, Cond.methodLink RX11 1 objectInit, Cond.instanceMethod objectInit, Cond.code objectInit ⟨#[0xb1]⟩ 1 none, Cond.classLink RX11 7 RX0, Cond.instantiable RX0 2, Cond.initialized RX0, Cond.fieldLink RX11 14 "ProofServer" "tape" "LProofServer$Bytes;", Cond.classLink RX11 18 RX2, Cond.instantiable RX2 12, Cond.initialized RX2, Cond.fieldLink RX11 21 "ProofServer" "frames" "LProofServer$Frames;", Cond.classLink RX11 25 RX4, Cond.instantiable RX4 12, Cond.initialized RX4, Cond.fieldLink RX11 28 "ProofServer" "json" "LProofServer$Json;"]
def wsL_law_r2 : List Cond := [Cond.fieldLink RX11 32 "ProofServer" "output" "LProofServer$Bytes;", Cond.fieldLink RX11 35 "ProofServer" "body" "LProofServer$Bytes;", Cond.classLink RX11 38 RX5, Cond.instantiable RX5 11, Cond.initialized RX5, Cond.fieldLink RX11 41 "ProofServer" "kernel" "LProofServer$Kernel;", Cond.classLink RX11 45 RX7, Cond.instantiable RX7 5, Cond.initialized RX7, Cond.fieldLink RX11 47 "ProofServer$Kernel" "names" "LProofServer$Names;", Cond.fieldLink RX11 54 "ProofServer" "printer" "LProofServer$Printer;", Cond.classLink RX11 58 RJx4a65c, Cond.instantiable RJx4a65c 3, Cond.initialized RJx4a65c, Cond.fieldLink RX11 61 "ProofServer" "open" "Ljava/util/List;", Cond.fieldLink RX11 65 "ProofServer" "waiting" "Ljava/util/List;", Cond.fieldLink RX11 68 "ProofServer" "cache" "Ljava/util/List;", Cond.classLink RX11 71 RX1, Cond.fieldLink RX11 73 "ProofServer" "hands" "[LProofServer$Document;", Cond.fieldLink RX11 77 "ProofServer" "phase" "I", Cond.instantiable RX1 17, Cond.initialized RX1, Cond.fieldLink RX11 82 "ProofServer" "spare" "LProofServer$Document;", Cond.fieldLink RX11 86 "ProofServer" "shown" "LProofServer$Bytes;"]
def wsL_law_r3 : List Cond := [Cond.fieldLink RX11 89 "ProofServer" "shownOf" "I", Cond.methodLink RX11 11 yX0_init, Cond.instanceMethod yX0_init, Cond.code yX0_init cX0_init 2 none, Cond.methodLink RX0 1 objectInit, Cond.methodLink RX0 7 Lib.Math.max.name, Cond.static Lib.Math.max.name, Cond.initialized "java/lang/Math", Cond.code Lib.Math.max.name Lib.Math.max.code 2 (some .int), Cond.arrayClass .byte, Cond.fieldLink RX0 13 "ProofServer$Bytes" "row" "[B", Cond.instanceMethod yX2_init, Cond.code yX2_init cX2_init 1 none, Cond.methodLink RX2 3 objectInit, Cond.fieldLink RX2 9 "ProofServer$Frames" "body" "[B", Cond.fieldLink RX2 15 "ProofServer$Frames" "place" "I", Cond.fieldLink RX2 19 "ProofServer$Frames" "told" "I", Cond.instanceMethod yX4_init, Cond.code yX4_init cX4_init 1 none, Cond.methodLink RX4 3 objectInit, Cond.arrayClass .int, Cond.fieldLink RX4 11 "ProofServer$Json" "kinds" "[I", Cond.fieldLink RX4 15 "ProofServer$Json" "firsts" "[I", Cond.fieldLink RX4 18 "ProofServer$Json" "sizes" "[I"]
def wsL_law_r4 : List Cond := [Cond.fieldLink RX4 21 "ProofServer$Json" "nexts" "[I", Cond.fieldLink RX4 24 "ProofServer$Json" "keyFirsts" "[I", Cond.fieldLink RX4 27 "ProofServer$Json" "keySizes" "[I", Cond.fieldLink RX4 30 "ProofServer$Json" "units" "[I", Cond.fieldLink RX4 33 "ProofServer$Json" "bytes" "[B", Cond.instanceMethod yX5_init, Cond.code yX5_init cX5_init 1 none, Cond.methodLink RX5 3 objectInit, Cond.classLink RX5 9 RX6, Cond.instantiable RX6 4, Cond.initialized RX6, Cond.fieldLink RX5 12 "ProofServer$Kernel" "names" "LProofServer$Names;", Cond.classLink RX5 18 RX10, Cond.instantiable RX10 11, Cond.initialized RX10, Cond.fieldLink RX5 23 "ProofServer$Kernel" "syntax" "LProofServer$Syntax;", Cond.classLink RX5 27 RX9, Cond.instantiable RX9 9, Cond.initialized RX9, Cond.fieldLink RX5 30 "ProofServer$Kernel" "start" "LProofServer$State;", Cond.fieldLink RX5 34 "ProofServer$Kernel" "scopeNames" "[I", Cond.fieldLink RX5 38 "ProofServer$Kernel" "scopeEnds" "[I", Cond.fieldLink RX5 41 "ProofServer$Kernel" "source" "[I", Cond.fieldLink RX5 44 "ProofServer$Kernel" "termFrom" "[I"]
def wsL_law_r5 : List Cond := [Cond.fieldLink RX5 47 "ProofServer$Kernel" "termSize" "[I", Cond.fieldLink RX5 50 "ProofServer$Kernel" "single" "[I", Cond.classLink RX5 53 RX3, Cond.fieldLink RX5 55 "ProofServer$Kernel" "fresh" "[LProofServer$Goal;", Cond.methodLink RX5 11 yX6_init, Cond.instanceMethod yX6_init, Cond.code yX6_init cX6_init 4 none, Cond.methodLink RX6 3 objectInit, Cond.arrayClass .long, Cond.fieldLink RX6 11 "ProofServer$Names" "stems" "[J", Cond.fieldLink RX6 15 "ProofServer$Names" "primes" "[I", Cond.fieldLink RX6 19 "ProofServer$Names" "slots" "[I", Cond.methodLink RX6 24 yJ0_length_8abf5, Cond.instanceMethod yJ0_length_8abf5, Cond.selects RJ0 yJ0_length_8abf5 yJ0_length_8abf5, Cond.initialized RJ0, Cond.code yJ0_length_8abf5 cJ0_length_8abf5 1 (some .int), Cond.fieldLink RJ0 9 "java/lang/String" "value" "[B", Cond.methodLink RJ0 335 yJ0_coder_7d493, Cond.instanceMethod yJ0_coder_7d493, Cond.selects RJ0 yJ0_coder_7d493 yJ0_coder_7d493, Cond.code yJ0_coder_7d493 cJ0_coder_7d493 1 (some .byte), Cond.fieldLink RJ0 38 "java/lang/String" "COMPACT_STRINGS" "Z", Cond.fieldLink RJ0 15 "java/lang/String" "coder" "B"]
def wsL_law_r6 : List Cond := [Cond.methodLink RX6 30 yJ0_charAt_5068e, Cond.instanceMethod yJ0_charAt_5068e, Cond.selects RJ0 yJ0_charAt_5068e yJ0_charAt_5068e, Cond.code yJ0_charAt_5068e cJ0_charAt_5068e 2 (some .char), Cond.methodLink RJ0 492 yJ0_isLatin1_aae02, Cond.instanceMethod yJ0_isLatin1_aae02, Cond.selects RJ0 yJ0_isLatin1_aae02 yJ0_isLatin1_aae02, Cond.code yJ0_isLatin1_aae02 cJ0_isLatin1_aae02 1 (some .boolean), Cond.methodLink RJ0 495 yJ1_charAt_3b067, Cond.static yJ1_charAt_3b067, Cond.initialized RJ1, Cond.code yJ1_charAt_3b067 cJ1_charAt_3b067 2 (some .char), Cond.methodLink RJ1 9 yJ0_checkIndex_df160, Cond.static yJ0_checkIndex_df160, Cond.code yJ0_checkIndex_df160 cJ0_checkIndex_df160 2 none, Cond.fieldLink RJ0 1053 "jdk/internal/util/Preconditions" "SIOOBE_FORMATTER" "Ljava/util/function/BiFunction;", Cond.methodLink RJ0 1059 yJ3_checkIndex_8e157, Cond.static yJ3_checkIndex_8e157, Cond.initialized RJ3, Cond.code yJ3_checkIndex_8e157 cJ3_checkIndex_8e157 3 (some .int), Cond.methodLink RJ0 498 yJ2_charAt_3b067, Cond.static yJ2_charAt_3b067, Cond.initialized RJ2, Cond.code yJ2_charAt_3b067 cJ2_charAt_3b067 2 (some .char)]
def wsL_law_r7 : List Cond := [Cond.methodLink RJ2 67 yJ2_checkIndex_2214a, Cond.static yJ2_checkIndex_2214a, Cond.code yJ2_checkIndex_2214a cJ2_checkIndex_2214a 2 none, Cond.methodLink RJ2 48 yJ2_length_9d52b, Cond.static yJ2_length_9d52b, Cond.code yJ2_length_9d52b cJ2_length_9d52b 1 (some .int), Cond.methodLink RJ2 414 yJ0_checkIndex_df160, Cond.methodLink RJ2 71 yJ2_getChar_3b067, Cond.static yJ2_getChar_3b067, Cond.code yJ2_getChar_3b067 cJ2_getChar_3b067 2 (some .char), Cond.fieldLink RJ2 44 "java/lang/StringUTF16" "$assertionsDisabled" "Z", Cond.fieldLink RJ2 59 "java/lang/StringUTF16" "HI_BYTE_SHIFT" "I", Cond.fieldLink RJ2 63 "java/lang/StringUTF16" "LO_BYTE_SHIFT" "I", Cond.methodLink RX6 34 yX6_numberOf, Cond.instanceMethod yX6_numberOf, Cond.selects RX6 yX6_numberOf yX6_numberOf, Cond.code yX6_numberOf cX6_numberOf 10 (some .int), Cond.static yX11_isLetter, Cond.code yX11_isLetter cX11_isLetter 1 (some .boolean), Cond.methodLink RX6 42 yX6_signOf, Cond.static yX6_signOf, Cond.code yX6_signOf cX6_signOf 1 (some .int), Cond.methodLink RX6 46 yX6_find, Cond.instanceMethod yX6_find]
def wsL_law_r8 : List Cond := [Cond.selects RX6 yX6_find yX6_find, Cond.code yX6_find cX6_find 9 (some .int), Cond.constantLong RX6 50 (-7046029254386353131), Cond.fieldLink RX6 52 "ProofServer$Names" "count" "I", Cond.methodLink RX5 20 yX10_init, Cond.instanceMethod yX10_init, Cond.code yX10_init cX10_init 2 none, Cond.methodLink RX10 3 objectInit, Cond.fieldLink RX10 9 "ProofServer$Syntax" "kinds" "[I", Cond.fieldLink RX10 15 "ProofServer$Syntax" "values" "[I", Cond.fieldLink RX10 18 "ProofServer$Syntax" "told" "[I", Cond.fieldLink RX10 21 "ProofServer$Syntax" "nodes" "[I", Cond.fieldLink RX10 24 "ProofServer$Syntax" "names" "LProofServer$Names;", Cond.methodLink RX5 29 yX9_init, Cond.instanceMethod yX9_init, Cond.code yX9_init cX9_init 1 none, Cond.methodLink RX9 3 objectInit, Cond.fieldLink RX9 9 "ProofServer$State" "symbols" "[I", Cond.fieldLink RX9 15 "ProofServer$State" "factNames" "[I", Cond.classLink RX9 18 "[I", Cond.fieldLink RX9 19 "ProofServer$State" "facts" "[[I", Cond.fieldLink RX9 23 "ProofServer$State" "lemma" "I", Cond.fieldLink RX9 27 "ProofServer$State" "statement" "[I", Cond.classLink RX9 30 RX3]
def wsL_law_r9 : List Cond := [Cond.fieldLink RX9 32 "ProofServer$State" "goals" "[LProofServer$Goal;", Cond.fieldLink RX9 36 "ProofServer$State" "ahead" "LProofServer$State;", Cond.fieldLink RX9 40 "ProofServer$State" "units" "[I", Cond.methodLink RX11 51 yX7_init, Cond.instanceMethod yX7_init, Cond.code yX7_init cX7_init 2 none, Cond.methodLink RX7 3 objectInit, Cond.fieldLink RX7 11 "ProofServer$Printer" "stack" "[I", Cond.fieldLink RX7 15 "ProofServer$Printer" "boundNames" "[I", Cond.fieldLink RX7 18 "ProofServer$Printer" "boundMore" "[I", Cond.fieldLink RX7 21 "ProofServer$Printer" "names" "LProofServer$Names;", Cond.methodLink RX11 60 yJx4a65c_init_da8c8, Cond.instanceMethod yJx4a65c_init_da8c8, Cond.code yJx4a65c_init_da8c8 cJx4a65c_init_da8c8 1 none, Cond.fieldLink RJx4a65c 39 "java/util/ArrayList" "DEFAULTCAPACITY_EMPTY_ELEMENTDATA" "[Ljava/lang/Object;", Cond.fieldLink RJx4a65c 9 "java/util/ArrayList" "elementData" "[Ljava/lang/Object;", Cond.methodLink RJx4a65c 1 yJxc12de_init_da8c8, Cond.instanceMethod yJxc12de_init_da8c8, Cond.initialized RJxc12de, Cond.code yJxc12de_init_da8c8 cJxc12de_init_da8c8 1 none, Cond.fieldLink RJxc12de 7 "java/util/AbstractList" "modCount" "I", Cond.methodLink RJxc12de 1 yJxa1e45_init_da8c8, Cond.instanceMethod yJxa1e45_init_da8c8, Cond.initialized RJxa1e45]
def wsL_law_r10 : List Cond := [Cond.code yJxa1e45_init_da8c8 cJxa1e45_init_da8c8 1 none, Cond.methodLink RJxa1e45 1 objectInit, Cond.instanceMethod yX1_init, Cond.code yX1_init cX1_init 1 none, Cond.methodLink RX1 3 objectInit, Cond.fieldLink RX1 9 "ProofServer$Document" "uri" "[I", Cond.fieldLink RX1 15 "ProofServer$Document" "text" "[I", Cond.fieldLink RX1 18 "ProofServer$Document" "starts" "[I", Cond.fieldLink RX1 21 "ProofServer$Document" "ends" "[I", Cond.fieldLink RX1 24 "ProofServer$Document" "costs" "[I", Cond.fieldLink RX1 27 "ProofServer$Document" "early" "[I", Cond.classLink RX1 30 RX9, Cond.fieldLink RX1 32 "ProofServer$Document" "behind" "[LProofServer$State;", Cond.methodLink RL 12 yX14_init, Cond.instanceMethod yX14_init, Cond.code yX14_init cX14_init 1 none, Cond.methodLink RX14 1 objectInit, Cond.fieldLink RX14 9 "ProofServerModel" "tape" "[I", Cond.fieldLink RX14 13 "ProofServerModel" "out" "[I", Cond.constant RX14 16 (100000), Cond.fieldLink RX14 17 "ProofServerModel" "frame" "[I", Cond.fieldLink RX14 20 "ProofServerModel" "kept" "[I", Cond.classLink RX14 23 RJ4, Cond.instantiable RJ4 4]
def wsL_law_r11 : List Cond := [Cond.initialized RJ4, Cond.fieldLink RX14 26 "ProofServerModel" "name" "Ljava/lang/StringBuilder;", Cond.fieldLink RX14 30 "ProofServerModel" "value" "Ljava/lang/StringBuilder;", Cond.fieldLink RX14 33 "ProofServerModel" "length" "I", Cond.fieldLink RX14 37 "ProofServerModel" "sort" "[I", Cond.fieldLink RX14 40 "ProofServerModel" "heir" "[I", Cond.fieldLink RX14 43 "ProofServerModel" "next" "[I", Cond.fieldLink RX14 46 "ProofServerModel" "nameFrom" "[I", Cond.fieldLink RX14 49 "ProofServerModel" "nameTo" "[I", Cond.fieldLink RX14 52 "ProofServerModel" "from" "[I", Cond.fieldLink RX14 55 "ProofServerModel" "to" "[I", Cond.arrayClass .boolean, Cond.fieldLink RX14 58 "ProofServerModel" "isInt" "[Z", Cond.fieldLink RX14 62 "ProofServerModel" "ints" "[I", Cond.fieldLink RX14 65 "ProofServerModel" "pool" "[I", Cond.fieldLink RX14 68 "ProofServerModel" "idUnits" "[I", Cond.classLink RX14 71 RX12, Cond.instantiable RX12 11, Cond.initialized RX12, Cond.fieldLink RX14 74 "ProofServerModel" "documents" "[LProofServerModel$Document;", Cond.fieldLink RX14 78 "ProofServerModel" "changed" "[I", Cond.fieldLink RX14 81 "ProofServerModel" "tail" "[I", Cond.fieldLink RX14 84 "ProofServerModel" "old" "LProofServerModel$Document;", Cond.fieldLink RX14 88 "ProofServerModel" "now" "LProofServerModel$Document;"]
def wsL_law_r12 : List Cond := [Cond.fieldLink RX14 91 "ProofServerModel" "waitOf" "[LProofServerModel$Document;", Cond.fieldLink RX14 94 "ProofServerModel" "waitGoals" "[Z", Cond.fieldLink RX14 97 "ProofServerModel" "waitNeed" "[I", Cond.fieldLink RX14 100 "ProofServerModel" "waitString" "[Z", Cond.fieldLink RX14 103 "ProofServerModel" "waitInt" "[I", Cond.fieldLink RX14 106 "ProofServerModel" "waitUnits" "[I", Cond.fieldLink RX14 109 "ProofServerModel" "waitLength" "[I", Cond.constant RX14 112 (37200), Cond.fieldLink RX14 113 "ProofServerModel" "waitName" "[I", Cond.fieldLink RX14 116 "ProofServerModel" "waitNameLength" "[I", Cond.classLink RX14 119 RX13, Cond.instantiable RX13 50, Cond.initialized RX13, Cond.fieldLink RX14 122 "ProofServerModel" "kernel" "LProofServerModel$Kernel;", Cond.fieldLink RX14 126 "ProofServerModel" "taken" "[I", Cond.fieldLink RX14 129 "ProofServerModel" "checkOf" "[LProofServerModel$Document;", Cond.fieldLink RX14 132 "ProofServerModel" "checkSentence" "[I", Cond.fieldLink RX14 135 "ProofServerModel" "checkLeft" "[I", Cond.fieldLink RX14 138 "ProofServerModel" "checkCached" "[Z", Cond.constant RX14 141 (38400), Cond.fieldLink RX14 142 "ProofServerModel" "cacheUnits" "[I", Cond.fieldLink RX14 145 "ProofServerModel" "cacheLength" "[I", Cond.fieldLink RX14 148 "ProofServerModel" "row" "[I", Cond.fieldLink RX14 151 "ProofServerModel" "told" "LProofServerModel$Document;"]
def wsL_law_r13 : List Cond := [Cond.fieldLink RX14 154 "ProofServerModel" "toldGoals" "[I", Cond.fieldLink RX14 157 "ProofServerModel" "toldFacts" "[I", Cond.methodLink RX14 25 yJ4_init_da8c8, Cond.instanceMethod yJ4_init_da8c8, Cond.code yJ4_init_da8c8 cJ4_init_da8c8 1 none, Cond.methodLink RJ4 1 yJ5_init_d00df, Cond.instanceMethod yJ5_init_d00df, Cond.initialized RJ5, Cond.code yJ5_init_d00df cJ5_init_d00df 2 none, Cond.methodLink RJ5 3 objectInit, Cond.fieldLink RJ5 18 "java/lang/String" "COMPACT_STRINGS" "Z", Cond.fieldLink RJ5 15 "java/lang/AbstractStringBuilder" "value" "[B", Cond.fieldLink RJ5 22 "java/lang/AbstractStringBuilder" "coder" "B", Cond.methodLink RJ5 26 yJ2_newBytesFor_77867, Cond.static yJ2_newBytesFor_77867, Cond.code yJ2_newBytesFor_77867 cJ2_newBytesFor_77867 1 (some (.array .byte)), Cond.methodLink RJ2 11 yJ2_newBytesLength_0f7a4, Cond.static yJ2_newBytesLength_0f7a4, Cond.code yJ2_newBytesLength_0f7a4 cJ2_newBytesLength_0f7a4 1 (some .int), Cond.constant RJ2 20 (1073741823), Cond.instanceMethod yX12_init, Cond.code yX12_init cX12_init 1 none, Cond.methodLink RX12 3 objectInit, Cond.fieldLink RX12 9 "ProofServerModel$Document" "uri" "[I"]
def wsL_law_r14 : List Cond := [Cond.fieldLink RX12 15 "ProofServerModel$Document" "text" "[I", Cond.fieldLink RX12 18 "ProofServerModel$Document" "begin" "[I", Cond.fieldLink RX12 21 "ProofServerModel$Document" "end" "[I", Cond.fieldLink RX12 24 "ProofServerModel$Document" "flaw" "[I", Cond.fieldLink RX12 27 "ProofServerModel$Document" "fault" "[I", Cond.instanceMethod yX13_init, Cond.code yX13_init cX13_init 1 none, Cond.methodLink RX13 3 objectInit, Cond.constant RX13 11 (120000), Cond.fieldLink RX13 12 "ProofServerModel$Kernel" "sort" "[I", Cond.fieldLink RX13 16 "ProofServerModel$Kernel" "name" "[I", Cond.fieldLink RX13 19 "ProofServerModel$Kernel" "one" "[I", Cond.fieldLink RX13 22 "ProofServerModel$Kernel" "two" "[I", Cond.fieldLink RX13 25 "ProofServerModel$Kernel" "three" "[I", Cond.fieldLink RX13 28 "ProofServerModel$Kernel" "signs" "[I", Cond.fieldLink RX13 31 "ProofServerModel$Kernel" "nameAt" "[I", Cond.fieldLink RX13 34 "ProofServerModel$Kernel" "nameLength" "[I", Cond.fieldLink RX13 37 "ProofServerModel$Kernel" "symbol" "[I", Cond.fieldLink RX13 40 "ProofServerModel$Kernel" "predicate" "[Z", Cond.fieldLink RX13 44 "ProofServerModel$Kernel" "arity" "[I", Cond.fieldLink RX13 47 "ProofServerModel$Kernel" "factName" "[I", Cond.fieldLink RX13 50 "ProofServerModel$Kernel" "fact" "[I", Cond.fieldLink RX13 53 "ProofServerModel$Kernel" "goal" "[I", Cond.fieldLink RX13 56 "ProofServerModel$Kernel" "vars" "[I"]
def wsL_law_r15 : List Cond := [Cond.fieldLink RX13 59 "ProofServerModel$Kernel" "varName" "[I", Cond.fieldLink RX13 62 "ProofServerModel$Kernel" "hyps" "[I", Cond.fieldLink RX13 65 "ProofServerModel$Kernel" "hypName" "[I", Cond.fieldLink RX13 68 "ProofServerModel$Kernel" "hyp" "[I", Cond.fieldLink RX13 71 "ProofServerModel$Kernel" "kind" "[I", Cond.fieldLink RX13 74 "ProofServerModel$Kernel" "what" "[I", Cond.fieldLink RX13 77 "ProofServerModel$Kernel" "binder" "[I", Cond.fieldLink RX13 80 "ProofServerModel$Kernel" "single" "[I", Cond.fieldLink RX13 83 "ProofServerModel$Kernel" "terms" "[I", Cond.fieldLink RX13 86 "ProofServerModel$Kernel" "newGoals" "[I", Cond.constant RX13 89 (100000), Cond.fieldLink RX13 90 "ProofServerModel$Kernel" "line" "[I", Cond.fieldLink RX13 93 "ProofServerModel$Kernel" "writtenName" "[I", Cond.fieldLink RX13 96 "ProofServerModel$Kernel" "writtenMarks" "[I", Cond.methodLink RL 13 yX11_feed, Cond.instanceMethod yX11_feed, Cond.selects RX11 yX11_feed yX11_feed, Cond.code yX11_feed cX11_feed 6 (some .int), Cond.fieldLink RX11 92 "ProofServer$Bytes" "count" "I", Cond.methodLink RX11 95 yX11_putOnTape, Cond.instanceMethod yX11_putOnTape, Cond.selects RX11 yX11_putOnTape yX11_putOnTape, Cond.code yX11_putOnTape cX11_putOnTape 3 none, Cond.methodLink RX11 246 yX0_put]
def wsL_law_r16 : List Cond := [Cond.instanceMethod yX0_put, Cond.selects RX0 yX0_put yX0_put, Cond.code yX0_put cX0_put 2 none, Cond.fieldLink RX0 19 "ProofServer$Bytes" "count" "I", Cond.constant RX0 23 (1000000), Cond.methodLink RX0 24 yJ7_copyOf_9075b, Cond.static yJ7_copyOf_9075b, Cond.initialized RJ7, Cond.code yJ7_copyOf_9075b cJ7_copyOf_9075b 3 (some (.array .byte)), Cond.methodLink RJ7 310 ⟨"[B", "clone", "()Ljava/lang/Object;"⟩, Cond.sameMethod "[B" "java/lang/Object" "clone" "()Ljava/lang/Object;", Cond.native ⟨"java/lang/Object", "clone", "()Ljava/lang/Object;"⟩, Cond.instanceMethod ⟨"java/lang/Object", "clone", "()Ljava/lang/Object;"⟩, Cond.selects "[B" ⟨"[B", "clone", "()Ljava/lang/Object;"⟩ ⟨"java/lang/Object", "clone", "()Ljava/lang/Object;"⟩, Cond.classLink RJ7 311 "[B", Cond.methodLink RJ7 304 Lib.Math.min.name, Cond.static Lib.Math.min.name, Cond.code Lib.Math.min.name Lib.Math.min.code 2 (some .int), Cond.methodLink RJ7 150 arraycopyName, Cond.native arraycopyName, Cond.static arraycopyName, Cond.initialized "java/lang/System", Cond.methodLink RL 17 yX14_feed, Cond.instanceMethod yX14_feed]
def wsL_law_r17 : List Cond := [Cond.selects RX14 yX14_feed yX14_feed, Cond.code yX14_feed cX14_feed 8 (some .int), Cond.fieldLink RX14 217 "ProofServerModel" "taped" "I", Cond.methodLink RL 18 yX11_give, Cond.instanceMethod yX11_give, Cond.selects RX11 yX11_give yX11_give, Cond.code yX11_give cX11_give 4 (some .int), Cond.fieldLink RX11 98 "ProofServer$Bytes" "row" "[B", Cond.fieldLink RX11 102 "ProofServer$Frames" "broken" "Z", Cond.fieldLink RX11 114 "ProofServer$Request" "id" "LProofServer$Bytes;", Cond.methodLink RX11 106 yX2_accept, Cond.instanceMethod yX2_accept, Cond.selects RX2 yX2_accept yX2_accept, Cond.code yX2_accept cX2_accept 2 (some .boolean), Cond.fieldLink RX2 22 "ProofServer$Frames" "broken" "Z", Cond.fieldLink RX2 26 "ProofServer$Frames" "filled" "I", Cond.fieldLink RX2 29 "ProofServer$Frames" "kept" "I", Cond.fieldLink RX2 36 "ProofServer$Frames" "length" "I", Cond.fieldLink RX2 39 "ProofServer$Frames" "messages" "I", Cond.methodLink RX2 32 yX2_isHeader, Cond.instanceMethod yX2_isHeader, Cond.selects RX2 yX2_isHeader yX2_isHeader, Cond.code yX2_isHeader cX2_isHeader 2 (some .boolean), Cond.methodLink RX2 42 yX2_isLineBegin]
def wsL_law_r18 : List Cond := [Cond.instanceMethod yX2_isLineBegin, Cond.selects RX2 yX2_isLineBegin yX2_isLineBegin, Cond.code yX2_isLineBegin cX2_isLineBegin 2 (some .boolean), Cond.fieldLink RX2 54 "ProofServer$Frames" "signs" "I", Cond.fieldLink RX2 57 "ProofServer$Frames" "isLengthName" "Z", Cond.methodLink RX2 45 yX2_isInName, Cond.instanceMethod yX2_isInName, Cond.selects RX2 yX2_isInName yX2_isInName, Cond.code yX2_isInName cX2_isInName 3 (some .boolean), Cond.fieldLink RX2 67 "ProofServer$Frames" "digits" "I", Cond.fieldLink RX2 70 "ProofServer$Frames" "value" "I", Cond.methodLink RX2 62 yJ0_length_8abf5, Cond.methodLink RX2 73 yJ0_charAt_5068e, Cond.methodLink RX2 48 yX2_isInValue, Cond.instanceMethod yX2_isInValue, Cond.selects RX2 yX2_isInValue yX2_isInValue, Cond.code yX2_isInValue cX2_isInValue 2 (some .boolean), Cond.methodLink RX2 51 yX2_isInLength, Cond.instanceMethod yX2_isInLength, Cond.selects RX2 yX2_isInLength yX2_isInLength, Cond.code yX2_isInLength cX2_isInLength 2 (some .boolean), Cond.methodLink RX11 110 yX11_understood, Cond.instanceMethod yX11_understood, Cond.selects RX11 yX11_understood yX11_understood]
def wsL_law_r19 : List Cond := [Cond.code yX11_understood cX11_understood 6 (some (.object "ProofServer$Request")), Cond.fieldLink RX11 253 "ProofServer$Frames" "body" "[B", Cond.fieldLink RX11 255 "ProofServer$Frames" "length" "I", Cond.classLink RX11 115 RX8, Cond.instantiable RX8 5, Cond.initialized RX8, Cond.methodLink RX11 256 yX4_read, Cond.instanceMethod yX4_read, Cond.selects RX4 yX4_read yX4_read, Cond.code yX4_read cX4_read 4 (some .boolean), Cond.methodLink RX4 37 Lib.Math.min.name, Cond.fieldLink RX4 43 "ProofServer$Json" "end" "I", Cond.fieldLink RX4 47 "ProofServer$Json" "at" "I", Cond.fieldLink RX4 50 "ProofServer$Json" "values" "I", Cond.fieldLink RX4 53 "ProofServer$Json" "unitCount" "I", Cond.methodLink RX4 56 yX4_skipBlanks, Cond.instanceMethod yX4_skipBlanks, Cond.selects RX4 yX4_skipBlanks yX4_skipBlanks, Cond.code yX4_skipBlanks cX4_skipBlanks 1 none, Cond.methodLink RX4 89 yX4_peek, Cond.instanceMethod yX4_peek, Cond.selects RX4 yX4_peek yX4_peek, Cond.code yX4_peek cX4_peek 1 (some .int), Cond.static yX11_isBlank]
def wsL_law_r20 : List Cond := [Cond.code yX11_isBlank cX11_isBlank 1 (some .boolean), Cond.methodLink RX4 59 yX4_value, Cond.instanceMethod yX4_value, Cond.selects RX4 yX4_value yX4_value, Cond.code yX4_value cX4_value 4 (some .int), Cond.methodLink RX4 96 yX4_holder, Cond.instanceMethod yX4_holder, Cond.selects RX4 yX4_holder yX4_holder, Cond.methodLink RX4 100 yX4_isString, Cond.instanceMethod yX4_isString, Cond.selects RX4 yX4_isString yX4_isString, Cond.code yX4_isString cX4_isString 4 (some .boolean), Cond.methodLink RX4 140 yX0_decoded, Cond.static yX0_decoded, Cond.code yX0_decoded cX0_decoded 8 (some .int), Cond.constant RX0 60 (65536), Cond.constant RX0 74 (1114111), Cond.constant RX0 61 (55296), Cond.constant RX0 73 (57344), Cond.methodLink RX4 116 yX4_isWord, Cond.instanceMethod yX4_isWord, Cond.selects RX4 yX4_isWord yX4_isWord, Cond.code yX4_isWord cX4_isWord 3 (some .boolean), Cond.methodLink RX4 70 yJ0_length_8abf5]
def wsL_law_r21 : List Cond := [Cond.methodLink RX4 76 yJ0_charAt_5068e, Cond.methodLink RX4 148 yX4_isUnitEscape, Cond.instanceMethod yX4_isUnitEscape, Cond.selects RX4 yX4_isUnitEscape yX4_isUnitEscape, Cond.code yX4_isUnitEscape cX4_isUnitEscape 3 (some .boolean), Cond.methodLink RX4 167 yX4_fourDigits, Cond.instanceMethod yX4_fourDigits, Cond.selects RX4 yX4_fourDigits yX4_fourDigits, Cond.code yX4_fourDigits cX4_fourDigits 6 (some .int), Cond.methodLink RX4 170 yX0_isLow, Cond.static yX0_isLow, Cond.code yX0_isLow cX0_isLow 1 (some .boolean), Cond.constant RX0 62 (56320), Cond.methodLink RX4 163 yX4_addUnit, Cond.instanceMethod yX4_addUnit, Cond.selects RX4 yX4_addUnit yX4_addUnit, Cond.code yX4_addUnit cX4_addUnit 2 none, Cond.methodLink RX4 173 yX0_isHigh, Cond.static yX0_isHigh, Cond.code yX0_isHigh cX0_isHigh 1 (some .boolean), Cond.methodLink RX4 151 yX4_isEscape, Cond.instanceMethod yX4_isEscape, Cond.selects RX4 yX4_isEscape yX4_isEscape, Cond.code yX4_isEscape cX4_isEscape 2 (some .boolean)]
def wsL_law_r22 : List Cond := [Cond.methodLink RX4 154 yX0_decodedSize, Cond.static yX0_decodedSize, Cond.code yX0_decodedSize cX0_decodedSize 1 (some .int), Cond.methodLink RX4 157 yX4_addChar, Cond.instanceMethod yX4_addChar, Cond.selects RX4 yX4_addChar yX4_addChar, Cond.code yX4_addChar cX4_addChar 2 none, Cond.constant RX4 161 (65536), Cond.constant RX4 162 (55296), Cond.constant RX4 166 (56320), Cond.methodLink RX4 104 yX4_make, Cond.instanceMethod yX4_make, Cond.selects RX4 yX4_make yX4_make, Cond.code yX4_make cX4_make 4 (some .int), Cond.static yX11_isDigit, Cond.code yX11_isDigit cX11_isDigit 1 (some .boolean), Cond.methodLink RX4 111 yX4_number, Cond.instanceMethod yX4_number, Cond.selects RX4 yX4_number yX4_number, Cond.code yX4_number cX4_number 8 (some .int), Cond.constantLong RX4 130 (2147483648), Cond.constantLong RX4 132 (10), Cond.constantLong RX4 134 (48), Cond.constantLong RX4 136 (-2147483648)]
def wsL_law_r23 : List Cond := [Cond.constantLong RX4 138 (2147483647), Cond.methodLink RX4 127 yX4_digits, Cond.instanceMethod yX4_digits, Cond.selects RX4 yX4_digits yX4_digits, Cond.code yX4_digits cX4_digits 2 (some .int), Cond.code yX4_holder cX4_holder 11 (some .int), Cond.methodLink RX4 124 yX4_isColon, Cond.instanceMethod yX4_isColon, Cond.selects RX4 yX4_isColon yX4_isColon, Cond.code yX4_isColon cX4_isColon 2 (some .boolean), Cond.methodLink RX11 260 yX4_member, Cond.instanceMethod yX4_member, Cond.selects RX4 yX4_member yX4_member, Cond.code yX4_member cX4_member 6 (some .int), Cond.methodLink RX4 63 yX4_kindOf, Cond.instanceMethod yX4_kindOf, Cond.selects RX4 yX4_kindOf yX4_kindOf, Cond.code yX4_kindOf cX4_kindOf 2 (some .int), Cond.methodLink RX4 66 yX4_areUnits, Cond.instanceMethod yX4_areUnits, Cond.selects RX4 yX4_areUnits yX4_areUnits, Cond.code yX4_areUnits cX4_areUnits 5 (some .boolean), Cond.methodLink RX11 264 yX8_init, Cond.instanceMethod yX8_init]
def wsL_law_r24 : List Cond := [Cond.code yX8_init cX8_init 6 none, Cond.methodLink RX8 3 objectInit, Cond.fieldLink RX8 9 "ProofServer$Request" "name" "I", Cond.classLink RX8 24 RX0, Cond.fieldLink RX8 29 "ProofServer$Request" "id" "LProofServer$Bytes;", Cond.methodLink RX8 15 yX4_kindOf, Cond.methodLink RX8 21 yX4_sizeOf, Cond.instanceMethod yX4_sizeOf, Cond.selects RX4 yX4_sizeOf yX4_sizeOf, Cond.code yX4_sizeOf cX4_sizeOf 2 (some .int), Cond.methodLink RX8 26 yX0_init, Cond.methodLink RX8 33 yX4_valueOf, Cond.instanceMethod yX4_valueOf, Cond.selects RX4 yX4_valueOf yX4_valueOf, Cond.code yX4_valueOf cX4_valueOf 2 (some .int), Cond.methodLink RX8 36 yX0_number, Cond.instanceMethod yX0_number, Cond.selects RX0 yX0_number yX0_number, Cond.code yX0_number cX0_number 9 none, Cond.constantLong RX0 44 (1000000000), Cond.constantLong RX0 46 (10), Cond.constantLong RX0 48 (48), Cond.methodLink RX0 40 yX0_put, Cond.methodLink RX8 39 yX4_unitsOf]
def wsL_law_r25 : List Cond := [Cond.instanceMethod yX4_unitsOf, Cond.selects RX4 yX4_unitsOf yX4_unitsOf, Cond.code yX4_unitsOf cX4_unitsOf 4 (some (.array .int)), Cond.methodLink RX4 86 Lib.Math.max.name, Cond.methodLink RX4 80 yX4_unitAt, Cond.instanceMethod yX4_unitAt, Cond.selects RX4 yX4_unitAt yX4_unitAt, Cond.code yX4_unitAt cX4_unitAt 4 (some .int), Cond.methodLink RX4 83 yX4_sizeOf, Cond.methodLink RX8 43 yX0_quoted, Cond.instanceMethod yX0_quoted, Cond.selects RX0 yX0_quoted yX0_quoted, Cond.code yX0_quoted cX0_quoted 7 none, Cond.methodLink RX0 50 Lib.Math.min.name, Cond.constant RX0 66 (65533), Cond.methodLink RX0 53 yX0_isHigh, Cond.methodLink RX0 57 yX0_isLow, Cond.methodLink RX0 63 yX0_character, Cond.instanceMethod yX0_character, Cond.selects RX0 yX0_character yX0_character, Cond.code yX0_character cX0_character 2 none, Cond.methodLink RX0 69 yX0_text, Cond.instanceMethod yX0_text, Cond.selects RX0 yX0_text yX0_text]
def wsL_law_r26 : List Cond := [Cond.code yX0_text cX0_text 3 none, Cond.methodLink RX0 30 yJ0_length_8abf5, Cond.methodLink RX0 36 yJ0_charAt_5068e, Cond.methodLink RX11 267 yX11_refuse, Cond.instanceMethod yX11_refuse, Cond.selects RX11 yX11_refuse yX11_refuse, Cond.code yX11_refuse cX11_refuse 3 none, Cond.methodLink RX11 291 yX11_beginAnswer, Cond.instanceMethod yX11_beginAnswer, Cond.selects RX11 yX11_beginAnswer yX11_beginAnswer, Cond.code yX11_beginAnswer cX11_beginAnswer 3 none, Cond.methodLink RX11 297 yX0_text, Cond.methodLink RX11 495 yX0_append, Cond.instanceMethod yX0_append, Cond.selects RX0 yX0_append yX0_append, Cond.code yX0_append cX0_append 3 none, Cond.methodLink RX11 466 yX0_number, Cond.methodLink RX11 471 yX11_errorText, Cond.static yX11_errorText, Cond.code yX11_errorText cX11_errorText 1 (some (.object "java/lang/String")), Cond.methodLink RX11 300 yX11_send, Cond.instanceMethod yX11_send, Cond.selects RX11 yX11_send yX11_send, Cond.code yX11_send cX11_send 3 none]
def wsL_law_r27 : List Cond := [Cond.fieldLink RX11 151 "ProofServer" "lost" "I", Cond.methodLink RX11 277 yX4_isText, Cond.instanceMethod yX4_isText, Cond.selects RX4 yX4_isText yX4_isText, Cond.code yX4_isText cX4_isText 3 (some .boolean), Cond.methodLink RX11 283 yX4_kindOf, Cond.methodLink RX11 119 yX11_request, Cond.instanceMethod yX11_request, Cond.selects RX11 yX11_request yX11_request, Cond.code yX11_request cX11_request 4 none, Cond.methodLink RX11 309 yX11_aimAtPlace, Cond.instanceMethod yX11_aimAtPlace, Cond.selects RX11 yX11_aimAtPlace yX11_aimAtPlace, Cond.code yX11_aimAtPlace cX11_aimAtPlace 5 (some .boolean), Cond.fieldLink RX11 432 "ProofServer$Request" "about" "LProofServer$Document;", Cond.fieldLink RX11 438 "ProofServer$Request" "needed" "I", Cond.methodLink RX11 359 yX11_addressed, Cond.instanceMethod yX11_addressed, Cond.selects RX11 yX11_addressed yX11_addressed, Cond.code yX11_addressed cX11_addressed 3 (some (.object "ProofServer$Document")), Cond.classLink RX11 71 "ProofServer$Document", Cond.fieldLink RX11 348 "ProofServer$Document" "uri" "[I", Cond.methodLink RX11 142 ⟨"java/util/List", "size", "()I"⟩, Cond.selects RJx4a65c ⟨"java/util/List", "size", "()I"⟩ yJx4a65c_size_8abf5]
def wsL_law_r28 : List Cond := [Cond.instanceMethod yJx4a65c_size_8abf5, Cond.code yJx4a65c_size_8abf5 cJx4a65c_size_8abf5 1 (some .int), Cond.fieldLink RJx4a65c 48 "java/util/ArrayList" "size" "I", Cond.methodLink RX11 249 ⟨"java/util/List", "get", "(I)Ljava/lang/Object;"⟩, Cond.selects RJx4a65c ⟨"java/util/List", "get", "(I)Ljava/lang/Object;"⟩ yJx4a65c_get_915e3, Cond.instanceMethod yJx4a65c_get_915e3, Cond.code yJx4a65c_get_915e3 cJx4a65c_get_915e3 2 (some (.object "java/lang/Object")), Cond.methodLink RJx4a65c 118 yJ15_checkIndex_7cf53, Cond.static yJ15_checkIndex_7cf53, Cond.initialized RJ15, Cond.code yJ15_checkIndex_7cf53 cJ15_checkIndex_7cf53 2 (some .int), Cond.methodLink RJ15 105 yJ3_checkIndex_8e157, Cond.methodLink RJx4a65c 123 yJx4a65c_elementData_915e3, Cond.instanceMethod yJx4a65c_elementData_915e3, Cond.selects RJx4a65c yJx4a65c_elementData_915e3 yJx4a65c_elementData_915e3, Cond.code yJx4a65c_elementData_915e3 cJx4a65c_elementData_915e3 2 (some (.object "java/lang/Object")), Cond.methodLink RX11 350 yX4_isUnits, Cond.instanceMethod yX4_isUnits, Cond.selects RX4 yX4_isUnits yX4_isUnits, Cond.code yX4_isUnits cX4_isUnits 4 (some .boolean), Cond.methodLink RX11 409 yX11_placeTold, Cond.instanceMethod yX11_placeTold, Cond.selects RX11 yX11_placeTold yX11_placeTold, Cond.code yX11_placeTold cX11_placeTold 5 (some .int)]
def wsL_law_r29 : List Cond := [Cond.methodLink RX11 367 yX4_valueOf, Cond.methodLink RX11 419 yX1_placeOf, Cond.instanceMethod yX1_placeOf, Cond.selects RX1 yX1_placeOf yX1_placeOf, Cond.code yX1_placeOf cX1_placeOf 6 (some .int), Cond.fieldLink RX1 42 "ProofServer$Document" "length" "I", Cond.methodLink RX1 108 yX1_endsLine, Cond.instanceMethod yX1_endsLine, Cond.selects RX1 yX1_endsLine yX1_endsLine, Cond.code yX1_endsLine cX1_endsLine 3 (some .boolean), Cond.methodLink RX11 435 yX1_endedBy, Cond.instanceMethod yX1_endedBy, Cond.selects RX1 yX1_endedBy yX1_endedBy, Cond.code yX1_endedBy cX1_endedBy 3 (some .int), Cond.fieldLink RX1 69 "ProofServer$Document" "sentences" "I", Cond.methodLink RX11 313 yX11_answerOrWait, Cond.instanceMethod yX11_answerOrWait, Cond.selects RX11 yX11_answerOrWait yX11_answerOrWait, Cond.code yX11_answerOrWait cX11_answerOrWait 3 none, Cond.methodLink RX11 453 yX8_isReady, Cond.instanceMethod yX8_isReady, Cond.selects RX8 yX8_isReady yX8_isReady, Cond.code yX8_isReady cX8_isReady 1 (some .boolean), Cond.fieldLink RX8 47 "ProofServer$Request" "about" "LProofServer$Document;"]
def wsL_law_r30 : List Cond := [Cond.fieldLink RX8 51 "ProofServer$Document" "checked" "I", Cond.fieldLink RX8 56 "ProofServer$Request" "needed" "I", Cond.methodLink RX11 456 yX11_reply, Cond.instanceMethod yX11_reply, Cond.selects RX11 yX11_reply yX11_reply, Cond.code yX11_reply cX11_reply 3 none, Cond.fieldLink RX11 217 "ProofServer$Kernel" "start" "LProofServer$State;", Cond.fieldLink RX11 443 "ProofServer$Request" "isStatement" "Z", Cond.fieldLink RX11 451 "ProofServer$Request" "name" "I", Cond.methodLink RX11 221 yX1_stateBehind, Cond.instanceMethod yX1_stateBehind, Cond.selects RX1 yX1_stateBehind yX1_stateBehind, Cond.code yX1_stateBehind cX1_stateBehind 3 (some (.object "ProofServer$State")), Cond.methodLink RX11 460 yX7_statement, Cond.instanceMethod yX7_statement, Cond.selects RX7 yX7_statement yX7_statement, Cond.code yX7_statement cX7_statement 6 none, Cond.fieldLink RX7 86 "ProofServer$State" "factNames" "[I", Cond.fieldLink RX7 97 "ProofServer$State" "facts" "[[I", Cond.methodLink RX7 89 yX9_find, Cond.static yX9_find, Cond.code yX9_find cX9_find 3 (some .int), Cond.methodLink RX7 93 yX9_symbolOf, Cond.instanceMethod yX9_symbolOf]
def wsL_law_r31 : List Cond := [Cond.selects RX9 yX9_symbolOf yX9_symbolOf, Cond.code yX9_symbolOf cX9_symbolOf 3 (some .int), Cond.methodLink RX7 62 yX0_put, Cond.methodLink RX7 74 yX7_formula, Cond.instanceMethod yX7_formula, Cond.selects RX7 yX7_formula yX7_formula, Cond.code yX7_formula cX7_formula 9 none, Cond.fieldLink RX7 103 "ProofServer$Printer" "height" "I", Cond.constant RX7 114 (131071), Cond.methodLink RX7 106 yX7_push, Cond.instanceMethod yX7_push, Cond.selects RX7 yX7_push yX7_push, Cond.code yX7_push cX7_push 3 none, Cond.methodLink RX7 110 yX7_signText, Cond.static yX7_signText, Cond.code yX7_signText cX7_signText 1 (some (.object "java/lang/String")), Cond.methodLink RX7 33 yX0_text, Cond.methodLink RX7 41 yX6_write, Cond.instanceMethod yX6_write, Cond.selects RX6 yX6_write yX6_write, Cond.code yX6_write cX6_write 6 none, Cond.constantLong RX6 58 (63), Cond.methodLink RX6 60 yX0_put, Cond.methodLink RX7 115 yX7_pushQuantified]
def wsL_law_r32 : List Cond := [Cond.instanceMethod yX7_pushQuantified, Cond.selects RX7 yX7_pushQuantified yX7_pushQuantified, Cond.code yX7_pushQuantified cX7_pushQuantified 6 none, Cond.static yX11_endOf, Cond.code yX11_endOf cX11_endOf 6 (some .int), Cond.methodLink RX7 148 yX7_isWrittenIn, Cond.instanceMethod yX7_isWrittenIn, Cond.selects RX7 yX7_isWrittenIn yX7_isWrittenIn, Cond.code yX7_isWrittenIn cX7_isWrittenIn 11 (some .boolean), Cond.fieldLink RX7 152 "ProofServer$Names" "count" "I", Cond.fieldLink RX7 155 "ProofServer$Names" "stems" "[J", Cond.fieldLink RX7 159 "ProofServer$Names" "primes" "[I", Cond.methodLink RX7 119 yX7_pushJoined, Cond.instanceMethod yX7_pushJoined, Cond.selects RX7 yX7_pushJoined yX7_pushJoined, Cond.code yX7_pushJoined cX7_pushJoined 11 none, Cond.methodLink RX7 122 yX7_pushTerm, Cond.instanceMethod yX7_pushTerm, Cond.selects RX7 yX7_pushTerm yX7_pushTerm, Cond.code yX7_pushTerm cX7_pushTerm 8 none, Cond.methodLink RX7 100 yX0_number, Cond.methodLink RX11 242 yX7_proof, Cond.instanceMethod yX7_proof, Cond.selects RX7 yX7_proof yX7_proof]
def wsL_law_r33 : List Cond := [Cond.code yX7_proof cX7_proof 6 none, Cond.fieldLink RX7 25 "ProofServer$State" "lemma" "I", Cond.fieldLink RX7 49 "ProofServer$State" "goals" "[LProofServer$Goal;", Cond.fieldLink RX7 57 "ProofServer$Goal" "variables" "[I", Cond.fieldLink RX7 66 "ProofServer$Goal" "names" "[I", Cond.fieldLink RX7 68 "ProofServer$Goal" "hypotheses" "[[I", Cond.fieldLink RX7 82 "ProofServer$Goal" "formula" "[I", Cond.methodLink RX11 374 ⟨"java/util/List", "add", "(Ljava/lang/Object;)Z"⟩, Cond.selects RJx4a65c ⟨"java/util/List", "add", "(Ljava/lang/Object;)Z"⟩ yJx4a65c_add_9ea2d, Cond.instanceMethod yJx4a65c_add_9ea2d, Cond.code yJx4a65c_add_9ea2d cJx4a65c_add_9ea2d 2 (some .boolean), Cond.fieldLink RJx4a65c 63 "java/util/ArrayList" "modCount" "I", Cond.sameField "java/util/ArrayList" "java/util/AbstractList" "modCount" "I", Cond.methodLink RJx4a65c 131 yJx4a65c_add_72be8, Cond.instanceMethod yJx4a65c_add_72be8, Cond.selects RJx4a65c yJx4a65c_add_72be8 yJx4a65c_add_72be8, Cond.code yJx4a65c_add_72be8 cJx4a65c_add_72be8 4 none, Cond.methodLink RJx4a65c 129 yJx4a65c_grow_d5877, Cond.instanceMethod yJx4a65c_grow_d5877, Cond.selects RJx4a65c yJx4a65c_grow_d5877 yJx4a65c_grow_d5877, Cond.code yJx4a65c_grow_d5877 cJx4a65c_grow_d5877 1 (some (.array (.object "java/lang/Object"))), Cond.methodLink RJx4a65c 69 yJx4a65c_grow_92f84, Cond.instanceMethod yJx4a65c_grow_92f84, Cond.selects RJx4a65c yJx4a65c_grow_92f84 yJx4a65c_grow_92f84]
def wsL_law_r34 : List Cond := [Cond.code yJx4a65c_grow_92f84 cJx4a65c_grow_92f84 4 (some (.array (.object "java/lang/Object"))), Cond.methodLink RJx4a65c 79 Lib.Math.max.name, Cond.classLink RJx4a65c 7 "java/lang/Object", Cond.methodLink RJx4a65c 73 yJ8_newLength_cabcc, Cond.static yJ8_newLength_cabcc, Cond.initialized RJ8, Cond.code yJ8_newLength_cabcc cJ8_newLength_cabcc 4 (some .int), Cond.methodLink RJ8 194 Lib.Math.max.name, Cond.constant RJ8 200 (2147483639), Cond.methodLink RJ8 201 yJ8_hugeLength_7cf53, Cond.static yJ8_hugeLength_7cf53, Cond.code yJ8_hugeLength_7cf53 cJ8_hugeLength_7cf53 3 (some .int), Cond.methodLink RJx4a65c 66 yJ7_copyOf_1904c, Cond.static yJ7_copyOf_1904c, Cond.code yJ7_copyOf_1904c cJ7_copyOf_1904c 2 (some (.array (.object "java/lang/Object"))), Cond.methodLink RJ7 86 ⟨"java/lang/Object", "getClass", "()Ljava/lang/Class;"⟩, Cond.selects "[Ljava/lang/Object;" ⟨"java/lang/Object", "getClass", "()Ljava/lang/Class;"⟩ ⟨"java/lang/Object", "getClass", "()Ljava/lang/Class;"⟩, Cond.instanceMethod ⟨"java/lang/Object", "getClass", "()Ljava/lang/Class;"⟩, Cond.native ⟨"java/lang/Object", "getClass", "()Ljava/lang/Class;"⟩, Cond.methodLink RJ7 300 yJ7_copyOf_6403c, Cond.static yJ7_copyOf_6403c, Cond.code yJ7_copyOf_6403c cJ7_copyOf_6403c 4 (some (.array (.object "java/lang/Object"))), Cond.classLink RJ7 110 "[Ljava/lang/Object;", Cond.classLink RJ7 2 "java/lang/Object"]
def wsL_law_r35 : List Cond := [Cond.methodLink RX11 319 yX11_aimAtName, Cond.instanceMethod yX11_aimAtName, Cond.selects RX11 yX11_aimAtName yX11_aimAtName, Cond.code yX11_aimAtName cX11_aimAtName 5 (some .boolean), Cond.fieldLink RX11 168 "ProofServer$Document" "sentences" "I", Cond.methodLink RX11 363 yX4_unitsOf, Cond.methodLink RX11 446 yX6_numberOf, Cond.methodLink RX11 123 yX11_notification, Cond.instanceMethod yX11_notification, Cond.selects RX11 yX11_notification yX11_notification, Cond.code yX11_notification cX11_notification 2 none, Cond.methodLink RX11 326 yX11_openDocument, Cond.instanceMethod yX11_openDocument, Cond.selects RX11 yX11_openDocument yX11_openDocument, Cond.code yX11_openDocument cX11_openDocument 7 none, Cond.fieldLink RX11 162 "ProofServer$Document" "version" "I", Cond.fieldLink RX11 203 "ProofServer$Kernel" "syntax" "LProofServer$Syntax;", Cond.fieldLink RX11 171 "ProofServer$Document" "checked" "I", Cond.methodLink RX11 356 yX4_sizeOf, Cond.methodLink RX11 370 yX1_replace, Cond.instanceMethod yX1_replace, Cond.selects RX1 yX1_replace yX1_replace, Cond.code yX1_replace cX1_replace 8 (some .boolean), Cond.methodLink RX1 36 arraycopyName]
def wsL_law_r36 : List Cond := [Cond.methodLink RX1 46 yX4_sizeOf, Cond.methodLink RX1 52 yX4_unitAt, Cond.methodLink RX11 207 yX1_part, Cond.instanceMethod yX1_part, Cond.selects RX1 yX1_part yX1_part, Cond.code yX1_part cX1_part 5 none, Cond.methodLink RX1 75 yX1_sentenceBegin, Cond.instanceMethod yX1_sentenceBegin, Cond.selects RX1 yX1_sentenceBegin yX1_sentenceBegin, Cond.code yX1_sentenceBegin cX1_sentenceBegin 5 (some .int), Cond.static yX11_commentEnd, Cond.code yX11_commentEnd cX11_commentEnd 5 (some .int), Cond.methodLink RX11 609 yX11_opensComment, Cond.static yX11_opensComment, Cond.code yX11_opensComment cX11_opensComment 3 (some .boolean), Cond.methodLink RX1 78 yX1_sentenceEnd, Cond.instanceMethod yX1_sentenceEnd, Cond.selects RX1 yX1_sentenceEnd yX1_sentenceEnd, Cond.code yX1_sentenceEnd cX1_sentenceEnd 5 (some .int), Cond.methodLink RX1 81 yX10_scan, Cond.instanceMethod yX10_scan, Cond.selects RX10 yX10_scan yX10_scan, Cond.code yX10_scan cX10_scan 8 (some .int), Cond.fieldLink RX10 28 "ProofServer$Syntax" "tokens" "I"]
def wsL_law_r37 : List Cond := [Cond.methodLink RX10 32 Lib.Math.min.name, Cond.methodLink RX10 38 Lib.Math.max.name, Cond.methodLink RX10 53 yX10_scanName, Cond.instanceMethod yX10_scanName, Cond.selects RX10 yX10_scanName yX10_scanName, Cond.code yX10_scanName cX10_scanName 6 (some .int), Cond.methodLink RX10 79 yX6_numberOf, Cond.methodLink RX10 56 yX10_add, Cond.instanceMethod yX10_add, Cond.selects RX10 yX10_add yX10_add, Cond.code yX10_add cX10_add 3 none, Cond.methodLink RX10 68 yJ0_indexOf_0f7a4, Cond.instanceMethod yJ0_indexOf_0f7a4, Cond.selects RJ0 yJ0_indexOf_0f7a4 yJ0_indexOf_0f7a4, Cond.code yJ0_indexOf_0f7a4 cJ0_indexOf_0f7a4 2 (some .int), Cond.methodLink RJ0 633 yJ0_indexOf_7cf53, Cond.instanceMethod yJ0_indexOf_7cf53, Cond.selects RJ0 yJ0_indexOf_7cf53 yJ0_indexOf_7cf53, Cond.code yJ0_indexOf_7cf53 cJ0_indexOf_7cf53 3 (some .int), Cond.methodLink RJ0 505 yJ0_length_8abf5, Cond.methodLink RJ0 637 yJ1_indexOf_4cfef, Cond.static yJ1_indexOf_4cfef, Cond.code yJ1_indexOf_4cfef cJ1_indexOf_4cfef 4 (some .int), Cond.methodLink RJ1 92 Lib.Math.max.name]
def wsL_law_r38 : List Cond := [Cond.methodLink RJ1 38 Lib.Math.min.name, Cond.methodLink RJ1 88 yJ1_canEncode_9a6ad, Cond.static yJ1_canEncode_9a6ad, Cond.code yJ1_canEncode_9a6ad cJ1_canEncode_9a6ad 1 (some .boolean), Cond.methodLink RJ1 95 yJ1_indexOfChar_4cfef, Cond.static yJ1_indexOfChar_4cfef, Cond.code yJ1_indexOfChar_4cfef cJ1_indexOfChar_4cfef 6 (some .int), Cond.methodLink RJ0 640 yJ2_indexOf_4cfef, Cond.static yJ2_indexOf_4cfef, Cond.code yJ2_indexOf_4cfef cJ2_indexOf_4cfef 4 (some .int), Cond.methodLink RJ2 224 Lib.Math.max.name, Cond.methodLink RJ2 183 Lib.Math.min.name, Cond.constant RJ2 227 (65536), Cond.methodLink RJ2 228 yJ2_indexOfChar_4cfef, Cond.static yJ2_indexOfChar_4cfef, Cond.code yJ2_indexOfChar_4cfef cJ2_indexOfChar_4cfef 4 (some .int), Cond.methodLink RJ2 96 yJ2_checkBoundsBeginEnd_d044e, Cond.static yJ2_checkBoundsBeginEnd_d044e, Cond.code yJ2_checkBoundsBeginEnd_d044e cJ2_checkBoundsBeginEnd_d044e 3 none, Cond.methodLink RJ2 241 yJ0_checkBoundsBeginEnd_23922, Cond.static yJ0_checkBoundsBeginEnd_23922, Cond.code yJ0_checkBoundsBeginEnd_23922 cJ0_checkBoundsBeginEnd_23922 3 none, Cond.methodLink RJ0 1062 yJ3_checkFromToIndex_8c36e, Cond.static yJ3_checkFromToIndex_8c36e]
def wsL_law_r39 : List Cond := [Cond.code yJ3_checkFromToIndex_8c36e cJ3_checkFromToIndex_8c36e 4 (some .int), Cond.methodLink RJ2 244 yJ2_indexOfCharUnsafe_4cfef, Cond.static yJ2_indexOfCharUnsafe_4cfef, Cond.code yJ2_indexOfCharUnsafe_4cfef cJ2_indexOfCharUnsafe_4cfef 5 (some .int), Cond.methodLink RJ2 232 yJ2_indexOfSupplementary_4cfef, Cond.static yJ2_indexOfSupplementary_4cfef, Cond.code yJ2_indexOfSupplementary_4cfef cJ2_indexOfSupplementary_4cfef 7 (some .int), Cond.methodLink RJ2 164 yJ11_isValidCodePoint_9a6ad, Cond.static yJ11_isValidCodePoint_9a6ad, Cond.initialized RJ11, Cond.code yJ11_isValidCodePoint_9a6ad cJ11_isValidCodePoint_9a6ad 2 (some .boolean), Cond.methodLink RJ2 157 yJ11_highSurrogate_5068e, Cond.static yJ11_highSurrogate_5068e, Cond.code yJ11_highSurrogate_5068e cJ11_highSurrogate_5068e 1 (some .char), Cond.constant RJ11 110 (55232), Cond.methodLink RJ2 161 yJ11_lowSurrogate_5068e, Cond.static yJ11_lowSurrogate_5068e, Cond.code yJ11_lowSurrogate_5068e cJ11_lowSurrogate_5068e 1 (some .char), Cond.constant RJ11 76 (56320), Cond.methodLink RX11 378 yX11_publish, Cond.instanceMethod yX11_publish, Cond.selects RX11 yX11_publish yX11_publish, Cond.code yX11_publish cX11_publish 5 none, Cond.fieldLink RX11 178 "ProofServer$Document" "behind" "[LProofServer$State;"]
def wsL_law_r40 : List Cond := [Cond.fieldLink RX11 188 "ProofServer$State" "fault" "I", Cond.methodLink RX11 501 yX0_quoted, Cond.methodLink RX11 509 yX1_rewind, Cond.instanceMethod yX1_rewind, Cond.selects RX1 yX1_rewind yX1_rewind, Cond.code yX1_rewind cX1_rewind 1 none, Cond.fieldLink RX1 111 "ProofServer$Document" "line" "I", Cond.fieldLink RX1 114 "ProofServer$Document" "lineStart" "I", Cond.fieldLink RX1 117 "ProofServer$Document" "cursor" "I", Cond.methodLink RX11 512 yX11_diagnostic, Cond.instanceMethod yX11_diagnostic, Cond.selects RX11 yX11_diagnostic yX11_diagnostic, Cond.code yX11_diagnostic cX11_diagnostic 3 none, Cond.fieldLink RX11 182 "ProofServer$Document" "starts" "[I", Cond.fieldLink RX11 185 "ProofServer$Document" "ends" "[I", Cond.methodLink RX11 520 yX11_position, Cond.instanceMethod yX11_position, Cond.selects RX11 yX11_position yX11_position, Cond.code yX11_position cX11_position 3 none, Cond.fieldLink RX11 536 "ProofServer$Document" "line" "I", Cond.fieldLink RX11 540 "ProofServer$Document" "lineStart" "I", Cond.methodLink RX11 531 yX1_seek, Cond.instanceMethod yX1_seek, Cond.selects RX1 yX1_seek yX1_seek]
def wsL_law_r41 : List Cond := [Cond.code yX1_seek cX1_seek 2 none, Cond.methodLink RX11 526 yX11_faultText, Cond.static yX11_faultText, Cond.code yX11_faultText cX11_faultText 1 (some (.object "java/lang/String")), Cond.methodLink RX11 331 yX11_changeDocument, Cond.instanceMethod yX11_changeDocument, Cond.selects RX11 yX11_changeDocument yX11_changeDocument, Cond.code yX11_changeDocument cX11_changeDocument 7 none, Cond.methodLink RX11 384 yX1_copyText, Cond.instanceMethod yX1_copyText, Cond.selects RX1 yX1_copyText yX1_copyText, Cond.code yX1_copyText cX1_copyText 2 none, Cond.methodLink RX11 388 yX4_firstOf, Cond.instanceMethod yX4_firstOf, Cond.selects RX4 yX4_firstOf yX4_firstOf, Cond.code yX4_firstOf cX4_firstOf 2 (some .int), Cond.methodLink RX11 391 yX11_makeChange, Cond.instanceMethod yX11_makeChange, Cond.selects RX11 yX11_makeChange yX11_makeChange, Cond.code yX11_makeChange cX11_makeChange 6 (some .boolean), Cond.fieldLink RX11 165 "ProofServer$Document" "length" "I", Cond.methodLink RX11 394 yX4_nextOf, Cond.instanceMethod yX4_nextOf, Cond.selects RX4 yX4_nextOf yX4_nextOf]
def wsL_law_r42 : List Cond := [Cond.code yX4_nextOf cX4_nextOf 2 (some .int), Cond.methodLink RX11 397 yX11_dismiss, Cond.instanceMethod yX11_dismiss, Cond.selects RX11 yX11_dismiss yX11_dismiss, Cond.code yX11_dismiss cX11_dismiss 4 none, Cond.classLink RX11 115 "ProofServer$Request", Cond.constant RX11 459 (-32801), Cond.methodLink RX11 423 ⟨"java/util/List", "remove", "(I)Ljava/lang/Object;"⟩, Cond.selects RJx4a65c ⟨"java/util/List", "remove", "(I)Ljava/lang/Object;"⟩ yJx4a65c_remove_915e3, Cond.instanceMethod yJx4a65c_remove_915e3, Cond.code yJx4a65c_remove_915e3 cJx4a65c_remove_915e3 4 (some (.object "java/lang/Object")), Cond.methodLink RJx4a65c 144 yJx4a65c_fastRemove_b59b0, Cond.instanceMethod yJx4a65c_fastRemove_b59b0, Cond.selects RJx4a65c yJx4a65c_fastRemove_b59b0 yJx4a65c_fastRemove_b59b0, Cond.code yJx4a65c_fastRemove_b59b0 cJx4a65c_fastRemove_b59b0 4 none, Cond.methodLink RJx4a65c 112 arraycopyName, Cond.methodLink RX11 400 yX1_keepChecked, Cond.instanceMethod yX1_keepChecked, Cond.selects RX1 yX1_keepChecked yX1_keepChecked, Cond.code yX1_keepChecked cX1_keepChecked 3 (some .boolean), Cond.fieldLink RX1 72 "ProofServer$Document" "checked" "I", Cond.fieldLink RX1 98 "ProofServer$State" "units" "[I", Cond.fieldLink RX1 105 "ProofServer$Document" "checking" "[I", Cond.methodLink RX1 101 yX1_isSentence]
def wsL_law_r43 : List Cond := [Cond.instanceMethod yX1_isSentence, Cond.selects RX1 yX1_isSentence yX1_isSentence, Cond.code yX1_isSentence cX1_isSentence 4 (some .boolean), Cond.methodLink RX11 403 yX11_release, Cond.instanceMethod yX11_release, Cond.selects RX11 yX11_release yX11_release, Cond.code yX11_release cX11_release 3 none, Cond.fieldLink RX11 567 "ProofServer$Document" "checking" "[I", Cond.fieldLink RX11 580 "ProofServer$Document" "found" "LProofServer$State;", Cond.fieldLink RX11 577 "ProofServer$Document" "left" "I", Cond.methodLink RX11 336 yX11_closeDocument, Cond.instanceMethod yX11_closeDocument, Cond.selects RX11 yX11_closeDocument yX11_closeDocument, Cond.code yX11_closeDocument cX11_closeDocument 3 none, Cond.methodLink RX11 154 yX11_numberOf, Cond.instanceMethod yX11_numberOf, Cond.selects RX11 yX11_numberOf yX11_numberOf, Cond.code yX11_numberOf cX11_numberOf 3 (some .int), Cond.methodLink RX11 341 yX11_cancelRequest, Cond.instanceMethod yX11_cancelRequest, Cond.selects RX11 yX11_cancelRequest yX11_cancelRequest, Cond.code yX11_cancelRequest cX11_cancelRequest 3 none, Cond.constant RX11 429 (-32800), Cond.methodLink RX11 426 yX8_hasIdOf]
def wsL_law_r44 : List Cond := [Cond.instanceMethod yX8_hasIdOf, Cond.selects RX8 yX8_hasIdOf yX8_hasIdOf, Cond.code yX8_hasIdOf cX8_hasIdOf 3 (some .boolean), Cond.fieldLink RX8 59 "ProofServer$Bytes" "count" "I", Cond.fieldLink RX8 62 "ProofServer$Bytes" "row" "[B", Cond.methodLink RL 22 yX14_give, Cond.instanceMethod yX14_give, Cond.selects RX14 yX14_give yX14_give, Cond.code yX14_give cX14_give 3 (some .int), Cond.fieldLink RX14 202 "ProofServerModel" "broken" "Z", Cond.fieldLink RX14 211 "ProofServerModel" "outs" "I", Cond.methodLink RX14 270 yX14_byteComes, Cond.instanceMethod yX14_byteComes, Cond.selects RX14 yX14_byteComes yX14_byteComes, Cond.code yX14_byteComes cX14_byteComes 3 none, Cond.fieldLink RX14 231 "ProofServerModel" "mode" "I", Cond.fieldLink RX14 258 "ProofServerModel" "keptBytes" "I", Cond.fieldLink RX14 244 "ProofServerModel" "bodyFrom" "I", Cond.fieldLink RX14 228 "ProofServerModel" "headerBytes" "I", Cond.fieldLink RX14 264 "ProofServerModel" "messages" "I", Cond.methodLink RX14 261 yX14_headerByte, Cond.instanceMethod yX14_headerByte, Cond.selects RX14 yX14_headerByte yX14_headerByte, Cond.code yX14_headerByte cX14_headerByte 3 (some .boolean)]
def wsL_law_r45 : List Cond := [Cond.methodLink RX14 234 yJ4_setLength_d00df, Cond.instanceMethod yJ4_setLength_d00df, Cond.selects RJ4 yJ4_setLength_d00df yJ4_setLength_d00df, Cond.code yJ4_setLength_d00df cJ4_setLength_d00df 2 none, Cond.methodLink RJ4 333 yJ5_setLength_d00df, Cond.sameMethod "java/lang/AbstractStringBuilder" "java/lang/AbstractStringBuilder" "setLength" "(I)V", Cond.superclass RJ4 RJ5, Cond.instanceMethod yJ5_setLength_d00df, Cond.code yJ5_setLength_d00df cJ5_setLength_d00df 2 none, Cond.fieldLink RJ5 79 "java/lang/AbstractStringBuilder" "count" "I", Cond.fieldLink RJ5 73 "java/lang/AbstractStringBuilder" "maybeLatin1" "Z", Cond.methodLink RJ5 100 ⟨"java/lang/AbstractStringBuilder", "ensureCapacityInternal", "(I)V"⟩, Cond.sameMethod "java/lang/AbstractStringBuilder" "java/lang/AbstractStringBuilder" "ensureCapacityInternal" "(I)V", Cond.selects RJ4 ⟨"java/lang/AbstractStringBuilder", "ensureCapacityInternal", "(I)V"⟩ yJ5_ensureCapacityInternal_d00df, Cond.instanceMethod yJ5_ensureCapacityInternal_d00df, Cond.code yJ5_ensureCapacityInternal_d00df cJ5_ensureCapacityInternal_d00df 3 none, Cond.methodLink RJ5 104 ⟨"java/lang/AbstractStringBuilder", "newCapacity", "(I)I"⟩, Cond.sameMethod "java/lang/AbstractStringBuilder" "java/lang/AbstractStringBuilder" "newCapacity" "(I)I", Cond.selects RJ4 ⟨"java/lang/AbstractStringBuilder", "newCapacity", "(I)I"⟩ yJ5_newCapacity_0f7a4, Cond.instanceMethod yJ5_newCapacity_0f7a4, Cond.code yJ5_newCapacity_0f7a4 cJ5_newCapacity_0f7a4 6 (some .int), Cond.constant RJ5 39 (2147483647), Cond.methodLink RJ5 114 yJ8_newLength_cabcc, Cond.methodLink RJ5 108 yJ7_copyOf_9075b]
def wsL_law_r46 : List Cond := [Cond.methodLink RJ5 83 ⟨"java/lang/AbstractStringBuilder", "isLatin1", "()Z"⟩, Cond.sameMethod "java/lang/AbstractStringBuilder" "java/lang/AbstractStringBuilder" "isLatin1" "()Z", Cond.selects RJ4 ⟨"java/lang/AbstractStringBuilder", "isLatin1", "()Z"⟩ yJ5_isLatin1_aae02, Cond.instanceMethod yJ5_isLatin1_aae02, Cond.code yJ5_isLatin1_aae02 cJ5_isLatin1_aae02 1 (some .boolean), Cond.methodLink RJ5 133 yJ1_fillNull_b72d1, Cond.static yJ1_fillNull_b72d1, Cond.code yJ1_fillNull_b72d1 cJ1_fillNull_b72d1 3 none, Cond.methodLink RJ1 236 yJ7_fill_eb02e, Cond.static yJ7_fill_eb02e, Cond.code yJ7_fill_eb02e cJ7_fill_eb02e 5 none, Cond.methodLink RJ7 13 yJ7_rangeCheck_23922, Cond.static yJ7_rangeCheck_23922, Cond.code yJ7_rangeCheck_23922 cJ7_rangeCheck_23922 3 none, Cond.methodLink RJ5 137 yJ2_fillNull_b72d1, Cond.static yJ2_fillNull_b72d1, Cond.code yJ2_fillNull_b72d1 cJ2_fillNull_b72d1 3 none, Cond.methodLink RJ2 380 yJ7_fill_eb02e, Cond.methodLink RX14 237 yJ4_append_cf468, Cond.instanceMethod yJ4_append_cf468, Cond.selects RJ4 yJ4_append_cf468 yJ4_append_cf468, Cond.code yJ4_append_cf468 cJ4_append_cf468 2 (some (.object "java/lang/StringBuilder")), Cond.methodLink RJ4 50 yJ5_append_3fe6f, Cond.sameMethod "java/lang/AbstractStringBuilder" "java/lang/AbstractStringBuilder" "append" "(C)Ljava/lang/AbstractStringBuilder;"]
def wsL_law_r47 : List Cond := [Cond.instanceMethod yJ5_append_3fe6f, Cond.code yJ5_append_3fe6f cJ5_append_3fe6f 2 (some (.object "java/lang/AbstractStringBuilder")), Cond.methodLink RJ5 191 yJ1_canEncode_fc78d, Cond.static yJ1_canEncode_fc78d, Cond.code yJ1_canEncode_fc78d cJ1_canEncode_fc78d 1 (some .boolean), Cond.methodLink RJ5 195 ⟨"java/lang/AbstractStringBuilder", "inflate", "()V"⟩, Cond.sameMethod "java/lang/AbstractStringBuilder" "java/lang/AbstractStringBuilder" "inflate" "()V", Cond.selects RJ4 ⟨"java/lang/AbstractStringBuilder", "inflate", "()V"⟩ yJ5_inflate_da8c8, Cond.instanceMethod yJ5_inflate_da8c8, Cond.code yJ5_inflate_da8c8 cJ5_inflate_da8c8 2 none, Cond.methodLink RJ5 125 yJ1_inflate_0e8fd, Cond.static yJ1_inflate_0e8fd, Cond.code yJ1_inflate_0e8fd cJ1_inflate_0e8fd 5 none, Cond.methodLink RJ1 240 yJ2_inflate_0e8fd, Cond.static yJ2_inflate_0e8fd, Cond.code yJ2_inflate_0e8fd cJ2_inflate_0e8fd 6 none, Cond.methodLink RJ2 173 yJ2_checkBoundsOffCount_d044e, Cond.static yJ2_checkBoundsOffCount_d044e, Cond.code yJ2_checkBoundsOffCount_d044e cJ2_checkBoundsOffCount_d044e 3 none, Cond.methodLink RJ2 419 yJ0_checkBoundsOffCount_cabcc, Cond.static yJ0_checkBoundsOffCount_cabcc, Cond.code yJ0_checkBoundsOffCount_cabcc cJ0_checkBoundsOffCount_cabcc 3 (some .int), Cond.methodLink RJ0 1065 yJ3_checkFromIndexSize_8c36e, Cond.static yJ3_checkFromIndexSize_8c36e]
def wsL_law_r48 : List Cond := [Cond.code yJ3_checkFromIndexSize_8c36e cJ3_checkFromIndexSize_8c36e 4 (some .int), Cond.methodLink RJ2 111 yJ2_putChar_b72d1, Cond.static yJ2_putChar_b72d1, Cond.code yJ2_putChar_b72d1 cJ2_putChar_b72d1 3 none, Cond.methodLink RJ5 197 yJ2_putCharSB_b72d1, Cond.static yJ2_putCharSB_b72d1, Cond.code yJ2_putCharSB_b72d1 cJ2_putCharSB_b72d1 3 none, Cond.methodLink RX14 241 yX14_isLetter, Cond.static yX14_isLetter, Cond.code yX14_isLetter cX14_isLetter 1 (some .boolean), Cond.methodLink RX14 181 yX14_in, Cond.static yX14_in, Cond.code yX14_in cX14_in 3 (some .boolean), Cond.methodLink RX14 247 yX14_isContentLength, Cond.instanceMethod yX14_isContentLength, Cond.selects RX14 yX14_isContentLength yX14_isContentLength, Cond.code yX14_isContentLength cX14_isContentLength 4 (some .boolean), Cond.methodLink RX14 222 yJ4_length_8abf5, Cond.instanceMethod yJ4_length_8abf5, Cond.selects RJ4 yJ4_length_8abf5 yJ4_length_8abf5, Cond.code yJ4_length_8abf5 cJ4_length_8abf5 1 (some .int), Cond.methodLink RJ4 343 yJ5_length_8abf5, Cond.sameMethod "java/lang/AbstractStringBuilder" "java/lang/AbstractStringBuilder" "length" "()I", Cond.instanceMethod yJ5_length_8abf5]
def wsL_law_r49 : List Cond := [Cond.code yJ5_length_8abf5 cJ5_length_8abf5 1 (some .int), Cond.methodLink RX14 163 yJ0_length_8abf5, Cond.methodLink RX14 223 yJ4_charAt_5068e, Cond.instanceMethod yJ4_charAt_5068e, Cond.selects RJ4 yJ4_charAt_5068e yJ4_charAt_5068e, Cond.code yJ4_charAt_5068e cJ4_charAt_5068e 2 (some .char), Cond.methodLink RJ4 329 yJ5_charAt_5068e, Cond.sameMethod "java/lang/AbstractStringBuilder" "java/lang/AbstractStringBuilder" "charAt" "(I)C", Cond.instanceMethod yJ5_charAt_5068e, Cond.code yJ5_charAt_5068e cJ5_charAt_5068e 5 (some .char), Cond.methodLink RJ5 138 Lib.Math.min.name, Cond.methodLink RJ5 144 yJ0_checkIndex_df160, Cond.methodLink RJ5 148 yJ2_getChar_3b067, Cond.methodLink RX14 168 yJ0_charAt_5068e, Cond.methodLink RX14 251 yX14_isLengthSoFar, Cond.instanceMethod yX14_isLengthSoFar, Cond.selects RX14 yX14_isLengthSoFar yX14_isLengthSoFar, Cond.code yX14_isLengthSoFar cX14_isLengthSoFar 5 (some .boolean), Cond.methodLink RX14 224 yX14_isDigit, Cond.static yX14_isDigit, Cond.code yX14_isDigit cX14_isDigit 1 (some .boolean), Cond.methodLink RX14 255 yX14_lengthTold, Cond.instanceMethod yX14_lengthTold, Cond.selects RX14 yX14_lengthTold yX14_lengthTold]
def wsL_law_r50 : List Cond := [Cond.code yX14_lengthTold cX14_lengthTold 3 (some .int), Cond.methodLink RX14 267 yX14_message, Cond.instanceMethod yX14_message, Cond.selects RX14 yX14_message yX14_message, Cond.code yX14_message cX14_message 7 none, Cond.fieldLink RX14 273 "ProofServerModel" "at" "I", Cond.fieldLink RX14 276 "ProofServerModel" "end" "I", Cond.fieldLink RX14 282 "ProofServerModel" "nodes" "I", Cond.fieldLink RX14 304 "ProofServerModel" "pooled" "I", Cond.fieldLink RX14 288 "ProofServerModel" "bad" "Z", Cond.fieldLink RX14 374 "ProofServerModel" "idNull" "Z", Cond.methodLink RX14 361 yX14_readValue, Cond.instanceMethod yX14_readValue, Cond.selects RX14 yX14_readValue yX14_readValue, Cond.code yX14_readValue cX14_readValue 4 (some .int), Cond.fieldLink RX14 301 "ProofServerModel" "stringFrom" "I", Cond.methodLink RX14 285 yX14_blanks, Cond.instanceMethod yX14_blanks, Cond.selects RX14 yX14_blanks yX14_blanks, Cond.code yX14_blanks cX14_blanks 1 none, Cond.methodLink RX14 279 yX14_here, Cond.instanceMethod yX14_here, Cond.selects RX14 yX14_here yX14_here, Cond.code yX14_here cX14_here 1 (some .int)]
def wsL_law_r51 : List Cond := [Cond.methodLink RX14 291 yX14_readMany, Cond.instanceMethod yX14_readMany, Cond.selects RX14 yX14_readMany yX14_readMany, Cond.methodLink RX14 295 yX14_node, Cond.instanceMethod yX14_node, Cond.selects RX14 yX14_node yX14_node, Cond.code yX14_node cX14_node 2 (some .int), Cond.methodLink RX14 298 yX14_readString, Cond.instanceMethod yX14_readString, Cond.selects RX14 yX14_readString yX14_readString, Cond.code yX14_readString cX14_readString 4 none, Cond.fieldLink RX14 357 "ProofServerModel" "utfChar" "I", Cond.methodLink RX14 350 yX14_escape, Cond.instanceMethod yX14_escape, Cond.selects RX14 yX14_escape yX14_escape, Cond.code yX14_escape cX14_escape 6 none, Cond.constant RX14 185 (56320), Cond.constant RX14 186 (57343), Cond.constant RX14 179 (55296), Cond.constant RX14 180 (56319), Cond.methodLink RX14 339 yJ0_indexOf_0f7a4, Cond.methodLink RX14 342 yX14_unit, Cond.instanceMethod yX14_unit, Cond.selects RX14 yX14_unit yX14_unit]
def wsL_law_r52 : List Cond := [Cond.code yX14_unit cX14_unit 2 none, Cond.constant RX14 333 (65535), Cond.constant RX14 197 (65536), Cond.methodLink RX14 345 yX14_four, Cond.instanceMethod yX14_four, Cond.selects RX14 yX14_four yX14_four, Cond.code yX14_four cX14_four 4 (some .int), Cond.methodLink RX14 334 yX14_hexOf, Cond.static yX14_hexOf, Cond.code yX14_hexOf cX14_hexOf 1 (some .int), Cond.methodLink RX14 309 yX14_takes, Cond.instanceMethod yX14_takes, Cond.selects RX14 yX14_takes yX14_takes, Cond.code yX14_takes cX14_takes 3 (some .boolean), Cond.methodLink RX14 353 yX14_utfLength, Cond.instanceMethod yX14_utfLength, Cond.selects RX14 yX14_utfLength yX14_utfLength, Cond.code yX14_utfLength cX14_utfLength 8 (some .int), Cond.constant RX14 360 (1114111), Cond.methodLink RX14 317 yX14_readNumber, Cond.instanceMethod yX14_readNumber, Cond.selects RX14 yX14_readNumber yX14_readNumber, Cond.code yX14_readNumber cX14_readNumber 9 (some .int), Cond.constantLong RX14 320 (99999999999)]
def wsL_law_r53 : List Cond := [Cond.constantLong RX14 322 (10), Cond.constantLong RX14 324 (48), Cond.constantLong RX14 329 (-2147483648), Cond.constantLong RX14 331 (2147483647), Cond.methodLink RX14 326 yX14_digits, Cond.instanceMethod yX14_digits, Cond.selects RX14 yX14_digits yX14_digits, Cond.code yX14_digits cX14_digits 1 none, Cond.code yX14_readMany cX14_readMany 10 (some .int), Cond.methodLink RX14 425 yX14_error, Cond.instanceMethod yX14_error, Cond.selects RX14 yX14_error yX14_error, Cond.code yX14_error cX14_error 2 none, Cond.constant RX14 414 (-32800), Cond.methodLink RX14 392 yX14_beginAnswer, Cond.instanceMethod yX14_beginAnswer, Cond.selects RX14 yX14_beginAnswer yX14_beginAnswer, Cond.code yX14_beginAnswer cX14_beginAnswer 1 none, Cond.fieldLink RX14 160 "ProofServerModel" "framed" "I", Cond.fieldLink RX14 377 "ProofServerModel" "idString" "Z", Cond.fieldLink RX14 383 "ProofServerModel" "idLength" "I", Cond.fieldLink RX14 380 "ProofServerModel" "idInt" "I", Cond.methodLink RX14 189 yX14_word, Cond.instanceMethod yX14_word]
def wsL_law_r54 : List Cond := [Cond.selects RX14 yX14_word yX14_word, Cond.code yX14_word cX14_word 3 none, Cond.methodLink RX14 172 yX14_put, Cond.instanceMethod yX14_put, Cond.selects RX14 yX14_put yX14_put, Cond.code yX14_put cX14_put 2 none, Cond.methodLink RX14 388 yX14_string, Cond.instanceMethod yX14_string, Cond.selects RX14 yX14_string yX14_string, Cond.code yX14_string cX14_string 7 none, Cond.constant RX14 201 (65533), Cond.methodLink RX14 193 yX14_hex, Cond.static yX14_hex, Cond.code yX14_hex cX14_hex 1 (some .int), Cond.methodLink RX14 198 yX14_utf8, Cond.instanceMethod yX14_utf8, Cond.selects RX14 yX14_utf8 yX14_utf8, Cond.code yX14_utf8 cX14_utf8 2 none, Cond.methodLink RX14 208 yX14_number, Cond.instanceMethod yX14_number, Cond.selects RX14 yX14_number yX14_number, Cond.code yX14_number cX14_number 2 none, Cond.methodLink RX14 176 yX14_digitsOf, Cond.instanceMethod yX14_digitsOf]
def wsL_law_r55 : List Cond := [Cond.selects RX14 yX14_digitsOf yX14_digitsOf, Cond.code yX14_digitsOf cX14_digitsOf 2 none, Cond.methodLink RX14 419 yX14_text, Cond.instanceMethod yX14_text, Cond.selects RX14 yX14_text yX14_text, Cond.code yX14_text cX14_text 2 none, Cond.methodLink RX14 422 yX14_endAnswer, Cond.instanceMethod yX14_endAnswer, Cond.selects RX14 yX14_endAnswer yX14_endAnswer, Cond.code yX14_endAnswer cX14_endAnswer 1 none, Cond.methodLink RX14 397 yX14_send, Cond.instanceMethod yX14_send, Cond.selects RX14 yX14_send yX14_send, Cond.code yX14_send cX14_send 4 none, Cond.fieldLink RX14 214 "ProofServerModel" "lost" "I", Cond.methodLink RX14 430 yX14_member, Cond.instanceMethod yX14_member, Cond.selects RX14 yX14_member yX14_member, Cond.code yX14_member cX14_member 5 (some .int), Cond.methodLink RX14 364 yX14_isText, Cond.instanceMethod yX14_isText, Cond.selects RX14 yX14_isText yX14_isText, Cond.code yX14_isText cX14_isText 5 (some .boolean), Cond.methodLink RX14 442 yX14_isString_]
def wsL_law_r56 : List Cond := [Cond.instanceMethod yX14_isString_, Cond.selects RX14 yX14_isString_ yX14_isString_, Cond.code yX14_isString_ cX14_isString_ 3 (some .boolean), Cond.methodLink RX14 368 yX14_isString, Cond.instanceMethod yX14_isString, Cond.selects RX14 yX14_isString yX14_isString, Cond.code yX14_isString cX14_isString 2 (some .boolean), Cond.methodLink RX14 445 yX14_isId, Cond.instanceMethod yX14_isId, Cond.selects RX14 yX14_isId yX14_isId, Cond.code yX14_isId cX14_isId 2 (some .boolean), Cond.methodLink RX14 371 yX14_isWhole, Cond.instanceMethod yX14_isWhole, Cond.selects RX14 yX14_isWhole yX14_isWhole, Cond.code yX14_isWhole cX14_isWhole 2 (some .boolean), Cond.methodLink RX14 448 yX14_takeId, Cond.instanceMethod yX14_takeId, Cond.selects RX14 yX14_takeId yX14_takeId, Cond.code yX14_takeId cX14_takeId 3 none, Cond.methodLink RX14 451 yX14_notified, Cond.instanceMethod yX14_notified, Cond.selects RX14 yX14_notified yX14_notified, Cond.code yX14_notified cX14_notified 3 none, Cond.fieldLink RX14 460 "ProofServerModel" "initialized" "Z"]
def wsL_law_r57 : List Cond := [Cond.fieldLink RX14 463 "ProofServerModel" "shut" "Z", Cond.methodLink RX14 487 yX14_open, Cond.instanceMethod yX14_open, Cond.selects RX14 yX14_open yX14_open, Cond.code yX14_open cX14_open 9 none, Cond.fieldLink RX14 505 "ProofServerModel" "documentCount" "I", Cond.methodLink RX14 520 yX14_documentOf, Cond.instanceMethod yX14_documentOf, Cond.selects RX14 yX14_documentOf yX14_documentOf, Cond.code yX14_documentOf cX14_documentOf 6 (some (.object "ProofServerModel$Document")), Cond.methodLink RX14 534 yX14_part, Cond.static yX14_part, Cond.code yX14_part cX14_part 6 none, Cond.methodLink RX14 621 yX14_behindGaps, Cond.static yX14_behindGaps, Cond.code yX14_behindGaps cX14_behindGaps 4 (some .int), Cond.methodLink RX14 615 yX14_isBlank, Cond.static yX14_isBlank, Cond.code yX14_isBlank cX14_isBlank 1 (some .boolean), Cond.methodLink RX14 608 yX14_opens, Cond.static yX14_opens, Cond.code yX14_opens cX14_opens 3 (some .boolean), Cond.methodLink RX14 618 yX14_behindComment, Cond.static yX14_behindComment]
def wsL_law_r58 : List Cond := [Cond.code yX14_behindComment cX14_behindComment 5 (some .int), Cond.methodLink RX14 612 yX14_closes, Cond.static yX14_closes, Cond.code yX14_closes cX14_closes 3 (some .boolean), Cond.methodLink RX14 624 yX14_sentenceEnd, Cond.static yX14_sentenceEnd, Cond.code yX14_sentenceEnd cX14_sentenceEnd 4 (some .int), Cond.methodLink RX14 538 yX14_settled, Cond.instanceMethod yX14_settled, Cond.selects RX14 yX14_settled yX14_settled, Cond.code yX14_settled cX14_settled 5 none, Cond.fieldLink RX14 711 "ProofServerModel" "waits" "I", Cond.methodLink RX14 602 yX14_beginDiagnostics, Cond.instanceMethod yX14_beginDiagnostics, Cond.selects RX14 yX14_beginDiagnostics yX14_beginDiagnostics, Cond.code yX14_beginDiagnostics cX14_beginDiagnostics 2 none, Cond.methodLink RX14 756 yX14_position, Cond.instanceMethod yX14_position, Cond.selects RX14 yX14_position yX14_position, Cond.code yX14_position cX14_position 6 none, Cond.methodLink RX14 541 yX14_lineBegin, Cond.static yX14_lineBegin, Cond.code yX14_lineBegin cX14_lineBegin 5 (some .int), Cond.methodLink RX14 762 yX14_messageOf]
def wsL_law_r59 : List Cond := [Cond.static yX14_messageOf, Cond.code yX14_messageOf cX14_messageOf 1 (some (.object "java/lang/String")), Cond.methodLink RX14 605 yX14_endDiagnostics, Cond.instanceMethod yX14_endDiagnostics, Cond.selects RX14 yX14_endDiagnostics yX14_endDiagnostics, Cond.code yX14_endDiagnostics cX14_endDiagnostics 1 none, Cond.methodLink RX14 697 yX14_reach, Cond.instanceMethod yX14_reach, Cond.selects RX14 yX14_reach yX14_reach, Cond.code yX14_reach cX14_reach 4 none, Cond.methodLink RX14 627 yX13_begin, Cond.instanceMethod yX13_begin, Cond.selects RX13 yX13_begin yX13_begin, Cond.code yX13_begin cX13_begin 1 none, Cond.fieldLink RX13 99 "ProofServerModel$Kernel" "nodes" "I", Cond.fieldLink RX13 103 "ProofServerModel$Kernel" "nameCount" "I", Cond.fieldLink RX13 106 "ProofServerModel$Kernel" "signCount" "I", Cond.fieldLink RX13 109 "ProofServerModel$Kernel" "symbols" "I", Cond.fieldLink RX13 112 "ProofServerModel$Kernel" "facts" "I", Cond.fieldLink RX13 115 "ProofServerModel$Kernel" "proof" "Z", Cond.fieldLink RX13 119 "ProofServerModel$Kernel" "goals" "I", Cond.methodLink RX14 629 yX13_sentence, Cond.instanceMethod yX13_sentence, Cond.selects RX13 yX13_sentence yX13_sentence]
def wsL_law_r60 : List Cond := [Cond.code yX13_sentence cX13_sentence 6 (some .int), Cond.fieldLink RX13 143 "ProofServerModel$Kernel" "loose" "I", Cond.fieldLink RX13 181 "ProofServerModel$Kernel" "wrong" "Z", Cond.fieldLink RX13 221 "ProofServerModel$Kernel" "fault" "I", Cond.fieldLink RX13 242 "ProofServerModel$Kernel" "binders" "I", Cond.methodLink RX13 167 yX13_scan, Cond.instanceMethod yX13_scan, Cond.selects RX13 yX13_scan yX13_scan, Cond.code yX13_scan cX13_scan 7 none, Cond.fieldLink RX13 140 "ProofServerModel$Kernel" "tokens" "I", Cond.methodLink RX13 136 yX13_isLetter, Cond.static yX13_isLetter, Cond.code yX13_isLetter cX13_isLetter 1 (some .boolean), Cond.methodLink RX13 157 yX13_isNameSign, Cond.static yX13_isNameSign, Cond.code yX13_isNameSign cX13_isNameSign 1 (some .boolean), Cond.methodLink RX13 160 yX13_nameOf, Cond.instanceMethod yX13_nameOf, Cond.selects RX13 yX13_nameOf yX13_nameOf, Cond.code yX13_nameOf cX13_nameOf 7 (some .int), Cond.methodLink RX13 163 yX13_token, Cond.instanceMethod yX13_token, Cond.selects RX13 yX13_token yX13_token, Cond.code yX13_token cX13_token 3 none]
def wsL_law_r61 : List Cond := [Cond.methodLink RX13 309 yX13_command, Cond.instanceMethod yX13_command, Cond.selects RX13 yX13_command yX13_command, Cond.code yX13_command cX13_command 6 (some .int), Cond.methodLink RX13 122 yJ0_length_8abf5, Cond.methodLink RX13 288 yJ0_indexOf_7cf53, Cond.methodLink RX13 128 yJ0_charAt_5068e, Cond.methodLink RX13 312 yX13_read, Cond.instanceMethod yX13_read, Cond.selects RX13 yX13_read yX13_read, Cond.code yX13_read cX13_read 2 none, Cond.fieldLink RX13 171 "ProofServerModel$Kernel" "at" "I", Cond.fieldLink RX13 291 "ProofServerModel$Kernel" "name1" "I", Cond.fieldLink RX13 294 "ProofServerModel$Kernel" "raw" "I", Cond.fieldLink RX13 300 "ProofServerModel$Kernel" "digit" "I", Cond.fieldLink RX13 303 "ProofServerModel$Kernel" "name2" "I", Cond.fieldLink RX13 306 "ProofServerModel$Kernel" "name3" "I", Cond.methodLink RX13 201 yX13_readTerm, Cond.instanceMethod yX13_readTerm, Cond.selects RX13 yX13_readTerm yX13_readTerm, Cond.code yX13_readTerm cX13_readTerm 7 (some .int), Cond.methodLink RX13 194 yX13_readName, Cond.instanceMethod yX13_readName, Cond.selects RX13 yX13_readName yX13_readName]
def wsL_law_r62 : List Cond := [Cond.code yX13_readName cX13_readName 1 (some .int), Cond.methodLink RX13 186 yX13_isWord, Cond.instanceMethod yX13_isWord, Cond.selects RX13 yX13_isWord yX13_isWord, Cond.code yX13_isWord cX13_isWord 2 (some .boolean), Cond.methodLink RX13 174 yX13_isNamed, Cond.instanceMethod yX13_isNamed, Cond.selects RX13 yX13_isNamed yX13_isNamed, Cond.code yX13_isNamed cX13_isNamed 5 (some .boolean), Cond.methodLink RX13 197 yX13_node, Cond.instanceMethod yX13_node, Cond.selects RX13 yX13_node yX13_node, Cond.code yX13_node cX13_node 6 (some .int), Cond.methodLink RX13 178 yX13_is, Cond.instanceMethod yX13_is, Cond.selects RX13 yX13_is yX13_is, Cond.code yX13_is cX13_is 2 (some .boolean), Cond.methodLink RX13 205 yX13_expect, Cond.instanceMethod yX13_expect, Cond.selects RX13 yX13_expect yX13_expect, Cond.code yX13_expect cX13_expect 2 none, Cond.methodLink RX13 297 yX13_readNumber, Cond.instanceMethod yX13_readNumber, Cond.selects RX13 yX13_readNumber yX13_readNumber]
def wsL_law_r63 : List Cond := [Cond.code yX13_readNumber cX13_readNumber 1 (some .int), Cond.methodLink RX13 212 yX13_readImp, Cond.instanceMethod yX13_readImp, Cond.selects RX13 yX13_readImp yX13_readImp, Cond.code yX13_readImp cX13_readImp 3 (some .int), Cond.methodLink RX13 209 yX13_readOr, Cond.instanceMethod yX13_readOr, Cond.selects RX13 yX13_readOr yX13_readOr, Cond.code yX13_readAnd cX13_readAnd 3 (some .int), Cond.methodLink RX13 218 yX13_readOne, Cond.instanceMethod yX13_readOne, Cond.selects RX13 yX13_readOne yX13_readOne, Cond.methodLink RX13 215 yX13_readAnd, Cond.instanceMethod yX13_readAnd, Cond.selects RX13 yX13_readAnd yX13_readAnd, Cond.code yX13_readOne cX13_readOne 5 (some .int), Cond.code yX13_readOr cX13_readOr 3 (some .int), Cond.methodLink RX13 315 yX13_declare, Cond.instanceMethod yX13_declare, Cond.selects RX13 yX13_declare yX13_declare, Cond.code yX13_declare cX13_declare 3 none, Cond.fieldLink RX13 330 "ProofServerModel$Kernel" "lemmaName" "I", Cond.fieldLink RX13 333 "ProofServerModel$Kernel" "lemma" "I", Cond.methodLink RX13 324 yX13_checkNew]
def wsL_law_r64 : List Cond := [Cond.instanceMethod yX13_checkNew, Cond.selects RX13 yX13_checkNew yX13_checkNew, Cond.code yX13_checkNew cX13_checkNew 2 none, Cond.methodLink RX13 224 yX13_symbolOf, Cond.instanceMethod yX13_symbolOf, Cond.selects RX13 yX13_symbolOf yX13_symbolOf, Cond.code yX13_symbolOf cX13_symbolOf 3 (some .int), Cond.methodLink RX13 227 yX13_factOf, Cond.instanceMethod yX13_factOf, Cond.selects RX13 yX13_factOf yX13_factOf, Cond.code yX13_factOf cX13_factOf 3 (some .int), Cond.methodLink RX13 230 yX13_isVariable, Cond.instanceMethod yX13_isVariable, Cond.selects RX13 yX13_isVariable yX13_isVariable, Cond.code yX13_isVariable cX13_isVariable 3 (some .boolean), Cond.methodLink RX13 233 yX13_hypOf, Cond.instanceMethod yX13_hypOf, Cond.selects RX13 yX13_hypOf yX13_hypOf, Cond.code yX13_hypOf cX13_hypOf 3 (some .int), Cond.methodLink RX13 236 yX13_fails, Cond.instanceMethod yX13_fails, Cond.selects RX13 yX13_fails yX13_fails, Cond.code yX13_fails cX13_fails 2 none, Cond.methodLink RX13 249 yX13_meant]
def wsL_law_r65 : List Cond := [Cond.instanceMethod yX13_meant, Cond.selects RX13 yX13_meant yX13_meant, Cond.code yX13_meant cX13_meant 4 (some .int), Cond.methodLink RX13 245 yX13_withParts, Cond.instanceMethod yX13_withParts, Cond.selects RX13 yX13_withParts yX13_withParts, Cond.code yX13_withParts cX13_withParts 8 (some .int), Cond.methodLink RX13 239 yX13_meantTerm, Cond.instanceMethod yX13_meantTerm, Cond.selects RX13 yX13_meantTerm yX13_meantTerm, Cond.code yX13_meantTerm cX13_meantTerm 4 (some .int), Cond.methodLink RX13 259 yX13_size, Cond.instanceMethod yX13_size, Cond.selects RX13 yX13_size yX13_size, Cond.code yX13_size cX13_size 4 (some .int), Cond.methodLink RX13 252 yX13_parts, Cond.instanceMethod yX13_parts, Cond.selects RX13 yX13_parts yX13_parts, Cond.code yX13_parts cX13_parts 3 (some .int), Cond.methodLink RX13 255 yX13_part, Cond.instanceMethod yX13_part, Cond.selects RX13 yX13_part yX13_part, Cond.code yX13_part cX13_part 3 (some .int), Cond.methodLink RX13 327 yX13_addFact]
def wsL_law_r66 : List Cond := [Cond.instanceMethod yX13_addFact, Cond.selects RX13 yX13_addFact yX13_addFact, Cond.code yX13_addFact cX13_addFact 3 none, Cond.methodLink RX13 318 yX13_close, Cond.instanceMethod yX13_close, Cond.selects RX13 yX13_close yX13_close, Cond.code yX13_close cX13_close 2 none, Cond.methodLink RX13 321 yX13_tactic, Cond.instanceMethod yX13_tactic, Cond.selects RX13 yX13_tactic yX13_tactic, Cond.code yX13_tactic cX13_tactic 7 none, Cond.methodLink RX13 339 yX13_formulaOf, Cond.instanceMethod yX13_formulaOf, Cond.selects RX13 yX13_formulaOf yX13_formulaOf, Cond.code yX13_formulaOf cX13_formulaOf 4 (some .int), Cond.methodLink RX13 342 yX13_intro, Cond.instanceMethod yX13_intro, Cond.selects RX13 yX13_intro yX13_intro, Cond.code yX13_intro cX13_intro 4 none, Cond.methodLink RX13 365 yX13_addHyp, Cond.instanceMethod yX13_addHyp, Cond.selects RX13 yX13_addHyp yX13_addHyp, Cond.code yX13_addHyp cX13_addHyp 4 none, Cond.methodLink RX13 369 yX13_opened]
def wsL_law_r67 : List Cond := [Cond.instanceMethod yX13_opened, Cond.selects RX13 yX13_opened yX13_opened, Cond.code yX13_opened cX13_opened 3 (some .int), Cond.methodLink RX13 266 yX13_sizeWith, Cond.instanceMethod yX13_sizeWith, Cond.selects RX13 yX13_sizeWith yX13_sizeWith, Cond.code yX13_sizeWith cX13_sizeWith 8 (some .int), Cond.methodLink RX13 270 yX13_with, Cond.instanceMethod yX13_with, Cond.selects RX13 yX13_with yX13_with, Cond.code yX13_with cX13_with 9 (some .int), Cond.methodLink RX13 262 yX13_isSame, Cond.instanceMethod yX13_isSame, Cond.selects RX13 yX13_isSame yX13_isSame, Cond.code yX13_isSame cX13_isSame 5 (some .boolean), Cond.methodLink RX13 345 yX13_done, Cond.instanceMethod yX13_done, Cond.selects RX13 yX13_done yX13_done, Cond.code yX13_done cX13_done 2 none, Cond.methodLink RX13 352 yX13_times, Cond.instanceMethod yX13_times, Cond.selects RX13 yX13_times yX13_times, Cond.code yX13_times cX13_times 3 none, Cond.methodLink RX13 336 yX13_copyGoal]
def wsL_law_r68 : List Cond := [Cond.instanceMethod yX13_copyGoal, Cond.selects RX13 yX13_copyGoal yX13_copyGoal, Cond.code yX13_copyGoal cX13_copyGoal 4 none, Cond.methodLink RX13 349 yX13_apply, Cond.instanceMethod yX13_apply, Cond.selects RX13 yX13_apply yX13_apply, Cond.code yX13_apply cX13_apply 10 none, Cond.methodLink RX13 276 yX13_matches, Cond.instanceMethod yX13_matches, Cond.selects RX13 yX13_matches yX13_matches, Cond.code yX13_matches cX13_matches 9 (some .boolean), Cond.methodLink RX13 273 yX13_hasBound, Cond.instanceMethod yX13_hasBound, Cond.selects RX13 yX13_hasBound yX13_hasBound, Cond.code yX13_hasBound cX13_hasBound 3 (some .boolean), Cond.methodLink RX13 355 yX13_cases, Cond.instanceMethod yX13_cases, Cond.selects RX13 yX13_cases yX13_cases, Cond.code yX13_cases cX13_cases 5 none, Cond.methodLink RX13 372 yX13_dropHyp, Cond.instanceMethod yX13_dropHyp, Cond.selects RX13 yX13_dropHyp yX13_dropHyp, Cond.code yX13_dropHyp cX13_dropHyp 4 none, Cond.methodLink RX13 358 yX13_rewrite]
def wsL_law_r69 : List Cond := [Cond.instanceMethod yX13_rewrite, Cond.selects RX13 yX13_rewrite yX13_rewrite, Cond.code yX13_rewrite cX13_rewrite 4 none, Cond.methodLink RX13 280 yX13_countOf, Cond.instanceMethod yX13_countOf, Cond.selects RX13 yX13_countOf yX13_countOf, Cond.code yX13_countOf cX13_countOf 5 (some .int), Cond.methodLink RX13 283 yX13_replaced, Cond.instanceMethod yX13_replaced, Cond.selects RX13 yX13_replaced yX13_replaced, Cond.code yX13_replaced cX13_replaced 7 (some .int), Cond.methodLink RX13 361 yX13_others, Cond.instanceMethod yX13_others, Cond.selects RX13 yX13_others yX13_others, Cond.code yX13_others cX13_others 7 none, Cond.methodLink RX14 718 yX14_release, Cond.instanceMethod yX14_release, Cond.selects RX14 yX14_release yX14_release, Cond.code yX14_release cX14_release 4 none, Cond.methodLink RX14 466 yX14_beginResult, Cond.instanceMethod yX14_beginResult, Cond.selects RX14 yX14_beginResult yX14_beginResult, Cond.code yX14_beginResult cX14_beginResult 1 none, Cond.methodLink RX14 700 yX14_goalsOf]
def wsL_law_r70 : List Cond := [Cond.instanceMethod yX14_goalsOf, Cond.selects RX14 yX14_goalsOf yX14_goalsOf, Cond.code yX14_goalsOf cX14_goalsOf 2 none, Cond.instanceMethod yX13_putName, Cond.selects RX13 yX13_putName yX13_putName, Cond.code yX13_putName cX13_putName 3 none, Cond.methodLink RX13 378 yX13_put, Cond.instanceMethod yX13_put, Cond.selects RX13 yX13_put yX13_put, Cond.code yX13_put cX13_put 2 none, Cond.fieldLink RX13 375 "ProofServerModel$Kernel" "lines" "I", Cond.methodLink RX14 648 yX14_putLine, Cond.instanceMethod yX14_putLine, Cond.selects RX14 yX14_putLine yX14_putLine, Cond.code yX14_putLine cX14_putLine 2 none, Cond.methodLink RX14 656 yX13_printGoal, Cond.instanceMethod yX13_printGoal, Cond.selects RX13 yX13_printGoal yX13_printGoal, Cond.code yX13_printGoal cX13_printGoal 3 none, Cond.methodLink RX13 381 yX13_putName, Cond.methodLink RX13 400 yX13_words, Cond.instanceMethod yX13_words, Cond.selects RX13 yX13_words yX13_words, Cond.code yX13_words cX13_words 3 none]
def wsL_law_r71 : List Cond := [Cond.methodLink RX13 431 yX13_printFormula, Cond.instanceMethod yX13_printFormula, Cond.selects RX13 yX13_printFormula yX13_printFormula, Cond.code yX13_printFormula cX13_printFormula 2 none, Cond.fieldLink RX13 388 "ProofServerModel$Kernel" "written" "I", Cond.methodLink RX13 408 yX13_print, Cond.instanceMethod yX13_print, Cond.selects RX13 yX13_print yX13_print, Cond.code yX13_print cX13_print 4 none, Cond.methodLink RX13 394 yX13_side, Cond.instanceMethod yX13_side, Cond.selects RX13 yX13_side yX13_side, Cond.methodLink RX13 414 yX13_putBound, Cond.instanceMethod yX13_putBound, Cond.selects RX13 yX13_putBound yX13_putBound, Cond.code yX13_putBound cX13_putBound 3 none, Cond.methodLink RX13 417 yX13_quantified, Cond.instanceMethod yX13_quantified, Cond.selects RX13 yX13_quantified yX13_quantified, Cond.methodLink RX13 420 yX13_applied, Cond.instanceMethod yX13_applied, Cond.selects RX13 yX13_applied yX13_applied, Cond.code yX13_applied cX13_applied 4 none, Cond.code yX13_quantified cX13_quantified 4 none]
def wsL_law_r72 : List Cond := [Cond.methodLink RX13 391 yX13_stands, Cond.instanceMethod yX13_stands, Cond.selects RX13 yX13_stands yX13_stands, Cond.code yX13_stands cX13_stands 8 (some .boolean), Cond.methodLink RX13 384 yX13_areAlike, Cond.instanceMethod yX13_areAlike, Cond.selects RX13 yX13_areAlike yX13_areAlike, Cond.code yX13_areAlike cX13_areAlike 9 (some .boolean), Cond.code yX13_side cX13_side 5 none, Cond.methodLink RX14 708 yX14_statementOf, Cond.instanceMethod yX14_statementOf, Cond.selects RX14 yX14_statementOf yX14_statementOf, Cond.code yX14_statementOf cX14_statementOf 7 none, Cond.methodLink RX14 667 yX14_isNamed, Cond.instanceMethod yX14_isNamed, Cond.selects RX14 yX14_isNamed yX14_isNamed, Cond.code yX14_isNamed cX14_isNamed 7 (some .boolean), Cond.methodLink RX14 680 yX13_printFormula, Cond.methodLink RX14 492 yX14_change, Cond.instanceMethod yX14_change, Cond.selects RX14 yX14_change yX14_change, Cond.code yX14_change cX14_change 10 none, Cond.fieldLink RX14 550 "ProofServerModel" "changedUnits" "I", Cond.methodLink RX14 571 yX14_isChange]
def wsL_law_r73 : List Cond := [Cond.instanceMethod yX14_isChange, Cond.selects RX14 yX14_isChange yX14_isChange, Cond.code yX14_isChange cX14_isChange 3 (some .boolean), Cond.methodLink RX14 566 yX14_isPosition, Cond.instanceMethod yX14_isPosition, Cond.selects RX14 yX14_isPosition yX14_isPosition, Cond.code yX14_isPosition cX14_isPosition 4 (some .boolean), Cond.methodLink RX14 574 yX14_make, Cond.instanceMethod yX14_make, Cond.selects RX14 yX14_make yX14_make, Cond.code yX14_make cX14_make 10 (some .boolean), Cond.methodLink RX14 556 yX14_lineOf, Cond.instanceMethod yX14_lineOf, Cond.selects RX14 yX14_lineOf yX14_lineOf, Cond.code yX14_lineOf cX14_lineOf 2 (some .int), Cond.methodLink RX14 559 yX14_characterOf, Cond.instanceMethod yX14_characterOf, Cond.selects RX14 yX14_characterOf yX14_characterOf, Cond.code yX14_characterOf cX14_characterOf 2 (some .int), Cond.methodLink RX14 562 yX14_placeOf, Cond.static yX14_placeOf, Cond.code yX14_placeOf cX14_placeOf 6 (some .int), Cond.methodLink RX14 577 yX14_modified, Cond.instanceMethod yX14_modified]
def wsL_law_r74 : List Cond := [Cond.selects RX14 yX14_modified yX14_modified, Cond.code yX14_modified cX14_modified 3 none, Cond.constant RX14 721 (-32801), Cond.methodLink RX14 579 yX14_same, Cond.instanceMethod yX14_same, Cond.selects RX14 yX14_same yX14_same, Cond.code yX14_same cX14_same 3 (some .int), Cond.methodLink RX14 590 yX14_isSame, Cond.static yX14_isSame, Cond.code yX14_isSame cX14_isSame 6 (some .boolean), Cond.methodLink RX14 583 yX14_settleChecks, Cond.instanceMethod yX14_settleChecks, Cond.selects RX14 yX14_settleChecks yX14_settleChecks, Cond.code yX14_settleChecks cX14_settleChecks 4 none, Cond.methodLink RX14 497 yX14_close, Cond.instanceMethod yX14_close, Cond.selects RX14 yX14_close yX14_close, Cond.code yX14_close cX14_close 5 none, Cond.methodLink RX14 502 yX14_cancel, Cond.instanceMethod yX14_cancel, Cond.selects RX14 yX14_cancel yX14_cancel, Cond.code yX14_cancel cX14_cancel 4 none, Cond.methodLink RX14 714 yX14_isIdOf, Cond.instanceMethod yX14_isIdOf]
def wsL_law_r75 : List Cond := [Cond.selects RX14 yX14_isIdOf yX14_isIdOf, Cond.code yX14_isIdOf cX14_isIdOf 5 (some .boolean), Cond.methodLink RX14 455 yX14_requested, Cond.instanceMethod yX14_requested, Cond.selects RX14 yX14_requested yX14_requested, Cond.code yX14_requested cX14_requested 4 none, Cond.methodLink RX14 475 yX14_askGoals, Cond.instanceMethod yX14_askGoals, Cond.selects RX14 yX14_askGoals yX14_askGoals, Cond.code yX14_askGoals cX14_askGoals 6 none, Cond.methodLink RX14 703 yX14_waitFor, Cond.instanceMethod yX14_waitFor, Cond.selects RX14 yX14_waitFor yX14_waitFor, Cond.code yX14_waitFor cX14_waitFor 5 (some .boolean), Cond.methodLink RX14 480 yX14_askStatement, Cond.instanceMethod yX14_askStatement, Cond.selects RX14 yX14_askStatement yX14_askStatement, Cond.code yX14_askStatement cX14_askStatement 6 none, Cond.methodLink RL 23 yX11_out, Cond.instanceMethod yX11_out, Cond.selects RX11 yX11_out yX11_out, Cond.code yX11_out cX11_out 2 (some .int), Cond.methodLink RL 26 yX14_out, Cond.instanceMethod yX14_out]
def wsL_law_r76 : List Cond := [Cond.selects RX14 yX14_out yX14_out, Cond.code yX14_out cX14_out 2 (some .int), Cond.methodLink RL 27 yX11_take, Cond.instanceMethod yX11_take, Cond.selects RX11 yX11_take yX11_take, Cond.code yX11_take cX11_take 2 (some .int), Cond.methodLink RL 31 yX14_take, Cond.instanceMethod yX14_take, Cond.selects RX14 yX14_take yX14_take, Cond.code yX14_take cX14_take 2 (some .int), Cond.methodLink RL 32 yX11_work, Cond.instanceMethod yX11_work, Cond.selects RX11 yX11_work yX11_work, Cond.code yX11_work cX11_work 4 (some .int), Cond.fieldLink RX11 133 "ProofServer" "steps" "I", Cond.methodLink RX11 126 yX11_hasWork, Cond.instanceMethod yX11_hasWork, Cond.selects RX11 yX11_hasWork yX11_hasWork, Cond.code yX11_hasWork cX11_hasWork 2 (some .boolean), Cond.methodLink RX11 564 yX11_nextToCheck, Cond.instanceMethod yX11_nextToCheck, Cond.selects RX11 yX11_nextToCheck yX11_nextToCheck, Cond.code yX11_nextToCheck cX11_nextToCheck 4 (some (.object "ProofServer$Document")), Cond.methodLink RX11 570 yX11_isAskedAbout]
def wsL_law_r77 : List Cond := [Cond.instanceMethod yX11_isAskedAbout, Cond.selects RX11 yX11_isAskedAbout yX11_isAskedAbout, Cond.code yX11_isAskedAbout cX11_isAskedAbout 3 (some .boolean), Cond.methodLink RX11 130 yX11_advance, Cond.instanceMethod yX11_advance, Cond.selects RX11 yX11_advance yX11_advance, Cond.code yX11_advance cX11_advance 4 none, Cond.fieldLink RX11 148 "ProofServer" "reused" "I", Cond.methodLink RX11 574 yX11_begin, Cond.instanceMethod yX11_begin, Cond.selects RX11 yX11_begin yX11_begin, Cond.code yX11_begin cX11_begin 6 none, Cond.classLink RX11 189 "ProofServer$State", Cond.fieldLink RX11 596 "ProofServer$State" "units" "[I", Cond.fieldLink RX11 602 "ProofServer$State" "ahead" "LProofServer$State;", Cond.fieldLink RX11 174 "ProofServer$Document" "text" "[I", Cond.fieldLink RX11 193 "ProofServer$Document" "costs" "[I", Cond.methodLink RX11 599 yX1_isSentence, Cond.methodLink RX11 605 yX9_isSameRow, Cond.static yX9_isSameRow, Cond.code yX9_isSameRow cX9_isSameRow 6 (some .boolean), Cond.methodLink RX11 211 yJ7_copyOfRange_feecc, Cond.static yJ7_copyOfRange_feecc, Cond.code yJ7_copyOfRange_feecc cJ7_copyOfRange_feecc 3 (some (.array .int))]
def wsL_law_r78 : List Cond := [Cond.methodLink RJ7 316 ⟨"[I", "clone", "()Ljava/lang/Object;"⟩, Cond.sameMethod "[I" "java/lang/Object" "clone" "()Ljava/lang/Object;", Cond.selects "[I" ⟨"[I", "clone", "()Ljava/lang/Object;"⟩ ⟨"java/lang/Object", "clone", "()Ljava/lang/Object;"⟩, Cond.classLink RJ7 317 "[I", Cond.methodLink RJ7 351 yJ7_copyOfRangeInt_feecc, Cond.static yJ7_copyOfRangeInt_feecc, Cond.code yJ7_copyOfRangeInt_feecc cJ7_copyOfRangeInt_feecc 5 (some (.array .int)), Cond.methodLink RJ7 343 yJ7_checkLength_df160, Cond.static yJ7_checkLength_df160, Cond.code yJ7_checkLength_df160 cJ7_checkLength_df160 2 none, Cond.methodLink RX11 583 yX1_earlyFault, Cond.instanceMethod yX1_earlyFault, Cond.selects RX1 yX1_earlyFault yX1_earlyFault, Cond.code yX1_earlyFault cX1_earlyFault 1 (some .int), Cond.methodLink RX11 228 yX5_check, Cond.instanceMethod yX5_check, Cond.selects RX5 yX5_check yX5_check, Cond.code yX5_check cX5_check 8 (some (.object "ProofServer$State")), Cond.fieldLink RX5 62 "ProofServer$State" "fault" "I", Cond.fieldLink RX5 74 "ProofServer$Syntax" "word" "I", Cond.fieldLink RX5 77 "ProofServer$State" "lemma" "I", Cond.methodLink RX5 59 yX9_init_, Cond.instanceMethod yX9_init_, Cond.code yX9_init_ cX9_init_ 3 none]
def wsL_law_r79 : List Cond := [Cond.methodLink RX5 66 yX10_scan, Cond.methodLink RX5 70 yX10_isSentence, Cond.instanceMethod yX10_isSentence, Cond.selects RX10 yX10_isSentence yX10_isSentence, Cond.code yX10_isSentence cX10_isSentence 2 (some .boolean), Cond.fieldLink RX10 83 "ProofServer$Syntax" "at" "I", Cond.fieldLink RX10 86 "ProofServer$Syntax" "toldCount" "I", Cond.fieldLink RX10 89 "ProofServer$Syntax" "nodeCount" "I", Cond.fieldLink RX10 92 "ProofServer$Syntax" "terms" "I", Cond.fieldLink RX10 95 "ProofServer$Syntax" "word" "I", Cond.methodLink RX10 98 yX10_isName, Cond.instanceMethod yX10_isName, Cond.selects RX10 yX10_isName yX10_isName, Cond.code yX10_isName cX10_isName 2 (some .boolean), Cond.methodLink RX10 119 yX10_peekName, Cond.instanceMethod yX10_peekName, Cond.selects RX10 yX10_peekName yX10_peekName, Cond.code yX10_peekName cX10_peekName 1 (some .int), Cond.methodLink RX10 115 yX10_peek, Cond.instanceMethod yX10_peek, Cond.selects RX10 yX10_peek yX10_peek, Cond.code yX10_peek cX10_peek 1 (some .int), Cond.methodLink RX10 102 yX10_isArity, Cond.instanceMethod yX10_isArity]
def wsL_law_r80 : List Cond := [Cond.selects RX10 yX10_isArity yX10_isArity, Cond.code yX10_isArity cX10_isArity 1 (some .boolean), Cond.methodLink RX10 105 yX10_isSign, Cond.instanceMethod yX10_isSign, Cond.selects RX10 yX10_isSign yX10_isSign, Cond.code yX10_isSign cX10_isSign 3 (some .boolean), Cond.methodLink RX10 108 yX10_isChain, Cond.instanceMethod yX10_isChain, Cond.selects RX10 yX10_isChain yX10_isChain, Cond.code yX10_isChain cX10_isChain 6 (some .boolean), Cond.fieldLink RX10 122 "ProofServer$Syntax" "CHAIN_SIGNS" "[I", Cond.fieldLink RX10 128 "ProofServer$Syntax" "CHAIN_NODES" "[I", Cond.methodLink RX10 125 yX10_isOne, Cond.instanceMethod yX10_isOne, Cond.selects RX10 yX10_isOne yX10_isOne, Cond.methodLink RX10 131 yX10_insertNode, Cond.instanceMethod yX10_insertNode, Cond.selects RX10 yX10_insertNode yX10_insertNode, Cond.code yX10_insertNode cX10_insertNode 4 (some .boolean), Cond.code yX10_isOne cX10_isOne 6 (some .boolean), Cond.methodLink RX10 134 yX10_addNode, Cond.instanceMethod yX10_addNode, Cond.selects RX10 yX10_addNode yX10_addNode, Cond.code yX10_addNode cX10_addNode 2 (some .boolean)]
def wsL_law_r81 : List Cond := [Cond.methodLink RX10 112 yX10_isTerm, Cond.instanceMethod yX10_isTerm, Cond.selects RX10 yX10_isTerm yX10_isTerm, Cond.code yX10_isTerm cX10_isTerm 6 (some .boolean), Cond.methodLink RX5 80 yX5_declare, Cond.instanceMethod yX5_declare, Cond.selects RX5 yX5_declare yX5_declare, Cond.code yX5_declare cX5_declare 4 (some .int), Cond.fieldLink RX5 93 "ProofServer$Syntax" "told" "[I", Cond.fieldLink RX5 100 "ProofServer$State" "symbols" "[I", Cond.fieldLink RX5 103 "ProofServer$Syntax" "terms" "I", Cond.methodLink RX5 96 yX5_isTaken, Cond.static yX5_isTaken, Cond.code yX5_isTaken cX5_isTaken 3 (some .boolean), Cond.fieldLink RX5 174 "ProofServer$State" "factNames" "[I", Cond.fieldLink RX5 177 "ProofServer$Goal" "variables" "[I", Cond.fieldLink RX5 164 "ProofServer$Goal" "names" "[I", Cond.methodLink RX5 170 yX9_symbolOf, Cond.methodLink RX5 166 yX9_find, Cond.methodLink RX5 106 yX9_longer, Cond.static yX9_longer, Cond.code yX9_longer cX9_longer 3 (some (.array .int)), Cond.methodLink RX9 43 yJ7_copyOf_59c91, Cond.static yJ7_copyOf_59c91]
def wsL_law_r82 : List Cond := [Cond.code yJ7_copyOf_59c91 cJ7_copyOf_59c91 3 (some (.array .int)), Cond.methodLink RX5 84 yX5_propose, Cond.instanceMethod yX5_propose, Cond.selects RX5 yX5_propose yX5_propose, Cond.code yX5_propose cX5_propose 5 (some .int), Cond.fieldLink RX5 114 "ProofServer$Syntax" "nodeCount" "I", Cond.fieldLink RX5 117 "ProofServer$State" "facts" "[[I", Cond.fieldLink RX5 121 "ProofServer$Syntax" "nodes" "[I", Cond.fieldLink RX5 133 "ProofServer$State" "statement" "[I", Cond.instantiable RX3 4, Cond.initialized RX3, Cond.classLink RX5 136 "[I", Cond.fieldLink RX5 140 "ProofServer$State" "goals" "[LProofServer$Goal;", Cond.methodLink RX5 110 yX5_isResolved, Cond.instanceMethod yX5_isResolved, Cond.selects RX5 yX5_isResolved yX5_isResolved, Cond.code yX5_isResolved cX5_isResolved 7 (some .boolean), Cond.methodLink RX5 186 yX5_resolved, Cond.instanceMethod yX5_resolved, Cond.selects RX5 yX5_resolved yX5_resolved, Cond.code yX5_resolved cX5_resolved 8 (some .int), Cond.methodLink RX5 124 yJ7_copyOf_59c91, Cond.methodLink RX5 129 yX9_addFact, Cond.instanceMethod yX9_addFact]
def wsL_law_r83 : List Cond := [Cond.selects RX9 yX9_addFact yX9_addFact, Cond.code yX9_addFact cX9_addFact 3 none, Cond.methodLink RX9 49 yX9_longer, Cond.methodLink RX9 52 yX9_longer_, Cond.static yX9_longer_, Cond.code yX9_longer_ cX9_longer_ 4 (some (.array (.array .int))), Cond.methodLink RX5 137 yX3_init, Cond.instanceMethod yX3_init, Cond.code yX3_init cX3_init 5 none, Cond.methodLink RX3 3 objectInit, Cond.fieldLink RX3 9 "ProofServer$Goal" "variables" "[I", Cond.fieldLink RX3 15 "ProofServer$Goal" "names" "[I", Cond.fieldLink RX3 18 "ProofServer$Goal" "hypotheses" "[[I", Cond.fieldLink RX3 22 "ProofServer$Goal" "formula" "[I", Cond.methodLink RX5 87 yX5_leaveProof, Cond.instanceMethod yX5_leaveProof, Cond.selects RX5 yX5_leaveProof yX5_leaveProof, Cond.code yX5_leaveProof cX5_leaveProof 2 (some .int), Cond.methodLink RX5 143 yX9_endProof, Cond.instanceMethod yX9_endProof, Cond.selects RX9 yX9_endProof yX9_endProof, Cond.code yX9_endProof cX9_endProof 1 none, Cond.methodLink RX5 90 yX5_tactic, Cond.instanceMethod yX5_tactic]
def wsL_law_r84 : List Cond := [Cond.selects RX5 yX5_tactic yX5_tactic, Cond.code yX5_tactic cX5_tactic 4 (some .int), Cond.fieldLink RX5 150 "ProofServer$Kernel" "freshCount" "I", Cond.methodLink RX5 146 yX5_nameFault, Cond.instanceMethod yX5_nameFault, Cond.selects RX5 yX5_nameFault yX5_nameFault, Cond.code yX5_nameFault cX5_nameFault 6 (some .int), Cond.methodLink RX5 153 yX5_named, Cond.static yX5_named, Cond.code yX5_named cX5_named 5 (some (.array .int)), Cond.fieldLink RX5 180 "ProofServer$Goal" "hypotheses" "[[I", Cond.methodLink RX5 157 yX5_act, Cond.instanceMethod yX5_act, Cond.selects RX5 yX5_act yX5_act, Cond.code yX5_act cX5_act 9 (some .int), Cond.fieldLink RX5 190 "ProofServer$Goal" "formula" "[I", Cond.methodLink RX5 193 yX5_intro, Cond.instanceMethod yX5_intro, Cond.selects RX5 yX5_intro yX5_intro, Cond.code yX5_intro cX5_intro 6 (some .int), Cond.methodLink RX5 241 yX5_part, Cond.static yX5_part, Cond.code yX5_part cX5_part 3 (some (.array .int)), Cond.methodLink RX5 288 yJ7_copyOfRange_feecc]
def wsL_law_r85 : List Cond := [Cond.methodLink RX5 245 yX3_withHypothesis, Cond.instanceMethod yX3_withHypothesis, Cond.selects RX3 yX3_withHypothesis yX3_withHypothesis, Cond.code yX3_withHypothesis cX3_withHypothesis 4 (some (.object "ProofServer$Goal")), Cond.classLink RX3 10 RX3, Cond.methodLink RX3 28 yX9_longer, Cond.methodLink RX3 34 yX9_longer_, Cond.methodLink RX3 25 yX3_init, Cond.methodLink RX5 225 yX5_add, Cond.instanceMethod yX5_add, Cond.selects RX5 yX5_add yX5_add, Cond.code yX5_add cX5_add 2 (some .int), Cond.methodLink RX5 249 yX5_variable, Cond.instanceMethod yX5_variable, Cond.selects RX5 yX5_variable yX5_variable, Cond.code yX5_variable cX5_variable 2 (some (.array .int)), Cond.methodLink RX5 217 yX5_opened, Cond.instanceMethod yX5_opened, Cond.selects RX5 yX5_opened yX5_opened, Cond.code yX5_opened cX5_opened 4 (some (.array .int)), Cond.methodLink RX5 303 Lib.Math.min.name, Cond.methodLink RX5 265 yX5_instance, Cond.instanceMethod yX5_instance, Cond.selects RX5 yX5_instance yX5_instance]
def wsL_law_r86 : List Cond := [Cond.code yX5_instance cX5_instance 10 (some (.array .int)), Cond.methodLink RX5 279 arraycopyName, Cond.methodLink RX5 253 yX3_withVariable, Cond.instanceMethod yX3_withVariable, Cond.selects RX3 yX3_withVariable yX3_withVariable, Cond.code yX3_withVariable cX3_withVariable 3 (some (.object "ProofServer$Goal")), Cond.methodLink RX5 197 yX5_areSame, Cond.static yX5_areSame, Cond.code yX5_areSame cX5_areSame 3 (some .boolean), Cond.methodLink RX5 291 yX5_areAlike, Cond.static yX5_areAlike, Cond.code yX5_areAlike cX5_areAlike 3 (some .boolean), Cond.methodLink RX5 201 yX5_premisesFor, Cond.instanceMethod yX5_premisesFor, Cond.selects RX5 yX5_premisesFor yX5_premisesFor, Cond.code yX5_premisesFor cX5_premisesFor 6 (some .int), Cond.methodLink RX5 257 yX5_leadingBound, Cond.static yX5_leadingBound, Cond.code yX5_leadingBound cX5_leadingBound 2 (some .int), Cond.methodLink RX5 261 yX5_matches, Cond.instanceMethod yX5_matches, Cond.selects RX5 yX5_matches yX5_matches, Cond.code yX5_matches cX5_matches 10 (some .boolean), Cond.methodLink RX5 295 yJ7_fill_53178]
def wsL_law_r87 : List Cond := [Cond.static yJ7_fill_53178, Cond.code yJ7_fill_53178 cJ7_fill_53178 4 none, Cond.methodLink RX5 299 yX5_tells, Cond.instanceMethod yX5_tells, Cond.selects RX5 yX5_tells yX5_tells, Cond.code yX5_tells cX5_tells 7 (some .boolean), Cond.methodLink RX5 205 yX5_addPremises, Cond.instanceMethod yX5_addPremises, Cond.selects RX5 yX5_addPremises yX5_addPremises, Cond.code yX5_addPremises cX5_addPremises 8 (some .int), Cond.methodLink RX5 221 yX3_withFormula, Cond.instanceMethod yX3_withFormula, Cond.selects RX3 yX3_withFormula yX3_withFormula, Cond.code yX3_withFormula cX3_withFormula 2 (some (.object "ProofServer$Goal")), Cond.methodLink RX5 209 yX5_addSide, Cond.instanceMethod yX5_addSide, Cond.selects RX5 yX5_addSide yX5_addSide, Cond.code yX5_addSide cX5_addSide 5 (some .int), Cond.methodLink RX5 213 yX5_cases, Cond.instanceMethod yX5_cases, Cond.selects RX5 yX5_cases yX5_cases, Cond.code yX5_cases cX5_cases 11 (some .int), Cond.methodLink RX5 269 yX3_without, Cond.instanceMethod yX3_without]
def wsL_law_r88 : List Cond := [Cond.selects RX3 yX3_without yX3_without, Cond.code yX3_without cX3_without 7 (some (.object "ProofServer$Goal")), Cond.methodLink RX3 37 Lib.Math.max.name, Cond.classLink RX3 43 "[I", Cond.methodLink RX5 228 yX5_use, Cond.instanceMethod yX5_use, Cond.selects RX5 yX5_use yX5_use, Cond.code yX5_use cX5_use 3 (some .int), Cond.methodLink RX5 231 yX5_standsAt, Cond.static yX5_standsAt, Cond.code yX5_standsAt cX5_standsAt 6 (some .boolean), Cond.methodLink RX5 235 yX5_rewrite, Cond.instanceMethod yX5_rewrite, Cond.selects RX5 yX5_rewrite yX5_rewrite, Cond.code yX5_rewrite cX5_rewrite 12 (some .int), Cond.methodLink RX5 273 Lib.Math.max.name, Cond.methodLink RX5 238 yX5_have, Cond.instanceMethod yX5_have, Cond.selects RX5 yX5_have yX5_have, Cond.code yX5_have cX5_have 3 (some .int), Cond.methodLink RX5 161 yX5_putFresh, Cond.instanceMethod yX5_putFresh, Cond.selects RX5 yX5_putFresh yX5_putFresh, Cond.code yX5_putFresh cX5_putFresh 5 (some .int)]
def wsL_law_r89 : List Cond := [Cond.methodLink RX5 285 yX3_fits, Cond.instanceMethod yX3_fits, Cond.selects RX3 yX3_fits yX3_fits, Cond.code yX3_fits cX3_fits 2 (some .boolean), Cond.methodLink RX11 586 yX1_addChecked, Cond.instanceMethod yX1_addChecked, Cond.selects RX1 yX1_addChecked yX1_addChecked, Cond.code yX1_addChecked cX1_addChecked 2 none, Cond.methodLink RX11 590 yX11_remember, Cond.instanceMethod yX11_remember, Cond.selects RX11 yX11_remember yX11_remember, Cond.code yX11_remember cX11_remember 3 none, Cond.methodLink RX11 593 yX11_answerReady, Cond.instanceMethod yX11_answerReady, Cond.selects RX11 yX11_answerReady yX11_answerReady, Cond.code yX11_answerReady cX11_answerReady 3 none, Cond.methodLink RL 35 yX14_work, Cond.instanceMethod yX14_work, Cond.selects RX14 yX14_work yX14_work, Cond.code yX14_work cX14_work 3 (some .int), Cond.methodLink RX14 782 yX14_nextDocument, Cond.instanceMethod yX14_nextDocument, Cond.selects RX14 yX14_nextDocument yX14_nextDocument, Cond.code yX14_nextDocument cX14_nextDocument 4 (some (.object "ProofServerModel$Document"))]
def wsL_law_r90 : List Cond := [Cond.methodLink RX14 775 yX14_isWaitedFor, Cond.instanceMethod yX14_isWaitedFor, Cond.selects RX14 yX14_isWaitedFor yX14_isWaitedFor, Cond.code yX14_isWaitedFor cX14_isWaitedFor 3 (some .boolean), Cond.methodLink RX14 808 yX14_step, Cond.instanceMethod yX14_step, Cond.selects RX14 yX14_step yX14_step, Cond.code yX14_step cX14_step 2 none, Cond.fieldLink RX14 799 "ProofServerModel" "steps" "I", Cond.methodLink RX14 802 yX14_takeCheck, Cond.instanceMethod yX14_takeCheck, Cond.selects RX14 yX14_takeCheck yX14_takeCheck, Cond.code yX14_takeCheck cX14_takeCheck 4 none, Cond.methodLink RX14 786 yX14_takeRow, Cond.instanceMethod yX14_takeRow, Cond.selects RX14 yX14_takeRow yX14_takeRow, Cond.code yX14_takeRow cX14_takeRow 5 none, Cond.fieldLink RX14 766 "ProofServerModel" "rowLength" "I", Cond.methodLink RX14 772 yX14_inCache, Cond.instanceMethod yX14_inCache, Cond.selects RX14 yX14_inCache yX14_inCache, Cond.code yX14_inCache cX14_inCache 4 (some .int), Cond.fieldLink RX14 769 "ProofServerModel" "cached" "I", Cond.methodLink RX14 789 yX14_costOf]
def wsL_law_r91 : List Cond := [Cond.instanceMethod yX14_costOf, Cond.selects RX14 yX14_costOf yX14_costOf, Cond.code yX14_costOf cX14_costOf 3 (some .int), Cond.methodLink RX14 779 yX13_cost, Cond.instanceMethod yX13_cost, Cond.selects RX13 yX13_cost yX13_cost, Cond.code yX13_cost cX13_cost 7 (some .int), Cond.methodLink RX14 805 yX14_finish, Cond.instanceMethod yX14_finish, Cond.selects RX14 yX14_finish yX14_finish, Cond.code yX14_finish cX14_finish 4 none, Cond.fieldLink RX14 796 "ProofServerModel" "cachedChecks" "I", Cond.methodLink RX14 793 yX14_keepRow, Cond.instanceMethod yX14_keepRow, Cond.selects RX14 yX14_keepRow yX14_keepRow, Cond.code yX14_keepRow cX14_keepRow 4 none, Cond.methodLink RL 36 yX11_state, Cond.instanceMethod yX11_state, Cond.selects RX11 yX11_state yX11_state, Cond.code yX11_state cX11_state 2 (some .int), Cond.fieldLink RX11 136 "ProofServer$Frames" "kept" "I", Cond.fieldLink RX11 139 "ProofServer$Frames" "messages" "I", Cond.methodLink RL 39 yX14_state, Cond.instanceMethod yX14_state]
def wsL_law_r92 : List Cond := [Cond.selects RX14 yX14_state yX14_state, Cond.code yX14_state cX14_state 2 (some .int), Cond.methodLink RX14 811 yX14_numberOf, Cond.instanceMethod yX14_numberOf, Cond.selects RX14 yX14_numberOf yX14_numberOf, Cond.code yX14_numberOf cX14_numberOf 3 (some .int), Cond.methodLink RL 40 yX11_document, Cond.instanceMethod yX11_document, Cond.selects RX11 yX11_document yX11_document, Cond.code yX11_document cX11_document 4 (some .int), Cond.methodLink RX11 158 yX11_openAt, Cond.instanceMethod yX11_openAt, Cond.selects RX11 yX11_openAt yX11_openAt, Cond.code yX11_openAt cX11_openAt 2 (some (.object "ProofServer$Document")), Cond.methodLink RL 44 yX14_document, Cond.instanceMethod yX14_document, Cond.selects RX14 yX14_document yX14_document, Cond.code yX14_document cX14_document 4 (some .int), Cond.methodLink RL 45 yX11_unit, Cond.instanceMethod yX11_unit, Cond.selects RX11 yX11_unit yX11_unit, Cond.code yX11_unit cX11_unit 4 (some .int), Cond.methodLink RL 48 yX14_unit_, Cond.instanceMethod yX14_unit_]
def wsL_law_r93 : List Cond := [Cond.selects RX14 yX14_unit_ yX14_unit_, Cond.code yX14_unit_ cX14_unit_ 3 (some .int), Cond.methodLink RL 49 yX11_sentence, Cond.instanceMethod yX11_sentence, Cond.selects RX11 yX11_sentence yX11_sentence, Cond.code yX11_sentence cX11_sentence 6 (some .int), Cond.methodLink RL 53 yX14_sentence, Cond.instanceMethod yX14_sentence, Cond.selects RX14 yX14_sentence yX14_sentence, Cond.code yX14_sentence cX14_sentence 5 (some .int), Cond.methodLink RL 54 yX11_batch, Cond.instanceMethod yX11_batch, Cond.selects RX11 yX11_batch yX11_batch, Cond.code yX11_batch cX11_batch 5 (some .int), Cond.fieldLink RX11 200 "ProofServer" "latest" "LProofServer$Document;", Cond.fieldLink RX11 225 "ProofServer$Document" "early" "[I", Cond.methodLink RX11 196 yX1_decode, Cond.instanceMethod yX1_decode, Cond.selects RX1 yX1_decode yX1_decode, Cond.code yX1_decode cX1_decode 7 (some .boolean), Cond.constant RX1 65 (65536), Cond.constant RX1 66 (55296), Cond.constant RX1 67 (56320), Cond.constant RX1 68 (65533)]
def wsL_law_r94 : List Cond := [Cond.methodLink RX1 56 yX0_decoded, Cond.methodLink RX1 62 yX0_decodedSize, Cond.methodLink RL 57 yX14_batch, Cond.instanceMethod yX14_batch, Cond.selects RX14 yX14_batch yX14_batch, Cond.code yX14_batch cX14_batch 6 (some .int), Cond.methodLink RL 58 yX11_verdict, Cond.instanceMethod yX11_verdict, Cond.selects RX11 yX11_verdict yX11_verdict, Cond.code yX11_verdict cX11_verdict 4 (some .int), Cond.fieldLink RX11 232 "ProofServer$State" "lemma" "I", Cond.fieldLink RX11 235 "ProofServer$State" "goals" "[LProofServer$Goal;", Cond.fieldLink RX11 239 "ProofServer$State" "factNames" "[I", Cond.methodLink RL 61 yX14_verdict, Cond.instanceMethod yX14_verdict, Cond.selects RX14 yX14_verdict yX14_verdict, Cond.code yX14_verdict cX14_verdict 3 (some .int), Cond.methodLink RL 62 yX11_goals, Cond.instanceMethod yX11_goals, Cond.selects RX11 yX11_goals yX11_goals, Cond.code yX11_goals cX11_goals 3 (some .int), Cond.methodLink RL 65 yX14_goals, Cond.instanceMethod yX14_goals, Cond.selects RX14 yX14_goals yX14_goals]
def wsL_law_r95 : List Cond := [Cond.code yX14_goals cX14_goals 3 (some .int)]
def jTl95 : List Cond := wsL_law_r95
def jTl94 : List Cond := wsL_law_r94 ++ jTl95
def jTl93 : List Cond := wsL_law_r93 ++ jTl94
def jTl92 : List Cond := wsL_law_r92 ++ jTl93
def jTl91 : List Cond := wsL_law_r91 ++ jTl92
def jTl90 : List Cond := wsL_law_r90 ++ jTl91
def jTl89 : List Cond := wsL_law_r89 ++ jTl90
def jTl88 : List Cond := wsL_law_r88 ++ jTl89
def jTl87 : List Cond := wsL_law_r87 ++ jTl88
def jTl86 : List Cond := wsL_law_r86 ++ jTl87
def jTl85 : List Cond := wsL_law_r85 ++ jTl86
def jTl84 : List Cond := wsL_law_r84 ++ jTl85
def jTl83 : List Cond := wsL_law_r83 ++ jTl84
def jTl82 : List Cond := wsL_law_r82 ++ jTl83
def jTl81 : List Cond := wsL_law_r81 ++ jTl82
def jTl80 : List Cond := wsL_law_r80 ++ jTl81
def jTl79 : List Cond := wsL_law_r79 ++ jTl80
def jTl78 : List Cond := wsL_law_r78 ++ jTl79
def jTl77 : List Cond := wsL_law_r77 ++ jTl78
def jTl76 : List Cond := wsL_law_r76 ++ jTl77
def jTl75 : List Cond := wsL_law_r75 ++ jTl76
def jTl74 : List Cond := wsL_law_r74 ++ jTl75
def jTl73 : List Cond := wsL_law_r73 ++ jTl74
def jTl72 : List Cond := wsL_law_r72 ++ jTl73
def jTl71 : List Cond := wsL_law_r71 ++ jTl72
def jTl70 : List Cond := wsL_law_r70 ++ jTl71
def jTl69 : List Cond := wsL_law_r69 ++ jTl70
def jTl68 : List Cond := wsL_law_r68 ++ jTl69
def jTl67 : List Cond := wsL_law_r67 ++ jTl68
def jTl66 : List Cond := wsL_law_r66 ++ jTl67
def jTl65 : List Cond := wsL_law_r65 ++ jTl66
def jTl64 : List Cond := wsL_law_r64 ++ jTl65
def jTl63 : List Cond := wsL_law_r63 ++ jTl64
def jTl62 : List Cond := wsL_law_r62 ++ jTl63
def jTl61 : List Cond := wsL_law_r61 ++ jTl62
def jTl60 : List Cond := wsL_law_r60 ++ jTl61
def jTl59 : List Cond := wsL_law_r59 ++ jTl60
def jTl58 : List Cond := wsL_law_r58 ++ jTl59
def jTl57 : List Cond := wsL_law_r57 ++ jTl58
def jTl56 : List Cond := wsL_law_r56 ++ jTl57
def jTl55 : List Cond := wsL_law_r55 ++ jTl56
def jTl54 : List Cond := wsL_law_r54 ++ jTl55
def jTl53 : List Cond := wsL_law_r53 ++ jTl54
def jTl52 : List Cond := wsL_law_r52 ++ jTl53
def jTl51 : List Cond := wsL_law_r51 ++ jTl52
def jTl50 : List Cond := wsL_law_r50 ++ jTl51
def jTl49 : List Cond := wsL_law_r49 ++ jTl50
def jTl48 : List Cond := wsL_law_r48 ++ jTl49
def jTl47 : List Cond := wsL_law_r47 ++ jTl48
def jTl46 : List Cond := wsL_law_r46 ++ jTl47
def jTl45 : List Cond := wsL_law_r45 ++ jTl46
def jTl44 : List Cond := wsL_law_r44 ++ jTl45
def jTl43 : List Cond := wsL_law_r43 ++ jTl44
def jTl42 : List Cond := wsL_law_r42 ++ jTl43
def jTl41 : List Cond := wsL_law_r41 ++ jTl42
def jTl40 : List Cond := wsL_law_r40 ++ jTl41
def jTl39 : List Cond := wsL_law_r39 ++ jTl40
def jTl38 : List Cond := wsL_law_r38 ++ jTl39
def jTl37 : List Cond := wsL_law_r37 ++ jTl38
def jTl36 : List Cond := wsL_law_r36 ++ jTl37
def jTl35 : List Cond := wsL_law_r35 ++ jTl36
def jTl34 : List Cond := wsL_law_r34 ++ jTl35
def jTl33 : List Cond := wsL_law_r33 ++ jTl34
def jTl32 : List Cond := wsL_law_r32 ++ jTl33
def jTl31 : List Cond := wsL_law_r31 ++ jTl32
def jTl30 : List Cond := wsL_law_r30 ++ jTl31
def jTl29 : List Cond := wsL_law_r29 ++ jTl30
def jTl28 : List Cond := wsL_law_r28 ++ jTl29
def jTl27 : List Cond := wsL_law_r27 ++ jTl28
def jTl26 : List Cond := wsL_law_r26 ++ jTl27
def jTl25 : List Cond := wsL_law_r25 ++ jTl26
def jTl24 : List Cond := wsL_law_r24 ++ jTl25
def jTl23 : List Cond := wsL_law_r23 ++ jTl24
def jTl22 : List Cond := wsL_law_r22 ++ jTl23
def jTl21 : List Cond := wsL_law_r21 ++ jTl22
def jTl20 : List Cond := wsL_law_r20 ++ jTl21
def jTl19 : List Cond := wsL_law_r19 ++ jTl20
def jTl18 : List Cond := wsL_law_r18 ++ jTl19
def jTl17 : List Cond := wsL_law_r17 ++ jTl18
def jTl16 : List Cond := wsL_law_r16 ++ jTl17
def jTl15 : List Cond := wsL_law_r15 ++ jTl16
def jTl14 : List Cond := wsL_law_r14 ++ jTl15
def jTl13 : List Cond := wsL_law_r13 ++ jTl14
def jTl12 : List Cond := wsL_law_r12 ++ jTl13
def jTl11 : List Cond := wsL_law_r11 ++ jTl12
def jTl10 : List Cond := wsL_law_r10 ++ jTl11
def jTl9 : List Cond := wsL_law_r9 ++ jTl10
def jTl8 : List Cond := wsL_law_r8 ++ jTl9
def jTl7 : List Cond := wsL_law_r7 ++ jTl8
def jTl6 : List Cond := wsL_law_r6 ++ jTl7
def jTl5 : List Cond := wsL_law_r5 ++ jTl6
def jTl4 : List Cond := wsL_law_r4 ++ jTl5
def jTl3 : List Cond := wsL_law_r3 ++ jTl4
def jTl2 : List Cond := wsL_law_r2 ++ jTl3
def jTl1 : List Cond := wsL_law_r1 ++ jTl2
def jWl : List Cond := jTl1 ++ wsX110 ++ wsX140 ++ wsX00 ++ wsX20 ++ wsX40 ++ wsX50 ++ wsX70 ++ wsJx4a65c0 ++ wsX10 ++ wsX60 ++ wsX100 ++ wsX90 ++ wsJ40 ++ wsX120 ++ wsX130 ++ wsX80 ++ wsX30 ++ ([] : List Cond)
abbrev jw (y : MethodName) (c : ByteArray) (n : Nat) (r : Option FieldType) : List Cond := .code y c n r :: jWl
theorem jT1 : ∀ w ∈ jTl1, w ∈ jWl := fun w h => (List.mem_append_left _ (List.mem_append_left _ (List.mem_append_left _ (List.mem_append_left _ (List.mem_append_left _ (List.mem_append_left _ (List.mem_append_left _ (List.mem_append_left _ (List.mem_append_left _ (List.mem_append_left _ (List.mem_append_left _ (List.mem_append_left _ (List.mem_append_left _ (List.mem_append_left _ (List.mem_append_left _ (List.mem_append_left _ (List.mem_append_left _ (List.mem_append_left _ h))))))))))))))))))
theorem jT2 : ∀ w ∈ jTl2, w ∈ jWl := fun w h => jT1 w (List.mem_append_right _ h)
theorem jT3 : ∀ w ∈ jTl3, w ∈ jWl := fun w h => jT2 w (List.mem_append_right _ h)
theorem jT4 : ∀ w ∈ jTl4, w ∈ jWl := fun w h => jT3 w (List.mem_append_right _ h)
theorem jT5 : ∀ w ∈ jTl5, w ∈ jWl := fun w h => jT4 w (List.mem_append_right _ h)
theorem jT6 : ∀ w ∈ jTl6, w ∈ jWl := fun w h => jT5 w (List.mem_append_right _ h)
theorem jT7 : ∀ w ∈ jTl7, w ∈ jWl := fun w h => jT6 w (List.mem_append_right _ h)
theorem jT8 : ∀ w ∈ jTl8, w ∈ jWl := fun w h => jT7 w (List.mem_append_right _ h)
theorem jT9 : ∀ w ∈ jTl9, w ∈ jWl := fun w h => jT8 w (List.mem_append_right _ h)
theorem jT10 : ∀ w ∈ jTl10, w ∈ jWl := fun w h => jT9 w (List.mem_append_right _ h)
theorem jT11 : ∀ w ∈ jTl11, w ∈ jWl := fun w h => jT10 w (List.mem_append_right _ h)
theorem jT12 : ∀ w ∈ jTl12, w ∈ jWl := fun w h => jT11 w (List.mem_append_right _ h)
theorem jT13 : ∀ w ∈ jTl13, w ∈ jWl := fun w h => jT12 w (List.mem_append_right _ h)
theorem jT14 : ∀ w ∈ jTl14, w ∈ jWl := fun w h => jT13 w (List.mem_append_right _ h)
theorem jT15 : ∀ w ∈ jTl15, w ∈ jWl := fun w h => jT14 w (List.mem_append_right _ h)
theorem jT16 : ∀ w ∈ jTl16, w ∈ jWl := fun w h => jT15 w (List.mem_append_right _ h)
theorem jT17 : ∀ w ∈ jTl17, w ∈ jWl := fun w h => jT16 w (List.mem_append_right _ h)
theorem jT18 : ∀ w ∈ jTl18, w ∈ jWl := fun w h => jT17 w (List.mem_append_right _ h)
theorem jT19 : ∀ w ∈ jTl19, w ∈ jWl := fun w h => jT18 w (List.mem_append_right _ h)
theorem jT20 : ∀ w ∈ jTl20, w ∈ jWl := fun w h => jT19 w (List.mem_append_right _ h)
theorem jT21 : ∀ w ∈ jTl21, w ∈ jWl := fun w h => jT20 w (List.mem_append_right _ h)
theorem jT22 : ∀ w ∈ jTl22, w ∈ jWl := fun w h => jT21 w (List.mem_append_right _ h)
theorem jT23 : ∀ w ∈ jTl23, w ∈ jWl := fun w h => jT22 w (List.mem_append_right _ h)
theorem jT24 : ∀ w ∈ jTl24, w ∈ jWl := fun w h => jT23 w (List.mem_append_right _ h)
theorem jT25 : ∀ w ∈ jTl25, w ∈ jWl := fun w h => jT24 w (List.mem_append_right _ h)
theorem jT26 : ∀ w ∈ jTl26, w ∈ jWl := fun w h => jT25 w (List.mem_append_right _ h)
theorem jT27 : ∀ w ∈ jTl27, w ∈ jWl := fun w h => jT26 w (List.mem_append_right _ h)
theorem jT28 : ∀ w ∈ jTl28, w ∈ jWl := fun w h => jT27 w (List.mem_append_right _ h)
theorem jT29 : ∀ w ∈ jTl29, w ∈ jWl := fun w h => jT28 w (List.mem_append_right _ h)
theorem jT30 : ∀ w ∈ jTl30, w ∈ jWl := fun w h => jT29 w (List.mem_append_right _ h)
theorem jT31 : ∀ w ∈ jTl31, w ∈ jWl := fun w h => jT30 w (List.mem_append_right _ h)
theorem jT32 : ∀ w ∈ jTl32, w ∈ jWl := fun w h => jT31 w (List.mem_append_right _ h)
theorem jT33 : ∀ w ∈ jTl33, w ∈ jWl := fun w h => jT32 w (List.mem_append_right _ h)
theorem jT34 : ∀ w ∈ jTl34, w ∈ jWl := fun w h => jT33 w (List.mem_append_right _ h)
theorem jT35 : ∀ w ∈ jTl35, w ∈ jWl := fun w h => jT34 w (List.mem_append_right _ h)
theorem jT36 : ∀ w ∈ jTl36, w ∈ jWl := fun w h => jT35 w (List.mem_append_right _ h)
theorem jT37 : ∀ w ∈ jTl37, w ∈ jWl := fun w h => jT36 w (List.mem_append_right _ h)
theorem jT38 : ∀ w ∈ jTl38, w ∈ jWl := fun w h => jT37 w (List.mem_append_right _ h)
theorem jT39 : ∀ w ∈ jTl39, w ∈ jWl := fun w h => jT38 w (List.mem_append_right _ h)
theorem jT40 : ∀ w ∈ jTl40, w ∈ jWl := fun w h => jT39 w (List.mem_append_right _ h)
theorem jT41 : ∀ w ∈ jTl41, w ∈ jWl := fun w h => jT40 w (List.mem_append_right _ h)
theorem jT42 : ∀ w ∈ jTl42, w ∈ jWl := fun w h => jT41 w (List.mem_append_right _ h)
theorem jT43 : ∀ w ∈ jTl43, w ∈ jWl := fun w h => jT42 w (List.mem_append_right _ h)
theorem jT44 : ∀ w ∈ jTl44, w ∈ jWl := fun w h => jT43 w (List.mem_append_right _ h)
theorem jT45 : ∀ w ∈ jTl45, w ∈ jWl := fun w h => jT44 w (List.mem_append_right _ h)
theorem jT46 : ∀ w ∈ jTl46, w ∈ jWl := fun w h => jT45 w (List.mem_append_right _ h)
theorem jT47 : ∀ w ∈ jTl47, w ∈ jWl := fun w h => jT46 w (List.mem_append_right _ h)
theorem jT48 : ∀ w ∈ jTl48, w ∈ jWl := fun w h => jT47 w (List.mem_append_right _ h)
theorem jT49 : ∀ w ∈ jTl49, w ∈ jWl := fun w h => jT48 w (List.mem_append_right _ h)
theorem jT50 : ∀ w ∈ jTl50, w ∈ jWl := fun w h => jT49 w (List.mem_append_right _ h)
theorem jT51 : ∀ w ∈ jTl51, w ∈ jWl := fun w h => jT50 w (List.mem_append_right _ h)
theorem jT52 : ∀ w ∈ jTl52, w ∈ jWl := fun w h => jT51 w (List.mem_append_right _ h)
theorem jT53 : ∀ w ∈ jTl53, w ∈ jWl := fun w h => jT52 w (List.mem_append_right _ h)
theorem jT54 : ∀ w ∈ jTl54, w ∈ jWl := fun w h => jT53 w (List.mem_append_right _ h)
theorem jT55 : ∀ w ∈ jTl55, w ∈ jWl := fun w h => jT54 w (List.mem_append_right _ h)
theorem jT56 : ∀ w ∈ jTl56, w ∈ jWl := fun w h => jT55 w (List.mem_append_right _ h)
theorem jT57 : ∀ w ∈ jTl57, w ∈ jWl := fun w h => jT56 w (List.mem_append_right _ h)
theorem jT58 : ∀ w ∈ jTl58, w ∈ jWl := fun w h => jT57 w (List.mem_append_right _ h)
theorem jT59 : ∀ w ∈ jTl59, w ∈ jWl := fun w h => jT58 w (List.mem_append_right _ h)
theorem jT60 : ∀ w ∈ jTl60, w ∈ jWl := fun w h => jT59 w (List.mem_append_right _ h)
theorem jT61 : ∀ w ∈ jTl61, w ∈ jWl := fun w h => jT60 w (List.mem_append_right _ h)
theorem jT62 : ∀ w ∈ jTl62, w ∈ jWl := fun w h => jT61 w (List.mem_append_right _ h)
theorem jT63 : ∀ w ∈ jTl63, w ∈ jWl := fun w h => jT62 w (List.mem_append_right _ h)
theorem jT64 : ∀ w ∈ jTl64, w ∈ jWl := fun w h => jT63 w (List.mem_append_right _ h)
theorem jT65 : ∀ w ∈ jTl65, w ∈ jWl := fun w h => jT64 w (List.mem_append_right _ h)
theorem jT66 : ∀ w ∈ jTl66, w ∈ jWl := fun w h => jT65 w (List.mem_append_right _ h)
theorem jT67 : ∀ w ∈ jTl67, w ∈ jWl := fun w h => jT66 w (List.mem_append_right _ h)
theorem jT68 : ∀ w ∈ jTl68, w ∈ jWl := fun w h => jT67 w (List.mem_append_right _ h)
theorem jWr_12 : ∀ w ∈ wsL_law_r12, w ∈ jWl := fun w h => jT12 w (List.mem_append_left _ h)
theorem jWr_14 : ∀ w ∈ wsL_law_r14, w ∈ jWl := fun w h => jT14 w (List.mem_append_left _ h)
theorem jWr_65 : ∀ w ∈ wsL_law_r65, w ∈ jWl := fun w h => jT65 w (List.mem_append_left _ h)
theorem jWr_67 : ∀ w ∈ wsL_law_r67, w ∈ jWl := fun w h => jT67 w (List.mem_append_left _ h)
theorem jWr_68 : ∀ w ∈ wsL_law_r68, w ∈ jWl := fun w h => jT68 w (List.mem_append_left _ h)
theorem jWc_wsX130 : ∀ w ∈ wsX130, w ∈ jWl := fun w h => (List.mem_append_left _ (List.mem_append_left _ (List.mem_append_left _ (List.mem_append_right _ h))))
theorem jWg_1 : wsL_law_r1.all goodWord = true := by decide +kernel
theorem jWg_2 : wsL_law_r2.all goodWord = true := by decide +kernel
theorem jWg_3 : wsL_law_r3.all goodWord = true := by decide +kernel
theorem jWg_4 : wsL_law_r4.all goodWord = true := by decide +kernel
theorem jWg_5 : wsL_law_r5.all goodWord = true := by decide +kernel
theorem jWg_6 : wsL_law_r6.all goodWord = true := by decide +kernel
theorem jWg_7 : wsL_law_r7.all goodWord = true := by decide +kernel
theorem jWg_8 : wsL_law_r8.all goodWord = true := by decide +kernel
theorem jWg_9 : wsL_law_r9.all goodWord = true := by decide +kernel
theorem jWg_10 : wsL_law_r10.all goodWord = true := by decide +kernel
theorem jWg_11 : wsL_law_r11.all goodWord = true := by decide +kernel
theorem jWg_12 : wsL_law_r12.all goodWord = true := by decide +kernel
theorem jWg_13 : wsL_law_r13.all goodWord = true := by decide +kernel
theorem jWg_14 : wsL_law_r14.all goodWord = true := by decide +kernel
theorem jWg_15 : wsL_law_r15.all goodWord = true := by decide +kernel
theorem jWg_16 : wsL_law_r16.all goodWord = true := by decide +kernel
theorem jWg_17 : wsL_law_r17.all goodWord = true := by decide +kernel
theorem jWg_18 : wsL_law_r18.all goodWord = true := by decide +kernel
theorem jWg_19 : wsL_law_r19.all goodWord = true := by decide +kernel
theorem jWg_20 : wsL_law_r20.all goodWord = true := by decide +kernel
theorem jWg_21 : wsL_law_r21.all goodWord = true := by decide +kernel
theorem jWg_22 : wsL_law_r22.all goodWord = true := by decide +kernel
theorem jWg_23 : wsL_law_r23.all goodWord = true := by decide +kernel
theorem jWg_24 : wsL_law_r24.all goodWord = true := by decide +kernel
theorem jWg_25 : wsL_law_r25.all goodWord = true := by decide +kernel
theorem jWg_26 : wsL_law_r26.all goodWord = true := by decide +kernel
theorem jWg_27 : wsL_law_r27.all goodWord = true := by decide +kernel
theorem jWg_28 : wsL_law_r28.all goodWord = true := by decide +kernel
theorem jWg_29 : wsL_law_r29.all goodWord = true := by decide +kernel
theorem jWg_30 : wsL_law_r30.all goodWord = true := by decide +kernel
theorem jWg_31 : wsL_law_r31.all goodWord = true := by decide +kernel
theorem jWg_32 : wsL_law_r32.all goodWord = true := by decide +kernel
theorem jWg_33 : wsL_law_r33.all goodWord = true := by decide +kernel
theorem jWg_34 : wsL_law_r34.all goodWord = true := by decide +kernel
theorem jWg_35 : wsL_law_r35.all goodWord = true := by decide +kernel
theorem jWg_36 : wsL_law_r36.all goodWord = true := by decide +kernel
theorem jWg_37 : wsL_law_r37.all goodWord = true := by decide +kernel
theorem jWg_38 : wsL_law_r38.all goodWord = true := by decide +kernel
theorem jWg_39 : wsL_law_r39.all goodWord = true := by decide +kernel
theorem jWg_40 : wsL_law_r40.all goodWord = true := by decide +kernel
theorem jWg_41 : wsL_law_r41.all goodWord = true := by decide +kernel
theorem jWg_42 : wsL_law_r42.all goodWord = true := by decide +kernel
theorem jWg_43 : wsL_law_r43.all goodWord = true := by decide +kernel
theorem jWg_44 : wsL_law_r44.all goodWord = true := by decide +kernel
theorem jWg_45 : wsL_law_r45.all goodWord = true := by decide +kernel
theorem jWg_46 : wsL_law_r46.all goodWord = true := by decide +kernel
theorem jWg_47 : wsL_law_r47.all goodWord = true := by decide +kernel
theorem jWg_48 : wsL_law_r48.all goodWord = true := by decide +kernel
theorem jWg_49 : wsL_law_r49.all goodWord = true := by decide +kernel
theorem jWg_50 : wsL_law_r50.all goodWord = true := by decide +kernel
theorem jWg_51 : wsL_law_r51.all goodWord = true := by decide +kernel
theorem jWg_52 : wsL_law_r52.all goodWord = true := by decide +kernel
theorem jWg_53 : wsL_law_r53.all goodWord = true := by decide +kernel
theorem jWg_54 : wsL_law_r54.all goodWord = true := by decide +kernel
theorem jWg_55 : wsL_law_r55.all goodWord = true := by decide +kernel
theorem jWg_56 : wsL_law_r56.all goodWord = true := by decide +kernel
theorem jWg_57 : wsL_law_r57.all goodWord = true := by decide +kernel
theorem jWg_58 : wsL_law_r58.all goodWord = true := by decide +kernel
theorem jWg_59 : wsL_law_r59.all goodWord = true := by decide +kernel
theorem jWg_60 : wsL_law_r60.all goodWord = true := by decide +kernel
theorem jWg_61 : wsL_law_r61.all goodWord = true := by decide +kernel
theorem jWg_62 : wsL_law_r62.all goodWord = true := by decide +kernel
theorem jWg_63 : wsL_law_r63.all goodWord = true := by decide +kernel
theorem jWg_64 : wsL_law_r64.all goodWord = true := by decide +kernel
theorem jWg_65 : wsL_law_r65.all goodWord = true := by decide +kernel
theorem jWg_66 : wsL_law_r66.all goodWord = true := by decide +kernel
theorem jWg_67 : wsL_law_r67.all goodWord = true := by decide +kernel
theorem jWg_68 : wsL_law_r68.all goodWord = true := by decide +kernel
theorem jWg_69 : wsL_law_r69.all goodWord = true := by decide +kernel
theorem jWg_70 : wsL_law_r70.all goodWord = true := by decide +kernel
theorem jWg_71 : wsL_law_r71.all goodWord = true := by decide +kernel
theorem jWg_72 : wsL_law_r72.all goodWord = true := by decide +kernel
theorem jWg_73 : wsL_law_r73.all goodWord = true := by decide +kernel
theorem jWg_74 : wsL_law_r74.all goodWord = true := by decide +kernel
theorem jWg_75 : wsL_law_r75.all goodWord = true := by decide +kernel
theorem jWg_76 : wsL_law_r76.all goodWord = true := by decide +kernel
theorem jWg_77 : wsL_law_r77.all goodWord = true := by decide +kernel
theorem jWg_78 : wsL_law_r78.all goodWord = true := by decide +kernel
theorem jWg_79 : wsL_law_r79.all goodWord = true := by decide +kernel
theorem jWg_80 : wsL_law_r80.all goodWord = true := by decide +kernel
theorem jWg_81 : wsL_law_r81.all goodWord = true := by decide +kernel
theorem jWg_82 : wsL_law_r82.all goodWord = true := by decide +kernel
theorem jWg_83 : wsL_law_r83.all goodWord = true := by decide +kernel
theorem jWg_84 : wsL_law_r84.all goodWord = true := by decide +kernel
theorem jWg_85 : wsL_law_r85.all goodWord = true := by decide +kernel
theorem jWg_86 : wsL_law_r86.all goodWord = true := by decide +kernel
theorem jWg_87 : wsL_law_r87.all goodWord = true := by decide +kernel
theorem jWg_88 : wsL_law_r88.all goodWord = true := by decide +kernel
theorem jWg_89 : wsL_law_r89.all goodWord = true := by decide +kernel
theorem jWg_90 : wsL_law_r90.all goodWord = true := by decide +kernel
theorem jWg_91 : wsL_law_r91.all goodWord = true := by decide +kernel
theorem jWg_92 : wsL_law_r92.all goodWord = true := by decide +kernel
theorem jWg_93 : wsL_law_r93.all goodWord = true := by decide +kernel
theorem jWg_94 : wsL_law_r94.all goodWord = true := by decide +kernel
theorem jWg_95 : wsL_law_r95.all goodWord = true := by decide +kernel
theorem jWg_wsX110 : wsX110.all goodWord = true := by decide +kernel
theorem jWg_wsX140 : wsX140.all goodWord = true := by decide +kernel
theorem jWg_wsX00 : wsX00.all goodWord = true := by decide +kernel
theorem jWg_wsX20 : wsX20.all goodWord = true := by decide +kernel
theorem jWg_wsX40 : wsX40.all goodWord = true := by decide +kernel
theorem jWg_wsX50 : wsX50.all goodWord = true := by decide +kernel
theorem jWg_wsX70 : wsX70.all goodWord = true := by decide +kernel
theorem jWg_wsJx4a65c0 : wsJx4a65c0.all goodWord = true := by decide +kernel
theorem jWg_wsX10 : wsX10.all goodWord = true := by decide +kernel
theorem jWg_wsX60 : wsX60.all goodWord = true := by decide +kernel
theorem jWg_wsX100 : wsX100.all goodWord = true := by decide +kernel
theorem jWg_wsX90 : wsX90.all goodWord = true := by decide +kernel
theorem jWg_wsJ40 : wsJ40.all goodWord = true := by decide +kernel
theorem jWg_wsX120 : wsX120.all goodWord = true := by decide +kernel
theorem jWg_wsX130 : wsX130.all goodWord = true := by decide +kernel
theorem jWg_wsX80 : wsX80.all goodWord = true := by decide +kernel
theorem jWg_wsX30 : wsX30.all goodWord = true := by decide +kernel
theorem jTg95 : jTl95.all goodWord = true := jWg_95
theorem jTg94 : jTl94.all goodWord = true := by unfold jTl94; rw [List.all_append, jWg_94, jTg95]; rfl
theorem jTg93 : jTl93.all goodWord = true := by unfold jTl93; rw [List.all_append, jWg_93, jTg94]; rfl
theorem jTg92 : jTl92.all goodWord = true := by unfold jTl92; rw [List.all_append, jWg_92, jTg93]; rfl
theorem jTg91 : jTl91.all goodWord = true := by unfold jTl91; rw [List.all_append, jWg_91, jTg92]; rfl
theorem jTg90 : jTl90.all goodWord = true := by unfold jTl90; rw [List.all_append, jWg_90, jTg91]; rfl
theorem jTg89 : jTl89.all goodWord = true := by unfold jTl89; rw [List.all_append, jWg_89, jTg90]; rfl
theorem jTg88 : jTl88.all goodWord = true := by unfold jTl88; rw [List.all_append, jWg_88, jTg89]; rfl
theorem jTg87 : jTl87.all goodWord = true := by unfold jTl87; rw [List.all_append, jWg_87, jTg88]; rfl
theorem jTg86 : jTl86.all goodWord = true := by unfold jTl86; rw [List.all_append, jWg_86, jTg87]; rfl
theorem jTg85 : jTl85.all goodWord = true := by unfold jTl85; rw [List.all_append, jWg_85, jTg86]; rfl
theorem jTg84 : jTl84.all goodWord = true := by unfold jTl84; rw [List.all_append, jWg_84, jTg85]; rfl
theorem jTg83 : jTl83.all goodWord = true := by unfold jTl83; rw [List.all_append, jWg_83, jTg84]; rfl
theorem jTg82 : jTl82.all goodWord = true := by unfold jTl82; rw [List.all_append, jWg_82, jTg83]; rfl
theorem jTg81 : jTl81.all goodWord = true := by unfold jTl81; rw [List.all_append, jWg_81, jTg82]; rfl
theorem jTg80 : jTl80.all goodWord = true := by unfold jTl80; rw [List.all_append, jWg_80, jTg81]; rfl
theorem jTg79 : jTl79.all goodWord = true := by unfold jTl79; rw [List.all_append, jWg_79, jTg80]; rfl
theorem jTg78 : jTl78.all goodWord = true := by unfold jTl78; rw [List.all_append, jWg_78, jTg79]; rfl
theorem jTg77 : jTl77.all goodWord = true := by unfold jTl77; rw [List.all_append, jWg_77, jTg78]; rfl
theorem jTg76 : jTl76.all goodWord = true := by unfold jTl76; rw [List.all_append, jWg_76, jTg77]; rfl
theorem jTg75 : jTl75.all goodWord = true := by unfold jTl75; rw [List.all_append, jWg_75, jTg76]; rfl
theorem jTg74 : jTl74.all goodWord = true := by unfold jTl74; rw [List.all_append, jWg_74, jTg75]; rfl
theorem jTg73 : jTl73.all goodWord = true := by unfold jTl73; rw [List.all_append, jWg_73, jTg74]; rfl
theorem jTg72 : jTl72.all goodWord = true := by unfold jTl72; rw [List.all_append, jWg_72, jTg73]; rfl
theorem jTg71 : jTl71.all goodWord = true := by unfold jTl71; rw [List.all_append, jWg_71, jTg72]; rfl
theorem jTg70 : jTl70.all goodWord = true := by unfold jTl70; rw [List.all_append, jWg_70, jTg71]; rfl
theorem jTg69 : jTl69.all goodWord = true := by unfold jTl69; rw [List.all_append, jWg_69, jTg70]; rfl
theorem jTg68 : jTl68.all goodWord = true := by unfold jTl68; rw [List.all_append, jWg_68, jTg69]; rfl
theorem jTg67 : jTl67.all goodWord = true := by unfold jTl67; rw [List.all_append, jWg_67, jTg68]; rfl
theorem jTg66 : jTl66.all goodWord = true := by unfold jTl66; rw [List.all_append, jWg_66, jTg67]; rfl
theorem jTg65 : jTl65.all goodWord = true := by unfold jTl65; rw [List.all_append, jWg_65, jTg66]; rfl
theorem jTg64 : jTl64.all goodWord = true := by unfold jTl64; rw [List.all_append, jWg_64, jTg65]; rfl
theorem jTg63 : jTl63.all goodWord = true := by unfold jTl63; rw [List.all_append, jWg_63, jTg64]; rfl
theorem jTg62 : jTl62.all goodWord = true := by unfold jTl62; rw [List.all_append, jWg_62, jTg63]; rfl
theorem jTg61 : jTl61.all goodWord = true := by unfold jTl61; rw [List.all_append, jWg_61, jTg62]; rfl
theorem jTg60 : jTl60.all goodWord = true := by unfold jTl60; rw [List.all_append, jWg_60, jTg61]; rfl
theorem jTg59 : jTl59.all goodWord = true := by unfold jTl59; rw [List.all_append, jWg_59, jTg60]; rfl
theorem jTg58 : jTl58.all goodWord = true := by unfold jTl58; rw [List.all_append, jWg_58, jTg59]; rfl
theorem jTg57 : jTl57.all goodWord = true := by unfold jTl57; rw [List.all_append, jWg_57, jTg58]; rfl
theorem jTg56 : jTl56.all goodWord = true := by unfold jTl56; rw [List.all_append, jWg_56, jTg57]; rfl
theorem jTg55 : jTl55.all goodWord = true := by unfold jTl55; rw [List.all_append, jWg_55, jTg56]; rfl
theorem jTg54 : jTl54.all goodWord = true := by unfold jTl54; rw [List.all_append, jWg_54, jTg55]; rfl
theorem jTg53 : jTl53.all goodWord = true := by unfold jTl53; rw [List.all_append, jWg_53, jTg54]; rfl
theorem jTg52 : jTl52.all goodWord = true := by unfold jTl52; rw [List.all_append, jWg_52, jTg53]; rfl
theorem jTg51 : jTl51.all goodWord = true := by unfold jTl51; rw [List.all_append, jWg_51, jTg52]; rfl
theorem jTg50 : jTl50.all goodWord = true := by unfold jTl50; rw [List.all_append, jWg_50, jTg51]; rfl
theorem jTg49 : jTl49.all goodWord = true := by unfold jTl49; rw [List.all_append, jWg_49, jTg50]; rfl
theorem jTg48 : jTl48.all goodWord = true := by unfold jTl48; rw [List.all_append, jWg_48, jTg49]; rfl
theorem jTg47 : jTl47.all goodWord = true := by unfold jTl47; rw [List.all_append, jWg_47, jTg48]; rfl
theorem jTg46 : jTl46.all goodWord = true := by unfold jTl46; rw [List.all_append, jWg_46, jTg47]; rfl
theorem jTg45 : jTl45.all goodWord = true := by unfold jTl45; rw [List.all_append, jWg_45, jTg46]; rfl
theorem jTg44 : jTl44.all goodWord = true := by unfold jTl44; rw [List.all_append, jWg_44, jTg45]; rfl
theorem jTg43 : jTl43.all goodWord = true := by unfold jTl43; rw [List.all_append, jWg_43, jTg44]; rfl
theorem jTg42 : jTl42.all goodWord = true := by unfold jTl42; rw [List.all_append, jWg_42, jTg43]; rfl
theorem jTg41 : jTl41.all goodWord = true := by unfold jTl41; rw [List.all_append, jWg_41, jTg42]; rfl
theorem jTg40 : jTl40.all goodWord = true := by unfold jTl40; rw [List.all_append, jWg_40, jTg41]; rfl
theorem jTg39 : jTl39.all goodWord = true := by unfold jTl39; rw [List.all_append, jWg_39, jTg40]; rfl
theorem jTg38 : jTl38.all goodWord = true := by unfold jTl38; rw [List.all_append, jWg_38, jTg39]; rfl
theorem jTg37 : jTl37.all goodWord = true := by unfold jTl37; rw [List.all_append, jWg_37, jTg38]; rfl
theorem jTg36 : jTl36.all goodWord = true := by unfold jTl36; rw [List.all_append, jWg_36, jTg37]; rfl
theorem jTg35 : jTl35.all goodWord = true := by unfold jTl35; rw [List.all_append, jWg_35, jTg36]; rfl
theorem jTg34 : jTl34.all goodWord = true := by unfold jTl34; rw [List.all_append, jWg_34, jTg35]; rfl
theorem jTg33 : jTl33.all goodWord = true := by unfold jTl33; rw [List.all_append, jWg_33, jTg34]; rfl
theorem jTg32 : jTl32.all goodWord = true := by unfold jTl32; rw [List.all_append, jWg_32, jTg33]; rfl
theorem jTg31 : jTl31.all goodWord = true := by unfold jTl31; rw [List.all_append, jWg_31, jTg32]; rfl
theorem jTg30 : jTl30.all goodWord = true := by unfold jTl30; rw [List.all_append, jWg_30, jTg31]; rfl
theorem jTg29 : jTl29.all goodWord = true := by unfold jTl29; rw [List.all_append, jWg_29, jTg30]; rfl
theorem jTg28 : jTl28.all goodWord = true := by unfold jTl28; rw [List.all_append, jWg_28, jTg29]; rfl
theorem jTg27 : jTl27.all goodWord = true := by unfold jTl27; rw [List.all_append, jWg_27, jTg28]; rfl
theorem jTg26 : jTl26.all goodWord = true := by unfold jTl26; rw [List.all_append, jWg_26, jTg27]; rfl
theorem jTg25 : jTl25.all goodWord = true := by unfold jTl25; rw [List.all_append, jWg_25, jTg26]; rfl
theorem jTg24 : jTl24.all goodWord = true := by unfold jTl24; rw [List.all_append, jWg_24, jTg25]; rfl
theorem jTg23 : jTl23.all goodWord = true := by unfold jTl23; rw [List.all_append, jWg_23, jTg24]; rfl
theorem jTg22 : jTl22.all goodWord = true := by unfold jTl22; rw [List.all_append, jWg_22, jTg23]; rfl
theorem jTg21 : jTl21.all goodWord = true := by unfold jTl21; rw [List.all_append, jWg_21, jTg22]; rfl
theorem jTg20 : jTl20.all goodWord = true := by unfold jTl20; rw [List.all_append, jWg_20, jTg21]; rfl
theorem jTg19 : jTl19.all goodWord = true := by unfold jTl19; rw [List.all_append, jWg_19, jTg20]; rfl
theorem jTg18 : jTl18.all goodWord = true := by unfold jTl18; rw [List.all_append, jWg_18, jTg19]; rfl
theorem jTg17 : jTl17.all goodWord = true := by unfold jTl17; rw [List.all_append, jWg_17, jTg18]; rfl
theorem jTg16 : jTl16.all goodWord = true := by unfold jTl16; rw [List.all_append, jWg_16, jTg17]; rfl
theorem jTg15 : jTl15.all goodWord = true := by unfold jTl15; rw [List.all_append, jWg_15, jTg16]; rfl
theorem jTg14 : jTl14.all goodWord = true := by unfold jTl14; rw [List.all_append, jWg_14, jTg15]; rfl
theorem jTg13 : jTl13.all goodWord = true := by unfold jTl13; rw [List.all_append, jWg_13, jTg14]; rfl
theorem jTg12 : jTl12.all goodWord = true := by unfold jTl12; rw [List.all_append, jWg_12, jTg13]; rfl
theorem jTg11 : jTl11.all goodWord = true := by unfold jTl11; rw [List.all_append, jWg_11, jTg12]; rfl
theorem jTg10 : jTl10.all goodWord = true := by unfold jTl10; rw [List.all_append, jWg_10, jTg11]; rfl
theorem jTg9 : jTl9.all goodWord = true := by unfold jTl9; rw [List.all_append, jWg_9, jTg10]; rfl
theorem jTg8 : jTl8.all goodWord = true := by unfold jTl8; rw [List.all_append, jWg_8, jTg9]; rfl
theorem jTg7 : jTl7.all goodWord = true := by unfold jTl7; rw [List.all_append, jWg_7, jTg8]; rfl
theorem jTg6 : jTl6.all goodWord = true := by unfold jTl6; rw [List.all_append, jWg_6, jTg7]; rfl
theorem jTg5 : jTl5.all goodWord = true := by unfold jTl5; rw [List.all_append, jWg_5, jTg6]; rfl
theorem jTg4 : jTl4.all goodWord = true := by unfold jTl4; rw [List.all_append, jWg_4, jTg5]; rfl
theorem jTg3 : jTl3.all goodWord = true := by unfold jTl3; rw [List.all_append, jWg_3, jTg4]; rfl
theorem jTg2 : jTl2.all goodWord = true := by unfold jTl2; rw [List.all_append, jWg_2, jTg3]; rfl
theorem jTg1 : jTl1.all goodWord = true := by unfold jTl1; rw [List.all_append, jWg_1, jTg2]; rfl
theorem jWl_good : jWl.all goodWord = true := by
  unfold jWl
  simp only [List.all_append, Bool.and_eq_true]
  refine ⟨⟨⟨⟨⟨⟨⟨⟨⟨⟨⟨⟨⟨⟨⟨⟨⟨⟨jTg1, jWg_wsX110⟩, jWg_wsX140⟩, jWg_wsX00⟩, jWg_wsX20⟩, jWg_wsX40⟩, jWg_wsX50⟩, jWg_wsX70⟩, jWg_wsJx4a65c0⟩, jWg_wsX10⟩, jWg_wsX60⟩, jWg_wsX100⟩, jWg_wsX90⟩, jWg_wsJ40⟩, jWg_wsX120⟩, jWg_wsX130⟩, jWg_wsX80⟩, jWg_wsX30⟩, rfl⟩
theorem jgW {h : Cond} {y : MethodName} {c : ByteArray} {n : Nat} {r : Option FieldType} (hc : Cond.code y c n r ∈ jWl) : GoodIn (h :: jWl) (jw y c n r) := fun w hw => by
  have hm : w ∈ jWl := (List.mem_cons.mp hw).elim (fun e => by rw [e]; exact hc) id
  exact ⟨List.mem_cons_of_mem _ hm, good_of_word (List.all_eq_true.mp jWl_good w hm)⟩
theorem jgL {h : Cond} {ls ws : List Cond} (hl : ∀ w ∈ ls, w ∈ jWl) (hw : GoodIn (h :: jWl) ws) : GoodIn (h :: jWl) (ls ++ ws) := fun w hw1 => (List.mem_append.mp hw1).elim (fun g => ⟨List.mem_cons_of_mem _ (hl w g), good_of_word (List.all_eq_true.mp jWl_good w (hl w g))⟩) (hw w)
theorem jgV {h : Cond} {own C : String} {idx : Nat} {y : MethodName} {c : ByteArray} {n : Nat} {r : Option FieldType} (h1 : Cond.methodLink own idx y ∈ jWl) (h2 : Cond.instanceMethod y ∈ jWl) (h3 : Cond.selects C y y ∈ jWl) (h4 : Cond.initialized C ∈ jWl) (hc : Cond.code y c n r ∈ jWl) : GoodIn (h :: jWl) (wsV own idx C y (jw y c n r)) :=
  jgL (fun w hw => by
    rcases List.mem_cons.mp hw with e | hw
    · rw [e]; exact h1
    rcases List.mem_cons.mp hw with e | hw
    · rw [e]; exact h2
    rcases List.mem_cons.mp hw with e | hw
    · rw [e]; exact h3
    rw [List.mem_singleton.mp hw]; exact h4) (jgW hc)
end
