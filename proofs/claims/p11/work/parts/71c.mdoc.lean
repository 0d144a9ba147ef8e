section
variable {p : Program} {l : Launch} {e : Env} {R : Room} {s : State} {m : MethodId} {args : Array Value} {below : List Frame} {meth : Method} {c : Code} {H : Heap} {locs : List Loc} {cells slots : Nat} {Q : State → Prop}
variable {cc : ByteArray} {pc : Nat} {ls : Array Slot} {rest : List Value}
theorem j7_nst_n (hexec : p.tables.exec = Jvm.exec) (hb : c.code = cc) {k : Fin 4} {i nL : Nat} {lv lv' : List (Nat × Value)} (hdg : decode cc pc = .ok (.astore_n k, 1)) (hi : (k : Nat) = i) (h : lv_has ls nL lv) (hn : i < nL) (hl : (i, Value.null) :: lv.filter (fun q => !(q.1 == i) && !(q.1 + 1 == i && q.2.category == 2)) = lv')
    (kk : ∀ ls' : Array Slot, lv_has ls' nL lv' → W p l e R s m args below meth c H locs cells slots Q (F0 m (pc + 1) ls' rest)) : W p l e R s m args below meth c H locs cells slots Q (F0 m pc ls (.null :: rest)) := by
  subst hi
  obtain ⟨ls', e', h'⟩ := lv_store1 (v := .null) h hn rfl
  intro T hT X
  obtain ⟨t, a, b⟩ := kk ls' (hl ▸ h') T hT X
  refine ⟨t, ?_, b⟩
  jvm_step X.here [X.here.top, ↓top_set X.here.top, hexec, hb, hdg, e', Value.isRef]
  exact a
theorem j7_nst (hexec : p.tables.exec = Jvm.exec) (hb : c.code = cc) {i nL : Nat} {lv lv' : List (Nat × Value)} (hdg : decode cc pc = .ok (.astore i, 2)) (h : lv_has ls nL lv) (hn : i < nL) (hl : (i, Value.null) :: lv.filter (fun q => !(q.1 == i) && !(q.1 + 1 == i && q.2.category == 2)) = lv')
    (kk : ∀ ls' : Array Slot, lv_has ls' nL lv' → W p l e R s m args below meth c H locs cells slots Q (F0 m (pc + 2) ls' rest)) : W p l e R s m args below meth c H locs cells slots Q (F0 m pc ls (.null :: rest)) := by
  obtain ⟨ls', e', h'⟩ := lv_store1 (v := .null) h hn rfl
  intro T hT X
  obtain ⟨t, a, b⟩ := kk ls' (hl ▸ h') T hT X
  refine ⟨t, ?_, b⟩
  jvm_step X.here [X.here.top, ↓top_set X.here.top, hexec, hb, hdg, e', Value.isRef]
  exact a
end
section
variable {p : Program} {l : Launch} {e : Env} {R : Room} {s : State} {m : MethodId} {args : Array Value} {below : List Frame} {meth : Method} {c : Code} {H : Heap} {locs : List Loc} {cells slots : Nat} {Q : State → Prop}
variable {cc : ByteArray} {pc : Nat} {ls : Array Slot} {rest : List Value}
theorem j7_nld_n (hexec : p.tables.exec = Jvm.exec) (hb : c.code = cc) {k : Fin 4} {i : Nat} (hdg : decode cc pc = .ok (.aload_n k, 1)) (hi : (k : Nat) = i) (hl : ls[i]? = some (.val .null))
    (k : W p l e R s m args below meth c H locs cells slots Q (F0 m (pc + 1) ls (.null :: rest))) : W p l e R s m args below meth c H locs cells slots Q (F0 m pc ls (rest)) := by
  subst hi
  intro T hT X
  obtain ⟨t, a, b⟩ := k T hT X
  refine ⟨t, ?_, b⟩
  jvm_step X.here [X.here.top, hexec, hb, hdg, hl, Value.isRef]
  exact a
theorem j7_nld (hexec : p.tables.exec = Jvm.exec) (hb : c.code = cc) {i : Nat} (hdg : decode cc pc = .ok (.aload i, 2)) (hl : ls[i]? = some (.val .null))
    (k : W p l e R s m args below meth c H locs cells slots Q (F0 m (pc + 2) ls (.null :: rest))) : W p l e R s m args below meth c H locs cells slots Q (F0 m pc ls (rest)) := by
  intro T hT X
  obtain ⟨t, a, b⟩ := k T hT X
  refine ⟨t, ?_, b⟩
  jvm_step X.here [X.here.top, hexec, hb, hdg, hl, Value.isRef]
  exact a
end
theorem dX14_documentOf_0 : decode cX14_documentOf 0 = .ok (.aload_n 0, 1) := by decide +kernel
theorem dX14_documentOf_1 : decode cX14_documentOf 1 = .ok (.iload_n 1, 1) := by decide +kernel
theorem dX14_documentOf_2 : decode cX14_documentOf 2 = .ok (.invokevirtual 368, 3) := by decide +kernel
theorem dX14_documentOf_5 : decode cX14_documentOf 5 = .ok (.ifCond .ne 5, 3) := by decide +kernel
theorem dX14_documentOf_8 : decode cX14_documentOf 8 = .ok (.aconst_null, 1) := by decide +kernel
theorem dX14_documentOf_9 : decode cX14_documentOf 9 = .ok (.areturn, 1) := by decide +kernel
theorem dX14_documentOf_10 : decode cX14_documentOf 10 = .ok (.iconst 0, 1) := by decide +kernel
theorem dX14_documentOf_11 : decode cX14_documentOf 11 = .ok (.istore_n 2, 1) := by decide +kernel
theorem dX14_documentOf_12 : decode cX14_documentOf 12 = .ok (.iload_n 2, 1) := by decide +kernel
theorem dX14_documentOf_13 : decode cX14_documentOf 13 = .ok (.aload_n 0, 1) := by decide +kernel
theorem dX14_documentOf_14 : decode cX14_documentOf 14 = .ok (.getfield 505, 3) := by decide +kernel
theorem dX14_documentOf_17 : decode cX14_documentOf 17 = .ok (.if_icmp .ge 104, 3) := by decide +kernel
theorem dX14_documentOf_20 : decode cX14_documentOf 20 = .ok (.aload_n 0, 1) := by decide +kernel
theorem dX14_documentOf_21 : decode cX14_documentOf 21 = .ok (.getfield 74, 3) := by decide +kernel
theorem dX14_documentOf_24 : decode cX14_documentOf 24 = .ok (.iload_n 2, 1) := by decide +kernel
theorem dX14_documentOf_25 : decode cX14_documentOf 25 = .ok (.aaload, 1) := by decide +kernel
theorem dX14_documentOf_26 : decode cX14_documentOf 26 = .ok (.astore_n 3, 1) := by decide +kernel
theorem dX14_documentOf_27 : decode cX14_documentOf 27 = .ok (.aload_n 3, 1) := by decide +kernel
theorem dX14_documentOf_28 : decode cX14_documentOf 28 = .ok (.getfield 508, 3) := by decide +kernel
theorem dX14_documentOf_31 : decode cX14_documentOf 31 = .ok (.aload_n 0, 1) := by decide +kernel
theorem dX14_documentOf_32 : decode cX14_documentOf 32 = .ok (.getfield 55, 3) := by decide +kernel
theorem dX14_documentOf_35 : decode cX14_documentOf 35 = .ok (.iload_n 1, 1) := by decide +kernel
theorem dX14_documentOf_36 : decode cX14_documentOf 36 = .ok (.iaload, 1) := by decide +kernel
theorem dX14_documentOf_37 : decode cX14_documentOf 37 = .ok (.aload_n 0, 1) := by decide +kernel
theorem dX14_documentOf_38 : decode cX14_documentOf 38 = .ok (.getfield 52, 3) := by decide +kernel
theorem dX14_documentOf_41 : decode cX14_documentOf 41 = .ok (.iload_n 1, 1) := by decide +kernel
theorem dX14_documentOf_42 : decode cX14_documentOf 42 = .ok (.iaload, 1) := by decide +kernel
theorem dX14_documentOf_43 : decode cX14_documentOf 43 = .ok (.isub, 1) := by decide +kernel
theorem dX14_documentOf_44 : decode cX14_documentOf 44 = .ok (.if_icmp .ne 7, 3) := by decide +kernel
theorem dX14_documentOf_47 : decode cX14_documentOf 47 = .ok (.iconst 1, 1) := by decide +kernel
theorem dX14_documentOf_48 : decode cX14_documentOf 48 = .ok (.goto 4, 3) := by decide +kernel
theorem dX14_documentOf_51 : decode cX14_documentOf 51 = .ok (.iconst 0, 1) := by decide +kernel
theorem dX14_documentOf_52 : decode cX14_documentOf 52 = .ok (.istore 4, 2) := by decide +kernel
theorem dX14_documentOf_54 : decode cX14_documentOf 54 = .ok (.iconst 0, 1) := by decide +kernel
theorem dX14_documentOf_55 : decode cX14_documentOf 55 = .ok (.istore 5, 2) := by decide +kernel
theorem dX14_documentOf_57 : decode cX14_documentOf 57 = .ok (.iload 5, 2) := by decide +kernel
theorem dX14_documentOf_59 : decode cX14_documentOf 59 = .ok (.aload_n 3, 1) := by decide +kernel
theorem dX14_documentOf_60 : decode cX14_documentOf 60 = .ok (.getfield 508, 3) := by decide +kernel
theorem dX14_documentOf_63 : decode cX14_documentOf 63 = .ok (.if_icmp .ge 45, 3) := by decide +kernel
theorem dX14_documentOf_66 : decode cX14_documentOf 66 = .ok (.iload 4, 2) := by decide +kernel
theorem dX14_documentOf_68 : decode cX14_documentOf 68 = .ok (.ifCond .eq 40, 3) := by decide +kernel
theorem dX14_documentOf_71 : decode cX14_documentOf 71 = .ok (.aload_n 3, 1) := by decide +kernel
theorem dX14_documentOf_72 : decode cX14_documentOf 72 = .ok (.getfield 511, 3) := by decide +kernel
theorem dX14_documentOf_75 : decode cX14_documentOf 75 = .ok (.iload 5, 2) := by decide +kernel
theorem dX14_documentOf_77 : decode cX14_documentOf 77 = .ok (.iaload, 1) := by decide +kernel
theorem dX14_documentOf_78 : decode cX14_documentOf 78 = .ok (.aload_n 0, 1) := by decide +kernel
theorem dX14_documentOf_79 : decode cX14_documentOf 79 = .ok (.getfield 65, 3) := by decide +kernel
theorem dX14_documentOf_82 : decode cX14_documentOf 82 = .ok (.aload_n 0, 1) := by decide +kernel
theorem dX14_documentOf_83 : decode cX14_documentOf 83 = .ok (.getfield 52, 3) := by decide +kernel
theorem dX14_documentOf_86 : decode cX14_documentOf 86 = .ok (.iload_n 1, 1) := by decide +kernel
theorem dX14_documentOf_87 : decode cX14_documentOf 87 = .ok (.iaload, 1) := by decide +kernel
theorem dX14_documentOf_88 : decode cX14_documentOf 88 = .ok (.iload 5, 2) := by decide +kernel
theorem dX14_documentOf_90 : decode cX14_documentOf 90 = .ok (.iadd, 1) := by decide +kernel
theorem dX14_documentOf_91 : decode cX14_documentOf 91 = .ok (.iaload, 1) := by decide +kernel
theorem dX14_documentOf_92 : decode cX14_documentOf 92 = .ok (.if_icmp .ne 7, 3) := by decide +kernel
theorem dX14_documentOf_95 : decode cX14_documentOf 95 = .ok (.iconst 1, 1) := by decide +kernel
theorem dX14_documentOf_96 : decode cX14_documentOf 96 = .ok (.goto 4, 3) := by decide +kernel
theorem dX14_documentOf_99 : decode cX14_documentOf 99 = .ok (.iconst 0, 1) := by decide +kernel
theorem dX14_documentOf_100 : decode cX14_documentOf 100 = .ok (.istore 4, 2) := by decide +kernel
theorem dX14_documentOf_102 : decode cX14_documentOf 102 = .ok (.iinc 5 1, 3) := by decide +kernel
theorem dX14_documentOf_105 : decode cX14_documentOf 105 = .ok (.goto (-48), 3) := by decide +kernel
theorem dX14_documentOf_108 : decode cX14_documentOf 108 = .ok (.iload 4, 2) := by decide +kernel
theorem dX14_documentOf_110 : decode cX14_documentOf 110 = .ok (.ifCond .eq 5, 3) := by decide +kernel
theorem dX14_documentOf_113 : decode cX14_documentOf 113 = .ok (.aload_n 3, 1) := by decide +kernel
theorem dX14_documentOf_114 : decode cX14_documentOf 114 = .ok (.areturn, 1) := by decide +kernel
theorem dX14_documentOf_115 : decode cX14_documentOf 115 = .ok (.iinc 2 1, 3) := by decide +kernel
theorem dX14_documentOf_118 : decode cX14_documentOf 118 = .ok (.goto (-106), 3) := by decide +kernel
theorem dX14_documentOf_121 : decode cX14_documentOf 121 = .ok (.aconst_null, 1) := by decide +kernel
theorem dX14_documentOf_122 : decode cX14_documentOf 122 = .ok (.areturn, 1) := by decide +kernel
theorem dX14_settleChecks_0 : decode cX14_settleChecks 0 = .ok (.aload_n 1, 1) := by decide +kernel
theorem dX14_settleChecks_1 : decode cX14_settleChecks 1 = .ok (.invokestatic 534, 3) := by decide +kernel
theorem dX14_settleChecks_4 : decode cX14_settleChecks 4 = .ok (.aload_n 1, 1) := by decide +kernel
theorem dX14_settleChecks_5 : decode cX14_settleChecks 5 = .ok (.getfield 531, 3) := by decide +kernel
theorem dX14_settleChecks_8 : decode cX14_settleChecks 8 = .ok (.iload_n 2, 1) := by decide +kernel
theorem dX14_settleChecks_9 : decode cX14_settleChecks 9 = .ok (.if_icmp .le 8, 3) := by decide +kernel
theorem dX14_settleChecks_12 : decode cX14_settleChecks 12 = .ok (.aload_n 1, 1) := by decide +kernel
theorem dX14_settleChecks_13 : decode cX14_settleChecks 13 = .ok (.iload_n 2, 1) := by decide +kernel
theorem dX14_settleChecks_14 : decode cX14_settleChecks 14 = .ok (.putfield 531, 3) := by decide +kernel
theorem dX14_settleChecks_17 : decode cX14_settleChecks 17 = .ok (.iconst 0, 1) := by decide +kernel
theorem dX14_settleChecks_18 : decode cX14_settleChecks 18 = .ok (.istore_n 3, 1) := by decide +kernel
theorem dX14_settleChecks_19 : decode cX14_settleChecks 19 = .ok (.iload_n 3, 1) := by decide +kernel
theorem dX14_settleChecks_20 : decode cX14_settleChecks 20 = .ok (.iconst 2, 1) := by decide +kernel
theorem dX14_settleChecks_21 : decode cX14_settleChecks 21 = .ok (.if_icmp .ge 36, 3) := by decide +kernel
theorem dX14_settleChecks_24 : decode cX14_settleChecks 24 = .ok (.aload_n 0, 1) := by decide +kernel
theorem dX14_settleChecks_25 : decode cX14_settleChecks 25 = .ok (.getfield 129, 3) := by decide +kernel
theorem dX14_settleChecks_28 : decode cX14_settleChecks 28 = .ok (.iload_n 3, 1) := by decide +kernel
theorem dX14_settleChecks_29 : decode cX14_settleChecks 29 = .ok (.aaload, 1) := by decide +kernel
theorem dX14_settleChecks_30 : decode cX14_settleChecks 30 = .ok (.aload_n 1, 1) := by decide +kernel
theorem dX14_settleChecks_31 : decode cX14_settleChecks 31 = .ok (.if_acmp .ne 20, 3) := by decide +kernel
theorem dX14_settleChecks_34 : decode cX14_settleChecks 34 = .ok (.aload_n 0, 1) := by decide +kernel
theorem dX14_settleChecks_35 : decode cX14_settleChecks 35 = .ok (.getfield 132, 3) := by decide +kernel
theorem dX14_settleChecks_38 : decode cX14_settleChecks 38 = .ok (.iload_n 3, 1) := by decide +kernel
theorem dX14_settleChecks_39 : decode cX14_settleChecks 39 = .ok (.iaload, 1) := by decide +kernel
theorem dX14_settleChecks_40 : decode cX14_settleChecks 40 = .ok (.iload_n 2, 1) := by decide +kernel
theorem dX14_settleChecks_41 : decode cX14_settleChecks 41 = .ok (.if_icmp .lt 10, 3) := by decide +kernel
theorem dX14_settleChecks_44 : decode cX14_settleChecks 44 = .ok (.aload_n 0, 1) := by decide +kernel
theorem dX14_settleChecks_45 : decode cX14_settleChecks 45 = .ok (.getfield 129, 3) := by decide +kernel
theorem dX14_settleChecks_48 : decode cX14_settleChecks 48 = .ok (.iload_n 3, 1) := by decide +kernel
theorem dX14_settleChecks_49 : decode cX14_settleChecks 49 = .ok (.aconst_null, 1) := by decide +kernel
theorem dX14_settleChecks_50 : decode cX14_settleChecks 50 = .ok (.aastore, 1) := by decide +kernel
theorem dX14_settleChecks_51 : decode cX14_settleChecks 51 = .ok (.iinc 3 1, 3) := by decide +kernel
theorem dX14_settleChecks_54 : decode cX14_settleChecks 54 = .ok (.goto (-35), 3) := by decide +kernel
theorem dX14_settleChecks_57 : decode cX14_settleChecks 57 = .ok (.return_, 1) := by decide +kernel
theorem dX14_putLine_0 : decode cX14_putLine 0 = .ok (.aload_n 0, 1) := by decide +kernel
theorem dX14_putLine_1 : decode cX14_putLine 1 = .ok (.aload_n 0, 1) := by decide +kernel
theorem dX14_putLine_2 : decode cX14_putLine 2 = .ok (.getfield 122, 3) := by decide +kernel
theorem dX14_putLine_5 : decode cX14_putLine 5 = .ok (.getfield 632, 3) := by decide +kernel
theorem dX14_putLine_8 : decode cX14_putLine 8 = .ok (.iload_n 1, 1) := by decide +kernel
theorem dX14_putLine_9 : decode cX14_putLine 9 = .ok (.aload_n 0, 1) := by decide +kernel
theorem dX14_putLine_10 : decode cX14_putLine 10 = .ok (.getfield 122, 3) := by decide +kernel
theorem dX14_putLine_13 : decode cX14_putLine 13 = .ok (.getfield 634, 3) := by decide +kernel
theorem dX14_putLine_16 : decode cX14_putLine 16 = .ok (.invokevirtual 388, 3) := by decide +kernel
theorem dX14_putLine_19 : decode cX14_putLine 19 = .ok (.aload_n 0, 1) := by decide +kernel
theorem dX14_putLine_20 : decode cX14_putLine 20 = .ok (.getfield 122, 3) := by decide +kernel
theorem dX14_putLine_23 : decode cX14_putLine 23 = .ok (.iload_n 1, 1) := by decide +kernel
theorem dX14_putLine_24 : decode cX14_putLine 24 = .ok (.putfield 634, 3) := by decide +kernel
theorem dX14_putLine_27 : decode cX14_putLine 27 = .ok (.return_, 1) := by decide +kernel
theorem dX14_beginDiagnostics_0 : decode cX14_beginDiagnostics 0 = .ok (.aload_n 0, 1) := by decide +kernel
theorem dX14_beginDiagnostics_1 : decode cX14_beginDiagnostics 1 = .ok (.iconst 0, 1) := by decide +kernel
theorem dX14_beginDiagnostics_2 : decode cX14_beginDiagnostics 2 = .ok (.putfield 160, 3) := by decide +kernel
theorem dX14_beginDiagnostics_5 : decode cX14_beginDiagnostics 5 = .ok (.aload_n 0, 1) := by decide +kernel
theorem dX14_beginDiagnostics_6 : decode cX14_beginDiagnostics 6 = .ok (.ldc_w 722, 3) := by decide +kernel
theorem dX14_beginDiagnostics_9 : decode cX14_beginDiagnostics 9 = .ok (.invokevirtual 189, 3) := by decide +kernel
theorem dX14_beginDiagnostics_12 : decode cX14_beginDiagnostics 12 = .ok (.aload_n 0, 1) := by decide +kernel
theorem dX14_beginDiagnostics_13 : decode cX14_beginDiagnostics 13 = .ok (.aload_n 1, 1) := by decide +kernel
theorem dX14_beginDiagnostics_14 : decode cX14_beginDiagnostics 14 = .ok (.getfield 511, 3) := by decide +kernel
theorem dX14_beginDiagnostics_17 : decode cX14_beginDiagnostics 17 = .ok (.iconst 0, 1) := by decide +kernel
theorem dX14_beginDiagnostics_18 : decode cX14_beginDiagnostics 18 = .ok (.aload_n 1, 1) := by decide +kernel
theorem dX14_beginDiagnostics_19 : decode cX14_beginDiagnostics 19 = .ok (.getfield 508, 3) := by decide +kernel
theorem dX14_beginDiagnostics_22 : decode cX14_beginDiagnostics 22 = .ok (.invokevirtual 388, 3) := by decide +kernel
theorem dX14_beginDiagnostics_25 : decode cX14_beginDiagnostics 25 = .ok (.aload_n 0, 1) := by decide +kernel
theorem dX14_beginDiagnostics_26 : decode cX14_beginDiagnostics 26 = .ok (.ldc_w 724, 3) := by decide +kernel
theorem dX14_beginDiagnostics_29 : decode cX14_beginDiagnostics 29 = .ok (.invokevirtual 189, 3) := by decide +kernel
theorem dX14_beginDiagnostics_32 : decode cX14_beginDiagnostics 32 = .ok (.aload_n 0, 1) := by decide +kernel
theorem dX14_beginDiagnostics_33 : decode cX14_beginDiagnostics 33 = .ok (.aload_n 1, 1) := by decide +kernel
theorem dX14_beginDiagnostics_34 : decode cX14_beginDiagnostics 34 = .ok (.getfield 524, 3) := by decide +kernel
theorem dX14_beginDiagnostics_37 : decode cX14_beginDiagnostics 37 = .ok (.invokevirtual 208, 3) := by decide +kernel
theorem dX14_beginDiagnostics_40 : decode cX14_beginDiagnostics 40 = .ok (.aload_n 0, 1) := by decide +kernel
theorem dX14_beginDiagnostics_41 : decode cX14_beginDiagnostics 41 = .ok (.ldc_w 726, 3) := by decide +kernel
theorem dX14_beginDiagnostics_44 : decode cX14_beginDiagnostics 44 = .ok (.invokevirtual 189, 3) := by decide +kernel
theorem dX14_beginDiagnostics_47 : decode cX14_beginDiagnostics 47 = .ok (.return_, 1) := by decide +kernel
theorem dX14_endDiagnostics_0 : decode cX14_endDiagnostics 0 = .ok (.aload_n 0, 1) := by decide +kernel
theorem dX14_endDiagnostics_1 : decode cX14_endDiagnostics 1 = .ok (.ldc_w 728, 3) := by decide +kernel
theorem dX14_endDiagnostics_4 : decode cX14_endDiagnostics 4 = .ok (.invokevirtual 189, 3) := by decide +kernel
theorem dX14_endDiagnostics_7 : decode cX14_endDiagnostics 7 = .ok (.aload_n 0, 1) := by decide +kernel
theorem dX14_endDiagnostics_8 : decode cX14_endDiagnostics 8 = .ok (.invokevirtual 397, 3) := by decide +kernel
theorem dX14_endDiagnostics_11 : decode cX14_endDiagnostics 11 = .ok (.return_, 1) := by decide +kernel
theorem dX14_nextDocument_0 : decode cX14_nextDocument 0 = .ok (.aconst_null, 1) := by decide +kernel
theorem dX14_nextDocument_1 : decode cX14_nextDocument 1 = .ok (.astore_n 1, 1) := by decide +kernel
theorem dX14_nextDocument_2 : decode cX14_nextDocument 2 = .ok (.iconst 0, 1) := by decide +kernel
theorem dX14_nextDocument_3 : decode cX14_nextDocument 3 = .ok (.istore_n 2, 1) := by decide +kernel
theorem dX14_nextDocument_4 : decode cX14_nextDocument 4 = .ok (.iload_n 2, 1) := by decide +kernel
theorem dX14_nextDocument_5 : decode cX14_nextDocument 5 = .ok (.aload_n 0, 1) := by decide +kernel
theorem dX14_nextDocument_6 : decode cX14_nextDocument 6 = .ok (.getfield 505, 3) := by decide +kernel
theorem dX14_nextDocument_9 : decode cX14_nextDocument 9 = .ok (.if_icmp .ge 66, 3) := by decide +kernel
theorem dX14_nextDocument_12 : decode cX14_nextDocument 12 = .ok (.aload_n 0, 1) := by decide +kernel
theorem dX14_nextDocument_13 : decode cX14_nextDocument 13 = .ok (.getfield 74, 3) := by decide +kernel
theorem dX14_nextDocument_16 : decode cX14_nextDocument 16 = .ok (.iload_n 2, 1) := by decide +kernel
theorem dX14_nextDocument_17 : decode cX14_nextDocument 17 = .ok (.aaload, 1) := by decide +kernel
theorem dX14_nextDocument_18 : decode cX14_nextDocument 18 = .ok (.astore_n 3, 1) := by decide +kernel
theorem dX14_nextDocument_19 : decode cX14_nextDocument 19 = .ok (.aload_n 3, 1) := by decide +kernel
theorem dX14_nextDocument_20 : decode cX14_nextDocument 20 = .ok (.getfield 531, 3) := by decide +kernel
theorem dX14_nextDocument_23 : decode cX14_nextDocument 23 = .ok (.aload_n 3, 1) := by decide +kernel
theorem dX14_nextDocument_24 : decode cX14_nextDocument 24 = .ok (.getfield 587, 3) := by decide +kernel
theorem dX14_nextDocument_27 : decode cX14_nextDocument 27 = .ok (.if_icmp .eq 42, 3) := by decide +kernel
theorem dX14_nextDocument_30 : decode cX14_nextDocument 30 = .ok (.aload_n 3, 1) := by decide +kernel
theorem dX14_nextDocument_31 : decode cX14_nextDocument 31 = .ok (.aload_n 0, 1) := by decide +kernel
theorem dX14_nextDocument_32 : decode cX14_nextDocument 32 = .ok (.getfield 129, 3) := by decide +kernel
theorem dX14_nextDocument_35 : decode cX14_nextDocument 35 = .ok (.iconst 0, 1) := by decide +kernel
theorem dX14_nextDocument_36 : decode cX14_nextDocument 36 = .ok (.aaload, 1) := by decide +kernel
theorem dX14_nextDocument_37 : decode cX14_nextDocument 37 = .ok (.if_acmp .eq 32, 3) := by decide +kernel
theorem dX14_nextDocument_40 : decode cX14_nextDocument 40 = .ok (.aload_n 3, 1) := by decide +kernel
theorem dX14_nextDocument_41 : decode cX14_nextDocument 41 = .ok (.aload_n 0, 1) := by decide +kernel
theorem dX14_nextDocument_42 : decode cX14_nextDocument 42 = .ok (.getfield 129, 3) := by decide +kernel
theorem dX14_nextDocument_45 : decode cX14_nextDocument 45 = .ok (.iconst 1, 1) := by decide +kernel
theorem dX14_nextDocument_46 : decode cX14_nextDocument 46 = .ok (.aaload, 1) := by decide +kernel
theorem dX14_nextDocument_47 : decode cX14_nextDocument 47 = .ok (.if_acmp .ne 6, 3) := by decide +kernel
theorem dX14_nextDocument_50 : decode cX14_nextDocument 50 = .ok (.goto 19, 3) := by decide +kernel
theorem dX14_nextDocument_53 : decode cX14_nextDocument 53 = .ok (.aload_n 0, 1) := by decide +kernel
theorem dX14_nextDocument_54 : decode cX14_nextDocument 54 = .ok (.aload_n 3, 1) := by decide +kernel
theorem dX14_nextDocument_55 : decode cX14_nextDocument 55 = .ok (.invokevirtual 775, 3) := by decide +kernel
theorem dX14_nextDocument_58 : decode cX14_nextDocument 58 = .ok (.ifCond .eq 5, 3) := by decide +kernel
theorem dX14_nextDocument_61 : decode cX14_nextDocument 61 = .ok (.aload_n 3, 1) := by decide +kernel
theorem dX14_nextDocument_62 : decode cX14_nextDocument 62 = .ok (.areturn, 1) := by decide +kernel
theorem dX14_nextDocument_63 : decode cX14_nextDocument 63 = .ok (.aload_n 1, 1) := by decide +kernel
theorem dX14_nextDocument_64 : decode cX14_nextDocument 64 = .ok (.ifnonnull 5, 3) := by decide +kernel
theorem dX14_nextDocument_67 : decode cX14_nextDocument 67 = .ok (.aload_n 3, 1) := by decide +kernel
theorem dX14_nextDocument_68 : decode cX14_nextDocument 68 = .ok (.astore_n 1, 1) := by decide +kernel
theorem dX14_nextDocument_69 : decode cX14_nextDocument 69 = .ok (.iinc 2 1, 3) := by decide +kernel
theorem dX14_nextDocument_72 : decode cX14_nextDocument 72 = .ok (.goto (-68), 3) := by decide +kernel
theorem dX14_nextDocument_75 : decode cX14_nextDocument 75 = .ok (.aload_n 1, 1) := by decide +kernel
theorem dX14_nextDocument_76 : decode cX14_nextDocument 76 = .ok (.areturn, 1) := by decide +kernel
def EX14_beginDiagnostics : List (Nat × Nat) := [(16, 6), (101, 0)]
def EX14_endDiagnostics : List (Nat × Nat) := [(16, 3), (16, 4), (16, 6), (101, 0)]
def EX14_putLine : List (Nat × Nat) := [(15, 46), (16, 6), (101, 0)]
def EX14_settleChecks : List (Nat × Nat) := [(14, 5), (14, 9), (190, 0), (191, 0), (192, 0), (208, 0)]
def EX14_documentOf : List (Nat × Nat) := []
def EX14_nextDocument : List (Nat × Nat) := []
set_option maxHeartbeats 4000000 in
set_option maxRecDepth 20000 in
theorem uX14_beginDiagnostics (l : Launch) (dC : Nat → ClassId) (dI : Nat → Nat → Nat) (ca : Nat → ClassId) (base : Nat) (B : jF) (hB : jBok B) (hAp : jAp (dC, dI)) (hB14 : ∀ n G a H, B 14 n G a H ↔ jOb (dC, dI) 14 11 (F14 n G) a H) (hB16 : ∀ n G a H, B 16 n G a H ↔ jOb (dC, dI) 16 74 (F16 n G) a H) (hB101 : ∀ n G a H, B 101 n G a H ↔ jAr (dC, dI) (ca 1) (fun j z => True) n a H) (G0 : jT) (H0 : Heap) (r0 : Nat) (r1 : Nat) : Met l yX14_beginDiagnostics (jw yX14_beginDiagnostics cX14_beginDiagnostics 2 none) ({ frames := 12, cells := 0, slots := 0, locals := 462 }) (va_Pc [.ref r0, .ref r1] (fun U => U.heap = H0 ∧ jX B base G0 [] H0 ∧ jG dC dI ca base U ∧ G0 r1 = some (14, 0) ∧ G0 r0 = some (16, 0) ∧ jP (dC, dI) G0 H0 [] ∧ True)) (va_Qv (S := Unit) (fun u => True) (fun u t => jRt (dC, dI) B base G0 EX14_beginDiagnostics H0 [] t.heap) (jA base)) 0 0 (jA base) := by
  refine Met.ofW (cc := cX14_beginDiagnostics) (maxL := 2) (ret := none) (by decide) rfl ?_
  intro p e s m args below meth c s₁ Bd hml hv
  obtain ⟨rfl, hH0, hX, hG, hg_r1, hg_r0, hP0, hp0⟩ := hv
  have hK := hG.1
  have hx := Bd.exec
  have hb := Bd.bytes
  have hr := Bd.returns
  have hts := atoms_spec (ws := (jw yX14_beginDiagnostics cX14_beginDiagnostics 2 none)) Bd.pre
  have htw : ∀ w ∈ jWl, w.before _ s = true := fun w h => hts w (List.mem_cons_of_mem _ h)
  have hown : s.vm.findClass RX14 = some m.cls := findClass_of_methodNamed Bd.named
  have hlocks := Bd.notSynchronized
  obtain ⟨Q, hQ⟩ : ∃ Q, Q = MQ below (va_Qv (S := Unit) (fun u => True) (fun u t => jRt (dC, dI) B base G0 EX14_beginDiagnostics H0 [] t.heap) (jA base)) ([.ref r0, .ref r1] : List Value).toArray s 0 0 (jA base) := ⟨_, rfl⟩
  rw [← hQ]
  have hl := lv_entry ([.ref r0, .ref r1]) (n := 2) (Nat.le_of_ble_eq_true rfl)
  rw [lg_entry_eq]
  generalize (lg_sl ([.ref r0, .ref r1]) ++ List.replicate (2 - (lg_sl ([.ref r0, .ref r1])).length) Slot.unset).toArray = ls at hl ⊢
  have hl : lv_has ls 2 [(0, .ref r0), (1, .ref r1)] := hl
  generalize hR : (headSpec (jw yX14_beginDiagnostics cX14_beginDiagnostics 2 none) ({ frames := 12, cells := 0, slots := 0, locals := 462 })).room = R
  subst hH0
  have hh : jSt (dC, dI) B base G0 G0 EX14_beginDiagnostics s.heap 0 0 [] [] [] s.heap [] := jSt.start hX hP0 jMc.nil jIs.nil
  clear hX hP0
  have hk0 : (0 : Int32).toInt = 0 := by decide
  have hk1 : (1 : Int32).toInt = 1 := by decide
  have hly_14_0 := htw (u_lay RX12 TX12 0) (jWc_wsX120 _ (u_in_lay (by decide)))
  have hly_14_1 := htw (u_lay RX12 TX12 1) (jWc_wsX120 _ (u_in_lay (by decide)))
  have hly_14_2 := htw (u_lay RX12 TX12 2) (jWc_wsX120 _ (u_in_lay (by decide)))
  have hly_16_6 := htw (u_lay RX14 TX14 6) (jWc_wsX140 _ (u_in_lay (by decide)))
  have hlk_160 := (htw (.fieldLink RX14 160 "ProofServerModel" "framed" "I") (jWr_53 _ (List.mem_of_getElem? (i := 18) rfl)))
  obtain ⟨str722, rstr722, hstr7220⟩ := hG.str (o := RX14) (k := 722) (tx := "{\"jsonrpc\":\"2.0\",\"method\":\"textDocument/publishDiagnostics\",\"params\":{\"uri\":") (List.mem_of_getElem? (i := 2523) (by decide +kernel))
  have hstr722 : jStr base str722 76 s s.heap := hstr7220
  have hlk_511 := (va_Nw.use (A := ([.ref r0, .ref r1] : List Value).toArray) rfl (hG.2.1 RX14 511 "ProofServerModel$Document" "uri" "[I" "ProofServerModel" (List.mem_of_getElem? (i := 1731) (by decide +kernel))))
  have hlk_508 := (va_Nw.use (A := ([.ref r0, .ref r1] : List Value).toArray) rfl (hG.2.1 RX14 508 "ProofServerModel$Document" "uriLength" "I" "ProofServerModel" (List.mem_of_getElem? (i := 1732) (by decide +kernel))))
  obtain ⟨str724, rstr724, hstr7240⟩ := hG.str (o := RX14) (k := 724) (tx := ",\"version\":") (List.mem_of_getElem? (i := 2524) (by decide +kernel))
  have hstr724 : jStr base str724 11 s s.heap := hstr7240
  have hlk_524 := (va_Nw.use (A := ([.ref r0, .ref r1] : List Value).toArray) rfl (hG.2.1 RX14 524 "ProofServerModel$Document" "version" "I" "ProofServerModel" (List.mem_of_getElem? (i := 1733) (by decide +kernel))))
  obtain ⟨str726, rstr726, hstr7260⟩ := hG.str (o := RX14) (k := 726) (tx := ",\"diagnostics\":[") (List.mem_of_getElem? (i := 2525) (by decide +kernel))
  have hstr726 : jStr base str726 16 s s.heap := hstr7260
  refine lv_aload_n hx hb dX14_beginDiagnostics_0 rfl (lv_at hl 0 rfl) ?_
  refine lv_iconst (v := 0) hx hb dX14_beginDiagnostics_1 (by decide) ?_
  refine j7_put hx hb hown hK hh hB hAp hB16 (C := RX14) (T := TX14) (N := 74) rfl (by decide) hg_r0 (i := 6) (by decide) hly_16_6 rfl hlk_160 rfl (ty := .int) (v := .int 0) (by decide +kernel) rfl rfl (⟨_, rfl, by omega, by omega⟩) rfl (L1 := []) [] rfl rfl rfl dX14_beginDiagnostics_2 (fun H_1 locs_1 hh_1 => ?_)
  clear hh
  refine lv_aload_n hx hb dX14_beginDiagnostics_5 rfl (lv_at hl 0 rfl) ?_
  refine j_ldcSw hx hb hown rstr722 dX14_beginDiagnostics_6 ?_
  refine va_callv (A0 := jA base) (H0 := s.heap) (va_runV (As := [.ref str722]) (rest := []) ⟨hx, hb, hml, hown, hts⟩ (uX14_word l dC dI ca base B hB hAp hB16 hB101 G0 H_1 r0 str722 76 0) (cwV 1 hts (jgV (jWr_53 _ (List.mem_of_getElem? (i := 22) rfl)) (jWr_53 _ (List.mem_of_getElem? (i := 23) rfl)) (jWr_54 _ (List.mem_of_getElem? (i := 0) rfl)) (jWr_1 _ (List.mem_of_getElem? (i := 5) rfl)) (jWr_54 _ (List.mem_of_getElem? (i := 1) rfl))) rfl rfl rfl (by decide +kernel) ⟨by rw [← hR]; exact Nat.le_of_ble_eq_true rfl, by rw [← hR]; exact Nat.le_of_ble_eq_true rfl⟩) ⟨fun a U g mk q => by obtain ⟨q0, q1, q2, qK, q10, q11, q12, q13⟩ := q; exact ⟨q0, q1, q2, jG.calling g mk a qK, (q10.moved (Vm.Alike.refl U.vm)), q11, q12, q13⟩, hh_1.recv (C := RX14) (T := TX14) (N := 74) hB16 rfl (by decide) hg_r0 hK, fun U hU hW => ⟨rfl, hU, hh_1.2.1, hG.step hW hU hh_1.1, (hstr722.moved hW.alike).kept hh_1.1.2.1, hg_r0, (hh_1.2.2.1.sub (L1 := [(r0, 16, 6, .int 0)]) [0] rfl), by first | omega | (refine ⟨?_, ?_, ?_⟩ <;> (first | omega | rfl | assumption | decide | exact Or.inl rfl | exact Or.inr rfl | (simp only; omega)))⟩⟩ rfl rfl hl.1 rfl (lv_room (Nat.le_of_ble_eq_true rfl)) dX14_beginDiagnostics_9 ⟨Nat.zero_le _, Nat.zero_le _⟩) hh_1.1 (fun q _ h => h) (fun q h => h) (fun u_2 t_2 H_2 locs_2 ht_2 hvm_2 hr_3 hb_2 hz_2 hk_2 hS_2 => ?_)
  obtain ⟨qf_2, rfl⟩ : ∃ z, z = u_2 := ⟨_, rfl⟩
  rw [ht_2] at hb_2
  obtain ⟨hb_21, hb_22, hb_23, hb_24, hb_25⟩ := hb_2
  have hh_2 : jSt (dC, dI) B base G0 G0 EX14_beginDiagnostics s.heap 0 0 [(r0, 16, 6, .int qf_2)] [] [] H_2 locs_2 := ((hh_1.call hb_21 hb_22 hb_23 hb_24 hS_2 rfl (L1 := []) [] rfl rfl (M1 := []) [] rfl rfl (I1 := []) [] rfl rfl).more hb_25)
  clear hh_1 ht_2 hvm_2 hz_2 hk_2 hS_2 hb_21 hb_22 hb_23 hb_24 hb_25
  obtain ⟨hr_3_0, hr_3_1⟩ := hr_3
  refine lv_aload_n hx hb dX14_beginDiagnostics_12 rfl (lv_at hl 0 rfl) ?_
  refine lv_aload_n hx hb dX14_beginDiagnostics_13 rfl (lv_at hl 1 rfl) ?_
  obtain ⟨v_4, hv_4, hh_5⟩ := hh_2.pin (C := RX12) (T := TX12) (N := 11) hB14 rfl (by decide) hg_r1 (i := 0) (by decide) rfl
  clear hh_2
  obtain ⟨uri_6, rfl, hg_uri_6⟩ := hv_4
  refine j7_readN hx hb hown hK (C := RX12) (T := TX12) (N := 11) rfl hly_14_0 hlk_511 (hh_5.at 0 rfl) dX14_beginDiagnostics_14 ?_
  refine lv_iconst (v := 0) hx hb dX14_beginDiagnostics_17 (by decide) ?_
  refine lv_aload_n hx hb dX14_beginDiagnostics_18 rfl (lv_at hl 1 rfl) ?_
  obtain ⟨v_7, hv_7, hh_8⟩ := hh_5.pin (C := RX12) (T := TX12) (N := 11) hB14 rfl (by decide) hg_r1 (i := 1) (by decide) rfl
  clear hh_5
  obtain ⟨uriLength_9, rfl, hlouriLength_9, hhiuriLength_9⟩ := hv_7
  refine j7_readN hx hb hown hK (C := RX12) (T := TX12) (N := 11) rfl hly_14_1 hlk_508 (hh_8.at 0 rfl) dX14_beginDiagnostics_19 ?_
  refine va_callv (A0 := jA base) (H0 := s.heap) (va_runV (As := [.ref uri_6, .int 0, .int uriLength_9]) (rest := []) ⟨hx, hb, hml, hown, hts⟩ (uX14_string l dC dI ca base B hB hAp hB16 hB101 G0 H_2 r0 uri_6 0 uriLength_9 40 qf_2) (cwV 3 hts (jgV (jWr_54 _ (List.mem_of_getElem? (i := 6) rfl)) (jWr_54 _ (List.mem_of_getElem? (i := 7) rfl)) (jWr_54 _ (List.mem_of_getElem? (i := 8) rfl)) (jWr_1 _ (List.mem_of_getElem? (i := 5) rfl)) (jWr_54 _ (List.mem_of_getElem? (i := 9) rfl))) rfl rfl rfl (by decide +kernel) ⟨by rw [← hR]; exact Nat.le_of_ble_eq_true rfl, by rw [← hR]; exact Nat.le_of_ble_eq_true rfl⟩) ⟨fun a U g mk q => by obtain ⟨q0, q1, q2, qK, q10, q11, q12, q13⟩ := q; exact ⟨q0, q1, q2, jG.calling g mk a qK, q10, q11, q12, q13⟩, hh_8.recv (C := RX14) (T := TX14) (N := 74) hB16 rfl (by decide) hg_r0 hK, fun U hU hW => ⟨rfl, hU, hh_8.2.1, hG.step hW hU hh_8.1, hg_uri_6, hg_r0, (hh_8.2.2.1.sub (L1 := [(r0, 16, 6, .int qf_2)]) [2] rfl), by first | omega | (refine ⟨?_, ?_, ?_, ?_, ?_⟩ <;> (first | omega | rfl | assumption | decide | exact Or.inl rfl | exact Or.inr rfl | (simp only; omega)))⟩⟩ rfl rfl hl.1 rfl (lv_room (Nat.le_of_ble_eq_true rfl)) dX14_beginDiagnostics_22 ⟨Nat.zero_le _, Nat.zero_le _⟩) hh_8.1 (fun q _ h => h) (fun q h => h) (fun u_10 t_10 H_10 locs_10 ht_10 hvm_10 hr_11 hb_10 hz_10 hk_10 hS_10 => ?_)
  obtain ⟨qf_10, rfl⟩ : ∃ z, z = u_10 := ⟨_, rfl⟩
  rw [ht_10] at hb_10
  obtain ⟨hb_101, hb_102, hb_103, hb_104, hb_105⟩ := hb_10
  have hh_10 : jSt (dC, dI) B base G0 G0 EX14_beginDiagnostics s.heap 0 0 [(r0, 16, 6, .int qf_10), (r1, 14, 1, .int uriLength_9), (r1, 14, 0, .ref uri_6)] [] [] H_10 locs_10 := ((hh_8.call hb_101 hb_102 hb_103 hb_104 hS_10 rfl (L1 := [(r1, 14, 1, .int uriLength_9), (r1, 14, 0, .ref uri_6)]) [0, 1] rfl rfl (M1 := []) [] rfl rfl (I1 := []) [] rfl rfl).more hb_105)
  clear hh_8 ht_10 hvm_10 hz_10 hk_10 hS_10 hb_101 hb_102 hb_103 hb_104 hb_105
  obtain ⟨hr_11_0, hr_11_1⟩ := hr_11
  refine lv_aload_n hx hb dX14_beginDiagnostics_25 rfl (lv_at hl 0 rfl) ?_
  refine j_ldcSw hx hb hown rstr724 dX14_beginDiagnostics_26 ?_
  refine va_callv (A0 := jA base) (H0 := s.heap) (va_runV (As := [.ref str724]) (rest := []) ⟨hx, hb, hml, hown, hts⟩ (uX14_word l dC dI ca base B hB hAp hB16 hB101 G0 H_10 r0 str724 11 qf_10) (cwV 1 hts (jgV (jWr_53 _ (List.mem_of_getElem? (i := 22) rfl)) (jWr_53 _ (List.mem_of_getElem? (i := 23) rfl)) (jWr_54 _ (List.mem_of_getElem? (i := 0) rfl)) (jWr_1 _ (List.mem_of_getElem? (i := 5) rfl)) (jWr_54 _ (List.mem_of_getElem? (i := 1) rfl))) rfl rfl rfl (by decide +kernel) ⟨by rw [← hR]; exact Nat.le_of_ble_eq_true rfl, by rw [← hR]; exact Nat.le_of_ble_eq_true rfl⟩) ⟨fun a U g mk q => by obtain ⟨q0, q1, q2, qK, q10, q11, q12, q13⟩ := q; exact ⟨q0, q1, q2, jG.calling g mk a qK, (q10.moved (Vm.Alike.refl U.vm)), q11, q12, q13⟩, hh_10.recv (C := RX14) (T := TX14) (N := 74) hB16 rfl (by decide) hg_r0 hK, fun U hU hW => ⟨rfl, hU, hh_10.2.1, hG.step hW hU hh_10.1, (hstr724.moved hW.alike).kept hh_10.1.2.1, hg_r0, (hh_10.2.2.1.sub (L1 := [(r0, 16, 6, .int qf_10)]) [0] rfl), by first | omega | (refine ⟨?_, ?_, ?_⟩ <;> (first | omega | rfl | assumption | decide | exact Or.inl rfl | exact Or.inr rfl | (simp only; omega)))⟩⟩ rfl rfl hl.1 rfl (lv_room (Nat.le_of_ble_eq_true rfl)) dX14_beginDiagnostics_29 ⟨Nat.zero_le _, Nat.zero_le _⟩) hh_10.1 (fun q _ h => h) (fun q h => h) (fun u_12 t_12 H_12 locs_12 ht_12 hvm_12 hr_13 hb_12 hz_12 hk_12 hS_12 => ?_)
  obtain ⟨qf_12, rfl⟩ : ∃ z, z = u_12 := ⟨_, rfl⟩
  rw [ht_12] at hb_12
  obtain ⟨hb_121, hb_122, hb_123, hb_124, hb_125⟩ := hb_12
  have hh_12 : jSt (dC, dI) B base G0 G0 EX14_beginDiagnostics s.heap 0 0 [(r0, 16, 6, .int qf_12), (r1, 14, 1, .int uriLength_9), (r1, 14, 0, .ref uri_6)] [] [] H_12 locs_12 := ((hh_10.call hb_121 hb_122 hb_123 hb_124 hS_12 rfl (L1 := [(r1, 14, 1, .int uriLength_9), (r1, 14, 0, .ref uri_6)]) [1, 2] rfl rfl (M1 := []) [] rfl rfl (I1 := []) [] rfl rfl).more hb_125)
  clear hh_10 ht_12 hvm_12 hz_12 hk_12 hS_12 hb_121 hb_122 hb_123 hb_124 hb_125
  obtain ⟨hr_13_0, hr_13_1⟩ := hr_13
  refine lv_aload_n hx hb dX14_beginDiagnostics_32 rfl (lv_at hl 0 rfl) ?_
  refine lv_aload_n hx hb dX14_beginDiagnostics_33 rfl (lv_at hl 1 rfl) ?_
  obtain ⟨v_14, hv_14, hh_15⟩ := hh_12.pin (C := RX12) (T := TX12) (N := 11) hB14 rfl (by decide) hg_r1 (i := 2) (by decide) rfl
  clear hh_12
  obtain ⟨version_16, rfl⟩ := hv_14
  refine j7_readN hx hb hown hK (C := RX12) (T := TX12) (N := 11) rfl hly_14_2 hlk_524 (hh_15.at 0 rfl) dX14_beginDiagnostics_34 ?_
  refine va_callv (A0 := jA base) (H0 := s.heap) (va_runV (As := [.int version_16]) (rest := []) ⟨hx, hb, hml, hown, hts⟩ (uX14_number l dC dI ca base B hB hAp hB16 hB101 G0 H_12 r0 version_16 qf_12) (cwV 1 hts (jgV (jWr_54 _ (List.mem_of_getElem? (i := 18) rfl)) (jWr_54 _ (List.mem_of_getElem? (i := 19) rfl)) (jWr_54 _ (List.mem_of_getElem? (i := 20) rfl)) (jWr_1 _ (List.mem_of_getElem? (i := 5) rfl)) (jWr_54 _ (List.mem_of_getElem? (i := 21) rfl))) rfl rfl rfl (by decide +kernel) ⟨by rw [← hR]; exact Nat.le_of_ble_eq_true rfl, by rw [← hR]; exact Nat.le_of_ble_eq_true rfl⟩) ⟨fun a U g mk q => by obtain ⟨q0, q1, q2, qK, q10, q11, q12⟩ := q; exact ⟨q0, q1, q2, jG.calling g mk a qK, q10, q11, q12⟩, hh_15.recv (C := RX14) (T := TX14) (N := 74) hB16 rfl (by decide) hg_r0 hK, fun U hU hW => ⟨rfl, hU, hh_15.2.1, hG.step hW hU hh_15.1, hg_r0, (hh_15.2.2.1.sub (L1 := [(r0, 16, 6, .int qf_12)]) [1] rfl), by first | omega | (refine ⟨?_, ?_⟩ <;> (first | omega | rfl | assumption | decide | exact Or.inl rfl | exact Or.inr rfl | (simp only; omega)))⟩⟩ rfl rfl hl.1 rfl (lv_room (Nat.le_of_ble_eq_true rfl)) dX14_beginDiagnostics_37 ⟨Nat.zero_le _, Nat.zero_le _⟩) hh_15.1 (fun q _ h => h) (fun q h => h) (fun u_17 t_17 H_17 locs_17 ht_17 hvm_17 hr_18 hb_17 hz_17 hk_17 hS_17 => ?_)
  obtain ⟨qf_17, rfl⟩ : ∃ z, z = u_17 := ⟨_, rfl⟩
  rw [ht_17] at hb_17
  obtain ⟨hb_171, hb_172, hb_173, hb_174, hb_175⟩ := hb_17
  have hh_17 : jSt (dC, dI) B base G0 G0 EX14_beginDiagnostics s.heap 0 0 [(r0, 16, 6, .int qf_17), (r1, 14, 2, .int version_16), (r1, 14, 1, .int uriLength_9), (r1, 14, 0, .ref uri_6)] [] [] H_17 locs_17 := ((hh_15.call hb_171 hb_172 hb_173 hb_174 hS_17 rfl (L1 := [(r1, 14, 2, .int version_16), (r1, 14, 1, .int uriLength_9), (r1, 14, 0, .ref uri_6)]) [0, 2, 3] rfl rfl (M1 := []) [] rfl rfl (I1 := []) [] rfl rfl).more hb_175)
  clear hh_15 ht_17 hvm_17 hz_17 hk_17 hS_17 hb_171 hb_172 hb_173 hb_174 hb_175
  obtain ⟨hr_18_0, hr_18_1⟩ := hr_18
  refine lv_aload_n hx hb dX14_beginDiagnostics_40 rfl (lv_at hl 0 rfl) ?_
  refine j_ldcSw hx hb hown rstr726 dX14_beginDiagnostics_41 ?_
  refine va_callv (A0 := jA base) (H0 := s.heap) (va_runV (As := [.ref str726]) (rest := []) ⟨hx, hb, hml, hown, hts⟩ (uX14_word l dC dI ca base B hB hAp hB16 hB101 G0 H_17 r0 str726 16 qf_17) (cwV 1 hts (jgV (jWr_53 _ (List.mem_of_getElem? (i := 22) rfl)) (jWr_53 _ (List.mem_of_getElem? (i := 23) rfl)) (jWr_54 _ (List.mem_of_getElem? (i := 0) rfl)) (jWr_1 _ (List.mem_of_getElem? (i := 5) rfl)) (jWr_54 _ (List.mem_of_getElem? (i := 1) rfl))) rfl rfl rfl (by decide +kernel) ⟨by rw [← hR]; exact Nat.le_of_ble_eq_true rfl, by rw [← hR]; exact Nat.le_of_ble_eq_true rfl⟩) ⟨fun a U g mk q => by obtain ⟨q0, q1, q2, qK, q10, q11, q12, q13⟩ := q; exact ⟨q0, q1, q2, jG.calling g mk a qK, (q10.moved (Vm.Alike.refl U.vm)), q11, q12, q13⟩, hh_17.recv (C := RX14) (T := TX14) (N := 74) hB16 rfl (by decide) hg_r0 hK, fun U hU hW => ⟨rfl, hU, hh_17.2.1, hG.step hW hU hh_17.1, (hstr726.moved hW.alike).kept hh_17.1.2.1, hg_r0, (hh_17.2.2.1.sub (L1 := [(r0, 16, 6, .int qf_17)]) [0] rfl), by first | omega | (refine ⟨?_, ?_, ?_⟩ <;> (first | omega | rfl | assumption | decide | exact Or.inl rfl | exact Or.inr rfl | (simp only; omega)))⟩⟩ rfl rfl hl.1 rfl (lv_room (Nat.le_of_ble_eq_true rfl)) dX14_beginDiagnostics_44 ⟨Nat.zero_le _, Nat.zero_le _⟩) hh_17.1 (fun q _ h => h) (fun q h => h) (fun u_19 t_19 H_19 locs_19 ht_19 hvm_19 hr_20 hb_19 hz_19 hk_19 hS_19 => ?_)
  obtain ⟨qf_19, rfl⟩ : ∃ z, z = u_19 := ⟨_, rfl⟩
  rw [ht_19] at hb_19
  obtain ⟨hb_191, hb_192, hb_193, hb_194, hb_195⟩ := hb_19
  have hh_19 : jSt (dC, dI) B base G0 G0 EX14_beginDiagnostics s.heap 0 0 [(r0, 16, 6, .int qf_19), (r1, 14, 2, .int version_16), (r1, 14, 1, .int uriLength_9), (r1, 14, 0, .ref uri_6)] [] [] H_19 locs_19 := ((hh_17.call hb_191 hb_192 hb_193 hb_194 hS_19 rfl (L1 := [(r1, 14, 2, .int version_16), (r1, 14, 1, .int uriLength_9), (r1, 14, 0, .ref uri_6)]) [1, 2, 3] rfl rfl (M1 := []) [] rfl rfl (I1 := []) [] rfl rfl).more hb_195)
  clear hh_17 ht_19 hvm_19 hz_19 hk_19 hS_19 hb_191 hb_192 hb_193 hb_194 hb_195
  obtain ⟨hr_20_0, hr_20_1⟩ := hr_20
  rw [hQ]
  exact W.vret hx hb hr (fun t ht hW => ⟨⟨(), rfl, trivial, hh_19.rt (M1 := []) [] rfl ht⟩, by rw [ht]; try exact hh_19.1.1, fun q h9 hq => by rw [ht]; try exact hh_19.1.2.1 q h9 hq⟩) hh_19.1.2.2 dX14_beginDiagnostics_47
set_option maxHeartbeats 4000000 in
set_option maxRecDepth 20000 in
theorem uX14_endDiagnostics (l : Launch) (dC : Nat → ClassId) (dI : Nat → Nat → Nat) (ca : Nat → ClassId) (base : Nat) (B : jF) (hB : jBok B) (hAp : jAp (dC, dI)) (hB16 : ∀ n G a H, B 16 n G a H ↔ jOb (dC, dI) 16 74 (F16 n G) a H) (hB101 : ∀ n G a H, B 101 n G a H ↔ jAr (dC, dI) (ca 1) (fun j z => True) n a H) (G0 : jT) (H0 : Heap) (r0 : Nat) : Met l yX14_endDiagnostics (jw yX14_endDiagnostics cX14_endDiagnostics 1 none) ({ frames := 13, cells := 0, slots := 0, locals := 485 }) (va_Pc [.ref r0] (fun U => U.heap = H0 ∧ jX B base G0 [] H0 ∧ jG dC dI ca base U ∧ G0 r0 = some (16, 0) ∧ jP (dC, dI) G0 H0 [] ∧ True)) (va_Qv (S := Unit) (fun u => True) (fun u t => jRt (dC, dI) B base G0 EX14_endDiagnostics H0 [] t.heap) (jA base)) 0 0 (jA base) := by
  refine Met.ofW (cc := cX14_endDiagnostics) (maxL := 1) (ret := none) (by decide) rfl ?_
  intro p e s m args below meth c s₁ Bd hml hv
  obtain ⟨rfl, hH0, hX, hG, hg_r0, hP0, hp0⟩ := hv
  have hK := hG.1
  have hx := Bd.exec
  have hb := Bd.bytes
  have hr := Bd.returns
  have hts := atoms_spec (ws := (jw yX14_endDiagnostics cX14_endDiagnostics 1 none)) Bd.pre
  have htw : ∀ w ∈ jWl, w.before _ s = true := fun w h => hts w (List.mem_cons_of_mem _ h)
  have hown : s.vm.findClass RX14 = some m.cls := findClass_of_methodNamed Bd.named
  have hlocks := Bd.notSynchronized
  obtain ⟨Q, hQ⟩ : ∃ Q, Q = MQ below (va_Qv (S := Unit) (fun u => True) (fun u t => jRt (dC, dI) B base G0 EX14_endDiagnostics H0 [] t.heap) (jA base)) ([.ref r0] : List Value).toArray s 0 0 (jA base) := ⟨_, rfl⟩
  rw [← hQ]
  have hl := lv_entry ([.ref r0]) (n := 1) (Nat.le_of_ble_eq_true rfl)
  rw [lg_entry_eq]
  generalize (lg_sl ([.ref r0]) ++ List.replicate (1 - (lg_sl ([.ref r0])).length) Slot.unset).toArray = ls at hl ⊢
  have hl : lv_has ls 1 [(0, .ref r0)] := hl
  generalize hR : (headSpec (jw yX14_endDiagnostics cX14_endDiagnostics 1 none) ({ frames := 13, cells := 0, slots := 0, locals := 485 })).room = R
  subst hH0
  have hh : jSt (dC, dI) B base G0 G0 EX14_endDiagnostics s.heap 0 0 [] [] [] s.heap [] := jSt.start hX hP0 jMc.nil jIs.nil
  clear hX hP0
  have hk0 : (0 : Int32).toInt = 0 := by decide
  have hk1 : (1 : Int32).toInt = 1 := by decide
  obtain ⟨str728, rstr728, hstr7280⟩ := hG.str (o := RX14) (k := 728) (tx := "]}}") (List.mem_of_getElem? (i := 2554) (by decide +kernel))
  have hstr728 : jStr base str728 3 s s.heap := hstr7280
  refine lv_aload_n hx hb dX14_endDiagnostics_0 rfl (lv_at hl 0 rfl) ?_
  refine j_ldcSw hx hb hown rstr728 dX14_endDiagnostics_1 ?_
  obtain ⟨v_3, hv_3, hh_4⟩ := hh.pin (C := RX14) (T := TX14) (N := 74) hB16 rfl (by decide) hg_r0 (i := 6) (by decide) rfl
  obtain ⟨framed_5, rfl, hloframed_5, hhiframed_5⟩ := hv_3
  refine va_callv (A0 := jA base) (H0 := s.heap) (va_runV (As := [.ref str728]) (rest := []) ⟨hx, hb, hml, hown, hts⟩ (uX14_word l dC dI ca base B hB hAp hB16 hB101 G0 s.heap r0 str728 3 framed_5) (cwV 1 hts (jgV (jWr_53 _ (List.mem_of_getElem? (i := 22) rfl)) (jWr_53 _ (List.mem_of_getElem? (i := 23) rfl)) (jWr_54 _ (List.mem_of_getElem? (i := 0) rfl)) (jWr_1 _ (List.mem_of_getElem? (i := 5) rfl)) (jWr_54 _ (List.mem_of_getElem? (i := 1) rfl))) rfl rfl rfl (by decide +kernel) ⟨by rw [← hR]; exact Nat.le_of_ble_eq_true rfl, by rw [← hR]; exact Nat.le_of_ble_eq_true rfl⟩) ⟨fun a U g mk q => by obtain ⟨q0, q1, q2, qK, q10, q11, q12, q13⟩ := q; exact ⟨q0, q1, q2, jG.calling g mk a qK, (q10.moved (Vm.Alike.refl U.vm)), q11, q12, q13⟩, hh_4.recv (C := RX14) (T := TX14) (N := 74) hB16 rfl (by decide) hg_r0 hK, fun U hU hW => ⟨rfl, hU, hh_4.2.1, hG.step hW hU hh_4.1, (hstr728.moved hW.alike).kept hh_4.1.2.1, hg_r0, (hh_4.2.2.1.sub (L1 := [(r0, 16, 6, .int framed_5)]) [0] rfl), by first | omega | (refine ⟨?_, ?_, ?_⟩ <;> (first | omega | rfl | assumption | decide | exact Or.inl rfl | exact Or.inr rfl | (simp only; omega)))⟩⟩ rfl rfl hl.1 rfl (lv_room (Nat.le_of_ble_eq_true rfl)) dX14_endDiagnostics_4 ⟨Nat.zero_le _, Nat.zero_le _⟩) hh_4.1 (fun q _ h => h) (fun q h => h) (fun u_1 t_1 H_1 locs_1 ht_1 hvm_1 hr_2 hb_1 hz_1 hk_1 hS_1 => ?_)
  obtain ⟨qf_1, rfl⟩ : ∃ z, z = u_1 := ⟨_, rfl⟩
  rw [ht_1] at hb_1
  obtain ⟨hb_11, hb_12, hb_13, hb_14, hb_15⟩ := hb_1
  have hh_1 : jSt (dC, dI) B base G0 G0 EX14_endDiagnostics s.heap 0 0 [(r0, 16, 6, .int qf_1)] [] [] H_1 locs_1 := ((hh_4.call hb_11 hb_12 hb_13 hb_14 hS_1 rfl (L1 := []) [] rfl rfl (M1 := []) [] rfl rfl (I1 := []) [] rfl rfl).more hb_15)
  clear hh_4 ht_1 hvm_1 hz_1 hk_1 hS_1 hb_11 hb_12 hb_13 hb_14 hb_15
  obtain ⟨hr_2_0, hr_2_1⟩ := hr_2
  refine lv_aload_n hx hb dX14_endDiagnostics_7 rfl (lv_at hl 0 rfl) ?_
  refine va_callv (A0 := jA base) (H0 := s.heap) (va_runV (As := []) (rest := []) ⟨hx, hb, hml, hown, hts⟩ (uX14_send l dC dI ca base B hB hAp hB16 hB101 G0 H_1 r0) (cwV 0 hts (jgV (jWr_55 _ (List.mem_of_getElem? (i := 10) rfl)) (jWr_55 _ (List.mem_of_getElem? (i := 11) rfl)) (jWr_55 _ (List.mem_of_getElem? (i := 12) rfl)) (jWr_1 _ (List.mem_of_getElem? (i := 5) rfl)) (jWr_55 _ (List.mem_of_getElem? (i := 13) rfl))) rfl rfl rfl (by decide +kernel) ⟨by rw [← hR]; exact Nat.le_of_ble_eq_true rfl, by rw [← hR]; exact Nat.le_of_ble_eq_true rfl⟩) ⟨fun a U g mk q => by obtain ⟨q0, q1, q2, qK, q10, q11, q12⟩ := q; exact ⟨q0, q1, q2, jG.calling g mk a qK, q10, q11, q12⟩, hh_1.recv (C := RX14) (T := TX14) (N := 74) hB16 rfl (by decide) hg_r0 hK, fun U hU hW => ⟨rfl, hU, hh_1.2.1, hG.step hW hU hh_1.1, hg_r0, jP.nil, trivial⟩⟩ rfl rfl hl.1 rfl (lv_room (Nat.le_of_ble_eq_true rfl)) dX14_endDiagnostics_8 ⟨Nat.zero_le _, Nat.zero_le _⟩) hh_1.1 (fun q _ h => h) (fun q h => h) (fun u_6 t_6 H_6 locs_6 ht_6 hvm_6 hr_7 hb_6 hz_6 hk_6 hS_6 => ?_)
  rw [ht_6] at hb_6
  obtain ⟨hb_61, hb_62, hb_63, hb_64, hb_65⟩ := hb_6
  have hh_6 : jSt (dC, dI) B base G0 G0 EX14_endDiagnostics s.heap 0 0 [] [] [] H_6 locs_6 := ((hh_1.call hb_61 hb_62 hb_63 hb_64 hS_6 rfl (L1 := []) [] rfl rfl (M1 := []) [] rfl rfl (I1 := []) [] rfl rfl).more hb_65)
  clear hh_1 ht_6 hvm_6 hz_6 hk_6 hS_6 hb_61 hb_62 hb_63 hb_64 hb_65
  rw [hQ]
  exact W.vret hx hb hr (fun t ht hW => ⟨⟨(), rfl, trivial, hh_6.rt (M1 := []) [] rfl ht⟩, by rw [ht]; try exact hh_6.1.1, fun q h9 hq => by rw [ht]; try exact hh_6.1.2.1 q h9 hq⟩) hh_6.1.2.2 dX14_endDiagnostics_11
set_option maxHeartbeats 4000000 in
set_option maxRecDepth 20000 in
theorem uX14_putLine (l : Launch) (dC : Nat → ClassId) (dI : Nat → Nat → Nat) (ca : Nat → ClassId) (base : Nat) (B : jF) (hB : jBok B) (hAp : jAp (dC, dI)) (hB15 : ∀ n G a H, B 15 n G a H ↔ jOb (dC, dI) 15 50 (F15 n G) a H) (hB16 : ∀ n G a H, B 16 n G a H ↔ jOb (dC, dI) 16 74 (F16 n G) a H) (hB101 : ∀ n G a H, B 101 n G a H ↔ jAr (dC, dI) (ca 1) (fun j z => True) n a H) (G0 : jT) (H0 : Heap) (r0 : Nat) (a1 : Int32) : Met l yX14_putLine (jw yX14_putLine cX14_putLine 2 none) ({ frames := 6, cells := 0, slots := 0, locals := 189 }) (va_Pc [.ref r0, .int a1] (fun U => U.heap = H0 ∧ jX B base G0 [] H0 ∧ jG dC dI ca base U ∧ G0 r0 = some (16, 0) ∧ jP (dC, dI) G0 H0 [] ∧ 0 ≤ a1.toInt ∧ a1.toInt ≤ 100000)) (va_Qv (S := Unit) (fun u => True) (fun u t => jRt (dC, dI) B base G0 EX14_putLine H0 [] t.heap) (jA base)) 0 0 (jA base) := by
  refine Met.ofW (cc := cX14_putLine) (maxL := 2) (ret := none) (by decide) rfl ?_
  intro p e s m args below meth c s₁ Bd hml hv
  obtain ⟨rfl, hH0, hX, hG, hg_r0, hP0, hp0, hp1⟩ := hv
  have hK := hG.1
  have hx := Bd.exec
  have hb := Bd.bytes
  have hr := Bd.returns
  have hts := atoms_spec (ws := (jw yX14_putLine cX14_putLine 2 none)) Bd.pre
  have htw : ∀ w ∈ jWl, w.before _ s = true := fun w h => hts w (List.mem_cons_of_mem _ h)
  have hown : s.vm.findClass RX14 = some m.cls := findClass_of_methodNamed Bd.named
  have hlocks := Bd.notSynchronized
  obtain ⟨Q, hQ⟩ : ∃ Q, Q = MQ below (va_Qv (S := Unit) (fun u => True) (fun u t => jRt (dC, dI) B base G0 EX14_putLine H0 [] t.heap) (jA base)) ([.ref r0, .int a1] : List Value).toArray s 0 0 (jA base) := ⟨_, rfl⟩
  rw [← hQ]
  have hl := lv_entry ([.ref r0, .int a1]) (n := 2) (Nat.le_of_ble_eq_true rfl)
  rw [lg_entry_eq]
  generalize (lg_sl ([.ref r0, .int a1]) ++ List.replicate (2 - (lg_sl ([.ref r0, .int a1])).length) Slot.unset).toArray = ls at hl ⊢
  have hl : lv_has ls 2 [(0, .ref r0), (1, .int a1)] := hl
  generalize hR : (headSpec (jw yX14_putLine cX14_putLine 2 none) ({ frames := 6, cells := 0, slots := 0, locals := 189 })).room = R
  subst hH0
  have hh : jSt (dC, dI) B base G0 G0 EX14_putLine s.heap 0 0 [] [] [] s.heap [] := jSt.start hX hP0 jMc.nil jIs.nil
  clear hX hP0
  have hk0 : (0 : Int32).toInt = 0 := by decide
  have hk1 : (1 : Int32).toInt = 1 := by decide
  have hly_15_45 := htw (u_lay RX13 TX13 45) (jWc_wsX130 _ (u_in_lay (by decide)))
  have hly_15_46 := htw (u_lay RX13 TX13 46) (jWc_wsX130 _ (u_in_lay (by decide)))
  have hly_16_58 := htw (u_lay RX14 TX14 58) (jWc_wsX140 _ (u_in_lay (by decide)))
  have hlk_122 := (htw (.fieldLink RX14 122 "ProofServerModel" "kernel" "LProofServerModel$Kernel;") (jWr_12 _ (List.mem_of_getElem? (i := 13) rfl)))
  have hlk_632 := (va_Nw.use (A := ([.ref r0, .int a1] : List Value).toArray) rfl (hG.2.1 RX14 632 "ProofServerModel$Kernel" "line" "[I" "ProofServerModel" (List.mem_of_getElem? (i := 1838) (by decide +kernel))))
  have hlk_634 := (va_Nw.use (A := ([.ref r0, .int a1] : List Value).toArray) rfl (hG.2.1 RX14 634 "ProofServerModel$Kernel" "lines" "I" "ProofServerModel" (List.mem_of_getElem? (i := 1840) (by decide +kernel))))
  have hrg_a1 := jb_rng a1
  refine lv_aload_n hx hb dX14_putLine_0 rfl (lv_at hl 0 rfl) ?_
  refine lv_aload_n hx hb dX14_putLine_1 rfl (lv_at hl 0 rfl) ?_
  obtain ⟨v_1, hv_1, hh_2⟩ := hh.pin (C := RX14) (T := TX14) (N := 74) hB16 rfl (by decide) hg_r0 (i := 58) (by decide) rfl
  clear hh
  obtain ⟨kernel_3, rfl, hg_kernel_3⟩ := hv_1
  refine j7_read hx hb hown hK (C := RX14) (T := TX14) (N := 74) rfl hly_16_58 hlk_122 (hh_2.at 0 rfl) dX14_putLine_2 ?_
  obtain ⟨v_4, hv_4, hh_5⟩ := hh_2.pin (C := RX13) (T := TX13) (N := 50) hB15 rfl (by decide) hg_kernel_3 (i := 45) (by decide) rfl
  clear hh_2
  obtain ⟨line_6, rfl, hg_line_6⟩ := hv_4
  refine j7_readN hx hb hown hK (C := RX13) (T := TX13) (N := 50) rfl hly_15_45 hlk_632 (hh_5.at 0 rfl) dX14_putLine_5 ?_
  refine lv_iload_n hx hb dX14_putLine_8 rfl (lv_at hl 1 rfl) ?_
  refine lv_aload_n hx hb dX14_putLine_9 rfl (lv_at hl 0 rfl) ?_
  refine j7_read hx hb hown hK (C := RX14) (T := TX14) (N := 74) rfl hly_16_58 hlk_122 (hh_5.at 1 rfl) dX14_putLine_10 ?_
  obtain ⟨v_7, hv_7, hh_8⟩ := hh_5.pin (C := RX13) (T := TX13) (N := 50) hB15 rfl (by decide) hg_kernel_3 (i := 46) (by decide) rfl
  clear hh_5
  obtain ⟨lines_9, rfl, hlolines_9, hhilines_9⟩ := hv_7
  refine j7_readN hx hb hown hK (C := RX13) (T := TX13) (N := 50) rfl hly_15_46 hlk_634 (hh_8.at 0 rfl) dX14_putLine_13 ?_
  obtain ⟨v_12, hv_12, hh_13⟩ := hh_8.pin (C := RX14) (T := TX14) (N := 74) hB16 rfl (by decide) hg_r0 (i := 6) (by decide) rfl
  obtain ⟨framed_14, rfl, hloframed_14, hhiframed_14⟩ := hv_12
  refine va_callv (A0 := jA base) (H0 := s.heap) (va_runV (As := [.ref line_6, .int a1, .int lines_9]) (rest := []) ⟨hx, hb, hml, hown, hts⟩ (uX14_string l dC dI ca base B hB hAp hB16 hB101 G0 s.heap r0 line_6 a1 lines_9 100000 framed_14) (cwV 3 hts (jgV (jWr_54 _ (List.mem_of_getElem? (i := 6) rfl)) (jWr_54 _ (List.mem_of_getElem? (i := 7) rfl)) (jWr_54 _ (List.mem_of_getElem? (i := 8) rfl)) (jWr_1 _ (List.mem_of_getElem? (i := 5) rfl)) (jWr_54 _ (List.mem_of_getElem? (i := 9) rfl))) rfl rfl rfl (by decide +kernel) ⟨by rw [← hR]; exact Nat.le_of_ble_eq_true rfl, by rw [← hR]; exact Nat.le_of_ble_eq_true rfl⟩) ⟨fun a U g mk q => by obtain ⟨q0, q1, q2, qK, q10, q11, q12, q13⟩ := q; exact ⟨q0, q1, q2, jG.calling g mk a qK, q10, q11, q12, q13⟩, hh_13.recv (C := RX14) (T := TX14) (N := 74) hB16 rfl (by decide) hg_r0 hK, fun U hU hW => ⟨rfl, hU, hh_13.2.1, hG.step hW hU hh_13.1, hg_line_6, hg_r0, (hh_13.2.2.1.sub (L1 := [(r0, 16, 6, .int framed_14)]) [0] rfl), by first | omega | (refine ⟨?_, ?_, ?_, ?_, ?_⟩ <;> (first | omega | rfl | assumption | decide | exact Or.inl rfl | exact Or.inr rfl | (simp only; omega)))⟩⟩ rfl rfl hl.1 rfl (lv_room (Nat.le_of_ble_eq_true rfl)) dX14_putLine_16 ⟨Nat.zero_le _, Nat.zero_le _⟩) hh_13.1 (fun q _ h => h) (fun q h => h) (fun u_10 t_10 H_10 locs_10 ht_10 hvm_10 hr_11 hb_10 hz_10 hk_10 hS_10 => ?_)
  obtain ⟨qf_10, rfl⟩ : ∃ z, z = u_10 := ⟨_, rfl⟩
  rw [ht_10] at hb_10
  obtain ⟨hb_101, hb_102, hb_103, hb_104, hb_105⟩ := hb_10
  have hh_10 : jSt (dC, dI) B base G0 G0 EX14_putLine s.heap 0 0 [(r0, 16, 6, .int qf_10), (kernel_3, 15, 46, .int lines_9), (kernel_3, 15, 45, .ref line_6), (r0, 16, 58, .ref kernel_3)] [] [] H_10 locs_10 := ((hh_13.call hb_101 hb_102 hb_103 hb_104 hS_10 rfl (L1 := [(kernel_3, 15, 46, .int lines_9), (kernel_3, 15, 45, .ref line_6), (r0, 16, 58, .ref kernel_3)]) [1, 2, 3] rfl rfl (M1 := []) [] rfl rfl (I1 := []) [] rfl rfl).more hb_105)
  clear hh_13 ht_10 hvm_10 hz_10 hk_10 hS_10 hb_101 hb_102 hb_103 hb_104 hb_105
  obtain ⟨hr_11_0, hr_11_1⟩ := hr_11
  refine lv_aload_n hx hb dX14_putLine_19 rfl (lv_at hl 0 rfl) ?_
  refine j7_read hx hb hown hK (C := RX14) (T := TX14) (N := 74) rfl hly_16_58 hlk_122 (hh_10.at 3 rfl) dX14_putLine_20 ?_
  refine lv_iload_n hx hb dX14_putLine_23 rfl (lv_at hl 1 rfl) ?_
  refine j7_putN hx hb hown hK hh_10 hB hAp hB15 (C := RX13) (T := TX13) (N := 50) rfl (by decide) hg_kernel_3 (i := 46) (by decide) hly_15_46 rfl hlk_634 rfl (ty := .int) (v := .int a1) (by decide +kernel) rfl rfl (⟨_, rfl, by omega, by omega⟩) rfl (L1 := [(r0, 16, 6, .int qf_10), (kernel_3, 15, 45, .ref line_6), (r0, 16, 58, .ref kernel_3)]) [0, 2, 3] rfl rfl rfl dX14_putLine_24 (fun H_15 locs_15 hh_15 => ?_)
  clear hh_10
  rw [hQ]
  exact W.vret hx hb hr (fun t ht hW => ⟨⟨(), rfl, trivial, hh_15.rt (M1 := []) [] rfl ht⟩, by rw [ht]; try exact hh_15.1.1, fun q h9 hq => by rw [ht]; try exact hh_15.1.2.1 q h9 hq⟩) hh_15.1.2.2 dX14_putLine_27
set_option maxHeartbeats 4000000 in
set_option maxRecDepth 20000 in
theorem uX14_settleChecks (l : Launch) (dC : Nat → ClassId) (dI : Nat → Nat → Nat) (ca : Nat → ClassId) (base : Nat) (B : jF) (hB : jBok B) (hAp : jAp (dC, dI)) (hB14 : ∀ n G a H, B 14 n G a H ↔ jOb (dC, dI) 14 11 (F14 n G) a H) (hB16 : ∀ n G a H, B 16 n G a H ↔ jOb (dC, dI) 16 74 (F16 n G) a H) (hB101 : ∀ n G a H, B 101 n G a H ↔ jAr (dC, dI) (ca 1) (fun j z => True) n a H) (hB190 : ∀ n G a H, B 190 n G a H ↔ jAr (dC, dI) (ca 1) (fun j z => 0 ≤ z.toInt ∧ z.toInt ≤ 1500) n a H) (hB191 : ∀ n G a H, B 191 n G a H ↔ jAr (dC, dI) (ca 1) (fun j z => 0 ≤ z.toInt ∧ z.toInt ≤ 1500) n a H) (hB192 : ∀ n G a H, B 192 n G a H ↔ jAr (dC, dI) (ca 1) (fun j z => 0 ≤ z.toInt ∧ z.toInt ≤ 2) n a H) (hB207 : ∀ n G a H, B 207 n G a H ↔ jAr (dC, dI) (ca 1) (fun j z => 0 ≤ z.toInt ∧ z.toInt ≤ 39) n a H) (hB208 : ∀ n G a H, B 208 n G a H ↔ jAq (dC, dI) (ca 4) (jQn 14 0) n G a H) (G0 : jT) (H0 : Heap) (r0 : Nat) (r1 : Nat) (a2 : Int32) : Met l yX14_settleChecks (jw yX14_settleChecks cX14_settleChecks 4 none) ({ frames := 4, cells := 0, slots := 0, locals := 94 }) (va_Pc [.ref r0, .ref r1, .int a2] (fun U => U.heap = H0 ∧ jX B base G0 [] H0 ∧ jG dC dI ca base U ∧ jK2 dC dI ca U ∧ G0 r1 = some (14, 0) ∧ G0 r0 = some (16, 0) ∧ jP (dC, dI) G0 H0 [] ∧ 0 ≤ a2.toInt ∧ a2.toInt ≤ 40)) (va_Qv (S := Unit) (fun u => True) (fun u t => jRt (dC, dI) B base G0 EX14_settleChecks H0 [] t.heap) (jA base)) 0 0 (jA base) := by
  refine Met.ofW (cc := cX14_settleChecks) (maxL := 4) (ret := none) (by decide) rfl ?_
  intro p e s m args below meth c s₁ Bd hml hv
  obtain ⟨rfl, hH0, hX, hG, hK2, hg_r1, hg_r0, hP0, hp0, hp1⟩ := hv
  have hK := hG.1
  have hx := Bd.exec
  have hb := Bd.bytes
  have hr := Bd.returns
  have hts := atoms_spec (ws := (jw yX14_settleChecks cX14_settleChecks 4 none)) Bd.pre
  have htw : ∀ w ∈ jWl, w.before _ s = true := fun w h => hts w (List.mem_cons_of_mem _ h)
  have hown : s.vm.findClass RX14 = some m.cls := findClass_of_methodNamed Bd.named
  have hlocks := Bd.notSynchronized
  obtain ⟨Q, hQ⟩ : ∃ Q, Q = MQ below (va_Qv (S := Unit) (fun u => True) (fun u t => jRt (dC, dI) B base G0 EX14_settleChecks H0 [] t.heap) (jA base)) ([.ref r0, .ref r1, .int a2] : List Value).toArray s 0 0 (jA base) := ⟨_, rfl⟩
  rw [← hQ]
  have hl := lv_entry ([.ref r0, .ref r1, .int a2]) (n := 4) (Nat.le_of_ble_eq_true rfl)
  rw [lg_entry_eq]
  generalize (lg_sl ([.ref r0, .ref r1, .int a2]) ++ List.replicate (4 - (lg_sl ([.ref r0, .ref r1, .int a2])).length) Slot.unset).toArray = ls at hl ⊢
  have hl : lv_has ls 4 [(0, .ref r0), (1, .ref r1), (2, .int a2)] := hl
  generalize hR : (headSpec (jw yX14_settleChecks cX14_settleChecks 4 none) ({ frames := 4, cells := 0, slots := 0, locals := 94 })).room = R
  subst hH0
  have hh : jSt (dC, dI) B base G0 G0 EX14_settleChecks s.heap 0 0 [] [] [] s.heap [] := jSt.start hX hP0 jMc.nil jIs.nil
  clear hX hP0
  have hk0 : (0 : Int32).toInt = 0 := by decide
  have hk1 : (1 : Int32).toInt = 1 := by decide
  have hk2 : (2 : Int32).toInt = 2 := by decide
  have hly_14_9 := htw (u_lay RX12 TX12 9) (jWc_wsX120 _ (u_in_lay (by decide)))
  have hly_16_60 := htw (u_lay RX14 TX14 60) (jWc_wsX140 _ (u_in_lay (by decide)))
  have hly_16_61 := htw (u_lay RX14 TX14 61) (jWc_wsX140 _ (u_in_lay (by decide)))
  have hlk_531 := (va_Nw.use (A := ([.ref r0, .ref r1, .int a2] : List Value).toArray) rfl (hG.2.1 RX14 531 "ProofServerModel$Document" "checked" "I" "ProofServerModel" (List.mem_of_getElem? (i := 1744) (by decide +kernel))))
  have hlk_129 := (htw (.fieldLink RX14 129 "ProofServerModel" "checkOf" "[LProofServerModel$Document;") (jWr_12 _ (List.mem_of_getElem? (i := 15) rfl)))
  have hlk_132 := (htw (.fieldLink RX14 132 "ProofServerModel" "checkSentence" "[I") (jWr_12 _ (List.mem_of_getElem? (i := 16) rfl)))
  have hrg_a2 := jb_rng a2
  refine lv_aload_n hx hb dX14_settleChecks_0 rfl (lv_at hl 1 rfl) ?_
  refine va_callv (A0 := jA base) (H0 := s.heap) (va_runS (As := [.ref r1]) (rest := []) ⟨hx, hb, hml, hown, hts⟩ (uX14_part l dC dI ca base B hB hAp hB14 hB101 hB190 hB191 hB192 G0 s.heap r1) (va_cwS 1 hts (jgS (jWr_57 _ (List.mem_of_getElem? (i := 10) rfl)) (jWr_57 _ (List.mem_of_getElem? (i := 11) rfl)) (jWr_1 _ (List.mem_of_getElem? (i := 5) rfl)) (jWr_57 _ (List.mem_of_getElem? (i := 12) rfl))) rfl rfl rfl (by decide +kernel) ⟨by rw [← hR]; exact Nat.le_of_ble_eq_true rfl, by rw [← hR]; exact Nat.le_of_ble_eq_true rfl⟩) ⟨fun a U g mk q => by obtain ⟨q0, q1, q2, qK, q10, q11, q12⟩ := q; exact ⟨q0, q1, q2, jG.calling g mk a qK, q10, q11, q12⟩, fun U hU hW => ⟨rfl, hU, hh.2.1, hG.step hW hU hh.1, hg_r1, jP.nil, trivial⟩⟩ rfl rfl hl.1 rfl (lv_room (Nat.le_of_ble_eq_true rfl)) dX14_settleChecks_1 ⟨Nat.zero_le _, Nat.zero_le _⟩) hh.1 (fun q _ h => h) (fun q h => h) (fun u_1 t_1 H_1 locs_1 ht_1 hvm_1 hr_2 hb_1 hz_1 hk_1 hS_1 => ?_)
  rw [ht_1] at hb_1
  obtain ⟨hb_11, hb_12, hb_13, hb_14, hb_15⟩ := hb_1
  have hh_1 : jSt (dC, dI) B base G0 G0 EX14_settleChecks s.heap 0 0 [] [] [] H_1 locs_1 := ((hh.call hb_11 hb_12 hb_13 hb_14 hS_1 rfl (L1 := []) [] rfl rfl (M1 := []) [] rfl rfl (I1 := []) [] rfl rfl).more hb_15)
  clear hh ht_1 hvm_1 hz_1 hk_1 hS_1 hb_11 hb_12 hb_13 hb_14 hb_15
  refine lv_aload_n hx hb dX14_settleChecks_4 rfl (lv_at hl 1 rfl) ?_
  obtain ⟨v_3, hv_3, hh_4⟩ := hh_1.pin (C := RX12) (T := TX12) (N := 11) hB14 rfl (by decide) hg_r1 (i := 9) (by decide) rfl
  clear hh_1
  obtain ⟨checked_5, rfl, hlochecked_5, hhichecked_5⟩ := hv_3
  refine j7_readN hx hb hown hK (C := RX12) (T := TX12) (N := 11) rfl hly_14_9 hlk_531 (hh_4.at 0 rfl) dX14_settleChecks_5 ?_
  refine lv_iload_n hx hb dX14_settleChecks_8 rfl (lv_at hl 2 rfl) ?_
  have C17 : ∀ (H_6 : Heap) (locs_6 : List Loc), jSt (dC, dI) B base G0 G0 EX14_settleChecks s.heap 0 0 [] [] [] H_6 locs_6 → (True) → ∀ ls : Array Slot, lv_has ls 4 [(0, .ref r0), (1, .ref r1), (2, .int a2)] → W p l e R s m ([.ref r0, .ref r1, .int a2] : List Value).toArray below meth c H_6 locs_6 0 0 Q (F0 m 17 ls []) := by
    intro  H_6 locs_6 hh_6  hi_6 ls hl
    refine lv_iconst (v := 0) hx hb dX14_settleChecks_17 (by decide) ?_
    refine lv_istore_n (lv' := [(3, .int 0), (0, .ref r0), (1, .ref r1), (2, .int a2)]) hx hb dX14_settleChecks_18 rfl hl (by decide) rfl (fun ls hl => ?_)
    have L19 : ∀ (N : Nat) (v3_7 : Int32) (H_7 : Heap) (locs_7 : List Loc), jSt (dC, dI) B base G0 G0 EX14_settleChecks s.heap 0 0 [] [] [] H_7 locs_7 → (0 ≤ v3_7.toInt ∧ v3_7.toInt ≤ 2) → (2 - v3_7.toInt : Int) < N → ∀ ls : Array Slot, lv_has ls 4 [(0, .ref r0), (1, .ref r1), (2, .int a2), (3, .int v3_7)] → W p l e R s m ([.ref r0, .ref r1, .int a2] : List Value).toArray below meth c H_7 locs_7 0 0 Q (F0 m 19 ls []) := by
      intro N
      induction N with
      | zero => intro v3_7 H_7 locs_7 hh_7  hi_7 hm; exact absurd hm (by omega)
      | succ N L19 =>
        intro v3_7 H_7 locs_7 hh_7  hi_7 hm_7 ls hl
        obtain ⟨hi_7_0, hi_7_1⟩ := hi_7
        refine lv_iload_n hx hb dX14_settleChecks_19 rfl (lv_at hl 3 rfl) ?_
        refine lv_iconst (v := 2) hx hb dX14_settleChecks_20 (by decide) ?_
        refine lv_icmp_ge (tgt := 57) hx hb dX14_settleChecks_21 (by decide) (fun c_8 => ?_) (fun c_8 => ?_)
        · skip
          have c_8' : v3_7.toInt ≥ 2 := jb_ge (rfl) ((by decide)) c_8
          rw [hQ]
          exact W.vret hx hb hr (fun t ht hW => ⟨⟨(), rfl, trivial, hh_7.rt (M1 := []) [] rfl ht⟩, by rw [ht]; try exact hh_7.1.1, fun q h9 hq => by rw [ht]; try exact hh_7.1.2.1 q h9 hq⟩) hh_7.1.2.2 dX14_settleChecks_57
        · skip
          have c_8' : v3_7.toInt < 2 := jb_ge_n (rfl) ((by decide)) c_8
          refine lv_aload_n hx hb dX14_settleChecks_24 rfl (lv_at hl 0 rfl) ?_
          obtain ⟨v_9, hv_9, hh_10⟩ := hh_7.pin (C := RX14) (T := TX14) (N := 74) hB16 rfl (by decide) hg_r0 (i := 60) (by decide) rfl
          clear hh_7
          obtain ⟨checkOf_11, rfl, hg_checkOf_11⟩ := hv_9
          refine j7_read hx hb hown hK (C := RX14) (T := TX14) (N := 74) rfl hly_16_60 hlk_129 (hh_10.at 0 rfl) dX14_settleChecks_25 ?_
          refine lv_iload_n hx hb dX14_settleChecks_28 rfl (lv_at hl 3 rfl) ?_
          refine j7_qald hx hb hK2 hh_10 hB208 0 rfl (by decide) hg_checkOf_11 (x := v3_7.toInt) (rfl) (by omega) dX14_settleChecks_29 (fun o_12 ho_12 => ?_)
          rcases ho_12 with rfl | ⟨el_13, rfl, hg_el_13⟩
          · simp only [va_rf]
            refine lv_aload_n hx hb dX14_settleChecks_30 rfl (lv_at hl 1 rfl) ?_
            refine lv_acmp_ne (rx := none) (ry := (some r1)) (tgt := 51) hx hb dX14_settleChecks_31 (by decide) (fun c_14 => ?_) (fun c_14 => ?_)
            · skip
              obtain ⟨z_15, ez_15⟩ : ∃ y : Int32, y = v3_7 + 1 := ⟨_, rfl⟩
              refine lv_iinc (v := z_15) (lv' := [(3, .int z_15), (0, .ref r0), (1, .ref r1), (2, .int a2)]) hx hb dX14_settleChecks_51 hl (k := 3) rfl (by rw [ez_15]; rfl) (by decide) rfl (fun ls hl => ?_)
              have hz_15 : z_15.toInt = v3_7.toInt + 1 := by rw [ez_15]; exact jb_iadd2 (rfl) (by decide) (by omega)
              refine lv_goto (tgt := 19) hx hb dX14_settleChecks_54 (by decide) ?_
              exact L19 z_15 _ _ (hh_10.sub (L1 := []) [] rfl (M1 := []) [] rfl (I1 := []) [] rfl) (by first | omega | (refine ⟨?_, ?_⟩ <;> (first | omega | rfl | assumption | decide | exact Or.inl rfl | exact Or.inr rfl | (simp only; omega)))) (by omega) _ (lv_sub hl [1, 2, 3, 0] rfl)
            · skip
              cases c_14
          · simp only [va_rf]
            refine lv_aload_n hx hb dX14_settleChecks_30 rfl (lv_at hl 1 rfl) ?_
            refine lv_acmp_ne (rx := (some el_13)) (ry := (some r1)) (tgt := 51) hx hb dX14_settleChecks_31 (by decide) (fun c_16 => ?_) (fun c_16 => ?_)
            · skip
              obtain ⟨z_17, ez_17⟩ : ∃ y : Int32, y = v3_7 + 1 := ⟨_, rfl⟩
              refine lv_iinc (v := z_17) (lv' := [(3, .int z_17), (0, .ref r0), (1, .ref r1), (2, .int a2)]) hx hb dX14_settleChecks_51 hl (k := 3) rfl (by rw [ez_17]; rfl) (by decide) rfl (fun ls hl => ?_)
              have hz_17 : z_17.toInt = v3_7.toInt + 1 := by rw [ez_17]; exact jb_iadd2 (rfl) (by decide) (by omega)
              refine lv_goto (tgt := 19) hx hb dX14_settleChecks_54 (by decide) ?_
              exact L19 z_17 _ _ (hh_10.sub (L1 := []) [] rfl (M1 := []) [] rfl (I1 := []) [] rfl) (by first | omega | (refine ⟨?_, ?_⟩ <;> (first | omega | rfl | assumption | decide | exact Or.inl rfl | exact Or.inr rfl | (simp only; omega)))) (by omega) _ (lv_sub hl [1, 2, 3, 0] rfl)
            · skip
              refine lv_aload_n hx hb dX14_settleChecks_34 rfl (lv_at hl 0 rfl) ?_
              obtain ⟨v_18, hv_18, hh_19⟩ := hh_10.pin (C := RX14) (T := TX14) (N := 74) hB16 rfl (by decide) hg_r0 (i := 61) (by decide) rfl
              clear hh_10
              obtain ⟨checkSentence_20, rfl, hg_checkSentence_20⟩ := hv_18
              refine j7_read hx hb hown hK (C := RX14) (T := TX14) (N := 74) rfl hly_16_61 hlk_132 (hh_19.at 0 rfl) dX14_settleChecks_35 ?_
              refine lv_iload_n hx hb dX14_settleChecks_38 rfl (lv_at hl 3 rfl) ?_
              refine j7_iald hx hb hK hh_19 hB207 1 rfl (by decide) hg_checkSentence_20 (x := v3_7.toInt) (rfl) (by omega) dX14_settleChecks_39 (fun z_21 (hz_21 : 0 ≤ z_21.toInt ∧ z_21.toInt ≤ 39) => ?_)
              refine lv_iload_n hx hb dX14_settleChecks_40 rfl (lv_at hl 2 rfl) ?_
              refine lv_icmp_lt (tgt := 51) hx hb dX14_settleChecks_41 (by decide) (fun c_22 => ?_) (fun c_22 => ?_)
              · skip
                have c_22' : z_21.toInt < a2.toInt := jb_lt (rfl) (rfl) c_22
                obtain ⟨z_23, ez_23⟩ : ∃ y : Int32, y = v3_7 + 1 := ⟨_, rfl⟩
                refine lv_iinc (v := z_23) (lv' := [(3, .int z_23), (0, .ref r0), (1, .ref r1), (2, .int a2)]) hx hb dX14_settleChecks_51 hl (k := 3) rfl (by rw [ez_23]; rfl) (by decide) rfl (fun ls hl => ?_)
                have hz_23 : z_23.toInt = v3_7.toInt + 1 := by rw [ez_23]; exact jb_iadd2 (rfl) (by decide) (by omega)
                refine lv_goto (tgt := 19) hx hb dX14_settleChecks_54 (by decide) ?_
                exact L19 z_23 _ _ (hh_19.sub (L1 := []) [] rfl (M1 := []) [] rfl (I1 := []) [] rfl) (by first | omega | (refine ⟨?_, ?_⟩ <;> (first | omega | rfl | assumption | decide | exact Or.inl rfl | exact Or.inr rfl | (simp only; omega)))) (by omega) _ (lv_sub hl [1, 2, 3, 0] rfl)
              · skip
                have c_22' : z_21.toInt ≥ a2.toInt := jb_lt_n (rfl) (rfl) c_22
                refine lv_aload_n hx hb dX14_settleChecks_44 rfl (lv_at hl 0 rfl) ?_
                refine j7_read hx hb hown hK (C := RX14) (T := TX14) (N := 74) rfl hly_16_60 hlk_129 (hh_19.at 1 rfl) dX14_settleChecks_45 ?_
                refine lv_iload_n hx hb dX14_settleChecks_48 rfl (lv_at hl 3 rfl) ?_
                refine lv_null hx hb dX14_settleChecks_49 ?_
                refine j7_qastN hx hb hK2 hh_19 hB hB208 0 rfl (by decide) (by decide) rfl rfl rfl hg_checkOf_11 (x := v3_7.toInt) (rfl) (by omega) (Or.inl rfl) dX14_settleChecks_50 (fun H_24 locs_24 hh_24 => ?_)
                clear hh_19
                obtain ⟨z_25, ez_25⟩ : ∃ y : Int32, y = v3_7 + 1 := ⟨_, rfl⟩
                refine lv_iinc (v := z_25) (lv' := [(3, .int z_25), (0, .ref r0), (1, .ref r1), (2, .int a2)]) hx hb dX14_settleChecks_51 hl (k := 3) rfl (by rw [ez_25]; rfl) (by decide) rfl (fun ls hl => ?_)
                have hz_25 : z_25.toInt = v3_7.toInt + 1 := by rw [ez_25]; exact jb_iadd2 (rfl) (by decide) (by omega)
                refine lv_goto (tgt := 19) hx hb dX14_settleChecks_54 (by decide) ?_
                exact L19 z_25 _ _ (hh_24.sub (L1 := []) [] rfl (M1 := []) [] rfl (I1 := []) [] rfl) (by first | omega | (refine ⟨?_, ?_⟩ <;> (first | omega | rfl | assumption | decide | exact Or.inl rfl | exact Or.inr rfl | (simp only; omega)))) (by omega) _ (lv_sub hl [1, 2, 3, 0] rfl)
    exact L19 (2 - (0 : Int32).toInt : Int).toNat.succ 0 _ _ hh_6 (by first | omega | (refine ⟨?_, ?_⟩ <;> (first | omega | rfl | assumption | decide | exact Or.inl rfl | exact Or.inr rfl | (simp only; omega)))) (by omega) _ (lv_sub hl [1, 2, 3, 0] rfl)
  refine lv_icmp_le (tgt := 17) hx hb dX14_settleChecks_9 (by decide) (fun c_26 => ?_) (fun c_26 => ?_)
  · skip
    have c_26' : checked_5.toInt ≤ a2.toInt := jb_le (rfl) (rfl) c_26
    exact C17  _ _ (hh_4.sub (L1 := []) [] rfl (M1 := []) [] rfl (I1 := []) [] rfl) (trivial) _ (lv_sub hl [0, 1, 2] rfl)
  · skip
    have c_26' : checked_5.toInt > a2.toInt := jb_le_n (rfl) (rfl) c_26
    refine lv_aload_n hx hb dX14_settleChecks_12 rfl (lv_at hl 1 rfl) ?_
    refine lv_iload_n hx hb dX14_settleChecks_13 rfl (lv_at hl 2 rfl) ?_
    refine j7_putN hx hb hown hK hh_4 hB hAp hB14 (C := RX12) (T := TX12) (N := 11) rfl (by decide) hg_r1 (i := 9) (by decide) hly_14_9 rfl hlk_531 rfl (ty := .int) (v := .int a2) (by decide +kernel) rfl rfl (⟨_, rfl, by omega, by omega⟩) rfl (L1 := []) [] rfl rfl rfl dX14_settleChecks_14 (fun H_27 locs_27 hh_27 => ?_)
    clear hh_4
    exact C17  _ _ (hh_27.sub (L1 := []) [] rfl (M1 := []) [] rfl (I1 := []) [] rfl) (trivial) _ (lv_sub hl [0, 1, 2] rfl)
set_option maxHeartbeats 4000000 in
set_option maxRecDepth 20000 in
theorem uX14_documentOf (l : Launch) (dC : Nat → ClassId) (dI : Nat → Nat → Nat) (ca : Nat → ClassId) (base : Nat) (B : jF) (hB : jBok B) (hAp : jAp (dC, dI)) (hB14 : ∀ n G a H, B 14 n G a H ↔ jOb (dC, dI) 14 11 (F14 n G) a H) (hB16 : ∀ n G a H, B 16 n G a H ↔ jOb (dC, dI) 16 74 (F16 n G) a H) (hB101 : ∀ n G a H, B 101 n G a H ↔ jAr (dC, dI) (ca 1) (fun j z => True) n a H) (hB117 : ∀ n G a H, B 117 n G a H ↔ jAr (dC, dI) (ca 1) (fun j z => True) n a H) (hB122 : ∀ n G a H, B 122 n G a H ↔ jAr (dC, dI) (ca 1) (fun j z => 0 ≤ z.toInt ∧ z.toInt ≤ 3100) n a H) (hB123 : ∀ n G a H, B 123 n G a H ↔ jAr (dC, dI) (ca 1) (fun j z => 0 ≤ z.toInt ∧ z.toInt ≤ 3100) n a H) (hB127 : ∀ n G a H, B 127 n G a H ↔ jAr (dC, dI) (ca 1) (fun j z => True) n a H) (hB201 : ∀ n G a H, B 201 n G a H ↔ jAq (dC, dI) (ca 4) (jQs 14 0) n G a H) (G0 : jT) (H0 : Heap) (r0 : Nat) (a1 : Int32) : Met l yX14_documentOf (jw yX14_documentOf cX14_documentOf 6 (some (.object "ProofServerModel$Document"))) ({ frames := 1, cells := 0, slots := 0, locals := 21 }) (va_Pc [.ref r0, .int a1] (fun U => U.heap = H0 ∧ jX B base G0 [] H0 ∧ jG dC dI ca base U ∧ jK2 dC dI ca U ∧ G0 r0 = some (16, 0) ∧ jP (dC, dI) G0 H0 [] ∧ a1.toInt ≤ 3099)) (jQx (S := Unit) (fun v u => jRn G0 14 0 v) (fun u t => jRt (dC, dI) B base G0 EX14_documentOf H0 [] t.heap) (jA base)) 0 0 (jA base) := by
  refine Met.ofW (cc := cX14_documentOf) (maxL := 6) (ret := (some (.object "ProofServerModel$Document"))) (by decide) rfl ?_
  intro p e s m args below meth c s₁ Bd hml hv
  obtain ⟨rfl, hH0, hX, hG, hK2, hg_r0, hP0, hp0⟩ := hv
  have hK := hG.1
  have hx := Bd.exec
  have hb := Bd.bytes
  have hr := Bd.returns
  have hts := atoms_spec (ws := (jw yX14_documentOf cX14_documentOf 6 (some (.object "ProofServerModel$Document")))) Bd.pre
  have htw : ∀ w ∈ jWl, w.before _ s = true := fun w h => hts w (List.mem_cons_of_mem _ h)
  have hown : s.vm.findClass RX14 = some m.cls := findClass_of_methodNamed Bd.named
  have hlocks := Bd.notSynchronized
  obtain ⟨Q, hQ⟩ : ∃ Q, Q = MQ below (jQx (S := Unit) (fun v u => jRn G0 14 0 v) (fun u t => jRt (dC, dI) B base G0 EX14_documentOf H0 [] t.heap) (jA base)) ([.ref r0, .int a1] : List Value).toArray s 0 0 (jA base) := ⟨_, rfl⟩
  rw [← hQ]
  have hl := lv_entry ([.ref r0, .int a1]) (n := 6) (Nat.le_of_ble_eq_true rfl)
  rw [lg_entry_eq]
  generalize (lg_sl ([.ref r0, .int a1]) ++ List.replicate (6 - (lg_sl ([.ref r0, .int a1])).length) Slot.unset).toArray = ls at hl ⊢
  have hl : lv_has ls 6 [(0, .ref r0), (1, .int a1)] := hl
  generalize hR : (headSpec (jw yX14_documentOf cX14_documentOf 6 (some (.object "ProofServerModel$Document"))) ({ frames := 1, cells := 0, slots := 0, locals := 21 })).room = R
  subst hH0
  have hh : jSt (dC, dI) B base G0 G0 EX14_documentOf s.heap 0 0 [] [] [] s.heap [] := jSt.start hX hP0 jMc.nil jIs.nil
  clear hX hP0
  have hk0 : (0 : Int32).toInt = 0 := by decide
  have hk1 : (1 : Int32).toInt = 1 := by decide
  have hly_14_0 := htw (u_lay RX12 TX12 0) (jWc_wsX120 _ (u_in_lay (by decide)))
  have hly_14_1 := htw (u_lay RX12 TX12 1) (jWc_wsX120 _ (u_in_lay (by decide)))
  have hly_16_22 := htw (u_lay RX14 TX14 22) (jWc_wsX140 _ (u_in_lay (by decide)))
  have hly_16_23 := htw (u_lay RX14 TX14 23) (jWc_wsX140 _ (u_in_lay (by decide)))
  have hly_16_27 := htw (u_lay RX14 TX14 27) (jWc_wsX140 _ (u_in_lay (by decide)))
  have hly_16_41 := htw (u_lay RX14 TX14 41) (jWc_wsX140 _ (u_in_lay (by decide)))
  have hly_16_42 := htw (u_lay RX14 TX14 42) (jWc_wsX140 _ (u_in_lay (by decide)))
  have hlk_505 := (htw (.fieldLink RX14 505 "ProofServerModel" "documentCount" "I") (jWr_57 _ (List.mem_of_getElem? (i := 5) rfl)))
  have hlk_74 := (htw (.fieldLink RX14 74 "ProofServerModel" "documents" "[LProofServerModel$Document;") (jWr_11 _ (List.mem_of_getElem? (i := 19) rfl)))
  have hlk_508 := (va_Nw.use (A := ([.ref r0, .int a1] : List Value).toArray) rfl (hG.2.1 RX14 508 "ProofServerModel$Document" "uriLength" "I" "ProofServerModel" (List.mem_of_getElem? (i := 1732) (by decide +kernel))))
  have hlk_55 := (htw (.fieldLink RX14 55 "ProofServerModel" "to" "[I") (jWr_11 _ (List.mem_of_getElem? (i := 10) rfl)))
  have hlk_52 := (htw (.fieldLink RX14 52 "ProofServerModel" "from" "[I") (jWr_11 _ (List.mem_of_getElem? (i := 9) rfl)))
  have hlk_511 := (va_Nw.use (A := ([.ref r0, .int a1] : List Value).toArray) rfl (hG.2.1 RX14 511 "ProofServerModel$Document" "uri" "[I" "ProofServerModel" (List.mem_of_getElem? (i := 1731) (by decide +kernel))))
  have hlk_65 := (htw (.fieldLink RX14 65 "ProofServerModel" "pool" "[I") (jWr_11 _ (List.mem_of_getElem? (i := 14) rfl)))
  have hrg_a1 := jb_rng a1
  refine lv_aload_n hx hb dX14_documentOf_0 rfl (lv_at hl 0 rfl) ?_
  refine lv_iload_n hx hb dX14_documentOf_1 rfl (lv_at hl 1 rfl) ?_
  refine va_calli (A0 := jA base) (H0 := s.heap) (va_runV (As := [.int a1]) (rest := []) ⟨hx, hb, hml, hown, hts⟩ (uX14_isString l dC dI ca base B hB hAp hB16 hB117 G0 s.heap r0 a1) (cwV 1 hts (jgV (jWr_56 _ (List.mem_of_getElem? (i := 3) rfl)) (jWr_56 _ (List.mem_of_getElem? (i := 4) rfl)) (jWr_56 _ (List.mem_of_getElem? (i := 5) rfl)) (jWr_1 _ (List.mem_of_getElem? (i := 5) rfl)) (jWr_56 _ (List.mem_of_getElem? (i := 6) rfl))) rfl rfl rfl (by decide +kernel) ⟨by rw [← hR]; exact Nat.le_of_ble_eq_true rfl, by rw [← hR]; exact Nat.le_of_ble_eq_true rfl⟩) ⟨fun a U g mk q => by obtain ⟨q0, q1, q2, qK, q10, q11, q12⟩ := q; exact ⟨q0, q1, q2, jG.calling g mk a qK, q10, q11, q12⟩, hh.recv (C := RX14) (T := TX14) (N := 74) hB16 rfl (by decide) hg_r0 hK, fun U hU hW => ⟨rfl, hU, hh.2.1, hG.step hW hU hh.1, hg_r0, jP.nil, by first | omega | rfl | assumption | decide | exact Or.inl rfl | exact Or.inr rfl | (simp only; omega)⟩⟩ rfl rfl hl.1 rfl (lv_room (Nat.le_of_ble_eq_true rfl)) dX14_documentOf_2 ⟨Nat.zero_le _, Nat.zero_le _⟩) hh.1 (fun q _ h => h) (fun q h => h) (fun r_2 u_1 t_1 H_1 locs_1 ht_1 hvm_1 hr_2 hb_1 hz_1 hk_1 hS_1 => ?_)
  rw [ht_1] at hb_1
  obtain ⟨hb_11, hb_12, hb_13, hb_14, hb_15⟩ := hb_1
  have hh_1 : jSt (dC, dI) B base G0 G0 EX14_documentOf s.heap 0 0 [] [] [] H_1 locs_1 := ((hh.call hb_11 hb_12 hb_13 hb_14 hS_1 rfl (L1 := []) [] rfl rfl (M1 := []) [] rfl rfl (I1 := []) [] rfl rfl).more hb_15)
  clear hh ht_1 hvm_1 hz_1 hk_1 hS_1 hb_11 hb_12 hb_13 hb_14 hb_15
  obtain ⟨hr_2b, hr_2p⟩ := hr_2
  have hr_2' := jb_01 hr_2b
  refine lv_if_ne (tgt := 10) hx hb dX14_documentOf_5 (by decide) (fun c_3 => ?_) (fun c_3 => ?_)
  · skip
    have c_3' : r_2.toInt ≠ 0 := jb_ne (rfl) ((by decide)) c_3
    first | (have hr_2pq := hr_2p.resolve_left (by omega); clear hr_2p) | (have hr_2pq := hr_2p.resolve_right (by omega); clear hr_2p) | try clear hr_2p
    refine lv_iconst (v := 0) hx hb dX14_documentOf_10 (by decide) ?_
    refine lv_istore_n (lv' := [(2, .int 0), (0, .ref r0), (1, .int a1)]) hx hb dX14_documentOf_11 rfl hl (by decide) rfl (fun ls hl => ?_)
    obtain ⟨v_4, hv_4, hh_5⟩ := hh_1.pin (C := RX14) (T := TX14) (N := 74) hB16 rfl (by decide) hg_r0 (i := 42) (by decide) rfl
    obtain ⟨documentCount_6, rfl, hlodocumentCount_6, hhidocumentCount_6⟩ := hv_4
    have L12 : ∀ (N : Nat) (v2_7 : Int32) (H_7 : Heap) (locs_7 : List Loc), jSt (dC, dI) B base G0 G0 EX14_documentOf s.heap 0 0 [(r0, 16, 42, .int documentCount_6)] [] [] H_7 locs_7 → (0 ≤ v2_7.toInt ∧ v2_7.toInt ≤ documentCount_6.toInt) → (documentCount_6.toInt - v2_7.toInt : Int) < N → ∀ ls : Array Slot, lv_has ls 6 [(0, .ref r0), (1, .int a1), (2, .int v2_7)] → W p l e R s m ([.ref r0, .int a1] : List Value).toArray below meth c H_7 locs_7 0 0 Q (F0 m 12 ls []) := by
      intro N
      induction N with
      | zero => intro v2_7 H_7 locs_7 hh_7  hi_7 hm; exact absurd hm (by omega)
      | succ N L12 =>
        intro v2_7 H_7 locs_7 hh_7  hi_7 hm_7 ls hl
        obtain ⟨hi_7_0, hi_7_1⟩ := hi_7
        refine lv_iload_n hx hb dX14_documentOf_12 rfl (lv_at hl 2 rfl) ?_
        refine lv_aload_n hx hb dX14_documentOf_13 rfl (lv_at hl 0 rfl) ?_
        refine j7_read hx hb hown hK (C := RX14) (T := TX14) (N := 74) rfl hly_16_42 hlk_505 (hh_7.at 0 rfl) dX14_documentOf_14 ?_
        refine lv_icmp_ge (tgt := 121) hx hb dX14_documentOf_17 (by decide) (fun c_8 => ?_) (fun c_8 => ?_)
        · skip
          have c_8' : v2_7.toInt ≥ documentCount_6.toInt := jb_ge (rfl) (rfl) c_8
          refine lv_null hx hb dX14_documentOf_121 ?_
          rw [hQ]
          exact W.aret (v := .null) hx hb hr (Or.inl ⟨_, rfl⟩) (Or.inl rfl) (fun t ht hW => ⟨⟨.null, (), rfl, Or.inl rfl, hh_7.rt (M1 := []) [] rfl ht⟩, by rw [ht]; try exact hh_7.1.1, fun q h9 hq => by rw [ht]; try exact hh_7.1.2.1 q h9 hq⟩) hh_7.1.2.2 dX14_documentOf_122
        · skip
          have c_8' : v2_7.toInt < documentCount_6.toInt := jb_ge_n (rfl) (rfl) c_8
          refine lv_aload_n hx hb dX14_documentOf_20 rfl (lv_at hl 0 rfl) ?_
          obtain ⟨v_9, hv_9, hh_10⟩ := hh_7.pin (C := RX14) (T := TX14) (N := 74) hB16 rfl (by decide) hg_r0 (i := 41) (by decide) rfl
          clear hh_7
          obtain ⟨documents_11, rfl, hg_documents_11⟩ := hv_9
          refine j7_read hx hb hown hK (C := RX14) (T := TX14) (N := 74) rfl hly_16_41 hlk_74 (hh_10.at 0 rfl) dX14_documentOf_21 ?_
          refine lv_iload_n hx hb dX14_documentOf_24 rfl (lv_at hl 2 rfl) ?_
          refine j7_qald hx hb hK2 hh_10 hB201 0 rfl (by decide) hg_documents_11 (x := v2_7.toInt) (rfl) (by omega) dX14_documentOf_25 (fun o_12 ho_12 => ?_)
          obtain ⟨el_13, rfl, hg_el_13⟩ := ho_12
          simp only [va_rf]
          refine lv_astore_n (lv' := [(3, .ref el_13), (0, .ref r0), (1, .int a1), (2, .int v2_7)]) hx hb dX14_documentOf_26 rfl hl (by decide) rfl (fun ls hl => ?_)
          refine lv_aload_n hx hb dX14_documentOf_27 rfl (lv_at hl 0 rfl) ?_
          obtain ⟨v_14, hv_14, hh_15⟩ := hh_10.pin (C := RX12) (T := TX12) (N := 11) hB14 rfl (by decide) hg_el_13 (i := 1) (by decide) rfl
          clear hh_10
          obtain ⟨uriLength_16, rfl, hlouriLength_16, hhiuriLength_16⟩ := hv_14
          refine j7_readN hx hb hown hK (C := RX12) (T := TX12) (N := 11) rfl hly_14_1 hlk_508 (hh_15.at 0 rfl) dX14_documentOf_28 ?_
          refine lv_aload_n hx hb dX14_documentOf_31 rfl (lv_at hl 1 rfl) ?_
          obtain ⟨v_17, hv_17, hh_18⟩ := hh_15.pin (C := RX14) (T := TX14) (N := 74) hB16 rfl (by decide) hg_r0 (i := 23) (by decide) rfl
          clear hh_15
          obtain ⟨to_19, rfl, hg_to_19⟩ := hv_17
          refine j7_read hx hb hown hK (C := RX14) (T := TX14) (N := 74) rfl hly_16_23 hlk_55 (hh_18.at 0 rfl) dX14_documentOf_32 ?_
          refine lv_iload_n hx hb dX14_documentOf_35 rfl (lv_at hl 2 rfl) ?_
          refine j7_iald hx hb hK hh_18 hB123 1 rfl (by decide) hg_to_19 (x := a1.toInt) (rfl) (by omega) dX14_documentOf_36 (fun z_20 (hz_20 : 0 ≤ z_20.toInt ∧ z_20.toInt ≤ 3100) => ?_)
          refine lv_aload_n hx hb dX14_documentOf_37 rfl (lv_at hl 1 rfl) ?_
          obtain ⟨v_21, hv_21, hh_22⟩ := hh_18.pin (C := RX14) (T := TX14) (N := 74) hB16 rfl (by decide) hg_r0 (i := 22) (by decide) rfl
          clear hh_18
          obtain ⟨from_23, rfl, hg_from_23⟩ := hv_21
          refine j7_read hx hb hown hK (C := RX14) (T := TX14) (N := 74) rfl hly_16_22 hlk_52 (hh_22.at 0 rfl) dX14_documentOf_38 ?_
          refine lv_iload_n hx hb dX14_documentOf_41 rfl (lv_at hl 2 rfl) ?_
          refine j7_iald hx hb hK hh_22 hB122 1 rfl (by decide) hg_from_23 (x := a1.toInt) (rfl) (by omega) dX14_documentOf_42 (fun z_24 (hz_24 : 0 ≤ z_24.toInt ∧ z_24.toInt ≤ 3100) => ?_)
          refine lv_isub hx hb dX14_documentOf_43 ?_
          refine lv_topi (fun z_25 ez_25 => ?_)
          have hz_25 : z_25.toInt = z_20.toInt - z_24.toInt := by rw [ez_25]; exact jb_isub2 (rfl) (rfl) (by omega)
          have C52 : ∀ (w0_26 : Int32) (H_26 : Heap) (locs_26 : List Loc), jSt (dC, dI) B base G0 G0 EX14_documentOf s.heap 0 0 [(r0, 16, 22, .ref from_23), (r0, 16, 23, .ref to_19), (el_13, 14, 1, .int uriLength_16), (r0, 16, 41, .ref documents_11), (r0, 16, 42, .int documentCount_6)] [] [] H_26 locs_26 → (w0_26 = 0 ∨ w0_26 = 1) → (True) → ∀ ls : Array Slot, lv_has ls 6 [(0, .ref r0), (1, .int a1), (2, .int v2_7), (3, .ref el_13)] → W p l e R s m ([.ref r0, .int a1] : List Value).toArray below meth c H_26 locs_26 0 0 Q (F0 m 52 ls [.int w0_26]) := by
            intro w0_26 H_26 locs_26 hh_26 hb_w0_26 hi_26 ls hl
            have hb_w0_26' := jb_01 hb_w0_26
            refine lv_istore (lv' := [(4, .int w0_26), (0, .ref r0), (1, .int a1), (2, .int v2_7), (3, .ref el_13)]) hx hb dX14_documentOf_52 hl (by decide) rfl (fun ls hl => ?_)
            refine lv_iconst (v := 0) hx hb dX14_documentOf_54 (by decide) ?_
            refine lv_istore (lv' := [(5, .int 0), (4, .int w0_26), (0, .ref r0), (1, .int a1), (2, .int v2_7), (3, .ref el_13)]) hx hb dX14_documentOf_55 hl (by decide) rfl (fun ls hl => ?_)
            have L57 : ∀ (N : Nat) (v4_27 : Int32) (v5_27 : Int32) (H_27 : Heap) (locs_27 : List Loc), jSt (dC, dI) B base G0 G0 EX14_documentOf s.heap 0 0 [(r0, 16, 22, .ref from_23), (r0, 16, 23, .ref to_19), (el_13, 14, 1, .int uriLength_16), (r0, 16, 41, .ref documents_11), (r0, 16, 42, .int documentCount_6)] [] [] H_27 locs_27 → (v4_27 = 0 ∨ v4_27 = 1) → (0 ≤ v5_27.toInt ∧ v5_27.toInt ≤ 40) → (40 - v5_27.toInt : Int) < N → ∀ ls : Array Slot, lv_has ls 6 [(0, .ref r0), (1, .int a1), (2, .int v2_7), (3, .ref el_13), (4, .int v4_27), (5, .int v5_27)] → W p l e R s m ([.ref r0, .int a1] : List Value).toArray below meth c H_27 locs_27 0 0 Q (F0 m 57 ls []) := by
              intro N
              induction N with
              | zero => intro v4_27 v5_27 H_27 locs_27 hh_27 hb_v4_27 hi_27 hm; exact absurd hm (by omega)
              | succ N L57 =>
                intro v4_27 v5_27 H_27 locs_27 hh_27 hb_v4_27 hi_27 hm_27 ls hl
                obtain ⟨hi_27_0, hi_27_1⟩ := hi_27
                have hb_v4_27' := jb_01 hb_v4_27
                refine lv_iload hx hb dX14_documentOf_57 (lv_at hl 5 rfl) ?_
                refine lv_aload_n hx hb dX14_documentOf_59 rfl (lv_at hl 3 rfl) ?_
                refine j7_readN hx hb hown hK (C := RX12) (T := TX12) (N := 11) rfl hly_14_1 hlk_508 (hh_27.at 2 rfl) dX14_documentOf_60 ?_
                refine lv_icmp_ge (tgt := 108) hx hb dX14_documentOf_63 (by decide) (fun c_28 => ?_) (fun c_28 => ?_)
                · skip
                  have c_28' : v5_27.toInt ≥ uriLength_16.toInt := jb_ge (rfl) (rfl) c_28
                  refine lv_iload hx hb dX14_documentOf_108 (lv_at hl 4 rfl) ?_
                  refine lv_if_eq (tgt := 115) hx hb dX14_documentOf_110 (by decide) (fun c_29 => ?_) (fun c_29 => ?_)
                  · skip
                    have c_29' : v4_27.toInt = 0 := jb_eq (rfl) ((by decide)) c_29
                    obtain ⟨z_30, ez_30⟩ : ∃ y : Int32, y = v2_7 + 1 := ⟨_, rfl⟩
                    refine lv_iinc (v := z_30) (lv' := [(2, .int z_30), (0, .ref r0), (1, .int a1), (3, .ref el_13), (4, .int v4_27), (5, .int v5_27)]) hx hb dX14_documentOf_115 hl (k := 2) rfl (by rw [ez_30]; rfl) (by decide) rfl (fun ls hl => ?_)
                    have hz_30 : z_30.toInt = v2_7.toInt + 1 := by rw [ez_30]; exact jb_iadd2 (rfl) (by decide) (by omega)
                    refine lv_goto (tgt := 12) hx hb dX14_documentOf_118 (by decide) ?_
                    exact L12 z_30 _ _ (hh_27.sub (L1 := [(r0, 16, 42, .int documentCount_6)]) [4] rfl (M1 := []) [] rfl (I1 := []) [] rfl) (by first | omega | (refine ⟨?_, ?_⟩ <;> (first | omega | rfl | assumption | decide | exact Or.inl rfl | exact Or.inr rfl | (simp only; omega)))) (by omega) _ (lv_sub hl [1, 2, 0] rfl)
                  · skip
                    have c_29' : v4_27.toInt ≠ 0 := jb_eq_n (rfl) ((by decide)) c_29
                    refine lv_aload_n hx hb dX14_documentOf_113 rfl (lv_at hl 3 rfl) ?_
                    rw [hQ]
                    exact W.aret (v := .ref el_13) hx hb hr (Or.inl ⟨_, rfl⟩) (Or.inr ⟨_, rfl⟩) (fun t ht hW => ⟨⟨.ref el_13, (), rfl, Or.inr ⟨_, rfl, hg_el_13⟩, hh_27.rt (M1 := []) [] rfl ht⟩, by rw [ht]; try exact hh_27.1.1, fun q h9 hq => by rw [ht]; try exact hh_27.1.2.1 q h9 hq⟩) hh_27.1.2.2 dX14_documentOf_114
                · skip
                  have c_28' : v5_27.toInt < uriLength_16.toInt := jb_ge_n (rfl) (rfl) c_28
                  refine lv_iload hx hb dX14_documentOf_66 (lv_at hl 4 rfl) ?_
                  refine lv_if_eq (tgt := 108) hx hb dX14_documentOf_68 (by decide) (fun c_31 => ?_) (fun c_31 => ?_)
                  · skip
                    have c_31' : v4_27.toInt = 0 := jb_eq (rfl) ((by decide)) c_31
                    refine lv_iload hx hb dX14_documentOf_108 (lv_at hl 4 rfl) ?_
                    refine lv_if_eq (tgt := 115) hx hb dX14_documentOf_110 (by decide) (fun c_32 => ?_) (fun c_32 => ?_)
                    · skip
                      have c_32' : v4_27.toInt = 0 := jb_eq (rfl) ((by decide)) c_32
                      obtain ⟨z_33, ez_33⟩ : ∃ y : Int32, y = v2_7 + 1 := ⟨_, rfl⟩
                      refine lv_iinc (v := z_33) (lv' := [(2, .int z_33), (0, .ref r0), (1, .int a1), (3, .ref el_13), (4, .int v4_27), (5, .int v5_27)]) hx hb dX14_documentOf_115 hl (k := 2) rfl (by rw [ez_33]; rfl) (by decide) rfl (fun ls hl => ?_)
                      have hz_33 : z_33.toInt = v2_7.toInt + 1 := by rw [ez_33]; exact jb_iadd2 (rfl) (by decide) (by omega)
                      refine lv_goto (tgt := 12) hx hb dX14_documentOf_118 (by decide) ?_
                      exact L12 z_33 _ _ (hh_27.sub (L1 := [(r0, 16, 42, .int documentCount_6)]) [4] rfl (M1 := []) [] rfl (I1 := []) [] rfl) (by first | omega | (refine ⟨?_, ?_⟩ <;> (first | omega | rfl | assumption | decide | exact Or.inl rfl | exact Or.inr rfl | (simp only; omega)))) (by omega) _ (lv_sub hl [1, 2, 0] rfl)
                    · skip
                      have c_32' : v4_27.toInt ≠ 0 := jb_eq_n (rfl) ((by decide)) c_32
                      exact (by omega : False).elim
                  · skip
                    have c_31' : v4_27.toInt ≠ 0 := jb_eq_n (rfl) ((by decide)) c_31
                    refine lv_aload_n hx hb dX14_documentOf_71 rfl (lv_at hl 3 rfl) ?_
                    obtain ⟨v_34, hv_34, hh_35⟩ := hh_27.pin (C := RX12) (T := TX12) (N := 11) hB14 rfl (by decide) hg_el_13 (i := 0) (by decide) rfl
                    clear hh_27
                    obtain ⟨uri_36, rfl, hg_uri_36⟩ := hv_34
                    refine j7_readN hx hb hown hK (C := RX12) (T := TX12) (N := 11) rfl hly_14_0 hlk_511 (hh_35.at 0 rfl) dX14_documentOf_72 ?_
                    refine lv_iload hx hb dX14_documentOf_75 (lv_at hl 5 rfl) ?_
                    refine j7_iald hx hb hK hh_35 hB101 1 rfl (by decide) hg_uri_36 (x := v5_27.toInt) (rfl) (by omega) dX14_documentOf_77 (fun z_37 (hz_37 : True) => ?_)
                    refine lv_aload_n hx hb dX14_documentOf_78 rfl (lv_at hl 0 rfl) ?_
                    obtain ⟨v_38, hv_38, hh_39⟩ := hh_35.pin (C := RX14) (T := TX14) (N := 74) hB16 rfl (by decide) hg_r0 (i := 27) (by decide) rfl
                    clear hh_35
                    obtain ⟨pool_40, rfl, hg_pool_40⟩ := hv_38
                    refine j7_read hx hb hown hK (C := RX14) (T := TX14) (N := 74) rfl hly_16_27 hlk_65 (hh_39.at 0 rfl) dX14_documentOf_79 ?_
                    refine lv_aload_n hx hb dX14_documentOf_82 rfl (lv_at hl 0 rfl) ?_
                    refine j7_read hx hb hown hK (C := RX14) (T := TX14) (N := 74) rfl hly_16_22 hlk_52 (hh_39.at 2 rfl) dX14_documentOf_83 ?_
                    refine lv_iload_n hx hb dX14_documentOf_86 rfl (lv_at hl 1 rfl) ?_
                    refine j7_iald hx hb hK hh_39 hB122 1 rfl (by decide) hg_from_23 (x := a1.toInt) (rfl) (by omega) dX14_documentOf_87 (fun z_41 (hz_41 : 0 ≤ z_41.toInt ∧ z_41.toInt ≤ 3100) => ?_)
                    refine lv_iload hx hb dX14_documentOf_88 (lv_at hl 5 rfl) ?_
                    refine lv_iadd hx hb dX14_documentOf_90 ?_
                    refine lv_topi (fun z_42 ez_42 => ?_)
                    have hz_42 : z_42.toInt = z_41.toInt + v5_27.toInt := by rw [ez_42]; exact jb_iadd2 (rfl) (rfl) (by omega)
                    refine j7_iald hx hb hK hh_39 hB127 1 rfl (by decide) hg_pool_40 (x := z_42.toInt) (rfl) (by omega) dX14_documentOf_91 (fun z_43 (hz_43 : True) => ?_)
                    refine lv_icmp_ne (tgt := 99) hx hb dX14_documentOf_92 (by decide) (fun c_44 => ?_) (fun c_44 => ?_)
                    · skip
                      have c_44' : z_37.toInt ≠ z_43.toInt := jb_ne (rfl) (rfl) c_44
                      refine lv_iconst (v := 0) hx hb dX14_documentOf_99 (by decide) ?_
                      refine lv_istore (lv' := [(4, .int 0), (0, .ref r0), (1, .int a1), (2, .int v2_7), (3, .ref el_13), (5, .int v5_27)]) hx hb dX14_documentOf_100 hl (by decide) rfl (fun ls hl => ?_)
                      obtain ⟨z_45, ez_45⟩ : ∃ y : Int32, y = v5_27 + 1 := ⟨_, rfl⟩
                      refine lv_iinc (v := z_45) (lv' := [(5, .int z_45), (4, .int 0), (0, .ref r0), (1, .int a1), (2, .int v2_7), (3, .ref el_13)]) hx hb dX14_documentOf_102 hl (k := 5) rfl (by rw [ez_45]; rfl) (by decide) rfl (fun ls hl => ?_)
                      have hz_45 : z_45.toInt = v5_27.toInt + 1 := by rw [ez_45]; exact jb_iadd2 (rfl) (by decide) (by omega)
                      refine lv_goto (tgt := 57) hx hb dX14_documentOf_105 (by decide) ?_
                      exact L57 0 z_45 _ _ (hh_39.sub (L1 := [(r0, 16, 22, .ref from_23), (r0, 16, 23, .ref to_19), (el_13, 14, 1, .int uriLength_16), (r0, 16, 41, .ref documents_11), (r0, 16, 42, .int documentCount_6)]) [2, 3, 4, 5, 6] rfl (M1 := []) [] rfl (I1 := []) [] rfl) (Or.inl rfl) (by first | omega | (refine ⟨?_, ?_⟩ <;> (first | omega | rfl | assumption | decide | exact Or.inl rfl | exact Or.inr rfl | (simp only; omega)))) (by omega) _ (lv_sub hl [2, 3, 4, 5, 1, 0] rfl)
                    · skip
                      have c_44' : z_37.toInt = z_43.toInt := jb_ne_n (rfl) (rfl) c_44
                      refine lv_iconst (v := 1) hx hb dX14_documentOf_95 (by decide) ?_
                      refine lv_goto (tgt := 100) hx hb dX14_documentOf_96 (by decide) ?_
                      refine lv_istore (lv' := [(4, .int 1), (0, .ref r0), (1, .int a1), (2, .int v2_7), (3, .ref el_13), (5, .int v5_27)]) hx hb dX14_documentOf_100 hl (by decide) rfl (fun ls hl => ?_)
                      obtain ⟨z_46, ez_46⟩ : ∃ y : Int32, y = v5_27 + 1 := ⟨_, rfl⟩
                      refine lv_iinc (v := z_46) (lv' := [(5, .int z_46), (4, .int 1), (0, .ref r0), (1, .int a1), (2, .int v2_7), (3, .ref el_13)]) hx hb dX14_documentOf_102 hl (k := 5) rfl (by rw [ez_46]; rfl) (by decide) rfl (fun ls hl => ?_)
                      have hz_46 : z_46.toInt = v5_27.toInt + 1 := by rw [ez_46]; exact jb_iadd2 (rfl) (by decide) (by omega)
                      refine lv_goto (tgt := 57) hx hb dX14_documentOf_105 (by decide) ?_
                      exact L57 1 z_46 _ _ (hh_39.sub (L1 := [(r0, 16, 22, .ref from_23), (r0, 16, 23, .ref to_19), (el_13, 14, 1, .int uriLength_16), (r0, 16, 41, .ref documents_11), (r0, 16, 42, .int documentCount_6)]) [2, 3, 4, 5, 6] rfl (M1 := []) [] rfl (I1 := []) [] rfl) (Or.inr rfl) (by first | omega | (refine ⟨?_, ?_⟩ <;> (first | omega | rfl | assumption | decide | exact Or.inl rfl | exact Or.inr rfl | (simp only; omega)))) (by omega) _ (lv_sub hl [2, 3, 4, 5, 1, 0] rfl)
            exact L57 (40 - (0 : Int32).toInt : Int).toNat.succ w0_26 0 _ _ hh_26 (hb_w0_26) (by first | omega | (refine ⟨?_, ?_⟩ <;> (first | omega | rfl | assumption | decide | exact Or.inl rfl | exact Or.inr rfl | (simp only; omega)))) (by omega) _ (lv_sub hl [2, 3, 4, 5, 1, 0] rfl)
          refine lv_icmp_ne (tgt := 51) hx hb dX14_documentOf_44 (by decide) (fun c_47 => ?_) (fun c_47 => ?_)
          · skip
            have c_47' : uriLength_16.toInt ≠ z_25.toInt := jb_ne (rfl) (rfl) c_47
            refine lv_iconst (v := 0) hx hb dX14_documentOf_51 (by decide) ?_
            exact C52 0 _ _ hh_22 (Or.inl rfl) (trivial) _ (lv_sub hl [1, 2, 3, 0] rfl)
          · skip
            have c_47' : uriLength_16.toInt = z_25.toInt := jb_ne_n (rfl) (rfl) c_47
            refine lv_iconst (v := 1) hx hb dX14_documentOf_47 (by decide) ?_
            refine lv_goto (tgt := 52) hx hb dX14_documentOf_48 (by decide) ?_
            exact C52 1 _ _ hh_22 (Or.inr rfl) (trivial) _ (lv_sub hl [1, 2, 3, 0] rfl)
    exact L12 (documentCount_6.toInt - (0 : Int32).toInt : Int).toNat.succ 0 _ _ hh_5 (by first | omega | (refine ⟨?_, ?_⟩ <;> (first | omega | rfl | assumption | decide | exact Or.inl rfl | exact Or.inr rfl | (simp only; omega)))) (by omega) _ (lv_sub hl [1, 2, 0] rfl)
  · skip
    have c_3' : r_2.toInt = 0 := jb_ne_n (rfl) ((by decide)) c_3
    first | (have hr_2pq := hr_2p.resolve_left (by omega); clear hr_2p) | (have hr_2pq := hr_2p.resolve_right (by omega); clear hr_2p) | try clear hr_2p
    refine lv_null hx hb dX14_documentOf_8 ?_
    rw [hQ]
    exact W.aret (v := .null) hx hb hr (Or.inl ⟨_, rfl⟩) (Or.inl rfl) (fun t ht hW => ⟨⟨.null, (), rfl, Or.inl rfl, hh_1.rt (M1 := []) [] rfl ht⟩, by rw [ht]; try exact hh_1.1.1, fun q h9 hq => by rw [ht]; try exact hh_1.1.2.1 q h9 hq⟩) hh_1.1.2.2 dX14_documentOf_9
set_option maxHeartbeats 4000000 in
set_option maxRecDepth 20000 in
theorem uX14_nextDocument (l : Launch) (dC : Nat → ClassId) (dI : Nat → Nat → Nat) (ca : Nat → ClassId) (base : Nat) (B : jF) (hB : jBok B) (hAp : jAp (dC, dI)) (hB14 : ∀ n G a H, B 14 n G a H ↔ jOb (dC, dI) 14 11 (F14 n G) a H) (hB16 : ∀ n G a H, B 16 n G a H ↔ jOb (dC, dI) 16 74 (F16 n G) a H) (hB201 : ∀ n G a H, B 201 n G a H ↔ jAq (dC, dI) (ca 4) (jQs 14 0) n G a H) (hB202 : ∀ n G a H, B 202 n G a H ↔ jAq (dC, dI) (ca 4) (jQn 14 0) n G a H) (hB208 : ∀ n G a H, B 208 n G a H ↔ jAq (dC, dI) (ca 4) (jQn 14 0) n G a H) (G0 : jT) (H0 : Heap) (r0 : Nat) : Met l yX14_nextDocument (jw yX14_nextDocument cX14_nextDocument 4 (some (.object "ProofServerModel$Document"))) ({ frames := 1, cells := 0, slots := 0, locals := 22 }) (va_Pc [.ref r0] (fun U => U.heap = H0 ∧ jX B base G0 [] H0 ∧ jG dC dI ca base U ∧ jK2 dC dI ca U ∧ G0 r0 = some (16, 0) ∧ jP (dC, dI) G0 H0 [] ∧ True)) (jQx (S := Unit) (fun v u => jRn G0 14 0 v) (fun u t => jRt (dC, dI) B base G0 EX14_nextDocument H0 [] t.heap) (jA base)) 0 0 (jA base) := by
  refine Met.ofW (cc := cX14_nextDocument) (maxL := 4) (ret := (some (.object "ProofServerModel$Document"))) (by decide) rfl ?_
  intro p e s m args below meth c s₁ Bd hml hv
  obtain ⟨rfl, hH0, hX, hG, hK2, hg_r0, hP0, hp0⟩ := hv
  have hK := hG.1
  have hx := Bd.exec
  have hb := Bd.bytes
  have hr := Bd.returns
  have hts := atoms_spec (ws := (jw yX14_nextDocument cX14_nextDocument 4 (some (.object "ProofServerModel$Document")))) Bd.pre
  have htw : ∀ w ∈ jWl, w.before _ s = true := fun w h => hts w (List.mem_cons_of_mem _ h)
  have hown : s.vm.findClass RX14 = some m.cls := findClass_of_methodNamed Bd.named
  have hlocks := Bd.notSynchronized
  obtain ⟨Q, hQ⟩ : ∃ Q, Q = MQ below (jQx (S := Unit) (fun v u => jRn G0 14 0 v) (fun u t => jRt (dC, dI) B base G0 EX14_nextDocument H0 [] t.heap) (jA base)) ([.ref r0] : List Value).toArray s 0 0 (jA base) := ⟨_, rfl⟩
  rw [← hQ]
  have hl := lv_entry ([.ref r0]) (n := 4) (Nat.le_of_ble_eq_true rfl)
  rw [lg_entry_eq]
  generalize (lg_sl ([.ref r0]) ++ List.replicate (4 - (lg_sl ([.ref r0])).length) Slot.unset).toArray = ls at hl ⊢
  have hl : lv_has ls 4 [(0, .ref r0)] := hl
  generalize hR : (headSpec (jw yX14_nextDocument cX14_nextDocument 4 (some (.object "ProofServerModel$Document"))) ({ frames := 1, cells := 0, slots := 0, locals := 22 })).room = R
  subst hH0
  have hh : jSt (dC, dI) B base G0 G0 EX14_nextDocument s.heap 0 0 [] [] [] s.heap [] := jSt.start hX hP0 jMc.nil jIs.nil
  clear hX hP0
  have hk0 : (0 : Int32).toInt = 0 := by decide
  have hk1 : (1 : Int32).toInt = 1 := by decide
  have hly_14_5 := htw (u_lay RX12 TX12 5) (jWc_wsX120 _ (u_in_lay (by decide)))
  have hly_14_9 := htw (u_lay RX12 TX12 9) (jWc_wsX120 _ (u_in_lay (by decide)))
  have hly_16_41 := htw (u_lay RX14 TX14 41) (jWc_wsX140 _ (u_in_lay (by decide)))
  have hly_16_42 := htw (u_lay RX14 TX14 42) (jWc_wsX140 _ (u_in_lay (by decide)))
  have hly_16_60 := htw (u_lay RX14 TX14 60) (jWc_wsX140 _ (u_in_lay (by decide)))
  have hlk_505 := (htw (.fieldLink RX14 505 "ProofServerModel" "documentCount" "I") (jWr_57 _ (List.mem_of_getElem? (i := 5) rfl)))
  have hlk_74 := (htw (.fieldLink RX14 74 "ProofServerModel" "documents" "[LProofServerModel$Document;") (jWr_11 _ (List.mem_of_getElem? (i := 19) rfl)))
  have hlk_531 := (va_Nw.use (A := ([.ref r0] : List Value).toArray) rfl (hG.2.1 RX14 531 "ProofServerModel$Document" "checked" "I" "ProofServerModel" (List.mem_of_getElem? (i := 1744) (by decide +kernel))))
  have hlk_587 := (va_Nw.use (A := ([.ref r0] : List Value).toArray) rfl (hG.2.1 RX14 587 "ProofServerModel$Document" "sentences" "I" "ProofServerModel" (List.mem_of_getElem? (i := 1737) (by decide +kernel))))
  have hlk_129 := (htw (.fieldLink RX14 129 "ProofServerModel" "checkOf" "[LProofServerModel$Document;") (jWr_12 _ (List.mem_of_getElem? (i := 15) rfl)))
  refine lv_null hx hb dX14_nextDocument_0 ?_
  refine j7_nst_n (lv' := [(1, .null), (0, .ref r0)]) hx hb dX14_nextDocument_1 rfl hl (by decide) rfl (fun ls hl => ?_)
  refine lv_iconst (v := 0) hx hb dX14_nextDocument_2 (by decide) ?_
  refine lv_istore_n (lv' := [(2, .int 0), (1, .null), (0, .ref r0)]) hx hb dX14_nextDocument_3 rfl hl (by decide) rfl (fun ls hl => ?_)
  obtain ⟨v_1, hv_1, hh_2⟩ := hh.pin (C := RX14) (T := TX14) (N := 74) hB16 rfl (by decide) hg_r0 (i := 42) (by decide) rfl
  obtain ⟨documentCount_3, rfl, hlodocumentCount_3, hhidocumentCount_3⟩ := hv_1
  have L4 : ∀ (N : Nat) (v1_4 : Option Nat) (v2_4 : Int32) (H_4 : Heap) (locs_4 : List Loc), jSt (dC, dI) B base G0 G0 EX14_nextDocument s.heap 0 0 [(r0, 16, 42, .int documentCount_3)] [] [] H_4 locs_4 → jQn 14 0 G0 v1_4 → (0 ≤ v2_4.toInt ∧ v2_4.toInt ≤ documentCount_3.toInt) → (documentCount_3.toInt - v2_4.toInt : Int) < N → ∀ ls : Array Slot, lv_has ls 4 [(0, .ref r0), (1, va_rf v1_4), (2, .int v2_4)] → W p l e R s m ([.ref r0] : List Value).toArray below meth c H_4 locs_4 0 0 Q (F0 m 4 ls []) := by
    intro N
    induction N with
    | zero => intro v1_4 v2_4 H_4 locs_4 hh_4 hq_v1_4 hi_4 hm; exact absurd hm (by omega)
    | succ N L4 =>
      intro v1_4 v2_4 H_4 locs_4 hh_4 hq_v1_4 hi_4 hm_4 ls hl
      obtain ⟨hi_4_0, hi_4_1⟩ := hi_4
      rcases hq_v1_4 with rfl | ⟨nv_5, rfl, hg_nv_5⟩
      · have hl : lv_has ls 4 [(0, .ref r0), (1, .null), (2, .int v2_4)] := hl
        refine lv_iload_n hx hb dX14_nextDocument_4 rfl (lv_at hl 2 rfl) ?_
        refine lv_aload_n hx hb dX14_nextDocument_5 rfl (lv_at hl 0 rfl) ?_
        refine j7_read hx hb hown hK (C := RX14) (T := TX14) (N := 74) rfl hly_16_42 hlk_505 (hh_4.at 0 rfl) dX14_nextDocument_6 ?_
        refine lv_icmp_ge (tgt := 75) hx hb dX14_nextDocument_9 (by decide) (fun c_6 => ?_) (fun c_6 => ?_)
        · skip
          have c_6' : v2_4.toInt ≥ documentCount_3.toInt := jb_ge (rfl) (rfl) c_6
          refine j7_nld_n hx hb dX14_nextDocument_75 rfl (lv_at hl 1 rfl) ?_
          rw [hQ]
          exact W.aret (v := .null) hx hb hr (Or.inl ⟨_, rfl⟩) (Or.inl rfl) (fun t ht hW => ⟨⟨.null, (), rfl, Or.inl rfl, hh_4.rt (M1 := []) [] rfl ht⟩, by rw [ht]; try exact hh_4.1.1, fun q h9 hq => by rw [ht]; try exact hh_4.1.2.1 q h9 hq⟩) hh_4.1.2.2 dX14_nextDocument_76
        · skip
          have c_6' : v2_4.toInt < documentCount_3.toInt := jb_ge_n (rfl) (rfl) c_6
          refine lv_aload_n hx hb dX14_nextDocument_12 rfl (lv_at hl 0 rfl) ?_
          obtain ⟨v_7, hv_7, hh_8⟩ := hh_4.pin (C := RX14) (T := TX14) (N := 74) hB16 rfl (by decide) hg_r0 (i := 41) (by decide) rfl
          clear hh_4
          obtain ⟨documents_9, rfl, hg_documents_9⟩ := hv_7
          refine j7_read hx hb hown hK (C := RX14) (T := TX14) (N := 74) rfl hly_16_41 hlk_74 (hh_8.at 0 rfl) dX14_nextDocument_13 ?_
          refine lv_iload_n hx hb dX14_nextDocument_16 rfl (lv_at hl 2 rfl) ?_
          refine j7_qald hx hb hK2 hh_8 hB201 0 rfl (by decide) hg_documents_9 (x := v2_4.toInt) (rfl) (by omega) dX14_nextDocument_17 (fun o_10 ho_10 => ?_)
          obtain ⟨el_11, rfl, hg_el_11⟩ := ho_10
          simp only [va_rf]
          refine lv_astore_n (lv' := [(3, .ref el_11), (0, .ref r0), (1, .null), (2, .int v2_4)]) hx hb dX14_nextDocument_18 rfl hl (by decide) rfl (fun ls hl => ?_)
          refine lv_aload_n hx hb dX14_nextDocument_19 rfl (lv_at hl 0 rfl) ?_
          obtain ⟨v_12, hv_12, hh_13⟩ := hh_8.pin (C := RX12) (T := TX12) (N := 11) hB14 rfl (by decide) hg_el_11 (i := 9) (by decide) rfl
          clear hh_8
          obtain ⟨checked_14, rfl, hlochecked_14, hhichecked_14⟩ := hv_12
          refine j7_readN hx hb hown hK (C := RX12) (T := TX12) (N := 11) rfl hly_14_9 hlk_531 (hh_13.at 0 rfl) dX14_nextDocument_20 ?_
          refine lv_aload_n hx hb dX14_nextDocument_23 rfl (lv_at hl 0 rfl) ?_
          obtain ⟨v_15, hv_15, hh_16⟩ := hh_13.pin (C := RX12) (T := TX12) (N := 11) hB14 rfl (by decide) hg_el_11 (i := 5) (by decide) rfl
          clear hh_13
          obtain ⟨sentences_17, rfl, hlosentences_17, hhisentences_17⟩ := hv_15
          refine j7_readN hx hb hown hK (C := RX12) (T := TX12) (N := 11) rfl hly_14_5 hlk_587 (hh_16.at 0 rfl) dX14_nextDocument_24 ?_
          refine lv_icmp_eq (tgt := 69) hx hb dX14_nextDocument_27 (by decide) (fun c_18 => ?_) (fun c_18 => ?_)
          · skip
            have c_18' : checked_14.toInt = sentences_17.toInt := jb_eq (rfl) (rfl) c_18
            obtain ⟨z_19, ez_19⟩ : ∃ y : Int32, y = v2_4 + 1 := ⟨_, rfl⟩
            refine lv_iinc (v := z_19) (lv' := [(2, .int z_19), (3, .ref el_11), (0, .ref r0), (1, .null)]) hx hb dX14_nextDocument_69 hl (k := 3) rfl (by rw [ez_19]; rfl) (by decide) rfl (fun ls hl => ?_)
            have hz_19 : z_19.toInt = v2_4.toInt + 1 := by rw [ez_19]; exact jb_iadd2 (rfl) (by decide) (by omega)
            refine lv_goto (tgt := 4) hx hb dX14_nextDocument_72 (by decide) ?_
            exact L4 none z_19 _ _ (hh_16.sub (L1 := [(r0, 16, 42, .int documentCount_3)]) [3] rfl (M1 := []) [] rfl (I1 := []) [] rfl) (Or.inl rfl) (by first | omega | (refine ⟨?_, ?_⟩ <;> (first | omega | rfl | assumption | decide | exact Or.inl rfl | exact Or.inr rfl | (simp only; omega)))) (by omega) _ (lv_sub hl [2, 3, 0] rfl)
          · skip
            have c_18' : checked_14.toInt ≠ sentences_17.toInt := jb_eq_n (rfl) (rfl) c_18
            refine lv_aload_n hx hb dX14_nextDocument_30 rfl (lv_at hl 0 rfl) ?_
            refine lv_aload_n hx hb dX14_nextDocument_31 rfl (lv_at hl 1 rfl) ?_
            obtain ⟨v_20, hv_20, hh_21⟩ := hh_16.pin (C := RX14) (T := TX14) (N := 74) hB16 rfl (by decide) hg_r0 (i := 60) (by decide) rfl
            clear hh_16
            obtain ⟨checkOf_22, rfl, hg_checkOf_22⟩ := hv_20
            refine j7_read hx hb hown hK (C := RX14) (T := TX14) (N := 74) rfl hly_16_60 hlk_129 (hh_21.at 0 rfl) dX14_nextDocument_32 ?_
            refine lv_iconst (v := 0) hx hb dX14_nextDocument_35 (by decide) ?_
            refine j7_qald hx hb hK2 hh_21 hB208 0 rfl (by decide) hg_checkOf_22 (x := 0) ((by decide)) (by omega) dX14_nextDocument_36 (fun o_23 ho_23 => ?_)
            rcases ho_23 with rfl | ⟨el_24, rfl, hg_el_24⟩
            · simp only [va_rf]
              refine lv_acmp_eq (rx := (some el_11)) (ry := none) (tgt := 69) hx hb dX14_nextDocument_37 (by decide) (fun c_25 => ?_) (fun c_25 => ?_)
              · skip
                cases c_25
              · skip
                refine lv_aload_n hx hb dX14_nextDocument_40 rfl (lv_at hl 0 rfl) ?_
                refine lv_aload_n hx hb dX14_nextDocument_41 rfl (lv_at hl 1 rfl) ?_
                refine j7_read hx hb hown hK (C := RX14) (T := TX14) (N := 74) rfl hly_16_60 hlk_129 (hh_21.at 0 rfl) dX14_nextDocument_42 ?_
                refine lv_iconst (v := 1) hx hb dX14_nextDocument_45 (by decide) ?_
                refine j7_qald hx hb hK2 hh_21 hB208 0 rfl (by decide) hg_checkOf_22 (x := 1) ((by decide)) (by omega) dX14_nextDocument_46 (fun o_26 ho_26 => ?_)
                rcases ho_26 with rfl | ⟨el_27, rfl, hg_el_27⟩
                · simp only [va_rf]
                  refine lv_acmp_ne (rx := (some el_11)) (ry := none) (tgt := 53) hx hb dX14_nextDocument_47 (by decide) (fun c_28 => ?_) (fun c_28 => ?_)
                  · skip
                    refine lv_aload_n hx hb dX14_nextDocument_53 rfl (lv_at hl 1 rfl) ?_
                    refine lv_aload_n hx hb dX14_nextDocument_54 rfl (lv_at hl 0 rfl) ?_
                    refine va_calli (A0 := jA base) (H0 := s.heap) (va_runV (As := [.ref el_11]) (rest := []) ⟨hx, hb, hml, hown, hts⟩ (uX14_isWaitedFor l dC dI ca base B hB hAp hB14 hB16 hB202 G0 H_4 r0 el_11) (cwV 1 hts (jgV (jWr_90 _ (List.mem_of_getElem? (i := 0) rfl)) (jWr_90 _ (List.mem_of_getElem? (i := 1) rfl)) (jWr_90 _ (List.mem_of_getElem? (i := 2) rfl)) (jWr_1 _ (List.mem_of_getElem? (i := 5) rfl)) (jWr_90 _ (List.mem_of_getElem? (i := 3) rfl))) rfl rfl rfl (by decide +kernel) ⟨by rw [← hR]; exact Nat.le_of_ble_eq_true rfl, by rw [← hR]; exact Nat.le_of_ble_eq_true rfl⟩) ⟨fun a U g mk q => by obtain ⟨q0, q1, q2, qK, q10, q11, q12, q13, q14⟩ := q; exact ⟨q0, q1, q2, jG.calling g mk a qK, (va_K.moved (Vm.Alike.refl U.vm) q10), q11, q12, q13, q14⟩, hh_21.recv (C := RX14) (T := TX14) (N := 74) hB16 rfl (by decide) hg_r0 hK, fun U hU hW => ⟨rfl, hU, hh_21.2.1, hG.step hW hU hh_21.1, va_K.moved hW.alike hK2, hg_el_11, hg_r0, jP.nil, trivial⟩⟩ rfl rfl hl.1 rfl (lv_room (Nat.le_of_ble_eq_true rfl)) dX14_nextDocument_55 ⟨Nat.zero_le _, Nat.zero_le _⟩) hh_21.1 (fun q _ h => h) (fun q h => h) (fun r_30 u_29 t_29 H_29 locs_29 ht_29 hvm_29 hr_30 hb_29 hz_29 hk_29 hS_29 => ?_)
                    rw [ht_29] at hb_29
                    obtain ⟨hb_291, hb_292, hb_293, hb_294, hb_295⟩ := hb_29
                    have hh_29 : jSt (dC, dI) B base G0 G0 EX14_nextDocument s.heap 0 0 [(r0, 16, 60, .ref checkOf_22), (el_11, 14, 5, .int sentences_17), (el_11, 14, 9, .int checked_14), (r0, 16, 41, .ref documents_9), (r0, 16, 42, .int documentCount_3)] [] [] H_29 locs_29 := ((hh_21.call hb_291 hb_292 hb_293 hb_294 hS_29 rfl (L1 := [(r0, 16, 60, .ref checkOf_22), (el_11, 14, 5, .int sentences_17), (el_11, 14, 9, .int checked_14), (r0, 16, 41, .ref documents_9), (r0, 16, 42, .int documentCount_3)]) [0, 1, 2, 3, 4] rfl rfl (M1 := []) [] rfl rfl (I1 := []) [] rfl rfl).more hb_295)
                    clear hh_21 ht_29 hvm_29 hz_29 hk_29 hS_29 hb_291 hb_292 hb_293 hb_294 hb_295
                    obtain ⟨hr_30b, hr_30p⟩ := hr_30
                    have hr_30' := jb_01 hr_30b
                    refine lv_if_eq (tgt := 63) hx hb dX14_nextDocument_58 (by decide) (fun c_31 => ?_) (fun c_31 => ?_)
                    · skip
                      have c_31' : r_30.toInt = 0 := jb_eq (rfl) ((by decide)) c_31
                      refine j7_nld_n hx hb dX14_nextDocument_63 rfl (lv_at hl 2 rfl) ?_
                      refine lv_ifnonnullN hx hb dX14_nextDocument_64 ?_
                      refine lv_aload_n hx hb dX14_nextDocument_67 rfl (lv_at hl 0 rfl) ?_
                      refine lv_astore_n (lv' := [(1, .ref el_11), (3, .ref el_11), (0, .ref r0), (2, .int v2_4)]) hx hb dX14_nextDocument_68 rfl hl (by decide) rfl (fun ls hl => ?_)
                      obtain ⟨z_32, ez_32⟩ : ∃ y : Int32, y = v2_4 + 1 := ⟨_, rfl⟩
                      refine lv_iinc (v := z_32) (lv' := [(2, .int z_32), (1, .ref el_11), (3, .ref el_11), (0, .ref r0)]) hx hb dX14_nextDocument_69 hl (k := 3) rfl (by rw [ez_32]; rfl) (by decide) rfl (fun ls hl => ?_)
                      have hz_32 : z_32.toInt = v2_4.toInt + 1 := by rw [ez_32]; exact jb_iadd2 (rfl) (by decide) (by omega)
                      refine lv_goto (tgt := 4) hx hb dX14_nextDocument_72 (by decide) ?_
                      exact L4 (some el_11) z_32 _ _ (hh_29.sub (L1 := [(r0, 16, 42, .int documentCount_3)]) [4] rfl (M1 := []) [] rfl (I1 := []) [] rfl) (Or.inr ⟨_, rfl, hg_el_11⟩) (by first | omega | (refine ⟨?_, ?_⟩ <;> (first | omega | rfl | assumption | decide | exact Or.inl rfl | exact Or.inr rfl | (simp only; omega)))) (by omega) _ (lv_sub hl [3, 1, 0] rfl)
                    · skip
                      have c_31' : r_30.toInt ≠ 0 := jb_eq_n (rfl) ((by decide)) c_31
                      refine lv_aload_n hx hb dX14_nextDocument_61 rfl (lv_at hl 0 rfl) ?_
                      rw [hQ]
                      exact W.aret (v := .ref el_11) hx hb hr (Or.inl ⟨_, rfl⟩) (Or.inr ⟨_, rfl⟩) (fun t ht hW => ⟨⟨.ref el_11, (), rfl, Or.inr ⟨_, rfl, hg_el_11⟩, hh_29.rt (M1 := []) [] rfl ht⟩, by rw [ht]; try exact hh_29.1.1, fun q h9 hq => by rw [ht]; try exact hh_29.1.2.1 q h9 hq⟩) hh_29.1.2.2 dX14_nextDocument_62
                  · skip
                    cases c_28
                · simp only [va_rf]
                  refine lv_acmp_ne (rx := (some el_11)) (ry := (some el_27)) (tgt := 53) hx hb dX14_nextDocument_47 (by decide) (fun c_33 => ?_) (fun c_33 => ?_)
                  · skip
                    refine lv_aload_n hx hb dX14_nextDocument_53 rfl (lv_at hl 1 rfl) ?_
                    refine lv_aload_n hx hb dX14_nextDocument_54 rfl (lv_at hl 0 rfl) ?_
                    refine va_calli (A0 := jA base) (H0 := s.heap) (va_runV (As := [.ref el_11]) (rest := []) ⟨hx, hb, hml, hown, hts⟩ (uX14_isWaitedFor l dC dI ca base B hB hAp hB14 hB16 hB202 G0 H_4 r0 el_11) (cwV 1 hts (jgV (jWr_90 _ (List.mem_of_getElem? (i := 0) rfl)) (jWr_90 _ (List.mem_of_getElem? (i := 1) rfl)) (jWr_90 _ (List.mem_of_getElem? (i := 2) rfl)) (jWr_1 _ (List.mem_of_getElem? (i := 5) rfl)) (jWr_90 _ (List.mem_of_getElem? (i := 3) rfl))) rfl rfl rfl (by decide +kernel) ⟨by rw [← hR]; exact Nat.le_of_ble_eq_true rfl, by rw [← hR]; exact Nat.le_of_ble_eq_true rfl⟩) ⟨fun a U g mk q => by obtain ⟨q0, q1, q2, qK, q10, q11, q12, q13, q14⟩ := q; exact ⟨q0, q1, q2, jG.calling g mk a qK, (va_K.moved (Vm.Alike.refl U.vm) q10), q11, q12, q13, q14⟩, hh_21.recv (C := RX14) (T := TX14) (N := 74) hB16 rfl (by decide) hg_r0 hK, fun U hU hW => ⟨rfl, hU, hh_21.2.1, hG.step hW hU hh_21.1, va_K.moved hW.alike hK2, hg_el_11, hg_r0, jP.nil, trivial⟩⟩ rfl rfl hl.1 rfl (lv_room (Nat.le_of_ble_eq_true rfl)) dX14_nextDocument_55 ⟨Nat.zero_le _, Nat.zero_le _⟩) hh_21.1 (fun q _ h => h) (fun q h => h) (fun r_35 u_34 t_34 H_34 locs_34 ht_34 hvm_34 hr_35 hb_34 hz_34 hk_34 hS_34 => ?_)
                    rw [ht_34] at hb_34
                    obtain ⟨hb_341, hb_342, hb_343, hb_344, hb_345⟩ := hb_34
                    have hh_34 : jSt (dC, dI) B base G0 G0 EX14_nextDocument s.heap 0 0 [(r0, 16, 60, .ref checkOf_22), (el_11, 14, 5, .int sentences_17), (el_11, 14, 9, .int checked_14), (r0, 16, 41, .ref documents_9), (r0, 16, 42, .int documentCount_3)] [] [] H_34 locs_34 := ((hh_21.call hb_341 hb_342 hb_343 hb_344 hS_34 rfl (L1 := [(r0, 16, 60, .ref checkOf_22), (el_11, 14, 5, .int sentences_17), (el_11, 14, 9, .int checked_14), (r0, 16, 41, .ref documents_9), (r0, 16, 42, .int documentCount_3)]) [0, 1, 2, 3, 4] rfl rfl (M1 := []) [] rfl rfl (I1 := []) [] rfl rfl).more hb_345)
                    clear hh_21 ht_34 hvm_34 hz_34 hk_34 hS_34 hb_341 hb_342 hb_343 hb_344 hb_345
                    obtain ⟨hr_35b, hr_35p⟩ := hr_35
                    have hr_35' := jb_01 hr_35b
                    refine lv_if_eq (tgt := 63) hx hb dX14_nextDocument_58 (by decide) (fun c_36 => ?_) (fun c_36 => ?_)
                    · skip
                      have c_36' : r_35.toInt = 0 := jb_eq (rfl) ((by decide)) c_36
                      refine j7_nld_n hx hb dX14_nextDocument_63 rfl (lv_at hl 2 rfl) ?_
                      refine lv_ifnonnullN hx hb dX14_nextDocument_64 ?_
                      refine lv_aload_n hx hb dX14_nextDocument_67 rfl (lv_at hl 0 rfl) ?_
                      refine lv_astore_n (lv' := [(1, .ref el_11), (3, .ref el_11), (0, .ref r0), (2, .int v2_4)]) hx hb dX14_nextDocument_68 rfl hl (by decide) rfl (fun ls hl => ?_)
                      obtain ⟨z_37, ez_37⟩ : ∃ y : Int32, y = v2_4 + 1 := ⟨_, rfl⟩
                      refine lv_iinc (v := z_37) (lv' := [(2, .int z_37), (1, .ref el_11), (3, .ref el_11), (0, .ref r0)]) hx hb dX14_nextDocument_69 hl (k := 3) rfl (by rw [ez_37]; rfl) (by decide) rfl (fun ls hl => ?_)
                      have hz_37 : z_37.toInt = v2_4.toInt + 1 := by rw [ez_37]; exact jb_iadd2 (rfl) (by decide) (by omega)
                      refine lv_goto (tgt := 4) hx hb dX14_nextDocument_72 (by decide) ?_
                      exact L4 (some el_11) z_37 _ _ (hh_34.sub (L1 := [(r0, 16, 42, .int documentCount_3)]) [4] rfl (M1 := []) [] rfl (I1 := []) [] rfl) (Or.inr ⟨_, rfl, hg_el_11⟩) (by first | omega | (refine ⟨?_, ?_⟩ <;> (first | omega | rfl | assumption | decide | exact Or.inl rfl | exact Or.inr rfl | (simp only; omega)))) (by omega) _ (lv_sub hl [3, 1, 0] rfl)
                    · skip
                      have c_36' : r_35.toInt ≠ 0 := jb_eq_n (rfl) ((by decide)) c_36
                      refine lv_aload_n hx hb dX14_nextDocument_61 rfl (lv_at hl 0 rfl) ?_
                      rw [hQ]
                      exact W.aret (v := .ref el_11) hx hb hr (Or.inl ⟨_, rfl⟩) (Or.inr ⟨_, rfl⟩) (fun t ht hW => ⟨⟨.ref el_11, (), rfl, Or.inr ⟨_, rfl, hg_el_11⟩, hh_34.rt (M1 := []) [] rfl ht⟩, by rw [ht]; try exact hh_34.1.1, fun q h9 hq => by rw [ht]; try exact hh_34.1.2.1 q h9 hq⟩) hh_34.1.2.2 dX14_nextDocument_62
                  · skip
                    refine lv_goto (tgt := 69) hx hb dX14_nextDocument_50 (by decide) ?_
                    obtain ⟨z_38, ez_38⟩ : ∃ y : Int32, y = v2_4 + 1 := ⟨_, rfl⟩
                    refine lv_iinc (v := z_38) (lv' := [(2, .int z_38), (3, .ref el_11), (0, .ref r0), (1, .null)]) hx hb dX14_nextDocument_69 hl (k := 3) rfl (by rw [ez_38]; rfl) (by decide) rfl (fun ls hl => ?_)
                    have hz_38 : z_38.toInt = v2_4.toInt + 1 := by rw [ez_38]; exact jb_iadd2 (rfl) (by decide) (by omega)
                    refine lv_goto (tgt := 4) hx hb dX14_nextDocument_72 (by decide) ?_
                    exact L4 none z_38 _ _ (hh_21.sub (L1 := [(r0, 16, 42, .int documentCount_3)]) [4] rfl (M1 := []) [] rfl (I1 := []) [] rfl) (Or.inl rfl) (by first | omega | (refine ⟨?_, ?_⟩ <;> (first | omega | rfl | assumption | decide | exact Or.inl rfl | exact Or.inr rfl | (simp only; omega)))) (by omega) _ (lv_sub hl [2, 3, 0] rfl)
            · simp only [va_rf]
              refine lv_acmp_eq (rx := (some el_11)) (ry := (some el_24)) (tgt := 69) hx hb dX14_nextDocument_37 (by decide) (fun c_39 => ?_) (fun c_39 => ?_)
              · skip
                obtain ⟨z_40, ez_40⟩ : ∃ y : Int32, y = v2_4 + 1 := ⟨_, rfl⟩
                refine lv_iinc (v := z_40) (lv' := [(2, .int z_40), (3, .ref el_11), (0, .ref r0), (1, .null)]) hx hb dX14_nextDocument_69 hl (k := 3) rfl (by rw [ez_40]; rfl) (by decide) rfl (fun ls hl => ?_)
                have hz_40 : z_40.toInt = v2_4.toInt + 1 := by rw [ez_40]; exact jb_iadd2 (rfl) (by decide) (by omega)
                refine lv_goto (tgt := 4) hx hb dX14_nextDocument_72 (by decide) ?_
                exact L4 none z_40 _ _ (hh_21.sub (L1 := [(r0, 16, 42, .int documentCount_3)]) [4] rfl (M1 := []) [] rfl (I1 := []) [] rfl) (Or.inl rfl) (by first | omega | (refine ⟨?_, ?_⟩ <;> (first | omega | rfl | assumption | decide | exact Or.inl rfl | exact Or.inr rfl | (simp only; omega)))) (by omega) _ (lv_sub hl [2, 3, 0] rfl)
              · skip
                refine lv_aload_n hx hb dX14_nextDocument_40 rfl (lv_at hl 0 rfl) ?_
                refine lv_aload_n hx hb dX14_nextDocument_41 rfl (lv_at hl 1 rfl) ?_
                refine j7_read hx hb hown hK (C := RX14) (T := TX14) (N := 74) rfl hly_16_60 hlk_129 (hh_21.at 0 rfl) dX14_nextDocument_42 ?_
                refine lv_iconst (v := 1) hx hb dX14_nextDocument_45 (by decide) ?_
                refine j7_qald hx hb hK2 hh_21 hB208 0 rfl (by decide) hg_checkOf_22 (x := 1) ((by decide)) (by omega) dX14_nextDocument_46 (fun o_41 ho_41 => ?_)
                rcases ho_41 with rfl | ⟨el_42, rfl, hg_el_42⟩
                · simp only [va_rf]
                  refine lv_acmp_ne (rx := (some el_11)) (ry := none) (tgt := 53) hx hb dX14_nextDocument_47 (by decide) (fun c_43 => ?_) (fun c_43 => ?_)
                  · skip
                    refine lv_aload_n hx hb dX14_nextDocument_53 rfl (lv_at hl 1 rfl) ?_
                    refine lv_aload_n hx hb dX14_nextDocument_54 rfl (lv_at hl 0 rfl) ?_
                    refine va_calli (A0 := jA base) (H0 := s.heap) (va_runV (As := [.ref el_11]) (rest := []) ⟨hx, hb, hml, hown, hts⟩ (uX14_isWaitedFor l dC dI ca base B hB hAp hB14 hB16 hB202 G0 H_4 r0 el_11) (cwV 1 hts (jgV (jWr_90 _ (List.mem_of_getElem? (i := 0) rfl)) (jWr_90 _ (List.mem_of_getElem? (i := 1) rfl)) (jWr_90 _ (List.mem_of_getElem? (i := 2) rfl)) (jWr_1 _ (List.mem_of_getElem? (i := 5) rfl)) (jWr_90 _ (List.mem_of_getElem? (i := 3) rfl))) rfl rfl rfl (by decide +kernel) ⟨by rw [← hR]; exact Nat.le_of_ble_eq_true rfl, by rw [← hR]; exact Nat.le_of_ble_eq_true rfl⟩) ⟨fun a U g mk q => by obtain ⟨q0, q1, q2, qK, q10, q11, q12, q13, q14⟩ := q; exact ⟨q0, q1, q2, jG.calling g mk a qK, (va_K.moved (Vm.Alike.refl U.vm) q10), q11, q12, q13, q14⟩, hh_21.recv (C := RX14) (T := TX14) (N := 74) hB16 rfl (by decide) hg_r0 hK, fun U hU hW => ⟨rfl, hU, hh_21.2.1, hG.step hW hU hh_21.1, va_K.moved hW.alike hK2, hg_el_11, hg_r0, jP.nil, trivial⟩⟩ rfl rfl hl.1 rfl (lv_room (Nat.le_of_ble_eq_true rfl)) dX14_nextDocument_55 ⟨Nat.zero_le _, Nat.zero_le _⟩) hh_21.1 (fun q _ h => h) (fun q h => h) (fun r_45 u_44 t_44 H_44 locs_44 ht_44 hvm_44 hr_45 hb_44 hz_44 hk_44 hS_44 => ?_)
                    rw [ht_44] at hb_44
                    obtain ⟨hb_441, hb_442, hb_443, hb_444, hb_445⟩ := hb_44
                    have hh_44 : jSt (dC, dI) B base G0 G0 EX14_nextDocument s.heap 0 0 [(r0, 16, 60, .ref checkOf_22), (el_11, 14, 5, .int sentences_17), (el_11, 14, 9, .int checked_14), (r0, 16, 41, .ref documents_9), (r0, 16, 42, .int documentCount_3)] [] [] H_44 locs_44 := ((hh_21.call hb_441 hb_442 hb_443 hb_444 hS_44 rfl (L1 := [(r0, 16, 60, .ref checkOf_22), (el_11, 14, 5, .int sentences_17), (el_11, 14, 9, .int checked_14), (r0, 16, 41, .ref documents_9), (r0, 16, 42, .int documentCount_3)]) [0, 1, 2, 3, 4] rfl rfl (M1 := []) [] rfl rfl (I1 := []) [] rfl rfl).more hb_445)
                    clear hh_21 ht_44 hvm_44 hz_44 hk_44 hS_44 hb_441 hb_442 hb_443 hb_444 hb_445
                    obtain ⟨hr_45b, hr_45p⟩ := hr_45
                    have hr_45' := jb_01 hr_45b
                    refine lv_if_eq (tgt := 63) hx hb dX14_nextDocument_58 (by decide) (fun c_46 => ?_) (fun c_46 => ?_)
                    · skip
                      have c_46' : r_45.toInt = 0 := jb_eq (rfl) ((by decide)) c_46
                      refine j7_nld_n hx hb dX14_nextDocument_63 rfl (lv_at hl 2 rfl) ?_
                      refine lv_ifnonnullN hx hb dX14_nextDocument_64 ?_
                      refine lv_aload_n hx hb dX14_nextDocument_67 rfl (lv_at hl 0 rfl) ?_
                      refine lv_astore_n (lv' := [(1, .ref el_11), (3, .ref el_11), (0, .ref r0), (2, .int v2_4)]) hx hb dX14_nextDocument_68 rfl hl (by decide) rfl (fun ls hl => ?_)
                      obtain ⟨z_47, ez_47⟩ : ∃ y : Int32, y = v2_4 + 1 := ⟨_, rfl⟩
                      refine lv_iinc (v := z_47) (lv' := [(2, .int z_47), (1, .ref el_11), (3, .ref el_11), (0, .ref r0)]) hx hb dX14_nextDocument_69 hl (k := 3) rfl (by rw [ez_47]; rfl) (by decide) rfl (fun ls hl => ?_)
                      have hz_47 : z_47.toInt = v2_4.toInt + 1 := by rw [ez_47]; exact jb_iadd2 (rfl) (by decide) (by omega)
                      refine lv_goto (tgt := 4) hx hb dX14_nextDocument_72 (by decide) ?_
                      exact L4 (some el_11) z_47 _ _ (hh_44.sub (L1 := [(r0, 16, 42, .int documentCount_3)]) [4] rfl (M1 := []) [] rfl (I1 := []) [] rfl) (Or.inr ⟨_, rfl, hg_el_11⟩) (by first | omega | (refine ⟨?_, ?_⟩ <;> (first | omega | rfl | assumption | decide | exact Or.inl rfl | exact Or.inr rfl | (simp only; omega)))) (by omega) _ (lv_sub hl [3, 1, 0] rfl)
                    · skip
                      have c_46' : r_45.toInt ≠ 0 := jb_eq_n (rfl) ((by decide)) c_46
                      refine lv_aload_n hx hb dX14_nextDocument_61 rfl (lv_at hl 0 rfl) ?_
                      rw [hQ]
                      exact W.aret (v := .ref el_11) hx hb hr (Or.inl ⟨_, rfl⟩) (Or.inr ⟨_, rfl⟩) (fun t ht hW => ⟨⟨.ref el_11, (), rfl, Or.inr ⟨_, rfl, hg_el_11⟩, hh_44.rt (M1 := []) [] rfl ht⟩, by rw [ht]; try exact hh_44.1.1, fun q h9 hq => by rw [ht]; try exact hh_44.1.2.1 q h9 hq⟩) hh_44.1.2.2 dX14_nextDocument_62
                  · skip
                    cases c_43
                · simp only [va_rf]
                  refine lv_acmp_ne (rx := (some el_11)) (ry := (some el_42)) (tgt := 53) hx hb dX14_nextDocument_47 (by decide) (fun c_48 => ?_) (fun c_48 => ?_)
                  · skip
                    refine lv_aload_n hx hb dX14_nextDocument_53 rfl (lv_at hl 1 rfl) ?_
                    refine lv_aload_n hx hb dX14_nextDocument_54 rfl (lv_at hl 0 rfl) ?_
                    refine va_calli (A0 := jA base) (H0 := s.heap) (va_runV (As := [.ref el_11]) (rest := []) ⟨hx, hb, hml, hown, hts⟩ (uX14_isWaitedFor l dC dI ca base B hB hAp hB14 hB16 hB202 G0 H_4 r0 el_11) (cwV 1 hts (jgV (jWr_90 _ (List.mem_of_getElem? (i := 0) rfl)) (jWr_90 _ (List.mem_of_getElem? (i := 1) rfl)) (jWr_90 _ (List.mem_of_getElem? (i := 2) rfl)) (jWr_1 _ (List.mem_of_getElem? (i := 5) rfl)) (jWr_90 _ (List.mem_of_getElem? (i := 3) rfl))) rfl rfl rfl (by decide +kernel) ⟨by rw [← hR]; exact Nat.le_of_ble_eq_true rfl, by rw [← hR]; exact Nat.le_of_ble_eq_true rfl⟩) ⟨fun a U g mk q => by obtain ⟨q0, q1, q2, qK, q10, q11, q12, q13, q14⟩ := q; exact ⟨q0, q1, q2, jG.calling g mk a qK, (va_K.moved (Vm.Alike.refl U.vm) q10), q11, q12, q13, q14⟩, hh_21.recv (C := RX14) (T := TX14) (N := 74) hB16 rfl (by decide) hg_r0 hK, fun U hU hW => ⟨rfl, hU, hh_21.2.1, hG.step hW hU hh_21.1, va_K.moved hW.alike hK2, hg_el_11, hg_r0, jP.nil, trivial⟩⟩ rfl rfl hl.1 rfl (lv_room (Nat.le_of_ble_eq_true rfl)) dX14_nextDocument_55 ⟨Nat.zero_le _, Nat.zero_le _⟩) hh_21.1 (fun q _ h => h) (fun q h => h) (fun r_50 u_49 t_49 H_49 locs_49 ht_49 hvm_49 hr_50 hb_49 hz_49 hk_49 hS_49 => ?_)
                    rw [ht_49] at hb_49
                    obtain ⟨hb_491, hb_492, hb_493, hb_494, hb_495⟩ := hb_49
                    have hh_49 : jSt (dC, dI) B base G0 G0 EX14_nextDocument s.heap 0 0 [(r0, 16, 60, .ref checkOf_22), (el_11, 14, 5, .int sentences_17), (el_11, 14, 9, .int checked_14), (r0, 16, 41, .ref documents_9), (r0, 16, 42, .int documentCount_3)] [] [] H_49 locs_49 := ((hh_21.call hb_491 hb_492 hb_493 hb_494 hS_49 rfl (L1 := [(r0, 16, 60, .ref checkOf_22), (el_11, 14, 5, .int sentences_17), (el_11, 14, 9, .int checked_14), (r0, 16, 41, .ref documents_9), (r0, 16, 42, .int documentCount_3)]) [0, 1, 2, 3, 4] rfl rfl (M1 := []) [] rfl rfl (I1 := []) [] rfl rfl).more hb_495)
                    clear hh_21 ht_49 hvm_49 hz_49 hk_49 hS_49 hb_491 hb_492 hb_493 hb_494 hb_495
                    obtain ⟨hr_50b, hr_50p⟩ := hr_50
                    have hr_50' := jb_01 hr_50b
                    refine lv_if_eq (tgt := 63) hx hb dX14_nextDocument_58 (by decide) (fun c_51 => ?_) (fun c_51 => ?_)
                    · skip
                      have c_51' : r_50.toInt = 0 := jb_eq (rfl) ((by decide)) c_51
                      refine j7_nld_n hx hb dX14_nextDocument_63 rfl (lv_at hl 2 rfl) ?_
                      refine lv_ifnonnullN hx hb dX14_nextDocument_64 ?_
                      refine lv_aload_n hx hb dX14_nextDocument_67 rfl (lv_at hl 0 rfl) ?_
                      refine lv_astore_n (lv' := [(1, .ref el_11), (3, .ref el_11), (0, .ref r0), (2, .int v2_4)]) hx hb dX14_nextDocument_68 rfl hl (by decide) rfl (fun ls hl => ?_)
                      obtain ⟨z_52, ez_52⟩ : ∃ y : Int32, y = v2_4 + 1 := ⟨_, rfl⟩
                      refine lv_iinc (v := z_52) (lv' := [(2, .int z_52), (1, .ref el_11), (3, .ref el_11), (0, .ref r0)]) hx hb dX14_nextDocument_69 hl (k := 3) rfl (by rw [ez_52]; rfl) (by decide) rfl (fun ls hl => ?_)
                      have hz_52 : z_52.toInt = v2_4.toInt + 1 := by rw [ez_52]; exact jb_iadd2 (rfl) (by decide) (by omega)
                      refine lv_goto (tgt := 4) hx hb dX14_nextDocument_72 (by decide) ?_
                      exact L4 (some el_11) z_52 _ _ (hh_49.sub (L1 := [(r0, 16, 42, .int documentCount_3)]) [4] rfl (M1 := []) [] rfl (I1 := []) [] rfl) (Or.inr ⟨_, rfl, hg_el_11⟩) (by first | omega | (refine ⟨?_, ?_⟩ <;> (first | omega | rfl | assumption | decide | exact Or.inl rfl | exact Or.inr rfl | (simp only; omega)))) (by omega) _ (lv_sub hl [3, 1, 0] rfl)
                    · skip
                      have c_51' : r_50.toInt ≠ 0 := jb_eq_n (rfl) ((by decide)) c_51
                      refine lv_aload_n hx hb dX14_nextDocument_61 rfl (lv_at hl 0 rfl) ?_
                      rw [hQ]
                      exact W.aret (v := .ref el_11) hx hb hr (Or.inl ⟨_, rfl⟩) (Or.inr ⟨_, rfl⟩) (fun t ht hW => ⟨⟨.ref el_11, (), rfl, Or.inr ⟨_, rfl, hg_el_11⟩, hh_49.rt (M1 := []) [] rfl ht⟩, by rw [ht]; try exact hh_49.1.1, fun q h9 hq => by rw [ht]; try exact hh_49.1.2.1 q h9 hq⟩) hh_49.1.2.2 dX14_nextDocument_62
                  · skip
                    refine lv_goto (tgt := 69) hx hb dX14_nextDocument_50 (by decide) ?_
                    obtain ⟨z_53, ez_53⟩ : ∃ y : Int32, y = v2_4 + 1 := ⟨_, rfl⟩
                    refine lv_iinc (v := z_53) (lv' := [(2, .int z_53), (3, .ref el_11), (0, .ref r0), (1, .null)]) hx hb dX14_nextDocument_69 hl (k := 3) rfl (by rw [ez_53]; rfl) (by decide) rfl (fun ls hl => ?_)
                    have hz_53 : z_53.toInt = v2_4.toInt + 1 := by rw [ez_53]; exact jb_iadd2 (rfl) (by decide) (by omega)
                    refine lv_goto (tgt := 4) hx hb dX14_nextDocument_72 (by decide) ?_
                    exact L4 none z_53 _ _ (hh_21.sub (L1 := [(r0, 16, 42, .int documentCount_3)]) [4] rfl (M1 := []) [] rfl (I1 := []) [] rfl) (Or.inl rfl) (by first | omega | (refine ⟨?_, ?_⟩ <;> (first | omega | rfl | assumption | decide | exact Or.inl rfl | exact Or.inr rfl | (simp only; omega)))) (by omega) _ (lv_sub hl [2, 3, 0] rfl)
      · have hl : lv_has ls 4 [(0, .ref r0), (1, .ref nv_5), (2, .int v2_4)] := hl
        refine lv_iload_n hx hb dX14_nextDocument_4 rfl (lv_at hl 2 rfl) ?_
        refine lv_aload_n hx hb dX14_nextDocument_5 rfl (lv_at hl 0 rfl) ?_
        refine j7_read hx hb hown hK (C := RX14) (T := TX14) (N := 74) rfl hly_16_42 hlk_505 (hh_4.at 0 rfl) dX14_nextDocument_6 ?_
        refine lv_icmp_ge (tgt := 75) hx hb dX14_nextDocument_9 (by decide) (fun c_54 => ?_) (fun c_54 => ?_)
        · skip
          have c_54' : v2_4.toInt ≥ documentCount_3.toInt := jb_ge (rfl) (rfl) c_54
          refine lv_aload_n hx hb dX14_nextDocument_75 rfl (lv_at hl 1 rfl) ?_
          rw [hQ]
          exact W.aret (v := .ref nv_5) hx hb hr (Or.inl ⟨_, rfl⟩) (Or.inr ⟨_, rfl⟩) (fun t ht hW => ⟨⟨.ref nv_5, (), rfl, Or.inr ⟨_, rfl, hg_nv_5⟩, hh_4.rt (M1 := []) [] rfl ht⟩, by rw [ht]; try exact hh_4.1.1, fun q h9 hq => by rw [ht]; try exact hh_4.1.2.1 q h9 hq⟩) hh_4.1.2.2 dX14_nextDocument_76
        · skip
          have c_54' : v2_4.toInt < documentCount_3.toInt := jb_ge_n (rfl) (rfl) c_54
          refine lv_aload_n hx hb dX14_nextDocument_12 rfl (lv_at hl 0 rfl) ?_
          obtain ⟨v_55, hv_55, hh_56⟩ := hh_4.pin (C := RX14) (T := TX14) (N := 74) hB16 rfl (by decide) hg_r0 (i := 41) (by decide) rfl
          clear hh_4
          obtain ⟨documents_57, rfl, hg_documents_57⟩ := hv_55
          refine j7_read hx hb hown hK (C := RX14) (T := TX14) (N := 74) rfl hly_16_41 hlk_74 (hh_56.at 0 rfl) dX14_nextDocument_13 ?_
          refine lv_iload_n hx hb dX14_nextDocument_16 rfl (lv_at hl 2 rfl) ?_
          refine j7_qald hx hb hK2 hh_56 hB201 0 rfl (by decide) hg_documents_57 (x := v2_4.toInt) (rfl) (by omega) dX14_nextDocument_17 (fun o_58 ho_58 => ?_)
          obtain ⟨el_59, rfl, hg_el_59⟩ := ho_58
          simp only [va_rf]
          refine lv_astore_n (lv' := [(3, .ref el_59), (0, .ref r0), (1, .ref nv_5), (2, .int v2_4)]) hx hb dX14_nextDocument_18 rfl hl (by decide) rfl (fun ls hl => ?_)
          refine lv_aload_n hx hb dX14_nextDocument_19 rfl (lv_at hl 0 rfl) ?_
          obtain ⟨v_60, hv_60, hh_61⟩ := hh_56.pin (C := RX12) (T := TX12) (N := 11) hB14 rfl (by decide) hg_el_59 (i := 9) (by decide) rfl
          clear hh_56
          obtain ⟨checked_62, rfl, hlochecked_62, hhichecked_62⟩ := hv_60
          refine j7_readN hx hb hown hK (C := RX12) (T := TX12) (N := 11) rfl hly_14_9 hlk_531 (hh_61.at 0 rfl) dX14_nextDocument_20 ?_
          refine lv_aload_n hx hb dX14_nextDocument_23 rfl (lv_at hl 0 rfl) ?_
          obtain ⟨v_63, hv_63, hh_64⟩ := hh_61.pin (C := RX12) (T := TX12) (N := 11) hB14 rfl (by decide) hg_el_59 (i := 5) (by decide) rfl
          clear hh_61
          obtain ⟨sentences_65, rfl, hlosentences_65, hhisentences_65⟩ := hv_63
          refine j7_readN hx hb hown hK (C := RX12) (T := TX12) (N := 11) rfl hly_14_5 hlk_587 (hh_64.at 0 rfl) dX14_nextDocument_24 ?_
          refine lv_icmp_eq (tgt := 69) hx hb dX14_nextDocument_27 (by decide) (fun c_66 => ?_) (fun c_66 => ?_)
          · skip
            have c_66' : checked_62.toInt = sentences_65.toInt := jb_eq (rfl) (rfl) c_66
            obtain ⟨z_67, ez_67⟩ : ∃ y : Int32, y = v2_4 + 1 := ⟨_, rfl⟩
            refine lv_iinc (v := z_67) (lv' := [(2, .int z_67), (3, .ref el_59), (0, .ref r0), (1, .ref nv_5)]) hx hb dX14_nextDocument_69 hl (k := 3) rfl (by rw [ez_67]; rfl) (by decide) rfl (fun ls hl => ?_)
            have hz_67 : z_67.toInt = v2_4.toInt + 1 := by rw [ez_67]; exact jb_iadd2 (rfl) (by decide) (by omega)
            refine lv_goto (tgt := 4) hx hb dX14_nextDocument_72 (by decide) ?_
            exact L4 (some nv_5) z_67 _ _ (hh_64.sub (L1 := [(r0, 16, 42, .int documentCount_3)]) [3] rfl (M1 := []) [] rfl (I1 := []) [] rfl) (Or.inr ⟨_, rfl, hg_nv_5⟩) (by first | omega | (refine ⟨?_, ?_⟩ <;> (first | omega | rfl | assumption | decide | exact Or.inl rfl | exact Or.inr rfl | (simp only; omega)))) (by omega) _ (lv_sub hl [2, 3, 0] rfl)
          · skip
            have c_66' : checked_62.toInt ≠ sentences_65.toInt := jb_eq_n (rfl) (rfl) c_66
            refine lv_aload_n hx hb dX14_nextDocument_30 rfl (lv_at hl 0 rfl) ?_
            refine lv_aload_n hx hb dX14_nextDocument_31 rfl (lv_at hl 1 rfl) ?_
            obtain ⟨v_68, hv_68, hh_69⟩ := hh_64.pin (C := RX14) (T := TX14) (N := 74) hB16 rfl (by decide) hg_r0 (i := 60) (by decide) rfl
            clear hh_64
            obtain ⟨checkOf_70, rfl, hg_checkOf_70⟩ := hv_68
            refine j7_read hx hb hown hK (C := RX14) (T := TX14) (N := 74) rfl hly_16_60 hlk_129 (hh_69.at 0 rfl) dX14_nextDocument_32 ?_
            refine lv_iconst (v := 0) hx hb dX14_nextDocument_35 (by decide) ?_
            refine j7_qald hx hb hK2 hh_69 hB208 0 rfl (by decide) hg_checkOf_70 (x := 0) ((by decide)) (by omega) dX14_nextDocument_36 (fun o_71 ho_71 => ?_)
            rcases ho_71 with rfl | ⟨el_72, rfl, hg_el_72⟩
            · simp only [va_rf]
              refine lv_acmp_eq (rx := (some el_59)) (ry := none) (tgt := 69) hx hb dX14_nextDocument_37 (by decide) (fun c_73 => ?_) (fun c_73 => ?_)
              · skip
                cases c_73
              · skip
                refine lv_aload_n hx hb dX14_nextDocument_40 rfl (lv_at hl 0 rfl) ?_
                refine lv_aload_n hx hb dX14_nextDocument_41 rfl (lv_at hl 1 rfl) ?_
                refine j7_read hx hb hown hK (C := RX14) (T := TX14) (N := 74) rfl hly_16_60 hlk_129 (hh_69.at 0 rfl) dX14_nextDocument_42 ?_
                refine lv_iconst (v := 1) hx hb dX14_nextDocument_45 (by decide) ?_
                refine j7_qald hx hb hK2 hh_69 hB208 0 rfl (by decide) hg_checkOf_70 (x := 1) ((by decide)) (by omega) dX14_nextDocument_46 (fun o_74 ho_74 => ?_)
                rcases ho_74 with rfl | ⟨el_75, rfl, hg_el_75⟩
                · simp only [va_rf]
                  refine lv_acmp_ne (rx := (some el_59)) (ry := none) (tgt := 53) hx hb dX14_nextDocument_47 (by decide) (fun c_76 => ?_) (fun c_76 => ?_)
                  · skip
                    refine lv_aload_n hx hb dX14_nextDocument_53 rfl (lv_at hl 1 rfl) ?_
                    refine lv_aload_n hx hb dX14_nextDocument_54 rfl (lv_at hl 0 rfl) ?_
                    refine va_calli (A0 := jA base) (H0 := s.heap) (va_runV (As := [.ref el_59]) (rest := []) ⟨hx, hb, hml, hown, hts⟩ (uX14_isWaitedFor l dC dI ca base B hB hAp hB14 hB16 hB202 G0 H_4 r0 el_59) (cwV 1 hts (jgV (jWr_90 _ (List.mem_of_getElem? (i := 0) rfl)) (jWr_90 _ (List.mem_of_getElem? (i := 1) rfl)) (jWr_90 _ (List.mem_of_getElem? (i := 2) rfl)) (jWr_1 _ (List.mem_of_getElem? (i := 5) rfl)) (jWr_90 _ (List.mem_of_getElem? (i := 3) rfl))) rfl rfl rfl (by decide +kernel) ⟨by rw [← hR]; exact Nat.le_of_ble_eq_true rfl, by rw [← hR]; exact Nat.le_of_ble_eq_true rfl⟩) ⟨fun a U g mk q => by obtain ⟨q0, q1, q2, qK, q10, q11, q12, q13, q14⟩ := q; exact ⟨q0, q1, q2, jG.calling g mk a qK, (va_K.moved (Vm.Alike.refl U.vm) q10), q11, q12, q13, q14⟩, hh_69.recv (C := RX14) (T := TX14) (N := 74) hB16 rfl (by decide) hg_r0 hK, fun U hU hW => ⟨rfl, hU, hh_69.2.1, hG.step hW hU hh_69.1, va_K.moved hW.alike hK2, hg_el_59, hg_r0, jP.nil, trivial⟩⟩ rfl rfl hl.1 rfl (lv_room (Nat.le_of_ble_eq_true rfl)) dX14_nextDocument_55 ⟨Nat.zero_le _, Nat.zero_le _⟩) hh_69.1 (fun q _ h => h) (fun q h => h) (fun r_78 u_77 t_77 H_77 locs_77 ht_77 hvm_77 hr_78 hb_77 hz_77 hk_77 hS_77 => ?_)
                    rw [ht_77] at hb_77
                    obtain ⟨hb_771, hb_772, hb_773, hb_774, hb_775⟩ := hb_77
                    have hh_77 : jSt (dC, dI) B base G0 G0 EX14_nextDocument s.heap 0 0 [(r0, 16, 60, .ref checkOf_70), (el_59, 14, 5, .int sentences_65), (el_59, 14, 9, .int checked_62), (r0, 16, 41, .ref documents_57), (r0, 16, 42, .int documentCount_3)] [] [] H_77 locs_77 := ((hh_69.call hb_771 hb_772 hb_773 hb_774 hS_77 rfl (L1 := [(r0, 16, 60, .ref checkOf_70), (el_59, 14, 5, .int sentences_65), (el_59, 14, 9, .int checked_62), (r0, 16, 41, .ref documents_57), (r0, 16, 42, .int documentCount_3)]) [0, 1, 2, 3, 4] rfl rfl (M1 := []) [] rfl rfl (I1 := []) [] rfl rfl).more hb_775)
                    clear hh_69 ht_77 hvm_77 hz_77 hk_77 hS_77 hb_771 hb_772 hb_773 hb_774 hb_775
                    obtain ⟨hr_78b, hr_78p⟩ := hr_78
                    have hr_78' := jb_01 hr_78b
                    refine lv_if_eq (tgt := 63) hx hb dX14_nextDocument_58 (by decide) (fun c_79 => ?_) (fun c_79 => ?_)
                    · skip
                      have c_79' : r_78.toInt = 0 := jb_eq (rfl) ((by decide)) c_79
                      refine lv_aload_n hx hb dX14_nextDocument_63 rfl (lv_at hl 2 rfl) ?_
                      refine lv_ifnonnull (tgt := 69) hx hb dX14_nextDocument_64 (by decide) ?_
                      obtain ⟨z_80, ez_80⟩ : ∃ y : Int32, y = v2_4 + 1 := ⟨_, rfl⟩
                      refine lv_iinc (v := z_80) (lv' := [(2, .int z_80), (3, .ref el_59), (0, .ref r0), (1, .ref nv_5)]) hx hb dX14_nextDocument_69 hl (k := 3) rfl (by rw [ez_80]; rfl) (by decide) rfl (fun ls hl => ?_)
                      have hz_80 : z_80.toInt = v2_4.toInt + 1 := by rw [ez_80]; exact jb_iadd2 (rfl) (by decide) (by omega)
                      refine lv_goto (tgt := 4) hx hb dX14_nextDocument_72 (by decide) ?_
                      exact L4 (some nv_5) z_80 _ _ (hh_77.sub (L1 := [(r0, 16, 42, .int documentCount_3)]) [4] rfl (M1 := []) [] rfl (I1 := []) [] rfl) (Or.inr ⟨_, rfl, hg_nv_5⟩) (by first | omega | (refine ⟨?_, ?_⟩ <;> (first | omega | rfl | assumption | decide | exact Or.inl rfl | exact Or.inr rfl | (simp only; omega)))) (by omega) _ (lv_sub hl [2, 3, 0] rfl)
                    · skip
                      have c_79' : r_78.toInt ≠ 0 := jb_eq_n (rfl) ((by decide)) c_79
                      refine lv_aload_n hx hb dX14_nextDocument_61 rfl (lv_at hl 0 rfl) ?_
                      rw [hQ]
                      exact W.aret (v := .ref el_59) hx hb hr (Or.inl ⟨_, rfl⟩) (Or.inr ⟨_, rfl⟩) (fun t ht hW => ⟨⟨.ref el_59, (), rfl, Or.inr ⟨_, rfl, hg_el_59⟩, hh_77.rt (M1 := []) [] rfl ht⟩, by rw [ht]; try exact hh_77.1.1, fun q h9 hq => by rw [ht]; try exact hh_77.1.2.1 q h9 hq⟩) hh_77.1.2.2 dX14_nextDocument_62
                  · skip
                    cases c_76
                · simp only [va_rf]
                  refine lv_acmp_ne (rx := (some el_59)) (ry := (some el_75)) (tgt := 53) hx hb dX14_nextDocument_47 (by decide) (fun c_81 => ?_) (fun c_81 => ?_)
                  · skip
                    refine lv_aload_n hx hb dX14_nextDocument_53 rfl (lv_at hl 1 rfl) ?_
                    refine lv_aload_n hx hb dX14_nextDocument_54 rfl (lv_at hl 0 rfl) ?_
                    refine va_calli (A0 := jA base) (H0 := s.heap) (va_runV (As := [.ref el_59]) (rest := []) ⟨hx, hb, hml, hown, hts⟩ (uX14_isWaitedFor l dC dI ca base B hB hAp hB14 hB16 hB202 G0 H_4 r0 el_59) (cwV 1 hts (jgV (jWr_90 _ (List.mem_of_getElem? (i := 0) rfl)) (jWr_90 _ (List.mem_of_getElem? (i := 1) rfl)) (jWr_90 _ (List.mem_of_getElem? (i := 2) rfl)) (jWr_1 _ (List.mem_of_getElem? (i := 5) rfl)) (jWr_90 _ (List.mem_of_getElem? (i := 3) rfl))) rfl rfl rfl (by decide +kernel) ⟨by rw [← hR]; exact Nat.le_of_ble_eq_true rfl, by rw [← hR]; exact Nat.le_of_ble_eq_true rfl⟩) ⟨fun a U g mk q => by obtain ⟨q0, q1, q2, qK, q10, q11, q12, q13, q14⟩ := q; exact ⟨q0, q1, q2, jG.calling g mk a qK, (va_K.moved (Vm.Alike.refl U.vm) q10), q11, q12, q13, q14⟩, hh_69.recv (C := RX14) (T := TX14) (N := 74) hB16 rfl (by decide) hg_r0 hK, fun U hU hW => ⟨rfl, hU, hh_69.2.1, hG.step hW hU hh_69.1, va_K.moved hW.alike hK2, hg_el_59, hg_r0, jP.nil, trivial⟩⟩ rfl rfl hl.1 rfl (lv_room (Nat.le_of_ble_eq_true rfl)) dX14_nextDocument_55 ⟨Nat.zero_le _, Nat.zero_le _⟩) hh_69.1 (fun q _ h => h) (fun q h => h) (fun r_83 u_82 t_82 H_82 locs_82 ht_82 hvm_82 hr_83 hb_82 hz_82 hk_82 hS_82 => ?_)
                    rw [ht_82] at hb_82
                    obtain ⟨hb_821, hb_822, hb_823, hb_824, hb_825⟩ := hb_82
                    have hh_82 : jSt (dC, dI) B base G0 G0 EX14_nextDocument s.heap 0 0 [(r0, 16, 60, .ref checkOf_70), (el_59, 14, 5, .int sentences_65), (el_59, 14, 9, .int checked_62), (r0, 16, 41, .ref documents_57), (r0, 16, 42, .int documentCount_3)] [] [] H_82 locs_82 := ((hh_69.call hb_821 hb_822 hb_823 hb_824 hS_82 rfl (L1 := [(r0, 16, 60, .ref checkOf_70), (el_59, 14, 5, .int sentences_65), (el_59, 14, 9, .int checked_62), (r0, 16, 41, .ref documents_57), (r0, 16, 42, .int documentCount_3)]) [0, 1, 2, 3, 4] rfl rfl (M1 := []) [] rfl rfl (I1 := []) [] rfl rfl).more hb_825)
                    clear hh_69 ht_82 hvm_82 hz_82 hk_82 hS_82 hb_821 hb_822 hb_823 hb_824 hb_825
                    obtain ⟨hr_83b, hr_83p⟩ := hr_83
                    have hr_83' := jb_01 hr_83b
                    refine lv_if_eq (tgt := 63) hx hb dX14_nextDocument_58 (by decide) (fun c_84 => ?_) (fun c_84 => ?_)
                    · skip
                      have c_84' : r_83.toInt = 0 := jb_eq (rfl) ((by decide)) c_84
                      refine lv_aload_n hx hb dX14_nextDocument_63 rfl (lv_at hl 2 rfl) ?_
                      refine lv_ifnonnull (tgt := 69) hx hb dX14_nextDocument_64 (by decide) ?_
                      obtain ⟨z_85, ez_85⟩ : ∃ y : Int32, y = v2_4 + 1 := ⟨_, rfl⟩
                      refine lv_iinc (v := z_85) (lv' := [(2, .int z_85), (3, .ref el_59), (0, .ref r0), (1, .ref nv_5)]) hx hb dX14_nextDocument_69 hl (k := 3) rfl (by rw [ez_85]; rfl) (by decide) rfl (fun ls hl => ?_)
                      have hz_85 : z_85.toInt = v2_4.toInt + 1 := by rw [ez_85]; exact jb_iadd2 (rfl) (by decide) (by omega)
                      refine lv_goto (tgt := 4) hx hb dX14_nextDocument_72 (by decide) ?_
                      exact L4 (some nv_5) z_85 _ _ (hh_82.sub (L1 := [(r0, 16, 42, .int documentCount_3)]) [4] rfl (M1 := []) [] rfl (I1 := []) [] rfl) (Or.inr ⟨_, rfl, hg_nv_5⟩) (by first | omega | (refine ⟨?_, ?_⟩ <;> (first | omega | rfl | assumption | decide | exact Or.inl rfl | exact Or.inr rfl | (simp only; omega)))) (by omega) _ (lv_sub hl [2, 3, 0] rfl)
                    · skip
                      have c_84' : r_83.toInt ≠ 0 := jb_eq_n (rfl) ((by decide)) c_84
                      refine lv_aload_n hx hb dX14_nextDocument_61 rfl (lv_at hl 0 rfl) ?_
                      rw [hQ]
                      exact W.aret (v := .ref el_59) hx hb hr (Or.inl ⟨_, rfl⟩) (Or.inr ⟨_, rfl⟩) (fun t ht hW => ⟨⟨.ref el_59, (), rfl, Or.inr ⟨_, rfl, hg_el_59⟩, hh_82.rt (M1 := []) [] rfl ht⟩, by rw [ht]; try exact hh_82.1.1, fun q h9 hq => by rw [ht]; try exact hh_82.1.2.1 q h9 hq⟩) hh_82.1.2.2 dX14_nextDocument_62
                  · skip
                    refine lv_goto (tgt := 69) hx hb dX14_nextDocument_50 (by decide) ?_
                    obtain ⟨z_86, ez_86⟩ : ∃ y : Int32, y = v2_4 + 1 := ⟨_, rfl⟩
                    refine lv_iinc (v := z_86) (lv' := [(2, .int z_86), (3, .ref el_59), (0, .ref r0), (1, .ref nv_5)]) hx hb dX14_nextDocument_69 hl (k := 3) rfl (by rw [ez_86]; rfl) (by decide) rfl (fun ls hl => ?_)
                    have hz_86 : z_86.toInt = v2_4.toInt + 1 := by rw [ez_86]; exact jb_iadd2 (rfl) (by decide) (by omega)
                    refine lv_goto (tgt := 4) hx hb dX14_nextDocument_72 (by decide) ?_
                    exact L4 (some nv_5) z_86 _ _ (hh_69.sub (L1 := [(r0, 16, 42, .int documentCount_3)]) [4] rfl (M1 := []) [] rfl (I1 := []) [] rfl) (Or.inr ⟨_, rfl, hg_nv_5⟩) (by first | omega | (refine ⟨?_, ?_⟩ <;> (first | omega | rfl | assumption | decide | exact Or.inl rfl | exact Or.inr rfl | (simp only; omega)))) (by omega) _ (lv_sub hl [2, 3, 0] rfl)
            · simp only [va_rf]
              refine lv_acmp_eq (rx := (some el_59)) (ry := (some el_72)) (tgt := 69) hx hb dX14_nextDocument_37 (by decide) (fun c_87 => ?_) (fun c_87 => ?_)
              · skip
                obtain ⟨z_88, ez_88⟩ : ∃ y : Int32, y = v2_4 + 1 := ⟨_, rfl⟩
                refine lv_iinc (v := z_88) (lv' := [(2, .int z_88), (3, .ref el_59), (0, .ref r0), (1, .ref nv_5)]) hx hb dX14_nextDocument_69 hl (k := 3) rfl (by rw [ez_88]; rfl) (by decide) rfl (fun ls hl => ?_)
                have hz_88 : z_88.toInt = v2_4.toInt + 1 := by rw [ez_88]; exact jb_iadd2 (rfl) (by decide) (by omega)
                refine lv_goto (tgt := 4) hx hb dX14_nextDocument_72 (by decide) ?_
                exact L4 (some nv_5) z_88 _ _ (hh_69.sub (L1 := [(r0, 16, 42, .int documentCount_3)]) [4] rfl (M1 := []) [] rfl (I1 := []) [] rfl) (Or.inr ⟨_, rfl, hg_nv_5⟩) (by first | omega | (refine ⟨?_, ?_⟩ <;> (first | omega | rfl | assumption | decide | exact Or.inl rfl | exact Or.inr rfl | (simp only; omega)))) (by omega) _ (lv_sub hl [2, 3, 0] rfl)
              · skip
                refine lv_aload_n hx hb dX14_nextDocument_40 rfl (lv_at hl 0 rfl) ?_
                refine lv_aload_n hx hb dX14_nextDocument_41 rfl (lv_at hl 1 rfl) ?_
                refine j7_read hx hb hown hK (C := RX14) (T := TX14) (N := 74) rfl hly_16_60 hlk_129 (hh_69.at 0 rfl) dX14_nextDocument_42 ?_
                refine lv_iconst (v := 1) hx hb dX14_nextDocument_45 (by decide) ?_
                refine j7_qald hx hb hK2 hh_69 hB208 0 rfl (by decide) hg_checkOf_70 (x := 1) ((by decide)) (by omega) dX14_nextDocument_46 (fun o_89 ho_89 => ?_)
                rcases ho_89 with rfl | ⟨el_90, rfl, hg_el_90⟩
                · simp only [va_rf]
                  refine lv_acmp_ne (rx := (some el_59)) (ry := none) (tgt := 53) hx hb dX14_nextDocument_47 (by decide) (fun c_91 => ?_) (fun c_91 => ?_)
                  · skip
                    refine lv_aload_n hx hb dX14_nextDocument_53 rfl (lv_at hl 1 rfl) ?_
                    refine lv_aload_n hx hb dX14_nextDocument_54 rfl (lv_at hl 0 rfl) ?_
                    refine va_calli (A0 := jA base) (H0 := s.heap) (va_runV (As := [.ref el_59]) (rest := []) ⟨hx, hb, hml, hown, hts⟩ (uX14_isWaitedFor l dC dI ca base B hB hAp hB14 hB16 hB202 G0 H_4 r0 el_59) (cwV 1 hts (jgV (jWr_90 _ (List.mem_of_getElem? (i := 0) rfl)) (jWr_90 _ (List.mem_of_getElem? (i := 1) rfl)) (jWr_90 _ (List.mem_of_getElem? (i := 2) rfl)) (jWr_1 _ (List.mem_of_getElem? (i := 5) rfl)) (jWr_90 _ (List.mem_of_getElem? (i := 3) rfl))) rfl rfl rfl (by decide +kernel) ⟨by rw [← hR]; exact Nat.le_of_ble_eq_true rfl, by rw [← hR]; exact Nat.le_of_ble_eq_true rfl⟩) ⟨fun a U g mk q => by obtain ⟨q0, q1, q2, qK, q10, q11, q12, q13, q14⟩ := q; exact ⟨q0, q1, q2, jG.calling g mk a qK, (va_K.moved (Vm.Alike.refl U.vm) q10), q11, q12, q13, q14⟩, hh_69.recv (C := RX14) (T := TX14) (N := 74) hB16 rfl (by decide) hg_r0 hK, fun U hU hW => ⟨rfl, hU, hh_69.2.1, hG.step hW hU hh_69.1, va_K.moved hW.alike hK2, hg_el_59, hg_r0, jP.nil, trivial⟩⟩ rfl rfl hl.1 rfl (lv_room (Nat.le_of_ble_eq_true rfl)) dX14_nextDocument_55 ⟨Nat.zero_le _, Nat.zero_le _⟩) hh_69.1 (fun q _ h => h) (fun q h => h) (fun r_93 u_92 t_92 H_92 locs_92 ht_92 hvm_92 hr_93 hb_92 hz_92 hk_92 hS_92 => ?_)
                    rw [ht_92] at hb_92
                    obtain ⟨hb_921, hb_922, hb_923, hb_924, hb_925⟩ := hb_92
                    have hh_92 : jSt (dC, dI) B base G0 G0 EX14_nextDocument s.heap 0 0 [(r0, 16, 60, .ref checkOf_70), (el_59, 14, 5, .int sentences_65), (el_59, 14, 9, .int checked_62), (r0, 16, 41, .ref documents_57), (r0, 16, 42, .int documentCount_3)] [] [] H_92 locs_92 := ((hh_69.call hb_921 hb_922 hb_923 hb_924 hS_92 rfl (L1 := [(r0, 16, 60, .ref checkOf_70), (el_59, 14, 5, .int sentences_65), (el_59, 14, 9, .int checked_62), (r0, 16, 41, .ref documents_57), (r0, 16, 42, .int documentCount_3)]) [0, 1, 2, 3, 4] rfl rfl (M1 := []) [] rfl rfl (I1 := []) [] rfl rfl).more hb_925)
                    clear hh_69 ht_92 hvm_92 hz_92 hk_92 hS_92 hb_921 hb_922 hb_923 hb_924 hb_925
                    obtain ⟨hr_93b, hr_93p⟩ := hr_93
                    have hr_93' := jb_01 hr_93b
                    refine lv_if_eq (tgt := 63) hx hb dX14_nextDocument_58 (by decide) (fun c_94 => ?_) (fun c_94 => ?_)
                    · skip
                      have c_94' : r_93.toInt = 0 := jb_eq (rfl) ((by decide)) c_94
                      refine lv_aload_n hx hb dX14_nextDocument_63 rfl (lv_at hl 2 rfl) ?_
                      refine lv_ifnonnull (tgt := 69) hx hb dX14_nextDocument_64 (by decide) ?_
                      obtain ⟨z_95, ez_95⟩ : ∃ y : Int32, y = v2_4 + 1 := ⟨_, rfl⟩
                      refine lv_iinc (v := z_95) (lv' := [(2, .int z_95), (3, .ref el_59), (0, .ref r0), (1, .ref nv_5)]) hx hb dX14_nextDocument_69 hl (k := 3) rfl (by rw [ez_95]; rfl) (by decide) rfl (fun ls hl => ?_)
                      have hz_95 : z_95.toInt = v2_4.toInt + 1 := by rw [ez_95]; exact jb_iadd2 (rfl) (by decide) (by omega)
                      refine lv_goto (tgt := 4) hx hb dX14_nextDocument_72 (by decide) ?_
                      exact L4 (some nv_5) z_95 _ _ (hh_92.sub (L1 := [(r0, 16, 42, .int documentCount_3)]) [4] rfl (M1 := []) [] rfl (I1 := []) [] rfl) (Or.inr ⟨_, rfl, hg_nv_5⟩) (by first | omega | (refine ⟨?_, ?_⟩ <;> (first | omega | rfl | assumption | decide | exact Or.inl rfl | exact Or.inr rfl | (simp only; omega)))) (by omega) _ (lv_sub hl [2, 3, 0] rfl)
                    · skip
                      have c_94' : r_93.toInt ≠ 0 := jb_eq_n (rfl) ((by decide)) c_94
                      refine lv_aload_n hx hb dX14_nextDocument_61 rfl (lv_at hl 0 rfl) ?_
                      rw [hQ]
                      exact W.aret (v := .ref el_59) hx hb hr (Or.inl ⟨_, rfl⟩) (Or.inr ⟨_, rfl⟩) (fun t ht hW => ⟨⟨.ref el_59, (), rfl, Or.inr ⟨_, rfl, hg_el_59⟩, hh_92.rt (M1 := []) [] rfl ht⟩, by rw [ht]; try exact hh_92.1.1, fun q h9 hq => by rw [ht]; try exact hh_92.1.2.1 q h9 hq⟩) hh_92.1.2.2 dX14_nextDocument_62
                  · skip
                    cases c_91
                · simp only [va_rf]
                  refine lv_acmp_ne (rx := (some el_59)) (ry := (some el_90)) (tgt := 53) hx hb dX14_nextDocument_47 (by decide) (fun c_96 => ?_) (fun c_96 => ?_)
                  · skip
                    refine lv_aload_n hx hb dX14_nextDocument_53 rfl (lv_at hl 1 rfl) ?_
                    refine lv_aload_n hx hb dX14_nextDocument_54 rfl (lv_at hl 0 rfl) ?_
                    refine va_calli (A0 := jA base) (H0 := s.heap) (va_runV (As := [.ref el_59]) (rest := []) ⟨hx, hb, hml, hown, hts⟩ (uX14_isWaitedFor l dC dI ca base B hB hAp hB14 hB16 hB202 G0 H_4 r0 el_59) (cwV 1 hts (jgV (jWr_90 _ (List.mem_of_getElem? (i := 0) rfl)) (jWr_90 _ (List.mem_of_getElem? (i := 1) rfl)) (jWr_90 _ (List.mem_of_getElem? (i := 2) rfl)) (jWr_1 _ (List.mem_of_getElem? (i := 5) rfl)) (jWr_90 _ (List.mem_of_getElem? (i := 3) rfl))) rfl rfl rfl (by decide +kernel) ⟨by rw [← hR]; exact Nat.le_of_ble_eq_true rfl, by rw [← hR]; exact Nat.le_of_ble_eq_true rfl⟩) ⟨fun a U g mk q => by obtain ⟨q0, q1, q2, qK, q10, q11, q12, q13, q14⟩ := q; exact ⟨q0, q1, q2, jG.calling g mk a qK, (va_K.moved (Vm.Alike.refl U.vm) q10), q11, q12, q13, q14⟩, hh_69.recv (C := RX14) (T := TX14) (N := 74) hB16 rfl (by decide) hg_r0 hK, fun U hU hW => ⟨rfl, hU, hh_69.2.1, hG.step hW hU hh_69.1, va_K.moved hW.alike hK2, hg_el_59, hg_r0, jP.nil, trivial⟩⟩ rfl rfl hl.1 rfl (lv_room (Nat.le_of_ble_eq_true rfl)) dX14_nextDocument_55 ⟨Nat.zero_le _, Nat.zero_le _⟩) hh_69.1 (fun q _ h => h) (fun q h => h) (fun r_98 u_97 t_97 H_97 locs_97 ht_97 hvm_97 hr_98 hb_97 hz_97 hk_97 hS_97 => ?_)
                    rw [ht_97] at hb_97
                    obtain ⟨hb_971, hb_972, hb_973, hb_974, hb_975⟩ := hb_97
                    have hh_97 : jSt (dC, dI) B base G0 G0 EX14_nextDocument s.heap 0 0 [(r0, 16, 60, .ref checkOf_70), (el_59, 14, 5, .int sentences_65), (el_59, 14, 9, .int checked_62), (r0, 16, 41, .ref documents_57), (r0, 16, 42, .int documentCount_3)] [] [] H_97 locs_97 := ((hh_69.call hb_971 hb_972 hb_973 hb_974 hS_97 rfl (L1 := [(r0, 16, 60, .ref checkOf_70), (el_59, 14, 5, .int sentences_65), (el_59, 14, 9, .int checked_62), (r0, 16, 41, .ref documents_57), (r0, 16, 42, .int documentCount_3)]) [0, 1, 2, 3, 4] rfl rfl (M1 := []) [] rfl rfl (I1 := []) [] rfl rfl).more hb_975)
                    clear hh_69 ht_97 hvm_97 hz_97 hk_97 hS_97 hb_971 hb_972 hb_973 hb_974 hb_975
                    obtain ⟨hr_98b, hr_98p⟩ := hr_98
                    have hr_98' := jb_01 hr_98b
                    refine lv_if_eq (tgt := 63) hx hb dX14_nextDocument_58 (by decide) (fun c_99 => ?_) (fun c_99 => ?_)
                    · skip
                      have c_99' : r_98.toInt = 0 := jb_eq (rfl) ((by decide)) c_99
                      refine lv_aload_n hx hb dX14_nextDocument_63 rfl (lv_at hl 2 rfl) ?_
                      refine lv_ifnonnull (tgt := 69) hx hb dX14_nextDocument_64 (by decide) ?_
                      obtain ⟨z_100, ez_100⟩ : ∃ y : Int32, y = v2_4 + 1 := ⟨_, rfl⟩
                      refine lv_iinc (v := z_100) (lv' := [(2, .int z_100), (3, .ref el_59), (0, .ref r0), (1, .ref nv_5)]) hx hb dX14_nextDocument_69 hl (k := 3) rfl (by rw [ez_100]; rfl) (by decide) rfl (fun ls hl => ?_)
                      have hz_100 : z_100.toInt = v2_4.toInt + 1 := by rw [ez_100]; exact jb_iadd2 (rfl) (by decide) (by omega)
                      refine lv_goto (tgt := 4) hx hb dX14_nextDocument_72 (by decide) ?_
                      exact L4 (some nv_5) z_100 _ _ (hh_97.sub (L1 := [(r0, 16, 42, .int documentCount_3)]) [4] rfl (M1 := []) [] rfl (I1 := []) [] rfl) (Or.inr ⟨_, rfl, hg_nv_5⟩) (by first | omega | (refine ⟨?_, ?_⟩ <;> (first | omega | rfl | assumption | decide | exact Or.inl rfl | exact Or.inr rfl | (simp only; omega)))) (by omega) _ (lv_sub hl [2, 3, 0] rfl)
                    · skip
                      have c_99' : r_98.toInt ≠ 0 := jb_eq_n (rfl) ((by decide)) c_99
                      refine lv_aload_n hx hb dX14_nextDocument_61 rfl (lv_at hl 0 rfl) ?_
                      rw [hQ]
                      exact W.aret (v := .ref el_59) hx hb hr (Or.inl ⟨_, rfl⟩) (Or.inr ⟨_, rfl⟩) (fun t ht hW => ⟨⟨.ref el_59, (), rfl, Or.inr ⟨_, rfl, hg_el_59⟩, hh_97.rt (M1 := []) [] rfl ht⟩, by rw [ht]; try exact hh_97.1.1, fun q h9 hq => by rw [ht]; try exact hh_97.1.2.1 q h9 hq⟩) hh_97.1.2.2 dX14_nextDocument_62
                  · skip
                    refine lv_goto (tgt := 69) hx hb dX14_nextDocument_50 (by decide) ?_
                    obtain ⟨z_101, ez_101⟩ : ∃ y : Int32, y = v2_4 + 1 := ⟨_, rfl⟩
                    refine lv_iinc (v := z_101) (lv' := [(2, .int z_101), (3, .ref el_59), (0, .ref r0), (1, .ref nv_5)]) hx hb dX14_nextDocument_69 hl (k := 3) rfl (by rw [ez_101]; rfl) (by decide) rfl (fun ls hl => ?_)
                    have hz_101 : z_101.toInt = v2_4.toInt + 1 := by rw [ez_101]; exact jb_iadd2 (rfl) (by decide) (by omega)
                    refine lv_goto (tgt := 4) hx hb dX14_nextDocument_72 (by decide) ?_
                    exact L4 (some nv_5) z_101 _ _ (hh_69.sub (L1 := [(r0, 16, 42, .int documentCount_3)]) [4] rfl (M1 := []) [] rfl (I1 := []) [] rfl) (Or.inr ⟨_, rfl, hg_nv_5⟩) (by first | omega | (refine ⟨?_, ?_⟩ <;> (first | omega | rfl | assumption | decide | exact Or.inl rfl | exact Or.inr rfl | (simp only; omega)))) (by omega) _ (lv_sub hl [2, 3, 0] rfl)
  exact L4 (documentCount_3.toInt - (0 : Int32).toInt : Int).toNat.succ none 0 _ _ hh_2 (Or.inl rfl) (by first | omega | (refine ⟨?_, ?_⟩ <;> (first | omega | rfl | assumption | decide | exact Or.inl rfl | exact Or.inr rfl | (simp only; omega)))) (by omega) _ (lv_sub hl [2, 1, 0] rfl)
