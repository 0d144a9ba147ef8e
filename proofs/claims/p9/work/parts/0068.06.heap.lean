section
section JR
variable {p : Program} {l : Launch} {e : Env} {R : Room} {s : State} {m : MethodId} {args : Array Value} {below : List Frame} {meth : Method} {c : Code} {H : Heap} {locs : List Loc} {cells slots : Nat} {Q : State → Prop}
variable {cc : ByteArray} {pc : Nat} {ls : Array Slot} {rest : List Value} {D : va_G} {cl : List vw_C} {A : Nat → Prop} {a : Nat} {tys : List (ClassId × FieldType)}
theorem j_bast (hexec : p.tables.exec = Jvm.exec) (hb : c.code = cc) (hK : va_K D cl tys s) (t0 : Nat) {cA : ClassId} {n : Nat} {f : Nat → Int32} (hat : va_at D cl (a, .inl (cA, n, .inl f)) H) (hA : A a) (hL : ∀ q ∈ locs, A q.base) (ht : tys[t0]? = some (cA, .byte)) {i : Int32} {x : Int32} (hin : vp_in i n) (hdg : decode cc pc = .ok (.bastore, 1))
    (kk : ∀ (H1 : Heap) (locs1 : List Loc) (f1 : Nat → Int32), (sb_Fit f → sb_Fit f1) → va_at D cl (a, .inl (cA, n, .inl f1)) H1 → H1.size = H.size → (∀ q, q ≠ a → H1[q]? = H[q]?) → jTot H1 = jTot H → (∀ q ∈ locs1, A q.base) → W p l e R s m args below meth c H1 locs1 cells slots Q (F0 m (pc + 1) ls rest)) : W p l e R s m args below meth c H locs cells slots Q (F0 m pc ls (.int x :: .int i :: .ref a :: rest)) := by
  refine W.bast hexec hb hat ((hK.2 t0 _ ht).1 n (fun j => .int (f j))) (fun q => by cases q) (by show ¬ (i < 0 ∨ (arrV _ _ _).slots.size ≤ _); rw [arrV_size]; exact hin) rfl rfl hdg fun H1 e z oq => ?_
  refine kk H1 _ (upd f i.toNatClampNeg (vp_nar .byte x)) (fun h => sb_fitU h (by rw [vp_nar_byte]; exact pk_fb x)) ?_ z oq (jTot_set z hat e (jSet_sz _ _ _) oq) ?_
  · show H1[a]? = some (vp_cell _ _)
    rw [e]
    rw [vp_cell_i, vp_cell_i, arrV_store]
    congr 2
    funext q
    by_cases hq : q = i.toNatClampNeg
    · subst hq
      simp [updV, upd, vp_nar]
      try rfl
    · simp [updV, upd, hq]
  · intro q hq
    rcases List.mem_append.mp hq with h | h
    · exact hL q h
    · cases List.mem_singleton.mp h; exact hA
end JR
end
section
theorem dX0_isHigh_0 : decode cX0_isHigh 0 = .ok (.iload_n 0, 1) := by decide +kernel
theorem dX0_isHigh_1 : decode cX0_isHigh 1 = .ok (.ldc 61, 2) := by decide +kernel
theorem dX0_isHigh_3 : decode cX0_isHigh 3 = .ok (.if_icmp .lt 13, 3) := by decide +kernel
theorem dX0_isHigh_6 : decode cX0_isHigh 6 = .ok (.iload_n 0, 1) := by decide +kernel
theorem dX0_isHigh_7 : decode cX0_isHigh 7 = .ok (.ldc 62, 2) := by decide +kernel
theorem dX0_isHigh_9 : decode cX0_isHigh 9 = .ok (.if_icmp .ge 7, 3) := by decide +kernel
theorem dX0_isHigh_12 : decode cX0_isHigh 12 = .ok (.iconst 1, 1) := by decide +kernel
theorem dX0_isHigh_13 : decode cX0_isHigh 13 = .ok (.goto 4, 3) := by decide +kernel
theorem dX0_isHigh_16 : decode cX0_isHigh 16 = .ok (.iconst 0, 1) := by decide +kernel
theorem dX0_isHigh_17 : decode cX0_isHigh 17 = .ok (.ireturn, 1) := by decide +kernel
theorem dX0_isLow_0 : decode cX0_isLow 0 = .ok (.iload_n 0, 1) := by decide +kernel
theorem dX0_isLow_1 : decode cX0_isLow 1 = .ok (.ldc 62, 2) := by decide +kernel
theorem dX0_isLow_3 : decode cX0_isLow 3 = .ok (.if_icmp .lt 13, 3) := by decide +kernel
theorem dX0_isLow_6 : decode cX0_isLow 6 = .ok (.iload_n 0, 1) := by decide +kernel
theorem dX0_isLow_7 : decode cX0_isLow 7 = .ok (.ldc 73, 2) := by decide +kernel
theorem dX0_isLow_9 : decode cX0_isLow 9 = .ok (.if_icmp .ge 7, 3) := by decide +kernel
theorem dX0_isLow_12 : decode cX0_isLow 12 = .ok (.iconst 1, 1) := by decide +kernel
theorem dX0_isLow_13 : decode cX0_isLow 13 = .ok (.goto 4, 3) := by decide +kernel
theorem dX0_isLow_16 : decode cX0_isLow 16 = .ok (.iconst 0, 1) := by decide +kernel
theorem dX0_isLow_17 : decode cX0_isLow 17 = .ok (.ireturn, 1) := by decide +kernel
end
section
theorem dX0_put_12 : decode cX0_put 12 = .ok (.aload_n 0, 1) := by decide +kernel
theorem dX0_put_13 : decode cX0_put 13 = .ok (.getfield 19, 3) := by decide +kernel
theorem dX0_put_16 : decode cX0_put 16 = .ok (.ldc 23, 2) := by decide +kernel
theorem dX0_put_18 : decode cX0_put 18 = .ok (.if_icmp .ge 21, 3) := by decide +kernel
theorem dX0_put_21 : decode cX0_put 21 = .ok (.aload_n 0, 1) := by decide +kernel
theorem dX0_put_22 : decode cX0_put 22 = .ok (.aload_n 0, 1) := by decide +kernel
theorem dX0_put_23 : decode cX0_put 23 = .ok (.getfield 13, 3) := by decide +kernel
theorem dX0_put_26 : decode cX0_put 26 = .ok (.iconst 2, 1) := by decide +kernel
theorem dX0_put_27 : decode cX0_put 27 = .ok (.aload_n 0, 1) := by decide +kernel
theorem dX0_put_28 : decode cX0_put 28 = .ok (.getfield 13, 3) := by decide +kernel
theorem dX0_put_31 : decode cX0_put 31 = .ok (.arraylength, 1) := by decide +kernel
theorem dX0_put_32 : decode cX0_put 32 = .ok (.imul, 1) := by decide +kernel
theorem dX0_put_33 : decode cX0_put 33 = .ok (.invokestatic 24, 3) := by decide +kernel
theorem dX0_put_36 : decode cX0_put 36 = .ok (.putfield 13, 3) := by decide +kernel
end
section
theorem dX0_text_0 : decode cX0_text 0 = .ok (.iconst 0, 1) := by decide +kernel
theorem dX0_text_1 : decode cX0_text 1 = .ok (.istore_n 2, 1) := by decide +kernel
theorem dX0_text_2 : decode cX0_text 2 = .ok (.iload_n 2, 1) := by decide +kernel
theorem dX0_text_3 : decode cX0_text 3 = .ok (.aload_n 1, 1) := by decide +kernel
theorem dX0_text_4 : decode cX0_text 4 = .ok (.invokevirtual 30, 3) := by decide +kernel
theorem dX0_text_7 : decode cX0_text 7 = .ok (.if_icmp .ge 18, 3) := by decide +kernel
theorem dX0_text_10 : decode cX0_text 10 = .ok (.aload_n 0, 1) := by decide +kernel
theorem dX0_text_11 : decode cX0_text 11 = .ok (.aload_n 1, 1) := by decide +kernel
theorem dX0_text_12 : decode cX0_text 12 = .ok (.iload_n 2, 1) := by decide +kernel
theorem dX0_text_13 : decode cX0_text 13 = .ok (.invokevirtual 36, 3) := by decide +kernel
theorem dX0_text_16 : decode cX0_text 16 = .ok (.invokevirtual 40, 3) := by decide +kernel
theorem dX0_text_19 : decode cX0_text 19 = .ok (.iinc 2 1, 3) := by decide +kernel
theorem dX0_text_22 : decode cX0_text 22 = .ok (.goto (-20), 3) := by decide +kernel
theorem dX0_text_25 : decode cX0_text 25 = .ok (.return_, 1) := by decide +kernel
theorem dX0_character_0 : decode cX0_character 0 = .ok (.iload_n 1, 1) := by decide +kernel
theorem dX0_character_1 : decode cX0_character 1 = .ok (.sipush 128, 3) := by decide +kernel
theorem dX0_character_4 : decode cX0_character 4 = .ok (.if_icmp .ge 9, 3) := by decide +kernel
theorem dX0_character_7 : decode cX0_character 7 = .ok (.aload_n 0, 1) := by decide +kernel
theorem dX0_character_8 : decode cX0_character 8 = .ok (.iload_n 1, 1) := by decide +kernel
theorem dX0_character_9 : decode cX0_character 9 = .ok (.invokevirtual 40, 3) := by decide +kernel
theorem dX0_character_12 : decode cX0_character 12 = .ok (.return_, 1) := by decide +kernel
theorem dX0_character_13 : decode cX0_character 13 = .ok (.iload_n 1, 1) := by decide +kernel
theorem dX0_character_14 : decode cX0_character 14 = .ok (.sipush 2048, 3) := by decide +kernel
theorem dX0_character_17 : decode cX0_character 17 = .ok (.if_icmp .ge 18, 3) := by decide +kernel
theorem dX0_character_20 : decode cX0_character 20 = .ok (.aload_n 0, 1) := by decide +kernel
theorem dX0_character_21 : decode cX0_character 21 = .ok (.sipush 192, 3) := by decide +kernel
theorem dX0_character_24 : decode cX0_character 24 = .ok (.iload_n 1, 1) := by decide +kernel
theorem dX0_character_25 : decode cX0_character 25 = .ok (.bipush 6, 2) := by decide +kernel
theorem dX0_character_27 : decode cX0_character 27 = .ok (.ishr, 1) := by decide +kernel
theorem dX0_character_28 : decode cX0_character 28 = .ok (.ior, 1) := by decide +kernel
theorem dX0_character_29 : decode cX0_character 29 = .ok (.invokevirtual 40, 3) := by decide +kernel
theorem dX0_character_32 : decode cX0_character 32 = .ok (.goto 66, 3) := by decide +kernel
theorem dX0_character_35 : decode cX0_character 35 = .ok (.iload_n 1, 1) := by decide +kernel
theorem dX0_character_36 : decode cX0_character 36 = .ok (.ldc 60, 2) := by decide +kernel
theorem dX0_character_38 : decode cX0_character 38 = .ok (.if_icmp .ge 18, 3) := by decide +kernel
theorem dX0_character_41 : decode cX0_character 41 = .ok (.aload_n 0, 1) := by decide +kernel
theorem dX0_character_42 : decode cX0_character 42 = .ok (.sipush 224, 3) := by decide +kernel
theorem dX0_character_45 : decode cX0_character 45 = .ok (.iload_n 1, 1) := by decide +kernel
theorem dX0_character_46 : decode cX0_character 46 = .ok (.bipush 12, 2) := by decide +kernel
theorem dX0_character_48 : decode cX0_character 48 = .ok (.ishr, 1) := by decide +kernel
theorem dX0_character_49 : decode cX0_character 49 = .ok (.ior, 1) := by decide +kernel
theorem dX0_character_50 : decode cX0_character 50 = .ok (.invokevirtual 40, 3) := by decide +kernel
theorem dX0_character_53 : decode cX0_character 53 = .ok (.goto 30, 3) := by decide +kernel
theorem dX0_character_56 : decode cX0_character 56 = .ok (.aload_n 0, 1) := by decide +kernel
theorem dX0_character_57 : decode cX0_character 57 = .ok (.sipush 240, 3) := by decide +kernel
theorem dX0_character_60 : decode cX0_character 60 = .ok (.iload_n 1, 1) := by decide +kernel
theorem dX0_character_61 : decode cX0_character 61 = .ok (.bipush 18, 2) := by decide +kernel
theorem dX0_character_63 : decode cX0_character 63 = .ok (.ishr, 1) := by decide +kernel
theorem dX0_character_64 : decode cX0_character 64 = .ok (.ior, 1) := by decide +kernel
theorem dX0_character_65 : decode cX0_character 65 = .ok (.invokevirtual 40, 3) := by decide +kernel
theorem dX0_character_68 : decode cX0_character 68 = .ok (.aload_n 0, 1) := by decide +kernel
theorem dX0_character_69 : decode cX0_character 69 = .ok (.sipush 128, 3) := by decide +kernel
theorem dX0_character_72 : decode cX0_character 72 = .ok (.iload_n 1, 1) := by decide +kernel
theorem dX0_character_73 : decode cX0_character 73 = .ok (.bipush 12, 2) := by decide +kernel
theorem dX0_character_75 : decode cX0_character 75 = .ok (.ishr, 1) := by decide +kernel
theorem dX0_character_76 : decode cX0_character 76 = .ok (.bipush 63, 2) := by decide +kernel
theorem dX0_character_78 : decode cX0_character 78 = .ok (.iand, 1) := by decide +kernel
theorem dX0_character_79 : decode cX0_character 79 = .ok (.ior, 1) := by decide +kernel
theorem dX0_character_80 : decode cX0_character 80 = .ok (.invokevirtual 40, 3) := by decide +kernel
theorem dX0_character_83 : decode cX0_character 83 = .ok (.aload_n 0, 1) := by decide +kernel
theorem dX0_character_84 : decode cX0_character 84 = .ok (.sipush 128, 3) := by decide +kernel
theorem dX0_character_87 : decode cX0_character 87 = .ok (.iload_n 1, 1) := by decide +kernel
theorem dX0_character_88 : decode cX0_character 88 = .ok (.bipush 6, 2) := by decide +kernel
theorem dX0_character_90 : decode cX0_character 90 = .ok (.ishr, 1) := by decide +kernel
theorem dX0_character_91 : decode cX0_character 91 = .ok (.bipush 63, 2) := by decide +kernel
theorem dX0_character_93 : decode cX0_character 93 = .ok (.iand, 1) := by decide +kernel
theorem dX0_character_94 : decode cX0_character 94 = .ok (.ior, 1) := by decide +kernel
theorem dX0_character_95 : decode cX0_character 95 = .ok (.invokevirtual 40, 3) := by decide +kernel
theorem dX0_character_98 : decode cX0_character 98 = .ok (.aload_n 0, 1) := by decide +kernel
theorem dX0_character_99 : decode cX0_character 99 = .ok (.sipush 128, 3) := by decide +kernel
theorem dX0_character_102 : decode cX0_character 102 = .ok (.iload_n 1, 1) := by decide +kernel
theorem dX0_character_103 : decode cX0_character 103 = .ok (.bipush 63, 2) := by decide +kernel
theorem dX0_character_105 : decode cX0_character 105 = .ok (.iand, 1) := by decide +kernel
theorem dX0_character_106 : decode cX0_character 106 = .ok (.ior, 1) := by decide +kernel
theorem dX0_character_107 : decode cX0_character 107 = .ok (.invokevirtual 40, 3) := by decide +kernel
theorem dX0_character_110 : decode cX0_character 110 = .ok (.return_, 1) := by decide +kernel
end
section
theorem dX0_quoted_0 : decode cX0_quoted 0 = .ok (.aload_n 0, 1) := by decide +kernel
theorem dX0_quoted_1 : decode cX0_quoted 1 = .ok (.bipush 34, 2) := by decide +kernel
theorem dX0_quoted_3 : decode cX0_quoted 3 = .ok (.invokevirtual 40, 3) := by decide +kernel
theorem dX0_quoted_6 : decode cX0_quoted 6 = .ok (.iload_n 2, 1) := by decide +kernel
theorem dX0_quoted_7 : decode cX0_quoted 7 = .ok (.iload_n 3, 1) := by decide +kernel
theorem dX0_quoted_8 : decode cX0_quoted 8 = .ok (.iadd, 1) := by decide +kernel
theorem dX0_quoted_9 : decode cX0_quoted 9 = .ok (.aload_n 1, 1) := by decide +kernel
theorem dX0_quoted_10 : decode cX0_quoted 10 = .ok (.arraylength, 1) := by decide +kernel
theorem dX0_quoted_11 : decode cX0_quoted 11 = .ok (.invokestatic 50, 3) := by decide +kernel
theorem dX0_quoted_14 : decode cX0_quoted 14 = .ok (.istore 4, 2) := by decide +kernel
theorem dX0_quoted_16 : decode cX0_quoted 16 = .ok (.iload_n 2, 1) := by decide +kernel
theorem dX0_quoted_17 : decode cX0_quoted 17 = .ok (.iconst 0, 1) := by decide +kernel
theorem dX0_quoted_18 : decode cX0_quoted 18 = .ok (.invokestatic 7, 3) := by decide +kernel
theorem dX0_quoted_21 : decode cX0_quoted 21 = .ok (.istore 5, 2) := by decide +kernel
theorem dX0_quoted_23 : decode cX0_quoted 23 = .ok (.iload 5, 2) := by decide +kernel
theorem dX0_quoted_25 : decode cX0_quoted 25 = .ok (.iload 4, 2) := by decide +kernel
theorem dX0_quoted_27 : decode cX0_quoted 27 = .ok (.if_icmp .ge 187, 3) := by decide +kernel
theorem dX0_quoted_30 : decode cX0_quoted 30 = .ok (.aload_n 1, 1) := by decide +kernel
theorem dX0_quoted_31 : decode cX0_quoted 31 = .ok (.iload 5, 2) := by decide +kernel
theorem dX0_quoted_33 : decode cX0_quoted 33 = .ok (.iaload, 1) := by decide +kernel
theorem dX0_quoted_34 : decode cX0_quoted 34 = .ok (.istore 6, 2) := by decide +kernel
theorem dX0_quoted_36 : decode cX0_quoted 36 = .ok (.iload 6, 2) := by decide +kernel
theorem dX0_quoted_38 : decode cX0_quoted 38 = .ok (.invokestatic 53, 3) := by decide +kernel
theorem dX0_quoted_41 : decode cX0_quoted 41 = .ok (.ifCond .eq 53, 3) := by decide +kernel
theorem dX0_quoted_44 : decode cX0_quoted 44 = .ok (.iload 5, 2) := by decide +kernel
theorem dX0_quoted_46 : decode cX0_quoted 46 = .ok (.iconst 1, 1) := by decide +kernel
theorem dX0_quoted_47 : decode cX0_quoted 47 = .ok (.iadd, 1) := by decide +kernel
theorem dX0_quoted_48 : decode cX0_quoted 48 = .ok (.iload 4, 2) := by decide +kernel
theorem dX0_quoted_50 : decode cX0_quoted 50 = .ok (.if_icmp .ge 44, 3) := by decide +kernel
theorem dX0_quoted_53 : decode cX0_quoted 53 = .ok (.aload_n 1, 1) := by decide +kernel
theorem dX0_quoted_54 : decode cX0_quoted 54 = .ok (.iload 5, 2) := by decide +kernel
theorem dX0_quoted_56 : decode cX0_quoted 56 = .ok (.iconst 1, 1) := by decide +kernel
theorem dX0_quoted_57 : decode cX0_quoted 57 = .ok (.iadd, 1) := by decide +kernel
theorem dX0_quoted_58 : decode cX0_quoted 58 = .ok (.iaload, 1) := by decide +kernel
theorem dX0_quoted_59 : decode cX0_quoted 59 = .ok (.invokestatic 57, 3) := by decide +kernel
theorem dX0_quoted_62 : decode cX0_quoted 62 = .ok (.ifCond .eq 32, 3) := by decide +kernel
theorem dX0_quoted_65 : decode cX0_quoted 65 = .ok (.iinc 5 1, 3) := by decide +kernel
theorem dX0_quoted_68 : decode cX0_quoted 68 = .ok (.aload_n 0, 1) := by decide +kernel
theorem dX0_quoted_69 : decode cX0_quoted 69 = .ok (.ldc 60, 2) := by decide +kernel
theorem dX0_quoted_71 : decode cX0_quoted 71 = .ok (.iload 6, 2) := by decide +kernel
theorem dX0_quoted_73 : decode cX0_quoted 73 = .ok (.ldc 61, 2) := by decide +kernel
theorem dX0_quoted_75 : decode cX0_quoted 75 = .ok (.isub, 1) := by decide +kernel
theorem dX0_quoted_76 : decode cX0_quoted 76 = .ok (.bipush 10, 2) := by decide +kernel
theorem dX0_quoted_78 : decode cX0_quoted 78 = .ok (.ishl, 1) := by decide +kernel
theorem dX0_quoted_79 : decode cX0_quoted 79 = .ok (.iadd, 1) := by decide +kernel
theorem dX0_quoted_80 : decode cX0_quoted 80 = .ok (.aload_n 1, 1) := by decide +kernel
theorem dX0_quoted_81 : decode cX0_quoted 81 = .ok (.iload 5, 2) := by decide +kernel
theorem dX0_quoted_83 : decode cX0_quoted 83 = .ok (.iaload, 1) := by decide +kernel
theorem dX0_quoted_84 : decode cX0_quoted 84 = .ok (.iadd, 1) := by decide +kernel
theorem dX0_quoted_85 : decode cX0_quoted 85 = .ok (.ldc 62, 2) := by decide +kernel
theorem dX0_quoted_87 : decode cX0_quoted 87 = .ok (.isub, 1) := by decide +kernel
theorem dX0_quoted_88 : decode cX0_quoted 88 = .ok (.invokevirtual 63, 3) := by decide +kernel
theorem dX0_quoted_91 : decode cX0_quoted 91 = .ok (.goto 117, 3) := by decide +kernel
theorem dX0_quoted_94 : decode cX0_quoted 94 = .ok (.iload 6, 2) := by decide +kernel
theorem dX0_quoted_96 : decode cX0_quoted 96 = .ok (.invokestatic 53, 3) := by decide +kernel
theorem dX0_quoted_99 : decode cX0_quoted 99 = .ok (.ifCond .ne 11, 3) := by decide +kernel
theorem dX0_quoted_102 : decode cX0_quoted 102 = .ok (.iload 6, 2) := by decide +kernel
theorem dX0_quoted_104 : decode cX0_quoted 104 = .ok (.invokestatic 57, 3) := by decide +kernel
theorem dX0_quoted_107 : decode cX0_quoted 107 = .ok (.ifCond .eq 12, 3) := by decide +kernel
theorem dX0_quoted_110 : decode cX0_quoted 110 = .ok (.aload_n 0, 1) := by decide +kernel
theorem dX0_quoted_111 : decode cX0_quoted 111 = .ok (.ldc 66, 2) := by decide +kernel
theorem dX0_quoted_113 : decode cX0_quoted 113 = .ok (.invokevirtual 63, 3) := by decide +kernel
theorem dX0_quoted_116 : decode cX0_quoted 116 = .ok (.goto 92, 3) := by decide +kernel
theorem dX0_quoted_119 : decode cX0_quoted 119 = .ok (.iload 6, 2) := by decide +kernel
theorem dX0_quoted_121 : decode cX0_quoted 121 = .ok (.bipush 32, 2) := by decide +kernel
theorem dX0_quoted_123 : decode cX0_quoted 123 = .ok (.if_icmp .ge 59, 3) := by decide +kernel
theorem dX0_quoted_126 : decode cX0_quoted 126 = .ok (.aload_n 0, 1) := by decide +kernel
theorem dX0_quoted_127 : decode cX0_quoted 127 = .ok (.ldc 67, 2) := by decide +kernel
theorem dX0_quoted_129 : decode cX0_quoted 129 = .ok (.invokevirtual 69, 3) := by decide +kernel
theorem dX0_quoted_132 : decode cX0_quoted 132 = .ok (.aload_n 0, 1) := by decide +kernel
theorem dX0_quoted_133 : decode cX0_quoted 133 = .ok (.bipush 48, 2) := by decide +kernel
theorem dX0_quoted_135 : decode cX0_quoted 135 = .ok (.iload 6, 2) := by decide +kernel
theorem dX0_quoted_137 : decode cX0_quoted 137 = .ok (.iconst 4, 1) := by decide +kernel
theorem dX0_quoted_138 : decode cX0_quoted 138 = .ok (.ishr, 1) := by decide +kernel
theorem dX0_quoted_139 : decode cX0_quoted 139 = .ok (.iadd, 1) := by decide +kernel
theorem dX0_quoted_140 : decode cX0_quoted 140 = .ok (.invokevirtual 40, 3) := by decide +kernel
theorem dX0_quoted_143 : decode cX0_quoted 143 = .ok (.aload_n 0, 1) := by decide +kernel
theorem dX0_quoted_144 : decode cX0_quoted 144 = .ok (.iload 6, 2) := by decide +kernel
theorem dX0_quoted_146 : decode cX0_quoted 146 = .ok (.bipush 15, 2) := by decide +kernel
theorem dX0_quoted_148 : decode cX0_quoted 148 = .ok (.iand, 1) := by decide +kernel
theorem dX0_quoted_149 : decode cX0_quoted 149 = .ok (.bipush 10, 2) := by decide +kernel
theorem dX0_quoted_151 : decode cX0_quoted 151 = .ok (.if_icmp .ge 14, 3) := by decide +kernel
theorem dX0_quoted_154 : decode cX0_quoted 154 = .ok (.bipush 48, 2) := by decide +kernel
theorem dX0_quoted_156 : decode cX0_quoted 156 = .ok (.iload 6, 2) := by decide +kernel
theorem dX0_quoted_158 : decode cX0_quoted 158 = .ok (.bipush 15, 2) := by decide +kernel
theorem dX0_quoted_160 : decode cX0_quoted 160 = .ok (.iand, 1) := by decide +kernel
theorem dX0_quoted_161 : decode cX0_quoted 161 = .ok (.iadd, 1) := by decide +kernel
theorem dX0_quoted_162 : decode cX0_quoted 162 = .ok (.goto 14, 3) := by decide +kernel
theorem dX0_quoted_165 : decode cX0_quoted 165 = .ok (.bipush 97, 2) := by decide +kernel
theorem dX0_quoted_167 : decode cX0_quoted 167 = .ok (.iload 6, 2) := by decide +kernel
theorem dX0_quoted_169 : decode cX0_quoted 169 = .ok (.bipush 15, 2) := by decide +kernel
theorem dX0_quoted_171 : decode cX0_quoted 171 = .ok (.iand, 1) := by decide +kernel
theorem dX0_quoted_172 : decode cX0_quoted 172 = .ok (.iadd, 1) := by decide +kernel
theorem dX0_quoted_173 : decode cX0_quoted 173 = .ok (.bipush 10, 2) := by decide +kernel
theorem dX0_quoted_175 : decode cX0_quoted 175 = .ok (.isub, 1) := by decide +kernel
theorem dX0_quoted_176 : decode cX0_quoted 176 = .ok (.invokevirtual 40, 3) := by decide +kernel
theorem dX0_quoted_179 : decode cX0_quoted 179 = .ok (.goto 29, 3) := by decide +kernel
theorem dX0_quoted_182 : decode cX0_quoted 182 = .ok (.iload 6, 2) := by decide +kernel
theorem dX0_quoted_184 : decode cX0_quoted 184 = .ok (.bipush 34, 2) := by decide +kernel
theorem dX0_quoted_186 : decode cX0_quoted 186 = .ok (.if_icmp .eq 10, 3) := by decide +kernel
theorem dX0_quoted_189 : decode cX0_quoted 189 = .ok (.iload 6, 2) := by decide +kernel
theorem dX0_quoted_191 : decode cX0_quoted 191 = .ok (.bipush 92, 2) := by decide +kernel
theorem dX0_quoted_193 : decode cX0_quoted 193 = .ok (.if_icmp .ne 9, 3) := by decide +kernel
theorem dX0_quoted_196 : decode cX0_quoted 196 = .ok (.aload_n 0, 1) := by decide +kernel
theorem dX0_quoted_197 : decode cX0_quoted 197 = .ok (.bipush 92, 2) := by decide +kernel
theorem dX0_quoted_199 : decode cX0_quoted 199 = .ok (.invokevirtual 40, 3) := by decide +kernel
theorem dX0_quoted_202 : decode cX0_quoted 202 = .ok (.aload_n 0, 1) := by decide +kernel
theorem dX0_quoted_203 : decode cX0_quoted 203 = .ok (.iload 6, 2) := by decide +kernel
theorem dX0_quoted_205 : decode cX0_quoted 205 = .ok (.invokevirtual 63, 3) := by decide +kernel
theorem dX0_quoted_208 : decode cX0_quoted 208 = .ok (.iinc 5 1, 3) := by decide +kernel
theorem dX0_quoted_211 : decode cX0_quoted 211 = .ok (.goto (-188), 3) := by decide +kernel
theorem dX0_quoted_214 : decode cX0_quoted 214 = .ok (.aload_n 0, 1) := by decide +kernel
theorem dX0_quoted_215 : decode cX0_quoted 215 = .ok (.bipush 34, 2) := by decide +kernel
theorem dX0_quoted_217 : decode cX0_quoted 217 = .ok (.invokevirtual 40, 3) := by decide +kernel
theorem dX0_quoted_220 : decode cX0_quoted 220 = .ok (.return_, 1) := by decide +kernel
end
section
theorem jb_lne {y : Int64} (h : y.toInt ≠ 0) : ¬ y = 0 := fun q => h (by rw [q]; decide)
theorem jb_ldiv {x y : Int64} {a b : Int} (hx : x.toInt = a) (hy : y.toInt = b) (h : 0 ≤ a) (hb : 0 < b) : (x / y).toInt = a / b := by
  have hr := Int64.toInt_le x
  have h2 : Int64.maxValue.toInt = 9223372036854775807 := by decide
  rw [Int64.toInt_div, hx, hy, Int.tdiv_eq_ediv_of_nonneg h]
  have h1 : a / b ≤ a := Int.ediv_le_self b h
  have h0 : 0 ≤ a / b := Int.ediv_nonneg h (by omega)
  rw [Int.bmod_eq_of_le] <;> omega
end
section
theorem dX0_number_0 : decode cX0_number 0 = .ok (.iload_n 1, 1) := by decide +kernel
theorem dX0_number_1 : decode cX0_number 1 = .ok (.i2l, 1) := by decide +kernel
theorem dX0_number_2 : decode cX0_number 2 = .ok (.lstore_n 2, 1) := by decide +kernel
theorem dX0_number_3 : decode cX0_number 3 = .ok (.lload_n 2, 1) := by decide +kernel
theorem dX0_number_4 : decode cX0_number 4 = .ok (.lconst 0, 1) := by decide +kernel
theorem dX0_number_5 : decode cX0_number 5 = .ok (.lcmp, 1) := by decide +kernel
theorem dX0_number_6 : decode cX0_number 6 = .ok (.ifCond .ge 12, 3) := by decide +kernel
theorem dX0_number_9 : decode cX0_number 9 = .ok (.aload_n 0, 1) := by decide +kernel
theorem dX0_number_10 : decode cX0_number 10 = .ok (.bipush 45, 2) := by decide +kernel
theorem dX0_number_12 : decode cX0_number 12 = .ok (.invokevirtual 40, 3) := by decide +kernel
theorem dX0_number_15 : decode cX0_number 15 = .ok (.lload_n 2, 1) := by decide +kernel
theorem dX0_number_16 : decode cX0_number 16 = .ok (.lneg, 1) := by decide +kernel
theorem dX0_number_17 : decode cX0_number 17 = .ok (.lstore_n 2, 1) := by decide +kernel
theorem dX0_number_18 : decode cX0_number 18 = .ok (.iconst 0, 1) := by decide +kernel
theorem dX0_number_19 : decode cX0_number 19 = .ok (.istore 4, 2) := by decide +kernel
theorem dX0_number_21 : decode cX0_number 21 = .ok (.ldc2_w 44, 3) := by decide +kernel
theorem dX0_number_24 : decode cX0_number 24 = .ok (.lstore 5, 2) := by decide +kernel
theorem dX0_number_26 : decode cX0_number 26 = .ok (.lload 5, 2) := by decide +kernel
theorem dX0_number_28 : decode cX0_number 28 = .ok (.lconst 0, 1) := by decide +kernel
theorem dX0_number_29 : decode cX0_number 29 = .ok (.lcmp, 1) := by decide +kernel
theorem dX0_number_30 : decode cX0_number 30 = .ok (.ifCond .le 66, 3) := by decide +kernel
theorem dX0_number_33 : decode cX0_number 33 = .ok (.lload_n 2, 1) := by decide +kernel
theorem dX0_number_34 : decode cX0_number 34 = .ok (.lload 5, 2) := by decide +kernel
theorem dX0_number_36 : decode cX0_number 36 = .ok (.ldiv, 1) := by decide +kernel
theorem dX0_number_37 : decode cX0_number 37 = .ok (.ldc2_w 46, 3) := by decide +kernel
theorem dX0_number_40 : decode cX0_number 40 = .ok (.lrem, 1) := by decide +kernel
theorem dX0_number_41 : decode cX0_number 41 = .ok (.lstore 7, 2) := by decide +kernel
theorem dX0_number_43 : decode cX0_number 43 = .ok (.iload 4, 2) := by decide +kernel
theorem dX0_number_45 : decode cX0_number 45 = .ok (.ifCond .ne 17, 3) := by decide +kernel
theorem dX0_number_48 : decode cX0_number 48 = .ok (.lload 7, 2) := by decide +kernel
theorem dX0_number_50 : decode cX0_number 50 = .ok (.lconst 0, 1) := by decide +kernel
theorem dX0_number_51 : decode cX0_number 51 = .ok (.lcmp, 1) := by decide +kernel
theorem dX0_number_52 : decode cX0_number 52 = .ok (.ifCond .gt 10, 3) := by decide +kernel
theorem dX0_number_55 : decode cX0_number 55 = .ok (.lload 5, 2) := by decide +kernel
theorem dX0_number_57 : decode cX0_number 57 = .ok (.lconst 1, 1) := by decide +kernel
theorem dX0_number_58 : decode cX0_number 58 = .ok (.lcmp, 1) := by decide +kernel
theorem dX0_number_59 : decode cX0_number 59 = .ok (.ifCond .ne 7, 3) := by decide +kernel
theorem dX0_number_62 : decode cX0_number 62 = .ok (.iconst 1, 1) := by decide +kernel
theorem dX0_number_63 : decode cX0_number 63 = .ok (.goto 4, 3) := by decide +kernel
theorem dX0_number_66 : decode cX0_number 66 = .ok (.iconst 0, 1) := by decide +kernel
theorem dX0_number_67 : decode cX0_number 67 = .ok (.istore 4, 2) := by decide +kernel
theorem dX0_number_69 : decode cX0_number 69 = .ok (.iload 4, 2) := by decide +kernel
theorem dX0_number_71 : decode cX0_number 71 = .ok (.ifCond .eq 14, 3) := by decide +kernel
theorem dX0_number_74 : decode cX0_number 74 = .ok (.aload_n 0, 1) := by decide +kernel
theorem dX0_number_75 : decode cX0_number 75 = .ok (.ldc2_w 48, 3) := by decide +kernel
theorem dX0_number_78 : decode cX0_number 78 = .ok (.lload 7, 2) := by decide +kernel
theorem dX0_number_80 : decode cX0_number 80 = .ok (.ladd, 1) := by decide +kernel
theorem dX0_number_81 : decode cX0_number 81 = .ok (.l2i, 1) := by decide +kernel
theorem dX0_number_82 : decode cX0_number 82 = .ok (.invokevirtual 40, 3) := by decide +kernel
theorem dX0_number_85 : decode cX0_number 85 = .ok (.lload 5, 2) := by decide +kernel
theorem dX0_number_87 : decode cX0_number 87 = .ok (.ldc2_w 46, 3) := by decide +kernel
theorem dX0_number_90 : decode cX0_number 90 = .ok (.ldiv, 1) := by decide +kernel
theorem dX0_number_91 : decode cX0_number 91 = .ok (.lstore 5, 2) := by decide +kernel
theorem dX0_number_93 : decode cX0_number 93 = .ok (.goto (-67), 3) := by decide +kernel
theorem dX0_number_96 : decode cX0_number 96 = .ok (.return_, 1) := by decide +kernel
end
section
theorem jWr_20 : ∀ w ∈ wsL_law_r20, w ∈ jWl := fun w h => jT20 w (List.mem_append_left _ h)
theorem jWr_21 : ∀ w ∈ wsL_law_r21, w ∈ jWl := fun w h => jT21 w (List.mem_append_left _ h)
theorem jWr_24 : ∀ w ∈ wsL_law_r24, w ∈ jWl := fun w h => jT24 w (List.mem_append_left _ h)
theorem jWr_25 : ∀ w ∈ wsL_law_r25, w ∈ jWl := fun w h => jT25 w (List.mem_append_left _ h)
theorem jWr_26 : ∀ w ∈ wsL_law_r26, w ∈ jWl := fun w h => jT26 w (List.mem_append_left _ h)
end
section
set_option maxHeartbeats 4000000 in
set_option maxRecDepth 20000 in
theorem wX0_isHigh (l : Launch) (dC : Nat → ClassId) (dI : Nat → Nat → Nat) (ca : Nat → ClassId) (base : Nat) (H0 : Heap) (a0 : Int32) : Met l yX0_isHigh (jw yX0_isHigh cX0_isHigh 1 (some .boolean)) ({ frames := 0, cells := 0, slots := 0, locals := 0 }) (va_Pc [.int a0] (fun U => U.heap = H0 ∧ jG dC dI ca base U ∧ (True))) (vp_Si (fun r => r = 0 ∨ r = 1)) 0 0 (fun _ => False) := by
  refine Met.ofW (cc := cX0_isHigh) (maxL := 1) (ret := (some .boolean)) (by decide) rfl ?_
  intro p e s m args below meth c s₁ B hml hv
  obtain ⟨rfl, hH0, hG, hpre⟩ := hv
  have hK := hG.1
  have hx := B.exec
  have hb := B.bytes
  have hr := B.returns
  have hts := atoms_spec (ws := (jw yX0_isHigh cX0_isHigh 1 (some .boolean))) B.pre
  have htw : ∀ w ∈ jWl, w.before _ s = true := fun w h => hts w (List.mem_cons_of_mem _ h)
  have hown : s.vm.findClass RX0 = some m.cls := findClass_of_methodNamed B.named
  have hlocks := B.notSynchronized
  obtain ⟨Q, hQ⟩ : ∃ Q, Q = MQ below (vp_Si (fun r => r = 0 ∨ r = 1)) ([.int a0] : List Value).toArray s 0 0 (fun _ => False) := ⟨_, rfl⟩
  rw [← hQ]
  have hl := lv_entry ([.int a0]) (n := 1) (Nat.le_of_ble_eq_true rfl)
  rw [lg_entry_eq]
  generalize (lg_sl ([.int a0]) ++ List.replicate (1 - (lg_sl ([.int a0])).length) Slot.unset).toArray = ls at hl ⊢
  have hl : lv_has ls 1 [(0, .int a0)] := hl
  generalize hR : (headSpec (jw yX0_isHigh cX0_isHigh 1 (some .boolean)) ({ frames := 0, cells := 0, slots := 0, locals := 0 })).room = R
  subst hH0
  have hS : va_S (jA base) s.heap s.heap [] := va_S.rf
  have hk0 : (0 : Int32).toInt = 0 := by decide
  have hk1 : (1 : Int32).toInt = 1 := by decide
  refine lv_iload_n hx hb dX0_isHigh_0 rfl (lv_at hl 0 rfl) ?_
  refine lv_ldc hx hb hown (htw (.constant RX0 61 55296) (jWr_20 _ (List.mem_of_getElem? (i := 17) rfl))) dX0_isHigh_1 ?_
  refine lv_icmp_lt (tgt := 16) hx hb dX0_isHigh_3 (by decide) (fun c_1 => ?_) (fun c_1 => ?_)
  · skip
    have c_1' : a0.toInt < 55296 := jb_lt (rfl) ((by decide)) c_1
    refine lv_iconst (v := 0) hx hb dX0_isHigh_16 (by decide) ?_
    rw [hQ]
    exact W.zret (v := 0) hx hb hr (jb_nz (Or.inl rfl)) (fun t ht hW => ⟨0, rfl, by first | exact Or.inl rfl | exact Or.inr rfl | assumption, ht⟩) (fun _ h => nomatch h) dX0_isHigh_17
  · skip
    have c_1' : a0.toInt ≥ 55296 := jb_lt_n (rfl) ((by decide)) c_1
    refine lv_iload_n hx hb dX0_isHigh_6 rfl (lv_at hl 0 rfl) ?_
    refine lv_ldc hx hb hown (htw (.constant RX0 62 56320) (jWr_21 _ (List.mem_of_getElem? (i := 12) rfl))) dX0_isHigh_7 ?_
    refine lv_icmp_ge (tgt := 16) hx hb dX0_isHigh_9 (by decide) (fun c_2 => ?_) (fun c_2 => ?_)
    · skip
      have c_2' : a0.toInt ≥ 56320 := jb_ge (rfl) ((by decide)) c_2
      refine lv_iconst (v := 0) hx hb dX0_isHigh_16 (by decide) ?_
      rw [hQ]
      exact W.zret (v := 0) hx hb hr (jb_nz (Or.inl rfl)) (fun t ht hW => ⟨0, rfl, by first | exact Or.inl rfl | exact Or.inr rfl | assumption, ht⟩) (fun _ h => nomatch h) dX0_isHigh_17
    · skip
      have c_2' : a0.toInt < 56320 := jb_ge_n (rfl) ((by decide)) c_2
      refine lv_iconst (v := 1) hx hb dX0_isHigh_12 (by decide) ?_
      refine lv_goto (tgt := 17) hx hb dX0_isHigh_13 (by decide) ?_
      rw [hQ]
      exact W.zret (v := 1) hx hb hr (jb_nz (Or.inr rfl)) (fun t ht hW => ⟨1, rfl, by first | exact Or.inl rfl | exact Or.inr rfl | assumption, ht⟩) (fun _ h => nomatch h) dX0_isHigh_17
set_option maxHeartbeats 4000000 in
set_option maxRecDepth 20000 in
theorem wX0_isLow (l : Launch) (dC : Nat → ClassId) (dI : Nat → Nat → Nat) (ca : Nat → ClassId) (base : Nat) (H0 : Heap) (a0 : Int32) : Met l yX0_isLow (jw yX0_isLow cX0_isLow 1 (some .boolean)) ({ frames := 0, cells := 0, slots := 0, locals := 0 }) (va_Pc [.int a0] (fun U => U.heap = H0 ∧ jG dC dI ca base U ∧ (True))) (vp_Si (fun r => r = 0 ∨ r = 1)) 0 0 (fun _ => False) := by
  refine Met.ofW (cc := cX0_isLow) (maxL := 1) (ret := (some .boolean)) (by decide) rfl ?_
  intro p e s m args below meth c s₁ B hml hv
  obtain ⟨rfl, hH0, hG, hpre⟩ := hv
  have hK := hG.1
  have hx := B.exec
  have hb := B.bytes
  have hr := B.returns
  have hts := atoms_spec (ws := (jw yX0_isLow cX0_isLow 1 (some .boolean))) B.pre
  have htw : ∀ w ∈ jWl, w.before _ s = true := fun w h => hts w (List.mem_cons_of_mem _ h)
  have hown : s.vm.findClass RX0 = some m.cls := findClass_of_methodNamed B.named
  have hlocks := B.notSynchronized
  obtain ⟨Q, hQ⟩ : ∃ Q, Q = MQ below (vp_Si (fun r => r = 0 ∨ r = 1)) ([.int a0] : List Value).toArray s 0 0 (fun _ => False) := ⟨_, rfl⟩
  rw [← hQ]
  have hl := lv_entry ([.int a0]) (n := 1) (Nat.le_of_ble_eq_true rfl)
  rw [lg_entry_eq]
  generalize (lg_sl ([.int a0]) ++ List.replicate (1 - (lg_sl ([.int a0])).length) Slot.unset).toArray = ls at hl ⊢
  have hl : lv_has ls 1 [(0, .int a0)] := hl
  generalize hR : (headSpec (jw yX0_isLow cX0_isLow 1 (some .boolean)) ({ frames := 0, cells := 0, slots := 0, locals := 0 })).room = R
  subst hH0
  have hS : va_S (jA base) s.heap s.heap [] := va_S.rf
  have hk0 : (0 : Int32).toInt = 0 := by decide
  have hk1 : (1 : Int32).toInt = 1 := by decide
  refine lv_iload_n hx hb dX0_isLow_0 rfl (lv_at hl 0 rfl) ?_
  refine lv_ldc hx hb hown (htw (.constant RX0 62 56320) (jWr_21 _ (List.mem_of_getElem? (i := 12) rfl))) dX0_isLow_1 ?_
  refine lv_icmp_lt (tgt := 16) hx hb dX0_isLow_3 (by decide) (fun c_1 => ?_) (fun c_1 => ?_)
  · skip
    have c_1' : a0.toInt < 56320 := jb_lt (rfl) ((by decide)) c_1
    refine lv_iconst (v := 0) hx hb dX0_isLow_16 (by decide) ?_
    rw [hQ]
    exact W.zret (v := 0) hx hb hr (jb_nz (Or.inl rfl)) (fun t ht hW => ⟨0, rfl, by first | exact Or.inl rfl | exact Or.inr rfl | assumption, ht⟩) (fun _ h => nomatch h) dX0_isLow_17
  · skip
    have c_1' : a0.toInt ≥ 56320 := jb_lt_n (rfl) ((by decide)) c_1
    refine lv_iload_n hx hb dX0_isLow_6 rfl (lv_at hl 0 rfl) ?_
    refine lv_ldc hx hb hown (htw (.constant RX0 73 57344) (jWr_20 _ (List.mem_of_getElem? (i := 18) rfl))) dX0_isLow_7 ?_
    refine lv_icmp_ge (tgt := 16) hx hb dX0_isLow_9 (by decide) (fun c_2 => ?_) (fun c_2 => ?_)
    · skip
      have c_2' : a0.toInt ≥ 57344 := jb_ge (rfl) ((by decide)) c_2
      refine lv_iconst (v := 0) hx hb dX0_isLow_16 (by decide) ?_
      rw [hQ]
      exact W.zret (v := 0) hx hb hr (jb_nz (Or.inl rfl)) (fun t ht hW => ⟨0, rfl, by first | exact Or.inl rfl | exact Or.inr rfl | assumption, ht⟩) (fun _ h => nomatch h) dX0_isLow_17
    · skip
      have c_2' : a0.toInt < 57344 := jb_ge_n (rfl) ((by decide)) c_2
      refine lv_iconst (v := 1) hx hb dX0_isLow_12 (by decide) ?_
      refine lv_goto (tgt := 17) hx hb dX0_isLow_13 (by decide) ?_
      rw [hQ]
      exact W.zret (v := 1) hx hb hr (jb_nz (Or.inr rfl)) (fun t ht hW => ⟨1, rfl, by first | exact Or.inl rfl | exact Or.inr rfl | assumption, ht⟩) (fun _ h => nomatch h) dX0_isLow_17
end
section
-- super's methods; bytes whose contents are known; the numbers that signs tell
section J18
variable {p : Program} {l : Launch} {e : Env} {R : Room} {s : State} {m : MethodId} {args : Array Value} {below : List Frame} {meth : Method} {c : Code} {H : Heap} {locs : List Loc} {cells slots : Nat} {Q : State → Prop}
variable {cc : ByteArray} {pc : Nat} {ls : Array Slot} {rest : List Value} {dC : Nat → ClassId} {dI : Nat → Nat → Nat} {ca : Nat → ClassId} {B : jF} {base : Nat} {G0 G : jT} {E : List (Nat × Nat)} {H0 : Heap} {zc zs : Nat} {L : List jPin} {M : List jCt} {I : List jIv} {a k n : Nat} {cA : ClassId} {tys : List (ClassId × FieldType)}
theorem j7_bastF (hexec : p.tables.exec = Jvm.exec) (hb : c.code = cc) (hK : va_K (dC, dI) vwCl tys s) (hh : jSt (dC, dI) B base G0 G E H0 zc zs L M I H locs) (hB : jBok B) (hBk : ∀ n G a H, B k n G a H ↔ jAr (dC, dI) cA jBf n a H) (t0 : Nat) (ht : tys[t0]? = some (cA, .byte)) (hk : k < 1000) (hk2 : 17 ≤ k) (hE : E.contains (k, 0) = true) (hM : M.all (fun q => !(q.2.1 == k)) = true) (hI : I.all (fun q => !(q.1.contains (k, 0))) = true) (ha : G a = some (k, n)) {i v : Int32} {x : Int} (hi : i.toInt = x) (h12 : 0 ≤ x ∧ x < n) (hdg : decode cc pc = .ok (.bastore, 1))
    (kk : ∀ (H1 : Heap) (locs1 : List Loc), jSt (dC, dI) B base G0 G E H0 zc zs L M I H1 locs1 → W p l e R s m args below meth c H1 locs1 cells slots Q (F0 m (pc + 1) ls rest)) : W p l e R s m args below meth c H locs cells slots Q (F0 m pc ls (.int v :: .int i :: .ref a :: rest)) := by
  obtain ⟨h1, h2⟩ := h12
  obtain ⟨f, g1, g2⟩ := hh.byt hBk hk ha
  exact j_bast (A := jA base) hexec hb hK t0 g1 (hh.ab ha).1 hh.1.2.2 ht (jb_in hi h1 h2) hdg (fun H1 locs1 f1 hf hat hsz hfr hT hL => kk H1 locs1 (hh.arr hB ha hk hk2 hE hM hI hsz hfr hT hL ((hBk _ _ _ _).mpr ⟨f1, hat, fun j _ => hf g2 j⟩)))
end J18
end
section
-- copyOf of bytes, over the one list of words
set_option maxHeartbeats 4000000 in
set_option maxRecDepth 20000 in
/-- Arrays.copyOf to a greater length: a new row -/
theorem wJ7_copyOf_9075b (l : Launch) (dC : Nat → ClassId) (dI : Nat → Nat → Nat) (ca : Nat → ClassId) (base LC LS : Nat) (H0 : Heap) (v n n1 : Nat) (f : Nat → Int32) (a1 : Int32) : Met l yJ7_copyOf_9075b (jw yJ7_copyOf_9075b cJ7_copyOf_9075b 3 (some (.array .byte))) ({ frames := 1, cells := LC - H0.size, slots := LS - jTot H0, locals := 40 }) (va_Pc [.ref v, .int a1] (fun U => U.heap = H0 ∧ va_at (dC, dI) vwCl (v, .inl (ca 0, n, .inl f)) H0 ∧ jG dC dI ca base U ∧ (sb_Fit f ∧ a1.toInt = n1 ∧ n < n1 ∧ n1 ≤ 2000000 ∧ H0.size + 1 ≤ LC ∧ jTot H0 + n1 ≤ LS))) (va_Qr (S := Nat → Int32) (fun f1 => sb_Fit f1) (fun f1 a t => a = H0.size ∧ va_at (dC, dI) vwCl (a, .inl (ca 0, n1, .inl f1)) t.heap ∧ t.heap.size = H0.size + 1 ∧ (∀ q, q < H0.size → t.heap[q]? = H0[q]?) ∧ jTot t.heap ≤ jTot H0 + n1) (fun q => H0.size ≤ q)) (LC - H0.size) (LS - jTot H0) (fun q => q = v ∨ H0.size ≤ q) := by
  refine Met.ofW (cc := cJ7_copyOf_9075b) (maxL := 3) (ret := (some (.array .byte))) (by decide) rfl ?_
  intro p e s m args below meth c s₁ B hml hv
  obtain ⟨rfl, hH0, hat, hG, hfit, h1, h2, h3, h4, h5⟩ := hv
  have hK := hG.1
  have hx := B.exec
  have hb := B.bytes
  have hr := B.returns
  have hts := atoms_spec (ws := (jw yJ7_copyOf_9075b cJ7_copyOf_9075b 3 (some (.array .byte)))) B.pre
  have htw : ∀ w ∈ jWl, w.before _ s = true := fun w h => hts w (List.mem_cons_of_mem _ h)
  have hown : s.vm.findClass RJ7 = some m.cls := findClass_of_methodNamed B.named
  have hlocks := B.notSynchronized
  subst hH0
  have hvl : v < s.heap.size := (Array.getElem?_eq_some_iff.mp hat).1
  have hl := lv_entry ([.ref v, .int a1]) (n := 3) (Nat.le_of_ble_eq_true rfl)
  rw [lg_entry_eq]
  generalize (lg_sl ([.ref v, .int a1]) ++ List.replicate (3 - (lg_sl ([.ref v, .int a1])).length) Slot.unset).toArray = ls at hl ⊢
  have hl : lv_has ls 3 [(0, .ref v), (1, .int a1)] := hl
  refine lv_iload_n hx hb dJ7_copyOf_9075b_0 rfl (lv_at hl 1 rfl) ?_
  refine lv_aload_n hx hb dJ7_copyOf_9075b_1 rfl (lv_at hl 0 rfl) ?_
  refine va_alen (v := Int32.ofNat n) hx hb hK (jp_one hat) 0 0 rfl rfl rfl dJ7_copyOf_9075b_2 ?_
  refine lv_icmp_ne (tgt := 14) hx hb dJ7_copyOf_9075b_3 (by decide) (fun c1 => ?_) (fun c1 => ?_)
  · refine lv_iload_n hx hb dJ7_copyOf_9075b_14 rfl (lv_at hl 1 rfl) ?_
    refine j_newi (ty := .byte) hx hb (htw (.arrayClass .byte) (jWr_3 _ (List.mem_of_getElem? (i := 9) rfl))) rfl rfl (fun _ h => h) hK 0 rfl (jb_n0 h1 (by omega)) (N' := n1) (by rw [jb_cl h1 (by omega)]; omega) (by simp [componentBytes]; omega) (by show 0 + 1 ≤ LC - s.heap.size; omega) (by show 0 + n1 ≤ LS - jTot s.heap; omega) dJ7_copyOf_9075b_15 (fun H1 hat1 hz1 ho1 hT1 => ?_)
    have hat2 := hat.kept (ho1 _ hvl)
    have hP : va_P (dC, dI) vwCl [(v, .inl (ca 0, n, .inl f)), (s.heap.size, .inl (ca 0, n1, .inl (fun _ => 0)))] H1 := by
      intro k r hr
      match k, hr with
      | 0, hr => cases hr; exact hat2
      | 1, hr => cases hr; exact hat1
      | k + 2, hr => simp at hr
    have hD : va_D (fun q => q = v ∨ s.heap.size ≤ q) [(v, .inl (ca 0, n, .inl f)), (s.heap.size, .inl (ca 0, n1, .inl (fun _ => 0)))] := by
      refine ⟨fun i j p q hi hj e => ?_, fun k q hq => ?_⟩
      · match i, j, hi, hj with
        | 0, 0, _, _ => rfl
        | 0, 1, hi, hj => cases hi; cases hj; simp at e; omega
        | 1, 0, hi, hj => cases hi; cases hj; simp at e; omega
        | 1, 1, _, _ => rfl
        | i + 2, _, hi, _ => simp at hi
        | _, j + 2, _, hj => simp at hj
      · match k, hq with
        | 0, hq => cases hq; exact Or.inl rfl
        | 1, hq => cases hq; exact Or.inr (Nat.le_refl _)
        | k + 2, hq => simp at hq
    have hS : va_S (fun q => q = v ∨ s.heap.size ≤ q) s.heap H1 [] := ⟨by omega, fun q h _ => ho1 q h, fun _ h => nomatch h⟩
    refine lv_astore_n (lv' := [(2, .ref s.heap.size), (0, .ref v), (1, .int a1)]) hx hb dJ7_copyOf_9075b_17 rfl hl (by decide) rfl (fun ls hl => ?_)
    refine lv_aload_n hx hb dJ7_copyOf_9075b_18 rfl (lv_at hl 1 rfl) ?_
    refine lv_iconst (v := 0) hx hb dJ7_copyOf_9075b_19 (by decide) ?_
    refine lv_aload_n hx hb dJ7_copyOf_9075b_20 rfl (lv_at hl 0 rfl) ?_
    refine lv_iconst (v := 0) hx hb dJ7_copyOf_9075b_21 (by decide) ?_
    refine lv_aload_n hx hb dJ7_copyOf_9075b_22 rfl (lv_at hl 1 rfl) ?_
    refine va_alen (v := Int32.ofNat n) hx hb hK (jp_one hat2) 0 0 rfl rfl rfl dJ7_copyOf_9075b_23 ?_
    refine lv_iload_n hx hb dJ7_copyOf_9075b_24 rfl (lv_at hl 2 rfl) ?_
    refine va_mmin hx hb (by rw [hml]; exact hl.1.symm) hown (htw (.methodLink RJ7 304 Lib.Math.min.name) (jWr_16 _ (List.mem_of_getElem? (i := 15) rfl))) (htw (.static Lib.Math.min.name) (jWr_16 _ (List.mem_of_getElem? (i := 16) rfl))) (htw (.initialized "java/lang/Math") (jWr_3 _ (List.mem_of_getElem? (i := 7) rfl))) (htw (.code Lib.Math.min.name Lib.Math.min.code 2 (some .int)) (jWr_16 _ (List.mem_of_getElem? (i := 17) rfl))) (Nat.le_of_ble_eq_true rfl) (Nat.le_of_ble_eq_true rfl) (by show 0 + 1 ≤ LC - s.heap.size; omega) (by show 0 + n1 ≤ LS - jTot s.heap; omega) dJ7_copyOf_9075b_25 ?_
    have hn : (Int32.ofNat n).toInt = n := jb_nat (by omega)
    rw [if_neg (fun q => by have h6 := jb_lt h1 hn q; omega)]
    refine va_copyi (H0 := s.heap) hx hb (by rw [hml]; exact hl.1.symm) hown (htw (.methodLink RJ7 150 arraycopyName) (jWr_16 _ (List.mem_of_getElem? (i := 18) rfl))) (htw (.native arraycopyName) (jWr_16 _ (List.mem_of_getElem? (i := 19) rfl))) (htw (.static arraycopyName) (jWr_16 _ (List.mem_of_getElem? (i := 20) rfl))) (htw (.initialized "java/lang/System") (jWr_16 _ (List.mem_of_getElem? (i := 21) rfl))) hK hP hD hS 0 1 0 0 rfl rfl rfl rfl rfl (by decide) (by decide) (jb_n0 hn (by omega)) (by rw [jb_cl hn (by omega), sb_cl0]; omega) (by rw [jb_cl hn (by omega), sb_cl0]; omega) (fun i hi => hfit _) (Nat.le_of_ble_eq_true rfl) (Nat.le_of_ble_eq_true rfl) dJ7_copyOf_9075b_28 (fun H2 locs2 hP2 hD2 hS2 => ?_)
    refine W.known (fun hsz2 hT2 => ?_)
    refine lv_aload_n hx hb dJ7_copyOf_9075b_31 rfl (lv_at hl 0 rfl) ?_
    have hat3 := hP2 1 _ rfl
    have hat4 := hP2 0 _ rfl
    have hl3 : s.heap.size < H2.size := hat3.lt
    refine W.widen (k := LC - s.heap.size) (n := LS - jTot s.heap) (by omega) (by omega) ?_
    refine W.aret hx hb hr (Or.inr ⟨_, rfl⟩) (Or.inr ⟨_, rfl⟩) (fun t ht hW => ⟨⟨_, _, rfl, ?_, rfl, by rw [ht]; exact hat3, by rw [ht]; omega, fun q hq => ?_, by rw [ht]; omega⟩, by rw [ht]; exact hS2.1, fun q hq hn => ?_⟩) ?_ dJ7_copyOf_9075b_32
    · exact hS2.2.2
    · exact sb_fitC hfit sb_fit0
    · rw [ht]
      by_cases e : q = v
      · subst e
        exact (show H2[q]? = some _ from hat4).trans (show s.heap[q]? = some _ from hat).symm
      · exact hS2.2.1 q hq (fun h => h.elim e (fun h => by omega))
    · rw [ht]
      by_cases e : q = v
      · subst e
        exact (show H2[q]? = some _ from hat4).trans (show s.heap[q]? = some _ from hat).symm
      · exact hS2.2.1 q hq (fun h => h.elim e (fun h => by omega))
  · exact absurd (jb_eq h1 (jb_nat (by omega)) c1) (by omega)
end
section
-- bytes that grow: arrays of bytes whose elements fit (the builders', the class's Bytes)
section J17
variable {p : Program} {l : Launch} {e : Env} {R : Room} {s : State} {m : MethodId} {args : Array Value} {below : List Frame} {meth : Method} {c : Code} {H : Heap} {locs : List Loc} {cells slots : Nat} {Q : State → Prop}
variable {cc : ByteArray} {pc : Nat} {ls : Array Slot} {rest : List Value} {dC : Nat → ClassId} {dI : Nat → Nat → Nat} {ca : Nat → ClassId} {B : jF} {base : Nat} {G0 G : jT} {E : List (Nat × Nat)} {H0 : Heap} {zc zs : Nat} {L : List jPin} {M : List jCt} {I : List jIv} {a k n : Nat} {cA : ClassId} {tys : List (ClassId × FieldType)}
/-- Arrays.copyOf of bytes to a greater length, in a walk: the copy is typed at once -/
theorem j7_copyb {own : String} {index : Nat} {Ts : List Cond} {nL LC LS n1 : Nat} {z : Int32} (hC : CallFix p m c cc nL s args Ts own) (hK : va_K (dC, dI) vwCl tys s) (hG : jG dC dI ca base s) (hh : jSt (dC, dI) B base G0 G E s.heap zc zs L M I H locs) (hB : jBok B) (hBk : ∀ n G a H, B k n G a H ↔ jAr (dC, dI) (ca 0) jBf n a H) (hk : k < 1000) (hb0 : base ≤ s.heap.size) (ha : G a = some (k, n)) (hz : z.toInt = n1) (hn : n < n1) (hm : n1 ≤ 2000000) (hLC : H.size + 1 ≤ LC) (hLS : jTot H + n1 ≤ LS) (hRc : R.cells = LC - s.heap.size) (hRs : R.slots = LS - jTot s.heap)
    (cw : CallB R s args own index yJ7_copyOf_9075b cJ7_copyOf_9075b 3 (some (.array .byte)) (jw yJ7_copyOf_9075b cJ7_copyOf_9075b 3 (some (.array .byte))) { frames := 1, cells := LC - H.size, slots := LS - jTot H, locals := 40 } (LC - H.size) (LS - jTot H) 2 ∧ (Cond.static yJ7_copyOf_9075b).before args s = true) (hsz : ls.size = nL) (hW : (rest.map fun v => v.category).sum ≤ 8) (hdg : decode cc pc = .ok (.invokestatic index, 3))
    (kk : ∀ (H1 : Heap) (locs1 : List Loc), H1.size = H.size + 1 → jTot H1 ≤ jTot H + n1 → jSt (dC, dI) B base G0 (va_up G H.size (some (k, n1))) E s.heap (zc + 1) (zs + n1) L M I H1 locs1 → W p l e R s m args below meth c H1 locs1 (zc + 1) (zs + n1) Q (F0 m (pc + 3) ls (.ref H.size :: rest))) : W p l e R s m args below meth c H locs cells slots Q (F0 m pc ls (.int z :: .ref a :: rest)) := by
  obtain ⟨f, g1, g2⟩ := hh.byt hBk hk ha
  refine W.room (fun r1 r2 => ?_)
  refine va_callr (A0 := jA base) (H0 := s.heap) (va_runS (As := [.ref a, .int z]) (rest := rest) hC (wJ7_copyOf_9075b l dC dI ca base LC LS H a n n1 f z) cw ⟨fun a U g mk q => by obtain ⟨q0, q1, q2, qK, q9⟩ := q; exact ⟨q0, q1, q2, jG.calling g mk a qK, q9⟩, fun U hU hW => ⟨rfl, hU, g1, hG.step hW hU hh.1, g2, hz, hn, hm, hLC, hLS⟩⟩ rfl rfl hsz rfl (by show 2 * 0 + _ ≤ 8; omega) hdg ⟨by omega, by omega⟩) hh.1 (fun q h9 h => absurd h9 (Nat.not_lt.mpr h)) (fun q h => h.elim (fun h => by rw [h]; exact (hh.ab ha).1) (fun h => by show base ≤ q; omega)) (fun f9 a9 t H1 locs1 ht hvm hw hB9 hz1 hk1 hS1 => ?_)
  obtain ⟨rfl, hat9, hsz9, hfr9, hT9⟩ := hB9
  rw [ht] at hat9 hsz9 hT9
  have hfr9 : ∀ q, q < H.size → H1[q]? = H[q]? := fun q hq => by rw [← ht]; exact hfr9 q hq
  have h9 := hh.newL (k := k) (n := n1) hB (Nat.le_trans hb0 r1) hS1 hsz9 hfr9 hT9 hk ((hBk _ _ _ _).mpr ⟨f9, hat9, fun j _ => hw j⟩)
  exact W.tight (c2 := zc + 1) (n2 := zs + n1) h9.2.2.2.2.2.1 h9.2.2.2.2.2.2.1 (kk H1 locs1 hsz9 hT9 h9)
end J17
end
section
theorem jPw.dbl {n m : Nat} (h : jPw n) (h1 : n < 1000000) (e : m = 2 * n) : jPw m := by
  obtain ⟨k, hk, rfl⟩ := h
  by_cases q : k = 16
  · subst q
    have h3 : (2 : Nat) ^ 16 = 65536 := by decide
    omega
  · exact ⟨k + 1, by omega, by rw [Nat.pow_succ]; omega⟩
theorem jBr.mk6 {n m x : Nat} {G : jT} (hn : n ≠ 4000) (hg : G x = some (196, m)) (h1 : 16 ≤ m) (h2 : m ≤ 1048576) (h3 : n = 0 → jPw m) (h4 : n = 0 ∨ m = n) : jBr n G (.ref x) := ⟨x, m, rfl, by rw [jBkd, if_neg hn]; exact hg, h1, h2, h3, h4⟩
end
section
-- less is known of the room
theorem jSt.wk {dC : Nat → ClassId} {dI : Nat → Nat → Nat} {B : jF} {base : Nat} {G0 G : jT} {E : List (Nat × Nat)} {H0 : Heap} {zc zs : Nat} {L : List jPin} {M : List jCt} {I : List jIv} {H : Heap} {locs : List Loc} (hh : jSt (dC, dI) B base G0 G E H0 zc zs L M I H locs) {zc1 zs1 : Nat} (h1 : zc ≤ zc1) (h2 : zs ≤ zs1) : jSt (dC, dI) B base G0 G E H0 zc1 zs1 L M I H locs := by
  obtain ⟨g1, g2, g3, g4, g5, g6, g7, g8, g9⟩ := hh
  exact ⟨g1, g2, g3, g4, g5, by omega, by omega, g8, g9⟩
end
section
theorem dX0_init_0 : decode cX0_init 0 = .ok (.aload_n 0, 1) := by decide +kernel
theorem dX0_init_1 : decode cX0_init 1 = .ok (.invokespecial 1, 3) := by decide +kernel
theorem dX0_init_4 : decode cX0_init 4 = .ok (.aload_n 0, 1) := by decide +kernel
theorem dX0_init_5 : decode cX0_init 5 = .ok (.iload_n 1, 1) := by decide +kernel
theorem dX0_init_6 : decode cX0_init 6 = .ok (.bipush 16, 2) := by decide +kernel
theorem dX0_init_8 : decode cX0_init 8 = .ok (.invokestatic 7, 3) := by decide +kernel
theorem dX0_init_11 : decode cX0_init 11 = .ok (.newarray .byte, 2) := by decide +kernel
theorem dX0_init_13 : decode cX0_init 13 = .ok (.putfield 13, 3) := by decide +kernel
theorem dX0_init_16 : decode cX0_init 16 = .ok (.return_, 1) := by decide +kernel
end
section
theorem jSz {G : jT} {a k n m : Nat} (h : G a = some (k, n)) (e : n = m) : G a = some (k, m) := e ▸ h
end
section
-- Bytes that stay small; new Bytes
theorem jPw.h128 {n : Nat} (h : jPw n) (h1 : n < 128) : n ≤ 64 := by
  obtain ⟨k, hk, rfl⟩ := h
  by_cases q : k ≤ 2
  · have h4 : 2 ^ k ≤ 2 ^ 2 := Nat.pow_le_pow_right (by decide) q
    have h3 : (2 : Nat) ^ 2 = 4 := by decide
    omega
  · have h4 : 2 ^ 3 ≤ 2 ^ k := Nat.pow_le_pow_right (by decide) (by omega)
    have h3 : (2 : Nat) ^ 3 = 8 := by decide
    omega
end
