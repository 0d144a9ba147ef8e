section
section JR
variable {p : Program} {l : Launch} {e : Env} {R : Room} {s : State} {m : MethodId} {args : Array Value} {below : List Frame} {meth : Method} {c : Code} {H : Heap} {locs : List Loc} {cells slots : Nat} {Q : State → Prop}
variable {cc : ByteArray} {pc : Nat} {ls : Array Slot} {rest : List Value} {D : va_G} {cl : List vw_C} {A : Nat → Prop} {a : Nat} {tys : List (ClassId × FieldType)}
theorem j_bast (hexec : p.tables.exec = Jvm.exec) (hb : c.code = cc) (hK : va_K D cl tys s) (t0 : Nat) {cA : ClassId} {n : Nat} {f : Nat → Int32} (hat : va_at D cl (a, .inl (cA, n, .inl f)) H) (hA : A a) (hL : ∀ q ∈ locs, A q.base) (ht : tys[t0]? = some (cA, .byte)) {i : Int32} {x : Int32} (hin : vp_in i n) (hdg : decode cc pc = .ok (.bastore, 1))
    (kk : ∀ (H1 : Heap) (locs1 : List Loc) (f1 : Nat → Int32), (sb_Fit f → sb_Fit f1) → va_at D cl (a, .inl (cA, n, .inl f1)) H1 → H1.size = H.size → (∀ q, q ≠ a → H1[q]? = H[q]?) → jTot H1 = jTot H → (∀ q ∈ locs1, A q.base) → W p l e R s m args below meth c H1 locs1 cells slots Q (F0 m (pc + 1) ls rest)) : W p l e R s m args below meth c H locs cells slots Q (F0 m pc ls (.int x :: .int i :: .ref a :: rest)) := by
  refine W.bast hexec hb hat ((hK.2 t0 _ ht).1 n (fun j => .int (f j))) (fun q => by cases q) (by show ¬ (i < 0 ∨ (arrV _ _ _).slots.size ≤ _); rw [arrV_size]; exact hin) rfl rfl hdg fun H1 e z oq => ?_
  refine kk H1 _ (upd f i.toNatClampNeg (vp_nar .byte x)) (fun h => sb_fitU h (by rw [vp_nar_byte]; exact pk_fb x)) ?_ z oq (jTot_set z hat e (jSet_sz _ _ _) oq) ?_
  · show H1[a]? = some (vp_cell _ _)
    rw [e]
    rw [vp_cell_i, vp_cell_i, arrV_store]
    congr 2
    funext q
    by_cases hq : q = i.toNatClampNeg
    · subst hq
      simp [updV, upd, vp_nar]
      try rfl
    · simp [updV, upd, hq]
  · intro q hq
    rcases List.mem_append.mp hq with h | h
    · exact hL q h
    · cases List.mem_singleton.mp h; exact hA
end JR
end
section
theorem dX0_isHigh_0 : decode cX0_isHigh 0 = .ok (.iload_n 0, 1) := by decide +kernel
theorem dX0_isHigh_1 : decode cX0_isHigh 1 = .ok (.ldc 61, 2) := by decide +kernel
theorem dX0_isHigh_3 : decode cX0_isHigh 3 = .ok (.if_icmp .lt 13, 3) := by decide +kernel
theorem dX0_isHigh_6 : decode cX0_isHigh 6 = .ok (.iload_n 0, 1) := by decide +kernel
theorem dX0_isHigh_7 : decode cX0_isHigh 7 = .ok (.ldc 62, 2) := by decide +kernel
theorem dX0_isHigh_9 : decode cX0_isHigh 9 = .ok (.if_icmp .ge 7, 3) := by decide +kernel
theorem dX0_isHigh_12 : decode cX0_isHigh 12 = .ok (.iconst 1, 1) := by decide +kernel
theorem dX0_isHigh_13 : decode cX0_isHigh 13 = .ok (.goto 4, 3) := by decide +kernel
theorem dX0_isHigh_16 : decode cX0_isHigh 16 = .ok (.iconst 0, 1) := by decide +kernel
theorem dX0_isHigh_17 : decode cX0_isHigh 17 = .ok (.ireturn, 1) := by decide +kernel
theorem dX0_isLow_0 : decode cX0_isLow 0 = .ok (.iload_n 0, 1) := by decide +kernel
theorem dX0_isLow_1 : decode cX0_isLow 1 = .ok (.ldc 62, 2) := by decide +kernel
theorem dX0_isLow_3 : decode cX0_isLow 3 = .ok (.if_icmp .lt 13, 3) := by decide +kernel
theorem dX0_isLow_6 : decode cX0_isLow 6 = .ok (.iload_n 0, 1) := by decide +kernel
theorem dX0_isLow_7 : decode cX0_isLow 7 = .ok (.ldc 73, 2) := by decide +kernel
theorem dX0_isLow_9 : decode cX0_isLow 9 = .ok (.if_icmp .ge 7, 3) := by decide +kernel
theorem dX0_isLow_12 : decode cX0_isLow 12 = .ok (.iconst 1, 1) := by decide +kernel
theorem dX0_isLow_13 : decode cX0_isLow 13 = .ok (.goto 4, 3) := by decide +kernel
theorem dX0_isLow_16 : decode cX0_isLow 16 = .ok (.iconst 0, 1) := by decide +kernel
theorem dX0_isLow_17 : decode cX0_isLow 17 = .ok (.ireturn, 1) := by decide +kernel
theorem dX5_areAlike_0 : decode cX5_areAlike 0 = .ok (.iload_n 0, 1) := by decide +kernel
theorem dX5_areAlike_1 : decode cX5_areAlike 1 = .ok (.bipush 15, 2) := by decide +kernel
theorem dX5_areAlike_3 : decode cX5_areAlike 3 = .ok (.iand, 1) := by decide +kernel
theorem dX5_areAlike_4 : decode cX5_areAlike 4 = .ok (.istore_n 2, 1) := by decide +kernel
theorem dX5_areAlike_5 : decode cX5_areAlike 5 = .ok (.iload_n 0, 1) := by decide +kernel
theorem dX5_areAlike_6 : decode cX5_areAlike 6 = .ok (.iload_n 1, 1) := by decide +kernel
theorem dX5_areAlike_7 : decode cX5_areAlike 7 = .ok (.if_icmp .eq 22, 3) := by decide +kernel
theorem dX5_areAlike_10 : decode cX5_areAlike 10 = .ok (.iload_n 2, 1) := by decide +kernel
theorem dX5_areAlike_11 : decode cX5_areAlike 11 = .ok (.iconst 5, 1) := by decide +kernel
theorem dX5_areAlike_12 : decode cX5_areAlike 12 = .ok (.if_icmp .eq 9, 3) := by decide +kernel
theorem dX5_areAlike_15 : decode cX5_areAlike 15 = .ok (.iload_n 2, 1) := by decide +kernel
theorem dX5_areAlike_16 : decode cX5_areAlike 16 = .ok (.bipush 6, 2) := by decide +kernel
theorem dX5_areAlike_18 : decode cX5_areAlike 18 = .ok (.if_icmp .ne 15, 3) := by decide +kernel
theorem dX5_areAlike_21 : decode cX5_areAlike 21 = .ok (.iload_n 2, 1) := by decide +kernel
theorem dX5_areAlike_22 : decode cX5_areAlike 22 = .ok (.iload_n 1, 1) := by decide +kernel
theorem dX5_areAlike_23 : decode cX5_areAlike 23 = .ok (.bipush 15, 2) := by decide +kernel
theorem dX5_areAlike_25 : decode cX5_areAlike 25 = .ok (.iand, 1) := by decide +kernel
theorem dX5_areAlike_26 : decode cX5_areAlike 26 = .ok (.if_icmp .ne 7, 3) := by decide +kernel
theorem dX5_areAlike_29 : decode cX5_areAlike 29 = .ok (.iconst 1, 1) := by decide +kernel
theorem dX5_areAlike_30 : decode cX5_areAlike 30 = .ok (.goto 4, 3) := by decide +kernel
theorem dX5_areAlike_33 : decode cX5_areAlike 33 = .ok (.iconst 0, 1) := by decide +kernel
theorem dX5_areAlike_34 : decode cX5_areAlike 34 = .ok (.ireturn, 1) := by decide +kernel
theorem dX6_signOf_0 : decode cX6_signOf 0 = .ok (.iload_n 0, 1) := by decide +kernel
theorem dX6_signOf_1 : decode cX6_signOf 1 = .ok (.bipush 97, 2) := by decide +kernel
theorem dX6_signOf_3 : decode cX6_signOf 3 = .ok (.if_icmp .lt 14, 3) := by decide +kernel
theorem dX6_signOf_6 : decode cX6_signOf 6 = .ok (.iload_n 0, 1) := by decide +kernel
theorem dX6_signOf_7 : decode cX6_signOf 7 = .ok (.bipush 122, 2) := by decide +kernel
theorem dX6_signOf_9 : decode cX6_signOf 9 = .ok (.if_icmp .gt 8, 3) := by decide +kernel
theorem dX6_signOf_12 : decode cX6_signOf 12 = .ok (.iload_n 0, 1) := by decide +kernel
theorem dX6_signOf_13 : decode cX6_signOf 13 = .ok (.bipush 97, 2) := by decide +kernel
theorem dX6_signOf_15 : decode cX6_signOf 15 = .ok (.isub, 1) := by decide +kernel
theorem dX6_signOf_16 : decode cX6_signOf 16 = .ok (.ireturn, 1) := by decide +kernel
theorem dX6_signOf_17 : decode cX6_signOf 17 = .ok (.iload_n 0, 1) := by decide +kernel
theorem dX6_signOf_18 : decode cX6_signOf 18 = .ok (.bipush 65, 2) := by decide +kernel
theorem dX6_signOf_20 : decode cX6_signOf 20 = .ok (.if_icmp .lt 17, 3) := by decide +kernel
theorem dX6_signOf_23 : decode cX6_signOf 23 = .ok (.iload_n 0, 1) := by decide +kernel
theorem dX6_signOf_24 : decode cX6_signOf 24 = .ok (.bipush 90, 2) := by decide +kernel
theorem dX6_signOf_26 : decode cX6_signOf 26 = .ok (.if_icmp .gt 11, 3) := by decide +kernel
theorem dX6_signOf_29 : decode cX6_signOf 29 = .ok (.iload_n 0, 1) := by decide +kernel
theorem dX6_signOf_30 : decode cX6_signOf 30 = .ok (.bipush 65, 2) := by decide +kernel
theorem dX6_signOf_32 : decode cX6_signOf 32 = .ok (.isub, 1) := by decide +kernel
theorem dX6_signOf_33 : decode cX6_signOf 33 = .ok (.bipush 26, 2) := by decide +kernel
theorem dX6_signOf_35 : decode cX6_signOf 35 = .ok (.iadd, 1) := by decide +kernel
theorem dX6_signOf_36 : decode cX6_signOf 36 = .ok (.ireturn, 1) := by decide +kernel
theorem dX6_signOf_37 : decode cX6_signOf 37 = .ok (.iload_n 0, 1) := by decide +kernel
theorem dX6_signOf_38 : decode cX6_signOf 38 = .ok (.bipush 48, 2) := by decide +kernel
theorem dX6_signOf_40 : decode cX6_signOf 40 = .ok (.if_icmp .lt 17, 3) := by decide +kernel
theorem dX6_signOf_43 : decode cX6_signOf 43 = .ok (.iload_n 0, 1) := by decide +kernel
theorem dX6_signOf_44 : decode cX6_signOf 44 = .ok (.bipush 57, 2) := by decide +kernel
theorem dX6_signOf_46 : decode cX6_signOf 46 = .ok (.if_icmp .gt 11, 3) := by decide +kernel
theorem dX6_signOf_49 : decode cX6_signOf 49 = .ok (.iload_n 0, 1) := by decide +kernel
theorem dX6_signOf_50 : decode cX6_signOf 50 = .ok (.bipush 48, 2) := by decide +kernel
theorem dX6_signOf_52 : decode cX6_signOf 52 = .ok (.isub, 1) := by decide +kernel
theorem dX6_signOf_53 : decode cX6_signOf 53 = .ok (.bipush 52, 2) := by decide +kernel
theorem dX6_signOf_55 : decode cX6_signOf 55 = .ok (.iadd, 1) := by decide +kernel
theorem dX6_signOf_56 : decode cX6_signOf 56 = .ok (.ireturn, 1) := by decide +kernel
theorem dX6_signOf_57 : decode cX6_signOf 57 = .ok (.iload_n 0, 1) := by decide +kernel
theorem dX6_signOf_58 : decode cX6_signOf 58 = .ok (.bipush 95, 2) := by decide +kernel
theorem dX6_signOf_60 : decode cX6_signOf 60 = .ok (.if_icmp .ne 8, 3) := by decide +kernel
theorem dX6_signOf_63 : decode cX6_signOf 63 = .ok (.bipush 62, 2) := by decide +kernel
theorem dX6_signOf_65 : decode cX6_signOf 65 = .ok (.goto 15, 3) := by decide +kernel
theorem dX6_signOf_68 : decode cX6_signOf 68 = .ok (.iload_n 0, 1) := by decide +kernel
theorem dX6_signOf_69 : decode cX6_signOf 69 = .ok (.bipush 39, 2) := by decide +kernel
theorem dX6_signOf_71 : decode cX6_signOf 71 = .ok (.if_icmp .ne 8, 3) := by decide +kernel
theorem dX6_signOf_74 : decode cX6_signOf 74 = .ok (.bipush 63, 2) := by decide +kernel
theorem dX6_signOf_76 : decode cX6_signOf 76 = .ok (.goto 4, 3) := by decide +kernel
theorem dX6_signOf_79 : decode cX6_signOf 79 = .ok (.iconst (-1), 1) := by decide +kernel
theorem dX6_signOf_80 : decode cX6_signOf 80 = .ok (.ireturn, 1) := by decide +kernel
theorem dX11_isBlank_0 : decode cX11_isBlank 0 = .ok (.iload_n 0, 1) := by decide +kernel
theorem dX11_isBlank_1 : decode cX11_isBlank 1 = .ok (.bipush 32, 2) := by decide +kernel
theorem dX11_isBlank_3 : decode cX11_isBlank 3 = .ok (.if_icmp .eq 21, 3) := by decide +kernel
theorem dX11_isBlank_6 : decode cX11_isBlank 6 = .ok (.iload_n 0, 1) := by decide +kernel
theorem dX11_isBlank_7 : decode cX11_isBlank 7 = .ok (.bipush 9, 2) := by decide +kernel
theorem dX11_isBlank_9 : decode cX11_isBlank 9 = .ok (.if_icmp .eq 15, 3) := by decide +kernel
theorem dX11_isBlank_12 : decode cX11_isBlank 12 = .ok (.iload_n 0, 1) := by decide +kernel
theorem dX11_isBlank_13 : decode cX11_isBlank 13 = .ok (.bipush 10, 2) := by decide +kernel
theorem dX11_isBlank_15 : decode cX11_isBlank 15 = .ok (.if_icmp .eq 9, 3) := by decide +kernel
theorem dX11_isBlank_18 : decode cX11_isBlank 18 = .ok (.iload_n 0, 1) := by decide +kernel
theorem dX11_isBlank_19 : decode cX11_isBlank 19 = .ok (.bipush 13, 2) := by decide +kernel
theorem dX11_isBlank_21 : decode cX11_isBlank 21 = .ok (.if_icmp .ne 7, 3) := by decide +kernel
theorem dX11_isBlank_24 : decode cX11_isBlank 24 = .ok (.iconst 1, 1) := by decide +kernel
theorem dX11_isBlank_25 : decode cX11_isBlank 25 = .ok (.goto 4, 3) := by decide +kernel
theorem dX11_isBlank_28 : decode cX11_isBlank 28 = .ok (.iconst 0, 1) := by decide +kernel
theorem dX11_isBlank_29 : decode cX11_isBlank 29 = .ok (.ireturn, 1) := by decide +kernel
theorem dX11_isDigit_0 : decode cX11_isDigit 0 = .ok (.iload_n 0, 1) := by decide +kernel
theorem dX11_isDigit_1 : decode cX11_isDigit 1 = .ok (.bipush 48, 2) := by decide +kernel
theorem dX11_isDigit_3 : decode cX11_isDigit 3 = .ok (.if_icmp .lt 13, 3) := by decide +kernel
theorem dX11_isDigit_6 : decode cX11_isDigit 6 = .ok (.iload_n 0, 1) := by decide +kernel
theorem dX11_isDigit_7 : decode cX11_isDigit 7 = .ok (.bipush 57, 2) := by decide +kernel
theorem dX11_isDigit_9 : decode cX11_isDigit 9 = .ok (.if_icmp .gt 7, 3) := by decide +kernel
theorem dX11_isDigit_12 : decode cX11_isDigit 12 = .ok (.iconst 1, 1) := by decide +kernel
theorem dX11_isDigit_13 : decode cX11_isDigit 13 = .ok (.goto 4, 3) := by decide +kernel
theorem dX11_isDigit_16 : decode cX11_isDigit 16 = .ok (.iconst 0, 1) := by decide +kernel
theorem dX11_isDigit_17 : decode cX11_isDigit 17 = .ok (.ireturn, 1) := by decide +kernel
theorem dX11_isLetter_0 : decode cX11_isLetter 0 = .ok (.iload_n 0, 1) := by decide +kernel
theorem dX11_isLetter_1 : decode cX11_isLetter 1 = .ok (.bipush 97, 2) := by decide +kernel
theorem dX11_isLetter_3 : decode cX11_isLetter 3 = .ok (.if_icmp .lt 9, 3) := by decide +kernel
theorem dX11_isLetter_6 : decode cX11_isLetter 6 = .ok (.iload_n 0, 1) := by decide +kernel
theorem dX11_isLetter_7 : decode cX11_isLetter 7 = .ok (.bipush 122, 2) := by decide +kernel
theorem dX11_isLetter_9 : decode cX11_isLetter 9 = .ok (.if_icmp .le 15, 3) := by decide +kernel
theorem dX11_isLetter_12 : decode cX11_isLetter 12 = .ok (.iload_n 0, 1) := by decide +kernel
theorem dX11_isLetter_13 : decode cX11_isLetter 13 = .ok (.bipush 65, 2) := by decide +kernel
theorem dX11_isLetter_15 : decode cX11_isLetter 15 = .ok (.if_icmp .lt 13, 3) := by decide +kernel
theorem dX11_isLetter_18 : decode cX11_isLetter 18 = .ok (.iload_n 0, 1) := by decide +kernel
theorem dX11_isLetter_19 : decode cX11_isLetter 19 = .ok (.bipush 90, 2) := by decide +kernel
theorem dX11_isLetter_21 : decode cX11_isLetter 21 = .ok (.if_icmp .gt 7, 3) := by decide +kernel
theorem dX11_isLetter_24 : decode cX11_isLetter 24 = .ok (.iconst 1, 1) := by decide +kernel
theorem dX11_isLetter_25 : decode cX11_isLetter 25 = .ok (.goto 4, 3) := by decide +kernel
theorem dX11_isLetter_28 : decode cX11_isLetter 28 = .ok (.iconst 0, 1) := by decide +kernel
theorem dX11_isLetter_29 : decode cX11_isLetter 29 = .ok (.ireturn, 1) := by decide +kernel
end
section
theorem dX0_put_12 : decode cX0_put 12 = .ok (.aload_n 0, 1) := by decide +kernel
theorem dX0_put_13 : decode cX0_put 13 = .ok (.getfield 19, 3) := by decide +kernel
theorem dX0_put_16 : decode cX0_put 16 = .ok (.ldc 23, 2) := by decide +kernel
theorem dX0_put_18 : decode cX0_put 18 = .ok (.if_icmp .ge 21, 3) := by decide +kernel
theorem dX0_put_21 : decode cX0_put 21 = .ok (.aload_n 0, 1) := by decide +kernel
theorem dX0_put_22 : decode cX0_put 22 = .ok (.aload_n 0, 1) := by decide +kernel
theorem dX0_put_23 : decode cX0_put 23 = .ok (.getfield 13, 3) := by decide +kernel
theorem dX0_put_26 : decode cX0_put 26 = .ok (.iconst 2, 1) := by decide +kernel
theorem dX0_put_27 : decode cX0_put 27 = .ok (.aload_n 0, 1) := by decide +kernel
theorem dX0_put_28 : decode cX0_put 28 = .ok (.getfield 13, 3) := by decide +kernel
theorem dX0_put_31 : decode cX0_put 31 = .ok (.arraylength, 1) := by decide +kernel
theorem dX0_put_32 : decode cX0_put 32 = .ok (.imul, 1) := by decide +kernel
theorem dX0_put_33 : decode cX0_put 33 = .ok (.invokestatic 24, 3) := by decide +kernel
theorem dX0_put_36 : decode cX0_put 36 = .ok (.putfield 13, 3) := by decide +kernel
end
section
theorem dX0_text_0 : decode cX0_text 0 = .ok (.iconst 0, 1) := by decide +kernel
theorem dX0_text_1 : decode cX0_text 1 = .ok (.istore_n 2, 1) := by decide +kernel
theorem dX0_text_2 : decode cX0_text 2 = .ok (.iload_n 2, 1) := by decide +kernel
theorem dX0_text_3 : decode cX0_text 3 = .ok (.aload_n 1, 1) := by decide +kernel
theorem dX0_text_4 : decode cX0_text 4 = .ok (.invokevirtual 30, 3) := by decide +kernel
theorem dX0_text_7 : decode cX0_text 7 = .ok (.if_icmp .ge 18, 3) := by decide +kernel
theorem dX0_text_10 : decode cX0_text 10 = .ok (.aload_n 0, 1) := by decide +kernel
theorem dX0_text_11 : decode cX0_text 11 = .ok (.aload_n 1, 1) := by decide +kernel
theorem dX0_text_12 : decode cX0_text 12 = .ok (.iload_n 2, 1) := by decide +kernel
theorem dX0_text_13 : decode cX0_text 13 = .ok (.invokevirtual 36, 3) := by decide +kernel
theorem dX0_text_16 : decode cX0_text 16 = .ok (.invokevirtual 40, 3) := by decide +kernel
theorem dX0_text_19 : decode cX0_text 19 = .ok (.iinc 2 1, 3) := by decide +kernel
theorem dX0_text_22 : decode cX0_text 22 = .ok (.goto (-20), 3) := by decide +kernel
theorem dX0_text_25 : decode cX0_text 25 = .ok (.return_, 1) := by decide +kernel
theorem dX0_character_0 : decode cX0_character 0 = .ok (.iload_n 1, 1) := by decide +kernel
theorem dX0_character_1 : decode cX0_character 1 = .ok (.sipush 128, 3) := by decide +kernel
theorem dX0_character_4 : decode cX0_character 4 = .ok (.if_icmp .ge 9, 3) := by decide +kernel
theorem dX0_character_7 : decode cX0_character 7 = .ok (.aload_n 0, 1) := by decide +kernel
theorem dX0_character_8 : decode cX0_character 8 = .ok (.iload_n 1, 1) := by decide +kernel
theorem dX0_character_9 : decode cX0_character 9 = .ok (.invokevirtual 40, 3) := by decide +kernel
theorem dX0_character_12 : decode cX0_character 12 = .ok (.return_, 1) := by decide +kernel
theorem dX0_character_13 : decode cX0_character 13 = .ok (.iload_n 1, 1) := by decide +kernel
theorem dX0_character_14 : decode cX0_character 14 = .ok (.sipush 2048, 3) := by decide +kernel
theorem dX0_character_17 : decode cX0_character 17 = .ok (.if_icmp .ge 18, 3) := by decide +kernel
theorem dX0_character_20 : decode cX0_character 20 = .ok (.aload_n 0, 1) := by decide +kernel
theorem dX0_character_21 : decode cX0_character 21 = .ok (.sipush 192, 3) := by decide +kernel
theorem dX0_character_24 : decode cX0_character 24 = .ok (.iload_n 1, 1) := by decide +kernel
theorem dX0_character_25 : decode cX0_character 25 = .ok (.bipush 6, 2) := by decide +kernel
theorem dX0_character_27 : decode cX0_character 27 = .ok (.ishr, 1) := by decide +kernel
theorem dX0_character_28 : decode cX0_character 28 = .ok (.ior, 1) := by decide +kernel
theorem dX0_character_29 : decode cX0_character 29 = .ok (.invokevirtual 40, 3) := by decide +kernel
theorem dX0_character_32 : decode cX0_character 32 = .ok (.goto 66, 3) := by decide +kernel
theorem dX0_character_35 : decode cX0_character 35 = .ok (.iload_n 1, 1) := by decide +kernel
theorem dX0_character_36 : decode cX0_character 36 = .ok (.ldc 60, 2) := by decide +kernel
theorem dX0_character_38 : decode cX0_character 38 = .ok (.if_icmp .ge 18, 3) := by decide +kernel
theorem dX0_character_41 : decode cX0_character 41 = .ok (.aload_n 0, 1) := by decide +kernel
theorem dX0_character_42 : decode cX0_character 42 = .ok (.sipush 224, 3) := by decide +kernel
theorem dX0_character_45 : decode cX0_character 45 = .ok (.iload_n 1, 1) := by decide +kernel
theorem dX0_character_46 : decode cX0_character 46 = .ok (.bipush 12, 2) := by decide +kernel
theorem dX0_character_48 : decode cX0_character 48 = .ok (.ishr, 1) := by decide +kernel
theorem dX0_character_49 : decode cX0_character 49 = .ok (.ior, 1) := by decide +kernel
theorem dX0_character_50 : decode cX0_character 50 = .ok (.invokevirtual 40, 3) := by decide +kernel
theorem dX0_character_53 : decode cX0_character 53 = .ok (.goto 30, 3) := by decide +kernel
theorem dX0_character_56 : decode cX0_character 56 = .ok (.aload_n 0, 1) := by decide +kernel
theorem dX0_character_57 : decode cX0_character 57 = .ok (.sipush 240, 3) := by decide +kernel
theorem dX0_character_60 : decode cX0_character 60 = .ok (.iload_n 1, 1) := by decide +kernel
theorem dX0_character_61 : decode cX0_character 61 = .ok (.bipush 18, 2) := by decide +kernel
theorem dX0_character_63 : decode cX0_character 63 = .ok (.ishr, 1) := by decide +kernel
theorem dX0_character_64 : decode cX0_character 64 = .ok (.ior, 1) := by decide +kernel
theorem dX0_character_65 : decode cX0_character 65 = .ok (.invokevirtual 40, 3) := by decide +kernel
theorem dX0_character_68 : decode cX0_character 68 = .ok (.aload_n 0, 1) := by decide +kernel
theorem dX0_character_69 : decode cX0_character 69 = .ok (.sipush 128, 3) := by decide +kernel
theorem dX0_character_72 : decode cX0_character 72 = .ok (.iload_n 1, 1) := by decide +kernel
theorem dX0_character_73 : decode cX0_character 73 = .ok (.bipush 12, 2) := by decide +kernel
theorem dX0_character_75 : decode cX0_character 75 = .ok (.ishr, 1) := by decide +kernel
theorem dX0_character_76 : decode cX0_character 76 = .ok (.bipush 63, 2) := by decide +kernel
theorem dX0_character_78 : decode cX0_character 78 = .ok (.iand, 1) := by decide +kernel
theorem dX0_character_79 : decode cX0_character 79 = .ok (.ior, 1) := by decide +kernel
theorem dX0_character_80 : decode cX0_character 80 = .ok (.invokevirtual 40, 3) := by decide +kernel
theorem dX0_character_83 : decode cX0_character 83 = .ok (.aload_n 0, 1) := by decide +kernel
theorem dX0_character_84 : decode cX0_character 84 = .ok (.sipush 128, 3) := by decide +kernel
theorem dX0_character_87 : decode cX0_character 87 = .ok (.iload_n 1, 1) := by decide +kernel
theorem dX0_character_88 : decode cX0_character 88 = .ok (.bipush 6, 2) := by decide +kernel
theorem dX0_character_90 : decode cX0_character 90 = .ok (.ishr, 1) := by decide +kernel
theorem dX0_character_91 : decode cX0_character 91 = .ok (.bipush 63, 2) := by decide +kernel
theorem dX0_character_93 : decode cX0_character 93 = .ok (.iand, 1) := by decide +kernel
theorem dX0_character_94 : decode cX0_character 94 = .ok (.ior, 1) := by decide +kernel
theorem dX0_character_95 : decode cX0_character 95 = .ok (.invokevirtual 40, 3) := by decide +kernel
theorem dX0_character_98 : decode cX0_character 98 = .ok (.aload_n 0, 1) := by decide +kernel
theorem dX0_character_99 : decode cX0_character 99 = .ok (.sipush 128, 3) := by decide +kernel
theorem dX0_character_102 : decode cX0_character 102 = .ok (.iload_n 1, 1) := by decide +kernel
theorem dX0_character_103 : decode cX0_character 103 = .ok (.bipush 63, 2) := by decide +kernel
theorem dX0_character_105 : decode cX0_character 105 = .ok (.iand, 1) := by decide +kernel
theorem dX0_character_106 : decode cX0_character 106 = .ok (.ior, 1) := by decide +kernel
theorem dX0_character_107 : decode cX0_character 107 = .ok (.invokevirtual 40, 3) := by decide +kernel
theorem dX0_character_110 : decode cX0_character 110 = .ok (.return_, 1) := by decide +kernel
end
section
theorem dX0_quoted_0 : decode cX0_quoted 0 = .ok (.aload_n 0, 1) := by decide +kernel
theorem dX0_quoted_1 : decode cX0_quoted 1 = .ok (.bipush 34, 2) := by decide +kernel
theorem dX0_quoted_3 : decode cX0_quoted 3 = .ok (.invokevirtual 40, 3) := by decide +kernel
theorem dX0_quoted_6 : decode cX0_quoted 6 = .ok (.iload_n 2, 1) := by decide +kernel
theorem dX0_quoted_7 : decode cX0_quoted 7 = .ok (.iload_n 3, 1) := by decide +kernel
theorem dX0_quoted_8 : decode cX0_quoted 8 = .ok (.iadd, 1) := by decide +kernel
theorem dX0_quoted_9 : decode cX0_quoted 9 = .ok (.aload_n 1, 1) := by decide +kernel
theorem dX0_quoted_10 : decode cX0_quoted 10 = .ok (.arraylength, 1) := by decide +kernel
theorem dX0_quoted_11 : decode cX0_quoted 11 = .ok (.invokestatic 50, 3) := by decide +kernel
theorem dX0_quoted_14 : decode cX0_quoted 14 = .ok (.istore 4, 2) := by decide +kernel
theorem dX0_quoted_16 : decode cX0_quoted 16 = .ok (.iload_n 2, 1) := by decide +kernel
theorem dX0_quoted_17 : decode cX0_quoted 17 = .ok (.iconst 0, 1) := by decide +kernel
theorem dX0_quoted_18 : decode cX0_quoted 18 = .ok (.invokestatic 7, 3) := by decide +kernel
theorem dX0_quoted_21 : decode cX0_quoted 21 = .ok (.istore 5, 2) := by decide +kernel
theorem dX0_quoted_23 : decode cX0_quoted 23 = .ok (.iload 5, 2) := by decide +kernel
theorem dX0_quoted_25 : decode cX0_quoted 25 = .ok (.iload 4, 2) := by decide +kernel
theorem dX0_quoted_27 : decode cX0_quoted 27 = .ok (.if_icmp .ge 187, 3) := by decide +kernel
theorem dX0_quoted_30 : decode cX0_quoted 30 = .ok (.aload_n 1, 1) := by decide +kernel
theorem dX0_quoted_31 : decode cX0_quoted 31 = .ok (.iload 5, 2) := by decide +kernel
theorem dX0_quoted_33 : decode cX0_quoted 33 = .ok (.iaload, 1) := by decide +kernel
theorem dX0_quoted_34 : decode cX0_quoted 34 = .ok (.istore 6, 2) := by decide +kernel
theorem dX0_quoted_36 : decode cX0_quoted 36 = .ok (.iload 6, 2) := by decide +kernel
theorem dX0_quoted_38 : decode cX0_quoted 38 = .ok (.invokestatic 53, 3) := by decide +kernel
theorem dX0_quoted_41 : decode cX0_quoted 41 = .ok (.ifCond .eq 53, 3) := by decide +kernel
theorem dX0_quoted_44 : decode cX0_quoted 44 = .ok (.iload 5, 2) := by decide +kernel
theorem dX0_quoted_46 : decode cX0_quoted 46 = .ok (.iconst 1, 1) := by decide +kernel
theorem dX0_quoted_47 : decode cX0_quoted 47 = .ok (.iadd, 1) := by decide +kernel
theorem dX0_quoted_48 : decode cX0_quoted 48 = .ok (.iload 4, 2) := by decide +kernel
theorem dX0_quoted_50 : decode cX0_quoted 50 = .ok (.if_icmp .ge 44, 3) := by decide +kernel
theorem dX0_quoted_53 : decode cX0_quoted 53 = .ok (.aload_n 1, 1) := by decide +kernel
theorem dX0_quoted_54 : decode cX0_quoted 54 = .ok (.iload 5, 2) := by decide +kernel
theorem dX0_quoted_56 : decode cX0_quoted 56 = .ok (.iconst 1, 1) := by decide +kernel
theorem dX0_quoted_57 : decode cX0_quoted 57 = .ok (.iadd, 1) := by decide +kernel
theorem dX0_quoted_58 : decode cX0_quoted 58 = .ok (.iaload, 1) := by decide +kernel
theorem dX0_quoted_59 : decode cX0_quoted 59 = .ok (.invokestatic 57, 3) := by decide +kernel
theorem dX0_quoted_62 : decode cX0_quoted 62 = .ok (.ifCond .eq 32, 3) := by decide +kernel
theorem dX0_quoted_65 : decode cX0_quoted 65 = .ok (.iinc 5 1, 3) := by decide +kernel
theorem dX0_quoted_68 : decode cX0_quoted 68 = .ok (.aload_n 0, 1) := by decide +kernel
theorem dX0_quoted_69 : decode cX0_quoted 69 = .ok (.ldc 60, 2) := by decide +kernel
theorem dX0_quoted_71 : decode cX0_quoted 71 = .ok (.iload 6, 2) := by decide +kernel
theorem dX0_quoted_73 : decode cX0_quoted 73 = .ok (.ldc 61, 2) := by decide +kernel
theorem dX0_quoted_75 : decode cX0_quoted 75 = .ok (.isub, 1) := by decide +kernel
theorem dX0_quoted_76 : decode cX0_quoted 76 = .ok (.bipush 10, 2) := by decide +kernel
theorem dX0_quoted_78 : decode cX0_quoted 78 = .ok (.ishl, 1) := by decide +kernel
theorem dX0_quoted_79 : decode cX0_quoted 79 = .ok (.iadd, 1) := by decide +kernel
theorem dX0_quoted_80 : decode cX0_quoted 80 = .ok (.aload_n 1, 1) := by decide +kernel
theorem dX0_quoted_81 : decode cX0_quoted 81 = .ok (.iload 5, 2) := by decide +kernel
theorem dX0_quoted_83 : decode cX0_quoted 83 = .ok (.iaload, 1) := by decide +kernel
theorem dX0_quoted_84 : decode cX0_quoted 84 = .ok (.iadd, 1) := by decide +kernel
theorem dX0_quoted_85 : decode cX0_quoted 85 = .ok (.ldc 62, 2) := by decide +kernel
theorem dX0_quoted_87 : decode cX0_quoted 87 = .ok (.isub, 1) := by decide +kernel
theorem dX0_quoted_88 : decode cX0_quoted 88 = .ok (.invokevirtual 63, 3) := by decide +kernel
theorem dX0_quoted_91 : decode cX0_quoted 91 = .ok (.goto 117, 3) := by decide +kernel
theorem dX0_quoted_94 : decode cX0_quoted 94 = .ok (.iload 6, 2) := by decide +kernel
theorem dX0_quoted_96 : decode cX0_quoted 96 = .ok (.invokestatic 53, 3) := by decide +kernel
theorem dX0_quoted_99 : decode cX0_quoted 99 = .ok (.ifCond .ne 11, 3) := by decide +kernel
theorem dX0_quoted_102 : decode cX0_quoted 102 = .ok (.iload 6, 2) := by decide +kernel
theorem dX0_quoted_104 : decode cX0_quoted 104 = .ok (.invokestatic 57, 3) := by decide +kernel
theorem dX0_quoted_107 : decode cX0_quoted 107 = .ok (.ifCond .eq 12, 3) := by decide +kernel
theorem dX0_quoted_110 : decode cX0_quoted 110 = .ok (.aload_n 0, 1) := by decide +kernel
theorem dX0_quoted_111 : decode cX0_quoted 111 = .ok (.ldc 66, 2) := by decide +kernel
theorem dX0_quoted_113 : decode cX0_quoted 113 = .ok (.invokevirtual 63, 3) := by decide +kernel
theorem dX0_quoted_116 : decode cX0_quoted 116 = .ok (.goto 92, 3) := by decide +kernel
theorem dX0_quoted_119 : decode cX0_quoted 119 = .ok (.iload 6, 2) := by decide +kernel
theorem dX0_quoted_121 : decode cX0_quoted 121 = .ok (.bipush 32, 2) := by decide +kernel
theorem dX0_quoted_123 : decode cX0_quoted 123 = .ok (.if_icmp .ge 59, 3) := by decide +kernel
theorem dX0_quoted_126 : decode cX0_quoted 126 = .ok (.aload_n 0, 1) := by decide +kernel
theorem dX0_quoted_127 : decode cX0_quoted 127 = .ok (.ldc 67, 2) := by decide +kernel
theorem dX0_quoted_129 : decode cX0_quoted 129 = .ok (.invokevirtual 69, 3) := by decide +kernel
theorem dX0_quoted_132 : decode cX0_quoted 132 = .ok (.aload_n 0, 1) := by decide +kernel
theorem dX0_quoted_133 : decode cX0_quoted 133 = .ok (.bipush 48, 2) := by decide +kernel
theorem dX0_quoted_135 : decode cX0_quoted 135 = .ok (.iload 6, 2) := by decide +kernel
theorem dX0_quoted_137 : decode cX0_quoted 137 = .ok (.iconst 4, 1) := by decide +kernel
theorem dX0_quoted_138 : decode cX0_quoted 138 = .ok (.ishr, 1) := by decide +kernel
theorem dX0_quoted_139 : decode cX0_quoted 139 = .ok (.iadd, 1) := by decide +kernel
theorem dX0_quoted_140 : decode cX0_quoted 140 = .ok (.invokevirtual 40, 3) := by decide +kernel
theorem dX0_quoted_143 : decode cX0_quoted 143 = .ok (.aload_n 0, 1) := by decide +kernel
theorem dX0_quoted_144 : decode cX0_quoted 144 = .ok (.iload 6, 2) := by decide +kernel
theorem dX0_quoted_146 : decode cX0_quoted 146 = .ok (.bipush 15, 2) := by decide +kernel
theorem dX0_quoted_148 : decode cX0_quoted 148 = .ok (.iand, 1) := by decide +kernel
theorem dX0_quoted_149 : decode cX0_quoted 149 = .ok (.bipush 10, 2) := by decide +kernel
theorem dX0_quoted_151 : decode cX0_quoted 151 = .ok (.if_icmp .ge 14, 3) := by decide +kernel
theorem dX0_quoted_154 : decode cX0_quoted 154 = .ok (.bipush 48, 2) := by decide +kernel
theorem dX0_quoted_156 : decode cX0_quoted 156 = .ok (.iload 6, 2) := by decide +kernel
theorem dX0_quoted_158 : decode cX0_quoted 158 = .ok (.bipush 15, 2) := by decide +kernel
theorem dX0_quoted_160 : decode cX0_quoted 160 = .ok (.iand, 1) := by decide +kernel
theorem dX0_quoted_161 : decode cX0_quoted 161 = .ok (.iadd, 1) := by decide +kernel
theorem dX0_quoted_162 : decode cX0_quoted 162 = .ok (.goto 14, 3) := by decide +kernel
theorem dX0_quoted_165 : decode cX0_quoted 165 = .ok (.bipush 97, 2) := by decide +kernel
theorem dX0_quoted_167 : decode cX0_quoted 167 = .ok (.iload 6, 2) := by decide +kernel
theorem dX0_quoted_169 : decode cX0_quoted 169 = .ok (.bipush 15, 2) := by decide +kernel
theorem dX0_quoted_171 : decode cX0_quoted 171 = .ok (.iand, 1) := by decide +kernel
theorem dX0_quoted_172 : decode cX0_quoted 172 = .ok (.iadd, 1) := by decide +kernel
theorem dX0_quoted_173 : decode cX0_quoted 173 = .ok (.bipush 10, 2) := by decide +kernel
theorem dX0_quoted_175 : decode cX0_quoted 175 = .ok (.isub, 1) := by decide +kernel
theorem dX0_quoted_176 : decode cX0_quoted 176 = .ok (.invokevirtual 40, 3) := by decide +kernel
theorem dX0_quoted_179 : decode cX0_quoted 179 = .ok (.goto 29, 3) := by decide +kernel
theorem dX0_quoted_182 : decode cX0_quoted 182 = .ok (.iload 6, 2) := by decide +kernel
theorem dX0_quoted_184 : decode cX0_quoted 184 = .ok (.bipush 34, 2) := by decide +kernel
theorem dX0_quoted_186 : decode cX0_quoted 186 = .ok (.if_icmp .eq 10, 3) := by decide +kernel
theorem dX0_quoted_189 : decode cX0_quoted 189 = .ok (.iload 6, 2) := by decide +kernel
theorem dX0_quoted_191 : decode cX0_quoted 191 = .ok (.bipush 92, 2) := by decide +kernel
theorem dX0_quoted_193 : decode cX0_quoted 193 = .ok (.if_icmp .ne 9, 3) := by decide +kernel
theorem dX0_quoted_196 : decode cX0_quoted 196 = .ok (.aload_n 0, 1) := by decide +kernel
theorem dX0_quoted_197 : decode cX0_quoted 197 = .ok (.bipush 92, 2) := by decide +kernel
theorem dX0_quoted_199 : decode cX0_quoted 199 = .ok (.invokevirtual 40, 3) := by decide +kernel
theorem dX0_quoted_202 : decode cX0_quoted 202 = .ok (.aload_n 0, 1) := by decide +kernel
theorem dX0_quoted_203 : decode cX0_quoted 203 = .ok (.iload 6, 2) := by decide +kernel
theorem dX0_quoted_205 : decode cX0_quoted 205 = .ok (.invokevirtual 63, 3) := by decide +kernel
theorem dX0_quoted_208 : decode cX0_quoted 208 = .ok (.iinc 5 1, 3) := by decide +kernel
theorem dX0_quoted_211 : decode cX0_quoted 211 = .ok (.goto (-188), 3) := by decide +kernel
theorem dX0_quoted_214 : decode cX0_quoted 214 = .ok (.aload_n 0, 1) := by decide +kernel
theorem dX0_quoted_215 : decode cX0_quoted 215 = .ok (.bipush 34, 2) := by decide +kernel
theorem dX0_quoted_217 : decode cX0_quoted 217 = .ok (.invokevirtual 40, 3) := by decide +kernel
theorem dX0_quoted_220 : decode cX0_quoted 220 = .ok (.return_, 1) := by decide +kernel
end
section
theorem jb_lne {y : Int64} (h : y.toInt ≠ 0) : ¬ y = 0 := fun q => h (by rw [q]; decide)
theorem jb_ldiv {x y : Int64} {a b : Int} (hx : x.toInt = a) (hy : y.toInt = b) (h : 0 ≤ a) (hb : 0 < b) : (x / y).toInt = a / b := by
  have hr := Int64.toInt_le x
  have h2 : Int64.maxValue.toInt = 9223372036854775807 := by decide
  rw [Int64.toInt_div, hx, hy, Int.tdiv_eq_ediv_of_nonneg h]
  have h1 : a / b ≤ a := Int.ediv_le_self b h
  have h0 : 0 ≤ a / b := Int.ediv_nonneg h (by omega)
  rw [Int.bmod_eq_of_le] <;> omega
end
section
theorem dX0_append_0 : decode cX0_append 0 = .ok (.iconst 0, 1) := by decide +kernel
theorem dX0_append_1 : decode cX0_append 1 = .ok (.istore_n 2, 1) := by decide +kernel
theorem dX0_append_2 : decode cX0_append 2 = .ok (.iload_n 2, 1) := by decide +kernel
theorem dX0_append_3 : decode cX0_append 3 = .ok (.aload_n 1, 1) := by decide +kernel
theorem dX0_append_4 : decode cX0_append 4 = .ok (.getfield 19, 3) := by decide +kernel
theorem dX0_append_7 : decode cX0_append 7 = .ok (.if_icmp .ge 28, 3) := by decide +kernel
theorem dX0_append_10 : decode cX0_append 10 = .ok (.iload_n 2, 1) := by decide +kernel
theorem dX0_append_11 : decode cX0_append 11 = .ok (.aload_n 1, 1) := by decide +kernel
theorem dX0_append_12 : decode cX0_append 12 = .ok (.getfield 13, 3) := by decide +kernel
theorem dX0_append_15 : decode cX0_append 15 = .ok (.arraylength, 1) := by decide +kernel
theorem dX0_append_16 : decode cX0_append 16 = .ok (.if_icmp .ge 19, 3) := by decide +kernel
theorem dX0_append_19 : decode cX0_append 19 = .ok (.aload_n 0, 1) := by decide +kernel
theorem dX0_append_20 : decode cX0_append 20 = .ok (.aload_n 1, 1) := by decide +kernel
theorem dX0_append_21 : decode cX0_append 21 = .ok (.getfield 13, 3) := by decide +kernel
theorem dX0_append_24 : decode cX0_append 24 = .ok (.iload_n 2, 1) := by decide +kernel
theorem dX0_append_25 : decode cX0_append 25 = .ok (.baload, 1) := by decide +kernel
theorem dX0_append_26 : decode cX0_append 26 = .ok (.invokevirtual 40, 3) := by decide +kernel
theorem dX0_append_29 : decode cX0_append 29 = .ok (.iinc 2 1, 3) := by decide +kernel
theorem dX0_append_32 : decode cX0_append 32 = .ok (.goto (-30), 3) := by decide +kernel
theorem dX0_append_35 : decode cX0_append 35 = .ok (.return_, 1) := by decide +kernel
end
section
theorem dX0_number_0 : decode cX0_number 0 = .ok (.iload_n 1, 1) := by decide +kernel
theorem dX0_number_1 : decode cX0_number 1 = .ok (.i2l, 1) := by decide +kernel
theorem dX0_number_2 : decode cX0_number 2 = .ok (.lstore_n 2, 1) := by decide +kernel
theorem dX0_number_3 : decode cX0_number 3 = .ok (.lload_n 2, 1) := by decide +kernel
theorem dX0_number_4 : decode cX0_number 4 = .ok (.lconst 0, 1) := by decide +kernel
theorem dX0_number_5 : decode cX0_number 5 = .ok (.lcmp, 1) := by decide +kernel
theorem dX0_number_6 : decode cX0_number 6 = .ok (.ifCond .ge 12, 3) := by decide +kernel
theorem dX0_number_9 : decode cX0_number 9 = .ok (.aload_n 0, 1) := by decide +kernel
theorem dX0_number_10 : decode cX0_number 10 = .ok (.bipush 45, 2) := by decide +kernel
theorem dX0_number_12 : decode cX0_number 12 = .ok (.invokevirtual 40, 3) := by decide +kernel
theorem dX0_number_15 : decode cX0_number 15 = .ok (.lload_n 2, 1) := by decide +kernel
theorem dX0_number_16 : decode cX0_number 16 = .ok (.lneg, 1) := by decide +kernel
theorem dX0_number_17 : decode cX0_number 17 = .ok (.lstore_n 2, 1) := by decide +kernel
theorem dX0_number_18 : decode cX0_number 18 = .ok (.iconst 0, 1) := by decide +kernel
theorem dX0_number_19 : decode cX0_number 19 = .ok (.istore 4, 2) := by decide +kernel
theorem dX0_number_21 : decode cX0_number 21 = .ok (.ldc2_w 44, 3) := by decide +kernel
theorem dX0_number_24 : decode cX0_number 24 = .ok (.lstore 5, 2) := by decide +kernel
theorem dX0_number_26 : decode cX0_number 26 = .ok (.lload 5, 2) := by decide +kernel
theorem dX0_number_28 : decode cX0_number 28 = .ok (.lconst 0, 1) := by decide +kernel
theorem dX0_number_29 : decode cX0_number 29 = .ok (.lcmp, 1) := by decide +kernel
theorem dX0_number_30 : decode cX0_number 30 = .ok (.ifCond .le 66, 3) := by decide +kernel
theorem dX0_number_33 : decode cX0_number 33 = .ok (.lload_n 2, 1) := by decide +kernel
theorem dX0_number_34 : decode cX0_number 34 = .ok (.lload 5, 2) := by decide +kernel
theorem dX0_number_36 : decode cX0_number 36 = .ok (.ldiv, 1) := by decide +kernel
theorem dX0_number_37 : decode cX0_number 37 = .ok (.ldc2_w 46, 3) := by decide +kernel
theorem dX0_number_40 : decode cX0_number 40 = .ok (.lrem, 1) := by decide +kernel
theorem dX0_number_41 : decode cX0_number 41 = .ok (.lstore 7, 2) := by decide +kernel
theorem dX0_number_43 : decode cX0_number 43 = .ok (.iload 4, 2) := by decide +kernel
theorem dX0_number_45 : decode cX0_number 45 = .ok (.ifCond .ne 17, 3) := by decide +kernel
theorem dX0_number_48 : decode cX0_number 48 = .ok (.lload 7, 2) := by decide +kernel
theorem dX0_number_50 : decode cX0_number 50 = .ok (.lconst 0, 1) := by decide +kernel
theorem dX0_number_51 : decode cX0_number 51 = .ok (.lcmp, 1) := by decide +kernel
theorem dX0_number_52 : decode cX0_number 52 = .ok (.ifCond .gt 10, 3) := by decide +kernel
theorem dX0_number_55 : decode cX0_number 55 = .ok (.lload 5, 2) := by decide +kernel
theorem dX0_number_57 : decode cX0_number 57 = .ok (.lconst 1, 1) := by decide +kernel
theorem dX0_number_58 : decode cX0_number 58 = .ok (.lcmp, 1) := by decide +kernel
theorem dX0_number_59 : decode cX0_number 59 = .ok (.ifCond .ne 7, 3) := by decide +kernel
theorem dX0_number_62 : decode cX0_number 62 = .ok (.iconst 1, 1) := by decide +kernel
theorem dX0_number_63 : decode cX0_number 63 = .ok (.goto 4, 3) := by decide +kernel
theorem dX0_number_66 : decode cX0_number 66 = .ok (.iconst 0, 1) := by decide +kernel
theorem dX0_number_67 : decode cX0_number 67 = .ok (.istore 4, 2) := by decide +kernel
theorem dX0_number_69 : decode cX0_number 69 = .ok (.iload 4, 2) := by decide +kernel
theorem dX0_number_71 : decode cX0_number 71 = .ok (.ifCond .eq 14, 3) := by decide +kernel
theorem dX0_number_74 : decode cX0_number 74 = .ok (.aload_n 0, 1) := by decide +kernel
theorem dX0_number_75 : decode cX0_number 75 = .ok (.ldc2_w 48, 3) := by decide +kernel
theorem dX0_number_78 : decode cX0_number 78 = .ok (.lload 7, 2) := by decide +kernel
theorem dX0_number_80 : decode cX0_number 80 = .ok (.ladd, 1) := by decide +kernel
theorem dX0_number_81 : decode cX0_number 81 = .ok (.l2i, 1) := by decide +kernel
theorem dX0_number_82 : decode cX0_number 82 = .ok (.invokevirtual 40, 3) := by decide +kernel
theorem dX0_number_85 : decode cX0_number 85 = .ok (.lload 5, 2) := by decide +kernel
theorem dX0_number_87 : decode cX0_number 87 = .ok (.ldc2_w 46, 3) := by decide +kernel
theorem dX0_number_90 : decode cX0_number 90 = .ok (.ldiv, 1) := by decide +kernel
theorem dX0_number_91 : decode cX0_number 91 = .ok (.lstore 5, 2) := by decide +kernel
theorem dX0_number_93 : decode cX0_number 93 = .ok (.goto (-67), 3) := by decide +kernel
theorem dX0_number_96 : decode cX0_number 96 = .ok (.return_, 1) := by decide +kernel
end
section
-- contracts over the typed heap: which roots may change
section JL
variable {p : Program} {l : Launch} {e : Env} {R : Room} {s : State} {m : MethodId} {args : Array Value} {below : List Frame} {meth : Method} {c : Code} {H : Heap} {locs : List Loc} {cells slots : Nat} {Q : State → Prop}
variable {cc : ByteArray} {pc : Nat} {ls : Array Slot} {rest : List Value} {D : va_G} {cl : List vw_C} {A : Nat → Prop} {a : Nat} {tys : List (ClassId × FieldType)}
theorem j_last (hexec : p.tables.exec = Jvm.exec) (hb : c.code = cc) (hK : va_K D cl tys s) (t0 : Nat) {cA : ClassId} {n : Nat} {f : Nat → Int64} (hat : va_at D cl (a, .inl (cA, n, .inr (.inl f))) H) (hA : A a) (hL : ∀ q ∈ locs, A q.base) (ht : tys[t0]? = some (cA, .long)) {i : Int32} {x : Int64} (hin : vp_in i n) (hdg : decode cc pc = .ok (.lastore, 1))
    (kk : ∀ (H1 : Heap) (locs1 : List Loc), va_at D cl (a, .inl (cA, n, .inr (.inl (vp_updL f i.toNatClampNeg x)))) H1 → H1.size = H.size → (∀ q, q ≠ a → H1[q]? = H[q]?) → jTot H1 = jTot H → (∀ q ∈ locs1, A q.base) → W p l e R s m args below meth c H1 locs1 cells slots Q (F0 m (pc + 1) ls rest)) : W p l e R s m args below meth c H locs cells slots Q (F0 m pc ls (.long x :: .int i :: .ref a :: rest)) := by
  refine W.last hexec hb hat ((hK.2 t0 _ ht).1 n (fun j => .long (f j))) (fun q => by cases q) (by show ¬ (i < 0 ∨ (arrV _ _ _).slots.size ≤ _); rw [arrV_size]; exact hin) rfl rfl hdg fun H1 e z oq => ?_
  refine kk H1 _ ?_ z oq (jTot_set z hat e (jSet_sz _ _ _) oq) ?_
  · show H1[a]? = some (vp_cell _ _)
    rw [e]
    rw [vp_cell_l, vp_cell_l, arrV_store]
    congr 2
    funext q
    by_cases hq : q = i.toNatClampNeg
    · subst hq
      simp [updV, vp_updL]
    · simp [updV, vp_updL, hq]
  · intro q hq
    rcases List.mem_append.mp hq with h | h
    · exact hL q h
    · cases List.mem_singleton.mp h; exact hA
end JL
end
section
theorem jWr_4 : ∀ w ∈ wsL_law_r4, w ∈ jWl := fun w h => jT4 w (List.mem_append_left _ h)
theorem jWr_7 : ∀ w ∈ wsL_law_r7, w ∈ jWl := fun w h => jT7 w (List.mem_append_left _ h)
theorem jWr_8 : ∀ w ∈ wsL_law_r8, w ∈ jWl := fun w h => jT8 w (List.mem_append_left _ h)
theorem jWr_19 : ∀ w ∈ wsL_law_r19, w ∈ jWl := fun w h => jT19 w (List.mem_append_left _ h)
theorem jWr_20 : ∀ w ∈ wsL_law_r20, w ∈ jWl := fun w h => jT20 w (List.mem_append_left _ h)
theorem jWr_21 : ∀ w ∈ wsL_law_r21, w ∈ jWl := fun w h => jT21 w (List.mem_append_left _ h)
theorem jWr_22 : ∀ w ∈ wsL_law_r22, w ∈ jWl := fun w h => jT22 w (List.mem_append_left _ h)
theorem jWr_24 : ∀ w ∈ wsL_law_r24, w ∈ jWl := fun w h => jT24 w (List.mem_append_left _ h)
theorem jWr_25 : ∀ w ∈ wsL_law_r25, w ∈ jWl := fun w h => jT25 w (List.mem_append_left _ h)
theorem jWr_26 : ∀ w ∈ wsL_law_r26, w ∈ jWl := fun w h => jT26 w (List.mem_append_left _ h)
theorem jWr_29 : ∀ w ∈ wsL_law_r29, w ∈ jWl := fun w h => jT29 w (List.mem_append_left _ h)
theorem jWr_30 : ∀ w ∈ wsL_law_r30, w ∈ jWl := fun w h => jT30 w (List.mem_append_left _ h)
theorem jWr_31 : ∀ w ∈ wsL_law_r31, w ∈ jWl := fun w h => jT31 w (List.mem_append_left _ h)
theorem jWr_32 : ∀ w ∈ wsL_law_r32, w ∈ jWl := fun w h => jT32 w (List.mem_append_left _ h)
theorem jWr_33 : ∀ w ∈ wsL_law_r33, w ∈ jWl := fun w h => jT33 w (List.mem_append_left _ h)
theorem jWr_36 : ∀ w ∈ wsL_law_r36, w ∈ jWl := fun w h => jT36 w (List.mem_append_left _ h)
theorem jWr_39 : ∀ w ∈ wsL_law_r39, w ∈ jWl := fun w h => jT39 w (List.mem_append_left _ h)
theorem jWr_40 : ∀ w ∈ wsL_law_r40, w ∈ jWl := fun w h => jT40 w (List.mem_append_left _ h)
theorem jWr_42 : ∀ w ∈ wsL_law_r42, w ∈ jWl := fun w h => jT42 w (List.mem_append_left _ h)
theorem jWr_43 : ∀ w ∈ wsL_law_r43, w ∈ jWl := fun w h => jT43 w (List.mem_append_left _ h)
theorem jWr_76 : ∀ w ∈ wsL_law_r76, w ∈ jWl := fun w h => jT76 w (List.mem_append_left _ h)
theorem jWr_77 : ∀ w ∈ wsL_law_r77, w ∈ jWl := fun w h => jT77 w (List.mem_append_left _ h)
theorem jWr_78 : ∀ w ∈ wsL_law_r78, w ∈ jWl := fun w h => jT78 w (List.mem_append_left _ h)
theorem jWr_79 : ∀ w ∈ wsL_law_r79, w ∈ jWl := fun w h => jT79 w (List.mem_append_left _ h)
theorem jWr_80 : ∀ w ∈ wsL_law_r80, w ∈ jWl := fun w h => jT80 w (List.mem_append_left _ h)
theorem jWr_81 : ∀ w ∈ wsL_law_r81, w ∈ jWl := fun w h => jT81 w (List.mem_append_left _ h)
theorem jWr_82 : ∀ w ∈ wsL_law_r82, w ∈ jWl := fun w h => jT82 w (List.mem_append_left _ h)
theorem jWr_83 : ∀ w ∈ wsL_law_r83, w ∈ jWl := fun w h => jT83 w (List.mem_append_left _ h)
theorem jWr_84 : ∀ w ∈ wsL_law_r84, w ∈ jWl := fun w h => jT84 w (List.mem_append_left _ h)
theorem jWr_85 : ∀ w ∈ wsL_law_r85, w ∈ jWl := fun w h => jT85 w (List.mem_append_left _ h)
theorem jWr_86 : ∀ w ∈ wsL_law_r86, w ∈ jWl := fun w h => jT86 w (List.mem_append_left _ h)
theorem jWr_87 : ∀ w ∈ wsL_law_r87, w ∈ jWl := fun w h => jT87 w (List.mem_append_left _ h)
theorem jWr_88 : ∀ w ∈ wsL_law_r88, w ∈ jWl := fun w h => jT88 w (List.mem_append_left _ h)
end
section
-- the refined heap: every field of a typed object holds a value of its own predicate, every element of a typed array too; what is known of a field just now is a pin (address, kind, field, value)
section J7
variable {p : Program} {l : Launch} {e : Env} {R : Room} {s : State} {m : MethodId} {args : Array Value} {below : List Frame} {meth : Method} {c : Code} {H : Heap} {locs : List Loc} {cells slots : Nat} {Q : State → Prop}
variable {cc : ByteArray} {pc : Nat} {ls : Array Slot} {rest : List Value} {dC : Nat → ClassId} {dI : Nat → Nat → Nat} {ca : Nat → ClassId} {B : jF} {base : Nat} {G0 G : jT} {E : List (Nat × Nat)} {H0 : Heap} {zc zs : Nat} {L : List jPin} {M : List jCt} {I : List jIv} {a k n i index N : Nat} {tys : List (ClassId × FieldType)} {own C : String} {T : u_T}
end J7
section J8
variable {p : Program} {l : Launch} {e : Env} {R : Room} {s : State} {m : MethodId} {args : Array Value} {below : List Frame} {meth : Method} {c : Code} {H : Heap} {locs : List Loc} {cells slots : Nat} {Q : State → Prop}
variable {cc : ByteArray} {pc : Nat} {ls : Array Slot} {rest : List Value} {dC : Nat → ClassId} {dI : Nat → Nat → Nat} {ca : Nat → ClassId} {B : jF} {base : Nat} {G0 G : jT} {E : List (Nat × Nat)} {H0 : Heap} {zc zs : Nat} {L : List jPin} {M : List jCt} {I : List jIv} {a k n : Nat} {P : Nat → Int32 → Prop} {cA : ClassId} {tys : List (ClassId × FieldType)}
theorem j7_bald (hexec : p.tables.exec = Jvm.exec) (hb : c.code = cc) (hK : va_K (dC, dI) vwCl tys s) (hh : jSt (dC, dI) B base G0 G E H0 zc zs L M I H locs) (hBk : ∀ n G a H, B k n G a H ↔ jAr (dC, dI) cA P n a H) (t0 : Nat) (ht : tys[t0]? = some (cA, .byte)) (hk : k < 1000) (ha : G a = some (k, n)) {i : Int32} {x : Int} (hi : i.toInt = x) (h12 : 0 ≤ x ∧ x < n) (hdg : decode cc pc = .ok (.baload, 1))
    (kk : ∀ z : Int32, P x.toNat z → W p l e R s m args below meth c H locs cells slots Q (F0 m (pc + 1) ls (.int z :: rest))) : W p l e R s m args below meth c H locs cells slots Q (F0 m pc ls (.int i :: .ref a :: rest)) := by
  obtain ⟨h1, h2⟩ := h12
  obtain ⟨f, g1, g2⟩ := hh.ar hBk hk ha
  exact va_bald hexec hb hK (jp_one g1) 0 t0 rfl ht (jb_in hi h1 h2) hdg (kk _ (by rw [← jb_cl hi h1]; exact g2 _ (jb_cl_lt hi h1 h2)))
theorem j7_lald (hexec : p.tables.exec = Jvm.exec) (hb : c.code = cc) (hK : va_K (dC, dI) vwCl tys s) (hh : jSt (dC, dI) B base G0 G E H0 zc zs L M I H locs) (hBk : ∀ n G a H, B k n G a H ↔ jAl (dC, dI) cA n a H) (t0 : Nat) (ht : tys[t0]? = some (cA, .long)) (hk : k < 1000) (ha : G a = some (k, n)) {i : Int32} {x : Int} (hi : i.toInt = x) (h12 : 0 ≤ x ∧ x < n) (hdg : decode cc pc = .ok (.laload, 1))
    (kk : ∀ z : Int64, W p l e R s m args below meth c H locs cells slots Q (F0 m (pc + 1) ls (.long z :: rest))) : W p l e R s m args below meth c H locs cells slots Q (F0 m pc ls (.int i :: .ref a :: rest)) := by
  obtain ⟨h1, h2⟩ := h12
  obtain ⟨f, g1⟩ := hh.al hBk hk ha
  exact va_lald hexec hb hK (jp_one g1) 0 t0 rfl ht (jb_in hi h1 h2) hdg (kk _)
end J8
end
section
-- arrays of references
section J10
variable {p : Program} {l : Launch} {e : Env} {R : Room} {s : State} {m : MethodId} {args : Array Value} {below : List Frame} {meth : Method} {c : Code} {H : Heap} {locs : List Loc} {cells slots : Nat} {Q : State → Prop}
variable {cc : ByteArray} {pc : Nat} {ls : Array Slot} {rest : List Value} {dC : Nat → ClassId} {dI : Nat → Nat → Nat} {ca : Nat → ClassId} {B : jF} {base : Nat} {G0 G : jT} {E : List (Nat × Nat)} {H0 : Heap} {zc zs : Nat} {L : List jPin} {M : List jCt} {I : List jIv} {a k n : Nat} {P : jT → Option Nat → Prop} {cA : ClassId} {tys : List (ClassId × FieldType)} {C : String}
theorem j7_qlen (hexec : p.tables.exec = Jvm.exec) (hb : c.code = cc) (hK : va_K (dC, dI) vwCl tys s) (hh : jSt (dC, dI) B base G0 G E H0 zc zs L M I H locs) (hBk : ∀ n G a H, B k n G a H ↔ jAq (dC, dI) cA P n G a H) (t0 : Nat) {ty : FieldType} (ht : tys[t0]? = some (cA, ty)) (hk : k < 1000) (ha : G a = some (k, n)) (hn : n < 2147483648) (hdg : decode cc pc = .ok (.arraylength, 1))
    (kk : ∀ z : Int32, z.toInt = n → W p l e R s m args below meth c H locs cells slots Q (F0 m (pc + 1) ls (.int z :: rest))) : W p l e R s m args below meth c H locs cells slots Q (F0 m pc ls (.ref a :: rest)) := by
  obtain ⟨f, h1, -⟩ := hh.aq hBk hk ha
  exact va_alen (v := Int32.ofNat n) hexec hb hK (jp_one h1) 0 t0 rfl ht rfl hdg (kk _ (jb_nat hn))
theorem j7_qald (hexec : p.tables.exec = Jvm.exec) (hb : c.code = cc) (hK : va_K (dC, dI) vwCl tys s) (hh : jSt (dC, dI) B base G0 G E H0 zc zs L M I H locs) (hBk : ∀ n G a H, B k n G a H ↔ jAq (dC, dI) cA P n G a H) (t0 : Nat) (ht : tys[t0]? = some (cA, .object C)) (hk : k < 1000) (ha : G a = some (k, n)) {i : Int32} {x : Int} (hi : i.toInt = x) (h12 : 0 ≤ x ∧ x < n) (hdg : decode cc pc = .ok (.aaload, 1))
    (kk : ∀ o : Option Nat, P G o → W p l e R s m args below meth c H locs cells slots Q (F0 m (pc + 1) ls (va_rf o :: rest))) : W p l e R s m args below meth c H locs cells slots Q (F0 m pc ls (.int i :: .ref a :: rest)) := by
  obtain ⟨h1, h2⟩ := h12
  obtain ⟨f, g1, g2⟩ := hh.aq hBk hk ha
  exact va_aldq hexec hb hK (jp_one g1) 0 t0 rfl ht (jb_in hi h1 h2) hdg (kk _ (g2 _ (jb_cl_lt hi h1 h2)))
end J10
end
section
set_option maxHeartbeats 4000000 in
set_option maxRecDepth 20000 in
theorem wJ1_canEncode_9a6ad (l : Launch) (dC : Nat → ClassId) (dI : Nat → Nat → Nat) (ca : Nat → ClassId) (base : Nat) (H0 : Heap) (a0 : Int32) : Met l yJ1_canEncode_9a6ad (jw yJ1_canEncode_9a6ad cJ1_canEncode_9a6ad 1 (some .boolean)) ({ frames := 0, cells := 0, slots := 0, locals := 0 }) (va_Pc [.int a0] (fun U => U.heap = H0 ∧ jG dC dI ca base U ∧ (True))) (vp_Si (fun r => r = 0 ∨ r = 1)) 0 0 (fun _ => False) := by
  refine Met.ofW (cc := cJ1_canEncode_9a6ad) (maxL := 1) (ret := (some .boolean)) (by decide) rfl ?_
  intro p e s m args below meth c s₁ B hml hv
  obtain ⟨rfl, hH0, hG, hpre⟩ := hv
  have hK := hG.1
  have hx := B.exec
  have hb := B.bytes
  have hr := B.returns
  have hts := atoms_spec (ws := (jw yJ1_canEncode_9a6ad cJ1_canEncode_9a6ad 1 (some .boolean))) B.pre
  have htw : ∀ w ∈ jWl, w.before _ s = true := fun w h => hts w (List.mem_cons_of_mem _ h)
  have hown : s.vm.findClass RJ1 = some m.cls := findClass_of_methodNamed B.named
  have hlocks := B.notSynchronized
  obtain ⟨Q, hQ⟩ : ∃ Q, Q = MQ below (vp_Si (fun r => r = 0 ∨ r = 1)) ([.int a0] : List Value).toArray s 0 0 (fun _ => False) := ⟨_, rfl⟩
  rw [← hQ]
  have hl := lv_entry ([.int a0]) (n := 1) (Nat.le_of_ble_eq_true rfl)
  rw [lg_entry_eq]
  generalize (lg_sl ([.int a0]) ++ List.replicate (1 - (lg_sl ([.int a0])).length) Slot.unset).toArray = ls at hl ⊢
  have hl : lv_has ls 1 [(0, .int a0)] := hl
  generalize hR : (headSpec (jw yJ1_canEncode_9a6ad cJ1_canEncode_9a6ad 1 (some .boolean)) ({ frames := 0, cells := 0, slots := 0, locals := 0 })).room = R
  subst hH0
  have hS : va_S (jA base) s.heap s.heap [] := va_S.rf
  have hk0 : (0 : Int32).toInt = 0 := by decide
  have hk1 : (1 : Int32).toInt = 1 := by decide
  have hk255 : (255 : Int32).toInt = 255 := by decide
  refine lv_iload_n hx hb dJ1_canEncode_9a6ad_0 rfl (lv_at hl 0 rfl) ?_
  refine lv_if_lt (tgt := 15) hx hb dJ1_canEncode_9a6ad_1 (by decide) (fun c_1 => ?_) (fun c_1 => ?_)
  · skip
    have c_1' : a0.toInt < 0 := jb_lt (rfl) ((by decide)) c_1
    refine lv_iconst (v := 0) hx hb dJ1_canEncode_9a6ad_15 (by decide) ?_
    rw [hQ]
    exact W.zret (v := 0) hx hb hr (jb_nz (Or.inl rfl)) (fun t ht hW => ⟨0, rfl, by first | exact Or.inl rfl | exact Or.inr rfl | assumption, ht⟩) (fun _ h => nomatch h) dJ1_canEncode_9a6ad_16
  · skip
    have c_1' : a0.toInt ≥ 0 := jb_lt_n (rfl) ((by decide)) c_1
    refine lv_iload_n hx hb dJ1_canEncode_9a6ad_4 rfl (lv_at hl 0 rfl) ?_
    refine lv_sipush (v := 255) hx hb dJ1_canEncode_9a6ad_5 (by decide) ?_
    refine lv_icmp_gt (tgt := 15) hx hb dJ1_canEncode_9a6ad_8 (by decide) (fun c_2 => ?_) (fun c_2 => ?_)
    · skip
      have c_2' : a0.toInt > 255 := jb_gt (rfl) ((by decide)) c_2
      refine lv_iconst (v := 0) hx hb dJ1_canEncode_9a6ad_15 (by decide) ?_
      rw [hQ]
      exact W.zret (v := 0) hx hb hr (jb_nz (Or.inl rfl)) (fun t ht hW => ⟨0, rfl, by first | exact Or.inl rfl | exact Or.inr rfl | assumption, ht⟩) (fun _ h => nomatch h) dJ1_canEncode_9a6ad_16
    · skip
      have c_2' : a0.toInt ≤ 255 := jb_gt_n (rfl) ((by decide)) c_2
      refine lv_iconst (v := 1) hx hb dJ1_canEncode_9a6ad_11 (by decide) ?_
      refine lv_goto (tgt := 16) hx hb dJ1_canEncode_9a6ad_12 (by decide) ?_
      rw [hQ]
      exact W.zret (v := 1) hx hb hr (jb_nz (Or.inr rfl)) (fun t ht hW => ⟨1, rfl, by first | exact Or.inl rfl | exact Or.inr rfl | assumption, ht⟩) (fun _ h => nomatch h) dJ1_canEncode_9a6ad_16
set_option maxHeartbeats 4000000 in
set_option maxRecDepth 20000 in
theorem wJ1_indexOfChar_4cfef (l : Launch) (dC : Nat → ClassId) (dI : Nat → Nat → Nat) (ca : Nat → ClassId) (base : Nat) (H0 : Heap) (h0 n : Nat) (f : Nat → Int32) (a1 a2 a3 : Int32) : Met l yJ1_indexOfChar_4cfef (jw yJ1_indexOfChar_4cfef cJ1_indexOfChar_4cfef 6 (some .int)) ({ frames := 0, cells := 0, slots := 0, locals := 0 }) (va_Pc [.ref h0, .int a1, .int a2, .int a3] (fun U => U.heap = H0 ∧ va_T .byte h0 n (fun j => .int (f j)) (jA base) U H0 ∧ jG dC dI ca base U ∧ (n < 2147483648 ∧ 0 ≤ a2.toInt ∧ a3.toInt ≤ n))) (vp_Si (fun r => r.toInt = -1 ∨ (a2.toInt ≤ r.toInt ∧ r.toInt < a3.toInt))) 0 0 (fun _ => False) := by
  refine Met.ofW (cc := cJ1_indexOfChar_4cfef) (maxL := 6) (ret := (some .int)) (by decide) rfl ?_
  intro p e s m args below meth c s₁ B hml hv
  obtain ⟨rfl, hH0, hsa_h0, hG, hp1, hp2, hp3⟩ := hv
  have hK := hG.1
  have hx := B.exec
  have hb := B.bytes
  have hr := B.returns
  have hts := atoms_spec (ws := (jw yJ1_indexOfChar_4cfef cJ1_indexOfChar_4cfef 6 (some .int))) B.pre
  have htw : ∀ w ∈ jWl, w.before _ s = true := fun w h => hts w (List.mem_cons_of_mem _ h)
  have hown : s.vm.findClass RJ1 = some m.cls := findClass_of_methodNamed B.named
  have hlocks := B.notSynchronized
  obtain ⟨Q, hQ⟩ : ∃ Q, Q = MQ below (vp_Si (fun r => r.toInt = -1 ∨ (a2.toInt ≤ r.toInt ∧ r.toInt < a3.toInt))) ([.ref h0, .int a1, .int a2, .int a3] : List Value).toArray s 0 0 (fun _ => False) := ⟨_, rfl⟩
  rw [← hQ]
  have hl := lv_entry ([.ref h0, .int a1, .int a2, .int a3]) (n := 6) (Nat.le_of_ble_eq_true rfl)
  rw [lg_entry_eq]
  generalize (lg_sl ([.ref h0, .int a1, .int a2, .int a3]) ++ List.replicate (6 - (lg_sl ([.ref h0, .int a1, .int a2, .int a3])).length) Slot.unset).toArray = ls at hl ⊢
  have hl : lv_has ls 6 [(0, .ref h0), (1, .int a1), (2, .int a2), (3, .int a3)] := hl
  generalize hR : (headSpec (jw yJ1_indexOfChar_4cfef cJ1_indexOfChar_4cfef 6 (some .int)) ({ frames := 0, cells := 0, slots := 0, locals := 0 })).room = R
  subst hH0
  have hS : va_S (jA base) s.heap s.heap [] := va_S.rf
  have hkm1 : ((-1) : Int32).toInt = (-1) := by decide
  have hk0 : (0 : Int32).toInt = 0 := by decide
  have hk1 : (1 : Int32).toInt = 1 := by decide
  refine lv_iload_n hx hb dJ1_indexOfChar_4cfef_0 rfl (lv_at hl 1 rfl) ?_
  refine lv_i2b hx hb dJ1_indexOfChar_4cfef_1 rfl ?_
  refine lv_topi (fun z_1 ez_1 => ?_)
  refine lv_istore (lv' := [(4, .int z_1), (0, .ref h0), (1, .int a1), (2, .int a2), (3, .int a3)]) hx hb dJ1_indexOfChar_4cfef_2 hl (by decide) rfl (fun ls hl => ?_)
  refine lv_iload_n hx hb dJ1_indexOfChar_4cfef_4 rfl (lv_at hl 3 rfl) ?_
  refine lv_istore (lv' := [(5, .int a2), (4, .int z_1), (0, .ref h0), (1, .int a1), (2, .int a2), (3, .int a3)]) hx hb dJ1_indexOfChar_4cfef_5 hl (by decide) rfl (fun ls hl => ?_)
  have L7 : ∀ (N : Nat) (iv : Int32), (a2.toInt ≤ iv.toInt) → (((a3.toInt - iv.toInt).toNat : Int) : Int) < N → ∀ ls : Array Slot, lv_has ls 6 [(0, .ref h0), (1, .int a1), (2, .int a2), (3, .int a3), (4, .int z_1), (5, .int iv)] → W p l e R s m ([.ref h0, .int a1, .int a2, .int a3] : List Value).toArray below meth c s.heap [] 0 0 Q (F0 m 7 ls []) := by
    intro N
    induction N with
    | zero => intro iv hi hm; exact absurd hm (by omega)
    | succ N ih =>
      have L7 := ih
      intro iv hi hm ls hl
      refine lv_iload hx hb dJ1_indexOfChar_4cfef_7 (lv_at hl 5 rfl) ?_
      refine lv_iload_n hx hb dJ1_indexOfChar_4cfef_9 rfl (lv_at hl 3 rfl) ?_
      refine lv_icmp_ge (tgt := 31) hx hb dJ1_indexOfChar_4cfef_10 (by decide) (fun c_2 => ?_) (fun c_2 => ?_)
      · skip
        have c_2' : iv.toInt ≥ a3.toInt := jb_ge (rfl) (rfl) c_2
        refine lv_iconst (v := (-1)) hx hb dJ1_indexOfChar_4cfef_31 (by decide) ?_
        rw [hQ]
        exact W.iret (v := (-1)) hx hb hr (fun t ht hW => ⟨(-1), rfl, by omega, ht⟩) (fun _ h => nomatch h) dJ1_indexOfChar_4cfef_32
      · skip
        have c_2' : iv.toInt < a3.toInt := jb_ge_n (rfl) (rfl) c_2
        refine lv_aload_n hx hb dJ1_indexOfChar_4cfef_13 rfl (lv_at hl 0 rfl) ?_
        refine lv_iload hx hb dJ1_indexOfChar_4cfef_14 (lv_at hl 5 rfl) ?_
        refine va_tb hx hb hsa_h0 hS (jb_in (rfl) (by omega) (by omega)) rfl dJ1_indexOfChar_4cfef_16 ?_
        refine lv_topi (fun z_3 ez_3 => ?_)
        refine lv_iload hx hb dJ1_indexOfChar_4cfef_17 (lv_at hl 4 rfl) ?_
        refine lv_icmp_ne (tgt := 25) hx hb dJ1_indexOfChar_4cfef_19 (by decide) (fun c_4 => ?_) (fun c_4 => ?_)
        · skip
          have c_4' : z_3.toInt ≠ z_1.toInt := jb_ne (rfl) (rfl) c_4
          obtain ⟨z_5, ez_5⟩ : ∃ y : Int32, y = iv + 1 := ⟨_, rfl⟩
          refine lv_iinc (v := z_5) (lv' := [(5, .int z_5), (0, .ref h0), (1, .int a1), (2, .int a2), (3, .int a3), (4, .int z_1)]) hx hb dJ1_indexOfChar_4cfef_25 hl (k := 5) rfl (by rw [ez_5]; rfl) (by decide) rfl (fun ls hl => ?_)
          have hz_5 : z_5.toInt = iv.toInt + 1 := by rw [ez_5]; exact jb_iadd (rfl) (by decide) (by omega) (by omega)
          refine lv_goto (tgt := 7) hx hb dJ1_indexOfChar_4cfef_28 (by decide) ?_
          exact L7 z_5 (by omega) (by omega) _ (lv_sub hl [1, 2, 3, 4, 5, 0] rfl)
        · skip
          have c_4' : z_3.toInt = z_1.toInt := jb_ne_n (rfl) (rfl) c_4
          refine lv_iload hx hb dJ1_indexOfChar_4cfef_22 (lv_at hl 5 rfl) ?_
          rw [hQ]
          exact W.iret (v := iv) hx hb hr (fun t ht hW => ⟨iv, rfl, by omega, ht⟩) (fun _ h => nomatch h) dJ1_indexOfChar_4cfef_24
  exact L7 (((a3.toInt - (a2 : Int32).toInt).toNat : Int) : Int).toNat.succ a2 (by omega) (by omega) _ (lv_sub hl [2, 3, 4, 5, 1, 0] rfl)
set_option maxHeartbeats 4000000 in
set_option maxRecDepth 20000 in
theorem wJ1_indexOf_4cfef (l : Launch) (dC : Nat → ClassId) (dI : Nat → Nat → Nat) (ca : Nat → ClassId) (base : Nat) (H0 : Heap) (h0 n : Nat) (f : Nat → Int32) (a1 a2 a3 : Int32) : Met l yJ1_indexOf_4cfef (jw yJ1_indexOf_4cfef cJ1_indexOf_4cfef 4 (some .int)) ({ frames := 2, cells := 0, slots := 0, locals := 80 }) (va_Pc [.ref h0, .int a1, .int a2, .int a3] (fun U => U.heap = H0 ∧ va_T .byte h0 n (fun j => .int (f j)) (jA base) U H0 ∧ jG dC dI ca base U ∧ (n < 2147483648))) (vp_Si (fun r => r.toInt = -1 ∨ (0 ≤ r.toInt ∧ a2.toInt ≤ r.toInt ∧ r.toInt < n))) 0 0 (fun _ => False) := by
  refine Met.ofW (cc := cJ1_indexOf_4cfef) (maxL := 4) (ret := (some .int)) (by decide) rfl ?_
  intro p e s m args below meth c s₁ B hml hv
  obtain ⟨rfl, hH0, hsa_h0, hG, hp1⟩ := hv
  have hK := hG.1
  have hx := B.exec
  have hb := B.bytes
  have hr := B.returns
  have hts := atoms_spec (ws := (jw yJ1_indexOf_4cfef cJ1_indexOf_4cfef 4 (some .int))) B.pre
  have htw : ∀ w ∈ jWl, w.before _ s = true := fun w h => hts w (List.mem_cons_of_mem _ h)
  have hown : s.vm.findClass RJ1 = some m.cls := findClass_of_methodNamed B.named
  have hlocks := B.notSynchronized
  obtain ⟨Q, hQ⟩ : ∃ Q, Q = MQ below (vp_Si (fun r => r.toInt = -1 ∨ (0 ≤ r.toInt ∧ a2.toInt ≤ r.toInt ∧ r.toInt < n))) ([.ref h0, .int a1, .int a2, .int a3] : List Value).toArray s 0 0 (fun _ => False) := ⟨_, rfl⟩
  rw [← hQ]
  have hl := lv_entry ([.ref h0, .int a1, .int a2, .int a3]) (n := 4) (Nat.le_of_ble_eq_true rfl)
  rw [lg_entry_eq]
  generalize (lg_sl ([.ref h0, .int a1, .int a2, .int a3]) ++ List.replicate (4 - (lg_sl ([.ref h0, .int a1, .int a2, .int a3])).length) Slot.unset).toArray = ls at hl ⊢
  have hl : lv_has ls 4 [(0, .ref h0), (1, .int a1), (2, .int a2), (3, .int a3)] := hl
  generalize hR : (headSpec (jw yJ1_indexOf_4cfef cJ1_indexOf_4cfef 4 (some .int)) ({ frames := 2, cells := 0, slots := 0, locals := 80 })).room = R
  subst hH0
  have hS : va_S (jA base) s.heap s.heap [] := va_S.rf
  have hkm1 : ((-1) : Int32).toInt = (-1) := by decide
  have hk0 : (0 : Int32).toInt = 0 := by decide
  have hk1 : (1 : Int32).toInt = 1 := by decide
  refine lv_iload_n hx hb dJ1_indexOf_4cfef_0 rfl (lv_at hl 1 rfl) ?_
  refine vp_callSi (W.runS (As := [.int a1]) (rest := []) ⟨hx, hb, hml, hown, hts⟩ (wJ1_canEncode_9a6ad l dC dI ca base s.heap a1) (va_cwS 1 hts (jgS (jWr_38 _ (List.mem_of_getElem? (i := 1) rfl)) (jWr_38 _ (List.mem_of_getElem? (i := 2) rfl)) (jWr_6 _ (List.mem_of_getElem? (i := 10) rfl)) (jWr_38 _ (List.mem_of_getElem? (i := 3) rfl))) rfl rfl rfl (by decide +kernel) ⟨by rw [← hR]; exact Nat.le_of_ble_eq_true rfl, by rw [← hR]; exact Nat.le_of_ble_eq_true rfl⟩) ⟨fun a U g mk q => by obtain ⟨q0, q1, qK, q9⟩ := q; exact ⟨q0, q1, jG.calling g mk a qK, q9⟩, fun U hU hW => ⟨rfl, hU, hG.step hW hU hS, by first | trivial | omega | (constructor <;> omega)⟩⟩ rfl rfl hl.1 rfl (lv_room (Nat.le_of_ble_eq_true rfl)) dJ1_indexOf_4cfef_1 ⟨Nat.zero_le _, Nat.zero_le _⟩) (fun r_1 hr_1 => ?_)
  have hr_1' : r_1.toInt = 0 ∨ r_1.toInt = 1 := jb_01 hr_1
  refine lv_if_ne (tgt := 9) hx hb dJ1_indexOf_4cfef_4 (by decide) (fun c_2 => ?_) (fun c_2 => ?_)
  · skip
    have c_2' : r_1.toInt ≠ 0 := jb_ne (rfl) ((by decide)) c_2
    refine lv_iload_n hx hb dJ1_indexOf_4cfef_9 rfl (lv_at hl 2 rfl) ?_
    refine lv_iconst (v := 0) hx hb dJ1_indexOf_4cfef_10 (by decide) ?_
    refine va_mmax hx hb (by rw [hml]; exact hl.1.symm) hown (htw (.methodLink RJ1 92 Lib.Math.max.name) (jWr_37 _ (List.mem_of_getElem? (i := 23) rfl))) (htw (.static Lib.Math.max.name) (jWr_3 _ (List.mem_of_getElem? (i := 6) rfl))) (htw (.initialized "java/lang/Math") (jWr_3 _ (List.mem_of_getElem? (i := 7) rfl))) (htw (.code Lib.Math.max.name Lib.Math.max.code 2 (some .int)) (jWr_3 _ (List.mem_of_getElem? (i := 8) rfl))) (by rw [← hR]; exact Nat.le_of_ble_eq_true rfl) (by rw [← hR]; exact Nat.le_of_ble_eq_true rfl) (Nat.zero_le _) (Nat.zero_le _) dJ1_indexOf_4cfef_11 ?_
    refine lv_topi (fun z_3 ez_3 => ?_)
    have hz_3 := jb_max ez_3
    refine lv_istore_n (lv' := [(2, .int z_3), (0, .ref h0), (1, .int a1), (3, .int a3)]) hx hb dJ1_indexOf_4cfef_14 rfl hl (by decide) rfl (fun ls hl => ?_)
    refine lv_iload_n hx hb dJ1_indexOf_4cfef_15 rfl (lv_at hl 3 rfl) ?_
    refine lv_aload_n hx hb dJ1_indexOf_4cfef_16 rfl (lv_at hl 1 rfl) ?_
    refine va_tlen hx hb hsa_h0 hS (v := Int32.ofNat n) rfl dJ1_indexOf_4cfef_17 ?_
    refine lv_topi (fun z_4 ez_4 => ?_)
    have hz_4 : z_4.toInt = n := by rw [ez_4]; exact jb_nat (by omega)
    refine va_mmin hx hb (by rw [hml]; exact hl.1.symm) hown (htw (.methodLink RJ1 38 Lib.Math.min.name) (jWr_38 _ (List.mem_of_getElem? (i := 0) rfl))) (htw (.static Lib.Math.min.name) (jWr_16 _ (List.mem_of_getElem? (i := 16) rfl))) (htw (.initialized "java/lang/Math") (jWr_3 _ (List.mem_of_getElem? (i := 7) rfl))) (htw (.code Lib.Math.min.name Lib.Math.min.code 2 (some .int)) (jWr_16 _ (List.mem_of_getElem? (i := 17) rfl))) (by rw [← hR]; exact Nat.le_of_ble_eq_true rfl) (by rw [← hR]; exact Nat.le_of_ble_eq_true rfl) (Nat.zero_le _) (Nat.zero_le _) dJ1_indexOf_4cfef_18 ?_
    refine lv_topi (fun z_5 ez_5 => ?_)
    have hz_5 := jb_min ez_5
    refine lv_istore_n (lv' := [(3, .int z_5), (2, .int z_3), (0, .ref h0), (1, .int a1)]) hx hb dJ1_indexOf_4cfef_21 rfl hl (by decide) rfl (fun ls hl => ?_)
    refine lv_iload_n hx hb dJ1_indexOf_4cfef_22 rfl (lv_at hl 1 rfl) ?_
    refine lv_iload_n hx hb dJ1_indexOf_4cfef_23 rfl (lv_at hl 0 rfl) ?_
    refine lv_icmp_lt (tgt := 29) hx hb dJ1_indexOf_4cfef_24 (by decide) (fun c_6 => ?_) (fun c_6 => ?_)
    · skip
      have c_6' : z_3.toInt < z_5.toInt := jb_lt (rfl) (rfl) c_6
      refine lv_aload_n hx hb dJ1_indexOf_4cfef_29 rfl (lv_at hl 2 rfl) ?_
      refine lv_iload_n hx hb dJ1_indexOf_4cfef_30 rfl (lv_at hl 3 rfl) ?_
      refine lv_iload_n hx hb dJ1_indexOf_4cfef_31 rfl (lv_at hl 1 rfl) ?_
      refine lv_iload_n hx hb dJ1_indexOf_4cfef_32 rfl (lv_at hl 0 rfl) ?_
      refine vp_callSi (W.runS (As := [.ref h0, .int a1, .int z_3, .int z_5]) (rest := []) ⟨hx, hb, hml, hown, hts⟩ (wJ1_indexOfChar_4cfef l dC dI ca base s.heap h0 n f a1 z_3 z_5) (va_cwS 4 hts (jgS (jWr_38 _ (List.mem_of_getElem? (i := 4) rfl)) (jWr_38 _ (List.mem_of_getElem? (i := 5) rfl)) (jWr_6 _ (List.mem_of_getElem? (i := 10) rfl)) (jWr_38 _ (List.mem_of_getElem? (i := 6) rfl))) rfl rfl rfl (by decide +kernel) ⟨by rw [← hR]; exact Nat.le_of_ble_eq_true rfl, by rw [← hR]; exact Nat.le_of_ble_eq_true rfl⟩) ⟨fun a U g mk q => by obtain ⟨q0, q1, q2, qK, q9⟩ := q; exact ⟨q0, q1, (q2.moved (Vm.Alike.refl U.vm)), jG.calling g mk a qK, q9⟩, fun U hU hW => ⟨rfl, hU, (hsa_h0.moved hW.alike).kept hS.2.1, hG.step hW hU hS, ⟨by omega, by omega, by omega⟩⟩⟩ rfl rfl hl.1 rfl (lv_room (Nat.le_of_ble_eq_true rfl)) dJ1_indexOf_4cfef_33 ⟨Nat.zero_le _, Nat.zero_le _⟩) (fun r_7 hr_7 => ?_)
      rw [hQ]
      exact W.iret (v := r_7) hx hb hr (fun t ht hW => ⟨r_7, rfl, by omega, ht⟩) (fun _ h => nomatch h) dJ1_indexOf_4cfef_36
    · skip
      have c_6' : z_3.toInt ≥ z_5.toInt := jb_lt_n (rfl) (rfl) c_6
      refine lv_iconst (v := (-1)) hx hb dJ1_indexOf_4cfef_27 (by decide) ?_
      rw [hQ]
      exact W.iret (v := (-1)) hx hb hr (fun t ht hW => ⟨(-1), rfl, by omega, ht⟩) (fun _ h => nomatch h) dJ1_indexOf_4cfef_28
  · skip
    have c_2' : r_1.toInt = 0 := jb_ne_n (rfl) ((by decide)) c_2
    refine lv_iconst (v := (-1)) hx hb dJ1_indexOf_4cfef_7 (by decide) ?_
    rw [hQ]
    exact W.iret (v := (-1)) hx hb hr (fun t ht hW => ⟨(-1), rfl, by omega, ht⟩) (fun _ h => nomatch h) dJ1_indexOf_4cfef_8
set_option maxHeartbeats 4000000 in
set_option maxRecDepth 20000 in
theorem wJ0_indexOf_7cf53 (l : Launch) (dC : Nat → ClassId) (dI : Nat → Nat → Nat) (ca : Nat → ClassId) (base : Nat) (H0 : Heap) (h0 n : Nat) (a1 a2 : Int32) : Met l yJ0_indexOf_7cf53 (jw yJ0_indexOf_7cf53 cJ0_indexOf_7cf53 3 (some .int)) ({ frames := 3, cells := 0, slots := 0, locals := 120 }) (va_Pc [.ref h0, .int a1, .int a2] (fun U => U.heap = H0 ∧ jStr base h0 n U H0 ∧ jG dC dI ca base U ∧ (n < 2147483648))) (vp_Si (fun r => r.toInt = -1 ∨ (0 ≤ r.toInt ∧ a2.toInt ≤ r.toInt ∧ r.toInt < n))) 0 0 (fun _ => False) := by
  refine Met.ofW (cc := cJ0_indexOf_7cf53) (maxL := 3) (ret := (some .int)) (by decide) rfl ?_
  intro p e s m args below meth c s₁ B hml hv
  obtain ⟨rfl, hH0, hstr_h0, hG, hpre⟩ := hv
  have hK := hG.1
  have hx := B.exec
  have hb := B.bytes
  have hr := B.returns
  have hts := atoms_spec (ws := (jw yJ0_indexOf_7cf53 cJ0_indexOf_7cf53 3 (some .int))) B.pre
  have htw : ∀ w ∈ jWl, w.before _ s = true := fun w h => hts w (List.mem_cons_of_mem _ h)
  have hown : s.vm.findClass RJ0 = some m.cls := findClass_of_methodNamed B.named
  have hlocks := B.notSynchronized
  obtain ⟨Q, hQ⟩ : ∃ Q, Q = MQ below (vp_Si (fun r => r.toInt = -1 ∨ (0 ≤ r.toInt ∧ a2.toInt ≤ r.toInt ∧ r.toInt < n))) ([.ref h0, .int a1, .int a2] : List Value).toArray s 0 0 (fun _ => False) := ⟨_, rfl⟩
  rw [← hQ]
  have hl := lv_entry ([.ref h0, .int a1, .int a2]) (n := 3) (Nat.le_of_ble_eq_true rfl)
  rw [lg_entry_eq]
  generalize (lg_sl ([.ref h0, .int a1, .int a2]) ++ List.replicate (3 - (lg_sl ([.ref h0, .int a1, .int a2])).length) Slot.unset).toArray = ls at hl ⊢
  have hl : lv_has ls 3 [(0, .ref h0), (1, .int a1), (2, .int a2)] := hl
  generalize hR : (headSpec (jw yJ0_indexOf_7cf53 cJ0_indexOf_7cf53 3 (some .int)) ({ frames := 3, cells := 0, slots := 0, locals := 120 })).room = R
  subst hH0
  have hS : va_S (jA base) s.heap s.heap [] := va_S.rf
  have hk0 : (0 : Int32).toInt = 0 := by decide
  have hk1 : (1 : Int32).toInt = 1 := by decide
  refine lv_aload_n hx hb dJ0_indexOf_7cf53_0 rfl (lv_at hl 0 rfl) ?_
  refine vp_callSi (W.runV (As := []) (rest := []) ⟨hx, hb, hml, hown, hts⟩ (wJ0_isLatin1_aae02 l dC dI ca base s.heap h0 n) (cwV 0 hts (jgV (jWr_6 _ (List.mem_of_getElem? (i := 4) rfl)) (jWr_6 _ (List.mem_of_getElem? (i := 5) rfl)) (jWr_6 _ (List.mem_of_getElem? (i := 6) rfl)) (jWr_5 _ (List.mem_of_getElem? (i := 15) rfl)) (jWr_6 _ (List.mem_of_getElem? (i := 7) rfl))) rfl rfl rfl (by decide +kernel) ⟨by rw [← hR]; exact Nat.le_of_ble_eq_true rfl, by rw [← hR]; exact Nat.le_of_ble_eq_true rfl⟩) ⟨fun a U g mk q => by obtain ⟨q0, q1, q2, qK, q9⟩ := q; exact ⟨q0, q1, (q2.moved (Vm.Alike.refl U.vm)), jG.calling g mk a qK, q9⟩, jStr_recv hstr_h0 hS, fun U hU hW => ⟨rfl, hU, (hstr_h0.moved hW.alike).kept hS.2.1, hG.step hW hU hS, by omega⟩⟩ rfl rfl hl.1 rfl (lv_room (Nat.le_of_ble_eq_true rfl)) dJ0_indexOf_7cf53_1 ⟨Nat.zero_le _, Nat.zero_le _⟩) (fun r_1 hr_1 => ?_)
  subst hr_1
  refine lv_if_eq (tgt := 23) hx hb dJ0_indexOf_7cf53_4 (by decide) (fun c_2 => ?_) (fun c_2 => ?_)
  · skip
    exact absurd c_2 (by decide)
  · skip
    refine lv_aload_n hx hb dJ0_indexOf_7cf53_7 rfl (lv_at hl 0 rfl) ?_
    obtain ⟨sv_3, fsv_3, gsv_3, hsv_3⟩ := hstr_h0.2.2
    refine vk_getf hx hb gsv_3 hS hown (htw (.fieldLink RJ0 9 "java/lang/String" "value" "[B") (jWr_5 _ (List.mem_of_getElem? (i := 17) rfl))) (fun _ h9 => h9) dJ0_indexOf_7cf53_8 ?_
    refine lv_iload_n hx hb dJ0_indexOf_7cf53_11 rfl (lv_at hl 1 rfl) ?_
    refine lv_iload_n hx hb dJ0_indexOf_7cf53_12 rfl (lv_at hl 2 rfl) ?_
    refine lv_aload_n hx hb dJ0_indexOf_7cf53_13 rfl (lv_at hl 0 rfl) ?_
    refine vp_callSi (W.runV (As := []) (rest := [.int a2, .int a1, .ref sv_3]) ⟨hx, hb, hml, hown, hts⟩ (wJ0_length_8abf5 l dC dI ca base s.heap h0 n) (cwV 0 hts (jgV (jWr_37 _ (List.mem_of_getElem? (i := 19) rfl)) (jWr_5 _ (List.mem_of_getElem? (i := 13) rfl)) (jWr_5 _ (List.mem_of_getElem? (i := 14) rfl)) (jWr_5 _ (List.mem_of_getElem? (i := 15) rfl)) (jWr_5 _ (List.mem_of_getElem? (i := 16) rfl))) rfl rfl rfl (by decide +kernel) ⟨by rw [← hR]; exact Nat.le_of_ble_eq_true rfl, by rw [← hR]; exact Nat.le_of_ble_eq_true rfl⟩) ⟨fun a U g mk q => by obtain ⟨q0, q1, q2, qK, q9⟩ := q; exact ⟨q0, q1, (q2.moved (Vm.Alike.refl U.vm)), jG.calling g mk a qK, q9⟩, jStr_recv hstr_h0 hS, fun U hU hW => ⟨rfl, hU, (hstr_h0.moved hW.alike).kept hS.2.1, hG.step hW hU hS, by omega⟩⟩ rfl rfl hl.1 rfl (lv_room (Nat.le_of_ble_eq_true rfl)) dJ0_indexOf_7cf53_14 ⟨Nat.zero_le _, Nat.zero_le _⟩) (fun r_4 hr_4 => ?_)
    refine vp_callSi (W.runS (As := [.ref sv_3, .int a1, .int a2, .int r_4]) (rest := []) ⟨hx, hb, hml, hown, hts⟩ (wJ1_indexOf_4cfef l dC dI ca base s.heap sv_3 n fsv_3 a1 a2 r_4) (va_cwS 4 hts (jgS (jWr_37 _ (List.mem_of_getElem? (i := 20) rfl)) (jWr_37 _ (List.mem_of_getElem? (i := 21) rfl)) (jWr_6 _ (List.mem_of_getElem? (i := 10) rfl)) (jWr_37 _ (List.mem_of_getElem? (i := 22) rfl))) rfl rfl rfl (by decide +kernel) ⟨by rw [← hR]; exact Nat.le_of_ble_eq_true rfl, by rw [← hR]; exact Nat.le_of_ble_eq_true rfl⟩) ⟨fun a U g mk q => by obtain ⟨q0, q1, q2, qK, q9⟩ := q; exact ⟨q0, q1, (q2.moved (Vm.Alike.refl U.vm)), jG.calling g mk a qK, q9⟩, fun U hU hW => ⟨rfl, hU, (hsv_3.moved hW.alike).kept hS.2.1, hG.step hW hU hS, by omega⟩⟩ rfl rfl hl.1 rfl (lv_room (Nat.le_of_ble_eq_true rfl)) dJ0_indexOf_7cf53_17 ⟨Nat.zero_le _, Nat.zero_le _⟩) (fun r_5 hr_5 => ?_)
    refine lv_goto (tgt := 36) hx hb dJ0_indexOf_7cf53_20 (by decide) ?_
    rw [hQ]
    exact W.iret (v := r_5) hx hb hr (fun t ht hW => ⟨r_5, rfl, by omega, ht⟩) (fun _ h => nomatch h) dJ0_indexOf_7cf53_36
set_option maxHeartbeats 4000000 in
set_option maxRecDepth 20000 in
theorem wJ0_indexOf_0f7a4 (l : Launch) (dC : Nat → ClassId) (dI : Nat → Nat → Nat) (ca : Nat → ClassId) (base : Nat) (H0 : Heap) (h0 n : Nat) (a1 : Int32) : Met l yJ0_indexOf_0f7a4 (jw yJ0_indexOf_0f7a4 cJ0_indexOf_0f7a4 2 (some .int)) ({ frames := 4, cells := 0, slots := 0, locals := 160 }) (va_Pc [.ref h0, .int a1] (fun U => U.heap = H0 ∧ jStr base h0 n U H0 ∧ jG dC dI ca base U ∧ (n < 2147483648))) (vp_Si (fun r => r.toInt = -1 ∨ (0 ≤ r.toInt ∧ r.toInt < n))) 0 0 (fun _ => False) := by
  refine Met.ofW (cc := cJ0_indexOf_0f7a4) (maxL := 2) (ret := (some .int)) (by decide) rfl ?_
  intro p e s m args below meth c s₁ B hml hv
  obtain ⟨rfl, hH0, hstr_h0, hG, hpre⟩ := hv
  have hK := hG.1
  have hx := B.exec
  have hb := B.bytes
  have hr := B.returns
  have hts := atoms_spec (ws := (jw yJ0_indexOf_0f7a4 cJ0_indexOf_0f7a4 2 (some .int))) B.pre
  have htw : ∀ w ∈ jWl, w.before _ s = true := fun w h => hts w (List.mem_cons_of_mem _ h)
  have hown : s.vm.findClass RJ0 = some m.cls := findClass_of_methodNamed B.named
  have hlocks := B.notSynchronized
  obtain ⟨Q, hQ⟩ : ∃ Q, Q = MQ below (vp_Si (fun r => r.toInt = -1 ∨ (0 ≤ r.toInt ∧ r.toInt < n))) ([.ref h0, .int a1] : List Value).toArray s 0 0 (fun _ => False) := ⟨_, rfl⟩
  rw [← hQ]
  have hl := lv_entry ([.ref h0, .int a1]) (n := 2) (Nat.le_of_ble_eq_true rfl)
  rw [lg_entry_eq]
  generalize (lg_sl ([.ref h0, .int a1]) ++ List.replicate (2 - (lg_sl ([.ref h0, .int a1])).length) Slot.unset).toArray = ls at hl ⊢
  have hl : lv_has ls 2 [(0, .ref h0), (1, .int a1)] := hl
  generalize hR : (headSpec (jw yJ0_indexOf_0f7a4 cJ0_indexOf_0f7a4 2 (some .int)) ({ frames := 4, cells := 0, slots := 0, locals := 160 })).room = R
  subst hH0
  have hS : va_S (jA base) s.heap s.heap [] := va_S.rf
  have hk0 : (0 : Int32).toInt = 0 := by decide
  have hk1 : (1 : Int32).toInt = 1 := by decide
  refine lv_aload_n hx hb dJ0_indexOf_0f7a4_0 rfl (lv_at hl 0 rfl) ?_
  refine lv_iload_n hx hb dJ0_indexOf_0f7a4_1 rfl (lv_at hl 1 rfl) ?_
  refine lv_iconst (v := 0) hx hb dJ0_indexOf_0f7a4_2 (by decide) ?_
  refine vp_callSi (W.runV (As := [.int a1, .int 0]) (rest := []) ⟨hx, hb, hml, hown, hts⟩ (wJ0_indexOf_7cf53 l dC dI ca base s.heap h0 n a1 0) (cwV 2 hts (jgV (jWr_37 _ (List.mem_of_getElem? (i := 15) rfl)) (jWr_37 _ (List.mem_of_getElem? (i := 16) rfl)) (jWr_37 _ (List.mem_of_getElem? (i := 17) rfl)) (jWr_5 _ (List.mem_of_getElem? (i := 15) rfl)) (jWr_37 _ (List.mem_of_getElem? (i := 18) rfl))) rfl rfl rfl (by decide +kernel) ⟨by rw [← hR]; exact Nat.le_of_ble_eq_true rfl, by rw [← hR]; exact Nat.le_of_ble_eq_true rfl⟩) ⟨fun a U g mk q => by obtain ⟨q0, q1, q2, qK, q9⟩ := q; exact ⟨q0, q1, (q2.moved (Vm.Alike.refl U.vm)), jG.calling g mk a qK, q9⟩, jStr_recv hstr_h0 hS, fun U hU hW => ⟨rfl, hU, (hstr_h0.moved hW.alike).kept hS.2.1, hG.step hW hU hS, by omega⟩⟩ rfl rfl hl.1 rfl (lv_room (Nat.le_of_ble_eq_true rfl)) dJ0_indexOf_0f7a4_3 ⟨Nat.zero_le _, Nat.zero_le _⟩) (fun r_1 hr_1 => ?_)
  rw [hQ]
  exact W.iret (v := r_1) hx hb hr (fun t ht hW => ⟨r_1, rfl, by omega, ht⟩) (fun _ h => nomatch h) dJ0_indexOf_0f7a4_6
set_option maxHeartbeats 4000000 in
set_option maxRecDepth 20000 in
theorem wX0_isHigh (l : Launch) (dC : Nat → ClassId) (dI : Nat → Nat → Nat) (ca : Nat → ClassId) (base : Nat) (H0 : Heap) (a0 : Int32) : Met l yX0_isHigh (jw yX0_isHigh cX0_isHigh 1 (some .boolean)) ({ frames := 0, cells := 0, slots := 0, locals := 0 }) (va_Pc [.int a0] (fun U => U.heap = H0 ∧ jG dC dI ca base U ∧ (True))) (vp_Si (fun r => r = 0 ∨ r = 1)) 0 0 (fun _ => False) := by
  refine Met.ofW (cc := cX0_isHigh) (maxL := 1) (ret := (some .boolean)) (by decide) rfl ?_
  intro p e s m args below meth c s₁ B hml hv
  obtain ⟨rfl, hH0, hG, hpre⟩ := hv
  have hK := hG.1
  have hx := B.exec
  have hb := B.bytes
  have hr := B.returns
  have hts := atoms_spec (ws := (jw yX0_isHigh cX0_isHigh 1 (some .boolean))) B.pre
  have htw : ∀ w ∈ jWl, w.before _ s = true := fun w h => hts w (List.mem_cons_of_mem _ h)
  have hown : s.vm.findClass RX0 = some m.cls := findClass_of_methodNamed B.named
  have hlocks := B.notSynchronized
  obtain ⟨Q, hQ⟩ : ∃ Q, Q = MQ below (vp_Si (fun r => r = 0 ∨ r = 1)) ([.int a0] : List Value).toArray s 0 0 (fun _ => False) := ⟨_, rfl⟩
  rw [← hQ]
  have hl := lv_entry ([.int a0]) (n := 1) (Nat.le_of_ble_eq_true rfl)
  rw [lg_entry_eq]
  generalize (lg_sl ([.int a0]) ++ List.replicate (1 - (lg_sl ([.int a0])).length) Slot.unset).toArray = ls at hl ⊢
  have hl : lv_has ls 1 [(0, .int a0)] := hl
  generalize hR : (headSpec (jw yX0_isHigh cX0_isHigh 1 (some .boolean)) ({ frames := 0, cells := 0, slots := 0, locals := 0 })).room = R
  subst hH0
  have hS : va_S (jA base) s.heap s.heap [] := va_S.rf
  have hk0 : (0 : Int32).toInt = 0 := by decide
  have hk1 : (1 : Int32).toInt = 1 := by decide
  refine lv_iload_n hx hb dX0_isHigh_0 rfl (lv_at hl 0 rfl) ?_
  refine lv_ldc hx hb hown (htw (.constant RX0 61 55296) (jWr_20 _ (List.mem_of_getElem? (i := 17) rfl))) dX0_isHigh_1 ?_
  refine lv_icmp_lt (tgt := 16) hx hb dX0_isHigh_3 (by decide) (fun c_1 => ?_) (fun c_1 => ?_)
  · skip
    have c_1' : a0.toInt < 55296 := jb_lt (rfl) ((by decide)) c_1
    refine lv_iconst (v := 0) hx hb dX0_isHigh_16 (by decide) ?_
    rw [hQ]
    exact W.zret (v := 0) hx hb hr (jb_nz (Or.inl rfl)) (fun t ht hW => ⟨0, rfl, by first | exact Or.inl rfl | exact Or.inr rfl | assumption, ht⟩) (fun _ h => nomatch h) dX0_isHigh_17
  · skip
    have c_1' : a0.toInt ≥ 55296 := jb_lt_n (rfl) ((by decide)) c_1
    refine lv_iload_n hx hb dX0_isHigh_6 rfl (lv_at hl 0 rfl) ?_
    refine lv_ldc hx hb hown (htw (.constant RX0 62 56320) (jWr_21 _ (List.mem_of_getElem? (i := 12) rfl))) dX0_isHigh_7 ?_
    refine lv_icmp_ge (tgt := 16) hx hb dX0_isHigh_9 (by decide) (fun c_2 => ?_) (fun c_2 => ?_)
    · skip
      have c_2' : a0.toInt ≥ 56320 := jb_ge (rfl) ((by decide)) c_2
      refine lv_iconst (v := 0) hx hb dX0_isHigh_16 (by decide) ?_
      rw [hQ]
      exact W.zret (v := 0) hx hb hr (jb_nz (Or.inl rfl)) (fun t ht hW => ⟨0, rfl, by first | exact Or.inl rfl | exact Or.inr rfl | assumption, ht⟩) (fun _ h => nomatch h) dX0_isHigh_17
    · skip
      have c_2' : a0.toInt < 56320 := jb_ge_n (rfl) ((by decide)) c_2
      refine lv_iconst (v := 1) hx hb dX0_isHigh_12 (by decide) ?_
      refine lv_goto (tgt := 17) hx hb dX0_isHigh_13 (by decide) ?_
      rw [hQ]
      exact W.zret (v := 1) hx hb hr (jb_nz (Or.inr rfl)) (fun t ht hW => ⟨1, rfl, by first | exact Or.inl rfl | exact Or.inr rfl | assumption, ht⟩) (fun _ h => nomatch h) dX0_isHigh_17
set_option maxHeartbeats 4000000 in
set_option maxRecDepth 20000 in
theorem wX0_isLow (l : Launch) (dC : Nat → ClassId) (dI : Nat → Nat → Nat) (ca : Nat → ClassId) (base : Nat) (H0 : Heap) (a0 : Int32) : Met l yX0_isLow (jw yX0_isLow cX0_isLow 1 (some .boolean)) ({ frames := 0, cells := 0, slots := 0, locals := 0 }) (va_Pc [.int a0] (fun U => U.heap = H0 ∧ jG dC dI ca base U ∧ (True))) (vp_Si (fun r => r = 0 ∨ r = 1)) 0 0 (fun _ => False) := by
  refine Met.ofW (cc := cX0_isLow) (maxL := 1) (ret := (some .boolean)) (by decide) rfl ?_
  intro p e s m args below meth c s₁ B hml hv
  obtain ⟨rfl, hH0, hG, hpre⟩ := hv
  have hK := hG.1
  have hx := B.exec
  have hb := B.bytes
  have hr := B.returns
  have hts := atoms_spec (ws := (jw yX0_isLow cX0_isLow 1 (some .boolean))) B.pre
  have htw : ∀ w ∈ jWl, w.before _ s = true := fun w h => hts w (List.mem_cons_of_mem _ h)
  have hown : s.vm.findClass RX0 = some m.cls := findClass_of_methodNamed B.named
  have hlocks := B.notSynchronized
  obtain ⟨Q, hQ⟩ : ∃ Q, Q = MQ below (vp_Si (fun r => r = 0 ∨ r = 1)) ([.int a0] : List Value).toArray s 0 0 (fun _ => False) := ⟨_, rfl⟩
  rw [← hQ]
  have hl := lv_entry ([.int a0]) (n := 1) (Nat.le_of_ble_eq_true rfl)
  rw [lg_entry_eq]
  generalize (lg_sl ([.int a0]) ++ List.replicate (1 - (lg_sl ([.int a0])).length) Slot.unset).toArray = ls at hl ⊢
  have hl : lv_has ls 1 [(0, .int a0)] := hl
  generalize hR : (headSpec (jw yX0_isLow cX0_isLow 1 (some .boolean)) ({ frames := 0, cells := 0, slots := 0, locals := 0 })).room = R
  subst hH0
  have hS : va_S (jA base) s.heap s.heap [] := va_S.rf
  have hk0 : (0 : Int32).toInt = 0 := by decide
  have hk1 : (1 : Int32).toInt = 1 := by decide
  refine lv_iload_n hx hb dX0_isLow_0 rfl (lv_at hl 0 rfl) ?_
  refine lv_ldc hx hb hown (htw (.constant RX0 62 56320) (jWr_21 _ (List.mem_of_getElem? (i := 12) rfl))) dX0_isLow_1 ?_
  refine lv_icmp_lt (tgt := 16) hx hb dX0_isLow_3 (by decide) (fun c_1 => ?_) (fun c_1 => ?_)
  · skip
    have c_1' : a0.toInt < 56320 := jb_lt (rfl) ((by decide)) c_1
    refine lv_iconst (v := 0) hx hb dX0_isLow_16 (by decide) ?_
    rw [hQ]
    exact W.zret (v := 0) hx hb hr (jb_nz (Or.inl rfl)) (fun t ht hW => ⟨0, rfl, by first | exact Or.inl rfl | exact Or.inr rfl | assumption, ht⟩) (fun _ h => nomatch h) dX0_isLow_17
  · skip
    have c_1' : a0.toInt ≥ 56320 := jb_lt_n (rfl) ((by decide)) c_1
    refine lv_iload_n hx hb dX0_isLow_6 rfl (lv_at hl 0 rfl) ?_
    refine lv_ldc hx hb hown (htw (.constant RX0 73 57344) (jWr_20 _ (List.mem_of_getElem? (i := 18) rfl))) dX0_isLow_7 ?_
    refine lv_icmp_ge (tgt := 16) hx hb dX0_isLow_9 (by decide) (fun c_2 => ?_) (fun c_2 => ?_)
    · skip
      have c_2' : a0.toInt ≥ 57344 := jb_ge (rfl) ((by decide)) c_2
      refine lv_iconst (v := 0) hx hb dX0_isLow_16 (by decide) ?_
      rw [hQ]
      exact W.zret (v := 0) hx hb hr (jb_nz (Or.inl rfl)) (fun t ht hW => ⟨0, rfl, by first | exact Or.inl rfl | exact Or.inr rfl | assumption, ht⟩) (fun _ h => nomatch h) dX0_isLow_17
    · skip
      have c_2' : a0.toInt < 57344 := jb_ge_n (rfl) ((by decide)) c_2
      refine lv_iconst (v := 1) hx hb dX0_isLow_12 (by decide) ?_
      refine lv_goto (tgt := 17) hx hb dX0_isLow_13 (by decide) ?_
      rw [hQ]
      exact W.zret (v := 1) hx hb hr (jb_nz (Or.inr rfl)) (fun t ht hW => ⟨1, rfl, by first | exact Or.inl rfl | exact Or.inr rfl | assumption, ht⟩) (fun _ h => nomatch h) dX0_isLow_17
set_option maxHeartbeats 4000000 in
set_option maxRecDepth 20000 in
theorem wX11_isBlank (l : Launch) (dC : Nat → ClassId) (dI : Nat → Nat → Nat) (ca : Nat → ClassId) (base : Nat) (H0 : Heap) (a0 : Int32) : Met l yX11_isBlank (jw yX11_isBlank cX11_isBlank 1 (some .boolean)) ({ frames := 0, cells := 0, slots := 0, locals := 0 }) (va_Pc [.int a0] (fun U => U.heap = H0 ∧ jG dC dI ca base U ∧ (True))) (vp_Si (fun r => r = 0 ∨ r = 1)) 0 0 (fun _ => False) := by
  refine Met.ofW (cc := cX11_isBlank) (maxL := 1) (ret := (some .boolean)) (by decide) rfl ?_
  intro p e s m args below meth c s₁ B hml hv
  obtain ⟨rfl, hH0, hG, hpre⟩ := hv
  have hK := hG.1
  have hx := B.exec
  have hb := B.bytes
  have hr := B.returns
  have hts := atoms_spec (ws := (jw yX11_isBlank cX11_isBlank 1 (some .boolean))) B.pre
  have htw : ∀ w ∈ jWl, w.before _ s = true := fun w h => hts w (List.mem_cons_of_mem _ h)
  have hown : s.vm.findClass RX11 = some m.cls := findClass_of_methodNamed B.named
  have hlocks := B.notSynchronized
  obtain ⟨Q, hQ⟩ : ∃ Q, Q = MQ below (vp_Si (fun r => r = 0 ∨ r = 1)) ([.int a0] : List Value).toArray s 0 0 (fun _ => False) := ⟨_, rfl⟩
  rw [← hQ]
  have hl := lv_entry ([.int a0]) (n := 1) (Nat.le_of_ble_eq_true rfl)
  rw [lg_entry_eq]
  generalize (lg_sl ([.int a0]) ++ List.replicate (1 - (lg_sl ([.int a0])).length) Slot.unset).toArray = ls at hl ⊢
  have hl : lv_has ls 1 [(0, .int a0)] := hl
  generalize hR : (headSpec (jw yX11_isBlank cX11_isBlank 1 (some .boolean)) ({ frames := 0, cells := 0, slots := 0, locals := 0 })).room = R
  subst hH0
  have hS : va_S (jA base) s.heap s.heap [] := va_S.rf
  have hk0 : (0 : Int32).toInt = 0 := by decide
  have hk1 : (1 : Int32).toInt = 1 := by decide
  have hk9 : (9 : Int32).toInt = 9 := by decide
  have hk10 : (10 : Int32).toInt = 10 := by decide
  have hk13 : (13 : Int32).toInt = 13 := by decide
  have hk32 : (32 : Int32).toInt = 32 := by decide
  refine lv_iload_n hx hb dX11_isBlank_0 rfl (lv_at hl 0 rfl) ?_
  refine lv_bipush (v := 32) hx hb dX11_isBlank_1 (by decide) ?_
  refine lv_icmp_eq (tgt := 24) hx hb dX11_isBlank_3 (by decide) (fun c_1 => ?_) (fun c_1 => ?_)
  · skip
    have c_1' : a0.toInt = 32 := jb_eq (rfl) ((by decide)) c_1
    refine lv_iconst (v := 1) hx hb dX11_isBlank_24 (by decide) ?_
    refine lv_goto (tgt := 29) hx hb dX11_isBlank_25 (by decide) ?_
    rw [hQ]
    exact W.zret (v := 1) hx hb hr (jb_nz (Or.inr rfl)) (fun t ht hW => ⟨1, rfl, by first | exact Or.inl rfl | exact Or.inr rfl | assumption, ht⟩) (fun _ h => nomatch h) dX11_isBlank_29
  · skip
    have c_1' : a0.toInt ≠ 32 := jb_eq_n (rfl) ((by decide)) c_1
    refine lv_iload_n hx hb dX11_isBlank_6 rfl (lv_at hl 0 rfl) ?_
    refine lv_bipush (v := 9) hx hb dX11_isBlank_7 (by decide) ?_
    refine lv_icmp_eq (tgt := 24) hx hb dX11_isBlank_9 (by decide) (fun c_2 => ?_) (fun c_2 => ?_)
    · skip
      have c_2' : a0.toInt = 9 := jb_eq (rfl) ((by decide)) c_2
      refine lv_iconst (v := 1) hx hb dX11_isBlank_24 (by decide) ?_
      refine lv_goto (tgt := 29) hx hb dX11_isBlank_25 (by decide) ?_
      rw [hQ]
      exact W.zret (v := 1) hx hb hr (jb_nz (Or.inr rfl)) (fun t ht hW => ⟨1, rfl, by first | exact Or.inl rfl | exact Or.inr rfl | assumption, ht⟩) (fun _ h => nomatch h) dX11_isBlank_29
    · skip
      have c_2' : a0.toInt ≠ 9 := jb_eq_n (rfl) ((by decide)) c_2
      refine lv_iload_n hx hb dX11_isBlank_12 rfl (lv_at hl 0 rfl) ?_
      refine lv_bipush (v := 10) hx hb dX11_isBlank_13 (by decide) ?_
      refine lv_icmp_eq (tgt := 24) hx hb dX11_isBlank_15 (by decide) (fun c_3 => ?_) (fun c_3 => ?_)
      · skip
        have c_3' : a0.toInt = 10 := jb_eq (rfl) ((by decide)) c_3
        refine lv_iconst (v := 1) hx hb dX11_isBlank_24 (by decide) ?_
        refine lv_goto (tgt := 29) hx hb dX11_isBlank_25 (by decide) ?_
        rw [hQ]
        exact W.zret (v := 1) hx hb hr (jb_nz (Or.inr rfl)) (fun t ht hW => ⟨1, rfl, by first | exact Or.inl rfl | exact Or.inr rfl | assumption, ht⟩) (fun _ h => nomatch h) dX11_isBlank_29
      · skip
        have c_3' : a0.toInt ≠ 10 := jb_eq_n (rfl) ((by decide)) c_3
        refine lv_iload_n hx hb dX11_isBlank_18 rfl (lv_at hl 0 rfl) ?_
        refine lv_bipush (v := 13) hx hb dX11_isBlank_19 (by decide) ?_
        refine lv_icmp_ne (tgt := 28) hx hb dX11_isBlank_21 (by decide) (fun c_4 => ?_) (fun c_4 => ?_)
        · skip
          have c_4' : a0.toInt ≠ 13 := jb_ne (rfl) ((by decide)) c_4
          refine lv_iconst (v := 0) hx hb dX11_isBlank_28 (by decide) ?_
          rw [hQ]
          exact W.zret (v := 0) hx hb hr (jb_nz (Or.inl rfl)) (fun t ht hW => ⟨0, rfl, by first | exact Or.inl rfl | exact Or.inr rfl | assumption, ht⟩) (fun _ h => nomatch h) dX11_isBlank_29
        · skip
          have c_4' : a0.toInt = 13 := jb_ne_n (rfl) ((by decide)) c_4
          refine lv_iconst (v := 1) hx hb dX11_isBlank_24 (by decide) ?_
          refine lv_goto (tgt := 29) hx hb dX11_isBlank_25 (by decide) ?_
          rw [hQ]
          exact W.zret (v := 1) hx hb hr (jb_nz (Or.inr rfl)) (fun t ht hW => ⟨1, rfl, by first | exact Or.inl rfl | exact Or.inr rfl | assumption, ht⟩) (fun _ h => nomatch h) dX11_isBlank_29
set_option maxHeartbeats 4000000 in
set_option maxRecDepth 20000 in
theorem wX11_isLetter (l : Launch) (dC : Nat → ClassId) (dI : Nat → Nat → Nat) (ca : Nat → ClassId) (base : Nat) (H0 : Heap) (a0 : Int32) : Met l yX11_isLetter (jw yX11_isLetter cX11_isLetter 1 (some .boolean)) ({ frames := 0, cells := 0, slots := 0, locals := 0 }) (va_Pc [.int a0] (fun U => U.heap = H0 ∧ jG dC dI ca base U ∧ (True))) (vp_Si (fun r => r = 0 ∨ r = 1)) 0 0 (fun _ => False) := by
  refine Met.ofW (cc := cX11_isLetter) (maxL := 1) (ret := (some .boolean)) (by decide) rfl ?_
  intro p e s m args below meth c s₁ B hml hv
  obtain ⟨rfl, hH0, hG, hpre⟩ := hv
  have hK := hG.1
  have hx := B.exec
  have hb := B.bytes
  have hr := B.returns
  have hts := atoms_spec (ws := (jw yX11_isLetter cX11_isLetter 1 (some .boolean))) B.pre
  have htw : ∀ w ∈ jWl, w.before _ s = true := fun w h => hts w (List.mem_cons_of_mem _ h)
  have hown : s.vm.findClass RX11 = some m.cls := findClass_of_methodNamed B.named
  have hlocks := B.notSynchronized
  obtain ⟨Q, hQ⟩ : ∃ Q, Q = MQ below (vp_Si (fun r => r = 0 ∨ r = 1)) ([.int a0] : List Value).toArray s 0 0 (fun _ => False) := ⟨_, rfl⟩
  rw [← hQ]
  have hl := lv_entry ([.int a0]) (n := 1) (Nat.le_of_ble_eq_true rfl)
  rw [lg_entry_eq]
  generalize (lg_sl ([.int a0]) ++ List.replicate (1 - (lg_sl ([.int a0])).length) Slot.unset).toArray = ls at hl ⊢
  have hl : lv_has ls 1 [(0, .int a0)] := hl
  generalize hR : (headSpec (jw yX11_isLetter cX11_isLetter 1 (some .boolean)) ({ frames := 0, cells := 0, slots := 0, locals := 0 })).room = R
  subst hH0
  have hS : va_S (jA base) s.heap s.heap [] := va_S.rf
  have hk0 : (0 : Int32).toInt = 0 := by decide
  have hk1 : (1 : Int32).toInt = 1 := by decide
  have hk65 : (65 : Int32).toInt = 65 := by decide
  have hk90 : (90 : Int32).toInt = 90 := by decide
  have hk97 : (97 : Int32).toInt = 97 := by decide
  have hk122 : (122 : Int32).toInt = 122 := by decide
  refine lv_iload_n hx hb dX11_isLetter_0 rfl (lv_at hl 0 rfl) ?_
  refine lv_bipush (v := 97) hx hb dX11_isLetter_1 (by decide) ?_
  refine lv_icmp_lt (tgt := 12) hx hb dX11_isLetter_3 (by decide) (fun c_1 => ?_) (fun c_1 => ?_)
  · skip
    have c_1' : a0.toInt < 97 := jb_lt (rfl) ((by decide)) c_1
    refine lv_iload_n hx hb dX11_isLetter_12 rfl (lv_at hl 0 rfl) ?_
    refine lv_bipush (v := 65) hx hb dX11_isLetter_13 (by decide) ?_
    refine lv_icmp_lt (tgt := 28) hx hb dX11_isLetter_15 (by decide) (fun c_2 => ?_) (fun c_2 => ?_)
    · skip
      have c_2' : a0.toInt < 65 := jb_lt (rfl) ((by decide)) c_2
      refine lv_iconst (v := 0) hx hb dX11_isLetter_28 (by decide) ?_
      rw [hQ]
      exact W.zret (v := 0) hx hb hr (jb_nz (Or.inl rfl)) (fun t ht hW => ⟨0, rfl, by first | exact Or.inl rfl | exact Or.inr rfl | assumption, ht⟩) (fun _ h => nomatch h) dX11_isLetter_29
    · skip
      have c_2' : a0.toInt ≥ 65 := jb_lt_n (rfl) ((by decide)) c_2
      refine lv_iload_n hx hb dX11_isLetter_18 rfl (lv_at hl 0 rfl) ?_
      refine lv_bipush (v := 90) hx hb dX11_isLetter_19 (by decide) ?_
      refine lv_icmp_gt (tgt := 28) hx hb dX11_isLetter_21 (by decide) (fun c_3 => ?_) (fun c_3 => ?_)
      · skip
        have c_3' : a0.toInt > 90 := jb_gt (rfl) ((by decide)) c_3
        refine lv_iconst (v := 0) hx hb dX11_isLetter_28 (by decide) ?_
        rw [hQ]
        exact W.zret (v := 0) hx hb hr (jb_nz (Or.inl rfl)) (fun t ht hW => ⟨0, rfl, by first | exact Or.inl rfl | exact Or.inr rfl | assumption, ht⟩) (fun _ h => nomatch h) dX11_isLetter_29
      · skip
        have c_3' : a0.toInt ≤ 90 := jb_gt_n (rfl) ((by decide)) c_3
        refine lv_iconst (v := 1) hx hb dX11_isLetter_24 (by decide) ?_
        refine lv_goto (tgt := 29) hx hb dX11_isLetter_25 (by decide) ?_
        rw [hQ]
        exact W.zret (v := 1) hx hb hr (jb_nz (Or.inr rfl)) (fun t ht hW => ⟨1, rfl, by first | exact Or.inl rfl | exact Or.inr rfl | assumption, ht⟩) (fun _ h => nomatch h) dX11_isLetter_29
  · skip
    have c_1' : a0.toInt ≥ 97 := jb_lt_n (rfl) ((by decide)) c_1
    refine lv_iload_n hx hb dX11_isLetter_6 rfl (lv_at hl 0 rfl) ?_
    refine lv_bipush (v := 122) hx hb dX11_isLetter_7 (by decide) ?_
    refine lv_icmp_le (tgt := 24) hx hb dX11_isLetter_9 (by decide) (fun c_4 => ?_) (fun c_4 => ?_)
    · skip
      have c_4' : a0.toInt ≤ 122 := jb_le (rfl) ((by decide)) c_4
      refine lv_iconst (v := 1) hx hb dX11_isLetter_24 (by decide) ?_
      refine lv_goto (tgt := 29) hx hb dX11_isLetter_25 (by decide) ?_
      rw [hQ]
      exact W.zret (v := 1) hx hb hr (jb_nz (Or.inr rfl)) (fun t ht hW => ⟨1, rfl, by first | exact Or.inl rfl | exact Or.inr rfl | assumption, ht⟩) (fun _ h => nomatch h) dX11_isLetter_29
    · skip
      have c_4' : a0.toInt > 122 := jb_le_n (rfl) ((by decide)) c_4
      refine lv_iload_n hx hb dX11_isLetter_12 rfl (lv_at hl 0 rfl) ?_
      refine lv_bipush (v := 65) hx hb dX11_isLetter_13 (by decide) ?_
      refine lv_icmp_lt (tgt := 28) hx hb dX11_isLetter_15 (by decide) (fun c_5 => ?_) (fun c_5 => ?_)
      · skip
        have c_5' : a0.toInt < 65 := jb_lt (rfl) ((by decide)) c_5
        refine lv_iconst (v := 0) hx hb dX11_isLetter_28 (by decide) ?_
        rw [hQ]
        exact W.zret (v := 0) hx hb hr (jb_nz (Or.inl rfl)) (fun t ht hW => ⟨0, rfl, by first | exact Or.inl rfl | exact Or.inr rfl | assumption, ht⟩) (fun _ h => nomatch h) dX11_isLetter_29
      · skip
        have c_5' : a0.toInt ≥ 65 := jb_lt_n (rfl) ((by decide)) c_5
        refine lv_iload_n hx hb dX11_isLetter_18 rfl (lv_at hl 0 rfl) ?_
        refine lv_bipush (v := 90) hx hb dX11_isLetter_19 (by decide) ?_
        refine lv_icmp_gt (tgt := 28) hx hb dX11_isLetter_21 (by decide) (fun c_6 => ?_) (fun c_6 => ?_)
        · skip
          have c_6' : a0.toInt > 90 := jb_gt (rfl) ((by decide)) c_6
          refine lv_iconst (v := 0) hx hb dX11_isLetter_28 (by decide) ?_
          rw [hQ]
          exact W.zret (v := 0) hx hb hr (jb_nz (Or.inl rfl)) (fun t ht hW => ⟨0, rfl, by first | exact Or.inl rfl | exact Or.inr rfl | assumption, ht⟩) (fun _ h => nomatch h) dX11_isLetter_29
        · skip
          have c_6' : a0.toInt ≤ 90 := jb_gt_n (rfl) ((by decide)) c_6
          refine lv_iconst (v := 1) hx hb dX11_isLetter_24 (by decide) ?_
          refine lv_goto (tgt := 29) hx hb dX11_isLetter_25 (by decide) ?_
          rw [hQ]
          exact W.zret (v := 1) hx hb hr (jb_nz (Or.inr rfl)) (fun t ht hW => ⟨1, rfl, by first | exact Or.inl rfl | exact Or.inr rfl | assumption, ht⟩) (fun _ h => nomatch h) dX11_isLetter_29
set_option maxHeartbeats 4000000 in
set_option maxRecDepth 20000 in
theorem wX6_signOf (l : Launch) (dC : Nat → ClassId) (dI : Nat → Nat → Nat) (ca : Nat → ClassId) (base : Nat) (H0 : Heap) (a0 : Int32) : Met l yX6_signOf (jw yX6_signOf cX6_signOf 1 (some .int)) ({ frames := 0, cells := 0, slots := 0, locals := 0 }) (va_Pc [.int a0] (fun U => U.heap = H0 ∧ jG dC dI ca base U ∧ (True))) (vp_Si (fun r => -1 ≤ r.toInt ∧ r.toInt ≤ 63)) 0 0 (fun _ => False) := by
  refine Met.ofW (cc := cX6_signOf) (maxL := 1) (ret := (some .int)) (by decide) rfl ?_
  intro p e s m args below meth c s₁ B hml hv
  obtain ⟨rfl, hH0, hG, hpre⟩ := hv
  have hK := hG.1
  have hx := B.exec
  have hb := B.bytes
  have hr := B.returns
  have hts := atoms_spec (ws := (jw yX6_signOf cX6_signOf 1 (some .int))) B.pre
  have htw : ∀ w ∈ jWl, w.before _ s = true := fun w h => hts w (List.mem_cons_of_mem _ h)
  have hown : s.vm.findClass RX6 = some m.cls := findClass_of_methodNamed B.named
  have hlocks := B.notSynchronized
  obtain ⟨Q, hQ⟩ : ∃ Q, Q = MQ below (vp_Si (fun r => -1 ≤ r.toInt ∧ r.toInt ≤ 63)) ([.int a0] : List Value).toArray s 0 0 (fun _ => False) := ⟨_, rfl⟩
  rw [← hQ]
  have hl := lv_entry ([.int a0]) (n := 1) (Nat.le_of_ble_eq_true rfl)
  rw [lg_entry_eq]
  generalize (lg_sl ([.int a0]) ++ List.replicate (1 - (lg_sl ([.int a0])).length) Slot.unset).toArray = ls at hl ⊢
  have hl : lv_has ls 1 [(0, .int a0)] := hl
  generalize hR : (headSpec (jw yX6_signOf cX6_signOf 1 (some .int)) ({ frames := 0, cells := 0, slots := 0, locals := 0 })).room = R
  subst hH0
  have hS : va_S (jA base) s.heap s.heap [] := va_S.rf
  have hkm1 : ((-1) : Int32).toInt = (-1) := by decide
  have hk0 : (0 : Int32).toInt = 0 := by decide
  have hk1 : (1 : Int32).toInt = 1 := by decide
  have hk26 : (26 : Int32).toInt = 26 := by decide
  have hk39 : (39 : Int32).toInt = 39 := by decide
  have hk48 : (48 : Int32).toInt = 48 := by decide
  have hk52 : (52 : Int32).toInt = 52 := by decide
  have hk57 : (57 : Int32).toInt = 57 := by decide
  have hk62 : (62 : Int32).toInt = 62 := by decide
  have hk63 : (63 : Int32).toInt = 63 := by decide
  have hk65 : (65 : Int32).toInt = 65 := by decide
  have hk90 : (90 : Int32).toInt = 90 := by decide
  have hk95 : (95 : Int32).toInt = 95 := by decide
  have hk97 : (97 : Int32).toInt = 97 := by decide
  have hk122 : (122 : Int32).toInt = 122 := by decide
  refine lv_iload_n hx hb dX6_signOf_0 rfl (lv_at hl 0 rfl) ?_
  refine lv_bipush (v := 97) hx hb dX6_signOf_1 (by decide) ?_
  refine lv_icmp_lt (tgt := 17) hx hb dX6_signOf_3 (by decide) (fun c_1 => ?_) (fun c_1 => ?_)
  · skip
    have c_1' : a0.toInt < 97 := jb_lt (rfl) ((by decide)) c_1
    refine lv_iload_n hx hb dX6_signOf_17 rfl (lv_at hl 0 rfl) ?_
    refine lv_bipush (v := 65) hx hb dX6_signOf_18 (by decide) ?_
    refine lv_icmp_lt (tgt := 37) hx hb dX6_signOf_20 (by decide) (fun c_2 => ?_) (fun c_2 => ?_)
    · skip
      have c_2' : a0.toInt < 65 := jb_lt (rfl) ((by decide)) c_2
      refine lv_iload_n hx hb dX6_signOf_37 rfl (lv_at hl 0 rfl) ?_
      refine lv_bipush (v := 48) hx hb dX6_signOf_38 (by decide) ?_
      refine lv_icmp_lt (tgt := 57) hx hb dX6_signOf_40 (by decide) (fun c_3 => ?_) (fun c_3 => ?_)
      · skip
        have c_3' : a0.toInt < 48 := jb_lt (rfl) ((by decide)) c_3
        refine lv_iload_n hx hb dX6_signOf_57 rfl (lv_at hl 0 rfl) ?_
        refine lv_bipush (v := 95) hx hb dX6_signOf_58 (by decide) ?_
        refine lv_icmp_ne (tgt := 68) hx hb dX6_signOf_60 (by decide) (fun c_4 => ?_) (fun c_4 => ?_)
        · skip
          have c_4' : a0.toInt ≠ 95 := jb_ne (rfl) ((by decide)) c_4
          refine lv_iload_n hx hb dX6_signOf_68 rfl (lv_at hl 0 rfl) ?_
          refine lv_bipush (v := 39) hx hb dX6_signOf_69 (by decide) ?_
          refine lv_icmp_ne (tgt := 79) hx hb dX6_signOf_71 (by decide) (fun c_5 => ?_) (fun c_5 => ?_)
          · skip
            have c_5' : a0.toInt ≠ 39 := jb_ne (rfl) ((by decide)) c_5
            refine lv_iconst (v := (-1)) hx hb dX6_signOf_79 (by decide) ?_
            rw [hQ]
            exact W.iret (v := (-1)) hx hb hr (fun t ht hW => ⟨(-1), rfl, by first | trivial | omega | (constructor <;> omega), ht⟩) (fun _ h => nomatch h) dX6_signOf_80
          · skip
            have c_5' : a0.toInt = 39 := jb_ne_n (rfl) ((by decide)) c_5
            refine lv_bipush (v := 63) hx hb dX6_signOf_74 (by decide) ?_
            refine lv_goto (tgt := 80) hx hb dX6_signOf_76 (by decide) ?_
            rw [hQ]
            exact W.iret (v := 63) hx hb hr (fun t ht hW => ⟨63, rfl, by first | trivial | omega | (constructor <;> omega), ht⟩) (fun _ h => nomatch h) dX6_signOf_80
        · skip
          have c_4' : a0.toInt = 95 := jb_ne_n (rfl) ((by decide)) c_4
          refine lv_bipush (v := 62) hx hb dX6_signOf_63 (by decide) ?_
          refine lv_goto (tgt := 80) hx hb dX6_signOf_65 (by decide) ?_
          rw [hQ]
          exact W.iret (v := 62) hx hb hr (fun t ht hW => ⟨62, rfl, by first | trivial | omega | (constructor <;> omega), ht⟩) (fun _ h => nomatch h) dX6_signOf_80
      · skip
        have c_3' : a0.toInt ≥ 48 := jb_lt_n (rfl) ((by decide)) c_3
        refine lv_iload_n hx hb dX6_signOf_43 rfl (lv_at hl 0 rfl) ?_
        refine lv_bipush (v := 57) hx hb dX6_signOf_44 (by decide) ?_
        refine lv_icmp_gt (tgt := 57) hx hb dX6_signOf_46 (by decide) (fun c_6 => ?_) (fun c_6 => ?_)
        · skip
          have c_6' : a0.toInt > 57 := jb_gt (rfl) ((by decide)) c_6
          refine lv_iload_n hx hb dX6_signOf_57 rfl (lv_at hl 0 rfl) ?_
          refine lv_bipush (v := 95) hx hb dX6_signOf_58 (by decide) ?_
          refine lv_icmp_ne (tgt := 68) hx hb dX6_signOf_60 (by decide) (fun c_7 => ?_) (fun c_7 => ?_)
          · skip
            have c_7' : a0.toInt ≠ 95 := jb_ne (rfl) ((by decide)) c_7
            refine lv_iload_n hx hb dX6_signOf_68 rfl (lv_at hl 0 rfl) ?_
            refine lv_bipush (v := 39) hx hb dX6_signOf_69 (by decide) ?_
            refine lv_icmp_ne (tgt := 79) hx hb dX6_signOf_71 (by decide) (fun c_8 => ?_) (fun c_8 => ?_)
            · skip
              have c_8' : a0.toInt ≠ 39 := jb_ne (rfl) ((by decide)) c_8
              refine lv_iconst (v := (-1)) hx hb dX6_signOf_79 (by decide) ?_
              rw [hQ]
              exact W.iret (v := (-1)) hx hb hr (fun t ht hW => ⟨(-1), rfl, by first | trivial | omega | (constructor <;> omega), ht⟩) (fun _ h => nomatch h) dX6_signOf_80
            · skip
              have c_8' : a0.toInt = 39 := jb_ne_n (rfl) ((by decide)) c_8
              refine lv_bipush (v := 63) hx hb dX6_signOf_74 (by decide) ?_
              refine lv_goto (tgt := 80) hx hb dX6_signOf_76 (by decide) ?_
              rw [hQ]
              exact W.iret (v := 63) hx hb hr (fun t ht hW => ⟨63, rfl, by first | trivial | omega | (constructor <;> omega), ht⟩) (fun _ h => nomatch h) dX6_signOf_80
          · skip
            have c_7' : a0.toInt = 95 := jb_ne_n (rfl) ((by decide)) c_7
            refine lv_bipush (v := 62) hx hb dX6_signOf_63 (by decide) ?_
            refine lv_goto (tgt := 80) hx hb dX6_signOf_65 (by decide) ?_
            rw [hQ]
            exact W.iret (v := 62) hx hb hr (fun t ht hW => ⟨62, rfl, by first | trivial | omega | (constructor <;> omega), ht⟩) (fun _ h => nomatch h) dX6_signOf_80
        · skip
          have c_6' : a0.toInt ≤ 57 := jb_gt_n (rfl) ((by decide)) c_6
          refine lv_iload_n hx hb dX6_signOf_49 rfl (lv_at hl 0 rfl) ?_
          refine lv_bipush (v := 48) hx hb dX6_signOf_50 (by decide) ?_
          refine lv_isub hx hb dX6_signOf_52 ?_
          refine lv_topi (fun z_9 ez_9 => ?_)
          have hz_9 : z_9.toInt = a0.toInt - 48 := by rw [ez_9]; exact jb_isub (rfl) ((by decide)) (by omega) (by omega)
          refine lv_bipush (v := 52) hx hb dX6_signOf_53 (by decide) ?_
          refine lv_iadd hx hb dX6_signOf_55 ?_
          refine lv_topi (fun z_10 ez_10 => ?_)
          have hz_10 : z_10.toInt = z_9.toInt + 52 := by rw [ez_10]; exact jb_iadd (rfl) ((by decide)) (by omega) (by omega)
          rw [hQ]
          exact W.iret (v := z_10) hx hb hr (fun t ht hW => ⟨z_10, rfl, by first | trivial | omega | (constructor <;> omega), ht⟩) (fun _ h => nomatch h) dX6_signOf_56
    · skip
      have c_2' : a0.toInt ≥ 65 := jb_lt_n (rfl) ((by decide)) c_2
      refine lv_iload_n hx hb dX6_signOf_23 rfl (lv_at hl 0 rfl) ?_
      refine lv_bipush (v := 90) hx hb dX6_signOf_24 (by decide) ?_
      refine lv_icmp_gt (tgt := 37) hx hb dX6_signOf_26 (by decide) (fun c_11 => ?_) (fun c_11 => ?_)
      · skip
        have c_11' : a0.toInt > 90 := jb_gt (rfl) ((by decide)) c_11
        refine lv_iload_n hx hb dX6_signOf_37 rfl (lv_at hl 0 rfl) ?_
        refine lv_bipush (v := 48) hx hb dX6_signOf_38 (by decide) ?_
        refine lv_icmp_lt (tgt := 57) hx hb dX6_signOf_40 (by decide) (fun c_12 => ?_) (fun c_12 => ?_)
        · skip
          have c_12' : a0.toInt < 48 := jb_lt (rfl) ((by decide)) c_12
          refine lv_iload_n hx hb dX6_signOf_57 rfl (lv_at hl 0 rfl) ?_
          refine lv_bipush (v := 95) hx hb dX6_signOf_58 (by decide) ?_
          refine lv_icmp_ne (tgt := 68) hx hb dX6_signOf_60 (by decide) (fun c_13 => ?_) (fun c_13 => ?_)
          · skip
            have c_13' : a0.toInt ≠ 95 := jb_ne (rfl) ((by decide)) c_13
            refine lv_iload_n hx hb dX6_signOf_68 rfl (lv_at hl 0 rfl) ?_
            refine lv_bipush (v := 39) hx hb dX6_signOf_69 (by decide) ?_
            refine lv_icmp_ne (tgt := 79) hx hb dX6_signOf_71 (by decide) (fun c_14 => ?_) (fun c_14 => ?_)
            · skip
              have c_14' : a0.toInt ≠ 39 := jb_ne (rfl) ((by decide)) c_14
              refine lv_iconst (v := (-1)) hx hb dX6_signOf_79 (by decide) ?_
              rw [hQ]
              exact W.iret (v := (-1)) hx hb hr (fun t ht hW => ⟨(-1), rfl, by first | trivial | omega | (constructor <;> omega), ht⟩) (fun _ h => nomatch h) dX6_signOf_80
            · skip
              have c_14' : a0.toInt = 39 := jb_ne_n (rfl) ((by decide)) c_14
              refine lv_bipush (v := 63) hx hb dX6_signOf_74 (by decide) ?_
              refine lv_goto (tgt := 80) hx hb dX6_signOf_76 (by decide) ?_
              rw [hQ]
              exact W.iret (v := 63) hx hb hr (fun t ht hW => ⟨63, rfl, by first | trivial | omega | (constructor <;> omega), ht⟩) (fun _ h => nomatch h) dX6_signOf_80
          · skip
            have c_13' : a0.toInt = 95 := jb_ne_n (rfl) ((by decide)) c_13
            refine lv_bipush (v := 62) hx hb dX6_signOf_63 (by decide) ?_
            refine lv_goto (tgt := 80) hx hb dX6_signOf_65 (by decide) ?_
            rw [hQ]
            exact W.iret (v := 62) hx hb hr (fun t ht hW => ⟨62, rfl, by first | trivial | omega | (constructor <;> omega), ht⟩) (fun _ h => nomatch h) dX6_signOf_80
        · skip
          have c_12' : a0.toInt ≥ 48 := jb_lt_n (rfl) ((by decide)) c_12
          refine lv_iload_n hx hb dX6_signOf_43 rfl (lv_at hl 0 rfl) ?_
          refine lv_bipush (v := 57) hx hb dX6_signOf_44 (by decide) ?_
          refine lv_icmp_gt (tgt := 57) hx hb dX6_signOf_46 (by decide) (fun c_15 => ?_) (fun c_15 => ?_)
          · skip
            have c_15' : a0.toInt > 57 := jb_gt (rfl) ((by decide)) c_15
            refine lv_iload_n hx hb dX6_signOf_57 rfl (lv_at hl 0 rfl) ?_
            refine lv_bipush (v := 95) hx hb dX6_signOf_58 (by decide) ?_
            refine lv_icmp_ne (tgt := 68) hx hb dX6_signOf_60 (by decide) (fun c_16 => ?_) (fun c_16 => ?_)
            · skip
              have c_16' : a0.toInt ≠ 95 := jb_ne (rfl) ((by decide)) c_16
              refine lv_iload_n hx hb dX6_signOf_68 rfl (lv_at hl 0 rfl) ?_
              refine lv_bipush (v := 39) hx hb dX6_signOf_69 (by decide) ?_
              refine lv_icmp_ne (tgt := 79) hx hb dX6_signOf_71 (by decide) (fun c_17 => ?_) (fun c_17 => ?_)
              · skip
                have c_17' : a0.toInt ≠ 39 := jb_ne (rfl) ((by decide)) c_17
                refine lv_iconst (v := (-1)) hx hb dX6_signOf_79 (by decide) ?_
                rw [hQ]
                exact W.iret (v := (-1)) hx hb hr (fun t ht hW => ⟨(-1), rfl, by first | trivial | omega | (constructor <;> omega), ht⟩) (fun _ h => nomatch h) dX6_signOf_80
              · skip
                have c_17' : a0.toInt = 39 := jb_ne_n (rfl) ((by decide)) c_17
                refine lv_bipush (v := 63) hx hb dX6_signOf_74 (by decide) ?_
                refine lv_goto (tgt := 80) hx hb dX6_signOf_76 (by decide) ?_
                rw [hQ]
                exact W.iret (v := 63) hx hb hr (fun t ht hW => ⟨63, rfl, by first | trivial | omega | (constructor <;> omega), ht⟩) (fun _ h => nomatch h) dX6_signOf_80
            · skip
              have c_16' : a0.toInt = 95 := jb_ne_n (rfl) ((by decide)) c_16
              refine lv_bipush (v := 62) hx hb dX6_signOf_63 (by decide) ?_
              refine lv_goto (tgt := 80) hx hb dX6_signOf_65 (by decide) ?_
              rw [hQ]
              exact W.iret (v := 62) hx hb hr (fun t ht hW => ⟨62, rfl, by first | trivial | omega | (constructor <;> omega), ht⟩) (fun _ h => nomatch h) dX6_signOf_80
          · skip
            have c_15' : a0.toInt ≤ 57 := jb_gt_n (rfl) ((by decide)) c_15
            refine lv_iload_n hx hb dX6_signOf_49 rfl (lv_at hl 0 rfl) ?_
            refine lv_bipush (v := 48) hx hb dX6_signOf_50 (by decide) ?_
            refine lv_isub hx hb dX6_signOf_52 ?_
            refine lv_topi (fun z_18 ez_18 => ?_)
            have hz_18 : z_18.toInt = a0.toInt - 48 := by rw [ez_18]; exact jb_isub (rfl) ((by decide)) (by omega) (by omega)
            refine lv_bipush (v := 52) hx hb dX6_signOf_53 (by decide) ?_
            refine lv_iadd hx hb dX6_signOf_55 ?_
            refine lv_topi (fun z_19 ez_19 => ?_)
            have hz_19 : z_19.toInt = z_18.toInt + 52 := by rw [ez_19]; exact jb_iadd (rfl) ((by decide)) (by omega) (by omega)
            rw [hQ]
            exact W.iret (v := z_19) hx hb hr (fun t ht hW => ⟨z_19, rfl, by first | trivial | omega | (constructor <;> omega), ht⟩) (fun _ h => nomatch h) dX6_signOf_56
      · skip
        have c_11' : a0.toInt ≤ 90 := jb_gt_n (rfl) ((by decide)) c_11
        refine lv_iload_n hx hb dX6_signOf_29 rfl (lv_at hl 0 rfl) ?_
        refine lv_bipush (v := 65) hx hb dX6_signOf_30 (by decide) ?_
        refine lv_isub hx hb dX6_signOf_32 ?_
        refine lv_topi (fun z_20 ez_20 => ?_)
        have hz_20 : z_20.toInt = a0.toInt - 65 := by rw [ez_20]; exact jb_isub (rfl) ((by decide)) (by omega) (by omega)
        refine lv_bipush (v := 26) hx hb dX6_signOf_33 (by decide) ?_
        refine lv_iadd hx hb dX6_signOf_35 ?_
        refine lv_topi (fun z_21 ez_21 => ?_)
        have hz_21 : z_21.toInt = z_20.toInt + 26 := by rw [ez_21]; exact jb_iadd (rfl) ((by decide)) (by omega) (by omega)
        rw [hQ]
        exact W.iret (v := z_21) hx hb hr (fun t ht hW => ⟨z_21, rfl, by first | trivial | omega | (constructor <;> omega), ht⟩) (fun _ h => nomatch h) dX6_signOf_36
  · skip
    have c_1' : a0.toInt ≥ 97 := jb_lt_n (rfl) ((by decide)) c_1
    refine lv_iload_n hx hb dX6_signOf_6 rfl (lv_at hl 0 rfl) ?_
    refine lv_bipush (v := 122) hx hb dX6_signOf_7 (by decide) ?_
    refine lv_icmp_gt (tgt := 17) hx hb dX6_signOf_9 (by decide) (fun c_22 => ?_) (fun c_22 => ?_)
    · skip
      have c_22' : a0.toInt > 122 := jb_gt (rfl) ((by decide)) c_22
      refine lv_iload_n hx hb dX6_signOf_17 rfl (lv_at hl 0 rfl) ?_
      refine lv_bipush (v := 65) hx hb dX6_signOf_18 (by decide) ?_
      refine lv_icmp_lt (tgt := 37) hx hb dX6_signOf_20 (by decide) (fun c_23 => ?_) (fun c_23 => ?_)
      · skip
        have c_23' : a0.toInt < 65 := jb_lt (rfl) ((by decide)) c_23
        refine lv_iload_n hx hb dX6_signOf_37 rfl (lv_at hl 0 rfl) ?_
        refine lv_bipush (v := 48) hx hb dX6_signOf_38 (by decide) ?_
        refine lv_icmp_lt (tgt := 57) hx hb dX6_signOf_40 (by decide) (fun c_24 => ?_) (fun c_24 => ?_)
        · skip
          have c_24' : a0.toInt < 48 := jb_lt (rfl) ((by decide)) c_24
          refine lv_iload_n hx hb dX6_signOf_57 rfl (lv_at hl 0 rfl) ?_
          refine lv_bipush (v := 95) hx hb dX6_signOf_58 (by decide) ?_
          refine lv_icmp_ne (tgt := 68) hx hb dX6_signOf_60 (by decide) (fun c_25 => ?_) (fun c_25 => ?_)
          · skip
            have c_25' : a0.toInt ≠ 95 := jb_ne (rfl) ((by decide)) c_25
            refine lv_iload_n hx hb dX6_signOf_68 rfl (lv_at hl 0 rfl) ?_
            refine lv_bipush (v := 39) hx hb dX6_signOf_69 (by decide) ?_
            refine lv_icmp_ne (tgt := 79) hx hb dX6_signOf_71 (by decide) (fun c_26 => ?_) (fun c_26 => ?_)
            · skip
              have c_26' : a0.toInt ≠ 39 := jb_ne (rfl) ((by decide)) c_26
              refine lv_iconst (v := (-1)) hx hb dX6_signOf_79 (by decide) ?_
              rw [hQ]
              exact W.iret (v := (-1)) hx hb hr (fun t ht hW => ⟨(-1), rfl, by first | trivial | omega | (constructor <;> omega), ht⟩) (fun _ h => nomatch h) dX6_signOf_80
            · skip
              have c_26' : a0.toInt = 39 := jb_ne_n (rfl) ((by decide)) c_26
              refine lv_bipush (v := 63) hx hb dX6_signOf_74 (by decide) ?_
              refine lv_goto (tgt := 80) hx hb dX6_signOf_76 (by decide) ?_
              rw [hQ]
              exact W.iret (v := 63) hx hb hr (fun t ht hW => ⟨63, rfl, by first | trivial | omega | (constructor <;> omega), ht⟩) (fun _ h => nomatch h) dX6_signOf_80
          · skip
            have c_25' : a0.toInt = 95 := jb_ne_n (rfl) ((by decide)) c_25
            refine lv_bipush (v := 62) hx hb dX6_signOf_63 (by decide) ?_
            refine lv_goto (tgt := 80) hx hb dX6_signOf_65 (by decide) ?_
            rw [hQ]
            exact W.iret (v := 62) hx hb hr (fun t ht hW => ⟨62, rfl, by first | trivial | omega | (constructor <;> omega), ht⟩) (fun _ h => nomatch h) dX6_signOf_80
        · skip
          have c_24' : a0.toInt ≥ 48 := jb_lt_n (rfl) ((by decide)) c_24
          refine lv_iload_n hx hb dX6_signOf_43 rfl (lv_at hl 0 rfl) ?_
          refine lv_bipush (v := 57) hx hb dX6_signOf_44 (by decide) ?_
          refine lv_icmp_gt (tgt := 57) hx hb dX6_signOf_46 (by decide) (fun c_27 => ?_) (fun c_27 => ?_)
          · skip
            have c_27' : a0.toInt > 57 := jb_gt (rfl) ((by decide)) c_27
            refine lv_iload_n hx hb dX6_signOf_57 rfl (lv_at hl 0 rfl) ?_
            refine lv_bipush (v := 95) hx hb dX6_signOf_58 (by decide) ?_
            refine lv_icmp_ne (tgt := 68) hx hb dX6_signOf_60 (by decide) (fun c_28 => ?_) (fun c_28 => ?_)
            · skip
              have c_28' : a0.toInt ≠ 95 := jb_ne (rfl) ((by decide)) c_28
              refine lv_iload_n hx hb dX6_signOf_68 rfl (lv_at hl 0 rfl) ?_
              refine lv_bipush (v := 39) hx hb dX6_signOf_69 (by decide) ?_
              refine lv_icmp_ne (tgt := 79) hx hb dX6_signOf_71 (by decide) (fun c_29 => ?_) (fun c_29 => ?_)
              · skip
                have c_29' : a0.toInt ≠ 39 := jb_ne (rfl) ((by decide)) c_29
                refine lv_iconst (v := (-1)) hx hb dX6_signOf_79 (by decide) ?_
                rw [hQ]
                exact W.iret (v := (-1)) hx hb hr (fun t ht hW => ⟨(-1), rfl, by first | trivial | omega | (constructor <;> omega), ht⟩) (fun _ h => nomatch h) dX6_signOf_80
              · skip
                have c_29' : a0.toInt = 39 := jb_ne_n (rfl) ((by decide)) c_29
                refine lv_bipush (v := 63) hx hb dX6_signOf_74 (by decide) ?_
                refine lv_goto (tgt := 80) hx hb dX6_signOf_76 (by decide) ?_
                rw [hQ]
                exact W.iret (v := 63) hx hb hr (fun t ht hW => ⟨63, rfl, by first | trivial | omega | (constructor <;> omega), ht⟩) (fun _ h => nomatch h) dX6_signOf_80
            · skip
              have c_28' : a0.toInt = 95 := jb_ne_n (rfl) ((by decide)) c_28
              refine lv_bipush (v := 62) hx hb dX6_signOf_63 (by decide) ?_
              refine lv_goto (tgt := 80) hx hb dX6_signOf_65 (by decide) ?_
              rw [hQ]
              exact W.iret (v := 62) hx hb hr (fun t ht hW => ⟨62, rfl, by first | trivial | omega | (constructor <;> omega), ht⟩) (fun _ h => nomatch h) dX6_signOf_80
          · skip
            have c_27' : a0.toInt ≤ 57 := jb_gt_n (rfl) ((by decide)) c_27
            refine lv_iload_n hx hb dX6_signOf_49 rfl (lv_at hl 0 rfl) ?_
            refine lv_bipush (v := 48) hx hb dX6_signOf_50 (by decide) ?_
            refine lv_isub hx hb dX6_signOf_52 ?_
            refine lv_topi (fun z_30 ez_30 => ?_)
            have hz_30 : z_30.toInt = a0.toInt - 48 := by rw [ez_30]; exact jb_isub (rfl) ((by decide)) (by omega) (by omega)
            refine lv_bipush (v := 52) hx hb dX6_signOf_53 (by decide) ?_
            refine lv_iadd hx hb dX6_signOf_55 ?_
            refine lv_topi (fun z_31 ez_31 => ?_)
            have hz_31 : z_31.toInt = z_30.toInt + 52 := by rw [ez_31]; exact jb_iadd (rfl) ((by decide)) (by omega) (by omega)
            rw [hQ]
            exact W.iret (v := z_31) hx hb hr (fun t ht hW => ⟨z_31, rfl, by first | trivial | omega | (constructor <;> omega), ht⟩) (fun _ h => nomatch h) dX6_signOf_56
      · skip
        have c_23' : a0.toInt ≥ 65 := jb_lt_n (rfl) ((by decide)) c_23
        refine lv_iload_n hx hb dX6_signOf_23 rfl (lv_at hl 0 rfl) ?_
        refine lv_bipush (v := 90) hx hb dX6_signOf_24 (by decide) ?_
        refine lv_icmp_gt (tgt := 37) hx hb dX6_signOf_26 (by decide) (fun c_32 => ?_) (fun c_32 => ?_)
        · skip
          have c_32' : a0.toInt > 90 := jb_gt (rfl) ((by decide)) c_32
          refine lv_iload_n hx hb dX6_signOf_37 rfl (lv_at hl 0 rfl) ?_
          refine lv_bipush (v := 48) hx hb dX6_signOf_38 (by decide) ?_
          refine lv_icmp_lt (tgt := 57) hx hb dX6_signOf_40 (by decide) (fun c_33 => ?_) (fun c_33 => ?_)
          · skip
            have c_33' : a0.toInt < 48 := jb_lt (rfl) ((by decide)) c_33
            refine lv_iload_n hx hb dX6_signOf_57 rfl (lv_at hl 0 rfl) ?_
            refine lv_bipush (v := 95) hx hb dX6_signOf_58 (by decide) ?_
            refine lv_icmp_ne (tgt := 68) hx hb dX6_signOf_60 (by decide) (fun c_34 => ?_) (fun c_34 => ?_)
            · skip
              have c_34' : a0.toInt ≠ 95 := jb_ne (rfl) ((by decide)) c_34
              refine lv_iload_n hx hb dX6_signOf_68 rfl (lv_at hl 0 rfl) ?_
              refine lv_bipush (v := 39) hx hb dX6_signOf_69 (by decide) ?_
              refine lv_icmp_ne (tgt := 79) hx hb dX6_signOf_71 (by decide) (fun c_35 => ?_) (fun c_35 => ?_)
              · skip
                have c_35' : a0.toInt ≠ 39 := jb_ne (rfl) ((by decide)) c_35
                refine lv_iconst (v := (-1)) hx hb dX6_signOf_79 (by decide) ?_
                rw [hQ]
                exact W.iret (v := (-1)) hx hb hr (fun t ht hW => ⟨(-1), rfl, by first | trivial | omega | (constructor <;> omega), ht⟩) (fun _ h => nomatch h) dX6_signOf_80
              · skip
                have c_35' : a0.toInt = 39 := jb_ne_n (rfl) ((by decide)) c_35
                refine lv_bipush (v := 63) hx hb dX6_signOf_74 (by decide) ?_
                refine lv_goto (tgt := 80) hx hb dX6_signOf_76 (by decide) ?_
                rw [hQ]
                exact W.iret (v := 63) hx hb hr (fun t ht hW => ⟨63, rfl, by first | trivial | omega | (constructor <;> omega), ht⟩) (fun _ h => nomatch h) dX6_signOf_80
            · skip
              have c_34' : a0.toInt = 95 := jb_ne_n (rfl) ((by decide)) c_34
              refine lv_bipush (v := 62) hx hb dX6_signOf_63 (by decide) ?_
              refine lv_goto (tgt := 80) hx hb dX6_signOf_65 (by decide) ?_
              rw [hQ]
              exact W.iret (v := 62) hx hb hr (fun t ht hW => ⟨62, rfl, by first | trivial | omega | (constructor <;> omega), ht⟩) (fun _ h => nomatch h) dX6_signOf_80
          · skip
            have c_33' : a0.toInt ≥ 48 := jb_lt_n (rfl) ((by decide)) c_33
            refine lv_iload_n hx hb dX6_signOf_43 rfl (lv_at hl 0 rfl) ?_
            refine lv_bipush (v := 57) hx hb dX6_signOf_44 (by decide) ?_
            refine lv_icmp_gt (tgt := 57) hx hb dX6_signOf_46 (by decide) (fun c_36 => ?_) (fun c_36 => ?_)
            · skip
              have c_36' : a0.toInt > 57 := jb_gt (rfl) ((by decide)) c_36
              refine lv_iload_n hx hb dX6_signOf_57 rfl (lv_at hl 0 rfl) ?_
              refine lv_bipush (v := 95) hx hb dX6_signOf_58 (by decide) ?_
              refine lv_icmp_ne (tgt := 68) hx hb dX6_signOf_60 (by decide) (fun c_37 => ?_) (fun c_37 => ?_)
              · skip
                have c_37' : a0.toInt ≠ 95 := jb_ne (rfl) ((by decide)) c_37
                refine lv_iload_n hx hb dX6_signOf_68 rfl (lv_at hl 0 rfl) ?_
                refine lv_bipush (v := 39) hx hb dX6_signOf_69 (by decide) ?_
                refine lv_icmp_ne (tgt := 79) hx hb dX6_signOf_71 (by decide) (fun c_38 => ?_) (fun c_38 => ?_)
                · skip
                  have c_38' : a0.toInt ≠ 39 := jb_ne (rfl) ((by decide)) c_38
                  refine lv_iconst (v := (-1)) hx hb dX6_signOf_79 (by decide) ?_
                  rw [hQ]
                  exact W.iret (v := (-1)) hx hb hr (fun t ht hW => ⟨(-1), rfl, by first | trivial | omega | (constructor <;> omega), ht⟩) (fun _ h => nomatch h) dX6_signOf_80
                · skip
                  have c_38' : a0.toInt = 39 := jb_ne_n (rfl) ((by decide)) c_38
                  refine lv_bipush (v := 63) hx hb dX6_signOf_74 (by decide) ?_
                  refine lv_goto (tgt := 80) hx hb dX6_signOf_76 (by decide) ?_
                  rw [hQ]
                  exact W.iret (v := 63) hx hb hr (fun t ht hW => ⟨63, rfl, by first | trivial | omega | (constructor <;> omega), ht⟩) (fun _ h => nomatch h) dX6_signOf_80
              · skip
                have c_37' : a0.toInt = 95 := jb_ne_n (rfl) ((by decide)) c_37
                refine lv_bipush (v := 62) hx hb dX6_signOf_63 (by decide) ?_
                refine lv_goto (tgt := 80) hx hb dX6_signOf_65 (by decide) ?_
                rw [hQ]
                exact W.iret (v := 62) hx hb hr (fun t ht hW => ⟨62, rfl, by first | trivial | omega | (constructor <;> omega), ht⟩) (fun _ h => nomatch h) dX6_signOf_80
            · skip
              have c_36' : a0.toInt ≤ 57 := jb_gt_n (rfl) ((by decide)) c_36
              refine lv_iload_n hx hb dX6_signOf_49 rfl (lv_at hl 0 rfl) ?_
              refine lv_bipush (v := 48) hx hb dX6_signOf_50 (by decide) ?_
              refine lv_isub hx hb dX6_signOf_52 ?_
              refine lv_topi (fun z_39 ez_39 => ?_)
              have hz_39 : z_39.toInt = a0.toInt - 48 := by rw [ez_39]; exact jb_isub (rfl) ((by decide)) (by omega) (by omega)
              refine lv_bipush (v := 52) hx hb dX6_signOf_53 (by decide) ?_
              refine lv_iadd hx hb dX6_signOf_55 ?_
              refine lv_topi (fun z_40 ez_40 => ?_)
              have hz_40 : z_40.toInt = z_39.toInt + 52 := by rw [ez_40]; exact jb_iadd (rfl) ((by decide)) (by omega) (by omega)
              rw [hQ]
              exact W.iret (v := z_40) hx hb hr (fun t ht hW => ⟨z_40, rfl, by first | trivial | omega | (constructor <;> omega), ht⟩) (fun _ h => nomatch h) dX6_signOf_56
        · skip
          have c_32' : a0.toInt ≤ 90 := jb_gt_n (rfl) ((by decide)) c_32
          refine lv_iload_n hx hb dX6_signOf_29 rfl (lv_at hl 0 rfl) ?_
          refine lv_bipush (v := 65) hx hb dX6_signOf_30 (by decide) ?_
          refine lv_isub hx hb dX6_signOf_32 ?_
          refine lv_topi (fun z_41 ez_41 => ?_)
          have hz_41 : z_41.toInt = a0.toInt - 65 := by rw [ez_41]; exact jb_isub (rfl) ((by decide)) (by omega) (by omega)
          refine lv_bipush (v := 26) hx hb dX6_signOf_33 (by decide) ?_
          refine lv_iadd hx hb dX6_signOf_35 ?_
          refine lv_topi (fun z_42 ez_42 => ?_)
          have hz_42 : z_42.toInt = z_41.toInt + 26 := by rw [ez_42]; exact jb_iadd (rfl) ((by decide)) (by omega) (by omega)
          rw [hQ]
          exact W.iret (v := z_42) hx hb hr (fun t ht hW => ⟨z_42, rfl, by first | trivial | omega | (constructor <;> omega), ht⟩) (fun _ h => nomatch h) dX6_signOf_36
    · skip
      have c_22' : a0.toInt ≤ 122 := jb_gt_n (rfl) ((by decide)) c_22
      refine lv_iload_n hx hb dX6_signOf_12 rfl (lv_at hl 0 rfl) ?_
      refine lv_bipush (v := 97) hx hb dX6_signOf_13 (by decide) ?_
      refine lv_isub hx hb dX6_signOf_15 ?_
      refine lv_topi (fun z_43 ez_43 => ?_)
      have hz_43 : z_43.toInt = a0.toInt - 97 := by rw [ez_43]; exact jb_isub (rfl) ((by decide)) (by omega) (by omega)
      rw [hQ]
      exact W.iret (v := z_43) hx hb hr (fun t ht hW => ⟨z_43, rfl, by first | trivial | omega | (constructor <;> omega), ht⟩) (fun _ h => nomatch h) dX6_signOf_16
set_option maxHeartbeats 4000000 in
set_option maxRecDepth 20000 in
theorem wX5_areAlike (l : Launch) (dC : Nat → ClassId) (dI : Nat → Nat → Nat) (ca : Nat → ClassId) (base : Nat) (H0 : Heap) (a0 : Int32) (a1 : Int32) : Met l yX5_areAlike (jw yX5_areAlike cX5_areAlike 3 (some .boolean)) ({ frames := 0, cells := 0, slots := 0, locals := 0 }) (va_Pc [.int a0, .int a1] (fun U => U.heap = H0 ∧ jG dC dI ca base U ∧ (True))) (vp_Si (fun r => r = 0 ∨ r = 1)) 0 0 (fun _ => False) := by
  refine Met.ofW (cc := cX5_areAlike) (maxL := 3) (ret := (some .boolean)) (by decide) rfl ?_
  intro p e s m args below meth c s₁ B hml hv
  obtain ⟨rfl, hH0, hG, hpre⟩ := hv
  have hK := hG.1
  have hx := B.exec
  have hb := B.bytes
  have hr := B.returns
  have hts := atoms_spec (ws := (jw yX5_areAlike cX5_areAlike 3 (some .boolean))) B.pre
  have htw : ∀ w ∈ jWl, w.before _ s = true := fun w h => hts w (List.mem_cons_of_mem _ h)
  have hown : s.vm.findClass RX5 = some m.cls := findClass_of_methodNamed B.named
  have hlocks := B.notSynchronized
  obtain ⟨Q, hQ⟩ : ∃ Q, Q = MQ below (vp_Si (fun r => r = 0 ∨ r = 1)) ([.int a0, .int a1] : List Value).toArray s 0 0 (fun _ => False) := ⟨_, rfl⟩
  rw [← hQ]
  have hl := lv_entry ([.int a0, .int a1]) (n := 3) (Nat.le_of_ble_eq_true rfl)
  rw [lg_entry_eq]
  generalize (lg_sl ([.int a0, .int a1]) ++ List.replicate (3 - (lg_sl ([.int a0, .int a1])).length) Slot.unset).toArray = ls at hl ⊢
  have hl : lv_has ls 3 [(0, .int a0), (1, .int a1)] := hl
  generalize hR : (headSpec (jw yX5_areAlike cX5_areAlike 3 (some .boolean)) ({ frames := 0, cells := 0, slots := 0, locals := 0 })).room = R
  subst hH0
  have hS : va_S (jA base) s.heap s.heap [] := va_S.rf
  have hk0 : (0 : Int32).toInt = 0 := by decide
  have hk1 : (1 : Int32).toInt = 1 := by decide
  have hk5 : (5 : Int32).toInt = 5 := by decide
  have hk6 : (6 : Int32).toInt = 6 := by decide
  have hk15 : (15 : Int32).toInt = 15 := by decide
  refine lv_iload_n hx hb dX5_areAlike_0 rfl (lv_at hl 0 rfl) ?_
  refine lv_bipush (v := 15) hx hb dX5_areAlike_1 (by decide) ?_
  refine lv_iand hx hb dX5_areAlike_3 ?_
  refine lv_topi (fun z_1 ez_1 => ?_)
  have hz_1 : 0 ≤ z_1.toInt ∧ z_1.toInt ≤ 15 := by rw [ez_1]; exact jb_and a0 (m := 15) (k := 4) (by decide) (by decide)
  refine lv_istore_n (lv' := [(2, .int z_1), (0, .int a0), (1, .int a1)]) hx hb dX5_areAlike_4 rfl hl (by decide) rfl (fun ls hl => ?_)
  refine lv_iload_n hx hb dX5_areAlike_5 rfl (lv_at hl 1 rfl) ?_
  refine lv_iload_n hx hb dX5_areAlike_6 rfl (lv_at hl 2 rfl) ?_
  refine lv_icmp_eq (tgt := 29) hx hb dX5_areAlike_7 (by decide) (fun c_2 => ?_) (fun c_2 => ?_)
  · skip
    have c_2' : a0.toInt = a1.toInt := jb_eq (rfl) (rfl) c_2
    refine lv_iconst (v := 1) hx hb dX5_areAlike_29 (by decide) ?_
    refine lv_goto (tgt := 34) hx hb dX5_areAlike_30 (by decide) ?_
    rw [hQ]
    exact W.zret (v := 1) hx hb hr (jb_nz (Or.inr rfl)) (fun t ht hW => ⟨1, rfl, by first | exact Or.inl rfl | exact Or.inr rfl | assumption, ht⟩) (fun _ h => nomatch h) dX5_areAlike_34
  · skip
    have c_2' : a0.toInt ≠ a1.toInt := jb_eq_n (rfl) (rfl) c_2
    refine lv_iload_n hx hb dX5_areAlike_10 rfl (lv_at hl 0 rfl) ?_
    refine lv_iconst (v := 5) hx hb dX5_areAlike_11 (by decide) ?_
    refine lv_icmp_eq (tgt := 21) hx hb dX5_areAlike_12 (by decide) (fun c_3 => ?_) (fun c_3 => ?_)
    · skip
      have c_3' : z_1.toInt = 5 := jb_eq (rfl) ((by decide)) c_3
      refine lv_iload_n hx hb dX5_areAlike_21 rfl (lv_at hl 0 rfl) ?_
      refine lv_iload_n hx hb dX5_areAlike_22 rfl (lv_at hl 2 rfl) ?_
      refine lv_bipush (v := 15) hx hb dX5_areAlike_23 (by decide) ?_
      refine lv_iand hx hb dX5_areAlike_25 ?_
      refine lv_topi (fun z_4 ez_4 => ?_)
      have hz_4 : 0 ≤ z_4.toInt ∧ z_4.toInt ≤ 15 := by rw [ez_4]; exact jb_and a1 (m := 15) (k := 4) (by decide) (by decide)
      refine lv_icmp_ne (tgt := 33) hx hb dX5_areAlike_26 (by decide) (fun c_5 => ?_) (fun c_5 => ?_)
      · skip
        have c_5' : z_1.toInt ≠ z_4.toInt := jb_ne (rfl) (rfl) c_5
        refine lv_iconst (v := 0) hx hb dX5_areAlike_33 (by decide) ?_
        rw [hQ]
        exact W.zret (v := 0) hx hb hr (jb_nz (Or.inl rfl)) (fun t ht hW => ⟨0, rfl, by first | exact Or.inl rfl | exact Or.inr rfl | assumption, ht⟩) (fun _ h => nomatch h) dX5_areAlike_34
      · skip
        have c_5' : z_1.toInt = z_4.toInt := jb_ne_n (rfl) (rfl) c_5
        refine lv_iconst (v := 1) hx hb dX5_areAlike_29 (by decide) ?_
        refine lv_goto (tgt := 34) hx hb dX5_areAlike_30 (by decide) ?_
        rw [hQ]
        exact W.zret (v := 1) hx hb hr (jb_nz (Or.inr rfl)) (fun t ht hW => ⟨1, rfl, by first | exact Or.inl rfl | exact Or.inr rfl | assumption, ht⟩) (fun _ h => nomatch h) dX5_areAlike_34
    · skip
      have c_3' : z_1.toInt ≠ 5 := jb_eq_n (rfl) ((by decide)) c_3
      refine lv_iload_n hx hb dX5_areAlike_15 rfl (lv_at hl 0 rfl) ?_
      refine lv_bipush (v := 6) hx hb dX5_areAlike_16 (by decide) ?_
      refine lv_icmp_ne (tgt := 33) hx hb dX5_areAlike_18 (by decide) (fun c_6 => ?_) (fun c_6 => ?_)
      · skip
        have c_6' : z_1.toInt ≠ 6 := jb_ne (rfl) ((by decide)) c_6
        refine lv_iconst (v := 0) hx hb dX5_areAlike_33 (by decide) ?_
        rw [hQ]
        exact W.zret (v := 0) hx hb hr (jb_nz (Or.inl rfl)) (fun t ht hW => ⟨0, rfl, by first | exact Or.inl rfl | exact Or.inr rfl | assumption, ht⟩) (fun _ h => nomatch h) dX5_areAlike_34
      · skip
        have c_6' : z_1.toInt = 6 := jb_ne_n (rfl) ((by decide)) c_6
        refine lv_iload_n hx hb dX5_areAlike_21 rfl (lv_at hl 0 rfl) ?_
        refine lv_iload_n hx hb dX5_areAlike_22 rfl (lv_at hl 2 rfl) ?_
        refine lv_bipush (v := 15) hx hb dX5_areAlike_23 (by decide) ?_
        refine lv_iand hx hb dX5_areAlike_25 ?_
        refine lv_topi (fun z_7 ez_7 => ?_)
        have hz_7 : 0 ≤ z_7.toInt ∧ z_7.toInt ≤ 15 := by rw [ez_7]; exact jb_and a1 (m := 15) (k := 4) (by decide) (by decide)
        refine lv_icmp_ne (tgt := 33) hx hb dX5_areAlike_26 (by decide) (fun c_8 => ?_) (fun c_8 => ?_)
        · skip
          have c_8' : z_1.toInt ≠ z_7.toInt := jb_ne (rfl) (rfl) c_8
          refine lv_iconst (v := 0) hx hb dX5_areAlike_33 (by decide) ?_
          rw [hQ]
          exact W.zret (v := 0) hx hb hr (jb_nz (Or.inl rfl)) (fun t ht hW => ⟨0, rfl, by first | exact Or.inl rfl | exact Or.inr rfl | assumption, ht⟩) (fun _ h => nomatch h) dX5_areAlike_34
        · skip
          have c_8' : z_1.toInt = z_7.toInt := jb_ne_n (rfl) (rfl) c_8
          refine lv_iconst (v := 1) hx hb dX5_areAlike_29 (by decide) ?_
          refine lv_goto (tgt := 34) hx hb dX5_areAlike_30 (by decide) ?_
          rw [hQ]
          exact W.zret (v := 1) hx hb hr (jb_nz (Or.inr rfl)) (fun t ht hW => ⟨1, rfl, by first | exact Or.inl rfl | exact Or.inr rfl | assumption, ht⟩) (fun _ h => nomatch h) dX5_areAlike_34
end
section
theorem dX6_numberOf_0 : decode cX6_numberOf 0 = .ok (.iload_n 2, 1) := by decide +kernel
theorem dX6_numberOf_1 : decode cX6_numberOf 1 = .ok (.ifCond .lt 31, 3) := by decide +kernel
theorem dX6_numberOf_4 : decode cX6_numberOf 4 = .ok (.iload_n 3, 1) := by decide +kernel
theorem dX6_numberOf_5 : decode cX6_numberOf 5 = .ok (.aload_n 1, 1) := by decide +kernel
theorem dX6_numberOf_6 : decode cX6_numberOf 6 = .ok (.arraylength, 1) := by decide +kernel
theorem dX6_numberOf_7 : decode cX6_numberOf 7 = .ok (.if_icmp .gt 25, 3) := by decide +kernel
theorem dX6_numberOf_10 : decode cX6_numberOf 10 = .ok (.iload_n 2, 1) := by decide +kernel
theorem dX6_numberOf_11 : decode cX6_numberOf 11 = .ok (.iload_n 3, 1) := by decide +kernel
theorem dX6_numberOf_12 : decode cX6_numberOf 12 = .ok (.if_icmp .ge 20, 3) := by decide +kernel
theorem dX6_numberOf_15 : decode cX6_numberOf 15 = .ok (.iload_n 3, 1) := by decide +kernel
theorem dX6_numberOf_16 : decode cX6_numberOf 16 = .ok (.iload_n 2, 1) := by decide +kernel
theorem dX6_numberOf_17 : decode cX6_numberOf 17 = .ok (.isub, 1) := by decide +kernel
theorem dX6_numberOf_18 : decode cX6_numberOf 18 = .ok (.bipush 10, 2) := by decide +kernel
theorem dX6_numberOf_20 : decode cX6_numberOf 20 = .ok (.if_icmp .gt 12, 3) := by decide +kernel
theorem dX6_numberOf_23 : decode cX6_numberOf 23 = .ok (.aload_n 1, 1) := by decide +kernel
theorem dX6_numberOf_24 : decode cX6_numberOf 24 = .ok (.iload_n 2, 1) := by decide +kernel
theorem dX6_numberOf_25 : decode cX6_numberOf 25 = .ok (.iaload, 1) := by decide +kernel
theorem dX6_numberOf_26 : decode cX6_numberOf 26 = .ok (.invokestatic 38, 3) := by decide +kernel
theorem dX6_numberOf_29 : decode cX6_numberOf 29 = .ok (.ifCond .ne 5, 3) := by decide +kernel
theorem dX6_numberOf_32 : decode cX6_numberOf 32 = .ok (.iconst (-1), 1) := by decide +kernel
theorem dX6_numberOf_33 : decode cX6_numberOf 33 = .ok (.ireturn, 1) := by decide +kernel
theorem dX6_numberOf_34 : decode cX6_numberOf 34 = .ok (.iload_n 3, 1) := by decide +kernel
theorem dX6_numberOf_35 : decode cX6_numberOf 35 = .ok (.istore 5, 2) := by decide +kernel
theorem dX6_numberOf_37 : decode cX6_numberOf 37 = .ok (.iload 5, 2) := by decide +kernel
theorem dX6_numberOf_39 : decode cX6_numberOf 39 = .ok (.iload_n 2, 1) := by decide +kernel
theorem dX6_numberOf_40 : decode cX6_numberOf 40 = .ok (.if_icmp .le 20, 3) := by decide +kernel
theorem dX6_numberOf_43 : decode cX6_numberOf 43 = .ok (.aload_n 1, 1) := by decide +kernel
theorem dX6_numberOf_44 : decode cX6_numberOf 44 = .ok (.iload 5, 2) := by decide +kernel
theorem dX6_numberOf_46 : decode cX6_numberOf 46 = .ok (.iconst 1, 1) := by decide +kernel
theorem dX6_numberOf_47 : decode cX6_numberOf 47 = .ok (.isub, 1) := by decide +kernel
theorem dX6_numberOf_48 : decode cX6_numberOf 48 = .ok (.iaload, 1) := by decide +kernel
theorem dX6_numberOf_49 : decode cX6_numberOf 49 = .ok (.bipush 39, 2) := by decide +kernel
theorem dX6_numberOf_51 : decode cX6_numberOf 51 = .ok (.if_icmp .ne 9, 3) := by decide +kernel
theorem dX6_numberOf_54 : decode cX6_numberOf 54 = .ok (.iinc 5 (-1), 3) := by decide +kernel
theorem dX6_numberOf_57 : decode cX6_numberOf 57 = .ok (.goto (-20), 3) := by decide +kernel
theorem dX6_numberOf_60 : decode cX6_numberOf 60 = .ok (.lconst 1, 1) := by decide +kernel
theorem dX6_numberOf_61 : decode cX6_numberOf 61 = .ok (.lstore 6, 2) := by decide +kernel
theorem dX6_numberOf_63 : decode cX6_numberOf 63 = .ok (.iload 5, 2) := by decide +kernel
theorem dX6_numberOf_65 : decode cX6_numberOf 65 = .ok (.iconst 1, 1) := by decide +kernel
theorem dX6_numberOf_66 : decode cX6_numberOf 66 = .ok (.isub, 1) := by decide +kernel
theorem dX6_numberOf_67 : decode cX6_numberOf 67 = .ok (.istore 8, 2) := by decide +kernel
theorem dX6_numberOf_69 : decode cX6_numberOf 69 = .ok (.iload 8, 2) := by decide +kernel
theorem dX6_numberOf_71 : decode cX6_numberOf 71 = .ok (.iload_n 2, 1) := by decide +kernel
theorem dX6_numberOf_72 : decode cX6_numberOf 72 = .ok (.if_icmp .lt 36, 3) := by decide +kernel
theorem dX6_numberOf_75 : decode cX6_numberOf 75 = .ok (.aload_n 1, 1) := by decide +kernel
theorem dX6_numberOf_76 : decode cX6_numberOf 76 = .ok (.iload 8, 2) := by decide +kernel
theorem dX6_numberOf_78 : decode cX6_numberOf 78 = .ok (.iaload, 1) := by decide +kernel
theorem dX6_numberOf_79 : decode cX6_numberOf 79 = .ok (.invokestatic 42, 3) := by decide +kernel
theorem dX6_numberOf_82 : decode cX6_numberOf 82 = .ok (.istore 9, 2) := by decide +kernel
theorem dX6_numberOf_84 : decode cX6_numberOf 84 = .ok (.iload 9, 2) := by decide +kernel
theorem dX6_numberOf_86 : decode cX6_numberOf 86 = .ok (.ifCond .ge 5, 3) := by decide +kernel
theorem dX6_numberOf_89 : decode cX6_numberOf 89 = .ok (.iconst (-1), 1) := by decide +kernel
theorem dX6_numberOf_90 : decode cX6_numberOf 90 = .ok (.ireturn, 1) := by decide +kernel
theorem dX6_numberOf_91 : decode cX6_numberOf 91 = .ok (.lload 6, 2) := by decide +kernel
theorem dX6_numberOf_93 : decode cX6_numberOf 93 = .ok (.bipush 6, 2) := by decide +kernel
theorem dX6_numberOf_95 : decode cX6_numberOf 95 = .ok (.lshl, 1) := by decide +kernel
theorem dX6_numberOf_96 : decode cX6_numberOf 96 = .ok (.iload 9, 2) := by decide +kernel
theorem dX6_numberOf_98 : decode cX6_numberOf 98 = .ok (.i2l, 1) := by decide +kernel
theorem dX6_numberOf_99 : decode cX6_numberOf 99 = .ok (.lor, 1) := by decide +kernel
theorem dX6_numberOf_100 : decode cX6_numberOf 100 = .ok (.lstore 6, 2) := by decide +kernel
theorem dX6_numberOf_102 : decode cX6_numberOf 102 = .ok (.iinc 8 (-1), 3) := by decide +kernel
theorem dX6_numberOf_105 : decode cX6_numberOf 105 = .ok (.goto (-36), 3) := by decide +kernel
theorem dX6_numberOf_108 : decode cX6_numberOf 108 = .ok (.aload_n 0, 1) := by decide +kernel
theorem dX6_numberOf_109 : decode cX6_numberOf 109 = .ok (.lload 6, 2) := by decide +kernel
theorem dX6_numberOf_111 : decode cX6_numberOf 111 = .ok (.iload_n 3, 1) := by decide +kernel
theorem dX6_numberOf_112 : decode cX6_numberOf 112 = .ok (.iload 5, 2) := by decide +kernel
theorem dX6_numberOf_114 : decode cX6_numberOf 114 = .ok (.isub, 1) := by decide +kernel
theorem dX6_numberOf_115 : decode cX6_numberOf 115 = .ok (.iload 4, 2) := by decide +kernel
theorem dX6_numberOf_117 : decode cX6_numberOf 117 = .ok (.invokevirtual 46, 3) := by decide +kernel
theorem dX6_numberOf_120 : decode cX6_numberOf 120 = .ok (.ireturn, 1) := by decide +kernel
theorem dX6_find_0 : decode cX6_find 0 = .ok (.lload_n 1, 1) := by decide +kernel
theorem dX6_find_1 : decode cX6_find 1 = .ok (.ldc2_w 50, 3) := by decide +kernel
theorem dX6_find_4 : decode cX6_find 4 = .ok (.lmul, 1) := by decide +kernel
theorem dX6_find_5 : decode cX6_find 5 = .ok (.bipush 40, 2) := by decide +kernel
theorem dX6_find_7 : decode cX6_find 7 = .ok (.lushr, 1) := by decide +kernel
theorem dX6_find_8 : decode cX6_find 8 = .ok (.l2i, 1) := by decide +kernel
theorem dX6_find_9 : decode cX6_find 9 = .ok (.bipush 31, 2) := by decide +kernel
theorem dX6_find_11 : decode cX6_find 11 = .ok (.iload_n 3, 1) := by decide +kernel
theorem dX6_find_12 : decode cX6_find 12 = .ok (.imul, 1) := by decide +kernel
theorem dX6_find_13 : decode cX6_find 13 = .ok (.iadd, 1) := by decide +kernel
theorem dX6_find_14 : decode cX6_find 14 = .ok (.istore 5, 2) := by decide +kernel
theorem dX6_find_16 : decode cX6_find 16 = .ok (.iconst 0, 1) := by decide +kernel
theorem dX6_find_17 : decode cX6_find 17 = .ok (.istore 6, 2) := by decide +kernel
theorem dX6_find_19 : decode cX6_find 19 = .ok (.iload 6, 2) := by decide +kernel
theorem dX6_find_21 : decode cX6_find 21 = .ok (.sipush 16384, 3) := by decide +kernel
theorem dX6_find_24 : decode cX6_find 24 = .ok (.if_icmp .ge 127, 3) := by decide +kernel
theorem dX6_find_27 : decode cX6_find 27 = .ok (.iload 5, 2) := by decide +kernel
theorem dX6_find_29 : decode cX6_find 29 = .ok (.iload 6, 2) := by decide +kernel
theorem dX6_find_31 : decode cX6_find 31 = .ok (.iadd, 1) := by decide +kernel
theorem dX6_find_32 : decode cX6_find 32 = .ok (.sipush 16383, 3) := by decide +kernel
theorem dX6_find_35 : decode cX6_find 35 = .ok (.iand, 1) := by decide +kernel
theorem dX6_find_36 : decode cX6_find 36 = .ok (.istore 7, 2) := by decide +kernel
theorem dX6_find_38 : decode cX6_find 38 = .ok (.aload_n 0, 1) := by decide +kernel
theorem dX6_find_39 : decode cX6_find 39 = .ok (.getfield 19, 3) := by decide +kernel
theorem dX6_find_42 : decode cX6_find 42 = .ok (.iload 7, 2) := by decide +kernel
theorem dX6_find_44 : decode cX6_find 44 = .ok (.iaload, 1) := by decide +kernel
theorem dX6_find_45 : decode cX6_find 45 = .ok (.iconst 1, 1) := by decide +kernel
theorem dX6_find_46 : decode cX6_find 46 = .ok (.isub, 1) := by decide +kernel
theorem dX6_find_47 : decode cX6_find 47 = .ok (.istore 8, 2) := by decide +kernel
theorem dX6_find_49 : decode cX6_find 49 = .ok (.iload 8, 2) := by decide +kernel
theorem dX6_find_51 : decode cX6_find 51 = .ok (.ifCond .ge 68, 3) := by decide +kernel
theorem dX6_find_54 : decode cX6_find 54 = .ok (.iload 4, 2) := by decide +kernel
theorem dX6_find_56 : decode cX6_find 56 = .ok (.ifCond .eq 13, 3) := by decide +kernel
theorem dX6_find_59 : decode cX6_find 59 = .ok (.aload_n 0, 1) := by decide +kernel
theorem dX6_find_60 : decode cX6_find 60 = .ok (.getfield 52, 3) := by decide +kernel
theorem dX6_find_63 : decode cX6_find 63 = .ok (.sipush 8192, 3) := by decide +kernel
theorem dX6_find_66 : decode cX6_find 66 = .ok (.if_icmp .lt 5, 3) := by decide +kernel
theorem dX6_find_69 : decode cX6_find 69 = .ok (.iconst (-1), 1) := by decide +kernel
theorem dX6_find_70 : decode cX6_find 70 = .ok (.ireturn, 1) := by decide +kernel
theorem dX6_find_71 : decode cX6_find 71 = .ok (.aload_n 0, 1) := by decide +kernel
theorem dX6_find_72 : decode cX6_find 72 = .ok (.getfield 11, 3) := by decide +kernel
theorem dX6_find_75 : decode cX6_find 75 = .ok (.aload_n 0, 1) := by decide +kernel
theorem dX6_find_76 : decode cX6_find 76 = .ok (.getfield 52, 3) := by decide +kernel
theorem dX6_find_79 : decode cX6_find 79 = .ok (.lload_n 1, 1) := by decide +kernel
theorem dX6_find_80 : decode cX6_find 80 = .ok (.lastore, 1) := by decide +kernel
theorem dX6_find_81 : decode cX6_find 81 = .ok (.aload_n 0, 1) := by decide +kernel
theorem dX6_find_82 : decode cX6_find 82 = .ok (.getfield 15, 3) := by decide +kernel
theorem dX6_find_85 : decode cX6_find 85 = .ok (.aload_n 0, 1) := by decide +kernel
theorem dX6_find_86 : decode cX6_find 86 = .ok (.getfield 52, 3) := by decide +kernel
theorem dX6_find_89 : decode cX6_find 89 = .ok (.iload_n 3, 1) := by decide +kernel
theorem dX6_find_90 : decode cX6_find 90 = .ok (.iastore, 1) := by decide +kernel
theorem dX6_find_91 : decode cX6_find 91 = .ok (.aload_n 0, 1) := by decide +kernel
theorem dX6_find_92 : decode cX6_find 92 = .ok (.dup, 1) := by decide +kernel
theorem dX6_find_93 : decode cX6_find 93 = .ok (.getfield 52, 3) := by decide +kernel
theorem dX6_find_96 : decode cX6_find 96 = .ok (.iconst 1, 1) := by decide +kernel
theorem dX6_find_97 : decode cX6_find 97 = .ok (.iadd, 1) := by decide +kernel
theorem dX6_find_98 : decode cX6_find 98 = .ok (.putfield 52, 3) := by decide +kernel
theorem dX6_find_101 : decode cX6_find 101 = .ok (.aload_n 0, 1) := by decide +kernel
theorem dX6_find_102 : decode cX6_find 102 = .ok (.getfield 19, 3) := by decide +kernel
theorem dX6_find_105 : decode cX6_find 105 = .ok (.iload 7, 2) := by decide +kernel
theorem dX6_find_107 : decode cX6_find 107 = .ok (.aload_n 0, 1) := by decide +kernel
theorem dX6_find_108 : decode cX6_find 108 = .ok (.getfield 52, 3) := by decide +kernel
theorem dX6_find_111 : decode cX6_find 111 = .ok (.iastore, 1) := by decide +kernel
theorem dX6_find_112 : decode cX6_find 112 = .ok (.aload_n 0, 1) := by decide +kernel
theorem dX6_find_113 : decode cX6_find 113 = .ok (.getfield 52, 3) := by decide +kernel
theorem dX6_find_116 : decode cX6_find 116 = .ok (.iconst 1, 1) := by decide +kernel
theorem dX6_find_117 : decode cX6_find 117 = .ok (.isub, 1) := by decide +kernel
theorem dX6_find_118 : decode cX6_find 118 = .ok (.ireturn, 1) := by decide +kernel
theorem dX6_find_119 : decode cX6_find 119 = .ok (.aload_n 0, 1) := by decide +kernel
theorem dX6_find_120 : decode cX6_find 120 = .ok (.getfield 11, 3) := by decide +kernel
theorem dX6_find_123 : decode cX6_find 123 = .ok (.iload 8, 2) := by decide +kernel
theorem dX6_find_125 : decode cX6_find 125 = .ok (.laload, 1) := by decide +kernel
theorem dX6_find_126 : decode cX6_find 126 = .ok (.lload_n 1, 1) := by decide +kernel
theorem dX6_find_127 : decode cX6_find 127 = .ok (.lcmp, 1) := by decide +kernel
theorem dX6_find_128 : decode cX6_find 128 = .ok (.ifCond .ne 17, 3) := by decide +kernel
theorem dX6_find_131 : decode cX6_find 131 = .ok (.aload_n 0, 1) := by decide +kernel
theorem dX6_find_132 : decode cX6_find 132 = .ok (.getfield 15, 3) := by decide +kernel
theorem dX6_find_135 : decode cX6_find 135 = .ok (.iload 8, 2) := by decide +kernel
theorem dX6_find_137 : decode cX6_find 137 = .ok (.iaload, 1) := by decide +kernel
theorem dX6_find_138 : decode cX6_find 138 = .ok (.iload_n 3, 1) := by decide +kernel
theorem dX6_find_139 : decode cX6_find 139 = .ok (.if_icmp .ne 6, 3) := by decide +kernel
theorem dX6_find_142 : decode cX6_find 142 = .ok (.iload 8, 2) := by decide +kernel
theorem dX6_find_144 : decode cX6_find 144 = .ok (.ireturn, 1) := by decide +kernel
theorem dX6_find_145 : decode cX6_find 145 = .ok (.iinc 6 1, 3) := by decide +kernel
theorem dX6_find_148 : decode cX6_find 148 = .ok (.goto (-129), 3) := by decide +kernel
theorem dX6_find_151 : decode cX6_find 151 = .ok (.iconst (-1), 1) := by decide +kernel
theorem dX6_find_152 : decode cX6_find 152 = .ok (.ireturn, 1) := by decide +kernel
theorem dX10_scan_0 : decode cX10_scan 0 = .ok (.aload_n 0, 1) := by decide +kernel
theorem dX10_scan_1 : decode cX10_scan 1 = .ok (.iconst 0, 1) := by decide +kernel
theorem dX10_scan_2 : decode cX10_scan 2 = .ok (.putfield 28, 3) := by decide +kernel
theorem dX10_scan_5 : decode cX10_scan 5 = .ok (.iload_n 3, 1) := by decide +kernel
theorem dX10_scan_6 : decode cX10_scan 6 = .ok (.aload_n 1, 1) := by decide +kernel
theorem dX10_scan_7 : decode cX10_scan 7 = .ok (.arraylength, 1) := by decide +kernel
theorem dX10_scan_8 : decode cX10_scan 8 = .ok (.invokestatic 32, 3) := by decide +kernel
theorem dX10_scan_11 : decode cX10_scan 11 = .ok (.istore 4, 2) := by decide +kernel
theorem dX10_scan_13 : decode cX10_scan 13 = .ok (.iload_n 2, 1) := by decide +kernel
theorem dX10_scan_14 : decode cX10_scan 14 = .ok (.iconst 0, 1) := by decide +kernel
theorem dX10_scan_15 : decode cX10_scan 15 = .ok (.invokestatic 38, 3) := by decide +kernel
theorem dX10_scan_18 : decode cX10_scan 18 = .ok (.istore 5, 2) := by decide +kernel
theorem dX10_scan_20 : decode cX10_scan 20 = .ok (.iload 5, 2) := by decide +kernel
theorem dX10_scan_22 : decode cX10_scan 22 = .ok (.iload 4, 2) := by decide +kernel
theorem dX10_scan_24 : decode cX10_scan 24 = .ok (.if_icmp .ge 216, 3) := by decide +kernel
theorem dX10_scan_27 : decode cX10_scan 27 = .ok (.iload 5, 2) := by decide +kernel
theorem dX10_scan_29 : decode cX10_scan 29 = .ok (.iconst 1, 1) := by decide +kernel
theorem dX10_scan_30 : decode cX10_scan 30 = .ok (.iadd, 1) := by decide +kernel
theorem dX10_scan_31 : decode cX10_scan 31 = .ok (.istore 6, 2) := by decide +kernel
theorem dX10_scan_33 : decode cX10_scan 33 = .ok (.aload_n 1, 1) := by decide +kernel
theorem dX10_scan_34 : decode cX10_scan 34 = .ok (.iload 5, 2) := by decide +kernel
theorem dX10_scan_36 : decode cX10_scan 36 = .ok (.iload 4, 2) := by decide +kernel
theorem dX10_scan_38 : decode cX10_scan 38 = .ok (.invokestatic 41, 3) := by decide +kernel
theorem dX10_scan_41 : decode cX10_scan 41 = .ok (.ifCond .eq 16, 3) := by decide +kernel
theorem dX10_scan_44 : decode cX10_scan 44 = .ok (.aload_n 1, 1) := by decide +kernel
theorem dX10_scan_45 : decode cX10_scan 45 = .ok (.iload 5, 2) := by decide +kernel
theorem dX10_scan_47 : decode cX10_scan 47 = .ok (.iload 4, 2) := by decide +kernel
theorem dX10_scan_49 : decode cX10_scan 49 = .ok (.invokestatic 45, 3) := by decide +kernel
theorem dX10_scan_52 : decode cX10_scan 52 = .ok (.istore 6, 2) := by decide +kernel
theorem dX10_scan_54 : decode cX10_scan 54 = .ok (.goto 172, 3) := by decide +kernel
theorem dX10_scan_57 : decode cX10_scan 57 = .ok (.aload_n 1, 1) := by decide +kernel
theorem dX10_scan_58 : decode cX10_scan 58 = .ok (.iload 5, 2) := by decide +kernel
theorem dX10_scan_60 : decode cX10_scan 60 = .ok (.iaload, 1) := by decide +kernel
theorem dX10_scan_61 : decode cX10_scan 61 = .ok (.invokestatic 49, 3) := by decide +kernel
theorem dX10_scan_64 : decode cX10_scan 64 = .ok (.ifCond .eq 17, 3) := by decide +kernel
theorem dX10_scan_67 : decode cX10_scan 67 = .ok (.aload_n 0, 1) := by decide +kernel
theorem dX10_scan_68 : decode cX10_scan 68 = .ok (.aload_n 1, 1) := by decide +kernel
theorem dX10_scan_69 : decode cX10_scan 69 = .ok (.iload 5, 2) := by decide +kernel
theorem dX10_scan_71 : decode cX10_scan 71 = .ok (.iload 4, 2) := by decide +kernel
theorem dX10_scan_73 : decode cX10_scan 73 = .ok (.invokevirtual 53, 3) := by decide +kernel
theorem dX10_scan_76 : decode cX10_scan 76 = .ok (.istore 6, 2) := by decide +kernel
theorem dX10_scan_78 : decode cX10_scan 78 = .ok (.goto 148, 3) := by decide +kernel
theorem dX10_scan_81 : decode cX10_scan 81 = .ok (.aload_n 1, 1) := by decide +kernel
theorem dX10_scan_82 : decode cX10_scan 82 = .ok (.iload 5, 2) := by decide +kernel
theorem dX10_scan_84 : decode cX10_scan 84 = .ok (.iaload, 1) := by decide +kernel
theorem dX10_scan_85 : decode cX10_scan 85 = .ok (.bipush 45, 2) := by decide +kernel
theorem dX10_scan_87 : decode cX10_scan 87 = .ok (.if_icmp .ne 39, 3) := by decide +kernel
theorem dX10_scan_90 : decode cX10_scan 90 = .ok (.iload 5, 2) := by decide +kernel
theorem dX10_scan_92 : decode cX10_scan 92 = .ok (.iconst 1, 1) := by decide +kernel
theorem dX10_scan_93 : decode cX10_scan 93 = .ok (.iadd, 1) := by decide +kernel
theorem dX10_scan_94 : decode cX10_scan 94 = .ok (.iload 4, 2) := by decide +kernel
theorem dX10_scan_96 : decode cX10_scan 96 = .ok (.if_icmp .ge 30, 3) := by decide +kernel
theorem dX10_scan_99 : decode cX10_scan 99 = .ok (.aload_n 1, 1) := by decide +kernel
theorem dX10_scan_100 : decode cX10_scan 100 = .ok (.iload 5, 2) := by decide +kernel
theorem dX10_scan_102 : decode cX10_scan 102 = .ok (.iconst 1, 1) := by decide +kernel
theorem dX10_scan_103 : decode cX10_scan 103 = .ok (.iadd, 1) := by decide +kernel
theorem dX10_scan_104 : decode cX10_scan 104 = .ok (.iaload, 1) := by decide +kernel
theorem dX10_scan_105 : decode cX10_scan 105 = .ok (.bipush 62, 2) := by decide +kernel
theorem dX10_scan_107 : decode cX10_scan 107 = .ok (.if_icmp .ne 19, 3) := by decide +kernel
theorem dX10_scan_110 : decode cX10_scan 110 = .ok (.aload_n 0, 1) := by decide +kernel
theorem dX10_scan_111 : decode cX10_scan 111 = .ok (.bipush 62, 2) := by decide +kernel
theorem dX10_scan_113 : decode cX10_scan 113 = .ok (.iconst 0, 1) := by decide +kernel
theorem dX10_scan_114 : decode cX10_scan 114 = .ok (.invokevirtual 56, 3) := by decide +kernel
theorem dX10_scan_117 : decode cX10_scan 117 = .ok (.iload 5, 2) := by decide +kernel
theorem dX10_scan_119 : decode cX10_scan 119 = .ok (.iconst 2, 1) := by decide +kernel
theorem dX10_scan_120 : decode cX10_scan 120 = .ok (.iadd, 1) := by decide +kernel
theorem dX10_scan_121 : decode cX10_scan 121 = .ok (.istore 6, 2) := by decide +kernel
theorem dX10_scan_123 : decode cX10_scan 123 = .ok (.goto 103, 3) := by decide +kernel
theorem dX10_scan_126 : decode cX10_scan 126 = .ok (.aload_n 1, 1) := by decide +kernel
theorem dX10_scan_127 : decode cX10_scan 127 = .ok (.iload 5, 2) := by decide +kernel
theorem dX10_scan_129 : decode cX10_scan 129 = .ok (.iaload, 1) := by decide +kernel
theorem dX10_scan_130 : decode cX10_scan 130 = .ok (.invokestatic 60, 3) := by decide +kernel
theorem dX10_scan_133 : decode cX10_scan 133 = .ok (.ifCond .eq 19, 3) := by decide +kernel
theorem dX10_scan_136 : decode cX10_scan 136 = .ok (.aload_n 0, 1) := by decide +kernel
theorem dX10_scan_137 : decode cX10_scan 137 = .ok (.bipush 100, 2) := by decide +kernel
theorem dX10_scan_139 : decode cX10_scan 139 = .ok (.aload_n 1, 1) := by decide +kernel
theorem dX10_scan_140 : decode cX10_scan 140 = .ok (.iload 5, 2) := by decide +kernel
theorem dX10_scan_142 : decode cX10_scan 142 = .ok (.iaload, 1) := by decide +kernel
theorem dX10_scan_143 : decode cX10_scan 143 = .ok (.bipush 48, 2) := by decide +kernel
theorem dX10_scan_145 : decode cX10_scan 145 = .ok (.isub, 1) := by decide +kernel
theorem dX10_scan_146 : decode cX10_scan 146 = .ok (.invokevirtual 56, 3) := by decide +kernel
theorem dX10_scan_149 : decode cX10_scan 149 = .ok (.goto 77, 3) := by decide +kernel
theorem dX10_scan_152 : decode cX10_scan 152 = .ok (.aload_n 1, 1) := by decide +kernel
theorem dX10_scan_153 : decode cX10_scan 153 = .ok (.iload 5, 2) := by decide +kernel
theorem dX10_scan_155 : decode cX10_scan 155 = .ok (.iaload, 1) := by decide +kernel
theorem dX10_scan_156 : decode cX10_scan 156 = .ok (.invokestatic 63, 3) := by decide +kernel
theorem dX10_scan_159 : decode cX10_scan 159 = .ok (.ifCond .ne 67, 3) := by decide +kernel
theorem dX10_scan_162 : decode cX10_scan 162 = .ok (.aload_n 1, 1) := by decide +kernel
theorem dX10_scan_163 : decode cX10_scan 163 = .ok (.iload 5, 2) := by decide +kernel
theorem dX10_scan_165 : decode cX10_scan 165 = .ok (.iaload, 1) := by decide +kernel
theorem dX10_scan_166 : decode cX10_scan 166 = .ok (.bipush 46, 2) := by decide +kernel
theorem dX10_scan_168 : decode cX10_scan 168 = .ok (.if_icmp .ne 10, 3) := by decide +kernel
theorem dX10_scan_171 : decode cX10_scan 171 = .ok (.iload 6, 2) := by decide +kernel
theorem dX10_scan_173 : decode cX10_scan 173 = .ok (.iload 4, 2) := by decide +kernel
theorem dX10_scan_175 : decode cX10_scan 175 = .ok (.if_icmp .eq 26, 3) := by decide +kernel
theorem dX10_scan_178 : decode cX10_scan 178 = .ok (.aload_n 1, 1) := by decide +kernel
theorem dX10_scan_179 : decode cX10_scan 179 = .ok (.iload 5, 2) := by decide +kernel
theorem dX10_scan_181 : decode cX10_scan 181 = .ok (.iaload, 1) := by decide +kernel
theorem dX10_scan_182 : decode cX10_scan 182 = .ok (.sipush 128, 3) := by decide +kernel
theorem dX10_scan_185 : decode cX10_scan 185 = .ok (.if_icmp .ge 20, 3) := by decide +kernel
theorem dX10_scan_188 : decode cX10_scan 188 = .ok (.ldc 66, 2) := by decide +kernel
theorem dX10_scan_190 : decode cX10_scan 190 = .ok (.aload_n 1, 1) := by decide +kernel
theorem dX10_scan_191 : decode cX10_scan 191 = .ok (.iload 5, 2) := by decide +kernel
theorem dX10_scan_193 : decode cX10_scan 193 = .ok (.iaload, 1) := by decide +kernel
theorem dX10_scan_194 : decode cX10_scan 194 = .ok (.i2c, 1) := by decide +kernel
theorem dX10_scan_195 : decode cX10_scan 195 = .ok (.invokevirtual 68, 3) := by decide +kernel
theorem dX10_scan_198 : decode cX10_scan 198 = .ok (.ifCond .lt 7, 3) := by decide +kernel
theorem dX10_scan_201 : decode cX10_scan 201 = .ok (.iconst 1, 1) := by decide +kernel
theorem dX10_scan_202 : decode cX10_scan 202 = .ok (.goto 4, 3) := by decide +kernel
theorem dX10_scan_205 : decode cX10_scan 205 = .ok (.iconst 0, 1) := by decide +kernel
theorem dX10_scan_206 : decode cX10_scan 206 = .ok (.istore 7, 2) := by decide +kernel
theorem dX10_scan_208 : decode cX10_scan 208 = .ok (.aload_n 0, 1) := by decide +kernel
theorem dX10_scan_209 : decode cX10_scan 209 = .ok (.iload 7, 2) := by decide +kernel
theorem dX10_scan_211 : decode cX10_scan 211 = .ok (.ifCond .eq 10, 3) := by decide +kernel
theorem dX10_scan_214 : decode cX10_scan 214 = .ok (.aload_n 1, 1) := by decide +kernel
theorem dX10_scan_215 : decode cX10_scan 215 = .ok (.iload 5, 2) := by decide +kernel
theorem dX10_scan_217 : decode cX10_scan 217 = .ok (.iaload, 1) := by decide +kernel
theorem dX10_scan_218 : decode cX10_scan 218 = .ok (.goto 4, 3) := by decide +kernel
theorem dX10_scan_221 : decode cX10_scan 221 = .ok (.iconst 0, 1) := by decide +kernel
theorem dX10_scan_222 : decode cX10_scan 222 = .ok (.iconst 0, 1) := by decide +kernel
theorem dX10_scan_223 : decode cX10_scan 223 = .ok (.invokevirtual 56, 3) := by decide +kernel
theorem dX10_scan_226 : decode cX10_scan 226 = .ok (.iload 5, 2) := by decide +kernel
theorem dX10_scan_228 : decode cX10_scan 228 = .ok (.iconst 1, 1) := by decide +kernel
theorem dX10_scan_229 : decode cX10_scan 229 = .ok (.iadd, 1) := by decide +kernel
theorem dX10_scan_230 : decode cX10_scan 230 = .ok (.iload 6, 2) := by decide +kernel
theorem dX10_scan_232 : decode cX10_scan 232 = .ok (.invokestatic 38, 3) := by decide +kernel
theorem dX10_scan_235 : decode cX10_scan 235 = .ok (.istore 5, 2) := by decide +kernel
theorem dX10_scan_237 : decode cX10_scan 237 = .ok (.goto (-217), 3) := by decide +kernel
theorem dX10_scan_240 : decode cX10_scan 240 = .ok (.aload_n 0, 1) := by decide +kernel
theorem dX10_scan_241 : decode cX10_scan 241 = .ok (.getfield 28, 3) := by decide +kernel
theorem dX10_scan_244 : decode cX10_scan 244 = .ok (.ireturn, 1) := by decide +kernel
theorem dX10_scanName_0 : decode cX10_scanName 0 = .ok (.iload_n 2, 1) := by decide +kernel
theorem dX10_scanName_1 : decode cX10_scanName 1 = .ok (.iconst 1, 1) := by decide +kernel
theorem dX10_scanName_2 : decode cX10_scanName 2 = .ok (.iadd, 1) := by decide +kernel
theorem dX10_scanName_3 : decode cX10_scanName 3 = .ok (.istore 4, 2) := by decide +kernel
theorem dX10_scanName_5 : decode cX10_scanName 5 = .ok (.iload 4, 2) := by decide +kernel
theorem dX10_scanName_7 : decode cX10_scanName 7 = .ok (.iload_n 3, 1) := by decide +kernel
theorem dX10_scanName_8 : decode cX10_scanName 8 = .ok (.if_icmp .ge 19, 3) := by decide +kernel
theorem dX10_scanName_11 : decode cX10_scanName 11 = .ok (.aload_n 1, 1) := by decide +kernel
theorem dX10_scanName_12 : decode cX10_scanName 12 = .ok (.iload 4, 2) := by decide +kernel
theorem dX10_scanName_14 : decode cX10_scanName 14 = .ok (.iaload, 1) := by decide +kernel
theorem dX10_scanName_15 : decode cX10_scanName 15 = .ok (.invokestatic 74, 3) := by decide +kernel
theorem dX10_scanName_18 : decode cX10_scanName 18 = .ok (.ifCond .lt 9, 3) := by decide +kernel
theorem dX10_scanName_21 : decode cX10_scanName 21 = .ok (.iinc 4 1, 3) := by decide +kernel
theorem dX10_scanName_24 : decode cX10_scanName 24 = .ok (.goto (-19), 3) := by decide +kernel
theorem dX10_scanName_27 : decode cX10_scanName 27 = .ok (.iload 4, 2) := by decide +kernel
theorem dX10_scanName_29 : decode cX10_scanName 29 = .ok (.iload_n 2, 1) := by decide +kernel
theorem dX10_scanName_30 : decode cX10_scanName 30 = .ok (.isub, 1) := by decide +kernel
theorem dX10_scanName_31 : decode cX10_scanName 31 = .ok (.bipush 10, 2) := by decide +kernel
theorem dX10_scanName_33 : decode cX10_scanName 33 = .ok (.if_icmp .gt 37, 3) := by decide +kernel
theorem dX10_scanName_36 : decode cX10_scanName 36 = .ok (.aload_n 0, 1) := by decide +kernel
theorem dX10_scanName_37 : decode cX10_scanName 37 = .ok (.getfield 24, 3) := by decide +kernel
theorem dX10_scanName_40 : decode cX10_scanName 40 = .ok (.aload_n 1, 1) := by decide +kernel
theorem dX10_scanName_41 : decode cX10_scanName 41 = .ok (.iload_n 2, 1) := by decide +kernel
theorem dX10_scanName_42 : decode cX10_scanName 42 = .ok (.iload 4, 2) := by decide +kernel
theorem dX10_scanName_44 : decode cX10_scanName 44 = .ok (.iconst 1, 1) := by decide +kernel
theorem dX10_scanName_45 : decode cX10_scanName 45 = .ok (.invokevirtual 79, 3) := by decide +kernel
theorem dX10_scanName_48 : decode cX10_scanName 48 = .ok (.istore 5, 2) := by decide +kernel
theorem dX10_scanName_50 : decode cX10_scanName 50 = .ok (.aload_n 0, 1) := by decide +kernel
theorem dX10_scanName_51 : decode cX10_scanName 51 = .ok (.iload 5, 2) := by decide +kernel
theorem dX10_scanName_53 : decode cX10_scanName 53 = .ok (.ifCond .ge 7, 3) := by decide +kernel
theorem dX10_scanName_56 : decode cX10_scanName 56 = .ok (.iconst 0, 1) := by decide +kernel
theorem dX10_scanName_57 : decode cX10_scanName 57 = .ok (.goto 5, 3) := by decide +kernel
theorem dX10_scanName_60 : decode cX10_scanName 60 = .ok (.bipush 110, 2) := by decide +kernel
theorem dX10_scanName_62 : decode cX10_scanName 62 = .ok (.iload 5, 2) := by decide +kernel
theorem dX10_scanName_64 : decode cX10_scanName 64 = .ok (.invokevirtual 56, 3) := by decide +kernel
theorem dX10_scanName_67 : decode cX10_scanName 67 = .ok (.goto 25, 3) := by decide +kernel
theorem dX10_scanName_70 : decode cX10_scanName 70 = .ok (.iload_n 2, 1) := by decide +kernel
theorem dX10_scanName_71 : decode cX10_scanName 71 = .ok (.istore 5, 2) := by decide +kernel
theorem dX10_scanName_73 : decode cX10_scanName 73 = .ok (.iload 5, 2) := by decide +kernel
theorem dX10_scanName_75 : decode cX10_scanName 75 = .ok (.iload 4, 2) := by decide +kernel
theorem dX10_scanName_77 : decode cX10_scanName 77 = .ok (.if_icmp .ge 15, 3) := by decide +kernel
theorem dX10_scanName_80 : decode cX10_scanName 80 = .ok (.aload_n 0, 1) := by decide +kernel
theorem dX10_scanName_81 : decode cX10_scanName 81 = .ok (.iconst 0, 1) := by decide +kernel
theorem dX10_scanName_82 : decode cX10_scanName 82 = .ok (.iconst 0, 1) := by decide +kernel
theorem dX10_scanName_83 : decode cX10_scanName 83 = .ok (.invokevirtual 56, 3) := by decide +kernel
theorem dX10_scanName_86 : decode cX10_scanName 86 = .ok (.iinc 5 1, 3) := by decide +kernel
theorem dX10_scanName_89 : decode cX10_scanName 89 = .ok (.goto (-16), 3) := by decide +kernel
theorem dX10_scanName_92 : decode cX10_scanName 92 = .ok (.iload 4, 2) := by decide +kernel
theorem dX10_scanName_94 : decode cX10_scanName 94 = .ok (.ireturn, 1) := by decide +kernel
theorem dX10_add_0 : decode cX10_add 0 = .ok (.aload_n 0, 1) := by decide +kernel
theorem dX10_add_1 : decode cX10_add 1 = .ok (.getfield 28, 3) := by decide +kernel
theorem dX10_add_4 : decode cX10_add 4 = .ok (.sipush 1500, 3) := by decide +kernel
theorem dX10_add_7 : decode cX10_add 7 = .ok (.if_icmp .ge 33, 3) := by decide +kernel
theorem dX10_add_10 : decode cX10_add 10 = .ok (.aload_n 0, 1) := by decide +kernel
theorem dX10_add_11 : decode cX10_add 11 = .ok (.getfield 9, 3) := by decide +kernel
theorem dX10_add_14 : decode cX10_add 14 = .ok (.aload_n 0, 1) := by decide +kernel
theorem dX10_add_15 : decode cX10_add 15 = .ok (.getfield 28, 3) := by decide +kernel
theorem dX10_add_18 : decode cX10_add 18 = .ok (.iload_n 1, 1) := by decide +kernel
theorem dX10_add_19 : decode cX10_add 19 = .ok (.iastore, 1) := by decide +kernel
theorem dX10_add_20 : decode cX10_add 20 = .ok (.aload_n 0, 1) := by decide +kernel
theorem dX10_add_21 : decode cX10_add 21 = .ok (.getfield 15, 3) := by decide +kernel
theorem dX10_add_24 : decode cX10_add 24 = .ok (.aload_n 0, 1) := by decide +kernel
theorem dX10_add_25 : decode cX10_add 25 = .ok (.getfield 28, 3) := by decide +kernel
theorem dX10_add_28 : decode cX10_add 28 = .ok (.iload_n 2, 1) := by decide +kernel
theorem dX10_add_29 : decode cX10_add 29 = .ok (.iastore, 1) := by decide +kernel
theorem dX10_add_30 : decode cX10_add 30 = .ok (.aload_n 0, 1) := by decide +kernel
theorem dX10_add_31 : decode cX10_add 31 = .ok (.dup, 1) := by decide +kernel
theorem dX10_add_32 : decode cX10_add 32 = .ok (.getfield 28, 3) := by decide +kernel
theorem dX10_add_35 : decode cX10_add 35 = .ok (.iconst 1, 1) := by decide +kernel
theorem dX10_add_36 : decode cX10_add 36 = .ok (.iadd, 1) := by decide +kernel
theorem dX10_add_37 : decode cX10_add 37 = .ok (.putfield 28, 3) := by decide +kernel
theorem dX10_add_40 : decode cX10_add 40 = .ok (.return_, 1) := by decide +kernel
theorem dX10_peek_0 : decode cX10_peek 0 = .ok (.aload_n 0, 1) := by decide +kernel
theorem dX10_peek_1 : decode cX10_peek 1 = .ok (.getfield 83, 3) := by decide +kernel
theorem dX10_peek_4 : decode cX10_peek 4 = .ok (.aload_n 0, 1) := by decide +kernel
theorem dX10_peek_5 : decode cX10_peek 5 = .ok (.getfield 28, 3) := by decide +kernel
theorem dX10_peek_8 : decode cX10_peek 8 = .ok (.if_icmp .ge 25, 3) := by decide +kernel
theorem dX10_peek_11 : decode cX10_peek 11 = .ok (.aload_n 0, 1) := by decide +kernel
theorem dX10_peek_12 : decode cX10_peek 12 = .ok (.getfield 83, 3) := by decide +kernel
theorem dX10_peek_15 : decode cX10_peek 15 = .ok (.sipush 1500, 3) := by decide +kernel
theorem dX10_peek_18 : decode cX10_peek 18 = .ok (.if_icmp .ge 15, 3) := by decide +kernel
theorem dX10_peek_21 : decode cX10_peek 21 = .ok (.aload_n 0, 1) := by decide +kernel
theorem dX10_peek_22 : decode cX10_peek 22 = .ok (.getfield 9, 3) := by decide +kernel
theorem dX10_peek_25 : decode cX10_peek 25 = .ok (.aload_n 0, 1) := by decide +kernel
theorem dX10_peek_26 : decode cX10_peek 26 = .ok (.getfield 83, 3) := by decide +kernel
theorem dX10_peek_29 : decode cX10_peek 29 = .ok (.iaload, 1) := by decide +kernel
theorem dX10_peek_30 : decode cX10_peek 30 = .ok (.goto 4, 3) := by decide +kernel
theorem dX10_peek_33 : decode cX10_peek 33 = .ok (.iconst 0, 1) := by decide +kernel
theorem dX10_peek_34 : decode cX10_peek 34 = .ok (.ireturn, 1) := by decide +kernel
theorem dX10_peekName_0 : decode cX10_peekName 0 = .ok (.aload_n 0, 1) := by decide +kernel
theorem dX10_peekName_1 : decode cX10_peekName 1 = .ok (.invokevirtual 115, 3) := by decide +kernel
theorem dX10_peekName_4 : decode cX10_peekName 4 = .ok (.bipush 110, 2) := by decide +kernel
theorem dX10_peekName_6 : decode cX10_peekName 6 = .ok (.if_icmp .ne 15, 3) := by decide +kernel
theorem dX10_peekName_9 : decode cX10_peekName 9 = .ok (.aload_n 0, 1) := by decide +kernel
theorem dX10_peekName_10 : decode cX10_peekName 10 = .ok (.getfield 15, 3) := by decide +kernel
theorem dX10_peekName_13 : decode cX10_peekName 13 = .ok (.aload_n 0, 1) := by decide +kernel
theorem dX10_peekName_14 : decode cX10_peekName 14 = .ok (.getfield 83, 3) := by decide +kernel
theorem dX10_peekName_17 : decode cX10_peekName 17 = .ok (.iaload, 1) := by decide +kernel
theorem dX10_peekName_18 : decode cX10_peekName 18 = .ok (.goto 4, 3) := by decide +kernel
theorem dX10_peekName_21 : decode cX10_peekName 21 = .ok (.iconst (-1), 1) := by decide +kernel
theorem dX10_peekName_22 : decode cX10_peekName 22 = .ok (.ireturn, 1) := by decide +kernel
theorem dX10_isSign_0 : decode cX10_isSign 0 = .ok (.aload_n 0, 1) := by decide +kernel
theorem dX10_isSign_1 : decode cX10_isSign 1 = .ok (.getfield 83, 3) := by decide +kernel
theorem dX10_isSign_4 : decode cX10_isSign 4 = .ok (.aload_n 0, 1) := by decide +kernel
theorem dX10_isSign_5 : decode cX10_isSign 5 = .ok (.getfield 28, 3) := by decide +kernel
theorem dX10_isSign_8 : decode cX10_isSign 8 = .ok (.if_icmp .ge 30, 3) := by decide +kernel
theorem dX10_isSign_11 : decode cX10_isSign 11 = .ok (.aload_n 0, 1) := by decide +kernel
theorem dX10_isSign_12 : decode cX10_isSign 12 = .ok (.getfield 83, 3) := by decide +kernel
theorem dX10_isSign_15 : decode cX10_isSign 15 = .ok (.sipush 1500, 3) := by decide +kernel
theorem dX10_isSign_18 : decode cX10_isSign 18 = .ok (.if_icmp .ge 20, 3) := by decide +kernel
theorem dX10_isSign_21 : decode cX10_isSign 21 = .ok (.aload_n 0, 1) := by decide +kernel
theorem dX10_isSign_22 : decode cX10_isSign 22 = .ok (.getfield 9, 3) := by decide +kernel
theorem dX10_isSign_25 : decode cX10_isSign 25 = .ok (.aload_n 0, 1) := by decide +kernel
theorem dX10_isSign_26 : decode cX10_isSign 26 = .ok (.getfield 83, 3) := by decide +kernel
theorem dX10_isSign_29 : decode cX10_isSign 29 = .ok (.iaload, 1) := by decide +kernel
theorem dX10_isSign_30 : decode cX10_isSign 30 = .ok (.iload_n 1, 1) := by decide +kernel
theorem dX10_isSign_31 : decode cX10_isSign 31 = .ok (.if_icmp .ne 7, 3) := by decide +kernel
theorem dX10_isSign_34 : decode cX10_isSign 34 = .ok (.iconst 1, 1) := by decide +kernel
theorem dX10_isSign_35 : decode cX10_isSign 35 = .ok (.goto 4, 3) := by decide +kernel
theorem dX10_isSign_38 : decode cX10_isSign 38 = .ok (.iconst 0, 1) := by decide +kernel
theorem dX10_isSign_39 : decode cX10_isSign 39 = .ok (.istore_n 2, 1) := by decide +kernel
theorem dX10_isSign_40 : decode cX10_isSign 40 = .ok (.aload_n 0, 1) := by decide +kernel
theorem dX10_isSign_41 : decode cX10_isSign 41 = .ok (.dup, 1) := by decide +kernel
theorem dX10_isSign_42 : decode cX10_isSign 42 = .ok (.getfield 83, 3) := by decide +kernel
theorem dX10_isSign_45 : decode cX10_isSign 45 = .ok (.iconst 1, 1) := by decide +kernel
theorem dX10_isSign_46 : decode cX10_isSign 46 = .ok (.iadd, 1) := by decide +kernel
theorem dX10_isSign_47 : decode cX10_isSign 47 = .ok (.putfield 83, 3) := by decide +kernel
theorem dX10_isSign_50 : decode cX10_isSign 50 = .ok (.iload_n 2, 1) := by decide +kernel
theorem dX10_isSign_51 : decode cX10_isSign 51 = .ok (.ireturn, 1) := by decide +kernel
theorem dX10_isName_0 : decode cX10_isName 0 = .ok (.aload_n 0, 1) := by decide +kernel
theorem dX10_isName_1 : decode cX10_isName 1 = .ok (.invokevirtual 119, 3) := by decide +kernel
theorem dX10_isName_4 : decode cX10_isName 4 = .ok (.istore_n 1, 1) := by decide +kernel
theorem dX10_isName_5 : decode cX10_isName 5 = .ok (.aload_n 0, 1) := by decide +kernel
theorem dX10_isName_6 : decode cX10_isName 6 = .ok (.dup, 1) := by decide +kernel
theorem dX10_isName_7 : decode cX10_isName 7 = .ok (.getfield 83, 3) := by decide +kernel
theorem dX10_isName_10 : decode cX10_isName 10 = .ok (.iconst 1, 1) := by decide +kernel
theorem dX10_isName_11 : decode cX10_isName 11 = .ok (.iadd, 1) := by decide +kernel
theorem dX10_isName_12 : decode cX10_isName 12 = .ok (.putfield 83, 3) := by decide +kernel
theorem dX10_isName_15 : decode cX10_isName 15 = .ok (.iload_n 1, 1) := by decide +kernel
theorem dX10_isName_16 : decode cX10_isName 16 = .ok (.iconst 2, 1) := by decide +kernel
theorem dX10_isName_17 : decode cX10_isName 17 = .ok (.if_icmp .le 15, 3) := by decide +kernel
theorem dX10_isName_20 : decode cX10_isName 20 = .ok (.aload_n 0, 1) := by decide +kernel
theorem dX10_isName_21 : decode cX10_isName 21 = .ok (.getfield 86, 3) := by decide +kernel
theorem dX10_isName_24 : decode cX10_isName 24 = .ok (.aload_n 0, 1) := by decide +kernel
theorem dX10_isName_25 : decode cX10_isName 25 = .ok (.getfield 18, 3) := by decide +kernel
theorem dX10_isName_28 : decode cX10_isName 28 = .ok (.arraylength, 1) := by decide +kernel
theorem dX10_isName_29 : decode cX10_isName 29 = .ok (.if_icmp .lt 5, 3) := by decide +kernel
theorem dX10_isName_32 : decode cX10_isName 32 = .ok (.iconst 0, 1) := by decide +kernel
theorem dX10_isName_33 : decode cX10_isName 33 = .ok (.ireturn, 1) := by decide +kernel
theorem dX10_isName_34 : decode cX10_isName 34 = .ok (.aload_n 0, 1) := by decide +kernel
theorem dX10_isName_35 : decode cX10_isName 35 = .ok (.getfield 18, 3) := by decide +kernel
theorem dX10_isName_38 : decode cX10_isName 38 = .ok (.aload_n 0, 1) := by decide +kernel
theorem dX10_isName_39 : decode cX10_isName 39 = .ok (.getfield 86, 3) := by decide +kernel
theorem dX10_isName_42 : decode cX10_isName 42 = .ok (.iload_n 1, 1) := by decide +kernel
theorem dX10_isName_43 : decode cX10_isName 43 = .ok (.iastore, 1) := by decide +kernel
theorem dX10_isName_44 : decode cX10_isName 44 = .ok (.aload_n 0, 1) := by decide +kernel
theorem dX10_isName_45 : decode cX10_isName 45 = .ok (.dup, 1) := by decide +kernel
theorem dX10_isName_46 : decode cX10_isName 46 = .ok (.getfield 86, 3) := by decide +kernel
theorem dX10_isName_49 : decode cX10_isName 49 = .ok (.iconst 1, 1) := by decide +kernel
theorem dX10_isName_50 : decode cX10_isName 50 = .ok (.iadd, 1) := by decide +kernel
theorem dX10_isName_51 : decode cX10_isName 51 = .ok (.putfield 86, 3) := by decide +kernel
theorem dX10_isName_54 : decode cX10_isName 54 = .ok (.iconst 1, 1) := by decide +kernel
theorem dX10_isName_55 : decode cX10_isName 55 = .ok (.ireturn, 1) := by decide +kernel
theorem dX10_isArity_0 : decode cX10_isArity 0 = .ok (.aload_n 0, 1) := by decide +kernel
theorem dX10_isArity_1 : decode cX10_isArity 1 = .ok (.aload_n 0, 1) := by decide +kernel
theorem dX10_isArity_2 : decode cX10_isArity 2 = .ok (.invokevirtual 115, 3) := by decide +kernel
theorem dX10_isArity_5 : decode cX10_isArity 5 = .ok (.bipush 100, 2) := by decide +kernel
theorem dX10_isArity_7 : decode cX10_isArity 7 = .ok (.if_icmp .ne 15, 3) := by decide +kernel
theorem dX10_isArity_10 : decode cX10_isArity 10 = .ok (.aload_n 0, 1) := by decide +kernel
theorem dX10_isArity_11 : decode cX10_isArity 11 = .ok (.getfield 15, 3) := by decide +kernel
theorem dX10_isArity_14 : decode cX10_isArity 14 = .ok (.aload_n 0, 1) := by decide +kernel
theorem dX10_isArity_15 : decode cX10_isArity 15 = .ok (.getfield 83, 3) := by decide +kernel
theorem dX10_isArity_18 : decode cX10_isArity 18 = .ok (.iaload, 1) := by decide +kernel
theorem dX10_isArity_19 : decode cX10_isArity 19 = .ok (.goto 4, 3) := by decide +kernel
theorem dX10_isArity_22 : decode cX10_isArity 22 = .ok (.iconst (-1), 1) := by decide +kernel
theorem dX10_isArity_23 : decode cX10_isArity 23 = .ok (.putfield 92, 3) := by decide +kernel
theorem dX10_isArity_26 : decode cX10_isArity 26 = .ok (.aload_n 0, 1) := by decide +kernel
theorem dX10_isArity_27 : decode cX10_isArity 27 = .ok (.dup, 1) := by decide +kernel
theorem dX10_isArity_28 : decode cX10_isArity 28 = .ok (.getfield 83, 3) := by decide +kernel
theorem dX10_isArity_31 : decode cX10_isArity 31 = .ok (.iconst 1, 1) := by decide +kernel
theorem dX10_isArity_32 : decode cX10_isArity 32 = .ok (.iadd, 1) := by decide +kernel
theorem dX10_isArity_33 : decode cX10_isArity 33 = .ok (.putfield 83, 3) := by decide +kernel
theorem dX10_isArity_36 : decode cX10_isArity 36 = .ok (.aload_n 0, 1) := by decide +kernel
theorem dX10_isArity_37 : decode cX10_isArity 37 = .ok (.getfield 92, 3) := by decide +kernel
theorem dX10_isArity_40 : decode cX10_isArity 40 = .ok (.ifCond .lt 15, 3) := by decide +kernel
theorem dX10_isArity_43 : decode cX10_isArity 43 = .ok (.aload_n 0, 1) := by decide +kernel
theorem dX10_isArity_44 : decode cX10_isArity 44 = .ok (.getfield 92, 3) := by decide +kernel
theorem dX10_isArity_47 : decode cX10_isArity 47 = .ok (.iconst 3, 1) := by decide +kernel
theorem dX10_isArity_48 : decode cX10_isArity 48 = .ok (.if_icmp .gt 7, 3) := by decide +kernel
theorem dX10_isArity_51 : decode cX10_isArity 51 = .ok (.iconst 1, 1) := by decide +kernel
theorem dX10_isArity_52 : decode cX10_isArity 52 = .ok (.goto 4, 3) := by decide +kernel
theorem dX10_isArity_55 : decode cX10_isArity 55 = .ok (.iconst 0, 1) := by decide +kernel
theorem dX10_isArity_56 : decode cX10_isArity 56 = .ok (.ireturn, 1) := by decide +kernel
theorem dX10_addNode_0 : decode cX10_addNode 0 = .ok (.aload_n 0, 1) := by decide +kernel
theorem dX10_addNode_1 : decode cX10_addNode 1 = .ok (.getfield 89, 3) := by decide +kernel
theorem dX10_addNode_4 : decode cX10_addNode 4 = .ok (.sipush 3000, 3) := by decide +kernel
theorem dX10_addNode_7 : decode cX10_addNode 7 = .ok (.if_icmp .lt 5, 3) := by decide +kernel
theorem dX10_addNode_10 : decode cX10_addNode 10 = .ok (.iconst 0, 1) := by decide +kernel
theorem dX10_addNode_11 : decode cX10_addNode 11 = .ok (.ireturn, 1) := by decide +kernel
theorem dX10_addNode_12 : decode cX10_addNode 12 = .ok (.aload_n 0, 1) := by decide +kernel
theorem dX10_addNode_13 : decode cX10_addNode 13 = .ok (.getfield 21, 3) := by decide +kernel
theorem dX10_addNode_16 : decode cX10_addNode 16 = .ok (.aload_n 0, 1) := by decide +kernel
theorem dX10_addNode_17 : decode cX10_addNode 17 = .ok (.getfield 89, 3) := by decide +kernel
theorem dX10_addNode_20 : decode cX10_addNode 20 = .ok (.iload_n 1, 1) := by decide +kernel
theorem dX10_addNode_21 : decode cX10_addNode 21 = .ok (.iastore, 1) := by decide +kernel
theorem dX10_addNode_22 : decode cX10_addNode 22 = .ok (.aload_n 0, 1) := by decide +kernel
theorem dX10_addNode_23 : decode cX10_addNode 23 = .ok (.dup, 1) := by decide +kernel
theorem dX10_addNode_24 : decode cX10_addNode 24 = .ok (.getfield 89, 3) := by decide +kernel
theorem dX10_addNode_27 : decode cX10_addNode 27 = .ok (.iconst 1, 1) := by decide +kernel
theorem dX10_addNode_28 : decode cX10_addNode 28 = .ok (.iadd, 1) := by decide +kernel
theorem dX10_addNode_29 : decode cX10_addNode 29 = .ok (.putfield 89, 3) := by decide +kernel
theorem dX10_addNode_32 : decode cX10_addNode 32 = .ok (.iconst 1, 1) := by decide +kernel
theorem dX10_addNode_33 : decode cX10_addNode 33 = .ok (.ireturn, 1) := by decide +kernel
theorem dX10_insertNode_0 : decode cX10_insertNode 0 = .ok (.iload_n 1, 1) := by decide +kernel
theorem dX10_insertNode_1 : decode cX10_insertNode 1 = .ok (.ifCond .lt 21, 3) := by decide +kernel
theorem dX10_insertNode_4 : decode cX10_insertNode 4 = .ok (.iload_n 1, 1) := by decide +kernel
theorem dX10_insertNode_5 : decode cX10_insertNode 5 = .ok (.aload_n 0, 1) := by decide +kernel
theorem dX10_insertNode_6 : decode cX10_insertNode 6 = .ok (.getfield 89, 3) := by decide +kernel
theorem dX10_insertNode_9 : decode cX10_insertNode 9 = .ok (.if_icmp .gt 13, 3) := by decide +kernel
theorem dX10_insertNode_12 : decode cX10_insertNode 12 = .ok (.aload_n 0, 1) := by decide +kernel
theorem dX10_insertNode_13 : decode cX10_insertNode 13 = .ok (.getfield 89, 3) := by decide +kernel
theorem dX10_insertNode_16 : decode cX10_insertNode 16 = .ok (.sipush 3000, 3) := by decide +kernel
theorem dX10_insertNode_19 : decode cX10_insertNode 19 = .ok (.if_icmp .lt 5, 3) := by decide +kernel
theorem dX10_insertNode_22 : decode cX10_insertNode 22 = .ok (.iconst 0, 1) := by decide +kernel
theorem dX10_insertNode_23 : decode cX10_insertNode 23 = .ok (.ireturn, 1) := by decide +kernel
theorem dX10_insertNode_24 : decode cX10_insertNode 24 = .ok (.aload_n 0, 1) := by decide +kernel
theorem dX10_insertNode_25 : decode cX10_insertNode 25 = .ok (.getfield 89, 3) := by decide +kernel
theorem dX10_insertNode_28 : decode cX10_insertNode 28 = .ok (.istore_n 3, 1) := by decide +kernel
theorem dX10_insertNode_29 : decode cX10_insertNode 29 = .ok (.iload_n 3, 1) := by decide +kernel
theorem dX10_insertNode_30 : decode cX10_insertNode 30 = .ok (.iload_n 1, 1) := by decide +kernel
theorem dX10_insertNode_31 : decode cX10_insertNode 31 = .ok (.if_icmp .le 23, 3) := by decide +kernel
theorem dX10_insertNode_34 : decode cX10_insertNode 34 = .ok (.aload_n 0, 1) := by decide +kernel
theorem dX10_insertNode_35 : decode cX10_insertNode 35 = .ok (.getfield 21, 3) := by decide +kernel
theorem dX10_insertNode_38 : decode cX10_insertNode 38 = .ok (.iload_n 3, 1) := by decide +kernel
theorem dX10_insertNode_39 : decode cX10_insertNode 39 = .ok (.aload_n 0, 1) := by decide +kernel
theorem dX10_insertNode_40 : decode cX10_insertNode 40 = .ok (.getfield 21, 3) := by decide +kernel
theorem dX10_insertNode_43 : decode cX10_insertNode 43 = .ok (.iload_n 3, 1) := by decide +kernel
theorem dX10_insertNode_44 : decode cX10_insertNode 44 = .ok (.iconst 1, 1) := by decide +kernel
theorem dX10_insertNode_45 : decode cX10_insertNode 45 = .ok (.isub, 1) := by decide +kernel
theorem dX10_insertNode_46 : decode cX10_insertNode 46 = .ok (.iaload, 1) := by decide +kernel
theorem dX10_insertNode_47 : decode cX10_insertNode 47 = .ok (.iastore, 1) := by decide +kernel
theorem dX10_insertNode_48 : decode cX10_insertNode 48 = .ok (.iinc 3 (-1), 3) := by decide +kernel
theorem dX10_insertNode_51 : decode cX10_insertNode 51 = .ok (.goto (-22), 3) := by decide +kernel
theorem dX10_insertNode_54 : decode cX10_insertNode 54 = .ok (.aload_n 0, 1) := by decide +kernel
theorem dX10_insertNode_55 : decode cX10_insertNode 55 = .ok (.getfield 21, 3) := by decide +kernel
theorem dX10_insertNode_58 : decode cX10_insertNode 58 = .ok (.iload_n 1, 1) := by decide +kernel
theorem dX10_insertNode_59 : decode cX10_insertNode 59 = .ok (.iload_n 2, 1) := by decide +kernel
theorem dX10_insertNode_60 : decode cX10_insertNode 60 = .ok (.iastore, 1) := by decide +kernel
theorem dX10_insertNode_61 : decode cX10_insertNode 61 = .ok (.aload_n 0, 1) := by decide +kernel
theorem dX10_insertNode_62 : decode cX10_insertNode 62 = .ok (.dup, 1) := by decide +kernel
theorem dX10_insertNode_63 : decode cX10_insertNode 63 = .ok (.getfield 89, 3) := by decide +kernel
theorem dX10_insertNode_66 : decode cX10_insertNode 66 = .ok (.iconst 1, 1) := by decide +kernel
theorem dX10_insertNode_67 : decode cX10_insertNode 67 = .ok (.iadd, 1) := by decide +kernel
theorem dX10_insertNode_68 : decode cX10_insertNode 68 = .ok (.putfield 89, 3) := by decide +kernel
theorem dX10_insertNode_71 : decode cX10_insertNode 71 = .ok (.iconst 1, 1) := by decide +kernel
theorem dX10_insertNode_72 : decode cX10_insertNode 72 = .ok (.ireturn, 1) := by decide +kernel
theorem dX11_opensComment_0 : decode cX11_opensComment 0 = .ok (.iload_n 1, 1) := by decide +kernel
theorem dX11_opensComment_1 : decode cX11_opensComment 1 = .ok (.ifCond .lt 38, 3) := by decide +kernel
theorem dX11_opensComment_4 : decode cX11_opensComment 4 = .ok (.iload_n 1, 1) := by decide +kernel
theorem dX11_opensComment_5 : decode cX11_opensComment 5 = .ok (.iconst 1, 1) := by decide +kernel
theorem dX11_opensComment_6 : decode cX11_opensComment 6 = .ok (.iadd, 1) := by decide +kernel
theorem dX11_opensComment_7 : decode cX11_opensComment 7 = .ok (.iload_n 2, 1) := by decide +kernel
theorem dX11_opensComment_8 : decode cX11_opensComment 8 = .ok (.if_icmp .ge 31, 3) := by decide +kernel
theorem dX11_opensComment_11 : decode cX11_opensComment 11 = .ok (.iload_n 2, 1) := by decide +kernel
theorem dX11_opensComment_12 : decode cX11_opensComment 12 = .ok (.aload_n 0, 1) := by decide +kernel
theorem dX11_opensComment_13 : decode cX11_opensComment 13 = .ok (.arraylength, 1) := by decide +kernel
theorem dX11_opensComment_14 : decode cX11_opensComment 14 = .ok (.if_icmp .gt 25, 3) := by decide +kernel
theorem dX11_opensComment_17 : decode cX11_opensComment 17 = .ok (.aload_n 0, 1) := by decide +kernel
theorem dX11_opensComment_18 : decode cX11_opensComment 18 = .ok (.iload_n 1, 1) := by decide +kernel
theorem dX11_opensComment_19 : decode cX11_opensComment 19 = .ok (.iaload, 1) := by decide +kernel
theorem dX11_opensComment_20 : decode cX11_opensComment 20 = .ok (.bipush 40, 2) := by decide +kernel
theorem dX11_opensComment_22 : decode cX11_opensComment 22 = .ok (.if_icmp .ne 17, 3) := by decide +kernel
theorem dX11_opensComment_25 : decode cX11_opensComment 25 = .ok (.aload_n 0, 1) := by decide +kernel
theorem dX11_opensComment_26 : decode cX11_opensComment 26 = .ok (.iload_n 1, 1) := by decide +kernel
theorem dX11_opensComment_27 : decode cX11_opensComment 27 = .ok (.iconst 1, 1) := by decide +kernel
theorem dX11_opensComment_28 : decode cX11_opensComment 28 = .ok (.iadd, 1) := by decide +kernel
theorem dX11_opensComment_29 : decode cX11_opensComment 29 = .ok (.iaload, 1) := by decide +kernel
theorem dX11_opensComment_30 : decode cX11_opensComment 30 = .ok (.bipush 42, 2) := by decide +kernel
theorem dX11_opensComment_32 : decode cX11_opensComment 32 = .ok (.if_icmp .ne 7, 3) := by decide +kernel
theorem dX11_opensComment_35 : decode cX11_opensComment 35 = .ok (.iconst 1, 1) := by decide +kernel
theorem dX11_opensComment_36 : decode cX11_opensComment 36 = .ok (.goto 4, 3) := by decide +kernel
theorem dX11_opensComment_39 : decode cX11_opensComment 39 = .ok (.iconst 0, 1) := by decide +kernel
theorem dX11_opensComment_40 : decode cX11_opensComment 40 = .ok (.ireturn, 1) := by decide +kernel
theorem dX11_commentEnd_0 : decode cX11_commentEnd 0 = .ok (.aload_n 0, 1) := by decide +kernel
theorem dX11_commentEnd_1 : decode cX11_commentEnd 1 = .ok (.iload_n 1, 1) := by decide +kernel
theorem dX11_commentEnd_2 : decode cX11_commentEnd 2 = .ok (.iload_n 2, 1) := by decide +kernel
theorem dX11_commentEnd_3 : decode cX11_commentEnd 3 = .ok (.invokestatic 609, 3) := by decide +kernel
theorem dX11_commentEnd_6 : decode cX11_commentEnd 6 = .ok (.ifCond .ne 5, 3) := by decide +kernel
theorem dX11_commentEnd_9 : decode cX11_commentEnd 9 = .ok (.iconst (-1), 1) := by decide +kernel
theorem dX11_commentEnd_10 : decode cX11_commentEnd 10 = .ok (.ireturn, 1) := by decide +kernel
theorem dX11_commentEnd_11 : decode cX11_commentEnd 11 = .ok (.iconst 1, 1) := by decide +kernel
theorem dX11_commentEnd_12 : decode cX11_commentEnd 12 = .ok (.istore_n 3, 1) := by decide +kernel
theorem dX11_commentEnd_13 : decode cX11_commentEnd 13 = .ok (.iload_n 1, 1) := by decide +kernel
theorem dX11_commentEnd_14 : decode cX11_commentEnd 14 = .ok (.iconst 2, 1) := by decide +kernel
theorem dX11_commentEnd_15 : decode cX11_commentEnd 15 = .ok (.iadd, 1) := by decide +kernel
theorem dX11_commentEnd_16 : decode cX11_commentEnd 16 = .ok (.istore 4, 2) := by decide +kernel
theorem dX11_commentEnd_18 : decode cX11_commentEnd 18 = .ok (.iload 4, 2) := by decide +kernel
theorem dX11_commentEnd_20 : decode cX11_commentEnd 20 = .ok (.iconst 1, 1) := by decide +kernel
theorem dX11_commentEnd_21 : decode cX11_commentEnd 21 = .ok (.iadd, 1) := by decide +kernel
theorem dX11_commentEnd_22 : decode cX11_commentEnd 22 = .ok (.iload_n 2, 1) := by decide +kernel
theorem dX11_commentEnd_23 : decode cX11_commentEnd 23 = .ok (.if_icmp .ge 73, 3) := by decide +kernel
theorem dX11_commentEnd_26 : decode cX11_commentEnd 26 = .ok (.aload_n 0, 1) := by decide +kernel
theorem dX11_commentEnd_27 : decode cX11_commentEnd 27 = .ok (.iload 4, 2) := by decide +kernel
theorem dX11_commentEnd_29 : decode cX11_commentEnd 29 = .ok (.iaload, 1) := by decide +kernel
theorem dX11_commentEnd_30 : decode cX11_commentEnd 30 = .ok (.bipush 40, 2) := by decide +kernel
theorem dX11_commentEnd_32 : decode cX11_commentEnd 32 = .ok (.if_icmp .ne 23, 3) := by decide +kernel
theorem dX11_commentEnd_35 : decode cX11_commentEnd 35 = .ok (.aload_n 0, 1) := by decide +kernel
theorem dX11_commentEnd_36 : decode cX11_commentEnd 36 = .ok (.iload 4, 2) := by decide +kernel
theorem dX11_commentEnd_38 : decode cX11_commentEnd 38 = .ok (.iconst 1, 1) := by decide +kernel
theorem dX11_commentEnd_39 : decode cX11_commentEnd 39 = .ok (.iadd, 1) := by decide +kernel
theorem dX11_commentEnd_40 : decode cX11_commentEnd 40 = .ok (.iaload, 1) := by decide +kernel
theorem dX11_commentEnd_41 : decode cX11_commentEnd 41 = .ok (.bipush 42, 2) := by decide +kernel
theorem dX11_commentEnd_43 : decode cX11_commentEnd 43 = .ok (.if_icmp .ne 12, 3) := by decide +kernel
theorem dX11_commentEnd_46 : decode cX11_commentEnd 46 = .ok (.iinc 3 1, 3) := by decide +kernel
theorem dX11_commentEnd_49 : decode cX11_commentEnd 49 = .ok (.iinc 4 1, 3) := by decide +kernel
theorem dX11_commentEnd_52 : decode cX11_commentEnd 52 = .ok (.goto 38, 3) := by decide +kernel
theorem dX11_commentEnd_55 : decode cX11_commentEnd 55 = .ok (.aload_n 0, 1) := by decide +kernel
theorem dX11_commentEnd_56 : decode cX11_commentEnd 56 = .ok (.iload 4, 2) := by decide +kernel
theorem dX11_commentEnd_58 : decode cX11_commentEnd 58 = .ok (.iaload, 1) := by decide +kernel
theorem dX11_commentEnd_59 : decode cX11_commentEnd 59 = .ok (.bipush 42, 2) := by decide +kernel
theorem dX11_commentEnd_61 : decode cX11_commentEnd 61 = .ok (.if_icmp .ne 29, 3) := by decide +kernel
theorem dX11_commentEnd_64 : decode cX11_commentEnd 64 = .ok (.aload_n 0, 1) := by decide +kernel
theorem dX11_commentEnd_65 : decode cX11_commentEnd 65 = .ok (.iload 4, 2) := by decide +kernel
theorem dX11_commentEnd_67 : decode cX11_commentEnd 67 = .ok (.iconst 1, 1) := by decide +kernel
theorem dX11_commentEnd_68 : decode cX11_commentEnd 68 = .ok (.iadd, 1) := by decide +kernel
theorem dX11_commentEnd_69 : decode cX11_commentEnd 69 = .ok (.iaload, 1) := by decide +kernel
theorem dX11_commentEnd_70 : decode cX11_commentEnd 70 = .ok (.bipush 41, 2) := by decide +kernel
theorem dX11_commentEnd_72 : decode cX11_commentEnd 72 = .ok (.if_icmp .ne 18, 3) := by decide +kernel
theorem dX11_commentEnd_75 : decode cX11_commentEnd 75 = .ok (.iinc 3 (-1), 3) := by decide +kernel
theorem dX11_commentEnd_78 : decode cX11_commentEnd 78 = .ok (.iinc 4 1, 3) := by decide +kernel
theorem dX11_commentEnd_81 : decode cX11_commentEnd 81 = .ok (.iload_n 3, 1) := by decide +kernel
theorem dX11_commentEnd_82 : decode cX11_commentEnd 82 = .ok (.ifCond .ne 8, 3) := by decide +kernel
theorem dX11_commentEnd_85 : decode cX11_commentEnd 85 = .ok (.iload 4, 2) := by decide +kernel
theorem dX11_commentEnd_87 : decode cX11_commentEnd 87 = .ok (.iconst 1, 1) := by decide +kernel
theorem dX11_commentEnd_88 : decode cX11_commentEnd 88 = .ok (.iadd, 1) := by decide +kernel
theorem dX11_commentEnd_89 : decode cX11_commentEnd 89 = .ok (.ireturn, 1) := by decide +kernel
theorem dX11_commentEnd_90 : decode cX11_commentEnd 90 = .ok (.iinc 4 1, 3) := by decide +kernel
theorem dX11_commentEnd_93 : decode cX11_commentEnd 93 = .ok (.goto (-75), 3) := by decide +kernel
theorem dX11_commentEnd_96 : decode cX11_commentEnd 96 = .ok (.iconst (-1), 1) := by decide +kernel
theorem dX11_commentEnd_97 : decode cX11_commentEnd 97 = .ok (.ireturn, 1) := by decide +kernel
end
