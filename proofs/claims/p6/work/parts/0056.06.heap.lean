section
theorem jTot_push {H H1 : Heap} {c : Cell} (hsz : H1.size = H.size + 1) (h1 : H1[H.size]? = some c) (ho : ∀ q, q < H.size → H1[q]? = H[q]?) : jTot H1 = jTot H + c.slots.size := by
  have e : H1.toList = H.toList ++ [c] := by
    apply List.ext_getElem?
    intro i
    rw [Array.getElem?_toList]
    by_cases hi : i < H.size
    · rw [ho i hi, List.getElem?_append_left (by simpa using hi), Array.getElem?_toList]
    · by_cases he : i = H.size
      · rw [he, h1, List.getElem?_append_right (by simp)]
        simp
      · rw [Array.getElem?_eq_none (by omega), List.getElem?_eq_none (by simp; omega)]
  unfold jTot
  rw [e, List.map_append, List.sum_append]
  simp
section JR
variable {p : Program} {l : Launch} {e : Env} {R : Room} {s : State} {m : MethodId} {args : Array Value} {below : List Frame} {meth : Method} {c : Code} {H : Heap} {locs : List Loc} {cells slots : Nat} {Q : State → Prop}
variable {cc : ByteArray} {pc : Nat} {ls : Array Slot} {rest : List Value} {D : va_G} {cl : List vw_C} {A : Nat → Prop} {a : Nat} {tys : List (ClassId × FieldType)}
theorem j_newi (hexec : p.tables.exec = Jvm.exec) (hb : c.code = cc) {atype : ArrayType} {ty : FieldType} (harr : (Cond.arrayClass ty).before args s = true) (hty : newarray.typeOf atype = ty) (hd : defaultValue ty = .int 0) (hra : ∀ cA, va_RA s cA ty → s.vm.findClass ("[" ++ ty.toString) = some cA) (hK : va_K D cl tys s) (t0 : Nat) {cA : ClassId} (ht : tys[t0]? = some (cA, ty))
    {n : Int32} {N' : Nat} (hn : ¬ n < 0) (hN : n.toNatClampNeg = N') (hbytes : N' * componentBytes ty ≤ 536870912) (hcells : cells + 1 ≤ R.cells) (hslots : slots + N' ≤ R.slots) (hdg : decode cc pc = .ok (.newarray atype, 2))
    (kk : ∀ H1 : Heap, va_at D cl (H.size, .inl (cA, N', .inl (fun _ => 0))) H1 → H1.size = H.size + 1 → (∀ q, q < H.size → H1[q]? = H[q]?) → jTot H1 = jTot H + N' → W p l e R s m args below meth c H1 locs (cells + 1) (slots + N') Q (F0 m (pc + 2) ls (.ref H.size :: rest))) : W p l e R s m args below meth c H locs cells slots Q (F0 m pc ls (.int n :: rest)) := by
  subst hty
  refine va_newaK hexec hb harr rfl hdg rfl hn hN hbytes hcells hslots rfl fun H1 cB e1 z1 o1 hAr hNm => ?_
  have hc : cB = cA := Option.some.inj (hNm.symm.trans (hra _ (hK.2 t0 _ ht).2))
  subst hc
  have e2 : va_at D cl (H.size, .inl (cB, N', .inl (fun _ => 0))) H1 := by
    show H1[H.size]? = some (vp_cell _ _)
    rw [e1, vp_cell_i, hd]
  refine kk H1 e2 z1 o1 ?_
  rw [jTot_push z1 e1 o1, arrV_size]
end JR
end
section
-- the typed heap: a root has a kind below 1000; the cells that belong to a root are marked (1000 + place, root); B says what a root of a kind and its cells hold
theorem W.known {p : Program} {l : Launch} {e : Env} {R : Room} {s : State} {m : MethodId} {args : Array Value} {below : List Frame} {meth : Method} {c : Code} {H : Heap} {locs : List Loc} {cells slots : Nat} {Q : State → Prop} {g : JFrame} (k : H.size ≤ s.heap.size + cells → jTot H ≤ jTot s.heap + slots → W p l e R s m args below meth c H locs cells slots Q g) : W p l e R s m args below meth c H locs cells slots Q g := by
  intro T hT X
  refine k (by rw [← hT]; exact X.heapSize) ?_ T hT X
  obtain ⟨a1, a2, a3, a4, a5, a6⟩ := X.same
  have e1 : (T.setVm s.vm).heap = H := hT
  rw [e1] at a2 a5 a6
  have hkeep : (H.toList.take s.heap.size).map (·.slots.size) = s.heap.toList.map (·.slots.size) := by
    apply List.ext_getElem?
    intro i
    rw [List.getElem?_map, List.getElem?_map]
    by_cases hi : i < s.heap.size
    · rw [List.getElem?_take_of_lt hi]
      have hs : s.heap[i]? = some s.heap[i] := Array.getElem?_eq_getElem hi
      obtain ⟨c', h1, -, h3, -⟩ := a6 i _ hs
      rw [Array.getElem?_toList, Array.getElem?_toList, h1, hs]
      simp [h3]
    · have h1 : (H.toList.take s.heap.size)[i]? = none := by
        apply List.getElem?_eq_none
        simp; omega
      have h2 : s.heap.toList[i]? = none := by
        apply List.getElem?_eq_none
        simp; omega
      rw [h1, h2]
  have hsum : jTot H = jTot s.heap + ((H.toList.drop s.heap.size).map (·.slots.size)).sum := by
    unfold jTot
    rw [← hkeep, ← List.sum_append, ← List.map_append, List.take_append_drop]
  omega
end
section
theorem dJ7_copyOf_9075b_0 : decode cJ7_copyOf_9075b 0 = .ok (.iload_n 1, 1) := by decide +kernel
theorem dJ7_copyOf_9075b_1 : decode cJ7_copyOf_9075b 1 = .ok (.aload_n 0, 1) := by decide +kernel
theorem dJ7_copyOf_9075b_2 : decode cJ7_copyOf_9075b 2 = .ok (.arraylength, 1) := by decide +kernel
theorem dJ7_copyOf_9075b_3 : decode cJ7_copyOf_9075b 3 = .ok (.if_icmp .ne 11, 3) := by decide +kernel
theorem dJ7_copyOf_9075b_14 : decode cJ7_copyOf_9075b 14 = .ok (.iload_n 1, 1) := by decide +kernel
theorem dJ7_copyOf_9075b_15 : decode cJ7_copyOf_9075b 15 = .ok (.newarray .byte, 2) := by decide +kernel
theorem dJ7_copyOf_9075b_17 : decode cJ7_copyOf_9075b 17 = .ok (.astore_n 2, 1) := by decide +kernel
theorem dJ7_copyOf_9075b_18 : decode cJ7_copyOf_9075b 18 = .ok (.aload_n 0, 1) := by decide +kernel
theorem dJ7_copyOf_9075b_19 : decode cJ7_copyOf_9075b 19 = .ok (.iconst 0, 1) := by decide +kernel
theorem dJ7_copyOf_9075b_20 : decode cJ7_copyOf_9075b 20 = .ok (.aload_n 2, 1) := by decide +kernel
theorem dJ7_copyOf_9075b_21 : decode cJ7_copyOf_9075b 21 = .ok (.iconst 0, 1) := by decide +kernel
theorem dJ7_copyOf_9075b_22 : decode cJ7_copyOf_9075b 22 = .ok (.aload_n 0, 1) := by decide +kernel
theorem dJ7_copyOf_9075b_23 : decode cJ7_copyOf_9075b 23 = .ok (.arraylength, 1) := by decide +kernel
theorem dJ7_copyOf_9075b_24 : decode cJ7_copyOf_9075b 24 = .ok (.iload_n 1, 1) := by decide +kernel
theorem dJ7_copyOf_9075b_25 : decode cJ7_copyOf_9075b 25 = .ok (.invokestatic 304, 3) := by decide +kernel
theorem dJ7_copyOf_9075b_28 : decode cJ7_copyOf_9075b 28 = .ok (.invokestatic 150, 3) := by decide +kernel
theorem dJ7_copyOf_9075b_31 : decode cJ7_copyOf_9075b 31 = .ok (.aload_n 2, 1) := by decide +kernel
theorem dJ7_copyOf_9075b_32 : decode cJ7_copyOf_9075b 32 = .ok (.areturn, 1) := by decide +kernel
end
section
theorem dX14_isLetter_0 : decode cX14_isLetter 0 = .ok (.iload_n 0, 1) := by decide +kernel
theorem dX14_isLetter_1 : decode cX14_isLetter 1 = .ok (.bipush 97, 2) := by decide +kernel
theorem dX14_isLetter_3 : decode cX14_isLetter 3 = .ok (.bipush 122, 2) := by decide +kernel
theorem dX14_isLetter_5 : decode cX14_isLetter 5 = .ok (.invokestatic 181, 3) := by decide +kernel
theorem dX14_isLetter_8 : decode cX14_isLetter 8 = .ok (.ifCond .ne 14, 3) := by decide +kernel
theorem dX14_isLetter_11 : decode cX14_isLetter 11 = .ok (.iload_n 0, 1) := by decide +kernel
theorem dX14_isLetter_12 : decode cX14_isLetter 12 = .ok (.bipush 65, 2) := by decide +kernel
theorem dX14_isLetter_14 : decode cX14_isLetter 14 = .ok (.bipush 90, 2) := by decide +kernel
theorem dX14_isLetter_16 : decode cX14_isLetter 16 = .ok (.invokestatic 181, 3) := by decide +kernel
theorem dX14_isLetter_19 : decode cX14_isLetter 19 = .ok (.ifCond .eq 7, 3) := by decide +kernel
theorem dX14_isLetter_22 : decode cX14_isLetter 22 = .ok (.iconst 1, 1) := by decide +kernel
theorem dX14_isLetter_23 : decode cX14_isLetter 23 = .ok (.goto 4, 3) := by decide +kernel
theorem dX14_isLetter_26 : decode cX14_isLetter 26 = .ok (.iconst 0, 1) := by decide +kernel
theorem dX14_isLetter_27 : decode cX14_isLetter 27 = .ok (.ireturn, 1) := by decide +kernel
theorem dX14_isDigit_0 : decode cX14_isDigit 0 = .ok (.iload_n 0, 1) := by decide +kernel
theorem dX14_isDigit_1 : decode cX14_isDigit 1 = .ok (.bipush 48, 2) := by decide +kernel
theorem dX14_isDigit_3 : decode cX14_isDigit 3 = .ok (.bipush 57, 2) := by decide +kernel
theorem dX14_isDigit_5 : decode cX14_isDigit 5 = .ok (.invokestatic 181, 3) := by decide +kernel
theorem dX14_isDigit_8 : decode cX14_isDigit 8 = .ok (.ireturn, 1) := by decide +kernel
end
section
theorem jb_lcmp {x y : Int64} {z : Int32} (h : z = lg_cmp x y) : (y.toInt < x.toInt ∧ z.toInt = 1) ∨ (x.toInt = y.toInt ∧ z.toInt = 0) ∨ (x.toInt < y.toInt ∧ z.toInt = -1) := by
  unfold lg_cmp at h
  by_cases h1 : x > y
  · rw [if_pos h1] at h
    exact Or.inl ⟨Int64.lt_iff_toInt_lt.mp h1, by rw [h]; decide⟩
  · rw [if_neg h1] at h
    by_cases h2 : x = y
    · rw [if_pos h2] at h
      exact Or.inr (Or.inl ⟨by rw [h2], by rw [h]; decide⟩)
    · rw [if_neg h2] at h
      refine Or.inr (Or.inr ⟨?_, by rw [h]; decide⟩)
      have h3 : ¬ y.toInt < x.toInt := fun q => h1 (Int64.lt_iff_toInt_lt.mpr q)
      have h4 : x.toInt ≠ y.toInt := fun q => h2 (Int64.toInt_inj.mp q)
      omega
end
section
theorem jWr_13 : ∀ w ∈ wsL_law_r13, w ∈ jWl := fun w h => jT13 w (List.mem_append_left _ h)
theorem jWr_17 : ∀ w ∈ wsL_law_r17, w ∈ jWl := fun w h => jT17 w (List.mem_append_left _ h)
theorem jWr_34 : ∀ w ∈ wsL_law_r34, w ∈ jWl := fun w h => jT34 w (List.mem_append_left _ h)
theorem jWr_45 : ∀ w ∈ wsL_law_r45, w ∈ jWl := fun w h => jT45 w (List.mem_append_left _ h)
theorem jWr_46 : ∀ w ∈ wsL_law_r46, w ∈ jWl := fun w h => jT46 w (List.mem_append_left _ h)
theorem jWr_47 : ∀ w ∈ wsL_law_r47, w ∈ jWl := fun w h => jT47 w (List.mem_append_left _ h)
theorem jWr_56 : ∀ w ∈ wsL_law_r56, w ∈ jWl := fun w h => jT56 w (List.mem_append_left _ h)
theorem jWr_73 : ∀ w ∈ wsL_law_r73, w ∈ jWl := fun w h => jT73 w (List.mem_append_left _ h)
theorem jWr_74 : ∀ w ∈ wsL_law_r74, w ∈ jWl := fun w h => jT74 w (List.mem_append_left _ h)
theorem jWr_75 : ∀ w ∈ wsL_law_r75, w ∈ jWl := fun w h => jT75 w (List.mem_append_left _ h)
end
section
-- the refined heap: every field of a typed object holds a value of its own predicate, every element of a typed array too; what is known of a field just now is a pin (address, kind, field, value)
theorem jP.lift {D : va_G} {G G1 : jT} {H : Heap} {L : List jPin} (h : jP D G H L) (h1 : jLe G G1) : jP D G1 H L := fun q hq => by
  obtain ⟨⟨n, g⟩, g2⟩ := h q hq
  exact ⟨⟨n, h1 _ _ g⟩, g2⟩
section J7
variable {p : Program} {l : Launch} {e : Env} {R : Room} {s : State} {m : MethodId} {args : Array Value} {below : List Frame} {meth : Method} {c : Code} {H : Heap} {locs : List Loc} {cells slots : Nat} {Q : State → Prop}
variable {cc : ByteArray} {pc : Nat} {ls : Array Slot} {rest : List Value} {dC : Nat → ClassId} {dI : Nat → Nat → Nat} {ca : Nat → ClassId} {B : jF} {base : Nat} {G0 G : jT} {E : List (Nat × Nat)} {H0 : Heap} {zc zs : Nat} {L : List jPin} {M : List jCt} {I : List jIv} {a k n i index N : Nat} {tys : List (ClassId × FieldType)} {own C : String} {T : u_T}
end J7
section J8
variable {p : Program} {l : Launch} {e : Env} {R : Room} {s : State} {m : MethodId} {args : Array Value} {below : List Frame} {meth : Method} {c : Code} {H : Heap} {locs : List Loc} {cells slots : Nat} {Q : State → Prop}
variable {cc : ByteArray} {pc : Nat} {ls : Array Slot} {rest : List Value} {dC : Nat → ClassId} {dI : Nat → Nat → Nat} {ca : Nat → ClassId} {B : jF} {base : Nat} {G0 G : jT} {E : List (Nat × Nat)} {H0 : Heap} {zc zs : Nat} {L : List jPin} {M : List jCt} {I : List jIv} {a k n : Nat} {P : Nat → Int32 → Prop} {cA : ClassId} {tys : List (ClassId × FieldType)}
theorem j7_len (hexec : p.tables.exec = Jvm.exec) (hb : c.code = cc) (hK : va_K (dC, dI) vwCl tys s) (hh : jSt (dC, dI) B base G0 G E H0 zc zs L M I H locs) (hBk : ∀ n G a H, B k n G a H ↔ jAr (dC, dI) cA P n a H) (t0 : Nat) {ty : FieldType} (ht : tys[t0]? = some (cA, ty)) (hk : k < 1000) (ha : G a = some (k, n)) (hn : n < 2147483648) (hdg : decode cc pc = .ok (.arraylength, 1))
    (kk : ∀ z : Int32, z.toInt = n → W p l e R s m args below meth c H locs cells slots Q (F0 m (pc + 1) ls (.int z :: rest))) : W p l e R s m args below meth c H locs cells slots Q (F0 m pc ls (.ref a :: rest)) := by
  obtain ⟨f, h1, -⟩ := hh.ar hBk hk ha
  exact va_alen (v := Int32.ofNat n) hexec hb hK (jp_one h1) 0 t0 rfl ht rfl hdg (kk _ (jb_nat hn))
end J8
end
section
theorem dJ0_indexOf_0f7a4_0 : decode cJ0_indexOf_0f7a4 0 = .ok (.aload_n 0, 1) := by decide +kernel
theorem dJ0_indexOf_0f7a4_1 : decode cJ0_indexOf_0f7a4 1 = .ok (.iload_n 1, 1) := by decide +kernel
theorem dJ0_indexOf_0f7a4_2 : decode cJ0_indexOf_0f7a4 2 = .ok (.iconst 0, 1) := by decide +kernel
theorem dJ0_indexOf_0f7a4_3 : decode cJ0_indexOf_0f7a4 3 = .ok (.invokevirtual 633, 3) := by decide +kernel
theorem dJ0_indexOf_0f7a4_6 : decode cJ0_indexOf_0f7a4 6 = .ok (.ireturn, 1) := by decide +kernel
end
section
theorem dX14_here_0 : decode cX14_here 0 = .ok (.aload_n 0, 1) := by decide +kernel
theorem dX14_here_1 : decode cX14_here 1 = .ok (.getfield 273, 3) := by decide +kernel
theorem dX14_here_4 : decode cX14_here 4 = .ok (.aload_n 0, 1) := by decide +kernel
theorem dX14_here_5 : decode cX14_here 5 = .ok (.getfield 276, 3) := by decide +kernel
theorem dX14_here_8 : decode cX14_here 8 = .ok (.if_icmp .ge 15, 3) := by decide +kernel
theorem dX14_here_11 : decode cX14_here 11 = .ok (.aload_n 0, 1) := by decide +kernel
theorem dX14_here_12 : decode cX14_here 12 = .ok (.getfield 20, 3) := by decide +kernel
theorem dX14_here_15 : decode cX14_here 15 = .ok (.aload_n 0, 1) := by decide +kernel
theorem dX14_here_16 : decode cX14_here 16 = .ok (.getfield 273, 3) := by decide +kernel
theorem dX14_here_19 : decode cX14_here 19 = .ok (.iaload, 1) := by decide +kernel
theorem dX14_here_20 : decode cX14_here 20 = .ok (.goto 4, 3) := by decide +kernel
theorem dX14_here_23 : decode cX14_here 23 = .ok (.iconst (-1), 1) := by decide +kernel
theorem dX14_here_24 : decode cX14_here 24 = .ok (.ireturn, 1) := by decide +kernel
theorem dX14_blanks_0 : decode cX14_blanks 0 = .ok (.aload_n 0, 1) := by decide +kernel
theorem dX14_blanks_1 : decode cX14_blanks 1 = .ok (.invokevirtual 279, 3) := by decide +kernel
theorem dX14_blanks_4 : decode cX14_blanks 4 = .ok (.bipush 32, 2) := by decide +kernel
theorem dX14_blanks_6 : decode cX14_blanks 6 = .ok (.if_icmp .eq 30, 3) := by decide +kernel
theorem dX14_blanks_9 : decode cX14_blanks 9 = .ok (.aload_n 0, 1) := by decide +kernel
theorem dX14_blanks_10 : decode cX14_blanks 10 = .ok (.invokevirtual 279, 3) := by decide +kernel
theorem dX14_blanks_13 : decode cX14_blanks 13 = .ok (.bipush 9, 2) := by decide +kernel
theorem dX14_blanks_15 : decode cX14_blanks 15 = .ok (.if_icmp .eq 21, 3) := by decide +kernel
theorem dX14_blanks_18 : decode cX14_blanks 18 = .ok (.aload_n 0, 1) := by decide +kernel
theorem dX14_blanks_19 : decode cX14_blanks 19 = .ok (.invokevirtual 279, 3) := by decide +kernel
theorem dX14_blanks_22 : decode cX14_blanks 22 = .ok (.bipush 10, 2) := by decide +kernel
theorem dX14_blanks_24 : decode cX14_blanks 24 = .ok (.if_icmp .eq 12, 3) := by decide +kernel
theorem dX14_blanks_27 : decode cX14_blanks 27 = .ok (.aload_n 0, 1) := by decide +kernel
theorem dX14_blanks_28 : decode cX14_blanks 28 = .ok (.invokevirtual 279, 3) := by decide +kernel
theorem dX14_blanks_31 : decode cX14_blanks 31 = .ok (.bipush 13, 2) := by decide +kernel
theorem dX14_blanks_33 : decode cX14_blanks 33 = .ok (.if_icmp .ne 16, 3) := by decide +kernel
theorem dX14_blanks_36 : decode cX14_blanks 36 = .ok (.aload_n 0, 1) := by decide +kernel
theorem dX14_blanks_37 : decode cX14_blanks 37 = .ok (.dup, 1) := by decide +kernel
theorem dX14_blanks_38 : decode cX14_blanks 38 = .ok (.getfield 273, 3) := by decide +kernel
theorem dX14_blanks_41 : decode cX14_blanks 41 = .ok (.iconst 1, 1) := by decide +kernel
theorem dX14_blanks_42 : decode cX14_blanks 42 = .ok (.iadd, 1) := by decide +kernel
theorem dX14_blanks_43 : decode cX14_blanks 43 = .ok (.putfield 273, 3) := by decide +kernel
theorem dX14_blanks_46 : decode cX14_blanks 46 = .ok (.goto (-46), 3) := by decide +kernel
theorem dX14_blanks_49 : decode cX14_blanks 49 = .ok (.return_, 1) := by decide +kernel
theorem dX14_node_0 : decode cX14_node 0 = .ok (.aload_n 0, 1) := by decide +kernel
theorem dX14_node_1 : decode cX14_node 1 = .ok (.getfield 37, 3) := by decide +kernel
theorem dX14_node_4 : decode cX14_node 4 = .ok (.aload_n 0, 1) := by decide +kernel
theorem dX14_node_5 : decode cX14_node 5 = .ok (.getfield 282, 3) := by decide +kernel
theorem dX14_node_8 : decode cX14_node 8 = .ok (.iload_n 1, 1) := by decide +kernel
theorem dX14_node_9 : decode cX14_node 9 = .ok (.iastore, 1) := by decide +kernel
theorem dX14_node_10 : decode cX14_node 10 = .ok (.aload_n 0, 1) := by decide +kernel
theorem dX14_node_11 : decode cX14_node 11 = .ok (.getfield 40, 3) := by decide +kernel
theorem dX14_node_14 : decode cX14_node 14 = .ok (.aload_n 0, 1) := by decide +kernel
theorem dX14_node_15 : decode cX14_node 15 = .ok (.getfield 282, 3) := by decide +kernel
theorem dX14_node_18 : decode cX14_node 18 = .ok (.iconst (-1), 1) := by decide +kernel
theorem dX14_node_19 : decode cX14_node 19 = .ok (.iastore, 1) := by decide +kernel
theorem dX14_node_20 : decode cX14_node 20 = .ok (.aload_n 0, 1) := by decide +kernel
theorem dX14_node_21 : decode cX14_node 21 = .ok (.getfield 43, 3) := by decide +kernel
theorem dX14_node_24 : decode cX14_node 24 = .ok (.aload_n 0, 1) := by decide +kernel
theorem dX14_node_25 : decode cX14_node 25 = .ok (.getfield 282, 3) := by decide +kernel
theorem dX14_node_28 : decode cX14_node 28 = .ok (.iconst (-1), 1) := by decide +kernel
theorem dX14_node_29 : decode cX14_node 29 = .ok (.iastore, 1) := by decide +kernel
theorem dX14_node_30 : decode cX14_node 30 = .ok (.aload_n 0, 1) := by decide +kernel
theorem dX14_node_31 : decode cX14_node 31 = .ok (.getfield 58, 3) := by decide +kernel
theorem dX14_node_34 : decode cX14_node 34 = .ok (.aload_n 0, 1) := by decide +kernel
theorem dX14_node_35 : decode cX14_node 35 = .ok (.getfield 282, 3) := by decide +kernel
theorem dX14_node_38 : decode cX14_node 38 = .ok (.iconst 0, 1) := by decide +kernel
theorem dX14_node_39 : decode cX14_node 39 = .ok (.bastore, 1) := by decide +kernel
theorem dX14_node_40 : decode cX14_node 40 = .ok (.aload_n 0, 1) := by decide +kernel
theorem dX14_node_41 : decode cX14_node 41 = .ok (.dup, 1) := by decide +kernel
theorem dX14_node_42 : decode cX14_node 42 = .ok (.getfield 282, 3) := by decide +kernel
theorem dX14_node_45 : decode cX14_node 45 = .ok (.iconst 1, 1) := by decide +kernel
theorem dX14_node_46 : decode cX14_node 46 = .ok (.iadd, 1) := by decide +kernel
theorem dX14_node_47 : decode cX14_node 47 = .ok (.putfield 282, 3) := by decide +kernel
theorem dX14_node_50 : decode cX14_node 50 = .ok (.aload_n 0, 1) := by decide +kernel
theorem dX14_node_51 : decode cX14_node 51 = .ok (.getfield 282, 3) := by decide +kernel
theorem dX14_node_54 : decode cX14_node 54 = .ok (.iconst 1, 1) := by decide +kernel
theorem dX14_node_55 : decode cX14_node 55 = .ok (.isub, 1) := by decide +kernel
theorem dX14_node_56 : decode cX14_node 56 = .ok (.ireturn, 1) := by decide +kernel
theorem dX14_takes_0 : decode cX14_takes 0 = .ok (.iconst 0, 1) := by decide +kernel
theorem dX14_takes_1 : decode cX14_takes 1 = .ok (.istore_n 2, 1) := by decide +kernel
theorem dX14_takes_2 : decode cX14_takes 2 = .ok (.iload_n 2, 1) := by decide +kernel
theorem dX14_takes_3 : decode cX14_takes 3 = .ok (.aload_n 1, 1) := by decide +kernel
theorem dX14_takes_4 : decode cX14_takes 4 = .ok (.invokevirtual 163, 3) := by decide +kernel
theorem dX14_takes_7 : decode cX14_takes 7 = .ok (.if_icmp .ge 43, 3) := by decide +kernel
theorem dX14_takes_10 : decode cX14_takes 10 = .ok (.aload_n 0, 1) := by decide +kernel
theorem dX14_takes_11 : decode cX14_takes 11 = .ok (.getfield 273, 3) := by decide +kernel
theorem dX14_takes_14 : decode cX14_takes 14 = .ok (.iload_n 2, 1) := by decide +kernel
theorem dX14_takes_15 : decode cX14_takes 15 = .ok (.iadd, 1) := by decide +kernel
theorem dX14_takes_16 : decode cX14_takes 16 = .ok (.aload_n 0, 1) := by decide +kernel
theorem dX14_takes_17 : decode cX14_takes 17 = .ok (.getfield 276, 3) := by decide +kernel
theorem dX14_takes_20 : decode cX14_takes 20 = .ok (.if_icmp .ge 22, 3) := by decide +kernel
theorem dX14_takes_23 : decode cX14_takes 23 = .ok (.aload_n 0, 1) := by decide +kernel
theorem dX14_takes_24 : decode cX14_takes 24 = .ok (.getfield 20, 3) := by decide +kernel
theorem dX14_takes_27 : decode cX14_takes 27 = .ok (.aload_n 0, 1) := by decide +kernel
theorem dX14_takes_28 : decode cX14_takes 28 = .ok (.getfield 273, 3) := by decide +kernel
theorem dX14_takes_31 : decode cX14_takes 31 = .ok (.iload_n 2, 1) := by decide +kernel
theorem dX14_takes_32 : decode cX14_takes 32 = .ok (.iadd, 1) := by decide +kernel
theorem dX14_takes_33 : decode cX14_takes 33 = .ok (.iaload, 1) := by decide +kernel
theorem dX14_takes_34 : decode cX14_takes 34 = .ok (.aload_n 1, 1) := by decide +kernel
theorem dX14_takes_35 : decode cX14_takes 35 = .ok (.iload_n 2, 1) := by decide +kernel
theorem dX14_takes_36 : decode cX14_takes 36 = .ok (.invokevirtual 168, 3) := by decide +kernel
theorem dX14_takes_39 : decode cX14_takes 39 = .ok (.if_icmp .eq 5, 3) := by decide +kernel
theorem dX14_takes_42 : decode cX14_takes 42 = .ok (.iconst 0, 1) := by decide +kernel
theorem dX14_takes_43 : decode cX14_takes 43 = .ok (.ireturn, 1) := by decide +kernel
theorem dX14_takes_44 : decode cX14_takes 44 = .ok (.iinc 2 1, 3) := by decide +kernel
theorem dX14_takes_47 : decode cX14_takes 47 = .ok (.goto (-45), 3) := by decide +kernel
theorem dX14_takes_50 : decode cX14_takes 50 = .ok (.aload_n 0, 1) := by decide +kernel
theorem dX14_takes_51 : decode cX14_takes 51 = .ok (.dup, 1) := by decide +kernel
theorem dX14_takes_52 : decode cX14_takes 52 = .ok (.getfield 273, 3) := by decide +kernel
theorem dX14_takes_55 : decode cX14_takes 55 = .ok (.aload_n 1, 1) := by decide +kernel
theorem dX14_takes_56 : decode cX14_takes 56 = .ok (.invokevirtual 163, 3) := by decide +kernel
theorem dX14_takes_59 : decode cX14_takes 59 = .ok (.iadd, 1) := by decide +kernel
theorem dX14_takes_60 : decode cX14_takes 60 = .ok (.putfield 273, 3) := by decide +kernel
theorem dX14_takes_63 : decode cX14_takes 63 = .ok (.iconst 1, 1) := by decide +kernel
theorem dX14_takes_64 : decode cX14_takes 64 = .ok (.ireturn, 1) := by decide +kernel
theorem dX14_digits_0 : decode cX14_digits 0 = .ok (.aload_n 0, 1) := by decide +kernel
theorem dX14_digits_1 : decode cX14_digits 1 = .ok (.invokevirtual 279, 3) := by decide +kernel
theorem dX14_digits_4 : decode cX14_digits 4 = .ok (.invokestatic 224, 3) := by decide +kernel
theorem dX14_digits_7 : decode cX14_digits 7 = .ok (.ifCond .ne 8, 3) := by decide +kernel
theorem dX14_digits_10 : decode cX14_digits 10 = .ok (.aload_n 0, 1) := by decide +kernel
theorem dX14_digits_11 : decode cX14_digits 11 = .ok (.iconst 1, 1) := by decide +kernel
theorem dX14_digits_12 : decode cX14_digits 12 = .ok (.putfield 288, 3) := by decide +kernel
theorem dX14_digits_15 : decode cX14_digits 15 = .ok (.aload_n 0, 1) := by decide +kernel
theorem dX14_digits_16 : decode cX14_digits 16 = .ok (.invokevirtual 279, 3) := by decide +kernel
theorem dX14_digits_19 : decode cX14_digits 19 = .ok (.invokestatic 224, 3) := by decide +kernel
theorem dX14_digits_22 : decode cX14_digits 22 = .ok (.ifCond .eq 16, 3) := by decide +kernel
theorem dX14_digits_25 : decode cX14_digits 25 = .ok (.aload_n 0, 1) := by decide +kernel
theorem dX14_digits_26 : decode cX14_digits 26 = .ok (.dup, 1) := by decide +kernel
theorem dX14_digits_27 : decode cX14_digits 27 = .ok (.getfield 273, 3) := by decide +kernel
theorem dX14_digits_30 : decode cX14_digits 30 = .ok (.iconst 1, 1) := by decide +kernel
theorem dX14_digits_31 : decode cX14_digits 31 = .ok (.iadd, 1) := by decide +kernel
theorem dX14_digits_32 : decode cX14_digits 32 = .ok (.putfield 273, 3) := by decide +kernel
theorem dX14_digits_35 : decode cX14_digits 35 = .ok (.goto (-20), 3) := by decide +kernel
theorem dX14_digits_38 : decode cX14_digits 38 = .ok (.return_, 1) := by decide +kernel
theorem dX14_unit_0 : decode cX14_unit 0 = .ok (.iload_n 1, 1) := by decide +kernel
theorem dX14_unit_1 : decode cX14_unit 1 = .ok (.ldc_w 333, 3) := by decide +kernel
theorem dX14_unit_4 : decode cX14_unit 4 = .ok (.if_icmp .le 57, 3) := by decide +kernel
theorem dX14_unit_7 : decode cX14_unit 7 = .ok (.aload_n 0, 1) := by decide +kernel
theorem dX14_unit_8 : decode cX14_unit 8 = .ok (.getfield 65, 3) := by decide +kernel
theorem dX14_unit_11 : decode cX14_unit 11 = .ok (.aload_n 0, 1) := by decide +kernel
theorem dX14_unit_12 : decode cX14_unit 12 = .ok (.getfield 304, 3) := by decide +kernel
theorem dX14_unit_15 : decode cX14_unit 15 = .ok (.ldc 179, 2) := by decide +kernel
theorem dX14_unit_17 : decode cX14_unit 17 = .ok (.iload_n 1, 1) := by decide +kernel
theorem dX14_unit_18 : decode cX14_unit 18 = .ok (.ldc 197, 2) := by decide +kernel
theorem dX14_unit_20 : decode cX14_unit 20 = .ok (.isub, 1) := by decide +kernel
theorem dX14_unit_21 : decode cX14_unit 21 = .ok (.bipush 10, 2) := by decide +kernel
theorem dX14_unit_23 : decode cX14_unit 23 = .ok (.ishr, 1) := by decide +kernel
theorem dX14_unit_24 : decode cX14_unit 24 = .ok (.iadd, 1) := by decide +kernel
theorem dX14_unit_25 : decode cX14_unit 25 = .ok (.iastore, 1) := by decide +kernel
theorem dX14_unit_26 : decode cX14_unit 26 = .ok (.aload_n 0, 1) := by decide +kernel
theorem dX14_unit_27 : decode cX14_unit 27 = .ok (.getfield 65, 3) := by decide +kernel
theorem dX14_unit_30 : decode cX14_unit 30 = .ok (.aload_n 0, 1) := by decide +kernel
theorem dX14_unit_31 : decode cX14_unit 31 = .ok (.getfield 304, 3) := by decide +kernel
theorem dX14_unit_34 : decode cX14_unit 34 = .ok (.iconst 1, 1) := by decide +kernel
theorem dX14_unit_35 : decode cX14_unit 35 = .ok (.iadd, 1) := by decide +kernel
theorem dX14_unit_36 : decode cX14_unit 36 = .ok (.ldc 185, 2) := by decide +kernel
theorem dX14_unit_38 : decode cX14_unit 38 = .ok (.iload_n 1, 1) := by decide +kernel
theorem dX14_unit_39 : decode cX14_unit 39 = .ok (.ldc 197, 2) := by decide +kernel
theorem dX14_unit_41 : decode cX14_unit 41 = .ok (.isub, 1) := by decide +kernel
theorem dX14_unit_42 : decode cX14_unit 42 = .ok (.sipush 1023, 3) := by decide +kernel
theorem dX14_unit_45 : decode cX14_unit 45 = .ok (.iand, 1) := by decide +kernel
theorem dX14_unit_46 : decode cX14_unit 46 = .ok (.iadd, 1) := by decide +kernel
theorem dX14_unit_47 : decode cX14_unit 47 = .ok (.iastore, 1) := by decide +kernel
theorem dX14_unit_48 : decode cX14_unit 48 = .ok (.aload_n 0, 1) := by decide +kernel
theorem dX14_unit_49 : decode cX14_unit 49 = .ok (.dup, 1) := by decide +kernel
theorem dX14_unit_50 : decode cX14_unit 50 = .ok (.getfield 304, 3) := by decide +kernel
theorem dX14_unit_53 : decode cX14_unit 53 = .ok (.iconst 2, 1) := by decide +kernel
theorem dX14_unit_54 : decode cX14_unit 54 = .ok (.iadd, 1) := by decide +kernel
theorem dX14_unit_55 : decode cX14_unit 55 = .ok (.putfield 304, 3) := by decide +kernel
theorem dX14_unit_58 : decode cX14_unit 58 = .ok (.goto 23, 3) := by decide +kernel
theorem dX14_unit_61 : decode cX14_unit 61 = .ok (.aload_n 0, 1) := by decide +kernel
theorem dX14_unit_62 : decode cX14_unit 62 = .ok (.getfield 65, 3) := by decide +kernel
theorem dX14_unit_65 : decode cX14_unit 65 = .ok (.aload_n 0, 1) := by decide +kernel
theorem dX14_unit_66 : decode cX14_unit 66 = .ok (.getfield 304, 3) := by decide +kernel
theorem dX14_unit_69 : decode cX14_unit 69 = .ok (.iload_n 1, 1) := by decide +kernel
theorem dX14_unit_70 : decode cX14_unit 70 = .ok (.iastore, 1) := by decide +kernel
theorem dX14_unit_71 : decode cX14_unit 71 = .ok (.aload_n 0, 1) := by decide +kernel
theorem dX14_unit_72 : decode cX14_unit 72 = .ok (.dup, 1) := by decide +kernel
theorem dX14_unit_73 : decode cX14_unit 73 = .ok (.getfield 304, 3) := by decide +kernel
theorem dX14_unit_76 : decode cX14_unit 76 = .ok (.iconst 1, 1) := by decide +kernel
theorem dX14_unit_77 : decode cX14_unit 77 = .ok (.iadd, 1) := by decide +kernel
theorem dX14_unit_78 : decode cX14_unit 78 = .ok (.putfield 304, 3) := by decide +kernel
theorem dX14_unit_81 : decode cX14_unit 81 = .ok (.return_, 1) := by decide +kernel
theorem dX14_hexOf_0 : decode cX14_hexOf 0 = .ok (.iload_n 0, 1) := by decide +kernel
theorem dX14_hexOf_1 : decode cX14_hexOf 1 = .ok (.invokestatic 224, 3) := by decide +kernel
theorem dX14_hexOf_4 : decode cX14_hexOf 4 = .ok (.ifCond .eq 10, 3) := by decide +kernel
theorem dX14_hexOf_7 : decode cX14_hexOf 7 = .ok (.iload_n 0, 1) := by decide +kernel
theorem dX14_hexOf_8 : decode cX14_hexOf 8 = .ok (.bipush 48, 2) := by decide +kernel
theorem dX14_hexOf_10 : decode cX14_hexOf 10 = .ok (.isub, 1) := by decide +kernel
theorem dX14_hexOf_11 : decode cX14_hexOf 11 = .ok (.goto 46, 3) := by decide +kernel
theorem dX14_hexOf_14 : decode cX14_hexOf 14 = .ok (.iload_n 0, 1) := by decide +kernel
theorem dX14_hexOf_15 : decode cX14_hexOf 15 = .ok (.bipush 97, 2) := by decide +kernel
theorem dX14_hexOf_17 : decode cX14_hexOf 17 = .ok (.bipush 102, 2) := by decide +kernel
theorem dX14_hexOf_19 : decode cX14_hexOf 19 = .ok (.invokestatic 181, 3) := by decide +kernel
theorem dX14_hexOf_22 : decode cX14_hexOf 22 = .ok (.ifCond .eq 13, 3) := by decide +kernel
theorem dX14_hexOf_25 : decode cX14_hexOf 25 = .ok (.iload_n 0, 1) := by decide +kernel
theorem dX14_hexOf_26 : decode cX14_hexOf 26 = .ok (.bipush 97, 2) := by decide +kernel
theorem dX14_hexOf_28 : decode cX14_hexOf 28 = .ok (.isub, 1) := by decide +kernel
theorem dX14_hexOf_29 : decode cX14_hexOf 29 = .ok (.bipush 10, 2) := by decide +kernel
theorem dX14_hexOf_31 : decode cX14_hexOf 31 = .ok (.iadd, 1) := by decide +kernel
theorem dX14_hexOf_32 : decode cX14_hexOf 32 = .ok (.goto 25, 3) := by decide +kernel
theorem dX14_hexOf_35 : decode cX14_hexOf 35 = .ok (.iload_n 0, 1) := by decide +kernel
theorem dX14_hexOf_36 : decode cX14_hexOf 36 = .ok (.bipush 65, 2) := by decide +kernel
theorem dX14_hexOf_38 : decode cX14_hexOf 38 = .ok (.bipush 70, 2) := by decide +kernel
theorem dX14_hexOf_40 : decode cX14_hexOf 40 = .ok (.invokestatic 181, 3) := by decide +kernel
theorem dX14_hexOf_43 : decode cX14_hexOf 43 = .ok (.ifCond .eq 13, 3) := by decide +kernel
theorem dX14_hexOf_46 : decode cX14_hexOf 46 = .ok (.iload_n 0, 1) := by decide +kernel
theorem dX14_hexOf_47 : decode cX14_hexOf 47 = .ok (.bipush 65, 2) := by decide +kernel
theorem dX14_hexOf_49 : decode cX14_hexOf 49 = .ok (.isub, 1) := by decide +kernel
theorem dX14_hexOf_50 : decode cX14_hexOf 50 = .ok (.bipush 10, 2) := by decide +kernel
theorem dX14_hexOf_52 : decode cX14_hexOf 52 = .ok (.iadd, 1) := by decide +kernel
theorem dX14_hexOf_53 : decode cX14_hexOf 53 = .ok (.goto 4, 3) := by decide +kernel
theorem dX14_hexOf_56 : decode cX14_hexOf 56 = .ok (.iconst (-1), 1) := by decide +kernel
theorem dX14_hexOf_57 : decode cX14_hexOf 57 = .ok (.ireturn, 1) := by decide +kernel
theorem dX14_four_0 : decode cX14_four 0 = .ok (.iconst 0, 1) := by decide +kernel
theorem dX14_four_1 : decode cX14_four 1 = .ok (.istore_n 1, 1) := by decide +kernel
theorem dX14_four_2 : decode cX14_four 2 = .ok (.iconst 0, 1) := by decide +kernel
theorem dX14_four_3 : decode cX14_four 3 = .ok (.istore_n 2, 1) := by decide +kernel
theorem dX14_four_4 : decode cX14_four 4 = .ok (.iload_n 2, 1) := by decide +kernel
theorem dX14_four_5 : decode cX14_four 5 = .ok (.iconst 4, 1) := by decide +kernel
theorem dX14_four_6 : decode cX14_four 6 = .ok (.if_icmp .ge 45, 3) := by decide +kernel
theorem dX14_four_9 : decode cX14_four 9 = .ok (.aload_n 0, 1) := by decide +kernel
theorem dX14_four_10 : decode cX14_four 10 = .ok (.invokevirtual 279, 3) := by decide +kernel
theorem dX14_four_13 : decode cX14_four 13 = .ok (.invokestatic 334, 3) := by decide +kernel
theorem dX14_four_16 : decode cX14_four 16 = .ok (.istore_n 3, 1) := by decide +kernel
theorem dX14_four_17 : decode cX14_four 17 = .ok (.iload_n 3, 1) := by decide +kernel
theorem dX14_four_18 : decode cX14_four 18 = .ok (.ifCond .ge 10, 3) := by decide +kernel
theorem dX14_four_21 : decode cX14_four 21 = .ok (.aload_n 0, 1) := by decide +kernel
theorem dX14_four_22 : decode cX14_four 22 = .ok (.iconst 1, 1) := by decide +kernel
theorem dX14_four_23 : decode cX14_four 23 = .ok (.putfield 288, 3) := by decide +kernel
theorem dX14_four_26 : decode cX14_four 26 = .ok (.iconst (-1), 1) := by decide +kernel
theorem dX14_four_27 : decode cX14_four 27 = .ok (.ireturn, 1) := by decide +kernel
theorem dX14_four_28 : decode cX14_four 28 = .ok (.bipush 16, 2) := by decide +kernel
theorem dX14_four_30 : decode cX14_four 30 = .ok (.iload_n 1, 1) := by decide +kernel
theorem dX14_four_31 : decode cX14_four 31 = .ok (.imul, 1) := by decide +kernel
theorem dX14_four_32 : decode cX14_four 32 = .ok (.iload_n 3, 1) := by decide +kernel
theorem dX14_four_33 : decode cX14_four 33 = .ok (.iadd, 1) := by decide +kernel
theorem dX14_four_34 : decode cX14_four 34 = .ok (.istore_n 1, 1) := by decide +kernel
theorem dX14_four_35 : decode cX14_four 35 = .ok (.aload_n 0, 1) := by decide +kernel
theorem dX14_four_36 : decode cX14_four 36 = .ok (.dup, 1) := by decide +kernel
theorem dX14_four_37 : decode cX14_four 37 = .ok (.getfield 273, 3) := by decide +kernel
theorem dX14_four_40 : decode cX14_four 40 = .ok (.iconst 1, 1) := by decide +kernel
theorem dX14_four_41 : decode cX14_four 41 = .ok (.iadd, 1) := by decide +kernel
theorem dX14_four_42 : decode cX14_four 42 = .ok (.putfield 273, 3) := by decide +kernel
theorem dX14_four_45 : decode cX14_four 45 = .ok (.iinc 2 1, 3) := by decide +kernel
theorem dX14_four_48 : decode cX14_four 48 = .ok (.goto (-44), 3) := by decide +kernel
theorem dX14_four_51 : decode cX14_four 51 = .ok (.iload_n 1, 1) := by decide +kernel
theorem dX14_four_52 : decode cX14_four 52 = .ok (.ireturn, 1) := by decide +kernel
end
section
theorem dX14_readNumber_0 : decode cX14_readNumber 0 = .ok (.aload_n 0, 1) := by decide +kernel
theorem dX14_readNumber_1 : decode cX14_readNumber 1 = .ok (.iconst 3, 1) := by decide +kernel
theorem dX14_readNumber_2 : decode cX14_readNumber 2 = .ok (.invokevirtual 295, 3) := by decide +kernel
theorem dX14_readNumber_5 : decode cX14_readNumber 5 = .ok (.istore_n 1, 1) := by decide +kernel
theorem dX14_readNumber_6 : decode cX14_readNumber 6 = .ok (.aload_n 0, 1) := by decide +kernel
theorem dX14_readNumber_7 : decode cX14_readNumber 7 = .ok (.invokevirtual 279, 3) := by decide +kernel
theorem dX14_readNumber_10 : decode cX14_readNumber 10 = .ok (.bipush 45, 2) := by decide +kernel
theorem dX14_readNumber_12 : decode cX14_readNumber 12 = .ok (.if_icmp .ne 7, 3) := by decide +kernel
theorem dX14_readNumber_15 : decode cX14_readNumber 15 = .ok (.iconst 1, 1) := by decide +kernel
theorem dX14_readNumber_16 : decode cX14_readNumber 16 = .ok (.goto 4, 3) := by decide +kernel
theorem dX14_readNumber_19 : decode cX14_readNumber 19 = .ok (.iconst 0, 1) := by decide +kernel
theorem dX14_readNumber_20 : decode cX14_readNumber 20 = .ok (.istore_n 2, 1) := by decide +kernel
theorem dX14_readNumber_21 : decode cX14_readNumber 21 = .ok (.iload_n 2, 1) := by decide +kernel
theorem dX14_readNumber_22 : decode cX14_readNumber 22 = .ok (.ifCond .eq 13, 3) := by decide +kernel
theorem dX14_readNumber_25 : decode cX14_readNumber 25 = .ok (.aload_n 0, 1) := by decide +kernel
theorem dX14_readNumber_26 : decode cX14_readNumber 26 = .ok (.dup, 1) := by decide +kernel
theorem dX14_readNumber_27 : decode cX14_readNumber 27 = .ok (.getfield 273, 3) := by decide +kernel
theorem dX14_readNumber_30 : decode cX14_readNumber 30 = .ok (.iconst 1, 1) := by decide +kernel
theorem dX14_readNumber_31 : decode cX14_readNumber 31 = .ok (.iadd, 1) := by decide +kernel
theorem dX14_readNumber_32 : decode cX14_readNumber 32 = .ok (.putfield 273, 3) := by decide +kernel
theorem dX14_readNumber_35 : decode cX14_readNumber 35 = .ok (.aload_n 0, 1) := by decide +kernel
theorem dX14_readNumber_36 : decode cX14_readNumber 36 = .ok (.getfield 273, 3) := by decide +kernel
theorem dX14_readNumber_39 : decode cX14_readNumber 39 = .ok (.istore_n 3, 1) := by decide +kernel
theorem dX14_readNumber_40 : decode cX14_readNumber 40 = .ok (.lconst 0, 1) := by decide +kernel
theorem dX14_readNumber_41 : decode cX14_readNumber 41 = .ok (.lstore 4, 2) := by decide +kernel
theorem dX14_readNumber_43 : decode cX14_readNumber 43 = .ok (.aload_n 0, 1) := by decide +kernel
theorem dX14_readNumber_44 : decode cX14_readNumber 44 = .ok (.invokevirtual 279, 3) := by decide +kernel
theorem dX14_readNumber_47 : decode cX14_readNumber 47 = .ok (.invokestatic 224, 3) := by decide +kernel
theorem dX14_readNumber_50 : decode cX14_readNumber 50 = .ok (.ifCond .eq 48, 3) := by decide +kernel
theorem dX14_readNumber_53 : decode cX14_readNumber 53 = .ok (.lload 4, 2) := by decide +kernel
theorem dX14_readNumber_55 : decode cX14_readNumber 55 = .ok (.ldc2_w 320, 3) := by decide +kernel
theorem dX14_readNumber_58 : decode cX14_readNumber 58 = .ok (.lcmp, 1) := by decide +kernel
theorem dX14_readNumber_59 : decode cX14_readNumber 59 = .ok (.ifCond .le 8, 3) := by decide +kernel
theorem dX14_readNumber_62 : decode cX14_readNumber 62 = .ok (.lload 4, 2) := by decide +kernel
theorem dX14_readNumber_64 : decode cX14_readNumber 64 = .ok (.goto 19, 3) := by decide +kernel
theorem dX14_readNumber_67 : decode cX14_readNumber 67 = .ok (.ldc2_w 322, 3) := by decide +kernel
theorem dX14_readNumber_70 : decode cX14_readNumber 70 = .ok (.lload 4, 2) := by decide +kernel
theorem dX14_readNumber_72 : decode cX14_readNumber 72 = .ok (.lmul, 1) := by decide +kernel
theorem dX14_readNumber_73 : decode cX14_readNumber 73 = .ok (.aload_n 0, 1) := by decide +kernel
theorem dX14_readNumber_74 : decode cX14_readNumber 74 = .ok (.invokevirtual 279, 3) := by decide +kernel
theorem dX14_readNumber_77 : decode cX14_readNumber 77 = .ok (.i2l, 1) := by decide +kernel
theorem dX14_readNumber_78 : decode cX14_readNumber 78 = .ok (.ladd, 1) := by decide +kernel
theorem dX14_readNumber_79 : decode cX14_readNumber 79 = .ok (.ldc2_w 324, 3) := by decide +kernel
theorem dX14_readNumber_82 : decode cX14_readNumber 82 = .ok (.lsub, 1) := by decide +kernel
theorem dX14_readNumber_83 : decode cX14_readNumber 83 = .ok (.lstore 4, 2) := by decide +kernel
theorem dX14_readNumber_85 : decode cX14_readNumber 85 = .ok (.aload_n 0, 1) := by decide +kernel
theorem dX14_readNumber_86 : decode cX14_readNumber 86 = .ok (.dup, 1) := by decide +kernel
theorem dX14_readNumber_87 : decode cX14_readNumber 87 = .ok (.getfield 273, 3) := by decide +kernel
theorem dX14_readNumber_90 : decode cX14_readNumber 90 = .ok (.iconst 1, 1) := by decide +kernel
theorem dX14_readNumber_91 : decode cX14_readNumber 91 = .ok (.iadd, 1) := by decide +kernel
theorem dX14_readNumber_92 : decode cX14_readNumber 92 = .ok (.putfield 273, 3) := by decide +kernel
theorem dX14_readNumber_95 : decode cX14_readNumber 95 = .ok (.goto (-52), 3) := by decide +kernel
theorem dX14_readNumber_98 : decode cX14_readNumber 98 = .ok (.aload_n 0, 1) := by decide +kernel
theorem dX14_readNumber_99 : decode cX14_readNumber 99 = .ok (.getfield 273, 3) := by decide +kernel
theorem dX14_readNumber_102 : decode cX14_readNumber 102 = .ok (.iload_n 3, 1) := by decide +kernel
theorem dX14_readNumber_103 : decode cX14_readNumber 103 = .ok (.if_icmp .eq 24, 3) := by decide +kernel
theorem dX14_readNumber_106 : decode cX14_readNumber 106 = .ok (.aload_n 0, 1) := by decide +kernel
theorem dX14_readNumber_107 : decode cX14_readNumber 107 = .ok (.getfield 20, 3) := by decide +kernel
theorem dX14_readNumber_110 : decode cX14_readNumber 110 = .ok (.iload_n 3, 1) := by decide +kernel
theorem dX14_readNumber_111 : decode cX14_readNumber 111 = .ok (.iaload, 1) := by decide +kernel
theorem dX14_readNumber_112 : decode cX14_readNumber 112 = .ok (.bipush 48, 2) := by decide +kernel
theorem dX14_readNumber_114 : decode cX14_readNumber 114 = .ok (.if_icmp .ne 18, 3) := by decide +kernel
theorem dX14_readNumber_117 : decode cX14_readNumber 117 = .ok (.aload_n 0, 1) := by decide +kernel
theorem dX14_readNumber_118 : decode cX14_readNumber 118 = .ok (.getfield 273, 3) := by decide +kernel
theorem dX14_readNumber_121 : decode cX14_readNumber 121 = .ok (.iload_n 3, 1) := by decide +kernel
theorem dX14_readNumber_122 : decode cX14_readNumber 122 = .ok (.isub, 1) := by decide +kernel
theorem dX14_readNumber_123 : decode cX14_readNumber 123 = .ok (.iconst 1, 1) := by decide +kernel
theorem dX14_readNumber_124 : decode cX14_readNumber 124 = .ok (.if_icmp .le 8, 3) := by decide +kernel
theorem dX14_readNumber_127 : decode cX14_readNumber 127 = .ok (.aload_n 0, 1) := by decide +kernel
theorem dX14_readNumber_128 : decode cX14_readNumber 128 = .ok (.iconst 1, 1) := by decide +kernel
theorem dX14_readNumber_129 : decode cX14_readNumber 129 = .ok (.putfield 288, 3) := by decide +kernel
theorem dX14_readNumber_132 : decode cX14_readNumber 132 = .ok (.iconst 1, 1) := by decide +kernel
theorem dX14_readNumber_133 : decode cX14_readNumber 133 = .ok (.istore 6, 2) := by decide +kernel
theorem dX14_readNumber_135 : decode cX14_readNumber 135 = .ok (.aload_n 0, 1) := by decide +kernel
theorem dX14_readNumber_136 : decode cX14_readNumber 136 = .ok (.getfield 288, 3) := by decide +kernel
theorem dX14_readNumber_139 : decode cX14_readNumber 139 = .ok (.ifCond .ne 29, 3) := by decide +kernel
theorem dX14_readNumber_142 : decode cX14_readNumber 142 = .ok (.aload_n 0, 1) := by decide +kernel
theorem dX14_readNumber_143 : decode cX14_readNumber 143 = .ok (.invokevirtual 279, 3) := by decide +kernel
theorem dX14_readNumber_146 : decode cX14_readNumber 146 = .ok (.bipush 46, 2) := by decide +kernel
theorem dX14_readNumber_148 : decode cX14_readNumber 148 = .ok (.if_icmp .ne 20, 3) := by decide +kernel
theorem dX14_readNumber_151 : decode cX14_readNumber 151 = .ok (.iconst 0, 1) := by decide +kernel
theorem dX14_readNumber_152 : decode cX14_readNumber 152 = .ok (.istore 6, 2) := by decide +kernel
theorem dX14_readNumber_154 : decode cX14_readNumber 154 = .ok (.aload_n 0, 1) := by decide +kernel
theorem dX14_readNumber_155 : decode cX14_readNumber 155 = .ok (.dup, 1) := by decide +kernel
theorem dX14_readNumber_156 : decode cX14_readNumber 156 = .ok (.getfield 273, 3) := by decide +kernel
theorem dX14_readNumber_159 : decode cX14_readNumber 159 = .ok (.iconst 1, 1) := by decide +kernel
theorem dX14_readNumber_160 : decode cX14_readNumber 160 = .ok (.iadd, 1) := by decide +kernel
theorem dX14_readNumber_161 : decode cX14_readNumber 161 = .ok (.putfield 273, 3) := by decide +kernel
theorem dX14_readNumber_164 : decode cX14_readNumber 164 = .ok (.aload_n 0, 1) := by decide +kernel
theorem dX14_readNumber_165 : decode cX14_readNumber 165 = .ok (.invokevirtual 326, 3) := by decide +kernel
theorem dX14_readNumber_168 : decode cX14_readNumber 168 = .ok (.aload_n 0, 1) := by decide +kernel
theorem dX14_readNumber_169 : decode cX14_readNumber 169 = .ok (.getfield 288, 3) := by decide +kernel
theorem dX14_readNumber_172 : decode cX14_readNumber 172 = .ok (.ifCond .ne 66, 3) := by decide +kernel
theorem dX14_readNumber_175 : decode cX14_readNumber 175 = .ok (.aload_n 0, 1) := by decide +kernel
theorem dX14_readNumber_176 : decode cX14_readNumber 176 = .ok (.invokevirtual 279, 3) := by decide +kernel
theorem dX14_readNumber_179 : decode cX14_readNumber 179 = .ok (.bipush 101, 2) := by decide +kernel
theorem dX14_readNumber_181 : decode cX14_readNumber 181 = .ok (.if_icmp .eq 12, 3) := by decide +kernel
theorem dX14_readNumber_184 : decode cX14_readNumber 184 = .ok (.aload_n 0, 1) := by decide +kernel
theorem dX14_readNumber_185 : decode cX14_readNumber 185 = .ok (.invokevirtual 279, 3) := by decide +kernel
theorem dX14_readNumber_188 : decode cX14_readNumber 188 = .ok (.bipush 69, 2) := by decide +kernel
theorem dX14_readNumber_190 : decode cX14_readNumber 190 = .ok (.if_icmp .ne 48, 3) := by decide +kernel
theorem dX14_readNumber_193 : decode cX14_readNumber 193 = .ok (.iconst 0, 1) := by decide +kernel
theorem dX14_readNumber_194 : decode cX14_readNumber 194 = .ok (.istore 6, 2) := by decide +kernel
theorem dX14_readNumber_196 : decode cX14_readNumber 196 = .ok (.aload_n 0, 1) := by decide +kernel
theorem dX14_readNumber_197 : decode cX14_readNumber 197 = .ok (.dup, 1) := by decide +kernel
theorem dX14_readNumber_198 : decode cX14_readNumber 198 = .ok (.getfield 273, 3) := by decide +kernel
theorem dX14_readNumber_201 : decode cX14_readNumber 201 = .ok (.iconst 1, 1) := by decide +kernel
theorem dX14_readNumber_202 : decode cX14_readNumber 202 = .ok (.iadd, 1) := by decide +kernel
theorem dX14_readNumber_203 : decode cX14_readNumber 203 = .ok (.putfield 273, 3) := by decide +kernel
theorem dX14_readNumber_206 : decode cX14_readNumber 206 = .ok (.aload_n 0, 1) := by decide +kernel
theorem dX14_readNumber_207 : decode cX14_readNumber 207 = .ok (.invokevirtual 279, 3) := by decide +kernel
theorem dX14_readNumber_210 : decode cX14_readNumber 210 = .ok (.bipush 43, 2) := by decide +kernel
theorem dX14_readNumber_212 : decode cX14_readNumber 212 = .ok (.if_icmp .eq 12, 3) := by decide +kernel
theorem dX14_readNumber_215 : decode cX14_readNumber 215 = .ok (.aload_n 0, 1) := by decide +kernel
theorem dX14_readNumber_216 : decode cX14_readNumber 216 = .ok (.invokevirtual 279, 3) := by decide +kernel
theorem dX14_readNumber_219 : decode cX14_readNumber 219 = .ok (.bipush 45, 2) := by decide +kernel
theorem dX14_readNumber_221 : decode cX14_readNumber 221 = .ok (.if_icmp .ne 13, 3) := by decide +kernel
theorem dX14_readNumber_224 : decode cX14_readNumber 224 = .ok (.aload_n 0, 1) := by decide +kernel
theorem dX14_readNumber_225 : decode cX14_readNumber 225 = .ok (.dup, 1) := by decide +kernel
theorem dX14_readNumber_226 : decode cX14_readNumber 226 = .ok (.getfield 273, 3) := by decide +kernel
theorem dX14_readNumber_229 : decode cX14_readNumber 229 = .ok (.iconst 1, 1) := by decide +kernel
theorem dX14_readNumber_230 : decode cX14_readNumber 230 = .ok (.iadd, 1) := by decide +kernel
theorem dX14_readNumber_231 : decode cX14_readNumber 231 = .ok (.putfield 273, 3) := by decide +kernel
theorem dX14_readNumber_234 : decode cX14_readNumber 234 = .ok (.aload_n 0, 1) := by decide +kernel
theorem dX14_readNumber_235 : decode cX14_readNumber 235 = .ok (.invokevirtual 326, 3) := by decide +kernel
theorem dX14_readNumber_238 : decode cX14_readNumber 238 = .ok (.iload_n 2, 1) := by decide +kernel
theorem dX14_readNumber_239 : decode cX14_readNumber 239 = .ok (.ifCond .eq 9, 3) := by decide +kernel
theorem dX14_readNumber_242 : decode cX14_readNumber 242 = .ok (.lload 4, 2) := by decide +kernel
theorem dX14_readNumber_244 : decode cX14_readNumber 244 = .ok (.lneg, 1) := by decide +kernel
theorem dX14_readNumber_245 : decode cX14_readNumber 245 = .ok (.goto 5, 3) := by decide +kernel
theorem dX14_readNumber_248 : decode cX14_readNumber 248 = .ok (.lload 4, 2) := by decide +kernel
theorem dX14_readNumber_250 : decode cX14_readNumber 250 = .ok (.lstore 7, 2) := by decide +kernel
theorem dX14_readNumber_252 : decode cX14_readNumber 252 = .ok (.aload_n 0, 1) := by decide +kernel
theorem dX14_readNumber_253 : decode cX14_readNumber 253 = .ok (.getfield 58, 3) := by decide +kernel
theorem dX14_readNumber_256 : decode cX14_readNumber 256 = .ok (.iload_n 1, 1) := by decide +kernel
theorem dX14_readNumber_257 : decode cX14_readNumber 257 = .ok (.iload 6, 2) := by decide +kernel
theorem dX14_readNumber_259 : decode cX14_readNumber 259 = .ok (.ifCond .eq 25, 3) := by decide +kernel
theorem dX14_readNumber_262 : decode cX14_readNumber 262 = .ok (.lload 7, 2) := by decide +kernel
theorem dX14_readNumber_264 : decode cX14_readNumber 264 = .ok (.ldc2_w 329, 3) := by decide +kernel
theorem dX14_readNumber_267 : decode cX14_readNumber 267 = .ok (.lcmp, 1) := by decide +kernel
theorem dX14_readNumber_268 : decode cX14_readNumber 268 = .ok (.ifCond .lt 16, 3) := by decide +kernel
theorem dX14_readNumber_271 : decode cX14_readNumber 271 = .ok (.lload 7, 2) := by decide +kernel
theorem dX14_readNumber_273 : decode cX14_readNumber 273 = .ok (.ldc2_w 331, 3) := by decide +kernel
theorem dX14_readNumber_276 : decode cX14_readNumber 276 = .ok (.lcmp, 1) := by decide +kernel
theorem dX14_readNumber_277 : decode cX14_readNumber 277 = .ok (.ifCond .gt 7, 3) := by decide +kernel
theorem dX14_readNumber_280 : decode cX14_readNumber 280 = .ok (.iconst 1, 1) := by decide +kernel
theorem dX14_readNumber_281 : decode cX14_readNumber 281 = .ok (.goto 4, 3) := by decide +kernel
theorem dX14_readNumber_284 : decode cX14_readNumber 284 = .ok (.iconst 0, 1) := by decide +kernel
theorem dX14_readNumber_285 : decode cX14_readNumber 285 = .ok (.bastore, 1) := by decide +kernel
theorem dX14_readNumber_286 : decode cX14_readNumber 286 = .ok (.aload_n 0, 1) := by decide +kernel
theorem dX14_readNumber_287 : decode cX14_readNumber 287 = .ok (.getfield 62, 3) := by decide +kernel
theorem dX14_readNumber_290 : decode cX14_readNumber 290 = .ok (.iload_n 1, 1) := by decide +kernel
theorem dX14_readNumber_291 : decode cX14_readNumber 291 = .ok (.lload 7, 2) := by decide +kernel
theorem dX14_readNumber_293 : decode cX14_readNumber 293 = .ok (.l2i, 1) := by decide +kernel
theorem dX14_readNumber_294 : decode cX14_readNumber 294 = .ok (.iastore, 1) := by decide +kernel
theorem dX14_readNumber_295 : decode cX14_readNumber 295 = .ok (.iload_n 1, 1) := by decide +kernel
theorem dX14_readNumber_296 : decode cX14_readNumber 296 = .ok (.ireturn, 1) := by decide +kernel
theorem dX14_utfLength_0 : decode cX14_utfLength 0 = .ok (.aload_n 1, 1) := by decide +kernel
theorem dX14_utfLength_1 : decode cX14_utfLength 1 = .ok (.iload_n 2, 1) := by decide +kernel
theorem dX14_utfLength_2 : decode cX14_utfLength 2 = .ok (.iaload, 1) := by decide +kernel
theorem dX14_utfLength_3 : decode cX14_utfLength 3 = .ok (.istore 4, 2) := by decide +kernel
theorem dX14_utfLength_5 : decode cX14_utfLength 5 = .ok (.aload_n 0, 1) := by decide +kernel
theorem dX14_utfLength_6 : decode cX14_utfLength 6 = .ok (.iload 4, 2) := by decide +kernel
theorem dX14_utfLength_8 : decode cX14_utfLength 8 = .ok (.putfield 357, 3) := by decide +kernel
theorem dX14_utfLength_11 : decode cX14_utfLength 11 = .ok (.iload 4, 2) := by decide +kernel
theorem dX14_utfLength_13 : decode cX14_utfLength 13 = .ok (.sipush 128, 3) := by decide +kernel
theorem dX14_utfLength_16 : decode cX14_utfLength 16 = .ok (.if_icmp .ge 5, 3) := by decide +kernel
theorem dX14_utfLength_19 : decode cX14_utfLength 19 = .ok (.iconst 1, 1) := by decide +kernel
theorem dX14_utfLength_20 : decode cX14_utfLength 20 = .ok (.ireturn, 1) := by decide +kernel
theorem dX14_utfLength_21 : decode cX14_utfLength 21 = .ok (.iload 4, 2) := by decide +kernel
theorem dX14_utfLength_23 : decode cX14_utfLength 23 = .ok (.sipush 194, 3) := by decide +kernel
theorem dX14_utfLength_26 : decode cX14_utfLength 26 = .ok (.sipush 223, 3) := by decide +kernel
theorem dX14_utfLength_29 : decode cX14_utfLength 29 = .ok (.invokestatic 181, 3) := by decide +kernel
theorem dX14_utfLength_32 : decode cX14_utfLength 32 = .ok (.ifCond .eq 7, 3) := by decide +kernel
theorem dX14_utfLength_35 : decode cX14_utfLength 35 = .ok (.iconst 2, 1) := by decide +kernel
theorem dX14_utfLength_36 : decode cX14_utfLength 36 = .ok (.goto 40, 3) := by decide +kernel
theorem dX14_utfLength_39 : decode cX14_utfLength 39 = .ok (.iload 4, 2) := by decide +kernel
theorem dX14_utfLength_41 : decode cX14_utfLength 41 = .ok (.sipush 224, 3) := by decide +kernel
theorem dX14_utfLength_44 : decode cX14_utfLength 44 = .ok (.sipush 239, 3) := by decide +kernel
theorem dX14_utfLength_47 : decode cX14_utfLength 47 = .ok (.invokestatic 181, 3) := by decide +kernel
theorem dX14_utfLength_50 : decode cX14_utfLength 50 = .ok (.ifCond .eq 7, 3) := by decide +kernel
theorem dX14_utfLength_53 : decode cX14_utfLength 53 = .ok (.iconst 3, 1) := by decide +kernel
theorem dX14_utfLength_54 : decode cX14_utfLength 54 = .ok (.goto 22, 3) := by decide +kernel
theorem dX14_utfLength_57 : decode cX14_utfLength 57 = .ok (.iload 4, 2) := by decide +kernel
theorem dX14_utfLength_59 : decode cX14_utfLength 59 = .ok (.sipush 240, 3) := by decide +kernel
theorem dX14_utfLength_62 : decode cX14_utfLength 62 = .ok (.sipush 244, 3) := by decide +kernel
theorem dX14_utfLength_65 : decode cX14_utfLength 65 = .ok (.invokestatic 181, 3) := by decide +kernel
theorem dX14_utfLength_68 : decode cX14_utfLength 68 = .ok (.ifCond .eq 7, 3) := by decide +kernel
theorem dX14_utfLength_71 : decode cX14_utfLength 71 = .ok (.iconst 4, 1) := by decide +kernel
theorem dX14_utfLength_72 : decode cX14_utfLength 72 = .ok (.goto 4, 3) := by decide +kernel
theorem dX14_utfLength_75 : decode cX14_utfLength 75 = .ok (.iconst 0, 1) := by decide +kernel
theorem dX14_utfLength_76 : decode cX14_utfLength 76 = .ok (.istore 5, 2) := by decide +kernel
theorem dX14_utfLength_78 : decode cX14_utfLength 78 = .ok (.iload 5, 2) := by decide +kernel
theorem dX14_utfLength_80 : decode cX14_utfLength 80 = .ok (.ifCond .eq 11, 3) := by decide +kernel
theorem dX14_utfLength_83 : decode cX14_utfLength 83 = .ok (.iload_n 2, 1) := by decide +kernel
theorem dX14_utfLength_84 : decode cX14_utfLength 84 = .ok (.iload 5, 2) := by decide +kernel
theorem dX14_utfLength_86 : decode cX14_utfLength 86 = .ok (.iadd, 1) := by decide +kernel
theorem dX14_utfLength_87 : decode cX14_utfLength 87 = .ok (.iload_n 3, 1) := by decide +kernel
theorem dX14_utfLength_88 : decode cX14_utfLength 88 = .ok (.if_icmp .le 5, 3) := by decide +kernel
theorem dX14_utfLength_91 : decode cX14_utfLength 91 = .ok (.iconst 0, 1) := by decide +kernel
theorem dX14_utfLength_92 : decode cX14_utfLength 92 = .ok (.ireturn, 1) := by decide +kernel
theorem dX14_utfLength_93 : decode cX14_utfLength 93 = .ok (.iload 5, 2) := by decide +kernel
theorem dX14_utfLength_95 : decode cX14_utfLength 95 = .ok (.iconst 2, 1) := by decide +kernel
theorem dX14_utfLength_96 : decode cX14_utfLength 96 = .ok (.if_icmp .ne 11, 3) := by decide +kernel
theorem dX14_utfLength_99 : decode cX14_utfLength 99 = .ok (.iload 4, 2) := by decide +kernel
theorem dX14_utfLength_101 : decode cX14_utfLength 101 = .ok (.bipush 31, 2) := by decide +kernel
theorem dX14_utfLength_103 : decode cX14_utfLength 103 = .ok (.iand, 1) := by decide +kernel
theorem dX14_utfLength_104 : decode cX14_utfLength 104 = .ok (.goto 22, 3) := by decide +kernel
theorem dX14_utfLength_107 : decode cX14_utfLength 107 = .ok (.iload 5, 2) := by decide +kernel
theorem dX14_utfLength_109 : decode cX14_utfLength 109 = .ok (.iconst 3, 1) := by decide +kernel
theorem dX14_utfLength_110 : decode cX14_utfLength 110 = .ok (.if_icmp .ne 11, 3) := by decide +kernel
theorem dX14_utfLength_113 : decode cX14_utfLength 113 = .ok (.iload 4, 2) := by decide +kernel
theorem dX14_utfLength_115 : decode cX14_utfLength 115 = .ok (.bipush 15, 2) := by decide +kernel
theorem dX14_utfLength_117 : decode cX14_utfLength 117 = .ok (.iand, 1) := by decide +kernel
theorem dX14_utfLength_118 : decode cX14_utfLength 118 = .ok (.goto 8, 3) := by decide +kernel
theorem dX14_utfLength_121 : decode cX14_utfLength 121 = .ok (.iload 4, 2) := by decide +kernel
theorem dX14_utfLength_123 : decode cX14_utfLength 123 = .ok (.bipush 7, 2) := by decide +kernel
theorem dX14_utfLength_125 : decode cX14_utfLength 125 = .ok (.iand, 1) := by decide +kernel
theorem dX14_utfLength_126 : decode cX14_utfLength 126 = .ok (.istore 6, 2) := by decide +kernel
theorem dX14_utfLength_128 : decode cX14_utfLength 128 = .ok (.iconst 1, 1) := by decide +kernel
theorem dX14_utfLength_129 : decode cX14_utfLength 129 = .ok (.istore 7, 2) := by decide +kernel
theorem dX14_utfLength_131 : decode cX14_utfLength 131 = .ok (.iload 7, 2) := by decide +kernel
theorem dX14_utfLength_133 : decode cX14_utfLength 133 = .ok (.iload 5, 2) := by decide +kernel
theorem dX14_utfLength_135 : decode cX14_utfLength 135 = .ok (.if_icmp .ge 46, 3) := by decide +kernel
theorem dX14_utfLength_138 : decode cX14_utfLength 138 = .ok (.aload_n 1, 1) := by decide +kernel
theorem dX14_utfLength_139 : decode cX14_utfLength 139 = .ok (.iload_n 2, 1) := by decide +kernel
theorem dX14_utfLength_140 : decode cX14_utfLength 140 = .ok (.iload 7, 2) := by decide +kernel
theorem dX14_utfLength_142 : decode cX14_utfLength 142 = .ok (.iadd, 1) := by decide +kernel
theorem dX14_utfLength_143 : decode cX14_utfLength 143 = .ok (.iaload, 1) := by decide +kernel
theorem dX14_utfLength_144 : decode cX14_utfLength 144 = .ok (.sipush 128, 3) := by decide +kernel
theorem dX14_utfLength_147 : decode cX14_utfLength 147 = .ok (.sipush 191, 3) := by decide +kernel
theorem dX14_utfLength_150 : decode cX14_utfLength 150 = .ok (.invokestatic 181, 3) := by decide +kernel
theorem dX14_utfLength_153 : decode cX14_utfLength 153 = .ok (.ifCond .ne 5, 3) := by decide +kernel
theorem dX14_utfLength_156 : decode cX14_utfLength 156 = .ok (.iconst 0, 1) := by decide +kernel
theorem dX14_utfLength_157 : decode cX14_utfLength 157 = .ok (.ireturn, 1) := by decide +kernel
theorem dX14_utfLength_158 : decode cX14_utfLength 158 = .ok (.iload 6, 2) := by decide +kernel
theorem dX14_utfLength_160 : decode cX14_utfLength 160 = .ok (.bipush 6, 2) := by decide +kernel
theorem dX14_utfLength_162 : decode cX14_utfLength 162 = .ok (.ishl, 1) := by decide +kernel
theorem dX14_utfLength_163 : decode cX14_utfLength 163 = .ok (.aload_n 1, 1) := by decide +kernel
theorem dX14_utfLength_164 : decode cX14_utfLength 164 = .ok (.iload_n 2, 1) := by decide +kernel
theorem dX14_utfLength_165 : decode cX14_utfLength 165 = .ok (.iload 7, 2) := by decide +kernel
theorem dX14_utfLength_167 : decode cX14_utfLength 167 = .ok (.iadd, 1) := by decide +kernel
theorem dX14_utfLength_168 : decode cX14_utfLength 168 = .ok (.iaload, 1) := by decide +kernel
theorem dX14_utfLength_169 : decode cX14_utfLength 169 = .ok (.bipush 63, 2) := by decide +kernel
theorem dX14_utfLength_171 : decode cX14_utfLength 171 = .ok (.iand, 1) := by decide +kernel
theorem dX14_utfLength_172 : decode cX14_utfLength 172 = .ok (.ior, 1) := by decide +kernel
theorem dX14_utfLength_173 : decode cX14_utfLength 173 = .ok (.istore 6, 2) := by decide +kernel
theorem dX14_utfLength_175 : decode cX14_utfLength 175 = .ok (.iinc 7 1, 3) := by decide +kernel
theorem dX14_utfLength_178 : decode cX14_utfLength 178 = .ok (.goto (-47), 3) := by decide +kernel
theorem dX14_utfLength_181 : decode cX14_utfLength 181 = .ok (.iload 5, 2) := by decide +kernel
theorem dX14_utfLength_183 : decode cX14_utfLength 183 = .ok (.iconst 3, 1) := by decide +kernel
theorem dX14_utfLength_184 : decode cX14_utfLength 184 = .ok (.if_icmp .ne 11, 3) := by decide +kernel
theorem dX14_utfLength_187 : decode cX14_utfLength 187 = .ok (.iload 6, 2) := by decide +kernel
theorem dX14_utfLength_189 : decode cX14_utfLength 189 = .ok (.sipush 2048, 3) := by decide +kernel
theorem dX14_utfLength_192 : decode cX14_utfLength 192 = .ok (.if_icmp .lt 36, 3) := by decide +kernel
theorem dX14_utfLength_195 : decode cX14_utfLength 195 = .ok (.iload 5, 2) := by decide +kernel
theorem dX14_utfLength_197 : decode cX14_utfLength 197 = .ok (.iconst 4, 1) := by decide +kernel
theorem dX14_utfLength_198 : decode cX14_utfLength 198 = .ok (.if_icmp .ne 10, 3) := by decide +kernel
theorem dX14_utfLength_201 : decode cX14_utfLength 201 = .ok (.iload 6, 2) := by decide +kernel
theorem dX14_utfLength_203 : decode cX14_utfLength 203 = .ok (.ldc 197, 2) := by decide +kernel
theorem dX14_utfLength_205 : decode cX14_utfLength 205 = .ok (.if_icmp .lt 23, 3) := by decide +kernel
theorem dX14_utfLength_208 : decode cX14_utfLength 208 = .ok (.iload 6, 2) := by decide +kernel
theorem dX14_utfLength_210 : decode cX14_utfLength 210 = .ok (.ldc 179, 2) := by decide +kernel
theorem dX14_utfLength_212 : decode cX14_utfLength 212 = .ok (.ldc 186, 2) := by decide +kernel
theorem dX14_utfLength_214 : decode cX14_utfLength 214 = .ok (.invokestatic 181, 3) := by decide +kernel
theorem dX14_utfLength_217 : decode cX14_utfLength 217 = .ok (.ifCond .ne 11, 3) := by decide +kernel
theorem dX14_utfLength_220 : decode cX14_utfLength 220 = .ok (.iload 6, 2) := by decide +kernel
theorem dX14_utfLength_222 : decode cX14_utfLength 222 = .ok (.ldc_w 360, 3) := by decide +kernel
theorem dX14_utfLength_225 : decode cX14_utfLength 225 = .ok (.if_icmp .le 5, 3) := by decide +kernel
theorem dX14_utfLength_228 : decode cX14_utfLength 228 = .ok (.iconst 0, 1) := by decide +kernel
theorem dX14_utfLength_229 : decode cX14_utfLength 229 = .ok (.ireturn, 1) := by decide +kernel
theorem dX14_utfLength_230 : decode cX14_utfLength 230 = .ok (.aload_n 0, 1) := by decide +kernel
theorem dX14_utfLength_231 : decode cX14_utfLength 231 = .ok (.iload 6, 2) := by decide +kernel
theorem dX14_utfLength_233 : decode cX14_utfLength 233 = .ok (.putfield 357, 3) := by decide +kernel
theorem dX14_utfLength_236 : decode cX14_utfLength 236 = .ok (.iload 5, 2) := by decide +kernel
theorem dX14_utfLength_238 : decode cX14_utfLength 238 = .ok (.ireturn, 1) := by decide +kernel
end
section
theorem dX14_escape_0 : decode cX14_escape 0 = .ok (.aload_n 0, 1) := by decide +kernel
theorem dX14_escape_1 : decode cX14_escape 1 = .ok (.invokevirtual 279, 3) := by decide +kernel
theorem dX14_escape_4 : decode cX14_escape 4 = .ok (.istore_n 1, 1) := by decide +kernel
theorem dX14_escape_5 : decode cX14_escape 5 = .ok (.aload_n 0, 1) := by decide +kernel
theorem dX14_escape_6 : decode cX14_escape 6 = .ok (.dup, 1) := by decide +kernel
theorem dX14_escape_7 : decode cX14_escape 7 = .ok (.getfield 273, 3) := by decide +kernel
theorem dX14_escape_10 : decode cX14_escape 10 = .ok (.iconst 1, 1) := by decide +kernel
theorem dX14_escape_11 : decode cX14_escape 11 = .ok (.iadd, 1) := by decide +kernel
theorem dX14_escape_12 : decode cX14_escape 12 = .ok (.putfield 273, 3) := by decide +kernel
theorem dX14_escape_15 : decode cX14_escape 15 = .ok (.ldc_w 337, 3) := by decide +kernel
theorem dX14_escape_18 : decode cX14_escape 18 = .ok (.astore_n 2, 1) := by decide +kernel
theorem dX14_escape_19 : decode cX14_escape 19 = .ok (.iload_n 1, 1) := by decide +kernel
theorem dX14_escape_20 : decode cX14_escape 20 = .ok (.ifCond .ge 7, 3) := by decide +kernel
theorem dX14_escape_23 : decode cX14_escape 23 = .ok (.iconst (-1), 1) := by decide +kernel
theorem dX14_escape_24 : decode cX14_escape 24 = .ok (.goto 8, 3) := by decide +kernel
theorem dX14_escape_27 : decode cX14_escape 27 = .ok (.aload_n 2, 1) := by decide +kernel
theorem dX14_escape_28 : decode cX14_escape 28 = .ok (.iload_n 1, 1) := by decide +kernel
theorem dX14_escape_29 : decode cX14_escape 29 = .ok (.invokevirtual 339, 3) := by decide +kernel
theorem dX14_escape_32 : decode cX14_escape 32 = .ok (.istore_n 3, 1) := by decide +kernel
theorem dX14_escape_33 : decode cX14_escape 33 = .ok (.iload_n 3, 1) := by decide +kernel
theorem dX14_escape_34 : decode cX14_escape 34 = .ok (.ifCond .lt 63, 3) := by decide +kernel
theorem dX14_escape_37 : decode cX14_escape 37 = .ok (.aload_n 0, 1) := by decide +kernel
theorem dX14_escape_38 : decode cX14_escape 38 = .ok (.iload_n 3, 1) := by decide +kernel
theorem dX14_escape_39 : decode cX14_escape 39 = .ok (.iconst 3, 1) := by decide +kernel
theorem dX14_escape_40 : decode cX14_escape 40 = .ok (.if_icmp .ge 7, 3) := by decide +kernel
theorem dX14_escape_43 : decode cX14_escape 43 = .ok (.iload_n 1, 1) := by decide +kernel
theorem dX14_escape_44 : decode cX14_escape 44 = .ok (.goto 49, 3) := by decide +kernel
theorem dX14_escape_47 : decode cX14_escape 47 = .ok (.iload_n 1, 1) := by decide +kernel
theorem dX14_escape_48 : decode cX14_escape 48 = .ok (.bipush 98, 2) := by decide +kernel
theorem dX14_escape_50 : decode cX14_escape 50 = .ok (.if_icmp .ne 8, 3) := by decide +kernel
theorem dX14_escape_53 : decode cX14_escape 53 = .ok (.bipush 8, 2) := by decide +kernel
theorem dX14_escape_55 : decode cX14_escape 55 = .ok (.goto 38, 3) := by decide +kernel
theorem dX14_escape_58 : decode cX14_escape 58 = .ok (.iload_n 1, 1) := by decide +kernel
theorem dX14_escape_59 : decode cX14_escape 59 = .ok (.bipush 102, 2) := by decide +kernel
theorem dX14_escape_61 : decode cX14_escape 61 = .ok (.if_icmp .ne 8, 3) := by decide +kernel
theorem dX14_escape_64 : decode cX14_escape 64 = .ok (.bipush 12, 2) := by decide +kernel
theorem dX14_escape_66 : decode cX14_escape 66 = .ok (.goto 27, 3) := by decide +kernel
theorem dX14_escape_69 : decode cX14_escape 69 = .ok (.iload_n 1, 1) := by decide +kernel
theorem dX14_escape_70 : decode cX14_escape 70 = .ok (.bipush 110, 2) := by decide +kernel
theorem dX14_escape_72 : decode cX14_escape 72 = .ok (.if_icmp .ne 8, 3) := by decide +kernel
theorem dX14_escape_75 : decode cX14_escape 75 = .ok (.bipush 10, 2) := by decide +kernel
theorem dX14_escape_77 : decode cX14_escape 77 = .ok (.goto 16, 3) := by decide +kernel
theorem dX14_escape_80 : decode cX14_escape 80 = .ok (.iload_n 1, 1) := by decide +kernel
theorem dX14_escape_81 : decode cX14_escape 81 = .ok (.bipush 114, 2) := by decide +kernel
theorem dX14_escape_83 : decode cX14_escape 83 = .ok (.if_icmp .ne 8, 3) := by decide +kernel
theorem dX14_escape_86 : decode cX14_escape 86 = .ok (.bipush 13, 2) := by decide +kernel
theorem dX14_escape_88 : decode cX14_escape 88 = .ok (.goto 5, 3) := by decide +kernel
theorem dX14_escape_91 : decode cX14_escape 91 = .ok (.bipush 9, 2) := by decide +kernel
theorem dX14_escape_93 : decode cX14_escape 93 = .ok (.invokevirtual 342, 3) := by decide +kernel
theorem dX14_escape_96 : decode cX14_escape 96 = .ok (.return_, 1) := by decide +kernel
theorem dX14_escape_97 : decode cX14_escape 97 = .ok (.iload_n 1, 1) := by decide +kernel
theorem dX14_escape_98 : decode cX14_escape 98 = .ok (.bipush 117, 2) := by decide +kernel
theorem dX14_escape_100 : decode cX14_escape 100 = .ok (.if_icmp .ne 10, 3) := by decide +kernel
theorem dX14_escape_103 : decode cX14_escape 103 = .ok (.aload_n 0, 1) := by decide +kernel
theorem dX14_escape_104 : decode cX14_escape 104 = .ok (.invokevirtual 345, 3) := by decide +kernel
theorem dX14_escape_107 : decode cX14_escape 107 = .ok (.goto 4, 3) := by decide +kernel
theorem dX14_escape_110 : decode cX14_escape 110 = .ok (.iconst (-1), 1) := by decide +kernel
theorem dX14_escape_111 : decode cX14_escape 111 = .ok (.istore 4, 2) := by decide +kernel
theorem dX14_escape_113 : decode cX14_escape 113 = .ok (.iload 4, 2) := by decide +kernel
theorem dX14_escape_115 : decode cX14_escape 115 = .ok (.ifCond .lt 15, 3) := by decide +kernel
theorem dX14_escape_118 : decode cX14_escape 118 = .ok (.iload 4, 2) := by decide +kernel
theorem dX14_escape_120 : decode cX14_escape 120 = .ok (.ldc 185, 2) := by decide +kernel
theorem dX14_escape_122 : decode cX14_escape 122 = .ok (.ldc 186, 2) := by decide +kernel
theorem dX14_escape_124 : decode cX14_escape 124 = .ok (.invokestatic 181, 3) := by decide +kernel
theorem dX14_escape_127 : decode cX14_escape 127 = .ok (.ifCond .eq 9, 3) := by decide +kernel
theorem dX14_escape_130 : decode cX14_escape 130 = .ok (.aload_n 0, 1) := by decide +kernel
theorem dX14_escape_131 : decode cX14_escape 131 = .ok (.iconst 1, 1) := by decide +kernel
theorem dX14_escape_132 : decode cX14_escape 132 = .ok (.putfield 288, 3) := by decide +kernel
theorem dX14_escape_135 : decode cX14_escape 135 = .ok (.return_, 1) := by decide +kernel
theorem dX14_escape_136 : decode cX14_escape 136 = .ok (.iload 4, 2) := by decide +kernel
theorem dX14_escape_138 : decode cX14_escape 138 = .ok (.ldc 179, 2) := by decide +kernel
theorem dX14_escape_140 : decode cX14_escape 140 = .ok (.ldc 180, 2) := by decide +kernel
theorem dX14_escape_142 : decode cX14_escape 142 = .ok (.invokestatic 181, 3) := by decide +kernel
theorem dX14_escape_145 : decode cX14_escape 145 = .ok (.ifCond .ne 10, 3) := by decide +kernel
theorem dX14_escape_148 : decode cX14_escape 148 = .ok (.aload_n 0, 1) := by decide +kernel
theorem dX14_escape_149 : decode cX14_escape 149 = .ok (.iload 4, 2) := by decide +kernel
theorem dX14_escape_151 : decode cX14_escape 151 = .ok (.invokevirtual 342, 3) := by decide +kernel
theorem dX14_escape_154 : decode cX14_escape 154 = .ok (.return_, 1) := by decide +kernel
theorem dX14_escape_155 : decode cX14_escape 155 = .ok (.aload_n 0, 1) := by decide +kernel
theorem dX14_escape_156 : decode cX14_escape 156 = .ok (.ldc_w 348, 3) := by decide +kernel
theorem dX14_escape_159 : decode cX14_escape 159 = .ok (.invokevirtual 309, 3) := by decide +kernel
theorem dX14_escape_162 : decode cX14_escape 162 = .ok (.ifCond .eq 10, 3) := by decide +kernel
theorem dX14_escape_165 : decode cX14_escape 165 = .ok (.aload_n 0, 1) := by decide +kernel
theorem dX14_escape_166 : decode cX14_escape 166 = .ok (.invokevirtual 345, 3) := by decide +kernel
theorem dX14_escape_169 : decode cX14_escape 169 = .ok (.goto 4, 3) := by decide +kernel
theorem dX14_escape_172 : decode cX14_escape 172 = .ok (.iconst (-1), 1) := by decide +kernel
theorem dX14_escape_173 : decode cX14_escape 173 = .ok (.istore 5, 2) := by decide +kernel
theorem dX14_escape_175 : decode cX14_escape 175 = .ok (.iload 5, 2) := by decide +kernel
theorem dX14_escape_177 : decode cX14_escape 177 = .ok (.ldc 185, 2) := by decide +kernel
theorem dX14_escape_179 : decode cX14_escape 179 = .ok (.ldc 186, 2) := by decide +kernel
theorem dX14_escape_181 : decode cX14_escape 181 = .ok (.invokestatic 181, 3) := by decide +kernel
theorem dX14_escape_184 : decode cX14_escape 184 = .ok (.ifCond .ne 9, 3) := by decide +kernel
theorem dX14_escape_187 : decode cX14_escape 187 = .ok (.aload_n 0, 1) := by decide +kernel
theorem dX14_escape_188 : decode cX14_escape 188 = .ok (.iconst 1, 1) := by decide +kernel
theorem dX14_escape_189 : decode cX14_escape 189 = .ok (.putfield 288, 3) := by decide +kernel
theorem dX14_escape_192 : decode cX14_escape 192 = .ok (.return_, 1) := by decide +kernel
theorem dX14_escape_193 : decode cX14_escape 193 = .ok (.aload_n 0, 1) := by decide +kernel
theorem dX14_escape_194 : decode cX14_escape 194 = .ok (.iload 4, 2) := by decide +kernel
theorem dX14_escape_196 : decode cX14_escape 196 = .ok (.invokevirtual 342, 3) := by decide +kernel
theorem dX14_escape_199 : decode cX14_escape 199 = .ok (.aload_n 0, 1) := by decide +kernel
theorem dX14_escape_200 : decode cX14_escape 200 = .ok (.iload 5, 2) := by decide +kernel
theorem dX14_escape_202 : decode cX14_escape 202 = .ok (.invokevirtual 342, 3) := by decide +kernel
theorem dX14_escape_205 : decode cX14_escape 205 = .ok (.return_, 1) := by decide +kernel
theorem dX14_readString_0 : decode cX14_readString 0 = .ok (.aload_n 0, 1) := by decide +kernel
theorem dX14_readString_1 : decode cX14_readString 1 = .ok (.dup, 1) := by decide +kernel
theorem dX14_readString_2 : decode cX14_readString 2 = .ok (.getfield 273, 3) := by decide +kernel
theorem dX14_readString_5 : decode cX14_readString 5 = .ok (.iconst 1, 1) := by decide +kernel
theorem dX14_readString_6 : decode cX14_readString 6 = .ok (.iadd, 1) := by decide +kernel
theorem dX14_readString_7 : decode cX14_readString 7 = .ok (.putfield 273, 3) := by decide +kernel
theorem dX14_readString_10 : decode cX14_readString 10 = .ok (.aload_n 0, 1) := by decide +kernel
theorem dX14_readString_11 : decode cX14_readString 11 = .ok (.getfield 304, 3) := by decide +kernel
theorem dX14_readString_14 : decode cX14_readString 14 = .ok (.istore_n 1, 1) := by decide +kernel
theorem dX14_readString_15 : decode cX14_readString 15 = .ok (.aload_n 0, 1) := by decide +kernel
theorem dX14_readString_16 : decode cX14_readString 16 = .ok (.getfield 288, 3) := by decide +kernel
theorem dX14_readString_19 : decode cX14_readString 19 = .ok (.ifCond .ne 104, 3) := by decide +kernel
theorem dX14_readString_22 : decode cX14_readString 22 = .ok (.aload_n 0, 1) := by decide +kernel
theorem dX14_readString_23 : decode cX14_readString 23 = .ok (.invokevirtual 279, 3) := by decide +kernel
theorem dX14_readString_26 : decode cX14_readString 26 = .ok (.bipush 34, 2) := by decide +kernel
theorem dX14_readString_28 : decode cX14_readString 28 = .ok (.if_icmp .eq 95, 3) := by decide +kernel
theorem dX14_readString_31 : decode cX14_readString 31 = .ok (.aload_n 0, 1) := by decide +kernel
theorem dX14_readString_32 : decode cX14_readString 32 = .ok (.invokevirtual 279, 3) := by decide +kernel
theorem dX14_readString_35 : decode cX14_readString 35 = .ok (.istore_n 2, 1) := by decide +kernel
theorem dX14_readString_36 : decode cX14_readString 36 = .ok (.iload_n 2, 1) := by decide +kernel
theorem dX14_readString_37 : decode cX14_readString 37 = .ok (.bipush 32, 2) := by decide +kernel
theorem dX14_readString_39 : decode cX14_readString 39 = .ok (.if_icmp .ge 11, 3) := by decide +kernel
theorem dX14_readString_42 : decode cX14_readString 42 = .ok (.aload_n 0, 1) := by decide +kernel
theorem dX14_readString_43 : decode cX14_readString 43 = .ok (.iconst 1, 1) := by decide +kernel
theorem dX14_readString_44 : decode cX14_readString 44 = .ok (.putfield 288, 3) := by decide +kernel
theorem dX14_readString_47 : decode cX14_readString 47 = .ok (.goto 73, 3) := by decide +kernel
theorem dX14_readString_50 : decode cX14_readString 50 = .ok (.iload_n 2, 1) := by decide +kernel
theorem dX14_readString_51 : decode cX14_readString 51 = .ok (.bipush 92, 2) := by decide +kernel
theorem dX14_readString_53 : decode cX14_readString 53 = .ok (.if_icmp .ne 20, 3) := by decide +kernel
theorem dX14_readString_56 : decode cX14_readString 56 = .ok (.aload_n 0, 1) := by decide +kernel
theorem dX14_readString_57 : decode cX14_readString 57 = .ok (.dup, 1) := by decide +kernel
theorem dX14_readString_58 : decode cX14_readString 58 = .ok (.getfield 273, 3) := by decide +kernel
theorem dX14_readString_61 : decode cX14_readString 61 = .ok (.iconst 1, 1) := by decide +kernel
theorem dX14_readString_62 : decode cX14_readString 62 = .ok (.iadd, 1) := by decide +kernel
theorem dX14_readString_63 : decode cX14_readString 63 = .ok (.putfield 273, 3) := by decide +kernel
theorem dX14_readString_66 : decode cX14_readString 66 = .ok (.aload_n 0, 1) := by decide +kernel
theorem dX14_readString_67 : decode cX14_readString 67 = .ok (.invokevirtual 350, 3) := by decide +kernel
theorem dX14_readString_70 : decode cX14_readString 70 = .ok (.goto 50, 3) := by decide +kernel
theorem dX14_readString_73 : decode cX14_readString 73 = .ok (.aload_n 0, 1) := by decide +kernel
theorem dX14_readString_74 : decode cX14_readString 74 = .ok (.aload_n 0, 1) := by decide +kernel
theorem dX14_readString_75 : decode cX14_readString 75 = .ok (.getfield 20, 3) := by decide +kernel
theorem dX14_readString_78 : decode cX14_readString 78 = .ok (.aload_n 0, 1) := by decide +kernel
theorem dX14_readString_79 : decode cX14_readString 79 = .ok (.getfield 273, 3) := by decide +kernel
theorem dX14_readString_82 : decode cX14_readString 82 = .ok (.aload_n 0, 1) := by decide +kernel
theorem dX14_readString_83 : decode cX14_readString 83 = .ok (.getfield 276, 3) := by decide +kernel
theorem dX14_readString_86 : decode cX14_readString 86 = .ok (.invokevirtual 353, 3) := by decide +kernel
theorem dX14_readString_89 : decode cX14_readString 89 = .ok (.istore_n 3, 1) := by decide +kernel
theorem dX14_readString_90 : decode cX14_readString 90 = .ok (.iload_n 3, 1) := by decide +kernel
theorem dX14_readString_91 : decode cX14_readString 91 = .ok (.ifCond .ne 11, 3) := by decide +kernel
theorem dX14_readString_94 : decode cX14_readString 94 = .ok (.aload_n 0, 1) := by decide +kernel
theorem dX14_readString_95 : decode cX14_readString 95 = .ok (.iconst 1, 1) := by decide +kernel
theorem dX14_readString_96 : decode cX14_readString 96 = .ok (.putfield 288, 3) := by decide +kernel
theorem dX14_readString_99 : decode cX14_readString 99 = .ok (.goto 11, 3) := by decide +kernel
theorem dX14_readString_102 : decode cX14_readString 102 = .ok (.aload_n 0, 1) := by decide +kernel
theorem dX14_readString_103 : decode cX14_readString 103 = .ok (.aload_n 0, 1) := by decide +kernel
theorem dX14_readString_104 : decode cX14_readString 104 = .ok (.getfield 357, 3) := by decide +kernel
theorem dX14_readString_107 : decode cX14_readString 107 = .ok (.invokevirtual 342, 3) := by decide +kernel
theorem dX14_readString_110 : decode cX14_readString 110 = .ok (.aload_n 0, 1) := by decide +kernel
theorem dX14_readString_111 : decode cX14_readString 111 = .ok (.dup, 1) := by decide +kernel
theorem dX14_readString_112 : decode cX14_readString 112 = .ok (.getfield 273, 3) := by decide +kernel
theorem dX14_readString_115 : decode cX14_readString 115 = .ok (.iload_n 3, 1) := by decide +kernel
theorem dX14_readString_116 : decode cX14_readString 116 = .ok (.iadd, 1) := by decide +kernel
theorem dX14_readString_117 : decode cX14_readString 117 = .ok (.putfield 273, 3) := by decide +kernel
theorem dX14_readString_120 : decode cX14_readString 120 = .ok (.goto (-105), 3) := by decide +kernel
theorem dX14_readString_123 : decode cX14_readString 123 = .ok (.aload_n 0, 1) := by decide +kernel
theorem dX14_readString_124 : decode cX14_readString 124 = .ok (.dup, 1) := by decide +kernel
theorem dX14_readString_125 : decode cX14_readString 125 = .ok (.getfield 273, 3) := by decide +kernel
theorem dX14_readString_128 : decode cX14_readString 128 = .ok (.iconst 1, 1) := by decide +kernel
theorem dX14_readString_129 : decode cX14_readString 129 = .ok (.iadd, 1) := by decide +kernel
theorem dX14_readString_130 : decode cX14_readString 130 = .ok (.putfield 273, 3) := by decide +kernel
theorem dX14_readString_133 : decode cX14_readString 133 = .ok (.aload_n 0, 1) := by decide +kernel
theorem dX14_readString_134 : decode cX14_readString 134 = .ok (.iload_n 1, 1) := by decide +kernel
theorem dX14_readString_135 : decode cX14_readString 135 = .ok (.putfield 301, 3) := by decide +kernel
theorem dX14_readString_138 : decode cX14_readString 138 = .ok (.return_, 1) := by decide +kernel
end
section
theorem dX14_readValue_0 : decode cX14_readValue 0 = .ok (.aload_n 0, 1) := by decide +kernel
theorem dX14_readValue_1 : decode cX14_readValue 1 = .ok (.invokevirtual 285, 3) := by decide +kernel
theorem dX14_readValue_4 : decode cX14_readValue 4 = .ok (.aload_n 0, 1) := by decide +kernel
theorem dX14_readValue_5 : decode cX14_readValue 5 = .ok (.invokevirtual 279, 3) := by decide +kernel
theorem dX14_readValue_8 : decode cX14_readValue 8 = .ok (.istore_n 2, 1) := by decide +kernel
theorem dX14_readValue_9 : decode cX14_readValue 9 = .ok (.iload_n 2, 1) := by decide +kernel
theorem dX14_readValue_10 : decode cX14_readValue 10 = .ok (.bipush 123, 2) := by decide +kernel
theorem dX14_readValue_12 : decode cX14_readValue 12 = .ok (.if_icmp .eq 9, 3) := by decide +kernel
theorem dX14_readValue_15 : decode cX14_readValue 15 = .ok (.iload_n 2, 1) := by decide +kernel
theorem dX14_readValue_16 : decode cX14_readValue 16 = .ok (.bipush 91, 2) := by decide +kernel
theorem dX14_readValue_18 : decode cX14_readValue 18 = .ok (.if_icmp .ne 44, 3) := by decide +kernel
theorem dX14_readValue_21 : decode cX14_readValue 21 = .ok (.iload_n 1, 1) := by decide +kernel
theorem dX14_readValue_22 : decode cX14_readValue 22 = .ok (.bipush 10, 2) := by decide +kernel
theorem dX14_readValue_24 : decode cX14_readValue 24 = .ok (.if_icmp .ne 8, 3) := by decide +kernel
theorem dX14_readValue_27 : decode cX14_readValue 27 = .ok (.aload_n 0, 1) := by decide +kernel
theorem dX14_readValue_28 : decode cX14_readValue 28 = .ok (.iconst 1, 1) := by decide +kernel
theorem dX14_readValue_29 : decode cX14_readValue 29 = .ok (.putfield 288, 3) := by decide +kernel
theorem dX14_readValue_32 : decode cX14_readValue 32 = .ok (.aload_n 0, 1) := by decide +kernel
theorem dX14_readValue_33 : decode cX14_readValue 33 = .ok (.getfield 288, 3) := by decide +kernel
theorem dX14_readValue_36 : decode cX14_readValue 36 = .ok (.ifCond .eq 7, 3) := by decide +kernel
theorem dX14_readValue_39 : decode cX14_readValue 39 = .ok (.iconst 0, 1) := by decide +kernel
theorem dX14_readValue_40 : decode cX14_readValue 40 = .ok (.goto 21, 3) := by decide +kernel
theorem dX14_readValue_43 : decode cX14_readValue 43 = .ok (.aload_n 0, 1) := by decide +kernel
theorem dX14_readValue_44 : decode cX14_readValue 44 = .ok (.iload_n 2, 1) := by decide +kernel
theorem dX14_readValue_45 : decode cX14_readValue 45 = .ok (.bipush 123, 2) := by decide +kernel
theorem dX14_readValue_47 : decode cX14_readValue 47 = .ok (.if_icmp .ne 7, 3) := by decide +kernel
theorem dX14_readValue_50 : decode cX14_readValue 50 = .ok (.iconst 1, 1) := by decide +kernel
theorem dX14_readValue_51 : decode cX14_readValue 51 = .ok (.goto 4, 3) := by decide +kernel
theorem dX14_readValue_54 : decode cX14_readValue 54 = .ok (.iconst 0, 1) := by decide +kernel
theorem dX14_readValue_55 : decode cX14_readValue 55 = .ok (.iload_n 1, 1) := by decide +kernel
theorem dX14_readValue_56 : decode cX14_readValue 56 = .ok (.iconst 1, 1) := by decide +kernel
theorem dX14_readValue_57 : decode cX14_readValue 57 = .ok (.iadd, 1) := by decide +kernel
theorem dX14_readValue_58 : decode cX14_readValue 58 = .ok (.invokevirtual 291, 3) := by decide +kernel
theorem dX14_readValue_61 : decode cX14_readValue 61 = .ok (.ireturn, 1) := by decide +kernel
theorem dX14_readValue_62 : decode cX14_readValue 62 = .ok (.iload_n 2, 1) := by decide +kernel
theorem dX14_readValue_63 : decode cX14_readValue 63 = .ok (.bipush 34, 2) := by decide +kernel
theorem dX14_readValue_65 : decode cX14_readValue 65 = .ok (.if_icmp .ne 35, 3) := by decide +kernel
theorem dX14_readValue_68 : decode cX14_readValue 68 = .ok (.aload_n 0, 1) := by decide +kernel
theorem dX14_readValue_69 : decode cX14_readValue 69 = .ok (.iconst 4, 1) := by decide +kernel
theorem dX14_readValue_70 : decode cX14_readValue 70 = .ok (.invokevirtual 295, 3) := by decide +kernel
theorem dX14_readValue_73 : decode cX14_readValue 73 = .ok (.istore_n 3, 1) := by decide +kernel
theorem dX14_readValue_74 : decode cX14_readValue 74 = .ok (.aload_n 0, 1) := by decide +kernel
theorem dX14_readValue_75 : decode cX14_readValue 75 = .ok (.invokevirtual 298, 3) := by decide +kernel
theorem dX14_readValue_78 : decode cX14_readValue 78 = .ok (.aload_n 0, 1) := by decide +kernel
theorem dX14_readValue_79 : decode cX14_readValue 79 = .ok (.getfield 52, 3) := by decide +kernel
theorem dX14_readValue_82 : decode cX14_readValue 82 = .ok (.iload_n 3, 1) := by decide +kernel
theorem dX14_readValue_83 : decode cX14_readValue 83 = .ok (.aload_n 0, 1) := by decide +kernel
theorem dX14_readValue_84 : decode cX14_readValue 84 = .ok (.getfield 301, 3) := by decide +kernel
theorem dX14_readValue_87 : decode cX14_readValue 87 = .ok (.iastore, 1) := by decide +kernel
theorem dX14_readValue_88 : decode cX14_readValue 88 = .ok (.aload_n 0, 1) := by decide +kernel
theorem dX14_readValue_89 : decode cX14_readValue 89 = .ok (.getfield 55, 3) := by decide +kernel
theorem dX14_readValue_92 : decode cX14_readValue 92 = .ok (.iload_n 3, 1) := by decide +kernel
theorem dX14_readValue_93 : decode cX14_readValue 93 = .ok (.aload_n 0, 1) := by decide +kernel
theorem dX14_readValue_94 : decode cX14_readValue 94 = .ok (.getfield 304, 3) := by decide +kernel
theorem dX14_readValue_97 : decode cX14_readValue 97 = .ok (.iastore, 1) := by decide +kernel
theorem dX14_readValue_98 : decode cX14_readValue 98 = .ok (.iload_n 3, 1) := by decide +kernel
theorem dX14_readValue_99 : decode cX14_readValue 99 = .ok (.ireturn, 1) := by decide +kernel
theorem dX14_readValue_100 : decode cX14_readValue 100 = .ok (.aload_n 0, 1) := by decide +kernel
theorem dX14_readValue_101 : decode cX14_readValue 101 = .ok (.ldc_w 307, 3) := by decide +kernel
theorem dX14_readValue_104 : decode cX14_readValue 104 = .ok (.invokevirtual 309, 3) := by decide +kernel
theorem dX14_readValue_107 : decode cX14_readValue 107 = .ok (.ifCond .eq 9, 3) := by decide +kernel
theorem dX14_readValue_110 : decode cX14_readValue 110 = .ok (.aload_n 0, 1) := by decide +kernel
theorem dX14_readValue_111 : decode cX14_readValue 111 = .ok (.iconst 0, 1) := by decide +kernel
theorem dX14_readValue_112 : decode cX14_readValue 112 = .ok (.invokevirtual 295, 3) := by decide +kernel
theorem dX14_readValue_115 : decode cX14_readValue 115 = .ok (.ireturn, 1) := by decide +kernel
theorem dX14_readValue_116 : decode cX14_readValue 116 = .ok (.aload_n 0, 1) := by decide +kernel
theorem dX14_readValue_117 : decode cX14_readValue 117 = .ok (.ldc_w 313, 3) := by decide +kernel
theorem dX14_readValue_120 : decode cX14_readValue 120 = .ok (.invokevirtual 309, 3) := by decide +kernel
theorem dX14_readValue_123 : decode cX14_readValue 123 = .ok (.ifCond .eq 9, 3) := by decide +kernel
theorem dX14_readValue_126 : decode cX14_readValue 126 = .ok (.aload_n 0, 1) := by decide +kernel
theorem dX14_readValue_127 : decode cX14_readValue 127 = .ok (.iconst 1, 1) := by decide +kernel
theorem dX14_readValue_128 : decode cX14_readValue 128 = .ok (.invokevirtual 295, 3) := by decide +kernel
theorem dX14_readValue_131 : decode cX14_readValue 131 = .ok (.ireturn, 1) := by decide +kernel
theorem dX14_readValue_132 : decode cX14_readValue 132 = .ok (.aload_n 0, 1) := by decide +kernel
theorem dX14_readValue_133 : decode cX14_readValue 133 = .ok (.ldc_w 315, 3) := by decide +kernel
theorem dX14_readValue_136 : decode cX14_readValue 136 = .ok (.invokevirtual 309, 3) := by decide +kernel
theorem dX14_readValue_139 : decode cX14_readValue 139 = .ok (.ifCond .eq 9, 3) := by decide +kernel
theorem dX14_readValue_142 : decode cX14_readValue 142 = .ok (.aload_n 0, 1) := by decide +kernel
theorem dX14_readValue_143 : decode cX14_readValue 143 = .ok (.iconst 2, 1) := by decide +kernel
theorem dX14_readValue_144 : decode cX14_readValue 144 = .ok (.invokevirtual 295, 3) := by decide +kernel
theorem dX14_readValue_147 : decode cX14_readValue 147 = .ok (.ireturn, 1) := by decide +kernel
theorem dX14_readValue_148 : decode cX14_readValue 148 = .ok (.aload_n 0, 1) := by decide +kernel
theorem dX14_readValue_149 : decode cX14_readValue 149 = .ok (.invokevirtual 317, 3) := by decide +kernel
theorem dX14_readValue_152 : decode cX14_readValue 152 = .ok (.ireturn, 1) := by decide +kernel
theorem dX14_readMany_0 : decode cX14_readMany 0 = .ok (.aload_n 0, 1) := by decide +kernel
theorem dX14_readMany_1 : decode cX14_readMany 1 = .ok (.iload_n 1, 1) := by decide +kernel
theorem dX14_readMany_2 : decode cX14_readMany 2 = .ok (.ifCond .eq 8, 3) := by decide +kernel
theorem dX14_readMany_5 : decode cX14_readMany 5 = .ok (.bipush 6, 2) := by decide +kernel
theorem dX14_readMany_7 : decode cX14_readMany 7 = .ok (.goto 4, 3) := by decide +kernel
theorem dX14_readMany_10 : decode cX14_readMany 10 = .ok (.iconst 5, 1) := by decide +kernel
theorem dX14_readMany_11 : decode cX14_readMany 11 = .ok (.invokevirtual 295, 3) := by decide +kernel
theorem dX14_readMany_14 : decode cX14_readMany 14 = .ok (.istore_n 3, 1) := by decide +kernel
theorem dX14_readMany_15 : decode cX14_readMany 15 = .ok (.aload_n 0, 1) := by decide +kernel
theorem dX14_readMany_16 : decode cX14_readMany 16 = .ok (.dup, 1) := by decide +kernel
theorem dX14_readMany_17 : decode cX14_readMany 17 = .ok (.getfield 273, 3) := by decide +kernel
theorem dX14_readMany_20 : decode cX14_readMany 20 = .ok (.iconst 1, 1) := by decide +kernel
theorem dX14_readMany_21 : decode cX14_readMany 21 = .ok (.iadd, 1) := by decide +kernel
theorem dX14_readMany_22 : decode cX14_readMany 22 = .ok (.putfield 273, 3) := by decide +kernel
theorem dX14_readMany_25 : decode cX14_readMany 25 = .ok (.iload_n 1, 1) := by decide +kernel
theorem dX14_readMany_26 : decode cX14_readMany 26 = .ok (.ifCond .eq 8, 3) := by decide +kernel
theorem dX14_readMany_29 : decode cX14_readMany 29 = .ok (.bipush 125, 2) := by decide +kernel
theorem dX14_readMany_31 : decode cX14_readMany 31 = .ok (.goto 5, 3) := by decide +kernel
theorem dX14_readMany_34 : decode cX14_readMany 34 = .ok (.bipush 93, 2) := by decide +kernel
theorem dX14_readMany_36 : decode cX14_readMany 36 = .ok (.istore 4, 2) := by decide +kernel
theorem dX14_readMany_38 : decode cX14_readMany 38 = .ok (.aload_n 0, 1) := by decide +kernel
theorem dX14_readMany_39 : decode cX14_readMany 39 = .ok (.invokevirtual 285, 3) := by decide +kernel
theorem dX14_readMany_42 : decode cX14_readMany 42 = .ok (.aload_n 0, 1) := by decide +kernel
theorem dX14_readMany_43 : decode cX14_readMany 43 = .ok (.invokevirtual 279, 3) := by decide +kernel
theorem dX14_readMany_46 : decode cX14_readMany 46 = .ok (.iload 4, 2) := by decide +kernel
theorem dX14_readMany_48 : decode cX14_readMany 48 = .ok (.if_icmp .ne 15, 3) := by decide +kernel
theorem dX14_readMany_51 : decode cX14_readMany 51 = .ok (.aload_n 0, 1) := by decide +kernel
theorem dX14_readMany_52 : decode cX14_readMany 52 = .ok (.dup, 1) := by decide +kernel
theorem dX14_readMany_53 : decode cX14_readMany 53 = .ok (.getfield 273, 3) := by decide +kernel
theorem dX14_readMany_56 : decode cX14_readMany 56 = .ok (.iconst 1, 1) := by decide +kernel
theorem dX14_readMany_57 : decode cX14_readMany 57 = .ok (.iadd, 1) := by decide +kernel
theorem dX14_readMany_58 : decode cX14_readMany 58 = .ok (.putfield 273, 3) := by decide +kernel
theorem dX14_readMany_61 : decode cX14_readMany 61 = .ok (.iload_n 3, 1) := by decide +kernel
theorem dX14_readMany_62 : decode cX14_readMany 62 = .ok (.ireturn, 1) := by decide +kernel
theorem dX14_readMany_63 : decode cX14_readMany 63 = .ok (.iconst (-1), 1) := by decide +kernel
theorem dX14_readMany_64 : decode cX14_readMany 64 = .ok (.istore 5, 2) := by decide +kernel
theorem dX14_readMany_66 : decode cX14_readMany 66 = .ok (.iconst 1, 1) := by decide +kernel
theorem dX14_readMany_67 : decode cX14_readMany 67 = .ok (.istore 6, 2) := by decide +kernel
theorem dX14_readMany_69 : decode cX14_readMany 69 = .ok (.iload 6, 2) := by decide +kernel
theorem dX14_readMany_71 : decode cX14_readMany 71 = .ok (.ifCond .eq 215, 3) := by decide +kernel
theorem dX14_readMany_74 : decode cX14_readMany 74 = .ok (.aload_n 0, 1) := by decide +kernel
theorem dX14_readMany_75 : decode cX14_readMany 75 = .ok (.getfield 288, 3) := by decide +kernel
theorem dX14_readMany_78 : decode cX14_readMany 78 = .ok (.ifCond .ne 208, 3) := by decide +kernel
theorem dX14_readMany_81 : decode cX14_readMany 81 = .ok (.iconst 0, 1) := by decide +kernel
theorem dX14_readMany_82 : decode cX14_readMany 82 = .ok (.istore 7, 2) := by decide +kernel
theorem dX14_readMany_84 : decode cX14_readMany 84 = .ok (.iconst 0, 1) := by decide +kernel
theorem dX14_readMany_85 : decode cX14_readMany 85 = .ok (.istore 8, 2) := by decide +kernel
theorem dX14_readMany_87 : decode cX14_readMany 87 = .ok (.iload_n 1, 1) := by decide +kernel
theorem dX14_readMany_88 : decode cX14_readMany 88 = .ok (.ifCond .eq 72, 3) := by decide +kernel
theorem dX14_readMany_91 : decode cX14_readMany 91 = .ok (.aload_n 0, 1) := by decide +kernel
theorem dX14_readMany_92 : decode cX14_readMany 92 = .ok (.invokevirtual 285, 3) := by decide +kernel
theorem dX14_readMany_95 : decode cX14_readMany 95 = .ok (.aload_n 0, 1) := by decide +kernel
theorem dX14_readMany_96 : decode cX14_readMany 96 = .ok (.invokevirtual 279, 3) := by decide +kernel
theorem dX14_readMany_99 : decode cX14_readMany 99 = .ok (.bipush 34, 2) := by decide +kernel
theorem dX14_readMany_101 : decode cX14_readMany 101 = .ok (.if_icmp .eq 8, 3) := by decide +kernel
theorem dX14_readMany_104 : decode cX14_readMany 104 = .ok (.aload_n 0, 1) := by decide +kernel
theorem dX14_readMany_105 : decode cX14_readMany 105 = .ok (.iconst 1, 1) := by decide +kernel
theorem dX14_readMany_106 : decode cX14_readMany 106 = .ok (.putfield 288, 3) := by decide +kernel
theorem dX14_readMany_109 : decode cX14_readMany 109 = .ok (.aload_n 0, 1) := by decide +kernel
theorem dX14_readMany_110 : decode cX14_readMany 110 = .ok (.getfield 288, 3) := by decide +kernel
theorem dX14_readMany_113 : decode cX14_readMany 113 = .ok (.ifCond .ne 7, 3) := by decide +kernel
theorem dX14_readMany_116 : decode cX14_readMany 116 = .ok (.aload_n 0, 1) := by decide +kernel
theorem dX14_readMany_117 : decode cX14_readMany 117 = .ok (.invokevirtual 298, 3) := by decide +kernel
theorem dX14_readMany_120 : decode cX14_readMany 120 = .ok (.aload_n 0, 1) := by decide +kernel
theorem dX14_readMany_121 : decode cX14_readMany 121 = .ok (.getfield 301, 3) := by decide +kernel
theorem dX14_readMany_124 : decode cX14_readMany 124 = .ok (.istore 7, 2) := by decide +kernel
theorem dX14_readMany_126 : decode cX14_readMany 126 = .ok (.aload_n 0, 1) := by decide +kernel
theorem dX14_readMany_127 : decode cX14_readMany 127 = .ok (.getfield 304, 3) := by decide +kernel
theorem dX14_readMany_130 : decode cX14_readMany 130 = .ok (.istore 8, 2) := by decide +kernel
theorem dX14_readMany_132 : decode cX14_readMany 132 = .ok (.aload_n 0, 1) := by decide +kernel
theorem dX14_readMany_133 : decode cX14_readMany 133 = .ok (.invokevirtual 285, 3) := by decide +kernel
theorem dX14_readMany_136 : decode cX14_readMany 136 = .ok (.aload_n 0, 1) := by decide +kernel
theorem dX14_readMany_137 : decode cX14_readMany 137 = .ok (.invokevirtual 279, 3) := by decide +kernel
theorem dX14_readMany_140 : decode cX14_readMany 140 = .ok (.bipush 58, 2) := by decide +kernel
theorem dX14_readMany_142 : decode cX14_readMany 142 = .ok (.if_icmp .eq 8, 3) := by decide +kernel
theorem dX14_readMany_145 : decode cX14_readMany 145 = .ok (.aload_n 0, 1) := by decide +kernel
theorem dX14_readMany_146 : decode cX14_readMany 146 = .ok (.iconst 1, 1) := by decide +kernel
theorem dX14_readMany_147 : decode cX14_readMany 147 = .ok (.putfield 288, 3) := by decide +kernel
theorem dX14_readMany_150 : decode cX14_readMany 150 = .ok (.aload_n 0, 1) := by decide +kernel
theorem dX14_readMany_151 : decode cX14_readMany 151 = .ok (.dup, 1) := by decide +kernel
theorem dX14_readMany_152 : decode cX14_readMany 152 = .ok (.getfield 273, 3) := by decide +kernel
theorem dX14_readMany_155 : decode cX14_readMany 155 = .ok (.iconst 1, 1) := by decide +kernel
theorem dX14_readMany_156 : decode cX14_readMany 156 = .ok (.iadd, 1) := by decide +kernel
theorem dX14_readMany_157 : decode cX14_readMany 157 = .ok (.putfield 273, 3) := by decide +kernel
theorem dX14_readMany_160 : decode cX14_readMany 160 = .ok (.aload_n 0, 1) := by decide +kernel
theorem dX14_readMany_161 : decode cX14_readMany 161 = .ok (.getfield 288, 3) := by decide +kernel
theorem dX14_readMany_164 : decode cX14_readMany 164 = .ok (.ifCond .eq 7, 3) := by decide +kernel
theorem dX14_readMany_167 : decode cX14_readMany 167 = .ok (.iconst 0, 1) := by decide +kernel
theorem dX14_readMany_168 : decode cX14_readMany 168 = .ok (.goto 8, 3) := by decide +kernel
theorem dX14_readMany_171 : decode cX14_readMany 171 = .ok (.aload_n 0, 1) := by decide +kernel
theorem dX14_readMany_172 : decode cX14_readMany 172 = .ok (.iload_n 2, 1) := by decide +kernel
theorem dX14_readMany_173 : decode cX14_readMany 173 = .ok (.invokevirtual 361, 3) := by decide +kernel
theorem dX14_readMany_176 : decode cX14_readMany 176 = .ok (.istore 9, 2) := by decide +kernel
theorem dX14_readMany_178 : decode cX14_readMany 178 = .ok (.aload_n 0, 1) := by decide +kernel
theorem dX14_readMany_179 : decode cX14_readMany 179 = .ok (.getfield 288, 3) := by decide +kernel
theorem dX14_readMany_182 : decode cX14_readMany 182 = .ok (.ifCond .eq 5, 3) := by decide +kernel
theorem dX14_readMany_185 : decode cX14_readMany 185 = .ok (.iload_n 3, 1) := by decide +kernel
theorem dX14_readMany_186 : decode cX14_readMany 186 = .ok (.ireturn, 1) := by decide +kernel
theorem dX14_readMany_187 : decode cX14_readMany 187 = .ok (.aload_n 0, 1) := by decide +kernel
theorem dX14_readMany_188 : decode cX14_readMany 188 = .ok (.getfield 46, 3) := by decide +kernel
theorem dX14_readMany_191 : decode cX14_readMany 191 = .ok (.iload 9, 2) := by decide +kernel
theorem dX14_readMany_193 : decode cX14_readMany 193 = .ok (.iload 7, 2) := by decide +kernel
theorem dX14_readMany_195 : decode cX14_readMany 195 = .ok (.iastore, 1) := by decide +kernel
theorem dX14_readMany_196 : decode cX14_readMany 196 = .ok (.aload_n 0, 1) := by decide +kernel
theorem dX14_readMany_197 : decode cX14_readMany 197 = .ok (.getfield 49, 3) := by decide +kernel
theorem dX14_readMany_200 : decode cX14_readMany 200 = .ok (.iload 9, 2) := by decide +kernel
theorem dX14_readMany_202 : decode cX14_readMany 202 = .ok (.iload 8, 2) := by decide +kernel
theorem dX14_readMany_204 : decode cX14_readMany 204 = .ok (.iastore, 1) := by decide +kernel
theorem dX14_readMany_205 : decode cX14_readMany 205 = .ok (.iload 5, 2) := by decide +kernel
theorem dX14_readMany_207 : decode cX14_readMany 207 = .ok (.ifCond .ge 14, 3) := by decide +kernel
theorem dX14_readMany_210 : decode cX14_readMany 210 = .ok (.aload_n 0, 1) := by decide +kernel
theorem dX14_readMany_211 : decode cX14_readMany 211 = .ok (.getfield 40, 3) := by decide +kernel
theorem dX14_readMany_214 : decode cX14_readMany 214 = .ok (.iload_n 3, 1) := by decide +kernel
theorem dX14_readMany_215 : decode cX14_readMany 215 = .ok (.iload 9, 2) := by decide +kernel
theorem dX14_readMany_217 : decode cX14_readMany 217 = .ok (.iastore, 1) := by decide +kernel
theorem dX14_readMany_218 : decode cX14_readMany 218 = .ok (.goto 12, 3) := by decide +kernel
theorem dX14_readMany_221 : decode cX14_readMany 221 = .ok (.aload_n 0, 1) := by decide +kernel
theorem dX14_readMany_222 : decode cX14_readMany 222 = .ok (.getfield 43, 3) := by decide +kernel
theorem dX14_readMany_225 : decode cX14_readMany 225 = .ok (.iload 5, 2) := by decide +kernel
theorem dX14_readMany_227 : decode cX14_readMany 227 = .ok (.iload 9, 2) := by decide +kernel
theorem dX14_readMany_229 : decode cX14_readMany 229 = .ok (.iastore, 1) := by decide +kernel
theorem dX14_readMany_230 : decode cX14_readMany 230 = .ok (.iload 9, 2) := by decide +kernel
theorem dX14_readMany_232 : decode cX14_readMany 232 = .ok (.istore 5, 2) := by decide +kernel
theorem dX14_readMany_234 : decode cX14_readMany 234 = .ok (.aload_n 0, 1) := by decide +kernel
theorem dX14_readMany_235 : decode cX14_readMany 235 = .ok (.invokevirtual 285, 3) := by decide +kernel
theorem dX14_readMany_238 : decode cX14_readMany 238 = .ok (.aload_n 0, 1) := by decide +kernel
theorem dX14_readMany_239 : decode cX14_readMany 239 = .ok (.invokevirtual 279, 3) := by decide +kernel
theorem dX14_readMany_242 : decode cX14_readMany 242 = .ok (.bipush 44, 2) := by decide +kernel
theorem dX14_readMany_244 : decode cX14_readMany 244 = .ok (.if_icmp .ne 7, 3) := by decide +kernel
theorem dX14_readMany_247 : decode cX14_readMany 247 = .ok (.iconst 1, 1) := by decide +kernel
theorem dX14_readMany_248 : decode cX14_readMany 248 = .ok (.goto 4, 3) := by decide +kernel
theorem dX14_readMany_251 : decode cX14_readMany 251 = .ok (.iconst 0, 1) := by decide +kernel
theorem dX14_readMany_252 : decode cX14_readMany 252 = .ok (.istore 6, 2) := by decide +kernel
theorem dX14_readMany_254 : decode cX14_readMany 254 = .ok (.iload 6, 2) := by decide +kernel
theorem dX14_readMany_256 : decode cX14_readMany 256 = .ok (.ifCond .ne 17, 3) := by decide +kernel
theorem dX14_readMany_259 : decode cX14_readMany 259 = .ok (.aload_n 0, 1) := by decide +kernel
theorem dX14_readMany_260 : decode cX14_readMany 260 = .ok (.invokevirtual 279, 3) := by decide +kernel
theorem dX14_readMany_263 : decode cX14_readMany 263 = .ok (.iload 4, 2) := by decide +kernel
theorem dX14_readMany_265 : decode cX14_readMany 265 = .ok (.if_icmp .eq 8, 3) := by decide +kernel
theorem dX14_readMany_268 : decode cX14_readMany 268 = .ok (.aload_n 0, 1) := by decide +kernel
theorem dX14_readMany_269 : decode cX14_readMany 269 = .ok (.iconst 1, 1) := by decide +kernel
theorem dX14_readMany_270 : decode cX14_readMany 270 = .ok (.putfield 288, 3) := by decide +kernel
theorem dX14_readMany_273 : decode cX14_readMany 273 = .ok (.aload_n 0, 1) := by decide +kernel
theorem dX14_readMany_274 : decode cX14_readMany 274 = .ok (.dup, 1) := by decide +kernel
theorem dX14_readMany_275 : decode cX14_readMany 275 = .ok (.getfield 273, 3) := by decide +kernel
theorem dX14_readMany_278 : decode cX14_readMany 278 = .ok (.iconst 1, 1) := by decide +kernel
theorem dX14_readMany_279 : decode cX14_readMany 279 = .ok (.iadd, 1) := by decide +kernel
theorem dX14_readMany_280 : decode cX14_readMany 280 = .ok (.putfield 273, 3) := by decide +kernel
theorem dX14_readMany_283 : decode cX14_readMany 283 = .ok (.goto (-214), 3) := by decide +kernel
theorem dX14_readMany_286 : decode cX14_readMany 286 = .ok (.iload_n 3, 1) := by decide +kernel
theorem dX14_readMany_287 : decode cX14_readMany 287 = .ok (.ireturn, 1) := by decide +kernel
end
section
theorem dX14_isText_0 : decode cX14_isText 0 = .ok (.iload_n 2, 1) := by decide +kernel
theorem dX14_isText_1 : decode cX14_isText 1 = .ok (.iload_n 1, 1) := by decide +kernel
theorem dX14_isText_2 : decode cX14_isText 2 = .ok (.isub, 1) := by decide +kernel
theorem dX14_isText_3 : decode cX14_isText 3 = .ok (.aload_n 3, 1) := by decide +kernel
theorem dX14_isText_4 : decode cX14_isText 4 = .ok (.invokevirtual 163, 3) := by decide +kernel
theorem dX14_isText_7 : decode cX14_isText 7 = .ok (.if_icmp .eq 5, 3) := by decide +kernel
theorem dX14_isText_10 : decode cX14_isText 10 = .ok (.iconst 0, 1) := by decide +kernel
theorem dX14_isText_11 : decode cX14_isText 11 = .ok (.ireturn, 1) := by decide +kernel
theorem dX14_isText_12 : decode cX14_isText 12 = .ok (.iconst 0, 1) := by decide +kernel
theorem dX14_isText_13 : decode cX14_isText 13 = .ok (.istore 4, 2) := by decide +kernel
theorem dX14_isText_15 : decode cX14_isText 15 = .ok (.iload 4, 2) := by decide +kernel
theorem dX14_isText_17 : decode cX14_isText 17 = .ok (.aload_n 3, 1) := by decide +kernel
theorem dX14_isText_18 : decode cX14_isText 18 = .ok (.invokevirtual 163, 3) := by decide +kernel
theorem dX14_isText_21 : decode cX14_isText 21 = .ok (.if_icmp .ge 29, 3) := by decide +kernel
theorem dX14_isText_24 : decode cX14_isText 24 = .ok (.aload_n 0, 1) := by decide +kernel
theorem dX14_isText_25 : decode cX14_isText 25 = .ok (.getfield 65, 3) := by decide +kernel
theorem dX14_isText_28 : decode cX14_isText 28 = .ok (.iload_n 1, 1) := by decide +kernel
theorem dX14_isText_29 : decode cX14_isText 29 = .ok (.iload 4, 2) := by decide +kernel
theorem dX14_isText_31 : decode cX14_isText 31 = .ok (.iadd, 1) := by decide +kernel
theorem dX14_isText_32 : decode cX14_isText 32 = .ok (.iaload, 1) := by decide +kernel
theorem dX14_isText_33 : decode cX14_isText 33 = .ok (.aload_n 3, 1) := by decide +kernel
theorem dX14_isText_34 : decode cX14_isText 34 = .ok (.iload 4, 2) := by decide +kernel
theorem dX14_isText_36 : decode cX14_isText 36 = .ok (.invokevirtual 168, 3) := by decide +kernel
theorem dX14_isText_39 : decode cX14_isText 39 = .ok (.if_icmp .eq 5, 3) := by decide +kernel
theorem dX14_isText_42 : decode cX14_isText 42 = .ok (.iconst 0, 1) := by decide +kernel
theorem dX14_isText_43 : decode cX14_isText 43 = .ok (.ireturn, 1) := by decide +kernel
theorem dX14_isText_44 : decode cX14_isText 44 = .ok (.iinc 4 1, 3) := by decide +kernel
theorem dX14_isText_47 : decode cX14_isText 47 = .ok (.goto (-32), 3) := by decide +kernel
theorem dX14_isText_50 : decode cX14_isText 50 = .ok (.iconst 1, 1) := by decide +kernel
theorem dX14_isText_51 : decode cX14_isText 51 = .ok (.ireturn, 1) := by decide +kernel
theorem dX14_member_0 : decode cX14_member 0 = .ok (.iconst (-1), 1) := by decide +kernel
theorem dX14_member_1 : decode cX14_member 1 = .ok (.istore_n 3, 1) := by decide +kernel
theorem dX14_member_2 : decode cX14_member 2 = .ok (.iload_n 1, 1) := by decide +kernel
theorem dX14_member_3 : decode cX14_member 3 = .ok (.ifCond .lt 14, 3) := by decide +kernel
theorem dX14_member_6 : decode cX14_member 6 = .ok (.aload_n 0, 1) := by decide +kernel
theorem dX14_member_7 : decode cX14_member 7 = .ok (.getfield 37, 3) := by decide +kernel
theorem dX14_member_10 : decode cX14_member 10 = .ok (.iload_n 1, 1) := by decide +kernel
theorem dX14_member_11 : decode cX14_member 11 = .ok (.iaload, 1) := by decide +kernel
theorem dX14_member_12 : decode cX14_member 12 = .ok (.bipush 6, 2) := by decide +kernel
theorem dX14_member_14 : decode cX14_member 14 = .ok (.if_icmp .eq 5, 3) := by decide +kernel
theorem dX14_member_17 : decode cX14_member 17 = .ok (.iconst (-1), 1) := by decide +kernel
theorem dX14_member_18 : decode cX14_member 18 = .ok (.ireturn, 1) := by decide +kernel
theorem dX14_member_19 : decode cX14_member 19 = .ok (.aload_n 0, 1) := by decide +kernel
theorem dX14_member_20 : decode cX14_member 20 = .ok (.getfield 40, 3) := by decide +kernel
theorem dX14_member_23 : decode cX14_member 23 = .ok (.iload_n 1, 1) := by decide +kernel
theorem dX14_member_24 : decode cX14_member 24 = .ok (.iaload, 1) := by decide +kernel
theorem dX14_member_25 : decode cX14_member 25 = .ok (.istore 4, 2) := by decide +kernel
theorem dX14_member_27 : decode cX14_member 27 = .ok (.iload 4, 2) := by decide +kernel
theorem dX14_member_29 : decode cX14_member 29 = .ok (.ifCond .lt 44, 3) := by decide +kernel
theorem dX14_member_32 : decode cX14_member 32 = .ok (.aload_n 0, 1) := by decide +kernel
theorem dX14_member_33 : decode cX14_member 33 = .ok (.aload_n 0, 1) := by decide +kernel
theorem dX14_member_34 : decode cX14_member 34 = .ok (.getfield 46, 3) := by decide +kernel
theorem dX14_member_37 : decode cX14_member 37 = .ok (.iload 4, 2) := by decide +kernel
theorem dX14_member_39 : decode cX14_member 39 = .ok (.iaload, 1) := by decide +kernel
theorem dX14_member_40 : decode cX14_member 40 = .ok (.aload_n 0, 1) := by decide +kernel
theorem dX14_member_41 : decode cX14_member 41 = .ok (.getfield 49, 3) := by decide +kernel
theorem dX14_member_44 : decode cX14_member 44 = .ok (.iload 4, 2) := by decide +kernel
theorem dX14_member_46 : decode cX14_member 46 = .ok (.iaload, 1) := by decide +kernel
theorem dX14_member_47 : decode cX14_member 47 = .ok (.aload_n 2, 1) := by decide +kernel
theorem dX14_member_48 : decode cX14_member 48 = .ok (.invokevirtual 364, 3) := by decide +kernel
theorem dX14_member_51 : decode cX14_member 51 = .ok (.ifCond .eq 8, 3) := by decide +kernel
theorem dX14_member_54 : decode cX14_member 54 = .ok (.iload 4, 2) := by decide +kernel
theorem dX14_member_56 : decode cX14_member 56 = .ok (.goto 4, 3) := by decide +kernel
theorem dX14_member_59 : decode cX14_member 59 = .ok (.iload_n 3, 1) := by decide +kernel
theorem dX14_member_60 : decode cX14_member 60 = .ok (.istore_n 3, 1) := by decide +kernel
theorem dX14_member_61 : decode cX14_member 61 = .ok (.aload_n 0, 1) := by decide +kernel
theorem dX14_member_62 : decode cX14_member 62 = .ok (.getfield 43, 3) := by decide +kernel
theorem dX14_member_65 : decode cX14_member 65 = .ok (.iload 4, 2) := by decide +kernel
theorem dX14_member_67 : decode cX14_member 67 = .ok (.iaload, 1) := by decide +kernel
theorem dX14_member_68 : decode cX14_member 68 = .ok (.istore 4, 2) := by decide +kernel
theorem dX14_member_70 : decode cX14_member 70 = .ok (.goto (-43), 3) := by decide +kernel
theorem dX14_member_73 : decode cX14_member 73 = .ok (.iload_n 3, 1) := by decide +kernel
theorem dX14_member_74 : decode cX14_member 74 = .ok (.ireturn, 1) := by decide +kernel
theorem dX14_isString_0 : decode cX14_isString 0 = .ok (.iload_n 1, 1) := by decide +kernel
theorem dX14_isString_1 : decode cX14_isString 1 = .ok (.ifCond .lt 17, 3) := by decide +kernel
theorem dX14_isString_4 : decode cX14_isString 4 = .ok (.aload_n 0, 1) := by decide +kernel
theorem dX14_isString_5 : decode cX14_isString 5 = .ok (.getfield 37, 3) := by decide +kernel
theorem dX14_isString_8 : decode cX14_isString 8 = .ok (.iload_n 1, 1) := by decide +kernel
theorem dX14_isString_9 : decode cX14_isString 9 = .ok (.iaload, 1) := by decide +kernel
theorem dX14_isString_10 : decode cX14_isString 10 = .ok (.iconst 4, 1) := by decide +kernel
theorem dX14_isString_11 : decode cX14_isString 11 = .ok (.if_icmp .ne 7, 3) := by decide +kernel
theorem dX14_isString_14 : decode cX14_isString 14 = .ok (.iconst 1, 1) := by decide +kernel
theorem dX14_isString_15 : decode cX14_isString 15 = .ok (.goto 4, 3) := by decide +kernel
theorem dX14_isString_18 : decode cX14_isString 18 = .ok (.iconst 0, 1) := by decide +kernel
theorem dX14_isString_19 : decode cX14_isString 19 = .ok (.ireturn, 1) := by decide +kernel
theorem dX14_isString__0 : decode cX14_isString_ 0 = .ok (.aload_n 0, 1) := by decide +kernel
theorem dX14_isString__1 : decode cX14_isString_ 1 = .ok (.iload_n 1, 1) := by decide +kernel
theorem dX14_isString__2 : decode cX14_isString_ 2 = .ok (.invokevirtual 368, 3) := by decide +kernel
theorem dX14_isString__5 : decode cX14_isString_ 5 = .ok (.ifCond .eq 27, 3) := by decide +kernel
theorem dX14_isString__8 : decode cX14_isString_ 8 = .ok (.aload_n 0, 1) := by decide +kernel
theorem dX14_isString__9 : decode cX14_isString_ 9 = .ok (.aload_n 0, 1) := by decide +kernel
theorem dX14_isString__10 : decode cX14_isString_ 10 = .ok (.getfield 52, 3) := by decide +kernel
theorem dX14_isString__13 : decode cX14_isString_ 13 = .ok (.iload_n 1, 1) := by decide +kernel
theorem dX14_isString__14 : decode cX14_isString_ 14 = .ok (.iaload, 1) := by decide +kernel
theorem dX14_isString__15 : decode cX14_isString_ 15 = .ok (.aload_n 0, 1) := by decide +kernel
theorem dX14_isString__16 : decode cX14_isString_ 16 = .ok (.getfield 55, 3) := by decide +kernel
theorem dX14_isString__19 : decode cX14_isString_ 19 = .ok (.iload_n 1, 1) := by decide +kernel
theorem dX14_isString__20 : decode cX14_isString_ 20 = .ok (.iaload, 1) := by decide +kernel
theorem dX14_isString__21 : decode cX14_isString_ 21 = .ok (.aload_n 2, 1) := by decide +kernel
theorem dX14_isString__22 : decode cX14_isString_ 22 = .ok (.invokevirtual 364, 3) := by decide +kernel
theorem dX14_isString__25 : decode cX14_isString_ 25 = .ok (.ifCond .eq 7, 3) := by decide +kernel
theorem dX14_isString__28 : decode cX14_isString_ 28 = .ok (.iconst 1, 1) := by decide +kernel
theorem dX14_isString__29 : decode cX14_isString_ 29 = .ok (.goto 4, 3) := by decide +kernel
theorem dX14_isString__32 : decode cX14_isString_ 32 = .ok (.iconst 0, 1) := by decide +kernel
theorem dX14_isString__33 : decode cX14_isString_ 33 = .ok (.ireturn, 1) := by decide +kernel
theorem dX14_isWhole_0 : decode cX14_isWhole 0 = .ok (.iload_n 1, 1) := by decide +kernel
theorem dX14_isWhole_1 : decode cX14_isWhole 1 = .ok (.ifCond .lt 26, 3) := by decide +kernel
theorem dX14_isWhole_4 : decode cX14_isWhole 4 = .ok (.aload_n 0, 1) := by decide +kernel
theorem dX14_isWhole_5 : decode cX14_isWhole 5 = .ok (.getfield 37, 3) := by decide +kernel
theorem dX14_isWhole_8 : decode cX14_isWhole 8 = .ok (.iload_n 1, 1) := by decide +kernel
theorem dX14_isWhole_9 : decode cX14_isWhole 9 = .ok (.iaload, 1) := by decide +kernel
theorem dX14_isWhole_10 : decode cX14_isWhole 10 = .ok (.iconst 3, 1) := by decide +kernel
theorem dX14_isWhole_11 : decode cX14_isWhole 11 = .ok (.if_icmp .ne 16, 3) := by decide +kernel
theorem dX14_isWhole_14 : decode cX14_isWhole 14 = .ok (.aload_n 0, 1) := by decide +kernel
theorem dX14_isWhole_15 : decode cX14_isWhole 15 = .ok (.getfield 58, 3) := by decide +kernel
theorem dX14_isWhole_18 : decode cX14_isWhole 18 = .ok (.iload_n 1, 1) := by decide +kernel
theorem dX14_isWhole_19 : decode cX14_isWhole 19 = .ok (.baload, 1) := by decide +kernel
theorem dX14_isWhole_20 : decode cX14_isWhole 20 = .ok (.ifCond .eq 7, 3) := by decide +kernel
theorem dX14_isWhole_23 : decode cX14_isWhole 23 = .ok (.iconst 1, 1) := by decide +kernel
theorem dX14_isWhole_24 : decode cX14_isWhole 24 = .ok (.goto 4, 3) := by decide +kernel
theorem dX14_isWhole_27 : decode cX14_isWhole 27 = .ok (.iconst 0, 1) := by decide +kernel
theorem dX14_isWhole_28 : decode cX14_isWhole 28 = .ok (.ireturn, 1) := by decide +kernel
theorem dX14_isId_0 : decode cX14_isId 0 = .ok (.aload_n 0, 1) := by decide +kernel
theorem dX14_isId_1 : decode cX14_isId 1 = .ok (.iload_n 1, 1) := by decide +kernel
theorem dX14_isId_2 : decode cX14_isId 2 = .ok (.invokevirtual 371, 3) := by decide +kernel
theorem dX14_isId_5 : decode cX14_isId 5 = .ok (.ifCond .ne 29, 3) := by decide +kernel
theorem dX14_isId_8 : decode cX14_isId 8 = .ok (.aload_n 0, 1) := by decide +kernel
theorem dX14_isId_9 : decode cX14_isId 9 = .ok (.iload_n 1, 1) := by decide +kernel
theorem dX14_isId_10 : decode cX14_isId 10 = .ok (.invokevirtual 368, 3) := by decide +kernel
theorem dX14_isId_13 : decode cX14_isId 13 = .ok (.ifCond .eq 25, 3) := by decide +kernel
theorem dX14_isId_16 : decode cX14_isId 16 = .ok (.aload_n 0, 1) := by decide +kernel
theorem dX14_isId_17 : decode cX14_isId 17 = .ok (.getfield 55, 3) := by decide +kernel
theorem dX14_isId_20 : decode cX14_isId 20 = .ok (.iload_n 1, 1) := by decide +kernel
theorem dX14_isId_21 : decode cX14_isId 21 = .ok (.iaload, 1) := by decide +kernel
theorem dX14_isId_22 : decode cX14_isId 22 = .ok (.aload_n 0, 1) := by decide +kernel
theorem dX14_isId_23 : decode cX14_isId 23 = .ok (.getfield 52, 3) := by decide +kernel
theorem dX14_isId_26 : decode cX14_isId 26 = .ok (.iload_n 1, 1) := by decide +kernel
theorem dX14_isId_27 : decode cX14_isId 27 = .ok (.iaload, 1) := by decide +kernel
theorem dX14_isId_28 : decode cX14_isId 28 = .ok (.isub, 1) := by decide +kernel
theorem dX14_isId_29 : decode cX14_isId 29 = .ok (.bipush 20, 2) := by decide +kernel
theorem dX14_isId_31 : decode cX14_isId 31 = .ok (.if_icmp .gt 7, 3) := by decide +kernel
theorem dX14_isId_34 : decode cX14_isId 34 = .ok (.iconst 1, 1) := by decide +kernel
theorem dX14_isId_35 : decode cX14_isId 35 = .ok (.goto 4, 3) := by decide +kernel
theorem dX14_isId_38 : decode cX14_isId 38 = .ok (.iconst 0, 1) := by decide +kernel
theorem dX14_isId_39 : decode cX14_isId 39 = .ok (.ireturn, 1) := by decide +kernel
theorem dX14_error_0 : decode cX14_error 0 = .ok (.aload_n 0, 1) := by decide +kernel
theorem dX14_error_1 : decode cX14_error 1 = .ok (.invokevirtual 392, 3) := by decide +kernel
theorem dX14_error_4 : decode cX14_error 4 = .ok (.aload_n 0, 1) := by decide +kernel
theorem dX14_error_5 : decode cX14_error 5 = .ok (.ldc_w 400, 3) := by decide +kernel
theorem dX14_error_8 : decode cX14_error 8 = .ok (.invokevirtual 189, 3) := by decide +kernel
theorem dX14_error_11 : decode cX14_error 11 = .ok (.aload_n 0, 1) := by decide +kernel
theorem dX14_error_12 : decode cX14_error 12 = .ok (.iload_n 1, 1) := by decide +kernel
theorem dX14_error_13 : decode cX14_error 13 = .ok (.invokevirtual 208, 3) := by decide +kernel
theorem dX14_error_16 : decode cX14_error 16 = .ok (.aload_n 0, 1) := by decide +kernel
theorem dX14_error_17 : decode cX14_error 17 = .ok (.ldc_w 402, 3) := by decide +kernel
theorem dX14_error_20 : decode cX14_error 20 = .ok (.invokevirtual 189, 3) := by decide +kernel
theorem dX14_error_23 : decode cX14_error 23 = .ok (.aload_n 0, 1) := by decide +kernel
theorem dX14_error_24 : decode cX14_error 24 = .ok (.iload_n 1, 1) := by decide +kernel
theorem dX14_error_25 : decode cX14_error 25 = .ok (.sipush (-32700), 3) := by decide +kernel
theorem dX14_error_28 : decode cX14_error 28 = .ok (.if_icmp .ne 9, 3) := by decide +kernel
theorem dX14_error_31 : decode cX14_error 31 = .ok (.ldc_w 404, 3) := by decide +kernel
theorem dX14_error_34 : decode cX14_error 34 = .ok (.goto 71, 3) := by decide +kernel
theorem dX14_error_37 : decode cX14_error 37 = .ok (.iload_n 1, 1) := by decide +kernel
theorem dX14_error_38 : decode cX14_error 38 = .ok (.sipush (-32600), 3) := by decide +kernel
theorem dX14_error_41 : decode cX14_error 41 = .ok (.if_icmp .ne 9, 3) := by decide +kernel
theorem dX14_error_44 : decode cX14_error 44 = .ok (.ldc_w 406, 3) := by decide +kernel
theorem dX14_error_47 : decode cX14_error 47 = .ok (.goto 58, 3) := by decide +kernel
theorem dX14_error_50 : decode cX14_error 50 = .ok (.iload_n 1, 1) := by decide +kernel
theorem dX14_error_51 : decode cX14_error 51 = .ok (.sipush (-32601), 3) := by decide +kernel
theorem dX14_error_54 : decode cX14_error 54 = .ok (.if_icmp .ne 9, 3) := by decide +kernel
theorem dX14_error_57 : decode cX14_error 57 = .ok (.ldc_w 408, 3) := by decide +kernel
theorem dX14_error_60 : decode cX14_error 60 = .ok (.goto 45, 3) := by decide +kernel
theorem dX14_error_63 : decode cX14_error 63 = .ok (.iload_n 1, 1) := by decide +kernel
theorem dX14_error_64 : decode cX14_error 64 = .ok (.sipush (-32602), 3) := by decide +kernel
theorem dX14_error_67 : decode cX14_error 67 = .ok (.if_icmp .ne 9, 3) := by decide +kernel
theorem dX14_error_70 : decode cX14_error 70 = .ok (.ldc_w 410, 3) := by decide +kernel
theorem dX14_error_73 : decode cX14_error 73 = .ok (.goto 32, 3) := by decide +kernel
theorem dX14_error_76 : decode cX14_error 76 = .ok (.iload_n 1, 1) := by decide +kernel
theorem dX14_error_77 : decode cX14_error 77 = .ok (.sipush (-32002), 3) := by decide +kernel
theorem dX14_error_80 : decode cX14_error 80 = .ok (.if_icmp .ne 9, 3) := by decide +kernel
theorem dX14_error_83 : decode cX14_error 83 = .ok (.ldc_w 412, 3) := by decide +kernel
theorem dX14_error_86 : decode cX14_error 86 = .ok (.goto 19, 3) := by decide +kernel
theorem dX14_error_89 : decode cX14_error 89 = .ok (.iload_n 1, 1) := by decide +kernel
theorem dX14_error_90 : decode cX14_error 90 = .ok (.ldc_w 414, 3) := by decide +kernel
theorem dX14_error_93 : decode cX14_error 93 = .ok (.if_icmp .ne 9, 3) := by decide +kernel
theorem dX14_error_96 : decode cX14_error 96 = .ok (.ldc_w 415, 3) := by decide +kernel
theorem dX14_error_99 : decode cX14_error 99 = .ok (.goto 6, 3) := by decide +kernel
theorem dX14_error_102 : decode cX14_error 102 = .ok (.ldc_w 417, 3) := by decide +kernel
theorem dX14_error_105 : decode cX14_error 105 = .ok (.invokevirtual 419, 3) := by decide +kernel
theorem dX14_error_108 : decode cX14_error 108 = .ok (.aload_n 0, 1) := by decide +kernel
theorem dX14_error_109 : decode cX14_error 109 = .ok (.bipush 125, 2) := by decide +kernel
theorem dX14_error_111 : decode cX14_error 111 = .ok (.invokevirtual 172, 3) := by decide +kernel
theorem dX14_error_114 : decode cX14_error 114 = .ok (.aload_n 0, 1) := by decide +kernel
theorem dX14_error_115 : decode cX14_error 115 = .ok (.invokevirtual 422, 3) := by decide +kernel
theorem dX14_error_118 : decode cX14_error 118 = .ok (.return_, 1) := by decide +kernel
def EX14_error : List (Nat × Nat) := [(16, 3), (16, 4), (16, 6), (101, 0)]
def qtx2426 : String := match tables_1[2426]? with | some (Jvm.Cond.stringRef _ _ t) => t | _ => ""
set_option maxHeartbeats 4000000 in
set_option maxRecDepth 20000 in
theorem uX14_error (l : Launch) (dC : Nat → ClassId) (dI : Nat → Nat → Nat) (ca : Nat → ClassId) (base : Nat) (B : jF) (hB : jBok B) (hAp : jAp (dC, dI)) (hB16 : ∀ n G a H, B 16 n G a H ↔ jOb (dC, dI) 16 74 (F16 n G) a H) (hB101 : ∀ n G a H, B 101 n G a H ↔ jAr (dC, dI) (ca 1) (fun j z => True) n a H) (G0 : jT) (H0 : Heap) (r0 : Nat) (a1 : Int32) : Met l yX14_error (jw yX14_error cX14_error 2 none) ({ frames := 14, cells := 0, slots := 0, locals := 505 }) (va_Pc [.ref r0, .int a1] (fun U => U.heap = H0 ∧ jX B base G0 [] H0 ∧ jG dC dI ca base U ∧ G0 r0 = some (16, 0) ∧ jP (dC, dI) G0 H0 [] ∧ True)) (va_Qv (S := Unit) (fun u => True) (fun u t => jRt (dC, dI) B base G0 EX14_error H0 [] t.heap) (jA base)) 0 0 (jA base) := by
  refine Met.ofW (cc := cX14_error) (maxL := 2) (ret := none) (by decide) rfl ?_
  intro p e s m args below meth c s₁ Bd hml hv
  obtain ⟨rfl, hH0, hX, hG, hg_r0, hP0, hp0⟩ := hv
  have hK := hG.1
  have hx := Bd.exec
  have hb := Bd.bytes
  have hr := Bd.returns
  have hts := atoms_spec (ws := (jw yX14_error cX14_error 2 none)) Bd.pre
  have htw : ∀ w ∈ jWl, w.before _ s = true := fun w h => hts w (List.mem_cons_of_mem _ h)
  have hown : s.vm.findClass RX14 = some m.cls := findClass_of_methodNamed Bd.named
  have hlocks := Bd.notSynchronized
  obtain ⟨Q, hQ⟩ : ∃ Q, Q = MQ below (va_Qv (S := Unit) (fun u => True) (fun u t => jRt (dC, dI) B base G0 EX14_error H0 [] t.heap) (jA base)) ([.ref r0, .int a1] : List Value).toArray s 0 0 (jA base) := ⟨_, rfl⟩
  rw [← hQ]
  have hl := lv_entry ([.ref r0, .int a1]) (n := 2) (Nat.le_of_ble_eq_true rfl)
  rw [lg_entry_eq]
  generalize (lg_sl ([.ref r0, .int a1]) ++ List.replicate (2 - (lg_sl ([.ref r0, .int a1])).length) Slot.unset).toArray = ls at hl ⊢
  have hl : lv_has ls 2 [(0, .ref r0), (1, .int a1)] := hl
  generalize hR : (headSpec (jw yX14_error cX14_error 2 none) ({ frames := 14, cells := 0, slots := 0, locals := 505 })).room = R
  subst hH0
  have hh : jSt (dC, dI) B base G0 G0 EX14_error s.heap 0 0 [] [] [] s.heap [] := jSt.start hX hP0 jMc.nil jIs.nil
  clear hX hP0
  have hkm32800 : ((-32800) : Int32).toInt = (-32800) := by decide
  have hkm32700 : ((-32700) : Int32).toInt = (-32700) := by decide
  have hkm32602 : ((-32602) : Int32).toInt = (-32602) := by decide
  have hkm32601 : ((-32601) : Int32).toInt = (-32601) := by decide
  have hkm32600 : ((-32600) : Int32).toInt = (-32600) := by decide
  have hkm32002 : ((-32002) : Int32).toInt = (-32002) := by decide
  have hk0 : (0 : Int32).toInt = 0 := by decide
  have hk1 : (1 : Int32).toInt = 1 := by decide
  have hk125 : (125 : Int32).toInt = 125 := by decide
  obtain ⟨str400, rstr400, hstr4000⟩ := hG.str (o := RX14) (k := 400) (tx := ",\"error\":{\"code\":") (List.mem_of_getElem? (i := 2420) (by decide +kernel))
  have hstr400 : jStr base str400 17 s s.heap := hstr4000
  obtain ⟨str402, rstr402, hstr4020⟩ := hG.str (o := RX14) (k := 402) (tx := ",\"message\":") (List.mem_of_getElem? (i := 2421) (by decide +kernel))
  have hstr402 : jStr base str402 11 s s.heap := hstr4020
  obtain ⟨str404, rstr404, hstr4040⟩ := hG.str (o := RX14) (k := 404) (tx := "not json") (List.mem_of_getElem? (i := 2422) (by decide +kernel))
  have hstr404 : jStr base str404 8 s s.heap := hstr4040
  obtain ⟨str406, rstr406, hstr4060⟩ := hG.str (o := RX14) (k := 406) (tx := "no request") (List.mem_of_getElem? (i := 2423) (by decide +kernel))
  have hstr406 : jStr base str406 10 s s.heap := hstr4060
  obtain ⟨str408, rstr408, hstr4080⟩ := hG.str (o := RX14) (k := 408) (tx := "no method") (List.mem_of_getElem? (i := 2424) (by decide +kernel))
  have hstr408 : jStr base str408 9 s s.heap := hstr4080
  obtain ⟨str410, rstr410, hstr4100⟩ := hG.str (o := RX14) (k := 410) (tx := "bad params") (List.mem_of_getElem? (i := 2425) (by decide +kernel))
  have hstr410 : jStr base str410 10 s s.heap := hstr4100
  obtain ⟨str412, rstr412, hstr4120⟩ := hG.str (o := RX14) (k := 412) (tx := qtx2426) (List.mem_of_getElem? (i := 2426) (by decide +kernel))
  have h9str412 : qtx2426.length = 15 := by decide +kernel
  have hstr412 : jStr base str412 15 s s.heap := by rw [h9str412] at hstr4120; exact hstr4120
  have hcs_414 := htw (.constant RX14 414 (-32800)) (jWr_53 _ (List.mem_of_getElem? (i := 13) rfl))
  obtain ⟨str415, rstr415, hstr4150⟩ := hG.str (o := RX14) (k := 415) (tx := "cancelled") (List.mem_of_getElem? (i := 2428) (by decide +kernel))
  have hstr415 : jStr base str415 9 s s.heap := hstr4150
  obtain ⟨str417, rstr417, hstr4170⟩ := hG.str (o := RX14) (k := 417) (tx := "modified") (List.mem_of_getElem? (i := 2429) (by decide +kernel))
  have hstr417 : jStr base str417 8 s s.heap := hstr4170
  have hrg_a1 := jb_rng a1
  refine lv_aload_n hx hb dX14_error_0 rfl (lv_at hl 0 rfl) ?_
  refine va_callv (A0 := jA base) (H0 := s.heap) (va_runV (As := []) (rest := []) ⟨hx, hb, hml, hown, hts⟩ (uX14_beginAnswer l dC dI ca base B hB hAp hB16 hB101 G0 s.heap r0) (cwV 0 hts (jgV (jWr_53 _ (List.mem_of_getElem? (i := 14) rfl)) (jWr_53 _ (List.mem_of_getElem? (i := 15) rfl)) (jWr_53 _ (List.mem_of_getElem? (i := 16) rfl)) (jWr_1 _ (List.mem_of_getElem? (i := 5) rfl)) (jWr_53 _ (List.mem_of_getElem? (i := 17) rfl))) rfl rfl rfl (by decide +kernel) ⟨by rw [← hR]; exact Nat.le_of_ble_eq_true rfl, by rw [← hR]; exact Nat.le_of_ble_eq_true rfl⟩) ⟨fun a U g mk q => by obtain ⟨q0, q1, q2, qK, q10, q11, q12⟩ := q; exact ⟨q0, q1, q2, jG.calling g mk a qK, q10, q11, q12⟩, hh.recv (C := RX14) (T := TX14) (N := 74) hB16 rfl (by decide) hg_r0 hK, fun U hU hW => ⟨rfl, hU, hh.2.1, hG.step hW hU hh.1, hg_r0, jP.nil, trivial⟩⟩ rfl rfl hl.1 rfl (lv_room (Nat.le_of_ble_eq_true rfl)) dX14_error_1 ⟨Nat.zero_le _, Nat.zero_le _⟩) hh.1 (fun q _ h => h) (fun q h => h) (fun u_1 t_1 H_1 locs_1 ht_1 hvm_1 hr_2 hb_1 hz_1 hk_1 hS_1 => ?_)
  rw [ht_1] at hb_1
  obtain ⟨hb_11, hb_12, hb_13, hb_14, hb_15⟩ := hb_1
  have hh_1 : jSt (dC, dI) B base G0 G0 EX14_error s.heap 0 0 [] [] [] H_1 locs_1 := ((hh.call hb_11 hb_12 hb_13 hb_14 hS_1 rfl (L1 := []) [] rfl rfl (M1 := []) [] rfl rfl (I1 := []) [] rfl rfl).more hb_15)
  clear hh ht_1 hvm_1 hz_1 hk_1 hS_1 hb_11 hb_12 hb_13 hb_14 hb_15
  refine lv_aload_n hx hb dX14_error_4 rfl (lv_at hl 0 rfl) ?_
  refine j_ldcSw hx hb hown rstr400 dX14_error_5 ?_
  obtain ⟨v_5, hv_5, hh_6⟩ := hh_1.pin (C := RX14) (T := TX14) (N := 74) hB16 rfl (by decide) hg_r0 (i := 6) (by decide) rfl
  obtain ⟨framed_7, rfl, hloframed_7, hhiframed_7⟩ := hv_5
  refine va_callv (A0 := jA base) (H0 := s.heap) (va_runV (As := [.ref str400]) (rest := []) ⟨hx, hb, hml, hown, hts⟩ (uX14_word l dC dI ca base B hB hAp hB16 hB101 G0 H_1 r0 str400 17 framed_7) (cwV 1 hts (jgV (jWr_53 _ (List.mem_of_getElem? (i := 22) rfl)) (jWr_53 _ (List.mem_of_getElem? (i := 23) rfl)) (jWr_54 _ (List.mem_of_getElem? (i := 0) rfl)) (jWr_1 _ (List.mem_of_getElem? (i := 5) rfl)) (jWr_54 _ (List.mem_of_getElem? (i := 1) rfl))) rfl rfl rfl (by decide +kernel) ⟨by rw [← hR]; exact Nat.le_of_ble_eq_true rfl, by rw [← hR]; exact Nat.le_of_ble_eq_true rfl⟩) ⟨fun a U g mk q => by obtain ⟨q0, q1, q2, qK, q10, q11, q12, q13⟩ := q; exact ⟨q0, q1, q2, jG.calling g mk a qK, (q10.moved (Vm.Alike.refl U.vm)), q11, q12, q13⟩, hh_6.recv (C := RX14) (T := TX14) (N := 74) hB16 rfl (by decide) hg_r0 hK, fun U hU hW => ⟨rfl, hU, hh_6.2.1, hG.step hW hU hh_6.1, (hstr400.moved hW.alike).kept hh_6.1.2.1, hg_r0, (hh_6.2.2.1.sub (L1 := [(r0, 16, 6, .int framed_7)]) [0] rfl), by first | omega | (refine ⟨?_, ?_, ?_⟩ <;> (first | omega | rfl | assumption | decide | exact Or.inl rfl | exact Or.inr rfl | (simp only; omega)))⟩⟩ rfl rfl hl.1 rfl (lv_room (Nat.le_of_ble_eq_true rfl)) dX14_error_8 ⟨Nat.zero_le _, Nat.zero_le _⟩) hh_6.1 (fun q _ h => h) (fun q h => h) (fun u_3 t_3 H_3 locs_3 ht_3 hvm_3 hr_4 hb_3 hz_3 hk_3 hS_3 => ?_)
  obtain ⟨qf_3, rfl⟩ : ∃ z, z = u_3 := ⟨_, rfl⟩
  rw [ht_3] at hb_3
  obtain ⟨hb_31, hb_32, hb_33, hb_34, hb_35⟩ := hb_3
  have hh_3 : jSt (dC, dI) B base G0 G0 EX14_error s.heap 0 0 [(r0, 16, 6, .int qf_3)] [] [] H_3 locs_3 := ((hh_6.call hb_31 hb_32 hb_33 hb_34 hS_3 rfl (L1 := []) [] rfl rfl (M1 := []) [] rfl rfl (I1 := []) [] rfl rfl).more hb_35)
  clear hh_6 ht_3 hvm_3 hz_3 hk_3 hS_3 hb_31 hb_32 hb_33 hb_34 hb_35
  obtain ⟨hr_4_0, hr_4_1⟩ := hr_4
  refine lv_aload_n hx hb dX14_error_11 rfl (lv_at hl 0 rfl) ?_
  refine lv_iload_n hx hb dX14_error_12 rfl (lv_at hl 1 rfl) ?_
  refine va_callv (A0 := jA base) (H0 := s.heap) (va_runV (As := [.int a1]) (rest := []) ⟨hx, hb, hml, hown, hts⟩ (uX14_number l dC dI ca base B hB hAp hB16 hB101 G0 H_3 r0 a1 qf_3) (cwV 1 hts (jgV (jWr_54 _ (List.mem_of_getElem? (i := 18) rfl)) (jWr_54 _ (List.mem_of_getElem? (i := 19) rfl)) (jWr_54 _ (List.mem_of_getElem? (i := 20) rfl)) (jWr_1 _ (List.mem_of_getElem? (i := 5) rfl)) (jWr_54 _ (List.mem_of_getElem? (i := 21) rfl))) rfl rfl rfl (by decide +kernel) ⟨by rw [← hR]; exact Nat.le_of_ble_eq_true rfl, by rw [← hR]; exact Nat.le_of_ble_eq_true rfl⟩) ⟨fun a U g mk q => by obtain ⟨q0, q1, q2, qK, q10, q11, q12⟩ := q; exact ⟨q0, q1, q2, jG.calling g mk a qK, q10, q11, q12⟩, hh_3.recv (C := RX14) (T := TX14) (N := 74) hB16 rfl (by decide) hg_r0 hK, fun U hU hW => ⟨rfl, hU, hh_3.2.1, hG.step hW hU hh_3.1, hg_r0, (hh_3.2.2.1.sub (L1 := [(r0, 16, 6, .int qf_3)]) [0] rfl), by first | omega | (refine ⟨?_, ?_⟩ <;> (first | omega | rfl | assumption | decide | exact Or.inl rfl | exact Or.inr rfl | (simp only; omega)))⟩⟩ rfl rfl hl.1 rfl (lv_room (Nat.le_of_ble_eq_true rfl)) dX14_error_13 ⟨Nat.zero_le _, Nat.zero_le _⟩) hh_3.1 (fun q _ h => h) (fun q h => h) (fun u_8 t_8 H_8 locs_8 ht_8 hvm_8 hr_9 hb_8 hz_8 hk_8 hS_8 => ?_)
  obtain ⟨qf_8, rfl⟩ : ∃ z, z = u_8 := ⟨_, rfl⟩
  rw [ht_8] at hb_8
  obtain ⟨hb_81, hb_82, hb_83, hb_84, hb_85⟩ := hb_8
  have hh_8 : jSt (dC, dI) B base G0 G0 EX14_error s.heap 0 0 [(r0, 16, 6, .int qf_8)] [] [] H_8 locs_8 := ((hh_3.call hb_81 hb_82 hb_83 hb_84 hS_8 rfl (L1 := []) [] rfl rfl (M1 := []) [] rfl rfl (I1 := []) [] rfl rfl).more hb_85)
  clear hh_3 ht_8 hvm_8 hz_8 hk_8 hS_8 hb_81 hb_82 hb_83 hb_84 hb_85
  obtain ⟨hr_9_0, hr_9_1⟩ := hr_9
  refine lv_aload_n hx hb dX14_error_16 rfl (lv_at hl 0 rfl) ?_
  refine j_ldcSw hx hb hown rstr402 dX14_error_17 ?_
  refine va_callv (A0 := jA base) (H0 := s.heap) (va_runV (As := [.ref str402]) (rest := []) ⟨hx, hb, hml, hown, hts⟩ (uX14_word l dC dI ca base B hB hAp hB16 hB101 G0 H_8 r0 str402 11 qf_8) (cwV 1 hts (jgV (jWr_53 _ (List.mem_of_getElem? (i := 22) rfl)) (jWr_53 _ (List.mem_of_getElem? (i := 23) rfl)) (jWr_54 _ (List.mem_of_getElem? (i := 0) rfl)) (jWr_1 _ (List.mem_of_getElem? (i := 5) rfl)) (jWr_54 _ (List.mem_of_getElem? (i := 1) rfl))) rfl rfl rfl (by decide +kernel) ⟨by rw [← hR]; exact Nat.le_of_ble_eq_true rfl, by rw [← hR]; exact Nat.le_of_ble_eq_true rfl⟩) ⟨fun a U g mk q => by obtain ⟨q0, q1, q2, qK, q10, q11, q12, q13⟩ := q; exact ⟨q0, q1, q2, jG.calling g mk a qK, (q10.moved (Vm.Alike.refl U.vm)), q11, q12, q13⟩, hh_8.recv (C := RX14) (T := TX14) (N := 74) hB16 rfl (by decide) hg_r0 hK, fun U hU hW => ⟨rfl, hU, hh_8.2.1, hG.step hW hU hh_8.1, (hstr402.moved hW.alike).kept hh_8.1.2.1, hg_r0, (hh_8.2.2.1.sub (L1 := [(r0, 16, 6, .int qf_8)]) [0] rfl), by first | omega | (refine ⟨?_, ?_, ?_⟩ <;> (first | omega | rfl | assumption | decide | exact Or.inl rfl | exact Or.inr rfl | (simp only; omega)))⟩⟩ rfl rfl hl.1 rfl (lv_room (Nat.le_of_ble_eq_true rfl)) dX14_error_20 ⟨Nat.zero_le _, Nat.zero_le _⟩) hh_8.1 (fun q _ h => h) (fun q h => h) (fun u_10 t_10 H_10 locs_10 ht_10 hvm_10 hr_11 hb_10 hz_10 hk_10 hS_10 => ?_)
  obtain ⟨qf_10, rfl⟩ : ∃ z, z = u_10 := ⟨_, rfl⟩
  rw [ht_10] at hb_10
  obtain ⟨hb_101, hb_102, hb_103, hb_104, hb_105⟩ := hb_10
  have hh_10 : jSt (dC, dI) B base G0 G0 EX14_error s.heap 0 0 [(r0, 16, 6, .int qf_10)] [] [] H_10 locs_10 := ((hh_8.call hb_101 hb_102 hb_103 hb_104 hS_10 rfl (L1 := []) [] rfl rfl (M1 := []) [] rfl rfl (I1 := []) [] rfl rfl).more hb_105)
  clear hh_8 ht_10 hvm_10 hz_10 hk_10 hS_10 hb_101 hb_102 hb_103 hb_104 hb_105
  obtain ⟨hr_11_0, hr_11_1⟩ := hr_11
  refine lv_aload_n hx hb dX14_error_23 rfl (lv_at hl 0 rfl) ?_
  refine lv_iload_n hx hb dX14_error_24 rfl (lv_at hl 1 rfl) ?_
  refine lv_sipush (v := (-32700)) hx hb dX14_error_25 (by decide) ?_
  refine lv_icmp_ne (tgt := 37) hx hb dX14_error_28 (by decide) (fun c_12 => ?_) (fun c_12 => ?_)
  · skip
    have c_12' : a1.toInt ≠ (-32700) := jb_ne (rfl) ((by decide)) c_12
    refine lv_iload_n hx hb dX14_error_37 rfl (lv_at hl 1 rfl) ?_
    refine lv_sipush (v := (-32600)) hx hb dX14_error_38 (by decide) ?_
    refine lv_icmp_ne (tgt := 50) hx hb dX14_error_41 (by decide) (fun c_13 => ?_) (fun c_13 => ?_)
    · skip
      have c_13' : a1.toInt ≠ (-32600) := jb_ne (rfl) ((by decide)) c_13
      refine lv_iload_n hx hb dX14_error_50 rfl (lv_at hl 1 rfl) ?_
      refine lv_sipush (v := (-32601)) hx hb dX14_error_51 (by decide) ?_
      refine lv_icmp_ne (tgt := 63) hx hb dX14_error_54 (by decide) (fun c_14 => ?_) (fun c_14 => ?_)
      · skip
        have c_14' : a1.toInt ≠ (-32601) := jb_ne (rfl) ((by decide)) c_14
        refine lv_iload_n hx hb dX14_error_63 rfl (lv_at hl 1 rfl) ?_
        refine lv_sipush (v := (-32602)) hx hb dX14_error_64 (by decide) ?_
        refine lv_icmp_ne (tgt := 76) hx hb dX14_error_67 (by decide) (fun c_15 => ?_) (fun c_15 => ?_)
        · skip
          have c_15' : a1.toInt ≠ (-32602) := jb_ne (rfl) ((by decide)) c_15
          refine lv_iload_n hx hb dX14_error_76 rfl (lv_at hl 1 rfl) ?_
          refine lv_sipush (v := (-32002)) hx hb dX14_error_77 (by decide) ?_
          refine lv_icmp_ne (tgt := 89) hx hb dX14_error_80 (by decide) (fun c_16 => ?_) (fun c_16 => ?_)
          · skip
            have c_16' : a1.toInt ≠ (-32002) := jb_ne (rfl) ((by decide)) c_16
            refine lv_iload_n hx hb dX14_error_89 rfl (lv_at hl 1 rfl) ?_
            refine lv_ldcw hx hb hown hcs_414 dX14_error_90 ?_
            refine lv_icmp_ne (tgt := 102) hx hb dX14_error_93 (by decide) (fun c_17 => ?_) (fun c_17 => ?_)
            · skip
              have c_17' : a1.toInt ≠ (-32800) := jb_ne (rfl) ((by decide)) c_17
              refine j_ldcSw hx hb hown rstr417 dX14_error_102 ?_
              refine va_callv (A0 := jA base) (H0 := s.heap) (va_runV (As := [.ref str417]) (rest := []) ⟨hx, hb, hml, hown, hts⟩ (uX14_text l dC dI ca base B hB hAp hB16 hB101 G0 H_10 r0 str417 8 qf_10) (cwV 1 hts (jgV (jWr_55 _ (List.mem_of_getElem? (i := 2) rfl)) (jWr_55 _ (List.mem_of_getElem? (i := 3) rfl)) (jWr_55 _ (List.mem_of_getElem? (i := 4) rfl)) (jWr_1 _ (List.mem_of_getElem? (i := 5) rfl)) (jWr_55 _ (List.mem_of_getElem? (i := 5) rfl))) rfl rfl rfl (by decide +kernel) ⟨by rw [← hR]; exact Nat.le_of_ble_eq_true rfl, by rw [← hR]; exact Nat.le_of_ble_eq_true rfl⟩) ⟨fun a U g mk q => by obtain ⟨q0, q1, q2, qK, q10, q11, q12, q13⟩ := q; exact ⟨q0, q1, q2, jG.calling g mk a qK, (q10.moved (Vm.Alike.refl U.vm)), q11, q12, q13⟩, hh_10.recv (C := RX14) (T := TX14) (N := 74) hB16 rfl (by decide) hg_r0 hK, fun U hU hW => ⟨rfl, hU, hh_10.2.1, hG.step hW hU hh_10.1, (hstr417.moved hW.alike).kept hh_10.1.2.1, hg_r0, (hh_10.2.2.1.sub (L1 := [(r0, 16, 6, .int qf_10)]) [0] rfl), by first | omega | (refine ⟨?_, ?_, ?_⟩ <;> (first | omega | rfl | assumption | decide | exact Or.inl rfl | exact Or.inr rfl | (simp only; omega)))⟩⟩ rfl rfl hl.1 rfl (lv_room (Nat.le_of_ble_eq_true rfl)) dX14_error_105 ⟨Nat.zero_le _, Nat.zero_le _⟩) hh_10.1 (fun q _ h => h) (fun q h => h) (fun u_18 t_18 H_18 locs_18 ht_18 hvm_18 hr_19 hb_18 hz_18 hk_18 hS_18 => ?_)
              obtain ⟨qf_18, rfl⟩ : ∃ z, z = u_18 := ⟨_, rfl⟩
              rw [ht_18] at hb_18
              obtain ⟨hb_181, hb_182, hb_183, hb_184, hb_185⟩ := hb_18
              have hh_18 : jSt (dC, dI) B base G0 G0 EX14_error s.heap 0 0 [(r0, 16, 6, .int qf_18)] [] [] H_18 locs_18 := ((hh_10.call hb_181 hb_182 hb_183 hb_184 hS_18 rfl (L1 := []) [] rfl rfl (M1 := []) [] rfl rfl (I1 := []) [] rfl rfl).more hb_185)
              clear hh_10 ht_18 hvm_18 hz_18 hk_18 hS_18 hb_181 hb_182 hb_183 hb_184 hb_185
              obtain ⟨hr_19_0, hr_19_1⟩ := hr_19
              refine lv_aload_n hx hb dX14_error_108 rfl (lv_at hl 0 rfl) ?_
              refine lv_bipush (v := 125) hx hb dX14_error_109 (by decide) ?_
              refine va_callv (A0 := jA base) (H0 := s.heap) (va_runV (As := [.int 125]) (rest := []) ⟨hx, hb, hml, hown, hts⟩ (uX14_put l dC dI ca base B hB hAp hB16 hB101 G0 H_18 r0 125 qf_18) (cwV 1 hts (jgV (jWr_54 _ (List.mem_of_getElem? (i := 2) rfl)) (jWr_54 _ (List.mem_of_getElem? (i := 3) rfl)) (jWr_54 _ (List.mem_of_getElem? (i := 4) rfl)) (jWr_1 _ (List.mem_of_getElem? (i := 5) rfl)) (jWr_54 _ (List.mem_of_getElem? (i := 5) rfl))) rfl rfl rfl (by decide +kernel) ⟨by rw [← hR]; exact Nat.le_of_ble_eq_true rfl, by rw [← hR]; exact Nat.le_of_ble_eq_true rfl⟩) ⟨fun a U g mk q => by obtain ⟨q0, q1, q2, qK, q10, q11, q12⟩ := q; exact ⟨q0, q1, q2, jG.calling g mk a qK, q10, q11, q12⟩, hh_18.recv (C := RX14) (T := TX14) (N := 74) hB16 rfl (by decide) hg_r0 hK, fun U hU hW => ⟨rfl, hU, hh_18.2.1, hG.step hW hU hh_18.1, hg_r0, (hh_18.2.2.1.sub (L1 := [(r0, 16, 6, .int qf_18)]) [0] rfl), by first | omega | (refine ⟨?_, ?_⟩ <;> (first | omega | rfl | assumption | decide | exact Or.inl rfl | exact Or.inr rfl | (simp only; omega)))⟩⟩ rfl rfl hl.1 rfl (lv_room (Nat.le_of_ble_eq_true rfl)) dX14_error_111 ⟨Nat.zero_le _, Nat.zero_le _⟩) hh_18.1 (fun q _ h => h) (fun q h => h) (fun u_20 t_20 H_20 locs_20 ht_20 hvm_20 hr_21 hb_20 hz_20 hk_20 hS_20 => ?_)
              obtain ⟨qf_20, rfl⟩ : ∃ z, z = u_20 := ⟨_, rfl⟩
              rw [ht_20] at hb_20
              obtain ⟨hb_201, hb_202, hb_203, hb_204, hb_205⟩ := hb_20
              have hh_20 : jSt (dC, dI) B base G0 G0 EX14_error s.heap 0 0 [(r0, 16, 6, .int qf_20)] [] [] H_20 locs_20 := ((hh_18.call hb_201 hb_202 hb_203 hb_204 hS_20 rfl (L1 := []) [] rfl rfl (M1 := []) [] rfl rfl (I1 := []) [] rfl rfl).more hb_205)
              clear hh_18 ht_20 hvm_20 hz_20 hk_20 hS_20 hb_201 hb_202 hb_203 hb_204 hb_205
              obtain ⟨hr_21_0, hr_21_1⟩ := hr_21
              refine lv_aload_n hx hb dX14_error_114 rfl (lv_at hl 0 rfl) ?_
              refine va_callv (A0 := jA base) (H0 := s.heap) (va_runV (As := []) (rest := []) ⟨hx, hb, hml, hown, hts⟩ (uX14_endAnswer l dC dI ca base B hB hAp hB16 hB101 G0 H_20 r0) (cwV 0 hts (jgV (jWr_55 _ (List.mem_of_getElem? (i := 6) rfl)) (jWr_55 _ (List.mem_of_getElem? (i := 7) rfl)) (jWr_55 _ (List.mem_of_getElem? (i := 8) rfl)) (jWr_1 _ (List.mem_of_getElem? (i := 5) rfl)) (jWr_55 _ (List.mem_of_getElem? (i := 9) rfl))) rfl rfl rfl (by decide +kernel) ⟨by rw [← hR]; exact Nat.le_of_ble_eq_true rfl, by rw [← hR]; exact Nat.le_of_ble_eq_true rfl⟩) ⟨fun a U g mk q => by obtain ⟨q0, q1, q2, qK, q10, q11, q12⟩ := q; exact ⟨q0, q1, q2, jG.calling g mk a qK, q10, q11, q12⟩, hh_20.recv (C := RX14) (T := TX14) (N := 74) hB16 rfl (by decide) hg_r0 hK, fun U hU hW => ⟨rfl, hU, hh_20.2.1, hG.step hW hU hh_20.1, hg_r0, jP.nil, trivial⟩⟩ rfl rfl hl.1 rfl (lv_room (Nat.le_of_ble_eq_true rfl)) dX14_error_115 ⟨Nat.zero_le _, Nat.zero_le _⟩) hh_20.1 (fun q _ h => h) (fun q h => h) (fun u_22 t_22 H_22 locs_22 ht_22 hvm_22 hr_23 hb_22 hz_22 hk_22 hS_22 => ?_)
              rw [ht_22] at hb_22
              obtain ⟨hb_221, hb_222, hb_223, hb_224, hb_225⟩ := hb_22
              have hh_22 : jSt (dC, dI) B base G0 G0 EX14_error s.heap 0 0 [] [] [] H_22 locs_22 := ((hh_20.call hb_221 hb_222 hb_223 hb_224 hS_22 rfl (L1 := []) [] rfl rfl (M1 := []) [] rfl rfl (I1 := []) [] rfl rfl).more hb_225)
              clear hh_20 ht_22 hvm_22 hz_22 hk_22 hS_22 hb_221 hb_222 hb_223 hb_224 hb_225
              rw [hQ]
              exact W.vret hx hb hr (fun t ht hW => ⟨⟨(), rfl, trivial, hh_22.rt (M1 := []) [] rfl ht⟩, by rw [ht]; try exact hh_22.1.1, fun q h9 hq => by rw [ht]; try exact hh_22.1.2.1 q h9 hq⟩) hh_22.1.2.2 dX14_error_118
            · skip
              have c_17' : a1.toInt = (-32800) := jb_ne_n (rfl) ((by decide)) c_17
              refine j_ldcSw hx hb hown rstr415 dX14_error_96 ?_
              refine lv_goto (tgt := 105) hx hb dX14_error_99 (by decide) ?_
              refine va_callv (A0 := jA base) (H0 := s.heap) (va_runV (As := [.ref str415]) (rest := []) ⟨hx, hb, hml, hown, hts⟩ (uX14_text l dC dI ca base B hB hAp hB16 hB101 G0 H_10 r0 str415 9 qf_10) (cwV 1 hts (jgV (jWr_55 _ (List.mem_of_getElem? (i := 2) rfl)) (jWr_55 _ (List.mem_of_getElem? (i := 3) rfl)) (jWr_55 _ (List.mem_of_getElem? (i := 4) rfl)) (jWr_1 _ (List.mem_of_getElem? (i := 5) rfl)) (jWr_55 _ (List.mem_of_getElem? (i := 5) rfl))) rfl rfl rfl (by decide +kernel) ⟨by rw [← hR]; exact Nat.le_of_ble_eq_true rfl, by rw [← hR]; exact Nat.le_of_ble_eq_true rfl⟩) ⟨fun a U g mk q => by obtain ⟨q0, q1, q2, qK, q10, q11, q12, q13⟩ := q; exact ⟨q0, q1, q2, jG.calling g mk a qK, (q10.moved (Vm.Alike.refl U.vm)), q11, q12, q13⟩, hh_10.recv (C := RX14) (T := TX14) (N := 74) hB16 rfl (by decide) hg_r0 hK, fun U hU hW => ⟨rfl, hU, hh_10.2.1, hG.step hW hU hh_10.1, (hstr415.moved hW.alike).kept hh_10.1.2.1, hg_r0, (hh_10.2.2.1.sub (L1 := [(r0, 16, 6, .int qf_10)]) [0] rfl), by first | omega | (refine ⟨?_, ?_, ?_⟩ <;> (first | omega | rfl | assumption | decide | exact Or.inl rfl | exact Or.inr rfl | (simp only; omega)))⟩⟩ rfl rfl hl.1 rfl (lv_room (Nat.le_of_ble_eq_true rfl)) dX14_error_105 ⟨Nat.zero_le _, Nat.zero_le _⟩) hh_10.1 (fun q _ h => h) (fun q h => h) (fun u_24 t_24 H_24 locs_24 ht_24 hvm_24 hr_25 hb_24 hz_24 hk_24 hS_24 => ?_)
              obtain ⟨qf_24, rfl⟩ : ∃ z, z = u_24 := ⟨_, rfl⟩
              rw [ht_24] at hb_24
              obtain ⟨hb_241, hb_242, hb_243, hb_244, hb_245⟩ := hb_24
              have hh_24 : jSt (dC, dI) B base G0 G0 EX14_error s.heap 0 0 [(r0, 16, 6, .int qf_24)] [] [] H_24 locs_24 := ((hh_10.call hb_241 hb_242 hb_243 hb_244 hS_24 rfl (L1 := []) [] rfl rfl (M1 := []) [] rfl rfl (I1 := []) [] rfl rfl).more hb_245)
              clear hh_10 ht_24 hvm_24 hz_24 hk_24 hS_24 hb_241 hb_242 hb_243 hb_244 hb_245
              obtain ⟨hr_25_0, hr_25_1⟩ := hr_25
              refine lv_aload_n hx hb dX14_error_108 rfl (lv_at hl 0 rfl) ?_
              refine lv_bipush (v := 125) hx hb dX14_error_109 (by decide) ?_
              refine va_callv (A0 := jA base) (H0 := s.heap) (va_runV (As := [.int 125]) (rest := []) ⟨hx, hb, hml, hown, hts⟩ (uX14_put l dC dI ca base B hB hAp hB16 hB101 G0 H_24 r0 125 qf_24) (cwV 1 hts (jgV (jWr_54 _ (List.mem_of_getElem? (i := 2) rfl)) (jWr_54 _ (List.mem_of_getElem? (i := 3) rfl)) (jWr_54 _ (List.mem_of_getElem? (i := 4) rfl)) (jWr_1 _ (List.mem_of_getElem? (i := 5) rfl)) (jWr_54 _ (List.mem_of_getElem? (i := 5) rfl))) rfl rfl rfl (by decide +kernel) ⟨by rw [← hR]; exact Nat.le_of_ble_eq_true rfl, by rw [← hR]; exact Nat.le_of_ble_eq_true rfl⟩) ⟨fun a U g mk q => by obtain ⟨q0, q1, q2, qK, q10, q11, q12⟩ := q; exact ⟨q0, q1, q2, jG.calling g mk a qK, q10, q11, q12⟩, hh_24.recv (C := RX14) (T := TX14) (N := 74) hB16 rfl (by decide) hg_r0 hK, fun U hU hW => ⟨rfl, hU, hh_24.2.1, hG.step hW hU hh_24.1, hg_r0, (hh_24.2.2.1.sub (L1 := [(r0, 16, 6, .int qf_24)]) [0] rfl), by first | omega | (refine ⟨?_, ?_⟩ <;> (first | omega | rfl | assumption | decide | exact Or.inl rfl | exact Or.inr rfl | (simp only; omega)))⟩⟩ rfl rfl hl.1 rfl (lv_room (Nat.le_of_ble_eq_true rfl)) dX14_error_111 ⟨Nat.zero_le _, Nat.zero_le _⟩) hh_24.1 (fun q _ h => h) (fun q h => h) (fun u_26 t_26 H_26 locs_26 ht_26 hvm_26 hr_27 hb_26 hz_26 hk_26 hS_26 => ?_)
              obtain ⟨qf_26, rfl⟩ : ∃ z, z = u_26 := ⟨_, rfl⟩
              rw [ht_26] at hb_26
              obtain ⟨hb_261, hb_262, hb_263, hb_264, hb_265⟩ := hb_26
              have hh_26 : jSt (dC, dI) B base G0 G0 EX14_error s.heap 0 0 [(r0, 16, 6, .int qf_26)] [] [] H_26 locs_26 := ((hh_24.call hb_261 hb_262 hb_263 hb_264 hS_26 rfl (L1 := []) [] rfl rfl (M1 := []) [] rfl rfl (I1 := []) [] rfl rfl).more hb_265)
              clear hh_24 ht_26 hvm_26 hz_26 hk_26 hS_26 hb_261 hb_262 hb_263 hb_264 hb_265
              obtain ⟨hr_27_0, hr_27_1⟩ := hr_27
              refine lv_aload_n hx hb dX14_error_114 rfl (lv_at hl 0 rfl) ?_
              refine va_callv (A0 := jA base) (H0 := s.heap) (va_runV (As := []) (rest := []) ⟨hx, hb, hml, hown, hts⟩ (uX14_endAnswer l dC dI ca base B hB hAp hB16 hB101 G0 H_26 r0) (cwV 0 hts (jgV (jWr_55 _ (List.mem_of_getElem? (i := 6) rfl)) (jWr_55 _ (List.mem_of_getElem? (i := 7) rfl)) (jWr_55 _ (List.mem_of_getElem? (i := 8) rfl)) (jWr_1 _ (List.mem_of_getElem? (i := 5) rfl)) (jWr_55 _ (List.mem_of_getElem? (i := 9) rfl))) rfl rfl rfl (by decide +kernel) ⟨by rw [← hR]; exact Nat.le_of_ble_eq_true rfl, by rw [← hR]; exact Nat.le_of_ble_eq_true rfl⟩) ⟨fun a U g mk q => by obtain ⟨q0, q1, q2, qK, q10, q11, q12⟩ := q; exact ⟨q0, q1, q2, jG.calling g mk a qK, q10, q11, q12⟩, hh_26.recv (C := RX14) (T := TX14) (N := 74) hB16 rfl (by decide) hg_r0 hK, fun U hU hW => ⟨rfl, hU, hh_26.2.1, hG.step hW hU hh_26.1, hg_r0, jP.nil, trivial⟩⟩ rfl rfl hl.1 rfl (lv_room (Nat.le_of_ble_eq_true rfl)) dX14_error_115 ⟨Nat.zero_le _, Nat.zero_le _⟩) hh_26.1 (fun q _ h => h) (fun q h => h) (fun u_28 t_28 H_28 locs_28 ht_28 hvm_28 hr_29 hb_28 hz_28 hk_28 hS_28 => ?_)
              rw [ht_28] at hb_28
              obtain ⟨hb_281, hb_282, hb_283, hb_284, hb_285⟩ := hb_28
              have hh_28 : jSt (dC, dI) B base G0 G0 EX14_error s.heap 0 0 [] [] [] H_28 locs_28 := ((hh_26.call hb_281 hb_282 hb_283 hb_284 hS_28 rfl (L1 := []) [] rfl rfl (M1 := []) [] rfl rfl (I1 := []) [] rfl rfl).more hb_285)
              clear hh_26 ht_28 hvm_28 hz_28 hk_28 hS_28 hb_281 hb_282 hb_283 hb_284 hb_285
              rw [hQ]
              exact W.vret hx hb hr (fun t ht hW => ⟨⟨(), rfl, trivial, hh_28.rt (M1 := []) [] rfl ht⟩, by rw [ht]; try exact hh_28.1.1, fun q h9 hq => by rw [ht]; try exact hh_28.1.2.1 q h9 hq⟩) hh_28.1.2.2 dX14_error_118
          · skip
            have c_16' : a1.toInt = (-32002) := jb_ne_n (rfl) ((by decide)) c_16
            refine j_ldcSw hx hb hown rstr412 dX14_error_83 ?_
            refine lv_goto (tgt := 105) hx hb dX14_error_86 (by decide) ?_
            refine va_callv (A0 := jA base) (H0 := s.heap) (va_runV (As := [.ref str412]) (rest := []) ⟨hx, hb, hml, hown, hts⟩ (uX14_text l dC dI ca base B hB hAp hB16 hB101 G0 H_10 r0 str412 15 qf_10) (cwV 1 hts (jgV (jWr_55 _ (List.mem_of_getElem? (i := 2) rfl)) (jWr_55 _ (List.mem_of_getElem? (i := 3) rfl)) (jWr_55 _ (List.mem_of_getElem? (i := 4) rfl)) (jWr_1 _ (List.mem_of_getElem? (i := 5) rfl)) (jWr_55 _ (List.mem_of_getElem? (i := 5) rfl))) rfl rfl rfl (by decide +kernel) ⟨by rw [← hR]; exact Nat.le_of_ble_eq_true rfl, by rw [← hR]; exact Nat.le_of_ble_eq_true rfl⟩) ⟨fun a U g mk q => by obtain ⟨q0, q1, q2, qK, q10, q11, q12, q13⟩ := q; exact ⟨q0, q1, q2, jG.calling g mk a qK, (q10.moved (Vm.Alike.refl U.vm)), q11, q12, q13⟩, hh_10.recv (C := RX14) (T := TX14) (N := 74) hB16 rfl (by decide) hg_r0 hK, fun U hU hW => ⟨rfl, hU, hh_10.2.1, hG.step hW hU hh_10.1, (hstr412.moved hW.alike).kept hh_10.1.2.1, hg_r0, (hh_10.2.2.1.sub (L1 := [(r0, 16, 6, .int qf_10)]) [0] rfl), by first | omega | (refine ⟨?_, ?_, ?_⟩ <;> (first | omega | rfl | assumption | decide | exact Or.inl rfl | exact Or.inr rfl | (simp only; omega)))⟩⟩ rfl rfl hl.1 rfl (lv_room (Nat.le_of_ble_eq_true rfl)) dX14_error_105 ⟨Nat.zero_le _, Nat.zero_le _⟩) hh_10.1 (fun q _ h => h) (fun q h => h) (fun u_30 t_30 H_30 locs_30 ht_30 hvm_30 hr_31 hb_30 hz_30 hk_30 hS_30 => ?_)
            obtain ⟨qf_30, rfl⟩ : ∃ z, z = u_30 := ⟨_, rfl⟩
            rw [ht_30] at hb_30
            obtain ⟨hb_301, hb_302, hb_303, hb_304, hb_305⟩ := hb_30
            have hh_30 : jSt (dC, dI) B base G0 G0 EX14_error s.heap 0 0 [(r0, 16, 6, .int qf_30)] [] [] H_30 locs_30 := ((hh_10.call hb_301 hb_302 hb_303 hb_304 hS_30 rfl (L1 := []) [] rfl rfl (M1 := []) [] rfl rfl (I1 := []) [] rfl rfl).more hb_305)
            clear hh_10 ht_30 hvm_30 hz_30 hk_30 hS_30 hb_301 hb_302 hb_303 hb_304 hb_305
            obtain ⟨hr_31_0, hr_31_1⟩ := hr_31
            refine lv_aload_n hx hb dX14_error_108 rfl (lv_at hl 0 rfl) ?_
            refine lv_bipush (v := 125) hx hb dX14_error_109 (by decide) ?_
            refine va_callv (A0 := jA base) (H0 := s.heap) (va_runV (As := [.int 125]) (rest := []) ⟨hx, hb, hml, hown, hts⟩ (uX14_put l dC dI ca base B hB hAp hB16 hB101 G0 H_30 r0 125 qf_30) (cwV 1 hts (jgV (jWr_54 _ (List.mem_of_getElem? (i := 2) rfl)) (jWr_54 _ (List.mem_of_getElem? (i := 3) rfl)) (jWr_54 _ (List.mem_of_getElem? (i := 4) rfl)) (jWr_1 _ (List.mem_of_getElem? (i := 5) rfl)) (jWr_54 _ (List.mem_of_getElem? (i := 5) rfl))) rfl rfl rfl (by decide +kernel) ⟨by rw [← hR]; exact Nat.le_of_ble_eq_true rfl, by rw [← hR]; exact Nat.le_of_ble_eq_true rfl⟩) ⟨fun a U g mk q => by obtain ⟨q0, q1, q2, qK, q10, q11, q12⟩ := q; exact ⟨q0, q1, q2, jG.calling g mk a qK, q10, q11, q12⟩, hh_30.recv (C := RX14) (T := TX14) (N := 74) hB16 rfl (by decide) hg_r0 hK, fun U hU hW => ⟨rfl, hU, hh_30.2.1, hG.step hW hU hh_30.1, hg_r0, (hh_30.2.2.1.sub (L1 := [(r0, 16, 6, .int qf_30)]) [0] rfl), by first | omega | (refine ⟨?_, ?_⟩ <;> (first | omega | rfl | assumption | decide | exact Or.inl rfl | exact Or.inr rfl | (simp only; omega)))⟩⟩ rfl rfl hl.1 rfl (lv_room (Nat.le_of_ble_eq_true rfl)) dX14_error_111 ⟨Nat.zero_le _, Nat.zero_le _⟩) hh_30.1 (fun q _ h => h) (fun q h => h) (fun u_32 t_32 H_32 locs_32 ht_32 hvm_32 hr_33 hb_32 hz_32 hk_32 hS_32 => ?_)
            obtain ⟨qf_32, rfl⟩ : ∃ z, z = u_32 := ⟨_, rfl⟩
            rw [ht_32] at hb_32
            obtain ⟨hb_321, hb_322, hb_323, hb_324, hb_325⟩ := hb_32
            have hh_32 : jSt (dC, dI) B base G0 G0 EX14_error s.heap 0 0 [(r0, 16, 6, .int qf_32)] [] [] H_32 locs_32 := ((hh_30.call hb_321 hb_322 hb_323 hb_324 hS_32 rfl (L1 := []) [] rfl rfl (M1 := []) [] rfl rfl (I1 := []) [] rfl rfl).more hb_325)
            clear hh_30 ht_32 hvm_32 hz_32 hk_32 hS_32 hb_321 hb_322 hb_323 hb_324 hb_325
            obtain ⟨hr_33_0, hr_33_1⟩ := hr_33
            refine lv_aload_n hx hb dX14_error_114 rfl (lv_at hl 0 rfl) ?_
            refine va_callv (A0 := jA base) (H0 := s.heap) (va_runV (As := []) (rest := []) ⟨hx, hb, hml, hown, hts⟩ (uX14_endAnswer l dC dI ca base B hB hAp hB16 hB101 G0 H_32 r0) (cwV 0 hts (jgV (jWr_55 _ (List.mem_of_getElem? (i := 6) rfl)) (jWr_55 _ (List.mem_of_getElem? (i := 7) rfl)) (jWr_55 _ (List.mem_of_getElem? (i := 8) rfl)) (jWr_1 _ (List.mem_of_getElem? (i := 5) rfl)) (jWr_55 _ (List.mem_of_getElem? (i := 9) rfl))) rfl rfl rfl (by decide +kernel) ⟨by rw [← hR]; exact Nat.le_of_ble_eq_true rfl, by rw [← hR]; exact Nat.le_of_ble_eq_true rfl⟩) ⟨fun a U g mk q => by obtain ⟨q0, q1, q2, qK, q10, q11, q12⟩ := q; exact ⟨q0, q1, q2, jG.calling g mk a qK, q10, q11, q12⟩, hh_32.recv (C := RX14) (T := TX14) (N := 74) hB16 rfl (by decide) hg_r0 hK, fun U hU hW => ⟨rfl, hU, hh_32.2.1, hG.step hW hU hh_32.1, hg_r0, jP.nil, trivial⟩⟩ rfl rfl hl.1 rfl (lv_room (Nat.le_of_ble_eq_true rfl)) dX14_error_115 ⟨Nat.zero_le _, Nat.zero_le _⟩) hh_32.1 (fun q _ h => h) (fun q h => h) (fun u_34 t_34 H_34 locs_34 ht_34 hvm_34 hr_35 hb_34 hz_34 hk_34 hS_34 => ?_)
            rw [ht_34] at hb_34
            obtain ⟨hb_341, hb_342, hb_343, hb_344, hb_345⟩ := hb_34
            have hh_34 : jSt (dC, dI) B base G0 G0 EX14_error s.heap 0 0 [] [] [] H_34 locs_34 := ((hh_32.call hb_341 hb_342 hb_343 hb_344 hS_34 rfl (L1 := []) [] rfl rfl (M1 := []) [] rfl rfl (I1 := []) [] rfl rfl).more hb_345)
            clear hh_32 ht_34 hvm_34 hz_34 hk_34 hS_34 hb_341 hb_342 hb_343 hb_344 hb_345
            rw [hQ]
            exact W.vret hx hb hr (fun t ht hW => ⟨⟨(), rfl, trivial, hh_34.rt (M1 := []) [] rfl ht⟩, by rw [ht]; try exact hh_34.1.1, fun q h9 hq => by rw [ht]; try exact hh_34.1.2.1 q h9 hq⟩) hh_34.1.2.2 dX14_error_118
        · skip
          have c_15' : a1.toInt = (-32602) := jb_ne_n (rfl) ((by decide)) c_15
          refine j_ldcSw hx hb hown rstr410 dX14_error_70 ?_
          refine lv_goto (tgt := 105) hx hb dX14_error_73 (by decide) ?_
          refine va_callv (A0 := jA base) (H0 := s.heap) (va_runV (As := [.ref str410]) (rest := []) ⟨hx, hb, hml, hown, hts⟩ (uX14_text l dC dI ca base B hB hAp hB16 hB101 G0 H_10 r0 str410 10 qf_10) (cwV 1 hts (jgV (jWr_55 _ (List.mem_of_getElem? (i := 2) rfl)) (jWr_55 _ (List.mem_of_getElem? (i := 3) rfl)) (jWr_55 _ (List.mem_of_getElem? (i := 4) rfl)) (jWr_1 _ (List.mem_of_getElem? (i := 5) rfl)) (jWr_55 _ (List.mem_of_getElem? (i := 5) rfl))) rfl rfl rfl (by decide +kernel) ⟨by rw [← hR]; exact Nat.le_of_ble_eq_true rfl, by rw [← hR]; exact Nat.le_of_ble_eq_true rfl⟩) ⟨fun a U g mk q => by obtain ⟨q0, q1, q2, qK, q10, q11, q12, q13⟩ := q; exact ⟨q0, q1, q2, jG.calling g mk a qK, (q10.moved (Vm.Alike.refl U.vm)), q11, q12, q13⟩, hh_10.recv (C := RX14) (T := TX14) (N := 74) hB16 rfl (by decide) hg_r0 hK, fun U hU hW => ⟨rfl, hU, hh_10.2.1, hG.step hW hU hh_10.1, (hstr410.moved hW.alike).kept hh_10.1.2.1, hg_r0, (hh_10.2.2.1.sub (L1 := [(r0, 16, 6, .int qf_10)]) [0] rfl), by first | omega | (refine ⟨?_, ?_, ?_⟩ <;> (first | omega | rfl | assumption | decide | exact Or.inl rfl | exact Or.inr rfl | (simp only; omega)))⟩⟩ rfl rfl hl.1 rfl (lv_room (Nat.le_of_ble_eq_true rfl)) dX14_error_105 ⟨Nat.zero_le _, Nat.zero_le _⟩) hh_10.1 (fun q _ h => h) (fun q h => h) (fun u_36 t_36 H_36 locs_36 ht_36 hvm_36 hr_37 hb_36 hz_36 hk_36 hS_36 => ?_)
          obtain ⟨qf_36, rfl⟩ : ∃ z, z = u_36 := ⟨_, rfl⟩
          rw [ht_36] at hb_36
          obtain ⟨hb_361, hb_362, hb_363, hb_364, hb_365⟩ := hb_36
          have hh_36 : jSt (dC, dI) B base G0 G0 EX14_error s.heap 0 0 [(r0, 16, 6, .int qf_36)] [] [] H_36 locs_36 := ((hh_10.call hb_361 hb_362 hb_363 hb_364 hS_36 rfl (L1 := []) [] rfl rfl (M1 := []) [] rfl rfl (I1 := []) [] rfl rfl).more hb_365)
          clear hh_10 ht_36 hvm_36 hz_36 hk_36 hS_36 hb_361 hb_362 hb_363 hb_364 hb_365
          obtain ⟨hr_37_0, hr_37_1⟩ := hr_37
          refine lv_aload_n hx hb dX14_error_108 rfl (lv_at hl 0 rfl) ?_
          refine lv_bipush (v := 125) hx hb dX14_error_109 (by decide) ?_
          refine va_callv (A0 := jA base) (H0 := s.heap) (va_runV (As := [.int 125]) (rest := []) ⟨hx, hb, hml, hown, hts⟩ (uX14_put l dC dI ca base B hB hAp hB16 hB101 G0 H_36 r0 125 qf_36) (cwV 1 hts (jgV (jWr_54 _ (List.mem_of_getElem? (i := 2) rfl)) (jWr_54 _ (List.mem_of_getElem? (i := 3) rfl)) (jWr_54 _ (List.mem_of_getElem? (i := 4) rfl)) (jWr_1 _ (List.mem_of_getElem? (i := 5) rfl)) (jWr_54 _ (List.mem_of_getElem? (i := 5) rfl))) rfl rfl rfl (by decide +kernel) ⟨by rw [← hR]; exact Nat.le_of_ble_eq_true rfl, by rw [← hR]; exact Nat.le_of_ble_eq_true rfl⟩) ⟨fun a U g mk q => by obtain ⟨q0, q1, q2, qK, q10, q11, q12⟩ := q; exact ⟨q0, q1, q2, jG.calling g mk a qK, q10, q11, q12⟩, hh_36.recv (C := RX14) (T := TX14) (N := 74) hB16 rfl (by decide) hg_r0 hK, fun U hU hW => ⟨rfl, hU, hh_36.2.1, hG.step hW hU hh_36.1, hg_r0, (hh_36.2.2.1.sub (L1 := [(r0, 16, 6, .int qf_36)]) [0] rfl), by first | omega | (refine ⟨?_, ?_⟩ <;> (first | omega | rfl | assumption | decide | exact Or.inl rfl | exact Or.inr rfl | (simp only; omega)))⟩⟩ rfl rfl hl.1 rfl (lv_room (Nat.le_of_ble_eq_true rfl)) dX14_error_111 ⟨Nat.zero_le _, Nat.zero_le _⟩) hh_36.1 (fun q _ h => h) (fun q h => h) (fun u_38 t_38 H_38 locs_38 ht_38 hvm_38 hr_39 hb_38 hz_38 hk_38 hS_38 => ?_)
          obtain ⟨qf_38, rfl⟩ : ∃ z, z = u_38 := ⟨_, rfl⟩
          rw [ht_38] at hb_38
          obtain ⟨hb_381, hb_382, hb_383, hb_384, hb_385⟩ := hb_38
          have hh_38 : jSt (dC, dI) B base G0 G0 EX14_error s.heap 0 0 [(r0, 16, 6, .int qf_38)] [] [] H_38 locs_38 := ((hh_36.call hb_381 hb_382 hb_383 hb_384 hS_38 rfl (L1 := []) [] rfl rfl (M1 := []) [] rfl rfl (I1 := []) [] rfl rfl).more hb_385)
          clear hh_36 ht_38 hvm_38 hz_38 hk_38 hS_38 hb_381 hb_382 hb_383 hb_384 hb_385
          obtain ⟨hr_39_0, hr_39_1⟩ := hr_39
          refine lv_aload_n hx hb dX14_error_114 rfl (lv_at hl 0 rfl) ?_
          refine va_callv (A0 := jA base) (H0 := s.heap) (va_runV (As := []) (rest := []) ⟨hx, hb, hml, hown, hts⟩ (uX14_endAnswer l dC dI ca base B hB hAp hB16 hB101 G0 H_38 r0) (cwV 0 hts (jgV (jWr_55 _ (List.mem_of_getElem? (i := 6) rfl)) (jWr_55 _ (List.mem_of_getElem? (i := 7) rfl)) (jWr_55 _ (List.mem_of_getElem? (i := 8) rfl)) (jWr_1 _ (List.mem_of_getElem? (i := 5) rfl)) (jWr_55 _ (List.mem_of_getElem? (i := 9) rfl))) rfl rfl rfl (by decide +kernel) ⟨by rw [← hR]; exact Nat.le_of_ble_eq_true rfl, by rw [← hR]; exact Nat.le_of_ble_eq_true rfl⟩) ⟨fun a U g mk q => by obtain ⟨q0, q1, q2, qK, q10, q11, q12⟩ := q; exact ⟨q0, q1, q2, jG.calling g mk a qK, q10, q11, q12⟩, hh_38.recv (C := RX14) (T := TX14) (N := 74) hB16 rfl (by decide) hg_r0 hK, fun U hU hW => ⟨rfl, hU, hh_38.2.1, hG.step hW hU hh_38.1, hg_r0, jP.nil, trivial⟩⟩ rfl rfl hl.1 rfl (lv_room (Nat.le_of_ble_eq_true rfl)) dX14_error_115 ⟨Nat.zero_le _, Nat.zero_le _⟩) hh_38.1 (fun q _ h => h) (fun q h => h) (fun u_40 t_40 H_40 locs_40 ht_40 hvm_40 hr_41 hb_40 hz_40 hk_40 hS_40 => ?_)
          rw [ht_40] at hb_40
          obtain ⟨hb_401, hb_402, hb_403, hb_404, hb_405⟩ := hb_40
          have hh_40 : jSt (dC, dI) B base G0 G0 EX14_error s.heap 0 0 [] [] [] H_40 locs_40 := ((hh_38.call hb_401 hb_402 hb_403 hb_404 hS_40 rfl (L1 := []) [] rfl rfl (M1 := []) [] rfl rfl (I1 := []) [] rfl rfl).more hb_405)
          clear hh_38 ht_40 hvm_40 hz_40 hk_40 hS_40 hb_401 hb_402 hb_403 hb_404 hb_405
          rw [hQ]
          exact W.vret hx hb hr (fun t ht hW => ⟨⟨(), rfl, trivial, hh_40.rt (M1 := []) [] rfl ht⟩, by rw [ht]; try exact hh_40.1.1, fun q h9 hq => by rw [ht]; try exact hh_40.1.2.1 q h9 hq⟩) hh_40.1.2.2 dX14_error_118
      · skip
        have c_14' : a1.toInt = (-32601) := jb_ne_n (rfl) ((by decide)) c_14
        refine j_ldcSw hx hb hown rstr408 dX14_error_57 ?_
        refine lv_goto (tgt := 105) hx hb dX14_error_60 (by decide) ?_
        refine va_callv (A0 := jA base) (H0 := s.heap) (va_runV (As := [.ref str408]) (rest := []) ⟨hx, hb, hml, hown, hts⟩ (uX14_text l dC dI ca base B hB hAp hB16 hB101 G0 H_10 r0 str408 9 qf_10) (cwV 1 hts (jgV (jWr_55 _ (List.mem_of_getElem? (i := 2) rfl)) (jWr_55 _ (List.mem_of_getElem? (i := 3) rfl)) (jWr_55 _ (List.mem_of_getElem? (i := 4) rfl)) (jWr_1 _ (List.mem_of_getElem? (i := 5) rfl)) (jWr_55 _ (List.mem_of_getElem? (i := 5) rfl))) rfl rfl rfl (by decide +kernel) ⟨by rw [← hR]; exact Nat.le_of_ble_eq_true rfl, by rw [← hR]; exact Nat.le_of_ble_eq_true rfl⟩) ⟨fun a U g mk q => by obtain ⟨q0, q1, q2, qK, q10, q11, q12, q13⟩ := q; exact ⟨q0, q1, q2, jG.calling g mk a qK, (q10.moved (Vm.Alike.refl U.vm)), q11, q12, q13⟩, hh_10.recv (C := RX14) (T := TX14) (N := 74) hB16 rfl (by decide) hg_r0 hK, fun U hU hW => ⟨rfl, hU, hh_10.2.1, hG.step hW hU hh_10.1, (hstr408.moved hW.alike).kept hh_10.1.2.1, hg_r0, (hh_10.2.2.1.sub (L1 := [(r0, 16, 6, .int qf_10)]) [0] rfl), by first | omega | (refine ⟨?_, ?_, ?_⟩ <;> (first | omega | rfl | assumption | decide | exact Or.inl rfl | exact Or.inr rfl | (simp only; omega)))⟩⟩ rfl rfl hl.1 rfl (lv_room (Nat.le_of_ble_eq_true rfl)) dX14_error_105 ⟨Nat.zero_le _, Nat.zero_le _⟩) hh_10.1 (fun q _ h => h) (fun q h => h) (fun u_42 t_42 H_42 locs_42 ht_42 hvm_42 hr_43 hb_42 hz_42 hk_42 hS_42 => ?_)
        obtain ⟨qf_42, rfl⟩ : ∃ z, z = u_42 := ⟨_, rfl⟩
        rw [ht_42] at hb_42
        obtain ⟨hb_421, hb_422, hb_423, hb_424, hb_425⟩ := hb_42
        have hh_42 : jSt (dC, dI) B base G0 G0 EX14_error s.heap 0 0 [(r0, 16, 6, .int qf_42)] [] [] H_42 locs_42 := ((hh_10.call hb_421 hb_422 hb_423 hb_424 hS_42 rfl (L1 := []) [] rfl rfl (M1 := []) [] rfl rfl (I1 := []) [] rfl rfl).more hb_425)
        clear hh_10 ht_42 hvm_42 hz_42 hk_42 hS_42 hb_421 hb_422 hb_423 hb_424 hb_425
        obtain ⟨hr_43_0, hr_43_1⟩ := hr_43
        refine lv_aload_n hx hb dX14_error_108 rfl (lv_at hl 0 rfl) ?_
        refine lv_bipush (v := 125) hx hb dX14_error_109 (by decide) ?_
        refine va_callv (A0 := jA base) (H0 := s.heap) (va_runV (As := [.int 125]) (rest := []) ⟨hx, hb, hml, hown, hts⟩ (uX14_put l dC dI ca base B hB hAp hB16 hB101 G0 H_42 r0 125 qf_42) (cwV 1 hts (jgV (jWr_54 _ (List.mem_of_getElem? (i := 2) rfl)) (jWr_54 _ (List.mem_of_getElem? (i := 3) rfl)) (jWr_54 _ (List.mem_of_getElem? (i := 4) rfl)) (jWr_1 _ (List.mem_of_getElem? (i := 5) rfl)) (jWr_54 _ (List.mem_of_getElem? (i := 5) rfl))) rfl rfl rfl (by decide +kernel) ⟨by rw [← hR]; exact Nat.le_of_ble_eq_true rfl, by rw [← hR]; exact Nat.le_of_ble_eq_true rfl⟩) ⟨fun a U g mk q => by obtain ⟨q0, q1, q2, qK, q10, q11, q12⟩ := q; exact ⟨q0, q1, q2, jG.calling g mk a qK, q10, q11, q12⟩, hh_42.recv (C := RX14) (T := TX14) (N := 74) hB16 rfl (by decide) hg_r0 hK, fun U hU hW => ⟨rfl, hU, hh_42.2.1, hG.step hW hU hh_42.1, hg_r0, (hh_42.2.2.1.sub (L1 := [(r0, 16, 6, .int qf_42)]) [0] rfl), by first | omega | (refine ⟨?_, ?_⟩ <;> (first | omega | rfl | assumption | decide | exact Or.inl rfl | exact Or.inr rfl | (simp only; omega)))⟩⟩ rfl rfl hl.1 rfl (lv_room (Nat.le_of_ble_eq_true rfl)) dX14_error_111 ⟨Nat.zero_le _, Nat.zero_le _⟩) hh_42.1 (fun q _ h => h) (fun q h => h) (fun u_44 t_44 H_44 locs_44 ht_44 hvm_44 hr_45 hb_44 hz_44 hk_44 hS_44 => ?_)
        obtain ⟨qf_44, rfl⟩ : ∃ z, z = u_44 := ⟨_, rfl⟩
        rw [ht_44] at hb_44
        obtain ⟨hb_441, hb_442, hb_443, hb_444, hb_445⟩ := hb_44
        have hh_44 : jSt (dC, dI) B base G0 G0 EX14_error s.heap 0 0 [(r0, 16, 6, .int qf_44)] [] [] H_44 locs_44 := ((hh_42.call hb_441 hb_442 hb_443 hb_444 hS_44 rfl (L1 := []) [] rfl rfl (M1 := []) [] rfl rfl (I1 := []) [] rfl rfl).more hb_445)
        clear hh_42 ht_44 hvm_44 hz_44 hk_44 hS_44 hb_441 hb_442 hb_443 hb_444 hb_445
        obtain ⟨hr_45_0, hr_45_1⟩ := hr_45
        refine lv_aload_n hx hb dX14_error_114 rfl (lv_at hl 0 rfl) ?_
        refine va_callv (A0 := jA base) (H0 := s.heap) (va_runV (As := []) (rest := []) ⟨hx, hb, hml, hown, hts⟩ (uX14_endAnswer l dC dI ca base B hB hAp hB16 hB101 G0 H_44 r0) (cwV 0 hts (jgV (jWr_55 _ (List.mem_of_getElem? (i := 6) rfl)) (jWr_55 _ (List.mem_of_getElem? (i := 7) rfl)) (jWr_55 _ (List.mem_of_getElem? (i := 8) rfl)) (jWr_1 _ (List.mem_of_getElem? (i := 5) rfl)) (jWr_55 _ (List.mem_of_getElem? (i := 9) rfl))) rfl rfl rfl (by decide +kernel) ⟨by rw [← hR]; exact Nat.le_of_ble_eq_true rfl, by rw [← hR]; exact Nat.le_of_ble_eq_true rfl⟩) ⟨fun a U g mk q => by obtain ⟨q0, q1, q2, qK, q10, q11, q12⟩ := q; exact ⟨q0, q1, q2, jG.calling g mk a qK, q10, q11, q12⟩, hh_44.recv (C := RX14) (T := TX14) (N := 74) hB16 rfl (by decide) hg_r0 hK, fun U hU hW => ⟨rfl, hU, hh_44.2.1, hG.step hW hU hh_44.1, hg_r0, jP.nil, trivial⟩⟩ rfl rfl hl.1 rfl (lv_room (Nat.le_of_ble_eq_true rfl)) dX14_error_115 ⟨Nat.zero_le _, Nat.zero_le _⟩) hh_44.1 (fun q _ h => h) (fun q h => h) (fun u_46 t_46 H_46 locs_46 ht_46 hvm_46 hr_47 hb_46 hz_46 hk_46 hS_46 => ?_)
        rw [ht_46] at hb_46
        obtain ⟨hb_461, hb_462, hb_463, hb_464, hb_465⟩ := hb_46
        have hh_46 : jSt (dC, dI) B base G0 G0 EX14_error s.heap 0 0 [] [] [] H_46 locs_46 := ((hh_44.call hb_461 hb_462 hb_463 hb_464 hS_46 rfl (L1 := []) [] rfl rfl (M1 := []) [] rfl rfl (I1 := []) [] rfl rfl).more hb_465)
        clear hh_44 ht_46 hvm_46 hz_46 hk_46 hS_46 hb_461 hb_462 hb_463 hb_464 hb_465
        rw [hQ]
        exact W.vret hx hb hr (fun t ht hW => ⟨⟨(), rfl, trivial, hh_46.rt (M1 := []) [] rfl ht⟩, by rw [ht]; try exact hh_46.1.1, fun q h9 hq => by rw [ht]; try exact hh_46.1.2.1 q h9 hq⟩) hh_46.1.2.2 dX14_error_118
    · skip
      have c_13' : a1.toInt = (-32600) := jb_ne_n (rfl) ((by decide)) c_13
      refine j_ldcSw hx hb hown rstr406 dX14_error_44 ?_
      refine lv_goto (tgt := 105) hx hb dX14_error_47 (by decide) ?_
      refine va_callv (A0 := jA base) (H0 := s.heap) (va_runV (As := [.ref str406]) (rest := []) ⟨hx, hb, hml, hown, hts⟩ (uX14_text l dC dI ca base B hB hAp hB16 hB101 G0 H_10 r0 str406 10 qf_10) (cwV 1 hts (jgV (jWr_55 _ (List.mem_of_getElem? (i := 2) rfl)) (jWr_55 _ (List.mem_of_getElem? (i := 3) rfl)) (jWr_55 _ (List.mem_of_getElem? (i := 4) rfl)) (jWr_1 _ (List.mem_of_getElem? (i := 5) rfl)) (jWr_55 _ (List.mem_of_getElem? (i := 5) rfl))) rfl rfl rfl (by decide +kernel) ⟨by rw [← hR]; exact Nat.le_of_ble_eq_true rfl, by rw [← hR]; exact Nat.le_of_ble_eq_true rfl⟩) ⟨fun a U g mk q => by obtain ⟨q0, q1, q2, qK, q10, q11, q12, q13⟩ := q; exact ⟨q0, q1, q2, jG.calling g mk a qK, (q10.moved (Vm.Alike.refl U.vm)), q11, q12, q13⟩, hh_10.recv (C := RX14) (T := TX14) (N := 74) hB16 rfl (by decide) hg_r0 hK, fun U hU hW => ⟨rfl, hU, hh_10.2.1, hG.step hW hU hh_10.1, (hstr406.moved hW.alike).kept hh_10.1.2.1, hg_r0, (hh_10.2.2.1.sub (L1 := [(r0, 16, 6, .int qf_10)]) [0] rfl), by first | omega | (refine ⟨?_, ?_, ?_⟩ <;> (first | omega | rfl | assumption | decide | exact Or.inl rfl | exact Or.inr rfl | (simp only; omega)))⟩⟩ rfl rfl hl.1 rfl (lv_room (Nat.le_of_ble_eq_true rfl)) dX14_error_105 ⟨Nat.zero_le _, Nat.zero_le _⟩) hh_10.1 (fun q _ h => h) (fun q h => h) (fun u_48 t_48 H_48 locs_48 ht_48 hvm_48 hr_49 hb_48 hz_48 hk_48 hS_48 => ?_)
      obtain ⟨qf_48, rfl⟩ : ∃ z, z = u_48 := ⟨_, rfl⟩
      rw [ht_48] at hb_48
      obtain ⟨hb_481, hb_482, hb_483, hb_484, hb_485⟩ := hb_48
      have hh_48 : jSt (dC, dI) B base G0 G0 EX14_error s.heap 0 0 [(r0, 16, 6, .int qf_48)] [] [] H_48 locs_48 := ((hh_10.call hb_481 hb_482 hb_483 hb_484 hS_48 rfl (L1 := []) [] rfl rfl (M1 := []) [] rfl rfl (I1 := []) [] rfl rfl).more hb_485)
      clear hh_10 ht_48 hvm_48 hz_48 hk_48 hS_48 hb_481 hb_482 hb_483 hb_484 hb_485
      obtain ⟨hr_49_0, hr_49_1⟩ := hr_49
      refine lv_aload_n hx hb dX14_error_108 rfl (lv_at hl 0 rfl) ?_
      refine lv_bipush (v := 125) hx hb dX14_error_109 (by decide) ?_
      refine va_callv (A0 := jA base) (H0 := s.heap) (va_runV (As := [.int 125]) (rest := []) ⟨hx, hb, hml, hown, hts⟩ (uX14_put l dC dI ca base B hB hAp hB16 hB101 G0 H_48 r0 125 qf_48) (cwV 1 hts (jgV (jWr_54 _ (List.mem_of_getElem? (i := 2) rfl)) (jWr_54 _ (List.mem_of_getElem? (i := 3) rfl)) (jWr_54 _ (List.mem_of_getElem? (i := 4) rfl)) (jWr_1 _ (List.mem_of_getElem? (i := 5) rfl)) (jWr_54 _ (List.mem_of_getElem? (i := 5) rfl))) rfl rfl rfl (by decide +kernel) ⟨by rw [← hR]; exact Nat.le_of_ble_eq_true rfl, by rw [← hR]; exact Nat.le_of_ble_eq_true rfl⟩) ⟨fun a U g mk q => by obtain ⟨q0, q1, q2, qK, q10, q11, q12⟩ := q; exact ⟨q0, q1, q2, jG.calling g mk a qK, q10, q11, q12⟩, hh_48.recv (C := RX14) (T := TX14) (N := 74) hB16 rfl (by decide) hg_r0 hK, fun U hU hW => ⟨rfl, hU, hh_48.2.1, hG.step hW hU hh_48.1, hg_r0, (hh_48.2.2.1.sub (L1 := [(r0, 16, 6, .int qf_48)]) [0] rfl), by first | omega | (refine ⟨?_, ?_⟩ <;> (first | omega | rfl | assumption | decide | exact Or.inl rfl | exact Or.inr rfl | (simp only; omega)))⟩⟩ rfl rfl hl.1 rfl (lv_room (Nat.le_of_ble_eq_true rfl)) dX14_error_111 ⟨Nat.zero_le _, Nat.zero_le _⟩) hh_48.1 (fun q _ h => h) (fun q h => h) (fun u_50 t_50 H_50 locs_50 ht_50 hvm_50 hr_51 hb_50 hz_50 hk_50 hS_50 => ?_)
      obtain ⟨qf_50, rfl⟩ : ∃ z, z = u_50 := ⟨_, rfl⟩
      rw [ht_50] at hb_50
      obtain ⟨hb_501, hb_502, hb_503, hb_504, hb_505⟩ := hb_50
      have hh_50 : jSt (dC, dI) B base G0 G0 EX14_error s.heap 0 0 [(r0, 16, 6, .int qf_50)] [] [] H_50 locs_50 := ((hh_48.call hb_501 hb_502 hb_503 hb_504 hS_50 rfl (L1 := []) [] rfl rfl (M1 := []) [] rfl rfl (I1 := []) [] rfl rfl).more hb_505)
      clear hh_48 ht_50 hvm_50 hz_50 hk_50 hS_50 hb_501 hb_502 hb_503 hb_504 hb_505
      obtain ⟨hr_51_0, hr_51_1⟩ := hr_51
      refine lv_aload_n hx hb dX14_error_114 rfl (lv_at hl 0 rfl) ?_
      refine va_callv (A0 := jA base) (H0 := s.heap) (va_runV (As := []) (rest := []) ⟨hx, hb, hml, hown, hts⟩ (uX14_endAnswer l dC dI ca base B hB hAp hB16 hB101 G0 H_50 r0) (cwV 0 hts (jgV (jWr_55 _ (List.mem_of_getElem? (i := 6) rfl)) (jWr_55 _ (List.mem_of_getElem? (i := 7) rfl)) (jWr_55 _ (List.mem_of_getElem? (i := 8) rfl)) (jWr_1 _ (List.mem_of_getElem? (i := 5) rfl)) (jWr_55 _ (List.mem_of_getElem? (i := 9) rfl))) rfl rfl rfl (by decide +kernel) ⟨by rw [← hR]; exact Nat.le_of_ble_eq_true rfl, by rw [← hR]; exact Nat.le_of_ble_eq_true rfl⟩) ⟨fun a U g mk q => by obtain ⟨q0, q1, q2, qK, q10, q11, q12⟩ := q; exact ⟨q0, q1, q2, jG.calling g mk a qK, q10, q11, q12⟩, hh_50.recv (C := RX14) (T := TX14) (N := 74) hB16 rfl (by decide) hg_r0 hK, fun U hU hW => ⟨rfl, hU, hh_50.2.1, hG.step hW hU hh_50.1, hg_r0, jP.nil, trivial⟩⟩ rfl rfl hl.1 rfl (lv_room (Nat.le_of_ble_eq_true rfl)) dX14_error_115 ⟨Nat.zero_le _, Nat.zero_le _⟩) hh_50.1 (fun q _ h => h) (fun q h => h) (fun u_52 t_52 H_52 locs_52 ht_52 hvm_52 hr_53 hb_52 hz_52 hk_52 hS_52 => ?_)
      rw [ht_52] at hb_52
      obtain ⟨hb_521, hb_522, hb_523, hb_524, hb_525⟩ := hb_52
      have hh_52 : jSt (dC, dI) B base G0 G0 EX14_error s.heap 0 0 [] [] [] H_52 locs_52 := ((hh_50.call hb_521 hb_522 hb_523 hb_524 hS_52 rfl (L1 := []) [] rfl rfl (M1 := []) [] rfl rfl (I1 := []) [] rfl rfl).more hb_525)
      clear hh_50 ht_52 hvm_52 hz_52 hk_52 hS_52 hb_521 hb_522 hb_523 hb_524 hb_525
      rw [hQ]
      exact W.vret hx hb hr (fun t ht hW => ⟨⟨(), rfl, trivial, hh_52.rt (M1 := []) [] rfl ht⟩, by rw [ht]; try exact hh_52.1.1, fun q h9 hq => by rw [ht]; try exact hh_52.1.2.1 q h9 hq⟩) hh_52.1.2.2 dX14_error_118
  · skip
    have c_12' : a1.toInt = (-32700) := jb_ne_n (rfl) ((by decide)) c_12
    refine j_ldcSw hx hb hown rstr404 dX14_error_31 ?_
    refine lv_goto (tgt := 105) hx hb dX14_error_34 (by decide) ?_
    refine va_callv (A0 := jA base) (H0 := s.heap) (va_runV (As := [.ref str404]) (rest := []) ⟨hx, hb, hml, hown, hts⟩ (uX14_text l dC dI ca base B hB hAp hB16 hB101 G0 H_10 r0 str404 8 qf_10) (cwV 1 hts (jgV (jWr_55 _ (List.mem_of_getElem? (i := 2) rfl)) (jWr_55 _ (List.mem_of_getElem? (i := 3) rfl)) (jWr_55 _ (List.mem_of_getElem? (i := 4) rfl)) (jWr_1 _ (List.mem_of_getElem? (i := 5) rfl)) (jWr_55 _ (List.mem_of_getElem? (i := 5) rfl))) rfl rfl rfl (by decide +kernel) ⟨by rw [← hR]; exact Nat.le_of_ble_eq_true rfl, by rw [← hR]; exact Nat.le_of_ble_eq_true rfl⟩) ⟨fun a U g mk q => by obtain ⟨q0, q1, q2, qK, q10, q11, q12, q13⟩ := q; exact ⟨q0, q1, q2, jG.calling g mk a qK, (q10.moved (Vm.Alike.refl U.vm)), q11, q12, q13⟩, hh_10.recv (C := RX14) (T := TX14) (N := 74) hB16 rfl (by decide) hg_r0 hK, fun U hU hW => ⟨rfl, hU, hh_10.2.1, hG.step hW hU hh_10.1, (hstr404.moved hW.alike).kept hh_10.1.2.1, hg_r0, (hh_10.2.2.1.sub (L1 := [(r0, 16, 6, .int qf_10)]) [0] rfl), by first | omega | (refine ⟨?_, ?_, ?_⟩ <;> (first | omega | rfl | assumption | decide | exact Or.inl rfl | exact Or.inr rfl | (simp only; omega)))⟩⟩ rfl rfl hl.1 rfl (lv_room (Nat.le_of_ble_eq_true rfl)) dX14_error_105 ⟨Nat.zero_le _, Nat.zero_le _⟩) hh_10.1 (fun q _ h => h) (fun q h => h) (fun u_54 t_54 H_54 locs_54 ht_54 hvm_54 hr_55 hb_54 hz_54 hk_54 hS_54 => ?_)
    obtain ⟨qf_54, rfl⟩ : ∃ z, z = u_54 := ⟨_, rfl⟩
    rw [ht_54] at hb_54
    obtain ⟨hb_541, hb_542, hb_543, hb_544, hb_545⟩ := hb_54
    have hh_54 : jSt (dC, dI) B base G0 G0 EX14_error s.heap 0 0 [(r0, 16, 6, .int qf_54)] [] [] H_54 locs_54 := ((hh_10.call hb_541 hb_542 hb_543 hb_544 hS_54 rfl (L1 := []) [] rfl rfl (M1 := []) [] rfl rfl (I1 := []) [] rfl rfl).more hb_545)
    clear hh_10 ht_54 hvm_54 hz_54 hk_54 hS_54 hb_541 hb_542 hb_543 hb_544 hb_545
    obtain ⟨hr_55_0, hr_55_1⟩ := hr_55
    refine lv_aload_n hx hb dX14_error_108 rfl (lv_at hl 0 rfl) ?_
    refine lv_bipush (v := 125) hx hb dX14_error_109 (by decide) ?_
    refine va_callv (A0 := jA base) (H0 := s.heap) (va_runV (As := [.int 125]) (rest := []) ⟨hx, hb, hml, hown, hts⟩ (uX14_put l dC dI ca base B hB hAp hB16 hB101 G0 H_54 r0 125 qf_54) (cwV 1 hts (jgV (jWr_54 _ (List.mem_of_getElem? (i := 2) rfl)) (jWr_54 _ (List.mem_of_getElem? (i := 3) rfl)) (jWr_54 _ (List.mem_of_getElem? (i := 4) rfl)) (jWr_1 _ (List.mem_of_getElem? (i := 5) rfl)) (jWr_54 _ (List.mem_of_getElem? (i := 5) rfl))) rfl rfl rfl (by decide +kernel) ⟨by rw [← hR]; exact Nat.le_of_ble_eq_true rfl, by rw [← hR]; exact Nat.le_of_ble_eq_true rfl⟩) ⟨fun a U g mk q => by obtain ⟨q0, q1, q2, qK, q10, q11, q12⟩ := q; exact ⟨q0, q1, q2, jG.calling g mk a qK, q10, q11, q12⟩, hh_54.recv (C := RX14) (T := TX14) (N := 74) hB16 rfl (by decide) hg_r0 hK, fun U hU hW => ⟨rfl, hU, hh_54.2.1, hG.step hW hU hh_54.1, hg_r0, (hh_54.2.2.1.sub (L1 := [(r0, 16, 6, .int qf_54)]) [0] rfl), by first | omega | (refine ⟨?_, ?_⟩ <;> (first | omega | rfl | assumption | decide | exact Or.inl rfl | exact Or.inr rfl | (simp only; omega)))⟩⟩ rfl rfl hl.1 rfl (lv_room (Nat.le_of_ble_eq_true rfl)) dX14_error_111 ⟨Nat.zero_le _, Nat.zero_le _⟩) hh_54.1 (fun q _ h => h) (fun q h => h) (fun u_56 t_56 H_56 locs_56 ht_56 hvm_56 hr_57 hb_56 hz_56 hk_56 hS_56 => ?_)
    obtain ⟨qf_56, rfl⟩ : ∃ z, z = u_56 := ⟨_, rfl⟩
    rw [ht_56] at hb_56
    obtain ⟨hb_561, hb_562, hb_563, hb_564, hb_565⟩ := hb_56
    have hh_56 : jSt (dC, dI) B base G0 G0 EX14_error s.heap 0 0 [(r0, 16, 6, .int qf_56)] [] [] H_56 locs_56 := ((hh_54.call hb_561 hb_562 hb_563 hb_564 hS_56 rfl (L1 := []) [] rfl rfl (M1 := []) [] rfl rfl (I1 := []) [] rfl rfl).more hb_565)
    clear hh_54 ht_56 hvm_56 hz_56 hk_56 hS_56 hb_561 hb_562 hb_563 hb_564 hb_565
    obtain ⟨hr_57_0, hr_57_1⟩ := hr_57
    refine lv_aload_n hx hb dX14_error_114 rfl (lv_at hl 0 rfl) ?_
    refine va_callv (A0 := jA base) (H0 := s.heap) (va_runV (As := []) (rest := []) ⟨hx, hb, hml, hown, hts⟩ (uX14_endAnswer l dC dI ca base B hB hAp hB16 hB101 G0 H_56 r0) (cwV 0 hts (jgV (jWr_55 _ (List.mem_of_getElem? (i := 6) rfl)) (jWr_55 _ (List.mem_of_getElem? (i := 7) rfl)) (jWr_55 _ (List.mem_of_getElem? (i := 8) rfl)) (jWr_1 _ (List.mem_of_getElem? (i := 5) rfl)) (jWr_55 _ (List.mem_of_getElem? (i := 9) rfl))) rfl rfl rfl (by decide +kernel) ⟨by rw [← hR]; exact Nat.le_of_ble_eq_true rfl, by rw [← hR]; exact Nat.le_of_ble_eq_true rfl⟩) ⟨fun a U g mk q => by obtain ⟨q0, q1, q2, qK, q10, q11, q12⟩ := q; exact ⟨q0, q1, q2, jG.calling g mk a qK, q10, q11, q12⟩, hh_56.recv (C := RX14) (T := TX14) (N := 74) hB16 rfl (by decide) hg_r0 hK, fun U hU hW => ⟨rfl, hU, hh_56.2.1, hG.step hW hU hh_56.1, hg_r0, jP.nil, trivial⟩⟩ rfl rfl hl.1 rfl (lv_room (Nat.le_of_ble_eq_true rfl)) dX14_error_115 ⟨Nat.zero_le _, Nat.zero_le _⟩) hh_56.1 (fun q _ h => h) (fun q h => h) (fun u_58 t_58 H_58 locs_58 ht_58 hvm_58 hr_59 hb_58 hz_58 hk_58 hS_58 => ?_)
    rw [ht_58] at hb_58
    obtain ⟨hb_581, hb_582, hb_583, hb_584, hb_585⟩ := hb_58
    have hh_58 : jSt (dC, dI) B base G0 G0 EX14_error s.heap 0 0 [] [] [] H_58 locs_58 := ((hh_56.call hb_581 hb_582 hb_583 hb_584 hS_58 rfl (L1 := []) [] rfl rfl (M1 := []) [] rfl rfl (I1 := []) [] rfl rfl).more hb_585)
    clear hh_56 ht_58 hvm_58 hz_58 hk_58 hS_58 hb_581 hb_582 hb_583 hb_584 hb_585
    rw [hQ]
    exact W.vret hx hb hr (fun t ht hW => ⟨⟨(), rfl, trivial, hh_58.rt (M1 := []) [] rfl ht⟩, by rw [ht]; try exact hh_58.1.1, fun q h9 hq => by rw [ht]; try exact hh_58.1.2.1 q h9 hq⟩) hh_58.1.2.2 dX14_error_118
end
section
theorem dX14_placeOf_0 : decode cX14_placeOf 0 = .ok (.aload_n 0, 1) := by decide +kernel
theorem dX14_placeOf_1 : decode cX14_placeOf 1 = .ok (.iload_n 1, 1) := by decide +kernel
theorem dX14_placeOf_2 : decode cX14_placeOf 2 = .ok (.iload_n 2, 1) := by decide +kernel
theorem dX14_placeOf_3 : decode cX14_placeOf 3 = .ok (.invokestatic 541, 3) := by decide +kernel
theorem dX14_placeOf_6 : decode cX14_placeOf 6 = .ok (.istore 4, 2) := by decide +kernel
theorem dX14_placeOf_8 : decode cX14_placeOf 8 = .ok (.iload 4, 2) := by decide +kernel
theorem dX14_placeOf_10 : decode cX14_placeOf 10 = .ok (.ifCond .ge 5, 3) := by decide +kernel
theorem dX14_placeOf_13 : decode cX14_placeOf 13 = .ok (.iconst (-1), 1) := by decide +kernel
theorem dX14_placeOf_14 : decode cX14_placeOf 14 = .ok (.ireturn, 1) := by decide +kernel
theorem dX14_placeOf_15 : decode cX14_placeOf 15 = .ok (.iload 4, 2) := by decide +kernel
theorem dX14_placeOf_17 : decode cX14_placeOf 17 = .ok (.istore 5, 2) := by decide +kernel
theorem dX14_placeOf_19 : decode cX14_placeOf 19 = .ok (.iload 5, 2) := by decide +kernel
theorem dX14_placeOf_21 : decode cX14_placeOf 21 = .ok (.iload_n 1, 1) := by decide +kernel
theorem dX14_placeOf_22 : decode cX14_placeOf 22 = .ok (.if_icmp .ge 36, 3) := by decide +kernel
theorem dX14_placeOf_25 : decode cX14_placeOf 25 = .ok (.iload 5, 2) := by decide +kernel
theorem dX14_placeOf_27 : decode cX14_placeOf 27 = .ok (.iload 4, 2) := by decide +kernel
theorem dX14_placeOf_29 : decode cX14_placeOf 29 = .ok (.isub, 1) := by decide +kernel
theorem dX14_placeOf_30 : decode cX14_placeOf 30 = .ok (.iload_n 3, 1) := by decide +kernel
theorem dX14_placeOf_31 : decode cX14_placeOf 31 = .ok (.if_icmp .ge 27, 3) := by decide +kernel
theorem dX14_placeOf_34 : decode cX14_placeOf 34 = .ok (.aload_n 0, 1) := by decide +kernel
theorem dX14_placeOf_35 : decode cX14_placeOf 35 = .ok (.iload 5, 2) := by decide +kernel
theorem dX14_placeOf_37 : decode cX14_placeOf 37 = .ok (.iaload, 1) := by decide +kernel
theorem dX14_placeOf_38 : decode cX14_placeOf 38 = .ok (.bipush 10, 2) := by decide +kernel
theorem dX14_placeOf_40 : decode cX14_placeOf 40 = .ok (.if_icmp .eq 18, 3) := by decide +kernel
theorem dX14_placeOf_43 : decode cX14_placeOf 43 = .ok (.aload_n 0, 1) := by decide +kernel
theorem dX14_placeOf_44 : decode cX14_placeOf 44 = .ok (.iload 5, 2) := by decide +kernel
theorem dX14_placeOf_46 : decode cX14_placeOf 46 = .ok (.iaload, 1) := by decide +kernel
theorem dX14_placeOf_47 : decode cX14_placeOf 47 = .ok (.bipush 13, 2) := by decide +kernel
theorem dX14_placeOf_49 : decode cX14_placeOf 49 = .ok (.if_icmp .eq 9, 3) := by decide +kernel
theorem dX14_placeOf_52 : decode cX14_placeOf 52 = .ok (.iinc 5 1, 3) := by decide +kernel
theorem dX14_placeOf_55 : decode cX14_placeOf 55 = .ok (.goto (-36), 3) := by decide +kernel
theorem dX14_placeOf_58 : decode cX14_placeOf 58 = .ok (.iload 5, 2) := by decide +kernel
theorem dX14_placeOf_60 : decode cX14_placeOf 60 = .ok (.ireturn, 1) := by decide +kernel
theorem dX14_behindGaps_0 : decode cX14_behindGaps 0 = .ok (.iload_n 1, 1) := by decide +kernel
theorem dX14_behindGaps_1 : decode cX14_behindGaps 1 = .ok (.istore_n 3, 1) := by decide +kernel
theorem dX14_behindGaps_2 : decode cX14_behindGaps 2 = .ok (.iload_n 3, 1) := by decide +kernel
theorem dX14_behindGaps_3 : decode cX14_behindGaps 3 = .ok (.iload_n 2, 1) := by decide +kernel
theorem dX14_behindGaps_4 : decode cX14_behindGaps 4 = .ok (.if_icmp .ge 48, 3) := by decide +kernel
theorem dX14_behindGaps_7 : decode cX14_behindGaps 7 = .ok (.aload_n 0, 1) := by decide +kernel
theorem dX14_behindGaps_8 : decode cX14_behindGaps 8 = .ok (.iload_n 3, 1) := by decide +kernel
theorem dX14_behindGaps_9 : decode cX14_behindGaps 9 = .ok (.iaload, 1) := by decide +kernel
theorem dX14_behindGaps_10 : decode cX14_behindGaps 10 = .ok (.invokestatic 615, 3) := by decide +kernel
theorem dX14_behindGaps_13 : decode cX14_behindGaps 13 = .ok (.ifCond .eq 9, 3) := by decide +kernel
theorem dX14_behindGaps_16 : decode cX14_behindGaps 16 = .ok (.iinc 3 1, 3) := by decide +kernel
theorem dX14_behindGaps_19 : decode cX14_behindGaps 19 = .ok (.goto (-17), 3) := by decide +kernel
theorem dX14_behindGaps_22 : decode cX14_behindGaps 22 = .ok (.aload_n 0, 1) := by decide +kernel
theorem dX14_behindGaps_23 : decode cX14_behindGaps 23 = .ok (.iload_n 3, 1) := by decide +kernel
theorem dX14_behindGaps_24 : decode cX14_behindGaps 24 = .ok (.iload_n 2, 1) := by decide +kernel
theorem dX14_behindGaps_25 : decode cX14_behindGaps 25 = .ok (.invokestatic 608, 3) := by decide +kernel
theorem dX14_behindGaps_28 : decode cX14_behindGaps 28 = .ok (.ifCond .eq 22, 3) := by decide +kernel
theorem dX14_behindGaps_31 : decode cX14_behindGaps 31 = .ok (.aload_n 0, 1) := by decide +kernel
theorem dX14_behindGaps_32 : decode cX14_behindGaps 32 = .ok (.iload_n 3, 1) := by decide +kernel
theorem dX14_behindGaps_33 : decode cX14_behindGaps 33 = .ok (.iload_n 2, 1) := by decide +kernel
theorem dX14_behindGaps_34 : decode cX14_behindGaps 34 = .ok (.invokestatic 618, 3) := by decide +kernel
theorem dX14_behindGaps_37 : decode cX14_behindGaps 37 = .ok (.ifCond .lt 13, 3) := by decide +kernel
theorem dX14_behindGaps_40 : decode cX14_behindGaps 40 = .ok (.aload_n 0, 1) := by decide +kernel
theorem dX14_behindGaps_41 : decode cX14_behindGaps 41 = .ok (.iload_n 3, 1) := by decide +kernel
theorem dX14_behindGaps_42 : decode cX14_behindGaps 42 = .ok (.iload_n 2, 1) := by decide +kernel
theorem dX14_behindGaps_43 : decode cX14_behindGaps 43 = .ok (.invokestatic 618, 3) := by decide +kernel
theorem dX14_behindGaps_46 : decode cX14_behindGaps 46 = .ok (.istore_n 3, 1) := by decide +kernel
theorem dX14_behindGaps_47 : decode cX14_behindGaps 47 = .ok (.goto (-45), 3) := by decide +kernel
theorem dX14_behindGaps_50 : decode cX14_behindGaps 50 = .ok (.iload_n 3, 1) := by decide +kernel
theorem dX14_behindGaps_51 : decode cX14_behindGaps 51 = .ok (.ireturn, 1) := by decide +kernel
theorem dX14_behindGaps_52 : decode cX14_behindGaps 52 = .ok (.iload_n 2, 1) := by decide +kernel
theorem dX14_behindGaps_53 : decode cX14_behindGaps 53 = .ok (.ireturn, 1) := by decide +kernel
theorem dX14_sentenceEnd_0 : decode cX14_sentenceEnd 0 = .ok (.iload_n 1, 1) := by decide +kernel
theorem dX14_sentenceEnd_1 : decode cX14_sentenceEnd 1 = .ok (.istore_n 3, 1) := by decide +kernel
theorem dX14_sentenceEnd_2 : decode cX14_sentenceEnd 2 = .ok (.iload_n 3, 1) := by decide +kernel
theorem dX14_sentenceEnd_3 : decode cX14_sentenceEnd 3 = .ok (.iload_n 2, 1) := by decide +kernel
theorem dX14_sentenceEnd_4 : decode cX14_sentenceEnd 4 = .ok (.if_icmp .ge 72, 3) := by decide +kernel
theorem dX14_sentenceEnd_7 : decode cX14_sentenceEnd 7 = .ok (.aload_n 0, 1) := by decide +kernel
theorem dX14_sentenceEnd_8 : decode cX14_sentenceEnd 8 = .ok (.iload_n 3, 1) := by decide +kernel
theorem dX14_sentenceEnd_9 : decode cX14_sentenceEnd 9 = .ok (.iload_n 2, 1) := by decide +kernel
theorem dX14_sentenceEnd_10 : decode cX14_sentenceEnd 10 = .ok (.invokestatic 608, 3) := by decide +kernel
theorem dX14_sentenceEnd_13 : decode cX14_sentenceEnd 13 = .ok (.ifCond .eq 16, 3) := by decide +kernel
theorem dX14_sentenceEnd_16 : decode cX14_sentenceEnd 16 = .ok (.aload_n 0, 1) := by decide +kernel
theorem dX14_sentenceEnd_17 : decode cX14_sentenceEnd 17 = .ok (.iload_n 3, 1) := by decide +kernel
theorem dX14_sentenceEnd_18 : decode cX14_sentenceEnd 18 = .ok (.iload_n 2, 1) := by decide +kernel
theorem dX14_sentenceEnd_19 : decode cX14_sentenceEnd 19 = .ok (.invokestatic 618, 3) := by decide +kernel
theorem dX14_sentenceEnd_22 : decode cX14_sentenceEnd 22 = .ok (.istore_n 3, 1) := by decide +kernel
theorem dX14_sentenceEnd_23 : decode cX14_sentenceEnd 23 = .ok (.iload_n 3, 1) := by decide +kernel
theorem dX14_sentenceEnd_24 : decode cX14_sentenceEnd 24 = .ok (.ifCond .ge (-22), 3) := by decide +kernel
theorem dX14_sentenceEnd_27 : decode cX14_sentenceEnd 27 = .ok (.iconst (-1), 1) := by decide +kernel
theorem dX14_sentenceEnd_28 : decode cX14_sentenceEnd 28 = .ok (.ireturn, 1) := by decide +kernel
theorem dX14_sentenceEnd_29 : decode cX14_sentenceEnd 29 = .ok (.aload_n 0, 1) := by decide +kernel
theorem dX14_sentenceEnd_30 : decode cX14_sentenceEnd 30 = .ok (.iload_n 3, 1) := by decide +kernel
theorem dX14_sentenceEnd_31 : decode cX14_sentenceEnd 31 = .ok (.iaload, 1) := by decide +kernel
theorem dX14_sentenceEnd_32 : decode cX14_sentenceEnd 32 = .ok (.bipush 46, 2) := by decide +kernel
theorem dX14_sentenceEnd_34 : decode cX14_sentenceEnd 34 = .ok (.if_icmp .ne 36, 3) := by decide +kernel
theorem dX14_sentenceEnd_37 : decode cX14_sentenceEnd 37 = .ok (.iload_n 3, 1) := by decide +kernel
theorem dX14_sentenceEnd_38 : decode cX14_sentenceEnd 38 = .ok (.iconst 1, 1) := by decide +kernel
theorem dX14_sentenceEnd_39 : decode cX14_sentenceEnd 39 = .ok (.iadd, 1) := by decide +kernel
theorem dX14_sentenceEnd_40 : decode cX14_sentenceEnd 40 = .ok (.iload_n 2, 1) := by decide +kernel
theorem dX14_sentenceEnd_41 : decode cX14_sentenceEnd 41 = .ok (.if_icmp .eq 25, 3) := by decide +kernel
theorem dX14_sentenceEnd_44 : decode cX14_sentenceEnd 44 = .ok (.aload_n 0, 1) := by decide +kernel
theorem dX14_sentenceEnd_45 : decode cX14_sentenceEnd 45 = .ok (.iload_n 3, 1) := by decide +kernel
theorem dX14_sentenceEnd_46 : decode cX14_sentenceEnd 46 = .ok (.iconst 1, 1) := by decide +kernel
theorem dX14_sentenceEnd_47 : decode cX14_sentenceEnd 47 = .ok (.iadd, 1) := by decide +kernel
theorem dX14_sentenceEnd_48 : decode cX14_sentenceEnd 48 = .ok (.iaload, 1) := by decide +kernel
theorem dX14_sentenceEnd_49 : decode cX14_sentenceEnd 49 = .ok (.invokestatic 615, 3) := by decide +kernel
theorem dX14_sentenceEnd_52 : decode cX14_sentenceEnd 52 = .ok (.ifCond .ne 14, 3) := by decide +kernel
theorem dX14_sentenceEnd_55 : decode cX14_sentenceEnd 55 = .ok (.aload_n 0, 1) := by decide +kernel
theorem dX14_sentenceEnd_56 : decode cX14_sentenceEnd 56 = .ok (.iload_n 3, 1) := by decide +kernel
theorem dX14_sentenceEnd_57 : decode cX14_sentenceEnd 57 = .ok (.iconst 1, 1) := by decide +kernel
theorem dX14_sentenceEnd_58 : decode cX14_sentenceEnd 58 = .ok (.iadd, 1) := by decide +kernel
theorem dX14_sentenceEnd_59 : decode cX14_sentenceEnd 59 = .ok (.iload_n 2, 1) := by decide +kernel
theorem dX14_sentenceEnd_60 : decode cX14_sentenceEnd 60 = .ok (.invokestatic 608, 3) := by decide +kernel
theorem dX14_sentenceEnd_63 : decode cX14_sentenceEnd 63 = .ok (.ifCond .eq 7, 3) := by decide +kernel
theorem dX14_sentenceEnd_66 : decode cX14_sentenceEnd 66 = .ok (.iload_n 3, 1) := by decide +kernel
theorem dX14_sentenceEnd_67 : decode cX14_sentenceEnd 67 = .ok (.iconst 1, 1) := by decide +kernel
theorem dX14_sentenceEnd_68 : decode cX14_sentenceEnd 68 = .ok (.iadd, 1) := by decide +kernel
theorem dX14_sentenceEnd_69 : decode cX14_sentenceEnd 69 = .ok (.ireturn, 1) := by decide +kernel
theorem dX14_sentenceEnd_70 : decode cX14_sentenceEnd 70 = .ok (.iinc 3 1, 3) := by decide +kernel
theorem dX14_sentenceEnd_73 : decode cX14_sentenceEnd 73 = .ok (.goto (-71), 3) := by decide +kernel
theorem dX14_sentenceEnd_76 : decode cX14_sentenceEnd 76 = .ok (.iconst (-1), 1) := by decide +kernel
theorem dX14_sentenceEnd_77 : decode cX14_sentenceEnd 77 = .ok (.ireturn, 1) := by decide +kernel
end
section
theorem dX14_part_0 : decode cX14_part 0 = .ok (.aload_n 0, 1) := by decide +kernel
theorem dX14_part_1 : decode cX14_part 1 = .ok (.getfield 529, 3) := by decide +kernel
theorem dX14_part_4 : decode cX14_part 4 = .ok (.astore_n 1, 1) := by decide +kernel
theorem dX14_part_5 : decode cX14_part 5 = .ok (.aload_n 0, 1) := by decide +kernel
theorem dX14_part_6 : decode cX14_part 6 = .ok (.getfield 526, 3) := by decide +kernel
theorem dX14_part_9 : decode cX14_part 9 = .ok (.istore_n 2, 1) := by decide +kernel
theorem dX14_part_10 : decode cX14_part 10 = .ok (.aload_n 0, 1) := by decide +kernel
theorem dX14_part_11 : decode cX14_part 11 = .ok (.iconst 0, 1) := by decide +kernel
theorem dX14_part_12 : decode cX14_part 12 = .ok (.putfield 587, 3) := by decide +kernel
theorem dX14_part_15 : decode cX14_part 15 = .ok (.aload_n 1, 1) := by decide +kernel
theorem dX14_part_16 : decode cX14_part 16 = .ok (.iconst 0, 1) := by decide +kernel
theorem dX14_part_17 : decode cX14_part 17 = .ok (.iload_n 2, 1) := by decide +kernel
theorem dX14_part_18 : decode cX14_part 18 = .ok (.invokestatic 621, 3) := by decide +kernel
theorem dX14_part_21 : decode cX14_part 21 = .ok (.istore_n 3, 1) := by decide +kernel
theorem dX14_part_22 : decode cX14_part 22 = .ok (.iload_n 3, 1) := by decide +kernel
theorem dX14_part_23 : decode cX14_part 23 = .ok (.iload_n 2, 1) := by decide +kernel
theorem dX14_part_24 : decode cX14_part 24 = .ok (.if_icmp .ge 116, 3) := by decide +kernel
theorem dX14_part_27 : decode cX14_part 27 = .ok (.aload_n 0, 1) := by decide +kernel
theorem dX14_part_28 : decode cX14_part 28 = .ok (.getfield 587, 3) := by decide +kernel
theorem dX14_part_31 : decode cX14_part 31 = .ok (.istore 4, 2) := by decide +kernel
theorem dX14_part_33 : decode cX14_part 33 = .ok (.aload_n 0, 1) := by decide +kernel
theorem dX14_part_34 : decode cX14_part 34 = .ok (.dup, 1) := by decide +kernel
theorem dX14_part_35 : decode cX14_part 35 = .ok (.getfield 587, 3) := by decide +kernel
theorem dX14_part_38 : decode cX14_part 38 = .ok (.iconst 1, 1) := by decide +kernel
theorem dX14_part_39 : decode cX14_part 39 = .ok (.iadd, 1) := by decide +kernel
theorem dX14_part_40 : decode cX14_part 40 = .ok (.putfield 587, 3) := by decide +kernel
theorem dX14_part_43 : decode cX14_part 43 = .ok (.aload_n 0, 1) := by decide +kernel
theorem dX14_part_44 : decode cX14_part 44 = .ok (.getfield 596, 3) := by decide +kernel
theorem dX14_part_47 : decode cX14_part 47 = .ok (.iload 4, 2) := by decide +kernel
theorem dX14_part_49 : decode cX14_part 49 = .ok (.iload_n 3, 1) := by decide +kernel
theorem dX14_part_50 : decode cX14_part 50 = .ok (.iastore, 1) := by decide +kernel
theorem dX14_part_51 : decode cX14_part 51 = .ok (.aload_n 1, 1) := by decide +kernel
theorem dX14_part_52 : decode cX14_part 52 = .ok (.iload_n 3, 1) := by decide +kernel
theorem dX14_part_53 : decode cX14_part 53 = .ok (.iload_n 2, 1) := by decide +kernel
theorem dX14_part_54 : decode cX14_part 54 = .ok (.invokestatic 624, 3) := by decide +kernel
theorem dX14_part_57 : decode cX14_part 57 = .ok (.istore 5, 2) := by decide +kernel
theorem dX14_part_59 : decode cX14_part 59 = .ok (.aload_n 0, 1) := by decide +kernel
theorem dX14_part_60 : decode cX14_part 60 = .ok (.getfield 599, 3) := by decide +kernel
theorem dX14_part_63 : decode cX14_part 63 = .ok (.iload 4, 2) := by decide +kernel
theorem dX14_part_65 : decode cX14_part 65 = .ok (.iload 5, 2) := by decide +kernel
theorem dX14_part_67 : decode cX14_part 67 = .ok (.ifCond .ge 7, 3) := by decide +kernel
theorem dX14_part_70 : decode cX14_part 70 = .ok (.iconst 1, 1) := by decide +kernel
theorem dX14_part_71 : decode cX14_part 71 = .ok (.goto 4, 3) := by decide +kernel
theorem dX14_part_74 : decode cX14_part 74 = .ok (.iconst 0, 1) := by decide +kernel
theorem dX14_part_75 : decode cX14_part 75 = .ok (.iastore, 1) := by decide +kernel
theorem dX14_part_76 : decode cX14_part 76 = .ok (.aload_n 0, 1) := by decide +kernel
theorem dX14_part_77 : decode cX14_part 77 = .ok (.getfield 594, 3) := by decide +kernel
theorem dX14_part_80 : decode cX14_part 80 = .ok (.iload 4, 2) := by decide +kernel
theorem dX14_part_82 : decode cX14_part 82 = .ok (.iload 5, 2) := by decide +kernel
theorem dX14_part_84 : decode cX14_part 84 = .ok (.ifCond .ge 7, 3) := by decide +kernel
theorem dX14_part_87 : decode cX14_part 87 = .ok (.iload_n 2, 1) := by decide +kernel
theorem dX14_part_88 : decode cX14_part 88 = .ok (.goto 5, 3) := by decide +kernel
theorem dX14_part_91 : decode cX14_part 91 = .ok (.iload 5, 2) := by decide +kernel
theorem dX14_part_93 : decode cX14_part 93 = .ok (.iastore, 1) := by decide +kernel
theorem dX14_part_94 : decode cX14_part 94 = .ok (.aload_n 1, 1) := by decide +kernel
theorem dX14_part_95 : decode cX14_part 95 = .ok (.aload_n 0, 1) := by decide +kernel
theorem dX14_part_96 : decode cX14_part 96 = .ok (.getfield 594, 3) := by decide +kernel
theorem dX14_part_99 : decode cX14_part 99 = .ok (.iload 4, 2) := by decide +kernel
theorem dX14_part_101 : decode cX14_part 101 = .ok (.iaload, 1) := by decide +kernel
theorem dX14_part_102 : decode cX14_part 102 = .ok (.iload_n 2, 1) := by decide +kernel
theorem dX14_part_103 : decode cX14_part 103 = .ok (.invokestatic 621, 3) := by decide +kernel
theorem dX14_part_106 : decode cX14_part 106 = .ok (.istore_n 3, 1) := by decide +kernel
theorem dX14_part_107 : decode cX14_part 107 = .ok (.iload 4, 2) := by decide +kernel
theorem dX14_part_109 : decode cX14_part 109 = .ok (.bipush 39, 2) := by decide +kernel
theorem dX14_part_111 : decode cX14_part 111 = .ok (.if_icmp .ne 26, 3) := by decide +kernel
theorem dX14_part_114 : decode cX14_part 114 = .ok (.iload_n 3, 1) := by decide +kernel
theorem dX14_part_115 : decode cX14_part 115 = .ok (.iload_n 2, 1) := by decide +kernel
theorem dX14_part_116 : decode cX14_part 116 = .ok (.if_icmp .ge 21, 3) := by decide +kernel
theorem dX14_part_119 : decode cX14_part 119 = .ok (.aload_n 0, 1) := by decide +kernel
theorem dX14_part_120 : decode cX14_part 120 = .ok (.getfield 599, 3) := by decide +kernel
theorem dX14_part_123 : decode cX14_part 123 = .ok (.iload 4, 2) := by decide +kernel
theorem dX14_part_125 : decode cX14_part 125 = .ok (.iconst 2, 1) := by decide +kernel
theorem dX14_part_126 : decode cX14_part 126 = .ok (.iastore, 1) := by decide +kernel
theorem dX14_part_127 : decode cX14_part 127 = .ok (.aload_n 0, 1) := by decide +kernel
theorem dX14_part_128 : decode cX14_part 128 = .ok (.getfield 594, 3) := by decide +kernel
theorem dX14_part_131 : decode cX14_part 131 = .ok (.iload 4, 2) := by decide +kernel
theorem dX14_part_133 : decode cX14_part 133 = .ok (.iload_n 2, 1) := by decide +kernel
theorem dX14_part_134 : decode cX14_part 134 = .ok (.iastore, 1) := by decide +kernel
theorem dX14_part_135 : decode cX14_part 135 = .ok (.iload_n 2, 1) := by decide +kernel
theorem dX14_part_136 : decode cX14_part 136 = .ok (.istore_n 3, 1) := by decide +kernel
theorem dX14_part_137 : decode cX14_part 137 = .ok (.goto (-115), 3) := by decide +kernel
theorem dX14_part_140 : decode cX14_part 140 = .ok (.return_, 1) := by decide +kernel
end
section
theorem dX14_waitFor_0 : decode cX14_waitFor 0 = .ok (.aload_n 0, 1) := by decide +kernel
theorem dX14_waitFor_1 : decode cX14_waitFor 1 = .ok (.getfield 711, 3) := by decide +kernel
theorem dX14_waitFor_4 : decode cX14_waitFor 4 = .ok (.bipush 12, 2) := by decide +kernel
theorem dX14_waitFor_6 : decode cX14_waitFor 6 = .ok (.if_icmp .ne 12, 3) := by decide +kernel
theorem dX14_waitFor_9 : decode cX14_waitFor 9 = .ok (.aload_n 0, 1) := by decide +kernel
theorem dX14_waitFor_10 : decode cX14_waitFor 10 = .ok (.sipush (-32600), 3) := by decide +kernel
theorem dX14_waitFor_13 : decode cX14_waitFor 13 = .ok (.invokevirtual 425, 3) := by decide +kernel
theorem dX14_waitFor_16 : decode cX14_waitFor 16 = .ok (.iconst 0, 1) := by decide +kernel
theorem dX14_waitFor_17 : decode cX14_waitFor 17 = .ok (.ireturn, 1) := by decide +kernel
theorem dX14_waitFor_18 : decode cX14_waitFor 18 = .ok (.aload_n 0, 1) := by decide +kernel
theorem dX14_waitFor_19 : decode cX14_waitFor 19 = .ok (.getfield 91, 3) := by decide +kernel
theorem dX14_waitFor_22 : decode cX14_waitFor 22 = .ok (.aload_n 0, 1) := by decide +kernel
theorem dX14_waitFor_23 : decode cX14_waitFor 23 = .ok (.getfield 711, 3) := by decide +kernel
theorem dX14_waitFor_26 : decode cX14_waitFor 26 = .ok (.aload_n 1, 1) := by decide +kernel
theorem dX14_waitFor_27 : decode cX14_waitFor 27 = .ok (.aastore, 1) := by decide +kernel
theorem dX14_waitFor_28 : decode cX14_waitFor 28 = .ok (.aload_n 0, 1) := by decide +kernel
theorem dX14_waitFor_29 : decode cX14_waitFor 29 = .ok (.getfield 94, 3) := by decide +kernel
theorem dX14_waitFor_32 : decode cX14_waitFor 32 = .ok (.aload_n 0, 1) := by decide +kernel
theorem dX14_waitFor_33 : decode cX14_waitFor 33 = .ok (.getfield 711, 3) := by decide +kernel
theorem dX14_waitFor_36 : decode cX14_waitFor 36 = .ok (.iload_n 2, 1) := by decide +kernel
theorem dX14_waitFor_37 : decode cX14_waitFor 37 = .ok (.bastore, 1) := by decide +kernel
theorem dX14_waitFor_38 : decode cX14_waitFor 38 = .ok (.aload_n 0, 1) := by decide +kernel
theorem dX14_waitFor_39 : decode cX14_waitFor 39 = .ok (.getfield 97, 3) := by decide +kernel
theorem dX14_waitFor_42 : decode cX14_waitFor 42 = .ok (.aload_n 0, 1) := by decide +kernel
theorem dX14_waitFor_43 : decode cX14_waitFor 43 = .ok (.getfield 711, 3) := by decide +kernel
theorem dX14_waitFor_46 : decode cX14_waitFor 46 = .ok (.iload_n 3, 1) := by decide +kernel
theorem dX14_waitFor_47 : decode cX14_waitFor 47 = .ok (.iastore, 1) := by decide +kernel
theorem dX14_waitFor_48 : decode cX14_waitFor 48 = .ok (.aload_n 0, 1) := by decide +kernel
theorem dX14_waitFor_49 : decode cX14_waitFor 49 = .ok (.getfield 100, 3) := by decide +kernel
theorem dX14_waitFor_52 : decode cX14_waitFor 52 = .ok (.aload_n 0, 1) := by decide +kernel
theorem dX14_waitFor_53 : decode cX14_waitFor 53 = .ok (.getfield 711, 3) := by decide +kernel
theorem dX14_waitFor_56 : decode cX14_waitFor 56 = .ok (.aload_n 0, 1) := by decide +kernel
theorem dX14_waitFor_57 : decode cX14_waitFor 57 = .ok (.getfield 377, 3) := by decide +kernel
theorem dX14_waitFor_60 : decode cX14_waitFor 60 = .ok (.bastore, 1) := by decide +kernel
theorem dX14_waitFor_61 : decode cX14_waitFor 61 = .ok (.aload_n 0, 1) := by decide +kernel
theorem dX14_waitFor_62 : decode cX14_waitFor 62 = .ok (.getfield 103, 3) := by decide +kernel
theorem dX14_waitFor_65 : decode cX14_waitFor 65 = .ok (.aload_n 0, 1) := by decide +kernel
theorem dX14_waitFor_66 : decode cX14_waitFor 66 = .ok (.getfield 711, 3) := by decide +kernel
theorem dX14_waitFor_69 : decode cX14_waitFor 69 = .ok (.aload_n 0, 1) := by decide +kernel
theorem dX14_waitFor_70 : decode cX14_waitFor 70 = .ok (.getfield 380, 3) := by decide +kernel
theorem dX14_waitFor_73 : decode cX14_waitFor 73 = .ok (.iastore, 1) := by decide +kernel
theorem dX14_waitFor_74 : decode cX14_waitFor 74 = .ok (.aload_n 0, 1) := by decide +kernel
theorem dX14_waitFor_75 : decode cX14_waitFor 75 = .ok (.getfield 109, 3) := by decide +kernel
theorem dX14_waitFor_78 : decode cX14_waitFor 78 = .ok (.aload_n 0, 1) := by decide +kernel
theorem dX14_waitFor_79 : decode cX14_waitFor 79 = .ok (.getfield 711, 3) := by decide +kernel
theorem dX14_waitFor_82 : decode cX14_waitFor 82 = .ok (.aload_n 0, 1) := by decide +kernel
theorem dX14_waitFor_83 : decode cX14_waitFor 83 = .ok (.getfield 383, 3) := by decide +kernel
theorem dX14_waitFor_86 : decode cX14_waitFor 86 = .ok (.iastore, 1) := by decide +kernel
theorem dX14_waitFor_87 : decode cX14_waitFor 87 = .ok (.iconst 0, 1) := by decide +kernel
theorem dX14_waitFor_88 : decode cX14_waitFor 88 = .ok (.istore 4, 2) := by decide +kernel
theorem dX14_waitFor_90 : decode cX14_waitFor 90 = .ok (.iload 4, 2) := by decide +kernel
theorem dX14_waitFor_92 : decode cX14_waitFor 92 = .ok (.aload_n 0, 1) := by decide +kernel
theorem dX14_waitFor_93 : decode cX14_waitFor 93 = .ok (.getfield 383, 3) := by decide +kernel
theorem dX14_waitFor_96 : decode cX14_waitFor 96 = .ok (.if_icmp .ge 31, 3) := by decide +kernel
theorem dX14_waitFor_99 : decode cX14_waitFor 99 = .ok (.aload_n 0, 1) := by decide +kernel
theorem dX14_waitFor_100 : decode cX14_waitFor 100 = .ok (.getfield 106, 3) := by decide +kernel
theorem dX14_waitFor_103 : decode cX14_waitFor 103 = .ok (.bipush 20, 2) := by decide +kernel
theorem dX14_waitFor_105 : decode cX14_waitFor 105 = .ok (.aload_n 0, 1) := by decide +kernel
theorem dX14_waitFor_106 : decode cX14_waitFor 106 = .ok (.getfield 711, 3) := by decide +kernel
theorem dX14_waitFor_109 : decode cX14_waitFor 109 = .ok (.imul, 1) := by decide +kernel
theorem dX14_waitFor_110 : decode cX14_waitFor 110 = .ok (.iload 4, 2) := by decide +kernel
theorem dX14_waitFor_112 : decode cX14_waitFor 112 = .ok (.iadd, 1) := by decide +kernel
theorem dX14_waitFor_113 : decode cX14_waitFor 113 = .ok (.aload_n 0, 1) := by decide +kernel
theorem dX14_waitFor_114 : decode cX14_waitFor 114 = .ok (.getfield 68, 3) := by decide +kernel
theorem dX14_waitFor_117 : decode cX14_waitFor 117 = .ok (.iload 4, 2) := by decide +kernel
theorem dX14_waitFor_119 : decode cX14_waitFor 119 = .ok (.iaload, 1) := by decide +kernel
theorem dX14_waitFor_120 : decode cX14_waitFor 120 = .ok (.iastore, 1) := by decide +kernel
theorem dX14_waitFor_121 : decode cX14_waitFor 121 = .ok (.iinc 4 1, 3) := by decide +kernel
theorem dX14_waitFor_124 : decode cX14_waitFor 124 = .ok (.goto (-34), 3) := by decide +kernel
theorem dX14_waitFor_127 : decode cX14_waitFor 127 = .ok (.aload_n 0, 1) := by decide +kernel
theorem dX14_waitFor_128 : decode cX14_waitFor 128 = .ok (.dup, 1) := by decide +kernel
theorem dX14_waitFor_129 : decode cX14_waitFor 129 = .ok (.getfield 711, 3) := by decide +kernel
theorem dX14_waitFor_132 : decode cX14_waitFor 132 = .ok (.iconst 1, 1) := by decide +kernel
theorem dX14_waitFor_133 : decode cX14_waitFor 133 = .ok (.iadd, 1) := by decide +kernel
theorem dX14_waitFor_134 : decode cX14_waitFor 134 = .ok (.putfield 711, 3) := by decide +kernel
theorem dX14_waitFor_137 : decode cX14_waitFor 137 = .ok (.iconst 1, 1) := by decide +kernel
theorem dX14_waitFor_138 : decode cX14_waitFor 138 = .ok (.ireturn, 1) := by decide +kernel
end
