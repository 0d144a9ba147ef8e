section
theorem jTot_push {H H1 : Heap} {c : Cell} (hsz : H1.size = H.size + 1) (h1 : H1[H.size]? = some c) (ho : ∀ q, q < H.size → H1[q]? = H[q]?) : jTot H1 = jTot H + c.slots.size := by
  have e : H1.toList = H.toList ++ [c] := by
    apply List.ext_getElem?
    intro i
    rw [Array.getElem?_toList]
    by_cases hi : i < H.size
    · rw [ho i hi, List.getElem?_append_left (by simpa using hi), Array.getElem?_toList]
    · by_cases he : i = H.size
      · rw [he, h1, List.getElem?_append_right (by simp)]
        simp
      · rw [Array.getElem?_eq_none (by omega), List.getElem?_eq_none (by simp; omega)]
  unfold jTot
  rw [e, List.map_append, List.sum_append]
  simp
section JR
variable {p : Program} {l : Launch} {e : Env} {R : Room} {s : State} {m : MethodId} {args : Array Value} {below : List Frame} {meth : Method} {c : Code} {H : Heap} {locs : List Loc} {cells slots : Nat} {Q : State → Prop}
variable {cc : ByteArray} {pc : Nat} {ls : Array Slot} {rest : List Value} {D : va_G} {cl : List vw_C} {A : Nat → Prop} {a : Nat} {tys : List (ClassId × FieldType)}
theorem j_newi (hexec : p.tables.exec = Jvm.exec) (hb : c.code = cc) {atype : ArrayType} {ty : FieldType} (harr : (Cond.arrayClass ty).before args s = true) (hty : newarray.typeOf atype = ty) (hd : defaultValue ty = .int 0) (hra : ∀ cA, va_RA s cA ty → s.vm.findClass ("[" ++ ty.toString) = some cA) (hK : va_K D cl tys s) (t0 : Nat) {cA : ClassId} (ht : tys[t0]? = some (cA, ty))
    {n : Int32} {N' : Nat} (hn : ¬ n < 0) (hN : n.toNatClampNeg = N') (hbytes : N' * componentBytes ty ≤ 536870912) (hcells : cells + 1 ≤ R.cells) (hslots : slots + N' ≤ R.slots) (hdg : decode cc pc = .ok (.newarray atype, 2))
    (kk : ∀ H1 : Heap, va_at D cl (H.size, .inl (cA, N', .inl (fun _ => 0))) H1 → H1.size = H.size + 1 → (∀ q, q < H.size → H1[q]? = H[q]?) → jTot H1 = jTot H + N' → W p l e R s m args below meth c H1 locs (cells + 1) (slots + N') Q (F0 m (pc + 2) ls (.ref H.size :: rest))) : W p l e R s m args below meth c H locs cells slots Q (F0 m pc ls (.int n :: rest)) := by
  subst hty
  refine va_newaK hexec hb harr rfl hdg rfl hn hN hbytes hcells hslots rfl fun H1 cB e1 z1 o1 hAr hNm => ?_
  have hc : cB = cA := Option.some.inj (hNm.symm.trans (hra _ (hK.2 t0 _ ht).2))
  subst hc
  have e2 : va_at D cl (H.size, .inl (cB, N', .inl (fun _ => 0))) H1 := by
    show H1[H.size]? = some (vp_cell _ _)
    rw [e1, vp_cell_i, hd]
  refine kk H1 e2 z1 o1 ?_
  rw [jTot_push z1 e1 o1, arrV_size]
end JR
end
section
-- the typed heap: a root has a kind below 1000; the cells that belong to a root are marked (1000 + place, root); B says what a root of a kind and its cells hold
theorem W.known {p : Program} {l : Launch} {e : Env} {R : Room} {s : State} {m : MethodId} {args : Array Value} {below : List Frame} {meth : Method} {c : Code} {H : Heap} {locs : List Loc} {cells slots : Nat} {Q : State → Prop} {g : JFrame} (k : H.size ≤ s.heap.size + cells → jTot H ≤ jTot s.heap + slots → W p l e R s m args below meth c H locs cells slots Q g) : W p l e R s m args below meth c H locs cells slots Q g := by
  intro T hT X
  refine k (by rw [← hT]; exact X.heapSize) ?_ T hT X
  obtain ⟨a1, a2, a3, a4, a5, a6⟩ := X.same
  have e1 : (T.setVm s.vm).heap = H := hT
  rw [e1] at a2 a5 a6
  have hkeep : (H.toList.take s.heap.size).map (·.slots.size) = s.heap.toList.map (·.slots.size) := by
    apply List.ext_getElem?
    intro i
    rw [List.getElem?_map, List.getElem?_map]
    by_cases hi : i < s.heap.size
    · rw [List.getElem?_take_of_lt hi]
      have hs : s.heap[i]? = some s.heap[i] := Array.getElem?_eq_getElem hi
      obtain ⟨c', h1, -, h3, -⟩ := a6 i _ hs
      rw [Array.getElem?_toList, Array.getElem?_toList, h1, hs]
      simp [h3]
    · have h1 : (H.toList.take s.heap.size)[i]? = none := by
        apply List.getElem?_eq_none
        simp; omega
      have h2 : s.heap.toList[i]? = none := by
        apply List.getElem?_eq_none
        simp; omega
      rw [h1, h2]
  have hsum : jTot H = jTot s.heap + ((H.toList.drop s.heap.size).map (·.slots.size)).sum := by
    unfold jTot
    rw [← hkeep, ← List.sum_append, ← List.map_append, List.take_append_drop]
  omega
end
section
theorem dJ7_copyOf_9075b_0 : decode cJ7_copyOf_9075b 0 = .ok (.iload_n 1, 1) := by decide +kernel
theorem dJ7_copyOf_9075b_1 : decode cJ7_copyOf_9075b 1 = .ok (.aload_n 0, 1) := by decide +kernel
theorem dJ7_copyOf_9075b_2 : decode cJ7_copyOf_9075b 2 = .ok (.arraylength, 1) := by decide +kernel
theorem dJ7_copyOf_9075b_3 : decode cJ7_copyOf_9075b 3 = .ok (.if_icmp .ne 11, 3) := by decide +kernel
theorem dJ7_copyOf_9075b_14 : decode cJ7_copyOf_9075b 14 = .ok (.iload_n 1, 1) := by decide +kernel
theorem dJ7_copyOf_9075b_15 : decode cJ7_copyOf_9075b 15 = .ok (.newarray .byte, 2) := by decide +kernel
theorem dJ7_copyOf_9075b_17 : decode cJ7_copyOf_9075b 17 = .ok (.astore_n 2, 1) := by decide +kernel
theorem dJ7_copyOf_9075b_18 : decode cJ7_copyOf_9075b 18 = .ok (.aload_n 0, 1) := by decide +kernel
theorem dJ7_copyOf_9075b_19 : decode cJ7_copyOf_9075b 19 = .ok (.iconst 0, 1) := by decide +kernel
theorem dJ7_copyOf_9075b_20 : decode cJ7_copyOf_9075b 20 = .ok (.aload_n 2, 1) := by decide +kernel
theorem dJ7_copyOf_9075b_21 : decode cJ7_copyOf_9075b 21 = .ok (.iconst 0, 1) := by decide +kernel
theorem dJ7_copyOf_9075b_22 : decode cJ7_copyOf_9075b 22 = .ok (.aload_n 0, 1) := by decide +kernel
theorem dJ7_copyOf_9075b_23 : decode cJ7_copyOf_9075b 23 = .ok (.arraylength, 1) := by decide +kernel
theorem dJ7_copyOf_9075b_24 : decode cJ7_copyOf_9075b 24 = .ok (.iload_n 1, 1) := by decide +kernel
theorem dJ7_copyOf_9075b_25 : decode cJ7_copyOf_9075b 25 = .ok (.invokestatic 304, 3) := by decide +kernel
theorem dJ7_copyOf_9075b_28 : decode cJ7_copyOf_9075b 28 = .ok (.invokestatic 150, 3) := by decide +kernel
theorem dJ7_copyOf_9075b_31 : decode cJ7_copyOf_9075b 31 = .ok (.aload_n 2, 1) := by decide +kernel
theorem dJ7_copyOf_9075b_32 : decode cJ7_copyOf_9075b 32 = .ok (.areturn, 1) := by decide +kernel
end
section
theorem dX14_isLetter_0 : decode cX14_isLetter 0 = .ok (.iload_n 0, 1) := by decide +kernel
theorem dX14_isLetter_1 : decode cX14_isLetter 1 = .ok (.bipush 97, 2) := by decide +kernel
theorem dX14_isLetter_3 : decode cX14_isLetter 3 = .ok (.bipush 122, 2) := by decide +kernel
theorem dX14_isLetter_5 : decode cX14_isLetter 5 = .ok (.invokestatic 181, 3) := by decide +kernel
theorem dX14_isLetter_8 : decode cX14_isLetter 8 = .ok (.ifCond .ne 14, 3) := by decide +kernel
theorem dX14_isLetter_11 : decode cX14_isLetter 11 = .ok (.iload_n 0, 1) := by decide +kernel
theorem dX14_isLetter_12 : decode cX14_isLetter 12 = .ok (.bipush 65, 2) := by decide +kernel
theorem dX14_isLetter_14 : decode cX14_isLetter 14 = .ok (.bipush 90, 2) := by decide +kernel
theorem dX14_isLetter_16 : decode cX14_isLetter 16 = .ok (.invokestatic 181, 3) := by decide +kernel
theorem dX14_isLetter_19 : decode cX14_isLetter 19 = .ok (.ifCond .eq 7, 3) := by decide +kernel
theorem dX14_isLetter_22 : decode cX14_isLetter 22 = .ok (.iconst 1, 1) := by decide +kernel
theorem dX14_isLetter_23 : decode cX14_isLetter 23 = .ok (.goto 4, 3) := by decide +kernel
theorem dX14_isLetter_26 : decode cX14_isLetter 26 = .ok (.iconst 0, 1) := by decide +kernel
theorem dX14_isLetter_27 : decode cX14_isLetter 27 = .ok (.ireturn, 1) := by decide +kernel
end
section
theorem jWr_13 : ∀ w ∈ wsL_law_r13, w ∈ jWl := fun w h => jT13 w (List.mem_append_left _ h)
theorem jWr_34 : ∀ w ∈ wsL_law_r34, w ∈ jWl := fun w h => jT34 w (List.mem_append_left _ h)
theorem jWr_45 : ∀ w ∈ wsL_law_r45, w ∈ jWl := fun w h => jT45 w (List.mem_append_left _ h)
theorem jWr_46 : ∀ w ∈ wsL_law_r46, w ∈ jWl := fun w h => jT46 w (List.mem_append_left _ h)
theorem jWr_47 : ∀ w ∈ wsL_law_r47, w ∈ jWl := fun w h => jT47 w (List.mem_append_left _ h)
theorem jWc_wsJ40 : ∀ w ∈ wsJ40, w ∈ jWl := fun w h => (List.mem_append_left _ (List.mem_append_left _ (List.mem_append_left _ (List.mem_append_left _ (List.mem_append_left _ (List.mem_append_right _ h))))))
end
section
-- the refined heap: every field of a typed object holds a value of its own predicate, every element of a typed array too; what is known of a field just now is a pin (address, kind, field, value)
theorem jP.lift {D : va_G} {G G1 : jT} {H : Heap} {L : List jPin} (h : jP D G H L) (h1 : jLe G G1) : jP D G1 H L := fun q hq => by
  obtain ⟨⟨n, g⟩, g2⟩ := h q hq
  exact ⟨⟨n, h1 _ _ g⟩, g2⟩
section J7
variable {p : Program} {l : Launch} {e : Env} {R : Room} {s : State} {m : MethodId} {args : Array Value} {below : List Frame} {meth : Method} {c : Code} {H : Heap} {locs : List Loc} {cells slots : Nat} {Q : State → Prop}
variable {cc : ByteArray} {pc : Nat} {ls : Array Slot} {rest : List Value} {dC : Nat → ClassId} {dI : Nat → Nat → Nat} {ca : Nat → ClassId} {B : jF} {base : Nat} {G0 G : jT} {E : List (Nat × Nat)} {H0 : Heap} {zc zs : Nat} {L : List jPin} {M : List jCt} {I : List jIv} {a k n i index N : Nat} {tys : List (ClassId × FieldType)} {own C : String} {T : u_T}
end J7
section J8
variable {p : Program} {l : Launch} {e : Env} {R : Room} {s : State} {m : MethodId} {args : Array Value} {below : List Frame} {meth : Method} {c : Code} {H : Heap} {locs : List Loc} {cells slots : Nat} {Q : State → Prop}
variable {cc : ByteArray} {pc : Nat} {ls : Array Slot} {rest : List Value} {dC : Nat → ClassId} {dI : Nat → Nat → Nat} {ca : Nat → ClassId} {B : jF} {base : Nat} {G0 G : jT} {E : List (Nat × Nat)} {H0 : Heap} {zc zs : Nat} {L : List jPin} {M : List jCt} {I : List jIv} {a k n : Nat} {P : Nat → Int32 → Prop} {cA : ClassId} {tys : List (ClassId × FieldType)}
theorem j7_len (hexec : p.tables.exec = Jvm.exec) (hb : c.code = cc) (hK : va_K (dC, dI) vwCl tys s) (hh : jSt (dC, dI) B base G0 G E H0 zc zs L M I H locs) (hBk : ∀ n G a H, B k n G a H ↔ jAr (dC, dI) cA P n a H) (t0 : Nat) {ty : FieldType} (ht : tys[t0]? = some (cA, ty)) (hk : k < 1000) (ha : G a = some (k, n)) (hn : n < 2147483648) (hdg : decode cc pc = .ok (.arraylength, 1))
    (kk : ∀ z : Int32, z.toInt = n → W p l e R s m args below meth c H locs cells slots Q (F0 m (pc + 1) ls (.int z :: rest))) : W p l e R s m args below meth c H locs cells slots Q (F0 m pc ls (.ref a :: rest)) := by
  obtain ⟨f, h1, -⟩ := hh.ar hBk hk ha
  exact va_alen (v := Int32.ofNat n) hexec hb hK (jp_one h1) 0 t0 rfl ht rfl hdg (kk _ (jb_nat hn))
end J8
def jRk (G : jT) (k n : Nat) : Value → Prop := fun v => ∃ (x j : Nat), v = .ref x ∧ G x = some (k, j) ∧ j ≤ n
end
section
-- new cells: an array of ints that is typed at once
section J11
variable {p : Program} {l : Launch} {e : Env} {R : Room} {s : State} {m : MethodId} {args : Array Value} {below : List Frame} {meth : Method} {c : Code} {H : Heap} {locs : List Loc} {cells slots : Nat} {Q : State → Prop}
variable {cc : ByteArray} {pc : Nat} {ls : Array Slot} {rest : List Value} {dC : Nat → ClassId} {dI : Nat → Nat → Nat} {ca : Nat → ClassId} {B : jF} {base : Nat} {G0 G : jT} {E : List (Nat × Nat)} {H0 : Heap} {zc zs : Nat} {L : List jPin} {M : List jCt} {I : List jIv} {k n : Nat} {P : Nat → Int32 → Prop} {cA : ClassId} {tys : List (ClassId × FieldType)}
/-- what a method that makes cells leaves -/
def jRa (D : va_G) (B : jF) (base : Nat) (G0 G1 : jT) (E : List (Nat × Nat)) (H0 : Heap) (zc zs : Nat) (M : List jPin) (H1 : Heap) : Prop := jX B base G1 [] H1 ∧ jLe G0 G1 ∧ jKp D G0 E H0 H1 ∧ H1.size ≤ H0.size + zc ∧ jTot H1 ≤ jTot H0 + zs ∧ jP D G1 H1 M
theorem jSt.ra (hh : jSt (dC, dI) B base G0 G E H0 zc zs L M I H locs) {zc1 zs1 : Nat} (hc : zc ≤ zc1) (hs1 : zs ≤ zs1) {M1 : List jPin} (is : List Nat) (hs : is.map (fun i => L[i]?) = M1.map some) {t : State} (ht : t.heap = H) : jRa (dC, dI) B base G0 G E H0 zc1 zs1 M1 t.heap := by
  rw [ht]
  obtain ⟨h1, h2, h3, h4, h5, h6, h7, h8, h9⟩ := hh
  exact ⟨h2, h5, h4, by omega, by omega, h3.sub is hs⟩
end J11
end
section
-- how a text is parted, as functions
theorem jGa_s {f : Nat → Int32} {n i : Int} {k : Nat} (hk : 0 < k) : jGa f n k i = if i < n then (if jBlk (jSo f i) = 1 then jGa f n (k - 1) (i + 1) else if jOpI f i n = 1 ∧ 0 ≤ jBcc f n i then jGa f n (k - 1) (jBcc f n i) else i) else n := by
  cases k with
  | zero => omega
  | succ k => rfl
theorem jSx_s {f : Nat → Int32} {n i : Int} {k : Nat} (hk : 0 < k) : jSx f n k i = if i < n then (if jOpI f i n = 1 then (if jBcc f n i < 0 then -1 else jSx f n (k - 1) (jBcc f n i)) else if jDt f n i = 1 then i + 1 else jSx f n (k - 1) (i + 1)) else -1 := by
  cases k with
  | zero => omega
  | succ k => rfl
end
section
theorem dJ1_canEncode_fc78d_0 : decode cJ1_canEncode_fc78d 0 = .ok (.iload_n 0, 1) := by decide +kernel
theorem dJ1_canEncode_fc78d_1 : decode cJ1_canEncode_fc78d 1 = .ok (.sipush 255, 3) := by decide +kernel
theorem dJ1_canEncode_fc78d_4 : decode cJ1_canEncode_fc78d 4 = .ok (.if_icmp .gt 7, 3) := by decide +kernel
theorem dJ1_canEncode_fc78d_7 : decode cJ1_canEncode_fc78d 7 = .ok (.iconst 1, 1) := by decide +kernel
theorem dJ1_canEncode_fc78d_8 : decode cJ1_canEncode_fc78d 8 = .ok (.goto 4, 3) := by decide +kernel
theorem dJ1_canEncode_fc78d_11 : decode cJ1_canEncode_fc78d 11 = .ok (.iconst 0, 1) := by decide +kernel
theorem dJ1_canEncode_fc78d_12 : decode cJ1_canEncode_fc78d 12 = .ok (.ireturn, 1) := by decide +kernel
end
section
def jLeA (f g : Nat → Int32) : Prop := ∀ i : Int, 0 ≤ i → i < 3100 → jSo f i ≤ jSo g i
end
section
-- the workers of a document that has changed; a document that is opened; closed
abbrev jFt : List (Nat × Nat) := [(122, 0), (123, 0)]
def jFT (dC : Nat → ClassId) (dI : Nat → Nat → Nat) (ca : Nat → ClassId) (G : jT) (xb xe : Nat) (H : Heap) : Prop := ∃ fb fe : Nat → Int32, jMc (dC, dI) G H [(xb, 122, 3100, ca 1, fb), (xe, 123, 3100, ca 1, fe)] ∧ jLeA fb fe
theorem jFT.ie {dC : Nat → ClassId} {dI : Nat → Nat → Nat} {ca : Nat → ClassId} {G : jT} {xb xe : Nat} {H : Heap} (h : jFT dC dI ca G xb xe H) (hb : G xb = some (122, 3100)) (he : G xe = some (123, 3100)) : ((jFt, jFT dC dI ca G xb xe) : jIv).2 H ∧ ∀ H1 H2 : Heap, jAg (dC, dI) G ((jFt, jFT dC dI ca G xb xe) : jIv).1 H1 H2 → ((jFt, jFT dC dI ca G xb xe) : jIv).2 H1 → ((jFt, jFT dC dI ca G xb xe) : jIv).2 H2 := by
  refine ⟨h, fun H1 H2 hA hq => ?_⟩
  obtain ⟨fb, fe, h1, h2⟩ := hq
  refine ⟨fb, fe, fun q hq => ?_, h2⟩
  obtain ⟨q1, q2, q3, q4⟩ := h1 q hq
  refine ⟨q1, q2, q3, q4.kept ?_⟩
  simp only [List.mem_cons, List.not_mem_nil, or_false] at hq
  rcases hq with rfl | rfl
  · exact hA.2 _ _ _ q1 q2 q3 rfl
  · exact hA.2 _ _ _ q1 q2 q3 rfl
section J16
variable {p : Program} {l : Launch} {e : Env} {R : Room} {s : State} {m : MethodId} {args : Array Value} {below : List Frame} {meth : Method} {c : Code} {H : Heap} {locs : List Loc} {cells slots : Nat} {Q : State → Prop}
variable {cc : ByteArray} {pc : Nat} {ls : Array Slot} {rest : List Value} {dC : Nat → ClassId} {dI : Nat → Nat → Nat} {ca : Nat → ClassId} {B : jF} {base : Nat} {G0 G : jT} {E : List (Nat × Nat)} {H0 : Heap} {zc zs : Nat} {L : List jPin} {M : List jCt} {I : List jIv} {a k n : Nat} {cA : ClassId} {tys : List (ClassId × FieldType)}
end J16
end
section
-- how a text is parted rests on its units alone
theorem jEqU.snoc {f f1 g : Nat → Int32} {m m1 k : Int} (h : jEqU f g m) (h0 : 0 ≤ m) (hm : m < k) (hv : jSo f1 m = jSo g m) (ho : ∀ j : Nat, (j : Int) < k → j ≠ m.toNat → f1 j = f j) (e : m1 = m + 1) : jEqU f1 g m1 := fun i q0 q1 => by
  by_cases q : i = m
  · rw [q]; exact hv
  · have := h i q0 (by omega)
    rw [← this]
    unfold jSo
    rw [ho i.toNat (by omega) (by omega)]
theorem jOpI_c {f g : Nat → Int32} {i n : Int} (h : jEqU f g n) (hi : 0 ≤ i) : jOpI f i n = jOpI g i n := by
  unfold jOpI
  by_cases q : i + 1 < n
  · have e1 : (f i.toNat).toInt = (g i.toNat).toInt := h i hi (by omega)
    have e2 : (f (i + 1).toNat).toInt = (g (i + 1).toNat).toInt := h (i + 1) (by omega) q
    rw [e1, e2]
  · rw [if_neg (fun w => q w.1), if_neg (fun w => q w.1)]
theorem jClI_c {f g : Nat → Int32} {i n : Int} (h : jEqU f g n) (hi : 0 ≤ i) : jClI f i n = jClI g i n := by
  unfold jClI
  by_cases q : i + 1 < n
  · have e1 : (f i.toNat).toInt = (g i.toNat).toInt := h i hi (by omega)
    have e2 : (f (i + 1).toNat).toInt = (g (i + 1).toNat).toInt := h (i + 1) (by omega) q
    rw [e1, e2]
  · rw [if_neg (fun w => q w.1), if_neg (fun w => q w.1)]
theorem jBc_c {f g : Nat → Int32} {n : Int} (h : jEqU f g n) : ∀ (k : Nat) (i d : Int), 0 ≤ i → jBc f n k i d = jBc g n k i d := by
  intro k
  induction k with
  | zero => intro i d _; rfl
  | succ k ih =>
    intro i d hi
    rw [jBc_s (f := f) (by omega), jBc_s (f := g) (by omega), jOpI_c h hi, jClI_c h hi, show k + 1 - 1 = k by omega, ih (i + 2) (d + 1) (by omega), ih (i + 2) (d - 1) (by omega), ih (i + 1) d (by omega)]
theorem jBcc_c {f g : Nat → Int32} {n i : Int} (h : jEqU f g n) (hi : 0 ≤ i) : jBcc f n i = jBcc g n i := jBc_c h _ _ _ hi
theorem jGa_cg {f g : Nat → Int32} {n : Int} (h : jEqU f g n) : ∀ (k : Nat) (i : Int), 0 ≤ i → jGa f n k i = jGa g n k i := by
  intro k
  induction k with
  | zero => intro i _; rfl
  | succ k ih =>
    intro i hi
    rw [jGa_s (f := f) (by omega), jGa_s (f := g) (by omega), show k + 1 - 1 = k by omega]
    by_cases q : i < n
    · rw [if_pos q, if_pos q, h i hi q, jOpI_c h hi, jBcc_c h hi, ih (i + 1) (by omega)]
      by_cases w : jOpI g i n = 1 ∧ 0 ≤ jBcc g n i
      · rw [if_pos w, if_pos w, ih _ w.2]
      · rw [if_neg w, if_neg w]
    · rw [if_neg q, if_neg q]
theorem jGa_nn {f : Nat → Int32} {n : Int} (hn : 0 ≤ n) : ∀ (k : Nat) (i : Int), 0 ≤ i → 0 ≤ jGa f n k i := by
  intro k
  induction k with
  | zero => intro i _; exact hn
  | succ k ih =>
    intro i hi
    rw [jGa_s (by omega), show k + 1 - 1 = k by omega]
    split
    · split
      · exact ih _ (by omega)
      · split
        · rename_i w; exact ih _ w.2
        · exact hi
    · exact hn
theorem jDt_cg {f g : Nat → Int32} {n i : Int} (h : jEqU f g n) (hi : 0 ≤ i) (hn : i < n) : jDt f n i = jDt g n i := by
  unfold jDt
  rw [h i hi hn, jOpI_c h (by omega : 0 ≤ i + 1)]
  by_cases q : i + 1 = n
  · by_cases w : jSo g i = 46
    · rw [if_pos ⟨w, Or.inl q⟩, if_pos ⟨w, Or.inl q⟩]
    · rw [if_neg (fun v => w v.1), if_neg (fun v => w v.1)]
  · rw [h (i + 1) (by omega) (by omega)]
theorem jSx_cg {f g : Nat → Int32} {n : Int} (h : jEqU f g n) : ∀ (k : Nat) (i : Int), 0 ≤ i → jSx f n k i = jSx g n k i := by
  intro k
  induction k with
  | zero => intro i _; rfl
  | succ k ih =>
    intro i hi
    rw [jSx_s (f := f) (by omega), jSx_s (f := g) (by omega), show k + 1 - 1 = k by omega]
    by_cases q : i < n
    · rw [if_pos q, if_pos q, jOpI_c h hi, jBcc_c h hi, jDt_cg h hi q, ih (i + 1) (by omega)]
      by_cases w : jBcc g n i < 0
      · rw [if_pos w, if_pos w]
      · rw [if_neg w, if_neg w, ih _ (by omega)]
    · rw [if_neg q, if_neg q]
theorem jEn_cg {f g : Nat → Int32} {n i : Int} (h : jEqU f g n) (hi : 0 ≤ i) : jEn f n i = jEn g n i := by
  unfold jEn jSen
  rw [jSx_cg h _ _ hi]
theorem jEn_nn {f : Nat → Int32} {n i : Int} (hn : 0 ≤ n) : 0 ≤ jEn f n i := by
  unfold jEn
  split
  · exact hn
  · omega
theorem jPn_cg {f g : Nat → Int32} {n : Int} (hn : 0 ≤ n) (h : jEqU f g n) : ∀ (k : Nat) (i c : Int), 0 ≤ i → jPn f n k i c = jPn g n k i c := by
  intro k
  induction k with
  | zero => intro i c _; rfl
  | succ k ih =>
    intro i c hi
    rw [jPn_s (f := f) (by omega), jPn_s (f := g) (by omega), show k + 1 - 1 = k by omega, jEn_cg h hi]
    have e : jGap f n (jEn g n i) = jGap g n (jEn g n i) := jGa_cg h _ _ (jEn_nn hn)
    have hnn : 0 ≤ jGap g n (jEn g n i) := jGa_nn hn _ _ (jEn_nn hn)
    rw [e, ih _ (c + 1) hnn]
theorem jPar_cg {f g : Nat → Int32} {n : Int} (hn : 0 ≤ n) (h : jEqU f g n) : jPar f n = jPar g n := by
  unfold jPar
  have e : jGap f n 0 = jGap g n 0 := jGa_cg h _ _ (by omega)
  have hnn : 0 ≤ jGap g n 0 := jGa_nn hn _ _ (by omega)
  rw [e, jPn_cg hn h _ _ _ hnn]
end
section
-- super's methods; bytes whose contents are known; the numbers that signs tell
theorem jgU {h : Cond} {own : String} {idx : Nat} {y : MethodName} {c : ByteArray} {n : Nat} {r : Option FieldType} (h1 : Cond.methodLink own idx y ∈ jWl) (h2 : Cond.sameMethod y.cls y.cls y.name y.desc ∈ jWl) (h3 : Cond.superclass own y.cls ∈ jWl) (h4 : Cond.instanceMethod y ∈ jWl) (h5 : Cond.initialized y.cls ∈ jWl) (hc : Cond.code y c n r ∈ jWl) : GoodIn (h :: jWl) (va_wsSU own idx y (jw y c n r)) :=
  jgL (fun w hw => by
    rcases List.mem_cons.mp hw with e | hw
    · rw [e]; exact h1
    rcases List.mem_cons.mp hw with e | hw
    · rw [e]; exact h2
    rcases List.mem_cons.mp hw with e | hw
    · rw [e]; exact h3
    rcases List.mem_cons.mp hw with e | hw
    · rw [e]; exact h4
    rw [List.mem_singleton.mp hw]; exact h5) (jgW hc)
theorem j7_baldM {p : Program} {l : Launch} {e : Env} {R : Room} {s : State} {m : MethodId} {args : Array Value} {below : List Frame} {meth : Method} {c : Code} {H : Heap} {locs : List Loc} {cells slots : Nat} {Q : State → Prop} {cc : ByteArray} {pc : Nat} {ls : Array Slot} {rest : List Value} {dC : Nat → ClassId} {dI : Nat → Nat → Nat} {B : jF} {base : Nat} {G0 G : jT} {E : List (Nat × Nat)} {H0 : Heap} {zc zs : Nat} {L : List jPin} {M : List jCt} {I : List jIv} {a k n : Nat} {P : Nat → Int32 → Prop} {cA : ClassId} {tys : List (ClassId × FieldType)} (hexec : p.tables.exec = Jvm.exec) (hb : c.code = cc) (hK : va_K (dC, dI) vwCl tys s) (hh : jSt (dC, dI) B base G0 G E H0 zc zs L M I H locs) (hBk : ∀ n G a H, B k n G a H ↔ jAr (dC, dI) cA P n a H) (t0 : Nat) (ht : tys[t0]? = some (cA, .byte)) (hk : k < 1000) (ha : G a = some (k, n)) {i : Int32} {x : Int} (hi : i.toInt = x) (h12 : 0 ≤ x ∧ x < n) {j : Nat} {kk1 : Nat} {cB : ClassId} {f : Nat → Int32} (hj : M[j]? = some (a, kk1, n, cB, f)) (hdg : decode cc pc = .ok (.baload, 1))
    (kk : ∀ z : Int32, z = f x.toNat → P x.toNat z → W p l e R s m args below meth c H locs cells slots Q (F0 m (pc + 1) ls (.int z :: rest))) : W p l e R s m args below meth c H locs cells slots Q (F0 m pc ls (.int i :: .ref a :: rest)) := by
  obtain ⟨h1, h2⟩ := h12
  obtain ⟨f', g1, g2⟩ := hh.ar hBk hk ha
  obtain ⟨-, -, -, q4⟩ := hh.2.2.2.2.2.2.2.1 _ (List.mem_of_getElem? hj)
  have hlt := jb_cl_lt hi h1 h2
  have hP := g2 _ hlt
  have e1 := jCt_eq q4 g1 hlt
  rw [jb_cl hi h1] at e1 hP
  exact va_bald hexec hb hK (jp_one g1) 0 t0 rfl ht (jb_in hi h1 h2) hdg (by rw [jb_cl hi h1]; exact kk _ e1.symm hP)
def jDg (f : Nat → Int32) (n : Int) : Prop := ∀ i : Int, 0 ≤ i → i < n → 48 ≤ (jCv (f i.toNat)).toInt ∧ (jCv (f i.toNat)).toInt ≤ 57
def jNm (f : Nat → Int32) : Nat → Int
  | 0 => 0
  | n + 1 => 10 * jNm f n + ((jCv (f n)).toInt - 48)
theorem jNm_s {f : Nat → Int32} {k : Int} {m : Nat} {v w c : Int} (h : v = jNm f k.toNat) (h0 : 0 ≤ k) (hc : c = (jCv (f k.toNat)).toInt) (hw : w = 10 * v + c - 48) (e : m = k.toNat + 1) : w = jNm f m := by
  subst e
  have : jNm f (k.toNat + 1) = 10 * jNm f k.toNat + ((jCv (f k.toNat)).toInt - 48) := rfl
  rw [this, ← h, ← hc]; omega
theorem jDg.snoc {f : Nat → Int32} {k k1 c : Int} (h : jDg f k) (hc : c = (jCv (f k.toNat)).toInt) (h1 : 48 ≤ c) (h2 : c ≤ 57) (e : k1 = k + 1) : jDg f k1 := fun i q0 q1 => by
  by_cases q : i = k
  · rw [q, ← hc]; exact ⟨h1, h2⟩
  · exact h i q0 (by omega)
theorem arrV_cg {cA : ClassId} {n : Nat} {f g : Nat → Value} (h : ∀ j, j < n → f j = g j) : arrV cA n f = arrV cA n g := by
  unfold arrV
  congr 1
  congr 1
  funext j
  exact h j.val j.isLt
def jBf (j : Nat) (z : Int32) : Prop := fits .byte (.int z) = true
section J18
variable {p : Program} {l : Launch} {e : Env} {R : Room} {s : State} {m : MethodId} {args : Array Value} {below : List Frame} {meth : Method} {c : Code} {H : Heap} {locs : List Loc} {cells slots : Nat} {Q : State → Prop}
variable {cc : ByteArray} {pc : Nat} {ls : Array Slot} {rest : List Value} {dC : Nat → ClassId} {dI : Nat → Nat → Nat} {ca : Nat → ClassId} {B : jF} {base : Nat} {G0 G : jT} {E : List (Nat × Nat)} {H0 : Heap} {zc zs : Nat} {L : List jPin} {M : List jCt} {I : List jIv} {a k n : Nat} {cA : ClassId} {tys : List (ClassId × FieldType)}
theorem jSt.byt (hh : jSt (dC, dI) B base G0 G E H0 zc zs L M I H locs) (hBk : ∀ n G a H, B k n G a H ↔ jAr (dC, dI) cA jBf n a H) (hk : k < 1000) (ha : G a = some (k, n)) : ∃ f : Nat → Int32, va_at (dC, dI) vwCl (a, .inl (cA, n, .inl f)) H ∧ sb_Fit f := by
  obtain ⟨f, g1, g2⟩ := hh.ar hBk hk ha
  refine ⟨fun j => if j < n then f j else 0, ?_, fun j => ?_⟩
  · have e1 : H[a]? = some (vp_cell cA (n, .inl f)) := g1
    show H[a]? = some (vp_cell cA (n, .inl _))
    rw [e1, vp_cell_i, vp_cell_i]
    congr 1
    exact arrV_cg (fun j hj => by simp only [if_pos hj])
  · by_cases q : j < n
    · simp only [if_pos q]; exact g2 j q
    · simp only [if_neg q]; rfl
end J18
end
section
-- what a method writes of one object only: the others of its kind keep their fields
theorem jOw.ie {dC : Nat → ClassId} {dI : Nat → Nat → Nat} {G0 G : jT} {k r N : Nat} {C : String} {T : u_T} {F : List (Nat × Nat)} {H0 H : Heap} (hc : vwCl[k]? = some (C, T, N)) (hF : (List.range N).all (fun i => F.contains (k, i)) = true) (hle : jLe G0 G) (h : jOw (dC, dI) G0 k r H0 H) : ((F, jOw (dC, dI) G0 k r H0) : jIv).2 H ∧ ∀ H1 H2 : Heap, jAg (dC, dI) G ((F, jOw (dC, dI) G0 k r H0) : jIv).1 H1 H2 → ((F, jOw (dC, dI) G0 k r H0) : jIv).2 H1 → ((F, jOw (dC, dI) G0 k r H0) : jIv).2 H2 := by
  refine ⟨h, fun H1 H2 hA h1 a n i v hne ha hf => ?_⟩
  have g := h1 a n i v hne ha hf
  have g' := g
  obtain ⟨r9, g1, g2, -⟩ := g'
  have e : r9 = (C, T, N) := Option.some.inj (g1.symm.trans hc)
  subst e
  exact hA.1 a k n i v (hle _ _ ha) (List.all_eq_true.mp hF i (List.mem_range.mpr g2)) g
theorem jP.cons {D : va_G} {G : jT} {H : Heap} {L : List jPin} {a k n i : Nat} {v : Value} (hg : G a = some (k, n)) (hf : jf D k a i v H) (h : jP D G H L) : jP D G H ((a, k, i, v) :: L) := fun q hq => by
  rcases List.mem_cons.mp hq with e | e
  · subst e; exact ⟨⟨n, hg⟩, hf⟩
  · exact h q e
theorem jnek {G : jT} {a b k n k1 n1 : Nat} (h : G a = some (k, n)) (h1 : G b = some (k1, n1)) (hn : ((k, n) == (k1, n1)) = false) : a ≠ b := fun e => by
  rw [e, h1] at h
  rw [Option.some.inj h] at hn
  simp at hn
section J19
variable {p : Program} {l : Launch} {e : Env} {R : Room} {s : State} {m : MethodId} {args : Array Value} {below : List Frame} {meth : Method} {c : Code} {H : Heap} {locs : List Loc} {cells slots : Nat} {Q : State → Prop}
variable {cc : ByteArray} {pc : Nat} {ls : Array Slot} {rest : List Value} {dC : Nat → ClassId} {dI : Nat → Nat → Nat} {ca : Nat → ClassId} {B : jF} {base : Nat} {G0 G : jT} {E : List (Nat × Nat)} {H0 : Heap} {zc zs : Nat} {L : List jPin} {M : List jCt} {I : List jIv} {a k n i index N : Nat} {tys : List (ClassId × FieldType)} {own C : String} {T : u_T}
theorem j7_putX (hexec : p.tables.exec = Jvm.exec) (hb : c.code = cc) (hown : s.vm.findClass own = some m.cls) (hK : va_K (dC, dI) vwCl tys s) (hh : jSt (dC, dI) B base G0 G E H0 zc zs L M I H locs) (hB : jBok B) (hAp : jAp (dC, dI)) {F : Nat → jT → List (Value → Prop)} (hBk : ∀ n G a H, B k n G a H ↔ jOb (dC, dI) k N (F n G) a H) (hc : vwCl[k]? = some (C, T, N)) (hk : k < 1000) (ha : G a = some (k, n)) (hi : i < N) (hlay : (u_lay C T i).before args s = true) (hfin : (T i).2.2.2 = false) (hlink : (Cond.fieldLink own index (T i).1 (T i).2.1 (T i).2.2.1).before args s = true) {P : Value → Prop} (hp : (F n G)[i]? = some P) {ty : FieldType} {v : Value} (hd : parseFieldDescriptor (T i).2.2.1 = some ty) (hnar : narrow ty v = v) (hfit : fits ty v = true) (hv : P v) (hE : E.contains (k, i) = true)
    {L1 : List jPin} (is : List Nat) (hs : is.map (fun i => L[i]?) = L1.map some) (hn : L1.all (fun q => !(q.2.1 == k && q.2.2.1 == i)) = true) (hI : I.all (fun q => !(q.1.contains (k, i))) = true) (hdg : decode cc pc = .ok (.putfield index, 3))
    (kk : ∀ (H1 : Heap) (locs1 : List Loc), (∀ q, q ≠ a → H1[q]? = H[q]?) → jSt (dC, dI) B base G0 G E H0 zc zs ((a, k, i, v) :: L1) M I H1 locs1 → W p l e R s m args below meth c H1 locs1 cells slots Q (F0 m (pc + 3) ls rest)) : W p l e R s m args below meth c H locs cells slots Q (F0 m pc ls (v :: .ref a :: rest)) := by
  obtain ⟨V, ⟨cell, q1, q2, q3, q4⟩, hV⟩ := (hBk _ _ _ _).mp (hh.2.1.1 a k n ha hk (fun h => by cases h))
  obtain ⟨hS, hfc, kC, hkC, hkind⟩ := hK.1 k _ hc
  obtain ⟨cf, kf, fi, f, hfi, hsl⟩ := hS i hi
  have hst := (u_facts hfc hkC (j7_lay hlay) hfi).1
  unfold u_lay at hlay
  rw [if_neg (by rw [hfin]; decide)] at hlay
  have h6 := u_store hfc hkC hkind hlay hfi hd hnar hfit
  refine W.putK hexec hb (f := f) ⟨hown, hlink, ⟨_, _, _, hfi⟩, hst⟩ (by rw [q2]; exact h6) q1 q3 (by rw [hsl]; exact k2_hasslot (q4 i hi)) rfl rfl hdg fun H1 e1 e2 e3 => ?_
  rw [hsl] at e1 ⊢
  refine kk H1 _ e3 (hh.fld hB hAp hBk hc hk ha hi hp hv hE is hs hn hI q1 e1 e2 e3 (jTot_set e2 q1 e1 (jSet_sz _ _ _) e3) (fun q hq => ?_))
  rcases List.mem_append.mp hq with h | h
  · exact hh.1.2.2 q h
  · cases List.mem_singleton.mp h; exact (hh.ab ha).1
end J19
theorem jb_i2c {x z : Int32} (e : z = (x.toUInt32 % 65536).toInt32) (h0 : 0 ≤ x.toInt) (h1 : x.toInt ≤ 255) : z.toInt = x.toInt := by
  rw [e]
  have h := jb_nch h0 h1
  first
    | exact congrArg Int32.toInt (Value.int.inj h)
    | (unfold narrow at h; exact congrArg Int32.toInt (Value.int.inj h))
    | (simp only [narrow] at h; exact congrArg Int32.toInt (Value.int.inj h))
theorem jNm_0 {f : Nat → Int32} {k : Int} (h : jDg f k) : ∀ n : Nat, (n : Int) ≤ k → 0 ≤ jNm f n
  | 0, _ => Int.le_refl 0
  | n + 1, hn => by
    have h1 := jNm_0 h n (by omega)
    have h2 := h (n : Int) (by omega) (by omega)
    have e : jNm f (n + 1) = 10 * jNm f n + ((jCv (f n)).toInt - 48) := rfl
    have e2 : ((n : Int)).toNat = n := by omega
    rw [e2] at h2
    rw [e]
    omega
end
section
def Fz0 (n : Nat) (G : jT) : List (Value → Prop) := [jRk G 198 1000, jI 0 0, jZb, jI 0 1000]
theorem dJ5_length_8abf5_0 : decode cJ5_length_8abf5 0 = .ok (.aload_n 0, 1) := by decide +kernel
theorem dJ5_length_8abf5_1 : decode cJ5_length_8abf5 1 = .ok (.getfield 79, 3) := by decide +kernel
theorem dJ5_length_8abf5_4 : decode cJ5_length_8abf5 4 = .ok (.ireturn, 1) := by decide +kernel
theorem dJ5_charAt_5068e_0 : decode cJ5_charAt_5068e 0 = .ok (.aload_n 0, 1) := by decide +kernel
theorem dJ5_charAt_5068e_1 : decode cJ5_charAt_5068e 1 = .ok (.getfield 22, 3) := by decide +kernel
theorem dJ5_charAt_5068e_4 : decode cJ5_charAt_5068e 4 = .ok (.istore_n 2, 1) := by decide +kernel
theorem dJ5_charAt_5068e_5 : decode cJ5_charAt_5068e 5 = .ok (.aload_n 0, 1) := by decide +kernel
theorem dJ5_charAt_5068e_6 : decode cJ5_charAt_5068e 6 = .ok (.getfield 15, 3) := by decide +kernel
theorem dJ5_charAt_5068e_9 : decode cJ5_charAt_5068e 9 = .ok (.astore_n 3, 1) := by decide +kernel
theorem dJ5_charAt_5068e_10 : decode cJ5_charAt_5068e 10 = .ok (.aload_n 0, 1) := by decide +kernel
theorem dJ5_charAt_5068e_11 : decode cJ5_charAt_5068e 11 = .ok (.getfield 79, 3) := by decide +kernel
theorem dJ5_charAt_5068e_14 : decode cJ5_charAt_5068e 14 = .ok (.aload_n 3, 1) := by decide +kernel
theorem dJ5_charAt_5068e_15 : decode cJ5_charAt_5068e 15 = .ok (.arraylength, 1) := by decide +kernel
theorem dJ5_charAt_5068e_16 : decode cJ5_charAt_5068e 16 = .ok (.iload_n 2, 1) := by decide +kernel
theorem dJ5_charAt_5068e_17 : decode cJ5_charAt_5068e 17 = .ok (.ishr, 1) := by decide +kernel
theorem dJ5_charAt_5068e_18 : decode cJ5_charAt_5068e 18 = .ok (.invokestatic 138, 3) := by decide +kernel
theorem dJ5_charAt_5068e_21 : decode cJ5_charAt_5068e 21 = .ok (.istore 4, 2) := by decide +kernel
theorem dJ5_charAt_5068e_23 : decode cJ5_charAt_5068e 23 = .ok (.iload_n 1, 1) := by decide +kernel
theorem dJ5_charAt_5068e_24 : decode cJ5_charAt_5068e 24 = .ok (.iload 4, 2) := by decide +kernel
theorem dJ5_charAt_5068e_26 : decode cJ5_charAt_5068e 26 = .ok (.invokestatic 144, 3) := by decide +kernel
theorem dJ5_charAt_5068e_29 : decode cJ5_charAt_5068e 29 = .ok (.iload_n 2, 1) := by decide +kernel
theorem dJ5_charAt_5068e_30 : decode cJ5_charAt_5068e 30 = .ok (.ifCond .ne 12, 3) := by decide +kernel
theorem dJ5_charAt_5068e_33 : decode cJ5_charAt_5068e 33 = .ok (.aload_n 3, 1) := by decide +kernel
theorem dJ5_charAt_5068e_34 : decode cJ5_charAt_5068e 34 = .ok (.iload_n 1, 1) := by decide +kernel
theorem dJ5_charAt_5068e_35 : decode cJ5_charAt_5068e 35 = .ok (.baload, 1) := by decide +kernel
theorem dJ5_charAt_5068e_36 : decode cJ5_charAt_5068e 36 = .ok (.sipush 255, 3) := by decide +kernel
theorem dJ5_charAt_5068e_39 : decode cJ5_charAt_5068e 39 = .ok (.iand, 1) := by decide +kernel
theorem dJ5_charAt_5068e_40 : decode cJ5_charAt_5068e 40 = .ok (.i2c, 1) := by decide +kernel
theorem dJ5_charAt_5068e_41 : decode cJ5_charAt_5068e 41 = .ok (.ireturn, 1) := by decide +kernel
theorem dJ4_charAt_5068e_0 : decode cJ4_charAt_5068e 0 = .ok (.aload_n 0, 1) := by decide +kernel
theorem dJ4_charAt_5068e_1 : decode cJ4_charAt_5068e 1 = .ok (.iload_n 1, 1) := by decide +kernel
theorem dJ4_charAt_5068e_2 : decode cJ4_charAt_5068e 2 = .ok (.invokespecial 329, 3) := by decide +kernel
theorem dJ4_charAt_5068e_5 : decode cJ4_charAt_5068e 5 = .ok (.ireturn, 1) := by decide +kernel
theorem dJ4_length_8abf5_0 : decode cJ4_length_8abf5 0 = .ok (.aload_n 0, 1) := by decide +kernel
theorem dJ4_length_8abf5_1 : decode cJ4_length_8abf5 1 = .ok (.invokespecial 343, 3) := by decide +kernel
theorem dJ4_length_8abf5_4 : decode cJ4_length_8abf5 4 = .ok (.ireturn, 1) := by decide +kernel
def EJ5_length_8abf5 : List (Nat × Nat) := []
def EJ4_length_8abf5 : List (Nat × Nat) := []
def EJ5_charAt_5068e : List (Nat × Nat) := []
def EJ4_charAt_5068e : List (Nat × Nat) := []
set_option maxHeartbeats 4000000 in
set_option maxRecDepth 20000 in
theorem uJ5_length_8abf5 (l : Launch) (dC : Nat → ClassId) (dI : Nat → Nat → Nat) (ca : Nat → ClassId) (base : Nat) (B : jF) (hB : jBok B) (hAp : jAp (dC, dI)) (hB0 : ∀ n G a H, B 0 n G a H ↔ jOb (dC, dI) 0 4 (Fz0 n G) a H) (G0 : jT) (H0 : Heap) (r0 : Nat) (pc : Int32) : Met l yJ5_length_8abf5 (jw yJ5_length_8abf5 cJ5_length_8abf5 1 (some .int)) ({ frames := 0, cells := 0, slots := 0, locals := 0 }) (va_Pc [.ref r0] (fun U => U.heap = H0 ∧ jX B base G0 [] H0 ∧ jG dC dI ca base U ∧ G0 r0 = some (0, 0) ∧ jP (dC, dI) G0 H0 [(r0, 0, 3, .int pc)] ∧ True)) (va_Qi (S := Unit) (fun r u => (r.toInt = pc.toInt)) (fun u t => jRt (dC, dI) B base G0 EJ5_length_8abf5 H0 [] t.heap) (jA base)) 0 0 (jA base) := by
  refine Met.ofW (cc := cJ5_length_8abf5) (maxL := 1) (ret := (some .int)) (by decide) rfl ?_
  intro p e s m args below meth c s₁ Bd hml hv
  obtain ⟨rfl, hH0, hX, hG, hg_r0, hP0, hp0⟩ := hv
  have hK := hG.1
  have hx := Bd.exec
  have hb := Bd.bytes
  have hr := Bd.returns
  have hts := atoms_spec (ws := (jw yJ5_length_8abf5 cJ5_length_8abf5 1 (some .int))) Bd.pre
  have htw : ∀ w ∈ jWl, w.before _ s = true := fun w h => hts w (List.mem_cons_of_mem _ h)
  have hown : s.vm.findClass RJ5 = some m.cls := findClass_of_methodNamed Bd.named
  have hlocks := Bd.notSynchronized
  obtain ⟨Q, hQ⟩ : ∃ Q, Q = MQ below (va_Qi (S := Unit) (fun r u => (r.toInt = pc.toInt)) (fun u t => jRt (dC, dI) B base G0 EJ5_length_8abf5 H0 [] t.heap) (jA base)) ([.ref r0] : List Value).toArray s 0 0 (jA base) := ⟨_, rfl⟩
  rw [← hQ]
  have hl := lv_entry ([.ref r0]) (n := 1) (Nat.le_of_ble_eq_true rfl)
  rw [lg_entry_eq]
  generalize (lg_sl ([.ref r0]) ++ List.replicate (1 - (lg_sl ([.ref r0])).length) Slot.unset).toArray = ls at hl ⊢
  have hl : lv_has ls 1 [(0, .ref r0)] := hl
  generalize hR : (headSpec (jw yJ5_length_8abf5 cJ5_length_8abf5 1 (some .int)) ({ frames := 0, cells := 0, slots := 0, locals := 0 })).room = R
  subst hH0
  have hh : jSt (dC, dI) B base G0 G0 EJ5_length_8abf5 s.heap 0 0 [(r0, 0, 3, .int pc)] [] [] s.heap [] := jSt.start hX hP0 jMc.nil jIs.nil
  clear hX hP0
  have hk0 : (0 : Int32).toInt = 0 := by decide
  have hk1 : (1 : Int32).toInt = 1 := by decide
  have hly_0_3 := htw (u_lay RJ4 TJ4 3) (jWc_wsJ40 _ (u_in_lay (by decide)))
  have hlk_79 := (htw (.fieldLink RJ5 79 "java/lang/AbstractStringBuilder" "count" "I") (jWr_45 _ (List.mem_of_getElem? (i := 9) rfl)))
  refine lv_aload_n hx hb dJ5_length_8abf5_0 rfl (lv_at hl 0 rfl) ?_
  refine j7_read hx hb hown hK (C := RJ4) (T := TJ4) (N := 4) rfl hly_0_3 hlk_79 (hh.at 0 rfl) dJ5_length_8abf5_1 ?_
  rw [hQ]
  exact W.iret (v := pc) hx hb hr (fun t ht hW => ⟨⟨pc, (), rfl, by first | omega | rfl | assumption | decide | exact Or.inl rfl | exact Or.inr rfl | (simp only; omega), hh.rt (M1 := []) [] rfl ht⟩, by rw [ht]; try exact hh.1.1, fun q h9 hq => by rw [ht]; try exact hh.1.2.1 q h9 hq⟩) hh.1.2.2 dJ5_length_8abf5_4
set_option maxHeartbeats 4000000 in
set_option maxRecDepth 20000 in
theorem uJ4_length_8abf5 (l : Launch) (dC : Nat → ClassId) (dI : Nat → Nat → Nat) (ca : Nat → ClassId) (base : Nat) (B : jF) (hB : jBok B) (hAp : jAp (dC, dI)) (hB0 : ∀ n G a H, B 0 n G a H ↔ jOb (dC, dI) 0 4 (Fz0 n G) a H) (G0 : jT) (H0 : Heap) (r0 : Nat) (pc : Int32) : Met l yJ4_length_8abf5 (jw yJ4_length_8abf5 cJ4_length_8abf5 1 (some .int)) ({ frames := 1, cells := 0, slots := 0, locals := 20 }) (va_Pc [.ref r0] (fun U => U.heap = H0 ∧ jX B base G0 [] H0 ∧ jG dC dI ca base U ∧ G0 r0 = some (0, 0) ∧ jP (dC, dI) G0 H0 [(r0, 0, 3, .int pc)] ∧ True)) (va_Qi (S := Unit) (fun r u => (r.toInt = pc.toInt)) (fun u t => jRt (dC, dI) B base G0 EJ4_length_8abf5 H0 [] t.heap) (jA base)) 0 0 (jA base) := by
  refine Met.ofW (cc := cJ4_length_8abf5) (maxL := 1) (ret := (some .int)) (by decide) rfl ?_
  intro p e s m args below meth c s₁ Bd hml hv
  obtain ⟨rfl, hH0, hX, hG, hg_r0, hP0, hp0⟩ := hv
  have hK := hG.1
  have hx := Bd.exec
  have hb := Bd.bytes
  have hr := Bd.returns
  have hts := atoms_spec (ws := (jw yJ4_length_8abf5 cJ4_length_8abf5 1 (some .int))) Bd.pre
  have htw : ∀ w ∈ jWl, w.before _ s = true := fun w h => hts w (List.mem_cons_of_mem _ h)
  have hown : s.vm.findClass RJ4 = some m.cls := findClass_of_methodNamed Bd.named
  have hlocks := Bd.notSynchronized
  obtain ⟨Q, hQ⟩ : ∃ Q, Q = MQ below (va_Qi (S := Unit) (fun r u => (r.toInt = pc.toInt)) (fun u t => jRt (dC, dI) B base G0 EJ4_length_8abf5 H0 [] t.heap) (jA base)) ([.ref r0] : List Value).toArray s 0 0 (jA base) := ⟨_, rfl⟩
  rw [← hQ]
  have hl := lv_entry ([.ref r0]) (n := 1) (Nat.le_of_ble_eq_true rfl)
  rw [lg_entry_eq]
  generalize (lg_sl ([.ref r0]) ++ List.replicate (1 - (lg_sl ([.ref r0])).length) Slot.unset).toArray = ls at hl ⊢
  have hl : lv_has ls 1 [(0, .ref r0)] := hl
  generalize hR : (headSpec (jw yJ4_length_8abf5 cJ4_length_8abf5 1 (some .int)) ({ frames := 1, cells := 0, slots := 0, locals := 20 })).room = R
  subst hH0
  have hh : jSt (dC, dI) B base G0 G0 EJ4_length_8abf5 s.heap 0 0 [(r0, 0, 3, .int pc)] [] [] s.heap [] := jSt.start hX hP0 jMc.nil jIs.nil
  clear hX hP0
  have hk0 : (0 : Int32).toInt = 0 := by decide
  have hk1 : (1 : Int32).toInt = 1 := by decide
  refine lv_aload_n hx hb dJ4_length_8abf5_0 rfl (lv_at hl 0 rfl) ?_
  refine va_calli (A0 := jA base) (H0 := s.heap) (va_runSU (hK.1 0 _ rfl).2 (As := []) (rest := []) ⟨hx, hb, hml, hown, hts⟩ (uJ5_length_8abf5 l dC dI ca base B hB hAp hB0 G0 s.heap r0 pc) (va_cwSU 0 hts (jgU (jWr_48 _ (List.mem_of_getElem? (i := 21) rfl)) (jWr_48 _ (List.mem_of_getElem? (i := 22) rfl)) (jWr_45 _ (List.mem_of_getElem? (i := 6) rfl)) (jWr_48 _ (List.mem_of_getElem? (i := 23) rfl)) (jWr_13 _ (List.mem_of_getElem? (i := 7) rfl)) (jWr_49 _ (List.mem_of_getElem? (i := 0) rfl))) rfl rfl rfl (by decide +kernel) ⟨by rw [← hR]; exact Nat.le_of_ble_eq_true rfl, by rw [← hR]; exact Nat.le_of_ble_eq_true rfl⟩) ⟨fun a U g mk q => by obtain ⟨q0, q1, q2, qK, q10, q11, q12⟩ := q; exact ⟨q0, q1, q2, jG.calling g mk a qK, q10, q11, q12⟩, hh.recv (C := RJ4) (T := TJ4) (N := 4) hB0 rfl (by decide) hg_r0 hK, fun U hU hW => ⟨rfl, hU, hh.2.1, hG.step hW hU hh.1, hg_r0, (hh.2.2.1.sub (L1 := [(r0, 0, 3, .int pc)]) [0] rfl), trivial⟩⟩ rfl rfl hl.1 rfl (lv_room (Nat.le_of_ble_eq_true rfl)) dJ4_length_8abf5_1 ⟨Nat.zero_le _, Nat.zero_le _⟩) hh.1 (fun q _ h => h) (fun q h => h) (fun r_2 u_1 t_1 H_1 locs_1 ht_1 hvm_1 hr_2 hb_1 hz_1 hk_1 hS_1 => ?_)
  rw [ht_1] at hb_1
  obtain ⟨hb_11, hb_12, hb_13, hb_14, hb_15⟩ := hb_1
  have hh_1 : jSt (dC, dI) B base G0 G0 EJ4_length_8abf5 s.heap 0 0 [(r0, 0, 3, .int pc)] [] [] H_1 locs_1 := ((hh.call hb_11 hb_12 hb_13 hb_14 hS_1 rfl (L1 := [(r0, 0, 3, .int pc)]) [0] rfl rfl (M1 := []) [] rfl rfl (I1 := []) [] rfl rfl).more hb_15)
  clear hh ht_1 hvm_1 hz_1 hk_1 hS_1 hb_11 hb_12 hb_13 hb_14 hb_15
  rw [hQ]
  exact W.iret (v := r_2) hx hb hr (fun t ht hW => ⟨⟨r_2, (), rfl, by first | omega | rfl | assumption | decide | exact Or.inl rfl | exact Or.inr rfl | (simp only; omega), hh_1.rt (M1 := []) [] rfl ht⟩, by rw [ht]; try exact hh_1.1.1, fun q h9 hq => by rw [ht]; try exact hh_1.1.2.1 q h9 hq⟩) hh_1.1.2.2 dJ4_length_8abf5_4
set_option maxHeartbeats 4000000 in
set_option maxRecDepth 20000 in
theorem uJ5_charAt_5068e (l : Launch) (dC : Nat → ClassId) (dI : Nat → Nat → Nat) (ca : Nat → ClassId) (base : Nat) (B : jF) (hB : jBok B) (hAp : jAp (dC, dI)) (hB0 : ∀ n G a H, B 0 n G a H ↔ jOb (dC, dI) 0 4 (Fz0 n G) a H) (hB198 : ∀ n G a H, B 198 n G a H ↔ jAr (dC, dI) (ca 0) (fun j z => jBf j z) n a H) (G0 : jT) (H0 : Heap) (r0 : Nat) (a1 : Int32) (pc : Int32) (pa : Nat) (n_pa : Nat) (fv : Nat → Int32) : Met l yJ5_charAt_5068e (jw yJ5_charAt_5068e cJ5_charAt_5068e 5 (some .char)) ({ frames := 2, cells := 0, slots := 0, locals := 61 }) (va_Pc [.ref r0, .int a1] (fun U => U.heap = H0 ∧ jX B base G0 [] H0 ∧ jG dC dI ca base U ∧ G0 r0 = some (0, 0) ∧ G0 pa = some (198, n_pa) ∧ jP (dC, dI) G0 H0 [(r0, 0, 3, .int pc), (r0, 0, 0, .ref pa)] ∧ jMc (dC, dI) G0 H0 [(pa, 198, n_pa, ca 0, fv)] ∧ 0 ≤ a1.toInt ∧ a1.toInt < pc.toInt ∧ pc.toInt ≤ n_pa ∧ n_pa ≤ 1000)) (va_Qi (S := Unit) (fun r u => (0 ≤ r.toInt ∧ r.toInt ≤ 255 ∧ r.toInt = (jCv (fv (a1.toInt).toNat)).toInt)) (fun u t => jRt (dC, dI) B base G0 EJ5_charAt_5068e H0 [] t.heap) (jA base)) 0 0 (jA base) := by
  refine Met.ofW (cc := cJ5_charAt_5068e) (maxL := 5) (ret := (some .char)) (by decide) rfl ?_
  intro p e s m args below meth c s₁ Bd hml hv
  obtain ⟨rfl, hH0, hX, hG, hg_r0, hg_pa, hP0, hM0, hp0, hp1, hp2, hp3⟩ := hv
  have hK := hG.1
  have hx := Bd.exec
  have hb := Bd.bytes
  have hr := Bd.returns
  have hts := atoms_spec (ws := (jw yJ5_charAt_5068e cJ5_charAt_5068e 5 (some .char))) Bd.pre
  have htw : ∀ w ∈ jWl, w.before _ s = true := fun w h => hts w (List.mem_cons_of_mem _ h)
  have hown : s.vm.findClass RJ5 = some m.cls := findClass_of_methodNamed Bd.named
  have hlocks := Bd.notSynchronized
  obtain ⟨Q, hQ⟩ : ∃ Q, Q = MQ below (va_Qi (S := Unit) (fun r u => (0 ≤ r.toInt ∧ r.toInt ≤ 255 ∧ r.toInt = (jCv (fv (a1.toInt).toNat)).toInt)) (fun u t => jRt (dC, dI) B base G0 EJ5_charAt_5068e H0 [] t.heap) (jA base)) ([.ref r0, .int a1] : List Value).toArray s 0 0 (jA base) := ⟨_, rfl⟩
  rw [← hQ]
  have hl := lv_entry ([.ref r0, .int a1]) (n := 5) (Nat.le_of_ble_eq_true rfl)
  rw [lg_entry_eq]
  generalize (lg_sl ([.ref r0, .int a1]) ++ List.replicate (5 - (lg_sl ([.ref r0, .int a1])).length) Slot.unset).toArray = ls at hl ⊢
  have hl : lv_has ls 5 [(0, .ref r0), (1, .int a1)] := hl
  generalize hR : (headSpec (jw yJ5_charAt_5068e cJ5_charAt_5068e 5 (some .char)) ({ frames := 2, cells := 0, slots := 0, locals := 61 })).room = R
  subst hH0
  have hh : jSt (dC, dI) B base G0 G0 EJ5_charAt_5068e s.heap 0 0 [(r0, 0, 3, .int pc), (r0, 0, 0, .ref pa)] [(pa, 198, n_pa, ca 0, fv)] [] s.heap [] := jSt.start hX hP0 hM0 jIs.nil
  clear hX hP0
  have hk0 : (0 : Int32).toInt = 0 := by decide
  have hk1 : (1 : Int32).toInt = 1 := by decide
  have hk255 : (255 : Int32).toInt = 255 := by decide
  have hly_0_0 := htw (u_lay RJ4 TJ4 0) (jWc_wsJ40 _ (u_in_lay (by decide)))
  have hly_0_1 := htw (u_lay RJ4 TJ4 1) (jWc_wsJ40 _ (u_in_lay (by decide)))
  have hly_0_3 := htw (u_lay RJ4 TJ4 3) (jWc_wsJ40 _ (u_in_lay (by decide)))
  have hlk_22 := (htw (.fieldLink RJ5 22 "java/lang/AbstractStringBuilder" "coder" "B") (jWr_13 _ (List.mem_of_getElem? (i := 12) rfl)))
  have hlk_15 := (htw (.fieldLink RJ5 15 "java/lang/AbstractStringBuilder" "value" "[B") (jWr_13 _ (List.mem_of_getElem? (i := 11) rfl)))
  have hlk_79 := (htw (.fieldLink RJ5 79 "java/lang/AbstractStringBuilder" "count" "I") (jWr_45 _ (List.mem_of_getElem? (i := 9) rfl)))
  have hrg_a1 := jb_rng a1
  refine lv_aload_n hx hb dJ5_charAt_5068e_0 rfl (lv_at hl 0 rfl) ?_
  obtain ⟨v_1, hv_1, hh_2⟩ := hh.pin (C := RJ4) (T := TJ4) (N := 4) hB0 rfl (by decide) hg_r0 (i := 1) (by decide) rfl
  clear hh
  obtain ⟨coder_3, rfl, hlocoder_3, hhicoder_3⟩ := hv_1
  obtain rfl : coder_3 = 0 := Int32.toInt_inj.mp (by rw [show (0 : Int32).toInt = 0 by decide]; omega)
  refine j7_read hx hb hown hK (C := RJ4) (T := TJ4) (N := 4) rfl hly_0_1 hlk_22 (hh_2.at 0 rfl) dJ5_charAt_5068e_1 ?_
  refine lv_istore_n (lv' := [(2, .int 0), (0, .ref r0), (1, .int a1)]) hx hb dJ5_charAt_5068e_4 rfl hl (by decide) rfl (fun ls hl => ?_)
  refine lv_aload_n hx hb dJ5_charAt_5068e_5 rfl (lv_at hl 1 rfl) ?_
  refine j7_read hx hb hown hK (C := RJ4) (T := TJ4) (N := 4) rfl hly_0_0 hlk_15 (hh_2.at 2 rfl) dJ5_charAt_5068e_6 ?_
  refine lv_astore_n (lv' := [(3, .ref pa), (2, .int 0), (0, .ref r0), (1, .int a1)]) hx hb dJ5_charAt_5068e_9 rfl hl (by decide) rfl (fun ls hl => ?_)
  refine lv_aload_n hx hb dJ5_charAt_5068e_10 rfl (lv_at hl 2 rfl) ?_
  refine j7_read hx hb hown hK (C := RJ4) (T := TJ4) (N := 4) rfl hly_0_3 hlk_79 (hh_2.at 1 rfl) dJ5_charAt_5068e_11 ?_
  refine lv_aload_n hx hb dJ5_charAt_5068e_14 rfl (lv_at hl 0 rfl) ?_
  refine j7_len hx hb hK hh_2 hB198 0 rfl (by decide) hg_pa (by omega) dJ5_charAt_5068e_15 (fun z_4 hz_4 => ?_)
  refine lv_iload_n hx hb dJ5_charAt_5068e_16 rfl (lv_at hl 1 rfl) ?_
  refine lv_ishr hx hb dJ5_charAt_5068e_17 ?_
  refine lv_topi (fun z_5 ez_5 => ?_)
  have hz_5 : z_5.toInt = z_4.toInt / 2 ^ 0 := by rw [ez_5]; exact jb_ishr 0 (rfl) (by decide)
  refine va_mmin hx hb (by rw [hml]; exact hl.1.symm) hown (htw (.methodLink RJ5 138 Lib.Math.min.name) (jWr_49 _ (List.mem_of_getElem? (i := 10) rfl))) (htw (.static Lib.Math.min.name) (jWr_16 _ (List.mem_of_getElem? (i := 16) rfl))) (htw (.initialized "java/lang/Math") (jWr_3 _ (List.mem_of_getElem? (i := 7) rfl))) (htw (.code Lib.Math.min.name Lib.Math.min.code 2 (some .int)) (jWr_16 _ (List.mem_of_getElem? (i := 17) rfl))) (by rw [← hR]; exact Nat.le_of_ble_eq_true rfl) (by rw [← hR]; exact Nat.le_of_ble_eq_true rfl) (Nat.zero_le _) (Nat.zero_le _) dJ5_charAt_5068e_18 ?_
  refine lv_topi (fun z_6 ez_6 => ?_)
  have hz_6 := jb_min ez_6
  refine lv_istore (lv' := [(4, .int z_6), (3, .ref pa), (2, .int 0), (0, .ref r0), (1, .int a1)]) hx hb dJ5_charAt_5068e_21 hl (by decide) rfl (fun ls hl => ?_)
  refine lv_iload_n hx hb dJ5_charAt_5068e_23 rfl (lv_at hl 4 rfl) ?_
  refine lv_iload hx hb dJ5_charAt_5068e_24 (lv_at hl 0 rfl) ?_
  refine va_csv (W.runS (As := [.int a1, .int z_6]) (rest := []) ⟨hx, hb, hml, hown, hts⟩ (wJ0_checkIndex_df160 l dC dI ca base s.heap a1 z_6) (va_cwS 2 hts (jgS (jWr_49 _ (List.mem_of_getElem? (i := 11) rfl)) (jWr_6 _ (List.mem_of_getElem? (i := 13) rfl)) (jWr_5 _ (List.mem_of_getElem? (i := 15) rfl)) (jWr_6 _ (List.mem_of_getElem? (i := 14) rfl))) rfl rfl rfl (by decide +kernel) ⟨by rw [← hR]; exact Nat.le_of_ble_eq_true rfl, by rw [← hR]; exact Nat.le_of_ble_eq_true rfl⟩) ⟨fun a U g mk q => by obtain ⟨q0, q1, qK, q9⟩ := q; exact ⟨q0, q1, jG.calling g mk a qK, q9⟩, fun U hU hW => ⟨rfl, hU, hG.step hW hU hh_2.1, by first | trivial | omega | (constructor <;> omega)⟩⟩ rfl rfl hl.1 rfl (lv_room (Nat.le_of_ble_eq_true rfl)) dJ5_charAt_5068e_26 ⟨Nat.zero_le _, Nat.zero_le _⟩) (fun _ => ?_)
  refine lv_iload_n hx hb dJ5_charAt_5068e_29 rfl (lv_at hl 2 rfl) ?_
  refine lv_if_ne (tgt := 42) hx hb dJ5_charAt_5068e_30 (by decide) (fun c_8 => ?_) (fun c_8 => ?_)
  · skip
    exact absurd c_8 (by decide)
  · skip
    refine lv_aload_n hx hb dJ5_charAt_5068e_33 rfl (lv_at hl 1 rfl) ?_
    refine lv_iload_n hx hb dJ5_charAt_5068e_34 rfl (lv_at hl 4 rfl) ?_
    refine j7_baldM hx hb hK hh_2 hB198 0 rfl (by decide) hg_pa (x := a1.toInt) (rfl) (by omega) (j := 0) rfl dJ5_charAt_5068e_35 (fun z_9 ez_9 (hz_9 : jBf (a1.toInt).toNat z_9) => ?_)
    have hqz_9 : z_9.toInt = jSo fv (a1.toInt) := by unfold jSo; rw [ez_9]
    refine lv_sipush (v := 255) hx hb dJ5_charAt_5068e_36 (by decide) ?_
    refine lv_iand hx hb dJ5_charAt_5068e_39 ?_
    refine lv_topi (fun z_10 ez_10 => ?_)
    have hz_10 : 0 ≤ z_10.toInt ∧ z_10.toInt ≤ 255 := by rw [ez_10]; exact jb_and z_9 (m := 255) (k := 8) (by decide) (by decide)
    refine lv_i2c hx hb dJ5_charAt_5068e_40 rfl ?_
    refine lv_topi (fun z_11 ez_11 => ?_)
    rw [hQ]
    exact W.zret (v := z_11) hx hb hr (by rw [ez_11]; exact pk_nc _) (fun t ht hW => ⟨⟨z_11, (), rfl, by have h9 : z_11 = jCv (fv a1.toInt.toNat) := (by have h8 := hqz_9; unfold jSo at h8; rw [ez_11, ez_10, Int32.toInt_inj.mp h8]; rfl); rw [h9]; exact ⟨(jb_char _).1, (jb_char _).2, rfl⟩, hh_2.rt (M1 := []) [] rfl ht⟩, by rw [ht]; try exact hh_2.1.1, fun q h9 hq => by rw [ht]; try exact hh_2.1.2.1 q h9 hq⟩) hh_2.1.2.2 dJ5_charAt_5068e_41
set_option maxHeartbeats 4000000 in
set_option maxRecDepth 20000 in
theorem uJ4_charAt_5068e (l : Launch) (dC : Nat → ClassId) (dI : Nat → Nat → Nat) (ca : Nat → ClassId) (base : Nat) (B : jF) (hB : jBok B) (hAp : jAp (dC, dI)) (hB0 : ∀ n G a H, B 0 n G a H ↔ jOb (dC, dI) 0 4 (Fz0 n G) a H) (hB198 : ∀ n G a H, B 198 n G a H ↔ jAr (dC, dI) (ca 0) (fun j z => jBf j z) n a H) (G0 : jT) (H0 : Heap) (r0 : Nat) (a1 : Int32) (pc : Int32) (pa : Nat) (n_pa : Nat) (fv : Nat → Int32) : Met l yJ4_charAt_5068e (jw yJ4_charAt_5068e cJ4_charAt_5068e 2 (some .char)) ({ frames := 3, cells := 0, slots := 0, locals := 85 }) (va_Pc [.ref r0, .int a1] (fun U => U.heap = H0 ∧ jX B base G0 [] H0 ∧ jG dC dI ca base U ∧ G0 r0 = some (0, 0) ∧ G0 pa = some (198, n_pa) ∧ jP (dC, dI) G0 H0 [(r0, 0, 3, .int pc), (r0, 0, 0, .ref pa)] ∧ jMc (dC, dI) G0 H0 [(pa, 198, n_pa, ca 0, fv)] ∧ 0 ≤ a1.toInt ∧ a1.toInt < pc.toInt ∧ pc.toInt ≤ n_pa ∧ n_pa ≤ 1000)) (va_Qi (S := Unit) (fun r u => (0 ≤ r.toInt ∧ r.toInt ≤ 255 ∧ r.toInt = (jCv (fv (a1.toInt).toNat)).toInt)) (fun u t => jRt (dC, dI) B base G0 EJ4_charAt_5068e H0 [] t.heap) (jA base)) 0 0 (jA base) := by
  refine Met.ofW (cc := cJ4_charAt_5068e) (maxL := 2) (ret := (some .char)) (by decide) rfl ?_
  intro p e s m args below meth c s₁ Bd hml hv
  obtain ⟨rfl, hH0, hX, hG, hg_r0, hg_pa, hP0, hM0, hp0, hp1, hp2, hp3⟩ := hv
  have hK := hG.1
  have hx := Bd.exec
  have hb := Bd.bytes
  have hr := Bd.returns
  have hts := atoms_spec (ws := (jw yJ4_charAt_5068e cJ4_charAt_5068e 2 (some .char))) Bd.pre
  have htw : ∀ w ∈ jWl, w.before _ s = true := fun w h => hts w (List.mem_cons_of_mem _ h)
  have hown : s.vm.findClass RJ4 = some m.cls := findClass_of_methodNamed Bd.named
  have hlocks := Bd.notSynchronized
  obtain ⟨Q, hQ⟩ : ∃ Q, Q = MQ below (va_Qi (S := Unit) (fun r u => (0 ≤ r.toInt ∧ r.toInt ≤ 255 ∧ r.toInt = (jCv (fv (a1.toInt).toNat)).toInt)) (fun u t => jRt (dC, dI) B base G0 EJ4_charAt_5068e H0 [] t.heap) (jA base)) ([.ref r0, .int a1] : List Value).toArray s 0 0 (jA base) := ⟨_, rfl⟩
  rw [← hQ]
  have hl := lv_entry ([.ref r0, .int a1]) (n := 2) (Nat.le_of_ble_eq_true rfl)
  rw [lg_entry_eq]
  generalize (lg_sl ([.ref r0, .int a1]) ++ List.replicate (2 - (lg_sl ([.ref r0, .int a1])).length) Slot.unset).toArray = ls at hl ⊢
  have hl : lv_has ls 2 [(0, .ref r0), (1, .int a1)] := hl
  generalize hR : (headSpec (jw yJ4_charAt_5068e cJ4_charAt_5068e 2 (some .char)) ({ frames := 3, cells := 0, slots := 0, locals := 85 })).room = R
  subst hH0
  have hh : jSt (dC, dI) B base G0 G0 EJ4_charAt_5068e s.heap 0 0 [(r0, 0, 3, .int pc), (r0, 0, 0, .ref pa)] [(pa, 198, n_pa, ca 0, fv)] [] s.heap [] := jSt.start hX hP0 hM0 jIs.nil
  clear hX hP0
  have hk0 : (0 : Int32).toInt = 0 := by decide
  have hk1 : (1 : Int32).toInt = 1 := by decide
  have hrg_a1 := jb_rng a1
  refine lv_aload_n hx hb dJ4_charAt_5068e_0 rfl (lv_at hl 0 rfl) ?_
  refine lv_iload_n hx hb dJ4_charAt_5068e_1 rfl (lv_at hl 1 rfl) ?_
  refine va_calli (A0 := jA base) (H0 := s.heap) (va_runSU (hK.1 0 _ rfl).2 (As := [.int a1]) (rest := []) ⟨hx, hb, hml, hown, hts⟩ (uJ5_charAt_5068e l dC dI ca base B hB hAp hB0 hB198 G0 s.heap r0 a1 pc pa n_pa fv) (va_cwSU 1 hts (jgU (jWr_49 _ (List.mem_of_getElem? (i := 6) rfl)) (jWr_49 _ (List.mem_of_getElem? (i := 7) rfl)) (jWr_45 _ (List.mem_of_getElem? (i := 6) rfl)) (jWr_49 _ (List.mem_of_getElem? (i := 8) rfl)) (jWr_13 _ (List.mem_of_getElem? (i := 7) rfl)) (jWr_49 _ (List.mem_of_getElem? (i := 9) rfl))) rfl rfl rfl (by decide +kernel) ⟨by rw [← hR]; exact Nat.le_of_ble_eq_true rfl, by rw [← hR]; exact Nat.le_of_ble_eq_true rfl⟩) ⟨fun a U g mk q => by obtain ⟨q0, q1, q2, qK, q10, q11, q12, q13, q14⟩ := q; exact ⟨q0, q1, q2, jG.calling g mk a qK, q10, q11, q12, q13, q14⟩, hh.recv (C := RJ4) (T := TJ4) (N := 4) hB0 rfl (by decide) hg_r0 hK, fun U hU hW => ⟨rfl, hU, hh.2.1, hG.step hW hU hh.1, hg_r0, hg_pa, (hh.2.2.1.sub (L1 := [(r0, 0, 3, .int pc), (r0, 0, 0, .ref pa)]) [0, 1] rfl), (hh.2.2.2.2.2.2.2.1.sub (L1 := [(pa, 198, n_pa, ca 0, fv)]) [0] rfl), by first | omega | (refine ⟨?_, ?_, ?_, ?_⟩ <;> (first | omega | rfl | assumption | decide | exact Or.inl rfl | exact Or.inr rfl | (simp only; omega)))⟩⟩ rfl rfl hl.1 rfl (lv_room (Nat.le_of_ble_eq_true rfl)) dJ4_charAt_5068e_2 ⟨Nat.zero_le _, Nat.zero_le _⟩) hh.1 (fun q _ h => h) (fun q h => h) (fun r_2 u_1 t_1 H_1 locs_1 ht_1 hvm_1 hr_2 hb_1 hz_1 hk_1 hS_1 => ?_)
  rw [ht_1] at hb_1
  obtain ⟨hb_11, hb_12, hb_13, hb_14, hb_15⟩ := hb_1
  have hh_1 : jSt (dC, dI) B base G0 G0 EJ4_charAt_5068e s.heap 0 0 [(r0, 0, 3, .int pc), (r0, 0, 0, .ref pa)] [(pa, 198, n_pa, ca 0, fv)] [] H_1 locs_1 := ((hh.call hb_11 hb_12 hb_13 hb_14 hS_1 rfl (L1 := [(r0, 0, 3, .int pc), (r0, 0, 0, .ref pa)]) [0, 1] rfl rfl (M1 := [(pa, 198, n_pa, ca 0, fv)]) [0] rfl rfl (I1 := []) [] rfl rfl).more hb_15)
  clear hh ht_1 hvm_1 hz_1 hk_1 hS_1 hb_11 hb_12 hb_13 hb_14 hb_15
  obtain ⟨hr_2_0, hr_2_1, hr_2_2⟩ := hr_2
  rw [hQ]
  exact W.zret (v := r_2) hx hb hr (jb_nch (by omega) (by omega)) (fun t ht hW => ⟨⟨r_2, (), rfl, by first | omega | (refine ⟨?_, ?_, ?_⟩ <;> (first | omega | rfl | assumption | decide | exact Or.inl rfl | exact Or.inr rfl | (simp only; omega))), hh_1.rt (M1 := []) [] rfl ht⟩, by rw [ht]; try exact hh_1.1.1, fun q h9 hq => by rw [ht]; try exact hh_1.1.2.1 q h9 hq⟩) hh_1.1.2.2 dJ4_charAt_5068e_5
end
section
theorem dX14_isContentLength_0 : decode cX14_isContentLength 0 = .ok (.ldc 220, 2) := by decide +kernel
theorem dX14_isContentLength_2 : decode cX14_isContentLength 2 = .ok (.astore_n 1, 1) := by decide +kernel
theorem dX14_isContentLength_3 : decode cX14_isContentLength 3 = .ok (.aload_n 0, 1) := by decide +kernel
theorem dX14_isContentLength_4 : decode cX14_isContentLength 4 = .ok (.getfield 26, 3) := by decide +kernel
theorem dX14_isContentLength_7 : decode cX14_isContentLength 7 = .ok (.invokevirtual 222, 3) := by decide +kernel
theorem dX14_isContentLength_10 : decode cX14_isContentLength 10 = .ok (.aload_n 1, 1) := by decide +kernel
theorem dX14_isContentLength_11 : decode cX14_isContentLength 11 = .ok (.invokevirtual 163, 3) := by decide +kernel
theorem dX14_isContentLength_14 : decode cX14_isContentLength 14 = .ok (.if_icmp .eq 5, 3) := by decide +kernel
theorem dX14_isContentLength_17 : decode cX14_isContentLength 17 = .ok (.iconst 0, 1) := by decide +kernel
theorem dX14_isContentLength_18 : decode cX14_isContentLength 18 = .ok (.ireturn, 1) := by decide +kernel
theorem dX14_isContentLength_19 : decode cX14_isContentLength 19 = .ok (.iconst 0, 1) := by decide +kernel
theorem dX14_isContentLength_20 : decode cX14_isContentLength 20 = .ok (.istore_n 2, 1) := by decide +kernel
theorem dX14_isContentLength_21 : decode cX14_isContentLength 21 = .ok (.iload_n 2, 1) := by decide +kernel
theorem dX14_isContentLength_22 : decode cX14_isContentLength 22 = .ok (.aload_n 1, 1) := by decide +kernel
theorem dX14_isContentLength_23 : decode cX14_isContentLength 23 = .ok (.invokevirtual 163, 3) := by decide +kernel
theorem dX14_isContentLength_26 : decode cX14_isContentLength 26 = .ok (.if_icmp .ge 47, 3) := by decide +kernel
theorem dX14_isContentLength_29 : decode cX14_isContentLength 29 = .ok (.aload_n 0, 1) := by decide +kernel
theorem dX14_isContentLength_30 : decode cX14_isContentLength 30 = .ok (.getfield 26, 3) := by decide +kernel
theorem dX14_isContentLength_33 : decode cX14_isContentLength 33 = .ok (.iload_n 2, 1) := by decide +kernel
theorem dX14_isContentLength_34 : decode cX14_isContentLength 34 = .ok (.invokevirtual 223, 3) := by decide +kernel
theorem dX14_isContentLength_37 : decode cX14_isContentLength 37 = .ok (.istore_n 3, 1) := by decide +kernel
theorem dX14_isContentLength_38 : decode cX14_isContentLength 38 = .ok (.iload_n 3, 1) := by decide +kernel
theorem dX14_isContentLength_39 : decode cX14_isContentLength 39 = .ok (.bipush 65, 2) := by decide +kernel
theorem dX14_isContentLength_41 : decode cX14_isContentLength 41 = .ok (.bipush 90, 2) := by decide +kernel
theorem dX14_isContentLength_43 : decode cX14_isContentLength 43 = .ok (.invokestatic 181, 3) := by decide +kernel
theorem dX14_isContentLength_46 : decode cX14_isContentLength 46 = .ok (.ifCond .eq 10, 3) := by decide +kernel
theorem dX14_isContentLength_49 : decode cX14_isContentLength 49 = .ok (.iload_n 3, 1) := by decide +kernel
theorem dX14_isContentLength_50 : decode cX14_isContentLength 50 = .ok (.bipush 32, 2) := by decide +kernel
theorem dX14_isContentLength_52 : decode cX14_isContentLength 52 = .ok (.iadd, 1) := by decide +kernel
theorem dX14_isContentLength_53 : decode cX14_isContentLength 53 = .ok (.goto 4, 3) := by decide +kernel
theorem dX14_isContentLength_56 : decode cX14_isContentLength 56 = .ok (.iload_n 3, 1) := by decide +kernel
theorem dX14_isContentLength_57 : decode cX14_isContentLength 57 = .ok (.aload_n 1, 1) := by decide +kernel
theorem dX14_isContentLength_58 : decode cX14_isContentLength 58 = .ok (.iload_n 2, 1) := by decide +kernel
theorem dX14_isContentLength_59 : decode cX14_isContentLength 59 = .ok (.invokevirtual 168, 3) := by decide +kernel
theorem dX14_isContentLength_62 : decode cX14_isContentLength 62 = .ok (.if_icmp .eq 5, 3) := by decide +kernel
theorem dX14_isContentLength_65 : decode cX14_isContentLength 65 = .ok (.iconst 0, 1) := by decide +kernel
theorem dX14_isContentLength_66 : decode cX14_isContentLength 66 = .ok (.ireturn, 1) := by decide +kernel
theorem dX14_isContentLength_67 : decode cX14_isContentLength 67 = .ok (.iinc 2 1, 3) := by decide +kernel
theorem dX14_isContentLength_70 : decode cX14_isContentLength 70 = .ok (.goto (-49), 3) := by decide +kernel
theorem dX14_isContentLength_73 : decode cX14_isContentLength 73 = .ok (.iconst 1, 1) := by decide +kernel
theorem dX14_isContentLength_74 : decode cX14_isContentLength 74 = .ok (.ireturn, 1) := by decide +kernel
theorem dX14_isLengthSoFar_0 : decode cX14_isLengthSoFar 0 = .ok (.aload_n 0, 1) := by decide +kernel
theorem dX14_isLengthSoFar_1 : decode cX14_isLengthSoFar 1 = .ok (.getfield 30, 3) := by decide +kernel
theorem dX14_isLengthSoFar_4 : decode cX14_isLengthSoFar 4 = .ok (.invokevirtual 222, 3) := by decide +kernel
theorem dX14_isLengthSoFar_7 : decode cX14_isLengthSoFar 7 = .ok (.istore_n 2, 1) := by decide +kernel
theorem dX14_isLengthSoFar_8 : decode cX14_isLengthSoFar 8 = .ok (.iload_n 2, 1) := by decide +kernel
theorem dX14_isLengthSoFar_9 : decode cX14_isLengthSoFar 9 = .ok (.iconst 4, 1) := by decide +kernel
theorem dX14_isLengthSoFar_10 : decode cX14_isLengthSoFar 10 = .ok (.if_icmp .gt 11, 3) := by decide +kernel
theorem dX14_isLengthSoFar_13 : decode cX14_isLengthSoFar 13 = .ok (.iload_n 1, 1) := by decide +kernel
theorem dX14_isLengthSoFar_14 : decode cX14_isLengthSoFar 14 = .ok (.ifCond .eq 9, 3) := by decide +kernel
theorem dX14_isLengthSoFar_17 : decode cX14_isLengthSoFar 17 = .ok (.iload_n 2, 1) := by decide +kernel
theorem dX14_isLengthSoFar_18 : decode cX14_isLengthSoFar 18 = .ok (.ifCond .ne 5, 3) := by decide +kernel
theorem dX14_isLengthSoFar_21 : decode cX14_isLengthSoFar 21 = .ok (.iconst 0, 1) := by decide +kernel
theorem dX14_isLengthSoFar_22 : decode cX14_isLengthSoFar 22 = .ok (.ireturn, 1) := by decide +kernel
theorem dX14_isLengthSoFar_23 : decode cX14_isLengthSoFar 23 = .ok (.iconst 0, 1) := by decide +kernel
theorem dX14_isLengthSoFar_24 : decode cX14_isLengthSoFar 24 = .ok (.istore_n 3, 1) := by decide +kernel
theorem dX14_isLengthSoFar_25 : decode cX14_isLengthSoFar 25 = .ok (.iconst 0, 1) := by decide +kernel
theorem dX14_isLengthSoFar_26 : decode cX14_isLengthSoFar 26 = .ok (.istore 4, 2) := by decide +kernel
theorem dX14_isLengthSoFar_28 : decode cX14_isLengthSoFar 28 = .ok (.iload 4, 2) := by decide +kernel
theorem dX14_isLengthSoFar_30 : decode cX14_isLengthSoFar 30 = .ok (.iload_n 2, 1) := by decide +kernel
theorem dX14_isLengthSoFar_31 : decode cX14_isLengthSoFar 31 = .ok (.if_icmp .ge 44, 3) := by decide +kernel
theorem dX14_isLengthSoFar_34 : decode cX14_isLengthSoFar 34 = .ok (.aload_n 0, 1) := by decide +kernel
theorem dX14_isLengthSoFar_35 : decode cX14_isLengthSoFar 35 = .ok (.getfield 30, 3) := by decide +kernel
theorem dX14_isLengthSoFar_38 : decode cX14_isLengthSoFar 38 = .ok (.iload 4, 2) := by decide +kernel
theorem dX14_isLengthSoFar_40 : decode cX14_isLengthSoFar 40 = .ok (.invokevirtual 223, 3) := by decide +kernel
theorem dX14_isLengthSoFar_43 : decode cX14_isLengthSoFar 43 = .ok (.invokestatic 224, 3) := by decide +kernel
theorem dX14_isLengthSoFar_46 : decode cX14_isLengthSoFar 46 = .ok (.ifCond .ne 5, 3) := by decide +kernel
theorem dX14_isLengthSoFar_49 : decode cX14_isLengthSoFar 49 = .ok (.iconst 0, 1) := by decide +kernel
theorem dX14_isLengthSoFar_50 : decode cX14_isLengthSoFar 50 = .ok (.ireturn, 1) := by decide +kernel
theorem dX14_isLengthSoFar_51 : decode cX14_isLengthSoFar 51 = .ok (.bipush 10, 2) := by decide +kernel
theorem dX14_isLengthSoFar_53 : decode cX14_isLengthSoFar 53 = .ok (.iload_n 3, 1) := by decide +kernel
theorem dX14_isLengthSoFar_54 : decode cX14_isLengthSoFar 54 = .ok (.imul, 1) := by decide +kernel
theorem dX14_isLengthSoFar_55 : decode cX14_isLengthSoFar 55 = .ok (.aload_n 0, 1) := by decide +kernel
theorem dX14_isLengthSoFar_56 : decode cX14_isLengthSoFar 56 = .ok (.getfield 30, 3) := by decide +kernel
theorem dX14_isLengthSoFar_59 : decode cX14_isLengthSoFar 59 = .ok (.iload 4, 2) := by decide +kernel
theorem dX14_isLengthSoFar_61 : decode cX14_isLengthSoFar 61 = .ok (.invokevirtual 223, 3) := by decide +kernel
theorem dX14_isLengthSoFar_64 : decode cX14_isLengthSoFar 64 = .ok (.iadd, 1) := by decide +kernel
theorem dX14_isLengthSoFar_65 : decode cX14_isLengthSoFar 65 = .ok (.bipush 48, 2) := by decide +kernel
theorem dX14_isLengthSoFar_67 : decode cX14_isLengthSoFar 67 = .ok (.isub, 1) := by decide +kernel
theorem dX14_isLengthSoFar_68 : decode cX14_isLengthSoFar 68 = .ok (.istore_n 3, 1) := by decide +kernel
theorem dX14_isLengthSoFar_69 : decode cX14_isLengthSoFar 69 = .ok (.iinc 4 1, 3) := by decide +kernel
theorem dX14_isLengthSoFar_72 : decode cX14_isLengthSoFar 72 = .ok (.goto (-44), 3) := by decide +kernel
theorem dX14_isLengthSoFar_75 : decode cX14_isLengthSoFar 75 = .ok (.iload_n 3, 1) := by decide +kernel
theorem dX14_isLengthSoFar_76 : decode cX14_isLengthSoFar 76 = .ok (.sipush 3000, 3) := by decide +kernel
theorem dX14_isLengthSoFar_79 : decode cX14_isLengthSoFar 79 = .ok (.if_icmp .gt 7, 3) := by decide +kernel
theorem dX14_isLengthSoFar_82 : decode cX14_isLengthSoFar 82 = .ok (.iconst 1, 1) := by decide +kernel
theorem dX14_isLengthSoFar_83 : decode cX14_isLengthSoFar 83 = .ok (.goto 4, 3) := by decide +kernel
theorem dX14_isLengthSoFar_86 : decode cX14_isLengthSoFar 86 = .ok (.iconst 0, 1) := by decide +kernel
theorem dX14_isLengthSoFar_87 : decode cX14_isLengthSoFar 87 = .ok (.ireturn, 1) := by decide +kernel
theorem dX14_lengthTold_0 : decode cX14_lengthTold 0 = .ok (.iconst 0, 1) := by decide +kernel
theorem dX14_lengthTold_1 : decode cX14_lengthTold 1 = .ok (.istore_n 1, 1) := by decide +kernel
theorem dX14_lengthTold_2 : decode cX14_lengthTold 2 = .ok (.iconst 0, 1) := by decide +kernel
theorem dX14_lengthTold_3 : decode cX14_lengthTold 3 = .ok (.istore_n 2, 1) := by decide +kernel
theorem dX14_lengthTold_4 : decode cX14_lengthTold 4 = .ok (.iload_n 2, 1) := by decide +kernel
theorem dX14_lengthTold_5 : decode cX14_lengthTold 5 = .ok (.aload_n 0, 1) := by decide +kernel
theorem dX14_lengthTold_6 : decode cX14_lengthTold 6 = .ok (.getfield 30, 3) := by decide +kernel
theorem dX14_lengthTold_9 : decode cX14_lengthTold 9 = .ok (.invokevirtual 222, 3) := by decide +kernel
theorem dX14_lengthTold_12 : decode cX14_lengthTold 12 = .ok (.if_icmp .ge 26, 3) := by decide +kernel
theorem dX14_lengthTold_15 : decode cX14_lengthTold 15 = .ok (.bipush 10, 2) := by decide +kernel
theorem dX14_lengthTold_17 : decode cX14_lengthTold 17 = .ok (.iload_n 1, 1) := by decide +kernel
theorem dX14_lengthTold_18 : decode cX14_lengthTold 18 = .ok (.imul, 1) := by decide +kernel
theorem dX14_lengthTold_19 : decode cX14_lengthTold 19 = .ok (.aload_n 0, 1) := by decide +kernel
theorem dX14_lengthTold_20 : decode cX14_lengthTold 20 = .ok (.getfield 30, 3) := by decide +kernel
theorem dX14_lengthTold_23 : decode cX14_lengthTold 23 = .ok (.iload_n 2, 1) := by decide +kernel
theorem dX14_lengthTold_24 : decode cX14_lengthTold 24 = .ok (.invokevirtual 223, 3) := by decide +kernel
theorem dX14_lengthTold_27 : decode cX14_lengthTold 27 = .ok (.iadd, 1) := by decide +kernel
theorem dX14_lengthTold_28 : decode cX14_lengthTold 28 = .ok (.bipush 48, 2) := by decide +kernel
theorem dX14_lengthTold_30 : decode cX14_lengthTold 30 = .ok (.isub, 1) := by decide +kernel
theorem dX14_lengthTold_31 : decode cX14_lengthTold 31 = .ok (.istore_n 1, 1) := by decide +kernel
theorem dX14_lengthTold_32 : decode cX14_lengthTold 32 = .ok (.iinc 2 1, 3) := by decide +kernel
theorem dX14_lengthTold_35 : decode cX14_lengthTold 35 = .ok (.goto (-31), 3) := by decide +kernel
theorem dX14_lengthTold_38 : decode cX14_lengthTold 38 = .ok (.iload_n 1, 1) := by decide +kernel
theorem dX14_lengthTold_39 : decode cX14_lengthTold 39 = .ok (.ireturn, 1) := by decide +kernel
def EX14_lengthTold : List (Nat × Nat) := []
set_option maxHeartbeats 4000000 in
set_option maxRecDepth 20000 in
theorem uX14_lengthTold (l : Launch) (dC : Nat → ClassId) (dI : Nat → Nat → Nat) (ca : Nat → ClassId) (base : Nat) (B : jF) (hB : jBok B) (hAp : jAp (dC, dI)) (hB0 : ∀ n G a H, B 0 n G a H ↔ jOb (dC, dI) 0 4 (Fz0 n G) a H) (hB16 : ∀ n G a H, B 16 n G a H ↔ jOb (dC, dI) 16 74 (F16 n G) a H) (hB198 : ∀ n G a H, B 198 n G a H ↔ jAr (dC, dI) (ca 0) (fun j z => jBf j z) n a H) (G0 : jT) (H0 : Heap) (r0 : Nat) (bv : Nat) (pc : Int32) (pa : Nat) (n_pa : Nat) (fv : Nat → Int32) : Met l yX14_lengthTold (jw yX14_lengthTold cX14_lengthTold 3 (some .int)) ({ frames := 4, cells := 0, slots := 0, locals := 106 }) (va_Pc [.ref r0] (fun U => U.heap = H0 ∧ jX B base G0 [] H0 ∧ jG dC dI ca base U ∧ G0 r0 = some (16, 0) ∧ G0 bv = some (0, 0) ∧ G0 pa = some (198, n_pa) ∧ jP (dC, dI) G0 H0 [(r0, 16, 14, .ref bv), (bv, 0, 3, .int pc), (bv, 0, 0, .ref pa)] ∧ jMc (dC, dI) G0 H0 [(pa, 198, n_pa, ca 0, fv)] ∧ 0 ≤ pc.toInt ∧ pc.toInt ≤ n_pa ∧ n_pa ≤ 1000 ∧ pc.toInt ≤ 4 ∧ jDg fv pc.toInt)) (va_Qi (S := Unit) (fun r u => (r.toInt = jNm fv (pc.toInt).toNat)) (fun u t => jRt (dC, dI) B base G0 EX14_lengthTold H0 [] t.heap) (jA base)) 0 0 (jA base) := by
  refine Met.ofW (cc := cX14_lengthTold) (maxL := 3) (ret := (some .int)) (by decide) rfl ?_
  intro p e s m args below meth c s₁ Bd hml hv
  obtain ⟨rfl, hH0, hX, hG, hg_r0, hg_bv, hg_pa, hP0, hM0, hp0, hp1, hp2, hp3, hp4⟩ := hv
  have hK := hG.1
  have hx := Bd.exec
  have hb := Bd.bytes
  have hr := Bd.returns
  have hts := atoms_spec (ws := (jw yX14_lengthTold cX14_lengthTold 3 (some .int))) Bd.pre
  have htw : ∀ w ∈ jWl, w.before _ s = true := fun w h => hts w (List.mem_cons_of_mem _ h)
  have hown : s.vm.findClass RX14 = some m.cls := findClass_of_methodNamed Bd.named
  have hlocks := Bd.notSynchronized
  obtain ⟨Q, hQ⟩ : ∃ Q, Q = MQ below (va_Qi (S := Unit) (fun r u => (r.toInt = jNm fv (pc.toInt).toNat)) (fun u t => jRt (dC, dI) B base G0 EX14_lengthTold H0 [] t.heap) (jA base)) ([.ref r0] : List Value).toArray s 0 0 (jA base) := ⟨_, rfl⟩
  rw [← hQ]
  have hl := lv_entry ([.ref r0]) (n := 3) (Nat.le_of_ble_eq_true rfl)
  rw [lg_entry_eq]
  generalize (lg_sl ([.ref r0]) ++ List.replicate (3 - (lg_sl ([.ref r0])).length) Slot.unset).toArray = ls at hl ⊢
  have hl : lv_has ls 3 [(0, .ref r0)] := hl
  generalize hR : (headSpec (jw yX14_lengthTold cX14_lengthTold 3 (some .int)) ({ frames := 4, cells := 0, slots := 0, locals := 106 })).room = R
  subst hH0
  have hh : jSt (dC, dI) B base G0 G0 EX14_lengthTold s.heap 0 0 [(r0, 16, 14, .ref bv), (bv, 0, 3, .int pc), (bv, 0, 0, .ref pa)] [(pa, 198, n_pa, ca 0, fv)] [] s.heap [] := jSt.start hX hP0 hM0 jIs.nil
  clear hX hP0
  have hk0 : (0 : Int32).toInt = 0 := by decide
  have hk1 : (1 : Int32).toInt = 1 := by decide
  have hk10 : (10 : Int32).toInt = 10 := by decide
  have hk48 : (48 : Int32).toInt = 48 := by decide
  have hly_16_14 := htw (u_lay RX14 TX14 14) (jWc_wsX140 _ (u_in_lay (by decide)))
  have hlk_30 := (htw (.fieldLink RX14 30 "ProofServerModel" "value" "Ljava/lang/StringBuilder;") (jWr_11 _ (List.mem_of_getElem? (i := 2) rfl)))
  refine lv_iconst (v := 0) hx hb dX14_lengthTold_0 (by decide) ?_
  refine lv_istore_n (lv' := [(1, .int 0), (0, .ref r0)]) hx hb dX14_lengthTold_1 rfl hl (by decide) rfl (fun ls hl => ?_)
  refine lv_iconst (v := 0) hx hb dX14_lengthTold_2 (by decide) ?_
  refine lv_istore_n (lv' := [(2, .int 0), (1, .int 0), (0, .ref r0)]) hx hb dX14_lengthTold_3 rfl hl (by decide) rfl (fun ls hl => ?_)
  have L4 : ∀ (N : Nat) (v1_1 : Int32) (v2_1 : Int32) (H_1 : Heap) (locs_1 : List Loc), jSt (dC, dI) B base G0 G0 EX14_lengthTold s.heap 0 0 [(r0, 16, 14, .ref bv), (bv, 0, 3, .int pc), (bv, 0, 0, .ref pa)] [(pa, 198, n_pa, ca 0, fv)] [] H_1 locs_1 → (0 ≤ v2_1.toInt ∧ v2_1.toInt ≤ pc.toInt ∧ v1_1.toInt = jNm fv (v2_1.toInt).toNat ∧ 0 ≤ v1_1.toInt ∧ (v2_1.toInt ≤ 0 → v1_1.toInt ≤ 0) ∧ (v2_1.toInt ≤ 1 → v1_1.toInt ≤ 9) ∧ (v2_1.toInt ≤ 2 → v1_1.toInt ≤ 99) ∧ (v2_1.toInt ≤ 3 → v1_1.toInt ≤ 999) ∧ v1_1.toInt ≤ 9999) → (pc.toInt - v2_1.toInt : Int) < N → ∀ ls : Array Slot, lv_has ls 3 [(0, .ref r0), (1, .int v1_1), (2, .int v2_1)] → W p l e R s m ([.ref r0] : List Value).toArray below meth c H_1 locs_1 0 0 Q (F0 m 4 ls []) := by
    intro N
    induction N with
    | zero => intro v1_1 v2_1 H_1 locs_1 hh_1  hi_1 hm; exact absurd hm (by omega)
    | succ N L4 =>
      intro v1_1 v2_1 H_1 locs_1 hh_1  hi_1 hm_1 ls hl
      obtain ⟨hi_1_0, hi_1_1, hi_1_2, hi_1_3, hi_1_4, hi_1_5, hi_1_6, hi_1_7, hi_1_8⟩ := hi_1
      refine lv_iload_n hx hb dX14_lengthTold_4 rfl (lv_at hl 2 rfl) ?_
      refine lv_aload_n hx hb dX14_lengthTold_5 rfl (lv_at hl 0 rfl) ?_
      refine j7_read hx hb hown hK (C := RX14) (T := TX14) (N := 74) rfl hly_16_14 hlk_30 (hh_1.at 0 rfl) dX14_lengthTold_6 ?_
      refine va_calli (A0 := jA base) (H0 := s.heap) (va_runV (As := []) (rest := [.int v2_1]) ⟨hx, hb, hml, hown, hts⟩ (uJ4_length_8abf5 l dC dI ca base B hB hAp hB0 G0 H_1 bv pc) (cwV 0 hts (jgV (jWr_48 _ (List.mem_of_getElem? (i := 17) rfl)) (jWr_48 _ (List.mem_of_getElem? (i := 18) rfl)) (jWr_48 _ (List.mem_of_getElem? (i := 19) rfl)) (jWr_11 _ (List.mem_of_getElem? (i := 0) rfl)) (jWr_48 _ (List.mem_of_getElem? (i := 20) rfl))) rfl rfl rfl (by decide +kernel) ⟨by rw [← hR]; exact Nat.le_of_ble_eq_true rfl, by rw [← hR]; exact Nat.le_of_ble_eq_true rfl⟩) ⟨fun a U g mk q => by obtain ⟨q0, q1, q2, qK, q10, q11, q12⟩ := q; exact ⟨q0, q1, q2, jG.calling g mk a qK, q10, q11, q12⟩, hh_1.recv (C := RJ4) (T := TJ4) (N := 4) hB0 rfl (by decide) hg_bv hK, fun U hU hW => ⟨rfl, hU, hh_1.2.1, hG.step hW hU hh_1.1, hg_bv, (hh_1.2.2.1.sub (L1 := [(bv, 0, 3, .int pc)]) [1] rfl), trivial⟩⟩ rfl rfl hl.1 rfl (lv_room (Nat.le_of_ble_eq_true rfl)) dX14_lengthTold_9 ⟨Nat.zero_le _, Nat.zero_le _⟩) hh_1.1 (fun q _ h => h) (fun q h => h) (fun r_3 u_2 t_2 H_2 locs_2 ht_2 hvm_2 hr_3 hb_2 hz_2 hk_2 hS_2 => ?_)
      rw [ht_2] at hb_2
      obtain ⟨hb_21, hb_22, hb_23, hb_24, hb_25⟩ := hb_2
      have hh_2 : jSt (dC, dI) B base G0 G0 EX14_lengthTold s.heap 0 0 [(r0, 16, 14, .ref bv), (bv, 0, 3, .int pc), (bv, 0, 0, .ref pa)] [(pa, 198, n_pa, ca 0, fv)] [] H_2 locs_2 := ((hh_1.call hb_21 hb_22 hb_23 hb_24 hS_2 rfl (L1 := [(r0, 16, 14, .ref bv), (bv, 0, 3, .int pc), (bv, 0, 0, .ref pa)]) [0, 1, 2] rfl rfl (M1 := [(pa, 198, n_pa, ca 0, fv)]) [0] rfl rfl (I1 := []) [] rfl rfl).more hb_25)
      clear hh_1 ht_2 hvm_2 hz_2 hk_2 hS_2 hb_21 hb_22 hb_23 hb_24 hb_25
      refine lv_icmp_ge (tgt := 38) hx hb dX14_lengthTold_12 (by decide) (fun c_4 => ?_) (fun c_4 => ?_)
      · skip
        have c_4' : v2_1.toInt ≥ r_3.toInt := jb_ge (rfl) (rfl) c_4
        refine lv_iload_n hx hb dX14_lengthTold_38 rfl (lv_at hl 1 rfl) ?_
        rw [hQ]
        exact W.iret (v := v1_1) hx hb hr (fun t ht hW => ⟨⟨v1_1, (), rfl, by rw [show pc.toInt = v2_1.toInt by omega]; exact hi_1_2, hh_2.rt (M1 := []) [] rfl ht⟩, by rw [ht]; try exact hh_2.1.1, fun q h9 hq => by rw [ht]; try exact hh_2.1.2.1 q h9 hq⟩) hh_2.1.2.2 dX14_lengthTold_39
      · skip
        have c_4' : v2_1.toInt < r_3.toInt := jb_ge_n (rfl) (rfl) c_4
        have hdg := hp4 v2_1.toInt (by omega) (by omega)
        refine lv_bipush (v := 10) hx hb dX14_lengthTold_15 (by decide) ?_
        refine lv_iload_n hx hb dX14_lengthTold_17 rfl (lv_at hl 1 rfl) ?_
        refine lv_imul hx hb dX14_lengthTold_18 ?_
        refine lv_topi (fun z_5 ez_5 => ?_)
        have hz_5 : z_5.toInt = 10 * v1_1.toInt := by rw [ez_5]; exact jb_imul2 ((by decide)) (rfl) (by omega)
        refine lv_aload_n hx hb dX14_lengthTold_19 rfl (lv_at hl 0 rfl) ?_
        refine j7_read hx hb hown hK (C := RX14) (T := TX14) (N := 74) rfl hly_16_14 hlk_30 (hh_2.at 0 rfl) dX14_lengthTold_20 ?_
        refine lv_iload_n hx hb dX14_lengthTold_23 rfl (lv_at hl 2 rfl) ?_
        refine va_calli (A0 := jA base) (H0 := s.heap) (va_runV (As := [.int v2_1]) (rest := [.int z_5]) ⟨hx, hb, hml, hown, hts⟩ (uJ4_charAt_5068e l dC dI ca base B hB hAp hB0 hB198 G0 H_2 bv v2_1 pc pa n_pa fv) (cwV 1 hts (jgV (jWr_49 _ (List.mem_of_getElem? (i := 2) rfl)) (jWr_49 _ (List.mem_of_getElem? (i := 3) rfl)) (jWr_49 _ (List.mem_of_getElem? (i := 4) rfl)) (jWr_11 _ (List.mem_of_getElem? (i := 0) rfl)) (jWr_49 _ (List.mem_of_getElem? (i := 5) rfl))) rfl rfl rfl (by decide +kernel) ⟨by rw [← hR]; exact Nat.le_of_ble_eq_true rfl, by rw [← hR]; exact Nat.le_of_ble_eq_true rfl⟩) ⟨fun a U g mk q => by obtain ⟨q0, q1, q2, qK, q10, q11, q12, q13, q14⟩ := q; exact ⟨q0, q1, q2, jG.calling g mk a qK, q10, q11, q12, q13, q14⟩, hh_2.recv (C := RJ4) (T := TJ4) (N := 4) hB0 rfl (by decide) hg_bv hK, fun U hU hW => ⟨rfl, hU, hh_2.2.1, hG.step hW hU hh_2.1, hg_bv, hg_pa, (hh_2.2.2.1.sub (L1 := [(bv, 0, 3, .int pc), (bv, 0, 0, .ref pa)]) [1, 2] rfl), (hh_2.2.2.2.2.2.2.2.1.sub (L1 := [(pa, 198, n_pa, ca 0, fv)]) [0] rfl), by first | omega | (refine ⟨?_, ?_, ?_, ?_⟩ <;> (first | omega | rfl | assumption | decide | exact Or.inl rfl | exact Or.inr rfl | (simp only; omega)))⟩⟩ rfl rfl hl.1 rfl (lv_room (Nat.le_of_ble_eq_true rfl)) dX14_lengthTold_24 ⟨Nat.zero_le _, Nat.zero_le _⟩) hh_2.1 (fun q _ h => h) (fun q h => h) (fun r_7 u_6 t_6 H_6 locs_6 ht_6 hvm_6 hr_7 hb_6 hz_6 hk_6 hS_6 => ?_)
        rw [ht_6] at hb_6
        obtain ⟨hb_61, hb_62, hb_63, hb_64, hb_65⟩ := hb_6
        have hh_6 : jSt (dC, dI) B base G0 G0 EX14_lengthTold s.heap 0 0 [(r0, 16, 14, .ref bv), (bv, 0, 3, .int pc), (bv, 0, 0, .ref pa)] [(pa, 198, n_pa, ca 0, fv)] [] H_6 locs_6 := ((hh_2.call hb_61 hb_62 hb_63 hb_64 hS_6 rfl (L1 := [(r0, 16, 14, .ref bv), (bv, 0, 3, .int pc), (bv, 0, 0, .ref pa)]) [0, 1, 2] rfl rfl (M1 := [(pa, 198, n_pa, ca 0, fv)]) [0] rfl rfl (I1 := []) [] rfl rfl).more hb_65)
        clear hh_2 ht_6 hvm_6 hz_6 hk_6 hS_6 hb_61 hb_62 hb_63 hb_64 hb_65
        obtain ⟨hr_7_0, hr_7_1, hr_7_2⟩ := hr_7
        refine lv_iadd hx hb dX14_lengthTold_27 ?_
        refine lv_topi (fun z_8 ez_8 => ?_)
        have hz_8 : z_8.toInt = z_5.toInt + r_7.toInt := by rw [ez_8]; exact jb_iadd2 (rfl) (rfl) (by omega)
        refine lv_bipush (v := 48) hx hb dX14_lengthTold_28 (by decide) ?_
        refine lv_isub hx hb dX14_lengthTold_30 ?_
        refine lv_topi (fun z_9 ez_9 => ?_)
        have hz_9 : z_9.toInt = z_8.toInt - 48 := by rw [ez_9]; exact jb_isub2 (rfl) ((by decide)) (by omega)
        refine lv_istore_n (lv' := [(1, .int z_9), (0, .ref r0), (2, .int v2_1)]) hx hb dX14_lengthTold_31 rfl hl (by decide) rfl (fun ls hl => ?_)
        obtain ⟨z_10, ez_10⟩ : ∃ y : Int32, y = v2_1 + 1 := ⟨_, rfl⟩
        refine lv_iinc (v := z_10) (lv' := [(2, .int z_10), (1, .int z_9), (0, .ref r0)]) hx hb dX14_lengthTold_32 hl (k := 2) rfl (by rw [ez_10]; rfl) (by decide) rfl (fun ls hl => ?_)
        have hz_10 : z_10.toInt = v2_1.toInt + 1 := by rw [ez_10]; exact jb_iadd2 (rfl) (by decide) (by omega)
        refine lv_goto (tgt := 4) hx hb dX14_lengthTold_35 (by decide) ?_
        exact L4 z_9 z_10 _ _ hh_6 (by have hd0 := hdg; refine ⟨by omega, by omega, jNm_s hi_1_2 (by omega) hr_7_2 (by omega) (by omega), by omega, by omega, by omega, by omega, by omega, by omega⟩) (by omega) _ (lv_sub hl [2, 1, 0] rfl)
  exact L4 (pc.toInt - (0 : Int32).toInt : Int).toNat.succ 0 0 _ _ hh (by refine ⟨by omega, by omega, by rw [hk0]; rfl, by omega, by omega, by omega, by omega, by omega, by omega⟩) (by omega) _ (lv_sub hl [2, 1, 0] rfl)
end
section
-- a method of the class above, called on this
theorem jgX {h : Cond} {own C owner : String} {idx : Nat} {x y : MethodName} {c : ByteArray} {n : Nat} {r : Option FieldType} (h1 : Cond.methodLink own idx x ∈ jWl) (h2 : Cond.sameMethod x.cls owner x.name x.desc ∈ jWl) (h3 : Cond.selects C x y ∈ jWl) (h4 : Cond.instanceMethod y ∈ jWl) (h5 : Cond.initialized y.cls ∈ jWl) (hc : Cond.code y c n r ∈ jWl) : GoodIn (h :: jWl) (va_wsU own idx C owner x y (jw y c n r)) :=
  jgL (fun w hw => by
    rcases List.mem_cons.mp hw with e | hw
    · rw [e]; exact h1
    rcases List.mem_cons.mp hw with e | hw
    · rw [e]; exact h2
    rcases List.mem_cons.mp hw with e | hw
    · rw [e]; exact h3
    rcases List.mem_cons.mp hw with e | hw
    · rw [e]; exact h4
    rw [List.mem_singleton.mp hw]; exact h5) (jgW hc)
theorem jb_shl0 (x : Int32) : x <<< ((0 : Int32) &&& 31) = x := by
  have h := pk_shl x ((0 : Int32) &&& 31) 0 (by decide)
  have h2 : (x <<< ((0 : Int32) &&& 31)).toBitVec = x.toBitVec := BitVec.eq_of_toNat_eq (by
    rw [h]
    have h3 := x.toBitVec.isLt
    omega)
  exact Int32.toBitVec_inj.mp h2
end
section
theorem dJ5_ensureCapacityInternal_d00df_0 : decode cJ5_ensureCapacityInternal_d00df 0 = .ok (.aload_n 0, 1) := by decide +kernel
theorem dJ5_ensureCapacityInternal_d00df_1 : decode cJ5_ensureCapacityInternal_d00df 1 = .ok (.getfield 15, 3) := by decide +kernel
theorem dJ5_ensureCapacityInternal_d00df_4 : decode cJ5_ensureCapacityInternal_d00df 4 = .ok (.arraylength, 1) := by decide +kernel
theorem dJ5_ensureCapacityInternal_d00df_5 : decode cJ5_ensureCapacityInternal_d00df 5 = .ok (.aload_n 0, 1) := by decide +kernel
theorem dJ5_ensureCapacityInternal_d00df_6 : decode cJ5_ensureCapacityInternal_d00df 6 = .ok (.getfield 22, 3) := by decide +kernel
theorem dJ5_ensureCapacityInternal_d00df_9 : decode cJ5_ensureCapacityInternal_d00df 9 = .ok (.ishr, 1) := by decide +kernel
theorem dJ5_ensureCapacityInternal_d00df_10 : decode cJ5_ensureCapacityInternal_d00df 10 = .ok (.istore_n 2, 1) := by decide +kernel
theorem dJ5_ensureCapacityInternal_d00df_11 : decode cJ5_ensureCapacityInternal_d00df 11 = .ok (.iload_n 1, 1) := by decide +kernel
theorem dJ5_ensureCapacityInternal_d00df_12 : decode cJ5_ensureCapacityInternal_d00df 12 = .ok (.iload_n 2, 1) := by decide +kernel
theorem dJ5_ensureCapacityInternal_d00df_13 : decode cJ5_ensureCapacityInternal_d00df 13 = .ok (.isub, 1) := by decide +kernel
theorem dJ5_ensureCapacityInternal_d00df_14 : decode cJ5_ensureCapacityInternal_d00df 14 = .ok (.ifCond .le 24, 3) := by decide +kernel
theorem dJ5_ensureCapacityInternal_d00df_17 : decode cJ5_ensureCapacityInternal_d00df 17 = .ok (.aload_n 0, 1) := by decide +kernel
theorem dJ5_ensureCapacityInternal_d00df_18 : decode cJ5_ensureCapacityInternal_d00df 18 = .ok (.aload_n 0, 1) := by decide +kernel
theorem dJ5_ensureCapacityInternal_d00df_19 : decode cJ5_ensureCapacityInternal_d00df 19 = .ok (.getfield 15, 3) := by decide +kernel
theorem dJ5_ensureCapacityInternal_d00df_22 : decode cJ5_ensureCapacityInternal_d00df 22 = .ok (.aload_n 0, 1) := by decide +kernel
theorem dJ5_ensureCapacityInternal_d00df_23 : decode cJ5_ensureCapacityInternal_d00df 23 = .ok (.iload_n 1, 1) := by decide +kernel
theorem dJ5_ensureCapacityInternal_d00df_24 : decode cJ5_ensureCapacityInternal_d00df 24 = .ok (.invokevirtual 104, 3) := by decide +kernel
theorem dJ5_ensureCapacityInternal_d00df_27 : decode cJ5_ensureCapacityInternal_d00df 27 = .ok (.aload_n 0, 1) := by decide +kernel
theorem dJ5_ensureCapacityInternal_d00df_28 : decode cJ5_ensureCapacityInternal_d00df 28 = .ok (.getfield 22, 3) := by decide +kernel
theorem dJ5_ensureCapacityInternal_d00df_31 : decode cJ5_ensureCapacityInternal_d00df 31 = .ok (.ishl, 1) := by decide +kernel
theorem dJ5_ensureCapacityInternal_d00df_32 : decode cJ5_ensureCapacityInternal_d00df 32 = .ok (.invokestatic 108, 3) := by decide +kernel
theorem dJ5_ensureCapacityInternal_d00df_35 : decode cJ5_ensureCapacityInternal_d00df 35 = .ok (.putfield 15, 3) := by decide +kernel
theorem dJ5_ensureCapacityInternal_d00df_38 : decode cJ5_ensureCapacityInternal_d00df 38 = .ok (.return_, 1) := by decide +kernel
theorem dJ5_newCapacity_0f7a4_0 : decode cJ5_newCapacity_0f7a4 0 = .ok (.aload_n 0, 1) := by decide +kernel
theorem dJ5_newCapacity_0f7a4_1 : decode cJ5_newCapacity_0f7a4 1 = .ok (.getfield 15, 3) := by decide +kernel
theorem dJ5_newCapacity_0f7a4_4 : decode cJ5_newCapacity_0f7a4 4 = .ok (.arraylength, 1) := by decide +kernel
theorem dJ5_newCapacity_0f7a4_5 : decode cJ5_newCapacity_0f7a4 5 = .ok (.istore_n 2, 1) := by decide +kernel
theorem dJ5_newCapacity_0f7a4_6 : decode cJ5_newCapacity_0f7a4 6 = .ok (.iload_n 1, 1) := by decide +kernel
theorem dJ5_newCapacity_0f7a4_7 : decode cJ5_newCapacity_0f7a4 7 = .ok (.aload_n 0, 1) := by decide +kernel
theorem dJ5_newCapacity_0f7a4_8 : decode cJ5_newCapacity_0f7a4 8 = .ok (.getfield 22, 3) := by decide +kernel
theorem dJ5_newCapacity_0f7a4_11 : decode cJ5_newCapacity_0f7a4 11 = .ok (.ishl, 1) := by decide +kernel
theorem dJ5_newCapacity_0f7a4_12 : decode cJ5_newCapacity_0f7a4 12 = .ok (.istore_n 3, 1) := by decide +kernel
theorem dJ5_newCapacity_0f7a4_13 : decode cJ5_newCapacity_0f7a4 13 = .ok (.iload_n 3, 1) := by decide +kernel
theorem dJ5_newCapacity_0f7a4_14 : decode cJ5_newCapacity_0f7a4 14 = .ok (.iload_n 2, 1) := by decide +kernel
theorem dJ5_newCapacity_0f7a4_15 : decode cJ5_newCapacity_0f7a4 15 = .ok (.isub, 1) := by decide +kernel
theorem dJ5_newCapacity_0f7a4_16 : decode cJ5_newCapacity_0f7a4 16 = .ok (.istore 4, 2) := by decide +kernel
theorem dJ5_newCapacity_0f7a4_18 : decode cJ5_newCapacity_0f7a4 18 = .ok (.iload_n 2, 1) := by decide +kernel
theorem dJ5_newCapacity_0f7a4_19 : decode cJ5_newCapacity_0f7a4 19 = .ok (.iload 4, 2) := by decide +kernel
theorem dJ5_newCapacity_0f7a4_21 : decode cJ5_newCapacity_0f7a4 21 = .ok (.iload_n 2, 1) := by decide +kernel
theorem dJ5_newCapacity_0f7a4_22 : decode cJ5_newCapacity_0f7a4 22 = .ok (.iconst 2, 1) := by decide +kernel
theorem dJ5_newCapacity_0f7a4_23 : decode cJ5_newCapacity_0f7a4 23 = .ok (.aload_n 0, 1) := by decide +kernel
theorem dJ5_newCapacity_0f7a4_24 : decode cJ5_newCapacity_0f7a4 24 = .ok (.getfield 22, 3) := by decide +kernel
theorem dJ5_newCapacity_0f7a4_27 : decode cJ5_newCapacity_0f7a4 27 = .ok (.ishl, 1) := by decide +kernel
theorem dJ5_newCapacity_0f7a4_28 : decode cJ5_newCapacity_0f7a4 28 = .ok (.iadd, 1) := by decide +kernel
theorem dJ5_newCapacity_0f7a4_29 : decode cJ5_newCapacity_0f7a4 29 = .ok (.invokestatic 114, 3) := by decide +kernel
theorem dJ5_newCapacity_0f7a4_32 : decode cJ5_newCapacity_0f7a4 32 = .ok (.istore 5, 2) := by decide +kernel
theorem dJ5_newCapacity_0f7a4_34 : decode cJ5_newCapacity_0f7a4 34 = .ok (.iload 5, 2) := by decide +kernel
theorem dJ5_newCapacity_0f7a4_36 : decode cJ5_newCapacity_0f7a4 36 = .ok (.ldc 39, 2) := by decide +kernel
theorem dJ5_newCapacity_0f7a4_38 : decode cJ5_newCapacity_0f7a4 38 = .ok (.if_icmp .ne 13, 3) := by decide +kernel
theorem dJ5_newCapacity_0f7a4_51 : decode cJ5_newCapacity_0f7a4 51 = .ok (.iload 5, 2) := by decide +kernel
theorem dJ5_newCapacity_0f7a4_53 : decode cJ5_newCapacity_0f7a4 53 = .ok (.aload_n 0, 1) := by decide +kernel
theorem dJ5_newCapacity_0f7a4_54 : decode cJ5_newCapacity_0f7a4 54 = .ok (.getfield 22, 3) := by decide +kernel
theorem dJ5_newCapacity_0f7a4_57 : decode cJ5_newCapacity_0f7a4 57 = .ok (.ishr, 1) := by decide +kernel
theorem dJ5_newCapacity_0f7a4_58 : decode cJ5_newCapacity_0f7a4 58 = .ok (.ireturn, 1) := by decide +kernel
theorem dJ5_setLength_d00df_0 : decode cJ5_setLength_d00df 0 = .ok (.iload_n 1, 1) := by decide +kernel
theorem dJ5_setLength_d00df_1 : decode cJ5_setLength_d00df 1 = .ok (.ifCond .ge 12, 3) := by decide +kernel
theorem dJ5_setLength_d00df_13 : decode cJ5_setLength_d00df 13 = .ok (.aload_n 0, 1) := by decide +kernel
theorem dJ5_setLength_d00df_14 : decode cJ5_setLength_d00df 14 = .ok (.iload_n 1, 1) := by decide +kernel
theorem dJ5_setLength_d00df_15 : decode cJ5_setLength_d00df 15 = .ok (.invokevirtual 100, 3) := by decide +kernel
theorem dJ5_setLength_d00df_18 : decode cJ5_setLength_d00df 18 = .ok (.aload_n 0, 1) := by decide +kernel
theorem dJ5_setLength_d00df_19 : decode cJ5_setLength_d00df 19 = .ok (.getfield 79, 3) := by decide +kernel
theorem dJ5_setLength_d00df_22 : decode cJ5_setLength_d00df 22 = .ok (.iload_n 1, 1) := by decide +kernel
theorem dJ5_setLength_d00df_23 : decode cJ5_setLength_d00df 23 = .ok (.if_icmp .ge 40, 3) := by decide +kernel
theorem dJ5_setLength_d00df_63 : decode cJ5_setLength_d00df 63 = .ok (.aload_n 0, 1) := by decide +kernel
theorem dJ5_setLength_d00df_64 : decode cJ5_setLength_d00df 64 = .ok (.getfield 79, 3) := by decide +kernel
theorem dJ5_setLength_d00df_67 : decode cJ5_setLength_d00df 67 = .ok (.iload_n 1, 1) := by decide +kernel
theorem dJ5_setLength_d00df_68 : decode cJ5_setLength_d00df 68 = .ok (.if_icmp .le 8, 3) := by decide +kernel
theorem dJ5_setLength_d00df_71 : decode cJ5_setLength_d00df 71 = .ok (.aload_n 0, 1) := by decide +kernel
theorem dJ5_setLength_d00df_72 : decode cJ5_setLength_d00df 72 = .ok (.iconst 1, 1) := by decide +kernel
theorem dJ5_setLength_d00df_73 : decode cJ5_setLength_d00df 73 = .ok (.putfield 73, 3) := by decide +kernel
theorem dJ5_setLength_d00df_76 : decode cJ5_setLength_d00df 76 = .ok (.aload_n 0, 1) := by decide +kernel
theorem dJ5_setLength_d00df_77 : decode cJ5_setLength_d00df 77 = .ok (.iload_n 1, 1) := by decide +kernel
theorem dJ5_setLength_d00df_78 : decode cJ5_setLength_d00df 78 = .ok (.putfield 79, 3) := by decide +kernel
theorem dJ5_setLength_d00df_81 : decode cJ5_setLength_d00df 81 = .ok (.return_, 1) := by decide +kernel
theorem dJ5_append_3fe6f_0 : decode cJ5_append_3fe6f 0 = .ok (.aload_n 0, 1) := by decide +kernel
theorem dJ5_append_3fe6f_1 : decode cJ5_append_3fe6f 1 = .ok (.aload_n 0, 1) := by decide +kernel
theorem dJ5_append_3fe6f_2 : decode cJ5_append_3fe6f 2 = .ok (.getfield 79, 3) := by decide +kernel
theorem dJ5_append_3fe6f_5 : decode cJ5_append_3fe6f 5 = .ok (.iconst 1, 1) := by decide +kernel
theorem dJ5_append_3fe6f_6 : decode cJ5_append_3fe6f 6 = .ok (.iadd, 1) := by decide +kernel
theorem dJ5_append_3fe6f_7 : decode cJ5_append_3fe6f 7 = .ok (.invokevirtual 100, 3) := by decide +kernel
theorem dJ5_append_3fe6f_10 : decode cJ5_append_3fe6f 10 = .ok (.aload_n 0, 1) := by decide +kernel
theorem dJ5_append_3fe6f_11 : decode cJ5_append_3fe6f 11 = .ok (.invokevirtual 83, 3) := by decide +kernel
theorem dJ5_append_3fe6f_14 : decode cJ5_append_3fe6f 14 = .ok (.ifCond .eq 31, 3) := by decide +kernel
theorem dJ5_append_3fe6f_17 : decode cJ5_append_3fe6f 17 = .ok (.iload_n 1, 1) := by decide +kernel
theorem dJ5_append_3fe6f_18 : decode cJ5_append_3fe6f 18 = .ok (.invokestatic 191, 3) := by decide +kernel
theorem dJ5_append_3fe6f_21 : decode cJ5_append_3fe6f 21 = .ok (.ifCond .eq 24, 3) := by decide +kernel
theorem dJ5_append_3fe6f_24 : decode cJ5_append_3fe6f 24 = .ok (.aload_n 0, 1) := by decide +kernel
theorem dJ5_append_3fe6f_25 : decode cJ5_append_3fe6f 25 = .ok (.getfield 15, 3) := by decide +kernel
theorem dJ5_append_3fe6f_28 : decode cJ5_append_3fe6f 28 = .ok (.aload_n 0, 1) := by decide +kernel
theorem dJ5_append_3fe6f_29 : decode cJ5_append_3fe6f 29 = .ok (.dup, 1) := by decide +kernel
theorem dJ5_append_3fe6f_30 : decode cJ5_append_3fe6f 30 = .ok (.getfield 79, 3) := by decide +kernel
theorem dJ5_append_3fe6f_33 : decode cJ5_append_3fe6f 33 = .ok (.dup_x1, 1) := by decide +kernel
theorem dJ5_append_3fe6f_34 : decode cJ5_append_3fe6f 34 = .ok (.iconst 1, 1) := by decide +kernel
theorem dJ5_append_3fe6f_35 : decode cJ5_append_3fe6f 35 = .ok (.iadd, 1) := by decide +kernel
theorem dJ5_append_3fe6f_36 : decode cJ5_append_3fe6f 36 = .ok (.putfield 79, 3) := by decide +kernel
theorem dJ5_append_3fe6f_39 : decode cJ5_append_3fe6f 39 = .ok (.iload_n 1, 1) := by decide +kernel
theorem dJ5_append_3fe6f_40 : decode cJ5_append_3fe6f 40 = .ok (.i2b, 1) := by decide +kernel
theorem dJ5_append_3fe6f_41 : decode cJ5_append_3fe6f 41 = .ok (.bastore, 1) := by decide +kernel
theorem dJ5_append_3fe6f_42 : decode cJ5_append_3fe6f 42 = .ok (.goto 33, 3) := by decide +kernel
theorem dJ5_append_3fe6f_75 : decode cJ5_append_3fe6f 75 = .ok (.aload_n 0, 1) := by decide +kernel
theorem dJ5_append_3fe6f_76 : decode cJ5_append_3fe6f 76 = .ok (.areturn, 1) := by decide +kernel
theorem dJ5_isLatin1_aae02_0 : decode cJ5_isLatin1_aae02 0 = .ok (.getstatic 18, 3) := by decide +kernel
theorem dJ5_isLatin1_aae02_3 : decode cJ5_isLatin1_aae02 3 = .ok (.ifCond .eq 14, 3) := by decide +kernel
theorem dJ5_isLatin1_aae02_6 : decode cJ5_isLatin1_aae02 6 = .ok (.aload_n 0, 1) := by decide +kernel
theorem dJ5_isLatin1_aae02_7 : decode cJ5_isLatin1_aae02 7 = .ok (.getfield 22, 3) := by decide +kernel
theorem dJ5_isLatin1_aae02_10 : decode cJ5_isLatin1_aae02 10 = .ok (.ifCond .ne 7, 3) := by decide +kernel
theorem dJ5_isLatin1_aae02_13 : decode cJ5_isLatin1_aae02 13 = .ok (.iconst 1, 1) := by decide +kernel
theorem dJ5_isLatin1_aae02_14 : decode cJ5_isLatin1_aae02 14 = .ok (.goto 4, 3) := by decide +kernel
theorem dJ5_isLatin1_aae02_18 : decode cJ5_isLatin1_aae02 18 = .ok (.ireturn, 1) := by decide +kernel
theorem dJ4_append_cf468_0 : decode cJ4_append_cf468 0 = .ok (.aload_n 0, 1) := by decide +kernel
theorem dJ4_append_cf468_1 : decode cJ4_append_cf468 1 = .ok (.iload_n 1, 1) := by decide +kernel
theorem dJ4_append_cf468_2 : decode cJ4_append_cf468 2 = .ok (.invokespecial 50, 3) := by decide +kernel
theorem dJ4_append_cf468_5 : decode cJ4_append_cf468 5 = .ok (.pop, 1) := by decide +kernel
theorem dJ4_append_cf468_6 : decode cJ4_append_cf468 6 = .ok (.aload_n 0, 1) := by decide +kernel
theorem dJ4_append_cf468_7 : decode cJ4_append_cf468 7 = .ok (.areturn, 1) := by decide +kernel
theorem dJ4_setLength_d00df_0 : decode cJ4_setLength_d00df 0 = .ok (.aload_n 0, 1) := by decide +kernel
theorem dJ4_setLength_d00df_1 : decode cJ4_setLength_d00df 1 = .ok (.iload_n 1, 1) := by decide +kernel
theorem dJ4_setLength_d00df_2 : decode cJ4_setLength_d00df 2 = .ok (.invokespecial 333, 3) := by decide +kernel
theorem dJ4_setLength_d00df_5 : decode cJ4_setLength_d00df 5 = .ok (.return_, 1) := by decide +kernel
theorem dJ8_newLength_cabcc_0 : decode cJ8_newLength_cabcc 0 = .ok (.iload_n 0, 1) := by decide +kernel
theorem dJ8_newLength_cabcc_1 : decode cJ8_newLength_cabcc 1 = .ok (.iload_n 1, 1) := by decide +kernel
theorem dJ8_newLength_cabcc_2 : decode cJ8_newLength_cabcc 2 = .ok (.iload_n 2, 1) := by decide +kernel
theorem dJ8_newLength_cabcc_3 : decode cJ8_newLength_cabcc 3 = .ok (.invokestatic 194, 3) := by decide +kernel
theorem dJ8_newLength_cabcc_6 : decode cJ8_newLength_cabcc 6 = .ok (.iadd, 1) := by decide +kernel
theorem dJ8_newLength_cabcc_7 : decode cJ8_newLength_cabcc 7 = .ok (.istore_n 3, 1) := by decide +kernel
theorem dJ8_newLength_cabcc_8 : decode cJ8_newLength_cabcc 8 = .ok (.iconst 0, 1) := by decide +kernel
theorem dJ8_newLength_cabcc_9 : decode cJ8_newLength_cabcc 9 = .ok (.iload_n 3, 1) := by decide +kernel
theorem dJ8_newLength_cabcc_10 : decode cJ8_newLength_cabcc 10 = .ok (.if_icmp .ge 11, 3) := by decide +kernel
theorem dJ8_newLength_cabcc_13 : decode cJ8_newLength_cabcc 13 = .ok (.iload_n 3, 1) := by decide +kernel
theorem dJ8_newLength_cabcc_14 : decode cJ8_newLength_cabcc 14 = .ok (.ldc 200, 2) := by decide +kernel
theorem dJ8_newLength_cabcc_16 : decode cJ8_newLength_cabcc 16 = .ok (.if_icmp .gt 5, 3) := by decide +kernel
theorem dJ8_newLength_cabcc_19 : decode cJ8_newLength_cabcc 19 = .ok (.iload_n 3, 1) := by decide +kernel
theorem dJ8_newLength_cabcc_20 : decode cJ8_newLength_cabcc 20 = .ok (.ireturn, 1) := by decide +kernel
def EJ1_canEncode_fc78dK : List (Nat × Nat) := []
def EJ5_isLatin1_aae02 : List (Nat × Nat) := []
def EJ8_newLength_cabcc : List (Nat × Nat) := []
def EJ5_newCapacity_0f7a4 : List (Nat × Nat) := []
def EJ5_ensureCapacityInternal_d00df : List (Nat × Nat) := []
def EJ5_setLength_d00df : List (Nat × Nat) := [(0, 2), (0, 3)]
def EJ4_setLength_d00df : List (Nat × Nat) := [(0, 2), (0, 3)]
set_option maxHeartbeats 4000000 in
set_option maxRecDepth 20000 in
theorem uJ1_canEncode_fc78dK (l : Launch) (dC : Nat → ClassId) (dI : Nat → Nat → Nat) (ca : Nat → ClassId) (base : Nat) (B : jF) (hB : jBok B) (hAp : jAp (dC, dI)) (G0 : jT) (H0 : Heap) (a0 : Int32) : Met l yJ1_canEncode_fc78d (jw yJ1_canEncode_fc78d cJ1_canEncode_fc78d 1 (some .boolean)) ({ frames := 0, cells := 0, slots := 0, locals := 0 }) (va_Pc [.int a0] (fun U => U.heap = H0 ∧ jX B base G0 [] H0 ∧ jG dC dI ca base U ∧ jP (dC, dI) G0 H0 [] ∧ 0 ≤ a0.toInt ∧ a0.toInt ≤ 255)) (va_Qi (S := Unit) (fun r u => (r = 0 ∨ r = 1) ∧ (r.toInt = 1)) (fun u t => jRt (dC, dI) B base G0 EJ1_canEncode_fc78dK H0 [] t.heap) (jA base)) 0 0 (jA base) := by
  refine Met.ofW (cc := cJ1_canEncode_fc78d) (maxL := 1) (ret := (some .boolean)) (by decide) rfl ?_
  intro p e s m args below meth c s₁ Bd hml hv
  obtain ⟨rfl, hH0, hX, hG, hP0, hp0, hp1⟩ := hv
  have hK := hG.1
  have hx := Bd.exec
  have hb := Bd.bytes
  have hr := Bd.returns
  have hts := atoms_spec (ws := (jw yJ1_canEncode_fc78d cJ1_canEncode_fc78d 1 (some .boolean))) Bd.pre
  have htw : ∀ w ∈ jWl, w.before _ s = true := fun w h => hts w (List.mem_cons_of_mem _ h)
  have hown : s.vm.findClass RJ1 = some m.cls := findClass_of_methodNamed Bd.named
  have hlocks := Bd.notSynchronized
  obtain ⟨Q, hQ⟩ : ∃ Q, Q = MQ below (va_Qi (S := Unit) (fun r u => (r = 0 ∨ r = 1) ∧ (r.toInt = 1)) (fun u t => jRt (dC, dI) B base G0 EJ1_canEncode_fc78dK H0 [] t.heap) (jA base)) ([.int a0] : List Value).toArray s 0 0 (jA base) := ⟨_, rfl⟩
  rw [← hQ]
  have hl := lv_entry ([.int a0]) (n := 1) (Nat.le_of_ble_eq_true rfl)
  rw [lg_entry_eq]
  generalize (lg_sl ([.int a0]) ++ List.replicate (1 - (lg_sl ([.int a0])).length) Slot.unset).toArray = ls at hl ⊢
  have hl : lv_has ls 1 [(0, .int a0)] := hl
  generalize hR : (headSpec (jw yJ1_canEncode_fc78d cJ1_canEncode_fc78d 1 (some .boolean)) ({ frames := 0, cells := 0, slots := 0, locals := 0 })).room = R
  subst hH0
  have hh : jSt (dC, dI) B base G0 G0 EJ1_canEncode_fc78dK s.heap 0 0 [] [] [] s.heap [] := jSt.start hX hP0 jMc.nil jIs.nil
  clear hX hP0
  have hk0 : (0 : Int32).toInt = 0 := by decide
  have hk1 : (1 : Int32).toInt = 1 := by decide
  have hk255 : (255 : Int32).toInt = 255 := by decide
  have hrg_a0 := jb_rng a0
  refine lv_iload_n hx hb dJ1_canEncode_fc78d_0 rfl (lv_at hl 0 rfl) ?_
  refine lv_sipush (v := 255) hx hb dJ1_canEncode_fc78d_1 (by decide) ?_
  refine lv_icmp_gt (tgt := 11) hx hb dJ1_canEncode_fc78d_4 (by decide) (fun c_1 => ?_) (fun c_1 => ?_)
  · skip
    have c_1' : a0.toInt > 255 := jb_gt (rfl) ((by decide)) c_1
    refine lv_iconst (v := 0) hx hb dJ1_canEncode_fc78d_11 (by decide) ?_
    rw [hQ]
    exact W.zret (v := 0) hx hb hr (jb_nz (Or.inl rfl)) (fun t ht hW => ⟨⟨0, (), rfl, ⟨(Or.inl rfl), by first | omega | rfl | assumption | decide | exact Or.inl rfl | exact Or.inr rfl | (simp only; omega)⟩, hh.rt (M1 := []) [] rfl ht⟩, by rw [ht]; try exact hh.1.1, fun q h9 hq => by rw [ht]; try exact hh.1.2.1 q h9 hq⟩) hh.1.2.2 dJ1_canEncode_fc78d_12
  · skip
    have c_1' : a0.toInt ≤ 255 := jb_gt_n (rfl) ((by decide)) c_1
    refine lv_iconst (v := 1) hx hb dJ1_canEncode_fc78d_7 (by decide) ?_
    refine lv_goto (tgt := 12) hx hb dJ1_canEncode_fc78d_8 (by decide) ?_
    rw [hQ]
    exact W.zret (v := 1) hx hb hr (jb_nz (Or.inr rfl)) (fun t ht hW => ⟨⟨1, (), rfl, ⟨(Or.inr rfl), by first | omega | rfl | assumption | decide | exact Or.inl rfl | exact Or.inr rfl | (simp only; omega)⟩, hh.rt (M1 := []) [] rfl ht⟩, by rw [ht]; try exact hh.1.1, fun q h9 hq => by rw [ht]; try exact hh.1.2.1 q h9 hq⟩) hh.1.2.2 dJ1_canEncode_fc78d_12
set_option maxHeartbeats 4000000 in
set_option maxRecDepth 20000 in
theorem uJ5_isLatin1_aae02 (l : Launch) (dC : Nat → ClassId) (dI : Nat → Nat → Nat) (ca : Nat → ClassId) (base : Nat) (B : jF) (hB : jBok B) (hAp : jAp (dC, dI)) (hB0 : ∀ n G a H, B 0 n G a H ↔ jOb (dC, dI) 0 4 (Fz0 n G) a H) (G0 : jT) (H0 : Heap) (r0 : Nat) : Met l yJ5_isLatin1_aae02 (jw yJ5_isLatin1_aae02 cJ5_isLatin1_aae02 1 (some .boolean)) ({ frames := 0, cells := 0, slots := 0, locals := 0 }) (va_Pc [.ref r0] (fun U => U.heap = H0 ∧ jX B base G0 [] H0 ∧ jG dC dI ca base U ∧ G0 r0 = some (0, 0) ∧ jP (dC, dI) G0 H0 [] ∧ True)) (va_Qi (S := Unit) (fun r u => (r = 0 ∨ r = 1) ∧ (r.toInt = 1)) (fun u t => jRt (dC, dI) B base G0 EJ5_isLatin1_aae02 H0 [] t.heap) (jA base)) 0 0 (jA base) := by
  refine Met.ofW (cc := cJ5_isLatin1_aae02) (maxL := 1) (ret := (some .boolean)) (by decide) rfl ?_
  intro p e s m args below meth c s₁ Bd hml hv
  obtain ⟨rfl, hH0, hX, hG, hg_r0, hP0, hp0⟩ := hv
  have hK := hG.1
  have hx := Bd.exec
  have hb := Bd.bytes
  have hr := Bd.returns
  have hts := atoms_spec (ws := (jw yJ5_isLatin1_aae02 cJ5_isLatin1_aae02 1 (some .boolean))) Bd.pre
  have htw : ∀ w ∈ jWl, w.before _ s = true := fun w h => hts w (List.mem_cons_of_mem _ h)
  have hown : s.vm.findClass RJ5 = some m.cls := findClass_of_methodNamed Bd.named
  have hlocks := Bd.notSynchronized
  obtain ⟨Q, hQ⟩ : ∃ Q, Q = MQ below (va_Qi (S := Unit) (fun r u => (r = 0 ∨ r = 1) ∧ (r.toInt = 1)) (fun u t => jRt (dC, dI) B base G0 EJ5_isLatin1_aae02 H0 [] t.heap) (jA base)) ([.ref r0] : List Value).toArray s 0 0 (jA base) := ⟨_, rfl⟩
  rw [← hQ]
  have hl := lv_entry ([.ref r0]) (n := 1) (Nat.le_of_ble_eq_true rfl)
  rw [lg_entry_eq]
  generalize (lg_sl ([.ref r0]) ++ List.replicate (1 - (lg_sl ([.ref r0])).length) Slot.unset).toArray = ls at hl ⊢
  have hl : lv_has ls 1 [(0, .ref r0)] := hl
  generalize hR : (headSpec (jw yJ5_isLatin1_aae02 cJ5_isLatin1_aae02 1 (some .boolean)) ({ frames := 0, cells := 0, slots := 0, locals := 0 })).room = R
  subst hH0
  have hh : jSt (dC, dI) B base G0 G0 EJ5_isLatin1_aae02 s.heap 0 0 [] [] [] s.heap [] := jSt.start hX hP0 jMc.nil jIs.nil
  clear hX hP0
  have hk0 : (0 : Int32).toInt = 0 := by decide
  have hk1 : (1 : Int32).toInt = 1 := by decide
  have hly_0_1 := htw (u_lay RJ4 TJ4 1) (jWc_wsJ40 _ (u_in_lay (by decide)))
  have hlk_22 := (htw (.fieldLink RJ5 22 "java/lang/AbstractStringBuilder" "coder" "B") (jWr_13 _ (List.mem_of_getElem? (i := 12) rfl)))
  refine va_gets hx hb hG.2.2.2.2.1 hh.1 hown (htw (.fieldLink RJ5 18 "java/lang/String" "COMPACT_STRINGS" "Z") (jWr_13 _ (List.mem_of_getElem? (i := 10) rfl))) (fun _ h9 => h9) dJ5_isLatin1_aae02_0 ?_
  refine lv_if_eq (tgt := 17) hx hb dJ5_isLatin1_aae02_3 (by decide) (fun c_2 => ?_) (fun c_2 => ?_)
  · skip
    exact absurd c_2 (by decide)
  · skip
    refine lv_aload_n hx hb dJ5_isLatin1_aae02_6 rfl (lv_at hl 0 rfl) ?_
    obtain ⟨v_3, hv_3, hh_4⟩ := hh.pin (C := RJ4) (T := TJ4) (N := 4) hB0 rfl (by decide) hg_r0 (i := 1) (by decide) rfl
    clear hh
    obtain ⟨coder_5, rfl, hlocoder_5, hhicoder_5⟩ := hv_3
    obtain rfl : coder_5 = 0 := Int32.toInt_inj.mp (by rw [show (0 : Int32).toInt = 0 by decide]; omega)
    refine j7_read hx hb hown hK (C := RJ4) (T := TJ4) (N := 4) rfl hly_0_1 hlk_22 (hh_4.at 0 rfl) dJ5_isLatin1_aae02_7 ?_
    refine lv_if_ne (tgt := 17) hx hb dJ5_isLatin1_aae02_10 (by decide) (fun c_6 => ?_) (fun c_6 => ?_)
    · skip
      exact absurd c_6 (by decide)
    · skip
      refine lv_iconst (v := 1) hx hb dJ5_isLatin1_aae02_13 (by decide) ?_
      refine lv_goto (tgt := 18) hx hb dJ5_isLatin1_aae02_14 (by decide) ?_
      rw [hQ]
      exact W.zret (v := 1) hx hb hr (jb_nz (Or.inr rfl)) (fun t ht hW => ⟨⟨1, (), rfl, ⟨(Or.inr rfl), by first | omega | rfl | assumption | decide | exact Or.inl rfl | exact Or.inr rfl | (simp only; omega)⟩, hh_4.rt (M1 := []) [] rfl ht⟩, by rw [ht]; try exact hh_4.1.1, fun q h9 hq => by rw [ht]; try exact hh_4.1.2.1 q h9 hq⟩) hh_4.1.2.2 dJ5_isLatin1_aae02_18
set_option maxHeartbeats 4000000 in
set_option maxRecDepth 20000 in
theorem uJ8_newLength_cabcc (l : Launch) (dC : Nat → ClassId) (dI : Nat → Nat → Nat) (ca : Nat → ClassId) (base : Nat) (B : jF) (hB : jBok B) (hAp : jAp (dC, dI)) (G0 : jT) (H0 : Heap) (a0 : Int32) (a1 : Int32) (a2 : Int32) : Met l yJ8_newLength_cabcc (jw yJ8_newLength_cabcc cJ8_newLength_cabcc 4 (some .int)) ({ frames := 1, cells := 0, slots := 0, locals := 32 }) (va_Pc [.int a0, .int a1, .int a2] (fun U => U.heap = H0 ∧ jX B base G0 [] H0 ∧ jG dC dI ca base U ∧ jP (dC, dI) G0 H0 [] ∧ 0 ≤ a0.toInt ∧ a0.toInt ≤ 100000 ∧ 1 ≤ a1.toInt ∧ a1.toInt ≤ 100000 ∧ 0 ≤ a2.toInt ∧ a2.toInt ≤ 100000)) (va_Qi (S := Unit) (fun r u => (a0.toInt + a1.toInt ≤ r.toInt ∧ a0.toInt + a2.toInt ≤ r.toInt ∧ (r.toInt ≤ a0.toInt + a1.toInt ∨ r.toInt ≤ a0.toInt + a2.toInt))) (fun u t => jRt (dC, dI) B base G0 EJ8_newLength_cabcc H0 [] t.heap) (jA base)) 0 0 (jA base) := by
  refine Met.ofW (cc := cJ8_newLength_cabcc) (maxL := 4) (ret := (some .int)) (by decide) rfl ?_
  intro p e s m args below meth c s₁ Bd hml hv
  obtain ⟨rfl, hH0, hX, hG, hP0, hp0, hp1, hp2, hp3, hp4, hp5⟩ := hv
  have hK := hG.1
  have hx := Bd.exec
  have hb := Bd.bytes
  have hr := Bd.returns
  have hts := atoms_spec (ws := (jw yJ8_newLength_cabcc cJ8_newLength_cabcc 4 (some .int))) Bd.pre
  have htw : ∀ w ∈ jWl, w.before _ s = true := fun w h => hts w (List.mem_cons_of_mem _ h)
  have hown : s.vm.findClass RJ8 = some m.cls := findClass_of_methodNamed Bd.named
  have hlocks := Bd.notSynchronized
  obtain ⟨Q, hQ⟩ : ∃ Q, Q = MQ below (va_Qi (S := Unit) (fun r u => (a0.toInt + a1.toInt ≤ r.toInt ∧ a0.toInt + a2.toInt ≤ r.toInt ∧ (r.toInt ≤ a0.toInt + a1.toInt ∨ r.toInt ≤ a0.toInt + a2.toInt))) (fun u t => jRt (dC, dI) B base G0 EJ8_newLength_cabcc H0 [] t.heap) (jA base)) ([.int a0, .int a1, .int a2] : List Value).toArray s 0 0 (jA base) := ⟨_, rfl⟩
  rw [← hQ]
  have hl := lv_entry ([.int a0, .int a1, .int a2]) (n := 4) (Nat.le_of_ble_eq_true rfl)
  rw [lg_entry_eq]
  generalize (lg_sl ([.int a0, .int a1, .int a2]) ++ List.replicate (4 - (lg_sl ([.int a0, .int a1, .int a2])).length) Slot.unset).toArray = ls at hl ⊢
  have hl : lv_has ls 4 [(0, .int a0), (1, .int a1), (2, .int a2)] := hl
  generalize hR : (headSpec (jw yJ8_newLength_cabcc cJ8_newLength_cabcc 4 (some .int)) ({ frames := 1, cells := 0, slots := 0, locals := 32 })).room = R
  subst hH0
  have hh : jSt (dC, dI) B base G0 G0 EJ8_newLength_cabcc s.heap 0 0 [] [] [] s.heap [] := jSt.start hX hP0 jMc.nil jIs.nil
  clear hX hP0
  have hk0 : (0 : Int32).toInt = 0 := by decide
  have hk1 : (1 : Int32).toInt = 1 := by decide
  have hk2147483639 : (2147483639 : Int32).toInt = 2147483639 := by decide
  have hcs_200 := htw (.constant RJ8 200 2147483639) (jWr_34 _ (List.mem_of_getElem? (i := 8) rfl))
  have hrg_a0 := jb_rng a0
  have hrg_a1 := jb_rng a1
  have hrg_a2 := jb_rng a2
  refine lv_iload_n hx hb dJ8_newLength_cabcc_0 rfl (lv_at hl 0 rfl) ?_
  refine lv_iload_n hx hb dJ8_newLength_cabcc_1 rfl (lv_at hl 1 rfl) ?_
  refine lv_iload_n hx hb dJ8_newLength_cabcc_2 rfl (lv_at hl 2 rfl) ?_
  refine va_mmax hx hb (by rw [hml]; exact hl.1.symm) hown (htw (.methodLink RJ8 194 Lib.Math.max.name) (jWr_34 _ (List.mem_of_getElem? (i := 7) rfl))) (htw (.static Lib.Math.max.name) (jWr_3 _ (List.mem_of_getElem? (i := 6) rfl))) (htw (.initialized "java/lang/Math") (jWr_3 _ (List.mem_of_getElem? (i := 7) rfl))) (htw (.code Lib.Math.max.name Lib.Math.max.code 2 (some .int)) (jWr_3 _ (List.mem_of_getElem? (i := 8) rfl))) (by rw [← hR]; exact Nat.le_of_ble_eq_true rfl) (by rw [← hR]; exact Nat.le_of_ble_eq_true rfl) (Nat.zero_le _) (Nat.zero_le _) dJ8_newLength_cabcc_3 ?_
  refine lv_topi (fun z_1 ez_1 => ?_)
  have hz_1 := jb_max ez_1
  refine lv_iadd hx hb dJ8_newLength_cabcc_6 ?_
  refine lv_topi (fun z_2 ez_2 => ?_)
  have hz_2 : z_2.toInt = a0.toInt + z_1.toInt := by rw [ez_2]; exact jb_iadd2 (rfl) (rfl) (by omega)
  refine lv_istore_n (lv' := [(3, .int z_2), (0, .int a0), (1, .int a1), (2, .int a2)]) hx hb dJ8_newLength_cabcc_7 rfl hl (by decide) rfl (fun ls hl => ?_)
  refine lv_iconst (v := 0) hx hb dJ8_newLength_cabcc_8 (by decide) ?_
  refine lv_iload_n hx hb dJ8_newLength_cabcc_9 rfl (lv_at hl 0 rfl) ?_
  refine lv_icmp_ge (tgt := 21) hx hb dJ8_newLength_cabcc_10 (by decide) (fun c_3 => ?_) (fun c_3 => ?_)
  · skip
    have c_3' : 0 ≥ z_2.toInt := jb_ge ((by decide)) (rfl) c_3
    exact absurd c_3' (by omega)
  · skip
    have c_3' : 0 < z_2.toInt := jb_ge_n ((by decide)) (rfl) c_3
    refine lv_iload_n hx hb dJ8_newLength_cabcc_13 rfl (lv_at hl 0 rfl) ?_
    refine lv_ldc hx hb hown hcs_200 dJ8_newLength_cabcc_14 ?_
    refine lv_icmp_gt (tgt := 21) hx hb dJ8_newLength_cabcc_16 (by decide) (fun c_4 => ?_) (fun c_4 => ?_)
    · skip
      have c_4' : z_2.toInt > 2147483639 := jb_gt (rfl) ((by decide)) c_4
      exact absurd c_4' (by omega)
    · skip
      have c_4' : z_2.toInt ≤ 2147483639 := jb_gt_n (rfl) ((by decide)) c_4
      refine lv_iload_n hx hb dJ8_newLength_cabcc_19 rfl (lv_at hl 0 rfl) ?_
      rw [hQ]
      exact W.iret (v := z_2) hx hb hr (fun t ht hW => ⟨⟨z_2, (), rfl, by first | omega | (refine ⟨?_, ?_, ?_⟩ <;> (first | omega | rfl | assumption | decide | exact Or.inl rfl | exact Or.inr rfl | (simp only; omega))), hh.rt (M1 := []) [] rfl ht⟩, by rw [ht]; try exact hh.1.1, fun q h9 hq => by rw [ht]; try exact hh.1.2.1 q h9 hq⟩) hh.1.2.2 dJ8_newLength_cabcc_20
set_option maxHeartbeats 4000000 in
set_option maxRecDepth 20000 in
theorem uJ5_newCapacity_0f7a4 (l : Launch) (dC : Nat → ClassId) (dI : Nat → Nat → Nat) (ca : Nat → ClassId) (base : Nat) (B : jF) (hB : jBok B) (hAp : jAp (dC, dI)) (hB0 : ∀ n G a H, B 0 n G a H ↔ jOb (dC, dI) 0 4 (Fz0 n G) a H) (hB198 : ∀ n G a H, B 198 n G a H ↔ jAr (dC, dI) (ca 0) (fun j z => jBf j z) n a H) (G0 : jT) (H0 : Heap) (r0 : Nat) (a1 : Int32) (pc : Int32) (pa : Nat) (n_pa : Nat) : Met l yJ5_newCapacity_0f7a4 (jw yJ5_newCapacity_0f7a4 cJ5_newCapacity_0f7a4 6 (some .int)) ({ frames := 2, cells := 0, slots := 0, locals := 55 }) (va_Pc [.ref r0, .int a1] (fun U => U.heap = H0 ∧ jX B base G0 [] H0 ∧ jG dC dI ca base U ∧ G0 r0 = some (0, 0) ∧ G0 pa = some (198, n_pa) ∧ jP (dC, dI) G0 H0 [(r0, 0, 3, .int pc), (r0, 0, 0, .ref pa)] ∧ n_pa ≤ 1000 ∧ n_pa < a1.toInt ∧ a1.toInt ≤ 1001)) (va_Qi (S := Unit) (fun r u => (a1.toInt ≤ r.toInt ∧ n_pa + n_pa + 2 ≤ r.toInt ∧ (r.toInt ≤ a1.toInt ∨ r.toInt ≤ n_pa + n_pa + 2))) (fun u t => jRt (dC, dI) B base G0 EJ5_newCapacity_0f7a4 H0 [] t.heap) (jA base)) 0 0 (jA base) := by
  refine Met.ofW (cc := cJ5_newCapacity_0f7a4) (maxL := 6) (ret := (some .int)) (by decide) rfl ?_
  intro p e s m args below meth c s₁ Bd hml hv
  obtain ⟨rfl, hH0, hX, hG, hg_r0, hg_pa, hP0, hp0, hp1, hp2⟩ := hv
  have hK := hG.1
  have hx := Bd.exec
  have hb := Bd.bytes
  have hr := Bd.returns
  have hts := atoms_spec (ws := (jw yJ5_newCapacity_0f7a4 cJ5_newCapacity_0f7a4 6 (some .int))) Bd.pre
  have htw : ∀ w ∈ jWl, w.before _ s = true := fun w h => hts w (List.mem_cons_of_mem _ h)
  have hown : s.vm.findClass RJ5 = some m.cls := findClass_of_methodNamed Bd.named
  have hlocks := Bd.notSynchronized
  obtain ⟨Q, hQ⟩ : ∃ Q, Q = MQ below (va_Qi (S := Unit) (fun r u => (a1.toInt ≤ r.toInt ∧ n_pa + n_pa + 2 ≤ r.toInt ∧ (r.toInt ≤ a1.toInt ∨ r.toInt ≤ n_pa + n_pa + 2))) (fun u t => jRt (dC, dI) B base G0 EJ5_newCapacity_0f7a4 H0 [] t.heap) (jA base)) ([.ref r0, .int a1] : List Value).toArray s 0 0 (jA base) := ⟨_, rfl⟩
  rw [← hQ]
  have hl := lv_entry ([.ref r0, .int a1]) (n := 6) (Nat.le_of_ble_eq_true rfl)
  rw [lg_entry_eq]
  generalize (lg_sl ([.ref r0, .int a1]) ++ List.replicate (6 - (lg_sl ([.ref r0, .int a1])).length) Slot.unset).toArray = ls at hl ⊢
  have hl : lv_has ls 6 [(0, .ref r0), (1, .int a1)] := hl
  generalize hR : (headSpec (jw yJ5_newCapacity_0f7a4 cJ5_newCapacity_0f7a4 6 (some .int)) ({ frames := 2, cells := 0, slots := 0, locals := 55 })).room = R
  subst hH0
  have hh : jSt (dC, dI) B base G0 G0 EJ5_newCapacity_0f7a4 s.heap 0 0 [(r0, 0, 3, .int pc), (r0, 0, 0, .ref pa)] [] [] s.heap [] := jSt.start hX hP0 jMc.nil jIs.nil
  clear hX hP0
  have hk0 : (0 : Int32).toInt = 0 := by decide
  have hk1 : (1 : Int32).toInt = 1 := by decide
  have hk2 : (2 : Int32).toInt = 2 := by decide
  have hk2147483647 : (2147483647 : Int32).toInt = 2147483647 := by decide
  have hly_0_0 := htw (u_lay RJ4 TJ4 0) (jWc_wsJ40 _ (u_in_lay (by decide)))
  have hly_0_1 := htw (u_lay RJ4 TJ4 1) (jWc_wsJ40 _ (u_in_lay (by decide)))
  have hlk_15 := (htw (.fieldLink RJ5 15 "java/lang/AbstractStringBuilder" "value" "[B") (jWr_13 _ (List.mem_of_getElem? (i := 11) rfl)))
  have hlk_22 := (htw (.fieldLink RJ5 22 "java/lang/AbstractStringBuilder" "coder" "B") (jWr_13 _ (List.mem_of_getElem? (i := 12) rfl)))
  have hcs_39 := htw (.constant RJ5 39 2147483647) (jWr_45 _ (List.mem_of_getElem? (i := 21) rfl))
  have hrg_a1 := jb_rng a1
  refine lv_aload_n hx hb dJ5_newCapacity_0f7a4_0 rfl (lv_at hl 0 rfl) ?_
  refine j7_read hx hb hown hK (C := RJ4) (T := TJ4) (N := 4) rfl hly_0_0 hlk_15 (hh.at 1 rfl) dJ5_newCapacity_0f7a4_1 ?_
  refine j7_len hx hb hK hh hB198 0 rfl (by decide) hg_pa (by omega) dJ5_newCapacity_0f7a4_4 (fun z_1 hz_1 => ?_)
  refine lv_istore_n (lv' := [(2, .int z_1), (0, .ref r0), (1, .int a1)]) hx hb dJ5_newCapacity_0f7a4_5 rfl hl (by decide) rfl (fun ls hl => ?_)
  refine lv_iload_n hx hb dJ5_newCapacity_0f7a4_6 rfl (lv_at hl 2 rfl) ?_
  refine lv_aload_n hx hb dJ5_newCapacity_0f7a4_7 rfl (lv_at hl 1 rfl) ?_
  obtain ⟨v_2, hv_2, hh_3⟩ := hh.pin (C := RJ4) (T := TJ4) (N := 4) hB0 rfl (by decide) hg_r0 (i := 1) (by decide) rfl
  clear hh
  obtain ⟨coder_4, rfl, hlocoder_4, hhicoder_4⟩ := hv_2
  obtain rfl : coder_4 = 0 := Int32.toInt_inj.mp (by rw [show (0 : Int32).toInt = 0 by decide]; omega)
  refine j7_read hx hb hown hK (C := RJ4) (T := TJ4) (N := 4) rfl hly_0_1 hlk_22 (hh_3.at 0 rfl) dJ5_newCapacity_0f7a4_8 ?_
  refine lv_ishl hx hb dJ5_newCapacity_0f7a4_11 ?_
  refine lv_topi (fun z_5 ez_5 => ?_)
  have hz_5 : z_5.toInt = a1.toInt := by rw [ez_5, jb_shl0]; try exact rfl
  refine lv_istore_n (lv' := [(3, .int z_5), (2, .int z_1), (0, .ref r0), (1, .int a1)]) hx hb dJ5_newCapacity_0f7a4_12 rfl hl (by decide) rfl (fun ls hl => ?_)
  refine lv_iload_n hx hb dJ5_newCapacity_0f7a4_13 rfl (lv_at hl 0 rfl) ?_
  refine lv_iload_n hx hb dJ5_newCapacity_0f7a4_14 rfl (lv_at hl 1 rfl) ?_
  refine lv_isub hx hb dJ5_newCapacity_0f7a4_15 ?_
  refine lv_topi (fun z_6 ez_6 => ?_)
  have hz_6 : z_6.toInt = z_5.toInt - z_1.toInt := by rw [ez_6]; exact jb_isub2 (rfl) (rfl) (by omega)
  refine lv_istore (lv' := [(4, .int z_6), (3, .int z_5), (2, .int z_1), (0, .ref r0), (1, .int a1)]) hx hb dJ5_newCapacity_0f7a4_16 hl (by decide) rfl (fun ls hl => ?_)
  refine lv_iload_n hx hb dJ5_newCapacity_0f7a4_18 rfl (lv_at hl 2 rfl) ?_
  refine lv_iload hx hb dJ5_newCapacity_0f7a4_19 (lv_at hl 0 rfl) ?_
  refine lv_iload_n hx hb dJ5_newCapacity_0f7a4_21 rfl (lv_at hl 2 rfl) ?_
  refine lv_iconst (v := 2) hx hb dJ5_newCapacity_0f7a4_22 (by decide) ?_
  refine lv_aload_n hx hb dJ5_newCapacity_0f7a4_23 rfl (lv_at hl 3 rfl) ?_
  refine j7_read hx hb hown hK (C := RJ4) (T := TJ4) (N := 4) rfl hly_0_1 hlk_22 (hh_3.at 0 rfl) dJ5_newCapacity_0f7a4_24 ?_
  refine lv_ishl hx hb dJ5_newCapacity_0f7a4_27 ?_
  refine lv_topi (fun z_7 ez_7 => ?_)
  have hz_7 : z_7.toInt = 2 := by rw [ez_7, jb_shl0]; try exact (by decide)
  refine lv_iadd hx hb dJ5_newCapacity_0f7a4_28 ?_
  refine lv_topi (fun z_8 ez_8 => ?_)
  have hz_8 : z_8.toInt = z_1.toInt + z_7.toInt := by rw [ez_8]; exact jb_iadd2 (rfl) (rfl) (by omega)
  refine va_calli (A0 := jA base) (H0 := s.heap) (va_runS (As := [.int z_1, .int z_6, .int z_8]) (rest := []) ⟨hx, hb, hml, hown, hts⟩ (uJ8_newLength_cabcc l dC dI ca base B hB hAp G0 s.heap z_1 z_6 z_8) (va_cwS 3 hts (jgS (jWr_45 _ (List.mem_of_getElem? (i := 22) rfl)) (jWr_34 _ (List.mem_of_getElem? (i := 4) rfl)) (jWr_34 _ (List.mem_of_getElem? (i := 5) rfl)) (jWr_34 _ (List.mem_of_getElem? (i := 6) rfl))) rfl rfl rfl (by decide +kernel) ⟨by rw [← hR]; exact Nat.le_of_ble_eq_true rfl, by rw [← hR]; exact Nat.le_of_ble_eq_true rfl⟩) ⟨fun a U g mk q => by obtain ⟨q0, q1, q2, qK, q10, q11⟩ := q; exact ⟨q0, q1, q2, jG.calling g mk a qK, q10, q11⟩, fun U hU hW => ⟨rfl, hU, hh_3.2.1, hG.step hW hU hh_3.1, jP.nil, by first | omega | (refine ⟨?_, ?_, ?_, ?_, ?_, ?_⟩ <;> (first | omega | rfl | assumption | decide | exact Or.inl rfl | exact Or.inr rfl | (simp only; omega)))⟩⟩ rfl rfl hl.1 rfl (lv_room (Nat.le_of_ble_eq_true rfl)) dJ5_newCapacity_0f7a4_29 ⟨Nat.zero_le _, Nat.zero_le _⟩) hh_3.1 (fun q _ h => h) (fun q h => h) (fun r_10 u_9 t_9 H_9 locs_9 ht_9 hvm_9 hr_10 hb_9 hz_9 hk_9 hS_9 => ?_)
  rw [ht_9] at hb_9
  obtain ⟨hb_91, hb_92, hb_93, hb_94, hb_95⟩ := hb_9
  have hh_9 : jSt (dC, dI) B base G0 G0 EJ5_newCapacity_0f7a4 s.heap 0 0 [(r0, 0, 1, .int 0), (r0, 0, 3, .int pc), (r0, 0, 0, .ref pa)] [] [] H_9 locs_9 := ((hh_3.call hb_91 hb_92 hb_93 hb_94 hS_9 rfl (L1 := [(r0, 0, 1, .int 0), (r0, 0, 3, .int pc), (r0, 0, 0, .ref pa)]) [0, 1, 2] rfl rfl (M1 := []) [] rfl rfl (I1 := []) [] rfl rfl).more hb_95)
  clear hh_3 ht_9 hvm_9 hz_9 hk_9 hS_9 hb_91 hb_92 hb_93 hb_94 hb_95
  obtain ⟨hr_10_0, hr_10_1, hr_10_2⟩ := hr_10
  refine lv_istore (lv' := [(5, .int r_10), (4, .int z_6), (3, .int z_5), (2, .int z_1), (0, .ref r0), (1, .int a1)]) hx hb dJ5_newCapacity_0f7a4_32 hl (by decide) rfl (fun ls hl => ?_)
  refine lv_iload hx hb dJ5_newCapacity_0f7a4_34 (lv_at hl 0 rfl) ?_
  refine lv_ldc hx hb hown hcs_39 dJ5_newCapacity_0f7a4_36 ?_
  refine lv_icmp_ne (tgt := 51) hx hb dJ5_newCapacity_0f7a4_38 (by decide) (fun c_11 => ?_) (fun c_11 => ?_)
  · skip
    have c_11' : r_10.toInt ≠ 2147483647 := jb_ne (rfl) ((by decide)) c_11
    refine lv_iload hx hb dJ5_newCapacity_0f7a4_51 (lv_at hl 0 rfl) ?_
    refine lv_aload_n hx hb dJ5_newCapacity_0f7a4_53 rfl (lv_at hl 4 rfl) ?_
    refine j7_read hx hb hown hK (C := RJ4) (T := TJ4) (N := 4) rfl hly_0_1 hlk_22 (hh_9.at 0 rfl) dJ5_newCapacity_0f7a4_54 ?_
    refine lv_ishr hx hb dJ5_newCapacity_0f7a4_57 ?_
    refine lv_topi (fun z_12 ez_12 => ?_)
    have hz_12 : z_12.toInt = r_10.toInt / 2 ^ 0 := by rw [ez_12]; exact jb_ishr 0 (rfl) (by decide)
    rw [hQ]
    exact W.iret (v := z_12) hx hb hr (fun t ht hW => ⟨⟨z_12, (), rfl, by first | omega | (refine ⟨?_, ?_, ?_⟩ <;> (first | omega | rfl | assumption | decide | exact Or.inl rfl | exact Or.inr rfl | (simp only; omega))), hh_9.rt (M1 := []) [] rfl ht⟩, by rw [ht]; try exact hh_9.1.1, fun q h9 hq => by rw [ht]; try exact hh_9.1.2.1 q h9 hq⟩) hh_9.1.2.2 dJ5_newCapacity_0f7a4_58
  · skip
    have c_11' : r_10.toInt = 2147483647 := jb_ne_n (rfl) ((by decide)) c_11
    exact absurd c_11' (by omega)
set_option maxHeartbeats 4000000 in
set_option maxRecDepth 20000 in
theorem uJ5_ensureCapacityInternal_d00df (l : Launch) (dC : Nat → ClassId) (dI : Nat → Nat → Nat) (ca : Nat → ClassId) (base : Nat) (B : jF) (hB : jBok B) (hAp : jAp (dC, dI)) (hB0 : ∀ n G a H, B 0 n G a H ↔ jOb (dC, dI) 0 4 (Fz0 n G) a H) (hB198 : ∀ n G a H, B 198 n G a H ↔ jAr (dC, dI) (ca 0) (fun j z => jBf j z) n a H) (G0 : jT) (H0 : Heap) (r0 : Nat) (a1 : Int32) (pc : Int32) (pa : Nat) (n_pa : Nat) : Met l yJ5_ensureCapacityInternal_d00df (jw yJ5_ensureCapacityInternal_d00df cJ5_ensureCapacityInternal_d00df 3 none) ({ frames := 3, cells := 0, slots := 0, locals := 80 }) (va_Pc [.ref r0, .int a1] (fun U => U.heap = H0 ∧ jX B base G0 [] H0 ∧ jG dC dI ca base U ∧ G0 r0 = some (0, 0) ∧ G0 pa = some (198, n_pa) ∧ jP (dC, dI) G0 H0 [(r0, 0, 3, .int pc), (r0, 0, 0, .ref pa)] ∧ 0 ≤ a1.toInt ∧ a1.toInt ≤ n_pa ∧ n_pa ≤ 1000)) (va_Qv (S := Unit) (fun u => True) (fun u t => jRt (dC, dI) B base G0 EJ5_ensureCapacityInternal_d00df H0 [] t.heap) (jA base)) 0 0 (jA base) := by
  refine Met.ofW (cc := cJ5_ensureCapacityInternal_d00df) (maxL := 3) (ret := none) (by decide) rfl ?_
  intro p e s m args below meth c s₁ Bd hml hv
  obtain ⟨rfl, hH0, hX, hG, hg_r0, hg_pa, hP0, hp0, hp1, hp2⟩ := hv
  have hK := hG.1
  have hx := Bd.exec
  have hb := Bd.bytes
  have hr := Bd.returns
  have hts := atoms_spec (ws := (jw yJ5_ensureCapacityInternal_d00df cJ5_ensureCapacityInternal_d00df 3 none)) Bd.pre
  have htw : ∀ w ∈ jWl, w.before _ s = true := fun w h => hts w (List.mem_cons_of_mem _ h)
  have hown : s.vm.findClass RJ5 = some m.cls := findClass_of_methodNamed Bd.named
  have hlocks := Bd.notSynchronized
  obtain ⟨Q, hQ⟩ : ∃ Q, Q = MQ below (va_Qv (S := Unit) (fun u => True) (fun u t => jRt (dC, dI) B base G0 EJ5_ensureCapacityInternal_d00df H0 [] t.heap) (jA base)) ([.ref r0, .int a1] : List Value).toArray s 0 0 (jA base) := ⟨_, rfl⟩
  rw [← hQ]
  have hl := lv_entry ([.ref r0, .int a1]) (n := 3) (Nat.le_of_ble_eq_true rfl)
  rw [lg_entry_eq]
  generalize (lg_sl ([.ref r0, .int a1]) ++ List.replicate (3 - (lg_sl ([.ref r0, .int a1])).length) Slot.unset).toArray = ls at hl ⊢
  have hl : lv_has ls 3 [(0, .ref r0), (1, .int a1)] := hl
  generalize hR : (headSpec (jw yJ5_ensureCapacityInternal_d00df cJ5_ensureCapacityInternal_d00df 3 none) ({ frames := 3, cells := 0, slots := 0, locals := 80 })).room = R
  subst hH0
  have hh : jSt (dC, dI) B base G0 G0 EJ5_ensureCapacityInternal_d00df s.heap 0 0 [(r0, 0, 3, .int pc), (r0, 0, 0, .ref pa)] [] [] s.heap [] := jSt.start hX hP0 jMc.nil jIs.nil
  clear hX hP0
  have hk0 : (0 : Int32).toInt = 0 := by decide
  have hk1 : (1 : Int32).toInt = 1 := by decide
  have hly_0_0 := htw (u_lay RJ4 TJ4 0) (jWc_wsJ40 _ (u_in_lay (by decide)))
  have hly_0_1 := htw (u_lay RJ4 TJ4 1) (jWc_wsJ40 _ (u_in_lay (by decide)))
  have hlk_15 := (htw (.fieldLink RJ5 15 "java/lang/AbstractStringBuilder" "value" "[B") (jWr_13 _ (List.mem_of_getElem? (i := 11) rfl)))
  have hlk_22 := (htw (.fieldLink RJ5 22 "java/lang/AbstractStringBuilder" "coder" "B") (jWr_13 _ (List.mem_of_getElem? (i := 12) rfl)))
  have hrg_a1 := jb_rng a1
  refine lv_aload_n hx hb dJ5_ensureCapacityInternal_d00df_0 rfl (lv_at hl 0 rfl) ?_
  refine j7_read hx hb hown hK (C := RJ4) (T := TJ4) (N := 4) rfl hly_0_0 hlk_15 (hh.at 1 rfl) dJ5_ensureCapacityInternal_d00df_1 ?_
  refine j7_len hx hb hK hh hB198 0 rfl (by decide) hg_pa (by omega) dJ5_ensureCapacityInternal_d00df_4 (fun z_1 hz_1 => ?_)
  refine lv_aload_n hx hb dJ5_ensureCapacityInternal_d00df_5 rfl (lv_at hl 0 rfl) ?_
  obtain ⟨v_2, hv_2, hh_3⟩ := hh.pin (C := RJ4) (T := TJ4) (N := 4) hB0 rfl (by decide) hg_r0 (i := 1) (by decide) rfl
  clear hh
  obtain ⟨coder_4, rfl, hlocoder_4, hhicoder_4⟩ := hv_2
  obtain rfl : coder_4 = 0 := Int32.toInt_inj.mp (by rw [show (0 : Int32).toInt = 0 by decide]; omega)
  refine j7_read hx hb hown hK (C := RJ4) (T := TJ4) (N := 4) rfl hly_0_1 hlk_22 (hh_3.at 0 rfl) dJ5_ensureCapacityInternal_d00df_6 ?_
  refine lv_ishr hx hb dJ5_ensureCapacityInternal_d00df_9 ?_
  refine lv_topi (fun z_5 ez_5 => ?_)
  have hz_5 : z_5.toInt = z_1.toInt / 2 ^ 0 := by rw [ez_5]; exact jb_ishr 0 (rfl) (by decide)
  refine lv_istore_n (lv' := [(2, .int z_5), (0, .ref r0), (1, .int a1)]) hx hb dJ5_ensureCapacityInternal_d00df_10 rfl hl (by decide) rfl (fun ls hl => ?_)
  refine lv_iload_n hx hb dJ5_ensureCapacityInternal_d00df_11 rfl (lv_at hl 2 rfl) ?_
  refine lv_iload_n hx hb dJ5_ensureCapacityInternal_d00df_12 rfl (lv_at hl 0 rfl) ?_
  refine lv_isub hx hb dJ5_ensureCapacityInternal_d00df_13 ?_
  refine lv_topi (fun z_6 ez_6 => ?_)
  have hz_6 : z_6.toInt = a1.toInt - z_5.toInt := by rw [ez_6]; exact jb_isub2 (rfl) (rfl) (by omega)
  refine lv_if_le (tgt := 38) hx hb dJ5_ensureCapacityInternal_d00df_14 (by decide) (fun c_7 => ?_) (fun c_7 => ?_)
  · skip
    have c_7' : z_6.toInt ≤ 0 := jb_le (rfl) ((by decide)) c_7
    rw [hQ]
    exact W.vret hx hb hr (fun t ht hW => ⟨⟨(), rfl, trivial, hh_3.rt (M1 := []) [] rfl ht⟩, by rw [ht]; try exact hh_3.1.1, fun q h9 hq => by rw [ht]; try exact hh_3.1.2.1 q h9 hq⟩) hh_3.1.2.2 dJ5_ensureCapacityInternal_d00df_38
  · skip
    have c_7' : z_6.toInt > 0 := jb_le_n (rfl) ((by decide)) c_7
    exact absurd c_7' (by omega)
set_option maxHeartbeats 4000000 in
set_option maxRecDepth 20000 in
theorem uJ5_setLength_d00df (l : Launch) (dC : Nat → ClassId) (dI : Nat → Nat → Nat) (ca : Nat → ClassId) (base : Nat) (B : jF) (hB : jBok B) (hAp : jAp (dC, dI)) (hB0 : ∀ n G a H, B 0 n G a H ↔ jOb (dC, dI) 0 4 (Fz0 n G) a H) (hB198 : ∀ n G a H, B 198 n G a H ↔ jAr (dC, dI) (ca 0) (fun j z => jBf j z) n a H) (G0 : jT) (H0 : Heap) (r0 : Nat) (a1 : Int32) (pc : Int32) (pa : Nat) (n_pa : Nat) : Met l yJ5_setLength_d00df (jw yJ5_setLength_d00df cJ5_setLength_d00df 2 none) ({ frames := 4, cells := 0, slots := 0, locals := 102 }) (va_Pc [.ref r0, .int a1] (fun U => U.heap = H0 ∧ jX B base G0 [] H0 ∧ jG dC dI ca base U ∧ G0 r0 = some (0, 0) ∧ G0 pa = some (198, n_pa) ∧ jP (dC, dI) G0 H0 [(r0, 0, 3, .int pc), (r0, 0, 0, .ref pa)] ∧ a1.toInt = 0 ∧ 0 ≤ pc.toInt ∧ n_pa ≤ 1000)) (va_Qv (S := Int32) (fun u => u.toInt = 0) (fun u t => (jRt (dC, dI) B base G0 EJ5_setLength_d00df H0 [(r0, 0, 3, .int u)] t.heap) ∧ jOw (dC, dI) G0 0 r0 H0 t.heap) (jA base)) 0 0 (jA base) := by
  refine Met.ofW (cc := cJ5_setLength_d00df) (maxL := 2) (ret := none) (by decide) rfl ?_
  intro p e s m args below meth c s₁ Bd hml hv
  obtain ⟨rfl, hH0, hX, hG, hg_r0, hg_pa, hP0, hp0, hp1, hp2⟩ := hv
  have hK := hG.1
  have hx := Bd.exec
  have hb := Bd.bytes
  have hr := Bd.returns
  have hts := atoms_spec (ws := (jw yJ5_setLength_d00df cJ5_setLength_d00df 2 none)) Bd.pre
  have htw : ∀ w ∈ jWl, w.before _ s = true := fun w h => hts w (List.mem_cons_of_mem _ h)
  have hown : s.vm.findClass RJ5 = some m.cls := findClass_of_methodNamed Bd.named
  have hlocks := Bd.notSynchronized
  obtain ⟨Q, hQ⟩ : ∃ Q, Q = MQ below (va_Qv (S := Int32) (fun u => u.toInt = 0) (fun u t => (jRt (dC, dI) B base G0 EJ5_setLength_d00df H0 [(r0, 0, 3, .int u)] t.heap) ∧ jOw (dC, dI) G0 0 r0 H0 t.heap) (jA base)) ([.ref r0, .int a1] : List Value).toArray s 0 0 (jA base) := ⟨_, rfl⟩
  rw [← hQ]
  have hl := lv_entry ([.ref r0, .int a1]) (n := 2) (Nat.le_of_ble_eq_true rfl)
  rw [lg_entry_eq]
  generalize (lg_sl ([.ref r0, .int a1]) ++ List.replicate (2 - (lg_sl ([.ref r0, .int a1])).length) Slot.unset).toArray = ls at hl ⊢
  have hl : lv_has ls 2 [(0, .ref r0), (1, .int a1)] := hl
  generalize hR : (headSpec (jw yJ5_setLength_d00df cJ5_setLength_d00df 2 none) ({ frames := 4, cells := 0, slots := 0, locals := 102 })).room = R
  subst hH0
  have hh : jSt (dC, dI) B base G0 G0 EJ5_setLength_d00df s.heap 0 0 [(r0, 0, 3, .int pc), (r0, 0, 0, .ref pa)] [] [] s.heap [] := jSt.start hX hP0 jMc.nil jIs.nil
  clear hX hP0
  have hk0 : (0 : Int32).toInt = 0 := by decide
  have hk1 : (1 : Int32).toInt = 1 := by decide
  have hly_0_0 := htw (u_lay RJ4 TJ4 0) (jWc_wsJ40 _ (u_in_lay (by decide)))
  have hly_0_2 := htw (u_lay RJ4 TJ4 2) (jWc_wsJ40 _ (u_in_lay (by decide)))
  have hly_0_3 := htw (u_lay RJ4 TJ4 3) (jWc_wsJ40 _ (u_in_lay (by decide)))
  have hlk_79 := (htw (.fieldLink RJ5 79 "java/lang/AbstractStringBuilder" "count" "I") (jWr_45 _ (List.mem_of_getElem? (i := 9) rfl)))
  have hlk_15 := (htw (.fieldLink RJ5 15 "java/lang/AbstractStringBuilder" "value" "[B") (jWr_13 _ (List.mem_of_getElem? (i := 11) rfl)))
  have hlk_73 := (htw (.fieldLink RJ5 73 "java/lang/AbstractStringBuilder" "maybeLatin1" "Z") (jWr_45 _ (List.mem_of_getElem? (i := 10) rfl)))
  have hrg_a1 := jb_rng a1
  have hh_1 := hh.addI (jOw.ie (dC := dC) (dI := dI) (G0 := G0) (k := 0) (r := r0) (H0 := s.heap) (F := [(0, 0), (0, 1), (0, 2), (0, 3)]) (C := RJ4) (T := TJ4) (N := 4) rfl (by decide) hh.2.2.2.2.1 (jOw.rf))
  clear hh
  refine lv_iload_n hx hb dJ5_setLength_d00df_0 rfl (lv_at hl 1 rfl) ?_
  refine lv_if_ge (tgt := 13) hx hb dJ5_setLength_d00df_1 (by decide) (fun c_2 => ?_) (fun c_2 => ?_)
  · skip
    have c_2' : a1.toInt ≥ 0 := jb_ge (rfl) ((by decide)) c_2
    refine lv_aload_n hx hb dJ5_setLength_d00df_13 rfl (lv_at hl 0 rfl) ?_
    refine lv_iload_n hx hb dJ5_setLength_d00df_14 rfl (lv_at hl 1 rfl) ?_
    refine va_callv (A0 := jA base) (H0 := s.heap) (va_runU (As := [.int a1]) (rest := []) ⟨hx, hb, hml, hown, hts⟩ (uJ5_ensureCapacityInternal_d00df l dC dI ca base B hB hAp hB0 hB198 G0 s.heap r0 a1 pc pa n_pa) (va_cwU 1 hts (jgX (jWr_45 _ (List.mem_of_getElem? (i := 11) rfl)) (jWr_45 _ (List.mem_of_getElem? (i := 12) rfl)) (jWr_45 _ (List.mem_of_getElem? (i := 13) rfl)) (jWr_45 _ (List.mem_of_getElem? (i := 14) rfl)) (jWr_13 _ (List.mem_of_getElem? (i := 7) rfl)) (jWr_45 _ (List.mem_of_getElem? (i := 15) rfl))) rfl rfl rfl rfl (by decide +kernel) ⟨by rw [← hR]; exact Nat.le_of_ble_eq_true rfl, by rw [← hR]; exact Nat.le_of_ble_eq_true rfl⟩) ⟨fun a U g mk q => by obtain ⟨q0, q1, q2, qK, q10, q11, q12, q13⟩ := q; exact ⟨q0, q1, q2, jG.calling g mk a qK, q10, q11, q12, q13⟩, hh_1.recv (C := RJ4) (T := TJ4) (N := 4) hB0 rfl (by decide) hg_r0 hK, fun U hU hW => ⟨rfl, hU, hh_1.2.1, hG.step hW hU hh_1.1, hg_r0, hg_pa, (hh_1.2.2.1.sub (L1 := [(r0, 0, 3, .int pc), (r0, 0, 0, .ref pa)]) [0, 1] rfl), by first | omega | (refine ⟨?_, ?_, ?_⟩ <;> (first | omega | rfl | assumption | decide | exact Or.inl rfl | exact Or.inr rfl | (simp only; omega)))⟩⟩ rfl rfl hl.1 rfl (lv_room (Nat.le_of_ble_eq_true rfl)) dJ5_setLength_d00df_15 ⟨Nat.zero_le _, Nat.zero_le _⟩) hh_1.1 (fun q _ h => h) (fun q h => h) (fun u_3 t_3 H_3 locs_3 ht_3 hvm_3 hr_4 hb_3 hz_3 hk_3 hS_3 => ?_)
    rw [ht_3] at hb_3
    obtain ⟨hb_31, hb_32, hb_33, hb_34, hb_35⟩ := hb_3
    have hh_3 : jSt (dC, dI) B base G0 G0 EJ5_setLength_d00df s.heap 0 0 [(r0, 0, 3, .int pc), (r0, 0, 0, .ref pa)] [] [([(0, 0), (0, 1), (0, 2), (0, 3)], jOw (dC, dI) G0 0 r0 s.heap)] H_3 locs_3 := ((hh_1.call hb_31 hb_32 hb_33 hb_34 hS_3 rfl (L1 := [(r0, 0, 3, .int pc), (r0, 0, 0, .ref pa)]) [0, 1] rfl rfl (M1 := []) [] rfl rfl (I1 := [([(0, 0), (0, 1), (0, 2), (0, 3)], jOw (dC, dI) G0 0 r0 s.heap)]) [0] rfl rfl).more hb_35)
    clear hh_1 ht_3 hvm_3 hz_3 hk_3 hS_3 hb_31 hb_32 hb_33 hb_34 hb_35
    refine lv_aload_n hx hb dJ5_setLength_d00df_18 rfl (lv_at hl 0 rfl) ?_
    refine j7_read hx hb hown hK (C := RJ4) (T := TJ4) (N := 4) rfl hly_0_3 hlk_79 (hh_3.at 0 rfl) dJ5_setLength_d00df_19 ?_
    refine lv_iload_n hx hb dJ5_setLength_d00df_22 rfl (lv_at hl 1 rfl) ?_
    refine lv_icmp_ge (tgt := 63) hx hb dJ5_setLength_d00df_23 (by decide) (fun c_5 => ?_) (fun c_5 => ?_)
    · skip
      have c_5' : pc.toInt ≥ a1.toInt := jb_ge (rfl) (rfl) c_5
      refine lv_aload_n hx hb dJ5_setLength_d00df_63 rfl (lv_at hl 0 rfl) ?_
      refine j7_read hx hb hown hK (C := RJ4) (T := TJ4) (N := 4) rfl hly_0_3 hlk_79 (hh_3.at 0 rfl) dJ5_setLength_d00df_64 ?_
      refine lv_iload_n hx hb dJ5_setLength_d00df_67 rfl (lv_at hl 1 rfl) ?_
      refine lv_icmp_le (tgt := 76) hx hb dJ5_setLength_d00df_68 (by decide) (fun c_6 => ?_) (fun c_6 => ?_)
      · skip
        have c_6' : pc.toInt ≤ a1.toInt := jb_le (rfl) (rfl) c_6
        refine lv_aload_n hx hb dJ5_setLength_d00df_76 rfl (lv_at hl 0 rfl) ?_
        refine lv_iload_n hx hb dJ5_setLength_d00df_77 rfl (lv_at hl 1 rfl) ?_
        have hd_8 := hh_3.iv 0 rfl
        have hh_9 := hh_3.sub (L1 := [(r0, 0, 3, .int pc), (r0, 0, 0, .ref pa)]) [0, 1] rfl (M1 := []) [] rfl (I1 := []) [] rfl
        clear hh_3
        refine j7_putX hx hb hown hK hh_9 hB hAp hB0 (C := RJ4) (T := TJ4) (N := 4) rfl (by decide) hg_r0 (i := 3) (by decide) hly_0_3 rfl hlk_79 rfl (ty := .int) (v := .int a1) (by decide +kernel) rfl rfl (⟨_, rfl, by omega, by omega⟩) rfl (L1 := [(r0, 0, 0, .ref pa)]) [1] rfl rfl rfl dJ5_setLength_d00df_78 (fun H_7 locs_7 hr_7 hh_7 => ?_)
        clear hh_9
        have hd_8n := jOw.put hd_8 hr_7
        have hh_10 := hh_7.addI (jOw.ie (dC := dC) (dI := dI) (G0 := G0) (k := 0) (r := r0) (H0 := s.heap) (F := [(0, 0), (0, 1), (0, 2), (0, 3)]) (C := RJ4) (T := TJ4) (N := 4) rfl (by decide) hh_7.2.2.2.2.1 (hd_8n))
        clear hh_7
        clear hd_8 hd_8n hr_7
        rw [hQ]
        exact W.vret hx hb hr (fun t ht hW => ⟨⟨a1, rfl, by (try dsimp only); first | omega | rfl | assumption | decide | exact Or.inl rfl | exact Or.inr rfl | (simp only; omega), ⟨hh_10.rt (M1 := [(r0, 0, 3, .int a1)]) [0] rfl ht, by rw [ht]; exact hh_10.iv 0 rfl⟩⟩, by rw [ht]; try exact hh_10.1.1, fun q h9 hq => by rw [ht]; try exact hh_10.1.2.1 q h9 hq⟩) hh_10.1.2.2 dJ5_setLength_d00df_81
      · skip
        have c_6' : pc.toInt > a1.toInt := jb_le_n (rfl) (rfl) c_6
        refine lv_aload_n hx hb dJ5_setLength_d00df_71 rfl (lv_at hl 0 rfl) ?_
        refine lv_iconst (v := 1) hx hb dJ5_setLength_d00df_72 (by decide) ?_
        have hd_12 := hh_3.iv 0 rfl
        have hh_13 := hh_3.sub (L1 := [(r0, 0, 3, .int pc), (r0, 0, 0, .ref pa)]) [0, 1] rfl (M1 := []) [] rfl (I1 := []) [] rfl
        clear hh_3
        refine j7_putX hx hb hown hK hh_13 hB hAp hB0 (C := RJ4) (T := TJ4) (N := 4) rfl (by decide) hg_r0 (i := 2) (by decide) hly_0_2 rfl hlk_73 rfl (ty := .boolean) (v := .int 1) (by decide +kernel) (jb_nz (Or.inr rfl)) (jb_fz (Or.inr rfl)) (⟨_, rfl, (Or.inr rfl)⟩) rfl (L1 := [(r0, 0, 3, .int pc), (r0, 0, 0, .ref pa)]) [0, 1] rfl rfl rfl dJ5_setLength_d00df_73 (fun H_11 locs_11 hr_11 hh_11 => ?_)
        clear hh_13
        have hd_12n := jOw.put hd_12 hr_11
        have hh_14 := hh_11.addI (jOw.ie (dC := dC) (dI := dI) (G0 := G0) (k := 0) (r := r0) (H0 := s.heap) (F := [(0, 0), (0, 1), (0, 2), (0, 3)]) (C := RJ4) (T := TJ4) (N := 4) rfl (by decide) hh_11.2.2.2.2.1 (hd_12n))
        clear hh_11
        clear hd_12 hd_12n hr_11
        refine lv_aload_n hx hb dJ5_setLength_d00df_76 rfl (lv_at hl 0 rfl) ?_
        refine lv_iload_n hx hb dJ5_setLength_d00df_77 rfl (lv_at hl 1 rfl) ?_
        have hd_16 := hh_14.iv 0 rfl
        have hh_17 := hh_14.sub (L1 := [(r0, 0, 2, .int 1), (r0, 0, 3, .int pc), (r0, 0, 0, .ref pa)]) [0, 1, 2] rfl (M1 := []) [] rfl (I1 := []) [] rfl
        clear hh_14
        refine j7_putX hx hb hown hK hh_17 hB hAp hB0 (C := RJ4) (T := TJ4) (N := 4) rfl (by decide) hg_r0 (i := 3) (by decide) hly_0_3 rfl hlk_79 rfl (ty := .int) (v := .int a1) (by decide +kernel) rfl rfl (⟨_, rfl, by omega, by omega⟩) rfl (L1 := [(r0, 0, 2, .int 1), (r0, 0, 0, .ref pa)]) [0, 2] rfl rfl rfl dJ5_setLength_d00df_78 (fun H_15 locs_15 hr_15 hh_15 => ?_)
        clear hh_17
        have hd_16n := jOw.put hd_16 hr_15
        have hh_18 := hh_15.addI (jOw.ie (dC := dC) (dI := dI) (G0 := G0) (k := 0) (r := r0) (H0 := s.heap) (F := [(0, 0), (0, 1), (0, 2), (0, 3)]) (C := RJ4) (T := TJ4) (N := 4) rfl (by decide) hh_15.2.2.2.2.1 (hd_16n))
        clear hh_15
        clear hd_16 hd_16n hr_15
        rw [hQ]
        exact W.vret hx hb hr (fun t ht hW => ⟨⟨a1, rfl, by (try dsimp only); first | omega | rfl | assumption | decide | exact Or.inl rfl | exact Or.inr rfl | (simp only; omega), ⟨hh_18.rt (M1 := [(r0, 0, 3, .int a1)]) [0] rfl ht, by rw [ht]; exact hh_18.iv 0 rfl⟩⟩, by rw [ht]; try exact hh_18.1.1, fun q h9 hq => by rw [ht]; try exact hh_18.1.2.1 q h9 hq⟩) hh_18.1.2.2 dJ5_setLength_d00df_81
    · skip
      have c_5' : pc.toInt < a1.toInt := jb_ge_n (rfl) (rfl) c_5
      exact absurd c_5' (by omega)
  · skip
    have c_2' : a1.toInt < 0 := jb_ge_n (rfl) ((by decide)) c_2
    exact absurd c_2' (by omega)
set_option maxHeartbeats 4000000 in
set_option maxRecDepth 20000 in
theorem uJ4_setLength_d00df (l : Launch) (dC : Nat → ClassId) (dI : Nat → Nat → Nat) (ca : Nat → ClassId) (base : Nat) (B : jF) (hB : jBok B) (hAp : jAp (dC, dI)) (hB0 : ∀ n G a H, B 0 n G a H ↔ jOb (dC, dI) 0 4 (Fz0 n G) a H) (hB198 : ∀ n G a H, B 198 n G a H ↔ jAr (dC, dI) (ca 0) (fun j z => jBf j z) n a H) (G0 : jT) (H0 : Heap) (r0 : Nat) (a1 : Int32) (pc : Int32) (pa : Nat) (n_pa : Nat) : Met l yJ4_setLength_d00df (jw yJ4_setLength_d00df cJ4_setLength_d00df 2 none) ({ frames := 5, cells := 0, slots := 0, locals := 123 }) (va_Pc [.ref r0, .int a1] (fun U => U.heap = H0 ∧ jX B base G0 [] H0 ∧ jG dC dI ca base U ∧ G0 r0 = some (0, 0) ∧ G0 pa = some (198, n_pa) ∧ jP (dC, dI) G0 H0 [(r0, 0, 3, .int pc), (r0, 0, 0, .ref pa)] ∧ a1.toInt = 0 ∧ 0 ≤ pc.toInt ∧ n_pa ≤ 1000)) (va_Qv (S := Int32) (fun u => u.toInt = 0) (fun u t => (jRt (dC, dI) B base G0 EJ4_setLength_d00df H0 [(r0, 0, 3, .int u)] t.heap) ∧ jOw (dC, dI) G0 0 r0 H0 t.heap) (jA base)) 0 0 (jA base) := by
  refine Met.ofW (cc := cJ4_setLength_d00df) (maxL := 2) (ret := none) (by decide) rfl ?_
  intro p e s m args below meth c s₁ Bd hml hv
  obtain ⟨rfl, hH0, hX, hG, hg_r0, hg_pa, hP0, hp0, hp1, hp2⟩ := hv
  have hK := hG.1
  have hx := Bd.exec
  have hb := Bd.bytes
  have hr := Bd.returns
  have hts := atoms_spec (ws := (jw yJ4_setLength_d00df cJ4_setLength_d00df 2 none)) Bd.pre
  have htw : ∀ w ∈ jWl, w.before _ s = true := fun w h => hts w (List.mem_cons_of_mem _ h)
  have hown : s.vm.findClass RJ4 = some m.cls := findClass_of_methodNamed Bd.named
  have hlocks := Bd.notSynchronized
  obtain ⟨Q, hQ⟩ : ∃ Q, Q = MQ below (va_Qv (S := Int32) (fun u => u.toInt = 0) (fun u t => (jRt (dC, dI) B base G0 EJ4_setLength_d00df H0 [(r0, 0, 3, .int u)] t.heap) ∧ jOw (dC, dI) G0 0 r0 H0 t.heap) (jA base)) ([.ref r0, .int a1] : List Value).toArray s 0 0 (jA base) := ⟨_, rfl⟩
  rw [← hQ]
  have hl := lv_entry ([.ref r0, .int a1]) (n := 2) (Nat.le_of_ble_eq_true rfl)
  rw [lg_entry_eq]
  generalize (lg_sl ([.ref r0, .int a1]) ++ List.replicate (2 - (lg_sl ([.ref r0, .int a1])).length) Slot.unset).toArray = ls at hl ⊢
  have hl : lv_has ls 2 [(0, .ref r0), (1, .int a1)] := hl
  generalize hR : (headSpec (jw yJ4_setLength_d00df cJ4_setLength_d00df 2 none) ({ frames := 5, cells := 0, slots := 0, locals := 123 })).room = R
  subst hH0
  have hh : jSt (dC, dI) B base G0 G0 EJ4_setLength_d00df s.heap 0 0 [(r0, 0, 3, .int pc), (r0, 0, 0, .ref pa)] [] [] s.heap [] := jSt.start hX hP0 jMc.nil jIs.nil
  clear hX hP0
  have hk0 : (0 : Int32).toInt = 0 := by decide
  have hk1 : (1 : Int32).toInt = 1 := by decide
  have hrg_a1 := jb_rng a1
  have hh_1 := hh.addI (jOw.ie (dC := dC) (dI := dI) (G0 := G0) (k := 0) (r := r0) (H0 := s.heap) (F := [(0, 0), (0, 1), (0, 2), (0, 3)]) (C := RJ4) (T := TJ4) (N := 4) rfl (by decide) hh.2.2.2.2.1 (jOw.rf))
  clear hh
  refine lv_aload_n hx hb dJ4_setLength_d00df_0 rfl (lv_at hl 0 rfl) ?_
  refine lv_iload_n hx hb dJ4_setLength_d00df_1 rfl (lv_at hl 1 rfl) ?_
  refine va_callv (A0 := jA base) (H0 := s.heap) (va_runSU (hK.1 0 _ rfl).2 (As := [.int a1]) (rest := []) ⟨hx, hb, hml, hown, hts⟩ (uJ5_setLength_d00df l dC dI ca base B hB hAp hB0 hB198 G0 s.heap r0 a1 pc pa n_pa) (va_cwSU 1 hts (jgU (jWr_45 _ (List.mem_of_getElem? (i := 4) rfl)) (jWr_45 _ (List.mem_of_getElem? (i := 5) rfl)) (jWr_45 _ (List.mem_of_getElem? (i := 6) rfl)) (jWr_45 _ (List.mem_of_getElem? (i := 7) rfl)) (jWr_13 _ (List.mem_of_getElem? (i := 7) rfl)) (jWr_45 _ (List.mem_of_getElem? (i := 8) rfl))) rfl rfl rfl (by decide +kernel) ⟨by rw [← hR]; exact Nat.le_of_ble_eq_true rfl, by rw [← hR]; exact Nat.le_of_ble_eq_true rfl⟩) ⟨fun a U g mk q => by obtain ⟨q0, q1, q2, qK, q10, q11, q12, q13⟩ := q; exact ⟨q0, q1, q2, jG.calling g mk a qK, q10, q11, q12, q13⟩, hh_1.recv (C := RJ4) (T := TJ4) (N := 4) hB0 rfl (by decide) hg_r0 hK, fun U hU hW => ⟨rfl, hU, hh_1.2.1, hG.step hW hU hh_1.1, hg_r0, hg_pa, (hh_1.2.2.1.sub (L1 := [(r0, 0, 3, .int pc), (r0, 0, 0, .ref pa)]) [0, 1] rfl), by first | omega | (refine ⟨?_, ?_, ?_⟩ <;> (first | omega | rfl | assumption | decide | exact Or.inl rfl | exact Or.inr rfl | (simp only; omega)))⟩⟩ rfl rfl hl.1 rfl (lv_room (Nat.le_of_ble_eq_true rfl)) dJ4_setLength_d00df_2 ⟨Nat.zero_le _, Nat.zero_le _⟩) hh_1.1 (fun q _ h => h) (fun q h => h) (fun u_2 t_2 H_2 locs_2 ht_2 hvm_2 hr_3 hb_2 hz_2 hk_2 hS_2 => ?_)
  obtain ⟨qc_2, rfl⟩ : ∃ z, z = u_2 := ⟨_, rfl⟩
  rw [ht_2] at hb_2
  obtain ⟨hb_2, hbO_2⟩ := hb_2
  obtain ⟨hb_21, hb_22, hb_23, hb_24, hb_25⟩ := hb_2
  have hh_2 : jSt (dC, dI) B base G0 G0 EJ4_setLength_d00df s.heap 0 0 [(r0, 0, 3, .int qc_2), (r0, 0, 0, .ref pa)] [] [] H_2 locs_2 := ((hh_1.call hb_21 hb_22 hb_23 hb_24 hS_2 rfl (L1 := [(r0, 0, 0, .ref pa)]) [1] rfl rfl (M1 := []) [] rfl rfl (I1 := []) [] rfl rfl).more hb_25)
  have hd_4 := jOw.tr (hh_1.iv 0 rfl) hh_1.2.2.2.2.1 hbO_2
  have hh_5 := hh_2.addI (jOw.ie (dC := dC) (dI := dI) (G0 := G0) (k := 0) (r := r0) (H0 := s.heap) (F := [(0, 0), (0, 1), (0, 2), (0, 3)]) (C := RJ4) (T := TJ4) (N := 4) rfl (by decide) hh_2.2.2.2.2.1 (hd_4))
  clear hh_2
  clear hh_1 ht_2 hvm_2 hz_2 hk_2 hS_2 hb_21 hb_22 hb_23 hb_24 hb_25
  rw [hQ]
  exact W.vret hx hb hr (fun t ht hW => ⟨⟨qc_2, rfl, by (try dsimp only); first | omega | rfl | assumption | decide | exact Or.inl rfl | exact Or.inr rfl | (simp only; omega), ⟨hh_5.rt (M1 := [(r0, 0, 3, .int qc_2)]) [0] rfl ht, by rw [ht]; exact hh_5.iv 0 rfl⟩⟩, by rw [ht]; try exact hh_5.1.1, fun q h9 hq => by rw [ht]; try exact hh_5.1.2.1 q h9 hq⟩) hh_5.1.2.2 dJ4_setLength_d00df_5
end
section
-- more cells: what is known stays known (a call that makes cells; none of them is a document of the reference)
theorem jIs.lift {D : va_G} {G G1 : jT} {H : Heap} {L : List jIv} (hle : jLe G G1) (h : jIs D G H L) : jIs D G1 H L := fun q hq => ⟨(h q hq).1, fun Ha Hb hA => (h q hq).2 Ha Hb (hA.low hle)⟩
theorem jMc.lift {D : va_G} {G G1 : jT} {H : Heap} {M : List jCt} (hle : jLe G G1) (h : jMc D G H M) : jMc D G1 H M := fun q hq => by
  obtain ⟨q1, q2, q3, q4⟩ := h q hq
  exact ⟨hle _ _ q1, q2, q3, q4⟩
theorem jSt.callG {dC : Nat → ClassId} {dI : Nat → Nat → Nat} {B : jF} {base : Nat} {G0 G : jT} {E : List (Nat × Nat)} {H0 : Heap} {zc zs : Nat} {L : List jPin} {M : List jCt} {I : List jIv} {H : Heap} {locs : List Loc} (hh : jSt (dC, dI) B base G0 G E H0 zc zs L M I H locs) {E1 : List (Nat × Nat)} {H1 : Heap} {locs1 : List Loc} {G1 : jT} {wc ws : Nat} (hX : jX B base G1 [] H1) (hG : jLe G G1) (hk : jKp (dC, dI) G E1 H H1) (hz : H1.size ≤ H.size + wc) (ht : jTot H1 ≤ jTot H + ws) (hS : va_S (jA base) H0 H1 locs1) (hE : E1.all (fun q => E.contains q) = true) {L1 : List jPin} (is : List Nat) (hs : is.map (fun i => L[i]?) = L1.map some) (hn : L1.all (fun q => !(E1.contains (q.2.1, q.2.2.1))) = true) {M1 : List jCt} (js : List Nat) (hjs : js.map (fun i => M[i]?) = M1.map some) (hjn : M1.all (fun q => !(E1.contains (q.2.1, 0))) = true) {I1 : List jIv} (ks : List Nat) (hks : ks.map (fun i => I[i]?) = I1.map some) (hkn : I1.all (fun q => E1.all (fun x => !(q.1.contains x))) = true) : jSt (dC, dI) B base G0 G1 E H0 (zc + wc) (zs + ws) L1 M1 I1 H1 locs1 := by
  obtain ⟨h1, h2, h3, h4, h5, h6, h7, h8, h9⟩ := hh
  exact ⟨hS, hX, h3.over hk hG is hs hn, h4.tr (hk.sub h5 hE), h5.tr hG, by omega, by omega, h8.over hk hG js hjs hjn, ((h9.sub ks hks).ag (fun q hq => jAg.of hk (List.all_eq_true.mp hkn q hq))).lift hG⟩
theorem jD2.grow {dC : Nat → ClassId} {dI : Nat → Nat → Nat} {ca : Nat → ClassId} {G G1 : jT} {a yb ye : Nat} {ps : Int32} {H : Heap} (h : jD2 dC dI ca G a yb ye ps H) (hle : jLe G G1) : jD2 dC dI ca G1 a yb ye ps H := by
  obtain ⟨fb, fe, g1, g2, g3, g4, g5⟩ := h
  exact ⟨fb, fe, hle _ _ g1, hle _ _ g2, g3.lift hle, g4.lift hle, g5⟩
theorem jDY.grow {dC : Nat → ClassId} {dI : Nat → Nat → Nat} {ca : Nat → ClassId} {G G1 : jT} {x : Option Nat} {sn : Nat → Int32} {H : Heap} (h : jDY dC dI ca G x sn H) (hle : jLe G G1) (hn : jN14 G G1) : jDY dC dI ca G1 x sn H := by
  obtain ⟨Yb, Ye, h1, h2, h3, h4⟩ := h
  refine ⟨Yb, Ye, fun a ha => ?_, fun a b ha hb => h2 a b (hn a ha) (hn b hb), fun a b ha hb => h3 a b (hn a ha) (hn b hb), fun a ha hx => (h4 a (hn a ha) hx).grow hle⟩
  obtain ⟨g1, g2, g3, g4⟩ := h1 a (hn a ha)
  exact ⟨g1, g2, hle _ _ g3, hle _ _ g4⟩
theorem jVl.grow {dC : Nat → ClassId} {dI : Nat → Nat → Nat} {G G1 : jT} {i : Nat} {v : Nat → Int32} {H : Heap} (h : jVl dC dI G i v H) (hn : jN14 G G1) : jVl dC dI G1 i v H := fun a ha => h a (hn a ha)
theorem jFT.grow {dC : Nat → ClassId} {dI : Nat → Nat → Nat} {ca : Nat → ClassId} {G G1 : jT} {xb xe : Nat} {H : Heap} (h : jFT dC dI ca G xb xe H) (hle : jLe G G1) : jFT dC dI ca G1 xb xe H := by
  obtain ⟨fb, fe, h1, h2⟩ := h
  exact ⟨fb, fe, h1.lift hle, h2⟩
theorem jDV.grow {dC : Nat → ClassId} {dI : Nat → Nat → Nat} {ca : Nat → ClassId} {G G1 : jT} {r dd co cs ol nw td : Nat} {H : Heap} (h : jDV dC dI ca G r dd co cs ol nw td H) (hle : jLe G G1) (hn : jN14 G G1) (hd : G dd = some (201, 3)) (hc : G co = some (208, 2)) : jDV dC dI ca G1 r dd co cs ol nw td H := by
  obtain ⟨sn, ck, fs, fd, fo, dc, h1, h2, h3, h4⟩ := h
  refine ⟨sn, ck, fs, fd, fo, dc, h1.lift hle, h2.lift hle, ?_, h4⟩
  have e1 := (h3 _ (List.mem_of_getElem? (i := 0) rfl)).1
  have e2 := (h3 _ (List.mem_of_getElem? (i := 1) rfl)).1
  have e3 := (h3 _ (List.mem_of_getElem? (i := 2) rfl)).1
  have e4 := (h3 _ (List.mem_of_getElem? (i := 3) rfl)).1
  exact jIs.cons (jDY.ie (jDY.grow e1 hle hn)) (jIs.cons (jVl.ie (jVl.grow e2 hn)) (jIs.cons (jQc.ie e3 (hle _ _ hd) (by decide) (by decide)) (jIs.cons (jQc.ie e4 (hle _ _ hc) (by decide) (by decide)) jIs.nil)))
end
section
-- bytes that grow: arrays of bytes whose elements fit (the builders', the class's Bytes)
section J17
variable {p : Program} {l : Launch} {e : Env} {R : Room} {s : State} {m : MethodId} {args : Array Value} {below : List Frame} {meth : Method} {c : Code} {H : Heap} {locs : List Loc} {cells slots : Nat} {Q : State → Prop}
variable {cc : ByteArray} {pc : Nat} {ls : Array Slot} {rest : List Value} {dC : Nat → ClassId} {dI : Nat → Nat → Nat} {ca : Nat → ClassId} {B : jF} {base : Nat} {G0 G : jT} {E : List (Nat × Nat)} {H0 : Heap} {zc zs : Nat} {L : List jPin} {M : List jCt} {I : List jIv} {a k n : Nat} {cA : ClassId} {tys : List (ClassId × FieldType)}
theorem jSt.newL (hh : jSt (dC, dI) B base G0 G E H0 zc zs L M I H locs) (hB : jBok B) (hb0 : base ≤ H.size) {H1 : Heap} {locs1 : List Loc} (hS : va_S (jA base) H0 H1 locs1) (hsz : H1.size = H.size + 1) (hfr : ∀ q, q < H.size → H1[q]? = H[q]?) {w : Nat} (hT : jTot H1 ≤ jTot H + w) (hk : k < 1000) (hb : B k n (va_up G H.size (some (k, n))) H.size H1) : jSt (dC, dI) B base G0 (va_up G H.size (some (k, n))) E H0 (zc + 1) (zs + w) L M I H1 locs1 := by
  obtain ⟨h1, h2, h3, h4, h5, h6, h7, h8, h9⟩ := hh
  have hn := h2.fresh
  have hle : jLe G (va_up G H.size (some (k, n))) := jLe.new hn
  have key : ∀ kb b ib v, jf (dC, dI) kb b ib v H → jf (dC, dI) kb b ib v H1 := fun kb b ib v hf => hf.kept (hfr b hf.lt)
  have hX1 := (h2.grow hB (k, n) hb0 hsz hfr).cls (jUp_self) hb
  refine ⟨hS, hX1, fun q hq => ?_, ⟨fun a kb nb ib v ha he hf => key kb a ib v (h4.1 a kb nb ib v ha he hf), fun a kb nb ha g1 g2 he => ?_⟩, h5.tr hle, by omega, by omega, fun q hq => ?_, fun q hq => ?_⟩
  · obtain ⟨⟨nq, g1⟩, g2⟩ := h3 q hq
    exact ⟨⟨nq, hle _ _ g1⟩, key _ _ _ _ g2⟩
  · exact (hfr a (h2.2 _ _ (h5 _ _ ha)).2).trans (h4.2 a kb nb ha g1 g2 he)
  · obtain ⟨g1, g2, g3, g4⟩ := h8 q hq
    exact ⟨hle _ _ g1, g2, g3, g4.kept (hfr _ (h2.2 _ _ g1).2)⟩
  · obtain ⟨g1, g2⟩ := h9 q hq
    refine ⟨g2 H H1 ⟨fun a kb nb ib v _ _ hf => key kb a ib v hf, fun a kb nb ha _ _ _ => hfr a (h2.2 _ _ ha).2⟩ g1, fun Ha Hb hA => g2 Ha Hb (hA.low hle)⟩
end J17
end
section
theorem dX14_headerByte_0 : decode cX14_headerByte 0 = .ok (.aload_n 0, 1) := by decide +kernel
theorem dX14_headerByte_1 : decode cX14_headerByte 1 = .ok (.dup, 1) := by decide +kernel
theorem dX14_headerByte_2 : decode cX14_headerByte 2 = .ok (.getfield 228, 3) := by decide +kernel
theorem dX14_headerByte_5 : decode cX14_headerByte 5 = .ok (.iconst 1, 1) := by decide +kernel
theorem dX14_headerByte_6 : decode cX14_headerByte 6 = .ok (.iadd, 1) := by decide +kernel
theorem dX14_headerByte_7 : decode cX14_headerByte 7 = .ok (.putfield 228, 3) := by decide +kernel
theorem dX14_headerByte_10 : decode cX14_headerByte 10 = .ok (.aload_n 0, 1) := by decide +kernel
theorem dX14_headerByte_11 : decode cX14_headerByte 11 = .ok (.getfield 228, 3) := by decide +kernel
theorem dX14_headerByte_14 : decode cX14_headerByte 14 = .ok (.sipush 200, 3) := by decide +kernel
theorem dX14_headerByte_17 : decode cX14_headerByte 17 = .ok (.if_icmp .le 5, 3) := by decide +kernel
theorem dX14_headerByte_20 : decode cX14_headerByte 20 = .ok (.iconst 0, 1) := by decide +kernel
theorem dX14_headerByte_21 : decode cX14_headerByte 21 = .ok (.ireturn, 1) := by decide +kernel
theorem dX14_headerByte_22 : decode cX14_headerByte 22 = .ok (.aload_n 0, 1) := by decide +kernel
theorem dX14_headerByte_23 : decode cX14_headerByte 23 = .ok (.getfield 231, 3) := by decide +kernel
theorem dX14_headerByte_26 : decode cX14_headerByte 26 = .ok (.ifCond .ne 77, 3) := by decide +kernel
theorem dX14_headerByte_29 : decode cX14_headerByte 29 = .ok (.aload_n 0, 1) := by decide +kernel
theorem dX14_headerByte_30 : decode cX14_headerByte 30 = .ok (.getfield 26, 3) := by decide +kernel
theorem dX14_headerByte_33 : decode cX14_headerByte 33 = .ok (.iconst 0, 1) := by decide +kernel
theorem dX14_headerByte_34 : decode cX14_headerByte 34 = .ok (.invokevirtual 234, 3) := by decide +kernel
theorem dX14_headerByte_37 : decode cX14_headerByte 37 = .ok (.aload_n 0, 1) := by decide +kernel
theorem dX14_headerByte_38 : decode cX14_headerByte 38 = .ok (.getfield 30, 3) := by decide +kernel
theorem dX14_headerByte_41 : decode cX14_headerByte 41 = .ok (.iconst 0, 1) := by decide +kernel
theorem dX14_headerByte_42 : decode cX14_headerByte 42 = .ok (.invokevirtual 234, 3) := by decide +kernel
theorem dX14_headerByte_45 : decode cX14_headerByte 45 = .ok (.iload_n 1, 1) := by decide +kernel
theorem dX14_headerByte_46 : decode cX14_headerByte 46 = .ok (.bipush 13, 2) := by decide +kernel
theorem dX14_headerByte_48 : decode cX14_headerByte 48 = .ok (.if_icmp .ne 21, 3) := by decide +kernel
theorem dX14_headerByte_51 : decode cX14_headerByte 51 = .ok (.aload_n 0, 1) := by decide +kernel
theorem dX14_headerByte_52 : decode cX14_headerByte 52 = .ok (.iconst 5, 1) := by decide +kernel
theorem dX14_headerByte_53 : decode cX14_headerByte 53 = .ok (.putfield 231, 3) := by decide +kernel
theorem dX14_headerByte_56 : decode cX14_headerByte 56 = .ok (.aload_n 0, 1) := by decide +kernel
theorem dX14_headerByte_57 : decode cX14_headerByte 57 = .ok (.getfield 33, 3) := by decide +kernel
theorem dX14_headerByte_60 : decode cX14_headerByte 60 = .ok (.ifCond .lt 7, 3) := by decide +kernel
theorem dX14_headerByte_63 : decode cX14_headerByte 63 = .ok (.iconst 1, 1) := by decide +kernel
theorem dX14_headerByte_64 : decode cX14_headerByte 64 = .ok (.goto 4, 3) := by decide +kernel
theorem dX14_headerByte_67 : decode cX14_headerByte 67 = .ok (.iconst 0, 1) := by decide +kernel
theorem dX14_headerByte_68 : decode cX14_headerByte 68 = .ok (.ireturn, 1) := by decide +kernel
theorem dX14_headerByte_69 : decode cX14_headerByte 69 = .ok (.aload_n 0, 1) := by decide +kernel
theorem dX14_headerByte_70 : decode cX14_headerByte 70 = .ok (.iconst 1, 1) := by decide +kernel
theorem dX14_headerByte_71 : decode cX14_headerByte 71 = .ok (.putfield 231, 3) := by decide +kernel
theorem dX14_headerByte_74 : decode cX14_headerByte 74 = .ok (.aload_n 0, 1) := by decide +kernel
theorem dX14_headerByte_75 : decode cX14_headerByte 75 = .ok (.getfield 26, 3) := by decide +kernel
theorem dX14_headerByte_78 : decode cX14_headerByte 78 = .ok (.iload_n 1, 1) := by decide +kernel
theorem dX14_headerByte_79 : decode cX14_headerByte 79 = .ok (.i2c, 1) := by decide +kernel
theorem dX14_headerByte_80 : decode cX14_headerByte 80 = .ok (.invokevirtual 237, 3) := by decide +kernel
theorem dX14_headerByte_83 : decode cX14_headerByte 83 = .ok (.pop, 1) := by decide +kernel
theorem dX14_headerByte_84 : decode cX14_headerByte 84 = .ok (.iload_n 1, 1) := by decide +kernel
theorem dX14_headerByte_85 : decode cX14_headerByte 85 = .ok (.invokestatic 241, 3) := by decide +kernel
theorem dX14_headerByte_88 : decode cX14_headerByte 88 = .ok (.ifCond .ne 9, 3) := by decide +kernel
theorem dX14_headerByte_91 : decode cX14_headerByte 91 = .ok (.iload_n 1, 1) := by decide +kernel
theorem dX14_headerByte_92 : decode cX14_headerByte 92 = .ok (.bipush 45, 2) := by decide +kernel
theorem dX14_headerByte_94 : decode cX14_headerByte 94 = .ok (.if_icmp .ne 7, 3) := by decide +kernel
theorem dX14_headerByte_97 : decode cX14_headerByte 97 = .ok (.iconst 1, 1) := by decide +kernel
theorem dX14_headerByte_98 : decode cX14_headerByte 98 = .ok (.goto 4, 3) := by decide +kernel
theorem dX14_headerByte_101 : decode cX14_headerByte 101 = .ok (.iconst 0, 1) := by decide +kernel
theorem dX14_headerByte_102 : decode cX14_headerByte 102 = .ok (.ireturn, 1) := by decide +kernel
theorem dX14_headerByte_103 : decode cX14_headerByte 103 = .ok (.aload_n 0, 1) := by decide +kernel
theorem dX14_headerByte_104 : decode cX14_headerByte 104 = .ok (.getfield 231, 3) := by decide +kernel
theorem dX14_headerByte_107 : decode cX14_headerByte 107 = .ok (.iconst 1, 1) := by decide +kernel
theorem dX14_headerByte_108 : decode cX14_headerByte 108 = .ok (.if_icmp .ne 45, 3) := by decide +kernel
theorem dX14_headerByte_111 : decode cX14_headerByte 111 = .ok (.iload_n 1, 1) := by decide +kernel
theorem dX14_headerByte_112 : decode cX14_headerByte 112 = .ok (.bipush 58, 2) := by decide +kernel
theorem dX14_headerByte_114 : decode cX14_headerByte 114 = .ok (.if_icmp .ne 10, 3) := by decide +kernel
theorem dX14_headerByte_117 : decode cX14_headerByte 117 = .ok (.aload_n 0, 1) := by decide +kernel
theorem dX14_headerByte_118 : decode cX14_headerByte 118 = .ok (.iconst 2, 1) := by decide +kernel
theorem dX14_headerByte_119 : decode cX14_headerByte 119 = .ok (.putfield 231, 3) := by decide +kernel
theorem dX14_headerByte_122 : decode cX14_headerByte 122 = .ok (.iconst 1, 1) := by decide +kernel
theorem dX14_headerByte_123 : decode cX14_headerByte 123 = .ok (.ireturn, 1) := by decide +kernel
theorem dX14_headerByte_124 : decode cX14_headerByte 124 = .ok (.aload_n 0, 1) := by decide +kernel
theorem dX14_headerByte_125 : decode cX14_headerByte 125 = .ok (.getfield 26, 3) := by decide +kernel
theorem dX14_headerByte_128 : decode cX14_headerByte 128 = .ok (.iload_n 1, 1) := by decide +kernel
theorem dX14_headerByte_129 : decode cX14_headerByte 129 = .ok (.i2c, 1) := by decide +kernel
theorem dX14_headerByte_130 : decode cX14_headerByte 130 = .ok (.invokevirtual 237, 3) := by decide +kernel
theorem dX14_headerByte_133 : decode cX14_headerByte 133 = .ok (.pop, 1) := by decide +kernel
theorem dX14_headerByte_134 : decode cX14_headerByte 134 = .ok (.iload_n 1, 1) := by decide +kernel
theorem dX14_headerByte_135 : decode cX14_headerByte 135 = .ok (.invokestatic 241, 3) := by decide +kernel
theorem dX14_headerByte_138 : decode cX14_headerByte 138 = .ok (.ifCond .ne 9, 3) := by decide +kernel
theorem dX14_headerByte_141 : decode cX14_headerByte 141 = .ok (.iload_n 1, 1) := by decide +kernel
theorem dX14_headerByte_142 : decode cX14_headerByte 142 = .ok (.bipush 45, 2) := by decide +kernel
theorem dX14_headerByte_144 : decode cX14_headerByte 144 = .ok (.if_icmp .ne 7, 3) := by decide +kernel
theorem dX14_headerByte_147 : decode cX14_headerByte 147 = .ok (.iconst 1, 1) := by decide +kernel
theorem dX14_headerByte_148 : decode cX14_headerByte 148 = .ok (.goto 4, 3) := by decide +kernel
theorem dX14_headerByte_151 : decode cX14_headerByte 151 = .ok (.iconst 0, 1) := by decide +kernel
theorem dX14_headerByte_152 : decode cX14_headerByte 152 = .ok (.ireturn, 1) := by decide +kernel
theorem dX14_headerByte_153 : decode cX14_headerByte 153 = .ok (.aload_n 0, 1) := by decide +kernel
theorem dX14_headerByte_154 : decode cX14_headerByte 154 = .ok (.getfield 231, 3) := by decide +kernel
theorem dX14_headerByte_157 : decode cX14_headerByte 157 = .ok (.iconst 4, 1) := by decide +kernel
theorem dX14_headerByte_158 : decode cX14_headerByte 158 = .ok (.if_icmp .eq 11, 3) := by decide +kernel
theorem dX14_headerByte_161 : decode cX14_headerByte 161 = .ok (.aload_n 0, 1) := by decide +kernel
theorem dX14_headerByte_162 : decode cX14_headerByte 162 = .ok (.getfield 231, 3) := by decide +kernel
theorem dX14_headerByte_165 : decode cX14_headerByte 165 = .ok (.iconst 5, 1) := by decide +kernel
theorem dX14_headerByte_166 : decode cX14_headerByte 166 = .ok (.if_icmp .ne 48, 3) := by decide +kernel
theorem dX14_headerByte_169 : decode cX14_headerByte 169 = .ok (.aload_n 0, 1) := by decide +kernel
theorem dX14_headerByte_170 : decode cX14_headerByte 170 = .ok (.getfield 231, 3) := by decide +kernel
theorem dX14_headerByte_173 : decode cX14_headerByte 173 = .ok (.iconst 5, 1) := by decide +kernel
theorem dX14_headerByte_174 : decode cX14_headerByte 174 = .ok (.if_icmp .ne 7, 3) := by decide +kernel
theorem dX14_headerByte_177 : decode cX14_headerByte 177 = .ok (.iconst 1, 1) := by decide +kernel
theorem dX14_headerByte_178 : decode cX14_headerByte 178 = .ok (.goto 4, 3) := by decide +kernel
theorem dX14_headerByte_181 : decode cX14_headerByte 181 = .ok (.iconst 0, 1) := by decide +kernel
theorem dX14_headerByte_182 : decode cX14_headerByte 182 = .ok (.istore_n 2, 1) := by decide +kernel
theorem dX14_headerByte_183 : decode cX14_headerByte 183 = .ok (.aload_n 0, 1) := by decide +kernel
theorem dX14_headerByte_184 : decode cX14_headerByte 184 = .ok (.iload_n 2, 1) := by decide +kernel
theorem dX14_headerByte_185 : decode cX14_headerByte 185 = .ok (.ifCond .eq 8, 3) := by decide +kernel
theorem dX14_headerByte_188 : decode cX14_headerByte 188 = .ok (.bipush 6, 2) := by decide +kernel
theorem dX14_headerByte_190 : decode cX14_headerByte 190 = .ok (.goto 4, 3) := by decide +kernel
theorem dX14_headerByte_193 : decode cX14_headerByte 193 = .ok (.iconst 0, 1) := by decide +kernel
theorem dX14_headerByte_194 : decode cX14_headerByte 194 = .ok (.putfield 231, 3) := by decide +kernel
theorem dX14_headerByte_197 : decode cX14_headerByte 197 = .ok (.aload_n 0, 1) := by decide +kernel
theorem dX14_headerByte_198 : decode cX14_headerByte 198 = .ok (.iconst 0, 1) := by decide +kernel
theorem dX14_headerByte_199 : decode cX14_headerByte 199 = .ok (.putfield 244, 3) := by decide +kernel
theorem dX14_headerByte_202 : decode cX14_headerByte 202 = .ok (.iload_n 1, 1) := by decide +kernel
theorem dX14_headerByte_203 : decode cX14_headerByte 203 = .ok (.bipush 10, 2) := by decide +kernel
theorem dX14_headerByte_205 : decode cX14_headerByte 205 = .ok (.if_icmp .ne 7, 3) := by decide +kernel
theorem dX14_headerByte_208 : decode cX14_headerByte 208 = .ok (.iconst 1, 1) := by decide +kernel
theorem dX14_headerByte_209 : decode cX14_headerByte 209 = .ok (.goto 4, 3) := by decide +kernel
theorem dX14_headerByte_212 : decode cX14_headerByte 212 = .ok (.iconst 0, 1) := by decide +kernel
theorem dX14_headerByte_213 : decode cX14_headerByte 213 = .ok (.ireturn, 1) := by decide +kernel
theorem dX14_headerByte_214 : decode cX14_headerByte 214 = .ok (.aload_n 0, 1) := by decide +kernel
theorem dX14_headerByte_215 : decode cX14_headerByte 215 = .ok (.getfield 231, 3) := by decide +kernel
theorem dX14_headerByte_218 : decode cX14_headerByte 218 = .ok (.iconst 2, 1) := by decide +kernel
theorem dX14_headerByte_219 : decode cX14_headerByte 219 = .ok (.if_icmp .ne 11, 3) := by decide +kernel
theorem dX14_headerByte_222 : decode cX14_headerByte 222 = .ok (.iload_n 1, 1) := by decide +kernel
theorem dX14_headerByte_223 : decode cX14_headerByte 223 = .ok (.bipush 32, 2) := by decide +kernel
theorem dX14_headerByte_225 : decode cX14_headerByte 225 = .ok (.if_icmp .ne 5, 3) := by decide +kernel
theorem dX14_headerByte_228 : decode cX14_headerByte 228 = .ok (.iconst 1, 1) := by decide +kernel
theorem dX14_headerByte_229 : decode cX14_headerByte 229 = .ok (.ireturn, 1) := by decide +kernel
theorem dX14_headerByte_230 : decode cX14_headerByte 230 = .ok (.aload_n 0, 1) := by decide +kernel
theorem dX14_headerByte_231 : decode cX14_headerByte 231 = .ok (.iconst 3, 1) := by decide +kernel
theorem dX14_headerByte_232 : decode cX14_headerByte 232 = .ok (.putfield 231, 3) := by decide +kernel
theorem dX14_headerByte_235 : decode cX14_headerByte 235 = .ok (.iload_n 1, 1) := by decide +kernel
theorem dX14_headerByte_236 : decode cX14_headerByte 236 = .ok (.bipush 13, 2) := by decide +kernel
theorem dX14_headerByte_238 : decode cX14_headerByte 238 = .ok (.if_icmp .ne 50, 3) := by decide +kernel
theorem dX14_headerByte_241 : decode cX14_headerByte 241 = .ok (.aload_n 0, 1) := by decide +kernel
theorem dX14_headerByte_242 : decode cX14_headerByte 242 = .ok (.iconst 4, 1) := by decide +kernel
theorem dX14_headerByte_243 : decode cX14_headerByte 243 = .ok (.putfield 231, 3) := by decide +kernel
theorem dX14_headerByte_246 : decode cX14_headerByte 246 = .ok (.aload_n 0, 1) := by decide +kernel
theorem dX14_headerByte_247 : decode cX14_headerByte 247 = .ok (.invokevirtual 247, 3) := by decide +kernel
theorem dX14_headerByte_250 : decode cX14_headerByte 250 = .ok (.ifCond .ne 5, 3) := by decide +kernel
theorem dX14_headerByte_253 : decode cX14_headerByte 253 = .ok (.iconst 1, 1) := by decide +kernel
theorem dX14_headerByte_254 : decode cX14_headerByte 254 = .ok (.ireturn, 1) := by decide +kernel
theorem dX14_headerByte_255 : decode cX14_headerByte 255 = .ok (.aload_n 0, 1) := by decide +kernel
theorem dX14_headerByte_256 : decode cX14_headerByte 256 = .ok (.aload_n 0, 1) := by decide +kernel
theorem dX14_headerByte_257 : decode cX14_headerByte 257 = .ok (.iconst 1, 1) := by decide +kernel
theorem dX14_headerByte_258 : decode cX14_headerByte 258 = .ok (.invokevirtual 251, 3) := by decide +kernel
theorem dX14_headerByte_261 : decode cX14_headerByte 261 = .ok (.ifCond .eq 10, 3) := by decide +kernel
theorem dX14_headerByte_264 : decode cX14_headerByte 264 = .ok (.aload_n 0, 1) := by decide +kernel
theorem dX14_headerByte_265 : decode cX14_headerByte 265 = .ok (.invokevirtual 255, 3) := by decide +kernel
theorem dX14_headerByte_268 : decode cX14_headerByte 268 = .ok (.goto 4, 3) := by decide +kernel
theorem dX14_headerByte_271 : decode cX14_headerByte 271 = .ok (.iconst (-1), 1) := by decide +kernel
theorem dX14_headerByte_272 : decode cX14_headerByte 272 = .ok (.putfield 33, 3) := by decide +kernel
theorem dX14_headerByte_275 : decode cX14_headerByte 275 = .ok (.aload_n 0, 1) := by decide +kernel
theorem dX14_headerByte_276 : decode cX14_headerByte 276 = .ok (.getfield 33, 3) := by decide +kernel
theorem dX14_headerByte_279 : decode cX14_headerByte 279 = .ok (.ifCond .lt 7, 3) := by decide +kernel
theorem dX14_headerByte_282 : decode cX14_headerByte 282 = .ok (.iconst 1, 1) := by decide +kernel
theorem dX14_headerByte_283 : decode cX14_headerByte 283 = .ok (.goto 4, 3) := by decide +kernel
theorem dX14_headerByte_286 : decode cX14_headerByte 286 = .ok (.iconst 0, 1) := by decide +kernel
theorem dX14_headerByte_287 : decode cX14_headerByte 287 = .ok (.ireturn, 1) := by decide +kernel
theorem dX14_headerByte_288 : decode cX14_headerByte 288 = .ok (.aload_n 0, 1) := by decide +kernel
theorem dX14_headerByte_289 : decode cX14_headerByte 289 = .ok (.getfield 30, 3) := by decide +kernel
theorem dX14_headerByte_292 : decode cX14_headerByte 292 = .ok (.iload_n 1, 1) := by decide +kernel
theorem dX14_headerByte_293 : decode cX14_headerByte 293 = .ok (.i2c, 1) := by decide +kernel
theorem dX14_headerByte_294 : decode cX14_headerByte 294 = .ok (.invokevirtual 237, 3) := by decide +kernel
theorem dX14_headerByte_297 : decode cX14_headerByte 297 = .ok (.pop, 1) := by decide +kernel
theorem dX14_headerByte_298 : decode cX14_headerByte 298 = .ok (.iload_n 1, 1) := by decide +kernel
theorem dX14_headerByte_299 : decode cX14_headerByte 299 = .ok (.bipush 32, 2) := by decide +kernel
theorem dX14_headerByte_301 : decode cX14_headerByte 301 = .ok (.bipush 126, 2) := by decide +kernel
theorem dX14_headerByte_303 : decode cX14_headerByte 303 = .ok (.invokestatic 181, 3) := by decide +kernel
theorem dX14_headerByte_306 : decode cX14_headerByte 306 = .ok (.ifCond .eq 22, 3) := by decide +kernel
theorem dX14_headerByte_309 : decode cX14_headerByte 309 = .ok (.aload_n 0, 1) := by decide +kernel
theorem dX14_headerByte_310 : decode cX14_headerByte 310 = .ok (.invokevirtual 247, 3) := by decide +kernel
theorem dX14_headerByte_313 : decode cX14_headerByte 313 = .ok (.ifCond .eq 11, 3) := by decide +kernel
theorem dX14_headerByte_316 : decode cX14_headerByte 316 = .ok (.aload_n 0, 1) := by decide +kernel
theorem dX14_headerByte_317 : decode cX14_headerByte 317 = .ok (.iconst 0, 1) := by decide +kernel
theorem dX14_headerByte_318 : decode cX14_headerByte 318 = .ok (.invokevirtual 251, 3) := by decide +kernel
theorem dX14_headerByte_321 : decode cX14_headerByte 321 = .ok (.ifCond .eq 7, 3) := by decide +kernel
theorem dX14_headerByte_324 : decode cX14_headerByte 324 = .ok (.iconst 1, 1) := by decide +kernel
theorem dX14_headerByte_325 : decode cX14_headerByte 325 = .ok (.goto 4, 3) := by decide +kernel
theorem dX14_headerByte_328 : decode cX14_headerByte 328 = .ok (.iconst 0, 1) := by decide +kernel
theorem dX14_headerByte_329 : decode cX14_headerByte 329 = .ok (.ireturn, 1) := by decide +kernel
end
section
-- new objects: raw while they are made, typed when they are whole
section J20
variable {p : Program} {l : Launch} {e : Env} {R : Room} {s : State} {m : MethodId} {args : Array Value} {below : List Frame} {meth : Method} {c : Code} {H : Heap} {locs : List Loc} {cells slots : Nat} {Q : State → Prop}
variable {cc : ByteArray} {pc : Nat} {ls : Array Slot} {rest : List Value} {dC : Nat → ClassId} {dI : Nat → Nat → Nat} {ca : Nat → ClassId} {B : jF} {base : Nat} {G0 G : jT} {E : List (Nat × Nat)} {H0 : Heap} {zc zs : Nat} {L : List jPin} {M : List jCt} {I : List jIv} {a k n i index N : Nat} {tys : List (ClassId × FieldType)} {own C : String} {T : u_T} {fs : List Value}
end J20
-- all growing Bytes hold no more than they have room for
abbrev jFy : List (Nat × Nat) := [(2, 0), (2, 1)]
theorem jYb.ie {dC : Nat → ClassId} {dI : Nat → Nat → Nat} {G : jT} {H : Heap} (h : jYb dC dI G H) : ((jFy, jYb dC dI G) : jIv).2 H ∧ ∀ H1 H2 : Heap, jAg (dC, dI) G ((jFy, jYb dC dI G) : jIv).1 H1 H2 → ((jFy, jYb dC dI G) : jIv).2 H1 → ((jFy, jYb dC dI G) : jIv).2 H2 :=
  ⟨h, fun H1 H2 hA h1 a ha => by
    obtain ⟨c, x, m, g1, g2, g3, g4⟩ := h1 a ha
    exact ⟨c, x, m, hA.1 a 2 0 1 _ ha rfl g1, hA.1 a 2 0 0 _ ha rfl g2, g3, g4⟩⟩
end
section
-- what a method writes of some objects only
theorem jOl.ie {dC : Nat → ClassId} {dI : Nat → Nat → Nat} {G0 G : jT} {k N : Nat} {rs : List Nat} {C : String} {T : u_T} {F : List (Nat × Nat)} {H0 H : Heap} (hc : vwCl[k]? = some (C, T, N)) (hF : (List.range N).all (fun i => F.contains (k, i)) = true) (hle : jLe G0 G) (h : jOl (dC, dI) G0 k rs H0 H) : ((F, jOl (dC, dI) G0 k rs H0) : jIv).2 H ∧ ∀ H1 H2 : Heap, jAg (dC, dI) G ((F, jOl (dC, dI) G0 k rs H0) : jIv).1 H1 H2 → ((F, jOl (dC, dI) G0 k rs H0) : jIv).2 H1 → ((F, jOl (dC, dI) G0 k rs H0) : jIv).2 H2 := by
  refine ⟨h, fun H1 H2 hA h1 a n i v hne ha hf => ?_⟩
  have g := h1 a n i v hne ha hf
  have g' := g
  obtain ⟨r9, g1, g2, -⟩ := g'
  have e : r9 = (C, T, N) := Option.some.inj (g1.symm.trans hc)
  subst e
  exact hA.1 a k n i v (hle _ _ ha) (List.all_eq_true.mp hF i (List.mem_range.mpr g2)) g
end
section
-- what the kernel's walks need: raw arrays of ints, arrays whose last element is null, states, new goals
section J30
variable {p : Program} {l : Launch} {e : Env} {R : Room} {s : State} {m : MethodId} {args : Array Value} {below : List Frame} {meth : Method} {c : Code} {H : Heap} {locs : List Loc} {cells slots : Nat} {Q : State → Prop}
variable {cc : ByteArray} {pc : Nat} {ls : Array Slot} {rest : List Value} {dC : Nat → ClassId} {dI : Nat → Nat → Nat} {ca : Nat → ClassId} {B : jF} {base : Nat} {G0 G : jT} {E : List (Nat × Nat)} {H0 : Heap} {zc zs : Nat} {L : List jPin} {M : List jCt} {I : List jIv} {a a0 k k0 n n0 index : Nat} {tys : List (ClassId × FieldType)} {own C : String} {cA : ClassId}
end J30
theorem jW.nn {f g : Nat → Int32} {b i : Int} (hf : -1 ≤ jSo f i) (hg : jNn0 g 13) (hb : b ≤ 13) : 0 ≤ jW f g b i := by
  unfold jW
  split
  · rename_i h
    exact hg _ (by omega) (by omega)
  · omega
abbrev jFs11 : List (Nat × Nat) := [(11, 4), (11, 5)]
def jSef (dC : Nat → ClassId) (dI : Nat → Nat → Nat) (G : jT) (H : Heap) : Prop := ∀ a, G a = some (11, 0) → ∃ x y m : Nat, jf (dC, dI) 11 a 4 (.ref x) H ∧ jf (dC, dI) 11 a 5 (.ref y) H ∧ G x = some (101, m) ∧ G y = some (313, m) ∧ m ≤ 16
theorem jSef.ie {dC : Nat → ClassId} {dI : Nat → Nat → Nat} {G : jT} {H : Heap} (h : jSef dC dI G H) : ((jFs11, jSef dC dI G) : jIv).2 H ∧ ∀ H1 H2 : Heap, jAg (dC, dI) G ((jFs11, jSef dC dI G) : jIv).1 H1 H2 → ((jFs11, jSef dC dI G) : jIv).2 H1 → ((jFs11, jSef dC dI G) : jIv).2 H2 :=
  ⟨h, fun H1 H2 hA h1 a ha => by
    obtain ⟨x, y, m, g1, g2, g3⟩ := h1 a ha
    exact ⟨x, y, m, hA.1 a 11 0 4 _ ha rfl g1, hA.1 a 11 0 5 _ ha rfl g2, g3⟩⟩
abbrev jFg : List (Nat × Nat) := [(7, 9), (7, 10), (211, 0)]
def jFr (dC : Nat → ClassId) (dI : Nat → Nat → Nat) (ca : Nat → ClassId) (G : jT) (a : Nat) (H : Heap) : Prop := ∃ (c : Int32) (b : Nat) (f : Nat → Option Nat), G a = some (7, 0) ∧ G b = some (211, 6) ∧ jf (dC, dI) 7 a 10 (.int c) H ∧ jf (dC, dI) 7 a 9 (.ref b) H ∧ jQc dC dI (ca 7) b 6 f H ∧ ∀ i : Nat, i < 6 → (i : Int) < c.toInt → f i ≠ none
theorem jFr.ie {dC : Nat → ClassId} {dI : Nat → Nat → Nat} {ca : Nat → ClassId} {G : jT} {a : Nat} {H : Heap} (h : jFr dC dI ca G a H) : ((jFg, jFr dC dI ca G a) : jIv).2 H ∧ ∀ H1 H2 : Heap, jAg (dC, dI) G ((jFg, jFr dC dI ca G a) : jIv).1 H1 H2 → ((jFg, jFr dC dI ca G a) : jIv).2 H1 → ((jFg, jFr dC dI ca G a) : jIv).2 H2 :=
  ⟨h, fun H1 H2 hA h1 => by
    obtain ⟨c, b, f, g1, g2, g3, g4, g5, g6⟩ := h1
    have hq1 : va_at (dC, dI) vwCl (b, .inl (ca 7, 6, .inr (.inr (.inr (.inr f))))) H1 := g5
    exact ⟨c, b, f, g1, g2, hA.1 a 7 0 10 _ g1 rfl g3, hA.1 a 7 0 9 _ g1 rfl g4, va_at.kept hq1 (hA.2 b 211 6 g2 (by decide) (by decide) rfl), g6⟩⟩
end
section
-- what is known of all lists (o: the one that is open); k: as many there are
abbrev jFl : List (Nat × Nat) := [(1, 1), (1, 2), (221, 0), (222, 0), (223, 0)]
section J33
variable {dC : Nat → ClassId} {dI : Nat → Nat → Nat} {ca : Nat → ClassId} {G G1 : jT} {H H1 : Heap} {a c k r x m n : Nat} {o : Option Nat} {ks : List Nat} {w wn : jWl9}
theorem jLo.agree (h : jLo dC dI ca G w a c H) (ha : G a = some (1, c)) (hc : 1 ≤ c ∧ c ≤ 3) (hA : jAg (dC, dI) G jFl H H1) : jLo dC dI ca G w a c H1 := by
  obtain ⟨z, x, h1, h2, h3, h4⟩ := h
  refine ⟨z, x, hA.1 a 1 c 2 _ ha rfl h1, hA.1 a 1 c 1 _ ha rfl h2, h3, ?_⟩
  rcases h4 with h4 | ⟨m, f, g1, g2, g3, g4, g5⟩
  · exact Or.inl h4
  · refine Or.inr ⟨m, f, g1, g2, g3, ?_, g5⟩
    have hq1 : va_at (dC, dI) vwCl (x, .inl (ca 9, m, .inr (.inr (.inr (.inr f))))) H := g4
    refine va_at.kept hq1 (hA.2 x (220 + c) m g1 (by omega) (by omega) ?_)
    obtain rfl | rfl | rfl : c = 1 ∨ c = 2 ∨ c = 3 := by omega
    · rfl
    · rfl
    · rfl
theorem jLs.ie (h : jLs dC dI ca G k o w H) : ((jFl, jLs dC dI ca G k o w) : jIv).2 H ∧ ∀ H1 H2 : Heap, jAg (dC, dI) G ((jFl, jLs dC dI ca G k o w) : jIv).1 H1 H2 → ((jFl, jLs dC dI ca G k o w) : jIv).2 H1 → ((jFl, jLs dC dI ca G k o w) : jIv).2 H2 :=
  ⟨h, fun H1 H2 hA h1 => ⟨h1.1, h1.2.1, fun a c ha hn => (h1.2.2 a c ha hn).agree ha ⟨(h1.2.1 a c ha).1, (h1.2.1 a c ha).2.2⟩ hA⟩⟩
end J33
end
section
-- what reading JSON leaves: the strings and keys of the values stand apart among the units, and take bytes
theorem jVr.base {C D : jC} {a b pt qv qu qt r : Int} (h : jVr C a b pt D qv qu qt r) (ha : a = 0) (hb : b = 0) : jJr C 0 0 D qv qu := by
  subst ha hb
  exact h.1
end
section
-- the documents of the class: sentences in order, and what is still to be checked of the open ones
abbrev jFdo : List (Nat × Nat) := [(3, 4), (3, 5), (3, 6), (3, 10), (3, 11), (171, 0), (172, 0)]
section J41
variable {dC : Nat → ClassId} {dI : Nat → Nat → Nat} {ca : Nat → ClassId} {G G1 : jT} {H H1 : Heap} {x : Option Nat} {ph : Nat}
theorem jDcc.ie (h : jDcc dC dI ca G x ph H) : ((jFdo, jDcc dC dI ca G x ph) : jIv).2 H ∧ ∀ H1 H2 : Heap, jAg (dC, dI) G ((jFdo, jDcc dC dI ca G x ph) : jIv).1 H1 H2 → ((jFdo, jDcc dC dI ca G x ph) : jIv).2 H1 → ((jFdo, jDcc dC dI ca G x ph) : jIv).2 H2 := by
  refine ⟨h, fun H1 H2 hA hq => ?_⟩
  obtain ⟨Yb, Ye, W, h1, h2, h3, h4, h5⟩ := hq
  refine ⟨Yb, Ye, W, fun a n ha => ?_, h2, h3, fun a n ha hx => ?_, h5⟩
  · obtain ⟨g1, g2, g3, g4⟩ := h1 a n ha
    exact ⟨hA.1 a 3 n 5 _ ha rfl g1, hA.1 a 3 n 6 _ ha rfl g2, g3, g4⟩
  · obtain ⟨g1, g2, g3, g4⟩ := h1 a n ha
    obtain ⟨fb, fe, ps, pk, vc, g, gp⟩ := h4 a n ha hx
    refine ⟨fb, fe, ps, pk, vc, g.of (fun i v hi hf => ?_) (hA.2 _ _ _ g3 (by omega) (by omega) rfl) (hA.2 _ _ _ g4 (by omega) (by omega) rfl), gp⟩
    rcases hi with rfl | rfl | rfl
    · exact hA.1 a 3 n 4 _ ha rfl hf
    · exact hA.1 a 3 n 10 _ ha rfl hf
    · exact hA.1 a 3 n 11 _ ha rfl hf
theorem jDcx.ie {sn ck : Nat → Int32} {vn : Nat → Value} (h : jDcx dC dI ca G ph sn ck vn H) : ((jFdo, jDcx dC dI ca G ph sn ck vn) : jIv).2 H ∧ ∀ H1 H2 : Heap, jAg (dC, dI) G ((jFdo, jDcx dC dI ca G ph sn ck vn) : jIv).1 H1 H2 → ((jFdo, jDcx dC dI ca G ph sn ck vn) : jIv).2 H1 → ((jFdo, jDcx dC dI ca G ph sn ck vn) : jIv).2 H2 :=
  ⟨h, fun H1 H2 hA hq => ⟨(jDcc.ie hq.1).2 H1 H2 hA hq.1, fun a n ha => by
    obtain ⟨q1, q2, q3⟩ := hq.2 a n ha
    exact ⟨hA.1 a 3 n 4 _ ha rfl q1, hA.1 a 3 n 10 _ ha rfl q2, hA.1 a 3 n 11 _ ha rfl q3⟩⟩⟩
/-- the arrays of the older documents are older -/
theorem jDcc.fresh {G0 : jT} {H0 : Heap} {r yb ye : Nat} (h : jDcc dC dI ca G0 none ph H0) (hab : ∀ a t, G0 a = some t → a < H0.size) (hr : ∀ t, G0 r ≠ some t) (hn : jNk [3] G0 G) (hk : jKx r G0 G H0 H) (hb : H0.size ≤ yb) (he : H0.size ≤ ye) : ∀ a m, G a = some (3, m) → ∀ y, (jf (dC, dI) 3 a 5 (.ref y) H → y ≠ yb) ∧ (jf (dC, dI) 3 a 6 (.ref y) H → y ≠ ye) := fun a m ha y => by
  have h0 := hn a 3 m ha rfl
  obtain ⟨Yb, Ye, W, h1, -⟩ := h
  obtain ⟨q1, q2, q3, q4⟩ := h1 a m h0
  have c : H[a]? = H0[a]? := hk.1 a (hab _ _ h0) (fun e => hr _ (by rw [← e]; exact h0))
  have l1 := hab _ _ q3
  have l2 := hab _ _ q4
  refine ⟨fun g => ?_, fun g => ?_⟩
  · have e := jf.uniq g (q1.kept c)
    cases e
    exact Nat.ne_of_lt (Nat.lt_of_lt_of_le l1 hb)
  · have e := jf.uniq g (q2.kept c)
    cases e
    exact Nat.ne_of_lt (Nat.lt_of_lt_of_le l2 he)
theorem jEd.to {fe : Nat → Int32} {k k1 x : Int} (h : jEd fe (k + 1) = x) (e : k1 = k + 1) : jEd fe k1 = x := by
  rw [e]
  exact h
end J41
end
section
-- how many bytes a message has at least: its strings and keys stand apart
theorem jJr.sum {C D : jC} {qv qu : Int} (h : jJr C 0 0 D qv qu) (es : List Nat) (hl : ∀ e ∈ es, (e : Int) < 2 * qv) (hn : es.Pairwise (· ≠ ·)) : jSuu D es ≤ qu := by
  obtain ⟨h1, h2, h3, h4⟩ := h
  have b : ∀ e ∈ es, (0 ≤ jln D e ∧ 0 ≤ jlo D e) ∧ jlo D e + jln D e ≤ qu := fun e he => by
    have := h3 e (by omega) (hl e he)
    omega
  have hp : es.Pairwise (jDjn D) := hn.imp_of_mem (fun ha hb ne => h4 _ _ (by omega) (hl _ ha) (by omega) (hl _ hb) ne)
  have c := jCss.le hp (fun e he => (b e he).1.1) (fun e he => (b e he).1.2) qu.toNat
  have e1 : ((qu.toNat : Nat) : Int) = qu := by omega
  rw [e1, jCss.all es (fun e he => ⟨(b e he).1.1, (b e he).2⟩)] at c
  exact c
end
section
-- p11: bits; the tape on both sides; bytes read as UTF-8; the text that comes of them
theorem jb_a255 {x z : Int32} (e : z = x &&& 255) : z.toInt = x.toInt % 256 := by
  have h := pk_and x (m := 255) 8 (by decide)
  have hb := x.toBitVec.isLt
  have hx := ji_toInt x
  rw [e, h, nI_toInt (by omega), hx]
  split <;> omega
theorem jNb (x : Int32) : (vp_nar .byte x.toInt8.toInt32).toInt % 256 = x.toInt % 256 := by
  rw [pk_vb, Int8.toInt_toInt32, Int32.toInt_toInt8]
  show Int.bmod x.toInt 256 % 256 = _
  unfold Int.bmod
  dsimp only
  split <;> omega
theorem jUr_cg {b d : Int → Int} : ∀ (k : Nat) (i v : Int), (∀ j : Int, i ≤ j → j < i + k → b j = d j) → jUr b k i v = jUr d k i v
  | 0, _, _, _ => rfl
  | k + 1, i, v, h => by
    show (if 128 ≤ b i ∧ b i ≤ 191 then jUr b k (i + 1) (v * 64 + b i % 64) else -1) = if 128 ≤ d i ∧ d i ≤ 191 then jUr d k (i + 1) (v * 64 + d i % 64) else -1
    rw [h i (by omega) (by omega), jUr_cg k (i + 1) _ (fun j q0 q1 => h j (by omega) (by omega))]
theorem jUc_cg {b d : Int → Int} {i n : Int} (h : ∀ j : Int, i ≤ j → j < n → b j = d j) (hi : i < n) : jUc b i n = jUc d i n := by
  unfold jUc
  rw [h i (by omega) hi]
  by_cases w : d i < 128
  · rw [if_pos w, if_pos w]
  · rw [if_neg w, if_neg w]
    by_cases w2 : jUm (d i) = 0 ∨ n ≤ i + jUm (d i)
    · rw [if_pos w2, if_pos w2]
    · have h3 := jUm.r (d i)
      rw [if_neg w2, if_neg w2, jUr_cg _ (i + 1) _ (fun j q0 q1 => h j (by omega) (by omega))]
theorem jUl_o {b : Int → Int} {n i : Int} : ∀ (k : Nat), n ≤ i → jUl b n k i = []
  | 0, _ => rfl
  | k + 1, h => if_neg (show ¬ i < n by omega)
theorem jUl_cg {b d : Int → Int} {n : Int} (h : ∀ j : Int, 0 ≤ j → j < n → b j = d j) : ∀ (k : Nat) (i : Int), 0 ≤ i → jUl b n k i = jUl d n k i
  | 0, _, _ => rfl
  | k + 1, i, h0 => by
    by_cases w : i < n
    · have h1 := jUs.r (jUc d i n)
      rw [jUl_s (b := b) (k := k + 1) (by omega) w, jUl_s (b := d) (k := k + 1) (by omega) w, jUc_cg (fun j q0 q1 => h j (by omega) q1) w]
      show _ ++ jUl b n k _ = _ ++ jUl d n k _
      rw [jUl_cg h k _ (by omega)]
    · rw [jUl_o _ (by omega), jUl_o _ (by omega)]
theorem jTl_cg {b d : Int → Int} {n : Int} (h : ∀ j : Int, 0 ≤ j → j < n → b j = d j) : jTl b n = jTl d n := jUl_cg h _ 0 (by omega)
theorem jBa.uniq {b d : Int → Int} {n m r r1 : Int} (h : jBa b n r) (h1 : jBa d m r1) (em : m = n) (e : ∀ j : Int, 0 ≤ j → j < n → b j = d j) : r = r1 := by
  subst em
  rw [jBa, jTl_cg e] at h
  rcases h with ⟨a1, a2⟩ | ⟨a1, g, a2, a3⟩
  · rcases h1 with ⟨c1, c2⟩ | ⟨c1, g1, c2, c3⟩
    · rw [a2, c2]
    · omega
  · rcases h1 with ⟨c1, c2⟩ | ⟨c1, g1, c2, c3⟩
    · omega
    · rw [a3, c3]
      exact jPar_cg (by omega) (fun i q0 q1 => (a2 i q0 q1).trans (c2 i q0 q1).symm)
theorem jUb.r0 {n k v : Int} (h : jUb n k v) : 0 ≤ v ∧ v ≤ 2097151 := by
  unfold jUb at h
  omega
section JP1
variable {p : Program} {l : Launch} {e : Env} {R : Room} {s : State} {m : MethodId} {args : Array Value} {below : List Frame} {meth : Method} {c : Code} {H : Heap} {locs : List Loc} {cells slots : Nat} {Q : State → Prop}
variable {cc : ByteArray} {pc : Nat} {ls : Array Slot} {rest : List Value} {D : va_G} {cl : List vw_C} {A : Nat → Prop} {a : Nat} {tys : List (ClassId × FieldType)}
theorem j_bastV (hexec : p.tables.exec = Jvm.exec) (hb : c.code = cc) (hK : va_K D cl tys s) (t0 : Nat) {cA : ClassId} {n : Nat} {f : Nat → Int32} (hat : va_at D cl (a, .inl (cA, n, .inl f)) H) (hA : A a) (hL : ∀ q ∈ locs, A q.base) (ht : tys[t0]? = some (cA, .byte)) {i : Int32} {x : Int32} (hin : vp_in i n) (hdg : decode cc pc = .ok (.bastore, 1))
    (kk : ∀ (H1 : Heap) (locs1 : List Loc), va_at D cl (a, .inl (cA, n, .inl (upd f i.toNatClampNeg (vp_nar .byte x)))) H1 → H1.size = H.size → (∀ q, q ≠ a → H1[q]? = H[q]?) → jTot H1 = jTot H → (∀ q ∈ locs1, A q.base) → W p l e R s m args below meth c H1 locs1 cells slots Q (F0 m (pc + 1) ls rest)) : W p l e R s m args below meth c H locs cells slots Q (F0 m pc ls (.int x :: .int i :: .ref a :: rest)) := by
  refine W.bast hexec hb hat ((hK.2 t0 _ ht).1 n (fun j => .int (f j))) (fun q => by cases q) (by show ¬ (i < 0 ∨ (arrV _ _ _).slots.size ≤ _); rw [arrV_size]; exact hin) rfl rfl hdg fun H1 e z oq => ?_
  refine kk H1 _ ?_ z oq (jTot_set z hat e (jSet_sz _ _ _) oq) ?_
  · show H1[a]? = some (vp_cell _ _)
    rw [e]
    rw [vp_cell_i, vp_cell_i, arrV_store]
    congr 2
    funext q
    by_cases hq : q = i.toNatClampNeg
    · subst hq
      simp [updV, upd, vp_nar]
      try rfl
    · simp [updV, upd, hq]
  · intro q hq
    rcases List.mem_append.mp hq with h | h
    · exact hL q h
    · cases List.mem_singleton.mp h; exact hA
end JP1
section JP2
variable {p : Program} {l : Launch} {e : Env} {R : Room} {s : State} {m : MethodId} {args : Array Value} {below : List Frame} {meth : Method} {c : Code} {H : Heap} {locs : List Loc} {cells slots : Nat} {Q : State → Prop}
variable {cc : ByteArray} {pc : Nat} {ls : Array Slot} {rest : List Value} {dC : Nat → ClassId} {dI : Nat → Nat → Nat} {ca : Nat → ClassId} {B : jF} {base : Nat} {G0 G : jT} {E : List (Nat × Nat)} {H0 : Heap} {zc zs : Nat} {L : List jPin} {M : List jCt} {I : List jIv} {a k n : Nat} {cA : ClassId} {tys : List (ClassId × FieldType)}
end JP2
end
section
-- p9: JSON as it is read, over bytes b that end at e; tables T (1 kinds, 2 firsts, 3 sizes, 4 nexts, 5 and 6 keys, 7 units, 8: 1 where it stands in a list or object)
theorem jjA.cg {T : Nat → Int → Int} {t : Nat} {n : Int} {f g : Nat → Int32} (h : jjA T t n f) (ho : ∀ i : Int, 0 ≤ i → i < n → jSo g i = jSo f i) : jjA T t n g := fun i h0 h1 => by rw [h i h0 h1, ho i h0 h1]
section
variable {b : Int → Int} {e o h : Int} {V : Int → Int → Int → (Nat → Int → Int) → Int × Int × Int × Int × (Nat → Int → Int)} {k : Nat} {a v u l a1 u1 r a2 v2 u2 q a3 : Int} {T T1 T2 : Nat → Int → Int}
end
end
section
-- p9: frames: X 0 fine or broken, 1 place, 2 told, 3 kept, 4 signs, 5 the name is like the wanted one, 6 digits, 7 value, 8 filled
def jfC (i : Int) : Int := (jCv (jChT "content-length" i.toNat)).toInt
def jfV (a b c d e f g h i : Int) : Nat → Int := fun k => if k = 0 then a else if k = 1 then b else if k = 2 then c else if k = 3 then d else if k = 4 then e else if k = 5 then f else if k = 6 then g else if k = 7 then h else if k = 8 then i else 0
theorem jfV.inj {a b c d e f g h i a' b' c' d' e' f' g' h' i' : Int} (q : jfV a b c d e f g h i = jfV a' b' c' d' e' f' g' h' i') : a = a' ∧ b = b' ∧ c = c' ∧ d = d' ∧ e = e' ∧ f = f' ∧ g = g' ∧ h = h' ∧ i = i' := ⟨congrFun q 0, congrFun q 1, congrFun q 2, congrFun q 3, congrFun q 4, congrFun q 5, congrFun q 6, congrFun q 7, congrFun q 8⟩
def jfOk (s : Int) : Int := if s = 45 ∨ (97 ≤ s ∧ s ≤ 122) then 1 else 0
def jfLn (il sg s : Int) : Int := if il = 1 ∧ sg < 14 ∧ jfC sg = s then 1 else 0
/-- within a name; 0: whether it may be so -/
def jfIn (X : Nat → Int) (c : Int) : Nat → Int := if c = 58 then jfV 1 (if X 5 = 1 ∧ X 4 = 14 then 3 else 2) (X 2) (X 3) (X 4) (X 5) 0 0 (X 8) else jfV (jfOk (jfSm c)) (X 1) (X 2) (X 3) (X 4 + 1) (jfLn (X 5) (X 4) (jfSm c)) (X 6) (X 7) (X 8)
/-- at a line's beginning, in a value, in the length -/
def jfLb (X : Nat → Int) (c : Int) : Nat → Int := if c = 13 then jfV (if 0 ≤ X 2 then 1 else 0) 5 (X 2) (X 3) (X 4) (X 5) (X 6) (X 7) (X 8) else if c = 58 then jfV 0 1 (X 2) (X 3) 0 1 (X 6) (X 7) (X 8) else jfIn (jfV 1 1 (X 2) (X 3) 0 1 (X 6) (X 7) (X 8)) c
def jfIv (X : Nat → Int) (c : Int) : Nat → Int := if c = 13 then jfV 1 4 (X 2) (X 3) (X 4) (X 5) (X 6) (X 7) (X 8) else jfV (if 32 ≤ c ∧ c ≤ 126 then 1 else 0) (X 1) (X 2) (X 3) (X 4) (X 5) (X 6) (X 7) (X 8)
def jfIl (X : Nat → Int) (c : Int) : Nat → Int := if c = 13 then jfV (if 0 < X 6 then 1 else 0) 4 (X 7) (X 3) (X 4) (X 5) (X 6) (X 7) (X 8) else if c < 48 ∨ 57 < c then jfV (if c = 32 ∧ X 6 = 0 then 1 else 0) (X 1) (X 2) (X 3) (X 4) (X 5) (X 6) (X 7) (X 8) else jfV (if X 6 + 1 ≤ 4 ∧ X 7 * 10 + c - 48 ≤ 3000 then 1 else 0) (X 1) (X 2) (X 3) (X 4) (X 5) (X 6 + 1) (X 7 * 10 + c - 48) (X 8)
def jfHd (X : Nat → Int) (c : Int) : Nat → Int := if X 1 = 0 then jfLb X c else if X 1 = 1 then jfIn X c else if X 1 = 2 then jfIv X c else if X 1 = 3 then jfIl X c else jfV (if c = 10 then 1 else 0) (if X 1 = 4 then 0 else 6) (X 2) (X 3) (X 4) (X 5) (X 6) (X 7) (X 8)
section
variable {x a b c d e f g h i u r p q ql qg : Int}
end
section JP3
variable {p : Program} {l : Launch} {e : Env} {R : Room} {s : State} {m : MethodId} {args : Array Value} {below : List Frame} {meth : Method} {c : Code} {H : Heap} {locs : List Loc} {cells slots : Nat} {Q : State → Prop}
variable {cc : ByteArray} {pc : Nat} {ls : Array Slot} {rest : List Value} {dC : Nat → ClassId} {dI : Nat → Nat → Nat} {ca : Nat → ClassId} {B : jF} {base : Nat} {G0 G : jT} {E : List (Nat × Nat)} {H0 : Heap} {zc zs : Nat} {L : List jPin} {M : List jCt} {I : List jIv} {a k n : Nat} {cA : ClassId} {tys : List (ClassId × FieldType)}
end JP3
section JP4
variable {p : Program} {l : Launch} {e : Env} {R : Room} {s : State} {m : MethodId} {args : Array Value} {below : List Frame} {meth : Method} {c : Code} {H : Heap} {locs : List Loc} {cells slots : Nat} {Q : State → Prop}
variable {cc : ByteArray} {pc : Nat} {ls : Array Slot} {rest : List Value} {dC : Nat → ClassId} {dI : Nat → Nat → Nat} {ca : Nat → ClassId} {B : jF} {base : Nat} {G0 G : jT} {E : List (Nat × Nat)} {H0 : Heap} {zc zs : Nat} {L : List jPin} {M : List jCt} {I : List jIv} {a k n : Nat} {cA : ClassId} {tys : List (ClassId × FieldType)}
variable {P : Nat → Int32 → Prop}
end JP4
end
section
-- p9: what is asked of JSON that was read
def jqZ (T : Nat → Int → Int) (v i : Int) : Int := if 0 ≤ i ∧ i < v then T 3 i else 0
def jqV (T : Nat → Int → Int) (v i : Int) : Int := if 0 ≤ i ∧ i < v then T 2 i else 0
/-- a string value's unit -/
def jqA (T : Nat → Int → Int) (v i j : Int) : Int := if jqK T v i = 3 ∧ 0 ≤ j ∧ j < T 3 i then T 7 (T 2 i + j) else 0
/-- a string value is the row g of length n -/
def jqEl (T : Nat → Int → Int) (v i : Int) (g : Int → Int) : Nat → Int
  | 0 => 1
  | n + 1 => if jqA T v i n = g n then jqEl T v i g n else 0
def jqE (T : Nat → Int → Int) (v i : Int) (g : Int → Int) (n : Int) : Int := if jqK T v i = 3 ∧ T 3 i = n then jqEl T v i g n.toNat else 0
end
section
-- p9: documents: places, changes, messages
def jdE (g : Int → Int) (n a : Int) : Int := if g a = 10 ∨ (g a = 13 ∧ ¬ (a + 1 < n ∧ g (a + 1) = 10)) then 1 else 0
def jdL (g : Int → Int) (n w : Int) : Nat → Int → Int → Int × Int
  | 0, a, p => (a, p)
  | k + 1, a, p => if a < n ∧ p < w then jdL g n w k (a + 1) (p + jdE g n a) else (a, p)
def jdC (g : Int → Int) (n f c : Int) : Nat → Int → Int
  | 0, a => a
  | k + 1, a => if a < n ∧ a - f < c ∧ g a ≠ 10 ∧ g a ≠ 13 then jdC g n f c k (a + 1) else a
theorem jdC.r {g : Int → Int} {n f c : Int} : ∀ (k : Nat) (a : Int), a ≤ n → a ≤ jdC g n f c k a ∧ jdC g n f c k a ≤ n
  | 0, a, h => ⟨Int.le_refl a, h⟩
  | k + 1, a, h => by
    by_cases w : a < n ∧ a - f < c ∧ g a ≠ 10 ∧ g a ≠ 13
    · have e : jdC g n f c (k + 1) a = jdC g n f c k (a + 1) := if_pos w
      have ih := jdC.r (g := g) (n := n) (f := f) (c := c) k (a + 1) (by omega)
      rw [e]; omega
    · have e : jdC g n f c (k + 1) a = a := if_neg w
      rw [e]; omega
/-- the place of a character in a line; -1 when the line is not there -/
def jdP (g : Int → Int) (n w c : Int) : Int := if w < 0 ∨ c < 0 then -1 else if (jdL g n w n.toNat 0 0).2 < w then -1 else jdC g n (jdL g n w n.toNat 0 0).1 c n.toNat (jdL g n w n.toNat 0 0).1
/-- z units q come for those from s up to t -/
def jdR (g : Int → Int) (s t z : Int) (q : Int → Int) : Int → Int := fun j => if j < s then g j else if j < s + z then q (j - s) else g (j - s - z + t)
/-- a position told by JSON -/
def jdT (T : Nat → Int → Int) (v : Int) (g : Int → Int) (n p : Int) : Int := if jqK T v (jqM T v (jChT "line") 4 p) = 4 ∧ jqK T v (jqM T v (jChT "character") 9 p) = 4 then jdP g n (T 2 (jqM T v (jChT "line") 4 p)) (T 2 (jqM T v (jChT "character") 9 p)) else -1
/-- where a change goes: from, to -/
def jdS (T : Nat → Int → Int) (v : Int) (g : Int → Int) (n c : Int) : Int × Int := if jqM T v (jChT "range") 5 c < 0 then (0, n) else (jdT T v g n (jqM T v (jChT "start") 5 (jqM T v (jChT "range") 5 c)), jdT T v g n (jqM T v (jChT "end") 3 (jqM T v (jChT "range") 5 c)))
/-- one change: 1 when it can be made; the units' count, the units -/
def jdO (T : Nat → Int → Int) (v : Int) (g : Int → Int) (n c : Int) : Int × Int × (Int → Int) :=
  if jqK T v (jqM T v (jChT "text") 4 c) = 3 ∧ 0 ≤ (jdS T v g n c).1 ∧ (jdS T v g n c).1 ≤ (jdS T v g n c).2 ∧ (jdS T v g n c).1 + T 3 (jqM T v (jChT "text") 4 c) + (n - (jdS T v g n c).2) ≤ 1500 then
    (1, (jdS T v g n c).1 + T 3 (jqM T v (jChT "text") 4 c) + (n - (jdS T v g n c).2), jdR g (jdS T v g n c).1 (jdS T v g n c).2 (T 3 (jqM T v (jChT "text") 4 c)) (fun j => jqA T v (jqM T v (jChT "text") 4 c) j))
  else (0, n, g)
/-- k changes, from c on -/
def jdCh (T : Nat → Int → Int) (v : Int) : Nat → Int → Int → (Int → Int) → Int × Int × (Int → Int)
  | 0, _, n, g => (1, n, g)
  | k + 1, c, n, g => if (jdO T v g n c).1 = 1 then jdCh T v k (T 4 c) (jdO T v g n c).2.1 (jdO T v g n c).2.2 else (0, n, g)
/-- the open document (of those from d on, k of them) that a string names -/
def jdF (T : Nat → Int → Int) (v i : Int) (ul : Int → Int) (ur : Int → Int → Int) : Nat → Int → Int
  | 0, _ => -1
  | k + 1, d => if jqE T v i (ur d) (ul d) = 1 then d else jdF T v i ul ur k (d + 1)
def jdPm (T : Nat → Int → Int) (v : Int) : Int := jqM T v (jChT "params") 6 0
def jdTd (T : Nat → Int → Int) (v : Int) : Int := jqM T v (jChT "textDocument") 12 (jdPm T v)
def jdUr (T : Nat → Int → Int) (v : Int) : Int := jqM T v (jChT "uri") 3 (jdTd T v)
def jdCc (T : Nat → Int → Int) (v : Int) : Int := jqM T v (jChT "contentChanges") 14 (jdPm T v)
/-- one document: version, length, text, the uri's length, the uri -/
abbrev jdD := Int × Int × (Int → Int) × Int × (Int → Int)
def jdDz : jdD := (0, 0, fun _ => 0, 0, fun _ => 0)
def jdKp (n : Int) (g : Int → Int) : Int → Int := fun j => if 0 ≤ j ∧ j < n then g j else 0
def jdDn (F : Int → jdD) (d : Int) : Int → jdD := fun i => if i < d then F i else F (i + 1)
/-- the number of the document that a message is about; -1 when there is none -/
def jdWh (T : Nat → Int → Int) (v c : Int) (F : Int → jdD) : Int := jdF T v (jdUr T v) (fun d => (F d).2.2.2.1) (fun d => (F d).2.2.2.2) c.toNat 0
/-- the text of a document with all changes -/
def jdNew (T : Nat → Int → Int) (v : Int) (D : jdD) : Int × Int × (Int → Int) := jdCh T v (T 3 (jdCc T v)).toNat (T 2 (jdCc T v)) D.2.1 D.2.2.1
end
