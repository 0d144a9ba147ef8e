section
-- the typed heap: a root has a kind below 1000; the cells that belong to a root are marked (1000 + place, root); B says what a root of a kind and its cells hold
theorem jX.fresh {B : jF} {base : Nat} {G : jT} {X : List Nat} {H : Heap} (h : jX B base G X H) : G H.size = none := by
  cases e : G H.size with
  | none => rfl
  | some t => exact absurd (h.2 _ _ e).2 (Nat.lt_irrefl _)
theorem jLe.new {G : jT} {q : Nat} {t : Nat × Nat} (h : G q = none) : jLe G (va_up G q (some t)) := by
  intro a u hu
  by_cases e : a = q
  · subst e; rw [h] at hu; cases hu
  · rw [va_up_ne _ _ e]; exact hu
/-- a new cell: a root that is still open, or a cell of a root -/
theorem jX.grow {B : jF} {base : Nat} {G : jT} {X : List Nat} {H H1 : Heap} (h : jX B base G X H) (hB : jBok B) (t : Nat × Nat) (hb : base ≤ H.size) (hsz : H1.size = H.size + 1) (hfr : ∀ p, p < H.size → H1[p]? = H[p]?) : jX B base (va_up G H.size (some t)) (H.size :: X) H1 := by
  have hn := h.fresh
  refine ⟨fun a k1 n1 h1 h2 h3 => ?_, fun a u hu => ?_⟩
  · have ha : a ≠ H.size := fun e => h3 (by rw [e]; exact List.mem_cons_self)
    rw [va_up_ne _ _ ha] at h1
    have h3' : a ∉ X := fun q => h3 (List.mem_cons_of_mem _ q)
    refine hB.2 k1 n1 G _ a H1 (jLe.new hn) (hB.1 k1 n1 G a H H1 (fun p hp => hfr p ?_) (h.1 a k1 n1 h1 h2 h3'))
    rcases hp with e | ⟨i, e⟩
    · rw [e]; exact (h.2 _ _ h1).2
    · exact (h.2 _ _ e).2
  · by_cases e : a = H.size
    · subst e; exact ⟨hb, by omega⟩
    · rw [va_up_ne _ _ e] at hu
      have := h.2 a u hu
      exact ⟨this.1, by omega⟩
theorem jUp_self {G : jT} {q : Nat} {t : Nat × Nat} : va_up G q (some t) q = some t := by simp [va_up]
end
section
theorem dX14_isDigit_0 : decode cX14_isDigit 0 = .ok (.iload_n 0, 1) := by decide +kernel
theorem dX14_isDigit_1 : decode cX14_isDigit 1 = .ok (.bipush 48, 2) := by decide +kernel
theorem dX14_isDigit_3 : decode cX14_isDigit 3 = .ok (.bipush 57, 2) := by decide +kernel
theorem dX14_isDigit_5 : decode cX14_isDigit 5 = .ok (.invokestatic 181, 3) := by decide +kernel
theorem dX14_isDigit_8 : decode cX14_isDigit 8 = .ok (.ireturn, 1) := by decide +kernel
end
section
section JB2
variable {dC : Nat → ClassId} {dI : Nat → Nat → Nat} {ca : Nat → ClassId} {base : Nat} {B : jF} {LC LS : Nat} {G0 G G1 : jT} {X : List Nat} {a len0 len len1 : Nat} {cnt0 cnt cnt1 : Int32} {K K1 K2 : Nat} {H0 H H1 : Heap}
theorem jN2.cells (hN : jN2 LC LS len0 cnt0 K H0) (h : jPost2 dC dI ca base B G0 X a len0 cnt0 K1 H0 (G, len, cnt) H) (hK : K1 ≤ K) (kt : jTot H0 ≤ jTot H) : (H.size - H0.size) + (LC - H.size) ≤ LC - H0.size ∧ (jTot H - jTot H0) + (LS - jTot H) ≤ LS - jTot H0 ∧ H.size - H0.size ≤ LC - H0.size ∧ jTot H - jTot H0 ≤ LS - jTot H0 := by
  obtain ⟨a1, a2, a3, a4, a5, a6, a7, a8, a9, a10, a11, a12, a13⟩ := h
  obtain ⟨b1, b2, b3, b4, b5⟩ := hN
  simp only at *
  rcases b5 with e | ⟨e, e2, e3⟩
  · rcases a11 with e4 | ⟨e4, e5⟩
    · omega
    · omega
  · omega
end JB2
end
section
theorem jb_lcmp {x y : Int64} {z : Int32} (h : z = lg_cmp x y) : (y.toInt < x.toInt ∧ z.toInt = 1) ∨ (x.toInt = y.toInt ∧ z.toInt = 0) ∨ (x.toInt < y.toInt ∧ z.toInt = -1) := by
  unfold lg_cmp at h
  by_cases h1 : x > y
  · rw [if_pos h1] at h
    exact Or.inl ⟨Int64.lt_iff_toInt_lt.mp h1, by rw [h]; decide⟩
  · rw [if_neg h1] at h
    by_cases h2 : x = y
    · rw [if_pos h2] at h
      exact Or.inr (Or.inl ⟨by rw [h2], by rw [h]; decide⟩)
    · rw [if_neg h2] at h
      refine Or.inr (Or.inr ⟨?_, by rw [h]; decide⟩)
      have h3 : ¬ y.toInt < x.toInt := fun q => h1 (Int64.lt_iff_toInt_lt.mpr q)
      have h4 : x.toInt ≠ y.toInt := fun q => h2 (Int64.toInt_inj.mp q)
      omega
end
section
-- contracts over the typed heap: which roots may change
theorem jModP.new {G0 : jT} {M : Nat → Prop} {H0 H H1 : Heap} {a : Nat} (h : jModP G0 M H0 H) (ha : H0.size ≤ a) (hfr : ∀ q, q ≠ a → H1[q]? = H[q]?) : jModP G0 M H0 H1 := fun q hq hn => (hfr q (by omega)).trans (h q hq hn)
section JL
variable {p : Program} {l : Launch} {e : Env} {R : Room} {s : State} {m : MethodId} {args : Array Value} {below : List Frame} {meth : Method} {c : Code} {H : Heap} {locs : List Loc} {cells slots : Nat} {Q : State → Prop}
variable {cc : ByteArray} {pc : Nat} {ls : Array Slot} {rest : List Value} {D : va_G} {cl : List vw_C} {A : Nat → Prop} {a : Nat} {tys : List (ClassId × FieldType)}
end JL
end
section
theorem dJ0_indexOf_0f7a4_0 : decode cJ0_indexOf_0f7a4 0 = .ok (.aload_n 0, 1) := by decide +kernel
theorem dJ0_indexOf_0f7a4_1 : decode cJ0_indexOf_0f7a4 1 = .ok (.iload_n 1, 1) := by decide +kernel
theorem dJ0_indexOf_0f7a4_2 : decode cJ0_indexOf_0f7a4 2 = .ok (.iconst 0, 1) := by decide +kernel
theorem dJ0_indexOf_0f7a4_3 : decode cJ0_indexOf_0f7a4 3 = .ok (.invokevirtual 633, 3) := by decide +kernel
theorem dJ0_indexOf_0f7a4_6 : decode cJ0_indexOf_0f7a4 6 = .ok (.ireturn, 1) := by decide +kernel
end
section
theorem dX14_here_0 : decode cX14_here 0 = .ok (.aload_n 0, 1) := by decide +kernel
theorem dX14_here_1 : decode cX14_here 1 = .ok (.getfield 273, 3) := by decide +kernel
theorem dX14_here_4 : decode cX14_here 4 = .ok (.aload_n 0, 1) := by decide +kernel
theorem dX14_here_5 : decode cX14_here 5 = .ok (.getfield 276, 3) := by decide +kernel
theorem dX14_here_8 : decode cX14_here 8 = .ok (.if_icmp .ge 15, 3) := by decide +kernel
theorem dX14_here_11 : decode cX14_here 11 = .ok (.aload_n 0, 1) := by decide +kernel
theorem dX14_here_12 : decode cX14_here 12 = .ok (.getfield 20, 3) := by decide +kernel
theorem dX14_here_15 : decode cX14_here 15 = .ok (.aload_n 0, 1) := by decide +kernel
theorem dX14_here_16 : decode cX14_here 16 = .ok (.getfield 273, 3) := by decide +kernel
theorem dX14_here_19 : decode cX14_here 19 = .ok (.iaload, 1) := by decide +kernel
theorem dX14_here_20 : decode cX14_here 20 = .ok (.goto 4, 3) := by decide +kernel
theorem dX14_here_23 : decode cX14_here 23 = .ok (.iconst (-1), 1) := by decide +kernel
theorem dX14_here_24 : decode cX14_here 24 = .ok (.ireturn, 1) := by decide +kernel
theorem dX14_blanks_0 : decode cX14_blanks 0 = .ok (.aload_n 0, 1) := by decide +kernel
theorem dX14_blanks_1 : decode cX14_blanks 1 = .ok (.invokevirtual 279, 3) := by decide +kernel
theorem dX14_blanks_4 : decode cX14_blanks 4 = .ok (.bipush 32, 2) := by decide +kernel
theorem dX14_blanks_6 : decode cX14_blanks 6 = .ok (.if_icmp .eq 30, 3) := by decide +kernel
theorem dX14_blanks_9 : decode cX14_blanks 9 = .ok (.aload_n 0, 1) := by decide +kernel
theorem dX14_blanks_10 : decode cX14_blanks 10 = .ok (.invokevirtual 279, 3) := by decide +kernel
theorem dX14_blanks_13 : decode cX14_blanks 13 = .ok (.bipush 9, 2) := by decide +kernel
theorem dX14_blanks_15 : decode cX14_blanks 15 = .ok (.if_icmp .eq 21, 3) := by decide +kernel
theorem dX14_blanks_18 : decode cX14_blanks 18 = .ok (.aload_n 0, 1) := by decide +kernel
theorem dX14_blanks_19 : decode cX14_blanks 19 = .ok (.invokevirtual 279, 3) := by decide +kernel
theorem dX14_blanks_22 : decode cX14_blanks 22 = .ok (.bipush 10, 2) := by decide +kernel
theorem dX14_blanks_24 : decode cX14_blanks 24 = .ok (.if_icmp .eq 12, 3) := by decide +kernel
theorem dX14_blanks_27 : decode cX14_blanks 27 = .ok (.aload_n 0, 1) := by decide +kernel
theorem dX14_blanks_28 : decode cX14_blanks 28 = .ok (.invokevirtual 279, 3) := by decide +kernel
theorem dX14_blanks_31 : decode cX14_blanks 31 = .ok (.bipush 13, 2) := by decide +kernel
theorem dX14_blanks_33 : decode cX14_blanks 33 = .ok (.if_icmp .ne 16, 3) := by decide +kernel
theorem dX14_blanks_36 : decode cX14_blanks 36 = .ok (.aload_n 0, 1) := by decide +kernel
theorem dX14_blanks_37 : decode cX14_blanks 37 = .ok (.dup, 1) := by decide +kernel
theorem dX14_blanks_38 : decode cX14_blanks 38 = .ok (.getfield 273, 3) := by decide +kernel
theorem dX14_blanks_41 : decode cX14_blanks 41 = .ok (.iconst 1, 1) := by decide +kernel
theorem dX14_blanks_42 : decode cX14_blanks 42 = .ok (.iadd, 1) := by decide +kernel
theorem dX14_blanks_43 : decode cX14_blanks 43 = .ok (.putfield 273, 3) := by decide +kernel
theorem dX14_blanks_46 : decode cX14_blanks 46 = .ok (.goto (-46), 3) := by decide +kernel
theorem dX14_blanks_49 : decode cX14_blanks 49 = .ok (.return_, 1) := by decide +kernel
theorem dX14_node_0 : decode cX14_node 0 = .ok (.aload_n 0, 1) := by decide +kernel
theorem dX14_node_1 : decode cX14_node 1 = .ok (.getfield 37, 3) := by decide +kernel
theorem dX14_node_4 : decode cX14_node 4 = .ok (.aload_n 0, 1) := by decide +kernel
theorem dX14_node_5 : decode cX14_node 5 = .ok (.getfield 282, 3) := by decide +kernel
theorem dX14_node_8 : decode cX14_node 8 = .ok (.iload_n 1, 1) := by decide +kernel
theorem dX14_node_9 : decode cX14_node 9 = .ok (.iastore, 1) := by decide +kernel
theorem dX14_node_10 : decode cX14_node 10 = .ok (.aload_n 0, 1) := by decide +kernel
theorem dX14_node_11 : decode cX14_node 11 = .ok (.getfield 40, 3) := by decide +kernel
theorem dX14_node_14 : decode cX14_node 14 = .ok (.aload_n 0, 1) := by decide +kernel
theorem dX14_node_15 : decode cX14_node 15 = .ok (.getfield 282, 3) := by decide +kernel
theorem dX14_node_18 : decode cX14_node 18 = .ok (.iconst (-1), 1) := by decide +kernel
theorem dX14_node_19 : decode cX14_node 19 = .ok (.iastore, 1) := by decide +kernel
theorem dX14_node_20 : decode cX14_node 20 = .ok (.aload_n 0, 1) := by decide +kernel
theorem dX14_node_21 : decode cX14_node 21 = .ok (.getfield 43, 3) := by decide +kernel
theorem dX14_node_24 : decode cX14_node 24 = .ok (.aload_n 0, 1) := by decide +kernel
theorem dX14_node_25 : decode cX14_node 25 = .ok (.getfield 282, 3) := by decide +kernel
theorem dX14_node_28 : decode cX14_node 28 = .ok (.iconst (-1), 1) := by decide +kernel
theorem dX14_node_29 : decode cX14_node 29 = .ok (.iastore, 1) := by decide +kernel
theorem dX14_node_30 : decode cX14_node 30 = .ok (.aload_n 0, 1) := by decide +kernel
theorem dX14_node_31 : decode cX14_node 31 = .ok (.getfield 58, 3) := by decide +kernel
theorem dX14_node_34 : decode cX14_node 34 = .ok (.aload_n 0, 1) := by decide +kernel
theorem dX14_node_35 : decode cX14_node 35 = .ok (.getfield 282, 3) := by decide +kernel
theorem dX14_node_38 : decode cX14_node 38 = .ok (.iconst 0, 1) := by decide +kernel
theorem dX14_node_39 : decode cX14_node 39 = .ok (.bastore, 1) := by decide +kernel
theorem dX14_node_40 : decode cX14_node 40 = .ok (.aload_n 0, 1) := by decide +kernel
theorem dX14_node_41 : decode cX14_node 41 = .ok (.dup, 1) := by decide +kernel
theorem dX14_node_42 : decode cX14_node 42 = .ok (.getfield 282, 3) := by decide +kernel
theorem dX14_node_45 : decode cX14_node 45 = .ok (.iconst 1, 1) := by decide +kernel
theorem dX14_node_46 : decode cX14_node 46 = .ok (.iadd, 1) := by decide +kernel
theorem dX14_node_47 : decode cX14_node 47 = .ok (.putfield 282, 3) := by decide +kernel
theorem dX14_node_50 : decode cX14_node 50 = .ok (.aload_n 0, 1) := by decide +kernel
theorem dX14_node_51 : decode cX14_node 51 = .ok (.getfield 282, 3) := by decide +kernel
theorem dX14_node_54 : decode cX14_node 54 = .ok (.iconst 1, 1) := by decide +kernel
theorem dX14_node_55 : decode cX14_node 55 = .ok (.isub, 1) := by decide +kernel
theorem dX14_node_56 : decode cX14_node 56 = .ok (.ireturn, 1) := by decide +kernel
theorem dX14_takes_0 : decode cX14_takes 0 = .ok (.iconst 0, 1) := by decide +kernel
theorem dX14_takes_1 : decode cX14_takes 1 = .ok (.istore_n 2, 1) := by decide +kernel
theorem dX14_takes_2 : decode cX14_takes 2 = .ok (.iload_n 2, 1) := by decide +kernel
theorem dX14_takes_3 : decode cX14_takes 3 = .ok (.aload_n 1, 1) := by decide +kernel
theorem dX14_takes_4 : decode cX14_takes 4 = .ok (.invokevirtual 163, 3) := by decide +kernel
theorem dX14_takes_7 : decode cX14_takes 7 = .ok (.if_icmp .ge 43, 3) := by decide +kernel
theorem dX14_takes_10 : decode cX14_takes 10 = .ok (.aload_n 0, 1) := by decide +kernel
theorem dX14_takes_11 : decode cX14_takes 11 = .ok (.getfield 273, 3) := by decide +kernel
theorem dX14_takes_14 : decode cX14_takes 14 = .ok (.iload_n 2, 1) := by decide +kernel
theorem dX14_takes_15 : decode cX14_takes 15 = .ok (.iadd, 1) := by decide +kernel
theorem dX14_takes_16 : decode cX14_takes 16 = .ok (.aload_n 0, 1) := by decide +kernel
theorem dX14_takes_17 : decode cX14_takes 17 = .ok (.getfield 276, 3) := by decide +kernel
theorem dX14_takes_20 : decode cX14_takes 20 = .ok (.if_icmp .ge 22, 3) := by decide +kernel
theorem dX14_takes_23 : decode cX14_takes 23 = .ok (.aload_n 0, 1) := by decide +kernel
theorem dX14_takes_24 : decode cX14_takes 24 = .ok (.getfield 20, 3) := by decide +kernel
theorem dX14_takes_27 : decode cX14_takes 27 = .ok (.aload_n 0, 1) := by decide +kernel
theorem dX14_takes_28 : decode cX14_takes 28 = .ok (.getfield 273, 3) := by decide +kernel
theorem dX14_takes_31 : decode cX14_takes 31 = .ok (.iload_n 2, 1) := by decide +kernel
theorem dX14_takes_32 : decode cX14_takes 32 = .ok (.iadd, 1) := by decide +kernel
theorem dX14_takes_33 : decode cX14_takes 33 = .ok (.iaload, 1) := by decide +kernel
theorem dX14_takes_34 : decode cX14_takes 34 = .ok (.aload_n 1, 1) := by decide +kernel
theorem dX14_takes_35 : decode cX14_takes 35 = .ok (.iload_n 2, 1) := by decide +kernel
theorem dX14_takes_36 : decode cX14_takes 36 = .ok (.invokevirtual 168, 3) := by decide +kernel
theorem dX14_takes_39 : decode cX14_takes 39 = .ok (.if_icmp .eq 5, 3) := by decide +kernel
theorem dX14_takes_42 : decode cX14_takes 42 = .ok (.iconst 0, 1) := by decide +kernel
theorem dX14_takes_43 : decode cX14_takes 43 = .ok (.ireturn, 1) := by decide +kernel
theorem dX14_takes_44 : decode cX14_takes 44 = .ok (.iinc 2 1, 3) := by decide +kernel
theorem dX14_takes_47 : decode cX14_takes 47 = .ok (.goto (-45), 3) := by decide +kernel
theorem dX14_takes_50 : decode cX14_takes 50 = .ok (.aload_n 0, 1) := by decide +kernel
theorem dX14_takes_51 : decode cX14_takes 51 = .ok (.dup, 1) := by decide +kernel
theorem dX14_takes_52 : decode cX14_takes 52 = .ok (.getfield 273, 3) := by decide +kernel
theorem dX14_takes_55 : decode cX14_takes 55 = .ok (.aload_n 1, 1) := by decide +kernel
theorem dX14_takes_56 : decode cX14_takes 56 = .ok (.invokevirtual 163, 3) := by decide +kernel
theorem dX14_takes_59 : decode cX14_takes 59 = .ok (.iadd, 1) := by decide +kernel
theorem dX14_takes_60 : decode cX14_takes 60 = .ok (.putfield 273, 3) := by decide +kernel
theorem dX14_takes_63 : decode cX14_takes 63 = .ok (.iconst 1, 1) := by decide +kernel
theorem dX14_takes_64 : decode cX14_takes 64 = .ok (.ireturn, 1) := by decide +kernel
theorem dX14_digits_0 : decode cX14_digits 0 = .ok (.aload_n 0, 1) := by decide +kernel
theorem dX14_digits_1 : decode cX14_digits 1 = .ok (.invokevirtual 279, 3) := by decide +kernel
theorem dX14_digits_4 : decode cX14_digits 4 = .ok (.invokestatic 224, 3) := by decide +kernel
theorem dX14_digits_7 : decode cX14_digits 7 = .ok (.ifCond .ne 8, 3) := by decide +kernel
theorem dX14_digits_10 : decode cX14_digits 10 = .ok (.aload_n 0, 1) := by decide +kernel
theorem dX14_digits_11 : decode cX14_digits 11 = .ok (.iconst 1, 1) := by decide +kernel
theorem dX14_digits_12 : decode cX14_digits 12 = .ok (.putfield 288, 3) := by decide +kernel
theorem dX14_digits_15 : decode cX14_digits 15 = .ok (.aload_n 0, 1) := by decide +kernel
theorem dX14_digits_16 : decode cX14_digits 16 = .ok (.invokevirtual 279, 3) := by decide +kernel
theorem dX14_digits_19 : decode cX14_digits 19 = .ok (.invokestatic 224, 3) := by decide +kernel
theorem dX14_digits_22 : decode cX14_digits 22 = .ok (.ifCond .eq 16, 3) := by decide +kernel
theorem dX14_digits_25 : decode cX14_digits 25 = .ok (.aload_n 0, 1) := by decide +kernel
theorem dX14_digits_26 : decode cX14_digits 26 = .ok (.dup, 1) := by decide +kernel
theorem dX14_digits_27 : decode cX14_digits 27 = .ok (.getfield 273, 3) := by decide +kernel
theorem dX14_digits_30 : decode cX14_digits 30 = .ok (.iconst 1, 1) := by decide +kernel
theorem dX14_digits_31 : decode cX14_digits 31 = .ok (.iadd, 1) := by decide +kernel
theorem dX14_digits_32 : decode cX14_digits 32 = .ok (.putfield 273, 3) := by decide +kernel
theorem dX14_digits_35 : decode cX14_digits 35 = .ok (.goto (-20), 3) := by decide +kernel
theorem dX14_digits_38 : decode cX14_digits 38 = .ok (.return_, 1) := by decide +kernel
theorem dX14_unit_0 : decode cX14_unit 0 = .ok (.iload_n 1, 1) := by decide +kernel
theorem dX14_unit_1 : decode cX14_unit 1 = .ok (.ldc_w 333, 3) := by decide +kernel
theorem dX14_unit_4 : decode cX14_unit 4 = .ok (.if_icmp .le 57, 3) := by decide +kernel
theorem dX14_unit_7 : decode cX14_unit 7 = .ok (.aload_n 0, 1) := by decide +kernel
theorem dX14_unit_8 : decode cX14_unit 8 = .ok (.getfield 65, 3) := by decide +kernel
theorem dX14_unit_11 : decode cX14_unit 11 = .ok (.aload_n 0, 1) := by decide +kernel
theorem dX14_unit_12 : decode cX14_unit 12 = .ok (.getfield 304, 3) := by decide +kernel
theorem dX14_unit_15 : decode cX14_unit 15 = .ok (.ldc 179, 2) := by decide +kernel
theorem dX14_unit_17 : decode cX14_unit 17 = .ok (.iload_n 1, 1) := by decide +kernel
theorem dX14_unit_18 : decode cX14_unit 18 = .ok (.ldc 197, 2) := by decide +kernel
theorem dX14_unit_20 : decode cX14_unit 20 = .ok (.isub, 1) := by decide +kernel
theorem dX14_unit_21 : decode cX14_unit 21 = .ok (.bipush 10, 2) := by decide +kernel
theorem dX14_unit_23 : decode cX14_unit 23 = .ok (.ishr, 1) := by decide +kernel
theorem dX14_unit_24 : decode cX14_unit 24 = .ok (.iadd, 1) := by decide +kernel
theorem dX14_unit_25 : decode cX14_unit 25 = .ok (.iastore, 1) := by decide +kernel
theorem dX14_unit_26 : decode cX14_unit 26 = .ok (.aload_n 0, 1) := by decide +kernel
theorem dX14_unit_27 : decode cX14_unit 27 = .ok (.getfield 65, 3) := by decide +kernel
theorem dX14_unit_30 : decode cX14_unit 30 = .ok (.aload_n 0, 1) := by decide +kernel
theorem dX14_unit_31 : decode cX14_unit 31 = .ok (.getfield 304, 3) := by decide +kernel
theorem dX14_unit_34 : decode cX14_unit 34 = .ok (.iconst 1, 1) := by decide +kernel
theorem dX14_unit_35 : decode cX14_unit 35 = .ok (.iadd, 1) := by decide +kernel
theorem dX14_unit_36 : decode cX14_unit 36 = .ok (.ldc 185, 2) := by decide +kernel
theorem dX14_unit_38 : decode cX14_unit 38 = .ok (.iload_n 1, 1) := by decide +kernel
theorem dX14_unit_39 : decode cX14_unit 39 = .ok (.ldc 197, 2) := by decide +kernel
theorem dX14_unit_41 : decode cX14_unit 41 = .ok (.isub, 1) := by decide +kernel
theorem dX14_unit_42 : decode cX14_unit 42 = .ok (.sipush 1023, 3) := by decide +kernel
theorem dX14_unit_45 : decode cX14_unit 45 = .ok (.iand, 1) := by decide +kernel
theorem dX14_unit_46 : decode cX14_unit 46 = .ok (.iadd, 1) := by decide +kernel
theorem dX14_unit_47 : decode cX14_unit 47 = .ok (.iastore, 1) := by decide +kernel
theorem dX14_unit_48 : decode cX14_unit 48 = .ok (.aload_n 0, 1) := by decide +kernel
theorem dX14_unit_49 : decode cX14_unit 49 = .ok (.dup, 1) := by decide +kernel
theorem dX14_unit_50 : decode cX14_unit 50 = .ok (.getfield 304, 3) := by decide +kernel
theorem dX14_unit_53 : decode cX14_unit 53 = .ok (.iconst 2, 1) := by decide +kernel
theorem dX14_unit_54 : decode cX14_unit 54 = .ok (.iadd, 1) := by decide +kernel
theorem dX14_unit_55 : decode cX14_unit 55 = .ok (.putfield 304, 3) := by decide +kernel
theorem dX14_unit_58 : decode cX14_unit 58 = .ok (.goto 23, 3) := by decide +kernel
theorem dX14_unit_61 : decode cX14_unit 61 = .ok (.aload_n 0, 1) := by decide +kernel
theorem dX14_unit_62 : decode cX14_unit 62 = .ok (.getfield 65, 3) := by decide +kernel
theorem dX14_unit_65 : decode cX14_unit 65 = .ok (.aload_n 0, 1) := by decide +kernel
theorem dX14_unit_66 : decode cX14_unit 66 = .ok (.getfield 304, 3) := by decide +kernel
theorem dX14_unit_69 : decode cX14_unit 69 = .ok (.iload_n 1, 1) := by decide +kernel
theorem dX14_unit_70 : decode cX14_unit 70 = .ok (.iastore, 1) := by decide +kernel
theorem dX14_unit_71 : decode cX14_unit 71 = .ok (.aload_n 0, 1) := by decide +kernel
theorem dX14_unit_72 : decode cX14_unit 72 = .ok (.dup, 1) := by decide +kernel
theorem dX14_unit_73 : decode cX14_unit 73 = .ok (.getfield 304, 3) := by decide +kernel
theorem dX14_unit_76 : decode cX14_unit 76 = .ok (.iconst 1, 1) := by decide +kernel
theorem dX14_unit_77 : decode cX14_unit 77 = .ok (.iadd, 1) := by decide +kernel
theorem dX14_unit_78 : decode cX14_unit 78 = .ok (.putfield 304, 3) := by decide +kernel
theorem dX14_unit_81 : decode cX14_unit 81 = .ok (.return_, 1) := by decide +kernel
theorem dX14_hexOf_0 : decode cX14_hexOf 0 = .ok (.iload_n 0, 1) := by decide +kernel
theorem dX14_hexOf_1 : decode cX14_hexOf 1 = .ok (.invokestatic 224, 3) := by decide +kernel
theorem dX14_hexOf_4 : decode cX14_hexOf 4 = .ok (.ifCond .eq 10, 3) := by decide +kernel
theorem dX14_hexOf_7 : decode cX14_hexOf 7 = .ok (.iload_n 0, 1) := by decide +kernel
theorem dX14_hexOf_8 : decode cX14_hexOf 8 = .ok (.bipush 48, 2) := by decide +kernel
theorem dX14_hexOf_10 : decode cX14_hexOf 10 = .ok (.isub, 1) := by decide +kernel
theorem dX14_hexOf_11 : decode cX14_hexOf 11 = .ok (.goto 46, 3) := by decide +kernel
theorem dX14_hexOf_14 : decode cX14_hexOf 14 = .ok (.iload_n 0, 1) := by decide +kernel
theorem dX14_hexOf_15 : decode cX14_hexOf 15 = .ok (.bipush 97, 2) := by decide +kernel
theorem dX14_hexOf_17 : decode cX14_hexOf 17 = .ok (.bipush 102, 2) := by decide +kernel
theorem dX14_hexOf_19 : decode cX14_hexOf 19 = .ok (.invokestatic 181, 3) := by decide +kernel
theorem dX14_hexOf_22 : decode cX14_hexOf 22 = .ok (.ifCond .eq 13, 3) := by decide +kernel
theorem dX14_hexOf_25 : decode cX14_hexOf 25 = .ok (.iload_n 0, 1) := by decide +kernel
theorem dX14_hexOf_26 : decode cX14_hexOf 26 = .ok (.bipush 97, 2) := by decide +kernel
theorem dX14_hexOf_28 : decode cX14_hexOf 28 = .ok (.isub, 1) := by decide +kernel
theorem dX14_hexOf_29 : decode cX14_hexOf 29 = .ok (.bipush 10, 2) := by decide +kernel
theorem dX14_hexOf_31 : decode cX14_hexOf 31 = .ok (.iadd, 1) := by decide +kernel
theorem dX14_hexOf_32 : decode cX14_hexOf 32 = .ok (.goto 25, 3) := by decide +kernel
theorem dX14_hexOf_35 : decode cX14_hexOf 35 = .ok (.iload_n 0, 1) := by decide +kernel
theorem dX14_hexOf_36 : decode cX14_hexOf 36 = .ok (.bipush 65, 2) := by decide +kernel
theorem dX14_hexOf_38 : decode cX14_hexOf 38 = .ok (.bipush 70, 2) := by decide +kernel
theorem dX14_hexOf_40 : decode cX14_hexOf 40 = .ok (.invokestatic 181, 3) := by decide +kernel
theorem dX14_hexOf_43 : decode cX14_hexOf 43 = .ok (.ifCond .eq 13, 3) := by decide +kernel
theorem dX14_hexOf_46 : decode cX14_hexOf 46 = .ok (.iload_n 0, 1) := by decide +kernel
theorem dX14_hexOf_47 : decode cX14_hexOf 47 = .ok (.bipush 65, 2) := by decide +kernel
theorem dX14_hexOf_49 : decode cX14_hexOf 49 = .ok (.isub, 1) := by decide +kernel
theorem dX14_hexOf_50 : decode cX14_hexOf 50 = .ok (.bipush 10, 2) := by decide +kernel
theorem dX14_hexOf_52 : decode cX14_hexOf 52 = .ok (.iadd, 1) := by decide +kernel
theorem dX14_hexOf_53 : decode cX14_hexOf 53 = .ok (.goto 4, 3) := by decide +kernel
theorem dX14_hexOf_56 : decode cX14_hexOf 56 = .ok (.iconst (-1), 1) := by decide +kernel
theorem dX14_hexOf_57 : decode cX14_hexOf 57 = .ok (.ireturn, 1) := by decide +kernel
theorem dX14_four_0 : decode cX14_four 0 = .ok (.iconst 0, 1) := by decide +kernel
theorem dX14_four_1 : decode cX14_four 1 = .ok (.istore_n 1, 1) := by decide +kernel
theorem dX14_four_2 : decode cX14_four 2 = .ok (.iconst 0, 1) := by decide +kernel
theorem dX14_four_3 : decode cX14_four 3 = .ok (.istore_n 2, 1) := by decide +kernel
theorem dX14_four_4 : decode cX14_four 4 = .ok (.iload_n 2, 1) := by decide +kernel
theorem dX14_four_5 : decode cX14_four 5 = .ok (.iconst 4, 1) := by decide +kernel
theorem dX14_four_6 : decode cX14_four 6 = .ok (.if_icmp .ge 45, 3) := by decide +kernel
theorem dX14_four_9 : decode cX14_four 9 = .ok (.aload_n 0, 1) := by decide +kernel
theorem dX14_four_10 : decode cX14_four 10 = .ok (.invokevirtual 279, 3) := by decide +kernel
theorem dX14_four_13 : decode cX14_four 13 = .ok (.invokestatic 334, 3) := by decide +kernel
theorem dX14_four_16 : decode cX14_four 16 = .ok (.istore_n 3, 1) := by decide +kernel
theorem dX14_four_17 : decode cX14_four 17 = .ok (.iload_n 3, 1) := by decide +kernel
theorem dX14_four_18 : decode cX14_four 18 = .ok (.ifCond .ge 10, 3) := by decide +kernel
theorem dX14_four_21 : decode cX14_four 21 = .ok (.aload_n 0, 1) := by decide +kernel
theorem dX14_four_22 : decode cX14_four 22 = .ok (.iconst 1, 1) := by decide +kernel
theorem dX14_four_23 : decode cX14_four 23 = .ok (.putfield 288, 3) := by decide +kernel
theorem dX14_four_26 : decode cX14_four 26 = .ok (.iconst (-1), 1) := by decide +kernel
theorem dX14_four_27 : decode cX14_four 27 = .ok (.ireturn, 1) := by decide +kernel
theorem dX14_four_28 : decode cX14_four 28 = .ok (.bipush 16, 2) := by decide +kernel
theorem dX14_four_30 : decode cX14_four 30 = .ok (.iload_n 1, 1) := by decide +kernel
theorem dX14_four_31 : decode cX14_four 31 = .ok (.imul, 1) := by decide +kernel
theorem dX14_four_32 : decode cX14_four 32 = .ok (.iload_n 3, 1) := by decide +kernel
theorem dX14_four_33 : decode cX14_four 33 = .ok (.iadd, 1) := by decide +kernel
theorem dX14_four_34 : decode cX14_four 34 = .ok (.istore_n 1, 1) := by decide +kernel
theorem dX14_four_35 : decode cX14_four 35 = .ok (.aload_n 0, 1) := by decide +kernel
theorem dX14_four_36 : decode cX14_four 36 = .ok (.dup, 1) := by decide +kernel
theorem dX14_four_37 : decode cX14_four 37 = .ok (.getfield 273, 3) := by decide +kernel
theorem dX14_four_40 : decode cX14_four 40 = .ok (.iconst 1, 1) := by decide +kernel
theorem dX14_four_41 : decode cX14_four 41 = .ok (.iadd, 1) := by decide +kernel
theorem dX14_four_42 : decode cX14_four 42 = .ok (.putfield 273, 3) := by decide +kernel
theorem dX14_four_45 : decode cX14_four 45 = .ok (.iinc 2 1, 3) := by decide +kernel
theorem dX14_four_48 : decode cX14_four 48 = .ok (.goto (-44), 3) := by decide +kernel
theorem dX14_four_51 : decode cX14_four 51 = .ok (.iload_n 1, 1) := by decide +kernel
theorem dX14_four_52 : decode cX14_four 52 = .ok (.ireturn, 1) := by decide +kernel
end
section
theorem dX14_readNumber_0 : decode cX14_readNumber 0 = .ok (.aload_n 0, 1) := by decide +kernel
theorem dX14_readNumber_1 : decode cX14_readNumber 1 = .ok (.iconst 3, 1) := by decide +kernel
theorem dX14_readNumber_2 : decode cX14_readNumber 2 = .ok (.invokevirtual 295, 3) := by decide +kernel
theorem dX14_readNumber_5 : decode cX14_readNumber 5 = .ok (.istore_n 1, 1) := by decide +kernel
theorem dX14_readNumber_6 : decode cX14_readNumber 6 = .ok (.aload_n 0, 1) := by decide +kernel
theorem dX14_readNumber_7 : decode cX14_readNumber 7 = .ok (.invokevirtual 279, 3) := by decide +kernel
theorem dX14_readNumber_10 : decode cX14_readNumber 10 = .ok (.bipush 45, 2) := by decide +kernel
theorem dX14_readNumber_12 : decode cX14_readNumber 12 = .ok (.if_icmp .ne 7, 3) := by decide +kernel
theorem dX14_readNumber_15 : decode cX14_readNumber 15 = .ok (.iconst 1, 1) := by decide +kernel
theorem dX14_readNumber_16 : decode cX14_readNumber 16 = .ok (.goto 4, 3) := by decide +kernel
theorem dX14_readNumber_19 : decode cX14_readNumber 19 = .ok (.iconst 0, 1) := by decide +kernel
theorem dX14_readNumber_20 : decode cX14_readNumber 20 = .ok (.istore_n 2, 1) := by decide +kernel
theorem dX14_readNumber_21 : decode cX14_readNumber 21 = .ok (.iload_n 2, 1) := by decide +kernel
theorem dX14_readNumber_22 : decode cX14_readNumber 22 = .ok (.ifCond .eq 13, 3) := by decide +kernel
theorem dX14_readNumber_25 : decode cX14_readNumber 25 = .ok (.aload_n 0, 1) := by decide +kernel
theorem dX14_readNumber_26 : decode cX14_readNumber 26 = .ok (.dup, 1) := by decide +kernel
theorem dX14_readNumber_27 : decode cX14_readNumber 27 = .ok (.getfield 273, 3) := by decide +kernel
theorem dX14_readNumber_30 : decode cX14_readNumber 30 = .ok (.iconst 1, 1) := by decide +kernel
theorem dX14_readNumber_31 : decode cX14_readNumber 31 = .ok (.iadd, 1) := by decide +kernel
theorem dX14_readNumber_32 : decode cX14_readNumber 32 = .ok (.putfield 273, 3) := by decide +kernel
theorem dX14_readNumber_35 : decode cX14_readNumber 35 = .ok (.aload_n 0, 1) := by decide +kernel
theorem dX14_readNumber_36 : decode cX14_readNumber 36 = .ok (.getfield 273, 3) := by decide +kernel
theorem dX14_readNumber_39 : decode cX14_readNumber 39 = .ok (.istore_n 3, 1) := by decide +kernel
theorem dX14_readNumber_40 : decode cX14_readNumber 40 = .ok (.lconst 0, 1) := by decide +kernel
theorem dX14_readNumber_41 : decode cX14_readNumber 41 = .ok (.lstore 4, 2) := by decide +kernel
theorem dX14_readNumber_43 : decode cX14_readNumber 43 = .ok (.aload_n 0, 1) := by decide +kernel
theorem dX14_readNumber_44 : decode cX14_readNumber 44 = .ok (.invokevirtual 279, 3) := by decide +kernel
theorem dX14_readNumber_47 : decode cX14_readNumber 47 = .ok (.invokestatic 224, 3) := by decide +kernel
theorem dX14_readNumber_50 : decode cX14_readNumber 50 = .ok (.ifCond .eq 48, 3) := by decide +kernel
theorem dX14_readNumber_53 : decode cX14_readNumber 53 = .ok (.lload 4, 2) := by decide +kernel
theorem dX14_readNumber_55 : decode cX14_readNumber 55 = .ok (.ldc2_w 320, 3) := by decide +kernel
theorem dX14_readNumber_58 : decode cX14_readNumber 58 = .ok (.lcmp, 1) := by decide +kernel
theorem dX14_readNumber_59 : decode cX14_readNumber 59 = .ok (.ifCond .le 8, 3) := by decide +kernel
theorem dX14_readNumber_62 : decode cX14_readNumber 62 = .ok (.lload 4, 2) := by decide +kernel
theorem dX14_readNumber_64 : decode cX14_readNumber 64 = .ok (.goto 19, 3) := by decide +kernel
theorem dX14_readNumber_67 : decode cX14_readNumber 67 = .ok (.ldc2_w 322, 3) := by decide +kernel
theorem dX14_readNumber_70 : decode cX14_readNumber 70 = .ok (.lload 4, 2) := by decide +kernel
theorem dX14_readNumber_72 : decode cX14_readNumber 72 = .ok (.lmul, 1) := by decide +kernel
theorem dX14_readNumber_73 : decode cX14_readNumber 73 = .ok (.aload_n 0, 1) := by decide +kernel
theorem dX14_readNumber_74 : decode cX14_readNumber 74 = .ok (.invokevirtual 279, 3) := by decide +kernel
theorem dX14_readNumber_77 : decode cX14_readNumber 77 = .ok (.i2l, 1) := by decide +kernel
theorem dX14_readNumber_78 : decode cX14_readNumber 78 = .ok (.ladd, 1) := by decide +kernel
theorem dX14_readNumber_79 : decode cX14_readNumber 79 = .ok (.ldc2_w 324, 3) := by decide +kernel
theorem dX14_readNumber_82 : decode cX14_readNumber 82 = .ok (.lsub, 1) := by decide +kernel
theorem dX14_readNumber_83 : decode cX14_readNumber 83 = .ok (.lstore 4, 2) := by decide +kernel
theorem dX14_readNumber_85 : decode cX14_readNumber 85 = .ok (.aload_n 0, 1) := by decide +kernel
theorem dX14_readNumber_86 : decode cX14_readNumber 86 = .ok (.dup, 1) := by decide +kernel
theorem dX14_readNumber_87 : decode cX14_readNumber 87 = .ok (.getfield 273, 3) := by decide +kernel
theorem dX14_readNumber_90 : decode cX14_readNumber 90 = .ok (.iconst 1, 1) := by decide +kernel
theorem dX14_readNumber_91 : decode cX14_readNumber 91 = .ok (.iadd, 1) := by decide +kernel
theorem dX14_readNumber_92 : decode cX14_readNumber 92 = .ok (.putfield 273, 3) := by decide +kernel
theorem dX14_readNumber_95 : decode cX14_readNumber 95 = .ok (.goto (-52), 3) := by decide +kernel
theorem dX14_readNumber_98 : decode cX14_readNumber 98 = .ok (.aload_n 0, 1) := by decide +kernel
theorem dX14_readNumber_99 : decode cX14_readNumber 99 = .ok (.getfield 273, 3) := by decide +kernel
theorem dX14_readNumber_102 : decode cX14_readNumber 102 = .ok (.iload_n 3, 1) := by decide +kernel
theorem dX14_readNumber_103 : decode cX14_readNumber 103 = .ok (.if_icmp .eq 24, 3) := by decide +kernel
theorem dX14_readNumber_106 : decode cX14_readNumber 106 = .ok (.aload_n 0, 1) := by decide +kernel
theorem dX14_readNumber_107 : decode cX14_readNumber 107 = .ok (.getfield 20, 3) := by decide +kernel
theorem dX14_readNumber_110 : decode cX14_readNumber 110 = .ok (.iload_n 3, 1) := by decide +kernel
theorem dX14_readNumber_111 : decode cX14_readNumber 111 = .ok (.iaload, 1) := by decide +kernel
theorem dX14_readNumber_112 : decode cX14_readNumber 112 = .ok (.bipush 48, 2) := by decide +kernel
theorem dX14_readNumber_114 : decode cX14_readNumber 114 = .ok (.if_icmp .ne 18, 3) := by decide +kernel
theorem dX14_readNumber_117 : decode cX14_readNumber 117 = .ok (.aload_n 0, 1) := by decide +kernel
theorem dX14_readNumber_118 : decode cX14_readNumber 118 = .ok (.getfield 273, 3) := by decide +kernel
theorem dX14_readNumber_121 : decode cX14_readNumber 121 = .ok (.iload_n 3, 1) := by decide +kernel
theorem dX14_readNumber_122 : decode cX14_readNumber 122 = .ok (.isub, 1) := by decide +kernel
theorem dX14_readNumber_123 : decode cX14_readNumber 123 = .ok (.iconst 1, 1) := by decide +kernel
theorem dX14_readNumber_124 : decode cX14_readNumber 124 = .ok (.if_icmp .le 8, 3) := by decide +kernel
theorem dX14_readNumber_127 : decode cX14_readNumber 127 = .ok (.aload_n 0, 1) := by decide +kernel
theorem dX14_readNumber_128 : decode cX14_readNumber 128 = .ok (.iconst 1, 1) := by decide +kernel
theorem dX14_readNumber_129 : decode cX14_readNumber 129 = .ok (.putfield 288, 3) := by decide +kernel
theorem dX14_readNumber_132 : decode cX14_readNumber 132 = .ok (.iconst 1, 1) := by decide +kernel
theorem dX14_readNumber_133 : decode cX14_readNumber 133 = .ok (.istore 6, 2) := by decide +kernel
theorem dX14_readNumber_135 : decode cX14_readNumber 135 = .ok (.aload_n 0, 1) := by decide +kernel
theorem dX14_readNumber_136 : decode cX14_readNumber 136 = .ok (.getfield 288, 3) := by decide +kernel
theorem dX14_readNumber_139 : decode cX14_readNumber 139 = .ok (.ifCond .ne 29, 3) := by decide +kernel
theorem dX14_readNumber_142 : decode cX14_readNumber 142 = .ok (.aload_n 0, 1) := by decide +kernel
theorem dX14_readNumber_143 : decode cX14_readNumber 143 = .ok (.invokevirtual 279, 3) := by decide +kernel
theorem dX14_readNumber_146 : decode cX14_readNumber 146 = .ok (.bipush 46, 2) := by decide +kernel
theorem dX14_readNumber_148 : decode cX14_readNumber 148 = .ok (.if_icmp .ne 20, 3) := by decide +kernel
theorem dX14_readNumber_151 : decode cX14_readNumber 151 = .ok (.iconst 0, 1) := by decide +kernel
theorem dX14_readNumber_152 : decode cX14_readNumber 152 = .ok (.istore 6, 2) := by decide +kernel
theorem dX14_readNumber_154 : decode cX14_readNumber 154 = .ok (.aload_n 0, 1) := by decide +kernel
theorem dX14_readNumber_155 : decode cX14_readNumber 155 = .ok (.dup, 1) := by decide +kernel
theorem dX14_readNumber_156 : decode cX14_readNumber 156 = .ok (.getfield 273, 3) := by decide +kernel
theorem dX14_readNumber_159 : decode cX14_readNumber 159 = .ok (.iconst 1, 1) := by decide +kernel
theorem dX14_readNumber_160 : decode cX14_readNumber 160 = .ok (.iadd, 1) := by decide +kernel
theorem dX14_readNumber_161 : decode cX14_readNumber 161 = .ok (.putfield 273, 3) := by decide +kernel
theorem dX14_readNumber_164 : decode cX14_readNumber 164 = .ok (.aload_n 0, 1) := by decide +kernel
theorem dX14_readNumber_165 : decode cX14_readNumber 165 = .ok (.invokevirtual 326, 3) := by decide +kernel
theorem dX14_readNumber_168 : decode cX14_readNumber 168 = .ok (.aload_n 0, 1) := by decide +kernel
theorem dX14_readNumber_169 : decode cX14_readNumber 169 = .ok (.getfield 288, 3) := by decide +kernel
theorem dX14_readNumber_172 : decode cX14_readNumber 172 = .ok (.ifCond .ne 66, 3) := by decide +kernel
theorem dX14_readNumber_175 : decode cX14_readNumber 175 = .ok (.aload_n 0, 1) := by decide +kernel
theorem dX14_readNumber_176 : decode cX14_readNumber 176 = .ok (.invokevirtual 279, 3) := by decide +kernel
theorem dX14_readNumber_179 : decode cX14_readNumber 179 = .ok (.bipush 101, 2) := by decide +kernel
theorem dX14_readNumber_181 : decode cX14_readNumber 181 = .ok (.if_icmp .eq 12, 3) := by decide +kernel
theorem dX14_readNumber_184 : decode cX14_readNumber 184 = .ok (.aload_n 0, 1) := by decide +kernel
theorem dX14_readNumber_185 : decode cX14_readNumber 185 = .ok (.invokevirtual 279, 3) := by decide +kernel
theorem dX14_readNumber_188 : decode cX14_readNumber 188 = .ok (.bipush 69, 2) := by decide +kernel
theorem dX14_readNumber_190 : decode cX14_readNumber 190 = .ok (.if_icmp .ne 48, 3) := by decide +kernel
theorem dX14_readNumber_193 : decode cX14_readNumber 193 = .ok (.iconst 0, 1) := by decide +kernel
theorem dX14_readNumber_194 : decode cX14_readNumber 194 = .ok (.istore 6, 2) := by decide +kernel
theorem dX14_readNumber_196 : decode cX14_readNumber 196 = .ok (.aload_n 0, 1) := by decide +kernel
theorem dX14_readNumber_197 : decode cX14_readNumber 197 = .ok (.dup, 1) := by decide +kernel
theorem dX14_readNumber_198 : decode cX14_readNumber 198 = .ok (.getfield 273, 3) := by decide +kernel
theorem dX14_readNumber_201 : decode cX14_readNumber 201 = .ok (.iconst 1, 1) := by decide +kernel
theorem dX14_readNumber_202 : decode cX14_readNumber 202 = .ok (.iadd, 1) := by decide +kernel
theorem dX14_readNumber_203 : decode cX14_readNumber 203 = .ok (.putfield 273, 3) := by decide +kernel
theorem dX14_readNumber_206 : decode cX14_readNumber 206 = .ok (.aload_n 0, 1) := by decide +kernel
theorem dX14_readNumber_207 : decode cX14_readNumber 207 = .ok (.invokevirtual 279, 3) := by decide +kernel
theorem dX14_readNumber_210 : decode cX14_readNumber 210 = .ok (.bipush 43, 2) := by decide +kernel
theorem dX14_readNumber_212 : decode cX14_readNumber 212 = .ok (.if_icmp .eq 12, 3) := by decide +kernel
theorem dX14_readNumber_215 : decode cX14_readNumber 215 = .ok (.aload_n 0, 1) := by decide +kernel
theorem dX14_readNumber_216 : decode cX14_readNumber 216 = .ok (.invokevirtual 279, 3) := by decide +kernel
theorem dX14_readNumber_219 : decode cX14_readNumber 219 = .ok (.bipush 45, 2) := by decide +kernel
theorem dX14_readNumber_221 : decode cX14_readNumber 221 = .ok (.if_icmp .ne 13, 3) := by decide +kernel
theorem dX14_readNumber_224 : decode cX14_readNumber 224 = .ok (.aload_n 0, 1) := by decide +kernel
theorem dX14_readNumber_225 : decode cX14_readNumber 225 = .ok (.dup, 1) := by decide +kernel
theorem dX14_readNumber_226 : decode cX14_readNumber 226 = .ok (.getfield 273, 3) := by decide +kernel
theorem dX14_readNumber_229 : decode cX14_readNumber 229 = .ok (.iconst 1, 1) := by decide +kernel
theorem dX14_readNumber_230 : decode cX14_readNumber 230 = .ok (.iadd, 1) := by decide +kernel
theorem dX14_readNumber_231 : decode cX14_readNumber 231 = .ok (.putfield 273, 3) := by decide +kernel
theorem dX14_readNumber_234 : decode cX14_readNumber 234 = .ok (.aload_n 0, 1) := by decide +kernel
theorem dX14_readNumber_235 : decode cX14_readNumber 235 = .ok (.invokevirtual 326, 3) := by decide +kernel
theorem dX14_readNumber_238 : decode cX14_readNumber 238 = .ok (.iload_n 2, 1) := by decide +kernel
theorem dX14_readNumber_239 : decode cX14_readNumber 239 = .ok (.ifCond .eq 9, 3) := by decide +kernel
theorem dX14_readNumber_242 : decode cX14_readNumber 242 = .ok (.lload 4, 2) := by decide +kernel
theorem dX14_readNumber_244 : decode cX14_readNumber 244 = .ok (.lneg, 1) := by decide +kernel
theorem dX14_readNumber_245 : decode cX14_readNumber 245 = .ok (.goto 5, 3) := by decide +kernel
theorem dX14_readNumber_248 : decode cX14_readNumber 248 = .ok (.lload 4, 2) := by decide +kernel
theorem dX14_readNumber_250 : decode cX14_readNumber 250 = .ok (.lstore 7, 2) := by decide +kernel
theorem dX14_readNumber_252 : decode cX14_readNumber 252 = .ok (.aload_n 0, 1) := by decide +kernel
theorem dX14_readNumber_253 : decode cX14_readNumber 253 = .ok (.getfield 58, 3) := by decide +kernel
theorem dX14_readNumber_256 : decode cX14_readNumber 256 = .ok (.iload_n 1, 1) := by decide +kernel
theorem dX14_readNumber_257 : decode cX14_readNumber 257 = .ok (.iload 6, 2) := by decide +kernel
theorem dX14_readNumber_259 : decode cX14_readNumber 259 = .ok (.ifCond .eq 25, 3) := by decide +kernel
theorem dX14_readNumber_262 : decode cX14_readNumber 262 = .ok (.lload 7, 2) := by decide +kernel
theorem dX14_readNumber_264 : decode cX14_readNumber 264 = .ok (.ldc2_w 329, 3) := by decide +kernel
theorem dX14_readNumber_267 : decode cX14_readNumber 267 = .ok (.lcmp, 1) := by decide +kernel
theorem dX14_readNumber_268 : decode cX14_readNumber 268 = .ok (.ifCond .lt 16, 3) := by decide +kernel
theorem dX14_readNumber_271 : decode cX14_readNumber 271 = .ok (.lload 7, 2) := by decide +kernel
theorem dX14_readNumber_273 : decode cX14_readNumber 273 = .ok (.ldc2_w 331, 3) := by decide +kernel
theorem dX14_readNumber_276 : decode cX14_readNumber 276 = .ok (.lcmp, 1) := by decide +kernel
theorem dX14_readNumber_277 : decode cX14_readNumber 277 = .ok (.ifCond .gt 7, 3) := by decide +kernel
theorem dX14_readNumber_280 : decode cX14_readNumber 280 = .ok (.iconst 1, 1) := by decide +kernel
theorem dX14_readNumber_281 : decode cX14_readNumber 281 = .ok (.goto 4, 3) := by decide +kernel
theorem dX14_readNumber_284 : decode cX14_readNumber 284 = .ok (.iconst 0, 1) := by decide +kernel
theorem dX14_readNumber_285 : decode cX14_readNumber 285 = .ok (.bastore, 1) := by decide +kernel
theorem dX14_readNumber_286 : decode cX14_readNumber 286 = .ok (.aload_n 0, 1) := by decide +kernel
theorem dX14_readNumber_287 : decode cX14_readNumber 287 = .ok (.getfield 62, 3) := by decide +kernel
theorem dX14_readNumber_290 : decode cX14_readNumber 290 = .ok (.iload_n 1, 1) := by decide +kernel
theorem dX14_readNumber_291 : decode cX14_readNumber 291 = .ok (.lload 7, 2) := by decide +kernel
theorem dX14_readNumber_293 : decode cX14_readNumber 293 = .ok (.l2i, 1) := by decide +kernel
theorem dX14_readNumber_294 : decode cX14_readNumber 294 = .ok (.iastore, 1) := by decide +kernel
theorem dX14_readNumber_295 : decode cX14_readNumber 295 = .ok (.iload_n 1, 1) := by decide +kernel
theorem dX14_readNumber_296 : decode cX14_readNumber 296 = .ok (.ireturn, 1) := by decide +kernel
theorem dX14_utfLength_0 : decode cX14_utfLength 0 = .ok (.aload_n 1, 1) := by decide +kernel
theorem dX14_utfLength_1 : decode cX14_utfLength 1 = .ok (.iload_n 2, 1) := by decide +kernel
theorem dX14_utfLength_2 : decode cX14_utfLength 2 = .ok (.iaload, 1) := by decide +kernel
theorem dX14_utfLength_3 : decode cX14_utfLength 3 = .ok (.istore 4, 2) := by decide +kernel
theorem dX14_utfLength_5 : decode cX14_utfLength 5 = .ok (.aload_n 0, 1) := by decide +kernel
theorem dX14_utfLength_6 : decode cX14_utfLength 6 = .ok (.iload 4, 2) := by decide +kernel
theorem dX14_utfLength_8 : decode cX14_utfLength 8 = .ok (.putfield 357, 3) := by decide +kernel
theorem dX14_utfLength_11 : decode cX14_utfLength 11 = .ok (.iload 4, 2) := by decide +kernel
theorem dX14_utfLength_13 : decode cX14_utfLength 13 = .ok (.sipush 128, 3) := by decide +kernel
theorem dX14_utfLength_16 : decode cX14_utfLength 16 = .ok (.if_icmp .ge 5, 3) := by decide +kernel
theorem dX14_utfLength_19 : decode cX14_utfLength 19 = .ok (.iconst 1, 1) := by decide +kernel
theorem dX14_utfLength_20 : decode cX14_utfLength 20 = .ok (.ireturn, 1) := by decide +kernel
theorem dX14_utfLength_21 : decode cX14_utfLength 21 = .ok (.iload 4, 2) := by decide +kernel
theorem dX14_utfLength_23 : decode cX14_utfLength 23 = .ok (.sipush 194, 3) := by decide +kernel
theorem dX14_utfLength_26 : decode cX14_utfLength 26 = .ok (.sipush 223, 3) := by decide +kernel
theorem dX14_utfLength_29 : decode cX14_utfLength 29 = .ok (.invokestatic 181, 3) := by decide +kernel
theorem dX14_utfLength_32 : decode cX14_utfLength 32 = .ok (.ifCond .eq 7, 3) := by decide +kernel
theorem dX14_utfLength_35 : decode cX14_utfLength 35 = .ok (.iconst 2, 1) := by decide +kernel
theorem dX14_utfLength_36 : decode cX14_utfLength 36 = .ok (.goto 40, 3) := by decide +kernel
theorem dX14_utfLength_39 : decode cX14_utfLength 39 = .ok (.iload 4, 2) := by decide +kernel
theorem dX14_utfLength_41 : decode cX14_utfLength 41 = .ok (.sipush 224, 3) := by decide +kernel
theorem dX14_utfLength_44 : decode cX14_utfLength 44 = .ok (.sipush 239, 3) := by decide +kernel
theorem dX14_utfLength_47 : decode cX14_utfLength 47 = .ok (.invokestatic 181, 3) := by decide +kernel
theorem dX14_utfLength_50 : decode cX14_utfLength 50 = .ok (.ifCond .eq 7, 3) := by decide +kernel
theorem dX14_utfLength_53 : decode cX14_utfLength 53 = .ok (.iconst 3, 1) := by decide +kernel
theorem dX14_utfLength_54 : decode cX14_utfLength 54 = .ok (.goto 22, 3) := by decide +kernel
theorem dX14_utfLength_57 : decode cX14_utfLength 57 = .ok (.iload 4, 2) := by decide +kernel
theorem dX14_utfLength_59 : decode cX14_utfLength 59 = .ok (.sipush 240, 3) := by decide +kernel
theorem dX14_utfLength_62 : decode cX14_utfLength 62 = .ok (.sipush 244, 3) := by decide +kernel
theorem dX14_utfLength_65 : decode cX14_utfLength 65 = .ok (.invokestatic 181, 3) := by decide +kernel
theorem dX14_utfLength_68 : decode cX14_utfLength 68 = .ok (.ifCond .eq 7, 3) := by decide +kernel
theorem dX14_utfLength_71 : decode cX14_utfLength 71 = .ok (.iconst 4, 1) := by decide +kernel
theorem dX14_utfLength_72 : decode cX14_utfLength 72 = .ok (.goto 4, 3) := by decide +kernel
theorem dX14_utfLength_75 : decode cX14_utfLength 75 = .ok (.iconst 0, 1) := by decide +kernel
theorem dX14_utfLength_76 : decode cX14_utfLength 76 = .ok (.istore 5, 2) := by decide +kernel
theorem dX14_utfLength_78 : decode cX14_utfLength 78 = .ok (.iload 5, 2) := by decide +kernel
theorem dX14_utfLength_80 : decode cX14_utfLength 80 = .ok (.ifCond .eq 11, 3) := by decide +kernel
theorem dX14_utfLength_83 : decode cX14_utfLength 83 = .ok (.iload_n 2, 1) := by decide +kernel
theorem dX14_utfLength_84 : decode cX14_utfLength 84 = .ok (.iload 5, 2) := by decide +kernel
theorem dX14_utfLength_86 : decode cX14_utfLength 86 = .ok (.iadd, 1) := by decide +kernel
theorem dX14_utfLength_87 : decode cX14_utfLength 87 = .ok (.iload_n 3, 1) := by decide +kernel
theorem dX14_utfLength_88 : decode cX14_utfLength 88 = .ok (.if_icmp .le 5, 3) := by decide +kernel
theorem dX14_utfLength_91 : decode cX14_utfLength 91 = .ok (.iconst 0, 1) := by decide +kernel
theorem dX14_utfLength_92 : decode cX14_utfLength 92 = .ok (.ireturn, 1) := by decide +kernel
theorem dX14_utfLength_93 : decode cX14_utfLength 93 = .ok (.iload 5, 2) := by decide +kernel
theorem dX14_utfLength_95 : decode cX14_utfLength 95 = .ok (.iconst 2, 1) := by decide +kernel
theorem dX14_utfLength_96 : decode cX14_utfLength 96 = .ok (.if_icmp .ne 11, 3) := by decide +kernel
theorem dX14_utfLength_99 : decode cX14_utfLength 99 = .ok (.iload 4, 2) := by decide +kernel
theorem dX14_utfLength_101 : decode cX14_utfLength 101 = .ok (.bipush 31, 2) := by decide +kernel
theorem dX14_utfLength_103 : decode cX14_utfLength 103 = .ok (.iand, 1) := by decide +kernel
theorem dX14_utfLength_104 : decode cX14_utfLength 104 = .ok (.goto 22, 3) := by decide +kernel
theorem dX14_utfLength_107 : decode cX14_utfLength 107 = .ok (.iload 5, 2) := by decide +kernel
theorem dX14_utfLength_109 : decode cX14_utfLength 109 = .ok (.iconst 3, 1) := by decide +kernel
theorem dX14_utfLength_110 : decode cX14_utfLength 110 = .ok (.if_icmp .ne 11, 3) := by decide +kernel
theorem dX14_utfLength_113 : decode cX14_utfLength 113 = .ok (.iload 4, 2) := by decide +kernel
theorem dX14_utfLength_115 : decode cX14_utfLength 115 = .ok (.bipush 15, 2) := by decide +kernel
theorem dX14_utfLength_117 : decode cX14_utfLength 117 = .ok (.iand, 1) := by decide +kernel
theorem dX14_utfLength_118 : decode cX14_utfLength 118 = .ok (.goto 8, 3) := by decide +kernel
theorem dX14_utfLength_121 : decode cX14_utfLength 121 = .ok (.iload 4, 2) := by decide +kernel
theorem dX14_utfLength_123 : decode cX14_utfLength 123 = .ok (.bipush 7, 2) := by decide +kernel
theorem dX14_utfLength_125 : decode cX14_utfLength 125 = .ok (.iand, 1) := by decide +kernel
theorem dX14_utfLength_126 : decode cX14_utfLength 126 = .ok (.istore 6, 2) := by decide +kernel
theorem dX14_utfLength_128 : decode cX14_utfLength 128 = .ok (.iconst 1, 1) := by decide +kernel
theorem dX14_utfLength_129 : decode cX14_utfLength 129 = .ok (.istore 7, 2) := by decide +kernel
theorem dX14_utfLength_131 : decode cX14_utfLength 131 = .ok (.iload 7, 2) := by decide +kernel
theorem dX14_utfLength_133 : decode cX14_utfLength 133 = .ok (.iload 5, 2) := by decide +kernel
theorem dX14_utfLength_135 : decode cX14_utfLength 135 = .ok (.if_icmp .ge 46, 3) := by decide +kernel
theorem dX14_utfLength_138 : decode cX14_utfLength 138 = .ok (.aload_n 1, 1) := by decide +kernel
theorem dX14_utfLength_139 : decode cX14_utfLength 139 = .ok (.iload_n 2, 1) := by decide +kernel
theorem dX14_utfLength_140 : decode cX14_utfLength 140 = .ok (.iload 7, 2) := by decide +kernel
theorem dX14_utfLength_142 : decode cX14_utfLength 142 = .ok (.iadd, 1) := by decide +kernel
theorem dX14_utfLength_143 : decode cX14_utfLength 143 = .ok (.iaload, 1) := by decide +kernel
theorem dX14_utfLength_144 : decode cX14_utfLength 144 = .ok (.sipush 128, 3) := by decide +kernel
theorem dX14_utfLength_147 : decode cX14_utfLength 147 = .ok (.sipush 191, 3) := by decide +kernel
theorem dX14_utfLength_150 : decode cX14_utfLength 150 = .ok (.invokestatic 181, 3) := by decide +kernel
theorem dX14_utfLength_153 : decode cX14_utfLength 153 = .ok (.ifCond .ne 5, 3) := by decide +kernel
theorem dX14_utfLength_156 : decode cX14_utfLength 156 = .ok (.iconst 0, 1) := by decide +kernel
theorem dX14_utfLength_157 : decode cX14_utfLength 157 = .ok (.ireturn, 1) := by decide +kernel
theorem dX14_utfLength_158 : decode cX14_utfLength 158 = .ok (.iload 6, 2) := by decide +kernel
theorem dX14_utfLength_160 : decode cX14_utfLength 160 = .ok (.bipush 6, 2) := by decide +kernel
theorem dX14_utfLength_162 : decode cX14_utfLength 162 = .ok (.ishl, 1) := by decide +kernel
theorem dX14_utfLength_163 : decode cX14_utfLength 163 = .ok (.aload_n 1, 1) := by decide +kernel
theorem dX14_utfLength_164 : decode cX14_utfLength 164 = .ok (.iload_n 2, 1) := by decide +kernel
theorem dX14_utfLength_165 : decode cX14_utfLength 165 = .ok (.iload 7, 2) := by decide +kernel
theorem dX14_utfLength_167 : decode cX14_utfLength 167 = .ok (.iadd, 1) := by decide +kernel
theorem dX14_utfLength_168 : decode cX14_utfLength 168 = .ok (.iaload, 1) := by decide +kernel
theorem dX14_utfLength_169 : decode cX14_utfLength 169 = .ok (.bipush 63, 2) := by decide +kernel
theorem dX14_utfLength_171 : decode cX14_utfLength 171 = .ok (.iand, 1) := by decide +kernel
theorem dX14_utfLength_172 : decode cX14_utfLength 172 = .ok (.ior, 1) := by decide +kernel
theorem dX14_utfLength_173 : decode cX14_utfLength 173 = .ok (.istore 6, 2) := by decide +kernel
theorem dX14_utfLength_175 : decode cX14_utfLength 175 = .ok (.iinc 7 1, 3) := by decide +kernel
theorem dX14_utfLength_178 : decode cX14_utfLength 178 = .ok (.goto (-47), 3) := by decide +kernel
theorem dX14_utfLength_181 : decode cX14_utfLength 181 = .ok (.iload 5, 2) := by decide +kernel
theorem dX14_utfLength_183 : decode cX14_utfLength 183 = .ok (.iconst 3, 1) := by decide +kernel
theorem dX14_utfLength_184 : decode cX14_utfLength 184 = .ok (.if_icmp .ne 11, 3) := by decide +kernel
theorem dX14_utfLength_187 : decode cX14_utfLength 187 = .ok (.iload 6, 2) := by decide +kernel
theorem dX14_utfLength_189 : decode cX14_utfLength 189 = .ok (.sipush 2048, 3) := by decide +kernel
theorem dX14_utfLength_192 : decode cX14_utfLength 192 = .ok (.if_icmp .lt 36, 3) := by decide +kernel
theorem dX14_utfLength_195 : decode cX14_utfLength 195 = .ok (.iload 5, 2) := by decide +kernel
theorem dX14_utfLength_197 : decode cX14_utfLength 197 = .ok (.iconst 4, 1) := by decide +kernel
theorem dX14_utfLength_198 : decode cX14_utfLength 198 = .ok (.if_icmp .ne 10, 3) := by decide +kernel
theorem dX14_utfLength_201 : decode cX14_utfLength 201 = .ok (.iload 6, 2) := by decide +kernel
theorem dX14_utfLength_203 : decode cX14_utfLength 203 = .ok (.ldc 197, 2) := by decide +kernel
theorem dX14_utfLength_205 : decode cX14_utfLength 205 = .ok (.if_icmp .lt 23, 3) := by decide +kernel
theorem dX14_utfLength_208 : decode cX14_utfLength 208 = .ok (.iload 6, 2) := by decide +kernel
theorem dX14_utfLength_210 : decode cX14_utfLength 210 = .ok (.ldc 179, 2) := by decide +kernel
theorem dX14_utfLength_212 : decode cX14_utfLength 212 = .ok (.ldc 186, 2) := by decide +kernel
theorem dX14_utfLength_214 : decode cX14_utfLength 214 = .ok (.invokestatic 181, 3) := by decide +kernel
theorem dX14_utfLength_217 : decode cX14_utfLength 217 = .ok (.ifCond .ne 11, 3) := by decide +kernel
theorem dX14_utfLength_220 : decode cX14_utfLength 220 = .ok (.iload 6, 2) := by decide +kernel
theorem dX14_utfLength_222 : decode cX14_utfLength 222 = .ok (.ldc_w 360, 3) := by decide +kernel
theorem dX14_utfLength_225 : decode cX14_utfLength 225 = .ok (.if_icmp .le 5, 3) := by decide +kernel
theorem dX14_utfLength_228 : decode cX14_utfLength 228 = .ok (.iconst 0, 1) := by decide +kernel
theorem dX14_utfLength_229 : decode cX14_utfLength 229 = .ok (.ireturn, 1) := by decide +kernel
theorem dX14_utfLength_230 : decode cX14_utfLength 230 = .ok (.aload_n 0, 1) := by decide +kernel
theorem dX14_utfLength_231 : decode cX14_utfLength 231 = .ok (.iload 6, 2) := by decide +kernel
theorem dX14_utfLength_233 : decode cX14_utfLength 233 = .ok (.putfield 357, 3) := by decide +kernel
theorem dX14_utfLength_236 : decode cX14_utfLength 236 = .ok (.iload 5, 2) := by decide +kernel
theorem dX14_utfLength_238 : decode cX14_utfLength 238 = .ok (.ireturn, 1) := by decide +kernel
end
section
theorem dX14_escape_0 : decode cX14_escape 0 = .ok (.aload_n 0, 1) := by decide +kernel
theorem dX14_escape_1 : decode cX14_escape 1 = .ok (.invokevirtual 279, 3) := by decide +kernel
theorem dX14_escape_4 : decode cX14_escape 4 = .ok (.istore_n 1, 1) := by decide +kernel
theorem dX14_escape_5 : decode cX14_escape 5 = .ok (.aload_n 0, 1) := by decide +kernel
theorem dX14_escape_6 : decode cX14_escape 6 = .ok (.dup, 1) := by decide +kernel
theorem dX14_escape_7 : decode cX14_escape 7 = .ok (.getfield 273, 3) := by decide +kernel
theorem dX14_escape_10 : decode cX14_escape 10 = .ok (.iconst 1, 1) := by decide +kernel
theorem dX14_escape_11 : decode cX14_escape 11 = .ok (.iadd, 1) := by decide +kernel
theorem dX14_escape_12 : decode cX14_escape 12 = .ok (.putfield 273, 3) := by decide +kernel
theorem dX14_escape_15 : decode cX14_escape 15 = .ok (.ldc_w 337, 3) := by decide +kernel
theorem dX14_escape_18 : decode cX14_escape 18 = .ok (.astore_n 2, 1) := by decide +kernel
theorem dX14_escape_19 : decode cX14_escape 19 = .ok (.iload_n 1, 1) := by decide +kernel
theorem dX14_escape_20 : decode cX14_escape 20 = .ok (.ifCond .ge 7, 3) := by decide +kernel
theorem dX14_escape_23 : decode cX14_escape 23 = .ok (.iconst (-1), 1) := by decide +kernel
theorem dX14_escape_24 : decode cX14_escape 24 = .ok (.goto 8, 3) := by decide +kernel
theorem dX14_escape_27 : decode cX14_escape 27 = .ok (.aload_n 2, 1) := by decide +kernel
theorem dX14_escape_28 : decode cX14_escape 28 = .ok (.iload_n 1, 1) := by decide +kernel
theorem dX14_escape_29 : decode cX14_escape 29 = .ok (.invokevirtual 339, 3) := by decide +kernel
theorem dX14_escape_32 : decode cX14_escape 32 = .ok (.istore_n 3, 1) := by decide +kernel
theorem dX14_escape_33 : decode cX14_escape 33 = .ok (.iload_n 3, 1) := by decide +kernel
theorem dX14_escape_34 : decode cX14_escape 34 = .ok (.ifCond .lt 63, 3) := by decide +kernel
theorem dX14_escape_37 : decode cX14_escape 37 = .ok (.aload_n 0, 1) := by decide +kernel
theorem dX14_escape_38 : decode cX14_escape 38 = .ok (.iload_n 3, 1) := by decide +kernel
theorem dX14_escape_39 : decode cX14_escape 39 = .ok (.iconst 3, 1) := by decide +kernel
theorem dX14_escape_40 : decode cX14_escape 40 = .ok (.if_icmp .ge 7, 3) := by decide +kernel
theorem dX14_escape_43 : decode cX14_escape 43 = .ok (.iload_n 1, 1) := by decide +kernel
theorem dX14_escape_44 : decode cX14_escape 44 = .ok (.goto 49, 3) := by decide +kernel
theorem dX14_escape_47 : decode cX14_escape 47 = .ok (.iload_n 1, 1) := by decide +kernel
theorem dX14_escape_48 : decode cX14_escape 48 = .ok (.bipush 98, 2) := by decide +kernel
theorem dX14_escape_50 : decode cX14_escape 50 = .ok (.if_icmp .ne 8, 3) := by decide +kernel
theorem dX14_escape_53 : decode cX14_escape 53 = .ok (.bipush 8, 2) := by decide +kernel
theorem dX14_escape_55 : decode cX14_escape 55 = .ok (.goto 38, 3) := by decide +kernel
theorem dX14_escape_58 : decode cX14_escape 58 = .ok (.iload_n 1, 1) := by decide +kernel
theorem dX14_escape_59 : decode cX14_escape 59 = .ok (.bipush 102, 2) := by decide +kernel
theorem dX14_escape_61 : decode cX14_escape 61 = .ok (.if_icmp .ne 8, 3) := by decide +kernel
theorem dX14_escape_64 : decode cX14_escape 64 = .ok (.bipush 12, 2) := by decide +kernel
theorem dX14_escape_66 : decode cX14_escape 66 = .ok (.goto 27, 3) := by decide +kernel
theorem dX14_escape_69 : decode cX14_escape 69 = .ok (.iload_n 1, 1) := by decide +kernel
theorem dX14_escape_70 : decode cX14_escape 70 = .ok (.bipush 110, 2) := by decide +kernel
theorem dX14_escape_72 : decode cX14_escape 72 = .ok (.if_icmp .ne 8, 3) := by decide +kernel
theorem dX14_escape_75 : decode cX14_escape 75 = .ok (.bipush 10, 2) := by decide +kernel
theorem dX14_escape_77 : decode cX14_escape 77 = .ok (.goto 16, 3) := by decide +kernel
theorem dX14_escape_80 : decode cX14_escape 80 = .ok (.iload_n 1, 1) := by decide +kernel
theorem dX14_escape_81 : decode cX14_escape 81 = .ok (.bipush 114, 2) := by decide +kernel
theorem dX14_escape_83 : decode cX14_escape 83 = .ok (.if_icmp .ne 8, 3) := by decide +kernel
theorem dX14_escape_86 : decode cX14_escape 86 = .ok (.bipush 13, 2) := by decide +kernel
theorem dX14_escape_88 : decode cX14_escape 88 = .ok (.goto 5, 3) := by decide +kernel
theorem dX14_escape_91 : decode cX14_escape 91 = .ok (.bipush 9, 2) := by decide +kernel
theorem dX14_escape_93 : decode cX14_escape 93 = .ok (.invokevirtual 342, 3) := by decide +kernel
theorem dX14_escape_96 : decode cX14_escape 96 = .ok (.return_, 1) := by decide +kernel
theorem dX14_escape_97 : decode cX14_escape 97 = .ok (.iload_n 1, 1) := by decide +kernel
theorem dX14_escape_98 : decode cX14_escape 98 = .ok (.bipush 117, 2) := by decide +kernel
theorem dX14_escape_100 : decode cX14_escape 100 = .ok (.if_icmp .ne 10, 3) := by decide +kernel
theorem dX14_escape_103 : decode cX14_escape 103 = .ok (.aload_n 0, 1) := by decide +kernel
theorem dX14_escape_104 : decode cX14_escape 104 = .ok (.invokevirtual 345, 3) := by decide +kernel
theorem dX14_escape_107 : decode cX14_escape 107 = .ok (.goto 4, 3) := by decide +kernel
theorem dX14_escape_110 : decode cX14_escape 110 = .ok (.iconst (-1), 1) := by decide +kernel
theorem dX14_escape_111 : decode cX14_escape 111 = .ok (.istore 4, 2) := by decide +kernel
theorem dX14_escape_113 : decode cX14_escape 113 = .ok (.iload 4, 2) := by decide +kernel
theorem dX14_escape_115 : decode cX14_escape 115 = .ok (.ifCond .lt 15, 3) := by decide +kernel
theorem dX14_escape_118 : decode cX14_escape 118 = .ok (.iload 4, 2) := by decide +kernel
theorem dX14_escape_120 : decode cX14_escape 120 = .ok (.ldc 185, 2) := by decide +kernel
theorem dX14_escape_122 : decode cX14_escape 122 = .ok (.ldc 186, 2) := by decide +kernel
theorem dX14_escape_124 : decode cX14_escape 124 = .ok (.invokestatic 181, 3) := by decide +kernel
theorem dX14_escape_127 : decode cX14_escape 127 = .ok (.ifCond .eq 9, 3) := by decide +kernel
theorem dX14_escape_130 : decode cX14_escape 130 = .ok (.aload_n 0, 1) := by decide +kernel
theorem dX14_escape_131 : decode cX14_escape 131 = .ok (.iconst 1, 1) := by decide +kernel
theorem dX14_escape_132 : decode cX14_escape 132 = .ok (.putfield 288, 3) := by decide +kernel
theorem dX14_escape_135 : decode cX14_escape 135 = .ok (.return_, 1) := by decide +kernel
theorem dX14_escape_136 : decode cX14_escape 136 = .ok (.iload 4, 2) := by decide +kernel
theorem dX14_escape_138 : decode cX14_escape 138 = .ok (.ldc 179, 2) := by decide +kernel
theorem dX14_escape_140 : decode cX14_escape 140 = .ok (.ldc 180, 2) := by decide +kernel
theorem dX14_escape_142 : decode cX14_escape 142 = .ok (.invokestatic 181, 3) := by decide +kernel
theorem dX14_escape_145 : decode cX14_escape 145 = .ok (.ifCond .ne 10, 3) := by decide +kernel
theorem dX14_escape_148 : decode cX14_escape 148 = .ok (.aload_n 0, 1) := by decide +kernel
theorem dX14_escape_149 : decode cX14_escape 149 = .ok (.iload 4, 2) := by decide +kernel
theorem dX14_escape_151 : decode cX14_escape 151 = .ok (.invokevirtual 342, 3) := by decide +kernel
theorem dX14_escape_154 : decode cX14_escape 154 = .ok (.return_, 1) := by decide +kernel
theorem dX14_escape_155 : decode cX14_escape 155 = .ok (.aload_n 0, 1) := by decide +kernel
theorem dX14_escape_156 : decode cX14_escape 156 = .ok (.ldc_w 348, 3) := by decide +kernel
theorem dX14_escape_159 : decode cX14_escape 159 = .ok (.invokevirtual 309, 3) := by decide +kernel
theorem dX14_escape_162 : decode cX14_escape 162 = .ok (.ifCond .eq 10, 3) := by decide +kernel
theorem dX14_escape_165 : decode cX14_escape 165 = .ok (.aload_n 0, 1) := by decide +kernel
theorem dX14_escape_166 : decode cX14_escape 166 = .ok (.invokevirtual 345, 3) := by decide +kernel
theorem dX14_escape_169 : decode cX14_escape 169 = .ok (.goto 4, 3) := by decide +kernel
theorem dX14_escape_172 : decode cX14_escape 172 = .ok (.iconst (-1), 1) := by decide +kernel
theorem dX14_escape_173 : decode cX14_escape 173 = .ok (.istore 5, 2) := by decide +kernel
theorem dX14_escape_175 : decode cX14_escape 175 = .ok (.iload 5, 2) := by decide +kernel
theorem dX14_escape_177 : decode cX14_escape 177 = .ok (.ldc 185, 2) := by decide +kernel
theorem dX14_escape_179 : decode cX14_escape 179 = .ok (.ldc 186, 2) := by decide +kernel
theorem dX14_escape_181 : decode cX14_escape 181 = .ok (.invokestatic 181, 3) := by decide +kernel
theorem dX14_escape_184 : decode cX14_escape 184 = .ok (.ifCond .ne 9, 3) := by decide +kernel
theorem dX14_escape_187 : decode cX14_escape 187 = .ok (.aload_n 0, 1) := by decide +kernel
theorem dX14_escape_188 : decode cX14_escape 188 = .ok (.iconst 1, 1) := by decide +kernel
theorem dX14_escape_189 : decode cX14_escape 189 = .ok (.putfield 288, 3) := by decide +kernel
theorem dX14_escape_192 : decode cX14_escape 192 = .ok (.return_, 1) := by decide +kernel
theorem dX14_escape_193 : decode cX14_escape 193 = .ok (.aload_n 0, 1) := by decide +kernel
theorem dX14_escape_194 : decode cX14_escape 194 = .ok (.iload 4, 2) := by decide +kernel
theorem dX14_escape_196 : decode cX14_escape 196 = .ok (.invokevirtual 342, 3) := by decide +kernel
theorem dX14_escape_199 : decode cX14_escape 199 = .ok (.aload_n 0, 1) := by decide +kernel
theorem dX14_escape_200 : decode cX14_escape 200 = .ok (.iload 5, 2) := by decide +kernel
theorem dX14_escape_202 : decode cX14_escape 202 = .ok (.invokevirtual 342, 3) := by decide +kernel
theorem dX14_escape_205 : decode cX14_escape 205 = .ok (.return_, 1) := by decide +kernel
theorem dX14_readString_0 : decode cX14_readString 0 = .ok (.aload_n 0, 1) := by decide +kernel
theorem dX14_readString_1 : decode cX14_readString 1 = .ok (.dup, 1) := by decide +kernel
theorem dX14_readString_2 : decode cX14_readString 2 = .ok (.getfield 273, 3) := by decide +kernel
theorem dX14_readString_5 : decode cX14_readString 5 = .ok (.iconst 1, 1) := by decide +kernel
theorem dX14_readString_6 : decode cX14_readString 6 = .ok (.iadd, 1) := by decide +kernel
theorem dX14_readString_7 : decode cX14_readString 7 = .ok (.putfield 273, 3) := by decide +kernel
theorem dX14_readString_10 : decode cX14_readString 10 = .ok (.aload_n 0, 1) := by decide +kernel
theorem dX14_readString_11 : decode cX14_readString 11 = .ok (.getfield 304, 3) := by decide +kernel
theorem dX14_readString_14 : decode cX14_readString 14 = .ok (.istore_n 1, 1) := by decide +kernel
theorem dX14_readString_15 : decode cX14_readString 15 = .ok (.aload_n 0, 1) := by decide +kernel
theorem dX14_readString_16 : decode cX14_readString 16 = .ok (.getfield 288, 3) := by decide +kernel
theorem dX14_readString_19 : decode cX14_readString 19 = .ok (.ifCond .ne 104, 3) := by decide +kernel
theorem dX14_readString_22 : decode cX14_readString 22 = .ok (.aload_n 0, 1) := by decide +kernel
theorem dX14_readString_23 : decode cX14_readString 23 = .ok (.invokevirtual 279, 3) := by decide +kernel
theorem dX14_readString_26 : decode cX14_readString 26 = .ok (.bipush 34, 2) := by decide +kernel
theorem dX14_readString_28 : decode cX14_readString 28 = .ok (.if_icmp .eq 95, 3) := by decide +kernel
theorem dX14_readString_31 : decode cX14_readString 31 = .ok (.aload_n 0, 1) := by decide +kernel
theorem dX14_readString_32 : decode cX14_readString 32 = .ok (.invokevirtual 279, 3) := by decide +kernel
theorem dX14_readString_35 : decode cX14_readString 35 = .ok (.istore_n 2, 1) := by decide +kernel
theorem dX14_readString_36 : decode cX14_readString 36 = .ok (.iload_n 2, 1) := by decide +kernel
theorem dX14_readString_37 : decode cX14_readString 37 = .ok (.bipush 32, 2) := by decide +kernel
theorem dX14_readString_39 : decode cX14_readString 39 = .ok (.if_icmp .ge 11, 3) := by decide +kernel
theorem dX14_readString_42 : decode cX14_readString 42 = .ok (.aload_n 0, 1) := by decide +kernel
theorem dX14_readString_43 : decode cX14_readString 43 = .ok (.iconst 1, 1) := by decide +kernel
theorem dX14_readString_44 : decode cX14_readString 44 = .ok (.putfield 288, 3) := by decide +kernel
theorem dX14_readString_47 : decode cX14_readString 47 = .ok (.goto 73, 3) := by decide +kernel
theorem dX14_readString_50 : decode cX14_readString 50 = .ok (.iload_n 2, 1) := by decide +kernel
theorem dX14_readString_51 : decode cX14_readString 51 = .ok (.bipush 92, 2) := by decide +kernel
theorem dX14_readString_53 : decode cX14_readString 53 = .ok (.if_icmp .ne 20, 3) := by decide +kernel
theorem dX14_readString_56 : decode cX14_readString 56 = .ok (.aload_n 0, 1) := by decide +kernel
theorem dX14_readString_57 : decode cX14_readString 57 = .ok (.dup, 1) := by decide +kernel
theorem dX14_readString_58 : decode cX14_readString 58 = .ok (.getfield 273, 3) := by decide +kernel
theorem dX14_readString_61 : decode cX14_readString 61 = .ok (.iconst 1, 1) := by decide +kernel
theorem dX14_readString_62 : decode cX14_readString 62 = .ok (.iadd, 1) := by decide +kernel
theorem dX14_readString_63 : decode cX14_readString 63 = .ok (.putfield 273, 3) := by decide +kernel
theorem dX14_readString_66 : decode cX14_readString 66 = .ok (.aload_n 0, 1) := by decide +kernel
theorem dX14_readString_67 : decode cX14_readString 67 = .ok (.invokevirtual 350, 3) := by decide +kernel
theorem dX14_readString_70 : decode cX14_readString 70 = .ok (.goto 50, 3) := by decide +kernel
theorem dX14_readString_73 : decode cX14_readString 73 = .ok (.aload_n 0, 1) := by decide +kernel
theorem dX14_readString_74 : decode cX14_readString 74 = .ok (.aload_n 0, 1) := by decide +kernel
theorem dX14_readString_75 : decode cX14_readString 75 = .ok (.getfield 20, 3) := by decide +kernel
theorem dX14_readString_78 : decode cX14_readString 78 = .ok (.aload_n 0, 1) := by decide +kernel
theorem dX14_readString_79 : decode cX14_readString 79 = .ok (.getfield 273, 3) := by decide +kernel
theorem dX14_readString_82 : decode cX14_readString 82 = .ok (.aload_n 0, 1) := by decide +kernel
theorem dX14_readString_83 : decode cX14_readString 83 = .ok (.getfield 276, 3) := by decide +kernel
theorem dX14_readString_86 : decode cX14_readString 86 = .ok (.invokevirtual 353, 3) := by decide +kernel
theorem dX14_readString_89 : decode cX14_readString 89 = .ok (.istore_n 3, 1) := by decide +kernel
theorem dX14_readString_90 : decode cX14_readString 90 = .ok (.iload_n 3, 1) := by decide +kernel
theorem dX14_readString_91 : decode cX14_readString 91 = .ok (.ifCond .ne 11, 3) := by decide +kernel
theorem dX14_readString_94 : decode cX14_readString 94 = .ok (.aload_n 0, 1) := by decide +kernel
theorem dX14_readString_95 : decode cX14_readString 95 = .ok (.iconst 1, 1) := by decide +kernel
theorem dX14_readString_96 : decode cX14_readString 96 = .ok (.putfield 288, 3) := by decide +kernel
theorem dX14_readString_99 : decode cX14_readString 99 = .ok (.goto 11, 3) := by decide +kernel
theorem dX14_readString_102 : decode cX14_readString 102 = .ok (.aload_n 0, 1) := by decide +kernel
theorem dX14_readString_103 : decode cX14_readString 103 = .ok (.aload_n 0, 1) := by decide +kernel
theorem dX14_readString_104 : decode cX14_readString 104 = .ok (.getfield 357, 3) := by decide +kernel
theorem dX14_readString_107 : decode cX14_readString 107 = .ok (.invokevirtual 342, 3) := by decide +kernel
theorem dX14_readString_110 : decode cX14_readString 110 = .ok (.aload_n 0, 1) := by decide +kernel
theorem dX14_readString_111 : decode cX14_readString 111 = .ok (.dup, 1) := by decide +kernel
theorem dX14_readString_112 : decode cX14_readString 112 = .ok (.getfield 273, 3) := by decide +kernel
theorem dX14_readString_115 : decode cX14_readString 115 = .ok (.iload_n 3, 1) := by decide +kernel
theorem dX14_readString_116 : decode cX14_readString 116 = .ok (.iadd, 1) := by decide +kernel
theorem dX14_readString_117 : decode cX14_readString 117 = .ok (.putfield 273, 3) := by decide +kernel
theorem dX14_readString_120 : decode cX14_readString 120 = .ok (.goto (-105), 3) := by decide +kernel
theorem dX14_readString_123 : decode cX14_readString 123 = .ok (.aload_n 0, 1) := by decide +kernel
theorem dX14_readString_124 : decode cX14_readString 124 = .ok (.dup, 1) := by decide +kernel
theorem dX14_readString_125 : decode cX14_readString 125 = .ok (.getfield 273, 3) := by decide +kernel
theorem dX14_readString_128 : decode cX14_readString 128 = .ok (.iconst 1, 1) := by decide +kernel
theorem dX14_readString_129 : decode cX14_readString 129 = .ok (.iadd, 1) := by decide +kernel
theorem dX14_readString_130 : decode cX14_readString 130 = .ok (.putfield 273, 3) := by decide +kernel
theorem dX14_readString_133 : decode cX14_readString 133 = .ok (.aload_n 0, 1) := by decide +kernel
theorem dX14_readString_134 : decode cX14_readString 134 = .ok (.iload_n 1, 1) := by decide +kernel
theorem dX14_readString_135 : decode cX14_readString 135 = .ok (.putfield 301, 3) := by decide +kernel
theorem dX14_readString_138 : decode cX14_readString 138 = .ok (.return_, 1) := by decide +kernel
end
section
theorem dX14_readValue_0 : decode cX14_readValue 0 = .ok (.aload_n 0, 1) := by decide +kernel
theorem dX14_readValue_1 : decode cX14_readValue 1 = .ok (.invokevirtual 285, 3) := by decide +kernel
theorem dX14_readValue_4 : decode cX14_readValue 4 = .ok (.aload_n 0, 1) := by decide +kernel
theorem dX14_readValue_5 : decode cX14_readValue 5 = .ok (.invokevirtual 279, 3) := by decide +kernel
theorem dX14_readValue_8 : decode cX14_readValue 8 = .ok (.istore_n 2, 1) := by decide +kernel
theorem dX14_readValue_9 : decode cX14_readValue 9 = .ok (.iload_n 2, 1) := by decide +kernel
theorem dX14_readValue_10 : decode cX14_readValue 10 = .ok (.bipush 123, 2) := by decide +kernel
theorem dX14_readValue_12 : decode cX14_readValue 12 = .ok (.if_icmp .eq 9, 3) := by decide +kernel
theorem dX14_readValue_15 : decode cX14_readValue 15 = .ok (.iload_n 2, 1) := by decide +kernel
theorem dX14_readValue_16 : decode cX14_readValue 16 = .ok (.bipush 91, 2) := by decide +kernel
theorem dX14_readValue_18 : decode cX14_readValue 18 = .ok (.if_icmp .ne 44, 3) := by decide +kernel
theorem dX14_readValue_21 : decode cX14_readValue 21 = .ok (.iload_n 1, 1) := by decide +kernel
theorem dX14_readValue_22 : decode cX14_readValue 22 = .ok (.bipush 10, 2) := by decide +kernel
theorem dX14_readValue_24 : decode cX14_readValue 24 = .ok (.if_icmp .ne 8, 3) := by decide +kernel
theorem dX14_readValue_27 : decode cX14_readValue 27 = .ok (.aload_n 0, 1) := by decide +kernel
theorem dX14_readValue_28 : decode cX14_readValue 28 = .ok (.iconst 1, 1) := by decide +kernel
theorem dX14_readValue_29 : decode cX14_readValue 29 = .ok (.putfield 288, 3) := by decide +kernel
theorem dX14_readValue_32 : decode cX14_readValue 32 = .ok (.aload_n 0, 1) := by decide +kernel
theorem dX14_readValue_33 : decode cX14_readValue 33 = .ok (.getfield 288, 3) := by decide +kernel
theorem dX14_readValue_36 : decode cX14_readValue 36 = .ok (.ifCond .eq 7, 3) := by decide +kernel
theorem dX14_readValue_39 : decode cX14_readValue 39 = .ok (.iconst 0, 1) := by decide +kernel
theorem dX14_readValue_40 : decode cX14_readValue 40 = .ok (.goto 21, 3) := by decide +kernel
theorem dX14_readValue_43 : decode cX14_readValue 43 = .ok (.aload_n 0, 1) := by decide +kernel
theorem dX14_readValue_44 : decode cX14_readValue 44 = .ok (.iload_n 2, 1) := by decide +kernel
theorem dX14_readValue_45 : decode cX14_readValue 45 = .ok (.bipush 123, 2) := by decide +kernel
theorem dX14_readValue_47 : decode cX14_readValue 47 = .ok (.if_icmp .ne 7, 3) := by decide +kernel
theorem dX14_readValue_50 : decode cX14_readValue 50 = .ok (.iconst 1, 1) := by decide +kernel
theorem dX14_readValue_51 : decode cX14_readValue 51 = .ok (.goto 4, 3) := by decide +kernel
theorem dX14_readValue_54 : decode cX14_readValue 54 = .ok (.iconst 0, 1) := by decide +kernel
theorem dX14_readValue_55 : decode cX14_readValue 55 = .ok (.iload_n 1, 1) := by decide +kernel
theorem dX14_readValue_56 : decode cX14_readValue 56 = .ok (.iconst 1, 1) := by decide +kernel
theorem dX14_readValue_57 : decode cX14_readValue 57 = .ok (.iadd, 1) := by decide +kernel
theorem dX14_readValue_58 : decode cX14_readValue 58 = .ok (.invokevirtual 291, 3) := by decide +kernel
theorem dX14_readValue_61 : decode cX14_readValue 61 = .ok (.ireturn, 1) := by decide +kernel
theorem dX14_readValue_62 : decode cX14_readValue 62 = .ok (.iload_n 2, 1) := by decide +kernel
theorem dX14_readValue_63 : decode cX14_readValue 63 = .ok (.bipush 34, 2) := by decide +kernel
theorem dX14_readValue_65 : decode cX14_readValue 65 = .ok (.if_icmp .ne 35, 3) := by decide +kernel
theorem dX14_readValue_68 : decode cX14_readValue 68 = .ok (.aload_n 0, 1) := by decide +kernel
theorem dX14_readValue_69 : decode cX14_readValue 69 = .ok (.iconst 4, 1) := by decide +kernel
theorem dX14_readValue_70 : decode cX14_readValue 70 = .ok (.invokevirtual 295, 3) := by decide +kernel
theorem dX14_readValue_73 : decode cX14_readValue 73 = .ok (.istore_n 3, 1) := by decide +kernel
theorem dX14_readValue_74 : decode cX14_readValue 74 = .ok (.aload_n 0, 1) := by decide +kernel
theorem dX14_readValue_75 : decode cX14_readValue 75 = .ok (.invokevirtual 298, 3) := by decide +kernel
theorem dX14_readValue_78 : decode cX14_readValue 78 = .ok (.aload_n 0, 1) := by decide +kernel
theorem dX14_readValue_79 : decode cX14_readValue 79 = .ok (.getfield 52, 3) := by decide +kernel
theorem dX14_readValue_82 : decode cX14_readValue 82 = .ok (.iload_n 3, 1) := by decide +kernel
theorem dX14_readValue_83 : decode cX14_readValue 83 = .ok (.aload_n 0, 1) := by decide +kernel
theorem dX14_readValue_84 : decode cX14_readValue 84 = .ok (.getfield 301, 3) := by decide +kernel
theorem dX14_readValue_87 : decode cX14_readValue 87 = .ok (.iastore, 1) := by decide +kernel
theorem dX14_readValue_88 : decode cX14_readValue 88 = .ok (.aload_n 0, 1) := by decide +kernel
theorem dX14_readValue_89 : decode cX14_readValue 89 = .ok (.getfield 55, 3) := by decide +kernel
theorem dX14_readValue_92 : decode cX14_readValue 92 = .ok (.iload_n 3, 1) := by decide +kernel
theorem dX14_readValue_93 : decode cX14_readValue 93 = .ok (.aload_n 0, 1) := by decide +kernel
theorem dX14_readValue_94 : decode cX14_readValue 94 = .ok (.getfield 304, 3) := by decide +kernel
theorem dX14_readValue_97 : decode cX14_readValue 97 = .ok (.iastore, 1) := by decide +kernel
theorem dX14_readValue_98 : decode cX14_readValue 98 = .ok (.iload_n 3, 1) := by decide +kernel
theorem dX14_readValue_99 : decode cX14_readValue 99 = .ok (.ireturn, 1) := by decide +kernel
theorem dX14_readValue_100 : decode cX14_readValue 100 = .ok (.aload_n 0, 1) := by decide +kernel
theorem dX14_readValue_101 : decode cX14_readValue 101 = .ok (.ldc_w 307, 3) := by decide +kernel
theorem dX14_readValue_104 : decode cX14_readValue 104 = .ok (.invokevirtual 309, 3) := by decide +kernel
theorem dX14_readValue_107 : decode cX14_readValue 107 = .ok (.ifCond .eq 9, 3) := by decide +kernel
theorem dX14_readValue_110 : decode cX14_readValue 110 = .ok (.aload_n 0, 1) := by decide +kernel
theorem dX14_readValue_111 : decode cX14_readValue 111 = .ok (.iconst 0, 1) := by decide +kernel
theorem dX14_readValue_112 : decode cX14_readValue 112 = .ok (.invokevirtual 295, 3) := by decide +kernel
theorem dX14_readValue_115 : decode cX14_readValue 115 = .ok (.ireturn, 1) := by decide +kernel
theorem dX14_readValue_116 : decode cX14_readValue 116 = .ok (.aload_n 0, 1) := by decide +kernel
theorem dX14_readValue_117 : decode cX14_readValue 117 = .ok (.ldc_w 313, 3) := by decide +kernel
theorem dX14_readValue_120 : decode cX14_readValue 120 = .ok (.invokevirtual 309, 3) := by decide +kernel
theorem dX14_readValue_123 : decode cX14_readValue 123 = .ok (.ifCond .eq 9, 3) := by decide +kernel
theorem dX14_readValue_126 : decode cX14_readValue 126 = .ok (.aload_n 0, 1) := by decide +kernel
theorem dX14_readValue_127 : decode cX14_readValue 127 = .ok (.iconst 1, 1) := by decide +kernel
theorem dX14_readValue_128 : decode cX14_readValue 128 = .ok (.invokevirtual 295, 3) := by decide +kernel
theorem dX14_readValue_131 : decode cX14_readValue 131 = .ok (.ireturn, 1) := by decide +kernel
theorem dX14_readValue_132 : decode cX14_readValue 132 = .ok (.aload_n 0, 1) := by decide +kernel
theorem dX14_readValue_133 : decode cX14_readValue 133 = .ok (.ldc_w 315, 3) := by decide +kernel
theorem dX14_readValue_136 : decode cX14_readValue 136 = .ok (.invokevirtual 309, 3) := by decide +kernel
theorem dX14_readValue_139 : decode cX14_readValue 139 = .ok (.ifCond .eq 9, 3) := by decide +kernel
theorem dX14_readValue_142 : decode cX14_readValue 142 = .ok (.aload_n 0, 1) := by decide +kernel
theorem dX14_readValue_143 : decode cX14_readValue 143 = .ok (.iconst 2, 1) := by decide +kernel
theorem dX14_readValue_144 : decode cX14_readValue 144 = .ok (.invokevirtual 295, 3) := by decide +kernel
theorem dX14_readValue_147 : decode cX14_readValue 147 = .ok (.ireturn, 1) := by decide +kernel
theorem dX14_readValue_148 : decode cX14_readValue 148 = .ok (.aload_n 0, 1) := by decide +kernel
theorem dX14_readValue_149 : decode cX14_readValue 149 = .ok (.invokevirtual 317, 3) := by decide +kernel
theorem dX14_readValue_152 : decode cX14_readValue 152 = .ok (.ireturn, 1) := by decide +kernel
theorem dX14_readMany_0 : decode cX14_readMany 0 = .ok (.aload_n 0, 1) := by decide +kernel
theorem dX14_readMany_1 : decode cX14_readMany 1 = .ok (.iload_n 1, 1) := by decide +kernel
theorem dX14_readMany_2 : decode cX14_readMany 2 = .ok (.ifCond .eq 8, 3) := by decide +kernel
theorem dX14_readMany_5 : decode cX14_readMany 5 = .ok (.bipush 6, 2) := by decide +kernel
theorem dX14_readMany_7 : decode cX14_readMany 7 = .ok (.goto 4, 3) := by decide +kernel
theorem dX14_readMany_10 : decode cX14_readMany 10 = .ok (.iconst 5, 1) := by decide +kernel
theorem dX14_readMany_11 : decode cX14_readMany 11 = .ok (.invokevirtual 295, 3) := by decide +kernel
theorem dX14_readMany_14 : decode cX14_readMany 14 = .ok (.istore_n 3, 1) := by decide +kernel
theorem dX14_readMany_15 : decode cX14_readMany 15 = .ok (.aload_n 0, 1) := by decide +kernel
theorem dX14_readMany_16 : decode cX14_readMany 16 = .ok (.dup, 1) := by decide +kernel
theorem dX14_readMany_17 : decode cX14_readMany 17 = .ok (.getfield 273, 3) := by decide +kernel
theorem dX14_readMany_20 : decode cX14_readMany 20 = .ok (.iconst 1, 1) := by decide +kernel
theorem dX14_readMany_21 : decode cX14_readMany 21 = .ok (.iadd, 1) := by decide +kernel
theorem dX14_readMany_22 : decode cX14_readMany 22 = .ok (.putfield 273, 3) := by decide +kernel
theorem dX14_readMany_25 : decode cX14_readMany 25 = .ok (.iload_n 1, 1) := by decide +kernel
theorem dX14_readMany_26 : decode cX14_readMany 26 = .ok (.ifCond .eq 8, 3) := by decide +kernel
theorem dX14_readMany_29 : decode cX14_readMany 29 = .ok (.bipush 125, 2) := by decide +kernel
theorem dX14_readMany_31 : decode cX14_readMany 31 = .ok (.goto 5, 3) := by decide +kernel
theorem dX14_readMany_34 : decode cX14_readMany 34 = .ok (.bipush 93, 2) := by decide +kernel
theorem dX14_readMany_36 : decode cX14_readMany 36 = .ok (.istore 4, 2) := by decide +kernel
theorem dX14_readMany_38 : decode cX14_readMany 38 = .ok (.aload_n 0, 1) := by decide +kernel
theorem dX14_readMany_39 : decode cX14_readMany 39 = .ok (.invokevirtual 285, 3) := by decide +kernel
theorem dX14_readMany_42 : decode cX14_readMany 42 = .ok (.aload_n 0, 1) := by decide +kernel
theorem dX14_readMany_43 : decode cX14_readMany 43 = .ok (.invokevirtual 279, 3) := by decide +kernel
theorem dX14_readMany_46 : decode cX14_readMany 46 = .ok (.iload 4, 2) := by decide +kernel
theorem dX14_readMany_48 : decode cX14_readMany 48 = .ok (.if_icmp .ne 15, 3) := by decide +kernel
theorem dX14_readMany_51 : decode cX14_readMany 51 = .ok (.aload_n 0, 1) := by decide +kernel
theorem dX14_readMany_52 : decode cX14_readMany 52 = .ok (.dup, 1) := by decide +kernel
theorem dX14_readMany_53 : decode cX14_readMany 53 = .ok (.getfield 273, 3) := by decide +kernel
theorem dX14_readMany_56 : decode cX14_readMany 56 = .ok (.iconst 1, 1) := by decide +kernel
theorem dX14_readMany_57 : decode cX14_readMany 57 = .ok (.iadd, 1) := by decide +kernel
theorem dX14_readMany_58 : decode cX14_readMany 58 = .ok (.putfield 273, 3) := by decide +kernel
theorem dX14_readMany_61 : decode cX14_readMany 61 = .ok (.iload_n 3, 1) := by decide +kernel
theorem dX14_readMany_62 : decode cX14_readMany 62 = .ok (.ireturn, 1) := by decide +kernel
theorem dX14_readMany_63 : decode cX14_readMany 63 = .ok (.iconst (-1), 1) := by decide +kernel
theorem dX14_readMany_64 : decode cX14_readMany 64 = .ok (.istore 5, 2) := by decide +kernel
theorem dX14_readMany_66 : decode cX14_readMany 66 = .ok (.iconst 1, 1) := by decide +kernel
theorem dX14_readMany_67 : decode cX14_readMany 67 = .ok (.istore 6, 2) := by decide +kernel
theorem dX14_readMany_69 : decode cX14_readMany 69 = .ok (.iload 6, 2) := by decide +kernel
theorem dX14_readMany_71 : decode cX14_readMany 71 = .ok (.ifCond .eq 215, 3) := by decide +kernel
theorem dX14_readMany_74 : decode cX14_readMany 74 = .ok (.aload_n 0, 1) := by decide +kernel
theorem dX14_readMany_75 : decode cX14_readMany 75 = .ok (.getfield 288, 3) := by decide +kernel
theorem dX14_readMany_78 : decode cX14_readMany 78 = .ok (.ifCond .ne 208, 3) := by decide +kernel
theorem dX14_readMany_81 : decode cX14_readMany 81 = .ok (.iconst 0, 1) := by decide +kernel
theorem dX14_readMany_82 : decode cX14_readMany 82 = .ok (.istore 7, 2) := by decide +kernel
theorem dX14_readMany_84 : decode cX14_readMany 84 = .ok (.iconst 0, 1) := by decide +kernel
theorem dX14_readMany_85 : decode cX14_readMany 85 = .ok (.istore 8, 2) := by decide +kernel
theorem dX14_readMany_87 : decode cX14_readMany 87 = .ok (.iload_n 1, 1) := by decide +kernel
theorem dX14_readMany_88 : decode cX14_readMany 88 = .ok (.ifCond .eq 72, 3) := by decide +kernel
theorem dX14_readMany_91 : decode cX14_readMany 91 = .ok (.aload_n 0, 1) := by decide +kernel
theorem dX14_readMany_92 : decode cX14_readMany 92 = .ok (.invokevirtual 285, 3) := by decide +kernel
theorem dX14_readMany_95 : decode cX14_readMany 95 = .ok (.aload_n 0, 1) := by decide +kernel
theorem dX14_readMany_96 : decode cX14_readMany 96 = .ok (.invokevirtual 279, 3) := by decide +kernel
theorem dX14_readMany_99 : decode cX14_readMany 99 = .ok (.bipush 34, 2) := by decide +kernel
theorem dX14_readMany_101 : decode cX14_readMany 101 = .ok (.if_icmp .eq 8, 3) := by decide +kernel
theorem dX14_readMany_104 : decode cX14_readMany 104 = .ok (.aload_n 0, 1) := by decide +kernel
theorem dX14_readMany_105 : decode cX14_readMany 105 = .ok (.iconst 1, 1) := by decide +kernel
theorem dX14_readMany_106 : decode cX14_readMany 106 = .ok (.putfield 288, 3) := by decide +kernel
theorem dX14_readMany_109 : decode cX14_readMany 109 = .ok (.aload_n 0, 1) := by decide +kernel
theorem dX14_readMany_110 : decode cX14_readMany 110 = .ok (.getfield 288, 3) := by decide +kernel
theorem dX14_readMany_113 : decode cX14_readMany 113 = .ok (.ifCond .ne 7, 3) := by decide +kernel
theorem dX14_readMany_116 : decode cX14_readMany 116 = .ok (.aload_n 0, 1) := by decide +kernel
theorem dX14_readMany_117 : decode cX14_readMany 117 = .ok (.invokevirtual 298, 3) := by decide +kernel
theorem dX14_readMany_120 : decode cX14_readMany 120 = .ok (.aload_n 0, 1) := by decide +kernel
theorem dX14_readMany_121 : decode cX14_readMany 121 = .ok (.getfield 301, 3) := by decide +kernel
theorem dX14_readMany_124 : decode cX14_readMany 124 = .ok (.istore 7, 2) := by decide +kernel
theorem dX14_readMany_126 : decode cX14_readMany 126 = .ok (.aload_n 0, 1) := by decide +kernel
theorem dX14_readMany_127 : decode cX14_readMany 127 = .ok (.getfield 304, 3) := by decide +kernel
theorem dX14_readMany_130 : decode cX14_readMany 130 = .ok (.istore 8, 2) := by decide +kernel
theorem dX14_readMany_132 : decode cX14_readMany 132 = .ok (.aload_n 0, 1) := by decide +kernel
theorem dX14_readMany_133 : decode cX14_readMany 133 = .ok (.invokevirtual 285, 3) := by decide +kernel
theorem dX14_readMany_136 : decode cX14_readMany 136 = .ok (.aload_n 0, 1) := by decide +kernel
theorem dX14_readMany_137 : decode cX14_readMany 137 = .ok (.invokevirtual 279, 3) := by decide +kernel
theorem dX14_readMany_140 : decode cX14_readMany 140 = .ok (.bipush 58, 2) := by decide +kernel
theorem dX14_readMany_142 : decode cX14_readMany 142 = .ok (.if_icmp .eq 8, 3) := by decide +kernel
theorem dX14_readMany_145 : decode cX14_readMany 145 = .ok (.aload_n 0, 1) := by decide +kernel
theorem dX14_readMany_146 : decode cX14_readMany 146 = .ok (.iconst 1, 1) := by decide +kernel
theorem dX14_readMany_147 : decode cX14_readMany 147 = .ok (.putfield 288, 3) := by decide +kernel
theorem dX14_readMany_150 : decode cX14_readMany 150 = .ok (.aload_n 0, 1) := by decide +kernel
theorem dX14_readMany_151 : decode cX14_readMany 151 = .ok (.dup, 1) := by decide +kernel
theorem dX14_readMany_152 : decode cX14_readMany 152 = .ok (.getfield 273, 3) := by decide +kernel
theorem dX14_readMany_155 : decode cX14_readMany 155 = .ok (.iconst 1, 1) := by decide +kernel
theorem dX14_readMany_156 : decode cX14_readMany 156 = .ok (.iadd, 1) := by decide +kernel
theorem dX14_readMany_157 : decode cX14_readMany 157 = .ok (.putfield 273, 3) := by decide +kernel
theorem dX14_readMany_160 : decode cX14_readMany 160 = .ok (.aload_n 0, 1) := by decide +kernel
theorem dX14_readMany_161 : decode cX14_readMany 161 = .ok (.getfield 288, 3) := by decide +kernel
theorem dX14_readMany_164 : decode cX14_readMany 164 = .ok (.ifCond .eq 7, 3) := by decide +kernel
theorem dX14_readMany_167 : decode cX14_readMany 167 = .ok (.iconst 0, 1) := by decide +kernel
theorem dX14_readMany_168 : decode cX14_readMany 168 = .ok (.goto 8, 3) := by decide +kernel
theorem dX14_readMany_171 : decode cX14_readMany 171 = .ok (.aload_n 0, 1) := by decide +kernel
theorem dX14_readMany_172 : decode cX14_readMany 172 = .ok (.iload_n 2, 1) := by decide +kernel
theorem dX14_readMany_173 : decode cX14_readMany 173 = .ok (.invokevirtual 361, 3) := by decide +kernel
theorem dX14_readMany_176 : decode cX14_readMany 176 = .ok (.istore 9, 2) := by decide +kernel
theorem dX14_readMany_178 : decode cX14_readMany 178 = .ok (.aload_n 0, 1) := by decide +kernel
theorem dX14_readMany_179 : decode cX14_readMany 179 = .ok (.getfield 288, 3) := by decide +kernel
theorem dX14_readMany_182 : decode cX14_readMany 182 = .ok (.ifCond .eq 5, 3) := by decide +kernel
theorem dX14_readMany_185 : decode cX14_readMany 185 = .ok (.iload_n 3, 1) := by decide +kernel
theorem dX14_readMany_186 : decode cX14_readMany 186 = .ok (.ireturn, 1) := by decide +kernel
theorem dX14_readMany_187 : decode cX14_readMany 187 = .ok (.aload_n 0, 1) := by decide +kernel
theorem dX14_readMany_188 : decode cX14_readMany 188 = .ok (.getfield 46, 3) := by decide +kernel
theorem dX14_readMany_191 : decode cX14_readMany 191 = .ok (.iload 9, 2) := by decide +kernel
theorem dX14_readMany_193 : decode cX14_readMany 193 = .ok (.iload 7, 2) := by decide +kernel
theorem dX14_readMany_195 : decode cX14_readMany 195 = .ok (.iastore, 1) := by decide +kernel
theorem dX14_readMany_196 : decode cX14_readMany 196 = .ok (.aload_n 0, 1) := by decide +kernel
theorem dX14_readMany_197 : decode cX14_readMany 197 = .ok (.getfield 49, 3) := by decide +kernel
theorem dX14_readMany_200 : decode cX14_readMany 200 = .ok (.iload 9, 2) := by decide +kernel
theorem dX14_readMany_202 : decode cX14_readMany 202 = .ok (.iload 8, 2) := by decide +kernel
theorem dX14_readMany_204 : decode cX14_readMany 204 = .ok (.iastore, 1) := by decide +kernel
theorem dX14_readMany_205 : decode cX14_readMany 205 = .ok (.iload 5, 2) := by decide +kernel
theorem dX14_readMany_207 : decode cX14_readMany 207 = .ok (.ifCond .ge 14, 3) := by decide +kernel
theorem dX14_readMany_210 : decode cX14_readMany 210 = .ok (.aload_n 0, 1) := by decide +kernel
theorem dX14_readMany_211 : decode cX14_readMany 211 = .ok (.getfield 40, 3) := by decide +kernel
theorem dX14_readMany_214 : decode cX14_readMany 214 = .ok (.iload_n 3, 1) := by decide +kernel
theorem dX14_readMany_215 : decode cX14_readMany 215 = .ok (.iload 9, 2) := by decide +kernel
theorem dX14_readMany_217 : decode cX14_readMany 217 = .ok (.iastore, 1) := by decide +kernel
theorem dX14_readMany_218 : decode cX14_readMany 218 = .ok (.goto 12, 3) := by decide +kernel
theorem dX14_readMany_221 : decode cX14_readMany 221 = .ok (.aload_n 0, 1) := by decide +kernel
theorem dX14_readMany_222 : decode cX14_readMany 222 = .ok (.getfield 43, 3) := by decide +kernel
theorem dX14_readMany_225 : decode cX14_readMany 225 = .ok (.iload 5, 2) := by decide +kernel
theorem dX14_readMany_227 : decode cX14_readMany 227 = .ok (.iload 9, 2) := by decide +kernel
theorem dX14_readMany_229 : decode cX14_readMany 229 = .ok (.iastore, 1) := by decide +kernel
theorem dX14_readMany_230 : decode cX14_readMany 230 = .ok (.iload 9, 2) := by decide +kernel
theorem dX14_readMany_232 : decode cX14_readMany 232 = .ok (.istore 5, 2) := by decide +kernel
theorem dX14_readMany_234 : decode cX14_readMany 234 = .ok (.aload_n 0, 1) := by decide +kernel
theorem dX14_readMany_235 : decode cX14_readMany 235 = .ok (.invokevirtual 285, 3) := by decide +kernel
theorem dX14_readMany_238 : decode cX14_readMany 238 = .ok (.aload_n 0, 1) := by decide +kernel
theorem dX14_readMany_239 : decode cX14_readMany 239 = .ok (.invokevirtual 279, 3) := by decide +kernel
theorem dX14_readMany_242 : decode cX14_readMany 242 = .ok (.bipush 44, 2) := by decide +kernel
theorem dX14_readMany_244 : decode cX14_readMany 244 = .ok (.if_icmp .ne 7, 3) := by decide +kernel
theorem dX14_readMany_247 : decode cX14_readMany 247 = .ok (.iconst 1, 1) := by decide +kernel
theorem dX14_readMany_248 : decode cX14_readMany 248 = .ok (.goto 4, 3) := by decide +kernel
theorem dX14_readMany_251 : decode cX14_readMany 251 = .ok (.iconst 0, 1) := by decide +kernel
theorem dX14_readMany_252 : decode cX14_readMany 252 = .ok (.istore 6, 2) := by decide +kernel
theorem dX14_readMany_254 : decode cX14_readMany 254 = .ok (.iload 6, 2) := by decide +kernel
theorem dX14_readMany_256 : decode cX14_readMany 256 = .ok (.ifCond .ne 17, 3) := by decide +kernel
theorem dX14_readMany_259 : decode cX14_readMany 259 = .ok (.aload_n 0, 1) := by decide +kernel
theorem dX14_readMany_260 : decode cX14_readMany 260 = .ok (.invokevirtual 279, 3) := by decide +kernel
theorem dX14_readMany_263 : decode cX14_readMany 263 = .ok (.iload 4, 2) := by decide +kernel
theorem dX14_readMany_265 : decode cX14_readMany 265 = .ok (.if_icmp .eq 8, 3) := by decide +kernel
theorem dX14_readMany_268 : decode cX14_readMany 268 = .ok (.aload_n 0, 1) := by decide +kernel
theorem dX14_readMany_269 : decode cX14_readMany 269 = .ok (.iconst 1, 1) := by decide +kernel
theorem dX14_readMany_270 : decode cX14_readMany 270 = .ok (.putfield 288, 3) := by decide +kernel
theorem dX14_readMany_273 : decode cX14_readMany 273 = .ok (.aload_n 0, 1) := by decide +kernel
theorem dX14_readMany_274 : decode cX14_readMany 274 = .ok (.dup, 1) := by decide +kernel
theorem dX14_readMany_275 : decode cX14_readMany 275 = .ok (.getfield 273, 3) := by decide +kernel
theorem dX14_readMany_278 : decode cX14_readMany 278 = .ok (.iconst 1, 1) := by decide +kernel
theorem dX14_readMany_279 : decode cX14_readMany 279 = .ok (.iadd, 1) := by decide +kernel
theorem dX14_readMany_280 : decode cX14_readMany 280 = .ok (.putfield 273, 3) := by decide +kernel
theorem dX14_readMany_283 : decode cX14_readMany 283 = .ok (.goto (-214), 3) := by decide +kernel
theorem dX14_readMany_286 : decode cX14_readMany 286 = .ok (.iload_n 3, 1) := by decide +kernel
theorem dX14_readMany_287 : decode cX14_readMany 287 = .ok (.ireturn, 1) := by decide +kernel
end
section
-- new cells: an array of ints that is typed at once
section J11
variable {p : Program} {l : Launch} {e : Env} {R : Room} {s : State} {m : MethodId} {args : Array Value} {below : List Frame} {meth : Method} {c : Code} {H : Heap} {locs : List Loc} {cells slots : Nat} {Q : State → Prop}
variable {cc : ByteArray} {pc : Nat} {ls : Array Slot} {rest : List Value} {dC : Nat → ClassId} {dI : Nat → Nat → Nat} {ca : Nat → ClassId} {B : jF} {base : Nat} {G0 G : jT} {E : List (Nat × Nat)} {H0 : Heap} {zc zs : Nat} {L : List jPin} {M : List jCt} {I : List jIv} {k n : Nat} {P : Nat → Int32 → Prop} {cA : ClassId} {tys : List (ClassId × FieldType)}
theorem jSt.new (hh : jSt (dC, dI) B base G0 G E H0 zc zs L M I H locs) (hB : jBok B) (hb0 : base ≤ H.size) {H1 : Heap} (hsz : H1.size = H.size + 1) (hfr : ∀ q, q < H.size → H1[q]? = H[q]?) {w : Nat} (hT : jTot H1 = jTot H + w) (hk : k < 1000) (hb : B k n (va_up G H.size (some (k, n))) H.size H1) : jSt (dC, dI) B base G0 (va_up G H.size (some (k, n))) E H0 (zc + 1) (zs + w) L M I H1 locs := by
  obtain ⟨h1, h2, h3, h4, h5, h6, h7, h8, h9⟩ := hh
  have hn := h2.fresh
  have hle : jLe G (va_up G H.size (some (k, n))) := jLe.new hn
  have key : ∀ kb b ib v, jf (dC, dI) kb b ib v H → jf (dC, dI) kb b ib v H1 := fun kb b ib v hf => hf.kept (hfr b hf.lt)
  have hX1 := (h2.grow hB (k, n) hb0 hsz hfr).cls (jUp_self) hb
  refine ⟨⟨by rw [hsz]; exact Nat.le_succ_of_le h1.1, fun q g1 g2 => (hfr q (Nat.lt_of_lt_of_le g1 h1.1)).trans (h1.2.1 q g1 g2), h1.2.2⟩, hX1, fun q hq => ?_, ⟨fun a kb nb ib v ha he hf => key kb a ib v (h4.1 a kb nb ib v ha he hf), fun a kb nb ha g1 g2 he => ?_⟩, h5.tr hle, by omega, by omega, fun q hq => ?_, fun q hq => ?_⟩
  · obtain ⟨⟨nq, g1⟩, g2⟩ := h3 q hq
    exact ⟨⟨nq, hle _ _ g1⟩, key _ _ _ _ g2⟩
  · exact (hfr a (h2.2 _ _ (h5 _ _ ha)).2).trans (h4.2 a kb nb ha g1 g2 he)
  · obtain ⟨g1, g2, g3, g4⟩ := h8 q hq
    exact ⟨hle _ _ g1, g2, g3, g4.kept (hfr _ (h2.2 _ _ g1).2)⟩
  · obtain ⟨g1, g2⟩ := h9 q hq
    have hag : ∀ Ha Hb, jAg (dC, dI) (va_up G H.size (some (k, n))) q.1 Ha Hb → jAg (dC, dI) G q.1 Ha Hb := fun Ha Hb hA => ⟨fun a kb nb ib v ha => hA.1 a kb nb ib v (hle _ _ ha), fun a kb nb ha => hA.2 a kb nb (hle _ _ ha)⟩
    refine ⟨g2 H H1 ⟨fun a kb nb ib v _ _ hf => key kb a ib v hf, fun a kb nb ha _ _ _ => hfr a (h2.2 _ _ ha).2⟩ g1, fun Ha Hb hA => g2 Ha Hb (hag Ha Hb hA)⟩
end J11
end
section
-- how a text is parted, as functions
def jBlk (x : Int) : Int := if x = 32 ∨ x = 9 ∨ x = 10 ∨ x = 13 then 1 else 0
theorem jOpI_le (f : Nat → Int32) (i n : Int) : 0 ≤ jOpI f i n ∧ jOpI f i n ≤ 1 := by unfold jOpI; split <;> omega
def jBcc (f : Nat → Int32) (n i : Int) : Int := jBc f n ((n - i).toNat + 1) i 0
def jGa (f : Nat → Int32) (n : Int) : Nat → Int → Int
  | 0, _ => n
  | k + 1, i => if i < n then (if jBlk (jSo f i) = 1 then jGa f n k (i + 1) else if jOpI f i n = 1 ∧ 0 ≤ jBcc f n i then jGa f n k (jBcc f n i) else i) else n
def jGap (f : Nat → Int32) (n i : Int) : Int := jGa f n ((n - i).toNat + 1) i
def jDt (f : Nat → Int32) (n i : Int) : Int := if jSo f i = 46 ∧ (i + 1 = n ∨ jBlk (jSo f (i + 1)) = 1 ∨ jOpI f (i + 1) n = 1) then 1 else 0
def jSx (f : Nat → Int32) (n : Int) : Nat → Int → Int
  | 0, _ => -1
  | k + 1, i => if i < n then (if jOpI f i n = 1 then (if jBcc f n i < 0 then -1 else jSx f n k (jBcc f n i)) else if jDt f n i = 1 then i + 1 else jSx f n k (i + 1)) else -1
def jSen (f : Nat → Int32) (n i : Int) : Int := jSx f n ((n - i).toNat + 1) i
/-- where a sentence ends, and the next one begins; how many there are -/
def jEn (f : Nat → Int32) (n i : Int) : Int := if jSen f n i < 0 then n else jSen f n i
def jPn (f : Nat → Int32) (n : Int) : Nat → Int → Int → Int
  | 0, _, c => c
  | k + 1, i, c => if i < n then (if c = 39 then 40 else jPn f n k (jGap f n (jEn f n i)) (c + 1)) else c
theorem jPn_s {f : Nat → Int32} {n i c : Int} {k : Nat} (hk : 0 < k) : jPn f n k i c = if i < n then (if c = 39 then 40 else jPn f n (k - 1) (jGap f n (jEn f n i)) (c + 1)) else c := by
  cases k with
  | zero => omega
  | succ k => rfl
theorem jPn_m {f : Nat → Int32} {n i i1 c c1 : Int} {k : Nat} (hk : 0 < k) (hi : i < n) (hc : c ≠ 39) (e : i1 = jGap f n (jEn f n i)) (ec : c1 = c + 1) : jPn f n (k - 1) i1 c1 = jPn f n k i c := by rw [jPn_s hk, if_pos hi, if_neg hc, e, ec]
theorem jPn_o {f : Nat → Int32} {n i c r : Int} {k : Nat} (hk : 0 < k) (hi : n ≤ i) (e : r = c) : r = jPn f n k i c := by rw [jPn_s hk, if_neg (by omega), e]
def jPar (f : Nat → Int32) (n : Int) : Int := jPn f n ((n - jGap f n 0).toNat + 2) (jGap f n 0) 0
theorem jSrt.up {b e : Nat → Int32} {s u v : Int} (h : jSrt b e s u) (hv : u ≤ v) : jSrt b e s v := fun k h0 h1 => by
  obtain ⟨a1, a2, a3, a4⟩ := h k h0 h1
  exact ⟨a1, a2, by omega, a4⟩
theorem jSrt.app {b e b1 e1 : Nat → Int32} {s m i x u : Int} (h : jSrt b e s i) (hb : jUpd 40 b b1 s i) (he : jUpd 40 e e1 s x) (h0 : 0 ≤ s) (h40 : s < 40) (hi : 0 ≤ i) (hx : i ≤ x) (hu : x ≤ u) (hm : m = s + 1) : jSrt b1 e1 m u := fun k q0 q1 => by
  by_cases q : k = s
  · rw [q, hb.1, he.1]; exact ⟨hi, hx, hu, fun w => by omega⟩
  · obtain ⟨a1, a2, a3, a4⟩ := h k q0 (by omega)
    rw [hb.2 k q0 (by omega) q, he.2 k q0 (by omega) q]
    refine ⟨a1, a2, by omega, fun w => ?_⟩
    by_cases q2 : k + 1 = s
    · rw [q2, hb.1]; exact a3
    · rw [hb.2 (k + 1) (by omega) (by omega) q2]; exact a4 (by omega)
theorem jUpd.two {n : Int} {f g h : Nat → Int32} {i v w : Int} (h1 : jUpd n f g i v) (h2 : jUpd n g h i w) : jUpd n f h i w := ⟨h2.1, fun j q0 q1 q2 => (h2.2 j q0 q1 q2).trans (h1.2 j q0 q1 q2)⟩
end
section
-- the documents of the reference: their sentences are in order (an invariant with a footprint; x: the document that is being changed)
abbrev jFd : List (Nat × Nat) := [(14, 4), (14, 5), (14, 6), (14, 7), (14, 9), (190, 0), (191, 0)]
theorem jf.ag14 {D : va_G} {G : jT} {H H1 : Heap} {a i : Nat} {v : Value} (hA : jAg D G jFd H H1) (ha : G a = some (14, 0)) (hi : jFd.contains (14, i) = true) (h : jf D 14 a i v H) : jf D 14 a i v H1 := hA.1 a 14 0 i v ha hi h
theorem jD14.ag {dC : Nat → ClassId} {dI : Nat → Nat → Nat} {ca : Nat → ClassId} {G : jT} {a yb ye : Nat} {H H1 : Heap} (h : jD14 dC dI ca G a yb ye H) (ha : G a = some (14, 0)) (hA : jAg (dC, dI) G jFd H H1) : jD14 dC dI ca G a yb ye H1 := by
  obtain ⟨fb, fe, ps, pz, pc, g1, g2, g3, g4, g5⟩ := h
  refine ⟨fb, fe, ps, pz, pc, g1, g2, fun q hq => ?_, fun q hq => ?_, g5⟩
  · obtain ⟨q1, q2⟩ := g3 q hq
    refine ⟨q1, ?_⟩
    simp only [List.mem_cons, List.not_mem_nil, or_false] at hq
    rcases hq with rfl | rfl | rfl | rfl | rfl <;> exact jf.ag14 hA ha rfl q2
  · obtain ⟨q1, q2, q3, q4⟩ := g4 q hq
    refine ⟨q1, q2, q3, q4.kept ?_⟩
    simp only [List.mem_cons, List.not_mem_nil, or_false] at hq
    rcases hq with rfl | rfl
    · exact hA.2 _ _ _ q1 q2 q3 rfl
    · exact hA.2 _ _ _ q1 q2 q3 rfl
theorem jDX.ag {dC : Nat → ClassId} {dI : Nat → Nat → Nat} {ca : Nat → ClassId} {G : jT} {x : Option Nat} {H H1 : Heap} (hA : jAg (dC, dI) G jFd H H1) (h : jDX dC dI ca G x H) : jDX dC dI ca G x H1 := by
  obtain ⟨Yb, Ye, h1, h2, h3, h4⟩ := h
  exact ⟨Yb, Ye, fun a ha => ⟨jf.ag14 hA ha rfl (h1 a ha).1, jf.ag14 hA ha rfl (h1 a ha).2⟩, h2, h3, fun a ha hx => (h4 a ha hx).ag ha hA⟩
end
section
-- invariants with a footprint, as a walk carries them: contents of reference arrays, one field of all documents, the sentences of all documents
/-- the sentences of a document that is no worker's: x is told, old or now, or a closed one -/
theorem jPu.num {sn ck fs : Nat → Int32} {fd fo : Nat → Option Nat} {dc : Int} {ol nw td : Nat} {x : Nat} {v : Int32} (h : jPu sn ck fd fo fs dc ol nw td) (hx : x = ol ∨ x = nw ∨ x = td) : jPu (jUn sn x v) ck fd fo fs dc ol nw td := by
  obtain ⟨g0, g1, g2, g3⟩ := h
  have hne : ∀ i a, i < 3 → fd i = some a → a ≠ x := fun i a hi ha e => by
    obtain ⟨k1, k2, k3⟩ := g0 i hi
    subst e
    rcases hx with rfl | rfl | rfl
    · exact k1 ha
    · exact k2 ha
    · exact k3 ha
  refine ⟨g0, g1, fun i a hi ha => ?_, fun w hw => ?_⟩
  · rw [jUn_n _ _ (hne i a hi ha)]; exact g2 i a hi ha
  · rcases g3 w hw with k | ⟨d, a, k1, k2, k3, k4, k5⟩
    · exact Or.inl k
    · exact Or.inr ⟨d, a, k1, k2, k3, k4, by rw [jUn_n _ _ (hne d a k2 k3)]; exact k5⟩
section J15
variable {p : Program} {l : Launch} {e : Env} {R : Room} {s : State} {m : MethodId} {args : Array Value} {below : List Frame} {meth : Method} {c : Code} {H : Heap} {locs : List Loc} {cells slots : Nat} {Q : State → Prop}
variable {cc : ByteArray} {pc : Nat} {ls : Array Slot} {rest : List Value} {dC : Nat → ClassId} {dI : Nat → Nat → Nat} {ca : Nat → ClassId} {B : jF} {base : Nat} {G0 G : jT} {E : List (Nat × Nat)} {H0 : Heap} {zc zs : Nat} {L : List jPin} {M : List jCt} {I : List jIv} {a k n i N : Nat} {cA : ClassId} {tys : List (ClassId × FieldType)} {C own : String} {T : u_T} {index : Nat}
end J15
end
section
-- texts whose bytes are known: charAt, isText and member as functions
def jStrF (base a n : Nat) (f : Nat → Int32) (U : State) (H : Heap) : Prop := va_O "java/lang/String" a (jA base) U H ∧ va_OF "java/lang/String" "coder" "B" (.int 0) a (jA base) U H ∧ ∃ v : Nat, va_OF "java/lang/String" "value" "[B" (.ref v) a (jA base) U H ∧ va_T .byte v n (fun j => .int (f j)) (jA base) U H
theorem jStrF.moved {base a n : Nat} {f : Nat → Int32} {u U : State} {H : Heap} (hvm : u.vm.Alike U.vm) (h : jStrF base a n f u H) : jStrF base a n f U H := by
  obtain ⟨h1, h2, v, h3, h4⟩ := h
  exact ⟨h1.moved hvm, h2.moved hvm, v, h3.moved hvm, h4.moved hvm⟩
theorem jStrF.kept {base a n : Nat} {f : Nat → Int32} {U : State} {H H1 : Heap} (h : jStrF base a n f U H) (hq : ∀ a : Nat, a < H.size → ¬ jA base a → H1[a]? = H[a]?) : jStrF base a n f U H1 := by
  obtain ⟨h1, h2, v, h3, h4⟩ := h
  exact ⟨h1.kept hq, h2.kept hq, v, h3.kept hq, h4.kept hq⟩
theorem jStrF.str {base a n : Nat} {f : Nat → Int32} {U : State} {H : Heap} (h : jStrF base a n f U H) : jStr base a n U H := by
  obtain ⟨h1, h2, v, h3, h4⟩ := h
  exact ⟨h1, h2, v, _, h3, h4⟩
theorem jStrT.F {base a n : Nat} {tx : String} {U : State} {H : Heap} (h : jStrT base a tx U H) (hn : tx.length = n) : jStrF base a n (jChT tx) U H := by
  subst hn
  obtain ⟨h1, h2, v, h3, h4⟩ := h
  exact ⟨h1, h2, v, h3, h4⟩
def jCv (x : Int32) : Int32 := ((x &&& 255).toUInt32 % 65536).toInt32
set_option maxHeartbeats 4000000 in
set_option maxRecDepth 20000 in
theorem eJ1_charAt_3b067 (l : Launch) (dC : Nat → ClassId) (dI : Nat → Nat → Nat) (ca : Nat → ClassId) (base : Nat) (H0 : Heap) (h0 n : Nat) (f : Nat → Int32) (a1 : Int32) : Met l yJ1_charAt_3b067 (jw yJ1_charAt_3b067 cJ1_charAt_3b067 2 (some .char)) ({ frames := 2, cells := 0, slots := 0, locals := 80 }) (va_Pc [.ref h0, .int a1] (fun U => U.heap = H0 ∧ va_T .byte h0 n (fun j => .int (f j)) (jA base) U H0 ∧ jG dC dI ca base U ∧ (n < 2147483648 ∧ 0 ≤ a1.toInt ∧ a1.toInt < n))) (vp_Si (fun r => r = jCv (f a1.toInt.toNat))) 0 0 (fun _ => False) := by
  refine Met.ofW (cc := cJ1_charAt_3b067) (maxL := 2) (ret := (some .char)) (by decide) rfl ?_
  intro p e s m args below meth c s₁ B hml hv
  obtain ⟨rfl, hH0, hsa_h0, hG, hp1, hp2, hp3⟩ := hv
  have hK := hG.1
  have hx := B.exec
  have hb := B.bytes
  have hr := B.returns
  have hts := atoms_spec (ws := (jw yJ1_charAt_3b067 cJ1_charAt_3b067 2 (some .char))) B.pre
  have htw : ∀ w ∈ jWl, w.before _ s = true := fun w h => hts w (List.mem_cons_of_mem _ h)
  have hown : s.vm.findClass RJ1 = some m.cls := findClass_of_methodNamed B.named
  have hlocks := B.notSynchronized
  obtain ⟨Q, hQ⟩ : ∃ Q, Q = MQ below (vp_Si (fun r => r = jCv (f a1.toInt.toNat))) ([.ref h0, .int a1] : List Value).toArray s 0 0 (fun _ => False) := ⟨_, rfl⟩
  rw [← hQ]
  have hl := lv_entry ([.ref h0, .int a1]) (n := 2) (Nat.le_of_ble_eq_true rfl)
  rw [lg_entry_eq]
  generalize (lg_sl ([.ref h0, .int a1]) ++ List.replicate (2 - (lg_sl ([.ref h0, .int a1])).length) Slot.unset).toArray = ls at hl ⊢
  have hl : lv_has ls 2 [(0, .ref h0), (1, .int a1)] := hl
  generalize hR : (headSpec (jw yJ1_charAt_3b067 cJ1_charAt_3b067 2 (some .char)) ({ frames := 2, cells := 0, slots := 0, locals := 80 })).room = R
  subst hH0
  have hS : va_S (jA base) s.heap s.heap [] := va_S.rf
  have hk0 : (0 : Int32).toInt = 0 := by decide
  have hk1 : (1 : Int32).toInt = 1 := by decide
  have hk255 : (255 : Int32).toInt = 255 := by decide
  refine lv_iload_n hx hb dJ1_charAt_3b067_0 rfl (lv_at hl 1 rfl) ?_
  refine lv_aload_n hx hb dJ1_charAt_3b067_1 rfl (lv_at hl 0 rfl) ?_
  refine va_tlen hx hb hsa_h0 hS (v := Int32.ofNat n) rfl dJ1_charAt_3b067_2 ?_
  refine lv_topi (fun z_1 ez_1 => ?_)
  have hz_1 : z_1.toInt = n := by rw [ez_1]; exact jb_nat (by omega)
  refine va_csv (W.runS (As := [.int a1, .int z_1]) (rest := []) ⟨hx, hb, hml, hown, hts⟩ (wJ0_checkIndex_df160 l dC dI ca base s.heap a1 z_1) (va_cwS 2 hts (jgS (jWr_6 _ (List.mem_of_getElem? (i := 12) rfl)) (jWr_6 _ (List.mem_of_getElem? (i := 13) rfl)) (jWr_5 _ (List.mem_of_getElem? (i := 15) rfl)) (jWr_6 _ (List.mem_of_getElem? (i := 14) rfl))) rfl rfl rfl (by decide +kernel) ⟨by rw [← hR]; exact Nat.le_of_ble_eq_true rfl, by rw [← hR]; exact Nat.le_of_ble_eq_true rfl⟩) ⟨fun a U g mk q => by obtain ⟨q0, q1, qK, q9⟩ := q; exact ⟨q0, q1, jG.calling g mk a qK, q9⟩, fun U hU hW => ⟨rfl, hU, hG.step hW hU hS, by first | trivial | omega | (constructor <;> omega)⟩⟩ rfl rfl hl.1 rfl (lv_room (Nat.le_of_ble_eq_true rfl)) dJ1_charAt_3b067_3 ⟨Nat.zero_le _, Nat.zero_le _⟩) (fun _ => ?_)
  refine lv_aload_n hx hb dJ1_charAt_3b067_6 rfl (lv_at hl 0 rfl) ?_
  refine lv_iload_n hx hb dJ1_charAt_3b067_7 rfl (lv_at hl 1 rfl) ?_
  refine va_tb hx hb hsa_h0 hS (jb_in (rfl) (by omega) (by omega)) rfl dJ1_charAt_3b067_8 ?_
  refine lv_topi (fun z_3 ez_3 => ?_)
  refine lv_sipush (v := 255) hx hb dJ1_charAt_3b067_9 (by decide) ?_
  refine lv_iand hx hb dJ1_charAt_3b067_12 ?_
  refine lv_topi (fun z_4 ez_4 => ?_)
  have hz_4 : 0 ≤ z_4.toInt ∧ z_4.toInt ≤ 255 := by rw [ez_4]; exact jb_and z_3 (m := 255) (k := 8) (by decide) (by decide)
  refine lv_i2c hx hb dJ1_charAt_3b067_13 rfl ?_
  refine lv_topi (fun z_5 ez_5 => ?_)
  rw [hQ]
  exact W.zret (v := z_5) hx hb hr (by rw [ez_5]; exact pk_nc _) (fun t ht hW => ⟨z_5, rfl, by show z_5 = jCv (f a1.toInt.toNat); rw [← jb_cl (x := a1) rfl (by omega), ez_5, ez_4, ez_3]; rfl, ht⟩) (fun _ h => nomatch h) dJ1_charAt_3b067_14
set_option maxHeartbeats 4000000 in
set_option maxRecDepth 20000 in
theorem eJ0_charAt_5068e (l : Launch) (dC : Nat → ClassId) (dI : Nat → Nat → Nat) (ca : Nat → ClassId) (base : Nat) (H0 : Heap) (h0 n : Nat) (f : Nat → Int32) (a1 : Int32) : Met l yJ0_charAt_5068e (jw yJ0_charAt_5068e cJ0_charAt_5068e 2 (some .char)) ({ frames := 3, cells := 0, slots := 0, locals := 120 }) (va_Pc [.ref h0, .int a1] (fun U => U.heap = H0 ∧ jStrF base h0 n f U H0 ∧ jG dC dI ca base U ∧ (n < 2147483648 ∧ 0 ≤ a1.toInt ∧ a1.toInt < n))) (vp_Si (fun r => r = jCv (f a1.toInt.toNat))) 0 0 (fun _ => False) := by
  refine Met.ofW (cc := cJ0_charAt_5068e) (maxL := 2) (ret := (some .char)) (by decide) rfl ?_
  intro p e s m args below meth c s₁ B hml hv
  obtain ⟨rfl, hH0, hsF, hG, hp1, hp2, hp3⟩ := hv
  have hstr_h0 := hsF.str
  have hK := hG.1
  have hx := B.exec
  have hb := B.bytes
  have hr := B.returns
  have hts := atoms_spec (ws := (jw yJ0_charAt_5068e cJ0_charAt_5068e 2 (some .char))) B.pre
  have htw : ∀ w ∈ jWl, w.before _ s = true := fun w h => hts w (List.mem_cons_of_mem _ h)
  have hown : s.vm.findClass RJ0 = some m.cls := findClass_of_methodNamed B.named
  have hlocks := B.notSynchronized
  obtain ⟨Q, hQ⟩ : ∃ Q, Q = MQ below (vp_Si (fun r => r = jCv (f a1.toInt.toNat))) ([.ref h0, .int a1] : List Value).toArray s 0 0 (fun _ => False) := ⟨_, rfl⟩
  rw [← hQ]
  have hl := lv_entry ([.ref h0, .int a1]) (n := 2) (Nat.le_of_ble_eq_true rfl)
  rw [lg_entry_eq]
  generalize (lg_sl ([.ref h0, .int a1]) ++ List.replicate (2 - (lg_sl ([.ref h0, .int a1])).length) Slot.unset).toArray = ls at hl ⊢
  have hl : lv_has ls 2 [(0, .ref h0), (1, .int a1)] := hl
  generalize hR : (headSpec (jw yJ0_charAt_5068e cJ0_charAt_5068e 2 (some .char)) ({ frames := 3, cells := 0, slots := 0, locals := 120 })).room = R
  subst hH0
  have hS : va_S (jA base) s.heap s.heap [] := va_S.rf
  have hk0 : (0 : Int32).toInt = 0 := by decide
  have hk1 : (1 : Int32).toInt = 1 := by decide
  refine lv_aload_n hx hb dJ0_charAt_5068e_0 rfl (lv_at hl 0 rfl) ?_
  refine vp_callSi (W.runV (As := []) (rest := []) ⟨hx, hb, hml, hown, hts⟩ (wJ0_isLatin1_aae02 l dC dI ca base s.heap h0 n) (cwV 0 hts (jgV (jWr_6 _ (List.mem_of_getElem? (i := 4) rfl)) (jWr_6 _ (List.mem_of_getElem? (i := 5) rfl)) (jWr_6 _ (List.mem_of_getElem? (i := 6) rfl)) (jWr_5 _ (List.mem_of_getElem? (i := 15) rfl)) (jWr_6 _ (List.mem_of_getElem? (i := 7) rfl))) rfl rfl rfl (by decide +kernel) ⟨by rw [← hR]; exact Nat.le_of_ble_eq_true rfl, by rw [← hR]; exact Nat.le_of_ble_eq_true rfl⟩) ⟨fun a U g mk q => by obtain ⟨q0, q1, q2, qK, q9⟩ := q; exact ⟨q0, q1, (q2.moved (Vm.Alike.refl U.vm)), jG.calling g mk a qK, q9⟩, jStr_recv hstr_h0 hS, fun U hU hW => ⟨rfl, hU, (hstr_h0.moved hW.alike).kept hS.2.1, hG.step hW hU hS, by omega⟩⟩ rfl rfl hl.1 rfl (lv_room (Nat.le_of_ble_eq_true rfl)) dJ0_charAt_5068e_1 ⟨Nat.zero_le _, Nat.zero_le _⟩) (fun r_1 hr_1 => ?_)
  subst hr_1
  refine lv_if_eq (tgt := 16) hx hb dJ0_charAt_5068e_4 (by decide) (fun c_2 => ?_) (fun c_2 => ?_)
  · skip
    exact absurd c_2 (by decide)
  · skip
    refine lv_aload_n hx hb dJ0_charAt_5068e_7 rfl (lv_at hl 0 rfl) ?_
    obtain ⟨sv_3, gsv_3, hsv_3⟩ := hsF.2.2
    refine vk_getf hx hb gsv_3 hS hown (htw (.fieldLink RJ0 9 "java/lang/String" "value" "[B") (jWr_5 _ (List.mem_of_getElem? (i := 17) rfl))) (fun _ h9 => h9) dJ0_charAt_5068e_8 ?_
    refine lv_iload_n hx hb dJ0_charAt_5068e_11 rfl (lv_at hl 1 rfl) ?_
    refine vp_callSi (W.runS (As := [.ref sv_3, .int a1]) (rest := []) ⟨hx, hb, hml, hown, hts⟩ (eJ1_charAt_3b067 l dC dI ca base s.heap sv_3 n f a1) (va_cwS 2 hts (jgS (jWr_6 _ (List.mem_of_getElem? (i := 8) rfl)) (jWr_6 _ (List.mem_of_getElem? (i := 9) rfl)) (jWr_6 _ (List.mem_of_getElem? (i := 10) rfl)) (jWr_6 _ (List.mem_of_getElem? (i := 11) rfl))) rfl rfl rfl (by decide +kernel) ⟨by rw [← hR]; exact Nat.le_of_ble_eq_true rfl, by rw [← hR]; exact Nat.le_of_ble_eq_true rfl⟩) ⟨fun a U g mk q => by obtain ⟨q0, q1, q2, qK, q9⟩ := q; exact ⟨q0, q1, (q2.moved (Vm.Alike.refl U.vm)), jG.calling g mk a qK, q9⟩, fun U hU hW => ⟨rfl, hU, (hsv_3.moved hW.alike).kept hS.2.1, hG.step hW hU hS, ⟨by omega, by omega, by omega⟩⟩⟩ rfl rfl hl.1 rfl (lv_room (Nat.le_of_ble_eq_true rfl)) dJ0_charAt_5068e_12 ⟨Nat.zero_le _, Nat.zero_le _⟩) (fun r_4 hr_4 => ?_)
    rw [hQ]
    exact W.zret (v := r_4) hx hb hr (by rw [hr_4]; exact jb_nch (jb_char _).1 (jb_char _).2) (fun t ht hW => ⟨r_4, rfl, hr_4, ht⟩) (fun _ h => nomatch h) dJ0_charAt_5068e_15
end
section
-- the workers of a document that has changed; a document that is opened; closed
def jPv (sn ck : Nat → Int32) (fd fo : Nat → Option Nat) (fs : Nat → Int32) (dc : Int) (ol nw td : Nat) (x : Nat) (st k : Int) : Prop := (∀ i, i < 3 → fd i ≠ some ol ∧ fd i ≠ some nw ∧ fd i ≠ some td) ∧ (∀ i j, i < 3 → j < 3 → fd i = fd j → i = j) ∧ (∀ i a, i < 3 → fd i = some a → (ck a).toInt ≤ (sn a).toInt) ∧ (st ≤ (sn x).toInt ∧ (ck x).toInt ≤ st) ∧ ∀ w, w < 2 → fo w = none ∨ ∃ (d a : Nat), (d : Int) < dc ∧ d < 3 ∧ fd d = some a ∧ fo w = some a ∧ ((fs w).toInt < (sn a).toInt ∨ (a = x ∧ k ≤ (w : Int)))
theorem jPv.null {sn ck fs : Nat → Int32} {fd fo fo' : Nat → Option Nat} {dc st k k1 : Int} {ol nw td x w : Nat} (h : jPv sn ck fd fo fs dc ol nw td x st k) (hv : fo' w = none) (ho : ∀ j, j < 2 → j ≠ w → fo' j = fo j) (hw : (w : Int) = k) (hk : k1 = k + 1) : jPv sn ck fd fo' fs dc ol nw td x st k1 := by
  obtain ⟨g0, g1, g2, g4, g3⟩ := h
  refine ⟨g0, g1, g2, g4, fun j hj => ?_⟩
  by_cases e : j = w
  · subst e; exact Or.inl hv
  · rw [ho j hj e]
    rcases g3 j hj with q | ⟨d, a, k1, k2, k3, k4, k5⟩
    · exact Or.inl q
    · exact Or.inr ⟨d, a, k1, k2, k3, k4, k5.imp id (fun q => ⟨q.1, by have := q.2; omega⟩)⟩
section J16
variable {p : Program} {l : Launch} {e : Env} {R : Room} {s : State} {m : MethodId} {args : Array Value} {below : List Frame} {meth : Method} {c : Code} {H : Heap} {locs : List Loc} {cells slots : Nat} {Q : State → Prop}
variable {cc : ByteArray} {pc : Nat} {ls : Array Slot} {rest : List Value} {dC : Nat → ClassId} {dI : Nat → Nat → Nat} {ca : Nat → ClassId} {B : jF} {base : Nat} {G0 G : jT} {E : List (Nat × Nat)} {H0 : Heap} {zc zs : Nat} {L : List jPin} {M : List jCt} {I : List jIv} {a k n : Nat} {cA : ClassId} {tys : List (ClassId × FieldType)}
end J16
end
section
-- how a text is parted rests on its units alone
def jEqU (f g : Nat → Int32) (n : Int) : Prop := ∀ i : Int, 0 ≤ i → i < n → jSo f i = jSo g i
theorem jEqU.nil (f g : Nat → Int32) : jEqU f g 0 := fun i h0 h1 => by omega
theorem jEqU.up {f g : Nat → Int32} {m n : Int} (h : jEqU f g m) (hn : n ≤ m) : jEqU f g n := fun i h0 h1 => h i h0 (by omega)
end
section
-- a document is closed: it goes behind the open ones
def jNo (fo : Nat → Option Nat) (x : Nat) (k : Int) : Prop := ∀ w : Nat, (w : Int) < k → fo w ≠ some x
theorem jNo.null {fo fo' : Nat → Option Nat} {x w : Nat} {k k1 : Int} (h : jNo fo x k) (hv : fo' w = none) (ho : ∀ j, j < 2 → j ≠ w → fo' j = fo j) (hw : (w : Int) = k) (h2 : k < 2) (hk : k1 = k + 1) : jNo fo' x k1 := fun j hj => by
  by_cases e : j = w
  · subst e; rw [hv]; exact fun q => by cases q
  · rw [ho j (by omega) e]; exact h j (by omega)
def jSh (f0 f : Nat → Option Nat) (d k : Int) : Prop := ∀ i : Nat, i < 3 → f i = if d ≤ (i : Int) ∧ (i : Int) < k then f0 (i + 1) else f0 i
theorem jSh.nil (f0 : Nat → Option Nat) (d : Int) : jSh f0 f0 d d := fun i hi => by rw [if_neg (by omega)]
theorem jSh.step {f0 f g : Nat → Option Nat} {d k k1 : Int} {o : Option Nat} (h : jSh f0 f d k) (h0 : 0 ≤ k) (hd : d ≤ k) (h3 : k + 1 < 3) (ho : o = f (k + 1).toNat) (hv : g k.toNat = o) (hg : ∀ j, j < 3 → j ≠ k.toNat → g j = f j) (e : k1 = k + 1) : jSh f0 g d k1 := fun i hi => by
  by_cases q : i = k.toNat
  · have h1 := h (k + 1).toNat (by omega)
    rw [if_neg (by omega)] at h1
    rw [q, hv, ho, h1, if_pos (by omega), show (k + 1).toNat = k.toNat + 1 by omega]
  · rw [hg i hi q, h i hi]
    by_cases w : d ≤ (i : Int) ∧ (i : Int) < k
    · rw [if_pos w, if_pos (by omega)]
    · rw [if_neg w, if_neg (by omega)]
theorem jPu.cls {sn ck fs : Nat → Int32} {f0 f g fo : Nat → Option Nat} {dc dc1 d k k' : Int} {ol nw td x : Nat} (h : jPu sn ck f0 fo fs dc ol nw td) (hn : jNo fo x 2) (hs : jSh f0 f d k') (h0 : 0 ≤ d) (hdc : d < dc) (h3 : dc ≤ 3) (hx : f0 d.toNat = some x) (hkk : k' = k) (hk : k = dc - 1) (hv : g k.toNat = some x) (hg : ∀ j, j < 3 → j ≠ k.toNat → g j = f j) (e : dc1 = dc - 1) : jPu sn ck g fo fs dc1 ol nw td := by
  have hkk2 := hkk.symm
  subst hkk2
  obtain ⟨g0, g1, g2, g3⟩ := h
  have key : ∀ i : Nat, i < 3 → ∃ j : Nat, j < 3 ∧ g i = f0 j ∧ (((i : Int) = k ∧ (j : Int) = d) ∨ (d ≤ (i : Int) ∧ (i : Int) < k ∧ j = i + 1) ∨ (((i : Int) < d ∨ k < (i : Int)) ∧ j = i)) := fun i hi => by
    by_cases q : i = k.toNat
    · exact ⟨d.toNat, by omega, by rw [q, hv, hx], Or.inl ⟨by omega, by omega⟩⟩
    · rw [hg i hi q, hs i hi]
      by_cases w : d ≤ (i : Int) ∧ (i : Int) < k
      · rw [if_pos w]; exact ⟨i + 1, by omega, rfl, Or.inr (Or.inl ⟨w.1, w.2, rfl⟩)⟩
      · rw [if_neg w]; exact ⟨i, hi, rfl, Or.inr (Or.inr ⟨by omega, rfl⟩)⟩
  refine ⟨fun i hi => ?_, fun i j hi hj he => ?_, fun i a hi ha => ?_, fun w hw => ?_⟩
  · obtain ⟨j, k1, k2, -⟩ := key i hi
    rw [k2]; exact g0 j k1
  · obtain ⟨i1, a1, a2, a3⟩ := key i hi
    obtain ⟨j1, b1, b2, b3⟩ := key j hj
    have := g1 i1 j1 a1 b1 (by rw [← a2, ← b2]; exact he)
    omega
  · obtain ⟨j, k1, k2, -⟩ := key i hi
    rw [k2] at ha; exact g2 j a k1 ha
  · rcases g3 w hw with q | ⟨j, a, k1, k2, k3, k4, k5⟩
    · exact Or.inl q
    · have hja : (j : Int) ≠ d := fun q => by
        have e1 : j = d.toNat := by omega
        rw [e1, hx] at k3
        exact hn w (by omega) (by rw [k4, k3])
      by_cases c : (j : Int) < d
      · obtain ⟨j1, b1, b2, b3⟩ := key j k2
        exact Or.inr ⟨j, a, by omega, k2, by rw [b2, show j1 = j by omega]; exact k3, k4, k5⟩
      · obtain ⟨j1, b1, b2, b3⟩ := key (j - 1) (by omega)
        exact Or.inr ⟨j - 1, a, by omega, by omega, by rw [b2, show j1 = j by omega]; exact k3, k4, k5⟩
end
section
-- what a method writes of one object only: the others of its kind keep their fields
def jOw (D : va_G) (G : jT) (k r : Nat) (H0 H : Heap) : Prop := ∀ a n i v, a ≠ r → G a = some (k, n) → jf D k a i v H0 → jf D k a i v H
theorem jOw.rf {D : va_G} {G : jT} {k r : Nat} {H : Heap} : jOw D G k r H H := fun _ _ _ _ _ _ h => h
theorem jOw.tr {D : va_G} {G G1 : jT} {k r : Nat} {H0 H H1 : Heap} (h : jOw D G k r H0 H) (hle : jLe G G1) (h1 : jOw D G1 k r H H1) : jOw D G k r H0 H1 := fun a n i v hne ha hf => h1 a n i v hne (hle _ _ ha) (h a n i v hne ha hf)
theorem jOw.put {D : va_G} {G : jT} {k r : Nat} {H0 H H1 : Heap} (h : jOw D G k r H0 H) (hr : ∀ q, q ≠ r → H1[q]? = H[q]?) : jOw D G k r H0 H1 := fun a n i v hne ha hf => (h a n i v hne ha hf).kept (hr a hne)
/-- no new object of these kinds -/
def jNk (ks : List Nat) (G G1 : jT) : Prop := ∀ a k n, G1 a = some (k, n) → ks.contains k = true → G a = some (k, n)
theorem jNk.rf {ks : List Nat} {G : jT} : jNk ks G G := fun _ _ _ h _ => h
theorem jNk.tr {ks : List Nat} {G G1 G2 : jT} (h : jNk ks G G1) (h1 : jNk ks G1 G2) : jNk ks G G2 := fun a k n ha hk => h a k n (h1 a k n ha hk) hk
theorem jNk.sub {ks ks1 : List Nat} {G G1 : jT} (h : jNk ks G G1) (hs : ks1.all (fun k => ks.contains k) = true) : jNk ks1 G G1 := fun a k n ha hk => h a k n ha (List.all_eq_true.mp hs k (List.contains_iff_mem.mp hk))
theorem jNk.new {ks : List Nat} {G : jT} {x k n : Nat} (hk : ks.contains k = false) : jNk ks G (va_up G x (some (k, n))) := fun a k1 n1 ha h1 => by
  by_cases e : a = x
  · subst e
    simp only [va_up, if_pos] at ha
    have e1 := (Prod.mk.inj (Option.some.inj ha)).1
    rw [← e1, hk] at h1; cases h1
  · rw [va_up_ne _ _ e] at ha; exact ha
section J19
variable {p : Program} {l : Launch} {e : Env} {R : Room} {s : State} {m : MethodId} {args : Array Value} {below : List Frame} {meth : Method} {c : Code} {H : Heap} {locs : List Loc} {cells slots : Nat} {Q : State → Prop}
variable {cc : ByteArray} {pc : Nat} {ls : Array Slot} {rest : List Value} {dC : Nat → ClassId} {dI : Nat → Nat → Nat} {ca : Nat → ClassId} {B : jF} {base : Nat} {G0 G : jT} {E : List (Nat × Nat)} {H0 : Heap} {zc zs : Nat} {L : List jPin} {M : List jCt} {I : List jIv} {a k n i index N : Nat} {tys : List (ClassId × FieldType)} {own C : String} {T : u_T}
end J19
end
section
-- more cells: what is known stays known (a call that makes cells; none of them is a document of the reference)
theorem jAg.low {D : va_G} {G G1 : jT} {F : List (Nat × Nat)} {H H1 : Heap} (hle : jLe G G1) (h : jAg D G1 F H H1) : jAg D G F H H1 := ⟨fun a k n i v ha => h.1 a k n i v (hle _ _ ha), fun a k n ha => h.2 a k n (hle _ _ ha)⟩
/-- no new document -/
def jN14 (G G1 : jT) : Prop := ∀ a, G1 a = some (14, 0) → G a = some (14, 0)
theorem jN14.rf {G : jT} : jN14 G G := fun _ h => h
theorem jN14.tr {G G1 G2 : jT} (h : jN14 G G1) (h1 : jN14 G1 G2) : jN14 G G2 := fun a ha => h a (h1 a ha)
theorem jN14.new {G : jT} {x k n : Nat} (hk : k ≠ 14) : jN14 G (va_up G x (some (k, n))) := fun a ha => by
  by_cases e : a = x
  · subst e
    simp only [va_up, if_pos] at ha
    exact absurd (Prod.mk.inj (Option.some.inj ha)).1 hk
  · rw [va_up_ne _ _ e] at ha; exact ha
end
section
-- bits: what masks, shifts and or leave
theorem ji_toInt (x : Int32) : x.toInt = if 2 * x.toBitVec.toNat < 2 ^ 32 then (x.toBitVec.toNat : Int) else (x.toBitVec.toNat : Int) - (2 ^ 32 : Nat) := by
  show x.toBitVec.toInt = _
  rw [BitVec.toInt_eq_toNat_cond]
theorem jb_and15 (x : Int32) : (x &&& 15).toInt = x.toInt % 16 := by
  have h := pk_and x (m := 15) 4 (by decide)
  have hb := x.toBitVec.isLt
  have hx := ji_toInt x
  rw [h, nI_toInt (by omega), hx]
  split <;> omega
theorem jN_of {x : Int32} (h : 0 ≤ x.toInt) : ∃ n : Nat, n < 2 ^ 31 ∧ x = nI n ∧ x.toInt = n := by
  have hb := x.toBitVec.isLt
  have hx := ji_toInt x
  have h2 : 2 * x.toBitVec.toNat < 2 ^ 32 := by
    by_cases q : 2 * x.toBitVec.toNat < 2 ^ 32
    · exact q
    · rw [if_neg q] at hx; omega
  rw [if_pos h2] at hx
  exact ⟨x.toBitVec.toNat, by omega, Int32.toBitVec_inj.mp (by show _ = BitVec.ofNat 32 _; simp), hx⟩
theorem jN_or {n m : Nat} (hn : n < 2 ^ 31) (hm : m < 2 ^ 31) : nI n ||| nI m = nI (n ||| m) := by
  apply Int32.toBitVec_inj.mp
  rw [Int32.toBitVec_or]
  apply BitVec.eq_of_toNat_eq
  show ((BitVec.ofNat 32 n) ||| (BitVec.ofNat 32 m)).toNat = (BitVec.ofNat 32 (n ||| m)).toNat
  have h1 : n ||| m < 2 ^ 31 := Nat.or_lt_two_pow hn hm
  rw [BitVec.toNat_or, BitVec.toNat_ofNat, BitVec.toNat_ofNat, BitVec.toNat_ofNat, Nat.mod_eq_of_lt (by omega), Nat.mod_eq_of_lt (by omega), Nat.mod_eq_of_lt (by omega)]
theorem jb_shl {x s z : Int32} (k : Nat) (e : z = x <<< (s &&& 31)) (hs : ((s &&& 31).toBitVec.smod 32).toNat = k) (hx : 0 ≤ x.toInt) (h : x.toInt * ((2 ^ k : Nat) : Int) < 2147483648) : z.toInt = x.toInt * ((2 ^ k : Nat) : Int) := by
  obtain ⟨n, hn, ex, ex2⟩ := jN_of hx
  rw [ex2] at h ⊢
  have h3 : ((n * 2 ^ k : Nat) : Int) = (n : Int) * ((2 ^ k : Nat) : Int) := Int.natCast_mul n (2 ^ k)
  rw [← h3] at h ⊢
  have h2 : n * 2 ^ k < 2147483648 := by omega
  rw [e, ex, pk_shlN _ k hs (by omega), nI_toInt (by omega)]
theorem jb_shlc {x s z : Int32} (k : Nat) (c : Int) (e : z = x <<< (s &&& 31)) (hs : ((s &&& 31).toBitVec.smod 32).toNat = k) (hc : ((2 ^ k : Nat) : Int) = c) (hx : 0 ≤ x.toInt) (h : x.toInt * c < 2147483648) : z.toInt = x.toInt * c := by
  subst hc
  exact jb_shl k e hs hx h
end
section
def jPw (m : Nat) : Prop := ∃ k, k ≤ 16 ∧ m = 16 * 2 ^ k
theorem jPw.le {m : Nat} (h : jPw m) : 16 ≤ m ∧ m ≤ 1048576 := by
  obtain ⟨k, hk, rfl⟩ := h
  have h1 : 2 ^ k ≤ 2 ^ 16 := Nat.pow_le_pow_right (by decide) hk
  have h2 : 0 < 2 ^ k := Nat.two_pow_pos k
  have h3 : (2 : Nat) ^ 16 = 65536 := by decide
  omega
theorem jPw.cg {n m : Nat} (h : jPw n) (e : n = m) : jPw m := e ▸ h
def jBkd (n : Nat) : Nat := if n = 4000 then 197 else 196
def jBr (n : Nat) (G : jT) : Value → Prop := fun v => ∃ (x m : Nat), v = .ref x ∧ G x = some (jBkd n, m) ∧ 16 ≤ m ∧ m ≤ 1048576 ∧ (n = 0 → jPw m) ∧ (n = 0 ∨ m = n)
theorem jBr.mk7 {x : Nat} {G : jT} (hg : G x = some (197, 4000)) : jBr 4000 G (.ref x) := ⟨x, 4000, rfl, by rw [jBkd, if_pos rfl]; exact hg, by decide, by decide, fun h => by omega, Or.inr rfl⟩
end
section
-- new objects: raw while they are made, typed when they are whole
def jFx : List (Value → Prop) → List Value → Prop
  | [], _ => True
  | _ :: _, [] => False
  | p :: P, v :: fs => p v ∧ jFx P fs
theorem jFx.at : ∀ (P : List (Value → Prop)) (fs : List Value), jFx P fs → ∀ (i : Nat) (p : Value → Prop), P[i]? = some p → p (vp_V fs i)
  | [], _, _, i, p, hp => by simp at hp
  | q :: P, [], h, i, p, hp => by simp [jFx] at h
  | q :: P, v :: fs, h, i, p, hp => by
    obtain ⟨h1, h2⟩ := h
    cases i with
    | zero =>
      have e : q = p := by simpa using hp
      rw [← e]; exact h1
    | succ j =>
      have e : P[j]? = some p := by simpa using hp
      exact jFx.at P fs h2 j p e
/-- the cells that were there are as they were, and have the kinds that they had -/
def jKe (G0 G : jT) (H0 H : Heap) : Prop := (∀ q, q < H0.size → H[q]? = H0[q]?) ∧ ∀ q t, q < H0.size → G q = some t → G0 q = some t
/-- the same, but for one -/
def jKx (r : Nat) (G0 G : jT) (H0 H : Heap) : Prop := (∀ q, q < H0.size → q ≠ r → H[q]? = H0[q]?) ∧ ∀ q t, q < H0.size → q ≠ r → G q = some t → G0 q = some t
theorem jKe.rf {G : jT} {H : Heap} : jKe G G H H := ⟨fun _ _ => rfl, fun _ _ _ h => h⟩
theorem jKx.rf {r : Nat} {G : jT} {H : Heap} : jKx r G G H H := ⟨fun _ _ _ => rfl, fun _ _ _ _ h => h⟩
theorem jLtz {H0 H : Heap} {q : Nat} (h : q < H0.size) (e : H[q]? = H0[q]?) : q < H.size := by
  rw [Array.getElem?_eq_getElem h] at e
  exact (Array.getElem?_eq_some_iff.mp e).1
theorem jKe.tr {G0 G G1 : jT} {H0 H H1 : Heap} (h : jKe G0 G H0 H) (h1 : jKe G G1 H H1) : jKe G0 G1 H0 H1 :=
  ⟨fun q hq => (h1.1 q (jLtz hq (h.1 q hq))).trans (h.1 q hq), fun q t hq hg => h.2 q t hq (h1.2 q t (jLtz hq (h.1 q hq)) hg)⟩
theorem jKx.tr {r : Nat} {G0 G G1 : jT} {H0 H H1 : Heap} (h : jKx r G0 G H0 H) (h1 : jKe G G1 H H1) : jKx r G0 G1 H0 H1 :=
  ⟨fun q hq hn => (h1.1 q (jLtz hq (h.1 q hq hn))).trans (h.1 q hq hn), fun q t hq hn hg => h.2 q t hq hn (h1.2 q t (jLtz hq (h.1 q hq hn)) hg)⟩
/-- an inner constructor, whose object came later -/
theorem jKx.in {r a : Nat} {G0 G G1 : jT} {H0 H H1 : Heap} (h : jKx r G0 G H0 H) (h1 : jKx a G G1 H H1) (ha : H0.size ≤ a) : jKx r G0 G1 H0 H1 :=
  ⟨fun q hq hn => (h1.1 q (jLtz hq (h.1 q hq hn)) (by omega)).trans (h.1 q hq hn), fun q t hq hn hg => h.2 q t hq hn (h1.2 q t (jLtz hq (h.1 q hq hn)) (by omega) hg)⟩
theorem jKe.in {a : Nat} {G0 G G1 : jT} {H0 H H1 : Heap} (h : jKe G0 G H0 H) (h1 : jKx a G G1 H H1) (ha : H0.size ≤ a) : jKe G0 G1 H0 H1 :=
  ⟨fun q hq => (h1.1 q (jLtz hq (h.1 q hq)) (by omega)).trans (h.1 q hq), fun q t hq hg => h.2 q t hq (h1.2 q t (jLtz hq (h.1 q hq)) (by omega) hg)⟩
theorem jKx.put {r : Nat} {G0 G : jT} {H0 H H1 : Heap} (h : jKx r G0 G H0 H) (hr : ∀ q, q ≠ r → H1[q]? = H[q]?) : jKx r G0 G H0 H1 := ⟨fun q hq hn => (hr q hn).trans (h.1 q hq hn), h.2⟩
theorem jKe.new {G : jT} {H H1 : Heap} {t : Option (Nat × Nat)} (hfr : ∀ q, q < H.size → H1[q]? = H[q]?) : jKe G (va_up G H.size t) H H1 := ⟨hfr, fun q t hq hg => by rw [va_up_ne _ _ (Nat.ne_of_lt hq)] at hg; exact hg⟩
section J20
variable {p : Program} {l : Launch} {e : Env} {R : Room} {s : State} {m : MethodId} {args : Array Value} {below : List Frame} {meth : Method} {c : Code} {H : Heap} {locs : List Loc} {cells slots : Nat} {Q : State → Prop}
variable {cc : ByteArray} {pc : Nat} {ls : Array Slot} {rest : List Value} {dC : Nat → ClassId} {dI : Nat → Nat → Nat} {ca : Nat → ClassId} {B : jF} {base : Nat} {G0 G : jT} {E : List (Nat × Nat)} {H0 : Heap} {zc zs : Nat} {L : List jPin} {M : List jCt} {I : List jIv} {a k n i index N : Nat} {tys : List (ClassId × FieldType)} {own C : String} {T : u_T} {fs : List Value}
theorem jX.oth {B : jF} {base : Nat} {G : jT} {H H1 : Heap} (h : jX B base G [] H) (hB : jBok B) (hk : ∀ b t, G b = some t → H1[b]? = H[b]?) (hsz : H.size ≤ H1.size) : jX B base G [] H1 :=
  ⟨fun b k n hb h1 hx => hB.1 k n G b H H1 (fun q hq => by
    rcases hq with e | ⟨i, e⟩
    · rw [e]; exact hk b _ hb
    · exact hk q _ e) (h.1 b k n hb h1 hx), fun b t hb => ⟨(h.2 b t hb).1, Nat.lt_of_lt_of_le (h.2 b t hb).2 hsz⟩⟩
theorem jSt.oth (hh : jSt (dC, dI) B base G0 G E H0 zc zs L M I H locs) (hB : jBok B) {H1 : Heap} {locs1 : List Loc} {wc ws : Nat} (hk : ∀ b t, G b = some t → H1[b]? = H[b]?) (hS : va_S (jA base) H0 H1 locs1) (hsz : H.size ≤ H1.size) (hz : H1.size ≤ H.size + wc) (ht : jTot H1 ≤ jTot H + ws) : jSt (dC, dI) B base G0 G E H0 (zc + wc) (zs + ws) L M I H1 locs1 := by
  obtain ⟨h1, h2, h3, h4, h5, h6, h7, h8, h9⟩ := hh
  refine ⟨hS, h2.oth hB hk hsz, fun q hq => ?_, ⟨fun b kb nb ib v hb he hf => (h4.1 b kb nb ib v hb he hf).kept (hk b _ (h5 _ _ hb)), fun b kb nb hb g1 g2 he => (hk b _ (h5 _ _ hb)).trans (h4.2 b kb nb hb g1 g2 he)⟩, h5, by omega, by omega, fun q hq => ?_, h9.ag (fun q hq => ⟨fun b kb nb ib v hb _ hf => hf.kept (hk b _ hb), fun b kb nb hb _ _ _ => hk b _ hb⟩)⟩
  · obtain ⟨⟨nq, g1⟩, g2⟩ := h3 q hq
    exact ⟨⟨nq, g1⟩, g2.kept (hk _ _ g1)⟩
  · obtain ⟨g1, g2, g3, g4⟩ := h8 q hq
    exact ⟨g1, g2, g3, g4.kept (hk _ _ g1)⟩
theorem jOb.of {F : Nat → jT → List (Value → Prop)} (hBk : ∀ n G a H, B k n G a H ↔ jOb (dC, dI) k N (F n G) a H) (hc : vwCl[k]? = some (C, T, N)) (h : va_at (dC, dI) vwCl (a, .inr (k, fs)) H) (hF : jFx (F n G) fs) : B k n G a H := by
  obtain ⟨r, h1, h2⟩ := h
  have hr : r = (C, T, N) := Option.some.inj (h1.symm.trans hc)
  subst hr
  exact (hBk _ _ _ _).mpr ⟨vp_V fs, h2, fun i p hp => jFx.at _ _ hF i p hp⟩
end J20
-- all growing Bytes hold no more than they have room for
def jYb (dC : Nat → ClassId) (dI : Nat → Nat → Nat) (G : jT) (H : Heap) : Prop := ∀ a, G a = some (2, 0) → ∃ (c : Int32) (x m : Nat), jf (dC, dI) 2 a 1 (.int c) H ∧ jf (dC, dI) 2 a 0 (.ref x) H ∧ G x = some (196, m) ∧ c.toInt ≤ m ∧ m ≤ 1048576
theorem jYb.put {dC : Nat → ClassId} {dI : Nat → Nat → Nat} {G : jT} {r n : Nat} {H H1 : Heap} (h : jYb dC dI G H) (hr : ∀ q, q ≠ r → H1[q]? = H[q]?) (hx : G r = some (2, n)) (hp : n = 0 → ∃ (c : Int32) (x m : Nat), jf (dC, dI) 2 r 1 (.int c) H1 ∧ jf (dC, dI) 2 r 0 (.ref x) H1 ∧ G x = some (196, m) ∧ c.toInt ≤ m ∧ m ≤ 1048576) : jYb dC dI G H1 := fun a ha => by
  by_cases e : a = r
  · subst e
    rw [hx] at ha
    exact hp (Prod.mk.inj (Option.some.inj ha)).2
  · obtain ⟨c, x, m, g1, g2, g3, g4⟩ := h a ha
    exact ⟨c, x, m, g1.kept (hr a e), g2.kept (hr a e), g3, g4⟩
end
section
-- formulas whose nodes may be -1
def jLe5 (f : Nat → Int32) (r : Int) : Prop := ∀ j : Int, 0 ≤ j → j < r → jSo f j % 16 = 5
theorem jLe5.step {f : Nat → Int32} {r r1 : Int} (h : jLe5 f r) (h1 : r1 = r + 1) (h2 : jSo f r % 16 = 5) : jLe5 f r1 := fun j a b => by
  by_cases e : j = r
  · subst e; exact h2
  · exact h j a (by omega)
/-- the number of leading quantifiers -/
def jLd (f : Nat → Int32) (n : Nat) (r : Int) : Prop := jLe5 f r ∧ (r = n ∨ r = 12 ∨ jSo f r % 16 ≠ 5)
theorem jLd.uniq {f : Nat → Int32} {n : Nat} {r r1 : Int} (h : jLd f n r) (g : jLd f n r1) (h0 : 0 ≤ r) (h1 : r ≤ n) (h2 : r ≤ 12) (g0 : 0 ≤ r1) (g1 : r1 ≤ n) (g2 : r1 ≤ 12) : r = r1 := by
  rcases Int.lt_trichotomy r r1 with q | q | q
  · have := g.1 r h0 q
    have := h.2
    omega
  · exact q
  · have := h.1 r1 g0 q
    have := g.2
    omega
end
section
-- arrays of references that get their kind when they are filled; arrays of arrays of ints
def jK5 (dC : Nat → ClassId) (dI : Nat → Nat → Nat) (ca : Nat → ClassId) (U : State) : Prop := va_K (dC, dI) vwCl [(ca 8, .array .int)] U ∧ (∃ kA : Class, U.vm.classes[ca 8]? = some kA ∧ kA.kind = .array (ca 1) (.array .int)) ∧ (∃ k1 : Class, U.vm.classes[ca 1]? = some k1) ∧ (Cond.arrayOver (.array .int)).before #[] U = true
def jQk (k most : Nat) (G : jT) : Option Nat → Prop := fun o => ∃ x j, o = some x ∧ G x = some (k, j) ∧ j ≤ most
section J22
variable {p : Program} {l : Launch} {e : Env} {R : Room} {s : State} {m : MethodId} {args : Array Value} {below : List Frame} {meth : Method} {c : Code} {H : Heap} {locs : List Loc} {cells slots : Nat} {Q : State → Prop}
variable {cc : ByteArray} {pc : Nat} {ls : Array Slot} {rest : List Value} {dC : Nat → ClassId} {dI : Nat → Nat → Nat} {ca : Nat → ClassId} {B : jF} {base : Nat} {G0 G : jT} {E : List (Nat × Nat)} {H0 : Heap} {zc zs : Nat} {L : List jPin} {M : List jCt} {I : List jIv} {a k n index : Nat} {tys : List (ClassId × FieldType)} {own C : String} {cA : ClassId} {f : Nat → Option Nat}
end J22
end
section
def jQg (G : jT) : Option Nat → Prop := fun o => ∃ x m, o = some x ∧ G x = some (5, m) ∧ m % 10 = 1
end
section
-- what a method writes of some objects only
def jOl (D : va_G) (G : jT) (k : Nat) (rs : List Nat) (H0 H : Heap) : Prop := ∀ a n i v, a ∉ rs → G a = some (k, n) → jf D k a i v H0 → jf D k a i v H
theorem jOl.rf {D : va_G} {G : jT} {k : Nat} {rs : List Nat} {H : Heap} : jOl D G k rs H H := fun _ _ _ _ _ _ h => h
theorem jOl.put {D : va_G} {G : jT} {k r : Nat} {rs : List Nat} {H0 H H1 : Heap} (h : jOl D G k rs H0 H) (hr : ∀ q, q ≠ r → H1[q]? = H[q]?) (hm : r ∈ rs) : jOl D G k rs H0 H1 := fun a n i v hne ha hf => (h a n i v hne ha hf).kept (hr a (fun q => hne (by rw [q]; exact hm)))
end
section
-- how many digits a number has, as they are written one by one
def jTb (g v : Int) : Prop := (g = 10 ∧ v = 1000000000) ∨ (g = 9 ∧ v = 100000000) ∨ (g = 8 ∧ v = 10000000) ∨ (g = 7 ∧ v = 1000000) ∨ (g = 6 ∧ v = 100000) ∨ (g = 5 ∧ v = 10000) ∨ (g = 4 ∧ v = 1000) ∨ (g = 3 ∧ v = 100) ∨ (g = 2 ∧ v = 10) ∨ (g = 1 ∧ v = 1) ∨ (g = 0 ∧ v = 0)
def jDj (a p g : Int) : Prop := (10 ≤ a ∨ p = 0 ∨ p + g ≤ 1) ∧ (100 ≤ a ∨ p = 0 ∨ p + g ≤ 2) ∧ (1000 ≤ a ∨ p = 0 ∨ p + g ≤ 3) ∧ (10000 ≤ a ∨ p = 0 ∨ p + g ≤ 4) ∧ (100000 ≤ a ∨ p = 0 ∨ p + g ≤ 5) ∧ (1000000 ≤ a ∨ p = 0 ∨ p + g ≤ 6) ∧ (10000000 ≤ a ∨ p = 0 ∨ p + g ≤ 7)
def jNdg (a v g p b : Int) : Prop := jTb g v ∧ ((b = 0 ∧ p = 0) ∨ (b = 1 ∧ 1 ≤ p)) ∧ (b = 0 ∨ g = 0 ∨ 10 * v ≤ a) ∧ jDj a p g
def jNp (a pc n : Int) : Prop := (a < 10 ∧ pc + 1 ≤ n) ∨ (a < 100 ∧ pc + 2 ≤ n) ∨ (a < 1000 ∧ pc + 3 ≤ n) ∨ (a < 10000 ∧ pc + 4 ≤ n) ∨ (a < 100000 ∧ pc + 5 ≤ n) ∨ (a < 1000000 ∧ pc + 6 ≤ n) ∨ (a < 10000000 ∧ pc + 7 ≤ n)
theorem jNdg.start {a : Int} : jNdg a 1000000000 10 0 0 := ⟨Or.inl ⟨rfl, rfl⟩, Or.inl ⟨rfl, rfl⟩, Or.inl rfl, Or.inr (Or.inl rfl), Or.inr (Or.inl rfl), Or.inr (Or.inl rfl), Or.inr (Or.inl rfl), Or.inr (Or.inl rfl), Or.inr (Or.inl rfl), Or.inr (Or.inl rfl)⟩
theorem jTb.step {g v : Int} (h : jTb g v) (hv : 0 < v) : jTb (g - 1) (v / 10) ∧ 1 ≤ g := by
  unfold jTb at h ⊢
  rcases h with ⟨rfl, rfl⟩ | ⟨rfl, rfl⟩ | ⟨rfl, rfl⟩ | ⟨rfl, rfl⟩ | ⟨rfl, rfl⟩ | ⟨rfl, rfl⟩ | ⟨rfl, rfl⟩ | ⟨rfl, rfl⟩ | ⟨rfl, rfl⟩ | ⟨rfl, rfl⟩ | ⟨rfl, rfl⟩ <;> first | omega | (exact ⟨by decide, by decide⟩)
/-- what a digit that is written tells of the number -/
theorem jNdg.ge {a v g p b : Int} (h : jNdg a v g p b) (hv : 0 < v) (hc : b = 1 ∨ 1 ≤ a / v ∨ v = 1) : v = 1 ∨ v ≤ a := by
  obtain ⟨h1, h2, h3, -⟩ := h
  rcases hc with hc | hc | hc
  · rcases h3 with h3 | h3 | h3
    · omega
    · unfold jTb at h1; omega
    · omega
  · right
    have h4 : v * 1 ≤ v * (a / v) := Int.mul_le_mul_of_nonneg_left hc (by omega)
    have h5 : v * (a / v) ≤ a := Int.mul_ediv_self_le (by omega)
    omega
  · left; exact hc
theorem jD1 {a p g : Int} {A J : Int} (h : A ≤ a ∨ p = 0 ∨ p + g ≤ J) (hp : p = 0 → A ≤ a ∨ g ≤ J) : A ≤ a ∨ p + 1 = 0 ∨ p + 1 + (g - 1) ≤ J := by
  rcases h with h | h | h
  · exact Or.inl h
  · rcases hp h with q | q
    · exact Or.inl q
    · right; right; omega
  · right; right; omega
theorem jTb.g1 {g v a : Int} (h : jTb g v) (hv : 0 < v) (ha : v = 1 ∨ v ≤ a) : (10 ≤ a ∨ g ≤ 1) ∧ (100 ≤ a ∨ g ≤ 2) ∧ (1000 ≤ a ∨ g ≤ 3) ∧ (10000 ≤ a ∨ g ≤ 4) ∧ (100000 ≤ a ∨ g ≤ 5) ∧ (1000000 ≤ a ∨ g ≤ 6) ∧ (10000000 ≤ a ∨ g ≤ 7) := by
  unfold jTb at h
  rcases h with ⟨rfl, rfl⟩ | ⟨rfl, rfl⟩ | ⟨rfl, rfl⟩ | ⟨rfl, rfl⟩ | ⟨rfl, rfl⟩ | ⟨rfl, rfl⟩ | ⟨rfl, rfl⟩ | ⟨rfl, rfl⟩ | ⟨rfl, rfl⟩ | ⟨rfl, rfl⟩ | ⟨rfl, rfl⟩ <;> first | omega | (refine ⟨?_, ?_, ?_, ?_, ?_, ?_, ?_⟩ <;> omega)
theorem jTb.ten {g v a : Int} (h : jTb g v) (hv : 0 < v) (ha : v = 1 ∨ v ≤ a) : g - 1 = 0 ∨ 10 * (v / 10) ≤ a := by
  unfold jTb at h
  rcases h with ⟨rfl, rfl⟩ | ⟨rfl, rfl⟩ | ⟨rfl, rfl⟩ | ⟨rfl, rfl⟩ | ⟨rfl, rfl⟩ | ⟨rfl, rfl⟩ | ⟨rfl, rfl⟩ | ⟨rfl, rfl⟩ | ⟨rfl, rfl⟩ | ⟨rfl, rfl⟩ | ⟨rfl, rfl⟩ <;> omega
theorem jNdg.put {a v g p b p1 b1 v1 : Int} (h : jNdg a v g p b) (hv : 0 < v) (hc : b = 1 ∨ 1 ≤ a / v ∨ v = 1) (hp : p1 = p + 1) (hb : b1 = 1) (hv1 : v1 = v / 10) : jNdg a v1 (g - 1) p1 b1 := by
  subst hp hb hv1
  have hge := h.ge hv hc
  obtain ⟨h1, h2, h3, d1, d2, d3, d4, d5, d6, d7⟩ := h
  obtain ⟨e1, e2, e3, e4, e5, e6, e7⟩ := h1.g1 hv hge
  exact ⟨(h1.step hv).1, Or.inr ⟨rfl, by rcases h2 with h2 | h2 <;> omega⟩, Or.inr (h1.ten hv hge), jD1 d1 (fun _ => e1), jD1 d2 (fun _ => e2), jD1 d3 (fun _ => e3), jD1 d4 (fun _ => e4), jD1 d5 (fun _ => e5), jD1 d6 (fun _ => e6), jD1 d7 (fun _ => e7)⟩
theorem jNdg.no {a v g p b p1 b1 v1 : Int} (h : jNdg a v g p b) (hv : 0 < v) (hb : b = 0) (hp : p1 = p) (hb1 : b1 = 0) (hv1 : v1 = v / 10) : jNdg a v1 (g - 1) p1 b1 := by
  subst hp hb1 hv1
  obtain ⟨h1, h2, h3, -⟩ := h
  have e : p1 = 0 := by rcases h2 with h2 | h2 <;> omega
  exact ⟨(h1.step hv).1, Or.inl ⟨rfl, e⟩, Or.inl rfl, Or.inr (Or.inl e), Or.inr (Or.inl e), Or.inr (Or.inl e), Or.inr (Or.inl e), Or.inr (Or.inl e), Or.inr (Or.inl e), Or.inr (Or.inl e)⟩
theorem jNdg.lt {a v g p b pc n : Int} (h : jNdg a v g p b) (hv : 0 < v) (hc : b = 1 ∨ 1 ≤ a / v ∨ v = 1) (hn : jNp a pc n) : pc + p < n := by
  have hge := h.ge hv hc
  obtain ⟨h1, h2, h3, d1, d2, d3, d4, d5, d6, d7⟩ := h
  obtain ⟨e1, e2, e3, e4, e5, e6, e7⟩ := h1.g1 hv hge
  have hg := (h1.step hv).2
  unfold jNp at hn
  rcases hn with hn | hn | hn | hn | hn | hn | hn
  · clear d2 d3 d4 d5 d6 d7 e2 e3 e4 e5 e6 e7; omega
  · clear d1 d3 d4 d5 d6 d7 e1 e3 e4 e5 e6 e7; omega
  · clear d1 d2 d4 d5 d6 d7 e1 e2 e4 e5 e6 e7; omega
  · clear d1 d2 d3 d5 d6 d7 e1 e2 e3 e5 e6 e7; omega
  · clear d1 d2 d3 d4 d6 d7 e1 e2 e3 e4 e6 e7; omega
  · clear d1 d2 d3 d4 d5 d7 e1 e2 e3 e4 e5 e7; omega
  · clear d1 d2 d3 d4 d5 d6 e1 e2 e3 e4 e5 e6; omega
theorem jNdg.end {a v g p b : Int} (h : jNdg a v g p b) (hv : v ≤ 0) : (10 ≤ a ∨ p ≤ 1) ∧ (100 ≤ a ∨ p ≤ 2) ∧ (1000 ≤ a ∨ p ≤ 3) ∧ (10000 ≤ a ∨ p ≤ 4) ∧ (100000 ≤ a ∨ p ≤ 5) ∧ (1000000 ≤ a ∨ p ≤ 6) ∧ (10000000 ≤ a ∨ p ≤ 7) := by
  obtain ⟨h1, h2, h3, d1, d2, d3, d4, d5, d6, d7⟩ := h
  have hg : g = 0 := by unfold jTb at h1; clear h2 h3 d1 d2 d3 d4 d5 d6 d7; omega
  clear h1 h2 h3
  subst hg
  refine ⟨?_, ?_, ?_, ?_, ?_, ?_, ?_⟩
  · clear d2 d3 d4 d5 d6 d7; omega
  · clear d1 d3 d4 d5 d6 d7; omega
  · clear d1 d2 d4 d5 d6 d7; omega
  · clear d1 d2 d3 d5 d6 d7; omega
  · clear d1 d2 d3 d4 d6 d7; omega
  · clear d1 d2 d3 d4 d5 d7; omega
  · clear d1 d2 d3 d4 d5 d6; omega
end
section
-- the digits of a number are counted
def jDc (c d : Int) : Prop := (d = 1 ∧ c < 10) ∨ (d = 2 ∧ c < 100) ∨ (d = 3 ∧ c < 1000) ∨ (d = 4 ∧ c < 10000) ∨ (d = 5 ∧ c < 100000) ∨ (d = 6 ∧ c < 1000000) ∨ (d = 7 ∧ c < 10000000)
def jDi (c v d : Int) : Prop := (d = 1 ∧ v = c) ∨ (d = 2 ∧ v = c / 10) ∨ (d = 3 ∧ v = c / 100) ∨ (d = 4 ∧ v = c / 1000) ∨ (d = 5 ∧ v = c / 10000) ∨ (d = 6 ∧ v = c / 100000) ∨ (d = 7 ∧ v = c / 1000000)
theorem jDi.start {c : Int} : jDi c c 1 := Or.inl ⟨rfl, rfl⟩
theorem jDi.step {c v d v1 d1 : Int} (h : jDi c v d) (h0 : 10 ≤ v) (hc : c ≤ 1048576) (e : v1 = v / 10) (e1 : d1 = d + 1) : jDi c v1 d1 := by
  subst e e1
  unfold jDi at h ⊢
  rcases h with ⟨rfl, rfl⟩ | ⟨rfl, rfl⟩ | ⟨rfl, rfl⟩ | ⟨rfl, rfl⟩ | ⟨rfl, rfl⟩ | ⟨rfl, rfl⟩ | ⟨rfl, rfl⟩
  · right; left; omega
  · right; right; left; omega
  · right; right; right; left; omega
  · right; right; right; right; left; omega
  · right; right; right; right; right; left; omega
  · right; right; right; right; right; right; omega
  · exfalso; omega
theorem jDi.end {c v d : Int} (h : jDi c v d) (h0 : v < 10) : jDc c d := by
  unfold jDi at h
  unfold jDc
  rcases h with ⟨rfl, rfl⟩ | ⟨rfl, rfl⟩ | ⟨rfl, rfl⟩ | ⟨rfl, rfl⟩ | ⟨rfl, rfl⟩ | ⟨rfl, rfl⟩ | ⟨rfl, rfl⟩
  · left; omega
  · right; left; omega
  · right; right; left; omega
  · right; right; right; left; omega
  · right; right; right; right; left; omega
  · right; right; right; right; right; left; omega
  · right; right; right; right; right; right; omega
theorem jDc.np {c d p n : Int} (h : jDc c d) (hn : p + d ≤ n) : jNp c p n := by
  unfold jDc at h
  unfold jNp
  rcases h with ⟨rfl, h⟩ | ⟨rfl, h⟩ | ⟨rfl, h⟩ | ⟨rfl, h⟩ | ⟨rfl, h⟩ | ⟨rfl, h⟩ | ⟨rfl, h⟩
  · left; omega
  · right; left; omega
  · right; right; left; omega
  · right; right; right; left; omega
  · right; right; right; right; left; omega
  · right; right; right; right; right; left; omega
  · right; right; right; right; right; right; omega
theorem jDc.end {c d p q : Int} (h : jDc c d) (h1 : 10 ≤ c ∨ q ≤ p + 1) (h2 : 100 ≤ c ∨ q ≤ p + 2) (h3 : 1000 ≤ c ∨ q ≤ p + 3) (h4 : 10000 ≤ c ∨ q ≤ p + 4) (h5 : 100000 ≤ c ∨ q ≤ p + 5) (h6 : 1000000 ≤ c ∨ q ≤ p + 6) (h7 : 10000000 ≤ c ∨ q ≤ p + 7) : q ≤ p + d := by
  unfold jDc at h
  rcases h with ⟨rfl, h⟩ | ⟨rfl, h⟩ | ⟨rfl, h⟩ | ⟨rfl, h⟩ | ⟨rfl, h⟩ | ⟨rfl, h⟩ | ⟨rfl, h⟩
  · clear h2 h3 h4 h5 h6 h7; omega
  · clear h1 h3 h4 h5 h6 h7; omega
  · clear h1 h2 h4 h5 h6 h7; omega
  · clear h1 h2 h3 h5 h6 h7; omega
  · clear h1 h2 h3 h4 h6 h7; omega
  · clear h1 h2 h3 h4 h5 h7; omega
  · clear h1 h2 h3 h4 h5 h6; omega
end
section
-- System.arraycopy of ints in a walk
section J21
variable {p : Program} {l : Launch} {e : Env} {R : Room} {s : State} {m : MethodId} {args : Array Value} {below : List Frame} {meth : Method} {c : Code} {H : Heap} {locs : List Loc} {cells slots : Nat} {Q : State → Prop}
variable {cc : ByteArray} {pc : Nat} {ls : Array Slot} {rest : List Value} {dC : Nat → ClassId} {dI : Nat → Nat → Nat} {ca : Nat → ClassId} {B : jF} {base : Nat} {G0 G : jT} {E : List (Nat × Nat)} {H0 : Heap} {zc zs : Nat} {L : List jPin} {M : List jCt} {I : List jIv} {a a0 k k0 n n0 index : Nat} {tys : List (ClassId × FieldType)} {own : String} {P P0 : Nat → Int32 → Prop} {cA : ClassId}
end J21
/-- an answer that is new -/
def jNwv (v : Value) (H0 : Heap) : Prop := ∃ x : Nat, v = .ref x ∧ H0.size ≤ x
theorem jNwv.le {x : Nat} {H0 : Heap} (h : jNwv (.ref x) H0) : H0.size ≤ x := by
  obtain ⟨y, e, h1⟩ := h
  cases e
  exact h1
end
section
-- an array of arrays gets its kind
theorem jAq.of {dC : Nat → ClassId} {dI : Nat → Nat → Nat} {B : jF} {k n a : Nat} {cA : ClassId} {P : jT → Option Nat → Prop} {G : jT} {H : Heap} {f : Nat → Option Nat} (hBk : ∀ n G a H, B k n G a H ↔ jAq (dC, dI) cA P n G a H) (h : va_at (dC, dI) vwCl (a, .inl (cA, n, .inr (.inr (.inr (.inr f))))) H) (hP : ∀ j, j < n → P G (f j)) : B k n G a H := (hBk _ _ _ _).mpr ⟨f, h, hP⟩
/-- the first elements are formulas -/
def jFq (G : jT) (f : Nat → Option Nat) (i : Int) : Prop := ∀ j : Nat, (j : Int) < i → jQk 280 80 G (f j)
theorem jFq.put {G : jT} {f : Nat → Option Nat} {i i1 x : Int} {v m : Nat} (h : jFq G f i) (hx : x = i) (hi : i1 = i + 1) (h0 : 0 ≤ i) (hv : G v = some (280, m)) (hm : m ≤ 80) : jFq G (va_up f x.toNat (some v)) i1 := fun j hj => by
  by_cases e : j = x.toNat
  · subst e
    simp only [va_up, if_pos]
    exact ⟨v, m, rfl, hv, hm⟩
  · rw [va_up_ne _ _ e]
    exact h j (by omega)
theorem jQk.up {k most : Nat} {G G1 : jT} {o : Option Nat} (h : jQk k most G o) (hle : jLe G G1) : jQk k most G1 o := by
  obtain ⟨x, j, h1, h2, h3⟩ := h
  exact ⟨x, j, h1, hle _ _ h2, h3⟩
theorem jFq.all {G G1 : jT} {f : Nat → Option Nat} {i : Int} {n : Nat} (h : jFq G f i) (hi : (n : Int) = i) (hle : jLe G G1) : ∀ j, j < n → jQk 280 80 G1 (f j) := fun j hj => (h j (by omega)).up hle
end
section
theorem jK5.moved {dC : Nat → ClassId} {dI : Nat → Nat → Nat} {ca : Nat → ClassId} {u U : State} (hvm : u.vm.Alike U.vm) (h : jK5 dC dI ca u) : jK5 dC dI ca U := by
  obtain ⟨h1, ⟨kA, a1, a2⟩, ⟨k1, b1⟩, h4⟩ := h
  obtain ⟨kA', c1, c2⟩ := hvm.2.2 _ _ a1
  obtain ⟨k1', d1, -⟩ := hvm.2.2 _ _ b1
  refine ⟨va_K.moved hvm h1, ⟨kA', c1, by rw [c2]; exact a2⟩, ⟨k1', d1⟩, ?_⟩
  obtain ⟨comp, cl, k, e1, e2, e3, e4, e5⟩ := arrayOverA_spec h4
  obtain ⟨k', hk', he⟩ := hvm.2.2 _ _ e3
  have f0 : (U.vm.classes.findIdx? fun (x : Class) => match x.kind with | .array component _ => component == comp | _ => false) = some cl := by
    rw [hvm.findIdx?_eq _ (fun _ => rfl)]; exact e2
  have f1 : U.vm.findClass (FieldType.array .int).toString = some comp := by rw [hvm.findClass]; exact e1
  have f2 : U.vm.findClass ("[" ++ (FieldType.array .int).toString) = some cl := by rw [hvm.findClass]; exact e5
  have f3 : k'.kind = .array comp (.array .int) := by rw [he]; exact e4
  unfold Cond.before Cond.holds
  simp only [Cond.value]
  rw [f1, Option.bind_some]
  refine (congrArg (fun o : Option Nat => (o.bind (fun c => (U.vm.classes[c]?).map fun (k : Class) => match k.kind with | .array _ ty => decide (ty = FieldType.array .int) && decide (U.vm.findClass ("[" ++ (FieldType.array .int).toString) = some c) | _ => false) == some true)) f0).trans ?_
  simp [hk', f3, f2]
end
section
-- what the kernel's walks need: raw arrays of ints, arrays whose last element is null, states, new goals
def jK6 (U : State) : Prop := va_AO "ProofServerModel$Document" U ∧ va_AO "ProofServer$Document" U ∧ va_AO "ProofServer$State" U ∧ va_AO "ProofServer$Goal" U
theorem jK6.moved {u U : State} (hvm : u.vm.Alike U.vm) (h : jK6 u) : jK6 U := ⟨va_AO.moved hvm h.1, va_AO.moved hvm h.2.1, va_AO.moved hvm h.2.2.1, va_AO.moved hvm h.2.2.2⟩
def jAqZ (D : va_G) (cA : ClassId) (n a : Nat) (H : Heap) : Prop := ∃ f : Nat → Option Nat, va_at D vwCl (a, .inl (cA, n, .inr (.inr (.inr (.inr f))))) H ∧ (0 < n → f (n - 1) = none)
section J30
variable {p : Program} {l : Launch} {e : Env} {R : Room} {s : State} {m : MethodId} {args : Array Value} {below : List Frame} {meth : Method} {c : Code} {H : Heap} {locs : List Loc} {cells slots : Nat} {Q : State → Prop}
variable {cc : ByteArray} {pc : Nat} {ls : Array Slot} {rest : List Value} {dC : Nat → ClassId} {dI : Nat → Nat → Nat} {ca : Nat → ClassId} {B : jF} {base : Nat} {G0 G : jT} {E : List (Nat × Nat)} {H0 : Heap} {zc zs : Nat} {L : List jPin} {M : List jCt} {I : List jIv} {a a0 k k0 n n0 index : Nat} {tys : List (ClassId × FieldType)} {own C : String} {cA : ClassId}
theorem jAr.of {P : Nat → Int32 → Prop} {f : Nat → Int32} (hBk : ∀ n G a H, B k n G a H ↔ jAr (dC, dI) cA P n a H) (h : va_at (dC, dI) vwCl (a, .inl (cA, n, .inl f)) H) (hP : ∀ j, j < n → P j (f j)) : B k n G a H := (hBk _ _ _ _).mpr ⟨f, h, hP⟩
theorem jAqZ.of {f : Nat → Option Nat} (hBk : ∀ n G a H, B k n G a H ↔ jAqZ (dC, dI) cA n a H) (h : va_at (dC, dI) vwCl (a, .inl (cA, n, .inr (.inr (.inr (.inr f))))) H) (hP : 0 < n → f (n - 1) = none) : B k n G a H := (hBk _ _ _ _).mpr ⟨f, h, hP⟩
end J30
def jFp (f : Nat → Int32) : Prop := ∀ j, -1 ≤ (f j).toInt
theorem jFp.put {f : Nat → Int32} {i : Nat} {v : Int32} (h : jFp f) (hv : -1 ≤ v.toInt) : jFp (upd f i v) := fun j => by
  unfold upd
  split
  · exact hv
  · exact h j
/-- the terms that are told lie in the source -/
def jTt (f g : Nat → Int32) (n : Nat) : Prop := ∀ l : Int, 0 ≤ l → l < 13 → 0 < jSo g l → jSo f l + jSo g l ≤ n
def jTbk (f g : Nat → Int32) (n : Nat) (b : Int) : Prop := ∀ l : Int, 0 ≤ l → l < b → jSo f l + jSo g l ≤ n
def jTa (g : Nat → Int32) (b : Int) : Prop := ∀ l : Int, 0 ≤ l → l < b → 0 < jSo g l
theorem jTt.tb {f g : Nat → Int32} {n : Nat} {b : Int} (h : jTt f g n) (hb : b ≤ 13) (ha : jTa g b) : jTbk f g n b := fun l h0 h1 => h l h0 (by omega) (ha l h0 h1)
theorem jTt.put {f g f1 g1 : Nat → Int32} {n : Nat} {x u w : Int} (h : jTt f g n) (hx : 0 ≤ x) (hx2 : x < 13) (hv : jSo f1 x = u) (ho : ∀ j, j < 13 → j ≠ x.toNat → f1 j = f j) (hv2 : jSo g1 x = w) (ho2 : ∀ j, j < 13 → j ≠ x.toNat → g1 j = g j) (hs : u + w ≤ n) : jTt f1 g1 n := fun l h0 h1 h2 => by
  by_cases e : l = x
  · subst e; rw [hv, hv2]; exact hs
  · have e1 : jSo f1 l = jSo f l := by unfold jSo; rw [ho l.toNat (by omega) (by omega)]
    have e2 : jSo g1 l = jSo g l := by unfold jSo; rw [ho2 l.toNat (by omega) (by omega)]
    rw [e2] at h2
    rw [e1, e2]
    exact h l h0 h1 h2
theorem jTbk.one {f g : Nat → Int32} {n : Nat} {u w : Int} (hv : jSo f 0 = u) (hw : jSo g 0 = w) (h : u + w ≤ n) : jTbk f g n 1 := fun l h0 h1 => by
  obtain rfl : l = 0 := by omega
  rw [hv, hw]; exact h
theorem jTa.cg {g : Nat → Int32} {b b1 : Int} (h : jTa g b) (hb : b1 ≤ b) : jTa g b1 := fun l h0 h1 => h l h0 (by omega)
def jZe (g : Nat → Int32) (n : Int) : Prop := ∀ l : Int, 0 ≤ l → l < n → jSo g l = 0
theorem jZe.step {g g1 : Nat → Int32} {i i1 : Int} {n : Nat} (h : jZe g i) (hi : i1 = i + 1) (h0 : 0 ≤ i) (hn : i < n) (hv : jSo g1 i = 0) (ho : ∀ j, j < n → j ≠ i.toNat → g1 j = g j) : jZe g1 i1 := fun l a b => by
  by_cases e : l = i
  · subst e; exact hv
  · have e1 : jSo g1 l = jSo g l := by unfold jSo; rw [ho l.toNat (by omega) (by omega)]
    rw [e1]; exact h l a (by omega)
/-- what matches tells, for the number of bound names of a rule -/
def jTf (ff : Nat → Int32) (n1 : Nat) (f g : Nat → Int32) (n : Nat) : Prop := ∀ b : Int, 0 ≤ b → b ≤ 12 → b ≤ n1 → jLd ff n1 b → jTbk f g n b
theorem jTf.of {ff : Nat → Int32} {n1 : Nat} {f g : Nat → Int32} {n : Nat} {b : Int} (h : jTt f g n) (ha : jTa g b) (hb0 : 0 ≤ b) (hb : b ≤ 12) (hb1 : b ≤ n1) (hl : jLd ff n1 b) : jTf ff n1 f g n := fun b' q0 q1 q2 q3 => by
  rw [jLd.uniq q3 hl q0 q2 q1 hb0 hb1 hb]
  exact h.tb (by omega) ha
theorem jTa.step {g : Nat → Int32} {b b1 : Int} (h : jTa g b) (hb : b1 = b + 1) (hv : 0 < jSo g b) : jTa g b1 := fun l h0 h1 => by
  by_cases e : l = b
  · subst e; exact hv
  · exact h l h0 (by omega)
def jNn0 (g : Nat → Int32) (n : Nat) : Prop := ∀ l : Int, 0 ≤ l → l < n → 0 ≤ jSo g l
def jNn1 (g : Nat → Int32) (n : Nat) : Prop := ∀ l : Int, 0 ≤ l → l < n → -1 ≤ jSo g l
def jW (f g : Nat → Int32) (b i : Int) : Int := if jSo f i % 16 = 10 ∧ jSo f i / 32768 < b then jSo g (jSo f i / 32768) else 1
def jPs (f g : Nat → Int32) (b i0 : Int) : Nat → Int
  | 0 => 0
  | k + 1 => jPs f g b i0 k + jW f g b (i0 + k)
def jPqk (f g : Nat → Int32) (b i0 i s : Int) : Prop := i0 ≤ i ∧ s = jPs f g b i0 (i - i0).toNat
theorem jPqk.step {f g : Nat → Int32} {b i0 i s i1 s1 : Int} (h : jPqk f g b i0 i s) (hi : i1 = i + 1) (hs : s1 = s + jW f g b i) : jPqk f g b i0 i1 s1 := by
  obtain ⟨h0, h2⟩ := h
  refine ⟨by omega, ?_⟩
  have e : (i1 - i0).toNat = (i - i0).toNat + 1 := by omega
  rw [e, hs, h2]
  show _ = jPs f g b i0 _ + jW f g b (i0 + ((i - i0).toNat : Nat))
  rw [show i0 + ((i - i0).toNat : Int) = i by omega]
theorem jPqk.one {f g : Nat → Int32} {b i0 i s i1 s1 : Int} (h : jPqk f g b i0 i s) (hi : i1 = i + 1) (h1 : jSo f i % 16 ≠ 10 ∨ b ≤ jSo f i / 32768) (hs : s1 = s + 1) : jPqk f g b i0 i1 s1 := h.step hi (by rw [hs]; unfold jW; rw [if_neg (by omega)])
theorem jPs.mono {f g : Nat → Int32} {b i0 e : Int} (hn : ∀ j, i0 ≤ j → j < e → 0 ≤ jW f g b j) (k : Nat) : ∀ m : Nat, k ≤ m → i0 + m ≤ e → jPs f g b i0 k ≤ jPs f g b i0 m
  | 0, h, _ => by rw [show k = 0 by omega]; exact Int.le_refl _
  | m + 1, h, h2 => by
    by_cases q : k = m + 1
    · rw [q]; exact Int.le_refl _
    · have h3 := jPs.mono hn k m (by omega) (by omega)
      have h4 := hn (i0 + m) (by omega) (by omega)
      show _ ≤ jPs f g b i0 m + jW f g b (i0 + m)
      omega
theorem jNn0.of {g : Nat → Int32} {n : Nat} (h : ∀ i, i < n → 0 ≤ (g i).toInt ∧ (g i).toInt ≤ 3000) : jNn0 g n := fun l h0 h1 => (h l.toNat (by omega)).1
theorem jNn1.of {g : Nat → Int32} {n : Nat} (h : ∀ i, i < n → -1 ≤ (g i).toInt) : jNn1 g n := fun l h0 h1 => h l.toNat (by omega)
-- all states have as many facts as names of facts
def jFrc (f : Nat → Option Nat) (c : Int) : Prop := ∀ i : Nat, i < 6 → (i : Int) < c → f i ≠ none
theorem jFrc.put {f f1 : Nat → Option Nat} {c c1 x : Int} {v : Nat} (h : jFrc f c) (hc : c1 = c + 1) (hx : x = c) (h0 : 0 ≤ c) (hv : f1 x.toNat = some v) (ho : ∀ j, j < 6 → j ≠ x.toNat → f1 j = f j) : jFrc f1 c1 := fun i h6 hi => by
  by_cases e : i = x.toNat
  · subst e; rw [hv]; exact fun q => by cases q
  · rw [ho i h6 e]; exact h i h6 (by omega)
def jGq (G : jT) (f : Nat → Option Nat) (i : Int) : Prop := ∀ j : Nat, (j : Int) < i → jQg G (f j)
theorem jGq.put {G : jT} {f : Nat → Option Nat} {i i1 x : Int} {v m : Nat} (h : jGq G f i) (hi : i1 = i + 1) (hx : x = i) (h0 : 0 ≤ i) (hg : G v = some (5, m)) (hm : m % 10 = 1) : jGq G (va_up f x.toNat (some v)) i1 := fun j hj => by
  subst hx
  by_cases e : j = x.toNat
  · subst e; exact ⟨v, m, by simp [va_up], hg, hm⟩
  · rw [va_up_ne _ _ e]; exact h j (by omega)
theorem jGq.all {G G1 : jT} {f : Nat → Option Nat} {i : Int} {n : Nat} (h : jGq G f i) (hn : (n : Int) ≤ i) (hle : jLe G G1) : ∀ j, j < n → jQg G1 (f j) := fun j hj => by
  obtain ⟨x, m, q1, q2, q3⟩ := h j (by omega)
  exact ⟨x, m, q1, hle _ _ q2, q3⟩
end
section
-- all cells but these stay
def jKl (rs : List Nat) (H0 H : Heap) : Prop := ∀ q : Nat, q ∉ rs → H[q]? = H0[q]?
theorem jKl.rf {rs : List Nat} {H : Heap} : jKl rs H H := fun _ _ => rfl
theorem jKl.put {rs : List Nat} {H0 H H1 : Heap} {a : Nat} (h : jKl rs H0 H) (hr : ∀ q : Nat, q ≠ a → H1[q]? = H[q]?) (ha : a ∈ rs) : jKl rs H0 H1 := fun q hq => (hr q (fun e => hq (e ▸ ha))).trans (h q hq)
theorem jKl.tr {rs rs1 : List Nat} {H0 H H1 : Heap} (h : jKl rs H0 H) (h1 : jKl rs1 H H1) (hs : ∀ q, q ∈ rs1 → q ∈ rs) : jKl rs H0 H1 := fun q hq => (h1 q (fun e => hq (hs q e))).trans (h q hq)
section J31
variable {p : Program} {l : Launch} {e : Env} {R : Room} {s : State} {m : MethodId} {args : Array Value} {below : List Frame} {meth : Method} {c : Code} {H : Heap} {locs : List Loc} {cells slots : Nat} {Q : State → Prop}
variable {cc : ByteArray} {pc : Nat} {ls : Array Slot} {rest : List Value} {dC : Nat → ClassId} {dI : Nat → Nat → Nat} {ca : Nat → ClassId} {B : jF} {base : Nat} {G0 G : jT} {E : List (Nat × Nat)} {H0 : Heap} {zc zs : Nat} {L : List jPin} {M : List jCt} {I : List jIv} {a k n : Nat} {tys : List (ClassId × FieldType)} {cA : ClassId}
end J31
end
section
-- the places where a term stands, counted as the scan goes
def jSaB (f : Nat → Int32) (n : Nat) (g : Nat → Int32) (m : Nat) (a b w : Int) : Bool := decide (0 ≤ a) && (decide (0 ≤ b) && (decide (a + w ≤ n) && (decide (b + w ≤ m) && (List.range w.toNat).all (fun j => decide (jSo f (a + (j : Int)) = jSo g (b + (j : Int)))))))
theorem jSaB.yes {f g : Nat → Int32} {n m : Nat} {a b w : Int} (h0 : 0 ≤ a) (h1 : 0 ≤ b) (h2 : a + w ≤ n) (h3 : b + w ≤ m) (h : ∀ j : Int, 0 ≤ j → j < w → jSo f (a + j) = jSo g (b + j)) : jSaB f n g m a b w = true := by
  unfold jSaB
  rw [decide_eq_true h0, decide_eq_true h1, decide_eq_true h2, decide_eq_true h3, Bool.true_and, Bool.true_and, Bool.true_and, Bool.true_and]
  rw [List.all_eq_true]
  intro j hj
  have hj1 := List.mem_range.mp hj
  exact decide_eq_true (h (j : Int) (by omega) (by omega))
theorem jSaB.in {f g : Nat → Int32} {n m : Nat} {a b w : Int} (h : jSaB f n g m a b w = true) : 0 ≤ a ∧ a + w ≤ n := by
  unfold jSaB at h
  rw [Bool.and_eq_true, Bool.and_eq_true, Bool.and_eq_true] at h
  exact ⟨of_decide_eq_true h.1, of_decide_eq_true h.2.2.1⟩
def jSq (f g : Nat → Int32) (a b i : Int) : Prop := ∀ j : Int, 0 ≤ j → j < i → jSo f (a + j) = jSo g (b + j)
theorem jSq.step {f g : Nat → Int32} {a b i i1 : Int} (h : jSq f g a b i) (hi : i1 = i + 1) (he : jSo f (a + i) = jSo g (b + i)) : jSq f g a b i1 := fun j h0 h1 => by
  by_cases e : j = i
  · subst e; exact he
  · exact h j h0 (by omega)
def jTc (S : Int → Bool) (w n : Int) : Nat → Int → Int
  | 0, _ => 0
  | k + 1, i => if n ≤ i then 0 else if S i = true then 1 + jTc S w n k (i + w) else jTc S w n k (i + 1)
def jTn (S : Int → Bool) (w n i : Int) : Int := jTc S w n (n - i).toNat i
theorem jTn.end {S : Int → Bool} {w n i : Int} (h : n ≤ i) : jTn S w n i = 0 := by
  unfold jTn
  rw [show (n - i).toNat = 0 by omega]
  rfl
abbrev jSp (f : Nat → Int32) (n : Nat) (g : Nat → Int32) (m : Nat) (w : Int) : Int → Bool := fun x => jSaB f n g m x 1 w
/-- the first pass: i is reached, c were found -/
def jR1 (f : Nat → Int32) (n : Nat) (g : Nat → Int32) (m : Nat) (w i c : Int) : Prop := 0 ≤ c ∧ c ≤ i ∧ i ≤ n ∧ c + jTn (jSp f n g m w) w n i = jTn (jSp f n g m w) w n 0
/-- how long what comes will be -/
def jRz (f : Nat → Int32) (n : Nat) (g : Nat → Int32) (m : Nat) (w b z : Int) : Prop := z = n + jTn (jSp f n g m w) w n 0 * (b - w)
theorem jR1.size {f g : Nat → Int32} {n m : Nat} {w i c b y d : Int} (h : jR1 f n g m w i c) (hi : n ≤ i) (hy : y = n) (hd : d = b - w) : jRz f n g m w b (y + c * d) := by
  obtain ⟨h1, h2, h3, h4⟩ := h
  rw [jTn.end hi, Int.add_zero] at h4
  unfold jRz
  rw [hy, h4, hd]
end
section
-- what stands below a place stays
def jKb (f g : Nat → Int32) (n : Int) : Prop := ∀ j : Int, 0 ≤ j → j < n → jSo g j = jSo f j
theorem jKb.rf {f : Nat → Int32} {n : Int} : jKb f f n := fun _ _ _ => rfl
theorem jKb.tr {f g h : Nat → Int32} {n m : Int} (h1 : jKb f g n) (h2 : jKb g h m) (hm : n ≤ m) : jKb f h n := fun j a b => (h2 j a (by omega)).trans (h1 j a b)
theorem jKb.put {f g : Nat → Int32} {n i : Int} {N : Nat} (hi : n ≤ i) (h0 : 0 ≤ n) (hN : i < N) (ho : ∀ j, j < N → j ≠ i.toNat → g j = f j) : jKb f g n := fun j a b => by
  unfold jSo
  rw [ho j.toNat (by omega) (by omega)]
theorem jKb.cg {f g h : Nat → Int32} {n : Int} (h1 : jKb f g n) (e : h = f) : jKb h g n := e ▸ h1
end
section
-- lists: arrays of Object, the interface's calls
def jLcs (C : String) (U : State) : Prop := va_Nw (.castable C "java/lang/Object") U ∧ va_Nw (.castable C C) U
def jFw (n d : String) (y : MethodName) (U : State) : Prop := va_Fw "java/util/ArrayList" ⟨"java/util/List", n, d⟩ y U
theorem jFw.moved {n d : String} {y : MethodName} {u U : State} (hvm : u.vm.Alike U.vm) (h : jFw n d y u) : jFw n d y U := va_Fw.moved ⟨show "java/util/List" ≠ "java/lang/invoke/MethodHandle" by decide, show "java/util/List" ≠ "java/lang/invoke/VarHandle" by decide⟩ hvm h
def jK7 (dC : Nat → ClassId) (dI : Nat → Nat → Nat) (ca : Nat → ClassId) (base : Nat) (U : State) : Prop :=
  va_K (dC, dI) vwCl [(ca 9, .object "java/lang/Object")] U ∧ va_AO "java/lang/Object" U ∧ (jLcs "ProofServer$Document" U ∧ jLcs "ProofServer$Request" U ∧ jLcs "ProofServer$State" U)
  ∧ va_Mi "[Ljava/lang/Object;" (dI 99 1) U ∧ va_Dc U ∧ (jFw "size" "()I" yJx4a65c_size_8abf5 U ∧ jFw "get" "(I)Ljava/lang/Object;" yJx4a65c_get_915e3 U ∧ jFw "add" "(Ljava/lang/Object;)Z" yJx4a65c_add_9ea2d U ∧ jFw "remove" "(I)Ljava/lang/Object;" yJx4a65c_remove_915e3 U)
  ∧ va_Z "java/util/ArrayList" "DEFAULTCAPACITY_EMPTY_ELEMENTDATA" "[Ljava/lang/Object;" (.ref (dI 99 0)) (jA base) U U.heap ∧ va_T (.object "java/lang/Object") (dI 99 0) 0 (fun _ => .null) (jA base) U U.heap
theorem jLcs.warm {C : String} {s U : State} (hW : s.WarmedH U.vm) (h : jLcs C s) : jLcs C U := ⟨va_Nw.warmC hW h.1, va_Nw.warmC hW h.2⟩
theorem jLcs.same {C : String} {s U : State} (hv : s.vm = U.vm) (h : jLcs C s) : jLcs C U := ⟨va_Nw.same rfl hv h.1, va_Nw.same rfl hv h.2⟩
theorem jK7.step {dC : Nat → ClassId} {dI : Nat → Nat → Nat} {ca : Nat → ClassId} {base : Nat} {s U : State} {H : Heap} {locs : List Loc} (h : jK7 dC dI ca base s) (hW : s.WarmedH U.vm) (hU : U.heap = H) (hS : va_S (jA base) s.heap H locs) : jK7 dC dI ca base U := by
  obtain ⟨h1, h2, h3, h4, h5, h8, h6, h7⟩ := h
  have hq : ∀ a : Nat, a < s.heap.size → ¬ jA base a → U.heap[a]? = s.heap[a]? := fun a ha hn => by rw [hU]; exact hS.2.1 a ha hn
  exact ⟨va_K.moved hW.alike h1, va_AO.moved hW.alike h2, ⟨h3.1.warm hW, h3.2.1.warm hW, h3.2.2.warm hW⟩, h4.moved hW.alike, h5.moved hW.alike, ⟨h8.1.moved hW.alike, h8.2.1.moved hW.alike, h8.2.2.1.moved hW.alike, h8.2.2.2.moved hW.alike⟩, (h6.moved hW.alike).kept hq, (h7.moved hW.alike).kept hq⟩
theorem jK7.calling {dC : Nat → ClassId} {dI : Nat → Nat → Nat} {ca : Nat → ClassId} {base : Nat} {U : State} (g : JFrame) (mk : MethodId) (a : Array Value) (h : jK7 dC dI ca base U) : jK7 dC dI ca base (U.calling g mk a) := by
  obtain ⟨h1, h2, h3, h4, h5, h8, h6, h7⟩ := h
  have hv : U.vm.Alike (U.calling g mk a).vm := Vm.Alike.refl U.vm
  exact ⟨va_K.moved hv h1, va_AO.moved hv h2, ⟨h3.1.same rfl, h3.2.1.same rfl, h3.2.2.same rfl⟩, h4.moved hv, h5.moved hv, ⟨h8.1.moved hv, h8.2.1.moved hv, h8.2.2.1.moved hv, h8.2.2.2.moved hv⟩, h6.moved hv, h7.moved hv⟩
section J32
variable {p : Program} {l : Launch} {e : Env} {R : Room} {s : State} {m : MethodId} {args : Array Value} {below : List Frame} {meth : Method} {c : Code} {H : Heap} {locs : List Loc} {cells slots : Nat} {Q : State → Prop}
variable {cc : ByteArray} {pc : Nat} {ls : Array Slot} {rest : List Value} {dC : Nat → ClassId} {dI : Nat → Nat → Nat} {ca : Nat → ClassId} {B : jF} {base : Nat} {G0 G : jT} {E : List (Nat × Nat)} {H0 : Heap} {zc zs : Nat} {L : List jPin} {M : List jCt} {I : List jIv} {a a0 k k0 n n0 index : Nat} {tys tys0 : List (ClassId × FieldType)} {own C CE : String} {cA : ClassId}
end J32
theorem jQn.up {k n : Nat} {G G1 : jT} {o : Option Nat} (h : jQn k n G o) (hle : jLe G G1) : jQn k n G1 o := by
  rcases h with h | ⟨x, h1, h2⟩
  · exact Or.inl h
  · exact Or.inr ⟨x, h1, hle _ _ h2⟩
end
section
-- what is known of all lists (o: the one that is open); k: as many there are
def jLb (c : Nat) : Int := if c = 1 then 3 else if c = 2 then 12 else 24
/-- what is told of the first list: its size, its elements -/
abbrev jWl9 := Int × (Nat → Option Nat)
def jWk (c : Nat) (w : jWl9) (z : Int) (f : Nat → Option Nat) : Prop := c = 1 → w.1 = z ∧ ∀ i : Nat, (i : Int) < z → f i = w.2 i
def jLo (dC : Nat → ClassId) (dI : Nat → Nat → Nat) (ca : Nat → ClassId) (G : jT) (w : jWl9) (a c : Nat) (H : Heap) : Prop := ∃ (z : Int32) (x : Nat), jf (dC, dI) 1 a 2 (.int z) H ∧ jf (dC, dI) 1 a 1 (.ref x) H ∧ (0 ≤ z.toInt ∧ z.toInt ≤ jLb c) ∧ ((x = dI 99 0 ∧ z.toInt = 0 ∧ (c = 1 → w.1 = 0)) ∨ ∃ (m : Nat) (f : Nat → Option Nat), G x = some (220 + c, m) ∧ (10 ≤ m ∧ m ≤ 40) ∧ z.toInt ≤ m ∧ jQc dC dI (ca 9) x m f H ∧ (∀ i : Nat, (i : Int) < z.toInt → f i ≠ none) ∧ jWk c w z.toInt f)
def jLs (dC : Nat → ClassId) (dI : Nat → Nat → Nat) (ca : Nat → ClassId) (G : jT) (k : Nat) (o : Option Nat) (w : jWl9) (H : Heap) : Prop := (∀ a b c, G a = some (1, c) → G b = some (1, c) → a = b) ∧ (∀ a c, G a = some (1, c) → 1 ≤ c ∧ c ≤ k ∧ c ≤ 3) ∧ ∀ a c, G a = some (1, c) → o ≠ some a → jLo dC dI ca G w a c H
section J33
variable {dC : Nat → ClassId} {dI : Nat → Nat → Nat} {ca : Nat → ClassId} {G G1 : jT} {H H1 : Heap} {a c k r x m n : Nat} {o : Option Nat} {ks : List Nat} {w wn : jWl9}
theorem jLo.up (h : jLo dC dI ca G w a c H) (hle : jLe G G1) : jLo dC dI ca G1 w a c H := by
  obtain ⟨z, x, h1, h2, h3, h4⟩ := h
  refine ⟨z, x, h1, h2, h3, ?_⟩
  rcases h4 with h4 | ⟨m, f, g1, g2⟩
  · exact Or.inl h4
  · exact Or.inr ⟨m, f, hle _ _ g1, g2⟩
theorem jLs.at (h : jLs dC dI ca G k none w H) (ha : G a = some (1, c)) : jLo dC dI ca G w a c H := h.2.2 a c ha (fun q => by cases q)
theorem jLo.cells (h : jLo dC dI ca G w a c H) (h1 : H1[a]? = H[a]?) (h2 : ∀ x m, G x = some (220 + c, m) → H1[x]? = H[x]?) : jLo dC dI ca G w a c H1 := by
  obtain ⟨z, x, q1, q2, q3, q4⟩ := h
  refine ⟨z, x, q1.kept h1, q2.kept h1, q3, ?_⟩
  rcases q4 with q4 | ⟨m, f, g1, g2, g3, g4, g5⟩
  · exact Or.inl q4
  · have hq1 : va_at (dC, dI) vwCl (x, .inl (ca 9, m, .inr (.inr (.inr (.inr f))))) H := g4
    exact Or.inr ⟨m, f, g1, g2, g3, va_at.kept hq1 (h2 x m g1), g5⟩
/-- the array of the open list is written -/
theorem jLs.arr (h : jLs dC dI ca G k (some r) w H) (hr : G r = some (1, c)) (hx : G x = some (220 + c, m)) (hq : ∀ q : Nat, q ≠ x → H1[q]? = H[q]?) : jLs dC dI ca G k (some r) w H1 :=
  ⟨h.1, h.2.1, fun a c' ha hn => (h.2.2 a c' ha hn).cells (hq a (fun e => by
    subst e
    have e1 := Option.some.inj (ha.symm.trans hx)
    have e2 := congrArg Prod.fst e1
    simp at e2
    omega)) (fun y m' hy => hq y (fun e => by
    subst e
    have e1 := Option.some.inj (hy.symm.trans hx)
    have e2 := congrArg Prod.fst e1
    have e3 : c' = c := by simp at e2; omega
    subst e3
    exact hn (by rw [h.1 a r c' ha hr])))⟩
end J33
theorem jAd.put {f g : Nat → Option Nat} {z nz x : Int} {n v : Nat} (h : ∀ k : Nat, (k : Int) < z → f k ≠ none) (hz : nz = z + 1) (h0 : 0 ≤ z) (hx : x = z) (hn : nz ≤ n) (hv : g x.toNat = some v) (ho : ∀ j, j < n → j ≠ x.toNat → g j = f j) : ∀ k : Nat, (k : Int) < nz → g k ≠ none := fun k hk => by
  by_cases e : k = x.toNat
  · subst e; rw [hv]; exact fun q => by cases q
  · rw [ho k (by omega) e]; exact h k (by omega)
def jUf {α : Type} (v : Nat → α) (a : Nat) (w : α) : Nat → α := fun b => if b = a then w else v b
theorem jUf_s {α : Type} (v : Nat → α) (a : Nat) (w : α) : jUf v a w a = w := if_pos rfl
theorem jUf_n {α : Type} (v : Nat → α) {a b : Nat} (w : α) (h : b ≠ a) : jUf v a w b = v b := if_neg h
theorem jWk.put {f g : Nat → Option Nat} {w : jWl9} {z nz x : Int} {n v : Nat} (h : jWk 1 w z f) (hz : nz = z + 1) (h0 : 0 ≤ z) (hx : x = z) (hn : nz ≤ n) (hv : g x.toNat = some v) (ho : ∀ j, j < n → j ≠ x.toNat → g j = f j) : jWk 1 (w.1 + 1, jUf w.2 w.1.toNat (some v)) nz g := fun q => by
  obtain ⟨a, b⟩ := h q
  refine ⟨by show w.1 + 1 = nz; omega, fun j hj => ?_⟩
  show g j = jUf w.2 w.1.toNat (some v) j
  rw [show w.1.toNat = x.toNat by omega]
  by_cases e : j = x.toNat
  · subst e; rw [jUf_s]; exact hv
  · rw [jUf_n _ _ e, ho j (by omega) e]; exact b j (by omega)
end
section
-- Bytes that stay small; new Bytes
def jJq (fk fi fz : Nat → Int32) (pv : Int) : Prop := ∀ i : Int, 0 ≤ i → i < pv → jSo fk i = 3 → 0 ≤ jSo fi i ∧ 0 ≤ jSo fz i ∧ jSo fi i + jSo fz i ≤ 3000
def jTen (v k : Int) : Prop := 0 ≤ k ∧ v = 10 ^ k.toNat / 10
theorem jTen.z : jTen 1000000000 10 := ⟨by omega, by decide⟩
theorem jTen.pos {v k : Int} (h : jTen v k) (hv : 0 < v) : 1 ≤ k := by
  obtain ⟨h0, e⟩ := h
  by_cases q : k = 0
  · subst q
    have e2 : (10 : Int) ^ (0 : Int).toNat / 10 = 0 := by decide
    omega
  · omega
theorem jTen.step {v k v1 k1 : Int} (h : jTen v k) (hv : v1 = v / 10) (hk : k1 = k - 1) (h1 : 1 ≤ k) : jTen v1 k1 := by
  obtain ⟨h0, e⟩ := h
  refine ⟨by omega, ?_⟩
  have e1 : k.toNat = k1.toNat + 1 := by omega
  rw [hv, e, e1, Int.pow_succ, Int.mul_ediv_cancel _ (by decide)]
end
section
-- an array of ints is cloned
def jK8 (U : State) : Prop := va_Nw (.castable "[I" "java/lang/Cloneable") U
theorem jK8.calling {U : State} (g : JFrame) (mk : MethodId) (a : Array Value) (h : jK8 U) : jK8 (U.calling g mk a) := va_Nw.same rfl rfl h
section J40
variable {p : Program} {l : Launch} {e : Env} {R : Room} {s : State} {m : MethodId} {args : Array Value} {below : List Frame} {meth : Method} {c : Code} {H : Heap} {locs : List Loc} {cells slots : Nat} {Q : State → Prop}
variable {cc : ByteArray} {pc : Nat} {ls : Array Slot} {rest : List Value} {dC : Nat → ClassId} {dI : Nat → Nat → Nat} {B : jF} {base : Nat} {G0 G : jT} {E : List (Nat × Nat)} {H0 : Heap} {zc zs : Nat} {L : List jPin} {M : List jCt} {I : List jIv} {a k n index : Nat} {tys : List (ClassId × FieldType)} {own : String}
end J40
end
section
-- what reading JSON leaves: the strings and keys of the values stand apart among the units, and take bytes
abbrev jC := (Nat → Int32) × (Nat → Int32) × (Nat → Int32) × (Nat → Int32) × (Nat → Int32)
def jln (C : jC) (e : Nat) : Int := if e % 2 = 0 then (if jSo C.1 ((e / 2 : Nat) : Int) = 3 then jSo C.2.2.1 ((e / 2 : Nat) : Int) else 0) else jSo C.2.2.2.2 ((e / 2 : Nat) : Int)
def jlo (C : jC) (e : Nat) : Int := if e % 2 = 0 then (if jSo C.1 ((e / 2 : Nat) : Int) = 3 then jSo C.2.1 ((e / 2 : Nat) : Int) else 0) else jSo C.2.2.2.1 ((e / 2 : Nat) : Int)
def jE5 (C D : jC) (i : Int) : Prop := jSo D.1 i = jSo C.1 i ∧ jSo D.2.1 i = jSo C.2.1 i ∧ jSo D.2.2.1 i = jSo C.2.2.1 i ∧ jSo D.2.2.2.1 i = jSo C.2.2.2.1 i ∧ jSo D.2.2.2.2 i = jSo C.2.2.2.2 i
theorem jE5.ln {C D : jC} {e : Nat} (h : jE5 C D ((e / 2 : Nat) : Int)) : jln D e = jln C e := by
  obtain ⟨h1, h2, h3, h4, h5⟩ := h
  unfold jln
  rw [h1, h3, h5]
theorem jE5.lo {C D : jC} {e : Nat} (h : jE5 C D ((e / 2 : Nat) : Int)) : jlo D e = jlo C e := by
  obtain ⟨h1, h2, h3, h4, h5⟩ := h
  unfold jlo
  rw [h1, h2, h4]
def jDjn (D : jC) (e e' : Nat) : Prop := jln D e = 0 ∨ jln D e' = 0 ∨ jlo D e + jln D e ≤ jlo D e' ∨ jlo D e' + jln D e' ≤ jlo D e
def jJr (C : jC) (pv pu : Int) (D : jC) (qv qu : Int) : Prop := (0 ≤ pv ∧ pv ≤ qv ∧ 0 ≤ pu ∧ pu ≤ qu) ∧ (∀ i : Int, 0 ≤ i → i < pv → jE5 C D i) ∧
  (∀ e : Nat, 2 * pv ≤ e → (e : Int) < 2 * qv → (0 ≤ jln D e ∧ 0 ≤ jlo D e ∧ jlo D e + jln D e ≤ qu) ∧ (jln D e = 0 ∨ pu ≤ jlo D e)) ∧
  (∀ e e' : Nat, 2 * pv ≤ e → (e : Int) < 2 * qv → 2 * pv ≤ e' → (e' : Int) < 2 * qv → e ≠ e' → jDjn D e e')
theorem jJr.rf {C : jC} {pv pu : Int} (h0 : 0 ≤ pv) (h1 : 0 ≤ pu) : jJr C pv pu C pv pu := ⟨⟨h0, by omega, h1, by omega⟩, fun _ _ _ => ⟨rfl, rfl, rfl, rfl, rfl⟩, fun e h1 h2 => by omega, fun e _ h1 h2 => by omega⟩
theorem jJr.up {C D : jC} {pv pu qv qu qu' : Int} (h : jJr C pv pu D qv qu) (hq : qu ≤ qu') : jJr C pv pu D qv qu' := by
  obtain ⟨h1, h2, h3, h4⟩ := h
  refine ⟨by omega, h2, fun e a b => ?_, h4⟩
  have := h3 e a b
  omega
theorem jJr.tr {C D E : jC} {pv pu qv qu rv ru : Int} (h : jJr C pv pu D qv qu) (g : jJr D qv qu E rv ru) : jJr C pv pu E rv ru := by
  obtain ⟨h1, h2, h3, h4⟩ := h
  obtain ⟨g1, g2, g3, g4⟩ := g
  have key : ∀ e : Nat, (e : Int) < 2 * qv → jE5 D E ((e / 2 : Nat) : Int) := fun e he => g2 _ (by omega) (by omega)
  refine ⟨by omega, fun i a b => ?_, fun e a b => ?_, fun e e' a b c d ne => ?_⟩
  · obtain ⟨x1, x2, x3, x4, x5⟩ := h2 i a b
    obtain ⟨y1, y2, y3, y4, y5⟩ := g2 i a (by omega)
    exact ⟨y1.trans x1, y2.trans x2, y3.trans x3, y4.trans x4, y5.trans x5⟩
  · by_cases q : (e : Int) < 2 * qv
    · have := h3 e a q
      rw [(key e q).ln, (key e q).lo]
      omega
    · have := g3 e (by omega) b
      omega
  · by_cases q : (e : Int) < 2 * qv
    · by_cases q' : (e' : Int) < 2 * qv
      · have := h4 e e' a q c q' ne
        unfold jDjn at this ⊢
        rw [(key e q).ln, (key e q).lo, (key e' q').ln, (key e' q').lo]
        exact this
      · have x := h3 e a q
        have y := g3 e' (by omega) d
        unfold jDjn
        rw [(key e q).ln, (key e q).lo]
        omega
    · by_cases q' : (e' : Int) < 2 * qv
      · have x := h3 e' c q'
        have y := g3 e (by omega) b
        unfold jDjn
        rw [(key e' q').ln, (key e' q').lo]
        omega
      · exact g4 e e' (by omega) b (by omega) d ne
/-- a value is made -/
theorem jJr.mk {C D : jC} {pv pu qu : Int} (h0 : 0 ≤ pv) (h1 : 0 ≤ pu) (hq : pu ≤ qu) (ho : ∀ i : Int, 0 ≤ i → i < pv → jE5 C D i) (hs : jSo D.1 pv = 3 → 0 ≤ jSo D.2.2.1 pv ∧ pu ≤ jSo D.2.1 pv ∧ jSo D.2.1 pv + jSo D.2.2.1 pv ≤ qu) (hk : jSo D.2.2.2.2 pv = 0) (hf : jSo D.2.2.2.1 pv = 0) : jJr C pv pu D (pv + 1) qu := by
  have e2 : ∀ e : Nat, 2 * pv ≤ e → (e : Int) < 2 * (pv + 1) → ((e / 2 : Nat) : Int) = pv := fun e a b => by omega
  have z1 : ∀ e : Nat, 2 * pv ≤ e → (e : Int) < 2 * (pv + 1) → e % 2 = 1 → jln D e = 0 := fun e a b c => by
    unfold jln
    rw [if_neg (by omega), e2 e a b, hk]
  have z2 : ∀ e : Nat, 2 * pv ≤ e → (e : Int) < 2 * (pv + 1) → e % 2 = 1 → jlo D e = 0 := fun e a b c => by
    unfold jlo
    rw [if_neg (by omega), e2 e a b, hf]
  refine ⟨by omega, ho, fun e a b => ?_, fun e e' a b c d ne => ?_⟩
  · by_cases q : e % 2 = 0
    · unfold jln jlo
      rw [if_pos q, if_pos q, e2 e a b]
      by_cases q3 : jSo D.1 pv = 3
      · rw [if_pos q3, if_pos q3]
        have := hs q3
        omega
      · rw [if_neg q3, if_neg q3]; omega
    · have := z1 e a b (by omega)
      have := z2 e a b (by omega)
      omega
  · by_cases q : e % 2 = 1
    · exact Or.inl (z1 e a b q)
    · exact Or.inr (Or.inl (z1 e' c d (by omega)))
/-- the bytes that values take beside their units -/
def jSb (f : Nat → Int32) : Nat → Int
  | 0 => 0
  | n + 1 => jSb f n + (if 1 ≤ (f n).toInt then 5 else 2)
theorem jSb.cg {f g : Nat → Int32} : ∀ (n : Nat), (∀ i, i < n → g i = f i ∨ (g i).toInt = (f i).toInt) → jSb g n = jSb f n
  | 0, _ => rfl
  | n + 1, h => by
    have h1 := jSb.cg n (fun i hi => h i (by omega))
    have h2 : (g n).toInt = (f n).toInt := by
      rcases h n (by omega) with e | e
      · rw [e]
      · exact e
    show jSb g n + _ = jSb f n + _
    rw [h1, h2]
theorem jSb.lo (f : Nat → Int32) : ∀ n : Nat, 2 * (n : Int) ≤ jSb f n
  | 0 => by show (2 : Int) * 0 ≤ 0; omega
  | n + 1 => by
    have h1 := jSb.lo f n
    show 2 * ((n + 1 : Nat) : Int) ≤ jSb f n + _
    split <;> omega
theorem jSb.put {f g : Nat → Int32} (r N : Nat) (ho : ∀ i, i < N → i ≠ r → g i = f i) (h0 : (f r).toInt = 0) : ∀ n : Nat, n ≤ N → jSb g n ≤ jSb f n + (if 1 ≤ (g r).toInt ∧ r < n then 3 else 0)
  | 0, _ => by show (0 : Int) ≤ 0 + _; split <;> omega
  | n + 1, hn => by
    have h1 := jSb.put r N ho h0 n (by omega)
    show jSb g n + _ ≤ jSb f n + _ + _
    by_cases e : n = r
    · subst e
      rw [h0, if_neg (by omega : ¬ (1 : Int) ≤ 0)]
      rw [if_neg (by omega : ¬ (1 ≤ (g n).toInt ∧ n < n))] at h1
      by_cases q : 1 ≤ (g n).toInt
      · rw [if_pos q, if_pos ⟨q, by omega⟩]; omega
      · rw [if_neg q, if_neg (fun x => q x.1)]; omega
    · rw [ho n (by omega) e]
      by_cases q : 1 ≤ (g r).toInt ∧ r < n
      · rw [if_pos q] at h1
        rw [if_pos (⟨q.1, by omega⟩ : 1 ≤ (g r).toInt ∧ r < n + 1)]
        omega
      · rw [if_neg q] at h1
        rw [if_neg (fun x => q ⟨x.1, by omega⟩ : ¬ (1 ≤ (g r).toInt ∧ r < n + 1))]
        omega
/-- what a store leaves -/
theorem jst {f g : Nat → Int32} {x : Int} {N : Nat} (ho : ∀ j, j < N → j ≠ x.toNat → g j = f j) (i : Int) (h0 : 0 ≤ i) (hN : i < N) (hx : 0 ≤ x) (hne : i ≠ x) : jSo g i = jSo f i := by
  unfold jSo
  rw [ho i.toNat (by omega) (by omega)]
def jMq (C D : jC) (n : Int) : Prop := ∀ i : Int, 0 ≤ i → i < n → jE5 C D i
def jMv (D : jC) (n k f s : Int) : Prop := jSo D.1 n = k ∧ jSo D.2.1 n = f ∧ jSo D.2.2.1 n = s ∧ jSo D.2.2.2.2 n = 0 ∧ jSo D.2.2.2.1 n = 0
/-- a value is read: r is its number -/
def jVr (C : jC) (pv pu pt : Int) (D : jC) (qv qu qt r : Int) : Prop := jJr C pv pu D qv qu ∧ (r < 0 ∨ (pv ≤ r ∧ r < qv ∧ jSo D.2.2.2.2 r = 0 ∧ qu - pu + (jSb D.2.2.2.2 qv.toNat - jSb C.2.2.2.2 pv.toNat) ≤ qt - pt + 1))
theorem jVr.no {C : jC} {pv pu pt qu qt r : Int} (h0 : 0 ≤ pv) (h1 : 0 ≤ pu) (hu : pu ≤ qu) (hr : r < 0) : jVr C pv pu pt C pv qu qt r := ⟨(jJr.rf h0 h1).up hu, Or.inl hr⟩
theorem jSb.old {C D : jC} {n : Int} (h0 : 0 ≤ n) (h : jMq C D n) : jSb D.2.2.2.2 n.toNat = jSb C.2.2.2.2 n.toNat := jSb.cg _ (fun i hi => Or.inr (by
  have := (h i (by omega) (by omega)).2.2.2.2
  unfold jSo at this
  exact this))
theorem jSb.suc {f : Nat → Int32} {n m : Int} (h0 : 0 ≤ n) (hm : m = n + 1) (h : jSo f n = 0) : jSb f m.toNat = jSb f n.toNat + 2 := by
  have e : m.toNat = n.toNat + 1 := by omega
  rw [e]
  show jSb f n.toNat + _ = _
  unfold jSo at h
  rw [h, if_neg (by omega : ¬ (1 : Int) ≤ 0)]
theorem jVr.mk {C D : jC} {pv pu pt qv qu qt r k f s : Int} (hq : jMq C D pv) (hr : (r = -1 ∧ qv = pv) ∨ (r = pv ∧ qv = pv + 1)) (hm : r < 0 ∨ jMv D pv k f s) (h0 : 0 ≤ pv) (h1 : 0 ≤ pu) (hu : pu ≤ qu) (hs : k = 3 → f = pu ∧ s = qu - pu) (hb : qu - pu + 1 ≤ qt - pt) : jVr C pv pu pt D qv qu qt r := by
  rcases hr with ⟨e1, e2⟩ | ⟨e1, e2⟩
  · subst e2
    exact ⟨⟨⟨h0, by omega, h1, hu⟩, hq, fun e a b => by omega, fun e _ a b => by omega⟩, Or.inl (by omega)⟩
  · rcases hm with hm | ⟨m1, m2, m3, m4, m5⟩
    · omega
    · subst e2
      refine ⟨jJr.mk h0 h1 hu hq (fun h3 => ?_) m4 m5, Or.inr ⟨by omega, by omega, by rw [e1]; exact m4, ?_⟩⟩
      · have := hs (by omega)
        omega
      · rw [jSb.suc h0 rfl m4, jSb.old h0 hq]
        omega
/-- what is known of an object or a list while it is read: x bytes are told ahead -/
def jHv (C : jC) (pv pu pt : Int) (D : jC) (wv wu wt l x : Int) : Prop := l < 0 ∨ (l = pv ∧ pv < wv ∧ jSo D.1 pv ≠ 3 ∧ jSo D.2.2.2.2 pv = 0 ∧ wu - pu + x + (jSb D.2.2.2.2 wv.toNat - jSb C.2.2.2.2 pv.toNat) ≤ wt - pt + 1)
theorem jHv.z {C D : jC} {pv pu pt qv r k f s t : Int} (hq : jMq C D pv) (hr : (r = -1 ∧ qv = pv) ∨ (r = pv ∧ qv = pv + 1)) (hm : r < 0 ∨ jMv D pv k f s) (h0 : 0 ≤ pv) (h1 : 0 ≤ pu) (hk : k ≠ 3) (ht : pt + 1 ≤ t) : jJr C pv pu D qv pu ∧ jHv C pv pu pt D qv pu t r 0 := by
  have hv := jVr.mk (pu := pu) (qu := pu) (pt := pt) (qt := t) hq hr hm h0 h1 (Int.le_refl _) (fun h => absurd h hk) (by omega)
  refine ⟨hv.1, ?_⟩
  rcases hr with ⟨e1, e2⟩ | ⟨e1, e2⟩
  · exact Or.inl (by omega)
  · rcases hm with hm | ⟨m1, m2, m3, m4, m5⟩
    · exact Or.inl hm
    · rcases hv.2 with h | ⟨-, -, -, h4⟩
      · exact Or.inl h
      · exact Or.inr ⟨e1, by omega, by rw [m1]; exact hk, m4, by omega⟩
theorem jHv.end {C F : jC} {pv pu pt qv qu t l : Int} (h : jJr C pv pu F qv qu ∧ jHv C pv pu pt F qv qu t l 0) : jVr C pv pu pt F qv qu t l := by
  obtain ⟨h1, h2⟩ := h
  refine ⟨h1, ?_⟩
  rcases h2 with h2 | ⟨b1, b2, b3, b4, b5⟩
  · exact Or.inl h2
  · exact Or.inr ⟨by omega, by omega, by rw [b1]; exact b4, by omega⟩
theorem jVr.cg {C : jC} {C' : jC} {pv pu pt : Int} {D : jC} {qv qu qt r : Int} (e : C' = C) (h : jVr C' pv pu pt D qv qu qt r) : jVr C pv pu pt D qv qu qt r := e ▸ h
/-- a string of the values -/
theorem jJr.p {C D : jC} {qv qu : Int} (h : jJr C 0 0 D qv qu) (hq : qu ≤ 3000) : jJq D.1 D.2.1 D.2.2.1 qv := fun i h0 h1 h3 => by
  have := h.2.2.1 (2 * i.toNat) (by omega) (by omega)
  have e : (((2 * i.toNat) / 2 : Nat) : Int) = i := by omega
  have n1 : jln D (2 * i.toNat) = jSo D.2.2.1 i := by
    unfold jln
    rw [if_pos (by omega), e, if_pos h3]
  have n2 : jlo D (2 * i.toNat) = jSo D.2.1 i := by
    unfold jlo
    rw [if_pos (by omega), e, if_pos h3]
  omega
theorem jJr.k {C D : jC} {qv qu : Int} (h : jJr C 0 0 D qv qu) (hq : qu ≤ 3000) {i : Int} (h0 : 0 ≤ i) (h1 : i < qv) : 0 ≤ jSo D.2.2.2.1 i ∧ 0 ≤ jSo D.2.2.2.2 i ∧ jSo D.2.2.2.1 i + jSo D.2.2.2.2 i ≤ 3000 := by
  have := h.2.2.1 (2 * i.toNat + 1) (by omega) (by omega)
  have e : (((2 * i.toNat + 1) / 2 : Nat) : Int) = i := by omega
  have n1 : jln D (2 * i.toNat + 1) = jSo D.2.2.2.2 i := by
    unfold jln
    rw [if_neg (by omega), e]
  have n2 : jlo D (2 * i.toNat + 1) = jSo D.2.2.2.1 i := by
    unfold jlo
    rw [if_neg (by omega), e]
  omega
/-- a message that was understood: its bytes, and what it tells first -/
def jUd (D : jC) (qv qu n : Int) : Prop := qu + jSb D.2.2.2.2 qv.toNat ≤ n + 1 ∧ ∃ j : Int, 0 ≤ j ∧ j < qv ∧ jSo D.2.2.2.2 j = 7 ∧ jSo D.1 j = 3 ∧ jSo D.2.2.1 j = 3
theorem jUd.of {gk gi gz ga gs : Nat → Int32} {qv qu n j : Int} (h : qu + jSb gs qv.toNat ≤ n + 1) (h0 : 0 ≤ j) (h1 : j < qv) (h2 : jSo gs j = 7) (h3 : jSo gk j = 3) (h4 : jSo gz j = 3) : jUd (gk, gi, gz, ga, gs) qv qu n := ⟨h, j, h0, h1, h2, h3, h4⟩
def jJu (fk fz : Nat → Int32) (pv pu : Int) : Prop := ∀ i : Int, 0 ≤ i → i < pv → jSo fk i = 3 → jSo fz i ≤ pu
theorem jJr.u {C D : jC} {qv qu : Int} (h : jJr C 0 0 D qv qu) : jJu D.1 D.2.2.1 qv qu := fun i h0 h1 h3 => by
  have := h.2.2.1 (2 * i.toNat) (by omega) (by omega)
  have e : (((2 * i.toNat) / 2 : Nat) : Int) = i := by omega
  have n1 : jln D (2 * i.toNat) = jSo D.2.2.1 i := by
    unfold jln
    rw [if_pos (by omega), e, if_pos h3]
  omega
end
section
-- the sentences of a document of the class: in order, none empty
def jSn (b e : Nat → Int32) (s u : Int) : Prop := ∀ k : Int, 0 ≤ k → k < s → 0 ≤ jSo b k ∧ jSo b k < jSo e k ∧ jSo e k ≤ u ∧ (k + 1 < s → jSo e k ≤ jSo b (k + 1))
theorem jSn.put {b e b1 e1 : Nat → Int32} {s u x y n1 : Int} (h : jSn b e s u) (hl : s = 0 ∨ jSo e (s - 1) ≤ x) (hb : jSo b1 s = x) (hbo : ∀ j, j < 40 → j ≠ s.toNat → b1 j = b j) (he : jSo e1 s = y) (heo : ∀ j, j < 40 → j ≠ s.toNat → e1 j = e j) (h0 : 0 ≤ s) (h4 : s < 40) (hx : 0 ≤ x) (hxy : x < y) (hy : y ≤ u) (hn : n1 = s + 1) : jSn b1 e1 n1 u := by
  subst hn
  intro k k0 k1
  by_cases q : k = s
  · subst q
    rw [hb, he]
    exact ⟨hx, hxy, hy, fun z => by omega⟩
  · have g := h k k0 (by omega)
    rw [jst hbo k k0 (by omega) h0 q, jst heo k k0 (by omega) h0 q]
    refine ⟨g.1, g.2.1, g.2.2.1, fun z => ?_⟩
    by_cases q2 : k + 1 = s
    · rw [q2, hb]
      rcases hl with hl | hl
      · omega
      · rw [show s - 1 = k by omega] at hl
        exact hl
    · rw [jst hbo (k + 1) (by omega) (by omega) h0 q2]
      exact g.2.2.2 (by omega)
theorem jSn.cg {b e b1 e1 : Nat → Int32} {s u : Int} (h : jSn b e s u) (hb : b1 = b) (he : e1 = e) : jSn b1 e1 s u := by
  subst hb he
  exact h
/-- as many units as sentences -/
theorem jSn.many {b e : Nat → Int32} {s u : Int} (h : jSn b e s u) : ∀ k : Nat, (k : Int) < s → (k : Int) + 1 ≤ jSo e k
  | 0, hk => by
    have := h 0 (by omega) hk
    show (0 : Int) + 1 ≤ jSo e 0
    omega
  | k + 1, hk => by
    have h1 := jSn.many h k (by omega)
    have h2 := h k (by omega) (by omega)
    have h3 := h ((k : Int) + 1) (by omega) (by omega)
    have h4 := h2.2.2.2 (by omega)
    have e1 : ((k + 1 : Nat) : Int) = (k : Int) + 1 := by omega
    rw [e1]
    omega
theorem jSn.le {b e : Nat → Int32} {s u : Int} (h : jSn b e s u) (h0 : 0 ≤ u) : s ≤ u := by
  by_cases q : s ≤ 0
  · omega
  · have h1 := h.many (s - 1).toNat (by omega)
    have h2 := h (s - 1) (by omega) (by omega)
    have e1 : (((s - 1).toNat : Nat) : Int) = s - 1 := by omega
    rw [e1] at h1
    omega
theorem jSn.mono {b e : Nat → Int32} {s u u1 : Int} (h : jSn b e s u) (hu : u ≤ u1) : jSn b e s u1 := fun k a c => by
  have g := h k a c
  exact ⟨g.1, g.2.1, by omega, g.2.2.2⟩
end
section
-- the documents of the class: sentences in order, and what is still to be checked of the open ones
def jEd (fe : Nat → Int32) (k : Int) : Int := if k ≤ 0 then 0 else jSo fe (k - 1)
def jPo (fe : Nat → Int32) (ps pk : Int) (vc : Value) (w : Nat) : Prop := pk ≤ ps ∧ ((vc = .null ∧ 575 * (ps - pk) + (1500 - jEd fe pk) ≤ w) ∨ (vc ≠ .null ∧ pk < ps ∧ 575 * (ps - pk) - 16 + (1500 - jSo fe pk) ≤ w))
def jD3 (dC : Nat → ClassId) (dI : Nat → Nat → Nat) (ca : Nat → ClassId) (G : jT) (a yb ye : Nat) (fb fe : Nat → Int32) (ps pk : Int32) (vc : Value) (H : Heap) : Prop := jP (dC, dI) G H [(a, 3, 4, .int ps), (a, 3, 10, .int pk), (a, 3, 11, vc)] ∧ jMc (dC, dI) G H [(yb, 171, 40, ca 1, fb), (ye, 172, 40, ca 1, fe)] ∧ jSn fb fe ps.toInt 1500 ∧ (0 ≤ ps.toInt ∧ ps.toInt ≤ 40 ∧ 0 ≤ pk.toInt)
def jSmm (G : jT) (x : Option Nat) (W : Nat → Nat) : Nat → Nat
  | 0 => 0
  | N + 1 => jSmm G x W N + (if G N = some (3, 0) ∧ x ≠ some N then W N else 0)
theorem jSmm.mono {G : jT} {x : Option Nat} {W : Nat → Nat} {N : Nat} : ∀ M, N ≤ M → jSmm G x W N ≤ jSmm G x W M
  | 0, h => by rw [Nat.le_zero.mp h]; exact Nat.le_refl _
  | M + 1, h => by
    by_cases e : N = M + 1
    · rw [e]; exact Nat.le_refl _
    · exact Nat.le_trans (jSmm.mono M (by omega)) (Nat.le_add_right _ _)
theorem jSmm.cg {G G1 : jT} {x : Option Nat} {W W1 : Nat → Nat} (h : ∀ N, (G1 N = some (3, 0) ∧ x ≠ some N) ↔ (G N = some (3, 0) ∧ x ≠ some N)) (hw : ∀ N, x ≠ some N → W1 N = W N) : ∀ N, jSmm G1 x W1 N = jSmm G x W N
  | 0 => rfl
  | N + 1 => by
    have h1 := jSmm.cg h hw N
    show jSmm G1 x W1 N + _ = jSmm G x W N + _
    rw [h1]
    by_cases q : G N = some (3, 0) ∧ x ≠ some N
    · rw [if_pos q, if_pos ((h N).mpr q), hw N q.2]
    · rw [if_neg q, if_neg (fun z => q ((h N).mp z))]
def jDcc (dC : Nat → ClassId) (dI : Nat → Nat → Nat) (ca : Nat → ClassId) (G : jT) (x : Option Nat) (ph : Nat) (H : Heap) : Prop := ∃ Yb Ye W : Nat → Nat,
  (∀ a n, G a = some (3, n) → jf (dC, dI) 3 a 5 (.ref (Yb a)) H ∧ jf (dC, dI) 3 a 6 (.ref (Ye a)) H ∧ G (Yb a) = some (171, 40) ∧ G (Ye a) = some (172, 40)) ∧
  (∀ a b n m, G a = some (3, n) → G b = some (3, m) → Yb a = Yb b → a = b) ∧ (∀ a b n m, G a = some (3, n) → G b = some (3, m) → Ye a = Ye b → a = b) ∧
  (∀ a n, G a = some (3, n) → x ≠ some a → ∃ (fb fe : Nat → Int32) (ps pk : Int32) (vc : Value), jD3 dC dI ca G a (Yb a) (Ye a) fb fe ps pk vc H ∧ (n = 0 → jPo fe ps.toInt pk.toInt vc (W a))) ∧ ∀ N, jSmm G x W N ≤ ph
section J41
variable {dC : Nat → ClassId} {dI : Nat → Nat → Nat} {ca : Nat → ClassId} {G G1 : jT} {H H1 : Heap} {x : Option Nat} {ph : Nat}
theorem jD3.of {a yb ye : Nat} {fb fe : Nat → Int32} {ps pk : Int32} {vc : Value} (h : jD3 dC dI ca G a yb ye fb fe ps pk vc H) (hf : ∀ i v, i = 4 ∨ i = 10 ∨ i = 11 → jf (dC, dI) 3 a i v H → jf (dC, dI) 3 a i v H1) (hb : H1[yb]? = H[yb]?) (he : H1[ye]? = H[ye]?) : jD3 dC dI ca G a yb ye fb fe ps pk vc H1 := by
  obtain ⟨g3, g4, g5⟩ := h
  refine ⟨fun q hq => ?_, fun q hq => ?_, g5⟩
  · obtain ⟨q1, q2⟩ := g3 q hq
    refine ⟨q1, ?_⟩
    simp only [List.mem_cons, List.not_mem_nil, or_false] at hq
    rcases hq with rfl | rfl | rfl
    · exact hf _ _ (Or.inl rfl) q2
    · exact hf _ _ (Or.inr (Or.inl rfl)) q2
    · exact hf _ _ (Or.inr (Or.inr rfl)) q2
  · obtain ⟨q1, q2, q3, q4⟩ := g4 q hq
    refine ⟨q1, q2, q3, q4.kept ?_⟩
    simp only [List.mem_cons, List.not_mem_nil, or_false] at hq
    rcases hq with rfl | rfl
    · exact hb
    · exact he
/-- an array of the open document is written -/
theorem jDcc.arr {a n y k : Nat} (h : jDcc dC dI ca G (some a) ph H) (ha : G a = some (3, n)) (hy : G y = some (k, 40)) (hk : (k = 171 ∧ jf (dC, dI) 3 a 5 (.ref y) H) ∨ (k = 172 ∧ jf (dC, dI) 3 a 6 (.ref y) H)) (hfr : ∀ p, p ≠ y → H1[p]? = H[p]?) : jDcc dC dI ca G (some a) ph H1 := by
  obtain ⟨Yb, Ye, W, h1, h2, h3, h4, h5⟩ := h
  have hn : ∀ b m, G b = some (3, m) → b ≠ y := fun b m hb q => by
    rw [q, hy] at hb
    have := congrArg Prod.fst (Option.some.inj hb)
    simp at this
    rcases hk with hk | hk <;> omega
  refine ⟨Yb, Ye, W, fun b m hb => ?_, h2, h3, fun b m hb hx => ?_, h5⟩
  · obtain ⟨g1, g2, g3, g4⟩ := h1 b m hb
    exact ⟨g1.kept (hfr b (hn b m hb)), g2.kept (hfr b (hn b m hb)), g3, g4⟩
  · obtain ⟨g1, g2, g3, g4⟩ := h1 b m hb
    obtain ⟨fb, fe, ps, pk, vc, g, gp⟩ := h4 b m hb hx
    refine ⟨fb, fe, ps, pk, vc, g.of (fun i v hi hf => hf.kept (hfr b (hn b m hb))) (hfr _ (fun q => ?_)) (hfr _ (fun q => ?_)), gp⟩
    · rcases hk with ⟨k1, k2⟩ | ⟨k1, k2⟩
      · have e1 : Yb a = y := by have := jf.uniq (h1 a n ha).1 k2; cases this; rfl
        exact hx (by rw [h2 b a m n hb ha (q.trans e1.symm)])
      · rw [q, hy] at g3
        have := congrArg Prod.fst (Option.some.inj g3)
        simp at this
        omega
    · rcases hk with ⟨k1, k2⟩ | ⟨k1, k2⟩
      · rw [q, hy] at g4
        have := congrArg Prod.fst (Option.some.inj g4)
        simp at this
        omega
      · have e1 : Ye a = y := by have := jf.uniq (h1 a n ha).2.1 k2; cases this; rfl
        exact hx (by rw [h3 b a m n hb ha (q.trans e1.symm)])
/-- the same, with the numbers of each document told -/
def jDcx (dC : Nat → ClassId) (dI : Nat → Nat → Nat) (ca : Nat → ClassId) (G : jT) (ph : Nat) (sn ck : Nat → Int32) (vn : Nat → Value) (H : Heap) : Prop := jDcc dC dI ca G none ph H ∧ ∀ a n, G a = some (3, n) → jf (dC, dI) 3 a 4 (.int (sn a)) H ∧ jf (dC, dI) 3 a 10 (.int (ck a)) H ∧ jf (dC, dI) 3 a 11 (vn a) H
theorem jDcc.ex (h : jDcc dC dI ca G none ph H) : ∃ (sn ck : Nat → Int32) (vn : Nat → Value), jDcx dC dI ca G ph sn ck vn H := by
  obtain ⟨Yb, Ye, W, h1, h2, h3, h4, h5⟩ := h
  have key : ∀ a : Nat, ∃ q : Int32 × Int32 × Value, ∀ n, G a = some (3, n) → jf (dC, dI) 3 a 4 (.int q.1) H ∧ jf (dC, dI) 3 a 10 (.int q.2.1) H ∧ jf (dC, dI) 3 a 11 q.2.2 H := fun a => by
    by_cases hx : ∃ n, G a = some (3, n)
    · obtain ⟨n, ha⟩ := hx
      obtain ⟨fb, fe, ps, pk, vc, g, -⟩ := h4 a n ha (fun q => by cases q)
      exact ⟨(ps, pk, vc), fun _ _ => ⟨(g.1 _ List.mem_cons_self).2, (g.1 _ (List.mem_cons_of_mem _ List.mem_cons_self)).2, (g.1 _ (List.mem_cons_of_mem _ (List.mem_cons_of_mem _ List.mem_cons_self))).2⟩⟩
    · exact ⟨(0, 0, .null), fun n ha => absurd ⟨n, ha⟩ hx⟩
  exact ⟨fun a => (Classical.choose (key a)).1, fun a => (Classical.choose (key a)).2.1, fun a => (Classical.choose (key a)).2.2, ⟨Yb, Ye, W, h1, h2, h3, h4, h5⟩, fun a n ha => Classical.choose_spec (key a) n ha⟩
theorem jPo.rf {fe : Nat → Int32} {ps pk : Int} {w x : Nat} (h : jPo fe ps pk (.ref x) w) : pk < ps ∧ 575 * (ps - pk) - 16 + (1500 - jSo fe pk) ≤ w := by
  obtain ⟨h1, h2 | h2⟩ := h
  · exact absurd h2.1 (fun q => by cases q)
  · exact h2.2
theorem jEd.le {fb fe : Nat → Int32} {s u k : Int} (h : jSn fb fe s u) (hu : 0 ≤ u) (h0 : 0 ≤ k) (h1 : k ≤ s) : jEd fe k ≤ u := by
  unfold jEd
  by_cases q : k ≤ 0
  · rw [if_pos q]; exact hu
  · rw [if_neg q]
    exact (h (k - 1) (by omega) (by omega)).2.2.1
end J41
end
section
-- how many bytes a message has at least: its strings and keys stand apart
def jSuu (D : jC) : List Nat → Int
  | [] => 0
  | e :: es => jln D e + jSuu D es
def jCl (D : jC) (N : Int) (e : Nat) : Int := if N ≤ jlo D e then 0 else if N ≤ jlo D e + jln D e then N - jlo D e else jln D e
def jCss (D : jC) (N : Int) : List Nat → Int
  | [] => 0
  | e :: es => jCl D N e + jCss D N es
def jIn1 (D : jC) (N : Int) (e : Nat) : Int := if jlo D e ≤ N ∧ N < jlo D e + jln D e then 1 else 0
def jIs1 (D : jC) (N : Int) : List Nat → Int
  | [] => 0
  | e :: es => jIn1 D N e + jIs1 D N es
theorem jCl.suc {D : jC} {N : Int} {e : Nat} (h : 0 ≤ jln D e) : jCl D (N + 1) e = jCl D N e + jIn1 D N e := by
  unfold jCl jIn1
  by_cases a : N + 1 ≤ jlo D e
  · rw [if_pos a, if_pos (by omega), if_neg (by omega)]; rfl
  · rw [if_neg a]
    by_cases b : N + 1 ≤ jlo D e + jln D e
    · rw [if_pos b, if_pos (by omega : jlo D e ≤ N ∧ N < jlo D e + jln D e)]
      by_cases c : N ≤ jlo D e
      · rw [if_pos c]; omega
      · rw [if_neg c, if_pos (by omega)]; omega
    · rw [if_neg b, if_neg (by omega : ¬ (jlo D e ≤ N ∧ N < jlo D e + jln D e))]
      by_cases c : N ≤ jlo D e
      · rw [if_pos c]; omega
      · rw [if_neg c]
        by_cases d : N ≤ jlo D e + jln D e
        · rw [if_pos d]; omega
        · rw [if_neg d]; omega
theorem jCss.suc {D : jC} {N : Int} : ∀ es : List Nat, (∀ e ∈ es, 0 ≤ jln D e) → jCss D (N + 1) es = jCss D N es + jIs1 D N es
  | [], _ => rfl
  | e :: es, h => by
    have h1 := jCss.suc (N := N) es (fun x hx => h x (List.mem_cons_of_mem _ hx))
    have h2 := jCl.suc (N := N) (h e List.mem_cons_self)
    show jCl D (N + 1) e + jCss D (N + 1) es = jCl D N e + jCss D N es + (jIn1 D N e + jIs1 D N es)
    omega
theorem jIs1.none {D : jC} {N : Int} : ∀ es : List Nat, (∀ e ∈ es, jIn1 D N e = 0) → jIs1 D N es = 0
  | [], _ => rfl
  | e :: es, h => by
    have h1 := jIs1.none es (fun x hx => h x (List.mem_cons_of_mem _ hx))
    have h2 := h e List.mem_cons_self
    show jIn1 D N e + jIs1 D N es = 0
    omega
theorem jIs1.le {D : jC} {N : Int} : ∀ es : List Nat, es.Pairwise (jDjn D) → (∀ e ∈ es, 0 ≤ jln D e) → jIs1 D N es ≤ 1
  | [], _, _ => by show (0 : Int) ≤ 1; omega
  | e :: es, hp, h => by
    obtain ⟨p1, p2⟩ := List.pairwise_cons.mp hp
    have h1 := jIs1.le (N := N) es p2 (fun x hx => h x (List.mem_cons_of_mem _ hx))
    show jIn1 D N e + jIs1 D N es ≤ 1
    by_cases q : jlo D e ≤ N ∧ N < jlo D e + jln D e
    · have h2 : jIs1 D N es = 0 := jIs1.none es (fun x hx => by
        have d := p1 x hx
        have l := h x (List.mem_cons_of_mem _ hx)
        unfold jDjn at d
        unfold jIn1
        rw [if_neg (by omega)])
      have h3 : jIn1 D N e = 1 := by unfold jIn1; rw [if_pos q]
      omega
    · have h3 : jIn1 D N e = 0 := by unfold jIn1; rw [if_neg q]
      omega
theorem jCss.le {D : jC} {es : List Nat} (hp : es.Pairwise (jDjn D)) (h : ∀ e ∈ es, 0 ≤ jln D e) (h0 : ∀ e ∈ es, 0 ≤ jlo D e) : ∀ N : Nat, jCss D (N : Int) es ≤ N
  | 0 => by
    have z : ∀ es : List Nat, (∀ e ∈ es, 0 ≤ jlo D e) → jCss D ((0 : Nat) : Int) es = 0 := fun es => by
      induction es with
      | nil => exact fun _ => rfl
      | cons e es ih =>
        intro hq
        have h1 := ih (fun x hx => hq x (List.mem_cons_of_mem _ hx))
        have h2 := hq e List.mem_cons_self
        show jCl D _ e + jCss D _ es = 0
        have h3 : jCl D ((0 : Nat) : Int) e = 0 := by unfold jCl; rw [if_pos (by omega)]
        omega
    rw [z es h0]
    exact Int.le_refl _
  | N + 1 => by
    have h1 := jCss.le hp h h0 N
    have h2 := jCss.suc (N := (N : Int)) es h
    have h3 := jIs1.le (N := (N : Int)) es hp h
    have e1 : ((N + 1 : Nat) : Int) = (N : Int) + 1 := by omega
    rw [e1]
    omega
theorem jCss.all {D : jC} {N : Int} : ∀ es : List Nat, (∀ e ∈ es, 0 ≤ jln D e ∧ jlo D e + jln D e ≤ N) → jCss D N es = jSuu D es
  | [], _ => rfl
  | e :: es, h => by
    have h1 := jCss.all (N := N) es (fun x hx => h x (List.mem_cons_of_mem _ hx))
    have h2 := h e List.mem_cons_self
    show jCl D N e + jCss D N es = jln D e + jSuu D es
    have h3 : jCl D N e = jln D e := by
      unfold jCl
      by_cases a : N ≤ jlo D e
      · rw [if_pos a]; omega
      · rw [if_neg a]
        by_cases b : N ≤ jlo D e + jln D e
        · rw [if_pos b]; omega
        · rw [if_neg b]
    omega
/-- and how many values have a key -/
def jCi (n : Nat) : List Nat → Int
  | [] => 0
  | i :: is => (if i < n then 3 else 0) + jCi n is
theorem jCi.out {n : Nat} : ∀ is : List Nat, (∀ i ∈ is, i ≠ n) → jCi (n + 1) is = jCi n is
  | [], _ => rfl
  | i :: is, h => by
    have h1 := jCi.out is (fun x hx => h x (List.mem_cons_of_mem _ hx))
    have h2 := h i List.mem_cons_self
    show (if i < n + 1 then (3 : Int) else 0) + jCi (n + 1) is = (if i < n then 3 else 0) + jCi n is
    rw [h1]
    by_cases q : i < n
    · rw [if_pos q, if_pos (by omega)]
    · rw [if_neg q, if_neg (by omega)]
theorem jCi.suc {n : Nat} {f : Nat → Int32} : ∀ is : List Nat, is.Pairwise (· ≠ ·) → (∀ i ∈ is, 1 ≤ (f i).toInt) → jCi (n + 1) is ≤ jCi n is + (if 1 ≤ (f n).toInt then 3 else 0)
  | [], _, _ => by show (0 : Int) ≤ 0 + _; split <;> omega
  | i :: is, hp, hf => by
    obtain ⟨p1, p2⟩ := List.pairwise_cons.mp hp
    show (if i < n + 1 then (3 : Int) else 0) + jCi (n + 1) is ≤ (if i < n then 3 else 0) + jCi n is + _
    by_cases e : i = n
    · subst e
      rw [jCi.out is (fun x hx q => p1 x hx q.symm), if_pos (by omega : i < i + 1), if_neg (by omega : ¬ i < i), if_pos (hf i List.mem_cons_self)]
      omega
    · have h1 := jCi.suc (n := n) (f := f) is p2 (fun x hx => hf x (List.mem_cons_of_mem _ hx))
      have e2 : (if i < n + 1 then (3 : Int) else 0) = (if i < n then 3 else 0) := by
        by_cases q : i < n
        · rw [if_pos q, if_pos (by omega)]
        · rw [if_neg q, if_neg (by omega)]
      rw [e2]
      omega
end
