theorem jPost2.other {dC : Nat → ClassId} {dI : Nat → Nat → Nat} {ca : Nat → ClassId} {base : Nat} {B : jF} {G0 G : jT} {X : List Nat} {a len0 len o leno no : Nat} {cnt0 cnt cnto : Int32} {K : Nat} {H0 H : Heap} (h : jPost2 dC dI ca base B G0 X a len0 cnt0 K H0 (G, len, cnt) H) (h0 : jX B base G0 X H0) (hga : ∃ n, G0 a = some (2, n)) (ho : jBy dC dI ca G0 o leno cnto H0) (hgo : G0 o = some (2, no)) (hne : o ≠ a) : jBy dC dI ca G o leno cnto H := by
  obtain ⟨n, hga⟩ := hga
  refine (ho.kept (fun q hq => h.2.2.2.1 q ?_ (fun h1 => hne (jSup.only hgo (by omega) hga (by omega) h1 hq)))).ext (h0.le h.2.1)
  rcases hq with e | ⟨i, e⟩
  · rw [e]; exact (h0.2 _ _ hgo).2
  · exact (h0.2 _ _ e).2
theorem jb_lcmp {x y : Int64} {z : Int32} (h : z = lg_cmp x y) : (y.toInt < x.toInt ∧ z.toInt = 1) ∨ (x.toInt = y.toInt ∧ z.toInt = 0) ∨ (x.toInt < y.toInt ∧ z.toInt = -1) := by
  unfold lg_cmp at h
  by_cases h1 : x > y
  · rw [if_pos h1] at h
    exact Or.inl ⟨Int64.lt_iff_toInt_lt.mp h1, by rw [h]; decide⟩
  · rw [if_neg h1] at h
    by_cases h2 : x = y
    · rw [if_pos h2] at h
      exact Or.inr (Or.inl ⟨by rw [h2], by rw [h]; decide⟩)
    · rw [if_neg h2] at h
      refine Or.inr (Or.inr ⟨?_, by rw [h]; decide⟩)
      have h3 : ¬ y.toInt < x.toInt := fun q => h1 (Int64.lt_iff_toInt_lt.mpr q)
      have h4 : x.toInt ≠ y.toInt := fun q => h2 (Int64.toInt_inj.mp q)
      omega
theorem jb_lne {y : Int64} (h : y.toInt ≠ 0) : ¬ y = 0 := fun q => h (by rw [q]; decide)
theorem jb_ldiv {x y : Int64} {a b : Int} (hx : x.toInt = a) (hy : y.toInt = b) (h : 0 ≤ a) (hb : 0 < b) : (x / y).toInt = a / b := by
  have hr := Int64.toInt_le x
  have h2 : Int64.maxValue.toInt = 9223372036854775807 := by decide
  rw [Int64.toInt_div, hx, hy, Int.tdiv_eq_ediv_of_nonneg h]
  have h1 : a / b ≤ a := Int.ediv_le_self b h
  have h0 : 0 ≤ a / b := Int.ediv_nonneg h (by omega)
  rw [Int.bmod_eq_of_le] <;> omega
theorem jb_p10 {a : Int} {j : Nat} (h : a < 10 ^ j) (h0 : 0 < a) : 1 ≤ j ∧ a / 10 < 10 ^ (j - 1) := by
  cases j with
  | zero => simp at h; omega
  | succ j =>
    refine ⟨by omega, ?_⟩
    have e : (10 : Int) ^ (j + 1) = 10 * 10 ^ j := by rw [Int.pow_succ]; omega
    rw [e] at h
    simp only [Nat.add_sub_cancel]
    omega
