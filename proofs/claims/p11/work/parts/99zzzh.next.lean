-- the row 'next' of the reference's JSON: once a value was made, the first one has none behind it
theorem jNx0 {f g : Nat → Int32} {x : Int} (hv : jSo g x = -1) (ho : ∀ j, j < 3100 → j ≠ x.toNat → g j = f j) (h0 : 0 ≤ x) (h : x = 0 ∨ jSo f 0 = -1) : jSo g 0 = -1 := by
  rcases h with h | h
  · rw [h] at hv
    exact hv
  · by_cases q : x = 0
    · rw [q] at hv
      exact hv
    · have := ho 0 (by decide) (by omega)
      unfold jSo at h ⊢
      show (g 0).toInt = -1
      rw [this]
      exact h
theorem jNrU {G : jT} {a b : Nat} {t : Option (Nat × Nat)} (hn : ∀ t, G a ≠ some t) (hne : a ≠ b) : ∀ u, va_up G b t a ≠ some u := fun u e => hn u (by rw [← e]; simp [va_up, hne])
