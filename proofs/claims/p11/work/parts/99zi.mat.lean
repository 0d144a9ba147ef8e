-- an array of arrays gets its kind
theorem jAq.of {dC : Nat → ClassId} {dI : Nat → Nat → Nat} {B : jF} {k n a : Nat} {cA : ClassId} {P : jT → Option Nat → Prop} {G : jT} {H : Heap} {f : Nat → Option Nat} (hBk : ∀ n G a H, B k n G a H ↔ jAq (dC, dI) cA P n G a H) (h : va_at (dC, dI) vwCl (a, .inl (cA, n, .inr (.inr (.inr (.inr f))))) H) (hP : ∀ j, j < n → P G (f j)) : B k n G a H := (hBk _ _ _ _).mpr ⟨f, h, hP⟩
/-- the first elements are formulas -/
def jFq (G : jT) (f : Nat → Option Nat) (i : Int) : Prop := ∀ j : Nat, (j : Int) < i → jQk 280 80 G (f j)
theorem jFq.zero {G : jT} {f : Nat → Option Nat} {i : Int} (h : i ≤ 0) : jFq G f i := fun j hj => by omega
theorem jFq.put {G : jT} {f : Nat → Option Nat} {i i1 x : Int} {v m : Nat} (h : jFq G f i) (hx : x = i) (hi : i1 = i + 1) (h0 : 0 ≤ i) (hv : G v = some (280, m)) (hm : m ≤ 80) : jFq G (va_up f x.toNat (some v)) i1 := fun j hj => by
  by_cases e : j = x.toNat
  · subst e
    simp only [va_up, if_pos]
    exact ⟨v, m, rfl, hv, hm⟩
  · rw [va_up_ne _ _ e]
    exact h j (by omega)
theorem jQk.up {k most : Nat} {G G1 : jT} {o : Option Nat} (h : jQk k most G o) (hle : jLe G G1) : jQk k most G1 o := by
  obtain ⟨x, j, h1, h2, h3⟩ := h
  exact ⟨x, j, h1, hle _ _ h2, h3⟩
theorem jFq.all {G G1 : jT} {f : Nat → Option Nat} {i : Int} {n : Nat} (h : jFq G f i) (hi : (n : Int) = i) (hle : jLe G G1) : ∀ j, j < n → jQk 280 80 G1 (f j) := fun j hj => (h j (by omega)).up hle
theorem jKe.typn {G0 G : jT} {H0 H : Heap} {a : Nat} {t : Option (Nat × Nat)} (h : jKe G0 G H0 H) (ha : H0.size ≤ a) : jKe G0 (va_up G a t) H0 H := ⟨h.1, fun q u hq hg => h.2 q u hq (by rw [va_up_ne _ _ (by omega)] at hg; exact hg)⟩
