-- the sentences of a document of the class: in order, none empty
def jSn (b e : Nat → Int32) (s u : Int) : Prop := ∀ k : Int, 0 ≤ k → k < s → 0 ≤ jSo b k ∧ jSo b k < jSo e k ∧ jSo e k ≤ u ∧ (k + 1 < s → jSo e k ≤ jSo b (k + 1))
theorem jSn.zero {b e : Nat → Int32} {s u : Int} (h : s ≤ 0) : jSn b e s u := fun k a c => by omega
theorem jSn.put {b e b1 e1 : Nat → Int32} {s u x y n1 : Int} (h : jSn b e s u) (hl : s = 0 ∨ jSo e (s - 1) ≤ x) (hb : jSo b1 s = x) (hbo : ∀ j, j < 40 → j ≠ s.toNat → b1 j = b j) (he : jSo e1 s = y) (heo : ∀ j, j < 40 → j ≠ s.toNat → e1 j = e j) (h0 : 0 ≤ s) (h4 : s < 40) (hx : 0 ≤ x) (hxy : x < y) (hy : y ≤ u) (hn : n1 = s + 1) : jSn b1 e1 n1 u := by
  subst hn
  intro k k0 k1
  by_cases q : k = s
  · subst q
    rw [hb, he]
    exact ⟨hx, hxy, hy, fun z => by omega⟩
  · have g := h k k0 (by omega)
    rw [jst hbo k k0 (by omega) h0 q, jst heo k k0 (by omega) h0 q]
    refine ⟨g.1, g.2.1, g.2.2.1, fun z => ?_⟩
    by_cases q2 : k + 1 = s
    · rw [q2, hb]
      rcases hl with hl | hl
      · omega
      · rw [show s - 1 = k by omega] at hl
        exact hl
    · rw [jst hbo (k + 1) (by omega) (by omega) h0 q2]
      exact g.2.2.2 (by omega)
theorem jSn.nx {e1 : Nat → Int32} {s y n1 t : Int} (he : jSo e1 s = y) (hn : n1 = s + 1) (ht : y ≤ t) : n1 = 0 ∨ jSo e1 (n1 - 1) ≤ t := by
  subst hn
  rw [show s + 1 - 1 = s by omega, he]
  exact Or.inr ht
theorem jSn.last {b e e1 : Nat → Int32} {s u : Int} (h : jSn b e s u) (hs : s = 40) (he : jSo e1 39 = u) (heo : ∀ j, j < 40 → j ≠ (39 : Int).toNat → e1 j = e j) : jSn b e1 s u := fun k k0 k1 => by
  have g := h k k0 k1
  by_cases q : k = 39
  · subst q
    rw [he]
    exact ⟨g.1, by omega, by omega, fun z => by omega⟩
  · rw [jst heo k k0 (by omega) (by omega) q]
    exact g
theorem jSn.cg {b e b1 e1 : Nat → Int32} {s u : Int} (h : jSn b e s u) (hb : b1 = b) (he : e1 = e) : jSn b1 e1 s u := by
  subst hb he
  exact h
/-- as many units as sentences -/
theorem jSn.many {b e : Nat → Int32} {s u : Int} (h : jSn b e s u) : ∀ k : Nat, (k : Int) < s → (k : Int) + 1 ≤ jSo e k
  | 0, hk => by
    have := h 0 (by omega) hk
    show (0 : Int) + 1 ≤ jSo e 0
    omega
  | k + 1, hk => by
    have h1 := jSn.many h k (by omega)
    have h2 := h k (by omega) (by omega)
    have h3 := h ((k : Int) + 1) (by omega) (by omega)
    have h4 := h2.2.2.2 (by omega)
    have e1 : ((k + 1 : Nat) : Int) = (k : Int) + 1 := by omega
    rw [e1]
    omega
theorem jSn.le {b e : Nat → Int32} {s u : Int} (h : jSn b e s u) (h0 : 0 ≤ u) : s ≤ u := by
  by_cases q : s ≤ 0
  · omega
  · have h1 := h.many (s - 1).toNat (by omega)
    have h2 := h (s - 1) (by omega) (by omega)
    have e1 : (((s - 1).toNat : Nat) : Int) = s - 1 := by omega
    rw [e1] at h1
    omega
theorem jSn.ce {b e : Nat → Int32} {s s1 u : Int} (h : jSn b e s u) (hs : s = s1) : jSn b e s1 u := hs ▸ h
theorem jSn.mono {b e : Nat → Int32} {s u u1 : Int} (h : jSn b e s u) (hu : u ≤ u1) : jSn b e s u1 := fun k a c => by
  have g := h k a c
  exact ⟨g.1, g.2.1, by omega, g.2.2.2⟩
