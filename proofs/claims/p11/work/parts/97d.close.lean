-- a document is closed: it goes behind the open ones
def jNo (fo : Nat → Option Nat) (x : Nat) (k : Int) : Prop := ∀ w : Nat, (w : Int) < k → fo w ≠ some x
theorem jNo.null {fo fo' : Nat → Option Nat} {x w : Nat} {k k1 : Int} (h : jNo fo x k) (hv : fo' w = none) (ho : ∀ j, j < 2 → j ≠ w → fo' j = fo j) (hw : (w : Int) = k) (h2 : k < 2) (hk : k1 = k + 1) : jNo fo' x k1 := fun j hj => by
  by_cases e : j = w
  · subst e; rw [hv]; exact fun q => by cases q
  · rw [ho j (by omega) e]; exact h j (by omega)
theorem jNo.keep {fo : Nat → Option Nat} {x w : Nat} {k k1 : Int} (h : jNo fo x k) (hv : fo w ≠ some x) (hw : (w : Int) = k) (hk : k1 = k + 1) : jNo fo x k1 := fun j hj => by
  by_cases e : j = w
  · subst e; exact hv
  · exact h j (by omega)
def jSh (f0 f : Nat → Option Nat) (d k : Int) : Prop := ∀ i : Nat, i < 3 → f i = if d ≤ (i : Int) ∧ (i : Int) < k then f0 (i + 1) else f0 i
theorem jSh.nil (f0 : Nat → Option Nat) (d : Int) : jSh f0 f0 d d := fun i hi => by rw [if_neg (by omega)]
theorem jSh.step {f0 f g : Nat → Option Nat} {d k k1 : Int} {o : Option Nat} (h : jSh f0 f d k) (h0 : 0 ≤ k) (hd : d ≤ k) (h3 : k + 1 < 3) (ho : o = f (k + 1).toNat) (hv : g k.toNat = o) (hg : ∀ j, j < 3 → j ≠ k.toNat → g j = f j) (e : k1 = k + 1) : jSh f0 g d k1 := fun i hi => by
  by_cases q : i = k.toNat
  · have h1 := h (k + 1).toNat (by omega)
    rw [if_neg (by omega)] at h1
    rw [q, hv, ho, h1, if_pos (by omega), show (k + 1).toNat = k.toNat + 1 by omega]
  · rw [hg i hi q, h i hi]
    by_cases w : d ≤ (i : Int) ∧ (i : Int) < k
    · rw [if_pos w, if_pos (by omega)]
    · rw [if_neg w, if_neg (by omega)]
theorem jPu.cls {sn ck fs : Nat → Int32} {f0 f g fo : Nat → Option Nat} {dc dc1 d k k' : Int} {ol nw td x : Nat} (h : jPu sn ck f0 fo fs dc ol nw td) (hn : jNo fo x 2) (hs : jSh f0 f d k') (h0 : 0 ≤ d) (hdc : d < dc) (h3 : dc ≤ 3) (hx : f0 d.toNat = some x) (hkk : k' = k) (hk : k = dc - 1) (hv : g k.toNat = some x) (hg : ∀ j, j < 3 → j ≠ k.toNat → g j = f j) (e : dc1 = dc - 1) : jPu sn ck g fo fs dc1 ol nw td := by
  have hkk2 := hkk.symm
  subst hkk2
  obtain ⟨g0, g1, g2, g3⟩ := h
  have key : ∀ i : Nat, i < 3 → ∃ j : Nat, j < 3 ∧ g i = f0 j ∧ (((i : Int) = k ∧ (j : Int) = d) ∨ (d ≤ (i : Int) ∧ (i : Int) < k ∧ j = i + 1) ∨ (((i : Int) < d ∨ k < (i : Int)) ∧ j = i)) := fun i hi => by
    by_cases q : i = k.toNat
    · exact ⟨d.toNat, by omega, by rw [q, hv, hx], Or.inl ⟨by omega, by omega⟩⟩
    · rw [hg i hi q, hs i hi]
      by_cases w : d ≤ (i : Int) ∧ (i : Int) < k
      · rw [if_pos w]; exact ⟨i + 1, by omega, rfl, Or.inr (Or.inl ⟨w.1, w.2, rfl⟩)⟩
      · rw [if_neg w]; exact ⟨i, hi, rfl, Or.inr (Or.inr ⟨by omega, rfl⟩)⟩
  refine ⟨fun i hi => ?_, fun i j hi hj he => ?_, fun i a hi ha => ?_, fun w hw => ?_⟩
  · obtain ⟨j, k1, k2, -⟩ := key i hi
    rw [k2]; exact g0 j k1
  · obtain ⟨i1, a1, a2, a3⟩ := key i hi
    obtain ⟨j1, b1, b2, b3⟩ := key j hj
    have := g1 i1 j1 a1 b1 (by rw [← a2, ← b2]; exact he)
    omega
  · obtain ⟨j, k1, k2, -⟩ := key i hi
    rw [k2] at ha; exact g2 j a k1 ha
  · rcases g3 w hw with q | ⟨j, a, k1, k2, k3, k4, k5⟩
    · exact Or.inl q
    · have hja : (j : Int) ≠ d := fun q => by
        have e1 : j = d.toNat := by omega
        rw [e1, hx] at k3
        exact hn w (by omega) (by rw [k4, k3])
      by_cases c : (j : Int) < d
      · obtain ⟨j1, b1, b2, b3⟩ := key j k2
        exact Or.inr ⟨j, a, by omega, k2, by rw [b2, show j1 = j by omega]; exact k3, k4, k5⟩
      · obtain ⟨j1, b1, b2, b3⟩ := key (j - 1) (by omega)
        exact Or.inr ⟨j - 1, a, by omega, by omega, by rw [b2, show j1 = j by omega]; exact k3, k4, k5⟩
