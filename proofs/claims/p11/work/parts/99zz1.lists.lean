-- what is known of all lists (o: the one that is open); k: as many there are
abbrev jFl : List (Nat × Nat) := [(1, 1), (1, 2), (221, 0), (222, 0), (223, 0)]
def jRr : Value → Prop := fun v => ∃ x : Nat, v = .ref x
def jLb (c : Nat) : Int := if c = 1 then 3 else if c = 2 then 12 else 24
def jLo (dC : Nat → ClassId) (dI : Nat → Nat → Nat) (ca : Nat → ClassId) (G : jT) (a c : Nat) (H : Heap) : Prop := ∃ (z : Int32) (x : Nat), jf (dC, dI) 1 a 2 (.int z) H ∧ jf (dC, dI) 1 a 1 (.ref x) H ∧ (0 ≤ z.toInt ∧ z.toInt ≤ jLb c) ∧ ((x = dI 99 0 ∧ z.toInt = 0) ∨ ∃ (m : Nat) (f : Nat → Option Nat), G x = some (220 + c, m) ∧ (10 ≤ m ∧ m ≤ 40) ∧ z.toInt ≤ m ∧ jQc dC dI (ca 9) x m f H ∧ ∀ i : Nat, (i : Int) < z.toInt → f i ≠ none)
def jLs (dC : Nat → ClassId) (dI : Nat → Nat → Nat) (ca : Nat → ClassId) (G : jT) (k : Nat) (o : Option Nat) (H : Heap) : Prop := (∀ a b c, G a = some (1, c) → G b = some (1, c) → a = b) ∧ (∀ a c, G a = some (1, c) → 1 ≤ c ∧ c ≤ k ∧ c ≤ 3) ∧ ∀ a c, G a = some (1, c) → o ≠ some a → jLo dC dI ca G a c H
section J33
variable {dC : Nat → ClassId} {dI : Nat → Nat → Nat} {ca : Nat → ClassId} {G G1 : jT} {H H1 : Heap} {a c k r x m n : Nat} {o : Option Nat} {ks : List Nat}
theorem jLo.agree (h : jLo dC dI ca G a c H) (ha : G a = some (1, c)) (hc : 1 ≤ c ∧ c ≤ 3) (hA : jAg (dC, dI) G jFl H H1) : jLo dC dI ca G a c H1 := by
  obtain ⟨z, x, h1, h2, h3, h4⟩ := h
  refine ⟨z, x, hA.1 a 1 c 2 _ ha rfl h1, hA.1 a 1 c 1 _ ha rfl h2, h3, ?_⟩
  rcases h4 with h4 | ⟨m, f, g1, g2, g3, g4, g5⟩
  · exact Or.inl h4
  · refine Or.inr ⟨m, f, g1, g2, g3, ?_, g5⟩
    have hq1 : va_at (dC, dI) vwCl (x, .inl (ca 9, m, .inr (.inr (.inr (.inr f))))) H := g4
    refine va_at.kept hq1 (hA.2 x (220 + c) m g1 (by omega) (by omega) ?_)
    obtain rfl | rfl | rfl : c = 1 ∨ c = 2 ∨ c = 3 := by omega
    · rfl
    · rfl
    · rfl
theorem jLs.ie (h : jLs dC dI ca G k o H) : ((jFl, jLs dC dI ca G k o) : jIv).2 H ∧ ∀ H1 H2 : Heap, jAg (dC, dI) G ((jFl, jLs dC dI ca G k o) : jIv).1 H1 H2 → ((jFl, jLs dC dI ca G k o) : jIv).2 H1 → ((jFl, jLs dC dI ca G k o) : jIv).2 H2 :=
  ⟨h, fun H1 H2 hA h1 => ⟨h1.1, h1.2.1, fun a c ha hn => (h1.2.2 a c ha hn).agree ha ⟨(h1.2.1 a c ha).1, (h1.2.1 a c ha).2.2⟩ hA⟩⟩
theorem jLo.up (h : jLo dC dI ca G a c H) (hle : jLe G G1) : jLo dC dI ca G1 a c H := by
  obtain ⟨z, x, h1, h2, h3, h4⟩ := h
  refine ⟨z, x, h1, h2, h3, ?_⟩
  rcases h4 with h4 | ⟨m, f, g1, g2⟩
  · exact Or.inl h4
  · exact Or.inr ⟨m, f, hle _ _ g1, g2⟩
theorem jLs.grow (h : jLs dC dI ca G k o H) (hle : jLe G G1) (hN : jNk ks G G1) (hk : ks.contains 1 = true) : jLs dC dI ca G1 k o H :=
  ⟨fun a b c ha hb => h.1 a b c (hN a 1 c ha hk) (hN b 1 c hb hk), fun a c ha => h.2.1 a c (hN a 1 c ha hk), fun a c ha hn => (h.2.2 a c (hN a 1 c ha hk) hn).up hle⟩
theorem jLs.at (h : jLs dC dI ca G k none H) (ha : G a = some (1, c)) : jLo dC dI ca G a c H := h.2.2 a c ha (fun q => by cases q)
theorem jLs.less (h : jLs dC dI ca G k none H) (r : Nat) : jLs dC dI ca G k (some r) H := ⟨h.1, h.2.1, fun a c ha _ => h.2.2 a c ha (fun q => by cases q)⟩
theorem jLs.full (h : jLs dC dI ca G k (some r) H) (hr : G r = some (1, c)) (hl : jLo dC dI ca G r c H) : jLs dC dI ca G k none H :=
  ⟨h.1, h.2.1, fun a c' ha _ => by
    by_cases e : a = r
    · subst e
      have e1 := Option.some.inj (ha.symm.trans hr)
      cases e1
      exact hl
    · exact h.2.2 a c' ha (fun q => e (Option.some.inj q).symm)⟩
theorem jLo.cells (h : jLo dC dI ca G a c H) (h1 : H1[a]? = H[a]?) (h2 : ∀ x m, G x = some (220 + c, m) → H1[x]? = H[x]?) : jLo dC dI ca G a c H1 := by
  obtain ⟨z, x, q1, q2, q3, q4⟩ := h
  refine ⟨z, x, q1.kept h1, q2.kept h1, q3, ?_⟩
  rcases q4 with q4 | ⟨m, f, g1, g2, g3, g4, g5⟩
  · exact Or.inl q4
  · have hq1 : va_at (dC, dI) vwCl (x, .inl (ca 9, m, .inr (.inr (.inr (.inr f))))) H := g4
    exact Or.inr ⟨m, f, g1, g2, g3, va_at.kept hq1 (h2 x m g1), g5⟩
/-- a field of the open list is written -/
theorem jLs.fld (h : jLs dC dI ca G k (some r) H) (hr : G r = some (1, c)) (hq : ∀ q : Nat, q ≠ r → H1[q]? = H[q]?) : jLs dC dI ca G k (some r) H1 :=
  ⟨h.1, h.2.1, fun a c' ha hn => (h.2.2 a c' ha hn).cells (hq a (fun e => hn (by rw [e]))) (fun x m hx => hq x (fun e => by
    subst e
    have e1 := Option.some.inj (hx.symm.trans hr)
    have e2 := congrArg Prod.fst e1
    simp at e2
    omega))⟩
/-- the array of the open list is written -/
theorem jLs.arr (h : jLs dC dI ca G k (some r) H) (hr : G r = some (1, c)) (hx : G x = some (220 + c, m)) (hq : ∀ q : Nat, q ≠ x → H1[q]? = H[q]?) : jLs dC dI ca G k (some r) H1 :=
  ⟨h.1, h.2.1, fun a c' ha hn => (h.2.2 a c' ha hn).cells (hq a (fun e => by
    subst e
    have e1 := Option.some.inj (ha.symm.trans hx)
    have e2 := congrArg Prod.fst e1
    simp at e2
    omega)) (fun y m' hy => hq y (fun e => by
    subst e
    have e1 := Option.some.inj (hy.symm.trans hx)
    have e2 := congrArg Prod.fst e1
    have e3 : c' = c := by simp at e2; omega
    subst e3
    exact hn (by rw [h.1 a r c' ha hr])))⟩
end J33
theorem jRm.copy {f g1 g2 : Nat → Option Nat} {z i nz x w : Int} {n : Nat} (h : ∀ k : Nat, (k : Int) < z → f k ≠ none) (hz : nz = z - 1) (hi : 0 ≤ i) (hc : ∀ j, j < n → g1 j = if i.toNat ≤ j ∧ j < i.toNat + w.toNat then f (x.toNat + (j - i.toNat)) else f j) (hx : x = i + 1) (hw : w = nz - i) (hn : z ≤ n) (ho : ∀ j, j < n → j ≠ nz.toNat → g2 j = g1 j) : ∀ k : Nat, (k : Int) < nz → g2 k ≠ none := fun k hk => by
  rw [ho k (by omega) (by omega), hc k (by omega)]
  split
  · exact h _ (by omega)
  · exact h k (by omega)
theorem jRm.last {f g2 : Nat → Option Nat} {z nz : Int} {n : Nat} (h : ∀ k : Nat, (k : Int) < z → f k ≠ none) (hz : nz = z - 1) (hn : z ≤ n) (ho : ∀ j, j < n → j ≠ nz.toNat → g2 j = f j) : ∀ k : Nat, (k : Int) < nz → g2 k ≠ none := fun k hk => by
  rw [ho k (by omega) (by omega)]
  exact h k (by omega)
theorem jAd.put {f g : Nat → Option Nat} {z nz x : Int} {n v : Nat} (h : ∀ k : Nat, (k : Int) < z → f k ≠ none) (hz : nz = z + 1) (h0 : 0 ≤ z) (hx : x = z) (hn : nz ≤ n) (hv : g x.toNat = some v) (ho : ∀ j, j < n → j ≠ x.toNat → g j = f j) : ∀ k : Nat, (k : Int) < nz → g k ≠ none := fun k hk => by
  by_cases e : k = x.toNat
  · subst e; rw [hv]; exact fun q => by cases q
  · rw [ho k (by omega) e]; exact h k (by omega)
