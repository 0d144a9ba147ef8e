section
-- nothing is there yet
section J51
variable {dC : Nat → ClassId} {dI : Nat → Nat → Nat} {ca : Nat → ClassId} {B : jF} {base : Nat} {G : jT} {H : Heap}
theorem jL09 {D : va_G} {q1 q2 q3 q4 q5 q6 : jIv} (h1 : q1.2 H ∧ ∀ H1 H2 : Heap, jAg D G q1.1 H1 H2 → q1.2 H1 → q1.2 H2) (h2 : q2.2 H ∧ ∀ H1 H2 : Heap, jAg D G q2.1 H1 H2 → q2.2 H1 → q2.2 H2) (h3 : q3.2 H ∧ ∀ H1 H2 : Heap, jAg D G q3.1 H1 H2 → q3.2 H1 → q3.2 H2) (h4 : q4.2 H ∧ ∀ H1 H2 : Heap, jAg D G q4.1 H1 H2 → q4.2 H1 → q4.2 H2) (h5 : q5.2 H ∧ ∀ H1 H2 : Heap, jAg D G q5.1 H1 H2 → q5.2 H1 → q5.2 H2) (h6 : q6.2 H ∧ ∀ H1 H2 : Heap, jAg D G q6.1 H1 H2 → q6.2 H1 → q6.2 H2) : jIs D G H [q1, q2, q3, q4, q5, q6] := by
  intro q hq
  simp only [List.mem_cons, List.not_mem_nil, or_false] at hq
  rcases hq with rfl | rfl | rfl | rfl | rfl | rfl
  · exact h1
  · exact h2
  · exact h3
  · exact h4
  · exact h5
  · exact h6
theorem jYb.see {a x m : Nat} {c : Int32} (h : jYb dC dI G H) (ha : G a = some (2, 0)) (hc : jf (dC, dI) 2 a 1 (.int c) H) (hr : jf (dC, dI) 2 a 0 (.ref x) H) (hx : G x = some (196, m)) : c.toInt ≤ (m : Nat) ∧ m ≤ 1048576 := by
  obtain ⟨c1, x1, m1, g1, g2, g3, g4, g5⟩ := h a ha
  have e1 := jf.uniq g1 hc
  have e2 := jf.uniq g2 hr
  cases e1
  cases e2
  have e3 : m1 = m := congrArg Prod.snd (Option.some.inj (g3.symm.trans hx))
  subst e3
  exact ⟨g4, g5⟩
end J51
end
