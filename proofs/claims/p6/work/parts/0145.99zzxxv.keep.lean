section
-- p8: what is kept of a text that has changed
section J9R
variable {G : jT} {rw us : Nat → List Int} {x : Nat} {f g : Nat → Int32} {n m k v v1 pk ps : Int} {av : Value} {u : List Int}
theorem jzKq.ch {q : jKg} {a y : Nat} (h : jzKq G q us rw a f n pk) (e : q.cv a = .ref y) : us y = jcU f n pk.toNat ∧ pk < jPar f n := by
  rcases h.2.2.2 with c | ⟨z, c1, c2⟩
  · rw [e] at c; cases c
  · rw [e] at c1; cases c1; exact c2
end J9R
end
