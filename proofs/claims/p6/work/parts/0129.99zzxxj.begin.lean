section
-- p8: a check begins: the State ahead, the cache
section J9H
variable {G : jT} {rw us : Nat → List Int} {bh : Nat → Option Nat} {s0 x b y : Nat} {f : Nat → Int32} {n k v v1 : Int} {l : List Nat} {R : List Int} {wf av : Value} {u : List Int}
theorem jzF.yy (h : jnQ G rw x av u) (ha : av = .ref b) (hu : u = jcU f n k.toNat) (hb : rw b = jcR f n k.toNat) (h0 : 0 ≤ k) : rw x = jcR f n (k + 1).toNat := by
  rcases h.2.2 with ⟨e, -⟩ | ⟨c, e1, -, -, e2, -⟩
  · rw [ha] at e; cases e
  · rw [ha] at e1; cases e1
    rw [e2, hu, hb, jcR.pos h0]
theorem jzF.uu (h : jnQ G rw x av u) (hU : ∀ c ∈ jcU f n k.toNat, c ≠ (-1 : Int)) (_hb : rw y = jcR f n k.toNat) (e : rw x = jcR f n (k + 1).toNat) (h0 : 0 ≤ k) : u = jcU f n k.toNat := by
  rcases h.2.2 with ⟨-, -, e0⟩ | ⟨c, e1, -, -, e2, e3⟩
  · rw [e0, jcR.pos h0] at e
    have := congrArg List.length e
    simp at this
  · rw [e2, jcR.pos h0] at e
    exact (jnE.cut e3 (jcR.en _) h.1 hU e).2
theorem jzF.ff (h : jzF l rw R wf v) (hw : wf = .ref x) : x ∈ l ∧ rw x = R := by
  rcases h with ⟨h, -⟩ | ⟨y, h, h1, h2⟩
  · rw [hw] at h; cases h
  · rw [hw] at h; cases h; exact ⟨h1, h2⟩
end J9H
end
