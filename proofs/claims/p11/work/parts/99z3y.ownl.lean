-- what a method writes of some objects only
def jOl (D : va_G) (G : jT) (k : Nat) (rs : List Nat) (H0 H : Heap) : Prop := ∀ a n i v, a ∉ rs → G a = some (k, n) → jf D k a i v H0 → jf D k a i v H
theorem jOl.rf {D : va_G} {G : jT} {k : Nat} {rs : List Nat} {H : Heap} : jOl D G k rs H H := fun _ _ _ _ _ _ h => h
theorem jOl.trL {D : va_G} {G G1 : jT} {k : Nat} {rs rs1 : List Nat} {H0 H H1 : Heap} (h : jOl D G k rs H0 H) (hle : jLe G G1) (h1 : jOl D G1 k rs1 H H1) (hs : ∀ x ∈ rs1, x ∈ rs) : jOl D G k rs H0 H1 := fun a n i v hne ha hf => h1 a n i v (fun q => hne (hs a q)) (hle _ _ ha) (h a n i v hne ha hf)
theorem jOl.trO {D : va_G} {G G1 : jT} {k r : Nat} {rs : List Nat} {H0 H H1 : Heap} (h : jOl D G k rs H0 H) (hle : jLe G G1) (h1 : jOw D G1 k r H H1) (hr : r ∈ rs) : jOl D G k rs H0 H1 := fun a n i v hne ha hf => h1 a n i v (fun q => hne (by rw [q]; exact hr)) (hle _ _ ha) (h a n i v hne ha hf)
theorem jOl.put {D : va_G} {G : jT} {k r : Nat} {rs : List Nat} {H0 H H1 : Heap} (h : jOl D G k rs H0 H) (hr : ∀ q, q ≠ r → H1[q]? = H[q]?) (hm : r ∈ rs) : jOl D G k rs H0 H1 := fun a n i v hne ha hf => (h a n i v hne ha hf).kept (hr a (fun q => hne (by rw [q]; exact hm)))
theorem jOl.ie {dC : Nat → ClassId} {dI : Nat → Nat → Nat} {G0 G : jT} {k N : Nat} {rs : List Nat} {C : String} {T : u_T} {F : List (Nat × Nat)} {H0 H : Heap} (hc : vwCl[k]? = some (C, T, N)) (hF : (List.range N).all (fun i => F.contains (k, i)) = true) (hle : jLe G0 G) (h : jOl (dC, dI) G0 k rs H0 H) : ((F, jOl (dC, dI) G0 k rs H0) : jIv).2 H ∧ ∀ H1 H2 : Heap, jAg (dC, dI) G ((F, jOl (dC, dI) G0 k rs H0) : jIv).1 H1 H2 → ((F, jOl (dC, dI) G0 k rs H0) : jIv).2 H1 → ((F, jOl (dC, dI) G0 k rs H0) : jIv).2 H2 := by
  refine ⟨h, fun H1 H2 hA h1 a n i v hne ha hf => ?_⟩
  have g := h1 a n i v hne ha hf
  have g' := g
  obtain ⟨r9, g1, g2, -⟩ := g'
  have e : r9 = (C, T, N) := Option.some.inj (g1.symm.trans hc)
  subst e
  exact hA.1 a k n i v (hle _ _ ha) (List.all_eq_true.mp hF i (List.mem_range.mpr g2)) g
theorem jn1 {a b : Nat} (h : a ≠ b) : a ∉ [b] := fun q => h (List.mem_singleton.mp q)
theorem jn2 {a b c : Nat} (h : a ≠ b) (h1 : a ≠ c) : a ∉ [b, c] := fun q => by
  rcases List.mem_cons.mp q with e | e
  · exact h e
  · exact h1 (List.mem_singleton.mp e)
theorem jnek2 {G : jT} {a b k n n1 : Nat} (h : G a = some (k, n)) (h1 : G b = some (k, n1)) (hn : n ≠ n1) : a ≠ b := fun e => by
  rw [e, h1] at h
  exact hn (Prod.mk.inj (Option.some.inj h)).2.symm
