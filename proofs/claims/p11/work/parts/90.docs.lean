-- the documents of the reference: their sentences are in order (an invariant with a footprint; x: the document that is being changed)
abbrev jFd : List (Nat × Nat) := [(14, 4), (14, 5), (14, 6), (14, 7), (14, 9), (190, 0), (191, 0)]
def jD14 (dC : Nat → ClassId) (dI : Nat → Nat → Nat) (ca : Nat → ClassId) (G : jT) (a yb ye : Nat) (H : Heap) : Prop := ∃ (fb fe : Nat → Int32) (ps pz pc : Int32), G yb = some (190, 40) ∧ G ye = some (191, 40) ∧ jP (dC, dI) G H [(a, 14, 6, .ref yb), (a, 14, 7, .ref ye), (a, 14, 5, .int ps), (a, 14, 4, .int pz), (a, 14, 9, .int pc)] ∧ jMc (dC, dI) G H [(yb, 190, 40, ca 1, fb), (ye, 191, 40, ca 1, fe)] ∧ jSrt fb fe ps.toInt pz.toInt ∧ 0 ≤ pc.toInt ∧ pc.toInt ≤ ps.toInt ∧ ps.toInt ≤ 40 ∧ 0 ≤ pz.toInt ∧ pz.toInt ≤ 1500
def jDX (dC : Nat → ClassId) (dI : Nat → Nat → Nat) (ca : Nat → ClassId) (G : jT) (x : Option Nat) (H : Heap) : Prop := ∃ Yb Ye : Nat → Nat, (∀ a, G a = some (14, 0) → jf (dC, dI) 14 a 6 (.ref (Yb a)) H ∧ jf (dC, dI) 14 a 7 (.ref (Ye a)) H) ∧ (∀ a b, G a = some (14, 0) → G b = some (14, 0) → Yb a = Yb b → a = b) ∧ (∀ a b, G a = some (14, 0) → G b = some (14, 0) → Ye a = Ye b → a = b) ∧ ∀ a, G a = some (14, 0) → some a ≠ x → jD14 dC dI ca G a (Yb a) (Ye a) H
theorem jf.ag14 {D : va_G} {G : jT} {H H1 : Heap} {a i : Nat} {v : Value} (hA : jAg D G jFd H H1) (ha : G a = some (14, 0)) (hi : jFd.contains (14, i) = true) (h : jf D 14 a i v H) : jf D 14 a i v H1 := hA.1 a 14 0 i v ha hi h
theorem jD14.ag {dC : Nat → ClassId} {dI : Nat → Nat → Nat} {ca : Nat → ClassId} {G : jT} {a yb ye : Nat} {H H1 : Heap} (h : jD14 dC dI ca G a yb ye H) (ha : G a = some (14, 0)) (hA : jAg (dC, dI) G jFd H H1) : jD14 dC dI ca G a yb ye H1 := by
  obtain ⟨fb, fe, ps, pz, pc, g1, g2, g3, g4, g5⟩ := h
  refine ⟨fb, fe, ps, pz, pc, g1, g2, fun q hq => ?_, fun q hq => ?_, g5⟩
  · obtain ⟨q1, q2⟩ := g3 q hq
    refine ⟨q1, ?_⟩
    simp only [List.mem_cons, List.not_mem_nil, or_false] at hq
    rcases hq with rfl | rfl | rfl | rfl | rfl <;> exact jf.ag14 hA ha rfl q2
  · obtain ⟨q1, q2, q3, q4⟩ := g4 q hq
    refine ⟨q1, q2, q3, q4.kept ?_⟩
    simp only [List.mem_cons, List.not_mem_nil, or_false] at hq
    rcases hq with rfl | rfl
    · exact hA.2 _ _ _ q1 q2 q3 rfl
    · exact hA.2 _ _ _ q1 q2 q3 rfl
theorem jDX.ag {dC : Nat → ClassId} {dI : Nat → Nat → Nat} {ca : Nat → ClassId} {G : jT} {x : Option Nat} {H H1 : Heap} (hA : jAg (dC, dI) G jFd H H1) (h : jDX dC dI ca G x H) : jDX dC dI ca G x H1 := by
  obtain ⟨Yb, Ye, h1, h2, h3, h4⟩ := h
  exact ⟨Yb, Ye, fun a ha => ⟨jf.ag14 hA ha rfl (h1 a ha).1, jf.ag14 hA ha rfl (h1 a ha).2⟩, h2, h3, fun a ha hx => (h4 a ha hx).ag ha hA⟩
theorem jDX.is {dC : Nat → ClassId} {dI : Nat → Nat → Nat} {ca : Nat → ClassId} {G : jT} {x : Option Nat} {H : Heap} (h : jDX dC dI ca G x H) : jIs (dC, dI) G H [(jFd, jDX dC dI ca G x)] := fun q hq => by
  cases List.mem_singleton.mp hq
  exact ⟨h, fun H1 H2 hA hH => jDX.ag hA hH⟩
/-- what is known of one document -/
theorem jDX.at {dC : Nat → ClassId} {dI : Nat → Nat → Nat} {ca : Nat → ClassId} {G : jT} {x : Option Nat} {H : Heap} (h : jDX dC dI ca G x H) {a : Nat} (ha : G a = some (14, 0)) (hx : some a ≠ x) : ∃ yb ye, jD14 dC dI ca G a yb ye H := by
  obtain ⟨Yb, Ye, -, -, -, h4⟩ := h
  exact ⟨_, _, h4 a ha hx⟩
theorem jDX.less {dC : Nat → ClassId} {dI : Nat → Nat → Nat} {ca : Nat → ClassId} {G : jT} {H : Heap} (h : jDX dC dI ca G none H) (x : Option Nat) : jDX dC dI ca G x H := by
  obtain ⟨Yb, Ye, h1, h2, h3, h4⟩ := h
  exact ⟨Yb, Ye, h1, h2, h3, fun a ha _ => h4 a ha (fun q => by cases q)⟩
