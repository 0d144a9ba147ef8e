-- the documents of the reference while it is made
abbrev jFz9 : List (Nat × Nat) := [(14, 5), (14, 6), (14, 7), (14, 9), (190, 0), (191, 0)]
def jDZ (dC : Nat → ClassId) (dI : Nat → Nat → Nat) (G : jT) (H : Heap) : Prop := ∃ Yb Ye : Nat → Nat, (∀ a, G a = some (14, 0) → jf (dC, dI) 14 a 6 (.ref (Yb a)) H ∧ jf (dC, dI) 14 a 7 (.ref (Ye a)) H ∧ G (Yb a) = some (190, 40) ∧ G (Ye a) = some (191, 40)) ∧ (∀ a b, G a = some (14, 0) → G b = some (14, 0) → Yb a = Yb b → a = b) ∧ (∀ a b, G a = some (14, 0) → G b = some (14, 0) → Ye a = Ye b → a = b) ∧ ∀ a, G a = some (14, 0) → jf (dC, dI) 14 a 5 (.int 0) H ∧ jf (dC, dI) 14 a 9 (.int 0) H
section J45
variable {dC : Nat → ClassId} {dI : Nat → Nat → Nat} {ca : Nat → ClassId} {G G1 : jT} {H : Heap}
theorem jDZ.zero (h : ∀ a t, G a ≠ some t) : jDZ dC dI G H := ⟨fun _ => 0, fun _ => 0, fun a ha => absurd ha (h _ _), fun a _ ha => absurd ha (h _ _), fun a _ ha => absurd ha (h _ _), fun a ha => absurd ha (h _ _)⟩
theorem jDZ.ie (h : jDZ dC dI G H) : ((jFz9, jDZ dC dI G) : jIv).2 H ∧ ∀ H1 H2 : Heap, jAg (dC, dI) G ((jFz9, jDZ dC dI G) : jIv).1 H1 H2 → ((jFz9, jDZ dC dI G) : jIv).2 H1 → ((jFz9, jDZ dC dI G) : jIv).2 H2 := by
  refine ⟨h, fun H1 H2 hA hq => ?_⟩
  obtain ⟨Yb, Ye, h1, h2, h3, h4⟩ := hq
  refine ⟨Yb, Ye, fun a ha => ?_, h2, h3, fun a ha => ?_⟩
  · obtain ⟨g1, g2, g3, g4⟩ := h1 a ha
    exact ⟨hA.1 a 14 0 6 _ ha rfl g1, hA.1 a 14 0 7 _ ha rfl g2, g3, g4⟩
  · obtain ⟨g1, g2⟩ := h4 a ha
    exact ⟨hA.1 a 14 0 5 _ ha rfl g1, hA.1 a 14 0 9 _ ha rfl g2⟩
theorem jDZ.grow (h : jDZ dC dI G H) (hle : jLe G G1) (hn : jN14 G G1) : jDZ dC dI G1 H := by
  obtain ⟨Yb, Ye, h1, h2, h3, h4⟩ := h
  refine ⟨Yb, Ye, fun a ha => ?_, fun a b ha hb => h2 a b (hn a ha) (hn b hb), fun a b ha hb => h3 a b (hn a ha) (hn b hb), fun a ha => h4 a (hn a ha)⟩
  obtain ⟨g1, g2, g3, g4⟩ := h1 a (hn a ha)
  exact ⟨g1, g2, hle _ _ g3, hle _ _ g4⟩
theorem jDZ.typ {r yb ye : Nat} (h : jDZ dC dI G H) (hn : ∀ t, G r ≠ some t) (h5 : jf (dC, dI) 14 r 5 (.int 0) H) (h9 : jf (dC, dI) 14 r 9 (.int 0) H) (h6 : jf (dC, dI) 14 r 6 (.ref yb) H) (h7 : jf (dC, dI) 14 r 7 (.ref ye) H) (hb : G yb = some (190, 40)) (he : G ye = some (191, 40))
    (hd : ∀ a, G a = some (14, 0) → ∀ y, (jf (dC, dI) 14 a 6 (.ref y) H → y ≠ yb) ∧ (jf (dC, dI) 14 a 7 (.ref y) H → y ≠ ye)) : jDZ dC dI (va_up G r (some (14, 0))) H := by
  have hle : jLe G (va_up G r (some (14, 0))) := jLe.typ hn
  obtain ⟨Yb, Ye, g1, g2, g3, g4⟩ := h
  have key : ∀ a, va_up G r (some (14, 0)) a = some (14, 0) → a = r ∨ (a ≠ r ∧ G a = some (14, 0)) := fun a ha => by
    by_cases e : a = r
    · exact Or.inl e
    · rw [va_up_ne _ _ e] at ha
      exact Or.inr ⟨e, ha⟩
  refine ⟨fun b => if b = r then yb else Yb b, fun b => if b = r then ye else Ye b, fun a ha => ?_, fun a b ha hb1 e => ?_, fun a b ha hb1 e => ?_, fun a ha => ?_⟩
  · rcases key a ha with rfl | ⟨ne, ha1⟩
    · simp only [if_pos]
      exact ⟨h6, h7, hle _ _ hb, hle _ _ he⟩
    · obtain ⟨q1, q2, q3, q4⟩ := g1 a ha1
      simp only [if_neg ne]
      exact ⟨q1, q2, hle _ _ q3, hle _ _ q4⟩
  · rcases key a ha with rfl | ⟨ne, ha1⟩
    · rcases key b hb1 with rfl | ⟨ne', hb2⟩
      · rfl
      · simp only [if_pos, if_neg ne'] at e
        exact absurd e.symm (((hd b hb2 (Yb b)).1) (g1 b hb2).1)
    · rcases key b hb1 with rfl | ⟨ne', hb2⟩
      · simp only [if_pos, if_neg ne] at e
        exact absurd e (((hd a ha1 (Yb a)).1) (g1 a ha1).1)
      · simp only [if_neg ne, if_neg ne'] at e
        exact g2 a b ha1 hb2 e
  · rcases key a ha with rfl | ⟨ne, ha1⟩
    · rcases key b hb1 with rfl | ⟨ne', hb2⟩
      · rfl
      · simp only [if_pos, if_neg ne'] at e
        exact absurd e.symm (((hd b hb2 (Ye b)).2) (g1 b hb2).2.1)
    · rcases key b hb1 with rfl | ⟨ne', hb2⟩
      · simp only [if_pos, if_neg ne] at e
        exact absurd e (((hd a ha1 (Ye a)).2) (g1 a ha1).2.1)
      · simp only [if_neg ne, if_neg ne'] at e
        exact g3 a b ha1 hb2 e
  · rcases key a ha with rfl | ⟨ne, ha1⟩
    · exact ⟨h5, h9⟩
    · exact g4 a ha1
theorem jDZ.fresh {G0 : jT} {H0 : Heap} {r yb ye : Nat} (h : jDZ dC dI G0 H0) (hab : ∀ a t, G0 a = some t → a < H0.size) (hr : ∀ t, G0 r ≠ some t) (hn : jN14 G0 G) (hk : jKx r G0 G H0 H) (hb : H0.size ≤ yb) (he : H0.size ≤ ye) : ∀ a, G a = some (14, 0) → ∀ y, (jf (dC, dI) 14 a 6 (.ref y) H → y ≠ yb) ∧ (jf (dC, dI) 14 a 7 (.ref y) H → y ≠ ye) := fun a ha y => by
  have h0 := hn a ha
  obtain ⟨Yb, Ye, h1, -⟩ := h
  obtain ⟨q1, q2, q3, q4⟩ := h1 a h0
  have c : H[a]? = H0[a]? := hk.1 a (hab _ _ h0) (fun e => hr _ (by rw [← e]; exact h0))
  have l1 := hab _ _ q3
  have l2 := hab _ _ q4
  refine ⟨fun g => ?_, fun g => ?_⟩
  · have e := jf.uniq g (q1.kept c)
    cases e
    exact Nat.ne_of_lt (Nat.lt_of_lt_of_le l1 hb)
  · have e := jf.uniq g (q2.kept c)
    cases e
    exact Nat.ne_of_lt (Nat.lt_of_lt_of_le l2 he)
theorem jDZ.dy {B : jF} {base : Nat} {P Q : Nat → Int32 → Prop} (h : jDZ dC dI G H) (hX : jX B base G [] H) (hb : ∀ n G a H, B 190 n G a H ↔ jAr (dC, dI) (ca 1) P n a H) (he : ∀ n G a H, B 191 n G a H ↔ jAr (dC, dI) (ca 1) Q n a H) : jDY dC dI ca G none (fun _ => 0) H := by
  obtain ⟨Yb, Ye, h1, h2, h3, h4⟩ := h
  refine ⟨Yb, Ye, h1, h2, h3, fun a ha _ => ?_⟩
  obtain ⟨g1, g2, g3, g4⟩ := h1 a ha
  obtain ⟨fb, b1, -⟩ := (hb _ _ _ _).mp (hX.1 _ _ _ g3 (by decide) (fun q => by cases q))
  obtain ⟨fe, e1, -⟩ := (he _ _ _ _).mp (hX.1 _ _ _ g4 (by decide) (fun q => by cases q))
  have hsr : jSrt fb fe ((0 : Int32)).toInt 1500 := by
    rw [show (0 : Int32).toInt = 0 by decide]
    exact jSrt.nil _ _ _
  refine ⟨fb, fe, g3, g4, fun q hq => ?_, fun q hq => ?_, hsr, (by show (0 : Int) ≤ (0 : Int32).toInt; decide), (by show (0 : Int32).toInt ≤ 40; decide)⟩
  · simp only [List.mem_cons, List.not_mem_nil, or_false] at hq
    rcases hq with rfl | rfl | rfl
    · exact ⟨⟨_, ha⟩, g1⟩
    · exact ⟨⟨_, ha⟩, g2⟩
    · exact ⟨⟨_, ha⟩, (h4 a ha).1⟩
  · simp only [List.mem_cons, List.not_mem_nil, or_false] at hq
    rcases hq with rfl | rfl
    · exact ⟨g3, (by show (17 : Nat) ≤ 190; decide), (by show (190 : Nat) < 1000; decide), b1⟩
    · exact ⟨g4, (by show (17 : Nat) ≤ 191; decide), (by show (191 : Nat) < 1000; decide), e1⟩
theorem jDZ.vl (h : jDZ dC dI G H) : jVl dC dI G 9 (fun _ => 0) H := by
  obtain ⟨Yb, Ye, h1, h2, h3, h4⟩ := h
  exact fun a ha => (h4 a ha).2
theorem jPu.zero {fd fo : Nat → Option Nat} {fs : Nat → Int32} {dc : Int} {a b c ol nw td : Nat} (h0 : fd 0 = some a) (h1 : fd 1 = some b) (h2 : fd 2 = some c) (ha : a < b) (hb : b < c) (hc : c < ol) (ho : ol < nw) (hn : nw < td) (hf : ∀ w, w < 2 → fo w = none) : jPu (fun _ => 0) (fun _ => 0) fd fo fs dc ol nw td := by
  have c3 : ∀ i, i < 3 → i = 0 ∨ i = 1 ∨ i = 2 := fun i h => by omega
  refine ⟨fun i hi => ?_, fun i j hi hj e => ?_, fun i a hi _ => Int.le_refl _, fun w hw => Or.inl (hf w hw)⟩
  · rcases c3 i hi with rfl | rfl | rfl
    · rw [h0]; exact ⟨fun e => by cases e; omega, fun e => by cases e; omega, fun e => by cases e; omega⟩
    · rw [h1]; exact ⟨fun e => by cases e; omega, fun e => by cases e; omega, fun e => by cases e; omega⟩
    · rw [h2]; exact ⟨fun e => by cases e; omega, fun e => by cases e; omega, fun e => by cases e; omega⟩
  · rcases c3 i hi with rfl | rfl | rfl <;> rcases c3 j hj with rfl | rfl | rfl <;> first | rfl | (simp only [h0, h1, h2, Option.some.injEq] at e; omega)
theorem jQs3 {G1 : jT} {k n a b c : Nat} (hle : jLe G G1) (ha : G a = some (k, n)) (hb : G b = some (k, n)) (hc : G c = some (k, n)) : ∀ j, j < 3 → jQs k n G1 (va_up (va_up (va_up (fun _ => none) 0 (some a)) 1 (some b)) 2 (some c) j) := fun j hj => by
  rcases (by omega : j = 0 ∨ j = 1 ∨ j = 2) with rfl | rfl | rfl
  · exact ⟨a, by simp [va_up], hle _ _ ha⟩
  · exact ⟨b, by simp [va_up], hle _ _ hb⟩
  · exact ⟨c, by simp [va_up], hle _ _ hc⟩
/-- what the reference's constructor leaves of its documents and of its JSON -/
def jRo (dC : Nat → ClassId) (dI : Nat → Nat → Nat) (ca : Nat → ClassId) (G : jT) (r : Nat) (H : Heap) : Prop := ∃ dd co cs ol nw td xb xe : Nat, G dd = some (201, 3) ∧ G co = some (208, 2) ∧ G cs = some (207, 2) ∧ G ol = some (14, 0) ∧ G nw = some (14, 0) ∧ G td = some (14, 0) ∧ G xb = some (122, 3100) ∧ G xe = some (123, 3100) ∧ jDV dC dI ca G r dd co cs ol nw td H ∧ jP (dC, dI) G H [(r, 16, 22, .ref xb), (r, 16, 23, .ref xe)] ∧ jIs (dC, dI) G H [(jFt, jFT dC dI ca G xb xe)]
end J45
