section
-- nothing is there yet
section J51
variable {dC : Nat → ClassId} {dI : Nat → Nat → Nat} {ca : Nat → ClassId} {B : jF} {base : Nat} {G : jT} {H : Heap}
theorem jX.nil (h : ∀ a t, G a ≠ some t) : jX B base G [] H := ⟨fun a k n ha => absurd ha (h _ _), fun a t ha => absurd ha (h _ _)⟩
theorem jYb.zero (h : ∀ a t, G a ≠ some t) : jYb dC dI G H := fun a ha => absurd ha (h _ _)
theorem jSef.zero (h : ∀ a t, G a ≠ some t) : jSef dC dI G H := fun a ha => absurd ha (h _ _)
theorem jLs.zero {w : jWl9} (h : ∀ a t, G a ≠ some t) : jLs dC dI ca G 0 none w H := ⟨fun a _ _ ha => absurd ha (h _ _), fun a _ ha => absurd ha (h _ _), fun a _ ha => absurd ha (h _ _)⟩
theorem jSmm.zero (h : ∀ a t, G a ≠ some t) : ∀ N, jSmm G none (fun _ => 0) N = 0
  | 0 => rfl
  | N + 1 => by
    show jSmm G none (fun _ => 0) N + (if G N = some (3, 0) ∧ none ≠ some N then 0 else 0) = 0
    rw [jSmm.zero h N, if_neg (fun q => h _ _ q.1)]
theorem jDcc.zero (h : ∀ a t, G a ≠ some t) : jDcc dC dI ca G none 0 H := ⟨fun _ => 0, fun _ => 0, fun _ => 0, fun a _ ha => absurd ha (h _ _), fun a _ _ _ ha => absurd ha (h _ _), fun a _ _ _ ha => absurd ha (h _ _), fun a _ ha => absurd ha (h _ _), fun N => Nat.le_of_eq (jSmm.zero h N)⟩
theorem jYb.see {a x m : Nat} {c : Int32} (h : jYb dC dI G H) (ha : G a = some (2, 0)) (hc : jf (dC, dI) 2 a 1 (.int c) H) (hr : jf (dC, dI) 2 a 0 (.ref x) H) (hx : G x = some (196, m)) : c.toInt ≤ (m : Nat) ∧ m ≤ 1048576 := by
  obtain ⟨c1, x1, m1, g1, g2, g3, g4, g5⟩ := h a ha
  have e1 := jf.uniq g1 hc
  have e2 := jf.uniq g2 hr
  cases e1
  cases e2
  have e3 : m1 = m := congrArg Prod.snd (Option.some.inj (g3.symm.trans hx))
  subst e3
  exact ⟨g4, g5⟩
end J51
end
