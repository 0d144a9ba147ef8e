section
-- p8: the class parts a text: first without what the last sentence takes of the rest
theorem jcQ.app {f b e l b1 e1 l1 : Nat → Int32} {n c m i x y : Int} (h : jcQ f n b e l c) (hb : jUpd 40 b b1 c i) (he : jUpd 40 e e1 c x) (hl : jUpd 40 l l1 c y) (h0 : 0 ≤ c) (h4 : c < 40) (hi : i < n) (ei : i = jcB f n c.toNat) (ex : x = jEn f n i) (ey : y = if jSen f n i < 0 then 1 else 0) (hm : m = c + 1) : jcQ f n b1 e1 l1 m := fun k hk => by
  by_cases q : (k : Int) = c
  · have q1 : k = c.toNat := by omega
    rw [q, hb.1, he.1, hl.1, q1, ← ei]
    exact ⟨rfl, ex, ey, hi⟩
  · rw [hb.2 k (by omega) (by omega) q, he.2 k (by omega) (by omega) q, hl.2 k (by omega) (by omega) q]
    exact h k (by omega)
theorem jcQ.fix {f b e l e1 l1 : Nat → Int32} {n c x y : Int} (h : jcQ f n b e l c) (hc : c = 40) (hx : jcB f n 40 < n) (he : jUpd 40 e e1 39 x) (hl : jUpd 40 l l1 39 y) (ex : x = n) (ey : y = 2) : jcP f n b e1 c ∧ jcPf f n l1 c := by
  subst hc
  have k0 : ∀ k : Nat, (k : Int) < 39 → jcM f n k = 0 := fun k hk => by
    unfold jcM
    exact if_neg (fun q => by have := q.1; omega)
  have k1 : jcM f n 39 = 1 := if_pos ⟨rfl, hx⟩
  refine ⟨fun k hk => ?_, fun k hk => ?_⟩
  · obtain ⟨h1, h2, h3, h4⟩ := h k hk
    refine ⟨h1, ?_, h4⟩
    by_cases q : (k : Int) = 39
    · have q1 : k = 39 := by omega
      subst q1
      unfold jcE
      rw [if_pos k1, q, he.1]
      exact ex
    · rw [he.2 k (by omega) (by omega) q, h2]
      unfold jcE
      rw [k0 k (by omega), if_neg (by decide)]
  · obtain ⟨h1, h2, h3, h4⟩ := h k hk
    by_cases q : (k : Int) = 39
    · have q1 : k = 39 := by omega
      subst q1
      unfold jcF
      rw [if_pos k1, q, hl.1]
      exact ey
    · rw [hl.2 k (by omega) (by omega) q, h3]
      unfold jcF
      rw [k0 k (by omega)]
      exact (if_neg (by decide : ¬ ((0 : Int) = 1))).symm
theorem jcPc.app {f l l1 : Nat → Int32} {n c m x : Int} (h : jcPc f n l c) (hl : jUpd 40 l l1 c x) (h0 : 0 ≤ c) (h4 : c < 40) (ex : x = jcC f n c.toNat) (hm : m = c + 1) : jcPc f n l1 m := fun k hk => by
  by_cases q : (k : Int) = c
  · have q1 : k = c.toNat := by omega
    rw [q, hl.1, q1]
    exact ex
  · rw [hl.2 k (by omega) (by omega) q]
    exact h k (by omega)
theorem jcC.t {f : Nat → Int32} {n x t : Int} {k : Nat} (h : ¬ 0 < jcF f n k) (ht : t = jcK f n (jcE f n k) ((jcE f n k - jcB f n k).toNat + 1) (jcB f n k)) (hx : x = 3 + t) : x = jcC f n k := by
  unfold jcC; rw [if_neg h, ← ht]; exact hx
end
