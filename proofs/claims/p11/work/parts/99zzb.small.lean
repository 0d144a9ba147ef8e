-- Bytes that stay small; new Bytes
theorem jPw.h128 {n : Nat} (h : jPw n) (h1 : n < 128) : n ≤ 64 := by
  obtain ⟨k, hk, rfl⟩ := h
  by_cases q : k ≤ 2
  · have h4 : 2 ^ k ≤ 2 ^ 2 := Nat.pow_le_pow_right (by decide) q
    have h3 : (2 : Nat) ^ 2 = 4 := by decide
    omega
  · have h4 : 2 ^ 3 ≤ 2 ^ k := Nat.pow_le_pow_right (by decide) (by omega)
    have h3 : (2 : Nat) ^ 3 = 8 := by decide
    omega
theorem jPw.z16 : jPw 16 := ⟨0, by decide, by decide⟩
theorem jYb.typ {dC : Nat → ClassId} {dI : Nat → Nat → Nat} {G : jT} {r n : Nat} {H : Heap} (h : jYb dC dI G H) (hn : ∀ t, G r ≠ some t) (hr : n = 0 → ∃ (c : Int32) (x m : Nat), jf (dC, dI) 2 r 1 (.int c) H ∧ jf (dC, dI) 2 r 0 (.ref x) H ∧ G x = some (196, m) ∧ c.toInt ≤ m ∧ m ≤ 1048576) : jYb dC dI (va_up G r (some (2, n))) H := fun a ha => by
  have hle : jLe G (va_up G r (some (2, n))) := jLe.typ hn
  by_cases e : a = r
  · subst e
    have e1 : some (2, n) = some (2, 0) := jUp_self.symm.trans ha
    have e2 : n = 0 := congrArg Prod.snd (Option.some.inj e1)
    obtain ⟨c, x, m, g1, g2, g3, g4, g5⟩ := hr e2
    exact ⟨c, x, m, g1, g2, hle _ _ g3, g4, g5⟩
  · rw [va_up_ne _ _ e] at ha
    obtain ⟨c, x, m, g1, g2, g3, g4, g5⟩ := h a ha
    exact ⟨c, x, m, g1, g2, hle _ _ g3, g4, g5⟩
/-- what a callee writes of an object that is new -/
theorem jOl.trN {D : va_G} {G G1 : jT} {k r : Nat} {rs : List Nat} {H0 H H1 : Heap} (h : jOl D G k rs H0 H) (hle : jLe G G1) (h1 : jOw D G1 k r H H1) (hr : ∀ t, G r ≠ some t) : jOl D G k rs H0 H1 := fun a n i v hne ha hf => h1 a n i v (fun q => hr _ (by rw [← q]; exact ha)) (hle _ _ ha) (h a n i v hne ha hf)
theorem jOl.putN {D : va_G} {G : jT} {k r : Nat} {rs : List Nat} {H0 H H1 : Heap} (h : jOl D G k rs H0 H) (hr : ∀ q, q ≠ r → H1[q]? = H[q]?) (hm : ∀ t, G r ≠ some t) : jOl D G k rs H0 H1 := fun a n i v hne ha hf => (h a n i v hne ha hf).kept (hr a (fun q => hm _ (by rw [← q]; exact ha)))
/-- a new list -/
theorem jLs.typ {dC : Nat → ClassId} {dI : Nat → Nat → Nat} {ca : Nat → ClassId} {G : jT} {k r : Nat} {H : Heap} (h : jLs dC dI ca G k none H) (hn : ∀ t, G r ≠ some t) (h1 : jf (dC, dI) 1 r 2 (.int 0) H) (h2 : jf (dC, dI) 1 r 1 (.ref (dI 99 0)) H) (hk : k + 1 ≤ 3) : jLs dC dI ca (va_up G r (some (1, k + 1))) (k + 1) none H := by
  have hle : jLe G (va_up G r (some (1, k + 1))) := jLe.typ hn
  have key : ∀ a c, va_up G r (some (1, k + 1)) a = some (1, c) → (a = r ∧ c = k + 1) ∨ (a ≠ r ∧ G a = some (1, c)) := fun a c ha => by
    by_cases e : a = r
    · subst e
      have e1 : some (1, k + 1) = some (1, c) := jUp_self.symm.trans ha
      exact Or.inl ⟨rfl, (congrArg Prod.snd (Option.some.inj e1)).symm⟩
    · rw [va_up_ne _ _ e] at ha
      exact Or.inr ⟨e, ha⟩
  refine ⟨fun a b c ha hb => ?_, fun a c ha => ?_, fun a c ha _ => ?_⟩
  · rcases key a c ha with ⟨rfl, rfl⟩ | ⟨-, ha1⟩
    · rcases key b _ hb with ⟨rfl, -⟩ | ⟨-, hb1⟩
      · rfl
      · have := (h.2.1 b _ hb1).2.1
        omega
    · rcases key b _ hb with ⟨-, rfl⟩ | ⟨-, hb1⟩
      · have := (h.2.1 a _ ha1).2.1
        omega
      · exact h.1 a b c ha1 hb1
  · rcases key a c ha with ⟨-, rfl⟩ | ⟨-, ha1⟩
    · omega
    · have := h.2.1 a c ha1
      omega
  · rcases key a c ha with ⟨rfl, rfl⟩ | ⟨-, ha1⟩
    · refine ⟨0, dI 99 0, h1, h2, ⟨by decide, ?_⟩, Or.inl ⟨rfl, by decide⟩⟩
      show (0 : Int) ≤ jLb (k + 1)
      unfold jLb
      split
      · omega
      · split <;> omega
    · exact (h.2.2 a c ha1 (fun q => by cases q)).up hle
def jJq (fk fi fz : Nat → Int32) (pv : Int) : Prop := ∀ i : Int, 0 ≤ i → i < pv → jSo fk i = 3 → 0 ≤ jSo fi i ∧ 0 ≤ jSo fz i ∧ jSo fi i + jSo fz i ≤ 3000
def jTen (v k : Int) : Prop := 0 ≤ k ∧ v = 10 ^ k.toNat / 10
theorem jTen.z : jTen 1000000000 10 := ⟨by omega, by decide⟩
theorem jTen.pos {v k : Int} (h : jTen v k) (hv : 0 < v) : 1 ≤ k := by
  obtain ⟨h0, e⟩ := h
  by_cases q : k = 0
  · subst q
    have e2 : (10 : Int) ^ (0 : Int).toNat / 10 = 0 := by decide
    omega
  · omega
theorem jTen.step {v k v1 k1 : Int} (h : jTen v k) (hv : v1 = v / 10) (hk : k1 = k - 1) (h1 : 1 ≤ k) : jTen v1 k1 := by
  obtain ⟨h0, e⟩ := h
  refine ⟨by omega, ?_⟩
  have e1 : k.toNat = k1.toNat + 1 := by omega
  rw [hv, e, e1, Int.pow_succ, Int.mul_ediv_cancel _ (by decide)]
