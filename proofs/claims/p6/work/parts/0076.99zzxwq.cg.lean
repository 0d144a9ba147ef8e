section
-- p8: when a change is made (the reference)
theorem jdCg.ga {T : Nat → Int → Int} {v : Int} {S : Int × (Int → jdD)} (h : jdWh T v S.1 S.2 < 0) : jdCg T v S.1 S.2 ≠ 1 := by
  intro q
  unfold jdCg at q
  split at q
  · rename_i g
    omega
  · omega
theorem jdCg.gn {T : Nat → Int → Int} {v s c : Int} {d : jDtr} {fd : Nat → Option Nat} {n : Int} {x : Nat} {R : Int × Int × (Int → Int)} (hT : ∀ x, jqK T v x = 3 → 0 ≤ T 3 x) (hI : jdIr d fd n) (hs : s = jdVs T v) (hc : c = jdCc T v) (hx : 0 ≤ jdWh T v (jdRs d fd n).1 (jdRs d fd n).2 ∧ jdWh T v (jdRs d fd n).1 (jdRs d fd n).2 < n ∧ fd (jdWh T v (jdRs d fd n).1 (jdRs d fd n).2).toNat = some x)
    (h : jqK T v s ≠ 4 ∨ T 2 s ≤ (d.ve x).toInt ∨ jqK T v c ≠ 2 ∨ T 3 c < 1 ∨ 8 < T 3 c ∨ (R = jdCh T v (T 3 c).toNat (T 2 c) (d.ln x).toInt (jSo (d.tx x)) ∧ R.1 ≠ 1) ∨ ¬ jdAc T v (T 3 c).toNat (T 2 c)) : jdCg T v (jdRs d fd n).1 (jdRs d fd n).2 ≠ 1 := by
  intro q
  unfold jdCg at q
  rw [jdCg.q hx] at q
  split at q
  · rename_i g
    obtain ⟨-, g2, g3, g4, g5, g6, g7⟩ := g
    rw [← hs] at g2 g3
    rw [← hc] at g4 g5 g6
    have g3 : (d.ve x).toInt < T 2 s := g3
    have e := (jdNew.r hT (hI.2.2.2 x).1 hc rfl).1
    rcases h with h | h | h | h | h | ⟨h, h1⟩ | h
    · exact h g2
    · omega
    · exact h g4
    · omega
    · omega
    · rw [h] at h1
      exact h1 (e.symm.trans g7)
    · exact h (jdAc.of _ _ _ _ (e.symm.trans g7))
  · omega
end
