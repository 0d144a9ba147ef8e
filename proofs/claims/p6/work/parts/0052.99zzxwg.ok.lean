section
-- p8: what holds of the machine between two steps
section J89
variable {S : Int × (Int → jdD)} {Z : jwSt} {w d : Int}
theorem jwAk.e {k : Int} (h : 2 ≤ k) : jwAk S Z k = jwAd S (jwAd S Z 0) 1 := by
  unfold jwAk
  rw [if_neg (by omega), if_neg (by omega)]
theorem jwAd.no (h : (Z.2.1 w).1 < 0) (h1 : ((jwTk S Z w).2.1 w).1 < 0) : jwAd S Z w = jwTk S Z w := by
  unfold jwAd
  rw [if_pos h]
  exact if_pos h1
theorem jwAd.ha (h : ¬ (Z.2.1 w).1 < 0) : jwAd S Z w = jwDo S Z w := by
  unfold jwAd
  rw [if_neg h]
theorem jwDo.fi (h : 0 ≤ (Z.2.1 w).1) (h1 : (Z.2.1 w).2 ≤ 1) (e : d = (Z.2.1 w).1) : jwFin S (jwDc Z w) w d = jwDo S Z w := by
  subst e
  unfold jwDo
  rw [if_neg (by omega), if_pos h1, jwFin.dc]
theorem jwWk.e {k : Nat} (h : k = 0 ∨ jwHs S Z ≠ 1) : jwWk S k Z = (0, Z) := by
  cases k with
  | zero => rfl
  | succ k => exact if_neg (h.resolve_left (by omega))
end J89
end
