section
theorem dX14_unit__0 : decode cX14_unit_ 0 = .ok (.iload_n 1, 1) := by decide +kernel
theorem dX14_unit__1 : decode cX14_unit_ 1 = .ok (.ifCond .lt 42, 3) := by decide +kernel
theorem dX14_unit__4 : decode cX14_unit_ 4 = .ok (.iload_n 1, 1) := by decide +kernel
theorem dX14_unit__5 : decode cX14_unit_ 5 = .ok (.aload_n 0, 1) := by decide +kernel
theorem dX14_unit__6 : decode cX14_unit_ 6 = .ok (.getfield 505, 3) := by decide +kernel
theorem dX14_unit__9 : decode cX14_unit_ 9 = .ok (.if_icmp .ge 34, 3) := by decide +kernel
theorem dX14_unit__12 : decode cX14_unit_ 12 = .ok (.iload_n 2, 1) := by decide +kernel
theorem dX14_unit__13 : decode cX14_unit_ 13 = .ok (.ifCond .lt 30, 3) := by decide +kernel
theorem dX14_unit__16 : decode cX14_unit_ 16 = .ok (.iload_n 2, 1) := by decide +kernel
theorem dX14_unit__17 : decode cX14_unit_ 17 = .ok (.aload_n 0, 1) := by decide +kernel
theorem dX14_unit__18 : decode cX14_unit_ 18 = .ok (.getfield 74, 3) := by decide +kernel
theorem dX14_unit__21 : decode cX14_unit_ 21 = .ok (.iload_n 1, 1) := by decide +kernel
theorem dX14_unit__22 : decode cX14_unit_ 22 = .ok (.aaload, 1) := by decide +kernel
theorem dX14_unit__23 : decode cX14_unit_ 23 = .ok (.getfield 526, 3) := by decide +kernel
theorem dX14_unit__26 : decode cX14_unit_ 26 = .ok (.if_icmp .ge 17, 3) := by decide +kernel
theorem dX14_unit__29 : decode cX14_unit_ 29 = .ok (.aload_n 0, 1) := by decide +kernel
theorem dX14_unit__30 : decode cX14_unit_ 30 = .ok (.getfield 74, 3) := by decide +kernel
theorem dX14_unit__33 : decode cX14_unit_ 33 = .ok (.iload_n 1, 1) := by decide +kernel
theorem dX14_unit__34 : decode cX14_unit_ 34 = .ok (.aaload, 1) := by decide +kernel
theorem dX14_unit__35 : decode cX14_unit_ 35 = .ok (.getfield 529, 3) := by decide +kernel
theorem dX14_unit__38 : decode cX14_unit_ 38 = .ok (.iload_n 2, 1) := by decide +kernel
theorem dX14_unit__39 : decode cX14_unit_ 39 = .ok (.iaload, 1) := by decide +kernel
theorem dX14_unit__40 : decode cX14_unit_ 40 = .ok (.goto 4, 3) := by decide +kernel
theorem dX14_unit__43 : decode cX14_unit_ 43 = .ok (.iconst (-1), 1) := by decide +kernel
theorem dX14_unit__44 : decode cX14_unit_ 44 = .ok (.ireturn, 1) := by decide +kernel
end
section
-- p9: what unit answers
section
variable {t : jDtl} {w : jWl9} {tr : jDtr} {fd : Nat → Option Nat} {c d i : Int} {a : Nat}
theorem jdUn.rn (h0 : 0 ≤ d) (h1 : d < c) (he : fd d.toNat = some a) (hi : (tr.ln a).toInt ≤ i) : jdUn (jdRs tr fd c).1 (jdRs tr fd c).2 d i = -1 := by
  have e : (jdRs tr fd c).2 d = jdR1 tr a := jdLi.at h0 h1 he
  exact if_pos (Or.inr (Or.inr (Or.inr (by rw [e]; exact hi))))
theorem jdUn.ry (h0 : 0 ≤ d) (h1 : d < c) (he : fd d.toNat = some a) (i0 : 0 ≤ i) (hi : i < (tr.ln a).toInt) : jdUn (jdRs tr fd c).1 (jdRs tr fd c).2 d i = jSo (tr.tx a) i := by
  have e : (jdRs tr fd c).2 d = jdR1 tr a := jdLi.at h0 h1 he
  unfold jdUn
  rw [if_neg (by rw [e]; show ¬ (d < 0 ∨ c ≤ d ∨ i < 0 ∨ (tr.ln a).toInt ≤ i); omega), e]
  exact jdKp.at i0 hi
end
end
