section
-- p8: equal units have equal flaws; what a sentence costs
section
variable {f g : Nat → Int32} {d lo hi n m : Int}
end
section
variable {f : Nat → Int32} {n e i i1 : Int}
variable {k : Nat} {c : Int}
end
theorem jcBd {x : Int} (h : jBlk x = 1) : x = 32 ∨ x = 9 ∨ x = 10 ∨ x = 13 := by
  unfold jBlk at h
  split at h
  · rename_i w; exact w
  · omega
end
section
-- p8: what is told of all documents of the class: sentences, what is checked, the check that goes on (written by mkent.py)
section J81
variable {dC : Nat → ClassId} {dI : Nat → Nat → Nat} {ca : Nat → ClassId} {G G1 : jT} {H H1 : Heap} {x : Option Nat} {q : jKg}
variable {a ysb yse ysc ybh : Nat} {sn : Int32} {ck : Int32} {lf : Int32} {cv : Value} {fv : Value} {sb : Nat → Int32} {se : Nat → Int32} {sc : Nat → Int32} {bh : Nat → Option Nat}
theorem jKD.a5 {n : Nat} (h : jKD dC dI ca G (some a) q H) (ha : G a = some (3, n)) (hy : G ysb = some (171, 40)) (p : jf (dC, dI) 3 a 5 (.ref ysb) H) (hfr : ∀ p, p ≠ ysb → H1[p]? = H[p]?) : jKD dC dI ca G (some a) q H1 := by
  obtain ⟨Ysb, Yse, Ysc, Ybh, h1, i0, i1, i2, i3, h3⟩ := h
  have e9 : Ysb a = ysb := by obtain ⟨g0, e0, g1, e1, g2, e2, g3, e3⟩ := h1 a n ha; have z := jf.uniq g0 p; cases z; rfl
  have hn : ∀ b m, G b = some (3, m) → b ≠ ysb := fun b m hb z => by
    rw [z, hy] at hb
    have := congrArg Prod.fst (Option.some.inj hb)
    simp at this
  refine ⟨Ysb, Yse, Ysc, Ybh, fun b m hb => ?_, i0, i1, i2, i3, fun b m hb hx => ?_⟩
  · obtain ⟨g0, e0, g1, e1, g2, e2, g3, e3⟩ := h1 b m hb
    exact ⟨g0.kept (hfr b (hn b m hb)), e0, g1.kept (hfr b (hn b m hb)), e1, g2.kept (hfr b (hn b m hb)), e2, g3.kept (hfr b (hn b m hb)), e3⟩
  · have g := h3 b m hb hx
    obtain ⟨e0, e1, e2, e3⟩ := g.gy
    refine g.of (fun i v hi hf => hf.kept (hfr b (hn b m hb))) (hfr _ (fun z => ?_)) (hfr _ (fun z => ?_)) (hfr _ (fun z => ?_)) (hfr _ (fun z => ?_))
    · exact hx (by rw [i0 b a m n hb ha (z.trans e9.symm)])
    · rw [z, hy] at e1
      have := congrArg Prod.fst (Option.some.inj e1)
      simp at this
    · rw [z, hy] at e2
      have := congrArg Prod.fst (Option.some.inj e2)
      simp at this
    · rw [z, hy] at e3
      have := congrArg Prod.fst (Option.some.inj e3)
      simp at this
end J81
end
