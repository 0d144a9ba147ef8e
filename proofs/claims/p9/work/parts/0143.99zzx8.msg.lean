section
-- p9: what a message does
section
variable {T : Nat → Int → Int} {v p m : Int} {S S1 : Int × (Int → jdD)}
end
theorem jdSo {x : Nat} {o : Option Nat} (h : (Value.ref x) = va_rf o) : o = some x := jdAt h
section JR8
variable {dC : Nat → ClassId} {dI : Nat → Nat → Nat} {G : jT} {a nn yy : Nat} {P Q : Prop} {H : Heap}
end JR8
end
section
-- p9: the state of a server as both sides tell it; what a byte does, what many do
section
variable {s : jdSt} {u r br qn qb pl to ke sg il dg sv fi a1 a2 a3 a4 a5 a6 a7 a8 : Int}
end
section JP9
variable {dC : Nat → ClassId} {dI : Nat → Nat → Nat} {ca : Nat → ClassId} {B : jF} {base : Nat} {G0 G : jT} {E : List (Nat × Nat)} {H0 H : Heap} {zc zs : Nat} {L : List jPin} {M : List jCt} {I : List jIv} {locs : List Loc} {a k n : Nat}
end JP9
theorem jdBy.bd {s : jdSt} {u br pl to ke sg il dg sv fi : Int} {f : Nat → Int32} (hX : jfQ s.1 br pl to ke sg il dg sv fi) (hb : br = 0) (h : (pl = 6 ∧ jfBd (jfBu s.2.1 fi u) f 3000) ∨ (pl ≠ 6 ∧ jfBd s.2.1 f 3000)) : jfBd (jdBy s u) f 3000 := by
  rw [jdBy.of hX hb]
  rcases h with ⟨a, b⟩ | ⟨a, b⟩
  · rw [if_pos a]; exact b
  · rw [if_neg a]; exact b
theorem jdRq.rg {T : Nat → Int → Int} {v p q : Int} (e : q = jdRq T v p) (h0 : 0 ≤ p) (h1 : p ≤ 2) : 0 ≤ q ∧ q ≤ 2 := by
  subst e
  unfold jdRq
  split
  · split
    · exact ⟨by decide, by decide⟩
    · exact ⟨by decide, by decide⟩
  · split
    · exact ⟨by decide, by decide⟩
    · exact ⟨h0, h1⟩
theorem jdNt.rg {T : Nat → Int → Int} {v p br qb : Int} {S S1 : Int × (Int → jdD)} (h : jdNt T v p br qb S S1) (hb : br = 0) : 0 ≤ qb ∧ qb ≤ 1 := by
  rcases h with ⟨h, -⟩ | ⟨h, -⟩
  · rw [h]; exact ⟨by decide, by decide⟩
  · rw [h, hb]; exact ⟨by decide, by decide⟩
end
section
-- how long a message is at least that opens or changes a document
theorem jMg.q {D : jC} {pv pu n z : Int} (h : jMg D pv pu n z) (hq : pu ≤ 3000) : jJq D.1 D.2.1 D.2.2.1 pv := h.1.elim (fun _ g => g.p hq)
theorem jMg.u {D : jC} {pv pu n z : Int} (h : jMg D pv pu n z) : jJu D.1 D.2.2.1 pv pu := h.1.elim (fun _ g => g.u)
theorem jMh.q {fk fi fz fa fs : Nat → Int32} {pv pu n : Int} (h : jMh (fk, fi, fz, fa, fs) pv pu n) (hq : pu ≤ 3000) : jJq fk fi fz pv := h.1.elim (fun _ g => g.p hq)
theorem jMh.u {fk fi fz fa fs : Nat → Int32} {pv pu n : Int} (h : jMh (fk, fi, fz, fa, fs) pv pu n) : jJu fk fz pv pu := h.1.elim (fun _ g => g.u)
theorem jMh.pu {D : jC} {pv pu n : Int} (h : jMh D pv pu n) : pu ≤ n + 1 := by
  have h1 := h.2.1
  have h2 := jSb.lo D.2.2.2.2 pv.toNat
  omega
end
