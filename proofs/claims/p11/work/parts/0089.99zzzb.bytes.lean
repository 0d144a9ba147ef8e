section
-- how long a message is at least that opens or changes a document
theorem jMg.q {D : jC} {pv pu n z : Int} (h : jMg D pv pu n z) (hq : pu ≤ 3000) : jJq D.1 D.2.1 D.2.2.1 pv := h.1.elim (fun _ g => g.p hq)
theorem jMg.u {D : jC} {pv pu n z : Int} (h : jMg D pv pu n z) : jJu D.1 D.2.2.1 pv pu := h.1.elim (fun _ g => g.u)
theorem jMh.q {fk fi fz fa fs : Nat → Int32} {pv pu n : Int} (h : jMh (fk, fi, fz, fa, fs) pv pu n) (hq : pu ≤ 3000) : jJq fk fi fz pv := h.1.elim (fun _ g => g.p hq)
theorem jMh.u {fk fi fz fa fs : Nat → Int32} {pv pu n : Int} (h : jMh (fk, fi, fz, fa, fs) pv pu n) : jJu fk fz pv pu := h.1.elim (fun _ g => g.u)
theorem jMh.pu {D : jC} {pv pu n : Int} (h : jMh D pv pu n) : pu ≤ n + 1 := by
  have h1 := h.2.1
  have h2 := jSb.lo D.2.2.2.2 pv.toNat
  omega
end
