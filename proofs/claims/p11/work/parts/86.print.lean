-- printing: how often a bound name is marked
def jMx (f : Nat → Int32) (n M : Int) : Prop := ∀ k : Int, 0 ≤ k → k < n → jSo f k ≤ M
def jEqK (f g : Nat → Int32) (n : Int) : Prop := ∀ k : Int, 0 ≤ k → k < n → jSo g k = jSo f k
theorem jEqK.rf (f : Nat → Int32) (n : Int) : jEqK f f n := fun _ _ _ => rfl
theorem jEqK.tr {f g h : Nat → Int32} {n : Int} (h1 : jEqK f g n) (h2 : jEqK g h n) : jEqK f h n := fun k q0 q1 => (h2 k q0 q1).trans (h1 k q0 q1)
theorem jMx.eq {f g : Nat → Int32} {n M : Int} (h : jMx f n M) (he : jEqK f g n) : jMx g n M := fun k q0 q1 => by rw [he k q0 q1]; exact h k q0 q1
theorem jMx.put {f g : Nat → Int32} {n m M M1 x e : Int} (h : jMx f n M) (hv : jSo g e = x) (ho : ∀ j, j < 100 → j ≠ e.toNat → g j = f j) (he : e = n) (h0 : 0 ≤ n) (h1 : n ≤ 99) (hm : m = n + 1) (hx : x ≤ M1) (hM : M ≤ M1) : jMx g m M1 := fun k q0 q1 => by
  have hU := jUpd.mk (n := 100) hv ho he h0
  by_cases q : k = n
  · rw [q, hU.1]; exact hx
  · rw [hU.2 k q0 (by omega) q]; have := h k q0 (by omega); omega
theorem jEqK.st {f g h : Nat → Int32} {n m x e : Int} (hv : jSo g e = x) (ho : ∀ j, j < 100 → j ≠ e.toNat → g j = f j) (he : e = n) (h0 : 0 ≤ n) (h1 : n ≤ 99) (h2 : jEqK g h m) (hm : n ≤ m) : jEqK f h n := fun k q0 q1 => by
  have hU := jUpd.mk (n := 100) hv ho he h0
  rw [h2 k q0 (by omega), hU.2 k q0 (by omega) (by omega)]
theorem jFm.two {C : jK} {N Y b x : Int} {d : Nat} (h : jFm C N Y d b x) (hs : (0 ≤ jSo C.s x ∧ jSo C.s x ≤ 2) ∨ jSo C.s x = 6) : jFm C N Y (d - 1) b (jSo C.a x) ∧ jFm C N Y (d - 1) b (jSo C.b x) ∧ (0 ≤ jSo C.a x ∧ jSo C.a x < N) ∧ (0 ≤ jSo C.b x ∧ jSo C.b x < N) := by
  have hp : jPts C x = 2 := (jPts_nl C x).2.2.1 (by omega)
  have hq : jQf C x = 0 := (jQf_ok C x).2.1 (by omega)
  have p0 := h.part (k := 0) (by omega) (by omega)
  have p1 := h.part (k := 1) (by omega) (by omega)
  rw [hq, Int.add_zero] at p0 p1
  exact ⟨p0, p1, ⟨p0.nd.1, p0.nd.2.1⟩, ⟨p1.nd.1, p1.nd.2.1⟩⟩
theorem jFm.onep {C : jK} {N Y b x : Int} {d : Nat} (h : jFm C N Y d b x) (hs : jSo C.s x = 4 ∨ jSo C.s x = 5) : jFm C N Y (d - 1) (b + 1) (jSo C.a x) ∧ 0 ≤ jSo C.n x ∧ jSo C.n x ≤ 1599 := by
  have hp : jPts C x = 1 := (jPts_nl C x).2.1 hs
  have hq : jQf C x = 1 := (jQf_ok C x).1 hs
  have p0 := h.part (k := 0) (by omega) (by omega)
  rw [hq] at p0
  exact ⟨p0, h.nd.2.2.2.2.2.2.1 (by omega)⟩
