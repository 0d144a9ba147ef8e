-- apply: a rule's quantifiers, its left sides, the terms that are told
theorem jFm.quant {C : jK} {N Y b x : Int} {d : Nat} (h : jFm C N Y d b x) (hs : jSo C.s x = 4 ∨ jSo C.s x = 5) (hd : d ≤ 4000) : jFm C N Y d (b + 1) (jSo C.a x) ∧ jsz C (jSo C.a x) + 1 ≤ jsz C x := by
  have hp : jPts C x = 1 := (jPts_nl C x).2.1 hs
  have hq : jQf C x = 1 := (jQf_ok C x).1 hs
  have p0 := h.part (k := 0) (by omega) (by omega)
  rw [hq] at p0
  exact ⟨p0.mono (by omega) (Int.le_refl _), jsz_part h hd (k := 0) (by omega) (by omega)⟩
theorem jFm.sides {C : jK} {N Y b x : Int} {d : Nat} (h : jFm C N Y d b x) (hs : 0 ≤ jSo C.s x ∧ jSo C.s x ≤ 2) (hd : d ≤ 4000) : jFm C N Y d b (jSo C.a x) ∧ jFm C N Y d b (jSo C.b x) ∧ jsz C x = 1 + jsz C (jSo C.a x) + jsz C (jSo C.b x) := by
  have hp : jPts C x = 2 := (jPts_nl C x).2.2.1 (by omega)
  have hq : jQf C x = 0 := (jQf_ok C x).2.1 (by omega)
  have p0 := h.part (k := 0) (by omega) (by omega)
  have p1 := h.part (k := 1) (by omega) (by omega)
  rw [hq, Int.add_zero] at p0 p1
  have e := jsz_step h hd
  rw [hp, (jSzK_y C x 2).2.2.1 rfl] at e
  exact ⟨p0.mono (by omega) (Int.le_refl _), p1.mono (by omega) (Int.le_refl _), e⟩
/-- the n-th right side -/
def jIc (C : jK) : Nat → Int → Int → Prop
  | 0, x, c => x = c
  | n + 1, x, c => jSo C.s x = 0 ∧ jIc C n (jSo C.b x) c
theorem jIc.snoc {C : jK} {n : Nat} : ∀ {x c : Int}, jIc C n x c → jSo C.s c = 0 → jIc C (n + 1) x (jSo C.b c) := by
  induction n with
  | zero => intro x c h hs; cases (show x = c from h); exact ⟨hs, rfl⟩
  | succ n ih => intro x c h hs; exact ⟨h.1, ih h.2 hs⟩
theorem jIc.head {C : jK} {n : Nat} {x c : Int} (h : jIc C n x c) (hn : 1 ≤ n) : jSo C.s x = 0 ∧ jIc C (n - 1) (jSo C.b x) c := by
  cases n with
  | zero => omega
  | succ n => exact h
def jNe (f : Nat → Int32) (m : Int) : Prop := ∀ k : Int, 0 ≤ k → k < m → jSo f k = -1
theorem jNe.to {C : jK} {N Y m : Int} {f : Nat → Int32} (h : jNe f m) : jTo C N Y f m := fun k g0 g1 => Or.inl (by rw [h k g0 g1]; omega)
theorem jNe.s {f g : Nat → Int32} {m e : Int} (h : jNe f m) (hv : jSo g e = -1) (ho : ∀ j, j < 100 → j ≠ e.toNat → g j = f j) (he : e = m) (h0 : 0 ≤ m) (h1 : m ≤ 99) : jNe g (m + 1) := fun k g0 g1 => by
  have hU := jUpd.mk (n := 100) hv ho he h0
  by_cases q : k = m
  · rw [q]; exact hU.1
  · rw [hU.2 k g0 (by omega) q]; exact h k g0 (by omega)
def jNn (f : Nat → Int32) (m : Int) : Prop := ∀ k : Int, 0 ≤ k → k < m → 0 ≤ jSo f k
theorem jNn.s {f : Nat → Int32} {m z e : Int} (h : jNn f m) (hz : z = jSo f e) (he : e = m) (h0 : 0 ≤ z) : jNn f (m + 1) := fun k g0 g1 => by
  by_cases q : k = m
  · rw [q, ← he, ← hz]; exact h0
  · exact h k g0 (by omega)
/-- all terms are told -/
def jTd (C : jK) (N Y : Int) (f : Nat → Int32) (m : Int) : Prop := ∀ k : Int, 0 ≤ k → k < m → jG1 C N Y (jSo f k)
theorem jTo.td {C : jK} {N Y m : Int} {f : Nat → Int32} (h : jTo C N Y f m) (hn : jNn f m) : jTd C N Y f m := fun k g0 g1 => by
  have h1 := hn k g0 g1
  exact (h k g0 g1).resolve_left (by omega)
theorem jTd.ts {C : jK} {N Y m : Int} {f : Nat → Int32} (h : jTd C N Y f m) : jTs C N Y 1600 f m := fun k g0 g1 => ⟨(h k g0 g1).1.mono (by omega) (Int.le_refl _), by have := (h k g0 g1).2; omega⟩
theorem jTs.wide {C : jK} {N Y N1 Y1 m : Int} {e : Nat} {f : Nat → Int32} (h : jTs C N Y e f m) (hN : N ≤ N1) (hY : Y ≤ Y1) : jTs C N1 Y1 e f m := fun k g0 g1 => ⟨(h k g0 g1).1.wide hN hY, (h k g0 g1).2⟩
/-- the new goals so far -/
theorem jFa.put {P : Int → Prop} {f g : Nat → Int32} {n x e : Int} (h : jFa P f n) (hv : jSo g e = x) (ho : ∀ j, j < 100 → j ≠ e.toNat → g j = f j) (he : e = n) (h0 : 0 ≤ n) (h1 : n ≤ 99) (hx : P x) : jFa P g (n + 1) := fun k g0 g1 => by
  have hU := jUpd.mk (n := 100) hv ho he h0
  by_cases q : k = n
  · rw [q, hU.1]; exact hx
  · rw [hU.2 k g0 (by omega) q]; exact h k g0 (by omega)
