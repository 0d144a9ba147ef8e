-- formulas as they are read: raw terms (their parts behind them), raw formulas (their parts ahead of them)
def jRtm (C : jK) : Nat → Int → Int → Prop
  | 0, _, _ => False
  | d + 1, x, hi => 0 ≤ x ∧ x < hi ∧ jSo C.s x = 11 ∧ 0 ≤ jSo C.n x ∧ jSo C.n x ≤ 1599 ∧ 0 ≤ jSo C.c x ∧ (jSo C.c x = 1 → x < jSo C.a x ∧ jRtm C d (jSo C.a x) hi) ∧ (jSo C.c x = 2 → x < jSo C.a x ∧ jRtm C d (jSo C.a x) (jSo C.b (jSo C.a x)) ∧ jRtm C d (jSo C.b (jSo C.a x)) hi) ∧ (jSo C.c x = 3 → x < jSo C.a x ∧ jRtm C d (jSo C.a x) (jSo C.b (jSo C.a x)) ∧ jRtm C d (jSo C.b (jSo C.a x)) (jSo C.b (jSo C.b (jSo C.a x))) ∧ jRtm C d (jSo C.b (jSo C.b (jSo C.a x))) hi)
theorem jRtm.ok {C : jK} {d : Nat} {x hi : Int} (h : jRtm C d x hi) : 1 ≤ d ∧ 0 ≤ x ∧ x < hi ∧ jSo C.s x = 11 ∧ 0 ≤ jSo C.n x ∧ jSo C.n x ≤ 1599 ∧ 0 ≤ jSo C.c x := by
  cases d with
  | zero => exact h.elim
  | succ d => exact ⟨by omega, h.1, h.2.1, h.2.2.1, h.2.2.2.1, h.2.2.2.2.1, h.2.2.2.2.2.1⟩
theorem jRtm.one {C : jK} {d : Nat} {x hi : Int} (h : jRtm C d x hi) (hc : jSo C.c x = 1) : x < jSo C.a x ∧ jRtm C (d - 1) (jSo C.a x) hi := by
  cases d with
  | zero => exact h.elim
  | succ d => exact h.2.2.2.2.2.2.1 hc
theorem jRtm.two {C : jK} {d : Nat} {x hi : Int} (h : jRtm C d x hi) (hc : jSo C.c x = 2) : x < jSo C.a x ∧ jRtm C (d - 1) (jSo C.a x) (jSo C.b (jSo C.a x)) ∧ jRtm C (d - 1) (jSo C.b (jSo C.a x)) hi := by
  cases d with
  | zero => exact h.elim
  | succ d => exact h.2.2.2.2.2.2.2.1 hc
theorem jRtm.three {C : jK} {d : Nat} {x hi : Int} (h : jRtm C d x hi) (hc : jSo C.c x = 3) : x < jSo C.a x ∧ jRtm C (d - 1) (jSo C.a x) (jSo C.b (jSo C.a x)) ∧ jRtm C (d - 1) (jSo C.b (jSo C.a x)) (jSo C.b (jSo C.b (jSo C.a x))) ∧ jRtm C (d - 1) (jSo C.b (jSo C.b (jSo C.a x))) hi := by
  cases d with
  | zero => exact h.elim
  | succ d => exact h.2.2.2.2.2.2.2.2 hc
/-- the same rows from x to hi (but for two of x itself) -/
def jAt (C D : jK) (x hi : Int) : Prop := ∀ j : Int, x ≤ j → j < hi → jSo D.s j = jSo C.s j ∧ jSo D.n j = jSo C.n j ∧ jSo D.a j = jSo C.a j ∧ jSo D.c j = jSo C.c j ∧ (x < j → jSo D.b j = jSo C.b j)
theorem jAt.sub {C D : jK} {x hi y h1 : Int} (h : jAt C D x hi) (hy : x < y) (hh : h1 ≤ hi) : jAt C D y h1 := fun j g0 g1 => by
  obtain ⟨a1, a2, a3, a4, a5⟩ := h j (by omega) (by omega)
  exact ⟨a1, a2, a3, a4, fun _ => a5 (by omega)⟩
theorem jRtm.ag {C D : jK} {d : Nat} : ∀ {x hi : Int}, jRtm C d x hi → jAt C D x hi → jRtm D d x hi := by
  induction d with
  | zero => intro x hi h; exact h.elim
  | succ d ih =>
    intro x hi h hA
    obtain ⟨h1, h2, h3, h4, h5, h6, k1, k2, k3⟩ := h
    obtain ⟨a1, a2, a3, a4, -⟩ := hA x (by omega) h2
    refine ⟨h1, h2, by rw [a1]; exact h3, by rw [a2]; exact h4, by rw [a2]; exact h5, by rw [a4]; exact h6, ?_, ?_, ?_⟩
    · rw [a4, a3]; intro q
      obtain ⟨z1, z2⟩ := k1 q
      exact ⟨z1, ih z2 (hA.sub z1 (Int.le_refl _))⟩
    · rw [a4, a3]; intro q
      obtain ⟨z1, z2, z3⟩ := k2 q
      have b1 := z2.ok; have b2 := z3.ok
      have e1 := (hA (jSo C.a x) (by omega) (by omega)).2.2.2.2 z1
      rw [e1]
      exact ⟨z1, ih z2 (hA.sub z1 (by omega)), ih z3 (hA.sub (by omega) (Int.le_refl _))⟩
    · rw [a4, a3]; intro q
      obtain ⟨z1, z2, z3, z4⟩ := k3 q
      have b1 := z2.ok; have b2 := z3.ok; have b3 := z4.ok
      have e1 := (hA (jSo C.a x) (by omega) (by omega)).2.2.2.2 z1
      rw [e1]
      have e2 := (hA (jSo C.b (jSo C.a x)) (by omega) (by omega)).2.2.2.2 (by omega)
      rw [e2]
      exact ⟨z1, ih z2 (hA.sub z1 (by omega)), ih z3 (hA.sub (by omega) (by omega)), ih z4 (hA.sub (by omega) (Int.le_refl _))⟩
theorem jRtm.mono {C : jK} {d : Nat} : ∀ {x hi : Int}, jRtm C d x hi → ∀ {d1 : Nat} {h1 : Int}, d ≤ d1 → hi ≤ h1 → jRtm C d1 x h1 := by
  induction d with
  | zero => intro x hi h; exact h.elim
  | succ d ih =>
    intro x hi h d1 h1 hd hh
    cases d1 with
    | zero => omega
    | succ d1 =>
      obtain ⟨g1, g2, g3, g4, g5, g6, k1, k2, k3⟩ := h
      refine ⟨g1, by omega, g3, g4, g5, g6, fun q => ?_, fun q => ?_, fun q => ?_⟩
      · obtain ⟨z1, z2⟩ := k1 q; exact ⟨z1, ih z2 (by omega) hh⟩
      · obtain ⟨z1, z2, z3⟩ := k2 q; exact ⟨z1, ih z2 (by omega) (Int.le_refl _), ih z3 (by omega) hh⟩
      · obtain ⟨z1, z2, z3, z4⟩ := k3 q; exact ⟨z1, ih z2 (by omega) (Int.le_refl _), ih z3 (by omega) (Int.le_refl _), ih z4 (by omega) hh⟩
theorem jAgK.at {C D : jK} {N x hi : Int} (h : jAgK C D N) (hx : 0 ≤ x) (hh : hi ≤ N) : jAt C D x hi := fun j g0 g1 => by
  obtain ⟨a1, a2, a3, a4, a5⟩ := h.so (n := j) (by omega) (by omega)
  exact ⟨a1, a2, a3, a5, fun _ => a4⟩
theorem jRtm.agK {C D : jK} {d : Nat} {N x hi : Int} (h : jRtm C d x hi) (hA : jAgK C D N) (hh : hi ≤ N) : jRtm D d x hi := h.ag (hA.at h.ok.2.1 hh)
/-- a term while its parts are read -/
def jRl (C : jK) (d : Nat) (t last w : Int) : Prop := 0 ≤ t ∧ t < w ∧ jSo C.s t = 11 ∧ 0 ≤ jSo C.n t ∧ jSo C.n t ≤ 1599 ∧ 0 ≤ jSo C.c t ∧ jSo C.c t < w - t ∧ (jSo C.c t = 0 → last = -1) ∧ (1 ≤ jSo C.c t → t < last ∧ last < w) ∧ (jSo C.c t = 1 → jSo C.a t = last ∧ jRtm C d last w) ∧ (jSo C.c t = 2 → t < jSo C.a t ∧ jSo C.b (jSo C.a t) = last ∧ jRtm C d (jSo C.a t) last ∧ jRtm C d last w) ∧ (jSo C.c t = 3 → t < jSo C.a t ∧ jSo C.b (jSo C.b (jSo C.a t)) = last ∧ jRtm C d (jSo C.a t) (jSo C.b (jSo C.a t)) ∧ jRtm C d (jSo C.b (jSo C.a t)) last ∧ jRtm C d last w)
theorem jRl.rt {C : jK} {d : Nat} {t last w : Int} (h : jRl C d t last w) : jRtm C (d + 1) t w := by
  obtain ⟨h1, h2, h3, h4, h5, h6, -, -, h8, k1, k2, k3⟩ := h
  refine ⟨h1, h2, h3, h4, h5, h6, fun q => ?_, fun q => ?_, fun q => ?_⟩
  · obtain ⟨z1, z2⟩ := k1 q; rw [z1]; exact ⟨(h8 (by omega)).1, z2⟩
  · obtain ⟨z1, z2, z3, z4⟩ := k2 q; rw [z2]; exact ⟨z1, z3, z4⟩
  · obtain ⟨z1, z2, z3, z4, z5⟩ := k3 q; rw [z2]; exact ⟨z1, z3, z4, z5⟩
theorem jSo_off {f g : Nat → Int32} {e j : Int} (ho : ∀ j, j < 120000 → j ≠ e.toNat → g j = f j) (h0 : 0 ≤ j) (h1 : j < 120000) (he : 0 ≤ e) (hn : j ≠ e) : jSo g j = jSo f j := by
  unfold jSo
  rw [ho j.toNat (by omega) (by omega)]
theorem jAgK.row {C D : jK} {N : Int} (h : jAgK C D N) {A Bb Cc : Nat → Int32} (hN : N ≤ 120000) (ha : ∀ j : Int, 0 ≤ j → j < N → jSo A j = jSo D.a j) (hb : ∀ j : Int, 0 ≤ j → j < N → jSo Bb j = jSo D.b j) (hc : ∀ j : Int, 0 ≤ j → j < N → jSo Cc j = jSo D.c j) : jAgK C (jK.mk D.s D.n A Bb Cc D.y) N := by
  refine ⟨fun j hj => ?_, h.2⟩
  obtain ⟨a1, a2, a3, a4, a5⟩ := h.1 j hj
  have e : ∀ (f g : Nat → Int32), jSo f (j : Int) = jSo g (j : Int) → f j = g j := fun f g q => by unfold jSo at q; exact Int32.toInt_inj.mp q
  exact ⟨a1, a2, (e _ _ (ha j (by omega) hj)).trans a3, (e _ _ (hb j (by omega) hj)).trans a4, (e _ _ (hc j (by omega) hj)).trans a5⟩
theorem jRl.first {C : jK} {d : Nat} {t last w : Int} (h : jRl C d t last w) (hl : last < 0) : jSo C.c t = 0 := by
  obtain ⟨h1, -, -, -, -, h6, -, -, h8, -⟩ := h
  by_cases q : 1 ≤ jSo C.c t
  · have := h8 q; omega
  · omega
/-- the first part -/
theorem jRl.sA {C D : jK} {d : Nat} {t last w p w1 c1 : Int} {A Cc : Nat → Int32} (h : jRl C d t last w) (hl : last < 0) (hA : jAgK C D w) (hw : w ≤ w1) (h120 : w1 ≤ 120000) (hp : jRtm D d p w1) (hpw : p = w) (ha : jSo A t = p) (hao : ∀ j, j < 120000 → j ≠ t.toNat → A j = D.a j) (hc : jSo Cc t = c1) (hc1 : c1 = jSo D.c t + 1) (hco : ∀ j, j < 120000 → j ≠ t.toNat → Cc j = D.c j) : jRl (jK.mk D.s D.n A D.b Cc D.y) d t p w1 := by
  have h0 := h.first hl
  have hpo := hp.ok
  obtain ⟨h1, h2, h3, h4, h5, h6, -⟩ := h
  obtain ⟨a1, a2, a3, a4, a5⟩ := hA.so h1 h2
  have hcc : jSo Cc t = 1 := by omega
  refine ⟨h1, by omega, by show jSo D.s t = 11; omega, by show 0 ≤ jSo D.n t; omega, by show jSo D.n t ≤ 1599; omega, by show 0 ≤ jSo Cc t; omega, by show jSo Cc t < w1 - t; omega, fun q => ?_, fun _ => ?_, fun _ => ⟨ha, hp.ag ?_⟩, fun q => ?_, fun q => ?_⟩
  · have q' : jSo Cc t = 0 := q; omega
  · have := hp.ok; omega
  · intro j g0 g1
    exact ⟨rfl, rfl, jSo_off hao (by omega) (by omega) h1 (by omega), jSo_off hco (by omega) (by omega) h1 (by omega), fun _ => rfl⟩
  · have q' : jSo Cc t = 2 := q; omega
  · have q' : jSo Cc t = 3 := q; omega
/-- a further part -/
theorem jRl.sB {C D : jK} {d : Nat} {t last w p w1 c1 : Int} {Bb Cc : Nat → Int32} (h : jRl C d t last w) (hl : 0 ≤ last) (hA : jAgK C D w) (hw : w ≤ w1) (h120 : w1 ≤ 120000) (hp : jRtm D d p w1) (hpw : p = w) (hb : jSo Bb last = p) (hbo : ∀ j, j < 120000 → j ≠ last.toNat → Bb j = D.b j) (hc : jSo Cc t = c1) (hc1 : c1 = jSo D.c t + 1) (hco : ∀ j, j < 120000 → j ≠ t.toNat → Cc j = D.c j) : jRl (jK.mk D.s D.n D.a Bb Cc D.y) d t p w1 := by
  obtain ⟨h1, h2, h3, h4, h5, h6, h6b, h7, h8, k1, k2, k3⟩ := h
  have hpo := hp.ok
  have hc0 : 1 ≤ jSo C.c t := by
    by_cases q : jSo C.c t = 0
    · have := h7 q; omega
    · omega
  obtain ⟨l1, l2⟩ := h8 hc0
  obtain ⟨a1, a2, a3, a4, a5⟩ := hA.so h1 h2
  have hcc : jSo Cc t = jSo C.c t + 1 := by omega
  have offb : ∀ j : Int, 0 ≤ j → j < 120000 → j ≠ last → jSo Bb j = jSo D.b j := fun j g0 g1 g2 => jSo_off hbo g0 g1 hl g2
  have offc : ∀ j : Int, 0 ≤ j → j < 120000 → j ≠ t → jSo Cc j = jSo D.c j := fun j g0 g1 g2 => jSo_off hco g0 g1 h1 g2
  have old : ∀ {y h9 : Int}, t < y → h9 ≤ w → (h9 ≤ last ∨ y = last) → jRtm C d y h9 → jRtm (jK.mk D.s D.n D.a Bb Cc D.y) d y h9 := by
    intro y h9 q1 q2 q3 q4
    have q5 := q4.ok
    refine (q4.agK hA q2).ag (fun j g0 g1 => ⟨rfl, rfl, rfl, offc j (by omega) (by omega) (by omega), fun q6 => offb j (by omega) (by omega) (by omega)⟩)
  have new : jRtm (jK.mk D.s D.n D.a Bb Cc D.y) d p w1 := hp.ag (fun j g0 g1 => ⟨rfl, rfl, rfl, offc j (by omega) (by omega) (by omega), fun q6 => offb j (by omega) (by omega) (by omega)⟩)
  refine ⟨h1, by omega, by show jSo D.s t = 11; omega, by show 0 ≤ jSo D.n t; omega, by show jSo D.n t ≤ 1599; omega, by show 0 ≤ jSo Cc t; omega, by show jSo Cc t < w1 - t; omega, fun q => ?_, fun _ => by omega, fun q => ?_, fun q => ?_, fun q => ?_⟩
  · have q' : jSo Cc t = 0 := q; omega
  · have q' : jSo Cc t = 1 := q; omega
  · have q' : jSo Cc t = 2 := q
    obtain ⟨z1, z2⟩ := k1 (by omega)
    show t < jSo D.a t ∧ jSo Bb (jSo D.a t) = p ∧ _
    rw [a3, z1]
    have := old (y := last) (h9 := w) (by omega) (by omega) (Or.inr rfl) z2
    rw [← hpw] at this
    exact ⟨l1, hb, this, new⟩
  · have q' : jSo Cc t = 3 := q
    obtain ⟨z1, z2, z3, z4⟩ := k2 (by omega)
    have z3o := z3.ok
    have e1 : jSo Bb (jSo D.a t) = last := by
      rw [a3, offb _ (by omega) (by omega) (by omega), (hA.so (n := jSo C.a t) (by omega) (by omega)).2.2.2.1]; exact z2
    show t < jSo D.a t ∧ jSo Bb (jSo Bb (jSo D.a t)) = p ∧ jRtm _ d (jSo D.a t) (jSo Bb (jSo D.a t)) ∧ jRtm _ d (jSo Bb (jSo D.a t)) p ∧ _
    rw [e1, a3]
    have n1 := old (y := jSo C.a t) (h9 := last) (by omega) (by omega) (Or.inl (Int.le_refl _)) z3
    have n2 := old (y := last) (h9 := w) (by omega) (by omega) (Or.inr rfl) z4
    rw [← hpw] at n2
    exact ⟨z1, hb, n1, n2, new⟩
theorem jNw.rl {C D : jK} {N wn : Int} {d : Nat} (h : jNw C D N 11 wn (-1) (-1) 0) (h0 : 0 ≤ N) (hn : 0 ≤ wn ∧ wn ≤ 1599) : jRl D d N (-1) (N + 1) := by
  obtain ⟨-, s1, s2, s3, s4, s5⟩ := h
  exact ⟨h0, by omega, s1, by omega, by omega, by omega, by omega, fun _ => rfl, fun q => by omega, fun q => by omega, fun q => by omega, fun q => by omega⟩
/-- a raw formula: its nodes from lo to hi, its root x; q quantifiers within one another at most -/
def jRw (C : jK) : Nat → Nat → Int → Int → Int → Prop
  | 0, _, _, _, _ => False
  | e + 1, q, lo, x, hi => 0 ≤ lo ∧ lo ≤ x ∧ x < hi ∧ ((jSo C.s x = 11 ∧ jRtm C 13 x hi) ∨ jSo C.s x = 3 ∨ (jSo C.s x = 6 ∧ ∃ m : Int, lo ≤ jSo C.a x ∧ jRtm C 13 (jSo C.a x) m ∧ m ≤ jSo C.b x ∧ jRtm C 13 (jSo C.b x) x) ∨ ((jSo C.s x = 4 ∨ jSo C.s x = 5) ∧ 0 ≤ jSo C.n x ∧ jSo C.n x ≤ 1599 ∧ 1 ≤ q ∧ jRw C e (q - 1) lo (jSo C.a x) x) ∨ (0 ≤ jSo C.s x ∧ jSo C.s x ≤ 2 ∧ ∃ m : Int, jRw C e q lo (jSo C.a x) m ∧ jRw C e q m (jSo C.b x) x))
theorem jRw.ok {C : jK} {e q : Nat} {lo x hi : Int} (h : jRw C e q lo x hi) : 1 ≤ e ∧ 0 ≤ lo ∧ lo ≤ x ∧ x < hi := by
  cases e with
  | zero => exact h.elim
  | succ e => exact ⟨by omega, h.1, h.2.1, h.2.2.1⟩
theorem jRw.mono {C : jK} {e : Nat} : ∀ {q : Nat} {lo x hi : Int}, jRw C e q lo x hi → ∀ {e1 q1 : Nat} {l1 h1 : Int}, e ≤ e1 → q ≤ q1 → 0 ≤ l1 → l1 ≤ lo → hi ≤ h1 → jRw C e1 q1 l1 x h1 := by
  induction e with
  | zero => intro q lo x hi h; exact h.elim
  | succ e ih =>
    intro q lo x hi h e1 q1 l1 h1 he hq hl0 hl hh
    cases e1 with
    | zero => omega
    | succ e1 =>
      obtain ⟨g1, g2, g3, g4⟩ := h
      refine ⟨hl0, by omega, by omega, ?_⟩
      rcases g4 with ⟨s1, t1⟩ | s1 | ⟨s1, m, t1, t2, t3, t4⟩ | ⟨s1, t1, t2, t3, t4⟩ | ⟨s1, s2, m, t1, t2⟩
      · exact Or.inl ⟨s1, t1.mono (Nat.le_refl _) hh⟩
      · exact Or.inr (Or.inl s1)
      · exact Or.inr (Or.inr (Or.inl ⟨s1, m, by omega, t2, t3, t4⟩))
      · exact Or.inr (Or.inr (Or.inr (Or.inl ⟨s1, t1, t2, by omega, ih t4 (by omega) (by omega) hl0 hl (Int.le_refl _)⟩)))
      · exact Or.inr (Or.inr (Or.inr (Or.inr ⟨s1, s2, m, ih t1 (by omega) hq hl0 hl (Int.le_refl _), ih t2 (by omega) hq t2.ok.2.1 (Int.le_refl _) (Int.le_refl _)⟩)))
theorem jRw.ag {C D : jK} {N : Int} (hA : jAgK C D N) {e : Nat} : ∀ {q : Nat} {lo x hi : Int}, jRw C e q lo x hi → hi ≤ N → jRw D e q lo x hi := by
  induction e with
  | zero => intro q lo x hi h; exact h.elim
  | succ e ih =>
    intro q lo x hi h hN
    obtain ⟨g1, g2, g3, g4⟩ := h
    obtain ⟨a1, a2, a3, a4, a5⟩ := hA.so (n := x) (by omega) (by omega)
    refine ⟨g1, g2, g3, ?_⟩
    rw [a1, a2, a3, a4]
    rcases g4 with ⟨s1, t1⟩ | s1 | ⟨s1, m, t1, t2, t3, t4⟩ | ⟨s1, t1, t2, t3, t4⟩ | ⟨s1, s2, m, t1, t2⟩
    · exact Or.inl ⟨s1, t1.agK hA hN⟩
    · exact Or.inr (Or.inl s1)
    · have := t4.ok
      exact Or.inr (Or.inr (Or.inl ⟨s1, m, t1, t2.agK hA (by omega), t3, t4.agK hA (by omega)⟩))
    · exact Or.inr (Or.inr (Or.inr (Or.inl ⟨s1, t1, t2, t3, ih t4 (by omega)⟩)))
    · have := t2.ok
      exact Or.inr (Or.inr (Or.inr (Or.inr ⟨s1, s2, m, ih t1 (by omega), ih t2 (by omega)⟩)))
theorem jRw.up {C : jK} {e e1 q q1 : Nat} {lo x hi : Int} (h : jRw C e q lo x hi) (he : e ≤ e1) (hq : q ≤ q1) : jRw C e1 q1 lo x hi := h.mono he hq h.ok.2.1 (Int.le_refl _) (Int.le_refl _)
theorem jRw.term {C : jK} {e q d : Nat} {x hi : Int} (h : jRtm C d x hi) (hd : d ≤ 13) (he : 1 ≤ e) : jRw C e q x x hi := by
  have h1 := h.ok
  cases e with
  | zero => omega
  | succ e => exact ⟨h1.2.1, Int.le_refl _, h1.2.2.1, Or.inl ⟨h1.2.2.2.1, h.mono hd (Int.le_refl _)⟩⟩
theorem jRw.false {C D : jK} {e q : Nat} {N wn wa wb wc : Int} (h : jNw C D N 3 wn wa wb wc) (h0 : 0 ≤ N) (he : 1 ≤ e) : jRw D e q N N (N + 1) := by
  cases e with
  | zero => omega
  | succ e => exact ⟨h0, Int.le_refl _, by omega, Or.inr (Or.inl h.2.1)⟩
theorem jRw.join {C D : jK} {e e1 e2 q : Nat} {lo m N ws wn wa wb wc : Int} (h1 : jRw C e1 q lo wa m) (h2 : jRw C e2 q m wb N) (h : jNw C D N ws wn wa wb wc) (hs : 0 ≤ ws ∧ ws ≤ 2) (he1 : e1 + 1 ≤ e) (he2 : e2 + 1 ≤ e) : jRw D e q lo N (N + 1) := by
  have o1 := h1.ok; have o2 := h2.ok
  cases e with
  | zero => omega
  | succ e =>
    obtain ⟨hA, s1, s2, s3, s4, s5⟩ := h
    refine ⟨o1.2.1, by omega, by omega, Or.inr (Or.inr (Or.inr (Or.inr ⟨by omega, by omega, m, ?_, ?_⟩)))⟩
    · rw [s3]; exact jRw.ag hA (h1.up (by omega) (Nat.le_refl _)) (by omega)
    · rw [s4]; exact jRw.ag hA (h2.up (by omega) (Nat.le_refl _)) (by omega)
theorem jRw.quant {C D : jK} {e e1 q q1 : Nat} {lo N ws wn wa wb wc : Int} (h1 : jRw C e1 q1 lo wa N) (h : jNw C D N ws wn wa wb wc) (hs : ws = 4 ∨ ws = 5) (hn : 0 ≤ wn ∧ wn ≤ 1599) (hq : q1 + 1 ≤ q) (he : e1 + 1 ≤ e) : jRw D e q lo N (N + 1) := by
  have o1 := h1.ok
  cases e with
  | zero => omega
  | succ e =>
    obtain ⟨hA, s1, s2, s3, s4, s5⟩ := h
    refine ⟨o1.2.1, by omega, by omega, Or.inr (Or.inr (Or.inr (Or.inl ⟨by omega, by omega, by omega, by omega, ?_⟩)))⟩
    rw [s3]; exact jRw.ag hA (h1.up (by omega) (by omega)) (by omega)
theorem jRw.eq {C D : jK} {e q d d1 : Nat} {m N ws wn wa wb wc : Int} (h1 : jRtm C d wa m) (h2 : jRtm C d1 wb N) (hm : m ≤ wb) (h : jNw C D N ws wn wa wb wc) (hs : ws = 6) (hd : d ≤ 13) (hd1 : d1 ≤ 13) (he : 1 ≤ e) : jRw D e q wa N (N + 1) := by
  have o1 := h1.ok; have o2 := h2.ok
  cases e with
  | zero => omega
  | succ e =>
    obtain ⟨hA, s1, s2, s3, s4, s5⟩ := h
    refine ⟨o1.2.1, by omega, by omega, Or.inr (Or.inr (Or.inl ⟨by omega, m, by omega, ?_, by omega, ?_⟩))⟩
    · rw [s3]; exact (h1.mono hd (Int.le_refl _)).agK hA (by omega)
    · rw [s4]; exact (h2.mono hd1 (Int.le_refl _)).agK hA (by omega)
-- what a raw formula is, by its root
theorem jRw.c11 {C : jK} {e q : Nat} {lo x hi : Int} (h : jRw C e q lo x hi) (hs : jSo C.s x = 11) : jRtm C 13 x hi := by
  cases e with
  | zero => exact h.elim
  | succ e =>
    rcases h.2.2.2 with ⟨_, t1⟩ | s1 | ⟨s1, _⟩ | ⟨s1, _⟩ | ⟨s1, s2, _⟩
    · exact t1
    all_goals omega
theorem jRw.c6 {C : jK} {e q : Nat} {lo x hi : Int} (h : jRw C e q lo x hi) (hs : jSo C.s x = 6) : ∃ m : Int, lo ≤ jSo C.a x ∧ jRtm C 13 (jSo C.a x) m ∧ m ≤ jSo C.b x ∧ jRtm C 13 (jSo C.b x) x := by
  cases e with
  | zero => exact h.elim
  | succ e =>
    rcases h.2.2.2 with ⟨s1, _⟩ | s1 | ⟨_, t1⟩ | ⟨s1, _⟩ | ⟨s1, s2, _⟩
    · omega
    · omega
    · exact t1
    all_goals omega
theorem jRw.c45 {C : jK} {e q : Nat} {lo x hi : Int} (h : jRw C e q lo x hi) (hs : jSo C.s x = 4 ∨ jSo C.s x = 5) : 0 ≤ jSo C.n x ∧ jSo C.n x ≤ 1599 ∧ 1 ≤ q ∧ jRw C (e - 1) (q - 1) lo (jSo C.a x) x := by
  cases e with
  | zero => exact h.elim
  | succ e =>
    rcases h.2.2.2 with ⟨s1, _⟩ | s1 | ⟨s1, _⟩ | ⟨_, t1⟩ | ⟨s1, s2, _⟩
    · omega
    · omega
    · omega
    · exact t1
    · omega
theorem jRw.c012 {C : jK} {e q : Nat} {lo x hi : Int} (h : jRw C e q lo x hi) (h1 : jSo C.s x ≠ 11) (h2 : jSo C.s x ≠ 3) (h3 : jSo C.s x ≠ 6) (h4 : jSo C.s x ≠ 4) (h5 : jSo C.s x ≠ 5) : 0 ≤ jSo C.s x ∧ jSo C.s x ≤ 2 ∧ ∃ m : Int, jRw C (e - 1) q lo (jSo C.a x) m ∧ jRw C (e - 1) q m (jSo C.b x) x := by
  cases e with
  | zero => exact h.elim
  | succ e =>
    rcases h.2.2.2 with ⟨s1, _⟩ | s1 | ⟨s1, _⟩ | ⟨s1, _⟩ | t1
    · exact absurd s1 h1
    · exact absurd s1 h2
    · exact absurd s1 h3
    · omega
    · exact t1
def jH1 (C : jK) (x hi : Int) : Int := if jSo C.c x = 1 then hi else jSo C.b (jSo C.a x)
def jH2 (C : jK) (x hi : Int) : Int := if jSo C.c x = 2 then hi else jSo C.b (jSo C.b (jSo C.a x))
theorem jRtm.p1 {C : jK} {d : Nat} {x hi : Int} (h : jRtm C d x hi) (h1 : 1 ≤ jSo C.c x) (h3 : jSo C.c x ≤ 3) : x < jSo C.a x ∧ jRtm C (d - 1) (jSo C.a x) (jH1 C x hi) ∧ jH1 C x hi ≤ hi ∧ jSo C.a x < hi := by
  unfold jH1
  have hc : jSo C.c x = 1 ∨ jSo C.c x = 2 ∨ jSo C.c x = 3 := by omega
  rcases hc with q | q | q
  · rw [if_pos q]; obtain ⟨z1, z2⟩ := h.one q; have := z2.ok; exact ⟨z1, z2, by omega, by omega⟩
  · rw [if_neg (by omega)]; obtain ⟨z1, z2, z3⟩ := h.two q; have := z2.ok; have := z3.ok; exact ⟨z1, z2, by omega, by omega⟩
  · rw [if_neg (by omega)]; obtain ⟨z1, z2, z3, z4⟩ := h.three q; have := z2.ok; have := z3.ok; have := z4.ok; exact ⟨z1, z2, by omega, by omega⟩
theorem jRtm.p2 {C : jK} {d : Nat} {x hi : Int} (h : jRtm C d x hi) (h1 : 2 ≤ jSo C.c x) (h3 : jSo C.c x ≤ 3) : jRtm C (d - 1) (jSo C.b (jSo C.a x)) (jH2 C x hi) ∧ jH1 C x hi = jSo C.b (jSo C.a x) ∧ jH2 C x hi ≤ hi := by
  have e1 : jH1 C x hi = jSo C.b (jSo C.a x) := by unfold jH1; rw [if_neg (by omega)]
  rw [e1]
  unfold jH2
  have hc : jSo C.c x = 2 ∨ jSo C.c x = 3 := by omega
  rcases hc with q | q
  · rw [if_pos q]; obtain ⟨z1, z2, z3⟩ := h.two q; exact ⟨z3, rfl, by omega⟩
  · rw [if_neg (by omega)]; obtain ⟨z1, z2, z3, z4⟩ := h.three q; have := z3.ok; have := z4.ok; exact ⟨z3, rfl, by omega⟩
theorem jRtm.p3 {C : jK} {d : Nat} {x hi : Int} (h : jRtm C d x hi) (h3 : jSo C.c x = 3) : jRtm C (d - 1) (jSo C.b (jSo C.b (jSo C.a x))) hi ∧ jH2 C x hi = jSo C.b (jSo C.b (jSo C.a x)) := by
  unfold jH2
  rw [if_neg (by omega)]
  exact ⟨(h.three h3).2.2.2, rfl⟩
-- new nodes of formulas
theorem jMk0 {C D : jK} {N Y b ws wn wa wb wc : Int} {e : Nat} (h : jNw C D N ws wn wa wb wc) (hs : (ws = 10 ∧ 0 ≤ wn ∧ wn < b) ∨ (ws = 9 ∧ 0 ≤ wn ∧ wn ≤ 1599) ∨ ws = 3) (h0 : 0 ≤ N) (he : 1 ≤ e) : jFm D (N + 1) Y e b N ∧ jsz D N = 1 := by
  obtain ⟨hA, e1, e2, e3, e4, e5⟩ := h
  have hl := jPts_nl D N
  have hp : jPts D N = 0 := by
    by_cases q : ws = 10
    · exact hl.1 (by omega)
    · exact hl.2.2.2 (by omega)
  have hF : jFm D (N + 1) Y 1 b N := ⟨⟨h0, by omega, by omega, by omega, fun q => by omega, fun q => by omega, fun q => by omega, by omega, by omega⟩, fun k g0 g1 => by omega⟩
  exact hF.leaf hp (fun q => by omega) he
theorem jMk1 {C D : jK} {N Y b ws wn wa wb wc : Int} {d : Nat} (h : jNw C D N ws wn wa wb wc) (hs : ws = 4 ∨ ws = 5) (hn : 0 ≤ wn ∧ wn ≤ 1599) (h0 : 0 ≤ N) (hd : d + 1 ≤ 4000) (ha : jFm C N Y d (b + 1) wa) : jFm D (N + 1) Y (d + 1) b N ∧ jsz D N = 1 + jsz C wa := by
  obtain ⟨hA, e1, e2, e3, e4, e5⟩ := h
  have h : jNw C D N ws wn wa wb wc := ⟨hA, e1, e2, e3, e4, e5⟩
  have hp : jPts D N = 1 := (jPts_nl D N).2.1 (by omega)
  have hq : jQf D N = 1 := (jQf_ok D N).1 (by omega)
  have k1 : 0 < jPts D N → jFm C N Y d (b + jQf D N) wa := fun _ => by rw [hq]; exact ha
  have k2 : 1 < jPts D N → jFm C N Y d (b + jQf D N) wb := fun q => by omega
  have k3 : 2 < jPts D N → jFm C N Y d (b + jQf D N) wc := fun q => by omega
  have hF := h.fm (Y := Y) (b := b) (d := d) ⟨h0, by omega, by omega, by omega, fun q => by omega, fun q => by omega, fun q => by omega, by omega, by omega⟩ k1 k2 k3
  refine ⟨hF, ?_⟩
  rw [h.sz hd hF k1 k2 k3, (jIf4 _ _ _ _ _).2.1 hp]
theorem jMk2 {C D : jK} {N Y b ws wn wa wb wc : Int} {d : Nat} (h : jNw C D N ws wn wa wb wc) (hs : (0 ≤ ws ∧ ws ≤ 2) ∨ ws = 6) (h0 : 0 ≤ N) (hd : d + 1 ≤ 4000) (ha : jFm C N Y d b wa) (hb : jFm C N Y d b wb) : jFm D (N + 1) Y (d + 1) b N ∧ jsz D N = 1 + jsz C wa + jsz C wb := by
  obtain ⟨hA, e1, e2, e3, e4, e5⟩ := h
  have h : jNw C D N ws wn wa wb wc := ⟨hA, e1, e2, e3, e4, e5⟩
  have hp : jPts D N = 2 := (jPts_nl D N).2.2.1 (by omega)
  have hq : jQf D N = 0 := (jQf_ok D N).2.1 (by omega)
  have k1 : 0 < jPts D N → jFm C N Y d (b + jQf D N) wa := fun _ => by rw [hq, Int.add_zero]; exact ha
  have k2 : 1 < jPts D N → jFm C N Y d (b + jQf D N) wb := fun q => by rw [hq, Int.add_zero]; exact hb
  have k3 : 2 < jPts D N → jFm C N Y d (b + jQf D N) wc := fun q => by omega
  have hF := h.fm (Y := Y) (b := b) (d := d) ⟨h0, by omega, by omega, by omega, fun q => by omega, fun q => by omega, fun q => by omega, by omega, by omega⟩ k1 k2 k3
  refine ⟨hF, ?_⟩
  rw [h.sz hd hF k1 k2 k3, (jIf4 _ _ _ _ _).2.2.1 hp]
theorem jMk7 {C D : jK} {N Y b ws wn wa wb wc m : Int} {d : Nat} (h : jNw C D N ws wn wa wb wc) (hs : ws = 7 ∨ ws = 8) (hn : 0 ≤ wn ∧ wn < Y) (hm : jSo C.y wn = m) (h0 : 0 ≤ N) (hd : d + 1 ≤ 4000) (hm0 : 0 ≤ m ∧ m ≤ 3) (ha : 1 ≤ m → jFm C N Y d b wa) (hb : 2 ≤ m → jFm C N Y d b wb) (hc : 3 ≤ m → jFm C N Y d b wc) : jFm D (N + 1) Y (d + 1) b N ∧ (m = 0 → jsz D N = 1) ∧ (m = 1 → jsz D N = 1 + jsz C wa) ∧ (m = 2 → jsz D N = 1 + jsz C wa + jsz C wb) ∧ (m = 3 → jsz D N = 1 + jsz C wa + jsz C wb + jsz C wc) := by
  obtain ⟨hA, e1, e2, e3, e4, e5⟩ := h
  have h : jNw C D N ws wn wa wb wc := ⟨hA, e1, e2, e3, e4, e5⟩
  have hy : jSo D.y wn = m := by rw [← hm]; unfold jSo; rw [hA.2]
  have hp : jPts D N = m := by unfold jPts; rw [if_pos (by omega), e2]; exact hy
  have hq : jQf D N = 0 := (jQf_ok D N).2.1 (by omega)
  have k1 : 0 < jPts D N → jFm C N Y d (b + jQf D N) wa := fun _ => by rw [hq, Int.add_zero]; exact ha (by omega)
  have k2 : 1 < jPts D N → jFm C N Y d (b + jQf D N) wb := fun q => by rw [hq, Int.add_zero]; exact hb (by omega)
  have k3 : 2 < jPts D N → jFm C N Y d (b + jQf D N) wc := fun q => by rw [hq, Int.add_zero]; exact hc (by omega)
  have hF := h.fm (Y := Y) (b := b) (d := d) ⟨h0, by omega, by omega, by omega, fun q => by omega, fun q => by omega, fun q => by omega, by omega, by omega⟩ k1 k2 k3
  have hz := h.sz hd hF k1 k2 k3
  have h4 := jIf4 (jPts D N) 1 (jsz C wa) (jsz C wb) (jsz C wc)
  refine ⟨hF, fun q => ?_, fun q => ?_, fun q => ?_, fun q => ?_⟩
  · rw [hz, h4.1 (by omega)]
  · rw [hz, h4.2.1 (by omega)]
  · rw [hz, h4.2.2.1 (by omega)]
  · rw [hz, h4.2.2.2 (by omega)]
theorem jRw.f3 {C : jK} {e q : Nat} {lo x hi N Y b : Int} (h : jRw C e q lo x hi) (hs : jSo C.s x = 3) (hN : hi ≤ N) {d : Nat} (hd : 1 ≤ d) : jFm C N Y d b x ∧ jsz C x = 1 := by
  have o := h.ok
  have hp : jPts C x = 0 := (jPts_nl C x).2.2.2 (by omega)
  have hF : jFm C N Y 1 b x := ⟨⟨by omega, by omega, by omega, by omega, fun q => by omega, fun q => by omega, fun q => by omega, by omega, by omega⟩, fun k g0 g1 => by omega⟩
  exact hF.leaf hp (fun q => by omega) hd
