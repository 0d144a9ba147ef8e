section
-- goals, hypotheses, facts of the reference's kernel: slots of arrays
def jUpd (n : Int) (f g : Nat → Int32) (i v : Int) : Prop := jSo g i = v ∧ ∀ j : Int, 0 ≤ j → j < n → j ≠ i → jSo g j = jSo f j
theorem jUpd.mk {n : Nat} {f g : Nat → Int32} {e i v : Int} (hv : jSo g e = v) (ho : ∀ j, j < n → j ≠ e.toNat → g j = f j) (he : e = i) (h0 : 0 ≤ i) : jUpd n f g i v := by
  subst he
  refine ⟨hv, fun j g0 g1 g2 => ?_⟩
  unfold jSo
  rw [ho j.toNat (by omega) (by omega)]
def jCpy (fg fh fp gg gh gp : Nat → Int32) (x y : Int) : Prop := jUpd 46 fg gg y (jSo fg x) ∧ jUpd 46 fh gh y (jSo fh x) ∧ (∀ i : Int, 0 ≤ i → i < 8 → jSo gp (8 * y + i) = jSo fp (8 * x + i)) ∧ ∀ j : Int, 0 ≤ j → j < 368 → (j < 8 * y ∨ 8 * y + 8 ≤ j) → jSo gp j = jSo fp j
def jPq (f g : Nat → Int32) (x y k : Int) : Prop := (∀ i : Int, 0 ≤ i → i < k → jSo g (8 * y + i) = jSo f (8 * x + i)) ∧ ∀ j : Int, 0 ≤ j → j < 368 → (j < 8 * y ∨ 8 * y + k ≤ j) → jSo g j = jSo f j
theorem jPq.rf (f : Nat → Int32) (x y : Int) : jPq f f x y 0 := ⟨fun i h0 h1 => by omega, fun _ _ _ _ => rfl⟩
theorem jPq.s {f g h : Nat → Int32} {x y k e e2 z : Int} (hq : jPq f g x y k) (hv : jSo h e = z) (ho : ∀ j, j < 368 → j ≠ e.toNat → h j = g j) (he : e = 8 * y + k) (hz : z = jSo g e2) (he2 : e2 = 8 * x + k) (hx : 0 ≤ x ∧ x ≤ 45) (hy : 0 ≤ y ∧ y ≤ 45) (hk : 0 ≤ k ∧ k < 8) : jPq f h x y (k + 1) := by
  have hU := jUpd.mk (n := 368) hv ho he (by omega)
  subst he2
  have e1 : jSo g (8 * x + k) = jSo f (8 * x + k) := hq.2 _ (by omega) (by omega) (by omega)
  refine ⟨fun i h0 h1 => ?_, fun j h0 h1 h2 => ?_⟩
  · by_cases q : i = k
    · rw [q, hU.1, hz, e1]
    · rw [hU.2 _ (by omega) (by omega) (by omega)]; exact hq.1 i h0 (by omega)
  · rw [hU.2 j h0 h1 (by omega)]; exact hq.2 j h0 h1 (by omega)
def jSe (fg fh fp gg gh gp : Nat → Int32) (i j : Int) : Prop := jSo gg j = jSo fg i ∧ jSo gh j = jSo fh i ∧ ∀ k : Int, 0 ≤ k → k < 8 → jSo gp (8 * j + k) = jSo fp (8 * i + k)
theorem jSe.rf (fg fh fp : Nat → Int32) (i : Int) : jSe fg fh fp fg fh fp i i := ⟨rfl, rfl, fun _ _ _ => rfl⟩
theorem jCpy.at {fg fh fp gg gh gp hg hh hp : Nat → Int32} {x y i : Int} (h : jCpy gg gh gp hg hh hp x y) (hs : jSe fg fh fp gg gh gp i x) : jSe fg fh fp hg hh hp i y := ⟨h.1.1.trans hs.1, h.2.1.1.trans hs.2.1, fun k g0 g1 => (h.2.2.1 k g0 g1).trans (hs.2.2 k g0 g1)⟩
theorem jCpy.off {fg fh fp gg gh gp hg hh hp : Nat → Int32} {x y i j : Int} (h : jCpy gg gh gp hg hh hp x y) (hs : jSe fg fh fp gg gh gp i j) (hj : 0 ≤ j) (hj1 : j ≤ 45) (hn : j ≠ y) (hy : 0 ≤ y) : jSe fg fh fp hg hh hp i j := ⟨(h.1.2 j hj (by omega) hn).trans hs.1, (h.2.1.2 j hj (by omega) hn).trans hs.2.1, fun k g0 g1 => (h.2.2.2 _ (by omega) (by omega) (by omega)).trans (hs.2.2 k g0 g1)⟩
def jT0 (fg fh fp gg gh gp : Nat → Int32) (p v : Int) : Prop := (∀ j : Int, 0 ≤ j → j < v → jSe fg fh fp gg gh gp (j + 1) j) ∧ ∀ j : Int, v ≤ j → j < p → jSe fg fh fp gg gh gp j j
theorem jT0.rf (fg fh fp : Nat → Int32) (p : Int) : jT0 fg fh fp fg fh fp p 0 := ⟨fun j h0 h1 => by omega, fun _ _ _ => jSe.rf _ _ _ _⟩
theorem jT0.s {fg fh fp gg gh gp hg hh hp : Nat → Int32} {p v x y : Int} (h : jT0 fg fh fp gg gh gp p v) (hc : jCpy gg gh gp hg hh hp x y) (hx : x = v + 1) (hy : y = v) (h0 : 0 ≤ v) (h1 : v + 1 < p) (h2 : p ≤ 46) : jT0 fg fh fp hg hh hp p (v + 1) := by
  subst hx; subst hy
  refine ⟨fun j g0 g1 => ?_, fun j g0 g1 => ?_⟩
  · by_cases q : j = y
    · rw [q]; exact hc.at (h.2 _ (by omega) h1)
    · exact hc.off (h.1 j g0 (by omega)) g0 (by omega) q h0
  · exact hc.off (h.2 j (by omega) g1) (by omega) (by omega) (by omega) h0
def jTu1 (fg fh fp gg gh gp : Nat → Int32) (p n v : Int) : Prop := (∀ j : Int, v < j → j < p → jSe fg fh fp gg gh gp j (j + n - 1)) ∧ ∀ j : Int, 0 ≤ j → j ≤ v → jSe fg fh fp gg gh gp j j
theorem jTu1.rf (fg fh fp : Nat → Int32) (p n : Int) : jTu1 fg fh fp fg fh fp p n (p - 1) := ⟨fun j h0 h1 => by omega, fun _ _ _ => jSe.rf _ _ _ _⟩
theorem jTu1.s {fg fh fp gg gh gp hg hh hp : Nat → Int32} {p n v x y : Int} (h : jTu1 fg fh fp gg gh gp p n v) (hc : jCpy gg gh gp hg hh hp x y) (hx : x = v) (hy : y = v + n - 1) (h0 : 0 < v) (h1 : v < p) (h3 : 1 ≤ n) (h2 : p + n ≤ 46) : jTu1 fg fh fp hg hh hp p n (v - 1) := by
  subst hx; subst hy
  refine ⟨fun j g0 g1 => ?_, fun j g0 g1 => ?_⟩
  · by_cases q : j = x
    · rw [q]; exact hc.at (h.2 _ (by omega) (by omega))
    · exact hc.off (h.1 j (by omega) g1) (by omega) (by omega) (by omega) (by omega)
  · exact hc.off (h.2 j g0 (by omega)) g0 (by omega) (by omega) (by omega)
def jTu2 (fg fh fp gg gh gp : Nat → Int32) (p n v : Int) : Prop := (∀ j : Int, 0 < j → j < p → jSe fg fh fp gg gh gp j (j + n - 1)) ∧ ∀ j : Int, 0 ≤ j → j < v → jSe fg fh fp gg gh gp 0 j
theorem jTu2.s {fg fh fp gg gh gp hg hh hp : Nat → Int32} {p n v x y : Int} (h : jTu2 fg fh fp gg gh gp p n v) (hc : jCpy gg gh gp hg hh hp x y) (hx : x = 0) (hy : y = v) (h0 : 1 ≤ v) (h1 : v < n) (h2 : p + n ≤ 46) (h3 : 0 ≤ p) : jTu2 fg fh fp hg hh hp p n (v + 1) := by
  subst hx; subst hy
  refine ⟨fun j g0 g1 => hc.off (h.1 j g0 g1) (by omega) (by omega) (by omega) (by omega), fun j g0 g1 => ?_⟩
  by_cases q : j = y
  · rw [q]; exact hc.at (h.2 0 (by omega) (by omega))
  · exact hc.off (h.2 j g0 (by omega)) g0 (by omega) q (by omega)
def jDq (f g : Nat → Int32) (x h v : Int) : Prop := (∀ k : Int, 0 ≤ k → k < 8 → (k < h ∨ v ≤ k → jSo g (8 * x + k) = jSo f (8 * x + k)) ∧ (h ≤ k ∧ k < v → jSo g (8 * x + k) = jSo f (8 * x + (k + 1)))) ∧ ∀ j : Int, 0 ≤ j → j < 368 → (j < 8 * x ∨ 8 * x + 8 ≤ j) → jSo g j = jSo f j
theorem jDq.rf (f : Nat → Int32) (x h : Int) : jDq f f x h h := ⟨fun k _ _ => ⟨fun _ => rfl, fun q => by omega⟩, fun _ _ _ _ => rfl⟩
theorem jDq.s {f g r : Nat → Int32} {x h v e e2 z : Int} (hq : jDq f g x h v) (hv : jSo r e = z) (ho : ∀ j, j < 368 → j ≠ e.toNat → r j = g j) (he : e = 8 * x + v) (hz : z = jSo g e2) (he2 : e2 = 8 * x + v + 1) (hx : 0 ≤ x ∧ x ≤ 45) (hh : 0 ≤ h ∧ h ≤ v ∧ v < 7) : jDq f r x h (v + 1) := by
  have hU := jUpd.mk (n := 368) hv ho he (by omega)
  have e1 := (hq.1 (v + 1) (by omega) (by omega)).1 (Or.inr (by omega))
  rw [show 8 * x + v + 1 = 8 * x + (v + 1) by omega] at he2
  subst he2
  refine ⟨fun k h0 h1 => ⟨fun q => ?_, fun q => ?_⟩, fun j h0 h1 h2 => ?_⟩
  · rw [hU.2 _ (by omega) (by omega) (by omega)]; exact (hq.1 k h0 h1).1 (by omega)
  · by_cases w : k = v
    · rw [w, hU.1, hz, e1]
    · rw [hU.2 _ (by omega) (by omega) (by omega)]; exact (hq.1 k h0 h1).2 (by omega)
  · rw [hU.2 j h0 h1 (by omega)]; exact hq.2 j h0 h1 h2
def jSl (P : Int → Prop) (fg fh fp : Nat → Int32) (g : Int) : Prop := P (jSo fg g) ∧ 0 ≤ jSo fh g ∧ jSo fh g ≤ 8 ∧ ∀ k : Int, 0 ≤ k → k < jSo fh g → P (jSo fp (8 * g + k))
def jGl (P : Int → Prop) (fg fh fp : Nat → Int32) (n : Int) : Prop := ∀ g : Int, 0 ≤ g → g < n → jSl P fg fh fp g
def jFa (P : Int → Prop) (ff : Nat → Int32) (n : Int) : Prop := ∀ k : Int, 0 ≤ k → k < n → P (jSo ff k)
theorem jSl.mono {P P1 : Int → Prop} {fg fh fp : Nat → Int32} {g : Int} (h : jSl P fg fh fp g) (hP : ∀ x, P x → P1 x) : jSl P1 fg fh fp g := ⟨hP _ h.1, h.2.1, h.2.2.1, fun k g0 g1 => hP _ (h.2.2.2 k g0 g1)⟩
theorem jGl.mono {P P1 : Int → Prop} {fg fh fp : Nat → Int32} {n : Int} (h : jGl P fg fh fp n) (hP : ∀ x, P x → P1 x) : jGl P1 fg fh fp n := fun g g0 g1 => (h g g0 g1).mono hP
theorem jGl.less {P : Int → Prop} {fg fh fp : Nat → Int32} {n m : Int} (h : jGl P fg fh fp n) (hm : m ≤ n) : jGl P fg fh fp m := fun g g0 g1 => h g g0 (by omega)
theorem jFa.mono {P P1 : Int → Prop} {ff : Nat → Int32} {n : Int} (h : jFa P ff n) (hP : ∀ x, P x → P1 x) : jFa P1 ff n := fun k g0 g1 => hP _ (h k g0 g1)
theorem jGl.set {P : Int → Prop} {fg fh fp gg : Nat → Int32} {n i x : Int} (h : jGl P fg fh fp n) (hU : jUpd 46 fg gg i x) (hx : P x) (hn : n ≤ 46) : jGl P gg fh fp n := fun g g0 g1 => by
  obtain ⟨h1, h2⟩ := h g g0 g1
  refine ⟨?_, h2⟩
  by_cases q : g = i
  · rw [q, hU.1]; exact hx
  · rw [hU.2 g g0 (by omega) q]; exact h1
/-- a formula that is good: closed, of 80 nodes at most -/
def jG1 (C : jK) (N Y x : Int) : Prop := jFm C N Y 80 0 x ∧ jsz C x ≤ 80
theorem jG1.ag {C D : jK} {N M Y x : Int} (h : jG1 C N Y x) (hA : jAgK C D N) (hM : N ≤ M) : jG1 D M Y x := ⟨h.1.ag hA hM, by rw [jsz_ag hA h.1]; exact h.2⟩
end
section
-- formulas as they are read: raw terms (their parts behind them), raw formulas (their parts ahead of them)
def jRtm (C : jK) : Nat → Int → Int → Prop
  | 0, _, _ => False
  | d + 1, x, hi => 0 ≤ x ∧ x < hi ∧ jSo C.s x = 11 ∧ 0 ≤ jSo C.n x ∧ jSo C.n x ≤ 1599 ∧ 0 ≤ jSo C.c x ∧ (jSo C.c x = 1 → x < jSo C.a x ∧ jRtm C d (jSo C.a x) hi) ∧ (jSo C.c x = 2 → x < jSo C.a x ∧ jRtm C d (jSo C.a x) (jSo C.b (jSo C.a x)) ∧ jRtm C d (jSo C.b (jSo C.a x)) hi) ∧ (jSo C.c x = 3 → x < jSo C.a x ∧ jRtm C d (jSo C.a x) (jSo C.b (jSo C.a x)) ∧ jRtm C d (jSo C.b (jSo C.a x)) (jSo C.b (jSo C.b (jSo C.a x))) ∧ jRtm C d (jSo C.b (jSo C.b (jSo C.a x))) hi)
theorem jRtm.ok {C : jK} {d : Nat} {x hi : Int} (h : jRtm C d x hi) : 1 ≤ d ∧ 0 ≤ x ∧ x < hi ∧ jSo C.s x = 11 ∧ 0 ≤ jSo C.n x ∧ jSo C.n x ≤ 1599 ∧ 0 ≤ jSo C.c x := by
  cases d with
  | zero => exact h.elim
  | succ d => exact ⟨by omega, h.1, h.2.1, h.2.2.1, h.2.2.2.1, h.2.2.2.2.1, h.2.2.2.2.2.1⟩
theorem jRtm.one {C : jK} {d : Nat} {x hi : Int} (h : jRtm C d x hi) (hc : jSo C.c x = 1) : x < jSo C.a x ∧ jRtm C (d - 1) (jSo C.a x) hi := by
  cases d with
  | zero => exact h.elim
  | succ d => exact h.2.2.2.2.2.2.1 hc
/-- the same rows from x to hi (but for two of x itself) -/
def jAt (C D : jK) (x hi : Int) : Prop := ∀ j : Int, x ≤ j → j < hi → jSo D.s j = jSo C.s j ∧ jSo D.n j = jSo C.n j ∧ jSo D.a j = jSo C.a j ∧ jSo D.c j = jSo C.c j ∧ (x < j → jSo D.b j = jSo C.b j)
theorem jAt.sub {C D : jK} {x hi y h1 : Int} (h : jAt C D x hi) (hy : x < y) (hh : h1 ≤ hi) : jAt C D y h1 := fun j g0 g1 => by
  obtain ⟨a1, a2, a3, a4, a5⟩ := h j (by omega) (by omega)
  exact ⟨a1, a2, a3, a4, fun _ => a5 (by omega)⟩
theorem jRtm.ag {C D : jK} {d : Nat} : ∀ {x hi : Int}, jRtm C d x hi → jAt C D x hi → jRtm D d x hi := by
  induction d with
  | zero => intro x hi h; exact h.elim
  | succ d ih =>
    intro x hi h hA
    obtain ⟨h1, h2, h3, h4, h5, h6, k1, k2, k3⟩ := h
    obtain ⟨a1, a2, a3, a4, -⟩ := hA x (by omega) h2
    refine ⟨h1, h2, by rw [a1]; exact h3, by rw [a2]; exact h4, by rw [a2]; exact h5, by rw [a4]; exact h6, ?_, ?_, ?_⟩
    · rw [a4, a3]; intro q
      obtain ⟨z1, z2⟩ := k1 q
      exact ⟨z1, ih z2 (hA.sub z1 (Int.le_refl _))⟩
    · rw [a4, a3]; intro q
      obtain ⟨z1, z2, z3⟩ := k2 q
      have b1 := z2.ok; have b2 := z3.ok
      have e1 := (hA (jSo C.a x) (by omega) (by omega)).2.2.2.2 z1
      rw [e1]
      exact ⟨z1, ih z2 (hA.sub z1 (by omega)), ih z3 (hA.sub (by omega) (Int.le_refl _))⟩
    · rw [a4, a3]; intro q
      obtain ⟨z1, z2, z3, z4⟩ := k3 q
      have b1 := z2.ok; have b2 := z3.ok; have b3 := z4.ok
      have e1 := (hA (jSo C.a x) (by omega) (by omega)).2.2.2.2 z1
      rw [e1]
      have e2 := (hA (jSo C.b (jSo C.a x)) (by omega) (by omega)).2.2.2.2 (by omega)
      rw [e2]
      exact ⟨z1, ih z2 (hA.sub z1 (by omega)), ih z3 (hA.sub (by omega) (by omega)), ih z4 (hA.sub (by omega) (Int.le_refl _))⟩
theorem jRtm.mono {C : jK} {d : Nat} : ∀ {x hi : Int}, jRtm C d x hi → ∀ {d1 : Nat} {h1 : Int}, d ≤ d1 → hi ≤ h1 → jRtm C d1 x h1 := by
  induction d with
  | zero => intro x hi h; exact h.elim
  | succ d ih =>
    intro x hi h d1 h1 hd hh
    cases d1 with
    | zero => omega
    | succ d1 =>
      obtain ⟨g1, g2, g3, g4, g5, g6, k1, k2, k3⟩ := h
      refine ⟨g1, by omega, g3, g4, g5, g6, fun q => ?_, fun q => ?_, fun q => ?_⟩
      · obtain ⟨z1, z2⟩ := k1 q; exact ⟨z1, ih z2 (by omega) hh⟩
      · obtain ⟨z1, z2, z3⟩ := k2 q; exact ⟨z1, ih z2 (by omega) (Int.le_refl _), ih z3 (by omega) hh⟩
      · obtain ⟨z1, z2, z3, z4⟩ := k3 q; exact ⟨z1, ih z2 (by omega) (Int.le_refl _), ih z3 (by omega) (Int.le_refl _), ih z4 (by omega) hh⟩
theorem jAgK.at {C D : jK} {N x hi : Int} (h : jAgK C D N) (hx : 0 ≤ x) (hh : hi ≤ N) : jAt C D x hi := fun j g0 g1 => by
  obtain ⟨a1, a2, a3, a4, a5⟩ := h.so (n := j) (by omega) (by omega)
  exact ⟨a1, a2, a3, a5, fun _ => a4⟩
theorem jRtm.agK {C D : jK} {d : Nat} {N x hi : Int} (h : jRtm C d x hi) (hA : jAgK C D N) (hh : hi ≤ N) : jRtm D d x hi := h.ag (hA.at h.ok.2.1 hh)
/-- a term while its parts are read -/
def jRl (C : jK) (d : Nat) (t last w : Int) : Prop := 0 ≤ t ∧ t < w ∧ jSo C.s t = 11 ∧ 0 ≤ jSo C.n t ∧ jSo C.n t ≤ 1599 ∧ 0 ≤ jSo C.c t ∧ jSo C.c t < w - t ∧ (jSo C.c t = 0 → last = -1) ∧ (1 ≤ jSo C.c t → t < last ∧ last < w) ∧ (jSo C.c t = 1 → jSo C.a t = last ∧ jRtm C d last w) ∧ (jSo C.c t = 2 → t < jSo C.a t ∧ jSo C.b (jSo C.a t) = last ∧ jRtm C d (jSo C.a t) last ∧ jRtm C d last w) ∧ (jSo C.c t = 3 → t < jSo C.a t ∧ jSo C.b (jSo C.b (jSo C.a t)) = last ∧ jRtm C d (jSo C.a t) (jSo C.b (jSo C.a t)) ∧ jRtm C d (jSo C.b (jSo C.a t)) last ∧ jRtm C d last w)
theorem jRl.rt {C : jK} {d : Nat} {t last w : Int} (h : jRl C d t last w) : jRtm C (d + 1) t w := by
  obtain ⟨h1, h2, h3, h4, h5, h6, -, -, h8, k1, k2, k3⟩ := h
  refine ⟨h1, h2, h3, h4, h5, h6, fun q => ?_, fun q => ?_, fun q => ?_⟩
  · obtain ⟨z1, z2⟩ := k1 q; rw [z1]; exact ⟨(h8 (by omega)).1, z2⟩
  · obtain ⟨z1, z2, z3, z4⟩ := k2 q; rw [z2]; exact ⟨z1, z3, z4⟩
  · obtain ⟨z1, z2, z3, z4, z5⟩ := k3 q; rw [z2]; exact ⟨z1, z3, z4, z5⟩
/-- a raw formula: its nodes from lo to hi, its root x; q quantifiers within one another at most -/
def jRw (C : jK) : Nat → Nat → Int → Int → Int → Prop
  | 0, _, _, _, _ => False
  | e + 1, q, lo, x, hi => 0 ≤ lo ∧ lo ≤ x ∧ x < hi ∧ ((jSo C.s x = 11 ∧ jRtm C 13 x hi) ∨ jSo C.s x = 3 ∨ (jSo C.s x = 6 ∧ ∃ m : Int, lo ≤ jSo C.a x ∧ jRtm C 13 (jSo C.a x) m ∧ m ≤ jSo C.b x ∧ jRtm C 13 (jSo C.b x) x) ∨ ((jSo C.s x = 4 ∨ jSo C.s x = 5) ∧ 0 ≤ jSo C.n x ∧ jSo C.n x ≤ 1599 ∧ 1 ≤ q ∧ jRw C e (q - 1) lo (jSo C.a x) x) ∨ (0 ≤ jSo C.s x ∧ jSo C.s x ≤ 2 ∧ ∃ m : Int, jRw C e q lo (jSo C.a x) m ∧ jRw C e q m (jSo C.b x) x))
theorem jRw.ok {C : jK} {e q : Nat} {lo x hi : Int} (h : jRw C e q lo x hi) : 1 ≤ e ∧ 0 ≤ lo ∧ lo ≤ x ∧ x < hi := by
  cases e with
  | zero => exact h.elim
  | succ e => exact ⟨by omega, h.1, h.2.1, h.2.2.1⟩
theorem jRw.mono {C : jK} {e : Nat} : ∀ {q : Nat} {lo x hi : Int}, jRw C e q lo x hi → ∀ {e1 q1 : Nat} {l1 h1 : Int}, e ≤ e1 → q ≤ q1 → 0 ≤ l1 → l1 ≤ lo → hi ≤ h1 → jRw C e1 q1 l1 x h1 := by
  induction e with
  | zero => intro q lo x hi h; exact h.elim
  | succ e ih =>
    intro q lo x hi h e1 q1 l1 h1 he hq hl0 hl hh
    cases e1 with
    | zero => omega
    | succ e1 =>
      obtain ⟨g1, g2, g3, g4⟩ := h
      refine ⟨hl0, by omega, by omega, ?_⟩
      rcases g4 with ⟨s1, t1⟩ | s1 | ⟨s1, m, t1, t2, t3, t4⟩ | ⟨s1, t1, t2, t3, t4⟩ | ⟨s1, s2, m, t1, t2⟩
      · exact Or.inl ⟨s1, t1.mono (Nat.le_refl _) hh⟩
      · exact Or.inr (Or.inl s1)
      · exact Or.inr (Or.inr (Or.inl ⟨s1, m, by omega, t2, t3, t4⟩))
      · exact Or.inr (Or.inr (Or.inr (Or.inl ⟨s1, t1, t2, by omega, ih t4 (by omega) (by omega) hl0 hl (Int.le_refl _)⟩)))
      · exact Or.inr (Or.inr (Or.inr (Or.inr ⟨s1, s2, m, ih t1 (by omega) hq hl0 hl (Int.le_refl _), ih t2 (by omega) hq t2.ok.2.1 (Int.le_refl _) (Int.le_refl _)⟩)))
theorem jRw.ag {C D : jK} {N : Int} (hA : jAgK C D N) {e : Nat} : ∀ {q : Nat} {lo x hi : Int}, jRw C e q lo x hi → hi ≤ N → jRw D e q lo x hi := by
  induction e with
  | zero => intro q lo x hi h; exact h.elim
  | succ e ih =>
    intro q lo x hi h hN
    obtain ⟨g1, g2, g3, g4⟩ := h
    obtain ⟨a1, a2, a3, a4, a5⟩ := hA.so (n := x) (by omega) (by omega)
    refine ⟨g1, g2, g3, ?_⟩
    rw [a1, a2, a3, a4]
    rcases g4 with ⟨s1, t1⟩ | s1 | ⟨s1, m, t1, t2, t3, t4⟩ | ⟨s1, t1, t2, t3, t4⟩ | ⟨s1, s2, m, t1, t2⟩
    · exact Or.inl ⟨s1, t1.agK hA hN⟩
    · exact Or.inr (Or.inl s1)
    · have := t4.ok
      exact Or.inr (Or.inr (Or.inl ⟨s1, m, t1, t2.agK hA (by omega), t3, t4.agK hA (by omega)⟩))
    · exact Or.inr (Or.inr (Or.inr (Or.inl ⟨s1, t1, t2, t3, ih t4 (by omega)⟩)))
    · have := t2.ok
      exact Or.inr (Or.inr (Or.inr (Or.inr ⟨s1, s2, m, ih t1 (by omega), ih t2 (by omega)⟩)))
theorem jRw.up {C : jK} {e e1 q q1 : Nat} {lo x hi : Int} (h : jRw C e q lo x hi) (he : e ≤ e1) (hq : q ≤ q1) : jRw C e1 q1 lo x hi := h.mono he hq h.ok.2.1 (Int.le_refl _) (Int.le_refl _)
theorem jRw.eq {C D : jK} {e q d d1 : Nat} {m N ws wn wa wb wc : Int} (h1 : jRtm C d wa m) (h2 : jRtm C d1 wb N) (hm : m ≤ wb) (h : jNw C D N ws wn wa wb wc) (hs : ws = 6) (hd : d ≤ 13) (hd1 : d1 ≤ 13) (he : 1 ≤ e) : jRw D e q wa N (N + 1) := by
  have o1 := h1.ok; have o2 := h2.ok
  cases e with
  | zero => omega
  | succ e =>
    obtain ⟨hA, s1, s2, s3, s4, s5⟩ := h
    refine ⟨o1.2.1, by omega, by omega, Or.inr (Or.inr (Or.inl ⟨by omega, m, by omega, ?_, by omega, ?_⟩))⟩
    · rw [s3]; exact (h1.mono hd (Int.le_refl _)).agK hA (by omega)
    · rw [s4]; exact (h2.mono hd1 (Int.le_refl _)).agK hA (by omega)
-- what a raw formula is, by its root
end
section
-- the reference's kernel: its facts, goals and lemma are good formulas
theorem jG1.of {C : jK} {N Y x : Int} {d : Nat} (h : jFm C N Y d 0 x) (hd : d ≤ 4000) (hs : jsz C x ≤ 80) : jG1 C N Y x := ⟨h.tight hd 80 (by omega), hs⟩
/-- what the kernel holds between two sentences: nodes, symbols, facts, goals, whether there is a proof, its lemma -/
def jKi (C : jK) (pn py pf pg pp pl : Int) (ff fg fh fp : Nat → Int32) : Prop := 0 ≤ pn ∧ 0 ≤ py ∧ py ≤ 16 ∧ 0 ≤ pf ∧ pf ≤ 16 ∧ 0 ≤ pg ∧ pg ≤ 6 ∧ jFa (jG1 C pn py) ff pf ∧ jGl (jG1 C pn py) fg fh fp pg ∧ (1 ≤ pp → jG1 C pn py pl)
theorem jKi.ag {C D : jK} {pn qn py pf pg pp pl : Int} {ff fg fh fp : Nat → Int32} (h : jKi C pn py pf pg pp pl ff fg fh fp) (hA : jAgK C D pn) (hn : pn ≤ qn) : jKi D qn py pf pg pp pl ff fg fh fp := by
  obtain ⟨h1, h2, h3, h4, h5, h6, h7, h8, h9, h10⟩ := h
  exact ⟨by omega, h2, h3, h4, h5, h6, h7, h8.mono (fun x q => q.ag hA hn), h9.mono (fun x q => q.ag hA hn), fun q => (h10 q).ag hA hn⟩
end
section
-- apply: a rule's quantifiers, its left sides, the terms that are told
def jNe (f : Nat → Int32) (m : Int) : Prop := ∀ k : Int, 0 ≤ k → k < m → jSo f k = -1
theorem jNe.to {C : jK} {N Y m : Int} {f : Nat → Int32} (h : jNe f m) : jTo C N Y f m := fun k g0 g1 => Or.inl (by rw [h k g0 g1]; omega)
theorem jNe.s {f g : Nat → Int32} {m e : Int} (h : jNe f m) (hv : jSo g e = -1) (ho : ∀ j, j < 100 → j ≠ e.toNat → g j = f j) (he : e = m) (h0 : 0 ≤ m) (h1 : m ≤ 99) : jNe g (m + 1) := fun k g0 g1 => by
  have hU := jUpd.mk (n := 100) hv ho he h0
  by_cases q : k = m
  · rw [q]; exact hU.1
  · rw [hU.2 k g0 (by omega) q]; exact h k g0 (by omega)
def jNn (f : Nat → Int32) (m : Int) : Prop := ∀ k : Int, 0 ≤ k → k < m → 0 ≤ jSo f k
theorem jNn.s {f : Nat → Int32} {m z e : Int} (h : jNn f m) (hz : z = jSo f e) (he : e = m) (h0 : 0 ≤ z) : jNn f (m + 1) := fun k g0 g1 => by
  by_cases q : k = m
  · rw [q, ← he, ← hz]; exact h0
  · exact h k g0 (by omega)
/-- the new goals so far -/
theorem jFa.put {P : Int → Prop} {f g : Nat → Int32} {n x e : Int} (h : jFa P f n) (hv : jSo g e = x) (ho : ∀ j, j < 100 → j ≠ e.toNat → g j = f j) (he : e = n) (h0 : 0 ≤ n) (h1 : n ≤ 99) (hx : P x) : jFa P g (n + 1) := fun k g0 g1 => by
  have hU := jUpd.mk (n := 100) hv ho he h0
  by_cases q : k = n
  · rw [q, hU.1]; exact hx
  · rw [hU.2 k g0 (by omega) q]; exact h k g0 (by omega)
end
section
-- where a sign stands in a text whose last sign it is
def jStrE (base a n : Nat) (f : Nat → Int32) (U : State) (H : Heap) : Prop := va_O "java/lang/String" a (jA base) U H ∧ va_OF "java/lang/String" "coder" "B" (.int 0) a (jA base) U H ∧ f (n - 1) = 32 ∧ ∃ v : Nat, va_OF "java/lang/String" "value" "[B" (.ref v) a (jA base) U H ∧ va_T .byte v n (fun j => .int (f j)) (jA base) U H
theorem jStrE.moved {base a n : Nat} {f : Nat → Int32} {u U : State} {H : Heap} (hvm : u.vm.Alike U.vm) (h : jStrE base a n f u H) : jStrE base a n f U H := by
  obtain ⟨h1, h2, h5, v, h3, h4⟩ := h
  exact ⟨h1.moved hvm, h2.moved hvm, h5, v, h3.moved hvm, h4.moved hvm⟩
theorem jStrE.kept {base a n : Nat} {f : Nat → Int32} {U : State} {H H1 : Heap} (h : jStrE base a n f U H) (hq : ∀ a : Nat, a < H.size → ¬ jA base a → H1[a]? = H[a]?) : jStrE base a n f U H1 := by
  obtain ⟨h1, h2, h5, v, h3, h4⟩ := h
  exact ⟨h1.kept hq, h2.kept hq, h5, v, h3.kept hq, h4.kept hq⟩
theorem jStrE.str {base a n : Nat} {f : Nat → Int32} {U : State} {H : Heap} (h : jStrE base a n f U H) : jStr base a n U H := by
  obtain ⟨h1, h2, -, v, h3, h4⟩ := h
  exact ⟨h1, h2, v, _, h3, h4⟩
end
section
-- printing: how often a bound name is marked
def jMx (f : Nat → Int32) (n M : Int) : Prop := ∀ k : Int, 0 ≤ k → k < n → jSo f k ≤ M
def jEqK (f g : Nat → Int32) (n : Int) : Prop := ∀ k : Int, 0 ≤ k → k < n → jSo g k = jSo f k
theorem jEqK.rf (f : Nat → Int32) (n : Int) : jEqK f f n := fun _ _ _ => rfl
theorem jEqK.tr {f g h : Nat → Int32} {n : Int} (h1 : jEqK f g n) (h2 : jEqK g h n) : jEqK f h n := fun k q0 q1 => (h2 k q0 q1).trans (h1 k q0 q1)
theorem jMx.eq {f g : Nat → Int32} {n M : Int} (h : jMx f n M) (he : jEqK f g n) : jMx g n M := fun k q0 q1 => by rw [he k q0 q1]; exact h k q0 q1
theorem jMx.put {f g : Nat → Int32} {n m M M1 x e : Int} (h : jMx f n M) (hv : jSo g e = x) (ho : ∀ j, j < 100 → j ≠ e.toNat → g j = f j) (he : e = n) (h0 : 0 ≤ n) (h1 : n ≤ 99) (hm : m = n + 1) (hx : x ≤ M1) (hM : M ≤ M1) : jMx g m M1 := fun k q0 q1 => by
  have hU := jUpd.mk (n := 100) hv ho he h0
  by_cases q : k = n
  · rw [q, hU.1]; exact hx
  · rw [hU.2 k q0 (by omega) q]; have := h k q0 (by omega); omega
theorem jEqK.st {f g h : Nat → Int32} {n m x e : Int} (hv : jSo g e = x) (ho : ∀ j, j < 100 → j ≠ e.toNat → g j = f j) (he : e = n) (h0 : 0 ≤ n) (h1 : n ≤ 99) (h2 : jEqK g h m) (hm : n ≤ m) : jEqK f h n := fun k q0 q1 => by
  have hU := jUpd.mk (n := 100) hv ho he h0
  rw [h2 k q0 (by omega), hU.2 k q0 (by omega) (by omega)]
end
section
-- how a text is parted, as functions
/-- sentences in order: s of them, all within u -/
def jSrt (b e : Nat → Int32) (s u : Int) : Prop := ∀ k : Int, 0 ≤ k → k < s → 0 ≤ jSo b k ∧ jSo b k ≤ jSo e k ∧ jSo e k ≤ u ∧ (k + 1 < s → jSo e k ≤ jSo b (k + 1))
theorem jSrt.nil (b e : Nat → Int32) (u : Int) : jSrt b e 0 u := fun k h0 h1 => by omega
theorem jSrt.up {b e : Nat → Int32} {s u v : Int} (h : jSrt b e s u) (hv : u ≤ v) : jSrt b e s v := fun k h0 h1 => by
  obtain ⟨a1, a2, a3, a4⟩ := h k h0 h1
  exact ⟨a1, a2, by omega, a4⟩
end
section
-- the kernel at the beginning
theorem jKi.zero {C : jK} {pn py pf pg pp pl : Int} {ff fg fh fp : Nat → Int32} (h1 : pn = 0) (h2 : py = 0) (h3 : pf = 0) (h4 : pg = 0) (h5 : pp = 0) : jKi C pn py pf pg pp pl ff fg fh fp := ⟨by omega, by omega, by omega, by omega, by omega, by omega, by omega, fun k q0 q1 => by omega, fun k q0 q1 => by omega, fun q => by omega⟩
end
section
-- the documents of the reference: their sentences are in order (an invariant with a footprint; x: the document that is being changed)
abbrev jFd : List (Nat × Nat) := [(14, 4), (14, 5), (14, 6), (14, 7), (14, 9), (190, 0), (191, 0)]
def jD14 (dC : Nat → ClassId) (dI : Nat → Nat → Nat) (ca : Nat → ClassId) (G : jT) (a yb ye : Nat) (H : Heap) : Prop := ∃ (fb fe : Nat → Int32) (ps pz pc : Int32), G yb = some (190, 40) ∧ G ye = some (191, 40) ∧ jP (dC, dI) G H [(a, 14, 6, .ref yb), (a, 14, 7, .ref ye), (a, 14, 5, .int ps), (a, 14, 4, .int pz), (a, 14, 9, .int pc)] ∧ jMc (dC, dI) G H [(yb, 190, 40, ca 1, fb), (ye, 191, 40, ca 1, fe)] ∧ jSrt fb fe ps.toInt pz.toInt ∧ 0 ≤ pc.toInt ∧ pc.toInt ≤ ps.toInt ∧ ps.toInt ≤ 40 ∧ 0 ≤ pz.toInt ∧ pz.toInt ≤ 1500
def jDX (dC : Nat → ClassId) (dI : Nat → Nat → Nat) (ca : Nat → ClassId) (G : jT) (x : Option Nat) (H : Heap) : Prop := ∃ Yb Ye : Nat → Nat, (∀ a, G a = some (14, 0) → jf (dC, dI) 14 a 6 (.ref (Yb a)) H ∧ jf (dC, dI) 14 a 7 (.ref (Ye a)) H) ∧ (∀ a b, G a = some (14, 0) → G b = some (14, 0) → Yb a = Yb b → a = b) ∧ (∀ a b, G a = some (14, 0) → G b = some (14, 0) → Ye a = Ye b → a = b) ∧ ∀ a, G a = some (14, 0) → some a ≠ x → jD14 dC dI ca G a (Yb a) (Ye a) H
theorem jf.ag14 {D : va_G} {G : jT} {H H1 : Heap} {a i : Nat} {v : Value} (hA : jAg D G jFd H H1) (ha : G a = some (14, 0)) (hi : jFd.contains (14, i) = true) (h : jf D 14 a i v H) : jf D 14 a i v H1 := hA.1 a 14 0 i v ha hi h
theorem jD14.ag {dC : Nat → ClassId} {dI : Nat → Nat → Nat} {ca : Nat → ClassId} {G : jT} {a yb ye : Nat} {H H1 : Heap} (h : jD14 dC dI ca G a yb ye H) (ha : G a = some (14, 0)) (hA : jAg (dC, dI) G jFd H H1) : jD14 dC dI ca G a yb ye H1 := by
  obtain ⟨fb, fe, ps, pz, pc, g1, g2, g3, g4, g5⟩ := h
  refine ⟨fb, fe, ps, pz, pc, g1, g2, fun q hq => ?_, fun q hq => ?_, g5⟩
  · obtain ⟨q1, q2⟩ := g3 q hq
    refine ⟨q1, ?_⟩
    simp only [List.mem_cons, List.not_mem_nil, or_false] at hq
    rcases hq with rfl | rfl | rfl | rfl | rfl <;> exact jf.ag14 hA ha rfl q2
  · obtain ⟨q1, q2, q3, q4⟩ := g4 q hq
    refine ⟨q1, q2, q3, q4.kept ?_⟩
    simp only [List.mem_cons, List.not_mem_nil, or_false] at hq
    rcases hq with rfl | rfl
    · exact hA.2 _ _ _ q1 q2 q3 rfl
    · exact hA.2 _ _ _ q1 q2 q3 rfl
theorem jDX.ag {dC : Nat → ClassId} {dI : Nat → Nat → Nat} {ca : Nat → ClassId} {G : jT} {x : Option Nat} {H H1 : Heap} (hA : jAg (dC, dI) G jFd H H1) (h : jDX dC dI ca G x H) : jDX dC dI ca G x H1 := by
  obtain ⟨Yb, Ye, h1, h2, h3, h4⟩ := h
  exact ⟨Yb, Ye, fun a ha => ⟨jf.ag14 hA ha rfl (h1 a ha).1, jf.ag14 hA ha rfl (h1 a ha).2⟩, h2, h3, fun a ha hx => (h4 a ha hx).ag ha hA⟩
/-- what is known of one document -/
theorem jDX.at {dC : Nat → ClassId} {dI : Nat → Nat → Nat} {ca : Nat → ClassId} {G : jT} {x : Option Nat} {H : Heap} (h : jDX dC dI ca G x H) {a : Nat} (ha : G a = some (14, 0)) (hx : some a ≠ x) : ∃ yb ye, jD14 dC dI ca G a yb ye H := by
  obtain ⟨Yb, Ye, -, -, -, h4⟩ := h
  exact ⟨_, _, h4 a ha hx⟩
theorem jDX.less {dC : Nat → ClassId} {dI : Nat → Nat → Nat} {ca : Nat → ClassId} {G : jT} {H : Heap} (h : jDX dC dI ca G none H) (x : Option Nat) : jDX dC dI ca G x H := by
  obtain ⟨Yb, Ye, h1, h2, h3, h4⟩ := h
  exact ⟨Yb, Ye, h1, h2, h3, fun a ha _ => h4 a ha (fun q => by cases q)⟩
end
section
-- invariants with a footprint, as a walk carries them: contents of reference arrays, one field of all documents, the sentences of all documents
theorem jIs.cons {D : va_G} {G : jT} {H : Heap} {q : jIv} {L : List jIv} (h : q.2 H ∧ ∀ H1 H2 : Heap, jAg D G q.1 H1 H2 → q.2 H1 → q.2 H2) (h2 : jIs D G H L) : jIs D G H (q :: L) := fun x hx => by
  rcases List.mem_cons.mp hx with e | e
  · subst e; exact h
  · exact h2 x e
theorem jf.uniq {D : va_G} {k a i : Nat} {v w : Value} {H : Heap} (h1 : jf D k a i v H) (h2 : jf D k a i w H) : v = w := by
  obtain ⟨r, -, -, cell, g3, -, -, g6⟩ := h1
  obtain ⟨r2, -, -, cell2, q3, -, -, q6⟩ := h2
  cases g3.symm.trans q3
  exact Option.some.inj (g6.symm.trans q6)
def jQc (dC : Nat → ClassId) (dI : Nat → Nat → Nat) (cA : ClassId) (a n : Nat) (f : Nat → Option Nat) (H : Heap) : Prop := va_at (dC, dI) vwCl (a, .inl (cA, n, .inr (.inr (.inr (.inr f))))) H
def jVl (dC : Nat → ClassId) (dI : Nat → Nat → Nat) (G : jT) (i : Nat) (v : Nat → Int32) (H : Heap) : Prop := ∀ a, G a = some (14, 0) → jf (dC, dI) 14 a i (.int (v a)) H
abbrev jF9 : List (Nat × Nat) := [(14, 9)]
abbrev jFs : List (Nat × Nat) := [(14, 5), (14, 6), (14, 7), (190, 0), (191, 0)]
theorem jQc.ie {dC : Nat → ClassId} {dI : Nat → Nat → Nat} {cA : ClassId} {a n k m : Nat} {G : jT} {f : Nat → Option Nat} {H : Heap} (h : jQc dC dI cA a n f H) (ha : G a = some (k, m)) (h1 : 17 ≤ k) (h2 : k < 1000) : (([(k, 0)], jQc dC dI cA a n f) : jIv).2 H ∧ ∀ H1 H2 : Heap, jAg (dC, dI) G (([(k, 0)], jQc dC dI cA a n f) : jIv).1 H1 H2 → (([(k, 0)], jQc dC dI cA a n f) : jIv).2 H1 → (([(k, 0)], jQc dC dI cA a n f) : jIv).2 H2 :=
  ⟨h, fun H1 H2 hA hq => by
    have hq1 : va_at (dC, dI) vwCl (a, .inl (cA, n, .inr (.inr (.inr (.inr f))))) H1 := hq
    exact va_at.kept hq1 (hA.2 a k m ha h1 h2 (by simp))⟩
theorem jVl.ie {dC : Nat → ClassId} {dI : Nat → Nat → Nat} {G : jT} {v : Nat → Int32} {H : Heap} (h : jVl dC dI G 9 v H) : ((jF9, jVl dC dI G 9 v) : jIv).2 H ∧ ∀ H1 H2 : Heap, jAg (dC, dI) G ((jF9, jVl dC dI G 9 v) : jIv).1 H1 H2 → ((jF9, jVl dC dI G 9 v) : jIv).2 H1 → ((jF9, jVl dC dI G 9 v) : jIv).2 H2 :=
  ⟨h, fun H1 H2 hA hq a ha => hA.1 a 14 0 9 _ ha rfl (hq a ha)⟩
/-- one document: ps sentences, in order -/
def jD2 (dC : Nat → ClassId) (dI : Nat → Nat → Nat) (ca : Nat → ClassId) (G : jT) (a yb ye : Nat) (ps : Int32) (H : Heap) : Prop := ∃ (fb fe : Nat → Int32), G yb = some (190, 40) ∧ G ye = some (191, 40) ∧ jP (dC, dI) G H [(a, 14, 6, .ref yb), (a, 14, 7, .ref ye), (a, 14, 5, .int ps)] ∧ jMc (dC, dI) G H [(yb, 190, 40, ca 1, fb), (ye, 191, 40, ca 1, fe)] ∧ jSrt fb fe ps.toInt 1500 ∧ 0 ≤ ps.toInt ∧ ps.toInt ≤ 40
/-- all documents but x -/
def jDY (dC : Nat → ClassId) (dI : Nat → Nat → Nat) (ca : Nat → ClassId) (G : jT) (x : Option Nat) (sn : Nat → Int32) (H : Heap) : Prop := ∃ Yb Ye : Nat → Nat, (∀ a, G a = some (14, 0) → jf (dC, dI) 14 a 6 (.ref (Yb a)) H ∧ jf (dC, dI) 14 a 7 (.ref (Ye a)) H ∧ G (Yb a) = some (190, 40) ∧ G (Ye a) = some (191, 40)) ∧ (∀ a b, G a = some (14, 0) → G b = some (14, 0) → Yb a = Yb b → a = b) ∧ (∀ a b, G a = some (14, 0) → G b = some (14, 0) → Ye a = Ye b → a = b) ∧ ∀ a, G a = some (14, 0) → some a ≠ x → jD2 dC dI ca G a (Yb a) (Ye a) (sn a) H
theorem jD2.of {dC : Nat → ClassId} {dI : Nat → Nat → Nat} {ca : Nat → ClassId} {G : jT} {a yb ye : Nat} {ps : Int32} {H H1 : Heap} (h : jD2 dC dI ca G a yb ye ps H) (hf : ∀ i v, i = 5 ∨ i = 6 ∨ i = 7 → jf (dC, dI) 14 a i v H → jf (dC, dI) 14 a i v H1) (hb : H1[yb]? = H[yb]?) (he : H1[ye]? = H[ye]?) : jD2 dC dI ca G a yb ye ps H1 := by
  obtain ⟨fb, fe, g1, g2, g3, g4, g5⟩ := h
  refine ⟨fb, fe, g1, g2, fun q hq => ?_, fun q hq => ?_, g5⟩
  · obtain ⟨q1, q2⟩ := g3 q hq
    refine ⟨q1, ?_⟩
    simp only [List.mem_cons, List.not_mem_nil, or_false] at hq
    rcases hq with rfl | rfl | rfl
    · exact hf _ _ (Or.inr (Or.inl rfl)) q2
    · exact hf _ _ (Or.inr (Or.inr rfl)) q2
    · exact hf _ _ (Or.inl rfl) q2
  · obtain ⟨q1, q2, q3, q4⟩ := g4 q hq
    refine ⟨q1, q2, q3, q4.kept ?_⟩
    simp only [List.mem_cons, List.not_mem_nil, or_false] at hq
    rcases hq with rfl | rfl
    · exact hb
    · exact he
theorem jDY.ie {dC : Nat → ClassId} {dI : Nat → Nat → Nat} {ca : Nat → ClassId} {G : jT} {x : Option Nat} {sn : Nat → Int32} {H : Heap} (h : jDY dC dI ca G x sn H) : ((jFs, jDY dC dI ca G x sn) : jIv).2 H ∧ ∀ H1 H2 : Heap, jAg (dC, dI) G ((jFs, jDY dC dI ca G x sn) : jIv).1 H1 H2 → ((jFs, jDY dC dI ca G x sn) : jIv).2 H1 → ((jFs, jDY dC dI ca G x sn) : jIv).2 H2 := by
  refine ⟨h, fun H1 H2 hA hq => ?_⟩
  obtain ⟨Yb, Ye, h1, h2, h3, h4⟩ := hq
  refine ⟨Yb, Ye, fun a ha => ?_, h2, h3, fun a ha hx => ?_⟩
  · obtain ⟨g1, g2, g3, g4⟩ := h1 a ha
    exact ⟨hA.1 a 14 0 6 _ ha rfl g1, hA.1 a 14 0 7 _ ha rfl g2, g3, g4⟩
  · obtain ⟨g1, g2, g3, g4⟩ := h1 a ha
    refine (h4 a ha hx).of (fun i v hi hf => ?_) (hA.2 _ _ _ g3 (by omega) (by omega) rfl) (hA.2 _ _ _ g4 (by omega) (by omega) rfl)
    rcases hi with rfl | rfl | rfl
    · exact hA.1 a 14 0 5 _ ha rfl hf
    · exact hA.1 a 14 0 6 _ ha rfl hf
    · exact hA.1 a 14 0 7 _ ha rfl hf
theorem jDY.at {dC : Nat → ClassId} {dI : Nat → Nat → Nat} {ca : Nat → ClassId} {G : jT} {x : Option Nat} {sn : Nat → Int32} {H : Heap} (h : jDY dC dI ca G x sn H) {a : Nat} (ha : G a = some (14, 0)) (hx : some a ≠ x) : ∃ (yb ye : Nat) (fb fe : Nat → Int32), G yb = some (190, 40) ∧ G ye = some (191, 40) ∧ jP (dC, dI) G H [(a, 14, 6, .ref yb), (a, 14, 7, .ref ye), (a, 14, 5, .int (sn a))] ∧ jMc (dC, dI) G H [(yb, 190, 40, ca 1, fb), (ye, 191, 40, ca 1, fe)] ∧ jSrt fb fe (sn a).toInt 1500 ∧ 0 ≤ (sn a).toInt ∧ (sn a).toInt ≤ 40 := by
  obtain ⟨Yb, Ye, -, -, -, h4⟩ := h
  obtain ⟨fb, fe, g⟩ := h4 a ha hx
  exact ⟨_, _, fb, fe, g⟩
theorem jDY.less {dC : Nat → ClassId} {dI : Nat → Nat → Nat} {ca : Nat → ClassId} {G : jT} {sn : Nat → Int32} {H : Heap} (h : jDY dC dI ca G none sn H) (x : Nat) : jDY dC dI ca G (some x) sn H := by
  obtain ⟨Yb, Ye, h1, h2, h3, h4⟩ := h
  exact ⟨Yb, Ye, h1, h2, h3, fun a ha _ => h4 a ha (fun q => by cases q)⟩
def jUn (v : Nat → Int32) (a : Nat) (w : Int32) : Nat → Int32 := fun b => if b = a then w else v b
theorem jUn_e (v : Nat → Int32) (a : Nat) (w : Int32) : jUn v a w a = w := by simp [jUn]
theorem jUn_n (v : Nat → Int32) {a b : Nat} (w : Int32) (h : b ≠ a) : jUn v a w b = v b := by simp [jUn, h]
theorem jDY.full {dC : Nat → ClassId} {dI : Nat → Nat → Nat} {ca : Nat → ClassId} {G : jT} {sn : Nat → Int32} {H : Heap} {a yb ye : Nat} {ps : Int32} {fb fe : Nat → Int32} (h : jDY dC dI ca G (some a) sn H) (ha : G a = some (14, 0)) (hb : G yb = some (190, 40)) (he : G ye = some (191, 40)) (hP : jP (dC, dI) G H [(a, 14, 6, .ref yb), (a, 14, 7, .ref ye), (a, 14, 5, .int ps)]) (hM : jMc (dC, dI) G H [(yb, 190, 40, ca 1, fb), (ye, 191, 40, ca 1, fe)]) (hs : jSrt fb fe ps.toInt 1500) (h0 : 0 ≤ ps.toInt) (h40 : ps.toInt ≤ 40) : jDY dC dI ca G none (jUn sn a ps) H := by
  obtain ⟨Yb, Ye, h1, h2, h3, h4⟩ := h
  refine ⟨Yb, Ye, h1, h2, h3, fun b hb1 _ => ?_⟩
  by_cases e : b = a
  · subst e
    rw [jUn_e]
    have e1 : Yb b = yb := by have := jf.uniq (h1 b ha).1 (hP _ List.mem_cons_self).2; cases this; rfl
    have e2 : Ye b = ye := by have := jf.uniq (h1 b ha).2.1 (hP _ (List.mem_cons_of_mem _ List.mem_cons_self)).2; cases this; rfl
    rw [e1, e2]
    exact ⟨fb, fe, hb, he, hP, hM, hs, h0, h40⟩
  · rw [jUn_n _ _ e]
    exact h4 b hb1 (fun q => e (Option.some.inj q))
/-- a write to a field of x -/
theorem jDY.fld {dC : Nat → ClassId} {dI : Nat → Nat → Nat} {ca : Nat → ClassId} {G : jT} {sn : Nat → Int32} {H H1 : Heap} {a : Nat} (h : jDY dC dI ca G (some a) sn H) (ha : G a = some (14, 0)) (hfr : ∀ p, p ≠ a → H1[p]? = H[p]?) (hkf : ∀ ib w, ib ≠ 5 → jf (dC, dI) 14 a ib w H → jf (dC, dI) 14 a ib w H1) : jDY dC dI ca G (some a) sn H1 := by
  obtain ⟨Yb, Ye, h1, h2, h3, h4⟩ := h
  refine ⟨Yb, Ye, fun b hb => ?_, h2, h3, fun b hb hx => ?_⟩
  · obtain ⟨g1, g2, g3, g4⟩ := h1 b hb
    by_cases e : b = a
    · subst e; exact ⟨hkf _ _ (by decide) g1, hkf _ _ (by decide) g2, g3, g4⟩
    · exact ⟨g1.kept (hfr b e), g2.kept (hfr b e), g3, g4⟩
  · obtain ⟨g1, g2, g3, g4⟩ := h1 b hb
    have e : b ≠ a := fun q => hx (by rw [q])
    refine (h4 b hb hx).of (fun i v hi hf => hf.kept (hfr b e)) (hfr _ (fun q => ?_)) (hfr _ (fun q => ?_))
    · rw [q, ha] at g3; cases g3
    · rw [q, ha] at g4; cases g4
/-- a write to an array of x -/
theorem jDY.arr {dC : Nat → ClassId} {dI : Nat → Nat → Nat} {ca : Nat → ClassId} {G : jT} {sn : Nat → Int32} {H H1 : Heap} {a y k : Nat} (h : jDY dC dI ca G (some a) sn H) (ha : G a = some (14, 0)) (hy : G y = some (k, 40)) (hk : (k = 190 ∧ jf (dC, dI) 14 a 6 (.ref y) H) ∨ (k = 191 ∧ jf (dC, dI) 14 a 7 (.ref y) H)) (hfr : ∀ p, p ≠ y → H1[p]? = H[p]?) : jDY dC dI ca G (some a) sn H1 := by
  obtain ⟨Yb, Ye, h1, h2, h3, h4⟩ := h
  have hn : ∀ b, G b = some (14, 0) → b ≠ y := fun b hb q => by
    rw [q, hy] at hb
    have := (Prod.mk.inj (Option.some.inj hb)).1
    rcases hk with hk | hk <;> omega
  refine ⟨Yb, Ye, fun b hb => ?_, h2, h3, fun b hb hx => ?_⟩
  · obtain ⟨g1, g2, g3, g4⟩ := h1 b hb
    exact ⟨g1.kept (hfr b (hn b hb)), g2.kept (hfr b (hn b hb)), g3, g4⟩
  · obtain ⟨g1, g2, g3, g4⟩ := h1 b hb
    refine (h4 b hb hx).of (fun i v hi hf => hf.kept (hfr b (hn b hb))) (hfr _ (fun q => ?_)) (hfr _ (fun q => ?_))
    · rcases hk with ⟨k1, k2⟩ | ⟨k1, k2⟩
      · have e1 : Yb a = y := by have := jf.uniq (h1 a ha).1 k2; cases this; rfl
        exact hx (by rw [h2 b a hb ha (q.trans e1.symm)])
      · rw [q, hy] at g3
        have := (Prod.mk.inj (Option.some.inj g3)).1
        omega
    · rcases hk with ⟨k1, k2⟩ | ⟨k1, k2⟩
      · rw [q, hy] at g4
        have := (Prod.mk.inj (Option.some.inj g4)).1
        omega
      · have e1 : Ye a = y := by have := jf.uniq (h1 a ha).2.1 k2; cases this; rfl
        exact hx (by rw [h3 b a hb ha (q.trans e1.symm)])
theorem jVl.put {dC : Nat → ClassId} {dI : Nat → Nat → Nat} {G : jT} {ck : Nat → Int32} {H H1 : Heap} {a : Nat} {w : Int32} (h : jVl dC dI G 9 ck H) (hfr : ∀ p, p ≠ a → H1[p]? = H[p]?) (hn : jf (dC, dI) 14 a 9 (.int w) H1) : jVl dC dI G 9 (jUn ck a w) H1 := fun b hb => by
  by_cases e : b = a
  · subst e; rw [jUn_e]; exact hn
  · rw [jUn_n _ _ e]; exact (h b hb).kept (hfr b e)
/-- what is asked of the numbers: the open documents are apart, checked <= sentences, and what a worker holds is an open document's sentence -/
def jPu (sn ck : Nat → Int32) (fd fo : Nat → Option Nat) (fs : Nat → Int32) (dc : Int) (ol nw td : Nat) : Prop := (∀ i, i < 3 → fd i ≠ some ol ∧ fd i ≠ some nw ∧ fd i ≠ some td) ∧ (∀ i j, i < 3 → j < 3 → fd i = fd j → i = j) ∧ (∀ i a, i < 3 → fd i = some a → (ck a).toInt ≤ (sn a).toInt) ∧ ∀ w, w < 2 → fo w = none ∨ ∃ (d a : Nat), (d : Int) < dc ∧ d < 3 ∧ fd d = some a ∧ fo w = some a ∧ (fs w).toInt < (sn a).toInt
/-- the documents of the reference, as they stand between two calls -/
def jDV (dC : Nat → ClassId) (dI : Nat → Nat → Nat) (ca : Nat → ClassId) (G : jT) (r dd co cs ol nw td : Nat) (H : Heap) : Prop := ∃ (sn ck fs : Nat → Int32) (fd fo : Nat → Option Nat) (dc : Int32), jP (dC, dI) G H [(r, 16, 41, .ref dd), (r, 16, 42, .int dc), (r, 16, 60, .ref co), (r, 16, 61, .ref cs), (r, 16, 46, .ref ol), (r, 16, 47, .ref nw), (r, 16, 71, .ref td)] ∧ jMc (dC, dI) G H [(cs, 207, 2, ca 1, fs)] ∧ jIs (dC, dI) G H [(jFs, jDY dC dI ca G none sn), (jF9, jVl dC dI G 9 ck), ([(201, 0)], jQc dC dI (ca 4) dd 3 fd), ([(208, 0)], jQc dC dI (ca 4) co 2 fo)] ∧ jPu sn ck fd fo fs dc.toInt ol nw td
theorem jVl.at {dC : Nat → ClassId} {dI : Nat → Nat → Nat} {G : jT} {ck : Nat → Int32} {H : Heap} {a : Nat} (h : jVl dC dI G 9 ck H) (ha : G a = some (14, 0)) : jP (dC, dI) G H [(a, 14, 9, .int (ck a))] := fun q hq => by
  cases List.mem_singleton.mp hq
  exact ⟨⟨0, ha⟩, h a ha⟩
theorem jStr.back {base a n : Nat} {s t : State} {H1 : Heap} (h : jStr base a n t H1) (hvm : s.vm.Alike t.vm) (hb : base ≤ s.heap.size) (hS : ∀ q : Nat, q < s.heap.size → ¬ jA base q → H1[q]? = s.heap[q]?) : jStr base a n s s.heap :=
  (h.moved hvm.symm).kept (fun q _ hq => (hS q (Nat.lt_of_lt_of_le (Nat.lt_of_not_le hq) hb) hq).symm)
section J15
variable {p : Program} {l : Launch} {e : Env} {R : Room} {s : State} {m : MethodId} {args : Array Value} {below : List Frame} {meth : Method} {c : Code} {H : Heap} {locs : List Loc} {cells slots : Nat} {Q : State → Prop}
variable {cc : ByteArray} {pc : Nat} {ls : Array Slot} {rest : List Value} {dC : Nat → ClassId} {dI : Nat → Nat → Nat} {ca : Nat → ClassId} {B : jF} {base : Nat} {G0 G : jT} {E : List (Nat × Nat)} {H0 : Heap} {zc zs : Nat} {L : List jPin} {M : List jCt} {I : List jIv} {a k n i N : Nat} {cA : ClassId} {tys : List (ClassId × FieldType)} {C own : String} {T : u_T} {index : Nat}
theorem jSt.iv (hh : jSt (dC, dI) B base G0 G E H0 zc zs L M I H locs) (j : Nat) {q : jIv} (hj : I[j]? = some q) : q.2 H := (hh.2.2.2.2.2.2.2.2 q (List.mem_of_getElem? hj)).1
theorem jSt.addI (hh : jSt (dC, dI) B base G0 G E H0 zc zs L M I H locs) {q : jIv} (h : q.2 H ∧ ∀ H1 H2 : Heap, jAg (dC, dI) G q.1 H1 H2 → q.2 H1 → q.2 H2) : jSt (dC, dI) B base G0 G E H0 zc zs L M (q :: I) H locs := by
  obtain ⟨h1, h2, h3, h4, h5, h6, h7, h8, h9⟩ := hh
  exact ⟨h1, h2, h3, h4, h5, h6, h7, h8, jIs.cons h h9⟩
theorem jSt.addIs (hh : jSt (dC, dI) B base G0 G E H0 zc zs L M I H locs) {I1 : List jIv} (h : jIs (dC, dI) G H I1) : jSt (dC, dI) B base G0 G E H0 zc zs L M (I1 ++ I) H locs := by
  obtain ⟨h1, h2, h3, h4, h5, h6, h7, h8, h9⟩ := hh
  exact ⟨h1, h2, h3, h4, h5, h6, h7, h8, fun q hq => (List.mem_append.mp hq).elim (h q) (h9 q)⟩
theorem j7_iastX {P : Nat → Int32 → Prop} (hexec : p.tables.exec = Jvm.exec) (hb : c.code = cc) (hK : va_K (dC, dI) vwCl tys s) (hh : jSt (dC, dI) B base G0 G E H0 zc zs L M I H locs) (hB : jBok B) (hBk : ∀ n G a H, B k n G a H ↔ jAr (dC, dI) cA P n a H) (t0 : Nat) (ht : tys[t0]? = some (cA, .int)) (hk : k < 1000) (hk2 : 17 ≤ k) (hE : E.contains (k, 0) = true) (oj : Nat) {kk1 : Nat} {cB : ClassId} {f : Nat → Int32} (hj : M[oj]? = some (a, kk1, n, cB, f)) {M1 : List jCt} (js : List Nat) (hjs : js.map (fun i => M[i]?) = M1.map some) (hM : M1.all (fun q => !(q.2.1 == k)) = true) (hI : I.all (fun q => !(q.1.contains (k, 0))) = true) (ha : G a = some (k, n)) {i v : Int32} {x : Int} (hi : i.toInt = x) (h12 : 0 ≤ x ∧ x < n) (hv : P x.toNat v) (hdg : decode cc pc = .ok (.iastore, 1))
    (kk : ∀ (H1 : Heap) (locs1 : List Loc) (g : Nat → Int32), g x.toNat = v → (∀ j, j < n → j ≠ x.toNat → g j = f j) → (∀ q, q ≠ a → H1[q]? = H[q]?) → jSt (dC, dI) B base G0 G E H0 zc zs L ((a, k, n, cA, g) :: M1) I H1 locs1 → W p l e R s m args below meth c H1 locs1 cells slots Q (F0 m (pc + 1) ls rest)) : W p l e R s m args below meth c H locs cells slots Q (F0 m pc ls (.int v :: .int i :: .ref a :: rest)) := by
  obtain ⟨h1, h2⟩ := h12
  obtain ⟨f', g1, g2⟩ := hh.ar hBk hk ha
  obtain ⟨-, -, -, q4⟩ := hh.2.2.2.2.2.2.2.1 _ (List.mem_of_getElem? hj)
  have hh1 : jSt (dC, dI) B base G0 G E H0 zc zs L M1 I H locs := by
    obtain ⟨e1, e2, e3, e4, e5, e6, e7, e8, e9⟩ := hh
    exact ⟨e1, e2, e3, e4, e5, e6, e7, e8.sub js hjs, e9⟩
  refine j_iast (A := jA base) hexec hb hK t0 g1 (hh.ab ha).1 hh.1.2.2 ht (jb_in hi h1 h2) hdg (fun H1 locs1 hat hsz hfr hT hL => ?_)
  have h9 := hh1.arr hB ha hk hk2 hE hM hI hsz hfr hT hL ((hBk _ _ _ _).mpr ⟨_, hat, jAr_upd g2 hi h1 hv⟩)
  refine kk H1 locs1 (upd f' i.toNatClampNeg v) (by rw [← jb_cl hi h1]; simp [upd]) (fun j hj' hne => ?_) hfr ?_
  · have : j ≠ i.toNatClampNeg := by rw [jb_cl hi h1]; exact hne
    simp only [upd, if_neg this]
    exact (jCt_eq q4 g1 hj').symm
  · obtain ⟨e1, e2, e3, e4, e5, e6, e7, e8, e9⟩ := h9
    refine ⟨e1, e2, e3, e4, e5, e6, e7, fun q hq => ?_, e9⟩
    rcases List.mem_cons.mp hq with e | e
    · subst e; exact ⟨ha, hk2, hk, hat⟩
    · exact e8 q e
theorem jQc_eq {D : va_G} {a n j : Nat} {cA cB : ClassId} {f g : Nat → Option Nat} {H : Heap} (h1 : va_at D vwCl (a, .inl (cA, n, .inr (.inr (.inr (.inr f))))) H) (h2 : va_at D vwCl (a, .inl (cB, n, .inr (.inr (.inr (.inr g))))) H) (hj : j < n) : f j = g j := by
  have e1 : H[a]? = some (vp_cell cA (n, .inr (.inr (.inr (.inr f))))) := h1
  have e2 : H[a]? = some (vp_cell cB (n, .inr (.inr (.inr (.inr g))))) := h2
  have e := Option.some.inj (e1.symm.trans e2)
  have r1 : (vp_cell cA (n, .inr (.inr (.inr (.inr f))))).slots[j]? = some (va_rf (f j)) := by rw [vp_cell_q, arrV_read _ _ hj]
  have r2 : (vp_cell cB (n, .inr (.inr (.inr (.inr g))))).slots[j]? = some (va_rf (g j)) := by rw [vp_cell_q, arrV_read _ _ hj]
  rw [e, r2] at r1
  have r3 := Option.some.inj r1
  cases hf : f j <;> cases hg : g j <;> rw [hf, hg] at r3 <;> simp [va_rf] at r3 ⊢
  exact r3.symm
/-- reads and writes of a reference array whose contents are known -/
theorem j7_qaldI {P : jT → Option Nat → Prop} (hexec : p.tables.exec = Jvm.exec) (hb : c.code = cc) (hK : va_K (dC, dI) vwCl tys s) (hh : jSt (dC, dI) B base G0 G E H0 zc zs L M I H locs) (hBk : ∀ n G a H, B k n G a H ↔ jAq (dC, dI) cA P n G a H) (t0 : Nat) (ht : tys[t0]? = some (cA, .object C)) (hk : k < 1000) (ha : G a = some (k, n)) {i : Int32} {x : Int} (hi : i.toInt = x) (h12 : 0 ≤ x ∧ x < n) {f : Nat → Option Nat} {cB : ClassId} (hq : jQc dC dI cB a n f H) (hdg : decode cc pc = .ok (.aaload, 1))
    (kk : ∀ o : Option Nat, P G o → o = f x.toNat → W p l e R s m args below meth c H locs cells slots Q (F0 m (pc + 1) ls (va_rf o :: rest))) : W p l e R s m args below meth c H locs cells slots Q (F0 m pc ls (.int i :: .ref a :: rest)) := by
  obtain ⟨h1, h2⟩ := h12
  obtain ⟨f', g1, g2⟩ := hh.aq hBk hk ha
  have hlt := jb_cl_lt hi h1 h2
  exact va_aldq hexec hb hK (jp_one g1) 0 t0 rfl ht (jb_in hi h1 h2) hdg (kk _ (g2 _ hlt) (by rw [← jb_cl hi h1]; exact jQc_eq g1 hq hlt))
end J15
end
section
-- texts whose bytes are known: charAt, isText and member as functions
def jStrF (base a n : Nat) (f : Nat → Int32) (U : State) (H : Heap) : Prop := va_O "java/lang/String" a (jA base) U H ∧ va_OF "java/lang/String" "coder" "B" (.int 0) a (jA base) U H ∧ ∃ v : Nat, va_OF "java/lang/String" "value" "[B" (.ref v) a (jA base) U H ∧ va_T .byte v n (fun j => .int (f j)) (jA base) U H
theorem jStrF.moved {base a n : Nat} {f : Nat → Int32} {u U : State} {H : Heap} (hvm : u.vm.Alike U.vm) (h : jStrF base a n f u H) : jStrF base a n f U H := by
  obtain ⟨h1, h2, v, h3, h4⟩ := h
  exact ⟨h1.moved hvm, h2.moved hvm, v, h3.moved hvm, h4.moved hvm⟩
theorem jStrF.kept {base a n : Nat} {f : Nat → Int32} {U : State} {H H1 : Heap} (h : jStrF base a n f U H) (hq : ∀ a : Nat, a < H.size → ¬ jA base a → H1[a]? = H[a]?) : jStrF base a n f U H1 := by
  obtain ⟨h1, h2, v, h3, h4⟩ := h
  exact ⟨h1.kept hq, h2.kept hq, v, h3.kept hq, h4.kept hq⟩
theorem jStrF.str {base a n : Nat} {f : Nat → Int32} {U : State} {H : Heap} (h : jStrF base a n f U H) : jStr base a n U H := by
  obtain ⟨h1, h2, v, h3, h4⟩ := h
  exact ⟨h1, h2, v, _, h3, h4⟩
end
section
def jLeA (f g : Nat → Int32) : Prop := ∀ i : Int, 0 ≤ i → i < 3100 → jSo f i ≤ jSo g i
end
section
-- the workers of a document that has changed; a document that is opened; closed
def jPv (sn ck : Nat → Int32) (fd fo : Nat → Option Nat) (fs : Nat → Int32) (dc : Int) (ol nw td : Nat) (x : Nat) (st k : Int) : Prop := (∀ i, i < 3 → fd i ≠ some ol ∧ fd i ≠ some nw ∧ fd i ≠ some td) ∧ (∀ i j, i < 3 → j < 3 → fd i = fd j → i = j) ∧ (∀ i a, i < 3 → fd i = some a → (ck a).toInt ≤ (sn a).toInt) ∧ (st ≤ (sn x).toInt ∧ (ck x).toInt ≤ st) ∧ ∀ w, w < 2 → fo w = none ∨ ∃ (d a : Nat), (d : Int) < dc ∧ d < 3 ∧ fd d = some a ∧ fo w = some a ∧ ((fs w).toInt < (sn a).toInt ∨ (a = x ∧ k ≤ (w : Int)))
theorem jPu.set {sn ck ck' fs : Nat → Int32} {fd fo : Nat → Option Nat} {dc st : Int} {ol nw td x : Nat} {v : Int32} (h : jPu sn ck fd fo fs dc ol nw td) (hst : st ≤ v.toInt) (hck : (ck' x).toInt ≤ st) (ho : ∀ a, a ≠ x → ck' a = ck a) : jPv (jUn sn x v) ck' fd fo fs dc ol nw td x st 0 := by
  obtain ⟨g0, g1, g2, g3⟩ := h
  refine ⟨g0, g1, fun i a hi ha => ?_, ⟨by rw [jUn_e]; exact hst, hck⟩, fun w hw => ?_⟩
  · by_cases e : a = x
    · subst e; rw [jUn_e]; omega
    · rw [jUn_n _ _ e, ho a e]; exact g2 i a hi ha
  · rcases g3 w hw with k | ⟨d, a, k1, k2, k3, k4, k5⟩
    · exact Or.inl k
    · refine Or.inr ⟨d, a, k1, k2, k3, k4, ?_⟩
      by_cases e : a = x
      · exact Or.inr ⟨e, by omega⟩
      · rw [jUn_n _ _ e]; exact Or.inl k5
theorem jPv.null {sn ck fs : Nat → Int32} {fd fo fo' : Nat → Option Nat} {dc st k k1 : Int} {ol nw td x w : Nat} (h : jPv sn ck fd fo fs dc ol nw td x st k) (hv : fo' w = none) (ho : ∀ j, j < 2 → j ≠ w → fo' j = fo j) (hw : (w : Int) = k) (hk : k1 = k + 1) : jPv sn ck fd fo' fs dc ol nw td x st k1 := by
  obtain ⟨g0, g1, g2, g4, g3⟩ := h
  refine ⟨g0, g1, g2, g4, fun j hj => ?_⟩
  by_cases e : j = w
  · subst e; exact Or.inl hv
  · rw [ho j hj e]
    rcases g3 j hj with q | ⟨d, a, k1, k2, k3, k4, k5⟩
    · exact Or.inl q
    · exact Or.inr ⟨d, a, k1, k2, k3, k4, k5.imp id (fun q => ⟨q.1, by have := q.2; omega⟩)⟩
theorem jPu.opn {sn ck fs : Nat → Int32} {fd fo : Nat → Option Nat} {dc dc1 : Int} {ol nw td x d0 : Nat} {v w0 : Int32} (h : jPu sn ck fd fo fs dc ol nw td) (hd : fd d0 = some x) (h3 : d0 < 3) (hdc : (d0 : Int) = dc) (h1 : dc1 = dc + 1) (hw : w0.toInt ≤ v.toInt) : jPu (jUn sn x v) (jUn ck x w0) fd fo fs dc1 ol nw td := by
  obtain ⟨g0, g1, g2, g3⟩ := h
  refine ⟨g0, g1, fun i a hi ha => ?_, fun w hw => ?_⟩
  · by_cases e : a = x
    · subst e; rw [jUn_e, jUn_e]; exact hw
    · rw [jUn_n _ _ e, jUn_n _ _ e]; exact g2 i a hi ha
  · rcases g3 w hw with k | ⟨d, a, k1, k2, k3, k4, k5⟩
    · exact Or.inl k
    · refine Or.inr ⟨d, a, by omega, k2, k3, k4, ?_⟩
      have e : a ≠ x := fun q => by
        subst q
        have := g1 d d0 k2 h3 (k3.trans hd.symm)
        omega
      rw [jUn_n _ _ e]; exact k5
abbrev jFt : List (Nat × Nat) := [(122, 0), (123, 0)]
def jFT (dC : Nat → ClassId) (dI : Nat → Nat → Nat) (ca : Nat → ClassId) (G : jT) (xb xe : Nat) (H : Heap) : Prop := ∃ fb fe : Nat → Int32, jMc (dC, dI) G H [(xb, 122, 3100, ca 1, fb), (xe, 123, 3100, ca 1, fe)] ∧ jLeA fb fe
theorem jFT.ie {dC : Nat → ClassId} {dI : Nat → Nat → Nat} {ca : Nat → ClassId} {G : jT} {xb xe : Nat} {H : Heap} (h : jFT dC dI ca G xb xe H) (hb : G xb = some (122, 3100)) (he : G xe = some (123, 3100)) : ((jFt, jFT dC dI ca G xb xe) : jIv).2 H ∧ ∀ H1 H2 : Heap, jAg (dC, dI) G ((jFt, jFT dC dI ca G xb xe) : jIv).1 H1 H2 → ((jFt, jFT dC dI ca G xb xe) : jIv).2 H1 → ((jFt, jFT dC dI ca G xb xe) : jIv).2 H2 := by
  refine ⟨h, fun H1 H2 hA hq => ?_⟩
  obtain ⟨fb, fe, h1, h2⟩ := hq
  refine ⟨fb, fe, fun q hq => ?_, h2⟩
  obtain ⟨q1, q2, q3, q4⟩ := h1 q hq
  refine ⟨q1, q2, q3, q4.kept ?_⟩
  simp only [List.mem_cons, List.not_mem_nil, or_false] at hq
  rcases hq with rfl | rfl
  · exact hA.2 _ _ _ q1 q2 q3 rfl
  · exact hA.2 _ _ _ q1 q2 q3 rfl
section J16
variable {p : Program} {l : Launch} {e : Env} {R : Room} {s : State} {m : MethodId} {args : Array Value} {below : List Frame} {meth : Method} {c : Code} {H : Heap} {locs : List Loc} {cells slots : Nat} {Q : State → Prop}
variable {cc : ByteArray} {pc : Nat} {ls : Array Slot} {rest : List Value} {dC : Nat → ClassId} {dI : Nat → Nat → Nat} {ca : Nat → ClassId} {B : jF} {base : Nat} {G0 G : jT} {E : List (Nat × Nat)} {H0 : Heap} {zc zs : Nat} {L : List jPin} {M : List jCt} {I : List jIv} {a k n : Nat} {cA : ClassId} {tys : List (ClassId × FieldType)}
end J16
end
section
-- how a text is parted rests on its units alone
def jEqU (f g : Nat → Int32) (n : Int) : Prop := ∀ i : Int, 0 ≤ i → i < n → jSo f i = jSo g i
theorem jEqU.nil (f g : Nat → Int32) : jEqU f g 0 := fun i h0 h1 => by omega
theorem jEqU.up {f g : Nat → Int32} {m n : Int} (h : jEqU f g m) (hn : n ≤ m) : jEqU f g n := fun i h0 h1 => h i h0 (by omega)
end
section
-- a document is closed: it goes behind the open ones
def jNo (fo : Nat → Option Nat) (x : Nat) (k : Int) : Prop := ∀ w : Nat, (w : Int) < k → fo w ≠ some x
theorem jNo.null {fo fo' : Nat → Option Nat} {x w : Nat} {k k1 : Int} (h : jNo fo x k) (hv : fo' w = none) (ho : ∀ j, j < 2 → j ≠ w → fo' j = fo j) (hw : (w : Int) = k) (h2 : k < 2) (hk : k1 = k + 1) : jNo fo' x k1 := fun j hj => by
  by_cases e : j = w
  · subst e; rw [hv]; exact fun q => by cases q
  · rw [ho j (by omega) e]; exact h j (by omega)
def jSh (f0 f : Nat → Option Nat) (d k : Int) : Prop := ∀ i : Nat, i < 3 → f i = if d ≤ (i : Int) ∧ (i : Int) < k then f0 (i + 1) else f0 i
theorem jSh.nil (f0 : Nat → Option Nat) (d : Int) : jSh f0 f0 d d := fun i hi => by rw [if_neg (by omega)]
theorem jSh.step {f0 f g : Nat → Option Nat} {d k k1 : Int} {o : Option Nat} (h : jSh f0 f d k) (h0 : 0 ≤ k) (hd : d ≤ k) (h3 : k + 1 < 3) (ho : o = f (k + 1).toNat) (hv : g k.toNat = o) (hg : ∀ j, j < 3 → j ≠ k.toNat → g j = f j) (e : k1 = k + 1) : jSh f0 g d k1 := fun i hi => by
  by_cases q : i = k.toNat
  · have h1 := h (k + 1).toNat (by omega)
    rw [if_neg (by omega)] at h1
    rw [q, hv, ho, h1, if_pos (by omega), show (k + 1).toNat = k.toNat + 1 by omega]
  · rw [hg i hi q, h i hi]
    by_cases w : d ≤ (i : Int) ∧ (i : Int) < k
    · rw [if_pos w, if_pos (by omega)]
    · rw [if_neg w, if_neg (by omega)]
theorem jPu.cls {sn ck fs : Nat → Int32} {f0 f g fo : Nat → Option Nat} {dc dc1 d k k' : Int} {ol nw td x : Nat} (h : jPu sn ck f0 fo fs dc ol nw td) (hn : jNo fo x 2) (hs : jSh f0 f d k') (h0 : 0 ≤ d) (hdc : d < dc) (h3 : dc ≤ 3) (hx : f0 d.toNat = some x) (hkk : k' = k) (hk : k = dc - 1) (hv : g k.toNat = some x) (hg : ∀ j, j < 3 → j ≠ k.toNat → g j = f j) (e : dc1 = dc - 1) : jPu sn ck g fo fs dc1 ol nw td := by
  have hkk2 := hkk.symm
  subst hkk2
  obtain ⟨g0, g1, g2, g3⟩ := h
  have key : ∀ i : Nat, i < 3 → ∃ j : Nat, j < 3 ∧ g i = f0 j ∧ (((i : Int) = k ∧ (j : Int) = d) ∨ (d ≤ (i : Int) ∧ (i : Int) < k ∧ j = i + 1) ∨ (((i : Int) < d ∨ k < (i : Int)) ∧ j = i)) := fun i hi => by
    by_cases q : i = k.toNat
    · exact ⟨d.toNat, by omega, by rw [q, hv, hx], Or.inl ⟨by omega, by omega⟩⟩
    · rw [hg i hi q, hs i hi]
      by_cases w : d ≤ (i : Int) ∧ (i : Int) < k
      · rw [if_pos w]; exact ⟨i + 1, by omega, rfl, Or.inr (Or.inl ⟨w.1, w.2, rfl⟩)⟩
      · rw [if_neg w]; exact ⟨i, hi, rfl, Or.inr (Or.inr ⟨by omega, rfl⟩)⟩
  refine ⟨fun i hi => ?_, fun i j hi hj he => ?_, fun i a hi ha => ?_, fun w hw => ?_⟩
  · obtain ⟨j, k1, k2, -⟩ := key i hi
    rw [k2]; exact g0 j k1
  · obtain ⟨i1, a1, a2, a3⟩ := key i hi
    obtain ⟨j1, b1, b2, b3⟩ := key j hj
    have := g1 i1 j1 a1 b1 (by rw [← a2, ← b2]; exact he)
    omega
  · obtain ⟨j, k1, k2, -⟩ := key i hi
    rw [k2] at ha; exact g2 j a k1 ha
  · rcases g3 w hw with q | ⟨j, a, k1, k2, k3, k4, k5⟩
    · exact Or.inl q
    · have hja : (j : Int) ≠ d := fun q => by
        have e1 : j = d.toNat := by omega
        rw [e1, hx] at k3
        exact hn w (by omega) (by rw [k4, k3])
      by_cases c : (j : Int) < d
      · obtain ⟨j1, b1, b2, b3⟩ := key j k2
        exact Or.inr ⟨j, a, by omega, k2, by rw [b2, show j1 = j by omega]; exact k3, k4, k5⟩
      · obtain ⟨j1, b1, b2, b3⟩ := key (j - 1) (by omega)
        exact Or.inr ⟨j - 1, a, by omega, by omega, by rw [b2, show j1 = j by omega]; exact k3, k4, k5⟩
end
section
theorem dX11_faultText_0 : decode cX11_faultText 0 = .ok (.iload_n 0, 1) := by decide +kernel
theorem dX11_faultText_1 : decode cX11_faultText 1 = .ok (.tableswitch 79 1 8 #[47, 51, 55, 59, 63, 67, 71, 75], 47) := by decide +kernel
theorem dX11_faultText_48 : decode cX11_faultText 48 = .ok (.ldc_w 543, 3) := by decide +kernel
theorem dX11_faultText_51 : decode cX11_faultText 51 = .ok (.areturn, 1) := by decide +kernel
theorem dX11_faultText_52 : decode cX11_faultText 52 = .ok (.ldc_w 545, 3) := by decide +kernel
theorem dX11_faultText_55 : decode cX11_faultText 55 = .ok (.areturn, 1) := by decide +kernel
theorem dX11_faultText_56 : decode cX11_faultText 56 = .ok (.ldc_w 547, 3) := by decide +kernel
theorem dX11_faultText_59 : decode cX11_faultText 59 = .ok (.areturn, 1) := by decide +kernel
theorem dX11_faultText_60 : decode cX11_faultText 60 = .ok (.ldc_w 548, 3) := by decide +kernel
theorem dX11_faultText_63 : decode cX11_faultText 63 = .ok (.areturn, 1) := by decide +kernel
theorem dX11_faultText_64 : decode cX11_faultText 64 = .ok (.ldc_w 550, 3) := by decide +kernel
theorem dX11_faultText_67 : decode cX11_faultText 67 = .ok (.areturn, 1) := by decide +kernel
theorem dX11_faultText_68 : decode cX11_faultText 68 = .ok (.ldc_w 552, 3) := by decide +kernel
theorem dX11_faultText_71 : decode cX11_faultText 71 = .ok (.areturn, 1) := by decide +kernel
theorem dX11_faultText_72 : decode cX11_faultText 72 = .ok (.ldc_w 554, 3) := by decide +kernel
theorem dX11_faultText_75 : decode cX11_faultText 75 = .ok (.areturn, 1) := by decide +kernel
theorem dX11_faultText_76 : decode cX11_faultText 76 = .ok (.ldc_w 556, 3) := by decide +kernel
theorem dX11_faultText_79 : decode cX11_faultText 79 = .ok (.areturn, 1) := by decide +kernel
theorem dX11_faultText_80 : decode cX11_faultText 80 = .ok (.ldc_w 558, 3) := by decide +kernel
theorem dX11_faultText_83 : decode cX11_faultText 83 = .ok (.areturn, 1) := by decide +kernel
def EX11_faultText : List (Nat × Nat) := []
def qtx1246 : String := match tables_1[1246]? with | some (Jvm.Cond.stringRef _ _ t) => t | _ => ""
def qtx1242 : String := match tables_1[1242]? with | some (Jvm.Cond.stringRef _ _ t) => t | _ => ""
set_option maxHeartbeats 4000000 in
set_option maxRecDepth 20000 in
theorem uX11_faultText (l : Launch) (dC : Nat → ClassId) (dI : Nat → Nat → Nat) (ca : Nat → ClassId) (base : Nat) (B : jF) (hB : jBok B) (hAp : jAp (dC, dI)) (G0 : jT) (H0 : Heap) (a0 : Int32) : Met l yX11_faultText (jw yX11_faultText cX11_faultText 1 (some (.object "java/lang/String"))) ({ frames := 0, cells := 0, slots := 0, locals := 0 }) (va_Pc [.int a0] (fun U => U.heap = H0 ∧ jX B base G0 [] H0 ∧ jG dC dI ca base U ∧ jP (dC, dI) G0 H0 [] ∧ True)) (jQx (S := Nat × Nat) (fun v u => v = .ref u.1 ∧ u.2 < 2147483648) (fun u t => jRt (dC, dI) B base G0 EX11_faultText H0 [] t.heap ∧ jStr base u.1 u.2 t t.heap) (jA base)) 0 0 (jA base) := by
  refine Met.ofW (cc := cX11_faultText) (maxL := 1) (ret := (some (.object "java/lang/String"))) (by decide) rfl ?_
  intro p e s m args below meth c s₁ Bd hml hv
  obtain ⟨rfl, hH0, hX, hG, hP0, hp0⟩ := hv
  have hK := hG.1
  have hx := Bd.exec
  have hb := Bd.bytes
  have hr := Bd.returns
  have hts := atoms_spec (ws := (jw yX11_faultText cX11_faultText 1 (some (.object "java/lang/String")))) Bd.pre
  have htw : ∀ w ∈ jWl, w.before _ s = true := fun w h => hts w (List.mem_cons_of_mem _ h)
  have hown : s.vm.findClass RX11 = some m.cls := findClass_of_methodNamed Bd.named
  have hlocks := Bd.notSynchronized
  obtain ⟨Q, hQ⟩ : ∃ Q, Q = MQ below (jQx (S := Nat × Nat) (fun v u => v = .ref u.1 ∧ u.2 < 2147483648) (fun u t => jRt (dC, dI) B base G0 EX11_faultText H0 [] t.heap ∧ jStr base u.1 u.2 t t.heap) (jA base)) ([.int a0] : List Value).toArray s 0 0 (jA base) := ⟨_, rfl⟩
  rw [← hQ]
  have hl := lv_entry ([.int a0]) (n := 1) (Nat.le_of_ble_eq_true rfl)
  rw [lg_entry_eq]
  generalize (lg_sl ([.int a0]) ++ List.replicate (1 - (lg_sl ([.int a0])).length) Slot.unset).toArray = ls at hl ⊢
  have hl : lv_has ls 1 [(0, .int a0)] := hl
  generalize hR : (headSpec (jw yX11_faultText cX11_faultText 1 (some (.object "java/lang/String"))) ({ frames := 0, cells := 0, slots := 0, locals := 0 })).room = R
  subst hH0
  have hh : jSt (dC, dI) B base G0 G0 EX11_faultText s.heap 0 0 [] [] [] s.heap [] := jSt.start hX hP0 jMc.nil jIs.nil
  clear hX hP0
  have hk0 : (0 : Int32).toInt = 0 := by decide
  have hk1 : (1 : Int32).toInt = 1 := by decide
  obtain ⟨str543, rstr543, hstr5430⟩ := hG.str (o := RX11) (k := 543) (tx := "unfinished") (List.mem_of_getElem? (i := 1240) (by decide +kernel))
  have hstr543 : jStr base str543 10 s s.heap := hstr5430
  obtain ⟨str545, rstr545, hstr5450⟩ := hG.str (o := RX11) (k := 545) (tx := "too much") (List.mem_of_getElem? (i := 1241) (by decide +kernel))
  have hstr545 : jStr base str545 8 s s.heap := hstr5450
  obtain ⟨str547, rstr547, hstr5470⟩ := hG.str (o := RX11) (k := 547) (tx := qtx1242) (List.mem_of_getElem? (i := 1242) (by decide +kernel))
  have h9str547 : qtx1242.length = 6 := by decide +kernel
  have hstr547 : jStr base str547 6 s s.heap := by rw [h9str547] at hstr5470; exact hstr5470
  obtain ⟨str548, rstr548, hstr5480⟩ := hG.str (o := RX11) (k := 548) (tx := "not here") (List.mem_of_getElem? (i := 1243) (by decide +kernel))
  have hstr548 : jStr base str548 8 s s.heap := hstr5480
  obtain ⟨str550, rstr550, hstr5500⟩ := hG.str (o := RX11) (k := 550) (tx := "unknown") (List.mem_of_getElem? (i := 1244) (by decide +kernel))
  have hstr550 : jStr base str550 7 s s.heap := hstr5500
  obtain ⟨str552, rstr552, hstr5520⟩ := hG.str (o := RX11) (k := 552) (tx := "taken") (List.mem_of_getElem? (i := 1245) (by decide +kernel))
  have hstr552 : jStr base str552 5 s s.heap := hstr5520
  obtain ⟨str554, rstr554, hstr5540⟩ := hG.str (o := RX11) (k := 554) (tx := qtx1246) (List.mem_of_getElem? (i := 1246) (by decide +kernel))
  have h9str554 : qtx1246.length = 10 := by decide +kernel
  have hstr554 : jStr base str554 10 s s.heap := by rw [h9str554] at hstr5540; exact hstr5540
  obtain ⟨str556, rstr556, hstr5560⟩ := hG.str (o := RX11) (k := 556) (tx := "no match") (List.mem_of_getElem? (i := 1247) (by decide +kernel))
  have hstr556 : jStr base str556 8 s s.heap := hstr5560
  obtain ⟨str558, rstr558, hstr5580⟩ := hG.str (o := RX11) (k := 558) (tx := "too large") (List.mem_of_getElem? (i := 1248) (by decide +kernel))
  have hstr558 : jStr base str558 9 s s.heap := hstr5580
  have hrg_a0 := jb_rng a0
  refine lv_iload_n hx hb dX11_faultText_0 rfl (lv_at hl 0 rfl) ?_
  rcases (by omega : (a0.toInt < 1 ∨ 8 < a0.toInt) ∨ a0.toInt = 1 ∨ a0.toInt = 2 ∨ a0.toInt = 3 ∨ a0.toInt = 4 ∨ a0.toInt = 5 ∨ a0.toInt = 6 ∨ a0.toInt = 7 ∨ a0.toInt = 8) with c_1 | c_1 | c_1 | c_1 | c_1 | c_1 | c_1 | c_1 | c_1
  · refine lv_tableOut (tgt := 80) hx hb dX11_faultText_1 c_1 (by decide) ?_
    refine j_ldcSw hx hb hown rstr558 dX11_faultText_80 ?_
    rw [hQ]
    exact W.aret (v := .ref str558) hx hb hr (Or.inl ⟨_, rfl⟩) (Or.inr ⟨_, rfl⟩) (fun t ht hW => ⟨⟨.ref str558, (str558, 9), rfl, ⟨rfl, by show (9 : Nat) < 2147483648; omega⟩, ⟨hh.rt (M1 := []) [] rfl ht, by rw [ht]; exact (hstr558.moved hW.alike).kept hh.1.2.1⟩⟩, by rw [ht]; try exact hh.1.1, fun q h9 hq => by rw [ht]; try exact hh.1.2.1 q h9 hq⟩) hh.1.2.2 dX11_faultText_83
  · refine lv_tableIn (off := 47) (tgt := 48) hx hb dX11_faultText_1 (by omega) (by omega) (by rw [c_1]; rfl) (by decide) ?_
    refine j_ldcSw hx hb hown rstr543 dX11_faultText_48 ?_
    rw [hQ]
    exact W.aret (v := .ref str543) hx hb hr (Or.inl ⟨_, rfl⟩) (Or.inr ⟨_, rfl⟩) (fun t ht hW => ⟨⟨.ref str543, (str543, 10), rfl, ⟨rfl, by show (10 : Nat) < 2147483648; omega⟩, ⟨hh.rt (M1 := []) [] rfl ht, by rw [ht]; exact (hstr543.moved hW.alike).kept hh.1.2.1⟩⟩, by rw [ht]; try exact hh.1.1, fun q h9 hq => by rw [ht]; try exact hh.1.2.1 q h9 hq⟩) hh.1.2.2 dX11_faultText_51
  · refine lv_tableIn (off := 51) (tgt := 52) hx hb dX11_faultText_1 (by omega) (by omega) (by rw [c_1]; rfl) (by decide) ?_
    refine j_ldcSw hx hb hown rstr545 dX11_faultText_52 ?_
    rw [hQ]
    exact W.aret (v := .ref str545) hx hb hr (Or.inl ⟨_, rfl⟩) (Or.inr ⟨_, rfl⟩) (fun t ht hW => ⟨⟨.ref str545, (str545, 8), rfl, ⟨rfl, by show (8 : Nat) < 2147483648; omega⟩, ⟨hh.rt (M1 := []) [] rfl ht, by rw [ht]; exact (hstr545.moved hW.alike).kept hh.1.2.1⟩⟩, by rw [ht]; try exact hh.1.1, fun q h9 hq => by rw [ht]; try exact hh.1.2.1 q h9 hq⟩) hh.1.2.2 dX11_faultText_55
  · refine lv_tableIn (off := 55) (tgt := 56) hx hb dX11_faultText_1 (by omega) (by omega) (by rw [c_1]; rfl) (by decide) ?_
    refine j_ldcSw hx hb hown rstr547 dX11_faultText_56 ?_
    rw [hQ]
    exact W.aret (v := .ref str547) hx hb hr (Or.inl ⟨_, rfl⟩) (Or.inr ⟨_, rfl⟩) (fun t ht hW => ⟨⟨.ref str547, (str547, 6), rfl, ⟨rfl, by show (6 : Nat) < 2147483648; omega⟩, ⟨hh.rt (M1 := []) [] rfl ht, by rw [ht]; exact (hstr547.moved hW.alike).kept hh.1.2.1⟩⟩, by rw [ht]; try exact hh.1.1, fun q h9 hq => by rw [ht]; try exact hh.1.2.1 q h9 hq⟩) hh.1.2.2 dX11_faultText_59
  · refine lv_tableIn (off := 59) (tgt := 60) hx hb dX11_faultText_1 (by omega) (by omega) (by rw [c_1]; rfl) (by decide) ?_
    refine j_ldcSw hx hb hown rstr548 dX11_faultText_60 ?_
    rw [hQ]
    exact W.aret (v := .ref str548) hx hb hr (Or.inl ⟨_, rfl⟩) (Or.inr ⟨_, rfl⟩) (fun t ht hW => ⟨⟨.ref str548, (str548, 8), rfl, ⟨rfl, by show (8 : Nat) < 2147483648; omega⟩, ⟨hh.rt (M1 := []) [] rfl ht, by rw [ht]; exact (hstr548.moved hW.alike).kept hh.1.2.1⟩⟩, by rw [ht]; try exact hh.1.1, fun q h9 hq => by rw [ht]; try exact hh.1.2.1 q h9 hq⟩) hh.1.2.2 dX11_faultText_63
  · refine lv_tableIn (off := 63) (tgt := 64) hx hb dX11_faultText_1 (by omega) (by omega) (by rw [c_1]; rfl) (by decide) ?_
    refine j_ldcSw hx hb hown rstr550 dX11_faultText_64 ?_
    rw [hQ]
    exact W.aret (v := .ref str550) hx hb hr (Or.inl ⟨_, rfl⟩) (Or.inr ⟨_, rfl⟩) (fun t ht hW => ⟨⟨.ref str550, (str550, 7), rfl, ⟨rfl, by show (7 : Nat) < 2147483648; omega⟩, ⟨hh.rt (M1 := []) [] rfl ht, by rw [ht]; exact (hstr550.moved hW.alike).kept hh.1.2.1⟩⟩, by rw [ht]; try exact hh.1.1, fun q h9 hq => by rw [ht]; try exact hh.1.2.1 q h9 hq⟩) hh.1.2.2 dX11_faultText_67
  · refine lv_tableIn (off := 67) (tgt := 68) hx hb dX11_faultText_1 (by omega) (by omega) (by rw [c_1]; rfl) (by decide) ?_
    refine j_ldcSw hx hb hown rstr552 dX11_faultText_68 ?_
    rw [hQ]
    exact W.aret (v := .ref str552) hx hb hr (Or.inl ⟨_, rfl⟩) (Or.inr ⟨_, rfl⟩) (fun t ht hW => ⟨⟨.ref str552, (str552, 5), rfl, ⟨rfl, by show (5 : Nat) < 2147483648; omega⟩, ⟨hh.rt (M1 := []) [] rfl ht, by rw [ht]; exact (hstr552.moved hW.alike).kept hh.1.2.1⟩⟩, by rw [ht]; try exact hh.1.1, fun q h9 hq => by rw [ht]; try exact hh.1.2.1 q h9 hq⟩) hh.1.2.2 dX11_faultText_71
  · refine lv_tableIn (off := 71) (tgt := 72) hx hb dX11_faultText_1 (by omega) (by omega) (by rw [c_1]; rfl) (by decide) ?_
    refine j_ldcSw hx hb hown rstr554 dX11_faultText_72 ?_
    rw [hQ]
    exact W.aret (v := .ref str554) hx hb hr (Or.inl ⟨_, rfl⟩) (Or.inr ⟨_, rfl⟩) (fun t ht hW => ⟨⟨.ref str554, (str554, 10), rfl, ⟨rfl, by show (10 : Nat) < 2147483648; omega⟩, ⟨hh.rt (M1 := []) [] rfl ht, by rw [ht]; exact (hstr554.moved hW.alike).kept hh.1.2.1⟩⟩, by rw [ht]; try exact hh.1.1, fun q h9 hq => by rw [ht]; try exact hh.1.2.1 q h9 hq⟩) hh.1.2.2 dX11_faultText_75
  · refine lv_tableIn (off := 75) (tgt := 76) hx hb dX11_faultText_1 (by omega) (by omega) (by rw [c_1]; rfl) (by decide) ?_
    refine j_ldcSw hx hb hown rstr556 dX11_faultText_76 ?_
    rw [hQ]
    exact W.aret (v := .ref str556) hx hb hr (Or.inl ⟨_, rfl⟩) (Or.inr ⟨_, rfl⟩) (fun t ht hW => ⟨⟨.ref str556, (str556, 8), rfl, ⟨rfl, by show (8 : Nat) < 2147483648; omega⟩, ⟨hh.rt (M1 := []) [] rfl ht, by rw [ht]; exact (hstr556.moved hW.alike).kept hh.1.2.1⟩⟩, by rw [ht]; try exact hh.1.1, fun q h9 hq => by rw [ht]; try exact hh.1.2.1 q h9 hq⟩) hh.1.2.2 dX11_faultText_79
end
section
-- super's methods; bytes whose contents are known; the numbers that signs tell
theorem arrV_cg {cA : ClassId} {n : Nat} {f g : Nat → Value} (h : ∀ j, j < n → f j = g j) : arrV cA n f = arrV cA n g := by
  unfold arrV
  congr 1
  congr 1
  funext j
  exact h j.val j.isLt
def jBf (j : Nat) (z : Int32) : Prop := fits .byte (.int z) = true
section J18
variable {p : Program} {l : Launch} {e : Env} {R : Room} {s : State} {m : MethodId} {args : Array Value} {below : List Frame} {meth : Method} {c : Code} {H : Heap} {locs : List Loc} {cells slots : Nat} {Q : State → Prop}
variable {cc : ByteArray} {pc : Nat} {ls : Array Slot} {rest : List Value} {dC : Nat → ClassId} {dI : Nat → Nat → Nat} {ca : Nat → ClassId} {B : jF} {base : Nat} {G0 G : jT} {E : List (Nat × Nat)} {H0 : Heap} {zc zs : Nat} {L : List jPin} {M : List jCt} {I : List jIv} {a k n : Nat} {cA : ClassId} {tys : List (ClassId × FieldType)}
theorem jSt.byt (hh : jSt (dC, dI) B base G0 G E H0 zc zs L M I H locs) (hBk : ∀ n G a H, B k n G a H ↔ jAr (dC, dI) cA jBf n a H) (hk : k < 1000) (ha : G a = some (k, n)) : ∃ f : Nat → Int32, va_at (dC, dI) vwCl (a, .inl (cA, n, .inl f)) H ∧ sb_Fit f := by
  obtain ⟨f, g1, g2⟩ := hh.ar hBk hk ha
  refine ⟨fun j => if j < n then f j else 0, ?_, fun j => ?_⟩
  · have e1 : H[a]? = some (vp_cell cA (n, .inl f)) := g1
    show H[a]? = some (vp_cell cA (n, .inl _))
    rw [e1, vp_cell_i, vp_cell_i]
    congr 1
    exact arrV_cg (fun j hj => by simp only [if_pos hj])
  · by_cases q : j < n
    · simp only [if_pos q]; exact g2 j q
    · simp only [if_neg q]; rfl
theorem j7_bastF (hexec : p.tables.exec = Jvm.exec) (hb : c.code = cc) (hK : va_K (dC, dI) vwCl tys s) (hh : jSt (dC, dI) B base G0 G E H0 zc zs L M I H locs) (hB : jBok B) (hBk : ∀ n G a H, B k n G a H ↔ jAr (dC, dI) cA jBf n a H) (t0 : Nat) (ht : tys[t0]? = some (cA, .byte)) (hk : k < 1000) (hk2 : 17 ≤ k) (hE : E.contains (k, 0) = true) (hM : M.all (fun q => !(q.2.1 == k)) = true) (hI : I.all (fun q => !(q.1.contains (k, 0))) = true) (ha : G a = some (k, n)) {i v : Int32} {x : Int} (hi : i.toInt = x) (h12 : 0 ≤ x ∧ x < n) (hdg : decode cc pc = .ok (.bastore, 1))
    (kk : ∀ (H1 : Heap) (locs1 : List Loc), jSt (dC, dI) B base G0 G E H0 zc zs L M I H1 locs1 → W p l e R s m args below meth c H1 locs1 cells slots Q (F0 m (pc + 1) ls rest)) : W p l e R s m args below meth c H locs cells slots Q (F0 m pc ls (.int v :: .int i :: .ref a :: rest)) := by
  obtain ⟨h1, h2⟩ := h12
  obtain ⟨f, g1, g2⟩ := hh.byt hBk hk ha
  exact j_bast (A := jA base) hexec hb hK t0 g1 (hh.ab ha).1 hh.1.2.2 ht (jb_in hi h1 h2) hdg (fun H1 locs1 f1 hf hat hsz hfr hT hL => kk H1 locs1 (hh.arr hB ha hk hk2 hE hM hI hsz hfr hT hL ((hBk _ _ _ _).mpr ⟨f1, hat, fun j _ => hf g2 j⟩)))
end J18
end
section
-- what a method writes of one object only: the others of its kind keep their fields
def jOw (D : va_G) (G : jT) (k r : Nat) (H0 H : Heap) : Prop := ∀ a n i v, a ≠ r → G a = some (k, n) → jf D k a i v H0 → jf D k a i v H
theorem jOw.rf {D : va_G} {G : jT} {k r : Nat} {H : Heap} : jOw D G k r H H := fun _ _ _ _ _ _ h => h
theorem jOw.tr {D : va_G} {G G1 : jT} {k r : Nat} {H0 H H1 : Heap} (h : jOw D G k r H0 H) (hle : jLe G G1) (h1 : jOw D G1 k r H H1) : jOw D G k r H0 H1 := fun a n i v hne ha hf => h1 a n i v hne (hle _ _ ha) (h a n i v hne ha hf)
theorem jOw.put {D : va_G} {G : jT} {k r : Nat} {H0 H H1 : Heap} (h : jOw D G k r H0 H) (hr : ∀ q, q ≠ r → H1[q]? = H[q]?) : jOw D G k r H0 H1 := fun a n i v hne ha hf => (h a n i v hne ha hf).kept (hr a hne)
theorem jOw.ie {dC : Nat → ClassId} {dI : Nat → Nat → Nat} {G0 G : jT} {k r N : Nat} {C : String} {T : u_T} {F : List (Nat × Nat)} {H0 H : Heap} (hc : vwCl[k]? = some (C, T, N)) (hF : (List.range N).all (fun i => F.contains (k, i)) = true) (hle : jLe G0 G) (h : jOw (dC, dI) G0 k r H0 H) : ((F, jOw (dC, dI) G0 k r H0) : jIv).2 H ∧ ∀ H1 H2 : Heap, jAg (dC, dI) G ((F, jOw (dC, dI) G0 k r H0) : jIv).1 H1 H2 → ((F, jOw (dC, dI) G0 k r H0) : jIv).2 H1 → ((F, jOw (dC, dI) G0 k r H0) : jIv).2 H2 := by
  refine ⟨h, fun H1 H2 hA h1 a n i v hne ha hf => ?_⟩
  have g := h1 a n i v hne ha hf
  have g' := g
  obtain ⟨r9, g1, g2, -⟩ := g'
  have e : r9 = (C, T, N) := Option.some.inj (g1.symm.trans hc)
  subst e
  exact hA.1 a k n i v (hle _ _ ha) (List.all_eq_true.mp hF i (List.mem_range.mpr g2)) g
theorem jP.cons {D : va_G} {G : jT} {H : Heap} {L : List jPin} {a k n i : Nat} {v : Value} (hg : G a = some (k, n)) (hf : jf D k a i v H) (h : jP D G H L) : jP D G H ((a, k, i, v) :: L) := fun q hq => by
  rcases List.mem_cons.mp hq with e | e
  · subst e; exact ⟨⟨n, hg⟩, hf⟩
  · exact h q e
theorem jnek {G : jT} {a b k n k1 n1 : Nat} (h : G a = some (k, n)) (h1 : G b = some (k1, n1)) (hn : ((k, n) == (k1, n1)) = false) : a ≠ b := fun e => by
  rw [e, h1] at h
  rw [Option.some.inj h] at hn
  simp at hn
/-- no new object of these kinds -/
def jNk (ks : List Nat) (G G1 : jT) : Prop := ∀ a k n, G1 a = some (k, n) → ks.contains k = true → G a = some (k, n)
theorem jNk.rf {ks : List Nat} {G : jT} : jNk ks G G := fun _ _ _ h _ => h
theorem jNk.tr {ks : List Nat} {G G1 G2 : jT} (h : jNk ks G G1) (h1 : jNk ks G1 G2) : jNk ks G G2 := fun a k n ha hk => h a k n (h1 a k n ha hk) hk
theorem jNk.sub {ks ks1 : List Nat} {G G1 : jT} (h : jNk ks G G1) (hs : ks1.all (fun k => ks.contains k) = true) : jNk ks1 G G1 := fun a k n ha hk => h a k n ha (List.all_eq_true.mp hs k (List.contains_iff_mem.mp hk))
theorem jNk.new {ks : List Nat} {G : jT} {x k n : Nat} (hk : ks.contains k = false) : jNk ks G (va_up G x (some (k, n))) := fun a k1 n1 ha h1 => by
  by_cases e : a = x
  · subst e
    simp only [va_up, if_pos] at ha
    have e1 := (Prod.mk.inj (Option.some.inj ha)).1
    rw [← e1, hk] at h1; cases h1
  · rw [va_up_ne _ _ e] at ha; exact ha
section J19
variable {p : Program} {l : Launch} {e : Env} {R : Room} {s : State} {m : MethodId} {args : Array Value} {below : List Frame} {meth : Method} {c : Code} {H : Heap} {locs : List Loc} {cells slots : Nat} {Q : State → Prop}
variable {cc : ByteArray} {pc : Nat} {ls : Array Slot} {rest : List Value} {dC : Nat → ClassId} {dI : Nat → Nat → Nat} {ca : Nat → ClassId} {B : jF} {base : Nat} {G0 G : jT} {E : List (Nat × Nat)} {H0 : Heap} {zc zs : Nat} {L : List jPin} {M : List jCt} {I : List jIv} {a k n i index N : Nat} {tys : List (ClassId × FieldType)} {own C : String} {T : u_T}
theorem j7_putX (hexec : p.tables.exec = Jvm.exec) (hb : c.code = cc) (hown : s.vm.findClass own = some m.cls) (hK : va_K (dC, dI) vwCl tys s) (hh : jSt (dC, dI) B base G0 G E H0 zc zs L M I H locs) (hB : jBok B) (hAp : jAp (dC, dI)) {F : Nat → jT → List (Value → Prop)} (hBk : ∀ n G a H, B k n G a H ↔ jOb (dC, dI) k N (F n G) a H) (hc : vwCl[k]? = some (C, T, N)) (hk : k < 1000) (ha : G a = some (k, n)) (hi : i < N) (hlay : (u_lay C T i).before args s = true) (hfin : (T i).2.2.2 = false) (hlink : (Cond.fieldLink own index (T i).1 (T i).2.1 (T i).2.2.1).before args s = true) {P : Value → Prop} (hp : (F n G)[i]? = some P) {ty : FieldType} {v : Value} (hd : parseFieldDescriptor (T i).2.2.1 = some ty) (hnar : narrow ty v = v) (hfit : fits ty v = true) (hv : P v) (hE : E.contains (k, i) = true)
    {L1 : List jPin} (is : List Nat) (hs : is.map (fun i => L[i]?) = L1.map some) (hn : L1.all (fun q => !(q.2.1 == k && q.2.2.1 == i)) = true) (hI : I.all (fun q => !(q.1.contains (k, i))) = true) (hdg : decode cc pc = .ok (.putfield index, 3))
    (kk : ∀ (H1 : Heap) (locs1 : List Loc), (∀ q, q ≠ a → H1[q]? = H[q]?) → jSt (dC, dI) B base G0 G E H0 zc zs ((a, k, i, v) :: L1) M I H1 locs1 → W p l e R s m args below meth c H1 locs1 cells slots Q (F0 m (pc + 3) ls rest)) : W p l e R s m args below meth c H locs cells slots Q (F0 m pc ls (v :: .ref a :: rest)) := by
  obtain ⟨V, ⟨cell, q1, q2, q3, q4⟩, hV⟩ := (hBk _ _ _ _).mp (hh.2.1.1 a k n ha hk (fun h => by cases h))
  obtain ⟨hS, hfc, kC, hkC, hkind⟩ := hK.1 k _ hc
  obtain ⟨cf, kf, fi, f, hfi, hsl⟩ := hS i hi
  have hst := (u_facts hfc hkC (j7_lay hlay) hfi).1
  unfold u_lay at hlay
  rw [if_neg (by rw [hfin]; decide)] at hlay
  have h6 := u_store hfc hkC hkind hlay hfi hd hnar hfit
  refine W.putK hexec hb (f := f) ⟨hown, hlink, ⟨_, _, _, hfi⟩, hst⟩ (by rw [q2]; exact h6) q1 q3 (by rw [hsl]; exact k2_hasslot (q4 i hi)) rfl rfl hdg fun H1 e1 e2 e3 => ?_
  rw [hsl] at e1 ⊢
  refine kk H1 _ e3 (hh.fld hB hAp hBk hc hk ha hi hp hv hE is hs hn hI q1 e1 e2 e3 (jTot_set e2 q1 e1 (jSet_sz _ _ _) e3) (fun q hq => ?_))
  rcases List.mem_append.mp hq with h | h
  · exact hh.1.2.2 q h
  · cases List.mem_singleton.mp h; exact (hh.ab ha).1
end J19
end
section
def Fz0 (n : Nat) (G : jT) : List (Value → Prop) := [jRk G 196 1000, jI 0 0, jZb, jI 0 1000]
end
section
theorem dJ8_newLength_cabcc_0 : decode cJ8_newLength_cabcc 0 = .ok (.iload_n 0, 1) := by decide +kernel
theorem dJ8_newLength_cabcc_1 : decode cJ8_newLength_cabcc 1 = .ok (.iload_n 1, 1) := by decide +kernel
theorem dJ8_newLength_cabcc_2 : decode cJ8_newLength_cabcc 2 = .ok (.iload_n 2, 1) := by decide +kernel
theorem dJ8_newLength_cabcc_3 : decode cJ8_newLength_cabcc 3 = .ok (.invokestatic 194, 3) := by decide +kernel
theorem dJ8_newLength_cabcc_6 : decode cJ8_newLength_cabcc 6 = .ok (.iadd, 1) := by decide +kernel
theorem dJ8_newLength_cabcc_7 : decode cJ8_newLength_cabcc 7 = .ok (.istore_n 3, 1) := by decide +kernel
theorem dJ8_newLength_cabcc_8 : decode cJ8_newLength_cabcc 8 = .ok (.iconst 0, 1) := by decide +kernel
theorem dJ8_newLength_cabcc_9 : decode cJ8_newLength_cabcc 9 = .ok (.iload_n 3, 1) := by decide +kernel
theorem dJ8_newLength_cabcc_10 : decode cJ8_newLength_cabcc 10 = .ok (.if_icmp .ge 11, 3) := by decide +kernel
theorem dJ8_newLength_cabcc_13 : decode cJ8_newLength_cabcc 13 = .ok (.iload_n 3, 1) := by decide +kernel
theorem dJ8_newLength_cabcc_14 : decode cJ8_newLength_cabcc 14 = .ok (.ldc 200, 2) := by decide +kernel
theorem dJ8_newLength_cabcc_16 : decode cJ8_newLength_cabcc 16 = .ok (.if_icmp .gt 5, 3) := by decide +kernel
theorem dJ8_newLength_cabcc_19 : decode cJ8_newLength_cabcc 19 = .ok (.iload_n 3, 1) := by decide +kernel
theorem dJ8_newLength_cabcc_20 : decode cJ8_newLength_cabcc 20 = .ok (.ireturn, 1) := by decide +kernel
def EJ8_newLength_cabcc : List (Nat × Nat) := []
set_option maxHeartbeats 4000000 in
set_option maxRecDepth 20000 in
theorem uJ8_newLength_cabcc (l : Launch) (dC : Nat → ClassId) (dI : Nat → Nat → Nat) (ca : Nat → ClassId) (base : Nat) (B : jF) (hB : jBok B) (hAp : jAp (dC, dI)) (G0 : jT) (H0 : Heap) (a0 : Int32) (a1 : Int32) (a2 : Int32) : Met l yJ8_newLength_cabcc (jw yJ8_newLength_cabcc cJ8_newLength_cabcc 4 (some .int)) ({ frames := 1, cells := 0, slots := 0, locals := 32 }) (va_Pc [.int a0, .int a1, .int a2] (fun U => U.heap = H0 ∧ jX B base G0 [] H0 ∧ jG dC dI ca base U ∧ jP (dC, dI) G0 H0 [] ∧ 0 ≤ a0.toInt ∧ a0.toInt ≤ 100000 ∧ 1 ≤ a1.toInt ∧ a1.toInt ≤ 100000 ∧ 0 ≤ a2.toInt ∧ a2.toInt ≤ 100000)) (va_Qi (S := Unit) (fun r u => (a0.toInt + a1.toInt ≤ r.toInt ∧ a0.toInt + a2.toInt ≤ r.toInt ∧ (r.toInt ≤ a0.toInt + a1.toInt ∨ r.toInt ≤ a0.toInt + a2.toInt))) (fun u t => jRt (dC, dI) B base G0 EJ8_newLength_cabcc H0 [] t.heap) (jA base)) 0 0 (jA base) := by
  refine Met.ofW (cc := cJ8_newLength_cabcc) (maxL := 4) (ret := (some .int)) (by decide) rfl ?_
  intro p e s m args below meth c s₁ Bd hml hv
  obtain ⟨rfl, hH0, hX, hG, hP0, hp0, hp1, hp2, hp3, hp4, hp5⟩ := hv
  have hK := hG.1
  have hx := Bd.exec
  have hb := Bd.bytes
  have hr := Bd.returns
  have hts := atoms_spec (ws := (jw yJ8_newLength_cabcc cJ8_newLength_cabcc 4 (some .int))) Bd.pre
  have htw : ∀ w ∈ jWl, w.before _ s = true := fun w h => hts w (List.mem_cons_of_mem _ h)
  have hown : s.vm.findClass RJ8 = some m.cls := findClass_of_methodNamed Bd.named
  have hlocks := Bd.notSynchronized
  obtain ⟨Q, hQ⟩ : ∃ Q, Q = MQ below (va_Qi (S := Unit) (fun r u => (a0.toInt + a1.toInt ≤ r.toInt ∧ a0.toInt + a2.toInt ≤ r.toInt ∧ (r.toInt ≤ a0.toInt + a1.toInt ∨ r.toInt ≤ a0.toInt + a2.toInt))) (fun u t => jRt (dC, dI) B base G0 EJ8_newLength_cabcc H0 [] t.heap) (jA base)) ([.int a0, .int a1, .int a2] : List Value).toArray s 0 0 (jA base) := ⟨_, rfl⟩
  rw [← hQ]
  have hl := lv_entry ([.int a0, .int a1, .int a2]) (n := 4) (Nat.le_of_ble_eq_true rfl)
  rw [lg_entry_eq]
  generalize (lg_sl ([.int a0, .int a1, .int a2]) ++ List.replicate (4 - (lg_sl ([.int a0, .int a1, .int a2])).length) Slot.unset).toArray = ls at hl ⊢
  have hl : lv_has ls 4 [(0, .int a0), (1, .int a1), (2, .int a2)] := hl
  generalize hR : (headSpec (jw yJ8_newLength_cabcc cJ8_newLength_cabcc 4 (some .int)) ({ frames := 1, cells := 0, slots := 0, locals := 32 })).room = R
  subst hH0
  have hh : jSt (dC, dI) B base G0 G0 EJ8_newLength_cabcc s.heap 0 0 [] [] [] s.heap [] := jSt.start hX hP0 jMc.nil jIs.nil
  clear hX hP0
  have hk0 : (0 : Int32).toInt = 0 := by decide
  have hk1 : (1 : Int32).toInt = 1 := by decide
  have hk2147483639 : (2147483639 : Int32).toInt = 2147483639 := by decide
  have hcs_200 := htw (.constant RJ8 200 2147483639) (jWr_34 _ (List.mem_of_getElem? (i := 8) rfl))
  have hrg_a0 := jb_rng a0
  have hrg_a1 := jb_rng a1
  have hrg_a2 := jb_rng a2
  refine lv_iload_n hx hb dJ8_newLength_cabcc_0 rfl (lv_at hl 0 rfl) ?_
  refine lv_iload_n hx hb dJ8_newLength_cabcc_1 rfl (lv_at hl 1 rfl) ?_
  refine lv_iload_n hx hb dJ8_newLength_cabcc_2 rfl (lv_at hl 2 rfl) ?_
  refine va_mmax hx hb (by rw [hml]; exact hl.1.symm) hown (htw (.methodLink RJ8 194 Lib.Math.max.name) (jWr_34 _ (List.mem_of_getElem? (i := 7) rfl))) (htw (.static Lib.Math.max.name) (jWr_3 _ (List.mem_of_getElem? (i := 6) rfl))) (htw (.initialized "java/lang/Math") (jWr_3 _ (List.mem_of_getElem? (i := 7) rfl))) (htw (.code Lib.Math.max.name Lib.Math.max.code 2 (some .int)) (jWr_3 _ (List.mem_of_getElem? (i := 8) rfl))) (by rw [← hR]; exact Nat.le_of_ble_eq_true rfl) (by rw [← hR]; exact Nat.le_of_ble_eq_true rfl) (Nat.zero_le _) (Nat.zero_le _) dJ8_newLength_cabcc_3 ?_
  refine lv_topi (fun z_1 ez_1 => ?_)
  have hz_1 := jb_max ez_1
  refine lv_iadd hx hb dJ8_newLength_cabcc_6 ?_
  refine lv_topi (fun z_2 ez_2 => ?_)
  have hz_2 : z_2.toInt = a0.toInt + z_1.toInt := by rw [ez_2]; exact jb_iadd2 (rfl) (rfl) (by omega)
  refine lv_istore_n (lv' := [(3, .int z_2), (0, .int a0), (1, .int a1), (2, .int a2)]) hx hb dJ8_newLength_cabcc_7 rfl hl (by decide) rfl (fun ls hl => ?_)
  refine lv_iconst (v := 0) hx hb dJ8_newLength_cabcc_8 (by decide) ?_
  refine lv_iload_n hx hb dJ8_newLength_cabcc_9 rfl (lv_at hl 0 rfl) ?_
  refine lv_icmp_ge (tgt := 21) hx hb dJ8_newLength_cabcc_10 (by decide) (fun c_3 => ?_) (fun c_3 => ?_)
  · skip
    have c_3' : 0 ≥ z_2.toInt := jb_ge ((by decide)) (rfl) c_3
    exact absurd c_3' (by omega)
  · skip
    have c_3' : 0 < z_2.toInt := jb_ge_n ((by decide)) (rfl) c_3
    refine lv_iload_n hx hb dJ8_newLength_cabcc_13 rfl (lv_at hl 0 rfl) ?_
    refine lv_ldc hx hb hown hcs_200 dJ8_newLength_cabcc_14 ?_
    refine lv_icmp_gt (tgt := 21) hx hb dJ8_newLength_cabcc_16 (by decide) (fun c_4 => ?_) (fun c_4 => ?_)
    · skip
      have c_4' : z_2.toInt > 2147483639 := jb_gt (rfl) ((by decide)) c_4
      exact absurd c_4' (by omega)
    · skip
      have c_4' : z_2.toInt ≤ 2147483639 := jb_gt_n (rfl) ((by decide)) c_4
      refine lv_iload_n hx hb dJ8_newLength_cabcc_19 rfl (lv_at hl 0 rfl) ?_
      rw [hQ]
      exact W.iret (v := z_2) hx hb hr (fun t ht hW => ⟨⟨z_2, (), rfl, by first | omega | (refine ⟨?_, ?_, ?_⟩ <;> (first | omega | rfl | assumption | decide | exact Or.inl rfl | exact Or.inr rfl | (simp only; omega))), hh.rt (M1 := []) [] rfl ht⟩, by rw [ht]; try exact hh.1.1, fun q h9 hq => by rw [ht]; try exact hh.1.2.1 q h9 hq⟩) hh.1.2.2 dJ8_newLength_cabcc_20
end
section
-- more cells: what is known stays known (a call that makes cells; none of them is a document of the reference)
theorem jAg.low {D : va_G} {G G1 : jT} {F : List (Nat × Nat)} {H H1 : Heap} (hle : jLe G G1) (h : jAg D G1 F H H1) : jAg D G F H H1 := ⟨fun a k n i v ha => h.1 a k n i v (hle _ _ ha), fun a k n ha => h.2 a k n (hle _ _ ha)⟩
theorem jIs.lift {D : va_G} {G G1 : jT} {H : Heap} {L : List jIv} (hle : jLe G G1) (h : jIs D G H L) : jIs D G1 H L := fun q hq => ⟨(h q hq).1, fun Ha Hb hA => (h q hq).2 Ha Hb (hA.low hle)⟩
theorem jMc.lift {D : va_G} {G G1 : jT} {H : Heap} {M : List jCt} (hle : jLe G G1) (h : jMc D G H M) : jMc D G1 H M := fun q hq => by
  obtain ⟨q1, q2, q3, q4⟩ := h q hq
  exact ⟨hle _ _ q1, q2, q3, q4⟩
theorem jSt.callG {dC : Nat → ClassId} {dI : Nat → Nat → Nat} {B : jF} {base : Nat} {G0 G : jT} {E : List (Nat × Nat)} {H0 : Heap} {zc zs : Nat} {L : List jPin} {M : List jCt} {I : List jIv} {H : Heap} {locs : List Loc} (hh : jSt (dC, dI) B base G0 G E H0 zc zs L M I H locs) {E1 : List (Nat × Nat)} {H1 : Heap} {locs1 : List Loc} {G1 : jT} {wc ws : Nat} (hX : jX B base G1 [] H1) (hG : jLe G G1) (hk : jKp (dC, dI) G E1 H H1) (hz : H1.size ≤ H.size + wc) (ht : jTot H1 ≤ jTot H + ws) (hS : va_S (jA base) H0 H1 locs1) (hE : E1.all (fun q => E.contains q) = true) {L1 : List jPin} (is : List Nat) (hs : is.map (fun i => L[i]?) = L1.map some) (hn : L1.all (fun q => !(E1.contains (q.2.1, q.2.2.1))) = true) {M1 : List jCt} (js : List Nat) (hjs : js.map (fun i => M[i]?) = M1.map some) (hjn : M1.all (fun q => !(E1.contains (q.2.1, 0))) = true) {I1 : List jIv} (ks : List Nat) (hks : ks.map (fun i => I[i]?) = I1.map some) (hkn : I1.all (fun q => E1.all (fun x => !(q.1.contains x))) = true) : jSt (dC, dI) B base G0 G1 E H0 (zc + wc) (zs + ws) L1 M1 I1 H1 locs1 := by
  obtain ⟨h1, h2, h3, h4, h5, h6, h7, h8, h9⟩ := hh
  exact ⟨hS, hX, h3.over hk hG is hs hn, h4.tr (hk.sub h5 hE), h5.tr hG, by omega, by omega, h8.over hk hG js hjs hjn, ((h9.sub ks hks).ag (fun q hq => jAg.of hk (List.all_eq_true.mp hkn q hq))).lift hG⟩
/-- no new document -/
def jN14 (G G1 : jT) : Prop := ∀ a, G1 a = some (14, 0) → G a = some (14, 0)
theorem jN14.rf {G : jT} : jN14 G G := fun _ h => h
theorem jN14.tr {G G1 G2 : jT} (h : jN14 G G1) (h1 : jN14 G1 G2) : jN14 G G2 := fun a ha => h a (h1 a ha)
theorem jN14.new {G : jT} {x k n : Nat} (hk : k ≠ 14) : jN14 G (va_up G x (some (k, n))) := fun a ha => by
  by_cases e : a = x
  · subst e
    simp only [va_up, if_pos] at ha
    exact absurd (Prod.mk.inj (Option.some.inj ha)).1 hk
  · rw [va_up_ne _ _ e] at ha; exact ha
theorem jD2.grow {dC : Nat → ClassId} {dI : Nat → Nat → Nat} {ca : Nat → ClassId} {G G1 : jT} {a yb ye : Nat} {ps : Int32} {H : Heap} (h : jD2 dC dI ca G a yb ye ps H) (hle : jLe G G1) : jD2 dC dI ca G1 a yb ye ps H := by
  obtain ⟨fb, fe, g1, g2, g3, g4, g5⟩ := h
  exact ⟨fb, fe, hle _ _ g1, hle _ _ g2, g3.lift hle, g4.lift hle, g5⟩
theorem jDY.grow {dC : Nat → ClassId} {dI : Nat → Nat → Nat} {ca : Nat → ClassId} {G G1 : jT} {x : Option Nat} {sn : Nat → Int32} {H : Heap} (h : jDY dC dI ca G x sn H) (hle : jLe G G1) (hn : jN14 G G1) : jDY dC dI ca G1 x sn H := by
  obtain ⟨Yb, Ye, h1, h2, h3, h4⟩ := h
  refine ⟨Yb, Ye, fun a ha => ?_, fun a b ha hb => h2 a b (hn a ha) (hn b hb), fun a b ha hb => h3 a b (hn a ha) (hn b hb), fun a ha hx => (h4 a (hn a ha) hx).grow hle⟩
  obtain ⟨g1, g2, g3, g4⟩ := h1 a (hn a ha)
  exact ⟨g1, g2, hle _ _ g3, hle _ _ g4⟩
theorem jVl.grow {dC : Nat → ClassId} {dI : Nat → Nat → Nat} {G G1 : jT} {i : Nat} {v : Nat → Int32} {H : Heap} (h : jVl dC dI G i v H) (hn : jN14 G G1) : jVl dC dI G1 i v H := fun a ha => h a (hn a ha)
theorem jFT.grow {dC : Nat → ClassId} {dI : Nat → Nat → Nat} {ca : Nat → ClassId} {G G1 : jT} {xb xe : Nat} {H : Heap} (h : jFT dC dI ca G xb xe H) (hle : jLe G G1) : jFT dC dI ca G1 xb xe H := by
  obtain ⟨fb, fe, h1, h2⟩ := h
  exact ⟨fb, fe, h1.lift hle, h2⟩
theorem jDV.grow {dC : Nat → ClassId} {dI : Nat → Nat → Nat} {ca : Nat → ClassId} {G G1 : jT} {r dd co cs ol nw td : Nat} {H : Heap} (h : jDV dC dI ca G r dd co cs ol nw td H) (hle : jLe G G1) (hn : jN14 G G1) (hd : G dd = some (201, 3)) (hc : G co = some (208, 2)) : jDV dC dI ca G1 r dd co cs ol nw td H := by
  obtain ⟨sn, ck, fs, fd, fo, dc, h1, h2, h3, h4⟩ := h
  refine ⟨sn, ck, fs, fd, fo, dc, h1.lift hle, h2.lift hle, ?_, h4⟩
  have e1 := (h3 _ (List.mem_of_getElem? (i := 0) rfl)).1
  have e2 := (h3 _ (List.mem_of_getElem? (i := 1) rfl)).1
  have e3 := (h3 _ (List.mem_of_getElem? (i := 2) rfl)).1
  have e4 := (h3 _ (List.mem_of_getElem? (i := 3) rfl)).1
  exact jIs.cons (jDY.ie (jDY.grow e1 hle hn)) (jIs.cons (jVl.ie (jVl.grow e2 hn)) (jIs.cons (jQc.ie e3 (hle _ _ hd) (by decide) (by decide)) (jIs.cons (jQc.ie e4 (hle _ _ hc) (by decide) (by decide)) jIs.nil)))
end
section
def EX4_kindOfK : List (Nat × Nat) := []
set_option maxHeartbeats 4000000 in
set_option maxRecDepth 20000 in
theorem uX4_kindOfK (l : Launch) (dC : Nat → ClassId) (dI : Nat → Nat → Nat) (ca : Nat → ClassId) (base : Nat) (B : jF) (hB : jBok B) (hAp : jAp (dC, dI)) (hB6 : ∀ n G a H, B 6 n G a H ↔ jOb (dC, dI) 6 12 (F6 n G) a H) (hB140 : ∀ n G a H, B 140 n G a H ↔ jAr (dC, dI) (ca 1) (fun j z => True) n a H) (G0 : jT) (H0 : Heap) (r0 : Nat) (a1 : Int32) (pv : Int32) (wk : Nat) (wi : Nat) (wz : Nat) (fk : Nat → Int32) (fi : Nat → Int32) (fz : Nat → Int32) : Met l yX4_kindOf (jw yX4_kindOf cX4_kindOf 2 (some .int)) ({ frames := 0, cells := 0, slots := 0, locals := 0 }) (va_Pc [.ref r0, .int a1] (fun U => U.heap = H0 ∧ jX B base G0 [] H0 ∧ jG dC dI ca base U ∧ G0 r0 = some (6, 0) ∧ G0 wk = some (140, 1502) ∧ G0 wi = some (141, 1502) ∧ G0 wz = some (142, 1502) ∧ jP (dC, dI) G0 H0 [(r0, 6, 7, .int pv), (r0, 6, 0, .ref wk), (r0, 6, 1, .ref wi), (r0, 6, 2, .ref wz)] ∧ jMc (dC, dI) G0 H0 [(wk, 140, 1502, ca 1, fk), (wi, 141, 1502, ca 1, fi), (wz, 142, 1502, ca 1, fz)] ∧ 0 ≤ pv.toInt ∧ pv.toInt ≤ 1502)) (va_Qi (S := Unit) (fun r u => (r.toInt = 0 ∨ (0 ≤ a1.toInt ∧ a1.toInt < pv.toInt ∧ r.toInt = jSo fk a1.toInt))) (fun u t => jRt (dC, dI) B base G0 EX4_kindOfK H0 [] t.heap) (jA base)) 0 0 (jA base) := by
  refine Met.ofW (cc := cX4_kindOf) (maxL := 2) (ret := (some .int)) (by decide) rfl ?_
  intro p e s m args below meth c s₁ Bd hml hv
  obtain ⟨rfl, hH0, hX, hG, hg_r0, hg_wk, hg_wi, hg_wz, hP0, hM0, hp0, hp1⟩ := hv
  have hK := hG.1
  have hx := Bd.exec
  have hb := Bd.bytes
  have hr := Bd.returns
  have hts := atoms_spec (ws := (jw yX4_kindOf cX4_kindOf 2 (some .int))) Bd.pre
  have htw : ∀ w ∈ jWl, w.before _ s = true := fun w h => hts w (List.mem_cons_of_mem _ h)
  have hown : s.vm.findClass RX4 = some m.cls := findClass_of_methodNamed Bd.named
  have hlocks := Bd.notSynchronized
  obtain ⟨Q, hQ⟩ : ∃ Q, Q = MQ below (va_Qi (S := Unit) (fun r u => (r.toInt = 0 ∨ (0 ≤ a1.toInt ∧ a1.toInt < pv.toInt ∧ r.toInt = jSo fk a1.toInt))) (fun u t => jRt (dC, dI) B base G0 EX4_kindOfK H0 [] t.heap) (jA base)) ([.ref r0, .int a1] : List Value).toArray s 0 0 (jA base) := ⟨_, rfl⟩
  rw [← hQ]
  have hl := lv_entry ([.ref r0, .int a1]) (n := 2) (Nat.le_of_ble_eq_true rfl)
  rw [lg_entry_eq]
  generalize (lg_sl ([.ref r0, .int a1]) ++ List.replicate (2 - (lg_sl ([.ref r0, .int a1])).length) Slot.unset).toArray = ls at hl ⊢
  have hl : lv_has ls 2 [(0, .ref r0), (1, .int a1)] := hl
  generalize hR : (headSpec (jw yX4_kindOf cX4_kindOf 2 (some .int)) ({ frames := 0, cells := 0, slots := 0, locals := 0 })).room = R
  subst hH0
  have hh : jSt (dC, dI) B base G0 G0 EX4_kindOfK s.heap 0 0 [(r0, 6, 7, .int pv), (r0, 6, 0, .ref wk), (r0, 6, 1, .ref wi), (r0, 6, 2, .ref wz)] [(wk, 140, 1502, ca 1, fk), (wi, 141, 1502, ca 1, fi), (wz, 142, 1502, ca 1, fz)] [] s.heap [] := jSt.start hX hP0 hM0 jIs.nil
  clear hX hP0
  have hk0 : (0 : Int32).toInt = 0 := by decide
  have hk1 : (1 : Int32).toInt = 1 := by decide
  have hly_6_0 := htw (u_lay RX4 TX4 0) (jWc_wsX40 _ (u_in_lay (by decide)))
  have hly_6_7 := htw (u_lay RX4 TX4 7) (jWc_wsX40 _ (u_in_lay (by decide)))
  have hlk_50 := (htw (.fieldLink RX4 50 "ProofServer$Json" "values" "I") (jWr_19 _ (List.mem_of_getElem? (i := 13) rfl)))
  have hlk_11 := (htw (.fieldLink RX4 11 "ProofServer$Json" "kinds" "[I") (jWr_3 _ (List.mem_of_getElem? (i := 21) rfl)))
  have hrg_a1 := jb_rng a1
  refine lv_iload_n hx hb dX4_kindOf_0 rfl (lv_at hl 1 rfl) ?_
  refine lv_if_lt (tgt := 12) hx hb dX4_kindOf_1 (by decide) (fun c_1 => ?_) (fun c_1 => ?_)
  · skip
    have c_1' : a1.toInt < 0 := jb_lt (rfl) ((by decide)) c_1
    refine lv_iconst (v := 0) hx hb dX4_kindOf_12 (by decide) ?_
    refine lv_goto (tgt := 22) hx hb dX4_kindOf_13 (by decide) ?_
    rw [hQ]
    exact W.iret (v := 0) hx hb hr (fun t ht hW => ⟨⟨0, (), rfl, by first | omega | rfl | assumption | decide | exact Or.inl rfl | exact Or.inr rfl | (simp only; omega), hh.rt (M1 := []) [] rfl ht⟩, by rw [ht]; try exact hh.1.1, fun q h9 hq => by rw [ht]; try exact hh.1.2.1 q h9 hq⟩) hh.1.2.2 dX4_kindOf_22
  · skip
    have c_1' : a1.toInt ≥ 0 := jb_lt_n (rfl) ((by decide)) c_1
    refine lv_iload_n hx hb dX4_kindOf_4 rfl (lv_at hl 1 rfl) ?_
    refine lv_aload_n hx hb dX4_kindOf_5 rfl (lv_at hl 0 rfl) ?_
    refine j7_read hx hb hown hK (C := RX4) (T := TX4) (N := 12) rfl hly_6_7 hlk_50 (hh.at 0 rfl) dX4_kindOf_6 ?_
    refine lv_icmp_lt (tgt := 16) hx hb dX4_kindOf_9 (by decide) (fun c_2 => ?_) (fun c_2 => ?_)
    · skip
      have c_2' : a1.toInt < pv.toInt := jb_lt (rfl) (rfl) c_2
      refine lv_aload_n hx hb dX4_kindOf_16 rfl (lv_at hl 0 rfl) ?_
      refine j7_read hx hb hown hK (C := RX4) (T := TX4) (N := 12) rfl hly_6_0 hlk_11 (hh.at 1 rfl) dX4_kindOf_17 ?_
      refine lv_iload_n hx hb dX4_kindOf_20 rfl (lv_at hl 1 rfl) ?_
      refine j7_ialdM hx hb hK hh hB140 1 rfl (by decide) hg_wk (x := a1.toInt) (rfl) (by omega) (j := 0) rfl dX4_kindOf_21 (fun z_3 ez_3 (hz_3 : True) => ?_)
      have hqz_3 : z_3.toInt = jSo fk (a1.toInt) := by unfold jSo; rw [ez_3]
      rw [hQ]
      exact W.iret (v := z_3) hx hb hr (fun t ht hW => ⟨⟨z_3, (), rfl, by first | omega | rfl | assumption | decide | exact Or.inl rfl | exact Or.inr rfl | (simp only; omega), hh.rt (M1 := []) [] rfl ht⟩, by rw [ht]; try exact hh.1.1, fun q h9 hq => by rw [ht]; try exact hh.1.2.1 q h9 hq⟩) hh.1.2.2 dX4_kindOf_22
    · skip
      have c_2' : a1.toInt ≥ pv.toInt := jb_lt_n (rfl) (rfl) c_2
      refine lv_iconst (v := 0) hx hb dX4_kindOf_12 (by decide) ?_
      refine lv_goto (tgt := 22) hx hb dX4_kindOf_13 (by decide) ?_
      rw [hQ]
      exact W.iret (v := 0) hx hb hr (fun t ht hW => ⟨⟨0, (), rfl, by first | omega | rfl | assumption | decide | exact Or.inl rfl | exact Or.inr rfl | (simp only; omega), hh.rt (M1 := []) [] rfl ht⟩, by rw [ht]; try exact hh.1.1, fun q h9 hq => by rw [ht]; try exact hh.1.2.1 q h9 hq⟩) hh.1.2.2 dX4_kindOf_22
end
section
-- copyOf of bytes, over the one list of words
set_option maxHeartbeats 4000000 in
set_option maxRecDepth 20000 in
/-- Arrays.copyOf to a greater length: a new row -/
theorem wJ7_copyOf_9075b (l : Launch) (dC : Nat → ClassId) (dI : Nat → Nat → Nat) (ca : Nat → ClassId) (base LC LS : Nat) (H0 : Heap) (v n n1 : Nat) (f : Nat → Int32) (a1 : Int32) : Met l yJ7_copyOf_9075b (jw yJ7_copyOf_9075b cJ7_copyOf_9075b 3 (some (.array .byte))) ({ frames := 1, cells := LC - H0.size, slots := LS - jTot H0, locals := 40 }) (va_Pc [.ref v, .int a1] (fun U => U.heap = H0 ∧ va_at (dC, dI) vwCl (v, .inl (ca 0, n, .inl f)) H0 ∧ jG dC dI ca base U ∧ (sb_Fit f ∧ a1.toInt = n1 ∧ n < n1 ∧ n1 ≤ 2000000 ∧ H0.size + 1 ≤ LC ∧ jTot H0 + n1 ≤ LS))) (va_Qr (S := Nat → Int32) (fun f1 => sb_Fit f1) (fun f1 a t => a = H0.size ∧ va_at (dC, dI) vwCl (a, .inl (ca 0, n1, .inl f1)) t.heap ∧ t.heap.size = H0.size + 1 ∧ (∀ q, q < H0.size → t.heap[q]? = H0[q]?) ∧ jTot t.heap ≤ jTot H0 + n1) (fun q => H0.size ≤ q)) (LC - H0.size) (LS - jTot H0) (fun q => q = v ∨ H0.size ≤ q) := by
  refine Met.ofW (cc := cJ7_copyOf_9075b) (maxL := 3) (ret := (some (.array .byte))) (by decide) rfl ?_
  intro p e s m args below meth c s₁ B hml hv
  obtain ⟨rfl, hH0, hat, hG, hfit, h1, h2, h3, h4, h5⟩ := hv
  have hK := hG.1
  have hx := B.exec
  have hb := B.bytes
  have hr := B.returns
  have hts := atoms_spec (ws := (jw yJ7_copyOf_9075b cJ7_copyOf_9075b 3 (some (.array .byte)))) B.pre
  have htw : ∀ w ∈ jWl, w.before _ s = true := fun w h => hts w (List.mem_cons_of_mem _ h)
  have hown : s.vm.findClass RJ7 = some m.cls := findClass_of_methodNamed B.named
  have hlocks := B.notSynchronized
  subst hH0
  have hvl : v < s.heap.size := (Array.getElem?_eq_some_iff.mp hat).1
  have hl := lv_entry ([.ref v, .int a1]) (n := 3) (Nat.le_of_ble_eq_true rfl)
  rw [lg_entry_eq]
  generalize (lg_sl ([.ref v, .int a1]) ++ List.replicate (3 - (lg_sl ([.ref v, .int a1])).length) Slot.unset).toArray = ls at hl ⊢
  have hl : lv_has ls 3 [(0, .ref v), (1, .int a1)] := hl
  refine lv_iload_n hx hb dJ7_copyOf_9075b_0 rfl (lv_at hl 1 rfl) ?_
  refine lv_aload_n hx hb dJ7_copyOf_9075b_1 rfl (lv_at hl 0 rfl) ?_
  refine va_alen (v := Int32.ofNat n) hx hb hK (jp_one hat) 0 0 rfl rfl rfl dJ7_copyOf_9075b_2 ?_
  refine lv_icmp_ne (tgt := 14) hx hb dJ7_copyOf_9075b_3 (by decide) (fun c1 => ?_) (fun c1 => ?_)
  · refine lv_iload_n hx hb dJ7_copyOf_9075b_14 rfl (lv_at hl 1 rfl) ?_
    refine j_newi (ty := .byte) hx hb (htw (.arrayClass .byte) (jWr_3 _ (List.mem_of_getElem? (i := 9) rfl))) rfl rfl (fun _ h => h) hK 0 rfl (jb_n0 h1 (by omega)) (N' := n1) (by rw [jb_cl h1 (by omega)]; omega) (by simp [componentBytes]; omega) (by show 0 + 1 ≤ LC - s.heap.size; omega) (by show 0 + n1 ≤ LS - jTot s.heap; omega) dJ7_copyOf_9075b_15 (fun H1 hat1 hz1 ho1 hT1 => ?_)
    have hat2 := hat.kept (ho1 _ hvl)
    have hP : va_P (dC, dI) vwCl [(v, .inl (ca 0, n, .inl f)), (s.heap.size, .inl (ca 0, n1, .inl (fun _ => 0)))] H1 := by
      intro k r hr
      match k, hr with
      | 0, hr => cases hr; exact hat2
      | 1, hr => cases hr; exact hat1
      | k + 2, hr => simp at hr
    have hD : va_D (fun q => q = v ∨ s.heap.size ≤ q) [(v, .inl (ca 0, n, .inl f)), (s.heap.size, .inl (ca 0, n1, .inl (fun _ => 0)))] := by
      refine ⟨fun i j p q hi hj e => ?_, fun k q hq => ?_⟩
      · match i, j, hi, hj with
        | 0, 0, _, _ => rfl
        | 0, 1, hi, hj => cases hi; cases hj; simp at e; omega
        | 1, 0, hi, hj => cases hi; cases hj; simp at e; omega
        | 1, 1, _, _ => rfl
        | i + 2, _, hi, _ => simp at hi
        | _, j + 2, _, hj => simp at hj
      · match k, hq with
        | 0, hq => cases hq; exact Or.inl rfl
        | 1, hq => cases hq; exact Or.inr (Nat.le_refl _)
        | k + 2, hq => simp at hq
    have hS : va_S (fun q => q = v ∨ s.heap.size ≤ q) s.heap H1 [] := ⟨by omega, fun q h _ => ho1 q h, fun _ h => nomatch h⟩
    refine lv_astore_n (lv' := [(2, .ref s.heap.size), (0, .ref v), (1, .int a1)]) hx hb dJ7_copyOf_9075b_17 rfl hl (by decide) rfl (fun ls hl => ?_)
    refine lv_aload_n hx hb dJ7_copyOf_9075b_18 rfl (lv_at hl 1 rfl) ?_
    refine lv_iconst (v := 0) hx hb dJ7_copyOf_9075b_19 (by decide) ?_
    refine lv_aload_n hx hb dJ7_copyOf_9075b_20 rfl (lv_at hl 0 rfl) ?_
    refine lv_iconst (v := 0) hx hb dJ7_copyOf_9075b_21 (by decide) ?_
    refine lv_aload_n hx hb dJ7_copyOf_9075b_22 rfl (lv_at hl 1 rfl) ?_
    refine va_alen (v := Int32.ofNat n) hx hb hK (jp_one hat2) 0 0 rfl rfl rfl dJ7_copyOf_9075b_23 ?_
    refine lv_iload_n hx hb dJ7_copyOf_9075b_24 rfl (lv_at hl 2 rfl) ?_
    refine va_mmin hx hb (by rw [hml]; exact hl.1.symm) hown (htw (.methodLink RJ7 304 Lib.Math.min.name) (jWr_16 _ (List.mem_of_getElem? (i := 15) rfl))) (htw (.static Lib.Math.min.name) (jWr_16 _ (List.mem_of_getElem? (i := 16) rfl))) (htw (.initialized "java/lang/Math") (jWr_3 _ (List.mem_of_getElem? (i := 7) rfl))) (htw (.code Lib.Math.min.name Lib.Math.min.code 2 (some .int)) (jWr_16 _ (List.mem_of_getElem? (i := 17) rfl))) (Nat.le_of_ble_eq_true rfl) (Nat.le_of_ble_eq_true rfl) (by show 0 + 1 ≤ LC - s.heap.size; omega) (by show 0 + n1 ≤ LS - jTot s.heap; omega) dJ7_copyOf_9075b_25 ?_
    have hn : (Int32.ofNat n).toInt = n := jb_nat (by omega)
    rw [if_neg (fun q => by have h6 := jb_lt h1 hn q; omega)]
    refine va_copyi (H0 := s.heap) hx hb (by rw [hml]; exact hl.1.symm) hown (htw (.methodLink RJ7 150 arraycopyName) (jWr_16 _ (List.mem_of_getElem? (i := 18) rfl))) (htw (.native arraycopyName) (jWr_16 _ (List.mem_of_getElem? (i := 19) rfl))) (htw (.static arraycopyName) (jWr_16 _ (List.mem_of_getElem? (i := 20) rfl))) (htw (.initialized "java/lang/System") (jWr_16 _ (List.mem_of_getElem? (i := 21) rfl))) hK hP hD hS 0 1 0 0 rfl rfl rfl rfl rfl (by decide) (by decide) (jb_n0 hn (by omega)) (by rw [jb_cl hn (by omega), sb_cl0]; omega) (by rw [jb_cl hn (by omega), sb_cl0]; omega) (fun i hi => hfit _) (Nat.le_of_ble_eq_true rfl) (Nat.le_of_ble_eq_true rfl) dJ7_copyOf_9075b_28 (fun H2 locs2 hP2 hD2 hS2 => ?_)
    refine W.known (fun hsz2 hT2 => ?_)
    refine lv_aload_n hx hb dJ7_copyOf_9075b_31 rfl (lv_at hl 0 rfl) ?_
    have hat3 := hP2 1 _ rfl
    have hat4 := hP2 0 _ rfl
    have hl3 : s.heap.size < H2.size := hat3.lt
    refine W.widen (k := LC - s.heap.size) (n := LS - jTot s.heap) (by omega) (by omega) ?_
    refine W.aret hx hb hr (Or.inr ⟨_, rfl⟩) (Or.inr ⟨_, rfl⟩) (fun t ht hW => ⟨⟨_, _, rfl, ?_, rfl, by rw [ht]; exact hat3, by rw [ht]; omega, fun q hq => ?_, by rw [ht]; omega⟩, by rw [ht]; exact hS2.1, fun q hq hn => ?_⟩) ?_ dJ7_copyOf_9075b_32
    · exact hS2.2.2
    · exact sb_fitC hfit sb_fit0
    · rw [ht]
      by_cases e : q = v
      · subst e
        exact (show H2[q]? = some _ from hat4).trans (show s.heap[q]? = some _ from hat).symm
      · exact hS2.2.1 q hq (fun h => h.elim e (fun h => by omega))
    · rw [ht]
      by_cases e : q = v
      · subst e
        exact (show H2[q]? = some _ from hat4).trans (show s.heap[q]? = some _ from hat).symm
      · exact hS2.2.1 q hq (fun h => h.elim e (fun h => by omega))
  · exact absurd (jb_eq h1 (jb_nat (by omega)) c1) (by omega)
end
section
-- bytes that grow: arrays of bytes whose elements fit (the builders', the class's Bytes)
section J17
variable {p : Program} {l : Launch} {e : Env} {R : Room} {s : State} {m : MethodId} {args : Array Value} {below : List Frame} {meth : Method} {c : Code} {H : Heap} {locs : List Loc} {cells slots : Nat} {Q : State → Prop}
variable {cc : ByteArray} {pc : Nat} {ls : Array Slot} {rest : List Value} {dC : Nat → ClassId} {dI : Nat → Nat → Nat} {ca : Nat → ClassId} {B : jF} {base : Nat} {G0 G : jT} {E : List (Nat × Nat)} {H0 : Heap} {zc zs : Nat} {L : List jPin} {M : List jCt} {I : List jIv} {a k n : Nat} {cA : ClassId} {tys : List (ClassId × FieldType)}
theorem jSt.newL (hh : jSt (dC, dI) B base G0 G E H0 zc zs L M I H locs) (hB : jBok B) (hb0 : base ≤ H.size) {H1 : Heap} {locs1 : List Loc} (hS : va_S (jA base) H0 H1 locs1) (hsz : H1.size = H.size + 1) (hfr : ∀ q, q < H.size → H1[q]? = H[q]?) {w : Nat} (hT : jTot H1 ≤ jTot H + w) (hk : k < 1000) (hb : B k n (va_up G H.size (some (k, n))) H.size H1) : jSt (dC, dI) B base G0 (va_up G H.size (some (k, n))) E H0 (zc + 1) (zs + w) L M I H1 locs1 := by
  obtain ⟨h1, h2, h3, h4, h5, h6, h7, h8, h9⟩ := hh
  have hn := h2.fresh
  have hle : jLe G (va_up G H.size (some (k, n))) := jLe.new hn
  have key : ∀ kb b ib v, jf (dC, dI) kb b ib v H → jf (dC, dI) kb b ib v H1 := fun kb b ib v hf => hf.kept (hfr b hf.lt)
  have hX1 := (h2.grow hB (k, n) hb0 hsz hfr).cls (jUp_self) hb
  refine ⟨hS, hX1, fun q hq => ?_, ⟨fun a kb nb ib v ha he hf => key kb a ib v (h4.1 a kb nb ib v ha he hf), fun a kb nb ha g1 g2 he => ?_⟩, h5.tr hle, by omega, by omega, fun q hq => ?_, fun q hq => ?_⟩
  · obtain ⟨⟨nq, g1⟩, g2⟩ := h3 q hq
    exact ⟨⟨nq, hle _ _ g1⟩, key _ _ _ _ g2⟩
  · exact (hfr a (h2.2 _ _ (h5 _ _ ha)).2).trans (h4.2 a kb nb ha g1 g2 he)
  · obtain ⟨g1, g2, g3, g4⟩ := h8 q hq
    exact ⟨hle _ _ g1, g2, g3, g4.kept (hfr _ (h2.2 _ _ g1).2)⟩
  · obtain ⟨g1, g2⟩ := h9 q hq
    refine ⟨g2 H H1 ⟨fun a kb nb ib v _ _ hf => key kb a ib v hf, fun a kb nb ha _ _ _ => hfr a (h2.2 _ _ ha).2⟩ g1, fun Ha Hb hA => g2 Ha Hb (hA.low hle)⟩
/-- Arrays.copyOf of bytes to a greater length, in a walk: the copy is typed at once -/
theorem j7_copyb {own : String} {index : Nat} {Ts : List Cond} {nL LC LS n1 : Nat} {z : Int32} (hC : CallFix p m c cc nL s args Ts own) (hK : va_K (dC, dI) vwCl tys s) (hG : jG dC dI ca base s) (hh : jSt (dC, dI) B base G0 G E s.heap zc zs L M I H locs) (hB : jBok B) (hBk : ∀ n G a H, B k n G a H ↔ jAr (dC, dI) (ca 0) jBf n a H) (hk : k < 1000) (hb0 : base ≤ s.heap.size) (ha : G a = some (k, n)) (hz : z.toInt = n1) (hn : n < n1) (hm : n1 ≤ 2000000) (hLC : H.size + 1 ≤ LC) (hLS : jTot H + n1 ≤ LS) (hRc : R.cells = LC - s.heap.size) (hRs : R.slots = LS - jTot s.heap)
    (cw : CallB R s args own index yJ7_copyOf_9075b cJ7_copyOf_9075b 3 (some (.array .byte)) (jw yJ7_copyOf_9075b cJ7_copyOf_9075b 3 (some (.array .byte))) { frames := 1, cells := LC - H.size, slots := LS - jTot H, locals := 40 } (LC - H.size) (LS - jTot H) 2 ∧ (Cond.static yJ7_copyOf_9075b).before args s = true) (hsz : ls.size = nL) (hW : (rest.map fun v => v.category).sum ≤ 8) (hdg : decode cc pc = .ok (.invokestatic index, 3))
    (kk : ∀ (H1 : Heap) (locs1 : List Loc), H1.size = H.size + 1 → jTot H1 ≤ jTot H + n1 → jSt (dC, dI) B base G0 (va_up G H.size (some (k, n1))) E s.heap (zc + 1) (zs + n1) L M I H1 locs1 → W p l e R s m args below meth c H1 locs1 (zc + 1) (zs + n1) Q (F0 m (pc + 3) ls (.ref H.size :: rest))) : W p l e R s m args below meth c H locs cells slots Q (F0 m pc ls (.int z :: .ref a :: rest)) := by
  obtain ⟨f, g1, g2⟩ := hh.byt hBk hk ha
  refine W.room (fun r1 r2 => ?_)
  refine va_callr (A0 := jA base) (H0 := s.heap) (va_runS (As := [.ref a, .int z]) (rest := rest) hC (wJ7_copyOf_9075b l dC dI ca base LC LS H a n n1 f z) cw ⟨fun a U g mk q => by obtain ⟨q0, q1, q2, qK, q9⟩ := q; exact ⟨q0, q1, q2, jG.calling g mk a qK, q9⟩, fun U hU hW => ⟨rfl, hU, g1, hG.step hW hU hh.1, g2, hz, hn, hm, hLC, hLS⟩⟩ rfl rfl hsz rfl (by show 2 * 0 + _ ≤ 8; omega) hdg ⟨by omega, by omega⟩) hh.1 (fun q h9 h => absurd h9 (Nat.not_lt.mpr h)) (fun q h => h.elim (fun h => by rw [h]; exact (hh.ab ha).1) (fun h => by show base ≤ q; omega)) (fun f9 a9 t H1 locs1 ht hvm hw hB9 hz1 hk1 hS1 => ?_)
  obtain ⟨rfl, hat9, hsz9, hfr9, hT9⟩ := hB9
  rw [ht] at hat9 hsz9 hT9
  have hfr9 : ∀ q, q < H.size → H1[q]? = H[q]? := fun q hq => by rw [← ht]; exact hfr9 q hq
  have h9 := hh.newL (k := k) (n := n1) hB (Nat.le_trans hb0 r1) hS1 hsz9 hfr9 hT9 hk ((hBk _ _ _ _).mpr ⟨f9, hat9, fun j _ => hw j⟩)
  exact W.tight (c2 := zc + 1) (n2 := zs + n1) h9.2.2.2.2.2.1 h9.2.2.2.2.2.2.1 (kk H1 locs1 hsz9 hT9 h9)
end J17
end
