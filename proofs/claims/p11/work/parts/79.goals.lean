-- goals, hypotheses, facts of the reference's kernel: slots of arrays
def jUpd (n : Int) (f g : Nat → Int32) (i v : Int) : Prop := jSo g i = v ∧ ∀ j : Int, 0 ≤ j → j < n → j ≠ i → jSo g j = jSo f j
theorem jUpd.mk {n : Nat} {f g : Nat → Int32} {e i v : Int} (hv : jSo g e = v) (ho : ∀ j, j < n → j ≠ e.toNat → g j = f j) (he : e = i) (h0 : 0 ≤ i) : jUpd n f g i v := by
  subst he
  refine ⟨hv, fun j g0 g1 g2 => ?_⟩
  unfold jSo
  rw [ho j.toNat (by omega) (by omega)]
def jCpy (fg fh fp gg gh gp : Nat → Int32) (x y : Int) : Prop := jUpd 46 fg gg y (jSo fg x) ∧ jUpd 46 fh gh y (jSo fh x) ∧ (∀ i : Int, 0 ≤ i → i < 8 → jSo gp (8 * y + i) = jSo fp (8 * x + i)) ∧ ∀ j : Int, 0 ≤ j → j < 368 → (j < 8 * y ∨ 8 * y + 8 ≤ j) → jSo gp j = jSo fp j
def jPq (f g : Nat → Int32) (x y k : Int) : Prop := (∀ i : Int, 0 ≤ i → i < k → jSo g (8 * y + i) = jSo f (8 * x + i)) ∧ ∀ j : Int, 0 ≤ j → j < 368 → (j < 8 * y ∨ 8 * y + k ≤ j) → jSo g j = jSo f j
theorem jPq.rf (f : Nat → Int32) (x y : Int) : jPq f f x y 0 := ⟨fun i h0 h1 => by omega, fun _ _ _ _ => rfl⟩
theorem jPq.s {f g h : Nat → Int32} {x y k e e2 z : Int} (hq : jPq f g x y k) (hv : jSo h e = z) (ho : ∀ j, j < 368 → j ≠ e.toNat → h j = g j) (he : e = 8 * y + k) (hz : z = jSo g e2) (he2 : e2 = 8 * x + k) (hx : 0 ≤ x ∧ x ≤ 45) (hy : 0 ≤ y ∧ y ≤ 45) (hk : 0 ≤ k ∧ k < 8) : jPq f h x y (k + 1) := by
  have hU := jUpd.mk (n := 368) hv ho he (by omega)
  subst he2
  have e1 : jSo g (8 * x + k) = jSo f (8 * x + k) := hq.2 _ (by omega) (by omega) (by omega)
  refine ⟨fun i h0 h1 => ?_, fun j h0 h1 h2 => ?_⟩
  · by_cases q : i = k
    · rw [q, hU.1, hz, e1]
    · rw [hU.2 _ (by omega) (by omega) (by omega)]; exact hq.1 i h0 (by omega)
  · rw [hU.2 j h0 h1 (by omega)]; exact hq.2 j h0 h1 (by omega)
def jSe (fg fh fp gg gh gp : Nat → Int32) (i j : Int) : Prop := jSo gg j = jSo fg i ∧ jSo gh j = jSo fh i ∧ ∀ k : Int, 0 ≤ k → k < 8 → jSo gp (8 * j + k) = jSo fp (8 * i + k)
theorem jSe.rf (fg fh fp : Nat → Int32) (i : Int) : jSe fg fh fp fg fh fp i i := ⟨rfl, rfl, fun _ _ _ => rfl⟩
theorem jCpy.at {fg fh fp gg gh gp hg hh hp : Nat → Int32} {x y i : Int} (h : jCpy gg gh gp hg hh hp x y) (hs : jSe fg fh fp gg gh gp i x) : jSe fg fh fp hg hh hp i y := ⟨h.1.1.trans hs.1, h.2.1.1.trans hs.2.1, fun k g0 g1 => (h.2.2.1 k g0 g1).trans (hs.2.2 k g0 g1)⟩
theorem jCpy.off {fg fh fp gg gh gp hg hh hp : Nat → Int32} {x y i j : Int} (h : jCpy gg gh gp hg hh hp x y) (hs : jSe fg fh fp gg gh gp i j) (hj : 0 ≤ j) (hj1 : j ≤ 45) (hn : j ≠ y) (hy : 0 ≤ y) : jSe fg fh fp hg hh hp i j := ⟨(h.1.2 j hj (by omega) hn).trans hs.1, (h.2.1.2 j hj (by omega) hn).trans hs.2.1, fun k g0 g1 => (h.2.2.2 _ (by omega) (by omega) (by omega)).trans (hs.2.2 k g0 g1)⟩
def jT0 (fg fh fp gg gh gp : Nat → Int32) (p v : Int) : Prop := (∀ j : Int, 0 ≤ j → j < v → jSe fg fh fp gg gh gp (j + 1) j) ∧ ∀ j : Int, v ≤ j → j < p → jSe fg fh fp gg gh gp j j
theorem jT0.rf (fg fh fp : Nat → Int32) (p : Int) : jT0 fg fh fp fg fh fp p 0 := ⟨fun j h0 h1 => by omega, fun _ _ _ => jSe.rf _ _ _ _⟩
theorem jT0.s {fg fh fp gg gh gp hg hh hp : Nat → Int32} {p v x y : Int} (h : jT0 fg fh fp gg gh gp p v) (hc : jCpy gg gh gp hg hh hp x y) (hx : x = v + 1) (hy : y = v) (h0 : 0 ≤ v) (h1 : v + 1 < p) (h2 : p ≤ 46) : jT0 fg fh fp hg hh hp p (v + 1) := by
  subst hx; subst hy
  refine ⟨fun j g0 g1 => ?_, fun j g0 g1 => ?_⟩
  · by_cases q : j = y
    · rw [q]; exact hc.at (h.2 _ (by omega) h1)
    · exact hc.off (h.1 j g0 (by omega)) g0 (by omega) q h0
  · exact hc.off (h.2 j (by omega) g1) (by omega) (by omega) (by omega) h0
def jTu1 (fg fh fp gg gh gp : Nat → Int32) (p n v : Int) : Prop := (∀ j : Int, v < j → j < p → jSe fg fh fp gg gh gp j (j + n - 1)) ∧ ∀ j : Int, 0 ≤ j → j ≤ v → jSe fg fh fp gg gh gp j j
theorem jTu1.rf (fg fh fp : Nat → Int32) (p n : Int) : jTu1 fg fh fp fg fh fp p n (p - 1) := ⟨fun j h0 h1 => by omega, fun _ _ _ => jSe.rf _ _ _ _⟩
theorem jTu1.s {fg fh fp gg gh gp hg hh hp : Nat → Int32} {p n v x y : Int} (h : jTu1 fg fh fp gg gh gp p n v) (hc : jCpy gg gh gp hg hh hp x y) (hx : x = v) (hy : y = v + n - 1) (h0 : 0 < v) (h1 : v < p) (h3 : 1 ≤ n) (h2 : p + n ≤ 46) : jTu1 fg fh fp hg hh hp p n (v - 1) := by
  subst hx; subst hy
  refine ⟨fun j g0 g1 => ?_, fun j g0 g1 => ?_⟩
  · by_cases q : j = x
    · rw [q]; exact hc.at (h.2 _ (by omega) (by omega))
    · exact hc.off (h.1 j (by omega) g1) (by omega) (by omega) (by omega) (by omega)
  · exact hc.off (h.2 j g0 (by omega)) g0 (by omega) (by omega) (by omega)
def jTu2 (fg fh fp gg gh gp : Nat → Int32) (p n v : Int) : Prop := (∀ j : Int, 0 < j → j < p → jSe fg fh fp gg gh gp j (j + n - 1)) ∧ ∀ j : Int, 0 ≤ j → j < v → jSe fg fh fp gg gh gp 0 j
theorem jTu1.two {fg fh fp gg gh gp : Nat → Int32} {p n v : Int} (h : jTu1 fg fh fp gg gh gp p n v) (hv : v = 0) : jTu2 fg fh fp gg gh gp p n 1 := by
  subst hv
  exact ⟨h.1, fun j g0 g1 => by rw [show j = 0 by omega]; exact h.2 0 (by omega) (by omega)⟩
theorem jTu2.s {fg fh fp gg gh gp hg hh hp : Nat → Int32} {p n v x y : Int} (h : jTu2 fg fh fp gg gh gp p n v) (hc : jCpy gg gh gp hg hh hp x y) (hx : x = 0) (hy : y = v) (h0 : 1 ≤ v) (h1 : v < n) (h2 : p + n ≤ 46) (h3 : 0 ≤ p) : jTu2 fg fh fp hg hh hp p n (v + 1) := by
  subst hx; subst hy
  refine ⟨fun j g0 g1 => hc.off (h.1 j g0 g1) (by omega) (by omega) (by omega) (by omega), fun j g0 g1 => ?_⟩
  by_cases q : j = y
  · rw [q]; exact hc.at (h.2 0 (by omega) (by omega))
  · exact hc.off (h.2 j g0 (by omega)) g0 (by omega) q (by omega)
def jTm (fg fh fp gg gh gp : Nat → Int32) (p q n : Int) : Prop := (∀ j : Int, 0 ≤ j → j < q → ∃ i : Int, 0 ≤ i ∧ i < p ∧ jSe fg fh fp gg gh gp i j) ∧ ∀ j : Int, 0 ≤ j → j < n → jSe fg fh fp gg gh gp 0 j
theorem jT0.tm {fg fh fp gg gh gp : Nat → Int32} {p q v n : Int} (h : jT0 fg fh fp gg gh gp p v) (hv : v = p - 1) (hq : q = p - 1) (hn : n ≤ 0) : jTm fg fh fp gg gh gp p q n := ⟨fun j g0 g1 => ⟨j + 1, by omega, by omega, h.1 j g0 (by omega)⟩, fun j g0 g1 => by omega⟩
theorem jTu2.tm {fg fh fp gg gh gp : Nat → Int32} {p q n v : Int} (h : jTu2 fg fh fp gg gh gp p n v) (hv : n ≤ v) (hq : q = p + n - 1) (hp : 1 ≤ p) : jTm fg fh fp gg gh gp p q n := by
  refine ⟨fun j g0 g1 => ?_, fun j g0 g1 => h.2 j g0 (by omega)⟩
  by_cases q : j < n
  · exact ⟨0, by omega, by omega, h.2 j g0 (by omega)⟩
  · have := h.1 (j - n + 1) (by omega) (by omega)
    rw [show j - n + 1 + n - 1 = j by omega] at this
    exact ⟨j - n + 1, by omega, by omega, this⟩
def jAh (fh fp gh gp : Nat → Int32) (g x : Int) : Prop := jUpd 46 fh gh g (jSo fh g + 1) ∧ jUpd 368 fp gp (8 * g + jSo fh g) x
def jDq (f g : Nat → Int32) (x h v : Int) : Prop := (∀ k : Int, 0 ≤ k → k < 8 → (k < h ∨ v ≤ k → jSo g (8 * x + k) = jSo f (8 * x + k)) ∧ (h ≤ k ∧ k < v → jSo g (8 * x + k) = jSo f (8 * x + (k + 1)))) ∧ ∀ j : Int, 0 ≤ j → j < 368 → (j < 8 * x ∨ 8 * x + 8 ≤ j) → jSo g j = jSo f j
theorem jDq.rf (f : Nat → Int32) (x h : Int) : jDq f f x h h := ⟨fun k _ _ => ⟨fun _ => rfl, fun q => by omega⟩, fun _ _ _ _ => rfl⟩
theorem jDq.s {f g r : Nat → Int32} {x h v e e2 z : Int} (hq : jDq f g x h v) (hv : jSo r e = z) (ho : ∀ j, j < 368 → j ≠ e.toNat → r j = g j) (he : e = 8 * x + v) (hz : z = jSo g e2) (he2 : e2 = 8 * x + v + 1) (hx : 0 ≤ x ∧ x ≤ 45) (hh : 0 ≤ h ∧ h ≤ v ∧ v < 7) : jDq f r x h (v + 1) := by
  have hU := jUpd.mk (n := 368) hv ho he (by omega)
  have e1 := (hq.1 (v + 1) (by omega) (by omega)).1 (Or.inr (by omega))
  rw [show 8 * x + v + 1 = 8 * x + (v + 1) by omega] at he2
  subst he2
  refine ⟨fun k h0 h1 => ⟨fun q => ?_, fun q => ?_⟩, fun j h0 h1 h2 => ?_⟩
  · rw [hU.2 _ (by omega) (by omega) (by omega)]; exact (hq.1 k h0 h1).1 (by omega)
  · by_cases w : k = v
    · rw [w, hU.1, hz, e1]
    · rw [hU.2 _ (by omega) (by omega) (by omega)]; exact (hq.1 k h0 h1).2 (by omega)
  · rw [hU.2 j h0 h1 (by omega)]; exact hq.2 j h0 h1 h2
def jDh (fh fp gh gp : Nat → Int32) (x : Int) : Prop := jUpd 46 fh gh x (jSo fh x - 1) ∧ (∀ k : Int, 0 ≤ k → k < jSo fh x - 1 → ∃ i : Int, 0 ≤ i ∧ i < jSo fh x ∧ jSo gp (8 * x + k) = jSo fp (8 * x + i)) ∧ ∀ j : Int, 0 ≤ j → j < 368 → (j < 8 * x ∨ 8 * x + 8 ≤ j) → jSo gp j = jSo fp j
theorem jDq.dh {fh gh f g : Nat → Int32} {x h v : Int} (hq : jDq f g x h v) (hU : jUpd 46 fh gh x (jSo fh x - 1)) (h0 : 0 ≤ h) (h1 : jSo fh x ≤ v + 1) (h8 : jSo fh x ≤ 8) : jDh fh f gh g x := by
  refine ⟨hU, fun k g0 g1 => ?_, hq.2⟩
  by_cases w : k < h
  · exact ⟨k, g0, by omega, (hq.1 k g0 (by omega)).1 (Or.inl w)⟩
  · exact ⟨k + 1, by omega, by omega, (hq.1 k g0 (by omega)).2 (by omega)⟩
-- what is good of all slots
def jSl (P : Int → Prop) (fg fh fp : Nat → Int32) (g : Int) : Prop := P (jSo fg g) ∧ 0 ≤ jSo fh g ∧ jSo fh g ≤ 8 ∧ ∀ k : Int, 0 ≤ k → k < jSo fh g → P (jSo fp (8 * g + k))
def jGl (P : Int → Prop) (fg fh fp : Nat → Int32) (n : Int) : Prop := ∀ g : Int, 0 ≤ g → g < n → jSl P fg fh fp g
def jFa (P : Int → Prop) (ff : Nat → Int32) (n : Int) : Prop := ∀ k : Int, 0 ≤ k → k < n → P (jSo ff k)
theorem jSl.mono {P P1 : Int → Prop} {fg fh fp : Nat → Int32} {g : Int} (h : jSl P fg fh fp g) (hP : ∀ x, P x → P1 x) : jSl P1 fg fh fp g := ⟨hP _ h.1, h.2.1, h.2.2.1, fun k g0 g1 => hP _ (h.2.2.2 k g0 g1)⟩
theorem jGl.mono {P P1 : Int → Prop} {fg fh fp : Nat → Int32} {n : Int} (h : jGl P fg fh fp n) (hP : ∀ x, P x → P1 x) : jGl P1 fg fh fp n := fun g g0 g1 => (h g g0 g1).mono hP
theorem jGl.less {P : Int → Prop} {fg fh fp : Nat → Int32} {n m : Int} (h : jGl P fg fh fp n) (hm : m ≤ n) : jGl P fg fh fp m := fun g g0 g1 => h g g0 (by omega)
theorem jFa.mono {P P1 : Int → Prop} {ff : Nat → Int32} {n : Int} (h : jFa P ff n) (hP : ∀ x, P x → P1 x) : jFa P1 ff n := fun k g0 g1 => hP _ (h k g0 g1)
theorem jFa.add {P : Int → Prop} {ff gf : Nat → Int32} {n m x : Int} (h : jFa P ff n) (hU : jUpd 16 ff gf n x) (hx : P x) (hm : m = n + 1) (h16 : n < 16) : jFa P gf m := fun k g0 g1 => by
  by_cases q : k = n
  · rw [q, hU.1]; exact hx
  · rw [hU.2 k g0 (by omega) q]; exact h k g0 (by omega)
theorem jSe.sl {P : Int → Prop} {fg fh fp gg gh gp : Nat → Int32} {i j : Int} (hs : jSe fg fh fp gg gh gp i j) (h : jSl P fg fh fp i) : jSl P gg gh gp j := by
  refine ⟨by rw [hs.1]; exact h.1, by rw [hs.2.1]; exact h.2.1, by rw [hs.2.1]; exact h.2.2.1, fun k g0 g1 => ?_⟩
  rw [hs.2.1] at g1
  rw [hs.2.2 k g0 (by have := h.2.2.1; omega)]
  exact h.2.2.2 k g0 g1
theorem jGl.times {P : Int → Prop} {fg fh fp gg gh gp : Nat → Int32} {p q n : Int} (h : jGl P fg fh fp p) (ht : jTm fg fh fp gg gh gp p q n) : jGl P gg gh gp q := fun g g0 g1 => by
  obtain ⟨i, h0, h1, h2⟩ := ht.1 g g0 g1
  exact h2.sl (h i h0 h1)
theorem jGl.set {P : Int → Prop} {fg fh fp gg : Nat → Int32} {n i x : Int} (h : jGl P fg fh fp n) (hU : jUpd 46 fg gg i x) (hx : P x) (hn : n ≤ 46) : jGl P gg fh fp n := fun g g0 g1 => by
  obtain ⟨h1, h2⟩ := h g g0 g1
  refine ⟨?_, h2⟩
  by_cases q : g = i
  · rw [q, hU.1]; exact hx
  · rw [hU.2 g g0 (by omega) q]; exact h1
theorem jGl.add {P : Int → Prop} {fg fh fp gh gp : Nat → Int32} {n i x : Int} (h : jGl P fg fh fp n) (hA : jAh fh fp gh gp i x) (hx : P x) (h0 : 0 ≤ i) (h1 : i ≤ 45) (h7 : jSo fh i ≤ 7) (hn : n ≤ 46) (hi : 0 ≤ jSo fh i) : jGl P fg gh gp n := fun g g0 g1 => by
  obtain ⟨q1, q2, q3, q4⟩ := h g g0 g1
  by_cases q : g = i
  · subst q
    refine ⟨q1, by rw [hA.1.1]; omega, by rw [hA.1.1]; omega, fun k r0 r1 => ?_⟩
    rw [hA.1.1] at r1
    by_cases w : k = jSo fh g
    · rw [w, hA.2.1]; exact hx
    · rw [hA.2.2 _ (by omega) (by omega) (by omega)]; exact q4 k r0 (by omega)
  · have e := hA.1.2 g g0 (by omega) q
    refine ⟨q1, by rw [e]; exact q2, by rw [e]; exact q3, fun k r0 r1 => ?_⟩
    rw [e] at r1
    rw [hA.2.2 _ (by omega) (by omega) (by omega)]; exact q4 k r0 r1
theorem jGl.drop {P : Int → Prop} {fg fh fp gh gp : Nat → Int32} {n i : Int} (h : jGl P fg fh fp n) (hD : jDh fh fp gh gp i) (h1 : 1 ≤ jSo fh i) (h0 : 0 ≤ i) (hn : n ≤ 46) : jGl P fg gh gp n := fun g g0 g1 => by
  obtain ⟨q1, q2, q3, q4⟩ := h g g0 g1
  by_cases q : g = i
  · subst q
    refine ⟨q1, by rw [hD.1.1]; omega, by rw [hD.1.1]; omega, fun k r0 r1 => ?_⟩
    rw [hD.1.1] at r1
    obtain ⟨j, w0, w1, w2⟩ := hD.2.1 k r0 r1
    rw [w2]; exact q4 j w0 w1
  · have e := hD.1.2 g g0 (by omega) q
    refine ⟨q1, by rw [e]; exact q2, by rw [e]; exact q3, fun k r0 r1 => ?_⟩
    rw [e] at r1
    rw [hD.2.2 _ (by omega) (by omega) (by omega)]; exact q4 k r0 r1
/-- a formula that is good: closed, of 80 nodes at most -/
def jG1 (C : jK) (N Y x : Int) : Prop := jFm C N Y 80 0 x ∧ jsz C x ≤ 80
theorem jG1.ag {C D : jK} {N M Y x : Int} (h : jG1 C N Y x) (hA : jAgK C D N) (hM : N ≤ M) : jG1 D M Y x := ⟨h.1.ag hA hM, by rw [jsz_ag hA h.1]; exact h.2⟩
