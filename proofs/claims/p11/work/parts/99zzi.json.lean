-- what reading JSON leaves: the strings and keys of the values stand apart among the units, and take bytes
abbrev jC := (Nat → Int32) × (Nat → Int32) × (Nat → Int32) × (Nat → Int32) × (Nat → Int32)
def jln (C : jC) (e : Nat) : Int := if e % 2 = 0 then (if jSo C.1 ((e / 2 : Nat) : Int) = 3 then jSo C.2.2.1 ((e / 2 : Nat) : Int) else 0) else jSo C.2.2.2.2 ((e / 2 : Nat) : Int)
def jlo (C : jC) (e : Nat) : Int := if e % 2 = 0 then (if jSo C.1 ((e / 2 : Nat) : Int) = 3 then jSo C.2.1 ((e / 2 : Nat) : Int) else 0) else jSo C.2.2.2.1 ((e / 2 : Nat) : Int)
def jE5 (C D : jC) (i : Int) : Prop := jSo D.1 i = jSo C.1 i ∧ jSo D.2.1 i = jSo C.2.1 i ∧ jSo D.2.2.1 i = jSo C.2.2.1 i ∧ jSo D.2.2.2.1 i = jSo C.2.2.2.1 i ∧ jSo D.2.2.2.2 i = jSo C.2.2.2.2 i
theorem jE5.ln {C D : jC} {e : Nat} (h : jE5 C D ((e / 2 : Nat) : Int)) : jln D e = jln C e := by
  obtain ⟨h1, h2, h3, h4, h5⟩ := h
  unfold jln
  rw [h1, h3, h5]
theorem jE5.lo {C D : jC} {e : Nat} (h : jE5 C D ((e / 2 : Nat) : Int)) : jlo D e = jlo C e := by
  obtain ⟨h1, h2, h3, h4, h5⟩ := h
  unfold jlo
  rw [h1, h2, h4]
def jDjn (D : jC) (e e' : Nat) : Prop := jln D e = 0 ∨ jln D e' = 0 ∨ jlo D e + jln D e ≤ jlo D e' ∨ jlo D e' + jln D e' ≤ jlo D e
theorem jDjn.sy {D : jC} {e e' : Nat} (h : jDjn D e e') : jDjn D e' e := by
  unfold jDjn at h ⊢
  omega
def jJr (C : jC) (pv pu : Int) (D : jC) (qv qu : Int) : Prop := (0 ≤ pv ∧ pv ≤ qv ∧ 0 ≤ pu ∧ pu ≤ qu) ∧ (∀ i : Int, 0 ≤ i → i < pv → jE5 C D i) ∧
  (∀ e : Nat, 2 * pv ≤ e → (e : Int) < 2 * qv → (0 ≤ jln D e ∧ 0 ≤ jlo D e ∧ jlo D e + jln D e ≤ qu) ∧ (jln D e = 0 ∨ pu ≤ jlo D e)) ∧
  (∀ e e' : Nat, 2 * pv ≤ e → (e : Int) < 2 * qv → 2 * pv ≤ e' → (e' : Int) < 2 * qv → e ≠ e' → jDjn D e e')
theorem jJr.rf {C : jC} {pv pu : Int} (h0 : 0 ≤ pv) (h1 : 0 ≤ pu) : jJr C pv pu C pv pu := ⟨⟨h0, by omega, h1, by omega⟩, fun _ _ _ => ⟨rfl, rfl, rfl, rfl, rfl⟩, fun e h1 h2 => by omega, fun e _ h1 h2 => by omega⟩
theorem jJr.up {C D : jC} {pv pu qv qu qu' : Int} (h : jJr C pv pu D qv qu) (hq : qu ≤ qu') : jJr C pv pu D qv qu' := by
  obtain ⟨h1, h2, h3, h4⟩ := h
  refine ⟨by omega, h2, fun e a b => ?_, h4⟩
  have := h3 e a b
  omega
theorem jJr.tr {C D E : jC} {pv pu qv qu rv ru : Int} (h : jJr C pv pu D qv qu) (g : jJr D qv qu E rv ru) : jJr C pv pu E rv ru := by
  obtain ⟨h1, h2, h3, h4⟩ := h
  obtain ⟨g1, g2, g3, g4⟩ := g
  have key : ∀ e : Nat, (e : Int) < 2 * qv → jE5 D E ((e / 2 : Nat) : Int) := fun e he => g2 _ (by omega) (by omega)
  refine ⟨by omega, fun i a b => ?_, fun e a b => ?_, fun e e' a b c d ne => ?_⟩
  · obtain ⟨x1, x2, x3, x4, x5⟩ := h2 i a b
    obtain ⟨y1, y2, y3, y4, y5⟩ := g2 i a (by omega)
    exact ⟨y1.trans x1, y2.trans x2, y3.trans x3, y4.trans x4, y5.trans x5⟩
  · by_cases q : (e : Int) < 2 * qv
    · have := h3 e a q
      rw [(key e q).ln, (key e q).lo]
      omega
    · have := g3 e (by omega) b
      omega
  · by_cases q : (e : Int) < 2 * qv
    · by_cases q' : (e' : Int) < 2 * qv
      · have := h4 e e' a q c q' ne
        unfold jDjn at this ⊢
        rw [(key e q).ln, (key e q).lo, (key e' q').ln, (key e' q').lo]
        exact this
      · have x := h3 e a q
        have y := g3 e' (by omega) d
        unfold jDjn
        rw [(key e q).ln, (key e q).lo]
        omega
    · by_cases q' : (e' : Int) < 2 * qv
      · have x := h3 e' c q'
        have y := g3 e (by omega) b
        unfold jDjn
        rw [(key e' q').ln, (key e' q').lo]
        omega
      · exact g4 e e' (by omega) b (by omega) d ne
/-- a value is made -/
theorem jJr.mk {C D : jC} {pv pu qu : Int} (h0 : 0 ≤ pv) (h1 : 0 ≤ pu) (hq : pu ≤ qu) (ho : ∀ i : Int, 0 ≤ i → i < pv → jE5 C D i) (hs : jSo D.1 pv = 3 → 0 ≤ jSo D.2.2.1 pv ∧ pu ≤ jSo D.2.1 pv ∧ jSo D.2.1 pv + jSo D.2.2.1 pv ≤ qu) (hk : jSo D.2.2.2.2 pv = 0) (hf : jSo D.2.2.2.1 pv = 0) : jJr C pv pu D (pv + 1) qu := by
  have e2 : ∀ e : Nat, 2 * pv ≤ e → (e : Int) < 2 * (pv + 1) → ((e / 2 : Nat) : Int) = pv := fun e a b => by omega
  have z1 : ∀ e : Nat, 2 * pv ≤ e → (e : Int) < 2 * (pv + 1) → e % 2 = 1 → jln D e = 0 := fun e a b c => by
    unfold jln
    rw [if_neg (by omega), e2 e a b, hk]
  have z2 : ∀ e : Nat, 2 * pv ≤ e → (e : Int) < 2 * (pv + 1) → e % 2 = 1 → jlo D e = 0 := fun e a b c => by
    unfold jlo
    rw [if_neg (by omega), e2 e a b, hf]
  refine ⟨by omega, ho, fun e a b => ?_, fun e e' a b c d ne => ?_⟩
  · by_cases q : e % 2 = 0
    · unfold jln jlo
      rw [if_pos q, if_pos q, e2 e a b]
      by_cases q3 : jSo D.1 pv = 3
      · rw [if_pos q3, if_pos q3]
        have := hs q3
        omega
      · rw [if_neg q3, if_neg q3]; omega
    · have := z1 e a b (by omega)
      have := z2 e a b (by omega)
      omega
  · by_cases q : e % 2 = 1
    · exact Or.inl (z1 e a b q)
    · exact Or.inr (Or.inl (z1 e' c d (by omega)))
/-- the first and the size of a value that is no string are written -/
theorem jJr.fz {C D D' : jC} {pv pu qv qu h : Int} (g : jJr C pv pu D qv qu) (hp : pv ≤ h) (hk : jSo D.1 h ≠ 3) (ho : ∀ i : Int, 0 ≤ i → i < qv → i ≠ h → jE5 D D' i) (h1 : jSo D'.1 h = jSo D.1 h) (h2 : jSo D'.2.2.2.1 h = jSo D.2.2.2.1 h) (h3 : jSo D'.2.2.2.2 h = jSo D.2.2.2.2 h) : jJr C pv pu D' qv qu := by
  obtain ⟨g1, g2, g3, g4⟩ := g
  have kl : ∀ e : Nat, (e : Int) < 2 * qv → jln D' e = jln D e ∧ jlo D' e = jlo D e := fun e he => by
    by_cases q : ((e / 2 : Nat) : Int) = h
    · unfold jln jlo
      rw [q, h1, h3, h2]
      by_cases q2 : e % 2 = 0
      · rw [if_pos q2, if_pos q2, if_pos q2, if_pos q2, if_neg hk, if_neg hk, if_neg hk, if_neg hk]
        exact ⟨rfl, rfl⟩
      · rw [if_neg q2, if_neg q2, if_neg q2, if_neg q2]
        exact ⟨rfl, rfl⟩
    · have := ho _ (by omega) (by omega) q
      exact ⟨this.ln, this.lo⟩
  refine ⟨g1, fun i a b => ?_, fun e a b => ?_, fun e e' a b c d ne => ?_⟩
  · obtain ⟨x1, x2, x3, x4, x5⟩ := g2 i a b
    obtain ⟨y1, y2, y3, y4, y5⟩ := ho i a (by omega) (by omega)
    exact ⟨y1.trans x1, y2.trans x2, y3.trans x3, y4.trans x4, y5.trans x5⟩
  · have x := kl e b
    have y := g3 e a b
    omega
  · have x := kl e b
    have x' := kl e' d
    have y := g4 e e' a b c d ne
    unfold jDjn at y ⊢
    omega
/-- the key of a value that was read behind it -/
theorem jJr.key {C D E E' : jC} {pv pu wv wu u1 qv qu r : Int} (h : jJr C pv pu D wv wu) (hu : wu ≤ u1) (g : jJr D wv u1 E qv qu) (hr : wv ≤ r) (ho : ∀ i : Int, 0 ≤ i → i < qv → i ≠ r → jE5 E E' i) (h1 : jSo E'.1 r = jSo E.1 r) (h2 : jSo E'.2.1 r = jSo E.2.1 r) (h3 : jSo E'.2.2.1 r = jSo E.2.2.1 r) (h4 : jSo E'.2.2.2.1 r = wu) (h5 : jSo E'.2.2.2.2 r = u1 - wu) : jJr C pv pu E' qv qu := by
  have t := (h.up hu).tr g
  obtain ⟨t1, t2, t3, t4⟩ := t
  obtain ⟨a1, a2, a3, a4⟩ := h
  obtain ⟨b1, b2, b3, b4⟩ := g
  have kl : ∀ e : Nat, (e : Int) < 2 * qv → (e : Int) ≠ 2 * r + 1 → jln E' e = jln E e ∧ jlo E' e = jlo E e := fun e he hn => by
    by_cases q : ((e / 2 : Nat) : Int) = r
    · have q2 : e % 2 = 0 := by omega
      unfold jln jlo
      rw [q, h1, h2, h3, if_pos q2, if_pos q2, if_pos q2, if_pos q2]
      exact ⟨rfl, rfl⟩
    · have := ho _ (by omega) (by omega) q
      exact ⟨this.ln, this.lo⟩
  have kr : ∀ e : Nat, (e : Int) = 2 * r + 1 → jln E' e = u1 - wu ∧ jlo E' e = wu := fun e he => by
    unfold jln jlo
    rw [if_neg (by omega), if_neg (by omega), show ((e / 2 : Nat) : Int) = r by omega]
    exact ⟨h5, h4⟩
  have kd : ∀ e e' : Nat, (e : Int) = 2 * r + 1 → 2 * pv ≤ e' → (e' : Int) < 2 * qv → e ≠ e' → jDjn E' e e' := fun e e' he c d ne => by
    obtain ⟨x1, x2⟩ := kr e he
    obtain ⟨y1, y2⟩ := kl e' d (by omega)
    unfold jDjn
    by_cases q : (e' : Int) < 2 * wv
    · have z := b2 ((e' / 2 : Nat) : Int) (by omega) (by omega)
      have w := a3 e' c q
      rw [y1, y2, z.ln, z.lo]
      omega
    · have w := b3 e' (by omega) d
      omega
  refine ⟨t1, fun i a b => ?_, fun e a b => ?_, fun e e' a b c d ne => ?_⟩
  · obtain ⟨x1, x2, x3, x4, x5⟩ := t2 i a b
    obtain ⟨y1, y2, y3, y4, y5⟩ := ho i a (by omega) (by omega)
    exact ⟨y1.trans x1, y2.trans x2, y3.trans x3, y4.trans x4, y5.trans x5⟩
  · by_cases q : (e : Int) = 2 * r + 1
    · obtain ⟨x1, x2⟩ := kr e q
      omega
    · obtain ⟨x1, x2⟩ := kl e b q
      have := t3 e a b
      omega
  · by_cases q : (e : Int) = 2 * r + 1
    · exact kd e e' q c d ne
    · by_cases q' : (e' : Int) = 2 * r + 1
      · exact (kd e' e q' a b (fun x => ne x.symm)).sy
      · obtain ⟨x1, x2⟩ := kl e b q
        obtain ⟨y1, y2⟩ := kl e' d q'
        have := t4 e e' a b c d ne
        unfold jDjn at this ⊢
        omega
/-- the bytes that values take beside their units -/
def jSb (f : Nat → Int32) : Nat → Int
  | 0 => 0
  | n + 1 => jSb f n + (if 1 ≤ (f n).toInt then 5 else 2)
theorem jSb.cg {f g : Nat → Int32} : ∀ (n : Nat), (∀ i, i < n → g i = f i ∨ (g i).toInt = (f i).toInt) → jSb g n = jSb f n
  | 0, _ => rfl
  | n + 1, h => by
    have h1 := jSb.cg n (fun i hi => h i (by omega))
    have h2 : (g n).toInt = (f n).toInt := by
      rcases h n (by omega) with e | e
      · rw [e]
      · exact e
    show jSb g n + _ = jSb f n + _
    rw [h1, h2]
theorem jSb.lo (f : Nat → Int32) : ∀ n : Nat, 2 * (n : Int) ≤ jSb f n
  | 0 => by show (2 : Int) * 0 ≤ 0; omega
  | n + 1 => by
    have h1 := jSb.lo f n
    show 2 * ((n + 1 : Nat) : Int) ≤ jSb f n + _
    split <;> omega
theorem jSb.put {f g : Nat → Int32} (r N : Nat) (ho : ∀ i, i < N → i ≠ r → g i = f i) (h0 : (f r).toInt = 0) : ∀ n : Nat, n ≤ N → jSb g n ≤ jSb f n + (if 1 ≤ (g r).toInt ∧ r < n then 3 else 0)
  | 0, _ => by show (0 : Int) ≤ 0 + _; split <;> omega
  | n + 1, hn => by
    have h1 := jSb.put r N ho h0 n (by omega)
    show jSb g n + _ ≤ jSb f n + _ + _
    by_cases e : n = r
    · subst e
      rw [h0, if_neg (by omega : ¬ (1 : Int) ≤ 0)]
      rw [if_neg (by omega : ¬ (1 ≤ (g n).toInt ∧ n < n))] at h1
      by_cases q : 1 ≤ (g n).toInt
      · rw [if_pos q, if_pos ⟨q, by omega⟩]; omega
      · rw [if_neg q, if_neg (fun x => q x.1)]; omega
    · rw [ho n (by omega) e]
      by_cases q : 1 ≤ (g r).toInt ∧ r < n
      · rw [if_pos q] at h1
        rw [if_pos (⟨q.1, by omega⟩ : 1 ≤ (g r).toInt ∧ r < n + 1)]
        omega
      · rw [if_neg q] at h1
        rw [if_neg (fun x => q ⟨x.1, by omega⟩ : ¬ (1 ≤ (g r).toInt ∧ r < n + 1))]
        omega
/-- what a store leaves -/
theorem jst {f g : Nat → Int32} {x : Int} {N : Nat} (ho : ∀ j, j < N → j ≠ x.toNat → g j = f j) (i : Int) (h0 : 0 ≤ i) (hN : i < N) (hx : 0 ≤ x) (hne : i ≠ x) : jSo g i = jSo f i := by
  unfold jSo
  rw [ho i.toNat (by omega) (by omega)]
def jMq (C D : jC) (n : Int) : Prop := ∀ i : Int, 0 ≤ i → i < n → jE5 C D i
def jMv (D : jC) (n k f s : Int) : Prop := jSo D.1 n = k ∧ jSo D.2.1 n = f ∧ jSo D.2.2.1 n = s ∧ jSo D.2.2.2.2 n = 0 ∧ jSo D.2.2.2.1 n = 0
/-- a value is read: r is its number -/
def jVr (C : jC) (pv pu pt : Int) (D : jC) (qv qu qt r : Int) : Prop := jJr C pv pu D qv qu ∧ (r < 0 ∨ (pv ≤ r ∧ r < qv ∧ jSo D.2.2.2.2 r = 0 ∧ qu - pu + (jSb D.2.2.2.2 qv.toNat - jSb C.2.2.2.2 pv.toNat) ≤ qt - pt + 1))
theorem jVr.no {C : jC} {pv pu pt qu qt r : Int} (h0 : 0 ≤ pv) (h1 : 0 ≤ pu) (hu : pu ≤ qu) (hr : r < 0) : jVr C pv pu pt C pv qu qt r := ⟨(jJr.rf h0 h1).up hu, Or.inl hr⟩
theorem jSb.old {C D : jC} {n : Int} (h0 : 0 ≤ n) (h : jMq C D n) : jSb D.2.2.2.2 n.toNat = jSb C.2.2.2.2 n.toNat := jSb.cg _ (fun i hi => Or.inr (by
  have := (h i (by omega) (by omega)).2.2.2.2
  unfold jSo at this
  exact this))
theorem jSb.suc {f : Nat → Int32} {n m : Int} (h0 : 0 ≤ n) (hm : m = n + 1) (h : jSo f n = 0) : jSb f m.toNat = jSb f n.toNat + 2 := by
  have e : m.toNat = n.toNat + 1 := by omega
  rw [e]
  show jSb f n.toNat + _ = _
  unfold jSo at h
  rw [h, if_neg (by omega : ¬ (1 : Int) ≤ 0)]
theorem jVr.mk {C D : jC} {pv pu pt qv qu qt r k f s : Int} (hq : jMq C D pv) (hr : (r = -1 ∧ qv = pv) ∨ (r = pv ∧ qv = pv + 1)) (hm : r < 0 ∨ jMv D pv k f s) (h0 : 0 ≤ pv) (h1 : 0 ≤ pu) (hu : pu ≤ qu) (hs : k = 3 → f = pu ∧ s = qu - pu) (hb : qu - pu + 1 ≤ qt - pt) : jVr C pv pu pt D qv qu qt r := by
  rcases hr with ⟨e1, e2⟩ | ⟨e1, e2⟩
  · subst e2
    exact ⟨⟨⟨h0, by omega, h1, hu⟩, hq, fun e a b => by omega, fun e _ a b => by omega⟩, Or.inl (by omega)⟩
  · rcases hm with hm | ⟨m1, m2, m3, m4, m5⟩
    · omega
    · subst e2
      refine ⟨jJr.mk h0 h1 hu hq (fun h3 => ?_) m4 m5, Or.inr ⟨by omega, by omega, by rw [e1]; exact m4, ?_⟩⟩
      · have := hs (by omega)
        omega
      · rw [jSb.suc h0 rfl m4, jSb.old h0 hq]
        omega
/-- what is known of an object or a list while it is read: x bytes are told ahead -/
def jHv (C : jC) (pv pu pt : Int) (D : jC) (wv wu wt l x : Int) : Prop := l < 0 ∨ (l = pv ∧ pv < wv ∧ jSo D.1 pv ≠ 3 ∧ jSo D.2.2.2.2 pv = 0 ∧ wu - pu + x + (jSb D.2.2.2.2 wv.toNat - jSb C.2.2.2.2 pv.toNat) ≤ wt - pt + 1)
theorem jHv.add {C D : jC} {pv pu pt wv wu wt l x wu' wt' x' : Int} (h : jHv C pv pu pt D wv wu wt l x) (ha : wu' - wu + x' - x ≤ wt' - wt) : jHv C pv pu pt D wv wu' wt' l x' := by
  rcases h with h | ⟨h1, h2, h3, h4, h5⟩
  · exact Or.inl h
  · exact Or.inr ⟨h1, h2, h3, h4, by omega⟩
theorem jHv.z {C D : jC} {pv pu pt qv r k f s t : Int} (hq : jMq C D pv) (hr : (r = -1 ∧ qv = pv) ∨ (r = pv ∧ qv = pv + 1)) (hm : r < 0 ∨ jMv D pv k f s) (h0 : 0 ≤ pv) (h1 : 0 ≤ pu) (hk : k ≠ 3) (ht : pt + 1 ≤ t) : jJr C pv pu D qv pu ∧ jHv C pv pu pt D qv pu t r 0 := by
  have hv := jVr.mk (pu := pu) (qu := pu) (pt := pt) (qt := t) hq hr hm h0 h1 (Int.le_refl _) (fun h => absurd h hk) (by omega)
  refine ⟨hv.1, ?_⟩
  rcases hr with ⟨e1, e2⟩ | ⟨e1, e2⟩
  · exact Or.inl (by omega)
  · rcases hm with hm | ⟨m1, m2, m3, m4, m5⟩
    · exact Or.inl hm
    · rcases hv.2 with h | ⟨-, -, -, h4⟩
      · exact Or.inl h
      · exact Or.inr ⟨e1, by omega, by rw [m1]; exact hk, m4, by omega⟩
theorem jHs {C D E : jC} {k1 i1 z1 a1 s1 : Nat → Int32} {pv pu pt wv w0 u1 t2 l x qv qu qt r t : Int} (h1 : jJr C pv pu D wv w0) (h2 : jHv C pv pu pt D wv u1 t2 l x) (hu : w0 ≤ u1) (hx : x = 3 ∨ (x = 0 ∧ u1 = w0)) (g : jVr D wv u1 t2 E qv qu qt r) (hr : 0 ≤ r) (hl : 0 ≤ l) (hq : qv ≤ 1502)
    (hk : k1 = E.1) (ha : jSo a1 r = w0) (hao : ∀ j, j < 1502 → j ≠ r.toNat → a1 j = E.2.2.2.1 j) (hs : jSo s1 r = u1 - w0) (hso : ∀ j, j < 1502 → j ≠ r.toNat → s1 j = E.2.2.2.2 j)
    (hio : ∀ j, j < 1502 → j ≠ l.toNat → i1 j = E.2.1 j) (hzo : ∀ j, j < 1502 → j ≠ l.toNat → z1 j = E.2.2.1 j) (ht : qt + 1 ≤ t) : jJr C pv pu (k1, i1, z1, a1, s1) qv qu ∧ jHv C pv pu pt (k1, i1, z1, a1, s1) qv qu t l 0 := by
  obtain ⟨g1, g2⟩ := g
  rcases g2 with g2 | ⟨r1, r2, r3, r4⟩
  · omega
  rcases h2 with h2 | ⟨b1, b2, b3, b4, b5⟩
  · omega
  rw [b1] at hio hzo
  have p0 := h1.1
  have w1 := g1.1
  have k5 := g1.2.1 pv (by omega) b2
  have m1 : jJr C pv pu (E.1, E.2.1, E.2.2.1, a1, s1) qv qu := jJr.key h1 hu g1 r1 (fun i i0 i1 ne => ⟨rfl, rfl, rfl, jst hao i i0 (by omega) hr ne, jst hso i i0 (by omega) hr ne⟩) rfl rfl rfl ha hs
  have m2 : jJr C pv pu (k1, i1, z1, a1, s1) qv qu := jJr.fz (h := pv) m1 (Int.le_refl _) (by show jSo E.1 pv ≠ 3; rw [k5.1]; exact b3) (fun i i0 _ ne => ⟨by show jSo k1 i = jSo E.1 i; rw [hk], jst hio i i0 (by omega) (by omega) ne, jst hzo i i0 (by omega) (by omega) ne, rfl, rfl⟩) (by show jSo k1 pv = jSo E.1 pv; rw [hk]) rfl rfl
  refine ⟨m2, Or.inr ⟨b1, by omega, by show jSo k1 pv ≠ 3; rw [hk, k5.1]; exact b3, ?_, ?_⟩⟩
  · show jSo s1 pv = 0
    rw [jst hso pv (by omega) (by omega) hr (by omega), k5.2.2.2.2]
    exact b4
  · have s2 := jSb.put (f := E.2.2.2.2) (g := s1) r.toNat 1502 hso (by have := r3; unfold jSo at this; exact this) qv.toNat (by omega)
    have s3 : (s1 r.toNat).toInt = u1 - w0 := by have := hs; unfold jSo at this; exact this
    rw [s3] at s2
    show qu - pu + 0 + (jSb s1 qv.toNat - jSb C.2.2.2.2 pv.toNat) ≤ t - pt + 1
    rcases hx with hx | ⟨hx, hy⟩
    · by_cases q : 1 ≤ u1 - w0 ∧ r.toNat < qv.toNat
      · rw [if_pos q] at s2; omega
      · rw [if_neg q] at s2; omega
    · rw [if_neg (by omega : ¬ (1 ≤ u1 - w0 ∧ r.toNat < qv.toNat))] at s2
      omega
theorem jHv.end {C F : jC} {pv pu pt qv qu t l : Int} (h : jJr C pv pu F qv qu ∧ jHv C pv pu pt F qv qu t l 0) : jVr C pv pu pt F qv qu t l := by
  obtain ⟨h1, h2⟩ := h
  refine ⟨h1, ?_⟩
  rcases h2 with h2 | ⟨b1, b2, b3, b4, b5⟩
  · exact Or.inl h2
  · exact Or.inr ⟨by omega, by omega, by rw [b1]; exact b4, by omega⟩
theorem jVr.cg {C : jC} {C' : jC} {pv pu pt : Int} {D : jC} {qv qu qt r : Int} (e : C' = C) (h : jVr C' pv pu pt D qv qu qt r) : jVr C pv pu pt D qv qu qt r := e ▸ h
theorem jVr.base {C D : jC} {a b pt qv qu qt r : Int} (h : jVr C a b pt D qv qu qt r) (ha : a = 0) (hb : b = 0) : jJr C 0 0 D qv qu := by
  subst ha hb
  exact h.1
theorem jVr.root {C D : jC} {a b pt qv qu qt r e : Int} (h : jVr C a b pt D qv qu qt r) (ha : a = 0) (hb : b = 0) (hr : r = 0) (hp : 0 ≤ pt) (he : qt ≤ e) : 1 ≤ qv ∧ qu + jSb D.2.2.2.2 qv.toNat ≤ e + 1 := by
  subst ha hb
  rcases h.2 with h | ⟨h1, h2, h3, h4⟩
  · omega
  · have e : jSb C.2.2.2.2 (0 : Int).toNat = 0 := rfl
    omega
/-- a string of the values -/
theorem jJr.p {C D : jC} {qv qu : Int} (h : jJr C 0 0 D qv qu) (hq : qu ≤ 3000) : jJq D.1 D.2.1 D.2.2.1 qv := fun i h0 h1 h3 => by
  have := h.2.2.1 (2 * i.toNat) (by omega) (by omega)
  have e : (((2 * i.toNat) / 2 : Nat) : Int) = i := by omega
  have n1 : jln D (2 * i.toNat) = jSo D.2.2.1 i := by
    unfold jln
    rw [if_pos (by omega), e, if_pos h3]
  have n2 : jlo D (2 * i.toNat) = jSo D.2.1 i := by
    unfold jlo
    rw [if_pos (by omega), e, if_pos h3]
  omega
theorem jJr.k {C D : jC} {qv qu : Int} (h : jJr C 0 0 D qv qu) (hq : qu ≤ 3000) {i : Int} (h0 : 0 ≤ i) (h1 : i < qv) : 0 ≤ jSo D.2.2.2.1 i ∧ 0 ≤ jSo D.2.2.2.2 i ∧ jSo D.2.2.2.1 i + jSo D.2.2.2.2 i ≤ 3000 := by
  have := h.2.2.1 (2 * i.toNat + 1) (by omega) (by omega)
  have e : (((2 * i.toNat + 1) / 2 : Nat) : Int) = i := by omega
  have n1 : jln D (2 * i.toNat + 1) = jSo D.2.2.2.2 i := by
    unfold jln
    rw [if_neg (by omega), e]
  have n2 : jlo D (2 * i.toNat + 1) = jSo D.2.2.2.1 i := by
    unfold jlo
    rw [if_neg (by omega), e]
  omega
/-- a message that was understood: its bytes, and what it tells first -/
def jUd (D : jC) (qv qu n : Int) : Prop := qu + jSb D.2.2.2.2 qv.toNat ≤ n + 1 ∧ ∃ j : Int, 0 ≤ j ∧ j < qv ∧ jSo D.2.2.2.2 j = 7 ∧ jSo D.1 j = 3 ∧ jSo D.2.2.1 j = 3
theorem jNnl {x : Nat} {P : Prop} (h : (Value.ref x) = .null ∨ P) : P := h.elim (fun q => by cases q) id
theorem jUd.of {gk gi gz ga gs : Nat → Int32} {qv qu n j : Int} (h : qu + jSb gs qv.toNat ≤ n + 1) (h0 : 0 ≤ j) (h1 : j < qv) (h2 : jSo gs j = 7) (h3 : jSo gk j = 3) (h4 : jSo gz j = 3) : jUd (gk, gi, gz, ga, gs) qv qu n := ⟨h, j, h0, h1, h2, h3, h4⟩
def jJu (fk fz : Nat → Int32) (pv pu : Int) : Prop := ∀ i : Int, 0 ≤ i → i < pv → jSo fk i = 3 → jSo fz i ≤ pu
theorem jJr.u {C D : jC} {qv qu : Int} (h : jJr C 0 0 D qv qu) : jJu D.1 D.2.2.1 qv qu := fun i h0 h1 h3 => by
  have := h.2.2.1 (2 * i.toNat) (by omega) (by omega)
  have e : (((2 * i.toNat) / 2 : Nat) : Int) = i := by omega
  have n1 : jln D (2 * i.toNat) = jSo D.2.2.1 i := by
    unfold jln
    rw [if_pos (by omega), e, if_pos h3]
  omega
