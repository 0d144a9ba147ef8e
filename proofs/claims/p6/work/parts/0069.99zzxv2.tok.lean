section
-- p8: equal units have equal flaws; what a sentence costs
section
variable {f g : Nat → Int32} {d lo hi n m : Int}
theorem jSx.one {k : Nat} {i : Int} (h : jSx f n k i = i + 1) (hi : 0 ≤ i) : jSo f i = 46 := by
  cases k with
  | zero => have h : (-1 : Int) = i + 1 := h; omega
  | succ k =>
    rw [jSx_s (by omega), show k + 1 - 1 = k by omega] at h
    by_cases q : i < n
    · rw [if_pos q] at h
      by_cases w : jOpI f i n = 1
      · rw [if_pos w] at h
        have z := jBcc.rg (f := f) (n := n) (i := i)
        by_cases v : jBcc f n i < 0
        · rw [if_pos v] at h; omega
        · rw [if_neg v] at h
          rcases jSx.rg (f := f) (n := n) k (jBcc f n i) with y | y <;> omega
      · rw [if_neg w] at h
        by_cases v : jDt f n i = 1
        · exact (jDt.in v).1
        · rw [if_neg v] at h
          rcases jSx.rg (f := f) (n := n) k (i + 1) with y | y <;> omega
    · rw [if_neg q] at h; omega
/-- a sentence ends at the same place -/
theorem jcS.sx (h : jcS f g d lo hi) (hn : hi ≤ n) (hm : hi + d ≤ m) : ∀ (k k1 : Nat) (i r : Int), lo ≤ i → 0 ≤ i → 0 ≤ i + d → jSx f n k i = r → 0 ≤ r → ((r < hi ∧ n = hi) ∨ (r = hi ∧ m = hi + d)) → r - i < k1 → jSx g m k1 (i + d) = r + d
  | 0, _, i, r, _, _, _, e, h0, _, _ => by
    have e : (-1 : Int) = r := e
    omega
  | k + 1, k1, i, r, hl, hi0, hd0, e, h0, hc, hk => by
    have hir : i < r ∧ r ≤ n := by rcases jSx.rg (f := f) (n := n) (k + 1) i with z | z <;> omega
    have hk1 : 0 < k1 := by omega
    rw [jSx_s (by omega), show k + 1 - 1 = k by omega] at e
    by_cases q : i < n
    · rw [if_pos q] at e
      by_cases w : jOpI f i n = 1
      · rw [if_pos w] at e
        by_cases v : jBcc f n i < 0
        · rw [if_pos v] at e; omega
        · rw [if_neg v] at e
          have z := jBcc.rg (f := f) (n := n) (i := i)
          have y := jSx.rg (f := f) (n := n) k (jBcc f n i)
          have o := h.op (i := i) (n := n) (m := m) hl (by omega) hn hm
          have b : jBcc g m (i + d) = jBcc f n i + d := h.bc hn hm _ ((m - (i + d)).toNat + 1) i 0 (jBcc f n i) hl rfl (by omega) hi0 (by omega) (by omega)
          rw [jSx_s hk1, if_pos (by omega), if_pos (o.symm.trans w), b, if_neg (by omega)]
          exact jcS.sx h hn hm k (k1 - 1) (jBcc f n i) r (by omega) (by omega) (by omega) e h0 hc (by omega)
      · rw [if_neg w] at e
        by_cases v : jDt f n i = 1
        · rw [if_pos v] at e
          obtain ⟨v1, v2⟩ := jDt.in v
          have a := h i hl (by omega)
          rcases hc with ⟨c1, c2⟩ | ⟨c1, c2⟩
          · have o := h.op (i := i) (n := n) (m := m) hl (by omega) hn hm
            have b := h (i + 1) (by omega) (by omega)
            have t : jDt g m (i + d) = 1 := by
              refine jDt_1 (a.symm.trans v1) ?_
              rcases v2 with v2 | v2 | v2
              · omega
              · exact Or.inr (Or.inl (by rw [show i + d + 1 = i + 1 + d by omega, ← b]; exact v2))
              · have v3 := (jOpI.in v2).1
                have o2 := h.op (i := i + 1) (n := n) (m := m) (by omega) (by omega) hn hm
                exact Or.inr (Or.inr (by rw [show i + d + 1 = i + 1 + d by omega, ← o2]; exact v2))
            rw [jSx_s hk1, if_pos (by omega), if_neg (fun z => w (o.trans z)), if_pos t]
            omega
          · have t : jDt g m (i + d) = 1 := jDt_1 (a.symm.trans v1) (Or.inl (by omega))
            rw [jSx_s hk1, if_pos (by omega), if_neg (fun z => by have := (jOpI.in z).1; omega), if_pos t]
            omega
        · rw [if_neg v] at e
          have y : i + 1 < r := by rcases jSx.rg (f := f) (n := n) k (i + 1) with z | z <;> omega
          have o := h.op (i := i) (n := n) (m := m) hl (by omega) hn hm
          have a := h i hl (by omega)
          have b := h (i + 1) (by omega) (by omega)
          have t : ¬ jDt g m (i + d) = 1 := fun t => by
            obtain ⟨t1, t2⟩ := jDt.in t
            rcases t2 with t2 | t2 | t2
            · omega
            · exact v (jDt_1 (a.trans t1) (Or.inr (Or.inl (by rw [b, show i + 1 + d = i + d + 1 by omega]; exact t2))))
            · obtain ⟨t3, t4, t5⟩ := jOpI.in t2
              by_cases y2 : i + 2 < hi
              · have o2 := h.op (i := i + 1) (n := n) (m := m) (by omega) (by omega) hn hm
                exact v (jDt_1 (a.trans t1) (Or.inr (Or.inr (by rw [o2, show i + 1 + d = i + d + 1 by omega]; exact t2))))
              · have e1 : r = i + 1 + 1 := by omega
                rw [e1] at e
                have u := jSx.one e (by omega)
                rw [b, show i + 1 + d = i + d + 1 by omega, t4] at u
                omega
          rw [jSx_s hk1, if_pos (by omega), if_neg (fun z => w (o.trans z)), if_neg t, show i + d + 1 = i + 1 + d by omega]
          exact jcS.sx h hn hm k (k1 - 1) (i + 1) r (by omega) (by omega) (by omega) e h0 hc (by omega)
    · rw [if_neg q] at e; omega
end
theorem jcU.sm {f g : Nat → Int32} {n m : Int} {k : Nat} (h1 : jcB f n k < n) (h2 : jcB g m k < m) (e : jcU f n k = jcU g m k) : jcE f n k - jcB f n k = jcE g m k - jcB g m k ∧ jcS f g (jcB g m k - jcB f n k) (jcB f n k) (jcE f n k) := by
  have r1 := jcE.rg h1
  have r2 := jcE.rg h2
  have l : (jcE f n k - jcB f n k).toNat = (jcE g m k - jcB g m k).toNat := by
    have := congrArg List.length e
    unfold jcU at this
    rw [jcL.len, jcL.len] at this
    exact this
  refine ⟨by omega, fun j h0 hj => ?_⟩
  unfold jcU at e
  rw [← l] at e
  have := jcL.eq _ _ _ e (j - jcB f n k) (by omega) (by omega)
  rw [show jcB f n k + (j - jcB f n k) = j by omega, show jcB g m k + (j - jcB f n k) = j + (jcB g m k - jcB f n k) by omega] at this
  exact this
theorem jcM.sm {f g : Nat → Int32} {n m : Int} {k : Nat} (hn : 0 ≤ n) (hm : 0 ≤ m) (h1 : jcB f n k < n) (h2 : jcB g m k < m) (e : jcU f n k = jcU g m k) (hM : jcM f n k = 1) : jcM g m k = 1 := by
  obtain ⟨l, s⟩ := jcU.sm h1 h2 e
  have b1 := jcB.nn (f := f) hn k
  have b2 := jcB.nn (f := g) hm k
  have hE : jcE f n k = n := if_pos hM
  have r2 := jcE.rg h2
  have hk : k = 39 ∧ jcB f n (k + 1) < n := by
    unfold jcM at hM
    split at hM
    · rename_i w; exact w
    · omega
  have hx : 0 ≤ jSen f n (jcB f n k) ∧ jSen f n (jcB f n k) < n := by
    have g1 : jEn f n (jcB f n k) ≤ jcB f n (k + 1) := (jcB.up h1).2
    unfold jEn at g1
    split at g1
    · omega
    · omega
  have t : jSen g m (jcB g m k) = jSen f n (jcB f n k) + (jcB g m k - jcB f n k) := by
    have := s.sx (n := n) (m := m) (by omega) (by omega) _ ((m - jcB g m k).toNat + 1) (jcB f n k) (jSen f n (jcB f n k)) (Int.le_refl _) b1 (by omega) rfl hx.1 (Or.inl ⟨by omega, by omega⟩) (by omega)
    rw [show jcB f n k + (jcB g m k - jcB f n k) = jcB g m k by omega] at this
    exact this
  by_cases q : jcM g m k = 1
  · exact q
  · have e2 : jcE g m k = jEn g m (jcB g m k) := if_neg q
    have e3 : jEn g m (jcB g m k) = jSen g m (jcB g m k) := if_neg (by
      have := (jcB.up h1).1
      unfold jEn at this
      split at this <;> omega)
    omega
/-- the same units, the same flaw -/
theorem jcF.sm {f g : Nat → Int32} {n m : Int} {k : Nat} (hn : 0 ≤ n) (hm : 0 ≤ m) (h1 : jcB f n k < n) (h2 : jcB g m k < m) (e : jcU f n k = jcU g m k) : jcF f n k = jcF g m k := by
  have key : ∀ {f g : Nat → Int32} {n m : Int}, 0 ≤ n → 0 ≤ m → jcB f n k < n → jcB g m k < m → jcU f n k = jcU g m k → ¬ jcM f n k = 1 → ¬ jcM g m k = 1 → 0 ≤ jSen f n (jcB f n k) → 0 ≤ jSen g m (jcB g m k) := by
    intro f g n m hn hm h1 h2 e q1 q2 h0
    obtain ⟨l, s⟩ := jcU.sm h1 h2 e
    have b1 := jcB.nn (f := f) hn k
    have b2 := jcB.nn (f := g) hm k
    have r1 := jcE.rg h1
    have e1 : jcE f n k = jEn f n (jcB f n k) := if_neg q1
    have e2 : jEn f n (jcB f n k) = jSen f n (jcB f n k) := if_neg (by omega)
    have e3 : jcE g m k = jEn g m (jcB g m k) := if_neg q2
    by_cases w : jSen g m (jcB g m k) < 0
    · have e4 : jEn g m (jcB g m k) = m := if_pos w
      have := s.sx (n := n) (m := m) (by omega) (by omega) _ ((m - jcB g m k).toNat + 1) (jcB f n k) (jSen f n (jcB f n k)) (Int.le_refl _) b1 (by omega) rfl h0 (Or.inr ⟨by omega, by omega⟩) (by omega)
      rw [show jcB f n k + (jcB g m k - jcB f n k) = jcB g m k by omega] at this
      have this : jSen g m (jcB g m k) = jSen f n (jcB f n k) + (jcB g m k - jcB f n k) := this
      omega
    · omega
  by_cases q1 : jcM f n k = 1
  · have q2 := jcM.sm hn hm h1 h2 e q1
    unfold jcF
    rw [if_pos q1, if_pos q2]
  · have q2 : ¬ jcM g m k = 1 := fun q => q1 (jcM.sm hm hn h2 h1 e.symm q)
    unfold jcF
    rw [if_neg q1, if_neg q2]
    by_cases w : jSen f n (jcB f n k) < 0
    · rw [if_pos w, if_pos (by
        by_cases v : jSen g m (jcB g m k) < 0
        · exact v
        · have := key hm hn h2 h1 e.symm q2 q1 (by omega)
          omega)]
    · rw [if_neg w, if_neg (by
        have := key hn hm h1 h2 e q1 q2 (by omega)
        omega)]
-- tokens
section
variable {f : Nat → Int32} {n e i i1 : Int}
variable {k : Nat} {c : Int}
end
end
section
-- p8: rows of units in arrays; the cache
theorem jcP.app {f b e b1 e1 : Nat → Int32} {n c m i x : Int} (h : jcP f n b e c) (hb : jUpd 40 b b1 c i) (he : jUpd 40 e e1 c x) (h0 : 0 ≤ c) (h4 : c < 40) (hi : i < n) (ei : i = jcB f n c.toNat) (ex : x = jcE f n c.toNat) (hm : m = c + 1) : jcP f n b1 e1 m := fun k hk => by
  by_cases q : (k : Int) = c
  · have q1 : k = c.toNat := by omega
    rw [q, hb.1, he.1, q1]
    exact ⟨ei, ex, by omega⟩
  · rw [hb.2 k (by omega) (by omega) q, he.2 k (by omega) (by omega) q]
    exact h k (by omega)
theorem jcPf.app {f l l1 : Nat → Int32} {n c m x : Int} (h : jcPf f n l c) (hl : jUpd 40 l l1 c x) (h0 : 0 ≤ c) (h4 : c < 40) (ex : x = jcF f n c.toNat) (hm : m = c + 1) : jcPf f n l1 m := fun k hk => by
  by_cases q : (k : Int) = c
  · have q1 : k = c.toNat := by omega
    rw [q, hl.1, q1]
    exact ex
  · rw [hl.2 k (by omega) (by omega) q]
    exact h k (by omega)
end
section
-- p8: who waits, in arrays: one goes, one comes
theorem jwWr.psh {n m x zs zi zl : Int} {r : Nat} {wo wo1 : Nat → Option Nat} {wd ws wi wu we wd1 ws1 wi1 wu1 we1 fi : Nat → Int32} {W : List jwA} {i : Nat} {o : Option Nat} (h : jwWr n wo wd ws wi wu we W) (hn : n < 12) (hi0 : (i : Int) = n) (ho1 : wo1 i = o) (hor : o = some r) (ho : ∀ j, j < 12 → j ≠ i → wo1 j = wo j) (hd : jUpd 12 wd wd1 n x) (hs : jUpd 12 ws ws1 n zs) (hi : jUpd 12 wi wi1 n zi) (he : jUpd 12 we we1 n zl) (hu : jwUq wu wu1 fi n zl) (hz : zs = 1 → 0 ≤ zl ∧ zl ≤ 20) (em : m = n + 1) : jwWr m wo1 wd1 ws1 wi1 wu1 we1 (W ++ [(r, x, jwIe zs zi fi zl)]) := by
  obtain ⟨h1, h2, h3⟩ := h
  have hl : (W ++ [(r, x, jwIe zs zi fi zl)]).length = W.length + 1 := by rw [List.length_append]; rfl
  refine ⟨by omega, by omega, fun j a ha => ?_⟩
  by_cases q : j < W.length
  · rw [List.getElem?_append_left q] at ha
    obtain ⟨g1, g2, g3, g4⟩ := h3 j a ha
    have c1 : ∀ {f f1 : Nat → Int32} {v : Int}, jUpd 12 f f1 n v → jSo f1 (j : Int) = jSo f (j : Int) := fun hh => hh.2 j (by omega) (by omega) (by omega)
    refine ⟨(ho j (by omega) (by omega)).trans g1, (c1 hd).trans g2, ?_, fun q1 => ?_⟩
    · refine Eq.trans (jwWi.cg (c1 hs) (c1 hi) (c1 he) (fun q1 y y0 y1 => ?_)) g3
      have := g4 q1
      exact hu.2 _ (by omega) (by omega)
    · rw [c1 hs] at q1; rw [c1 he]; exact g4 q1
  · have hj : j = W.length := by have := (List.getElem?_eq_some_iff.mp ha).1; omega
    subst hj
    rw [List.getElem?_append_right (Nat.le_refl _), Nat.sub_self] at ha
    have ha : some (r, x, jwIe zs zi fi zl) = some a := ha
    cases ha
    have e1 : ((W.length : Nat) : Int) = n := h1.symm
    refine ⟨by rw [show W.length = i by omega, ho1, hor], ?_, ?_, fun q1 => ?_⟩
    · rw [e1]; exact hd.1
    · show jwWi ws1 wi1 wu1 we1 (W.length : Int) = jwIe zs zi fi zl
      unfold jwWi jwIe
      rw [e1, hs.1, hi.1, he.1]
      by_cases q2 : zs = 1
      · rw [if_pos q2, if_pos q2, jcL.cg (f := wu1) (g := fi) _ (20 * n) 0 (fun y y0 y1 => by rw [Int.zero_add]; exact hu.1 y y0 (by omega))]
      · rw [if_neg q2, if_neg q2]
    · rw [e1, hs.1] at q1
      rw [e1, he.1]; exact hz q1
end
section
-- p8: a finished sentence; ids as the reference compares them
theorem jwId.nk {ws wi wu we : Nat → Int32} {i v x : Int} {T : Nat → Int → Int} (h : (jSo ws i = 1 ∧ jqK T v x ≠ 3) ∨ (jSo ws i ≠ 1 ∧ jqK T v x = 3)) : jwWi ws wi wu we i ≠ jwId T v x := fun e => by
  unfold jwWi jwId at e
  rcases h with ⟨a, b⟩ | ⟨a, b⟩
  · rw [if_pos a, if_neg b] at e
    have h9 : (1 : Int) = 0 := congrArg Prod.fst e
    omega
  · rw [if_neg a, if_pos b] at e
    have h9 : (0 : Int) = 1 := congrArg Prod.fst e
    omega
theorem jwId.iy {ws wi wu we : Nat → Int32} {i v x : Int} {T : Nat → Int → Int} (h1 : jSo ws i ≠ 1) (h2 : jqK T v x ≠ 3) (e : jSo wi i = T 2 x) : jwWi ws wi wu we i = jwId T v x := by
  unfold jwWi jwId
  rw [if_neg h1, if_neg h2, e]
theorem jwSb.ey {ws wi wu we : Nat → Int32} {T : Nat → Int → Int} {v x i b s k : Int} (h : jwSb wu T v x b (jSo we i) s k) (hs : s ≠ 0) (hk : jSo we i ≤ k) (hb : b = 20 * i) (h1 : jSo ws i = 1) (h2 : jqK T v x = 3) : jwWi ws wi wu we i = jwId T v x := by
  rcases h with ⟨-, c, d⟩ | ⟨a, -⟩
  · unfold jwWi jwId
    rw [if_pos h1, if_pos h2, c, ← hb]
    congr 2
    exact jwUn.eq _ _ _ (fun y y0 y1 => by rw [Int.zero_add]; exact d y y0 (by omega))
  · exact absurd a hs
theorem jw01 {x : Int32} (h0 : 0 ≤ x.toInt) (h1 : x.toInt ≤ 1) : x = 0 ∨ x = 1 := by
  rcases (by omega : x.toInt = 0 ∨ x.toInt = 1) with e | e
  · exact Or.inl (Int32.toInt_inj.mp e)
  · exact Or.inr (Int32.toInt_inj.mp e)
end
section
-- p8: what is told of all documents of the class: sentences, what is checked, the check that goes on (written by mkent.py)
section J81
variable {dC : Nat → ClassId} {dI : Nat → Nat → Nat} {ca : Nat → ClassId} {G G1 : jT} {H H1 : Heap} {x : Option Nat} {q : jKg}
variable {a ysb yse ysc ybh : Nat} {sn : Int32} {ck : Int32} {lf : Int32} {cv : Value} {fv : Value} {sb : Nat → Int32} {se : Nat → Int32} {sc : Nat → Int32} {bh : Nat → Option Nat}
theorem jK1.up (h : jK1 dC dI ca G a ysb yse ysc ybh sn ck lf cv fv sb se sc bh H) (hle : jLe G G1) : jK1 dC dI ca G1 a ysb yse ysc ybh sn ck lf cv fv sb se sc bh H := by
  obtain ⟨h1, h2, h3⟩ := h
  refine ⟨fun z hz => ?_, fun z hz => ?_, ⟨hle _ _ h3.1, h3.2⟩⟩
  · obtain ⟨⟨n, q1⟩, q2⟩ := h1 z hz
    exact ⟨⟨n, hle _ _ q1⟩, q2⟩
  · obtain ⟨q1, q2⟩ := h2 z hz
    exact ⟨hle _ _ q1, q2⟩
theorem jKD.a6 {n : Nat} (h : jKD dC dI ca G (some a) q H) (ha : G a = some (3, n)) (hy : G yse = some (172, 40)) (p : jf (dC, dI) 3 a 6 (.ref yse) H) (hfr : ∀ p, p ≠ yse → H1[p]? = H[p]?) : jKD dC dI ca G (some a) q H1 := by
  obtain ⟨Ysb, Yse, Ysc, Ybh, h1, i0, i1, i2, i3, h3⟩ := h
  have e9 : Yse a = yse := by obtain ⟨g0, e0, g1, e1, g2, e2, g3, e3⟩ := h1 a n ha; have z := jf.uniq g1 p; cases z; rfl
  have hn : ∀ b m, G b = some (3, m) → b ≠ yse := fun b m hb z => by
    rw [z, hy] at hb
    have := congrArg Prod.fst (Option.some.inj hb)
    simp at this
  refine ⟨Ysb, Yse, Ysc, Ybh, fun b m hb => ?_, i0, i1, i2, i3, fun b m hb hx => ?_⟩
  · obtain ⟨g0, e0, g1, e1, g2, e2, g3, e3⟩ := h1 b m hb
    exact ⟨g0.kept (hfr b (hn b m hb)), e0, g1.kept (hfr b (hn b m hb)), e1, g2.kept (hfr b (hn b m hb)), e2, g3.kept (hfr b (hn b m hb)), e3⟩
  · have g := h3 b m hb hx
    obtain ⟨e0, e1, e2, e3⟩ := g.gy
    refine g.of (fun i v hi hf => hf.kept (hfr b (hn b m hb))) (hfr _ (fun z => ?_)) (hfr _ (fun z => ?_)) (hfr _ (fun z => ?_)) (hfr _ (fun z => ?_))
    · rw [z, hy] at e0
      have := congrArg Prod.fst (Option.some.inj e0)
      simp at this
    · exact hx (by rw [i1 b a m n hb ha (z.trans e9.symm)])
    · rw [z, hy] at e2
      have := congrArg Prod.fst (Option.some.inj e2)
      simp at this
    · rw [z, hy] at e3
      have := congrArg Prod.fst (Option.some.inj e3)
      simp at this
theorem jKD.a7 {n : Nat} (h : jKD dC dI ca G (some a) q H) (ha : G a = some (3, n)) (hy : G ysc = some (176, 40)) (p : jf (dC, dI) 3 a 7 (.ref ysc) H) (hfr : ∀ p, p ≠ ysc → H1[p]? = H[p]?) : jKD dC dI ca G (some a) q H1 := by
  obtain ⟨Ysb, Yse, Ysc, Ybh, h1, i0, i1, i2, i3, h3⟩ := h
  have e9 : Ysc a = ysc := by obtain ⟨g0, e0, g1, e1, g2, e2, g3, e3⟩ := h1 a n ha; have z := jf.uniq g2 p; cases z; rfl
  have hn : ∀ b m, G b = some (3, m) → b ≠ ysc := fun b m hb z => by
    rw [z, hy] at hb
    have := congrArg Prod.fst (Option.some.inj hb)
    simp at this
  refine ⟨Ysb, Yse, Ysc, Ybh, fun b m hb => ?_, i0, i1, i2, i3, fun b m hb hx => ?_⟩
  · obtain ⟨g0, e0, g1, e1, g2, e2, g3, e3⟩ := h1 b m hb
    exact ⟨g0.kept (hfr b (hn b m hb)), e0, g1.kept (hfr b (hn b m hb)), e1, g2.kept (hfr b (hn b m hb)), e2, g3.kept (hfr b (hn b m hb)), e3⟩
  · have g := h3 b m hb hx
    obtain ⟨e0, e1, e2, e3⟩ := g.gy
    refine g.of (fun i v hi hf => hf.kept (hfr b (hn b m hb))) (hfr _ (fun z => ?_)) (hfr _ (fun z => ?_)) (hfr _ (fun z => ?_)) (hfr _ (fun z => ?_))
    · rw [z, hy] at e0
      have := congrArg Prod.fst (Option.some.inj e0)
      simp at this
    · rw [z, hy] at e1
      have := congrArg Prod.fst (Option.some.inj e1)
      simp at this
    · exact hx (by rw [i2 b a m n hb ha (z.trans e9.symm)])
    · rw [z, hy] at e3
      have := congrArg Prod.fst (Option.some.inj e3)
      simp at this
theorem jKD.grow {ks : List Nat} (h : jKD dC dI ca G x q H) (hle : jLe G G1) (hN : jNk ks G G1) (hk : ks.contains 3 = true) : jKD dC dI ca G1 x q H := by
  obtain ⟨Ysb, Yse, Ysc, Ybh, h1, i0, i1, i2, i3, h3⟩ := h
  refine ⟨Ysb, Yse, Ysc, Ybh, fun a n ha => ?_, fun a b n m ha hb => i0 a b n m (hN a 3 n ha hk) (hN b 3 m hb hk), fun a b n m ha hb => i1 a b n m (hN a 3 n ha hk) (hN b 3 m hb hk), fun a b n m ha hb => i2 a b n m (hN a 3 n ha hk) (hN b 3 m hb hk), fun a b n m ha hb => i3 a b n m (hN a 3 n ha hk) (hN b 3 m hb hk), fun a n ha hx => (h3 a n (hN a 3 n ha hk) hx).up hle⟩
  obtain ⟨g0, e0, g1, e1, g2, e2, g3, e3⟩ := h1 a n (hN a 3 n ha hk)
  exact ⟨g0, hle _ _ e0, g1, hle _ _ e1, g2, hle _ _ e2, g3, hle _ _ e3⟩
end J81
end
section
-- p8: what is told of all documents of the reference: sentences, what is checked, the check that goes on (written by mkent.py)
section J82
variable {dC : Nat → ClassId} {dI : Nat → Nat → Nat} {ca : Nat → ClassId} {G G1 : jT} {H H1 : Heap} {x : Option Nat} {q : jXg}
variable {a ysb yse ysf : Nat} {sn : Int32} {ck : Int32} {sb : Nat → Int32} {se : Nat → Int32} {sf : Nat → Int32}
theorem jX1d.up (h : jX1d dC dI ca G a ysb yse ysf sn ck sb se sf H) (hle : jLe G G1) : jX1d dC dI ca G1 a ysb yse ysf sn ck sb se sf H := by
  obtain ⟨h1, h2, -⟩ := h
  refine ⟨fun z hz => ?_, fun z hz => ?_, trivial⟩
  · obtain ⟨⟨n9, q1⟩, q2⟩ := h1 z hz
    exact ⟨⟨n9, hle _ _ q1⟩, q2⟩
  · obtain ⟨q1, q2⟩ := h2 z hz
    exact ⟨hle _ _ q1, q2⟩
theorem jXD.a6 (h : jXD dC dI ca G (some a) q H) (ha : G a = some (14, 0)) (hy : G ysb = some (190, 40)) (p : jf (dC, dI) 14 a 6 (.ref ysb) H) (hfr : ∀ p, p ≠ ysb → H1[p]? = H[p]?) : jXD dC dI ca G (some a) q H1 := by
  obtain ⟨Ysb, Yse, Ysf, h1, i0, i1, i2, h3⟩ := h
  have e9 : Ysb a = ysb := by obtain ⟨g0, e0, g1, e1, g2, e2⟩ := h1 a 0 ha; have z := jf.uniq g0 p; cases z; rfl
  have hn : ∀ (b _m : Nat), G b = some (14, 0) → b ≠ ysb := fun b _ hb z => by
    rw [z, hy] at hb
    have := congrArg Prod.fst (Option.some.inj hb)
    simp at this
  refine ⟨Ysb, Yse, Ysf, fun b _ hb => ?_, i0, i1, i2, fun b _ hb hx => ?_⟩
  · obtain ⟨g0, e0, g1, e1, g2, e2⟩ := h1 b 0 hb
    exact ⟨g0.kept (hfr b (hn b 0 hb)), e0, g1.kept (hfr b (hn b 0 hb)), e1, g2.kept (hfr b (hn b 0 hb)), e2⟩
  · have g := h3 b 0 hb hx
    obtain ⟨e0, e1, e2⟩ := g.gy
    refine g.of (fun i v hi hf => hf.kept (hfr b (hn b 0 hb))) (hfr _ (fun z => ?_)) (hfr _ (fun z => ?_)) (hfr _ (fun z => ?_))
    · exact hx (by rw [i0 b a 0 0 hb ha (z.trans e9.symm)])
    · rw [z, hy] at e1
      have := congrArg Prod.fst (Option.some.inj e1)
      simp at this
    · rw [z, hy] at e2
      have := congrArg Prod.fst (Option.some.inj e2)
      simp at this
theorem jXD.a7 (h : jXD dC dI ca G (some a) q H) (ha : G a = some (14, 0)) (hy : G yse = some (191, 40)) (p : jf (dC, dI) 14 a 7 (.ref yse) H) (hfr : ∀ p, p ≠ yse → H1[p]? = H[p]?) : jXD dC dI ca G (some a) q H1 := by
  obtain ⟨Ysb, Yse, Ysf, h1, i0, i1, i2, h3⟩ := h
  have e9 : Yse a = yse := by obtain ⟨g0, e0, g1, e1, g2, e2⟩ := h1 a 0 ha; have z := jf.uniq g1 p; cases z; rfl
  have hn : ∀ (b _m : Nat), G b = some (14, 0) → b ≠ yse := fun b _ hb z => by
    rw [z, hy] at hb
    have := congrArg Prod.fst (Option.some.inj hb)
    simp at this
  refine ⟨Ysb, Yse, Ysf, fun b _ hb => ?_, i0, i1, i2, fun b _ hb hx => ?_⟩
  · obtain ⟨g0, e0, g1, e1, g2, e2⟩ := h1 b 0 hb
    exact ⟨g0.kept (hfr b (hn b 0 hb)), e0, g1.kept (hfr b (hn b 0 hb)), e1, g2.kept (hfr b (hn b 0 hb)), e2⟩
  · have g := h3 b 0 hb hx
    obtain ⟨e0, e1, e2⟩ := g.gy
    refine g.of (fun i v hi hf => hf.kept (hfr b (hn b 0 hb))) (hfr _ (fun z => ?_)) (hfr _ (fun z => ?_)) (hfr _ (fun z => ?_))
    · rw [z, hy] at e0
      have := congrArg Prod.fst (Option.some.inj e0)
      simp at this
    · exact hx (by rw [i1 b a 0 0 hb ha (z.trans e9.symm)])
    · rw [z, hy] at e2
      have := congrArg Prod.fst (Option.some.inj e2)
      simp at this
theorem jXD.a8 (h : jXD dC dI ca G (some a) q H) (ha : G a = some (14, 0)) (hy : G ysf = some (192, 40)) (p : jf (dC, dI) 14 a 8 (.ref ysf) H) (hfr : ∀ p, p ≠ ysf → H1[p]? = H[p]?) : jXD dC dI ca G (some a) q H1 := by
  obtain ⟨Ysb, Yse, Ysf, h1, i0, i1, i2, h3⟩ := h
  have e9 : Ysf a = ysf := by obtain ⟨g0, e0, g1, e1, g2, e2⟩ := h1 a 0 ha; have z := jf.uniq g2 p; cases z; rfl
  have hn : ∀ (b _m : Nat), G b = some (14, 0) → b ≠ ysf := fun b _ hb z => by
    rw [z, hy] at hb
    have := congrArg Prod.fst (Option.some.inj hb)
    simp at this
  refine ⟨Ysb, Yse, Ysf, fun b _ hb => ?_, i0, i1, i2, fun b _ hb hx => ?_⟩
  · obtain ⟨g0, e0, g1, e1, g2, e2⟩ := h1 b 0 hb
    exact ⟨g0.kept (hfr b (hn b 0 hb)), e0, g1.kept (hfr b (hn b 0 hb)), e1, g2.kept (hfr b (hn b 0 hb)), e2⟩
  · have g := h3 b 0 hb hx
    obtain ⟨e0, e1, e2⟩ := g.gy
    refine g.of (fun i v hi hf => hf.kept (hfr b (hn b 0 hb))) (hfr _ (fun z => ?_)) (hfr _ (fun z => ?_)) (hfr _ (fun z => ?_))
    · rw [z, hy] at e0
      have := congrArg Prod.fst (Option.some.inj e0)
      simp at this
    · rw [z, hy] at e1
      have := congrArg Prod.fst (Option.some.inj e1)
      simp at this
    · exact hx (by rw [i2 b a 0 0 hb ha (z.trans e9.symm)])
theorem jXD.grow {ks : List Nat} (h : jXD dC dI ca G x q H) (hle : jLe G G1) (hN : jNk ks G G1) (hk : ks.contains 14 = true) : jXD dC dI ca G1 x q H := by
  obtain ⟨Ysb, Yse, Ysf, h1, i0, i1, i2, h3⟩ := h
  refine ⟨Ysb, Yse, Ysf, fun a _ ha => ?_, fun a b _ _ ha hb => i0 a b 0 0 (hN a 14 0 ha hk) (hN b 14 0 hb hk), fun a b _ _ ha hb => i1 a b 0 0 (hN a 14 0 ha hk) (hN b 14 0 hb hk), fun a b _ _ ha hb => i2 a b 0 0 (hN a 14 0 ha hk) (hN b 14 0 hb hk), fun a _ ha hx => (h3 a 0 (hN a 14 0 ha hk) hx).up hle⟩
  obtain ⟨g0, e0, g1, e1, g2, e2⟩ := h1 a 0 (hN a 14 0 ha hk)
  exact ⟨g0, hle _ _ e0, g1, hle _ _ e1, g2, hle _ _ e2⟩
end J82
end
section
-- p8: what is told of some fields of the reference (written by mkhent.py)
theorem jHd.grow {dC : Nat → ClassId} {dI : Nat → Nat → Nat} {ca : Nat → ClassId} {G G1 : jT} {r : Nat} {fd : Nat → Option Nat} {dc : Int32} {H : Heap} (h : jHd dC dI ca G r fd dc H) (hle : jLe G G1) : jHd dC dI ca G1 r fd dc H := by
  obtain ⟨yfd, ⟨n, hr⟩, g0, hP, hM, hQ, hR⟩ := h
  exact ⟨yfd, ⟨n, hle _ _ hr⟩, hle _ _ g0, hP.lift hle, jMc.lift hle hM, hQ, hR⟩
theorem jHo.grow {dC : Nat → ClassId} {dI : Nat → Nat → Nat} {ca : Nat → ClassId} {G G1 : jT} {r : Nat} {ol : Nat} {nw : Nat} {td : Nat} {H : Heap} (h : jHo dC dI ca G r ol nw td H) (hle : jLe G G1) : jHo dC dI ca G1 r ol nw td H := by
  obtain ⟨⟨n, hr⟩, ⟨g0, g1, g2⟩, hP, hM, hQ, hR⟩ := h
  exact ⟨⟨n, hle _ _ hr⟩, ⟨hle _ _ g0, hle _ _ g1, hle _ _ g2⟩, hP.lift hle, jMc.lift hle hM, hQ, hR⟩
theorem jHc.grow {dC : Nat → ClassId} {dI : Nat → Nat → Nat} {ca : Nat → ClassId} {G G1 : jT} {r : Nat} {co : Nat → Option Nat} {cs : Nat → Int32} {cl : Nat → Int32} {H : Heap} (h : jHc dC dI ca G r co cs cl H) (hle : jLe G G1) : jHc dC dI ca G1 r co cs cl H := by
  obtain ⟨ycs, ycl, yco, ⟨n, hr⟩, ⟨g0, g1, g2⟩, hP, hM, hQ, hR⟩ := h
  exact ⟨ycs, ycl, yco, ⟨n, hle _ _ hr⟩, ⟨hle _ _ g0, hle _ _ g1, hle _ _ g2⟩, hP.lift hle, jMc.lift hle hM, hQ, hR⟩
theorem jHw.grow {dC : Nat → ClassId} {dI : Nat → Nat → Nat} {ca : Nat → ClassId} {G G1 : jT} {r : Nat} {WW : List jwA} {H : Heap} (h : jHw dC dI ca G r WW H) (hle : jLe G G1) : jHw dC dI ca G1 r WW H := by
  obtain ⟨ywd, yws, ywi, ywu, ywe, ywo, wn, wd, ws, wi, wu, we, wo, ⟨n, hr⟩, ⟨g0, g1, g2, g3, g4, g5⟩, hP, hM, hQ, hR⟩ := h
  exact ⟨ywd, yws, ywi, ywu, ywe, ywo, wn, wd, ws, wi, wu, we, wo, ⟨n, hle _ _ hr⟩, ⟨hle _ _ g0, hle _ _ g1, hle _ _ g2, hle _ _ g3, hle _ _ g4, hle _ _ g5⟩, hP.lift hle, jMc.lift hle hM, hQ, hR⟩
theorem jHk.grow {dC : Nat → ClassId} {dI : Nat → Nat → Nat} {ca : Nat → ClassId} {G G1 : jT} {r : Nat} {CC : List (List Int)} {H : Heap} (h : jHk dC dI ca G r CC H) (hle : jLe G G1) : jHk dC dI ca G1 r CC H := by
  obtain ⟨ycu, yce, cn, cu, ce, ⟨n, hr⟩, ⟨g0, g1⟩, hP, hM, hQ, hR⟩ := h
  exact ⟨ycu, yce, cn, cu, ce, ⟨n, hle _ _ hr⟩, ⟨hle _ _ g0, hle _ _ g1⟩, hP.lift hle, jMc.lift hle hM, hQ, hR⟩
theorem jHh.grow {dC : Nat → ClassId} {dI : Nat → Nat → Nat} {ca : Nat → ClassId} {G G1 : jT} {r : Nat} {ho : Nat → Option Nat} {H : Heap} (h : jHh dC dI ca G r ho H) (hle : jLe G G1) : jHh dC dI ca G1 r ho H := by
  obtain ⟨yho, ⟨n, hr⟩, g0, hP, hM, hQ, hR⟩ := h
  exact ⟨yho, ⟨n, hle _ _ hr⟩, hle _ _ g0, hP.lift hle, jMc.lift hle hM, hQ, hR⟩
end
section
def EX14_waitForT : List (Nat × Nat) := [(16, 3), (16, 4), (16, 6), (16, 48), (101, 0), (103, 0), (104, 0), (116, 0), (126, 0), (202, 0), (203, 0), (206, 0)]
set_option maxHeartbeats 4000000 in
set_option maxRecDepth 20000 in
theorem uX14_waitForT (l : Launch) (dC : Nat → ClassId) (dI : Nat → Nat → Nat) (ca : Nat → ClassId) (base : Nat) (B : jF) (hB : jBok B) (hAp : jAp (dC, dI)) (hB14 : ∀ n G a H, B 14 n G a H ↔ jOb (dC, dI) 14 11 (F14 n G) a H) (hB16 : ∀ n G a H, B 16 n G a H ↔ jOb (dC, dI) 16 74 (F16 n G) a H) (hB101 : ∀ n G a H, B 101 n G a H ↔ jAr (dC, dI) (ca 1) (fun j z => True) n a H) (hB103 : ∀ n G a H, B 103 n G a H ↔ jAr (dC, dI) (ca 3) (fun j z => (z = 0 ∨ z = 1)) n a H) (hB104 : ∀ n G a H, B 104 n G a H ↔ jAr (dC, dI) (ca 3) (fun j z => (z = 0 ∨ z = 1)) n a H) (hB116 : ∀ n G a H, B 116 n G a H ↔ jAr (dC, dI) (ca 1) (fun j z => True) n a H) (hB126 : ∀ n G a H, B 126 n G a H ↔ jAr (dC, dI) (ca 1) (fun j z => True) n a H) (hB202 : ∀ n G a H, B 202 n G a H ↔ jAq (dC, dI) (ca 4) (jQn 14 0) n G a H) (hB203 : ∀ n G a H, B 203 n G a H ↔ jAr (dC, dI) (ca 1) (fun j z => -3300 ≤ z.toInt ∧ z.toInt ≤ 20) n a H) (hB206 : ∀ n G a H, B 206 n G a H ↔ jAr (dC, dI) (ca 1) (fun j z => 0 ≤ z.toInt ∧ z.toInt ≤ 40) n a H) (G0 : jT) (H0 : Heap) (r0 : Nat) (r1 : Nat) (a2 : Int32) (a3 : Int32) (zs9 : Int32) (zi9 : Int32) (zl9 : Int32) (yi : Nat) (WW : List jwA) (fi : Nat → Int32) : Met l yX14_waitFor (jw yX14_waitFor cX14_waitFor 5 (some .boolean)) ({ frames := 15, cells := 0, slots := 0, locals := 526 }) (va_Pc [.ref r0, .ref r1, .int a2, .int a3] (fun U => U.heap = H0 ∧ jX B base G0 [] H0 ∧ jG dC dI ca base U ∧ jK2 dC dI ca U ∧ G0 r1 = some (14, 0) ∧ G0 r0 = some (16, 0) ∧ (a2 = 0 ∨ a2 = 1) ∧ G0 yi = some (101, 20) ∧ jP (dC, dI) G0 H0 [(r0, 16, 36, .int zs9), (r0, 16, 37, .int zi9), (r0, 16, 39, .int zl9), (r0, 16, 38, .ref yi)] ∧ jMc (dC, dI) G0 H0 [(yi, 101, 20, ca 1, fi)] ∧ jIs (dC, dI) G0 H0 [(jFHw, jHw dC dI ca G0 r0 WW)] ∧ 0 ≤ a3.toInt ∧ a3.toInt ≤ 40 ∧ 0 ≤ zl9.toInt ∧ zl9.toInt ≤ 20 ∧ 0 ≤ zs9.toInt ∧ zs9.toInt ≤ 1)) (va_Qi (S := Int32) (fun r u => (r = 0 ∨ r = 1) ∧ (((r.toInt = 0 ∧ ¬ WW.length < 12) ∨ (r.toInt = 1 ∧ WW.length < 12 ∧ u.toInt = (WW.length : Int) + 1)))) (fun u t => (jRt (dC, dI) B base G0 EX14_waitForT H0 [(r0, 16, 48, .int u)] t.heap) ∧ jIs (dC, dI) G0 t.heap [(jFHw, jHw dC dI ca G0 r0 (jwPw WW (r1, a3.toInt, jwIe zs9.toInt zi9.toInt fi zl9.toInt)))]) (jA base)) 0 0 (jA base) := by
  refine Met.ofW (cc := cX14_waitFor) (maxL := 5) (ret := (some .boolean)) (by decide) rfl ?_
  intro p e s m args below meth c s₁ Bd hml hv
  obtain ⟨rfl, hH0, hX, hG, hK2, hg_r1, hg_r0, hz_a2, hg_yi, hP0, hM0, hI0, hp0, hp1, hp2, hp3, hp4, hp5⟩ := hv
  have hK := hG.1
  have hx := Bd.exec
  have hb := Bd.bytes
  have hr := Bd.returns
  have hts := atoms_spec (ws := (jw yX14_waitFor cX14_waitFor 5 (some .boolean))) Bd.pre
  have htw : ∀ w ∈ jWl, w.before _ s = true := fun w h => hts w (List.mem_cons_of_mem _ h)
  have hown : s.vm.findClass RX14 = some m.cls := findClass_of_methodNamed Bd.named
  have hlocks := Bd.notSynchronized
  obtain ⟨Q, hQ⟩ : ∃ Q, Q = MQ below (va_Qi (S := Int32) (fun r u => (r = 0 ∨ r = 1) ∧ (((r.toInt = 0 ∧ ¬ WW.length < 12) ∨ (r.toInt = 1 ∧ WW.length < 12 ∧ u.toInt = (WW.length : Int) + 1)))) (fun u t => (jRt (dC, dI) B base G0 EX14_waitForT H0 [(r0, 16, 48, .int u)] t.heap) ∧ jIs (dC, dI) G0 t.heap [(jFHw, jHw dC dI ca G0 r0 (jwPw WW (r1, a3.toInt, jwIe zs9.toInt zi9.toInt fi zl9.toInt)))]) (jA base)) ([.ref r0, .ref r1, .int a2, .int a3] : List Value).toArray s 0 0 (jA base) := ⟨_, rfl⟩
  rw [← hQ]
  have hl := lv_entry ([.ref r0, .ref r1, .int a2, .int a3]) (n := 5) (Nat.le_of_ble_eq_true rfl)
  rw [lg_entry_eq]
  generalize (lg_sl ([.ref r0, .ref r1, .int a2, .int a3]) ++ List.replicate (5 - (lg_sl ([.ref r0, .ref r1, .int a2, .int a3])).length) Slot.unset).toArray = ls at hl ⊢
  have hl : lv_has ls 5 [(0, .ref r0), (1, .ref r1), (2, .int a2), (3, .int a3)] := hl
  generalize hR : (headSpec (jw yX14_waitFor cX14_waitFor 5 (some .boolean)) ({ frames := 15, cells := 0, slots := 0, locals := 526 })).room = R
  subst hH0
  have hh : jSt (dC, dI) B base G0 G0 EX14_waitForT s.heap 0 0 [(r0, 16, 36, .int zs9), (r0, 16, 37, .int zi9), (r0, 16, 39, .int zl9), (r0, 16, 38, .ref yi)] [(yi, 101, 20, ca 1, fi)] [(jFHw, jHw dC dI ca G0 r0 WW)] s.heap [] := jSt.start hX hP0 hM0 hI0
  clear hX hP0
  have hkm32600 : ((-32600) : Int32).toInt = (-32600) := by decide
  have hk0 : (0 : Int32).toInt = 0 := by decide
  have hk1 : (1 : Int32).toInt = 1 := by decide
  have hk12 : (12 : Int32).toInt = 12 := by decide
  have hk20 : (20 : Int32).toInt = 20 := by decide
  have hly_16_36 := htw (u_lay RX14 TX14 36) (jWc_wsX140 _ (u_in_lay (by decide)))
  have hly_16_37 := htw (u_lay RX14 TX14 37) (jWc_wsX140 _ (u_in_lay (by decide)))
  have hly_16_38 := htw (u_lay RX14 TX14 38) (jWc_wsX140 _ (u_in_lay (by decide)))
  have hly_16_39 := htw (u_lay RX14 TX14 39) (jWc_wsX140 _ (u_in_lay (by decide)))
  have hly_16_48 := htw (u_lay RX14 TX14 48) (jWc_wsX140 _ (u_in_lay (by decide)))
  have hly_16_49 := htw (u_lay RX14 TX14 49) (jWc_wsX140 _ (u_in_lay (by decide)))
  have hly_16_50 := htw (u_lay RX14 TX14 50) (jWc_wsX140 _ (u_in_lay (by decide)))
  have hly_16_51 := htw (u_lay RX14 TX14 51) (jWc_wsX140 _ (u_in_lay (by decide)))
  have hly_16_52 := htw (u_lay RX14 TX14 52) (jWc_wsX140 _ (u_in_lay (by decide)))
  have hly_16_53 := htw (u_lay RX14 TX14 53) (jWc_wsX140 _ (u_in_lay (by decide)))
  have hly_16_54 := htw (u_lay RX14 TX14 54) (jWc_wsX140 _ (u_in_lay (by decide)))
  have hly_16_55 := htw (u_lay RX14 TX14 55) (jWc_wsX140 _ (u_in_lay (by decide)))
  have hlk_711 := (htw (.fieldLink RX14 711 "ProofServerModel" "waits" "I") (jWr_58 _ (List.mem_of_getElem? (i := 11) rfl)))
  have hlk_91 := (htw (.fieldLink RX14 91 "ProofServerModel" "waitOf" "[LProofServerModel$Document;") (jWr_12 _ (List.mem_of_getElem? (i := 0) rfl)))
  have hlk_94 := (htw (.fieldLink RX14 94 "ProofServerModel" "waitGoals" "[Z") (jWr_12 _ (List.mem_of_getElem? (i := 1) rfl)))
  have hlk_97 := (htw (.fieldLink RX14 97 "ProofServerModel" "waitNeed" "[I") (jWr_12 _ (List.mem_of_getElem? (i := 2) rfl)))
  have hlk_100 := (htw (.fieldLink RX14 100 "ProofServerModel" "waitString" "[Z") (jWr_12 _ (List.mem_of_getElem? (i := 3) rfl)))
  have hlk_377 := (htw (.fieldLink RX14 377 "ProofServerModel" "idString" "Z") (jWr_53 _ (List.mem_of_getElem? (i := 19) rfl)))
  have hlk_103 := (htw (.fieldLink RX14 103 "ProofServerModel" "waitInt" "[I") (jWr_12 _ (List.mem_of_getElem? (i := 4) rfl)))
  have hlk_380 := (htw (.fieldLink RX14 380 "ProofServerModel" "idInt" "I") (jWr_53 _ (List.mem_of_getElem? (i := 21) rfl)))
  have hlk_109 := (htw (.fieldLink RX14 109 "ProofServerModel" "waitLength" "[I") (jWr_12 _ (List.mem_of_getElem? (i := 6) rfl)))
  have hlk_383 := (htw (.fieldLink RX14 383 "ProofServerModel" "idLength" "I") (jWr_53 _ (List.mem_of_getElem? (i := 20) rfl)))
  have hlk_106 := (htw (.fieldLink RX14 106 "ProofServerModel" "waitUnits" "[I") (jWr_12 _ (List.mem_of_getElem? (i := 5) rfl)))
  have hlk_68 := (htw (.fieldLink RX14 68 "ProofServerModel" "idUnits" "[I") (jWr_11 _ (List.mem_of_getElem? (i := 15) rfl)))
  have hrg_a2 := jb_rng a2
  have hrg_a3 := jb_rng a3
  obtain ⟨ywd_1, yws_1, ywi_1, ywu_1, ywe_1, ywo_1, wn_1, wd_1, ws_1, wi_1, wu_1, we_1, wo_1, -, ⟨hgwd_1, hgws_1, hgwi_1, hgwu_1, hgwe_1, hgwo_1⟩, hoP_1, hoM_1, hqwo_1, hoR_1⟩ := hh.iv 0 rfl
  have hh_2 := ((hh.sub (L1 := [(r0, 16, 36, .int zs9), (r0, 16, 37, .int zi9), (r0, 16, 39, .int zl9), (r0, 16, 38, .ref yi)]) [0, 1, 2, 3] rfl (M1 := [(yi, 101, 20, ca 1, fi)]) [0] rfl (I1 := []) [] rfl).more hoP_1).moreM hoM_1
  clear hh
  have hh_3 := hh_2.addI (jQc.ie hqwo_1 hgwo_1 (by decide) (by decide))
  clear hh_2
  have hwl9 := hoR_1
  have hwb9 := And.intro hoR_1.1 hoR_1.2.1
  refine lv_aload_n hx hb dX14_waitFor_0 rfl (lv_at hl 0 rfl) ?_
  refine j7_read hx hb hown hK (C := RX14) (T := TX14) (N := 74) rfl hly_16_48 hlk_711 (hh_3.at 6 rfl) dX14_waitFor_1 ?_
  refine lv_bipush (v := 12) hx hb dX14_waitFor_4 (by decide) ?_
  refine lv_icmp_ne (tgt := 18) hx hb dX14_waitFor_6 (by decide) (fun c_4 => ?_) (fun c_4 => ?_)
  · skip
    have c_4' : wn_1.toInt ≠ 12 := jb_ne (rfl) ((by decide)) c_4
    refine lv_aload_n hx hb dX14_waitFor_18 rfl (lv_at hl 0 rfl) ?_
    refine j7_read hx hb hown hK (C := RX14) (T := TX14) (N := 74) rfl hly_16_49 hlk_91 (hh_3.at 5 rfl) dX14_waitFor_19 ?_
    refine lv_aload_n hx hb dX14_waitFor_22 rfl (lv_at hl 0 rfl) ?_
    refine j7_read hx hb hown hK (C := RX14) (T := TX14) (N := 74) rfl hly_16_48 hlk_711 (hh_3.at 6 rfl) dX14_waitFor_23 ?_
    refine lv_aload_n hx hb dX14_waitFor_26 rfl (lv_at hl 1 rfl) ?_
    have hd_6 := hh_3.iv 0 rfl
    have hh_8 := hh_3.sub (L1 := [(r0, 16, 51, .ref ywd_1), (r0, 16, 52, .ref yws_1), (r0, 16, 53, .ref ywi_1), (r0, 16, 54, .ref ywu_1), (r0, 16, 55, .ref ywe_1), (r0, 16, 49, .ref ywo_1), (r0, 16, 48, .int wn_1), (r0, 16, 36, .int zs9), (r0, 16, 37, .int zi9), (r0, 16, 39, .int zl9), (r0, 16, 38, .ref yi)]) [0, 1, 2, 3, 4, 5, 6, 7, 8, 9, 10] rfl (M1 := [(ywd_1, 206, 12, ca 1, wd_1), (yws_1, 104, 12, ca 3, ws_1), (ywi_1, 116, 12, ca 1, wi_1), (ywu_1, 126, 240, ca 1, wu_1), (ywe_1, 203, 12, ca 1, we_1), (yi, 101, 20, ca 1, fi)]) [0, 1, 2, 3, 4, 5] rfl (I1 := []) [] rfl
    clear hh_3
    refine j7_qastI hx hb hK2 hh_8 hB hB202 0 rfl (by decide) (by decide) rfl rfl rfl hgwo_1 (x := wn_1.toInt) (rfl) (by omega) hB14 (T := TX12) (N := 11) rfl (by decide) hg_r1 (Or.inr ⟨_, rfl, hg_r1⟩) hd_6 dX14_waitFor_27 (fun H_5 locs_5 fq_7 hv_5 ho_5 hq_5 hh_5 => ?_)
    clear hh_8
    have hh_9 := hh_5.addI (hq_5.ie hgwo_1 (by decide) (by decide))
    clear hh_5
    clear hd_6
    refine lv_aload_n hx hb dX14_waitFor_28 rfl (lv_at hl 0 rfl) ?_
    obtain ⟨v_10, hv_10, hh_11⟩ := hh_9.pin (C := RX14) (T := TX14) (N := 74) hB16 rfl (by decide) hg_r0 (i := 50) (by decide) rfl
    clear hh_9
    obtain ⟨waitGoals_12, rfl, hg_waitGoals_12⟩ := hv_10
    refine j7_read hx hb hown hK (C := RX14) (T := TX14) (N := 74) rfl hly_16_50 hlk_94 (hh_11.at 0 rfl) dX14_waitFor_29 ?_
    refine lv_aload_n hx hb dX14_waitFor_32 rfl (lv_at hl 0 rfl) ?_
    refine j7_read hx hb hown hK (C := RX14) (T := TX14) (N := 74) rfl hly_16_48 hlk_711 (hh_11.at 7 rfl) dX14_waitFor_33 ?_
    refine lv_iload_n hx hb dX14_waitFor_36 rfl (lv_at hl 2 rfl) ?_
    refine j7_zast hx hb hK hh_11 hB hB103 3 rfl (by decide) (by decide) rfl rfl rfl hg_waitGoals_12 (x := wn_1.toInt) (rfl) (by omega) (hz_a2) (hz_a2) dX14_waitFor_37 (fun H_13 locs_13 hh_13 => ?_)
    clear hh_11
    refine lv_aload_n hx hb dX14_waitFor_38 rfl (lv_at hl 0 rfl) ?_
    refine j7_read hx hb hown hK (C := RX14) (T := TX14) (N := 74) rfl hly_16_51 hlk_97 (hh_13.at 1 rfl) dX14_waitFor_39 ?_
    refine lv_aload_n hx hb dX14_waitFor_42 rfl (lv_at hl 0 rfl) ?_
    refine j7_read hx hb hown hK (C := RX14) (T := TX14) (N := 74) rfl hly_16_48 hlk_711 (hh_13.at 7 rfl) dX14_waitFor_43 ?_
    refine lv_iload_n hx hb dX14_waitFor_46 rfl (lv_at hl 3 rfl) ?_
    refine j7_iastU hx hb hK hh_13 hB hB206 1 rfl (by decide) (by decide) rfl 0 rfl (M1 := [(yws_1, 104, 12, ca 3, ws_1), (ywi_1, 116, 12, ca 1, wi_1), (ywu_1, 126, 240, ca 1, wu_1), (ywe_1, 203, 12, ca 1, we_1), (yi, 101, 20, ca 1, fi)]) [1, 2, 3, 4, 5] rfl rfl rfl hgwd_1 (x := wn_1.toInt) (rfl) (by omega) (by first | omega | (refine ⟨?_, ?_⟩ <;> (first | omega | rfl | assumption | decide | exact Or.inl rfl | exact Or.inr rfl | (simp only; omega)))) dX14_waitFor_47 (fun H_14 locs_14 fs_15 hv_14 ho_14 hh_14 => ?_)
    have hv_14 : jSo fs_15 (wn_1.toInt) = a3.toInt := by unfold jSo; rw [hv_14]; try exact rfl
    clear hh_13
    refine lv_aload_n hx hb dX14_waitFor_48 rfl (lv_at hl 0 rfl) ?_
    refine j7_read hx hb hown hK (C := RX14) (T := TX14) (N := 74) rfl hly_16_52 hlk_100 (hh_14.at 2 rfl) dX14_waitFor_49 ?_
    refine lv_aload_n hx hb dX14_waitFor_52 rfl (lv_at hl 0 rfl) ?_
    refine j7_read hx hb hown hK (C := RX14) (T := TX14) (N := 74) rfl hly_16_48 hlk_711 (hh_14.at 7 rfl) dX14_waitFor_53 ?_
    refine lv_aload_n hx hb dX14_waitFor_56 rfl (lv_at hl 0 rfl) ?_
    refine j7_read hx hb hown hK (C := RX14) (T := TX14) (N := 74) rfl hly_16_36 hlk_377 (hh_14.at 8 rfl) dX14_waitFor_57 ?_
    refine j7_zastU hx hb hK hh_14 hB hB104 3 rfl (by decide) (by decide) rfl 1 rfl (M1 := [(ywd_1, 206, 12, ca 1, fs_15), (ywi_1, 116, 12, ca 1, wi_1), (ywu_1, 126, 240, ca 1, wu_1), (ywe_1, 203, 12, ca 1, we_1), (yi, 101, 20, ca 1, fi)]) [0, 2, 3, 4, 5] rfl rfl rfl hgws_1 (x := wn_1.toInt) (rfl) (by omega) (jw01 (by omega) (by omega)) (jw01 (by omega) (by omega)) dX14_waitFor_60 (fun H_16 locs_16 fs_17 hv_16 ho_16 hh_16 => ?_)
    have hv_16 : jSo fs_17 (wn_1.toInt) = (zs9 : Int32).toInt := by unfold jSo; rw [hv_16]
    clear hh_14
    refine lv_aload_n hx hb dX14_waitFor_61 rfl (lv_at hl 0 rfl) ?_
    refine j7_read hx hb hown hK (C := RX14) (T := TX14) (N := 74) rfl hly_16_53 hlk_103 (hh_16.at 3 rfl) dX14_waitFor_62 ?_
    refine lv_aload_n hx hb dX14_waitFor_65 rfl (lv_at hl 0 rfl) ?_
    refine j7_read hx hb hown hK (C := RX14) (T := TX14) (N := 74) rfl hly_16_48 hlk_711 (hh_16.at 7 rfl) dX14_waitFor_66 ?_
    refine lv_aload_n hx hb dX14_waitFor_69 rfl (lv_at hl 0 rfl) ?_
    refine j7_read hx hb hown hK (C := RX14) (T := TX14) (N := 74) rfl hly_16_37 hlk_380 (hh_16.at 9 rfl) dX14_waitFor_70 ?_
    refine j7_iastU hx hb hK hh_16 hB hB116 1 rfl (by decide) (by decide) rfl 2 rfl (M1 := [(yws_1, 104, 12, ca 3, fs_17), (ywd_1, 206, 12, ca 1, fs_15), (ywu_1, 126, 240, ca 1, wu_1), (ywe_1, 203, 12, ca 1, we_1), (yi, 101, 20, ca 1, fi)]) [0, 1, 3, 4, 5] rfl rfl rfl hgwi_1 (x := wn_1.toInt) (rfl) (by omega) (trivial) dX14_waitFor_73 (fun H_18 locs_18 fs_19 hv_18 ho_18 hh_18 => ?_)
    have hv_18 : jSo fs_19 (wn_1.toInt) = zi9.toInt := by unfold jSo; rw [hv_18]; try exact rfl
    clear hh_16
    refine lv_aload_n hx hb dX14_waitFor_74 rfl (lv_at hl 0 rfl) ?_
    refine j7_read hx hb hown hK (C := RX14) (T := TX14) (N := 74) rfl hly_16_55 hlk_109 (hh_18.at 5 rfl) dX14_waitFor_75 ?_
    refine lv_aload_n hx hb dX14_waitFor_78 rfl (lv_at hl 0 rfl) ?_
    refine j7_read hx hb hown hK (C := RX14) (T := TX14) (N := 74) rfl hly_16_48 hlk_711 (hh_18.at 7 rfl) dX14_waitFor_79 ?_
    refine lv_aload_n hx hb dX14_waitFor_82 rfl (lv_at hl 0 rfl) ?_
    refine j7_read hx hb hown hK (C := RX14) (T := TX14) (N := 74) rfl hly_16_39 hlk_383 (hh_18.at 10 rfl) dX14_waitFor_83 ?_
    refine j7_iastU hx hb hK hh_18 hB hB203 1 rfl (by decide) (by decide) rfl 4 rfl (M1 := [(ywi_1, 116, 12, ca 1, fs_19), (yws_1, 104, 12, ca 3, fs_17), (ywd_1, 206, 12, ca 1, fs_15), (ywu_1, 126, 240, ca 1, wu_1), (yi, 101, 20, ca 1, fi)]) [0, 1, 2, 3, 5] rfl rfl rfl hgwe_1 (x := wn_1.toInt) (rfl) (by omega) (by first | omega | (refine ⟨?_, ?_⟩ <;> (first | omega | rfl | assumption | decide | exact Or.inl rfl | exact Or.inr rfl | (simp only; omega)))) dX14_waitFor_86 (fun H_20 locs_20 fs_21 hv_20 ho_20 hh_20 => ?_)
    have hv_20 : jSo fs_21 (wn_1.toInt) = zl9.toInt := by unfold jSo; rw [hv_20]; try exact rfl
    clear hh_18
    refine lv_iconst (v := 0) hx hb dX14_waitFor_87 (by decide) ?_
    refine lv_istore (lv' := [(4, .int 0), (0, .ref r0), (1, .ref r1), (2, .int a2), (3, .int a3)]) hx hb dX14_waitFor_88 hl (by decide) rfl (fun ls hl => ?_)
    have L90 : ∀ (N : Nat) (v4_22 : Int32) (wux_22 : Nat → Int32) (H_22 : Heap) (locs_22 : List Loc), jSt (dC, dI) B base G0 G0 EX14_waitForT s.heap 0 0 [(r0, 16, 50, .ref waitGoals_12), (r0, 16, 51, .ref ywd_1), (r0, 16, 52, .ref yws_1), (r0, 16, 53, .ref ywi_1), (r0, 16, 54, .ref ywu_1), (r0, 16, 55, .ref ywe_1), (r0, 16, 49, .ref ywo_1), (r0, 16, 48, .int wn_1), (r0, 16, 36, .int zs9), (r0, 16, 37, .int zi9), (r0, 16, 39, .int zl9), (r0, 16, 38, .ref yi)] [(ywu_1, 126, 240, ca 1, wux_22), (ywe_1, 203, 12, ca 1, fs_21), (ywi_1, 116, 12, ca 1, fs_19), (yws_1, 104, 12, ca 3, fs_17), (ywd_1, 206, 12, ca 1, fs_15), (yi, 101, 20, ca 1, fi)] [([(202, 0)], jQc dC dI (ca 4) ywo_1 12 fq_7)] H_22 locs_22 → (0 ≤ v4_22.toInt ∧ v4_22.toInt ≤ zl9.toInt ∧ jwUq wu_1 wux_22 fi wn_1.toInt v4_22.toInt) → (20 - v4_22.toInt : Int) < N → ∀ ls : Array Slot, lv_has ls 5 [(0, .ref r0), (1, .ref r1), (2, .int a2), (3, .int a3), (4, .int v4_22)] → W p l e R s m ([.ref r0, .ref r1, .int a2, .int a3] : List Value).toArray below meth c H_22 locs_22 0 0 Q (F0 m 90 ls []) := by
      intro N
      induction N with
      | zero => intro v4_22 wux_22 H_22 locs_22 hh_22  hi_22 hm; exact absurd hm (by omega)
      | succ N L90 =>
        intro v4_22 wux_22 H_22 locs_22 hh_22  hi_22 hm_22 ls hl
        obtain ⟨hi_22_0, hi_22_1, hi_22_2⟩ := hi_22
        refine lv_iload hx hb dX14_waitFor_90 (lv_at hl 4 rfl) ?_
        refine lv_aload_n hx hb dX14_waitFor_92 rfl (lv_at hl 0 rfl) ?_
        refine j7_read hx hb hown hK (C := RX14) (T := TX14) (N := 74) rfl hly_16_39 hlk_383 (hh_22.at 10 rfl) dX14_waitFor_93 ?_
        refine lv_icmp_ge (tgt := 127) hx hb dX14_waitFor_96 (by decide) (fun c_23 => ?_) (fun c_23 => ?_)
        · skip
          have c_23' : v4_22.toInt ≥ zl9.toInt := jb_ge (rfl) (rfl) c_23
          refine lv_aload_n hx hb dX14_waitFor_127 rfl (lv_at hl 0 rfl) ?_
          refine lv_dup hx hb dX14_waitFor_128 rfl ?_
          refine j7_read hx hb hown hK (C := RX14) (T := TX14) (N := 74) rfl hly_16_48 hlk_711 (hh_22.at 7 rfl) dX14_waitFor_129 ?_
          refine lv_iconst (v := 1) hx hb dX14_waitFor_132 (by decide) ?_
          refine lv_iadd hx hb dX14_waitFor_133 ?_
          refine lv_topi (fun z_24 ez_24 => ?_)
          have hz_24 : z_24.toInt = wn_1.toInt + 1 := by rw [ez_24]; exact jb_iadd2 (rfl) ((by decide)) (by omega)
          refine j7_put hx hb hown hK hh_22 hB hAp hB16 (C := RX14) (T := TX14) (N := 74) rfl (by decide) hg_r0 (i := 48) (by decide) hly_16_48 rfl hlk_711 rfl (ty := .int) (v := .int z_24) (by decide +kernel) rfl rfl (⟨_, rfl, by omega, by omega⟩) rfl (L1 := [(r0, 16, 50, .ref waitGoals_12), (r0, 16, 51, .ref ywd_1), (r0, 16, 52, .ref yws_1), (r0, 16, 53, .ref ywi_1), (r0, 16, 54, .ref ywu_1), (r0, 16, 55, .ref ywe_1), (r0, 16, 49, .ref ywo_1), (r0, 16, 36, .int zs9), (r0, 16, 37, .int zi9), (r0, 16, 39, .int zl9), (r0, 16, 38, .ref yi)]) [0, 1, 2, 3, 4, 5, 6, 8, 9, 10, 11] rfl rfl rfl dX14_waitFor_134 (fun H_25 locs_25 hh_25 => ?_)
          clear hh_22
          refine lv_iconst (v := 1) hx hb dX14_waitFor_137 (by decide) ?_
          have hHf_26 : jHw dC dI ca G0 r0 (jwPw WW (r1, a3.toInt, jwIe zs9.toInt zi9.toInt fi zl9.toInt)) H_25 := ⟨ywd_1, yws_1, ywi_1, ywu_1, ywe_1, ywo_1, z_24, fs_15, fs_17, fs_19, wux_22, fs_21, fq_7, ⟨_, hg_r0⟩, ⟨hgwd_1, hgws_1, hgwi_1, hgwu_1, hgwe_1, hgwo_1⟩, hh_25.2.2.1.sub (L1 := [(r0, 16, 51, .ref ywd_1), (r0, 16, 52, .ref yws_1), (r0, 16, 53, .ref ywi_1), (r0, 16, 54, .ref ywu_1), (r0, 16, 55, .ref ywe_1), (r0, 16, 49, .ref ywo_1), (r0, 16, 48, .int z_24)]) [2, 3, 4, 5, 6, 7, 0] rfl, hh_25.2.2.2.2.2.2.2.1.sub (L1 := [(ywd_1, 206, 12, ca 1, fs_15), (yws_1, 104, 12, ca 3, fs_17), (ywi_1, 116, 12, ca 1, fs_19), (ywu_1, 126, 240, ca 1, wux_22), (ywe_1, 203, 12, ca 1, fs_21)]) [4, 3, 2, 0, 1] rfl, hh_25.iv 0 rfl, by rw [jwPw.y (by omega)]; exact hwl9.psh (zl := zl9.toInt) (by omega) (by omega) hv_5 rfl ho_5 (jUpd.mk (n := 12) hv_14 ho_14 rfl (by omega)) (jUpd.mk (n := 12) hv_16 ho_16 rfl (by omega)) (jUpd.mk (n := 12) hv_18 ho_18 rfl (by omega)) (jUpd.mk (n := 12) hv_20 ho_20 rfl (by omega)) (by rw [show zl9.toInt = v4_22.toInt by omega]; exact hi_22_2) (fun _ => ⟨by omega, by omega⟩) (by omega)⟩
          have hh_27 := hh_25.sub (L1 := [(r0, 16, 48, .int z_24), (r0, 16, 50, .ref waitGoals_12), (r0, 16, 51, .ref ywd_1), (r0, 16, 52, .ref yws_1), (r0, 16, 53, .ref ywi_1), (r0, 16, 54, .ref ywu_1), (r0, 16, 55, .ref ywe_1), (r0, 16, 49, .ref ywo_1), (r0, 16, 36, .int zs9), (r0, 16, 37, .int zi9), (r0, 16, 39, .int zl9), (r0, 16, 38, .ref yi)]) [0, 1, 2, 3, 4, 5, 6, 7, 8, 9, 10, 11] rfl (M1 := [(ywu_1, 126, 240, ca 1, wux_22), (ywe_1, 203, 12, ca 1, fs_21), (ywi_1, 116, 12, ca 1, fs_19), (yws_1, 104, 12, ca 3, fs_17), (ywd_1, 206, 12, ca 1, fs_15), (yi, 101, 20, ca 1, fi)]) [0, 1, 2, 3, 4, 5] rfl (I1 := []) [] rfl
          clear hh_25
          have hh_28 := hh_27.addI (jHw.ie hHf_26)
          clear hh_27
          rw [hQ]
          exact W.zret (v := 1) hx hb hr (jb_nz (Or.inr rfl)) (fun t ht hW => ⟨⟨1, z_24, rfl, ⟨(Or.inr rfl), by (try dsimp only); skip; (try dsimp only); exact Or.inr ⟨hk1, by omega, by omega⟩⟩, ⟨hh_28.rt (M1 := [(r0, 16, 48, .int z_24)]) [0] rfl ht, by rw [ht]; exact hh_28.2.2.2.2.2.2.2.2.sub (L1 := [(jFHw, jHw dC dI ca G0 r0 (jwPw WW (r1, a3.toInt, jwIe zs9.toInt zi9.toInt fi zl9.toInt)))]) [0] rfl⟩⟩, by rw [ht]; try exact hh_28.1.1, fun q h9 hq => by rw [ht]; try exact hh_28.1.2.1 q h9 hq⟩) hh_28.1.2.2 dX14_waitFor_138
        · skip
          have c_23' : v4_22.toInt < zl9.toInt := jb_ge_n (rfl) (rfl) c_23
          refine lv_aload_n hx hb dX14_waitFor_99 rfl (lv_at hl 0 rfl) ?_
          refine j7_read hx hb hown hK (C := RX14) (T := TX14) (N := 74) rfl hly_16_54 hlk_106 (hh_22.at 4 rfl) dX14_waitFor_100 ?_
          refine lv_bipush (v := 20) hx hb dX14_waitFor_103 (by decide) ?_
          refine lv_aload_n hx hb dX14_waitFor_105 rfl (lv_at hl 0 rfl) ?_
          refine j7_read hx hb hown hK (C := RX14) (T := TX14) (N := 74) rfl hly_16_48 hlk_711 (hh_22.at 7 rfl) dX14_waitFor_106 ?_
          refine lv_imul hx hb dX14_waitFor_109 ?_
          refine lv_topi (fun z_29 ez_29 => ?_)
          have hz_29 : z_29.toInt = 20 * wn_1.toInt := by rw [ez_29]; exact jb_imul2 ((by decide)) (rfl) (by omega)
          refine lv_iload hx hb dX14_waitFor_110 (lv_at hl 4 rfl) ?_
          refine lv_iadd hx hb dX14_waitFor_112 ?_
          refine lv_topi (fun z_30 ez_30 => ?_)
          have hz_30 : z_30.toInt = z_29.toInt + v4_22.toInt := by rw [ez_30]; exact jb_iadd2 (rfl) (rfl) (by omega)
          refine lv_aload_n hx hb dX14_waitFor_113 rfl (lv_at hl 0 rfl) ?_
          refine j7_read hx hb hown hK (C := RX14) (T := TX14) (N := 74) rfl hly_16_38 hlk_68 (hh_22.at 11 rfl) dX14_waitFor_114 ?_
          refine lv_iload hx hb dX14_waitFor_117 (lv_at hl 4 rfl) ?_
          refine j7_ialdM hx hb hK hh_22 hB101 1 rfl (by decide) hg_yi (x := v4_22.toInt) (rfl) (by omega) (j := 5) rfl dX14_waitFor_119 (fun z_31 ez_31 (hz_31 : True) => ?_)
          have hqz_31 : z_31.toInt = jSo fi (v4_22.toInt) := by unfold jSo; rw [ez_31]
          refine j7_iastU hx hb hK hh_22 hB hB126 1 rfl (by decide) (by decide) rfl 0 rfl (M1 := [(ywe_1, 203, 12, ca 1, fs_21), (ywi_1, 116, 12, ca 1, fs_19), (yws_1, 104, 12, ca 3, fs_17), (ywd_1, 206, 12, ca 1, fs_15), (yi, 101, 20, ca 1, fi)]) [1, 2, 3, 4, 5] rfl rfl rfl hgwu_1 (x := z_30.toInt) (rfl) (by omega) (trivial) dX14_waitFor_120 (fun H_32 locs_32 fs_33 hv_32 ho_32 hh_32 => ?_)
          have hv_32 : jSo fs_33 (z_30.toInt) = z_31.toInt := by unfold jSo; rw [hv_32]; try exact rfl
          rw [show z_30.toInt = ((20 * wn_1.toInt) + v4_22.toInt) by omega] at hv_32 ho_32
          clear hh_22
          obtain ⟨z_34, ez_34⟩ : ∃ y : Int32, y = v4_22 + 1 := ⟨_, rfl⟩
          refine lv_iinc (v := z_34) (lv' := [(4, .int z_34), (0, .ref r0), (1, .ref r1), (2, .int a2), (3, .int a3)]) hx hb dX14_waitFor_121 hl (k := 4) rfl (by rw [ez_34]; rfl) (by decide) rfl (fun ls hl => ?_)
          have hz_34 : z_34.toInt = v4_22.toInt + 1 := by rw [ez_34]; exact jb_iadd2 (rfl) (by decide) (by omega)
          refine lv_goto (tgt := 90) hx hb dX14_waitFor_124 (by decide) ?_
          exact L90 z_34 fs_33 _ _ hh_32 (⟨by omega, by omega, hi_22_2.s (jUpd.mk (n := 240) hv_32 ho_32 rfl (by omega)) (by omega) (by rw [hqz_31]) (by omega) (by omega) (by omega) (by omega) (by omega)⟩) (by omega) _ (lv_sub hl [1, 2, 3, 4, 0] rfl)
    exact L90 (20 - (0 : Int32).toInt : Int).toNat.succ 0 wu_1 _ _ (hh_20.sub (L1 := [(r0, 16, 50, .ref waitGoals_12), (r0, 16, 51, .ref ywd_1), (r0, 16, 52, .ref yws_1), (r0, 16, 53, .ref ywi_1), (r0, 16, 54, .ref ywu_1), (r0, 16, 55, .ref ywe_1), (r0, 16, 49, .ref ywo_1), (r0, 16, 48, .int wn_1), (r0, 16, 36, .int zs9), (r0, 16, 37, .int zi9), (r0, 16, 39, .int zl9), (r0, 16, 38, .ref yi)]) [0, 1, 2, 3, 4, 5, 6, 7, 8, 9, 10, 11] rfl (M1 := [(ywu_1, 126, 240, ca 1, wu_1), (ywe_1, 203, 12, ca 1, fs_21), (ywi_1, 116, 12, ca 1, fs_19), (yws_1, 104, 12, ca 3, fs_17), (ywd_1, 206, 12, ca 1, fs_15), (yi, 101, 20, ca 1, fi)]) [4, 0, 1, 2, 3, 5] rfl (I1 := [([(202, 0)], jQc dC dI (ca 4) ywo_1 12 fq_7)]) [0] rfl) (⟨by omega, by omega, jwUq.st (by omega)⟩) (by omega) _ (lv_sub hl [1, 2, 3, 4, 0] rfl)
  · skip
    have c_4' : wn_1.toInt = 12 := jb_ne_n (rfl) ((by decide)) c_4
    refine lv_aload_n hx hb dX14_waitFor_9 rfl (lv_at hl 0 rfl) ?_
    refine lv_sipush (v := (-32600)) hx hb dX14_waitFor_10 (by decide) ?_
    refine va_callv (A0 := jA base) (H0 := s.heap) (va_runV (As := [.int (-32600)]) (rest := []) ⟨hx, hb, hml, hown, hts⟩ (uX14_error l dC dI ca base B hB hAp hB16 hB101 G0 s.heap r0 (-32600)) (cwV 1 hts (jgV (jWr_53 _ (List.mem_of_getElem? (i := 9) rfl)) (jWr_53 _ (List.mem_of_getElem? (i := 10) rfl)) (jWr_53 _ (List.mem_of_getElem? (i := 11) rfl)) (jWr_1 _ (List.mem_of_getElem? (i := 5) rfl)) (jWr_53 _ (List.mem_of_getElem? (i := 12) rfl))) rfl rfl rfl (by decide +kernel) ⟨by rw [← hR]; exact Nat.le_of_ble_eq_true rfl, by rw [← hR]; exact Nat.le_of_ble_eq_true rfl⟩) ⟨fun a U g mk q => by obtain ⟨q0, q1, q2, qK, q10, q11, q12⟩ := q; exact ⟨q0, q1, q2, jG.calling g mk a qK, q10, q11, q12⟩, hh_3.recv (C := RX14) (T := TX14) (N := 74) hB16 rfl (by decide) hg_r0 hK, fun U hU hW => ⟨rfl, hU, hh_3.2.1, hG.step hW hU hh_3.1, hg_r0, jP.nil, trivial⟩⟩ rfl rfl hl.1 rfl (lv_room (Nat.le_of_ble_eq_true rfl)) dX14_waitFor_13 ⟨Nat.zero_le _, Nat.zero_le _⟩) hh_3.1 (fun q _ h => h) (fun q h => h) (fun u_35 t_35 H_35 locs_35 ht_35 hvm_35 hr_36 hb_35 hz_35 hk_35 hS_35 => ?_)
    rw [ht_35] at hb_35
    obtain ⟨hb_351, hb_352, hb_353, hb_354, hb_355⟩ := hb_35
    have hh_35 : jSt (dC, dI) B base G0 G0 EX14_waitForT s.heap 0 0 [(r0, 16, 51, .ref ywd_1), (r0, 16, 52, .ref yws_1), (r0, 16, 53, .ref ywi_1), (r0, 16, 54, .ref ywu_1), (r0, 16, 55, .ref ywe_1), (r0, 16, 49, .ref ywo_1), (r0, 16, 48, .int wn_1), (r0, 16, 36, .int zs9), (r0, 16, 37, .int zi9), (r0, 16, 39, .int zl9), (r0, 16, 38, .ref yi)] [(ywd_1, 206, 12, ca 1, wd_1), (yws_1, 104, 12, ca 3, ws_1), (ywi_1, 116, 12, ca 1, wi_1), (ywu_1, 126, 240, ca 1, wu_1), (ywe_1, 203, 12, ca 1, we_1)] [([(202, 0)], jQc dC dI (ca 4) ywo_1 12 wo_1)] H_35 locs_35 := ((hh_3.call hb_351 hb_352 hb_353 hb_354 hS_35 rfl (L1 := [(r0, 16, 51, .ref ywd_1), (r0, 16, 52, .ref yws_1), (r0, 16, 53, .ref ywi_1), (r0, 16, 54, .ref ywu_1), (r0, 16, 55, .ref ywe_1), (r0, 16, 49, .ref ywo_1), (r0, 16, 48, .int wn_1), (r0, 16, 36, .int zs9), (r0, 16, 37, .int zi9), (r0, 16, 39, .int zl9), (r0, 16, 38, .ref yi)]) [0, 1, 2, 3, 4, 5, 6, 7, 8, 9, 10] rfl rfl (M1 := [(ywd_1, 206, 12, ca 1, wd_1), (yws_1, 104, 12, ca 3, ws_1), (ywi_1, 116, 12, ca 1, wi_1), (ywu_1, 126, 240, ca 1, wu_1), (ywe_1, 203, 12, ca 1, we_1)]) [0, 1, 2, 3, 4] rfl rfl (I1 := [([(202, 0)], jQc dC dI (ca 4) ywo_1 12 wo_1)]) [0] rfl rfl).more hb_355)
    clear hh_3 ht_35 hvm_35 hz_35 hk_35 hS_35 hb_351 hb_352 hb_353 hb_354 hb_355
    refine lv_iconst (v := 0) hx hb dX14_waitFor_16 (by decide) ?_
    have hHf_37 : jHw dC dI ca G0 r0 (jwPw WW (r1, a3.toInt, jwIe zs9.toInt zi9.toInt fi zl9.toInt)) H_35 := ⟨ywd_1, yws_1, ywi_1, ywu_1, ywe_1, ywo_1, wn_1, wd_1, ws_1, wi_1, wu_1, we_1, wo_1, ⟨_, hg_r0⟩, ⟨hgwd_1, hgws_1, hgwi_1, hgwu_1, hgwe_1, hgwo_1⟩, hh_35.2.2.1.sub (L1 := [(r0, 16, 51, .ref ywd_1), (r0, 16, 52, .ref yws_1), (r0, 16, 53, .ref ywi_1), (r0, 16, 54, .ref ywu_1), (r0, 16, 55, .ref ywe_1), (r0, 16, 49, .ref ywo_1), (r0, 16, 48, .int wn_1)]) [0, 1, 2, 3, 4, 5, 6] rfl, hh_35.2.2.2.2.2.2.2.1.sub (L1 := [(ywd_1, 206, 12, ca 1, wd_1), (yws_1, 104, 12, ca 3, ws_1), (ywi_1, 116, 12, ca 1, wi_1), (ywu_1, 126, 240, ca 1, wu_1), (ywe_1, 203, 12, ca 1, we_1)]) [0, 1, 2, 3, 4] rfl, hh_35.iv 0 rfl, by rw [jwPw.n (by omega)]; exact hwl9⟩
    have hh_38 := hh_35.sub (L1 := [(r0, 16, 51, .ref ywd_1), (r0, 16, 52, .ref yws_1), (r0, 16, 53, .ref ywi_1), (r0, 16, 54, .ref ywu_1), (r0, 16, 55, .ref ywe_1), (r0, 16, 49, .ref ywo_1), (r0, 16, 48, .int wn_1), (r0, 16, 36, .int zs9), (r0, 16, 37, .int zi9), (r0, 16, 39, .int zl9), (r0, 16, 38, .ref yi)]) [0, 1, 2, 3, 4, 5, 6, 7, 8, 9, 10] rfl (M1 := [(ywd_1, 206, 12, ca 1, wd_1), (yws_1, 104, 12, ca 3, ws_1), (ywi_1, 116, 12, ca 1, wi_1), (ywu_1, 126, 240, ca 1, wu_1), (ywe_1, 203, 12, ca 1, we_1)]) [0, 1, 2, 3, 4] rfl (I1 := []) [] rfl
    clear hh_35
    have hh_39 := hh_38.addI (jHw.ie hHf_37)
    clear hh_38
    rw [hQ]
    exact W.zret (v := 0) hx hb hr (jb_nz (Or.inl rfl)) (fun t ht hW => ⟨⟨0, wn_1, rfl, ⟨(Or.inl rfl), by (try dsimp only); skip; (try dsimp only); exact Or.inl ⟨hk0, by omega⟩⟩, ⟨hh_39.rt (M1 := [(r0, 16, 48, .int wn_1)]) [6] rfl ht, by rw [ht]; exact hh_39.2.2.2.2.2.2.2.2.sub (L1 := [(jFHw, jHw dC dI ca G0 r0 (jwPw WW (r1, a3.toInt, jwIe zs9.toInt zi9.toInt fi zl9.toInt)))]) [0] rfl⟩⟩, by rw [ht]; try exact hh_39.1.1, fun q h9 hq => by rw [ht]; try exact hh_39.1.2.1 q h9 hq⟩) hh_39.1.2.2 dX14_waitFor_17
end
