section
-- p8: the reference opens, changes, closes a document: the machine's state
section J90
variable {t t1 : jDtr} {q q1 : jXg} {fd fd1 co c1 : Nat → Option Nat} {dc : Int} {cs cl : Nat → Int32} {W : List jwA} {ol nw td x : Nat} {S S1 : Int × (Int → jdD)} {Z : jwSt} {d : Int}
theorem jdRs.on {a b : Nat} (h : jrO t t1 a b) (hc : dc ≤ 3) (hn : ∀ i, i < 3 → fd i ≠ some a ∧ fd i ≠ some b) : jdRs t1 fd dc = jdRs t fd dc := by
  unfold jdRs
  rw [jdLi.cg (e := fd) (e1 := fd) (h := jdR1 t) (h1 := jdR1 t1) (fun _ _ => rfl) (fun i x hi hx => ?_)]
  obtain ⟨n1, n2⟩ := hn i (by omega)
  obtain ⟨e1, e2, e3, e4, e5⟩ := h x (fun z => n1 (by rw [← z]; exact hx)) (fun z => n2 (by rw [← z]; exact hx))
  unfold jdR1
  rw [e1, e2, e3, e4, e5]
theorem jrZ.on {a b : Nat} (h : jrZ t q fd dc co cs cl W ol nw td S Z) (hO : jrO t t1 a b) (hP : jrP q q1 a b) (hB : jrB t1) (hS : jrS q1) (hn : ∀ i, i < 3 → fd i ≠ some a ∧ fd i ≠ some b) : jrZ t1 q1 fd dc co cs cl W ol nw td S Z := by
  have h3 := h.dc3
  have key : ∀ i x, i < 3 → fd i = some x → x ≠ a ∧ x ≠ b := fun i x hi hx => ⟨fun z => (hn i hi).1 (by rw [← z]; exact hx), fun z => (hn i hi).2 (by rw [← z]; exact hx)⟩
  refine ⟨⟨h.1.1, h.1.2.1, h.1.2.2.1, hB⟩, (jdRs.on hO h3.2 hn).trans h.2.1, ?_, hS, fun d1 x k1 k2 k3 => ?_, h.2.2.2.2.2.1, h.2.2.2.2.2.2.1, h.2.2.2.2.2.2.2⟩
  · obtain ⟨p0, p1, p2, p3⟩ := h.2.2.1
    refine ⟨p0, p1, fun i x hi hx => ?_, fun w hw => ?_⟩
    · obtain ⟨n1, n2⟩ := key i x hi hx
      obtain ⟨e1, e2, -, -, -⟩ := hP x n1 n2
      rw [e1, e2]; exact p2 i x hi hx
    · rcases p3 w hw with k | ⟨d2, x, k1, k2, k3, k4, k5⟩
      · exact Or.inl k
      · obtain ⟨n1, n2⟩ := key d2 x k2 k3
        obtain ⟨e1, -, -, -, -⟩ := hP x n1 n2
        exact Or.inr ⟨d2, x, k1, k2, k3, k4, by rw [e1]; exact k5⟩
  · obtain ⟨n1, n2⟩ := key d1 x k2 k3
    obtain ⟨e1, e2, e3, e4, e5⟩ := hP x n1 n2
    obtain ⟨-, d2, d3, -, -⟩ := hO x n1 n2
    unfold jrD
    rw [e1, e2, e3, e4, e5, d2, d3]
    exact h.2.2.2.2.1 d1 x k1 k2 k3
theorem jwFx {p : jwA → Bool} (h : ∀ a ∈ W, p a = true) : W.filter p = W := List.filter_eq_self.mpr h
theorem jrW.up {Q : List jwQ} {dc1 : Int} (h : jrW fd dc W Q) (hd : dc ≤ dc1) : jrW fd dc1 W Q := ⟨fun a ha => by
  obtain ⟨d, k1, k2, k3⟩ := h.1 a ha
  exact ⟨d, by omega, k2, k3⟩, h.2⟩
theorem jrZ.opn {dc1 : Int} {ve ln ul sn ck : Int32} {tx ux sb se sf : Nat → Int32} (h : jrZ t q fd dc co cs cl W ol nw td S Z) (hd : dc < 3) (hx : fd dc.toNat = some x) (e1 : dc1 = dc + 1) (ht : t1 = t.put x ve ln tx ul ux) (hq : q1 = q.put x sn ck sb se sf) (l0 : 0 ≤ ln.toInt) (l1 : ln.toInt ≤ 1500) (u0 : 0 ≤ ul.toInt) (u1 : ul.toInt ≤ 40) (hsn : sn.toInt = jPar tx ln.toInt) (hP : jcP tx ln.toInt sb se sn.toInt) (hF : jcPf tx ln.toInt sf sn.toInt) (hck : ck.toInt = 0) (hsr : jSrt sb se sn.toInt 1500) (s0 : 0 ≤ sn.toInt) (s1 : sn.toInt ≤ 40) (hS : jdRs t1 fd dc1 = S1) : jrZ t1 q1 fd dc1 co cs cl W ol nw td S1 (jwUp Z.1 S.1 0, Z.2) := by
  have h3 := h.dc3
  have hn := h.n
  have key : ∀ d1 a : Nat, d1 < 3 → fd d1 = some a → (a = x ↔ (d1 : Int) = dc) := fun d1 a k2 k3 => by
    refine ⟨fun e => ?_, fun e => ?_⟩
    · subst e
      have := h.inj d1 dc.toNat k2 (by omega) (k3.trans hx.symm)
      omega
    · have e1 : d1 = dc.toNat := by omega
      subst e1
      exact Option.some.inj (k3.symm.trans hx)
  refine ⟨by rw [ht]; exact h.1.put l0 l1 u0 u1 (by omega) (by omega), hS, ?_, by rw [hq]; exact jrS.put h.2.2.2.1 hsr s0 s1, fun d1 a k1 k2 k3 => ?_, fun w hw => ?_, h.2.2.2.2.2.2.1, h.2.2.2.2.2.2.2.up (by omega)⟩
  · obtain ⟨p0, p1, p2, p3⟩ := h.2.2.1
    refine ⟨p0, p1, fun i a hi ha => ?_, fun w hw => ?_⟩
    · by_cases e : a = x
      · subst e
        obtain ⟨f1, f2, -, -, -⟩ := jXg.ps (q := q) (a := a) (sn := sn) (ck := ck) (sb := sb) (se := se) (sf := sf)
        rw [hq, f1, f2]; omega
      · obtain ⟨f1, f2, -, -, -⟩ := jXg.pn (q := q) (sn := sn) (ck := ck) (sb := sb) (se := se) (sf := sf) e
        rw [hq, f1, f2]; exact p2 i a hi ha
    · rcases p3 w hw with k | ⟨d2, a, k1, k2, k3, k4, k5⟩
      · exact Or.inl k
      · have e : a ≠ x := fun z => by have := (key d2 a k2 k3).mp z; omega
        obtain ⟨f1, -, -, -, -⟩ := jXg.pn (q := q) (sn := sn) (ck := ck) (sb := sb) (se := se) (sf := sf) e
        exact Or.inr ⟨d2, a, by omega, k2, k3, k4, by rw [hq, f1]; exact k5⟩
  · show jrD t1 q1 a (jwUp Z.1 S.1 0 d1)
    unfold jrD
    by_cases e : a = x
    · have ed := (key d1 a k2 k3).mp e
      subst e
      obtain ⟨f1, f2, f3, f4, f5⟩ := jXg.ps (q := q) (a := a) (sn := sn) (ck := ck) (sb := sb) (se := se) (sf := sf)
      obtain ⟨-, g2, g3, -, -⟩ := jDtr.ps (t := t) (a := a) (v := ve) (l := ln) (u := ul) (f := tx) (g := ux)
      rw [hq, ht, f1, f2, f3, f4, f5, g2, g3, jwUp_s (by omega)]
      exact ⟨hsn, hP, hF, hck, Int.le_refl 0, s0⟩
    · have ed : (d1 : Int) ≠ dc := fun z => e ((key d1 a k2 k3).mpr z)
      obtain ⟨f1, f2, f3, f4, f5⟩ := jXg.pn (q := q) (sn := sn) (ck := ck) (sb := sb) (se := se) (sf := sf) e
      obtain ⟨-, g2, g3, -, -⟩ := jDtr.pn (t := t) (v := ve) (l := ln) (u := ul) (f := tx) (g := ux) e
      rw [hq, ht, f1, f2, f3, f4, f5, g2, g3, jwUp_n (by omega)]
      exact h.2.2.2.2.1 d1 a (by omega) k2 k3
  · rcases h.2.2.2.2.2.1 w hw with k | ⟨d1, b, k1, k2, k3, k4, k5, k6⟩
    · exact Or.inl k
    · refine Or.inr ⟨d1, b, by omega, k2, k3, k4, ?_, k6⟩
      show _ = jwUp Z.1 S.1 0 d1
      rw [jwUp_n (by omega)]; exact k5
theorem jrF.l (hd0 : 0 ≤ d) (hd : d < dc) (hx : fd d.toNat = some x) : jwL (jdRs t fd dc) d = (t.ln x).toInt := by
  unfold jwL jdRs
  rw [show (dc, jdLi dc fd (jdR1 t)).2 d = jdR1 t x from jdLi.at hd0 hd hx]
  rfl
theorem jrZ.chg {ve ln ul : Int32} {tx ux : Nat → Int32} {st : Int} (h : jrZ t q fd dc co cs cl W ol nw td S Z) (hd0 : 0 ≤ d) (hd : d < dc) (hx : fd d.toNat = some x) (ht : t1 = t.put x ve ln tx ul ux) (l0 : 0 ≤ ln.toInt) (l1 : ln.toInt ≤ 1500) (u0 : 0 ≤ ul.toInt) (u1 : ul.toInt ≤ 40) (hst : st = jwSy (t.tx x) (t.ln x).toInt tx ln.toInt) (hC : jrC tx ln.toInt q q1 x st) (hH : jrH co c1 cs x st 2) (hS : jdRs t1 fd dc = S1) : jrZ t1 q1 fd dc c1 cs cl (W.filter (fun a => !decide (a.1 = x))) ol nw td S1 (jwCg1 S S1 Z d) := by
  have h3 := h.dc3
  obtain ⟨sn, ck, sb, se, sf, hq, hsn, hP, hF, hck, hsr, s0, s1⟩ := hC
  have hnx := h.nx (v := d) hd0 hd hx.symm
  have hle := jwSy.le (f := t.tx x) (g := tx) (n := (t.ln x).toInt) (m := ln.toInt) (h.l0 x).1 l0
  rw [← hst] at hle
  obtain ⟨y1, y2, y3, y4, y5⟩ := jXg.ps (q := q) (a := x) (sn := sn) (ck := ck) (sb := sb) (se := se) (sf := sf)
  obtain ⟨-, z2, z3, -, -⟩ := jDtr.ps (t := t) (a := x) (v := ve) (l := ln) (u := ul) (f := tx) (g := ux)
  have hsy : jwSy (jwF S d) (jwL S d) (jwF S1 d) (jwL S1 d) = st := by
    rw [← hS, jrF.l hd0 hd hx, hst]
    have a1 := jrF.tx (t := t1) hd0 hd hx
    have b1 := jrF.tx (t := t) hd0 hd hx
    rw [h.2.1] at b1
    rw [← h.2.1, jrF.l hd0 hd hx, h.2.1]
    rw [ht, z2, z3] at a1
    rw [ht, z2]
    exact jwSy.cg (h.l0 x).1 l0 b1 a1
  have key : ∀ d1 a : Nat, d1 < 3 → fd d1 = some a → (a = x ↔ (d1 : Int) = d) := fun d1 a k2 k3 => by
    refine ⟨fun e => ?_, fun e => ?_⟩
    · subst e
      have := h.inj d1 d.toNat k2 (by omega) (k3.trans hx.symm)
      omega
    · have e1 : d1 = d.toNat := by omega
      subst e1
      exact Option.some.inj (k3.symm.trans hx)
  have hck2 : ck.toInt = if Z.1 d ≤ st then Z.1 d else st := by
    rw [hck, ← hnx.2.1]
    by_cases e : Z.1 d ≤ st
    · rw [if_neg (by omega), if_pos e]
    · rw [if_pos (by omega), if_neg e]
  have hcs : ∀ (w : Nat), w < 2 → co w = some x → jSo cs w = Z.1 d ∧ (Z.2.1 w).1 = d := fun w hw hc => by
    rcases h.2.2.2.2.2.1 w hw with ⟨k, -⟩ | ⟨d1, b, k1, k2, k3, k4, k5, k6⟩
    · rw [k] at hc; cases hc
    · rw [hc] at k4
      cases k4
      have ed := (key d1 x k2 k3).mp rfl
      rw [ed] at k5 k6
      exact ⟨k5, by rw [k6]⟩
  unfold jwCg1
  rw [hsy]
  refine ⟨by rw [ht]; exact h.1.put l0 l1 u0 u1 (by omega) (by omega), hS, ?_, by rw [hq]; exact jrS.put h.2.2.2.1 hsr s0 s1, fun d1 a k1 k2 k3 => ?_, fun w hw => ?_, fun ee => ?_, ?_⟩
  · obtain ⟨p0, p1, p2, p3⟩ := h.2.2.1
    refine ⟨p0, p1, fun i a hi ha => ?_, fun w hw => ?_⟩
    · by_cases e : a = x
      · subst e
        rw [hq, y1, y2, hck2, hsn]
        split <;> omega
      · obtain ⟨f1, f2, -, -, -⟩ := jXg.pn (q := q) (sn := sn) (ck := ck) (sb := sb) (se := se) (sf := sf) e
        rw [hq, f1, f2]; exact p2 i a hi ha
    · have hv := hH w hw
      by_cases g : (w : Int) < 2 ∧ co w = some x ∧ st ≤ jSo cs w
      · rw [if_pos g] at hv; exact Or.inl hv
      · rw [if_neg g] at hv
        rcases p3 w hw with k | ⟨d2, a, k1, k2, k3, k4, k5⟩
        · exact Or.inl (hv.trans k)
        · refine Or.inr ⟨d2, a, k1, k2, k3, hv.trans k4, ?_⟩
          by_cases e : a = x
          · subst e
            rw [hq, y1, hsn]
            have : jSo cs (w : Int) = (cs w).toInt := rfl
            have : ¬ st ≤ jSo cs w := fun z => g ⟨by omega, k4, z⟩
            omega
          · obtain ⟨f1, -, -, -, -⟩ := jXg.pn (q := q) (sn := sn) (ck := ck) (sb := sb) (se := se) (sf := sf) e
            rw [hq, f1]; exact k5
  · show jrD t1 q1 a (jwUp Z.1 d (if Z.1 d ≤ st then Z.1 d else st) d1)
    unfold jrD
    by_cases e : a = x
    · have ed := (key d1 a k2 k3).mp e
      subst e
      rw [hq, ht, y1, y2, y3, y4, y5, z2, z3, jwUp_s ed]
      have h8 := hnx.2.2.2.2.2.2.2
      refine ⟨hsn, hP, hF, hck2, ?_, ?_⟩
      · split <;> omega
      · rw [hsn]; split <;> omega
    · have ed : (d1 : Int) ≠ d := fun z => e ((key d1 a k2 k3).mpr z)
      obtain ⟨f1, f2, f3, f4, f5⟩ := jXg.pn (q := q) (sn := sn) (ck := ck) (sb := sb) (se := se) (sf := sf) e
      obtain ⟨-, g2, g3, -, -⟩ := jDtr.pn (t := t) (v := ve) (l := ln) (u := ul) (f := tx) (g := ux) e
      rw [hq, ht, f1, f2, f3, f4, f5, g2, g3, jwUp_n ed]
      exact h.2.2.2.2.1 d1 a k1 k2 k3
  · show jrK fd c1 cs cl dc (jwUp Z.1 d (if Z.1 d ≤ st then Z.1 d else st), (fun w => if (Z.2.1 w).1 = d ∧ st ≤ Z.1 d then (-1, 0) else Z.2.1 w), _, _) w
    have hv := hH w hw
    by_cases g : (w : Int) < 2 ∧ co w = some x ∧ st ≤ jSo cs w
    · rw [if_pos g] at hv
      obtain ⟨a1, a2⟩ := hcs w hw g.2.1
      exact Or.inl ⟨hv, if_pos ⟨a2, by omega⟩⟩
    · rw [if_neg g] at hv
      rcases h.2.2.2.2.2.1 w hw with ⟨k1, k2⟩ | ⟨d1, b, k1, k2, k3, k4, k5, k6⟩
      · refine Or.inl ⟨hv.trans k1, ?_⟩
        show (if (Z.2.1 w).1 = d ∧ st ≤ Z.1 d then ((-1, 0) : Int × Int) else Z.2.1 w) = (-1, 0)
        split
        · rfl
        · exact k2
      · by_cases e : b = x
        · subst e
          obtain ⟨a1, a2⟩ := hcs w hw k4
          have hlt : ¬ st ≤ jSo cs w := fun z => g ⟨by omega, k4, z⟩
          have ed := (key d1 b k2 k3).mp rfl
          refine Or.inr ⟨d1, b, k1, k2, k3, hv.trans k4, ?_, ?_⟩
          · show jSo cs w = jwUp Z.1 d (if Z.1 d ≤ st then Z.1 d else st) d1
            rw [jwUp_s ed, if_pos (by omega)]; exact a1
          · show (if (Z.2.1 w).1 = d ∧ st ≤ Z.1 d then ((-1, 0) : Int × Int) else Z.2.1 w) = _
            rw [if_neg (fun z => by omega)]; exact k6
        · have ed : (d1 : Int) ≠ d := fun z => e ((key d1 b k2 k3).mpr z)
          refine Or.inr ⟨d1, b, k1, k2, k3, hv.trans k4, ?_, ?_⟩
          · show jSo cs w = jwUp Z.1 d (if Z.1 d ≤ st then Z.1 d else st) d1
            rw [jwUp_n ed]; exact k5
          · show (if (Z.2.1 w).1 = d ∧ st ≤ Z.1 d then ((-1, 0) : Int × Int) else Z.2.1 w) = _
            rw [if_neg (fun z => ed (by rw [k6] at z; exact z.1))]; exact k6
  · have v0 := hH 0 (by omega)
    have v1 := hH 1 (by omega)
    by_cases g : ((0 : Nat) : Int) < 2 ∧ co 0 = some x ∧ st ≤ jSo cs ((0 : Nat) : Int)
    · rw [if_pos g] at v0; exact v0
    · rw [if_neg g] at v0
      by_cases g1 : ((1 : Nat) : Int) < 2 ∧ co 1 = some x ∧ st ≤ jSo cs ((1 : Nat) : Int)
      · rw [if_pos g1] at v1
        rw [ee]; exact v1
      · rw [if_neg g1] at v1
        rw [v0]
        exact h.2.2.2.2.2.2.1 (by rw [← v0, ← v1]; exact ee)
  · refine h.2.2.2.2.2.2.2.flt (fun a ha => ?_)
    obtain ⟨d1, k1, k2, k3⟩ := h.2.2.2.2.2.2.2.1 a ha
    show (!(decide (jrNu fd a.1 = d))) = _
    rw [h.nu k2 k3]
    congr 1
    exact decide_eq_decide.mpr (key d1 a.1 k2 k3).symm
end J90
end
section
-- p8: the reference closes a document: the machine's state
theorem jdOp.no {T : Nat → Int → Int} {v u s t : Int} {S : Int × (Int → jdD)} (hu : u = jdUr T v) (hs : s = jdVs T v) (ht : t = jdTt T v) (h : ¬ (jqK T v u = 3 ∧ 1 ≤ T 3 u ∧ T 3 u ≤ 40 ∧ jqK T v s = 4 ∧ jqK T v t = 3 ∧ T 3 t ≤ 1500 ∧ jdWh T v S.1 S.2 < 0 ∧ S.1 < 3)) : jdOp T v S.1 S.2 ≠ 1 := by
  subst hu hs ht
  intro q
  unfold jdOp at q
  split at q
  · rename_i g
    exact h g
  · omega
section J91
variable {t : jDtr} {q : jXg} {fd fd1 co c1 : Nat → Option Nat} {dc dc1 : Int} {cs cl : Nat → Int32} {W : List jwA} {ol nw td x : Nat} {S S1 : Int × (Int → jdD)} {Z : jwSt} {d : Int}
theorem jSh.dn {f0 f g : Nat → Option Nat} {k k' : Int} (hs : jSh f0 f d k') (h0 : 0 ≤ d) (hdc : d < dc) (h3 : dc ≤ 3) (hkk : k' = k) (hk : k = dc - 1) (hg : ∀ j, j < 3 → j ≠ k.toNat → g j = f j) : ∀ e : Nat, (e : Int) < dc → e < 3 → (e : Int) ≠ d → g (jwDn d e).toNat = f0 e := fun e k1 k2 k3 => by
  subst hkk
  unfold jwDn
  by_cases w : d < (e : Int)
  · rw [if_pos w]
    rw [hg _ (by omega) (by omega), hs _ (by omega), if_pos (by omega)]
    congr 1; omega
  · rw [if_neg w]
    rw [hg _ (by omega) (by omega), hs _ (by omega), if_neg (by omega)]
    congr 1
end J91
def jrX (co c1 : Nat → Option Nat) (x : Nat) : Prop := ∀ w : Nat, w < 2 → c1 w = co w ∨ (co w = some x ∧ c1 w = none)
theorem jrX.st {co : Nat → Option Nat} {x : Nat} : jrX co co x := fun _ _ => Or.inl rfl
theorem jrX.d {co c1 c2 : Nat → Option Nat} {x i : Nat} (h : jrX co c1 x) (hi : i < 2) (hx : c1 i = some x) (hv : c2 i = none) (ho : ∀ j, j < 2 → j ≠ i → c2 j = c1 j) : jrX co c2 x := fun w hw => by
  by_cases e : w = i
  · subst e
    rcases h w hw with a | ⟨a, b⟩
    · exact Or.inr ⟨a.symm.trans hx, hv⟩
    · rw [b] at hx; cases hx
  · rw [ho w hw e]; exact h w hw
theorem jDtr.two {t : jDtr} {a : Nat} {v l u v1 l1 u1 : Int32} {f g f1 g1 : Nat → Int32} : (t.put a v l f u g).put a v1 l1 f1 u1 g1 = t.put a v1 l1 f1 u1 g1 := by
  have key : ∀ {α : Type} (k : Nat → α) (p r : α), jUf (jUf k a p) a r = jUf k a r := fun k p r => funext fun b => by
    by_cases e : b = a
    · subst e; rw [jUf_s, jUf_s]
    · rw [jUf_n _ _ e, jUf_n _ _ e, jUf_n _ _ e]
  show (jUf (jUf t.ve a v) a v1, jUf (jUf t.ln a l) a l1, jUf (jUf t.tx a f) a f1, jUf (jUf t.ul a u) a u1, jUf (jUf t.ux a g) a g1) = _
  rw [key, key, key, key, key]
  rfl
/-- a document is put back as it was, the two others stay as they are now -/
theorem jrO.back {t t1 u : jDtr} {a b x : Nat} {v l w : Int32} {f g : Nat → Int32} (h1 : t1 = t.put x v l f w g) (h : jrO t1 u a b) : jrO t (u.put x (t.ve x) (t.ln x) (t.tx x) (t.ul x) (t.ux x)) a b := fun y y1 y2 => by
  by_cases e : y = x
  · subst e
    exact jDtr.ps
  · obtain ⟨d1, d2, d3, d4, d5⟩ := jDtr.pn (t := u) (a := x) (x := y) (v := t.ve x) (l := t.ln x) (u := t.ul x) (f := t.tx x) (g := t.ux x) e
    obtain ⟨e1, e2, e3, e4, e5⟩ := h y y1 y2
    rw [h1] at e1 e2 e3 e4 e5
    obtain ⟨f1, f2, f3, f4, f5⟩ := jDtr.pn (t := t) (a := x) (x := y) (v := v) (l := l) (u := w) (f := f) (g := g) e
    exact ⟨d1.trans (e1.trans f1), d2.trans (e2.trans f2), d3.trans (e3.trans f3), d4.trans (e4.trans f4), d5.trans (e5.trans f5)⟩
end
section
def EX14_documentOfW : List (Nat × Nat) := []
set_option maxHeartbeats 4000000 in
set_option maxRecDepth 20000 in
theorem uX14_documentOfW (l : Launch) (dC : Nat → ClassId) (dI : Nat → Nat → Nat) (ca : Nat → ClassId) (base : Nat) (B : jF) (hB : jBok B) (hAp : jAp (dC, dI)) (hB14 : ∀ n G a H, B 14 n G a H ↔ jOb (dC, dI) 14 11 (F14 n G) a H) (hB16 : ∀ n G a H, B 16 n G a H ↔ jOb (dC, dI) 16 74 (F16 n G) a H) (hB117 : ∀ n G a H, B 117 n G a H ↔ jAr (dC, dI) (ca 1) (fun j z => True) n a H) (hB122 : ∀ n G a H, B 122 n G a H ↔ jAr (dC, dI) (ca 1) (fun j z => 0 ≤ z.toInt ∧ z.toInt ≤ 3100) n a H) (hB123 : ∀ n G a H, B 123 n G a H ↔ jAr (dC, dI) (ca 1) (fun j z => 0 ≤ z.toInt ∧ z.toInt ≤ 3100) n a H) (hB127 : ∀ n G a H, B 127 n G a H ↔ jAr (dC, dI) (ca 1) (fun j z => True) n a H) (hB195 : ∀ n G a H, B 195 n G a H ↔ jAr (dC, dI) (ca 1) (fun j z => True) n a H) (hB201 : ∀ n G a H, B 201 n G a H ↔ jAq (dC, dI) (ca 4) (jQs 14 0) n G a H) (G0 : jT) (H0 : Heap) (r0 : Nat) (a1 : Int32) (zm : Nat) (xh : Nat) (xn : Nat) (xf : Nat) (xt : Nat) (xb : Nat) (xe : Nat) (xi : Nat) (xg : Nat) (xp : Nat) (T9 : Nat → Int → Int) (nd9 po9 : Int) (rq : jDtr) (fd : Nat → Option Nat) (dc : Int32) (ms : Nat → Int32) (mh : Nat → Int32) (mx : Nat → Int32) (mf : Nat → Int32) (mt : Nat → Int32) (mb : Nat → Int32) (me : Nat → Int32) (mi : Nat → Int32) (mn : Nat → Int32) (fu : Nat → Int32) : Met l yX14_documentOf (jw yX14_documentOf cX14_documentOf 6 (some (.object "ProofServerModel$Document"))) ({ frames := 1, cells := 0, slots := 0, locals := 21 }) (va_Pc [.ref r0, .int a1] (fun U => U.heap = H0 ∧ jX B base G0 [] H0 ∧ jG dC dI ca base U ∧ jK2 dC dI ca U ∧ G0 r0 = some (16, 0) ∧ G0 zm = some (117, 3100) ∧ G0 xh = some (118, 3100) ∧ G0 xn = some (119, 3100) ∧ G0 xf = some (120, 3100) ∧ G0 xt = some (121, 3100) ∧ G0 xb = some (122, 3100) ∧ G0 xe = some (123, 3100) ∧ G0 xi = some (124, 3100) ∧ G0 xg = some (125, 3100) ∧ G0 xp = some (127, 3300) ∧ jP (dC, dI) G0 H0 [(r0, 16, 17, .ref zm), (r0, 16, 18, .ref xh), (r0, 16, 19, .ref xn), (r0, 16, 20, .ref xf), (r0, 16, 21, .ref xt), (r0, 16, 22, .ref xb), (r0, 16, 23, .ref xe), (r0, 16, 24, .ref xi), (r0, 16, 25, .ref xg), (r0, 16, 27, .ref xp)] ∧ jMc (dC, dI) G0 H0 [(zm, 117, 3100, ca 1, ms), (xh, 118, 3100, ca 1, mh), (xn, 119, 3100, ca 1, mx), (xf, 120, 3100, ca 1, mf), (xt, 121, 3100, ca 1, mt), (xb, 122, 3100, ca 1, mb), (xe, 123, 3100, ca 1, me), (xi, 124, 3100, ca 3, mi), (xg, 125, 3100, ca 1, mn), (xp, 127, 3300, ca 1, fu)] ∧ jIs (dC, dI) G0 H0 [(jFrd, jRD dC dI ca G0 none rq), (jFHd, jHd dC dI ca G0 r0 fd dc)] ∧ 0 ≤ nd9 ∧ nd9 ≤ 3100 ∧ jjRB T9 nd9 po9 ms mh mx mf mt mb me mi mn fu ∧ a1.toInt < nd9 ∧ jdIr rq fd dc.toInt)) (jQx (S := Unit) (fun v u => jRn G0 14 0 v ∧ v = jdRr fd (jdF T9 nd9 a1.toInt (jdRl rq fd) (jdRx rq fd) (dc.toInt).toNat 0)) (fun u t => (jRt (dC, dI) B base G0 EX14_documentOfW H0 [] t.heap) ∧ jIs (dC, dI) G0 t.heap [(jFrd, jRD dC dI ca G0 none rq), (jFHd, jHd dC dI ca G0 r0 fd dc)]) (jA base)) 0 0 (jA base) := by
  refine Met.ofW (cc := cX14_documentOf) (maxL := 6) (ret := (some (.object "ProofServerModel$Document"))) (by decide) rfl ?_
  intro p e s m args below meth c s₁ Bd hml hv
  obtain ⟨rfl, hH0, hX, hG, hK2, hg_r0, hg_zm, hg_xh, hg_xn, hg_xf, hg_xt, hg_xb, hg_xe, hg_xi, hg_xg, hg_xp, hP0, hM0, hI0, hp0, hp1, hp2, hp3, hp4⟩ := hv
  have hK := hG.1
  have hx := Bd.exec
  have hb := Bd.bytes
  have hr := Bd.returns
  have hts := atoms_spec (ws := (jw yX14_documentOf cX14_documentOf 6 (some (.object "ProofServerModel$Document")))) Bd.pre
  have htw : ∀ w ∈ jWl, w.before _ s = true := fun w h => hts w (List.mem_cons_of_mem _ h)
  have hown : s.vm.findClass RX14 = some m.cls := findClass_of_methodNamed Bd.named
  have hlocks := Bd.notSynchronized
  obtain ⟨Q, hQ⟩ : ∃ Q, Q = MQ below (jQx (S := Unit) (fun v u => jRn G0 14 0 v ∧ v = jdRr fd (jdF T9 nd9 a1.toInt (jdRl rq fd) (jdRx rq fd) (dc.toInt).toNat 0)) (fun u t => (jRt (dC, dI) B base G0 EX14_documentOfW H0 [] t.heap) ∧ jIs (dC, dI) G0 t.heap [(jFrd, jRD dC dI ca G0 none rq), (jFHd, jHd dC dI ca G0 r0 fd dc)]) (jA base)) ([.ref r0, .int a1] : List Value).toArray s 0 0 (jA base) := ⟨_, rfl⟩
  rw [← hQ]
  have hl := lv_entry ([.ref r0, .int a1]) (n := 6) (Nat.le_of_ble_eq_true rfl)
  rw [lg_entry_eq]
  generalize (lg_sl ([.ref r0, .int a1]) ++ List.replicate (6 - (lg_sl ([.ref r0, .int a1])).length) Slot.unset).toArray = ls at hl ⊢
  have hl : lv_has ls 6 [(0, .ref r0), (1, .int a1)] := hl
  generalize hR : (headSpec (jw yX14_documentOf cX14_documentOf 6 (some (.object "ProofServerModel$Document"))) ({ frames := 1, cells := 0, slots := 0, locals := 21 })).room = R
  subst hH0
  have hh : jSt (dC, dI) B base G0 G0 EX14_documentOfW s.heap 0 0 [(r0, 16, 17, .ref zm), (r0, 16, 18, .ref xh), (r0, 16, 19, .ref xn), (r0, 16, 20, .ref xf), (r0, 16, 21, .ref xt), (r0, 16, 22, .ref xb), (r0, 16, 23, .ref xe), (r0, 16, 24, .ref xi), (r0, 16, 25, .ref xg), (r0, 16, 27, .ref xp)] [(zm, 117, 3100, ca 1, ms), (xh, 118, 3100, ca 1, mh), (xn, 119, 3100, ca 1, mx), (xf, 120, 3100, ca 1, mf), (xt, 121, 3100, ca 1, mt), (xb, 122, 3100, ca 1, mb), (xe, 123, 3100, ca 1, me), (xi, 124, 3100, ca 3, mi), (xg, 125, 3100, ca 1, mn), (xp, 127, 3300, ca 1, fu)] [(jFrd, jRD dC dI ca G0 none rq), (jFHd, jHd dC dI ca G0 r0 fd dc)] s.heap [] := jSt.start hX hP0 hM0 hI0
  clear hX hP0
  have hk0 : (0 : Int32).toInt = 0 := by decide
  have hk1 : (1 : Int32).toInt = 1 := by decide
  have hly_14_0 := htw (u_lay RX12 TX12 0) (jWc_wsX120 _ (u_in_lay (by decide)))
  have hly_14_1 := htw (u_lay RX12 TX12 1) (jWc_wsX120 _ (u_in_lay (by decide)))
  have hly_16_22 := htw (u_lay RX14 TX14 22) (jWc_wsX140 _ (u_in_lay (by decide)))
  have hly_16_23 := htw (u_lay RX14 TX14 23) (jWc_wsX140 _ (u_in_lay (by decide)))
  have hly_16_27 := htw (u_lay RX14 TX14 27) (jWc_wsX140 _ (u_in_lay (by decide)))
  have hly_16_41 := htw (u_lay RX14 TX14 41) (jWc_wsX140 _ (u_in_lay (by decide)))
  have hly_16_42 := htw (u_lay RX14 TX14 42) (jWc_wsX140 _ (u_in_lay (by decide)))
  have hlk_505 := (htw (.fieldLink RX14 505 "ProofServerModel" "documentCount" "I") (jWr_57 _ (List.mem_of_getElem? (i := 5) rfl)))
  have hlk_74 := (htw (.fieldLink RX14 74 "ProofServerModel" "documents" "[LProofServerModel$Document;") (jWr_11 _ (List.mem_of_getElem? (i := 19) rfl)))
  have hlk_508 := (va_Nw.use (A := ([.ref r0, .int a1] : List Value).toArray) rfl (hG.2.1 RX14 508 "ProofServerModel$Document" "uriLength" "I" "ProofServerModel" (List.mem_of_getElem? (i := 1732) (by decide +kernel))))
  have hlk_55 := (htw (.fieldLink RX14 55 "ProofServerModel" "to" "[I") (jWr_11 _ (List.mem_of_getElem? (i := 10) rfl)))
  have hlk_52 := (htw (.fieldLink RX14 52 "ProofServerModel" "from" "[I") (jWr_11 _ (List.mem_of_getElem? (i := 9) rfl)))
  have hlk_511 := (va_Nw.use (A := ([.ref r0, .int a1] : List Value).toArray) rfl (hG.2.1 RX14 511 "ProofServerModel$Document" "uri" "[I" "ProofServerModel" (List.mem_of_getElem? (i := 1731) (by decide +kernel))))
  have hlk_65 := (htw (.fieldLink RX14 65 "ProofServerModel" "pool" "[I") (jWr_11 _ (List.mem_of_getElem? (i := 14) rfl)))
  have hrg_a1 := jb_rng a1
  have hd39 := And.intro hp4.1 hp4.2.1
  obtain ⟨yfd_1, -, hgfd_1, hoP_1, hoM_1, hqfd_1, -⟩ := hh.iv 1 rfl
  have hh_2 := ((hh.sub (L1 := [(r0, 16, 17, .ref zm), (r0, 16, 18, .ref xh), (r0, 16, 19, .ref xn), (r0, 16, 20, .ref xf), (r0, 16, 21, .ref xt), (r0, 16, 22, .ref xb), (r0, 16, 23, .ref xe), (r0, 16, 24, .ref xi), (r0, 16, 25, .ref xg), (r0, 16, 27, .ref xp)]) [0, 1, 2, 3, 4, 5, 6, 7, 8, 9] rfl (M1 := [(zm, 117, 3100, ca 1, ms), (xh, 118, 3100, ca 1, mh), (xn, 119, 3100, ca 1, mx), (xf, 120, 3100, ca 1, mf), (xt, 121, 3100, ca 1, mt), (xb, 122, 3100, ca 1, mb), (xe, 123, 3100, ca 1, me), (xi, 124, 3100, ca 3, mi), (xg, 125, 3100, ca 1, mn), (xp, 127, 3300, ca 1, fu)]) [0, 1, 2, 3, 4, 5, 6, 7, 8, 9] rfl (I1 := [(jFrd, jRD dC dI ca G0 none rq)]) [0] rfl).more hoP_1).moreM hoM_1
  clear hh
  have hh_3 := hh_2.addI (jQc.ie hqfd_1 hgfd_1 (by decide) (by decide))
  clear hh_2
  refine lv_aload_n hx hb dX14_documentOf_0 rfl (lv_at hl 0 rfl) ?_
  refine lv_iload_n hx hb dX14_documentOf_1 rfl (lv_at hl 1 rfl) ?_
  refine va_calli (A0 := jA base) (H0 := s.heap) (va_runV (As := [.int a1]) (rest := []) ⟨hx, hb, hml, hown, hts⟩ (uX14_isStringR l dC dI ca base B hB hAp hB16 hB117 G0 s.heap r0 a1 zm xh xn xf xt xb xe xi xg xp T9 nd9 po9 ms mh mx mf mt mb me mi mn fu) (cwV 1 hts (jgV (jWr_56 _ (List.mem_of_getElem? (i := 3) rfl)) (jWr_56 _ (List.mem_of_getElem? (i := 4) rfl)) (jWr_56 _ (List.mem_of_getElem? (i := 5) rfl)) (jWr_1 _ (List.mem_of_getElem? (i := 5) rfl)) (jWr_56 _ (List.mem_of_getElem? (i := 6) rfl))) rfl rfl rfl (by decide +kernel) ⟨by rw [← hR]; exact Nat.le_of_ble_eq_true rfl, by rw [← hR]; exact Nat.le_of_ble_eq_true rfl⟩) ⟨fun a U g mk q => by obtain ⟨q0, q1, q2, qK, q10, q11, q12, q13, q14, q15, q16, q17, q18, q19, q20, q21, q22, q23⟩ := q; exact ⟨q0, q1, q2, jG.calling g mk a qK, q10, q11, q12, q13, q14, q15, q16, q17, q18, q19, q20, q21, q22, q23⟩, hh_3.recv (C := RX14) (T := TX14) (N := 74) hB16 rfl (by decide) hg_r0 hK, fun U hU hW => ⟨rfl, hU, hh_3.2.1, hG.step hW hU hh_3.1, hg_r0, hg_zm, hg_xh, hg_xn, hg_xf, hg_xt, hg_xb, hg_xe, hg_xi, hg_xg, hg_xp, (hh_3.2.2.1.sub (L1 := [(r0, 16, 17, .ref zm), (r0, 16, 18, .ref xh), (r0, 16, 19, .ref xn), (r0, 16, 20, .ref xf), (r0, 16, 21, .ref xt), (r0, 16, 22, .ref xb), (r0, 16, 23, .ref xe), (r0, 16, 24, .ref xi), (r0, 16, 25, .ref xg), (r0, 16, 27, .ref xp)]) [2, 3, 4, 5, 6, 7, 8, 9, 10, 11] rfl), (hh_3.2.2.2.2.2.2.2.1.sub (L1 := [(zm, 117, 3100, ca 1, ms), (xh, 118, 3100, ca 1, mh), (xn, 119, 3100, ca 1, mx), (xf, 120, 3100, ca 1, mf), (xt, 121, 3100, ca 1, mt), (xb, 122, 3100, ca 1, mb), (xe, 123, 3100, ca 1, me), (xi, 124, 3100, ca 3, mi), (xg, 125, 3100, ca 1, mn), (xp, 127, 3300, ca 1, fu)]) [0, 1, 2, 3, 4, 5, 6, 7, 8, 9] rfl), by first | omega | (refine ⟨?_, ?_, ?_, ?_⟩ <;> (first | omega | rfl | assumption | decide | exact Or.inl rfl | exact Or.inr rfl | (simp only; omega)))⟩⟩ rfl rfl hl.1 rfl (lv_room (Nat.le_of_ble_eq_true rfl)) dX14_documentOf_2 ⟨Nat.zero_le _, Nat.zero_le _⟩) hh_3.1 (fun q _ h => h) (fun q h => h) (fun r_5 u_4 t_4 H_4 locs_4 ht_4 hvm_4 hr_5 hb_4 hz_4 hk_4 hS_4 => ?_)
  rw [ht_4] at hb_4
  obtain ⟨hb_41, hb_42, hb_43, hb_44, hb_45⟩ := hb_4
  have hh_4 : jSt (dC, dI) B base G0 G0 EX14_documentOfW s.heap 0 0 [(r0, 16, 41, .ref yfd_1), (r0, 16, 42, .int dc), (r0, 16, 17, .ref zm), (r0, 16, 18, .ref xh), (r0, 16, 19, .ref xn), (r0, 16, 20, .ref xf), (r0, 16, 21, .ref xt), (r0, 16, 22, .ref xb), (r0, 16, 23, .ref xe), (r0, 16, 24, .ref xi), (r0, 16, 25, .ref xg), (r0, 16, 27, .ref xp)] [(zm, 117, 3100, ca 1, ms), (xh, 118, 3100, ca 1, mh), (xn, 119, 3100, ca 1, mx), (xf, 120, 3100, ca 1, mf), (xt, 121, 3100, ca 1, mt), (xb, 122, 3100, ca 1, mb), (xe, 123, 3100, ca 1, me), (xi, 124, 3100, ca 3, mi), (xg, 125, 3100, ca 1, mn), (xp, 127, 3300, ca 1, fu)] [([(201, 0)], jQc dC dI (ca 4) yfd_1 3 fd), (jFrd, jRD dC dI ca G0 none rq)] H_4 locs_4 := ((hh_3.call hb_41 hb_42 hb_43 hb_44 hS_4 rfl (L1 := [(r0, 16, 41, .ref yfd_1), (r0, 16, 42, .int dc), (r0, 16, 17, .ref zm), (r0, 16, 18, .ref xh), (r0, 16, 19, .ref xn), (r0, 16, 20, .ref xf), (r0, 16, 21, .ref xt), (r0, 16, 22, .ref xb), (r0, 16, 23, .ref xe), (r0, 16, 24, .ref xi), (r0, 16, 25, .ref xg), (r0, 16, 27, .ref xp)]) [0, 1, 2, 3, 4, 5, 6, 7, 8, 9, 10, 11] rfl rfl (M1 := [(zm, 117, 3100, ca 1, ms), (xh, 118, 3100, ca 1, mh), (xn, 119, 3100, ca 1, mx), (xf, 120, 3100, ca 1, mf), (xt, 121, 3100, ca 1, mt), (xb, 122, 3100, ca 1, mb), (xe, 123, 3100, ca 1, me), (xi, 124, 3100, ca 3, mi), (xg, 125, 3100, ca 1, mn), (xp, 127, 3300, ca 1, fu)]) [0, 1, 2, 3, 4, 5, 6, 7, 8, 9] rfl rfl (I1 := [([(201, 0)], jQc dC dI (ca 4) yfd_1 3 fd), (jFrd, jRD dC dI ca G0 none rq)]) [0, 1] rfl rfl).more hb_45)
  clear hh_3 ht_4 hvm_4 hz_4 hk_4 hS_4 hb_41 hb_42 hb_43 hb_44 hb_45
  obtain ⟨hr_5b, hr_5p⟩ := hr_5
  have hs2 := hr_5p
  have hr_5' := jb_01 hr_5b
  refine lv_if_ne (tgt := 10) hx hb dX14_documentOf_5 (by decide) (fun c_6 => ?_) (fun c_6 => ?_)
  · skip
    have c_6' : r_5.toInt ≠ 0 := jb_ne (rfl) ((by decide)) c_6
    first | (have hr_5pq := hr_5p.resolve_left (by omega); clear hr_5p) | (have hr_5pq := hr_5p.resolve_right (by omega); clear hr_5p) | try clear hr_5p
    have hk3 := (hs2.resolve_right (fun q => by omega)).2
    have hka9 := jqK.p (T := T9) (v := nd9) (i := a1.toInt) (by omega)
    have hst9 := (hp2.str (a := a1.toInt) hka9.1 hka9.2.1).resolve_right (fun q => q.2 hk3)
    refine lv_iconst (v := 0) hx hb dX14_documentOf_10 (by decide) ?_
    refine lv_istore_n (lv' := [(2, .int 0), (0, .ref r0), (1, .int a1)]) hx hb dX14_documentOf_11 rfl hl (by decide) rfl (fun ls hl => ?_)
    have L12 : ∀ (N : Nat) (v2_7 : Int32) (H_7 : Heap) (locs_7 : List Loc), jSt (dC, dI) B base G0 G0 EX14_documentOfW s.heap 0 0 [(r0, 16, 41, .ref yfd_1), (r0, 16, 42, .int dc), (r0, 16, 17, .ref zm), (r0, 16, 18, .ref xh), (r0, 16, 19, .ref xn), (r0, 16, 20, .ref xf), (r0, 16, 21, .ref xt), (r0, 16, 22, .ref xb), (r0, 16, 23, .ref xe), (r0, 16, 24, .ref xi), (r0, 16, 25, .ref xg), (r0, 16, 27, .ref xp)] [(zm, 117, 3100, ca 1, ms), (xh, 118, 3100, ca 1, mh), (xn, 119, 3100, ca 1, mx), (xf, 120, 3100, ca 1, mf), (xt, 121, 3100, ca 1, mt), (xb, 122, 3100, ca 1, mb), (xe, 123, 3100, ca 1, me), (xi, 124, 3100, ca 3, mi), (xg, 125, 3100, ca 1, mn), (xp, 127, 3300, ca 1, fu)] [([(201, 0)], jQc dC dI (ca 4) yfd_1 3 fd), (jFrd, jRD dC dI ca G0 none rq)] H_7 locs_7 → (0 ≤ v2_7.toInt ∧ v2_7.toInt ≤ dc.toInt ∧ jdF T9 nd9 a1.toInt (jdRl rq fd) (jdRx rq fd) (dc.toInt - v2_7.toInt).toNat v2_7.toInt = jdF T9 nd9 a1.toInt (jdRl rq fd) (jdRx rq fd) (dc.toInt).toNat 0) → (dc.toInt - v2_7.toInt : Int) < N → ∀ ls : Array Slot, lv_has ls 6 [(0, .ref r0), (1, .int a1), (2, .int v2_7)] → W p l e R s m ([.ref r0, .int a1] : List Value).toArray below meth c H_7 locs_7 0 0 Q (F0 m 12 ls []) := by
      intro N
      induction N with
      | zero => intro v2_7 H_7 locs_7 hh_7  hi_7 hm; exact absurd hm (by omega)
      | succ N L12 =>
        intro v2_7 H_7 locs_7 hh_7  hi_7 hm_7 ls hl
        obtain ⟨hi_7_0, hi_7_1, hi_7_2⟩ := hi_7
        refine lv_iload_n hx hb dX14_documentOf_12 rfl (lv_at hl 2 rfl) ?_
        refine lv_aload_n hx hb dX14_documentOf_13 rfl (lv_at hl 0 rfl) ?_
        refine j7_read hx hb hown hK (C := RX14) (T := TX14) (N := 74) rfl hly_16_42 hlk_505 (hh_7.at 1 rfl) dX14_documentOf_14 ?_
        refine lv_icmp_ge (tgt := 121) hx hb dX14_documentOf_17 (by decide) (fun c_8 => ?_) (fun c_8 => ?_)
        · skip
          have c_8' : v2_7.toInt ≥ dc.toInt := jb_ge (rfl) (rfl) c_8
          refine lv_null hx hb dX14_documentOf_121 ?_
          have hHf_9 : jHd dC dI ca G0 r0 fd dc H_7 := ⟨yfd_1, ⟨_, hg_r0⟩, hgfd_1, hh_7.2.2.1.sub (L1 := [(r0, 16, 41, .ref yfd_1), (r0, 16, 42, .int dc)]) [0, 1] rfl, hh_7.2.2.2.2.2.2.2.1.sub (L1 := []) [] rfl, hh_7.iv 0 rfl, trivial⟩
          have hh_10 := hh_7.sub (L1 := [(r0, 16, 41, .ref yfd_1), (r0, 16, 42, .int dc), (r0, 16, 17, .ref zm), (r0, 16, 18, .ref xh), (r0, 16, 19, .ref xn), (r0, 16, 20, .ref xf), (r0, 16, 21, .ref xt), (r0, 16, 22, .ref xb), (r0, 16, 23, .ref xe), (r0, 16, 24, .ref xi), (r0, 16, 25, .ref xg), (r0, 16, 27, .ref xp)]) [0, 1, 2, 3, 4, 5, 6, 7, 8, 9, 10, 11] rfl (M1 := [(zm, 117, 3100, ca 1, ms), (xh, 118, 3100, ca 1, mh), (xn, 119, 3100, ca 1, mx), (xf, 120, 3100, ca 1, mf), (xt, 121, 3100, ca 1, mt), (xb, 122, 3100, ca 1, mb), (xe, 123, 3100, ca 1, me), (xi, 124, 3100, ca 3, mi), (xg, 125, 3100, ca 1, mn), (xp, 127, 3300, ca 1, fu)]) [0, 1, 2, 3, 4, 5, 6, 7, 8, 9] rfl (I1 := [(jFrd, jRD dC dI ca G0 none rq)]) [1] rfl
          clear hh_7
          have hh_11 := hh_10.addI (jHd.ie hHf_9)
          clear hh_10
          rw [hQ]
          exact W.aret (v := .null) hx hb hr (Or.inl ⟨_, rfl⟩) (Or.inl rfl) (fun t ht hW => ⟨⟨.null, (), rfl, ⟨Or.inl rfl, by rw [← hi_7_2, show (dc.toInt - v2_7.toInt).toNat = 0 by omega]; rfl⟩, ⟨hh_11.rt (M1 := []) [] rfl ht, by rw [ht]; exact hh_11.2.2.2.2.2.2.2.2.sub (L1 := [(jFrd, jRD dC dI ca G0 none rq), (jFHd, jHd dC dI ca G0 r0 fd dc)]) [1, 0] rfl⟩⟩, by rw [ht]; try exact hh_11.1.1, fun q h9 hq => by rw [ht]; try exact hh_11.1.2.1 q h9 hq⟩) hh_11.1.2.2 dX14_documentOf_122
        · skip
          have c_8' : v2_7.toInt < dc.toInt := jb_ge_n (rfl) (rfl) c_8
          refine lv_aload_n hx hb dX14_documentOf_20 rfl (lv_at hl 0 rfl) ?_
          refine j7_read hx hb hown hK (C := RX14) (T := TX14) (N := 74) rfl hly_16_41 hlk_74 (hh_7.at 0 rfl) dX14_documentOf_21 ?_
          refine lv_iload_n hx hb dX14_documentOf_24 rfl (lv_at hl 2 rfl) ?_
          refine j7_qaldI hx hb hK2 hh_7 hB201 0 rfl (by decide) hgfd_1 (x := v2_7.toInt) (rfl) (by omega) (hh_7.iv 0 rfl) dX14_documentOf_25 (fun o_12 ho_12 heo_12 => ?_)
          obtain ⟨el_13, rfl, hg_el_13⟩ := ho_12
          simp only [va_rf]
          have hat9 : fd v2_7.toInt.toNat = some el_13 := heo_12.symm
          refine lv_astore_n (lv' := [(3, .ref el_13), (0, .ref r0), (1, .int a1), (2, .int v2_7)]) hx hb dX14_documentOf_26 rfl hl (by decide) rfl (fun ls hl => ?_)
          obtain ⟨ut_14, uz_14, hgt_14, hgz_14, huP_14, huM_14⟩ := jRD.at (hh_7.iv 1 rfl) hg_el_13 (fun q => by cases q)
          have hh_15 := ((hh_7.sub (L1 := [(r0, 16, 41, .ref yfd_1), (r0, 16, 42, .int dc), (r0, 16, 17, .ref zm), (r0, 16, 18, .ref xh), (r0, 16, 19, .ref xn), (r0, 16, 20, .ref xf), (r0, 16, 21, .ref xt), (r0, 16, 22, .ref xb), (r0, 16, 23, .ref xe), (r0, 16, 24, .ref xi), (r0, 16, 25, .ref xg), (r0, 16, 27, .ref xp)]) [0, 1, 2, 3, 4, 5, 6, 7, 8, 9, 10, 11] rfl (M1 := [(zm, 117, 3100, ca 1, ms), (xh, 118, 3100, ca 1, mh), (xn, 119, 3100, ca 1, mx), (xf, 120, 3100, ca 1, mf), (xt, 121, 3100, ca 1, mt), (xb, 122, 3100, ca 1, mb), (xe, 123, 3100, ca 1, me), (xi, 124, 3100, ca 3, mi), (xg, 125, 3100, ca 1, mn), (xp, 127, 3300, ca 1, fu)]) [0, 1, 2, 3, 4, 5, 6, 7, 8, 9] rfl (I1 := [([(201, 0)], jQc dC dI (ca 4) yfd_1 3 fd), (jFrd, jRD dC dI ca G0 none rq)]) [0, 1] rfl).more huP_14).moreM huM_14
          clear hh_7
          have hbl9 := hp4.2.2.2 el_13
          refine lv_aload_n hx hb dX14_documentOf_27 rfl (lv_at hl 0 rfl) ?_
          refine j7_readN hx hb hown hK (C := RX12) (T := TX12) (N := 11) rfl hly_14_1 hlk_508 (hh_15.at 4 rfl) dX14_documentOf_28 ?_
          refine lv_aload_n hx hb dX14_documentOf_31 rfl (lv_at hl 1 rfl) ?_
          refine j7_read hx hb hown hK (C := RX14) (T := TX14) (N := 74) rfl hly_16_23 hlk_55 (hh_15.at 13 rfl) dX14_documentOf_32 ?_
          refine lv_iload_n hx hb dX14_documentOf_35 rfl (lv_at hl 2 rfl) ?_
          refine j7_ialdM hx hb hK hh_15 hB123 1 rfl (by decide) hg_xe (x := a1.toInt) (rfl) (by omega) (j := 8) rfl dX14_documentOf_36 (fun z_16 ez_16 (hz_16 : 0 ≤ z_16.toInt ∧ z_16.toInt ≤ 3100) => ?_)
          have hqz_16 : z_16.toInt = jSo me (a1.toInt) := by unfold jSo; rw [ez_16]
          refine lv_aload_n hx hb dX14_documentOf_37 rfl (lv_at hl 1 rfl) ?_
          refine j7_read hx hb hown hK (C := RX14) (T := TX14) (N := 74) rfl hly_16_22 hlk_52 (hh_15.at 12 rfl) dX14_documentOf_38 ?_
          refine lv_iload_n hx hb dX14_documentOf_41 rfl (lv_at hl 2 rfl) ?_
          refine j7_ialdM hx hb hK hh_15 hB122 1 rfl (by decide) hg_xb (x := a1.toInt) (rfl) (by omega) (j := 7) rfl dX14_documentOf_42 (fun z_17 ez_17 (hz_17 : 0 ≤ z_17.toInt ∧ z_17.toInt ≤ 3100) => ?_)
          have hqz_17 : z_17.toInt = jSo mb (a1.toInt) := by unfold jSo; rw [ez_17]
          refine lv_isub hx hb dX14_documentOf_43 ?_
          refine lv_topi (fun z_18 ez_18 => ?_)
          have hz_18 : z_18.toInt = z_16.toInt - z_17.toInt := by rw [ez_18]; exact jb_isub2 (rfl) (rfl) (by omega)
          refine lv_icmp_ne (tgt := 51) hx hb dX14_documentOf_44 (by decide) (fun c_19 => ?_) (fun c_19 => ?_)
          · skip
            have c_19' : (rq.ul el_13).toInt ≠ z_18.toInt := jb_ne (rfl) (rfl) c_19
            refine lv_iconst (v := 0) hx hb dX14_documentOf_51 (by decide) ?_
            refine lv_istore (lv' := [(4, .int 0), (3, .ref el_13), (0, .ref r0), (1, .int a1), (2, .int v2_7)]) hx hb dX14_documentOf_52 hl (by decide) rfl (fun ls hl => ?_)
            refine lv_iconst (v := 0) hx hb dX14_documentOf_54 (by decide) ?_
            refine lv_istore (lv' := [(5, .int 0), (4, .int 0), (3, .ref el_13), (0, .ref r0), (1, .int a1), (2, .int v2_7)]) hx hb dX14_documentOf_55 hl (by decide) rfl (fun ls hl => ?_)
            have L57 : ∀ (N : Nat) (v4_20 : Int32) (v5_20 : Int32) (H_20 : Heap) (locs_20 : List Loc), jSt (dC, dI) B base G0 G0 EX14_documentOfW s.heap 0 0 [(el_13, 14, 3, .ref ut_14), (el_13, 14, 0, .ref uz_14), (el_13, 14, 2, .int (rq.ve el_13)), (el_13, 14, 4, .int (rq.ln el_13)), (el_13, 14, 1, .int (rq.ul el_13)), (r0, 16, 41, .ref yfd_1), (r0, 16, 42, .int dc), (r0, 16, 17, .ref zm), (r0, 16, 18, .ref xh), (r0, 16, 19, .ref xn), (r0, 16, 20, .ref xf), (r0, 16, 21, .ref xt), (r0, 16, 22, .ref xb), (r0, 16, 23, .ref xe), (r0, 16, 24, .ref xi), (r0, 16, 25, .ref xg), (r0, 16, 27, .ref xp)] [(ut_14, 194, 1500, ca 1, (rq.tx el_13)), (uz_14, 195, 40, ca 1, (rq.ux el_13)), (zm, 117, 3100, ca 1, ms), (xh, 118, 3100, ca 1, mh), (xn, 119, 3100, ca 1, mx), (xf, 120, 3100, ca 1, mf), (xt, 121, 3100, ca 1, mt), (xb, 122, 3100, ca 1, mb), (xe, 123, 3100, ca 1, me), (xi, 124, 3100, ca 3, mi), (xg, 125, 3100, ca 1, mn), (xp, 127, 3300, ca 1, fu)] [([(201, 0)], jQc dC dI (ca 4) yfd_1 3 fd), (jFrd, jRD dC dI ca G0 none rq)] H_20 locs_20 → (v4_20 = 0 ∨ v4_20 = 1) → (0 ≤ v5_20.toInt ∧ 0 ≤ v4_20.toInt ∧ v4_20.toInt ≤ 1 ∧ (v4_20.toInt = 1 → T9 3 a1.toInt = (rq.ul el_13).toInt ∧ v5_20.toInt ≤ (rq.ul el_13).toInt ∧ jqEl T9 nd9 a1.toInt (jSo (rq.ux el_13)) (v5_20.toInt).toNat = 1) ∧ (v4_20.toInt = 0 → jqE T9 nd9 a1.toInt (jSo (rq.ux el_13)) (rq.ul el_13).toInt ≠ 1)) → (((rq.ul el_13).toInt - v5_20.toInt).toNat + v4_20.toInt : Int) < N → ∀ ls : Array Slot, lv_has ls 6 [(0, .ref r0), (1, .int a1), (2, .int v2_7), (3, .ref el_13), (4, .int v4_20), (5, .int v5_20)] → W p l e R s m ([.ref r0, .int a1] : List Value).toArray below meth c H_20 locs_20 0 0 Q (F0 m 57 ls []) := by
              intro N
              induction N with
              | zero => intro v4_20 v5_20 H_20 locs_20 hh_20 hb_v4_20 hi_20 hm; exact absurd hm (by omega)
              | succ N L57 =>
                intro v4_20 v5_20 H_20 locs_20 hh_20 hb_v4_20 hi_20 hm_20 ls hl
                obtain ⟨hi_20_0, hi_20_1, hi_20_2, hi_20_3, hi_20_4⟩ := hi_20
                have hb_v4_20' := jb_01 hb_v4_20
                refine lv_iload hx hb dX14_documentOf_57 (lv_at hl 5 rfl) ?_
                refine lv_aload_n hx hb dX14_documentOf_59 rfl (lv_at hl 3 rfl) ?_
                refine j7_readN hx hb hown hK (C := RX12) (T := TX12) (N := 11) rfl hly_14_1 hlk_508 (hh_20.at 4 rfl) dX14_documentOf_60 ?_
                refine lv_icmp_ge (tgt := 108) hx hb dX14_documentOf_63 (by decide) (fun c_21 => ?_) (fun c_21 => ?_)
                · skip
                  have c_21' : v5_20.toInt ≥ (rq.ul el_13).toInt := jb_ge (rfl) (rfl) c_21
                  refine lv_iload hx hb dX14_documentOf_108 (lv_at hl 4 rfl) ?_
                  refine lv_if_eq (tgt := 115) hx hb dX14_documentOf_110 (by decide) (fun c_22 => ?_) (fun c_22 => ?_)
                  · skip
                    have c_22' : v4_20.toInt = 0 := jb_eq (rfl) ((by decide)) c_22
                    obtain ⟨z_23, ez_23⟩ : ∃ y : Int32, y = v2_7 + 1 := ⟨_, rfl⟩
                    refine lv_iinc (v := z_23) (lv' := [(2, .int z_23), (0, .ref r0), (1, .int a1), (3, .ref el_13), (4, .int v4_20), (5, .int v5_20)]) hx hb dX14_documentOf_115 hl (k := 2) rfl (by rw [ez_23]; rfl) (by decide) rfl (fun ls hl => ?_)
                    have hz_23 : z_23.toInt = v2_7.toInt + 1 := by rw [ez_23]; exact jb_iadd2 (rfl) (by decide) (by omega)
                    refine lv_goto (tgt := 12) hx hb dX14_documentOf_118 (by decide) ?_
                    exact L12 z_23 _ _ (hh_20.sub (L1 := [(r0, 16, 41, .ref yfd_1), (r0, 16, 42, .int dc), (r0, 16, 17, .ref zm), (r0, 16, 18, .ref xh), (r0, 16, 19, .ref xn), (r0, 16, 20, .ref xf), (r0, 16, 21, .ref xt), (r0, 16, 22, .ref xb), (r0, 16, 23, .ref xe), (r0, 16, 24, .ref xi), (r0, 16, 25, .ref xg), (r0, 16, 27, .ref xp)]) [5, 6, 7, 8, 9, 10, 11, 12, 13, 14, 15, 16] rfl (M1 := [(zm, 117, 3100, ca 1, ms), (xh, 118, 3100, ca 1, mh), (xn, 119, 3100, ca 1, mx), (xf, 120, 3100, ca 1, mf), (xt, 121, 3100, ca 1, mt), (xb, 122, 3100, ca 1, mb), (xe, 123, 3100, ca 1, me), (xi, 124, 3100, ca 3, mi), (xg, 125, 3100, ca 1, mn), (xp, 127, 3300, ca 1, fu)]) [2, 3, 4, 5, 6, 7, 8, 9, 10, 11] rfl (I1 := [([(201, 0)], jQc dC dI (ca 4) yfd_1 3 fd), (jFrd, jRD dC dI ca G0 none rq)]) [0, 1] rfl) (by refine ⟨by omega, by omega, ?_⟩; rw [show (dc.toInt - (z_23).toInt).toNat = (dc.toInt - v2_7.toInt).toNat - 1 by omega]; exact (jdF_s (by omega) (by rw [jdRx.at hat9, jdRl.at hat9]; exact hi_20_4 (by omega)) (by omega)).trans hi_7_2) (by omega) _ (lv_sub hl [1, 2, 0] rfl)
                  · skip
                    have c_22' : v4_20.toInt ≠ 0 := jb_eq_n (rfl) ((by decide)) c_22
                    refine lv_aload_n hx hb dX14_documentOf_113 rfl (lv_at hl 3 rfl) ?_
                    have hHf_24 : jHd dC dI ca G0 r0 fd dc H_20 := ⟨yfd_1, ⟨_, hg_r0⟩, hgfd_1, hh_20.2.2.1.sub (L1 := [(r0, 16, 41, .ref yfd_1), (r0, 16, 42, .int dc)]) [5, 6] rfl, hh_20.2.2.2.2.2.2.2.1.sub (L1 := []) [] rfl, hh_20.iv 0 rfl, trivial⟩
                    have hh_25 := hh_20.sub (L1 := [(el_13, 14, 3, .ref ut_14), (el_13, 14, 0, .ref uz_14), (el_13, 14, 2, .int (rq.ve el_13)), (el_13, 14, 4, .int (rq.ln el_13)), (el_13, 14, 1, .int (rq.ul el_13)), (r0, 16, 41, .ref yfd_1), (r0, 16, 42, .int dc), (r0, 16, 17, .ref zm), (r0, 16, 18, .ref xh), (r0, 16, 19, .ref xn), (r0, 16, 20, .ref xf), (r0, 16, 21, .ref xt), (r0, 16, 22, .ref xb), (r0, 16, 23, .ref xe), (r0, 16, 24, .ref xi), (r0, 16, 25, .ref xg), (r0, 16, 27, .ref xp)]) [0, 1, 2, 3, 4, 5, 6, 7, 8, 9, 10, 11, 12, 13, 14, 15, 16] rfl (M1 := [(ut_14, 194, 1500, ca 1, (rq.tx el_13)), (uz_14, 195, 40, ca 1, (rq.ux el_13)), (zm, 117, 3100, ca 1, ms), (xh, 118, 3100, ca 1, mh), (xn, 119, 3100, ca 1, mx), (xf, 120, 3100, ca 1, mf), (xt, 121, 3100, ca 1, mt), (xb, 122, 3100, ca 1, mb), (xe, 123, 3100, ca 1, me), (xi, 124, 3100, ca 3, mi), (xg, 125, 3100, ca 1, mn), (xp, 127, 3300, ca 1, fu)]) [0, 1, 2, 3, 4, 5, 6, 7, 8, 9, 10, 11] rfl (I1 := [(jFrd, jRD dC dI ca G0 none rq)]) [1] rfl
                    clear hh_20
                    have hh_26 := hh_25.addI (jHd.ie hHf_24)
                    clear hh_25
                    rw [hQ]
                    exact W.aret (v := .ref el_13) hx hb hr (Or.inl ⟨_, rfl⟩) (Or.inr ⟨_, rfl⟩) (fun t ht hW => ⟨⟨.ref el_13, (), rfl, ⟨Or.inr ⟨_, rfl, hg_el_13⟩, by rw [← hi_7_2, jdF_y (by omega) (by rw [jdRx.at hat9, jdRl.at hat9]; obtain ⟨e1, e2, e3⟩ := hi_20_3 (by omega); exact jqE.y hk3 e1 (by rw [← e3]; congr 1; omega))]; exact (congrArg va_rf hat9.symm).trans (if_neg (by omega)).symm⟩, ⟨hh_26.rt (M1 := []) [] rfl ht, by rw [ht]; exact hh_26.2.2.2.2.2.2.2.2.sub (L1 := [(jFrd, jRD dC dI ca G0 none rq), (jFHd, jHd dC dI ca G0 r0 fd dc)]) [1, 0] rfl⟩⟩, by rw [ht]; try exact hh_26.1.1, fun q h9 hq => by rw [ht]; try exact hh_26.1.2.1 q h9 hq⟩) hh_26.1.2.2 dX14_documentOf_114
                · skip
                  have c_21' : v5_20.toInt < (rq.ul el_13).toInt := jb_ge_n (rfl) (rfl) c_21
                  refine lv_iload hx hb dX14_documentOf_66 (lv_at hl 4 rfl) ?_
                  refine lv_if_eq (tgt := 108) hx hb dX14_documentOf_68 (by decide) (fun c_27 => ?_) (fun c_27 => ?_)
                  · skip
                    have c_27' : v4_20.toInt = 0 := jb_eq (rfl) ((by decide)) c_27
                    refine lv_iload hx hb dX14_documentOf_108 (lv_at hl 4 rfl) ?_
                    refine lv_if_eq (tgt := 115) hx hb dX14_documentOf_110 (by decide) (fun c_28 => ?_) (fun c_28 => ?_)
                    · skip
                      have c_28' : v4_20.toInt = 0 := jb_eq (rfl) ((by decide)) c_28
                      obtain ⟨z_29, ez_29⟩ : ∃ y : Int32, y = v2_7 + 1 := ⟨_, rfl⟩
                      refine lv_iinc (v := z_29) (lv' := [(2, .int z_29), (0, .ref r0), (1, .int a1), (3, .ref el_13), (4, .int v4_20), (5, .int v5_20)]) hx hb dX14_documentOf_115 hl (k := 2) rfl (by rw [ez_29]; rfl) (by decide) rfl (fun ls hl => ?_)
                      have hz_29 : z_29.toInt = v2_7.toInt + 1 := by rw [ez_29]; exact jb_iadd2 (rfl) (by decide) (by omega)
                      refine lv_goto (tgt := 12) hx hb dX14_documentOf_118 (by decide) ?_
                      exact L12 z_29 _ _ (hh_20.sub (L1 := [(r0, 16, 41, .ref yfd_1), (r0, 16, 42, .int dc), (r0, 16, 17, .ref zm), (r0, 16, 18, .ref xh), (r0, 16, 19, .ref xn), (r0, 16, 20, .ref xf), (r0, 16, 21, .ref xt), (r0, 16, 22, .ref xb), (r0, 16, 23, .ref xe), (r0, 16, 24, .ref xi), (r0, 16, 25, .ref xg), (r0, 16, 27, .ref xp)]) [5, 6, 7, 8, 9, 10, 11, 12, 13, 14, 15, 16] rfl (M1 := [(zm, 117, 3100, ca 1, ms), (xh, 118, 3100, ca 1, mh), (xn, 119, 3100, ca 1, mx), (xf, 120, 3100, ca 1, mf), (xt, 121, 3100, ca 1, mt), (xb, 122, 3100, ca 1, mb), (xe, 123, 3100, ca 1, me), (xi, 124, 3100, ca 3, mi), (xg, 125, 3100, ca 1, mn), (xp, 127, 3300, ca 1, fu)]) [2, 3, 4, 5, 6, 7, 8, 9, 10, 11] rfl (I1 := [([(201, 0)], jQc dC dI (ca 4) yfd_1 3 fd), (jFrd, jRD dC dI ca G0 none rq)]) [0, 1] rfl) (by refine ⟨by omega, by omega, ?_⟩; rw [show (dc.toInt - (z_29).toInt).toNat = (dc.toInt - v2_7.toInt).toNat - 1 by omega]; exact (jdF_s (by omega) (by rw [jdRx.at hat9, jdRl.at hat9]; exact hi_20_4 (by omega)) (by omega)).trans hi_7_2) (by omega) _ (lv_sub hl [1, 2, 0] rfl)
                    · skip
                      have c_28' : v4_20.toInt ≠ 0 := jb_eq_n (rfl) ((by decide)) c_28
                      exact (by omega : False).elim
                  · skip
                    have c_27' : v4_20.toInt ≠ 0 := jb_eq_n (rfl) ((by decide)) c_27
                    refine lv_aload_n hx hb dX14_documentOf_71 rfl (lv_at hl 3 rfl) ?_
                    refine j7_readN hx hb hown hK (C := RX12) (T := TX12) (N := 11) rfl hly_14_0 hlk_511 (hh_20.at 1 rfl) dX14_documentOf_72 ?_
                    refine lv_iload hx hb dX14_documentOf_75 (lv_at hl 5 rfl) ?_
                    refine j7_ialdM hx hb hK hh_20 hB195 1 rfl (by decide) hgz_14 (x := v5_20.toInt) (rfl) (by omega) (j := 1) rfl dX14_documentOf_77 (fun z_30 ez_30 (hz_30 : True) => ?_)
                    have hqz_30 : z_30.toInt = jSo (rq.ux el_13) (v5_20.toInt) := by unfold jSo; rw [ez_30]
                    refine lv_aload_n hx hb dX14_documentOf_78 rfl (lv_at hl 0 rfl) ?_
                    refine j7_read hx hb hown hK (C := RX14) (T := TX14) (N := 74) rfl hly_16_27 hlk_65 (hh_20.at 16 rfl) dX14_documentOf_79 ?_
                    refine lv_aload_n hx hb dX14_documentOf_82 rfl (lv_at hl 0 rfl) ?_
                    refine j7_read hx hb hown hK (C := RX14) (T := TX14) (N := 74) rfl hly_16_22 hlk_52 (hh_20.at 12 rfl) dX14_documentOf_83 ?_
                    refine lv_iload_n hx hb dX14_documentOf_86 rfl (lv_at hl 1 rfl) ?_
                    refine j7_ialdM hx hb hK hh_20 hB122 1 rfl (by decide) hg_xb (x := a1.toInt) (rfl) (by omega) (j := 7) rfl dX14_documentOf_87 (fun z_31 ez_31 (hz_31 : 0 ≤ z_31.toInt ∧ z_31.toInt ≤ 3100) => ?_)
                    have hqz_31 : z_31.toInt = jSo mb (a1.toInt) := by unfold jSo; rw [ez_31]
                    refine lv_iload hx hb dX14_documentOf_88 (lv_at hl 5 rfl) ?_
                    refine lv_iadd hx hb dX14_documentOf_90 ?_
                    refine lv_topi (fun z_32 ez_32 => ?_)
                    have hz_32 : z_32.toInt = z_31.toInt + v5_20.toInt := by rw [ez_32]; exact jb_iadd2 (rfl) (rfl) (by omega)
                    refine j7_ialdM hx hb hK hh_20 hB127 1 rfl (by decide) hg_xp (x := z_32.toInt) (rfl) (by omega) (j := 11) rfl dX14_documentOf_91 (fun z_33 ez_33 (hz_33 : True) => ?_)
                    have hqz_33 : z_33.toInt = jSo fu ((z_31.toInt + v5_20.toInt)) := by unfold jSo; rw [ez_33, show z_32.toInt = (z_31.toInt + v5_20.toInt) by omega]
                    refine lv_icmp_ne (tgt := 99) hx hb dX14_documentOf_92 (by decide) (fun c_34 => ?_) (fun c_34 => ?_)
                    · skip
                      have c_34' : z_30.toInt ≠ z_33.toInt := jb_ne (rfl) (rfl) c_34
                      refine lv_iconst (v := 0) hx hb dX14_documentOf_99 (by decide) ?_
                      refine lv_istore (lv' := [(4, .int 0), (0, .ref r0), (1, .int a1), (2, .int v2_7), (3, .ref el_13), (5, .int v5_20)]) hx hb dX14_documentOf_100 hl (by decide) rfl (fun ls hl => ?_)
                      obtain ⟨z_35, ez_35⟩ : ∃ y : Int32, y = v5_20 + 1 := ⟨_, rfl⟩
                      refine lv_iinc (v := z_35) (lv' := [(5, .int z_35), (4, .int 0), (0, .ref r0), (1, .int a1), (2, .int v2_7), (3, .ref el_13)]) hx hb dX14_documentOf_102 hl (k := 5) rfl (by rw [ez_35]; rfl) (by decide) rfl (fun ls hl => ?_)
                      have hz_35 : z_35.toInt = v5_20.toInt + 1 := by rw [ez_35]; exact jb_iadd2 (rfl) (by decide) (by omega)
                      refine lv_goto (tgt := 57) hx hb dX14_documentOf_105 (by decide) ?_
                      exact L57 0 z_35 _ _ hh_20 (Or.inl rfl) (by obtain ⟨e1, e2, e3⟩ := hi_20_3 (by omega); have hu9 := hp2.un hk3 (j := v5_20.toInt) (by omega) (by omega); exact ⟨by omega, by omega, by omega, fun q => absurd q (by decide), fun _ => jqE.n2 (j := v5_20.toInt) (by omega) (by omega) (by rw [← hu9]; have h9 := hqz_30; have h5 := (congrArg (jSo fu) (by have h4 := hqz_31; have h3 := hst9.2.2.1; omega : T9 2 a1.toInt + v5_20.toInt = _)).trans hqz_33.symm; omega)⟩) (by omega) _ (lv_sub hl [2, 3, 4, 5, 1, 0] rfl)
                    · skip
                      have c_34' : z_30.toInt = z_33.toInt := jb_ne_n (rfl) (rfl) c_34
                      refine lv_iconst (v := 1) hx hb dX14_documentOf_95 (by decide) ?_
                      refine lv_goto (tgt := 100) hx hb dX14_documentOf_96 (by decide) ?_
                      refine lv_istore (lv' := [(4, .int 1), (0, .ref r0), (1, .int a1), (2, .int v2_7), (3, .ref el_13), (5, .int v5_20)]) hx hb dX14_documentOf_100 hl (by decide) rfl (fun ls hl => ?_)
                      obtain ⟨z_36, ez_36⟩ : ∃ y : Int32, y = v5_20 + 1 := ⟨_, rfl⟩
                      refine lv_iinc (v := z_36) (lv' := [(5, .int z_36), (4, .int 1), (0, .ref r0), (1, .int a1), (2, .int v2_7), (3, .ref el_13)]) hx hb dX14_documentOf_102 hl (k := 5) rfl (by rw [ez_36]; rfl) (by decide) rfl (fun ls hl => ?_)
                      have hz_36 : z_36.toInt = v5_20.toInt + 1 := by rw [ez_36]; exact jb_iadd2 (rfl) (by decide) (by omega)
                      refine lv_goto (tgt := 57) hx hb dX14_documentOf_105 (by decide) ?_
                      exact L57 1 z_36 _ _ hh_20 (Or.inr rfl) (by obtain ⟨e1, e2, e3⟩ := hi_20_3 (by omega); have hu9 := hp2.un hk3 (j := v5_20.toInt) (by omega) (by omega); refine ⟨by omega, by omega, by omega, fun _ => ⟨by omega, by omega, ?_⟩, fun q => absurd q (by decide)⟩; rw [show (z_36).toInt.toNat = v5_20.toInt.toNat + 1 by omega]; exact jqEl_1 e3 (by rw [show ((v5_20.toInt.toNat : Nat) : Int) = v5_20.toInt by omega, ← hu9]; have h9 := hqz_30; have h5 := (congrArg (jSo fu) (by have h4 := hqz_31; have h3 := hst9.2.2.1; omega : T9 2 a1.toInt + v5_20.toInt = _)).trans hqz_33.symm; omega)) (by omega) _ (lv_sub hl [2, 3, 4, 5, 1, 0] rfl)
            exact L57 (((rq.ul el_13).toInt - (0 : Int32).toInt).toNat + (0 : Int32).toInt : Int).toNat.succ 0 0 _ _ hh_15 (Or.inl rfl) (by refine ⟨by omega, by omega, by omega, fun q => absurd q (by decide), fun _ => jqE.n1 (by omega)⟩) (by omega) _ (lv_sub hl [3, 4, 5, 2, 1, 0] rfl)
          · skip
            have c_19' : (rq.ul el_13).toInt = z_18.toInt := jb_ne_n (rfl) (rfl) c_19
            refine lv_iconst (v := 1) hx hb dX14_documentOf_47 (by decide) ?_
            refine lv_goto (tgt := 52) hx hb dX14_documentOf_48 (by decide) ?_
            refine lv_istore (lv' := [(4, .int 1), (3, .ref el_13), (0, .ref r0), (1, .int a1), (2, .int v2_7)]) hx hb dX14_documentOf_52 hl (by decide) rfl (fun ls hl => ?_)
            refine lv_iconst (v := 0) hx hb dX14_documentOf_54 (by decide) ?_
            refine lv_istore (lv' := [(5, .int 0), (4, .int 1), (3, .ref el_13), (0, .ref r0), (1, .int a1), (2, .int v2_7)]) hx hb dX14_documentOf_55 hl (by decide) rfl (fun ls hl => ?_)
            have L57 : ∀ (N : Nat) (v4_37 : Int32) (v5_37 : Int32) (H_37 : Heap) (locs_37 : List Loc), jSt (dC, dI) B base G0 G0 EX14_documentOfW s.heap 0 0 [(el_13, 14, 3, .ref ut_14), (el_13, 14, 0, .ref uz_14), (el_13, 14, 2, .int (rq.ve el_13)), (el_13, 14, 4, .int (rq.ln el_13)), (el_13, 14, 1, .int (rq.ul el_13)), (r0, 16, 41, .ref yfd_1), (r0, 16, 42, .int dc), (r0, 16, 17, .ref zm), (r0, 16, 18, .ref xh), (r0, 16, 19, .ref xn), (r0, 16, 20, .ref xf), (r0, 16, 21, .ref xt), (r0, 16, 22, .ref xb), (r0, 16, 23, .ref xe), (r0, 16, 24, .ref xi), (r0, 16, 25, .ref xg), (r0, 16, 27, .ref xp)] [(ut_14, 194, 1500, ca 1, (rq.tx el_13)), (uz_14, 195, 40, ca 1, (rq.ux el_13)), (zm, 117, 3100, ca 1, ms), (xh, 118, 3100, ca 1, mh), (xn, 119, 3100, ca 1, mx), (xf, 120, 3100, ca 1, mf), (xt, 121, 3100, ca 1, mt), (xb, 122, 3100, ca 1, mb), (xe, 123, 3100, ca 1, me), (xi, 124, 3100, ca 3, mi), (xg, 125, 3100, ca 1, mn), (xp, 127, 3300, ca 1, fu)] [([(201, 0)], jQc dC dI (ca 4) yfd_1 3 fd), (jFrd, jRD dC dI ca G0 none rq)] H_37 locs_37 → (v4_37 = 0 ∨ v4_37 = 1) → (0 ≤ v5_37.toInt ∧ 0 ≤ v4_37.toInt ∧ v4_37.toInt ≤ 1 ∧ (v4_37.toInt = 1 → T9 3 a1.toInt = (rq.ul el_13).toInt ∧ v5_37.toInt ≤ (rq.ul el_13).toInt ∧ jqEl T9 nd9 a1.toInt (jSo (rq.ux el_13)) (v5_37.toInt).toNat = 1) ∧ (v4_37.toInt = 0 → jqE T9 nd9 a1.toInt (jSo (rq.ux el_13)) (rq.ul el_13).toInt ≠ 1)) → (((rq.ul el_13).toInt - v5_37.toInt).toNat + v4_37.toInt : Int) < N → ∀ ls : Array Slot, lv_has ls 6 [(0, .ref r0), (1, .int a1), (2, .int v2_7), (3, .ref el_13), (4, .int v4_37), (5, .int v5_37)] → W p l e R s m ([.ref r0, .int a1] : List Value).toArray below meth c H_37 locs_37 0 0 Q (F0 m 57 ls []) := by
              intro N
              induction N with
              | zero => intro v4_37 v5_37 H_37 locs_37 hh_37 hb_v4_37 hi_37 hm; exact absurd hm (by omega)
              | succ N L57 =>
                intro v4_37 v5_37 H_37 locs_37 hh_37 hb_v4_37 hi_37 hm_37 ls hl
                obtain ⟨hi_37_0, hi_37_1, hi_37_2, hi_37_3, hi_37_4⟩ := hi_37
                have hb_v4_37' := jb_01 hb_v4_37
                refine lv_iload hx hb dX14_documentOf_57 (lv_at hl 5 rfl) ?_
                refine lv_aload_n hx hb dX14_documentOf_59 rfl (lv_at hl 3 rfl) ?_
                refine j7_readN hx hb hown hK (C := RX12) (T := TX12) (N := 11) rfl hly_14_1 hlk_508 (hh_37.at 4 rfl) dX14_documentOf_60 ?_
                refine lv_icmp_ge (tgt := 108) hx hb dX14_documentOf_63 (by decide) (fun c_38 => ?_) (fun c_38 => ?_)
                · skip
                  have c_38' : v5_37.toInt ≥ (rq.ul el_13).toInt := jb_ge (rfl) (rfl) c_38
                  refine lv_iload hx hb dX14_documentOf_108 (lv_at hl 4 rfl) ?_
                  refine lv_if_eq (tgt := 115) hx hb dX14_documentOf_110 (by decide) (fun c_39 => ?_) (fun c_39 => ?_)
                  · skip
                    have c_39' : v4_37.toInt = 0 := jb_eq (rfl) ((by decide)) c_39
                    obtain ⟨z_40, ez_40⟩ : ∃ y : Int32, y = v2_7 + 1 := ⟨_, rfl⟩
                    refine lv_iinc (v := z_40) (lv' := [(2, .int z_40), (0, .ref r0), (1, .int a1), (3, .ref el_13), (4, .int v4_37), (5, .int v5_37)]) hx hb dX14_documentOf_115 hl (k := 2) rfl (by rw [ez_40]; rfl) (by decide) rfl (fun ls hl => ?_)
                    have hz_40 : z_40.toInt = v2_7.toInt + 1 := by rw [ez_40]; exact jb_iadd2 (rfl) (by decide) (by omega)
                    refine lv_goto (tgt := 12) hx hb dX14_documentOf_118 (by decide) ?_
                    exact L12 z_40 _ _ (hh_37.sub (L1 := [(r0, 16, 41, .ref yfd_1), (r0, 16, 42, .int dc), (r0, 16, 17, .ref zm), (r0, 16, 18, .ref xh), (r0, 16, 19, .ref xn), (r0, 16, 20, .ref xf), (r0, 16, 21, .ref xt), (r0, 16, 22, .ref xb), (r0, 16, 23, .ref xe), (r0, 16, 24, .ref xi), (r0, 16, 25, .ref xg), (r0, 16, 27, .ref xp)]) [5, 6, 7, 8, 9, 10, 11, 12, 13, 14, 15, 16] rfl (M1 := [(zm, 117, 3100, ca 1, ms), (xh, 118, 3100, ca 1, mh), (xn, 119, 3100, ca 1, mx), (xf, 120, 3100, ca 1, mf), (xt, 121, 3100, ca 1, mt), (xb, 122, 3100, ca 1, mb), (xe, 123, 3100, ca 1, me), (xi, 124, 3100, ca 3, mi), (xg, 125, 3100, ca 1, mn), (xp, 127, 3300, ca 1, fu)]) [2, 3, 4, 5, 6, 7, 8, 9, 10, 11] rfl (I1 := [([(201, 0)], jQc dC dI (ca 4) yfd_1 3 fd), (jFrd, jRD dC dI ca G0 none rq)]) [0, 1] rfl) (by refine ⟨by omega, by omega, ?_⟩; rw [show (dc.toInt - (z_40).toInt).toNat = (dc.toInt - v2_7.toInt).toNat - 1 by omega]; exact (jdF_s (by omega) (by rw [jdRx.at hat9, jdRl.at hat9]; exact hi_37_4 (by omega)) (by omega)).trans hi_7_2) (by omega) _ (lv_sub hl [1, 2, 0] rfl)
                  · skip
                    have c_39' : v4_37.toInt ≠ 0 := jb_eq_n (rfl) ((by decide)) c_39
                    refine lv_aload_n hx hb dX14_documentOf_113 rfl (lv_at hl 3 rfl) ?_
                    have hHf_41 : jHd dC dI ca G0 r0 fd dc H_37 := ⟨yfd_1, ⟨_, hg_r0⟩, hgfd_1, hh_37.2.2.1.sub (L1 := [(r0, 16, 41, .ref yfd_1), (r0, 16, 42, .int dc)]) [5, 6] rfl, hh_37.2.2.2.2.2.2.2.1.sub (L1 := []) [] rfl, hh_37.iv 0 rfl, trivial⟩
                    have hh_42 := hh_37.sub (L1 := [(el_13, 14, 3, .ref ut_14), (el_13, 14, 0, .ref uz_14), (el_13, 14, 2, .int (rq.ve el_13)), (el_13, 14, 4, .int (rq.ln el_13)), (el_13, 14, 1, .int (rq.ul el_13)), (r0, 16, 41, .ref yfd_1), (r0, 16, 42, .int dc), (r0, 16, 17, .ref zm), (r0, 16, 18, .ref xh), (r0, 16, 19, .ref xn), (r0, 16, 20, .ref xf), (r0, 16, 21, .ref xt), (r0, 16, 22, .ref xb), (r0, 16, 23, .ref xe), (r0, 16, 24, .ref xi), (r0, 16, 25, .ref xg), (r0, 16, 27, .ref xp)]) [0, 1, 2, 3, 4, 5, 6, 7, 8, 9, 10, 11, 12, 13, 14, 15, 16] rfl (M1 := [(ut_14, 194, 1500, ca 1, (rq.tx el_13)), (uz_14, 195, 40, ca 1, (rq.ux el_13)), (zm, 117, 3100, ca 1, ms), (xh, 118, 3100, ca 1, mh), (xn, 119, 3100, ca 1, mx), (xf, 120, 3100, ca 1, mf), (xt, 121, 3100, ca 1, mt), (xb, 122, 3100, ca 1, mb), (xe, 123, 3100, ca 1, me), (xi, 124, 3100, ca 3, mi), (xg, 125, 3100, ca 1, mn), (xp, 127, 3300, ca 1, fu)]) [0, 1, 2, 3, 4, 5, 6, 7, 8, 9, 10, 11] rfl (I1 := [(jFrd, jRD dC dI ca G0 none rq)]) [1] rfl
                    clear hh_37
                    have hh_43 := hh_42.addI (jHd.ie hHf_41)
                    clear hh_42
                    rw [hQ]
                    exact W.aret (v := .ref el_13) hx hb hr (Or.inl ⟨_, rfl⟩) (Or.inr ⟨_, rfl⟩) (fun t ht hW => ⟨⟨.ref el_13, (), rfl, ⟨Or.inr ⟨_, rfl, hg_el_13⟩, by rw [← hi_7_2, jdF_y (by omega) (by rw [jdRx.at hat9, jdRl.at hat9]; obtain ⟨e1, e2, e3⟩ := hi_37_3 (by omega); exact jqE.y hk3 e1 (by rw [← e3]; congr 1; omega))]; exact (congrArg va_rf hat9.symm).trans (if_neg (by omega)).symm⟩, ⟨hh_43.rt (M1 := []) [] rfl ht, by rw [ht]; exact hh_43.2.2.2.2.2.2.2.2.sub (L1 := [(jFrd, jRD dC dI ca G0 none rq), (jFHd, jHd dC dI ca G0 r0 fd dc)]) [1, 0] rfl⟩⟩, by rw [ht]; try exact hh_43.1.1, fun q h9 hq => by rw [ht]; try exact hh_43.1.2.1 q h9 hq⟩) hh_43.1.2.2 dX14_documentOf_114
                · skip
                  have c_38' : v5_37.toInt < (rq.ul el_13).toInt := jb_ge_n (rfl) (rfl) c_38
                  refine lv_iload hx hb dX14_documentOf_66 (lv_at hl 4 rfl) ?_
                  refine lv_if_eq (tgt := 108) hx hb dX14_documentOf_68 (by decide) (fun c_44 => ?_) (fun c_44 => ?_)
                  · skip
                    have c_44' : v4_37.toInt = 0 := jb_eq (rfl) ((by decide)) c_44
                    refine lv_iload hx hb dX14_documentOf_108 (lv_at hl 4 rfl) ?_
                    refine lv_if_eq (tgt := 115) hx hb dX14_documentOf_110 (by decide) (fun c_45 => ?_) (fun c_45 => ?_)
                    · skip
                      have c_45' : v4_37.toInt = 0 := jb_eq (rfl) ((by decide)) c_45
                      obtain ⟨z_46, ez_46⟩ : ∃ y : Int32, y = v2_7 + 1 := ⟨_, rfl⟩
                      refine lv_iinc (v := z_46) (lv' := [(2, .int z_46), (0, .ref r0), (1, .int a1), (3, .ref el_13), (4, .int v4_37), (5, .int v5_37)]) hx hb dX14_documentOf_115 hl (k := 2) rfl (by rw [ez_46]; rfl) (by decide) rfl (fun ls hl => ?_)
                      have hz_46 : z_46.toInt = v2_7.toInt + 1 := by rw [ez_46]; exact jb_iadd2 (rfl) (by decide) (by omega)
                      refine lv_goto (tgt := 12) hx hb dX14_documentOf_118 (by decide) ?_
                      exact L12 z_46 _ _ (hh_37.sub (L1 := [(r0, 16, 41, .ref yfd_1), (r0, 16, 42, .int dc), (r0, 16, 17, .ref zm), (r0, 16, 18, .ref xh), (r0, 16, 19, .ref xn), (r0, 16, 20, .ref xf), (r0, 16, 21, .ref xt), (r0, 16, 22, .ref xb), (r0, 16, 23, .ref xe), (r0, 16, 24, .ref xi), (r0, 16, 25, .ref xg), (r0, 16, 27, .ref xp)]) [5, 6, 7, 8, 9, 10, 11, 12, 13, 14, 15, 16] rfl (M1 := [(zm, 117, 3100, ca 1, ms), (xh, 118, 3100, ca 1, mh), (xn, 119, 3100, ca 1, mx), (xf, 120, 3100, ca 1, mf), (xt, 121, 3100, ca 1, mt), (xb, 122, 3100, ca 1, mb), (xe, 123, 3100, ca 1, me), (xi, 124, 3100, ca 3, mi), (xg, 125, 3100, ca 1, mn), (xp, 127, 3300, ca 1, fu)]) [2, 3, 4, 5, 6, 7, 8, 9, 10, 11] rfl (I1 := [([(201, 0)], jQc dC dI (ca 4) yfd_1 3 fd), (jFrd, jRD dC dI ca G0 none rq)]) [0, 1] rfl) (by refine ⟨by omega, by omega, ?_⟩; rw [show (dc.toInt - (z_46).toInt).toNat = (dc.toInt - v2_7.toInt).toNat - 1 by omega]; exact (jdF_s (by omega) (by rw [jdRx.at hat9, jdRl.at hat9]; exact hi_37_4 (by omega)) (by omega)).trans hi_7_2) (by omega) _ (lv_sub hl [1, 2, 0] rfl)
                    · skip
                      have c_45' : v4_37.toInt ≠ 0 := jb_eq_n (rfl) ((by decide)) c_45
                      exact (by omega : False).elim
                  · skip
                    have c_44' : v4_37.toInt ≠ 0 := jb_eq_n (rfl) ((by decide)) c_44
                    refine lv_aload_n hx hb dX14_documentOf_71 rfl (lv_at hl 3 rfl) ?_
                    refine j7_readN hx hb hown hK (C := RX12) (T := TX12) (N := 11) rfl hly_14_0 hlk_511 (hh_37.at 1 rfl) dX14_documentOf_72 ?_
                    refine lv_iload hx hb dX14_documentOf_75 (lv_at hl 5 rfl) ?_
                    refine j7_ialdM hx hb hK hh_37 hB195 1 rfl (by decide) hgz_14 (x := v5_37.toInt) (rfl) (by omega) (j := 1) rfl dX14_documentOf_77 (fun z_47 ez_47 (hz_47 : True) => ?_)
                    have hqz_47 : z_47.toInt = jSo (rq.ux el_13) (v5_37.toInt) := by unfold jSo; rw [ez_47]
                    refine lv_aload_n hx hb dX14_documentOf_78 rfl (lv_at hl 0 rfl) ?_
                    refine j7_read hx hb hown hK (C := RX14) (T := TX14) (N := 74) rfl hly_16_27 hlk_65 (hh_37.at 16 rfl) dX14_documentOf_79 ?_
                    refine lv_aload_n hx hb dX14_documentOf_82 rfl (lv_at hl 0 rfl) ?_
                    refine j7_read hx hb hown hK (C := RX14) (T := TX14) (N := 74) rfl hly_16_22 hlk_52 (hh_37.at 12 rfl) dX14_documentOf_83 ?_
                    refine lv_iload_n hx hb dX14_documentOf_86 rfl (lv_at hl 1 rfl) ?_
                    refine j7_ialdM hx hb hK hh_37 hB122 1 rfl (by decide) hg_xb (x := a1.toInt) (rfl) (by omega) (j := 7) rfl dX14_documentOf_87 (fun z_48 ez_48 (hz_48 : 0 ≤ z_48.toInt ∧ z_48.toInt ≤ 3100) => ?_)
                    have hqz_48 : z_48.toInt = jSo mb (a1.toInt) := by unfold jSo; rw [ez_48]
                    refine lv_iload hx hb dX14_documentOf_88 (lv_at hl 5 rfl) ?_
                    refine lv_iadd hx hb dX14_documentOf_90 ?_
                    refine lv_topi (fun z_49 ez_49 => ?_)
                    have hz_49 : z_49.toInt = z_48.toInt + v5_37.toInt := by rw [ez_49]; exact jb_iadd2 (rfl) (rfl) (by omega)
                    refine j7_ialdM hx hb hK hh_37 hB127 1 rfl (by decide) hg_xp (x := z_49.toInt) (rfl) (by omega) (j := 11) rfl dX14_documentOf_91 (fun z_50 ez_50 (hz_50 : True) => ?_)
                    have hqz_50 : z_50.toInt = jSo fu ((z_48.toInt + v5_37.toInt)) := by unfold jSo; rw [ez_50, show z_49.toInt = (z_48.toInt + v5_37.toInt) by omega]
                    refine lv_icmp_ne (tgt := 99) hx hb dX14_documentOf_92 (by decide) (fun c_51 => ?_) (fun c_51 => ?_)
                    · skip
                      have c_51' : z_47.toInt ≠ z_50.toInt := jb_ne (rfl) (rfl) c_51
                      refine lv_iconst (v := 0) hx hb dX14_documentOf_99 (by decide) ?_
                      refine lv_istore (lv' := [(4, .int 0), (0, .ref r0), (1, .int a1), (2, .int v2_7), (3, .ref el_13), (5, .int v5_37)]) hx hb dX14_documentOf_100 hl (by decide) rfl (fun ls hl => ?_)
                      obtain ⟨z_52, ez_52⟩ : ∃ y : Int32, y = v5_37 + 1 := ⟨_, rfl⟩
                      refine lv_iinc (v := z_52) (lv' := [(5, .int z_52), (4, .int 0), (0, .ref r0), (1, .int a1), (2, .int v2_7), (3, .ref el_13)]) hx hb dX14_documentOf_102 hl (k := 5) rfl (by rw [ez_52]; rfl) (by decide) rfl (fun ls hl => ?_)
                      have hz_52 : z_52.toInt = v5_37.toInt + 1 := by rw [ez_52]; exact jb_iadd2 (rfl) (by decide) (by omega)
                      refine lv_goto (tgt := 57) hx hb dX14_documentOf_105 (by decide) ?_
                      exact L57 0 z_52 _ _ hh_37 (Or.inl rfl) (by obtain ⟨e1, e2, e3⟩ := hi_37_3 (by omega); have hu9 := hp2.un hk3 (j := v5_37.toInt) (by omega) (by omega); exact ⟨by omega, by omega, by omega, fun q => absurd q (by decide), fun _ => jqE.n2 (j := v5_37.toInt) (by omega) (by omega) (by rw [← hu9]; have h9 := hqz_47; have h5 := (congrArg (jSo fu) (by have h4 := hqz_48; have h3 := hst9.2.2.1; omega : T9 2 a1.toInt + v5_37.toInt = _)).trans hqz_50.symm; omega)⟩) (by omega) _ (lv_sub hl [2, 3, 4, 5, 1, 0] rfl)
                    · skip
                      have c_51' : z_47.toInt = z_50.toInt := jb_ne_n (rfl) (rfl) c_51
                      refine lv_iconst (v := 1) hx hb dX14_documentOf_95 (by decide) ?_
                      refine lv_goto (tgt := 100) hx hb dX14_documentOf_96 (by decide) ?_
                      refine lv_istore (lv' := [(4, .int 1), (0, .ref r0), (1, .int a1), (2, .int v2_7), (3, .ref el_13), (5, .int v5_37)]) hx hb dX14_documentOf_100 hl (by decide) rfl (fun ls hl => ?_)
                      obtain ⟨z_53, ez_53⟩ : ∃ y : Int32, y = v5_37 + 1 := ⟨_, rfl⟩
                      refine lv_iinc (v := z_53) (lv' := [(5, .int z_53), (4, .int 1), (0, .ref r0), (1, .int a1), (2, .int v2_7), (3, .ref el_13)]) hx hb dX14_documentOf_102 hl (k := 5) rfl (by rw [ez_53]; rfl) (by decide) rfl (fun ls hl => ?_)
                      have hz_53 : z_53.toInt = v5_37.toInt + 1 := by rw [ez_53]; exact jb_iadd2 (rfl) (by decide) (by omega)
                      refine lv_goto (tgt := 57) hx hb dX14_documentOf_105 (by decide) ?_
                      exact L57 1 z_53 _ _ hh_37 (Or.inr rfl) (by obtain ⟨e1, e2, e3⟩ := hi_37_3 (by omega); have hu9 := hp2.un hk3 (j := v5_37.toInt) (by omega) (by omega); refine ⟨by omega, by omega, by omega, fun _ => ⟨by omega, by omega, ?_⟩, fun q => absurd q (by decide)⟩; rw [show (z_53).toInt.toNat = v5_37.toInt.toNat + 1 by omega]; exact jqEl_1 e3 (by rw [show ((v5_37.toInt.toNat : Nat) : Int) = v5_37.toInt by omega, ← hu9]; have h9 := hqz_47; have h5 := (congrArg (jSo fu) (by have h4 := hqz_48; have h3 := hst9.2.2.1; omega : T9 2 a1.toInt + v5_37.toInt = _)).trans hqz_50.symm; omega)) (by omega) _ (lv_sub hl [2, 3, 4, 5, 1, 0] rfl)
            exact L57 (((rq.ul el_13).toInt - (0 : Int32).toInt).toNat + (1 : Int32).toInt : Int).toNat.succ 1 0 _ _ hh_15 (Or.inr rfl) (by refine ⟨by omega, by omega, by omega, fun _ => ⟨by omega, by omega, by rw [hk0]; rfl⟩, fun q => absurd q (by decide)⟩) (by omega) _ (lv_sub hl [3, 4, 5, 2, 1, 0] rfl)
    exact L12 (dc.toInt - (0 : Int32).toInt : Int).toNat.succ 0 _ _ hh_4 (by refine ⟨by omega, by omega, ?_⟩; rw [hk0, Int.sub_zero]) (by omega) _ (lv_sub hl [1, 2, 0] rfl)
  · skip
    have c_6' : r_5.toInt = 0 := jb_ne_n (rfl) ((by decide)) c_6
    first | (have hr_5pq := hr_5p.resolve_left (by omega); clear hr_5p) | (have hr_5pq := hr_5p.resolve_right (by omega); clear hr_5p) | try clear hr_5p
    have hn3 := (hs2.resolve_left (fun q => by omega)).2
    refine lv_null hx hb dX14_documentOf_8 ?_
    have hHf_54 : jHd dC dI ca G0 r0 fd dc H_4 := ⟨yfd_1, ⟨_, hg_r0⟩, hgfd_1, hh_4.2.2.1.sub (L1 := [(r0, 16, 41, .ref yfd_1), (r0, 16, 42, .int dc)]) [0, 1] rfl, hh_4.2.2.2.2.2.2.2.1.sub (L1 := []) [] rfl, hh_4.iv 0 rfl, trivial⟩
    have hh_55 := hh_4.sub (L1 := [(r0, 16, 41, .ref yfd_1), (r0, 16, 42, .int dc), (r0, 16, 17, .ref zm), (r0, 16, 18, .ref xh), (r0, 16, 19, .ref xn), (r0, 16, 20, .ref xf), (r0, 16, 21, .ref xt), (r0, 16, 22, .ref xb), (r0, 16, 23, .ref xe), (r0, 16, 24, .ref xi), (r0, 16, 25, .ref xg), (r0, 16, 27, .ref xp)]) [0, 1, 2, 3, 4, 5, 6, 7, 8, 9, 10, 11] rfl (M1 := [(zm, 117, 3100, ca 1, ms), (xh, 118, 3100, ca 1, mh), (xn, 119, 3100, ca 1, mx), (xf, 120, 3100, ca 1, mf), (xt, 121, 3100, ca 1, mt), (xb, 122, 3100, ca 1, mb), (xe, 123, 3100, ca 1, me), (xi, 124, 3100, ca 3, mi), (xg, 125, 3100, ca 1, mn), (xp, 127, 3300, ca 1, fu)]) [0, 1, 2, 3, 4, 5, 6, 7, 8, 9] rfl (I1 := [(jFrd, jRD dC dI ca G0 none rq)]) [1] rfl
    clear hh_4
    have hh_56 := hh_55.addI (jHd.ie hHf_54)
    clear hh_55
    rw [hQ]
    exact W.aret (v := .null) hx hb hr (Or.inl ⟨_, rfl⟩) (Or.inl rfl) (fun t ht hW => ⟨⟨.null, (), rfl, ⟨Or.inl rfl, by rw [jdF.nk hn3, jdRr.z]⟩, ⟨hh_56.rt (M1 := []) [] rfl ht, by rw [ht]; exact hh_56.2.2.2.2.2.2.2.2.sub (L1 := [(jFrd, jRD dC dI ca G0 none rq), (jFHd, jHd dC dI ca G0 r0 fd dc)]) [1, 0] rfl⟩⟩, by rw [ht]; try exact hh_56.1.1, fun q h9 hq => by rw [ht]; try exact hh_56.1.2.1 q h9 hq⟩) hh_56.1.2.2 dX14_documentOf_9
end
