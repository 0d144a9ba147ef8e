section
-- p8: a document is changed: on the class's side
theorem jwSy.sm {f g : Nat → Int32} {n m : Int} (hn : 0 ≤ n) (hm : 0 ≤ m) : ∀ j : Int, 0 ≤ j → j < jwSy f n g m → jcU f n j.toNat = jcU g m j.toNat := by
  have p1 := jPar.ch (f := f) hn
  have p2 := jPar.ch (f := g) hm
  have hS : jwSy f n g m = jwSm f n g m (if jPar f n ≤ jPar g m then jPar f n else jPar g m) 40 0 := rfl
  generalize hs0 : (if jPar f n ≤ jPar g m then jPar f n else jPar g m) = s at hS
  have hs1 : s ≤ jPar f n ∧ s ≤ jPar g m := by
    rw [← hs0]
    split <;> omega
  obtain ⟨a, b, d, e⟩ := jwSm.ch (f := f) (g := g) (n := n) (m := m) (s := s) 40 0 (Int.le_refl 0) (by omega)
  rw [← hS] at d
  exact d
theorem jcR.sm {f g : Nat → Int32} {n m : Int} : ∀ k : Nat, (∀ j : Nat, j < k → jcU f n j = jcU g m j) → jcR f n k = jcR g m k
  | 0, _ => rfl
  | k + 1, h => by
    show jcR f n k ++ (jcU f n k ++ [-1]) = jcR g m k ++ (jcU g m k ++ [-1])
    rw [jcR.sm k (fun j hj => h j (by omega)), h k (by omega)]
section J9S
variable {G : jT} {s0 a d : Nat} {t t1 : jDtl} {q q1 : jKg} {w w1 : jWl9} {ho ho1 : Nat → Option Nat} {us rw : Nat → List Int} {qq : jRqG} {ib : Nat → List Int} {S S1 : Int × (Int → jdD)} {Z : jwSt} {k : Int}
theorem jdCs.dt (hS : jdCs t w = S) (hd : (d : Int) < w.1) (ha : w.2.1 d = some a) : S.2 d = jdC1 t a := by
  rw [← hS]
  exact jdLi.at (d := (d : Int)) (by omega) hd (by rw [show ((d : Int)).toNat = d by omega]; exact ha)
theorem jdCs.tl (hS : jdCs t w = S) (hd : (d : Int) < w.1) (ha : w.2.1 d = some a) : jwL S d = (t.ln a).toInt ∧ jEqU (jwF S d) (t.tx a) (t.ln a).toInt := by
  refine ⟨by unfold jwL; rw [jdCs.dt hS hd ha]; rfl, fun i h0 h1 => ?_⟩
  show (Int32.ofInt ((S.2 d).2.2.1 (i.toNat : Nat))).toInt = jSo (t.tx a) i
  rw [jdCs.dt hS hd ha]
  show (Int32.ofInt (jdKp (t.ln a).toInt (jSo (t.tx a)) (i.toNat : Nat))).toInt = jSo (t.tx a) i
  rw [show ((i.toNat : Nat) : Int) = i by omega, jdKp.at h0 h1]
  unfold jSo
  rw [Int32.ofInt_toInt]
theorem jcZ.chg {Y : Int} (h : jcZ G s0 t q w ho us rw qq ib S Z) (hd : (d : Int) < w.1) (ha : w.2.1 d = some a) (hY : Y = jwSy (t.tx a) (t.ln a).toInt (t1.tx a) (t1.ln a).toInt)
    (ht : ∀ b, b ≠ a → t1.tx b = t.tx b ∧ t1.ln b = t.ln b) (hu : ∀ j : Int, 0 ≤ j → j < (t1.ln a).toInt → 0 ≤ jSo (t1.tx a) j) (hq : ∀ b, b ≠ a → jzAg q q1 b) (hsn : (q1.sn a).toInt = jPar (t1.tx a) (t1.ln a).toInt) (hP : jcP (t1.tx a) (t1.ln a).toInt (q1.sb a) (q1.se a) (q1.sn a).toInt) (hPc : jcPc (t1.tx a) (t1.ln a).toInt (q1.sc a) (q1.sn a).toInt) (h40 : (q1.sn a).toInt ≤ 40)
    (hck : (q1.ck a).toInt = if (q.ck a).toInt ≤ Y then (q.ck a).toInt else Y) (hbh : q1.bh a = q.bh a) (hfv : q1.fv a = .null)
    (hst : (q1.lf a = q.lf a ∧ q1.cv a = q.cv a ∧ (∀ j, j < 2 → ho1 j = ho j) ∧ (q.ck a).toInt < Y ∧ q.cv a ≠ .null) ∨ (q1.cv a = .null ∧ (∀ j, j < 2 → ho1 j = if ho j = some a then none else ho j) ∧ (q.cv a = .null ∨ Y ≤ (q.ck a).toInt)))
    (h1 : w1.1 = w.1) (h2 : w1.2.1 = w.2.1) (h3 : w1.2.2.1 = w.2.2.1.filter (fun x => !jzAb qq a x)) (h4 : w1.2.2.2 = w.2.2.2) (hI : jdIv t1 w1) (hS : jdCs t1 w1 = S1) : jcZ G s0 t1 q1 w1 ho1 us rw qq ib S1 (jwCg1 S S1 Z d) := by
  have hd1 : (d : Int) < w1.1 := by rw [h1]; exact hd
  have ha1 : w1.2.1 d = some a := by rw [h2]; exact ha
  obtain ⟨l0, l1⟩ := h.l0 a
  obtain ⟨m0, m1⟩ := hI.1 a
  obtain ⟨c1, c2⟩ := jdCs.tl hS hd1 ha1
  have hYS : jwSy (jwF S d) (jwL S d) (jwF S1 d) (jwL S1 d) = Y := by
    rw [hY, h.ln hd ha, c1]
    exact jwSy.cg l0 m0 (h.tx hd ha) c2
  obtain ⟨y0, y1, y2⟩ := jwSy.le (f := t.tx a) (g := t1.tx a) l0 m0
  have ysm := jwSy.sm (f := t.tx a) (g := t1.tx a) l0 m0
  rw [← hY] at y0 y1 y2 ysm
  obtain ⟨k1, k2, k3, k4, k5, k6, k7, k8, k9⟩ := h.2.2.1 d a hd ha
  have hne : ∀ {e b : Nat}, (e : Int) < w.1 → w.2.1 e = some b → b ≠ a → (e : Int) ≠ (d : Int) := fun he hb hn c => hn (by
    have : _ = d := Int.ofNat.inj c
    rw [this, ha] at hb
    exact (Option.some.inj hb).symm)
  have hZd : (jwCg1 S S1 Z d).1 d = (q1.ck a).toInt := by
    show jwUp Z.1 d _ d = _
    unfold jwUp
    rw [if_pos rfl, hYS, hck, k4]
  have hZe : ∀ e : Int, e ≠ d → (jwCg1 S S1 Z d).1 e = Z.1 e := fun e he => by
    show jwUp Z.1 d _ e = _
    unfold jwUp
    rw [if_neg he]
  have hZw : ∀ j : Int, (jwCg1 S S1 Z d).2.1 j = if (Z.2.1 j).1 = d ∧ Y ≤ Z.1 d then (-1, 0) else Z.2.1 j := fun j => by
    show (if (Z.2.1 j).1 = d ∧ jwSy _ _ _ _ ≤ Z.1 d then _ else _) = _
    rw [hYS]
  have hoth : ∀ j, j < 2 → ho j ≠ some a → ho1 j = ho j := fun j hj c => by
    rcases hst with ⟨-, -, e, -⟩ | ⟨-, e, -⟩
    · exact e j hj
    · rw [e j hj, if_neg c]
  have hckb : (q1.ck a).toInt ≤ Y ∧ (q1.ck a).toInt ≤ Z.1 d ∧ 0 ≤ (q1.ck a).toInt := by
    rw [hck, k4]
    split <;> omega
  refine ⟨hI, hS, fun e b he hb => ?_, fun j hj => ?_, fun e b he hb e0 e1 => ?_, fun e => ?_, ?_, ?_, ?_, h.2.2.2.2.2.2.2.2.2.1, h.2.2.2.2.2.2.2.2.2.2.1, ?_, fun e b he hb => ?_⟩
  · rw [h1] at he
    rw [h2] at hb
    by_cases c : b = a
    · subst c
      have ee : e = d := h.inj he hd (hb.trans ha.symm)
      subst ee
      rw [hZd]
      refine ⟨hsn, hP, hPc, rfl, hckb.2.2, by rw [hsn]; omega, h40, fun i hi => ?_, hfv⟩
      obtain ⟨x, r1, r2, r3⟩ := k8 i (by omega)
      refine ⟨x, by rw [hbh]; exact r1, r2, ?_⟩
      rw [r3]
      exact jcR.sm (i + 1) (fun j hj => by
        have := ysm j (by omega) (by omega)
        rw [show ((j : Int)).toNat = j by omega] at this
        exact this)
    · rw [hZe e (hne he hb c)]
      exact ((h.2.2.1 e b he hb).tr (hq b c) (fun _ _ => rfl) jLe.rf).tt (ht b c).1 (ht b c).2
  · have hw := h.wk hj hd ha
    by_cases c : ho j = some a
    · have hz := hw.mpr c
      obtain ⟨d9, y, g1, g2, g3, g4, g5, g6⟩ := h.hs hj c
      have ed : d9 = d := h.inj g1 hd (g2.trans ha.symm)
      subst ed
      rcases hst with ⟨s1, s2, s3, s4, s5⟩ | ⟨s1, s2, s3⟩
      · have e9 : (q1.ck a).toInt = Z.1 d9 := by rw [hck, if_pos (by omega), k4]
        refine Or.inr ⟨d9, a, y, hd1, ha1, by rw [s3 j hj]; exact c, ?_, by rw [s2]; exact g4, g5, ?_⟩
        · rw [hZw, if_neg (fun q9 => by have := q9.2; omega), s1]; exact g3
        · rw [g6, hZd, e9]
          have := ysm (Z.1 d9) k5 (by omega)
          exact this
      · have s4 := s3.resolve_left (fun q9 => by rw [g4] at q9; cases q9)
        refine Or.inl ⟨by rw [s2 j hj, if_pos c], ?_⟩
        rw [hZw, if_pos ⟨hz, by omega⟩]
    · have hn : ¬ ((Z.2.1 j).1 = d ∧ Y ≤ Z.1 d) := fun q9 => c (hw.mp q9.1)
      have := (h.2.2.2.1 j hj).tr (Z1 := jwCg1 S S1 Z d) (q1 := q1) (us1 := us) (ho1 := ho1) (w1 := w1) (fun b hb => hq b (fun c3 => c (by rw [← c3]; exact hb))) (fun _ _ _ => rfl) (hoth j hj c) (by rw [hZw, if_neg hn]) (fun e b he hb hb1 => hZe e (hne he hb (fun c3 => c (by rw [← c3]; exact hb1)))) h1 h2 jLe.rf
      exact this.tt (fun b hb => ht b (fun c3 => c (by rw [← hoth j hj c, ← c3]; exact hb)))
  · rw [h1] at he
    rw [h2] at hb
    by_cases c : b = a
    · subst c
      rcases hst with ⟨s1, s2, s3, s4, s5⟩ | ⟨s1, s2, s3⟩
      · rw [s2]
        exact h.2.2.2.2.1 e b he hb (by rw [← s3 0 (by omega)]; exact e0) (by rw [← s3 1 (by omega)]; exact e1)
      · exact s1
    · rw [(hq b c).2.2.2.1]
      refine h.2.2.2.2.1 e b he hb (fun c3 => e0 ?_) (fun c3 => e1 ?_)
      · rw [hoth 0 (by omega) (by rw [c3]; exact fun q9 => c (Option.some.inj q9))]; exact c3
      · rw [hoth 1 (by omega) (by rw [c3]; exact fun q9 => c (Option.some.inj q9))]; exact c3
  · rcases hst with ⟨s1, s2, s3, s4, s5⟩ | ⟨s1, s2, s3⟩
    · rw [s3 0 (by omega), s3 1 (by omega)] at e
      rw [s3 0 (by omega)]
      exact h.2.2.2.2.2.1 e
    · rw [s2 0 (by omega), s2 1 (by omega)] at e
      rw [s2 0 (by omega)]
      by_cases c : ho 0 = some a
      · rw [if_pos c]
      · rw [if_neg c] at e ⊢
        by_cases c3 : ho 1 = some a
        · rw [if_pos c3] at e; exact e
        · rw [if_neg c3] at e; exact h.2.2.2.2.2.1 e
  · have hW := h.2.2.2.2.2.2.1
    have hp : ∀ (x : Nat) (p : jwQ), jzR w qq ib x p → (!jzAb qq a x) = !decide (p.1 = (d : Int)) := fun x p hxp => by
      obtain ⟨e, b, i, r1, r2, r3, r4, -⟩ := hxp
      by_cases c : b = a
      · have : e = d := h.inj r1 hd (by rw [r2, c, ha])
        rw [jzAb.y (by rw [r3, c]), decide_eq_true (by rw [r4, this])]
      · rw [jzAb.n (fun q9 => c (Value.ref.inj (r3.symm.trans q9))), decide_eq_false (fun q9 => c (Option.some.inj (by rw [← r2, ← ha, show e = d by omega])))]
    have := jzFil (R := jzR w qq ib) (R1 := jzR w1 qq ib) (p := fun x => !jzAb qq a x) (p1 := fun p : jwQ => !decide (p.1 = (d : Int))) hp (fun x p hxp => by unfold jzR at hxp ⊢; rw [h1, h2]; exact hxp) w.2.2.1 Z.2.2.1 hW.1 hW.2
    unfold jzW
    rw [h3]
    exact this
  · rw [h4]; exact h.2.2.2.2.2.2.2.1
  · have := h.2.2.2.2.2.2.2.2.1; omega
  · rw [h4]; exact h.2.2.2.2.2.2.2.2.2.2.2.1
  · rw [h1] at he
    rw [h2] at hb
    by_cases c : b = a
    · subst c; exact hu
    · rw [(ht b c).1, (ht b c).2]
      exact h.2.2.2.2.2.2.2.2.2.2.2.2 e b he hb
end J9S
end
section
-- p8: units of the open texts are not below 0
section J9T
variable {T : Nat → Int → Int} {v n c : Int} {g : Int → Int} {S : Int × (Int → jdD)} {t : jDtl} {w : jWl9}
theorem jdSu.u (hS : jdCs t w = S) (h : jdSu S) : ∀ d a : Nat, (d : Int) < w.1 → w.2.1 d = some a → ∀ j : Int, 0 ≤ j → j < (t.ln a).toInt → 0 ≤ jSo (t.tx a) j := fun d a hd ha j h0 h1 => by
  have e1 : S.1 = w.1 := by rw [← hS]; rfl
  have := h d (by omega) (by omega) j
  rw [jdCs.dt hS hd ha] at this
  have this : 0 ≤ jdKp (t.ln a).toInt (jSo (t.tx a)) j := this
  rw [jdKp.at h0 h1] at this
  exact this
theorem jcZ.su {G : jT} {s0 : Nat} {q : jKg} {ho : Nat → Option Nat} {us rw : Nat → List Int} {qq : jRqG} {ib : Nat → List Int} {Z : jwSt} (h : jcZ G s0 t q w ho us rw qq ib S Z) : jdSu S := fun d h0 h1 j => by
  have e1 := h.n
  obtain ⟨a, ha⟩ := h.1.2.1 d.toNat (by omega)
  have hd : ((d.toNat : Nat) : Int) < w.1 := by omega
  have := h.doc hd ha
  rw [show ((d.toNat : Nat) : Int) = d by omega] at this
  rw [this]
  show 0 ≤ jdKp (t.ln a).toInt (jSo (t.tx a)) j
  unfold jdKp
  split
  · rename_i c
    exact h.2.2.2.2.2.2.2.2.2.2.2.2 _ a hd ha j c.1 c.2
  · exact Int.le_refl 0
end J9T
end
section
-- p8: a change, from what part, keepChecked and release leave
section J9W
variable {G : jT} {s0 a d : Nat} {t t1 : jDtl} {q g1 g2 q1 : jKg} {w w1 : jWl9} {ho ho1 : Nat → Option Nat} {us rw : Nat → List Int} {qq : jRqG} {ib : Nat → List Int} {S S1 : Int × (Int → jdD)} {Z : jwSt} {Y k : Int} {sn lf : Int32} {cv fv : Value} {sb se sc : Nat → Int32}
/-- what the three calls leave of the document -/
theorem jzChg (hK : g1 = q.put a sn (q.ck a) (q.lf a) (q.cv a) (q.fv a) sb se sc (q.bh a)) (hC : jzCk g1 g2 a k) (hE : (q1 = g2 ∧ q.fv a = .null) ∨ jzRe g2 q1 a) : (∀ b, b ≠ a → jzAg q q1 b) ∧ q1.sn a = sn ∧ q1.sb a = sb ∧ q1.se a = se ∧ q1.sc a = sc ∧ (q1.ck a).toInt = k ∧ q1.bh a = q.bh a ∧ q1.fv a = .null ∧ ((q1 = g2 ∧ q1.lf a = q.lf a ∧ q1.cv a = q.cv a) ∨ (jzRe g2 q1 a ∧ q1.cv a = .null)) := by
  obtain ⟨c, hC, hc⟩ := hC
  obtain ⟨u1, u2, u3, u4, u5, u6, u7, u8, u9⟩ := (jKg.pt (q := q) (a := a) (sn := sn) (ck := q.ck a) (lf := q.lf a) (cv := q.cv a) (fv := q.fv a) (sb := sb) (se := se) (sc := sc) (bh := q.bh a))
  rw [← hK] at u1 u2 u3 u4 u5 u6 u7 u8 u9
  obtain ⟨v1, v2, v3, v4, v5, v6, v7, v8, v9⟩ := (jKg.pt (q := g1) (a := a) (sn := g1.sn a) (ck := c) (lf := g1.lf a) (cv := g1.cv a) (fv := g1.fv a) (sb := g1.sb a) (se := g1.se a) (sc := g1.sc a) (bh := g1.bh a))
  rw [← hC] at v1 v2 v3 v4 v5 v6 v7 v8 v9
  have hag : ∀ b, b ≠ a → jzAg q g2 b := fun b hb => (show jzAg q g1 b by rw [hK]; exact jzAg.put hb).tr (show jzAg g1 g2 b by rw [hC]; exact jzAg.put hb)
  rcases hE with ⟨e, ef⟩ | hR
  · rw [e]
    exact ⟨hag, v1.trans u1, v6.trans u6, v7.trans u7, v8.trans u8, by rw [v2]; exact hc, v9.trans u9, (v5.trans u5).trans ef, Or.inl ⟨rfl, v3.trans u3, v4.trans u4⟩⟩
  · have hR' : q1 = g2.put a (g2.sn a) (g2.ck a) 0 .null .null (g2.sb a) (g2.se a) (g2.sc a) (g2.bh a) := hR
    obtain ⟨w1, w2, w3, w4, w5, w6, w7, w8, w9⟩ := (jKg.pt (q := g2) (a := a) (sn := g2.sn a) (ck := g2.ck a) (lf := 0) (cv := .null) (fv := .null) (sb := g2.sb a) (se := g2.se a) (sc := g2.sc a) (bh := g2.bh a))
    rw [← hR'] at w1 w2 w3 w4 w5 w6 w7 w8 w9
    exact ⟨fun b hb => (hag b hb).tr (show jzAg g2 q1 b by rw [hR']; exact jzAg.put hb), w1.trans (v1.trans u1), w6.trans (v6.trans u6), w7.trans (v7.trans u7), w8.trans (v8.trans u8), by rw [w2, v2]; exact hc, w9.trans (v9.trans u9), w5, Or.inr ⟨hR, w4⟩⟩
end J9W
end
section
-- p8: a change, or none: the class's side of the machine
section J9X
variable {G G1 : jT} {s0 a d sp : Nat} {t t1 t2 : jDtl} {q g1 g2 q1 : jKg} {w w1 : jWl9} {ho ho1 : Nat → Option Nat} {us rw : Nat → List Int} {qq : jRqG} {ib : Nat → List Int} {S S8 : Int × (Int → jdD)} {Z Z8 : jwSt} {T : Nat → Int → Int} {v k Y : Int} {sn : Int32} {sb se sc : Nat → Int32} {v0 l0 ve ln : Int32} {f0 g0 tx : Nat → Int32} {u0 : Nat}
theorem jdCg.vs (hS : jdCs t2 w = jdChange T v (jdCs t w)) (hx : 0 ≤ jdWh T v (jdCs t w).1 (jdCs t w).2 ∧ jdWh T v (jdCs t w).1 (jdCs t w).2 < w.1 ∧ w.2.1 (jdWh T v (jdCs t w).1 (jdCs t w).2).toNat = some a) (hv : (t.ve a).toInt < (t2.ve a).toInt) : jdCg T v (jdCs t w).1 (jdCs t w).2 = 1 := by
  by_cases c : jdCg T v (jdCs t w).1 (jdCs t w).2 = 1
  · exact c
  · exfalso
    have e : jdChange T v (jdCs t w) = jdCs t w := if_neg c
    have e2 := congrArg (fun x : Int × (Int → jdD) => (x.2 (jdWh T v (jdCs t w).1 (jdCs t w).2)).1) (hS.trans e)
    have e3 : ((jdCs t2 w).2 (jdWh T v (jdCs t w).1 (jdCs t w).2)).1 = ((jdCs t w).2 (jdWh T v (jdCs t w).1 (jdCs t w).2)).1 := e2
    rw [show (jdCs t2 w).2 (jdWh T v (jdCs t w).1 (jdCs t w).2) = jdC1 t2 a from jdLi.at hx.1 hx.2.1 hx.2.2, show (jdCs t w).2 (jdWh T v (jdCs t w).1 (jdCs t w).2) = jdC1 t a from jdLi.at hx.1 hx.2.1 hx.2.2] at e3
    have e4 : (t2.ve a).toInt = (t.ve a).toInt := e3
    omega
theorem jcZ.ts (h : jcZ G s0 t q w ho us rw qq ib S Z) (ht : ∀ e b : Nat, (e : Int) < w.1 → w.2.1 e = some b → t1.tx b = t.tx b ∧ t1.ln b = t.ln b) (hI : jdIv t1 w) (hS : jdCs t1 w = S) : jcZ G s0 t1 q w ho us rw qq ib S Z := by
  obtain ⟨h1, h2, h3, h4, h5, h6, h7, h8, h9, h10, h11, h12, h13⟩ := h
  refine ⟨hI, hS, fun e b he hb => (h3 e b he hb).tt (ht e b he hb).1 (ht e b he hb).2, fun j hj => (h4 j hj).tt (fun b hb => ?_), h5, h6, h7, h8, h9, h10, h11, h12, fun e b he hb => ?_⟩
  · rcases h4 j hj with ⟨e1, -⟩ | ⟨e, c, y, g1, g2, g3, -⟩
    · rw [hb] at e1; cases e1
    · rw [hb] at g3; cases g3; exact ht e b g1 g2
  · rw [(ht e b he hb).1, (ht e b he hb).2]; exact h13 e b he hb
/-- nothing is changed -/
theorem jcZ.cn0 (h : jcZ G s0 t q w ho us rw qq ib S Z) (hs : jdCs t w = jdChange T v (jdCs t w)) (e1 : S8 = jdChange T v S) (e2 : Z8 = jwCg T v S Z) : jcZ G s0 t q w ho us rw qq ib S8 Z8 := by
  rw [h.2.1] at hs
  rw [e1, e2, jwCg.z hs, ← hs]
  exact h
/-- another document's text alone, that is not open -/
theorem jcZ.spr (h : jcZ G s0 t q w ho us rw qq ib S Z) (hn : ∀ i : Nat, (i : Int) < w.1 → w.2.1 i ≠ some sp) (h1 : t1 = t.put sp v0 l0 f0 u0 g0) (hI : jdIv t1 w) : jcZ G s0 t1 q w ho us rw qq ib S Z := by
  refine h.ts (fun e b he hb => ?_) hI ?_
  · have hb1 : b ≠ sp := fun c => hn e he (by rw [hb, c])
    rw [h1]
    exact ⟨jUf_n _ _ hb1, jUf_n _ _ hb1⟩
  · rw [h1, jdCs.put hn]
    exact h.2.1
theorem jcZ.cn1 (h : jcZ G s0 t q w ho us rw qq ib S Z) (hn : ∀ i : Nat, (i : Int) < w.1 → w.2.1 i ≠ some sp) (h1 : t1 = t.put sp v0 l0 f0 u0 g0) (hI : jdIv t1 w) (hs : jdCs t1 w = jdChange T v (jdCs t w)) (e1 : S8 = jdChange T v S) (e2 : Z8 = jwCg T v S Z) : jcZ G s0 t1 q w ho us rw qq ib S8 Z8 := by
  have e : jdCs t w = S := h.2.1
  have e3 : jdCs t1 w = jdCs t w := by rw [h1]; exact jdCs.put hn
  rw [e3, e] at hs
  rw [e1, e2, jwCg.z hs, ← hs]
  exact h.spr hn h1 hI
/-- what keepChecked asks -/
theorem jcZ.kq (h : jcZ G s0 t q w ho us rw qq ib S Z) (hok : jwOk S Z) (hd : (d : Int) < w.1) (ha : w.2.1 d = some a) (hle : jLe G G1) (hK : g1 = q.put a sn (q.ck a) (q.lf a) (q.cv a) (q.fv a) sb se sc (q.bh a)) : jzKq G1 g1 us rw a (t.tx a) (t.ln a).toInt (q.ck a).toInt := by
  obtain ⟨k1, k2, k3, k4, k5, k6, k7, k8, k9⟩ := h.2.2.1 d a hd ha
  obtain ⟨l1, l2⟩ := h.l0 a
  obtain ⟨u1, u2, u3, u4, u5, u6, u7, u8, u9⟩ := (jKg.pt (q := q) (a := a) (sn := sn) (ck := q.ck a) (lf := q.lf a) (cv := q.cv a) (fv := q.fv a) (sb := sb) (se := se) (sc := sc) (bh := q.bh a))
  rw [← hK] at u1 u2 u3 u4 u5 u6 u7 u8 u9
  refine ⟨by omega, fun k hk => ?_, fun i hi => ?_, ?_⟩
  · obtain ⟨-, -, p3⟩ := k2 k (by omega)
    exact jcU.nn (h.2.2.2.2.2.2.2.2.2.2.2.2 d a hd ha) l1 p3
  · obtain ⟨x, e1, e2, e3⟩ := k8 i (by omega)
    exact ⟨x, by rw [u9]; exact e1, hle _ _ e2, e3⟩
  · rw [u4]
    by_cases c : q.cv a = .null
    · exact Or.inl c
    · obtain ⟨i, hi, e⟩ : ∃ i : Nat, i < 2 ∧ ho i = some a := by
        by_cases c0 : ho 0 = some a
        · exact ⟨0, by omega, c0⟩
        · by_cases c1 : ho 1 = some a
          · exact ⟨1, by omega, c1⟩
          · exact absurd ((h.fr hd ha).mpr ⟨c0, c1⟩) c
      obtain ⟨d9, y, r1, r2, r3, r4, r5, r6⟩ := h.hs hi e
      have ed : d9 = d := h.inj r1 hd (r2.trans ha.symm)
      subst ed
      refine Or.inr ⟨y, r4, by rw [r6, k4], ?_⟩
      have e9 : (Z.2.1 i).1 = (d9 : Int) := by rw [r3]
      have p := hok.pos (w := (i : Int)) (by omega) (by omega)
      rw [e9, h.sn hd ha] at p
      omega
theorem jzPk {f : Nat → Int32} {n m : Int} {ck lf : Int32} {cv fv : Value} {bh : Nat → Option Nat} (hK : g1 = q.put a sn ck lf cv fv sb se sc bh) (hP : jcP f n sb se m) : jcP f n (g1.sb a) (g1.se a) m := by
  rw [hK, show (q.put a sn ck lf cv fv sb se sc bh).sb a = sb from jUf_s _ _ _, show (q.put a sn ck lf cv fv sb se sc bh).se a = se from jUf_s _ _ _]
  exact hP
theorem jzKk {a b c m n r : Int} {p x : Prop} (h : a = if b ≤ c then b else c) (hs : 0 ≤ c ∧ c ≤ m ∧ c ≤ n) (h0 : 0 ≤ b) (hd : (r = 1 ∧ b < c ∧ p) ∨ (r = 0 ∧ x)) {ps : Int} (hn : ps = n) : 0 ≤ a ∧ a ≤ ps ∧ a ≤ b ∧ (r = 0 ∨ a < ps) := by
  by_cases q9 : b ≤ c
  · rw [if_pos q9] at h
    rcases hd with ⟨d1, d2, -⟩ | ⟨d1, -⟩
    · exact ⟨by omega, by omega, by omega, Or.inr (by omega)⟩
    · exact ⟨by omega, by omega, by omega, Or.inl d1⟩
  · rw [if_neg q9] at h
    rcases hd with ⟨d1, d2, -⟩ | ⟨d1, -⟩
    · omega
    · exact ⟨by omega, by omega, by omega, Or.inl d1⟩
/-- a document is changed -/
theorem jcZ.cgz (h : jcZ G s0 t q w ho us rw qq ib S Z) (hx : 0 ≤ jdWh T v (jdCs t w).1 (jdCs t w).2 ∧ jdWh T v (jdCs t w).1 (jdCs t w).2 < w.1 ∧ w.2.1 (jdWh T v (jdCs t w).1 (jdCs t w).2).toNat = some a) (hn : ∀ i : Nat, (i : Int) < w.1 → w.2.1 i ≠ some sp) (h1 : t1 = t.put sp v0 l0 f0 u0 g0) (h2 : t2 = t1.put a ve ln tx (t1.ul a) (t1.ux a)) (hve : (t.ve a).toInt < ve.toInt) (hl0 : 0 ≤ l0.toInt) (hl1 : l0.toInt ≤ 1500) (hI : jdIv t2 w) (hS : jdCs t2 w = jdChange T v (jdCs t w)) (hTu : jdTu T v)
    (hK : g1 = q.put a sn (q.ck a) (q.lf a) (q.cv a) (q.fv a) sb se sc (q.bh a)) (hsn : sn.toInt = jPar (t2.tx a) (t2.ln a).toInt) (h40 : sn.toInt ≤ 40) (hP : jcP (t2.tx a) (t2.ln a).toInt sb se sn.toInt) (hPc : jcPc (t2.tx a) (t2.ln a).toInt sc sn.toInt) (hC : jzCk g1 g2 a k) (hk : k = if (q.ck a).toInt ≤ Y then (q.ck a).toInt else Y) (hY : Y = jwSy (t.tx a) (t.ln a).toInt (t2.tx a) (t2.ln a).toInt)
    (hr : (q1 = g2 ∧ ho1 = ho ∧ (q.ck a).toInt < Y ∧ g1.cv a ≠ .null) ∨ (jzRe g2 q1 a ∧ (∀ j : Nat, j < 2 → ho1 j = if ho j = some a then none else ho j) ∧ (g1.cv a = .null ∨ Y ≤ (q.ck a).toInt))) (hw : w1 = w.s2 (w.2.2.1.filter (fun x => !jzAb qq a x))) (e1 : S8 = jdChange T v S) (e2 : Z8 = jwCg T v S Z) : jcZ G s0 t2 q1 w1 ho1 us rw qq ib S8 Z8 := by
  have hva : t2.ve a = ve := by rw [h2]; exact jUf_s _ _ _
  have hcg := jdCg.vs hS hx (by rw [hva]; exact hve)
  have eS : jdCs t w = S := h.2.1
  rw [eS] at hcg hS hx
  obtain ⟨x0, x1, x2⟩ := hx
  have ne : a ≠ sp := fun c => hn (jdWh T v S.1 S.2).toNat (by omega) (by rw [x2, c])
  have ea1 : t1.tx a = t.tx a := by rw [h1]; exact jUf_n _ _ ne
  have ea2 : t1.ln a = t.ln a := by rw [h1]; exact jUf_n _ _ ne
  have hI1 : jdIv t1 w := by rw [h1]; exact h.1.put hl0 hl1
  have hz := h.spr hn h1 hI1
  obtain ⟨k1, k2, k3, k4, k5, k6, k7, k8, k9⟩ := h.2.2.1 _ a (by omega : (((jdWh T v S.1 S.2).toNat : Nat) : Int) < w.1) x2
  obtain ⟨u1, u2, u3, u4, u5, u6, u7, u8, u9⟩ := (jKg.pt (q := q) (a := a) (sn := sn) (ck := q.ck a) (lf := q.lf a) (cv := q.cv a) (fv := q.fv a) (sb := sb) (se := se) (sc := sc) (bh := q.bh a))
  rw [← hK] at u1 u2 u3 u4 u5 u6 u7 u8 u9
  obtain ⟨c1, c2⟩ := jzCk.cv hC
  have hg : (∀ b, b ≠ a → jzAg q q1 b) ∧ q1.sn a = sn ∧ q1.sb a = sb ∧ q1.se a = se ∧ q1.sc a = sc ∧ (q1.ck a).toInt = k ∧ q1.bh a = q.bh a ∧ q1.fv a = .null := by
    have hE : (q1 = g2 ∧ q.fv a = .null) ∨ jzRe g2 q1 a := by
      rcases hr with ⟨e, -⟩ | ⟨e, -⟩
      · exact Or.inl ⟨e, k9⟩
      · exact Or.inr e
    obtain ⟨p1, p2, p3, p4, p5, p6, p7, p8, -⟩ := jzChg hK hC hE
    exact ⟨p1, p2, p3, p4, p5, p6, p7, p8⟩
  obtain ⟨p1, p2, p3, p4, p5, p6, p7, p8⟩ := hg
  have hZ : jwCg T v S Z = jwCg1 S (jdChange T v S) Z (((jdWh T v S.1 S.2).toNat : Nat) : Int) := by
    rw [show (((jdWh T v S.1 S.2).toNat : Nat) : Int) = jdWh T v S.1 S.2 by omega]
    exact if_pos hcg
  rw [e1, e2, hZ]
  have hu := jdSu.u hS (jdSu.cg h.su hTu)
  refine hz.chg (d := (jdWh T v S.1 S.2).toNat) (a := a) (Y := Y) (q1 := q1) (ho1 := ho1) (by omega) x2 (by rw [ea1, ea2]; exact hY) (fun b hb => by rw [h2]; exact ⟨jUf_n _ _ hb, jUf_n _ _ hb⟩) (hu _ a (by omega) x2) p1 (by rw [p2]; exact hsn) (by rw [p2, p3, p4]; exact hP) (by rw [p2, p5]; exact hPc) (by rw [p2]; exact h40) (by rw [p6]; exact hk) p7 p8 ?_ (by rw [hw]; rfl) (by rw [hw]; rfl) (by rw [hw]; rfl) (by rw [hw]; rfl) (by rw [hw]; exact hI) (by rw [hw]; exact hS)
  rcases hr with ⟨r1, r2, r3, r4⟩ | ⟨r1, r2, r3⟩
  · exact Or.inl ⟨by rw [r1, c2, u3], by rw [r1, c1, u4], fun j _ => by rw [r2], r3, by rw [← u4]; exact r4⟩
  · refine Or.inr ⟨?_, r2, by rw [← u4]; exact r3⟩
    have hR' : q1 = g2.put a (g2.sn a) (g2.ck a) 0 .null .null (g2.sb a) (g2.se a) (g2.sc a) (g2.bh a) := r1
    rw [hR']
    exact jUf_s _ _ _
end J9X
end
section
-- p8: a request that was just made: it waits, or is answered
section J9AQ
variable {G : jT} {s0 r1 b : Nat} {t : jDtl} {q : jKg} {w w1 : jWl9} {ho : Nat → Option Nat} {us rw : Nat → List Int} {qq q1 : jRqG} {ib : Nat → List Int} {S : Int × (Int → jdD)} {Z : jwSt} {T : Nat → Int → Int} {v d nd p r : Int}
/-- requests that ask for nothing -/
theorem jwRq.zz {m : Int} (hm : m = jdMe T v) (h : p ≠ 1 ∨ jqI T v (jChT jdIn) 10 m = 1 ∨ jqI T v (jChT "shutdown") 8 m = 1 ∨ (jqI T v (jChT "proof/goals") 11 m ≠ 1 ∧ jqI T v (jChT "proof/statement") 15 m ≠ 1)) : jwRq T v p S Z = Z := by
  subst hm
  unfold jwRq
  split
  · rename_i c
    rcases h with h | h | h | ⟨h1, h2⟩
    · exact absurd c.1 h
    · exact absurd h c.2.1
    · exact absurd h c.2.2
    · rw [if_neg h1, if_neg h2]
  · rfl
end J9AQ
end
section
-- p8: a request is cancelled, on the class's side
section J9CA
variable {T : Nat → Int → Int} {v u m : Int} {fk fi fz fn fa fs fu : Nat → Int32}
end J9CA
section J9CB
variable {G G1 : jT} {s0 x N n z : Nat} {t : jDtl} {q : jKg} {w w1 : jWl9} {ho : Nat → Option Nat} {us rw : Nat → List Int} {qq gQ : jRqG} {ib iB : Nat → List Int} {S : Int × (Int → jdD)} {Z Z8 : jwSt} {iV : Value} {T : Nat → Int → Int} {v u m : Int} {fk fi fz fn fa fs fu : Nat → Int32}
theorem jzCx.zz {n : Int} (h : n = 0) : jzCx w gQ iB x n := fun i z hi _ => by omega
end J9CB
end
section
-- how long a message is at least that opens or changes a document
theorem jMg.chg {D : jC} {pv pu n p d u v c t : Int} (h : jMg D pv pu n 22) (hp : jNde D pv p 1 6) (hd : jNde D pv d 1 12) (hu : jNde D pv u 3 3) (hv : jNde D pv v 4 7) (hc : jNde D pv c 2 14) (ht : jNde D pv t 3 4) : 123 ≤ n := by
  obtain ⟨⟨C, h1⟩, ⟨h2, j, j0, j1, j2, j3, j4⟩, m, m0, m1, m2, m3, m4⟩ := h
  have hj : jNde D pv j 3 7 := ⟨j0, j1, j3, j2⟩
  have hm : jNde D pv m 3 6 := ⟨m0, m1, m3, m2⟩
  have nil : ∀ a ∈ ([] : List Int), False := fun a ha => by cases ha
  have zu := (h1.2.2.1 (2 * u.toNat) (by have := hu.1; omega) (by have := hu.1; have := hu.2.1; omega)).1.1
  have zt := (h1.2.2.1 (2 * t.toNat) (by have := ht.1; omega) (by have := ht.1; have := ht.2.1; omega)).1.1
  have eu : jln D (2 * u.toNat) = jSo D.2.2.1 u := by
    unfold jln
    rw [if_pos (by omega), show (((2 * u.toNat) / 2 : Nat) : Int) = u by have := hu.1; omega, if_pos hu.2.2.1]
  have et : jln D (2 * t.toNat) = jSo D.2.2.1 t := by
    unfold jln
    rw [if_pos (by omega), show (((2 * t.toNat) / 2 : Nat) : Int) = t by have := ht.1; omega, if_pos ht.2.2.1]
  rw [eu] at zu
  rw [et] at zt
  have b := jByt h1 h2 [j, m, p, d, u, v, c, t]
    (List.pairwise_cons.mpr ⟨List.forall_mem_cons.mpr ⟨hj.ne hm (by omega), List.forall_mem_cons.mpr ⟨hj.ne hp (by omega), List.forall_mem_cons.mpr ⟨hj.ne hd (by omega), List.forall_mem_cons.mpr ⟨hj.ne hu (by omega), List.forall_mem_cons.mpr ⟨hj.ne hv (by omega), List.forall_mem_cons.mpr ⟨hj.ne hc (by omega), List.forall_mem_cons.mpr ⟨hj.ne ht (by omega), fun a ha => (nil a ha).elim⟩⟩⟩⟩⟩⟩⟩,
    List.pairwise_cons.mpr ⟨List.forall_mem_cons.mpr ⟨hm.ne hp (by omega), List.forall_mem_cons.mpr ⟨hm.ne hd (by omega), List.forall_mem_cons.mpr ⟨hm.ne hu (by omega), List.forall_mem_cons.mpr ⟨hm.ne hv (by omega), List.forall_mem_cons.mpr ⟨hm.ne hc (by omega), List.forall_mem_cons.mpr ⟨hm.ne ht (by omega), fun a ha => (nil a ha).elim⟩⟩⟩⟩⟩⟩,
    List.pairwise_cons.mpr ⟨List.forall_mem_cons.mpr ⟨hp.ne hd (by omega), List.forall_mem_cons.mpr ⟨hp.ne hu (by omega), List.forall_mem_cons.mpr ⟨hp.ne hv (by omega), List.forall_mem_cons.mpr ⟨hp.ne hc (by omega), List.forall_mem_cons.mpr ⟨hp.ne ht (by omega), fun a ha => (nil a ha).elim⟩⟩⟩⟩⟩,
    List.pairwise_cons.mpr ⟨List.forall_mem_cons.mpr ⟨hd.ne hu (by omega), List.forall_mem_cons.mpr ⟨hd.ne hv (by omega), List.forall_mem_cons.mpr ⟨hd.ne hc (by omega), List.forall_mem_cons.mpr ⟨hd.ne ht (by omega), fun a ha => (nil a ha).elim⟩⟩⟩⟩,
    List.pairwise_cons.mpr ⟨List.forall_mem_cons.mpr ⟨hu.ne hv (by omega), List.forall_mem_cons.mpr ⟨hu.ne hc (by omega), List.forall_mem_cons.mpr ⟨hu.ne ht (by omega), fun a ha => (nil a ha).elim⟩⟩⟩,
    List.pairwise_cons.mpr ⟨List.forall_mem_cons.mpr ⟨hv.ne hc (by omega), List.forall_mem_cons.mpr ⟨hv.ne ht (by omega), fun a ha => (nil a ha).elim⟩⟩,
    List.pairwise_cons.mpr ⟨List.forall_mem_cons.mpr ⟨hc.ne ht (by omega), fun a ha => (nil a ha).elim⟩,
    List.pairwise_cons.mpr ⟨fun a ha => (nil a ha).elim, List.Pairwise.nil⟩⟩⟩⟩⟩⟩⟩⟩)
    (List.forall_mem_cons.mpr ⟨hj.r (by omega), List.forall_mem_cons.mpr ⟨hm.r (by omega), List.forall_mem_cons.mpr ⟨hp.r (by omega), List.forall_mem_cons.mpr ⟨hd.r (by omega), List.forall_mem_cons.mpr ⟨hu.r (by omega), List.forall_mem_cons.mpr ⟨hv.r (by omega), List.forall_mem_cons.mpr ⟨hc.r (by omega), List.forall_mem_cons.mpr ⟨ht.r (by omega), fun a ha => (nil a ha).elim⟩⟩⟩⟩⟩⟩⟩⟩)
  rw [hj.s, hm.s, hp.w (by omega), hd.w (by omega), hu.s, hv.w (by omega), hc.w (by omega), ht.s, show jWs D [] = 0 from rfl, j4, m4, show (([j, m, p, d, u, v, c, t].length : Nat) : Int) = 8 from rfl] at b
  omega
def jTxf (fk fs : Nat → Int32) (pv : Int) : Prop := ∃ t : Int, 0 ≤ t ∧ t < pv ∧ jSo fs t = 4 ∧ jSo fk t = 3
theorem jOr.or {p q : Prop} (h : jOr p q) : p ∨ q := h
end
section
theorem dX11_changeDocument_0 : decode cX11_changeDocument 0 = .ok (.aload_n 0, 1) := by decide +kernel
theorem dX11_changeDocument_1 : decode cX11_changeDocument 1 = .ok (.getfield 28, 3) := by decide +kernel
theorem dX11_changeDocument_4 : decode cX11_changeDocument 4 = .ok (.iconst 0, 1) := by decide +kernel
theorem dX11_changeDocument_5 : decode cX11_changeDocument 5 = .ok (.ldc_w 271, 3) := by decide +kernel
theorem dX11_changeDocument_8 : decode cX11_changeDocument 8 = .ok (.invokevirtual 260, 3) := by decide +kernel
theorem dX11_changeDocument_11 : decode cX11_changeDocument 11 = .ok (.istore_n 1, 1) := by decide +kernel
theorem dX11_changeDocument_12 : decode cX11_changeDocument 12 = .ok (.aload_n 0, 1) := by decide +kernel
theorem dX11_changeDocument_13 : decode cX11_changeDocument 13 = .ok (.getfield 28, 3) := by decide +kernel
theorem dX11_changeDocument_16 : decode cX11_changeDocument 16 = .ok (.aload_n 0, 1) := by decide +kernel
theorem dX11_changeDocument_17 : decode cX11_changeDocument 17 = .ok (.getfield 28, 3) := by decide +kernel
theorem dX11_changeDocument_20 : decode cX11_changeDocument 20 = .ok (.iload_n 1, 1) := by decide +kernel
theorem dX11_changeDocument_21 : decode cX11_changeDocument 21 = .ok (.ldc_w 344, 3) := by decide +kernel
theorem dX11_changeDocument_24 : decode cX11_changeDocument 24 = .ok (.invokevirtual 260, 3) := by decide +kernel
theorem dX11_changeDocument_27 : decode cX11_changeDocument 27 = .ok (.ldc_w 354, 3) := by decide +kernel
theorem dX11_changeDocument_30 : decode cX11_changeDocument 30 = .ok (.invokevirtual 260, 3) := by decide +kernel
theorem dX11_changeDocument_33 : decode cX11_changeDocument 33 = .ok (.istore_n 2, 1) := by decide +kernel
theorem dX11_changeDocument_34 : decode cX11_changeDocument 34 = .ok (.aload_n 0, 1) := by decide +kernel
theorem dX11_changeDocument_35 : decode cX11_changeDocument 35 = .ok (.getfield 28, 3) := by decide +kernel
theorem dX11_changeDocument_38 : decode cX11_changeDocument 38 = .ok (.iload_n 1, 1) := by decide +kernel
theorem dX11_changeDocument_39 : decode cX11_changeDocument 39 = .ok (.ldc_w 382, 3) := by decide +kernel
theorem dX11_changeDocument_42 : decode cX11_changeDocument 42 = .ok (.invokevirtual 260, 3) := by decide +kernel
theorem dX11_changeDocument_45 : decode cX11_changeDocument 45 = .ok (.istore_n 3, 1) := by decide +kernel
theorem dX11_changeDocument_46 : decode cX11_changeDocument 46 = .ok (.aload_n 0, 1) := by decide +kernel
theorem dX11_changeDocument_47 : decode cX11_changeDocument 47 = .ok (.invokevirtual 359, 3) := by decide +kernel
theorem dX11_changeDocument_50 : decode cX11_changeDocument 50 = .ok (.astore 4, 2) := by decide +kernel
theorem dX11_changeDocument_52 : decode cX11_changeDocument 52 = .ok (.aload 4, 2) := by decide +kernel
theorem dX11_changeDocument_54 : decode cX11_changeDocument 54 = .ok (.ifnull 68, 3) := by decide +kernel
theorem dX11_changeDocument_57 : decode cX11_changeDocument 57 = .ok (.aload_n 0, 1) := by decide +kernel
theorem dX11_changeDocument_58 : decode cX11_changeDocument 58 = .ok (.getfield 28, 3) := by decide +kernel
theorem dX11_changeDocument_61 : decode cX11_changeDocument 61 = .ok (.iload_n 2, 1) := by decide +kernel
theorem dX11_changeDocument_62 : decode cX11_changeDocument 62 = .ok (.invokevirtual 283, 3) := by decide +kernel
theorem dX11_changeDocument_65 : decode cX11_changeDocument 65 = .ok (.iconst 4, 1) := by decide +kernel
theorem dX11_changeDocument_66 : decode cX11_changeDocument 66 = .ok (.if_icmp .ne 56, 3) := by decide +kernel
theorem dX11_changeDocument_69 : decode cX11_changeDocument 69 = .ok (.aload_n 0, 1) := by decide +kernel
theorem dX11_changeDocument_70 : decode cX11_changeDocument 70 = .ok (.getfield 28, 3) := by decide +kernel
theorem dX11_changeDocument_73 : decode cX11_changeDocument 73 = .ok (.iload_n 2, 1) := by decide +kernel
theorem dX11_changeDocument_74 : decode cX11_changeDocument 74 = .ok (.invokevirtual 367, 3) := by decide +kernel
theorem dX11_changeDocument_77 : decode cX11_changeDocument 77 = .ok (.aload 4, 2) := by decide +kernel
theorem dX11_changeDocument_79 : decode cX11_changeDocument 79 = .ok (.getfield 162, 3) := by decide +kernel
theorem dX11_changeDocument_82 : decode cX11_changeDocument 82 = .ok (.if_icmp .le 40, 3) := by decide +kernel
theorem dX11_changeDocument_85 : decode cX11_changeDocument 85 = .ok (.aload_n 0, 1) := by decide +kernel
theorem dX11_changeDocument_86 : decode cX11_changeDocument 86 = .ok (.getfield 28, 3) := by decide +kernel
theorem dX11_changeDocument_89 : decode cX11_changeDocument 89 = .ok (.iload_n 3, 1) := by decide +kernel
theorem dX11_changeDocument_90 : decode cX11_changeDocument 90 = .ok (.invokevirtual 283, 3) := by decide +kernel
theorem dX11_changeDocument_93 : decode cX11_changeDocument 93 = .ok (.iconst 2, 1) := by decide +kernel
theorem dX11_changeDocument_94 : decode cX11_changeDocument 94 = .ok (.if_icmp .ne 28, 3) := by decide +kernel
theorem dX11_changeDocument_97 : decode cX11_changeDocument 97 = .ok (.aload_n 0, 1) := by decide +kernel
theorem dX11_changeDocument_98 : decode cX11_changeDocument 98 = .ok (.getfield 28, 3) := by decide +kernel
theorem dX11_changeDocument_101 : decode cX11_changeDocument 101 = .ok (.iload_n 3, 1) := by decide +kernel
theorem dX11_changeDocument_102 : decode cX11_changeDocument 102 = .ok (.invokevirtual 356, 3) := by decide +kernel
theorem dX11_changeDocument_105 : decode cX11_changeDocument 105 = .ok (.iconst 1, 1) := by decide +kernel
theorem dX11_changeDocument_106 : decode cX11_changeDocument 106 = .ok (.if_icmp .lt 16, 3) := by decide +kernel
theorem dX11_changeDocument_109 : decode cX11_changeDocument 109 = .ok (.aload_n 0, 1) := by decide +kernel
theorem dX11_changeDocument_110 : decode cX11_changeDocument 110 = .ok (.getfield 28, 3) := by decide +kernel
theorem dX11_changeDocument_113 : decode cX11_changeDocument 113 = .ok (.iload_n 3, 1) := by decide +kernel
theorem dX11_changeDocument_114 : decode cX11_changeDocument 114 = .ok (.invokevirtual 356, 3) := by decide +kernel
theorem dX11_changeDocument_117 : decode cX11_changeDocument 117 = .ok (.bipush 8, 2) := by decide +kernel
theorem dX11_changeDocument_119 : decode cX11_changeDocument 119 = .ok (.if_icmp .le 4, 3) := by decide +kernel
theorem dX11_changeDocument_122 : decode cX11_changeDocument 122 = .ok (.return_, 1) := by decide +kernel
theorem dX11_changeDocument_123 : decode cX11_changeDocument 123 = .ok (.aload_n 0, 1) := by decide +kernel
theorem dX11_changeDocument_124 : decode cX11_changeDocument 124 = .ok (.getfield 82, 3) := by decide +kernel
theorem dX11_changeDocument_127 : decode cX11_changeDocument 127 = .ok (.aload 4, 2) := by decide +kernel
theorem dX11_changeDocument_129 : decode cX11_changeDocument 129 = .ok (.invokevirtual 384, 3) := by decide +kernel
theorem dX11_changeDocument_132 : decode cX11_changeDocument 132 = .ok (.aload_n 0, 1) := by decide +kernel
theorem dX11_changeDocument_133 : decode cX11_changeDocument 133 = .ok (.getfield 28, 3) := by decide +kernel
theorem dX11_changeDocument_136 : decode cX11_changeDocument 136 = .ok (.iload_n 3, 1) := by decide +kernel
theorem dX11_changeDocument_137 : decode cX11_changeDocument 137 = .ok (.invokevirtual 388, 3) := by decide +kernel
theorem dX11_changeDocument_140 : decode cX11_changeDocument 140 = .ok (.istore 5, 2) := by decide +kernel
theorem dX11_changeDocument_142 : decode cX11_changeDocument 142 = .ok (.iconst 0, 1) := by decide +kernel
theorem dX11_changeDocument_143 : decode cX11_changeDocument 143 = .ok (.istore 6, 2) := by decide +kernel
theorem dX11_changeDocument_145 : decode cX11_changeDocument 145 = .ok (.iload 6, 2) := by decide +kernel
theorem dX11_changeDocument_147 : decode cX11_changeDocument 147 = .ok (.aload_n 0, 1) := by decide +kernel
theorem dX11_changeDocument_148 : decode cX11_changeDocument 148 = .ok (.getfield 28, 3) := by decide +kernel
theorem dX11_changeDocument_151 : decode cX11_changeDocument 151 = .ok (.iload_n 3, 1) := by decide +kernel
theorem dX11_changeDocument_152 : decode cX11_changeDocument 152 = .ok (.invokevirtual 356, 3) := by decide +kernel
theorem dX11_changeDocument_155 : decode cX11_changeDocument 155 = .ok (.if_icmp .ge 30, 3) := by decide +kernel
theorem dX11_changeDocument_158 : decode cX11_changeDocument 158 = .ok (.aload_n 0, 1) := by decide +kernel
theorem dX11_changeDocument_159 : decode cX11_changeDocument 159 = .ok (.iload 5, 2) := by decide +kernel
theorem dX11_changeDocument_161 : decode cX11_changeDocument 161 = .ok (.invokevirtual 391, 3) := by decide +kernel
theorem dX11_changeDocument_164 : decode cX11_changeDocument 164 = .ok (.ifCond .ne 4, 3) := by decide +kernel
theorem dX11_changeDocument_167 : decode cX11_changeDocument 167 = .ok (.return_, 1) := by decide +kernel
theorem dX11_changeDocument_168 : decode cX11_changeDocument 168 = .ok (.aload_n 0, 1) := by decide +kernel
theorem dX11_changeDocument_169 : decode cX11_changeDocument 169 = .ok (.getfield 28, 3) := by decide +kernel
theorem dX11_changeDocument_172 : decode cX11_changeDocument 172 = .ok (.iload 5, 2) := by decide +kernel
theorem dX11_changeDocument_174 : decode cX11_changeDocument 174 = .ok (.invokevirtual 394, 3) := by decide +kernel
theorem dX11_changeDocument_177 : decode cX11_changeDocument 177 = .ok (.istore 5, 2) := by decide +kernel
theorem dX11_changeDocument_179 : decode cX11_changeDocument 179 = .ok (.iinc 6 1, 3) := by decide +kernel
theorem dX11_changeDocument_182 : decode cX11_changeDocument 182 = .ok (.goto (-37), 3) := by decide +kernel
theorem dX11_changeDocument_185 : decode cX11_changeDocument 185 = .ok (.aload_n 0, 1) := by decide +kernel
theorem dX11_changeDocument_186 : decode cX11_changeDocument 186 = .ok (.aload 4, 2) := by decide +kernel
theorem dX11_changeDocument_188 : decode cX11_changeDocument 188 = .ok (.invokevirtual 397, 3) := by decide +kernel
theorem dX11_changeDocument_191 : decode cX11_changeDocument 191 = .ok (.aload 4, 2) := by decide +kernel
theorem dX11_changeDocument_193 : decode cX11_changeDocument 193 = .ok (.aload_n 0, 1) := by decide +kernel
theorem dX11_changeDocument_194 : decode cX11_changeDocument 194 = .ok (.getfield 82, 3) := by decide +kernel
theorem dX11_changeDocument_197 : decode cX11_changeDocument 197 = .ok (.invokevirtual 384, 3) := by decide +kernel
theorem dX11_changeDocument_200 : decode cX11_changeDocument 200 = .ok (.aload 4, 2) := by decide +kernel
theorem dX11_changeDocument_202 : decode cX11_changeDocument 202 = .ok (.aload_n 0, 1) := by decide +kernel
theorem dX11_changeDocument_203 : decode cX11_changeDocument 203 = .ok (.getfield 28, 3) := by decide +kernel
theorem dX11_changeDocument_206 : decode cX11_changeDocument 206 = .ok (.iload_n 2, 1) := by decide +kernel
theorem dX11_changeDocument_207 : decode cX11_changeDocument 207 = .ok (.invokevirtual 367, 3) := by decide +kernel
theorem dX11_changeDocument_210 : decode cX11_changeDocument 210 = .ok (.putfield 162, 3) := by decide +kernel
theorem dX11_changeDocument_213 : decode cX11_changeDocument 213 = .ok (.aload 4, 2) := by decide +kernel
theorem dX11_changeDocument_215 : decode cX11_changeDocument 215 = .ok (.aload_n 0, 1) := by decide +kernel
theorem dX11_changeDocument_216 : decode cX11_changeDocument 216 = .ok (.getfield 41, 3) := by decide +kernel
theorem dX11_changeDocument_219 : decode cX11_changeDocument 219 = .ok (.getfield 203, 3) := by decide +kernel
theorem dX11_changeDocument_222 : decode cX11_changeDocument 222 = .ok (.invokevirtual 207, 3) := by decide +kernel
theorem dX11_changeDocument_225 : decode cX11_changeDocument 225 = .ok (.aload 4, 2) := by decide +kernel
theorem dX11_changeDocument_227 : decode cX11_changeDocument 227 = .ok (.invokevirtual 400, 3) := by decide +kernel
theorem dX11_changeDocument_230 : decode cX11_changeDocument 230 = .ok (.ifCond .ne 9, 3) := by decide +kernel
theorem dX11_changeDocument_233 : decode cX11_changeDocument 233 = .ok (.aload_n 0, 1) := by decide +kernel
theorem dX11_changeDocument_234 : decode cX11_changeDocument 234 = .ok (.aload 4, 2) := by decide +kernel
theorem dX11_changeDocument_236 : decode cX11_changeDocument 236 = .ok (.invokevirtual 403, 3) := by decide +kernel
theorem dX11_changeDocument_239 : decode cX11_changeDocument 239 = .ok (.aload 4, 2) := by decide +kernel
theorem dX11_changeDocument_241 : decode cX11_changeDocument 241 = .ok (.getfield 171, 3) := by decide +kernel
theorem dX11_changeDocument_244 : decode cX11_changeDocument 244 = .ok (.aload 4, 2) := by decide +kernel
theorem dX11_changeDocument_246 : decode cX11_changeDocument 246 = .ok (.getfield 168, 3) := by decide +kernel
theorem dX11_changeDocument_249 : decode cX11_changeDocument 249 = .ok (.if_icmp .ne 10, 3) := by decide +kernel
theorem dX11_changeDocument_252 : decode cX11_changeDocument 252 = .ok (.aload_n 0, 1) := by decide +kernel
theorem dX11_changeDocument_253 : decode cX11_changeDocument 253 = .ok (.aload 4, 2) := by decide +kernel
theorem dX11_changeDocument_255 : decode cX11_changeDocument 255 = .ok (.iconst 1, 1) := by decide +kernel
theorem dX11_changeDocument_256 : decode cX11_changeDocument 256 = .ok (.invokevirtual 378, 3) := by decide +kernel
theorem dX11_changeDocument_259 : decode cX11_changeDocument 259 = .ok (.return_, 1) := by decide +kernel
end
