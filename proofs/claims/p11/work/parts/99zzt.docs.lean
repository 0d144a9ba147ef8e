-- the documents of the class: sentences in order, and what is still to be checked of the open ones
abbrev jFdo : List (Nat × Nat) := [(3, 4), (3, 5), (3, 6), (3, 10), (3, 11), (171, 0), (172, 0)]
def jEd (fe : Nat → Int32) (k : Int) : Int := if k ≤ 0 then 0 else jSo fe (k - 1)
def jPo (fe : Nat → Int32) (ps pk : Int) (vc : Value) (w : Nat) : Prop := pk ≤ ps ∧ ((vc = .null ∧ 575 * (ps - pk) + (1500 - jEd fe pk) ≤ w) ∨ (vc ≠ .null ∧ pk < ps ∧ 575 * (ps - pk) - 16 + (1500 - jSo fe pk) ≤ w))
def jD3 (dC : Nat → ClassId) (dI : Nat → Nat → Nat) (ca : Nat → ClassId) (G : jT) (a yb ye : Nat) (fb fe : Nat → Int32) (ps pk : Int32) (vc : Value) (H : Heap) : Prop := jP (dC, dI) G H [(a, 3, 4, .int ps), (a, 3, 10, .int pk), (a, 3, 11, vc)] ∧ jMc (dC, dI) G H [(yb, 171, 40, ca 1, fb), (ye, 172, 40, ca 1, fe)] ∧ jSn fb fe ps.toInt 1500 ∧ (0 ≤ ps.toInt ∧ ps.toInt ≤ 40 ∧ 0 ≤ pk.toInt)
def jSmm (G : jT) (x : Option Nat) (W : Nat → Nat) : Nat → Nat
  | 0 => 0
  | N + 1 => jSmm G x W N + (if G N = some (3, 0) ∧ x ≠ some N then W N else 0)
theorem jSmm.mono {G : jT} {x : Option Nat} {W : Nat → Nat} {N : Nat} : ∀ M, N ≤ M → jSmm G x W N ≤ jSmm G x W M
  | 0, h => by rw [Nat.le_zero.mp h]; exact Nat.le_refl _
  | M + 1, h => by
    by_cases e : N = M + 1
    · rw [e]; exact Nat.le_refl _
    · exact Nat.le_trans (jSmm.mono M (by omega)) (Nat.le_add_right _ _)
theorem jSmm.less {G : jT} {W : Nat → Nat} {a : Nat} (ha : G a = some (3, 0)) : ∀ N, jSmm G (some a) W N + (if a < N then W a else 0) = jSmm G none W N
  | 0 => rfl
  | N + 1 => by
    have h := jSmm.less (W := W) ha N
    show jSmm G (some a) W N + (if G N = some (3, 0) ∧ some a ≠ some N then W N else 0) + _ = jSmm G none W N + (if G N = some (3, 0) ∧ none ≠ some N then W N else 0)
    by_cases e : a = N
    · subst e
      rw [if_neg (by omega : ¬ a < a)] at h
      rw [if_neg (fun q => q.2 rfl), if_pos (by omega : a < a + 1), if_pos ⟨ha, fun q => by cases q⟩]
      omega
    · have e2 : (if G N = some (3, 0) ∧ some a ≠ some N then W N else 0) = (if G N = some (3, 0) ∧ none ≠ some N then W N else 0) := by
        by_cases q : G N = some (3, 0)
        · rw [if_pos ⟨q, fun z => e (Option.some.inj z)⟩, if_pos ⟨q, fun z => by cases z⟩]
        · rw [if_neg (fun z => q z.1), if_neg (fun z => q z.1)]
      rw [e2]
      by_cases q : a < N
      · rw [if_pos q] at h
        rw [if_pos (by omega : a < N + 1)]
        omega
      · rw [if_neg q] at h
        rw [if_neg (by omega : ¬ a < N + 1)]
        omega
theorem jSmm.ne {G : jT} {W : Nat → Nat} {a : Nat} (ha : G a ≠ some (3, 0)) : ∀ N, jSmm G (some a) W N = jSmm G none W N
  | 0 => rfl
  | N + 1 => by
    have h := jSmm.ne (W := W) ha N
    show jSmm G (some a) W N + (if G N = some (3, 0) ∧ some a ≠ some N then W N else 0) = jSmm G none W N + (if G N = some (3, 0) ∧ none ≠ some N then W N else 0)
    rw [h]
    by_cases q : G N = some (3, 0)
    · rw [if_pos ⟨q, fun z => ha (by rw [Option.some.inj z]; exact q)⟩, if_pos ⟨q, fun z => by cases z⟩]
    · rw [if_neg (fun z => q z.1), if_neg (fun z => q z.1)]
theorem jSmm.cg {G G1 : jT} {x : Option Nat} {W W1 : Nat → Nat} (h : ∀ N, (G1 N = some (3, 0) ∧ x ≠ some N) ↔ (G N = some (3, 0) ∧ x ≠ some N)) (hw : ∀ N, x ≠ some N → W1 N = W N) : ∀ N, jSmm G1 x W1 N = jSmm G x W N
  | 0 => rfl
  | N + 1 => by
    have h1 := jSmm.cg h hw N
    show jSmm G1 x W1 N + _ = jSmm G x W N + _
    rw [h1]
    by_cases q : G N = some (3, 0) ∧ x ≠ some N
    · rw [if_pos q, if_pos ((h N).mpr q), hw N q.2]
    · rw [if_neg q, if_neg (fun z => q ((h N).mp z))]
def jDcc (dC : Nat → ClassId) (dI : Nat → Nat → Nat) (ca : Nat → ClassId) (G : jT) (x : Option Nat) (ph : Nat) (H : Heap) : Prop := ∃ Yb Ye W : Nat → Nat,
  (∀ a n, G a = some (3, n) → jf (dC, dI) 3 a 5 (.ref (Yb a)) H ∧ jf (dC, dI) 3 a 6 (.ref (Ye a)) H ∧ G (Yb a) = some (171, 40) ∧ G (Ye a) = some (172, 40)) ∧
  (∀ a b n m, G a = some (3, n) → G b = some (3, m) → Yb a = Yb b → a = b) ∧ (∀ a b n m, G a = some (3, n) → G b = some (3, m) → Ye a = Ye b → a = b) ∧
  (∀ a n, G a = some (3, n) → x ≠ some a → ∃ (fb fe : Nat → Int32) (ps pk : Int32) (vc : Value), jD3 dC dI ca G a (Yb a) (Ye a) fb fe ps pk vc H ∧ (n = 0 → jPo fe ps.toInt pk.toInt vc (W a))) ∧ ∀ N, jSmm G x W N ≤ ph
section J41
variable {dC : Nat → ClassId} {dI : Nat → Nat → Nat} {ca : Nat → ClassId} {G G1 : jT} {H H1 : Heap} {x : Option Nat} {ph : Nat}
theorem jD3.of {a yb ye : Nat} {fb fe : Nat → Int32} {ps pk : Int32} {vc : Value} (h : jD3 dC dI ca G a yb ye fb fe ps pk vc H) (hf : ∀ i v, i = 4 ∨ i = 10 ∨ i = 11 → jf (dC, dI) 3 a i v H → jf (dC, dI) 3 a i v H1) (hb : H1[yb]? = H[yb]?) (he : H1[ye]? = H[ye]?) : jD3 dC dI ca G a yb ye fb fe ps pk vc H1 := by
  obtain ⟨g3, g4, g5⟩ := h
  refine ⟨fun q hq => ?_, fun q hq => ?_, g5⟩
  · obtain ⟨q1, q2⟩ := g3 q hq
    refine ⟨q1, ?_⟩
    simp only [List.mem_cons, List.not_mem_nil, or_false] at hq
    rcases hq with rfl | rfl | rfl
    · exact hf _ _ (Or.inl rfl) q2
    · exact hf _ _ (Or.inr (Or.inl rfl)) q2
    · exact hf _ _ (Or.inr (Or.inr rfl)) q2
  · obtain ⟨q1, q2, q3, q4⟩ := g4 q hq
    refine ⟨q1, q2, q3, q4.kept ?_⟩
    simp only [List.mem_cons, List.not_mem_nil, or_false] at hq
    rcases hq with rfl | rfl
    · exact hb
    · exact he
theorem jD3.up {a yb ye : Nat} {fb fe : Nat → Int32} {ps pk : Int32} {vc : Value} (h : jD3 dC dI ca G a yb ye fb fe ps pk vc H) (hle : jLe G G1) : jD3 dC dI ca G1 a yb ye fb fe ps pk vc H := by
  obtain ⟨g3, g4, g5⟩ := h
  refine ⟨fun q hq => ?_, fun q hq => ?_, g5⟩
  · obtain ⟨⟨n, q1⟩, q2⟩ := g3 q hq
    exact ⟨⟨n, hle _ _ q1⟩, q2⟩
  · obtain ⟨q1, q2⟩ := g4 q hq
    exact ⟨hle _ _ q1, q2⟩
theorem jDcc.ie (h : jDcc dC dI ca G x ph H) : ((jFdo, jDcc dC dI ca G x ph) : jIv).2 H ∧ ∀ H1 H2 : Heap, jAg (dC, dI) G ((jFdo, jDcc dC dI ca G x ph) : jIv).1 H1 H2 → ((jFdo, jDcc dC dI ca G x ph) : jIv).2 H1 → ((jFdo, jDcc dC dI ca G x ph) : jIv).2 H2 := by
  refine ⟨h, fun H1 H2 hA hq => ?_⟩
  obtain ⟨Yb, Ye, W, h1, h2, h3, h4, h5⟩ := hq
  refine ⟨Yb, Ye, W, fun a n ha => ?_, h2, h3, fun a n ha hx => ?_, h5⟩
  · obtain ⟨g1, g2, g3, g4⟩ := h1 a n ha
    exact ⟨hA.1 a 3 n 5 _ ha rfl g1, hA.1 a 3 n 6 _ ha rfl g2, g3, g4⟩
  · obtain ⟨g1, g2, g3, g4⟩ := h1 a n ha
    obtain ⟨fb, fe, ps, pk, vc, g, gp⟩ := h4 a n ha hx
    refine ⟨fb, fe, ps, pk, vc, g.of (fun i v hi hf => ?_) (hA.2 _ _ _ g3 (by omega) (by omega) rfl) (hA.2 _ _ _ g4 (by omega) (by omega) rfl), gp⟩
    rcases hi with rfl | rfl | rfl
    · exact hA.1 a 3 n 4 _ ha rfl hf
    · exact hA.1 a 3 n 10 _ ha rfl hf
    · exact hA.1 a 3 n 11 _ ha rfl hf
/-- a document is opened: what is known of it, and what the others want -/
theorem jDcc.opn {a n : Nat} (h : jDcc dC dI ca G none ph H) (ha : G a = some (3, n)) : ∃ (yb ye w ph1 : Nat) (fb fe : Nat → Int32) (ps pk : Int32) (vc : Value), G yb = some (171, 40) ∧ G ye = some (172, 40) ∧ jf (dC, dI) 3 a 5 (.ref yb) H ∧ jf (dC, dI) 3 a 6 (.ref ye) H ∧ jD3 dC dI ca G a yb ye fb fe ps pk vc H ∧ (n = 0 → jPo fe ps.toInt pk.toInt vc w) ∧ jDcc dC dI ca G (some a) ph1 H ∧ ph1 ≤ ph ∧ (n = 0 → ph1 + w ≤ ph) := by
  obtain ⟨Yb, Ye, W, h1, h2, h3, h4, h5⟩ := h
  obtain ⟨g1, g2, g3, g4⟩ := h1 a n ha
  obtain ⟨fb, fe, ps, pk, vc, g, gp⟩ := h4 a n ha (fun q => by cases q)
  by_cases e : n = 0
  · subst e
    have hs : ∀ N, jSmm G (some a) W N ≤ ph - W a := fun N => by
      have m1 := jSmm.mono (G := G) (x := some a) (W := W) (N := N) (N + a + 1) (by omega)
      have m2 := jSmm.less (W := W) ha (N + a + 1)
      rw [if_pos (by omega : a < N + a + 1)] at m2
      have m3 := h5 (N + a + 1)
      omega
    have m0 := jSmm.less (W := W) ha (a + 1)
    rw [if_pos (by omega : a < a + 1)] at m0
    have m3 := h5 (a + 1)
    exact ⟨Yb a, Ye a, W a, ph - W a, fb, fe, ps, pk, vc, g3, g4, g1, g2, g, gp, ⟨Yb, Ye, W, h1, h2, h3, fun b m hb _ => h4 b m hb (fun q => by cases q), hs⟩, by omega, fun _ => by omega⟩
  · refine ⟨Yb a, Ye a, W a, ph, fb, fe, ps, pk, vc, g3, g4, g1, g2, g, gp, ⟨Yb, Ye, W, h1, h2, h3, fun b m hb _ => h4 b m hb (fun q => by cases q), fun N => ?_⟩, Nat.le_refl _, fun q => absurd q e⟩
    rw [jSmm.ne (fun q => e (by rw [ha] at q; exact congrArg Prod.snd (Option.some.inj q))) N]
    exact h5 N
/-- it is whole again -/
theorem jDcc.full {a n yb ye w : Nat} {fb fe : Nat → Int32} {ps pk : Int32} {vc : Value} (h : jDcc dC dI ca G (some a) ph H) (ha : G a = some (3, n)) (p5 : jf (dC, dI) 3 a 5 (.ref yb) H) (p6 : jf (dC, dI) 3 a 6 (.ref ye) H) (g : jD3 dC dI ca G a yb ye fb fe ps pk vc H) (gp : n = 0 → jPo fe ps.toInt pk.toInt vc w) {ph1 : Nat} (hp : ph ≤ ph1) (hw : n = 0 → ph + w ≤ ph1) : jDcc dC dI ca G none ph1 H := by
  obtain ⟨Yb, Ye, W, h1, h2, h3, h4, h5⟩ := h
  have e1 : Yb a = yb := by have := jf.uniq (h1 a n ha).1 p5; cases this; rfl
  have e2 : Ye a = ye := by have := jf.uniq (h1 a n ha).2.1 p6; cases this; rfl
  refine ⟨Yb, Ye, fun b => if b = a then w else W b, h1, h2, h3, fun b m hb _ => ?_, fun N => ?_⟩
  · by_cases e : b = a
    · subst e
      rw [e1, e2]
      have em : m = n := by
        rw [ha] at hb
        exact (congrArg Prod.snd (Option.some.inj hb)).symm
      refine ⟨fb, fe, ps, pk, vc, g, fun q => ?_⟩
      show jPo fe ps.toInt pk.toInt vc (if b = b then w else W b)
      rw [if_pos rfl]
      exact gp (em ▸ q)
    · obtain ⟨fb1, fe1, ps1, pk1, vc1, g1, gp1⟩ := h4 b m hb (fun q => e (Option.some.inj q).symm)
      refine ⟨fb1, fe1, ps1, pk1, vc1, g1, fun q => ?_⟩
      show jPo fe1 ps1.toInt pk1.toInt vc1 (if b = a then w else W b)
      rw [if_neg e]
      exact gp1 q
  · have c1 : ∀ M, jSmm G (some a) (fun b => if b = a then w else W b) M = jSmm G (some a) W M := jSmm.cg (fun _ => Iff.rfl) (fun M hM => if_neg (fun q => hM (by rw [q])))
    by_cases e : n = 0
    · subst e
      have m := jSmm.less (W := fun b => if b = a then w else W b) ha N
      rw [c1 N] at m
      have m5 := h5 N
      have m6 := hw rfl
      have m7 : (if a < N then (if a = a then w else W a) else 0) ≤ w := by
        by_cases q : a < N
        · rw [if_pos q, if_pos rfl]; exact Nat.le_refl _
        · rw [if_neg q]; omega
      omega
    · rw [← jSmm.ne (fun q => e (by rw [ha] at q; exact congrArg Prod.snd (Option.some.inj q))) N, c1 N]
      exact Nat.le_trans (h5 N) hp
/-- a field of the open document is written -/
theorem jDcc.fld {a n yb ye : Nat} (h : jDcc dC dI ca G (some a) ph H) (ha : G a = some (3, n)) (hfr : ∀ p, p ≠ a → H1[p]? = H[p]?) (p5 : jf (dC, dI) 3 a 5 (.ref yb) H) (p6 : jf (dC, dI) 3 a 6 (.ref ye) H) (q5 : jf (dC, dI) 3 a 5 (.ref yb) H1) (q6 : jf (dC, dI) 3 a 6 (.ref ye) H1) : jDcc dC dI ca G (some a) ph H1 := by
  obtain ⟨Yb, Ye, W, h1, h2, h3, h4, h5⟩ := h
  have e1 : Yb a = yb := by have := jf.uniq (h1 a n ha).1 p5; cases this; rfl
  have e2 : Ye a = ye := by have := jf.uniq (h1 a n ha).2.1 p6; cases this; rfl
  refine ⟨Yb, Ye, W, fun b m hb => ?_, h2, h3, fun b m hb hx => ?_, h5⟩
  · obtain ⟨g1, g2, g3, g4⟩ := h1 b m hb
    by_cases e : b = a
    · subst e
      exact ⟨by rw [e1]; exact q5, by rw [e2]; exact q6, g3, g4⟩
    · exact ⟨g1.kept (hfr b e), g2.kept (hfr b e), g3, g4⟩
  · obtain ⟨g1, g2, g3, g4⟩ := h1 b m hb
    have e : b ≠ a := fun q => hx (by rw [q])
    obtain ⟨fb, fe, ps, pk, vc, g, gp⟩ := h4 b m hb hx
    refine ⟨fb, fe, ps, pk, vc, g.of (fun i v hi hf => hf.kept (hfr b e)) (hfr _ (fun q => ?_)) (hfr _ (fun q => ?_)), gp⟩
    · rw [q, ha] at g3
      have := congrArg Prod.fst (Option.some.inj g3)
      simp at this
    · rw [q, ha] at g4
      have := congrArg Prod.fst (Option.some.inj g4)
      simp at this
/-- an array of the open document is written -/
theorem jDcc.arr {a n y k : Nat} (h : jDcc dC dI ca G (some a) ph H) (ha : G a = some (3, n)) (hy : G y = some (k, 40)) (hk : (k = 171 ∧ jf (dC, dI) 3 a 5 (.ref y) H) ∨ (k = 172 ∧ jf (dC, dI) 3 a 6 (.ref y) H)) (hfr : ∀ p, p ≠ y → H1[p]? = H[p]?) : jDcc dC dI ca G (some a) ph H1 := by
  obtain ⟨Yb, Ye, W, h1, h2, h3, h4, h5⟩ := h
  have hn : ∀ b m, G b = some (3, m) → b ≠ y := fun b m hb q => by
    rw [q, hy] at hb
    have := congrArg Prod.fst (Option.some.inj hb)
    simp at this
    rcases hk with hk | hk <;> omega
  refine ⟨Yb, Ye, W, fun b m hb => ?_, h2, h3, fun b m hb hx => ?_, h5⟩
  · obtain ⟨g1, g2, g3, g4⟩ := h1 b m hb
    exact ⟨g1.kept (hfr b (hn b m hb)), g2.kept (hfr b (hn b m hb)), g3, g4⟩
  · obtain ⟨g1, g2, g3, g4⟩ := h1 b m hb
    obtain ⟨fb, fe, ps, pk, vc, g, gp⟩ := h4 b m hb hx
    refine ⟨fb, fe, ps, pk, vc, g.of (fun i v hi hf => hf.kept (hfr b (hn b m hb))) (hfr _ (fun q => ?_)) (hfr _ (fun q => ?_)), gp⟩
    · rcases hk with ⟨k1, k2⟩ | ⟨k1, k2⟩
      · have e1 : Yb a = y := by have := jf.uniq (h1 a n ha).1 k2; cases this; rfl
        exact hx (by rw [h2 b a m n hb ha (q.trans e1.symm)])
      · rw [q, hy] at g3
        have := congrArg Prod.fst (Option.some.inj g3)
        simp at this
        omega
    · rcases hk with ⟨k1, k2⟩ | ⟨k1, k2⟩
      · rw [q, hy] at g4
        have := congrArg Prod.fst (Option.some.inj g4)
        simp at this
        omega
      · have e1 : Ye a = y := by have := jf.uniq (h1 a n ha).2.1 k2; cases this; rfl
        exact hx (by rw [h3 b a m n hb ha (q.trans e1.symm)])
theorem jDcc.grow {ks : List Nat} (h : jDcc dC dI ca G x ph H) (hle : jLe G G1) (hN : jNk ks G G1) (hk : ks.contains 3 = true) : jDcc dC dI ca G1 x ph H := by
  obtain ⟨Yb, Ye, W, h1, h2, h3, h4, h5⟩ := h
  refine ⟨Yb, Ye, W, fun a n ha => ?_, fun a b n m ha hb => h2 a b n m (hN a 3 n ha hk) (hN b 3 m hb hk), fun a b n m ha hb => h3 a b n m (hN a 3 n ha hk) (hN b 3 m hb hk), fun a n ha hx => ?_, fun N => ?_⟩
  · obtain ⟨g1, g2, g3, g4⟩ := h1 a n (hN a 3 n ha hk)
    exact ⟨g1, g2, hle _ _ g3, hle _ _ g4⟩
  · obtain ⟨fb, fe, ps, pk, vc, g, gp⟩ := h4 a n (hN a 3 n ha hk) hx
    exact ⟨fb, fe, ps, pk, vc, g.up hle, gp⟩
  · rw [jSmm.cg (G := G) (fun M => ⟨fun q => ⟨hN M 3 0 q.1 hk, q.2⟩, fun q => ⟨hle _ _ q.1, q.2⟩⟩) (fun _ _ => rfl) N]
    exact h5 N
/-- a new document -/
theorem jDcc.typ {r n yb ye : Nat} {fb fe : Nat → Int32} (h : jDcc dC dI ca G none ph H) (hn : ∀ t, G r ≠ some t) (h4 : jf (dC, dI) 3 r 4 (.int 0) H) (h10 : jf (dC, dI) 3 r 10 (.int 0) H) (h11 : jf (dC, dI) 3 r 11 .null H) (h5 : jf (dC, dI) 3 r 5 (.ref yb) H) (h6 : jf (dC, dI) 3 r 6 (.ref ye) H) (hb : G yb = some (171, 40)) (he : G ye = some (172, 40)) (hM : jMc (dC, dI) G H [(yb, 171, 40, ca 1, fb), (ye, 172, 40, ca 1, fe)])
    (hd : ∀ a m, G a = some (3, m) → ∀ y, (jf (dC, dI) 3 a 5 (.ref y) H → y ≠ yb) ∧ (jf (dC, dI) 3 a 6 (.ref y) H → y ≠ ye)) {ph1 : Nat} (hp : ph ≤ ph1) (hw : n = 0 → ph + 1500 ≤ ph1) : jDcc dC dI ca (va_up G r (some (3, n))) none ph1 H := by
  have hle : jLe G (va_up G r (some (3, n))) := jLe.typ hn
  obtain ⟨Yb, Ye, W, g1, g2, g3, g4, g5⟩ := h
  have key : ∀ a m, va_up G r (some (3, n)) a = some (3, m) → (a = r ∧ m = n) ∨ (a ≠ r ∧ G a = some (3, m)) := fun a m ha => by
    by_cases e : a = r
    · subst e
      have e1 : some (3, n) = some (3, m) := jUp_self.symm.trans ha
      exact Or.inl ⟨rfl, (congrArg Prod.snd (Option.some.inj e1)).symm⟩
    · rw [va_up_ne _ _ e] at ha
      exact Or.inr ⟨e, ha⟩
  refine ⟨fun b => if b = r then yb else Yb b, fun b => if b = r then ye else Ye b, fun b => if b = r then 1500 else W b, fun a m ha => ?_, fun a b m m' ha hb1 e => ?_, fun a b m m' ha hb1 e => ?_, fun a m ha _ => ?_, fun N => ?_⟩
  · rcases key a m ha with ⟨rfl, rfl⟩ | ⟨ne, ha1⟩
    · simp only [if_pos]
      exact ⟨h5, h6, hle _ _ hb, hle _ _ he⟩
    · obtain ⟨q1, q2, q3, q4⟩ := g1 a m ha1
      simp only [if_neg ne]
      exact ⟨q1, q2, hle _ _ q3, hle _ _ q4⟩
  · rcases key a m ha with ⟨rfl, rfl⟩ | ⟨ne, ha1⟩
    · rcases key b m' hb1 with ⟨rfl, -⟩ | ⟨ne', hb2⟩
      · rfl
      · simp only [if_pos, if_neg ne'] at e
        exact absurd e.symm (((hd b m' hb2 (Yb b)).1) (g1 b m' hb2).1)
    · rcases key b m' hb1 with ⟨rfl, -⟩ | ⟨ne', hb2⟩
      · simp only [if_pos, if_neg ne] at e
        exact absurd e (((hd a m ha1 (Yb a)).1) (g1 a m ha1).1)
      · simp only [if_neg ne, if_neg ne'] at e
        exact g2 a b m m' ha1 hb2 e
  · rcases key a m ha with ⟨rfl, rfl⟩ | ⟨ne, ha1⟩
    · rcases key b m' hb1 with ⟨rfl, -⟩ | ⟨ne', hb2⟩
      · rfl
      · simp only [if_pos, if_neg ne'] at e
        exact absurd e.symm (((hd b m' hb2 (Ye b)).2) (g1 b m' hb2).2.1)
    · rcases key b m' hb1 with ⟨rfl, -⟩ | ⟨ne', hb2⟩
      · simp only [if_pos, if_neg ne] at e
        exact absurd e (((hd a m ha1 (Ye a)).2) (g1 a m ha1).2.1)
      · simp only [if_neg ne, if_neg ne'] at e
        exact g3 a b m m' ha1 hb2 e
  · rcases key a m ha with ⟨rfl, rfl⟩ | ⟨ne, ha1⟩
    · simp only [if_pos]
      refine ⟨fb, fe, 0, 0, .null, ⟨fun q hq => ?_, fun q hq => ?_, jSn.zero (by decide), by decide⟩, fun _ => ⟨by decide, Or.inl ⟨rfl, by show (575 : Int) * (0 - 0) + (1500 - jEd fe 0) ≤ 1500; unfold jEd; rw [if_pos (by omega)]; omega⟩⟩⟩
      · simp only [List.mem_cons, List.not_mem_nil, or_false] at hq
        rcases hq with rfl | rfl | rfl
        · exact ⟨⟨_, ha⟩, h4⟩
        · exact ⟨⟨_, ha⟩, h10⟩
        · exact ⟨⟨_, ha⟩, h11⟩
      · obtain ⟨q1, q2⟩ := hM q hq
        exact ⟨hle _ _ q1, q2⟩
    · obtain ⟨fb1, fe1, ps1, pk1, vc1, q, qp⟩ := g4 a m ha1 (fun q => by cases q)
      simp only [if_neg ne]
      exact ⟨fb1, fe1, ps1, pk1, vc1, q.up hle, qp⟩
  · have hr0 : G r ≠ some (3, 0) := hn _
    have c1 : ∀ M, jSmm (va_up G r (some (3, n))) (some r) (fun b => if b = r then 1500 else W b) M = jSmm G (some r) W M := jSmm.cg (fun M => ⟨fun q => ⟨by rw [va_up_ne _ _ (fun z => q.2 (by rw [z]))] at q; exact q.1, q.2⟩, fun q => ⟨by rw [va_up_ne _ _ (fun z => q.2 (by rw [z]))]; exact q.1, q.2⟩⟩) (fun M hM => if_neg (fun z => hM (by rw [z])))
    have c2 := g5 N
    rw [← jSmm.ne hr0 N, ← c1 N] at c2
    by_cases e : n = 0
    · subst e
      have m := jSmm.less (W := fun b => if b = r then 1500 else W b) (a := r) (G := va_up G r (some (3, 0))) jUp_self N
      have m6 := hw rfl
      have m7 : (if r < N then (if r = r then 1500 else W r) else 0) ≤ 1500 := by
        by_cases q : r < N
        · rw [if_pos q, if_pos rfl]; exact Nat.le_refl _
        · rw [if_neg q]; omega
      omega
    · rw [← jSmm.ne (a := r) (G := va_up G r (some (3, n))) (fun q => e (congrArg Prod.snd (Option.some.inj (jUp_self.symm.trans q)))) N]
      exact Nat.le_trans c2 hp
/-- the same, with the numbers of each document told -/
def jDcx (dC : Nat → ClassId) (dI : Nat → Nat → Nat) (ca : Nat → ClassId) (G : jT) (ph : Nat) (sn ck : Nat → Int32) (vn : Nat → Value) (H : Heap) : Prop := jDcc dC dI ca G none ph H ∧ ∀ a n, G a = some (3, n) → jf (dC, dI) 3 a 4 (.int (sn a)) H ∧ jf (dC, dI) 3 a 10 (.int (ck a)) H ∧ jf (dC, dI) 3 a 11 (vn a) H
theorem jDcc.ex (h : jDcc dC dI ca G none ph H) : ∃ (sn ck : Nat → Int32) (vn : Nat → Value), jDcx dC dI ca G ph sn ck vn H := by
  obtain ⟨Yb, Ye, W, h1, h2, h3, h4, h5⟩ := h
  have key : ∀ a : Nat, ∃ q : Int32 × Int32 × Value, ∀ n, G a = some (3, n) → jf (dC, dI) 3 a 4 (.int q.1) H ∧ jf (dC, dI) 3 a 10 (.int q.2.1) H ∧ jf (dC, dI) 3 a 11 q.2.2 H := fun a => by
    by_cases hx : ∃ n, G a = some (3, n)
    · obtain ⟨n, ha⟩ := hx
      obtain ⟨fb, fe, ps, pk, vc, g, -⟩ := h4 a n ha (fun q => by cases q)
      exact ⟨(ps, pk, vc), fun _ _ => ⟨(g.1 _ List.mem_cons_self).2, (g.1 _ (List.mem_cons_of_mem _ List.mem_cons_self)).2, (g.1 _ (List.mem_cons_of_mem _ (List.mem_cons_of_mem _ List.mem_cons_self))).2⟩⟩
    · exact ⟨(0, 0, .null), fun n ha => absurd ⟨n, ha⟩ hx⟩
  exact ⟨fun a => (Classical.choose (key a)).1, fun a => (Classical.choose (key a)).2.1, fun a => (Classical.choose (key a)).2.2, ⟨Yb, Ye, W, h1, h2, h3, h4, h5⟩, fun a n ha => Classical.choose_spec (key a) n ha⟩
theorem jDcx.ie {sn ck : Nat → Int32} {vn : Nat → Value} (h : jDcx dC dI ca G ph sn ck vn H) : ((jFdo, jDcx dC dI ca G ph sn ck vn) : jIv).2 H ∧ ∀ H1 H2 : Heap, jAg (dC, dI) G ((jFdo, jDcx dC dI ca G ph sn ck vn) : jIv).1 H1 H2 → ((jFdo, jDcx dC dI ca G ph sn ck vn) : jIv).2 H1 → ((jFdo, jDcx dC dI ca G ph sn ck vn) : jIv).2 H2 :=
  ⟨h, fun H1 H2 hA hq => ⟨(jDcc.ie hq.1).2 H1 H2 hA hq.1, fun a n ha => by
    obtain ⟨q1, q2, q3⟩ := hq.2 a n ha
    exact ⟨hA.1 a 3 n 4 _ ha rfl q1, hA.1 a 3 n 10 _ ha rfl q2, hA.1 a 3 n 11 _ ha rfl q3⟩⟩⟩
theorem jPo.nul {fe : Nat → Int32} {ps pk : Int} {w : Nat} (h : jPo fe ps pk .null w) : pk ≤ ps ∧ 575 * (ps - pk) + (1500 - jEd fe pk) ≤ w := by
  obtain ⟨h1, h2 | h2⟩ := h
  · exact ⟨h1, h2.2⟩
  · exact absurd rfl h2.1
theorem jPo.rf {fe : Nat → Int32} {ps pk : Int} {w x : Nat} (h : jPo fe ps pk (.ref x) w) : pk < ps ∧ 575 * (ps - pk) - 16 + (1500 - jSo fe pk) ≤ w := by
  obtain ⟨h1, h2 | h2⟩ := h
  · exact absurd h2.1 (fun q => by cases q)
  · exact h2.2
theorem jPo.mkN {fe : Nat → Int32} {ps pk : Int} (h : pk ≤ ps) : jPo fe ps pk .null (575 * (ps - pk) + (1500 - jEd fe pk)).toNat := ⟨h, Or.inl ⟨rfl, Int.self_le_toNat _⟩⟩
theorem jPo.mkR {fe : Nat → Int32} {ps pk : Int} {x : Nat} (h : pk < ps) : jPo fe ps pk (.ref x) (575 * (ps - pk) - 16 + (1500 - jSo fe pk)).toNat := ⟨by omega, Or.inr ⟨(fun q => by cases q), h, Int.self_le_toNat _⟩⟩
theorem jEd.nx {fb fe : Nat → Int32} {s u k : Int} (h : jSn fb fe s u) (h0 : 0 ≤ k) (h1 : k < s) : jEd fe k ≤ jSo fb k ∧ 0 ≤ jEd fe k ∧ jEd fe (k + 1) = jSo fe k ∧ jSo fb k < jSo fe k ∧ jSo fe k ≤ u ∧ 0 ≤ jSo fb k := by
  have g := h k h0 h1
  have e1 : jEd fe (k + 1) = jSo fe k := by
    unfold jEd
    rw [if_neg (by omega), show k + 1 - 1 = k by omega]
  unfold jEd at e1 ⊢
  by_cases q : k ≤ 0
  · rw [if_pos q]
    exact ⟨g.1, Int.le_refl _, e1, g.2.1, g.2.2.1, g.1⟩
  · rw [if_neg q]
    have g1 := h (k - 1) (by omega) (by omega)
    have g2 := g1.2.2.2 (by omega)
    rw [show k - 1 + 1 = k by omega] at g2
    exact ⟨g2, by omega, e1, g.2.1, g.2.2.1, g.1⟩
/-- the arrays of the older documents are older -/
theorem jDcc.fresh {G0 : jT} {H0 : Heap} {r yb ye : Nat} (h : jDcc dC dI ca G0 none ph H0) (hab : ∀ a t, G0 a = some t → a < H0.size) (hr : ∀ t, G0 r ≠ some t) (hn : jNk [3] G0 G) (hk : jKx r G0 G H0 H) (hb : H0.size ≤ yb) (he : H0.size ≤ ye) : ∀ a m, G a = some (3, m) → ∀ y, (jf (dC, dI) 3 a 5 (.ref y) H → y ≠ yb) ∧ (jf (dC, dI) 3 a 6 (.ref y) H → y ≠ ye) := fun a m ha y => by
  have h0 := hn a 3 m ha rfl
  obtain ⟨Yb, Ye, W, h1, -⟩ := h
  obtain ⟨q1, q2, q3, q4⟩ := h1 a m h0
  have c : H[a]? = H0[a]? := hk.1 a (hab _ _ h0) (fun e => hr _ (by rw [← e]; exact h0))
  have l1 := hab _ _ q3
  have l2 := hab _ _ q4
  refine ⟨fun g => ?_, fun g => ?_⟩
  · have e := jf.uniq g (q1.kept c)
    cases e
    exact Nat.ne_of_lt (Nat.lt_of_lt_of_le l1 hb)
  · have e := jf.uniq g (q2.kept c)
    cases e
    exact Nat.ne_of_lt (Nat.lt_of_lt_of_le l2 he)
theorem jEd.to {fe : Nat → Int32} {k k1 x : Int} (h : jEd fe (k + 1) = x) (e : k1 = k + 1) : jEd fe k1 = x := by
  rw [e]
  exact h
theorem jEd.le {fb fe : Nat → Int32} {s u k : Int} (h : jSn fb fe s u) (hu : 0 ≤ u) (h0 : 0 ≤ k) (h1 : k ≤ s) : jEd fe k ≤ u := by
  unfold jEd
  by_cases q : k ≤ 0
  · rw [if_pos q]; exact hu
  · rw [if_neg q]
    exact (h (k - 1) (by omega) (by omega)).2.2.1
end J41
