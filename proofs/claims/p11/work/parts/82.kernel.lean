-- the reference's kernel: its facts, goals and lemma are good formulas
theorem jG1.sub2 {C : jK} {N Y x : Int} (h : jG1 C N Y x) (hs : (0 ≤ jSo C.s x ∧ jSo C.s x ≤ 2) ∨ jSo C.s x = 6) : jG1 C N Y (jSo C.a x) ∧ jG1 C N Y (jSo C.b x) ∧ jsz C x = 1 + jsz C (jSo C.a x) + jsz C (jSo C.b x) := by
  have hp : jPts C x = 2 := (jPts_nl C x).2.2.1 (by omega)
  have hq : jQf C x = 0 := (jQf_ok C x).2.1 (by omega)
  have p0 := h.1.part (k := 0) (by omega) (by omega)
  have p1 := h.1.part (k := 1) (by omega) (by omega)
  rw [hq, Int.add_zero] at p0 p1
  have s0 := jsz_part h.1 (by omega) (k := 0) (by omega) (by omega)
  have s1 := jsz_part h.1 (by omega) (k := 1) (by omega) (by omega)
  have hz := h.2
  have e := jsz_step h.1 (by omega)
  rw [hp, (jSzK_y C x 2).2.2.1 rfl] at e
  exact ⟨⟨p0.mono (by omega) (Int.le_refl _), by show jsz C (jPr C x 0) ≤ 80; omega⟩, ⟨p1.mono (by omega) (Int.le_refl _), by show jsz C (jPr C x 1) ≤ 80; omega⟩, e⟩
theorem jG1.quant {C D : jK} {N M Y x : Int} (h : jG1 C N Y x) (hA : jAgK C D N) (hM : N ≤ M) (hs : jSo C.s x = 4 ∨ jSo C.s x = 5) : jQf D x = 1 ∧ jPts D x = 1 ∧ jFm D M Y 80 0 x ∧ jsz D x ≤ 80 := by
  have h1 := h.1.nd.1; have h2 := h.1.nd.2.1
  refine ⟨by rw [hA.qf h1 h2]; exact (jQf_ok C x).1 hs, by rw [hA.pts h1 h2]; exact (jPts_nl C x).2.1 hs, h.1.ag hA hM, by rw [jsz_ag hA h.1]; exact h.2⟩
theorem jG1.rng {C : jK} {N Y x : Int} (h : jG1 C N Y x) : 0 ≤ x ∧ x < N ∧ 0 ≤ jSo C.s x ∧ jSo C.s x ≤ 10 := ⟨h.1.nd.1, h.1.nd.2.1, h.1.nd.2.2.1, h.1.nd.2.2.2.1⟩
theorem jG1.of {C : jK} {N Y x : Int} {d : Nat} (h : jFm C N Y d 0 x) (hd : d ≤ 4000) (hs : jsz C x ≤ 80) : jG1 C N Y x := ⟨h.tight hd 80 (by omega), hs⟩
theorem jMulB {a b : Int} (ha : 0 ≤ a ∧ a ≤ 80) (hb : -80 ≤ b ∧ b ≤ 80) : -6400 ≤ a * b ∧ a * b ≤ 6400 := by
  have h1 : a * b ≤ a * 80 := Int.mul_le_mul_of_nonneg_left hb.2 ha.1
  have h2 : a * (-80) ≤ a * b := Int.mul_le_mul_of_nonneg_left hb.1 ha.1
  omega
def jRd (D : jK) (c lo x hi : Int) : Prop := (c = 2 ∨ c = 3 ∨ c = 18 → jRw D 1500 12 lo x hi) ∧ (c = 14 ∨ c = 15 → jRtm D 13 x hi ∧ lo ≤ x ∧ hi - x ≤ 3100)
def jFc (ff gf : Nat → Int32) (pf qf x : Int) : Prop := (qf = pf ∧ gf = ff) ∨ (qf = pf + 1 ∧ pf ≤ 15 ∧ jUpd 16 ff gf pf x)
theorem jFa.fc {P : Int → Prop} {ff gf : Nat → Int32} {pf qf x : Int} (h : jFa P ff pf) (hc : jFc ff gf pf qf x) (hx : P x) : jFa P gf qf := by
  rcases hc with ⟨e1, e2⟩ | ⟨e1, e2, e3⟩
  · rw [e1, e2]; exact h
  · exact h.add e3 hx e1 (by omega)
/-- what the kernel holds between two sentences: nodes, symbols, facts, goals, whether there is a proof, its lemma -/
def jKi (C : jK) (pn py pf pg pp pl : Int) (ff fg fh fp : Nat → Int32) : Prop := 0 ≤ pn ∧ 0 ≤ py ∧ py ≤ 16 ∧ 0 ≤ pf ∧ pf ≤ 16 ∧ 0 ≤ pg ∧ pg ≤ 6 ∧ jFa (jG1 C pn py) ff pf ∧ jGl (jG1 C pn py) fg fh fp pg ∧ (1 ≤ pp → jG1 C pn py pl)
theorem jKi.ag {C D : jK} {pn qn py pf pg pp pl : Int} {ff fg fh fp : Nat → Int32} (h : jKi C pn py pf pg pp pl ff fg fh fp) (hA : jAgK C D pn) (hn : pn ≤ qn) : jKi D qn py pf pg pp pl ff fg fh fp := by
  obtain ⟨h1, h2, h3, h4, h5, h6, h7, h8, h9, h10⟩ := h
  exact ⟨by omega, h2, h3, h4, h5, h6, h7, h8.mono (fun x q => q.ag hA hn), h9.mono (fun x q => q.ag hA hn), fun q => (h10 q).ag hA hn⟩
theorem jKi.gl {C : jK} {pn py pf pg qg pp pl : Int} {ff fg fh fp gg gh gp : Nat → Int32} (h : jKi C pn py pf pg pp pl ff fg fh fp) (hg : jGl (jG1 C pn py) gg gh gp qg) (h0 : 0 ≤ qg) (h6 : qg ≤ 6) : jKi C pn py pf qg pp pl ff gg gh gp := by
  obtain ⟨h1, h2, h3, h4, h5, -, -, h8, h9, h10⟩ := h
  exact ⟨h1, h2, h3, h4, h5, h0, h6, h8, hg, h10⟩
-- one more symbol
theorem jFm.newsym {C : jK} {N Y : Int} {g : Nat → Int32} (hy : ∀ j : Int, 0 ≤ j → j < 16 → j ≠ Y → jSo g j = jSo C.y j) (h16 : Y < 16) {d : Nat} : ∀ {b n : Int}, jFm C N Y d b n → jFm (jK.mk C.s C.n C.a C.b C.c g) N (Y + 1) d b n ∧ ∀ e, jSzF (jK.mk C.s C.n C.a C.b C.c g) e n = jSzF C e n := by
  induction d with
  | zero => intro b n h; exact h.elim
  | succ d ih =>
    intro b n h
    obtain ⟨⟨h1, h2, h3, h4, h5, h6, h7, h8, h9⟩, hp⟩ := h
    have ep : jPts (jK.mk C.s C.n C.a C.b C.c g) n = jPts C n := by
      show (if jSo C.s n = 7 ∨ jSo C.s n = 8 then jSo g (jSo C.n n) else if jSo C.s n ≤ 2 ∨ jSo C.s n = 6 then 2 else if jSo C.s n = 4 ∨ jSo C.s n = 5 then 1 else 0) = (if jSo C.s n = 7 ∨ jSo C.s n = 8 then jSo C.y (jSo C.n n) else if jSo C.s n ≤ 2 ∨ jSo C.s n = 6 then 2 else if jSo C.s n = 4 ∨ jSo C.s n = 5 then 1 else 0)
      by_cases q : jSo C.s n = 7 ∨ jSo C.s n = 8
      · rw [if_pos q, if_pos q]; have := h5 q; exact hy _ (by omega) (by omega) (by omega)
      · rw [if_neg q, if_neg q]
    refine ⟨⟨⟨h1, h2, h3, h4, fun q => ⟨(h5 q).1, by have := (h5 q).2; show jSo C.n n < Y + 1; omega⟩, h6, h7, by rw [ep]; exact h8, by rw [ep]; exact h9⟩, fun k g0 g1 => ?_⟩, fun e => ?_⟩
    · rw [ep] at g1; exact (ih (hp k g0 g1)).1
    · cases e with
      | zero => rfl
      | succ e =>
        unfold jSzF
        rw [ep]
        have ee : ∀ k, 0 ≤ k → k < jPts C n → jSzF (jK.mk C.s C.n C.a C.b C.c g) e (jPr C n k) = jSzF C e (jPr C n k) := fun k g0 g1 => (ih (hp k g0 g1)).2 e
        have e0 : (if 0 < jPts C n then jSzF (jK.mk C.s C.n C.a C.b C.c g) e (jPr C n 0) else 0) = (if 0 < jPts C n then jSzF C e (jPr C n 0) else 0) := by split; exact ee 0 (by omega) (by omega); rfl
        have e1 : (if 1 < jPts C n then jSzF (jK.mk C.s C.n C.a C.b C.c g) e (jPr C n 1) else 0) = (if 1 < jPts C n then jSzF C e (jPr C n 1) else 0) := by split; exact ee 1 (by omega) (by omega); rfl
        have e2 : (if 2 < jPts C n then jSzF (jK.mk C.s C.n C.a C.b C.c g) e (jPr C n 2) else 0) = (if 2 < jPts C n then jSzF C e (jPr C n 2) else 0) := by split; exact ee 2 (by omega) (by omega); rfl
        show 1 + (if 0 < jPts C n then jSzF (jK.mk C.s C.n C.a C.b C.c g) e (jPr C n 0) else 0) + (if 1 < jPts C n then jSzF (jK.mk C.s C.n C.a C.b C.c g) e (jPr C n 1) else 0) + (if 2 < jPts C n then jSzF (jK.mk C.s C.n C.a C.b C.c g) e (jPr C n 2) else 0) = _
        rw [e0, e1, e2]
theorem jG1.newsym {C : jK} {N Y x : Int} {g : Nat → Int32} (h : jG1 C N Y x) (hy : ∀ j : Int, 0 ≤ j → j < 16 → j ≠ Y → jSo g j = jSo C.y j) (h16 : Y < 16) : jG1 (jK.mk C.s C.n C.a C.b C.c g) N (Y + 1) x := by
  have h1 := h.1.newsym hy h16
  refine ⟨h1.1, ?_⟩
  show jSzF _ 4000 x ≤ 80
  rw [h1.2 4000]; exact h.2
theorem jKi.newsym {C : jK} {pn py qy pf pg pp pl : Int} {ff fg fh fp g : Nat → Int32} (h : jKi C pn py pf pg pp pl ff fg fh fp) (hy : jUpd 16 C.y g py qy) (h16 : py < 16) : jKi (jK.mk C.s C.n C.a C.b C.c g) pn (py + 1) pf pg pp pl ff fg fh fp := by
  obtain ⟨h1, h2, h3, h4, h5, h6, h7, h8, h9, h10⟩ := h
  exact ⟨h1, by omega, by omega, h4, h5, h6, h7, h8.mono (fun x q => q.newsym hy.2 h16), h9.mono (fun x q => q.newsym hy.2 h16), fun q => (h10 q).newsym hy.2 h16⟩
