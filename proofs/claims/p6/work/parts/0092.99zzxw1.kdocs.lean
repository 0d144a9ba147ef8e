section
-- p8: what is told of all documents of the class: sentences, what is checked, the check that goes on (written by mkent.py)
section J81
variable {dC : Nat → ClassId} {dI : Nat → Nat → Nat} {ca : Nat → ClassId} {G G1 : jT} {H H1 : Heap} {x : Option Nat} {q : jKg}
variable {a ysb yse ysc ybh : Nat} {sn : Int32} {ck : Int32} {lf : Int32} {cv : Value} {fv : Value} {sb : Nat → Int32} {se : Nat → Int32} {sc : Nat → Int32} {bh : Nat → Option Nat}
theorem jKD.typ {r n : Nat} (h : jKD dC dI ca G none q H) (hn : ∀ t, G r ≠ some t) (p5 : jf (dC, dI) 3 r 5 (.ref ysb) H) (p6 : jf (dC, dI) 3 r 6 (.ref yse) H) (p7 : jf (dC, dI) 3 r 7 (.ref ysc) H) (p9 : jf (dC, dI) 3 r 9 (.ref ybh) H) (p4 : jf (dC, dI) 3 r 4 (.int sn) H) (p10 : jf (dC, dI) 3 r 10 (.int ck) H) (p13 : jf (dC, dI) 3 r 13 (.int lf) H) (p11 : jf (dC, dI) 3 r 11 cv H) (p12 : jf (dC, dI) 3 r 12 fv H) (hM : jMc (dC, dI) G H [(ysb, 171, 40, ca 1, sb), (yse, 172, 40, ca 1, se), (ysc, 176, 40, ca 1, sc)]) (hQ0 : jQc dC dI (ca 6) ybh 40 bh H) (hg0 : G ysb = some (171, 40)) (hg1 : G yse = some (172, 40)) (hg2 : G ysc = some (176, 40)) (hg3 : G ybh = some (210, 40)) (hd0 : ∀ a m, G a = some (3, m) → ∀ w, jf (dC, dI) 3 a 5 (.ref w) H → w ≠ ysb) (hd1 : ∀ a m, G a = some (3, m) → ∀ w, jf (dC, dI) 3 a 6 (.ref w) H → w ≠ yse) (hd2 : ∀ a m, G a = some (3, m) → ∀ w, jf (dC, dI) 3 a 7 (.ref w) H → w ≠ ysc) (hd3 : ∀ a m, G a = some (3, m) → ∀ w, jf (dC, dI) 3 a 9 (.ref w) H → w ≠ ybh) : jKD dC dI ca (va_up G r (some (3, n))) none (q.put r sn ck lf cv fv sb se sc bh) H := by
  have hle : jLe G (va_up G r (some (3, n))) := jLe.typ hn
  obtain ⟨Ysb, Yse, Ysc, Ybh, h1, i0, i1, i2, i3, h3⟩ := h
  have key : ∀ a m, va_up G r (some (3, n)) a = some (3, m) → (a = r ∧ m = n) ∨ (a ≠ r ∧ G a = some (3, m)) := fun a m ha => by
    by_cases e : a = r
    · subst e
      have e1 : some (3, n) = some (3, m) := jUp_self.symm.trans ha
      exact Or.inl ⟨rfl, (congrArg Prod.snd (Option.some.inj e1)).symm⟩
    · rw [va_up_ne _ _ e] at ha
      exact Or.inr ⟨e, ha⟩
  refine ⟨jUf Ysb r ysb, jUf Yse r yse, jUf Ysc r ysc, jUf Ybh r ybh, fun a m ha => ?_, fun a b m m1 ha hb e => ?_, fun a b m m1 ha hb e => ?_, fun a b m m1 ha hb e => ?_, fun a b m m1 ha hb e => ?_, fun a m ha _ => ?_⟩
  · rcases key a m ha with ⟨rfl, rfl⟩ | ⟨ne, ha1⟩
    · rw [jUf_s, jUf_s, jUf_s, jUf_s]
      exact ⟨p5, hle _ _ hg0, p6, hle _ _ hg1, p7, hle _ _ hg2, p9, hle _ _ hg3⟩
    · obtain ⟨g0, e0, g1, e1, g2, e2, g3, e3⟩ := h1 a m ha1
      rw [jUf_n _ _ ne, jUf_n _ _ ne, jUf_n _ _ ne, jUf_n _ _ ne]
      exact ⟨g0, hle _ _ e0, g1, hle _ _ e1, g2, hle _ _ e2, g3, hle _ _ e3⟩
  · rcases key a m ha with ⟨rfl, rfl⟩ | ⟨ne, ha1⟩
    · rcases key b m1 hb with ⟨rfl, -⟩ | ⟨ne1, hb2⟩
      · rfl
      · rw [jUf_s, jUf_n _ _ ne1] at e
        obtain ⟨g0, e0, g1, e1, g2, e2, g3, e3⟩ := h1 b m1 hb2
        exact absurd e.symm (hd0 b m1 hb2 _ g0)
    · rcases key b m1 hb with ⟨rfl, -⟩ | ⟨ne1, hb2⟩
      · rw [jUf_s, jUf_n _ _ ne] at e
        obtain ⟨g0, e0, g1, e1, g2, e2, g3, e3⟩ := h1 a m ha1
        exact absurd e (hd0 a m ha1 _ g0)
      · rw [jUf_n _ _ ne, jUf_n _ _ ne1] at e
        exact i0 a b m m1 ha1 hb2 e
  · rcases key a m ha with ⟨rfl, rfl⟩ | ⟨ne, ha1⟩
    · rcases key b m1 hb with ⟨rfl, -⟩ | ⟨ne1, hb2⟩
      · rfl
      · rw [jUf_s, jUf_n _ _ ne1] at e
        obtain ⟨g0, e0, g1, e1, g2, e2, g3, e3⟩ := h1 b m1 hb2
        exact absurd e.symm (hd1 b m1 hb2 _ g1)
    · rcases key b m1 hb with ⟨rfl, -⟩ | ⟨ne1, hb2⟩
      · rw [jUf_s, jUf_n _ _ ne] at e
        obtain ⟨g0, e0, g1, e1, g2, e2, g3, e3⟩ := h1 a m ha1
        exact absurd e (hd1 a m ha1 _ g1)
      · rw [jUf_n _ _ ne, jUf_n _ _ ne1] at e
        exact i1 a b m m1 ha1 hb2 e
  · rcases key a m ha with ⟨rfl, rfl⟩ | ⟨ne, ha1⟩
    · rcases key b m1 hb with ⟨rfl, -⟩ | ⟨ne1, hb2⟩
      · rfl
      · rw [jUf_s, jUf_n _ _ ne1] at e
        obtain ⟨g0, e0, g1, e1, g2, e2, g3, e3⟩ := h1 b m1 hb2
        exact absurd e.symm (hd2 b m1 hb2 _ g2)
    · rcases key b m1 hb with ⟨rfl, -⟩ | ⟨ne1, hb2⟩
      · rw [jUf_s, jUf_n _ _ ne] at e
        obtain ⟨g0, e0, g1, e1, g2, e2, g3, e3⟩ := h1 a m ha1
        exact absurd e (hd2 a m ha1 _ g2)
      · rw [jUf_n _ _ ne, jUf_n _ _ ne1] at e
        exact i2 a b m m1 ha1 hb2 e
  · rcases key a m ha with ⟨rfl, rfl⟩ | ⟨ne, ha1⟩
    · rcases key b m1 hb with ⟨rfl, -⟩ | ⟨ne1, hb2⟩
      · rfl
      · rw [jUf_s, jUf_n _ _ ne1] at e
        obtain ⟨g0, e0, g1, e1, g2, e2, g3, e3⟩ := h1 b m1 hb2
        exact absurd e.symm (hd3 b m1 hb2 _ g3)
    · rcases key b m1 hb with ⟨rfl, -⟩ | ⟨ne1, hb2⟩
      · rw [jUf_s, jUf_n _ _ ne] at e
        obtain ⟨g0, e0, g1, e1, g2, e2, g3, e3⟩ := h1 a m ha1
        exact absurd e (hd3 a m ha1 _ g3)
      · rw [jUf_n _ _ ne, jUf_n _ _ ne1] at e
        exact i3 a b m m1 ha1 hb2 e
  · rcases key a m ha with ⟨rfl, rfl⟩ | ⟨ne, ha1⟩
    · show jK1 dC dI ca _ a (jUf Ysb a ysb a) (jUf Yse a yse a) (jUf Ysc a ysc a) (jUf Ybh a ybh a) (jUf q.sn a sn a) (jUf q.ck a ck a) (jUf q.lf a lf a) (jUf q.cv a cv a) (jUf q.fv a fv a) (jUf q.sb a sb a) (jUf q.se a se a) (jUf q.sc a sc a) (jUf q.bh a bh a) H
      rw [jUf_s, jUf_s, jUf_s, jUf_s, jUf_s, jUf_s, jUf_s, jUf_s, jUf_s, jUf_s, jUf_s, jUf_s, jUf_s]
      refine ⟨fun z hz => ?_, fun z hz => ⟨hle _ _ (hM z hz).1, (hM z hz).2⟩, ⟨hle _ _ hg3, hQ0⟩⟩
      simp only [List.mem_cons, List.not_mem_nil, or_false] at hz
      rcases hz with rfl | rfl | rfl | rfl | rfl
      · exact ⟨⟨_, ha⟩, p4⟩
      · exact ⟨⟨_, ha⟩, p10⟩
      · exact ⟨⟨_, ha⟩, p13⟩
      · exact ⟨⟨_, ha⟩, p11⟩
      · exact ⟨⟨_, ha⟩, p12⟩
    · show jK1 dC dI ca _ a (jUf Ysb r ysb a) (jUf Yse r yse a) (jUf Ysc r ysc a) (jUf Ybh r ybh a) (jUf q.sn r sn a) (jUf q.ck r ck a) (jUf q.lf r lf a) (jUf q.cv r cv a) (jUf q.fv r fv a) (jUf q.sb r sb a) (jUf q.se r se a) (jUf q.sc r sc a) (jUf q.bh r bh a) H
      rw [jUf_n _ _ ne, jUf_n _ _ ne, jUf_n _ _ ne, jUf_n _ _ ne, jUf_n _ _ ne, jUf_n _ _ ne, jUf_n _ _ ne, jUf_n _ _ ne, jUf_n _ _ ne, jUf_n _ _ ne, jUf_n _ _ ne, jUf_n _ _ ne, jUf_n _ _ ne]
      exact (h3 a m ha1 (fun z => by cases z)).up hle
end J81
end
section
-- p8: what is told of all documents of the reference: sentences, what is checked, the check that goes on (written by mkent.py)
section J82
variable {dC : Nat → ClassId} {dI : Nat → Nat → Nat} {ca : Nat → ClassId} {G G1 : jT} {H H1 : Heap} {x : Option Nat} {q : jXg}
variable {a ysb yse ysf : Nat} {sn : Int32} {ck : Int32} {sb : Nat → Int32} {se : Nat → Int32} {sf : Nat → Int32}
theorem jXD.typ {r : Nat} (h : jXD dC dI ca G none q H) (hn : ∀ t, G r ≠ some t) (p6 : jf (dC, dI) 14 r 6 (.ref ysb) H) (p7 : jf (dC, dI) 14 r 7 (.ref yse) H) (p8 : jf (dC, dI) 14 r 8 (.ref ysf) H) (p5 : jf (dC, dI) 14 r 5 (.int sn) H) (p9 : jf (dC, dI) 14 r 9 (.int ck) H)  (hM : jMc (dC, dI) G H [(ysb, 190, 40, ca 1, sb), (yse, 191, 40, ca 1, se), (ysf, 192, 40, ca 1, sf)])  (hg0 : G ysb = some (190, 40)) (hg1 : G yse = some (191, 40)) (hg2 : G ysf = some (192, 40)) (hd0 : ∀ (a _m : Nat), G a = some (14, 0) → ∀ w, jf (dC, dI) 14 a 6 (.ref w) H → w ≠ ysb) (hd1 : ∀ (a _m : Nat), G a = some (14, 0) → ∀ w, jf (dC, dI) 14 a 7 (.ref w) H → w ≠ yse) (hd2 : ∀ (a _m : Nat), G a = some (14, 0) → ∀ w, jf (dC, dI) 14 a 8 (.ref w) H → w ≠ ysf) : jXD dC dI ca (va_up G r (some (14, 0))) none (q.put r sn ck sb se sf) H := by
  have hle : jLe G (va_up G r (some (14, 0))) := jLe.typ hn
  obtain ⟨Ysb, Yse, Ysf, h1, i0, i1, i2, h3⟩ := h
  have key : ∀ (a _m : Nat), va_up G r (some (14, 0)) a = some (14, 0) → (a = r ∧ True) ∨ (a ≠ r ∧ G a = some (14, 0)) := fun a _ ha => by
    by_cases e : a = r
    · subst e
      have e1 : some (14, 0) = some (14, 0) := jUp_self.symm.trans ha
      exact Or.inl ⟨rfl, trivial⟩
    · rw [va_up_ne _ _ e] at ha
      exact Or.inr ⟨e, ha⟩
  refine ⟨jUf Ysb r ysb, jUf Yse r yse, jUf Ysf r ysf, fun a _ ha => ?_, fun a b _ _ ha hb e => ?_, fun a b _ _ ha hb e => ?_, fun a b _ _ ha hb e => ?_, fun a _ ha _ => ?_⟩
  · rcases key a 0 ha with ⟨rfl, -⟩ | ⟨ne, ha1⟩
    · rw [jUf_s, jUf_s, jUf_s]
      exact ⟨p6, hle _ _ hg0, p7, hle _ _ hg1, p8, hle _ _ hg2⟩
    · obtain ⟨g0, e0, g1, e1, g2, e2⟩ := h1 a 0 ha1
      rw [jUf_n _ _ ne, jUf_n _ _ ne, jUf_n _ _ ne]
      exact ⟨g0, hle _ _ e0, g1, hle _ _ e1, g2, hle _ _ e2⟩
  · rcases key a 0 ha with ⟨rfl, -⟩ | ⟨ne, ha1⟩
    · rcases key b 0 hb with ⟨rfl, -⟩ | ⟨ne1, hb2⟩
      · rfl
      · rw [jUf_s, jUf_n _ _ ne1] at e
        obtain ⟨g0, e0, g1, e1, g2, e2⟩ := h1 b 0 hb2
        exact absurd e.symm (hd0 b 0 hb2 _ g0)
    · rcases key b 0 hb with ⟨rfl, -⟩ | ⟨ne1, hb2⟩
      · rw [jUf_s, jUf_n _ _ ne] at e
        obtain ⟨g0, e0, g1, e1, g2, e2⟩ := h1 a 0 ha1
        exact absurd e (hd0 a 0 ha1 _ g0)
      · rw [jUf_n _ _ ne, jUf_n _ _ ne1] at e
        exact i0 a b 0 0 ha1 hb2 e
  · rcases key a 0 ha with ⟨rfl, -⟩ | ⟨ne, ha1⟩
    · rcases key b 0 hb with ⟨rfl, -⟩ | ⟨ne1, hb2⟩
      · rfl
      · rw [jUf_s, jUf_n _ _ ne1] at e
        obtain ⟨g0, e0, g1, e1, g2, e2⟩ := h1 b 0 hb2
        exact absurd e.symm (hd1 b 0 hb2 _ g1)
    · rcases key b 0 hb with ⟨rfl, -⟩ | ⟨ne1, hb2⟩
      · rw [jUf_s, jUf_n _ _ ne] at e
        obtain ⟨g0, e0, g1, e1, g2, e2⟩ := h1 a 0 ha1
        exact absurd e (hd1 a 0 ha1 _ g1)
      · rw [jUf_n _ _ ne, jUf_n _ _ ne1] at e
        exact i1 a b 0 0 ha1 hb2 e
  · rcases key a 0 ha with ⟨rfl, -⟩ | ⟨ne, ha1⟩
    · rcases key b 0 hb with ⟨rfl, -⟩ | ⟨ne1, hb2⟩
      · rfl
      · rw [jUf_s, jUf_n _ _ ne1] at e
        obtain ⟨g0, e0, g1, e1, g2, e2⟩ := h1 b 0 hb2
        exact absurd e.symm (hd2 b 0 hb2 _ g2)
    · rcases key b 0 hb with ⟨rfl, -⟩ | ⟨ne1, hb2⟩
      · rw [jUf_s, jUf_n _ _ ne] at e
        obtain ⟨g0, e0, g1, e1, g2, e2⟩ := h1 a 0 ha1
        exact absurd e (hd2 a 0 ha1 _ g2)
      · rw [jUf_n _ _ ne, jUf_n _ _ ne1] at e
        exact i2 a b 0 0 ha1 hb2 e
  · rcases key a 0 ha with ⟨rfl, -⟩ | ⟨ne, ha1⟩
    · show jX1d dC dI ca _ a (jUf Ysb a ysb a) (jUf Yse a yse a) (jUf Ysf a ysf a) (jUf q.sn a sn a) (jUf q.ck a ck a) (jUf q.sb a sb a) (jUf q.se a se a) (jUf q.sf a sf a) H
      rw [jUf_s, jUf_s, jUf_s, jUf_s, jUf_s, jUf_s, jUf_s, jUf_s]
      refine ⟨fun z hz => ?_, fun z hz => ⟨hle _ _ (hM z hz).1, (hM z hz).2⟩, trivial⟩
      simp only [List.mem_cons, List.not_mem_nil, or_false] at hz
      rcases hz with rfl | rfl
      · exact ⟨⟨_, ha⟩, p5⟩
      · exact ⟨⟨_, ha⟩, p9⟩
    · show jX1d dC dI ca _ a (jUf Ysb r ysb a) (jUf Yse r yse a) (jUf Ysf r ysf a) (jUf q.sn r sn a) (jUf q.ck r ck a) (jUf q.sb r sb a) (jUf q.se r se a) (jUf q.sf r sf a) H
      rw [jUf_n _ _ ne, jUf_n _ _ ne, jUf_n _ _ ne, jUf_n _ _ ne, jUf_n _ _ ne, jUf_n _ _ ne, jUf_n _ _ ne, jUf_n _ _ ne]
      exact (h3 a 0 ha1 (fun z => by cases z)).up hle
end J82
end
section
-- p8: the class: units of sentences that are kept (kind 175), and the States: the row of sentences that each one stands behind
section J95
variable {dC : Nat → ClassId} {dI : Nat → Nat → Nat} {ca : Nat → ClassId} {G G1 : jT} {H : Heap} {us rw : Nat → List Int} {a : Nat}
theorem jUS.grow {ks : List Nat} (h : jUS dC dI ca G us H) (hN : jNk ks G G1) (hk : ks.contains 175 = true) : jUS dC dI ca G1 us H := fun y k g => h y k (hN y 175 k g hk)
theorem jUS.typ {r k : Nat} {f : Nat → Int32} (h : jUS dC dI ca G us H) (hv : va_at (dC, dI) vwCl (r, .inl (ca 1, k, .inl f)) H) : jUS dC dI ca (va_up G r (some (175, k))) (jUf us r (jcL f k 0)) H := fun y k1 g => by
  by_cases e : y = r
  · subst e
    have e1 : some (175, k) = some (175, k1) := jUp_self.symm.trans g
    have e2 : k = k1 := congrArg Prod.snd (Option.some.inj e1)
    subst e2
    exact ⟨f, hv, jUf_s _ _ _⟩
  · rw [va_up_ne _ _ e] at g
    obtain ⟨f1, v1, e1⟩ := h y k1 g
    exact ⟨f1, v1, by rw [jUf_n _ _ e]; exact e1⟩
theorem jNS.grow {ks : List Nat} (h : jNS dC dI G us rw H) (hle : jLe G G1) (hN : jNk ks G G1) (hk : ks.contains 11 = true) : jNS dC dI G1 us rw H := fun a ha => by
  obtain ⟨y, k, av, p0, p1, g, hr⟩ := h a (hN a 11 0 ha hk)
  exact ⟨y, k, av, p0, p1, hle _ _ g, hr.up hle⟩
/-- a new State -/
theorem jNS.typ {r y k : Nat} {av : Value} {l : List Int} (h : jNS dC dI G us rw H) (hn : ∀ t, G r ≠ some t) (p0 : jf (dC, dI) 11 r 0 av H) (p1 : jf (dC, dI) 11 r 1 (.ref y) H) (g : G y = some (175, k)) (hq : jnE l → (∀ c ∈ us y, c ≠ (-1 : Int)) ∧ l.count (-1) ≤ 40 ∧ ((av = .null ∧ us y = [] ∧ l = []) ∨ ∃ b : Nat, av = .ref b ∧ G b = some (11, 0) ∧ us y ≠ [] ∧ l = rw b ++ (us y ++ [-1]) ∧ jnE (rw b))) : jNS dC dI (va_up G r (some (11, 0))) us (jUf rw r l) H := fun a ha => by
  have hle : jLe G (va_up G r (some (11, 0))) := jLe.typ hn
  have key : ∀ b : Nat, G b = some (11, 0) → jUf rw r l b = rw b := fun b hb => jUf_n _ _ (fun e => hn _ (by rw [← e]; exact hb))
  by_cases e : a = r
  · subst e
    refine ⟨y, k, av, p0, p1, hle _ _ g, fun he => ?_⟩
    rw [jUf_s] at he
    obtain ⟨h1, h2, h3⟩ := hq he
    refine ⟨h1, by rw [jUf_s]; exact h2, ?_⟩
    rw [jUf_s]
    rcases h3 with h | ⟨b, e1, e2, e3, e4, e5⟩
    · exact Or.inl h
    · exact Or.inr ⟨b, e1, hle _ _ e2, e3, by rw [key b e2]; exact e4, by rw [key b e2]; exact e5⟩
  · rw [va_up_ne _ _ e] at ha
    obtain ⟨y1, k1, av1, q0, q1, g1, hr⟩ := h a ha
    refine ⟨y1, k1, av1, q0, q1, hle _ _ g1, fun he => ?_⟩
    rw [jUf_n _ _ e] at he
    obtain ⟨r1, r2, r3⟩ := hr he
    refine ⟨r1, by rw [jUf_n _ _ e]; exact r2, ?_⟩
    rw [jUf_n _ _ e]
    rcases r3 with h | ⟨b, e1, e2, e3, e4, e5⟩
    · exact Or.inl h
    · exact Or.inr ⟨b, e1, hle _ _ e2, e3, by rw [key b e2]; exact e4, by rw [key b e2]; exact e5⟩
end J95
section J96
variable {G : jT} {rw : Nat → List Int} {a b : Nat} {av bv : Value} {l m : List Int}
end J96
end
section
-- p8: the class: States and kept units as one entry; requests; ids
section J97
variable {dC : Nat → ClassId} {dI : Nat → Nat → Nat} {ca : Nat → ClassId} {G G1 : jT} {H : Heap} {r : Nat} {us rw : Nat → List Int}
theorem jUN.grow {ks : List Nat} (h : jUN dC dI ca G r us rw H) (hle : jLe G G1) (hN : jNk ks G G1) (h1 : ks.contains 11 = true) (h2 : ks.contains 175 = true) : jUN dC dI ca G1 r us rw H := ⟨h.1.grow hN h2, h.2.grow hle hN h1⟩
/-- a new State -/
theorem jUN.typ {a y k : Nat} {av : Value} {l : List Int} (h : jUN dC dI ca G r us rw H) (hn : ∀ t, G a ≠ some t) (p0 : jf (dC, dI) 11 a 0 av H) (p1 : jf (dC, dI) 11 a 1 (.ref y) H) (g : G y = some (175, k)) (hq : jnE l → (∀ c ∈ us y, c ≠ (-1 : Int)) ∧ l.count (-1) ≤ 40 ∧ ((av = .null ∧ us y = [] ∧ l = []) ∨ ∃ b : Nat, av = .ref b ∧ G b = some (11, 0) ∧ us y ≠ [] ∧ l = rw b ++ (us y ++ [-1]) ∧ jnE (rw b))) : jUN dC dI ca (va_up G a (some (11, 0))) r us (jUf rw a l) H := by
  refine ⟨fun z k1 g1 => ?_, h.2.typ hn p0 p1 g hq⟩
  have e : z ≠ a := fun e => by
    subst e
    have e1 := Option.some.inj (g1.symm.trans jUp_self)
    have e2 := congrArg Prod.fst e1
    simp at e2
  rw [va_up_ne _ _ e] at g1
  exact h.1 z k1 g1
end J97
-- requests: how many sentences are needed, the id, the document
section J98
variable {dC : Nat → ClassId} {dI : Nat → Nat → Nat} {ca : Nat → ClassId} {G G1 : jT} {H H1 : Heap} {x : Option Nat} {q : jRqG} {a : Nat} {nd : Int32} {iv ab : Value}
theorem jQD.grow {ks : List Nat} (h : jQD dC dI ca G x q H) (_hle : jLe G G1) (hN : jNk ks G G1) (hk : ks.contains 10 = true) : jQD dC dI ca G1 x q H := fun a n ha hx => h a n (hN a 10 n ha hk) hx
/-- a new request -/
theorem jQD.typ {n : Nat} (h : jQD dC dI ca G none q H) (hn : ∀ t, G a ≠ some t) (p2 : jf (dC, dI) 10 a 2 (.int nd) H) (p0 : jf (dC, dI) 10 a 0 iv H) (p1 : jf (dC, dI) 10 a 1 ab H) : jQD dC dI ca (va_up G a (some (10, n))) none (q.put a nd iv ab) H := fun b m hb _ => by
  by_cases e : b = a
  · subst e
    show jf (dC, dI) 10 b 2 (.int (jUf q.nd b nd b)) H ∧ jf (dC, dI) 10 b 0 (jUf q.iv b iv b) H ∧ jf (dC, dI) 10 b 1 (jUf q.ab b ab b) H
    rw [jUf_s, jUf_s, jUf_s]
    exact ⟨p2, p0, p1⟩
  · rw [va_up_ne _ _ e] at hb
    show jf (dC, dI) 10 b 2 (.int (jUf q.nd a nd b)) H ∧ jf (dC, dI) 10 b 0 (jUf q.iv a iv b) H ∧ jf (dC, dI) 10 b 1 (jUf q.ab a ab b) H
    rw [jUf_n _ _ e, jUf_n _ _ e, jUf_n _ _ e]
    exact h b m hb (fun z => by cases z)
end J98
-- ids: Bytes of kind 17, their rows of kind 199
section J99
variable {dC : Nat → ClassId} {dI : Nat → Nat → Nat} {ca : Nat → ClassId} {G G1 : jT} {H H1 : Heap} {r xa xy xn : Nat} {ib : Nat → List Int}
theorem jIB.grow {ks : List Nat} (h : jIB dC dI ca G r ib H) (hle : jLe G G1) (hN : jNk ks G G1) (hk : ks.contains 17 = true) : jIB dC dI ca G1 r ib H := by
  obtain ⟨Y, h1, h2⟩ := h
  exact ⟨Y, fun a ha => (h1 a (hN a 17 0 ha hk)).up hle, fun a b ha hb => h2 a b (hN a 17 0 ha hk) (hN b 17 0 hb hk)⟩
theorem jIX2.grow {ks : List Nat} (h : jIX2 dC dI ca G r xa xy xn ib H) (hle : jLe G G1) (hN : jNk ks G G1) (hk : ks.contains 17 = true) : jIX2 dC dI ca G1 r xa xy xn ib H := by
  obtain ⟨Y, h1, h2⟩ := h
  exact ⟨Y, fun a ha hx => ⟨(h1 a (hN a 17 0 ha hk) hx).1.up hle, (h1 a (hN a 17 0 ha hk) hx).2⟩, fun a b ha hb => h2 a b (hN a 17 0 ha hk) (hN b 17 0 hb hk)⟩
/-- a new one -/
theorem jIB.typ {a y m : Nat} {c : Int32} {f : Nat → Int32} (h : jIB dC dI ca G r ib H) (hn : ∀ t, G a ≠ some t) (p0 : jf (dC, dI) 17 a 0 (.ref y) H) (p1 : jf (dC, dI) 17 a 1 (.int c) H) (g : G y = some (199, m)) (c0 : 0 ≤ c.toInt) (c1 : c.toInt ≤ m) (v : va_at (dC, dI) vwCl (y, .inl (ca 0, m, .inl f)) H) {l : List Int} (e : l = jbL f c.toInt.toNat 0) (hy : ∀ b, G b = some (17, 0) → ∀ w, jf (dC, dI) 17 b 0 (.ref w) H → w ≠ y) : jIB dC dI ca (va_up G a (some (17, 0))) r (jUf ib a l) H := by
  have hle : jLe G (va_up G a (some (17, 0))) := jLe.typ hn
  obtain ⟨Y, h1, h2⟩ := h
  have key : ∀ b, va_up G a (some (17, 0)) b = some (17, 0) → b ≠ a → G b = some (17, 0) := fun b hb hne => by rw [va_up_ne _ _ hne] at hb; exact hb
  have hY : ∀ b, G b = some (17, 0) → Y b ≠ y := fun b hb => by
    obtain ⟨m1, c1, f1, q0, -⟩ := h1 b hb
    exact hy b hb _ q0
  refine ⟨jUf Y a y, fun b hb => ?_, fun b d hb hd q => ?_⟩
  · by_cases x : b = a
    · subst x
      rw [jUf_s, jUf_s]
      exact ⟨m, c, f, p0, p1, hle _ _ g, c0, c1, v, e⟩
    · rw [jUf_n _ _ x, jUf_n _ _ x]
      exact (h1 b (key b hb x)).up hle
  · by_cases x : b = a
    · by_cases z : d = a
      · rw [x, z]
      · rw [x, jUf_s, jUf_n _ _ z] at q
        exact absurd q.symm (hY d (key d hd z))
    · by_cases z : d = a
      · rw [z, jUf_s, jUf_n _ _ x] at q
        exact absurd q (hY b (key b hb x))
      · rw [jUf_n _ _ x, jUf_n _ _ z] at q
        exact h2 b d (key b hb x) (key d hd z) q
/-- the rows of the older ones are older -/
theorem jIB.fresh {G0 : jT} {H0 : Heap} {b0 y : Nat} (h : jIB dC dI ca G0 r ib H0) (hab : ∀ a t, G0 a = some t → a < H0.size) (hr : ∀ t, G0 b0 ≠ some t) (hn : jNk [17] G0 G) (hk : jKx b0 G0 G H0 H) (hb : H0.size ≤ y) : ∀ b, G b = some (17, 0) → ∀ w, jf (dC, dI) 17 b 0 (.ref w) H → w ≠ y := fun b ha w g => by
  have h0 := hn b 17 0 ha rfl
  obtain ⟨Y, h1, -⟩ := h
  obtain ⟨m, c, f, q1, q2, q3, -⟩ := h1 b h0
  have c : H[b]? = H0[b]? := hk.1 b (hab _ _ h0) (fun e => hr _ (by rw [← e]; exact h0))
  have e := jf.uniq g (q1.kept c)
  cases e
  exact Nat.ne_of_lt (Nat.lt_of_lt_of_le (hab _ _ q3) hb)
end J99
-- the State that stands ahead of all
theorem jHst.grow {dC : Nat → ClassId} {dI : Nat → Nat → Nat} {ca : Nat → ClassId} {G G1 : jT} {H : Heap} {r s0 : Nat} (h : jHst dC dI ca G r s0 H) (hle : jLe G G1) : jHst dC dI ca G1 r s0 H := by
  obtain ⟨kr, n, g1, g2, p1, p2⟩ := h
  exact ⟨kr, n, hle _ _ g1, hle _ _ g2, p1, p2⟩
theorem jMc.con {D : va_G} {G : jT} {H : Heap} {L : List jCt} {y k n : Nat} {c : ClassId} {f : Nat → Int32} (h1 : G y = some (k, n)) (h2 : 18 ≤ k) (h3 : k < 1000) (h4 : va_at D vwCl (y, .inl (c, n, .inl f)) H) (h : jMc D G H L) : jMc D G H ((y, k, n, c, f) :: L) := fun q hq => by
  rcases List.mem_cons.mp hq with e | e
  · rw [e]; exact ⟨h1, h2, h3, h4⟩
  · exact h q e
end
section
-- p8: two States are compared: unit by unit, State by State
theorem jnU.st {f g : Nat → Int32} {v v1 x y : Int} (h : ∀ i : Nat, (i : Int) < v → (f i).toInt = (g i).toInt) (h0 : 0 ≤ v) (hx : x = jSo f v) (hy : y = jSo g v) (e : x = y) (e1 : v1 = v + 1) : ∀ i : Nat, (i : Int) < v1 → (f i).toInt = (g i).toInt := fun i hi => by
  by_cases w : (i : Int) < v
  · exact h i w
  · have e2 : i = v.toNat := by omega
    subst e2
    exact hx.symm.trans (e.trans hy)
section J9A
variable {G : jT} {rw : Nat → List Int} {a b x y x1 y1 : Nat} {o p : Option Nat} {i i1 : Int} {av bv : Value} {l m : List Int}
theorem jnI.nr (h1 : jnQ G rw x av l) (h2 : jnQ G rw y bv m) (e : l = m) (ha : av = .null) (hb : bv = .ref y1) : False := by
  rcases jnQ.eq h1 h2 e with ⟨-, q, -⟩ | ⟨z, z1, q1, -⟩
  · rw [hb] at q; cases q
  · rw [ha] at q1; cases q1
end J9A
end
section
-- p8: the class: units of a sentence, compared; States behind sentences
theorem jnS.st {f g : Nat → Int32} {b v v1 x y : Int} (h : ∀ i : Nat, (i : Int) < v → (f i).toInt = jSo g (b + i)) (h0 : 0 ≤ v) (hx : x = jSo g (b + v)) (hy : y = jSo f v) (e : x = y) (e1 : v1 = v + 1) : ∀ i : Nat, (i : Int) < v1 → (f i).toInt = jSo g (b + i) := fun i hi => by
  by_cases w : (i : Int) < v
  · exact h i w
  · have e2 : i = v.toNat := by omega
    subst e2
    rw [show ((v.toNat : Nat) : Int) = v by omega, ← hx, e, hy]
    rfl
end
section
-- p8: the class's scheduler as one entry: S, Z
section J9I
variable {dC : Nat → ClassId} {dI : Nat → Nat → Nat} {ca : Nat → ClassId} {G G1 : jT} {H : Heap} {r : Nat} {S : Int × (Int → jdD)} {Z : jwSt}
theorem jCZ.grow {ks : List Nat} (h : jCZ dC dI ca G r S Z H) (hle : jLe G G1) (hN : jNk ks G G1) (k1 : ks.contains 1 = true) (k3 : ks.contains 3 = true) (k10 : ks.contains 10 = true) (k11 : ks.contains 11 = true) (k17 : ks.contains 17 = true) (k175 : ks.contains 175 = true) : jCZ dC dI ca G1 r S Z H := by
  obtain ⟨s0, t, q, w, ho, us, rw, qq, ib, h1, h2, h3, h4, h5, h6, h7, h8, h9⟩ := h
  exact ⟨s0, t, q, w, ho, us, rw, qq, ib, h1.grow hle hN k3, h2.grow hle hN k3, h3.grow hle hN k1, h4.grow hle, jUN.grow (r := 0) h5 hle hN k11 k175, jQD.grow (ca := ca) h6 hle hN k10, jIB.grow (r := 0) h7 hle hN k17, jHst.grow (ca := ca) h8 hle, h9.up hle⟩
end J9I
end
section
-- p8: what document answers
section J9J
variable {G : jT} {s0 : Nat} {t : jDtl} {q : jKg} {w : jWl9} {ho : Nat → Option Nat} {us rw : Nat → List Int} {qq : jRqG} {ib : Nat → List Int} {S : Int × (Int → jdD)} {Z : jwSt} {d k : Int} {a : Nat}
theorem jcZ.dy (h : jcZ G s0 t q w ho us rw qq ib S Z) (h0 : 0 ≤ d) (hd : d < w.1) (ha : w.2.1 d.toNat = some a) : (k = 0 → jwDoc S Z d k = (t.ve a).toInt) ∧ (k = 1 → jwDoc S Z d k = (t.ln a).toInt) ∧ (k = 2 → jwDoc S Z d k = (q.sn a).toInt) ∧ (k = 3 → jwDoc S Z d k = (q.ck a).toInt) ∧ (k < 0 ∨ 3 < k → jwDoc S Z d k = -1) := by
  have e : ((d.toNat : Nat) : Int) = d := by omega
  have hD := h.doc (d := d.toNat) (by omega) ha
  obtain ⟨n1, n2, -⟩ := h.nx h0 hd ha
  rw [e] at hD
  unfold jwDoc
  rw [if_pos (by rw [h.n]; omega)]
  refine ⟨fun c => ?_, fun c => ?_, fun c => ?_, fun c => ?_, fun c => ?_⟩
  · rw [if_pos c, hD]; rfl
  · rw [if_neg (by omega), if_pos c, hD]; rfl
  · rw [if_neg (by omega), if_neg (by omega), if_pos c]; exact n1
  · rw [if_neg (by omega), if_neg (by omega), if_neg (by omega), if_pos c]; exact n2
  · rw [if_neg (by omega), if_neg (by omega), if_neg (by omega), if_neg (by omega)]
end J9J
end
section
-- p8: those that wait: who is ready, who asked about a document
theorem jzPs.st {p : Nat → Bool} {W : List Nat} {v : Int} (e : v = 0) : jzPs p W W v := by
  subst e
  exact ⟨by omega, by omega, rfl, fun a ha => by cases ha⟩
theorem jzDr {W : List Nat} {i : Nat} {a : Nat} (h : W[i]? = some a) : W.drop i = a :: W.drop (i + 1) := by
  obtain ⟨hl, e⟩ := List.getElem?_eq_some_iff.mp h
  rw [List.drop_eq_getElem_cons hl, e]
theorem jzTa {W : List Nat} {i : Nat} {a : Nat} (h : W[i]? = some a) : W.take (i + 1) = W.take i ++ [a] := by
  rw [List.take_add_one, h]; rfl
theorem jzPs.k {p : Nat → Bool} {W0 W : List Nat} {v v1 : Int} {a : Nat} (h : jzPs p W0 W v) (ha : W[v.toNat]? = some a) (hp : p a = true) (e : v1 = v + 1) : jzPs p W0 W v1 := by
  obtain ⟨h0, h1, h2, h3⟩ := h
  subst e
  have hl := (List.getElem?_eq_some_iff.mp ha).1
  have e1 : (v + 1).toNat = v.toNat + 1 := by omega
  refine ⟨by omega, by omega, ?_, fun b hb => ?_⟩
  · rw [h2, jzDr ha, e1, jzTa ha, List.filter_cons_of_pos hp, List.append_assoc]; rfl
  · rw [e1, jzTa ha, List.mem_append] at hb
    rcases hb with hb | hb
    · exact h3 b hb
    · rw [List.mem_singleton.mp hb]; exact hp
end
section
-- p8: work, told by the machine
section J9N
variable {S : Int × (Int → jdD)} {Z Y : jwSt} {k v v1 j j1 : Int}
theorem jwWo.st (h : jwOk S Z) (e : v = 0) : jwWo S Z k v Z := by
  subst e
  exact ⟨h, by rw [Int.sub_zero, Int.add_zero]⟩
end J9N
end
section
-- p8: what is kept of a text that has changed
section J9R
variable {G : jT} {rw us : Nat → List Int} {x : Nat} {f g : Nat → Int32} {n m k v v1 pk ps : Int} {av : Value} {u : List Int}
theorem jzSm.st (e : v = 0) : jzSm f n g m v := fun j h0 h1 => by omega
end J9R
end
section
-- p8: a change, or none: the class's side of the machine
section J9X
variable {G G1 : jT} {s0 a d sp : Nat} {t t1 t2 : jDtl} {q g1 g2 q1 : jKg} {w w1 : jWl9} {ho ho1 : Nat → Option Nat} {us rw : Nat → List Int} {qq : jRqG} {ib : Nat → List Int} {S S8 : Int × (Int → jdD)} {Z Z8 : jwSt} {T : Nat → Int → Int} {v k Y : Int} {sn : Int32} {sb se sc : Nat → Int32} {v0 l0 ve ln : Int32} {f0 g0 tx : Nat → Int32} {u0 : Nat}
theorem jwCg.z (h : S = jdChange T v S) : jwCg T v S Z = Z := by
  unfold jwCg
  rw [if_neg (fun c => ?_)]
  have hd : jdChange T v S = (S.1, jdUp S.2 (jdWh T v S.1 S.2) (jdCd T v (S.2 (jdWh T v S.1 S.2)))) := if_pos c
  have e := congrArg (fun x : Int × (Int → jdD) => (x.2 (jdWh T v S.1 S.2)).1) (h.trans hd)
  have e3 : (jdUp S.2 (jdWh T v S.1 S.2) (jdCd T v (S.2 (jdWh T v S.1 S.2))) (jdWh T v S.1 S.2)).1 = T 2 (jdVs T v) := by
    unfold jdUp
    rw [if_pos rfl]
    rfl
  have e : (S.2 (jdWh T v S.1 S.2)).1 = (jdUp S.2 (jdWh T v S.1 S.2) (jdCd T v (S.2 (jdWh T v S.1 S.2))) (jdWh T v S.1 S.2)).1 := e
  unfold jdCg at c
  split at c
  · rename_i g
    have := g.2.2.1
    omega
  · omega
theorem jzCk.cv (hC : jzCk g1 g2 a k) : g2.cv a = g1.cv a ∧ g2.lf a = g1.lf a := by
  obtain ⟨c, hC, hc⟩ := hC
  obtain ⟨v1, v2, v3, v4, -⟩ := (jKg.pt (q := g1) (a := a) (sn := g1.sn a) (ck := c) (lf := g1.lf a) (cv := g1.cv a) (fv := g1.fv a) (sb := g1.sb a) (se := g1.se a) (sc := g1.sc a) (bh := g1.bh a))
  rw [← hC] at v3 v4
  exact ⟨v4, v3⟩
end J9X
end
section
-- p8: a document is made, and opened: the class's side of the machine
section J9Y
variable {dC : Nat → ClassId} {dI : Nat → Nat → Nat} {ca : Nat → ClassId} {G : jT} {H : Heap} {q : jKg}
/-- the rows of the older documents are older -/
theorem jKD.fresh {G0 : jT} {H0 : Heap} {r y5 y6 y7 y9 : Nat} (h : jKD dC dI ca G0 none q H0) (hab : ∀ a t, G0 a = some t → a < H0.size) (hr : ∀ t, G0 r ≠ some t) (hn : jNk [3] G0 G) (hk : jKx r G0 G H0 H) (b5 : H0.size ≤ y5) (b6 : H0.size ≤ y6) (b7 : H0.size ≤ y7) (b9 : H0.size ≤ y9) : (∀ a m, G a = some (3, m) → ∀ w, jf (dC, dI) 3 a 5 (.ref w) H → w ≠ y5) ∧ (∀ a m, G a = some (3, m) → ∀ w, jf (dC, dI) 3 a 6 (.ref w) H → w ≠ y6) ∧ (∀ a m, G a = some (3, m) → ∀ w, jf (dC, dI) 3 a 7 (.ref w) H → w ≠ y7) ∧ (∀ a m, G a = some (3, m) → ∀ w, jf (dC, dI) 3 a 9 (.ref w) H → w ≠ y9) := by
  obtain ⟨Y5, Y6, Y7, Y9, h1, -⟩ := h
  have key : ∀ a m, G a = some (3, m) → G0 a = some (3, m) ∧ H[a]? = H0[a]? := fun a m ha => by
    have h0 := hn a 3 m ha rfl
    exact ⟨h0, hk.1 a (hab _ _ h0) (fun e => hr _ (by rw [← e]; exact h0))⟩
  refine ⟨fun a m ha w g => ?_, fun a m ha w g => ?_, fun a m ha w g => ?_, fun a m ha w g => ?_⟩
  · obtain ⟨h0, c⟩ := key a m ha
    obtain ⟨q1, e1, q2, e2, q3, e3, q4, e4⟩ := h1 a m h0
    have e := jf.uniq g (q1.kept c)
    cases e
    exact Nat.ne_of_lt (Nat.lt_of_lt_of_le (hab _ _ e1) b5)
  · obtain ⟨h0, c⟩ := key a m ha
    obtain ⟨q1, e1, q2, e2, q3, e3, q4, e4⟩ := h1 a m h0
    have e := jf.uniq g (q2.kept c)
    cases e
    exact Nat.ne_of_lt (Nat.lt_of_lt_of_le (hab _ _ e2) b6)
  · obtain ⟨h0, c⟩ := key a m ha
    obtain ⟨q1, e1, q2, e2, q3, e3, q4, e4⟩ := h1 a m h0
    have e := jf.uniq g (q3.kept c)
    cases e
    exact Nat.ne_of_lt (Nat.lt_of_lt_of_le (hab _ _ e3) b7)
  · obtain ⟨h0, c⟩ := key a m ha
    obtain ⟨q1, e1, q2, e2, q3, e3, q4, e4⟩ := h1 a m h0
    have e := jf.uniq g (q4.kept c)
    cases e
    exact Nat.ne_of_lt (Nat.lt_of_lt_of_le (hab _ _ e4) b9)
end J9Y
/-- a new document -/
def jKnw (q g : jKg) (a : Nat) : Prop := ∃ (sb se sc : Nat → Int32) (bh : Nat → Option Nat), g = q.put a 0 0 0 .null .null sb se sc bh
theorem jKnw.z {q g : jKg} {a : Nat} (h : jKnw q g a) : (g.sn a).toInt = 0 ∧ (g.ck a).toInt = 0 ∧ g.cv a = .null ∧ g.fv a = .null ∧ ∀ b, b ≠ a → jzAg q g b := by
  obtain ⟨sb, se, sc, bh, e⟩ := h
  obtain ⟨u1, u2, u3, u4, u5, -⟩ := (jKg.pt (q := q) (a := a) (sn := 0) (ck := 0) (lf := 0) (cv := .null) (fv := .null) (sb := sb) (se := se) (sc := sc) (bh := bh))
  rw [← e] at u1 u2 u4 u5
  exact ⟨by rw [u1]; rfl, by rw [u2]; rfl, u4, u5, fun b hb => by rw [e]; exact jzAg.put hb⟩
section J9Z
variable {G G1 : jT} {s0 a : Nat} {t t1 t2 : jDtl} {q g1 q1 : jKg} {w w1 : jWl9} {ho : Nat → Option Nat} {us rw : Nat → List Int} {qq : jRqG} {ib : Nat → List Int} {S S8 : Int × (Int → jdD)} {Z Z8 : jwSt} {T : Nat → Int → Int} {v : Int} {sn lf : Int32} {cv fv : Value} {sb se sc : Nat → Int32} {bh : Nat → Option Nat} {ve ln : Int32} {tx ux : Nat → Int32} {ul : Nat}
theorem jwOp.z (h : S = jdOpen T v S) : jwOp T v S Z = Z := by
  unfold jwOp
  rw [if_neg (fun c => ?_)]
  have hd : jdOpen T v S = (S.1 + 1, jdUp S.2 S.1 (jdNd T v)) := if_pos c
  have e : S.1 = S.1 + 1 := congrArg Prod.fst (h.trans hd)
  omega
end J9Z
end
section
-- p8: bytes of ids, put behind each other
theorem jiP.st {ib : Nat → List Int} {a : Nat} : jiP ib ib a [] := by
  unfold jiP
  rw [List.append_nil]
  exact (jUf_id _ _).symm
section J9BV
variable {p : Program} {l : Launch} {e : Env} {R : Room} {s : State} {m : MethodId} {args : Array Value} {below : List Frame} {meth : Method} {c : Code} {H : Heap} {locs : List Loc} {cells slots : Nat} {Q : State → Prop}
variable {cc : ByteArray} {pc : Nat} {ls : Array Slot} {rest : List Value} {dC : Nat → ClassId} {dI : Nat → Nat → Nat} {ca : Nat → ClassId} {B : jF} {base : Nat} {G0 G : jT} {E : List (Nat × Nat)} {H0 : Heap} {zc zs : Nat} {L : List jPin} {M : List jCt} {I : List jIv} {a k n : Nat} {cA : ClassId} {tys : List (ClassId × FieldType)}
end J9BV
end
section
-- p8: ids: numbers and strings as they are written, step by step
section J9ID
variable {ib i1 i2 : Nat → List Int} {a : Nat}
theorem jiM.z {k m b n : Int} (hk : k = 10) (hm : m = n) (hb : b = 0) (h0 : 0 ≤ n) : jiM ib ib a k m b n := by
  refine ⟨[], jiP.st, ?_⟩
  unfold jpN
  rw [if_neg (by omega), hk, hm, hb]
  rfl
end J9ID
section J9IQ
variable {ib i1 i2 : Nat → List Int} {a : Nat} {f : Nat → Int32} {n v v1 : Int}
theorem jiQ.z {c : Int} (hW : jpW (jcL f n.toNat 0)) (h1 : i1 = jUf ib a (ib a ++ [c % 256])) (hc : c = 34) (hv : v = 0) : jiQ ib i1 a f n v := by
  unfold jiQ
  rw [hv, Int.sub_zero]
  refine ⟨hW, [] ++ [c % 256], jiP.st.tr h1, ?_⟩
  rw [hc]
  rfl
end J9IQ
end
section
-- p8: a request is made: its id as it is written
section J9RI
variable {ib iB : Nat → List Int} {N i : Nat} {T : Nat → Int → Int} {v x : Int}
theorem jUf_uu {α : Type} (f : Nat → α) (a : Nat) (y z : α) : jUf (jUf f a y) a z = jUf f a z := by
  funext b
  by_cases c : b = a
  · rw [c, jUf_s, jUf_s]
  · rw [jUf_n _ _ c, jUf_n _ _ c, jUf_n _ _ c]
theorem jzRi.in {n : Int} (hk : jqK T v x = 4) (hx : N ≤ i) (e : iB = jUf (jUf ib i []) i ((jUf ib i []) i ++ jpN n)) (hn : n = jqV T v x) : jzRi ib iB N (.ref i) (jqK T v x = 4 ∨ (jqK T v x = 3 ∧ jqZ T v x ≤ 20)) (jpI (jwId T v x)) := by
  refine Or.inl ⟨Or.inl hk, i, rfl, hx, ?_⟩
  have e1 : jwId T v x = (0, T 2 x, []) := if_neg (by omega)
  have e2 : jpI ((0, T 2 x, []) : jwI) = jpN (T 2 x) := if_neg (by show ¬ (0 : Int) = 1; omega)
  rw [e, jUf_s, jUf_uu, hn, jqV.k hk (by decide), e1, e2]
  rfl
theorem jzRi.st {f : Nat → Int32} {z : Nat} (hk : jqK T v x = 3) (hz : jqZ T v x ≤ 20) (hx : N ≤ i) (e : iB = jUf (jUf ib i []) i ((jUf ib i []) i ++ (34 :: (jpQ (jcL f z 0) ++ [34])))) (hf : jcL f z 0 = jwUn T v x (T 3 x).toNat 0) : jzRi ib iB N (.ref i) (jqK T v x = 4 ∨ (jqK T v x = 3 ∧ jqZ T v x ≤ 20)) (jpI (jwId T v x)) := by
  refine Or.inl ⟨Or.inr ⟨hk, hz⟩, i, rfl, hx, ?_⟩
  have e1 : jwId T v x = (1, 0, jwUn T v x (T 3 x).toNat 0) := if_pos hk
  have e2 : jpI ((1, 0, jwUn T v x (T 3 x).toNat 0) : jwI) = 34 :: (jpQ (jwUn T v x (T 3 x).toNat 0) ++ [34]) := if_pos rfl
  rw [e, jUf_s, jUf_uu, hf, e1, e2]
  rfl
end J9RI
section J9HI
variable {q : jRqG} {ib : Nat → List Int} {a b i j : Nat} {f g : Nat → Int32} {n m v : Int}
end J9HI
end
section
-- how long a message is at least that opens or changes a document
theorem jEd.z {fe : Nat → Int32} {k : Int} (h : k ≤ 0) : jEd fe k = 0 := by
  unfold jEd
  rw [if_pos h]
end
section
-- the documents of the reference while it is made
section J45
variable {dC : Nat → ClassId} {dI : Nat → Nat → Nat} {ca : Nat → ClassId} {G G1 : jT} {H : Heap}
theorem jDZa.grow (h : jDZa dC dI G H) (hle : jLe G G1) (hn : jN14 G G1) : jDZa dC dI G1 H := by
  obtain ⟨Yb, Ye, h1, h2, h3, h4⟩ := h
  refine ⟨Yb, Ye, fun a ha => ?_, fun a b ha hb => h2 a b (hn a ha) (hn b hb), fun a b ha hb => h3 a b (hn a ha) (hn b hb), fun a ha => h4 a (hn a ha)⟩
  obtain ⟨g1, g2, g3, g4⟩ := h1 a (hn a ha)
  exact ⟨g1, g2, hle _ _ g3, hle _ _ g4⟩
theorem jDZa.typ {r yb ye : Nat} (h : jDZa dC dI G H) (hn : ∀ t, G r ≠ some t) (h5 : jf (dC, dI) 14 r 5 (.int 0) H) (h9 : jf (dC, dI) 14 r 9 (.int 0) H) (h6 : jf (dC, dI) 14 r 6 (.ref yb) H) (h7 : jf (dC, dI) 14 r 7 (.ref ye) H) (hb : G yb = some (190, 40)) (he : G ye = some (191, 40))
    (hd : ∀ a, G a = some (14, 0) → ∀ y, (jf (dC, dI) 14 a 6 (.ref y) H → y ≠ yb) ∧ (jf (dC, dI) 14 a 7 (.ref y) H → y ≠ ye)) : jDZa dC dI (va_up G r (some (14, 0))) H := by
  have hle : jLe G (va_up G r (some (14, 0))) := jLe.typ hn
  obtain ⟨Yb, Ye, g1, g2, g3, g4⟩ := h
  have key : ∀ a, va_up G r (some (14, 0)) a = some (14, 0) → a = r ∨ (a ≠ r ∧ G a = some (14, 0)) := fun a ha => by
    by_cases e : a = r
    · exact Or.inl e
    · rw [va_up_ne _ _ e] at ha
      exact Or.inr ⟨e, ha⟩
  refine ⟨fun b => if b = r then yb else Yb b, fun b => if b = r then ye else Ye b, fun a ha => ?_, fun a b ha hb1 e => ?_, fun a b ha hb1 e => ?_, fun a ha => ?_⟩
  · rcases key a ha with rfl | ⟨ne, ha1⟩
    · simp only [if_pos]
      exact ⟨h6, h7, hle _ _ hb, hle _ _ he⟩
    · obtain ⟨q1, q2, q3, q4⟩ := g1 a ha1
      simp only [if_neg ne]
      exact ⟨q1, q2, hle _ _ q3, hle _ _ q4⟩
  · rcases key a ha with rfl | ⟨ne, ha1⟩
    · rcases key b hb1 with rfl | ⟨ne', hb2⟩
      · rfl
      · simp only [if_pos, if_neg ne'] at e
        exact absurd e.symm (((hd b hb2 (Yb b)).1) (g1 b hb2).1)
    · rcases key b hb1 with rfl | ⟨ne', hb2⟩
      · simp only [if_pos, if_neg ne] at e
        exact absurd e (((hd a ha1 (Yb a)).1) (g1 a ha1).1)
      · simp only [if_neg ne, if_neg ne'] at e
        exact g2 a b ha1 hb2 e
  · rcases key a ha with rfl | ⟨ne, ha1⟩
    · rcases key b hb1 with rfl | ⟨ne', hb2⟩
      · rfl
      · simp only [if_pos, if_neg ne'] at e
        exact absurd e.symm (((hd b hb2 (Ye b)).2) (g1 b hb2).2.1)
    · rcases key b hb1 with rfl | ⟨ne', hb2⟩
      · simp only [if_pos, if_neg ne] at e
        exact absurd e (((hd a ha1 (Ye a)).2) (g1 a ha1).2.1)
      · simp only [if_neg ne, if_neg ne'] at e
        exact g3 a b ha1 hb2 e
  · rcases key a ha with rfl | ⟨ne, ha1⟩
    · exact ⟨h5, h9⟩
    · exact g4 a ha1
theorem jDZa.fresh {G0 : jT} {H0 : Heap} {r yb ye : Nat} (h : jDZa dC dI G0 H0) (hab : ∀ a t, G0 a = some t → a < H0.size) (hr : ∀ t, G0 r ≠ some t) (hn : jN14 G0 G) (hk : jKx r G0 G H0 H) (hb : H0.size ≤ yb) (he : H0.size ≤ ye) : ∀ a, G a = some (14, 0) → ∀ y, (jf (dC, dI) 14 a 6 (.ref y) H → y ≠ yb) ∧ (jf (dC, dI) 14 a 7 (.ref y) H → y ≠ ye) := fun a ha y => by
  have h0 := hn a ha
  obtain ⟨Yb, Ye, h1, -⟩ := h
  obtain ⟨q1, q2, q3, q4⟩ := h1 a h0
  have c : H[a]? = H0[a]? := hk.1 a (hab _ _ h0) (fun e => hr _ (by rw [← e]; exact h0))
  have l1 := hab _ _ q3
  have l2 := hab _ _ q4
  refine ⟨fun g => ?_, fun g => ?_⟩
  · have e := jf.uniq g (q1.kept c)
    cases e
    exact Nat.ne_of_lt (Nat.lt_of_lt_of_le l1 hb)
  · have e := jf.uniq g (q2.kept c)
    cases e
    exact Nat.ne_of_lt (Nat.lt_of_lt_of_le l2 he)
theorem jDZa.dy {B : jF} {base : Nat} {P Q : Nat → Int32 → Prop} (h : jDZa dC dI G H) (hX : jX B base G [] H) (hb : ∀ n G a H, B 190 n G a H ↔ jAr (dC, dI) (ca 1) P n a H) (he : ∀ n G a H, B 191 n G a H ↔ jAr (dC, dI) (ca 1) Q n a H) : jDY dC dI ca G none (fun _ => 0) H := by
  obtain ⟨Yb, Ye, h1, h2, h3, h4⟩ := h
  refine ⟨Yb, Ye, h1, h2, h3, fun a ha _ => ?_⟩
  obtain ⟨g1, g2, g3, g4⟩ := h1 a ha
  obtain ⟨fb, b1, -⟩ := (hb _ _ _ _).mp (hX.1 _ _ _ g3 (by decide) (fun q => by cases q))
  obtain ⟨fe, e1, -⟩ := (he _ _ _ _).mp (hX.1 _ _ _ g4 (by decide) (fun q => by cases q))
  have hsr : jSrt fb fe ((0 : Int32)).toInt 1500 := by
    rw [show (0 : Int32).toInt = 0 by decide]
    exact jSrt.nil _ _ _
  refine ⟨fb, fe, g3, g4, fun q hq => ?_, fun q hq => ?_, hsr, (by show (0 : Int) ≤ (0 : Int32).toInt; decide), (by show (0 : Int32).toInt ≤ 40; decide)⟩
  · simp only [List.mem_cons, List.not_mem_nil, or_false] at hq
    rcases hq with rfl | rfl | rfl
    · exact ⟨⟨_, ha⟩, g1⟩
    · exact ⟨⟨_, ha⟩, g2⟩
    · exact ⟨⟨_, ha⟩, (h4 a ha).1⟩
  · simp only [List.mem_cons, List.not_mem_nil, or_false] at hq
    rcases hq with rfl | rfl
    · exact ⟨g3, (by show (18 : Nat) ≤ 190; decide), (by show (190 : Nat) < 1000; decide), b1⟩
    · exact ⟨g4, (by show (18 : Nat) ≤ 191; decide), (by show (191 : Nat) < 1000; decide), e1⟩
theorem jDZa.vl (h : jDZa dC dI G H) : jVl dC dI G 9 (fun _ => 0) H := by
  obtain ⟨Yb, Ye, h1, h2, h3, h4⟩ := h
  exact fun a ha => (h4 a ha).2
theorem jRZ.grow (h : jRZ dC dI G H) (hle : jLe G G1) (hn : jN14 G G1) : jRZ dC dI G1 H := by
  obtain ⟨Yb, Ye, h1, h2, h3, h4⟩ := h
  refine ⟨Yb, Ye, fun a ha => ?_, fun a b ha hb => h2 a b (hn a ha) (hn b hb), fun a b ha hb => h3 a b (hn a ha) (hn b hb), fun a ha => h4 a (hn a ha)⟩
  obtain ⟨g1, g2, g3, g4⟩ := h1 a (hn a ha)
  exact ⟨g1, g2, hle _ _ g3, hle _ _ g4⟩
theorem jRZ.typ {r yb ye : Nat} (h : jRZ dC dI G H) (hn : ∀ t, G r ≠ some t) (h11 : jf (dC, dI) 14 r 1 (.int 0) H) (h12 : jf (dC, dI) 14 r 2 (.int 0) H) (h14 : jf (dC, dI) 14 r 4 (.int 0) H) (h6 : jf (dC, dI) 14 r 3 (.ref yb) H) (h7 : jf (dC, dI) 14 r 0 (.ref ye) H) (hb : G yb = some (194, 1500)) (he : G ye = some (195, 40))
    (hd : ∀ a, G a = some (14, 0) → ∀ y, (jf (dC, dI) 14 a 3 (.ref y) H → y ≠ yb) ∧ (jf (dC, dI) 14 a 0 (.ref y) H → y ≠ ye)) : jRZ dC dI (va_up G r (some (14, 0))) H := by
  have hle : jLe G (va_up G r (some (14, 0))) := jLe.typ hn
  obtain ⟨Yb, Ye, g1, g2, g3, g4⟩ := h
  have key : ∀ a, va_up G r (some (14, 0)) a = some (14, 0) → a = r ∨ (a ≠ r ∧ G a = some (14, 0)) := fun a ha => by
    by_cases e : a = r
    · exact Or.inl e
    · rw [va_up_ne _ _ e] at ha
      exact Or.inr ⟨e, ha⟩
  refine ⟨fun b => if b = r then yb else Yb b, fun b => if b = r then ye else Ye b, fun a ha => ?_, fun a b ha hb1 e => ?_, fun a b ha hb1 e => ?_, fun a ha => ?_⟩
  · rcases key a ha with rfl | ⟨ne, ha1⟩
    · simp only [if_pos]
      exact ⟨h6, h7, hle _ _ hb, hle _ _ he⟩
    · obtain ⟨q1, q2, q3, q4⟩ := g1 a ha1
      simp only [if_neg ne]
      exact ⟨q1, q2, hle _ _ q3, hle _ _ q4⟩
  · rcases key a ha with rfl | ⟨ne, ha1⟩
    · rcases key b hb1 with rfl | ⟨ne', hb2⟩
      · rfl
      · simp only [if_pos, if_neg ne'] at e
        exact absurd e.symm (((hd b hb2 (Yb b)).1) (g1 b hb2).1)
    · rcases key b hb1 with rfl | ⟨ne', hb2⟩
      · simp only [if_pos, if_neg ne] at e
        exact absurd e (((hd a ha1 (Yb a)).1) (g1 a ha1).1)
      · simp only [if_neg ne, if_neg ne'] at e
        exact g2 a b ha1 hb2 e
  · rcases key a ha with rfl | ⟨ne, ha1⟩
    · rcases key b hb1 with rfl | ⟨ne', hb2⟩
      · rfl
      · simp only [if_pos, if_neg ne'] at e
        exact absurd e.symm (((hd b hb2 (Ye b)).2) (g1 b hb2).2.1)
    · rcases key b hb1 with rfl | ⟨ne', hb2⟩
      · simp only [if_pos, if_neg ne] at e
        exact absurd e (((hd a ha1 (Ye a)).2) (g1 a ha1).2.1)
      · simp only [if_neg ne, if_neg ne'] at e
        exact g3 a b ha1 hb2 e
  · rcases key a ha with rfl | ⟨ne, ha1⟩
    · exact ⟨h11, h12, h14⟩
    · exact g4 a ha1
theorem jRZ.fresh {G0 : jT} {H0 : Heap} {r yb ye : Nat} (h : jRZ dC dI G0 H0) (hab : ∀ a t, G0 a = some t → a < H0.size) (hr : ∀ t, G0 r ≠ some t) (hn : jN14 G0 G) (hk : jKx r G0 G H0 H) (hb : H0.size ≤ yb) (he : H0.size ≤ ye) : ∀ a, G a = some (14, 0) → ∀ y, (jf (dC, dI) 14 a 3 (.ref y) H → y ≠ yb) ∧ (jf (dC, dI) 14 a 0 (.ref y) H → y ≠ ye) := fun a ha y => by
  have h0 := hn a ha
  obtain ⟨Yb, Ye, h1, -⟩ := h
  obtain ⟨q1, q2, q3, q4⟩ := h1 a h0
  have c : H[a]? = H0[a]? := hk.1 a (hab _ _ h0) (fun e => hr _ (by rw [← e]; exact h0))
  have l1 := hab _ _ q3
  have l2 := hab _ _ q4
  refine ⟨fun g => ?_, fun g => ?_⟩
  · have e := jf.uniq g (q1.kept c)
    cases e
    exact Nat.ne_of_lt (Nat.lt_of_lt_of_le l1 hb)
  · have e := jf.uniq g (q2.kept c)
    cases e
    exact Nat.ne_of_lt (Nat.lt_of_lt_of_le l2 he)
theorem jFZ.grow (h : jFZ dC dI G H) (hle : jLe G G1) (hn : jN14 G G1) : jFZ dC dI G1 H := by
  obtain ⟨Yf, h1, h2⟩ := h
  refine ⟨Yf, fun a ha => ?_, fun a b ha hb => h2 a b (hn a ha) (hn b hb)⟩
  obtain ⟨g1, g3⟩ := h1 a (hn a ha)
  exact ⟨g1, hle _ _ g3⟩
theorem jFZ.typ {r yf : Nat} (h : jFZ dC dI G H) (hn : ∀ t, G r ≠ some t) (h8 : jf (dC, dI) 14 r 8 (.ref yf) H) (hf : G yf = some (192, 40)) (hd : ∀ a, G a = some (14, 0) → ∀ y, jf (dC, dI) 14 a 8 (.ref y) H → y ≠ yf) : jFZ dC dI (va_up G r (some (14, 0))) H := by
  have hle : jLe G (va_up G r (some (14, 0))) := jLe.typ hn
  obtain ⟨Yf, g1, g2⟩ := h
  have key : ∀ a, va_up G r (some (14, 0)) a = some (14, 0) → a = r ∨ (a ≠ r ∧ G a = some (14, 0)) := fun a ha => by
    by_cases e : a = r
    · exact Or.inl e
    · rw [va_up_ne _ _ e] at ha
      exact Or.inr ⟨e, ha⟩
  refine ⟨fun b => if b = r then yf else Yf b, fun a ha => ?_, fun a b ha hb1 e => ?_⟩
  · rcases key a ha with rfl | ⟨ne, ha1⟩
    · simp only [if_pos]
      exact ⟨h8, hle _ _ hf⟩
    · obtain ⟨q1, q3⟩ := g1 a ha1
      simp only [if_neg ne]
      exact ⟨q1, hle _ _ q3⟩
  · rcases key a ha with rfl | ⟨ne, ha1⟩
    · rcases key b hb1 with rfl | ⟨ne', hb2⟩
      · rfl
      · simp only [if_pos, if_neg ne'] at e
        exact absurd e.symm (hd b hb2 (Yf b) (g1 b hb2).1)
    · rcases key b hb1 with rfl | ⟨ne', hb2⟩
      · simp only [if_pos, if_neg ne] at e
        exact absurd e (hd a ha1 (Yf a) (g1 a ha1).1)
      · simp only [if_neg ne, if_neg ne'] at e
        exact g2 a b ha1 hb2 e
theorem jFZ.fresh {G0 : jT} {H0 : Heap} {r yf : Nat} (h : jFZ dC dI G0 H0) (hab : ∀ a t, G0 a = some t → a < H0.size) (hr : ∀ t, G0 r ≠ some t) (hn : jN14 G0 G) (hk : jKx r G0 G H0 H) (hf : H0.size ≤ yf) : ∀ a, G a = some (14, 0) → ∀ y, jf (dC, dI) 14 a 8 (.ref y) H → y ≠ yf := fun a ha y g => by
  have h0 := hn a ha
  obtain ⟨Yf, h1, -⟩ := h
  obtain ⟨q1, q3⟩ := h1 a h0
  have c : H[a]? = H0[a]? := hk.1 a (hab _ _ h0) (fun e => hr _ (by rw [← e]; exact h0))
  have l1 := hab _ _ q3
  have e := jf.uniq g (q1.kept c)
  cases e
  exact Nat.ne_of_lt (Nat.lt_of_lt_of_le l1 hf)
theorem jDZ.grow (h : jDZ dC dI G H) (hle : jLe G G1) (hn : jN14 G G1) : jDZ dC dI G1 H := ⟨h.1.grow hle hn, h.2.1.grow hle hn, h.2.2.grow hle hn⟩
theorem jDZ.typ {r yb ye yt yu yf : Nat} (h : jDZ dC dI G H) (hn : ∀ t, G r ≠ some t) (h5 : jf (dC, dI) 14 r 5 (.int 0) H) (h9 : jf (dC, dI) 14 r 9 (.int 0) H) (h6 : jf (dC, dI) 14 r 6 (.ref yb) H) (h7 : jf (dC, dI) 14 r 7 (.ref ye) H) (hb : G yb = some (190, 40)) (he : G ye = some (191, 40))
    (hd : ∀ a, G a = some (14, 0) → ∀ y, (jf (dC, dI) 14 a 6 (.ref y) H → y ≠ yb) ∧ (jf (dC, dI) 14 a 7 (.ref y) H → y ≠ ye)) (h11 : jf (dC, dI) 14 r 1 (.int 0) H) (h12 : jf (dC, dI) 14 r 2 (.int 0) H) (h14 : jf (dC, dI) 14 r 4 (.int 0) H) (h3 : jf (dC, dI) 14 r 3 (.ref yt) H) (h0 : jf (dC, dI) 14 r 0 (.ref yu) H) (ht : G yt = some (194, 1500)) (hu : G yu = some (195, 40))
    (hd2 : ∀ a, G a = some (14, 0) → ∀ y, (jf (dC, dI) 14 a 3 (.ref y) H → y ≠ yt) ∧ (jf (dC, dI) 14 a 0 (.ref y) H → y ≠ yu)) (h8 : jf (dC, dI) 14 r 8 (.ref yf) H) (hf : G yf = some (192, 40)) (hd3 : ∀ a, G a = some (14, 0) → ∀ y, jf (dC, dI) 14 a 8 (.ref y) H → y ≠ yf) : jDZ dC dI (va_up G r (some (14, 0))) H := ⟨h.1.typ hn h5 h9 h6 h7 hb he hd, h.2.1.typ hn h11 h12 h14 h3 h0 ht hu hd2, h.2.2.typ hn h8 hf hd3⟩
theorem jDZ.fresh {G0 : jT} {H0 : Heap} {r yb ye : Nat} (h : jDZ dC dI G0 H0) (hab : ∀ a t, G0 a = some t → a < H0.size) (hr : ∀ t, G0 r ≠ some t) (hn : jN14 G0 G) (hk : jKx r G0 G H0 H) (hb : H0.size ≤ yb) (he : H0.size ≤ ye) : ∀ a, G a = some (14, 0) → ∀ y, (jf (dC, dI) 14 a 6 (.ref y) H → y ≠ yb) ∧ (jf (dC, dI) 14 a 7 (.ref y) H → y ≠ ye) := h.1.fresh hab hr hn hk hb he
theorem jDZ.frest {G0 : jT} {H0 : Heap} {r yb ye : Nat} (h : jDZ dC dI G0 H0) (hab : ∀ a t, G0 a = some t → a < H0.size) (hr : ∀ t, G0 r ≠ some t) (hn : jN14 G0 G) (hk : jKx r G0 G H0 H) (hb : H0.size ≤ yb) (he : H0.size ≤ ye) : ∀ a, G a = some (14, 0) → ∀ y, (jf (dC, dI) 14 a 3 (.ref y) H → y ≠ yb) ∧ (jf (dC, dI) 14 a 0 (.ref y) H → y ≠ ye) := h.2.1.fresh hab hr hn hk hb he
theorem jDZ.fresf {G0 : jT} {H0 : Heap} {r yf : Nat} (h : jDZ dC dI G0 H0) (hab : ∀ a t, G0 a = some t → a < H0.size) (hr : ∀ t, G0 r ≠ some t) (hn : jN14 G0 G) (hk : jKx r G0 G H0 H) (hf : H0.size ≤ yf) : ∀ a, G a = some (14, 0) → ∀ y, jf (dC, dI) 14 a 8 (.ref y) H → y ≠ yf := h.2.2.fresh hab hr hn hk hf
theorem jDZ.dy {B : jF} {base : Nat} {P Q : Nat → Int32 → Prop} (h : jDZ dC dI G H) (hX : jX B base G [] H) (hb : ∀ n G a H, B 190 n G a H ↔ jAr (dC, dI) (ca 1) P n a H) (he : ∀ n G a H, B 191 n G a H ↔ jAr (dC, dI) (ca 1) Q n a H) : jDY dC dI ca G none (fun _ => 0) H := h.1.dy hX hb he
theorem jDZ.vl (h : jDZ dC dI G H) : jVl dC dI G 9 (fun _ => 0) H := h.1.vl
theorem jDZ.rd {B : jF} {base : Nat} {P Q : Nat → Int32 → Prop} (h : jDZ dC dI G H) (hX : jX B base G [] H) (hb : ∀ n G a H, B 194 n G a H ↔ jAr (dC, dI) (ca 1) P n a H) (he : ∀ n G a H, B 195 n G a H ↔ jAr (dC, dI) (ca 1) Q n a H) : ∃ t : jDtr, jRD dC dI ca G none t H ∧ ∀ a, t.ln a = 0 ∧ t.ul a = 0 := by
  obtain ⟨Yt, Yu, h1, h2, h3, h4⟩ := h.2.1
  have key : ∀ a, ∃ p : (Nat → Int32) × (Nat → Int32), G a = some (14, 0) → va_at (dC, dI) vwCl (Yt a, .inl (ca 1, 1500, .inl p.1)) H ∧ va_at (dC, dI) vwCl (Yu a, .inl (ca 1, 40, .inl p.2)) H := fun a => by
    by_cases ha : G a = some (14, 0)
    · obtain ⟨g1, g2, g3, g4⟩ := h1 a ha
      obtain ⟨ft, b1, -⟩ := (hb _ _ _ _).mp (hX.1 _ _ _ g3 (by decide) (fun q => by cases q))
      obtain ⟨fu, e1, -⟩ := (he _ _ _ _).mp (hX.1 _ _ _ g4 (by decide) (fun q => by cases q))
      exact ⟨(ft, fu), fun _ => ⟨b1, e1⟩⟩
    · exact ⟨(fun _ => 0, fun _ => 0), fun q => absurd q ha⟩
  refine ⟨(fun _ => 0, fun _ => 0, fun a => (Classical.choose (key a)).1, fun _ => 0, fun a => (Classical.choose (key a)).2), ⟨Yt, Yu, h1, h2, h3, fun a ha _ => ⟨fun q hq => ?_, fun q hq => ?_⟩⟩, fun a => ⟨rfl, rfl⟩⟩
  · obtain ⟨g1, g2, g3⟩ := h4 a ha
    simp only [List.mem_cons, List.not_mem_nil, or_false] at hq
    rcases hq with rfl | rfl | rfl
    · exact ⟨⟨_, ha⟩, g2⟩
    · exact ⟨⟨_, ha⟩, g3⟩
    · exact ⟨⟨_, ha⟩, g1⟩
  · obtain ⟨g1, g2, g3, g4⟩ := h1 a ha
    have gk := Classical.choose_spec (key a) ha
    simp only [List.mem_cons, List.not_mem_nil, or_false] at hq
    rcases hq with rfl | rfl
    · exact ⟨g3, (by show (18 : Nat) ≤ 194; decide), (by show (194 : Nat) < 1000; decide), gk.1⟩
    · exact ⟨g4, (by show (18 : Nat) ≤ 195; decide), (by show (195 : Nat) < 1000; decide), gk.2⟩
theorem jDZ.xd {B : jF} {base : Nat} {P Q R : Nat → Int32 → Prop} (h : jDZ dC dI G H) (hX : jX B base G [] H) (hb : ∀ n G a H, B 190 n G a H ↔ jAr (dC, dI) (ca 1) P n a H) (he : ∀ n G a H, B 191 n G a H ↔ jAr (dC, dI) (ca 1) Q n a H) (hf : ∀ n G a H, B 192 n G a H ↔ jAr (dC, dI) (ca 1) R n a H) : ∃ q : jXg, jXD dC dI ca G none q H ∧ ∀ a, q.sn a = 0 ∧ q.ck a = 0 := by
  obtain ⟨Yb, Ye, h1, h2, h3, h4⟩ := h.1
  obtain ⟨Yf, k1, k2⟩ := h.2.2
  have key : ∀ a, ∃ p : (Nat → Int32) × (Nat → Int32) × (Nat → Int32), G a = some (14, 0) → va_at (dC, dI) vwCl (Yb a, .inl (ca 1, 40, .inl p.1)) H ∧ va_at (dC, dI) vwCl (Ye a, .inl (ca 1, 40, .inl p.2.1)) H ∧ va_at (dC, dI) vwCl (Yf a, .inl (ca 1, 40, .inl p.2.2)) H := fun a => by
    by_cases ha : G a = some (14, 0)
    · obtain ⟨g1, g2, g3, g4⟩ := h1 a ha
      obtain ⟨g5, g6⟩ := k1 a ha
      obtain ⟨fb, b1, -⟩ := (hb _ _ _ _).mp (hX.1 _ _ _ g3 (by decide) (fun q => by cases q))
      obtain ⟨fe, e1, -⟩ := (he _ _ _ _).mp (hX.1 _ _ _ g4 (by decide) (fun q => by cases q))
      obtain ⟨ff, f1, -⟩ := (hf _ _ _ _).mp (hX.1 _ _ _ g6 (by decide) (fun q => by cases q))
      exact ⟨(fb, fe, ff), fun _ => ⟨b1, e1, f1⟩⟩
    · exact ⟨(fun _ => 0, fun _ => 0, fun _ => 0), fun q => absurd q ha⟩
  refine ⟨(fun _ => 0, fun _ => 0, fun a => (Classical.choose (key a)).1, fun a => (Classical.choose (key a)).2.1, fun a => (Classical.choose (key a)).2.2), ⟨Yb, Ye, Yf, fun a _ ha => ⟨(h1 a ha).1, (h1 a ha).2.2.1, (h1 a ha).2.1, (h1 a ha).2.2.2, (k1 a ha).1, (k1 a ha).2⟩, fun a b _ _ ha hb => h2 a b ha hb, fun a b _ _ ha hb => h3 a b ha hb, fun a b _ _ ha hb => k2 a b ha hb, fun a _ ha _ => ⟨fun q hq => ?_, fun q hq => ?_, trivial⟩⟩, fun a => ⟨rfl, rfl⟩⟩
  · obtain ⟨g1, g2⟩ := h4 a ha
    simp only [List.mem_cons, List.not_mem_nil, or_false] at hq
    rcases hq with rfl | rfl
    · exact ⟨⟨_, ha⟩, g1⟩
    · exact ⟨⟨_, ha⟩, g2⟩
  · obtain ⟨g1, g2, g3, g4⟩ := h1 a ha
    obtain ⟨g5, g6⟩ := k1 a ha
    have gk := Classical.choose_spec (key a) ha
    simp only [List.mem_cons, List.not_mem_nil, or_false] at hq
    rcases hq with rfl | rfl | rfl
    · exact ⟨g3, (by show (18 : Nat) ≤ 190; decide), (by show (190 : Nat) < 1000; decide), gk.1⟩
    · exact ⟨g4, (by show (18 : Nat) ≤ 191; decide), (by show (191 : Nat) < 1000; decide), gk.2.1⟩
    · exact ⟨g6, (by show (18 : Nat) ≤ 192; decide), (by show (192 : Nat) < 1000; decide), gk.2.2⟩
theorem jwWr.z {n : Int} {wo : Nat → Option Nat} {wd ws wi wu we : Nat → Int32} (h : n = 0) : jwWr n wo wd ws wi wu we [] := ⟨h, Nat.zero_le _, fun i a h => by cases h⟩
theorem jwCh.z {f l : Nat → Int32} : jwCh f l [] := fun i r h => by cases h
/-- where nothing is open, checked, asked, kept -/
def jwZ0 : jwSt := (fun _ => 0, fun _ => (-1, 0), [], [])
theorem jrZ.z0 {t : jDtr} {q : jXg} {fd co : Nat → Option Nat} {dc : Int} {cs cl : Nat → Int32} {ol nw td : Nat} (hdc : dc = 0) (ht : ∀ a, t.ln a = 0 ∧ t.ul a = 0) (hq : ∀ a, q.sn a = 0 ∧ q.ck a = 0) (hf : ∀ i, i < 3 → ∃ a, fd i = some a) (hco : ∀ w : Nat, w < 2 → co w = none) (hp : jPu (fun _ => 0) (fun _ => 0) fd co cs dc ol nw td) : jrZ t q fd dc co cs cl [] ol nw td (0, fun _ => jdDz) jwZ0 := by
  subst hdc
  have e1 : q.sn = fun _ => 0 := funext (fun a => (hq a).1)
  have e2 : q.ck = fun _ => 0 := funext (fun a => (hq a).2)
  have hp : jPu q.sn q.ck fd co cs 0 ol nw td := by rw [e1, e2]; exact hp
  have hI : jdIr t fd 0 := ⟨by omega, by omega, hf, fun a => by rw [(ht a).1, (ht a).2]; decide⟩
  refine ⟨hI, ?_, hp, fun a => ?_, fun d a h _ _ => absurd h (by omega), fun w hw => Or.inl ⟨hco w hw, rfl⟩, fun _ => hco 0 (by omega), ⟨fun a (ha : a ∈ ([] : List jwA)) => absurd ha (by simp), rfl⟩⟩
  · unfold jdRs
    exact Prod.ext rfl (funext (fun i => jdLi.out (by omega)))
  · rw [(hq a).1]
    exact ⟨jSrt.nil _ _ _, by decide, by decide⟩
theorem jRS.z {r n dd : Nat} {t : jDtr} {fd : Nat → Option Nat} {dc : Int32} (hr : G r = some (16, n)) (p1 : jf (dC, dI) 16 r 41 (.ref dd) H) (hd : G dd = some (201, 3)) (q : jQc dC dI (ca 4) dd 3 fd H) (p2 : jf (dC, dI) 16 r 42 (.int dc) H) (hdc : dc.toInt = 0) (hR : jRD dC dI ca G none t H) (hz : ∀ a, t.ln a = 0 ∧ t.ul a = 0) (hf : ∀ i, i < 3 → ∃ a, fd i = some a) : jRS dC dI ca G r (0, fun _ => jdDz) H := by
  have hI : jdIr t fd dc.toInt := ⟨by omega, by omega, hf, fun a => by rw [(hz a).1, (hz a).2]; decide⟩
  have e : jdRs t fd dc.toInt = (0, fun _ => jdDz) := by
    rw [hdc]
    exact Prod.ext rfl (funext fun d => jdLi.out (by omega))
  rw [← e]
  exact jRS.mk hr p1 hd q p2 hR hI
theorem jQs3 {G1 : jT} {k n a b c : Nat} (hle : jLe G G1) (ha : G a = some (k, n)) (hb : G b = some (k, n)) (hc : G c = some (k, n)) : ∀ j, j < 3 → jQs k n G1 (va_up (va_up (va_up (fun _ => none) 0 (some a)) 1 (some b)) 2 (some c) j) := fun j hj => by
  rcases (by omega : j = 0 ∨ j = 1 ∨ j = 2) with rfl | rfl | rfl
  · exact ⟨a, by simp [va_up], hle _ _ ha⟩
  · exact ⟨b, by simp [va_up], hle _ _ hb⟩
  · exact ⟨c, by simp [va_up], hle _ _ hc⟩
/-- what the reference's constructor leaves of its documents and of its JSON -/
def jRo (dC : Nat → ClassId) (dI : Nat → Nat → Nat) (ca : Nat → ClassId) (G : jT) (r : Nat) (H : Heap) : Prop := ∃ dd co cs ol nw td xb xe : Nat, G dd = some (201, 3) ∧ G co = some (208, 2) ∧ G cs = some (207, 2) ∧ G ol = some (14, 0) ∧ G nw = some (14, 0) ∧ G td = some (14, 0) ∧ G xb = some (122, 3100) ∧ G xe = some (123, 3100) ∧ jDV dC dI ca G r dd co cs ol nw td H ∧ jP (dC, dI) G H [(r, 16, 22, .ref xb), (r, 16, 23, .ref xe)] ∧ jIs (dC, dI) G H [(jFt, jFT dC dI ca G xb xe)]
/-- what the constructor leaves, out of plain facts -/
theorem jBZ.mk0 {r n y41 y60 y49 y61 y62 y51 y52 y53 y54 y55 y67 y68 a b c ol nw td : Nat} {t : jDtr} {q : jXg} {fd fo : Nat → Option Nat} (hr : G r = some (16, n)) (p41 : jf (dC, dI) 16 r 41 (.ref y41) H) (g41 : G y41 = some (201, 3)) (q41 : jQc dC dI (ca 4) y41 3 fd H) (p42 : jf (dC, dI) 16 r 42 (.int 0) H) (p60 : jf (dC, dI) 16 r 60 (.ref y60) H) (g60 : G y60 = some (208, 2)) (q60 : jQc dC dI (ca 4) y60 2 fo H) (p48 : jf (dC, dI) 16 r 48 (.int 0) H) (p49 : jf (dC, dI) 16 r 49 (.ref y49) H) (g49 : G y49 = some (202, 12)) (q49 : ∃ f, jQc dC dI (ca 4) y49 12 f H) (p66 : jf (dC, dI) 16 r 66 (.int 0) H) (p61 : jf (dC, dI) 16 r 61 (.ref y61) H) (g61 : G y61 = some (207, 2)) (v61 : ∃ f : Nat → Int32, va_at (dC, dI) vwCl (y61, .inl (ca 1, 2, .inl f)) H) (p62 : jf (dC, dI) 16 r 62 (.ref y62) H) (g62 : G y62 = some (115, 2)) (v62 : ∃ f : Nat → Int32, va_at (dC, dI) vwCl (y62, .inl (ca 1, 2, .inl f)) H) (p51 : jf (dC, dI) 16 r 51 (.ref y51) H) (g51 : G y51 = some (206, 12)) (v51 : ∃ f : Nat → Int32, va_at (dC, dI) vwCl (y51, .inl (ca 1, 12, .inl f)) H) (p52 : jf (dC, dI) 16 r 52 (.ref y52) H) (g52 : G y52 = some (104, 12)) (v52 : ∃ f : Nat → Int32, va_at (dC, dI) vwCl (y52, .inl (ca 3, 12, .inl f)) H) (p53 : jf (dC, dI) 16 r 53 (.ref y53) H) (g53 : G y53 = some (116, 12)) (v53 : ∃ f : Nat → Int32, va_at (dC, dI) vwCl (y53, .inl (ca 1, 12, .inl f)) H) (p54 : jf (dC, dI) 16 r 54 (.ref y54) H) (g54 : G y54 = some (126, 240)) (v54 : ∃ f : Nat → Int32, va_at (dC, dI) vwCl (y54, .inl (ca 1, 240, .inl f)) H) (p55 : jf (dC, dI) 16 r 55 (.ref y55) H) (g55 : G y55 = some (203, 12)) (v55 : ∃ f : Nat → Int32, va_at (dC, dI) vwCl (y55, .inl (ca 1, 12, .inl f)) H) (p67 : jf (dC, dI) 16 r 67 (.ref y67) H) (g67 : G y67 = some (114, 38400)) (v67 : ∃ f : Nat → Int32, va_at (dC, dI) vwCl (y67, .inl (ca 1, 38400, .inl f)) H) (p68 : jf (dC, dI) 16 r 68 (.ref y68) H) (g68 : G y68 = some (205, 24)) (v68 : ∃ f : Nat → Int32, va_at (dC, dI) vwCl (y68, .inl (ca 1, 24, .inl f)) H) (p46 : jf (dC, dI) 16 r 46 (.ref ol) H) (g46 : G ol = some (14, 0)) (p47 : jf (dC, dI) 16 r 47 (.ref nw) H) (g47 : G nw = some (14, 0)) (p71 : jf (dC, dI) 16 r 71 (.ref td) H) (g71 : G td = some (14, 0)) (hR : jRD dC dI ca G none t H) (hX : jXD dC dI ca G none q H) (ht : ∀ a, t.ln a = 0 ∧ t.ul a = 0) (hq : ∀ a, q.sn a = 0 ∧ q.ck a = 0) (h0 : fd 0 = some a) (h1 : fd 1 = some b) (h2 : fd 2 = some c) (ha : a < b) (hb : b < c) (hc : c < ol) (ho : ol < nw) (hn : nw < td) (hf : ∀ w, w < 2 → fo w = none) : jBZ dC dI ca G r (0, fun _ => jdDz) jwZ0 H := by
  obtain ⟨f61, w61⟩ := v61
  obtain ⟨f62, w62⟩ := v62
  obtain ⟨f51, w51⟩ := v51
  obtain ⟨f52, w52⟩ := v52
  obtain ⟨f53, w53⟩ := v53
  obtain ⟨f54, w54⟩ := v54
  obtain ⟨f55, w55⟩ := v55
  obtain ⟨f67, w67⟩ := v67
  obtain ⟨f68, w68⟩ := v68
  obtain ⟨f49, w49⟩ := q49
  have hfd : ∀ i, i < 3 → ∃ a, fd i = some a := fun i hi => by
    rcases (by omega : i = 0 ∨ i = 1 ∨ i = 2) with rfl | rfl | rfl
    · exact ⟨a, h0⟩
    · exact ⟨b, h1⟩
    · exact ⟨c, h2⟩
  have hd : jHd dC dI ca G r fd 0 H := ⟨y41, ⟨n, hr⟩, g41, (jP.cons hr p41 (jP.cons hr p42 jP.nil)), jMc.nil, q41, trivial⟩
  have hc9 : jHc dC dI ca G r fo f61 f62 H := ⟨y61, y62, y60, ⟨n, hr⟩, ⟨g61, g62, g60⟩, (jP.cons hr p61 (jP.cons hr p62 (jP.cons hr p60 jP.nil))), (jMc.con g61 (by decide) (by decide) w61 (jMc.con g62 (by decide) (by decide) w62 jMc.nil)), q60, trivial⟩
  have hw : jHw dC dI ca G r [] H := ⟨y51, y52, y53, y54, y55, y49, 0, f51, f52, f53, f54, f55, f49, ⟨n, hr⟩, ⟨g51, g52, g53, g54, g55, g49⟩, (jP.cons hr p51 (jP.cons hr p52 (jP.cons hr p53 (jP.cons hr p54 (jP.cons hr p55 (jP.cons hr p49 (jP.cons hr p48 jP.nil))))))), (jMc.con g51 (by decide) (by decide) w51 (jMc.con g52 (by decide) (by decide) w52 (jMc.con g53 (by decide) (by decide) w53 (jMc.con g54 (by decide) (by decide) w54 (jMc.con g55 (by decide) (by decide) w55 jMc.nil))))), w49, jwWr.z (by decide)⟩
  have hk : jHk dC dI ca G r [] H := ⟨y67, y68, 0, f67, f68, ⟨n, hr⟩, ⟨g67, g68⟩, (jP.cons hr p67 (jP.cons hr p68 (jP.cons hr p66 jP.nil))), (jMc.con g67 (by decide) (by decide) w67 (jMc.con g68 (by decide) (by decide) w68 jMc.nil)), trivial, ⟨by decide, by decide, jwCh.z⟩⟩
  have hoo : jHo dC dI ca G r ol nw td H := ⟨⟨n, hr⟩, ⟨g46, g47, g71⟩, (jP.cons hr p46 (jP.cons hr p47 (jP.cons hr p71 jP.nil))), jMc.nil, trivial, Nat.ne_of_lt ho⟩
  exact ⟨t, q, fd, 0, fo, f61, f62, [], ol, nw, td, hd, hR, hX, hc9, hw, hk, hoo, jrZ.z0 (by decide) ht hq hfd hf (jPu.zero h0 h1 h2 ha hb hc ho hn hf)⟩
theorem jAr.va {D : va_G} {cA : ClassId} {P : Nat → Int32 → Prop} {n a : Nat} {H : Heap} (h : jAr D cA P n a H) : ∃ f : Nat → Int32, va_at D vwCl (a, .inl (cA, n, .inl f)) H := ⟨_, h.choose_spec.1⟩
theorem jAq.va {D : va_G} {cA : ClassId} {P : jT → Option Nat → Prop} {n a : Nat} {H : Heap} (h : jAq D cA P n G a H) : ∃ f : Nat → Option Nat, jQc D.1 D.2 cA a n f H := ⟨_, h.choose_spec.1⟩
end J45
end
section
-- the row 'next' of the reference's JSON: once a value was made, the first one has none behind it
theorem jNrU {G : jT} {a b : Nat} {t : Option (Nat × Nat)} (hn : ∀ t, G a ≠ some t) (hne : a ≠ b) : ∀ u, va_up G b t a ≠ some u := fun u e => hn u (by rw [← e]; simp [va_up, hne])
end
