-- Bytes as a block: its object and its row
def jExt (sz : Nat) (G G1 : jT) : Prop := ∀ q, q < sz → G1 q = G q
theorem jExt.rf {sz : Nat} {G : jT} : jExt sz G G := fun _ _ => rfl
theorem jExt.tr {sz sz1 : Nat} {G G1 G2 : jT} (h : jExt sz G G1) (h1 : jExt sz1 G1 G2) (hs : sz ≤ sz1) : jExt sz G G2 := fun q hq => (h1 q (by omega)).trans (h q hq)
theorem jExt.at {sz a : Nat} {G G1 : jT} {t : Nat × Nat} (h : jExt sz G G1) (ha : a < sz) (hG : G a = some t) : G1 a = some t := (h a ha).trans hG
theorem jX.le {B : jF} {base : Nat} {G G1 : jT} {X : List Nat} {H : Heap} (h : jX B base G X H) (he : jExt H.size G G1) : jLe G G1 := fun a t ht => (he a (h.2 a t ht).2).trans ht
theorem jSup.ext {sz a q : Nat} {G G1 : jT} (h : jExt sz G G1) (hq : q < sz) : jSup G1 a q ↔ jSup G a q := by
  unfold jSup
  rw [h q hq]
theorem jX.upd {B : jF} {base : Nat} {G G1 : jT} {X : List Nat} {H0 H1 : Heap} {a k n : Nat} (h : jX B base G X H0) (hB : jBok B) (hga : G a = some (k, n)) (hk : k < 1000) (haX : a ∈ X) (hfr : ∀ q, q < H0.size → ¬ jSup G a q → H1[q]? = H0[q]?) (hsz : H0.size ≤ H1.size) (hext : jExt H0.size G G1) (hnew : ∀ q t, H0.size ≤ q → G1 q = some t → 1000 ≤ t.1 ∧ base ≤ q ∧ q < H1.size) : jX B base G1 X H1 := by
  refine ⟨fun b k1 n1 h1 h2 h3 => ?_, fun b t ht => ?_⟩
  · have hb : b < H0.size := by
      rcases Nat.lt_or_ge b H0.size with q | q
      · exact q
      · have := (hnew b _ q h1).1
        exact absurd h2 (by simp at this; omega)
    have h1' : G b = some (k1, n1) := by rw [← hext b hb]; exact h1
    refine hB.2 k1 n1 G G1 b H1 (h.le hext) (hB.1 k1 n1 G b H0 H1 (fun q hq => ?_) (h.1 b k1 n1 h1' h2 h3))
    have hql : q < H0.size := by
      rcases hq with e | ⟨i, e⟩
      · rw [e]; exact hb
      · exact (h.2 _ _ e).2
    refine hfr q hql (fun hs => ?_)
    have := jSup.only h1' h2 hga hk hs hq
    rw [this] at h3
    exact h3 haX
  · rcases Nat.lt_or_ge b H0.size with q | q
    · rw [hext b q] at ht
      have := h.2 b t ht
      exact ⟨this.1, by omega⟩
    · exact (hnew b t q ht).2
def jPow (len : Nat) : Prop := ∃ i, i ≤ 20 ∧ len = 2 ^ i
theorem jPow.up {len : Nat} (h : jPow len) (hl : len < 1000000) : jPow (2 * len) ∧ 2 * len ≤ 1048576 := by
  obtain ⟨i, hi, rfl⟩ := h
  have h1 : i < 20 := by
    rcases Nat.lt_or_ge i 20 with q | q
    · exact q
    · have : i = 20 := by omega
      subst this
      exact absurd hl (by decide)
  refine ⟨⟨i + 1, by omega, by rw [Nat.pow_succ]; omega⟩, ?_⟩
  have h2 : 2 ^ (i + 1) ≤ 2 ^ 20 := Nat.pow_le_pow_right (by decide) (by omega)
  rw [Nat.pow_succ] at h2
  omega
def jBy (dC : Nat → ClassId) (dI : Nat → Nat → Nat) (ca : Nat → ClassId) (G : jT) (a len : Nat) (cnt : Int32) (H : Heap) : Prop := ∃ (row : Nat) (f : Nat → Int32), va_at (dC, dI) vwCl (a, .inr (2, [.ref row, .int cnt])) H ∧ va_at (dC, dI) vwCl (row, .inl (ca 0, len, .inl f)) H ∧ G row = some (1000, a) ∧ sb_Fit f
theorem jBy.kept {dC : Nat → ClassId} {dI : Nat → Nat → Nat} {ca : Nat → ClassId} {G : jT} {a len : Nat} {cnt : Int32} {H H1 : Heap} (h : jBy dC dI ca G a len cnt H) (hk : ∀ q, jSup G a q → H1[q]? = H[q]?) : jBy dC dI ca G a len cnt H1 := by
  obtain ⟨row, f, h1, h2, h3, h4⟩ := h
  exact ⟨row, f, h1.kept (hk _ jSup.root), h2.kept (hk _ (jSup.own (i := 0) h3)), h3, h4⟩
theorem jBy.ext {dC : Nat → ClassId} {dI : Nat → Nat → Nat} {ca : Nat → ClassId} {G G1 : jT} {a len : Nat} {cnt : Int32} {H : Heap} (h : jBy dC dI ca G a len cnt H) (hk : jLe G G1) : jBy dC dI ca G1 a len cnt H := by
  obtain ⟨row, f, h1, h2, h3, h4⟩ := h
  exact ⟨row, f, h1, h2, hk _ _ h3, h4⟩
/-- the numbers of a Bytes into which K more bytes may be put: there is room in the row, or the row is a power of two and the heap has room for it to grow -/
def jN2 (LC LS len : Nat) (cnt : Int32) (K : Nat) (H : Heap) : Prop := 0 ≤ cnt.toInt ∧ cnt.toInt ≤ len ∧ 16 ≤ len ∧ len ≤ 1048576 ∧ (cnt.toInt + K ≤ len ∨ (jPow len ∧ 16 * H.size + (1048576 - len) ≤ 16 * LC ∧ jTot H + 2 * (1048576 - len) ≤ LS))
def jPre2 (dC : Nat → ClassId) (dI : Nat → Nat → Nat) (ca : Nat → ClassId) (base : Nat) (B : jF) (LC LS : Nat) (G : jT) (X : List Nat) (a len : Nat) (cnt : Int32) (K : Nat) (H0 : Heap) (U : State) : Prop :=
  U.heap = H0 ∧ jX B base G X H0 ∧ jBy dC dI ca G a len cnt H0 ∧ jG dC dI ca base U ∧ (∃ n, G a = some (2, n)) ∧ a ∈ X ∧ jN2 LC LS len cnt K H0
def jPost2 (dC : Nat → ClassId) (dI : Nat → Nat → Nat) (ca : Nat → ClassId) (base : Nat) (B : jF) (G : jT) (X : List Nat) (a len : Nat) (cnt : Int32) (K : Nat) (H0 : Heap) (u : jT × Nat × Int32) (H : Heap) : Prop :=
  jX B base u.1 X H ∧ jExt H0.size G u.1 ∧ jBy dC dI ca u.1 a u.2.1 u.2.2 H ∧ (∀ q, q < H0.size → ¬ jSup G a q → H[q]? = H0[q]?) ∧ H0.size ≤ H.size ∧
  cnt.toInt ≤ u.2.2.toInt ∧ u.2.2.toInt ≤ cnt.toInt + K ∧ u.2.2.toInt ≤ u.2.1 ∧ len ≤ u.2.1 ∧ u.2.1 ≤ 1048576 ∧ (u.2.1 = len ∨ (jPow u.2.1 ∧ len < cnt.toInt + K)) ∧ 16 * H.size + len ≤ 16 * H0.size + u.2.1 ∧ jTot H + 2 * len ≤ jTot H0 + 2 * u.2.1
theorem tX0_put (l : Launch) (dC : Nat → ClassId) (dI : Nat → Nat → Nat) (ca : Nat → ClassId) (base LC LS : Nat) (B : jF) (hB : jBok B) (G : jT) (X : List Nat) (H0 : Heap) (a len : Nat) (cnt v : Int32) : Met l yX0_put wsX0_put ({ frames := 2, cells := LC - H0.size, slots := LS - jTot H0, locals := 80 }) (va_Pc [.ref a, .int v] (jPre2 dC dI ca base B LC LS G X a len cnt 1 H0))
    (va_Qv (S := jT × Nat × Int32) (fun u => u.2.2.toInt = cnt.toInt + 1 ∨ (u.2.2 = cnt ∧ 1000000 ≤ cnt.toInt)) (fun u t => jPost2 dC dI ca base B G X a len cnt 1 H0 u t.heap) (jA base)) (LC - H0.size) (LS - jTot H0) (jA base) := by
  refine Met.ghost (X := Nat × (Nat → Int32)) (fun g => kX0_put l dC dI ca base LC LS H0 a g.1 len cnt g.2 v) ?_
  intro args U hP
  obtain ⟨hargs, hH, hX, ⟨row, f, h1, h2, h3, h4⟩, hG, ⟨n, hga⟩, haX, hc0, hc1, hl0, hl1, hroom⟩ := hP
  have ha := hX.2 _ _ hga
  have hr := hX.2 _ _ h3
  have hne : a ≠ row := jne hga h3 (by simp)
  refine ⟨(row, f), ⟨hargs, hH, h1, h2, hG, ha.1, hr.1, hne, h4, hc0, hc1, hl0, hl1, ?_⟩, ?_⟩
  · rcases hroom with h | ⟨hp, h, h'⟩
    · exact Or.inl (by omega)
    · by_cases h9 : len < 1000000
      · have := (hp.up h9).2
        omega
      · omega
  · intro o t hq
    obtain ⟨⟨⟨row1, len1, cnt1, f1⟩, ho, ⟨hf1, hrl, hcn, hcl⟩, hw1, hw2, hw3, hw4⟩, hF⟩ := hq
    simp only at hf1 hrl hcn hcl hw1 hw2 hw3
    have hfr : ∀ q, q < H0.size → ¬ jSup G a q → t.heap[q]? = H0[q]? := fun q h5 h6 => hw4 q h5 (fun e => h6 (by rw [e]; exact jSup.root)) (fun e => h6 (by rw [e]; exact jSup.own (i := 0) h3))
    have hcnt : cnt.toInt ≤ cnt1.toInt ∧ cnt1.toInt ≤ cnt.toInt + 1 := by
      rcases hcn with h | ⟨h, -⟩
      · omega
      · rw [h]; omega
    rcases hrl with ⟨e1, e2⟩ | ⟨e1, e2, e3, e4⟩
    · subst e1; subst e2
      have hsz : t.heap.size = H0.size ∧ jTot t.heap ≤ jTot H0 := by
        rcases hw3 with ⟨-, h, h'⟩ | ⟨h, -⟩
        · exact ⟨h, h'⟩
        · omega
      refine ⟨⟨(G, len1, cnt1), ho, hcn, ?_⟩, hF⟩
      refine ⟨hX.upd hB hga (by omega) haX hfr (by omega) jExt.rf (fun q t1 h5 h6 => ?_), jExt.rf, ⟨row1, f1, hw1, hw2, h3, hf1⟩, hfr, by omega, hcnt.1, hcnt.2, ?_, Nat.le_refl _, hl1, Or.inl rfl, by simp only; omega, by simp only; omega⟩
      · have := (hX.2 q t1 h6).2
        omega
      · exact hcl
    · subst e1; subst e2
      have hsz : t.heap.size = H0.size + 1 ∧ jTot t.heap ≤ jTot H0 + 2 * len := by
        rcases hw3 with ⟨h, -⟩ | ⟨-, h, h'⟩
        · omega
        · exact ⟨h, h'⟩
      have hp : jPow len := by
        rcases hroom with h | ⟨h, -⟩
        · omega
        · exact h
      have hup := hp.up (by omega)
      have hn := hX.fresh
      have hext : jExt H0.size G (va_up G H0.size (some (1000, a))) := fun q hq => va_up_ne _ _ (by omega)
      refine ⟨⟨(va_up G H0.size (some (1000, a)), 2 * len, cnt1), ho, hcn, ?_⟩, hF⟩
      refine ⟨hX.upd hB hga (by omega) haX hfr (by omega) hext (fun q t1 h5 h6 => ?_), hext, ⟨H0.size, f1, hw1, hw2, jUp_self, hf1⟩, hfr, by omega, hcnt.1, hcnt.2, ?_, by simp only; omega, hup.2, Or.inr ⟨hup.1, by omega⟩, by simp only; omega, by simp only; omega⟩
      · have h6 : va_up G H0.size (some (1000, a)) q = some t1 := h6
        by_cases e : q = H0.size
        · subst e
          rw [jUp_self] at h6
          cases h6
          exact ⟨Nat.le_refl _, by omega, by omega⟩
        · rw [va_up_ne _ _ e] at h6
          have := (hX.2 q t1 h6).2
          omega
      · exact hcl
