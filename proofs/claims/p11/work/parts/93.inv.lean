-- invariants with a footprint, as a walk carries them: contents of reference arrays, one field of all documents, the sentences of all documents
theorem jIs.cons {D : va_G} {G : jT} {H : Heap} {q : jIv} {L : List jIv} (h : q.2 H ∧ ∀ H1 H2 : Heap, jAg D G q.1 H1 H2 → q.2 H1 → q.2 H2) (h2 : jIs D G H L) : jIs D G H (q :: L) := fun x hx => by
  rcases List.mem_cons.mp hx with e | e
  · subst e; exact h
  · exact h2 x e
theorem jf.uniq {D : va_G} {k a i : Nat} {v w : Value} {H : Heap} (h1 : jf D k a i v H) (h2 : jf D k a i w H) : v = w := by
  obtain ⟨r, -, -, cell, g3, -, -, g6⟩ := h1
  obtain ⟨r2, -, -, cell2, q3, -, -, q6⟩ := h2
  cases g3.symm.trans q3
  exact Option.some.inj (g6.symm.trans q6)
def jQc (dC : Nat → ClassId) (dI : Nat → Nat → Nat) (cA : ClassId) (a n : Nat) (f : Nat → Option Nat) (H : Heap) : Prop := va_at (dC, dI) vwCl (a, .inl (cA, n, .inr (.inr (.inr (.inr f))))) H
def jVl (dC : Nat → ClassId) (dI : Nat → Nat → Nat) (G : jT) (i : Nat) (v : Nat → Int32) (H : Heap) : Prop := ∀ a, G a = some (14, 0) → jf (dC, dI) 14 a i (.int (v a)) H
abbrev jF9 : List (Nat × Nat) := [(14, 9)]
abbrev jFs : List (Nat × Nat) := [(14, 5), (14, 6), (14, 7), (190, 0), (191, 0)]
theorem jQc.ie {dC : Nat → ClassId} {dI : Nat → Nat → Nat} {cA : ClassId} {a n k m : Nat} {G : jT} {f : Nat → Option Nat} {H : Heap} (h : jQc dC dI cA a n f H) (ha : G a = some (k, m)) (h1 : 17 ≤ k) (h2 : k < 1000) : (([(k, 0)], jQc dC dI cA a n f) : jIv).2 H ∧ ∀ H1 H2 : Heap, jAg (dC, dI) G (([(k, 0)], jQc dC dI cA a n f) : jIv).1 H1 H2 → (([(k, 0)], jQc dC dI cA a n f) : jIv).2 H1 → (([(k, 0)], jQc dC dI cA a n f) : jIv).2 H2 :=
  ⟨h, fun H1 H2 hA hq => by
    have hq1 : va_at (dC, dI) vwCl (a, .inl (cA, n, .inr (.inr (.inr (.inr f))))) H1 := hq
    exact va_at.kept hq1 (hA.2 a k m ha h1 h2 (by simp))⟩
theorem jVl.ie {dC : Nat → ClassId} {dI : Nat → Nat → Nat} {G : jT} {v : Nat → Int32} {H : Heap} (h : jVl dC dI G 9 v H) : ((jF9, jVl dC dI G 9 v) : jIv).2 H ∧ ∀ H1 H2 : Heap, jAg (dC, dI) G ((jF9, jVl dC dI G 9 v) : jIv).1 H1 H2 → ((jF9, jVl dC dI G 9 v) : jIv).2 H1 → ((jF9, jVl dC dI G 9 v) : jIv).2 H2 :=
  ⟨h, fun H1 H2 hA hq a ha => hA.1 a 14 0 9 _ ha rfl (hq a ha)⟩
/-- one document: ps sentences, in order -/
def jD2 (dC : Nat → ClassId) (dI : Nat → Nat → Nat) (ca : Nat → ClassId) (G : jT) (a yb ye : Nat) (ps : Int32) (H : Heap) : Prop := ∃ (fb fe : Nat → Int32), G yb = some (190, 40) ∧ G ye = some (191, 40) ∧ jP (dC, dI) G H [(a, 14, 6, .ref yb), (a, 14, 7, .ref ye), (a, 14, 5, .int ps)] ∧ jMc (dC, dI) G H [(yb, 190, 40, ca 1, fb), (ye, 191, 40, ca 1, fe)] ∧ jSrt fb fe ps.toInt 1500 ∧ 0 ≤ ps.toInt ∧ ps.toInt ≤ 40
/-- all documents but x -/
def jDY (dC : Nat → ClassId) (dI : Nat → Nat → Nat) (ca : Nat → ClassId) (G : jT) (x : Option Nat) (sn : Nat → Int32) (H : Heap) : Prop := ∃ Yb Ye : Nat → Nat, (∀ a, G a = some (14, 0) → jf (dC, dI) 14 a 6 (.ref (Yb a)) H ∧ jf (dC, dI) 14 a 7 (.ref (Ye a)) H ∧ G (Yb a) = some (190, 40) ∧ G (Ye a) = some (191, 40)) ∧ (∀ a b, G a = some (14, 0) → G b = some (14, 0) → Yb a = Yb b → a = b) ∧ (∀ a b, G a = some (14, 0) → G b = some (14, 0) → Ye a = Ye b → a = b) ∧ ∀ a, G a = some (14, 0) → some a ≠ x → jD2 dC dI ca G a (Yb a) (Ye a) (sn a) H
theorem jD2.of {dC : Nat → ClassId} {dI : Nat → Nat → Nat} {ca : Nat → ClassId} {G : jT} {a yb ye : Nat} {ps : Int32} {H H1 : Heap} (h : jD2 dC dI ca G a yb ye ps H) (hf : ∀ i v, i = 5 ∨ i = 6 ∨ i = 7 → jf (dC, dI) 14 a i v H → jf (dC, dI) 14 a i v H1) (hb : H1[yb]? = H[yb]?) (he : H1[ye]? = H[ye]?) : jD2 dC dI ca G a yb ye ps H1 := by
  obtain ⟨fb, fe, g1, g2, g3, g4, g5⟩ := h
  refine ⟨fb, fe, g1, g2, fun q hq => ?_, fun q hq => ?_, g5⟩
  · obtain ⟨q1, q2⟩ := g3 q hq
    refine ⟨q1, ?_⟩
    simp only [List.mem_cons, List.not_mem_nil, or_false] at hq
    rcases hq with rfl | rfl | rfl
    · exact hf _ _ (Or.inr (Or.inl rfl)) q2
    · exact hf _ _ (Or.inr (Or.inr rfl)) q2
    · exact hf _ _ (Or.inl rfl) q2
  · obtain ⟨q1, q2, q3, q4⟩ := g4 q hq
    refine ⟨q1, q2, q3, q4.kept ?_⟩
    simp only [List.mem_cons, List.not_mem_nil, or_false] at hq
    rcases hq with rfl | rfl
    · exact hb
    · exact he
theorem jDY.ie {dC : Nat → ClassId} {dI : Nat → Nat → Nat} {ca : Nat → ClassId} {G : jT} {x : Option Nat} {sn : Nat → Int32} {H : Heap} (h : jDY dC dI ca G x sn H) : ((jFs, jDY dC dI ca G x sn) : jIv).2 H ∧ ∀ H1 H2 : Heap, jAg (dC, dI) G ((jFs, jDY dC dI ca G x sn) : jIv).1 H1 H2 → ((jFs, jDY dC dI ca G x sn) : jIv).2 H1 → ((jFs, jDY dC dI ca G x sn) : jIv).2 H2 := by
  refine ⟨h, fun H1 H2 hA hq => ?_⟩
  obtain ⟨Yb, Ye, h1, h2, h3, h4⟩ := hq
  refine ⟨Yb, Ye, fun a ha => ?_, h2, h3, fun a ha hx => ?_⟩
  · obtain ⟨g1, g2, g3, g4⟩ := h1 a ha
    exact ⟨hA.1 a 14 0 6 _ ha rfl g1, hA.1 a 14 0 7 _ ha rfl g2, g3, g4⟩
  · obtain ⟨g1, g2, g3, g4⟩ := h1 a ha
    refine (h4 a ha hx).of (fun i v hi hf => ?_) (hA.2 _ _ _ g3 (by omega) (by omega) rfl) (hA.2 _ _ _ g4 (by omega) (by omega) rfl)
    rcases hi with rfl | rfl | rfl
    · exact hA.1 a 14 0 5 _ ha rfl hf
    · exact hA.1 a 14 0 6 _ ha rfl hf
    · exact hA.1 a 14 0 7 _ ha rfl hf
theorem jDY.at {dC : Nat → ClassId} {dI : Nat → Nat → Nat} {ca : Nat → ClassId} {G : jT} {x : Option Nat} {sn : Nat → Int32} {H : Heap} (h : jDY dC dI ca G x sn H) {a : Nat} (ha : G a = some (14, 0)) (hx : some a ≠ x) : ∃ (yb ye : Nat) (fb fe : Nat → Int32), G yb = some (190, 40) ∧ G ye = some (191, 40) ∧ jP (dC, dI) G H [(a, 14, 6, .ref yb), (a, 14, 7, .ref ye), (a, 14, 5, .int (sn a))] ∧ jMc (dC, dI) G H [(yb, 190, 40, ca 1, fb), (ye, 191, 40, ca 1, fe)] ∧ jSrt fb fe (sn a).toInt 1500 ∧ 0 ≤ (sn a).toInt ∧ (sn a).toInt ≤ 40 := by
  obtain ⟨Yb, Ye, -, -, -, h4⟩ := h
  obtain ⟨fb, fe, g⟩ := h4 a ha hx
  exact ⟨_, _, fb, fe, g⟩
theorem jDY.less {dC : Nat → ClassId} {dI : Nat → Nat → Nat} {ca : Nat → ClassId} {G : jT} {sn : Nat → Int32} {H : Heap} (h : jDY dC dI ca G none sn H) (x : Nat) : jDY dC dI ca G (some x) sn H := by
  obtain ⟨Yb, Ye, h1, h2, h3, h4⟩ := h
  exact ⟨Yb, Ye, h1, h2, h3, fun a ha _ => h4 a ha (fun q => by cases q)⟩
def jUn (v : Nat → Int32) (a : Nat) (w : Int32) : Nat → Int32 := fun b => if b = a then w else v b
theorem jUn_e (v : Nat → Int32) (a : Nat) (w : Int32) : jUn v a w a = w := by simp [jUn]
theorem jUn_n (v : Nat → Int32) {a b : Nat} (w : Int32) (h : b ≠ a) : jUn v a w b = v b := by simp [jUn, h]
theorem jDY.full {dC : Nat → ClassId} {dI : Nat → Nat → Nat} {ca : Nat → ClassId} {G : jT} {sn : Nat → Int32} {H : Heap} {a yb ye : Nat} {ps : Int32} {fb fe : Nat → Int32} (h : jDY dC dI ca G (some a) sn H) (ha : G a = some (14, 0)) (hb : G yb = some (190, 40)) (he : G ye = some (191, 40)) (hP : jP (dC, dI) G H [(a, 14, 6, .ref yb), (a, 14, 7, .ref ye), (a, 14, 5, .int ps)]) (hM : jMc (dC, dI) G H [(yb, 190, 40, ca 1, fb), (ye, 191, 40, ca 1, fe)]) (hs : jSrt fb fe ps.toInt 1500) (h0 : 0 ≤ ps.toInt) (h40 : ps.toInt ≤ 40) : jDY dC dI ca G none (jUn sn a ps) H := by
  obtain ⟨Yb, Ye, h1, h2, h3, h4⟩ := h
  refine ⟨Yb, Ye, h1, h2, h3, fun b hb1 _ => ?_⟩
  by_cases e : b = a
  · subst e
    rw [jUn_e]
    have e1 : Yb b = yb := by have := jf.uniq (h1 b ha).1 (hP _ List.mem_cons_self).2; cases this; rfl
    have e2 : Ye b = ye := by have := jf.uniq (h1 b ha).2.1 (hP _ (List.mem_cons_of_mem _ List.mem_cons_self)).2; cases this; rfl
    rw [e1, e2]
    exact ⟨fb, fe, hb, he, hP, hM, hs, h0, h40⟩
  · rw [jUn_n _ _ e]
    exact h4 b hb1 (fun q => e (Option.some.inj q))
/-- a write to a field of x -/
theorem jDY.fld {dC : Nat → ClassId} {dI : Nat → Nat → Nat} {ca : Nat → ClassId} {G : jT} {sn : Nat → Int32} {H H1 : Heap} {a : Nat} (h : jDY dC dI ca G (some a) sn H) (ha : G a = some (14, 0)) (hfr : ∀ p, p ≠ a → H1[p]? = H[p]?) (hkf : ∀ ib w, ib ≠ 5 → jf (dC, dI) 14 a ib w H → jf (dC, dI) 14 a ib w H1) : jDY dC dI ca G (some a) sn H1 := by
  obtain ⟨Yb, Ye, h1, h2, h3, h4⟩ := h
  refine ⟨Yb, Ye, fun b hb => ?_, h2, h3, fun b hb hx => ?_⟩
  · obtain ⟨g1, g2, g3, g4⟩ := h1 b hb
    by_cases e : b = a
    · subst e; exact ⟨hkf _ _ (by decide) g1, hkf _ _ (by decide) g2, g3, g4⟩
    · exact ⟨g1.kept (hfr b e), g2.kept (hfr b e), g3, g4⟩
  · obtain ⟨g1, g2, g3, g4⟩ := h1 b hb
    have e : b ≠ a := fun q => hx (by rw [q])
    refine (h4 b hb hx).of (fun i v hi hf => hf.kept (hfr b e)) (hfr _ (fun q => ?_)) (hfr _ (fun q => ?_))
    · rw [q, ha] at g3; cases g3
    · rw [q, ha] at g4; cases g4
/-- a write to an array of x -/
theorem jDY.arr {dC : Nat → ClassId} {dI : Nat → Nat → Nat} {ca : Nat → ClassId} {G : jT} {sn : Nat → Int32} {H H1 : Heap} {a y k : Nat} (h : jDY dC dI ca G (some a) sn H) (ha : G a = some (14, 0)) (hy : G y = some (k, 40)) (hk : (k = 190 ∧ jf (dC, dI) 14 a 6 (.ref y) H) ∨ (k = 191 ∧ jf (dC, dI) 14 a 7 (.ref y) H)) (hfr : ∀ p, p ≠ y → H1[p]? = H[p]?) : jDY dC dI ca G (some a) sn H1 := by
  obtain ⟨Yb, Ye, h1, h2, h3, h4⟩ := h
  have hn : ∀ b, G b = some (14, 0) → b ≠ y := fun b hb q => by
    rw [q, hy] at hb
    have := (Prod.mk.inj (Option.some.inj hb)).1
    rcases hk with hk | hk <;> omega
  refine ⟨Yb, Ye, fun b hb => ?_, h2, h3, fun b hb hx => ?_⟩
  · obtain ⟨g1, g2, g3, g4⟩ := h1 b hb
    exact ⟨g1.kept (hfr b (hn b hb)), g2.kept (hfr b (hn b hb)), g3, g4⟩
  · obtain ⟨g1, g2, g3, g4⟩ := h1 b hb
    refine (h4 b hb hx).of (fun i v hi hf => hf.kept (hfr b (hn b hb))) (hfr _ (fun q => ?_)) (hfr _ (fun q => ?_))
    · rcases hk with ⟨k1, k2⟩ | ⟨k1, k2⟩
      · have e1 : Yb a = y := by have := jf.uniq (h1 a ha).1 k2; cases this; rfl
        exact hx (by rw [h2 b a hb ha (q.trans e1.symm)])
      · rw [q, hy] at g3
        have := (Prod.mk.inj (Option.some.inj g3)).1
        omega
    · rcases hk with ⟨k1, k2⟩ | ⟨k1, k2⟩
      · rw [q, hy] at g4
        have := (Prod.mk.inj (Option.some.inj g4)).1
        omega
      · have e1 : Ye a = y := by have := jf.uniq (h1 a ha).2.1 k2; cases this; rfl
        exact hx (by rw [h3 b a hb ha (q.trans e1.symm)])
theorem jVl.put {dC : Nat → ClassId} {dI : Nat → Nat → Nat} {G : jT} {ck : Nat → Int32} {H H1 : Heap} {a : Nat} {w : Int32} (h : jVl dC dI G 9 ck H) (hfr : ∀ p, p ≠ a → H1[p]? = H[p]?) (hn : jf (dC, dI) 14 a 9 (.int w) H1) : jVl dC dI G 9 (jUn ck a w) H1 := fun b hb => by
  by_cases e : b = a
  · subst e; rw [jUn_e]; exact hn
  · rw [jUn_n _ _ e]; exact (h b hb).kept (hfr b e)
/-- what is asked of the numbers: the open documents are apart, checked <= sentences, and what a worker holds is an open document's sentence -/
def jPu (sn ck : Nat → Int32) (fd fo : Nat → Option Nat) (fs : Nat → Int32) (dc : Int) (ol nw td : Nat) : Prop := (∀ i, i < 3 → fd i ≠ some ol ∧ fd i ≠ some nw ∧ fd i ≠ some td) ∧ (∀ i j, i < 3 → j < 3 → fd i = fd j → i = j) ∧ (∀ i a, i < 3 → fd i = some a → (ck a).toInt ≤ (sn a).toInt) ∧ ∀ w, w < 2 → fo w = none ∨ ∃ (d a : Nat), (d : Int) < dc ∧ d < 3 ∧ fd d = some a ∧ fo w = some a ∧ (fs w).toInt < (sn a).toInt
abbrev jIL (dC : Nat → ClassId) (dI : Nat → Nat → Nat) (ca : Nat → ClassId) (G : jT) (x : Option Nat) (sn ck : Nat → Int32) (fd fo : Nat → Option Nat) (dd co : Nat) : List jIv := [(jFs, jDY dC dI ca G x sn), (jF9, jVl dC dI G 9 ck), ([(201, 0)], jQc dC dI (ca 4) dd 3 fd), ([(208, 0)], jQc dC dI (ca 4) co 2 fo)]
/-- the documents of the reference, as they stand between two calls -/
def jDV (dC : Nat → ClassId) (dI : Nat → Nat → Nat) (ca : Nat → ClassId) (G : jT) (r dd co cs ol nw td : Nat) (H : Heap) : Prop := ∃ (sn ck fs : Nat → Int32) (fd fo : Nat → Option Nat) (dc : Int32), jP (dC, dI) G H [(r, 16, 41, .ref dd), (r, 16, 42, .int dc), (r, 16, 60, .ref co), (r, 16, 61, .ref cs), (r, 16, 46, .ref ol), (r, 16, 47, .ref nw), (r, 16, 71, .ref td)] ∧ jMc (dC, dI) G H [(cs, 207, 2, ca 1, fs)] ∧ jIs (dC, dI) G H [(jFs, jDY dC dI ca G none sn), (jF9, jVl dC dI G 9 ck), ([(201, 0)], jQc dC dI (ca 4) dd 3 fd), ([(208, 0)], jQc dC dI (ca 4) co 2 fo)] ∧ jPu sn ck fd fo fs dc.toInt ol nw td
def jRp (G : jT) (k n : Nat) (P : Nat → Prop) : Value → Prop := fun v => v = .null ∨ ∃ x : Nat, v = .ref x ∧ G x = some (k, n) ∧ P x
theorem jVl.at {dC : Nat → ClassId} {dI : Nat → Nat → Nat} {G : jT} {ck : Nat → Int32} {H : Heap} {a : Nat} (h : jVl dC dI G 9 ck H) (ha : G a = some (14, 0)) : jP (dC, dI) G H [(a, 14, 9, .int (ck a))] := fun q hq => by
  cases List.mem_singleton.mp hq
  exact ⟨⟨0, ha⟩, h a ha⟩
theorem jStr.back {base a n : Nat} {s t : State} {H1 : Heap} (h : jStr base a n t H1) (hvm : s.vm.Alike t.vm) (hb : base ≤ s.heap.size) (hS : ∀ q : Nat, q < s.heap.size → ¬ jA base q → H1[q]? = s.heap[q]?) : jStr base a n s s.heap :=
  (h.moved hvm.symm).kept (fun q _ hq => (hS q (Nat.lt_of_lt_of_le (Nat.lt_of_not_le hq) hb) hq).symm)
theorem jPu.take {sn ck fs fs' : Nat → Int32} {fd fo fo' : Nat → Option Nat} {dc : Int} {ol nw td : Nat} {w d x : Nat} (h : jPu sn ck fd fo fs dc ol nw td) (h1 : (d : Int) < dc) (h2 : d < 3) (h3 : fd d = some x) (hv : fo' w = some x) (ho : ∀ j, j < 2 → j ≠ w → fo' j = fo j) (hs : (fs' w).toInt < (sn x).toInt) (hso : ∀ j, j < 2 → j ≠ w → fs' j = fs j) : jPu sn ck fd fo' fs' dc ol nw td := by
  obtain ⟨g0, g1, g2, g3⟩ := h
  refine ⟨g0, g1, g2, fun j hj => ?_⟩
  by_cases e : j = w
  · subst e; exact Or.inr ⟨d, x, h1, h2, h3, hv, hs⟩
  · rw [ho j hj e, hso j hj e]; exact g3 j hj
theorem jPu.drop {sn ck fs : Nat → Int32} {fd fo fo' : Nat → Option Nat} {dc : Int} {ol nw td : Nat} {w : Nat} (h : jPu sn ck fd fo fs dc ol nw td) (hv : fo' w = none) (ho : ∀ j, j < 2 → j ≠ w → fo' j = fo j) : jPu sn ck fd fo' fs dc ol nw td := by
  obtain ⟨g0, g1, g2, g3⟩ := h
  refine ⟨g0, g1, g2, fun j hj => ?_⟩
  by_cases e : j = w
  · subst e; exact Or.inl hv
  · rw [ho j hj e]; exact g3 j hj
theorem jPu.chk {sn ck fs : Nat → Int32} {fd fo : Nat → Option Nat} {dc : Int} {ol nw td : Nat} {x : Nat} {v : Int32} (h : jPu sn ck fd fo fs dc ol nw td) (hv : v.toInt ≤ (sn x).toInt) : jPu sn (jUn ck x v) fd fo fs dc ol nw td := by
  obtain ⟨g0, g1, g2, g3⟩ := h
  refine ⟨g0, g1, fun i a hi ha => ?_, g3⟩
  by_cases e : a = x
  · subst e; rw [jUn_e]; exact hv
  · rw [jUn_n _ _ e]; exact g2 i a hi ha
/-- the sentences of a document that is no worker's: x is told, old or now, or a closed one -/
theorem jPu.num {sn ck fs : Nat → Int32} {fd fo : Nat → Option Nat} {dc : Int} {ol nw td : Nat} {x : Nat} {v : Int32} (h : jPu sn ck fd fo fs dc ol nw td) (hx : x = ol ∨ x = nw ∨ x = td) : jPu (jUn sn x v) ck fd fo fs dc ol nw td := by
  obtain ⟨g0, g1, g2, g3⟩ := h
  have hne : ∀ i a, i < 3 → fd i = some a → a ≠ x := fun i a hi ha e => by
    obtain ⟨k1, k2, k3⟩ := g0 i hi
    subst e
    rcases hx with rfl | rfl | rfl
    · exact k1 ha
    · exact k2 ha
    · exact k3 ha
  refine ⟨g0, g1, fun i a hi ha => ?_, fun w hw => ?_⟩
  · rw [jUn_n _ _ (hne i a hi ha)]; exact g2 i a hi ha
  · rcases g3 w hw with k | ⟨d, a, k1, k2, k3, k4, k5⟩
    · exact Or.inl k
    · exact Or.inr ⟨d, a, k1, k2, k3, k4, by rw [jUn_n _ _ (hne d a k2 k3)]; exact k5⟩
section J15
variable {p : Program} {l : Launch} {e : Env} {R : Room} {s : State} {m : MethodId} {args : Array Value} {below : List Frame} {meth : Method} {c : Code} {H : Heap} {locs : List Loc} {cells slots : Nat} {Q : State → Prop}
variable {cc : ByteArray} {pc : Nat} {ls : Array Slot} {rest : List Value} {dC : Nat → ClassId} {dI : Nat → Nat → Nat} {ca : Nat → ClassId} {B : jF} {base : Nat} {G0 G : jT} {E : List (Nat × Nat)} {H0 : Heap} {zc zs : Nat} {L : List jPin} {M : List jCt} {I : List jIv} {a k n i N : Nat} {cA : ClassId} {tys : List (ClassId × FieldType)} {C own : String} {T : u_T} {index : Nat}
theorem jSt.iv (hh : jSt (dC, dI) B base G0 G E H0 zc zs L M I H locs) (j : Nat) {q : jIv} (hj : I[j]? = some q) : q.2 H := (hh.2.2.2.2.2.2.2.2 q (List.mem_of_getElem? hj)).1
theorem jSt.addI (hh : jSt (dC, dI) B base G0 G E H0 zc zs L M I H locs) {q : jIv} (h : q.2 H ∧ ∀ H1 H2 : Heap, jAg (dC, dI) G q.1 H1 H2 → q.2 H1 → q.2 H2) : jSt (dC, dI) B base G0 G E H0 zc zs L M (q :: I) H locs := by
  obtain ⟨h1, h2, h3, h4, h5, h6, h7, h8, h9⟩ := hh
  exact ⟨h1, h2, h3, h4, h5, h6, h7, h8, jIs.cons h h9⟩
theorem jSt.addIs (hh : jSt (dC, dI) B base G0 G E H0 zc zs L M I H locs) {I1 : List jIv} (h : jIs (dC, dI) G H I1) : jSt (dC, dI) B base G0 G E H0 zc zs L M (I1 ++ I) H locs := by
  obtain ⟨h1, h2, h3, h4, h5, h6, h7, h8, h9⟩ := hh
  exact ⟨h1, h2, h3, h4, h5, h6, h7, h8, fun q hq => (List.mem_append.mp hq).elim (h q) (h9 q)⟩
/-- a write to a field, with all that stays -/
theorem j7_putNX (hexec : p.tables.exec = Jvm.exec) (hb : c.code = cc) (hown : s.vm.findClass own = some m.cls) (hK : va_K (dC, dI) vwCl tys s) (hh : jSt (dC, dI) B base G0 G E H0 zc zs L M I H locs) (hB : jBok B) (hAp : jAp (dC, dI)) {F : Nat → jT → List (Value → Prop)} (hBk : ∀ n G a H, B k n G a H ↔ jOb (dC, dI) k N (F n G) a H) (hc : vwCl[k]? = some (C, T, N)) (hk : k < 1000) (ha : G a = some (k, n)) (hi : i < N) (hlay : (u_lay C T i).before args s = true) (hfin : (T i).2.2.2 = false) {host : String} (hlink : (Cond.fieldLinkNest own index (T i).1 (T i).2.1 (T i).2.2.1 host).before args s = true) {P : Value → Prop} (hp : (F n G)[i]? = some P) {ty : FieldType} {v : Value} (hd : parseFieldDescriptor (T i).2.2.1 = some ty) (hnar : narrow ty v = v) (hfit : fits ty v = true) (hv : P v) (hE : E.contains (k, i) = true)
    {L1 : List jPin} (is : List Nat) (hs : is.map (fun i => L[i]?) = L1.map some) (hn : L1.all (fun q => !(q.2.1 == k && q.2.2.1 == i)) = true) (hI : I.all (fun q => !(q.1.contains (k, i))) = true) (hdg : decode cc pc = .ok (.putfield index, 3))
    (kk : ∀ (H1 : Heap) (locs1 : List Loc), (∀ q, q ≠ a → H1[q]? = H[q]?) → (∀ ib w, ib ≠ i → jf (dC, dI) k a ib w H → jf (dC, dI) k a ib w H1) → jSt (dC, dI) B base G0 G E H0 zc zs ((a, k, i, v) :: L1) M I H1 locs1 → W p l e R s m args below meth c H1 locs1 cells slots Q (F0 m (pc + 3) ls rest)) : W p l e R s m args below meth c H locs cells slots Q (F0 m pc ls (v :: .ref a :: rest)) := by
  obtain ⟨V, ⟨cell, q1, q2, q3, q4⟩, hV⟩ := (hBk _ _ _ _).mp (hh.2.1.1 a k n ha hk (fun h => by cases h))
  obtain ⟨hS, hfc, kC, hkC, hkind⟩ := hK.1 k _ hc
  obtain ⟨cf, kf, fi, f, hfi, hsl⟩ := hS i hi
  have hst := (u_facts hfc hkC (j7_lay hlay) hfi).1
  unfold u_lay at hlay
  rw [if_neg (by rw [hfin]; decide)] at hlay
  have h6 := u_store hfc hkC hkind hlay hfi hd hnar hfit
  refine va_WputK hexec hb (f := f) hown hlink hfi hst (by rw [q2]; exact h6) q1 q3 (by rw [hsl]; exact k2_hasslot (q4 i hi)) rfl rfl hdg fun H1 e1 e2 e3 => ?_
  rw [hsl] at e1 ⊢
  refine kk H1 _ e3 (fun ib w hne hf => ?_) (hh.fld hB hAp hBk hc hk ha hi hp hv hE is hs hn hI q1 e1 e2 e3 (jTot_set e2 q1 e1 (jSet_sz _ _ _) e3) (fun q hq => ?_))
  · obtain ⟨r, g1, g2, cell2, g3, g4, g5, g6⟩ := hf
    have hr : r = (C, T, N) := Option.some.inj (g1.symm.trans hc)
    subst hr
    cases q1.symm.trans g3
    have hap : ∀ x y, x < N → y < N → x ≠ y → dI k x ≠ dI k y := fun x y hx hy => hAp k _ hc x y hx hy
    have e4 : (cell.setSlot (dI k i) v).slots[dI k ib]? = some (updV V i v ib) := t_set q4 hap hi v ib g2
    have e5 : updV V i v ib = V ib := by simp [updV, hne]
    rw [e5] at e4
    have e6 : V ib = w := Option.some.inj ((q4 ib g2).symm.trans g6)
    exact ⟨_, hc, g2, _, e1, g4, g5, by rw [← e6]; exact e4⟩
  · rcases List.mem_append.mp hq with h | h
    · exact hh.1.2.2 q h
    · cases List.mem_singleton.mp h; exact (hh.ab ha).1
theorem j7_iastX {P : Nat → Int32 → Prop} (hexec : p.tables.exec = Jvm.exec) (hb : c.code = cc) (hK : va_K (dC, dI) vwCl tys s) (hh : jSt (dC, dI) B base G0 G E H0 zc zs L M I H locs) (hB : jBok B) (hBk : ∀ n G a H, B k n G a H ↔ jAr (dC, dI) cA P n a H) (t0 : Nat) (ht : tys[t0]? = some (cA, .int)) (hk : k < 1000) (hk2 : 17 ≤ k) (hE : E.contains (k, 0) = true) (oj : Nat) {kk1 : Nat} {cB : ClassId} {f : Nat → Int32} (hj : M[oj]? = some (a, kk1, n, cB, f)) {M1 : List jCt} (js : List Nat) (hjs : js.map (fun i => M[i]?) = M1.map some) (hM : M1.all (fun q => !(q.2.1 == k)) = true) (hI : I.all (fun q => !(q.1.contains (k, 0))) = true) (ha : G a = some (k, n)) {i v : Int32} {x : Int} (hi : i.toInt = x) (h12 : 0 ≤ x ∧ x < n) (hv : P x.toNat v) (hdg : decode cc pc = .ok (.iastore, 1))
    (kk : ∀ (H1 : Heap) (locs1 : List Loc) (g : Nat → Int32), g x.toNat = v → (∀ j, j < n → j ≠ x.toNat → g j = f j) → (∀ q, q ≠ a → H1[q]? = H[q]?) → jSt (dC, dI) B base G0 G E H0 zc zs L ((a, k, n, cA, g) :: M1) I H1 locs1 → W p l e R s m args below meth c H1 locs1 cells slots Q (F0 m (pc + 1) ls rest)) : W p l e R s m args below meth c H locs cells slots Q (F0 m pc ls (.int v :: .int i :: .ref a :: rest)) := by
  obtain ⟨h1, h2⟩ := h12
  obtain ⟨f', g1, g2⟩ := hh.ar hBk hk ha
  obtain ⟨-, -, -, q4⟩ := hh.2.2.2.2.2.2.2.1 _ (List.mem_of_getElem? hj)
  have hh1 : jSt (dC, dI) B base G0 G E H0 zc zs L M1 I H locs := by
    obtain ⟨e1, e2, e3, e4, e5, e6, e7, e8, e9⟩ := hh
    exact ⟨e1, e2, e3, e4, e5, e6, e7, e8.sub js hjs, e9⟩
  refine j_iast (A := jA base) hexec hb hK t0 g1 (hh.ab ha).1 hh.1.2.2 ht (jb_in hi h1 h2) hdg (fun H1 locs1 hat hsz hfr hT hL => ?_)
  have h9 := hh1.arr hB ha hk hk2 hE hM hI hsz hfr hT hL ((hBk _ _ _ _).mpr ⟨_, hat, jAr_upd g2 hi h1 hv⟩)
  refine kk H1 locs1 (upd f' i.toNatClampNeg v) (by rw [← jb_cl hi h1]; simp [upd]) (fun j hj' hne => ?_) hfr ?_
  · have : j ≠ i.toNatClampNeg := by rw [jb_cl hi h1]; exact hne
    simp only [upd, if_neg this]
    exact (jCt_eq q4 g1 hj').symm
  · obtain ⟨e1, e2, e3, e4, e5, e6, e7, e8, e9⟩ := h9
    refine ⟨e1, e2, e3, e4, e5, e6, e7, fun q hq => ?_, e9⟩
    rcases List.mem_cons.mp hq with e | e
    · subst e; exact ⟨ha, hk2, hk, hat⟩
    · exact e8 q e
theorem jQc_eq {D : va_G} {a n j : Nat} {cA cB : ClassId} {f g : Nat → Option Nat} {H : Heap} (h1 : va_at D vwCl (a, .inl (cA, n, .inr (.inr (.inr (.inr f))))) H) (h2 : va_at D vwCl (a, .inl (cB, n, .inr (.inr (.inr (.inr g))))) H) (hj : j < n) : f j = g j := by
  have e1 : H[a]? = some (vp_cell cA (n, .inr (.inr (.inr (.inr f))))) := h1
  have e2 : H[a]? = some (vp_cell cB (n, .inr (.inr (.inr (.inr g))))) := h2
  have e := Option.some.inj (e1.symm.trans e2)
  have r1 : (vp_cell cA (n, .inr (.inr (.inr (.inr f))))).slots[j]? = some (va_rf (f j)) := by rw [vp_cell_q, arrV_read _ _ hj]
  have r2 : (vp_cell cB (n, .inr (.inr (.inr (.inr g))))).slots[j]? = some (va_rf (g j)) := by rw [vp_cell_q, arrV_read _ _ hj]
  rw [e, r2] at r1
  have r3 := Option.some.inj r1
  cases hf : f j <;> cases hg : g j <;> rw [hf, hg] at r3 <;> simp [va_rf] at r3 ⊢
  exact r3.symm
/-- reads and writes of a reference array whose contents are known -/
theorem j7_qaldI {P : jT → Option Nat → Prop} (hexec : p.tables.exec = Jvm.exec) (hb : c.code = cc) (hK : va_K (dC, dI) vwCl tys s) (hh : jSt (dC, dI) B base G0 G E H0 zc zs L M I H locs) (hBk : ∀ n G a H, B k n G a H ↔ jAq (dC, dI) cA P n G a H) (t0 : Nat) (ht : tys[t0]? = some (cA, .object C)) (hk : k < 1000) (ha : G a = some (k, n)) {i : Int32} {x : Int} (hi : i.toInt = x) (h12 : 0 ≤ x ∧ x < n) {f : Nat → Option Nat} {cB : ClassId} (hq : jQc dC dI cB a n f H) (hdg : decode cc pc = .ok (.aaload, 1))
    (kk : ∀ o : Option Nat, P G o → o = f x.toNat → W p l e R s m args below meth c H locs cells slots Q (F0 m (pc + 1) ls (va_rf o :: rest))) : W p l e R s m args below meth c H locs cells slots Q (F0 m pc ls (.int i :: .ref a :: rest)) := by
  obtain ⟨h1, h2⟩ := h12
  obtain ⟨f', g1, g2⟩ := hh.aq hBk hk ha
  have hlt := jb_cl_lt hi h1 h2
  exact va_aldq hexec hb hK (jp_one g1) 0 t0 rfl ht (jb_in hi h1 h2) hdg (kk _ (g2 _ hlt) (by rw [← jb_cl hi h1]; exact jQc_eq g1 hq hlt))
theorem j7_qastI {P : jT → Option Nat → Prop} (hexec : p.tables.exec = Jvm.exec) (hb : c.code = cc) (hK : va_K (dC, dI) vwCl tys s) (hh : jSt (dC, dI) B base G0 G E H0 zc zs L M I H locs) (hB : jBok B) (hBk : ∀ n G a H, B k n G a H ↔ jAq (dC, dI) cA P n G a H) (t0 : Nat) (ht : tys[t0]? = some (cA, .object C)) (hk : k < 1000) (hk2 : 17 ≤ k) (hE : E.contains (k, 0) = true) (hM : M.all (fun q => !(q.2.1 == k)) = true) (hI : I.all (fun q => !(q.1.contains (k, 0))) = true) (ha : G a = some (k, n)) {i : Int32} {x : Int} (hi : i.toInt = x) (h12 : 0 ≤ x ∧ x < n)
    {v kv nv N : Nat} {T : u_T} {F : Nat → jT → List (Value → Prop)} (hBv : ∀ n G a H, B kv n G a H ↔ jOb (dC, dI) kv N (F n G) a H) (hc : vwCl[kv]? = some (C, T, N)) (hkv : kv < 1000) (hv : G v = some (kv, nv)) (hP : P G (some v)) {f0 : Nat → Option Nat} {cB : ClassId} (hq0 : jQc dC dI cB a n f0 H) (hdg : decode cc pc = .ok (.aastore, 1))
    (kk : ∀ (H1 : Heap) (locs1 : List Loc) (g : Nat → Option Nat), g x.toNat = (some v) → (∀ j, j < n → j ≠ x.toNat → g j = f0 j) → jQc dC dI cA a n g H1 → jSt (dC, dI) B base G0 G E H0 zc zs L M I H1 locs1 → W p l e R s m args below meth c H1 locs1 cells slots Q (F0 m (pc + 1) ls rest)) : W p l e R s m args below meth c H locs cells slots Q (F0 m pc ls (.ref v :: .int i :: .ref a :: rest)) := by
  obtain ⟨h1, h2⟩ := h12
  obtain ⟨f, g1, g2⟩ := hh.aq hBk hk ha
  obtain ⟨V, ⟨cellV, q1, q2, q3, q4⟩, hV⟩ := (hBv _ _ _ _).mp (hh.2.1.1 v kv nv hv hkv (fun h => by cases h))
  have hlt := jb_cl_lt hi h1 h2
  have hcls := (hK.1 kv _ hc).2
  obtain ⟨kA, comp, k1, k2, k3, -⟩ := (hK.2 t0 _ ht).2
  have hcomp : comp = dC kv := Option.some.inj (k3.symm.trans hcls.1)
  subst hcomp
  obtain ⟨kC, hkC, -⟩ := hcls.2
  refine W.aast hexec hb g1 (fun q h => by cases h) (fun h => by cases h) k1 k2 rfl hkC ⟨jb_n0 hi h1, by show _ < (arrV _ _ _).slots.size; rw [arrV_size]; exact hlt⟩ q1 (fun q h => by rw [q3] at h; cases h) (by rw [q2]; exact hkC) (by rw [q2]; exact va_assign hcls) rfl rfl hdg fun H1 e1 z oq => ?_
  have hat : jQc dC dI cA a n (va_up f i.toNatClampNeg (some v)) H1 := by
    show H1[a]? = some (vp_cell _ _)
    rw [e1]
    rw [vp_cell_q, vp_cell_q, arrV_store]
    congr 2
    funext q
    by_cases hq : q = i.toNatClampNeg
    · subst hq
      simp [updV, va_up, va_rf]
    · simp [updV, va_up, hq]
  refine kk H1 _ (va_up f i.toNatClampNeg (some v)) (by rw [← jb_cl hi h1]; simp [va_up]) (fun j hj hne => ?_) hat (hh.arr hB ha hk hk2 hE hM hI z oq (jTot_set z g1 e1 (jSet_sz _ _ _) oq) (fun q hq => ?_) ((hBk _ _ _ _).mpr ⟨_, hat, jAq_up g2 hP⟩))
  · rw [va_up_ne _ _ (by rw [jb_cl hi h1]; exact hne)]; exact jQc_eq g1 hq0 hj
  · rcases List.mem_append.mp hq with h | h
    · exact hh.1.2.2 q h
    · cases List.mem_singleton.mp h; exact (hh.ab ha).1
theorem j7_qastNI {P : jT → Option Nat → Prop} (hexec : p.tables.exec = Jvm.exec) (hb : c.code = cc) (hK : va_K (dC, dI) vwCl tys s) (hh : jSt (dC, dI) B base G0 G E H0 zc zs L M I H locs) (hB : jBok B) (hBk : ∀ n G a H, B k n G a H ↔ jAq (dC, dI) cA P n G a H) (t0 : Nat) (ht : tys[t0]? = some (cA, .object C)) (hk : k < 1000) (hk2 : 17 ≤ k) (hE : E.contains (k, 0) = true) (hM : M.all (fun q => !(q.2.1 == k)) = true) (hI : I.all (fun q => !(q.1.contains (k, 0))) = true) (ha : G a = some (k, n)) {i : Int32} {x : Int} (hi : i.toInt = x) (h12 : 0 ≤ x ∧ x < n) (hP : P G none) {f0 : Nat → Option Nat} {cB : ClassId} (hq0 : jQc dC dI cB a n f0 H) (hdg : decode cc pc = .ok (.aastore, 1))
    (kk : ∀ (H1 : Heap) (locs1 : List Loc) (g : Nat → Option Nat), g x.toNat = none → (∀ j, j < n → j ≠ x.toNat → g j = f0 j) → jQc dC dI cA a n g H1 → jSt (dC, dI) B base G0 G E H0 zc zs L M I H1 locs1 → W p l e R s m args below meth c H1 locs1 cells slots Q (F0 m (pc + 1) ls rest)) : W p l e R s m args below meth c H locs cells slots Q (F0 m pc ls (.null :: .int i :: .ref a :: rest)) := by
  obtain ⟨h1, h2⟩ := h12
  obtain ⟨f, g1, g2⟩ := hh.aq hBk hk ha
  refine va_WaastN (C := C) hexec hb g1 ((hK.2 t0 _ ht).1 n (fun j => va_rf (f j))) (fun h => by cases h) (by show ¬ (i < 0 ∨ (arrV _ _ _).slots.size ≤ _); rw [arrV_size]; exact jb_in hi h1 h2) rfl rfl hdg fun H1 e1 z oq => ?_
  have hat : jQc dC dI cA a n (va_up f i.toNatClampNeg none) H1 := by
    show H1[a]? = some (vp_cell _ _)
    rw [e1]
    rw [vp_cell_q, vp_cell_q, arrV_store]
    congr 2
    funext q
    by_cases hq : q = i.toNatClampNeg
    · subst hq
      simp [updV, va_up, va_rf]
    · simp [updV, va_up, hq]
  refine kk H1 _ (va_up f i.toNatClampNeg none) (by rw [← jb_cl hi h1]; simp [va_up]) (fun j hj hne => ?_) hat (hh.arr hB ha hk hk2 hE hM hI z oq (jTot_set z g1 e1 (jSet_sz _ _ _) oq) (fun q hq => ?_) ((hBk _ _ _ _).mpr ⟨_, hat, jAq_up g2 hP⟩))
  · rw [va_up_ne _ _ (by rw [jb_cl hi h1]; exact hne)]; exact jQc_eq g1 hq0 hj
  · rcases List.mem_append.mp hq with h | h
    · exact hh.1.2.2 q h
    · cases List.mem_singleton.mp h; exact (hh.ab ha).1
end J15
