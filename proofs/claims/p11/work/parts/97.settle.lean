-- the workers of a document that has changed; a document that is opened; closed
def jPv (sn ck : Nat → Int32) (fd fo : Nat → Option Nat) (fs : Nat → Int32) (dc : Int) (ol nw td : Nat) (x : Nat) (st k : Int) : Prop := (∀ i, i < 3 → fd i ≠ some ol ∧ fd i ≠ some nw ∧ fd i ≠ some td) ∧ (∀ i j, i < 3 → j < 3 → fd i = fd j → i = j) ∧ (∀ i a, i < 3 → fd i = some a → (ck a).toInt ≤ (sn a).toInt) ∧ (st ≤ (sn x).toInt ∧ (ck x).toInt ≤ st) ∧ ∀ w, w < 2 → fo w = none ∨ ∃ (d a : Nat), (d : Int) < dc ∧ d < 3 ∧ fd d = some a ∧ fo w = some a ∧ ((fs w).toInt < (sn a).toInt ∨ (a = x ∧ k ≤ (w : Int)))
theorem jPu.set {sn ck ck' fs : Nat → Int32} {fd fo : Nat → Option Nat} {dc st : Int} {ol nw td x : Nat} {v : Int32} (h : jPu sn ck fd fo fs dc ol nw td) (hst : st ≤ v.toInt) (hck : (ck' x).toInt ≤ st) (ho : ∀ a, a ≠ x → ck' a = ck a) : jPv (jUn sn x v) ck' fd fo fs dc ol nw td x st 0 := by
  obtain ⟨g0, g1, g2, g3⟩ := h
  refine ⟨g0, g1, fun i a hi ha => ?_, ⟨by rw [jUn_e]; exact hst, hck⟩, fun w hw => ?_⟩
  · by_cases e : a = x
    · subst e; rw [jUn_e]; omega
    · rw [jUn_n _ _ e, ho a e]; exact g2 i a hi ha
  · rcases g3 w hw with k | ⟨d, a, k1, k2, k3, k4, k5⟩
    · exact Or.inl k
    · refine Or.inr ⟨d, a, k1, k2, k3, k4, ?_⟩
      by_cases e : a = x
      · exact Or.inr ⟨e, by omega⟩
      · rw [jUn_n _ _ e]; exact Or.inl k5
theorem jPv.null {sn ck fs : Nat → Int32} {fd fo fo' : Nat → Option Nat} {dc st k k1 : Int} {ol nw td x w : Nat} (h : jPv sn ck fd fo fs dc ol nw td x st k) (hv : fo' w = none) (ho : ∀ j, j < 2 → j ≠ w → fo' j = fo j) (hw : (w : Int) = k) (hk : k1 = k + 1) : jPv sn ck fd fo' fs dc ol nw td x st k1 := by
  obtain ⟨g0, g1, g2, g4, g3⟩ := h
  refine ⟨g0, g1, g2, g4, fun j hj => ?_⟩
  by_cases e : j = w
  · subst e; exact Or.inl hv
  · rw [ho j hj e]
    rcases g3 j hj with q | ⟨d, a, k1, k2, k3, k4, k5⟩
    · exact Or.inl q
    · exact Or.inr ⟨d, a, k1, k2, k3, k4, k5.imp id (fun q => ⟨q.1, by have := q.2; omega⟩)⟩
theorem jPv.keep {sn ck fs : Nat → Int32} {fd fo : Nat → Option Nat} {dc st k k1 : Int} {ol nw td x w : Nat} (h : jPv sn ck fd fo fs dc ol nw td x st k) (hc : fo w ≠ some x ∨ (fs w).toInt < st) (hw : (w : Int) = k) (hk : k1 = k + 1) : jPv sn ck fd fo fs dc ol nw td x st k1 := by
  obtain ⟨g0, g1, g2, g4, g3⟩ := h
  refine ⟨g0, g1, g2, g4, fun j hj => ?_⟩
  rcases g3 j hj with q | ⟨d, a, k1, k2, k3, k4, k5⟩
  · exact Or.inl q
  · refine Or.inr ⟨d, a, k1, k2, k3, k4, ?_⟩
    rcases k5 with k5 | ⟨k5, k6⟩
    · exact Or.inl k5
    · by_cases e : j = w
      · subst e
        rcases hc with hc | hc
        · exact absurd (by rw [k4, k5]) hc
        · subst k5; exact Or.inl (by have := g4.1; omega)
      · exact Or.inr ⟨k5, by omega⟩
theorem jPv.done {sn ck fs : Nat → Int32} {fd fo : Nat → Option Nat} {dc st k : Int} {ol nw td x : Nat} (h : jPv sn ck fd fo fs dc ol nw td x st k) (hk : 2 ≤ k) : jPu sn ck fd fo fs dc ol nw td := by
  obtain ⟨g0, g1, g2, g4, g3⟩ := h
  refine ⟨g0, g1, g2, fun j hj => ?_⟩
  rcases g3 j hj with q | ⟨d, a, k1, k2, k3, k4, k5⟩
  · exact Or.inl q
  · exact Or.inr ⟨d, a, k1, k2, k3, k4, k5.elim id (fun q => by have := q.2; omega)⟩
theorem jPu.opn {sn ck fs : Nat → Int32} {fd fo : Nat → Option Nat} {dc dc1 : Int} {ol nw td x d0 : Nat} {v w0 : Int32} (h : jPu sn ck fd fo fs dc ol nw td) (hd : fd d0 = some x) (h3 : d0 < 3) (hdc : (d0 : Int) = dc) (h1 : dc1 = dc + 1) (hw : w0.toInt ≤ v.toInt) : jPu (jUn sn x v) (jUn ck x w0) fd fo fs dc1 ol nw td := by
  obtain ⟨g0, g1, g2, g3⟩ := h
  refine ⟨g0, g1, fun i a hi ha => ?_, fun w hw => ?_⟩
  · by_cases e : a = x
    · subst e; rw [jUn_e, jUn_e]; exact hw
    · rw [jUn_n _ _ e, jUn_n _ _ e]; exact g2 i a hi ha
  · rcases g3 w hw with k | ⟨d, a, k1, k2, k3, k4, k5⟩
    · exact Or.inl k
    · refine Or.inr ⟨d, a, by omega, k2, k3, k4, ?_⟩
      have e : a ≠ x := fun q => by
        subst q
        have := g1 d d0 k2 h3 (k3.trans hd.symm)
        omega
      rw [jUn_n _ _ e]; exact k5
abbrev jFt : List (Nat × Nat) := [(122, 0), (123, 0)]
def jFT (dC : Nat → ClassId) (dI : Nat → Nat → Nat) (ca : Nat → ClassId) (G : jT) (xb xe : Nat) (H : Heap) : Prop := ∃ fb fe : Nat → Int32, jMc (dC, dI) G H [(xb, 122, 3100, ca 1, fb), (xe, 123, 3100, ca 1, fe)] ∧ jLeA fb fe
theorem jFT.ie {dC : Nat → ClassId} {dI : Nat → Nat → Nat} {ca : Nat → ClassId} {G : jT} {xb xe : Nat} {H : Heap} (h : jFT dC dI ca G xb xe H) (hb : G xb = some (122, 3100)) (he : G xe = some (123, 3100)) : ((jFt, jFT dC dI ca G xb xe) : jIv).2 H ∧ ∀ H1 H2 : Heap, jAg (dC, dI) G ((jFt, jFT dC dI ca G xb xe) : jIv).1 H1 H2 → ((jFt, jFT dC dI ca G xb xe) : jIv).2 H1 → ((jFt, jFT dC dI ca G xb xe) : jIv).2 H2 := by
  refine ⟨h, fun H1 H2 hA hq => ?_⟩
  obtain ⟨fb, fe, h1, h2⟩ := hq
  refine ⟨fb, fe, fun q hq => ?_, h2⟩
  obtain ⟨q1, q2, q3, q4⟩ := h1 q hq
  refine ⟨q1, q2, q3, q4.kept ?_⟩
  simp only [List.mem_cons, List.not_mem_nil, or_false] at hq
  rcases hq with rfl | rfl
  · exact hA.2 _ _ _ q1 q2 q3 rfl
  · exact hA.2 _ _ _ q1 q2 q3 rfl
theorem jLeA.upd {f g f1 g1 : Nat → Int32} {n a b : Int} (h : jLeA f g) (hv : jSo f1 n = a) (ho : ∀ j, j < 3100 → j ≠ n.toNat → f1 j = f j) (gv : jSo g1 n = b) (go : ∀ j, j < 3100 → j ≠ n.toNat → g1 j = g j) (h0 : 0 ≤ n) (hab : a ≤ b) : jLeA f1 g1 := fun i q0 q1 => by
  by_cases q : i = n
  · rw [q, hv, gv]; exact hab
  · have := h i q0 q1
    unfold jSo at this ⊢
    rw [ho i.toNat (by omega) (by omega), go i.toNat (by omega) (by omega)]
    exact this
section J16
variable {p : Program} {l : Launch} {e : Env} {R : Room} {s : State} {m : MethodId} {args : Array Value} {below : List Frame} {meth : Method} {c : Code} {H : Heap} {locs : List Loc} {cells slots : Nat} {Q : State → Prop}
variable {cc : ByteArray} {pc : Nat} {ls : Array Slot} {rest : List Value} {dC : Nat → ClassId} {dI : Nat → Nat → Nat} {ca : Nat → ClassId} {B : jF} {base : Nat} {G0 G : jT} {E : List (Nat × Nat)} {H0 : Heap} {zc zs : Nat} {L : List jPin} {M : List jCt} {I : List jIv} {a k n : Nat} {cA : ClassId} {tys : List (ClassId × FieldType)}
/-- a store into an array: contents of arrays of other kinds, or of other lengths, stay -/
theorem j7_iastL {P : Nat → Int32 → Prop} (hexec : p.tables.exec = Jvm.exec) (hb : c.code = cc) (hK : va_K (dC, dI) vwCl tys s) (hh : jSt (dC, dI) B base G0 G E H0 zc zs L M I H locs) (hB : jBok B) (hBk : ∀ n G a H, B k n G a H ↔ jAr (dC, dI) cA P n a H) (t0 : Nat) (ht : tys[t0]? = some (cA, .int)) (hk : k < 1000) (hk2 : 17 ≤ k) (hE : E.contains (k, 0) = true) (hM : M.all (fun q => !(q.2.1 == k && q.2.2.1 == n)) = true) (hI : I.all (fun q => !(q.1.contains (k, 0))) = true) (ha : G a = some (k, n)) {i v : Int32} {x : Int} (hi : i.toInt = x) (h12 : 0 ≤ x ∧ x < n) (hv : P x.toNat v) (hdg : decode cc pc = .ok (.iastore, 1))
    (kk : ∀ (H1 : Heap) (locs1 : List Loc) (g : Nat → Int32), g x.toNat = v → (∀ f : Nat → Int32, va_at (dC, dI) vwCl (a, .inl (cA, n, .inl f)) H → ∀ j, j < n → j ≠ x.toNat → g j = f j) → jSt (dC, dI) B base G0 G E H0 zc zs L ((a, k, n, cA, g) :: M) I H1 locs1 → W p l e R s m args below meth c H1 locs1 cells slots Q (F0 m (pc + 1) ls rest)) : W p l e R s m args below meth c H locs cells slots Q (F0 m pc ls (.int v :: .int i :: .ref a :: rest)) := by
  obtain ⟨h1, h2⟩ := h12
  obtain ⟨f', g1, g2⟩ := hh.ar hBk hk ha
  refine j_iast (A := jA base) hexec hb hK t0 g1 (hh.ab ha).1 hh.1.2.2 ht (jb_in hi h1 h2) hdg (fun H1 locs1 hat hsz hfr hT hL => ?_)
  have hh1 : jSt (dC, dI) B base G0 G E H0 zc zs L [] I H locs := by
    obtain ⟨e1, e2, e3, e4, e5, e6, e7, e8, e9⟩ := hh
    exact ⟨e1, e2, e3, e4, e5, e6, e7, jMc.nil, e9⟩
  have h9 := hh1.arr hB ha hk hk2 hE rfl hI hsz hfr hT hL ((hBk _ _ _ _).mpr ⟨_, hat, jAr_upd g2 hi h1 hv⟩)
  refine kk H1 locs1 (upd f' i.toNatClampNeg v) (by rw [← jb_cl hi h1]; simp [upd]) (fun f q4 j hj' hne => ?_) ?_
  · have : j ≠ i.toNatClampNeg := by rw [jb_cl hi h1]; exact hne
    simp only [upd, if_neg this]
    exact (jCt_eq q4 g1 hj').symm
  · obtain ⟨e1, e2, e3, e4, e5, e6, e7, e8, e9⟩ := h9
    refine ⟨e1, e2, e3, e4, e5, e6, e7, fun q hq => ?_, e9⟩
    rcases List.mem_cons.mp hq with e | e
    · subst e; exact ⟨ha, hk2, hk, hat⟩
    · obtain ⟨q1, q2, q3, q4⟩ := hh.2.2.2.2.2.2.2.1 q e
      refine ⟨q1, q2, q3, q4.kept (hfr _ (fun w => ?_))⟩
      have hm9 := List.all_eq_true.mp hM q e
      rw [w, ha] at q1
      have e2 := Prod.mk.inj (Option.some.inj q1)
      rw [← e2.1, ← e2.2] at hm9
      simp at hm9
end J16
