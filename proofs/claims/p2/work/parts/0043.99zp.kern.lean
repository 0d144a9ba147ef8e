section
-- what the kernel's walks need: raw arrays of ints, arrays whose last element is null, states, new goals
def jK6 (U : State) : Prop := va_AO "ProofServerModel$Document" U ∧ va_AO "ProofServer$Document" U ∧ va_AO "ProofServer$State" U ∧ va_AO "ProofServer$Goal" U
theorem jK6.moved {u U : State} (hvm : u.vm.Alike U.vm) (h : jK6 u) : jK6 U := ⟨va_AO.moved hvm h.1, va_AO.moved hvm h.2.1, va_AO.moved hvm h.2.2.1, va_AO.moved hvm h.2.2.2⟩
def jAqZ (D : va_G) (cA : ClassId) (n a : Nat) (H : Heap) : Prop := ∃ f : Nat → Option Nat, va_at D vwCl (a, .inl (cA, n, .inr (.inr (.inr (.inr f))))) H ∧ (0 < n → f (n - 1) = none)
section J30
variable {p : Program} {l : Launch} {e : Env} {R : Room} {s : State} {m : MethodId} {args : Array Value} {below : List Frame} {meth : Method} {c : Code} {H : Heap} {locs : List Loc} {cells slots : Nat} {Q : State → Prop}
variable {cc : ByteArray} {pc : Nat} {ls : Array Slot} {rest : List Value} {dC : Nat → ClassId} {dI : Nat → Nat → Nat} {ca : Nat → ClassId} {B : jF} {base : Nat} {G0 G : jT} {E : List (Nat × Nat)} {H0 : Heap} {zc zs : Nat} {L : List jPin} {M : List jCt} {I : List jIv} {a a0 k k0 n n0 index : Nat} {tys : List (ClassId × FieldType)} {own C : String} {cA : ClassId}
theorem jAr.of {P : Nat → Int32 → Prop} {f : Nat → Int32} (hBk : ∀ n G a H, B k n G a H ↔ jAr (dC, dI) cA P n a H) (h : va_at (dC, dI) vwCl (a, .inl (cA, n, .inl f)) H) (hP : ∀ j, j < n → P j (f j)) : B k n G a H := (hBk _ _ _ _).mpr ⟨f, h, hP⟩
theorem jAqZ.of {f : Nat → Option Nat} (hBk : ∀ n G a H, B k n G a H ↔ jAqZ (dC, dI) cA n a H) (h : va_at (dC, dI) vwCl (a, .inl (cA, n, .inr (.inr (.inr (.inr f))))) H) (hP : 0 < n → f (n - 1) = none) : B k n G a H := (hBk _ _ _ _).mpr ⟨f, h, hP⟩
end J30
def jFp (f : Nat → Int32) : Prop := ∀ j, -1 ≤ (f j).toInt
theorem jFp.put {f : Nat → Int32} {i : Nat} {v : Int32} (h : jFp f) (hv : -1 ≤ v.toInt) : jFp (upd f i v) := fun j => by
  unfold upd
  split
  · exact hv
  · exact h j
/-- the terms that are told lie in the source -/
def jTt (f g : Nat → Int32) (n : Nat) : Prop := ∀ l : Int, 0 ≤ l → l < 13 → 0 < jSo g l → jSo f l + jSo g l ≤ n
def jTbk (f g : Nat → Int32) (n : Nat) (b : Int) : Prop := ∀ l : Int, 0 ≤ l → l < b → jSo f l + jSo g l ≤ n
def jTa (g : Nat → Int32) (b : Int) : Prop := ∀ l : Int, 0 ≤ l → l < b → 0 < jSo g l
theorem jTt.tb {f g : Nat → Int32} {n : Nat} {b : Int} (h : jTt f g n) (hb : b ≤ 13) (ha : jTa g b) : jTbk f g n b := fun l h0 h1 => h l h0 (by omega) (ha l h0 h1)
theorem jTt.put {f g f1 g1 : Nat → Int32} {n : Nat} {x u w : Int} (h : jTt f g n) (hx : 0 ≤ x) (hx2 : x < 13) (hv : jSo f1 x = u) (ho : ∀ j, j < 13 → j ≠ x.toNat → f1 j = f j) (hv2 : jSo g1 x = w) (ho2 : ∀ j, j < 13 → j ≠ x.toNat → g1 j = g j) (hs : u + w ≤ n) : jTt f1 g1 n := fun l h0 h1 h2 => by
  by_cases e : l = x
  · subst e; rw [hv, hv2]; exact hs
  · have e1 : jSo f1 l = jSo f l := by unfold jSo; rw [ho l.toNat (by omega) (by omega)]
    have e2 : jSo g1 l = jSo g l := by unfold jSo; rw [ho2 l.toNat (by omega) (by omega)]
    rw [e2] at h2
    rw [e1, e2]
    exact h l h0 h1 h2
theorem jTbk.one {f g : Nat → Int32} {n : Nat} {u w : Int} (hv : jSo f 0 = u) (hw : jSo g 0 = w) (h : u + w ≤ n) : jTbk f g n 1 := fun l h0 h1 => by
  obtain rfl : l = 0 := by omega
  rw [hv, hw]; exact h
theorem jTa.cg {g : Nat → Int32} {b b1 : Int} (h : jTa g b) (hb : b1 ≤ b) : jTa g b1 := fun l h0 h1 => h l h0 (by omega)
def jZe (g : Nat → Int32) (n : Int) : Prop := ∀ l : Int, 0 ≤ l → l < n → jSo g l = 0
theorem jZe.step {g g1 : Nat → Int32} {i i1 : Int} {n : Nat} (h : jZe g i) (hi : i1 = i + 1) (h0 : 0 ≤ i) (hn : i < n) (hv : jSo g1 i = 0) (ho : ∀ j, j < n → j ≠ i.toNat → g1 j = g j) : jZe g1 i1 := fun l a b => by
  by_cases e : l = i
  · subst e; exact hv
  · have e1 : jSo g1 l = jSo g l := by unfold jSo; rw [ho l.toNat (by omega) (by omega)]
    rw [e1]; exact h l a (by omega)
/-- what matches tells, for the number of bound names of a rule -/
def jTf (ff : Nat → Int32) (n1 : Nat) (f g : Nat → Int32) (n : Nat) : Prop := ∀ b : Int, 0 ≤ b → b ≤ 12 → b ≤ n1 → jLd ff n1 b → jTbk f g n b
theorem jTf.of {ff : Nat → Int32} {n1 : Nat} {f g : Nat → Int32} {n : Nat} {b : Int} (h : jTt f g n) (ha : jTa g b) (hb0 : 0 ≤ b) (hb : b ≤ 12) (hb1 : b ≤ n1) (hl : jLd ff n1 b) : jTf ff n1 f g n := fun b' q0 q1 q2 q3 => by
  rw [jLd.uniq q3 hl q0 q2 q1 hb0 hb1 hb]
  exact h.tb (by omega) ha
theorem jTa.step {g : Nat → Int32} {b b1 : Int} (h : jTa g b) (hb : b1 = b + 1) (hv : 0 < jSo g b) : jTa g b1 := fun l h0 h1 => by
  by_cases e : l = b
  · subst e; exact hv
  · exact h l h0 (by omega)
def jNn0 (g : Nat → Int32) (n : Nat) : Prop := ∀ l : Int, 0 ≤ l → l < n → 0 ≤ jSo g l
def jNn1 (g : Nat → Int32) (n : Nat) : Prop := ∀ l : Int, 0 ≤ l → l < n → -1 ≤ jSo g l
def jW (f g : Nat → Int32) (b i : Int) : Int := if jSo f i % 16 = 10 ∧ jSo f i / 32768 < b then jSo g (jSo f i / 32768) else 1
def jPs (f g : Nat → Int32) (b i0 : Int) : Nat → Int
  | 0 => 0
  | k + 1 => jPs f g b i0 k + jW f g b (i0 + k)
def jPqk (f g : Nat → Int32) (b i0 i s : Int) : Prop := i0 ≤ i ∧ s = jPs f g b i0 (i - i0).toNat
theorem jPqk.step {f g : Nat → Int32} {b i0 i s i1 s1 : Int} (h : jPqk f g b i0 i s) (hi : i1 = i + 1) (hs : s1 = s + jW f g b i) : jPqk f g b i0 i1 s1 := by
  obtain ⟨h0, h2⟩ := h
  refine ⟨by omega, ?_⟩
  have e : (i1 - i0).toNat = (i - i0).toNat + 1 := by omega
  rw [e, hs, h2]
  show _ = jPs f g b i0 _ + jW f g b (i0 + ((i - i0).toNat : Nat))
  rw [show i0 + ((i - i0).toNat : Int) = i by omega]
theorem jPqk.one {f g : Nat → Int32} {b i0 i s i1 s1 : Int} (h : jPqk f g b i0 i s) (hi : i1 = i + 1) (h1 : jSo f i % 16 ≠ 10 ∨ b ≤ jSo f i / 32768) (hs : s1 = s + 1) : jPqk f g b i0 i1 s1 := h.step hi (by rw [hs]; unfold jW; rw [if_neg (by omega)])
theorem jPs.mono {f g : Nat → Int32} {b i0 e : Int} (hn : ∀ j, i0 ≤ j → j < e → 0 ≤ jW f g b j) (k : Nat) : ∀ m : Nat, k ≤ m → i0 + m ≤ e → jPs f g b i0 k ≤ jPs f g b i0 m
  | 0, h, _ => by rw [show k = 0 by omega]; exact Int.le_refl _
  | m + 1, h, h2 => by
    by_cases q : k = m + 1
    · rw [q]; exact Int.le_refl _
    · have h3 := jPs.mono hn k m (by omega) (by omega)
      have h4 := hn (i0 + m) (by omega) (by omega)
      show _ ≤ jPs f g b i0 m + jW f g b (i0 + m)
      omega
theorem jNn0.of {g : Nat → Int32} {n : Nat} (h : ∀ i, i < n → 0 ≤ (g i).toInt ∧ (g i).toInt ≤ 3000) : jNn0 g n := fun l h0 h1 => (h l.toNat (by omega)).1
theorem jNn1.of {g : Nat → Int32} {n : Nat} (h : ∀ i, i < n → -1 ≤ (g i).toInt) : jNn1 g n := fun l h0 h1 => h l.toNat (by omega)
-- all states have as many facts as names of facts
abbrev jFs11 : List (Nat × Nat) := [(11, 4), (11, 5)]
def jSef (dC : Nat → ClassId) (dI : Nat → Nat → Nat) (G : jT) (H : Heap) : Prop := ∀ a, G a = some (11, 0) → ∃ x y m : Nat, jf (dC, dI) 11 a 4 (.ref x) H ∧ jf (dC, dI) 11 a 5 (.ref y) H ∧ G x = some (101, m) ∧ G y = some (313, m) ∧ m ≤ 16
theorem jSef.ie {dC : Nat → ClassId} {dI : Nat → Nat → Nat} {G : jT} {H : Heap} (h : jSef dC dI G H) : ((jFs11, jSef dC dI G) : jIv).2 H ∧ ∀ H1 H2 : Heap, jAg (dC, dI) G ((jFs11, jSef dC dI G) : jIv).1 H1 H2 → ((jFs11, jSef dC dI G) : jIv).2 H1 → ((jFs11, jSef dC dI G) : jIv).2 H2 :=
  ⟨h, fun H1 H2 hA h1 a ha => by
    obtain ⟨x, y, m, g1, g2, g3⟩ := h1 a ha
    exact ⟨x, y, m, hA.1 a 11 0 4 _ ha rfl g1, hA.1 a 11 0 5 _ ha rfl g2, g3⟩⟩
theorem jSef.grow {dC : Nat → ClassId} {dI : Nat → Nat → Nat} {G G1 : jT} {H : Heap} {ks : List Nat} (h : jSef dC dI G H) (hle : jLe G G1) (hN : jNk ks G G1) (hk : ks.contains 11 = true) : jSef dC dI G1 H := fun a ha => by
  obtain ⟨x, y, m, g1, g2, g3, g4, g5⟩ := h a (hN a 11 0 ha hk)
  exact ⟨x, y, m, g1, g2, hle _ _ g3, hle _ _ g4, g5⟩
abbrev jFg : List (Nat × Nat) := [(7, 9), (7, 10), (211, 0)]
def jFr (dC : Nat → ClassId) (dI : Nat → Nat → Nat) (ca : Nat → ClassId) (G : jT) (a : Nat) (H : Heap) : Prop := ∃ (c : Int32) (b : Nat) (f : Nat → Option Nat), G a = some (7, 0) ∧ G b = some (211, 6) ∧ jf (dC, dI) 7 a 10 (.int c) H ∧ jf (dC, dI) 7 a 9 (.ref b) H ∧ jQc dC dI (ca 7) b 6 f H ∧ ∀ i : Nat, i < 6 → (i : Int) < c.toInt → f i ≠ none
theorem jFr.ie {dC : Nat → ClassId} {dI : Nat → Nat → Nat} {ca : Nat → ClassId} {G : jT} {a : Nat} {H : Heap} (h : jFr dC dI ca G a H) : ((jFg, jFr dC dI ca G a) : jIv).2 H ∧ ∀ H1 H2 : Heap, jAg (dC, dI) G ((jFg, jFr dC dI ca G a) : jIv).1 H1 H2 → ((jFg, jFr dC dI ca G a) : jIv).2 H1 → ((jFg, jFr dC dI ca G a) : jIv).2 H2 :=
  ⟨h, fun H1 H2 hA h1 => by
    obtain ⟨c, b, f, g1, g2, g3, g4, g5, g6⟩ := h1
    have hq1 : va_at (dC, dI) vwCl (b, .inl (ca 7, 6, .inr (.inr (.inr (.inr f))))) H1 := g5
    exact ⟨c, b, f, g1, g2, hA.1 a 7 0 10 _ g1 rfl g3, hA.1 a 7 0 9 _ g1 rfl g4, va_at.kept hq1 (hA.2 b 211 6 g2 (by decide) (by decide) rfl), g6⟩⟩
theorem jFr.grow {dC : Nat → ClassId} {dI : Nat → Nat → Nat} {ca : Nat → ClassId} {G G1 : jT} {a : Nat} {H : Heap} (h : jFr dC dI ca G a H) (hle : jLe G G1) : jFr dC dI ca G1 a H := by
  obtain ⟨c, b, f, g1, g2, g3⟩ := h
  exact ⟨c, b, f, hle _ _ g1, hle _ _ g2, g3⟩
def jFrc (f : Nat → Option Nat) (c : Int) : Prop := ∀ i : Nat, i < 6 → (i : Int) < c → f i ≠ none
theorem jFrc.put {f f1 : Nat → Option Nat} {c c1 x : Int} {v : Nat} (h : jFrc f c) (hc : c1 = c + 1) (hx : x = c) (h0 : 0 ≤ c) (hv : f1 x.toNat = some v) (ho : ∀ j, j < 6 → j ≠ x.toNat → f1 j = f j) : jFrc f1 c1 := fun i h6 hi => by
  by_cases e : i = x.toNat
  · subst e; rw [hv]; exact fun q => by cases q
  · rw [ho i h6 e]; exact h i h6 (by omega)
theorem jFrc.full {f : Nat → Option Nat} {c c1 : Int} (h : jFrc f c) (hc : 6 ≤ c) : jFrc f c1 := fun i h6 _ => h i h6 (by omega)

def jGq (G : jT) (f : Nat → Option Nat) (i : Int) : Prop := ∀ j : Nat, (j : Int) < i → jQg G (f j)
theorem jGq.put {G : jT} {f : Nat → Option Nat} {i i1 x : Int} {v m : Nat} (h : jGq G f i) (hi : i1 = i + 1) (hx : x = i) (h0 : 0 ≤ i) (hg : G v = some (5, m)) (hm : m % 10 = 1) : jGq G (va_up f x.toNat (some v)) i1 := fun j hj => by
  subst hx
  by_cases e : j = x.toNat
  · subst e; exact ⟨v, m, by simp [va_up], hg, hm⟩
  · rw [va_up_ne _ _ e]; exact h j (by omega)
theorem jGq.all {G G1 : jT} {f : Nat → Option Nat} {i : Int} {n : Nat} (h : jGq G f i) (hn : (n : Int) ≤ i) (hle : jLe G G1) : ∀ j, j < n → jQg G1 (f j) := fun j hj => by
  obtain ⟨x, m, q1, q2, q3⟩ := h j (by omega)
  exact ⟨x, m, q1, hle _ _ q2, q3⟩
end
section
-- all cells but these stay
def jKl (rs : List Nat) (H0 H : Heap) : Prop := ∀ q : Nat, q ∉ rs → H[q]? = H0[q]?
theorem jKl.rf {rs : List Nat} {H : Heap} : jKl rs H H := fun _ _ => rfl
theorem jKl.put {rs : List Nat} {H0 H H1 : Heap} {a : Nat} (h : jKl rs H0 H) (hr : ∀ q : Nat, q ≠ a → H1[q]? = H[q]?) (ha : a ∈ rs) : jKl rs H0 H1 := fun q hq => (hr q (fun e => hq (e ▸ ha))).trans (h q hq)
theorem jKl.tr {rs rs1 : List Nat} {H0 H H1 : Heap} (h : jKl rs H0 H) (h1 : jKl rs1 H H1) (hs : ∀ q, q ∈ rs1 → q ∈ rs) : jKl rs H0 H1 := fun q hq => (h1 q (fun e => hq (hs q e))).trans (h q hq)
section J31
variable {p : Program} {l : Launch} {e : Env} {R : Room} {s : State} {m : MethodId} {args : Array Value} {below : List Frame} {meth : Method} {c : Code} {H : Heap} {locs : List Loc} {cells slots : Nat} {Q : State → Prop}
variable {cc : ByteArray} {pc : Nat} {ls : Array Slot} {rest : List Value} {dC : Nat → ClassId} {dI : Nat → Nat → Nat} {ca : Nat → ClassId} {B : jF} {base : Nat} {G0 G : jT} {E : List (Nat × Nat)} {H0 : Heap} {zc zs : Nat} {L : List jPin} {M : List jCt} {I : List jIv} {a k n : Nat} {tys : List (ClassId × FieldType)} {cA : ClassId}
end J31
end
section
-- the places where a term stands, counted as the scan goes
def jSaB (f : Nat → Int32) (n : Nat) (g : Nat → Int32) (m : Nat) (a b w : Int) : Bool := decide (0 ≤ a) && (decide (0 ≤ b) && (decide (a + w ≤ n) && (decide (b + w ≤ m) && (List.range w.toNat).all (fun j => decide (jSo f (a + (j : Int)) = jSo g (b + (j : Int)))))))
def jSq (f g : Nat → Int32) (a b i : Int) : Prop := ∀ j : Int, 0 ≤ j → j < i → jSo f (a + j) = jSo g (b + j)
theorem jSq.step {f g : Nat → Int32} {a b i i1 : Int} (h : jSq f g a b i) (hi : i1 = i + 1) (he : jSo f (a + i) = jSo g (b + i)) : jSq f g a b i1 := fun j h0 h1 => by
  by_cases e : j = i
  · subst e; exact he
  · exact h j h0 (by omega)
def jTc (S : Int → Bool) (w n : Int) : Nat → Int → Int
  | 0, _ => 0
  | k + 1, i => if n ≤ i then 0 else if S i = true then 1 + jTc S w n k (i + w) else jTc S w n k (i + 1)
def jTn (S : Int → Bool) (w n i : Int) : Int := jTc S w n (n - i).toNat i
theorem jTn.end {S : Int → Bool} {w n i : Int} (h : n ≤ i) : jTn S w n i = 0 := by
  unfold jTn
  rw [show (n - i).toNat = 0 by omega]
  rfl
abbrev jSp (f : Nat → Int32) (n : Nat) (g : Nat → Int32) (m : Nat) (w : Int) : Int → Bool := fun x => jSaB f n g m x 1 w
/-- the first pass: i is reached, c were found -/
def jR1 (f : Nat → Int32) (n : Nat) (g : Nat → Int32) (m : Nat) (w i c : Int) : Prop := 0 ≤ c ∧ c ≤ i ∧ i ≤ n ∧ c + jTn (jSp f n g m w) w n i = jTn (jSp f n g m w) w n 0
/-- how long what comes will be -/
def jRz (f : Nat → Int32) (n : Nat) (g : Nat → Int32) (m : Nat) (w b z : Int) : Prop := z = n + jTn (jSp f n g m w) w n 0 * (b - w)
theorem jR1.size {f g : Nat → Int32} {n m : Nat} {w i c b y d : Int} (h : jR1 f n g m w i c) (hi : n ≤ i) (hy : y = n) (hd : d = b - w) : jRz f n g m w b (y + c * d) := by
  obtain ⟨h1, h2, h3, h4⟩ := h
  rw [jTn.end hi, Int.add_zero] at h4
  unfold jRz
  rw [hy, h4, hd]
end
section
-- what stands below a place stays
def jKb (f g : Nat → Int32) (n : Int) : Prop := ∀ j : Int, 0 ≤ j → j < n → jSo g j = jSo f j
theorem jKb.rf {f : Nat → Int32} {n : Int} : jKb f f n := fun _ _ _ => rfl
theorem jKb.tr {f g h : Nat → Int32} {n m : Int} (h1 : jKb f g n) (h2 : jKb g h m) (hm : n ≤ m) : jKb f h n := fun j a b => (h2 j a (by omega)).trans (h1 j a b)
theorem jKb.put {f g : Nat → Int32} {n i : Int} {N : Nat} (hi : n ≤ i) (h0 : 0 ≤ n) (hN : i < N) (ho : ∀ j, j < N → j ≠ i.toNat → g j = f j) : jKb f g n := fun j a b => by
  unfold jSo
  rw [ho j.toNat (by omega) (by omega)]
theorem jKb.cg {f g h : Nat → Int32} {n : Int} (h1 : jKb f g n) (e : h = f) : jKb h g n := e ▸ h1
end
section
-- lists: arrays of Object, the interface's calls
def jLcs (C : String) (U : State) : Prop := va_Nw (.castable C "java/lang/Object") U ∧ va_Nw (.castable C C) U
def jFw (n d : String) (y : MethodName) (U : State) : Prop := va_Fw "java/util/ArrayList" ⟨"java/util/List", n, d⟩ y U
theorem jFw.moved {n d : String} {y : MethodName} {u U : State} (hvm : u.vm.Alike U.vm) (h : jFw n d y u) : jFw n d y U := va_Fw.moved ⟨show "java/util/List" ≠ "java/lang/invoke/MethodHandle" by decide, show "java/util/List" ≠ "java/lang/invoke/VarHandle" by decide⟩ hvm h
def jK7 (dC : Nat → ClassId) (dI : Nat → Nat → Nat) (ca : Nat → ClassId) (base : Nat) (U : State) : Prop :=
  va_K (dC, dI) vwCl [(ca 9, .object "java/lang/Object")] U ∧ va_AO "java/lang/Object" U ∧ (jLcs "ProofServer$Document" U ∧ jLcs "ProofServer$Request" U ∧ jLcs "ProofServer$State" U)
  ∧ va_Mi "[Ljava/lang/Object;" (dI 99 1) U ∧ va_Dc U ∧ (jFw "size" "()I" yJx4a65c_size_8abf5 U ∧ jFw "get" "(I)Ljava/lang/Object;" yJx4a65c_get_915e3 U ∧ jFw "add" "(Ljava/lang/Object;)Z" yJx4a65c_add_9ea2d U ∧ jFw "remove" "(I)Ljava/lang/Object;" yJx4a65c_remove_915e3 U)
  ∧ va_Z "java/util/ArrayList" "DEFAULTCAPACITY_EMPTY_ELEMENTDATA" "[Ljava/lang/Object;" (.ref (dI 99 0)) (jA base) U U.heap ∧ va_T (.object "java/lang/Object") (dI 99 0) 0 (fun _ => .null) (jA base) U U.heap
theorem jLcs.warm {C : String} {s U : State} (hW : s.WarmedH U.vm) (h : jLcs C s) : jLcs C U := ⟨va_Nw.warmC hW h.1, va_Nw.warmC hW h.2⟩
theorem jLcs.same {C : String} {s U : State} (hv : s.vm = U.vm) (h : jLcs C s) : jLcs C U := ⟨va_Nw.same rfl hv h.1, va_Nw.same rfl hv h.2⟩
theorem jK7.step {dC : Nat → ClassId} {dI : Nat → Nat → Nat} {ca : Nat → ClassId} {base : Nat} {s U : State} {H : Heap} {locs : List Loc} (h : jK7 dC dI ca base s) (hW : s.WarmedH U.vm) (hU : U.heap = H) (hS : va_S (jA base) s.heap H locs) : jK7 dC dI ca base U := by
  obtain ⟨h1, h2, h3, h4, h5, h8, h6, h7⟩ := h
  have hq : ∀ a : Nat, a < s.heap.size → ¬ jA base a → U.heap[a]? = s.heap[a]? := fun a ha hn => by rw [hU]; exact hS.2.1 a ha hn
  exact ⟨va_K.moved hW.alike h1, va_AO.moved hW.alike h2, ⟨h3.1.warm hW, h3.2.1.warm hW, h3.2.2.warm hW⟩, h4.moved hW.alike, h5.moved hW.alike, ⟨h8.1.moved hW.alike, h8.2.1.moved hW.alike, h8.2.2.1.moved hW.alike, h8.2.2.2.moved hW.alike⟩, (h6.moved hW.alike).kept hq, (h7.moved hW.alike).kept hq⟩
theorem jK7.calling {dC : Nat → ClassId} {dI : Nat → Nat → Nat} {ca : Nat → ClassId} {base : Nat} {U : State} (g : JFrame) (mk : MethodId) (a : Array Value) (h : jK7 dC dI ca base U) : jK7 dC dI ca base (U.calling g mk a) := by
  obtain ⟨h1, h2, h3, h4, h5, h8, h6, h7⟩ := h
  have hv : U.vm.Alike (U.calling g mk a).vm := Vm.Alike.refl U.vm
  exact ⟨va_K.moved hv h1, va_AO.moved hv h2, ⟨h3.1.same rfl, h3.2.1.same rfl, h3.2.2.same rfl⟩, h4.moved hv, h5.moved hv, ⟨h8.1.moved hv, h8.2.1.moved hv, h8.2.2.1.moved hv, h8.2.2.2.moved hv⟩, h6.moved hv, h7.moved hv⟩
section J32
variable {p : Program} {l : Launch} {e : Env} {R : Room} {s : State} {m : MethodId} {args : Array Value} {below : List Frame} {meth : Method} {c : Code} {H : Heap} {locs : List Loc} {cells slots : Nat} {Q : State → Prop}
variable {cc : ByteArray} {pc : Nat} {ls : Array Slot} {rest : List Value} {dC : Nat → ClassId} {dI : Nat → Nat → Nat} {ca : Nat → ClassId} {B : jF} {base : Nat} {G0 G : jT} {E : List (Nat × Nat)} {H0 : Heap} {zc zs : Nat} {L : List jPin} {M : List jCt} {I : List jIv} {a a0 k k0 n n0 index : Nat} {tys tys0 : List (ClassId × FieldType)} {own C CE : String} {cA : ClassId}
end J32
theorem jQn.up {k n : Nat} {G G1 : jT} {o : Option Nat} (h : jQn k n G o) (hle : jLe G G1) : jQn k n G1 o := by
  rcases h with h | ⟨x, h1, h2⟩
  · exact Or.inl h
  · exact Or.inr ⟨x, h1, hle _ _ h2⟩
end
section
-- what is known of all lists (o: the one that is open); k: as many there are
abbrev jFl : List (Nat × Nat) := [(1, 1), (1, 2), (221, 0), (222, 0), (223, 0)]
def jLb (c : Nat) : Int := if c = 1 then 3 else if c = 2 then 12 else 24
def jLo (dC : Nat → ClassId) (dI : Nat → Nat → Nat) (ca : Nat → ClassId) (G : jT) (a c : Nat) (H : Heap) : Prop := ∃ (z : Int32) (x : Nat), jf (dC, dI) 1 a 2 (.int z) H ∧ jf (dC, dI) 1 a 1 (.ref x) H ∧ (0 ≤ z.toInt ∧ z.toInt ≤ jLb c) ∧ ((x = dI 99 0 ∧ z.toInt = 0) ∨ ∃ (m : Nat) (f : Nat → Option Nat), G x = some (220 + c, m) ∧ (10 ≤ m ∧ m ≤ 40) ∧ z.toInt ≤ m ∧ jQc dC dI (ca 9) x m f H ∧ ∀ i : Nat, (i : Int) < z.toInt → f i ≠ none)
def jLs (dC : Nat → ClassId) (dI : Nat → Nat → Nat) (ca : Nat → ClassId) (G : jT) (k : Nat) (o : Option Nat) (H : Heap) : Prop := (∀ a b c, G a = some (1, c) → G b = some (1, c) → a = b) ∧ (∀ a c, G a = some (1, c) → 1 ≤ c ∧ c ≤ k ∧ c ≤ 3) ∧ ∀ a c, G a = some (1, c) → o ≠ some a → jLo dC dI ca G a c H
section J33
variable {dC : Nat → ClassId} {dI : Nat → Nat → Nat} {ca : Nat → ClassId} {G G1 : jT} {H H1 : Heap} {a c k r x m n : Nat} {o : Option Nat} {ks : List Nat}
theorem jLo.agree (h : jLo dC dI ca G a c H) (ha : G a = some (1, c)) (hc : 1 ≤ c ∧ c ≤ 3) (hA : jAg (dC, dI) G jFl H H1) : jLo dC dI ca G a c H1 := by
  obtain ⟨z, x, h1, h2, h3, h4⟩ := h
  refine ⟨z, x, hA.1 a 1 c 2 _ ha rfl h1, hA.1 a 1 c 1 _ ha rfl h2, h3, ?_⟩
  rcases h4 with h4 | ⟨m, f, g1, g2, g3, g4, g5⟩
  · exact Or.inl h4
  · refine Or.inr ⟨m, f, g1, g2, g3, ?_, g5⟩
    have hq1 : va_at (dC, dI) vwCl (x, .inl (ca 9, m, .inr (.inr (.inr (.inr f))))) H := g4
    refine va_at.kept hq1 (hA.2 x (220 + c) m g1 (by omega) (by omega) ?_)
    obtain rfl | rfl | rfl : c = 1 ∨ c = 2 ∨ c = 3 := by omega
    · rfl
    · rfl
    · rfl
theorem jLs.ie (h : jLs dC dI ca G k o H) : ((jFl, jLs dC dI ca G k o) : jIv).2 H ∧ ∀ H1 H2 : Heap, jAg (dC, dI) G ((jFl, jLs dC dI ca G k o) : jIv).1 H1 H2 → ((jFl, jLs dC dI ca G k o) : jIv).2 H1 → ((jFl, jLs dC dI ca G k o) : jIv).2 H2 :=
  ⟨h, fun H1 H2 hA h1 => ⟨h1.1, h1.2.1, fun a c ha hn => (h1.2.2 a c ha hn).agree ha ⟨(h1.2.1 a c ha).1, (h1.2.1 a c ha).2.2⟩ hA⟩⟩
theorem jLo.up (h : jLo dC dI ca G a c H) (hle : jLe G G1) : jLo dC dI ca G1 a c H := by
  obtain ⟨z, x, h1, h2, h3, h4⟩ := h
  refine ⟨z, x, h1, h2, h3, ?_⟩
  rcases h4 with h4 | ⟨m, f, g1, g2⟩
  · exact Or.inl h4
  · exact Or.inr ⟨m, f, hle _ _ g1, g2⟩
theorem jLs.grow (h : jLs dC dI ca G k o H) (hle : jLe G G1) (hN : jNk ks G G1) (hk : ks.contains 1 = true) : jLs dC dI ca G1 k o H :=
  ⟨fun a b c ha hb => h.1 a b c (hN a 1 c ha hk) (hN b 1 c hb hk), fun a c ha => h.2.1 a c (hN a 1 c ha hk), fun a c ha hn => (h.2.2 a c (hN a 1 c ha hk) hn).up hle⟩
theorem jLs.at (h : jLs dC dI ca G k none H) (ha : G a = some (1, c)) : jLo dC dI ca G a c H := h.2.2 a c ha (fun q => by cases q)
theorem jLs.less (h : jLs dC dI ca G k none H) (r : Nat) : jLs dC dI ca G k (some r) H := ⟨h.1, h.2.1, fun a c ha _ => h.2.2 a c ha (fun q => by cases q)⟩
theorem jLs.full (h : jLs dC dI ca G k (some r) H) (hr : G r = some (1, c)) (hl : jLo dC dI ca G r c H) : jLs dC dI ca G k none H :=
  ⟨h.1, h.2.1, fun a c' ha _ => by
    by_cases e : a = r
    · subst e
      have e1 := Option.some.inj (ha.symm.trans hr)
      cases e1
      exact hl
    · exact h.2.2 a c' ha (fun q => e (Option.some.inj q).symm)⟩
theorem jLo.cells (h : jLo dC dI ca G a c H) (h1 : H1[a]? = H[a]?) (h2 : ∀ x m, G x = some (220 + c, m) → H1[x]? = H[x]?) : jLo dC dI ca G a c H1 := by
  obtain ⟨z, x, q1, q2, q3, q4⟩ := h
  refine ⟨z, x, q1.kept h1, q2.kept h1, q3, ?_⟩
  rcases q4 with q4 | ⟨m, f, g1, g2, g3, g4, g5⟩
  · exact Or.inl q4
  · have hq1 : va_at (dC, dI) vwCl (x, .inl (ca 9, m, .inr (.inr (.inr (.inr f))))) H := g4
    exact Or.inr ⟨m, f, g1, g2, g3, va_at.kept hq1 (h2 x m g1), g5⟩
end J33
theorem jAd.put {f g : Nat → Option Nat} {z nz x : Int} {n v : Nat} (h : ∀ k : Nat, (k : Int) < z → f k ≠ none) (hz : nz = z + 1) (h0 : 0 ≤ z) (hx : x = z) (hn : nz ≤ n) (hv : g x.toNat = some v) (ho : ∀ j, j < n → j ≠ x.toNat → g j = f j) : ∀ k : Nat, (k : Int) < nz → g k ≠ none := fun k hk => by
  by_cases e : k = x.toNat
  · subst e; rw [hv]; exact fun q => by cases q
  · rw [ho k (by omega) e]; exact h k (by omega)
end
section
-- Bytes that stay small; new Bytes
def jTen (v k : Int) : Prop := 0 ≤ k ∧ v = 10 ^ k.toNat / 10
theorem jTen.step {v k v1 k1 : Int} (h : jTen v k) (hv : v1 = v / 10) (hk : k1 = k - 1) (h1 : 1 ≤ k) : jTen v1 k1 := by
  obtain ⟨h0, e⟩ := h
  refine ⟨by omega, ?_⟩
  have e1 : k.toNat = k1.toNat + 1 := by omega
  rw [hv, e, e1, Int.pow_succ, Int.mul_ediv_cancel _ (by decide)]
end
section
-- an array of ints is cloned
def jK8 (U : State) : Prop := va_Nw (.castable "[I" "java/lang/Cloneable") U
theorem jK8.calling {U : State} (g : JFrame) (mk : MethodId) (a : Array Value) (h : jK8 U) : jK8 (U.calling g mk a) := va_Nw.same rfl rfl h
section J40
variable {p : Program} {l : Launch} {e : Env} {R : Room} {s : State} {m : MethodId} {args : Array Value} {below : List Frame} {meth : Method} {c : Code} {H : Heap} {locs : List Loc} {cells slots : Nat} {Q : State → Prop}
variable {cc : ByteArray} {pc : Nat} {ls : Array Slot} {rest : List Value} {dC : Nat → ClassId} {dI : Nat → Nat → Nat} {B : jF} {base : Nat} {G0 G : jT} {E : List (Nat × Nat)} {H0 : Heap} {zc zs : Nat} {L : List jPin} {M : List jCt} {I : List jIv} {a k n index : Nat} {tys : List (ClassId × FieldType)} {own : String}
end J40
end
section
-- what reading JSON leaves: the strings and keys of the values stand apart among the units, and take bytes
abbrev jC := (Nat → Int32) × (Nat → Int32) × (Nat → Int32) × (Nat → Int32) × (Nat → Int32)
def jln (C : jC) (e : Nat) : Int := if e % 2 = 0 then (if jSo C.1 ((e / 2 : Nat) : Int) = 3 then jSo C.2.2.1 ((e / 2 : Nat) : Int) else 0) else jSo C.2.2.2.2 ((e / 2 : Nat) : Int)
def jlo (C : jC) (e : Nat) : Int := if e % 2 = 0 then (if jSo C.1 ((e / 2 : Nat) : Int) = 3 then jSo C.2.1 ((e / 2 : Nat) : Int) else 0) else jSo C.2.2.2.1 ((e / 2 : Nat) : Int)
def jE5 (C D : jC) (i : Int) : Prop := jSo D.1 i = jSo C.1 i ∧ jSo D.2.1 i = jSo C.2.1 i ∧ jSo D.2.2.1 i = jSo C.2.2.1 i ∧ jSo D.2.2.2.1 i = jSo C.2.2.2.1 i ∧ jSo D.2.2.2.2 i = jSo C.2.2.2.2 i
theorem jE5.ln {C D : jC} {e : Nat} (h : jE5 C D ((e / 2 : Nat) : Int)) : jln D e = jln C e := by
  obtain ⟨h1, h2, h3, h4, h5⟩ := h
  unfold jln
  rw [h1, h3, h5]
theorem jE5.lo {C D : jC} {e : Nat} (h : jE5 C D ((e / 2 : Nat) : Int)) : jlo D e = jlo C e := by
  obtain ⟨h1, h2, h3, h4, h5⟩ := h
  unfold jlo
  rw [h1, h2, h4]
def jDjn (D : jC) (e e' : Nat) : Prop := jln D e = 0 ∨ jln D e' = 0 ∨ jlo D e + jln D e ≤ jlo D e' ∨ jlo D e' + jln D e' ≤ jlo D e
def jJr (C : jC) (pv pu : Int) (D : jC) (qv qu : Int) : Prop := (0 ≤ pv ∧ pv ≤ qv ∧ 0 ≤ pu ∧ pu ≤ qu) ∧ (∀ i : Int, 0 ≤ i → i < pv → jE5 C D i) ∧
  (∀ e : Nat, 2 * pv ≤ e → (e : Int) < 2 * qv → (0 ≤ jln D e ∧ 0 ≤ jlo D e ∧ jlo D e + jln D e ≤ qu) ∧ (jln D e = 0 ∨ pu ≤ jlo D e)) ∧
  (∀ e e' : Nat, 2 * pv ≤ e → (e : Int) < 2 * qv → 2 * pv ≤ e' → (e' : Int) < 2 * qv → e ≠ e' → jDjn D e e')
theorem jJr.rf {C : jC} {pv pu : Int} (h0 : 0 ≤ pv) (h1 : 0 ≤ pu) : jJr C pv pu C pv pu := ⟨⟨h0, by omega, h1, by omega⟩, fun _ _ _ => ⟨rfl, rfl, rfl, rfl, rfl⟩, fun e h1 h2 => by omega, fun e _ h1 h2 => by omega⟩
theorem jJr.up {C D : jC} {pv pu qv qu qu' : Int} (h : jJr C pv pu D qv qu) (hq : qu ≤ qu') : jJr C pv pu D qv qu' := by
  obtain ⟨h1, h2, h3, h4⟩ := h
  refine ⟨by omega, h2, fun e a b => ?_, h4⟩
  have := h3 e a b
  omega
theorem jJr.tr {C D E : jC} {pv pu qv qu rv ru : Int} (h : jJr C pv pu D qv qu) (g : jJr D qv qu E rv ru) : jJr C pv pu E rv ru := by
  obtain ⟨h1, h2, h3, h4⟩ := h
  obtain ⟨g1, g2, g3, g4⟩ := g
  have key : ∀ e : Nat, (e : Int) < 2 * qv → jE5 D E ((e / 2 : Nat) : Int) := fun e he => g2 _ (by omega) (by omega)
  refine ⟨by omega, fun i a b => ?_, fun e a b => ?_, fun e e' a b c d ne => ?_⟩
  · obtain ⟨x1, x2, x3, x4, x5⟩ := h2 i a b
    obtain ⟨y1, y2, y3, y4, y5⟩ := g2 i a (by omega)
    exact ⟨y1.trans x1, y2.trans x2, y3.trans x3, y4.trans x4, y5.trans x5⟩
  · by_cases q : (e : Int) < 2 * qv
    · have := h3 e a q
      rw [(key e q).ln, (key e q).lo]
      omega
    · have := g3 e (by omega) b
      omega
  · by_cases q : (e : Int) < 2 * qv
    · by_cases q' : (e' : Int) < 2 * qv
      · have := h4 e e' a q c q' ne
        unfold jDjn at this ⊢
        rw [(key e q).ln, (key e q).lo, (key e' q').ln, (key e' q').lo]
        exact this
      · have x := h3 e a q
        have y := g3 e' (by omega) d
        unfold jDjn
        rw [(key e q).ln, (key e q).lo]
        omega
    · by_cases q' : (e' : Int) < 2 * qv
      · have x := h3 e' c q'
        have y := g3 e (by omega) b
        unfold jDjn
        rw [(key e' q').ln, (key e' q').lo]
        omega
      · exact g4 e e' (by omega) b (by omega) d ne
/-- a value is made -/
theorem jJr.mk {C D : jC} {pv pu qu : Int} (h0 : 0 ≤ pv) (h1 : 0 ≤ pu) (hq : pu ≤ qu) (ho : ∀ i : Int, 0 ≤ i → i < pv → jE5 C D i) (hs : jSo D.1 pv = 3 → 0 ≤ jSo D.2.2.1 pv ∧ pu ≤ jSo D.2.1 pv ∧ jSo D.2.1 pv + jSo D.2.2.1 pv ≤ qu) (hk : jSo D.2.2.2.2 pv = 0) (hf : jSo D.2.2.2.1 pv = 0) : jJr C pv pu D (pv + 1) qu := by
  have e2 : ∀ e : Nat, 2 * pv ≤ e → (e : Int) < 2 * (pv + 1) → ((e / 2 : Nat) : Int) = pv := fun e a b => by omega
  have z1 : ∀ e : Nat, 2 * pv ≤ e → (e : Int) < 2 * (pv + 1) → e % 2 = 1 → jln D e = 0 := fun e a b c => by
    unfold jln
    rw [if_neg (by omega), e2 e a b, hk]
  have z2 : ∀ e : Nat, 2 * pv ≤ e → (e : Int) < 2 * (pv + 1) → e % 2 = 1 → jlo D e = 0 := fun e a b c => by
    unfold jlo
    rw [if_neg (by omega), e2 e a b, hf]
  refine ⟨by omega, ho, fun e a b => ?_, fun e e' a b c d ne => ?_⟩
  · by_cases q : e % 2 = 0
    · unfold jln jlo
      rw [if_pos q, if_pos q, e2 e a b]
      by_cases q3 : jSo D.1 pv = 3
      · rw [if_pos q3, if_pos q3]
        have := hs q3
        omega
      · rw [if_neg q3, if_neg q3]; omega
    · have := z1 e a b (by omega)
      have := z2 e a b (by omega)
      omega
  · by_cases q : e % 2 = 1
    · exact Or.inl (z1 e a b q)
    · exact Or.inr (Or.inl (z1 e' c d (by omega)))
/-- the bytes that values take beside their units -/
def jSb (f : Nat → Int32) : Nat → Int
  | 0 => 0
  | n + 1 => jSb f n + (if 1 ≤ (f n).toInt then 5 else 2)
theorem jSb.cg {f g : Nat → Int32} : ∀ (n : Nat), (∀ i, i < n → g i = f i ∨ (g i).toInt = (f i).toInt) → jSb g n = jSb f n
  | 0, _ => rfl
  | n + 1, h => by
    have h1 := jSb.cg n (fun i hi => h i (by omega))
    have h2 : (g n).toInt = (f n).toInt := by
      rcases h n (by omega) with e | e
      · rw [e]
      · exact e
    show jSb g n + _ = jSb f n + _
    rw [h1, h2]
theorem jSb.lo (f : Nat → Int32) : ∀ n : Nat, 2 * (n : Int) ≤ jSb f n
  | 0 => by show (2 : Int) * 0 ≤ 0; omega
  | n + 1 => by
    have h1 := jSb.lo f n
    show 2 * ((n + 1 : Nat) : Int) ≤ jSb f n + _
    split <;> omega
theorem jSb.put {f g : Nat → Int32} (r N : Nat) (ho : ∀ i, i < N → i ≠ r → g i = f i) (h0 : (f r).toInt = 0) : ∀ n : Nat, n ≤ N → jSb g n ≤ jSb f n + (if 1 ≤ (g r).toInt ∧ r < n then 3 else 0)
  | 0, _ => by show (0 : Int) ≤ 0 + _; split <;> omega
  | n + 1, hn => by
    have h1 := jSb.put r N ho h0 n (by omega)
    show jSb g n + _ ≤ jSb f n + _ + _
    by_cases e : n = r
    · subst e
      rw [h0, if_neg (by omega : ¬ (1 : Int) ≤ 0)]
      rw [if_neg (by omega : ¬ (1 ≤ (g n).toInt ∧ n < n))] at h1
      by_cases q : 1 ≤ (g n).toInt
      · rw [if_pos q, if_pos ⟨q, by omega⟩]; omega
      · rw [if_neg q, if_neg (fun x => q x.1)]; omega
    · rw [ho n (by omega) e]
      by_cases q : 1 ≤ (g r).toInt ∧ r < n
      · rw [if_pos q] at h1
        rw [if_pos (⟨q.1, by omega⟩ : 1 ≤ (g r).toInt ∧ r < n + 1)]
        omega
      · rw [if_neg q] at h1
        rw [if_neg (fun x => q ⟨x.1, by omega⟩ : ¬ (1 ≤ (g r).toInt ∧ r < n + 1))]
        omega
/-- what a store leaves -/
theorem jst {f g : Nat → Int32} {x : Int} {N : Nat} (ho : ∀ j, j < N → j ≠ x.toNat → g j = f j) (i : Int) (h0 : 0 ≤ i) (hN : i < N) (hx : 0 ≤ x) (hne : i ≠ x) : jSo g i = jSo f i := by
  unfold jSo
  rw [ho i.toNat (by omega) (by omega)]
def jMq (C D : jC) (n : Int) : Prop := ∀ i : Int, 0 ≤ i → i < n → jE5 C D i
def jMv (D : jC) (n k f s : Int) : Prop := jSo D.1 n = k ∧ jSo D.2.1 n = f ∧ jSo D.2.2.1 n = s ∧ jSo D.2.2.2.2 n = 0 ∧ jSo D.2.2.2.1 n = 0
/-- a value is read: r is its number -/
def jVr (C : jC) (pv pu pt : Int) (D : jC) (qv qu qt r : Int) : Prop := jJr C pv pu D qv qu ∧ (r < 0 ∨ (pv ≤ r ∧ r < qv ∧ jSo D.2.2.2.2 r = 0 ∧ qu - pu + (jSb D.2.2.2.2 qv.toNat - jSb C.2.2.2.2 pv.toNat) ≤ qt - pt + 1))
theorem jSb.old {C D : jC} {n : Int} (h0 : 0 ≤ n) (h : jMq C D n) : jSb D.2.2.2.2 n.toNat = jSb C.2.2.2.2 n.toNat := jSb.cg _ (fun i hi => Or.inr (by
  have := (h i (by omega) (by omega)).2.2.2.2
  unfold jSo at this
  exact this))
theorem jSb.suc {f : Nat → Int32} {n m : Int} (h0 : 0 ≤ n) (hm : m = n + 1) (h : jSo f n = 0) : jSb f m.toNat = jSb f n.toNat + 2 := by
  have e : m.toNat = n.toNat + 1 := by omega
  rw [e]
  show jSb f n.toNat + _ = _
  unfold jSo at h
  rw [h, if_neg (by omega : ¬ (1 : Int) ≤ 0)]
theorem jVr.mk {C D : jC} {pv pu pt qv qu qt r k f s : Int} (hq : jMq C D pv) (hr : (r = -1 ∧ qv = pv) ∨ (r = pv ∧ qv = pv + 1)) (hm : r < 0 ∨ jMv D pv k f s) (h0 : 0 ≤ pv) (h1 : 0 ≤ pu) (hu : pu ≤ qu) (hs : k = 3 → f = pu ∧ s = qu - pu) (hb : qu - pu + 1 ≤ qt - pt) : jVr C pv pu pt D qv qu qt r := by
  rcases hr with ⟨e1, e2⟩ | ⟨e1, e2⟩
  · subst e2
    exact ⟨⟨⟨h0, by omega, h1, hu⟩, hq, fun e a b => by omega, fun e _ a b => by omega⟩, Or.inl (by omega)⟩
  · rcases hm with hm | ⟨m1, m2, m3, m4, m5⟩
    · omega
    · subst e2
      refine ⟨jJr.mk h0 h1 hu hq (fun h3 => ?_) m4 m5, Or.inr ⟨by omega, by omega, by rw [e1]; exact m4, ?_⟩⟩
      · have := hs (by omega)
        omega
      · rw [jSb.suc h0 rfl m4, jSb.old h0 hq]
        omega
theorem jVr.cg {C : jC} {C' : jC} {pv pu pt : Int} {D : jC} {qv qu qt r : Int} (e : C' = C) (h : jVr C' pv pu pt D qv qu qt r) : jVr C pv pu pt D qv qu qt r := e ▸ h
/-- a message that was understood: its bytes, and what it tells first -/
def jUd (D : jC) (qv qu n : Int) : Prop := qu + jSb D.2.2.2.2 qv.toNat ≤ n + 1 ∧ ∃ j : Int, 0 ≤ j ∧ j < qv ∧ jSo D.2.2.2.2 j = 7 ∧ jSo D.1 j = 3 ∧ jSo D.2.2.1 j = 3
theorem jUd.of {gk gi gz ga gs : Nat → Int32} {qv qu n j : Int} (h : qu + jSb gs qv.toNat ≤ n + 1) (h0 : 0 ≤ j) (h1 : j < qv) (h2 : jSo gs j = 7) (h3 : jSo gk j = 3) (h4 : jSo gz j = 3) : jUd (gk, gi, gz, ga, gs) qv qu n := ⟨h, j, h0, h1, h2, h3, h4⟩
end
section
-- the sentences of a document of the class: in order, none empty
def jSn (b e : Nat → Int32) (s u : Int) : Prop := ∀ k : Int, 0 ≤ k → k < s → 0 ≤ jSo b k ∧ jSo b k < jSo e k ∧ jSo e k ≤ u ∧ (k + 1 < s → jSo e k ≤ jSo b (k + 1))
theorem jSn.put {b e b1 e1 : Nat → Int32} {s u x y n1 : Int} (h : jSn b e s u) (hl : s = 0 ∨ jSo e (s - 1) ≤ x) (hb : jSo b1 s = x) (hbo : ∀ j, j < 40 → j ≠ s.toNat → b1 j = b j) (he : jSo e1 s = y) (heo : ∀ j, j < 40 → j ≠ s.toNat → e1 j = e j) (h0 : 0 ≤ s) (h4 : s < 40) (hx : 0 ≤ x) (hxy : x < y) (hy : y ≤ u) (hn : n1 = s + 1) : jSn b1 e1 n1 u := by
  subst hn
  intro k k0 k1
  by_cases q : k = s
  · subst q
    rw [hb, he]
    exact ⟨hx, hxy, hy, fun z => by omega⟩
  · have g := h k k0 (by omega)
    rw [jst hbo k k0 (by omega) h0 q, jst heo k k0 (by omega) h0 q]
    refine ⟨g.1, g.2.1, g.2.2.1, fun z => ?_⟩
    by_cases q2 : k + 1 = s
    · rw [q2, hb]
      rcases hl with hl | hl
      · omega
      · rw [show s - 1 = k by omega] at hl
        exact hl
    · rw [jst hbo (k + 1) (by omega) (by omega) h0 q2]
      exact g.2.2.2 (by omega)
theorem jSn.cg {b e b1 e1 : Nat → Int32} {s u : Int} (h : jSn b e s u) (hb : b1 = b) (he : e1 = e) : jSn b1 e1 s u := by
  subst hb he
  exact h
/-- as many units as sentences -/
theorem jSn.many {b e : Nat → Int32} {s u : Int} (h : jSn b e s u) : ∀ k : Nat, (k : Int) < s → (k : Int) + 1 ≤ jSo e k
  | 0, hk => by
    have := h 0 (by omega) hk
    show (0 : Int) + 1 ≤ jSo e 0
    omega
  | k + 1, hk => by
    have h1 := jSn.many h k (by omega)
    have h2 := h k (by omega) (by omega)
    have h3 := h ((k : Int) + 1) (by omega) (by omega)
    have h4 := h2.2.2.2 (by omega)
    have e1 : ((k + 1 : Nat) : Int) = (k : Int) + 1 := by omega
    rw [e1]
    omega
theorem jSn.le {b e : Nat → Int32} {s u : Int} (h : jSn b e s u) (h0 : 0 ≤ u) : s ≤ u := by
  by_cases q : s ≤ 0
  · omega
  · have h1 := h.many (s - 1).toNat (by omega)
    have h2 := h (s - 1) (by omega) (by omega)
    have e1 : (((s - 1).toNat : Nat) : Int) = s - 1 := by omega
    rw [e1] at h1
    omega
theorem jSn.mono {b e : Nat → Int32} {s u u1 : Int} (h : jSn b e s u) (hu : u ≤ u1) : jSn b e s u1 := fun k a c => by
  have g := h k a c
  exact ⟨g.1, g.2.1, by omega, g.2.2.2⟩
end
section
-- the documents of the class: sentences in order, and what is still to be checked of the open ones
abbrev jFdo : List (Nat × Nat) := [(3, 4), (3, 5), (3, 6), (3, 10), (3, 11), (171, 0), (172, 0)]
def jEd (fe : Nat → Int32) (k : Int) : Int := if k ≤ 0 then 0 else jSo fe (k - 1)
def jPo (fe : Nat → Int32) (ps pk : Int) (vc : Value) (w : Nat) : Prop := pk ≤ ps ∧ ((vc = .null ∧ 575 * (ps - pk) + (1500 - jEd fe pk) ≤ w) ∨ (vc ≠ .null ∧ pk < ps ∧ 575 * (ps - pk) - 16 + (1500 - jSo fe pk) ≤ w))
def jD3 (dC : Nat → ClassId) (dI : Nat → Nat → Nat) (ca : Nat → ClassId) (G : jT) (a yb ye : Nat) (fb fe : Nat → Int32) (ps pk : Int32) (vc : Value) (H : Heap) : Prop := jP (dC, dI) G H [(a, 3, 4, .int ps), (a, 3, 10, .int pk), (a, 3, 11, vc)] ∧ jMc (dC, dI) G H [(yb, 171, 40, ca 1, fb), (ye, 172, 40, ca 1, fe)] ∧ jSn fb fe ps.toInt 1500 ∧ (0 ≤ ps.toInt ∧ ps.toInt ≤ 40 ∧ 0 ≤ pk.toInt)
def jSmm (G : jT) (x : Option Nat) (W : Nat → Nat) : Nat → Nat
  | 0 => 0
  | N + 1 => jSmm G x W N + (if G N = some (3, 0) ∧ x ≠ some N then W N else 0)
theorem jSmm.mono {G : jT} {x : Option Nat} {W : Nat → Nat} {N : Nat} : ∀ M, N ≤ M → jSmm G x W N ≤ jSmm G x W M
  | 0, h => by rw [Nat.le_zero.mp h]; exact Nat.le_refl _
  | M + 1, h => by
    by_cases e : N = M + 1
    · rw [e]; exact Nat.le_refl _
    · exact Nat.le_trans (jSmm.mono M (by omega)) (Nat.le_add_right _ _)
theorem jSmm.less {G : jT} {W : Nat → Nat} {a : Nat} (ha : G a = some (3, 0)) : ∀ N, jSmm G (some a) W N + (if a < N then W a else 0) = jSmm G none W N
  | 0 => rfl
  | N + 1 => by
    have h := jSmm.less (W := W) ha N
    show jSmm G (some a) W N + (if G N = some (3, 0) ∧ some a ≠ some N then W N else 0) + _ = jSmm G none W N + (if G N = some (3, 0) ∧ none ≠ some N then W N else 0)
    by_cases e : a = N
    · subst e
      rw [if_neg (by omega : ¬ a < a)] at h
      rw [if_neg (fun q => q.2 rfl), if_pos (by omega : a < a + 1), if_pos ⟨ha, fun q => by cases q⟩]
      omega
    · have e2 : (if G N = some (3, 0) ∧ some a ≠ some N then W N else 0) = (if G N = some (3, 0) ∧ none ≠ some N then W N else 0) := by
        by_cases q : G N = some (3, 0)
        · rw [if_pos ⟨q, fun z => e (Option.some.inj z)⟩, if_pos ⟨q, fun z => by cases z⟩]
        · rw [if_neg (fun z => q z.1), if_neg (fun z => q z.1)]
      rw [e2]
      by_cases q : a < N
      · rw [if_pos q] at h
        rw [if_pos (by omega : a < N + 1)]
        omega
      · rw [if_neg q] at h
        rw [if_neg (by omega : ¬ a < N + 1)]
        omega
theorem jSmm.ne {G : jT} {W : Nat → Nat} {a : Nat} (ha : G a ≠ some (3, 0)) : ∀ N, jSmm G (some a) W N = jSmm G none W N
  | 0 => rfl
  | N + 1 => by
    have h := jSmm.ne (W := W) ha N
    show jSmm G (some a) W N + (if G N = some (3, 0) ∧ some a ≠ some N then W N else 0) = jSmm G none W N + (if G N = some (3, 0) ∧ none ≠ some N then W N else 0)
    rw [h]
    by_cases q : G N = some (3, 0)
    · rw [if_pos ⟨q, fun z => ha (by rw [Option.some.inj z]; exact q)⟩, if_pos ⟨q, fun z => by cases z⟩]
    · rw [if_neg (fun z => q z.1), if_neg (fun z => q z.1)]
theorem jSmm.cg {G G1 : jT} {x : Option Nat} {W W1 : Nat → Nat} (h : ∀ N, (G1 N = some (3, 0) ∧ x ≠ some N) ↔ (G N = some (3, 0) ∧ x ≠ some N)) (hw : ∀ N, x ≠ some N → W1 N = W N) : ∀ N, jSmm G1 x W1 N = jSmm G x W N
  | 0 => rfl
  | N + 1 => by
    have h1 := jSmm.cg h hw N
    show jSmm G1 x W1 N + _ = jSmm G x W N + _
    rw [h1]
    by_cases q : G N = some (3, 0) ∧ x ≠ some N
    · rw [if_pos q, if_pos ((h N).mpr q), hw N q.2]
    · rw [if_neg q, if_neg (fun z => q ((h N).mp z))]
def jDcc (dC : Nat → ClassId) (dI : Nat → Nat → Nat) (ca : Nat → ClassId) (G : jT) (x : Option Nat) (ph : Nat) (H : Heap) : Prop := ∃ Yb Ye W : Nat → Nat,
  (∀ a n, G a = some (3, n) → jf (dC, dI) 3 a 5 (.ref (Yb a)) H ∧ jf (dC, dI) 3 a 6 (.ref (Ye a)) H ∧ G (Yb a) = some (171, 40) ∧ G (Ye a) = some (172, 40)) ∧
  (∀ a b n m, G a = some (3, n) → G b = some (3, m) → Yb a = Yb b → a = b) ∧ (∀ a b n m, G a = some (3, n) → G b = some (3, m) → Ye a = Ye b → a = b) ∧
  (∀ a n, G a = some (3, n) → x ≠ some a → ∃ (fb fe : Nat → Int32) (ps pk : Int32) (vc : Value), jD3 dC dI ca G a (Yb a) (Ye a) fb fe ps pk vc H ∧ (n = 0 → jPo fe ps.toInt pk.toInt vc (W a))) ∧ ∀ N, jSmm G x W N ≤ ph
section J41
variable {dC : Nat → ClassId} {dI : Nat → Nat → Nat} {ca : Nat → ClassId} {G G1 : jT} {H H1 : Heap} {x : Option Nat} {ph : Nat}
theorem jD3.of {a yb ye : Nat} {fb fe : Nat → Int32} {ps pk : Int32} {vc : Value} (h : jD3 dC dI ca G a yb ye fb fe ps pk vc H) (hf : ∀ i v, i = 4 ∨ i = 10 ∨ i = 11 → jf (dC, dI) 3 a i v H → jf (dC, dI) 3 a i v H1) (hb : H1[yb]? = H[yb]?) (he : H1[ye]? = H[ye]?) : jD3 dC dI ca G a yb ye fb fe ps pk vc H1 := by
  obtain ⟨g3, g4, g5⟩ := h
  refine ⟨fun q hq => ?_, fun q hq => ?_, g5⟩
  · obtain ⟨q1, q2⟩ := g3 q hq
    refine ⟨q1, ?_⟩
    simp only [List.mem_cons, List.not_mem_nil, or_false] at hq
    rcases hq with rfl | rfl | rfl
    · exact hf _ _ (Or.inl rfl) q2
    · exact hf _ _ (Or.inr (Or.inl rfl)) q2
    · exact hf _ _ (Or.inr (Or.inr rfl)) q2
  · obtain ⟨q1, q2, q3, q4⟩ := g4 q hq
    refine ⟨q1, q2, q3, q4.kept ?_⟩
    simp only [List.mem_cons, List.not_mem_nil, or_false] at hq
    rcases hq with rfl | rfl
    · exact hb
    · exact he
theorem jD3.up {a yb ye : Nat} {fb fe : Nat → Int32} {ps pk : Int32} {vc : Value} (h : jD3 dC dI ca G a yb ye fb fe ps pk vc H) (hle : jLe G G1) : jD3 dC dI ca G1 a yb ye fb fe ps pk vc H := by
  obtain ⟨g3, g4, g5⟩ := h
  refine ⟨fun q hq => ?_, fun q hq => ?_, g5⟩
  · obtain ⟨⟨n, q1⟩, q2⟩ := g3 q hq
    exact ⟨⟨n, hle _ _ q1⟩, q2⟩
  · obtain ⟨q1, q2⟩ := g4 q hq
    exact ⟨hle _ _ q1, q2⟩
theorem jDcc.ie (h : jDcc dC dI ca G x ph H) : ((jFdo, jDcc dC dI ca G x ph) : jIv).2 H ∧ ∀ H1 H2 : Heap, jAg (dC, dI) G ((jFdo, jDcc dC dI ca G x ph) : jIv).1 H1 H2 → ((jFdo, jDcc dC dI ca G x ph) : jIv).2 H1 → ((jFdo, jDcc dC dI ca G x ph) : jIv).2 H2 := by
  refine ⟨h, fun H1 H2 hA hq => ?_⟩
  obtain ⟨Yb, Ye, W, h1, h2, h3, h4, h5⟩ := hq
  refine ⟨Yb, Ye, W, fun a n ha => ?_, h2, h3, fun a n ha hx => ?_, h5⟩
  · obtain ⟨g1, g2, g3, g4⟩ := h1 a n ha
    exact ⟨hA.1 a 3 n 5 _ ha rfl g1, hA.1 a 3 n 6 _ ha rfl g2, g3, g4⟩
  · obtain ⟨g1, g2, g3, g4⟩ := h1 a n ha
    obtain ⟨fb, fe, ps, pk, vc, g, gp⟩ := h4 a n ha hx
    refine ⟨fb, fe, ps, pk, vc, g.of (fun i v hi hf => ?_) (hA.2 _ _ _ g3 (by omega) (by omega) rfl) (hA.2 _ _ _ g4 (by omega) (by omega) rfl), gp⟩
    rcases hi with rfl | rfl | rfl
    · exact hA.1 a 3 n 4 _ ha rfl hf
    · exact hA.1 a 3 n 10 _ ha rfl hf
    · exact hA.1 a 3 n 11 _ ha rfl hf
/-- a document is opened: what is known of it, and what the others want -/
theorem jDcc.opn {a n : Nat} (h : jDcc dC dI ca G none ph H) (ha : G a = some (3, n)) : ∃ (yb ye w ph1 : Nat) (fb fe : Nat → Int32) (ps pk : Int32) (vc : Value), G yb = some (171, 40) ∧ G ye = some (172, 40) ∧ jf (dC, dI) 3 a 5 (.ref yb) H ∧ jf (dC, dI) 3 a 6 (.ref ye) H ∧ jD3 dC dI ca G a yb ye fb fe ps pk vc H ∧ (n = 0 → jPo fe ps.toInt pk.toInt vc w) ∧ jDcc dC dI ca G (some a) ph1 H ∧ ph1 ≤ ph ∧ (n = 0 → ph1 + w ≤ ph) := by
  obtain ⟨Yb, Ye, W, h1, h2, h3, h4, h5⟩ := h
  obtain ⟨g1, g2, g3, g4⟩ := h1 a n ha
  obtain ⟨fb, fe, ps, pk, vc, g, gp⟩ := h4 a n ha (fun q => by cases q)
  by_cases e : n = 0
  · subst e
    have hs : ∀ N, jSmm G (some a) W N ≤ ph - W a := fun N => by
      have m1 := jSmm.mono (G := G) (x := some a) (W := W) (N := N) (N + a + 1) (by omega)
      have m2 := jSmm.less (W := W) ha (N + a + 1)
      rw [if_pos (by omega : a < N + a + 1)] at m2
      have m3 := h5 (N + a + 1)
      omega
    have m0 := jSmm.less (W := W) ha (a + 1)
    rw [if_pos (by omega : a < a + 1)] at m0
    have m3 := h5 (a + 1)
    exact ⟨Yb a, Ye a, W a, ph - W a, fb, fe, ps, pk, vc, g3, g4, g1, g2, g, gp, ⟨Yb, Ye, W, h1, h2, h3, fun b m hb _ => h4 b m hb (fun q => by cases q), hs⟩, by omega, fun _ => by omega⟩
  · refine ⟨Yb a, Ye a, W a, ph, fb, fe, ps, pk, vc, g3, g4, g1, g2, g, gp, ⟨Yb, Ye, W, h1, h2, h3, fun b m hb _ => h4 b m hb (fun q => by cases q), fun N => ?_⟩, Nat.le_refl _, fun q => absurd q e⟩
    rw [jSmm.ne (fun q => e (by rw [ha] at q; exact congrArg Prod.snd (Option.some.inj q))) N]
    exact h5 N
/-- it is whole again -/
theorem jDcc.full {a n yb ye w : Nat} {fb fe : Nat → Int32} {ps pk : Int32} {vc : Value} (h : jDcc dC dI ca G (some a) ph H) (ha : G a = some (3, n)) (p5 : jf (dC, dI) 3 a 5 (.ref yb) H) (p6 : jf (dC, dI) 3 a 6 (.ref ye) H) (g : jD3 dC dI ca G a yb ye fb fe ps pk vc H) (gp : n = 0 → jPo fe ps.toInt pk.toInt vc w) {ph1 : Nat} (hp : ph ≤ ph1) (hw : n = 0 → ph + w ≤ ph1) : jDcc dC dI ca G none ph1 H := by
  obtain ⟨Yb, Ye, W, h1, h2, h3, h4, h5⟩ := h
  have e1 : Yb a = yb := by have := jf.uniq (h1 a n ha).1 p5; cases this; rfl
  have e2 : Ye a = ye := by have := jf.uniq (h1 a n ha).2.1 p6; cases this; rfl
  refine ⟨Yb, Ye, fun b => if b = a then w else W b, h1, h2, h3, fun b m hb _ => ?_, fun N => ?_⟩
  · by_cases e : b = a
    · subst e
      rw [e1, e2]
      have em : m = n := by
        rw [ha] at hb
        exact (congrArg Prod.snd (Option.some.inj hb)).symm
      refine ⟨fb, fe, ps, pk, vc, g, fun q => ?_⟩
      show jPo fe ps.toInt pk.toInt vc (if b = b then w else W b)
      rw [if_pos rfl]
      exact gp (em ▸ q)
    · obtain ⟨fb1, fe1, ps1, pk1, vc1, g1, gp1⟩ := h4 b m hb (fun q => e (Option.some.inj q).symm)
      refine ⟨fb1, fe1, ps1, pk1, vc1, g1, fun q => ?_⟩
      show jPo fe1 ps1.toInt pk1.toInt vc1 (if b = a then w else W b)
      rw [if_neg e]
      exact gp1 q
  · have c1 : ∀ M, jSmm G (some a) (fun b => if b = a then w else W b) M = jSmm G (some a) W M := jSmm.cg (fun _ => Iff.rfl) (fun M hM => if_neg (fun q => hM (by rw [q])))
    by_cases e : n = 0
    · subst e
      have m := jSmm.less (W := fun b => if b = a then w else W b) ha N
      rw [c1 N] at m
      have m5 := h5 N
      have m6 := hw rfl
      have m7 : (if a < N then (if a = a then w else W a) else 0) ≤ w := by
        by_cases q : a < N
        · rw [if_pos q, if_pos rfl]; exact Nat.le_refl _
        · rw [if_neg q]; omega
      omega
    · rw [← jSmm.ne (fun q => e (by rw [ha] at q; exact congrArg Prod.snd (Option.some.inj q))) N, c1 N]
      exact Nat.le_trans (h5 N) hp
theorem jDcc.grow {ks : List Nat} (h : jDcc dC dI ca G x ph H) (hle : jLe G G1) (hN : jNk ks G G1) (hk : ks.contains 3 = true) : jDcc dC dI ca G1 x ph H := by
  obtain ⟨Yb, Ye, W, h1, h2, h3, h4, h5⟩ := h
  refine ⟨Yb, Ye, W, fun a n ha => ?_, fun a b n m ha hb => h2 a b n m (hN a 3 n ha hk) (hN b 3 m hb hk), fun a b n m ha hb => h3 a b n m (hN a 3 n ha hk) (hN b 3 m hb hk), fun a n ha hx => ?_, fun N => ?_⟩
  · obtain ⟨g1, g2, g3, g4⟩ := h1 a n (hN a 3 n ha hk)
    exact ⟨g1, g2, hle _ _ g3, hle _ _ g4⟩
  · obtain ⟨fb, fe, ps, pk, vc, g, gp⟩ := h4 a n (hN a 3 n ha hk) hx
    exact ⟨fb, fe, ps, pk, vc, g.up hle, gp⟩
  · rw [jSmm.cg (G := G) (fun M => ⟨fun q => ⟨hN M 3 0 q.1 hk, q.2⟩, fun q => ⟨hle _ _ q.1, q.2⟩⟩) (fun _ _ => rfl) N]
    exact h5 N
/-- the same, with the numbers of each document told -/
def jDcx (dC : Nat → ClassId) (dI : Nat → Nat → Nat) (ca : Nat → ClassId) (G : jT) (ph : Nat) (sn ck : Nat → Int32) (vn : Nat → Value) (H : Heap) : Prop := jDcc dC dI ca G none ph H ∧ ∀ a n, G a = some (3, n) → jf (dC, dI) 3 a 4 (.int (sn a)) H ∧ jf (dC, dI) 3 a 10 (.int (ck a)) H ∧ jf (dC, dI) 3 a 11 (vn a) H
theorem jDcx.ie {sn ck : Nat → Int32} {vn : Nat → Value} (h : jDcx dC dI ca G ph sn ck vn H) : ((jFdo, jDcx dC dI ca G ph sn ck vn) : jIv).2 H ∧ ∀ H1 H2 : Heap, jAg (dC, dI) G ((jFdo, jDcx dC dI ca G ph sn ck vn) : jIv).1 H1 H2 → ((jFdo, jDcx dC dI ca G ph sn ck vn) : jIv).2 H1 → ((jFdo, jDcx dC dI ca G ph sn ck vn) : jIv).2 H2 :=
  ⟨h, fun H1 H2 hA hq => ⟨(jDcc.ie hq.1).2 H1 H2 hA hq.1, fun a n ha => by
    obtain ⟨q1, q2, q3⟩ := hq.2 a n ha
    exact ⟨hA.1 a 3 n 4 _ ha rfl q1, hA.1 a 3 n 10 _ ha rfl q2, hA.1 a 3 n 11 _ ha rfl q3⟩⟩⟩
theorem jPo.rf {fe : Nat → Int32} {ps pk : Int} {w x : Nat} (h : jPo fe ps pk (.ref x) w) : pk < ps ∧ 575 * (ps - pk) - 16 + (1500 - jSo fe pk) ≤ w := by
  obtain ⟨h1, h2 | h2⟩ := h
  · exact absurd h2.1 (fun q => by cases q)
  · exact h2.2
theorem jEd.le {fb fe : Nat → Int32} {s u k : Int} (h : jSn fb fe s u) (hu : 0 ≤ u) (h0 : 0 ≤ k) (h1 : k ≤ s) : jEd fe k ≤ u := by
  unfold jEd
  by_cases q : k ≤ 0
  · rw [if_pos q]; exact hu
  · rw [if_neg q]
    exact (h (k - 1) (by omega) (by omega)).2.2.1
end J41
end
section
-- how many bytes a message has at least: its strings and keys stand apart
def jSuu (D : jC) : List Nat → Int
  | [] => 0
  | e :: es => jln D e + jSuu D es
def jCl (D : jC) (N : Int) (e : Nat) : Int := if N ≤ jlo D e then 0 else if N ≤ jlo D e + jln D e then N - jlo D e else jln D e
def jCss (D : jC) (N : Int) : List Nat → Int
  | [] => 0
  | e :: es => jCl D N e + jCss D N es
def jIn1 (D : jC) (N : Int) (e : Nat) : Int := if jlo D e ≤ N ∧ N < jlo D e + jln D e then 1 else 0
def jIs1 (D : jC) (N : Int) : List Nat → Int
  | [] => 0
  | e :: es => jIn1 D N e + jIs1 D N es
theorem jCl.suc {D : jC} {N : Int} {e : Nat} (h : 0 ≤ jln D e) : jCl D (N + 1) e = jCl D N e + jIn1 D N e := by
  unfold jCl jIn1
  by_cases a : N + 1 ≤ jlo D e
  · rw [if_pos a, if_pos (by omega), if_neg (by omega)]; rfl
  · rw [if_neg a]
    by_cases b : N + 1 ≤ jlo D e + jln D e
    · rw [if_pos b, if_pos (by omega : jlo D e ≤ N ∧ N < jlo D e + jln D e)]
      by_cases c : N ≤ jlo D e
      · rw [if_pos c]; omega
      · rw [if_neg c, if_pos (by omega)]; omega
    · rw [if_neg b, if_neg (by omega : ¬ (jlo D e ≤ N ∧ N < jlo D e + jln D e))]
      by_cases c : N ≤ jlo D e
      · rw [if_pos c]; omega
      · rw [if_neg c]
        by_cases d : N ≤ jlo D e + jln D e
        · rw [if_pos d]; omega
        · rw [if_neg d]; omega
theorem jCss.suc {D : jC} {N : Int} : ∀ es : List Nat, (∀ e ∈ es, 0 ≤ jln D e) → jCss D (N + 1) es = jCss D N es + jIs1 D N es
  | [], _ => rfl
  | e :: es, h => by
    have h1 := jCss.suc (N := N) es (fun x hx => h x (List.mem_cons_of_mem _ hx))
    have h2 := jCl.suc (N := N) (h e List.mem_cons_self)
    show jCl D (N + 1) e + jCss D (N + 1) es = jCl D N e + jCss D N es + (jIn1 D N e + jIs1 D N es)
    omega
theorem jIs1.none {D : jC} {N : Int} : ∀ es : List Nat, (∀ e ∈ es, jIn1 D N e = 0) → jIs1 D N es = 0
  | [], _ => rfl
  | e :: es, h => by
    have h1 := jIs1.none es (fun x hx => h x (List.mem_cons_of_mem _ hx))
    have h2 := h e List.mem_cons_self
    show jIn1 D N e + jIs1 D N es = 0
    omega
theorem jIs1.le {D : jC} {N : Int} : ∀ es : List Nat, es.Pairwise (jDjn D) → (∀ e ∈ es, 0 ≤ jln D e) → jIs1 D N es ≤ 1
  | [], _, _ => by show (0 : Int) ≤ 1; omega
  | e :: es, hp, h => by
    obtain ⟨p1, p2⟩ := List.pairwise_cons.mp hp
    have h1 := jIs1.le (N := N) es p2 (fun x hx => h x (List.mem_cons_of_mem _ hx))
    show jIn1 D N e + jIs1 D N es ≤ 1
    by_cases q : jlo D e ≤ N ∧ N < jlo D e + jln D e
    · have h2 : jIs1 D N es = 0 := jIs1.none es (fun x hx => by
        have d := p1 x hx
        have l := h x (List.mem_cons_of_mem _ hx)
        unfold jDjn at d
        unfold jIn1
        rw [if_neg (by omega)])
      have h3 : jIn1 D N e = 1 := by unfold jIn1; rw [if_pos q]
      omega
    · have h3 : jIn1 D N e = 0 := by unfold jIn1; rw [if_neg q]
      omega
theorem jCss.le {D : jC} {es : List Nat} (hp : es.Pairwise (jDjn D)) (h : ∀ e ∈ es, 0 ≤ jln D e) (h0 : ∀ e ∈ es, 0 ≤ jlo D e) : ∀ N : Nat, jCss D (N : Int) es ≤ N
  | 0 => by
    have z : ∀ es : List Nat, (∀ e ∈ es, 0 ≤ jlo D e) → jCss D ((0 : Nat) : Int) es = 0 := fun es => by
      induction es with
      | nil => exact fun _ => rfl
      | cons e es ih =>
        intro hq
        have h1 := ih (fun x hx => hq x (List.mem_cons_of_mem _ hx))
        have h2 := hq e List.mem_cons_self
        show jCl D _ e + jCss D _ es = 0
        have h3 : jCl D ((0 : Nat) : Int) e = 0 := by unfold jCl; rw [if_pos (by omega)]
        omega
    rw [z es h0]
    exact Int.le_refl _
  | N + 1 => by
    have h1 := jCss.le hp h h0 N
    have h2 := jCss.suc (N := (N : Int)) es h
    have h3 := jIs1.le (N := (N : Int)) es hp h
    have e1 : ((N + 1 : Nat) : Int) = (N : Int) + 1 := by omega
    rw [e1]
    omega
theorem jCss.all {D : jC} {N : Int} : ∀ es : List Nat, (∀ e ∈ es, 0 ≤ jln D e ∧ jlo D e + jln D e ≤ N) → jCss D N es = jSuu D es
  | [], _ => rfl
  | e :: es, h => by
    have h1 := jCss.all (N := N) es (fun x hx => h x (List.mem_cons_of_mem _ hx))
    have h2 := h e List.mem_cons_self
    show jCl D N e + jCss D N es = jln D e + jSuu D es
    have h3 : jCl D N e = jln D e := by
      unfold jCl
      by_cases a : N ≤ jlo D e
      · rw [if_pos a]; omega
      · rw [if_neg a]
        by_cases b : N ≤ jlo D e + jln D e
        · rw [if_pos b]; omega
        · rw [if_neg b]
    omega
theorem jJr.sum {C D : jC} {qv qu : Int} (h : jJr C 0 0 D qv qu) (es : List Nat) (hl : ∀ e ∈ es, (e : Int) < 2 * qv) (hn : es.Pairwise (· ≠ ·)) : jSuu D es ≤ qu := by
  obtain ⟨h1, h2, h3, h4⟩ := h
  have b : ∀ e ∈ es, (0 ≤ jln D e ∧ 0 ≤ jlo D e) ∧ jlo D e + jln D e ≤ qu := fun e he => by
    have := h3 e (by omega) (hl e he)
    omega
  have hp : es.Pairwise (jDjn D) := hn.imp_of_mem (fun ha hb ne => h4 _ _ (by omega) (hl _ ha) (by omega) (hl _ hb) ne)
  have c := jCss.le hp (fun e he => (b e he).1.1) (fun e he => (b e he).1.2) qu.toNat
  have e1 : ((qu.toNat : Nat) : Int) = qu := by omega
  rw [e1, jCss.all es (fun e he => ⟨(b e he).1.1, (b e he).2⟩)] at c
  exact c
/-- and how many values have a key -/
def jCi (n : Nat) : List Nat → Int
  | [] => 0
  | i :: is => (if i < n then 3 else 0) + jCi n is
theorem jCi.out {n : Nat} : ∀ is : List Nat, (∀ i ∈ is, i ≠ n) → jCi (n + 1) is = jCi n is
  | [], _ => rfl
  | i :: is, h => by
    have h1 := jCi.out is (fun x hx => h x (List.mem_cons_of_mem _ hx))
    have h2 := h i List.mem_cons_self
    show (if i < n + 1 then (3 : Int) else 0) + jCi (n + 1) is = (if i < n then 3 else 0) + jCi n is
    rw [h1]
    by_cases q : i < n
    · rw [if_pos q, if_pos (by omega)]
    · rw [if_neg q, if_neg (by omega)]
theorem jCi.suc {n : Nat} {f : Nat → Int32} : ∀ is : List Nat, is.Pairwise (· ≠ ·) → (∀ i ∈ is, 1 ≤ (f i).toInt) → jCi (n + 1) is ≤ jCi n is + (if 1 ≤ (f n).toInt then 3 else 0)
  | [], _, _ => by show (0 : Int) ≤ 0 + _; split <;> omega
  | i :: is, hp, hf => by
    obtain ⟨p1, p2⟩ := List.pairwise_cons.mp hp
    show (if i < n + 1 then (3 : Int) else 0) + jCi (n + 1) is ≤ (if i < n then 3 else 0) + jCi n is + _
    by_cases e : i = n
    · subst e
      rw [jCi.out is (fun x hx q => p1 x hx q.symm), if_pos (by omega : i < i + 1), if_neg (by omega : ¬ i < i), if_pos (hf i List.mem_cons_self)]
      omega
    · have h1 := jCi.suc (n := n) (f := f) is p2 (fun x hx => hf x (List.mem_cons_of_mem _ hx))
      have e2 : (if i < n + 1 then (3 : Int) else 0) = (if i < n then 3 else 0) := by
        by_cases q : i < n
        · rw [if_pos q, if_pos (by omega)]
        · rw [if_neg q, if_neg (by omega)]
      rw [e2]
      omega
theorem jSb.many {f : Nat → Int32} {is : List Nat} (hp : is.Pairwise (· ≠ ·)) (hf : ∀ i ∈ is, 1 ≤ (f i).toInt) : ∀ n : Nat, jCi n is + 2 * (n : Int) ≤ jSb f n
  | 0 => by
    have z : ∀ is : List Nat, jCi 0 is = 0 := fun is => by
      induction is with
      | nil => rfl
      | cons i is ih => show (if i < 0 then (3 : Int) else 0) + jCi 0 is = 0; rw [if_neg (by omega), ih]; rfl
    rw [z is]
    show (0 : Int) + 2 * 0 ≤ 0
    omega
  | n + 1 => by
    have h1 := jSb.many hp hf n
    have h2 := jCi.suc (n := n) (f := f) is hp hf
    show jCi (n + 1) is + 2 * ((n + 1 : Nat) : Int) ≤ jSb f n + (if 1 ≤ (f n).toInt then 5 else 2)
    by_cases q : 1 ≤ (f n).toInt
    · rw [if_pos q] at h2 ⊢; omega
    · rw [if_neg q] at h2 ⊢; omega
end
section
-- the kinds: one table
def jF2 : List (Value → Prop) → List (Value → Prop) → Prop
  | [], [] => True
  | p :: P, q :: Q => (∀ v, p v → q v) ∧ jF2 P Q
  | _, _ => False
theorem jF2.at : ∀ (P Q : List (Value → Prop)), jF2 P Q → ∀ (i : Nat) (q : Value → Prop), Q[i]? = some q → ∃ p, P[i]? = some p ∧ ∀ v, p v → q v
  | [], [], _, i, q, h => by simp at h
  | p :: P, q :: Q, h, 0, r, e => by
    simp only [List.getElem?_cons_zero, Option.some.injEq] at e
    subst e
    exact ⟨p, rfl, h.1⟩
  | p :: P, q :: Q, h, i + 1, r, e => by
    simp only [List.getElem?_cons_succ] at e ⊢
    exact jF2.at P Q h.2 i r e
section J50
variable {dC : Nat → ClassId} {dI : Nat → Nat → Nat} {ca : Nat → ClassId}
end J50
end
section
-- nothing is there yet
section J51
variable {dC : Nat → ClassId} {dI : Nat → Nat → Nat} {ca : Nat → ClassId} {B : jF} {base : Nat} {G : jT} {H : Heap}
theorem jX.nil (h : ∀ a t, G a ≠ some t) : jX B base G [] H := ⟨fun a k n ha => absurd ha (h _ _), fun a t ha => absurd ha (h _ _)⟩
end J51
end
section
-- how long a message is at least that opens or changes a document
def jEs : List Nat → List Nat
  | [] => []
  | i :: is => (2 * i) :: (2 * i + 1) :: jEs is
theorem jEs.mem : ∀ (is : List Nat) (e : Nat), e ∈ jEs is → e / 2 ∈ is
  | [], _, h => by cases h
  | i :: is, e, h => by
    rcases List.mem_cons.mp h with h | h
    · subst h
      rw [show 2 * i / 2 = i by omega]
      exact List.mem_cons_self
    · rcases List.mem_cons.mp h with h | h
      · subst h
        rw [show (2 * i + 1) / 2 = i by omega]
        exact List.mem_cons_self
      · exact List.mem_cons_of_mem _ (jEs.mem is e h)
theorem jEs.apart : ∀ (is : List Nat), is.Pairwise (· ≠ ·) → (jEs is).Pairwise (· ≠ ·)
  | [], _ => List.Pairwise.nil
  | i :: is, h => by
    obtain ⟨h1, h2⟩ := List.pairwise_cons.mp h
    have g := jEs.apart is h2
    refine List.pairwise_cons.mpr ⟨fun e he q => ?_, List.pairwise_cons.mpr ⟨fun e he q => ?_, g⟩⟩
    · rcases List.mem_cons.mp he with he | he
      · omega
      · exact h1 _ (jEs.mem is e he) (by omega)
    · exact h1 _ (jEs.mem is e he) (by omega)
def jWs (D : jC) : List Int → Int
  | [] => 0
  | i :: is => (if jSo D.1 i = 3 then jSo D.2.2.1 i else 0) + jSo D.2.2.2.2 i + jWs D is
theorem jWs.eq {D : jC} : ∀ (is : List Int), (∀ i ∈ is, 0 ≤ i) → jSuu D (jEs (is.map Int.toNat)) = jWs D is
  | [], _ => rfl
  | i :: is, h => by
    have h1 := jWs.eq (D := D) is (fun x hx => h x (List.mem_cons_of_mem _ hx))
    have h2 := h i List.mem_cons_self
    show jln D (2 * i.toNat) + (jln D (2 * i.toNat + 1) + jSuu D (jEs (is.map Int.toNat))) = (if jSo D.1 i = 3 then jSo D.2.2.1 i else 0) + jSo D.2.2.2.2 i + jWs D is
    have n1 : jln D (2 * i.toNat) = (if jSo D.1 i = 3 then jSo D.2.2.1 i else 0) := by
      unfold jln
      rw [if_pos (by omega), show (((2 * i.toNat) / 2 : Nat) : Int) = i by omega]
    have n2 : jln D (2 * i.toNat + 1) = jSo D.2.2.2.2 i := by
      unfold jln
      rw [if_neg (by omega), show (((2 * i.toNat + 1) / 2 : Nat) : Int) = i by omega]
    rw [n1, n2, h1]
    omega
theorem jSb.one : ∀ n : Nat, jSb (fun _ => 1) n = 5 * (n : Int)
  | 0 => rfl
  | n + 1 => by
    have h := jSb.one n
    show jSb (fun _ => 1) n + (if 1 ≤ ((1 : Int32)).toInt then 5 else 2) = 5 * ((n + 1 : Nat) : Int)
    rw [if_pos (by decide), h]
    omega
theorem jCi.all {n : Nat} : ∀ is : List Nat, (∀ i ∈ is, i < n) → jCi n is = 3 * (is.length : Int)
  | [], _ => rfl
  | i :: is, h => by
    have h1 := jCi.all is (fun x hx => h x (List.mem_cons_of_mem _ hx))
    have h2 := h i List.mem_cons_self
    show (if i < n then (3 : Int) else 0) + jCi n is = 3 * ((is.length + 1 : Nat) : Int)
    rw [if_pos h2, h1]
    omega
theorem jCi.len {n : Nat} {is : List Nat} (hp : is.Pairwise (· ≠ ·)) (h : ∀ i ∈ is, i < n) : (is.length : Int) ≤ n := by
  have h1 := jSb.many (f := fun _ => 1) hp (fun _ _ => by decide) n
  rw [jSb.one, jCi.all is h] at h1
  omega
theorem jByt {C D : jC} {qv qu n : Int} (h : jJr C 0 0 D qv qu) (hu : qu + jSb D.2.2.2.2 qv.toNat ≤ n + 1) (is : List Int) (hp : is.Pairwise (· ≠ ·)) (hr : ∀ i ∈ is, 0 ≤ i ∧ i < qv ∧ 1 ≤ jSo D.2.2.2.2 i) : jWs D is + 5 * (is.length : Int) ≤ n + 1 := by
  have hq : (is.map Int.toNat).Pairwise (· ≠ ·) := List.pairwise_map.mpr (hp.imp_of_mem (fun ha hb ne q => ne (by
    have := (hr _ ha).1
    have := (hr _ hb).1
    omega)))
  have hm : ∀ x ∈ is.map Int.toNat, (x : Int) < qv ∧ 1 ≤ (D.2.2.2.2 x).toInt := fun x hx => by
    obtain ⟨i, hi, e⟩ := List.mem_map.mp hx
    have g := hr i hi
    have g3 := g.2.2
    unfold jSo at g3
    rw [← e]
    exact ⟨by omega, g3⟩
  have s1 := h.sum (jEs (is.map Int.toNat)) (fun e he => by
    have := (hm _ (jEs.mem _ _ he)).1
    omega) (jEs.apart _ hq)
  rw [jWs.eq is (fun i hi => (hr i hi).1)] at s1
  have s2 := jSb.many hq (fun i hi => (hm i hi).2) qv.toNat
  have s3 : jCi qv.toNat (is.map Int.toNat) = 3 * ((is.map Int.toNat).length : Int) := jCi.all _ (fun i hi => by
    have := (hm i hi).1
    omega)
  have s4 := jCi.len (n := qv.toNat) hq (fun i hi => by
    have := (hm i hi).1
    omega)
  have s5 := h.1
  rw [s3] at s2
  rw [List.length_map] at s2 s4
  omega
/-- a message that was understood, its method of z units -/
def jMg (D : jC) (pv pu n z : Int) : Prop := (∃ C : jC, jJr C 0 0 D pv pu) ∧ jUd D pv pu n ∧ ∃ m : Int, 0 ≤ m ∧ m < pv ∧ jSo D.2.2.2.2 m = 6 ∧ jSo D.1 m = 3 ∧ jSo D.2.2.1 m = z
/-- a value that has a key -/
def jNde (D : jC) (pv i k z : Int) : Prop := 0 ≤ i ∧ i < pv ∧ jSo D.1 i = k ∧ jSo D.2.2.2.2 i = z
theorem jNde.ne {D : jC} {pv i j k z k1 z1 : Int} (h : jNde D pv i k z) (g : jNde D pv j k1 z1) (hd : k ≠ k1 ∨ z ≠ z1) : i ≠ j := fun e => by
  subst e
  obtain ⟨-, -, h3, h4⟩ := h
  obtain ⟨-, -, g3, g4⟩ := g
  omega
theorem jNde.w {D : jC} {pv i k z : Int} (h : jNde D pv i k z) (hk : k ≠ 3) (is : List Int) : jWs D (i :: is) = z + jWs D is := by
  obtain ⟨h1, h2, h3, h4⟩ := h
  show (if jSo D.1 i = 3 then jSo D.2.2.1 i else 0) + jSo D.2.2.2.2 i + jWs D is = _
  rw [if_neg (by omega), h4]
  omega
theorem jNde.s {D : jC} {pv i z : Int} (h : jNde D pv i 3 z) (is : List Int) : jWs D (i :: is) = jSo D.2.2.1 i + z + jWs D is := by
  obtain ⟨h1, h2, h3, h4⟩ := h
  show (if jSo D.1 i = 3 then jSo D.2.2.1 i else 0) + jSo D.2.2.2.2 i + jWs D is = _
  rw [if_pos h3, h4]
theorem jNde.r {D : jC} {pv i k z : Int} (h : jNde D pv i k z) (hz : 1 ≤ z) : 0 ≤ i ∧ i < pv ∧ 1 ≤ jSo D.2.2.2.2 i := by
  obtain ⟨h1, h2, h3, h4⟩ := h
  omega
theorem jMg.opn {D : jC} {pv pu n p d u v t : Int} (h : jMg D pv pu n 20) (hp : jNde D pv p 1 6) (hd : jNde D pv d 1 12) (hu : jNde D pv u 3 3) (hv : jNde D pv v 4 7) (ht : jNde D pv t 3 4) : 102 + jSo D.2.2.1 u + jSo D.2.2.1 t ≤ n := by
  obtain ⟨⟨C, h1⟩, ⟨h2, j, j0, j1, j2, j3, j4⟩, m, m0, m1, m2, m3, m4⟩ := h
  have hj : jNde D pv j 3 7 := ⟨j0, j1, j3, j2⟩
  have hm : jNde D pv m 3 6 := ⟨m0, m1, m3, m2⟩
  have nil : ∀ a ∈ ([] : List Int), False := fun a ha => by cases ha
  have b := jByt h1 h2 [j, m, p, d, u, v, t]
    (List.pairwise_cons.mpr ⟨List.forall_mem_cons.mpr ⟨hj.ne hm (by omega), List.forall_mem_cons.mpr ⟨hj.ne hp (by omega), List.forall_mem_cons.mpr ⟨hj.ne hd (by omega), List.forall_mem_cons.mpr ⟨hj.ne hu (by omega), List.forall_mem_cons.mpr ⟨hj.ne hv (by omega), List.forall_mem_cons.mpr ⟨hj.ne ht (by omega), fun a ha => (nil a ha).elim⟩⟩⟩⟩⟩⟩,
    List.pairwise_cons.mpr ⟨List.forall_mem_cons.mpr ⟨hm.ne hp (by omega), List.forall_mem_cons.mpr ⟨hm.ne hd (by omega), List.forall_mem_cons.mpr ⟨hm.ne hu (by omega), List.forall_mem_cons.mpr ⟨hm.ne hv (by omega), List.forall_mem_cons.mpr ⟨hm.ne ht (by omega), fun a ha => (nil a ha).elim⟩⟩⟩⟩⟩,
    List.pairwise_cons.mpr ⟨List.forall_mem_cons.mpr ⟨hp.ne hd (by omega), List.forall_mem_cons.mpr ⟨hp.ne hu (by omega), List.forall_mem_cons.mpr ⟨hp.ne hv (by omega), List.forall_mem_cons.mpr ⟨hp.ne ht (by omega), fun a ha => (nil a ha).elim⟩⟩⟩⟩,
    List.pairwise_cons.mpr ⟨List.forall_mem_cons.mpr ⟨hd.ne hu (by omega), List.forall_mem_cons.mpr ⟨hd.ne hv (by omega), List.forall_mem_cons.mpr ⟨hd.ne ht (by omega), fun a ha => (nil a ha).elim⟩⟩⟩,
    List.pairwise_cons.mpr ⟨List.forall_mem_cons.mpr ⟨hu.ne hv (by omega), List.forall_mem_cons.mpr ⟨hu.ne ht (by omega), fun a ha => (nil a ha).elim⟩⟩,
    List.pairwise_cons.mpr ⟨List.forall_mem_cons.mpr ⟨hv.ne ht (by omega), fun a ha => (nil a ha).elim⟩,
    List.pairwise_cons.mpr ⟨fun a ha => (nil a ha).elim, List.Pairwise.nil⟩⟩⟩⟩⟩⟩⟩)
    (List.forall_mem_cons.mpr ⟨hj.r (by omega), List.forall_mem_cons.mpr ⟨hm.r (by omega), List.forall_mem_cons.mpr ⟨hp.r (by omega), List.forall_mem_cons.mpr ⟨hd.r (by omega), List.forall_mem_cons.mpr ⟨hu.r (by omega), List.forall_mem_cons.mpr ⟨hv.r (by omega), List.forall_mem_cons.mpr ⟨ht.r (by omega), fun a ha => (nil a ha).elim⟩⟩⟩⟩⟩⟩⟩)
  rw [hj.s, hm.s, hp.w (by omega), hd.w (by omega), hu.s, hv.w (by omega), ht.s, show jWs D [] = 0 from rfl, j4, m4, show (([j, m, p, d, u, v, t].length : Nat) : Int) = 7 from rfl] at b
  omega
def jMh (D : jC) (pv pu n : Int) : Prop := (∃ C : jC, jJr C 0 0 D pv pu) ∧ jUd D pv pu n
/-- a message that was understood has some bytes -/
theorem jMh.one {D : jC} {pv pu n : Int} (h : jMh D pv pu n) : 14 ≤ n := by
  obtain ⟨⟨C, h1⟩, h2, j, j0, j1, j2, j3, j4⟩ := h
  have hj : jNde D pv j 3 7 := ⟨j0, j1, j3, j2⟩
  have nil : ∀ a ∈ ([] : List Int), False := fun a ha => by cases ha
  have b := jByt h1 h2 [j] (List.pairwise_cons.mpr ⟨fun a ha => (nil a ha).elim, List.Pairwise.nil⟩) (List.forall_mem_cons.mpr ⟨hj.r (by omega), fun a ha => (nil a ha).elim⟩)
  rw [hj.s, show jWs D [] = 0 from rfl, j4, show (([j].length : Nat) : Int) = 1 from rfl] at b
  omega
/-- one or the other, hidden until it is resolved -/
def jOr (p q : Prop) : Prop := p ∨ q
theorem jOr.resolve_left {p q : Prop} (h : jOr p q) (n : ¬p) : q := Or.resolve_left h n
theorem jOr.resolve_right {p q : Prop} (h : jOr p q) (n : ¬q) : p := Or.resolve_right h n
end
section
-- the documents of the reference while it is made
abbrev jFz9 : List (Nat × Nat) := [(14, 5), (14, 6), (14, 7), (14, 9), (190, 0), (191, 0)]
def jDZ (dC : Nat → ClassId) (dI : Nat → Nat → Nat) (G : jT) (H : Heap) : Prop := ∃ Yb Ye : Nat → Nat, (∀ a, G a = some (14, 0) → jf (dC, dI) 14 a 6 (.ref (Yb a)) H ∧ jf (dC, dI) 14 a 7 (.ref (Ye a)) H ∧ G (Yb a) = some (190, 40) ∧ G (Ye a) = some (191, 40)) ∧ (∀ a b, G a = some (14, 0) → G b = some (14, 0) → Yb a = Yb b → a = b) ∧ (∀ a b, G a = some (14, 0) → G b = some (14, 0) → Ye a = Ye b → a = b) ∧ ∀ a, G a = some (14, 0) → jf (dC, dI) 14 a 5 (.int 0) H ∧ jf (dC, dI) 14 a 9 (.int 0) H
section J45
variable {dC : Nat → ClassId} {dI : Nat → Nat → Nat} {ca : Nat → ClassId} {G G1 : jT} {H : Heap}
theorem jDZ.ie (h : jDZ dC dI G H) : ((jFz9, jDZ dC dI G) : jIv).2 H ∧ ∀ H1 H2 : Heap, jAg (dC, dI) G ((jFz9, jDZ dC dI G) : jIv).1 H1 H2 → ((jFz9, jDZ dC dI G) : jIv).2 H1 → ((jFz9, jDZ dC dI G) : jIv).2 H2 := by
  refine ⟨h, fun H1 H2 hA hq => ?_⟩
  obtain ⟨Yb, Ye, h1, h2, h3, h4⟩ := hq
  refine ⟨Yb, Ye, fun a ha => ?_, h2, h3, fun a ha => ?_⟩
  · obtain ⟨g1, g2, g3, g4⟩ := h1 a ha
    exact ⟨hA.1 a 14 0 6 _ ha rfl g1, hA.1 a 14 0 7 _ ha rfl g2, g3, g4⟩
  · obtain ⟨g1, g2⟩ := h4 a ha
    exact ⟨hA.1 a 14 0 5 _ ha rfl g1, hA.1 a 14 0 9 _ ha rfl g2⟩
theorem jDZ.grow (h : jDZ dC dI G H) (hle : jLe G G1) (hn : jN14 G G1) : jDZ dC dI G1 H := by
  obtain ⟨Yb, Ye, h1, h2, h3, h4⟩ := h
  refine ⟨Yb, Ye, fun a ha => ?_, fun a b ha hb => h2 a b (hn a ha) (hn b hb), fun a b ha hb => h3 a b (hn a ha) (hn b hb), fun a ha => h4 a (hn a ha)⟩
  obtain ⟨g1, g2, g3, g4⟩ := h1 a (hn a ha)
  exact ⟨g1, g2, hle _ _ g3, hle _ _ g4⟩
end J45
end
section
-- the row 'next' of the reference's JSON: once a value was made, the first one has none behind it
theorem jNx0 {f g : Nat → Int32} {x : Int} (hv : jSo g x = -1) (ho : ∀ j, j < 3100 → j ≠ x.toNat → g j = f j) (h0 : 0 ≤ x) (h : x = 0 ∨ jSo f 0 = -1) : jSo g 0 = -1 := by
  rcases h with h | h
  · rw [h] at hv
    exact hv
  · by_cases q : x = 0
    · rw [q] at hv
      exact hv
    · have := ho 0 (by decide) (by omega)
      unfold jSo at h ⊢
      show (g 0).toInt = -1
      rw [this]
      exact h
end
