-- the places where a term stands, counted as the scan goes
def jSaB (f : Nat → Int32) (n : Nat) (g : Nat → Int32) (m : Nat) (a b w : Int) : Bool := decide (0 ≤ a) && (decide (0 ≤ b) && (decide (a + w ≤ n) && (decide (b + w ≤ m) && (List.range w.toNat).all (fun j => decide (jSo f (a + (j : Int)) = jSo g (b + (j : Int)))))))
theorem jSaB.yes {f g : Nat → Int32} {n m : Nat} {a b w : Int} (h0 : 0 ≤ a) (h1 : 0 ≤ b) (h2 : a + w ≤ n) (h3 : b + w ≤ m) (h : ∀ j : Int, 0 ≤ j → j < w → jSo f (a + j) = jSo g (b + j)) : jSaB f n g m a b w = true := by
  unfold jSaB
  rw [decide_eq_true h0, decide_eq_true h1, decide_eq_true h2, decide_eq_true h3, Bool.true_and, Bool.true_and, Bool.true_and, Bool.true_and]
  rw [List.all_eq_true]
  intro j hj
  have hj1 := List.mem_range.mp hj
  exact decide_eq_true (h (j : Int) (by omega) (by omega))
theorem jSaB.in {f g : Nat → Int32} {n m : Nat} {a b w : Int} (h : jSaB f n g m a b w = true) : 0 ≤ a ∧ a + w ≤ n := by
  unfold jSaB at h
  rw [Bool.and_eq_true, Bool.and_eq_true, Bool.and_eq_true] at h
  exact ⟨of_decide_eq_true h.1, of_decide_eq_true h.2.2.1⟩
theorem jSaB.no1 {f g : Nat → Int32} {n m : Nat} {a b w : Int} (h : a < 0 ∨ b < 0 ∨ n < a + w ∨ m < b + w) : jSaB f n g m a b w = false := by
  rcases Bool.eq_false_or_eq_true (jSaB f n g m a b w) with q | q
  · exfalso
    unfold jSaB at q
    rw [Bool.and_eq_true, Bool.and_eq_true, Bool.and_eq_true, Bool.and_eq_true] at q
    have q1 := of_decide_eq_true q.1
    have q2 := of_decide_eq_true q.2.1
    have q3 := of_decide_eq_true q.2.2.1
    have q4 := of_decide_eq_true q.2.2.2.1
    omega
  · exact q
theorem jSaB.no2 {f g : Nat → Int32} {n m : Nat} {a b w : Int} (i : Int) (h0 : 0 ≤ i) (h1 : i < w) (h : jSo f (a + i) ≠ jSo g (b + i)) : jSaB f n g m a b w = false := by
  rcases Bool.eq_false_or_eq_true (jSaB f n g m a b w) with q | q
  · exfalso
    unfold jSaB at q
    rw [Bool.and_eq_true, Bool.and_eq_true, Bool.and_eq_true, Bool.and_eq_true] at q
    have q5 := List.all_eq_true.mp q.2.2.2.2 i.toNat (List.mem_range.mpr (by omega))
    have q6 := of_decide_eq_true q5
    rw [show ((i.toNat : Nat) : Int) = i by omega] at q6
    exact h q6
  · exact q
def jSq (f g : Nat → Int32) (a b i : Int) : Prop := ∀ j : Int, 0 ≤ j → j < i → jSo f (a + j) = jSo g (b + j)
theorem jSq.zero {f g : Nat → Int32} {a b i : Int} (h : i ≤ 0) : jSq f g a b i := fun j h0 h1 => by omega
theorem jSq.step {f g : Nat → Int32} {a b i i1 : Int} (h : jSq f g a b i) (hi : i1 = i + 1) (he : jSo f (a + i) = jSo g (b + i)) : jSq f g a b i1 := fun j h0 h1 => by
  by_cases e : j = i
  · subst e; exact he
  · exact h j h0 (by omega)
def jTc (S : Int → Bool) (w n : Int) : Nat → Int → Int
  | 0, _ => 0
  | k + 1, i => if n ≤ i then 0 else if S i = true then 1 + jTc S w n k (i + w) else jTc S w n k (i + 1)
theorem jTc.fuel {S : Int → Bool} {w n : Int} (hw : 1 ≤ w) : ∀ (k1 k2 : Nat) (i : Int), n - i ≤ k1 → n - i ≤ k2 → jTc S w n k1 i = jTc S w n k2 i
  | 0, 0, i, _, _ => rfl
  | 0, k2 + 1, i, h1, _ => by
    show 0 = (if n ≤ i then 0 else if S i = true then 1 + jTc S w n k2 (i + w) else jTc S w n k2 (i + 1))
    rw [if_pos (by omega)]
  | k1 + 1, 0, i, _, h2 => by
    show (if n ≤ i then 0 else if S i = true then 1 + jTc S w n k1 (i + w) else jTc S w n k1 (i + 1)) = 0
    rw [if_pos (by omega)]
  | k1 + 1, k2 + 1, i, h1, h2 => by
    show (if n ≤ i then 0 else if S i = true then 1 + jTc S w n k1 (i + w) else jTc S w n k1 (i + 1)) = (if n ≤ i then 0 else if S i = true then 1 + jTc S w n k2 (i + w) else jTc S w n k2 (i + 1))
    by_cases h : n ≤ i
    · rw [if_pos h, if_pos h]
    · rw [if_neg h, if_neg h, jTc.fuel hw k1 k2 (i + w) (by omega) (by omega), jTc.fuel hw k1 k2 (i + 1) (by omega) (by omega)]
def jTn (S : Int → Bool) (w n i : Int) : Int := jTc S w n (n - i).toNat i
theorem jTn.end {S : Int → Bool} {w n i : Int} (h : n ≤ i) : jTn S w n i = 0 := by
  unfold jTn
  rw [show (n - i).toNat = 0 by omega]
  rfl
theorem jTn.hit {S : Int → Bool} {w n i : Int} (hw : 1 ≤ w) (h : i < n) (hs : S i = true) : jTn S w n i = 1 + jTn S w n (i + w) := by
  unfold jTn
  rw [show (n - i).toNat = (n - i - 1).toNat + 1 by omega]
  show (if n ≤ i then 0 else if S i = true then 1 + jTc S w n (n - i - 1).toNat (i + w) else jTc S w n (n - i - 1).toNat (i + 1)) = _
  rw [if_neg (by omega), if_pos hs, jTc.fuel hw (n - i - 1).toNat (n - (i + w)).toNat (i + w) (by omega) (by omega)]
theorem jTn.miss {S : Int → Bool} {w n i : Int} (hw : 1 ≤ w) (h : i < n) (hs : S i = false) : jTn S w n i = jTn S w n (i + 1) := by
  unfold jTn
  rw [show (n - i).toNat = (n - i - 1).toNat + 1 by omega]
  show (if n ≤ i then 0 else if S i = true then 1 + jTc S w n (n - i - 1).toNat (i + w) else jTc S w n (n - i - 1).toNat (i + 1)) = _
  rw [if_neg (by omega), if_neg (by rw [hs]; exact Bool.false_ne_true), jTc.fuel hw (n - i - 1).toNat (n - (i + 1)).toNat (i + 1) (by omega) (by omega)]
theorem jTn.bd {S : Int → Bool} {w n : Int} (hw : 1 ≤ w) (hS : ∀ i, S i = true → i + w ≤ n) : ∀ (k : Nat) (i : Int), n - i ≤ k → i ≤ n → 0 ≤ jTn S w n i ∧ i + jTn S w n i * w ≤ n
  | 0, i, h, h2 => by
    rw [jTn.end (by omega)]
    omega
  | k + 1, i, h, h2 => by
    by_cases e : n ≤ i
    · rw [jTn.end e]
      omega
    · rcases Bool.eq_false_or_eq_true (S i) with hs | hs
      · have h3 := hS i hs
        obtain ⟨q1, q2⟩ := jTn.bd hw hS k (i + w) (by omega) h3
        rw [jTn.hit hw (by omega) hs, Int.add_mul, Int.one_mul]
        omega
      · obtain ⟨q1, q2⟩ := jTn.bd hw hS k (i + 1) (by omega) (by omega)
        rw [jTn.miss hw (by omega) hs]
        refine ⟨q1, ?_⟩
        omega
abbrev jSp (f : Nat → Int32) (n : Nat) (g : Nat → Int32) (m : Nat) (w : Int) : Int → Bool := fun x => jSaB f n g m x 1 w
/-- the first pass: i is reached, c were found -/
def jR1 (f : Nat → Int32) (n : Nat) (g : Nat → Int32) (m : Nat) (w i c : Int) : Prop := 0 ≤ c ∧ c ≤ i ∧ i ≤ n ∧ c + jTn (jSp f n g m w) w n i = jTn (jSp f n g m w) w n 0
theorem jR1.zero {f g : Nat → Int32} {n m : Nat} {w i c : Int} (hi : i = 0) (hc : c = 0) : jR1 f n g m w i c := by
  subst hi; subst hc
  exact ⟨by omega, by omega, by omega, Int.zero_add _⟩
theorem jR1.hit {f g : Nat → Int32} {n m : Nat} {w i c i1 c1 : Int} (h : jR1 f n g m w i c) (hw : 1 ≤ w) (hn : i < n) (hs : jSaB f n g m i 1 w = true) (hi : i1 = i + w) (hc : c1 = c + 1) : jR1 f n g m w i1 c1 := by
  obtain ⟨h1, h2, h3, h4⟩ := h
  have h5 := jSaB.in hs
  rw [jTn.hit (S := jSp f n g m w) hw hn hs] at h4
  subst hi; subst hc
  exact ⟨by omega, by omega, by omega, by omega⟩
theorem jR1.miss {f g : Nat → Int32} {n m : Nat} {w i c i1 c1 : Int} (h : jR1 f n g m w i c) (hw : 1 ≤ w) (hn : i < n) (hs : jSaB f n g m i 1 w = false) (hi : i1 = i + 1) (hc : c1 = c) : jR1 f n g m w i1 c1 := by
  obtain ⟨h1, h2, h3, h4⟩ := h
  rw [jTn.miss (S := jSp f n g m w) hw hn hs] at h4
  subst hi; subst hc
  exact ⟨by omega, by omega, by omega, by omega⟩
theorem jR1.bd {f g : Nat → Int32} {n m : Nat} {w i c : Int} (h : jR1 f n g m w i c) : 0 ≤ c ∧ c ≤ i ∧ i ≤ n := ⟨h.1, h.2.1, h.2.2.1⟩
/-- how long what comes will be -/
def jRz (f : Nat → Int32) (n : Nat) (g : Nat → Int32) (m : Nat) (w b z : Int) : Prop := z = n + jTn (jSp f n g m w) w n 0 * (b - w)
theorem jR1.size {f g : Nat → Int32} {n m : Nat} {w i c b y d : Int} (h : jR1 f n g m w i c) (hi : n ≤ i) (hy : y = n) (hd : d = b - w) : jRz f n g m w b (y + c * d) := by
  obtain ⟨h1, h2, h3, h4⟩ := h
  rw [jTn.end hi, Int.add_zero] at h4
  unfold jRz
  rw [hy, h4, hd]
/-- the second pass: i is reached, at are written -/
def jR2 (f : Nat → Int32) (n : Nat) (g : Nat → Int32) (m : Nat) (w b i at_ : Int) : Prop := 0 ≤ i ∧ i ≤ n ∧ at_ = i + (jTn (jSp f n g m w) w n 0 - jTn (jSp f n g m w) w n i) * (b - w)
theorem jR2.zero {f g : Nat → Int32} {n m : Nat} {w b i t : Int} (hi : i = 0) (ht : t = 0) : jR2 f n g m w b i t := by
  subst hi; subst ht
  refine ⟨by omega, by omega, ?_⟩
  rw [Int.sub_self, Int.zero_mul]
  rfl
theorem jR2.hit {f g : Nat → Int32} {n m : Nat} {w b i t i1 t1 : Int} (h : jR2 f n g m w b i t) (hw : 1 ≤ w) (hn : i < n) (hs : jSaB f n g m i 1 w = true) (hi : i1 = i + w) (ht : t1 = t + b) : jR2 f n g m w b i1 t1 := by
  obtain ⟨h1, h2, h3⟩ := h
  have h5 := jSaB.in hs
  subst hi; subst ht
  refine ⟨by omega, by omega, ?_⟩
  rw [jTn.hit (S := jSp f n g m w) hw hn hs] at h3
  generalize jTn (jSp f n g m w) w n 0 = T0 at h3 ⊢
  generalize jTn (jSp f n g m w) w n (i + w) = T1 at h3 ⊢
  rw [h3, show T0 - T1 = (T0 - (1 + T1)) + 1 by omega, Int.add_mul, Int.one_mul]
  omega
theorem jR2.miss {f g : Nat → Int32} {n m : Nat} {w b i t i1 t1 : Int} (h : jR2 f n g m w b i t) (hw : 1 ≤ w) (hn : i < n) (hs : jSaB f n g m i 1 w = false) (hi : i1 = i + 1) (ht : t1 = t + 1) : jR2 f n g m w b i1 t1 := by
  obtain ⟨h1, h2, h3⟩ := h
  subst hi; subst ht
  rw [jTn.miss (S := jSp f n g m w) hw hn hs] at h3
  refine ⟨by omega, by omega, ?_⟩
  rw [h3]
  omega
theorem jR2.fit {f g : Nat → Int32} {n m : Nat} {w b i t z : Int} (h : jR2 f n g m w b i t) (hz : jRz f n g m w b z) (hw : 1 ≤ w) (hb : 0 ≤ b) (hn : i < n) (hs : jSaB f n g m i 1 w = true) : t + b ≤ z := by
  obtain ⟨h1, h2, h3⟩ := h
  have h5 := jSaB.in hs
  have h6 := jTn.bd (S := jSp f n g m w) (n := n) hw (fun i hi => (jSaB.in hi).2) (n : Int).toNat (i + w) (by omega) h5.2
  unfold jRz at hz
  rw [jTn.hit (S := jSp f n g m w) hw hn hs] at h3
  generalize jTn (jSp f n g m w) w n 0 = T0 at h3 hz
  generalize jTn (jSp f n g m w) w n (i + w) = T1 at h3 h6
  have h7 : 0 ≤ T1 * b := Int.mul_nonneg h6.1 hb
  have h8 : (T0 - (1 + T1)) * (b - w) = T0 * (b - w) - (b - w) - (T1 * b - T1 * w) := by rw [Int.sub_mul, Int.add_mul, Int.one_mul, Int.mul_sub T1]; omega
  rw [h3, hz, h8]
  omega
theorem jR2.bd {f g : Nat → Int32} {n m : Nat} {w b i t : Int} (h : jR2 f n g m w b i t) : 0 ≤ i ∧ i ≤ n := ⟨h.1, h.2.1⟩
