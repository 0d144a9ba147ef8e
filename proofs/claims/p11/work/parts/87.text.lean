-- how a text is parted, as functions
def jBlk (x : Int) : Int := if x = 32 ∨ x = 9 ∨ x = 10 ∨ x = 13 then 1 else 0
theorem jBlk_le (x : Int) : 0 ≤ jBlk x ∧ jBlk x ≤ 1 := by unfold jBlk; split <;> omega
theorem jOpI_le (f : Nat → Int32) (i n : Int) : 0 ≤ jOpI f i n ∧ jOpI f i n ≤ 1 := by unfold jOpI; split <;> omega
def jBcc (f : Nat → Int32) (n i : Int) : Int := jBc f n ((n - i).toNat + 1) i 0
def jGa (f : Nat → Int32) (n : Int) : Nat → Int → Int
  | 0, _ => n
  | k + 1, i => if i < n then (if jBlk (jSo f i) = 1 then jGa f n k (i + 1) else if jOpI f i n = 1 ∧ 0 ≤ jBcc f n i then jGa f n k (jBcc f n i) else i) else n
theorem jGa_s {f : Nat → Int32} {n i : Int} {k : Nat} (hk : 0 < k) : jGa f n k i = if i < n then (if jBlk (jSo f i) = 1 then jGa f n (k - 1) (i + 1) else if jOpI f i n = 1 ∧ 0 ≤ jBcc f n i then jGa f n (k - 1) (jBcc f n i) else i) else n := by
  cases k with
  | zero => omega
  | succ k => rfl
theorem jGa_b {f : Nat → Int32} {n i i1 : Int} {k : Nat} (hk : 0 < k) (hi : i < n) (hb : jBlk (jSo f i) = 1) (e : i1 = i + 1) : jGa f n (k - 1) i1 = jGa f n k i := by rw [jGa_s hk, if_pos hi, if_pos hb, e]
theorem jGa_c {f : Nat → Int32} {n i i1 : Int} {k : Nat} (hk : 0 < k) (hi : i < n) (hb : jBlk (jSo f i) = 0) (ho : jOpI f i n = 1) (h0 : 0 ≤ i1) (e : i1 = jBcc f n i) : jGa f n (k - 1) i1 = jGa f n k i := by
  rw [jGa_s hk, if_pos hi, if_neg (by omega), if_pos ⟨ho, by omega⟩, e]
theorem jGa_x {f : Nat → Int32} {n i r : Int} {k : Nat} (hk : 0 < k) (hi : i < n) (hb : jBlk (jSo f i) = 0) (ho : jOpI f i n = 0 ∨ jBcc f n i < 0) (e : r = i) : r = jGa f n k i := by
  rw [jGa_s hk, if_pos hi, if_neg (by omega), if_neg (by omega), e]
theorem jGa_n {f : Nat → Int32} {n i r : Int} {k : Nat} (hk : 0 < k) (hi : n ≤ i) (e : r = n) : r = jGa f n k i := by rw [jGa_s hk, if_neg (by omega), e]
def jGap (f : Nat → Int32) (n i : Int) : Int := jGa f n ((n - i).toNat + 1) i
def jDt (f : Nat → Int32) (n i : Int) : Int := if jSo f i = 46 ∧ (i + 1 = n ∨ jBlk (jSo f (i + 1)) = 1 ∨ jOpI f (i + 1) n = 1) then 1 else 0
def jSx (f : Nat → Int32) (n : Int) : Nat → Int → Int
  | 0, _ => -1
  | k + 1, i => if i < n then (if jOpI f i n = 1 then (if jBcc f n i < 0 then -1 else jSx f n k (jBcc f n i)) else if jDt f n i = 1 then i + 1 else jSx f n k (i + 1)) else -1
theorem jSx_s {f : Nat → Int32} {n i : Int} {k : Nat} (hk : 0 < k) : jSx f n k i = if i < n then (if jOpI f i n = 1 then (if jBcc f n i < 0 then -1 else jSx f n (k - 1) (jBcc f n i)) else if jDt f n i = 1 then i + 1 else jSx f n (k - 1) (i + 1)) else -1 := by
  cases k with
  | zero => omega
  | succ k => rfl
theorem jSx_c {f : Nat → Int32} {n i i1 : Int} {k : Nat} (hk : 0 < k) (hi : i < n) (ho : jOpI f i n = 1) (h0 : 0 ≤ i1) (e : i1 = jBcc f n i) : jSx f n (k - 1) i1 = jSx f n k i := by rw [jSx_s hk, if_pos hi, if_pos ho, if_neg (by omega), e]
theorem jSx_u {f : Nat → Int32} {n i r b : Int} {k : Nat} (hk : 0 < k) (hi : i < n) (ho : jOpI f i n = 1) (h0 : b < 0) (e : b = jBcc f n i) (er : r = -1) : r = jSx f n k i := by rw [jSx_s hk, if_pos hi, if_pos ho, if_pos (by omega), er]
theorem jSx_n {f : Nat → Int32} {n i i1 : Int} {k : Nat} (hk : 0 < k) (hi : i < n) (ho : jOpI f i n = 0) (hd : jDt f n i = 0) (e : i1 = i + 1) : jSx f n (k - 1) i1 = jSx f n k i := by rw [jSx_s hk, if_pos hi, if_neg (by omega), if_neg (by omega), e]
theorem jSx_d {f : Nat → Int32} {n i r : Int} {k : Nat} (hk : 0 < k) (hi : i < n) (ho : jOpI f i n = 0) (hd : jDt f n i = 1) (e : r = i + 1) : r = jSx f n k i := by rw [jSx_s hk, if_pos hi, if_neg (by omega), if_pos hd, e]
theorem jSx_o {f : Nat → Int32} {n i r : Int} {k : Nat} (hk : 0 < k) (hi : n ≤ i) (e : r = -1) : r = jSx f n k i := by rw [jSx_s hk, if_neg (by omega), e]
theorem jDt_1 {f : Nat → Int32} {n i : Int} (h : jSo f i = 46) (h1 : i + 1 = n ∨ jBlk (jSo f (i + 1)) = 1 ∨ jOpI f (i + 1) n = 1) : jDt f n i = 1 := by unfold jDt; rw [if_pos ⟨h, h1⟩]
theorem jDt_0 {f : Nat → Int32} {n i : Int} (h : jSo f i ≠ 46 ∨ (i + 1 ≠ n ∧ jBlk (jSo f (i + 1)) = 0 ∧ jOpI f (i + 1) n = 0)) : jDt f n i = 0 := by unfold jDt; rw [if_neg (by omega)]
def jSen (f : Nat → Int32) (n i : Int) : Int := jSx f n ((n - i).toNat + 1) i
/-- where a sentence ends, and the next one begins; how many there are -/
def jEn (f : Nat → Int32) (n i : Int) : Int := if jSen f n i < 0 then n else jSen f n i
def jPn (f : Nat → Int32) (n : Int) : Nat → Int → Int → Int
  | 0, _, c => c
  | k + 1, i, c => if i < n then (if c = 39 then 40 else jPn f n k (jGap f n (jEn f n i)) (c + 1)) else c
theorem jPn_s {f : Nat → Int32} {n i c : Int} {k : Nat} (hk : 0 < k) : jPn f n k i c = if i < n then (if c = 39 then 40 else jPn f n (k - 1) (jGap f n (jEn f n i)) (c + 1)) else c := by
  cases k with
  | zero => omega
  | succ k => rfl
theorem jPn_m {f : Nat → Int32} {n i i1 c c1 : Int} {k : Nat} (hk : 0 < k) (hi : i < n) (hc : c ≠ 39) (e : i1 = jGap f n (jEn f n i)) (ec : c1 = c + 1) : jPn f n (k - 1) i1 c1 = jPn f n k i c := by rw [jPn_s hk, if_pos hi, if_neg hc, e, ec]
theorem jPn_l {f : Nat → Int32} {n i i1 c c1 : Int} {k k1 : Nat} (hk : 0 < k) (hk1 : 0 < k1) (hi : i < n) (hc : c = 39) (e : n ≤ i1) (ec : c1 = 40) : jPn f n k1 i1 c1 = jPn f n k i c := by rw [jPn_s hk, if_pos hi, if_pos hc, jPn_s hk1, if_neg (by omega), ec]
theorem jPn_o {f : Nat → Int32} {n i c r : Int} {k : Nat} (hk : 0 < k) (hi : n ≤ i) (e : r = c) : r = jPn f n k i c := by rw [jPn_s hk, if_neg (by omega), e]
def jPar (f : Nat → Int32) (n : Int) : Int := jPn f n ((n - jGap f n 0).toNat + 2) (jGap f n 0) 0
/-- sentences in order: s of them, all within u -/
def jSrt (b e : Nat → Int32) (s u : Int) : Prop := ∀ k : Int, 0 ≤ k → k < s → 0 ≤ jSo b k ∧ jSo b k ≤ jSo e k ∧ jSo e k ≤ u ∧ (k + 1 < s → jSo e k ≤ jSo b (k + 1))
theorem jSrt.nil (b e : Nat → Int32) (u : Int) : jSrt b e 0 u := fun k h0 h1 => by omega
theorem jSrt.up {b e : Nat → Int32} {s u v : Int} (h : jSrt b e s u) (hv : u ≤ v) : jSrt b e s v := fun k h0 h1 => by
  obtain ⟨a1, a2, a3, a4⟩ := h k h0 h1
  exact ⟨a1, a2, by omega, a4⟩
theorem jSrt.app {b e b1 e1 : Nat → Int32} {s m i x u : Int} (h : jSrt b e s i) (hb : jUpd 40 b b1 s i) (he : jUpd 40 e e1 s x) (h0 : 0 ≤ s) (h40 : s < 40) (hi : 0 ≤ i) (hx : i ≤ x) (hu : x ≤ u) (hm : m = s + 1) : jSrt b1 e1 m u := fun k q0 q1 => by
  by_cases q : k = s
  · rw [q, hb.1, he.1]; exact ⟨hi, hx, hu, fun w => by omega⟩
  · obtain ⟨a1, a2, a3, a4⟩ := h k q0 (by omega)
    rw [hb.2 k q0 (by omega) q, he.2 k q0 (by omega) q]
    refine ⟨a1, a2, by omega, fun w => ?_⟩
    by_cases q2 : k + 1 = s
    · rw [q2, hb.1]; exact a3
    · rw [hb.2 (k + 1) (by omega) (by omega) q2]; exact a4 (by omega)
theorem jUpd.two {n : Int} {f g h : Nat → Int32} {i v w : Int} (h1 : jUpd n f g i v) (h2 : jUpd n g h i w) : jUpd n f h i w := ⟨h2.1, fun j q0 q1 q2 => (h2.2 j q0 q1 q2).trans (h1.2 j q0 q1 q2)⟩
