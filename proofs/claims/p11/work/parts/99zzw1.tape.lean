-- p11: bits; the tape on both sides; bytes read as UTF-8; the text that comes of them
theorem jb_a255 {x z : Int32} (e : z = x &&& 255) : z.toInt = x.toInt % 256 := by
  have h := pk_and x (m := 255) 8 (by decide)
  have hb := x.toBitVec.isLt
  have hx := ji_toInt x
  rw [e, h, nI_toInt (by omega), hx]
  split <;> omega
theorem jb_a63 {x z : Int32} (e : z = x &&& 63) : z.toInt = x.toInt % 64 := by
  have h := pk_and x (m := 63) 6 (by decide)
  have hb := x.toBitVec.isLt
  have hx := ji_toInt x
  rw [e, h, nI_toInt (by omega), hx]
  split <;> omega
theorem jb_a31 {x z : Int32} (e : z = x &&& 31) : z.toInt = x.toInt % 32 := by
  have h := pk_and x (m := 31) 5 (by decide)
  have hb := x.toBitVec.isLt
  have hx := ji_toInt x
  rw [e, h, nI_toInt (by omega), hx]
  split <;> omega
theorem jb_a7 {x z : Int32} (e : z = x &&& 7) : z.toInt = x.toInt % 8 := by
  have h := pk_and x (m := 7) 3 (by decide)
  have hb := x.toBitVec.isLt
  have hx := ji_toInt x
  rw [e, h, nI_toInt (by omega), hx]
  split <;> omega
theorem jb_a1023 {x z : Int32} (e : z = x &&& 1023) : z.toInt = x.toInt % 1024 := by
  have h := pk_and x (m := 1023) 10 (by decide)
  have hb := x.toBitVec.isLt
  have hx := ji_toInt x
  rw [e, h, nI_toInt (by omega), hx]
  split <;> omega
theorem jb_shr10 {x z : Int32} (e : z = x >>> ((10 : Int32) &&& 31)) (h : 0 ≤ x.toInt) : z.toInt = x.toInt / 1024 := by
  obtain ⟨n, hn, ex, ex2⟩ := jN_of h
  rw [e, ex, pk_shrN hn _ 10 (by decide), nI_toInt (by omega), ← ex, ex2]
  omega
theorem jb_or64 {x y z : Int32} (e : z = x ||| y) (q : Int) (hx : x.toInt = q * 64) (h0 : 0 ≤ q) (hq : q < 16777216) (hy : 0 ≤ y.toInt) (hy1 : y.toInt < 64) : z.toInt = q * 64 + y.toInt := by
  obtain ⟨n, hn, ex, ex2⟩ := jN_of (x := x) (by omega)
  obtain ⟨m, hm, ey, ey2⟩ := jN_of hy
  have h1 : n ||| m < 2 ^ 31 := Nat.or_lt_two_pow hn hm
  have h2 : n = q.toNat <<< 6 := by rw [Nat.shiftLeft_eq]; omega
  have h3 : q.toNat <<< 6 + m = q.toNat <<< 6 ||| m := Nat.shiftLeft_add_eq_or_of_lt (by omega) _
  rw [e, ex, ey, jN_or hn hm, nI_toInt h1, h2, ← h3, ← ey, ey2, ← h2]
  omega
theorem jb_c0 : ∀ n : Nat, n < 256 → (((nI n) &&& 192).toInt = 128 ↔ (128 ≤ n ∧ n ≤ 191)) := by decide +kernel
theorem jb_a192 {x z : Int32} (e : z = x &&& 192) (h0 : 0 ≤ x.toInt) (h1 : x.toInt < 256) : (z.toInt = 128 ∧ 128 ≤ x.toInt ∧ x.toInt ≤ 191) ∨ (z.toInt ≠ 128 ∧ (x.toInt < 128 ∨ 191 < x.toInt)) := by
  obtain ⟨n, hn, ex, ex2⟩ := jN_of h0
  have h := jb_c0 n (by omega)
  rw [e, ex2]
  rw [← ex] at h
  by_cases q : 128 ≤ n ∧ n ≤ 191
  · exact Or.inl ⟨h.mpr q, by omega, by omega⟩
  · exact Or.inr ⟨fun w => q (h.mp w), by omega⟩
theorem jb_s63 {k s z : Int32} (e : z = (63 : Int32) >>> (s &&& 31)) (h : s.toInt = 1 ∨ s.toInt = 2 ∨ s.toInt = 3) : (s.toInt = 1 ∧ z = 31) ∨ (s.toInt = 2 ∧ z = 15) ∨ (s.toInt = 3 ∧ z = 7) := by
  rcases h with h | h | h
  · obtain rfl : s = 1 := Int32.toInt_inj.mp (by rw [h]; decide)
    exact Or.inl ⟨h, by rw [e]; decide⟩
  · obtain rfl : s = 2 := Int32.toInt_inj.mp (by rw [h]; decide)
    exact Or.inr (Or.inl ⟨h, by rw [e]; decide⟩)
  · obtain rfl : s = 3 := Int32.toInt_inj.mp (by rw [h]; decide)
    exact Or.inr (Or.inr ⟨h, by rw [e]; decide⟩)
/-- a byte of x -/
def jVby (x k : Int) : Int := (x / (if k = 24 then 16777216 else if k = 16 then 65536 else if k = 8 then 256 else 1)) % 256
theorem jVby.of {x s z : Int32} {k : Int} (e : z = x >>> (s &&& 31)) (h : s.toInt = k) (hk : k = 24 ∨ k = 16 ∨ k = 8 ∨ k = 0) : z.toInt % 256 = jVby x.toInt k := by
  unfold jVby
  rcases hk with hk | hk | hk | hk
  · obtain rfl : s = 24 := Int32.toInt_inj.mp (by rw [h, hk]; decide)
    rw [e, pk_shr _ _ 24 (by decide), Int.shiftRight_eq_div_pow, hk]; first | rfl | (simp; done)
  · obtain rfl : s = 16 := Int32.toInt_inj.mp (by rw [h, hk]; decide)
    rw [e, pk_shr _ _ 16 (by decide), Int.shiftRight_eq_div_pow, hk]; first | rfl | (simp; done)
  · obtain rfl : s = 8 := Int32.toInt_inj.mp (by rw [h, hk]; decide)
    rw [e, pk_shr _ _ 8 (by decide), Int.shiftRight_eq_div_pow, hk]; first | rfl | (simp; done)
  · obtain rfl : s = 0 := Int32.toInt_inj.mp (by rw [h, hk]; decide)
    rw [e, pk_shr _ _ 0 (by decide), Int.shiftRight_eq_div_pow, hk]; first | rfl | (simp; done)
theorem jNb (x : Int32) : (vp_nar .byte x.toInt8.toInt32).toInt % 256 = x.toInt % 256 := by
  rw [pk_vb, Int8.toInt_toInt32, Int32.toInt_toInt8]
  show Int.bmod x.toInt 256 % 256 = _
  unfold Int.bmod
  dsimp only
  split <;> omega
def jB8 (f : Nat → Int32) (i : Int) : Int := jSo f i % 256
theorem jB8.r (f : Nat → Int32) (i : Int) : 0 ≤ jB8 f i ∧ jB8 f i ≤ 255 := by unfold jB8; omega
/-- all but one byte of a row of n stay -/
def jOth (n : Int) (f g : Nat → Int32) (x : Int) : Prop := ∀ j : Int, 0 ≤ j → j < n → j ≠ x → jSo g j = jSo f j
theorem jOth.mk {n : Nat} {f g : Nat → Int32} {e x : Int} (ho : ∀ j, j < n → j ≠ e.toNat → g j = f j) (he : e = x) (h0 : 0 ≤ x) : jOth n f g x := fun j q0 q1 q2 => by
  unfold jSo
  rw [ho j.toNat (by omega) (by omega)]
/-- j bytes of v are put behind p, the highest first -/
def jVpk (f g : Nat → Int32) (p v j : Int) : Prop := (∀ i : Int, 0 ≤ i → i < p → jSo g i = jSo f i) ∧ ∀ k : Int, 0 ≤ k → k < j → jB8 g (p + k) = jVby v (24 - 8 * k)
theorem jVpk.start (f : Nat → Int32) (p v : Int) : jVpk f f p v 0 := ⟨fun _ _ _ => rfl, fun k h0 h1 => by omega⟩
theorem jVpk.step {f g g1 : Nat → Int32} {p j j1 q z s v : Int} (h : jVpk f g p v j) (h0 : 0 ≤ p) (hj : 0 ≤ j) (hq : q = p + j) (h4 : q < 4000) (hz : jSo g1 q % 256 = z % 256) (hs : z % 256 = jVby v s) (es : s = 24 - 8 * j) (ho : jOth 4000 g g1 q) (e : j1 = j + 1) : jVpk f g1 p v j1 := by
  subst e
  refine ⟨fun i q0 q1 => (ho i q0 (by omega) (by omega)).trans (h.1 i q0 q1), fun k q0 q1 => ?_⟩
  by_cases w : k = j
  · subst w; rw [← hq]; unfold jB8; rw [hz, hs, es]
  · have h2 := h.2 k q0 (by omega)
    unfold jB8 at h2 ⊢
    rw [ho (p + k) (by omega) (by omega) (by omega)]; exact h2
def jFv (a b c d e k : Int) : Int := jVby (if k < 4 then a else if k < 8 then b else if k < 12 then c else if k < 16 then d else e) (24 - 8 * (k % 4))
/-- j of the twenty bytes are put behind p -/
def jVfd (f g : Nat → Int32) (p a b c d e j : Int) : Prop := (∀ i : Int, 0 ≤ i → i < p → jSo g i = jSo f i) ∧ ∀ k : Int, 0 ≤ k → k < j → jB8 g (p + k) = jFv a b c d e k
theorem jVfd.start (f : Nat → Int32) (p a b c d e : Int) : jVfd f f p a b c d e 0 := ⟨fun _ _ _ => rfl, fun k h0 h1 => by omega⟩
theorem jVfd.five {f f1 f2 f3 f4 f5 : Nat → Int32} {p p1 p2 p3 p4 a b c d e : Int} (h0 : 0 ≤ p) (h1 : jVpk f f1 p a 4) (e1 : p1 = p + 4) (h2 : jVpk f1 f2 p1 b 4) (e2 : p2 = p + 8) (h3 : jVpk f2 f3 p2 c 4) (e3 : p3 = p + 12) (h4 : jVpk f3 f4 p3 d 4) (e4 : p4 = p + 16) (h5 : jVpk f4 f5 p4 e 4) : jVfd f f5 p a b c d e 20 := by
  subst e1 e2 e3 e4
  refine ⟨fun i q0 q1 => by rw [h5.1 i q0 (by omega), h4.1 i q0 (by omega), h3.1 i q0 (by omega), h2.1 i q0 (by omega), h1.1 i q0 (by omega)], fun k q0 q1 => ?_⟩
  unfold jFv
  by_cases w1 : k < 4
  · have h9 := h1.2 k q0 w1
    rw [if_pos w1, show k % 4 = k by omega, ← h9]
    unfold jB8
    rw [h5.1 (p + k) (by omega) (by omega), h4.1 (p + k) (by omega) (by omega), h3.1 (p + k) (by omega) (by omega), h2.1 (p + k) (by omega) (by omega)]
  · by_cases w2 : k < 8
    · have h9 := h2.2 (k - 4) (by omega) (by omega)
      rw [if_neg w1, if_pos w2, show k % 4 = k - 4 by omega, ← h9, show p + 4 + (k - 4) = p + k by omega]
      unfold jB8
      rw [h5.1 (p + k) (by omega) (by omega), h4.1 (p + k) (by omega) (by omega), h3.1 (p + k) (by omega) (by omega)]
    · by_cases w3 : k < 12
      · have h9 := h3.2 (k - 8) (by omega) (by omega)
        rw [if_neg w1, if_neg w2, if_pos w3, show k % 4 = k - 8 by omega, ← h9, show p + 8 + (k - 8) = p + k by omega]
        unfold jB8
        rw [h5.1 (p + k) (by omega) (by omega), h4.1 (p + k) (by omega) (by omega)]
      · by_cases w4 : k < 16
        · have h9 := h4.2 (k - 12) (by omega) (by omega)
          rw [if_neg w1, if_neg w2, if_neg w3, if_pos w4, show k % 4 = k - 12 by omega, ← h9, show p + 12 + (k - 12) = p + k by omega]
          unfold jB8
          rw [h5.1 (p + k) (by omega) (by omega)]
        · have h9 := h5.2 (k - 16) (by omega) (by omega)
          rw [if_neg w1, if_neg w2, if_neg w3, if_neg w4, show k % 4 = k - 16 by omega, ← h9, show p + 16 + (k - 16) = p + k by omega]
theorem jVfd.step {f g g1 : Nat → Int32} {p j j1 q z s a b c d e v : Int} (h : jVfd f g p a b c d e j) (h0 : 0 ≤ p) (hj : 0 ≤ j) (hq : q = p + j) (h4 : q < 4000) (hz : jSo g1 q = z % 256) (hs : z % 256 = jVby v s) (es : s = 24 - 8 * (j % 4)) (ev : v = if j < 4 then a else if j < 8 then b else if j < 12 then c else if j < 16 then d else e) (ho : jOth 4000 g g1 q) (e1 : j1 = j + 1) : jVfd f g1 p a b c d e j1 := by
  subst e1
  refine ⟨fun i q0 q1 => (ho i q0 (by omega) (by omega)).trans (h.1 i q0 q1), fun k q0 q1 => ?_⟩
  by_cases w : k = j
  · subst w; rw [← hq]; unfold jB8 jFv; rw [hz, ← ev, ← es, ← hs]; omega
  · have h2 := h.2 k q0 (by omega)
    unfold jB8 at h2 ⊢
    rw [ho (p + k) (by omega) (by omega) (by omega)]; exact h2
/-- both tapes have the same n bytes -/
def jTe (f g : Nat → Int32) (n : Int) : Prop := ∀ j : Int, 0 ≤ j → j < n → jB8 f j = jB8 g j
theorem jTe.zero (f g : Nat → Int32) : jTe f g 0 := fun j h0 h1 => by omega
theorem jTe.z {f g : Nat → Int32} {n : Int} (h : n ≤ 0) : jTe f g n := fun j h0 h1 => by omega
theorem jTe.le {f g : Nat → Int32} {n m : Int} (h : jTe f g n) (e : m ≤ n) : jTe f g m := fun j h0 h1 => h j h0 (by omega)
theorem jTe.feed {f f1 g g1 : Nat → Int32} {p p1 m a b c d e a' b' c' d' e' : Int} (h : jTe f g p) (h0 : 0 ≤ p) (hf : jVfd f f1 p a b c d e 20) (hg : jVfd g g1 m a' b' c' d' e' 20) (em : m = p) (ea : a' = a) (eb : b' = b) (ec : c' = c) (ed : d' = d) (ee : e' = e) (e1 : p1 = p + 20) : jTe f1 g1 p1 := fun j q0 q1 => by
  subst em ea eb ec ed ee
  by_cases w : j < m
  · have h9 := h j q0 w
    unfold jB8 at h9 ⊢
    rw [hf.1 j q0 w, hg.1 j q0 w]; exact h9
  · have h1 := hf.2 (j - m) (by omega) (by omega)
    have h2 := hg.2 (j - m) (by omega) (by omega)
    rw [show m + (j - m) = j by omega] at h1 h2
    rw [h1, h2]
/-- UTF-8: how many bytes follow; the bits of the first one; the bytes behind it; the char at a place, -1 when there is none; its bytes -/
def jUm (x : Int) : Int := if 194 ≤ x ∧ x ≤ 223 then 1 else if 224 ≤ x ∧ x ≤ 239 then 2 else if 240 ≤ x ∧ x ≤ 244 then 3 else 0
def jU0 (x m : Int) : Int := if m = 1 then x % 32 else if m = 2 then x % 16 else x % 8
def jUr (b : Int → Int) : Nat → Int → Int → Int
  | 0, _, v => v
  | k + 1, i, v => if 128 ≤ b i ∧ b i ≤ 191 then jUr b k (i + 1) (v * 64 + b i % 64) else -1
theorem jUr_s {b : Int → Int} {k : Nat} {i v : Int} (hk : 0 < k) : jUr b k i v = if 128 ≤ b i ∧ b i ≤ 191 then jUr b (k - 1) (i + 1) (v * 64 + b i % 64) else -1 := by
  cases k with
  | zero => omega
  | succ k => rfl
theorem jUr_n {b : Int → Int} {k : Nat} {i i1 v v1 x : Int} (hk : 0 < k) (hx : x = b i) (h1 : 128 ≤ x) (h2 : x ≤ 191) (ei : i1 = i + 1) (ev : v1 = v * 64 + x % 64) : jUr b (k - 1) i1 v1 = jUr b k i v := by
  rw [jUr_s hk, ← hx, if_pos ⟨h1, h2⟩, ei, ev]
theorem jUr_x {b : Int → Int} {k : Nat} {i v x : Int} (hk : 0 < k) (hx : x = b i) (h : x < 128 ∨ 191 < x) : jUr b k i v = -1 := by
  rw [jUr_s hk, ← hx, if_neg (by omega)]
def jUk (m v : Int) : Int := if v < 0 ∨ (m = 2 ∧ v < 2048) ∨ (m = 3 ∧ v < 65536) ∨ (55296 ≤ v ∧ v ≤ 57343) ∨ 1114111 < v then -1 else v
def jUc (b : Int → Int) (i n : Int) : Int := if b i < 128 then b i else if jUm (b i) = 0 ∨ n ≤ i + jUm (b i) then -1 else jUk (jUm (b i)) (jUr b (jUm (b i)).toNat (i + 1) (jU0 (b i) (jUm (b i))))
theorem jUc_a {b : Int → Int} {i n x : Int} (hx : x = b i) (h : x < 128) : x = jUc b i n := by unfold jUc; rw [← hx, if_pos h]
theorem jUc_m {b : Int → Int} {i n x m r : Int} (hx : x = b i) (h : 128 ≤ x) (hm : m = jUm x) (hz : m = 0 ∨ n ≤ i + m) (er : r = -1) : r = jUc b i n := by unfold jUc; rw [← hx, if_neg (by omega), ← hm, if_pos hz, er]
theorem jUc_k {b : Int → Int} {i n x m v r : Int} (hx : x = b i) (h : 128 ≤ x) (hm : m = jUm x) (h0 : m ≠ 0) (hz : i + m < n) (hv : jUr b m.toNat (i + 1) (jU0 x m) = v) (er : r = jUk m v) : r = jUc b i n := by unfold jUc; rw [← hx, if_neg (by omega), ← hm, if_neg (by omega), hv, er]
theorem jUk_x {m v r : Int} (h : v < 0 ∨ (m = 2 ∧ v < 2048) ∨ (m = 3 ∧ v < 65536) ∨ (55296 ≤ v ∧ v ≤ 57343) ∨ 1114111 < v) (e : r = -1) : r = jUk m v := by unfold jUk; rw [if_pos h, e]
theorem jUk_v {m v r : Int} (h0 : 0 ≤ v) (h2 : m ≠ 2 ∨ 2048 ≤ v) (h3 : m ≠ 3 ∨ 65536 ≤ v) (hs : v < 55296 ∨ 57343 < v) (hl : v ≤ 1114111) (e : r = v) : r = jUk m v := by unfold jUk; rw [if_neg (by omega), e]
def jUz (c : Int) : Int := if c < 128 then 1 else if c < 2048 then 2 else if c < 65536 then 3 else 4
def jUs (c : Int) : Int := if c < 0 then 1 else jUz c
theorem jUs.r (c : Int) : 1 ≤ jUs c ∧ jUs c ≤ 4 := by unfold jUs jUz; split; omega; split; omega; split; omega; split <;> omega
theorem jUr_cg {b d : Int → Int} : ∀ (k : Nat) (i v : Int), (∀ j : Int, i ≤ j → j < i + k → b j = d j) → jUr b k i v = jUr d k i v
  | 0, _, _, _ => rfl
  | k + 1, i, v, h => by
    show (if 128 ≤ b i ∧ b i ≤ 191 then jUr b k (i + 1) (v * 64 + b i % 64) else -1) = if 128 ≤ d i ∧ d i ≤ 191 then jUr d k (i + 1) (v * 64 + d i % 64) else -1
    rw [h i (by omega) (by omega), jUr_cg k (i + 1) _ (fun j q0 q1 => h j (by omega) (by omega))]
theorem jUm.r (x : Int) : 0 ≤ jUm x ∧ jUm x ≤ 3 := by unfold jUm; split; omega; split; omega; split <;> omega
theorem jUc_cg {b d : Int → Int} {i n : Int} (h : ∀ j : Int, i ≤ j → j < n → b j = d j) (hi : i < n) : jUc b i n = jUc d i n := by
  unfold jUc
  rw [h i (by omega) hi]
  by_cases w : d i < 128
  · rw [if_pos w, if_pos w]
  · rw [if_neg w, if_neg w]
    by_cases w2 : jUm (d i) = 0 ∨ n ≤ i + jUm (d i)
    · rw [if_pos w2, if_pos w2]
    · have h3 := jUm.r (d i)
      rw [if_neg w2, if_neg w2, jUr_cg _ (i + 1) _ (fun j q0 q1 => h j (by omega) (by omega))]
/-- the units of a char; of all bytes from a place on -/
def jUu (c : Int) : List Int := if c < 0 then [65533] else if c < 65536 then [c] else [55296 + (c - 65536) / 1024, 56320 + (c - 65536) % 1024]
def jUl (b : Int → Int) (n : Int) : Nat → Int → List Int
  | 0, _ => []
  | k + 1, i => if i < n then jUu (jUc b i n) ++ jUl b n k (i + jUs (jUc b i n)) else []
theorem jUl_s {b : Int → Int} {n i : Int} {k : Nat} (hk : 0 < k) (hi : i < n) : jUl b n k i = jUu (jUc b i n) ++ jUl b n (k - 1) (i + jUs (jUc b i n)) := by
  cases k with
  | zero => omega
  | succ k => exact if_pos hi
theorem jUl_o {b : Int → Int} {n i : Int} : ∀ (k : Nat), n ≤ i → jUl b n k i = []
  | 0, _ => rfl
  | k + 1, h => if_neg (show ¬ i < n by omega)
theorem jUl_cg {b d : Int → Int} {n : Int} (h : ∀ j : Int, 0 ≤ j → j < n → b j = d j) : ∀ (k : Nat) (i : Int), 0 ≤ i → jUl b n k i = jUl d n k i
  | 0, _, _ => rfl
  | k + 1, i, h0 => by
    by_cases w : i < n
    · have h1 := jUs.r (jUc d i n)
      rw [jUl_s (b := b) (k := k + 1) (by omega) w, jUl_s (b := d) (k := k + 1) (by omega) w, jUc_cg (fun j q0 q1 => h j (by omega) q1) w]
      show _ ++ jUl b n k _ = _ ++ jUl d n k _
      rw [jUl_cg h k _ (by omega)]
    · rw [jUl_o _ (by omega), jUl_o _ (by omega)]
def jTl (b : Int → Int) (n : Int) : List Int := jUl b n (n.toNat + 1) 0
theorem jTl_cg {b d : Int → Int} {n : Int} (h : ∀ j : Int, 0 ≤ j → j < n → b j = d j) : jTl b n = jTl d n := jUl_cg h _ 0 (by omega)
/-- g holds the units of P -/
def jVtx (g : Nat → Int32) (P : List Int) : Prop := ∀ j : Int, 0 ≤ j → j < P.length → jSo g j = P.getD j.toNat 0
theorem jVtx.app {g g1 : Nat → Int32} {P : List Int} {c w : Int} (h : jVtx g P) (hw : w = P.length) (ho : ∀ j : Int, 0 ≤ j → j < w → jSo g1 j = jSo g j) (hc : jSo g1 w = c) : jVtx g1 (P ++ [c]) := fun j q0 q1 => by
  have hl : (P ++ [c]).length = P.length + 1 := by simp
  rw [hl] at q1
  by_cases w1 : j < w
  · rw [ho j q0 w1, h j q0 (by omega), List.getD_eq_getElem?_getD, List.getD_eq_getElem?_getD, List.getElem?_append_left (by omega)]
  · have e : j = w := by omega
    subst e
    rw [hc, List.getD_eq_getElem?_getD, List.getElem?_append_right (by omega), show j.toNat - P.length = 0 by omega]
    rfl
/-- the bytes up to i are read, w units are written -/
def jDe (b : Int → Int) (n : Int) (g : Nat → Int32) (w i : Int) : Prop := ∃ (P : List Int) (k : Nat), n - i < k ∧ w = P.length ∧ jVtx g P ∧ P ++ jUl b n k i = jTl b n
theorem jDe.start (b : Int → Int) (n : Int) (g : Nat → Int32) {w i : Int} (hw : w = 0) (hi : i = 0) : jDe b n g w i := by
  subst hw hi
  exact ⟨[], n.toNat + 1, by omega, rfl, fun j h0 h1 => absurd h1 (by show ¬ j < ((0 : Nat) : Int); omega), rfl⟩
theorem jDe.one {b : Int → Int} {n w i c u w1 i1 : Int} {g g1 : Nat → Int32} (h : jDe b n g w i) (hi : i < n) (hc : c = jUc b i n) (h1 : c < 65536) (ho : ∀ j : Int, 0 ≤ j → j < w → jSo g1 j = jSo g j) (hv : jSo g1 w = u) (hu : u = if c < 0 then 65533 else c) (ei : i1 = i + jUs c) (ew : w1 = w + 1) : jDe b n g1 w1 i1 := by
  obtain ⟨P, k, hk, hw, hx, hP⟩ := h
  have hs := jUs.r c
  refine ⟨P ++ [u], k - 1, by omega, by rw [List.length_append, ew, hw]; rfl, hx.app hw ho hv, ?_⟩
  rw [← hP, jUl_s (by omega) hi, ← hc, List.append_assoc, ei]
  congr 2
  unfold jUu
  rw [hu]
  by_cases q : c < 0
  · rw [if_pos q, if_pos q]
  · rw [if_neg q, if_neg q, if_pos h1]
theorem jDe.two {b : Int → Int} {n w i c u v w1 i1 : Int} {g g1 : Nat → Int32} (h : jDe b n g w i) (hi : i < n) (hc : c = jUc b i n) (h1 : 65536 ≤ c) (ho : ∀ j : Int, 0 ≤ j → j < w → jSo g1 j = jSo g j) (hu : jSo g1 w = u) (hv : jSo g1 (w + 1) = v) (eu : u = 55296 + (c - 65536) / 1024) (ev : v = 56320 + (c - 65536) % 1024) (ei : i1 = i + jUs c) (ew : w1 = w + 2) : jDe b n g1 w1 i1 := by
  obtain ⟨P, k, hk, hw, hx, hP⟩ := h
  have hs := jUs.r c
  have hx1 := hx.app hw ho hu
  have hx2 := hx1.app (g1 := g1) (w := w + 1) (by rw [List.length_append, hw]; rfl) (fun _ _ _ => rfl) hv
  refine ⟨P ++ [u] ++ [v], k - 1, by omega, by rw [List.length_append, List.length_append, ew, hw]; show (P.length : Int) + 2 = ((P.length + 1 + 1 : Nat) : Int); omega, hx2, ?_⟩
  rw [← hP, jUl_s (by omega) hi, ← hc, List.append_assoc, List.append_assoc, ei]
  congr 1
  rw [← List.append_assoc]
  congr 1
  unfold jUu
  rw [if_neg (by omega), if_neg (by omega), eu, ev]
  try rfl
theorem jDe.done {b : Int → Int} {n w i : Int} {g : Nat → Int32} (h : jDe b n g w i) (hi : n ≤ i) : w = (jTl b n).length ∧ jVtx g (jTl b n) := by
  obtain ⟨P, k, hk, hw, hx, hP⟩ := h
  rw [jUl_o _ hi, List.append_nil] at hP
  rw [← hP]; exact ⟨hw, hx⟩
theorem jDe.le {b : Int → Int} {n w i : Int} {g : Nat → Int32} (h : jDe b n g w i) : w ≤ (jTl b n).length := by
  obtain ⟨P, k, hk, hw, hx, hP⟩ := h
  rw [← hP, List.length_append, hw]; omega
theorem jDe.long {b : Int → Int} {n w i c s m : Int} {g : Nat → Int32} (h : jDe b n g w i) (hi : i < n) (hc : c = jUc b i n) (hs : (65536 ≤ c ∧ s = 2) ∨ (c < 65536 ∧ s = 1)) (hm : m < w + s) : m < (jTl b n).length := by
  obtain ⟨P, k, hk, hw, hx, hP⟩ := h
  have e : ((jUu c).length : Int) = s := by
    unfold jUu
    rcases hs with ⟨q, e⟩ | ⟨q, e⟩
    · rw [if_neg (by omega), if_neg (by omega), e]; rfl
    · by_cases q2 : c < 0
      · rw [if_pos q2, e]; rfl
      · rw [if_neg q2, if_pos q, e]; rfl
  rw [← hP, jUl_s (by omega) hi, ← hc, List.length_append, List.length_append]
  omega
/-- what a batch of n bytes answers -/
def jBa (b : Int → Int) (n r : Int) : Prop := (1500 < ((jTl b n).length : Int) ∧ r = -2) ∨ (((jTl b n).length : Int) ≤ 1500 ∧ ∃ g : Nat → Int32, jVtx g (jTl b n) ∧ r = jPar g (jTl b n).length)
theorem jBa.long {b : Int → Int} {n r : Int} (h : 1500 < ((jTl b n).length : Int)) (e : r = -2) : jBa b n r := Or.inl ⟨h, e⟩
theorem jBa.part {b : Int → Int} {n r w : Int} {g : Nat → Int32} (hw : w = (jTl b n).length) (h : w ≤ 1500) (hx : jVtx g (jTl b n)) (e : r = jPar g w) : jBa b n r := Or.inr ⟨by omega, g, hx, by rw [e, hw]⟩
theorem jVtx.cg {g g1 : Nat → Int32} {P : List Int} {w : Int} (h : jVtx g P) (hw : w = P.length) (e : ∀ j : Int, 0 ≤ j → j < w → jSo g1 j = jSo g j) : jVtx g1 P := fun j q0 q1 => (e j q0 (by omega)).trans (h j q0 q1)
theorem jBa.uniq {b d : Int → Int} {n m r r1 : Int} (h : jBa b n r) (h1 : jBa d m r1) (em : m = n) (e : ∀ j : Int, 0 ≤ j → j < n → b j = d j) : r = r1 := by
  subst em
  rw [jBa, jTl_cg e] at h
  rcases h with ⟨a1, a2⟩ | ⟨a1, g, a2, a3⟩
  · rcases h1 with ⟨c1, c2⟩ | ⟨c1, g1, c2, c3⟩
    · rw [a2, c2]
    · omega
  · rcases h1 with ⟨c1, c2⟩ | ⟨c1, g1, c2, c3⟩
    · omega
    · rw [a3, c3]
      exact jPar_cg (by omega) (fun i q0 q1 => (a2 i q0 q1).trans (c2 i q0 q1).symm)
theorem jUm.of {x m : Int} (h : (240 ≤ x ∧ m = 3) ∨ (224 ≤ x ∧ x < 240 ∧ m = 2) ∨ (x < 224 ∧ m = 1)) (h1 : 194 ≤ x) (h2 : x ≤ 244) : m = jUm x := by
  unfold jUm
  rcases h with ⟨a, b⟩ | ⟨a, b, c⟩ | ⟨a, b⟩
  · rw [if_neg (by omega), if_neg (by omega), if_pos (by omega)]; exact b
  · rw [if_neg (by omega), if_pos (by omega)]; exact c
  · rw [if_pos (by omega)]; exact b
theorem jUm.bad {x m i n : Int} (h : (240 ≤ x ∧ m = 3) ∨ (224 ≤ x ∧ x < 240 ∧ m = 2) ∨ (x < 224 ∧ m = 1)) (q : x < 194 ∨ 244 < x ∨ n ≤ i + m) : jUm x = 0 ∨ n ≤ i + jUm x := by
  by_cases h1 : 194 ≤ x ∧ x ≤ 244
  · rw [← jUm.of h h1.1 h1.2]; exact Or.inr (by omega)
  · refine Or.inl ?_
    unfold jUm
    rw [if_neg (by omega), if_neg (by omega), if_neg (by omega)]
theorem jUm.ref {x n : Int} (h : (194 ≤ x ∧ x ≤ 223 ∧ n = 2) ∨ (224 ≤ x ∧ x ≤ 239 ∧ n = 3) ∨ (240 ≤ x ∧ x ≤ 244 ∧ n = 4)) : n - 1 = jUm x := by
  unfold jUm
  rcases h with ⟨a, b, c⟩ | ⟨a, b, c⟩ | ⟨a, b, c⟩
  · rw [if_pos (by omega)]; omega
  · rw [if_neg (by omega), if_pos (by omega)]; omega
  · rw [if_neg (by omega), if_neg (by omega), if_pos (by omega)]; omega
theorem jUm.none {x : Int} (h : x < 194 ∨ 244 < x) : jUm x = 0 := by
  unfold jUm
  rw [if_neg (by omega), if_neg (by omega), if_neg (by omega)]
theorem jU0.of {x y z s : Int32} {m : Int} (e : y = (63 : Int32) >>> (s &&& 31)) (e2 : z = x &&& y) (hs : s.toInt = m) (hm : m = 1 ∨ m = 2 ∨ m = 3) : z.toInt = jU0 x.toInt m := by
  unfold jU0
  rcases jb_s63 (k := 0) e (by omega) with ⟨a, b⟩ | ⟨a, b⟩ | ⟨a, b⟩
  · rw [if_pos (by omega)]; exact jb_a31 (by rw [e2, b])
  · rw [if_neg (by omega), if_pos (by omega), e2, b]; exact jb_and15 x
  · rw [if_neg (by omega), if_neg (by omega)]; exact jb_a7 (by rw [e2, b])
theorem jU0.r {x m : Int} (h : m = jUm x) (h1 : 194 ≤ x) (h2 : x ≤ 244) : 0 ≤ jU0 x m ∧ (m ≠ 1 ∨ (2 ≤ jU0 x m ∧ jU0 x m ≤ 31)) ∧ (m ≠ 2 ∨ jU0 x m ≤ 15) ∧ (m ≠ 3 ∨ jU0 x m ≤ 7) := by
  unfold jU0
  unfold jUm at h
  by_cases a : m = 1
  · rw [if_pos a]
    by_cases q : 194 ≤ x ∧ x ≤ 223
    · exact ⟨by omega, Or.inr ⟨by omega, by omega⟩, Or.inl (by omega), Or.inl (by omega)⟩
    · rw [if_neg q] at h
      by_cases q2 : 224 ≤ x ∧ x ≤ 239
      · rw [if_pos q2] at h; omega
      · rw [if_neg q2] at h
        by_cases q3 : 240 ≤ x ∧ x ≤ 244
        · rw [if_pos q3] at h; omega
        · rw [if_neg q3] at h; omega
  · rw [if_neg a]
    by_cases b : m = 2
    · rw [if_pos b]; exact ⟨by omega, Or.inl a, Or.inr (by omega), Or.inl (by omega)⟩
    · rw [if_neg b]; exact ⟨by omega, Or.inl a, Or.inl b, Or.inr (by omega)⟩
theorem jUr_e {b : Int → Int} {k k1 : Nat} {i i1 v v1 : Int} (hk : k = k1) (hi : i = i1) (hv : v = v1) : jUr b k i v = jUr b k1 i1 v1 := by subst hk hi hv; rfl
theorem jUr_z {b : Int → Int} {k : Nat} {i v : Int} (hk : k = 0) : jUr b k i v = v := by subst hk; rfl
/-- how large what is read of n bytes is, k of them read -/
def jUb (n k v : Int) : Prop := 0 ≤ v ∧ ((n = 2 ∧ ((k = 1 ∧ 2 ≤ v ∧ v ≤ 31) ∨ (k = 2 ∧ 128 ≤ v ∧ v ≤ 2047))) ∨ (n = 3 ∧ ((k = 1 ∧ v ≤ 15) ∨ (k = 2 ∧ v ≤ 1023) ∨ (k = 3 ∧ v ≤ 65535))) ∨ (n = 4 ∧ ((k = 1 ∧ v ≤ 7) ∨ (k = 2 ∧ v ≤ 511) ∨ (k = 3 ∧ v ≤ 32767) ∨ (k = 4 ∧ v ≤ 2097151))))
theorem jUb.start {x m n k v : Int} (hm : m = jUm x) (h1 : 194 ≤ x) (h2 : x ≤ 244) (hn : n = m + 1) (h3 : n = 2 ∨ n = 3 ∨ n = 4) (hk : k = 1) (hv : v = jU0 x m) : jUb n k v := by
  obtain ⟨a, b, c, d⟩ := jU0.r hm h1 h2
  rw [← hv] at a b c d
  refine ⟨a, ?_⟩
  rcases h3 with h3 | h3 | h3
  · exact Or.inl ⟨h3, Or.inl ⟨hk, by omega, by omega⟩⟩
  · exact Or.inr (Or.inl ⟨h3, Or.inl ⟨hk, by omega⟩⟩)
  · exact Or.inr (Or.inr ⟨h3, Or.inl ⟨hk, by omega⟩⟩)
theorem jUb.step {n k v k1 v1 y : Int} (h : jUb n k v) (hk : k < n) (h0 : 0 ≤ y) (h1 : y < 64) (ek : k1 = k + 1) (ev : v1 = v * 64 + y) : jUb n k1 v1 := by
  unfold jUb at h ⊢
  omega
theorem jUb.r {n k v : Int} (h : jUb n k v) (hk : k < n) : 0 ≤ v ∧ v ≤ 32767 := by
  unfold jUb at h
  omega
theorem jUb.r0 {n k v : Int} (h : jUb n k v) : 0 ≤ v ∧ v ≤ 2097151 := by
  unfold jUb at h
  omega
theorem jUb.end {n k v : Int} (h : jUb n k v) (hk : k = n) : 0 ≤ v ∧ (n ≠ 2 ∨ (128 ≤ v ∧ v ≤ 2047)) ∧ (n ≠ 3 ∨ v ≤ 65535) ∧ (n ≠ 4 ∨ v ≤ 2097151) := by
  unfold jUb at h
  omega
def jUq (b : Int → Int) (i n r q : Int) : Prop := (r = 0 ∧ jUc b i n < 0) ∨ (1 ≤ r ∧ r ≤ 4 ∧ i + r ≤ n ∧ 0 ≤ q ∧ q = jUc b i n ∧ r = jUz q)
theorem jUq.no {b : Int → Int} {i n r q : Int} (hr : r = 0) (h : -1 = jUc b i n) : jUq b i n r q := Or.inl ⟨hr, by omega⟩
theorem jUq.yes {b : Int → Int} {i n r q : Int} (h1 : 1 ≤ r) (h4 : r ≤ 4) (hn : i + r ≤ n) (h0 : 0 ≤ q) (h : q = jUc b i n) (hz : (r = 1 ∧ q < 128) ∨ (r = 2 ∧ 128 ≤ q ∧ q < 2048) ∨ (r = 3 ∧ 2048 ≤ q ∧ q < 65536) ∨ (r = 4 ∧ 65536 ≤ q)) : jUq b i n r q := by
  refine Or.inr ⟨h1, h4, hn, h0, h, ?_⟩
  unfold jUz
  rcases hz with ⟨a, c⟩ | ⟨a, c, d⟩ | ⟨a, c, d⟩ | ⟨a, c⟩
  · rw [if_pos c]; exact a
  · rw [if_neg (by omega), if_pos d]; exact a
  · rw [if_neg (by omega), if_neg (by omega), if_pos d]; exact a
  · rw [if_neg (by omega), if_neg (by omega), if_neg (by omega)]; exact a
/-- what both make of utfLength's answer: the char, its bytes -/
theorem jUq.of {b : Int → Int} {i n r q : Int} (h : jUq b i n r q) : (r = 0 ∧ jUc b i n < 0 ∧ jUs (jUc b i n) = 1) ∨ (1 ≤ r ∧ 0 ≤ q ∧ q = jUc b i n ∧ jUs (jUc b i n) = r) := by
  rcases h with ⟨a, c⟩ | ⟨a, c, d, e, f, g⟩
  · exact Or.inl ⟨a, c, by unfold jUs; rw [if_pos c]⟩
  · exact Or.inr ⟨a, e, f, by unfold jUs; rw [← f, if_neg (by omega), ← g]⟩
/-- feed on one side -/
def jVff (f g : Nat → Int32) (p q a b c d e : Int) : Prop := (3980 < p ∧ q = p ∧ g = f) ∨ (p ≤ 3980 ∧ q = p + 20 ∧ jVfd f g p a b c d e 20)
theorem jTe.ff {f f1 g g1 : Nat → Int32} {p q m k a b c d e a' b' c' d' e' : Int} (h : jTe f g p) (h0 : 0 ≤ p) (hf : jVff f f1 p q a b c d e) (hg : jVff g g1 m k a' b' c' d' e') (em : m = p) (ea : a' = a) (eb : b' = b) (ec : c' = c) (ed : d' = d) (ee : e' = e) : jTe f1 g1 q := by
  rcases hf with ⟨x1, x2, x3⟩ | ⟨x1, x2, x3⟩
  · rcases hg with ⟨y1, y2, y3⟩ | ⟨y1, y2, y3⟩
    · rw [x3, y3, x2]; exact h
    · omega
  · rcases hg with ⟨y1, y2, y3⟩ | ⟨y1, y2, y3⟩
    · omega
    · exact h.feed h0 x3 y3 em ea eb ec ed ee x2
theorem jIn.or (x a b : Int) : (jIn x a b = 1 ∧ a ≤ x ∧ x ≤ b) ∨ (jIn x a b = 0 ∧ (x < a ∨ b < x)) := by
  unfold jIn
  by_cases h : a ≤ x ∧ x ≤ b
  · rw [if_pos h]; exact Or.inl ⟨rfl, h.1, h.2⟩
  · rw [if_neg h]; exact Or.inr ⟨rfl, by omega⟩
/-- behind the comment that begins at a place, -1 when there is none -/
def jCe (f : Nat → Int32) (n i : Int) : Int := if jOpI f i n = 1 then jBcc f n i else -1
theorem jCe.op {f : Nat → Int32} {n i r : Int} (h : r = jCe f n i) (ho : jOpI f i n = 1) : r = jBcc f n i := by rw [h, jCe, if_pos ho]
theorem jCe.yes {f : Nat → Int32} {n i r : Int} (h : r = jCe f n i) (h0 : 0 ≤ r) : jOpI f i n = 1 ∧ r = jBcc f n i := by
  by_cases q : jOpI f i n = 1
  · exact ⟨q, jCe.op h q⟩
  · rw [jCe, if_neg q] at h; omega
theorem jCe.no {f : Nat → Int32} {n i r : Int} (h : r = jCe f n i) (h0 : r < 0) : jOpI f i n = 0 ∨ jBcc f n i < 0 := by
  have h1 := jOpI_le f i n
  by_cases q : jOpI f i n = 1
  · exact Or.inr (by rw [← jCe.op h q]; exact h0)
  · exact Or.inl (by omega)
theorem jBc_near {f : Nat → Int32} {n i d r : Int} {k : Nat} (hk : n - i < k) (hi : i ≤ n) (h : n ≤ i + 1) (e : r = -1) : r = jBc f n k i d := by
  by_cases q : i < n
  · have h1 : jOpI f i n = 0 := by unfold jOpI; rw [if_neg (by omega)]
    have h2 : jClI f i n = 0 := by unfold jClI; rw [if_neg (by omega)]
    rw [jBc_s (by omega), if_pos q, if_neg (by omega), if_neg (by omega), jBc_s (by omega), if_neg (by omega), e]
  · rw [jBc_s (by omega), if_neg q, e]
/-- sentences counted -/
def jPz (f : Nat → Int32) (n : Int) (k : Nat) (i c : Int) : Prop := (c ≤ 39 ∧ jPn f n k i c = jPar f n) ∨ (c = 40 ∧ jPar f n = 40)
theorem jPz.step {f : Nat → Int32} {n i c i1 c1 : Int} {k : Nat} (h : jPz f n k i c) (hk : 0 < k) (hi : i < n) (hc : c < 40) (e : i1 = jGap f n (jEn f n i)) (ec : c1 = c + 1) : jPz f n (k - 1) i1 c1 := by
  rcases h with ⟨h1, h2⟩ | ⟨h1, h2⟩
  · by_cases q : c = 39
    · refine Or.inr ⟨by omega, ?_⟩
      rw [← h2, jPn_s hk, if_pos hi, if_pos q]
    · exact Or.inl ⟨by omega, (jPn_m hk hi q e ec).trans h2⟩
  · omega
theorem jPz.end {f : Nat → Int32} {n i c : Int} {k : Nat} (h : jPz f n k i c) (hk : 0 < k) (hc : c = 40 ∨ n ≤ i) : c = jPar f n := by
  rcases h with ⟨h1, h2⟩ | ⟨h1, h2⟩
  · rw [← h2]; exact jPn_o hk (by omega) rfl
  · omega
theorem jOth.ho {n x w : Int} {f g : Nat → Int32} (h : jOth n f g x) (hw : w = x) (hn : x ≤ n) : ∀ j : Int, 0 ≤ j → j < w → jSo g j = jSo f j := fun j q0 q1 => h j q0 (by omega) (by omega)
theorem jOth.ho2 {n x y w : Int} {f g g1 : Nat → Int32} (h : jOth n f g x) (h1 : jOth n g g1 y) (hw : w = x) (hy : y = x + 1) (hn : y ≤ n) : ∀ j : Int, 0 ≤ j → j < w → jSo g1 j = jSo f j := fun j q0 q1 => (h1 j q0 (by omega) (by omega)).trans (h j q0 (by omega) (by omega))
theorem jUz4 {c : Int} (h : 65536 ≤ c) : jUz c = 4 := by unfold jUz; rw [if_neg (by omega), if_neg (by omega), if_neg (by omega)]
theorem jDe.oneC {b : Int → Int} {n w i c u w1 i1 : Int} {g g1 : Nat → Int32} (h : jDe b n g w i) (hi : i < n) (hc : c = jUc b i n) (h1 : c < 65536) (ho : ∀ j : Int, 0 ≤ j → j < w → jSo g1 j = jSo g j) (hv : jSo g1 w = u) (hu : (c < 0 ∧ u = 65533) ∨ (0 ≤ c ∧ u = c)) (ei : (c < 0 ∧ i1 = i + 1) ∨ (0 ≤ c ∧ i1 = i + jUz c)) (ew : w1 = w + 1) : jDe b n g1 w1 i1 := by
  refine h.one hi hc h1 ho hv ?_ ?_ ew
  · by_cases q : c < 0
    · rw [if_pos q]; omega
    · rw [if_neg q]; omega
  · unfold jUs
    by_cases q : c < 0
    · rw [if_pos q]; omega
    · rw [if_neg q]; omega
theorem jDe.twoC {b : Int → Int} {n w i c u v w1 i1 : Int} {g g1 : Nat → Int32} (h : jDe b n g w i) (hi : i < n) (hc : c = jUc b i n) (h1 : 65536 ≤ c) (ho : ∀ j : Int, 0 ≤ j → j < w → jSo g1 j = jSo g j) (hu : jSo g1 w = u) (hv : jSo g1 (w + 1) = v) (eu : u = 55296 + (c - 65536) / 1024) (ev : v = 56320 + (c - 65536) % 1024) (ei : i1 = i + 4) (ew : w1 = w + 2) : jDe b n g1 w1 i1 :=
  h.two hi hc h1 ho hu hv eu ev (by unfold jUs; rw [if_neg (by omega), jUz4 h1]; exact ei) ew
def jVdc (b : Int → Int) (n r w : Int) (g : Nat → Int32) : Prop := (r = 0 ∧ 1500 < ((jTl b n).length : Int)) ∨ (r = 1 ∧ w = ((jTl b n).length : Int) ∧ jVtx g (jTl b n))
theorem jVdc.no {b : Int → Int} {n r w : Int} {g : Nat → Int32} (h : jVdc b n r w g) (hr : r = 0) : 1500 < ((jTl b n).length : Int) := by
  rcases h with ⟨a, c⟩ | ⟨a, c, d⟩
  · exact c
  · omega
theorem jVdc.yes {b : Int → Int} {n r w : Int} {g : Nat → Int32} (h : jVdc b n r w g) (hr : r ≠ 0) : w = ((jTl b n).length : Int) ∧ jVtx g (jTl b n) := by
  rcases h with ⟨a, c⟩ | ⟨a, c, d⟩
  · omega
  · exact ⟨c, d⟩
/-- a batch on one side -/
def jVba (b : Int → Int) (p n r : Int) : Prop := ((n < 0 ∨ p < n) ∧ r = -1) ∨ (0 ≤ n ∧ n ≤ p ∧ jBa b n r)
theorem jVba.eq {f g : Nat → Int32} {p q n m r s : Int} (h : jTe f g p) (hf : jVba (jB8 f) p n r) (hg : jVba (jB8 g) q m s) (ep : q = p) (en : m = n) : r = s := by
  subst ep en
  rcases hf with ⟨a, c⟩ | ⟨a, c, d⟩
  · rcases hg with ⟨a1, c1⟩ | ⟨a1, c1, d1⟩
    · rw [c, c1]
    · omega
  · rcases hg with ⟨a1, c1⟩ | ⟨a1, c1, d1⟩
    · omega
    · exact d.uniq d1 rfl (fun j q0 q1 => h j q0 (by omega))
theorem jDe.oneR {b : Int → Int} {n w i u w1 i1 : Int} {g g1 : Nat → Int32} (h : jDe b n g w i) (hi : i < n) (h1 : jUc b i n < 65536) (ho : ∀ j : Int, 0 ≤ j → j < w → jSo g1 j = jSo g j) (hv : jSo g1 w = u) (hu : (jUc b i n < 0 ∧ u = 65533) ∨ (0 ≤ jUc b i n ∧ u = jUc b i n)) (ei : i1 = i + jUs (jUc b i n)) (ew : w1 = w + 1) : jDe b n g1 w1 i1 := by
  refine h.one hi rfl h1 ho hv ?_ ei ew
  by_cases q : jUc b i n < 0
  · rw [if_pos q]; omega
  · rw [if_neg q]; omega
theorem jDe.twoR {b : Int → Int} {n w i u v w1 i1 : Int} {g g1 : Nat → Int32} (h : jDe b n g w i) (hi : i < n) (h1 : 65536 ≤ jUc b i n) (ho : ∀ j : Int, 0 ≤ j → j < w → jSo g1 j = jSo g j) (hu : jSo g1 w = u) (hv : jSo g1 (w + 1) = v) (eu : u = 55296 + (jUc b i n - 65536) / 1024) (ev : v = 56320 + (jUc b i n - 65536) % 1024) (ei : i1 = i + jUs (jUc b i n)) (ew : w1 = w + 2) : jDe b n g1 w1 i1 :=
  h.two hi rfl h1 ho hu hv eu ev ei ew
theorem jUc.r {b : Int → Int} {i n : Int} (h0 : 0 ≤ b i) : -1 ≤ jUc b i n ∧ jUc b i n ≤ 1114111 := by
  unfold jUc
  by_cases w : b i < 128
  · rw [if_pos w]; omega
  · rw [if_neg w]
    by_cases w2 : jUm (b i) = 0 ∨ n ≤ i + jUm (b i)
    · rw [if_pos w2]; omega
    · rw [if_neg w2]
      generalize jUr b (jUm (b i)).toNat (i + 1) (jU0 (b i) (jUm (b i))) = v
      unfold jUk
      by_cases w3 : v < 0 ∨ (jUm (b i) = 2 ∧ v < 2048) ∨ (jUm (b i) = 3 ∧ v < 65536) ∨ (55296 ≤ v ∧ v ≤ 57343) ∨ 1114111 < v
      · rw [if_pos w3]; omega
      · rw [if_neg w3]; omega
theorem jUc.ret {b : Int → Int} {i n r : Int} (h0 : 0 ≤ b i) (h : r = jUc b i n) : r = jUc b i n ∧ -1 ≤ r ∧ r ≤ 1114111 := by
  have h1 := jUc.r (n := n) h0
  exact ⟨h, by omega, by omega⟩
theorem jSoA {f : Nat → Int32} {i j v : Int} (h : jSo f i = v) (e : j = i) : jSo f j = v := by rw [e]; exact h
section JP1
variable {p : Program} {l : Launch} {e : Env} {R : Room} {s : State} {m : MethodId} {args : Array Value} {below : List Frame} {meth : Method} {c : Code} {H : Heap} {locs : List Loc} {cells slots : Nat} {Q : State → Prop}
variable {cc : ByteArray} {pc : Nat} {ls : Array Slot} {rest : List Value} {D : va_G} {cl : List vw_C} {A : Nat → Prop} {a : Nat} {tys : List (ClassId × FieldType)}
theorem j_bastV (hexec : p.tables.exec = Jvm.exec) (hb : c.code = cc) (hK : va_K D cl tys s) (t0 : Nat) {cA : ClassId} {n : Nat} {f : Nat → Int32} (hat : va_at D cl (a, .inl (cA, n, .inl f)) H) (hA : A a) (hL : ∀ q ∈ locs, A q.base) (ht : tys[t0]? = some (cA, .byte)) {i : Int32} {x : Int32} (hin : vp_in i n) (hdg : decode cc pc = .ok (.bastore, 1))
    (kk : ∀ (H1 : Heap) (locs1 : List Loc), va_at D cl (a, .inl (cA, n, .inl (upd f i.toNatClampNeg (vp_nar .byte x)))) H1 → H1.size = H.size → (∀ q, q ≠ a → H1[q]? = H[q]?) → jTot H1 = jTot H → (∀ q ∈ locs1, A q.base) → W p l e R s m args below meth c H1 locs1 cells slots Q (F0 m (pc + 1) ls rest)) : W p l e R s m args below meth c H locs cells slots Q (F0 m pc ls (.int x :: .int i :: .ref a :: rest)) := by
  refine W.bast hexec hb hat ((hK.2 t0 _ ht).1 n (fun j => .int (f j))) (fun q => by cases q) (by show ¬ (i < 0 ∨ (arrV _ _ _).slots.size ≤ _); rw [arrV_size]; exact hin) rfl rfl hdg fun H1 e z oq => ?_
  refine kk H1 _ ?_ z oq (jTot_set z hat e (jSet_sz _ _ _) oq) ?_
  · show H1[a]? = some (vp_cell _ _)
    rw [e]
    rw [vp_cell_i, vp_cell_i, arrV_store]
    congr 2
    funext q
    by_cases hq : q = i.toNatClampNeg
    · subst hq
      simp [updV, upd, vp_nar]
      try rfl
    · simp [updV, upd, hq]
  · intro q hq
    rcases List.mem_append.mp hq with h | h
    · exact hL q h
    · cases List.mem_singleton.mp h; exact hA
end JP1
section JP2
variable {p : Program} {l : Launch} {e : Env} {R : Room} {s : State} {m : MethodId} {args : Array Value} {below : List Frame} {meth : Method} {c : Code} {H : Heap} {locs : List Loc} {cells slots : Nat} {Q : State → Prop}
variable {cc : ByteArray} {pc : Nat} {ls : Array Slot} {rest : List Value} {dC : Nat → ClassId} {dI : Nat → Nat → Nat} {ca : Nat → ClassId} {B : jF} {base : Nat} {G0 G : jT} {E : List (Nat × Nat)} {H0 : Heap} {zc zs : Nat} {L : List jPin} {M : List jCt} {I : List jIv} {a k n : Nat} {cA : ClassId} {tys : List (ClassId × FieldType)}
theorem j7_bastU (hexec : p.tables.exec = Jvm.exec) (hb : c.code = cc) (hK : va_K (dC, dI) vwCl tys s) (hh : jSt (dC, dI) B base G0 G E H0 zc zs L M I H locs) (hB : jBok B) (hBk : ∀ n G a H, B k n G a H ↔ jAr (dC, dI) cA jBf n a H) (t0 : Nat) (ht : tys[t0]? = some (cA, .byte)) (hk : k < 1000) (hk2 : 17 ≤ k) (hE : E.contains (k, 0) = true) (oj : Nat) {kk1 : Nat} {cB : ClassId} {f : Nat → Int32} (hj : M[oj]? = some (a, kk1, n, cB, f)) {M1 : List jCt} (js : List Nat) (hjs : js.map (fun i => M[i]?) = M1.map some) (hM : M1.all (fun q => !(q.2.1 == k)) = true) (hI : I.all (fun q => !(q.1.contains (k, 0))) = true) (ha : G a = some (k, n)) {i v : Int32} {x : Int} (hi : i.toInt = x) (h12 : 0 ≤ x ∧ x < n) (hdg : decode cc pc = .ok (.bastore, 1))
    (kk : ∀ (H1 : Heap) (locs1 : List Loc) (g : Nat → Int32), g x.toNat = vp_nar .byte v → (∀ j, j < n → j ≠ x.toNat → g j = f j) → jSt (dC, dI) B base G0 G E H0 zc zs L ((a, k, n, cA, g) :: M1) I H1 locs1 → W p l e R s m args below meth c H1 locs1 cells slots Q (F0 m (pc + 1) ls rest)) : W p l e R s m args below meth c H locs cells slots Q (F0 m pc ls (.int v :: .int i :: .ref a :: rest)) := by
  obtain ⟨h1, h2⟩ := h12
  obtain ⟨f', g1, g2⟩ := hh.byt hBk hk ha
  obtain ⟨-, -, -, q4⟩ := hh.2.2.2.2.2.2.2.1 _ (List.mem_of_getElem? hj)
  have hh1 : jSt (dC, dI) B base G0 G E H0 zc zs L M1 I H locs := by
    obtain ⟨e1, e2, e3, e4, e5, e6, e7, e8, e9⟩ := hh
    exact ⟨e1, e2, e3, e4, e5, e6, e7, e8.sub js hjs, e9⟩
  refine j_bastV (A := jA base) hexec hb hK t0 g1 (hh.ab ha).1 hh.1.2.2 ht (jb_in hi h1 h2) hdg (fun H1 locs1 hat hsz hfr hT hL => ?_)
  have hfit : sb_Fit (upd f' i.toNatClampNeg (vp_nar .byte v)) := sb_fitU g2 (by rw [vp_nar_byte]; exact pk_fb v)
  have h9 := hh1.arr hB ha hk hk2 hE hM hI hsz hfr hT hL ((hBk _ _ _ _).mpr ⟨_, hat, fun j _ => hfit j⟩)
  refine kk H1 locs1 (upd f' i.toNatClampNeg (vp_nar .byte v)) (by rw [← jb_cl hi h1]; simp [upd]) (fun j hj' hne => ?_) ?_
  · have : j ≠ i.toNatClampNeg := by rw [jb_cl hi h1]; exact hne
    simp only [upd, if_neg this]
    exact (jCt_eq q4 g1 hj').symm
  · obtain ⟨e1, e2, e3, e4, e5, e6, e7, e8, e9⟩ := h9
    refine ⟨e1, e2, e3, e4, e5, e6, e7, fun q hq => ?_, e9⟩
    rcases List.mem_cons.mp hq with e | e
    · subst e; exact ⟨ha, hk2, hk, hat⟩
    · exact e8 q e
end JP2
