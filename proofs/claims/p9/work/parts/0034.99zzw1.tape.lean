section
-- p11: bits; the tape on both sides; bytes read as UTF-8; the text that comes of them
theorem jb_a63 {x z : Int32} (e : z = x &&& 63) : z.toInt = x.toInt % 64 := by
  have h := pk_and x (m := 63) 6 (by decide)
  have hb := x.toBitVec.isLt
  have hx := ji_toInt x
  rw [e, h, nI_toInt (by omega), hx]
  split <;> omega
theorem jb_a31 {x z : Int32} (e : z = x &&& 31) : z.toInt = x.toInt % 32 := by
  have h := pk_and x (m := 31) 5 (by decide)
  have hb := x.toBitVec.isLt
  have hx := ji_toInt x
  rw [e, h, nI_toInt (by omega), hx]
  split <;> omega
theorem jb_a7 {x z : Int32} (e : z = x &&& 7) : z.toInt = x.toInt % 8 := by
  have h := pk_and x (m := 7) 3 (by decide)
  have hb := x.toBitVec.isLt
  have hx := ji_toInt x
  rw [e, h, nI_toInt (by omega), hx]
  split <;> omega
theorem jb_a1023 {x z : Int32} (e : z = x &&& 1023) : z.toInt = x.toInt % 1024 := by
  have h := pk_and x (m := 1023) 10 (by decide)
  have hb := x.toBitVec.isLt
  have hx := ji_toInt x
  rw [e, h, nI_toInt (by omega), hx]
  split <;> omega
theorem jb_shr10 {x z : Int32} (e : z = x >>> ((10 : Int32) &&& 31)) (h : 0 ≤ x.toInt) : z.toInt = x.toInt / 1024 := by
  obtain ⟨n, hn, ex, ex2⟩ := jN_of h
  rw [e, ex, pk_shrN hn _ 10 (by decide), nI_toInt (by omega), ← ex, ex2]
  omega
theorem jb_or64 {x y z : Int32} (e : z = x ||| y) (q : Int) (hx : x.toInt = q * 64) (h0 : 0 ≤ q) (hq : q < 16777216) (hy : 0 ≤ y.toInt) (hy1 : y.toInt < 64) : z.toInt = q * 64 + y.toInt := by
  obtain ⟨n, hn, ex, ex2⟩ := jN_of (x := x) (by omega)
  obtain ⟨m, hm, ey, ey2⟩ := jN_of hy
  have h1 : n ||| m < 2 ^ 31 := Nat.or_lt_two_pow hn hm
  have h2 : n = q.toNat <<< 6 := by rw [Nat.shiftLeft_eq]; omega
  have h3 : q.toNat <<< 6 + m = q.toNat <<< 6 ||| m := Nat.shiftLeft_add_eq_or_of_lt (by omega) _
  rw [e, ex, ey, jN_or hn hm, nI_toInt h1, h2, ← h3, ← ey, ey2, ← h2]
  omega
theorem jb_s63 {k s z : Int32} (e : z = (63 : Int32) >>> (s &&& 31)) (h : s.toInt = 1 ∨ s.toInt = 2 ∨ s.toInt = 3) : (s.toInt = 1 ∧ z = 31) ∨ (s.toInt = 2 ∧ z = 15) ∨ (s.toInt = 3 ∧ z = 7) := by
  rcases h with h | h | h
  · obtain rfl : s = 1 := Int32.toInt_inj.mp (by rw [h]; decide)
    exact Or.inl ⟨h, by rw [e]; decide⟩
  · obtain rfl : s = 2 := Int32.toInt_inj.mp (by rw [h]; decide)
    exact Or.inr (Or.inl ⟨h, by rw [e]; decide⟩)
  · obtain rfl : s = 3 := Int32.toInt_inj.mp (by rw [h]; decide)
    exact Or.inr (Or.inr ⟨h, by rw [e]; decide⟩)
/-- a byte of x -/
def jVby (x k : Int) : Int := (x / (if k = 24 then 16777216 else if k = 16 then 65536 else if k = 8 then 256 else 1)) % 256
theorem jVby.of {x s z : Int32} {k : Int} (e : z = x >>> (s &&& 31)) (h : s.toInt = k) (hk : k = 24 ∨ k = 16 ∨ k = 8 ∨ k = 0) : z.toInt % 256 = jVby x.toInt k := by
  unfold jVby
  rcases hk with hk | hk | hk | hk
  · obtain rfl : s = 24 := Int32.toInt_inj.mp (by rw [h, hk]; decide)
    rw [e, pk_shr _ _ 24 (by decide), Int.shiftRight_eq_div_pow, hk]; first | rfl | (simp; done)
  · obtain rfl : s = 16 := Int32.toInt_inj.mp (by rw [h, hk]; decide)
    rw [e, pk_shr _ _ 16 (by decide), Int.shiftRight_eq_div_pow, hk]; first | rfl | (simp; done)
  · obtain rfl : s = 8 := Int32.toInt_inj.mp (by rw [h, hk]; decide)
    rw [e, pk_shr _ _ 8 (by decide), Int.shiftRight_eq_div_pow, hk]; first | rfl | (simp; done)
  · obtain rfl : s = 0 := Int32.toInt_inj.mp (by rw [h, hk]; decide)
    rw [e, pk_shr _ _ 0 (by decide), Int.shiftRight_eq_div_pow, hk]; first | rfl | (simp; done)
def jB8 (f : Nat → Int32) (i : Int) : Int := jSo f i % 256
theorem jB8.r (f : Nat → Int32) (i : Int) : 0 ≤ jB8 f i ∧ jB8 f i ≤ 255 := by unfold jB8; omega
/-- all but one byte of a row of n stay -/
def jOth (n : Int) (f g : Nat → Int32) (x : Int) : Prop := ∀ j : Int, 0 ≤ j → j < n → j ≠ x → jSo g j = jSo f j
theorem jOth.mk {n : Nat} {f g : Nat → Int32} {e x : Int} (ho : ∀ j, j < n → j ≠ e.toNat → g j = f j) (he : e = x) (h0 : 0 ≤ x) : jOth n f g x := fun j q0 q1 q2 => by
  unfold jSo
  rw [ho j.toNat (by omega) (by omega)]
/-- j bytes of v are put behind p, the highest first -/
def jVpk (f g : Nat → Int32) (p v j : Int) : Prop := (∀ i : Int, 0 ≤ i → i < p → jSo g i = jSo f i) ∧ ∀ k : Int, 0 ≤ k → k < j → jB8 g (p + k) = jVby v (24 - 8 * k)
theorem jVpk.start (f : Nat → Int32) (p v : Int) : jVpk f f p v 0 := ⟨fun _ _ _ => rfl, fun k h0 h1 => by omega⟩
theorem jVpk.step {f g g1 : Nat → Int32} {p j j1 q z s v : Int} (h : jVpk f g p v j) (h0 : 0 ≤ p) (hj : 0 ≤ j) (hq : q = p + j) (h4 : q < 4000) (hz : jSo g1 q % 256 = z % 256) (hs : z % 256 = jVby v s) (es : s = 24 - 8 * j) (ho : jOth 4000 g g1 q) (e : j1 = j + 1) : jVpk f g1 p v j1 := by
  subst e
  refine ⟨fun i q0 q1 => (ho i q0 (by omega) (by omega)).trans (h.1 i q0 q1), fun k q0 q1 => ?_⟩
  by_cases w : k = j
  · subst w; rw [← hq]; unfold jB8; rw [hz, hs, es]
  · have h2 := h.2 k q0 (by omega)
    unfold jB8 at h2 ⊢
    rw [ho (p + k) (by omega) (by omega) (by omega)]; exact h2
def jFv (a b c d e k : Int) : Int := jVby (if k < 4 then a else if k < 8 then b else if k < 12 then c else if k < 16 then d else e) (24 - 8 * (k % 4))
/-- j of the twenty bytes are put behind p -/
def jVfd (f g : Nat → Int32) (p a b c d e j : Int) : Prop := (∀ i : Int, 0 ≤ i → i < p → jSo g i = jSo f i) ∧ ∀ k : Int, 0 ≤ k → k < j → jB8 g (p + k) = jFv a b c d e k
theorem jVfd.start (f : Nat → Int32) (p a b c d e : Int) : jVfd f f p a b c d e 0 := ⟨fun _ _ _ => rfl, fun k h0 h1 => by omega⟩
theorem jVfd.step {f g g1 : Nat → Int32} {p j j1 q z s a b c d e v : Int} (h : jVfd f g p a b c d e j) (h0 : 0 ≤ p) (hj : 0 ≤ j) (hq : q = p + j) (h4 : q < 4000) (hz : jSo g1 q = z % 256) (hs : z % 256 = jVby v s) (es : s = 24 - 8 * (j % 4)) (ev : v = if j < 4 then a else if j < 8 then b else if j < 12 then c else if j < 16 then d else e) (ho : jOth 4000 g g1 q) (e1 : j1 = j + 1) : jVfd f g1 p a b c d e j1 := by
  subst e1
  refine ⟨fun i q0 q1 => (ho i q0 (by omega) (by omega)).trans (h.1 i q0 q1), fun k q0 q1 => ?_⟩
  by_cases w : k = j
  · subst w; rw [← hq]; unfold jB8 jFv; rw [hz, ← ev, ← es, ← hs]; omega
  · have h2 := h.2 k q0 (by omega)
    unfold jB8 at h2 ⊢
    rw [ho (p + k) (by omega) (by omega) (by omega)]; exact h2
/-- both tapes have the same n bytes -/
def jTe (f g : Nat → Int32) (n : Int) : Prop := ∀ j : Int, 0 ≤ j → j < n → jB8 f j = jB8 g j
theorem jTe.z {f g : Nat → Int32} {n : Int} (h : n ≤ 0) : jTe f g n := fun j h0 h1 => by omega
theorem jTe.le {f g : Nat → Int32} {n m : Int} (h : jTe f g n) (e : m ≤ n) : jTe f g m := fun j h0 h1 => h j h0 (by omega)
/-- UTF-8: how many bytes follow; the bits of the first one; the bytes behind it; the char at a place, -1 when there is none; its bytes -/
def jUm (x : Int) : Int := if 194 ≤ x ∧ x ≤ 223 then 1 else if 224 ≤ x ∧ x ≤ 239 then 2 else if 240 ≤ x ∧ x ≤ 244 then 3 else 0
def jU0 (x m : Int) : Int := if m = 1 then x % 32 else if m = 2 then x % 16 else x % 8
def jUr (b : Int → Int) : Nat → Int → Int → Int
  | 0, _, v => v
  | k + 1, i, v => if 128 ≤ b i ∧ b i ≤ 191 then jUr b k (i + 1) (v * 64 + b i % 64) else -1
theorem jUr_s {b : Int → Int} {k : Nat} {i v : Int} (hk : 0 < k) : jUr b k i v = if 128 ≤ b i ∧ b i ≤ 191 then jUr b (k - 1) (i + 1) (v * 64 + b i % 64) else -1 := by
  cases k with
  | zero => omega
  | succ k => rfl
theorem jUr_n {b : Int → Int} {k : Nat} {i i1 v v1 x : Int} (hk : 0 < k) (hx : x = b i) (h1 : 128 ≤ x) (h2 : x ≤ 191) (ei : i1 = i + 1) (ev : v1 = v * 64 + x % 64) : jUr b (k - 1) i1 v1 = jUr b k i v := by
  rw [jUr_s hk, ← hx, if_pos ⟨h1, h2⟩, ei, ev]
theorem jUr_x {b : Int → Int} {k : Nat} {i v x : Int} (hk : 0 < k) (hx : x = b i) (h : x < 128 ∨ 191 < x) : jUr b k i v = -1 := by
  rw [jUr_s hk, ← hx, if_neg (by omega)]
def jUk (m v : Int) : Int := if v < 0 ∨ (m = 2 ∧ v < 2048) ∨ (m = 3 ∧ v < 65536) ∨ (55296 ≤ v ∧ v ≤ 57343) ∨ 1114111 < v then -1 else v
def jUc (b : Int → Int) (i n : Int) : Int := if b i < 128 then b i else if jUm (b i) = 0 ∨ n ≤ i + jUm (b i) then -1 else jUk (jUm (b i)) (jUr b (jUm (b i)).toNat (i + 1) (jU0 (b i) (jUm (b i))))
theorem jUc_a {b : Int → Int} {i n x : Int} (hx : x = b i) (h : x < 128) : x = jUc b i n := by unfold jUc; rw [← hx, if_pos h]
theorem jUc_m {b : Int → Int} {i n x m r : Int} (hx : x = b i) (h : 128 ≤ x) (hm : m = jUm x) (hz : m = 0 ∨ n ≤ i + m) (er : r = -1) : r = jUc b i n := by unfold jUc; rw [← hx, if_neg (by omega), ← hm, if_pos hz, er]
theorem jUc_k {b : Int → Int} {i n x m v r : Int} (hx : x = b i) (h : 128 ≤ x) (hm : m = jUm x) (h0 : m ≠ 0) (hz : i + m < n) (hv : jUr b m.toNat (i + 1) (jU0 x m) = v) (er : r = jUk m v) : r = jUc b i n := by unfold jUc; rw [← hx, if_neg (by omega), ← hm, if_neg (by omega), hv, er]
theorem jUk_x {m v r : Int} (h : v < 0 ∨ (m = 2 ∧ v < 2048) ∨ (m = 3 ∧ v < 65536) ∨ (55296 ≤ v ∧ v ≤ 57343) ∨ 1114111 < v) (e : r = -1) : r = jUk m v := by unfold jUk; rw [if_pos h, e]
theorem jUk_v {m v r : Int} (h0 : 0 ≤ v) (h2 : m ≠ 2 ∨ 2048 ≤ v) (h3 : m ≠ 3 ∨ 65536 ≤ v) (hs : v < 55296 ∨ 57343 < v) (hl : v ≤ 1114111) (e : r = v) : r = jUk m v := by unfold jUk; rw [if_neg (by omega), e]
def jUz (c : Int) : Int := if c < 128 then 1 else if c < 2048 then 2 else if c < 65536 then 3 else 4
def jUs (c : Int) : Int := if c < 0 then 1 else jUz c
theorem jUs.r (c : Int) : 1 ≤ jUs c ∧ jUs c ≤ 4 := by unfold jUs jUz; split; omega; split; omega; split; omega; split <;> omega
theorem jUm.r (x : Int) : 0 ≤ jUm x ∧ jUm x ≤ 3 := by unfold jUm; split; omega; split; omega; split <;> omega
/-- the units of a char; of all bytes from a place on -/
def jUu (c : Int) : List Int := if c < 0 then [65533] else if c < 65536 then [c] else [55296 + (c - 65536) / 1024, 56320 + (c - 65536) % 1024]
def jUl (b : Int → Int) (n : Int) : Nat → Int → List Int
  | 0, _ => []
  | k + 1, i => if i < n then jUu (jUc b i n) ++ jUl b n k (i + jUs (jUc b i n)) else []
theorem jUl_s {b : Int → Int} {n i : Int} {k : Nat} (hk : 0 < k) (hi : i < n) : jUl b n k i = jUu (jUc b i n) ++ jUl b n (k - 1) (i + jUs (jUc b i n)) := by
  cases k with
  | zero => omega
  | succ k => exact if_pos hi
def jTl (b : Int → Int) (n : Int) : List Int := jUl b n (n.toNat + 1) 0
/-- g holds the units of P -/
def jVtx (g : Nat → Int32) (P : List Int) : Prop := ∀ j : Int, 0 ≤ j → j < P.length → jSo g j = P.getD j.toNat 0
theorem jVtx.app {g g1 : Nat → Int32} {P : List Int} {c w : Int} (h : jVtx g P) (hw : w = P.length) (ho : ∀ j : Int, 0 ≤ j → j < w → jSo g1 j = jSo g j) (hc : jSo g1 w = c) : jVtx g1 (P ++ [c]) := fun j q0 q1 => by
  have hl : (P ++ [c]).length = P.length + 1 := by simp
  rw [hl] at q1
  by_cases w1 : j < w
  · rw [ho j q0 w1, h j q0 (by omega), List.getD_eq_getElem?_getD, List.getD_eq_getElem?_getD, List.getElem?_append_left (by omega)]
  · have e : j = w := by omega
    subst e
    rw [hc, List.getD_eq_getElem?_getD, List.getElem?_append_right (by omega), show j.toNat - P.length = 0 by omega]
    rfl
/-- the bytes up to i are read, w units are written -/
def jDe (b : Int → Int) (n : Int) (g : Nat → Int32) (w i : Int) : Prop := ∃ (P : List Int) (k : Nat), n - i < k ∧ w = P.length ∧ jVtx g P ∧ P ++ jUl b n k i = jTl b n
theorem jDe.start (b : Int → Int) (n : Int) (g : Nat → Int32) {w i : Int} (hw : w = 0) (hi : i = 0) : jDe b n g w i := by
  subst hw hi
  exact ⟨[], n.toNat + 1, by omega, rfl, fun j h0 h1 => absurd h1 (by show ¬ j < ((0 : Nat) : Int); omega), rfl⟩
theorem jDe.one {b : Int → Int} {n w i c u w1 i1 : Int} {g g1 : Nat → Int32} (h : jDe b n g w i) (hi : i < n) (hc : c = jUc b i n) (h1 : c < 65536) (ho : ∀ j : Int, 0 ≤ j → j < w → jSo g1 j = jSo g j) (hv : jSo g1 w = u) (hu : u = if c < 0 then 65533 else c) (ei : i1 = i + jUs c) (ew : w1 = w + 1) : jDe b n g1 w1 i1 := by
  obtain ⟨P, k, hk, hw, hx, hP⟩ := h
  have hs := jUs.r c
  refine ⟨P ++ [u], k - 1, by omega, by rw [List.length_append, ew, hw]; rfl, hx.app hw ho hv, ?_⟩
  rw [← hP, jUl_s (by omega) hi, ← hc, List.append_assoc, ei]
  congr 2
  unfold jUu
  rw [hu]
  by_cases q : c < 0
  · rw [if_pos q, if_pos q]
  · rw [if_neg q, if_neg q, if_pos h1]
theorem jDe.two {b : Int → Int} {n w i c u v w1 i1 : Int} {g g1 : Nat → Int32} (h : jDe b n g w i) (hi : i < n) (hc : c = jUc b i n) (h1 : 65536 ≤ c) (ho : ∀ j : Int, 0 ≤ j → j < w → jSo g1 j = jSo g j) (hu : jSo g1 w = u) (hv : jSo g1 (w + 1) = v) (eu : u = 55296 + (c - 65536) / 1024) (ev : v = 56320 + (c - 65536) % 1024) (ei : i1 = i + jUs c) (ew : w1 = w + 2) : jDe b n g1 w1 i1 := by
  obtain ⟨P, k, hk, hw, hx, hP⟩ := h
  have hs := jUs.r c
  have hx1 := hx.app hw ho hu
  have hx2 := hx1.app (g1 := g1) (w := w + 1) (by rw [List.length_append, hw]; rfl) (fun _ _ _ => rfl) hv
  refine ⟨P ++ [u] ++ [v], k - 1, by omega, by rw [List.length_append, List.length_append, ew, hw]; show (P.length : Int) + 2 = ((P.length + 1 + 1 : Nat) : Int); omega, hx2, ?_⟩
  rw [← hP, jUl_s (by omega) hi, ← hc, List.append_assoc, List.append_assoc, ei]
  congr 1
  rw [← List.append_assoc]
  congr 1
  unfold jUu
  rw [if_neg (by omega), if_neg (by omega), eu, ev]
  try rfl
theorem jDe.le {b : Int → Int} {n w i : Int} {g : Nat → Int32} (h : jDe b n g w i) : w ≤ (jTl b n).length := by
  obtain ⟨P, k, hk, hw, hx, hP⟩ := h
  rw [← hP, List.length_append, hw]; omega
theorem jDe.long {b : Int → Int} {n w i c s m : Int} {g : Nat → Int32} (h : jDe b n g w i) (hi : i < n) (hc : c = jUc b i n) (hs : (65536 ≤ c ∧ s = 2) ∨ (c < 65536 ∧ s = 1)) (hm : m < w + s) : m < (jTl b n).length := by
  obtain ⟨P, k, hk, hw, hx, hP⟩ := h
  have e : ((jUu c).length : Int) = s := by
    unfold jUu
    rcases hs with ⟨q, e⟩ | ⟨q, e⟩
    · rw [if_neg (by omega), if_neg (by omega), e]; rfl
    · by_cases q2 : c < 0
      · rw [if_pos q2, e]; rfl
      · rw [if_neg q2, if_pos q, e]; rfl
  rw [← hP, jUl_s (by omega) hi, ← hc, List.length_append, List.length_append]
  omega
/-- what a batch of n bytes answers -/
def jBa (b : Int → Int) (n r : Int) : Prop := (1500 < ((jTl b n).length : Int) ∧ r = -2) ∨ (((jTl b n).length : Int) ≤ 1500 ∧ ∃ g : Nat → Int32, jVtx g (jTl b n) ∧ r = jPar g (jTl b n).length)
theorem jBa.long {b : Int → Int} {n r : Int} (h : 1500 < ((jTl b n).length : Int)) (e : r = -2) : jBa b n r := Or.inl ⟨h, e⟩
theorem jVtx.cg {g g1 : Nat → Int32} {P : List Int} {w : Int} (h : jVtx g P) (hw : w = P.length) (e : ∀ j : Int, 0 ≤ j → j < w → jSo g1 j = jSo g j) : jVtx g1 P := fun j q0 q1 => (e j q0 (by omega)).trans (h j q0 q1)
theorem jUm.of {x m : Int} (h : (240 ≤ x ∧ m = 3) ∨ (224 ≤ x ∧ x < 240 ∧ m = 2) ∨ (x < 224 ∧ m = 1)) (h1 : 194 ≤ x) (h2 : x ≤ 244) : m = jUm x := by
  unfold jUm
  rcases h with ⟨a, b⟩ | ⟨a, b, c⟩ | ⟨a, b⟩
  · rw [if_neg (by omega), if_neg (by omega), if_pos (by omega)]; exact b
  · rw [if_neg (by omega), if_pos (by omega)]; exact c
  · rw [if_pos (by omega)]; exact b
theorem jUm.bad {x m i n : Int} (h : (240 ≤ x ∧ m = 3) ∨ (224 ≤ x ∧ x < 240 ∧ m = 2) ∨ (x < 224 ∧ m = 1)) (q : x < 194 ∨ 244 < x ∨ n ≤ i + m) : jUm x = 0 ∨ n ≤ i + jUm x := by
  by_cases h1 : 194 ≤ x ∧ x ≤ 244
  · rw [← jUm.of h h1.1 h1.2]; exact Or.inr (by omega)
  · refine Or.inl ?_
    unfold jUm
    rw [if_neg (by omega), if_neg (by omega), if_neg (by omega)]
theorem jUm.ref {x n : Int} (h : (194 ≤ x ∧ x ≤ 223 ∧ n = 2) ∨ (224 ≤ x ∧ x ≤ 239 ∧ n = 3) ∨ (240 ≤ x ∧ x ≤ 244 ∧ n = 4)) : n - 1 = jUm x := by
  unfold jUm
  rcases h with ⟨a, b, c⟩ | ⟨a, b, c⟩ | ⟨a, b, c⟩
  · rw [if_pos (by omega)]; omega
  · rw [if_neg (by omega), if_pos (by omega)]; omega
  · rw [if_neg (by omega), if_neg (by omega), if_pos (by omega)]; omega
theorem jUm.none {x : Int} (h : x < 194 ∨ 244 < x) : jUm x = 0 := by
  unfold jUm
  rw [if_neg (by omega), if_neg (by omega), if_neg (by omega)]
theorem jU0.of {x y z s : Int32} {m : Int} (e : y = (63 : Int32) >>> (s &&& 31)) (e2 : z = x &&& y) (hs : s.toInt = m) (hm : m = 1 ∨ m = 2 ∨ m = 3) : z.toInt = jU0 x.toInt m := by
  unfold jU0
  rcases jb_s63 (k := 0) e (by omega) with ⟨a, b⟩ | ⟨a, b⟩ | ⟨a, b⟩
  · rw [if_pos (by omega)]; exact jb_a31 (by rw [e2, b])
  · rw [if_neg (by omega), if_pos (by omega), e2, b]; exact jb_and15 x
  · rw [if_neg (by omega), if_neg (by omega)]; exact jb_a7 (by rw [e2, b])
theorem jU0.r {x m : Int} (h : m = jUm x) (h1 : 194 ≤ x) (h2 : x ≤ 244) : 0 ≤ jU0 x m ∧ (m ≠ 1 ∨ (2 ≤ jU0 x m ∧ jU0 x m ≤ 31)) ∧ (m ≠ 2 ∨ jU0 x m ≤ 15) ∧ (m ≠ 3 ∨ jU0 x m ≤ 7) := by
  unfold jU0
  unfold jUm at h
  by_cases a : m = 1
  · rw [if_pos a]
    by_cases q : 194 ≤ x ∧ x ≤ 223
    · exact ⟨by omega, Or.inr ⟨by omega, by omega⟩, Or.inl (by omega), Or.inl (by omega)⟩
    · rw [if_neg q] at h
      by_cases q2 : 224 ≤ x ∧ x ≤ 239
      · rw [if_pos q2] at h; omega
      · rw [if_neg q2] at h
        by_cases q3 : 240 ≤ x ∧ x ≤ 244
        · rw [if_pos q3] at h; omega
        · rw [if_neg q3] at h; omega
  · rw [if_neg a]
    by_cases b : m = 2
    · rw [if_pos b]; exact ⟨by omega, Or.inl a, Or.inr (by omega), Or.inl (by omega)⟩
    · rw [if_neg b]; exact ⟨by omega, Or.inl a, Or.inl b, Or.inr (by omega)⟩
theorem jUr_e {b : Int → Int} {k k1 : Nat} {i i1 v v1 : Int} (hk : k = k1) (hi : i = i1) (hv : v = v1) : jUr b k i v = jUr b k1 i1 v1 := by subst hk hi hv; rfl
theorem jUr_z {b : Int → Int} {k : Nat} {i v : Int} (hk : k = 0) : jUr b k i v = v := by subst hk; rfl
/-- how large what is read of n bytes is, k of them read -/
def jUb (n k v : Int) : Prop := 0 ≤ v ∧ ((n = 2 ∧ ((k = 1 ∧ 2 ≤ v ∧ v ≤ 31) ∨ (k = 2 ∧ 128 ≤ v ∧ v ≤ 2047))) ∨ (n = 3 ∧ ((k = 1 ∧ v ≤ 15) ∨ (k = 2 ∧ v ≤ 1023) ∨ (k = 3 ∧ v ≤ 65535))) ∨ (n = 4 ∧ ((k = 1 ∧ v ≤ 7) ∨ (k = 2 ∧ v ≤ 511) ∨ (k = 3 ∧ v ≤ 32767) ∨ (k = 4 ∧ v ≤ 2097151))))
theorem jUb.start {x m n k v : Int} (hm : m = jUm x) (h1 : 194 ≤ x) (h2 : x ≤ 244) (hn : n = m + 1) (h3 : n = 2 ∨ n = 3 ∨ n = 4) (hk : k = 1) (hv : v = jU0 x m) : jUb n k v := by
  obtain ⟨a, b, c, d⟩ := jU0.r hm h1 h2
  rw [← hv] at a b c d
  refine ⟨a, ?_⟩
  rcases h3 with h3 | h3 | h3
  · exact Or.inl ⟨h3, Or.inl ⟨hk, by omega, by omega⟩⟩
  · exact Or.inr (Or.inl ⟨h3, Or.inl ⟨hk, by omega⟩⟩)
  · exact Or.inr (Or.inr ⟨h3, Or.inl ⟨hk, by omega⟩⟩)
theorem jUb.step {n k v k1 v1 y : Int} (h : jUb n k v) (hk : k < n) (h0 : 0 ≤ y) (h1 : y < 64) (ek : k1 = k + 1) (ev : v1 = v * 64 + y) : jUb n k1 v1 := by
  unfold jUb at h ⊢
  omega
theorem jUb.r {n k v : Int} (h : jUb n k v) (hk : k < n) : 0 ≤ v ∧ v ≤ 32767 := by
  unfold jUb at h
  omega
theorem jUb.end {n k v : Int} (h : jUb n k v) (hk : k = n) : 0 ≤ v ∧ (n ≠ 2 ∨ (128 ≤ v ∧ v ≤ 2047)) ∧ (n ≠ 3 ∨ v ≤ 65535) ∧ (n ≠ 4 ∨ v ≤ 2097151) := by
  unfold jUb at h
  omega
def jUq (b : Int → Int) (i n r q : Int) : Prop := (r = 0 ∧ jUc b i n < 0) ∨ (1 ≤ r ∧ r ≤ 4 ∧ i + r ≤ n ∧ 0 ≤ q ∧ q = jUc b i n ∧ r = jUz q)
theorem jUq.no {b : Int → Int} {i n r q : Int} (hr : r = 0) (h : -1 = jUc b i n) : jUq b i n r q := Or.inl ⟨hr, by omega⟩
theorem jUq.yes {b : Int → Int} {i n r q : Int} (h1 : 1 ≤ r) (h4 : r ≤ 4) (hn : i + r ≤ n) (h0 : 0 ≤ q) (h : q = jUc b i n) (hz : (r = 1 ∧ q < 128) ∨ (r = 2 ∧ 128 ≤ q ∧ q < 2048) ∨ (r = 3 ∧ 2048 ≤ q ∧ q < 65536) ∨ (r = 4 ∧ 65536 ≤ q)) : jUq b i n r q := by
  refine Or.inr ⟨h1, h4, hn, h0, h, ?_⟩
  unfold jUz
  rcases hz with ⟨a, c⟩ | ⟨a, c, d⟩ | ⟨a, c, d⟩ | ⟨a, c⟩
  · rw [if_pos c]; exact a
  · rw [if_neg (by omega), if_pos d]; exact a
  · rw [if_neg (by omega), if_neg (by omega), if_pos d]; exact a
  · rw [if_neg (by omega), if_neg (by omega), if_neg (by omega)]; exact a
/-- what both make of utfLength's answer: the char, its bytes -/
theorem jUq.of {b : Int → Int} {i n r q : Int} (h : jUq b i n r q) : (r = 0 ∧ jUc b i n < 0 ∧ jUs (jUc b i n) = 1) ∨ (1 ≤ r ∧ 0 ≤ q ∧ q = jUc b i n ∧ jUs (jUc b i n) = r) := by
  rcases h with ⟨a, c⟩ | ⟨a, c, d, e, f, g⟩
  · exact Or.inl ⟨a, c, by unfold jUs; rw [if_pos c]⟩
  · exact Or.inr ⟨a, e, f, by unfold jUs; rw [← f, if_neg (by omega), ← g]⟩
theorem jIn.or (x a b : Int) : (jIn x a b = 1 ∧ a ≤ x ∧ x ≤ b) ∨ (jIn x a b = 0 ∧ (x < a ∨ b < x)) := by
  unfold jIn
  by_cases h : a ≤ x ∧ x ≤ b
  · rw [if_pos h]; exact Or.inl ⟨rfl, h.1, h.2⟩
  · rw [if_neg h]; exact Or.inr ⟨rfl, by omega⟩
/-- behind the comment that begins at a place, -1 when there is none -/
def jCe (f : Nat → Int32) (n i : Int) : Int := if jOpI f i n = 1 then jBcc f n i else -1
theorem jCe.op {f : Nat → Int32} {n i r : Int} (h : r = jCe f n i) (ho : jOpI f i n = 1) : r = jBcc f n i := by rw [h, jCe, if_pos ho]
theorem jCe.yes {f : Nat → Int32} {n i r : Int} (h : r = jCe f n i) (h0 : 0 ≤ r) : jOpI f i n = 1 ∧ r = jBcc f n i := by
  by_cases q : jOpI f i n = 1
  · exact ⟨q, jCe.op h q⟩
  · rw [jCe, if_neg q] at h; omega
theorem jCe.no {f : Nat → Int32} {n i r : Int} (h : r = jCe f n i) (h0 : r < 0) : jOpI f i n = 0 ∨ jBcc f n i < 0 := by
  have h1 := jOpI_le f i n
  by_cases q : jOpI f i n = 1
  · exact Or.inr (by rw [← jCe.op h q]; exact h0)
  · exact Or.inl (by omega)
/-- sentences counted -/
def jPz (f : Nat → Int32) (n : Int) (k : Nat) (i c : Int) : Prop := (c ≤ 39 ∧ jPn f n k i c = jPar f n) ∨ (c = 40 ∧ jPar f n = 40)
theorem jPz.step {f : Nat → Int32} {n i c i1 c1 : Int} {k : Nat} (h : jPz f n k i c) (hk : 0 < k) (hi : i < n) (hc : c < 40) (e : i1 = jGap f n (jEn f n i)) (ec : c1 = c + 1) : jPz f n (k - 1) i1 c1 := by
  rcases h with ⟨h1, h2⟩ | ⟨h1, h2⟩
  · by_cases q : c = 39
    · refine Or.inr ⟨by omega, ?_⟩
      rw [← h2, jPn_s hk, if_pos hi, if_pos q]
    · exact Or.inl ⟨by omega, (jPn_m hk hi q e ec).trans h2⟩
  · omega
theorem jPz.end {f : Nat → Int32} {n i c : Int} {k : Nat} (h : jPz f n k i c) (hk : 0 < k) (hc : c = 40 ∨ n ≤ i) : c = jPar f n := by
  rcases h with ⟨h1, h2⟩ | ⟨h1, h2⟩
  · rw [← h2]; exact jPn_o hk (by omega) rfl
  · omega
def jVdc (b : Int → Int) (n r w : Int) (g : Nat → Int32) : Prop := (r = 0 ∧ 1500 < ((jTl b n).length : Int)) ∨ (r = 1 ∧ w = ((jTl b n).length : Int) ∧ jVtx g (jTl b n))
theorem jVdc.no {b : Int → Int} {n r w : Int} {g : Nat → Int32} (h : jVdc b n r w g) (hr : r = 0) : 1500 < ((jTl b n).length : Int) := by
  rcases h with ⟨a, c⟩ | ⟨a, c, d⟩
  · exact c
  · omega
theorem jVdc.yes {b : Int → Int} {n r w : Int} {g : Nat → Int32} (h : jVdc b n r w g) (hr : r ≠ 0) : w = ((jTl b n).length : Int) ∧ jVtx g (jTl b n) := by
  rcases h with ⟨a, c⟩ | ⟨a, c, d⟩
  · omega
  · exact ⟨c, d⟩
theorem jUc.r {b : Int → Int} {i n : Int} (h0 : 0 ≤ b i) : -1 ≤ jUc b i n ∧ jUc b i n ≤ 1114111 := by
  unfold jUc
  by_cases w : b i < 128
  · rw [if_pos w]; omega
  · rw [if_neg w]
    by_cases w2 : jUm (b i) = 0 ∨ n ≤ i + jUm (b i)
    · rw [if_pos w2]; omega
    · rw [if_neg w2]
      generalize jUr b (jUm (b i)).toNat (i + 1) (jU0 (b i) (jUm (b i))) = v
      unfold jUk
      by_cases w3 : v < 0 ∨ (jUm (b i) = 2 ∧ v < 2048) ∨ (jUm (b i) = 3 ∧ v < 65536) ∨ (55296 ≤ v ∧ v ≤ 57343) ∨ 1114111 < v
      · rw [if_pos w3]; omega
      · rw [if_neg w3]; omega
theorem jSoA {f : Nat → Int32} {i j v : Int} (h : jSo f i = v) (e : j = i) : jSo f j = v := by rw [e]; exact h
section JP1
variable {p : Program} {l : Launch} {e : Env} {R : Room} {s : State} {m : MethodId} {args : Array Value} {below : List Frame} {meth : Method} {c : Code} {H : Heap} {locs : List Loc} {cells slots : Nat} {Q : State → Prop}
variable {cc : ByteArray} {pc : Nat} {ls : Array Slot} {rest : List Value} {D : va_G} {cl : List vw_C} {A : Nat → Prop} {a : Nat} {tys : List (ClassId × FieldType)}
end JP1
section JP2
variable {p : Program} {l : Launch} {e : Env} {R : Room} {s : State} {m : MethodId} {args : Array Value} {below : List Frame} {meth : Method} {c : Code} {H : Heap} {locs : List Loc} {cells slots : Nat} {Q : State → Prop}
variable {cc : ByteArray} {pc : Nat} {ls : Array Slot} {rest : List Value} {dC : Nat → ClassId} {dI : Nat → Nat → Nat} {ca : Nat → ClassId} {B : jF} {base : Nat} {G0 G : jT} {E : List (Nat × Nat)} {H0 : Heap} {zc zs : Nat} {L : List jPin} {M : List jCt} {I : List jIv} {a k n : Nat} {cA : ClassId} {tys : List (ClassId × FieldType)}
end JP2
end
section
-- where a sign stands in a text
def jIxR (f : Nat → Int32) (c : Int32) (a b r : Int) : Prop := (r = -1 ∧ ∀ j : Int, a ≤ j → j < b → jSo f j ≠ c.toInt) ∨ (a ≤ r ∧ r < b ∧ jSo f r = c.toInt ∧ ∀ j : Int, a ≤ j → j < r → jSo f j ≠ c.toInt)
theorem jIxR.cg {f : Nat → Int32} {c : Int32} {a b r a1 b1 : Int} (h : jIxR f c a b r) (ea : a1 = a) (eb : b1 = b) : jIxR f c a1 b1 r := by rw [ea, eb]; exact h
set_option maxHeartbeats 4000000 in
set_option maxRecDepth 20000 in
theorem gJ1_indexOfChar_4cfef (l : Launch) (dC : Nat → ClassId) (dI : Nat → Nat → Nat) (ca : Nat → ClassId) (base : Nat) (H0 : Heap) (h0 n : Nat) (f : Nat → Int32) (a1 a2 a3 : Int32) : Met l yJ1_indexOfChar_4cfef (jw yJ1_indexOfChar_4cfef cJ1_indexOfChar_4cfef 6 (some .int)) ({ frames := 0, cells := 0, slots := 0, locals := 0 }) (va_Pc [.ref h0, .int a1, .int a2, .int a3] (fun U => U.heap = H0 ∧ va_T .byte h0 n (fun j => .int (f j)) (jA base) U H0 ∧ jG dC dI ca base U ∧ (n < 2147483648 ∧ 0 ≤ a2.toInt ∧ a3.toInt ≤ n))) (vp_Si (fun r => jIxR f (a1.toInt8.toInt32) a2.toInt a3.toInt r.toInt)) 0 0 (fun _ => False) := by
  refine Met.ofW (cc := cJ1_indexOfChar_4cfef) (maxL := 6) (ret := (some .int)) (by decide) rfl ?_
  intro p e s m args below meth c s₁ B hml hv
  obtain ⟨rfl, hH0, hsa_h0, hG, hp1, hp2, hp3⟩ := hv
  have hK := hG.1
  have hx := B.exec
  have hb := B.bytes
  have hr := B.returns
  have hts := atoms_spec (ws := (jw yJ1_indexOfChar_4cfef cJ1_indexOfChar_4cfef 6 (some .int))) B.pre
  have htw : ∀ w ∈ jWl, w.before _ s = true := fun w h => hts w (List.mem_cons_of_mem _ h)
  have hown : s.vm.findClass RJ1 = some m.cls := findClass_of_methodNamed B.named
  have hlocks := B.notSynchronized
  obtain ⟨Q, hQ⟩ : ∃ Q, Q = MQ below (vp_Si (fun r => jIxR f (a1.toInt8.toInt32) a2.toInt a3.toInt r.toInt)) ([.ref h0, .int a1, .int a2, .int a3] : List Value).toArray s 0 0 (fun _ => False) := ⟨_, rfl⟩
  rw [← hQ]
  have hl := lv_entry ([.ref h0, .int a1, .int a2, .int a3]) (n := 6) (Nat.le_of_ble_eq_true rfl)
  rw [lg_entry_eq]
  generalize (lg_sl ([.ref h0, .int a1, .int a2, .int a3]) ++ List.replicate (6 - (lg_sl ([.ref h0, .int a1, .int a2, .int a3])).length) Slot.unset).toArray = ls at hl ⊢
  have hl : lv_has ls 6 [(0, .ref h0), (1, .int a1), (2, .int a2), (3, .int a3)] := hl
  generalize hR : (headSpec (jw yJ1_indexOfChar_4cfef cJ1_indexOfChar_4cfef 6 (some .int)) ({ frames := 0, cells := 0, slots := 0, locals := 0 })).room = R
  subst hH0
  have hS : va_S (jA base) s.heap s.heap [] := va_S.rf
  have hkm1 : ((-1) : Int32).toInt = (-1) := by decide
  have hk0 : (0 : Int32).toInt = 0 := by decide
  have hk1 : (1 : Int32).toInt = 1 := by decide
  refine lv_iload_n hx hb dJ1_indexOfChar_4cfef_0 rfl (lv_at hl 1 rfl) ?_
  refine lv_i2b hx hb dJ1_indexOfChar_4cfef_1 rfl ?_
  refine lv_topi (fun z_1 ez_1 => ?_)
  refine lv_istore (lv' := [(4, .int z_1), (0, .ref h0), (1, .int a1), (2, .int a2), (3, .int a3)]) hx hb dJ1_indexOfChar_4cfef_2 hl (by decide) rfl (fun ls hl => ?_)
  refine lv_iload_n hx hb dJ1_indexOfChar_4cfef_4 rfl (lv_at hl 3 rfl) ?_
  refine lv_istore (lv' := [(5, .int a2), (4, .int z_1), (0, .ref h0), (1, .int a1), (2, .int a2), (3, .int a3)]) hx hb dJ1_indexOfChar_4cfef_5 hl (by decide) rfl (fun ls hl => ?_)
  have L7 : ∀ (N : Nat) (iv : Int32), (a2.toInt ≤ iv.toInt ∧ ∀ j : Int, a2.toInt ≤ j → j < iv.toInt → jSo f j ≠ (a1.toInt8.toInt32).toInt) → (((a3.toInt - iv.toInt).toNat : Int) : Int) < N → ∀ ls : Array Slot, lv_has ls 6 [(0, .ref h0), (1, .int a1), (2, .int a2), (3, .int a3), (4, .int z_1), (5, .int iv)] → W p l e R s m ([.ref h0, .int a1, .int a2, .int a3] : List Value).toArray below meth c s.heap [] 0 0 Q (F0 m 7 ls []) := by
    intro N
    induction N with
    | zero => intro iv hi hm; exact absurd hm (by omega)
    | succ N ih =>
      have L7 := ih
      intro iv hi9 hm ls hl
      obtain ⟨hi, hi2⟩ := hi9
      refine lv_iload hx hb dJ1_indexOfChar_4cfef_7 (lv_at hl 5 rfl) ?_
      refine lv_iload_n hx hb dJ1_indexOfChar_4cfef_9 rfl (lv_at hl 3 rfl) ?_
      refine lv_icmp_ge (tgt := 31) hx hb dJ1_indexOfChar_4cfef_10 (by decide) (fun c_2 => ?_) (fun c_2 => ?_)
      · skip
        have c_2' : iv.toInt ≥ a3.toInt := jb_ge (rfl) (rfl) c_2
        refine lv_iconst (v := (-1)) hx hb dJ1_indexOfChar_4cfef_31 (by decide) ?_
        rw [hQ]
        exact W.iret (v := (-1)) hx hb hr (fun t ht hW => ⟨(-1), rfl, Or.inl ⟨hkm1, fun j q0 q1 => hi2 j q0 (by omega)⟩, ht⟩) (fun _ h => nomatch h) dJ1_indexOfChar_4cfef_32
      · skip
        have c_2' : iv.toInt < a3.toInt := jb_ge_n (rfl) (rfl) c_2
        refine lv_aload_n hx hb dJ1_indexOfChar_4cfef_13 rfl (lv_at hl 0 rfl) ?_
        refine lv_iload hx hb dJ1_indexOfChar_4cfef_14 (lv_at hl 5 rfl) ?_
        refine va_tb hx hb hsa_h0 hS (jb_in (rfl) (by omega) (by omega)) rfl dJ1_indexOfChar_4cfef_16 ?_
        refine lv_topi (fun z_3 ez_3 => ?_)
        have h3 : jSo f iv.toInt = z_3.toInt := by unfold jSo; rw [ez_3, jb_cl (x := iv) rfl (by omega)]
        refine lv_iload hx hb dJ1_indexOfChar_4cfef_17 (lv_at hl 4 rfl) ?_
        refine lv_icmp_ne (tgt := 25) hx hb dJ1_indexOfChar_4cfef_19 (by decide) (fun c_4 => ?_) (fun c_4 => ?_)
        · skip
          have c_4' : z_3.toInt ≠ z_1.toInt := jb_ne (rfl) (rfl) c_4
          obtain ⟨z_5, ez_5⟩ : ∃ y : Int32, y = iv + 1 := ⟨_, rfl⟩
          refine lv_iinc (v := z_5) (lv' := [(5, .int z_5), (0, .ref h0), (1, .int a1), (2, .int a2), (3, .int a3), (4, .int z_1)]) hx hb dJ1_indexOfChar_4cfef_25 hl (k := 5) rfl (by rw [ez_5]; rfl) (by decide) rfl (fun ls hl => ?_)
          have hz_5 : z_5.toInt = iv.toInt + 1 := by rw [ez_5]; exact jb_iadd (rfl) (by decide) (by omega) (by omega)
          refine lv_goto (tgt := 7) hx hb dJ1_indexOfChar_4cfef_28 (by decide) ?_
          exact L7 z_5 ⟨by omega, fun j q0 q1 => by
            by_cases q : j = iv.toInt
            · rw [q, h3, ← ez_1]; exact c_4'
            · exact hi2 j q0 (by omega)⟩ (by omega) _ (lv_sub hl [1, 2, 3, 4, 5, 0] rfl)
        · skip
          have c_4' : z_3.toInt = z_1.toInt := jb_ne_n (rfl) (rfl) c_4
          refine lv_iload hx hb dJ1_indexOfChar_4cfef_22 (lv_at hl 5 rfl) ?_
          rw [hQ]
          exact W.iret (v := iv) hx hb hr (fun t ht hW => ⟨iv, rfl, Or.inr ⟨hi, by omega, by rw [h3, c_4', ez_1], hi2⟩, ht⟩) (fun _ h => nomatch h) dJ1_indexOfChar_4cfef_24
  exact L7 (((a3.toInt - (a2 : Int32).toInt).toNat : Int) : Int).toNat.succ a2 ⟨by omega, fun j q0 q1 => by omega⟩ (by omega) _ (lv_sub hl [2, 3, 4, 5, 1, 0] rfl)
set_option maxHeartbeats 4000000 in
set_option maxRecDepth 20000 in
theorem gJ1_indexOf_4cfef (l : Launch) (dC : Nat → ClassId) (dI : Nat → Nat → Nat) (ca : Nat → ClassId) (base : Nat) (H0 : Heap) (h0 n : Nat) (f : Nat → Int32) (a1 a2 a3 : Int32) : Met l yJ1_indexOf_4cfef (jw yJ1_indexOf_4cfef cJ1_indexOf_4cfef 4 (some .int)) ({ frames := 2, cells := 0, slots := 0, locals := 80 }) (va_Pc [.ref h0, .int a1, .int a2, .int a3] (fun U => U.heap = H0 ∧ va_T .byte h0 n (fun j => .int (f j)) (jA base) U H0 ∧ jG dC dI ca base U ∧ (n < 2147483648 ∧ 0 ≤ a1.toInt ∧ a1.toInt ≤ 255 ∧ 0 ≤ a2.toInt ∧ a3.toInt = n))) (vp_Si (fun r => jIxR f (a1.toInt8.toInt32) a2.toInt n r.toInt)) 0 0 (fun _ => False) := by
  refine Met.ofW (cc := cJ1_indexOf_4cfef) (maxL := 4) (ret := (some .int)) (by decide) rfl ?_
  intro p e s m args below meth c s₁ B hml hv
  obtain ⟨rfl, hH0, hsa_h0, hG, hp1, hp2, hp3, hp4, hp6⟩ := hv
  have hK := hG.1
  have hx := B.exec
  have hb := B.bytes
  have hr := B.returns
  have hts := atoms_spec (ws := (jw yJ1_indexOf_4cfef cJ1_indexOf_4cfef 4 (some .int))) B.pre
  have htw : ∀ w ∈ jWl, w.before _ s = true := fun w h => hts w (List.mem_cons_of_mem _ h)
  have hown : s.vm.findClass RJ1 = some m.cls := findClass_of_methodNamed B.named
  have hlocks := B.notSynchronized
  obtain ⟨Q, hQ⟩ : ∃ Q, Q = MQ below (vp_Si (fun r => jIxR f (a1.toInt8.toInt32) a2.toInt n r.toInt)) ([.ref h0, .int a1, .int a2, .int a3] : List Value).toArray s 0 0 (fun _ => False) := ⟨_, rfl⟩
  rw [← hQ]
  have hl := lv_entry ([.ref h0, .int a1, .int a2, .int a3]) (n := 4) (Nat.le_of_ble_eq_true rfl)
  rw [lg_entry_eq]
  generalize (lg_sl ([.ref h0, .int a1, .int a2, .int a3]) ++ List.replicate (4 - (lg_sl ([.ref h0, .int a1, .int a2, .int a3])).length) Slot.unset).toArray = ls at hl ⊢
  have hl : lv_has ls 4 [(0, .ref h0), (1, .int a1), (2, .int a2), (3, .int a3)] := hl
  generalize hR : (headSpec (jw yJ1_indexOf_4cfef cJ1_indexOf_4cfef 4 (some .int)) ({ frames := 2, cells := 0, slots := 0, locals := 80 })).room = R
  subst hH0
  have hS : va_S (jA base) s.heap s.heap [] := va_S.rf
  have hkm1 : ((-1) : Int32).toInt = (-1) := by decide
  have hk0 : (0 : Int32).toInt = 0 := by decide
  have hk1 : (1 : Int32).toInt = 1 := by decide
  refine lv_iload_n hx hb dJ1_indexOf_4cfef_0 rfl (lv_at hl 1 rfl) ?_
  refine vp_callSi (W.runS (As := [.int a1]) (rest := []) ⟨hx, hb, hml, hown, hts⟩ (eJ1_canEncode_9a6ad l dC dI ca base s.heap a1) (va_cwS 1 hts (jgS (jWr_38 _ (List.mem_of_getElem? (i := 1) rfl)) (jWr_38 _ (List.mem_of_getElem? (i := 2) rfl)) (jWr_6 _ (List.mem_of_getElem? (i := 10) rfl)) (jWr_38 _ (List.mem_of_getElem? (i := 3) rfl))) rfl rfl rfl (by decide +kernel) ⟨by rw [← hR]; exact Nat.le_of_ble_eq_true rfl, by rw [← hR]; exact Nat.le_of_ble_eq_true rfl⟩) ⟨fun a U g mk q => by obtain ⟨q0, q1, qK, q9⟩ := q; exact ⟨q0, q1, jG.calling g mk a qK, q9⟩, fun U hU hW => ⟨rfl, hU, hG.step hW hU hS, (by omega)⟩⟩ rfl rfl hl.1 rfl (lv_room (Nat.le_of_ble_eq_true rfl)) dJ1_indexOf_4cfef_1 ⟨Nat.zero_le _, Nat.zero_le _⟩) (fun r_1 hr_1 => ?_)
  have hr_1' : r_1.toInt = 1 := by rw [hr_1]; decide
  refine lv_if_ne (tgt := 9) hx hb dJ1_indexOf_4cfef_4 (by decide) (fun c_2 => ?_) (fun c_2 => ?_)
  · skip
    have c_2' : r_1.toInt ≠ 0 := jb_ne (rfl) ((by decide)) c_2
    refine lv_iload_n hx hb dJ1_indexOf_4cfef_9 rfl (lv_at hl 2 rfl) ?_
    refine lv_iconst (v := 0) hx hb dJ1_indexOf_4cfef_10 (by decide) ?_
    refine va_mmax hx hb (by rw [hml]; exact hl.1.symm) hown (htw (.methodLink RJ1 92 Lib.Math.max.name) (jWr_37 _ (List.mem_of_getElem? (i := 23) rfl))) (htw (.static Lib.Math.max.name) (jWr_3 _ (List.mem_of_getElem? (i := 6) rfl))) (htw (.initialized "java/lang/Math") (jWr_3 _ (List.mem_of_getElem? (i := 7) rfl))) (htw (.code Lib.Math.max.name Lib.Math.max.code 2 (some .int)) (jWr_3 _ (List.mem_of_getElem? (i := 8) rfl))) (by rw [← hR]; exact Nat.le_of_ble_eq_true rfl) (by rw [← hR]; exact Nat.le_of_ble_eq_true rfl) (Nat.zero_le _) (Nat.zero_le _) dJ1_indexOf_4cfef_11 ?_
    refine lv_topi (fun z_3 ez_3 => ?_)
    have hz_3 := jb_max ez_3
    refine lv_istore_n (lv' := [(2, .int z_3), (0, .ref h0), (1, .int a1), (3, .int a3)]) hx hb dJ1_indexOf_4cfef_14 rfl hl (by decide) rfl (fun ls hl => ?_)
    refine lv_iload_n hx hb dJ1_indexOf_4cfef_15 rfl (lv_at hl 3 rfl) ?_
    refine lv_aload_n hx hb dJ1_indexOf_4cfef_16 rfl (lv_at hl 1 rfl) ?_
    refine va_tlen hx hb hsa_h0 hS (v := Int32.ofNat n) rfl dJ1_indexOf_4cfef_17 ?_
    refine lv_topi (fun z_4 ez_4 => ?_)
    have hz_4 : z_4.toInt = n := by rw [ez_4]; exact jb_nat (by omega)
    refine va_mmin hx hb (by rw [hml]; exact hl.1.symm) hown (htw (.methodLink RJ1 38 Lib.Math.min.name) (jWr_38 _ (List.mem_of_getElem? (i := 0) rfl))) (htw (.static Lib.Math.min.name) (jWr_16 _ (List.mem_of_getElem? (i := 16) rfl))) (htw (.initialized "java/lang/Math") (jWr_3 _ (List.mem_of_getElem? (i := 7) rfl))) (htw (.code Lib.Math.min.name Lib.Math.min.code 2 (some .int)) (jWr_16 _ (List.mem_of_getElem? (i := 17) rfl))) (by rw [← hR]; exact Nat.le_of_ble_eq_true rfl) (by rw [← hR]; exact Nat.le_of_ble_eq_true rfl) (Nat.zero_le _) (Nat.zero_le _) dJ1_indexOf_4cfef_18 ?_
    refine lv_topi (fun z_5 ez_5 => ?_)
    have hz_5 := jb_min ez_5
    refine lv_istore_n (lv' := [(3, .int z_5), (2, .int z_3), (0, .ref h0), (1, .int a1)]) hx hb dJ1_indexOf_4cfef_21 rfl hl (by decide) rfl (fun ls hl => ?_)
    refine lv_iload_n hx hb dJ1_indexOf_4cfef_22 rfl (lv_at hl 1 rfl) ?_
    refine lv_iload_n hx hb dJ1_indexOf_4cfef_23 rfl (lv_at hl 0 rfl) ?_
    refine lv_icmp_lt (tgt := 29) hx hb dJ1_indexOf_4cfef_24 (by decide) (fun c_6 => ?_) (fun c_6 => ?_)
    · skip
      have c_6' : z_3.toInt < z_5.toInt := jb_lt (rfl) (rfl) c_6
      refine lv_aload_n hx hb dJ1_indexOf_4cfef_29 rfl (lv_at hl 2 rfl) ?_
      refine lv_iload_n hx hb dJ1_indexOf_4cfef_30 rfl (lv_at hl 3 rfl) ?_
      refine lv_iload_n hx hb dJ1_indexOf_4cfef_31 rfl (lv_at hl 1 rfl) ?_
      refine lv_iload_n hx hb dJ1_indexOf_4cfef_32 rfl (lv_at hl 0 rfl) ?_
      refine vp_callSi (W.runS (As := [.ref h0, .int a1, .int z_3, .int z_5]) (rest := []) ⟨hx, hb, hml, hown, hts⟩ (gJ1_indexOfChar_4cfef l dC dI ca base s.heap h0 n f a1 z_3 z_5) (va_cwS 4 hts (jgS (jWr_38 _ (List.mem_of_getElem? (i := 4) rfl)) (jWr_38 _ (List.mem_of_getElem? (i := 5) rfl)) (jWr_6 _ (List.mem_of_getElem? (i := 10) rfl)) (jWr_38 _ (List.mem_of_getElem? (i := 6) rfl))) rfl rfl rfl (by decide +kernel) ⟨by rw [← hR]; exact Nat.le_of_ble_eq_true rfl, by rw [← hR]; exact Nat.le_of_ble_eq_true rfl⟩) ⟨fun a U g mk q => by obtain ⟨q0, q1, q2, qK, q9⟩ := q; exact ⟨q0, q1, (q2.moved (Vm.Alike.refl U.vm)), jG.calling g mk a qK, q9⟩, fun U hU hW => ⟨rfl, hU, (hsa_h0.moved hW.alike).kept hS.2.1, hG.step hW hU hS, ⟨by omega, by omega, by omega⟩⟩⟩ rfl rfl hl.1 rfl (lv_room (Nat.le_of_ble_eq_true rfl)) dJ1_indexOf_4cfef_33 ⟨Nat.zero_le _, Nat.zero_le _⟩) (fun r_7 hr_7 => ?_)
      rw [hQ]
      exact W.iret (v := r_7) hx hb hr (fun t ht hW => ⟨r_7, rfl, hr_7.cg (by omega) (by omega), ht⟩) (fun _ h => nomatch h) dJ1_indexOf_4cfef_36
    · skip
      have c_6' : z_3.toInt ≥ z_5.toInt := jb_lt_n (rfl) (rfl) c_6
      refine lv_iconst (v := (-1)) hx hb dJ1_indexOf_4cfef_27 (by decide) ?_
      rw [hQ]
      exact W.iret (v := (-1)) hx hb hr (fun t ht hW => ⟨(-1), rfl, Or.inl ⟨hkm1, fun j q0 q1 => by omega⟩, ht⟩) (fun _ h => nomatch h) dJ1_indexOf_4cfef_28
  · skip
    have c_2' : r_1.toInt = 0 := jb_ne_n (rfl) ((by decide)) c_2
    refine lv_iconst (v := (-1)) hx hb dJ1_indexOf_4cfef_7 (by decide) ?_
    rw [hQ]
    exact W.iret (v := (-1)) hx hb hr (fun t ht hW => ⟨(-1), rfl, (by omega : False).elim, ht⟩) (fun _ h => nomatch h) dJ1_indexOf_4cfef_8
set_option maxHeartbeats 4000000 in
set_option maxRecDepth 20000 in
theorem gJ0_indexOf_7cf53 (l : Launch) (dC : Nat → ClassId) (dI : Nat → Nat → Nat) (ca : Nat → ClassId) (base : Nat) (H0 : Heap) (h0 n : Nat) (f : Nat → Int32) (a1 a2 : Int32) : Met l yJ0_indexOf_7cf53 (jw yJ0_indexOf_7cf53 cJ0_indexOf_7cf53 3 (some .int)) ({ frames := 3, cells := 0, slots := 0, locals := 120 }) (va_Pc [.ref h0, .int a1, .int a2] (fun U => U.heap = H0 ∧ jStrF base h0 n f U H0 ∧ jG dC dI ca base U ∧ (n < 2147483648 ∧ 0 ≤ a1.toInt ∧ a1.toInt ≤ 255 ∧ 0 ≤ a2.toInt))) (vp_Si (fun r => jIxR f (a1.toInt8.toInt32) a2.toInt n r.toInt)) 0 0 (fun _ => False) := by
  refine Met.ofW (cc := cJ0_indexOf_7cf53) (maxL := 3) (ret := (some .int)) (by decide) rfl ?_
  intro p e s m args below meth c s₁ B hml hv
  obtain ⟨rfl, hH0, hsF, hG, hpre⟩ := hv
  have hstr_h0 := hsF.str
  have hK := hG.1
  have hx := B.exec
  have hb := B.bytes
  have hr := B.returns
  have hts := atoms_spec (ws := (jw yJ0_indexOf_7cf53 cJ0_indexOf_7cf53 3 (some .int))) B.pre
  have htw : ∀ w ∈ jWl, w.before _ s = true := fun w h => hts w (List.mem_cons_of_mem _ h)
  have hown : s.vm.findClass RJ0 = some m.cls := findClass_of_methodNamed B.named
  have hlocks := B.notSynchronized
  obtain ⟨Q, hQ⟩ : ∃ Q, Q = MQ below (vp_Si (fun r => jIxR f (a1.toInt8.toInt32) a2.toInt n r.toInt)) ([.ref h0, .int a1, .int a2] : List Value).toArray s 0 0 (fun _ => False) := ⟨_, rfl⟩
  rw [← hQ]
  have hl := lv_entry ([.ref h0, .int a1, .int a2]) (n := 3) (Nat.le_of_ble_eq_true rfl)
  rw [lg_entry_eq]
  generalize (lg_sl ([.ref h0, .int a1, .int a2]) ++ List.replicate (3 - (lg_sl ([.ref h0, .int a1, .int a2])).length) Slot.unset).toArray = ls at hl ⊢
  have hl : lv_has ls 3 [(0, .ref h0), (1, .int a1), (2, .int a2)] := hl
  generalize hR : (headSpec (jw yJ0_indexOf_7cf53 cJ0_indexOf_7cf53 3 (some .int)) ({ frames := 3, cells := 0, slots := 0, locals := 120 })).room = R
  subst hH0
  have hS : va_S (jA base) s.heap s.heap [] := va_S.rf
  have hk0 : (0 : Int32).toInt = 0 := by decide
  have hk1 : (1 : Int32).toInt = 1 := by decide
  refine lv_aload_n hx hb dJ0_indexOf_7cf53_0 rfl (lv_at hl 0 rfl) ?_
  refine vp_callSi (W.runV (As := []) (rest := []) ⟨hx, hb, hml, hown, hts⟩ (wJ0_isLatin1_aae02 l dC dI ca base s.heap h0 n) (cwV 0 hts (jgV (jWr_6 _ (List.mem_of_getElem? (i := 4) rfl)) (jWr_6 _ (List.mem_of_getElem? (i := 5) rfl)) (jWr_6 _ (List.mem_of_getElem? (i := 6) rfl)) (jWr_5 _ (List.mem_of_getElem? (i := 15) rfl)) (jWr_6 _ (List.mem_of_getElem? (i := 7) rfl))) rfl rfl rfl (by decide +kernel) ⟨by rw [← hR]; exact Nat.le_of_ble_eq_true rfl, by rw [← hR]; exact Nat.le_of_ble_eq_true rfl⟩) ⟨fun a U g mk q => by obtain ⟨q0, q1, q2, qK, q9⟩ := q; exact ⟨q0, q1, (q2.moved (Vm.Alike.refl U.vm)), jG.calling g mk a qK, q9⟩, jStr_recv hstr_h0 hS, fun U hU hW => ⟨rfl, hU, (hstr_h0.moved hW.alike).kept hS.2.1, hG.step hW hU hS, by omega⟩⟩ rfl rfl hl.1 rfl (lv_room (Nat.le_of_ble_eq_true rfl)) dJ0_indexOf_7cf53_1 ⟨Nat.zero_le _, Nat.zero_le _⟩) (fun r_1 hr_1 => ?_)
  subst hr_1
  refine lv_if_eq (tgt := 23) hx hb dJ0_indexOf_7cf53_4 (by decide) (fun c_2 => ?_) (fun c_2 => ?_)
  · skip
    exact absurd c_2 (by decide)
  · skip
    refine lv_aload_n hx hb dJ0_indexOf_7cf53_7 rfl (lv_at hl 0 rfl) ?_
    obtain ⟨sv_3, gsv_3, hsv_3⟩ := hsF.2.2
    refine vk_getf hx hb gsv_3 hS hown (htw (.fieldLink RJ0 9 "java/lang/String" "value" "[B") (jWr_5 _ (List.mem_of_getElem? (i := 17) rfl))) (fun _ h9 => h9) dJ0_indexOf_7cf53_8 ?_
    refine lv_iload_n hx hb dJ0_indexOf_7cf53_11 rfl (lv_at hl 1 rfl) ?_
    refine lv_iload_n hx hb dJ0_indexOf_7cf53_12 rfl (lv_at hl 2 rfl) ?_
    refine lv_aload_n hx hb dJ0_indexOf_7cf53_13 rfl (lv_at hl 0 rfl) ?_
    refine vp_callSi (W.runV (As := []) (rest := [.int a2, .int a1, .ref sv_3]) ⟨hx, hb, hml, hown, hts⟩ (wJ0_length_8abf5 l dC dI ca base s.heap h0 n) (cwV 0 hts (jgV (jWr_37 _ (List.mem_of_getElem? (i := 19) rfl)) (jWr_5 _ (List.mem_of_getElem? (i := 13) rfl)) (jWr_5 _ (List.mem_of_getElem? (i := 14) rfl)) (jWr_5 _ (List.mem_of_getElem? (i := 15) rfl)) (jWr_5 _ (List.mem_of_getElem? (i := 16) rfl))) rfl rfl rfl (by decide +kernel) ⟨by rw [← hR]; exact Nat.le_of_ble_eq_true rfl, by rw [← hR]; exact Nat.le_of_ble_eq_true rfl⟩) ⟨fun a U g mk q => by obtain ⟨q0, q1, q2, qK, q9⟩ := q; exact ⟨q0, q1, (q2.moved (Vm.Alike.refl U.vm)), jG.calling g mk a qK, q9⟩, jStr_recv hstr_h0 hS, fun U hU hW => ⟨rfl, hU, (hstr_h0.moved hW.alike).kept hS.2.1, hG.step hW hU hS, by omega⟩⟩ rfl rfl hl.1 rfl (lv_room (Nat.le_of_ble_eq_true rfl)) dJ0_indexOf_7cf53_14 ⟨Nat.zero_le _, Nat.zero_le _⟩) (fun r_4 hr_4 => ?_)
    refine vp_callSi (W.runS (As := [.ref sv_3, .int a1, .int a2, .int r_4]) (rest := []) ⟨hx, hb, hml, hown, hts⟩ (gJ1_indexOf_4cfef l dC dI ca base s.heap sv_3 n f a1 a2 r_4) (va_cwS 4 hts (jgS (jWr_37 _ (List.mem_of_getElem? (i := 20) rfl)) (jWr_37 _ (List.mem_of_getElem? (i := 21) rfl)) (jWr_6 _ (List.mem_of_getElem? (i := 10) rfl)) (jWr_37 _ (List.mem_of_getElem? (i := 22) rfl))) rfl rfl rfl (by decide +kernel) ⟨by rw [← hR]; exact Nat.le_of_ble_eq_true rfl, by rw [← hR]; exact Nat.le_of_ble_eq_true rfl⟩) ⟨fun a U g mk q => by obtain ⟨q0, q1, q2, qK, q9⟩ := q; exact ⟨q0, q1, (q2.moved (Vm.Alike.refl U.vm)), jG.calling g mk a qK, q9⟩, fun U hU hW => ⟨rfl, hU, (hsv_3.moved hW.alike).kept hS.2.1, hG.step hW hU hS, ⟨by omega, by omega, by omega, by omega, by omega⟩⟩⟩ rfl rfl hl.1 rfl (lv_room (Nat.le_of_ble_eq_true rfl)) dJ0_indexOf_7cf53_17 ⟨Nat.zero_le _, Nat.zero_le _⟩) (fun r_5 hr_5 => ?_)
    refine lv_goto (tgt := 36) hx hb dJ0_indexOf_7cf53_20 (by decide) ?_
    rw [hQ]
    exact W.iret (v := r_5) hx hb hr (fun t ht hW => ⟨r_5, rfl, hr_5, ht⟩) (fun _ h => nomatch h) dJ0_indexOf_7cf53_36
set_option maxHeartbeats 4000000 in
set_option maxRecDepth 20000 in
theorem gJ0_indexOf_0f7a4 (l : Launch) (dC : Nat → ClassId) (dI : Nat → Nat → Nat) (ca : Nat → ClassId) (base : Nat) (H0 : Heap) (h0 n : Nat) (f : Nat → Int32) (a1 : Int32) : Met l yJ0_indexOf_0f7a4 (jw yJ0_indexOf_0f7a4 cJ0_indexOf_0f7a4 2 (some .int)) ({ frames := 4, cells := 0, slots := 0, locals := 160 }) (va_Pc [.ref h0, .int a1] (fun U => U.heap = H0 ∧ jStrF base h0 n f U H0 ∧ jG dC dI ca base U ∧ (n < 2147483648 ∧ 0 ≤ a1.toInt ∧ a1.toInt ≤ 255))) (vp_Si (fun r => jIxR f (a1.toInt8.toInt32) 0 n r.toInt)) 0 0 (fun _ => False) := by
  refine Met.ofW (cc := cJ0_indexOf_0f7a4) (maxL := 2) (ret := (some .int)) (by decide) rfl ?_
  intro p e s m args below meth c s₁ B hml hv
  obtain ⟨rfl, hH0, hsF, hG, hpre⟩ := hv
  have hstr_h0 := hsF.str
  have hK := hG.1
  have hx := B.exec
  have hb := B.bytes
  have hr := B.returns
  have hts := atoms_spec (ws := (jw yJ0_indexOf_0f7a4 cJ0_indexOf_0f7a4 2 (some .int))) B.pre
  have htw : ∀ w ∈ jWl, w.before _ s = true := fun w h => hts w (List.mem_cons_of_mem _ h)
  have hown : s.vm.findClass RJ0 = some m.cls := findClass_of_methodNamed B.named
  have hlocks := B.notSynchronized
  obtain ⟨Q, hQ⟩ : ∃ Q, Q = MQ below (vp_Si (fun r => jIxR f (a1.toInt8.toInt32) 0 n r.toInt)) ([.ref h0, .int a1] : List Value).toArray s 0 0 (fun _ => False) := ⟨_, rfl⟩
  rw [← hQ]
  have hl := lv_entry ([.ref h0, .int a1]) (n := 2) (Nat.le_of_ble_eq_true rfl)
  rw [lg_entry_eq]
  generalize (lg_sl ([.ref h0, .int a1]) ++ List.replicate (2 - (lg_sl ([.ref h0, .int a1])).length) Slot.unset).toArray = ls at hl ⊢
  have hl : lv_has ls 2 [(0, .ref h0), (1, .int a1)] := hl
  generalize hR : (headSpec (jw yJ0_indexOf_0f7a4 cJ0_indexOf_0f7a4 2 (some .int)) ({ frames := 4, cells := 0, slots := 0, locals := 160 })).room = R
  subst hH0
  have hS : va_S (jA base) s.heap s.heap [] := va_S.rf
  have hk0 : (0 : Int32).toInt = 0 := by decide
  have hk1 : (1 : Int32).toInt = 1 := by decide
  refine lv_aload_n hx hb dJ0_indexOf_0f7a4_0 rfl (lv_at hl 0 rfl) ?_
  refine lv_iload_n hx hb dJ0_indexOf_0f7a4_1 rfl (lv_at hl 1 rfl) ?_
  refine lv_iconst (v := 0) hx hb dJ0_indexOf_0f7a4_2 (by decide) ?_
  refine vp_callSi (W.runV (As := [.int a1, .int 0]) (rest := []) ⟨hx, hb, hml, hown, hts⟩ (gJ0_indexOf_7cf53 l dC dI ca base s.heap h0 n f a1 0) (cwV 2 hts (jgV (jWr_37 _ (List.mem_of_getElem? (i := 15) rfl)) (jWr_37 _ (List.mem_of_getElem? (i := 16) rfl)) (jWr_37 _ (List.mem_of_getElem? (i := 17) rfl)) (jWr_5 _ (List.mem_of_getElem? (i := 15) rfl)) (jWr_37 _ (List.mem_of_getElem? (i := 18) rfl))) rfl rfl rfl (by decide +kernel) ⟨by rw [← hR]; exact Nat.le_of_ble_eq_true rfl, by rw [← hR]; exact Nat.le_of_ble_eq_true rfl⟩) ⟨fun a U g mk q => by obtain ⟨q0, q1, q2, qK, q9⟩ := q; exact ⟨q0, q1, (q2.moved (Vm.Alike.refl U.vm)), jG.calling g mk a qK, q9⟩, jStr_recv hstr_h0 hS, fun U hU hW => ⟨rfl, hU, (hsF.moved hW.alike).kept hS.2.1, hG.step hW hU hS, ⟨by omega, by omega, by omega, by decide⟩⟩⟩ rfl rfl hl.1 rfl (lv_room (Nat.le_of_ble_eq_true rfl)) dJ0_indexOf_0f7a4_3 ⟨Nat.zero_le _, Nat.zero_le _⟩) (fun r_1 hr_1 => ?_)
  rw [hQ]
  exact W.iret (v := r_1) hx hb hr (fun t ht hW => ⟨r_1, rfl, hr_1.cg (by decide) rfl, ht⟩) (fun _ h => nomatch h) dJ0_indexOf_0f7a4_6
end
section
-- p9: JSON as it is read, over bytes b that end at e; tables T (1 kinds, 2 firsts, 3 sizes, 4 nexts, 5 and 6 keys, 7 units, 8: 1 where it stands in a list or object)
def jjS (T : Nat → Int → Int) (t : Nat) (j x : Int) : Nat → Int → Int := fun a c => if a = t ∧ c = j then x else T a c
theorem jjS.at (T : Nat → Int → Int) (t : Nat) (j x : Int) : jjS T t j x t j = x := if_pos ⟨rfl, rfl⟩
theorem jjS.off {T : Nat → Int → Int} {t a : Nat} {j x c : Int} (h : a ≠ t ∨ c ≠ j) : jjS T t j x a c = T a c := if_neg (fun q => h.elim (fun w => w q.1) (fun w => w q.2))
/-- the table t has what an array holds -/
def jjA (T : Nat → Int → Int) (t : Nat) (n : Int) (f : Nat → Int32) : Prop := ∀ j : Int, 0 ≤ j → j < n → T t j = jSo f j
theorem jjA.put {T : Nat → Int → Int} {t : Nat} {n j x : Int} {f g : Nat → Int32} (h : jjA T t n f) (hv : jSo g j = x) (ho : ∀ i : Int, 0 ≤ i → i < n → i ≠ j → jSo g i = jSo f i) : jjA (jjS T t j x) t n g := fun i h0 h1 => by
  by_cases e : i = j
  · subst e; rw [jjS.at, hv]
  · rw [jjS.off (Or.inr e), h i h0 h1, ho i h0 h1 e]
theorem jjA.new {T : Nat → Int → Int} {t : Nat} {n m x : Int} {f g : Nat → Int32} (h : jjA T t n f) (hv : jSo g n = x) (ho : ∀ i : Int, 0 ≤ i → i < n → jSo g i = jSo f i) (em : m = n + 1) : jjA (jjS T t n x) t m g := fun i h0 h1 => by
  by_cases e : i = n
  · subst e; rw [jjS.at, hv]
  · rw [jjS.off (Or.inr e), h i h0 (by omega), ho i h0 (by omega)]
theorem jjA.oth {T : Nat → Int → Int} {t a : Nat} {n j x : Int} {f : Nat → Int32} (h : jjA T a n f) (e : a ≠ t) : jjA (jjS T t j x) a n f := fun i h0 h1 => by rw [jjS.off (Or.inl e), h i h0 h1]
theorem jjA.le {T : Nat → Int → Int} {t : Nat} {n m : Int} {f : Nat → Int32} (h : jjA T t n f) (e : m ≤ n) : jjA T t m f := fun i h0 h1 => h i h0 (by omega)
def jjK (b : Int → Int) (e a : Int) : Int := if a < e then b a else -1
theorem jjK.y {b : Int → Int} {e a : Int} (h : a < e) : jjK b e a = b a := if_pos h
theorem jjK.n {b : Int → Int} {e a : Int} (h : e ≤ a) : jjK b e a = -1 := if_neg (by omega)
/-- blanks -/
def jjB (b : Int → Int) (e : Int) : Nat → Int → Int
  | 0, a => a
  | k + 1, a => if a < e ∧ jBlk (b a) = 1 then jjB b e k (a + 1) else a
theorem jjB_y {b : Int → Int} {e a a1 : Int} {k : Nat} (h : a < e) (h1 : jBlk (b a) = 1) (hk : e - a ≤ k) (ea : a1 = a + 1) : jjB b e (k - 1) a1 = jjB b e k a := by
  subst ea
  cases k with
  | zero => omega
  | succ k => exact (if_pos ⟨h, h1⟩).symm
theorem jjB_n {b : Int → Int} {e a : Int} {k : Nat} (h : e ≤ a ∨ jBlk (b a) ≠ 1) : jjB b e k a = a := by
  cases k with
  | zero => rfl
  | succ k => exact if_neg (fun q => h.elim (fun w => by omega) (fun w => w q.2))
theorem jjB.ge {b : Int → Int} {e : Int} : ∀ (k : Nat) (a : Int), a ≤ jjB b e k a
  | 0, a => Int.le_refl a
  | k + 1, a => by
    by_cases w : a < e ∧ jBlk (b a) = 1
    · have h := jjB.ge (b := b) (e := e) k (a + 1)
      rw [show jjB b e (k + 1) a = jjB b e k (a + 1) from if_pos w]; omega
    · rw [show jjB b e (k + 1) a = a from if_neg w]; omega
theorem jjB.le {b : Int → Int} {e : Int} : ∀ (k : Nat) (a : Int), a ≤ e → jjB b e k a ≤ e
  | 0, a, h => h
  | k + 1, a, h => by
    by_cases w : a < e ∧ jBlk (b a) = 1
    · rw [show jjB b e (k + 1) a = jjB b e k (a + 1) from if_pos w]; exact jjB.le k (a + 1) (by omega)
    · rw [show jjB b e (k + 1) a = a from if_neg w]; exact h
theorem jjB.end {b : Int → Int} {e : Int} : ∀ (k : Nat) (a : Int), e - a ≤ k → e ≤ jjB b e k a ∨ jBlk (b (jjB b e k a)) ≠ 1
  | 0, a, h => Or.inl (by show e ≤ a; omega)
  | k + 1, a, h => by
    by_cases w : a < e ∧ jBlk (b a) = 1
    · rw [show jjB b e (k + 1) a = jjB b e k (a + 1) from if_pos w]; exact jjB.end k (a + 1) (by omega)
    · rw [show jjB b e (k + 1) a = a from if_neg w]
      by_cases q : a < e
      · exact Or.inr (fun q2 => w ⟨q, q2⟩)
      · exact Or.inl (by omega)
def jjSk (b : Int → Int) (e a : Int) : Int := jjB b e (e - a).toNat a
theorem jjSk.ge (b : Int → Int) (e a : Int) : a ≤ jjSk b e a := jjB.ge _ _
theorem jjSk.le {b : Int → Int} {e a : Int} (h : a ≤ e) : jjSk b e a ≤ e := jjB.le _ _ h
theorem jjSk.out {b : Int → Int} {e a : Int} (h : e ≤ a) : jjSk b e a = a := jjB_n (Or.inl h)
theorem jjSk.id (b : Int → Int) (e a : Int) : jjSk b e (jjSk b e a) = jjSk b e a := jjB_n (jjB.end _ _ (by omega))
/-- digits; their number -/
def jjD (b : Int → Int) (e : Int) : Nat → Int → Int
  | 0, a => a
  | k + 1, a => if a < e ∧ 48 ≤ b a ∧ b a ≤ 57 then jjD b e k (a + 1) else a
theorem jjD_y {b : Int → Int} {e a a1 : Int} {k : Nat} (h : a < e) (h1 : 48 ≤ b a) (h2 : b a ≤ 57) (hk : e - a ≤ k) (ea : a1 = a + 1) : jjD b e (k - 1) a1 = jjD b e k a := by
  subst ea
  cases k with
  | zero => omega
  | succ k => exact (if_pos ⟨h, h1, h2⟩).symm
theorem jjD_n {b : Int → Int} {e a : Int} {k : Nat} (h : e ≤ a ∨ b a < 48 ∨ 57 < b a) : jjD b e k a = a := by
  cases k with
  | zero => rfl
  | succ k => exact if_neg (fun q => by omega)
theorem jjD.ge {b : Int → Int} {e : Int} : ∀ (k : Nat) (a : Int), a ≤ jjD b e k a
  | 0, a => Int.le_refl a
  | k + 1, a => by
    by_cases w : a < e ∧ 48 ≤ b a ∧ b a ≤ 57
    · have h := jjD.ge (b := b) (e := e) k (a + 1)
      rw [show jjD b e (k + 1) a = jjD b e k (a + 1) from if_pos w]; omega
    · rw [show jjD b e (k + 1) a = a from if_neg w]; omega
theorem jjD.le {b : Int → Int} {e : Int} : ∀ (k : Nat) (a : Int), a ≤ e → jjD b e k a ≤ e
  | 0, a, h => h
  | k + 1, a, h => by
    by_cases w : a < e ∧ 48 ≤ b a ∧ b a ≤ 57
    · rw [show jjD b e (k + 1) a = jjD b e k (a + 1) from if_pos w]; exact jjD.le k (a + 1) (by omega)
    · rw [show jjD b e (k + 1) a = a from if_neg w]; exact h
def jjDg (b : Int → Int) (e a : Int) : Int := jjD b e (e - a).toNat a
theorem jjDg.ge (b : Int → Int) (e a : Int) : a ≤ jjDg b e a := jjD.ge _ _
theorem jjDg.le {b : Int → Int} {e a : Int} (h : a ≤ e) : jjDg b e a ≤ e := jjD.le _ _ h
def jjV10 (b : Int → Int) : Nat → Int → Int → Int
  | 0, _, v => v
  | k + 1, a, v => jjV10 b k (a + 1) (v * 10 + b a - 48)
/-- a number: where its digits begin; behind fraction and exponent; behind all, -1 when there is none; the int -/
def jjNb (b : Int → Int) (e a : Int) : Int := if jjK b e a = 45 then a + 1 else a
def jjNf (b : Int → Int) (e a : Int) : Int := if jjK b e a = 46 then (if jjDg b e (a + 1) = a + 1 then -1 else jjDg b e (a + 1)) else a
def jjNq (b : Int → Int) (e a : Int) : Int := if jjK b e a = 43 ∨ jjK b e a = 45 then a + 1 else a
def jjNx (b : Int → Int) (e a : Int) : Int := if jjK b e a = 101 ∨ jjK b e a = 69 then (if jjDg b e (jjNq b e (a + 1)) = jjNq b e (a + 1) then -1 else jjDg b e (jjNq b e (a + 1))) else a
def jjNp (b : Int → Int) (e a : Int) : Int := if jjDg b e (jjNb b e a) = jjNb b e a ∨ (1 < jjDg b e (jjNb b e a) - jjNb b e a ∧ b (jjNb b e a) = 48) then -1 else if jjNf b e (jjDg b e (jjNb b e a)) < 0 then -1 else jjNx b e (jjNf b e (jjDg b e (jjNb b e a)))
def jjNw (b : Int → Int) (e a : Int) : Int := jjV10 b (jjDg b e (jjNb b e a) - jjNb b e a).toNat (jjNb b e a) 0
def jjNv (b : Int → Int) (e a : Int) : Int := if jjK b e a = 45 then - jjNw b e a else jjNw b e a
def jjNi (b : Int → Int) (e a : Int) : Prop := jjNp b e a = jjDg b e (jjNb b e a) ∧ -2147483648 ≤ jjNv b e a ∧ jjNv b e a ≤ 2147483647
/-- a text stands there -/
def jjWf (b : Int → Int) (e : Int) (f : Nat → Int32) (a : Int) : Nat → Nat → Int
  | 0, _ => 1
  | k + 1, i => if a + i < e ∧ b (a + i) = (f i).toInt then jjWf b e f a k (i + 1) else 0
def jjW (b : Int → Int) (e : Int) (f : Nat → Int32) (n : Nat) (a : Int) : Int := jjWf b e f a n 0
theorem jjWf_y {b : Int → Int} {e a : Int} {f : Nat → Int32} {k i : Nat} (h : a + i < e) (h1 : b (a + i) = (f i).toInt) (hk : 0 < k) : jjWf b e f a (k - 1) (i + 1) = jjWf b e f a k i := by
  cases k with
  | zero => omega
  | succ k => exact (if_pos ⟨h, h1⟩).symm
theorem jjWf_n {b : Int → Int} {e a : Int} {f : Nat → Int32} {k i : Nat} (h : e ≤ a + i ∨ b (a + i) ≠ (f i).toInt) (hk : 0 < k) : jjWf b e f a k i = 0 := by
  cases k with
  | zero => omega
  | succ k => exact if_neg (fun q => h.elim (fun w => by omega) (fun w => w q.2))
/-- four hex digits -/
def jjHx (c : Int) : Int := if 48 ≤ c ∧ c ≤ 57 then c - 48 else if 97 ≤ c ∧ c ≤ 102 then c - 87 else if 65 ≤ c ∧ c ≤ 70 then c - 55 else -1
theorem jjHx.r (c : Int) : -1 ≤ jjHx c ∧ jjHx c ≤ 15 := by unfold jjHx; split; omega; split; omega; split <;> omega
def jjF (b : Int → Int) (e : Int) : Nat → Int → Int → Int
  | 0, _, v => v
  | k + 1, a, v => if jjHx (jjK b e a) < 0 then -1 else jjF b e k (a + 1) (16 * v + jjHx (jjK b e a))
theorem jjF_y {b : Int → Int} {e a a1 v v1 c d : Int} {k : Nat} (hc : c = jjK b e a) (hd : d = jjHx c) (h : 0 ≤ d) (hk : 0 < k) (ea : a1 = a + 1) (ev : v1 = 16 * v + d) : jjF b e (k - 1) a1 v1 = jjF b e k a v := by
  subst ea ev hd hc
  cases k with
  | zero => omega
  | succ k => exact (if_neg (by omega)).symm
theorem jjF_n {b : Int → Int} {e a v c : Int} {k : Nat} (hc : c = jjK b e a) (h : jjHx c < 0) (hk : 0 < k) : jjF b e k a v = -1 := by
  subst hc
  cases k with
  | zero => omega
  | succ k => exact if_pos h
theorem jjF.r {b : Int → Int} {e : Int} : ∀ (k : Nat) (a v : Int), 0 ≤ v → v < 65536 → k ≤ 4 → v < 16 ^ (4 - k) → -1 ≤ jjF b e k a v ∧ jjF b e k a v ≤ 65535
  | 0, a, v, h0, h1, _, _ => ⟨by show -1 ≤ v; omega, by show v ≤ 65535; omega⟩
  | k + 1, a, v, h0, h1, h2, h3 => by
    have hr := jjHx.r (jjK b e a)
    by_cases w : jjHx (jjK b e a) < 0
    · rw [show jjF b e (k + 1) a v = -1 from if_pos w]; omega
    · have h4 : (16 : Int) ^ (4 - k) = 16 * 16 ^ (4 - (k + 1)) := by rw [show 4 - k = (4 - (k + 1)) + 1 by omega, Int.pow_succ]; omega
      have h5 : (16 : Int) ^ (4 - k) ≤ 65536 := by
        rcases (by omega : k = 0 ∨ k = 1 ∨ k = 2 ∨ k = 3) with rfl | rfl | rfl | rfl <;> decide
      rw [show jjF b e (k + 1) a v = jjF b e k (a + 1) (16 * v + jjHx (jjK b e a)) from if_neg w]
      exact jjF.r k (a + 1) _ (by omega) (by omega) (by omega) (by omega)
/-- an escape at a: 0 none, 1 one unit, 2 two; how many bytes; the units -/
def jjEs (c : Int) : Int := if c = 34 ∨ c = 92 ∨ c = 47 then c else if c = 98 then 8 else if c = 102 then 12 else if c = 110 then 10 else if c = 114 then 13 else if c = 116 then 9 else -1
def jjEu (b : Int → Int) (e p : Int) : Int × Int × Int × Int :=
  if jjF b e 4 p 0 < 0 ∨ (56320 ≤ jjF b e 4 p 0 ∧ jjF b e 4 p 0 ≤ 57343) then (0, 0, 0, 0)
  else if 55296 ≤ jjF b e 4 p 0 ∧ jjF b e 4 p 0 ≤ 56319 then
    (if jjW b e (jChT "\\u") 2 (p + 4) = 1 ∧ 56320 ≤ jjF b e 4 (p + 6) 0 ∧ jjF b e 4 (p + 6) 0 ≤ 57343 then (2, 12, jjF b e 4 p 0, jjF b e 4 (p + 6) 0) else (0, 0, 0, 0))
  else (1, 6, jjF b e 4 p 0, 0)
def jjE (b : Int → Int) (e a : Int) : Int × Int × Int × Int :=
  if jjK b e (a + 1) = 117 then jjEu b e (a + 2) else if jjEs (jjK b e (a + 1)) < 0 then (0, 0, 0, 0) else (1, 2, jjEs (jjK b e (a + 1)), 0)
/-- what stands at a within a string: 3 its end -/
def jjP (b : Int → Int) (e a : Int) : Int × Int × Int × Int :=
  if e ≤ a then (0, 0, 0, 0) else if jUc b a e = 34 then (3, 1, 0, 0) else if jUc b a e < 32 then (0, 0, 0, 0) else if jUc b a e = 92 then jjE b e a
  else if 65536 ≤ jUc b a e then (2, 4, 55296 + (jUc b a e - 65536) / 1024, 56320 + (jUc b a e - 65536) % 1024) else (1, jUz (jUc b a e), jUc b a e, 0)
/-- the rest of a string: whether it has an end; the place behind it, the units' count, the tables -/
def jjSt (b : Int → Int) (e : Int) : Nat → Int → Int → (Nat → Int → Int) → Int × Int × Int × (Nat → Int → Int)
  | 0, a, u, T => (0, a, u, T)
  | k + 1, a, u, T => if (jjP b e a).1 = 3 then (1, a + 1, u, T) else if (jjP b e a).1 = 1 then jjSt b e k (a + (jjP b e a).2.1) (u + 1) (jjS T 7 u (jjP b e a).2.2.1)
      else if (jjP b e a).1 = 2 then jjSt b e k (a + (jjP b e a).2.1) (u + 2) (jjS (jjS T 7 u (jjP b e a).2.2.1) 7 (u + 1) (jjP b e a).2.2.2) else (0, a, u, T)
theorem jjSt_e {b : Int → Int} {e a u : Int} {T : Nat → Int → Int} {k : Nat} (h : (jjP b e a).1 = 3) (hk : 0 < k) : jjSt b e k a u T = (1, a + 1, u, T) := by
  cases k with
  | zero => omega
  | succ k => exact if_pos h
theorem jjSt_0 {b : Int → Int} {e a u : Int} {T : Nat → Int → Int} {k : Nat} (h : (jjP b e a).1 = 0) : (jjSt b e k a u T).1 = 0 := by
  cases k with
  | zero => rfl
  | succ k => rw [show jjSt b e (k + 1) a u T = (0, a, u, T) by unfold jjSt; rw [if_neg (by omega), if_neg (by omega), if_neg (by omega)]]
theorem jjSt_1 {b : Int → Int} {e a a1 u u1 n x : Int} {T : Nat → Int → Int} {k : Nat} (h : jjP b e a = (1, n, x, 0)) (hk : 0 < k) (ea : a1 = a + n) (eu : u1 = u + 1) : jjSt b e (k - 1) a1 u1 (jjS T 7 u x) = jjSt b e k a u T := by
  subst ea eu
  cases k with
  | zero => omega
  | succ k => conv => rhs; unfold jjSt; rw [h, if_neg (by show ¬ (1 : Int) = 3; omega), if_pos rfl]
              rfl
theorem jjSt_2 {b : Int → Int} {e a a1 u u1 n x y : Int} {T : Nat → Int → Int} {k : Nat} (h : jjP b e a = (2, n, x, y)) (hk : 0 < k) (ea : a1 = a + n) (eu : u1 = u + 2) : jjSt b e (k - 1) a1 u1 (jjS (jjS T 7 u x) 7 (u + 1) y) = jjSt b e k a u T := by
  subst ea eu
  cases k with
  | zero => omega
  | succ k => conv => rhs; unfold jjSt; rw [h, if_neg (by show ¬ (2 : Int) = 3; omega), if_neg (by show ¬ (2 : Int) = 1; omega), if_pos rfl]
              rfl
def jjStr (b : Int → Int) (e a u : Int) (T : Nat → Int → Int) : Int × Int × Int × (Nat → Int → Int) := if jjK b e a = 34 then jjSt b e ((e - a).toNat + 1) (a + 1) u T else (0, a, u, T)
/-- a node is made -/
def jjMk (T : Nat → Int → Int) (v k f z : Int) : Nat → Int → Int := jjS (jjS (jjS (jjS (jjS (jjS (jjS T 1 v k) 2 v f) 3 v z) 4 v (-1)) 5 v 0) 6 v 0) 8 v 0
/-- a value that holds no others: its number or -1, the place behind it, counts, tables -/
def jjL (b : Int → Int) (e a v u : Int) (T : Nat → Int → Int) : Int × Int × Int × Int × (Nat → Int → Int) :=
  if jjK b e a = 34 then (if (jjStr b e a u T).1 = 1 then (v, (jjStr b e a u T).2.1, v + 1, (jjStr b e a u T).2.2.1, jjMk (jjStr b e a u T).2.2.2 v 3 u ((jjStr b e a u T).2.2.1 - u)) else (-1, a, v, u, T))
  else if jjK b e a = 45 ∨ (48 ≤ jjK b e a ∧ jjK b e a ≤ 57) then
    (if jjNp b e a < 0 then (-1, a, v, u, T) else if jjNp b e a = jjDg b e (jjNb b e a) ∧ -2147483648 ≤ jjNv b e a ∧ jjNv b e a ≤ 2147483647 then (v, jjNp b e a, v + 1, u, jjMk T v 4 (jjNv b e a) 0) else (v, jjNp b e a, v + 1, u, jjMk T v 5 0 0))
  else if jjW b e (jChT "true") 4 a = 1 then (v, a + 4, v + 1, u, jjMk T v 5 0 0)
  else if jjW b e (jChT "false") 5 a = 1 then (v, a + 5, v + 1, u, jjMk T v 5 0 0)
  else if jjW b e (jChT "null") 4 a = 1 then (v, a + 4, v + 1, u, jjMk T v 5 0 0)
  else (-1, a, v, u, T)
/-- a member's name and the sign behind it (o = 1), or nothing -/
def jjKy (b : Int → Int) (e o a u : Int) (T : Nat → Int → Int) : Int × Int × Int × (Nat → Int → Int) :=
  if o = 1 then (if (jjStr b e a u T).1 = 1 ∧ jjK b e (jjSk b e (jjStr b e a u T).2.1) = 58 then (1, jjSk b e (jjSk b e (jjStr b e a u T).2.1 + 1), (jjStr b e a u T).2.2.1, (jjStr b e a u T).2.2.2) else (0, a, u, T)) else (1, a, u, T)
theorem jjKy_y {b : Int → Int} {e o a u a1 u1 q a2 : Int} {T T1 : Nat → Int → Int} (ho : o = 1) (h : jjStr b e a u T = (1, a1, u1, T1)) (hq : q = jjSk b e a1) (h1 : jjK b e q = 58) (ea : a2 = jjSk b e (q + 1)) : jjKy b e o a u T = (1, a2, u1, T1) := by
  subst hq ea
  unfold jjKy
  rw [if_pos ho, h, if_pos ⟨rfl, h1⟩]
theorem jjKy_0 {b : Int → Int} {e o a u : Int} {T : Nat → Int → Int} (ho : o = 1) (h : (jjStr b e a u T).1 = 0) : (jjKy b e o a u T).1 = 0 := by
  unfold jjKy
  rw [if_pos ho, if_neg (fun w => by rw [h] at w; exact absurd w.1 (by decide))]
theorem jjKy_c {b : Int → Int} {e o a u a1 u1 q : Int} {T T1 : Nat → Int → Int} (ho : o = 1) (h : jjStr b e a u T = (1, a1, u1, T1)) (hq : q = jjSk b e a1) (h1 : jjK b e q ≠ 58) : (jjKy b e o a u T).1 = 0 := by
  subst hq
  unfold jjKy
  rw [if_pos ho, h, if_neg (fun w => h1 w.2)]
theorem jjKy_l {b : Int → Int} {e o a u : Int} {T : Nat → Int → Int} (ho : o ≠ 1) : jjKy b e o a u T = (1, a, u, T) := if_neg ho
/-- a child c is put behind the last one of h -/
def jjLk (T : Nat → Int → Int) (h l c f z : Int) : Nat → Int → Int := jjS (jjS (if l < 0 then jjS (jjS (jjS T 5 c f) 6 c z) 2 h c else jjS (jjS (jjS T 5 c f) 6 c z) 4 l c) 3 h (T 3 h + 1)) 8 c 1
/-- the values of a list or object; V reads one -/
def jjM (b : Int → Int) (e : Int) (V : Int → Int → Int → (Nat → Int → Int) → Int × Int × Int × Int × (Nat → Int → Int)) (o h : Int) : Nat → Int → Int → Int → (Nat → Int → Int) → Int → Int × Int × Int × Int × (Nat → Int → Int)
  | 0, a, v, u, T, _ => (-1, a, v, u, T)
  | k + 1, a, v, u, T, l =>
    if (jjKy b e o a u T).1 = 1 then
      (if 0 ≤ (V (jjKy b e o a u T).2.1 v (jjKy b e o a u T).2.2.1 (jjKy b e o a u T).2.2.2).1 then
        (if jjK b e (jjSk b e (V (jjKy b e o a u T).2.1 v (jjKy b e o a u T).2.2.1 (jjKy b e o a u T).2.2.2).2.1) = 44 then
          jjM b e V o h k (jjSk b e (jjSk b e (V (jjKy b e o a u T).2.1 v (jjKy b e o a u T).2.2.1 (jjKy b e o a u T).2.2.2).2.1 + 1)) (V (jjKy b e o a u T).2.1 v (jjKy b e o a u T).2.2.1 (jjKy b e o a u T).2.2.2).2.2.1
            (V (jjKy b e o a u T).2.1 v (jjKy b e o a u T).2.2.1 (jjKy b e o a u T).2.2.2).2.2.2.1
            (jjLk (V (jjKy b e o a u T).2.1 v (jjKy b e o a u T).2.2.1 (jjKy b e o a u T).2.2.2).2.2.2.2 h l (V (jjKy b e o a u T).2.1 v (jjKy b e o a u T).2.2.1 (jjKy b e o a u T).2.2.2).1 u ((jjKy b e o a u T).2.2.1 - u))
            (V (jjKy b e o a u T).2.1 v (jjKy b e o a u T).2.2.1 (jjKy b e o a u T).2.2.2).1
         else if jjK b e (jjSk b e (V (jjKy b e o a u T).2.1 v (jjKy b e o a u T).2.2.1 (jjKy b e o a u T).2.2.2).2.1) = (93 + 32 * o) then
          (h, jjSk b e (V (jjKy b e o a u T).2.1 v (jjKy b e o a u T).2.2.1 (jjKy b e o a u T).2.2.2).2.1 + 1, (V (jjKy b e o a u T).2.1 v (jjKy b e o a u T).2.2.1 (jjKy b e o a u T).2.2.2).2.2.1,
            (V (jjKy b e o a u T).2.1 v (jjKy b e o a u T).2.2.1 (jjKy b e o a u T).2.2.2).2.2.2.1,
            jjLk (V (jjKy b e o a u T).2.1 v (jjKy b e o a u T).2.2.1 (jjKy b e o a u T).2.2.2).2.2.2.2 h l (V (jjKy b e o a u T).2.1 v (jjKy b e o a u T).2.2.1 (jjKy b e o a u T).2.2.2).1 u ((jjKy b e o a u T).2.2.1 - u))
         else (-1, a, v, u, T))
       else (-1, a, v, u, T))
    else (-1, a, v, u, T)
section
variable {b : Int → Int} {e o h : Int} {V : Int → Int → Int → (Nat → Int → Int) → Int × Int × Int × Int × (Nat → Int → Int)} {k : Nat} {a v u l a1 u1 r a2 v2 u2 q a3 : Int} {T T1 T2 : Nat → Int → Int}
theorem jjM_more (hp : jjKy b e o a u T = (1, a1, u1, T1)) (hc : V a1 v u1 T1 = (r, a2, v2, u2, T2)) (hr : 0 ≤ r) (hq : q = jjSk b e a2) (h4 : jjK b e q = 44) (ea : a3 = jjSk b e (q + 1)) (hk : 0 < k) : jjM b e V o h (k - 1) a3 v2 u2 (jjLk T2 h l r u (u1 - u)) r = jjM b e V o h k a v u T l := by
  subst hq ea
  cases k with
  | zero => omega
  | succ k =>
    conv => rhs; unfold jjM
    rw [hp]
    dsimp only
    rw [hc]
    dsimp only
    rw [if_pos rfl, if_pos hr, if_pos h4]
    rfl
theorem jjM_end (hp : jjKy b e o a u T = (1, a1, u1, T1)) (hc : V a1 v u1 T1 = (r, a2, v2, u2, T2)) (hr : 0 ≤ r) (hq : q = jjSk b e a2) (h4 : jjK b e q = 93 + 32 * o) (hk : 0 < k) : jjM b e V o h k a v u T l = (h, q + 1, v2, u2, jjLk T2 h l r u (u1 - u)) := by
  subst hq
  cases k with
  | zero => omega
  | succ k =>
    unfold jjM
    rw [hp]
    dsimp only
    rw [hc]
    dsimp only
    rw [if_pos rfl, if_pos hr, if_neg (by omega), if_pos h4]
theorem jjM_0 (hp : (jjKy b e o a u T).1 = 0) : (jjM b e V o h k a v u T l).1 = -1 := by
  cases k with
  | zero => rfl
  | succ k => unfold jjM; rw [if_neg (by rw [hp]; decide)]
theorem jjM_1 (hp : jjKy b e o a u T = (1, a1, u1, T1)) (hc : (V a1 v u1 T1).1 < 0) : (jjM b e V o h k a v u T l).1 = -1 := by
  cases k with
  | zero => rfl
  | succ k => unfold jjM; rw [hp]; dsimp only; rw [if_pos rfl, if_neg (by omega)]
theorem jjM_2 (hp : jjKy b e o a u T = (1, a1, u1, T1)) (hc : V a1 v u1 T1 = (r, a2, v2, u2, T2)) (hq : q = jjSk b e a2) (h4 : jjK b e q ≠ 44) (h5 : jjK b e q ≠ 93 + 32 * o) : (jjM b e V o h k a v u T l).1 = -1 := by
  subst hq
  cases k with
  | zero => rfl
  | succ k =>
    unfold jjM
    rw [hp]
    dsimp only
    rw [hc]
    dsimp only
    rw [if_pos rfl]
    by_cases w : 0 ≤ r
    · rw [if_pos w, if_neg h4, if_neg h5]
    · rw [if_neg w]
end
def jjH (b : Int → Int) (e : Int) (V : Int → Int → Int → (Nat → Int → Int) → Int × Int × Int × Int × (Nat → Int → Int)) (o a v u : Int) (T : Nat → Int → Int) : Int × Int × Int × Int × (Nat → Int → Int) :=
  if jjK b e (jjSk b e (a + 1)) = (93 + 32 * o) then (v, jjSk b e (a + 1) + 1, v + 1, u, jjMk T v (2 - o) (-1) 0)
  else jjM b e V o v ((e - a).toNat + 1) (jjSk b e (a + 1)) (v + 1) u (jjMk T v (2 - o) (-1) 0) (-1)
/-- a value within at most d more lists and objects -/
def jjVal (b : Int → Int) (e : Int) : Nat → Int → Int → Int → (Nat → Int → Int) → Int × Int × Int × Int × (Nat → Int → Int)
  | 0, a, v, u, T => if jjK b e a = 123 ∨ jjK b e a = 91 then (-1, a, v, u, T) else jjL b e a v u T
  | d + 1, a, v, u, T => if jjK b e a = 123 ∨ jjK b e a = 91 then jjH b e (jjVal b e d) (if jjK b e a = 123 then 1 else 0) a v u T else jjL b e a v u T
theorem jjVal_l {b : Int → Int} {e a v u : Int} {T : Nat → Int → Int} {d : Nat} (h : jjK b e a ≠ 123) (h1 : jjK b e a ≠ 91) : jjVal b e d a v u T = jjL b e a v u T := by
  cases d with
  | zero => exact if_neg (fun w => w.elim h h1)
  | succ d => exact if_neg (fun w => w.elim h h1)
theorem jjVal_h {b : Int → Int} {e a v u o : Int} {T : Nat → Int → Int} {d : Nat} (h : (jjK b e a = 123 ∧ o = 1) ∨ (jjK b e a = 91 ∧ o = 0)) (hd : 0 < d) : jjVal b e d a v u T = jjH b e (jjVal b e (d - 1)) o a v u T := by
  cases d with
  | zero => omega
  | succ d =>
    rcases h with ⟨h, ho⟩ | ⟨h, ho⟩
    · show (if jjK b e a = 123 ∨ jjK b e a = 91 then _ else _) = _
      rw [if_pos (Or.inl h), if_pos h, ho]; rfl
    · show (if jjK b e a = 123 ∨ jjK b e a = 91 then _ else _) = _
      rw [if_pos (Or.inr h), if_neg (by rw [h]; decide), ho]; rfl
theorem jjVal_0 {b : Int → Int} {e a v u : Int} {T : Nat → Int → Int} {d : Nat} (h : jjK b e a = 123 ∨ jjK b e a = 91) (hd : d = 0) : (jjVal b e d a v u T).1 = -1 := by
  subst hd
  show (if jjK b e a = 123 ∨ jjK b e a = 91 then _ else _ : Int × Int × Int × Int × (Nat → Int → Int)).1 = -1
  rw [if_pos h]
end
section
-- p9: what a read leaves: places, counts, what stays of the tables
theorem jUr.b {b : Int → Int} {n : Int} : ∀ (k : Nat) (i v y : Int), jUb n y v → y + k = n → 0 ≤ jUr b k i v → jUb n n (jUr b k i v)
  | 0, _, v, y, h, hy, _ => by
    have e : y = n := by omega
    subst e; exact h
  | k + 1, i, v, y, h, hy, h0 => by
    by_cases w : 128 ≤ b i ∧ b i ≤ 191
    · have e : jUr b (k + 1) i v = jUr b k (i + 1) (v * 64 + b i % 64) := if_pos w
      rw [e] at h0 ⊢
      exact jUr.b k (i + 1) _ (y + 1) (h.step (by omega) (y := b i % 64) (by omega) (by omega) rfl rfl) (by omega) h0
    · have e : jUr b (k + 1) i v = -1 := if_neg w
      rw [e] at h0; omega
theorem jUm.x {x : Int} (h : jUm x ≠ 0) : 194 ≤ x ∧ x ≤ 244 := by
  unfold jUm at h
  by_cases a : 194 ≤ x ∧ x ≤ 223
  · omega
  · rw [if_neg a] at h
    by_cases c : 224 ≤ x ∧ x ≤ 239
    · omega
    · rw [if_neg c] at h
      by_cases d : 240 ≤ x ∧ x ≤ 244
      · omega
      · rw [if_neg d] at h; omega
theorem jUz.of {c : Int} (r : Int) (hz : (r = 1 ∧ c < 128) ∨ (r = 2 ∧ 128 ≤ c ∧ c < 2048) ∨ (r = 3 ∧ 2048 ≤ c ∧ c < 65536) ∨ (r = 4 ∧ 65536 ≤ c)) : jUz c = r := by
  unfold jUz
  rcases hz with ⟨e, h⟩ | ⟨e, h, h1⟩ | ⟨e, h, h1⟩ | ⟨e, h⟩
  · rw [if_pos h, e]
  · rw [if_neg (by omega), if_pos h1, e]
  · rw [if_neg (by omega), if_neg (by omega), if_pos h1, e]
  · rw [if_neg (by omega), if_neg (by omega), if_neg (by omega), e]
theorem jUc.sz {b : Int → Int} {a e : Int} (h : 0 ≤ jUc b a e) (ha : a < e) : a + jUz (jUc b a e) ≤ e ∧ 1 ≤ jUz (jUc b a e) ∧ jUc b a e ≤ 1114111 ∧ (65536 ≤ jUc b a e → jUz (jUc b a e) = 4) := by
  unfold jUc at h ⊢
  by_cases w : b a < 128
  · rw [if_pos w] at h ⊢
    rw [jUz.of 1 (by omega)]; omega
  · rw [if_neg w] at h ⊢
    by_cases w2 : jUm (b a) = 0 ∨ e ≤ a + jUm (b a)
    · rw [if_pos w2] at h; omega
    · rw [if_neg w2] at h ⊢
      have hm := jUm.r (b a)
      have hx := jUm.x (x := b a) (by omega)
      unfold jUk at h ⊢
      split at h
      · omega
      · rename_i w3
        rw [if_neg w3]
        have hs := jUb.start (x := b a) (n := jUm (b a) + 1) (k := 1) rfl hx.1 hx.2 rfl (by omega) rfl rfl
        have hb := (jUr.b (b := b) (jUm (b a)).toNat (a + 1) _ 1 hs (by omega) h).end rfl
        generalize jUr b (jUm (b a)).toNat (a + 1) (jU0 (b a) (jUm (b a))) = z at h w3 hb ⊢
        rcases (by omega : jUm (b a) = 1 ∨ jUm (b a) = 2 ∨ jUm (b a) = 3) with q | q | q
        · rw [jUz.of 2 (by omega)]; omega
        · rw [jUz.of 3 (by omega)]; omega
        · rw [jUz.of 4 (by omega)]; omega
theorem jjHx.k {b : Int → Int} {e a : Int} (h : 0 ≤ jjHx (jjK b e a)) : a < e := by
  by_cases w : a < e
  · exact w
  · rw [jjK.n (by omega)] at h; exact absurd h (by decide)
theorem jjF.in {b : Int → Int} {e : Int} : ∀ (k : Nat) (a v : Int), 0 ≤ jjF b e k a v → k = 0 ∨ a + k ≤ e
  | 0, _, _, _ => Or.inl rfl
  | k + 1, a, v, h => by
    by_cases w : jjHx (jjK b e a) < 0
    · rw [show jjF b e (k + 1) a v = -1 from if_pos w] at h; omega
    · rw [show jjF b e (k + 1) a v = jjF b e k (a + 1) (16 * v + jjHx (jjK b e a)) from if_neg w] at h
      have h1 := jjHx.k (b := b) (e := e) (a := a) (by omega)
      rcases jjF.in k (a + 1) _ h with h2 | h2
      · exact Or.inr (by omega)
      · exact Or.inr (by omega)
theorem jjF.r4 (b : Int → Int) (e a : Int) : -1 ≤ jjF b e 4 a 0 ∧ jjF b e 4 a 0 ≤ 65535 := jjF.r 4 a 0 (by omega) (by omega) (by omega) (by decide)
theorem jjEs.r (c : Int) : jjEs c = -1 ∨ (8 ≤ jjEs c ∧ jjEs c ≤ 92 ∧ 34 ≤ c) := by
  unfold jjEs
  split
  · omega
  · split
    · omega
    · split
      · omega
      · split
        · omega
        · split
          · omega
          · split <;> omega
def jjPr (e a : Int) (p : Int × Int × Int × Int) : Prop := p.1 = 0 ∨ (p.1 = 3 ∧ a < e) ∨ (p.1 = 1 ∧ 1 ≤ p.2.1 ∧ a + p.2.1 ≤ e ∧ 0 ≤ p.2.2.1 ∧ p.2.2.1 ≤ 65535 ∧ p.2.2.2 = 0) ∨ (p.1 = 2 ∧ 2 ≤ p.2.1 ∧ a + p.2.1 ≤ e ∧ 0 ≤ p.2.2.1 ∧ p.2.2.1 ≤ 65535 ∧ 0 ≤ p.2.2.2 ∧ p.2.2.2 ≤ 65535)
theorem jjEu.r (b : Int → Int) (e a : Int) : jjPr e a (jjEu b e (a + 2)) := by
  unfold jjEu
  have h1 := jjF.r4 b e (a + 2)
  have h2 := jjF.r4 b e (a + 2 + 6)
  split
  · exact Or.inl rfl
  · rename_i w
    have h3 := jjF.in (b := b) (e := e) 4 (a + 2) 0 (by omega)
    split
    · split
      · rename_i w2 w3
        have h4 := jjF.in (b := b) (e := e) 4 (a + 2 + 6) 0 (by omega)
        exact Or.inr (Or.inr (Or.inr ⟨rfl, by show (2 : Int) ≤ 12; omega, by show a + 12 ≤ e; omega, by show 0 ≤ jjF b e 4 (a + 2) 0; omega, h1.2, by show 0 ≤ jjF b e 4 (a + 2 + 6) 0; omega, h2.2⟩))
      · exact Or.inl rfl
    · exact Or.inr (Or.inr (Or.inl ⟨rfl, by show (1 : Int) ≤ 6; omega, by show a + 6 ≤ e; omega, by show 0 ≤ jjF b e 4 (a + 2) 0; omega, h1.2, rfl⟩))
theorem jjE.r (b : Int → Int) (e a : Int) : jjPr e a (jjE b e a) := by
  unfold jjE
  split
  · exact jjEu.r b e a
  · split
    · exact Or.inl rfl
    · rename_i w
      have h3 := jjEs.r (jjK b e (a + 1))
      have h4 : a + 1 < e := by
        by_cases q : a + 1 < e
        · exact q
        · rw [jjK.n (by omega)] at h3 w; omega
      exact Or.inr (Or.inr (Or.inl ⟨rfl, by show (1 : Int) ≤ 2; omega, by show a + 2 ≤ e; omega, by show 0 ≤ jjEs (jjK b e (a + 1)); omega, by show jjEs (jjK b e (a + 1)) ≤ 65535; omega, rfl⟩))
theorem jjP.r (b : Int → Int) (e a : Int) : jjPr e a (jjP b e a) := by
  unfold jjP
  split
  · exact Or.inl rfl
  · split
    · exact Or.inr (Or.inl ⟨rfl, by omega⟩)
    · split
      · exact Or.inl rfl
      · split
        · exact jjE.r b e a
        · have h := jUc.sz (b := b) (a := a) (e := e) (by omega) (by omega)
          split
          · exact Or.inr (Or.inr (Or.inr ⟨rfl, by show (2 : Int) ≤ 4; omega, by show a + 4 ≤ e; omega, by show 0 ≤ 55296 + (jUc b a e - 65536) / 1024; omega, by show 55296 + (jUc b a e - 65536) / 1024 ≤ 65535; omega, by show 0 ≤ 56320 + (jUc b a e - 65536) % 1024; omega, by show 56320 + (jUc b a e - 65536) % 1024 ≤ 65535; omega⟩))
          · exact Or.inr (Or.inr (Or.inl ⟨rfl, h.2.1, h.1, by show 0 ≤ jUc b a e; omega, by show jUc b a e ≤ 65535; omega, rfl⟩))
/-- tables but the units' stay, and the units below u -/
def jjFr (T T1 : Nat → Int → Int) (v u : Int) : Prop := ∀ (t : Nat) (j : Int), (t ≠ 7 → j < v) → (t = 7 → j < u) → T1 t j = T t j
theorem jjFr.rf (T : Nat → Int → Int) (v u : Int) : jjFr T T v u := fun _ _ _ _ => rfl
theorem jjFr.tr {T T1 T2 : Nat → Int → Int} {v u v1 u1 : Int} (h : jjFr T T1 v u) (h1 : jjFr T1 T2 v1 u1) (hv : v ≤ v1) (hu : u ≤ u1) : jjFr T T2 v u := fun t j q0 q1 => (h1 t j (fun w => by have := q0 w; omega) (fun w => by have := q1 w; omega)).trans (h t j q0 q1)
theorem jjFr.tr' {T T1 T2 : Nat → Int → Int} {v u x : Int} (h : jjFr T T1 v u) (hx : x < v) (h1 : jjFr T1 T2 x u) : jjFr T T2 x u := fun t j q0 q1 => (h1 t j q0 q1).trans (h t j (fun w => by have := q0 w; omega) q1)
theorem jjFr.put {T : Nat → Int → Int} {t : Nat} {v u j x : Int} (h : t ≠ 7 → v ≤ j) (h1 : t = 7 → u ≤ j) : jjFr T (jjS T t j x) v u := fun a c q0 q1 => by
  refine jjS.off ?_
  by_cases w : a = t
  · subst w
    by_cases w2 : a = 7
    · have := q1 w2; have := h1 w2; exact Or.inr (by omega)
    · have := q0 w2; have := h w2; exact Or.inr (by omega)
  · exact Or.inl w
theorem jjSt.fr {b : Int → Int} {e : Int} : ∀ (k : Nat) (a u v : Int) (T : Nat → Int → Int), u ≤ (jjSt b e k a u T).2.2.1 ∧ jjFr T (jjSt b e k a u T).2.2.2 v u ∧ ((jjSt b e k a u T).1 = 0 ∨ ((jjSt b e k a u T).1 = 1 ∧ (jjSt b e k a u T).2.2.1 - u + 1 ≤ (jjSt b e k a u T).2.1 - a ∧ (jjSt b e k a u T).2.1 ≤ e))
  | 0, a, u, v, T => ⟨Int.le_refl u, jjFr.rf T v u, Or.inl rfl⟩
  | k + 1, a, u, v, T => by
    have hr := jjP.r b e a
    rcases hr with hr | hr | hr | hr
    · rw [show jjSt b e (k + 1) a u T = (0, a, u, T) by unfold jjSt; rw [if_neg (by omega), if_neg (by omega), if_neg (by omega)]]
      exact ⟨Int.le_refl u, jjFr.rf T v u, Or.inl rfl⟩
    · rw [jjSt_e hr.1 (by omega)]
      exact ⟨Int.le_refl u, jjFr.rf T v u, Or.inr ⟨rfl, by show u - u + 1 ≤ a + 1 - a; omega, by show a + 1 ≤ e; omega⟩⟩
    · rw [show jjSt b e (k + 1) a u T = jjSt b e k (a + (jjP b e a).2.1) (u + 1) (jjS T 7 u (jjP b e a).2.2.1) by conv => lhs; unfold jjSt; rw [if_neg (by omega), if_pos hr.1]]
      have ih := jjSt.fr (b := b) (e := e) k (a + (jjP b e a).2.1) (u + 1) v (jjS T 7 u (jjP b e a).2.2.1)
      exact ⟨by omega, (jjFr.put (fun h => absurd rfl h) (fun _ => Int.le_refl u)).tr ih.2.1 (Int.le_refl v) (by omega), by omega⟩
    · rw [show jjSt b e (k + 1) a u T = jjSt b e k (a + (jjP b e a).2.1) (u + 2) (jjS (jjS T 7 u (jjP b e a).2.2.1) 7 (u + 1) (jjP b e a).2.2.2) by conv => lhs; unfold jjSt; rw [if_neg (by omega), if_neg (by omega), if_pos hr.1]]
      have ih := jjSt.fr (b := b) (e := e) k (a + (jjP b e a).2.1) (u + 2) v (jjS (jjS T 7 u (jjP b e a).2.2.1) 7 (u + 1) (jjP b e a).2.2.2)
      exact ⟨by omega, ((jjFr.put (fun h => absurd rfl h) (fun _ => Int.le_refl u)).tr (jjFr.put (fun h => absurd rfl h) (fun _ => Int.le_refl (u + 1))) (Int.le_refl v) (by omega)).tr ih.2.1 (Int.le_refl v) (by omega), by omega⟩
theorem jjStr.fr (b : Int → Int) (e a u v : Int) (T : Nat → Int → Int) : u ≤ (jjStr b e a u T).2.2.1 ∧ jjFr T (jjStr b e a u T).2.2.2 v u ∧ ((jjStr b e a u T).1 = 0 ∨ ((jjStr b e a u T).1 = 1 ∧ (jjStr b e a u T).2.2.1 - u + 2 ≤ (jjStr b e a u T).2.1 - a ∧ (jjStr b e a u T).2.1 ≤ e)) := by
  unfold jjStr
  split
  · have h := jjSt.fr (b := b) (e := e) ((e - a).toNat + 1) (a + 1) u v T
    exact ⟨h.1, h.2.1, by omega⟩
  · exact ⟨Int.le_refl u, jjFr.rf T v u, Or.inl rfl⟩
end
section
-- p9: a value that was read: its number, the places, and the chains of its lists and objects
/-- n values in a row, from c on, each behind x and ahead of hi -/
def jjCh (T : Nat → Int → Int) (hi x : Int) : Nat → Int → Prop
  | 0, c => c = -1
  | n + 1, c => x < c ∧ c < hi ∧ T 8 c = 1 ∧ jjCh T hi x n (T 4 c)
theorem jjCh.fr {T T1 : Nat → Int → Int} {hi x : Int} (h4 : ∀ c : Int, x < c → c < hi → T1 4 c = T 4 c ∧ T1 8 c = T 8 c) : ∀ (n : Nat) (c : Int), jjCh T hi x n c → jjCh T1 hi x n c
  | 0, _, h => h
  | n + 1, c, h => by
    have q := h4 c h.1 h.2.1
    exact ⟨h.1, h.2.1, q.2.trans h.2.2.1, by rw [q.1]; exact jjCh.fr h4 n _ h.2.2.2⟩
theorem jjCh.mono {T : Nat → Int → Int} {hi hi1 x : Int} (e : hi ≤ hi1) : ∀ (n : Nat) (c : Int), jjCh T hi x n c → jjCh T hi1 x n c
  | 0, _, h => h
  | n + 1, c, h => ⟨h.1, by have := h.2.1; omega, h.2.2.1, jjCh.mono e n _ h.2.2.2⟩
/-- the lists and objects from lo up to hi are whole -/
def jjCo (T : Nat → Int → Int) (lo hi : Int) : Prop := ∀ x : Int, lo ≤ x → x < hi → (T 1 x = 1 ∨ T 1 x = 2) → ∃ n : Nat, T 3 x = n ∧ jjCh T hi x n (T 2 x)
theorem jjCo.none {T : Nat → Int → Int} {lo hi : Int} (h : hi ≤ lo) : jjCo T lo hi := fun x q0 q1 => by omega
theorem jjCo.fr {T T1 : Nat → Int → Int} {lo hi : Int} (h : jjCo T lo hi) (h1 : ∀ x : Int, lo ≤ x → x < hi → T1 1 x = T 1 x ∧ T1 2 x = T 2 x ∧ T1 3 x = T 3 x) (h4 : ∀ c : Int, lo < c → c < hi → T1 4 c = T 4 c ∧ T1 8 c = T 8 c) : jjCo T1 lo hi := fun x q0 q1 q2 => by
  obtain ⟨a1, a2, a3⟩ := h1 x q0 q1
  rw [a1] at q2
  obtain ⟨n, e, hc⟩ := h x q0 q1 q2
  exact ⟨n, by rw [a3]; exact e, by rw [a2]; exact hc.fr (fun c w0 w1 => h4 c (by omega) w1)⟩
theorem jjCo.mono {T : Nat → Int → Int} {lo hi hi1 : Int} (h : jjCo T lo hi) (e : hi ≤ hi1) : ∀ x : Int, lo ≤ x → x < hi → (T 1 x = 1 ∨ T 1 x = 2) → ∃ n : Nat, T 3 x = n ∧ jjCh T hi1 x n (T 2 x) := fun x q0 q1 q2 => by
  obtain ⟨n, e1, hc⟩ := h x q0 q1 q2
  exact ⟨n, e1, hc.mono e⟩
theorem jjCo.app {T : Nat → Int → Int} {lo m hi : Int} (h : jjCo T lo m) (h1 : jjCo T m hi) (e : m ≤ hi) : jjCo T lo hi := fun x q0 q1 q2 => by
  by_cases w : x < m
  · exact h.mono e x q0 w q2
  · exact h1 x (by omega) q1 q2
/-- n and one more values in a row, from c to l -/
def jjPa (T : Nat → Int → Int) (x : Int) : Nat → Int → Int → Prop
  | 0, c, l => c = l ∧ x < c ∧ T 8 c = 1
  | n + 1, c, l => x < c ∧ T 8 c = 1 ∧ c < T 4 c ∧ jjPa T x n (T 4 c) l
theorem jjPa.le {T : Nat → Int → Int} {x : Int} : ∀ (n : Nat) (c l : Int), jjPa T x n c l → x < c ∧ c ≤ l
  | 0, c, l, h => ⟨h.2.1, by rw [h.1]; omega⟩
  | n + 1, c, l, h => by
    have q := jjPa.le n _ l h.2.2.2
    exact ⟨h.1, by have := h.2.2.1; omega⟩
theorem jjPa.fr {T T1 : Nat → Int → Int} {x l : Int} (h4 : ∀ c : Int, x < c → c < l → T1 4 c = T 4 c) (h8 : ∀ c : Int, x < c → c ≤ l → T1 8 c = T 8 c) : ∀ (n : Nat) (c : Int), jjPa T x n c l → jjPa T1 x n c l
  | 0, c, h => ⟨h.1, h.2.1, (h8 c h.2.1 (by rw [h.1]; omega)).trans h.2.2⟩
  | n + 1, c, h => by
    have q := jjPa.le n _ l h.2.2.2
    have q3 := h.2.2.1
    have e4 := h4 c h.1 (by omega)
    exact ⟨h.1, (h8 c h.1 (by omega)).trans h.2.1, by rw [e4]; exact q3, by rw [e4]; exact jjPa.fr h4 h8 n _ h.2.2.2⟩
theorem jjPa.ext {T : Nat → Int → Int} {x l d : Int} (hd : T 4 l = d) (hl : l < d) (h8 : T 8 d = 1) : ∀ (n : Nat) (c : Int), jjPa T x n c l → jjPa T x (n + 1) c d
  | 0, c, h => by
    obtain ⟨rfl, h1, h2⟩ := h
    exact ⟨h1, h2, by rw [hd]; exact hl, hd, by rw [hd]; omega, by rw [hd]; exact h8⟩
  | n + 1, c, h => ⟨h.1, h.2.1, h.2.2.1, jjPa.ext hd hl h8 n _ h.2.2.2⟩
theorem jjPa.ch {T : Nat → Int → Int} {x l hi : Int} (hl : l < hi) (h4 : T 4 l = -1) : ∀ (n : Nat) (c : Int), jjPa T x n c l → jjCh T hi x (n + 1) c
  | 0, c, h => by
    obtain ⟨rfl, h1, h2⟩ := h
    exact ⟨h1, hl, h2, h4⟩
  | n + 1, c, h => by
    have q := jjPa.le n _ l h.2.2.2
    have q3 := h.2.2.1
    exact ⟨h.1, by omega, h.2.1, jjPa.ch hl h4 n _ h.2.2.2⟩
/-- what a value leaves -/
def jjOut (e a v u : Int) (T : Nat → Int → Int) (R : Int × Int × Int × Int × (Nat → Int → Int)) : Prop := R.1 < 0 ∨ (R.1 = v ∧ a < R.2.1 ∧ R.2.1 ≤ e ∧ v < R.2.2.1 ∧ u ≤ R.2.2.2.1 ∧ R.2.2.2.1 - u ≤ R.2.1 - a ∧ jjFr T R.2.2.2.2 v u ∧ jjCo R.2.2.2.2 v R.2.2.1 ∧ R.2.2.2.2 4 v = -1)
theorem jjMk.at {T : Nat → Int → Int} {v k f z : Int} : jjMk T v k f z 1 v = k ∧ jjMk T v k f z 2 v = f ∧ jjMk T v k f z 3 v = z ∧ jjMk T v k f z 4 v = -1 ∧ jjMk T v k f z 5 v = 0 ∧ jjMk T v k f z 6 v = 0 ∧ jjMk T v k f z 8 v = 0 := by
  unfold jjMk jjS
  simp
theorem jjMk.fr (T : Nat → Int → Int) (v u k f z : Int) : jjFr T (jjMk T v k f z) v u := by
  unfold jjMk
  have hs : ∀ (T : Nat → Int → Int) (t : Nat) (x : Int), t ≠ 7 → jjFr T (jjS T t v x) v u := fun T t x ht => jjFr.put (fun _ => Int.le_refl v) (fun h => absurd h ht)
  have tr : ∀ {T T1 T2 : Nat → Int → Int}, jjFr T T1 v u → jjFr T1 T2 v u → jjFr T T2 v u := fun h h1 => h.tr h1 (Int.le_refl v) (Int.le_refl u)
  exact tr (tr (tr (tr (tr (tr (hs _ 1 _ (by decide)) (hs _ 2 _ (by decide))) (hs _ 3 _ (by decide))) (hs _ 4 _ (by decide))) (hs _ 5 _ (by decide))) (hs _ 6 _ (by decide))) (hs _ 8 _ (by decide))
theorem jjMk.leaf {T : Nat → Int → Int} {v k f z : Int} (h1 : k ≠ 1) (h2 : k ≠ 2) : jjCo (jjMk T v k f z) v (v + 1) := fun x q0 q1 q2 => by
  have e : x = v := by omega
  subst e
  rw [jjMk.at.1] at q2
  exact absurd q2 (fun w => w.elim h1 h2)
theorem jjNf.ge {b : Int → Int} {e a : Int} (h : 0 ≤ jjNf b e a) (ha : a ≤ e) : a ≤ jjNf b e a ∧ jjNf b e a ≤ e := by
  unfold jjNf at h ⊢
  split
  · rename_i w
    rw [if_pos w] at h
    have hl : a < e := by
      by_cases q : a < e
      · exact q
      · rw [jjK.n (by omega)] at w; omega
    split
    · rename_i w2; rw [if_pos w2] at h; omega
    · have h1 := jjDg.ge b e (a + 1)
      exact ⟨by omega, jjDg.le (by omega)⟩
  · exact ⟨Int.le_refl a, ha⟩
theorem jjNx.ge {b : Int → Int} {e a : Int} (h : 0 ≤ jjNx b e a) (ha : a ≤ e) : a ≤ jjNx b e a ∧ jjNx b e a ≤ e := by
  unfold jjNx at h ⊢
  split
  · rename_i w
    rw [if_pos w] at h
    have hl : a < e := by
      by_cases q : a < e
      · exact q
      · rw [jjK.n (by omega)] at w; omega
    have hq : a + 1 ≤ jjNq b e (a + 1) ∧ jjNq b e (a + 1) ≤ e := by
      unfold jjNq
      split
      · rename_i w3
        have : a + 1 < e := by
          by_cases q : a + 1 < e
          · exact q
          · rw [jjK.n (by omega)] at w3; omega
        omega
      · omega
    split
    · rename_i w2; rw [if_pos w2] at h; omega
    · have h1 := jjDg.ge b e (jjNq b e (a + 1))
      exact ⟨by omega, jjDg.le hq.2⟩
  · exact ⟨Int.le_refl a, ha⟩
theorem jjNp.ge {b : Int → Int} {e a : Int} (h : 0 ≤ jjNp b e a) (ha : a < e) : a < jjNp b e a ∧ jjNp b e a ≤ e := by
  have hb : a ≤ jjNb b e a ∧ jjNb b e a ≤ e := by unfold jjNb; split <;> omega
  have hg := jjDg.ge b e (jjNb b e a)
  have hl := jjDg.le (b := b) hb.2
  unfold jjNp at h ⊢
  split
  · rename_i w; rw [if_pos w] at h; omega
  · rename_i w
    rw [if_neg w] at h
    split
    · rename_i w2; rw [if_pos w2] at h; omega
    · rename_i w2
      rw [if_neg w2] at h
      have h1 := jjNf.ge (b := b) (by omega) hl
      have h2 := jjNx.ge h h1.2
      omega
theorem jjWf.in {b : Int → Int} {e a : Int} {f : Nat → Int32} : ∀ (k i : Nat), jjWf b e f a k i = 1 → k = 0 ∨ a + i + k ≤ e
  | 0, _, _ => Or.inl rfl
  | k + 1, i, h => by
    by_cases w : a + i < e ∧ b (a + i) = (f i).toInt
    · rw [show jjWf b e f a (k + 1) i = jjWf b e f a k (i + 1) from if_pos w] at h
      rcases jjWf.in k (i + 1) h with q | q
      · exact Or.inr (by omega)
      · exact Or.inr (by omega)
    · rw [show jjWf b e f a (k + 1) i = 0 from if_neg w] at h; omega
theorem jjL.out (b : Int → Int) (e a v u : Int) (T : Nat → Int → Int) : jjOut e a v u T (jjL b e a v u T) := by
  have hk : ∀ {x : Int}, jjK b e a = x → x ≠ -1 → a < e := fun {x} h h1 => by
    by_cases q : a < e
    · exact q
    · rw [jjK.n (by omega)] at h; omega
  have lf : ∀ {p k f z : Int}, a < p → p ≤ e → k ≠ 1 → k ≠ 2 → jjOut e a v u T (v, p, v + 1, u, jjMk T v k f z) := fun {p k f z} h h1 h2 h3 => Or.inr ⟨rfl, h, h1, by show v < v + 1; omega, Int.le_refl u, by show u - u ≤ p - a; omega, jjMk.fr T v u k f z, jjMk.leaf h2 h3, jjMk.at.2.2.2.1⟩
  unfold jjL
  split
  · split
    · have h := jjStr.fr b e a u v T
      exact Or.inr ⟨rfl, by show a < (jjStr b e a u T).2.1; omega, by show (jjStr b e a u T).2.1 ≤ e; omega, by show v < v + 1; omega, h.1, by show (jjStr b e a u T).2.2.1 - u ≤ (jjStr b e a u T).2.1 - a; omega, h.2.1.tr (jjMk.fr _ v _ _ _ _) (Int.le_refl v) h.1, jjMk.leaf (by decide) (by decide), jjMk.at.2.2.2.1⟩
    · exact Or.inl (by show (-1 : Int) < 0; omega)
  · split
    · rename_i w
      have ha : a < e := by
        by_cases q : a < e
        · exact q
        · rw [jjK.n (by omega)] at w; omega
      split
      · exact Or.inl (by show (-1 : Int) < 0; omega)
      · have h := jjNp.ge (b := b) (e := e) (a := a) (by omega) ha
        split
        · exact lf h.1 h.2 (by decide) (by decide)
        · exact lf h.1 h.2 (by decide) (by decide)
    · split
      · rename_i w
        have h := jjWf.in (b := b) (e := e) (a := a) 4 0 w
        exact lf (by omega) (by omega) (by decide) (by decide)
      · split
        · rename_i w
          have h := jjWf.in (b := b) (e := e) (a := a) 5 0 w
          exact lf (by omega) (by omega) (by decide) (by decide)
        · split
          · rename_i w
            have h := jjWf.in (b := b) (e := e) (a := a) 4 0 w
            exact lf (by omega) (by omega) (by decide) (by decide)
          · exact Or.inl (by show (-1 : Int) < 0; omega)
end
section
-- p9: lists and objects, values: what they leave
theorem jjKy.fr (b : Int → Int) (e o a u v : Int) (T : Nat → Int → Int) : (jjKy b e o a u T).1 = 0 ∨ ((jjKy b e o a u T).1 = 1 ∧ a ≤ (jjKy b e o a u T).2.1 ∧ u ≤ (jjKy b e o a u T).2.2.1 ∧ (jjKy b e o a u T).2.2.1 - u ≤ (jjKy b e o a u T).2.1 - a ∧ jjFr T (jjKy b e o a u T).2.2.2 v u) := by
  unfold jjKy
  split
  · split
    · have h := jjStr.fr b e a u v T
      have h1 := jjSk.ge b e (jjStr b e a u T).2.1
      have h2 := jjSk.ge b e (jjSk b e (jjStr b e a u T).2.1 + 1)
      exact Or.inr ⟨rfl, by show a ≤ jjSk b e (jjSk b e (jjStr b e a u T).2.1 + 1); omega, h.1, by show (jjStr b e a u T).2.2.1 - u ≤ jjSk b e (jjSk b e (jjStr b e a u T).2.1 + 1) - a; omega, h.2.1⟩
    · exact Or.inl rfl
  · exact Or.inr ⟨rfl, Int.le_refl a, Int.le_refl u, by show u - u ≤ a - a; omega, jjFr.rf T v u⟩
section
variable {T : Nat → Int → Int} {h l c f z j : Int}
theorem jjLk.e1 : jjLk T h l c f z 1 j = T 1 j := by by_cases hl : l < 0 <;> simp [jjLk, jjS, hl]
theorem jjLk.e7 : jjLk T h l c f z 7 j = T 7 j := by by_cases hl : l < 0 <;> simp [jjLk, jjS, hl]
theorem jjLk.e2 (q : j ≠ h ∨ 0 ≤ l) : jjLk T h l c f z 2 j = T 2 j := by
  by_cases hl : l < 0
  · have k : j ≠ h := by rcases q with q | q; exact q; omega
    simp [jjLk, jjS, hl, k]
  · simp [jjLk, jjS, hl]
theorem jjLk.e2h (q : l < 0) : jjLk T h l c f z 2 h = c := by simp [jjLk, jjS, q]
theorem jjLk.e3 (q : j ≠ h) : jjLk T h l c f z 3 j = T 3 j := by by_cases hl : l < 0 <;> simp [jjLk, jjS, hl, q]
theorem jjLk.e3h : jjLk T h l c f z 3 h = T 3 h + 1 := by by_cases hl : l < 0 <;> simp [jjLk, jjS, hl]
theorem jjLk.e4 (q : j ≠ l ∨ l < 0) : jjLk T h l c f z 4 j = T 4 j := by
  by_cases hl : l < 0
  · simp [jjLk, jjS, hl]
  · have k : j ≠ l := by rcases q with q | q; exact q; omega
    simp [jjLk, jjS, hl, k]
theorem jjLk.e4l (q : 0 ≤ l) : jjLk T h l c f z 4 l = c := by
  have hl : ¬ l < 0 := by omega
  simp [jjLk, jjS, hl]
theorem jjLk.e5 (q : j ≠ c) : jjLk T h l c f z 5 j = T 5 j := by by_cases hl : l < 0 <;> simp [jjLk, jjS, hl, q]
theorem jjLk.e6 (q : j ≠ c) : jjLk T h l c f z 6 j = T 6 j := by by_cases hl : l < 0 <;> simp [jjLk, jjS, hl, q]
theorem jjLk.e5c : jjLk T h l c f z 5 c = f := by by_cases hl : l < 0 <;> simp [jjLk, jjS, hl]
theorem jjLk.e6c : jjLk T h l c f z 6 c = z := by by_cases hl : l < 0 <;> simp [jjLk, jjS, hl]
theorem jjLk.e8 (q : j ≠ c) : jjLk T h l c f z 8 j = T 8 j := by by_cases hl : l < 0 <;> simp [jjLk, jjS, hl, q]
theorem jjLk.e8c : jjLk T h l c f z 8 c = 1 := by by_cases hl : l < 0 <;> simp [jjLk, jjS, hl]
theorem jjLk.e9 {t : Nat} (q : 8 < t ∨ t = 0) : jjLk T h l c f z t j = T t j := by
  have h2 : t ≠ 2 := by omega
  have h3 : t ≠ 3 := by omega
  have h4 : t ≠ 4 := by omega
  have h5 : t ≠ 5 := by omega
  have h6 : t ≠ 6 := by omega
  have h8 : t ≠ 8 := by omega
  by_cases hl : l < 0 <;> simp [jjLk, jjS, hl, h2, h3, h4, h5, h6, h8]
end
/-- while the values of h are read: l the last one, v values in all -/
def jjIn (T : Nat → Int → Int) (h l v : Int) : Prop := h < v ∧ 0 ≤ h ∧ (T 1 h = 1 ∨ T 1 h = 2) ∧ ((l < 0 ∧ T 3 h = 0 ∧ T 2 h = -1 ∧ v = h + 1) ∨ (0 ≤ l ∧ l < v ∧ T 4 l = -1 ∧ jjCo T (h + 1) l ∧ jjCo T l v ∧ ∃ n : Nat, T 3 h = n + 1 ∧ jjPa T h n (T 2 h) l))
theorem jjIn.step {T T2 : Nat → Int → Int} {h l v v2 f z : Int} (hi : jjIn T h l v) (hf : ∀ (t : Nat) (j : Int), t ≠ 7 → j < v → T2 t j = T t j) (hv : v < v2) (hco : jjCo T2 v v2) (h4 : T2 4 v = -1) : jjIn (jjLk T2 h l v f z) h v v2 := by
  obtain ⟨q1, q2, q3, q4⟩ := hi
  have k1 : ∀ x : Int, v ≤ x → x < v2 → jjLk T2 h l v f z 1 x = T2 1 x ∧ jjLk T2 h l v f z 2 x = T2 2 x ∧ jjLk T2 h l v f z 3 x = T2 3 x := fun x w0 w1 => ⟨jjLk.e1, jjLk.e2 (Or.inl (by omega)), jjLk.e3 (by omega)⟩
  rcases q4 with ⟨l0, n0, f0, e0⟩ | ⟨l0, lv, l4, c1, c2, n, hn, hp⟩
  · have c3 : jjCo (jjLk T2 h l v f z) v v2 := hco.fr k1 (fun c w0 w1 => ⟨jjLk.e4 (Or.inr l0), jjLk.e8 (by omega)⟩)
    exact ⟨by omega, q2, by rw [jjLk.e1, hf 1 h (by decide) q1]; exact q3, Or.inr ⟨by omega, hv, by rw [jjLk.e4 (Or.inr l0)]; exact h4, jjCo.none (by omega), c3, 0, by rw [jjLk.e3h, hf 3 h (by decide) q1, n0]; rfl, by
      refine ⟨?_, ?_, ?_⟩
      · rw [jjLk.e2h l0]
      · rw [jjLk.e2h l0]; exact q1
      · rw [jjLk.e2h l0]; exact jjLk.e8c⟩⟩
  · have hle := jjPa.le n _ l hp
    have c3 : jjCo (jjLk T2 h l v f z) v v2 := hco.fr k1 (fun c w0 w1 => ⟨jjLk.e4 (Or.inl (by omega)), jjLk.e8 (by omega)⟩)
    have k2 : ∀ x : Int, h + 1 ≤ x → x < v → jjLk T2 h l v f z 1 x = T 1 x ∧ jjLk T2 h l v f z 2 x = T 2 x ∧ jjLk T2 h l v f z 3 x = T 3 x := fun x w0 w1 => ⟨jjLk.e1.trans (hf 1 x (by decide) w1), (jjLk.e2 (Or.inl (by omega))).trans (hf 2 x (by decide) w1), (jjLk.e3 (by omega)).trans (hf 3 x (by decide) w1)⟩
    have k3 : ∀ c : Int, c < v → c ≠ l → jjLk T2 h l v f z 4 c = T 4 c ∧ jjLk T2 h l v f z 8 c = T 8 c := fun c w0 w1 => ⟨(jjLk.e4 (Or.inl w1)).trans (hf 4 c (by decide) w0), (jjLk.e8 (by omega)).trans (hf 8 c (by decide) w0)⟩
    have d1 : jjCo (jjLk T2 h l v f z) (h + 1) l := c1.fr (fun x w0 w1 => k2 x w0 (by omega)) (fun c w0 w1 => k3 c (by omega) (by omega))
    have d2 : jjCo (jjLk T2 h l v f z) l v := c2.fr (fun x w0 w1 => k2 x (by omega) w1) (fun c w0 w1 => k3 c (by omega) (by omega))
    have e2 : jjLk T2 h l v f z 2 h = T 2 h := (jjLk.e2 (Or.inr l0)).trans (hf 2 h (by decide) q1)
    exact ⟨by omega, q2, by rw [jjLk.e1, hf 1 h (by decide) q1]; exact q3, Or.inr ⟨by omega, hv, by rw [jjLk.e4 (Or.inl (by omega))]; exact h4, d1.app d2 (by omega), c3, n + 1, by rw [jjLk.e3h, hf 3 h (by decide) q1, hn]; rfl, by
      rw [e2]
      exact jjPa.ext (jjLk.e4l l0) lv jjLk.e8c n _ (jjPa.fr (fun c w0 w1 => (k3 c (by omega) (by omega)).1) (fun c w0 w1 => (jjLk.e8 (by omega)).trans (hf 8 c (by decide) (by omega))) n _ hp)⟩⟩
theorem jjIn.l {T : Nat → Int → Int} {h l v : Int} (hi : jjIn T h l v) : l < 0 ∨ h < l := by
  obtain ⟨q1, q2, q3, q4⟩ := hi
  rcases q4 with ⟨l0, _⟩ | ⟨l0, lv, l4, c1, c2, n, hn, hp⟩
  · exact Or.inl l0
  · have := jjPa.le n _ l hp; exact Or.inr (by omega)
theorem jjIn.whole {T : Nat → Int → Int} {h l v : Int} (hi : jjIn T h l v) (hl : 0 ≤ l) : jjCo T h v := by
  obtain ⟨q1, q2, q3, q4⟩ := hi
  rcases q4 with ⟨l0, _⟩ | ⟨l0, lv, l4, c1, c2, n, hn, hp⟩
  · omega
  · intro x w0 w1 w2
    by_cases e : x = h
    · subst e
      exact ⟨n + 1, hn, jjPa.ch lv l4 n _ hp⟩
    · exact (c1.app c2 (by omega)) x (by omega) w1 w2
theorem jjLk.fr {T : Nat → Int → Int} {h l c f z u : Int} (hl : l < 0 ∨ h < l) (hc : h < c) : jjFr T (jjLk T h l c f z) h u := fun t j w0 w1 => by
  by_cases e : t = 7
  · subst e; exact jjLk.e7
  · have q := w0 e
    rcases (by omega : t = 1 ∨ t = 2 ∨ t = 3 ∨ t = 4 ∨ t = 5 ∨ t = 6 ∨ t = 8 ∨ (8 < t ∨ t = 0)) with e | e | e | e | e | e | e | e
    · subst e; exact jjLk.e1
    · subst e; exact jjLk.e2 (Or.inl (by omega))
    · subst e; exact jjLk.e3 (by omega)
    · subst e; exact jjLk.e4 (by omega)
    · subst e; exact jjLk.e5 (by omega)
    · subst e; exact jjLk.e6 (by omega)
    · subst e; exact jjLk.e8 (by omega)
    · exact jjLk.e9 e
theorem jjM.out {b : Int → Int} {e o h : Int} {V : Int → Int → Int → (Nat → Int → Int) → Int × Int × Int × Int × (Nat → Int → Int)} (hV : ∀ (a v u : Int) (T : Nat → Int → Int), 0 ≤ v → jjOut e a v u T (V a v u T)) : ∀ (k : Nat) (a v u l : Int) (T : Nat → Int → Int), jjIn T h l v →
    (jjM b e V o h k a v u T l).1 < 0 ∨ ((jjM b e V o h k a v u T l).1 = h ∧ a < (jjM b e V o h k a v u T l).2.1 ∧ (jjM b e V o h k a v u T l).2.1 ≤ e ∧ v < (jjM b e V o h k a v u T l).2.2.1 ∧ u ≤ (jjM b e V o h k a v u T l).2.2.2.1 ∧ (jjM b e V o h k a v u T l).2.2.2.1 - u ≤ (jjM b e V o h k a v u T l).2.1 - a ∧ jjFr T (jjM b e V o h k a v u T l).2.2.2.2 h u ∧ jjCo (jjM b e V o h k a v u T l).2.2.2.2 h (jjM b e V o h k a v u T l).2.2.1 ∧ (jjM b e V o h k a v u T l).2.2.2.2 4 h = T 4 h)
  | 0, a, v, u, l, T, _ => Or.inl (by show (-1 : Int) < 0; omega)
  | k + 1, a, v, u, l, T, hi => by
    have hky := jjKy.fr b e o a u v T
    have h01 := hi.2.1
    have h02 := hi.1
    have h03 := hi.l
    rcases hky with hk0 | ⟨hk1, hk2, hk3, hk4, hk5⟩
    · exact Or.inl (by rw [jjM_0 hk0]; omega)
    · have hp : jjKy b e o a u T = (1, (jjKy b e o a u T).2.1, (jjKy b e o a u T).2.2.1, (jjKy b e o a u T).2.2.2) := by rw [← hk1]
      generalize (jjKy b e o a u T).2.1 = a1 at *
      generalize (jjKy b e o a u T).2.2.1 = u1 at *
      generalize (jjKy b e o a u T).2.2.2 = T1 at *
      have ho := hV a1 v u1 T1 (by omega)
      rcases ho with ho | ⟨o1, o2, o3, o4, o5, o6, o7, o8, o9⟩
      · exact Or.inl (by rw [jjM_1 hp ho]; omega)
      · have hc : V a1 v u1 T1 = (v, (V a1 v u1 T1).2.1, (V a1 v u1 T1).2.2.1, (V a1 v u1 T1).2.2.2.1, (V a1 v u1 T1).2.2.2.2) := Prod.ext o1 rfl
        generalize (V a1 v u1 T1).2.1 = a2 at *
        generalize (V a1 v u1 T1).2.2.1 = v2 at *
        generalize (V a1 v u1 T1).2.2.2.1 = u2 at *
        generalize (V a1 v u1 T1).2.2.2.2 = T2 at *
        have hf : ∀ (t : Nat) (j : Int), t ≠ 7 → j < v → T2 t j = T t j := fun t j w0 w1 => (o7 t j (fun _ => w1) (fun w => absurd w w0)).trans (hk5 t j (fun _ => w1) (fun w => absurd w w0))
        have hi2 := hi.step (f := u) (z := u1 - u) hf o4 o8 o9
        have hfr : jjFr T (jjLk T2 h l v u (u1 - u)) h u := (hk5.tr o7 (Int.le_refl v) hk3).tr' h02 (jjLk.fr h03 h02)
        have hq := jjSk.ge b e a2
        have e4 : jjLk T2 h l v u (u1 - u) 4 h = T 4 h := (jjLk.e4 (by omega)).trans (hf 4 h (by decide) h02)
        by_cases w : jjK b e (jjSk b e a2) = 44
        · have hw := jjSk.ge b e (jjSk b e a2 + 1)
          rw [← jjM_more (h := h) (l := l) (k := k + 1) hp hc (by omega) rfl w rfl (by omega)]
          have ih := jjM.out (b := b) (o := o) hV k (jjSk b e (jjSk b e a2 + 1)) v2 u2 v (jjLk T2 h l v u (u1 - u)) hi2
          rcases ih with ih | ⟨i1, i2, i3, i4, i5, i6, i7, i8, i9⟩
          · exact Or.inl ih
          · exact Or.inr ⟨i1, by show a < (jjM b e V o h k _ _ _ _ _).2.1; omega, i3, by show v < (jjM b e V o h k _ _ _ _ _).2.2.1; omega, by show u ≤ (jjM b e V o h k _ _ _ _ _).2.2.2.1; omega, by show (jjM b e V o h k _ _ _ _ _).2.2.2.1 - u ≤ (jjM b e V o h k _ _ _ _ _).2.1 - a; omega, hfr.tr i7 (Int.le_refl h) (by omega), i8, i9.trans e4⟩
        · by_cases w2 : jjK b e (jjSk b e a2) = 93 + 32 * o
          · have hlt : jjSk b e a2 < e := by
              by_cases q : jjSk b e a2 < e
              · exact q
              · rw [jjK.n (by omega)] at w2; omega
            rw [jjM_end (h := h) (l := l) (k := k + 1) hp hc (by omega) rfl w2 (by omega)]
            exact Or.inr ⟨rfl, by show a < jjSk b e a2 + 1; omega, by show jjSk b e a2 + 1 ≤ e; omega, o4, by show u ≤ u2; omega, by show u2 - u ≤ jjSk b e a2 + 1 - a; omega, hfr, hi2.whole (by omega), e4⟩
          · exact Or.inl (by rw [jjM_2 (h := h) (l := l) (k := k + 1) hp hc rfl w w2]; omega)
theorem jjVal.out {b : Int → Int} {e : Int} : ∀ (d : Nat) (a v u : Int) (T : Nat → Int → Int), 0 ≤ v → jjOut e a v u T (jjVal b e d a v u T)
  | 0, a, v, u, T, h0 => by
    by_cases w : jjK b e a = 123 ∨ jjK b e a = 91
    · exact Or.inl (by rw [jjVal_0 w rfl]; omega)
    · rw [jjVal_l (fun q => w (Or.inl q)) (fun q => w (Or.inr q))]; exact jjL.out b e a v u T
  | d + 1, a, v, u, T, h0 => by
    by_cases w : jjK b e a = 123 ∨ jjK b e a = 91
    · obtain ⟨o, ho⟩ : ∃ o : Int, (jjK b e a = 123 ∧ o = 1) ∨ (jjK b e a = 91 ∧ o = 0) := by
        rcases w with w | w
        · exact ⟨1, Or.inl ⟨w, rfl⟩⟩
        · exact ⟨0, Or.inr ⟨w, rfl⟩⟩
      rw [jjVal_h (d := d + 1) ho (by omega)]
      have hs := jjSk.ge b e (a + 1)
      show jjOut e a v u T (jjH b e (jjVal b e d) o a v u T)
      have hk : (2 - o : Int) = 1 ∨ (2 - o : Int) = 2 := by omega
      unfold jjH
      generalize (2 - o : Int) = kd at hk ⊢
      split
      · rename_i w2
        have hlt : jjSk b e (a + 1) < e := by
          by_cases q : jjSk b e (a + 1) < e
          · exact q
          · rw [jjK.n (by omega)] at w2; omega
        refine Or.inr ⟨rfl, by show a < jjSk b e (a + 1) + 1; omega, by show jjSk b e (a + 1) + 1 ≤ e; omega, by show v < v + 1; omega, Int.le_refl u, by show u - u ≤ jjSk b e (a + 1) + 1 - a; omega, jjMk.fr T v u _ _ _, ?_, jjMk.at.2.2.2.1⟩
        intro x w0 w1 _
        have w1 : x < v + 1 := w1
        have ex : x = v := by omega
        subst ex
        exact ⟨0, (jjMk.at (z := 0)).2.2.1, (jjMk.at (z := 0)).2.1⟩
      · have hi : jjIn (jjMk T v kd (-1) 0) v (-1) (v + 1) := ⟨by omega, h0, by rw [jjMk.at.1]; exact hk, Or.inl ⟨by omega, jjMk.at.2.2.1, jjMk.at.2.1, rfl⟩⟩
        have hm := jjM.out (b := b) (e := e) (o := o) (jjVal.out (b := b) (e := e) d) ((e - a).toNat + 1) (jjSk b e (a + 1)) (v + 1) u (-1) _ hi
        rcases hm with hm | ⟨i1, i2, i3, i4, i5, i6, i7, i8, i9⟩
        · exact Or.inl hm
        · exact Or.inr ⟨i1, by omega, i3, by omega, i5, by omega, (jjMk.fr T v u _ _ _).tr i7 (Int.le_refl v) (Int.le_refl u), i8, i9.trans jjMk.at.2.2.2.1⟩
    · rw [jjVal_l (fun q => w (Or.inl q)) (fun q => w (Or.inr q))]; exact jjL.out b e a v u T
end
section
-- p9: frames: X 0 fine or broken, 1 place, 2 told, 3 kept, 4 signs, 5 the name is like the wanted one, 6 digits, 7 value, 8 filled
def jfSm (c : Int) : Int := if 65 ≤ c ∧ c ≤ 90 then c + 32 else c
section
variable {x a b c d e f g h i u r p q ql qg : Int}
theorem jfSm.of {s : Int} (h : (65 ≤ u ∧ u ≤ 90 ∧ s = u + 32) ∨ ((u < 65 ∨ 90 < u) ∧ s = u)) : s = jfSm u := by
  unfold jfSm
  rcases h with ⟨h1, h2, h3⟩ | ⟨h1, h2⟩
  · rw [if_pos ⟨h1, h2⟩, h3]
  · rw [if_neg (by omega), h2]
/-- the body's bytes -/
def jfBd (D : Int → Int) (f : Nat → Int32) (n : Int) : Prop := ∀ j : Int, 0 ≤ j → j < n → jB8 f j = D j ∧ -128 ≤ jSo f j ∧ jSo f j ≤ 127
def jfBu (D : Int → Int) (i c : Int) : Int → Int := fun j => if j = i then c else D j
theorem jfBd.put {D : Int → Int} {f k : Nat → Int32} {n m c : Int} (hD : jfBd D f n) (hc : jSo k n % 256 = c % 256) (hr : -128 ≤ jSo k n ∧ jSo k n ≤ 127) (h0 : 0 ≤ c) (h1 : c ≤ 255) (ho : ∀ j : Int, 0 ≤ j → j < n → jSo k j = jSo f j) (hm : m = n + 1) : jfBd (jfBu D n c) k m := fun j q0 q1 => by
  unfold jfBu
  by_cases w : j = n
  · rw [if_pos w, w]; unfold jB8; omega
  · have h2 := hD j q0 (by omega)
    unfold jB8 at h2 ⊢
    rw [if_neg w, ho j q0 (by omega)]; exact h2
end
section JP3
variable {p : Program} {l : Launch} {e : Env} {R : Room} {s : State} {m : MethodId} {args : Array Value} {below : List Frame} {meth : Method} {c : Code} {H : Heap} {locs : List Loc} {cells slots : Nat} {Q : State → Prop}
variable {cc : ByteArray} {pc : Nat} {ls : Array Slot} {rest : List Value} {dC : Nat → ClassId} {dI : Nat → Nat → Nat} {ca : Nat → ClassId} {B : jF} {base : Nat} {G0 G : jT} {E : List (Nat × Nat)} {H0 : Heap} {zc zs : Nat} {L : List jPin} {M : List jCt} {I : List jIv} {a k n : Nat} {cA : ClassId} {tys : List (ClassId × FieldType)}
end JP3
section JP4
variable {p : Program} {l : Launch} {e : Env} {R : Room} {s : State} {m : MethodId} {args : Array Value} {below : List Frame} {meth : Method} {c : Code} {H : Heap} {locs : List Loc} {cells slots : Nat} {Q : State → Prop}
variable {cc : ByteArray} {pc : Nat} {ls : Array Slot} {rest : List Value} {dC : Nat → ClassId} {dI : Nat → Nat → Nat} {ca : Nat → ClassId} {B : jF} {base : Nat} {G0 G : jT} {E : List (Nat × Nat)} {H0 : Heap} {zc zs : Nat} {L : List jPin} {M : List jCt} {I : List jIv} {a k n : Nat} {cA : ClassId} {tys : List (ClassId × FieldType)}
variable {P : Nat → Int32 → Prop}
theorem j7_zastU (hexec : p.tables.exec = Jvm.exec) (hb : c.code = cc) (hK : va_K (dC, dI) vwCl tys s) (hh : jSt (dC, dI) B base G0 G E H0 zc zs L M I H locs) (hB : jBok B) (hBk : ∀ n G a H, B k n G a H ↔ jAr (dC, dI) cA P n a H) (t0 : Nat) (ht : tys[t0]? = some (cA, .boolean)) (hk : k < 1000) (hk2 : 17 ≤ k) (hE : E.contains (k, 0) = true) (oj : Nat) {kk1 : Nat} {cB : ClassId} {f : Nat → Int32} (hj : M[oj]? = some (a, kk1, n, cB, f)) {M1 : List jCt} (js : List Nat) (hjs : js.map (fun i => M[i]?) = M1.map some) (hM : M1.all (fun q => !(q.2.1 == k)) = true) (hI : I.all (fun q => !(q.1.contains (k, 0))) = true) (ha : G a = some (k, n)) {i v : Int32} {x : Int} (hi : i.toInt = x) (h12 : 0 ≤ x ∧ x < n) (hb1 : v = 0 ∨ v = 1) (hv : P x.toNat v) (hdg : decode cc pc = .ok (.bastore, 1))
    (kk : ∀ (H1 : Heap) (locs1 : List Loc) (g : Nat → Int32), g x.toNat = v → (∀ j, j < n → j ≠ x.toNat → g j = f j) → jSt (dC, dI) B base G0 G E H0 zc zs L ((a, k, n, cA, g) :: M1) I H1 locs1 → W p l e R s m args below meth c H1 locs1 cells slots Q (F0 m (pc + 1) ls rest)) : W p l e R s m args below meth c H locs cells slots Q (F0 m pc ls (.int v :: .int i :: .ref a :: rest)) := by
  obtain ⟨h1, h2⟩ := h12
  obtain ⟨f', g1, g2⟩ := hh.ar hBk hk ha
  obtain ⟨-, -, -, q4⟩ := hh.2.2.2.2.2.2.2.1 _ (List.mem_of_getElem? hj)
  have hh1 : jSt (dC, dI) B base G0 G E H0 zc zs L M1 I H locs := by
    obtain ⟨e1, e2, e3, e4, e5, e6, e7, e8, e9⟩ := hh
    exact ⟨e1, e2, e3, e4, e5, e6, e7, e8.sub js hjs, e9⟩
  refine j_zast (A := jA base) hexec hb hK t0 g1 (hh.ab ha).1 hh.1.2.2 ht hb1 (jb_in hi h1 h2) hdg (fun H1 locs1 hat hsz hfr hT hL => ?_)
  have h9 := hh1.arr hB ha hk hk2 hE hM hI hsz hfr hT hL ((hBk _ _ _ _).mpr ⟨_, hat, jAr_upd g2 hi h1 hv⟩)
  refine kk H1 locs1 (upd f' i.toNatClampNeg v) (by rw [← jb_cl hi h1]; simp [upd]) (fun j hj' hne => ?_) ?_
  · have : j ≠ i.toNatClampNeg := by rw [jb_cl hi h1]; exact hne
    simp only [upd, if_neg this]
    exact (jCt_eq q4 g1 hj').symm
  · obtain ⟨e1, e2, e3, e4, e5, e6, e7, e8, e9⟩ := h9
    refine ⟨e1, e2, e3, e4, e5, e6, e7, fun q hq => ?_, e9⟩
    rcases List.mem_cons.mp hq with e | e
    · subst e; exact ⟨ha, hk2, hk, hat⟩
    · exact e8 q e
end JP4
end
section
-- p9: what the class's methods say of JSON
theorem jjK.lt {b : Int → Int} {e a c : Int} (h : c = jjK b e a) (hc : c ≠ -1) : a < e ∧ b a = c := by
  by_cases w : a < e
  · exact ⟨w, by rw [h, jjK.y w]⟩
  · rw [jjK.n (by omega)] at h; omega
/-- the text f is plain -/
def jjAs (f : Nat → Int32) (n : Nat) : Prop := ∀ i : Nat, i < n → 0 ≤ (f i).toInt ∧ (f i).toInt < 128 ∧ (jCv (f i)).toInt = (f i).toInt
/-- a signed byte of the text, or -1 -/
def jjSb (b : Int → Int) (e a w : Int) : Prop := (a < e ∧ -128 ≤ w ∧ w ≤ 127 ∧ w % 256 = b a) ∨ (e ≤ a ∧ w = -1)
theorem jjSb.no {b : Int → Int} {e a w s : Int} (h : jjSb b e a w) (hs : (65 ≤ w ∧ w ≤ 70 ∧ s = w + 32) ∨ ((w < 65 ∨ 70 < w) ∧ s = w)) (h1 : s < 97 ∨ 102 < s) (h2 : w < 48 ∨ 57 < w) : jjHx (jjK b e a) < 0 := by
  rcases h with ⟨h0, h3, h4, h5⟩ | ⟨h0, h3⟩
  · rw [jjK.y h0, ← h5]
    unfold jjHx
    rw [if_neg (by omega), if_neg (by omega), if_neg (by omega)]; omega
  · rw [jjK.n h0]; decide
theorem jjSb.lt {b : Int → Int} {e a w : Int} (h : jjSb b e a w) (hw : w ≠ -1) : a < e := by
  rcases h with ⟨h, _⟩ | ⟨_, h⟩
  · exact h
  · exact absurd h hw
/-- units that were put -/
def jjPu (f g : Nat → Int32) (u : Int) : Prop := ∀ j : Int, 0 ≤ j → j < u → jSo g j = jSo f j
theorem jjPu.rf (f : Nat → Int32) (u : Int) : jjPu f f u := fun _ _ _ => rfl
theorem jjPu.tr {f g k : Nat → Int32} {u v : Int} (h : jjPu f g u) (h1 : jjPu g k v) (e : u ≤ v) : jjPu f k u := fun j q0 q1 => (h1 j q0 (by omega)).trans (h j q0 q1)
/-- an escape: r, what jjE or jjEu says, the units -/
def jjQe (p : Int × Int × Int × Int) (r n u qu : Int) (f g : Nat → Int32) : Prop := (r = 0 ∧ p.1 = 0) ∨ (r = 1 ∧ ((∃ x : Int, p = (1, n, x, 0) ∧ qu = u + 1 ∧ jSo g u = x ∧ jjPu f g u) ∨ (∃ x y : Int, p = (2, n, x, y) ∧ qu = u + 2 ∧ jSo g u = x ∧ jSo g (u + 1) = y ∧ jjPu f g u)))
theorem jjQe.no {p : Int × Int × Int × Int} {r n u qu : Int} {f g : Nat → Int32} (h : p.1 = 0) (hr : r = 0) : jjQe p r n u qu f g := Or.inl ⟨hr, h⟩
theorem jjQe.one {p : Int × Int × Int × Int} {r n u qu x : Int} {f g : Nat → Int32} (h : p = (1, n, x, 0)) (hr : r = 1) (hq : qu = u + 1) (hg : jSo g u = x) (hf : jjPu f g u) : jjQe p r n u qu f g := Or.inr ⟨hr, Or.inl ⟨x, h, hq, hg, hf⟩⟩
theorem jjQe.two {p : Int × Int × Int × Int} {r n u qu x y : Int} {f g : Nat → Int32} (h : p = (2, n, x, y)) (hr : r = 1) (hq : qu = u + 2) (hg : jSo g u = x) (hg1 : jSo g (u + 1) = y) (hf : jjPu f g u) : jjQe p r n u qu f g := Or.inr ⟨hr, Or.inr ⟨x, y, h, hq, hg, hg1, hf⟩⟩
theorem jjE_s {b : Int → Int} {e a c x : Int} (hc : c = jjK b e (a + 1)) (h : c ≠ 117) (hx : x = jjEs c) (h0 : 0 ≤ x) : jjE b e a = (1, 2, x, 0) := by
  unfold jjE
  rw [← hc, if_neg h, ← hx, if_neg (by omega)]
theorem jjE_n {b : Int → Int} {e a c : Int} (hc : c = jjK b e (a + 1)) (h : c ≠ 117) (hx : jjEs c < 0) : (jjE b e a).1 = 0 := by
  unfold jjE
  rw [← hc, if_neg h, if_pos hx]
theorem jjE_u {b : Int → Int} {e a p : Int} (h : jjK b e (a + 1) = 117) (hp : p = a + 2) : jjE b e a = jjEu b e p := by unfold jjE; rw [if_pos h, hp]
theorem jjEu_n {b : Int → Int} {e p v : Int} (hv : v = jjF b e 4 p 0) (h : v < 0 ∨ (56320 ≤ v ∧ v ≤ 57343)) : (jjEu b e p).1 = 0 := by unfold jjEu; rw [← hv, if_pos h]
theorem jjEu_1 {b : Int → Int} {e p v : Int} (hv : v = jjF b e 4 p 0) (h : 0 ≤ v) (h1 : v < 55296 ∨ 57343 < v) : jjEu b e p = (1, 6, v, 0) := by unfold jjEu; rw [← hv, if_neg (by omega), if_neg (by omega)]
theorem jjEu_2 {b : Int → Int} {e p v w p4 p6 : Int} (hv : v = jjF b e 4 p 0) (h : 55296 ≤ v) (h1 : v ≤ 56319) (h4 : p4 = p + 4) (hw : jjW b e (jChT "\\u") 2 p4 = 1) (h6 : p6 = p + 6) (hw2 : w = jjF b e 4 p6 0) (h2 : 56320 ≤ w) (h3 : w ≤ 57343) : jjEu b e p = (2, 12, v, w) := by
  subst h4 h6
  unfold jjEu
  rw [← hv, ← hw2, if_neg (by omega), if_pos ⟨h, h1⟩, if_pos ⟨hw, h2, h3⟩]
theorem jjEu_x {b : Int → Int} {e p v p4 : Int} (hv : v = jjF b e 4 p 0) (h : 55296 ≤ v) (h1 : v ≤ 56319) (h4 : p4 = p + 4) (hw : jjW b e (jChT "\\u") 2 p4 ≠ 1 ∨ ∃ w : Int, w = jjF b e 4 (p + 6) 0 ∧ (w < 56320 ∨ 57343 < w)) : (jjEu b e p).1 = 0 := by
  subst h4
  unfold jjEu
  rw [← hv, if_neg (by omega), if_pos ⟨h, h1⟩, if_neg (fun q => by
    rcases hw with hw | ⟨w, hw, h5⟩
    · exact hw q.1
    · rw [← hw] at q; omega)]
theorem jjEs.of {c : Int} (h : c = 34 ∨ c = 92 ∨ c = 47) : jjEs c = c := if_pos h
/-- within a string: a place, the units' count and what they are; X is what comes of all -/
def jjLs (b : Int → Int) (e : Int) (k : Nat) (a u : Int) (f : Nat → Int32) (X : Int × Int × Int × (Nat → Int → Int)) : Prop := ∃ T : Nat → Int → Int, jjA T 7 u f ∧ jjSt b e k a u T = X
theorem jjLs.one {b : Int → Int} {e a u a1 u1 n x : Int} {k : Nat} {f g : Nat → Int32} {X : Int × Int × Int × (Nat → Int → Int)} (h : jjLs b e k a u f X) (hp : jjP b e a = (1, n, x, 0)) (hk : 0 < k) (ea : a1 = a + n) (eu : u1 = u + 1) (hg : jSo g u = x) (hf : jjPu f g u) : jjLs b e (k - 1) a1 u1 g X := by
  obtain ⟨T, hT, hX⟩ := h
  exact ⟨jjS T 7 u x, hT.new hg (fun i q0 q1 => hf i q0 q1) eu, (jjSt_1 hp hk ea eu).trans hX⟩
theorem jjLs.two {b : Int → Int} {e a u a1 u1 n x y : Int} {k : Nat} {f g : Nat → Int32} {X : Int × Int × Int × (Nat → Int → Int)} (h : jjLs b e k a u f X) (hp : jjP b e a = (2, n, x, y)) (hk : 0 < k) (ea : a1 = a + n) (eu : u1 = u + 2) (hg : jSo g u = x) (hg1 : jSo g (u + 1) = y) (hf : jjPu f g u) : jjLs b e (k - 1) a1 u1 g X := by
  obtain ⟨T, hT, hX⟩ := h
  have h1 : jjA (jjS T 7 u x) 7 (u + 1) g := hT.new hg (fun i q0 q1 => hf i q0 q1) rfl
  exact ⟨jjS (jjS T 7 u x) 7 (u + 1) y, h1.new hg1 (fun i _ _ => rfl) (by omega), (jjSt_2 hp hk ea eu).trans hX⟩
theorem jjLs.esc {b : Int → Int} {e a u a1 u1 n r : Int} {k : Nat} {f g : Nat → Int32} {X : Int × Int × Int × (Nat → Int → Int)} {p : Int × Int × Int × Int} (h : jjLs b e k a u f X) (hp : jjP b e a = p) (hq : jjQe p r n u u1 f g) (hr : r = 1) (hk : 0 < k) (ea : a1 = a + n) : jjLs b e (k - 1) a1 u1 g X := by
  rcases hq with ⟨q, _⟩ | ⟨_, ⟨x, q1, q2, q3, q4⟩ | ⟨x, y, q1, q2, q3, q4, q5⟩⟩
  · omega
  · exact h.one (hp.trans q1) hk ea q2 q3 q4
  · exact h.two (hp.trans q1) hk ea q2 q3 q4 q5
/-- a string was read: r, the place behind it, the units' count, the units -/
def jjQs (X : Int × Int × Int × (Nat → Int → Int)) (r a u : Int) (f : Nat → Int32) : Prop := (r = 0 ∧ X.1 = 0) ∨ (r = 1 ∧ ∃ T : Nat → Int → Int, X = (1, a, u, T) ∧ jjA T 7 u f)
theorem jjLs.end {b : Int → Int} {e a u a1 r : Int} {k : Nat} {f : Nat → Int32} {X : Int × Int × Int × (Nat → Int → Int)} (h : jjLs b e k a u f X) (hp : (jjP b e a).1 = 3) (hk : 0 < k) (ea : a1 = a + 1) (hr : r = 1) : jjQs X r a1 u f := by
  obtain ⟨T, hT, hX⟩ := h
  rw [jjSt_e hp hk, ← ea] at hX
  exact Or.inr ⟨hr, T, hX.symm, hT⟩
theorem jjLs.bad {b : Int → Int} {e a u a1 u1 r : Int} {k : Nat} {f g : Nat → Int32} {X : Int × Int × Int × (Nat → Int → Int)} (h : jjLs b e k a u f X) (hp : (jjP b e a).1 = 0) (hr : r = 0) : jjQs X r a1 u1 g := by
  obtain ⟨T, hT, hX⟩ := h
  exact Or.inl ⟨hr, by rw [← hX]; exact jjSt_0 hp⟩
theorem jjP_o {b : Int → Int} {e a : Int} (h : e ≤ a) : (jjP b e a).1 = 0 := by unfold jjP; rw [if_pos h]
theorem jjP_q {b : Int → Int} {e a c : Int} (h : a < e) (hc : c = jUc b a e) (h1 : c = 34) : (jjP b e a).1 = 3 := by unfold jjP; rw [if_neg (by omega), ← hc, if_pos h1]
theorem jjP_c {b : Int → Int} {e a c : Int} (h : a < e) (hc : c = jUc b a e) (h1 : c < 32) : (jjP b e a).1 = 0 := by unfold jjP; rw [if_neg (by omega), ← hc, if_neg (by omega), if_pos h1]
theorem jjP_e {b : Int → Int} {e a c : Int} (h : a < e) (hc : c = jUc b a e) (h1 : c = 92) : jjP b e a = jjE b e a := by unfold jjP; rw [if_neg (by omega), ← hc, if_neg (by omega), if_neg (by omega), if_pos h1]
theorem jjP_1 {b : Int → Int} {e a c n : Int} (h : a < e) (hc : c = jUc b a e) (h1 : 32 ≤ c) (h2 : c ≠ 34) (h3 : c ≠ 92) (h4 : c < 65536) (hn : n = jUz c) : jjP b e a = (1, n, c, 0) := by unfold jjP; rw [if_neg (by omega), ← hc, if_neg h2, if_neg (by omega), if_neg h3, if_neg (by omega), hn]
theorem jjP_2 {b : Int → Int} {e a c x y n : Int} (h : a < e) (hc : c = jUc b a e) (h4 : 65536 ≤ c) (hx : x = 55296 + (c - 65536) / 1024) (hy : y = 56320 + (c - 65536) % 1024) (hn : n = jUz c) : jjP b e a = (2, n, x, y) := by
  have e4 : jUz c = 4 := jUz.of 4 (by omega)
  unfold jjP
  rw [if_neg (by omega), ← hc, if_neg (by omega), if_neg (by omega), if_neg (by omega), if_pos h4, hx, hy, hn, e4]
theorem jUc.low {b : Int → Int} {a e c : Int} (hc : c = jUc b a e) (h : 0 ≤ c) (h1 : c < 128) : b a = c := by
  by_cases w : b a < 128
  · rw [hc]; unfold jUc; rw [if_pos w]
  · unfold jUc at hc
    rw [if_neg w] at hc
    by_cases w2 : jUm (b a) = 0 ∨ e ≤ a + jUm (b a)
    · rw [if_pos w2] at hc; omega
    · rw [if_neg w2] at hc
      have hm := jUm.r (b a)
      have hx := jUm.x (x := b a) (by omega)
      unfold jUk at hc
      split at hc
      · omega
      · rename_i w3
        have hs := jUb.start (x := b a) (n := jUm (b a) + 1) (k := 1) rfl hx.1 hx.2 rfl (by omega) rfl rfl
        have hb := (jUr.b (b := b) (jUm (b a)).toNat (a + 1) _ 1 hs (by omega) (by omega)).end rfl
        generalize jUr b (jUm (b a)).toNat (a + 1) (jU0 (b a) (jUm (b a))) = z at hc w3 hb
        omega
/-- the class's rows, as far as they are written -/
def jjTC (T : Nat → Int → Int) (v u : Int) (fk fi fz fn fa fs fu : Nat → Int32) : Prop := jjA T 1 v fk ∧ jjA T 2 v fi ∧ jjA T 3 v fz ∧ jjA T 4 v fn ∧ jjA T 5 v fa ∧ jjA T 6 v fs ∧ jjA T 7 u fu
theorem jjTC.z {T : Nat → Int → Int} {v u : Int} {fk fi fz fn fa fs fu : Nat → Int32} (hv : v = 0) (hu : u = 0) : jjTC T v u fk fi fz fn fa fs fu := by
  have z : ∀ (t : Nat) (n : Int) (f : Nat → Int32), n = 0 → jjA T t n f := fun t n f h j q0 q1 => by omega
  exact ⟨z _ _ _ hv, z _ _ _ hv, z _ _ _ hv, z _ _ _ hv, z _ _ _ hv, z _ _ _ hv, z _ _ _ hu⟩
section
variable {T T1 : Nat → Int → Int} {v u v1 k f z : Int} {fk fi fz fn fa fs fu gk gi gz gn ga gs gu : Nat → Int32}
theorem jjTC.mk (h : jjTC T v u fk fi fz fn fa fs fu) (h0 : 0 ≤ v) (e1 : jSo gk v = k) (o1 : jjPu fk gk v) (e2 : jSo gi v = f) (o2 : jjPu fi gi v) (e3 : jSo gz v = z) (o3 : jjPu fz gz v) (e4 : jSo gn v = -1) (o4 : jjPu fn gn v) (e5 : jSo ga v = 0) (o5 : jjPu fa ga v) (e6 : jSo gs v = 0) (o6 : jjPu fs gs v) (ev : v1 = v + 1) : jjTC (jjMk T v k f z) v1 u gk gi gz gn ga gs fu := by
  obtain ⟨a1, a2, a3, a4, a5, a6, a7⟩ := h
  have ne : ∀ {t t' : Nat} {j x : Int} {T : Nat → Int → Int} {n : Int} {f : Nat → Int32}, t ≠ t' → jjA T t n f → jjA (jjS T t' j x) t n f := fun q h => h.oth q
  unfold jjMk
  refine ⟨?_, ?_, ?_, ?_, ?_, ?_, ?_⟩
  · exact ne (by decide) (ne (by decide) (ne (by decide) (ne (by decide) (ne (by decide) (ne (by decide) (a1.new e1 o1 ev))))))
  · exact ne (by decide) (ne (by decide) (ne (by decide) (ne (by decide) (ne (by decide) ((ne (by decide) a2).new e2 o2 ev)))))
  · exact ne (by decide) (ne (by decide) (ne (by decide) (ne (by decide) ((ne (by decide) (ne (by decide) a3)).new e3 o3 ev))))
  · exact ne (by decide) (ne (by decide) (ne (by decide) ((ne (by decide) (ne (by decide) (ne (by decide) a4))).new e4 o4 ev)))
  · exact ne (by decide) (ne (by decide) ((ne (by decide) (ne (by decide) (ne (by decide) (ne (by decide) a5)))).new e5 o5 ev))
  · exact ne (by decide) ((ne (by decide) (ne (by decide) (ne (by decide) (ne (by decide) (ne (by decide) a6))))).new e6 o6 ev)
  · exact ne (by decide) (ne (by decide) (ne (by decide) (ne (by decide) (ne (by decide) (ne (by decide) (ne (by decide) a7))))))
theorem jjA.fr {t : Nat} {n w : Int} {g : Nat → Int32} (h : jjA T t n g) (hf : jjFr T T1 n w) (ht : t ≠ 7) : jjA T1 t n g := fun j q0 q1 => by rw [hf t j (fun _ => q1) (fun w => absurd w ht)]; exact h j q0 q1
theorem jjTC.str {b : Int → Int} {e a a1 u1 : Int} (h : jjTC T v u fk fi fz fn fa fs fu) (hs : jjStr b e a u T = (1, a1, u1, T1)) (hu : jjA T1 7 u1 gu) : jjTC T1 v u1 fk fi fz fn fa fs gu := by
  obtain ⟨a1, a2, a3, a4, a5, a6, a7⟩ := h
  have hf := (jjStr.fr b e a u v T).2.1
  rw [hs] at hf
  exact ⟨a1.fr hf (by decide), a2.fr hf (by decide), a3.fr hf (by decide), a4.fr hf (by decide), a5.fr hf (by decide), a6.fr hf (by decide), hu⟩
/-- all but one place stay -/
def jjP1 (f g : Nat → Int32) (n x : Int) : Prop := ∀ j : Int, 0 ≤ j → j < n → j ≠ x → jSo g j = jSo f j
theorem jjTC.lk {h l c s w : Int} (q : jjTC T v u fk fi fz fn fa fs fu) (e5 : jSo ga c = s) (o5 : jjP1 fa ga v c) (e6 : jSo gs c = w) (o6 : jjP1 fs gs v c) (hl : (l < 0 ∧ jSo gi h = c ∧ jjP1 fi gi v h ∧ gn = fn) ∨ (0 ≤ l ∧ jSo gn l = c ∧ jjP1 fn gn v l ∧ gi = fi)) (h0 : 0 ≤ h) (hv : h < v) (e3 : jSo gz h = jSo fz h + 1) (o3 : jjP1 fz gz v h) : jjTC (jjLk T h l c s w) v u fk gi gz gn ga gs fu := by
  obtain ⟨a1, a2, a3, a4, a5, a6, a7⟩ := q
  have ne : ∀ {t t' : Nat} {j x : Int} {T : Nat → Int → Int} {n : Int} {f : Nat → Int32}, t ≠ t' → jjA T t n f → jjA (jjS T t' j x) t n f := fun q h => h.oth q
  have e3' : jSo gz h = T 3 h + 1 := by rw [a3 h h0 hv]; exact e3
  unfold jjLk
  rcases hl with ⟨l0, q1, q2, q3⟩ | ⟨l0, q1, q2, q3⟩
  · subst q3
    rw [if_pos l0]
    exact ⟨ne (by decide) (ne (by decide) (ne (by decide) (ne (by decide) (ne (by decide) a1)))), ne (by decide) (ne (by decide) ((ne (by decide) (ne (by decide) a2)).put q1 q2)), ne (by decide) ((ne (by decide) (ne (by decide) (ne (by decide) a3))).put e3' o3), ne (by decide) (ne (by decide) (ne (by decide) (ne (by decide) (ne (by decide) a4)))), ne (by decide) (ne (by decide) (ne (by decide) (ne (by decide) (a5.put e5 o5)))), ne (by decide) (ne (by decide) (ne (by decide) ((ne (by decide) a6).put e6 o6))), ne (by decide) (ne (by decide) (ne (by decide) (ne (by decide) (ne (by decide) a7))))⟩
  · subst q3
    rw [if_neg (by omega)]
    exact ⟨ne (by decide) (ne (by decide) (ne (by decide) (ne (by decide) (ne (by decide) a1)))), ne (by decide) (ne (by decide) (ne (by decide) (ne (by decide) (ne (by decide) a2)))), ne (by decide) ((ne (by decide) (ne (by decide) (ne (by decide) a3))).put e3' o3), ne (by decide) (ne (by decide) ((ne (by decide) (ne (by decide) a4)).put q1 q2)), ne (by decide) (ne (by decide) (ne (by decide) (ne (by decide) (a5.put e5 o5)))), ne (by decide) (ne (by decide) (ne (by decide) ((ne (by decide) a6).put e6 o6))), ne (by decide) (ne (by decide) (ne (by decide) (ne (by decide) (ne (by decide) a7))))⟩
end
/-- a value was read within d lists and objects: its number, or -1 where there is none, or none that could be whole -/
def jjQv (X : Int × Int × Int × Int × (Nat → Int → Int)) (e d r a v u : Int) (fk fi fz fn fa fs fu : Nat → Int32) : Prop := (r = -1 ∧ (X.1 < 0 ∨ e < X.2.1 + d)) ∨ (0 ≤ r ∧ ∃ T : Nat → Int → Int, X = (r, a, v, u, T) ∧ jjTC T v u fk fi fz fn fa fs fu)
section
variable {X : Int × Int × Int × Int × (Nat → Int → Int)} {e d r a v u a0 v0 u0 : Int} {T : Nat → Int → Int} {fk fi fz fn fa fs fu : Nat → Int32}
theorem jjQv.no (h : X.1 < 0) (hr : r = -1) : jjQv X e d r a v u fk fi fz fn fa fs fu := Or.inl ⟨hr, Or.inl h⟩
theorem jjQv.yes (h : X = (r, a, v, u, T)) (h0 : 0 ≤ r) (hT : jjTC T v u fk fi fz fn fa fs fu) : jjQv X e d r a v u fk fi fz fn fa fs fu := Or.inr ⟨h0, T, h, hT⟩
end
/-- k hex digits are read -/
def jjFb (k v : Int) : Prop := 0 ≤ v ∧ ((k = 0 ∧ v = 0) ∨ (k = 1 ∧ v ≤ 15) ∨ (k = 2 ∧ v ≤ 255) ∨ (k = 3 ∧ v ≤ 4095) ∨ (k = 4 ∧ v ≤ 65535))
theorem jjFb.z {k v : Int} (hk : k = 0) (hv : v = 0) : jjFb k v := ⟨by omega, Or.inl ⟨hk, hv⟩⟩
theorem jjFb.r {k v : Int} (h : jjFb k v) : 0 ≤ v ∧ v ≤ 65535 ∧ (3 < k ∨ v ≤ 4095) := by unfold jjFb at h; omega
theorem jjFb.step {k v k1 v1 d : Int} (h : jjFb k v) (hk : k < 4) (h0 : 0 ≤ d) (h1 : d ≤ 15) (ek : k1 = k + 1) (ev : v1 = v * 16 + d) : jjFb k1 v1 := by unfold jjFb at h ⊢; omega
/-- the number is read: k digits from a on, to come; v so far (it stays where it is too large) -/
theorem jjV10.ge {b : Int → Int} : ∀ (k : Nat) (a v : Int), 0 ≤ v → (∀ j : Int, a ≤ j → j < a + k → 48 ≤ b j) → v ≤ jjV10 b k a v
  | 0, _, v, _, _ => Int.le_refl v
  | k + 1, a, v, h, h1 => by
    have h2 := h1 a (by omega) (by omega)
    have h3 := jjV10.ge (b := b) k (a + 1) (v * 10 + b a - 48) (by omega) (fun j q0 q1 => h1 j (by omega) (by omega))
    show v ≤ jjV10 b k (a + 1) (v * 10 + b a - 48)
    omega
theorem jjD.dig {b : Int → Int} {e : Int} : ∀ (k : Nat) (a j : Int), a ≤ j → j < jjD b e k a → 48 ≤ b j ∧ b j ≤ 57
  | 0, a, j, h, h1 => by
    have h1 : j < a := h1
    omega
  | k + 1, a, j, h, h1 => by
    by_cases w : a < e ∧ 48 ≤ b a ∧ b a ≤ 57
    · rw [show jjD b e (k + 1) a = jjD b e k (a + 1) from if_pos w] at h1
      by_cases q : j = a
      · subst q; exact w.2
      · exact jjD.dig k (a + 1) j (by omega) h1
    · rw [show jjD b e (k + 1) a = a from if_neg w] at h1; omega
theorem jjDg.dig {b : Int → Int} {e a j : Int} (h : a ≤ j) (h1 : j < jjDg b e a) : 48 ≤ b j ∧ b j ≤ 57 := jjD.dig _ a j h h1
theorem jjAs_u : jjAs (jChT "\\u") 2 := by unfold jjAs; decide +kernel
theorem jjAs_t : jjAs (jChT "true") 4 := by unfold jjAs; decide +kernel
theorem jjAs_f : jjAs (jChT "false") 5 := by unfold jjAs; decide +kernel
theorem jjAs_n : jjAs (jChT "null") 4 := by unfold jjAs; decide +kernel
theorem jjQe.z {p : Int × Int × Int × Int} {r n u qu : Int} {f g : Nat → Int32} (h : jjQe p r n u qu f g) (hr : r = 0) : p.1 = 0 := by
  rcases h with ⟨_, h⟩ | ⟨h, _⟩
  · exact h
  · omega
theorem jjQe.u {p : Int × Int × Int × Int} {r n u qu : Int} {f g : Nat → Int32} (h : jjQe p r n u qu f g) (hr : r = 1) : u + 1 ≤ qu ∧ qu ≤ u + 2 ∧ (qu = u + 1 ∨ p.1 = 2) := by
  rcases h with ⟨h, _⟩ | ⟨_, ⟨x, q1, q2, _⟩ | ⟨x, y, q1, q2, _⟩⟩
  · omega
  · omega
  · exact ⟨by omega, by omega, Or.inr (by rw [q1])⟩
theorem jjStr.no {b : Int → Int} {e a u : Int} {T : Nat → Int → Int} (h : jjK b e a ≠ 34) : (jjStr b e a u T).1 = 0 := by unfold jjStr; rw [if_neg h]
theorem jjLs.start {b : Int → Int} {e a u a1 : Int} {T : Nat → Int → Int} {f : Nat → Int32} {k : Nat} (hT : jjA T 7 u f) (hk : jjK b e a = 34) (ea : a1 = a + 1) (ek : k = (e - a).toNat + 1) : jjLs b e k a1 u f (jjStr b e a u T) := by
  subst ea ek
  exact ⟨T, hT, by unfold jjStr; rw [if_pos hk]⟩
theorem jjQs.y {X : Int × Int × Int × (Nat → Int → Int)} {r a u : Int} {f : Nat → Int32} (h : jjQs X r a u f) (hr : r = 1) : ∃ T : Nat → Int → Int, X = (1, a, u, T) ∧ jjA T 7 u f := by
  rcases h with ⟨h, _⟩ | ⟨_, h⟩
  · omega
  · exact h
theorem jjQs.n {X : Int × Int × Int × (Nat → Int → Int)} {r a u : Int} {f : Nat → Int32} (h : jjQs X r a u f) (hr : r = 0) : X.1 = 0 := by
  rcases h with ⟨_, h⟩ | ⟨h, _⟩
  · exact h
  · omega
section
variable {b : Int → Int} {e a v u r a1 v1 u1 z c : Int} {T T1 : Nat → Int → Int}
theorem jjL_s (hk : jjK b e a = 34) (hs : jjStr b e a u T = (1, a1, u1, T1)) (hr : r = v) (hv : v1 = v + 1) (hz : z = u1 - u) : jjL b e a v u T = (r, a1, v1, u1, jjMk T1 v 3 u z) := by
  unfold jjL
  rw [if_pos hk, hs, if_pos rfl, hr, hv, hz]
theorem jjL_sn (hk : jjK b e a = 34) (hs : (jjStr b e a u T).1 = 0) : (jjL b e a v u T).1 < 0 := by
  unfold jjL
  rw [if_pos hk, if_neg (by rw [hs]; decide)]
  show (-1 : Int) < 0; decide
theorem jjL_nn (hk : jjK b e a = 45 ∨ (48 ≤ jjK b e a ∧ jjK b e a ≤ 57)) (hn : jjNp b e a < 0) : (jjL b e a v u T).1 < 0 := by
  unfold jjL
  rw [if_neg (by omega), if_pos hk, if_pos hn]
  show (-1 : Int) < 0; decide
theorem jjL_ni (hk : jjK b e a = 45 ∨ (48 ≤ jjK b e a ∧ jjK b e a ≤ 57)) (hn : 0 ≤ jjNp b e a) (hi : jjNi b e a) (hr : r = v) (ha : a1 = jjNp b e a) (hv : v1 = v + 1) : jjL b e a v u T = (r, a1, v1, u, jjMk T v 4 (jjNv b e a) 0) := by
  unfold jjL
  unfold jjNi at hi; rw [if_neg (by omega), if_pos hk, if_neg (by omega), if_pos hi, hr, ha, hv]
theorem jjL_nx (hk : jjK b e a = 45 ∨ (48 ≤ jjK b e a ∧ jjK b e a ≤ 57)) (hn : 0 ≤ jjNp b e a) (hi : ¬ jjNi b e a) (hr : r = v) (ha : a1 = jjNp b e a) (hv : v1 = v + 1) : jjL b e a v u T = (r, a1, v1, u, jjMk T v 5 0 0) := by
  unfold jjL
  unfold jjNi at hi; rw [if_neg (by omega), if_pos hk, if_neg (by omega), if_neg hi, hr, ha, hv]
theorem jjL_w (hc : c = jjK b e a) (h1 : c ≠ 34) (h2 : c ≠ 45) (h3 : c < 48 ∨ 57 < c) (hw : (jjW b e (jChT "true") 4 a = 1 ∧ a1 = a + 4) ∨ (jjW b e (jChT "true") 4 a ≠ 1 ∧ jjW b e (jChT "false") 5 a = 1 ∧ a1 = a + 5) ∨ (jjW b e (jChT "true") 4 a ≠ 1 ∧ jjW b e (jChT "false") 5 a ≠ 1 ∧ jjW b e (jChT "null") 4 a = 1 ∧ a1 = a + 4)) (hr : r = v) (hv : v1 = v + 1) : jjL b e a v u T = (r, a1, v1, u, jjMk T v 5 0 0) := by
  unfold jjL
  rw [← hc, if_neg h1, if_neg (by omega), hr, hv]
  rcases hw with ⟨w1, w2⟩ | ⟨w1, w2, w3⟩ | ⟨w1, w2, w3, w4⟩
  · rw [if_pos w1, w2]
  · rw [if_neg w1, if_pos w2, w3]
  · rw [if_neg w1, if_neg w2, if_pos w3, w4]
theorem jjL_0 (hc : c = jjK b e a) (h1 : c ≠ 34) (h2 : c ≠ 45) (h3 : c < 48 ∨ 57 < c) (w1 : jjW b e (jChT "true") 4 a ≠ 1) (w2 : jjW b e (jChT "false") 5 a ≠ 1) (w3 : jjW b e (jChT "null") 4 a ≠ 1) : (jjL b e a v u T).1 < 0 := by
  unfold jjL
  rw [← hc, if_neg h1, if_neg (by omega), if_neg w1, if_neg w2, if_neg w3]
  show (-1 : Int) < 0; decide
end
section
variable {b : Int → Int} {e a v u r qt qv qu d c : Int} {T : Nat → Int → Int} {fk fi fz fn fa fs fu : Nat → Int32} {n : Nat}
end
theorem jjH_e {b : Int → Int} {e o a v u q r p v1 : Int} {V : Int → Int → Int → (Nat → Int → Int) → Int × Int × Int × Int × (Nat → Int → Int)} {T : Nat → Int → Int} (hq : q = jjSk b e (a + 1)) (hk : jjK b e q = 93 + 32 * o) (hr : r = v) (hp : p = q + 1) (hv : v1 = v + 1) : jjH b e V o a v u T = (r, p, v1, u, jjMk T v (2 - o) (-1) 0) := by
  unfold jjH
  rw [← hq, if_pos hk, hr, hp, hv]
theorem jjH_m {b : Int → Int} {e o a v u q v1 : Int} {k : Nat} {V : Int → Int → Int → (Nat → Int → Int) → Int × Int × Int × Int × (Nat → Int → Int)} {T : Nat → Int → Int} (hq : q = jjSk b e (a + 1)) (hk : jjK b e q ≠ 93 + 32 * o) (hv : v1 = v + 1) (hn : k = (e - a).toNat + 1) : jjM b e V o v k q v1 u (jjMk T v (2 - o) (-1) 0) (-1) = jjH b e V o a v u T := by
  unfold jjH
  rw [← hq, if_neg hk, hv, hn]
theorem jjQv.y {X : Int × Int × Int × Int × (Nat → Int → Int)} {e d r a v u : Int} {fk fi fz fn fa fs fu : Nat → Int32} (h : jjQv X e d r a v u fk fi fz fn fa fs fu) (h0 : 0 ≤ r) : ∃ T : Nat → Int → Int, X = (r, a, v, u, T) ∧ jjTC T v u fk fi fz fn fa fs fu := by
  rcases h with ⟨h, _⟩ | ⟨_, h⟩
  · omega
  · exact h
section
variable {b : Int → Int} {e o h : Int} {V : Int → Int → Int → (Nat → Int → Int) → Int × Int × Int × Int × (Nat → Int → Int)}
variable {k : Nat} {a v u l a1 u1 r r1 a2 v2 u2 q a3 d d1 qt qv qu : Int} {T T1 T2 : Nat → Int → Int} {X : Int × Int × Int × Int × (Nat → Int → Int)} {fk fi fz fn fa fs fu gk gi gz gn ga gs gu : Nat → Int32}
theorem jjM_e2 (hp : jjKy b e o a u T = (1, a1, u1, T1)) (hc : V a1 v u1 T1 = (r, a2, v2, u2, T2)) (hr : 0 ≤ r) (hq : q = jjSk b e a2) (h4 : jjK b e q = 93 + 32 * o) (hk : 0 < k) (hh : r1 = h) (ha : a3 = q + 1) : jjM b e V o h k a v u T l = (r1, a3, v2, u2, jjLk T2 h l r u (u1 - u)) := by rw [hh, ha]; exact jjM_end hp hc hr hq h4 hk
end
/-- a number: its digits; behind a fraction; behind all -/
def jjN1 (b : Int → Int) (e a l2 l3 w : Int) : Prop := l2 = jjNb b e a ∧ w = jjDg b e l2 ∧ l3 = w - l2 ∧ 1 ≤ l3 ∧ (l3 ≤ 1 ∨ b l2 ≠ 48)
def jjN2 (b : Int → Int) (e a l2 l3 l4 w : Int) : Prop := ∃ w1 : Int, jjN1 b e a l2 l3 w1 ∧ w = jjNf b e w1 ∧ 0 ≤ w ∧ ((l4 = 1 ∧ w = w1) ∨ (l4 = 0 ∧ w1 < w))
def jjN3 (b : Int → Int) (e a l2 l3 l4 w : Int) : Prop := ∃ w1 : Int, jjN1 b e a l2 l3 w1 ∧ w = jjNp b e a ∧ 0 ≤ w ∧ ((l4 = 1 ∧ w = w1) ∨ (l4 = 0 ∧ w1 < w))
section
variable {b : Int → Int} {e a l1 l2 l3 l4 w w1 q : Int}
theorem jjN1.fail (h2 : l2 = jjNb b e a) (hw : w = jjDg b e l2) (hx : w = l2 ∨ (1 < w - l2 ∧ b l2 = 48)) : jjNp b e a < 0 := by
  unfold jjNp
  rw [← h2, ← hw, if_pos hx]; omega
theorem jjN1.np (h : jjN1 b e a l2 l3 w) : jjNp b e a = if jjNf b e w < 0 then -1 else jjNx b e (jjNf b e w) := by
  obtain ⟨h2, hw, h3, h4, h5⟩ := h
  unfold jjNp
  rw [← h2, ← hw, if_neg (by omega)]
theorem jjN1.f0 (h : jjN1 b e a l2 l3 w) (hk : jjK b e w ≠ 46) (h0 : 0 ≤ w) (h4 : l4 = 1) : jjN2 b e a l2 l3 l4 w := ⟨w, h, by unfold jjNf; rw [if_neg hk], h0, Or.inl ⟨h4, rfl⟩⟩
theorem jjN1.f1 (h : jjN1 b e a l2 l3 w) (hk : jjK b e w = 46) (hw : w1 = jjDg b e (w + 1)) (hn : w1 ≠ w + 1) (h0 : 0 ≤ w) (h4 : l4 = 0) : jjN2 b e a l2 l3 l4 w1 := by
  have hg := jjDg.ge b e (w + 1)
  exact ⟨w, h, by unfold jjNf; rw [if_pos hk, ← hw, if_neg hn], by omega, Or.inr ⟨h4, by omega⟩⟩
theorem jjN1.fx (h : jjN1 b e a l2 l3 w) (hk : jjK b e w = 46) (hw : w1 = jjDg b e (w + 1)) (hn : w1 = w + 1) : jjNp b e a < 0 := by
  have e1 : jjNf b e w = -1 := by unfold jjNf; rw [if_pos hk, ← hw, if_pos hn]
  rw [h.np, e1, if_pos (by decide)]; decide
theorem jjN2.e0 (h : jjN2 b e a l2 l3 l4 w) (hk : jjK b e w ≠ 101) (hk1 : jjK b e w ≠ 69) : jjN3 b e a l2 l3 l4 w := by
  obtain ⟨w1, h1, h2, h3, h4⟩ := h
  exact ⟨w1, h1, by rw [h1.np, ← h2, if_neg (by omega)]; unfold jjNx; rw [if_neg (fun q => q.elim hk hk1)], h3, h4⟩
theorem jjN2.e1 (h : jjN2 b e a l2 l3 l4 w) (hk : jjK b e w = 101 ∨ jjK b e w = 69) (hq : q = jjNq b e (w + 1)) (hw : w1 = jjDg b e q) (hn : w1 ≠ q) {l : Int} (hl : l = 0) : jjN3 b e a l2 l3 l w1 := by
  obtain ⟨w2, h1, h2, h3, h4⟩ := h
  have hg := jjDg.ge b e q
  have hq1 : w + 1 ≤ q := by rw [hq]; unfold jjNq; split <;> omega
  exact ⟨w2, h1, by rw [h1.np, ← h2, if_neg (by omega)]; unfold jjNx; rw [if_pos hk, ← hq, ← hw, if_neg hn], by omega, Or.inr ⟨hl, by omega⟩⟩
theorem jjN2.ex (h : jjN2 b e a l2 l3 l4 w) (hk : jjK b e w = 101 ∨ jjK b e w = 69) (hq : q = jjNq b e (w + 1)) (hw : w1 = jjDg b e q) (hn : w1 = q) : jjNp b e a < 0 := by
  obtain ⟨w2, h1, h2, h3, h4⟩ := h
  rw [h1.np, ← h2, if_neg (by omega)]
  unfold jjNx
  rw [if_pos hk, ← hq, ← hw, if_pos hn]; decide
theorem jjNq.y {c : Int} (hc : c = jjK b e a) (h : c = 43 ∨ c = 45) (hq : q = a + 1) : q = jjNq b e a := by unfold jjNq; rw [← hc, if_pos h, hq]
theorem jjNq.n {c : Int} (hc : c = jjK b e a) (h : c ≠ 43) (h1 : c ≠ 45) (hq : q = a) : q = jjNq b e a := by unfold jjNq; rw [← hc, if_neg (fun w => w.elim h h1), hq]
theorem jjNb.y {c : Int} (hc : c = jjK b e a) (h : c = 45) (hq : q = a + 1) : q = jjNb b e a := by unfold jjNb; rw [← hc, if_pos h, hq]
theorem jjNb.n {c : Int} (hc : c = jjK b e a) (h : c ≠ 45) (hq : q = a) : q = jjNb b e a := by unfold jjNb; rw [← hc, if_neg h, hq]
theorem jjN3.d (h : jjN3 b e a l2 l3 l4 w) {j : Int} (hj : l2 ≤ j) (hj1 : j < l2 + l3) : 48 ≤ b j ∧ b j ≤ 57 := by
  obtain ⟨w2, ⟨h1, h2, h3, h5, h6⟩, _⟩ := h
  exact jjDg.dig (e := e) hj (by rw [← h2]; omega)
theorem jjN3.i {u s : Int} (h : jjN3 b e a l2 l3 l4 w) (hl : (l1 = 1 ∧ jjK b e a = 45) ∨ (l1 = 0 ∧ jjK b e a ≠ 45)) (hv : u = jjNw b e a ∨ (2147483648 < u ∧ 2147483648 < jjNw b e a)) (hs : (l1 = 1 ∧ s = -u) ∨ (l1 = 0 ∧ s = u)) (h4 : l4 = 1) (h5 : -2147483648 ≤ s) (h6 : s ≤ 2147483647) : jjNi b e a ∧ jjNv b e a = s := by
  obtain ⟨w2, ⟨k1, k2, k3, k5, k6⟩, k7, k8, k9⟩ := h
  have hv2 : u = jjNw b e a := by omega
  have e1 : jjNv b e a = s := by
    unfold jjNv
    rcases hl with ⟨q1, q2⟩ | ⟨q1, q2⟩
    · rw [if_pos q2]; omega
    · rw [if_neg q2]; omega
  exact ⟨⟨by rw [← k7, ← k1, ← k2]; omega, by omega, by omega⟩, e1⟩
theorem jjN3.x {u s : Int} (h : jjN3 b e a l2 l3 l4 w) (hl : (l1 = 1 ∧ jjK b e a = 45) ∨ (l1 = 0 ∧ jjK b e a ≠ 45)) (hv : u = jjNw b e a ∨ (2147483648 < u ∧ 2147483648 < jjNw b e a)) (hs : (l1 = 1 ∧ s = -u) ∨ (l1 = 0 ∧ s = u)) (hx : l4 = 0 ∨ s < -2147483648 ∨ 2147483647 < s) : ¬ jjNi b e a := fun hi => by
  obtain ⟨w2, ⟨k1, k2, k3, k5, k6⟩, k7, k8, k9⟩ := h
  obtain ⟨i1, i2, i3⟩ := hi
  rw [← k7, ← k1, ← k2] at i1
  unfold jjNv at i2 i3
  rcases hl with ⟨q1, q2⟩ | ⟨q1, q2⟩
  · rw [if_pos q2] at i2 i3; omega
  · rw [if_neg q2] at i2 i3; omega
end
theorem jb_laddx {x y z : Int64} (e : z = x + y) (h0 : -1000000000000000 ≤ x.toInt + y.toInt) (h1 : x.toInt + y.toInt ≤ 1000000000000000) : z.toInt = x.toInt + y.toInt := by
  rw [e, Int64.toInt_add]
  show Int.bmod (x.toInt + y.toInt) 18446744073709551616 = _
  unfold Int.bmod
  dsimp only
  split <;> omega
theorem jb_lsub48 {x z : Int64} (e : z = x - 48) (h0 : -1000000000000000 ≤ x.toInt) (h1 : x.toInt ≤ 1000000000000000) : z.toInt = x.toInt - 48 := by
  rw [e, Int64.toInt_sub]
  show Int.bmod (x.toInt - 48) 18446744073709551616 = _
  unfold Int.bmod
  dsimp only
  split <;> omega
theorem jb_lnegx {x z : Int64} (e : z = -x) (h0 : -1000000000000000 ≤ x.toInt) (h1 : x.toInt ≤ 1000000000000000) : z.toInt = - x.toInt := by
  rw [e, Int64.toInt_neg]
  show Int.bmod (- x.toInt) 18446744073709551616 = _
  unfold Int.bmod
  dsimp only
  split <;> omega
theorem jb_l2ix {x : Int64} {z : Int32} (e : z = x.toInt32) (h0 : -2147483648 ≤ x.toInt) (h1 : x.toInt ≤ 2147483647) : z.toInt = x.toInt := by
  rw [e, Int64.toInt_toInt32]
  show Int.bmod x.toInt 4294967296 = _
  unfold Int.bmod
  dsimp only
  split <;> omega
theorem jjN3.n1 {b : Int → Int} {e a l2 l3 l4 w : Int} (h : jjN3 b e a l2 l3 l4 w) : w = jjNp b e a ∧ 0 ≤ jjNp b e a := by
  obtain ⟨w2, _, h1, h2, _⟩ := h
  exact ⟨h1, by omega⟩
/-- a text as JSON: 1 when it is so; how many values and units; the tables -/
def jjRd (b : Int → Int) (e : Int) : Int × Int × Int × (Nat → Int → Int) :=
  if 0 ≤ (jjVal b e 10 (jjSk b e 0) 0 0 (fun _ _ => 0)).1 ∧ jjSk b e (jjVal b e 10 (jjSk b e 0) 0 0 (fun _ _ => 0)).2.1 = e then (1, (jjVal b e 10 (jjSk b e 0) 0 0 (fun _ _ => 0)).2.2.1, (jjVal b e 10 (jjSk b e 0) 0 0 (fun _ _ => 0)).2.2.2.1, (jjVal b e 10 (jjSk b e 0) 0 0 (fun _ _ => 0)).2.2.2.2)
  else (0, 0, 0, fun _ _ => 0)
def jjQr (X : Int × Int × Int × (Nat → Int → Int)) (r v u : Int) (fk fi fz fn fa fs fu : Nat → Int32) : Prop := (r = 0 ∧ X.1 = 0) ∨ (r = 1 ∧ ∃ T : Nat → Int → Int, X = (1, v, u, T) ∧ jjTC T v u fk fi fz fn fa fs fu ∧ jjCo T 0 v ∧ 1 ≤ v)
section
variable {b : Int → Int} {e a d w r r1 v u q v0 u0 : Int} {fk fi fz fn fa fs fu : Nat → Int32} {T0 : Nat → Int → Int}
theorem jjQr.of (ha : a = jjSk b e 0) (h : jjQv (jjVal b e 10 a v0 u0 T0) e d r1 w v u fk fi fz fn fa fs fu) (hv0 : v0 = 0) (hu0 : u0 = 0) (hT : T0 = fun _ _ => 0) (hd : d = 0) (hq : q = jjSk b e w) (hr : (r = 1 ∧ r1 = 0 ∧ q = e) ∨ (r = 0 ∧ (r1 ≠ 0 ∨ q ≠ e))) : jjQr (jjRd b e) r v u fk fi fz fn fa fs fu := by
  subst ha hv0 hu0 hT hd
  have ho := jjVal.out (b := b) (e := e) 10 (jjSk b e 0) 0 0 (fun _ _ => 0) (by omega)
  rcases h with ⟨h1, h2⟩ | ⟨h1, T, h2, h3⟩
  · have hx : (jjVal b e 10 (jjSk b e 0) 0 0 (fun _ _ => 0)).1 < 0 := by
      rcases h2 with h2 | h2
      · exact h2
      · rcases ho with ho | ⟨_, _, ho, _⟩
        · exact ho
        · omega
    refine Or.inl ⟨by omega, ?_⟩
    unfold jjRd
    rw [if_neg (fun w => by omega)]
  · rw [h2] at ho
    rcases ho with ho | ⟨o1, o2, o3, o4, o5, o6, o7, o8, o9⟩
    · have ho : r1 < 0 := ho
      omega
    · have o1 : r1 = 0 := o1
      have o4 : 0 < v := o4
      have o8 : jjCo T 0 v := o8
      rcases hr with ⟨q1, q2, q3⟩ | ⟨q1, q2⟩
      · refine Or.inr ⟨q1, T, ?_, h3, o8, by omega⟩
        unfold jjRd
        rw [h2, if_pos (show 0 ≤ r1 ∧ jjSk b e w = e from ⟨h1, by rw [← hq]; exact q3⟩)]
      · refine Or.inl ⟨q1, ?_⟩
        unfold jjRd
        rw [h2, if_neg (show ¬ (0 ≤ r1 ∧ jjSk b e w = e) from fun z => by rw [← hq] at z; omega)]
end
end
section
-- p9: what is asked of JSON that was read
def jqK (T : Nat → Int → Int) (v i : Int) : Int := if 0 ≤ i ∧ i < v then T 1 i else 0
def jqTx (T : Nat → Int → Int) (f : Nat → Int32) (a : Int) : Nat → Int
  | 0 => 1
  | n + 1 => if T 7 (a + n) = (jCv (f n)).toInt then jqTx T f a n else 0
theorem jqTx.r (T : Nat → Int → Int) (f : Nat → Int32) (a : Int) (n : Nat) : jqTx T f a n = 0 ∨ jqTx T f a n = 1 := by
  induction n with
  | zero => exact Or.inr rfl
  | succ n ih =>
    have e : jqTx T f a (n + 1) = if T 7 (a + n) = (jCv (f n)).toInt then jqTx T f a n else 0 := rfl
    rw [e]; split
    · exact ih
    · exact Or.inl rfl
/-- a units' range is the text f of length n -/
def jqU (T : Nat → Int → Int) (f : Nat → Int32) (n : Nat) (a z : Int) : Int := if z = n then jqTx T f a n else 0
theorem jqU.r (T : Nat → Int → Int) (f : Nat → Int32) (n : Nat) (a z : Int) : jqU T f n a z = 0 ∨ jqU T f n a z = 1 := by
  unfold jqU
  split
  · exact jqTx.r T f a n
  · exact Or.inl rfl
/-- a member: k values are left, from c on -/
def jqMl (T : Nat → Int → Int) (f : Nat → Int32) (n : Nat) : Nat → Int → Int → Int
  | 0, _, d => d
  | k + 1, c, d => jqMl T f n k (T 4 c) (if jqU T f n (T 5 c) (T 6 c) = 1 then c else d)
def jqM (T : Nat → Int → Int) (v : Int) (f : Nat → Int32) (n : Nat) (h : Int) : Int := if jqK T v h = 1 then jqMl T f n (T 3 h).toNat (T 2 h) (-1) else -1
theorem jqMl.r {T : Nat → Int → Int} {f : Nat → Int32} {n : Nat} {v h : Int} : ∀ (k : Nat) (c d : Int), jjCh T v h k c → -1 ≤ h → (d = -1 ∨ (h < d ∧ d < v ∧ T 8 d = 1 ∧ jqU T f n (T 5 d) (T 6 d) = 1)) → (jqMl T f n k c d = -1 ∨ (h < jqMl T f n k c d ∧ jqMl T f n k c d < v ∧ T 8 (jqMl T f n k c d) = 1 ∧ jqU T f n (T 5 (jqMl T f n k c d)) (T 6 (jqMl T f n k c d)) = 1))
  | 0, _, d, _, _, hd => hd
  | k + 1, c, d, hc, h0, hd => by
    show jqMl T f n k (T 4 c) _ = -1 ∨ _
    by_cases q : jqU T f n (T 5 c) (T 6 c) = 1
    · have e : jqMl T f n (k + 1) c d = jqMl T f n k (T 4 c) c := by show jqMl T f n k (T 4 c) _ = _; rw [if_pos q]
      rw [if_pos q, e]
      exact jqMl.r k _ c hc.2.2.2 h0 (Or.inr ⟨hc.1, hc.2.1, hc.2.2.1, q⟩)
    · have e : jqMl T f n (k + 1) c d = jqMl T f n k (T 4 c) d := by show jqMl T f n k (T 4 c) _ = _; rw [if_neg q]
      rw [if_neg q, e]
      exact jqMl.r k _ d hc.2.2.2 h0 hd
theorem jqM.r {T : Nat → Int → Int} {f : Nat → Int32} {n : Nat} {v h : Int} (hco : jjCo T 0 v) : jqM T v f n h = -1 ∨ (0 ≤ jqM T v f n h ∧ jqM T v f n h < v ∧ T 8 (jqM T v f n h) = 1 ∧ jqU T f n (T 5 (jqM T v f n h)) (T 6 (jqM T v f n h)) = 1 ∧ 0 ≤ h ∧ h < v ∧ T 1 h = 1) := by
  unfold jqM
  split
  · rename_i w
    unfold jqK at w
    split at w
    · rename_i w2
      obtain ⟨k, hk, hc⟩ := hco h w2.1 w2.2 (Or.inl w)
      rw [hk, show ((k : Nat) : Int).toNat = k by omega]
      rcases jqMl.r (f := f) (n := n) k (T 2 h) (-1) hc (by omega) (Or.inl rfl) with q | ⟨q1, q2, q3, q4⟩
      · exact Or.inl q
      · exact Or.inr ⟨by omega, q2, q3, q4, w2.1, w2.2, w⟩
    · omega
  · exact Or.inl rfl
theorem jqK.y {T : Nat → Int → Int} {v i : Int} (h0 : 0 ≤ i) (h1 : i < v) : jqK T v i = T 1 i := if_pos ⟨h0, h1⟩
theorem jqK.n {T : Nat → Int → Int} {v i : Int} (h : i < 0 ∨ v ≤ i) : jqK T v i = 0 := if_neg (fun w => by omega)
/-- keys and strings stand among the units -/
def jqR (fk fi fz fa fs : Nat → Int32) (v u : Int) : Prop := ∀ i : Int, 0 ≤ i → i < v → (0 ≤ jSo fa i ∧ 0 ≤ jSo fs i ∧ jSo fa i + jSo fs i ≤ u) ∧ (jSo fk i = 3 → 0 ≤ jSo fi i ∧ 0 ≤ jSo fz i ∧ jSo fi i + jSo fz i ≤ u)
theorem jqR.of {C : jC} {fk fi fz fa fs : Nat → Int32} {qv qu : Int} (h : jJr C 0 0 (fk, fi, fz, fa, fs) qv qu) : jqR fk fi fz fa fs qv qu := fun i h0 h1 => by
  obtain ⟨-, -, h3, -⟩ := h
  have e1 := (h3 (2 * i.toNat + 1) (by omega) (by omega)).1
  have e2 := (h3 (2 * i.toNat) (by omega) (by omega)).1
  unfold jln jlo at e1 e2
  rw [show (2 * i.toNat + 1) / 2 = i.toNat by omega, show ((i.toNat : Nat) : Int) = i by omega, if_neg (by omega), if_neg (by omega)] at e1
  rw [show (2 * i.toNat) / 2 = i.toNat by omega, show ((i.toNat : Nat) : Int) = i by omega] at e2
  rw [if_pos (show (2 * i.toNat) % 2 = 0 by omega), if_pos (show (2 * i.toNat) % 2 = 0 by omega)] at e2
  dsimp only at e1 e2
  refine ⟨⟨e1.2.1, e1.1, e1.2.2⟩, fun hk => ?_⟩
  rw [if_pos hk, if_pos hk] at e2
  exact ⟨e2.2.1, e2.1, e2.2.2⟩
theorem jqK.p {T : Nat → Int → Int} {v i : Int} (h : jqK T v i ≠ 0) : 0 ≤ i ∧ i < v ∧ jqK T v i = T 1 i := by
  unfold jqK at h ⊢
  split
  · rename_i w; exact ⟨w.1, w.2, rfl⟩
  · rename_i w; rw [if_neg w] at h; omega
end
section
-- p9: JSON as the reference reads it
theorem jjB_c {b : Int → Int} {e a a1 c : Int} {k : Nat} (hc : c = jjK b e a) (h : c = 32 ∨ c = 9 ∨ c = 10 ∨ c = 13) (hk : e - a ≤ k) (ea : a1 = a + 1) : jjB b e (k - 1) a1 = jjB b e k a := by
  have h1 := jjK.lt hc (by omega)
  exact jjB_y h1.1 (by unfold jBlk; rw [h1.2, if_pos h]) hk ea
theorem jjB_k {b : Int → Int} {e a c : Int} {k : Nat} (hc : c = jjK b e a) (h1 : c ≠ 32) (h2 : c ≠ 9) (h3 : c ≠ 10) (h4 : c ≠ 13) : jjB b e k a = a := by
  by_cases w : a < e
  · exact jjB_n (Or.inr (by unfold jBlk; rw [← jjK.y (b := b) (e := e) w, ← hc, if_neg (by omega)]; omega))
  · exact jjB_n (Or.inl (by omega))
theorem jjDg.pos {b : Int → Int} {e a c : Int} (hc : c = jjK b e a) (h1 : 48 ≤ c) (h2 : c ≤ 57) : a + 1 ≤ jjDg b e a := by
  have h := jjK.lt hc (by omega)
  unfold jjDg
  rw [← jjD_y (k := (e - a).toNat) h.1 (by omega) (by omega) (by omega) rfl]
  exact jjD.ge _ _
theorem jjDg.none {b : Int → Int} {e a c : Int} (hc : c = jjK b e a) (h : c < 48 ∨ 57 < c) : jjDg b e a = a := by
  unfold jjDg
  by_cases w : a < e
  · exact jjD_n (Or.inr (by rw [← jjK.y (b := b) (e := e) w, ← hc]; omega))
  · exact jjD_n (Or.inl (by omega))
theorem jjHx.d {c : Int} (h : 48 ≤ c) (h1 : c ≤ 57) : c - 48 = jjHx c := by unfold jjHx; rw [if_pos ⟨h, h1⟩]
theorem jjHx.a {c : Int} (h : 97 ≤ c) (h1 : c ≤ 102) : c - 87 = jjHx c := by unfold jjHx; rw [if_neg (by omega), if_pos ⟨h, h1⟩]
theorem jjHx.A {c : Int} (h : 65 ≤ c) (h1 : c ≤ 70) : c - 55 = jjHx c := by unfold jjHx; rw [if_neg (by omega), if_neg (by omega), if_pos ⟨h, h1⟩]
theorem jjHx.n {c : Int} (h : c < 48 ∨ 57 < c) (h1 : c < 97 ∨ 102 < c) (h2 : c < 65 ∨ 70 < c) : -1 = jjHx c := by unfold jjHx; rw [if_neg (by omega), if_neg (by omega), if_neg (by omega)]
/-- while a string is read: bad or not -/
def jjLw (b : Int → Int) (e : Int) (k : Nat) (a u w : Int) (f : Nat → Int32) (X : Int × Int × Int × (Nat → Int → Int)) : Prop := (w = 0 ∧ jjLs b e k a u f X) ∨ (w = 1 ∧ X.1 = 0)
theorem jjLw.ok {b : Int → Int} {e a u w : Int} {k : Nat} {f : Nat → Int32} {X : Int × Int × Int × (Nat → Int → Int)} (h : jjLw b e k a u w f X) (hw : w = 0) : jjLs b e k a u f X := by
  rcases h with ⟨_, h⟩ | ⟨h, _⟩
  · exact h
  · omega
theorem jjLw.bad {b : Int → Int} {e a u w : Int} {k : Nat} {f : Nat → Int32} {X : Int × Int × Int × (Nat → Int → Int)} (h : jjLw b e k a u w f X) (hw : w = 1) : X.1 = 0 := by
  rcases h with ⟨h, _⟩ | ⟨_, h⟩
  · omega
  · exact h
theorem jjLw.x {b : Int → Int} {e a u w a1 u1 : Int} {k k1 : Nat} {f g : Nat → Int32} {X : Int × Int × Int × (Nat → Int → Int)} (h : jjLs b e k a u f X) (hp : (jjP b e a).1 = 0) (hw : w = 1) : jjLw b e k1 a1 u1 w g X := by
  obtain ⟨T, hT, hX⟩ := h
  exact Or.inr ⟨hw, by rw [← hX]; exact jjSt_0 hp⟩
theorem jjP_lo {b : Int → Int} {e a c : Int} (hc : c = jjK b e a) (h : c < 32) : (jjP b e a).1 = 0 := by
  by_cases w : a < e
  · have h1 : b a = c := by rw [hc, jjK.y w]
    exact jjP_c (c := b a) w (by unfold jUc; rw [if_pos (by omega)]) (by omega)
  · exact jjP_o (by omega)
theorem jUc.as {b : Int → Int} {e a c : Int} (hc : c = jjK b e a) (h0 : 0 ≤ c) (h : c < 128) : c = jUc b a e ∧ a < e := by
  have h1 := jjK.lt hc (by omega)
  exact ⟨by unfold jUc; rw [h1.2, if_pos h], h1.1⟩
end
section
-- p9: JSON as the reference reads it
/-- the reference's nodes, as the tables tell them -/
def jjNd (T : Nat → Int → Int) (j s h x nf nt fr to ii iv : Int) : Prop := ((s = 6 ∧ T 1 j = 1 ∧ T 2 j = h) ∨ (s = 5 ∧ T 1 j = 2 ∧ T 2 j = h) ∨ (s = 4 ∧ T 1 j = 3 ∧ T 2 j = fr ∧ T 3 j = to - fr) ∨ (s = 3 ∧ ii = 1 ∧ T 1 j = 4 ∧ T 2 j = iv) ∨ (s = 3 ∧ ii = 0 ∧ T 1 j = 5) ∨ (0 ≤ s ∧ s ≤ 2 ∧ T 1 j = 5)) ∧ T 4 j = x ∧ (T 8 j = 1 → T 6 j = nt - nf ∧ (T 6 j = 0 ∨ T 5 j = nf))
def jjTR (T : Nat → Int → Int) (v : Int) (ms mh mx mf mt mb me mi mn : Nat → Int32) : Prop := ∀ j : Int, 0 ≤ j → j < v → jjNd T j (jSo ms j) (jSo mh j) (jSo mx j) (jSo mf j) (jSo mt j) (jSo mb j) (jSo me j) (jSo mi j) (jSo mn j)
theorem jjTR.z {T : Nat → Int → Int} {v : Int} {ms mh mx mf mt mb me mi mn : Nat → Int32} (h : v = 0) : jjTR T v ms mh mx mf mt mb me mi mn := fun j h0 h1 => by omega
end
section
-- p9: JSON as the reference reads it
theorem jjEs.t {c x : Int} (h : (c = 98 ∧ x = 8) ∨ (c = 102 ∧ x = 12) ∨ (c = 110 ∧ x = 10) ∨ (c = 114 ∧ x = 13) ∨ (c = 116 ∧ x = 9)) : x = jjEs c := by
  rcases h with ⟨rfl, rfl⟩ | ⟨rfl, rfl⟩ | ⟨rfl, rfl⟩ | ⟨rfl, rfl⟩ | ⟨rfl, rfl⟩ <;> decide
theorem jUq.n {b : Int → Int} {i n r q : Int} (h : jUq b i n r q) (hr : r = 0) : jUc b i n < 0 := by
  rcases h with ⟨_, h⟩ | ⟨h, _⟩
  · exact h
  · omega
theorem jUq.p {b : Int → Int} {i n r q : Int} (h : jUq b i n r q) (hr : r ≠ 0) : 1 ≤ r ∧ r ≤ 4 ∧ i + r ≤ n ∧ 0 ≤ q ∧ q = jUc b i n ∧ r = jUz q := by
  rcases h with ⟨h, _⟩ | h
  · omega
  · exact h
/-- where a sign of an escape stands -/
def jxE (c w : Int) : Prop := (w = -1 ∧ jjEs c = -1) ∨ (0 ≤ w ∧ w < 3 ∧ jjEs c = c ∧ 34 ≤ c ∧ c ≤ 92) ∨ (3 ≤ w ∧ (c = 98 ∨ c = 102 ∨ c = 110 ∨ c = 114 ∨ c = 116))
theorem jxE.lo {c w : Int} (h : c < 0) (hw : w = -1) : jxE c w := Or.inl ⟨hw, by
  unfold jjEs
  rw [if_neg (by omega), if_neg (by omega), if_neg (by omega), if_neg (by omega), if_neg (by omega), if_neg (by omega)]⟩
theorem jxE.v : ∀ j : Nat, j < 8 → jSo (jChT "\"\\/bfnrt") j = (if j = 0 then 34 else if j = 1 then 92 else if j = 2 then 47 else if j = 3 then 98 else if j = 4 then 102 else if j = 5 then 110 else if j = 6 then 114 else 116) := by
  intro j hj
  rcases (by omega : j = 0 ∨ j = 1 ∨ j = 2 ∨ j = 3 ∨ j = 4 ∨ j = 5 ∨ j = 6 ∨ j = 7) with rfl | rfl | rfl | rfl | rfl | rfl | rfl | rfl <;> decide +kernel
theorem jxE.c {c : Int32} (h0 : 0 ≤ c.toInt) (h1 : c.toInt ≤ 255) : (c.toInt < 128 ∧ c.toInt8.toInt32.toInt = c.toInt) ∨ (128 ≤ c.toInt ∧ c.toInt8.toInt32.toInt = c.toInt - 256) := by
  rw [Int8.toInt_toInt32, Int32.toInt_toInt8]
  show (c.toInt < 128 ∧ Int.bmod c.toInt 256 = c.toInt) ∨ (128 ≤ c.toInt ∧ Int.bmod c.toInt 256 = c.toInt - 256)
  unfold Int.bmod
  dsimp only
  split <;> omega
theorem jxE.w {j : Nat} (h : j < 8) : jSo (jChT "\"\\/bfnrt") (j : Int) = (if j = 0 then 34 else if j = 1 then 92 else if j = 2 then 47 else if j = 3 then 98 else if j = 4 then 102 else if j = 5 then 110 else if j = 6 then 114 else 116) := jxE.v j h
theorem jxE.of {c : Int32} {w : Int} (h : jIxR (jChT "\"\\/bfnrt") c.toInt8.toInt32 0 8 w) (h0 : 0 ≤ c.toInt) (h1 : c.toInt ≤ 255) : jxE c.toInt w := by
  have hc := jxE.c h0 h1
  generalize c.toInt8.toInt32 = m at h hc
  rcases h with ⟨hw, h2⟩ | ⟨q0, q1, q2, q3⟩
  · have e0 := h2 ((0 : Nat) : Int) (by omega) (by omega)
    have e1 := h2 ((1 : Nat) : Int) (by omega) (by omega)
    have e2 := h2 ((2 : Nat) : Int) (by omega) (by omega)
    have e3 := h2 ((3 : Nat) : Int) (by omega) (by omega)
    have e4 := h2 ((4 : Nat) : Int) (by omega) (by omega)
    have e5 := h2 ((5 : Nat) : Int) (by omega) (by omega)
    have e6 := h2 ((6 : Nat) : Int) (by omega) (by omega)
    have e7 := h2 ((7 : Nat) : Int) (by omega) (by omega)
    rw [jxE.w (by decide)] at e0 e1 e2 e3 e4 e5 e6 e7
    have f0 : (34 : Int) ≠ m.toInt := e0
    have f1 : (92 : Int) ≠ m.toInt := e1
    have f2 : (47 : Int) ≠ m.toInt := e2
    have f3 : (98 : Int) ≠ m.toInt := e3
    have f4 : (102 : Int) ≠ m.toInt := e4
    have f5 : (110 : Int) ≠ m.toInt := e5
    have f6 : (114 : Int) ≠ m.toInt := e6
    have f7 : (116 : Int) ≠ m.toInt := e7
    clear e0 e1 e2 e3 e4 e5 e6 e7 h2
    refine Or.inl ⟨hw, ?_⟩
    unfold jjEs
    rcases hc with ⟨g, e⟩ | ⟨g, e⟩
    · rw [e] at f0 f1 f2 f3 f4 f5 f6 f7
      rw [if_neg (fun q => by rcases q with q | q | q; exact f0 q.symm; exact f1 q.symm; exact f2 q.symm), if_neg (fun q => f3 q.symm), if_neg (fun q => f4 q.symm), if_neg (fun q => f5 q.symm), if_neg (fun q => f6 q.symm), if_neg (fun q => f7 q.symm)]
    · clear f0 f1 f2 f3 f4 f5 f6 f7
      rw [if_neg (by omega), if_neg (by omega), if_neg (by omega), if_neg (by omega), if_neg (by omega), if_neg (by omega)]
  · clear q3
    have key : ∀ (k : Nat) (z : Int), w = k → jSo (jChT "\"\\/bfnrt") (k : Int) = z → 0 ≤ z → c.toInt = z := fun k z e1 e2 e3 => by rw [e1, e2] at q2; omega
    rcases (by omega : w = 0 ∨ w = 1 ∨ w = 2 ∨ w = 3 ∨ w = 4 ∨ w = 5 ∨ w = 6 ∨ w = 7) with e | e | e | e | e | e | e | e
    · have h5 := key 0 34 e (jxE.w (by decide)) (by omega)
      exact Or.inr (Or.inl ⟨by omega, by omega, jjEs.of (Or.inl h5), by omega, by omega⟩)
    · have h5 := key 1 92 e (jxE.w (by decide)) (by omega)
      exact Or.inr (Or.inl ⟨by omega, by omega, jjEs.of (Or.inr (Or.inl h5)), by omega, by omega⟩)
    · have h5 := key 2 47 e (jxE.w (by decide)) (by omega)
      exact Or.inr (Or.inl ⟨by omega, by omega, jjEs.of (Or.inr (Or.inr h5)), by omega, by omega⟩)
    · have h5 := key 3 98 e (jxE.w (by decide)) (by omega)
      exact Or.inr (Or.inr ⟨by omega, by omega⟩)
    · have h5 := key 4 102 e (jxE.w (by decide)) (by omega)
      exact Or.inr (Or.inr ⟨by omega, by omega⟩)
    · have h5 := key 5 110 e (jxE.w (by decide)) (by omega)
      exact Or.inr (Or.inr ⟨by omega, by omega⟩)
    · have h5 := key 6 114 e (jxE.w (by decide)) (by omega)
      exact Or.inr (Or.inr ⟨by omega, by omega⟩)
    · have h5 := key 7 116 e (jxE.w (by decide)) (by omega)
      exact Or.inr (Or.inr ⟨by omega, by omega⟩)
theorem jIxR.r {f : Nat → Int32} {c : Int32} {a b r : Int} (h : jIxR f c a b r) : r = -1 ∨ (a ≤ r ∧ r < b) := by
  rcases h with ⟨h, _⟩ | ⟨h1, h2, _⟩
  · exact Or.inl h
  · exact Or.inr ⟨h1, h2⟩
theorem jxE.m {c w : Int} (h : jxE c w) (hw : w < 0) : jjEs c = -1 := by
  rcases h with ⟨_, h⟩ | ⟨h, _⟩ | ⟨h, _⟩
  · exact h
  · omega
  · omega
theorem jxE.p {c w : Int} (h : jxE c w) (hw : 0 ≤ w) : 34 ≤ c ∧ c ≠ 117 ∧ c ≤ 116 ∧ (w < 3 ∨ c = 98 ∨ c = 102 ∨ c = 110 ∨ c = 114 ∨ c = 116) := by unfold jxE at h; omega
theorem jxE.s {c w : Int} (h : jxE c w) (h0 : 0 ≤ w) (h3 : w < 3) : jjEs c = c := by
  rcases h with ⟨h, _⟩ | ⟨_, _, h, _⟩ | ⟨h, _⟩
  · omega
  · exact h
  · omega
end
section
-- p9: JSON as the reference reads it
section
variable {T T1 : Nat → Int → Int} {v v1 k f z : Int} {ms mh mx mf mt mb me mi mn ys yh yx yf yt yb ye yi yn : Nat → Int32}
theorem jjMk.off {T : Nat → Int → Int} {v k f z : Int} {t : Nat} {j : Int} (h : j ≠ v) : jjMk T v k f z t j = T t j := by
  unfold jjMk
  rw [jjS.off (Or.inr h), jjS.off (Or.inr h), jjS.off (Or.inr h), jjS.off (Or.inr h), jjS.off (Or.inr h), jjS.off (Or.inr h), jjS.off (Or.inr h)]
theorem jjTR.mk (h : jjTR T v ms mh mx mf mt mb me mi mn) (o1 : jjPu ms ys v) (o2 : jjPu mh yh v) (o3 : jjPu mx yx v) (o4 : jjPu mf yf v) (o5 : jjPu mt yt v) (o6 : jjPu mb yb v) (o7 : jjPu me ye v) (o8 : jjPu mi yi v) (o9 : jjPu mn yn v)
    (hs : (jSo ys v = 6 ∧ k = 1 ∧ f = jSo yh v) ∨ (jSo ys v = 5 ∧ k = 2 ∧ f = jSo yh v) ∨ (jSo ys v = 4 ∧ k = 3 ∧ f = jSo yb v ∧ z = jSo ye v - jSo yb v) ∨ (jSo ys v = 3 ∧ jSo yi v = 1 ∧ k = 4 ∧ f = jSo yn v) ∨ (jSo ys v = 3 ∧ jSo yi v = 0 ∧ k = 5) ∨ (0 ≤ jSo ys v ∧ jSo ys v ≤ 2 ∧ k = 5)) (hx : jSo yx v = -1) (ev : v1 = v + 1) : jjTR (jjMk T v k f z) v1 ys yh yx yf yt yb ye yi yn := fun j h0 h1 => by
  by_cases e : j = v
  · subst e
    unfold jjNd
    obtain ⟨a1, a2, a3, a4, a5, a6, a8⟩ := jjMk.at (T := T) (v := j) (k := k) (f := f) (z := z)
    rw [a1, a2, a3, a4, a8, hx]
    refine ⟨?_, rfl, fun w => by omega⟩
    rcases hs with ⟨q1, q2, q3⟩ | ⟨q1, q2, q3⟩ | ⟨q1, q2, q3, q4⟩ | ⟨q1, q2, q3, q4⟩ | ⟨q1, q2, q3⟩ | ⟨q1, q2, q3⟩
    · exact Or.inl ⟨q1, q2, q3⟩
    · exact Or.inr (Or.inl ⟨q1, q2, q3⟩)
    · exact Or.inr (Or.inr (Or.inl ⟨q1, q2, q3, q4⟩))
    · exact Or.inr (Or.inr (Or.inr (Or.inl ⟨q1, q2, q3, q4⟩)))
    · exact Or.inr (Or.inr (Or.inr (Or.inr (Or.inl ⟨q1, q2, q3⟩))))
    · exact Or.inr (Or.inr (Or.inr (Or.inr (Or.inr ⟨q1, q2, q3⟩))))
  · have hj := h j h0 (by omega)
    unfold jjNd at hj ⊢
    rw [jjMk.off e, jjMk.off e, jjMk.off e, jjMk.off e, jjMk.off e, jjMk.off e, jjMk.off e, o1 j h0 (by omega), o2 j h0 (by omega), o3 j h0 (by omega), o4 j h0 (by omega), o5 j h0 (by omega), o6 j h0 (by omega), o7 j h0 (by omega), o8 j h0 (by omega), o9 j h0 (by omega)]
    exact hj
theorem jjTR.fr (h : jjTR T v ms mh mx mf mt mb me mi mn) {u : Int} (hf : jjFr T T1 v u) : jjTR T1 v ms mh mx mf mt mb me mi mn := fun j h0 h1 => by
  have e : ∀ t : Nat, t ≠ 7 → T1 t j = T t j := fun t ht => hf t j (fun _ => h1) (fun w => absurd w ht)
  have hj := h j h0 h1
  unfold jjNd at hj ⊢
  rw [e 1 (by decide), e 2 (by decide), e 3 (by decide), e 4 (by decide), e 5 (by decide), e 6 (by decide), e 8 (by decide)]
  exact hj
theorem jjTR.lk {h l c s w a2 : Int} (q : jjTR T v ms mh mx mf mt mb me mi mn) (hc0 : 0 ≤ c) (hcv : c < v) (h0 : 0 ≤ h) (hv : h < v) (hk : T 1 h = 1 ∨ T 1 h = 2) (hlv : l < v) (hlh : l ≠ h ∨ l < 0) (hch : c ≠ h) (e4 : jSo yf c = s) (o4 : jjP1 mf yf v c) (e5 : jSo yt c = s + w) (o5 : jjP1 mt yt v c) (hs : w = 0 ∨ s = a2)
    (hl : (l < 0 ∧ jSo yh h = c ∧ jjP1 mh yh v h ∧ yx = mx) ∨ (0 ≤ l ∧ jSo yx l = c ∧ jjP1 mx yx v l ∧ yh = mh)) : jjTR (jjLk T h l c a2 w) v ms yh yx yf yt mb me mi mn := fun j j0 j1 => by
  have hj := q j j0 j1
  unfold jjNd at hj ⊢
  obtain ⟨r1, r2, r3⟩ := hj
  have t1 : jjLk T h l c a2 w 1 j = T 1 j := jjLk.e1
  have k3 : jjLk T h l c a2 w 8 j = 1 → jjLk T h l c a2 w 6 j = jSo yt j - jSo yf j ∧ (jjLk T h l c a2 w 6 j = 0 ∨ jjLk T h l c a2 w 5 j = jSo yf j) := fun w8 => by
    by_cases e : j = c
    · subst e
      rw [jjLk.e6c, jjLk.e5c, e4, e5]
      exact ⟨by omega, by omega⟩
    · rw [jjLk.e8 e] at w8
      rw [jjLk.e6 e, jjLk.e5 e, o4 j j0 j1 e, o5 j j0 j1 e]
      exact r3 w8
  rcases hl with ⟨l0, q1, q2, q3⟩ | ⟨l0, q1, q2, q3⟩
  · subst q3
    refine ⟨?_, by rw [jjLk.e4 (Or.inr l0)]; exact r2, k3⟩
    rw [t1]
    by_cases e : j = h
    · subst e
      rw [jjLk.e2h l0, q1]
      rcases r1 with ⟨b1, b2, -⟩ | ⟨b1, b2, -⟩ | ⟨-, b2, -⟩ | ⟨-, -, b2, -⟩ | ⟨-, -, b2⟩ | ⟨-, -, b2⟩
      · exact Or.inl ⟨b1, b2, rfl⟩
      · exact Or.inr (Or.inl ⟨b1, b2, rfl⟩)
      all_goals exfalso; rw [b2] at hk; revert hk; decide
    · rw [jjLk.e2 (Or.inl e), jjLk.e3 e, q2 j j0 j1 e]
      exact r1
  · subst q3
    refine ⟨?_, ?_, k3⟩
    · rw [t1, jjLk.e2 (Or.inr l0)]
      by_cases e : j = h
      · subst e
        rcases r1 with ⟨b1, b2, b3⟩ | ⟨b1, b2, b3⟩ | ⟨-, b2, -⟩ | ⟨-, -, b2, -⟩ | ⟨-, -, b2⟩ | ⟨-, -, b2⟩
        · exact Or.inl ⟨b1, b2, b3⟩
        · exact Or.inr (Or.inl ⟨b1, b2, b3⟩)
        all_goals exfalso; rw [b2] at hk; revert hk; decide
      · rw [jjLk.e3 e]; exact r1
    · by_cases e : j = l
      · subst e
        rw [jjLk.e4l l0, q1]
      · rw [jjLk.e4 (Or.inl e), q2 j j0 j1 e]; exact r2
end
end
section
-- p9: JSON as the reference reads it
/-- a value was read by the reference -/
def jjQw (X : Int × Int × Int × Int × (Nat → Int → Int)) (w r a v u : Int) (ms mh mx mf mt mb me mi mn fu : Nat → Int32) : Prop := (w = 1 ∧ X.1 < 0) ∨ (w = 0 ∧ ∃ T : Nat → Int → Int, X = (r, a, v, u, T) ∧ jjTR T v ms mh mx mf mt mb me mi mn ∧ jjA T 7 u fu)
theorem jjQw.no {X : Int × Int × Int × Int × (Nat → Int → Int)} {w r a v u : Int} {ms mh mx mf mt mb me mi mn fu : Nat → Int32} (h : X.1 < 0) (hw : w = 1) : jjQw X w r a v u ms mh mx mf mt mb me mi mn fu := Or.inl ⟨hw, h⟩
theorem jjQw.yes {X : Int × Int × Int × Int × (Nat → Int → Int)} {w r a v u : Int} {T : Nat → Int → Int} {ms mh mx mf mt mb me mi mn fu : Nat → Int32} (h : X = (r, a, v, u, T)) (hw : w = 0) (hR : jjTR T v ms mh mx mf mt mb me mi mn) (hu : jjA T 7 u fu) : jjQw X w r a v u ms mh mx mf mt mb me mi mn fu := Or.inr ⟨hw, T, h, hR, hu⟩
theorem jjQw.y {X : Int × Int × Int × Int × (Nat → Int → Int)} {w r a v u : Int} {ms mh mx mf mt mb me mi mn fu : Nat → Int32} (h : jjQw X w r a v u ms mh mx mf mt mb me mi mn fu) (hw : w = 0) : ∃ T : Nat → Int → Int, X = (r, a, v, u, T) ∧ jjTR T v ms mh mx mf mt mb me mi mn ∧ jjA T 7 u fu := by
  rcases h with ⟨h, _⟩ | ⟨_, h⟩
  · omega
  · exact h
theorem jjQw.n {X : Int × Int × Int × Int × (Nat → Int → Int)} {w r a v u : Int} {ms mh mx mf mt mb me mi mn fu : Nat → Int32} (h : jjQw X w r a v u ms mh mx mf mt mb me mi mn fu) (hw : w = 1) : X.1 < 0 := by
  rcases h with ⟨_, h⟩ | ⟨h, _⟩
  · exact h
  · omega
/-- while the reference reads the values of h: m, whether more come; w, bad -/
def jjWm (b : Int → Int) (e : Int) (V : Int → Int → Int → (Nat → Int → Int) → Int × Int × Int × Int × (Nat → Int → Int)) (o h : Int) (k : Nat) (m w a v u l : Int) (ms mh mx mf mt mb me mi mn fu : Nat → Int32) (X : Int × Int × Int × Int × (Nat → Int → Int)) : Prop :=
  (w = 1 ∧ X.1 < 0) ∨ (w = 0 ∧ m = 1 ∧ ∃ T : Nat → Int → Int, jjTR T v ms mh mx mf mt mb me mi mn ∧ jjA T 7 u fu ∧ (T 1 h = 1 ∨ T 1 h = 2) ∧ jjM b e V o h k (jjSk b e a) v u T l = X) ∨ (w = 0 ∧ m = 0 ∧ ∃ T : Nat → Int → Int, X = (h, a, v, u, T) ∧ jjTR T v ms mh mx mf mt mb me mi mn ∧ jjA T 7 u fu)
theorem jjD.fu {b : Int → Int} {e : Int} : ∀ (k : Nat) (a : Int), e - a ≤ k → jjD b e k a = jjDg b e a := by
  have key : ∀ (k k1 : Nat) (a : Int), e - a ≤ k → e - a ≤ k1 → jjD b e k a = jjD b e k1 a := by
    intro k
    induction k with
    | zero => intro k1 a h h1; rw [jjD_n (Or.inl (by omega)), jjD_n (Or.inl (by omega))]
    | succ k ih =>
      intro k1 a h h1
      by_cases w : a < e ∧ 48 ≤ b a ∧ b a ≤ 57
      · rw [← jjD_y (k := k + 1) w.1 w.2.1 w.2.2 h rfl, ← jjD_y (k := k1) w.1 w.2.1 w.2.2 h1 rfl]
        exact ih (k1 - 1) (a + 1) (by omega) (by omega)
      · rw [jjD_n (by omega), jjD_n (by omega)]
  exact fun k a h => key k _ a h (by omega)
theorem jjD_k {b : Int → Int} {e a c : Int} {k : Nat} (hc : c = jjK b e a) (h : c < 48 ∨ 57 < c) : jjD b e k a = a := by
  by_cases w : a < e
  · exact jjD_n (Or.inr (by rw [← jjK.y (b := b) (e := e) w, ← hc]; omega))
  · exact jjD_n (Or.inl (by omega))
theorem jjV10.app {b : Int → Int} : ∀ (k : Nat) (a v : Int), jjV10 b (k + 1) a v = jjV10 b k a v * 10 + b (a + k) - 48
  | 0, a, v => by show v * 10 + b a - 48 = v * 10 + b (a + ((0 : Nat) : Int)) - 48; rw [show a + ((0 : Nat) : Int) = a by omega]
  | k + 1, a, v => by
    show jjV10 b (k + 1) (a + 1) (v * 10 + b a - 48) = jjV10 b k (a + 1) (v * 10 + b a - 48) * 10 + _ - 48
    rw [jjV10.app k (a + 1), show a + 1 + (k : Int) = a + ((k + 1 : Nat) : Int) by omega]
theorem jjV10.sn {b : Int → Int} {a w wq : Int} (h : a ≤ w) (e : wq = w + 1) : jjV10 b (wq - a).toNat a 0 = jjV10 b (w - a).toNat a 0 * 10 + b w - 48 := by
  rw [show (wq - a).toNat = (w - a).toNat + 1 by omega, jjV10.app, show a + (((w - a).toNat : Nat) : Int) = w by omega]
theorem jb_lm10l {x z : Int64} (e : z = 10 * x) (h0 : -1000000000000 ≤ x.toInt) (h1 : x.toInt ≤ 1000000000000) : z.toInt = x.toInt * 10 := by
  rw [e, Int64.toInt_mul]
  show Int.bmod (10 * x.toInt) 18446744073709551616 = _
  unfold Int.bmod
  dsimp only
  split <;> omega
theorem jjMk.t7 {T : Nat → Int → Int} {v k f z j : Int} : jjMk T v k f z 7 j = T 7 j := by unfold jjMk jjS; simp
theorem jjA.mk7 {T : Nat → Int → Int} {v k f z n : Int} {g : Nat → Int32} (h : jjA T 7 n g) : jjA (jjMk T v k f z) 7 n g := fun j h0 h1 => by rw [jjMk.t7]; exact h j h0 h1
theorem jjA.lk7 {T : Nat → Int → Int} {h l c f z n : Int} {g : Nat → Int32} (q : jjA T 7 n g) : jjA (jjLk T h l c f z) 7 n g := fun j h0 h1 => by rw [jjLk.e7]; exact q j h0 h1
theorem jjW.c {b : Int → Int} {e a : Int} {f : Nat → Int32} {n : Nat} (h : jjW b e f n a = 1) (hn : 0 < n) : a < e ∧ b a = (f 0).toInt := by
  unfold jjW at h
  by_cases w : a + ((0 : Nat) : Int) < e ∧ b (a + ((0 : Nat) : Int)) = (f 0).toInt
  · rw [show a + ((0 : Nat) : Int) = a by omega] at w; exact w
  · rw [jjWf_n (i := 0) (by
      by_cases q : a + ((0 : Nat) : Int) < e
      · exact Or.inr (fun q2 => w ⟨q, q2⟩)
      · exact Or.inl (by omega)) hn] at h
    omega
theorem jjW.t {b : Int → Int} {e a : Int} (h : jjW b e (jChT "true") 4 a = 1) : a < e ∧ b a = 116 := by have h1 := jjW.c h (by omega); rw [show (jChT "true" 0).toInt = 116 by decide +kernel] at h1; exact h1
theorem jjW.f {b : Int → Int} {e a : Int} (h : jjW b e (jChT "false") 5 a = 1) : a < e ∧ b a = 102 := by have h1 := jjW.c h (by omega); rw [show (jChT "false" 0).toInt = 102 by decide +kernel] at h1; exact h1
theorem jjW.u {b : Int → Int} {e a : Int} (h : jjW b e (jChT "null") 4 a = 1) : a < e ∧ b a = 110 := by have h1 := jjW.c h (by omega); rw [show (jChT "null" 0).toInt = 110 by decide +kernel] at h1; exact h1
section
variable {b : Int → Int} {e a v u r a1 v1 c : Int} {T : Nat → Int → Int}
/-- a word: k 0 null, 1 true, 2 false -/
theorem jjL_k (hw : (jjW b e (jChT "null") 4 a = 1 ∧ a1 = a + 4) ∨ (jjW b e (jChT "true") 4 a = 1 ∧ a1 = a + 4) ∨ (jjW b e (jChT "false") 5 a = 1 ∧ a1 = a + 5)) (hr : r = v) (hv : v1 = v + 1) : jjL b e a v u T = (r, a1, v1, u, jjMk T v 5 0 0) := by
  rcases hw with ⟨w, ea⟩ | ⟨w, ea⟩ | ⟨w, ea⟩
  · have h1 := jjW.u w
    have n1 : jjW b e (jChT "true") 4 a ≠ 1 := fun q => by have := jjW.t q; omega
    have n2 : jjW b e (jChT "false") 5 a ≠ 1 := fun q => by have := jjW.f q; omega
    exact jjL_w (c := 110) (by rw [jjK.y h1.1, h1.2]) (by omega) (by omega) (by omega) (Or.inr (Or.inr ⟨n1, n2, w, ea⟩)) hr hv
  · have h1 := jjW.t w
    exact jjL_w (c := 116) (by rw [jjK.y h1.1, h1.2]) (by omega) (by omega) (by omega) (Or.inl ⟨w, ea⟩) hr hv
  · have h1 := jjW.f w
    have n1 : jjW b e (jChT "true") 4 a ≠ 1 := fun q => by have := jjW.t q; omega
    exact jjL_w (c := 102) (by rw [jjK.y h1.1, h1.2]) (by omega) (by omega) (by omega) (Or.inr (Or.inl ⟨n1, w, ea⟩)) hr hv
theorem jjNp.x (hc : c = jjK b e a) (h1 : c ≠ 45) (h2 : c < 48 ∨ 57 < c) : jjNp b e a < 0 := by
  have e1 : jjNb b e a = a := (jjNb.n hc h1 rfl).symm
  have e2 : jjDg b e a = a := jjDg.none hc h2
  unfold jjNp
  rw [e1, e2, if_pos (Or.inl rfl)]; omega
end
section
variable {b : Int → Int} {e a v u r qt qn w c : Int} {n : Nat} {T : Nat → Int → Int} {ms mh mx mf mt mb me mi mn fu : Nat → Int32}
/-- a number, or nothing, by the reference -/
theorem jjQw.num (h : (w = 1 ∧ jjNp b e a < 0) ∨ (w = 0 ∧ qt = jjNp b e a ∧ 0 ≤ jjNp b e a ∧ ((jjNi b e a ∧ jjTR (jjMk T v 4 (jjNv b e a) 0) qn ms mh mx mf mt mb me mi mn) ∨ (¬ jjNi b e a ∧ jjTR (jjMk T v 5 0 0) qn ms mh mx mf mt mb me mi mn)))) (hc : c = jjK b e a) (h1 : c ≠ 123) (h2 : c ≠ 91) (h3 : c ≠ 34) (w1 : jjW b e (jChT "null") 4 a ≠ 1) (w2 : jjW b e (jChT "true") 4 a ≠ 1) (w3 : jjW b e (jChT "false") 5 a ≠ 1) (hr : r = v) (hn : qn = v + 1) (hu : jjA T 7 u fu) : jjQw (jjVal b e n a v u T) w r qt qn u ms mh mx mf mt mb me mi mn fu := by
  rw [jjVal_l (by rw [← hc]; exact h1) (by rw [← hc]; exact h2)]
  by_cases q : c = 45 ∨ (48 ≤ c ∧ c ≤ 57)
  · rcases h with ⟨q1, q2⟩ | ⟨q1, q2, q3, ⟨q4, q5⟩ | ⟨q4, q5⟩⟩
    · exact jjQw.no (jjL_nn (by rw [← hc]; exact q) q2) q1
    · exact jjQw.yes (jjL_ni (by rw [← hc]; exact q) q3 q4 hr q2 hn) q1 q5 hu.mk7
    · exact jjQw.yes (jjL_nx (by rw [← hc]; exact q) q3 q4 hr q2 hn) q1 q5 hu.mk7
  · have hx := jjNp.x hc (by omega) (by omega)
    rcases h with ⟨q1, q2⟩ | ⟨q1, q2, q3, _⟩
    · exact jjQw.no (jjL_0 hc h3 (by omega) (by omega) w2 w3 w1) q1
    · omega
end
theorem jjVal.k1 {b : Int → Int} {e a v u r a1 v1 u1 : Int} {d : Nat} {T T1 : Nat → Int → Int} (h : jjVal b e d a v u T = (r, a1, v1, u1, T1)) (h0 : 0 ≤ v) (hr : 0 ≤ r) : (∀ j : Int, j < v → T1 1 j = T 1 j) ∧ r = v ∧ v < v1 := by
  have ho := jjVal.out (b := b) (e := e) d a v u T h0
  rw [h] at ho
  rcases ho with ho | ⟨o1, o2, o3, o4, o5, o6, o7, o8, o9⟩
  · have ho : r < 0 := ho
    omega
  · exact ⟨fun j hj => o7 1 j (fun _ => hj) (fun w => absurd w (by decide)), o1, o4⟩
theorem jjStr.k1 {b : Int → Int} {e a u a1 u1 : Int} {T T1 : Nat → Int → Int} (h : jjStr b e a u T = (1, a1, u1, T1)) (v : Int) : (∀ j : Int, j < v → T1 1 j = T 1 j) ∧ jjFr T T1 v u := by
  have ho := (jjStr.fr b e a u v T).2.1
  rw [h] at ho
  exact ⟨fun j hj => ho 1 j (fun _ => hj) (fun w => absurd w (by decide)), ho⟩
section
variable {b : Int → Int} {e o h m w a v u l : Int} {V : Int → Int → Int → (Nat → Int → Int) → Int × Int × Int × Int × (Nat → Int → Int)} {k : Nat} {ms mh mx mf mt mb me mi mn fu : Nat → Int32} {X : Int × Int × Int × Int × (Nat → Int → Int)}
theorem jjWm.g (q : jjWm b e V o h k m w a v u l ms mh mx mf mt mb me mi mn fu X) (hw : w = 0) (hm : m = 1) : ∃ T : Nat → Int → Int, jjTR T v ms mh mx mf mt mb me mi mn ∧ jjA T 7 u fu ∧ (T 1 h = 1 ∨ T 1 h = 2) ∧ jjM b e V o h k (jjSk b e a) v u T l = X := by
  rcases q with ⟨q, _⟩ | ⟨_, _, q⟩ | ⟨_, q, _⟩
  · omega
  · exact q
  · omega
theorem jjWm.end {r : Int} (q : jjWm b e V o h k m w a v u l ms mh mx mf mt mb me mi mn fu X) (hm : w = 1 ∨ m = 0) (hr : r = h) : jjQw X w r a v u ms mh mx mf mt mb me mi mn fu := by
  rcases q with ⟨q1, q2⟩ | ⟨q1, q2, q3⟩ | ⟨q1, q2, T, q3, q4, q5⟩
  · exact Or.inl ⟨q1, q2⟩
  · omega
  · exact Or.inr ⟨q1, T, by rw [hr]; exact q3, q4, q5⟩
end
end
