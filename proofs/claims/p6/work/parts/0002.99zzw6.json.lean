section
-- p9: JSON as it is read, over bytes b that end at e; tables T (1 kinds, 2 firsts, 3 sizes, 4 nexts, 5 and 6 keys, 7 units, 8: 1 where it stands in a list or object)
def jjS (T : Nat → Int → Int) (t : Nat) (j x : Int) : Nat → Int → Int := fun a c => if a = t ∧ c = j then x else T a c
theorem jjS.at (T : Nat → Int → Int) (t : Nat) (j x : Int) : jjS T t j x t j = x := if_pos ⟨rfl, rfl⟩
theorem jjS.off {T : Nat → Int → Int} {t a : Nat} {j x c : Int} (h : a ≠ t ∨ c ≠ j) : jjS T t j x a c = T a c := if_neg (fun q => h.elim (fun w => w q.1) (fun w => w q.2))
/-- the table t has what an array holds -/
def jjA (T : Nat → Int → Int) (t : Nat) (n : Int) (f : Nat → Int32) : Prop := ∀ j : Int, 0 ≤ j → j < n → T t j = jSo f j
theorem jjA.put {T : Nat → Int → Int} {t : Nat} {n j x : Int} {f g : Nat → Int32} (h : jjA T t n f) (hv : jSo g j = x) (ho : ∀ i : Int, 0 ≤ i → i < n → i ≠ j → jSo g i = jSo f i) : jjA (jjS T t j x) t n g := fun i h0 h1 => by
  by_cases e : i = j
  · subst e; rw [jjS.at, hv]
  · rw [jjS.off (Or.inr e), h i h0 h1, ho i h0 h1 e]
theorem jjA.cg {T : Nat → Int → Int} {t : Nat} {n : Int} {f g : Nat → Int32} (h : jjA T t n f) (ho : ∀ i : Int, 0 ≤ i → i < n → jSo g i = jSo f i) : jjA T t n g := fun i h0 h1 => by rw [h i h0 h1, ho i h0 h1]
theorem jjA.le {T : Nat → Int → Int} {t : Nat} {n m : Int} {f : Nat → Int32} (h : jjA T t n f) (e : m ≤ n) : jjA T t m f := fun i h0 h1 => h i h0 (by omega)
def jjK (b : Int → Int) (e a : Int) : Int := if a < e then b a else -1
theorem jjK.y {b : Int → Int} {e a : Int} (h : a < e) : jjK b e a = b a := if_pos h
theorem jjK.n {b : Int → Int} {e a : Int} (h : e ≤ a) : jjK b e a = -1 := if_neg (by omega)
/-- blanks -/
def jjB (b : Int → Int) (e : Int) : Nat → Int → Int
  | 0, a => a
  | k + 1, a => if a < e ∧ jBlk (b a) = 1 then jjB b e k (a + 1) else a
theorem jjB_n {b : Int → Int} {e a : Int} {k : Nat} (h : e ≤ a ∨ jBlk (b a) ≠ 1) : jjB b e k a = a := by
  cases k with
  | zero => rfl
  | succ k => exact if_neg (fun q => h.elim (fun w => by omega) (fun w => w q.2))
theorem jjB.ge {b : Int → Int} {e : Int} : ∀ (k : Nat) (a : Int), a ≤ jjB b e k a
  | 0, a => Int.le_refl a
  | k + 1, a => by
    by_cases w : a < e ∧ jBlk (b a) = 1
    · have h := jjB.ge (b := b) (e := e) k (a + 1)
      rw [show jjB b e (k + 1) a = jjB b e k (a + 1) from if_pos w]; omega
    · rw [show jjB b e (k + 1) a = a from if_neg w]; omega
theorem jjB.le {b : Int → Int} {e : Int} : ∀ (k : Nat) (a : Int), a ≤ e → jjB b e k a ≤ e
  | 0, a, h => h
  | k + 1, a, h => by
    by_cases w : a < e ∧ jBlk (b a) = 1
    · rw [show jjB b e (k + 1) a = jjB b e k (a + 1) from if_pos w]; exact jjB.le k (a + 1) (by omega)
    · rw [show jjB b e (k + 1) a = a from if_neg w]; exact h
theorem jjB.end {b : Int → Int} {e : Int} : ∀ (k : Nat) (a : Int), e - a ≤ k → e ≤ jjB b e k a ∨ jBlk (b (jjB b e k a)) ≠ 1
  | 0, a, h => Or.inl (by show e ≤ a; omega)
  | k + 1, a, h => by
    by_cases w : a < e ∧ jBlk (b a) = 1
    · rw [show jjB b e (k + 1) a = jjB b e k (a + 1) from if_pos w]; exact jjB.end k (a + 1) (by omega)
    · rw [show jjB b e (k + 1) a = a from if_neg w]
      by_cases q : a < e
      · exact Or.inr (fun q2 => w ⟨q, q2⟩)
      · exact Or.inl (by omega)
def jjSk (b : Int → Int) (e a : Int) : Int := jjB b e (e - a).toNat a
theorem jjSk.ge (b : Int → Int) (e a : Int) : a ≤ jjSk b e a := jjB.ge _ _
theorem jjSk.le {b : Int → Int} {e a : Int} (h : a ≤ e) : jjSk b e a ≤ e := jjB.le _ _ h
theorem jjSk.out {b : Int → Int} {e a : Int} (h : e ≤ a) : jjSk b e a = a := jjB_n (Or.inl h)
/-- digits; their number -/
def jjD (b : Int → Int) (e : Int) : Nat → Int → Int
  | 0, a => a
  | k + 1, a => if a < e ∧ 48 ≤ b a ∧ b a ≤ 57 then jjD b e k (a + 1) else a
theorem jjD_y {b : Int → Int} {e a a1 : Int} {k : Nat} (h : a < e) (h1 : 48 ≤ b a) (h2 : b a ≤ 57) (hk : e - a ≤ k) (ea : a1 = a + 1) : jjD b e (k - 1) a1 = jjD b e k a := by
  subst ea
  cases k with
  | zero => omega
  | succ k => exact (if_pos ⟨h, h1, h2⟩).symm
theorem jjD_n {b : Int → Int} {e a : Int} {k : Nat} (h : e ≤ a ∨ b a < 48 ∨ 57 < b a) : jjD b e k a = a := by
  cases k with
  | zero => rfl
  | succ k => exact if_neg (fun q => by omega)
theorem jjD.ge {b : Int → Int} {e : Int} : ∀ (k : Nat) (a : Int), a ≤ jjD b e k a
  | 0, a => Int.le_refl a
  | k + 1, a => by
    by_cases w : a < e ∧ 48 ≤ b a ∧ b a ≤ 57
    · have h := jjD.ge (b := b) (e := e) k (a + 1)
      rw [show jjD b e (k + 1) a = jjD b e k (a + 1) from if_pos w]; omega
    · rw [show jjD b e (k + 1) a = a from if_neg w]; omega
theorem jjD.le {b : Int → Int} {e : Int} : ∀ (k : Nat) (a : Int), a ≤ e → jjD b e k a ≤ e
  | 0, a, h => h
  | k + 1, a, h => by
    by_cases w : a < e ∧ 48 ≤ b a ∧ b a ≤ 57
    · rw [show jjD b e (k + 1) a = jjD b e k (a + 1) from if_pos w]; exact jjD.le k (a + 1) (by omega)
    · rw [show jjD b e (k + 1) a = a from if_neg w]; exact h
def jjDg (b : Int → Int) (e a : Int) : Int := jjD b e (e - a).toNat a
theorem jjDg.ge (b : Int → Int) (e a : Int) : a ≤ jjDg b e a := jjD.ge _ _
theorem jjDg.le {b : Int → Int} {e a : Int} (h : a ≤ e) : jjDg b e a ≤ e := jjD.le _ _ h
def jjV10 (b : Int → Int) : Nat → Int → Int → Int
  | 0, _, v => v
  | k + 1, a, v => jjV10 b k (a + 1) (v * 10 + b a - 48)
/-- a number: where its digits begin; behind fraction and exponent; behind all, -1 when there is none; the int -/
def jjNb (b : Int → Int) (e a : Int) : Int := if jjK b e a = 45 then a + 1 else a
def jjNf (b : Int → Int) (e a : Int) : Int := if jjK b e a = 46 then (if jjDg b e (a + 1) = a + 1 then -1 else jjDg b e (a + 1)) else a
def jjNq (b : Int → Int) (e a : Int) : Int := if jjK b e a = 43 ∨ jjK b e a = 45 then a + 1 else a
def jjNx (b : Int → Int) (e a : Int) : Int := if jjK b e a = 101 ∨ jjK b e a = 69 then (if jjDg b e (jjNq b e (a + 1)) = jjNq b e (a + 1) then -1 else jjDg b e (jjNq b e (a + 1))) else a
def jjNp (b : Int → Int) (e a : Int) : Int := if jjDg b e (jjNb b e a) = jjNb b e a ∨ (1 < jjDg b e (jjNb b e a) - jjNb b e a ∧ b (jjNb b e a) = 48) then -1 else if jjNf b e (jjDg b e (jjNb b e a)) < 0 then -1 else jjNx b e (jjNf b e (jjDg b e (jjNb b e a)))
def jjNw (b : Int → Int) (e a : Int) : Int := jjV10 b (jjDg b e (jjNb b e a) - jjNb b e a).toNat (jjNb b e a) 0
def jjNv (b : Int → Int) (e a : Int) : Int := if jjK b e a = 45 then - jjNw b e a else jjNw b e a
def jjNi (b : Int → Int) (e a : Int) : Prop := jjNp b e a = jjDg b e (jjNb b e a) ∧ -2147483648 ≤ jjNv b e a ∧ jjNv b e a ≤ 2147483647
/-- a text stands there -/
def jjWf (b : Int → Int) (e : Int) (f : Nat → Int32) (a : Int) : Nat → Nat → Int
  | 0, _ => 1
  | k + 1, i => if a + i < e ∧ b (a + i) = (f i).toInt then jjWf b e f a k (i + 1) else 0
def jjW (b : Int → Int) (e : Int) (f : Nat → Int32) (n : Nat) (a : Int) : Int := jjWf b e f a n 0
theorem jjWf_n {b : Int → Int} {e a : Int} {f : Nat → Int32} {k i : Nat} (h : e ≤ a + i ∨ b (a + i) ≠ (f i).toInt) (hk : 0 < k) : jjWf b e f a k i = 0 := by
  cases k with
  | zero => omega
  | succ k => exact if_neg (fun q => h.elim (fun w => by omega) (fun w => w q.2))
/-- four hex digits -/
def jjHx (c : Int) : Int := if 48 ≤ c ∧ c ≤ 57 then c - 48 else if 97 ≤ c ∧ c ≤ 102 then c - 87 else if 65 ≤ c ∧ c ≤ 70 then c - 55 else -1
theorem jjHx.r (c : Int) : -1 ≤ jjHx c ∧ jjHx c ≤ 15 := by unfold jjHx; split; omega; split; omega; split <;> omega
def jjF (b : Int → Int) (e : Int) : Nat → Int → Int → Int
  | 0, _, v => v
  | k + 1, a, v => if jjHx (jjK b e a) < 0 then -1 else jjF b e k (a + 1) (16 * v + jjHx (jjK b e a))
theorem jjF.r {b : Int → Int} {e : Int} : ∀ (k : Nat) (a v : Int), 0 ≤ v → v < 65536 → k ≤ 4 → v < 16 ^ (4 - k) → -1 ≤ jjF b e k a v ∧ jjF b e k a v ≤ 65535
  | 0, a, v, h0, h1, _, _ => ⟨by show -1 ≤ v; omega, by show v ≤ 65535; omega⟩
  | k + 1, a, v, h0, h1, h2, h3 => by
    have hr := jjHx.r (jjK b e a)
    by_cases w : jjHx (jjK b e a) < 0
    · rw [show jjF b e (k + 1) a v = -1 from if_pos w]; omega
    · have h4 : (16 : Int) ^ (4 - k) = 16 * 16 ^ (4 - (k + 1)) := by rw [show 4 - k = (4 - (k + 1)) + 1 by omega, Int.pow_succ]; omega
      have h5 : (16 : Int) ^ (4 - k) ≤ 65536 := by
        rcases (by omega : k = 0 ∨ k = 1 ∨ k = 2 ∨ k = 3) with rfl | rfl | rfl | rfl <;> decide
      rw [show jjF b e (k + 1) a v = jjF b e k (a + 1) (16 * v + jjHx (jjK b e a)) from if_neg w]
      exact jjF.r k (a + 1) _ (by omega) (by omega) (by omega) (by omega)
/-- an escape at a: 0 none, 1 one unit, 2 two; how many bytes; the units -/
def jjEs (c : Int) : Int := if c = 34 ∨ c = 92 ∨ c = 47 then c else if c = 98 then 8 else if c = 102 then 12 else if c = 110 then 10 else if c = 114 then 13 else if c = 116 then 9 else -1
def jjEu (b : Int → Int) (e p : Int) : Int × Int × Int × Int :=
  if jjF b e 4 p 0 < 0 ∨ (56320 ≤ jjF b e 4 p 0 ∧ jjF b e 4 p 0 ≤ 57343) then (0, 0, 0, 0)
  else if 55296 ≤ jjF b e 4 p 0 ∧ jjF b e 4 p 0 ≤ 56319 then
    (if jjW b e (jChT "\\u") 2 (p + 4) = 1 ∧ 56320 ≤ jjF b e 4 (p + 6) 0 ∧ jjF b e 4 (p + 6) 0 ≤ 57343 then (2, 12, jjF b e 4 p 0, jjF b e 4 (p + 6) 0) else (0, 0, 0, 0))
  else (1, 6, jjF b e 4 p 0, 0)
def jjE (b : Int → Int) (e a : Int) : Int × Int × Int × Int :=
  if jjK b e (a + 1) = 117 then jjEu b e (a + 2) else if jjEs (jjK b e (a + 1)) < 0 then (0, 0, 0, 0) else (1, 2, jjEs (jjK b e (a + 1)), 0)
/-- what stands at a within a string: 3 its end -/
def jjP (b : Int → Int) (e a : Int) : Int × Int × Int × Int :=
  if e ≤ a then (0, 0, 0, 0) else if jUc b a e = 34 then (3, 1, 0, 0) else if jUc b a e < 32 then (0, 0, 0, 0) else if jUc b a e = 92 then jjE b e a
  else if 65536 ≤ jUc b a e then (2, 4, 55296 + (jUc b a e - 65536) / 1024, 56320 + (jUc b a e - 65536) % 1024) else (1, jUz (jUc b a e), jUc b a e, 0)
/-- the rest of a string: whether it has an end; the place behind it, the units' count, the tables -/
def jjSt (b : Int → Int) (e : Int) : Nat → Int → Int → (Nat → Int → Int) → Int × Int × Int × (Nat → Int → Int)
  | 0, a, u, T => (0, a, u, T)
  | k + 1, a, u, T => if (jjP b e a).1 = 3 then (1, a + 1, u, T) else if (jjP b e a).1 = 1 then jjSt b e k (a + (jjP b e a).2.1) (u + 1) (jjS T 7 u (jjP b e a).2.2.1)
      else if (jjP b e a).1 = 2 then jjSt b e k (a + (jjP b e a).2.1) (u + 2) (jjS (jjS T 7 u (jjP b e a).2.2.1) 7 (u + 1) (jjP b e a).2.2.2) else (0, a, u, T)
theorem jjSt_e {b : Int → Int} {e a u : Int} {T : Nat → Int → Int} {k : Nat} (h : (jjP b e a).1 = 3) (hk : 0 < k) : jjSt b e k a u T = (1, a + 1, u, T) := by
  cases k with
  | zero => omega
  | succ k => exact if_pos h
theorem jjSt_0 {b : Int → Int} {e a u : Int} {T : Nat → Int → Int} {k : Nat} (h : (jjP b e a).1 = 0) : (jjSt b e k a u T).1 = 0 := by
  cases k with
  | zero => rfl
  | succ k => rw [show jjSt b e (k + 1) a u T = (0, a, u, T) by unfold jjSt; rw [if_neg (by omega), if_neg (by omega), if_neg (by omega)]]
def jjStr (b : Int → Int) (e a u : Int) (T : Nat → Int → Int) : Int × Int × Int × (Nat → Int → Int) := if jjK b e a = 34 then jjSt b e ((e - a).toNat + 1) (a + 1) u T else (0, a, u, T)
/-- a node is made -/
def jjMk (T : Nat → Int → Int) (v k f z : Int) : Nat → Int → Int := jjS (jjS (jjS (jjS (jjS (jjS (jjS T 1 v k) 2 v f) 3 v z) 4 v (-1)) 5 v 0) 6 v 0) 8 v 0
/-- a value that holds no others: its number or -1, the place behind it, counts, tables -/
def jjL (b : Int → Int) (e a v u : Int) (T : Nat → Int → Int) : Int × Int × Int × Int × (Nat → Int → Int) :=
  if jjK b e a = 34 then (if (jjStr b e a u T).1 = 1 then (v, (jjStr b e a u T).2.1, v + 1, (jjStr b e a u T).2.2.1, jjMk (jjStr b e a u T).2.2.2 v 3 u ((jjStr b e a u T).2.2.1 - u)) else (-1, a, v, u, T))
  else if jjK b e a = 45 ∨ (48 ≤ jjK b e a ∧ jjK b e a ≤ 57) then
    (if jjNp b e a < 0 then (-1, a, v, u, T) else if jjNp b e a = jjDg b e (jjNb b e a) ∧ -2147483648 ≤ jjNv b e a ∧ jjNv b e a ≤ 2147483647 then (v, jjNp b e a, v + 1, u, jjMk T v 4 (jjNv b e a) 0) else (v, jjNp b e a, v + 1, u, jjMk T v 5 0 0))
  else if jjW b e (jChT "true") 4 a = 1 then (v, a + 4, v + 1, u, jjMk T v 5 0 0)
  else if jjW b e (jChT "false") 5 a = 1 then (v, a + 5, v + 1, u, jjMk T v 5 0 0)
  else if jjW b e (jChT "null") 4 a = 1 then (v, a + 4, v + 1, u, jjMk T v 5 0 0)
  else (-1, a, v, u, T)
/-- a member's name and the sign behind it (o = 1), or nothing -/
def jjKy (b : Int → Int) (e o a u : Int) (T : Nat → Int → Int) : Int × Int × Int × (Nat → Int → Int) :=
  if o = 1 then (if (jjStr b e a u T).1 = 1 ∧ jjK b e (jjSk b e (jjStr b e a u T).2.1) = 58 then (1, jjSk b e (jjSk b e (jjStr b e a u T).2.1 + 1), (jjStr b e a u T).2.2.1, (jjStr b e a u T).2.2.2) else (0, a, u, T)) else (1, a, u, T)
/-- a child c is put behind the last one of h -/
def jjLk (T : Nat → Int → Int) (h l c f z : Int) : Nat → Int → Int := jjS (jjS (if l < 0 then jjS (jjS (jjS T 5 c f) 6 c z) 2 h c else jjS (jjS (jjS T 5 c f) 6 c z) 4 l c) 3 h (T 3 h + 1)) 8 c 1
/-- the values of a list or object; V reads one -/
def jjM (b : Int → Int) (e : Int) (V : Int → Int → Int → (Nat → Int → Int) → Int × Int × Int × Int × (Nat → Int → Int)) (o h : Int) : Nat → Int → Int → Int → (Nat → Int → Int) → Int → Int × Int × Int × Int × (Nat → Int → Int)
  | 0, a, v, u, T, _ => (-1, a, v, u, T)
  | k + 1, a, v, u, T, l =>
    if (jjKy b e o a u T).1 = 1 then
      (if 0 ≤ (V (jjKy b e o a u T).2.1 v (jjKy b e o a u T).2.2.1 (jjKy b e o a u T).2.2.2).1 then
        (if jjK b e (jjSk b e (V (jjKy b e o a u T).2.1 v (jjKy b e o a u T).2.2.1 (jjKy b e o a u T).2.2.2).2.1) = 44 then
          jjM b e V o h k (jjSk b e (jjSk b e (V (jjKy b e o a u T).2.1 v (jjKy b e o a u T).2.2.1 (jjKy b e o a u T).2.2.2).2.1 + 1)) (V (jjKy b e o a u T).2.1 v (jjKy b e o a u T).2.2.1 (jjKy b e o a u T).2.2.2).2.2.1
            (V (jjKy b e o a u T).2.1 v (jjKy b e o a u T).2.2.1 (jjKy b e o a u T).2.2.2).2.2.2.1
            (jjLk (V (jjKy b e o a u T).2.1 v (jjKy b e o a u T).2.2.1 (jjKy b e o a u T).2.2.2).2.2.2.2 h l (V (jjKy b e o a u T).2.1 v (jjKy b e o a u T).2.2.1 (jjKy b e o a u T).2.2.2).1 u ((jjKy b e o a u T).2.2.1 - u))
            (V (jjKy b e o a u T).2.1 v (jjKy b e o a u T).2.2.1 (jjKy b e o a u T).2.2.2).1
         else if jjK b e (jjSk b e (V (jjKy b e o a u T).2.1 v (jjKy b e o a u T).2.2.1 (jjKy b e o a u T).2.2.2).2.1) = (93 + 32 * o) then
          (h, jjSk b e (V (jjKy b e o a u T).2.1 v (jjKy b e o a u T).2.2.1 (jjKy b e o a u T).2.2.2).2.1 + 1, (V (jjKy b e o a u T).2.1 v (jjKy b e o a u T).2.2.1 (jjKy b e o a u T).2.2.2).2.2.1,
            (V (jjKy b e o a u T).2.1 v (jjKy b e o a u T).2.2.1 (jjKy b e o a u T).2.2.2).2.2.2.1,
            jjLk (V (jjKy b e o a u T).2.1 v (jjKy b e o a u T).2.2.1 (jjKy b e o a u T).2.2.2).2.2.2.2 h l (V (jjKy b e o a u T).2.1 v (jjKy b e o a u T).2.2.1 (jjKy b e o a u T).2.2.2).1 u ((jjKy b e o a u T).2.2.1 - u))
         else (-1, a, v, u, T))
       else (-1, a, v, u, T))
    else (-1, a, v, u, T)
section
variable {b : Int → Int} {e o h : Int} {V : Int → Int → Int → (Nat → Int → Int) → Int × Int × Int × Int × (Nat → Int → Int)} {k : Nat} {a v u l a1 u1 r a2 v2 u2 q a3 : Int} {T T1 T2 : Nat → Int → Int}
theorem jjM_more (hp : jjKy b e o a u T = (1, a1, u1, T1)) (hc : V a1 v u1 T1 = (r, a2, v2, u2, T2)) (hr : 0 ≤ r) (hq : q = jjSk b e a2) (h4 : jjK b e q = 44) (ea : a3 = jjSk b e (q + 1)) (hk : 0 < k) : jjM b e V o h (k - 1) a3 v2 u2 (jjLk T2 h l r u (u1 - u)) r = jjM b e V o h k a v u T l := by
  subst hq ea
  cases k with
  | zero => omega
  | succ k =>
    conv => rhs; unfold jjM
    rw [hp]
    dsimp only
    rw [hc]
    dsimp only
    rw [if_pos rfl, if_pos hr, if_pos h4]
    rfl
theorem jjM_end (hp : jjKy b e o a u T = (1, a1, u1, T1)) (hc : V a1 v u1 T1 = (r, a2, v2, u2, T2)) (hr : 0 ≤ r) (hq : q = jjSk b e a2) (h4 : jjK b e q = 93 + 32 * o) (hk : 0 < k) : jjM b e V o h k a v u T l = (h, q + 1, v2, u2, jjLk T2 h l r u (u1 - u)) := by
  subst hq
  cases k with
  | zero => omega
  | succ k =>
    unfold jjM
    rw [hp]
    dsimp only
    rw [hc]
    dsimp only
    rw [if_pos rfl, if_pos hr, if_neg (by omega), if_pos h4]
theorem jjM_0 (hp : (jjKy b e o a u T).1 = 0) : (jjM b e V o h k a v u T l).1 = -1 := by
  cases k with
  | zero => rfl
  | succ k => unfold jjM; rw [if_neg (by rw [hp]; decide)]
theorem jjM_1 (hp : jjKy b e o a u T = (1, a1, u1, T1)) (hc : (V a1 v u1 T1).1 < 0) : (jjM b e V o h k a v u T l).1 = -1 := by
  cases k with
  | zero => rfl
  | succ k => unfold jjM; rw [hp]; dsimp only; rw [if_pos rfl, if_neg (by omega)]
theorem jjM_2 (hp : jjKy b e o a u T = (1, a1, u1, T1)) (hc : V a1 v u1 T1 = (r, a2, v2, u2, T2)) (hq : q = jjSk b e a2) (h4 : jjK b e q ≠ 44) (h5 : jjK b e q ≠ 93 + 32 * o) : (jjM b e V o h k a v u T l).1 = -1 := by
  subst hq
  cases k with
  | zero => rfl
  | succ k =>
    unfold jjM
    rw [hp]
    dsimp only
    rw [hc]
    dsimp only
    rw [if_pos rfl]
    by_cases w : 0 ≤ r
    · rw [if_pos w, if_neg h4, if_neg h5]
    · rw [if_neg w]
end
def jjH (b : Int → Int) (e : Int) (V : Int → Int → Int → (Nat → Int → Int) → Int × Int × Int × Int × (Nat → Int → Int)) (o a v u : Int) (T : Nat → Int → Int) : Int × Int × Int × Int × (Nat → Int → Int) :=
  if jjK b e (jjSk b e (a + 1)) = (93 + 32 * o) then (v, jjSk b e (a + 1) + 1, v + 1, u, jjMk T v (2 - o) (-1) 0)
  else jjM b e V o v ((e - a).toNat + 1) (jjSk b e (a + 1)) (v + 1) u (jjMk T v (2 - o) (-1) 0) (-1)
/-- a value within at most d more lists and objects -/
def jjVal (b : Int → Int) (e : Int) : Nat → Int → Int → Int → (Nat → Int → Int) → Int × Int × Int × Int × (Nat → Int → Int)
  | 0, a, v, u, T => if jjK b e a = 123 ∨ jjK b e a = 91 then (-1, a, v, u, T) else jjL b e a v u T
  | d + 1, a, v, u, T => if jjK b e a = 123 ∨ jjK b e a = 91 then jjH b e (jjVal b e d) (if jjK b e a = 123 then 1 else 0) a v u T else jjL b e a v u T
theorem jjVal_l {b : Int → Int} {e a v u : Int} {T : Nat → Int → Int} {d : Nat} (h : jjK b e a ≠ 123) (h1 : jjK b e a ≠ 91) : jjVal b e d a v u T = jjL b e a v u T := by
  cases d with
  | zero => exact if_neg (fun w => w.elim h h1)
  | succ d => exact if_neg (fun w => w.elim h h1)
theorem jjVal_h {b : Int → Int} {e a v u o : Int} {T : Nat → Int → Int} {d : Nat} (h : (jjK b e a = 123 ∧ o = 1) ∨ (jjK b e a = 91 ∧ o = 0)) (hd : 0 < d) : jjVal b e d a v u T = jjH b e (jjVal b e (d - 1)) o a v u T := by
  cases d with
  | zero => omega
  | succ d =>
    rcases h with ⟨h, ho⟩ | ⟨h, ho⟩
    · show (if jjK b e a = 123 ∨ jjK b e a = 91 then _ else _) = _
      rw [if_pos (Or.inl h), if_pos h, ho]; rfl
    · show (if jjK b e a = 123 ∨ jjK b e a = 91 then _ else _) = _
      rw [if_pos (Or.inr h), if_neg (by rw [h]; decide), ho]; rfl
theorem jjVal_0 {b : Int → Int} {e a v u : Int} {T : Nat → Int → Int} {d : Nat} (h : jjK b e a = 123 ∨ jjK b e a = 91) (hd : d = 0) : (jjVal b e d a v u T).1 = -1 := by
  subst hd
  show (if jjK b e a = 123 ∨ jjK b e a = 91 then _ else _ : Int × Int × Int × Int × (Nat → Int → Int)).1 = -1
  rw [if_pos h]
end
section
-- p9: what a read leaves: places, counts, what stays of the tables
theorem jUr.b {b : Int → Int} {n : Int} : ∀ (k : Nat) (i v y : Int), jUb n y v → y + k = n → 0 ≤ jUr b k i v → jUb n n (jUr b k i v)
  | 0, _, v, y, h, hy, _ => by
    have e : y = n := by omega
    subst e; exact h
  | k + 1, i, v, y, h, hy, h0 => by
    by_cases w : 128 ≤ b i ∧ b i ≤ 191
    · have e : jUr b (k + 1) i v = jUr b k (i + 1) (v * 64 + b i % 64) := if_pos w
      rw [e] at h0 ⊢
      exact jUr.b k (i + 1) _ (y + 1) (h.step (by omega) (y := b i % 64) (by omega) (by omega) rfl rfl) (by omega) h0
    · have e : jUr b (k + 1) i v = -1 := if_neg w
      rw [e] at h0; omega
theorem jUm.x {x : Int} (h : jUm x ≠ 0) : 194 ≤ x ∧ x ≤ 244 := by
  unfold jUm at h
  by_cases a : 194 ≤ x ∧ x ≤ 223
  · omega
  · rw [if_neg a] at h
    by_cases c : 224 ≤ x ∧ x ≤ 239
    · omega
    · rw [if_neg c] at h
      by_cases d : 240 ≤ x ∧ x ≤ 244
      · omega
      · rw [if_neg d] at h; omega
theorem jUz.of {c : Int} (r : Int) (hz : (r = 1 ∧ c < 128) ∨ (r = 2 ∧ 128 ≤ c ∧ c < 2048) ∨ (r = 3 ∧ 2048 ≤ c ∧ c < 65536) ∨ (r = 4 ∧ 65536 ≤ c)) : jUz c = r := by
  unfold jUz
  rcases hz with ⟨e, h⟩ | ⟨e, h, h1⟩ | ⟨e, h, h1⟩ | ⟨e, h⟩
  · rw [if_pos h, e]
  · rw [if_neg (by omega), if_pos h1, e]
  · rw [if_neg (by omega), if_neg (by omega), if_pos h1, e]
  · rw [if_neg (by omega), if_neg (by omega), if_neg (by omega), e]
theorem jUc.sz {b : Int → Int} {a e : Int} (h : 0 ≤ jUc b a e) (ha : a < e) : a + jUz (jUc b a e) ≤ e ∧ 1 ≤ jUz (jUc b a e) ∧ jUc b a e ≤ 1114111 ∧ (65536 ≤ jUc b a e → jUz (jUc b a e) = 4) := by
  unfold jUc at h ⊢
  by_cases w : b a < 128
  · rw [if_pos w] at h ⊢
    rw [jUz.of 1 (by omega)]; omega
  · rw [if_neg w] at h ⊢
    by_cases w2 : jUm (b a) = 0 ∨ e ≤ a + jUm (b a)
    · rw [if_pos w2] at h; omega
    · rw [if_neg w2] at h ⊢
      have hm := jUm.r (b a)
      have hx := jUm.x (x := b a) (by omega)
      unfold jUk at h ⊢
      split at h
      · omega
      · rename_i w3
        rw [if_neg w3]
        have hs := jUb.start (x := b a) (n := jUm (b a) + 1) (k := 1) rfl hx.1 hx.2 rfl (by omega) rfl rfl
        have hb := (jUr.b (b := b) (jUm (b a)).toNat (a + 1) _ 1 hs (by omega) h).end rfl
        generalize jUr b (jUm (b a)).toNat (a + 1) (jU0 (b a) (jUm (b a))) = z at h w3 hb ⊢
        rcases (by omega : jUm (b a) = 1 ∨ jUm (b a) = 2 ∨ jUm (b a) = 3) with q | q | q
        · rw [jUz.of 2 (by omega)]; omega
        · rw [jUz.of 3 (by omega)]; omega
        · rw [jUz.of 4 (by omega)]; omega
theorem jjHx.k {b : Int → Int} {e a : Int} (h : 0 ≤ jjHx (jjK b e a)) : a < e := by
  by_cases w : a < e
  · exact w
  · rw [jjK.n (by omega)] at h; exact absurd h (by decide)
theorem jjF.in {b : Int → Int} {e : Int} : ∀ (k : Nat) (a v : Int), 0 ≤ jjF b e k a v → k = 0 ∨ a + k ≤ e
  | 0, _, _, _ => Or.inl rfl
  | k + 1, a, v, h => by
    by_cases w : jjHx (jjK b e a) < 0
    · rw [show jjF b e (k + 1) a v = -1 from if_pos w] at h; omega
    · rw [show jjF b e (k + 1) a v = jjF b e k (a + 1) (16 * v + jjHx (jjK b e a)) from if_neg w] at h
      have h1 := jjHx.k (b := b) (e := e) (a := a) (by omega)
      rcases jjF.in k (a + 1) _ h with h2 | h2
      · exact Or.inr (by omega)
      · exact Or.inr (by omega)
theorem jjF.r4 (b : Int → Int) (e a : Int) : -1 ≤ jjF b e 4 a 0 ∧ jjF b e 4 a 0 ≤ 65535 := jjF.r 4 a 0 (by omega) (by omega) (by omega) (by decide)
theorem jjEs.r (c : Int) : jjEs c = -1 ∨ (8 ≤ jjEs c ∧ jjEs c ≤ 92 ∧ 34 ≤ c) := by
  unfold jjEs
  split
  · omega
  · split
    · omega
    · split
      · omega
      · split
        · omega
        · split
          · omega
          · split <;> omega
def jjPr (e a : Int) (p : Int × Int × Int × Int) : Prop := p.1 = 0 ∨ (p.1 = 3 ∧ a < e) ∨ (p.1 = 1 ∧ 1 ≤ p.2.1 ∧ a + p.2.1 ≤ e ∧ 0 ≤ p.2.2.1 ∧ p.2.2.1 ≤ 65535 ∧ p.2.2.2 = 0) ∨ (p.1 = 2 ∧ 2 ≤ p.2.1 ∧ a + p.2.1 ≤ e ∧ 0 ≤ p.2.2.1 ∧ p.2.2.1 ≤ 65535 ∧ 0 ≤ p.2.2.2 ∧ p.2.2.2 ≤ 65535)
theorem jjEu.r (b : Int → Int) (e a : Int) : jjPr e a (jjEu b e (a + 2)) := by
  unfold jjEu
  have h1 := jjF.r4 b e (a + 2)
  have h2 := jjF.r4 b e (a + 2 + 6)
  split
  · exact Or.inl rfl
  · rename_i w
    have h3 := jjF.in (b := b) (e := e) 4 (a + 2) 0 (by omega)
    split
    · split
      · rename_i w2 w3
        have h4 := jjF.in (b := b) (e := e) 4 (a + 2 + 6) 0 (by omega)
        exact Or.inr (Or.inr (Or.inr ⟨rfl, by show (2 : Int) ≤ 12; omega, by show a + 12 ≤ e; omega, by show 0 ≤ jjF b e 4 (a + 2) 0; omega, h1.2, by show 0 ≤ jjF b e 4 (a + 2 + 6) 0; omega, h2.2⟩))
      · exact Or.inl rfl
    · exact Or.inr (Or.inr (Or.inl ⟨rfl, by show (1 : Int) ≤ 6; omega, by show a + 6 ≤ e; omega, by show 0 ≤ jjF b e 4 (a + 2) 0; omega, h1.2, rfl⟩))
theorem jjE.r (b : Int → Int) (e a : Int) : jjPr e a (jjE b e a) := by
  unfold jjE
  split
  · exact jjEu.r b e a
  · split
    · exact Or.inl rfl
    · rename_i w
      have h3 := jjEs.r (jjK b e (a + 1))
      have h4 : a + 1 < e := by
        by_cases q : a + 1 < e
        · exact q
        · rw [jjK.n (by omega)] at h3 w; omega
      exact Or.inr (Or.inr (Or.inl ⟨rfl, by show (1 : Int) ≤ 2; omega, by show a + 2 ≤ e; omega, by show 0 ≤ jjEs (jjK b e (a + 1)); omega, by show jjEs (jjK b e (a + 1)) ≤ 65535; omega, rfl⟩))
theorem jjP.r (b : Int → Int) (e a : Int) : jjPr e a (jjP b e a) := by
  unfold jjP
  split
  · exact Or.inl rfl
  · split
    · exact Or.inr (Or.inl ⟨rfl, by omega⟩)
    · split
      · exact Or.inl rfl
      · split
        · exact jjE.r b e a
        · have h := jUc.sz (b := b) (a := a) (e := e) (by omega) (by omega)
          split
          · exact Or.inr (Or.inr (Or.inr ⟨rfl, by show (2 : Int) ≤ 4; omega, by show a + 4 ≤ e; omega, by show 0 ≤ 55296 + (jUc b a e - 65536) / 1024; omega, by show 55296 + (jUc b a e - 65536) / 1024 ≤ 65535; omega, by show 0 ≤ 56320 + (jUc b a e - 65536) % 1024; omega, by show 56320 + (jUc b a e - 65536) % 1024 ≤ 65535; omega⟩))
          · exact Or.inr (Or.inr (Or.inl ⟨rfl, h.2.1, h.1, by show 0 ≤ jUc b a e; omega, by show jUc b a e ≤ 65535; omega, rfl⟩))
/-- tables but the units' stay, and the units below u -/
def jjFr (T T1 : Nat → Int → Int) (v u : Int) : Prop := ∀ (t : Nat) (j : Int), (t ≠ 7 → j < v) → (t = 7 → j < u) → T1 t j = T t j
theorem jjFr.rf (T : Nat → Int → Int) (v u : Int) : jjFr T T v u := fun _ _ _ _ => rfl
theorem jjFr.tr {T T1 T2 : Nat → Int → Int} {v u v1 u1 : Int} (h : jjFr T T1 v u) (h1 : jjFr T1 T2 v1 u1) (hv : v ≤ v1) (hu : u ≤ u1) : jjFr T T2 v u := fun t j q0 q1 => (h1 t j (fun w => by have := q0 w; omega) (fun w => by have := q1 w; omega)).trans (h t j q0 q1)
theorem jjFr.tr' {T T1 T2 : Nat → Int → Int} {v u x : Int} (h : jjFr T T1 v u) (hx : x < v) (h1 : jjFr T1 T2 x u) : jjFr T T2 x u := fun t j q0 q1 => (h1 t j q0 q1).trans (h t j (fun w => by have := q0 w; omega) q1)
theorem jjFr.put {T : Nat → Int → Int} {t : Nat} {v u j x : Int} (h : t ≠ 7 → v ≤ j) (h1 : t = 7 → u ≤ j) : jjFr T (jjS T t j x) v u := fun a c q0 q1 => by
  refine jjS.off ?_
  by_cases w : a = t
  · subst w
    by_cases w2 : a = 7
    · have := q1 w2; have := h1 w2; exact Or.inr (by omega)
    · have := q0 w2; have := h w2; exact Or.inr (by omega)
  · exact Or.inl w
theorem jjSt.fr {b : Int → Int} {e : Int} : ∀ (k : Nat) (a u v : Int) (T : Nat → Int → Int), u ≤ (jjSt b e k a u T).2.2.1 ∧ jjFr T (jjSt b e k a u T).2.2.2 v u ∧ ((jjSt b e k a u T).1 = 0 ∨ ((jjSt b e k a u T).1 = 1 ∧ (jjSt b e k a u T).2.2.1 - u + 1 ≤ (jjSt b e k a u T).2.1 - a ∧ (jjSt b e k a u T).2.1 ≤ e))
  | 0, a, u, v, T => ⟨Int.le_refl u, jjFr.rf T v u, Or.inl rfl⟩
  | k + 1, a, u, v, T => by
    have hr := jjP.r b e a
    rcases hr with hr | hr | hr | hr
    · rw [show jjSt b e (k + 1) a u T = (0, a, u, T) by unfold jjSt; rw [if_neg (by omega), if_neg (by omega), if_neg (by omega)]]
      exact ⟨Int.le_refl u, jjFr.rf T v u, Or.inl rfl⟩
    · rw [jjSt_e hr.1 (by omega)]
      exact ⟨Int.le_refl u, jjFr.rf T v u, Or.inr ⟨rfl, by show u - u + 1 ≤ a + 1 - a; omega, by show a + 1 ≤ e; omega⟩⟩
    · rw [show jjSt b e (k + 1) a u T = jjSt b e k (a + (jjP b e a).2.1) (u + 1) (jjS T 7 u (jjP b e a).2.2.1) by conv => lhs; unfold jjSt; rw [if_neg (by omega), if_pos hr.1]]
      have ih := jjSt.fr (b := b) (e := e) k (a + (jjP b e a).2.1) (u + 1) v (jjS T 7 u (jjP b e a).2.2.1)
      exact ⟨by omega, (jjFr.put (fun h => absurd rfl h) (fun _ => Int.le_refl u)).tr ih.2.1 (Int.le_refl v) (by omega), by omega⟩
    · rw [show jjSt b e (k + 1) a u T = jjSt b e k (a + (jjP b e a).2.1) (u + 2) (jjS (jjS T 7 u (jjP b e a).2.2.1) 7 (u + 1) (jjP b e a).2.2.2) by conv => lhs; unfold jjSt; rw [if_neg (by omega), if_neg (by omega), if_pos hr.1]]
      have ih := jjSt.fr (b := b) (e := e) k (a + (jjP b e a).2.1) (u + 2) v (jjS (jjS T 7 u (jjP b e a).2.2.1) 7 (u + 1) (jjP b e a).2.2.2)
      exact ⟨by omega, ((jjFr.put (fun h => absurd rfl h) (fun _ => Int.le_refl u)).tr (jjFr.put (fun h => absurd rfl h) (fun _ => Int.le_refl (u + 1))) (Int.le_refl v) (by omega)).tr ih.2.1 (Int.le_refl v) (by omega), by omega⟩
theorem jjStr.fr (b : Int → Int) (e a u v : Int) (T : Nat → Int → Int) : u ≤ (jjStr b e a u T).2.2.1 ∧ jjFr T (jjStr b e a u T).2.2.2 v u ∧ ((jjStr b e a u T).1 = 0 ∨ ((jjStr b e a u T).1 = 1 ∧ (jjStr b e a u T).2.2.1 - u + 2 ≤ (jjStr b e a u T).2.1 - a ∧ (jjStr b e a u T).2.1 ≤ e)) := by
  unfold jjStr
  split
  · have h := jjSt.fr (b := b) (e := e) ((e - a).toNat + 1) (a + 1) u v T
    exact ⟨h.1, h.2.1, by omega⟩
  · exact ⟨Int.le_refl u, jjFr.rf T v u, Or.inl rfl⟩
end
section
-- p9: a value that was read: its number, the places, and the chains of its lists and objects
/-- n values in a row, from c on, each behind x and ahead of hi -/
def jjCh (T : Nat → Int → Int) (hi x : Int) : Nat → Int → Prop
  | 0, c => c = -1
  | n + 1, c => x < c ∧ c < hi ∧ T 8 c = 1 ∧ jjCh T hi x n (T 4 c)
theorem jjCh.fr {T T1 : Nat → Int → Int} {hi x : Int} (h4 : ∀ c : Int, x < c → c < hi → T1 4 c = T 4 c ∧ T1 8 c = T 8 c) : ∀ (n : Nat) (c : Int), jjCh T hi x n c → jjCh T1 hi x n c
  | 0, _, h => h
  | n + 1, c, h => by
    have q := h4 c h.1 h.2.1
    exact ⟨h.1, h.2.1, q.2.trans h.2.2.1, by rw [q.1]; exact jjCh.fr h4 n _ h.2.2.2⟩
theorem jjCh.mono {T : Nat → Int → Int} {hi hi1 x : Int} (e : hi ≤ hi1) : ∀ (n : Nat) (c : Int), jjCh T hi x n c → jjCh T hi1 x n c
  | 0, _, h => h
  | n + 1, c, h => ⟨h.1, by have := h.2.1; omega, h.2.2.1, jjCh.mono e n _ h.2.2.2⟩
/-- the lists and objects from lo up to hi are whole -/
def jjCo (T : Nat → Int → Int) (lo hi : Int) : Prop := ∀ x : Int, lo ≤ x → x < hi → (T 1 x = 1 ∨ T 1 x = 2) → ∃ n : Nat, T 3 x = n ∧ jjCh T hi x n (T 2 x)
theorem jjCo.none {T : Nat → Int → Int} {lo hi : Int} (h : hi ≤ lo) : jjCo T lo hi := fun x q0 q1 => by omega
theorem jjCo.fr {T T1 : Nat → Int → Int} {lo hi : Int} (h : jjCo T lo hi) (h1 : ∀ x : Int, lo ≤ x → x < hi → T1 1 x = T 1 x ∧ T1 2 x = T 2 x ∧ T1 3 x = T 3 x) (h4 : ∀ c : Int, lo < c → c < hi → T1 4 c = T 4 c ∧ T1 8 c = T 8 c) : jjCo T1 lo hi := fun x q0 q1 q2 => by
  obtain ⟨a1, a2, a3⟩ := h1 x q0 q1
  rw [a1] at q2
  obtain ⟨n, e, hc⟩ := h x q0 q1 q2
  exact ⟨n, by rw [a3]; exact e, by rw [a2]; exact hc.fr (fun c w0 w1 => h4 c (by omega) w1)⟩
theorem jjCo.mono {T : Nat → Int → Int} {lo hi hi1 : Int} (h : jjCo T lo hi) (e : hi ≤ hi1) : ∀ x : Int, lo ≤ x → x < hi → (T 1 x = 1 ∨ T 1 x = 2) → ∃ n : Nat, T 3 x = n ∧ jjCh T hi1 x n (T 2 x) := fun x q0 q1 q2 => by
  obtain ⟨n, e1, hc⟩ := h x q0 q1 q2
  exact ⟨n, e1, hc.mono e⟩
theorem jjCo.app {T : Nat → Int → Int} {lo m hi : Int} (h : jjCo T lo m) (h1 : jjCo T m hi) (e : m ≤ hi) : jjCo T lo hi := fun x q0 q1 q2 => by
  by_cases w : x < m
  · exact h.mono e x q0 w q2
  · exact h1 x (by omega) q1 q2
/-- n and one more values in a row, from c to l -/
def jjPa (T : Nat → Int → Int) (x : Int) : Nat → Int → Int → Prop
  | 0, c, l => c = l ∧ x < c ∧ T 8 c = 1
  | n + 1, c, l => x < c ∧ T 8 c = 1 ∧ c < T 4 c ∧ jjPa T x n (T 4 c) l
theorem jjPa.le {T : Nat → Int → Int} {x : Int} : ∀ (n : Nat) (c l : Int), jjPa T x n c l → x < c ∧ c ≤ l
  | 0, c, l, h => ⟨h.2.1, by rw [h.1]; omega⟩
  | n + 1, c, l, h => by
    have q := jjPa.le n _ l h.2.2.2
    exact ⟨h.1, by have := h.2.2.1; omega⟩
theorem jjPa.fr {T T1 : Nat → Int → Int} {x l : Int} (h4 : ∀ c : Int, x < c → c < l → T1 4 c = T 4 c) (h8 : ∀ c : Int, x < c → c ≤ l → T1 8 c = T 8 c) : ∀ (n : Nat) (c : Int), jjPa T x n c l → jjPa T1 x n c l
  | 0, c, h => ⟨h.1, h.2.1, (h8 c h.2.1 (by rw [h.1]; omega)).trans h.2.2⟩
  | n + 1, c, h => by
    have q := jjPa.le n _ l h.2.2.2
    have q3 := h.2.2.1
    have e4 := h4 c h.1 (by omega)
    exact ⟨h.1, (h8 c h.1 (by omega)).trans h.2.1, by rw [e4]; exact q3, by rw [e4]; exact jjPa.fr h4 h8 n _ h.2.2.2⟩
theorem jjPa.ext {T : Nat → Int → Int} {x l d : Int} (hd : T 4 l = d) (hl : l < d) (h8 : T 8 d = 1) : ∀ (n : Nat) (c : Int), jjPa T x n c l → jjPa T x (n + 1) c d
  | 0, c, h => by
    obtain ⟨rfl, h1, h2⟩ := h
    exact ⟨h1, h2, by rw [hd]; exact hl, hd, by rw [hd]; omega, by rw [hd]; exact h8⟩
  | n + 1, c, h => ⟨h.1, h.2.1, h.2.2.1, jjPa.ext hd hl h8 n _ h.2.2.2⟩
theorem jjPa.ch {T : Nat → Int → Int} {x l hi : Int} (hl : l < hi) (h4 : T 4 l = -1) : ∀ (n : Nat) (c : Int), jjPa T x n c l → jjCh T hi x (n + 1) c
  | 0, c, h => by
    obtain ⟨rfl, h1, h2⟩ := h
    exact ⟨h1, hl, h2, h4⟩
  | n + 1, c, h => by
    have q := jjPa.le n _ l h.2.2.2
    have q3 := h.2.2.1
    exact ⟨h.1, by omega, h.2.1, jjPa.ch hl h4 n _ h.2.2.2⟩
/-- what a value leaves -/
def jjOut (e a v u : Int) (T : Nat → Int → Int) (R : Int × Int × Int × Int × (Nat → Int → Int)) : Prop := R.1 < 0 ∨ (R.1 = v ∧ a < R.2.1 ∧ R.2.1 ≤ e ∧ v < R.2.2.1 ∧ u ≤ R.2.2.2.1 ∧ R.2.2.2.1 - u ≤ R.2.1 - a ∧ jjFr T R.2.2.2.2 v u ∧ jjCo R.2.2.2.2 v R.2.2.1 ∧ R.2.2.2.2 4 v = -1)
theorem jjMk.at {T : Nat → Int → Int} {v k f z : Int} : jjMk T v k f z 1 v = k ∧ jjMk T v k f z 2 v = f ∧ jjMk T v k f z 3 v = z ∧ jjMk T v k f z 4 v = -1 ∧ jjMk T v k f z 5 v = 0 ∧ jjMk T v k f z 6 v = 0 ∧ jjMk T v k f z 8 v = 0 := by
  unfold jjMk jjS
  simp
theorem jjMk.fr (T : Nat → Int → Int) (v u k f z : Int) : jjFr T (jjMk T v k f z) v u := by
  unfold jjMk
  have hs : ∀ (T : Nat → Int → Int) (t : Nat) (x : Int), t ≠ 7 → jjFr T (jjS T t v x) v u := fun T t x ht => jjFr.put (fun _ => Int.le_refl v) (fun h => absurd h ht)
  have tr : ∀ {T T1 T2 : Nat → Int → Int}, jjFr T T1 v u → jjFr T1 T2 v u → jjFr T T2 v u := fun h h1 => h.tr h1 (Int.le_refl v) (Int.le_refl u)
  exact tr (tr (tr (tr (tr (tr (hs _ 1 _ (by decide)) (hs _ 2 _ (by decide))) (hs _ 3 _ (by decide))) (hs _ 4 _ (by decide))) (hs _ 5 _ (by decide))) (hs _ 6 _ (by decide))) (hs _ 8 _ (by decide))
theorem jjMk.leaf {T : Nat → Int → Int} {v k f z : Int} (h1 : k ≠ 1) (h2 : k ≠ 2) : jjCo (jjMk T v k f z) v (v + 1) := fun x q0 q1 q2 => by
  have e : x = v := by omega
  subst e
  rw [jjMk.at.1] at q2
  exact absurd q2 (fun w => w.elim h1 h2)
theorem jjNf.ge {b : Int → Int} {e a : Int} (h : 0 ≤ jjNf b e a) (ha : a ≤ e) : a ≤ jjNf b e a ∧ jjNf b e a ≤ e := by
  unfold jjNf at h ⊢
  split
  · rename_i w
    rw [if_pos w] at h
    have hl : a < e := by
      by_cases q : a < e
      · exact q
      · rw [jjK.n (by omega)] at w; omega
    split
    · rename_i w2; rw [if_pos w2] at h; omega
    · have h1 := jjDg.ge b e (a + 1)
      exact ⟨by omega, jjDg.le (by omega)⟩
  · exact ⟨Int.le_refl a, ha⟩
theorem jjNx.ge {b : Int → Int} {e a : Int} (h : 0 ≤ jjNx b e a) (ha : a ≤ e) : a ≤ jjNx b e a ∧ jjNx b e a ≤ e := by
  unfold jjNx at h ⊢
  split
  · rename_i w
    rw [if_pos w] at h
    have hl : a < e := by
      by_cases q : a < e
      · exact q
      · rw [jjK.n (by omega)] at w; omega
    have hq : a + 1 ≤ jjNq b e (a + 1) ∧ jjNq b e (a + 1) ≤ e := by
      unfold jjNq
      split
      · rename_i w3
        have : a + 1 < e := by
          by_cases q : a + 1 < e
          · exact q
          · rw [jjK.n (by omega)] at w3; omega
        omega
      · omega
    split
    · rename_i w2; rw [if_pos w2] at h; omega
    · have h1 := jjDg.ge b e (jjNq b e (a + 1))
      exact ⟨by omega, jjDg.le hq.2⟩
  · exact ⟨Int.le_refl a, ha⟩
theorem jjNp.ge {b : Int → Int} {e a : Int} (h : 0 ≤ jjNp b e a) (ha : a < e) : a < jjNp b e a ∧ jjNp b e a ≤ e := by
  have hb : a ≤ jjNb b e a ∧ jjNb b e a ≤ e := by unfold jjNb; split <;> omega
  have hg := jjDg.ge b e (jjNb b e a)
  have hl := jjDg.le (b := b) hb.2
  unfold jjNp at h ⊢
  split
  · rename_i w; rw [if_pos w] at h; omega
  · rename_i w
    rw [if_neg w] at h
    split
    · rename_i w2; rw [if_pos w2] at h; omega
    · rename_i w2
      rw [if_neg w2] at h
      have h1 := jjNf.ge (b := b) (by omega) hl
      have h2 := jjNx.ge h h1.2
      omega
theorem jjWf.in {b : Int → Int} {e a : Int} {f : Nat → Int32} : ∀ (k i : Nat), jjWf b e f a k i = 1 → k = 0 ∨ a + i + k ≤ e
  | 0, _, _ => Or.inl rfl
  | k + 1, i, h => by
    by_cases w : a + i < e ∧ b (a + i) = (f i).toInt
    · rw [show jjWf b e f a (k + 1) i = jjWf b e f a k (i + 1) from if_pos w] at h
      rcases jjWf.in k (i + 1) h with q | q
      · exact Or.inr (by omega)
      · exact Or.inr (by omega)
    · rw [show jjWf b e f a (k + 1) i = 0 from if_neg w] at h; omega
theorem jjL.out (b : Int → Int) (e a v u : Int) (T : Nat → Int → Int) : jjOut e a v u T (jjL b e a v u T) := by
  have hk : ∀ {x : Int}, jjK b e a = x → x ≠ -1 → a < e := fun {x} h h1 => by
    by_cases q : a < e
    · exact q
    · rw [jjK.n (by omega)] at h; omega
  have lf : ∀ {p k f z : Int}, a < p → p ≤ e → k ≠ 1 → k ≠ 2 → jjOut e a v u T (v, p, v + 1, u, jjMk T v k f z) := fun {p k f z} h h1 h2 h3 => Or.inr ⟨rfl, h, h1, by show v < v + 1; omega, Int.le_refl u, by show u - u ≤ p - a; omega, jjMk.fr T v u k f z, jjMk.leaf h2 h3, jjMk.at.2.2.2.1⟩
  unfold jjL
  split
  · split
    · have h := jjStr.fr b e a u v T
      exact Or.inr ⟨rfl, by show a < (jjStr b e a u T).2.1; omega, by show (jjStr b e a u T).2.1 ≤ e; omega, by show v < v + 1; omega, h.1, by show (jjStr b e a u T).2.2.1 - u ≤ (jjStr b e a u T).2.1 - a; omega, h.2.1.tr (jjMk.fr _ v _ _ _ _) (Int.le_refl v) h.1, jjMk.leaf (by decide) (by decide), jjMk.at.2.2.2.1⟩
    · exact Or.inl (by show (-1 : Int) < 0; omega)
  · split
    · rename_i w
      have ha : a < e := by
        by_cases q : a < e
        · exact q
        · rw [jjK.n (by omega)] at w; omega
      split
      · exact Or.inl (by show (-1 : Int) < 0; omega)
      · have h := jjNp.ge (b := b) (e := e) (a := a) (by omega) ha
        split
        · exact lf h.1 h.2 (by decide) (by decide)
        · exact lf h.1 h.2 (by decide) (by decide)
    · split
      · rename_i w
        have h := jjWf.in (b := b) (e := e) (a := a) 4 0 w
        exact lf (by omega) (by omega) (by decide) (by decide)
      · split
        · rename_i w
          have h := jjWf.in (b := b) (e := e) (a := a) 5 0 w
          exact lf (by omega) (by omega) (by decide) (by decide)
        · split
          · rename_i w
            have h := jjWf.in (b := b) (e := e) (a := a) 4 0 w
            exact lf (by omega) (by omega) (by decide) (by decide)
          · exact Or.inl (by show (-1 : Int) < 0; omega)
end
section
-- p9: lists and objects, values: what they leave
theorem jjKy.fr (b : Int → Int) (e o a u v : Int) (T : Nat → Int → Int) : (jjKy b e o a u T).1 = 0 ∨ ((jjKy b e o a u T).1 = 1 ∧ a ≤ (jjKy b e o a u T).2.1 ∧ u ≤ (jjKy b e o a u T).2.2.1 ∧ (jjKy b e o a u T).2.2.1 - u ≤ (jjKy b e o a u T).2.1 - a ∧ jjFr T (jjKy b e o a u T).2.2.2 v u) := by
  unfold jjKy
  split
  · split
    · have h := jjStr.fr b e a u v T
      have h1 := jjSk.ge b e (jjStr b e a u T).2.1
      have h2 := jjSk.ge b e (jjSk b e (jjStr b e a u T).2.1 + 1)
      exact Or.inr ⟨rfl, by show a ≤ jjSk b e (jjSk b e (jjStr b e a u T).2.1 + 1); omega, h.1, by show (jjStr b e a u T).2.2.1 - u ≤ jjSk b e (jjSk b e (jjStr b e a u T).2.1 + 1) - a; omega, h.2.1⟩
    · exact Or.inl rfl
  · exact Or.inr ⟨rfl, Int.le_refl a, Int.le_refl u, by show u - u ≤ a - a; omega, jjFr.rf T v u⟩
section
variable {T : Nat → Int → Int} {h l c f z j : Int}
theorem jjLk.e1 : jjLk T h l c f z 1 j = T 1 j := by by_cases hl : l < 0 <;> simp [jjLk, jjS, hl]
theorem jjLk.e7 : jjLk T h l c f z 7 j = T 7 j := by by_cases hl : l < 0 <;> simp [jjLk, jjS, hl]
theorem jjLk.e2 (q : j ≠ h ∨ 0 ≤ l) : jjLk T h l c f z 2 j = T 2 j := by
  by_cases hl : l < 0
  · have k : j ≠ h := by rcases q with q | q; exact q; omega
    simp [jjLk, jjS, hl, k]
  · simp [jjLk, jjS, hl]
theorem jjLk.e2h (q : l < 0) : jjLk T h l c f z 2 h = c := by simp [jjLk, jjS, q]
theorem jjLk.e3 (q : j ≠ h) : jjLk T h l c f z 3 j = T 3 j := by by_cases hl : l < 0 <;> simp [jjLk, jjS, hl, q]
theorem jjLk.e3h : jjLk T h l c f z 3 h = T 3 h + 1 := by by_cases hl : l < 0 <;> simp [jjLk, jjS, hl]
theorem jjLk.e4 (q : j ≠ l ∨ l < 0) : jjLk T h l c f z 4 j = T 4 j := by
  by_cases hl : l < 0
  · simp [jjLk, jjS, hl]
  · have k : j ≠ l := by rcases q with q | q; exact q; omega
    simp [jjLk, jjS, hl, k]
theorem jjLk.e4l (q : 0 ≤ l) : jjLk T h l c f z 4 l = c := by
  have hl : ¬ l < 0 := by omega
  simp [jjLk, jjS, hl]
theorem jjLk.e5 (q : j ≠ c) : jjLk T h l c f z 5 j = T 5 j := by by_cases hl : l < 0 <;> simp [jjLk, jjS, hl, q]
theorem jjLk.e6 (q : j ≠ c) : jjLk T h l c f z 6 j = T 6 j := by by_cases hl : l < 0 <;> simp [jjLk, jjS, hl, q]
theorem jjLk.e8 (q : j ≠ c) : jjLk T h l c f z 8 j = T 8 j := by by_cases hl : l < 0 <;> simp [jjLk, jjS, hl, q]
theorem jjLk.e8c : jjLk T h l c f z 8 c = 1 := by by_cases hl : l < 0 <;> simp [jjLk, jjS, hl]
theorem jjLk.e9 {t : Nat} (q : 8 < t ∨ t = 0) : jjLk T h l c f z t j = T t j := by
  have h2 : t ≠ 2 := by omega
  have h3 : t ≠ 3 := by omega
  have h4 : t ≠ 4 := by omega
  have h5 : t ≠ 5 := by omega
  have h6 : t ≠ 6 := by omega
  have h8 : t ≠ 8 := by omega
  by_cases hl : l < 0 <;> simp [jjLk, jjS, hl, h2, h3, h4, h5, h6, h8]
end
/-- while the values of h are read: l the last one, v values in all -/
def jjIn (T : Nat → Int → Int) (h l v : Int) : Prop := h < v ∧ 0 ≤ h ∧ (T 1 h = 1 ∨ T 1 h = 2) ∧ ((l < 0 ∧ T 3 h = 0 ∧ T 2 h = -1 ∧ v = h + 1) ∨ (0 ≤ l ∧ l < v ∧ T 4 l = -1 ∧ jjCo T (h + 1) l ∧ jjCo T l v ∧ ∃ n : Nat, T 3 h = n + 1 ∧ jjPa T h n (T 2 h) l))
theorem jjIn.step {T T2 : Nat → Int → Int} {h l v v2 f z : Int} (hi : jjIn T h l v) (hf : ∀ (t : Nat) (j : Int), t ≠ 7 → j < v → T2 t j = T t j) (hv : v < v2) (hco : jjCo T2 v v2) (h4 : T2 4 v = -1) : jjIn (jjLk T2 h l v f z) h v v2 := by
  obtain ⟨q1, q2, q3, q4⟩ := hi
  have k1 : ∀ x : Int, v ≤ x → x < v2 → jjLk T2 h l v f z 1 x = T2 1 x ∧ jjLk T2 h l v f z 2 x = T2 2 x ∧ jjLk T2 h l v f z 3 x = T2 3 x := fun x w0 w1 => ⟨jjLk.e1, jjLk.e2 (Or.inl (by omega)), jjLk.e3 (by omega)⟩
  rcases q4 with ⟨l0, n0, f0, e0⟩ | ⟨l0, lv, l4, c1, c2, n, hn, hp⟩
  · have c3 : jjCo (jjLk T2 h l v f z) v v2 := hco.fr k1 (fun c w0 w1 => ⟨jjLk.e4 (Or.inr l0), jjLk.e8 (by omega)⟩)
    exact ⟨by omega, q2, by rw [jjLk.e1, hf 1 h (by decide) q1]; exact q3, Or.inr ⟨by omega, hv, by rw [jjLk.e4 (Or.inr l0)]; exact h4, jjCo.none (by omega), c3, 0, by rw [jjLk.e3h, hf 3 h (by decide) q1, n0]; rfl, by
      refine ⟨?_, ?_, ?_⟩
      · rw [jjLk.e2h l0]
      · rw [jjLk.e2h l0]; exact q1
      · rw [jjLk.e2h l0]; exact jjLk.e8c⟩⟩
  · have hle := jjPa.le n _ l hp
    have c3 : jjCo (jjLk T2 h l v f z) v v2 := hco.fr k1 (fun c w0 w1 => ⟨jjLk.e4 (Or.inl (by omega)), jjLk.e8 (by omega)⟩)
    have k2 : ∀ x : Int, h + 1 ≤ x → x < v → jjLk T2 h l v f z 1 x = T 1 x ∧ jjLk T2 h l v f z 2 x = T 2 x ∧ jjLk T2 h l v f z 3 x = T 3 x := fun x w0 w1 => ⟨jjLk.e1.trans (hf 1 x (by decide) w1), (jjLk.e2 (Or.inl (by omega))).trans (hf 2 x (by decide) w1), (jjLk.e3 (by omega)).trans (hf 3 x (by decide) w1)⟩
    have k3 : ∀ c : Int, c < v → c ≠ l → jjLk T2 h l v f z 4 c = T 4 c ∧ jjLk T2 h l v f z 8 c = T 8 c := fun c w0 w1 => ⟨(jjLk.e4 (Or.inl w1)).trans (hf 4 c (by decide) w0), (jjLk.e8 (by omega)).trans (hf 8 c (by decide) w0)⟩
    have d1 : jjCo (jjLk T2 h l v f z) (h + 1) l := c1.fr (fun x w0 w1 => k2 x w0 (by omega)) (fun c w0 w1 => k3 c (by omega) (by omega))
    have d2 : jjCo (jjLk T2 h l v f z) l v := c2.fr (fun x w0 w1 => k2 x (by omega) w1) (fun c w0 w1 => k3 c (by omega) (by omega))
    have e2 : jjLk T2 h l v f z 2 h = T 2 h := (jjLk.e2 (Or.inr l0)).trans (hf 2 h (by decide) q1)
    exact ⟨by omega, q2, by rw [jjLk.e1, hf 1 h (by decide) q1]; exact q3, Or.inr ⟨by omega, hv, by rw [jjLk.e4 (Or.inl (by omega))]; exact h4, d1.app d2 (by omega), c3, n + 1, by rw [jjLk.e3h, hf 3 h (by decide) q1, hn]; rfl, by
      rw [e2]
      exact jjPa.ext (jjLk.e4l l0) lv jjLk.e8c n _ (jjPa.fr (fun c w0 w1 => (k3 c (by omega) (by omega)).1) (fun c w0 w1 => (jjLk.e8 (by omega)).trans (hf 8 c (by decide) (by omega))) n _ hp)⟩⟩
theorem jjIn.l {T : Nat → Int → Int} {h l v : Int} (hi : jjIn T h l v) : l < 0 ∨ h < l := by
  obtain ⟨q1, q2, q3, q4⟩ := hi
  rcases q4 with ⟨l0, _⟩ | ⟨l0, lv, l4, c1, c2, n, hn, hp⟩
  · exact Or.inl l0
  · have := jjPa.le n _ l hp; exact Or.inr (by omega)
theorem jjIn.whole {T : Nat → Int → Int} {h l v : Int} (hi : jjIn T h l v) (hl : 0 ≤ l) : jjCo T h v := by
  obtain ⟨q1, q2, q3, q4⟩ := hi
  rcases q4 with ⟨l0, _⟩ | ⟨l0, lv, l4, c1, c2, n, hn, hp⟩
  · omega
  · intro x w0 w1 w2
    by_cases e : x = h
    · subst e
      exact ⟨n + 1, hn, jjPa.ch lv l4 n _ hp⟩
    · exact (c1.app c2 (by omega)) x (by omega) w1 w2
theorem jjLk.fr {T : Nat → Int → Int} {h l c f z u : Int} (hl : l < 0 ∨ h < l) (hc : h < c) : jjFr T (jjLk T h l c f z) h u := fun t j w0 w1 => by
  by_cases e : t = 7
  · subst e; exact jjLk.e7
  · have q := w0 e
    rcases (by omega : t = 1 ∨ t = 2 ∨ t = 3 ∨ t = 4 ∨ t = 5 ∨ t = 6 ∨ t = 8 ∨ (8 < t ∨ t = 0)) with e | e | e | e | e | e | e | e
    · subst e; exact jjLk.e1
    · subst e; exact jjLk.e2 (Or.inl (by omega))
    · subst e; exact jjLk.e3 (by omega)
    · subst e; exact jjLk.e4 (by omega)
    · subst e; exact jjLk.e5 (by omega)
    · subst e; exact jjLk.e6 (by omega)
    · subst e; exact jjLk.e8 (by omega)
    · exact jjLk.e9 e
theorem jjM.out {b : Int → Int} {e o h : Int} {V : Int → Int → Int → (Nat → Int → Int) → Int × Int × Int × Int × (Nat → Int → Int)} (hV : ∀ (a v u : Int) (T : Nat → Int → Int), 0 ≤ v → jjOut e a v u T (V a v u T)) : ∀ (k : Nat) (a v u l : Int) (T : Nat → Int → Int), jjIn T h l v →
    (jjM b e V o h k a v u T l).1 < 0 ∨ ((jjM b e V o h k a v u T l).1 = h ∧ a < (jjM b e V o h k a v u T l).2.1 ∧ (jjM b e V o h k a v u T l).2.1 ≤ e ∧ v < (jjM b e V o h k a v u T l).2.2.1 ∧ u ≤ (jjM b e V o h k a v u T l).2.2.2.1 ∧ (jjM b e V o h k a v u T l).2.2.2.1 - u ≤ (jjM b e V o h k a v u T l).2.1 - a ∧ jjFr T (jjM b e V o h k a v u T l).2.2.2.2 h u ∧ jjCo (jjM b e V o h k a v u T l).2.2.2.2 h (jjM b e V o h k a v u T l).2.2.1 ∧ (jjM b e V o h k a v u T l).2.2.2.2 4 h = T 4 h)
  | 0, a, v, u, l, T, _ => Or.inl (by show (-1 : Int) < 0; omega)
  | k + 1, a, v, u, l, T, hi => by
    have hky := jjKy.fr b e o a u v T
    have h01 := hi.2.1
    have h02 := hi.1
    have h03 := hi.l
    rcases hky with hk0 | ⟨hk1, hk2, hk3, hk4, hk5⟩
    · exact Or.inl (by rw [jjM_0 hk0]; omega)
    · have hp : jjKy b e o a u T = (1, (jjKy b e o a u T).2.1, (jjKy b e o a u T).2.2.1, (jjKy b e o a u T).2.2.2) := by rw [← hk1]
      generalize (jjKy b e o a u T).2.1 = a1 at *
      generalize (jjKy b e o a u T).2.2.1 = u1 at *
      generalize (jjKy b e o a u T).2.2.2 = T1 at *
      have ho := hV a1 v u1 T1 (by omega)
      rcases ho with ho | ⟨o1, o2, o3, o4, o5, o6, o7, o8, o9⟩
      · exact Or.inl (by rw [jjM_1 hp ho]; omega)
      · have hc : V a1 v u1 T1 = (v, (V a1 v u1 T1).2.1, (V a1 v u1 T1).2.2.1, (V a1 v u1 T1).2.2.2.1, (V a1 v u1 T1).2.2.2.2) := Prod.ext o1 rfl
        generalize (V a1 v u1 T1).2.1 = a2 at *
        generalize (V a1 v u1 T1).2.2.1 = v2 at *
        generalize (V a1 v u1 T1).2.2.2.1 = u2 at *
        generalize (V a1 v u1 T1).2.2.2.2 = T2 at *
        have hf : ∀ (t : Nat) (j : Int), t ≠ 7 → j < v → T2 t j = T t j := fun t j w0 w1 => (o7 t j (fun _ => w1) (fun w => absurd w w0)).trans (hk5 t j (fun _ => w1) (fun w => absurd w w0))
        have hi2 := hi.step (f := u) (z := u1 - u) hf o4 o8 o9
        have hfr : jjFr T (jjLk T2 h l v u (u1 - u)) h u := (hk5.tr o7 (Int.le_refl v) hk3).tr' h02 (jjLk.fr h03 h02)
        have hq := jjSk.ge b e a2
        have e4 : jjLk T2 h l v u (u1 - u) 4 h = T 4 h := (jjLk.e4 (by omega)).trans (hf 4 h (by decide) h02)
        by_cases w : jjK b e (jjSk b e a2) = 44
        · have hw := jjSk.ge b e (jjSk b e a2 + 1)
          rw [← jjM_more (h := h) (l := l) (k := k + 1) hp hc (by omega) rfl w rfl (by omega)]
          have ih := jjM.out (b := b) (o := o) hV k (jjSk b e (jjSk b e a2 + 1)) v2 u2 v (jjLk T2 h l v u (u1 - u)) hi2
          rcases ih with ih | ⟨i1, i2, i3, i4, i5, i6, i7, i8, i9⟩
          · exact Or.inl ih
          · exact Or.inr ⟨i1, by show a < (jjM b e V o h k _ _ _ _ _).2.1; omega, i3, by show v < (jjM b e V o h k _ _ _ _ _).2.2.1; omega, by show u ≤ (jjM b e V o h k _ _ _ _ _).2.2.2.1; omega, by show (jjM b e V o h k _ _ _ _ _).2.2.2.1 - u ≤ (jjM b e V o h k _ _ _ _ _).2.1 - a; omega, hfr.tr i7 (Int.le_refl h) (by omega), i8, i9.trans e4⟩
        · by_cases w2 : jjK b e (jjSk b e a2) = 93 + 32 * o
          · have hlt : jjSk b e a2 < e := by
              by_cases q : jjSk b e a2 < e
              · exact q
              · rw [jjK.n (by omega)] at w2; omega
            rw [jjM_end (h := h) (l := l) (k := k + 1) hp hc (by omega) rfl w2 (by omega)]
            exact Or.inr ⟨rfl, by show a < jjSk b e a2 + 1; omega, by show jjSk b e a2 + 1 ≤ e; omega, o4, by show u ≤ u2; omega, by show u2 - u ≤ jjSk b e a2 + 1 - a; omega, hfr, hi2.whole (by omega), e4⟩
          · exact Or.inl (by rw [jjM_2 (h := h) (l := l) (k := k + 1) hp hc rfl w w2]; omega)
theorem jjVal.out {b : Int → Int} {e : Int} : ∀ (d : Nat) (a v u : Int) (T : Nat → Int → Int), 0 ≤ v → jjOut e a v u T (jjVal b e d a v u T)
  | 0, a, v, u, T, h0 => by
    by_cases w : jjK b e a = 123 ∨ jjK b e a = 91
    · exact Or.inl (by rw [jjVal_0 w rfl]; omega)
    · rw [jjVal_l (fun q => w (Or.inl q)) (fun q => w (Or.inr q))]; exact jjL.out b e a v u T
  | d + 1, a, v, u, T, h0 => by
    by_cases w : jjK b e a = 123 ∨ jjK b e a = 91
    · obtain ⟨o, ho⟩ : ∃ o : Int, (jjK b e a = 123 ∧ o = 1) ∨ (jjK b e a = 91 ∧ o = 0) := by
        rcases w with w | w
        · exact ⟨1, Or.inl ⟨w, rfl⟩⟩
        · exact ⟨0, Or.inr ⟨w, rfl⟩⟩
      rw [jjVal_h (d := d + 1) ho (by omega)]
      have hs := jjSk.ge b e (a + 1)
      show jjOut e a v u T (jjH b e (jjVal b e d) o a v u T)
      have hk : (2 - o : Int) = 1 ∨ (2 - o : Int) = 2 := by omega
      unfold jjH
      generalize (2 - o : Int) = kd at hk ⊢
      split
      · rename_i w2
        have hlt : jjSk b e (a + 1) < e := by
          by_cases q : jjSk b e (a + 1) < e
          · exact q
          · rw [jjK.n (by omega)] at w2; omega
        refine Or.inr ⟨rfl, by show a < jjSk b e (a + 1) + 1; omega, by show jjSk b e (a + 1) + 1 ≤ e; omega, by show v < v + 1; omega, Int.le_refl u, by show u - u ≤ jjSk b e (a + 1) + 1 - a; omega, jjMk.fr T v u _ _ _, ?_, jjMk.at.2.2.2.1⟩
        intro x w0 w1 _
        have w1 : x < v + 1 := w1
        have ex : x = v := by omega
        subst ex
        exact ⟨0, (jjMk.at (z := 0)).2.2.1, (jjMk.at (z := 0)).2.1⟩
      · have hi : jjIn (jjMk T v kd (-1) 0) v (-1) (v + 1) := ⟨by omega, h0, by rw [jjMk.at.1]; exact hk, Or.inl ⟨by omega, jjMk.at.2.2.1, jjMk.at.2.1, rfl⟩⟩
        have hm := jjM.out (b := b) (e := e) (o := o) (jjVal.out (b := b) (e := e) d) ((e - a).toNat + 1) (jjSk b e (a + 1)) (v + 1) u (-1) _ hi
        rcases hm with hm | ⟨i1, i2, i3, i4, i5, i6, i7, i8, i9⟩
        · exact Or.inl hm
        · exact Or.inr ⟨i1, by omega, i3, by omega, i5, by omega, (jjMk.fr T v u _ _ _).tr i7 (Int.le_refl v) (Int.le_refl u), i8, i9.trans jjMk.at.2.2.2.1⟩
    · rw [jjVal_l (fun q => w (Or.inl q)) (fun q => w (Or.inr q))]; exact jjL.out b e a v u T
end
section
-- p9: frames: X 0 fine or broken, 1 place, 2 told, 3 kept, 4 signs, 5 the name is like the wanted one, 6 digits, 7 value, 8 filled
def jfC (i : Int) : Int := (jCv (jChT "content-length" i.toNat)).toInt
def jfV (a b c d e f g h i : Int) : Nat → Int := fun k => if k = 0 then a else if k = 1 then b else if k = 2 then c else if k = 3 then d else if k = 4 then e else if k = 5 then f else if k = 6 then g else if k = 7 then h else if k = 8 then i else 0
theorem jfV.inj {a b c d e f g h i a' b' c' d' e' f' g' h' i' : Int} (q : jfV a b c d e f g h i = jfV a' b' c' d' e' f' g' h' i') : a = a' ∧ b = b' ∧ c = c' ∧ d = d' ∧ e = e' ∧ f = f' ∧ g = g' ∧ h = h' ∧ i = i' := ⟨congrFun q 0, congrFun q 1, congrFun q 2, congrFun q 3, congrFun q 4, congrFun q 5, congrFun q 6, congrFun q 7, congrFun q 8⟩
def jfSm (c : Int) : Int := if 65 ≤ c ∧ c ≤ 90 then c + 32 else c
def jfOk (s : Int) : Int := if s = 45 ∨ (97 ≤ s ∧ s ≤ 122) then 1 else 0
def jfLn (il sg s : Int) : Int := if il = 1 ∧ sg < 14 ∧ jfC sg = s then 1 else 0
/-- within a name; 0: whether it may be so -/
def jfIn (X : Nat → Int) (c : Int) : Nat → Int := if c = 58 then jfV 1 (if X 5 = 1 ∧ X 4 = 14 then 3 else 2) (X 2) (X 3) (X 4) (X 5) 0 0 (X 8) else jfV (jfOk (jfSm c)) (X 1) (X 2) (X 3) (X 4 + 1) (jfLn (X 5) (X 4) (jfSm c)) (X 6) (X 7) (X 8)
/-- at a line's beginning, in a value, in the length -/
def jfLb (X : Nat → Int) (c : Int) : Nat → Int := if c = 13 then jfV (if 0 ≤ X 2 then 1 else 0) 5 (X 2) (X 3) (X 4) (X 5) (X 6) (X 7) (X 8) else if c = 58 then jfV 0 1 (X 2) (X 3) 0 1 (X 6) (X 7) (X 8) else jfIn (jfV 1 1 (X 2) (X 3) 0 1 (X 6) (X 7) (X 8)) c
def jfIv (X : Nat → Int) (c : Int) : Nat → Int := if c = 13 then jfV 1 4 (X 2) (X 3) (X 4) (X 5) (X 6) (X 7) (X 8) else jfV (if 32 ≤ c ∧ c ≤ 126 then 1 else 0) (X 1) (X 2) (X 3) (X 4) (X 5) (X 6) (X 7) (X 8)
def jfIl (X : Nat → Int) (c : Int) : Nat → Int := if c = 13 then jfV (if 0 < X 6 then 1 else 0) 4 (X 7) (X 3) (X 4) (X 5) (X 6) (X 7) (X 8) else if c < 48 ∨ 57 < c then jfV (if c = 32 ∧ X 6 = 0 then 1 else 0) (X 1) (X 2) (X 3) (X 4) (X 5) (X 6) (X 7) (X 8) else jfV (if X 6 + 1 ≤ 4 ∧ X 7 * 10 + c - 48 ≤ 3000 then 1 else 0) (X 1) (X 2) (X 3) (X 4) (X 5) (X 6 + 1) (X 7 * 10 + c - 48) (X 8)
def jfHd (X : Nat → Int) (c : Int) : Nat → Int := if X 1 = 0 then jfLb X c else if X 1 = 1 then jfIn X c else if X 1 = 2 then jfIv X c else if X 1 = 3 then jfIl X c else jfV (if c = 10 then 1 else 0) (if X 1 = 4 then 0 else 6) (X 2) (X 3) (X 4) (X 5) (X 6) (X 7) (X 8)
/-- what a byte makes of the state (0: 1 is broken); whether a message is whole; its bytes -/
def jfB : Nat → Int := jfV 1 0 0 0 0 0 0 0 0
def jfW (X : Nat → Int) : (Nat → Int) × Int × Int := if X 1 = 6 ∧ X 2 ≤ X 8 then (jfV 0 0 (-1) 0 (X 4) (X 5) (X 6) (X 7) 0, 1, X 2) else (X, 0, 0)
def jfAc (X : Nat → Int) (c : Int) : (Nat → Int) × Int × Int := if X 1 = 6 then jfW (jfV 0 6 (X 2) (X 3 + 1) (X 4) (X 5) (X 6) (X 7) (X 8 + 1)) else if 200 ≤ X 3 ∨ jfHd X c 0 = 0 then (jfB, 0, 0) else jfW (jfV 0 (jfHd X c 1) (jfHd X c 2) (X 3 + 1) (jfHd X c 4) (jfHd X c 5) (jfHd X c 6) (jfHd X c 7) (X 8))
section
variable {x a b c d e f g h i u r p q ql qg : Int}
theorem jfSm.of {s : Int} (h : (65 ≤ u ∧ u ≤ 90 ∧ s = u + 32) ∨ ((u < 65 ∨ 90 < u) ∧ s = u)) : s = jfSm u := by
  unfold jfSm
  rcases h with ⟨h1, h2, h3⟩ | ⟨h1, h2⟩
  · rw [if_pos ⟨h1, h2⟩, h3]
  · rw [if_neg (by omega), h2]
/-- the state behind a byte, as the class holds it: broken, or all its numbers -/
def jfQ (Y : Nat → Int) (qb a b c d e f g h : Int) : Prop := (qb = 1 ∧ Y = jfB) ∨ (qb = 0 ∧ Y = jfV 0 a b c d e f g h)
/-- a byte has come: r, whether a message is whole, of qn bytes; the state -/
def jfA (X : Nat → Int) (u r qn qb a b c d e f g h : Int) : Prop := ∃ (Y : Nat → Int) (z : Int), jfAc X u = (Y, r, z) ∧ jfQ Y qb a b c d e f g h ∧ (r = 1 → qn = z)
/-- the body's bytes -/
def jfBd (D : Int → Int) (f : Nat → Int32) (n : Int) : Prop := ∀ j : Int, 0 ≤ j → j < n → jB8 f j = D j ∧ -128 ≤ jSo f j ∧ jSo f j ≤ 127
def jfBu (D : Int → Int) (i c : Int) : Int → Int := fun j => if j = i then c else D j
theorem jfBd.put {D : Int → Int} {f k : Nat → Int32} {n m c : Int} (hD : jfBd D f n) (hc : jSo k n % 256 = c % 256) (hr : -128 ≤ jSo k n ∧ jSo k n ≤ 127) (h0 : 0 ≤ c) (h1 : c ≤ 255) (ho : ∀ j : Int, 0 ≤ j → j < n → jSo k j = jSo f j) (hm : m = n + 1) : jfBd (jfBu D n c) k m := fun j q0 q1 => by
  unfold jfBu
  by_cases w : j = n
  · rw [if_pos w, w]; unfold jB8; omega
  · have h2 := hD j q0 (by omega)
    unfold jB8 at h2 ⊢
    rw [if_neg w, ho j q0 (by omega)]; exact h2
end
section JP3
variable {p : Program} {l : Launch} {e : Env} {R : Room} {s : State} {m : MethodId} {args : Array Value} {below : List Frame} {meth : Method} {c : Code} {H : Heap} {locs : List Loc} {cells slots : Nat} {Q : State → Prop}
variable {cc : ByteArray} {pc : Nat} {ls : Array Slot} {rest : List Value} {dC : Nat → ClassId} {dI : Nat → Nat → Nat} {ca : Nat → ClassId} {B : jF} {base : Nat} {G0 G : jT} {E : List (Nat × Nat)} {H0 : Heap} {zc zs : Nat} {L : List jPin} {M : List jCt} {I : List jIv} {a k n : Nat} {cA : ClassId} {tys : List (ClassId × FieldType)}
end JP3
section JP4
variable {p : Program} {l : Launch} {e : Env} {R : Room} {s : State} {m : MethodId} {args : Array Value} {below : List Frame} {meth : Method} {c : Code} {H : Heap} {locs : List Loc} {cells slots : Nat} {Q : State → Prop}
variable {cc : ByteArray} {pc : Nat} {ls : Array Slot} {rest : List Value} {dC : Nat → ClassId} {dI : Nat → Nat → Nat} {ca : Nat → ClassId} {B : jF} {base : Nat} {G0 G : jT} {E : List (Nat × Nat)} {H0 : Heap} {zc zs : Nat} {L : List jPin} {M : List jCt} {I : List jIv} {a k n : Nat} {cA : ClassId} {tys : List (ClassId × FieldType)}
variable {P : Nat → Int32 → Prop}
end JP4
end
section
-- p9: what the class's methods say of JSON
theorem jjK.lt {b : Int → Int} {e a c : Int} (h : c = jjK b e a) (hc : c ≠ -1) : a < e ∧ b a = c := by
  by_cases w : a < e
  · exact ⟨w, by rw [h, jjK.y w]⟩
  · rw [jjK.n (by omega)] at h; omega
/-- a signed byte of the text, or -1 -/
def jjSb (b : Int → Int) (e a w : Int) : Prop := (a < e ∧ -128 ≤ w ∧ w ≤ 127 ∧ w % 256 = b a) ∨ (e ≤ a ∧ w = -1)
theorem jjSb.no {b : Int → Int} {e a w s : Int} (h : jjSb b e a w) (hs : (65 ≤ w ∧ w ≤ 70 ∧ s = w + 32) ∨ ((w < 65 ∨ 70 < w) ∧ s = w)) (h1 : s < 97 ∨ 102 < s) (h2 : w < 48 ∨ 57 < w) : jjHx (jjK b e a) < 0 := by
  rcases h with ⟨h0, h3, h4, h5⟩ | ⟨h0, h3⟩
  · rw [jjK.y h0, ← h5]
    unfold jjHx
    rw [if_neg (by omega), if_neg (by omega), if_neg (by omega)]; omega
  · rw [jjK.n h0]; decide
theorem jjSb.lt {b : Int → Int} {e a w : Int} (h : jjSb b e a w) (hw : w ≠ -1) : a < e := by
  rcases h with ⟨h, _⟩ | ⟨_, h⟩
  · exact h
  · exact absurd h hw
/-- units that were put -/
def jjPu (f g : Nat → Int32) (u : Int) : Prop := ∀ j : Int, 0 ≤ j → j < u → jSo g j = jSo f j
/-- an escape: r, what jjE or jjEu says, the units -/
def jjQe (p : Int × Int × Int × Int) (r n u qu : Int) (f g : Nat → Int32) : Prop := (r = 0 ∧ p.1 = 0) ∨ (r = 1 ∧ ((∃ x : Int, p = (1, n, x, 0) ∧ qu = u + 1 ∧ jSo g u = x ∧ jjPu f g u) ∨ (∃ x y : Int, p = (2, n, x, y) ∧ qu = u + 2 ∧ jSo g u = x ∧ jSo g (u + 1) = y ∧ jjPu f g u)))
theorem jjQe.no {p : Int × Int × Int × Int} {r n u qu : Int} {f g : Nat → Int32} (h : p.1 = 0) (hr : r = 0) : jjQe p r n u qu f g := Or.inl ⟨hr, h⟩
theorem jjEs.of {c : Int} (h : c = 34 ∨ c = 92 ∨ c = 47) : jjEs c = c := if_pos h
/-- within a string: a place, the units' count and what they are; X is what comes of all -/
def jjLs (b : Int → Int) (e : Int) (k : Nat) (a u : Int) (f : Nat → Int32) (X : Int × Int × Int × (Nat → Int → Int)) : Prop := ∃ T : Nat → Int → Int, jjA T 7 u f ∧ jjSt b e k a u T = X
/-- a string was read: r, the place behind it, the units' count, the units -/
def jjQs (X : Int × Int × Int × (Nat → Int → Int)) (r a u : Int) (f : Nat → Int32) : Prop := (r = 0 ∧ X.1 = 0) ∨ (r = 1 ∧ ∃ T : Nat → Int → Int, X = (1, a, u, T) ∧ jjA T 7 u f)
/-- the class's rows, as far as they are written -/
def jjTC (T : Nat → Int → Int) (v u : Int) (fk fi fz fn fa fs fu : Nat → Int32) : Prop := jjA T 1 v fk ∧ jjA T 2 v fi ∧ jjA T 3 v fz ∧ jjA T 4 v fn ∧ jjA T 5 v fa ∧ jjA T 6 v fs ∧ jjA T 7 u fu
section
variable {T T1 : Nat → Int → Int} {v u v1 k f z : Int} {fk fi fz fn fa fs fu gk gi gz gn ga gs gu : Nat → Int32}
end
/-- a value was read within d lists and objects: its number, or -1 where there is none, or none that could be whole -/
def jjQv (X : Int × Int × Int × Int × (Nat → Int → Int)) (e d r a v u : Int) (fk fi fz fn fa fs fu : Nat → Int32) : Prop := (r = -1 ∧ (X.1 < 0 ∨ e < X.2.1 + d)) ∨ (0 ≤ r ∧ ∃ T : Nat → Int → Int, X = (r, a, v, u, T) ∧ jjTC T v u fk fi fz fn fa fs fu)
section
variable {X : Int × Int × Int × Int × (Nat → Int → Int)} {e d r a v u a0 v0 u0 : Int} {T : Nat → Int → Int} {fk fi fz fn fa fs fu : Nat → Int32}
theorem jjQv.no (h : X.1 < 0) (hr : r = -1) : jjQv X e d r a v u fk fi fz fn fa fs fu := Or.inl ⟨hr, Or.inl h⟩
end
/-- k hex digits are read -/
def jjFb (k v : Int) : Prop := 0 ≤ v ∧ ((k = 0 ∧ v = 0) ∨ (k = 1 ∧ v ≤ 15) ∨ (k = 2 ∧ v ≤ 255) ∨ (k = 3 ∧ v ≤ 4095) ∨ (k = 4 ∧ v ≤ 65535))
theorem jjFb.r {k v : Int} (h : jjFb k v) : 0 ≤ v ∧ v ≤ 65535 ∧ (3 < k ∨ v ≤ 4095) := by unfold jjFb at h; omega
/-- the number is read: k digits from a on, to come; v so far (it stays where it is too large) -/
theorem jjV10.ge {b : Int → Int} : ∀ (k : Nat) (a v : Int), 0 ≤ v → (∀ j : Int, a ≤ j → j < a + k → 48 ≤ b j) → v ≤ jjV10 b k a v
  | 0, _, v, _, _ => Int.le_refl v
  | k + 1, a, v, h, h1 => by
    have h2 := h1 a (by omega) (by omega)
    have h3 := jjV10.ge (b := b) k (a + 1) (v * 10 + b a - 48) (by omega) (fun j q0 q1 => h1 j (by omega) (by omega))
    show v ≤ jjV10 b k (a + 1) (v * 10 + b a - 48)
    omega
theorem jjD.dig {b : Int → Int} {e : Int} : ∀ (k : Nat) (a j : Int), a ≤ j → j < jjD b e k a → 48 ≤ b j ∧ b j ≤ 57
  | 0, a, j, h, h1 => by
    have h1 : j < a := h1
    omega
  | k + 1, a, j, h, h1 => by
    by_cases w : a < e ∧ 48 ≤ b a ∧ b a ≤ 57
    · rw [show jjD b e (k + 1) a = jjD b e k (a + 1) from if_pos w] at h1
      by_cases q : j = a
      · subst q; exact w.2
      · exact jjD.dig k (a + 1) j (by omega) h1
    · rw [show jjD b e (k + 1) a = a from if_neg w] at h1; omega
theorem jjDg.dig {b : Int → Int} {e a j : Int} (h : a ≤ j) (h1 : j < jjDg b e a) : 48 ≤ b j ∧ b j ≤ 57 := jjD.dig _ a j h h1
theorem jjStr.no {b : Int → Int} {e a u : Int} {T : Nat → Int → Int} (h : jjK b e a ≠ 34) : (jjStr b e a u T).1 = 0 := by unfold jjStr; rw [if_neg h]
theorem jjQs.y {X : Int × Int × Int × (Nat → Int → Int)} {r a u : Int} {f : Nat → Int32} (h : jjQs X r a u f) (hr : r = 1) : ∃ T : Nat → Int → Int, X = (1, a, u, T) ∧ jjA T 7 u f := by
  rcases h with ⟨h, _⟩ | ⟨_, h⟩
  · omega
  · exact h
theorem jjQs.n {X : Int × Int × Int × (Nat → Int → Int)} {r a u : Int} {f : Nat → Int32} (h : jjQs X r a u f) (hr : r = 0) : X.1 = 0 := by
  rcases h with ⟨_, h⟩ | ⟨h, _⟩
  · exact h
  · omega
section
variable {b : Int → Int} {e a v u r a1 v1 u1 z c : Int} {T T1 : Nat → Int → Int}
end
section
variable {b : Int → Int} {e a v u r qt qv qu d c : Int} {T : Nat → Int → Int} {fk fi fz fn fa fs fu : Nat → Int32} {n : Nat}
end
theorem jjQv.y {X : Int × Int × Int × Int × (Nat → Int → Int)} {e d r a v u : Int} {fk fi fz fn fa fs fu : Nat → Int32} (h : jjQv X e d r a v u fk fi fz fn fa fs fu) (h0 : 0 ≤ r) : ∃ T : Nat → Int → Int, X = (r, a, v, u, T) ∧ jjTC T v u fk fi fz fn fa fs fu := by
  rcases h with ⟨h, _⟩ | ⟨_, h⟩
  · omega
  · exact h
section
variable {b : Int → Int} {e o h : Int} {V : Int → Int → Int → (Nat → Int → Int) → Int × Int × Int × Int × (Nat → Int → Int)}
variable {k : Nat} {a v u l a1 u1 r r1 a2 v2 u2 q a3 d d1 qt qv qu : Int} {T T1 T2 : Nat → Int → Int} {X : Int × Int × Int × Int × (Nat → Int → Int)} {fk fi fz fn fa fs fu gk gi gz gn ga gs gu : Nat → Int32}
end
/-- a number: its digits; behind a fraction; behind all -/
def jjN1 (b : Int → Int) (e a l2 l3 w : Int) : Prop := l2 = jjNb b e a ∧ w = jjDg b e l2 ∧ l3 = w - l2 ∧ 1 ≤ l3 ∧ (l3 ≤ 1 ∨ b l2 ≠ 48)
def jjN3 (b : Int → Int) (e a l2 l3 l4 w : Int) : Prop := ∃ w1 : Int, jjN1 b e a l2 l3 w1 ∧ w = jjNp b e a ∧ 0 ≤ w ∧ ((l4 = 1 ∧ w = w1) ∨ (l4 = 0 ∧ w1 < w))
section
variable {b : Int → Int} {e a l1 l2 l3 l4 w w1 q : Int}
theorem jjNq.y {c : Int} (hc : c = jjK b e a) (h : c = 43 ∨ c = 45) (hq : q = a + 1) : q = jjNq b e a := by unfold jjNq; rw [← hc, if_pos h, hq]
theorem jjNq.n {c : Int} (hc : c = jjK b e a) (h : c ≠ 43) (h1 : c ≠ 45) (hq : q = a) : q = jjNq b e a := by unfold jjNq; rw [← hc, if_neg (fun w => w.elim h h1), hq]
theorem jjNb.y {c : Int} (hc : c = jjK b e a) (h : c = 45) (hq : q = a + 1) : q = jjNb b e a := by unfold jjNb; rw [← hc, if_pos h, hq]
theorem jjNb.n {c : Int} (hc : c = jjK b e a) (h : c ≠ 45) (hq : q = a) : q = jjNb b e a := by unfold jjNb; rw [← hc, if_neg h, hq]
theorem jjN3.d (h : jjN3 b e a l2 l3 l4 w) {j : Int} (hj : l2 ≤ j) (hj1 : j < l2 + l3) : 48 ≤ b j ∧ b j ≤ 57 := by
  obtain ⟨w2, ⟨h1, h2, h3, h5, h6⟩, _⟩ := h
  exact jjDg.dig (e := e) hj (by rw [← h2]; omega)
theorem jjN3.x {u s : Int} (h : jjN3 b e a l2 l3 l4 w) (hl : (l1 = 1 ∧ jjK b e a = 45) ∨ (l1 = 0 ∧ jjK b e a ≠ 45)) (hv : u = jjNw b e a ∨ (2147483648 < u ∧ 2147483648 < jjNw b e a)) (hs : (l1 = 1 ∧ s = -u) ∨ (l1 = 0 ∧ s = u)) (hx : l4 = 0 ∨ s < -2147483648 ∨ 2147483647 < s) : ¬ jjNi b e a := fun hi => by
  obtain ⟨w2, ⟨k1, k2, k3, k5, k6⟩, k7, k8, k9⟩ := h
  obtain ⟨i1, i2, i3⟩ := hi
  rw [← k7, ← k1, ← k2] at i1
  unfold jjNv at i2 i3
  rcases hl with ⟨q1, q2⟩ | ⟨q1, q2⟩
  · rw [if_pos q2] at i2 i3; omega
  · rw [if_neg q2] at i2 i3; omega
end
/-- a text as JSON: 1 when it is so; how many values and units; the tables -/
def jjRd (b : Int → Int) (e : Int) : Int × Int × Int × (Nat → Int → Int) :=
  if 0 ≤ (jjVal b e 10 (jjSk b e 0) 0 0 (fun _ _ => 0)).1 ∧ jjSk b e (jjVal b e 10 (jjSk b e 0) 0 0 (fun _ _ => 0)).2.1 = e then (1, (jjVal b e 10 (jjSk b e 0) 0 0 (fun _ _ => 0)).2.2.1, (jjVal b e 10 (jjSk b e 0) 0 0 (fun _ _ => 0)).2.2.2.1, (jjVal b e 10 (jjSk b e 0) 0 0 (fun _ _ => 0)).2.2.2.2)
  else (0, 0, 0, fun _ _ => 0)
def jjQr (X : Int × Int × Int × (Nat → Int → Int)) (r v u : Int) (fk fi fz fn fa fs fu : Nat → Int32) : Prop := (r = 0 ∧ X.1 = 0) ∨ (r = 1 ∧ ∃ T : Nat → Int → Int, X = (1, v, u, T) ∧ jjTC T v u fk fi fz fn fa fs fu ∧ jjCo T 0 v ∧ 1 ≤ v)
section
variable {b : Int → Int} {e a d w r r1 v u q v0 u0 : Int} {fk fi fz fn fa fs fu : Nat → Int32} {T0 : Nat → Int → Int}
theorem jjQr.of (ha : a = jjSk b e 0) (h : jjQv (jjVal b e 10 a v0 u0 T0) e d r1 w v u fk fi fz fn fa fs fu) (hv0 : v0 = 0) (hu0 : u0 = 0) (hT : T0 = fun _ _ => 0) (hd : d = 0) (hq : q = jjSk b e w) (hr : (r = 1 ∧ r1 = 0 ∧ q = e) ∨ (r = 0 ∧ (r1 ≠ 0 ∨ q ≠ e))) : jjQr (jjRd b e) r v u fk fi fz fn fa fs fu := by
  subst ha hv0 hu0 hT hd
  have ho := jjVal.out (b := b) (e := e) 10 (jjSk b e 0) 0 0 (fun _ _ => 0) (by omega)
  rcases h with ⟨h1, h2⟩ | ⟨h1, T, h2, h3⟩
  · have hx : (jjVal b e 10 (jjSk b e 0) 0 0 (fun _ _ => 0)).1 < 0 := by
      rcases h2 with h2 | h2
      · exact h2
      · rcases ho with ho | ⟨_, _, ho, _⟩
        · exact ho
        · omega
    refine Or.inl ⟨by omega, ?_⟩
    unfold jjRd
    rw [if_neg (fun w => by omega)]
  · rw [h2] at ho
    rcases ho with ho | ⟨o1, o2, o3, o4, o5, o6, o7, o8, o9⟩
    · have ho : r1 < 0 := ho
      omega
    · have o1 : r1 = 0 := o1
      have o4 : 0 < v := o4
      have o8 : jjCo T 0 v := o8
      rcases hr with ⟨q1, q2, q3⟩ | ⟨q1, q2⟩
      · refine Or.inr ⟨q1, T, ?_, h3, o8, by omega⟩
        unfold jjRd
        rw [h2, if_pos (show 0 ≤ r1 ∧ jjSk b e w = e from ⟨h1, by rw [← hq]; exact q3⟩)]
      · refine Or.inl ⟨q1, ?_⟩
        unfold jjRd
        rw [h2, if_neg (show ¬ (0 ≤ r1 ∧ jjSk b e w = e) from fun z => by rw [← hq] at z; omega)]
end
end
section
-- p9: what is asked of JSON that was read
def jqK (T : Nat → Int → Int) (v i : Int) : Int := if 0 ≤ i ∧ i < v then T 1 i else 0
def jqZ (T : Nat → Int → Int) (v i : Int) : Int := if 0 ≤ i ∧ i < v then T 3 i else 0
def jqV (T : Nat → Int → Int) (v i : Int) : Int := if 0 ≤ i ∧ i < v then T 2 i else 0
def jqF (T : Nat → Int → Int) (v i : Int) : Int := if 0 ≤ i ∧ i < v then T 2 i else -1
def jqN (T : Nat → Int → Int) (v i : Int) : Int := if 0 ≤ i ∧ i < v then T 4 i else -1
def jqTx (T : Nat → Int → Int) (f : Nat → Int32) (a : Int) : Nat → Int
  | 0 => 1
  | n + 1 => if T 7 (a + n) = (jCv (f n)).toInt then jqTx T f a n else 0
theorem jqTx.r (T : Nat → Int → Int) (f : Nat → Int32) (a : Int) (n : Nat) : jqTx T f a n = 0 ∨ jqTx T f a n = 1 := by
  induction n with
  | zero => exact Or.inr rfl
  | succ n ih =>
    have e : jqTx T f a (n + 1) = if T 7 (a + n) = (jCv (f n)).toInt then jqTx T f a n else 0 := rfl
    rw [e]; split
    · exact ih
    · exact Or.inl rfl
/-- a units' range is the text f of length n -/
def jqU (T : Nat → Int → Int) (f : Nat → Int32) (n : Nat) (a z : Int) : Int := if z = n then jqTx T f a n else 0
theorem jqU.r (T : Nat → Int → Int) (f : Nat → Int32) (n : Nat) (a z : Int) : jqU T f n a z = 0 ∨ jqU T f n a z = 1 := by
  unfold jqU
  split
  · exact jqTx.r T f a n
  · exact Or.inl rfl
/-- a member: k values are left, from c on -/
def jqMl (T : Nat → Int → Int) (f : Nat → Int32) (n : Nat) : Nat → Int → Int → Int
  | 0, _, d => d
  | k + 1, c, d => jqMl T f n k (T 4 c) (if jqU T f n (T 5 c) (T 6 c) = 1 then c else d)
def jqM (T : Nat → Int → Int) (v : Int) (f : Nat → Int32) (n : Nat) (h : Int) : Int := if jqK T v h = 1 then jqMl T f n (T 3 h).toNat (T 2 h) (-1) else -1
theorem jqMl.r {T : Nat → Int → Int} {f : Nat → Int32} {n : Nat} {v h : Int} : ∀ (k : Nat) (c d : Int), jjCh T v h k c → -1 ≤ h → (d = -1 ∨ (h < d ∧ d < v ∧ T 8 d = 1 ∧ jqU T f n (T 5 d) (T 6 d) = 1)) → (jqMl T f n k c d = -1 ∨ (h < jqMl T f n k c d ∧ jqMl T f n k c d < v ∧ T 8 (jqMl T f n k c d) = 1 ∧ jqU T f n (T 5 (jqMl T f n k c d)) (T 6 (jqMl T f n k c d)) = 1))
  | 0, _, d, _, _, hd => hd
  | k + 1, c, d, hc, h0, hd => by
    show jqMl T f n k (T 4 c) _ = -1 ∨ _
    by_cases q : jqU T f n (T 5 c) (T 6 c) = 1
    · have e : jqMl T f n (k + 1) c d = jqMl T f n k (T 4 c) c := by show jqMl T f n k (T 4 c) _ = _; rw [if_pos q]
      rw [if_pos q, e]
      exact jqMl.r k _ c hc.2.2.2 h0 (Or.inr ⟨hc.1, hc.2.1, hc.2.2.1, q⟩)
    · have e : jqMl T f n (k + 1) c d = jqMl T f n k (T 4 c) d := by show jqMl T f n k (T 4 c) _ = _; rw [if_neg q]
      rw [if_neg q, e]
      exact jqMl.r k _ d hc.2.2.2 h0 hd
theorem jqM.r {T : Nat → Int → Int} {f : Nat → Int32} {n : Nat} {v h : Int} (hco : jjCo T 0 v) : jqM T v f n h = -1 ∨ (0 ≤ jqM T v f n h ∧ jqM T v f n h < v ∧ T 8 (jqM T v f n h) = 1 ∧ jqU T f n (T 5 (jqM T v f n h)) (T 6 (jqM T v f n h)) = 1 ∧ 0 ≤ h ∧ h < v ∧ T 1 h = 1) := by
  unfold jqM
  split
  · rename_i w
    unfold jqK at w
    split at w
    · rename_i w2
      obtain ⟨k, hk, hc⟩ := hco h w2.1 w2.2 (Or.inl w)
      rw [hk, show ((k : Nat) : Int).toNat = k by omega]
      rcases jqMl.r (f := f) (n := n) k (T 2 h) (-1) hc (by omega) (Or.inl rfl) with q | ⟨q1, q2, q3, q4⟩
      · exact Or.inl q
      · exact Or.inr ⟨by omega, q2, q3, q4, w2.1, w2.2, w⟩
    · omega
  · exact Or.inl rfl
/-- a string value is the text -/
def jqI (T : Nat → Int → Int) (v : Int) (f : Nat → Int32) (n : Nat) (i : Int) : Int := if jqK T v i = 3 then jqU T f n (T 2 i) (T 3 i) else 0
/-- a string value's unit -/
def jqA (T : Nat → Int → Int) (v i j : Int) : Int := if jqK T v i = 3 ∧ 0 ≤ j ∧ j < T 3 i then T 7 (T 2 i + j) else 0
/-- a string value is the row g of length n -/
def jqEl (T : Nat → Int → Int) (v i : Int) (g : Int → Int) : Nat → Int
  | 0 => 1
  | n + 1 => if jqA T v i n = g n then jqEl T v i g n else 0
def jqE (T : Nat → Int → Int) (v i : Int) (g : Int → Int) (n : Int) : Int := if jqK T v i = 3 ∧ T 3 i = n then jqEl T v i g n.toNat else 0
theorem jqK.y {T : Nat → Int → Int} {v i : Int} (h0 : 0 ≤ i) (h1 : i < v) : jqK T v i = T 1 i := if_pos ⟨h0, h1⟩
theorem jqK.n {T : Nat → Int → Int} {v i : Int} (h : i < 0 ∨ v ≤ i) : jqK T v i = 0 := if_neg (fun w => by omega)
/-- keys and strings stand among the units -/
def jqR (fk fi fz fa fs : Nat → Int32) (v u : Int) : Prop := ∀ i : Int, 0 ≤ i → i < v → (0 ≤ jSo fa i ∧ 0 ≤ jSo fs i ∧ jSo fa i + jSo fs i ≤ u) ∧ (jSo fk i = 3 → 0 ≤ jSo fi i ∧ 0 ≤ jSo fz i ∧ jSo fi i + jSo fz i ≤ u)
theorem jqR.of {C : jC} {fk fi fz fa fs : Nat → Int32} {qv qu : Int} (h : jJr C 0 0 (fk, fi, fz, fa, fs) qv qu) : jqR fk fi fz fa fs qv qu := fun i h0 h1 => by
  obtain ⟨-, -, h3, -⟩ := h
  have e1 := (h3 (2 * i.toNat + 1) (by omega) (by omega)).1
  have e2 := (h3 (2 * i.toNat) (by omega) (by omega)).1
  unfold jln jlo at e1 e2
  rw [show (2 * i.toNat + 1) / 2 = i.toNat by omega, show ((i.toNat : Nat) : Int) = i by omega, if_neg (by omega), if_neg (by omega)] at e1
  rw [show (2 * i.toNat) / 2 = i.toNat by omega, show ((i.toNat : Nat) : Int) = i by omega] at e2
  rw [if_pos (show (2 * i.toNat) % 2 = 0 by omega), if_pos (show (2 * i.toNat) % 2 = 0 by omega)] at e2
  dsimp only at e1 e2
  refine ⟨⟨e1.2.1, e1.1, e1.2.2⟩, fun hk => ?_⟩
  rw [if_pos hk, if_pos hk] at e2
  exact ⟨e2.2.1, e2.1, e2.2.2⟩
theorem jqK.p {T : Nat → Int → Int} {v i : Int} (h : jqK T v i ≠ 0) : 0 ≤ i ∧ i < v ∧ jqK T v i = T 1 i := by
  unfold jqK at h ⊢
  split
  · rename_i w; exact ⟨w.1, w.2, rfl⟩
  · rename_i w; rw [if_neg w] at h; omega
end
section
-- p9: JSON as the reference reads it
theorem jjDg.pos {b : Int → Int} {e a c : Int} (hc : c = jjK b e a) (h1 : 48 ≤ c) (h2 : c ≤ 57) : a + 1 ≤ jjDg b e a := by
  have h := jjK.lt hc (by omega)
  unfold jjDg
  rw [← jjD_y (k := (e - a).toNat) h.1 (by omega) (by omega) (by omega) rfl]
  exact jjD.ge _ _
theorem jjDg.none {b : Int → Int} {e a c : Int} (hc : c = jjK b e a) (h : c < 48 ∨ 57 < c) : jjDg b e a = a := by
  unfold jjDg
  by_cases w : a < e
  · exact jjD_n (Or.inr (by rw [← jjK.y (b := b) (e := e) w, ← hc]; omega))
  · exact jjD_n (Or.inl (by omega))
theorem jjHx.d {c : Int} (h : 48 ≤ c) (h1 : c ≤ 57) : c - 48 = jjHx c := by unfold jjHx; rw [if_pos ⟨h, h1⟩]
theorem jjHx.n {c : Int} (h : c < 48 ∨ 57 < c) (h1 : c < 97 ∨ 102 < c) (h2 : c < 65 ∨ 70 < c) : -1 = jjHx c := by unfold jjHx; rw [if_neg (by omega), if_neg (by omega), if_neg (by omega)]
/-- while a string is read: bad or not -/
def jjLw (b : Int → Int) (e : Int) (k : Nat) (a u w : Int) (f : Nat → Int32) (X : Int × Int × Int × (Nat → Int → Int)) : Prop := (w = 0 ∧ jjLs b e k a u f X) ∨ (w = 1 ∧ X.1 = 0)
theorem jjLw.ok {b : Int → Int} {e a u w : Int} {k : Nat} {f : Nat → Int32} {X : Int × Int × Int × (Nat → Int → Int)} (h : jjLw b e k a u w f X) (hw : w = 0) : jjLs b e k a u f X := by
  rcases h with ⟨_, h⟩ | ⟨h, _⟩
  · exact h
  · omega
theorem jjLw.x {b : Int → Int} {e a u w a1 u1 : Int} {k k1 : Nat} {f g : Nat → Int32} {X : Int × Int × Int × (Nat → Int → Int)} (h : jjLs b e k a u f X) (hp : (jjP b e a).1 = 0) (hw : w = 1) : jjLw b e k1 a1 u1 w g X := by
  obtain ⟨T, hT, hX⟩ := h
  exact Or.inr ⟨hw, by rw [← hX]; exact jjSt_0 hp⟩
theorem jUc.as {b : Int → Int} {e a c : Int} (hc : c = jjK b e a) (h0 : 0 ≤ c) (h : c < 128) : c = jUc b a e ∧ a < e := by
  have h1 := jjK.lt hc (by omega)
  exact ⟨by unfold jUc; rw [h1.2, if_pos h], h1.1⟩
end
section
-- p9: JSON as the reference reads it
/-- the reference's nodes, as the tables tell them -/
def jjNd (T : Nat → Int → Int) (j s h x nf nt fr to ii iv : Int) : Prop := ((s = 6 ∧ T 1 j = 1 ∧ T 2 j = h) ∨ (s = 5 ∧ T 1 j = 2 ∧ T 2 j = h) ∨ (s = 4 ∧ T 1 j = 3 ∧ T 2 j = fr ∧ T 3 j = to - fr) ∨ (s = 3 ∧ ii = 1 ∧ T 1 j = 4 ∧ T 2 j = iv) ∨ (s = 3 ∧ ii = 0 ∧ T 1 j = 5) ∨ (0 ≤ s ∧ s ≤ 2 ∧ T 1 j = 5)) ∧ T 4 j = x ∧ (T 8 j = 1 → T 6 j = nt - nf ∧ (T 6 j = 0 ∨ T 5 j = nf))
def jjTR (T : Nat → Int → Int) (v : Int) (ms mh mx mf mt mb me mi mn : Nat → Int32) : Prop := ∀ j : Int, 0 ≤ j → j < v → jjNd T j (jSo ms j) (jSo mh j) (jSo mx j) (jSo mf j) (jSo mt j) (jSo mb j) (jSo me j) (jSo mi j) (jSo mn j)
theorem jjCh.len {T : Nat → Int → Int} {hi x : Int} : ∀ (n : Nat) (c : Int), jjCh T hi x n c → True
  | _, _, _ => trivial
end
section
-- p9: JSON as the reference reads it
theorem jUq.n {b : Int → Int} {i n r q : Int} (h : jUq b i n r q) (hr : r = 0) : jUc b i n < 0 := by
  rcases h with ⟨_, h⟩ | ⟨h, _⟩
  · exact h
  · omega
theorem jUq.p {b : Int → Int} {i n r q : Int} (h : jUq b i n r q) (hr : r ≠ 0) : 1 ≤ r ∧ r ≤ 4 ∧ i + r ≤ n ∧ 0 ≤ q ∧ q = jUc b i n ∧ r = jUz q := by
  rcases h with ⟨h, _⟩ | h
  · omega
  · exact h
/-- where a sign of an escape stands -/
def jxE (c w : Int) : Prop := (w = -1 ∧ jjEs c = -1) ∨ (0 ≤ w ∧ w < 3 ∧ jjEs c = c ∧ 34 ≤ c ∧ c ≤ 92) ∨ (3 ≤ w ∧ (c = 98 ∨ c = 102 ∨ c = 110 ∨ c = 114 ∨ c = 116))
theorem jxE.v : ∀ j : Nat, j < 8 → jSo (jChT "\"\\/bfnrt") j = (if j = 0 then 34 else if j = 1 then 92 else if j = 2 then 47 else if j = 3 then 98 else if j = 4 then 102 else if j = 5 then 110 else if j = 6 then 114 else 116) := by
  intro j hj
  rcases (by omega : j = 0 ∨ j = 1 ∨ j = 2 ∨ j = 3 ∨ j = 4 ∨ j = 5 ∨ j = 6 ∨ j = 7) with rfl | rfl | rfl | rfl | rfl | rfl | rfl | rfl <;> decide +kernel
theorem jxE.c {c : Int32} (h0 : 0 ≤ c.toInt) (h1 : c.toInt ≤ 255) : (c.toInt < 128 ∧ c.toInt8.toInt32.toInt = c.toInt) ∨ (128 ≤ c.toInt ∧ c.toInt8.toInt32.toInt = c.toInt - 256) := by
  rw [Int8.toInt_toInt32, Int32.toInt_toInt8]
  show (c.toInt < 128 ∧ Int.bmod c.toInt 256 = c.toInt) ∨ (128 ≤ c.toInt ∧ Int.bmod c.toInt 256 = c.toInt - 256)
  unfold Int.bmod
  dsimp only
  split <;> omega
theorem jxE.w {j : Nat} (h : j < 8) : jSo (jChT "\"\\/bfnrt") (j : Int) = (if j = 0 then 34 else if j = 1 then 92 else if j = 2 then 47 else if j = 3 then 98 else if j = 4 then 102 else if j = 5 then 110 else if j = 6 then 114 else 116) := jxE.v j h
theorem jxE.of {c : Int32} {w : Int} (h : jIxR (jChT "\"\\/bfnrt") c.toInt8.toInt32 0 8 w) (h0 : 0 ≤ c.toInt) (h1 : c.toInt ≤ 255) : jxE c.toInt w := by
  have hc := jxE.c h0 h1
  generalize c.toInt8.toInt32 = m at h hc
  rcases h with ⟨hw, h2⟩ | ⟨q0, q1, q2, q3⟩
  · have e0 := h2 ((0 : Nat) : Int) (by omega) (by omega)
    have e1 := h2 ((1 : Nat) : Int) (by omega) (by omega)
    have e2 := h2 ((2 : Nat) : Int) (by omega) (by omega)
    have e3 := h2 ((3 : Nat) : Int) (by omega) (by omega)
    have e4 := h2 ((4 : Nat) : Int) (by omega) (by omega)
    have e5 := h2 ((5 : Nat) : Int) (by omega) (by omega)
    have e6 := h2 ((6 : Nat) : Int) (by omega) (by omega)
    have e7 := h2 ((7 : Nat) : Int) (by omega) (by omega)
    rw [jxE.w (by decide)] at e0 e1 e2 e3 e4 e5 e6 e7
    have f0 : (34 : Int) ≠ m.toInt := e0
    have f1 : (92 : Int) ≠ m.toInt := e1
    have f2 : (47 : Int) ≠ m.toInt := e2
    have f3 : (98 : Int) ≠ m.toInt := e3
    have f4 : (102 : Int) ≠ m.toInt := e4
    have f5 : (110 : Int) ≠ m.toInt := e5
    have f6 : (114 : Int) ≠ m.toInt := e6
    have f7 : (116 : Int) ≠ m.toInt := e7
    clear e0 e1 e2 e3 e4 e5 e6 e7 h2
    refine Or.inl ⟨hw, ?_⟩
    unfold jjEs
    rcases hc with ⟨g, e⟩ | ⟨g, e⟩
    · rw [e] at f0 f1 f2 f3 f4 f5 f6 f7
      rw [if_neg (fun q => by rcases q with q | q | q; exact f0 q.symm; exact f1 q.symm; exact f2 q.symm), if_neg (fun q => f3 q.symm), if_neg (fun q => f4 q.symm), if_neg (fun q => f5 q.symm), if_neg (fun q => f6 q.symm), if_neg (fun q => f7 q.symm)]
    · clear f0 f1 f2 f3 f4 f5 f6 f7
      rw [if_neg (by omega), if_neg (by omega), if_neg (by omega), if_neg (by omega), if_neg (by omega), if_neg (by omega)]
  · clear q3
    have key : ∀ (k : Nat) (z : Int), w = k → jSo (jChT "\"\\/bfnrt") (k : Int) = z → 0 ≤ z → c.toInt = z := fun k z e1 e2 e3 => by rw [e1, e2] at q2; omega
    rcases (by omega : w = 0 ∨ w = 1 ∨ w = 2 ∨ w = 3 ∨ w = 4 ∨ w = 5 ∨ w = 6 ∨ w = 7) with e | e | e | e | e | e | e | e
    · have h5 := key 0 34 e (jxE.w (by decide)) (by omega)
      exact Or.inr (Or.inl ⟨by omega, by omega, jjEs.of (Or.inl h5), by omega, by omega⟩)
    · have h5 := key 1 92 e (jxE.w (by decide)) (by omega)
      exact Or.inr (Or.inl ⟨by omega, by omega, jjEs.of (Or.inr (Or.inl h5)), by omega, by omega⟩)
    · have h5 := key 2 47 e (jxE.w (by decide)) (by omega)
      exact Or.inr (Or.inl ⟨by omega, by omega, jjEs.of (Or.inr (Or.inr h5)), by omega, by omega⟩)
    · have h5 := key 3 98 e (jxE.w (by decide)) (by omega)
      exact Or.inr (Or.inr ⟨by omega, by omega⟩)
    · have h5 := key 4 102 e (jxE.w (by decide)) (by omega)
      exact Or.inr (Or.inr ⟨by omega, by omega⟩)
    · have h5 := key 5 110 e (jxE.w (by decide)) (by omega)
      exact Or.inr (Or.inr ⟨by omega, by omega⟩)
    · have h5 := key 6 114 e (jxE.w (by decide)) (by omega)
      exact Or.inr (Or.inr ⟨by omega, by omega⟩)
    · have h5 := key 7 116 e (jxE.w (by decide)) (by omega)
      exact Or.inr (Or.inr ⟨by omega, by omega⟩)
theorem jIxR.r {f : Nat → Int32} {c : Int32} {a b r : Int} (h : jIxR f c a b r) : r = -1 ∨ (a ≤ r ∧ r < b) := by
  rcases h with ⟨h, _⟩ | ⟨h1, h2, _⟩
  · exact Or.inl h
  · exact Or.inr ⟨h1, h2⟩
theorem jxE.p {c w : Int} (h : jxE c w) (hw : 0 ≤ w) : 34 ≤ c ∧ c ≠ 117 ∧ c ≤ 116 ∧ (w < 3 ∨ c = 98 ∨ c = 102 ∨ c = 110 ∨ c = 114 ∨ c = 116) := by unfold jxE at h; omega
end
section
-- p9: JSON as the reference reads it
/-- a value was read by the reference -/
def jjQw (X : Int × Int × Int × Int × (Nat → Int → Int)) (w r a v u : Int) (ms mh mx mf mt mb me mi mn fu : Nat → Int32) : Prop := (w = 1 ∧ X.1 < 0) ∨ (w = 0 ∧ ∃ T : Nat → Int → Int, X = (r, a, v, u, T) ∧ jjTR T v ms mh mx mf mt mb me mi mn ∧ jjA T 7 u fu)
theorem jjQw.no {X : Int × Int × Int × Int × (Nat → Int → Int)} {w r a v u : Int} {ms mh mx mf mt mb me mi mn fu : Nat → Int32} (h : X.1 < 0) (hw : w = 1) : jjQw X w r a v u ms mh mx mf mt mb me mi mn fu := Or.inl ⟨hw, h⟩
theorem jjQw.y {X : Int × Int × Int × Int × (Nat → Int → Int)} {w r a v u : Int} {ms mh mx mf mt mb me mi mn fu : Nat → Int32} (h : jjQw X w r a v u ms mh mx mf mt mb me mi mn fu) (hw : w = 0) : ∃ T : Nat → Int → Int, X = (r, a, v, u, T) ∧ jjTR T v ms mh mx mf mt mb me mi mn ∧ jjA T 7 u fu := by
  rcases h with ⟨h, _⟩ | ⟨_, h⟩
  · omega
  · exact h
theorem jjQw.n {X : Int × Int × Int × Int × (Nat → Int → Int)} {w r a v u : Int} {ms mh mx mf mt mb me mi mn fu : Nat → Int32} (h : jjQw X w r a v u ms mh mx mf mt mb me mi mn fu) (hw : w = 1) : X.1 < 0 := by
  rcases h with ⟨_, h⟩ | ⟨h, _⟩
  · exact h
  · omega
theorem jjV10.app {b : Int → Int} : ∀ (k : Nat) (a v : Int), jjV10 b (k + 1) a v = jjV10 b k a v * 10 + b (a + k) - 48
  | 0, a, v => by show v * 10 + b a - 48 = v * 10 + b (a + ((0 : Nat) : Int)) - 48; rw [show a + ((0 : Nat) : Int) = a by omega]
  | k + 1, a, v => by
    show jjV10 b (k + 1) (a + 1) (v * 10 + b a - 48) = jjV10 b k (a + 1) (v * 10 + b a - 48) * 10 + _ - 48
    rw [jjV10.app k (a + 1), show a + 1 + (k : Int) = a + ((k + 1 : Nat) : Int) by omega]
theorem jjV10.sn {b : Int → Int} {a w wq : Int} (h : a ≤ w) (e : wq = w + 1) : jjV10 b (wq - a).toNat a 0 = jjV10 b (w - a).toNat a 0 * 10 + b w - 48 := by
  rw [show (wq - a).toNat = (w - a).toNat + 1 by omega, jjV10.app, show a + (((w - a).toNat : Nat) : Int) = w by omega]
theorem jjW.c {b : Int → Int} {e a : Int} {f : Nat → Int32} {n : Nat} (h : jjW b e f n a = 1) (hn : 0 < n) : a < e ∧ b a = (f 0).toInt := by
  unfold jjW at h
  by_cases w : a + ((0 : Nat) : Int) < e ∧ b (a + ((0 : Nat) : Int)) = (f 0).toInt
  · rw [show a + ((0 : Nat) : Int) = a by omega] at w; exact w
  · rw [jjWf_n (i := 0) (by
      by_cases q : a + ((0 : Nat) : Int) < e
      · exact Or.inr (fun q2 => w ⟨q, q2⟩)
      · exact Or.inl (by omega)) hn] at h
    omega
section
variable {b : Int → Int} {e a v u r a1 v1 c : Int} {T : Nat → Int → Int}
theorem jjNp.x (hc : c = jjK b e a) (h1 : c ≠ 45) (h2 : c < 48 ∨ 57 < c) : jjNp b e a < 0 := by
  have e1 : jjNb b e a = a := (jjNb.n hc h1 rfl).symm
  have e2 : jjDg b e a = a := jjDg.none hc h2
  unfold jjNp
  rw [e1, e2, if_pos (Or.inl rfl)]; omega
end
section
variable {b : Int → Int} {e a v u r qt qn w c : Int} {n : Nat} {T : Nat → Int → Int} {ms mh mx mf mt mb me mi mn fu : Nat → Int32}
end
section
variable {b : Int → Int} {e o h m w a v u l : Int} {V : Int → Int → Int → (Nat → Int → Int) → Int × Int × Int × Int × (Nat → Int → Int)} {k : Nat} {ms mh mx mf mt mb me mi mn fu : Nat → Int32} {X : Int × Int × Int × Int × (Nat → Int → Int)}
end
end
section
-- p9: documents: places, changes, messages
def jdE (g : Int → Int) (n a : Int) : Int := if g a = 10 ∨ (g a = 13 ∧ ¬ (a + 1 < n ∧ g (a + 1) = 10)) then 1 else 0
def jdL (g : Int → Int) (n w : Int) : Nat → Int → Int → Int × Int
  | 0, a, p => (a, p)
  | k + 1, a, p => if a < n ∧ p < w then jdL g n w k (a + 1) (p + jdE g n a) else (a, p)
theorem jdL_s {g : Int → Int} {n w a p a1 p1 : Int} {k : Nat} (h : a < n) (h1 : p < w) (hk : 0 < k) (ea : a1 = a + 1) (ep : p1 = p + jdE g n a) : jdL g n w (k - 1) a1 p1 = jdL g n w k a p := by
  subst ea ep
  cases k with
  | zero => omega
  | succ k => exact (if_pos ⟨h, h1⟩).symm
def jdC (g : Int → Int) (n f c : Int) : Nat → Int → Int
  | 0, a => a
  | k + 1, a => if a < n ∧ a - f < c ∧ g a ≠ 10 ∧ g a ≠ 13 then jdC g n f c k (a + 1) else a
theorem jdC.r {g : Int → Int} {n f c : Int} : ∀ (k : Nat) (a : Int), a ≤ n → a ≤ jdC g n f c k a ∧ jdC g n f c k a ≤ n
  | 0, a, h => ⟨Int.le_refl a, h⟩
  | k + 1, a, h => by
    by_cases w : a < n ∧ a - f < c ∧ g a ≠ 10 ∧ g a ≠ 13
    · have e : jdC g n f c (k + 1) a = jdC g n f c k (a + 1) := if_pos w
      have ih := jdC.r (g := g) (n := n) (f := f) (c := c) k (a + 1) (by omega)
      rw [e]; omega
    · have e : jdC g n f c (k + 1) a = a := if_neg w
      rw [e]; omega
/-- the place of a character in a line; -1 when the line is not there -/
def jdP (g : Int → Int) (n w c : Int) : Int := if w < 0 ∨ c < 0 then -1 else if (jdL g n w n.toNat 0 0).2 < w then -1 else jdC g n (jdL g n w n.toNat 0 0).1 c n.toNat (jdL g n w n.toNat 0 0).1
/-- z units q come for those from s up to t -/
def jdR (g : Int → Int) (s t z : Int) (q : Int → Int) : Int → Int := fun j => if j < s then g j else if j < s + z then q (j - s) else g (j - s - z + t)
/-- a position told by JSON -/
def jdT (T : Nat → Int → Int) (v : Int) (g : Int → Int) (n p : Int) : Int := if jqK T v (jqM T v (jChT "line") 4 p) = 4 ∧ jqK T v (jqM T v (jChT "character") 9 p) = 4 then jdP g n (T 2 (jqM T v (jChT "line") 4 p)) (T 2 (jqM T v (jChT "character") 9 p)) else -1
/-- where a change goes: from, to -/
def jdS (T : Nat → Int → Int) (v : Int) (g : Int → Int) (n c : Int) : Int × Int := if jqM T v (jChT "range") 5 c < 0 then (0, n) else (jdT T v g n (jqM T v (jChT "start") 5 (jqM T v (jChT "range") 5 c)), jdT T v g n (jqM T v (jChT "end") 3 (jqM T v (jChT "range") 5 c)))
/-- one change: 1 when it can be made; the units' count, the units -/
def jdO (T : Nat → Int → Int) (v : Int) (g : Int → Int) (n c : Int) : Int × Int × (Int → Int) :=
  if jqK T v (jqM T v (jChT "text") 4 c) = 3 ∧ 0 ≤ (jdS T v g n c).1 ∧ (jdS T v g n c).1 ≤ (jdS T v g n c).2 ∧ (jdS T v g n c).1 + T 3 (jqM T v (jChT "text") 4 c) + (n - (jdS T v g n c).2) ≤ 1500 then
    (1, (jdS T v g n c).1 + T 3 (jqM T v (jChT "text") 4 c) + (n - (jdS T v g n c).2), jdR g (jdS T v g n c).1 (jdS T v g n c).2 (T 3 (jqM T v (jChT "text") 4 c)) (fun j => jqA T v (jqM T v (jChT "text") 4 c) j))
  else (0, n, g)
/-- k changes, from c on -/
def jdCh (T : Nat → Int → Int) (v : Int) : Nat → Int → Int → (Int → Int) → Int × Int × (Int → Int)
  | 0, _, n, g => (1, n, g)
  | k + 1, c, n, g => if (jdO T v g n c).1 = 1 then jdCh T v k (T 4 c) (jdO T v g n c).2.1 (jdO T v g n c).2.2 else (0, n, g)
/-- the open document (of those from d on, k of them) that a string names -/
def jdF (T : Nat → Int → Int) (v i : Int) (ul : Int → Int) (ur : Int → Int → Int) : Nat → Int → Int
  | 0, _ => -1
  | k + 1, d => if jqE T v i (ur d) (ul d) = 1 then d else jdF T v i ul ur k (d + 1)
def jdPm (T : Nat → Int → Int) (v : Int) : Int := jqM T v (jChT "params") 6 0
def jdTd (T : Nat → Int → Int) (v : Int) : Int := jqM T v (jChT "textDocument") 12 (jdPm T v)
def jdUr (T : Nat → Int → Int) (v : Int) : Int := jqM T v (jChT "uri") 3 (jdTd T v)
def jdVs (T : Nat → Int → Int) (v : Int) : Int := jqM T v (jChT "version") 7 (jdTd T v)
def jdTt (T : Nat → Int → Int) (v : Int) : Int := jqM T v (jChT "text") 4 (jdTd T v)
def jdCc (T : Nat → Int → Int) (v : Int) : Int := jqM T v (jChT "contentChanges") 14 (jdPm T v)
def jdMe (T : Nat → Int → Int) (v : Int) : Int := jqM T v (jChT "method") 6 0
def jdId (T : Nat → Int → Int) (v : Int) : Int := jqM T v (jChT "id") 2 0
/-- is it a message at all -/
def jdGd (T : Nat → Int → Int) (v : Int) : Int := if jqI T v (jChT "2.0") 3 (jqM T v (jChT "jsonrpc") 7 0) = 1 ∧ jqK T v (jdMe T v) = 3 ∧ (jdPm T v < 0 ∨ jqK T v (jdPm T v) = 1) ∧ (jdId T v < 0 ∨ jqK T v (jdId T v) = 4 ∨ (jqK T v (jdId T v) = 3 ∧ T 3 (jdId T v) ≤ 20)) then 1 else 0
/-- one document: version, length, text, the uri's length, the uri -/
abbrev jdD := Int × Int × (Int → Int) × Int × (Int → Int)
def jdDz : jdD := (0, 0, fun _ => 0, 0, fun _ => 0)
def jdKp (n : Int) (g : Int → Int) : Int → Int := fun j => if 0 ≤ j ∧ j < n then g j else 0
def jdUp (F : Int → jdD) (d : Int) (x : jdD) : Int → jdD := fun i => if i = d then x else F i
def jdDn (F : Int → jdD) (d : Int) : Int → jdD := fun i => if i < d then F i else F (i + 1)
/-- the number of the document that a message is about; -1 when there is none -/
def jdWh (T : Nat → Int → Int) (v c : Int) (F : Int → jdD) : Int := jdF T v (jdUr T v) (fun d => (F d).2.2.2.1) (fun d => (F d).2.2.2.2) c.toNat 0
/-- may one be opened; the new one -/
def jdOp (T : Nat → Int → Int) (v c : Int) (F : Int → jdD) : Int := if jqK T v (jdUr T v) = 3 ∧ 1 ≤ T 3 (jdUr T v) ∧ T 3 (jdUr T v) ≤ 40 ∧ jqK T v (jdVs T v) = 4 ∧ jqK T v (jdTt T v) = 3 ∧ T 3 (jdTt T v) ≤ 1500 ∧ jdWh T v c F < 0 ∧ c < 3 then 1 else 0
def jdNd (T : Nat → Int → Int) (v : Int) : jdD := (T 2 (jdVs T v), T 3 (jdTt T v), jdKp (T 3 (jdTt T v)) (fun j => jqA T v (jdTt T v) j), T 3 (jdUr T v), jdKp (T 3 (jdUr T v)) (fun j => jqA T v (jdUr T v) j))
/-- the text of a document with all changes -/
def jdNew (T : Nat → Int → Int) (v : Int) (D : jdD) : Int × Int × (Int → Int) := jdCh T v (T 3 (jdCc T v)).toNat (T 2 (jdCc T v)) D.2.1 D.2.2.1
def jdCg (T : Nat → Int → Int) (v c : Int) (F : Int → jdD) : Int := if 0 ≤ jdWh T v c F ∧ jqK T v (jdVs T v) = 4 ∧ (F (jdWh T v c F)).1 < T 2 (jdVs T v) ∧ jqK T v (jdCc T v) = 2 ∧ 1 ≤ T 3 (jdCc T v) ∧ T 3 (jdCc T v) ≤ 8 ∧ (jdNew T v (F (jdWh T v c F))).1 = 1 then 1 else 0
def jdCd (T : Nat → Int → Int) (v : Int) (D : jdD) : jdD := (T 2 (jdVs T v), (jdNew T v D).2.1, jdKp (jdNew T v D).2.1 (jdNew T v D).2.2, D.2.2.2.1, D.2.2.2.2)
/-- what a message makes of the open documents: their count, each -/
def jdOpen (T : Nat → Int → Int) (v : Int) (S : Int × (Int → jdD)) : Int × (Int → jdD) := if jdOp T v S.1 S.2 = 1 then (S.1 + 1, jdUp S.2 S.1 (jdNd T v)) else S
def jdChange (T : Nat → Int → Int) (v : Int) (S : Int × (Int → jdD)) : Int × (Int → jdD) := if jdCg T v S.1 S.2 = 1 then (S.1, jdUp S.2 (jdWh T v S.1 S.2) (jdCd T v (S.2 (jdWh T v S.1 S.2)))) else S
def jdClose (T : Nat → Int → Int) (v : Int) (S : Int × (Int → jdD)) : Int × (Int → jdD) := if 0 ≤ jdWh T v S.1 S.2 then (S.1 - 1, jdDn S.2 (jdWh T v S.1 S.2)) else S
/-- the text that the first request must have -/
def jdIn : String := "initi" ++ "alize"
/-- the phase behind a request (0 new, 1 ready, 2 shut) -/
def jdRq (T : Nat → Int → Int) (v p : Int) : Int := if p = 0 then (if jqI T v (jChT jdIn) 10 (jdMe T v) = 1 then 1 else 0) else if p = 1 ∧ jqI T v (jChT jdIn) 10 (jdMe T v) ≠ 1 ∧ jqI T v (jChT "shutdown") 8 (jdMe T v) = 1 then 2 else p
/-- the open documents behind a notification -/
def jdNo (T : Nat → Int → Int) (v p : Int) (S : Int × (Int → jdD)) : Int × (Int → jdD) := if p ≠ 1 then S else if jqI T v (jChT "textDocument/didOpen") 20 (jdMe T v) = 1 then jdOpen T v S else if jqI T v (jChT "textDocument/didChange") 22 (jdMe T v) = 1 then jdChange T v S else if jqI T v (jChT "textDocument/didClose") 21 (jdMe T v) = 1 then jdClose T v S else S
/-- a message: whether the server is broken by it, the phase, the documents -/
def jdMg (T : Nat → Int → Int) (v p : Int) (S : Int × (Int → jdD)) : Int × Int × Int × (Int → jdD) := if jdGd T v = 1 then (if 0 ≤ jdId T v then (0, jdRq T v p, S) else if jqI T v (jChT "exit") 4 (jdMe T v) = 1 then (1, p, S) else (0, p, jdNo T v p S)) else (0, p, S)
end
section
-- p9: the texts of all documents, as a walk carries them; System.arraycopy of ints with contents
/-- what is told of the documents: version, length, text, uri's length, uri -/
def jDtl : Type := (Nat → Int32) × (Nat → Int32) × (Nat → Nat → Int32) × (Nat → Nat) × (Nat → Nat → Int32)
def jDtl.ve (t : jDtl) : Nat → Int32 := t.1
def jDtl.ln (t : jDtl) : Nat → Int32 := t.2.1
def jDtl.tx (t : jDtl) : Nat → Nat → Int32 := t.2.2.1
def jDtl.ul (t : jDtl) : Nat → Nat := t.2.2.2.1
def jDtl.ux (t : jDtl) : Nat → Nat → Int32 := t.2.2.2.2
def jDtl.put (t : jDtl) (a : Nat) (v l : Int32) (f : Nat → Int32) (u : Nat) (g : Nat → Int32) : jDtl := (jUf t.ve a v, jUf t.ln a l, jUf t.tx a f, jUf t.ul a u, jUf t.ux a g)
/-- one document of the class -/
def jD6 (dC : Nat → ClassId) (dI : Nat → Nat → Nat) (ca : Nat → ClassId) (G : jT) (a y z : Nat) (v l : Int32) (f : Nat → Int32) (u : Nat) (g : Nat → Int32) (H : Heap) : Prop := jP (dC, dI) G H [(a, 3, 1, .int v), (a, 3, 3, .int l), (a, 3, 0, .ref z)] ∧ jMc (dC, dI) G H [(y, 173, 1500, ca 1, f), (z, 174, u, ca 1, g)] ∧ u ≤ 3000
/-- all documents of the class but x -/
def jCD (dC : Nat → ClassId) (dI : Nat → Nat → Nat) (ca : Nat → ClassId) (G : jT) (x : Option Nat) (t : jDtl) (H : Heap) : Prop := ∃ Yt Yu : Nat → Nat,
  (∀ a n, G a = some (3, n) → jf (dC, dI) 3 a 2 (.ref (Yt a)) H ∧ G (Yt a) = some (173, 1500)) ∧ (∀ a b n m, G a = some (3, n) → G b = some (3, m) → Yt a = Yt b → a = b) ∧
  ∀ a n, G a = some (3, n) → x ≠ some a → jD6 dC dI ca G a (Yt a) (Yu a) (t.ve a) (t.ln a) (t.tx a) (t.ul a) (t.ux a) H
section J91
variable {dC : Nat → ClassId} {dI : Nat → Nat → Nat} {ca : Nat → ClassId} {G G1 : jT} {H H1 : Heap} {x : Option Nat} {t : jDtl}
theorem jD6.of {a y z u : Nat} {v l : Int32} {f g : Nat → Int32} (h : jD6 dC dI ca G a y z v l f u g H) (hf : ∀ i v, i = 0 ∨ i = 1 ∨ i = 3 → jf (dC, dI) 3 a i v H → jf (dC, dI) 3 a i v H1) (hb : H1[y]? = H[y]?) (he : H1[z]? = H[z]?) : jD6 dC dI ca G a y z v l f u g H1 := by
  obtain ⟨g3, g4, g5⟩ := h
  refine ⟨fun q hq => ?_, fun q hq => ?_, g5⟩
  · obtain ⟨q1, q2⟩ := g3 q hq
    refine ⟨q1, ?_⟩
    simp only [List.mem_cons, List.not_mem_nil, or_false] at hq
    rcases hq with rfl | rfl | rfl
    · exact hf _ _ (Or.inr (Or.inl rfl)) q2
    · exact hf _ _ (Or.inr (Or.inr rfl)) q2
    · exact hf _ _ (Or.inl rfl) q2
  · obtain ⟨q1, q2, q3, q4⟩ := g4 q hq
    refine ⟨q1, q2, q3, q4.kept ?_⟩
    simp only [List.mem_cons, List.not_mem_nil, or_false] at hq
    rcases hq with rfl | rfl
    · exact hb
    · exact he
theorem jD6.up {a y z u : Nat} {v l : Int32} {f g : Nat → Int32} (h : jD6 dC dI ca G a y z v l f u g H) (hle : jLe G G1) : jD6 dC dI ca G1 a y z v l f u g H := by
  obtain ⟨g3, g4, g5⟩ := h
  refine ⟨fun q hq => ?_, fun q hq => ?_, g5⟩
  · obtain ⟨⟨n, q1⟩, q2⟩ := g3 q hq
    exact ⟨⟨n, hle _ _ q1⟩, q2⟩
  · obtain ⟨q1, q2⟩ := g4 q hq
    exact ⟨hle _ _ q1, q2⟩
theorem jD6.gy {a y z u : Nat} {v l : Int32} {f g : Nat → Int32} (h : jD6 dC dI ca G a y z v l f u g H) : G y = some (173, 1500) ∧ G z = some (174, u) := ⟨(h.2.1 _ List.mem_cons_self).1, (h.2.1 _ (List.mem_cons_of_mem _ List.mem_cons_self)).1⟩
/-- what is known of a document -/
theorem jCD.at {a n : Nat} (h : jCD dC dI ca G x t H) (ha : G a = some (3, n)) (hx : x ≠ some a) : ∃ (y z : Nat), G y = some (173, 1500) ∧ G z = some (174, t.ul a) ∧ jP (dC, dI) G H [(a, 3, 2, .ref y), (a, 3, 1, .int (t.ve a)), (a, 3, 3, .int (t.ln a)), (a, 3, 0, .ref z)] ∧ jMc (dC, dI) G H [(y, 173, 1500, ca 1, t.tx a), (z, 174, t.ul a, ca 1, t.ux a)] ∧ t.ul a ≤ 3000 := by
  obtain ⟨Yt, Yu, h1, h2, h3⟩ := h
  obtain ⟨g1, g2⟩ := h1 a n ha
  have g := h3 a n ha hx
  refine ⟨Yt a, Yu a, g2, g.gy.2, fun q hq => ?_, g.2.1, g.2.2⟩
  rcases List.mem_cons.mp hq with e | e
  · subst e; exact ⟨⟨n, ha⟩, g1⟩
  · exact g.1 q e
/-- a document is opened -/
theorem jCD.opn {a n : Nat} (h : jCD dC dI ca G none t H) (ha : G a = some (3, n)) : (∃ (y z : Nat), G y = some (173, 1500) ∧ G z = some (174, t.ul a) ∧ jP (dC, dI) G H [(a, 3, 2, .ref y), (a, 3, 1, .int (t.ve a)), (a, 3, 3, .int (t.ln a)), (a, 3, 0, .ref z)] ∧ jMc (dC, dI) G H [(y, 173, 1500, ca 1, t.tx a), (z, 174, t.ul a, ca 1, t.ux a)] ∧ t.ul a ≤ 3000) ∧ jCD dC dI ca G (some a) t H := by
  refine ⟨h.at ha (fun q => by cases q), ?_⟩
  obtain ⟨Yt, Yu, h1, h2, h3⟩ := h
  exact ⟨Yt, Yu, h1, h2, fun b m hb _ => h3 b m hb (fun q => by cases q)⟩
end J91
-- the reference's
def jD7 (dC : Nat → ClassId) (dI : Nat → Nat → Nat) (ca : Nat → ClassId) (G : jT) (a y z : Nat) (v l : Int32) (f : Nat → Int32) (u : Int32) (g : Nat → Int32) (H : Heap) : Prop := jP (dC, dI) G H [(a, 14, 2, .int v), (a, 14, 4, .int l), (a, 14, 1, .int u)] ∧ jMc (dC, dI) G H [(y, 194, 1500, ca 1, f), (z, 195, 40, ca 1, g)]
/-- what is told of the reference's documents: version, length, text, uri's length, uri -/
def jDtr : Type := (Nat → Int32) × (Nat → Int32) × (Nat → Nat → Int32) × (Nat → Int32) × (Nat → Nat → Int32)
def jDtr.ve (t : jDtr) : Nat → Int32 := t.1
def jDtr.ln (t : jDtr) : Nat → Int32 := t.2.1
def jDtr.tx (t : jDtr) : Nat → Nat → Int32 := t.2.2.1
def jDtr.ul (t : jDtr) : Nat → Int32 := t.2.2.2.1
def jDtr.ux (t : jDtr) : Nat → Nat → Int32 := t.2.2.2.2
def jDtr.put (t : jDtr) (a : Nat) (v l : Int32) (f : Nat → Int32) (u : Int32) (g : Nat → Int32) : jDtr := (jUf t.ve a v, jUf t.ln a l, jUf t.tx a f, jUf t.ul a u, jUf t.ux a g)
def jRD (dC : Nat → ClassId) (dI : Nat → Nat → Nat) (ca : Nat → ClassId) (G : jT) (x : Option Nat) (t : jDtr) (H : Heap) : Prop := ∃ Yt Yu : Nat → Nat,
  (∀ a, G a = some (14, 0) → jf (dC, dI) 14 a 3 (.ref (Yt a)) H ∧ jf (dC, dI) 14 a 0 (.ref (Yu a)) H ∧ G (Yt a) = some (194, 1500) ∧ G (Yu a) = some (195, 40)) ∧ (∀ a b, G a = some (14, 0) → G b = some (14, 0) → Yt a = Yt b → a = b) ∧ (∀ a b, G a = some (14, 0) → G b = some (14, 0) → Yu a = Yu b → a = b) ∧
  ∀ a, G a = some (14, 0) → x ≠ some a → jD7 dC dI ca G a (Yt a) (Yu a) (t.ve a) (t.ln a) (t.tx a) (t.ul a) (t.ux a) H
section J92
variable {dC : Nat → ClassId} {dI : Nat → Nat → Nat} {ca : Nat → ClassId} {G G1 : jT} {H H1 : Heap} {x : Option Nat} {t : jDtr}
theorem jD7.of {a y z : Nat} {u v l : Int32} {f g : Nat → Int32} (h : jD7 dC dI ca G a y z v l f u g H) (hf : ∀ i v, i = 1 ∨ i = 2 ∨ i = 4 → jf (dC, dI) 14 a i v H → jf (dC, dI) 14 a i v H1) (hb : H1[y]? = H[y]?) (he : H1[z]? = H[z]?) : jD7 dC dI ca G a y z v l f u g H1 := by
  obtain ⟨g3, g4⟩ := h
  refine ⟨fun q hq => ?_, fun q hq => ?_⟩
  · obtain ⟨q1, q2⟩ := g3 q hq
    refine ⟨q1, ?_⟩
    simp only [List.mem_cons, List.not_mem_nil, or_false] at hq
    rcases hq with rfl | rfl | rfl
    · exact hf _ _ (Or.inr (Or.inl rfl)) q2
    · exact hf _ _ (Or.inr (Or.inr rfl)) q2
    · exact hf _ _ (Or.inl rfl) q2
  · obtain ⟨q1, q2, q3, q4⟩ := g4 q hq
    refine ⟨q1, q2, q3, q4.kept ?_⟩
    simp only [List.mem_cons, List.not_mem_nil, or_false] at hq
    rcases hq with rfl | rfl
    · exact hb
    · exact he
theorem jD7.gy {a y z : Nat} {u v l : Int32} {f g : Nat → Int32} (h : jD7 dC dI ca G a y z v l f u g H) : G y = some (194, 1500) ∧ G z = some (195, 40) := ⟨(h.2 _ List.mem_cons_self).1, (h.2 _ (List.mem_cons_of_mem _ List.mem_cons_self)).1⟩
theorem jRD.at {a : Nat} (h : jRD dC dI ca G x t H) (ha : G a = some (14, 0)) (hx : x ≠ some a) : ∃ (y z : Nat), G y = some (194, 1500) ∧ G z = some (195, 40) ∧ jP (dC, dI) G H [(a, 14, 3, .ref y), (a, 14, 0, .ref z), (a, 14, 2, .int (t.ve a)), (a, 14, 4, .int (t.ln a)), (a, 14, 1, .int (t.ul a))] ∧ jMc (dC, dI) G H [(y, 194, 1500, ca 1, t.tx a), (z, 195, 40, ca 1, t.ux a)] := by
  obtain ⟨Yt, Yu, h1, h2, h3, h4⟩ := h
  obtain ⟨g1, g2, g3, g4⟩ := h1 a ha
  have g := h4 a ha hx
  refine ⟨Yt a, Yu a, g3, g4, fun q hq => ?_, g.2⟩
  rcases List.mem_cons.mp hq with e | e
  · subst e; exact ⟨⟨0, ha⟩, g1⟩
  · rcases List.mem_cons.mp e with e | e
    · subst e; exact ⟨⟨0, ha⟩, g2⟩
    · exact g.1 q e
theorem jRD.opn {a : Nat} (h : jRD dC dI ca G none t H) (ha : G a = some (14, 0)) : (∃ (y z : Nat), G y = some (194, 1500) ∧ G z = some (195, 40) ∧ jP (dC, dI) G H [(a, 14, 3, .ref y), (a, 14, 0, .ref z), (a, 14, 2, .int (t.ve a)), (a, 14, 4, .int (t.ln a)), (a, 14, 1, .int (t.ul a))] ∧ jMc (dC, dI) G H [(y, 194, 1500, ca 1, t.tx a), (z, 195, 40, ca 1, t.ux a)]) ∧ jRD dC dI ca G (some a) t H := by
  refine ⟨h.at ha (fun q => by cases q), ?_⟩
  obtain ⟨Yt, Yu, h1, h2, h3, h4⟩ := h
  exact ⟨Yt, Yu, h1, h2, h3, fun b hb _ => h4 b hb (fun q => by cases q)⟩
end J92
section J93
variable {p : Program} {l : Launch} {e : Env} {R : Room} {s : State} {m : MethodId} {args : Array Value} {below : List Frame} {meth : Method} {c : Code} {H : Heap} {locs : List Loc} {cells slots : Nat} {Q : State → Prop}
variable {cc : ByteArray} {pc : Nat} {ls : Array Slot} {rest : List Value} {dC : Nat → ClassId} {dI : Nat → Nat → Nat} {ca : Nat → ClassId} {B : jF} {base : Nat} {G0 G : jT} {E : List (Nat × Nat)} {H0 : Heap} {zc zs : Nat} {L : List jPin} {M : List jCt} {I : List jIv} {a a0 k k0 n n0 index : Nat} {tys : List (ClassId × FieldType)} {own : String} {P P0 : Nat → Int32 → Prop} {cA : ClassId}
end J93
-- texts alike, a part of a text exchanged
def jdW (f g : Nat → Int32) : Prop := ∀ j : Int, 0 ≤ j → j < 1500 → jSo f j = jSo g j
def jdG (g h : Int → Int) (s e z : Int) (q : Int → Int) (n : Int) : Prop := ∀ j : Int, 0 ≤ j → j < n → h j = jdR g s e z q j
theorem jdT.y {T : Nat → Int → Int} {v n p l c kl kc vl vc r : Int} {g : Int → Int} (hl : l = jqM T v (jChT "line") 4 p) (hc : c = jqM T v (jChT "character") 9 p) (k1 : kl = jqK T v l) (k2 : kc = jqK T v c) (e1 : kl = 4) (e2 : kc = 4) (v1 : vl = jqV T v l) (v2 : vc = jqV T v c) (hr : r = jdP g n vl vc) : r = jdT T v g n p := by
  have h1 := jqK.p (T := T) (v := v) (i := l) (by omega)
  have h2 := jqK.p (T := T) (v := v) (i := c) (by omega)
  have a1 : vl = T 2 l := v1.trans (if_pos ⟨h1.1, h1.2.1⟩)
  have a2 : vc = T 2 c := v2.trans (if_pos ⟨h2.1, h2.2.1⟩)
  unfold jdT
  rw [← hl, ← hc, if_pos ⟨k1.symm.trans e1, k2.symm.trans e2⟩, ← a1, ← a2]
  exact hr
theorem jdT.n {T : Nat → Int → Int} {v n p l c : Int} {g : Int → Int} (hl : l = jqM T v (jChT "line") 4 p) (hc : c = jqM T v (jChT "character") 9 p) (h : jqK T v l ≠ 4 ∨ jqK T v c ≠ 4) : jdT T v g n p = -1 := by
  unfold jdT
  rw [← hl, ← hc, if_neg (fun q => by rcases h with h | h; exact h q.1; exact h q.2)]
theorem jdL.r {g : Int → Int} {n w : Int} : ∀ (k : Nat) (a p : Int), a ≤ n → a ≤ (jdL g n w k a p).1 ∧ (jdL g n w k a p).1 ≤ n
  | 0, a, p, h => ⟨Int.le_refl a, h⟩
  | k + 1, a, p, h => by
    by_cases q : a < n ∧ p < w
    · have e : jdL g n w (k + 1) a p = jdL g n w k (a + 1) (p + jdE g n a) := if_pos q
      have ih := jdL.r (g := g) (n := n) (w := w) k (a + 1) (p + jdE g n a) (by omega)
      rw [e]; omega
    · have e : jdL g n w (k + 1) a p = (a, p) := if_neg q
      rw [e]; exact ⟨Int.le_refl a, h⟩
theorem jdP.le {g : Int → Int} {n w c : Int} (hn : 0 ≤ n) : jdP g n w c ≤ n := by
  unfold jdP
  split
  · omega
  · split
    · omega
    · exact (jdC.r _ _ (jdL.r (g := g) (n := n) (w := w) n.toNat 0 0 hn).2).2
theorem jdT.le {T : Nat → Int → Int} {v n p : Int} {g : Int → Int} (hn : 0 ≤ n) : jdT T v g n p ≤ n := by
  unfold jdT
  split
  · exact jdP.le hn
  · omega
theorem jdS.r {T : Nat → Int → Int} {v n c r p1 p2 s e : Int} {g : Int → Int} (hr : r = jqM T v (jChT "range") 5 c) (h : 0 ≤ r) (h1 : p1 = jqM T v (jChT "start") 5 r) (h2 : p2 = jqM T v (jChT "end") 3 r) (e1 : s = jdT T v g n p1) (e2 : e = jdT T v g n p2) : jdS T v g n c = (s, e) := by
  unfold jdS
  rw [← hr, if_neg (by omega), ← h1, ← h2, ← e1, ← e2]
theorem jdO.y {T : Nat → Int → Int} {v n c x s e : Int} {g : Int → Int} (hx : x = jqM T v (jChT "text") 4 c) (hk : jqK T v x = 3) (hS : jdS T v g n c = (s, e)) (h0 : 0 ≤ s) (h1 : s ≤ e) (h2 : s + T 3 x + (n - e) ≤ 1500) : jdO T v g n c = (1, s + T 3 x + (n - e), jdR g s e (T 3 x) (fun j => jqA T v x j)) := by
  unfold jdO
  rw [← hx, hS, if_pos ⟨hk, h0, h1, h2⟩]
theorem jdO.n {T : Nat → Int → Int} {v n c x s e : Int} {g : Int → Int} (hx : x = jqM T v (jChT "text") 4 c) (hS : jdS T v g n c = (s, e)) (h : ¬ (jqK T v x = 3 ∧ 0 ≤ s ∧ s ≤ e ∧ s + T 3 x + (n - e) ≤ 1500)) : jdO T v g n c = (0, n, g) := by
  unfold jdO
  rw [← hx, hS, if_neg h]
theorem jdO.k {T : Nat → Int → Int} {v n c x : Int} {g : Int → Int} (hx : x = jqM T v (jChT "text") 4 c) (h : jqK T v x ≠ 3) : jdO T v g n c = (0, n, g) := by
  unfold jdO
  rw [← hx, if_neg (fun q => h q.1)]
def jdV (h g : Int → Int) (n : Int) : Prop := ∀ j : Int, 0 ≤ j → j < n → h j = g j
/-- what a change answers: r, the length and the text behind it -/
def jdA (T : Nat → Int → Int) (v n c : Int) (f f1 : Nat → Int32) (r n1 : Int) : Prop := (r = 1 ∧ (jdO T v (jSo f) n c).1 = 1 ∧ n1 = (jdO T v (jSo f) n c).2.1 ∧ jdV (jSo f1) (jdO T v (jSo f) n c).2.2 n1) ∨ (r = 0 ∧ (jdO T v (jSo f) n c).1 = 0)
theorem jdA.no {T : Nat → Int → Int} {v n c r n1 : Int} {f f1 : Nat → Int32} (hr : r = 0) (h : jdO T v (jSo f) n c = (0, n, jSo f)) : jdA T v n c f f1 r n1 := Or.inr ⟨hr, by rw [h]⟩
theorem jdA.of {T : Nat → Int → Int} {v n c x s e r n1 : Int} {f f1 : Nat → Int32} (hx : x = jqM T v (jChT "text") 4 c) (hk : jqK T v x = 3) (hS : jdS T v (jSo f) n c = (s, e)) (h0 : 0 ≤ s) (h1 : s ≤ e) (he : e ≤ n) (hz : 0 ≤ jqZ T v x)
    (h : (r = 1 ∧ (0 ≤ s ∧ s ≤ e ∧ e ≤ n ∧ 0 ≤ jqZ T v x ∧ jqZ T v x ≤ 1500 ∧ s + jqZ T v x + (n - e) ≤ 1500) ∧ n1 = s + jqZ T v x + (n - e) ∧ jdG (jSo f) (jSo f1) s e (jqZ T v x) (fun j => jqA T v x j) n1) ∨ (r = 0 ∧ ¬ (0 ≤ s ∧ s ≤ e ∧ e ≤ n ∧ 0 ≤ jqZ T v x ∧ jqZ T v x ≤ 1500 ∧ s + jqZ T v x + (n - e) ≤ 1500) ∧ n1 = n ∧ f1 = f)) : jdA T v n c f f1 r n1 := by
  have hp := jqK.p (T := T) (v := v) (i := x) (by omega)
  have ez : jqZ T v x = T 3 x := if_pos ⟨hp.1, hp.2.1⟩
  rw [ez] at h hz
  rcases h with ⟨a, b, d, g⟩ | ⟨a, b, -, -⟩
  · have ho := jdO.y hx hk hS h0 h1 b.2.2.2.2.2
    refine Or.inl ⟨a, by rw [ho], by rw [ho]; exact d, ?_⟩
    rw [ho]
    exact g
  · exact jdA.no a (jdO.n hx hS (fun q => b ⟨h0, h1, he, hz, by have := q.2.2.2; omega, q.2.2.2⟩))
end
section
-- p9: the open documents, by their number
theorem jdAt {x : Nat} {o : Option Nat} (h : (Value.ref x) = va_rf o) : o = some x := by
  cases o with
  | none => cases h
  | some y => cases h; rfl
def jdUl (t : jDtl) (w : jWl9) : Int → Int := fun d => match w.2.1 d.toNat with
  | some a => t.ul a
  | none => 0
def jdUx (t : jDtl) (w : jWl9) : Int → Int → Int := fun d => match w.2.1 d.toNat with
  | some a => jSo (t.ux a)
  | none => fun _ => 0
def jdVe (t : jDtl) (w : jWl9) : Int → Int := fun d => match w.2.1 d.toNat with
  | some a => (t.ve a).toInt
  | none => 0
def jdLn (t : jDtl) (w : jWl9) : Int → Int := fun d => match w.2.1 d.toNat with
  | some a => (t.ln a).toInt
  | none => 0
def jdTx (t : jDtl) (w : jWl9) : Int → Int → Int := fun d => match w.2.1 d.toNat with
  | some a => jSo (t.tx a)
  | none => fun _ => 0
theorem jdUl.at {t : jDtl} {w : jWl9} {d : Int} {x : Nat} (h : w.2.1 d.toNat = some x) : jdUl t w d = t.ul x := by unfold jdUl; rw [h]
theorem jdUx.at {t : jDtl} {w : jWl9} {d : Int} {x : Nat} (h : w.2.1 d.toNat = some x) : jdUx t w d = jSo (t.ux x) := by unfold jdUx; rw [h]
theorem jdVe.at {t : jDtl} {w : jWl9} {d : Int} {x : Nat} (h : w.2.1 d.toNat = some x) : jdVe t w d = (t.ve x).toInt := by unfold jdVe; rw [h]
theorem jdLn.at {t : jDtl} {w : jWl9} {d : Int} {x : Nat} (h : w.2.1 d.toNat = some x) : jdLn t w d = (t.ln x).toInt := by unfold jdLn; rw [h]
theorem jdTx.at {t : jDtl} {w : jWl9} {d : Int} {x : Nat} (h : w.2.1 d.toNat = some x) : jdTx t w d = jSo (t.tx x) := by unfold jdTx; rw [h]
theorem jdUr.of {T : Nat → Int → Int} {v a b c z : Int} (hz : z = 0) (h1 : a = jqM T v (jChT "params") 6 z) (h2 : b = jqM T v (jChT "textDocument") 12 a) (h3 : c = jqM T v (jChT "uri") 3 b) : c = jdUr T v := by
  subst hz h1 h2 h3
  rfl
/-- the document of a number -/
def jdRf (w : jWl9) (d : Int) : Value := if d < 0 then .null else va_rf (w.2.1 d.toNat)
def jdLi (c : Int) (e : Nat → Option Nat) (h : Nat → jdD) : Int → jdD := fun d => if 0 ≤ d ∧ d < c then (match e d.toNat with
  | some a => h a
  | none => jdDz) else jdDz
theorem jdLi.at {c d : Int} {e : Nat → Option Nat} {h : Nat → jdD} {a : Nat} (h0 : 0 ≤ d) (h1 : d < c) (he : e d.toNat = some a) : jdLi c e h d = h a := by
  unfold jdLi
  rw [if_pos ⟨h0, h1⟩, he]
theorem jdLi.out {c d : Int} {e : Nat → Option Nat} {h : Nat → jdD} (h1 : d < 0 ∨ c ≤ d) : jdLi c e h d = jdDz := if_neg (fun q => by omega)
/-- only the documents that stand in it matter -/
theorem jdLi.cg {c : Int} {e e1 : Nat → Option Nat} {h h1 : Nat → jdD} (he : ∀ i : Nat, (i : Int) < c → e1 i = e i) (hh : ∀ (i a : Nat), (i : Int) < c → e i = some a → h1 a = h a) : jdLi c e1 h1 = jdLi c e h := by
  funext d
  by_cases w : 0 ≤ d ∧ d < c
  · unfold jdLi
    rw [if_pos w, if_pos w, he d.toNat (by omega)]
    cases q : e d.toNat with
    | none => rfl
    | some a => exact hh d.toNat a (by omega) q
  · rw [jdLi.out (by omega), jdLi.out (by omega)]
theorem jdLi.opn {c c1 : Int} {e e1 : Nat → Option Nat} {h h1 : Nat → jdD} {x : Nat} {X : jdD} (hc0 : 0 ≤ c) (hc : c1 = c + 1) (he : ∀ i : Nat, (i : Int) < c → e1 i = e i) (hx : e1 c.toNat = some x) (hX : h1 x = X) (hh : ∀ (i a : Nat), (i : Int) < c → e i = some a → h1 a = h a) : jdLi c1 e1 h1 = jdUp (jdLi c e h) c X := by
  subst hc
  funext d
  unfold jdUp
  by_cases q : d = c
  · subst q
    rw [if_pos rfl, jdLi.at hc0 (by omega) hx, hX]
  · rw [if_neg q, ← jdLi.cg he hh]
    by_cases w : 0 ≤ d ∧ d < c
    · unfold jdLi
      rw [if_pos w, if_pos ⟨w.1, by omega⟩]
    · rw [jdLi.out (by omega), jdLi.out (by omega)]
theorem jdLi.chg {c d : Int} {e : Nat → Option Nat} {h h1 : Nat → jdD} {x : Nat} {X : jdD} (h0 : 0 ≤ d) (hd : d < c) (hx : e d.toNat = some x) (hX : h1 x = X) (hi : ∀ i : Nat, (i : Int) < c → e i = some x → i = d.toNat) (hh : ∀ (i a : Nat), (i : Int) < c → e i = some a → a ≠ x → h1 a = h a) : jdLi c e h1 = jdUp (jdLi c e h) d X := by
  funext k
  unfold jdUp
  by_cases q : k = d
  · subst q
    rw [if_pos rfl, jdLi.at h0 hd hx, hX]
  · rw [if_neg q]
    by_cases w : 0 ≤ k ∧ k < c
    · unfold jdLi
      rw [if_pos w, if_pos w]
      cases g : e k.toNat with
      | none => rfl
      | some a => exact hh k.toNat a (by omega) g (fun z => by
          subst z
          have := hi k.toNat (by omega) g
          omega)
    · rw [jdLi.out (by omega), jdLi.out (by omega)]
theorem jdLi.cls {c c1 d : Int} {e e1 : Nat → Option Nat} {h : Nat → jdD} (h0 : 0 ≤ d) (hd : d < c) (hc : c1 = c - 1) (h1 : ∀ i : Nat, (i : Int) < d → e1 i = e i) (h2 : ∀ i : Nat, d ≤ (i : Int) → (i : Int) < c1 → e1 i = e (i + 1)) : jdLi c1 e1 h = jdDn (jdLi c e h) d := by
  subst hc
  funext k
  unfold jdDn
  by_cases w : k < d
  · rw [if_pos w]
    by_cases w0 : 0 ≤ k
    · unfold jdLi
      rw [if_pos ⟨w0, by omega⟩, if_pos ⟨w0, by omega⟩, h1 k.toNat (by omega)]
    · rw [jdLi.out (by omega), jdLi.out (by omega)]
  · rw [if_neg w]
    by_cases w0 : k < c - 1
    · unfold jdLi
      rw [if_pos ⟨by omega, w0⟩, if_pos ⟨by omega, by omega⟩, h2 k.toNat (by omega) (by omega), show (k + 1).toNat = k.toNat + 1 by omega]
    · rw [jdLi.out (by omega), jdLi.out (by omega)]
/-- one document of the class, one of the reference -/
def jdC1 (t : jDtl) (a : Nat) : jdD := ((t.ve a).toInt, (t.ln a).toInt, jdKp (t.ln a).toInt (jSo (t.tx a)), ((t.ul a : Nat) : Int), jdKp ((t.ul a : Nat) : Int) (jSo (t.ux a)))
def jdR1 (t : jDtr) (a : Nat) : jdD := ((t.ve a).toInt, (t.ln a).toInt, jdKp (t.ln a).toInt (jSo (t.tx a)), (t.ul a).toInt, jdKp (t.ul a).toInt (jSo (t.ux a)))
def jdCs (t : jDtl) (w : jWl9) : Int × (Int → jdD) := (w.1, jdLi w.1 w.2.1 (jdC1 t))
def jdRs (t : jDtr) (e : Nat → Option Nat) (c : Int) : Int × (Int → jdD) := (c, jdLi c e (jdR1 t))
theorem jdKp.cg {n : Int} {g h : Int → Int} (hv : ∀ j : Int, 0 ≤ j → j < n → g j = h j) : jdKp n g = jdKp n h := by
  funext j
  unfold jdKp
  by_cases w : 0 ≤ j ∧ j < n
  · rw [if_pos w, if_pos w, hv j w.1 w.2]
  · rw [if_neg w, if_neg w]
theorem jdKp.at {n j : Int} {g : Int → Int} (h0 : 0 ≤ j) (h1 : j < n) : jdKp n g j = g j := if_pos ⟨h0, h1⟩
theorem jdKp.v {n : Int} {g : Int → Int} : ∀ j : Int, 0 ≤ j → j < n → jdKp n g j = g j := fun _ h0 h1 => if_pos ⟨h0, h1⟩
theorem jqEl.cg {T : Nat → Int → Int} {v i : Int} {g h : Int → Int} : ∀ n : Nat, (∀ j : Int, 0 ≤ j → j < n → g j = h j) → jqEl T v i g n = jqEl T v i h n
  | 0, _ => rfl
  | n + 1, hv => by
    show (if jqA T v i n = g n then jqEl T v i g n else 0) = (if jqA T v i n = h n then jqEl T v i h n else 0)
    rw [hv n (by omega) (by omega), jqEl.cg n (fun j h0 h1 => hv j h0 (by omega))]
theorem jqE.cg {T : Nat → Int → Int} {v i n : Int} {g h : Int → Int} (hv : ∀ j : Int, 0 ≤ j → j < n → g j = h j) : jqE T v i g n = jqE T v i h n := by
  unfold jqE
  by_cases w : 0 ≤ n
  · rw [jqEl.cg n.toNat (fun j h0 h1 => hv j h0 (by omega))]
  · have e : n.toNat = 0 := by omega
    rw [e]
    rfl
theorem jdF.cg {T : Nat → Int → Int} {v i : Int} {ul ul1 : Int → Int} {ur ur1 : Int → Int → Int} : ∀ (k : Nat) (d : Int), (∀ x : Int, d ≤ x → x < d + k → jqE T v i (ur x) (ul x) = jqE T v i (ur1 x) (ul1 x)) → jdF T v i ul ur k d = jdF T v i ul1 ur1 k d
  | 0, _, _ => rfl
  | k + 1, d, h => by
    show (if jqE T v i (ur d) (ul d) = 1 then d else jdF T v i ul ur k (d + 1)) = (if jqE T v i (ur1 d) (ul1 d) = 1 then d else jdF T v i ul1 ur1 k (d + 1))
    rw [h d (by omega) (by omega), jdF.cg k (d + 1) (fun x h0 h1 => h x (by omega) (by omega))]
theorem jdF.r {T : Nat → Int → Int} {v i : Int} {ul : Int → Int} {ur : Int → Int → Int} : ∀ (k : Nat) (d : Int), jdF T v i ul ur k d = -1 ∨ (d ≤ jdF T v i ul ur k d ∧ jdF T v i ul ur k d < d + k)
  | 0, _ => Or.inl rfl
  | k + 1, d => by
    by_cases w : jqE T v i (ur d) (ul d) = 1
    · rw [show jdF T v i ul ur (k + 1) d = d from if_pos w]; exact Or.inr ⟨Int.le_refl d, by omega⟩
    · rw [show jdF T v i ul ur (k + 1) d = jdF T v i ul ur k (d + 1) from if_neg w]
      rcases jdF.r (T := T) (v := v) (i := i) (ul := ul) (ur := ur) k (d + 1) with h | ⟨h, h1⟩
      · exact Or.inl h
      · exact Or.inr ⟨by omega, by omega⟩
theorem jdWh.r {T : Nat → Int → Int} {v c : Int} {F : Int → jdD} (hc : 0 ≤ c) : jdWh T v c F = -1 ∨ (0 ≤ jdWh T v c F ∧ jdWh T v c F < c) := by
  rcases jdF.r (T := T) (v := v) (i := jdUr T v) (ul := fun d => (F d).2.2.2.1) (ur := fun d => (F d).2.2.2.2) c.toNat 0 with h | ⟨h, h1⟩
  · exact Or.inl h
  · exact Or.inr ⟨h, by show jdF T v (jdUr T v) (fun d => (F d).2.2.2.1) (fun d => (F d).2.2.2.2) c.toNat 0 < c; omega⟩
/-- the class looks it up so -/
theorem jdWh.c {T : Nat → Int → Int} {v : Int} {t : jDtl} {w : jWl9} (he : ∀ i : Nat, (i : Int) < w.1 → ∃ a, w.2.1 i = some a) : jdF T v (jdUr T v) (jdUl t w) (jdUx t w) w.1.toNat 0 = jdWh T v (jdCs t w).1 (jdCs t w).2 := by
  refine jdF.cg w.1.toNat 0 (fun x h0 h1 => ?_)
  obtain ⟨a, ha⟩ := he x.toNat (by omega)
  have e : (jdCs t w).2 x = jdC1 t a := jdLi.at h0 (by omega) ha
  show jqE T v (jdUr T v) (jdUx t w x) (jdUl t w x) = jqE T v (jdUr T v) ((jdCs t w).2 x).2.2.2.2 ((jdCs t w).2 x).2.2.2.1
  rw [e, jdUx.at ha, jdUl.at ha]
  exact (jqE.cg (g := jdKp ((t.ul a : Nat) : Int) (jSo (t.ux a))) (h := jSo (t.ux a)) jdKp.v).symm
end
section
-- p9: a change looks only at the units below the length
theorem jdE.cg {g h : Int → Int} {n a : Int} (hv : jdV g h n) (h0 : 0 ≤ a) (h1 : a < n) : jdE g n a = jdE h n a := by
  have e := hv a h0 h1
  unfold jdE
  by_cases w : a + 1 < n
  · rw [e, hv (a + 1) (by omega) w]
  · rw [e]
    have k : ∀ x : Int → Int, (h a = 10 ∨ (h a = 13 ∧ ¬ (a + 1 < n ∧ x (a + 1) = 10))) ↔ (h a = 10 ∨ h a = 13) := fun x => ⟨fun q => q.elim Or.inl (fun z => Or.inr z.1), fun q => q.elim Or.inl (fun z => Or.inr ⟨z, fun y => w y.1⟩)⟩
    by_cases q : h a = 10 ∨ h a = 13
    · rw [if_pos ((k g).mpr q), if_pos ((k h).mpr q)]
    · rw [if_neg (fun z => q ((k g).mp z)), if_neg (fun z => q ((k h).mp z))]
theorem jdL.cg {g h : Int → Int} {n w : Int} (hv : jdV g h n) : ∀ (k : Nat) (a p : Int), 0 ≤ a → jdL g n w k a p = jdL h n w k a p
  | 0, a, p, _ => rfl
  | k + 1, a, p, h0 => by
    by_cases q : a < n ∧ p < w
    · have e1 : jdL g n w (k + 1) a p = jdL g n w k (a + 1) (p + jdE g n a) := if_pos q
      have e2 : jdL h n w (k + 1) a p = jdL h n w k (a + 1) (p + jdE h n a) := if_pos q
      rw [e1, e2, jdE.cg hv h0 q.1]
      exact jdL.cg hv k (a + 1) _ (by omega)
    · have e1 : jdL g n w (k + 1) a p = (a, p) := if_neg q
      have e2 : jdL h n w (k + 1) a p = (a, p) := if_neg q
      rw [e1, e2]
theorem jdC.cg {g h : Int → Int} {n f c : Int} (hv : jdV g h n) : ∀ (k : Nat) (a : Int), 0 ≤ a → jdC g n f c k a = jdC h n f c k a
  | 0, a, _ => rfl
  | k + 1, a, h0 => by
    by_cases q : a < n
    · have e := hv a h0 q
      by_cases q1 : a < n ∧ a - f < c ∧ g a ≠ 10 ∧ g a ≠ 13
      · have e1 : jdC g n f c (k + 1) a = jdC g n f c k (a + 1) := if_pos q1
        have e2 : jdC h n f c (k + 1) a = jdC h n f c k (a + 1) := if_pos (by rw [← e]; exact q1)
        rw [e1, e2]
        exact jdC.cg hv k (a + 1) (by omega)
      · have e1 : jdC g n f c (k + 1) a = a := if_neg q1
        have e2 : jdC h n f c (k + 1) a = a := if_neg (by rw [← e]; exact q1)
        rw [e1, e2]
    · have e1 : jdC g n f c (k + 1) a = a := if_neg (fun z => q z.1)
      have e2 : jdC h n f c (k + 1) a = a := if_neg (fun z => q z.1)
      rw [e1, e2]
theorem jdP.cg {g h : Int → Int} {n w c : Int} (hv : jdV g h n) (hn : 0 ≤ n) : jdP g n w c = jdP h n w c := by
  unfold jdP
  rw [jdL.cg hv n.toNat 0 0 (Int.le_refl 0), jdC.cg hv n.toNat _ (jdL.r (g := h) (n := n) (w := w) n.toNat 0 0 hn).1]
theorem jdT.cg {T : Nat → Int → Int} {v n p : Int} {g h : Int → Int} (hv : jdV g h n) (hn : 0 ≤ n) : jdT T v g n p = jdT T v h n p := by
  unfold jdT
  rw [jdP.cg hv hn]
theorem jdS.cg {T : Nat → Int → Int} {v n c : Int} {g h : Int → Int} (hv : jdV g h n) (hn : 0 ≤ n) : jdS T v g n c = jdS T v h n c := by
  unfold jdS
  rw [jdT.cg (p := jqM T v (jChT "start") 5 (jqM T v (jChT "range") 5 c)) hv hn, jdT.cg (p := jqM T v (jChT "end") 3 (jqM T v (jChT "range") 5 c)) hv hn]
theorem jdS.le {T : Nat → Int → Int} {v n c : Int} {g : Int → Int} (hn : 0 ≤ n) : (jdS T v g n c).2 ≤ n := by
  unfold jdS
  split
  · exact Int.le_refl n
  · exact jdT.le hn
theorem jdR.cg {g h : Int → Int} {n s e z : Int} {q : Int → Int} (hv : jdV g h n) (h0 : 0 ≤ s) (h1 : s ≤ e) (h2 : e ≤ n) : jdV (jdR g s e z q) (jdR h s e z q) (s + z + (n - e)) := fun j j0 j1 => by
  unfold jdR
  by_cases w : j < s
  · rw [if_pos w, if_pos w]; exact hv j j0 (by omega)
  · by_cases w1 : j < s + z
    · rw [if_neg w, if_neg w, if_pos w1, if_pos w1]
    · rw [if_neg w, if_neg w, if_neg w1, if_neg w1]; exact hv _ (by omega) (by omega)
theorem jdO.cg {T : Nat → Int → Int} {v n c : Int} {g h : Int → Int} (hv : jdV g h n) (hn : 0 ≤ n) : (jdO T v g n c).1 = (jdO T v h n c).1 ∧ (jdO T v g n c).2.1 = (jdO T v h n c).2.1 ∧ jdV (jdO T v g n c).2.2 (jdO T v h n c).2.2 (jdO T v h n c).2.1 := by
  have hs := jdS.le (T := T) (v := v) (c := c) (g := h) hn
  unfold jdO
  rw [jdS.cg hv hn]
  split
  · rename_i w
    exact ⟨rfl, rfl, jdR.cg hv w.2.1 w.2.2.1 hs⟩
  · exact ⟨rfl, rfl, hv⟩
theorem jdO.nn {T : Nat → Int → Int} {v n c : Int} {g : Int → Int} (hn : 0 ≤ n) (hT : ∀ x, jqK T v x = 3 → 0 ≤ T 3 x) : 0 ≤ (jdO T v g n c).2.1 := by
  have hs := jdS.le (T := T) (v := v) (c := c) (g := g) hn
  unfold jdO
  split
  · rename_i w
    have h3 := hT _ w.1
    have h4 := w.2.1
    show 0 ≤ (jdS T v g n c).1 + _ + (n - (jdS T v g n c).2)
    omega
  · exact hn
theorem jdCh.cg {T : Nat → Int → Int} {v : Int} (hT : ∀ x, jqK T v x = 3 → 0 ≤ T 3 x) : ∀ (k : Nat) (c n : Int) (g h : Int → Int), 0 ≤ n → jdV g h n → (jdCh T v k c n g).1 = (jdCh T v k c n h).1 ∧ (jdCh T v k c n g).2.1 = (jdCh T v k c n h).2.1 ∧ jdV (jdCh T v k c n g).2.2 (jdCh T v k c n h).2.2 (jdCh T v k c n h).2.1
  | 0, c, n, g, h, _, hv => ⟨rfl, rfl, hv⟩
  | k + 1, c, n, g, h, hn, hv => by
    obtain ⟨a1, a2, a3⟩ := jdO.cg (T := T) (v := v) (c := c) hv hn
    by_cases q : (jdO T v g n c).1 = 1
    · have e1 : jdCh T v (k + 1) c n g = jdCh T v k (T 4 c) (jdO T v g n c).2.1 (jdO T v g n c).2.2 := if_pos q
      have e2 : jdCh T v (k + 1) c n h = jdCh T v k (T 4 c) (jdO T v h n c).2.1 (jdO T v h n c).2.2 := if_pos (a1 ▸ q)
      rw [e1, e2, a2]
      exact jdCh.cg hT k (T 4 c) _ _ _ (jdO.nn hn hT) a3
    · have e1 : jdCh T v (k + 1) c n g = (0, n, g) := if_neg q
      have e2 : jdCh T v (k + 1) c n h = (0, n, h) := if_neg (a1 ▸ q)
      rw [e1, e2]
      exact ⟨rfl, rfl, hv⟩
/-- k changes are left, from c on: they make of this text what all make of the first one -/
def jdJ (T : Nat → Int → Int) (v : Int) (k : Nat) (c n : Int) (f : Nat → Int32) (R : Int × Int × (Int → Int)) : Prop := (jdCh T v k c n (jSo f)).1 = R.1 ∧ (jdCh T v k c n (jSo f)).2.1 = R.2.1 ∧ jdV (jdCh T v k c n (jSo f)).2.2 R.2.2 R.2.1
/-- one can't be made: none of all is -/
theorem jdJ.n {T : Nat → Int → Int} {v c n n1 r : Int} {k : Nat} {f f1 : Nat → Int32} {R : Int × Int × (Int → Int)} (h : jdJ T v k c n f R) (hk : 0 < k) (ha : jdA T v n c f f1 r n1) (hr : r = 0) : R.1 = 0 := by
  rcases ha with ⟨q, -⟩ | ⟨-, b⟩
  · omega
  · cases k with
    | zero => omega
    | succ k =>
      have e1 : jdCh T v (k + 1) c n (jSo f) = (0, n, jSo f) := if_neg (by rw [b]; decide)
      rw [← h.1, e1]
/-- all changes of a text, whatever lies behind its end -/
theorem jdNew.cg {T : Nat → Int → Int} {v n : Int} {g h : Int → Int} {k : Nat} {c : Int} (hT : ∀ x, jqK T v x = 3 → 0 ≤ T 3 x) (hn : 0 ≤ n) (hv : jdV g h n) : (jdCh T v k c n g).1 = (jdCh T v k c n h).1 ∧ (jdCh T v k c n g).2.1 = (jdCh T v k c n h).2.1 ∧ jdKp (jdCh T v k c n g).2.1 (jdCh T v k c n g).2.2 = jdKp (jdCh T v k c n h).2.1 (jdCh T v k c n h).2.2 := by
  obtain ⟨a, b, d⟩ := jdCh.cg hT k c n g h hn hv
  exact ⟨a, b, by rw [b]; exact jdKp.cg d⟩
end
section
-- StringBuilder with contents
section JX1
variable {p : Program} {l : Launch} {e : Env} {R : Room} {s : State} {m : MethodId} {args : Array Value} {below : List Frame} {meth : Method} {c : Code} {H : Heap} {locs : List Loc} {cells slots : Nat} {Q : State → Prop}
variable {cc : ByteArray} {pc : Nat} {ls : Array Slot} {rest : List Value} {dC : Nat → ClassId} {dI : Nat → Nat → Nat} {ca : Nat → ClassId} {B : jF} {base : Nat} {G0 G : jT} {E : List (Nat × Nat)} {H0 : Heap} {zc zs : Nat} {L : List jPin} {M : List jCt} {I : List jIv} {a k n : Nat} {cA : ClassId} {tys : List (ClassId × FieldType)}
end JX1
/-- the bytes below n stay -/
def jSbc (f g : Nat → Int32) (n : Nat) : Prop := ∀ j : Nat, j < n → g j = f j
/-- c is put behind the first n -/
def jSbA (f g : Nat → Int32) (n c : Int) : Prop := (∀ j : Nat, (j : Int) < n → g j = f j) ∧ (jCv (g n.toNat)).toInt = c
theorem jSbA.of {f g g1 : Nat → Int32} {n c : Int} {m : Nat} (h : jSbc f g m) (hm : n ≤ m) (h0 : 0 ≤ n) (h1 : (jCv (g1 n.toNat)).toInt = c) (h2 : ∀ j : Nat, (j : Int) < n → j ≠ n.toNat → g1 j = g j) : jSbA f g1 n c := ⟨fun j hj => (h2 j hj (by omega)).trans (h j (by omega)), h1⟩
end
section
-- p9: headers as the reference reads them
def jfCe (f : Nat → Int32) : Nat → Int
  | 0 => 1
  | k + 1 => if jfSm (jCv (f k)).toInt = jfC (k : Int) then jfCe f k else 0
theorem jfCe.r (f : Nat → Int32) (n : Nat) : jfCe f n = 0 ∨ jfCe f n = 1 := by
  induction n with
  | zero => exact Or.inr rfl
  | succ n ih =>
    have e : jfCe f (n + 1) = if jfSm (jCv (f n)).toInt = jfC (n : Int) then jfCe f n else 0 := rfl
    rw [e]; split
    · exact ih
    · exact Or.inl rfl
theorem jfCe.cg {f g : Nat → Int32} : ∀ n : Nat, (∀ j : Nat, j < n → g j = f j) → jfCe g n = jfCe f n
  | 0, _ => rfl
  | n + 1, h => by
    show (if jfSm (jCv (g n)).toInt = jfC (n : Int) then jfCe g n else 0) = (if jfSm (jCv (f n)).toInt = jfC (n : Int) then jfCe f n else 0)
    rw [h n (by omega), jfCe.cg n (fun j hj => h j (by omega))]
/-- whether the name so far is like the wanted one; whether it is that one -/
def jfNe (f : Nat → Int32) (n : Int) : Int := if n ≤ 14 then jfCe f n.toNat else 0
def jfCl (f : Nat → Int32) (n : Int) : Int := if n = 14 then jfCe f 14 else 0
theorem jfNe.put {f g : Nat → Int32} {n n1 c : Int} (h : jSbA f g n c) (h0 : 0 ≤ n) (e : n1 = n + 1) : jfNe g n1 = jfLn (jfNe f n) n (jfSm c) := by
  subst e
  obtain ⟨h1, h2⟩ := h
  have hc := jfCe.cg n.toNat (fun j hj => h1 j (by omega))
  have hr := jfCe.r f n.toNat
  unfold jfNe jfLn
  by_cases w : n < 14
  · rw [if_pos (show n + 1 ≤ 14 by omega), if_pos (show n ≤ 14 by omega), show (n + 1).toNat = n.toNat + 1 by omega]
    show (if jfSm (jCv (g n.toNat)).toInt = jfC ((n.toNat : Nat) : Int) then jfCe g n.toNat else 0) = _
    rw [h2, hc, show ((n.toNat : Nat) : Int) = n by omega]
    by_cases q : jfSm c = jfC n
    · rw [if_pos q]
      rcases hr with hr | hr
      · rw [hr, if_neg (by omega)]
      · rw [hr, if_pos ⟨rfl, w, q.symm⟩]
    · rw [if_neg q, if_neg (fun z => q z.2.2.symm)]
  · rw [if_neg (show ¬ n + 1 ≤ 14 by omega), if_neg (fun z => w z.2.1)]
theorem jfCl.of {f : Nat → Int32} {n : Int} : (jfNe f n = 1 ∧ n = 14 ∧ jfCl f n = 1) ∨ ((jfNe f n ≠ 1 ∨ n ≠ 14) ∧ jfCl f n = 0) := by
  unfold jfNe jfCl
  by_cases w : n = 14
  · subst w
    rw [if_pos (by omega), if_pos rfl]
    rcases jfCe.r f 14 with h | h
    · exact Or.inr ⟨Or.inl (by show ¬ jfCe f 14 = 1; omega), h⟩
    · exact Or.inl ⟨h, rfl, h⟩
  · rw [if_neg w]; exact Or.inr ⟨Or.inr w, rfl⟩
theorem jfCl.cg {f g : Nat → Int32} {n : Int} (h : ∀ j : Nat, (j : Int) < n → g j = f j) : jfCl g n = jfCl f n := by
  unfold jfCl
  by_cases w : n = 14
  · rw [if_pos w, if_pos w, jfCe.cg 14 (fun j hj => h j (by omega))]
  · rw [if_neg w, if_neg w]
theorem jNm.cg {f g : Nat → Int32} : ∀ n : Nat, (∀ j : Nat, j < n → g j = f j) → jNm g n = jNm f n
  | 0, _ => rfl
  | n + 1, h => by
    show 10 * jNm g n + ((jCv (g n)).toInt - 48) = 10 * jNm f n + ((jCv (f n)).toInt - 48)
    rw [h n (by omega), jNm.cg n (fun j hj => h j (by omega))]
/-- the reference's numbers and builders, as the state X tells them -/
def jfRe (X : Nat → Int) (m h l b : Int) (fn : Nat → Int32) (cn : Int) (fv : Nat → Int32) (cv : Int) : Prop := X 2 = l ∧ ((X 1 = 6 ∧ m = 6 ∧ b = X 8) ∨ (X 3 = h ∧ X 8 = 0 ∧ ((X 1 = 0 ∧ m = 0) ∨ (X 1 = 1 ∧ m = 1 ∧ X 4 = cn ∧ X 5 = jfNe fn cn ∧ cv = 0) ∨ (X 1 = 2 ∧ (m = 2 ∨ m = 3) ∧ jfCl fn cn = 0) ∨ (X 1 = 3 ∧ ((m = 2 ∧ cv = 0) ∨ (m = 3 ∧ 1 ≤ cv)) ∧ jfCl fn cn = 1 ∧ X 6 = cv ∧ X 7 = jNm fv cv.toNat ∧ jDg fv cv ∧ cv ≤ 4 ∧ jNm fv cv.toNat ≤ 3000) ∨ (X 1 = 4 ∧ m = 4) ∨ (X 1 = 5 ∧ m = 5))))
section
variable {X : Nat → Int} {m h l b cn cv c r qm qh ql qb qn qv : Int} {fn fv gn gv : Nat → Int32}
theorem jfHd.a1 (h1 : X 1 = 1) : jfHd X c = jfIn X c := by unfold jfHd; rw [if_neg (by omega), if_pos h1]
theorem jfOk.of {s r : Int} (h : (s = 45 ∨ (97 ≤ s ∧ s ≤ 122)) ∧ r = 1 ∨ (s ≠ 45 ∧ (s < 97 ∨ 122 < s)) ∧ r = 0) : jfOk s = r := by
  unfold jfOk
  rcases h with ⟨h, e⟩ | ⟨h, e⟩
  · rw [if_pos h, e]
  · rw [if_neg (by omega), e]
theorem jfSm.k (u : Int) : (65 ≤ u ∧ u ≤ 90 ∧ jfSm u = u + 32) ∨ ((u < 65 ∨ 90 < u) ∧ jfSm u = u) := by unfold jfSm; split <;> omega
theorem jfOk.lt {c r : Int} (h0 : 0 ≤ c) (h : ((97 ≤ c ∧ c ≤ 122) ∨ (65 ≤ c ∧ c ≤ 90) ∨ c = 45) ∧ r = 1 ∨ ((c < 97 ∨ 122 < c) ∧ (c < 65 ∨ 90 < c) ∧ c ≠ 45) ∧ r = 0) : jfOk (jfSm c) = r := by
  have hk := jfSm.k c
  exact jfOk.of (by omega)
end
end
section
-- p9: the open documents of the class: what holds of them, how they change
/-- lengths, the elements of the list, which are pairwise different -/
def jdIv (t : jDtl) (w : jWl9) : Prop := (∀ a, 0 ≤ (t.ln a).toInt ∧ (t.ln a).toInt ≤ 1500) ∧ (∀ i : Nat, (i : Int) < w.1 → ∃ a, w.2.1 i = some a) ∧ (∀ i j : Nat, (i : Int) < w.1 → (j : Int) < w.1 → w.2.1 i = w.2.1 j → i = j) ∧ 0 ≤ w.1
/-- a new document -/
def jDnw (t t1 : jDtl) (a : Nat) : Prop := ∃ f g : Nat → Int32, t1 = t.put a 0 0 f 0 g
theorem jDtl.put_ln (t : jDtl) (a : Nat) (v l : Int32) (f : Nat → Int32) (u : Nat) (g : Nat → Int32) : (t.put a v l f u g).ln = jUf t.ln a l := rfl
theorem jdC1.put_s (t : jDtl) (a : Nat) (v l : Int32) (f : Nat → Int32) (u : Nat) (g : Nat → Int32) : jdC1 (t.put a v l f u g) a = (v.toInt, l.toInt, jdKp l.toInt (jSo f), ((u : Nat) : Int), jdKp ((u : Nat) : Int) (jSo g)) := by
  show ((jUf t.ve a v a).toInt, (jUf t.ln a l a).toInt, jdKp (jUf t.ln a l a).toInt (jSo (jUf t.tx a f a)), ((jUf t.ul a u a : Nat) : Int), jdKp ((jUf t.ul a u a : Nat) : Int) (jSo (jUf t.ux a g a))) = _
  rw [jUf_s, jUf_s, jUf_s, jUf_s, jUf_s]
theorem jdC1.put_n (t : jDtl) {a b : Nat} (v l : Int32) (f : Nat → Int32) (u : Nat) (g : Nat → Int32) (h : b ≠ a) : jdC1 (t.put a v l f u g) b = jdC1 t b := by
  show ((jUf t.ve a v b).toInt, (jUf t.ln a l b).toInt, jdKp (jUf t.ln a l b).toInt (jSo (jUf t.tx a f b)), ((jUf t.ul a u b : Nat) : Int), jdKp ((jUf t.ul a u b : Nat) : Int) (jSo (jUf t.ux a g b))) = _
  rw [jUf_n _ _ h, jUf_n _ _ h, jUf_n _ _ h, jUf_n _ _ h, jUf_n _ _ h]
  rfl
theorem jdIv.ln {t : jDtl} {w w1 : jWl9} (h : jdIv t w) {a : Nat} {v l : Int32} {f : Nat → Int32} {u : Nat} {g : Nat → Int32} (h0 : 0 ≤ l.toInt) (h1 : l.toInt ≤ 1500) : ∀ b, 0 ≤ ((t.put a v l f u g).ln b).toInt ∧ ((t.put a v l f u g).ln b).toInt ≤ 1500 := fun b => by
  rw [jDtl.put_ln]
  by_cases e : b = a
  · subst e; rw [jUf_s]; exact ⟨h0, h1⟩
  · rw [jUf_n _ _ e]; exact h.1 b
/-- a document that is not listed may change -/
theorem jdIv.put {t : jDtl} {w : jWl9} (h : jdIv t w) {a : Nat} {v l : Int32} {f : Nat → Int32} {u : Nat} {g : Nat → Int32} (h0 : 0 ≤ l.toInt) (h1 : l.toInt ≤ 1500) : jdIv (t.put a v l f u g) w := ⟨h.ln (w1 := w) h0 h1, h.2⟩
theorem jdCs.put {t : jDtl} {w : jWl9} {a : Nat} {v l : Int32} {f : Nat → Int32} {u : Nat} {g : Nat → Int32} (hn : ∀ i : Nat, (i : Int) < w.1 → w.2.1 i ≠ some a) : jdCs (t.put a v l f u g) w = jdCs t w := by
  unfold jdCs
  rw [jdLi.cg (e := w.2.1) (h := jdC1 t) (fun i _ => rfl) (fun i b hi hb => jdC1.put_n t v l f u g (fun q => hn i hi (by rw [hb, q])))]
theorem jDnw.iv {t t1 : jDtl} {w : jWl9} {a : Nat} (h : jDnw t t1 a) (hI : jdIv t w) : jdIv t1 w := by
  obtain ⟨f, g, rfl⟩ := h
  exact hI.put (by decide) (by decide)
theorem jLs.nn {dC : Nat → ClassId} {dI : Nat → Nat → Nat} {ca : Nat → ClassId} {G : jT} {k a : Nat} {w : jWl9} {H : Heap} (h : jLs dC dI ca G k none w H) (ha : G a = some (1, 1)) : ∀ i : Nat, (i : Int) < w.1 → ∃ b, w.2.1 i = some b := fun i hi => by
  obtain ⟨z, x, -, -, h3, h4⟩ := h.at ha
  rcases h4 with ⟨-, -, g3, -⟩ | ⟨m, f, g1, -, g3, g4, g5, g6, -⟩
  · have := g3 rfl
    omega
  · obtain ⟨e1, e2⟩ := g6 rfl
    have hz : (i : Int) < z.toInt := by omega
    have h9 := g5 i hz
    rw [e2 i hz] at h9
    cases q : w.2.1 i with
    | none => exact absurd q h9
    | some b => exact ⟨b, rfl⟩
/-- which document is meant -/
theorem jdRf.n {w : jWl9} {d : Int} (he : ∀ i : Nat, (i : Int) < w.1 → ∃ a, w.2.1 i = some a) (h1 : d < w.1) (h : (Value.null) = jdRf w d) : d < 0 := by
  unfold jdRf at h
  by_cases q : d < 0
  · exact q
  · rw [if_neg q] at h
    obtain ⟨a, ha⟩ := he d.toNat (by omega)
    rw [ha] at h
    cases h
theorem jdRf.y {w : jWl9} {d : Int} {x : Nat} (h : (Value.ref x) = jdRf w d) : 0 ≤ d ∧ w.2.1 d.toNat = some x := by
  unfold jdRf at h
  by_cases q : d < 0
  · rw [if_pos q] at h; cases h
  · rw [if_neg q] at h
    exact ⟨by omega, jdAt h⟩
/-- the number that the class finds -/
theorem jdWh.n {T : Nat → Int → Int} {v : Int} {t : jDtl} {w : jWl9} (hI : jdIv t w) (h : (Value.null) = jdRf w (jdF T v (jdUr T v) (jdUl t w) (jdUx t w) w.1.toNat 0)) : jdWh T v (jdCs t w).1 (jdCs t w).2 < 0 := by
  rw [jdWh.c hI.2.1] at h
  refine jdRf.n hI.2.1 ?_ h
  rcases jdWh.r (T := T) (v := v) (c := (jdCs t w).1) (F := (jdCs t w).2) hI.2.2.2 with e | e
  · have := hI.2.2.2
    omega
  · exact e.2
theorem jdWh.y {T : Nat → Int → Int} {v : Int} {t : jDtl} {w : jWl9} {x : Nat} (hI : jdIv t w) (h : (Value.ref x) = jdRf w (jdF T v (jdUr T v) (jdUl t w) (jdUx t w) w.1.toNat 0)) : 0 ≤ jdWh T v (jdCs t w).1 (jdCs t w).2 ∧ jdWh T v (jdCs t w).1 (jdCs t w).2 < w.1 ∧ w.2.1 (jdWh T v (jdCs t w).1 (jdCs t w).2).toNat = some x := by
  rw [jdWh.c hI.2.1] at h
  obtain ⟨a, b⟩ := jdRf.y h
  rcases jdWh.r (T := T) (v := v) (c := (jdCs t w).1) (F := (jdCs t w).2) hI.2.2.2 with e | e
  · omega
  · exact ⟨a, e.2, b⟩
theorem jqZ.k {T : Nat → Int → Int} {v i k : Int} (h : jqK T v i = k) (hk : k ≠ 0) : jqZ T v i = T 3 i := by
  have hp := jqK.p (T := T) (v := v) (i := i) (by omega)
  exact if_pos ⟨hp.1, hp.2.1⟩
theorem jqV.k {T : Nat → Int → Int} {v i k : Int} (h : jqK T v i = k) (hk : k ≠ 0) : jqV T v i = T 2 i := by
  have hp := jqK.p (T := T) (v := v) (i := i) (by omega)
  exact if_pos ⟨hp.1, hp.2.1⟩
/-- may it be opened, as the class asks -/
theorem jdOp.y {T : Nat → Int → Int} {v u s t : Int} {d : jDtl} {w : jWl9} (hI : jdIv d w) (hu : u = jdUr T v) (hs : s = jdVs T v) (ht : t = jdTt T v) (k1 : jqK T v u = 3) (z1 : 1 ≤ jqZ T v u) (z2 : jqZ T v u ≤ 40) (k2 : jqK T v s = 4) (k3 : jqK T v t = 3) (z3 : jqZ T v t ≤ 1500) (hn : jdWh T v (jdCs d w).1 (jdCs d w).2 < 0) (hc : w.1 < 3) : jdOp T v (jdCs d w).1 (jdCs d w).2 = 1 := by
  rw [jqZ.k k1 (by decide)] at z1 z2
  rw [jqZ.k k3 (by decide)] at z3
  subst hu hs ht
  exact if_pos ⟨k1, z1, z2, k2, k3, z3, hn, hc⟩
theorem jdOp.n {T : Nat → Int → Int} {v u s t : Int} {d : jDtl} {w : jWl9} (hu : u = jdUr T v) (hs : s = jdVs T v) (ht : t = jdTt T v) (h : ¬ (jqK T v u = 3 ∧ 1 ≤ jqZ T v u ∧ jqZ T v u ≤ 40 ∧ jqK T v s = 4 ∧ jqK T v t = 3 ∧ jqZ T v t ≤ 1500 ∧ jdWh T v (jdCs d w).1 (jdCs d w).2 < 0 ∧ w.1 < 3)) : jdCs d w = jdOpen T v (jdCs d w) := by
  subst hu hs ht
  unfold jdOpen
  rw [if_neg (fun q => ?_)]
  unfold jdOp at q
  split at q
  · rename_i g
    refine h ⟨g.1, ?_, ?_, g.2.2.2.1, g.2.2.2.2.1, ?_, g.2.2.2.2.2.2.1, g.2.2.2.2.2.2.2⟩
    · rw [jqZ.k g.1 (by decide)]; exact g.2.1
    · rw [jqZ.k g.1 (by decide)]; exact g.2.2.1
    · rw [jqZ.k g.2.2.2.2.1 (by decide)]; exact g.2.2.2.2.2.1
  · omega
theorem jdOpen.y {T : Nat → Int → Int} {v u s t : Int} {d d1 d2 : jDtl} {w w1 : jWl9} {r : Nat} {ve ln : Int32} {tx ux : Nat → Int32} {ul : Nat} (hI : jdIv d w) (hop : jdOp T v (jdCs d w).1 (jdCs d w).2 = 1) (hw : w1 = w.s1 (w.1 + 1) (jUf w.2.1 w.1.toNat (some r))) (hn : ∀ i : Nat, (i : Int) < w.1 → w.2.1 i ≠ some r) (h1 : jDnw d d1 r) (h2 : d2 = d1.put r ve ln tx ul ux) (hu : u = jdUr T v) (hs : s = jdVs T v) (ht : t = jdTt T v)
    (hve : ve.toInt = jqV T v s) (hln : ln.toInt = jqZ T v t) (htx : ∀ j : Int, 0 ≤ j → j < ln.toInt → jSo tx j = jqA T v t j) (hul : ((ul : Nat) : Int) = T 3 u) (hux : ∀ j : Int, 0 ≤ j → j < ((ul : Nat) : Int) → jSo ux j = jqA T v u j) (h0 : 0 ≤ ln.toInt) (hl : ln.toInt ≤ 1500) : jdIv d2 w1 ∧ jdCs d2 w1 = jdOpen T v (jdCs d w) := by
  subst hu hs ht hw h2
  have hop1 : jqK T v (jdVs T v) = 4 ∧ jqK T v (jdTt T v) = 3 := by
    unfold jdOp at hop
    split at hop
    · rename_i g
      exact ⟨g.2.2.2.1, g.2.2.2.2.1⟩
    · omega
  have e0 := hI.2.2.2
  have I1 := h1.iv hI
  refine ⟨⟨I1.ln (w1 := w) h0 hl, fun i hi => ?_, fun i j hi hj e => ?_, ?_⟩, ?_⟩
  · have hi : (i : Int) < w.1 + 1 := hi
    by_cases q : i = w.1.toNat
    · exact ⟨r, by show jUf w.2.1 w.1.toNat (some r) i = some r; rw [q, jUf_s]⟩
    · obtain ⟨a, ha⟩ := hI.2.1 i (by omega)
      exact ⟨a, by show jUf w.2.1 w.1.toNat (some r) i = some a; rw [jUf_n _ _ q]; exact ha⟩
  · have hi : (i : Int) < w.1 + 1 := hi
    have hj : (j : Int) < w.1 + 1 := hj
    have e : jUf w.2.1 w.1.toNat (some r) i = jUf w.2.1 w.1.toNat (some r) j := e
    by_cases q : i = w.1.toNat
    · by_cases p : j = w.1.toNat
      · omega
      · rw [q, jUf_s, jUf_n _ _ p] at e
        exact absurd e.symm (hn j (by omega))
    · by_cases p : j = w.1.toNat
      · rw [p, jUf_s, jUf_n _ _ q] at e
        exact absurd e (hn i (by omega))
      · rw [jUf_n _ _ q, jUf_n _ _ p] at e
        exact hI.2.2.1 i j (by omega) (by omega) e
  · show 0 ≤ w.1 + 1
    omega
  · unfold jdOpen
    rw [if_pos hop]
    refine Prod.ext rfl ?_
    show jdLi (w.1 + 1) (jUf w.2.1 w.1.toNat (some r)) (jdC1 (d1.put r ve ln tx ul ux)) = jdUp (jdLi w.1 w.2.1 (jdC1 d)) w.1 (jdNd T v)
    refine jdLi.opn e0 rfl (fun i hi => jUf_n _ _ (by omega)) (jUf_s _ _ _) ?_ (fun i a hi ha => ?_)
    · rw [jdC1.put_s]
      unfold jdNd
      rw [hve, hln, jqV.k hop1.1 (by decide), ← hul, jdKp.cg (n := ((ul : Nat) : Int)) hux, jdKp.cg (n := jqZ T v (jdTt T v)) (fun j j0 j1 => htx j j0 (by rw [hln]; exact j1)), jqZ.k hop1.2 (by decide)]
    · obtain ⟨f, g, e⟩ := h1
      have ne : a ≠ r := fun q => hn i hi (by rw [ha, q])
      rw [jdC1.put_n d1 ve ln tx ul ux ne, e, jdC1.put_n d 0 0 f 0 g ne]
/-- one is closed -/
theorem jdClose.n {T : Nat → Int → Int} {v : Int} {d : jDtl} {w : jWl9} (hn : jdWh T v (jdCs d w).1 (jdCs d w).2 < 0) : jdCs d w = jdClose T v (jdCs d w) := (if_neg (by omega)).symm
theorem jdClose.y {T : Nat → Int → Int} {v n : Int} {d : jDtl} {w w1 : jWl9} {x : Nat} (hI : jdIv d w) (h : 0 ≤ jdWh T v (jdCs d w).1 (jdCs d w).2 ∧ jdWh T v (jdCs d w).1 (jdCs d w).2 < w.1 ∧ w.2.1 (jdWh T v (jdCs d w).1 (jdCs d w).2).toNat = some x) (h0 : 0 ≤ n) (h1 : n < w.1) (hx : w.2.1 n.toNat = some x) (hw : w1 = w.s1 (w.1 - 1) (jRmv w.2.1 n.toNat)) : jdIv d w1 ∧ jdCs d w1 = jdClose T v (jdCs d w) := by
  have e : n = jdWh T v (jdCs d w).1 (jdCs d w).2 := by
    have := hI.2.2.1 n.toNat (jdWh T v (jdCs d w).1 (jdCs d w).2).toNat (by omega) (by omega) (by rw [hx, h.2.2])
    omega
  subst hw
  have k : ∀ i : Nat, jRmv w.2.1 n.toNat i = if i < n.toNat then w.2.1 i else w.2.1 (i + 1) := fun i => rfl
  refine ⟨⟨hI.1, fun i hi => ?_, fun i j hi hj q => ?_, ?_⟩, ?_⟩
  · have hi : (i : Int) < w.1 - 1 := hi
    show ∃ a, jRmv w.2.1 n.toNat i = some a
    rw [k]
    split
    · exact hI.2.1 i (by omega)
    · exact hI.2.1 (i + 1) (by omega)
  · have hi : (i : Int) < w.1 - 1 := hi
    have hj : (j : Int) < w.1 - 1 := hj
    have q : jRmv w.2.1 n.toNat i = jRmv w.2.1 n.toNat j := q
    rw [k, k] at q
    split at q
    · split at q
      · exact hI.2.2.1 i j (by omega) (by omega) q
      · have := hI.2.2.1 i (j + 1) (by omega) (by omega) q
        omega
    · split at q
      · have := hI.2.2.1 (i + 1) j (by omega) (by omega) q
        omega
      · have := hI.2.2.1 (i + 1) (j + 1) (by omega) (by omega) q
        omega
  · show 0 ≤ w.1 - 1
    omega
  · unfold jdClose
    rw [if_pos h.1]
    refine Prod.ext rfl ?_
    rw [← e]
    exact jdLi.cls h0 h1 rfl (fun i hi => if_pos (by omega)) (fun i hi _ => if_neg (by omega))
end
section
-- p9: a document is changed
theorem jdO.in {T : Nat → Int → Int} {v n c : Int} {g : Int → Int} (h : (jdO T v g n c).1 = 1) : 0 ≤ c ∧ c < v := by
  unfold jdO at h
  split at h
  · rename_i w
    have h1 := jqK.p (T := T) (v := v) (i := jqM T v (jChT "text") 4 c) (by omega)
    have h2 : jqK T v c = 1 := by
      by_cases q : jqK T v c = 1
      · exact q
      · have e : jqM T v (jChT "text") 4 c = -1 := if_neg q
        omega
    have h3 := jqK.p (T := T) (v := v) (i := c) (by omega)
    exact ⟨h3.1, h3.2.1⟩
  · have h : (0 : Int) = 1 := h
    omega
theorem jdA.in {T : Nat → Int → Int} {v n c r n1 : Int} {f f1 : Nat → Int32} (h : jdA T v n c f f1 r n1) (hr : r ≠ 0) : 0 ≤ c ∧ c < v := by
  rcases h with ⟨-, b, -, -⟩ | ⟨a, -⟩
  · exact jdO.in b
  · exact absurd a hr
theorem jdA.nx {T : Nat → Int → Int} {v n c r n1 x : Int} {f f1 : Nat → Int32} (h : jdA T v n c f f1 r n1) (hr : r ≠ 0) (hx : x = jqN T v c) : x = T 4 c := hx.trans (if_pos (h.in hr))
theorem jdA.ln {T : Nat → Int → Int} {v n c r n1 : Int} {f f1 : Nat → Int32} (hT : ∀ x, jqK T v x = 3 → 0 ≤ T 3 x) (hn : 0 ≤ n) (h : jdA T v n c f f1 r n1) (hr : r ≠ 0) : 0 ≤ n1 ∧ n1 ≤ 1500 := by
  rcases h with ⟨-, b, d, -⟩ | ⟨a, -⟩
  · refine ⟨by rw [d]; exact jdO.nn hn hT, ?_⟩
    rw [d]
    unfold jdO at b ⊢
    split at b
    · rename_i w
      rw [if_pos w]
      exact w.2.2.2
    · have b : (0 : Int) = 1 := b
      omega
  · exact absurd a hr
/-- which conditions the class asks for -/
theorem jdCg.d {d : jDtl} {w : jWl9} {x : Nat} {i : Int} (h : 0 ≤ i ∧ i < w.1 ∧ w.2.1 i.toNat = some x) : (jdCs d w).2 i = jdC1 d x := jdLi.at h.1 h.2.1 h.2.2
theorem jdNew.d {T : Nat → Int → Int} {v c : Int} {d : jDtl} {x : Nat} {R : Int × Int × (Int → Int)} (hT : ∀ x, jqK T v x = 3 → 0 ≤ T 3 x) (hn : 0 ≤ (d.ln x).toInt) (hc : c = jdCc T v) (k2 : jqK T v c = 2) (hR : R = jdCh T v (jqZ T v c).toNat (jqF T v c) (d.ln x).toInt (jSo (d.tx x))) : (jdNew T v (jdC1 d x)).1 = R.1 ∧ (jdNew T v (jdC1 d x)).2.1 = R.2.1 ∧ jdKp (jdNew T v (jdC1 d x)).2.1 (jdNew T v (jdC1 d x)).2.2 = jdKp R.2.1 R.2.2 := by
  have hp := jqK.p (T := T) (v := v) (i := c) (by omega)
  have e1 : jqF T v c = T 2 c := if_pos ⟨hp.1, hp.2.1⟩
  rw [hR, e1, jqZ.k k2 (by decide), hc]
  exact jdNew.cg hT hn (jdKp.v)
theorem jdChange.n {T : Nat → Int → Int} {v s c : Int} {d : jDtl} {w : jWl9} {x : Nat} {R : Int × Int × (Int → Int)} (hT : ∀ x, jqK T v x = 3 → 0 ≤ T 3 x) (hI : jdIv d w) (hs : s = jdVs T v) (hc : c = jdCc T v) (hx : 0 ≤ jdWh T v (jdCs d w).1 (jdCs d w).2 ∧ jdWh T v (jdCs d w).1 (jdCs d w).2 < w.1 ∧ w.2.1 (jdWh T v (jdCs d w).1 (jdCs d w).2).toNat = some x)
    (h : jqK T v s ≠ 4 ∨ jqV T v s ≤ (d.ve x).toInt ∨ jqK T v c ≠ 2 ∨ jqZ T v c < 1 ∨ 8 < jqZ T v c ∨ (R = jdCh T v (jqZ T v c).toNat (jqF T v c) (d.ln x).toInt (jSo (d.tx x)) ∧ R.1 = 0)) : jdCs d w = jdChange T v (jdCs d w) := by
  unfold jdChange
  rw [if_neg (fun q => ?_)]
  unfold jdCg at q
  rw [jdCg.d hx] at q
  split at q
  · rename_i g
    obtain ⟨-, g2, g3, g4, g5, g6, g7⟩ := g
    rw [← hs] at g2 g3
    rw [← hc] at g4 g5 g6
    rcases h with h | h | h | h | h | ⟨h, h1⟩
    · exact h g2
    · rw [jqV.k g2 (by decide)] at h
      have g3 : (d.ve x).toInt < T 2 s := g3
      omega
    · exact h g4
    · rw [jqZ.k g4 (by decide)] at h
      omega
    · rw [jqZ.k g4 (by decide)] at h
      omega
    · have e := (jdNew.d hT (hI.1 x).1 hc g4 h).1
      omega
  · omega
theorem jdChange.y {T : Nat → Int → Int} {v s c : Int} {d d1 d2 : jDtl} {w : jWl9} {x sp : Nat} {R : Int × Int × (Int → Int)} {v0 l0 ve ln : Int32} {f0 g0 tx : Nat → Int32} {u0 : Nat} (hT : ∀ x, jqK T v x = 3 → 0 ≤ T 3 x) (hI : jdIv d w) (hs : s = jdVs T v) (hc : c = jdCc T v) (hx : 0 ≤ jdWh T v (jdCs d w).1 (jdCs d w).2 ∧ jdWh T v (jdCs d w).1 (jdCs d w).2 < w.1 ∧ w.2.1 (jdWh T v (jdCs d w).1 (jdCs d w).2).toNat = some x)
    (hn : ∀ i : Nat, (i : Int) < w.1 → w.2.1 i ≠ some sp) (h1 : d1 = d.put sp v0 l0 f0 u0 g0) (h2 : d2 = d1.put x ve ln tx (d1.ul x) (d1.ux x)) (k1 : jqK T v s = 4) (hv : (d.ve x).toInt < jqV T v s) (k2 : jqK T v c = 2) (z1 : 1 ≤ jqZ T v c) (z2 : jqZ T v c ≤ 8) (hve : ve.toInt = jqV T v s)
    (hR : R = jdCh T v (jqZ T v c).toNat (jqF T v c) (d.ln x).toInt (jSo (d.tx x))) (hJ : R.1 = 1 ∧ R.2.1 = l0.toInt ∧ jdV (jSo f0) R.2.2 l0.toInt) (hl : ln.toInt = (d1.ln sp).toInt) (htx : jdW tx (d1.tx sp)) (hl0 : 0 ≤ l0.toInt) (hl1 : l0.toInt ≤ 1500) : jdIv d2 w ∧ jdCs d2 w = jdChange T v (jdCs d w) := by
  have ne : x ≠ sp := fun q => hn (jdWh T v (jdCs d w).1 (jdCs d w).2).toNat (by omega) (by rw [hx.2.2, q])
  have I1 : jdIv d1 w := by rw [h1]; exact hI.put hl0 hl1
  have el : (d1.ln sp) = l0 := by rw [h1]; exact jUf_s _ _ _
  have et : (d1.tx sp) = f0 := by rw [h1]; exact jUf_s _ _ _
  have eul : d1.ul x = d.ul x := by rw [h1]; exact jUf_n _ _ ne
  have eux : d1.ux x = d.ux x := by rw [h1]; exact jUf_n _ _ ne
  have ec1 : ∀ b, b ≠ sp → jdC1 d1 b = jdC1 d b := fun b hb => by rw [h1]; exact jdC1.put_n d v0 l0 f0 u0 g0 hb
  rw [el] at hl
  rw [et] at htx
  obtain ⟨r1, r2, r3⟩ := jdNew.d hT (hI.1 x).1 hc k2 hR
  have hcg : jdCg T v (jdCs d w).1 (jdCs d w).2 = 1 := by
    refine if_pos ⟨hx.1, by rw [← hs]; exact k1, ?_, by rw [← hc]; exact k2, ?_, ?_, ?_⟩
    · rw [jdCg.d hx, ← hs, ← jqV.k k1 (by decide)]; exact hv
    · rw [← hc, ← jqZ.k k2 (by decide)]; exact z1
    · rw [← hc, ← jqZ.k k2 (by decide)]; exact z2
    · rw [jdCg.d hx, r1]; exact hJ.1
  refine ⟨by rw [h2]; exact I1.put (by omega) (by omega), ?_⟩
  unfold jdChange
  rw [if_pos hcg]
  refine Prod.ext rfl ?_
  show jdLi w.1 w.2.1 (jdC1 d2) = jdUp (jdLi w.1 w.2.1 (jdC1 d)) (jdWh T v (jdCs d w).1 (jdCs d w).2) (jdCd T v ((jdCs d w).2 (jdWh T v (jdCs d w).1 (jdCs d w).2)))
  refine jdLi.chg hx.1 hx.2.1 hx.2.2 ?_ (fun i hi he => hI.2.2.1 i _ hi (by omega) (by rw [he, hx.2.2])) (fun i a hi ha hax => ?_)
  · rw [jdCg.d hx, h2, jdC1.put_s]
    unfold jdCd
    rw [r3, r2, hJ.2.1, hve, jqV.k k1 (by decide), hs, hl, eul, eux]
    rw [jdKp.cg (n := l0.toInt) (g := jSo tx) (h := R.2.2) (fun j j0 j1 => (htx j j0 (by omega)).trans (hJ.2.2 j j0 j1))]
    rfl
  · rw [h2, jdC1.put_n d1 ve ln tx (d1.ul x) (d1.ux x) hax]
    exact ec1 a (fun q => hn i hi (by rw [ha, q]))
end
section
-- p9: what a message does
section
variable {T : Nat → Int → Int} {v p m : Int} {S S1 : Int × (Int → jdD)}
theorem jdRq.c (hm : m = jdMe T v) (hp : p ≠ 0) (h : p = 2 ∨ jqI T v (jChT jdIn) 10 m = 1) : jdRq T v p = p := by
  subst hm; unfold jdRq
  rw [if_neg hp, if_neg (fun q => h.elim (fun e => by omega) (fun e => q.2.1 e))]
theorem jdNo.c (hm : m = jdMe T v) (hp : p = 1) (h : jqI T v (jChT "textDocument/didOpen") 20 m ≠ 1) (h1 : jqI T v (jChT "textDocument/didChange") 22 m = 1) : jdNo T v p S = jdChange T v S := by
  subst hm; unfold jdNo; rw [if_neg (fun q => q hp), if_neg h, if_pos h1]
theorem jdNo.n (hm : m = jdMe T v) (h : jqI T v (jChT "textDocument/didOpen") 20 m ≠ 1) (h1 : jqI T v (jChT "textDocument/didChange") 22 m ≠ 1) (h2 : jqI T v (jChT "textDocument/didClose") 21 m ≠ 1) : jdNo T v p S = S := by
  subst hm; unfold jdNo
  by_cases q : p ≠ 1
  · rw [if_pos q]
  · rw [if_neg q, if_neg h, if_neg h1, if_neg h2]
/-- what a notification does: the flag broken, the documents -/
def jdNt (T : Nat → Int → Int) (v p br qb : Int) (S S1 : Int × (Int → jdD)) : Prop := (qb = 1 ∧ jqI T v (jChT "exit") 4 (jdMe T v) = 1 ∧ S1 = S) ∨ (qb = br ∧ jqI T v (jChT "exit") 4 (jdMe T v) ≠ 1 ∧ S1 = jdNo T v p S)
theorem jdNt.y {br qb : Int} (hm : m = jdMe T v) (h : jqI T v (jChT "exit") 4 m = 1) (hq : qb = 1) : jdNt T v p br qb S S := by
  subst hm; exact Or.inl ⟨hq, h, rfl⟩
theorem jdNt.n {br qb : Int} (hm : m = jdMe T v) (h : jqI T v (jChT "exit") 4 m ≠ 1) (hq : qb = br) (hs : S1 = jdNo T v p S) : jdNt T v p br qb S S1 := by
  subst hm; exact Or.inr ⟨hq, h, hs⟩
theorem jdMg.r (hg : jdGd T v = 1) (hi : 0 ≤ jdId T v) : jdMg T v p S = (0, jdRq T v p, S) := by
  unfold jdMg; rw [if_pos hg, if_pos hi]
theorem jdMg.x (hg : jdGd T v ≠ 1) : jdMg T v p S = (0, p, S) := if_neg hg
end
/-- has a request an id -/
def jRi (dC : Nat → ClassId) (dI : Nat → Nat → Nat) (G : jT) (a : Nat) (P : Prop) (H : Heap) : Prop := (P ∧ ∃ y : Nat, G y = some (2, 0) ∧ jf (dC, dI) 10 a 0 (.ref y) H) ∨ (¬ P ∧ jf (dC, dI) 10 a 0 .null H)
theorem jdGd.y {T : Nat → Int → Int} {v z j m p i : Int} (hz : z = 0) (hj : j = jqM T v (jChT "jsonrpc") 7 z) (hm : m = jqM T v (jChT "method") 6 z) (hp : p = jqM T v (jChT "params") 6 z) (hi : i = jqM T v (jChT "id") 2 z) (h1 : jqI T v (jChT "2.0") 3 j = 1) (h2 : jqK T v m = 3) (h3 : p < 0 ∨ jqK T v p = 1) (h4 : i < 0 ∨ (jqK T v i = 4 ∨ (jqK T v i = 3 ∧ jqZ T v i ≤ 20))) : jdGd T v = 1 := by
  subst hz hj hm hp hi
  refine if_pos ⟨h1, h2, h3, ?_⟩
  rcases h4 with h | h | ⟨h, h5⟩
  · exact Or.inl h
  · exact Or.inr (Or.inl h)
  · refine Or.inr (Or.inr ⟨h, ?_⟩)
    rw [jqZ.k h (by decide)] at h5
    exact h5
theorem jdGd.n {T : Nat → Int → Int} {v z j m p i : Int} (hz : z = 0) (hj : j = jqM T v (jChT "jsonrpc") 7 z) (hm : jqI T v (jChT "2.0") 3 j = 1 → m = jqM T v (jChT "method") 6 z) (hp : p = jqM T v (jChT "params") 6 z) (hi : i = jqM T v (jChT "id") 2 z) (h : jqI T v (jChT "2.0") 3 j ≠ 1 ∨ (jqI T v (jChT "2.0") 3 j = 1 ∧ (jqK T v m ≠ 3 ∨ (0 ≤ p ∧ jqK T v p ≠ 1) ∨ (0 ≤ i ∧ ¬ (jqK T v i = 4 ∨ (jqK T v i = 3 ∧ jqZ T v i ≤ 20)))))) : jdGd T v ≠ 1 := by
  subst hz hj hp hi
  intro q
  unfold jdGd at q
  split at q
  · rename_i g
    obtain ⟨g1, g2, g3, g4⟩ := g
    rcases h with h | ⟨h0, h⟩
    · exact h g1
    · have e := hm h0
      subst e
      rcases h with h | ⟨h, h'⟩ | ⟨h, h'⟩
      · exact h g2
      · rcases g3 with g3 | g3
        · have g3 : jqM T v (jChT "params") 6 0 < 0 := g3
          omega
        · exact h' g3
      · rcases g4 with g4 | g4 | ⟨g4, g5⟩
        · have g4 : jqM T v (jChT "id") 2 0 < 0 := g4
          omega
        · exact h' (Or.inl g4)
        · exact h' (Or.inr ⟨g4, by have e9 : jqZ T v (jqM T v (jChT "id") 2 0) = T 3 (jqM T v (jChT "id") 2 0) := jqZ.k g4 (by decide); rw [e9]; exact g5⟩)
  · omega
/-- what is understood of the bytes of a message -/
def jdUs (X : Int × Int × Int × (Nat → Int → Int)) (o : Option Nat) (v u : Int) (T : Nat → Int → Int) (fk fi fz fn fa fs fu : Nat → Int32) : Prop := (o = none ∧ (X.1 = 0 ∨ (X = (1, v, u, T) ∧ jdGd T v ≠ 1))) ∨ (o ≠ none ∧ X = (1, v, u, T) ∧ jdGd T v = 1 ∧ jjTC T v u fk fi fz fn fa fs fu ∧ jjCo T 0 v)
section JR8
variable {dC : Nat → ClassId} {dI : Nat → Nat → Nat} {G : jT} {a nn yy : Nat} {P Q : Prop} {H : Heap}
theorem jRi.y (h : jRi dC dI G a P H) (f : jf (dC, dI) 10 a 0 (.ref yy) H) : P := by
  rcases h with ⟨p, -⟩ | ⟨-, g⟩
  · exact p
  · have e := jf.uniq f g
    cases e
theorem jRi.n (h : jRi dC dI G a P H) (f : jf (dC, dI) 10 a 0 .null H) : ¬ P := by
  rcases h with ⟨-, x, -, g⟩ | ⟨p, -⟩
  · have e := jf.uniq f g
    cases e
  · exact p
end JR8
end
section
-- p9: the state of a server as both sides tell it; what a byte does, what many do
/-- frames, the bytes of the body, the phase, the open documents -/
abbrev jdSt := (Nat → Int) × (Int → Int) × Int × (Int × (Int → jdD))
/-- the contents of an array with these bytes -/
def jfCn (D : Int → Int) : Nat → Int32 := fun j => if j < 3000 then Int32.ofInt (if D j < 128 then D j else D j - 256) else 0
def jdMs (D : Int → Int) (z p : Int) (S : Int × (Int → jdD)) : Int × Int × Int × (Int → jdD) := if (jjRd (jB8 (jfCn D)) z).1 = 1 then jdMg (jjRd (jB8 (jfCn D)) z).2.2.2 (jjRd (jB8 (jfCn D)) z).2.1 p S else (0, p, S)
def jdBy (s : jdSt) (c : Int) : Int → Int := if s.1 1 = 6 then jfBu s.2.1 (s.1 8) c else s.2.1
def jdStep (s : jdSt) (c : Int) : jdSt := if s.1 0 = 1 then s else if (jfAc s.1 c).2.1 = 1 then (if (jdMs (jdBy s c) (jfAc s.1 c).2.2 s.2.2.1 s.2.2.2).1 = 1 then jfB else (jfAc s.1 c).1, jdBy s c, (jdMs (jdBy s c) (jfAc s.1 c).2.2 s.2.2.1 s.2.2.2).2) else ((jfAc s.1 c).1, jdBy s c, s.2.2)
def jdFd (b : Int → Int) (s : jdSt) : Nat → jdSt
  | 0 => s
  | k + 1 => jdStep (jdFd b s k) (b k)
def jdN (a p : Int) : Nat := if 0 ≤ a ∧ a ≤ p then a.toNat else 0
section
variable {s : jdSt} {u r br qn qb pl to ke sg il dg sv fi a1 a2 a3 a4 a5 a6 a7 a8 : Int}
theorem jfQ.v {Y : Nat → Int} (h : jfQ Y qb a1 a2 a3 a4 a5 a6 a7 a8) (hb : qb = 0) : Y = jfV 0 a1 a2 a3 a4 a5 a6 a7 a8 := by
  rcases h with ⟨e, -⟩ | ⟨-, e⟩
  · omega
  · exact e
/-- a byte that ends no message -/
theorem jdStep.n (hX : jfQ s.1 br pl to ke sg il dg sv fi) (hb : br = 0) (hA : jfA (jfV 0 pl to ke sg il dg sv fi) u r qn qb a1 a2 a3 a4 a5 a6 a7 a8) (hr : r = 0) : jfQ (jdStep s u).1 qb a1 a2 a3 a4 a5 a6 a7 a8 ∧ (jdStep s u).2.1 = jdBy s u ∧ (jdStep s u).2.2 = s.2.2 := by
  obtain ⟨Y, z, h1, h2, -⟩ := hA
  have e0 := hX.v hb
  have e1 : jfAc s.1 u = (Y, r, z) := by rw [e0]; exact h1
  have e2 : jdStep s u = (Y, jdBy s u, s.2.2) := by
    unfold jdStep
    rw [e1, if_neg (by rw [e0]; show ¬ (0 : Int) = 1; omega), if_neg (by show ¬ r = 1; omega)]
  rw [e2]
  exact ⟨h2, rfl, rfl⟩
/-- a byte that ends one -/
theorem jdStep.y {m p : Int} {S : Int × (Int → jdD)} (hX : jfQ s.1 br pl to ke sg il dg sv fi) (hb : br = 0) (hA : jfA (jfV 0 pl to ke sg il dg sv fi) u r qn qb a1 a2 a3 a4 a5 a6 a7 a8) (hr : r = 1) (hq : qb = 0) (hM : jdMs (jdBy s u) qn s.2.2.1 s.2.2.2 = (m, p, S)) (hm : m = 0 ∨ m = 1) : jfQ (jdStep s u).1 m a1 a2 a3 a4 a5 a6 a7 a8 ∧ (jdStep s u).2.1 = jdBy s u ∧ (jdStep s u).2.2.1 = p ∧ (jdStep s u).2.2.2 = S := by
  obtain ⟨Y, z, h1, h2, h3⟩ := hA
  have e0 := hX.v hb
  have e1 : jfAc s.1 u = (Y, r, z) := by rw [e0]; exact h1
  have ez := h3 hr
  subst ez
  have e2 : jdStep s u = (if m = 1 then jfB else Y, jdBy s u, p, S) := by
    unfold jdStep
    rw [e1, if_neg (by rw [e0]; show ¬ (0 : Int) = 1; omega), if_pos (by show r = 1; exact hr), hM]
  rw [e2]
  refine ⟨?_, rfl, rfl, rfl⟩
  show jfQ (if m = 1 then jfB else Y) m a1 a2 a3 a4 a5 a6 a7 a8
  by_cases e : m = 1
  · rw [if_pos e]; exact Or.inl ⟨e, rfl⟩
  · rw [if_neg e]; exact Or.inr ⟨by omega, h2.v hq⟩
end
theorem jdMs.n {D : Int → Int} {z p : Int} {S : Int × (Int → jdD)} (h : (jjRd (jB8 (jfCn D)) z).1 = 0) : jdMs D z p S = (0, p, S) := if_neg (by omega)
theorem jdMs.y {D : Int → Int} {z p v u : Int} {T : Nat → Int → Int} {S : Int × (Int → jdD)} (h : jjRd (jB8 (jfCn D)) z = (1, v, u, T)) : jdMs D z p S = jdMg T v p S := by
  unfold jdMs
  rw [h]
  exact if_pos rfl
section JP9
variable {dC : Nat → ClassId} {dI : Nat → Nat → Nat} {ca : Nat → ClassId} {B : jF} {base : Nat} {G0 G : jT} {E : List (Nat × Nat)} {H0 H : Heap} {zc zs : Nat} {L : List jPin} {M : List jCt} {I : List jIv} {locs : List Loc} {a k n : Nat}
end JP9
theorem jdN.n {a p : Int} (h : a < 0 ∨ p < a) : jdN a p = 0 := if_neg (fun q => by omega)
theorem jdN.y {a p : Int} (h : 0 ≤ a) (h1 : a ≤ p) : jdN a p = a.toNat := if_pos ⟨h, h1⟩
theorem jdUs.n {D : Int → Int} {z v u p : Int} {T : Nat → Int → Int} {o : Option Nat} {fk fi fz fn fa fs fu : Nat → Int32} {S : Int × (Int → jdD)} (h : jdUs (jjRd (jB8 (jfCn D)) z) o v u T fk fi fz fn fa fs fu) (ho : (Value.null) = va_rf o) : jdMs D z p S = (0, p, S) := by
  have e : o = none := by
    cases o with
    | none => rfl
    | some x => cases ho
  rcases h with ⟨-, h | ⟨h, h1⟩⟩ | ⟨h, -⟩
  · exact jdMs.n h
  · rw [jdMs.y h]; exact jdMg.x h1
  · exact absurd e h
theorem jdUs.y {X : Int × Int × Int × (Nat → Int → Int)} {v u : Int} {T : Nat → Int → Int} {o : Option Nat} {x : Nat} {fk fi fz fn fa fs fu : Nat → Int32} (h : jdUs X o v u T fk fi fz fn fa fs fu) (ho : (Value.ref x) = va_rf o) : X = (1, v, u, T) ∧ jdGd T v = 1 ∧ jjTC T v u fk fi fz fn fa fs fu ∧ jjCo T 0 v := by
  have e := jdAt ho
  rcases h with ⟨h, -⟩ | ⟨-, h⟩
  · rw [h] at e; cases e
  · exact h
theorem jdRq.rg {T : Nat → Int → Int} {v p q : Int} (e : q = jdRq T v p) (h0 : 0 ≤ p) (h1 : p ≤ 2) : 0 ≤ q ∧ q ≤ 2 := by
  subst e
  unfold jdRq
  split
  · split
    · exact ⟨by decide, by decide⟩
    · exact ⟨by decide, by decide⟩
  · split
    · exact ⟨by decide, by decide⟩
    · exact ⟨h0, h1⟩
theorem jdNt.rg {T : Nat → Int → Int} {v p br qb : Int} {S S1 : Int × (Int → jdD)} (h : jdNt T v p br qb S S1) (hb : br = 0) : 0 ≤ qb ∧ qb ≤ 1 := by
  rcases h with ⟨h, -⟩ | ⟨h, -⟩
  · rw [h]; exact ⟨by decide, by decide⟩
  · rw [h, hb]; exact ⟨by decide, by decide⟩
end
section
-- p9: the reference's documents: what its JSON tells, places, changes
/-- the reference's tables -/
def jjRB (T : Nat → Int → Int) (v u : Int) (ms mh mx mf mt mb me mi mn mp : Nat → Int32) : Prop := jjTR T v ms mh mx mf mt mb me mi mn ∧ jjA T 7 u mp ∧ jjCo T 0 v ∧ (∀ x : Int, 0 ≤ x → x < v → T 3 x < 3000) ∧ (∀ c : Int, 0 ≤ c → c < v → T 8 c = 1 → 0 ≤ T 5 c ∧ 0 ≤ T 6 c ∧ T 5 c + T 6 c ≤ u) ∧ (∀ x : Int, 0 ≤ x → x < v → T 1 x = 3 → 0 ≤ T 2 x ∧ 0 ≤ T 3 x ∧ T 2 x + T 3 x ≤ u) ∧ (∀ x : Int, 0 ≤ x → x < v → T 1 x = 1 ∨ T 1 x = 2 → 0 ≤ T 3 x)
section
variable {T : Nat → Int → Int} {v u a : Int} {ms mh mx mf mt mb me mi mn mp f : Nat → Int32} {n : Nat}
theorem jjRB.lt (h : jjRB T v u ms mh mx mf mt mb me mi mn mp) (hv : 0 ≤ v) : -1 ≤ jqM T v f n a ∧ jqM T v f n a < v := by
  rcases jqM.r (f := f) (n := n) (h := a) h.2.2.1 with e | e
  · omega
  · omega
theorem jjRB.nx (h : jjRB T v u ms mh mx mf mt mb me mi mn mp) (h0 : 0 ≤ a) (h1 : a < v) : T 4 a = jSo mx a := (h.1 a h0 h1).2.1
end
-- places
section
variable {g : Int → Int} {n w a p a1 p1 : Int}
theorem jdL.st (h : a < n) (h1 : p < w) (ea : a1 = a + 1) (ep : p1 = p + jdE g n a) : jdL g n w (n - a1).toNat a1 p1 = jdL g n w (n - a).toNat a p := by
  have e := jdL_s (k := (n - a).toNat) h h1 (by omega) ea ep
  rw [show (n - a).toNat - 1 = (n - a1).toNat by omega] at e
  exact e
end
/-- a position, a change that may be made -/
def jdPo (T : Nat → Int → Int) (v p : Int) : Prop := jqK T v (jqM T v (jChT "line") 4 p) = 4 ∧ jqK T v (jqM T v (jChT "character") 9 p) = 4 ∧ 0 ≤ T 2 (jqM T v (jChT "line") 4 p) ∧ 0 ≤ T 2 (jqM T v (jChT "character") 9 p)
def jdCk (T : Nat → Int → Int) (v c : Int) : Prop := jqK T v (jqM T v (jChT "text") 4 c) = 3 ∧ (jqM T v (jChT "range") 5 c < 0 ∨ (jdPo T v (jqM T v (jChT "start") 5 (jqM T v (jChT "range") 5 c)) ∧ jdPo T v (jqM T v (jChT "end") 3 (jqM T v (jChT "range") 5 c))))
theorem jdT.po {T : Nat → Int → Int} {v n p : Int} {g : Int → Int} (h : ¬ jdPo T v p) : jdT T v g n p = -1 := by
  unfold jdT
  split
  · rename_i w
    unfold jdP
    rw [if_pos]
    by_cases a : T 2 (jqM T v (jChT "line") 4 p) < 0
    · exact Or.inl a
    · by_cases b : T 2 (jqM T v (jChT "character") 9 p) < 0
      · exact Or.inr b
      · exact absurd ⟨w.1, w.2, by omega, by omega⟩ h
  · rfl
theorem jdO.ck {T : Nat → Int → Int} {v n c : Int} {g : Int → Int} (h : (jdO T v g n c).1 = 1) : jdCk T v c := by
  unfold jdO at h
  split at h
  · rename_i w
    refine ⟨w.1, ?_⟩
    by_cases q : jqM T v (jChT "range") 5 c < 0
    · exact Or.inl q
    · have e : jdS T v g n c = (jdT T v g n (jqM T v (jChT "start") 5 (jqM T v (jChT "range") 5 c)), jdT T v g n (jqM T v (jChT "end") 3 (jqM T v (jChT "range") 5 c))) := if_neg q
      have w1 := w.2.1
      have w2 := w.2.2.1
      rw [e] at w1 w2
      refine Or.inr ⟨Classical.byContradiction fun x => ?_, Classical.byContradiction fun x => ?_⟩
      · have w1 : 0 ≤ jdT T v g n (jqM T v (jChT "start") 5 (jqM T v (jChT "range") 5 c)) := w1
        rw [jdT.po x] at w1
        omega
      · have w1 : 0 ≤ jdT T v g n (jqM T v (jChT "start") 5 (jqM T v (jChT "range") 5 c)) := w1
        have w2 : jdT T v g n (jqM T v (jChT "start") 5 (jqM T v (jChT "range") 5 c)) ≤ jdT T v g n (jqM T v (jChT "end") 3 (jqM T v (jChT "range") 5 c)) := w2
        rw [jdT.po x] at w2
        omega
  · have h : (0 : Int) = 1 := h
    omega
end
section
-- p9: the reference's open documents as one entry: S, as jdRs tells them
def jdIr (t : jDtr) (fd : Nat → Option Nat) (c : Int) : Prop := 0 ≤ c ∧ c ≤ 3 ∧ (∀ i : Nat, i < 3 → ∃ a, fd i = some a) ∧ ∀ a, 0 ≤ (t.ln a).toInt ∧ (t.ln a).toInt ≤ 1500 ∧ 0 ≤ (t.ul a).toInt ∧ (t.ul a).toInt ≤ 40
theorem jdIr.cg {t : jDtr} {fd fe : Nat → Option Nat} {c : Int} (h : jdIr t fd c) (he : ∀ i, i < 3 → fe i = fd i) : jdIr t fe c := ⟨h.1, h.2.1, fun i hi => by rw [he i hi]; exact h.2.2.1 i hi, h.2.2.2⟩
theorem jdRs.cg {t : jDtr} {fd fe : Nat → Option Nat} {c : Int} (hc : c ≤ 3) (he : ∀ i, i < 3 → fe i = fd i) : jdRs t fe c = jdRs t fd c := by
  unfold jdRs
  rw [jdLi.cg (e := fd) (h := jdR1 t) (fun i hi => he i (by omega)) (fun i a _ _ => rfl)]
section J95
variable {dC : Nat → ClassId} {dI : Nat → Nat → Nat} {ca : Nat → ClassId} {G G1 : jT} {H H1 : Heap} {r dd n : Nat} {S : Int × (Int → jdD)} {t : jDtr} {fd : Nat → Option Nat} {dc : Int32}
end J95
-- which document is meant
def jdRl (t : jDtr) (fd : Nat → Option Nat) : Int → Int := fun d => match fd d.toNat with
  | some a => (t.ul a).toInt
  | none => 0
def jdRx (t : jDtr) (fd : Nat → Option Nat) : Int → Int → Int := fun d => match fd d.toNat with
  | some a => jSo (t.ux a)
  | none => fun _ => 0
theorem jdRl.at {t : jDtr} {fd : Nat → Option Nat} {d : Int} {x : Nat} (h : fd d.toNat = some x) : jdRl t fd d = (t.ul x).toInt := by unfold jdRl; rw [h]
theorem jdRx.at {t : jDtr} {fd : Nat → Option Nat} {d : Int} {x : Nat} (h : fd d.toNat = some x) : jdRx t fd d = jSo (t.ux x) := by unfold jdRx; rw [h]
def jdRr (fd : Nat → Option Nat) (d : Int) : Value := if d < 0 then .null else va_rf (fd d.toNat)
theorem jdRr.n {fd : Nat → Option Nat} {c d : Int} (he : ∀ i : Nat, (i : Int) < c → ∃ a, fd i = some a) (h1 : d < c) (h : (Value.null) = jdRr fd d) : d < 0 := by
  unfold jdRr at h
  by_cases q : d < 0
  · exact q
  · rw [if_neg q] at h
    obtain ⟨a, ha⟩ := he d.toNat (by omega)
    rw [ha] at h
    cases h
end
section
-- p9: the reference opens, changes, closes a document
theorem jdR1.put_n (t : jDtr) {a b : Nat} (v l : Int32) (f : Nat → Int32) (u : Int32) (g : Nat → Int32) (h : b ≠ a) : jdR1 (t.put a v l f u g) b = jdR1 t b := by
  show ((jUf t.ve a v b).toInt, (jUf t.ln a l b).toInt, jdKp (jUf t.ln a l b).toInt (jSo (jUf t.tx a f b)), (jUf t.ul a u b).toInt, jdKp (jUf t.ul a u b).toInt (jSo (jUf t.ux a g b))) = _
  rw [jUf_n _ _ h, jUf_n _ _ h, jUf_n _ _ h, jUf_n _ _ h, jUf_n _ _ h]
  rfl
theorem jdIr.put {t : jDtr} {fd : Nat → Option Nat} {c c1 : Int} (h : jdIr t fd c) {a : Nat} {v l u : Int32} {f g : Nat → Int32} (h0 : 0 ≤ l.toInt) (h1 : l.toInt ≤ 1500) (h2 : 0 ≤ u.toInt) (h3 : u.toInt ≤ 40) (k0 : 0 ≤ c1) (k1 : c1 ≤ 3) : jdIr (t.put a v l f u g) fd c1 := by
  refine ⟨k0, k1, h.2.2.1, fun b => ?_⟩
  show 0 ≤ (jUf t.ln a l b).toInt ∧ (jUf t.ln a l b).toInt ≤ 1500 ∧ 0 ≤ (jUf t.ul a u b).toInt ∧ (jUf t.ul a u b).toInt ≤ 40
  by_cases e : b = a
  · subst e; rw [jUf_s, jUf_s]; exact ⟨h0, h1, h2, h3⟩
  · rw [jUf_n _ _ e, jUf_n _ _ e]; exact h.2.2.2 b
/-- a document that is not open may change -/
theorem jdRs.put {t : jDtr} {fd : Nat → Option Nat} {c : Int} (hc : c ≤ 3) {a : Nat} {v l u : Int32} {f g : Nat → Int32} (hn : ∀ i : Nat, i < 3 → fd i ≠ some a) : jdRs (t.put a v l f u g) fd c = jdRs t fd c := by
  unfold jdRs
  rw [jdLi.cg (e := fd) (h := jdR1 t) (fun i _ => rfl) (fun i b hi hb => jdR1.put_n t v l f u g (fun q => hn i (by omega) (by rw [hb, q])))]
theorem jjCh.p {T : Nat → Int → Int} {v x c c1 : Int} {k : Nat} (h : jjCh T v x k c) (hc : 0 ≤ c) (e : c1 = T 4 c) : 0 < k ∧ x < c ∧ c < v ∧ jjCh T v x (k - 1) c1 := by
  subst e
  cases k with
  | zero =>
    have h : c = -1 := h
    omega
  | succ k => exact ⟨by omega, h.1, h.2.1, h.2.2.2⟩
def jdNs (T : Nat → Int → Int) (v p : Int) (S : Int × (Int → jdD)) : Int × (Int → jdD) := if jqI T v (jChT "exit") 4 (jdMe T v) = 1 then S else jdNo T v p S
theorem jdNs.n {T : Nat → Int → Int} {v p m : Int} {S : Int × (Int → jdD)} (hm : m = jdMe T v) (h : jqI T v (jChT "exit") 4 m ≠ 1) : jdNs T v p S = jdNo T v p S := by subst hm; exact if_neg h
end
section
-- p9: what a read leaves is within bounds (strings and names among the units, sizes)
def jjBx (T : Nat → Int → Int) (e x u : Int) : Prop := (T 1 x = 3 → 0 ≤ T 2 x ∧ 0 ≤ T 3 x ∧ T 2 x + T 3 x ≤ u) ∧ (T 8 x = 1 → 0 ≤ T 5 x ∧ 0 ≤ T 6 x ∧ T 5 x + T 6 x ≤ u) ∧ 0 ≤ T 3 x ∧ T 3 x < e
theorem jjBx.up {T : Nat → Int → Int} {e x u u1 : Int} (h : jjBx T e x u) (hu : u ≤ u1) : jjBx T e x u1 := by
  obtain ⟨a, b, c⟩ := h
  refine ⟨fun q => ?_, fun q => ?_, c⟩
  · have := a q; omega
  · have := b q; omega
theorem jjBx.cg {T T1 : Nat → Int → Int} {e x u : Int} (h : jjBx T e x u) (q : ∀ t : Nat, t ≠ 7 → T1 t x = T t x) : jjBx T1 e x u := by
  unfold jjBx at h ⊢
  rw [q 1 (by decide), q 2 (by decide), q 3 (by decide), q 5 (by decide), q 6 (by decide), q 8 (by decide)]
  exact h
end
section
-- p9: the reference's tables behind a read; its kept bytes
theorem jjRd.n {b : Int → Int} {e : Int} (h : (jjVal b e 10 (jjSk b e 0) 0 0 (fun _ _ => 0)).1 < 0 ∨ jjSk b e (jjVal b e 10 (jjSk b e 0) 0 0 (fun _ _ => 0)).2.1 ≠ e) : (jjRd b e).1 = 0 := by
  unfold jjRd
  rw [if_neg (fun q => by rcases h with h | h; omega; exact h q.2)]
/-- the contents of an array of ints with these bytes -/
def jfCu (D : Int → Int) : Nat → Int32 := fun j => if j < 3000 then Int32.ofInt (D j) else 0
def jfBy (D : Int → Int) : Prop := ∀ j : Int, 0 ≤ D j ∧ D j ≤ 255
section
variable {D : Int → Int} {z p v u r q : Int} {T : Nat → Int → Int} {S : Int × (Int → jdD)}
end
end
section
-- p9: a byte as the reference takes it
/-- the reference's numbers and rows tell this state -/
def jrQ (s : jdSt) (bk m h l b : Int) (fn : Nat → Int32) (cn : Int) (fv : Nat → Int32) (cv : Int) (fk : Nat → Int32) (z : Int) (S : Int × (Int → jdD)) : Prop := ((bk = 1 ∧ s.1 0 = 1) ∨ (bk = 0 ∧ s.1 0 = 0 ∧ jfRe s.1 m h l b fn cn fv cv)) ∧ jfBy s.2.1 ∧ fk = jfCu s.2.1 ∧ s.2.2.1 = z ∧ s.2.2.2 = S
section
variable {X : Nat → Int} {s : jdSt} {c r bk pk m h l b cn cv qm qh ql qb qn qv e p z z1 n : Int} {fn fv gn gv fk gk : Nat → Int32} {S S1 : Int × (Int → jdD)} {D : Int → Int}
theorem jdStep.a1 {Y : Nat → Int} {w : Int} (h0 : s.1 0 = 0) (ha : jfAc s.1 c = (Y, 1, w)) (hM : jdMs (jdBy s c) w s.2.2.1 s.2.2.2 = (e, p, S)) : jdStep s c = (if e = 1 then jfB else Y, jdBy s c, p, S) := by
  unfold jdStep
  rw [ha, if_neg (by rw [h0]; decide), if_pos (by show (1 : Int) = 1; rfl), hM]
theorem jrQ.fin {Y : Nat → Int} {M : Int × Int × Int × (Int → jdD)} {w : Int} (h0 : s.1 0 = 0) (ha : jfAc s.1 c = (Y, 1, w)) (hY : Y 0 = 0 ∧ Y 1 = 0 ∧ Y 2 = -1 ∧ Y 3 = 0 ∧ Y 8 = 0) (hM : jdMs (jdBy s c) w s.2.2.1 s.2.2.2 = M) (hD : jfBy (jdBy s c)) (hf : gk = jfCu (jdBy s c)) (hb : (bk = 1 ∧ M.1 = 1) ∨ (bk = 0 ∧ M.1 = 0)) (hz : z1 = M.2.1) (e1 : qm = 0) (e2 : qh = 0) (e3 : ql = -1) : (∀ b1 f1 n1 f2 v1, jrQ (jdStep s c) bk qm qh ql b1 f1 n1 f2 v1 gk z1 (jdStep s c).2.2.2) ∧ (jdStep s c).2.2.2 = M.2.2 := by
  obtain ⟨e, p, S⟩ := M
  have hb : (bk = 1 ∧ e = 1) ∨ (bk = 0 ∧ e = 0) := hb
  have hz : z1 = p := hz
  have es := jdStep.a1 h0 ha hM
  rw [es]
  refine ⟨fun b1 f1 n1 f2 v1 => ⟨?_, hD, hf, hz.symm, rfl⟩, rfl⟩
  rcases hb with ⟨g1, g2⟩ | ⟨g1, g2⟩
  · refine Or.inl ⟨g1, ?_⟩
    show (if e = 1 then jfB else Y) 0 = 1
    rw [if_pos g2]
    rfl
  · refine Or.inr ⟨g1, ?_, ?_⟩
    · show (if e = 1 then jfB else Y) 0 = 0
      rw [if_neg (by omega)]
      exact hY.1
    · show jfRe (if e = 1 then jfB else Y) qm qh ql b1 f1 n1 f2 v1
      rw [if_neg (by omega)]
      exact ⟨by omega, Or.inr ⟨by omega, by omega, Or.inl ⟨by omega, e1⟩⟩⟩
end
theorem jdFd.cg {a b : Int → Int} {s : jdSt} : ∀ k : Nat, (∀ j : Nat, j < k → a j = b j) → jdFd a s k = jdFd b s k
  | 0, _ => rfl
  | k + 1, h => by
    show jdStep (jdFd a s k) (a k) = jdStep (jdFd b s k) (b k)
    rw [jdFd.cg k (fun j hj => h j (by omega)), h k (by omega)]
end
section
-- p8: the sentences of a text, by their numbers
theorem jOpI.in {f : Nat → Int32} {i n : Int} (h : jOpI f i n = 1) : i + 1 < n ∧ jSo f i = 40 ∧ jSo f (i + 1) = 42 := by
  unfold jOpI at h
  split at h
  · rename_i w; exact w
  · omega
theorem jClI.in {f : Nat → Int32} {i n : Int} (h : jClI f i n = 1) : i + 1 < n ∧ jSo f i = 42 ∧ jSo f (i + 1) = 41 := by
  unfold jClI at h
  split at h
  · rename_i w; exact w
  · omega
theorem jBc.rg {f : Nat → Int32} {n : Int} : ∀ (k : Nat) (i d : Int), jBc f n k i d = -1 ∨ (i + 2 ≤ jBc f n k i d ∧ jBc f n k i d ≤ n)
  | 0, _, _ => Or.inl rfl
  | k + 1, i, d => by
    rw [jBc_s (by omega), show k + 1 - 1 = k by omega]
    by_cases q : i < n
    · rw [if_pos q]
      by_cases w : jOpI f i n = 1
      · rw [if_pos w]
        rcases jBc.rg k (i + 2) (d + 1) with h | ⟨h, h1⟩
        · exact Or.inl h
        · exact Or.inr ⟨by omega, h1⟩
      · rw [if_neg w]
        by_cases v : jClI f i n = 1
        · rw [if_pos v]
          by_cases e : d = 1
          · rw [if_pos e]
            have := (jClI.in v).1
            exact Or.inr ⟨by omega, by omega⟩
          · rw [if_neg e]
            rcases jBc.rg k (i + 2) (d - 1) with h | ⟨h, h1⟩
            · exact Or.inl h
            · exact Or.inr ⟨by omega, h1⟩
        · rw [if_neg v]
          rcases jBc.rg k (i + 1) d with h | ⟨h, h1⟩
          · exact Or.inl h
          · exact Or.inr ⟨by omega, h1⟩
    · rw [if_neg q]; exact Or.inl rfl
theorem jBcc.rg {f : Nat → Int32} {n i : Int} : jBcc f n i = -1 ∨ (i + 2 ≤ jBcc f n i ∧ jBcc f n i ≤ n) := jBc.rg _ _ _
theorem jGa.rg {f : Nat → Int32} {n : Int} : ∀ (k : Nat) (i : Int), i ≤ n → i ≤ jGa f n k i ∧ jGa f n k i ≤ n
  | 0, _, h => ⟨h, Int.le_refl n⟩
  | k + 1, i, h => by
    rw [jGa_s (by omega), show k + 1 - 1 = k by omega]
    by_cases q : i < n
    · rw [if_pos q]
      by_cases w : jBlk (jSo f i) = 1
      · rw [if_pos w]
        have := jGa.rg (f := f) (n := n) k (i + 1) (by omega)
        omega
      · rw [if_neg w]
        by_cases v : jOpI f i n = 1 ∧ 0 ≤ jBcc f n i
        · rw [if_pos v]
          rcases jBcc.rg (f := f) (n := n) (i := i) with e | ⟨e, e1⟩
          · omega
          · have := jGa.rg (f := f) (n := n) k (jBcc f n i) e1
            omega
        · rw [if_neg v]; omega
    · rw [if_neg q]; omega
theorem jGap.rg {f : Nat → Int32} {n i : Int} (h : i ≤ n) : i ≤ jGap f n i ∧ jGap f n i ≤ n := jGa.rg _ _ h
theorem jSx.rg {f : Nat → Int32} {n : Int} : ∀ (k : Nat) (i : Int), jSx f n k i = -1 ∨ (i < jSx f n k i ∧ jSx f n k i ≤ n)
  | 0, _ => Or.inl rfl
  | k + 1, i => by
    rw [jSx_s (by omega), show k + 1 - 1 = k by omega]
    by_cases q : i < n
    · rw [if_pos q]
      by_cases w : jOpI f i n = 1
      · rw [if_pos w]
        by_cases v : jBcc f n i < 0
        · rw [if_pos v]; exact Or.inl rfl
        · rw [if_neg v]
          rcases jBcc.rg (f := f) (n := n) (i := i) with e | ⟨e, e1⟩
          · omega
          · rcases jSx.rg (f := f) (n := n) k (jBcc f n i) with h | ⟨h, h1⟩
            · exact Or.inl h
            · exact Or.inr ⟨by omega, h1⟩
      · rw [if_neg w]
        by_cases v : jDt f n i = 1
        · rw [if_pos v]; exact Or.inr ⟨by omega, by omega⟩
        · rw [if_neg v]
          rcases jSx.rg (f := f) (n := n) k (i + 1) with h | ⟨h, h1⟩
          · exact Or.inl h
          · exact Or.inr ⟨by omega, h1⟩
    · rw [if_neg q]; exact Or.inl rfl
theorem jEn.rg {f : Nat → Int32} {n i : Int} (h : i < n) : i < jEn f n i ∧ jEn f n i ≤ n := by
  unfold jEn jSen
  rcases jSx.rg (f := f) (n := n) ((n - i).toNat + 1) i with e | ⟨e, e1⟩
  · rw [if_pos (by omega)]; omega
  · split
    · omega
    · exact ⟨e, e1⟩
theorem jEn.le {f : Nat → Int32} {n i : Int} (h0 : 0 ≤ n) : jEn f n i ≤ n := by
  unfold jEn jSen
  rcases jSx.rg (f := f) (n := n) ((n - i).toNat + 1) i with e | ⟨e, e1⟩
  · rw [if_pos (by omega)]; omega
  · split
    · omega
    · exact e1
def jcB (f : Nat → Int32) (n : Int) : Nat → Int
  | 0 => jGap f n 0
  | k + 1 => jGap f n (jEn f n (jcB f n k))
/-- is there more behind the last one -/
def jcM (f : Nat → Int32) (n : Int) (k : Nat) : Int := if k = 39 ∧ jcB f n (k + 1) < n then 1 else 0
def jcE (f : Nat → Int32) (n : Int) (k : Nat) : Int := if jcM f n k = 1 then n else jEn f n (jcB f n k)
def jcF (f : Nat → Int32) (n : Int) (k : Nat) : Int := if jcM f n k = 1 then 2 else if jSen f n (jcB f n k) < 0 then 1 else 0
theorem jcB.nn {f : Nat → Int32} {n : Int} (hn : 0 ≤ n) : ∀ k, 0 ≤ jcB f n k
  | 0 => jGa_nn hn _ _ (by omega)
  | k + 1 => jGa_nn hn _ _ (jEn_nn hn)
theorem jcB.le {f : Nat → Int32} {n : Int} (hn : 0 ≤ n) : ∀ k, jcB f n k ≤ n
  | 0 => (jGap.rg hn).2
  | k + 1 => (jGap.rg (jEn.le hn)).2
theorem jcB.up {f : Nat → Int32} {n : Int} {k : Nat} (h : jcB f n k < n) : jcB f n k < jEn f n (jcB f n k) ∧ jEn f n (jcB f n k) ≤ jcB f n (k + 1) := by
  have := jEn.rg (f := f) h
  exact ⟨this.1, (jGap.rg this.2).1⟩
theorem jcB.st {f : Nat → Int32} {n : Int} {k : Nat} (h : n ≤ jcB f n k) (hn : 0 ≤ n) : n ≤ jcB f n (k + 1) := by
  have e0 : jSen f n (jcB f n k) = -1 := by
    unfold jSen
    rw [jSx_s (by omega), if_neg (by omega)]
  have e : jEn f n (jcB f n k) = n := by
    unfold jEn
    rw [e0, if_pos (by decide)]
  show n ≤ jGap f n (jEn f n (jcB f n k))
  rw [e]
  exact (jGap.rg (Int.le_refl n)).1
theorem jcB.cg {f g : Nat → Int32} {n : Int} (hn : 0 ≤ n) (h : jEqU f g n) : ∀ k, jcB f n k = jcB g n k
  | 0 => jGa_cg h _ _ (by omega)
  | k + 1 => by
    show jGap f n (jEn f n (jcB f n k)) = jGap g n (jEn g n (jcB g n k))
    rw [jcB.cg hn h k, jEn_cg h (jcB.nn hn k)]
    exact jGa_cg h _ _ (jEn_nn hn)
theorem jcM.cg {f g : Nat → Int32} {n : Int} (hn : 0 ≤ n) (h : jEqU f g n) (k : Nat) : jcM f n k = jcM g n k := by
  unfold jcM
  rw [jcB.cg hn h (k + 1)]
theorem jcE.cg {f g : Nat → Int32} {n : Int} (hn : 0 ≤ n) (h : jEqU f g n) (k : Nat) : jcE f n k = jcE g n k := by
  unfold jcE
  rw [jcM.cg hn h k, jcB.cg hn h k, jEn_cg h (jcB.nn hn k)]
theorem jcF.cg {f g : Nat → Int32} {n : Int} (hn : 0 ≤ n) (h : jEqU f g n) (k : Nat) : jcF f n k = jcF g n k := by
  unfold jcF jSen
  rw [jcM.cg hn h k, jcB.cg hn h k, jSx_cg h _ _ (jcB.nn hn k)]
theorem jcE.rg {f : Nat → Int32} {n : Int} {k : Nat} (h : jcB f n k < n) : jcB f n k < jcE f n k ∧ jcE f n k ≤ n := by
  unfold jcE
  split
  · exact ⟨h, Int.le_refl n⟩
  · exact jEn.rg h
theorem jcE.nx {f : Nat → Int32} {n : Int} {k : Nat} (h : jcB f n k < n) (hk : k ≠ 39) : jcE f n k ≤ jcB f n (k + 1) := by
  have e : jcM f n k = 0 := if_neg (fun q => hk q.1)
  unfold jcE
  rw [e, if_neg (by decide)]
  exact (jcB.up h).2
/-- how many there are -/
theorem jPn.ch {f : Nat → Int32} {n : Int} (hn : 0 ≤ n) : ∀ (m k : Nat), k ≤ 39 → n - jcB f n k < m → (k : Int) ≤ jPn f n m (jcB f n k) k ∧ jPn f n m (jcB f n k) k ≤ 40 ∧ (∀ j : Nat, k ≤ j → (j : Int) < jPn f n m (jcB f n k) k → jcB f n j < n) ∧ (jPn f n m (jcB f n k) k < 40 → n ≤ jcB f n (jPn f n m (jcB f n k) k).toNat)
  | 0, k, _, h => by have := jcB.le (f := f) hn k; omega
  | m + 1, k, hk, h => by
    rw [jPn_s (by omega), show m + 1 - 1 = m by omega]
    by_cases q : jcB f n k < n
    · rw [if_pos q]
      by_cases e : (k : Int) = 39
      · rw [if_pos e]
        refine ⟨by omega, by omega, fun j h0 h1 => ?_, fun w => by omega⟩
        have e1 : j = k := by omega
        rw [e1]; exact q
      · rw [if_neg e, show jGap f n (jEn f n (jcB f n k)) = jcB f n (k + 1) from rfl]
        have u := jcB.up q
        obtain ⟨i1, i2, i3, i4⟩ := jPn.ch (f := f) hn m (k + 1) (by omega) (by omega)
        have ec : (((k + 1 : Nat)) : Int) = (k : Int) + 1 := by omega
        rw [ec] at i1 i2 i3 i4
        refine ⟨by omega, i2, fun j h0 h1 => ?_, i4⟩
        by_cases e1 : j = k
        · rw [e1]; exact q
        · exact i3 j (by omega) h1
    · rw [if_neg q]
      refine ⟨Int.le_refl _, by omega, fun j h0 h1 => by omega, fun _ => ?_⟩
      rw [show ((k : Int)).toNat = k by omega]
      omega
theorem jPar.ch {f : Nat → Int32} {n : Int} (hn : 0 ≤ n) : 0 ≤ jPar f n ∧ jPar f n ≤ 40 ∧ (∀ j : Nat, (j : Int) < jPar f n → jcB f n j < n) ∧ (jPar f n < 40 → n ≤ jcB f n (jPar f n).toNat) := by
  have h := jPn.ch (f := f) hn ((n - jGap f n 0).toNat + 2) 0 (by omega) (by show n - jGap f n 0 < _; omega)
  obtain ⟨h1, h2, h3, h4⟩ := h
  exact ⟨h1, h2, fun j hj => h3 j (by omega) hj, h4⟩
def jcL (f : Nat → Int32) : Nat → Int → List Int
  | 0, _ => []
  | z + 1, b => jSo f b :: jcL f z (b + 1)
theorem jcL.len {f : Nat → Int32} : ∀ (z : Nat) (b : Int), (jcL f z b).length = z
  | 0, _ => rfl
  | z + 1, b => congrArg (· + 1) (jcL.len z (b + 1))
theorem jcL.cg {f g : Nat → Int32} : ∀ (z : Nat) (b c : Int), (∀ j : Int, 0 ≤ j → j < z → jSo f (b + j) = jSo g (c + j)) → jcL f z b = jcL g z c
  | 0, _, _, _ => rfl
  | z + 1, b, c, h => by
    show jSo f b :: jcL f z (b + 1) = jSo g c :: jcL g z (c + 1)
    have e := h 0 (by omega) (by omega)
    rw [Int.add_zero, Int.add_zero] at e
    rw [e, jcL.cg z (b + 1) (c + 1) (fun j h0 h1 => by
      have := h (j + 1) (by omega) (by omega)
      rw [show b + 1 + j = b + (j + 1) by omega, show c + 1 + j = c + (j + 1) by omega]
      exact this)]
theorem jcL.eq {f g : Nat → Int32} : ∀ (z : Nat) (b c : Int), jcL f z b = jcL g z c → ∀ j : Int, 0 ≤ j → j < z → jSo f (b + j) = jSo g (c + j)
  | 0, _, _, _, j, h0, h1 => by omega
  | z + 1, b, c, h, j, h0, h1 => by
    have h : jSo f b :: jcL f z (b + 1) = jSo g c :: jcL g z (c + 1) := h
    injection h with e1 e2
    by_cases q : j = 0
    · subst q
      rw [Int.add_zero, Int.add_zero]; exact e1
    · have := jcL.eq z (b + 1) (c + 1) e2 (j - 1) (by omega) (by omega)
      rw [show b + 1 + (j - 1) = b + j by omega, show c + 1 + (j - 1) = c + j by omega] at this
      exact this
theorem jcL.sn {f : Nat → Int32} : ∀ (z : Nat) (b : Int), jcL f (z + 1) b = jcL f z b ++ [jSo f (b + z)]
  | 0, b => by
    show [jSo f b] = [jSo f (b + ((0 : Nat) : Int))]
    rw [show b + ((0 : Nat) : Int) = b by omega]
  | z + 1, b => by
    show jSo f b :: jcL f (z + 1) (b + 1) = jSo f b :: (jcL f z (b + 1) ++ [jSo f (b + ((z + 1 : Nat) : Int))])
    rw [jcL.sn z (b + 1), show b + 1 + (z : Int) = b + ((z + 1 : Nat) : Int) by omega]
/-- the units of a sentence; those of the first k, each with a mark behind it -/
def jcU (f : Nat → Int32) (n : Int) (k : Nat) : List Int := jcL f (jcE f n k - jcB f n k).toNat (jcB f n k)
def jcR (f : Nat → Int32) (n : Int) : Nat → List Int
  | 0 => []
  | k + 1 => jcR f n k ++ (jcU f n k ++ [-1])
theorem jcU.cg {f g : Nat → Int32} {n : Int} (hn : 0 ≤ n) (h : jEqU f g n) (k : Nat) : jcU f n k = jcU g n k := by
  unfold jcU
  rw [jcE.cg hn h k, jcB.cg hn h k]
  refine jcL.cg _ _ _ (fun j h0 h1 => ?_)
  have h2 := jcB.nn (f := g) hn k
  have h3 : jcE g n k ≤ n := by
    unfold jcE
    split
    · exact Int.le_refl n
    · exact jEn.le hn
  exact h (jcB g n k + j) (by omega) (by omega)
theorem jcR.cg {f g : Nat → Int32} {n : Int} (hn : 0 ≤ n) (h : jEqU f g n) : ∀ k, jcR f n k = jcR g n k
  | 0 => rfl
  | k + 1 => by
    show jcR f n k ++ (jcU f n k ++ [-1]) = jcR g n k ++ (jcU g n k ++ [-1])
    rw [jcR.cg hn h k, jcU.cg hn h k]
end
section
-- p8: equal units have equal flaws; what a sentence costs
section
variable {f g : Nat → Int32} {d lo hi n m : Int}
theorem jDt.in {i : Int} (h : jDt f n i = 1) : jSo f i = 46 ∧ (i + 1 = n ∨ jBlk (jSo f (i + 1)) = 1 ∨ jOpI f (i + 1) n = 1) := by
  unfold jDt at h
  split at h
  · rename_i w; exact w
  · omega
end
def jcSg (u : Int) : Int := if (97 ≤ u ∧ u ≤ 122) ∨ (65 ≤ u ∧ u ≤ 90) ∨ (48 ≤ u ∧ u ≤ 57) ∨ u = 95 ∨ u = 39 then 1 else 0
def jcLe (u : Int) : Int := if (97 ≤ u ∧ u ≤ 122) ∨ (65 ≤ u ∧ u ≤ 90) then 1 else 0
def jcW (f : Nat → Int32) (e : Int) : Nat → Int → Int
  | 0, i => i
  | k + 1, i => if i < e ∧ jcSg (jSo f i) = 1 then jcW f e k (i + 1) else i
/-- where a name ends -/
def jcWd (f : Nat → Int32) (e i : Int) : Int := jcW f e (e - i).toNat i
/-- how many tokens (and units that are in none) from i up to e -/
def jcK (f : Nat → Int32) (n e : Int) : Nat → Int → Int
  | 0, _ => 0
  | k + 1, i => if i < e then (if jOpI f i n = 1 then jcK f n e k (jBcc f n i) else if jcLe (jSo f i) = 1 then (if jcWd f e i - i ≤ 10 then 1 else jcWd f e i - i) + jcK f n e k (jcWd f e i) else if jSo f i = 45 ∧ i + 1 < e ∧ jSo f (i + 1) = 62 then 1 + jcK f n e k (i + 2) else if jBlk (jSo f i) = 1 then jcK f n e k (i + 1) else 1 + jcK f n e k (i + 1)) else 0
def jcC (f : Nat → Int32) (n : Int) (k : Nat) : Int := 3 + (if 0 < jcF f n k then 1 else jcK f n (jcE f n k) ((jcE f n k - jcB f n k).toNat + 1) (jcB f n k))
theorem jcW_s {f : Nat → Int32} {e i i1 : Int} {k : Nat} (hk : 0 < k) (hi : i < e) (h : jcSg (jSo f i) = 1) (e1 : i1 = i + 1) : jcW f e (k - 1) i1 = jcW f e k i := by
  subst e1
  cases k with
  | zero => omega
  | succ k => exact (if_pos ⟨hi, h⟩).symm
theorem jcW.rg {f : Nat → Int32} {e : Int} : ∀ (k : Nat) (i : Int), i ≤ e → i ≤ jcW f e k i ∧ jcW f e k i ≤ e
  | 0, _, h => ⟨Int.le_refl _, h⟩
  | k + 1, i, h => by
    by_cases w : i < e ∧ jcSg (jSo f i) = 1
    · rw [show jcW f e (k + 1) i = jcW f e k (i + 1) from if_pos w]
      have := jcW.rg (f := f) (e := e) k (i + 1) (by omega)
      omega
    · rw [show jcW f e (k + 1) i = i from if_neg w]
      omega
theorem jcLe.sg {u : Int} (h : jcLe u = 1) : jcSg u = 1 := by
  unfold jcLe at h
  unfold jcSg
  split at h
  · rename_i w
    exact if_pos (by omega)
  · omega
theorem jcWd.lt {f : Nat → Int32} {e i : Int} (hi : i < e) (h : jcLe (jSo f i) = 1) : i < jcWd f e i ∧ jcWd f e i ≤ e := by
  have e1 : jcW f e ((e - i).toNat - 1) (i + 1) = jcWd f e i := jcW_s (by omega) hi (jcLe.sg h) rfl
  have := jcW.rg (f := f) (e := e) ((e - i).toNat - 1) (i + 1) (by omega)
  omega
-- a place in a finished sentence, outside of its comments
section
variable {f : Nat → Int32} {n e i i1 : Int}
variable {k : Nat} {c : Int}
theorem jcK_s (hk : 0 < k) : jcK f n e k i = if i < e then (if jOpI f i n = 1 then jcK f n e (k - 1) (jBcc f n i) else if jcLe (jSo f i) = 1 then (if jcWd f e i - i ≤ 10 then 1 else jcWd f e i - i) + jcK f n e (k - 1) (jcWd f e i) else if jSo f i = 45 ∧ i + 1 < e ∧ jSo f (i + 1) = 62 then 1 + jcK f n e (k - 1) (i + 2) else if jBlk (jSo f i) = 1 then jcK f n e (k - 1) (i + 1) else 1 + jcK f n e (k - 1) (i + 1)) else 0 := by
  cases k with
  | zero => omega
  | succ k => rfl
end
theorem jcLe.lt (u : Int) : jcLe u = jLt u := by
  unfold jcLe jLt jIn
  by_cases a : 97 ≤ u ∧ u ≤ 122
  · rw [if_pos (Or.inl a), if_pos a, if_pos rfl]
  · rw [if_neg a, if_neg (show ¬ (0 : Int) = 1 by decide)]
    by_cases b : 65 ≤ u ∧ u ≤ 90
    · rw [if_pos (Or.inr b), if_pos b]
    · rw [if_neg b, if_neg (fun q => by rcases q with q | q; exact a q; exact b q)]
end
section
-- p8: what is checked, by whom, who waits, what the cache keeps: a machine over the documents' numbers
/-- an id: 1 a string, 0 an int; the int; the units -/
abbrev jwI := Int × Int × List Int
/-- one that waits: its document, how many sentences it needs, its id -/
abbrev jwQ := Int × Int × jwI
/-- checked sentences by document; the workers: document (-1: none) and steps left; who waits; the rows of the cache -/
abbrev jwSt := (Int → Int) × (Int → Int × Int) × List jwQ × List (List Int)
def jwF (S : Int × (Int → jdD)) (d : Int) : Nat → Int32 := fun j => Int32.ofInt ((S.2 d).2.2.1 j)
def jwL (S : Int × (Int → jdD)) (d : Int) : Int := (S.2 d).2.1
def jwS (S : Int × (Int → jdD)) (d : Int) : Int := jPar (jwF S d) (jwL S d)
def jwR (S : Int × (Int → jdD)) (d k : Int) : List Int := jcR (jwF S d) (jwL S d) k.toNat
def jwC (S : Int × (Int → jdD)) (d k : Int) : Int := jcC (jwF S d) (jwL S d) k.toNat
def jwUp (K : Int → Int) (d x : Int) : Int → Int := fun i => if i = d then x else K i
def jwUw (W : Int → Int × Int) (w : Int) (x : Int × Int) : Int → Int × Int := fun i => if i = w then x else W i
def jwAs (Q : List jwQ) (d : Int) : Bool := Q.any (fun q => decide (q.1 = d))
/-- the next document of which a sentence is taken: k from d on are still to be looked at, x is the first one so far -/
def jwN (S : Int × (Int → jdD)) (Z : jwSt) : Nat → Int → Int → Int
  | 0, _, x => x
  | k + 1, d, x => if Z.1 d < jwS S d ∧ (Z.2.1 0).1 ≠ d ∧ (Z.2.1 1).1 ≠ d then (if jwAs Z.2.2.1 d = true then d else jwN S Z k (d + 1) (if x < 0 then d else x)) else jwN S Z k (d + 1) x
def jwNx (S : Int × (Int → jdD)) (Z : jwSt) : Int := jwN S Z S.1.toNat 0 (-1)
/-- what a check of the next sentence of d costs -/
def jwLf (S : Int × (Int → jdD)) (Z : jwSt) (d : Int) : Int := if jwR S d (Z.1 d + 1) ∈ Z.2.2.2 then 1 else jwC S d (Z.1 d)
def jwTk (S : Int × (Int → jdD)) (Z : jwSt) (w : Int) : jwSt := if jwNx S Z < 0 then Z else (Z.1, jwUw Z.2.1 w (jwNx S Z, jwLf S Z (jwNx S Z)), Z.2.2)
def jwKp (C : List (List Int)) (r : List Int) : List (List Int) := (if r ∈ C then C.erase r else if 24 ≤ C.length then C.tail else C) ++ [r]
def jwRy (d c : Int) (q : jwQ) : Bool := decide (q.1 = d) && decide (q.2.1 ≤ c)
def jwFin (S : Int × (Int → jdD)) (Z : jwSt) (w d : Int) : jwSt := (jwUp Z.1 d (Z.1 d + 1), jwUw Z.2.1 w (-1, 0), Z.2.2.1.filter (fun q => !jwRy d (Z.1 d + 1) q), jwKp Z.2.2.2 (jwR S d (Z.1 d + 1)))
def jwDo (S : Int × (Int → jdD)) (Z : jwSt) (w : Int) : jwSt := if (Z.2.1 w).1 < 0 then Z else if (Z.2.1 w).2 ≤ 1 then jwFin S Z w (Z.2.1 w).1 else (Z.1, jwUw Z.2.1 w ((Z.2.1 w).1, (Z.2.1 w).2 - 1), Z.2.2)
def jwAd (S : Int × (Int → jdD)) (Z : jwSt) (w : Int) : jwSt := jwDo S (if (Z.2.1 w).1 < 0 then jwTk S Z w else Z) w
/-- is there work -/
def jwHs (S : Int × (Int → jdD)) (Z : jwSt) : Int := if 0 ≤ (Z.2.1 0).1 ∨ 0 ≤ (Z.2.1 1).1 ∨ 0 ≤ jwNx S Z then 1 else 0
def jwWk (S : Int × (Int → jdD)) : Nat → jwSt → Int × jwSt
  | 0, Z => (0, Z)
  | k + 1, Z => if jwHs S Z = 1 then ((jwWk S k (jwAd S (jwAd S Z 0) 1)).1 + 1, (jwWk S k (jwAd S (jwAd S Z 0) 1)).2) else (0, Z)
def jwUn (T : Nat → Int → Int) (v i : Int) : Nat → Int → List Int
  | 0, _ => []
  | z + 1, j => jqA T v i j :: jwUn T v i z (j + 1)
def jwId (T : Nat → Int → Int) (v i : Int) : jwI := if jqK T v i = 3 then (1, 0, jwUn T v i (T 3 i).toNat 0) else (0, T 2 i, [])
def jwPu (Q : List jwQ) (q : jwQ) : List jwQ := if Q.length < 12 then Q ++ [q] else Q
/-- how many sentences end at a place or ahead of it -/
def jwNd (f : Nat → Int32) (n s p : Int) : Nat → Int → Int
  | 0, k => k
  | x + 1, k => if k < s ∧ jcE f n k.toNat ≤ p then jwNd f n s p x (k + 1) else k
def jwPo (T : Nat → Int → Int) (v : Int) : Int := jqM T v (jChT "position") 8 (jdPm T v)
def jwNa (T : Nat → Int → Int) (v : Int) : Int := jqM T v (jChT "name") 4 (jdPm T v)
def jwAsk (T : Nat → Int → Int) (v d nd : Int) (Z : jwSt) : jwSt := if Z.1 d < nd then (Z.1, Z.2.1, jwPu Z.2.2.1 (d, nd, jwId T v (jdId T v)), Z.2.2.2) else Z
def jwGo (T : Nat → Int → Int) (v : Int) (S : Int × (Int → jdD)) (Z : jwSt) (d : Int) : jwSt := if 0 ≤ d ∧ 0 ≤ jdT T v (S.2 d).2.2.1 (S.2 d).2.1 (jwPo T v) then jwAsk T v d (jwNd (jwF S d) (jwL S d) (jwS S d) (jdT T v (S.2 d).2.2.1 (S.2 d).2.1 (jwPo T v)) 40 0) Z else Z
def jwSt1 (T : Nat → Int → Int) (v : Int) (S : Int × (Int → jdD)) (Z : jwSt) (d : Int) : jwSt := if 0 ≤ d ∧ jqK T v (jwNa T v) = 3 then jwAsk T v d (jwS S d) Z else Z
def jwRq (T : Nat → Int → Int) (v p : Int) (S : Int × (Int → jdD)) (Z : jwSt) : jwSt := if p = 1 ∧ jqI T v (jChT jdIn) 10 (jdMe T v) ≠ 1 ∧ jqI T v (jChT "shutdown") 8 (jdMe T v) ≠ 1 then (if jqI T v (jChT "proof/goals") 11 (jdMe T v) = 1 then jwGo T v S Z (jdWh T v S.1 S.2) else if jqI T v (jChT "proof/statement") 15 (jdMe T v) = 1 then jwSt1 T v S Z (jdWh T v S.1 S.2) else Z) else Z
/-- how many sentences stay as they were -/
def jwSm (f : Nat → Int32) (n : Int) (g : Nat → Int32) (m s : Int) : Nat → Int → Int
  | 0, k => k
  | x + 1, k => if k < s ∧ jcU f n k.toNat = jcU g m k.toNat then jwSm f n g m s x (k + 1) else k
def jwSy (f : Nat → Int32) (n : Int) (g : Nat → Int32) (m : Int) : Int := jwSm f n g m (if jPar f n ≤ jPar g m then jPar f n else jPar g m) 40 0
def jwOp (T : Nat → Int → Int) (v : Int) (S : Int × (Int → jdD)) (Z : jwSt) : jwSt := if jdOp T v S.1 S.2 = 1 then (jwUp Z.1 S.1 0, Z.2) else Z
def jwCg1 (S S1 : Int × (Int → jdD)) (Z : jwSt) (d : Int) : jwSt := (jwUp Z.1 d (if Z.1 d ≤ jwSy (jwF S d) (jwL S d) (jwF S1 d) (jwL S1 d) then Z.1 d else jwSy (jwF S d) (jwL S d) (jwF S1 d) (jwL S1 d)), (fun w => if (Z.2.1 w).1 = d ∧ jwSy (jwF S d) (jwL S d) (jwF S1 d) (jwL S1 d) ≤ Z.1 d then (-1, 0) else Z.2.1 w), Z.2.2.1.filter (fun q => !decide (q.1 = d)), Z.2.2.2)
def jwCg (T : Nat → Int → Int) (v : Int) (S : Int × (Int → jdD)) (Z : jwSt) : jwSt := if jdCg T v S.1 S.2 = 1 then jwCg1 S (jdChange T v S) Z (jdWh T v S.1 S.2) else Z
def jwDn (d x : Int) : Int := if d < x then x - 1 else x
def jwCl1 (Z : jwSt) (d : Int) : jwSt := ((fun i => if i < d then Z.1 i else Z.1 (i + 1)), (fun w => if (Z.2.1 w).1 = d then (-1, 0) else (jwDn d (Z.2.1 w).1, (Z.2.1 w).2)), (Z.2.2.1.filter (fun q => !decide (q.1 = d))).map (fun q => (jwDn d q.1, q.2)), Z.2.2.2)
def jwCl (T : Nat → Int → Int) (v : Int) (S : Int × (Int → jdD)) (Z : jwSt) : jwSt := if 0 ≤ jdWh T v S.1 S.2 then jwCl1 Z (jdWh T v S.1 S.2) else Z
def jwPi (T : Nat → Int → Int) (v : Int) : Int := jqM T v (jChT "id") 2 (jdPm T v)
def jwCa (T : Nat → Int → Int) (v : Int) (Z : jwSt) : jwSt := if jqK T v (jwPi T v) = 4 ∨ (jqK T v (jwPi T v) = 3 ∧ T 3 (jwPi T v) ≤ 20) then (Z.1, Z.2.1, Z.2.2.1.eraseP (fun q => decide (q.2.2 = jwId T v (jwPi T v))), Z.2.2.2) else Z
def jwNo (T : Nat → Int → Int) (v p : Int) (S : Int × (Int → jdD)) (Z : jwSt) : jwSt := if p ≠ 1 then Z else if jqI T v (jChT "textDocument/didOpen") 20 (jdMe T v) = 1 then jwOp T v S Z else if jqI T v (jChT "textDocument/didChange") 22 (jdMe T v) = 1 then jwCg T v S Z else if jqI T v (jChT "textDocument/didClose") 21 (jdMe T v) = 1 then jwCl T v S Z else if jqI T v (jChT "$/cancelRequest") 15 (jdMe T v) = 1 then jwCa T v Z else Z
/-- what holds of it between two calls -/
def jwOk (S : Int × (Int → jdD)) (Z : jwSt) : Prop := (∀ d : Int, 0 ≤ d → d < S.1 → 0 ≤ Z.1 d ∧ Z.1 d ≤ jwS S d) ∧ (∀ w : Int, w = 0 ∨ w = 1 → Z.2.1 w = (-1, 0) ∨ (0 ≤ (Z.2.1 w).1 ∧ (Z.2.1 w).1 < S.1 ∧ Z.1 (Z.2.1 w).1 < jwS S (Z.2.1 w).1 ∧ 1 ≤ (Z.2.1 w).2)) ∧ ((Z.2.1 0).1 = (Z.2.1 1).1 → (Z.2.1 0).1 = -1) ∧ (∀ q ∈ Z.2.2.1, 0 ≤ q.1 ∧ q.1 < S.1 ∧ Z.1 q.1 < q.2.1) ∧ Z.2.2.1.length ≤ 12 ∧ Z.2.2.2.length ≤ 24
end
section
-- p8: rows of units in arrays; the cache
theorem jcL.st {f g : Nat → Int32} {w x N : Int} (h0 : 0 ≤ w) (hN : w < N) (hv : jSo g w = x) (ho : ∀ j : Nat, (j : Int) < N → j ≠ w.toNat → g j = f j) : jcL g (w + 1).toNat 0 = jcL f w.toNat 0 ++ [x] := by
  rw [show (w + 1).toNat = w.toNat + 1 by omega, jcL.sn w.toNat 0, show (0 : Int) + (w.toNat : Int) = w by omega, hv]
  congr 1
  refine jcL.cg _ _ _ (fun j j0 j1 => ?_)
  show (g (0 + j).toNat).toInt = (f (0 + j).toNat).toInt
  rw [ho (0 + j).toNat (by omega) (by omega)]
/-- the sentences stand in two arrays -/
def jcP (f : Nat → Int32) (n : Int) (b e : Nat → Int32) (c : Int) : Prop := ∀ k : Nat, (k : Int) < c → jSo b k = jcB f n k ∧ jSo e k = jcE f n k ∧ jcB f n k < n
def jcPf (f : Nat → Int32) (n : Int) (l : Nat → Int32) (c : Int) : Prop := ∀ k : Nat, (k : Int) < c → jSo l k = jcF f n k
theorem jcP.nil {f b e : Nat → Int32} {n : Int} : jcP f n b e 0 := fun k h => by omega
theorem jcPf.nil {f l : Nat → Int32} {n : Int} : jcPf f n l 0 := fun k h => by omega
theorem jcP.cg {f g b e : Nat → Int32} {n c : Int} (hn : 0 ≤ n) (h : jcP f n b e c) (hf : jEqU f g n) : jcP g n b e c := fun k hk => by
  obtain ⟨h1, h2, h3⟩ := h k hk
  rw [← jcB.cg hn hf k, ← jcE.cg hn hf k]
  exact ⟨h1, h2, h3⟩
/-- the loop of part: where the next one begins -/
theorem jcB.nx {f : Nat → Int32} {n i x : Int} {c c1 : Int} (h0 : 0 ≤ c) (ei : i = jcB f n c.toNat) (ex : x = jGap f n (jEn f n i)) (hc : c1 = c + 1) : x = jcB f n c1.toNat := by
  subst hc
  rw [show (c + 1).toNat = c.toNat + 1 by omega, ex, ei]
  rfl
theorem jcM.n {f : Nat → Int32} {n i x : Int} {c : Int} (ei : i = jcB f n c.toNat) (ex : x = jEn f n i) (h : c ≠ 39 ∨ n ≤ jGap f n x) (h0 : 0 ≤ c) : jcM f n c.toNat = 0 := if_neg (fun q => by
  have q2 : jGap f n (jEn f n (jcB f n c.toNat)) < n := q.2
  rw [← ei, ← ex] at q2
  have q1 := q.1
  omega)
theorem jcE.n {f : Nat → Int32} {n i x : Int} {c : Int} (ei : i = jcB f n c.toNat) (ex : x = jEn f n i) (h : c ≠ 39 ∨ n ≤ jGap f n x) (h0 : 0 ≤ c) : x = jcE f n c.toNat := by
  unfold jcE
  rw [jcM.n ei ex h h0, if_neg (by decide), ← ei, ex]
theorem jcF.n {f : Nat → Int32} {n i x s y : Int} {c : Int} (ei : i = jcB f n c.toNat) (ex : x = jEn f n i) (h : c ≠ 39 ∨ n ≤ jGap f n x) (h0 : 0 ≤ c) (es : s = jSen f n i) (ey : y = if s < 0 then 1 else 0) : y = jcF f n c.toNat := by
  unfold jcF
  rw [jcM.n ei ex h h0, if_neg (by decide), ← ei, ← es, ey]
def jwCh (f l : Nat → Int32) (C : List (List Int)) : Prop := ∀ (i : Nat) (r : List Int), C[i]? = some r → jSo l i = r.length ∧ r.length ≤ 1600 ∧ jcL f r.length (1600 * i) = r
theorem jwCh.ne {f l g : Nat → Int32} {C : List (List Int)} {R : List Int} {i k z : Int} {j : Nat} {r : List Int} (h : jwCh f l C) (hr : C[j]? = some r) (hi : i = j) (hR : jcL g z.toNat 0 = R) (hd : jSo l i ≠ z ∨ (0 ≤ k ∧ k < z ∧ jSo f (1600 * i + k) ≠ jSo g k)) (hz : 0 ≤ z) : r ≠ R := fun e => by
  obtain ⟨h1, h2, h3⟩ := h j r hr
  have hl : (R.length : Int) = z := by rw [← hR, jcL.len]; omega
  rw [e] at h1 h3
  subst hi
  rcases hd with hd | ⟨k0, k1, hd⟩
  · omega
  · have h4 : jcL f R.length (1600 * (j : Int)) = jcL g R.length 0 := by
      rw [h3, show R.length = z.toNat by omega, hR]
    have := jcL.eq _ _ _ h4 k k0 (by omega)
    rw [Int.zero_add] at this
    exact hd this
theorem jwCh.eq {f l g : Nat → Int32} {C : List (List Int)} {R : List Int} {i z : Int} {j : Nat} {r : List Int} (h : jwCh f l C) (hr : C[j]? = some r) (hi : i = j) (hR : jcL g z.toNat 0 = R) (hd : jSo l i = z) (hz : 0 ≤ z) (he : ∀ k : Int, 0 ≤ k → k < z → jSo f (1600 * i + k) = jSo g k) : r = R := by
  obtain ⟨h1, h2, h3⟩ := h j r hr
  subst hi
  have hl : r.length = z.toNat := by omega
  rw [← h3, ← hR, hl]
  refine jcL.cg _ _ _ (fun k k0 k1 => ?_)
  rw [Int.zero_add]
  exact he k k0 (by omega)
theorem jcR.nx {fr gr ft b e : Nat → Int32} {n w w1 v k k1 x : Int} {N : Nat} (h : jcL fr w.toNat 0 = jcR ft n k.toNat ++ jcL ft (v - jSo b k).toNat (jSo b k)) (hb : jSo b k = jcB ft n k.toNat) (he : jSo e k = jcE ft n k.toNat) (hv : jSo gr w = x) (ho : ∀ j : Nat, j < N → j ≠ w.toNat → gr j = fr j) (h0 : 0 ≤ w) (hN : w < N) (hx : x = -1) (e1 : w1 = w + 1) (e2 : k1 = k + 1) (hk : 0 ≤ k) (hve : v = jSo e k) : jcL gr w1.toNat 0 = jcR ft n k1.toNat := by
  subst e1 e2 hve hx
  rw [jcL.st (N := N) h0 hN hv (fun j hj hne => ho j (by omega) hne), h, show (k + 1).toNat = k.toNat + 1 by omega]
  show _ = jcR ft n k.toNat ++ (jcU ft n k.toNat ++ [-1])
  unfold jcU
  rw [hb, he, List.append_assoc]
-- looking a row up
def jwIp (C : List (List Int)) (R : List Int) (v : Int) : Prop := ∀ i : Nat, (i : Int) < v → C[i]? ≠ some R
def jwIx (C : List (List Int)) (R : List Int) (r : Int) : Prop := (r = -1 ∧ R ∉ C) ∨ (0 ≤ r ∧ r < C.length ∧ C[r.toNat]? = some R ∧ jwIp C R r)
def jwSa (f l g : Nat → Int32) (c z s k : Int) : Prop := (s = 1 ∧ jSo l c = z ∧ ∀ j : Int, 0 ≤ j → j < k → jSo f (1600 * c + j) = jSo g j) ∨ (s = 0 ∧ (jSo l c ≠ z ∨ ∃ j : Int, 0 ≤ j ∧ j < z ∧ jSo f (1600 * c + j) ≠ jSo g j))
theorem jwSa.st {f l g : Nat → Int32} {c z s : Int} (h : s = if jSo l c = z then 1 else 0) : jwSa f l g c z s 0 := by
  by_cases q : jSo l c = z
  · rw [if_pos q] at h; exact Or.inl ⟨h, q, fun j a b => by omega⟩
  · rw [if_neg q] at h; exact Or.inr ⟨h, Or.inl q⟩
theorem jwSa.n {f l g : Nat → Int32} {c z s1 k k1 x y i : Int} (hi : i = 1600 * c + k) (hx : x = jSo f i) (hy : y = jSo g k) (e : x ≠ y) (e1 : s1 = 0) (h0 : 0 ≤ k) (hk : k < z) : jwSa f l g c z s1 k1 := Or.inr ⟨e1, Or.inr ⟨k, h0, hk, fun q => e (by rw [hx, hy, hi]; exact q)⟩⟩
end
