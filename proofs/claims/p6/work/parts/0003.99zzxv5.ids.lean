section
-- p8: ids as the class writes them; different ids are written differently
/-- the last k digits of m, those ahead of the first that is not 0 left out while b = 0 -/
def jpL : Nat → Int → Int → List Int
  | 0, _, _ => []
  | k + 1, m, b => if b = 1 ∨ 0 < m / 10 ^ k % 10 ∨ k = 0 then (48 + m / 10 ^ k % 10) :: jpL k m 1 else jpL k m 0
def jpN (n : Int) : List Int := if n < 0 then 45 :: jpL 10 (-n) 0 else jpL 10 n 0
def jpV : List Int → Int → Int
  | [], a => a
  | x :: L, a => jpV L (10 * a + (x - 48))
theorem jpP (k : Nat) : (0 : Int) < 10 ^ k := Int.pow_pos (by decide)
theorem jpM {m : Int} (k : Nat) (h : 0 ≤ m) : m % 10 ^ (k + 1) = 10 ^ k * (m / 10 ^ k % 10) + m % 10 ^ k := by
  have hp := jpP k
  have e1 := Int.emod_add_mul_ediv m (10 ^ k)
  have e2 := Int.emod_add_mul_ediv (m / 10 ^ k) 10
  have h1 := Int.emod_nonneg m (Int.ne_of_gt hp)
  have h2 := Int.emod_lt_of_pos m hp
  have h3 := Int.emod_nonneg (m / 10 ^ k) (show (10 : Int) ≠ 0 by decide)
  have h4 := Int.emod_lt_of_pos (m / 10 ^ k) (show (0 : Int) < 10 by decide)
  have e3 : m = 10 ^ (k + 1) * (m / 10 ^ k / 10) + (10 ^ k * (m / 10 ^ k % 10) + m % 10 ^ k) := by
    have : (10 : Int) ^ (k + 1) = 10 ^ k * 10 := Int.pow_succ 10 k
    rw [this, Int.mul_assoc, ← Int.add_assoc, ← Int.mul_add, Int.add_comm (10 * (m / 10 ^ k / 10))]
    rw [e2]
    omega
  have h5 : 0 ≤ 10 ^ k * (m / 10 ^ k % 10) := Int.mul_nonneg (Int.le_of_lt hp) h3
  have h6 : 10 ^ k * (m / 10 ^ k % 10) + m % 10 ^ k < 10 ^ (k + 1) := by
    have : (10 : Int) ^ (k + 1) = 10 ^ k * 10 := Int.pow_succ 10 k
    rw [this]
    have h7 : 10 ^ k * (m / 10 ^ k % 10) ≤ 10 ^ k * 9 := Int.mul_le_mul_of_nonneg_left (by omega) (Int.le_of_lt hp)
    omega
  have e4 : m % 10 ^ (k + 1) = (10 ^ (k + 1) * (m / 10 ^ k / 10) + (10 ^ k * (m / 10 ^ k % 10) + m % 10 ^ k)) % 10 ^ (k + 1) := by rw [← e3]
  rw [e4, Int.add_comm, Int.add_mul_emod_self_left]
  exact Int.emod_eq_of_lt (by omega) h6
theorem jpL.v {m : Int} (h : 0 ≤ m) : ∀ (k : Nat) (a b : Int), (b = 1 ∨ a = 0) → jpV (jpL k m b) a = (if b = 1 then a * 10 ^ k else 0) + m % 10 ^ k
  | 0, a, b, hb => by
    show a = (if b = 1 then a * 10 ^ 0 else 0) + m % 10 ^ 0
    rw [Int.pow_zero, Int.emod_one, Int.mul_one, Int.add_zero]
    split
    · rfl
    · rename_i w
      rcases hb with hb | hb
      · exact absurd hb w
      · exact hb
  | k + 1, a, b, hb => by
    have e := jpM k h
    have hs : (10 : Int) ^ (k + 1) = 10 ^ k * 10 := Int.pow_succ 10 k
    by_cases w : b = 1 ∨ 0 < m / 10 ^ k % 10 ∨ k = 0
    · rw [show jpL (k + 1) m b = (48 + m / 10 ^ k % 10) :: jpL k m 1 from if_pos w]
      show jpV (jpL k m 1) (10 * a + (48 + m / 10 ^ k % 10 - 48)) = _
      rw [jpL.v h k _ 1 (Or.inl rfl), if_pos rfl, e, show 48 + m / 10 ^ k % 10 - 48 = m / 10 ^ k % 10 by omega, Int.add_mul, Int.mul_comm (m / 10 ^ k % 10) (10 ^ k), ← Int.add_assoc]
      congr 1
      congr 1
      by_cases v : b = 1
      · rw [if_pos v, hs, Int.mul_comm 10 a, Int.mul_assoc, Int.mul_comm 10 (10 ^ k)]
      · rw [if_neg v]
        rcases hb with hb | hb
        · exact absurd hb v
        · rw [hb, Int.mul_zero, Int.zero_mul]
    · rw [show jpL (k + 1) m b = jpL k m 0 from if_neg w]
      have hz : m / 10 ^ k % 10 = 0 := by
        have := Int.emod_nonneg (m / 10 ^ k) (show (10 : Int) ≠ 0 by decide)
        omega
      have hb1 : b ≠ 1 := fun q => w (Or.inl q)
      have ha : a = 0 := hb.resolve_left hb1
      rw [jpL.v h k a 0 (Or.inr ha), e, hz, Int.mul_zero, if_neg (by omega), if_neg hb1, Int.zero_add, Int.zero_add]
theorem jpL.ne {m : Int} : ∀ (k : Nat) (b : Int), jpL (k + 1) m b ≠ []
  | 0, b => by
    rw [show jpL 1 m b = (48 + m / 10 ^ 0 % 10) :: jpL 0 m 1 from if_pos (Or.inr (Or.inr rfl))]
    exact List.cons_ne_nil _ _
  | k + 1, b => by
    by_cases w : b = 1 ∨ 0 < m / 10 ^ (k + 1) % 10 ∨ k + 1 = 0
    · rw [show jpL (k + 2) m b = (48 + m / 10 ^ (k + 1) % 10) :: jpL (k + 1) m 1 from if_pos w]
      exact List.cons_ne_nil _ _
    · rw [show jpL (k + 2) m b = jpL (k + 1) m 0 from if_neg w]
      exact jpL.ne k 0
theorem jpL.ge {m : Int} : ∀ (k : Nat) (b : Int), ∀ x ∈ jpL k m b, 48 ≤ x ∧ x ≤ 57
  | 0, _, x, h => absurd h (List.not_mem_nil)
  | k + 1, b, x, h => by
    have h3 := Int.emod_nonneg (m / 10 ^ k) (show (10 : Int) ≠ 0 by decide)
    have h4 := Int.emod_lt_of_pos (m / 10 ^ k) (show (0 : Int) < 10 by decide)
    by_cases w : b = 1 ∨ 0 < m / 10 ^ k % 10 ∨ k = 0
    · rw [show jpL (k + 1) m b = (48 + m / 10 ^ k % 10) :: jpL k m 1 from if_pos w] at h
      rcases List.mem_cons.mp h with e | e
      · omega
      · exact jpL.ge k 1 x e
    · rw [show jpL (k + 1) m b = jpL k m 0 from if_neg w] at h
      exact jpL.ge k 0 x h
theorem jpL.in {m n : Int} (hm : 0 ≤ m) (hn : 0 ≤ n) (h1 : m < 10000000000) (h2 : n < 10000000000) (h : jpL 10 m 0 = jpL 10 n 0) : m = n := by
  have e1 := jpL.v hm 10 0 0 (Or.inr rfl)
  have e2 := jpL.v hn 10 0 0 (Or.inr rfl)
  rw [h, e2, if_neg (by decide), Int.zero_add, Int.zero_add] at e1
  have e3 : (10 : Int) ^ 10 = 10000000000 := by decide
  rw [e3, Int.emod_eq_of_lt hm h1, Int.emod_eq_of_lt hn h2] at e1
  exact e1.symm
theorem jpN.hd {n : Int} : ∃ x L, jpN n = x :: L ∧ x ≠ 34 := by
  unfold jpN
  split
  · exact ⟨45, _, rfl, by decide⟩
  · cases e : jpL 10 n 0 with
    | nil => exact absurd e (jpL.ne 9 0)
    | cons x L =>
      have := jpL.ge 10 0 x (by rw [e]; exact List.mem_cons_self)
      exact ⟨x, L, rfl, by omega⟩
/-- ints that are written alike are the same -/
theorem jpN.in {m n : Int} (h1 : -2147483648 ≤ m) (h2 : m ≤ 2147483647) (h3 : -2147483648 ≤ n) (h4 : n ≤ 2147483647) (h : jpN m = jpN n) : m = n := by
  have hd : ∀ k : Int, 0 ≤ k → ¬ ∃ L, jpL 10 k 0 = 45 :: L := fun k _ ⟨L, e⟩ => by
    have := jpL.ge 10 0 45 (by rw [e]; exact List.mem_cons_self)
    omega
  unfold jpN at h
  by_cases a : m < 0
  · rw [if_pos a] at h
    by_cases b : n < 0
    · rw [if_pos b] at h
      injection h with _ h
      have := jpL.in (by omega) (by omega) (by omega) (by omega) h
      omega
    · rw [if_neg b] at h
      exact absurd ⟨_, h.symm⟩ (hd n (by omega))
  · rw [if_neg a] at h
    by_cases b : n < 0
    · rw [if_pos b] at h
      exact absurd ⟨_, h⟩ (hd m (by omega))
    · rw [if_neg b] at h
      exact jpL.in (by omega) (by omega) (by omega) (by omega) h
-- strings
def jpHi (u : Int) : Prop := 55296 ≤ u ∧ u ≤ 56319
def jpLo (u : Int) : Prop := 56320 ≤ u ∧ u ≤ 57343
def jpX (d : Int) : Int := if d < 10 then 48 + d else 87 + d
/-- one unit that is no half of a pair -/
def jpC (u : Int) : List Int := if u = 34 ∨ u = 92 then [92, u] else if u < 32 then [92, 117, 48, 48, jpX (u / 16), jpX (u % 16)] else if u < 128 then [u] else if u < 2048 then [192 + u / 64, 128 + u % 64] else [224 + u / 4096, 128 + u / 64 % 64, 128 + u % 64]
/-- a pair -/
def jpT (u v : Int) : List Int := [240 + (65536 + (u - 55296) * 1024 + (v - 56320)) / 262144, 128 + (65536 + (u - 55296) * 1024 + (v - 56320)) / 4096 % 64, 128 + (65536 + (u - 55296) * 1024 + (v - 56320)) / 64 % 64, 128 + (65536 + (u - 55296) * 1024 + (v - 56320)) % 64]
/-- units without half pairs -/
def jpW : List Int → Prop
  | [] => True
  | [u] => 0 ≤ u ∧ u ≤ 65535 ∧ ¬ (55296 ≤ u ∧ u ≤ 57343)
  | u :: v :: L => (jpHi u ∧ jpLo v ∧ jpW L) ∨ (0 ≤ u ∧ u ≤ 65535 ∧ ¬ (55296 ≤ u ∧ u ≤ 57343) ∧ jpW (v :: L))
def jpQ : List Int → List Int
  | [] => []
  | [u] => jpC u
  | u :: v :: L => if (55296 ≤ u ∧ u ≤ 56319) ∧ (56320 ≤ v ∧ v ≤ 57343) then jpT u v ++ jpQ L else jpC u ++ jpQ (v :: L)
theorem jpX.in {d e : Int} (h0 : 0 ≤ d) (h1 : d < 16) (h2 : 0 ≤ e) (h3 : e < 16) (h : jpX d = jpX e) : d = e := by
  unfold jpX at h
  split at h
  · split at h
    · omega
    · omega
  · split at h
    · omega
    · omega
theorem jpC.fst {u : Int} (hu : 0 ≤ u) (h2 : u ≤ 65535) : ∃ x L, jpC u = x :: L ∧ x < 240 := by
  unfold jpC
  split
  · exact ⟨_, _, rfl, by decide⟩
  · split
    · exact ⟨_, _, rfl, by decide⟩
    · split
      · exact ⟨_, _, rfl, by omega⟩
      · split
        · exact ⟨_, _, rfl, by omega⟩
        · exact ⟨_, _, rfl, by omega⟩
/-- what a unit is written as, by cases -/
def jpK (u : Int) (A : List Int) : Prop := ((u = 34 ∨ u = 92) ∧ A = [92, u]) ∨ (u < 32 ∧ A = [92, 117, 48, 48, jpX (u / 16), jpX (u % 16)]) ∨ (32 ≤ u ∧ u < 128 ∧ u ≠ 34 ∧ u ≠ 92 ∧ A = [u]) ∨ (128 ≤ u ∧ u < 2048 ∧ A = [192 + u / 64, 128 + u % 64]) ∨ (2048 ≤ u ∧ A = [224 + u / 4096, 128 + u / 64 % 64, 128 + u % 64])
theorem jpC.k (u : Int) : jpK u (jpC u) := by
  unfold jpC jpK
  by_cases a : u = 34 ∨ u = 92
  · rw [if_pos a]; exact Or.inl ⟨a, rfl⟩
  · rw [if_neg a]
    by_cases b : u < 32
    · rw [if_pos b]; exact Or.inr (Or.inl ⟨b, rfl⟩)
    · rw [if_neg b]
      by_cases c : u < 128
      · rw [if_pos c]; exact Or.inr (Or.inr (Or.inl ⟨by omega, c, by omega, by omega, rfl⟩))
      · rw [if_neg c]
        by_cases d : u < 2048
        · rw [if_pos d]; exact Or.inr (Or.inr (Or.inr (Or.inl ⟨by omega, d, rfl⟩)))
        · rw [if_neg d]; exact Or.inr (Or.inr (Or.inr (Or.inr ⟨by omega, rfl⟩)))
theorem jpC.in {u v : Int} {X Y : List Int} (hu : 0 ≤ u) (hu2 : u ≤ 65535) (hv : 0 ≤ v) (hv2 : v ≤ 65535) (h : jpC u ++ X = jpC v ++ Y) : u = v ∧ X = Y := by
  have a := jpC.k u
  have b := jpC.k v
  generalize jpC u = A at a h
  generalize jpC v = B at b h
  rcases a with ⟨a1, rfl⟩ | ⟨a1, rfl⟩ | ⟨a1, a2, a3, a4, rfl⟩ | ⟨a1, a2, rfl⟩ | ⟨a1, rfl⟩
  · rcases b with ⟨b1, rfl⟩ | ⟨b1, rfl⟩ | ⟨b1, b2, b3, b4, rfl⟩ | ⟨b1, b2, rfl⟩ | ⟨b1, rfl⟩
    · injection h with _ h
      injection h with h1 h2
      exact ⟨h1, h2⟩
    · injection h with _ h
      injection h with h1 h2
      omega
    · injection h with h1 h2
      omega
    · injection h with h1 h2
      omega
    · injection h with h1 h2
      omega
  · rcases b with ⟨b1, rfl⟩ | ⟨b1, rfl⟩ | ⟨b1, b2, b3, b4, rfl⟩ | ⟨b1, b2, rfl⟩ | ⟨b1, rfl⟩
    · injection h with _ h
      injection h with h1 h2
      omega
    · injection h with _ h
      injection h with _ h
      injection h with _ h
      injection h with _ h
      injection h with h1 h
      injection h with h2 h3
      have e1 := jpX.in (by omega) (by omega) (by omega) (by omega) h1
      have e2 := jpX.in (by omega) (by omega) (by omega) (by omega) h2
      exact ⟨by omega, h3⟩
    · injection h with h1 h2
      omega
    · injection h with h1 h2
      omega
    · injection h with h1 h2
      omega
  · rcases b with ⟨b1, rfl⟩ | ⟨b1, rfl⟩ | ⟨b1, b2, b3, b4, rfl⟩ | ⟨b1, b2, rfl⟩ | ⟨b1, rfl⟩
    · injection h with h1 h2
      omega
    · injection h with h1 h2
      omega
    · injection h with h1 h2
      exact ⟨h1, h2⟩
    · injection h with h1 h2
      omega
    · injection h with h1 h2
      omega
  · rcases b with ⟨b1, rfl⟩ | ⟨b1, rfl⟩ | ⟨b1, b2, b3, b4, rfl⟩ | ⟨b1, b2, rfl⟩ | ⟨b1, rfl⟩
    · injection h with h1 h2
      omega
    · injection h with h1 h2
      omega
    · injection h with h1 h2
      omega
    · injection h with h1 h
      injection h with h2 h3
      exact ⟨by omega, h3⟩
    · injection h with h1 h2
      omega
  · rcases b with ⟨b1, rfl⟩ | ⟨b1, rfl⟩ | ⟨b1, b2, b3, b4, rfl⟩ | ⟨b1, b2, rfl⟩ | ⟨b1, rfl⟩
    · injection h with h1 h2
      omega
    · injection h with h1 h2
      omega
    · injection h with h1 h2
      omega
    · injection h with h1 h2
      omega
    · injection h with h1 h
      injection h with h2 h
      injection h with h3 h4
      exact ⟨by omega, h4⟩
theorem jpT.in {u v u1 v1 : Int} {X Y : List Int} (a : jpHi u) (b : jpLo v) (a1 : jpHi u1) (b1 : jpLo v1) (h : jpT u v ++ X = jpT u1 v1 ++ Y) : u = u1 ∧ v = v1 ∧ X = Y := by
  unfold jpHi at a a1
  unfold jpLo at b b1
  have h : (240 + (65536 + (u - 55296) * 1024 + (v - 56320)) / 262144) :: (128 + (65536 + (u - 55296) * 1024 + (v - 56320)) / 4096 % 64) :: (128 + (65536 + (u - 55296) * 1024 + (v - 56320)) / 64 % 64) :: (128 + (65536 + (u - 55296) * 1024 + (v - 56320)) % 64) :: X = (240 + (65536 + (u1 - 55296) * 1024 + (v1 - 56320)) / 262144) :: (128 + (65536 + (u1 - 55296) * 1024 + (v1 - 56320)) / 4096 % 64) :: (128 + (65536 + (u1 - 55296) * 1024 + (v1 - 56320)) / 64 % 64) :: (128 + (65536 + (u1 - 55296) * 1024 + (v1 - 56320)) % 64) :: Y := h
  injection h with h1 h
  injection h with h2 h
  injection h with h3 h
  injection h with h4 h5
  have e : 65536 + (u - 55296) * 1024 + (v - 56320) = 65536 + (u1 - 55296) * 1024 + (v1 - 56320) := by
    generalize 65536 + (u - 55296) * 1024 + (v - 56320) = c at *
    generalize 65536 + (u1 - 55296) * 1024 + (v1 - 56320) = d at *
    omega
  exact ⟨by omega, by omega, h5⟩
theorem jpQ.p {u v : Int} {L : List Int} (a : jpHi u) (b : jpLo v) : jpQ (u :: v :: L) = jpT u v ++ jpQ L := if_pos ⟨a, b⟩
theorem jpQ.c {u : Int} {L : List Int} (h : ¬ (55296 ≤ u ∧ u ≤ 57343)) : jpQ (u :: L) = jpC u ++ jpQ L := by
  cases L with
  | nil => exact (List.append_nil _).symm
  | cons v L => exact if_neg (fun q => h ⟨q.1.1, by omega⟩)
theorem jpW.hd {u : Int} {L : List Int} (h : jpW (u :: L)) : (∃ v M, L = v :: M ∧ jpHi u ∧ jpLo v ∧ jpW M) ∨ (0 ≤ u ∧ u ≤ 65535 ∧ ¬ (55296 ≤ u ∧ u ≤ 57343) ∧ jpW L) := by
  cases L with
  | nil => exact Or.inr ⟨h.1, h.2.1, h.2.2, trivial⟩
  | cons v M =>
    rcases h with ⟨a, b, c⟩ | h
    · exact Or.inl ⟨v, M, rfl, a, b, c⟩
    · exact Or.inr h
theorem jpT.fst {u v : Int} {X : List Int} (a : jpHi u) (b : jpLo v) : ∃ x L, jpT u v ++ X = x :: L ∧ 240 ≤ x := by
  unfold jpHi at a
  unfold jpLo at b
  exact ⟨_, _, rfl, by omega⟩
/-- strings that are written alike are the same -/
theorem jpQ.in : ∀ (n : Nat) (a b : List Int), a.length ≤ n → jpW a → jpW b → jpQ a = jpQ b → a = b
  | 0, a, b, hn, ha, hb, h => by
    have e : a = [] := List.length_eq_zero_iff.mp (Nat.le_zero.mp hn)
    subst e
    cases b with
    | nil => rfl
    | cons u L =>
      have h : [] = jpQ (u :: L) := h
      rcases hb.hd with ⟨v, M, e, p, q, r⟩ | ⟨p, q, r, s⟩
      · subst e
        rw [jpQ.p p q] at h
        cases h
      · rw [jpQ.c r] at h
        obtain ⟨x, K, e, -⟩ := jpC.fst p q
        rw [e] at h
        cases h
  | n + 1, a, b, hn, ha, hb, h => by
    cases a with
    | nil =>
      exact jpQ.in n [] b (Nat.zero_le n) ha hb h
    | cons u L =>
      cases b with
      | nil =>
        have h : jpQ (u :: L) = [] := h
        rcases ha.hd with ⟨v, M, e, p, q, r⟩ | ⟨p, q, r, s⟩
        · subst e
          rw [jpQ.p p q] at h
          cases h
        · rw [jpQ.c r] at h
          obtain ⟨x, K, e, -⟩ := jpC.fst p q
          rw [e] at h
          cases h
      | cons u1 L1 =>
        rcases ha.hd with ⟨v, M, e, p, q, r⟩ | ⟨p, q, r, s⟩
        · subst e
          rw [jpQ.p p q] at h
          rcases hb.hd with ⟨v1, M1, e1, p1, q1, r1⟩ | ⟨p1, q1, r1, s1⟩
          · subst e1
            rw [jpQ.p p1 q1] at h
            obtain ⟨z1, z2, z3⟩ := jpT.in p q p1 q1 h
            rw [z1, z2, jpQ.in n M M1 (by have hn : M.length + 2 ≤ n + 1 := hn; omega) r r1 z3]
          · rw [jpQ.c r1] at h
            obtain ⟨x, K, e, hx⟩ := jpC.fst p1 q1
            obtain ⟨y, K1, e1, hy⟩ := jpT.fst (X := jpQ M) p q
            rw [e, e1] at h
            injection h with h1 h2
            omega
        · rw [jpQ.c r] at h
          rcases hb.hd with ⟨v1, M1, e1, p1, q1, r1⟩ | ⟨p1, q1, r1, s1⟩
          · subst e1
            rw [jpQ.p p1 q1] at h
            obtain ⟨x, K, e, hx⟩ := jpC.fst p q
            obtain ⟨y, K1, e1, hy⟩ := jpT.fst (X := jpQ M1) p1 q1
            rw [e, e1] at h
            injection h with h1 h2
            omega
          · rw [jpQ.c r1] at h
            obtain ⟨z1, z2⟩ := jpC.in p q p1 q1 h
            rw [z1, jpQ.in n L L1 (by have hn : L.length + 1 ≤ n + 1 := hn; omega) s s1 z2]
/-- an id as it is written -/
def jpI (k : jwI) : List Int := if k.1 = 1 then 34 :: (jpQ k.2.2 ++ [34]) else jpN k.2.1
def jpO (k : jwI) : Prop := (k.1 = 1 ∧ k.2.1 = 0 ∧ jpW k.2.2) ∨ (k.1 = 0 ∧ -2147483648 ≤ k.2.1 ∧ k.2.1 ≤ 2147483647 ∧ k.2.2 = [])
theorem jpI.in {k l : jwI} (hk : jpO k) (hl : jpO l) (h : jpI k = jpI l) : k = l := by
  obtain ⟨k1, k2, k3⟩ := k
  obtain ⟨l1, l2, l3⟩ := l
  unfold jpI at h
  rcases hk with ⟨a, b, c⟩ | ⟨a, b, c, d⟩
  · have a : k1 = 1 := a
    have b : k2 = 0 := b
    have c : jpW k3 := c
    subst a b
    rcases hl with ⟨e, f, g⟩ | ⟨e, f, g, i⟩
    · have e : l1 = 1 := e
      have f : l2 = 0 := f
      have g : jpW l3 := g
      subst e f
      have h : 34 :: (jpQ k3 ++ [34]) = 34 :: (jpQ l3 ++ [34]) := h
      injection h with _ h
      have h1 := List.append_inj_left' h rfl
      rw [jpQ.in k3.length k3 l3 (Nat.le_refl _) c g h1]
    · have e : l1 = 0 := e
      subst e
      have h : 34 :: (jpQ k3 ++ [34]) = jpN l2 := h
      obtain ⟨x, L, e1, hx⟩ := jpN.hd (n := l2)
      rw [e1] at h
      injection h with h1 h2
      exact absurd h1.symm hx
  · have a : k1 = 0 := a
    have d : k3 = [] := d
    subst a d
    rcases hl with ⟨e, f, g⟩ | ⟨e, f, g, i⟩
    · have e : l1 = 1 := e
      subst e
      have h : jpN k2 = 34 :: (jpQ l3 ++ [34]) := h
      obtain ⟨x, L, e1, hx⟩ := jpN.hd (n := k2)
      rw [e1] at h
      injection h with h1 h2
      exact absurd h1 hx
    · have e : l1 = 0 := e
      have i : l3 = [] := i
      subst e i
      have h : jpN k2 = jpN l2 := h
      have e2 : k2 = l2 := jpN.in b c f g h
      rw [e2]
end
section
-- p8: what the loops over documents, requests and the cache take
section
variable {S : Int × (Int → jdD)} {Z : jwSt} {d d1 x x1 : Int} {k : Nat}
theorem jwN_s (hk : 0 < k) : jwN S Z k d x = if Z.1 d < jwS S d ∧ (Z.2.1 0).1 ≠ d ∧ (Z.2.1 1).1 ≠ d then (if jwAs Z.2.2.1 d = true then d else jwN S Z (k - 1) (d + 1) (if x < 0 then d else x)) else jwN S Z (k - 1) (d + 1) x := by
  cases k with
  | zero => omega
  | succ k => rfl
theorem jwN.rg : ∀ (k : Nat) (d x : Int), jwN S Z k d x = x ∨ (d ≤ jwN S Z k d x ∧ jwN S Z k d x < d + k ∧ Z.1 (jwN S Z k d x) < jwS S (jwN S Z k d x) ∧ (Z.2.1 0).1 ≠ jwN S Z k d x ∧ (Z.2.1 1).1 ≠ jwN S Z k d x)
  | 0, _, _ => Or.inl rfl
  | k + 1, d, x => by
    rw [jwN_s (by omega), show k + 1 - 1 = k by omega]
    by_cases w : Z.1 d < jwS S d ∧ (Z.2.1 0).1 ≠ d ∧ (Z.2.1 1).1 ≠ d
    · rw [if_pos w]
      by_cases v : jwAs Z.2.2.1 d = true
      · rw [if_pos v]; exact Or.inr ⟨Int.le_refl d, by omega, w⟩
      · rw [if_neg v]
        rcases jwN.rg k (d + 1) (if x < 0 then d else x) with h | ⟨h0, h1, h2⟩
        · rw [h]
          by_cases z : x < 0
          · rw [if_pos z]; exact Or.inr ⟨Int.le_refl d, by omega, w⟩
          · rw [if_neg z]; exact Or.inl rfl
        · exact Or.inr ⟨by omega, by omega, h2⟩
    · rw [if_neg w]
      rcases jwN.rg k (d + 1) x with h | ⟨h0, h1, h2⟩
      · exact Or.inl h
      · exact Or.inr ⟨by omega, by omega, h2⟩
theorem jwNx.rg : jwNx S Z = -1 ∨ (0 ≤ jwNx S Z ∧ jwNx S Z < S.1 ∧ Z.1 (jwNx S Z) < jwS S (jwNx S Z) ∧ (Z.2.1 0).1 ≠ jwNx S Z ∧ (Z.2.1 1).1 ≠ jwNx S Z) := by
  rcases jwN.rg (S := S) (Z := Z) S.1.toNat 0 (-1) with h | ⟨h0, h1, h2⟩
  · exact Or.inl h
  · exact Or.inr ⟨h0, by show jwN S Z S.1.toNat 0 (-1) < S.1; omega, h2⟩
end
-- lists by index
theorem jwAs.nil {d : Int} : jwAs [] d = false := rfl
theorem jwAs.at {Q : List jwQ} {d : Int} {q : jwQ} {i : Nat} (h : Q[i]? = some q) (e : q.1 = d) : jwAs Q d = true := by
  unfold jwAs
  rw [List.any_eq_true]
  exact ⟨q, List.mem_of_getElem? h, decide_eq_true e⟩
theorem jwSm.ch {f g : Nat → Int32} {n m s : Int} : ∀ (x : Nat) (k : Int), 0 ≤ k → s - k ≤ x → k ≤ jwSm f n g m s x k ∧ (jwSm f n g m s x k ≤ s ∨ jwSm f n g m s x k = k) ∧ (∀ j : Int, k ≤ j → j < jwSm f n g m s x k → jcU f n j.toNat = jcU g m j.toNat) ∧ (jwSm f n g m s x k < s → jcU f n (jwSm f n g m s x k).toNat ≠ jcU g m (jwSm f n g m s x k).toNat)
  | 0, k, h0, h => by
    show k ≤ k ∧ (k ≤ s ∨ k = k) ∧ (∀ j : Int, k ≤ j → j < k → _) ∧ (k < s → _)
    exact ⟨Int.le_refl k, Or.inr rfl, fun j a b => by omega, fun a => by omega⟩
  | x + 1, k, h0, h => by
    by_cases w : k < s ∧ jcU f n k.toNat = jcU g m k.toNat
    · rw [show jwSm f n g m s (x + 1) k = jwSm f n g m s x (k + 1) from if_pos w]
      obtain ⟨a, b, c, d⟩ := jwSm.ch (f := f) (g := g) (n := n) (m := m) (s := s) x (k + 1) (by omega) (by omega)
      refine ⟨by omega, Or.inl (by omega), fun j j0 j1 => ?_, d⟩
      by_cases e : j = k
      · rw [e]; exact w.2
      · exact c j (by omega) j1
    · rw [show jwSm f n g m s (x + 1) k = k from if_neg w]
      exact ⟨Int.le_refl k, Or.inr rfl, fun j a b => by omega, fun a e => w ⟨a, e⟩⟩
/-- a count that stops at the first sentence that is another one is the least of the two -/
theorem jwSy.min {f g : Nat → Int32} {n m c r : Int} (hn : 0 ≤ n) (hm : 0 ≤ m) (hc : c ≤ jPar f n) (h0 : 0 ≤ r) (h1 : r ≤ c) (hs : r ≤ jPar g m) (he : ∀ j : Int, 0 ≤ j → j < r → jcU f n j.toNat = jcU g m j.toNat) (hne : r < c → jPar g m ≤ r ∨ jcU f n r.toNat ≠ jcU g m r.toNat) : r = if c ≤ jwSy f n g m then c else jwSy f n g m := by
  have p1 := jPar.ch (f := f) hn
  have p2 := jPar.ch (f := g) hm
  have hS : jwSy f n g m = jwSm f n g m (if jPar f n ≤ jPar g m then jPar f n else jPar g m) 40 0 := rfl
  generalize hs0 : (if jPar f n ≤ jPar g m then jPar f n else jPar g m) = s at hS
  have hs1 : s ≤ jPar f n ∧ s ≤ jPar g m ∧ (s = jPar f n ∨ s = jPar g m) := by
    rw [← hs0]
    split <;> omega
  obtain ⟨a, b, d, e⟩ := jwSm.ch (f := f) (g := g) (n := n) (m := m) (s := s) 40 0 (Int.le_refl 0) (by omega)
  rw [← hS] at a b d e
  by_cases q : r < jwSy f n g m
  · by_cases w : r < c
    · rcases hne w with z | z
      · omega
      · exact absurd (d r h0 q) z
    · rw [if_pos (by omega)]; omega
  · by_cases w : jwSy f n g m < r
    · exact absurd (he (jwSy f n g m) a w) (e (by omega))
    · by_cases z : c ≤ jwSy f n g m
      · rw [if_pos z]; omega
      · rw [if_neg z]; omega
end
section
-- p8: rows that move down in the cache; who waits, in arrays
/-- what the cache is behind the search, without the new row: c is where one goes -/
def jwKo (C : List (List Int)) (R : List Int) : List (List Int) := if R ∈ C then C.erase R else if 24 ≤ C.length then C.tail else C
theorem jwKo.n {C : List (List Int)} {R : List Int} {r : Int} (h : jwIx C R r) (h0 : r < 0) (hC : C.length < 24) : C = jwKo C R := by
  rcases h with ⟨-, h⟩ | ⟨h, -⟩
  · unfold jwKo
    rw [if_neg h, if_neg (by omega)]
  · omega
abbrev jwA := Nat × Int × jwI
def jwWi (ws wi wu we : Nat → Int32) (i : Int) : jwI := if jSo ws i = 1 then (1, 0, jcL wu (jSo we i).toNat (20 * i)) else (0, jSo wi i, [])
def jwW1 (wo : Nat → Option Nat) (wd ws wi wu we : Nat → Int32) (i : Nat) (a : jwA) : Prop := wo i = some a.1 ∧ jSo wd i = a.2.1 ∧ jwWi ws wi wu we i = a.2.2 ∧ (jSo ws i = 1 → 0 ≤ jSo we i ∧ jSo we i ≤ 20)
def jwWr (n : Int) (wo : Nat → Option Nat) (wd ws wi wu we : Nat → Int32) (W : List jwA) : Prop := n = W.length ∧ W.length ≤ 12 ∧ ∀ (i : Nat) (a : jwA), W[i]? = some a → jwW1 wo wd ws wi wu we i a
end
section
-- p8: who waits, in arrays: one goes, one comes
def jwSi (n : Int) (f g : Nat → Int32) (b lo hi : Int) : Prop := ∀ j : Int, 0 ≤ j → j < n → jSo g j = if lo ≤ j ∧ j < hi then jSo f (j + b) else jSo f j
theorem jwSi.at {n b lo hi j : Int} {f g : Nat → Int32} (h : jwSi n f g b lo hi) (j0 : 0 ≤ j) (j1 : j < n) (hj : hi ≤ j) : jSo g j = jSo f j := by
  rw [h j j0 j1, if_neg (by omega)]
/-- a document is waited for -/
def jwIs (W : List jwA) (x : Nat) : Prop := ∃ a ∈ W, a.1 = x
theorem jwIs.n {n v : Int} {x : Nat} {wo : Nat → Option Nat} {wd ws wi wu we : Nat → Int32} {W : List jwA} (h : jwWr n wo wd ws wi wu we W) (hv : n ≤ v) (hn : ∀ i : Nat, (i : Int) < v → wo i ≠ some x) : ¬ jwIs W x := fun ⟨a, ha, e⟩ => by
  obtain ⟨i, hi⟩ := List.mem_iff_getElem?.mp ha
  have hl := (List.getElem?_eq_some_iff.mp hi).1
  have := h.1
  exact hn i (by omega) (by rw [← e]; exact (h.2.2 i a hi).1)
theorem jwWr.nx {x y : Nat} {v v1 : Int} {wo : Nat → Option Nat} (h : ∀ i : Nat, (i : Int) < v → wo i ≠ some x) (hy : some y = wo v.toNat) (hne : y ≠ x) (h0 : 0 ≤ v) (e : v1 = v + 1) : ∀ i : Nat, (i : Int) < v1 → wo i ≠ some x := fun i hi w => by
  by_cases q : (i : Int) = v
  · rw [show i = v.toNat by omega, ← hy] at w
    exact hne (Option.some.inj w)
  · exact h i (by omega) w
theorem jwWr.nn {x : Nat} {v v1 : Int} {wo : Nat → Option Nat} (h : ∀ i : Nat, (i : Int) < v → wo i ≠ some x) (hy : none = wo v.toNat) (h0 : 0 ≤ v) (e : v1 = v + 1) : ∀ i : Nat, (i : Int) < v1 → wo i ≠ some x := fun i hi w => by
  by_cases q : (i : Int) = v
  · rw [show i = v.toNat by omega, ← hy] at w
    cases w
  · exact h i (by omega) w
-- all of a document go
end
section
-- p8: a finished sentence; ids as the reference compares them
def jwPw (W : List jwA) (a : jwA) : List jwA := if W.length < 12 then W ++ [a] else W
theorem jwPw.n {W : List jwA} {a : jwA} (h : ¬ W.length < 12) : jwPw W a = W := if_neg h
/-- the i-th one that waits has this id -/
def jwIq (W : List jwA) (i : Int) (T : Nat → Int → Int) (v x : Int) : Prop := ∃ a, W[i.toNat]? = some a ∧ a.2.2 = jwId T v x
theorem jwIq.n {W : List jwA} {i v x : Int} {T : Nat → Int → Int} {a : jwA} {w : jwI} (ha : W[i.toNat]? = some a) (h : w = a.2.2) (e : w ≠ jwId T v x) : ¬ jwIq W i T v x := fun ⟨b, hb, q⟩ => by
  rw [ha] at hb
  cases hb
  exact e (h.trans q)
theorem jwUn.eq {f : Nat → Int32} {T : Nat → Int → Int} {v i : Int} : ∀ (z : Nat) (b j : Int), (∀ x : Int, 0 ≤ x → x < z → jSo f (b + x) = jqA T v i (j + x)) → jcL f z b = jwUn T v i z j
  | 0, _, _, _ => rfl
  | z + 1, b, j, h => by
    show jSo f b :: jcL f z (b + 1) = jqA T v i j :: jwUn T v i z (j + 1)
    have e := h 0 (by omega) (by omega)
    rw [Int.add_zero, Int.add_zero] at e
    rw [e, jwUn.eq z (b + 1) (j + 1) (fun x h0 h1 => by
      have := h (x + 1) (by omega) (by omega)
      rw [show b + 1 + x = b + (x + 1) by omega, show j + 1 + x = j + (x + 1) by omega]
      exact this)]
theorem jwUn.len {T : Nat → Int → Int} {v i : Int} : ∀ (z : Nat) (j : Int), (jwUn T v i z j).length = z
  | 0, _ => rfl
  | z + 1, j => congrArg (· + 1) (jwUn.len z (j + 1))
theorem jwId.in {ws wi wu we : Nat → Int32} {i v x : Int} {T : Nat → Int → Int} (h1 : jSo ws i ≠ 1) (h2 : jqK T v x ≠ 3) (e : jSo wi i ≠ T 2 x) : jwWi ws wi wu we i ≠ jwId T v x := fun q => by
  unfold jwWi jwId at q
  rw [if_neg h1, if_neg h2] at q
  exact e (congrArg (fun p => p.2.1) q)
/-- strings: k units of both are compared -/
def jwSb (wu : Nat → Int32) (T : Nat → Int → Int) (v x b z s k : Int) : Prop := (s = 1 ∧ z = T 3 x ∧ ∀ j : Int, 0 ≤ j → j < k → jSo wu (b + j) = jqA T v x j) ∨ (s = 0 ∧ (z ≠ T 3 x ∨ ∃ j : Int, 0 ≤ j ∧ j < z ∧ jSo wu (b + j) ≠ jqA T v x j))
theorem jwSb.n {wu : Nat → Int32} {T : Nat → Int → Int} {v x b z s1 k k1 p q : Int} (hp : p = jSo wu (b + k)) (hq : q = jqA T v x k) (e : p ≠ q) (h0 : 0 ≤ k) (hk : k < z) (e1 : s1 = 0) : jwSb wu T v x b z s1 k1 := Or.inr ⟨e1, Or.inr ⟨k, h0, hk, fun w => e (by rw [hp, hq]; exact w)⟩⟩
end
section
-- p8: what is told of all documents of the class: sentences, what is checked, the check that goes on (written by mkent.py)
def jKg : Type := (Nat → Int32) × (Nat → Int32) × (Nat → Int32) × (Nat → Value) × (Nat → Value) × (Nat → Nat → Int32) × (Nat → Nat → Int32) × (Nat → Nat → Int32) × (Nat → Nat → Option Nat)
def jKg.sn (q : jKg) : Nat → Int32 := q.1
def jKg.ck (q : jKg) : Nat → Int32 := q.2.1
def jKg.lf (q : jKg) : Nat → Int32 := q.2.2.1
def jKg.cv (q : jKg) : Nat → Value := q.2.2.2.1
def jKg.fv (q : jKg) : Nat → Value := q.2.2.2.2.1
def jKg.sb (q : jKg) : Nat → Nat → Int32 := q.2.2.2.2.2.1
def jKg.se (q : jKg) : Nat → Nat → Int32 := q.2.2.2.2.2.2.1
def jKg.sc (q : jKg) : Nat → Nat → Int32 := q.2.2.2.2.2.2.2.1
def jKg.bh (q : jKg) : Nat → Nat → Option Nat := q.2.2.2.2.2.2.2.2
def jKg.put (q : jKg) (a : Nat) (sn : Int32) (ck : Int32) (lf : Int32) (cv : Value) (fv : Value) (sb : Nat → Int32) (se : Nat → Int32) (sc : Nat → Int32) (bh : Nat → Option Nat) : jKg := (jUf q.sn a sn, jUf q.ck a ck, jUf q.lf a lf, jUf q.cv a cv, jUf q.fv a fv, jUf q.sb a sb, jUf q.se a se, jUf q.sc a sc, jUf q.bh a bh)
/-- one document -/
def jK1 (dC : Nat → ClassId) (dI : Nat → Nat → Nat) (ca : Nat → ClassId) (G : jT) (a ysb yse ysc ybh : Nat) (sn : Int32) (ck : Int32) (lf : Int32) (cv : Value) (fv : Value) (sb : Nat → Int32) (se : Nat → Int32) (sc : Nat → Int32) (bh : Nat → Option Nat) (H : Heap) : Prop := jP (dC, dI) G H [(a, 3, 4, .int sn), (a, 3, 10, .int ck), (a, 3, 13, .int lf), (a, 3, 11, cv), (a, 3, 12, fv)] ∧ jMc (dC, dI) G H [(ysb, 171, 40, ca 1, sb), (yse, 172, 40, ca 1, se), (ysc, 176, 40, ca 1, sc)] ∧ (G ybh = some (210, 40) ∧ jQc dC dI (ca 6) ybh 40 bh H)
/-- all but x -/
def jKD (dC : Nat → ClassId) (dI : Nat → Nat → Nat) (ca : Nat → ClassId) (G : jT) (x : Option Nat) (q : jKg) (H : Heap) : Prop := ∃ Ysb Yse Ysc Ybh : Nat → Nat, (∀ a n, G a = some (3, n) → jf (dC, dI) 3 a 5 (.ref (Ysb a)) H ∧ G (Ysb a) = some (171, 40) ∧ jf (dC, dI) 3 a 6 (.ref (Yse a)) H ∧ G (Yse a) = some (172, 40) ∧ jf (dC, dI) 3 a 7 (.ref (Ysc a)) H ∧ G (Ysc a) = some (176, 40) ∧ jf (dC, dI) 3 a 9 (.ref (Ybh a)) H ∧ G (Ybh a) = some (210, 40)) ∧ (∀ a b n m, G a = some (3, n) → G b = some (3, m) → Ysb a = Ysb b → a = b) ∧ (∀ a b n m, G a = some (3, n) → G b = some (3, m) → Yse a = Yse b → a = b) ∧ (∀ a b n m, G a = some (3, n) → G b = some (3, m) → Ysc a = Ysc b → a = b) ∧ (∀ a b n m, G a = some (3, n) → G b = some (3, m) → Ybh a = Ybh b → a = b) ∧ ∀ a n, G a = some (3, n) → x ≠ some a → jK1 dC dI ca G a (Ysb a) (Yse a) (Ysc a) (Ybh a) (q.sn a) (q.ck a) (q.lf a) (q.cv a) (q.fv a) (q.sb a) (q.se a) (q.sc a) (q.bh a) H
section J81
variable {dC : Nat → ClassId} {dI : Nat → Nat → Nat} {ca : Nat → ClassId} {G G1 : jT} {H H1 : Heap} {x : Option Nat} {q : jKg}
variable {a ysb yse ysc ybh : Nat} {sn : Int32} {ck : Int32} {lf : Int32} {cv : Value} {fv : Value} {sb : Nat → Int32} {se : Nat → Int32} {sc : Nat → Int32} {bh : Nat → Option Nat}
theorem jKD.at {n : Nat} (h : jKD dC dI ca G x q H) (ha : G a = some (3, n)) (hx : x ≠ some a) : ∃ (ysb yse ysc ybh : Nat), G ysb = some (171, 40) ∧ G yse = some (172, 40) ∧ G ysc = some (176, 40) ∧ G ybh = some (210, 40) ∧ jP (dC, dI) G H [(a, 3, 5, .ref ysb), (a, 3, 6, .ref yse), (a, 3, 7, .ref ysc), (a, 3, 9, .ref ybh), (a, 3, 4, .int (q.sn a)), (a, 3, 10, .int (q.ck a)), (a, 3, 13, .int (q.lf a)), (a, 3, 11, (q.cv a)), (a, 3, 12, (q.fv a))] ∧ jMc (dC, dI) G H [(ysb, 171, 40, ca 1, q.sb a), (yse, 172, 40, ca 1, q.se a), (ysc, 176, 40, ca 1, q.sc a)] ∧ jQc dC dI (ca 6) ybh 40 (q.bh a) H := by
  obtain ⟨Ysb, Yse, Ysc, Ybh, h1, i0, i1, i2, i3, h3⟩ := h
  obtain ⟨g0, e0, g1, e1, g2, e2, g3, e3⟩ := h1 a n ha
  have g := h3 a n ha hx
  refine ⟨Ysb a, Yse a, Ysc a, Ybh a, e0, e1, e2, e3, fun z hz => ?_, g.2.1, g.2.2.2⟩
  rcases List.mem_cons.mp hz with e | hz
  · subst e; exact ⟨⟨n, ha⟩, g0⟩
  · skip
    rcases List.mem_cons.mp hz with e | hz
    · subst e; exact ⟨⟨n, ha⟩, g1⟩
    · skip
      rcases List.mem_cons.mp hz with e | hz
      · subst e; exact ⟨⟨n, ha⟩, g2⟩
      · skip
        rcases List.mem_cons.mp hz with e | hz
        · subst e; exact ⟨⟨n, ha⟩, g3⟩
        · exact g.1 z hz
end J81
end
section
-- p8: what is told of all documents of the reference: sentences, what is checked, the check that goes on (written by mkent.py)
def jXg : Type := (Nat → Int32) × (Nat → Int32) × (Nat → Nat → Int32) × (Nat → Nat → Int32) × (Nat → Nat → Int32)
def jXg.sn (q : jXg) : Nat → Int32 := q.1
def jXg.ck (q : jXg) : Nat → Int32 := q.2.1
def jXg.sb (q : jXg) : Nat → Nat → Int32 := q.2.2.1
def jXg.se (q : jXg) : Nat → Nat → Int32 := q.2.2.2.1
def jXg.sf (q : jXg) : Nat → Nat → Int32 := q.2.2.2.2
def jXg.put (q : jXg) (a : Nat) (sn : Int32) (ck : Int32) (sb : Nat → Int32) (se : Nat → Int32) (sf : Nat → Int32) : jXg := (jUf q.sn a sn, jUf q.ck a ck, jUf q.sb a sb, jUf q.se a se, jUf q.sf a sf)
/-- one document -/
def jX1d (dC : Nat → ClassId) (dI : Nat → Nat → Nat) (ca : Nat → ClassId) (G : jT) (a ysb yse ysf : Nat) (sn : Int32) (ck : Int32) (sb : Nat → Int32) (se : Nat → Int32) (sf : Nat → Int32) (H : Heap) : Prop := jP (dC, dI) G H [(a, 14, 5, .int sn), (a, 14, 9, .int ck)] ∧ jMc (dC, dI) G H [(ysb, 190, 40, ca 1, sb), (yse, 191, 40, ca 1, se), (ysf, 192, 40, ca 1, sf)] ∧ True
/-- all but x -/
def jXD (dC : Nat → ClassId) (dI : Nat → Nat → Nat) (ca : Nat → ClassId) (G : jT) (x : Option Nat) (q : jXg) (H : Heap) : Prop := ∃ Ysb Yse Ysf : Nat → Nat, (∀ (a _n : Nat), G a = some (14, 0) → jf (dC, dI) 14 a 6 (.ref (Ysb a)) H ∧ G (Ysb a) = some (190, 40) ∧ jf (dC, dI) 14 a 7 (.ref (Yse a)) H ∧ G (Yse a) = some (191, 40) ∧ jf (dC, dI) 14 a 8 (.ref (Ysf a)) H ∧ G (Ysf a) = some (192, 40)) ∧ (∀ (a b _n _m : Nat), G a = some (14, 0) → G b = some (14, 0) → Ysb a = Ysb b → a = b) ∧ (∀ (a b _n _m : Nat), G a = some (14, 0) → G b = some (14, 0) → Yse a = Yse b → a = b) ∧ (∀ (a b _n _m : Nat), G a = some (14, 0) → G b = some (14, 0) → Ysf a = Ysf b → a = b) ∧ ∀ (a _n : Nat), G a = some (14, 0) → x ≠ some a → jX1d dC dI ca G a (Ysb a) (Yse a) (Ysf a) (q.sn a) (q.ck a) (q.sb a) (q.se a) (q.sf a) H
section J82
variable {dC : Nat → ClassId} {dI : Nat → Nat → Nat} {ca : Nat → ClassId} {G G1 : jT} {H H1 : Heap} {x : Option Nat} {q : jXg}
variable {a ysb yse ysf : Nat} {sn : Int32} {ck : Int32} {sb : Nat → Int32} {se : Nat → Int32} {sf : Nat → Int32}
theorem jXD.at (h : jXD dC dI ca G x q H) (ha : G a = some (14, 0)) (hx : x ≠ some a) : ∃ (ysb yse ysf : Nat), G ysb = some (190, 40) ∧ G yse = some (191, 40) ∧ G ysf = some (192, 40) ∧ jP (dC, dI) G H [(a, 14, 6, .ref ysb), (a, 14, 7, .ref yse), (a, 14, 8, .ref ysf), (a, 14, 5, .int (q.sn a)), (a, 14, 9, .int (q.ck a))] ∧ jMc (dC, dI) G H [(ysb, 190, 40, ca 1, q.sb a), (yse, 191, 40, ca 1, q.se a), (ysf, 192, 40, ca 1, q.sf a)] := by
  obtain ⟨Ysb, Yse, Ysf, h1, i0, i1, i2, h3⟩ := h
  obtain ⟨g0, e0, g1, e1, g2, e2⟩ := h1 a 0 ha
  have g := h3 a 0 ha hx
  refine ⟨Ysb a, Yse a, Ysf a, e0, e1, e2, fun z hz => ?_, g.2.1⟩
  rcases List.mem_cons.mp hz with e | hz
  · subst e; exact ⟨⟨0, ha⟩, g0⟩
  · skip
    rcases List.mem_cons.mp hz with e | hz
    · subst e; exact ⟨⟨0, ha⟩, g1⟩
    · skip
      rcases List.mem_cons.mp hz with e | hz
      · subst e; exact ⟨⟨0, ha⟩, g2⟩
      · exact g.1 z hz
end J82
end
section
-- p8: the reference's scheduler as the machine: what binds its rows to Z
/-- the number of a document -/
def jrNu (fd : Nat → Option Nat) (x : Nat) : Int := if fd 0 = some x then 0 else if fd 1 = some x then 1 else if fd 2 = some x then 2 else -1
def jrNm (fd : Nat → Option Nat) (a : jwA) : jwQ := (jrNu fd a.1, a.2)
def jrW (fd : Nat → Option Nat) (dc : Int) (W : List jwA) (Q : List jwQ) : Prop := (∀ a ∈ W, ∃ d : Nat, (d : Int) < dc ∧ d < 3 ∧ fd d = some a.1) ∧ Q = W.map (jrNm fd)
def jrD (t : jDtr) (q : jXg) (a : Nat) (k : Int) : Prop := (q.sn a).toInt = jPar (t.tx a) (t.ln a).toInt ∧ jcP (t.tx a) (t.ln a).toInt (q.sb a) (q.se a) (q.sn a).toInt ∧ jcPf (t.tx a) (t.ln a).toInt (q.sf a) (q.sn a).toInt ∧ (q.ck a).toInt = k ∧ 0 ≤ k ∧ k ≤ (q.sn a).toInt
def jrK (fd co : Nat → Option Nat) (cs cl : Nat → Int32) (dc : Int) (Z : jwSt) (w : Nat) : Prop := (co w = none ∧ Z.2.1 w = (-1, 0)) ∨ ∃ d a : Nat, (d : Int) < dc ∧ d < 3 ∧ fd d = some a ∧ co w = some a ∧ jSo cs w = Z.1 d ∧ Z.2.1 w = ((d : Int), jSo cl w)
def jrZ (t : jDtr) (q : jXg) (fd : Nat → Option Nat) (dc : Int) (co : Nat → Option Nat) (cs cl : Nat → Int32) (W : List jwA) (ol nw td : Nat) (S : Int × (Int → jdD)) (Z : jwSt) : Prop := jdIr t fd dc ∧ jdRs t fd dc = S ∧ jPu q.sn q.ck fd co cs dc ol nw td ∧ (∀ a, jSrt (q.sb a) (q.se a) (q.sn a).toInt 1500 ∧ 0 ≤ (q.sn a).toInt ∧ (q.sn a).toInt ≤ 40) ∧ (∀ d a : Nat, (d : Int) < dc → d < 3 → fd d = some a → jrD t q a (Z.1 d)) ∧ (∀ w : Nat, w < 2 → jrK fd co cs cl dc Z w) ∧ (co 0 = co 1 → co 0 = none) ∧ jrW fd dc W Z.2.2.1
section J85
variable {t : jDtr} {q : jXg} {fd co : Nat → Option Nat} {dc : Int} {cs cl : Nat → Int32} {W : List jwA} {ol nw td : Nat} {S : Int × (Int → jdD)} {Z : jwSt}
theorem jrNu.at {d x : Nat} (hi : ∀ i j, i < 3 → j < 3 → fd i = fd j → i = j) (h : d < 3) (hx : fd d = some x) : jrNu fd x = d := by
  unfold jrNu
  have key : ∀ i, i < 3 → fd i = some x → i = d := fun i h1 h2 => hi i d h1 h (h2.trans hx.symm)
  by_cases e0 : fd 0 = some x
  · rw [if_pos e0, ← key 0 (by omega) e0]; rfl
  · rw [if_neg e0]
    by_cases e1 : fd 1 = some x
    · rw [if_pos e1, ← key 1 (by omega) e1]; rfl
    · rw [if_neg e1]
      by_cases e2 : fd 2 = some x
      · rw [if_pos e2, ← key 2 (by omega) e2]; rfl
      · have : d = 0 ∨ d = 1 ∨ d = 2 := by omega
        rcases this with r | r | r
        · subst r; exact absurd hx e0
        · subst r; exact absurd hx e1
        · subst r; exact absurd hx e2
theorem jrZ.inj (h : jrZ t q fd dc co cs cl W ol nw td S Z) : ∀ i j, i < 3 → j < 3 → fd i = fd j → i = j := h.2.2.1.2.1
theorem jrZ.dc3 (h : jrZ t q fd dc co cs cl W ol nw td S Z) : 0 ≤ dc ∧ dc ≤ 3 := ⟨h.1.1, h.1.2.1⟩
theorem jrZ.nu {d x : Nat} (h : jrZ t q fd dc co cs cl W ol nw td S Z) (h3 : d < 3) (hx : fd d = some x) : jrNu fd x = d := jrNu.at h.inj h3 hx
theorem jrZ.n (h : jrZ t q fd dc co cs cl W ol nw td S Z) : S.1 = dc := by rw [← h.2.1]; rfl
theorem jrZ.doc {d a : Nat} (h : jrZ t q fd dc co cs cl W ol nw td S Z) (hd : (d : Int) < dc) (ha : fd d = some a) : S.2 d = jdR1 t a := by
  rw [← h.2.1]
  exact jdLi.at (d := (d : Int)) (by omega) hd (by rw [show ((d : Int)).toNat = d by omega]; exact ha)
theorem jrZ.ln {d a : Nat} (h : jrZ t q fd dc co cs cl W ol nw td S Z) (hd : (d : Int) < dc) (ha : fd d = some a) : jwL S d = (t.ln a).toInt := by
  unfold jwL
  rw [h.doc hd ha]
  rfl
theorem jrZ.tx {d a : Nat} (h : jrZ t q fd dc co cs cl W ol nw td S Z) (hd : (d : Int) < dc) (ha : fd d = some a) : jEqU (jwF S d) (t.tx a) (t.ln a).toInt := fun i h0 h1 => by
  show (Int32.ofInt ((S.2 d).2.2.1 (i.toNat : Nat))).toInt = jSo (t.tx a) i
  rw [h.doc hd ha]
  show (Int32.ofInt (jdKp (t.ln a).toInt (jSo (t.tx a)) (i.toNat : Nat))).toInt = jSo (t.tx a) i
  rw [show ((i.toNat : Nat) : Int) = i by omega, jdKp.at h0 h1]
  unfold jSo
  rw [Int32.ofInt_toInt]
theorem jrZ.l0 (h : jrZ t q fd dc co cs cl W ol nw td S Z) (a : Nat) : 0 ≤ (t.ln a).toInt ∧ (t.ln a).toInt ≤ 1500 := ⟨(h.1.2.2.2 a).1, (h.1.2.2.2 a).2.1⟩
theorem jrZ.sn {d a : Nat} (h : jrZ t q fd dc co cs cl W ol nw td S Z) (hd : (d : Int) < dc) (h3 : d < 3) (ha : fd d = some a) : jwS S d = (q.sn a).toInt := by
  unfold jwS
  rw [h.ln hd ha, jPar_cg (h.l0 a).1 (h.tx hd ha)]
  exact (h.2.2.2.2.1 d a hd h3 ha).1.symm
theorem jOpI.nn {f : Nat → Int32} {n i : Int} (h0 : -1 ≤ i) (h : jOpI f i n = 1) : 0 ≤ i := by
  by_cases w : i = -1
  · subst w
    have z1 : (f 0).toInt = 40 := (jOpI.in h).2.1
    have z2 : (f 0).toInt = 42 := (jOpI.in h).2.2
    omega
  · omega
theorem jrZ.wk {d a w : Nat} (h : jrZ t q fd dc co cs cl W ol nw td S Z) (hw : w < 2) (hd : d < 3) (ha : fd d = some a) : ((Z.2.1 w).1 = (d : Int) ↔ co w = some a) := by
  rcases h.2.2.2.2.2.1 w hw with ⟨e1, e2⟩ | ⟨d1, a1, g1, g2, g3, g4, g5, g6⟩
  · rw [e1, e2]
    exact ⟨fun e => by have e : (-1 : Int) = d := e; omega, fun e => by cases e⟩
  · rw [g6, g4]
    refine ⟨fun e => ?_, fun e => ?_⟩
    · have e : ((d1 : Int)) = d := e
      have e : d1 = d := by omega
      subst e
      exact g3.symm.trans ha
    · show ((d1 : Int)) = d
      have := h.inj d1 d g2 hd (g3.trans (e.trans ha.symm))
      omega
theorem jrZ.as {d a : Nat} (h : jrZ t q fd dc co cs cl W ol nw td S Z) (hd : d < 3) (ha : fd d = some a) : (jwAs Z.2.2.1 d = true ↔ jwIs W a) := by
  obtain ⟨g1, g2⟩ := h.2.2.2.2.2.2.2
  unfold jwAs
  rw [g2, List.any_map, List.any_eq_true]
  refine ⟨fun ⟨b, hb, e⟩ => ⟨b, hb, ?_⟩, fun ⟨b, hb, e⟩ => ⟨b, hb, ?_⟩⟩
  · have e : decide (jrNu fd b.1 = (d : Int)) = true := e
    have e := of_decide_eq_true e
    obtain ⟨d1, k1, k2, k3⟩ := g1 b hb
    rw [h.nu k2 k3] at e
    have e : d1 = d := by omega
    subst e
    exact Option.some.inj (k3.symm.trans ha)
  · show decide (jrNu fd b.1 = (d : Int)) = true
    rw [e, h.nu hd ha]
    exact decide_eq_true rfl
end J85
section J87
variable {t : jDtr} {q : jXg} {fd co : Nat → Option Nat} {dc : Int} {cs cl : Nat → Int32} {W : List jwA} {ol nw td : Nat} {S : Int × (Int → jdD)} {Z : jwSt}
/-- what is known of the document of a number -/
theorem jrZ.nx {v : Int} {a : Nat} (h : jrZ t q fd dc co cs cl W ol nw td S Z) (h0 : 0 ≤ v) (hv : v < dc) (ha : some a = fd v.toNat) : jwS S v = (q.sn a).toInt ∧ Z.1 v = (q.ck a).toInt ∧ Z.1 v ≤ jwS S v ∧ ((Z.2.1 0).1 = v ↔ co 0 = some a) ∧ ((Z.2.1 1).1 = v ↔ co 1 = some a) ∧ (jwAs Z.2.2.1 v = true ↔ jwIs W a) ∧ jrNu fd a = v ∧ 0 ≤ Z.1 v := by
  have hd := h.dc3
  have e : ((v.toNat : Nat) : Int) = v := by omega
  have h1 := h.sn (d := v.toNat) (by omega) (by omega) ha.symm
  have h2 := h.2.2.2.2.1 v.toNat a (by omega) (by omega) ha.symm
  have h3 := h.wk (w := 0) (d := v.toNat) (by omega) (by omega) ha.symm
  have h4 := h.wk (w := 1) (d := v.toNat) (by omega) (by omega) ha.symm
  have h5 := h.as (d := v.toNat) (by omega) ha.symm
  have h6 := h.nu (d := v.toNat) (by omega) ha.symm
  have h7 := h2.2.2.2
  rw [e] at h1 h3 h4 h5 h6 h7
  exact ⟨h1, h7.1.symm, by rw [h1]; exact h7.2.2, h3, h4, h5, h6, h7.2.1⟩
end J87
end
section
-- p8: what the reference does, as the machine does it
theorem jUpd.at {n : Int} {f g : Nat → Int32} {i v : Int} {j : Nat} (h : jUpd n f g i v) (hj : (j : Int) < n) (e : (j : Int) ≠ i) : g j = f j := by
  have := h.2 j (by omega) hj e
  exact Int32.toInt_inj.mp this
theorem jwUw_s {W : Int → Int × Int} {w : Int} {x : Int × Int} {i : Int} (e : i = w) : jwUw W w x i = x := if_pos e
theorem jwUw_n {W : Int → Int × Int} {w : Int} {x : Int × Int} {i : Int} (e : i ≠ w) : jwUw W w x i = W i := if_neg e
theorem jwUp_s {K : Int → Int} {d x i : Int} (e : i = d) : jwUp K d x i = x := if_pos e
theorem jwUp_n {K : Int → Int} {d x i : Int} (e : i ≠ d) : jwUp K d x i = K i := if_neg e
section J88
variable {t : jDtr} {q : jXg} {fd co co1 : Nat → Option Nat} {dc : Int} {cs cl cs1 cl1 : Nat → Int32} {W : List jwA} {ol nw td x : Nat} {S : Int × (Int → jdD)} {Z : jwSt} {w L : Int} {i : Nat}
/-- one step of a check -/
def jwDc (Z : jwSt) (w : Int) : jwSt := (Z.1, jwUw Z.2.1 w ((Z.2.1 w).1, (Z.2.1 w).2 - 1), Z.2.2)
theorem jrZ.at (h : jrZ t q fd dc co cs cl W ol nw td S Z) (hw0 : 0 ≤ w) (hw1 : w ≤ 1) (hx : some x = co w.toNat) : ∃ d : Int, 0 ≤ d ∧ d < dc ∧ fd d.toNat = some x ∧ jSo cs w = Z.1 d ∧ Z.2.1 w = (d, jSo cl w) ∧ Z.1 d = (q.ck x).toInt ∧ Z.1 d < (q.sn x).toInt ∧ jwS S d = (q.sn x).toInt := by
  have e : ((w.toNat : Nat) : Int) = w := by omega
  rcases h.2.2.2.2.2.1 w.toNat (by omega) with ⟨k1, -⟩ | ⟨d1, b, k1, k2, k3, k4, k5, k6⟩
  · rw [← hx] at k1; cases k1
  · rw [← hx] at k4
    cases k4
    rw [e] at k5 k6
    have hnx := h.nx (v := (d1 : Int)) (by omega) k1 (by rw [show ((d1 : Int)).toNat = d1 by omega]; exact k3.symm)
    refine ⟨d1, by omega, k1, by rw [show ((d1 : Int)).toNat = d1 by omega]; exact k3, k5, k6, hnx.2.1, ?_, hnx.1⟩
    rcases h.2.2.1.2.2.2 w.toNat (by omega) with z | ⟨d2, b2, z1, z2, z3, z4, z5⟩
    · rw [← hx] at z; cases z
    · rw [← hx] at z4
      cases z4
      have : jSo cs w = (cs w.toNat).toInt := rfl
      omega
theorem jrW.flt {Q : List jwQ} {p : jwA → Bool} {r : jwQ → Bool} (h : jrW fd dc W Q) (hp : ∀ a ∈ W, r (jrNm fd a) = p a) : jrW fd dc (W.filter p) (Q.filter r) := by
  obtain ⟨h1, h2⟩ := h
  refine ⟨fun a ha => h1 a (List.mem_filter.mp ha).1, ?_⟩
  rw [h2, List.filter_map]
  congr 1
  exact List.filter_congr (fun a ha => hp a ha)
/-- the check of a worker is done: the sentence is checked, those that are ready go -/
theorem jrZ.fin {q1 : jXg} {d : Int} {sb se sf : Nat → Int32} {sn ck : Int32} (h : jrZ t q fd dc co cs cl W ol nw td S Z) (hw0 : 0 ≤ w) (hw1 : w ≤ 1) (hd0 : 0 ≤ d) (hd1 : d < dc) (hx : fd d.toNat = some x) (hZ : (Z.2.1 w).1 = d) (hi : (i : Int) = w) (hv : co1 i = none) (ho : ∀ j, j < 2 → j ≠ i → co1 j = co j) (hq : q1 = q.put x sn ck sb se sf) (h5 : sn = q.sn x) (h6 : sb = q.sb x) (h7 : se = q.se x) (h8 : sf = q.sf x) (hc : ck.toInt = Z.1 d + 1) (hle : Z.1 d < (q.sn x).toInt) : jrZ t q1 fd dc co1 cs cl (W.filter (fun a => !(decide (a.1 = x) && decide (a.2.1 ≤ (q1.ck x).toInt)))) ol nw td S (jwFin S Z w d) := by
  subst h5 h6 h7 h8
  have h3 := h.dc3
  have qsn : ∀ a, q1.sn a = q.sn a := fun a => by
    rw [hq]; show jUf q.sn x (q.sn x) a = q.sn a
    by_cases e : a = x
    · subst e; exact jUf_s _ _ _
    · exact jUf_n _ _ e
  have qsb : ∀ a, q1.sb a = q.sb a := fun a => by
    rw [hq]; show jUf q.sb x (q.sb x) a = q.sb a
    by_cases e : a = x
    · subst e; exact jUf_s _ _ _
    · exact jUf_n _ _ e
  have qse : ∀ a, q1.se a = q.se a := fun a => by
    rw [hq]; show jUf q.se x (q.se x) a = q.se a
    by_cases e : a = x
    · subst e; exact jUf_s _ _ _
    · exact jUf_n _ _ e
  have qsf : ∀ a, q1.sf a = q.sf a := fun a => by
    rw [hq]; show jUf q.sf x (q.sf x) a = q.sf a
    by_cases e : a = x
    · subst e; exact jUf_s _ _ _
    · exact jUf_n _ _ e
  have qcx : q1.ck x = ck := by rw [hq]; exact jUf_s _ _ _
  have qcn : ∀ a, a ≠ x → q1.ck a = q.ck a := fun a e => by rw [hq]; exact jUf_n _ _ e
  have key : ∀ d1 a : Nat, d1 < 3 → fd d1 = some a → (a = x ↔ (d1 : Int) = d) := fun d1 a k2 k3 => by
    refine ⟨fun e => ?_, fun e => ?_⟩
    · subst e
      have := h.inj d1 d.toNat k2 (by omega) (k3.trans hx.symm)
      omega
    · have e1 : d1 = d.toNat := by omega
      subst e1
      exact Option.some.inj (k3.symm.trans hx)
  refine ⟨h.1, h.2.1, ?_, fun a => ?_, fun d1 a k1 k2 k3 => ?_, fun j hj => ?_, fun ee => ?_, ?_⟩
  · obtain ⟨p0, p1, p2, p3⟩ := h.2.2.1.drop (w := i) hv ho
    refine ⟨p0, p1, fun i1 a hi1 ha => ?_, fun w1 hw => ?_⟩
    · rw [qsn a]
      by_cases e : a = x
      · subst e; rw [qcx]; omega
      · rw [qcn a e]; exact p2 i1 a hi1 ha
    · rcases p3 w1 hw with k | ⟨d2, a, k1, k2, k3, k4, k5⟩
      · exact Or.inl k
      · exact Or.inr ⟨d2, a, k1, k2, k3, k4, by rw [qsn a]; exact k5⟩
  · rw [qsb a, qse a, qsn a]; exact h.2.2.2.1 a
  · obtain ⟨m1, m2, m3, m4, m5, m6⟩ := h.2.2.2.2.1 d1 a k1 k2 k3
    unfold jrD
    rw [qsn a, qsb a, qse a, qsf a]
    show _ ∧ _ ∧ _ ∧ _ = jwUp Z.1 d (Z.1 d + 1) d1 ∧ 0 ≤ jwUp Z.1 d (Z.1 d + 1) d1 ∧ jwUp Z.1 d (Z.1 d + 1) d1 ≤ _
    by_cases e : a = x
    · have ed := (key d1 a k2 k3).mp e
      rw [jwUp_s ed]
      subst e
      rw [ed] at m5
      exact ⟨m1, m2, m3, by rw [qcx]; exact hc, by omega, by omega⟩
    · have ed : (d1 : Int) ≠ d := fun z => e ((key d1 a k2 k3).mpr z)
      rw [jwUp_n ed, qcn a e]
      exact ⟨m1, m2, m3, m4, m5, m6⟩
  · by_cases ej : j = i
    · subst ej
      exact Or.inl ⟨hv, jwUw_s hi⟩
    · have e2 : jwUw Z.2.1 w (-1, 0) (j : Int) = Z.2.1 j := jwUw_n (by omega)
      rcases h.2.2.2.2.2.1 j hj with ⟨k1, k2⟩ | ⟨d1, b, k1, k2, k3, k4, k5, k6⟩
      · exact Or.inl ⟨(ho j hj ej).trans k1, e2.trans k2⟩
      · have ed : (d1 : Int) ≠ d := fun z => by
          have hb := (key d1 b k2 k3).mpr z
          subst hb
          have hci : co i = some b := by
            have hwi := h.wk (w := i) (d := d.toNat) (by omega) (by omega) hx
            rw [hi] at hwi
            exact hwi.mp (by rw [hZ]; omega)
          have e3 : co 0 = co 1 := by
            rcases (by omega : (i = 0 ∧ j = 1) ∨ (i = 1 ∧ j = 0)) with ⟨c1, c2⟩ | ⟨c1, c2⟩
            · rw [c1] at hci; rw [c2] at k4; exact hci.trans k4.symm
            · rw [c1] at hci; rw [c2] at k4; exact k4.trans hci.symm
          have e4 := h.2.2.2.2.2.2.1 e3
          rcases (by omega : (i = 0 ∧ j = 1) ∨ (i = 1 ∧ j = 0)) with ⟨c1, c2⟩ | ⟨c1, c2⟩
          · rw [c1, e4] at hci; cases hci
          · rw [c2, e4] at k4; cases k4
        refine Or.inr ⟨d1, b, k1, k2, k3, (ho j hj ej).trans k4, ?_, e2.trans k6⟩
        show _ = jwUp Z.1 d (Z.1 d + 1) d1
        rw [jwUp_n ed]; exact k5
  · rcases (by omega : i = 0 ∨ i = 1) with ei | ei
    · subst ei; exact hv
    · subst ei
      rw [ee]; exact hv
  · refine h.2.2.2.2.2.2.2.flt (fun a ha => ?_)
    obtain ⟨d1, k1, k2, k3⟩ := h.2.2.2.2.2.2.2.1 a ha
    show (!(decide (jrNu fd a.1 = d) && decide (a.2.1 ≤ Z.1 d + 1))) = _
    rw [qcx, hc, h.nu k2 k3]
    congr 2
    exact decide_eq_decide.mpr (key d1 a.1 k2 k3).symm
end J88
end
section
-- p8: what holds of the machine between two steps
theorem jcK.nn {f : Nat → Int32} {n e : Int} : ∀ (k : Nat) (i : Int), 0 ≤ jcK f n e k i
  | 0, _ => Int.le_refl 0
  | k + 1, i => by
    rw [jcK_s (k := k + 1) (by omega), Nat.add_sub_cancel]
    by_cases w : i < e
    · rw [if_pos w]
      have h1 := jcK.nn (f := f) (n := n) (e := e) k (jBcc f n i)
      have h2 := jcK.nn (f := f) (n := n) (e := e) k (jcWd f e i)
      have h3 := jcK.nn (f := f) (n := n) (e := e) k (i + 2)
      have h4 := jcK.nn (f := f) (n := n) (e := e) k (i + 1)
      have hr : i ≤ jcWd f e i := (jcW.rg (f := f) (e := e) _ i (by omega)).1
      split
      · exact h1
      · split
        · split <;> omega
        · split
          · omega
          · split
            · exact h4
            · omega
    · rw [if_neg w]
      exact Int.le_refl 0
theorem jcC.ge {f : Nat → Int32} {n : Int} {k : Nat} : 3 ≤ jcC f n k := by
  unfold jcC
  have h := jcK.nn (f := f) (n := n) (e := jcE f n k) ((jcE f n k - jcB f n k).toNat + 1) (jcB f n k)
  split <;> omega
section J89
variable {S : Int × (Int → jdD)} {Z : jwSt} {w d : Int}
theorem jwLf.ge : 1 ≤ jwLf S Z d := by
  unfold jwLf jwC
  split
  · exact Int.le_refl 1
  · have := jcC.ge (f := jwF S d) (n := jwL S d) (k := (Z.1 d).toNat); omega
theorem jwOk.tk (h : jwOk S Z) (hw : w = 0 ∨ w = 1) (hn : (Z.2.1 w).1 < 0) : jwOk S (jwTk S Z w) := by
  unfold jwTk
  by_cases q : jwNx S Z < 0
  · rw [if_pos q]; exact h
  · rw [if_neg q]
    obtain ⟨h1, h2, h3, h4, h5, h6⟩ := h
    have hr := (jwNx.rg (S := S) (Z := Z)).resolve_left (by omega)
    obtain ⟨r1, r2, r3, r4, r5⟩ := hr
    refine ⟨h1, fun v hv => ?_, fun e => ?_, h4, h5, h6⟩
    · by_cases ev : v = w
      · rw [show (Z.1, jwUw Z.2.1 w (jwNx S Z, jwLf S Z (jwNx S Z)), Z.2.2).2.1 v = (jwNx S Z, jwLf S Z (jwNx S Z)) from jwUw_s ev]
        exact Or.inr ⟨r1, r2, r3, jwLf.ge⟩
      · rw [show (Z.1, jwUw Z.2.1 w (jwNx S Z, jwLf S Z (jwNx S Z)), Z.2.2).2.1 v = Z.2.1 v from jwUw_n ev]
        exact h2 v hv
    · exfalso
      have e : (jwUw Z.2.1 w (jwNx S Z, jwLf S Z (jwNx S Z)) 0).1 = (jwUw Z.2.1 w (jwNx S Z, jwLf S Z (jwNx S Z)) 1).1 := e
      rcases hw with hw | hw
      · subst hw
        rw [jwUw_s rfl, jwUw_n (by omega)] at e
        exact r5 e.symm
      · subst hw
        rw [jwUw_s rfl, jwUw_n (by omega)] at e
        exact r4 e
theorem jwOk.pos (h : jwOk S Z) (hw : w = 0 ∨ w = 1) (hn : 0 ≤ (Z.2.1 w).1) : (Z.2.1 w).1 < S.1 ∧ Z.1 (Z.2.1 w).1 < jwS S (Z.2.1 w).1 ∧ 1 ≤ (Z.2.1 w).2 := by
  rcases h.2.1 w hw with e | e
  · rw [e] at hn; exact absurd hn (by decide)
  · exact e.2
theorem jwOk.fin (h : jwOk S Z) (hw : w = 0 ∨ w = 1) (hd : (Z.2.1 w).1 = d) (h0 : 0 ≤ d) : jwOk S (jwFin S Z w d) := by
  have hp := h.pos hw (by omega)
  rw [hd] at hp
  obtain ⟨h1, h2, h3, h4, h5, h6⟩ := h
  refine ⟨fun e e0 e1 => ?_, fun v hv => ?_, fun e => ?_, fun q hq => ?_, ?_, ?_⟩
  · show 0 ≤ jwUp Z.1 d (Z.1 d + 1) e ∧ jwUp Z.1 d (Z.1 d + 1) e ≤ jwS S e
    by_cases ee : e = d
    · rw [jwUp_s ee, ee]
      have := h1 d h0 hp.1
      omega
    · rw [jwUp_n ee]; exact h1 e e0 e1
  · show jwUw Z.2.1 w (-1, 0) v = (-1, 0) ∨ (0 ≤ (jwUw Z.2.1 w (-1, 0) v).1 ∧ (jwUw Z.2.1 w (-1, 0) v).1 < S.1 ∧ jwUp Z.1 d (Z.1 d + 1) (jwUw Z.2.1 w (-1, 0) v).1 < jwS S (jwUw Z.2.1 w (-1, 0) v).1 ∧ 1 ≤ (jwUw Z.2.1 w (-1, 0) v).2)
    by_cases ev : v = w
    · rw [jwUw_s ev]; exact Or.inl rfl
    · rw [jwUw_n ev]
      rcases h2 v hv with e | e
      · exact Or.inl e
      · have hne : (Z.2.1 v).1 ≠ d := fun ed => by
          have : (Z.2.1 0).1 = (Z.2.1 1).1 := by
            rcases hv with hv | hv <;> rcases hw with hw | hw <;> subst hv <;> subst hw
            · exact absurd rfl ev
            · exact ed.trans hd.symm
            · exact hd.trans ed.symm
            · exact absurd rfl ev
          have h9 := h3 this
          rcases hw with hw | hw <;> subst hw <;> omega
        rw [jwUp_n hne]
        exact Or.inr e
  · show (jwUw Z.2.1 w (-1, 0) 0).1 = -1
    have e : (jwUw Z.2.1 w (-1, 0) 0).1 = (jwUw Z.2.1 w (-1, 0) 1).1 := e
    rcases hw with hw | hw <;> subst hw
    · rw [jwUw_s rfl]
    · rw [e, jwUw_s rfl]
  · have hq1 := List.mem_filter.mp hq
    obtain ⟨a, b, c⟩ := h4 q hq1.1
    refine ⟨a, b, ?_⟩
    show jwUp Z.1 d (Z.1 d + 1) q.1 < q.2.1
    by_cases ee : q.1 = d
    · rw [jwUp_s ee]
      have hr : (!(decide (q.1 = d) && decide (q.2.1 ≤ Z.1 d + 1))) = true := hq1.2
      rw [ee] at hr
      simp at hr
      omega
    · rw [jwUp_n ee]; exact c
  · exact Nat.le_trans (List.length_filter_le _ _) h5
  · show (jwKp Z.2.2.2 (jwR S d (Z.1 d + 1))).length ≤ 24
    unfold jwKp
    rw [List.length_append]
    have e1 : [jwR S d (Z.1 d + 1)].length = 1 := rfl
    rw [e1]
    split
    · rename_i hm
      have := List.length_erase_of_mem hm
      have := List.length_pos_of_mem hm
      omega
    · split
      · rw [List.length_tail]; omega
      · omega
theorem jwOk.dc (h : jwOk S Z) (hw : w = 0 ∨ w = 1) (hl : 1 < (Z.2.1 w).2) (h0 : 0 ≤ (Z.2.1 w).1) : jwOk S (Z.1, jwUw Z.2.1 w ((Z.2.1 w).1, (Z.2.1 w).2 - 1), Z.2.2) := by
  have hp := h.pos hw h0
  obtain ⟨h1, h2, h3, h4, h5, h6⟩ := h
  have key : ∀ v, (jwUw Z.2.1 w ((Z.2.1 w).1, (Z.2.1 w).2 - 1) v).1 = (Z.2.1 v).1 := fun v => by
    by_cases ev : v = w
    · rw [jwUw_s ev, ev]
    · rw [jwUw_n ev]
  refine ⟨h1, fun v hv => ?_, fun e => ?_, h4, h5, h6⟩
  · by_cases ev : v = w
    · refine Or.inr ?_
      show 0 ≤ (jwUw Z.2.1 w ((Z.2.1 w).1, (Z.2.1 w).2 - 1) v).1 ∧ (jwUw Z.2.1 w ((Z.2.1 w).1, (Z.2.1 w).2 - 1) v).1 < S.1 ∧ Z.1 (jwUw Z.2.1 w ((Z.2.1 w).1, (Z.2.1 w).2 - 1) v).1 < jwS S (jwUw Z.2.1 w ((Z.2.1 w).1, (Z.2.1 w).2 - 1) v).1 ∧ 1 ≤ (jwUw Z.2.1 w ((Z.2.1 w).1, (Z.2.1 w).2 - 1) v).2
      rw [key v, ev]
      refine ⟨h0, hp.1, hp.2.1, ?_⟩
      rw [jwUw_s rfl]
      show 1 ≤ (Z.2.1 w).2 - 1
      omega
    · rw [show (Z.1, jwUw Z.2.1 w ((Z.2.1 w).1, (Z.2.1 w).2 - 1), Z.2.2).2.1 v = Z.2.1 v from jwUw_n ev]
      exact h2 v hv
  · have e : (jwUw Z.2.1 w ((Z.2.1 w).1, (Z.2.1 w).2 - 1) 0).1 = (jwUw Z.2.1 w ((Z.2.1 w).1, (Z.2.1 w).2 - 1) 1).1 := e
    show (jwUw Z.2.1 w ((Z.2.1 w).1, (Z.2.1 w).2 - 1) 0).1 = -1
    rw [key 0, key 1] at e
    rw [key 0]
    exact h3 e
theorem jwOk.dod (h : jwOk S Z) (hw : w = 0 ∨ w = 1) : jwOk S (jwDo S Z w) := by
  unfold jwDo
  by_cases q : (Z.2.1 w).1 < 0
  · rw [if_pos q]; exact h
  · rw [if_neg q]
    by_cases q1 : (Z.2.1 w).2 ≤ 1
    · rw [if_pos q1]; exact h.fin hw rfl (by omega)
    · rw [if_neg q1]; exact h.dc hw (by omega) (by omega)
theorem jwOk.ad (h : jwOk S Z) (hw : w = 0 ∨ w = 1) : jwOk S (jwAd S Z w) := by
  unfold jwAd
  by_cases q : (Z.2.1 w).1 < 0
  · rw [if_pos q]; exact (h.tk hw q).dod hw
  · rw [if_neg q]; exact h.dod hw
/-- a step of the first k workers -/
def jwAk (S : Int × (Int → jdD)) (Z : jwSt) (k : Int) : jwSt := if k ≤ 0 then Z else if k ≤ 1 then jwAd S Z 0 else jwAd S (jwAd S Z 0) 1
theorem jwFin.dc : jwFin S (jwDc Z w) w d = jwFin S Z w d := by
  unfold jwFin jwDc
  have e : jwUw (jwUw Z.2.1 w ((Z.2.1 w).1, (Z.2.1 w).2 - 1)) w (-1, 0) = jwUw Z.2.1 w (-1, 0) := funext fun i => by
    by_cases q : i = w
    · rw [jwUw_s q, jwUw_s q]
    · rw [jwUw_n q, jwUw_n q, jwUw_n q]
  show (jwUp Z.1 d (Z.1 d + 1), jwUw (jwUw Z.2.1 w ((Z.2.1 w).1, (Z.2.1 w).2 - 1)) w (-1, 0), _, _) = _
  rw [e]
theorem jwAd.tk (h : (Z.2.1 w).1 < 0) : jwAd S Z w = jwDo S (jwTk S Z w) w := by
  unfold jwAd
  rw [if_pos h]
theorem jwDo.dc (h : 0 ≤ (Z.2.1 w).1) (h1 : 1 < (Z.2.1 w).2) : jwDc Z w = jwDo S Z w := by
  unfold jwDo
  rw [if_neg (by omega), if_neg (by omega)]
  rfl
theorem jwDc.at : ((jwDc Z w).2.1 w).1 = (Z.2.1 w).1 := by
  show (jwUw Z.2.1 w ((Z.2.1 w).1, (Z.2.1 w).2 - 1) w).1 = _
  rw [jwUw_s rfl]
theorem jwHs.n (h0 : (Z.2.1 0).1 < 0) (h1 : (Z.2.1 1).1 < 0) (h2 : jwNx S Z < 0) : jwHs S Z ≠ 1 := by
  unfold jwHs
  rw [if_neg (by omega)]
  decide
end J89
end
section
-- p8: sentences that stay as they were (the reference)
theorem jwSy.le {f g : Nat → Int32} {n m : Int} (hn : 0 ≤ n) (hm : 0 ≤ m) : 0 ≤ jwSy f n g m ∧ jwSy f n g m ≤ jPar f n ∧ jwSy f n g m ≤ jPar g m := by
  have p1 := jPar.ch (f := f) hn
  have p2 := jPar.ch (f := g) hm
  have hS : jwSy f n g m = jwSm f n g m (if jPar f n ≤ jPar g m then jPar f n else jPar g m) 40 0 := rfl
  generalize hs0 : (if jPar f n ≤ jPar g m then jPar f n else jPar g m) = s at hS
  have hs1 : s ≤ jPar f n ∧ s ≤ jPar g m ∧ (s = jPar f n ∨ s = jPar g m) := by
    rw [← hs0]
    split <;> omega
  obtain ⟨a, b, d, e⟩ := jwSm.ch (f := f) (g := g) (n := n) (m := m) (s := s) 40 0 (Int.le_refl 0) (by omega)
  rw [← hS] at a b
  omega
def jrB (t : jDtr) : Prop := ∀ a, 0 ≤ (t.ln a).toInt ∧ (t.ln a).toInt ≤ 1500 ∧ 0 ≤ (t.ul a).toInt ∧ (t.ul a).toInt ≤ 40
def jrS (q : jXg) : Prop := ∀ a, jSrt (q.sb a) (q.se a) (q.sn a).toInt 1500 ∧ 0 ≤ (q.sn a).toInt ∧ (q.sn a).toInt ≤ 40
theorem jDtr.pn {t : jDtr} {a x : Nat} {v l u : Int32} {f g : Nat → Int32} (h : x ≠ a) : (t.put a v l f u g).ve x = t.ve x ∧ (t.put a v l f u g).ln x = t.ln x ∧ (t.put a v l f u g).tx x = t.tx x ∧ (t.put a v l f u g).ul x = t.ul x ∧ (t.put a v l f u g).ux x = t.ux x := ⟨jUf_n _ _ h, jUf_n _ _ h, jUf_n _ _ h, jUf_n _ _ h, jUf_n _ _ h⟩
theorem jDtr.ps {t : jDtr} {a : Nat} {v l u : Int32} {f g : Nat → Int32} : (t.put a v l f u g).ve a = v ∧ (t.put a v l f u g).ln a = l ∧ (t.put a v l f u g).tx a = f ∧ (t.put a v l f u g).ul a = u ∧ (t.put a v l f u g).ux a = g := ⟨jUf_s _ _ _, jUf_s _ _ _, jUf_s _ _ _, jUf_s _ _ _, jUf_s _ _ _⟩
theorem jXg.pn {q : jXg} {a x : Nat} {sn ck : Int32} {sb se sf : Nat → Int32} (h : x ≠ a) : (q.put a sn ck sb se sf).sn x = q.sn x ∧ (q.put a sn ck sb se sf).ck x = q.ck x ∧ (q.put a sn ck sb se sf).sb x = q.sb x ∧ (q.put a sn ck sb se sf).se x = q.se x ∧ (q.put a sn ck sb se sf).sf x = q.sf x := ⟨jUf_n _ _ h, jUf_n _ _ h, jUf_n _ _ h, jUf_n _ _ h, jUf_n _ _ h⟩
theorem jXg.ps {q : jXg} {a : Nat} {sn ck : Int32} {sb se sf : Nat → Int32} : (q.put a sn ck sb se sf).sn a = sn ∧ (q.put a sn ck sb se sf).ck a = ck ∧ (q.put a sn ck sb se sf).sb a = sb ∧ (q.put a sn ck sb se sf).se a = se ∧ (q.put a sn ck sb se sf).sf a = sf := ⟨jUf_s _ _ _, jUf_s _ _ _, jUf_s _ _ _, jUf_s _ _ _, jUf_s _ _ _⟩
theorem jrB.put {t : jDtr} {a : Nat} {v l u : Int32} {f g : Nat → Int32} (h : jrB t) (h0 : 0 ≤ l.toInt) (h1 : l.toInt ≤ 1500) (h2 : 0 ≤ u.toInt) (h3 : u.toInt ≤ 40) : jrB (t.put a v l f u g) := fun x => by
  by_cases e : x = a
  · subst e
    obtain ⟨-, e2, -, e4, -⟩ := jDtr.ps (t := t) (a := x) (v := v) (l := l) (u := u) (f := f) (g := g)
    rw [e2, e4]; exact ⟨h0, h1, h2, h3⟩
  · obtain ⟨-, e2, -, e4, -⟩ := jDtr.pn (t := t) (v := v) (l := l) (u := u) (f := f) (g := g) e
    rw [e2, e4]; exact h x
theorem jrS.put {q : jXg} {a : Nat} {sn ck : Int32} {sb se sf : Nat → Int32} (h : jrS q) (h0 : jSrt sb se sn.toInt 1500) (h1 : 0 ≤ sn.toInt) (h2 : sn.toInt ≤ 40) : jrS (q.put a sn ck sb se sf) := fun x => by
  by_cases e : x = a
  · subst e
    obtain ⟨e1, -, e3, e4, -⟩ := jXg.ps (q := q) (a := x) (sn := sn) (ck := ck) (sb := sb) (se := se) (sf := sf)
    rw [e1, e3, e4]; exact ⟨h0, h1, h2⟩
  · obtain ⟨e1, -, e3, e4, -⟩ := jXg.pn (q := q) (sn := sn) (ck := ck) (sb := sb) (se := se) (sf := sf) e
    rw [e1, e3, e4]; exact h x
theorem jcU.at {f g : Nat → Int32} {n m x : Int} {k : Nat} (e : jcU f n k = jcU g m k) (h : jcE f n k - jcB f n k = jcE g m k - jcB g m k) (h0 : 0 ≤ x) (h1 : x < jcE f n k - jcB f n k) : jSo f (jcB f n k + x) = jSo g (jcB g m k + x) := by
  unfold jcU at e
  rw [← h] at e
  exact jcL.eq _ _ _ e x h0 (by omega)
/-- the workers of a document that has changed: those of k are looked at -/
def jrH (co c1 : Nat → Option Nat) (cs : Nat → Int32) (x : Nat) (st k : Int) : Prop := ∀ w : Nat, w < 2 → c1 w = if (w : Int) < k ∧ co w = some x ∧ st ≤ jSo cs w then none else co w
end
section
-- p8: the reference opens, changes, closes a document: the machine's state
section J90
variable {t t1 : jDtr} {q q1 : jXg} {fd fd1 co c1 : Nat → Option Nat} {dc : Int} {cs cl : Nat → Int32} {W : List jwA} {ol nw td x : Nat} {S S1 : Int × (Int → jdD)} {Z : jwSt} {d : Int}
theorem jrF.tx (hd0 : 0 ≤ d) (hd : d < dc) (hx : fd d.toNat = some x) : jEqU (jwF (jdRs t fd dc) d) (t.tx x) (t.ln x).toInt := fun i h0 h1 => by
  show (Int32.ofInt ((jdLi dc fd (jdR1 t) d).2.2.1 (i.toNat : Nat))).toInt = jSo (t.tx x) i
  rw [jdLi.at hd0 hd hx]
  show (Int32.ofInt (jdKp (t.ln x).toInt (jSo (t.tx x)) (i.toNat : Nat))).toInt = jSo (t.tx x) i
  rw [show ((i.toNat : Nat) : Int) = i by omega, jdKp.at h0 h1]
  unfold jSo
  rw [Int32.ofInt_toInt]
end J90
end
section
-- p8: the reference closes a document: the machine's state
section J91
variable {t : jDtr} {q : jXg} {fd fd1 co c1 : Nat → Option Nat} {dc dc1 : Int} {cs cl : Nat → Int32} {W : List jwA} {ol nw td x : Nat} {S S1 : Int × (Int → jdD)} {Z : jwSt} {d : Int}
theorem jrH.n {st k : Int} {c2 : Nat → Option Nat} (hn : jNo c2 x 2) (ho : ∀ w : Nat, w < 2 → c2 w = co w ∨ (co w = some x ∧ c2 w = none)) : ∀ w : Nat, w < 2 → c2 w = if co w = some x then none else co w := fun w hw => by
  by_cases g : co w = some x
  · rw [if_pos g]
    rcases ho w hw with e | ⟨-, e⟩
    · exact absurd (e.trans g) (hn w (by omega))
    · exact e
  · rw [if_neg g]
    rcases ho w hw with e | ⟨e, -⟩
    · exact e
    · exact absurd e g
end J91
end
section
-- p8: one asks (the reference)
section J92
variable {t : jDtr} {q : jXg} {fd co : Nat → Option Nat} {dc : Int} {cs cl : Nat → Int32} {W : List jwA} {ol nw td x : Nat} {S : Int × (Int → jdD)} {Z : jwSt} {d : Int}
theorem jwGo.n {T : Nat → Int → Int} {v : Int} (h : ¬ (0 ≤ d ∧ 0 ≤ jdT T v (S.2 d).2.2.1 (S.2 d).2.1 (jwPo T v))) : jwGo T v S Z d = Z := if_neg h
theorem jwAsk.n {T : Nat → Int → Int} {v nd : Int} (h : nd ≤ Z.1 d) : jwAsk T v d nd Z = Z := if_neg (by omega)
theorem jwSt1.n {T : Nat → Int → Int} {v : Int} (h : ¬ (0 ≤ d ∧ jqK T v (jwNa T v) = 3)) : jwSt1 T v S Z d = Z := if_neg h
end J92
end
section
-- p8: a message, a byte, a batch (the reference)
section J93
variable {T : Nat → Int → Int} {v p m : Int} {S : Int × (Int → jdD)} {Z : jwSt}
theorem jwRq.n (hm : m = jdMe T v) (h2 : jqI T v (jChT "proof/goals") 11 m ≠ 1) (h3 : jqI T v (jChT "proof/statement") 15 m ≠ 1) : jwRq T v p S Z = Z := by
  subst hm; unfold jwRq
  by_cases q : p = 1 ∧ jqI T v (jChT jdIn) 10 (jdMe T v) ≠ 1 ∧ jqI T v (jChT "shutdown") 8 (jdMe T v) ≠ 1
  · rw [if_pos q, if_neg h2, if_neg h3]
  · rw [if_neg q]
def jwNz (T : Nat → Int → Int) (v p : Int) (S : Int × (Int → jdD)) (Z : jwSt) : jwSt := if jqI T v (jChT "exit") 4 (jdMe T v) = 1 then Z else jwNo T v p S Z
theorem jwNz.n (hm : m = jdMe T v) (h : jqI T v (jChT "exit") 4 m ≠ 1) : jwNz T v p S Z = jwNo T v p S Z := by subst hm; exact if_neg h
theorem jwNo.n (hm : m = jdMe T v) (h : jqI T v (jChT "textDocument/didOpen") 20 m ≠ 1) (h1 : jqI T v (jChT "textDocument/didChange") 22 m ≠ 1) (h2 : jqI T v (jChT "textDocument/didClose") 21 m ≠ 1) (h3 : jqI T v (jChT "$/cancelRequest") 15 m ≠ 1) : jwNo T v p S Z = Z := by
  subst hm; unfold jwNo
  by_cases q : p ≠ 1
  · rw [if_pos q]
  · rw [if_neg q, if_neg h, if_neg h1, if_neg h2, if_neg h3]
end J93
section J94
variable {X : Nat → Int} {s : jdSt} {c r bk pk m h l b cn cv qm qh ql qb qn qv e p z z1 n : Int} {fn fv gn gv fk gk : Nat → Int32} {S S1 : Int × (Int → jdD)} {D : Int → Int} {Z : jwSt}
end J94
end
section
-- p8: the class: units of sentences that are kept (kind 175), and the States: the row of sentences that each one stands behind
/-- a row that is empty or ended -/
def jnE (l : List Int) : Prop := l = [] ∨ ∃ p : List Int, l = p ++ [-1]
/-- all rows of kept units -/
def jUS (dC : Nat → ClassId) (dI : Nat → Nat → Nat) (ca : Nat → ClassId) (G : jT) (us : Nat → List Int) (H : Heap) : Prop := ∀ y k, G y = some (175, k) → ∃ f : Nat → Int32, va_at (dC, dI) vwCl (y, .inl (ca 1, k, .inl f)) H ∧ us y = jcL f k 0
/-- what a State's two fields tell, if its row is a proper one: av = ahead, l = its units -/
def jnQ (G : jT) (rw : Nat → List Int) (a : Nat) (av : Value) (l : List Int) : Prop := (∀ c ∈ l, c ≠ (-1 : Int)) ∧ (rw a).count (-1) ≤ 40 ∧ ((av = .null ∧ l = [] ∧ rw a = []) ∨ ∃ b : Nat, av = .ref b ∧ G b = some (11, 0) ∧ l ≠ [] ∧ rw a = rw b ++ (l ++ [-1]) ∧ jnE (rw b))
def jnR (G : jT) (rw : Nat → List Int) (a : Nat) (av : Value) (l : List Int) : Prop := jnE (rw a) → jnQ G rw a av l
def jNS (dC : Nat → ClassId) (dI : Nat → Nat → Nat) (G : jT) (us rw : Nat → List Int) (H : Heap) : Prop := ∀ a, G a = some (11, 0) → ∃ (y k : Nat) (av : Value), jf (dC, dI) 11 a 0 av H ∧ jf (dC, dI) 11 a 1 (.ref y) H ∧ G y = some (175, k) ∧ jnR G rw a av (us y)
section J95
variable {dC : Nat → ClassId} {dI : Nat → Nat → Nat} {ca : Nat → ClassId} {G G1 : jT} {H : Heap} {us rw : Nat → List Int} {a : Nat}
end J95
theorem jcL.nn {f : Nat → Int32} : ∀ (k : Nat) (b : Nat), (∀ i : Nat, i < b + k → 0 ≤ (f i).toInt) → ∀ c ∈ jcL f k (b : Int), c ≠ -1
  | 0, _, _, c, hc => by cases hc
  | k + 1, b, h, c, hc => by
    rcases List.mem_cons.mp hc with e | hc
    · rw [e]
      have := h b (by omega)
      show (f ((b : Int)).toNat).toInt ≠ -1
      rw [show ((b : Int)).toNat = b by omega]
      omega
    · exact jcL.nn k (b + 1) (fun i hi => h i (by omega)) c (by rw [show (((b + 1 : Nat)) : Int) = (b : Int) + 1 by omega]; exact hc)
theorem jcL_eq {f g : Nat → Int32} : ∀ (k : Nat) (b : Nat), (∀ i : Nat, i < b + k → (f i).toInt = (g i).toInt) → jcL f k (b : Int) = jcL g k (b : Int)
  | 0, _, _ => rfl
  | k + 1, b, h => by
    show (f ((b : Int)).toNat).toInt :: jcL f k ((b : Int) + 1) = (g ((b : Int)).toNat).toInt :: jcL g k ((b : Int) + 1)
    rw [show ((b : Int)).toNat = b by omega, h b (by omega), show (b : Int) + 1 = ((b + 1 : Nat) : Int) by omega, jcL_eq k (b + 1) (fun i hi => h i (by omega))]
theorem jnL.at {f : Nat → Int32} : ∀ (k : Nat) (b i : Nat), i < k → (jcL f k (b : Int))[i]? = some (f (b + i)).toInt
  | 0, _, _, h => by omega
  | k + 1, b, 0, _ => by
    show some (f ((b : Int)).toNat).toInt = _
    rw [show ((b : Int)).toNat = b + 0 by omega]
  | k + 1, b, i + 1, h => by
    show (jcL f k ((b : Int) + 1))[i]? = _
    rw [show (b : Int) + 1 = ((b + 1 : Nat) : Int) by omega, jnL.at k (b + 1) i (by omega), show b + 1 + i = b + (i + 1) by omega]
theorem jnL {f g : Nat → Int32} {k i : Nat} (h : jcL f k 0 = jcL g k 0) (hi : i < k) : (f i).toInt = (g i).toInt := by
  have h1 := jnL.at (f := f) k 0 i hi
  have h2 := jnL.at (f := g) k 0 i hi
  rw [show ((0 : Nat) : Int) = 0 by rfl, Nat.zero_add] at h1 h2
  rw [h, h2] at h1
  exact (Option.some.inj h1).symm
/-- a State or none: its row -/
def jnO (rw : Nat → List Int) : Option Nat → List Int
  | none => []
  | some a => rw a
section J96
variable {G : jT} {rw : Nat → List Int} {a b : Nat} {av bv : Value} {l m : List Int}
theorem jnQ.eq (h1 : jnQ G rw a av l) (h2 : jnQ G rw b bv m) (e : l = m) : (av = .null ∧ bv = .null ∧ rw a = rw b) ∨ ∃ x y : Nat, av = .ref x ∧ bv = .ref y ∧ G x = some (11, 0) ∧ G y = some (11, 0) ∧ (rw a = rw b ↔ rw x = rw y) ∧ (rw a).count (-1) = (rw x).count (-1) + 1 ∧ (rw b).count (-1) = (rw y).count (-1) + 1 ∧ jnE (rw x) ∧ jnE (rw y) := by
  subst e
  obtain ⟨u1, -, c1⟩ := h1
  obtain ⟨-, -, c2⟩ := h2
  rcases c1 with ⟨n1, z1, r1⟩ | ⟨x, n1, gx, z1, r1, ex⟩
  · rcases c2 with ⟨n2, z2, r2⟩ | ⟨y, n2, gy, z2, r2, ey⟩
    · exact Or.inl ⟨n1, n2, by rw [r1, r2]⟩
    · exact absurd z1 z2
  · rcases c2 with ⟨n2, z2, r2⟩ | ⟨y, n2, gy, z2, r2, ey⟩
    · exact absurd z2 z1
    · have c0 : l.count (-1) = 0 := List.count_eq_zero.mpr (fun w => u1 _ w rfl)
      refine Or.inr ⟨x, y, n1, n2, gx, gy, ⟨fun q => ?_, fun q => ?_⟩, ?_, ?_, ex, ey⟩
      · rw [r1, r2] at q
        exact List.append_cancel_right q
      · rw [r1, r2, q]
      · rw [r1, List.count_append, List.count_append, c0]; rfl
      · rw [r2, List.count_append, List.count_append, c0]; rfl
end J96
end
section
-- p8: the class: States and kept units as one entry; requests; ids
def jUN (dC : Nat → ClassId) (dI : Nat → Nat → Nat) (ca : Nat → ClassId) (G : jT) (_r : Nat) (us rw : Nat → List Int) (H : Heap) : Prop := jUS dC dI ca G us H ∧ jNS dC dI G us rw H
section J97
variable {dC : Nat → ClassId} {dI : Nat → Nat → Nat} {ca : Nat → ClassId} {G G1 : jT} {H : Heap} {r : Nat} {us rw : Nat → List Int}
/-- a State's fields -/
theorem jUN.at {a : Nat} (h : jUN dC dI ca G r us rw H) (ha : G a = some (11, 0)) : ∃ (y k : Nat) (av : Value) (f : Nat → Int32), jf (dC, dI) 11 a 0 av H ∧ jf (dC, dI) 11 a 1 (.ref y) H ∧ G y = some (175, k) ∧ va_at (dC, dI) vwCl (y, .inl (ca 1, k, .inl f)) H ∧ jnR G rw a av (us y) ∧ us y = jcL f k 0 := by
  obtain ⟨y, k, av, p0, p1, g, hr⟩ := h.2 a ha
  obtain ⟨f, v, e⟩ := h.1 y k g
  exact ⟨y, k, av, f, p0, p1, g, v, hr, e⟩
end J97
-- requests: how many sentences are needed, the id, the document
def jRqG : Type := (Nat → Int32) × (Nat → Value) × (Nat → Value)
def jRqG.nd (q : jRqG) : Nat → Int32 := q.1
def jRqG.iv (q : jRqG) : Nat → Value := q.2.1
def jRqG.ab (q : jRqG) : Nat → Value := q.2.2
def jRqG.put (q : jRqG) (a : Nat) (nd : Int32) (iv ab : Value) : jRqG := (jUf q.nd a nd, jUf q.iv a iv, jUf q.ab a ab)
def jQD (dC : Nat → ClassId) (dI : Nat → Nat → Nat) (_ca : Nat → ClassId) (G : jT) (x : Option Nat) (q : jRqG) (H : Heap) : Prop := ∀ a n, G a = some (10, n) → x ≠ some a → jf (dC, dI) 10 a 2 (.int (q.nd a)) H ∧ jf (dC, dI) 10 a 0 (q.iv a) H ∧ jf (dC, dI) 10 a 1 (q.ab a) H
section J98
variable {dC : Nat → ClassId} {dI : Nat → Nat → Nat} {ca : Nat → ClassId} {G G1 : jT} {H H1 : Heap} {x : Option Nat} {q : jRqG} {a : Nat} {nd : Int32} {iv ab : Value}
theorem jQD.at {n : Nat} (h : jQD dC dI ca G x q H) (ha : G a = some (10, n)) (hx : x ≠ some a) : jP (dC, dI) G H [(a, 10, 2, .int (q.nd a)), (a, 10, 0, (q.iv a)), (a, 10, 1, (q.ab a))] ∧ jMc (dC, dI) G H [] := by
  obtain ⟨p2, p0, p1⟩ := h a n ha hx
  exact ⟨jP.cons ha p2 (jP.cons ha p0 (jP.cons ha p1 jP.nil)), jMc.nil⟩
end J98
-- ids: Bytes of kind 17, their rows of kind 199
def jbL (f : Nat → Int32) : Nat → Nat → List Int
  | 0, _ => []
  | k + 1, b => ((f b).toInt % 256) :: jbL f k (b + 1)
def jI1 (dC : Nat → ClassId) (dI : Nat → Nat → Nat) (ca : Nat → ClassId) (G : jT) (a y : Nat) (l : List Int) (H : Heap) : Prop := ∃ (m : Nat) (c : Int32) (f : Nat → Int32), jf (dC, dI) 17 a 0 (.ref y) H ∧ jf (dC, dI) 17 a 1 (.int c) H ∧ G y = some (199, m) ∧ 0 ≤ c.toInt ∧ c.toInt ≤ m ∧ va_at (dC, dI) vwCl (y, .inl (ca 0, m, .inl f)) H ∧ l = jbL f c.toInt.toNat 0
/-- all ids: their rows are apart -/
def jIB (dC : Nat → ClassId) (dI : Nat → Nat → Nat) (ca : Nat → ClassId) (G : jT) (_r : Nat) (ib : Nat → List Int) (H : Heap) : Prop := ∃ Y : Nat → Nat, (∀ a, G a = some (17, 0) → jI1 dC dI ca G a (Y a) (ib a) H) ∧ ∀ a b, G a = some (17, 0) → G b = some (17, 0) → Y a = Y b → a = b
section J99
variable {dC : Nat → ClassId} {dI : Nat → Nat → Nat} {ca : Nat → ClassId} {G G1 : jT} {H H1 : Heap} {r xa xy xn : Nat} {ib : Nat → List Int}
/-- looked at -/
theorem jIB.at {a : Nat} (h : jIB dC dI ca G r ib H) (ha : G a = some (17, 0)) : ∃ (y m : Nat) (c : Int32) (f : Nat → Int32), jf (dC, dI) 17 a 0 (.ref y) H ∧ jf (dC, dI) 17 a 1 (.int c) H ∧ G y = some (199, m) ∧ 0 ≤ c.toInt ∧ c.toInt ≤ m ∧ va_at (dC, dI) vwCl (y, .inl (ca 0, m, .inl f)) H ∧ ib a = jbL f c.toInt.toNat 0 := by
  obtain ⟨Y, h1, h2⟩ := h
  obtain ⟨m, c, f, q⟩ := h1 a ha
  exact ⟨Y a, m, c, f, q⟩
end J99
-- the State that stands ahead of all
end
section
-- p8: two States are compared: unit by unit, State by State
theorem jnU.ln {f g : Nat → Int32} {k m : Nat} (h : (k : Int) ≠ m) : jcL f k 0 ≠ jcL g m 0 := fun e => by
  have := congrArg List.length e
  rw [jcL.len, jcL.len] at this
  omega
theorem jnU.eq {f g : Nat → Int32} {k m : Nat} {v : Int} (h : ∀ i : Nat, (i : Int) < v → (f i).toInt = (g i).toInt) (hv : (k : Int) ≤ v) (hm : (k : Int) = m) : jcL f k 0 = jcL g m 0 := by
  have hm : k = m := by omega
  subst hm
  exact jcL_eq k 0 (fun i hi => h i (by omega))
def jnI (rw : Nat → List Int) (a b : Nat) (o p : Option Nat) (i : Int) : Prop := i ≤ 41 ∧ (o = none ↔ p = none) ∧ (rw a = rw b ↔ jnO rw o = jnO rw p) ∧ (∀ x, o = some x → ((rw x).count (-1) : Int) + i ≤ 40 ∧ jnE (rw x)) ∧ (∀ x, p = some x → jnE (rw x))
section J9A
variable {G : jT} {rw : Nat → List Int} {a b x y x1 y1 : Nat} {o p : Option Nat} {i i1 : Int} {av bv : Value} {l m : List Int}
theorem jnI.nn (h : jnI rw a b (some x) (some y) i) (h1 : jnQ G rw x av l) (h2 : jnQ G rw y bv m) (e : l = m) (ha : av = .null) (_hb : bv = .null) (hi : i1 = i + 1) : jnI rw a b none none i1 := by
  obtain ⟨c0, -, c1, c2, -⟩ := h
  have c3 := (c2 x rfl).1
  rcases jnQ.eq h1 h2 e with ⟨-, -, q⟩ | ⟨z, -, q, -⟩
  · exact ⟨by omega, Iff.rfl, ⟨fun _ => rfl, fun _ => c1.mpr q⟩, fun x hx => (by cases hx), fun x hx => (by cases hx)⟩
  · rw [ha] at q; cases q
end J9A
end
section
-- p8: the class: units of a sentence, compared; States behind sentences
theorem jcL.at {f : Nat → Int32} : ∀ (k : Nat) (b : Int) (i : Nat), i < k → (jcL f k b)[i]? = some (jSo f (b + i))
  | 0, _, _, h => by omega
  | k + 1, b, 0, _ => by
    show some (jSo f b) = some (jSo f (b + (0 : Nat)))
    rw [show b + ((0 : Nat) : Int) = b by omega]
  | k + 1, b, i + 1, h => by
    show (jcL f k (b + 1))[i]? = some (jSo f (b + (i + 1 : Nat)))
    rw [jcL.at k (b + 1) i (by omega)]
    congr 2
    omega
theorem jnS.ln {f g : Nat → Int32} {n : Int} {k z : Nat} (h0 : 0 ≤ jcE g n k - jcB g n k) (hl : jcE g n k - jcB g n k ≠ z) : jcL f z 0 ≠ jcU g n k := fun e => by
  have := congrArg List.length e
  unfold jcU at this
  rw [jcL.len, jcL.len] at this
  omega
/-- the State behind k sentences -/
def jzB (bh : Nat → Option Nat) (k : Int) (s : Nat) : Nat := if k < 1 ∨ 40 < k then s else (bh (k - 1).toNat).getD s
theorem jzB.n {bh : Nat → Option Nat} {k : Int} {s : Nat} (h1 : 1 ≤ k) (h2 : k ≤ 40) (h : none = bh (k - 1).toNat) : jzB bh k s = s := by
  unfold jzB; rw [if_neg (by omega), ← h]; rfl
end
section
-- p8: the class parts a text: first without what the last sentence takes of the rest
/-- costs -/
def jcPc (f : Nat → Int32) (n : Int) (l : Nat → Int32) (c : Int) : Prop := ∀ k : Nat, (k : Int) < c → jSo l k = jcC f n k
end
section
-- p8: the class's documents, hands, lists, States as the machine
/-- an open document of which k sentences are checked -/
def jzD (G : jT) (t : jDtl) (q : jKg) (rw : Nat → List Int) (a : Nat) (k : Int) : Prop := (q.sn a).toInt = jPar (t.tx a) (t.ln a).toInt ∧ jcP (t.tx a) (t.ln a).toInt (q.sb a) (q.se a) (q.sn a).toInt ∧ jcPc (t.tx a) (t.ln a).toInt (q.sc a) (q.sn a).toInt ∧ (q.ck a).toInt = k ∧ 0 ≤ k ∧ k ≤ (q.sn a).toInt ∧ (q.sn a).toInt ≤ 40 ∧ (∀ i : Nat, (i : Int) < k → ∃ x, q.bh a i = some x ∧ G x = some (11, 0) ∧ rw x = jcR (t.tx a) (t.ln a).toInt (i + 1)) ∧ q.fv a = .null
/-- what a hand holds -/
def jzK (G : jT) (t : jDtl) (q : jKg) (us : Nat → List Int) (w : jWl9) (ho : Nat → Option Nat) (Z : jwSt) (i : Nat) : Prop := (ho i = none ∧ Z.2.1 i = (-1, 0)) ∨ ∃ d a y : Nat, (d : Int) < w.1 ∧ w.2.1 d = some a ∧ ho i = some a ∧ Z.2.1 i = ((d : Int), (q.lf a).toInt) ∧ q.cv a = .ref y ∧ (∃ m, G y = some (175, m)) ∧ us y = jcU (t.tx a) (t.ln a).toInt (Z.1 d).toNat
/-- a request that waits -/
def jzR (w : jWl9) (qq : jRqG) (ib : Nat → List Int) (x : Nat) (p : jwQ) : Prop := ∃ d a i : Nat, (d : Int) < w.1 ∧ w.2.1 d = some a ∧ qq.ab x = .ref a ∧ p.1 = d ∧ p.2.1 = (qq.nd x).toInt ∧ qq.iv x = .ref i ∧ ib i = jpI p.2.2 ∧ jpO p.2.2
def jzW (w : jWl9) (qq : jRqG) (ib : Nat → List Int) (Q : List jwQ) : Prop := w.2.2.1.length = Q.length ∧ ∀ (j x : Nat) (p : jwQ), w.2.2.1[j]? = some x → Q[j]? = some p → jzR w qq ib x p
def jcZ (G : jT) (s0 : Nat) (t : jDtl) (q : jKg) (w : jWl9) (ho : Nat → Option Nat) (us rw : Nat → List Int) (qq : jRqG) (ib : Nat → List Int) (S : Int × (Int → jdD)) (Z : jwSt) : Prop := jdIv t w ∧ jdCs t w = S ∧ (∀ d a : Nat, (d : Int) < w.1 → w.2.1 d = some a → jzD G t q rw a (Z.1 d)) ∧ (∀ i : Nat, i < 2 → jzK G t q us w ho Z i) ∧ (∀ d a : Nat, (d : Int) < w.1 → w.2.1 d = some a → ho 0 ≠ some a → ho 1 ≠ some a → q.cv a = .null) ∧ (ho 0 = ho 1 → ho 0 = none) ∧ jzW w qq ib Z.2.2.1 ∧ Z.2.2.2 = w.2.2.2.map rw ∧ w.1 ≤ 3 ∧ G s0 = some (11, 0) ∧ rw s0 = [] ∧ (∀ x ∈ w.2.2.2, G x = some (11, 0) ∧ rw x ≠ [] ∧ jnE (rw x)) ∧ (∀ d a : Nat, (d : Int) < w.1 → w.2.1 d = some a → ∀ j : Int, 0 ≤ j → j < (t.ln a).toInt → 0 ≤ jSo (t.tx a) j)
section J9C
variable {G : jT} {s0 : Nat} {t : jDtl} {q : jKg} {w : jWl9} {ho : Nat → Option Nat} {us rw : Nat → List Int} {qq : jRqG} {ib : Nat → List Int} {S : Int × (Int → jdD)} {Z : jwSt}
theorem jcZ.n (h : jcZ G s0 t q w ho us rw qq ib S Z) : S.1 = w.1 := by rw [← h.2.1]; rfl
theorem jcZ.l0 (h : jcZ G s0 t q w ho us rw qq ib S Z) (a : Nat) : 0 ≤ (t.ln a).toInt ∧ (t.ln a).toInt ≤ 1500 := h.1.1 a
theorem jcZ.doc {d a : Nat} (h : jcZ G s0 t q w ho us rw qq ib S Z) (hd : (d : Int) < w.1) (ha : w.2.1 d = some a) : S.2 d = jdC1 t a := by
  rw [← h.2.1]
  exact jdLi.at (d := (d : Int)) (by omega) hd (by rw [show ((d : Int)).toNat = d by omega]; exact ha)
theorem jcZ.ln {d a : Nat} (h : jcZ G s0 t q w ho us rw qq ib S Z) (hd : (d : Int) < w.1) (ha : w.2.1 d = some a) : jwL S d = (t.ln a).toInt := by
  unfold jwL
  rw [h.doc hd ha]
  rfl
theorem jcZ.tx {d a : Nat} (h : jcZ G s0 t q w ho us rw qq ib S Z) (hd : (d : Int) < w.1) (ha : w.2.1 d = some a) : jEqU (jwF S d) (t.tx a) (t.ln a).toInt := fun i h0 h1 => by
  show (Int32.ofInt ((S.2 d).2.2.1 (i.toNat : Nat))).toInt = jSo (t.tx a) i
  rw [h.doc hd ha]
  show (Int32.ofInt (jdKp (t.ln a).toInt (jSo (t.tx a)) (i.toNat : Nat))).toInt = jSo (t.tx a) i
  rw [show ((i.toNat : Nat) : Int) = i by omega, jdKp.at h0 h1]
  unfold jSo
  rw [Int32.ofInt_toInt]
theorem jcZ.sn {d a : Nat} (h : jcZ G s0 t q w ho us rw qq ib S Z) (hd : (d : Int) < w.1) (ha : w.2.1 d = some a) : jwS S d = (q.sn a).toInt := by
  unfold jwS
  rw [h.ln hd ha, jPar_cg (h.l0 a).1 (h.tx hd ha)]
  exact (h.2.2.1 d a hd ha).1.symm
theorem jcZ.inj {i j : Nat} (h : jcZ G s0 t q w ho us rw qq ib S Z) (hi : (i : Int) < w.1) (hj : (j : Int) < w.1) (e : w.2.1 i = w.2.1 j) : i = j := h.1.2.2.1 i j hi hj e
end J9C
section J9D
variable {G : jT} {s0 : Nat} {t : jDtl} {q : jKg} {w : jWl9} {ho : Nat → Option Nat} {us rw : Nat → List Int} {qq : jRqG} {ib : Nat → List Int} {S : Int × (Int → jdD)} {Z : jwSt} {o : Option Nat} {v v1 : Int} {a : Nat}
end J9D
def jzRh (ho h : Nat → Option Nat) (a : Nat) (v : Int) : Prop := ∀ i : Nat, i < 2 → h i = if (i : Int) < v then (if ho i = some a then none else ho i) else ho i
section J9E
variable {ho h h1 : Nat → Option Nat} {a : Nat} {v v1 : Int} {o : Option Nat}
theorem jzRh.n (hR : jzRh ho h a v) (h0 : 0 ≤ v) (h2 : v < 2) (e : v1 = v + 1) (hq : o = h v.toNat) (ho1 : o ≠ some a) : jzRh ho h a v1 := fun i hi => by
  by_cases w : i = v.toNat
  · subst w
    have := hR v.toNat hi
    rw [if_neg (by omega)] at this
    rw [if_pos (by omega), if_neg (fun c => ho1 (hq.trans (this.trans c))), this]
  · rw [hR i hi]
    by_cases c : (i : Int) < v
    · rw [if_pos c, if_pos (show (i : Int) < v1 by omega)]
    · rw [if_neg c, if_neg (show ¬ (i : Int) < v1 by omega)]
end J9E
end
section
-- p8: hands; the cache
section J9F
variable {G : jT} {s0 : Nat} {t : jDtl} {q : jKg} {w : jWl9} {ho : Nat → Option Nat} {us rw : Nat → List Int} {qq : jRqG} {ib : Nat → List Int} {S : Int × (Int → jdD)} {Z : jwSt}
theorem jcZ.hs {i a : Nat} (h : jcZ G s0 t q w ho us rw qq ib S Z) (hi : i < 2) (e : ho i = some a) : ∃ d y : Nat, (d : Int) < w.1 ∧ w.2.1 d = some a ∧ Z.2.1 i = ((d : Int), (q.lf a).toInt) ∧ q.cv a = .ref y ∧ (∃ m, G y = some (175, m)) ∧ us y = jcU (t.tx a) (t.ln a).toInt (Z.1 d).toNat := by
  rcases h.2.2.2.1 i hi with ⟨g1, -⟩ | ⟨d1, a1, y, g1, g2, g4, g5, g6, g7, g8⟩
  · rw [e] at g1; cases g1
  · rw [e] at g4; cases g4
    exact ⟨d1, y, g1, g2, g5, g6, g7, g8⟩
theorem jcZ.nn (h : jcZ G s0 t q w ho us rw qq ib S Z) (e : Value.null = jdRf w (jwNx S Z)) : jwNx S Z < 0 := by
  rcases jwNx.rg (S := S) (Z := Z) with g | ⟨g1, g2, -⟩
  · omega
  · rw [h.n] at g2
    exact jdRf.n h.1.2.1 g2 e
end J9F
section J9G
variable {rw : Nat → List Int} {l : List Nat} {b x : Nat} {v : Int}
theorem jzKp.ni (h : ∀ (i x : Nat), (i : Int) < v → l[i]? = some x → rw x ≠ rw b) (hv : (l.length : Int) ≤ v) : rw b ∉ l.map rw := fun q => by
  obtain ⟨x, hx, e⟩ := List.mem_map.mp q
  obtain ⟨i, hi, ei⟩ := List.mem_iff_getElem.mp hx
  exact h i x (by omega) (by rw [List.getElem?_eq_getElem hi, ei]) e
theorem jzKp.n (h : ∀ (i x : Nat), (i : Int) < v → l[i]? = some x → rw x ≠ rw b) (hv : (l.length : Int) ≤ v) (hc : (l.length : Int) < 24) : (l ++ [b]).map rw = jwKp (l.map rw) (rw b) := by
  unfold jwKp
  rw [if_neg (jzKp.ni h hv), List.length_map, if_neg (by omega), List.map_append]
  rfl
end J9G
end
section
-- p8: a check begins: the State ahead, the cache
def jzH (G : jT) (rw : Nat → List Int) (bh : Nat → Option Nat) (s0 : Nat) (f : Nat → Int32) (n k : Int) : Prop := G s0 = some (11, 0) ∧ rw s0 = [] ∧ ∀ i : Nat, (i : Int) < k → ∃ x, bh i = some x ∧ G x = some (11, 0) ∧ rw x = jcR f n (i + 1)
section J9H
variable {G : jT} {rw us : Nat → List Int} {bh : Nat → Option Nat} {s0 x b y : Nat} {f : Nat → Int32} {n k v v1 : Int} {l : List Nat} {R : List Int} {wf av : Value} {u : List Int}
theorem jcR.pos (h0 : 0 ≤ k) : jcR f n (k + 1).toNat = jcR f n k.toNat ++ (jcU f n k.toNat ++ [-1]) := by
  rw [show (k + 1).toNat = k.toNat + 1 by omega]; rfl
/-- found so far: none, or one with the row R -/
def jzF (l : List Nat) (rw : Nat → List Int) (R : List Int) (wf : Value) (v : Int) : Prop := (wf = .null ∧ ∀ (i x : Nat), (i : Int) < v → l[i]? = some x → rw x ≠ R) ∨ ∃ x, wf = .ref x ∧ x ∈ l ∧ rw x = R
theorem jzF.nn (h : jnQ G rw x av u) (ha : av = .null) (hx : rw x ≠ []) : False := by
  rcases h.2.2 with ⟨-, -, e0⟩ | ⟨c, e1, -⟩
  · exact hx e0
  · rw [ha] at e1; cases e1
end J9H
/-- what begin leaves: y the units that are checked -/
def jzBe (G : jT) (q g : jKg) (a : Nat) (us qu rw : Nat → List Int) (l : List Nat) (f : Nat → Int32) (n : Int) (y : Nat) : Prop := ∃ (c : Int32) (fv : Value), g = q.put a (q.sn a) (q.ck a) c (.ref y) fv (q.sb a) (q.se a) (q.sc a) (q.bh a) ∧ qu y = jcU f n (q.ck a).toInt.toNat ∧ (∀ z m, G z = some (175, m) → qu z = us z) ∧ ((fv = .null ∧ jcR f n ((q.ck a).toInt + 1).toNat ∉ l.map rw ∧ c.toInt = jcC f n (q.ck a).toInt.toNat) ∨ ∃ x, fv = .ref x ∧ x ∈ l ∧ rw x = jcR f n ((q.ck a).toInt + 1).toNat ∧ c.toInt = 1)
end
section
-- p8: a hand takes a document, counts down, is done: on the class's side
/-- two tellings agree at a document -/
def jzAg (q q1 : jKg) (b : Nat) : Prop := q1.sn b = q.sn b ∧ q1.ck b = q.ck b ∧ q1.lf b = q.lf b ∧ q1.cv b = q.cv b ∧ q1.fv b = q.fv b ∧ q1.sb b = q.sb b ∧ q1.se b = q.se b ∧ q1.sc b = q.sc b ∧ q1.bh b = q.bh b
theorem jzAg.put {q : jKg} {a b : Nat} {sn ck lf : Int32} {cv fv : Value} {sb se sc : Nat → Int32} {bh : Nat → Option Nat} (h : b ≠ a) : jzAg q (q.put a sn ck lf cv fv sb se sc bh) b := ⟨jUf_n _ _ h, jUf_n _ _ h, jUf_n _ _ h, jUf_n _ _ h, jUf_n _ _ h, jUf_n _ _ h, jUf_n _ _ h, jUf_n _ _ h, jUf_n _ _ h⟩
/-- what is told of a document by a put -/
theorem jKg.pt {q : jKg} {a : Nat} {sn ck lf : Int32} {cv fv : Value} {sb se sc : Nat → Int32} {bh : Nat → Option Nat} : (q.put a sn ck lf cv fv sb se sc bh).sn a = sn ∧ (q.put a sn ck lf cv fv sb se sc bh).ck a = ck ∧ (q.put a sn ck lf cv fv sb se sc bh).lf a = lf ∧ (q.put a sn ck lf cv fv sb se sc bh).cv a = cv ∧ (q.put a sn ck lf cv fv sb se sc bh).fv a = fv ∧ (q.put a sn ck lf cv fv sb se sc bh).sb a = sb ∧ (q.put a sn ck lf cv fv sb se sc bh).se a = se ∧ (q.put a sn ck lf cv fv sb se sc bh).sc a = sc ∧ (q.put a sn ck lf cv fv sb se sc bh).bh a = bh := ⟨jUf_s _ _ _, jUf_s _ _ _, jUf_s _ _ _, jUf_s _ _ _, jUf_s _ _ _, jUf_s _ _ _, jUf_s _ _ _, jUf_s _ _ _, jUf_s _ _ _⟩
section J9K
variable {G G1 : jT} {s0 a b d i : Nat} {t : jDtl} {q q1 q2 q3 : jKg} {w w1 : jWl9} {ho ho1 : Nat → Option Nat} {us us1 rw rw1 : Nat → List Int} {qq : jRqG} {ib : Nat → List Int} {S : Int × (Int → jdD)} {Z Z1 : jwSt} {k : Int}
/-- without what was found -/
def jKg.fn (q : jKg) (a : Nat) : jKg := q.put a (q.sn a) (q.ck a) (q.lf a) (q.cv a) .null (q.sb a) (q.se a) (q.sc a) (q.bh a)
/-- a hand i holds a document a of number d, whose check has begun -/
def jcY (G : jT) (s0 : Nat) (t : jDtl) (q : jKg) (w : jWl9) (ho : Nat → Option Nat) (us rw : Nat → List Int) (qq : jRqG) (ib : Nat → List Int) (S : Int × (Int → jdD)) (Z : jwSt) (a d i : Nat) : Prop := jcZ G s0 t (q.fn a) w ho us rw qq ib S Z ∧ ho i = some a ∧ (d : Int) < w.1 ∧ w.2.1 d = some a ∧ (q.fv a = .null ∨ ∃ x, q.fv a = .ref x ∧ G x = some (11, 0) ∧ rw x = jcR (t.tx a) (t.ln a).toInt (Z.1 d + 1).toNat ∧ (q.lf a).toInt = 1)
end J9K
end
section
-- p8: a hand counts down; a check is done: on the class's side
section J9L
variable {G G1 : jT} {s0 a b d i : Nat} {t : jDtl} {q q1 q2 q3 : jKg} {w w1 : jWl9} {ho ho1 : Nat → Option Nat} {us us1 rw rw1 : Nat → List Int} {qq : jRqG} {ib : Nat → List Int} {S : Int × (Int → jdD)} {Z Z1 : jwSt} {k : Int} {c : Int32} {x : Nat} {l4 : List Nat}
theorem jcY.at (h : jcY G s0 t q w ho us rw qq ib S Z a d i) (hi : i < 2) : ∃ y m, Z.2.1 i = ((d : Int), (q.lf a).toInt) ∧ q.cv a = .ref y ∧ G y = some (175, m) ∧ us y = jcU (t.tx a) (t.ln a).toInt (Z.1 d).toNat ∧ (q.ck a).toInt = Z.1 d ∧ jwS S d = (q.sn a).toInt ∧ 0 ≤ Z.1 d ∧ Z.1 d ≤ (q.sn a).toInt ∧ (q.sn a).toInt ≤ 40 ∧ jcP (t.tx a) (t.ln a).toInt (q.sb a) (q.se a) (q.sn a).toInt ∧ jzH G rw (q.bh a) s0 (t.tx a) (t.ln a).toInt (Z.1 d) := by
  obtain ⟨hz, h1, h2, h3, -⟩ := h
  obtain ⟨u1, u2, u3, u4, u5, u6, u7, u8, u9⟩ := (jKg.pt (q := q) (a := a) (sn := q.sn a) (ck := q.ck a) (lf := q.lf a) (cv := q.cv a) (fv := .null) (sb := q.sb a) (se := q.se a) (sc := q.sc a) (bh := q.bh a))
  obtain ⟨d1, y, g1, g2, g3, g4, ⟨m, g5⟩, g6⟩ := hz.hs hi h1
  have ed : d1 = d := hz.inj g1 h2 (g2.trans h3.symm)
  subst ed
  have hD := hz.2.2.1 d1 a h2 h3
  have hs := hz.sn h2 h3
  obtain ⟨k1, k2, k3, k4, k5, k6, k7, k8, k9⟩ := hD
  rw [show (q.fn a).sn a = q.sn a from u1] at k2 k6 k7 hs
  rw [show (q.fn a).sb a = q.sb a from u6, show (q.fn a).se a = q.se a from u7] at k2
  rw [show (q.fn a).bh a = q.bh a from u9] at k8
  exact ⟨y, m, g3.trans (by rw [show (q.fn a).lf a = q.lf a from u3]), (show (q.fn a).cv a = q.cv a from u4) ▸ g4, g5, g6, (show (q.fn a).ck a = q.ck a from u2) ▸ k4, hs, k5, k6, k7, k2, hz.2.2.2.2.2.2.2.2.2.1, hz.2.2.2.2.2.2.2.2.2.2.1, k8⟩
/-- units are no ends of rows; a row has as many ends as sentences -/
theorem jcU.nn {f : Nat → Int32} {n : Int} {k : Nat} (h : ∀ j : Int, 0 ≤ j → j < n → 0 ≤ jSo f j) (hn : 0 ≤ n) (hb : jcB f n k < n) : ∀ c ∈ jcU f n k, c ≠ (-1 : Int) := fun c hc => by
  unfold jcU at hc
  obtain ⟨i, hi, e⟩ := List.mem_iff_getElem.mp hc
  rw [jcL.len] at hi
  have e1 := jcL.at (f := f) _ (jcB f n k) i hi
  have e2 : (jcL f (jcE f n k - jcB f n k).toNat (jcB f n k))[i]? = some c := by rw [List.getElem?_eq_getElem (by rw [jcL.len]; exact hi), e]
  rw [e2] at e1
  have e3 := Option.some.inj e1
  have h1 := jcE.rg hb
  have h2 := jcB.nn (f := f) hn k
  have h3 := h (jcB f n k + i) (by omega) (by omega)
  omega
end J9L
end
section
-- p8: a hand advances: on the class's side
section J9M
variable {G G1 : jT} {s0 a b d i : Nat} {t : jDtl} {q q1 q2 q3 : jKg} {w w1 : jWl9} {ho ho1 : Nat → Option Nat} {us us1 rw rw1 : Nat → List Int} {qq : jRqG} {ib : Nat → List Int} {S : Int × (Int → jdD)} {Z Z1 : jwSt} {k v : Int} {c : Int32} {x : Nat} {l4 : List Nat}
theorem jcY.lt (h : jcY G s0 t q w ho us rw qq ib S Z a d i) (hi : i < 2) (hok : jwOk S Z) : Z.1 d < jwS S d ∧ 0 ≤ (Z.2.1 i).1 ∧ 1 ≤ (q.lf a).toInt := by
  obtain ⟨y, m, z1, -⟩ := h.at hi
  have e : (Z.2.1 i).1 = d := by rw [z1]
  have e2 : (Z.2.1 i).2 = (q.lf a).toInt := by rw [z1]
  have := hok.pos (w := (i : Int)) (by omega) (by omega)
  rw [e, e2] at this
  exact ⟨this.2.1, by omega, this.2.2⟩
end J9M
theorem jzBe.cv {G : jT} {q g : jKg} {a : Nat} {us qu rw : Nat → List Int} {l : List Nat} {f : Nat → Int32} {n : Int} {y : Nat} (h : jzBe G q g a us qu rw l f n y) : g.cv a = .ref y := by
  obtain ⟨c, fv, e, -⟩ := h
  rw [e]
  exact jKg.pt.2.2.2.1
theorem jcY.le {G : jT} {s0 a d i y m : Nat} {f : Nat → Int32} {t : jDtl} {q : jKg} {w : jWl9} {ho : Nat → Option Nat} {us rw : Nat → List Int} {qq : jRqG} {ib : Nat → List Int} {S : Int × (Int → jdD)} {Z : jwSt} (h : jcY G s0 t q w ho us rw qq ib S Z a d i) (hi : i < 2) (hok : jwOk S Z) (hcv : q.cv a = .ref y) (hu : us y = jcL f m 0) : m ≤ 1500 := by
  obtain ⟨hlt, -⟩ := h.lt hi hok
  obtain ⟨y0, m0, z1, z2, z3, z4, z5, z6, z7, z8, z9, z10, z11⟩ := h.at hi
  rw [hcv] at z2
  cases z2
  obtain ⟨l1, l2⟩ := h.1.l0 a
  have hb := (z10 (Z.1 d).toNat (by omega)).2.2
  have h1 := jcE.rg hb
  have h2 := jcB.nn (f := t.tx a) l1 (Z.1 d).toNat
  have e : (us y).length = m := by rw [hu, jcL.len]
  rw [z4] at e
  unfold jcU at e
  rw [jcL.len] at e
  omega
end
section
-- p8: work, told by the machine
section J9N
variable {S : Int × (Int → jdD)} {Z Y : jwSt} {k v v1 j j1 : Int}
def jwWn (S : Int × (Int → jdD)) (Z : jwSt) (k v j : Int) (Y : jwSt) : Prop := ∃ Z8, jwOk S Z8 ∧ jwHs S Z8 = 1 ∧ Y = jwAk S Z8 j ∧ ((jwWk S (k - v).toNat Z8).1 + v, (jwWk S (k - v).toNat Z8).2) = jwWk S k.toNat Z
theorem jwWn.ok (h : jwWn S Z k v j Y) (h0 : 0 ≤ j) (h2 : j ≤ 2) : jwOk S Y := by
  obtain ⟨Z8, g1, -, g3, -⟩ := h
  rw [g3]
  rcases (by omega : j = 0 ∨ j = 1 ∨ j = 2) with e | e | e
  · subst e; exact g1
  · subst e; exact g1.ad (Or.inl rfl)
  · subst e; exact (g1.ad (Or.inl rfl)).ad (Or.inr rfl)
end J9N
end
section
-- p8: what is kept of a text that has changed
section J9R
variable {G : jT} {rw us : Nat → List Int} {x : Nat} {f g : Nat → Int32} {n m k v v1 pk ps : Int} {av : Value} {u : List Int}
/-- the first v sentences are the same -/
def jzSm (f : Nat → Int32) (n : Int) (g : Nat → Int32) (m v : Int) : Prop := ∀ j : Int, 0 ≤ j → j < v → jcU f n j.toNat = jcU g m j.toNat
theorem jzSm.al (h : jzSm f n g m pk) (hn : 0 ≤ n) (hm : 0 ≤ m) (hc : pk ≤ jPar f n) (h0 : 0 ≤ pk) (hs : pk ≤ jPar g m) : pk = if pk ≤ jwSy f n g m then pk else jwSy f n g m := jwSy.min hn hm hc h0 (by omega) hs h (fun q => by omega)
/-- what is asked of a document whose text has changed: f n the old text -/
def jzKq (G : jT) (q : jKg) (us rw : Nat → List Int) (a : Nat) (f : Nat → Int32) (n pk : Int) : Prop := pk ≤ jPar f n ∧ (∀ k : Nat, (k : Int) < jPar f n → ∀ c ∈ jcU f n k, c ≠ (-1 : Int)) ∧ (∀ i : Nat, (i : Int) < pk → ∃ x, q.bh a i = some x ∧ G x = some (11, 0) ∧ rw x = jcR f n (i + 1)) ∧ (q.cv a = .null ∨ ∃ y, q.cv a = .ref y ∧ us y = jcU f n pk.toNat ∧ pk < jPar f n)
theorem jzKq.at {q : jKg} {a : Nat} (h : jzKq G q us rw a f n pk) (h0 : 0 ≤ v) (h1 : v < pk) {o : Option Nat} (e : o = q.bh a v.toNat) : ∃ x, o = some x ∧ rw x = jcR f n (v + 1).toNat ∧ (∀ c ∈ jcU f n v.toNat, c ≠ (-1 : Int)) := by
  obtain ⟨y, e1, -, e2⟩ := h.2.2.1 v.toNat (by omega)
  refine ⟨y, e.trans e1, by rw [e2, show (v + 1).toNat = v.toNat + 1 by omega], h.2.1 v.toNat (by have := h.1; omega)⟩
end J9R
end
section
-- p8: the units of strings that are read have no half pairs
/-- units from a place on -/
def jsL (T : Nat → Int → Int) : Nat → Int → List Int
  | 0, _ => []
  | z + 1, b => T 7 b :: jsL T z (b + 1)
theorem jsL.at {T : Nat → Int → Int} : ∀ (z : Nat) (b j : Int), 0 ≤ j → j < z → T 7 (b + j) ∈ jsL T z b
  | 0, _, _, h0, h1 => by omega
  | z + 1, b, j, h0, h1 => by
    by_cases c : j = 0
    · rw [c, Int.add_zero]; exact List.mem_cons_self
    · have := jsL.at (T := T) z (b + 1) (j - 1) (by omega) (by omega)
      rw [show b + 1 + (j - 1) = b + j by omega] at this
      exact List.mem_cons_of_mem _ this
end
section
-- p8: bytes of ids, put behind each other
theorem jbL.at {f : Nat → Int32} : ∀ (k b j : Nat), j < k → (jbL f k b)[j]? = some ((f (b + j)).toInt % 256)
  | 0, _, _, h => by omega
  | k + 1, b, 0, _ => rfl
  | k + 1, b, j + 1, h => by
    show (jbL f k (b + 1))[j]? = _
    rw [jbL.at k (b + 1) j (by omega), show b + 1 + j = b + (j + 1) by omega]
section J9BV
variable {p : Program} {l : Launch} {e : Env} {R : Room} {s : State} {m : MethodId} {args : Array Value} {below : List Frame} {meth : Method} {c : Code} {H : Heap} {locs : List Loc} {cells slots : Nat} {Q : State → Prop}
variable {cc : ByteArray} {pc : Nat} {ls : Array Slot} {rest : List Value} {dC : Nat → ClassId} {dI : Nat → Nat → Nat} {ca : Nat → ClassId} {B : jF} {base : Nat} {G0 G : jT} {E : List (Nat × Nat)} {H0 : Heap} {zc zs : Nat} {L : List jPin} {M : List jCt} {I : List jIv} {a k n : Nat} {cA : ClassId} {tys : List (ClassId × FieldType)}
end J9BV
end
section
-- p8: a request is made: its id as it is written
def jzRi (ib iB : Nat → List Int) (N : Nat) (iV : Value) (P : Prop) (l : List Int) : Prop := (P ∧ ∃ i : Nat, iV = .ref i ∧ N ≤ i ∧ iB = jUf ib i l) ∨ (¬ P ∧ iV = .null ∧ iB = ib)
section J9RI
variable {ib iB : Nat → List Int} {N i : Nat} {T : Nat → Int → Int} {v x : Int}
end J9RI
section J9HI
variable {q : jRqG} {ib : Nat → List Int} {a b i j : Nat} {f g : Nat → Int32} {n m v : Int}
end J9HI
end
section
-- p8: a request that was just made: it waits, or is answered
/-- its id; it does not wait -/
def jzAq (q : jRqG) (ib : Nat → List Int) (w : jWl9) (a : Nat) (k : jwI) : Prop := (∃ i, q.iv a = .ref i ∧ ib i = jpI k) ∧ jpO k ∧ ∀ z ∈ w.2.2.1, z ≠ a
section J9AQ
variable {G : jT} {s0 r1 b : Nat} {t : jDtl} {q : jKg} {w w1 : jWl9} {ho : Nat → Option Nat} {us rw : Nat → List Int} {qq q1 : jRqG} {ib : Nat → List Int} {S : Int × (Int → jdD)} {Z : jwSt} {T : Nat → Int → Int} {v d nd p r : Int}
end J9AQ
end
section
-- p8: a request is cancelled, on the class's side
section J9CA
variable {T : Nat → Int → Int} {v u m : Int} {fk fi fz fn fa fs fu : Nat → Int32}
theorem jzRi.le {ib iB : Nat → List Int} {N N1 : Nat} {iV : Value} {P : Prop} {l : List Int} (h : jzRi ib iB N1 iV P l) (hN : N ≤ N1) : jzRi ib iB N iV P l := by
  rcases h with ⟨p, i, e, h1, h2⟩ | h
  · exact Or.inl ⟨p, i, e, Nat.le_trans hN h1, h2⟩
  · exact Or.inr h
theorem jzRi.ref {ib iB : Nat → List Int} {N k : Nat} {iV : Value} {P : Prop} {l : List Int} (h : jzRi ib iB N iV P l) (e : iV = .ref k) : P ∧ iB k = l := by
  rcases h with ⟨p, i, e1, h1, h2⟩ | ⟨-, e1, -⟩
  · rw [e] at e1
    cases e1
    exact ⟨p, by rw [h2, jUf_s]⟩
  · rw [e] at e1
    cases e1
end J9CA
section J9CB
variable {G G1 : jT} {s0 x N n z : Nat} {t : jDtl} {q : jKg} {w w1 : jWl9} {ho : Nat → Option Nat} {us rw : Nat → List Int} {qq gQ : jRqG} {ib iB : Nat → List Int} {S : Int × (Int → jdD)} {Z Z8 : jwSt} {iV : Value} {T : Nat → Int → Int} {v u m : Int} {fk fi fz fn fa fs fu : Nat → Int32}
end J9CB
end
section
-- p8: a message is understood: the request that is made of it
/-- the request that is understood: has it an id -/
def jzUx (G : jT) (gQ : jRqG) (iB : Nat → List Int) (T : Nat → Int → Int) (v : Int) (o : Option Nat) : Prop := ∀ x, o = some x → (∀ a t, G a = some t → a ≠ x) ∧ ((0 ≤ jdId T v ∧ (∃ i, gQ.iv x = .ref i ∧ iB i = jpI (jwId T v (jdId T v))) ∧ jpO (jwId T v (jdId T v))) ∨ (jdId T v < 0 ∧ gQ.iv x = .null))
section J9US
variable {G G1 : jT} {s0 x N y : Nat} {t : jDtl} {q : jKg} {w : jWl9} {ho : Nat → Option Nat} {us rw : Nat → List Int} {qq gQ : jRqG} {ib iB : Nat → List Int} {S : Int × (Int → jdD)} {Z : jwSt} {iV : Value} {T : Nat → Int → Int} {v u m : Int} {fk fi fz fn fa fs fu : Nat → Int32} {P : Prop} {l : List Int}
/-- a request with an id, and what is asked with it -/
theorem jzUx.aq (h : jzUx G gQ iB T v (some x)) (hi : gQ.iv x = .ref y) (hw : ∀ z ∈ w.2.2.1, G z = some (10, 0)) : 0 ≤ jdId T v ∧ jzAq gQ iB w x (jwId T v (jdId T v)) := by
  obtain ⟨hx, c⟩ := h x rfl
  rcases c with ⟨c0, c1, c2⟩ | ⟨-, c1⟩
  · exact ⟨c0, c1, c2, fun z hz => hx z _ (hw z hz)⟩
  · rw [hi] at c1; cases c1
end J9US
end
section
-- p8: a batch leaves the open documents, their States and rows as they are
section J9BT
variable {G G1 : jT} {s0 x : Nat} {t t1 t2 : jDtl} {q q1 q2 : jKg} {w : jWl9} {ho : Nat → Option Nat} {us us1 us2 rw rw1 : Nat → List Int} {qq : jRqG} {ib : Nat → List Int} {S : Int × (Int → jdD)} {Z : jwSt}
theorem jzAg.rfl {b : Nat} : jzAg q q b := ⟨Eq.refl _, Eq.refl _, Eq.refl _, Eq.refl _, Eq.refl _, Eq.refl _, Eq.refl _, Eq.refl _, Eq.refl _⟩
end J9BT
end
