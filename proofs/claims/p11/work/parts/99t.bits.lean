-- bits: what masks, shifts and or leave
theorem wb_tb (n : Nat) : (lN n).toBitVec = BitVec.ofNat 64 n := rfl
theorem wb_inj {a b : Int64} (h : a.toBitVec = b.toBitVec) : a = b := Int64.toBitVec_inj.mp h
theorem wb_tn {n : Nat} (h : n < 2 ^ 64) : (lN n).toBitVec.toNat = n := by rw [wb_tb, BitVec.toNat_ofNat, Nat.mod_eq_of_lt h]
theorem wb_of (x : Int64) : ∃ n, n < 2 ^ 64 ∧ x = lN n := ⟨x.toBitVec.toNat, x.toBitVec.isLt, wb_inj (by rw [wb_tb]; simp)⟩
theorem wb_cu : ∀ k, k < 64 → ((nI k).toInt64.toUInt64 &&& Int64.toUInt64 63) = UInt64.ofNat k := by decide +kernel
theorem wb_lt2 {a b : Nat} (h : a < b) : 2 ^ a < 2 ^ b := Nat.pow_lt_pow_right (by decide) h
theorem wb_shr {n k : Nat} (hn : n < 2 ^ 64) (hk : k < 64) : ((lN n).toUInt64 >>> ((nI k).toInt64.toUInt64 &&& Int64.toUInt64 63)).toInt64 = lN (n / 2 ^ k) := by
  rw [wb_cu k hk]
  apply wb_inj
  apply BitVec.eq_of_toNat_eq
  show ((lN n).toUInt64 >>> UInt64.ofNat k).toNat = (BitVec.ofNat 64 _).toNat
  have h1 : (UInt64.ofNat k).toNat = k := by
    show (BitVec.ofNat 64 k).toNat = k
    rw [BitVec.toNat_ofNat, Nat.mod_eq_of_lt (by omega)]
  have h2 : (lN n).toUInt64.toNat = n := wb_tn hn
  rw [UInt64.toNat_shiftRight, h1, h2, Nat.mod_eq_of_lt hk, Nat.shiftRight_eq_div_pow, BitVec.toNat_ofNat, Nat.mod_eq_of_lt (Nat.lt_of_le_of_lt (Nat.div_le_self _ _) hn)]
theorem wb_and {a b : Nat} (ha : a < 2 ^ 64) (hb : b < 2 ^ 64) : lN a &&& lN b = lN (a &&& b) := by
  apply wb_inj
  rw [Int64.toBitVec_and, wb_tb, wb_tb, wb_tb]
  apply BitVec.eq_of_toNat_eq
  rw [BitVec.toNat_and, BitVec.toNat_ofNat, BitVec.toNat_ofNat, BitVec.toNat_ofNat, Nat.mod_eq_of_lt ha, Nat.mod_eq_of_lt hb, Nat.mod_eq_of_lt (Nat.and_lt_two_pow _ hb)]
theorem wb_mask {n k : Nat} (hn : n < 2 ^ 64) (hk : k < 64) : lN n &&& lN (2 ^ k - 1) = lN (n % 2 ^ k) := by
  rw [wb_and hn (by have := wb_lt2 hk; omega), Nat.and_two_pow_sub_one_eq_mod]
theorem jl_toInt {n : Nat} (hn : n < 2 ^ 64) : (lN n).toInt = if 2 * n < 2 ^ 64 then (n : Int) else (n : Int) - (2 ^ 64 : Nat) := by
  show (lN n).toBitVec.toInt = _
  rw [BitVec.toInt_eq_toNat_cond, wb_tn hn]
theorem jl_big {n : Nat} (hn : n < 2 ^ 63) : (lN n).toInt = (n : Int) := by
  rw [jl_toInt (by omega), if_pos (by omega)]
theorem jb_lush6 {x z : Int64} (e : z = (x.toUInt64 >>> ((6 : Int32).toInt64.toUInt64 &&& Int64.toUInt64 63)).toInt64) (h : 0 ≤ x.toInt) : z.toInt = x.toInt / 64 := by
  obtain ⟨n, hn, rfl⟩ := wb_of x
  have hx := jl_toInt hn
  have h6 : n < 2 ^ 63 := by
    by_cases q : 2 * n < 2 ^ 64
    · omega
    · rw [if_neg q] at hx; omega
  have e2 : z = lN (n / 2 ^ 6) := by rw [e]; exact wb_shr (k := 6) hn (by decide)
  rw [e2, jl_big (by omega), jl_big h6]
  omega
theorem jb_l63 : ∀ j, j < 64 → 0 ≤ ((lN j).toInt32).toInt ∧ ((lN j).toInt32).toInt ≤ 63 := by decide +kernel
theorem jb_land63 {x y : Int64} {z : Int32} (e : y = x &&& 63) (ez : z = y.toInt32) : 0 ≤ z.toInt ∧ z.toInt ≤ 63 := by
  obtain ⟨n, hn, rfl⟩ := wb_of x
  have e2 : y = lN (n % 2 ^ 6) := by rw [e]; exact wb_mask (k := 6) hn (by decide)
  rw [ez, e2]
  exact jb_l63 _ (Nat.mod_lt _ (by decide))
theorem ji_toInt (x : Int32) : x.toInt = if 2 * x.toBitVec.toNat < 2 ^ 32 then (x.toBitVec.toNat : Int) else (x.toBitVec.toNat : Int) - (2 ^ 32 : Nat) := by
  show x.toBitVec.toInt = _
  rw [BitVec.toInt_eq_toNat_cond]
theorem jb_and15 (x : Int32) : (x &&& 15).toInt = x.toInt % 16 := by
  have h := pk_and x (m := 15) 4 (by decide)
  have hb := x.toBitVec.isLt
  have hx := ji_toInt x
  rw [h, nI_toInt (by omega), hx]
  split <;> omega
theorem jN_of {x : Int32} (h : 0 ≤ x.toInt) : ∃ n : Nat, n < 2 ^ 31 ∧ x = nI n ∧ x.toInt = n := by
  have hb := x.toBitVec.isLt
  have hx := ji_toInt x
  have h2 : 2 * x.toBitVec.toNat < 2 ^ 32 := by
    by_cases q : 2 * x.toBitVec.toNat < 2 ^ 32
    · exact q
    · rw [if_neg q] at hx; omega
  rw [if_pos h2] at hx
  exact ⟨x.toBitVec.toNat, by omega, Int32.toBitVec_inj.mp (by show _ = BitVec.ofNat 32 _; simp), hx⟩
theorem jN_or {n m : Nat} (hn : n < 2 ^ 31) (hm : m < 2 ^ 31) : nI n ||| nI m = nI (n ||| m) := by
  apply Int32.toBitVec_inj.mp
  rw [Int32.toBitVec_or]
  apply BitVec.eq_of_toNat_eq
  show ((BitVec.ofNat 32 n) ||| (BitVec.ofNat 32 m)).toNat = (BitVec.ofNat 32 (n ||| m)).toNat
  have h1 : n ||| m < 2 ^ 31 := Nat.or_lt_two_pow hn hm
  rw [BitVec.toNat_or, BitVec.toNat_ofNat, BitVec.toNat_ofNat, BitVec.toNat_ofNat, Nat.mod_eq_of_lt (by omega), Nat.mod_eq_of_lt (by omega), Nat.mod_eq_of_lt (by omega)]
theorem jb_or {x y z : Int32} (e : z = x ||| y) (hx : 0 ≤ x.toInt) (hy : 0 ≤ y.toInt) : 0 ≤ z.toInt := by
  obtain ⟨n, hn, ex, -⟩ := jN_of hx
  obtain ⟨m, hm, ey, -⟩ := jN_of hy
  have h1 : n ||| m < 2 ^ 31 := Nat.or_lt_two_pow hn hm
  rw [e, ex, ey, jN_or hn hm, nI_toInt h1]
  omega
theorem jb_or29 {x y z : Int32} (e : z = x ||| y) (hx : 0 ≤ x.toInt) (hy : 0 ≤ y.toInt) (hx1 : x.toInt < 536870912) (hy1 : y.toInt < 536870912) : 0 ≤ z.toInt ∧ z.toInt < 536870912 := by
  obtain ⟨n, hn, ex, ex2⟩ := jN_of hx
  obtain ⟨m, hm, ey, ey2⟩ := jN_of hy
  have h1 : n ||| m < 2 ^ 29 := Nat.or_lt_two_pow (by omega) (by omega)
  rw [e, ex, ey, jN_or hn hm, nI_toInt (by omega)]
  omega
theorem jb_or28 {x y z : Int32} (e : z = x ||| y) (hx : 0 ≤ x.toInt) (hy : 0 ≤ y.toInt) (hx1 : x.toInt < 268435456) (hy1 : y.toInt < 268435456) : 0 ≤ z.toInt ∧ z.toInt < 268435456 := by
  obtain ⟨n, hn, ex, ex2⟩ := jN_of hx
  obtain ⟨m, hm, ey, ey2⟩ := jN_of hy
  have h1 : n ||| m < 2 ^ 28 := Nat.or_lt_two_pow (by omega) (by omega)
  rw [e, ex, ey, jN_or hn hm, nI_toInt (by omega)]
  omega
theorem jb_shl {x s z : Int32} (k : Nat) (e : z = x <<< (s &&& 31)) (hs : ((s &&& 31).toBitVec.smod 32).toNat = k) (hx : 0 ≤ x.toInt) (h : x.toInt * ((2 ^ k : Nat) : Int) < 2147483648) : z.toInt = x.toInt * ((2 ^ k : Nat) : Int) := by
  obtain ⟨n, hn, ex, ex2⟩ := jN_of hx
  rw [ex2] at h ⊢
  have h3 : ((n * 2 ^ k : Nat) : Int) = (n : Int) * ((2 ^ k : Nat) : Int) := Int.natCast_mul n (2 ^ k)
  rw [← h3] at h ⊢
  have h2 : n * 2 ^ k < 2147483648 := by omega
  rw [e, ex, pk_shlN _ k hs (by omega), nI_toInt (by omega)]
theorem jb_shlc {x s z : Int32} (k : Nat) (c : Int) (e : z = x <<< (s &&& 31)) (hs : ((s &&& 31).toBitVec.smod 32).toNat = k) (hc : ((2 ^ k : Nat) : Int) = c) (hx : 0 ≤ x.toInt) (h : x.toInt * c < 2147483648) : z.toInt = x.toInt * c := by
  subst hc
  exact jb_shl k e hs hx h
theorem jb_and0 {x m z : Int32} (e : z = x &&& m) (hx : 0 ≤ x.toInt) : 0 ≤ z.toInt ∧ z.toInt ≤ x.toInt := by
  obtain ⟨n, hn, ex, ex2⟩ := jN_of hx
  have h1 : z.toBitVec.toNat ≤ n := by
    rw [e, Int32.toBitVec_and, BitVec.toNat_and]
    have h2 : x.toBitVec.toNat = n := by
      rw [ex]
      show (BitVec.ofNat 32 n).toNat = n
      rw [BitVec.toNat_ofNat, Nat.mod_eq_of_lt (by omega)]
    rw [h2]
    exact Nat.and_le_left
  have hz := ji_toInt z
  rw [if_pos (by omega)] at hz
  omega
