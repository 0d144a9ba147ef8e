section
-- the places where a term stands, counted as the scan goes
theorem jSaB.no1 {f g : Nat → Int32} {n m : Nat} {a b w : Int} (h : a < 0 ∨ b < 0 ∨ n < a + w ∨ m < b + w) : jSaB f n g m a b w = false := by
  rcases Bool.eq_false_or_eq_true (jSaB f n g m a b w) with q | q
  · exfalso
    unfold jSaB at q
    rw [Bool.and_eq_true, Bool.and_eq_true, Bool.and_eq_true, Bool.and_eq_true] at q
    have q1 := of_decide_eq_true q.1
    have q2 := of_decide_eq_true q.2.1
    have q3 := of_decide_eq_true q.2.2.1
    have q4 := of_decide_eq_true q.2.2.2.1
    omega
  · exact q
theorem jSaB.no2 {f g : Nat → Int32} {n m : Nat} {a b w : Int} (i : Int) (h0 : 0 ≤ i) (h1 : i < w) (h : jSo f (a + i) ≠ jSo g (b + i)) : jSaB f n g m a b w = false := by
  rcases Bool.eq_false_or_eq_true (jSaB f n g m a b w) with q | q
  · exfalso
    unfold jSaB at q
    rw [Bool.and_eq_true, Bool.and_eq_true, Bool.and_eq_true, Bool.and_eq_true] at q
    have q5 := List.all_eq_true.mp q.2.2.2.2 i.toNat (List.mem_range.mpr (by omega))
    have q6 := of_decide_eq_true q5
    rw [show ((i.toNat : Nat) : Int) = i by omega] at q6
    exact h q6
  · exact q
theorem jTc.fuel {S : Int → Bool} {w n : Int} (hw : 1 ≤ w) : ∀ (k1 k2 : Nat) (i : Int), n - i ≤ k1 → n - i ≤ k2 → jTc S w n k1 i = jTc S w n k2 i
  | 0, 0, i, _, _ => rfl
  | 0, k2 + 1, i, h1, _ => by
    show 0 = (if n ≤ i then 0 else if S i = true then 1 + jTc S w n k2 (i + w) else jTc S w n k2 (i + 1))
    rw [if_pos (by omega)]
  | k1 + 1, 0, i, _, h2 => by
    show (if n ≤ i then 0 else if S i = true then 1 + jTc S w n k1 (i + w) else jTc S w n k1 (i + 1)) = 0
    rw [if_pos (by omega)]
  | k1 + 1, k2 + 1, i, h1, h2 => by
    show (if n ≤ i then 0 else if S i = true then 1 + jTc S w n k1 (i + w) else jTc S w n k1 (i + 1)) = (if n ≤ i then 0 else if S i = true then 1 + jTc S w n k2 (i + w) else jTc S w n k2 (i + 1))
    by_cases h : n ≤ i
    · rw [if_pos h, if_pos h]
    · rw [if_neg h, if_neg h, jTc.fuel hw k1 k2 (i + w) (by omega) (by omega), jTc.fuel hw k1 k2 (i + 1) (by omega) (by omega)]
theorem jTn.hit {S : Int → Bool} {w n i : Int} (hw : 1 ≤ w) (h : i < n) (hs : S i = true) : jTn S w n i = 1 + jTn S w n (i + w) := by
  unfold jTn
  rw [show (n - i).toNat = (n - i - 1).toNat + 1 by omega]
  show (if n ≤ i then 0 else if S i = true then 1 + jTc S w n (n - i - 1).toNat (i + w) else jTc S w n (n - i - 1).toNat (i + 1)) = _
  rw [if_neg (by omega), if_pos hs, jTc.fuel hw (n - i - 1).toNat (n - (i + w)).toNat (i + w) (by omega) (by omega)]
theorem jTn.miss {S : Int → Bool} {w n i : Int} (hw : 1 ≤ w) (h : i < n) (hs : S i = false) : jTn S w n i = jTn S w n (i + 1) := by
  unfold jTn
  rw [show (n - i).toNat = (n - i - 1).toNat + 1 by omega]
  show (if n ≤ i then 0 else if S i = true then 1 + jTc S w n (n - i - 1).toNat (i + w) else jTc S w n (n - i - 1).toNat (i + 1)) = _
  rw [if_neg (by omega), if_neg (by rw [hs]; exact Bool.false_ne_true), jTc.fuel hw (n - i - 1).toNat (n - (i + 1)).toNat (i + 1) (by omega) (by omega)]
theorem jTn.bd {S : Int → Bool} {w n : Int} (hw : 1 ≤ w) (hS : ∀ i, S i = true → i + w ≤ n) : ∀ (k : Nat) (i : Int), n - i ≤ k → i ≤ n → 0 ≤ jTn S w n i ∧ i + jTn S w n i * w ≤ n
  | 0, i, h, h2 => by
    rw [jTn.end (by omega)]
    omega
  | k + 1, i, h, h2 => by
    by_cases e : n ≤ i
    · rw [jTn.end e]
      omega
    · rcases Bool.eq_false_or_eq_true (S i) with hs | hs
      · have h3 := hS i hs
        obtain ⟨q1, q2⟩ := jTn.bd hw hS k (i + w) (by omega) h3
        rw [jTn.hit hw (by omega) hs, Int.add_mul, Int.one_mul]
        omega
      · obtain ⟨q1, q2⟩ := jTn.bd hw hS k (i + 1) (by omega) (by omega)
        rw [jTn.miss hw (by omega) hs]
        refine ⟨q1, ?_⟩
        omega
theorem jR1.hit {f g : Nat → Int32} {n m : Nat} {w i c i1 c1 : Int} (h : jR1 f n g m w i c) (hw : 1 ≤ w) (hn : i < n) (hs : jSaB f n g m i 1 w = true) (hi : i1 = i + w) (hc : c1 = c + 1) : jR1 f n g m w i1 c1 := by
  obtain ⟨h1, h2, h3, h4⟩ := h
  have h5 := jSaB.in hs
  rw [jTn.hit (S := jSp f n g m w) hw hn hs] at h4
  subst hi; subst hc
  exact ⟨by omega, by omega, by omega, by omega⟩
theorem jR1.miss {f g : Nat → Int32} {n m : Nat} {w i c i1 c1 : Int} (h : jR1 f n g m w i c) (hw : 1 ≤ w) (hn : i < n) (hs : jSaB f n g m i 1 w = false) (hi : i1 = i + 1) (hc : c1 = c) : jR1 f n g m w i1 c1 := by
  obtain ⟨h1, h2, h3, h4⟩ := h
  rw [jTn.miss (S := jSp f n g m w) hw hn hs] at h4
  subst hi; subst hc
  exact ⟨by omega, by omega, by omega, by omega⟩
theorem jR1.bd {f g : Nat → Int32} {n m : Nat} {w i c : Int} (h : jR1 f n g m w i c) : 0 ≤ c ∧ c ≤ i ∧ i ≤ n := ⟨h.1, h.2.1, h.2.2.1⟩
theorem jR2.hit {f g : Nat → Int32} {n m : Nat} {w b i t i1 t1 : Int} (h : jR2 f n g m w b i t) (hw : 1 ≤ w) (hn : i < n) (hs : jSaB f n g m i 1 w = true) (hi : i1 = i + w) (ht : t1 = t + b) : jR2 f n g m w b i1 t1 := by
  obtain ⟨h1, h2, h3⟩ := h
  have h5 := jSaB.in hs
  subst hi; subst ht
  refine ⟨by omega, by omega, ?_⟩
  rw [jTn.hit (S := jSp f n g m w) hw hn hs] at h3
  generalize jTn (jSp f n g m w) w n 0 = T0 at h3 ⊢
  generalize jTn (jSp f n g m w) w n (i + w) = T1 at h3 ⊢
  rw [h3, show T0 - T1 = (T0 - (1 + T1)) + 1 by omega, Int.add_mul, Int.one_mul]
  omega
theorem jR2.miss {f g : Nat → Int32} {n m : Nat} {w b i t i1 t1 : Int} (h : jR2 f n g m w b i t) (hw : 1 ≤ w) (hn : i < n) (hs : jSaB f n g m i 1 w = false) (hi : i1 = i + 1) (ht : t1 = t + 1) : jR2 f n g m w b i1 t1 := by
  obtain ⟨h1, h2, h3⟩ := h
  subst hi; subst ht
  rw [jTn.miss (S := jSp f n g m w) hw hn hs] at h3
  refine ⟨by omega, by omega, ?_⟩
  rw [h3]
  omega
theorem jR2.fit {f g : Nat → Int32} {n m : Nat} {w b i t z : Int} (h : jR2 f n g m w b i t) (hz : jRz f n g m w b z) (hw : 1 ≤ w) (hb : 0 ≤ b) (hn : i < n) (hs : jSaB f n g m i 1 w = true) : t + b ≤ z := by
  obtain ⟨h1, h2, h3⟩ := h
  have h5 := jSaB.in hs
  have h6 := jTn.bd (S := jSp f n g m w) (n := n) hw (fun i hi => (jSaB.in hi).2) (n : Int).toNat (i + w) (by omega) h5.2
  unfold jRz at hz
  rw [jTn.hit (S := jSp f n g m w) hw hn hs] at h3
  generalize jTn (jSp f n g m w) w n 0 = T0 at h3 hz
  generalize jTn (jSp f n g m w) w n (i + w) = T1 at h3 h6
  have h7 : 0 ≤ T1 * b := Int.mul_nonneg h6.1 hb
  have h8 : (T0 - (1 + T1)) * (b - w) = T0 * (b - w) - (b - w) - (T1 * b - T1 * w) := by rw [Int.sub_mul, Int.add_mul, Int.one_mul, Int.mul_sub T1]; omega
  rw [h3, hz, h8]
  omega
theorem jR2.bd {f g : Nat → Int32} {n m : Nat} {w b i t : Int} (h : jR2 f n g m w b i t) : 0 ≤ i ∧ i ≤ n := ⟨h.1, h.2.1⟩
end
section
theorem dX5_rewrite_0 : decode cX5_rewrite 0 = .ok (.aload_n 2, 1) := by decide +kernel
theorem dX5_rewrite_1 : decode cX5_rewrite 1 = .ok (.arraylength, 1) := by decide +kernel
theorem dX5_rewrite_2 : decode cX5_rewrite 2 = .ok (.ifCond .eq 13, 3) := by decide +kernel
theorem dX5_rewrite_5 : decode cX5_rewrite 5 = .ok (.aload_n 2, 1) := by decide +kernel
theorem dX5_rewrite_6 : decode cX5_rewrite 6 = .ok (.iconst 0, 1) := by decide +kernel
theorem dX5_rewrite_7 : decode cX5_rewrite 7 = .ok (.iaload, 1) := by decide +kernel
theorem dX5_rewrite_8 : decode cX5_rewrite 8 = .ok (.bipush 15, 2) := by decide +kernel
theorem dX5_rewrite_10 : decode cX5_rewrite 10 = .ok (.iand, 1) := by decide +kernel
theorem dX5_rewrite_11 : decode cX5_rewrite 11 = .ok (.iconst 4, 1) := by decide +kernel
theorem dX5_rewrite_12 : decode cX5_rewrite 12 = .ok (.if_icmp .eq 6, 3) := by decide +kernel
theorem dX5_rewrite_15 : decode cX5_rewrite 15 = .ok (.bipush 8, 2) := by decide +kernel
theorem dX5_rewrite_17 : decode cX5_rewrite 17 = .ok (.ireturn, 1) := by decide +kernel
theorem dX5_rewrite_18 : decode cX5_rewrite 18 = .ok (.aload_n 1, 1) := by decide +kernel
theorem dX5_rewrite_19 : decode cX5_rewrite 19 = .ok (.getfield 190, 3) := by decide +kernel
theorem dX5_rewrite_22 : decode cX5_rewrite 22 = .ok (.astore_n 3, 1) := by decide +kernel
theorem dX5_rewrite_23 : decode cX5_rewrite 23 = .ok (.aload_n 2, 1) := by decide +kernel
theorem dX5_rewrite_24 : decode cX5_rewrite 24 = .ok (.iconst 1, 1) := by decide +kernel
theorem dX5_rewrite_25 : decode cX5_rewrite 25 = .ok (.aload_n 2, 1) := by decide +kernel
theorem dX5_rewrite_26 : decode cX5_rewrite 26 = .ok (.arraylength, 1) := by decide +kernel
theorem dX5_rewrite_27 : decode cX5_rewrite 27 = .ok (.invokestatic 183, 3) := by decide +kernel
theorem dX5_rewrite_30 : decode cX5_rewrite 30 = .ok (.istore 4, 2) := by decide +kernel
theorem dX5_rewrite_32 : decode cX5_rewrite 32 = .ok (.iload 4, 2) := by decide +kernel
theorem dX5_rewrite_34 : decode cX5_rewrite 34 = .ok (.iconst 1, 1) := by decide +kernel
theorem dX5_rewrite_35 : decode cX5_rewrite 35 = .ok (.isub, 1) := by decide +kernel
theorem dX5_rewrite_36 : decode cX5_rewrite 36 = .ok (.iconst 1, 1) := by decide +kernel
theorem dX5_rewrite_37 : decode cX5_rewrite 37 = .ok (.invokestatic 273, 3) := by decide +kernel
theorem dX5_rewrite_40 : decode cX5_rewrite 40 = .ok (.istore 5, 2) := by decide +kernel
theorem dX5_rewrite_42 : decode cX5_rewrite 42 = .ok (.aload_n 2, 1) := by decide +kernel
theorem dX5_rewrite_43 : decode cX5_rewrite 43 = .ok (.arraylength, 1) := by decide +kernel
theorem dX5_rewrite_44 : decode cX5_rewrite 44 = .ok (.iload 4, 2) := by decide +kernel
theorem dX5_rewrite_46 : decode cX5_rewrite 46 = .ok (.isub, 1) := by decide +kernel
theorem dX5_rewrite_47 : decode cX5_rewrite 47 = .ok (.istore 6, 2) := by decide +kernel
theorem dX5_rewrite_49 : decode cX5_rewrite 49 = .ok (.iconst 0, 1) := by decide +kernel
theorem dX5_rewrite_50 : decode cX5_rewrite 50 = .ok (.istore 7, 2) := by decide +kernel
theorem dX5_rewrite_52 : decode cX5_rewrite 52 = .ok (.iconst 0, 1) := by decide +kernel
theorem dX5_rewrite_53 : decode cX5_rewrite 53 = .ok (.istore 8, 2) := by decide +kernel
theorem dX5_rewrite_55 : decode cX5_rewrite 55 = .ok (.iload 8, 2) := by decide +kernel
theorem dX5_rewrite_57 : decode cX5_rewrite 57 = .ok (.aload_n 3, 1) := by decide +kernel
theorem dX5_rewrite_58 : decode cX5_rewrite 58 = .ok (.arraylength, 1) := by decide +kernel
theorem dX5_rewrite_59 : decode cX5_rewrite 59 = .ok (.if_icmp .ge 34, 3) := by decide +kernel
theorem dX5_rewrite_62 : decode cX5_rewrite 62 = .ok (.aload_n 3, 1) := by decide +kernel
theorem dX5_rewrite_63 : decode cX5_rewrite 63 = .ok (.iload 8, 2) := by decide +kernel
theorem dX5_rewrite_65 : decode cX5_rewrite 65 = .ok (.aload_n 2, 1) := by decide +kernel
theorem dX5_rewrite_66 : decode cX5_rewrite 66 = .ok (.iconst 1, 1) := by decide +kernel
theorem dX5_rewrite_67 : decode cX5_rewrite 67 = .ok (.iload 5, 2) := by decide +kernel
theorem dX5_rewrite_69 : decode cX5_rewrite 69 = .ok (.invokestatic 231, 3) := by decide +kernel
theorem dX5_rewrite_72 : decode cX5_rewrite 72 = .ok (.ifCond .eq 15, 3) := by decide +kernel
theorem dX5_rewrite_75 : decode cX5_rewrite 75 = .ok (.iinc 7 1, 3) := by decide +kernel
theorem dX5_rewrite_78 : decode cX5_rewrite 78 = .ok (.iload 8, 2) := by decide +kernel
theorem dX5_rewrite_80 : decode cX5_rewrite 80 = .ok (.iload 5, 2) := by decide +kernel
theorem dX5_rewrite_82 : decode cX5_rewrite 82 = .ok (.iconst 1, 1) := by decide +kernel
theorem dX5_rewrite_83 : decode cX5_rewrite 83 = .ok (.isub, 1) := by decide +kernel
theorem dX5_rewrite_84 : decode cX5_rewrite 84 = .ok (.iadd, 1) := by decide +kernel
theorem dX5_rewrite_85 : decode cX5_rewrite 85 = .ok (.istore 8, 2) := by decide +kernel
theorem dX5_rewrite_87 : decode cX5_rewrite 87 = .ok (.iinc 8 1, 3) := by decide +kernel
theorem dX5_rewrite_90 : decode cX5_rewrite 90 = .ok (.goto (-35), 3) := by decide +kernel
theorem dX5_rewrite_93 : decode cX5_rewrite 93 = .ok (.aload_n 3, 1) := by decide +kernel
theorem dX5_rewrite_94 : decode cX5_rewrite 94 = .ok (.arraylength, 1) := by decide +kernel
theorem dX5_rewrite_95 : decode cX5_rewrite 95 = .ok (.iload 7, 2) := by decide +kernel
theorem dX5_rewrite_97 : decode cX5_rewrite 97 = .ok (.iload 6, 2) := by decide +kernel
theorem dX5_rewrite_99 : decode cX5_rewrite 99 = .ok (.iload 5, 2) := by decide +kernel
theorem dX5_rewrite_101 : decode cX5_rewrite 101 = .ok (.isub, 1) := by decide +kernel
theorem dX5_rewrite_102 : decode cX5_rewrite 102 = .ok (.imul, 1) := by decide +kernel
theorem dX5_rewrite_103 : decode cX5_rewrite 103 = .ok (.iadd, 1) := by decide +kernel
theorem dX5_rewrite_104 : decode cX5_rewrite 104 = .ok (.istore 8, 2) := by decide +kernel
theorem dX5_rewrite_106 : decode cX5_rewrite 106 = .ok (.iload 7, 2) := by decide +kernel
theorem dX5_rewrite_108 : decode cX5_rewrite 108 = .ok (.ifCond .eq 16, 3) := by decide +kernel
theorem dX5_rewrite_111 : decode cX5_rewrite 111 = .ok (.iload 8, 2) := by decide +kernel
theorem dX5_rewrite_113 : decode cX5_rewrite 113 = .ok (.bipush 80, 2) := by decide +kernel
theorem dX5_rewrite_115 : decode cX5_rewrite 115 = .ok (.if_icmp .gt 9, 3) := by decide +kernel
theorem dX5_rewrite_118 : decode cX5_rewrite 118 = .ok (.iload 8, 2) := by decide +kernel
theorem dX5_rewrite_120 : decode cX5_rewrite 120 = .ok (.iconst 1, 1) := by decide +kernel
theorem dX5_rewrite_121 : decode cX5_rewrite 121 = .ok (.if_icmp .ge 16, 3) := by decide +kernel
theorem dX5_rewrite_124 : decode cX5_rewrite 124 = .ok (.iload 7, 2) := by decide +kernel
theorem dX5_rewrite_126 : decode cX5_rewrite 126 = .ok (.ifCond .ne 8, 3) := by decide +kernel
theorem dX5_rewrite_129 : decode cX5_rewrite 129 = .ok (.bipush 8, 2) := by decide +kernel
theorem dX5_rewrite_131 : decode cX5_rewrite 131 = .ok (.goto 5, 3) := by decide +kernel
theorem dX5_rewrite_134 : decode cX5_rewrite 134 = .ok (.bipush 9, 2) := by decide +kernel
theorem dX5_rewrite_136 : decode cX5_rewrite 136 = .ok (.ireturn, 1) := by decide +kernel
theorem dX5_rewrite_137 : decode cX5_rewrite 137 = .ok (.iload 8, 2) := by decide +kernel
theorem dX5_rewrite_139 : decode cX5_rewrite 139 = .ok (.newarray .int, 2) := by decide +kernel
theorem dX5_rewrite_141 : decode cX5_rewrite 141 = .ok (.astore 9, 2) := by decide +kernel
theorem dX5_rewrite_143 : decode cX5_rewrite 143 = .ok (.iconst 0, 1) := by decide +kernel
theorem dX5_rewrite_144 : decode cX5_rewrite 144 = .ok (.istore 10, 2) := by decide +kernel
theorem dX5_rewrite_146 : decode cX5_rewrite 146 = .ok (.iconst 0, 1) := by decide +kernel
theorem dX5_rewrite_147 : decode cX5_rewrite 147 = .ok (.istore 11, 2) := by decide +kernel
theorem dX5_rewrite_149 : decode cX5_rewrite 149 = .ok (.iload 11, 2) := by decide +kernel
theorem dX5_rewrite_151 : decode cX5_rewrite 151 = .ok (.aload_n 3, 1) := by decide +kernel
theorem dX5_rewrite_152 : decode cX5_rewrite 152 = .ok (.arraylength, 1) := by decide +kernel
theorem dX5_rewrite_153 : decode cX5_rewrite 153 = .ok (.if_icmp .ge 72, 3) := by decide +kernel
theorem dX5_rewrite_156 : decode cX5_rewrite 156 = .ok (.iload 10, 2) := by decide +kernel
theorem dX5_rewrite_158 : decode cX5_rewrite 158 = .ok (.iload 8, 2) := by decide +kernel
theorem dX5_rewrite_160 : decode cX5_rewrite 160 = .ok (.if_icmp .ge 65, 3) := by decide +kernel
theorem dX5_rewrite_163 : decode cX5_rewrite 163 = .ok (.aload_n 3, 1) := by decide +kernel
theorem dX5_rewrite_164 : decode cX5_rewrite 164 = .ok (.iload 11, 2) := by decide +kernel
theorem dX5_rewrite_166 : decode cX5_rewrite 166 = .ok (.aload_n 2, 1) := by decide +kernel
theorem dX5_rewrite_167 : decode cX5_rewrite 167 = .ok (.iconst 1, 1) := by decide +kernel
theorem dX5_rewrite_168 : decode cX5_rewrite 168 = .ok (.iload 5, 2) := by decide +kernel
theorem dX5_rewrite_170 : decode cX5_rewrite 170 = .ok (.invokestatic 231, 3) := by decide +kernel
theorem dX5_rewrite_173 : decode cX5_rewrite 173 = .ok (.ifCond .eq 34, 3) := by decide +kernel
theorem dX5_rewrite_176 : decode cX5_rewrite 176 = .ok (.aload_n 2, 1) := by decide +kernel
theorem dX5_rewrite_177 : decode cX5_rewrite 177 = .ok (.iload 4, 2) := by decide +kernel
theorem dX5_rewrite_179 : decode cX5_rewrite 179 = .ok (.aload 9, 2) := by decide +kernel
theorem dX5_rewrite_181 : decode cX5_rewrite 181 = .ok (.iload 10, 2) := by decide +kernel
theorem dX5_rewrite_183 : decode cX5_rewrite 183 = .ok (.iload 6, 2) := by decide +kernel
theorem dX5_rewrite_185 : decode cX5_rewrite 185 = .ok (.invokestatic 279, 3) := by decide +kernel
theorem dX5_rewrite_188 : decode cX5_rewrite 188 = .ok (.iload 10, 2) := by decide +kernel
theorem dX5_rewrite_190 : decode cX5_rewrite 190 = .ok (.iload 6, 2) := by decide +kernel
theorem dX5_rewrite_192 : decode cX5_rewrite 192 = .ok (.iadd, 1) := by decide +kernel
theorem dX5_rewrite_193 : decode cX5_rewrite 193 = .ok (.istore 10, 2) := by decide +kernel
theorem dX5_rewrite_195 : decode cX5_rewrite 195 = .ok (.iload 11, 2) := by decide +kernel
theorem dX5_rewrite_197 : decode cX5_rewrite 197 = .ok (.iload 5, 2) := by decide +kernel
theorem dX5_rewrite_199 : decode cX5_rewrite 199 = .ok (.iconst 1, 1) := by decide +kernel
theorem dX5_rewrite_200 : decode cX5_rewrite 200 = .ok (.isub, 1) := by decide +kernel
theorem dX5_rewrite_201 : decode cX5_rewrite 201 = .ok (.iadd, 1) := by decide +kernel
theorem dX5_rewrite_202 : decode cX5_rewrite 202 = .ok (.istore 11, 2) := by decide +kernel
theorem dX5_rewrite_204 : decode cX5_rewrite 204 = .ok (.goto 15, 3) := by decide +kernel
theorem dX5_rewrite_207 : decode cX5_rewrite 207 = .ok (.aload 9, 2) := by decide +kernel
theorem dX5_rewrite_209 : decode cX5_rewrite 209 = .ok (.iload 10, 2) := by decide +kernel
theorem dX5_rewrite_211 : decode cX5_rewrite 211 = .ok (.aload_n 3, 1) := by decide +kernel
theorem dX5_rewrite_212 : decode cX5_rewrite 212 = .ok (.iload 11, 2) := by decide +kernel
theorem dX5_rewrite_214 : decode cX5_rewrite 214 = .ok (.iaload, 1) := by decide +kernel
theorem dX5_rewrite_215 : decode cX5_rewrite 215 = .ok (.iastore, 1) := by decide +kernel
theorem dX5_rewrite_216 : decode cX5_rewrite 216 = .ok (.iinc 10 1, 3) := by decide +kernel
theorem dX5_rewrite_219 : decode cX5_rewrite 219 = .ok (.iinc 11 1, 3) := by decide +kernel
theorem dX5_rewrite_222 : decode cX5_rewrite 222 = .ok (.goto (-73), 3) := by decide +kernel
theorem dX5_rewrite_225 : decode cX5_rewrite 225 = .ok (.aload_n 0, 1) := by decide +kernel
theorem dX5_rewrite_226 : decode cX5_rewrite 226 = .ok (.aload_n 1, 1) := by decide +kernel
theorem dX5_rewrite_227 : decode cX5_rewrite 227 = .ok (.aload 9, 2) := by decide +kernel
theorem dX5_rewrite_229 : decode cX5_rewrite 229 = .ok (.invokevirtual 221, 3) := by decide +kernel
theorem dX5_rewrite_232 : decode cX5_rewrite 232 = .ok (.invokevirtual 225, 3) := by decide +kernel
theorem dX5_rewrite_235 : decode cX5_rewrite 235 = .ok (.ireturn, 1) := by decide +kernel
def EX5_standsAtC : List (Nat × Nat) := []
def EX5_rewrite : List (Nat × Nat) := [(7, 10), (211, 0)]
set_option maxHeartbeats 4000000 in
set_option maxRecDepth 20000 in
theorem uX5_standsAtC (l : Launch) (dC : Nat → ClassId) (dI : Nat → Nat → Nat) (ca : Nat → ClassId) (base : Nat) (B : jF) (hB : jBok B) (hAp : jAp (dC, dI)) (hB280 : ∀ n G a H, B 280 n G a H ↔ jAr (dC, dI) (ca 1) (fun j z => -1 ≤ z.toInt) n a H) (G0 : jT) (H0 : Heap) (r0 : Nat) (a1 : Int32) (r2 : Nat) (a3 : Int32) (a4 : Int32) (n0 : Nat) (n2 : Nat) (ff : Nat → Int32) (fg : Nat → Int32) : Met l yX5_standsAt (jw yX5_standsAt cX5_standsAt 6 (some .boolean)) ({ frames := 0, cells := 0, slots := 0, locals := 0 }) (va_Pc [.ref r0, .int a1, .ref r2, .int a3, .int a4] (fun U => U.heap = H0 ∧ jX B base G0 [] H0 ∧ jG dC dI ca base U ∧ G0 r0 = some (280, n0) ∧ G0 r2 = some (280, n2) ∧ jP (dC, dI) G0 H0 [] ∧ jMc (dC, dI) G0 H0 [(r0, 280, n0, ca 1, ff), (r2, 280, n2, ca 1, fg)] ∧ n0 ≤ 100000 ∧ n2 ≤ 100000 ∧ a1.toInt ≤ 100000 ∧ a3.toInt ≤ 100000 ∧ a4.toInt ≤ 1000000 ∧ 0 ≤ a4.toInt)) (va_Qi (S := Unit) (fun r u => (r = 0 ∨ r = 1) ∧ ((r.toInt = 1 → jSaB ff n0 fg n2 a1.toInt a3.toInt a4.toInt = true) ∧ (r.toInt = 0 → jSaB ff n0 fg n2 a1.toInt a3.toInt a4.toInt = false))) (fun u t => (jRt (dC, dI) B base G0 EX5_standsAtC H0 [] t.heap) ∧ jKl [] H0 t.heap) (jA base)) 0 0 (jA base) := by
  refine Met.ofW (cc := cX5_standsAt) (maxL := 6) (ret := (some .boolean)) (by decide) rfl ?_
  intro p e s m args below meth c s₁ Bd hml hv
  obtain ⟨rfl, hH0, hX, hG, hg_r0, hg_r2, hP0, hM0, hp0, hp1, hp2, hp3, hp4, hp5⟩ := hv
  have hK := hG.1
  have hx := Bd.exec
  have hb := Bd.bytes
  have hr := Bd.returns
  have hts := atoms_spec (ws := (jw yX5_standsAt cX5_standsAt 6 (some .boolean))) Bd.pre
  have htw : ∀ w ∈ jWl, w.before _ s = true := fun w h => hts w (List.mem_cons_of_mem _ h)
  have hown : s.vm.findClass RX5 = some m.cls := findClass_of_methodNamed Bd.named
  have hlocks := Bd.notSynchronized
  obtain ⟨Q, hQ⟩ : ∃ Q, Q = MQ below (va_Qi (S := Unit) (fun r u => (r = 0 ∨ r = 1) ∧ ((r.toInt = 1 → jSaB ff n0 fg n2 a1.toInt a3.toInt a4.toInt = true) ∧ (r.toInt = 0 → jSaB ff n0 fg n2 a1.toInt a3.toInt a4.toInt = false))) (fun u t => (jRt (dC, dI) B base G0 EX5_standsAtC H0 [] t.heap) ∧ jKl [] H0 t.heap) (jA base)) ([.ref r0, .int a1, .ref r2, .int a3, .int a4] : List Value).toArray s 0 0 (jA base) := ⟨_, rfl⟩
  rw [← hQ]
  have hl := lv_entry ([.ref r0, .int a1, .ref r2, .int a3, .int a4]) (n := 6) (Nat.le_of_ble_eq_true rfl)
  rw [lg_entry_eq]
  generalize (lg_sl ([.ref r0, .int a1, .ref r2, .int a3, .int a4]) ++ List.replicate (6 - (lg_sl ([.ref r0, .int a1, .ref r2, .int a3, .int a4])).length) Slot.unset).toArray = ls at hl ⊢
  have hl : lv_has ls 6 [(0, .ref r0), (1, .int a1), (2, .ref r2), (3, .int a3), (4, .int a4)] := hl
  generalize hR : (headSpec (jw yX5_standsAt cX5_standsAt 6 (some .boolean)) ({ frames := 0, cells := 0, slots := 0, locals := 0 })).room = R
  subst hH0
  have hh : jSt (dC, dI) B base G0 G0 EX5_standsAtC s.heap 0 0 [] [(r0, 280, n0, ca 1, ff), (r2, 280, n2, ca 1, fg)] [] s.heap [] := jSt.start hX hP0 hM0 jIs.nil
  clear hX hP0
  have hk0 : (0 : Int32).toInt = 0 := by decide
  have hk1 : (1 : Int32).toInt = 1 := by decide
  have hrg_a1 := jb_rng a1
  have hrg_a3 := jb_rng a3
  have hrg_a4 := jb_rng a4
  have hfl : jKl [] s.heap s.heap := jKl.rf
  refine lv_iload_n hx hb dX5_standsAt_0 rfl (lv_at hl 1 rfl) ?_
  refine lv_if_lt (tgt := 26) hx hb dX5_standsAt_1 (by decide) (fun c_1 => ?_) (fun c_1 => ?_)
  · skip
    have c_1' : a1.toInt < 0 := jb_lt (rfl) ((by decide)) c_1
    refine lv_iconst (v := 0) hx hb dX5_standsAt_26 (by decide) ?_
    rw [hQ]
    exact W.zret (v := 0) hx hb hr (jb_nz (Or.inl rfl)) (fun t ht hW => ⟨⟨0, (), rfl, ⟨(Or.inl rfl), by refine ⟨fun h9 => absurd h9 (by omega), fun _ => ?_⟩; exact jSaB.no1 (by omega)⟩, ⟨hh.rt (M1 := []) [] rfl ht, by rw [ht]; exact hfl⟩⟩, by rw [ht]; try exact hh.1.1, fun q h9 hq => by rw [ht]; try exact hh.1.2.1 q h9 hq⟩) hh.1.2.2 dX5_standsAt_27
  · skip
    have c_1' : a1.toInt ≥ 0 := jb_lt_n (rfl) ((by decide)) c_1
    refine lv_iload_n hx hb dX5_standsAt_4 rfl (lv_at hl 3 rfl) ?_
    refine lv_if_lt (tgt := 26) hx hb dX5_standsAt_5 (by decide) (fun c_2 => ?_) (fun c_2 => ?_)
    · skip
      have c_2' : a3.toInt < 0 := jb_lt (rfl) ((by decide)) c_2
      refine lv_iconst (v := 0) hx hb dX5_standsAt_26 (by decide) ?_
      rw [hQ]
      exact W.zret (v := 0) hx hb hr (jb_nz (Or.inl rfl)) (fun t ht hW => ⟨⟨0, (), rfl, ⟨(Or.inl rfl), by refine ⟨fun h9 => absurd h9 (by omega), fun _ => ?_⟩; exact jSaB.no1 (by omega)⟩, ⟨hh.rt (M1 := []) [] rfl ht, by rw [ht]; exact hfl⟩⟩, by rw [ht]; try exact hh.1.1, fun q h9 hq => by rw [ht]; try exact hh.1.2.1 q h9 hq⟩) hh.1.2.2 dX5_standsAt_27
    · skip
      have c_2' : a3.toInt ≥ 0 := jb_lt_n (rfl) ((by decide)) c_2
      refine lv_iload_n hx hb dX5_standsAt_8 rfl (lv_at hl 1 rfl) ?_
      refine lv_iload hx hb dX5_standsAt_9 (lv_at hl 4 rfl) ?_
      refine lv_iadd hx hb dX5_standsAt_11 ?_
      refine lv_topi (fun z_3 ez_3 => ?_)
      have hz_3 : z_3.toInt = a1.toInt + a4.toInt := by rw [ez_3]; exact jb_iadd2 (rfl) (rfl) (by omega)
      refine lv_aload_n hx hb dX5_standsAt_12 rfl (lv_at hl 0 rfl) ?_
      refine j7_len hx hb hK hh hB280 1 rfl (by decide) hg_r0 (by omega) dX5_standsAt_13 (fun z_4 hz_4 => ?_)
      refine lv_icmp_gt (tgt := 26) hx hb dX5_standsAt_14 (by decide) (fun c_5 => ?_) (fun c_5 => ?_)
      · skip
        have c_5' : z_3.toInt > z_4.toInt := jb_gt (rfl) (rfl) c_5
        refine lv_iconst (v := 0) hx hb dX5_standsAt_26 (by decide) ?_
        rw [hQ]
        exact W.zret (v := 0) hx hb hr (jb_nz (Or.inl rfl)) (fun t ht hW => ⟨⟨0, (), rfl, ⟨(Or.inl rfl), by refine ⟨fun h9 => absurd h9 (by omega), fun _ => ?_⟩; exact jSaB.no1 (by omega)⟩, ⟨hh.rt (M1 := []) [] rfl ht, by rw [ht]; exact hfl⟩⟩, by rw [ht]; try exact hh.1.1, fun q h9 hq => by rw [ht]; try exact hh.1.2.1 q h9 hq⟩) hh.1.2.2 dX5_standsAt_27
      · skip
        have c_5' : z_3.toInt ≤ z_4.toInt := jb_gt_n (rfl) (rfl) c_5
        refine lv_iload_n hx hb dX5_standsAt_17 rfl (lv_at hl 3 rfl) ?_
        refine lv_iload hx hb dX5_standsAt_18 (lv_at hl 4 rfl) ?_
        refine lv_iadd hx hb dX5_standsAt_20 ?_
        refine lv_topi (fun z_6 ez_6 => ?_)
        have hz_6 : z_6.toInt = a3.toInt + a4.toInt := by rw [ez_6]; exact jb_iadd2 (rfl) (rfl) (by omega)
        refine lv_aload_n hx hb dX5_standsAt_21 rfl (lv_at hl 2 rfl) ?_
        refine j7_len hx hb hK hh hB280 1 rfl (by decide) hg_r2 (by omega) dX5_standsAt_22 (fun z_7 hz_7 => ?_)
        refine lv_icmp_le (tgt := 28) hx hb dX5_standsAt_23 (by decide) (fun c_8 => ?_) (fun c_8 => ?_)
        · skip
          have c_8' : z_6.toInt ≤ z_7.toInt := jb_le (rfl) (rfl) c_8
          refine lv_iconst (v := 0) hx hb dX5_standsAt_28 (by decide) ?_
          refine lv_istore (lv' := [(5, .int 0), (0, .ref r0), (1, .int a1), (2, .ref r2), (3, .int a3), (4, .int a4)]) hx hb dX5_standsAt_29 hl (by decide) rfl (fun ls hl => ?_)
          have L31 : ∀ (N : Nat) (v5_9 : Int32) (H_9 : Heap) (locs_9 : List Loc), jSt (dC, dI) B base G0 G0 EX5_standsAtC s.heap 0 0 [] [(r0, 280, n0, ca 1, ff), (r2, 280, n2, ca 1, fg)] [] H_9 locs_9 → jKl [] s.heap H_9 → (0 ≤ v5_9.toInt ∧ v5_9.toInt ≤ a4.toInt ∧ jSq ff fg a1.toInt a3.toInt v5_9.toInt) → (((a4.toInt - v5_9.toInt).toNat : Int) : Int) < N → ∀ ls : Array Slot, lv_has ls 6 [(0, .ref r0), (1, .int a1), (2, .ref r2), (3, .int a3), (4, .int a4), (5, .int v5_9)] → W p l e R s m ([.ref r0, .int a1, .ref r2, .int a3, .int a4] : List Value).toArray below meth c H_9 locs_9 0 0 Q (F0 m 31 ls []) := by
            intro N
            induction N with
            | zero => intro v5_9 H_9 locs_9 hh_9 hfl_9 hi_9 hm; exact absurd hm (by omega)
            | succ N L31 =>
              intro v5_9 H_9 locs_9 hh_9 hfl_9 hi_9 hm_9 ls hl
              obtain ⟨hi_9_0, hi_9_1, hi_9_2⟩ := hi_9
              refine lv_iload hx hb dX5_standsAt_31 (lv_at hl 5 rfl) ?_
              refine lv_iload hx hb dX5_standsAt_33 (lv_at hl 4 rfl) ?_
              refine lv_icmp_ge (tgt := 61) hx hb dX5_standsAt_35 (by decide) (fun c_10 => ?_) (fun c_10 => ?_)
              · skip
                have c_10' : v5_9.toInt ≥ a4.toInt := jb_ge (rfl) (rfl) c_10
                refine lv_iconst (v := 1) hx hb dX5_standsAt_61 (by decide) ?_
                rw [hQ]
                exact W.zret (v := 1) hx hb hr (jb_nz (Or.inr rfl)) (fun t ht hW => ⟨⟨1, (), rfl, ⟨(Or.inr rfl), by refine ⟨fun _ => ?_, fun h9 => absurd h9 (by omega)⟩; exact jSaB.yes (by omega) (by omega) (by omega) (by omega) (fun j h0 h1 => hi_9_2 j h0 (by omega))⟩, ⟨hh_9.rt (M1 := []) [] rfl ht, by rw [ht]; exact hfl_9⟩⟩, by rw [ht]; try exact hh_9.1.1, fun q h9 hq => by rw [ht]; try exact hh_9.1.2.1 q h9 hq⟩) hh_9.1.2.2 dX5_standsAt_62
              · skip
                have c_10' : v5_9.toInt < a4.toInt := jb_ge_n (rfl) (rfl) c_10
                refine lv_aload_n hx hb dX5_standsAt_38 rfl (lv_at hl 0 rfl) ?_
                refine lv_iload_n hx hb dX5_standsAt_39 rfl (lv_at hl 1 rfl) ?_
                refine lv_iload hx hb dX5_standsAt_40 (lv_at hl 5 rfl) ?_
                refine lv_iadd hx hb dX5_standsAt_42 ?_
                refine lv_topi (fun z_11 ez_11 => ?_)
                have hz_11 : z_11.toInt = a1.toInt + v5_9.toInt := by rw [ez_11]; exact jb_iadd2 (rfl) (rfl) (by omega)
                refine j7_ialdM hx hb hK hh_9 hB280 1 rfl (by decide) hg_r0 (x := z_11.toInt) (rfl) (by omega) (j := 0) rfl dX5_standsAt_43 (fun z_12 ez_12 (hz_12 : -1 ≤ z_12.toInt) => ?_)
                have hqz_12 : z_12.toInt = jSo ff ((a1.toInt + v5_9.toInt)) := by unfold jSo; rw [ez_12, show z_11.toInt = (a1.toInt + v5_9.toInt) by omega]
                refine lv_aload_n hx hb dX5_standsAt_44 rfl (lv_at hl 2 rfl) ?_
                refine lv_iload_n hx hb dX5_standsAt_45 rfl (lv_at hl 3 rfl) ?_
                refine lv_iload hx hb dX5_standsAt_46 (lv_at hl 5 rfl) ?_
                refine lv_iadd hx hb dX5_standsAt_48 ?_
                refine lv_topi (fun z_13 ez_13 => ?_)
                have hz_13 : z_13.toInt = a3.toInt + v5_9.toInt := by rw [ez_13]; exact jb_iadd2 (rfl) (rfl) (by omega)
                refine j7_ialdM hx hb hK hh_9 hB280 1 rfl (by decide) hg_r2 (x := z_13.toInt) (rfl) (by omega) (j := 1) rfl dX5_standsAt_49 (fun z_14 ez_14 (hz_14 : -1 ≤ z_14.toInt) => ?_)
                have hqz_14 : z_14.toInt = jSo fg ((a3.toInt + v5_9.toInt)) := by unfold jSo; rw [ez_14, show z_13.toInt = (a3.toInt + v5_9.toInt) by omega]
                refine lv_icmp_eq (tgt := 55) hx hb dX5_standsAt_50 (by decide) (fun c_15 => ?_) (fun c_15 => ?_)
                · skip
                  have c_15' : z_12.toInt = z_14.toInt := jb_eq (rfl) (rfl) c_15
                  obtain ⟨z_16, ez_16⟩ : ∃ y : Int32, y = v5_9 + 1 := ⟨_, rfl⟩
                  refine lv_iinc (v := z_16) (lv' := [(5, .int z_16), (0, .ref r0), (1, .int a1), (2, .ref r2), (3, .int a3), (4, .int a4)]) hx hb dX5_standsAt_55 hl (k := 5) rfl (by rw [ez_16]; rfl) (by decide) rfl (fun ls hl => ?_)
                  have hz_16 : z_16.toInt = v5_9.toInt + 1 := by rw [ez_16]; exact jb_iadd2 (rfl) (by decide) (by omega)
                  refine lv_goto (tgt := 31) hx hb dX5_standsAt_58 (by decide) ?_
                  exact L31 z_16 _ _ hh_9 (hfl_9) (by refine ⟨by omega, by omega, hi_9_2.step (by omega) (by omega)⟩) (by omega) _ (lv_sub hl [1, 2, 3, 4, 5, 0] rfl)
                · skip
                  have c_15' : z_12.toInt ≠ z_14.toInt := jb_eq_n (rfl) (rfl) c_15
                  refine lv_iconst (v := 0) hx hb dX5_standsAt_53 (by decide) ?_
                  rw [hQ]
                  exact W.zret (v := 0) hx hb hr (jb_nz (Or.inl rfl)) (fun t ht hW => ⟨⟨0, (), rfl, ⟨(Or.inl rfl), by refine ⟨fun h9 => absurd h9 (by omega), fun _ => ?_⟩; exact jSaB.no2 v5_9.toInt (by omega) (by omega) (by omega)⟩, ⟨hh_9.rt (M1 := []) [] rfl ht, by rw [ht]; exact hfl_9⟩⟩, by rw [ht]; try exact hh_9.1.1, fun q h9 hq => by rw [ht]; try exact hh_9.1.2.1 q h9 hq⟩) hh_9.1.2.2 dX5_standsAt_54
          exact L31 (((a4.toInt - (0 : Int32).toInt).toNat : Int) : Int).toNat.succ 0 _ _ hh (hfl) (by refine ⟨by omega, by omega, jSq.zero (by omega)⟩) (by omega) _ (lv_sub hl [1, 2, 3, 4, 5, 0] rfl)
        · skip
          have c_8' : z_6.toInt > z_7.toInt := jb_le_n (rfl) (rfl) c_8
          refine lv_iconst (v := 0) hx hb dX5_standsAt_26 (by decide) ?_
          rw [hQ]
          exact W.zret (v := 0) hx hb hr (jb_nz (Or.inl rfl)) (fun t ht hW => ⟨⟨0, (), rfl, ⟨(Or.inl rfl), by refine ⟨fun h9 => absurd h9 (by omega), fun _ => ?_⟩; exact jSaB.no1 (by omega)⟩, ⟨hh.rt (M1 := []) [] rfl ht, by rw [ht]; exact hfl⟩⟩, by rw [ht]; try exact hh.1.1, fun q h9 hq => by rw [ht]; try exact hh.1.2.1 q h9 hq⟩) hh.1.2.2 dX5_standsAt_27
set_option maxHeartbeats 4000000 in
set_option maxRecDepth 20000 in
theorem uX5_rewrite (l : Launch) (dC : Nat → ClassId) (dI : Nat → Nat → Nat) (ca : Nat → ClassId) (base : Nat) (B : jF) (hB : jBok B) (hAp : jAp (dC, dI)) (hB5 : ∀ n G a H, B 5 n G a H ↔ jOb (dC, dI) 5 4 (F5 n G) a H) (hB7 : ∀ n G a H, B 7 n G a H ↔ jOb (dC, dI) 7 11 (F7 n G) a H) (hB101 : ∀ n G a H, B 101 n G a H ↔ jAr (dC, dI) (ca 1) (fun j z => True) n a H) (hB211 : ∀ n G a H, B 211 n G a H ↔ jAq (dC, dI) (ca 7) (jQh) n G a H) (hB280 : ∀ n G a H, B 280 n G a H ↔ jAr (dC, dI) (ca 1) (fun j z => -1 ≤ z.toInt) n a H) (hB313 : ∀ n G a H, B 313 n G a H ↔ jAq (dC, dI) (ca 8) (jQk 280 80) n G a H) (G0 : jT) (H0 : Heap) (r0 : Nat) (r1 : Nat) (r2 : Nat) (n1 : Nat) (n2 : Nat) (pf : Int32) (fg : Nat → Int32) (LC LS : Nat) : Met l yX5_rewrite (jw yX5_rewrite cX5_rewrite 12 (some .int)) ({ frames := 3, cells := LC - H0.size, slots := LS - jTot H0, locals := 76 }) (va_Pc [.ref r0, .ref r1, .ref r2] (fun U => U.heap = H0 ∧ jX B base G0 [] H0 ∧ jG dC dI ca base U ∧ jK2 dC dI ca U ∧ jK5 dC dI ca U ∧ G0 r0 = some (7, 0) ∧ G0 r1 = some (5, n1) ∧ G0 r2 = some (280, n2) ∧ jP (dC, dI) G0 H0 [(r0, 7, 10, .int pf)] ∧ jMc (dC, dI) G0 H0 [(r2, 280, n2, ca 1, fg)] ∧ jIs (dC, dI) G0 H0 [(jFg, jFr dC dI ca G0 r0)] ∧ H0.size + 2 ≤ LC ∧ jTot H0 + 84 ≤ LS ∧ 0 ≤ pf.toInt ∧ pf.toInt ≤ 100 ∧ n1 % 10 = 1 ∧ n2 ≤ 80)) (va_Qi (S := Int32 × jT) (fun r u => (pf.toInt ≤ u.1.toInt ∧ u.1.toInt ≤ pf.toInt + 1)) (fun u t => jRa (dC, dI) B base G0 u.2 EX5_rewrite H0 (2) (84) [(r0, 7, 10, .int u.1)] t.heap ∧ (jNk [0, 1, 2, 3, 4, 6, 7, 8, 9, 10, 11, 12, 13, 14, 15, 16, 17, 175]) G0 u.2 ∧ jIs (dC, dI) u.2 t.heap [(jFg, jFr dC dI ca u.2 r0)]) (jA base)) (LC - H0.size) (LS - jTot H0) (jA base) := by
  refine Met.ofW (cc := cX5_rewrite) (maxL := 12) (ret := (some .int)) (by decide) rfl ?_
  intro p e s m args below meth c s₁ Bd hml hv
  obtain ⟨rfl, hH0, hX, hG, hK2, hK5, hg_r0, hg_r1, hg_r2, hP0, hM0, hI0, hLC0, hLS0, hp0, hp1, hp2, hp3⟩ := hv
  have hK := hG.1
  have hx := Bd.exec
  have hb := Bd.bytes
  have hr := Bd.returns
  have hts := atoms_spec (ws := (jw yX5_rewrite cX5_rewrite 12 (some .int))) Bd.pre
  have htw : ∀ w ∈ jWl, w.before _ s = true := fun w h => hts w (List.mem_cons_of_mem _ h)
  have hown : s.vm.findClass RX5 = some m.cls := findClass_of_methodNamed Bd.named
  have hlocks := Bd.notSynchronized
  obtain ⟨Q, hQ⟩ : ∃ Q, Q = MQ below (va_Qi (S := Int32 × jT) (fun r u => (pf.toInt ≤ u.1.toInt ∧ u.1.toInt ≤ pf.toInt + 1)) (fun u t => jRa (dC, dI) B base G0 u.2 EX5_rewrite H0 (2) (84) [(r0, 7, 10, .int u.1)] t.heap ∧ (jNk [0, 1, 2, 3, 4, 6, 7, 8, 9, 10, 11, 12, 13, 14, 15, 16, 17, 175]) G0 u.2 ∧ jIs (dC, dI) u.2 t.heap [(jFg, jFr dC dI ca u.2 r0)]) (jA base)) ([.ref r0, .ref r1, .ref r2] : List Value).toArray s (LC - H0.size) (LS - jTot H0) (jA base) := ⟨_, rfl⟩
  rw [← hQ]
  have hl := lv_entry ([.ref r0, .ref r1, .ref r2]) (n := 12) (Nat.le_of_ble_eq_true rfl)
  rw [lg_entry_eq]
  generalize (lg_sl ([.ref r0, .ref r1, .ref r2]) ++ List.replicate (12 - (lg_sl ([.ref r0, .ref r1, .ref r2])).length) Slot.unset).toArray = ls at hl ⊢
  have hl : lv_has ls 12 [(0, .ref r0), (1, .ref r1), (2, .ref r2)] := hl
  generalize hR : (headSpec (jw yX5_rewrite cX5_rewrite 12 (some .int)) ({ frames := 3, cells := LC - H0.size, slots := LS - jTot H0, locals := 76 })).room = R
  subst hH0
  have hh : jSt (dC, dI) B base G0 G0 EX5_rewrite s.heap 0 0 [(r0, 7, 10, .int pf)] [(r2, 280, n2, ca 1, fg)] [(jFg, jFr dC dI ca G0 r0)] s.heap [] := jSt.start hX hP0 hM0 hI0
  clear hX hP0
  have hk0 : (0 : Int32).toInt = 0 := by decide
  have hk1 : (1 : Int32).toInt = 1 := by decide
  have hk4 : (4 : Int32).toInt = 4 := by decide
  have hk8 : (8 : Int32).toInt = 8 := by decide
  have hk9 : (9 : Int32).toInt = 9 := by decide
  have hk15 : (15 : Int32).toInt = 15 := by decide
  have hk80 : (80 : Int32).toInt = 80 := by decide
  have hly_5_3 := htw (u_lay RX3 TX3 3) (jWc_wsX30 _ (u_in_lay (by decide)))
  have hlk_190 := (htw (.fieldLink RX5 190 "ProofServer$Goal" "formula" "[I") (jWr_84 _ (List.mem_of_getElem? (i := 15) rfl)))
  have hbs : base ≤ s.heap.size := Nat.le_of_lt (Nat.lt_of_le_of_lt (hh.ab hg_r0).1 (hh.ab hg_r0).2)
  have hRc : R.cells = LC - s.heap.size := by rw [← hR]; rfl
  have hRs : R.slots = LS - jTot s.heap := by rw [← hR]; rfl
  refine lv_aload_n hx hb dX5_rewrite_0 rfl (lv_at hl 2 rfl) ?_
  refine j7_len hx hb hK hh hB280 1 rfl (by decide) hg_r2 (by omega) dX5_rewrite_1 (fun z_1 hz_1 => ?_)
  refine lv_if_eq (tgt := 15) hx hb dX5_rewrite_2 (by decide) (fun c_2 => ?_) (fun c_2 => ?_)
  · skip
    have c_2' : z_1.toInt = 0 := jb_eq (rfl) ((by decide)) c_2
    refine lv_bipush (v := 8) hx hb dX5_rewrite_15 (by decide) ?_
    have hsz_3 := hh.2.2.2.2.2.1
    have htt_3 := hh.2.2.2.2.2.2.1
    refine W.room (fun hrc_3 hrs_3 => ?_)
    refine W.widen (k := LC - s.heap.size) (n := LS - jTot s.heap) (by omega) (by omega) ?_
    rw [hQ]
    exact W.iret (v := 8) hx hb hr (fun t ht hW => ⟨⟨8, (pf, G0), rfl, by (try dsimp only); exact ⟨(by first | omega | rfl | assumption | fail), (by first | omega | rfl | assumption | fail)⟩, ⟨hh.ra (by first | omega | (simp only; omega)) (by first | omega | (simp only; omega)) (M1 := [(r0, 7, 10, .int pf)]) [0] rfl ht, jNk.rf, by rw [ht]; exact hh.2.2.2.2.2.2.2.2.sub (L1 := [(jFg, jFr dC dI ca G0 r0)]) [0] rfl⟩⟩, by rw [ht]; try exact hh.1.1, fun q h9 hq => by rw [ht]; try exact hh.1.2.1 q h9 hq⟩) hh.1.2.2 dX5_rewrite_17
  · skip
    have c_2' : z_1.toInt ≠ 0 := jb_eq_n (rfl) ((by decide)) c_2
    refine lv_aload_n hx hb dX5_rewrite_5 rfl (lv_at hl 2 rfl) ?_
    refine lv_iconst (v := 0) hx hb dX5_rewrite_6 (by decide) ?_
    refine j7_ialdM hx hb hK hh hB280 1 rfl (by decide) hg_r2 (x := 0) ((by decide)) (by omega) (j := 0) rfl dX5_rewrite_7 (fun z_4 ez_4 (hz_4 : -1 ≤ z_4.toInt) => ?_)
    have hqz_4 : z_4.toInt = jSo fg (0) := by unfold jSo; rw [ez_4]
    refine lv_bipush (v := 15) hx hb dX5_rewrite_8 (by decide) ?_
    refine lv_iand hx hb dX5_rewrite_10 ?_
    refine lv_topi (fun z_5 ez_5 => ?_)
    have hz_5 : 0 ≤ z_5.toInt ∧ z_5.toInt ≤ 15 := by rw [ez_5]; exact jb_and z_4 (m := 15) (k := 4) (by decide) (by decide)
    have hbz_5 : z_5.toInt = z_4.toInt % 16 := by rw [ez_5, jb_and15]
    refine lv_iconst (v := 4) hx hb dX5_rewrite_11 (by decide) ?_
    refine lv_icmp_eq (tgt := 18) hx hb dX5_rewrite_12 (by decide) (fun c_6 => ?_) (fun c_6 => ?_)
    · skip
      have c_6' : z_5.toInt = 4 := jb_eq (rfl) ((by decide)) c_6
      refine lv_aload_n hx hb dX5_rewrite_18 rfl (lv_at hl 1 rfl) ?_
      obtain ⟨v_7, hv_7, hh_8⟩ := hh.pin (C := RX3) (T := TX3) (N := 4) hB5 rfl (by decide) hg_r1 (i := 3) (by decide) rfl
      clear hh
      rcases hv_7 with ⟨rfl, hcv_7⟩ | ⟨formula_9, nformula_9, rfl, hg_formula_9, hn_formula_9, hcv_7, hdv_7⟩
      · exact absurd hcv_7 (by omega)
      refine j7_read hx hb hown hK (C := RX3) (T := TX3) (N := 4) rfl hly_5_3 hlk_190 (hh_8.at 0 rfl) dX5_rewrite_19 ?_
      refine lv_astore_n (lv' := [(3, .ref formula_9), (0, .ref r0), (1, .ref r1), (2, .ref r2)]) hx hb dX5_rewrite_22 rfl hl (by decide) rfl (fun ls hl => ?_)
      obtain ⟨f_l3_10, hh_10⟩ := hh_8.cpin hB280 (by decide) (by decide) hg_formula_9
      clear hh_8
      refine lv_aload_n hx hb dX5_rewrite_23 rfl (lv_at hl 3 rfl) ?_
      refine lv_iconst (v := 1) hx hb dX5_rewrite_24 (by decide) ?_
      refine lv_aload_n hx hb dX5_rewrite_25 rfl (lv_at hl 3 rfl) ?_
      refine j7_len hx hb hK hh_10 hB280 1 rfl (by decide) hg_r2 (by omega) dX5_rewrite_26 (fun z_11 hz_11 => ?_)
      have hsz_12 := hh_10.2.2.2.2.2.1
      have htt_12 := hh_10.2.2.2.2.2.2.1
      refine W.room (fun hrc_12 hrs_12 => ?_)
      refine va_calli (A0 := jA base) (H0 := s.heap) (va_runSN (As := [.ref r2, .int 1, .int z_11]) (rest := []) ⟨hx, hb, hml, hown, hts⟩ (uX11_endOfB l dC dI ca base B hB hAp hB280 G0 s.heap r2 1 z_11 n2) ⟨va_cnB 3 hts (jgW (jWr_32 _ (List.mem_of_getElem? (i := 4) rfl))) rfl rfl rfl (hG.2.2.1 RX5 183 yX11_endOf "ProofServer" (List.mem_of_getElem? (i := 1460) (by decide +kernel))) (htw (.initialized RX11) (jWr_1 _ (List.mem_of_getElem? (i := 2) rfl))) (by decide +kernel) ⟨by rw [← hR]; exact Nat.le_of_ble_eq_true rfl, by rw [← hR]; exact Nat.le_of_ble_eq_true rfl⟩, htw (.static yX11_endOf) (jWr_32 _ (List.mem_of_getElem? (i := 3) rfl)), trivial⟩ ⟨fun a U g mk q => by obtain ⟨q0, q1, q2, qK, q10, q11, q12⟩ := q; exact ⟨q0, q1, q2, jG.calling g mk a qK, q10, q11, q12⟩, fun U hU hW => ⟨rfl, hU, hh_10.2.1, hG.step hW hU hh_10.1, hg_r2, jP.nil, by first | omega | (refine ⟨?_, ?_, ?_⟩ <;> (first | omega | rfl | assumption | decide | exact Or.inl rfl | exact Or.inr rfl | (simp only; omega)))⟩⟩ rfl rfl hl.1 rfl (lv_room (Nat.le_of_ble_eq_true rfl)) dX5_rewrite_27 ⟨by rw [hRc]; show _ + 0 ≤ _; omega, by rw [hRs]; show _ + 0 ≤ _; omega⟩) hh_10.1 (fun q _ h => h) (fun q h => h) (fun r_13 u_12 t_12 H_12 locs_12 ht_12 hvm_12 hr_13 hb_12 hz_12 hk_12 hS_12 => ?_)
      rw [ht_12] at hb_12
      obtain ⟨hb_121, hb_122, hb_123, hb_124, hb_125⟩ := hb_12
      have hh_12 : jSt (dC, dI) B base G0 G0 EX5_rewrite s.heap 0 0 [(r1, 5, 3, .ref formula_9), (r0, 7, 10, .int pf)] [(formula_9, 280, nformula_9, ca 1, f_l3_10), (r2, 280, n2, ca 1, fg)] [(jFg, jFr dC dI ca G0 r0)] H_12 locs_12 := ((hh_10.call hb_121 hb_122 hb_123 hb_124 hS_12 rfl (L1 := [(r1, 5, 3, .ref formula_9), (r0, 7, 10, .int pf)]) [0, 1] rfl rfl (M1 := [(formula_9, 280, nformula_9, ca 1, f_l3_10), (r2, 280, n2, ca 1, fg)]) [0, 1] rfl rfl (I1 := [(jFg, jFr dC dI ca G0 r0)]) [0] rfl rfl).more hb_125)
      clear hh_10 ht_12 hvm_12 hz_12 hk_12 hS_12 hb_121 hb_122 hb_123 hb_124 hb_125
      obtain ⟨hr_13_0, hr_13_1⟩ := hr_13
      refine lv_istore (lv' := [(4, .int r_13), (3, .ref formula_9), (0, .ref r0), (1, .ref r1), (2, .ref r2)]) hx hb dX5_rewrite_30 hl (by decide) rfl (fun ls hl => ?_)
      refine lv_iload hx hb dX5_rewrite_32 (lv_at hl 0 rfl) ?_
      refine lv_iconst (v := 1) hx hb dX5_rewrite_34 (by decide) ?_
      refine lv_isub hx hb dX5_rewrite_35 ?_
      refine lv_topi (fun z_14 ez_14 => ?_)
      have hz_14 : z_14.toInt = r_13.toInt - 1 := by rw [ez_14]; exact jb_isub2 (rfl) ((by decide)) (by omega)
      refine lv_iconst (v := 1) hx hb dX5_rewrite_36 (by decide) ?_
      have hsz_15 := hh_12.2.2.2.2.2.1
      have htt_15 := hh_12.2.2.2.2.2.2.1
      refine W.room (fun hrc_15 hrs_15 => ?_)
      refine va_mmax hx hb (by rw [hml]; exact hl.1.symm) hown (htw (.methodLink RX5 273 Lib.Math.max.name) (jWr_88 _ (List.mem_of_getElem? (i := 15) rfl))) (htw (.static Lib.Math.max.name) (jWr_3 _ (List.mem_of_getElem? (i := 6) rfl))) (htw (.initialized "java/lang/Math") (jWr_3 _ (List.mem_of_getElem? (i := 7) rfl))) (htw (.code Lib.Math.max.name Lib.Math.max.code 2 (some .int)) (jWr_3 _ (List.mem_of_getElem? (i := 8) rfl))) (by rw [← hR]; exact Nat.le_of_ble_eq_true rfl) (by rw [← hR]; exact Nat.le_of_ble_eq_true rfl) (by rw [hRc]; omega) (by rw [hRs]; omega) dX5_rewrite_37 ?_
      refine lv_topi (fun z_16 ez_16 => ?_)
      have hz_16 := jb_max ez_16
      refine lv_istore (lv' := [(5, .int z_16), (4, .int r_13), (3, .ref formula_9), (0, .ref r0), (1, .ref r1), (2, .ref r2)]) hx hb dX5_rewrite_40 hl (by decide) rfl (fun ls hl => ?_)
      refine lv_aload_n hx hb dX5_rewrite_42 rfl (lv_at hl 5 rfl) ?_
      refine j7_len hx hb hK hh_12 hB280 1 rfl (by decide) hg_r2 (by omega) dX5_rewrite_43 (fun z_17 hz_17 => ?_)
      refine lv_iload hx hb dX5_rewrite_44 (lv_at hl 1 rfl) ?_
      refine lv_isub hx hb dX5_rewrite_46 ?_
      refine lv_topi (fun z_18 ez_18 => ?_)
      have hz_18 : z_18.toInt = z_17.toInt - r_13.toInt := by rw [ez_18]; exact jb_isub2 (rfl) (rfl) (by omega)
      refine lv_istore (lv' := [(6, .int z_18), (5, .int z_16), (4, .int r_13), (3, .ref formula_9), (0, .ref r0), (1, .ref r1), (2, .ref r2)]) hx hb dX5_rewrite_47 hl (by decide) rfl (fun ls hl => ?_)
      have hbd0 : 0 ≤ z_18.toInt ∧ z_18.toInt ≤ 80 ∧ 1 ≤ z_16.toInt ∧ z_16.toInt ≤ 80 ∧ 1 ≤ r_13.toInt ∧ r_13.toInt ≤ 80 ∧ r_13.toInt + z_18.toInt = n2 := by omega
      refine lv_iconst (v := 0) hx hb dX5_rewrite_49 (by decide) ?_
      refine lv_istore (lv' := [(7, .int 0), (6, .int z_18), (5, .int z_16), (4, .int r_13), (3, .ref formula_9), (0, .ref r0), (1, .ref r1), (2, .ref r2)]) hx hb dX5_rewrite_50 hl (by decide) rfl (fun ls hl => ?_)
      refine lv_iconst (v := 0) hx hb dX5_rewrite_52 (by decide) ?_
      refine lv_istore (lv' := [(8, .int 0), (7, .int 0), (6, .int z_18), (5, .int z_16), (4, .int r_13), (3, .ref formula_9), (0, .ref r0), (1, .ref r1), (2, .ref r2)]) hx hb dX5_rewrite_53 hl (by decide) rfl (fun ls hl => ?_)
      have L55 : ∀ (N : Nat) (v7_19 : Int32) (v8_19 : Int32) (H_19 : Heap) (locs_19 : List Loc), jSt (dC, dI) B base G0 G0 EX5_rewrite s.heap 0 0 [(r1, 5, 3, .ref formula_9), (r0, 7, 10, .int pf)] [(formula_9, 280, nformula_9, ca 1, f_l3_10), (r2, 280, n2, ca 1, fg)] [(jFg, jFr dC dI ca G0 r0)] H_19 locs_19 → (0 ≤ v8_19.toInt ∧ jR1 f_l3_10 nformula_9 fg n2 z_16.toInt v8_19.toInt v7_19.toInt) → (((nformula_9 - v8_19.toInt).toNat : Int) : Int) < N → ∀ ls : Array Slot, lv_has ls 12 [(0, .ref r0), (1, .ref r1), (2, .ref r2), (3, .ref formula_9), (4, .int r_13), (5, .int z_16), (6, .int z_18), (7, .int v7_19), (8, .int v8_19)] → W p l e R s m ([.ref r0, .ref r1, .ref r2] : List Value).toArray below meth c H_19 locs_19 0 0 Q (F0 m 55 ls []) := by
        intro N
        induction N with
        | zero => intro v7_19 v8_19 H_19 locs_19 hh_19  hi_19 hm; exact absurd hm (by omega)
        | succ N L55 =>
          intro v7_19 v8_19 H_19 locs_19 hh_19  hi_19 hm_19 ls hl
          obtain ⟨hi_19_0, hi_19_1⟩ := hi_19
          try clear hr_13_1
          refine lv_iload hx hb dX5_rewrite_55 (lv_at hl 8 rfl) ?_
          have hbd1 := hi_19_1.bd
          refine lv_aload_n hx hb dX5_rewrite_57 rfl (lv_at hl 3 rfl) ?_
          refine j7_len hx hb hK hh_19 hB280 1 rfl (by decide) hg_formula_9 (by omega) dX5_rewrite_58 (fun z_20 hz_20 => ?_)
          refine lv_icmp_ge (tgt := 93) hx hb dX5_rewrite_59 (by decide) (fun c_21 => ?_) (fun c_21 => ?_)
          · skip
            have c_21' : v8_19.toInt ≥ z_20.toInt := jb_ge (rfl) (rfl) c_21
            refine lv_aload_n hx hb dX5_rewrite_93 rfl (lv_at hl 3 rfl) ?_
            refine j7_len hx hb hK hh_19 hB280 1 rfl (by decide) hg_formula_9 (by omega) dX5_rewrite_94 (fun z_22 hz_22 => ?_)
            refine lv_iload hx hb dX5_rewrite_95 (lv_at hl 7 rfl) ?_
            refine lv_iload hx hb dX5_rewrite_97 (lv_at hl 6 rfl) ?_
            refine lv_iload hx hb dX5_rewrite_99 (lv_at hl 5 rfl) ?_
            refine lv_isub hx hb dX5_rewrite_101 ?_
            refine lv_topi (fun z_23 ez_23 => ?_)
            have hz_23 : z_23.toInt = z_18.toInt - z_16.toInt := by rw [ez_23]; exact jb_isub2 (rfl) (rfl) (by omega)
            refine lv_imul hx hb dX5_rewrite_102 ?_
            refine lv_topi (fun z_24 ez_24 => ?_)
            have hmz_24 := jMulB (a := v7_19.toInt) (b := z_23.toInt) (by have := hi_19_1.bd; omega) (by omega)
            have hz_24 : z_24.toInt = v7_19.toInt * z_23.toInt := by rw [ez_24]; exact jb_imul2 (rfl) (rfl) (by omega)
            refine lv_iadd hx hb dX5_rewrite_103 ?_
            refine lv_topi (fun z_25 ez_25 => ?_)
            have hz_25 : z_25.toInt = z_22.toInt + z_24.toInt := by rw [ez_25]; exact jb_iadd2 (rfl) (rfl) (by omega)
            refine lv_istore (lv' := [(8, .int z_25), (0, .ref r0), (1, .ref r1), (2, .ref r2), (3, .ref formula_9), (4, .int r_13), (5, .int z_16), (6, .int z_18), (7, .int v7_19)]) hx hb dX5_rewrite_104 hl (by decide) rfl (fun ls hl => ?_)
            have hrz := hi_19_1.size (b := z_18.toInt) (y := z_22.toInt) (d := z_23.toInt) (by omega) (by omega) (by omega)
            refine lv_iload hx hb dX5_rewrite_106 (lv_at hl 8 rfl) ?_
            refine lv_if_eq (tgt := 124) hx hb dX5_rewrite_108 (by decide) (fun c_26 => ?_) (fun c_26 => ?_)
            · skip
              have c_26' : v7_19.toInt = 0 := jb_eq (rfl) ((by decide)) c_26
              refine lv_iload hx hb dX5_rewrite_124 (lv_at hl 8 rfl) ?_
              refine lv_if_ne (tgt := 134) hx hb dX5_rewrite_126 (by decide) (fun c_27 => ?_) (fun c_27 => ?_)
              · skip
                have c_27' : v7_19.toInt ≠ 0 := jb_ne (rfl) ((by decide)) c_27
                exact (by omega : False).elim
              · skip
                have c_27' : v7_19.toInt = 0 := jb_ne_n (rfl) ((by decide)) c_27
                refine lv_bipush (v := 8) hx hb dX5_rewrite_129 (by decide) ?_
                refine lv_goto (tgt := 136) hx hb dX5_rewrite_131 (by decide) ?_
                have hsz_28 := hh_19.2.2.2.2.2.1
                have htt_28 := hh_19.2.2.2.2.2.2.1
                refine W.room (fun hrc_28 hrs_28 => ?_)
                refine W.widen (k := LC - s.heap.size) (n := LS - jTot s.heap) (by omega) (by omega) ?_
                rw [hQ]
                exact W.iret (v := 8) hx hb hr (fun t ht hW => ⟨⟨8, (pf, G0), rfl, by (try dsimp only); exact ⟨(by first | omega | rfl | assumption | fail), (by first | omega | rfl | assumption | fail)⟩, ⟨hh_19.ra (by first | omega | (simp only; omega)) (by first | omega | (simp only; omega)) (M1 := [(r0, 7, 10, .int pf)]) [1] rfl ht, jNk.rf, by rw [ht]; exact hh_19.2.2.2.2.2.2.2.2.sub (L1 := [(jFg, jFr dC dI ca G0 r0)]) [0] rfl⟩⟩, by rw [ht]; try exact hh_19.1.1, fun q h9 hq => by rw [ht]; try exact hh_19.1.2.1 q h9 hq⟩) hh_19.1.2.2 dX5_rewrite_136
            · skip
              have c_26' : v7_19.toInt ≠ 0 := jb_eq_n (rfl) ((by decide)) c_26
              refine lv_iload hx hb dX5_rewrite_111 (lv_at hl 0 rfl) ?_
              refine lv_bipush (v := 80) hx hb dX5_rewrite_113 (by decide) ?_
              refine lv_icmp_gt (tgt := 124) hx hb dX5_rewrite_115 (by decide) (fun c_29 => ?_) (fun c_29 => ?_)
              · skip
                have c_29' : z_25.toInt > 80 := jb_gt (rfl) ((by decide)) c_29
                refine lv_iload hx hb dX5_rewrite_124 (lv_at hl 8 rfl) ?_
                refine lv_if_ne (tgt := 134) hx hb dX5_rewrite_126 (by decide) (fun c_30 => ?_) (fun c_30 => ?_)
                · skip
                  have c_30' : v7_19.toInt ≠ 0 := jb_ne (rfl) ((by decide)) c_30
                  refine lv_bipush (v := 9) hx hb dX5_rewrite_134 (by decide) ?_
                  have hsz_31 := hh_19.2.2.2.2.2.1
                  have htt_31 := hh_19.2.2.2.2.2.2.1
                  refine W.room (fun hrc_31 hrs_31 => ?_)
                  refine W.widen (k := LC - s.heap.size) (n := LS - jTot s.heap) (by omega) (by omega) ?_
                  rw [hQ]
                  exact W.iret (v := 9) hx hb hr (fun t ht hW => ⟨⟨9, (pf, G0), rfl, by (try dsimp only); exact ⟨(by first | omega | rfl | assumption | fail), (by first | omega | rfl | assumption | fail)⟩, ⟨hh_19.ra (by first | omega | (simp only; omega)) (by first | omega | (simp only; omega)) (M1 := [(r0, 7, 10, .int pf)]) [1] rfl ht, jNk.rf, by rw [ht]; exact hh_19.2.2.2.2.2.2.2.2.sub (L1 := [(jFg, jFr dC dI ca G0 r0)]) [0] rfl⟩⟩, by rw [ht]; try exact hh_19.1.1, fun q h9 hq => by rw [ht]; try exact hh_19.1.2.1 q h9 hq⟩) hh_19.1.2.2 dX5_rewrite_136
                · skip
                  have c_30' : v7_19.toInt = 0 := jb_ne_n (rfl) ((by decide)) c_30
                  exact (by omega : False).elim
              · skip
                have c_29' : z_25.toInt ≤ 80 := jb_gt_n (rfl) ((by decide)) c_29
                refine lv_iload hx hb dX5_rewrite_118 (lv_at hl 0 rfl) ?_
                refine lv_iconst (v := 1) hx hb dX5_rewrite_120 (by decide) ?_
                refine lv_icmp_ge (tgt := 137) hx hb dX5_rewrite_121 (by decide) (fun c_32 => ?_) (fun c_32 => ?_)
                · skip
                  have c_32' : z_25.toInt ≥ 1 := jb_ge (rfl) ((by decide)) c_32
                  refine lv_iload hx hb dX5_rewrite_137 (lv_at hl 0 rfl) ?_
                  have hsz_33 := hh_19.2.2.2.2.2.1
                  have htt_33 := hh_19.2.2.2.2.2.2.1
                  have hsy_33 : s.heap.size ≤ H_19.size := hh_19.1.1
                  refine j7_newiR hx hb hK hh_19 hB (atype := .int) (ty := .int) (htw (.arrayClass .int) (jWr_3 _ (List.mem_of_getElem? (i := 20) rfl))) rfl rfl (fun _ h => h) 1 rfl (by decide) (x := z_25.toInt) rfl (by omega) (by rw [hRc]; omega) (by rw [hRs]; omega) dX5_rewrite_139 (fun H_33 hfr_33 hnr_33 hraw_33 hh_33 => ?_)
                  have hke_33 : jKe G0 G0 H_19 H_33 := jKe.raw hfr_33
                  have hbr_33 : base ≤ H_19.size := Nat.le_trans hbs hsy_33
                  obtain ⟨nq_33, hnq_33⟩ : ∃ q : Nat, q = (z_25.toInt).toNat := ⟨_, rfl⟩
                  rw [← hnq_33] at hraw_33 hh_33 ⊢
                  clear hh_19
                  refine lv_astore (lv' := [(9, .ref H_19.size), (8, .int z_25), (0, .ref r0), (1, .ref r1), (2, .ref r2), (3, .ref formula_9), (4, .int r_13), (5, .int z_16), (6, .int z_18), (7, .int v7_19)]) hx hb dX5_rewrite_141 hl (by decide) rfl (fun ls hl => ?_)
                  refine lv_iconst (v := 0) hx hb dX5_rewrite_143 (by decide) ?_
                  refine lv_istore (lv' := [(10, .int 0), (9, .ref H_19.size), (8, .int z_25), (0, .ref r0), (1, .ref r1), (2, .ref r2), (3, .ref formula_9), (4, .int r_13), (5, .int z_16), (6, .int z_18), (7, .int v7_19)]) hx hb dX5_rewrite_144 hl (by decide) rfl (fun ls hl => ?_)
                  refine lv_iconst (v := 0) hx hb dX5_rewrite_146 (by decide) ?_
                  refine lv_istore (lv' := [(11, .int 0), (10, .int 0), (9, .ref H_19.size), (8, .int z_25), (0, .ref r0), (1, .ref r1), (2, .ref r2), (3, .ref formula_9), (4, .int r_13), (5, .int z_16), (6, .int z_18), (7, .int v7_19)]) hx hb dX5_rewrite_147 hl (by decide) rfl (fun ls hl => ?_)
                  have L149 : ∀ (N : Nat) (fq_34 : Nat → Int32) (v10_34 : Int32) (v11_34 : Int32) (H_34 : Heap) (locs_34 : List Loc), jSt (dC, dI) B base G0 G0 EX5_rewrite s.heap (0 + 1) (0 + nq_33) [(r1, 5, 3, .ref formula_9), (r0, 7, 10, .int pf)] [(formula_9, 280, nformula_9, ca 1, f_l3_10), (r2, 280, n2, ca 1, fg)] [(jFg, jFr dC dI ca G0 r0)] H_34 locs_34 → va_at (dC, dI) vwCl (H_19.size, .inl (ca 1, nq_33, .inl fq_34)) H_34 → (0 ≤ v10_34.toInt ∧ jR2 f_l3_10 nformula_9 fg n2 z_16.toInt z_18.toInt v11_34.toInt v10_34.toInt ∧ jFp fq_34) → (((nformula_9 - v11_34.toInt).toNat : Int) : Int) < N → ∀ ls : Array Slot, lv_has ls 12 [(0, .ref r0), (1, .ref r1), (2, .ref r2), (3, .ref formula_9), (4, .int r_13), (5, .int z_16), (6, .int z_18), (7, .int v7_19), (8, .int z_25), (9, .ref H_19.size), (10, .int v10_34), (11, .int v11_34)] → W p l e R s m ([.ref r0, .ref r1, .ref r2] : List Value).toArray below meth c H_34 locs_34 (0 + 1) (0 + nq_33) Q (F0 m 149 ls []) := by
                    intro N
                    induction N with
                    | zero => intro fq_34 v10_34 v11_34 H_34 locs_34 hh_34 hraw_34 hi_34 hm; exact absurd hm (by omega)
                    | succ N L149 =>
                      intro fq_34 v10_34 v11_34 H_34 locs_34 hh_34 hraw_34 hi_34 hm_34 ls hl
                      obtain ⟨hi_34_0, hi_34_1, hi_34_2⟩ := hi_34
                      refine lv_iload hx hb dX5_rewrite_149 (lv_at hl 11 rfl) ?_
                      have hbd2 := hi_34_1.bd
                      refine lv_aload_n hx hb dX5_rewrite_151 rfl (lv_at hl 3 rfl) ?_
                      refine j7_len hx hb hK hh_34 hB280 1 rfl (by decide) hg_formula_9 (by omega) dX5_rewrite_152 (fun z_35 hz_35 => ?_)
                      refine lv_icmp_ge (tgt := 225) hx hb dX5_rewrite_153 (by decide) (fun c_36 => ?_) (fun c_36 => ?_)
                      · skip
                        have c_36' : v11_34.toInt ≥ z_35.toInt := jb_ge (rfl) (rfl) c_36
                        have hle_37 : jLe G0 (va_up G0 H_19.size (some (280, nq_33))) := jLe.typ hnr_33
                        have hh_37 := hh_34.typ (k := 280) (n := nq_33) hB hnr_33 hbr_33 hraw_34.lt (jAr.of hB280 hraw_34 (fun j _ => hi_34_2 j))
                        have hgn_37 : (va_up G0 H_19.size (some (280, nq_33))) H_19.size = some (280, nq_33) := jUp_self
                        have hN_37 : (jNk [0, 1, 2, 3, 4, 6, 7, 8, 9, 10, 11, 12, 13, 14, 15, 16, 17, 175]) G0 (va_up G0 H_19.size (some (280, nq_33))) := jNk.new (by decide)
                        have hNn_37 : (jNk [0, 1, 2, 3, 4, 6, 7, 8, 9, 10, 11, 12, 13, 14, 15, 16, 17, 175]) G0 (va_up G0 H_19.size (some (280, nq_33))) := (jNk.rf).tr hN_37
                        generalize (va_up G0 H_19.size (some (280, nq_33))) = G_37 at hN_37 hNn_37 hgn_37 hle_37 hh_37
                        have hg_38 := hle_37 _ _ hg_r0
                        have hg_39 := hle_37 _ _ hg_r1
                        have hg_40 := hle_37 _ _ hg_r2
                        have hg_41 := hle_37 _ _ hg_formula_9
                        have hd_42 := jFr.grow (hh_37.iv 0 rfl) hle_37
                        have hh_43 := hh_37.sub (L1 := [(r1, 5, 3, .ref formula_9), (r0, 7, 10, .int pf)]) [0, 1] rfl (M1 := [(formula_9, 280, nformula_9, ca 1, f_l3_10), (r2, 280, n2, ca 1, fg)]) [0, 1] rfl (I1 := []) [] rfl
                        clear hh_37
                        have hh_44 := hh_43.addI (jFr.ie hd_42)
                        clear hh_43
                        refine lv_aload_n hx hb dX5_rewrite_225 rfl (lv_at hl 0 rfl) ?_
                        refine lv_aload_n hx hb dX5_rewrite_226 rfl (lv_at hl 1 rfl) ?_
                        refine lv_aload hx hb dX5_rewrite_227 (lv_at hl 9 rfl) ?_
                        have hsz_45 := hh_44.2.2.2.2.2.1
                        have htt_45 := hh_44.2.2.2.2.2.2.1
                        refine W.room (fun hrc_45 hrs_45 => ?_)
                        refine j_callx (A0 := jA base) (H0 := s.heap) (va_runV (As := [.ref H_19.size]) (rest := [.ref r0]) ⟨hx, hb, hml, hown, hts⟩ (uX3_withFormula l dC dI ca base B hB hAp hB5 hB101 hB280 hB313 G_37 H_34 r1 H_19.size n1 nq_33 LC LS) (cwV 1 hts (jgV (jWr_87 _ (List.mem_of_getElem? (i := 10) rfl)) (jWr_87 _ (List.mem_of_getElem? (i := 11) rfl)) (jWr_87 _ (List.mem_of_getElem? (i := 12) rfl)) (jWr_82 _ (List.mem_of_getElem? (i := 10) rfl)) (jWr_87 _ (List.mem_of_getElem? (i := 13) rfl))) rfl rfl rfl (by decide +kernel) ⟨by rw [← hR]; exact Nat.le_of_ble_eq_true rfl, by rw [← hR]; exact Nat.le_of_ble_eq_true rfl⟩) ⟨fun a U g mk q => by obtain ⟨q0, q1, q2, qK, q10, q11, q12, q13⟩ := q; exact ⟨q0, q1, q2, jG.calling g mk a qK, q10, q11, q12, q13⟩, hh_44.recv (C := RX3) (T := TX3) (N := 4) hB5 rfl (by decide) hg_39 hK, fun U hU hW => ⟨rfl, hU, hh_44.2.1, hG.step hW hU hh_44.1, hg_39, hgn_37, jP.nil, by first | omega | (refine ⟨?_, ?_⟩ <;> (first | omega | rfl | assumption | decide | exact Or.inl rfl | exact Or.inr rfl | (simp only; omega)))⟩⟩ rfl rfl hl.1 rfl (lv_room (Nat.le_of_ble_eq_true rfl)) dX5_rewrite_229 ⟨by rw [hRc]; omega, by rw [hRs]; omega⟩) hh_44.1 (fun q _ h => h) (fun q h => h) (fun r_46 u_45 t_45 H_45 locs_45 ht_45 hvm_45 hr_46 hb_45 hz_45 hk_45 hS_45 => ?_)
                        rw [ht_45] at hb_45
                        obtain ⟨m_ret_45, G_45⟩ := u_45
                        simp only at hb_45
                        obtain ⟨⟨hb_451, hb_452, hb_453, hb_454, hb_455, hb_456⟩, hN_45⟩ := hb_45
                        have hh_45 : jSt (dC, dI) B base G0 G_45 EX5_rewrite s.heap ((0 + 1) + (1)) ((0 + nq_33) + (4)) [(r1, 5, 3, .ref formula_9), (r0, 7, 10, .int pf)] [(formula_9, 280, nformula_9, ca 1, f_l3_10), (r2, 280, n2, ca 1, fg)] [(jFg, jFr dC dI ca G_37 r0)] H_45 locs_45 := (hh_44.callG hb_451 hb_452 hb_453 hb_454 hb_455 hS_45 rfl (L1 := [(r1, 5, 3, .ref formula_9), (r0, 7, 10, .int pf)]) [0, 1] rfl rfl (M1 := [(formula_9, 280, nformula_9, ca 1, f_l3_10), (r2, 280, n2, ca 1, fg)]) [0, 1] rfl rfl (I1 := [(jFg, jFr dC dI ca G_37 r0)]) [0] rfl rfl).more hb_456
                        have hNn_45 : (jNk [0, 1, 2, 3, 4, 6, 7, 8, 9, 10, 11, 12, 13, 14, 15, 16, 17, 175]) G0 G_45 := (hNn_37).tr hN_45
                        have hg_47 := hb_452 _ _ hg_38
                        have hg_48 := hb_452 _ _ hg_39
                        have hg_49 := hb_452 _ _ hg_40
                        have hg_50 := hb_452 _ _ hg_41
                        have hg_51 := hb_452 _ _ hgn_37
                        have hd_52 := jFr.grow (hh_45.iv 0 rfl) hb_452
                        have hh_53 := hh_45.sub (L1 := [(r1, 5, 3, .ref formula_9), (r0, 7, 10, .int pf)]) [0, 1] rfl (M1 := [(formula_9, 280, nformula_9, ca 1, f_l3_10), (r2, 280, n2, ca 1, fg)]) [0, 1] rfl (I1 := []) [] rfl
                        clear hh_45
                        have hh_54 := hh_53.addI (jFr.ie hd_52)
                        clear hh_53
                        obtain ⟨hr_46, hr_46n, hr_46p⟩ := hr_46
                        try simp only at hr_46p
                        obtain ⟨ret_55, rfl, hg_ret_55⟩ := hr_46
                        have hsy_45 : s.heap.size ≤ ret_55 := Nat.le_trans hh_44.1.1 hr_46n.le
                        have hsz_56 := hh_54.2.2.2.2.2.1
                        have htt_56 := hh_54.2.2.2.2.2.2.1
                        refine W.room (fun hrc_56 hrs_56 => ?_)
                        refine va_calli (A0 := jA base) (H0 := s.heap) (va_runV (As := [.ref ret_55]) (rest := []) ⟨hx, hb, hml, hown, hts⟩ (uX5_add l dC dI ca base B hB hAp hB5 hB7 hB211 G_45 H_45 r0 ret_55 m_ret_45 pf) (cwV 1 hts (jgV (jWr_85 _ (List.mem_of_getElem? (i := 8) rfl)) (jWr_85 _ (List.mem_of_getElem? (i := 9) rfl)) (jWr_85 _ (List.mem_of_getElem? (i := 10) rfl)) (jWr_2 _ (List.mem_of_getElem? (i := 4) rfl)) (jWr_85 _ (List.mem_of_getElem? (i := 11) rfl))) rfl rfl rfl (by decide +kernel) ⟨by rw [← hR]; exact Nat.le_of_ble_eq_true rfl, by rw [← hR]; exact Nat.le_of_ble_eq_true rfl⟩) ⟨fun a U g mk q => by obtain ⟨q0, q1, q2, qK, q10, q11, q12, q13, q14, q15⟩ := q; exact ⟨q0, q1, q2, jG.calling g mk a qK, (va_K.moved (Vm.Alike.refl U.vm) q10), q11, q12, q13, q14, q15⟩, hh_54.recv (C := RX5) (T := TX5) (N := 11) hB7 rfl (by decide) hg_47 hK, fun U hU hW => ⟨rfl, hU, hh_54.2.1, hG.step hW hU hh_54.1, va_K.moved hW.alike hK2, hg_47, hg_ret_55, (hh_54.2.2.1.sub (L1 := [(r0, 7, 10, .int pf)]) [1] rfl), (hh_54.2.2.2.2.2.2.2.2.sub (L1 := [(jFg, jFr dC dI ca G_45 r0)]) [0] rfl), by first | omega | (refine ⟨?_, ?_, ?_⟩ <;> (first | omega | rfl | assumption | decide | exact Or.inl rfl | exact Or.inr rfl | (simp only; omega)))⟩⟩ rfl rfl hl.1 rfl (lv_room (Nat.le_of_ble_eq_true rfl)) dX5_rewrite_232 ⟨by rw [hRc]; show _ + 0 ≤ _; omega, by rw [hRs]; show _ + 0 ≤ _; omega⟩) hh_54.1 (fun q _ h => h) (fun q h => h) (fun r_57 u_56 t_56 H_56 locs_56 ht_56 hvm_56 hr_57 hb_56 hz_56 hk_56 hS_56 => ?_)
                        obtain ⟨qf_56, rfl⟩ : ∃ z, z = u_56 := ⟨_, rfl⟩
                        rw [ht_56] at hb_56
                        obtain ⟨hb_56, hbE_56⟩ := hb_56
                        obtain ⟨hb_561, hb_562, hb_563, hb_564, hb_565⟩ := hb_56
                        have hh_56 : jSt (dC, dI) B base G0 G_45 EX5_rewrite s.heap ((0 + 1) + (1)) ((0 + nq_33) + (4)) [(r0, 7, 10, .int qf_56), (r1, 5, 3, .ref formula_9)] [(formula_9, 280, nformula_9, ca 1, f_l3_10), (r2, 280, n2, ca 1, fg)] [(jFg, jFr dC dI ca G_45 r0)] H_56 locs_56 := (((hh_54.call hb_561 hb_562 hb_563 hb_564 hS_56 rfl (L1 := [(r1, 5, 3, .ref formula_9)]) [0] rfl rfl (M1 := [(formula_9, 280, nformula_9, ca 1, f_l3_10), (r2, 280, n2, ca 1, fg)]) [0, 1] rfl rfl (I1 := []) [] rfl rfl).more hb_565)).addIs hbE_56
                        clear hh_54 ht_56 hvm_56 hz_56 hk_56 hS_56 hb_561 hb_562 hb_563 hb_564 hb_565
                        clear  hbE_56
                        obtain ⟨hr_57_0, hr_57_1⟩ := hr_57
                        have hsz_58 := hh_56.2.2.2.2.2.1
                        have htt_58 := hh_56.2.2.2.2.2.2.1
                        refine W.room (fun hrc_58 hrs_58 => ?_)
                        refine W.widen (k := LC - s.heap.size) (n := LS - jTot s.heap) (by omega) (by omega) ?_
                        rw [hQ]
                        exact W.iret (v := r_57) hx hb hr (fun t ht hW => ⟨⟨r_57, (qf_56, G_45), rfl, by (try dsimp only); exact ⟨(by first | omega | rfl | assumption | fail), (by first | omega | rfl | assumption | fail)⟩, ⟨hh_56.ra (by first | omega | (simp only; omega)) (by first | omega | (simp only; omega)) (M1 := [(r0, 7, 10, .int qf_56)]) [0] rfl ht, hNn_45, by rw [ht]; exact hh_56.2.2.2.2.2.2.2.2.sub (L1 := [(jFg, jFr dC dI ca G_45 r0)]) [0] rfl⟩⟩, by rw [ht]; try exact hh_56.1.1, fun q h9 hq => by rw [ht]; try exact hh_56.1.2.1 q h9 hq⟩) hh_56.1.2.2 dX5_rewrite_235
                      · skip
                        have c_36' : v11_34.toInt < z_35.toInt := jb_ge_n (rfl) (rfl) c_36
                        refine lv_iload hx hb dX5_rewrite_156 (lv_at hl 10 rfl) ?_
                        refine lv_iload hx hb dX5_rewrite_158 (lv_at hl 8 rfl) ?_
                        refine lv_icmp_ge (tgt := 225) hx hb dX5_rewrite_160 (by decide) (fun c_59 => ?_) (fun c_59 => ?_)
                        · skip
                          have c_59' : v10_34.toInt ≥ z_25.toInt := jb_ge (rfl) (rfl) c_59
                          have hle_60 : jLe G0 (va_up G0 H_19.size (some (280, nq_33))) := jLe.typ hnr_33
                          have hh_60 := hh_34.typ (k := 280) (n := nq_33) hB hnr_33 hbr_33 hraw_34.lt (jAr.of hB280 hraw_34 (fun j _ => hi_34_2 j))
                          have hgn_60 : (va_up G0 H_19.size (some (280, nq_33))) H_19.size = some (280, nq_33) := jUp_self
                          have hN_60 : (jNk [0, 1, 2, 3, 4, 6, 7, 8, 9, 10, 11, 12, 13, 14, 15, 16, 17, 175]) G0 (va_up G0 H_19.size (some (280, nq_33))) := jNk.new (by decide)
                          have hNn_60 : (jNk [0, 1, 2, 3, 4, 6, 7, 8, 9, 10, 11, 12, 13, 14, 15, 16, 17, 175]) G0 (va_up G0 H_19.size (some (280, nq_33))) := (jNk.rf).tr hN_60
                          generalize (va_up G0 H_19.size (some (280, nq_33))) = G_60 at hN_60 hNn_60 hgn_60 hle_60 hh_60
                          have hg_61 := hle_60 _ _ hg_r0
                          have hg_62 := hle_60 _ _ hg_r1
                          have hg_63 := hle_60 _ _ hg_r2
                          have hg_64 := hle_60 _ _ hg_formula_9
                          have hd_65 := jFr.grow (hh_60.iv 0 rfl) hle_60
                          have hh_66 := hh_60.sub (L1 := [(r1, 5, 3, .ref formula_9), (r0, 7, 10, .int pf)]) [0, 1] rfl (M1 := [(formula_9, 280, nformula_9, ca 1, f_l3_10), (r2, 280, n2, ca 1, fg)]) [0, 1] rfl (I1 := []) [] rfl
                          clear hh_60
                          have hh_67 := hh_66.addI (jFr.ie hd_65)
                          clear hh_66
                          refine lv_aload_n hx hb dX5_rewrite_225 rfl (lv_at hl 0 rfl) ?_
                          refine lv_aload_n hx hb dX5_rewrite_226 rfl (lv_at hl 1 rfl) ?_
                          refine lv_aload hx hb dX5_rewrite_227 (lv_at hl 9 rfl) ?_
                          have hsz_68 := hh_67.2.2.2.2.2.1
                          have htt_68 := hh_67.2.2.2.2.2.2.1
                          refine W.room (fun hrc_68 hrs_68 => ?_)
                          refine j_callx (A0 := jA base) (H0 := s.heap) (va_runV (As := [.ref H_19.size]) (rest := [.ref r0]) ⟨hx, hb, hml, hown, hts⟩ (uX3_withFormula l dC dI ca base B hB hAp hB5 hB101 hB280 hB313 G_60 H_34 r1 H_19.size n1 nq_33 LC LS) (cwV 1 hts (jgV (jWr_87 _ (List.mem_of_getElem? (i := 10) rfl)) (jWr_87 _ (List.mem_of_getElem? (i := 11) rfl)) (jWr_87 _ (List.mem_of_getElem? (i := 12) rfl)) (jWr_82 _ (List.mem_of_getElem? (i := 10) rfl)) (jWr_87 _ (List.mem_of_getElem? (i := 13) rfl))) rfl rfl rfl (by decide +kernel) ⟨by rw [← hR]; exact Nat.le_of_ble_eq_true rfl, by rw [← hR]; exact Nat.le_of_ble_eq_true rfl⟩) ⟨fun a U g mk q => by obtain ⟨q0, q1, q2, qK, q10, q11, q12, q13⟩ := q; exact ⟨q0, q1, q2, jG.calling g mk a qK, q10, q11, q12, q13⟩, hh_67.recv (C := RX3) (T := TX3) (N := 4) hB5 rfl (by decide) hg_62 hK, fun U hU hW => ⟨rfl, hU, hh_67.2.1, hG.step hW hU hh_67.1, hg_62, hgn_60, jP.nil, by first | omega | (refine ⟨?_, ?_⟩ <;> (first | omega | rfl | assumption | decide | exact Or.inl rfl | exact Or.inr rfl | (simp only; omega)))⟩⟩ rfl rfl hl.1 rfl (lv_room (Nat.le_of_ble_eq_true rfl)) dX5_rewrite_229 ⟨by rw [hRc]; omega, by rw [hRs]; omega⟩) hh_67.1 (fun q _ h => h) (fun q h => h) (fun r_69 u_68 t_68 H_68 locs_68 ht_68 hvm_68 hr_69 hb_68 hz_68 hk_68 hS_68 => ?_)
                          rw [ht_68] at hb_68
                          obtain ⟨m_ret_68, G_68⟩ := u_68
                          simp only at hb_68
                          obtain ⟨⟨hb_681, hb_682, hb_683, hb_684, hb_685, hb_686⟩, hN_68⟩ := hb_68
                          have hh_68 : jSt (dC, dI) B base G0 G_68 EX5_rewrite s.heap ((0 + 1) + (1)) ((0 + nq_33) + (4)) [(r1, 5, 3, .ref formula_9), (r0, 7, 10, .int pf)] [(formula_9, 280, nformula_9, ca 1, f_l3_10), (r2, 280, n2, ca 1, fg)] [(jFg, jFr dC dI ca G_60 r0)] H_68 locs_68 := (hh_67.callG hb_681 hb_682 hb_683 hb_684 hb_685 hS_68 rfl (L1 := [(r1, 5, 3, .ref formula_9), (r0, 7, 10, .int pf)]) [0, 1] rfl rfl (M1 := [(formula_9, 280, nformula_9, ca 1, f_l3_10), (r2, 280, n2, ca 1, fg)]) [0, 1] rfl rfl (I1 := [(jFg, jFr dC dI ca G_60 r0)]) [0] rfl rfl).more hb_686
                          have hNn_68 : (jNk [0, 1, 2, 3, 4, 6, 7, 8, 9, 10, 11, 12, 13, 14, 15, 16, 17, 175]) G0 G_68 := (hNn_60).tr hN_68
                          have hg_70 := hb_682 _ _ hg_61
                          have hg_71 := hb_682 _ _ hg_62
                          have hg_72 := hb_682 _ _ hg_63
                          have hg_73 := hb_682 _ _ hg_64
                          have hg_74 := hb_682 _ _ hgn_60
                          have hd_75 := jFr.grow (hh_68.iv 0 rfl) hb_682
                          have hh_76 := hh_68.sub (L1 := [(r1, 5, 3, .ref formula_9), (r0, 7, 10, .int pf)]) [0, 1] rfl (M1 := [(formula_9, 280, nformula_9, ca 1, f_l3_10), (r2, 280, n2, ca 1, fg)]) [0, 1] rfl (I1 := []) [] rfl
                          clear hh_68
                          have hh_77 := hh_76.addI (jFr.ie hd_75)
                          clear hh_76
                          obtain ⟨hr_69, hr_69n, hr_69p⟩ := hr_69
                          try simp only at hr_69p
                          obtain ⟨ret_78, rfl, hg_ret_78⟩ := hr_69
                          have hsy_68 : s.heap.size ≤ ret_78 := Nat.le_trans hh_67.1.1 hr_69n.le
                          have hsz_79 := hh_77.2.2.2.2.2.1
                          have htt_79 := hh_77.2.2.2.2.2.2.1
                          refine W.room (fun hrc_79 hrs_79 => ?_)
                          refine va_calli (A0 := jA base) (H0 := s.heap) (va_runV (As := [.ref ret_78]) (rest := []) ⟨hx, hb, hml, hown, hts⟩ (uX5_add l dC dI ca base B hB hAp hB5 hB7 hB211 G_68 H_68 r0 ret_78 m_ret_68 pf) (cwV 1 hts (jgV (jWr_85 _ (List.mem_of_getElem? (i := 8) rfl)) (jWr_85 _ (List.mem_of_getElem? (i := 9) rfl)) (jWr_85 _ (List.mem_of_getElem? (i := 10) rfl)) (jWr_2 _ (List.mem_of_getElem? (i := 4) rfl)) (jWr_85 _ (List.mem_of_getElem? (i := 11) rfl))) rfl rfl rfl (by decide +kernel) ⟨by rw [← hR]; exact Nat.le_of_ble_eq_true rfl, by rw [← hR]; exact Nat.le_of_ble_eq_true rfl⟩) ⟨fun a U g mk q => by obtain ⟨q0, q1, q2, qK, q10, q11, q12, q13, q14, q15⟩ := q; exact ⟨q0, q1, q2, jG.calling g mk a qK, (va_K.moved (Vm.Alike.refl U.vm) q10), q11, q12, q13, q14, q15⟩, hh_77.recv (C := RX5) (T := TX5) (N := 11) hB7 rfl (by decide) hg_70 hK, fun U hU hW => ⟨rfl, hU, hh_77.2.1, hG.step hW hU hh_77.1, va_K.moved hW.alike hK2, hg_70, hg_ret_78, (hh_77.2.2.1.sub (L1 := [(r0, 7, 10, .int pf)]) [1] rfl), (hh_77.2.2.2.2.2.2.2.2.sub (L1 := [(jFg, jFr dC dI ca G_68 r0)]) [0] rfl), by first | omega | (refine ⟨?_, ?_, ?_⟩ <;> (first | omega | rfl | assumption | decide | exact Or.inl rfl | exact Or.inr rfl | (simp only; omega)))⟩⟩ rfl rfl hl.1 rfl (lv_room (Nat.le_of_ble_eq_true rfl)) dX5_rewrite_232 ⟨by rw [hRc]; show _ + 0 ≤ _; omega, by rw [hRs]; show _ + 0 ≤ _; omega⟩) hh_77.1 (fun q _ h => h) (fun q h => h) (fun r_80 u_79 t_79 H_79 locs_79 ht_79 hvm_79 hr_80 hb_79 hz_79 hk_79 hS_79 => ?_)
                          obtain ⟨qf_79, rfl⟩ : ∃ z, z = u_79 := ⟨_, rfl⟩
                          rw [ht_79] at hb_79
                          obtain ⟨hb_79, hbE_79⟩ := hb_79
                          obtain ⟨hb_791, hb_792, hb_793, hb_794, hb_795⟩ := hb_79
                          have hh_79 : jSt (dC, dI) B base G0 G_68 EX5_rewrite s.heap ((0 + 1) + (1)) ((0 + nq_33) + (4)) [(r0, 7, 10, .int qf_79), (r1, 5, 3, .ref formula_9)] [(formula_9, 280, nformula_9, ca 1, f_l3_10), (r2, 280, n2, ca 1, fg)] [(jFg, jFr dC dI ca G_68 r0)] H_79 locs_79 := (((hh_77.call hb_791 hb_792 hb_793 hb_794 hS_79 rfl (L1 := [(r1, 5, 3, .ref formula_9)]) [0] rfl rfl (M1 := [(formula_9, 280, nformula_9, ca 1, f_l3_10), (r2, 280, n2, ca 1, fg)]) [0, 1] rfl rfl (I1 := []) [] rfl rfl).more hb_795)).addIs hbE_79
                          clear hh_77 ht_79 hvm_79 hz_79 hk_79 hS_79 hb_791 hb_792 hb_793 hb_794 hb_795
                          clear  hbE_79
                          obtain ⟨hr_80_0, hr_80_1⟩ := hr_80
                          have hsz_81 := hh_79.2.2.2.2.2.1
                          have htt_81 := hh_79.2.2.2.2.2.2.1
                          refine W.room (fun hrc_81 hrs_81 => ?_)
                          refine W.widen (k := LC - s.heap.size) (n := LS - jTot s.heap) (by omega) (by omega) ?_
                          rw [hQ]
                          exact W.iret (v := r_80) hx hb hr (fun t ht hW => ⟨⟨r_80, (qf_79, G_68), rfl, by (try dsimp only); exact ⟨(by first | omega | rfl | assumption | fail), (by first | omega | rfl | assumption | fail)⟩, ⟨hh_79.ra (by first | omega | (simp only; omega)) (by first | omega | (simp only; omega)) (M1 := [(r0, 7, 10, .int qf_79)]) [0] rfl ht, hNn_68, by rw [ht]; exact hh_79.2.2.2.2.2.2.2.2.sub (L1 := [(jFg, jFr dC dI ca G_68 r0)]) [0] rfl⟩⟩, by rw [ht]; try exact hh_79.1.1, fun q h9 hq => by rw [ht]; try exact hh_79.1.2.1 q h9 hq⟩) hh_79.1.2.2 dX5_rewrite_235
                        · skip
                          have c_59' : v10_34.toInt < z_25.toInt := jb_ge_n (rfl) (rfl) c_59
                          refine lv_aload_n hx hb dX5_rewrite_163 rfl (lv_at hl 3 rfl) ?_
                          refine lv_iload hx hb dX5_rewrite_164 (lv_at hl 11 rfl) ?_
                          refine lv_aload_n hx hb dX5_rewrite_166 rfl (lv_at hl 2 rfl) ?_
                          refine lv_iconst (v := 1) hx hb dX5_rewrite_167 (by decide) ?_
                          refine lv_iload hx hb dX5_rewrite_168 (lv_at hl 5 rfl) ?_
                          have hsz_82 := hh_34.2.2.2.2.2.1
                          have htt_82 := hh_34.2.2.2.2.2.2.1
                          refine W.room (fun hrc_82 hrs_82 => ?_)
                          refine va_calli (A0 := jA base) (H0 := s.heap) (va_runS (As := [.ref formula_9, .int v11_34, .ref r2, .int 1, .int z_16]) (rest := []) ⟨hx, hb, hml, hown, hts⟩ (uX5_standsAtC l dC dI ca base B hB hAp hB280 G0 H_34 formula_9 v11_34 r2 1 z_16 nformula_9 n2 f_l3_10 fg) (va_cwS 5 hts (jgS (jWr_88 _ (List.mem_of_getElem? (i := 8) rfl)) (jWr_88 _ (List.mem_of_getElem? (i := 9) rfl)) (jWr_2 _ (List.mem_of_getElem? (i := 4) rfl)) (jWr_88 _ (List.mem_of_getElem? (i := 10) rfl))) rfl rfl rfl (by decide +kernel) ⟨by rw [← hR]; exact Nat.le_of_ble_eq_true rfl, by rw [← hR]; exact Nat.le_of_ble_eq_true rfl⟩) ⟨fun a U g mk q => by obtain ⟨q0, q1, q2, qK, q10, q11, q12, q13, q14⟩ := q; exact ⟨q0, q1, q2, jG.calling g mk a qK, q10, q11, q12, q13, q14⟩, fun U hU hW => ⟨rfl, hU, hh_34.2.1, hG.step hW hU hh_34.1, hg_formula_9, hg_r2, jP.nil, (hh_34.2.2.2.2.2.2.2.1.sub (L1 := [(formula_9, 280, nformula_9, ca 1, f_l3_10), (r2, 280, n2, ca 1, fg)]) [0, 1] rfl), by first | omega | (refine ⟨?_, ?_, ?_, ?_, ?_, ?_⟩ <;> (first | omega | rfl | assumption | decide | exact Or.inl rfl | exact Or.inr rfl | (simp only; omega)))⟩⟩ rfl rfl hl.1 rfl (lv_room (Nat.le_of_ble_eq_true rfl)) dX5_rewrite_170 ⟨by rw [hRc]; show _ + 0 ≤ _; omega, by rw [hRs]; show _ + 0 ≤ _; omega⟩) hh_34.1 (fun q _ h => h) (fun q h => h) (fun r_83 u_82 t_82 H_82 locs_82 ht_82 hvm_82 hr_83 hb_82 hz_82 hk_82 hS_82 => ?_)
                          rw [ht_82] at hb_82
                          obtain ⟨hb_82, hbF_82⟩ := hb_82
                          obtain ⟨hb_821, hb_822, hb_823, hb_824, hb_825⟩ := hb_82
                          have hh_82 : jSt (dC, dI) B base G0 G0 EX5_rewrite s.heap (0 + 1) (0 + nq_33) [(r1, 5, 3, .ref formula_9), (r0, 7, 10, .int pf)] [(formula_9, 280, nformula_9, ca 1, f_l3_10), (r2, 280, n2, ca 1, fg)] [(jFg, jFr dC dI ca G0 r0)] H_82 locs_82 := ((hh_34.call hb_821 hb_822 hb_823 hb_824 hS_82 rfl (L1 := [(r1, 5, 3, .ref formula_9), (r0, 7, 10, .int pf)]) [0, 1] rfl rfl (M1 := [(formula_9, 280, nformula_9, ca 1, f_l3_10), (r2, 280, n2, ca 1, fg)]) [0, 1] rfl rfl (I1 := [(jFg, jFr dC dI ca G0 r0)]) [0] rfl rfl).more hb_825)
                          clear hh_34 ht_82 hvm_82 hz_82 hk_82 hS_82 hb_821 hb_822 hb_823 hb_824 hb_825
                          have hraw_84 := hraw_34.kept (hbF_82 _ (by simp))
                          obtain ⟨hr_83b, hr_83p⟩ := hr_83
                          obtain ⟨hr_83p_0, hr_83p_1⟩ := hr_83p
                          have hr_83' := jb_01 hr_83b
                          refine lv_if_eq (tgt := 207) hx hb dX5_rewrite_173 (by decide) (fun c_85 => ?_) (fun c_85 => ?_)
                          · skip
                            have c_85' : r_83.toInt = 0 := jb_eq (rfl) ((by decide)) c_85
                            refine lv_aload hx hb dX5_rewrite_207 (lv_at hl 9 rfl) ?_
                            refine lv_iload hx hb dX5_rewrite_209 (lv_at hl 10 rfl) ?_
                            refine lv_aload_n hx hb dX5_rewrite_211 rfl (lv_at hl 3 rfl) ?_
                            refine lv_iload hx hb dX5_rewrite_212 (lv_at hl 11 rfl) ?_
                            refine j7_ialdM hx hb hK hh_82 hB280 1 rfl (by decide) hg_formula_9 (x := v11_34.toInt) (rfl) (by omega) (j := 0) rfl dX5_rewrite_214 (fun z_86 ez_86 (hz_86 : -1 ≤ z_86.toInt) => ?_)
                            have hqz_86 : z_86.toInt = jSo f_l3_10 (v11_34.toInt) := by unfold jSo; rw [ez_86]
                            refine j7_iastR hx hb hK hh_82 hB hraw_84 hnr_33 hbr_33 1 rfl (x := v10_34.toInt) (rfl) (by omega) dX5_rewrite_215 (fun H_87 locs_87 hraw_87 hr_87 hh_87 => ?_)
                            clear hr_87
                            clear hh_82
                            obtain ⟨z_88, ez_88⟩ : ∃ y : Int32, y = v10_34 + 1 := ⟨_, rfl⟩
                            refine lv_iinc (v := z_88) (lv' := [(10, .int z_88), (0, .ref r0), (1, .ref r1), (2, .ref r2), (3, .ref formula_9), (4, .int r_13), (5, .int z_16), (6, .int z_18), (7, .int v7_19), (8, .int z_25), (9, .ref H_19.size), (11, .int v11_34)]) hx hb dX5_rewrite_216 hl (k := 10) rfl (by rw [ez_88]; rfl) (by decide) rfl (fun ls hl => ?_)
                            have hz_88 : z_88.toInt = v10_34.toInt + 1 := by rw [ez_88]; exact jb_iadd2 (rfl) (by decide) (by omega)
                            obtain ⟨z_89, ez_89⟩ : ∃ y : Int32, y = v11_34 + 1 := ⟨_, rfl⟩
                            refine lv_iinc (v := z_89) (lv' := [(11, .int z_89), (10, .int z_88), (0, .ref r0), (1, .ref r1), (2, .ref r2), (3, .ref formula_9), (4, .int r_13), (5, .int z_16), (6, .int z_18), (7, .int v7_19), (8, .int z_25), (9, .ref H_19.size)]) hx hb dX5_rewrite_219 hl (k := 11) rfl (by rw [ez_89]; rfl) (by decide) rfl (fun ls hl => ?_)
                            have hz_89 : z_89.toInt = v11_34.toInt + 1 := by rw [ez_89]; exact jb_iadd2 (rfl) (by decide) (by omega)
                            refine lv_goto (tgt := 149) hx hb dX5_rewrite_222 (by decide) ?_
                            refine W.tight (c2 := (0 + 1)) (n2 := (0 + nq_33)) hh_87.2.2.2.2.2.1 hh_87.2.2.2.2.2.2.1 ?_
                            exact L149 (upd fq_34 (v10_34.toInt).toNat z_86) z_88 z_89 _ _ hh_87 (hraw_87) (by refine ⟨by omega, ?_, ?_⟩; (first | exact hi_34_1.hit (by omega) (by omega) (hr_83p_0 (by omega)) (by omega) (by omega) | exact hi_34_1.miss (by omega) (by omega) (hr_83p_1 (by omega)) (by omega) (by omega)); (first | exact hi_34_2.cpy (zz_none) | exact hi_34_2.put (by omega))) (by omega) _ (lv_sub hl [2, 3, 4, 5, 6, 7, 8, 9, 10, 11, 1, 0] rfl)
                          · skip
                            have c_85' : r_83.toInt ≠ 0 := jb_eq_n (rfl) ((by decide)) c_85
                            refine lv_aload_n hx hb dX5_rewrite_176 rfl (lv_at hl 2 rfl) ?_
                            refine lv_iload hx hb dX5_rewrite_177 (lv_at hl 4 rfl) ?_
                            refine lv_aload hx hb dX5_rewrite_179 (lv_at hl 9 rfl) ?_
                            refine lv_iload hx hb dX5_rewrite_181 (lv_at hl 10 rfl) ?_
                            refine lv_iload hx hb dX5_rewrite_183 (lv_at hl 6 rfl) ?_
                            have hfit := hi_34_1.fit hrz (by omega) (by omega) (by omega) (hr_83p_0 (by omega))
                            refine j7_acopyR hx hb (by rw [hml]; exact hl.1.symm) hown (htw (.methodLink RX5 279 arraycopyName) (jWr_86 _ (List.mem_of_getElem? (i := 1) rfl))) (htw (.native arraycopyName) (jWr_16 _ (List.mem_of_getElem? (i := 19) rfl))) (htw (.static arraycopyName) (jWr_16 _ (List.mem_of_getElem? (i := 20) rfl))) (htw (.initialized "java/lang/System") (jWr_16 _ (List.mem_of_getElem? (i := 21) rfl))) hK hh_82 hB hB280 1 rfl (by decide) hg_r2 hraw_84 hnr_33 hbr_33 (x := r_13.toInt) (y := v10_34.toInt) (z := z_18.toInt) rfl rfl rfl (by omega) (by rw [← hR]; exact Nat.le_of_ble_eq_true rfl) (by rw [← hR]; exact Nat.le_of_ble_eq_true rfl) dX5_rewrite_185 (fun H_90 locs_90 g_90 hraw_90 hc_90 hr_90 hh_90 => ?_)
                            clear hr_90
                            clear hh_82
                            refine lv_iload hx hb dX5_rewrite_188 (lv_at hl 10 rfl) ?_
                            refine lv_iload hx hb dX5_rewrite_190 (lv_at hl 6 rfl) ?_
                            refine lv_iadd hx hb dX5_rewrite_192 ?_
                            refine lv_topi (fun z_91 ez_91 => ?_)
                            have hz_91 : z_91.toInt = v10_34.toInt + z_18.toInt := by rw [ez_91]; exact jb_iadd2 (rfl) (rfl) (by omega)
                            refine lv_istore (lv' := [(10, .int z_91), (0, .ref r0), (1, .ref r1), (2, .ref r2), (3, .ref formula_9), (4, .int r_13), (5, .int z_16), (6, .int z_18), (7, .int v7_19), (8, .int z_25), (9, .ref H_19.size), (11, .int v11_34)]) hx hb dX5_rewrite_193 hl (by decide) rfl (fun ls hl => ?_)
                            refine lv_iload hx hb dX5_rewrite_195 (lv_at hl 11 rfl) ?_
                            refine lv_iload hx hb dX5_rewrite_197 (lv_at hl 6 rfl) ?_
                            refine lv_iconst (v := 1) hx hb dX5_rewrite_199 (by decide) ?_
                            refine lv_isub hx hb dX5_rewrite_200 ?_
                            refine lv_topi (fun z_92 ez_92 => ?_)
                            have hz_92 : z_92.toInt = z_16.toInt - 1 := by rw [ez_92]; exact jb_isub2 (rfl) ((by decide)) (by omega)
                            refine lv_iadd hx hb dX5_rewrite_201 ?_
                            refine lv_topi (fun z_93 ez_93 => ?_)
                            have hz_93 : z_93.toInt = v11_34.toInt + z_92.toInt := by rw [ez_93]; exact jb_iadd2 (rfl) (rfl) (by omega)
                            refine lv_istore (lv' := [(11, .int z_93), (10, .int z_91), (0, .ref r0), (1, .ref r1), (2, .ref r2), (3, .ref formula_9), (4, .int r_13), (5, .int z_16), (6, .int z_18), (7, .int v7_19), (8, .int z_25), (9, .ref H_19.size)]) hx hb dX5_rewrite_202 hl (by decide) rfl (fun ls hl => ?_)
                            refine lv_goto (tgt := 219) hx hb dX5_rewrite_204 (by decide) ?_
                            obtain ⟨z_94, ez_94⟩ : ∃ y : Int32, y = z_93 + 1 := ⟨_, rfl⟩
                            refine lv_iinc (v := z_94) (lv' := [(11, .int z_94), (10, .int z_91), (0, .ref r0), (1, .ref r1), (2, .ref r2), (3, .ref formula_9), (4, .int r_13), (5, .int z_16), (6, .int z_18), (7, .int v7_19), (8, .int z_25), (9, .ref H_19.size)]) hx hb dX5_rewrite_219 hl (k := 0) rfl (by rw [ez_94]; rfl) (by decide) rfl (fun ls hl => ?_)
                            have hz_94 : z_94.toInt = z_93.toInt + 1 := by rw [ez_94]; exact jb_iadd2 (rfl) (by decide) (by omega)
                            refine lv_goto (tgt := 149) hx hb dX5_rewrite_222 (by decide) ?_
                            refine W.tight (c2 := (0 + 1)) (n2 := (0 + nq_33)) hh_90.2.2.2.2.2.1 hh_90.2.2.2.2.2.2.1 ?_
                            exact L149 g_90 z_91 z_94 _ _ hh_90 (hraw_90) (by refine ⟨by omega, ?_, ?_⟩; (first | exact hi_34_1.hit (by omega) (by omega) (hr_83p_0 (by omega)) (by omega) (by omega) | exact hi_34_1.miss (by omega) (by omega) (hr_83p_1 (by omega)) (by omega) (by omega)); (first | exact hi_34_2.cpy hc_90 | exact hi_34_2.put (by omega))) (by omega) _ (lv_sub hl [2, 3, 4, 5, 6, 7, 8, 9, 10, 11, 1, 0] rfl)
                  refine W.tight (c2 := (0 + 1)) (n2 := (0 + nq_33)) hh_33.2.2.2.2.2.1 hh_33.2.2.2.2.2.2.1 ?_
                  exact L149 (((nformula_9 - (0 : Int32).toInt).toNat : Int) : Int).toNat.succ (fun _ => 0) 0 0 _ _ hh_33 (hraw_33) (by refine ⟨by omega, jR2.zero (by omega) (by omega), jFp.zero⟩) (by omega) _ (lv_sub hl [4, 5, 6, 7, 8, 9, 10, 11, 3, 2, 1, 0] rfl)
                · skip
                  have c_32' : z_25.toInt < 1 := jb_ge_n (rfl) ((by decide)) c_32
                  refine lv_iload hx hb dX5_rewrite_124 (lv_at hl 8 rfl) ?_
                  refine lv_if_ne (tgt := 134) hx hb dX5_rewrite_126 (by decide) (fun c_95 => ?_) (fun c_95 => ?_)
                  · skip
                    have c_95' : v7_19.toInt ≠ 0 := jb_ne (rfl) ((by decide)) c_95
                    refine lv_bipush (v := 9) hx hb dX5_rewrite_134 (by decide) ?_
                    have hsz_96 := hh_19.2.2.2.2.2.1
                    have htt_96 := hh_19.2.2.2.2.2.2.1
                    refine W.room (fun hrc_96 hrs_96 => ?_)
                    refine W.widen (k := LC - s.heap.size) (n := LS - jTot s.heap) (by omega) (by omega) ?_
                    rw [hQ]
                    exact W.iret (v := 9) hx hb hr (fun t ht hW => ⟨⟨9, (pf, G0), rfl, by (try dsimp only); exact ⟨(by first | omega | rfl | assumption | fail), (by first | omega | rfl | assumption | fail)⟩, ⟨hh_19.ra (by first | omega | (simp only; omega)) (by first | omega | (simp only; omega)) (M1 := [(r0, 7, 10, .int pf)]) [1] rfl ht, jNk.rf, by rw [ht]; exact hh_19.2.2.2.2.2.2.2.2.sub (L1 := [(jFg, jFr dC dI ca G0 r0)]) [0] rfl⟩⟩, by rw [ht]; try exact hh_19.1.1, fun q h9 hq => by rw [ht]; try exact hh_19.1.2.1 q h9 hq⟩) hh_19.1.2.2 dX5_rewrite_136
                  · skip
                    have c_95' : v7_19.toInt = 0 := jb_ne_n (rfl) ((by decide)) c_95
                    exact (by omega : False).elim
          · skip
            have c_21' : v8_19.toInt < z_20.toInt := jb_ge_n (rfl) (rfl) c_21
            refine lv_aload_n hx hb dX5_rewrite_62 rfl (lv_at hl 3 rfl) ?_
            refine lv_iload hx hb dX5_rewrite_63 (lv_at hl 8 rfl) ?_
            refine lv_aload_n hx hb dX5_rewrite_65 rfl (lv_at hl 2 rfl) ?_
            refine lv_iconst (v := 1) hx hb dX5_rewrite_66 (by decide) ?_
            refine lv_iload hx hb dX5_rewrite_67 (lv_at hl 5 rfl) ?_
            have hsz_97 := hh_19.2.2.2.2.2.1
            have htt_97 := hh_19.2.2.2.2.2.2.1
            refine W.room (fun hrc_97 hrs_97 => ?_)
            refine va_calli (A0 := jA base) (H0 := s.heap) (va_runS (As := [.ref formula_9, .int v8_19, .ref r2, .int 1, .int z_16]) (rest := []) ⟨hx, hb, hml, hown, hts⟩ (uX5_standsAtC l dC dI ca base B hB hAp hB280 G0 H_19 formula_9 v8_19 r2 1 z_16 nformula_9 n2 f_l3_10 fg) (va_cwS 5 hts (jgS (jWr_88 _ (List.mem_of_getElem? (i := 8) rfl)) (jWr_88 _ (List.mem_of_getElem? (i := 9) rfl)) (jWr_2 _ (List.mem_of_getElem? (i := 4) rfl)) (jWr_88 _ (List.mem_of_getElem? (i := 10) rfl))) rfl rfl rfl (by decide +kernel) ⟨by rw [← hR]; exact Nat.le_of_ble_eq_true rfl, by rw [← hR]; exact Nat.le_of_ble_eq_true rfl⟩) ⟨fun a U g mk q => by obtain ⟨q0, q1, q2, qK, q10, q11, q12, q13, q14⟩ := q; exact ⟨q0, q1, q2, jG.calling g mk a qK, q10, q11, q12, q13, q14⟩, fun U hU hW => ⟨rfl, hU, hh_19.2.1, hG.step hW hU hh_19.1, hg_formula_9, hg_r2, jP.nil, (hh_19.2.2.2.2.2.2.2.1.sub (L1 := [(formula_9, 280, nformula_9, ca 1, f_l3_10), (r2, 280, n2, ca 1, fg)]) [0, 1] rfl), by first | omega | (refine ⟨?_, ?_, ?_, ?_, ?_, ?_⟩ <;> (first | omega | rfl | assumption | decide | exact Or.inl rfl | exact Or.inr rfl | (simp only; omega)))⟩⟩ rfl rfl hl.1 rfl (lv_room (Nat.le_of_ble_eq_true rfl)) dX5_rewrite_69 ⟨by rw [hRc]; show _ + 0 ≤ _; omega, by rw [hRs]; show _ + 0 ≤ _; omega⟩) hh_19.1 (fun q _ h => h) (fun q h => h) (fun r_98 u_97 t_97 H_97 locs_97 ht_97 hvm_97 hr_98 hb_97 hz_97 hk_97 hS_97 => ?_)
            rw [ht_97] at hb_97
            obtain ⟨hb_97, hbF_97⟩ := hb_97
            obtain ⟨hb_971, hb_972, hb_973, hb_974, hb_975⟩ := hb_97
            have hh_97 : jSt (dC, dI) B base G0 G0 EX5_rewrite s.heap 0 0 [(r1, 5, 3, .ref formula_9), (r0, 7, 10, .int pf)] [(formula_9, 280, nformula_9, ca 1, f_l3_10), (r2, 280, n2, ca 1, fg)] [(jFg, jFr dC dI ca G0 r0)] H_97 locs_97 := ((hh_19.call hb_971 hb_972 hb_973 hb_974 hS_97 rfl (L1 := [(r1, 5, 3, .ref formula_9), (r0, 7, 10, .int pf)]) [0, 1] rfl rfl (M1 := [(formula_9, 280, nformula_9, ca 1, f_l3_10), (r2, 280, n2, ca 1, fg)]) [0, 1] rfl rfl (I1 := [(jFg, jFr dC dI ca G0 r0)]) [0] rfl rfl).more hb_975)
            clear hh_19 ht_97 hvm_97 hz_97 hk_97 hS_97 hb_971 hb_972 hb_973 hb_974 hb_975
            obtain ⟨hr_98b, hr_98p⟩ := hr_98
            obtain ⟨hr_98p_0, hr_98p_1⟩ := hr_98p
            have hr_98' := jb_01 hr_98b
            refine lv_if_eq (tgt := 87) hx hb dX5_rewrite_72 (by decide) (fun c_99 => ?_) (fun c_99 => ?_)
            · skip
              have c_99' : r_98.toInt = 0 := jb_eq (rfl) ((by decide)) c_99
              obtain ⟨z_100, ez_100⟩ : ∃ y : Int32, y = v8_19 + 1 := ⟨_, rfl⟩
              refine lv_iinc (v := z_100) (lv' := [(8, .int z_100), (0, .ref r0), (1, .ref r1), (2, .ref r2), (3, .ref formula_9), (4, .int r_13), (5, .int z_16), (6, .int z_18), (7, .int v7_19)]) hx hb dX5_rewrite_87 hl (k := 8) rfl (by rw [ez_100]; rfl) (by decide) rfl (fun ls hl => ?_)
              have hz_100 : z_100.toInt = v8_19.toInt + 1 := by rw [ez_100]; exact jb_iadd2 (rfl) (by decide) (by omega)
              refine lv_goto (tgt := 55) hx hb dX5_rewrite_90 (by decide) ?_
              refine W.tight (c2 := 0) (n2 := 0) hh_97.2.2.2.2.2.1 hh_97.2.2.2.2.2.2.1 ?_
              exact L55 v7_19 z_100 _ _ hh_97 (by refine ⟨by omega, ?_⟩; first | exact hi_19_1.hit (by omega) (by omega) (hr_98p_0 (by omega)) (by omega) (by omega) | exact hi_19_1.miss (by omega) (by omega) (hr_98p_1 (by omega)) (by omega) (by omega)) (by omega) _ (lv_sub hl [1, 2, 3, 4, 5, 6, 7, 8, 0] rfl)
            · skip
              have c_99' : r_98.toInt ≠ 0 := jb_eq_n (rfl) ((by decide)) c_99
              obtain ⟨z_101, ez_101⟩ : ∃ y : Int32, y = v7_19 + 1 := ⟨_, rfl⟩
              refine lv_iinc (v := z_101) (lv' := [(7, .int z_101), (0, .ref r0), (1, .ref r1), (2, .ref r2), (3, .ref formula_9), (4, .int r_13), (5, .int z_16), (6, .int z_18), (8, .int v8_19)]) hx hb dX5_rewrite_75 hl (k := 7) rfl (by rw [ez_101]; rfl) (by decide) rfl (fun ls hl => ?_)
              have hz_101 : z_101.toInt = v7_19.toInt + 1 := by rw [ez_101]; exact jb_iadd2 (rfl) (by decide) (by omega)
              refine lv_iload hx hb dX5_rewrite_78 (lv_at hl 8 rfl) ?_
              refine lv_iload hx hb dX5_rewrite_80 (lv_at hl 6 rfl) ?_
              refine lv_iconst (v := 1) hx hb dX5_rewrite_82 (by decide) ?_
              refine lv_isub hx hb dX5_rewrite_83 ?_
              refine lv_topi (fun z_102 ez_102 => ?_)
              have hz_102 : z_102.toInt = z_16.toInt - 1 := by rw [ez_102]; exact jb_isub2 (rfl) ((by decide)) (by omega)
              refine lv_iadd hx hb dX5_rewrite_84 ?_
              refine lv_topi (fun z_103 ez_103 => ?_)
              have hz_103 : z_103.toInt = v8_19.toInt + z_102.toInt := by rw [ez_103]; exact jb_iadd2 (rfl) (rfl) (by omega)
              refine lv_istore (lv' := [(8, .int z_103), (7, .int z_101), (0, .ref r0), (1, .ref r1), (2, .ref r2), (3, .ref formula_9), (4, .int r_13), (5, .int z_16), (6, .int z_18)]) hx hb dX5_rewrite_85 hl (by decide) rfl (fun ls hl => ?_)
              obtain ⟨z_104, ez_104⟩ : ∃ y : Int32, y = z_103 + 1 := ⟨_, rfl⟩
              refine lv_iinc (v := z_104) (lv' := [(8, .int z_104), (7, .int z_101), (0, .ref r0), (1, .ref r1), (2, .ref r2), (3, .ref formula_9), (4, .int r_13), (5, .int z_16), (6, .int z_18)]) hx hb dX5_rewrite_87 hl (k := 0) rfl (by rw [ez_104]; rfl) (by decide) rfl (fun ls hl => ?_)
              have hz_104 : z_104.toInt = z_103.toInt + 1 := by rw [ez_104]; exact jb_iadd2 (rfl) (by decide) (by omega)
              refine lv_goto (tgt := 55) hx hb dX5_rewrite_90 (by decide) ?_
              refine W.tight (c2 := 0) (n2 := 0) hh_97.2.2.2.2.2.1 hh_97.2.2.2.2.2.2.1 ?_
              exact L55 z_101 z_104 _ _ hh_97 (by refine ⟨by omega, ?_⟩; first | exact hi_19_1.hit (by omega) (by omega) (hr_98p_0 (by omega)) (by omega) (by omega) | exact hi_19_1.miss (by omega) (by omega) (hr_98p_1 (by omega)) (by omega) (by omega)) (by omega) _ (lv_sub hl [2, 3, 4, 5, 6, 7, 8, 1, 0] rfl)
      refine W.tight (c2 := 0) (n2 := 0) hh_12.2.2.2.2.2.1 hh_12.2.2.2.2.2.2.1 ?_
      exact L55 (((nformula_9 - (0 : Int32).toInt).toNat : Int) : Int).toNat.succ 0 0 _ _ hh_12 (by refine ⟨by omega, jR1.zero (by omega) (by omega)⟩) (by omega) _ (lv_sub hl [6, 7, 8, 5, 4, 3, 2, 1, 0] rfl)
    · skip
      have c_6' : z_5.toInt ≠ 4 := jb_eq_n (rfl) ((by decide)) c_6
      refine lv_bipush (v := 8) hx hb dX5_rewrite_15 (by decide) ?_
      have hsz_105 := hh.2.2.2.2.2.1
      have htt_105 := hh.2.2.2.2.2.2.1
      refine W.room (fun hrc_105 hrs_105 => ?_)
      refine W.widen (k := LC - s.heap.size) (n := LS - jTot s.heap) (by omega) (by omega) ?_
      rw [hQ]
      exact W.iret (v := 8) hx hb hr (fun t ht hW => ⟨⟨8, (pf, G0), rfl, by (try dsimp only); exact ⟨(by first | omega | rfl | assumption | fail), (by first | omega | rfl | assumption | fail)⟩, ⟨hh.ra (by first | omega | (simp only; omega)) (by first | omega | (simp only; omega)) (M1 := [(r0, 7, 10, .int pf)]) [0] rfl ht, jNk.rf, by rw [ht]; exact hh.2.2.2.2.2.2.2.2.sub (L1 := [(jFg, jFr dC dI ca G0 r0)]) [0] rfl⟩⟩, by rw [ht]; try exact hh.1.1, fun q h9 hq => by rw [ht]; try exact hh.1.2.1 q h9 hq⟩) hh.1.2.2 dX5_rewrite_17
end
