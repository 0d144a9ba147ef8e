section
-- p9: what the class's methods say of JSON
theorem jjSb.hx {b : Int → Int} {e a w s d : Int} (h : jjSb b e a w) (hs : (65 ≤ w ∧ w ≤ 70 ∧ s = w + 32) ∨ ((w < 65 ∨ 70 < w) ∧ s = w)) (hd : (97 ≤ s ∧ s ≤ 102 ∧ d = s - 87) ∨ ((s < 97 ∨ 102 < s) ∧ 48 ≤ w ∧ w ≤ 57 ∧ d = w - 48)) : d = jjHx (jjK b e a) ∧ 0 ≤ d ∧ d ≤ 15 := by
  rcases h with ⟨h0, h1, h2, h3⟩ | ⟨h0, h1⟩
  · rw [jjK.y h0, ← h3]
    unfold jjHx
    rcases hs with ⟨q1, q2, q3⟩ | ⟨q1, q2⟩ <;> rcases hd with ⟨p1, p2, p3⟩ | ⟨p1, p2, p3, p4⟩
    · rw [if_neg (by omega), if_neg (by omega), if_pos (by omega)]; omega
    · omega
    · rw [if_neg (by omega), if_pos (by omega)]; omega
    · rw [if_pos (by omega)]; omega
  · omega
theorem jjW_y {b : Int → Int} {e a : Int} (h : jjW b e (jChT "\\u") 2 a = 1) : a + 1 < e ∧ b a = 92 ∧ b (a + 1) = 117 := by
  unfold jjW at h
  by_cases w : a + (0 : Nat) < e ∧ b (a + (0 : Nat)) = (jChT "\\u" 0).toInt
  · rw [← jjWf_y (k := 2) w.1 w.2 (by omega)] at h
    by_cases w2 : a + (1 : Nat) < e ∧ b (a + (1 : Nat)) = (jChT "\\u" 1).toInt
    · have e0 : (jChT "\\u" 0).toInt = 92 := by decide +kernel
      have e1 : (jChT "\\u" 1).toInt = 117 := by decide +kernel
      rw [e0, show a + ((0 : Nat) : Int) = a by omega] at w
      rw [e1, show a + ((1 : Nat) : Int) = a + 1 by omega] at w2
      exact ⟨w2.1, w.2, w2.2⟩
    · rw [jjWf_n (k := 1) (i := 1) (by
        by_cases q : a + (1 : Nat) < e
        · exact Or.inr (fun q2 => w2 ⟨q, q2⟩)
        · exact Or.inl (by omega)) (by omega)] at h
      omega
  · rw [jjWf_n (k := 2) (i := 0) (by
      by_cases q : a + (0 : Nat) < e
      · exact Or.inr (fun q2 => w ⟨q, q2⟩)
      · exact Or.inl (by omega)) (by omega)] at h
    omega
theorem jjW_u {b : Int → Int} {e a : Int} (h : a + 1 < e) (h0 : b a = 92) (h1 : b (a + 1) = 117) : jjW b e (jChT "\\u") 2 a = 1 := by
  have e0 : (jChT "\\u" 0).toInt = 92 := by decide +kernel
  have e1 : (jChT "\\u" 1).toInt = 117 := by decide +kernel
  unfold jjW
  rw [← jjWf_y (k := 2) (i := 0) (by omega) (by rw [e0, show a + ((0 : Nat) : Int) = a by omega]; exact h0) (by omega), ← jjWf_y (k := 1) (i := 1) (by omega) (by rw [e1, show a + ((1 : Nat) : Int) = a + 1 by omega]; exact h1) (by omega)]
  rfl
theorem jjW_k {b : Int → Int} {e a : Int} (h : jjW b e (jChT "\\u") 2 a ≠ 1) (ha : a < e) (h0 : b a = 92) : jjK b e (a + 1) ≠ 117 := fun w => by
  by_cases q : a + 1 < e
  · rw [jjK.y q] at w; exact h (jjW_u q h0 w)
  · rw [jjK.n (by omega)] at w; omega
section
variable {T T1 : Nat → Int → Int} {v u v1 k f z : Int} {fk fi fz fn fa fs fu gk gi gz gn ga gs gu : Nat → Int32}
end
section
variable {X : Int × Int × Int × Int × (Nat → Int → Int)} {e d r a v u a0 v0 u0 : Int} {T : Nat → Int → Int} {fk fi fz fn fa fs fu : Nat → Int32}
theorem jjQv.cap (h : jjOut e a0 v0 u0 T X) (h1 : e < a0 + d + 1) (hr : r = -1) : jjQv X e d r a v u fk fi fz fn fa fs fu := by
  refine Or.inl ⟨hr, ?_⟩
  rcases h with h | ⟨_, h, _⟩
  · exact Or.inl h
  · exact Or.inr (by omega)
end
section
variable {b : Int → Int} {e a v u r a1 v1 u1 z c : Int} {T T1 : Nat → Int → Int}
end
/-- a number was read -/
def jjQn (b : Int → Int) (e a v u : Int) (T : Nat → Int → Int) (r qt qv : Int) (fk fi fz fn fa fs fu : Nat → Int32) : Prop := (r = -1 ∧ (jjNp b e a < 0 ∨ v = 1502)) ∨ (r = v ∧ qt = jjNp b e a ∧ 0 ≤ jjNp b e a ∧ qv = v + 1 ∧ ((jjNi b e a ∧ jjTC (jjMk T v 4 (jjNv b e a) 0) qv u fk fi fz fn fa fs fu) ∨ (¬ jjNi b e a ∧ jjTC (jjMk T v 5 0 0) qv u fk fi fz fn fa fs fu)))
section
variable {b : Int → Int} {e a v u r qt qv qu d c : Int} {T : Nat → Int → Int} {fk fi fz fn fa fs fu : Nat → Int32} {n : Nat}
theorem jjQn.vo (h : jjQn b e a v u T r qt qv fk fi fz fn fa fs fu) (hc : c = jjK b e a) (hk : c = 45 ∨ (48 ≤ c ∧ c ≤ 57)) (h0 : 0 ≤ v) (hcap : v = 1502 → e < a + d + 1) (hu : qu = u) : jjQv (jjVal b e n a v u T) e d r qt qv qu fk fi fz fn fa fs fu := by
  subst hc hu
  have ho := jjVal.out (b := b) (e := e) n a v qu T h0
  rw [jjVal_l (by omega) (by omega)] at ho ⊢
  rcases h with ⟨h1, h2 | h2⟩ | ⟨h1, h2, h3, h4, ⟨h5, h6⟩ | ⟨h5, h6⟩⟩
  · exact jjQv.no (jjL_nn hk h2) h1
  · exact jjQv.cap ho (hcap h2) h1
  · exact jjQv.yes (jjL_ni hk h3 h5 h1 h2 h4) (by omega) h6
  · exact jjQv.yes (jjL_nx hk h3 h5 h1 h2 h4) (by omega) h6
end
/-- while the values of a list or object are read -/
def jjLm (b : Int → Int) (e : Int) (V : Int → Int → Int → (Nat → Int → Int) → Int × Int × Int × Int × (Nat → Int → Int)) (o h : Int) (k : Nat) (a v u l : Int) (fk fi fz fn fa fs fu : Nat → Int32) (X : Int × Int × Int × Int × (Nat → Int → Int)) : Prop := ∃ T : Nat → Int → Int, jjTC T v u fk fi fz fn fa fs fu ∧ jjM b e V o h k a v u T l = X
theorem jjTC.mkc {T : Nat → Int → Int} {v u v1 k f z k' f' z' : Int} {fk fi fz fn fa fs fu : Nat → Int32} (h : jjTC (jjMk T v k f z) v1 u fk fi fz fn fa fs fu) (hk : k = k') (hf : f = f') (hz : z = z') : jjTC (jjMk T v k' f' z') v1 u fk fi fz fn fa fs fu := by subst hk hf hz; exact h
section
variable {b : Int → Int} {e o h : Int} {V : Int → Int → Int → (Nat → Int → Int) → Int × Int × Int × Int × (Nat → Int → Int)}
variable {k : Nat} {a v u l a1 u1 r r1 a2 v2 u2 q a3 d d1 qt qv qu : Int} {T T1 T2 : Nat → Int → Int} {X : Int × Int × Int × Int × (Nat → Int → Int)} {fk fi fz fn fa fs fu gk gi gz gn ga gs gu : Nat → Int32}
/-- a child that could not be read -/
theorem jjQv.child (hV : ∀ (a v u : Int) (T : Nat → Int → Int), 0 ≤ v → jjOut e a v u T (V a v u T)) (h0 : 0 ≤ v) (hx : jjQv (V a1 v u1 T1) e d1 r a2 v2 u2 gk gi gz gn ga gs gu) (hm : jjM b e V o h k a v u T l = X) (hp : jjKy b e o a u T = (1, a1, u1, T1)) (hr : r < 0) (hd : d = d1 - 1) (hr1 : r1 = -1) : jjQv X e d r1 qt qv qu fk fi fz fn fa fs fu := by
  rcases hx with ⟨_, hx⟩ | ⟨hx, _⟩
  · refine Or.inl ⟨hr1, ?_⟩
    rw [← hm]
    rcases hx with hx | hx
    · exact Or.inl (by rw [jjM_1 hp hx]; omega)
    · rcases hV a1 v u1 T1 h0 with ho | ⟨o1, o2, o3, o4, o5, o6, o7, o8, o9⟩
      · exact Or.inl (by rw [jjM_1 hp ho]; omega)
      · cases k with
        | zero => exact Or.inl (by show (-1 : Int) < 0; omega)
        | succ k =>
          have hc : V a1 v u1 T1 = (v, (V a1 v u1 T1).2.1, (V a1 v u1 T1).2.2.1, (V a1 v u1 T1).2.2.2.1, (V a1 v u1 T1).2.2.2.2) := Prod.ext o1 rfl
          generalize (V a1 v u1 T1).2.1 = b2 at *
          generalize (V a1 v u1 T1).2.2.1 = w2 at *
          generalize (V a1 v u1 T1).2.2.2.1 = y2 at *
          generalize (V a1 v u1 T1).2.2.2.2 = S2 at *
          have hq := jjSk.ge b e b2
          by_cases w : jjK b e (jjSk b e b2) = 44
          · have hw := jjSk.ge b e (jjSk b e b2 + 1)
            rw [← jjM_more (h := h) (l := l) (k := k + 1) hp hc (by omega) rfl w rfl (by omega)]
            rcases jjM.gt (b := b) (o := o) (h := h) hV k (jjSk b e (jjSk b e b2 + 1)) w2 y2 v (jjLk S2 h l v u (u1 - u)) (by omega) with ih | ih
            · exact Or.inl ih
            · exact Or.inr (by show e < (jjM b e V o h k _ _ _ _ _).2.1 + d; omega)
          · by_cases w9 : jjK b e (jjSk b e b2) = 93 + 32 * o
            · rw [jjM_end (h := h) (l := l) (k := k + 1) hp hc (by omega) rfl w9 (by omega)]
              exact Or.inr (by show e < jjSk b e b2 + 1 + d; omega)
            · exact Or.inl (by rw [jjM_2 (h := h) (l := l) (k := k + 1) hp hc rfl w w9]; omega)
  · omega
end
section
variable {b : Int → Int} {e a l1 l2 l3 l4 w w1 q : Int}
theorem jjN3.wo (h : jjN3 b e a l2 l3 l4 w) : jjNw b e a = jjV10 b l3.toNat l2 0 := by
  obtain ⟨w2, ⟨h1, h2, h3, h5, h6⟩, _⟩ := h
  unfold jjNw
  rw [← h1, ← h2, ← h3]
end
theorem jjV10_0 {b : Int → Int} {k : Nat} {a v w : Int} (h : jjV10 b k a v = w) (hk : k = 0) : v = w := by subst hk; exact h
theorem jjV10_g {b : Int → Int} {k : Nat} {a v w : Int} (h : jjV10 b k a v = w) (h0 : 0 ≤ v) (hd : ∀ j : Int, a ≤ j → j < a + k → 48 ≤ b j) : v ≤ w := by rw [← h]; exact jjV10.ge k a v h0 hd
theorem jjV10_n {b : Int → Int} {k k1 : Nat} {a v w a1 v1 c : Int} (h : jjV10 b k a v = w) (hk : k = k1 + 1) (ha : a1 = a + 1) (hc : c = b a) (hv : v1 = v * 10 + c - 48) : jjV10 b k1 a1 v1 = w := by subst hk ha hc hv; exact h
section
variable {b : Int → Int} {e a d w r r1 v u q v0 u0 : Int} {fk fi fz fn fa fs fu : Nat → Int32} {T0 : Nat → Int → Int}
end
end
