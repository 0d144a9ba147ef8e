-- how a text is parted rests on its units alone
def jEqU (f g : Nat → Int32) (n : Int) : Prop := ∀ i : Int, 0 ≤ i → i < n → jSo f i = jSo g i
theorem jEqU.nil (f g : Nat → Int32) : jEqU f g 0 := fun i h0 h1 => by omega
theorem jEqU.up {f g : Nat → Int32} {m n : Int} (h : jEqU f g m) (hn : n ≤ m) : jEqU f g n := fun i h0 h1 => h i h0 (by omega)
theorem jEqU.snoc {f f1 g : Nat → Int32} {m m1 k : Int} (h : jEqU f g m) (h0 : 0 ≤ m) (hm : m < k) (hv : jSo f1 m = jSo g m) (ho : ∀ j : Nat, (j : Int) < k → j ≠ m.toNat → f1 j = f j) (e : m1 = m + 1) : jEqU f1 g m1 := fun i q0 q1 => by
  by_cases q : i = m
  · rw [q]; exact hv
  · have := h i q0 (by omega)
    rw [← this]
    unfold jSo
    rw [ho i.toNat (by omega) (by omega)]
theorem jOpI_c {f g : Nat → Int32} {i n : Int} (h : jEqU f g n) (hi : 0 ≤ i) : jOpI f i n = jOpI g i n := by
  unfold jOpI
  by_cases q : i + 1 < n
  · have e1 : (f i.toNat).toInt = (g i.toNat).toInt := h i hi (by omega)
    have e2 : (f (i + 1).toNat).toInt = (g (i + 1).toNat).toInt := h (i + 1) (by omega) q
    rw [e1, e2]
  · rw [if_neg (fun w => q w.1), if_neg (fun w => q w.1)]
theorem jClI_c {f g : Nat → Int32} {i n : Int} (h : jEqU f g n) (hi : 0 ≤ i) : jClI f i n = jClI g i n := by
  unfold jClI
  by_cases q : i + 1 < n
  · have e1 : (f i.toNat).toInt = (g i.toNat).toInt := h i hi (by omega)
    have e2 : (f (i + 1).toNat).toInt = (g (i + 1).toNat).toInt := h (i + 1) (by omega) q
    rw [e1, e2]
  · rw [if_neg (fun w => q w.1), if_neg (fun w => q w.1)]
theorem jBc_c {f g : Nat → Int32} {n : Int} (h : jEqU f g n) : ∀ (k : Nat) (i d : Int), 0 ≤ i → jBc f n k i d = jBc g n k i d := by
  intro k
  induction k with
  | zero => intro i d _; rfl
  | succ k ih =>
    intro i d hi
    rw [jBc_s (f := f) (by omega), jBc_s (f := g) (by omega), jOpI_c h hi, jClI_c h hi, show k + 1 - 1 = k by omega, ih (i + 2) (d + 1) (by omega), ih (i + 2) (d - 1) (by omega), ih (i + 1) d (by omega)]
theorem jBcc_c {f g : Nat → Int32} {n i : Int} (h : jEqU f g n) (hi : 0 ≤ i) : jBcc f n i = jBcc g n i := jBc_c h _ _ _ hi
theorem jGa_cg {f g : Nat → Int32} {n : Int} (h : jEqU f g n) : ∀ (k : Nat) (i : Int), 0 ≤ i → jGa f n k i = jGa g n k i := by
  intro k
  induction k with
  | zero => intro i _; rfl
  | succ k ih =>
    intro i hi
    rw [jGa_s (f := f) (by omega), jGa_s (f := g) (by omega), show k + 1 - 1 = k by omega]
    by_cases q : i < n
    · rw [if_pos q, if_pos q, h i hi q, jOpI_c h hi, jBcc_c h hi, ih (i + 1) (by omega)]
      by_cases w : jOpI g i n = 1 ∧ 0 ≤ jBcc g n i
      · rw [if_pos w, if_pos w, ih _ w.2]
      · rw [if_neg w, if_neg w]
    · rw [if_neg q, if_neg q]
theorem jGa_nn {f : Nat → Int32} {n : Int} (hn : 0 ≤ n) : ∀ (k : Nat) (i : Int), 0 ≤ i → 0 ≤ jGa f n k i := by
  intro k
  induction k with
  | zero => intro i _; exact hn
  | succ k ih =>
    intro i hi
    rw [jGa_s (by omega), show k + 1 - 1 = k by omega]
    split
    · split
      · exact ih _ (by omega)
      · split
        · rename_i w; exact ih _ w.2
        · exact hi
    · exact hn
theorem jDt_cg {f g : Nat → Int32} {n i : Int} (h : jEqU f g n) (hi : 0 ≤ i) (hn : i < n) : jDt f n i = jDt g n i := by
  unfold jDt
  rw [h i hi hn, jOpI_c h (by omega : 0 ≤ i + 1)]
  by_cases q : i + 1 = n
  · by_cases w : jSo g i = 46
    · rw [if_pos ⟨w, Or.inl q⟩, if_pos ⟨w, Or.inl q⟩]
    · rw [if_neg (fun v => w v.1), if_neg (fun v => w v.1)]
  · rw [h (i + 1) (by omega) (by omega)]
theorem jSx_cg {f g : Nat → Int32} {n : Int} (h : jEqU f g n) : ∀ (k : Nat) (i : Int), 0 ≤ i → jSx f n k i = jSx g n k i := by
  intro k
  induction k with
  | zero => intro i _; rfl
  | succ k ih =>
    intro i hi
    rw [jSx_s (f := f) (by omega), jSx_s (f := g) (by omega), show k + 1 - 1 = k by omega]
    by_cases q : i < n
    · rw [if_pos q, if_pos q, jOpI_c h hi, jBcc_c h hi, jDt_cg h hi q, ih (i + 1) (by omega)]
      by_cases w : jBcc g n i < 0
      · rw [if_pos w, if_pos w]
      · rw [if_neg w, if_neg w, ih _ (by omega)]
    · rw [if_neg q, if_neg q]
theorem jEn_cg {f g : Nat → Int32} {n i : Int} (h : jEqU f g n) (hi : 0 ≤ i) : jEn f n i = jEn g n i := by
  unfold jEn jSen
  rw [jSx_cg h _ _ hi]
theorem jEn_nn {f : Nat → Int32} {n i : Int} (hn : 0 ≤ n) : 0 ≤ jEn f n i := by
  unfold jEn
  split
  · exact hn
  · omega
theorem jPn_cg {f g : Nat → Int32} {n : Int} (hn : 0 ≤ n) (h : jEqU f g n) : ∀ (k : Nat) (i c : Int), 0 ≤ i → jPn f n k i c = jPn g n k i c := by
  intro k
  induction k with
  | zero => intro i c _; rfl
  | succ k ih =>
    intro i c hi
    rw [jPn_s (f := f) (by omega), jPn_s (f := g) (by omega), show k + 1 - 1 = k by omega, jEn_cg h hi]
    have e : jGap f n (jEn g n i) = jGap g n (jEn g n i) := jGa_cg h _ _ (jEn_nn hn)
    have hnn : 0 ≤ jGap g n (jEn g n i) := jGa_nn hn _ _ (jEn_nn hn)
    rw [e, ih _ (c + 1) hnn]
theorem jPar_cg {f g : Nat → Int32} {n : Int} (hn : 0 ≤ n) (h : jEqU f g n) : jPar f n = jPar g n := by
  unfold jPar
  have e : jGap f n 0 = jGap g n 0 := jGa_cg h _ _ (by omega)
  have hnn : 0 ≤ jGap g n 0 := jGa_nn hn _ _ (by omega)
  rw [e, jPn_cg hn h _ _ _ hnn]
