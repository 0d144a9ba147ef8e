-- how many digits a number has, as they are written one by one
def jTb (g v : Int) : Prop := (g = 10 ∧ v = 1000000000) ∨ (g = 9 ∧ v = 100000000) ∨ (g = 8 ∧ v = 10000000) ∨ (g = 7 ∧ v = 1000000) ∨ (g = 6 ∧ v = 100000) ∨ (g = 5 ∧ v = 10000) ∨ (g = 4 ∧ v = 1000) ∨ (g = 3 ∧ v = 100) ∨ (g = 2 ∧ v = 10) ∨ (g = 1 ∧ v = 1) ∨ (g = 0 ∧ v = 0)
def jDj (a p g : Int) : Prop := (10 ≤ a ∨ p = 0 ∨ p + g ≤ 1) ∧ (100 ≤ a ∨ p = 0 ∨ p + g ≤ 2) ∧ (1000 ≤ a ∨ p = 0 ∨ p + g ≤ 3) ∧ (10000 ≤ a ∨ p = 0 ∨ p + g ≤ 4) ∧ (100000 ≤ a ∨ p = 0 ∨ p + g ≤ 5) ∧ (1000000 ≤ a ∨ p = 0 ∨ p + g ≤ 6) ∧ (10000000 ≤ a ∨ p = 0 ∨ p + g ≤ 7)
def jNdg (a v g p b : Int) : Prop := jTb g v ∧ ((b = 0 ∧ p = 0) ∨ (b = 1 ∧ 1 ≤ p)) ∧ (b = 0 ∨ g = 0 ∨ 10 * v ≤ a) ∧ jDj a p g
def jNp (a pc n : Int) : Prop := (a < 10 ∧ pc + 1 ≤ n) ∨ (a < 100 ∧ pc + 2 ≤ n) ∨ (a < 1000 ∧ pc + 3 ≤ n) ∨ (a < 10000 ∧ pc + 4 ≤ n) ∨ (a < 100000 ∧ pc + 5 ≤ n) ∨ (a < 1000000 ∧ pc + 6 ≤ n) ∨ (a < 10000000 ∧ pc + 7 ≤ n)
theorem jNdg.start {a : Int} : jNdg a 1000000000 10 0 0 := ⟨Or.inl ⟨rfl, rfl⟩, Or.inl ⟨rfl, rfl⟩, Or.inl rfl, Or.inr (Or.inl rfl), Or.inr (Or.inl rfl), Or.inr (Or.inl rfl), Or.inr (Or.inl rfl), Or.inr (Or.inl rfl), Or.inr (Or.inl rfl), Or.inr (Or.inl rfl)⟩
theorem jTb.step {g v : Int} (h : jTb g v) (hv : 0 < v) : jTb (g - 1) (v / 10) ∧ 1 ≤ g := by
  unfold jTb at h ⊢
  rcases h with ⟨rfl, rfl⟩ | ⟨rfl, rfl⟩ | ⟨rfl, rfl⟩ | ⟨rfl, rfl⟩ | ⟨rfl, rfl⟩ | ⟨rfl, rfl⟩ | ⟨rfl, rfl⟩ | ⟨rfl, rfl⟩ | ⟨rfl, rfl⟩ | ⟨rfl, rfl⟩ | ⟨rfl, rfl⟩ <;> first | omega | (exact ⟨by decide, by decide⟩)
/-- what a digit that is written tells of the number -/
theorem jNdg.ge {a v g p b : Int} (h : jNdg a v g p b) (hv : 0 < v) (hc : b = 1 ∨ 1 ≤ a / v ∨ v = 1) : v = 1 ∨ v ≤ a := by
  obtain ⟨h1, h2, h3, -⟩ := h
  rcases hc with hc | hc | hc
  · rcases h3 with h3 | h3 | h3
    · omega
    · unfold jTb at h1; omega
    · omega
  · right
    have h4 : v * 1 ≤ v * (a / v) := Int.mul_le_mul_of_nonneg_left hc (by omega)
    have h5 : v * (a / v) ≤ a := Int.mul_ediv_self_le (by omega)
    omega
  · left; exact hc
theorem jD1 {a p g : Int} {A J : Int} (h : A ≤ a ∨ p = 0 ∨ p + g ≤ J) (hp : p = 0 → A ≤ a ∨ g ≤ J) : A ≤ a ∨ p + 1 = 0 ∨ p + 1 + (g - 1) ≤ J := by
  rcases h with h | h | h
  · exact Or.inl h
  · rcases hp h with q | q
    · exact Or.inl q
    · right; right; omega
  · right; right; omega
theorem jTb.g1 {g v a : Int} (h : jTb g v) (hv : 0 < v) (ha : v = 1 ∨ v ≤ a) : (10 ≤ a ∨ g ≤ 1) ∧ (100 ≤ a ∨ g ≤ 2) ∧ (1000 ≤ a ∨ g ≤ 3) ∧ (10000 ≤ a ∨ g ≤ 4) ∧ (100000 ≤ a ∨ g ≤ 5) ∧ (1000000 ≤ a ∨ g ≤ 6) ∧ (10000000 ≤ a ∨ g ≤ 7) := by
  unfold jTb at h
  rcases h with ⟨rfl, rfl⟩ | ⟨rfl, rfl⟩ | ⟨rfl, rfl⟩ | ⟨rfl, rfl⟩ | ⟨rfl, rfl⟩ | ⟨rfl, rfl⟩ | ⟨rfl, rfl⟩ | ⟨rfl, rfl⟩ | ⟨rfl, rfl⟩ | ⟨rfl, rfl⟩ | ⟨rfl, rfl⟩ <;> first | omega | (refine ⟨?_, ?_, ?_, ?_, ?_, ?_, ?_⟩ <;> omega)
theorem jTb.ten {g v a : Int} (h : jTb g v) (hv : 0 < v) (ha : v = 1 ∨ v ≤ a) : g - 1 = 0 ∨ 10 * (v / 10) ≤ a := by
  unfold jTb at h
  rcases h with ⟨rfl, rfl⟩ | ⟨rfl, rfl⟩ | ⟨rfl, rfl⟩ | ⟨rfl, rfl⟩ | ⟨rfl, rfl⟩ | ⟨rfl, rfl⟩ | ⟨rfl, rfl⟩ | ⟨rfl, rfl⟩ | ⟨rfl, rfl⟩ | ⟨rfl, rfl⟩ | ⟨rfl, rfl⟩ <;> omega
theorem jNdg.put {a v g p b p1 b1 v1 : Int} (h : jNdg a v g p b) (hv : 0 < v) (hc : b = 1 ∨ 1 ≤ a / v ∨ v = 1) (hp : p1 = p + 1) (hb : b1 = 1) (hv1 : v1 = v / 10) : jNdg a v1 (g - 1) p1 b1 := by
  subst hp hb hv1
  have hge := h.ge hv hc
  obtain ⟨h1, h2, h3, d1, d2, d3, d4, d5, d6, d7⟩ := h
  obtain ⟨e1, e2, e3, e4, e5, e6, e7⟩ := h1.g1 hv hge
  exact ⟨(h1.step hv).1, Or.inr ⟨rfl, by rcases h2 with h2 | h2 <;> omega⟩, Or.inr (h1.ten hv hge), jD1 d1 (fun _ => e1), jD1 d2 (fun _ => e2), jD1 d3 (fun _ => e3), jD1 d4 (fun _ => e4), jD1 d5 (fun _ => e5), jD1 d6 (fun _ => e6), jD1 d7 (fun _ => e7)⟩
theorem jNdg.no {a v g p b p1 b1 v1 : Int} (h : jNdg a v g p b) (hv : 0 < v) (hb : b = 0) (hp : p1 = p) (hb1 : b1 = 0) (hv1 : v1 = v / 10) : jNdg a v1 (g - 1) p1 b1 := by
  subst hp hb1 hv1
  obtain ⟨h1, h2, h3, -⟩ := h
  have e : p1 = 0 := by rcases h2 with h2 | h2 <;> omega
  exact ⟨(h1.step hv).1, Or.inl ⟨rfl, e⟩, Or.inl rfl, Or.inr (Or.inl e), Or.inr (Or.inl e), Or.inr (Or.inl e), Or.inr (Or.inl e), Or.inr (Or.inl e), Or.inr (Or.inl e), Or.inr (Or.inl e)⟩
theorem jNdg.lt {a v g p b pc n : Int} (h : jNdg a v g p b) (hv : 0 < v) (hc : b = 1 ∨ 1 ≤ a / v ∨ v = 1) (hn : jNp a pc n) : pc + p < n := by
  have hge := h.ge hv hc
  obtain ⟨h1, h2, h3, d1, d2, d3, d4, d5, d6, d7⟩ := h
  obtain ⟨e1, e2, e3, e4, e5, e6, e7⟩ := h1.g1 hv hge
  have hg := (h1.step hv).2
  unfold jNp at hn
  rcases hn with hn | hn | hn | hn | hn | hn | hn
  · clear d2 d3 d4 d5 d6 d7 e2 e3 e4 e5 e6 e7; omega
  · clear d1 d3 d4 d5 d6 d7 e1 e3 e4 e5 e6 e7; omega
  · clear d1 d2 d4 d5 d6 d7 e1 e2 e4 e5 e6 e7; omega
  · clear d1 d2 d3 d5 d6 d7 e1 e2 e3 e5 e6 e7; omega
  · clear d1 d2 d3 d4 d6 d7 e1 e2 e3 e4 e6 e7; omega
  · clear d1 d2 d3 d4 d5 d7 e1 e2 e3 e4 e5 e7; omega
  · clear d1 d2 d3 d4 d5 d6 e1 e2 e3 e4 e5 e6; omega
theorem jNdg.end {a v g p b : Int} (h : jNdg a v g p b) (hv : v ≤ 0) : (10 ≤ a ∨ p ≤ 1) ∧ (100 ≤ a ∨ p ≤ 2) ∧ (1000 ≤ a ∨ p ≤ 3) ∧ (10000 ≤ a ∨ p ≤ 4) ∧ (100000 ≤ a ∨ p ≤ 5) ∧ (1000000 ≤ a ∨ p ≤ 6) ∧ (10000000 ≤ a ∨ p ≤ 7) := by
  obtain ⟨h1, h2, h3, d1, d2, d3, d4, d5, d6, d7⟩ := h
  have hg : g = 0 := by unfold jTb at h1; clear h2 h3 d1 d2 d3 d4 d5 d6 d7; omega
  clear h1 h2 h3
  subst hg
  refine ⟨?_, ?_, ?_, ?_, ?_, ?_, ?_⟩
  · clear d2 d3 d4 d5 d6 d7; omega
  · clear d1 d3 d4 d5 d6 d7; omega
  · clear d1 d2 d4 d5 d6 d7; omega
  · clear d1 d2 d3 d5 d6 d7; omega
  · clear d1 d2 d3 d4 d6 d7; omega
  · clear d1 d2 d3 d4 d5 d7; omega
  · clear d1 d2 d3 d4 d5 d6; omega
theorem jb_lremz {x d : Int64} (e : d = x - x / 10 * 10) : x.toInt ≠ 0 ∨ d.toInt = 0 := by
  by_cases h : x.toInt = 0
  · right
    have hx : x = 0 := Int64.toInt_inj.mp (by rw [h]; rfl)
    rw [e, hx]; decide
  · exact Or.inl h
