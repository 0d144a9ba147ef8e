-- the digits of a number are counted
def jDc (c d : Int) : Prop := (d = 1 ∧ c < 10) ∨ (d = 2 ∧ c < 100) ∨ (d = 3 ∧ c < 1000) ∨ (d = 4 ∧ c < 10000) ∨ (d = 5 ∧ c < 100000) ∨ (d = 6 ∧ c < 1000000) ∨ (d = 7 ∧ c < 10000000)
def jDi (c v d : Int) : Prop := (d = 1 ∧ v = c) ∨ (d = 2 ∧ v = c / 10) ∨ (d = 3 ∧ v = c / 100) ∨ (d = 4 ∧ v = c / 1000) ∨ (d = 5 ∧ v = c / 10000) ∨ (d = 6 ∧ v = c / 100000) ∨ (d = 7 ∧ v = c / 1000000)
theorem jDi.start {c : Int} : jDi c c 1 := Or.inl ⟨rfl, rfl⟩
theorem jDi.step {c v d v1 d1 : Int} (h : jDi c v d) (h0 : 10 ≤ v) (hc : c ≤ 1048576) (e : v1 = v / 10) (e1 : d1 = d + 1) : jDi c v1 d1 := by
  subst e e1
  unfold jDi at h ⊢
  rcases h with ⟨rfl, rfl⟩ | ⟨rfl, rfl⟩ | ⟨rfl, rfl⟩ | ⟨rfl, rfl⟩ | ⟨rfl, rfl⟩ | ⟨rfl, rfl⟩ | ⟨rfl, rfl⟩
  · right; left; omega
  · right; right; left; omega
  · right; right; right; left; omega
  · right; right; right; right; left; omega
  · right; right; right; right; right; left; omega
  · right; right; right; right; right; right; omega
  · exfalso; omega
theorem jDi.bd {c v d : Int} (h : jDi c v d) : 1 ≤ d ∧ d ≤ 7 := by unfold jDi at h; omega
theorem jDi.end {c v d : Int} (h : jDi c v d) (h0 : v < 10) : jDc c d := by
  unfold jDi at h
  unfold jDc
  rcases h with ⟨rfl, rfl⟩ | ⟨rfl, rfl⟩ | ⟨rfl, rfl⟩ | ⟨rfl, rfl⟩ | ⟨rfl, rfl⟩ | ⟨rfl, rfl⟩ | ⟨rfl, rfl⟩
  · left; omega
  · right; left; omega
  · right; right; left; omega
  · right; right; right; left; omega
  · right; right; right; right; left; omega
  · right; right; right; right; right; left; omega
  · right; right; right; right; right; right; omega
theorem jDc.np {c d p n : Int} (h : jDc c d) (hn : p + d ≤ n) : jNp c p n := by
  unfold jDc at h
  unfold jNp
  rcases h with ⟨rfl, h⟩ | ⟨rfl, h⟩ | ⟨rfl, h⟩ | ⟨rfl, h⟩ | ⟨rfl, h⟩ | ⟨rfl, h⟩ | ⟨rfl, h⟩
  · left; omega
  · right; left; omega
  · right; right; left; omega
  · right; right; right; left; omega
  · right; right; right; right; left; omega
  · right; right; right; right; right; left; omega
  · right; right; right; right; right; right; omega
theorem jDc.end {c d p q : Int} (h : jDc c d) (h1 : 10 ≤ c ∨ q ≤ p + 1) (h2 : 100 ≤ c ∨ q ≤ p + 2) (h3 : 1000 ≤ c ∨ q ≤ p + 3) (h4 : 10000 ≤ c ∨ q ≤ p + 4) (h5 : 100000 ≤ c ∨ q ≤ p + 5) (h6 : 1000000 ≤ c ∨ q ≤ p + 6) (h7 : 10000000 ≤ c ∨ q ≤ p + 7) : q ≤ p + d := by
  unfold jDc at h
  rcases h with ⟨rfl, h⟩ | ⟨rfl, h⟩ | ⟨rfl, h⟩ | ⟨rfl, h⟩ | ⟨rfl, h⟩ | ⟨rfl, h⟩ | ⟨rfl, h⟩
  · clear h2 h3 h4 h5 h6 h7; omega
  · clear h1 h3 h4 h5 h6 h7; omega
  · clear h1 h2 h4 h5 h6 h7; omega
  · clear h1 h2 h3 h5 h6 h7; omega
  · clear h1 h2 h3 h4 h6 h7; omega
  · clear h1 h2 h3 h4 h5 h7; omega
  · clear h1 h2 h3 h4 h5 h6; omega
