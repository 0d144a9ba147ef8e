-- formulas of the reference's kernel as rows of numbers: what a node is, its size, likeness, counting, putting in
abbrev jK : Type := (Nat → Int32) × (Nat → Int32) × (Nat → Int32) × (Nat → Int32) × (Nat → Int32) × (Nat → Int32)
abbrev jK.s (C : jK) : Nat → Int32 := C.1
abbrev jK.n (C : jK) : Nat → Int32 := C.2.1
abbrev jK.a (C : jK) : Nat → Int32 := C.2.2.1
abbrev jK.b (C : jK) : Nat → Int32 := C.2.2.2.1
abbrev jK.c (C : jK) : Nat → Int32 := C.2.2.2.2.1
abbrev jK.y (C : jK) : Nat → Int32 := C.2.2.2.2.2
abbrev jK.mk (s n a b c y : Nat → Int32) : jK := (s, n, a, b, c, y)
def jSo (f : Nat → Int32) (n : Int) : Int := (f n.toNat).toInt
def jPts (C : jK) (n : Int) : Int := if jSo C.s n = 7 ∨ jSo C.s n = 8 then jSo C.y (jSo C.n n) else if jSo C.s n ≤ 2 ∨ jSo C.s n = 6 then 2 else if jSo C.s n = 4 ∨ jSo C.s n = 5 then 1 else 0
def jPr (C : jK) (n k : Int) : Int := if k = 0 then jSo C.a n else if k = 1 then jSo C.b n else jSo C.c n
def jQf (C : jK) (n : Int) : Int := if jSo C.s n = 4 ∨ jSo C.s n = 5 then 1 else 0
theorem jQf_le (C : jK) (n : Int) : 0 ≤ jQf C n ∧ jQf C n ≤ 1 := by unfold jQf; split <;> omega
/-- a node of a formula: N nodes, Y symbols, b names that are bound around it -/
def jNd (C : jK) (N Y b n : Int) : Prop := 0 ≤ n ∧ n < N ∧ 0 ≤ jSo C.s n ∧ jSo C.s n ≤ 10 ∧ (jSo C.s n = 7 ∨ jSo C.s n = 8 → 0 ≤ jSo C.n n ∧ jSo C.n n < Y) ∧ (jSo C.s n = 10 → 0 ≤ jSo C.n n ∧ jSo C.n n < b) ∧ (jSo C.s n = 9 ∨ jSo C.s n = 4 ∨ jSo C.s n = 5 → 0 ≤ jSo C.n n ∧ jSo C.n n ≤ 1599) ∧ 0 ≤ jPts C n ∧ jPts C n ≤ 3
def jFm (C : jK) (N Y : Int) : Nat → Int → Int → Prop
  | 0, _, _ => False
  | d + 1, b, n => jNd C N Y b n ∧ ∀ k : Int, 0 ≤ k → k < jPts C n → jFm C N Y d (b + jQf C n) (jPr C n k)
def jSzF (C : jK) : Nat → Int → Int
  | 0, _ => 0
  | d + 1, n => 1 + (if 0 < jPts C n then jSzF C d (jPr C n 0) else 0) + (if 1 < jPts C n then jSzF C d (jPr C n 1) else 0) + (if 2 < jPts C n then jSzF C d (jPr C n 2) else 0)
def jsz (C : jK) (n : Int) : Int := jSzF C 4000 n
/-- the size of a node and its first k parts -/
def jSzK (C : jK) (n k : Int) : Int := 1 + (if 0 < k then jsz C (jPr C n 0) else 0) + (if 1 < k then jsz C (jPr C n 1) else 0) + (if 2 < k then jsz C (jPr C n 2) else 0)
theorem jFm.nd {C : jK} {N Y b n : Int} {d : Nat} (h : jFm C N Y d b n) : jNd C N Y b n := by
  cases d with
  | zero => exact h.elim
  | succ d => exact h.1
theorem jFm.pos {C : jK} {N Y b n : Int} {d : Nat} (h : jFm C N Y d b n) : 1 ≤ d := by
  cases d with
  | zero => exact h.elim
  | succ d => omega
theorem jFm.part {C : jK} {N Y b n : Int} {d : Nat} (h : jFm C N Y d b n) {k : Int} (h0 : 0 ≤ k) (h1 : k < jPts C n) : jFm C N Y (d - 1) (b + jQf C n) (jPr C n k) := by
  cases d with
  | zero => exact h.elim
  | succ d => exact h.2 k h0 h1
theorem jFm.mono {C : jK} {N Y : Int} {d : Nat} : ∀ {b n : Int}, jFm C N Y d b n → ∀ {d1 : Nat} {b1 : Int}, d ≤ d1 → b ≤ b1 → jFm C N Y d1 b1 n := by
  induction d with
  | zero => intro b n h; exact h.elim
  | succ d ih =>
    intro b n h d1 b1 hd hb
    cases d1 with
    | zero => omega
    | succ d1 =>
      obtain ⟨⟨h1, h2, h3, h4, h5, h6, h7, h8⟩, hp⟩ := h
      exact ⟨⟨h1, h2, h3, h4, h5, fun q => ⟨(h6 q).1, by have := (h6 q).2; omega⟩, h7, h8⟩, fun k g0 g1 => ih (hp k g0 g1) (by omega) (by omega)⟩
theorem jSzF_fuel {C : jK} {N Y : Int} {d : Nat} : ∀ {b n : Int}, jFm C N Y d b n → ∀ d1, d ≤ d1 → jSzF C d1 n = jSzF C d n := by
  induction d with
  | zero => intro b n h; exact h.elim
  | succ d ih =>
    intro b n h d1 hd
    cases d1 with
    | zero => omega
    | succ d1 =>
      have e : ∀ k, 0 ≤ k → k < jPts C n → jSzF C d1 (jPr C n k) = jSzF C d (jPr C n k) := fun k g0 g1 => ih (h.2 k g0 g1) d1 (by omega)
      unfold jSzF
      have e0 : (if 0 < jPts C n then jSzF C d1 (jPr C n 0) else 0) = (if 0 < jPts C n then jSzF C d (jPr C n 0) else 0) := by split; exact e 0 (by omega) (by omega); rfl
      have e1 : (if 1 < jPts C n then jSzF C d1 (jPr C n 1) else 0) = (if 1 < jPts C n then jSzF C d (jPr C n 1) else 0) := by split; exact e 1 (by omega) (by omega); rfl
      have e2 : (if 2 < jPts C n then jSzF C d1 (jPr C n 2) else 0) = (if 2 < jPts C n then jSzF C d (jPr C n 2) else 0) := by split; exact e 2 (by omega) (by omega); rfl
      rw [e0, e1, e2]
theorem jsz_step {C : jK} {N Y b n : Int} {d : Nat} (h : jFm C N Y d b n) (hd : d ≤ 4000) : jsz C n = jSzK C n (jPts C n) := by
  unfold jsz jSzK
  have e : ∀ k, 0 ≤ k → k < jPts C n → jSzF C 3999 (jPr C n k) = jsz C (jPr C n k) := fun k g0 g1 => by
    have hp := h.part g0 g1
    unfold jsz
    rw [jSzF_fuel hp 3999 (by omega), jSzF_fuel hp 4000 (by omega)]
  show 1 + (if 0 < jPts C n then jSzF C 3999 (jPr C n 0) else 0) + (if 1 < jPts C n then jSzF C 3999 (jPr C n 1) else 0) + (if 2 < jPts C n then jSzF C 3999 (jPr C n 2) else 0) = _
  have e0 : (if 0 < jPts C n then jSzF C 3999 (jPr C n 0) else 0) = (if 0 < jPts C n then jsz C (jPr C n 0) else 0) := by split; exact e 0 (by omega) (by omega); rfl
  have e1 : (if 1 < jPts C n then jSzF C 3999 (jPr C n 1) else 0) = (if 1 < jPts C n then jsz C (jPr C n 1) else 0) := by split; exact e 1 (by omega) (by omega); rfl
  have e2 : (if 2 < jPts C n then jSzF C 3999 (jPr C n 2) else 0) = (if 2 < jPts C n then jsz C (jPr C n 2) else 0) := by split; exact e 2 (by omega) (by omega); rfl
  rw [e0, e1, e2]
theorem jSzF_nn {C : jK} : ∀ (d : Nat) (n : Int), 0 ≤ jSzF C d n := by
  intro d
  induction d with
  | zero => intro n; unfold jSzF; omega
  | succ d ih =>
    intro n
    have h0 := ih (jPr C n 0); have h1 := ih (jPr C n 1); have h2 := ih (jPr C n 2)
    unfold jSzF
    split <;> split <;> split <;> omega
theorem jsz_nn (C : jK) (n : Int) : 0 ≤ jsz C n := jSzF_nn _ _
theorem jsz_pos {C : jK} {N Y b n : Int} {d : Nat} (_ : jFm C N Y d b n) : 1 ≤ jsz C n := by
  unfold jsz
  show 1 ≤ 1 + (if 0 < jPts C n then jSzF C 3999 (jPr C n 0) else 0) + (if 1 < jPts C n then jSzF C 3999 (jPr C n 1) else 0) + (if 2 < jPts C n then jSzF C 3999 (jPr C n 2) else 0)
  have h0 := jSzF_nn (C := C) 3999 (jPr C n 0); have h1 := jSzF_nn (C := C) 3999 (jPr C n 1); have h2 := jSzF_nn (C := C) 3999 (jPr C n 2)
  split <;> split <;> split <;> omega
theorem jSzK_0 (C : jK) (n : Int) : jSzK C n 0 = 1 := by unfold jSzK; simp
theorem jSzK_s (C : jK) (n : Int) {k : Int} (h0 : 0 ≤ k) (h1 : k ≤ 2) : jSzK C n (k + 1) = jSzK C n k + jsz C (jPr C n k) := by
  have h : k = 0 ∨ k = 1 ∨ k = 2 := by omega
  unfold jSzK
  rcases h with rfl | rfl | rfl <;> simp <;> omega
theorem jSzK_le (C : jK) (n : Int) {k p : Int} (h0 : 0 ≤ k) (h1 : k ≤ p) : jSzK C n k ≤ jSzK C n p := by
  have g0 := jsz_nn C (jPr C n 0); have g1 := jsz_nn C (jPr C n 1); have g2 := jsz_nn C (jPr C n 2)
  unfold jSzK
  split <;> split <;> split <;> split <;> split <;> split <;> omega
theorem jsz_part {C : jK} {N Y b n : Int} {d : Nat} (h : jFm C N Y d b n) (hd : d ≤ 4000) {k : Int} (h0 : 0 ≤ k) (h1 : k < jPts C n) : jsz C (jPr C n k) + 1 ≤ jsz C n := by
  have h9 := h.nd
  have hp : jPts C n ≤ 3 := h9.2.2.2.2.2.2.2.2
  rw [jsz_step h hd]
  have h2 := jSzK_le C n (k := k + 1) (p := jPts C n) (by omega) (by omega)
  rw [jSzK_s C n h0 (by omega)] at h2
  have h3 := jSzK_le C n (k := 0) (p := k) (by omega) h0
  rw [jSzK_0] at h3
  omega
/-- as deep as large at most -/
theorem jFm.tight {C : jK} {N Y : Int} {d : Nat} (hd : d ≤ 4000) : ∀ {b n : Int}, jFm C N Y d b n → ∀ e : Nat, jsz C n ≤ e → jFm C N Y e b n := by
  induction d with
  | zero => intro b n h; exact h.elim
  | succ d ih =>
    intro b n h e he
    have h1 := jsz_pos h
    cases e with
    | zero => exact absurd he (by omega)
    | succ e => exact ⟨h.1, fun k g0 g1 => ih (by omega) (h.2 k g0 g1) e (by have := jsz_part h (by omega) g0 g1; omega)⟩
-- the same rows below N
def jAgK (C D : jK) (N : Int) : Prop := (∀ j : Nat, (j : Int) < N → D.s j = C.s j ∧ D.n j = C.n j ∧ D.a j = C.a j ∧ D.b j = C.b j ∧ D.c j = C.c j) ∧ ∀ j, D.y j = C.y j
theorem jAgK.rf (C : jK) (N : Int) : jAgK C C N := ⟨fun _ _ => ⟨rfl, rfl, rfl, rfl, rfl⟩, fun _ => rfl⟩
theorem jAgK.tr {C D E : jK} {N M : Int} (h : jAgK C D N) (h1 : jAgK D E M) (hm : N ≤ M) : jAgK C E N := ⟨fun j hj => by
  obtain ⟨a1, a2, a3, a4, a5⟩ := h.1 j hj
  obtain ⟨b1, b2, b3, b4, b5⟩ := h1.1 j (by omega)
  exact ⟨b1.trans a1, b2.trans a2, b3.trans a3, b4.trans a4, b5.trans a5⟩, fun j => (h1.2 j).trans (h.2 j)⟩
theorem jAgK.so {C D : jK} {N n : Int} (h : jAgK C D N) (h0 : 0 ≤ n) (h1 : n < N) : jSo D.s n = jSo C.s n ∧ jSo D.n n = jSo C.n n ∧ jSo D.a n = jSo C.a n ∧ jSo D.b n = jSo C.b n ∧ jSo D.c n = jSo C.c n := by
  obtain ⟨a1, a2, a3, a4, a5⟩ := h.1 n.toNat (by omega)
  unfold jSo
  exact ⟨by rw [a1], by rw [a2], by rw [a3], by rw [a4], by rw [a5]⟩
theorem jAgK.pts {C D : jK} {N n : Int} (h : jAgK C D N) (h0 : 0 ≤ n) (h1 : n < N) : jPts D n = jPts C n := by
  obtain ⟨a1, a2, a3, a4, a5⟩ := h.so h0 h1
  unfold jPts
  rw [a1, a2]
  have e : jSo D.y (jSo C.n n) = jSo C.y (jSo C.n n) := by unfold jSo; rw [h.2]
  rw [e]
theorem jAgK.pr {C D : jK} {N n : Int} (h : jAgK C D N) (h0 : 0 ≤ n) (h1 : n < N) (k : Int) : jPr D n k = jPr C n k := by
  obtain ⟨a1, a2, a3, a4, a5⟩ := h.so h0 h1
  unfold jPr
  rw [a3, a4, a5]
theorem jAgK.qf {C D : jK} {N n : Int} (h : jAgK C D N) (h0 : 0 ≤ n) (h1 : n < N) : jQf D n = jQf C n := by
  unfold jQf
  rw [(h.so h0 h1).1]
theorem jFm.ag {C D : jK} {N M Y : Int} (hA : jAgK C D N) (hM : N ≤ M) {d : Nat} : ∀ {b n : Int}, jFm C N Y d b n → jFm D M Y d b n := by
  induction d with
  | zero => intro b n h; exact h.elim
  | succ d ih =>
    intro b n h
    obtain ⟨⟨h1, h2, h3, h4, h5, h6, h7, h8, h9⟩, hp⟩ := h
    obtain ⟨a1, a2, -⟩ := hA.so h1 h2
    have ap := hA.pts h1 h2
    refine ⟨⟨h1, by omega, ?_, ?_, ?_, ?_, ?_, ?_, ?_⟩, fun k g0 g1 => ?_⟩
    · rw [a1]; exact h3
    · rw [a1]; exact h4
    · rw [a1, a2]; exact h5
    · rw [a1, a2]; exact h6
    · rw [a1, a2]; exact h7
    · rw [ap]; exact h8
    · rw [ap]; exact h9
    · rw [hA.qf h1 h2, hA.pr h1 h2]; exact ih (hp k g0 (by rw [ap] at g1; exact g1))
theorem jSzF_ag {C D : jK} {N Y : Int} (hA : jAgK C D N) {d : Nat} : ∀ {b n : Int}, jFm C N Y d b n → ∀ e, jSzF D e n = jSzF C e n := by
  induction d with
  | zero => intro b n h; exact h.elim
  | succ d ih =>
    intro b n h e
    have h1 := h.nd.1; have h2 := h.nd.2.1
    cases e with
    | zero => rfl
    | succ e =>
      unfold jSzF
      rw [hA.pts h1 h2]
      have ee : ∀ k, 0 ≤ k → k < jPts C n → jSzF D e (jPr D n k) = jSzF C e (jPr C n k) := fun k g0 g1 => by rw [hA.pr h1 h2]; exact ih (h.2 k g0 g1) e
      have e0 : (if 0 < jPts C n then jSzF D e (jPr D n 0) else 0) = (if 0 < jPts C n then jSzF C e (jPr C n 0) else 0) := by split; exact ee 0 (by omega) (by omega); rfl
      have e1 : (if 1 < jPts C n then jSzF D e (jPr D n 1) else 0) = (if 1 < jPts C n then jSzF C e (jPr C n 1) else 0) := by split; exact ee 1 (by omega) (by omega); rfl
      have e2 : (if 2 < jPts C n then jSzF D e (jPr D n 2) else 0) = (if 2 < jPts C n then jSzF C e (jPr C n 2) else 0) := by split; exact ee 2 (by omega) (by omega); rfl
      rw [e0, e1, e2]
theorem jsz_ag {C D : jK} {N Y b n : Int} {d : Nat} (hA : jAgK C D N) (h : jFm C N Y d b n) : jsz D n = jsz C n := jSzF_ag hA h 4000
-- likeness
def jSmF (C : jK) : Nat → Int → Int → Int
  | 0, _, _ => 0
  | d + 1, x, y => if x = y then 1 else if jSo C.s x ≠ jSo C.s y then 0 else if (7 ≤ jSo C.s x ∧ jSo C.s x ≤ 10) ∧ jSo C.n x ≠ jSo C.n y then 0 else if 0 < jPts C x ∧ jSmF C d (jPr C x 0) (jPr C y 0) = 0 then 0 else if 1 < jPts C x ∧ jSmF C d (jPr C x 1) (jPr C y 1) = 0 then 0 else if 2 < jPts C x ∧ jSmF C d (jPr C x 2) (jPr C y 2) = 0 then 0 else 1
def jSm (C : jK) (x y : Int) : Int := jSmF C 4000 x y
def jSmK (C : jK) (x y k : Int) : Int := if 0 < k ∧ jSm C (jPr C x 0) (jPr C y 0) = 0 then 0 else if 1 < k ∧ jSm C (jPr C x 1) (jPr C y 1) = 0 then 0 else if 2 < k ∧ jSm C (jPr C x 2) (jPr C y 2) = 0 then 0 else 1
theorem jSmF_01 (C : jK) : ∀ (d : Nat) (x y : Int), jSmF C d x y = 0 ∨ jSmF C d x y = 1 := by
  intro d x y
  cases d with
  | zero => exact Or.inl rfl
  | succ d => unfold jSmF; repeat' split
              all_goals omega
theorem jSm_01 (C : jK) (x y : Int) : jSm C x y = 0 ∨ jSm C x y = 1 := jSmF_01 C _ x y
theorem jSm_le (C : jK) (x y : Int) : 0 ≤ jSm C x y ∧ jSm C x y ≤ 1 := by have := jSm_01 C x y; omega
theorem jSmF_fuel {C : jK} {N Y : Int} {d : Nat} : ∀ {b x : Int}, jFm C N Y d b x → ∀ (y : Int) (d1 : Nat), d ≤ d1 → jSmF C d1 x y = jSmF C d x y := by
  induction d with
  | zero => intro b n h; exact h.elim
  | succ d ih =>
    intro b x h y d1 hd
    cases d1 with
    | zero => omega
    | succ d1 =>
      have e : ∀ k, 0 ≤ k → k < jPts C x → jSmF C d1 (jPr C x k) (jPr C y k) = jSmF C d (jPr C x k) (jPr C y k) := fun k g0 g1 => ih (h.2 k g0 g1) _ d1 (by omega)
      unfold jSmF
      have e0 : (0 < jPts C x ∧ jSmF C d1 (jPr C x 0) (jPr C y 0) = 0) ↔ (0 < jPts C x ∧ jSmF C d (jPr C x 0) (jPr C y 0) = 0) := ⟨fun q => ⟨q.1, by rw [← e 0 (by omega) q.1]; exact q.2⟩, fun q => ⟨q.1, by rw [e 0 (by omega) q.1]; exact q.2⟩⟩
      have e1 : (1 < jPts C x ∧ jSmF C d1 (jPr C x 1) (jPr C y 1) = 0) ↔ (1 < jPts C x ∧ jSmF C d (jPr C x 1) (jPr C y 1) = 0) := ⟨fun q => ⟨q.1, by rw [← e 1 (by omega) q.1]; exact q.2⟩, fun q => ⟨q.1, by rw [e 1 (by omega) q.1]; exact q.2⟩⟩
      have e2 : (2 < jPts C x ∧ jSmF C d1 (jPr C x 2) (jPr C y 2) = 0) ↔ (2 < jPts C x ∧ jSmF C d (jPr C x 2) (jPr C y 2) = 0) := ⟨fun q => ⟨q.1, by rw [← e 2 (by omega) q.1]; exact q.2⟩, fun q => ⟨q.1, by rw [e 2 (by omega) q.1]; exact q.2⟩⟩
      simp only [e0, e1, e2]
theorem jSm_step {C : jK} {N Y b x : Int} {d : Nat} (h : jFm C N Y d b x) (hd : d ≤ 4000) (y : Int) : jSm C x y = if x = y then 1 else if jSo C.s x ≠ jSo C.s y then 0 else if (7 ≤ jSo C.s x ∧ jSo C.s x ≤ 10) ∧ jSo C.n x ≠ jSo C.n y then 0 else jSmK C x y (jPts C x) := by
  have e : ∀ k, 0 ≤ k → k < jPts C x → jSmF C 3999 (jPr C x k) (jPr C y k) = jSm C (jPr C x k) (jPr C y k) := fun k g0 g1 => by
    have hp := h.part g0 g1
    unfold jSm
    rw [jSmF_fuel hp _ 3999 (by omega), jSmF_fuel hp _ 4000 (by omega)]
  unfold jSm jSmK
  show jSmF C (3999 + 1) x y = _
  unfold jSmF
  have e0 : (0 < jPts C x ∧ jSmF C 3999 (jPr C x 0) (jPr C y 0) = 0) ↔ (0 < jPts C x ∧ jSm C (jPr C x 0) (jPr C y 0) = 0) := ⟨fun q => ⟨q.1, by rw [← e 0 (by omega) q.1]; exact q.2⟩, fun q => ⟨q.1, by rw [e 0 (by omega) q.1]; exact q.2⟩⟩
  have e1 : (1 < jPts C x ∧ jSmF C 3999 (jPr C x 1) (jPr C y 1) = 0) ↔ (1 < jPts C x ∧ jSm C (jPr C x 1) (jPr C y 1) = 0) := ⟨fun q => ⟨q.1, by rw [← e 1 (by omega) q.1]; exact q.2⟩, fun q => ⟨q.1, by rw [e 1 (by omega) q.1]; exact q.2⟩⟩
  have e2 : (2 < jPts C x ∧ jSmF C 3999 (jPr C x 2) (jPr C y 2) = 0) ↔ (2 < jPts C x ∧ jSm C (jPr C x 2) (jPr C y 2) = 0) := ⟨fun q => ⟨q.1, by rw [← e 2 (by omega) q.1]; exact q.2⟩, fun q => ⟨q.1, by rw [e 2 (by omega) q.1]; exact q.2⟩⟩
  simp only [e0, e1, e2]
theorem jSmK_0 (C : jK) (x y : Int) : jSmK C x y 0 = 1 := by unfold jSmK; simp
theorem jSmK_s (C : jK) (x y : Int) {k : Int} (h0 : 0 ≤ k) (h1 : k ≤ 2) (hs : jSm C (jPr C x k) (jPr C y k) ≠ 0) : jSmK C x y (k + 1) = jSmK C x y k := by
  have h : k = 0 ∨ k = 1 ∨ k = 2 := by omega
  unfold jSmK
  rcases h with rfl | rfl | rfl <;> simp [hs]
theorem jSmK_z (C : jK) (x y : Int) {k p : Int} (h0 : 0 ≤ k) (h1 : k < p) (h2 : p ≤ 3) (hs : jSm C (jPr C x k) (jPr C y k) = 0) : jSmK C x y p = 0 := by
  have h : k = 0 ∨ k = 1 ∨ k = 2 := by omega
  unfold jSmK
  rcases h with rfl | rfl | rfl
  · rw [if_pos ⟨by omega, hs⟩]
  · split
    · rfl
    · rw [if_pos ⟨by omega, hs⟩]
  · split
    · rfl
    · split
      · rfl
      · rw [if_pos ⟨by omega, hs⟩]
theorem jPts_like {C D : jK} {x y : Int} (hs : jSo D.s y = jSo C.s x) (hn : 7 ≤ jSo C.s x ∧ jSo C.s x ≤ 10 → jSo D.n y = jSo C.n x) (hy : ∀ j, D.y j = C.y j) : jPts D y = jPts C x := by
  unfold jPts
  rw [hs]
  by_cases q : jSo C.s x = 7 ∨ jSo C.s x = 8
  · rw [if_pos q, if_pos q, hn (by omega)]
    unfold jSo; rw [hy]
  · rw [if_neg q, if_neg q]
theorem jSm_sz {C : jK} {N Y : Int} {d : Nat} (hd : d ≤ 4000) : ∀ {b b1 x y : Int}, jFm C N Y d b x → jFm C N Y d b1 y → jSm C x y = 1 → jsz C x = jsz C y := by
  induction d with
  | zero => intro b b1 x y h; exact h.elim
  | succ d ih =>
    intro b b1 x y hx hy hs
    rw [jSm_step hx hd] at hs
    by_cases e : x = y
    · rw [e]
    rw [if_neg e] at hs
    by_cases e1 : jSo C.s x ≠ jSo C.s y
    · rw [if_pos e1] at hs; omega
    rw [if_neg e1] at hs
    by_cases e2 : (7 ≤ jSo C.s x ∧ jSo C.s x ≤ 10) ∧ jSo C.n x ≠ jSo C.n y
    · rw [if_pos e2] at hs; omega
    rw [if_neg e2] at hs
    have e3 : jSo C.s y = jSo C.s x := Decidable.byContradiction (fun q => e1 (fun z => q z.symm))
    have hp : jPts C y = jPts C x := jPts_like (D := C) e3 (fun q => Decidable.byContradiction (fun z => e2 ⟨q, fun w => z w.symm⟩)) (fun _ => rfl)
    rw [jsz_step hx hd, jsz_step hy hd, hp]
    have hp3 : jPts C x ≤ 3 := hx.nd.2.2.2.2.2.2.2.2
    have ek : ∀ k, 0 ≤ k → k < jPts C x → jsz C (jPr C x k) = jsz C (jPr C y k) := fun k g0 g1 => by
      refine ih (by omega) (hx.2 k g0 g1) (hy.2 k g0 (by omega)) ?_
      rcases jSm_01 C (jPr C x k) (jPr C y k) with z | z
      · rw [jSmK_z C x y g0 g1 hp3 z] at hs; omega
      · exact z
    unfold jSzK
    have e0 : (if 0 < jPts C x then jsz C (jPr C x 0) else 0) = (if 0 < jPts C x then jsz C (jPr C y 0) else 0) := by split; exact ek 0 (by omega) (by omega); rfl
    have e1 : (if 1 < jPts C x then jsz C (jPr C x 1) else 0) = (if 1 < jPts C x then jsz C (jPr C y 1) else 0) := by split; exact ek 1 (by omega) (by omega); rfl
    have e2 : (if 2 < jPts C x then jsz C (jPr C x 2) else 0) = (if 2 < jPts C x then jsz C (jPr C y 2) else 0) := by split; exact ek 2 (by omega) (by omega); rfl
    rw [e0, e1, e2]
theorem jSmF_ag {C D : jK} {N Y : Int} (hA : jAgK C D N) {d : Nat} : ∀ {b b1 x y : Int} {d1 : Nat}, jFm C N Y d b x → jFm C N Y d1 b1 y → ∀ e, jSmF D e x y = jSmF C e x y := by
  induction d with
  | zero => intro b b1 x y d1 h; exact h.elim
  | succ d ih =>
    intro b b1 x y d1 h hy e
    have h1 := h.nd.1; have h2 := h.nd.2.1
    have y1 := hy.nd.1; have y2 := hy.nd.2.1
    cases e with
    | zero => rfl
    | succ e =>
      obtain ⟨a1, a2, -⟩ := hA.so h1 h2
      obtain ⟨c1, c2, -⟩ := hA.so y1 y2
      unfold jSmF
      rw [hA.pts h1 h2, a1, a2, c1, c2]
      by_cases q0 : x = y
      · rw [if_pos q0, if_pos q0]
      rw [if_neg q0, if_neg q0]
      by_cases q1 : jSo C.s x ≠ jSo C.s y
      · rw [if_pos q1, if_pos q1]
      rw [if_neg q1, if_neg q1]
      by_cases q2 : (7 ≤ jSo C.s x ∧ jSo C.s x ≤ 10) ∧ jSo C.n x ≠ jSo C.n y
      · rw [if_pos q2, if_pos q2]
      rw [if_neg q2, if_neg q2]
      have e3 : jSo C.s y = jSo C.s x := Decidable.byContradiction (fun q => q1 (fun z => q z.symm))
      have hp : jPts C y = jPts C x := jPts_like (D := C) e3 (fun q => Decidable.byContradiction (fun z => q2 ⟨q, fun w => z w.symm⟩)) (fun _ => rfl)
      have ee : ∀ k, 0 ≤ k → k < jPts C x → jSmF D e (jPr D x k) (jPr D y k) = jSmF C e (jPr C x k) (jPr C y k) := fun k g0 g1 => by rw [hA.pr h1 h2, hA.pr y1 y2]; exact ih (h.2 k g0 g1) (hy.part g0 (by omega)) e
      have e0 : (0 < jPts C x ∧ jSmF D e (jPr D x 0) (jPr D y 0) = 0) ↔ (0 < jPts C x ∧ jSmF C e (jPr C x 0) (jPr C y 0) = 0) := ⟨fun q => ⟨q.1, by rw [← ee 0 (by omega) q.1]; exact q.2⟩, fun q => ⟨q.1, by rw [ee 0 (by omega) q.1]; exact q.2⟩⟩
      have e1 : (1 < jPts C x ∧ jSmF D e (jPr D x 1) (jPr D y 1) = 0) ↔ (1 < jPts C x ∧ jSmF C e (jPr C x 1) (jPr C y 1) = 0) := ⟨fun q => ⟨q.1, by rw [← ee 1 (by omega) q.1]; exact q.2⟩, fun q => ⟨q.1, by rw [ee 1 (by omega) q.1]; exact q.2⟩⟩
      have e2 : (2 < jPts C x ∧ jSmF D e (jPr D x 2) (jPr D y 2) = 0) ↔ (2 < jPts C x ∧ jSmF C e (jPr C x 2) (jPr C y 2) = 0) := ⟨fun q => ⟨q.1, by rw [← ee 2 (by omega) q.1]; exact q.2⟩, fun q => ⟨q.1, by rw [ee 2 (by omega) q.1]; exact q.2⟩⟩
      simp only [e0, e1, e2]
theorem jSm_ag {C D : jK} {N Y b b1 x y : Int} {d d1 : Nat} (hA : jAgK C D N) (h : jFm C N Y d b x) (hy : jFm C N Y d1 b1 y) : jSm D x y = jSm C x y := jSmF_ag hA h hy 4000
-- a sum over parts, for functions of a fuel
def jSu (p : Int) (f : Int → Int) : Int := (if 0 < p then f 0 else 0) + (if 1 < p then f 1 else 0) + (if 2 < p then f 2 else 0)
theorem jSu_congr {p : Int} {f g : Int → Int} (h : ∀ k, 0 ≤ k → k < p → f k = g k) : jSu p f = jSu p g := by
  unfold jSu
  have e0 : (if 0 < p then f 0 else 0) = (if 0 < p then g 0 else 0) := by split; exact h 0 (by omega) (by omega); rfl
  have e1 : (if 1 < p then f 1 else 0) = (if 1 < p then g 1 else 0) := by split; exact h 1 (by omega) (by omega); rfl
  have e2 : (if 2 < p then f 2 else 0) = (if 2 < p then g 2 else 0) := by split; exact h 2 (by omega) (by omega); rfl
  rw [e0, e1, e2]
theorem jSu_0 (f : Int → Int) : jSu 0 f = 0 := by unfold jSu; simp
theorem jSu_s (f : Int → Int) {k : Int} (h0 : 0 ≤ k) (h1 : k ≤ 2) : jSu (k + 1) f = jSu k f + f k := by
  have h : k = 0 ∨ k = 1 ∨ k = 2 := by omega
  unfold jSu
  rcases h with rfl | rfl | rfl <;> simp
theorem jSu_le {f : Int → Int} (hf : ∀ k, 0 ≤ f k) {k p : Int} (h1 : k ≤ p) : jSu k f ≤ jSu p f := by
  have g0 := hf 0; have g1 := hf 1; have g2 := hf 2
  unfold jSu
  split <;> split <;> split <;> split <;> split <;> split <;> omega
theorem jSu_nn {f : Int → Int} (hf : ∀ k, 0 ≤ f k) (p : Int) : 0 ≤ jSu p f := by
  have g0 := hf 0; have g1 := hf 1; have g2 := hf 2
  unfold jSu
  split <;> split <;> split <;> omega
theorem jSzK_eq (C : jK) (n k : Int) : jSzK C n k = 1 + jSu k (fun j => jsz C (jPr C n j)) := by unfold jSzK jSu; simp only []; omega
-- how often t stands in n
def jCnF (C : jK) (t : Int) : Nat → Int → Int
  | 0, _ => 0
  | d + 1, n => if jSm C n t = 1 then 1 else jSu (jPts C n) (fun k => jCnF C t d (jPr C n k))
def jCn (C : jK) (t n : Int) : Int := jCnF C t 4000 n
def jCnK (C : jK) (t n k : Int) : Int := jSu k (fun j => jCn C t (jPr C n j))
theorem jCnF_nn (C : jK) (t : Int) : ∀ (d : Nat) (n : Int), 0 ≤ jCnF C t d n := by
  intro d
  induction d with
  | zero => intro n; exact Int.le_refl 0
  | succ d ih => intro n; unfold jCnF; split; omega; exact jSu_nn (fun k => ih _) _
theorem jCn_nn (C : jK) (t n : Int) : 0 ≤ jCn C t n := jCnF_nn C t 4000 n
theorem jCnF_fuel {C : jK} {N Y t : Int} {d : Nat} : ∀ {b x : Int}, jFm C N Y d b x → ∀ (d1 : Nat), d ≤ d1 → jCnF C t d1 x = jCnF C t d x := by
  induction d with
  | zero => intro b n h; exact h.elim
  | succ d ih =>
    intro b x h d1 hd
    cases d1 with
    | zero => omega
    | succ d1 =>
      unfold jCnF
      rw [jSu_congr (fun k g0 g1 => ih (h.2 k g0 g1) d1 (by omega))]
theorem jCn_step {C : jK} {N Y b t x : Int} {d : Nat} (h : jFm C N Y d b x) (hd : d ≤ 4000) : jCn C t x = if jSm C x t = 1 then 1 else jCnK C t x (jPts C x) := by
  unfold jCnK jCn
  show jCnF C t (3999 + 1) x = _
  unfold jCnF
  rw [jSu_congr (g := fun j => jCnF C t 4000 (jPr C x j)) (fun k g0 g1 => by rw [jCnF_fuel (h.part g0 g1) 3999 (by omega), jCnF_fuel (h.part g0 g1) 4000 (by omega)])]
  rfl
theorem jCnK_0 (C : jK) (t x : Int) : jCnK C t x 0 = 0 := jSu_0 _
theorem jCnK_s (C : jK) (t x : Int) {k : Int} (h0 : 0 ≤ k) (h1 : k ≤ 2) : jCnK C t x (k + 1) = jCnK C t x k + jCn C t (jPr C x k) := jSu_s _ h0 h1
theorem jSu_mono {p : Int} {f g : Int → Int} (h : ∀ k, 0 ≤ k → k < p → f k ≤ g k) : jSu p f ≤ jSu p g := by
  unfold jSu
  have e0 : (if 0 < p then f 0 else 0) ≤ (if 0 < p then g 0 else 0) := by split; exact h 0 (by omega) (by omega); omega
  have e1 : (if 1 < p then f 1 else 0) ≤ (if 1 < p then g 1 else 0) := by split; exact h 1 (by omega) (by omega); omega
  have e2 : (if 2 < p then f 2 else 0) ≤ (if 2 < p then g 2 else 0) := by split; exact h 2 (by omega) (by omega); omega
  omega
theorem jCn_le {C : jK} {N Y t : Int} {d : Nat} (hd : d ≤ 4000) : ∀ {b x : Int}, jFm C N Y d b x → jCn C t x ≤ jsz C x := by
  induction d with
  | zero => intro b n h; exact h.elim
  | succ d ih =>
    intro b x h
    have h1 := jsz_pos h
    rw [jCn_step h hd]
    split
    · exact h1
    · rw [jsz_step h hd, jSzK_eq]
      have := jSu_mono (p := jPts C x) (f := fun j => jCn C t (jPr C x j)) (g := fun j => jsz C (jPr C x j)) (fun k g0 g1 => ih (by omega) (h.2 k g0 g1))
      unfold jCnK
      omega
theorem jCnK_le {C : jK} {N Y b t x : Int} {d : Nat} (hd : d ≤ 4000) (h : jFm C N Y d b x) {k : Int} (hk : k ≤ jPts C x) : 0 ≤ jCnK C t x k ∧ jCnK C t x k < jsz C x := by
  refine ⟨jSu_nn (fun _ => jCn_nn C t _) _, ?_⟩
  rw [jsz_step h hd, jSzK_eq]
  have h1 := jSu_mono (p := k) (f := fun j => jCn C t (jPr C x j)) (g := fun j => jsz C (jPr C x j)) (fun k' g0 g1 => jCn_le (by omega) (h.part g0 (by omega)))
  have h2 := jSu_le (f := fun j => jsz C (jPr C x j)) (fun _ => jsz_nn C _) hk
  unfold jCnK
  omega
-- the size with terms put in
def jSwF (C : jK) (T : Nat → Int32) (m : Int) : Nat → Int → Int → Int
  | 0, _, _ => 0
  | d + 1, v, n => if jSo C.s n = 10 ∧ v ≤ jSo C.n n ∧ jSo C.n n < v + m then jsz C (jSo T (m - 1 - jSo C.n n + v)) else 1 + jSu (jPts C n) (fun k => jSwF C T m d (v + jQf C n) (jPr C n k))
def jSw (C : jK) (T : Nat → Int32) (m v n : Int) : Int := jSwF C T m 4000 v n
def jSwK (C : jK) (T : Nat → Int32) (m v n k : Int) : Int := 1 + jSu k (fun j => jSw C T m (v + jQf C n) (jPr C n j))
theorem jSwF_nn (C : jK) (T : Nat → Int32) (m : Int) : ∀ (d : Nat) (v n : Int), 0 ≤ jSwF C T m d v n := by
  intro d
  induction d with
  | zero => intro v n; exact Int.le_refl 0
  | succ d ih =>
    intro v n; unfold jSwF; split
    · exact jsz_nn C _
    · have := jSu_nn (f := fun k => jSwF C T m d (v + jQf C n) (jPr C n k)) (fun k => ih _ _) (jPts C n); omega
theorem jSwF_fuel {C : jK} {N Y m : Int} {T : Nat → Int32} {d : Nat} : ∀ {b x : Int}, jFm C N Y d b x → ∀ (v : Int) (d1 : Nat), d ≤ d1 → jSwF C T m d1 v x = jSwF C T m d v x := by
  induction d with
  | zero => intro b n h; exact h.elim
  | succ d ih =>
    intro b x h v d1 hd
    cases d1 with
    | zero => omega
    | succ d1 =>
      unfold jSwF
      rw [jSu_congr (fun k g0 g1 => ih (h.2 k g0 g1) _ d1 (by omega))]
theorem jSw_step {C : jK} {N Y b m x : Int} {T : Nat → Int32} {d : Nat} (h : jFm C N Y d b x) (hd : d ≤ 4000) (v : Int) : jSw C T m v x = if jSo C.s x = 10 ∧ v ≤ jSo C.n x ∧ jSo C.n x < v + m then jsz C (jSo T (m - 1 - jSo C.n x + v)) else jSwK C T m v x (jPts C x) := by
  have e : jSw C T m v x = if jSo C.s x = 10 ∧ v ≤ jSo C.n x ∧ jSo C.n x < v + m then jsz C (jSo T (m - 1 - jSo C.n x + v)) else 1 + jSu (jPts C x) (fun k => jSwF C T m 3999 (v + jQf C x) (jPr C x k)) := rfl
  rw [e, jSu_congr (g := fun j => jSw C T m (v + jQf C x) (jPr C x j)) (fun k g0 g1 => by unfold jSw; rw [jSwF_fuel (h.part g0 g1) _ 3999 (by omega), jSwF_fuel (h.part g0 g1) _ 4000 (by omega)])]
  rfl
theorem jSwK_0 (C : jK) (T : Nat → Int32) (m v x : Int) : jSwK C T m v x 0 = 1 := by unfold jSwK; rw [jSu_0]; rfl
theorem jSwK_s (C : jK) (T : Nat → Int32) (m v x : Int) {k : Int} (h0 : 0 ≤ k) (h1 : k ≤ 2) : jSwK C T m v x (k + 1) = jSwK C T m v x k + jSw C T m (v + jQf C x) (jPr C x k) := by unfold jSwK; rw [jSu_s _ h0 h1]; omega
theorem jSwK_le (C : jK) (T : Nat → Int32) (m v x : Int) {k p : Int} (h1 : k ≤ p) : jSwK C T m v x k ≤ jSwK C T m v x p := by
  have := jSu_le (f := fun j => jSw C T m (v + jQf C x) (jPr C x j)) (fun _ => jSwF_nn C T m _ _ _) h1
  unfold jSwK; omega
theorem jSw_nn (C : jK) (T : Nat → Int32) (m v x : Int) : 0 ≤ jSw C T m v x := jSwF_nn C T m _ _ _
/-- the terms that are put in -/
def jTs (C : jK) (N Y : Int) (e : Nat) (T : Nat → Int32) (m : Int) : Prop := ∀ k : Int, 0 ≤ k → k < m → jFm C N Y e 0 (jSo T k) ∧ jsz C (jSo T k) ≤ 5000
theorem jTs.ag {C D : jK} {N M Y m : Int} {e : Nat} {T : Nat → Int32} (h : jTs C N Y e T m) (hA : jAgK C D N) (hM : N ≤ M) : jTs D M Y e T m := fun k g0 g1 => ⟨(h k g0 g1).1.ag hA hM, by rw [jsz_ag hA (h k g0 g1).1]; exact (h k g0 g1).2⟩
theorem jSw_le {C : jK} {N Y m : Int} {T : Nat → Int32} {e : Nat} (hT : jTs C N Y e T m) {d : Nat} (hd : d ≤ 4000) : ∀ {b x : Int} (v : Int), jFm C N Y d b x → jSw C T m v x ≤ 5000 * jsz C x := by
  induction d with
  | zero => intro b n v h; exact h.elim
  | succ d ih =>
    intro b x v h
    have h1 := jsz_pos h
    rw [jSw_step h hd]
    split
    · next q =>
      have := (hT (m - 1 - jSo C.n x + v) (by omega) (by omega)).2
      omega
    · rw [jsz_step h hd, jSzK_eq]
      unfold jSwK
      have h2 : ∀ k, 0 ≤ k → k < jPts C x → jSw C T m (v + jQf C x) (jPr C x k) ≤ 5000 * jsz C (jPr C x k) := fun k g0 g1 => ih (by omega) _ (h.2 k g0 g1)
      have h3 := jSu_mono (p := jPts C x) h2
      have h4 : jSu (jPts C x) (fun k => 5000 * jsz C (jPr C x k)) = 5000 * jSu (jPts C x) (fun k => jsz C (jPr C x k)) := by
        unfold jSu
        simp only []
        split <;> split <;> split <;> omega
      rw [h4] at h3
      omega
theorem jSw_ag {C D : jK} {N Y m : Int} {T : Nat → Int32} {e : Nat} (hA : jAgK C D N) (hT : jTs C N Y e T m) {d : Nat} : ∀ {b x : Int}, jFm C N Y d b x → ∀ (v : Int) (d1 : Nat), jSwF D T m d1 v x = jSwF C T m d1 v x := by
  induction d with
  | zero => intro b n h; exact h.elim
  | succ d ih =>
    intro b x h v d1
    have h1 := h.nd.1; have h2 := h.nd.2.1
    cases d1 with
    | zero => rfl
    | succ d1 =>
      obtain ⟨a1, a2, -⟩ := hA.so h1 h2
      unfold jSwF
      rw [a1, a2, hA.pts h1 h2, hA.qf h1 h2]
      by_cases q : jSo C.s x = 10 ∧ v ≤ jSo C.n x ∧ jSo C.n x < v + m
      · rw [if_pos q, if_pos q]
        exact jsz_ag hA (hT _ (by omega) (by omega)).1
      · rw [if_neg q, if_neg q, jSu_congr (g := fun k => jSwF C T m d1 (v + jQf C x) (jPr C x k)) (fun k g0 g1 => by rw [hA.pr h1 h2]; exact ih (h.2 k g0 g1) _ d1)]
theorem jSw_ag' {C D : jK} {N Y b x v m : Int} {T : Nat → Int32} {e d : Nat} (hA : jAgK C D N) (hT : jTs C N Y e T m) (h : jFm C N Y d b x) : jSw D T m v x = jSw C T m v x := jSw_ag hA hT h v 4000
-- a new node behind all others
def jNw (C D : jK) (N ws wn wa wb wc : Int) : Prop := jAgK C D N ∧ jSo D.s N = ws ∧ jSo D.n N = wn ∧ jSo D.a N = wa ∧ jSo D.b N = wb ∧ jSo D.c N = wc
theorem jNw.fm {C D : jK} {N Y b ws wn wa wb wc : Int} {d : Nat} (h : jNw C D N ws wn wa wb wc) (hnd : jNd D (N + 1) Y b N) (ha : 0 < jPts D N → jFm C N Y d (b + jQf D N) wa) (hb : 1 < jPts D N → jFm C N Y d (b + jQf D N) wb) (hc : 2 < jPts D N → jFm C N Y d (b + jQf D N) wc) : jFm D (N + 1) Y (d + 1) b N := by
  obtain ⟨hA, e1, e2, e3, e4, e5⟩ := h
  refine ⟨hnd, fun k g0 g1 => ?_⟩
  have hp3 : jPts D N ≤ 3 := hnd.2.2.2.2.2.2.2.2
  have hk : k = 0 ∨ k = 1 ∨ k = 2 := by omega
  rcases hk with rfl | rfl | rfl
  · show jFm D (N + 1) Y d (b + jQf D N) (jSo D.a N); rw [e3]; exact (ha g1).ag hA (by omega)
  · show jFm D (N + 1) Y d (b + jQf D N) (jSo D.b N); rw [e4]; exact (hb g1).ag hA (by omega)
  · show jFm D (N + 1) Y d (b + jQf D N) (jSo D.c N); rw [e5]; exact (hc g1).ag hA (by omega)
theorem jNw.sz {C D : jK} {N Y b ws wn wa wb wc : Int} {d : Nat} (h : jNw C D N ws wn wa wb wc) (hd : d + 1 ≤ 4000) (hF : jFm D (N + 1) Y (d + 1) b N) (ha : 0 < jPts D N → jFm C N Y d (b + jQf D N) wa) (hb : 1 < jPts D N → jFm C N Y d (b + jQf D N) wb) (hc : 2 < jPts D N → jFm C N Y d (b + jQf D N) wc) : jsz D N = 1 + (if 0 < jPts D N then jsz C wa else 0) + (if 1 < jPts D N then jsz C wb else 0) + (if 2 < jPts D N then jsz C wc else 0) := by
  obtain ⟨hA, e1, e2, e3, e4, e5⟩ := h
  rw [jsz_step hF hd]
  unfold jSzK
  have q0 : (if 0 < jPts D N then jsz D (jPr D N 0) else 0) = (if 0 < jPts D N then jsz C wa else 0) := by split; (next g => show jsz D (jSo D.a N) = _; rw [e3, jsz_ag hA (ha g)]); rfl
  have q1 : (if 1 < jPts D N then jsz D (jPr D N 1) else 0) = (if 1 < jPts D N then jsz C wb else 0) := by split; (next g => show jsz D (jSo D.b N) = _; rw [e4, jsz_ag hA (hb g)]); rfl
  have q2 : (if 2 < jPts D N then jsz D (jPr D N 2) else 0) = (if 2 < jPts D N then jsz C wc else 0) := by split; (next g => show jsz D (jSo D.c N) = _; rw [e5, jsz_ag hA (hc g)]); rfl
  rw [q0, q1, q2]
theorem jFm.wide {C : jK} {N Y N1 Y1 : Int} (hN : N ≤ N1) (hY : Y ≤ Y1) {d : Nat} : ∀ {b n : Int}, jFm C N Y d b n → jFm C N1 Y1 d b n := by
  induction d with
  | zero => intro b n h; exact h.elim
  | succ d ih =>
    intro b n h
    obtain ⟨⟨h1, h2, h3, h4, h5, h6⟩, hp⟩ := h
    exact ⟨⟨h1, by omega, h3, h4, fun q => ⟨(h5 q).1, by have := (h5 q).2; omega⟩, h6⟩, fun k g0 g1 => ih (hp k g0 g1)⟩
/-- a formula of some depth at most, whatever is bound around it -/
def jTr (C : jK) (d : Nat) (n : Int) : Prop := ∃ b, jFm C 120000 16 d b n
theorem jFm.tr {C : jK} {N Y b n : Int} {d : Nat} (h : jFm C N Y d b n) (hN : N ≤ 120000) (hY : Y ≤ 16) : jTr C d n := ⟨b, h.wide hN hY⟩
theorem jTr.part {C : jK} {d : Nat} {n k : Int} (h : jTr C d n) (h0 : 0 ≤ k) (h1 : k < jPts C n) : jTr C (d - 1) (jPr C n k) := by obtain ⟨b, h⟩ := h; exact ⟨_, h.part h0 h1⟩
theorem jTr.mono {C : jK} {d d1 : Nat} {n : Int} (h : jTr C d n) (hd : d ≤ d1) : jTr C d1 n := by obtain ⟨b, h⟩ := h; exact ⟨b, h.mono hd (Int.le_refl b)⟩
theorem jTr.ok {C : jK} {d : Nat} {n : Int} (h : jTr C d n) : 0 ≤ n ∧ n < 120000 ∧ 0 ≤ jSo C.s n ∧ jSo C.s n ≤ 10 ∧ (jSo C.s n = 7 ∨ jSo C.s n = 8 → 0 ≤ jSo C.n n ∧ jSo C.n n < 16) ∧ 0 ≤ jPts C n ∧ jPts C n ≤ 3 ∧ 1 ≤ d := by
  obtain ⟨b, h⟩ := h
  obtain ⟨h1, h2, h3, h4, h5, h6, h7, h8, h9⟩ := h.nd
  exact ⟨h1, h2, h3, h4, h5, h8, h9, h.pos⟩
theorem jTr.step {C : jK} {d : Nat} {n : Int} (h : jTr C d n) (hd : d ≤ 4000) : jsz C n = jSzK C n (jPts C n) := by obtain ⟨b, h⟩ := h; exact jsz_step h hd
theorem jTr.pos {C : jK} {d : Nat} {n : Int} (h : jTr C d n) : 1 ≤ jsz C n := by obtain ⟨b, h⟩ := h; exact jsz_pos h
theorem jTr.szp {C : jK} {d : Nat} {n k : Int} (h : jTr C d n) (hd : d ≤ 4000) (h0 : 0 ≤ k) (h1 : k < jPts C n) : jsz C (jPr C n k) + 1 ≤ jsz C n := by obtain ⟨b, h⟩ := h; exact jsz_part h hd h0 h1
theorem jTr.sm {C : jK} {d : Nat} {x : Int} (h : jTr C d x) (hd : d ≤ 4000) (y : Int) : jSm C x y = if x = y then 1 else if jSo C.s x ≠ jSo C.s y then 0 else if (7 ≤ jSo C.s x ∧ jSo C.s x ≤ 10) ∧ jSo C.n x ≠ jSo C.n y then 0 else jSmK C x y (jPts C x) := by obtain ⟨b, h⟩ := h; exact jSm_step h hd y
theorem jTr.cn {C : jK} {d : Nat} {x t : Int} (h : jTr C d x) (hd : d ≤ 4000) : jCn C t x = if jSm C x t = 1 then 1 else jCnK C t x (jPts C x) := by obtain ⟨b, h⟩ := h; exact jCn_step h hd
theorem jTr.cnk {C : jK} {d : Nat} {x t k : Int} (h : jTr C d x) (hd : d ≤ 4000) (hk : k ≤ jPts C x) : 0 ≤ jCnK C t x k ∧ jCnK C t x k < jsz C x := by obtain ⟨b, h⟩ := h; exact jCnK_le hd h hk
-- nothing bound inside
def jNbF (C : jK) : Nat → Int → Prop
  | 0, _ => True
  | d + 1, n => jSo C.s n ≠ 10 ∧ ∀ k : Int, 0 ≤ k → k < jPts C n → jNbF C d (jPr C n k)
def jNbK (C : jK) (d : Nat) (n k : Int) : Prop := ∀ j : Int, 0 ≤ j → j < k → jNbF C d (jPr C n j)
theorem jNbK_0 (C : jK) (d : Nat) (n : Int) : jNbK C d n 0 := fun j h0 h1 => by omega
theorem jNbK_s {C : jK} {d : Nat} {n k : Int} (h : jNbK C d n k) (h1 : jNbF C d (jPr C n k)) : jNbK C d n (k + 1) := fun j g0 g1 => by
  by_cases e : j = k
  · rw [e]; exact h1
  · exact h j g0 (by omega)
theorem jNbF_mk {C : jK} {d : Nat} {n : Int} (hd : 1 ≤ d) (h0 : jSo C.s n ≠ 10) (h : jNbK C (d - 1) n (jPts C n)) : jNbF C d n := by
  cases d with
  | zero => omega
  | succ d => exact ⟨h0, h⟩
theorem jFm.closed {C : jK} {N Y : Int} {d : Nat} : ∀ {b n : Int}, jFm C N Y d b n → jNbF C d n → ∀ b1, jFm C N Y d b1 n := by
  induction d with
  | zero => intro b n h; exact h.elim
  | succ d ih =>
    intro b n h hn b1
    obtain ⟨⟨h1, h2, h3, h4, h5, h6, h7⟩, hp⟩ := h
    exact ⟨⟨h1, h2, h3, h4, h5, fun q => absurd q hn.1, h7⟩, fun k g0 g1 => ih (hp k g0 g1) (hn.2 k g0 g1) _⟩
theorem jQf_ok (C : jK) (n : Int) : (jSo C.s n = 4 ∨ jSo C.s n = 5 → jQf C n = 1) ∧ (jSo C.s n ≠ 4 ∧ jSo C.s n ≠ 5 → jQf C n = 0) ∧ 0 ≤ jQf C n ∧ jQf C n ≤ 1 := by
  unfold jQf
  split <;> omega
theorem jPts_nl (C : jK) (n : Int) : (jSo C.s n = 10 → jPts C n = 0) ∧ (jSo C.s n = 4 ∨ jSo C.s n = 5 → jPts C n = 1) ∧ (jSo C.s n = 0 ∨ jSo C.s n = 1 ∨ jSo C.s n = 2 ∨ jSo C.s n = 6 → jPts C n = 2) ∧ (jSo C.s n = 3 ∨ jSo C.s n = 9 → jPts C n = 0) := by
  unfold jPts
  refine ⟨fun h => ?_, fun h => ?_, fun h => ?_, fun h => ?_⟩
  · rw [if_neg (by omega), if_neg (by omega), if_neg (by omega)]
  · rw [if_neg (by omega), if_neg (by omega), if_pos (by omega)]
  · rw [if_neg (by omega), if_pos (by omega)]
  · rw [if_neg (by omega), if_neg (by omega), if_neg (by omega)]
theorem jSzK_x (C : jK) (n p : Int) : jSzK C n p = 1 + (if 0 < p then jsz C (jSo C.a n) else 0) + (if 1 < p then jsz C (jSo C.b n) else 0) + (if 2 < p then jsz C (jSo C.c n) else 0) := rfl
theorem jSwK_x (C : jK) (T : Nat → Int32) (m v n p : Int) : jSwK C T m v n p = 1 + (if 0 < p then jSw C T m (v + jQf C n) (jSo C.a n) else 0) + (if 1 < p then jSw C T m (v + jQf C n) (jSo C.b n) else 0) + (if 2 < p then jSw C T m (v + jQf C n) (jSo C.c n) else 0) := by
  have : jSwK C T m v n p = 1 + ((if 0 < p then jSw C T m (v + jQf C n) (jSo C.a n) else 0) + (if 1 < p then jSw C T m (v + jQf C n) (jSo C.b n) else 0) + (if 2 < p then jSw C T m (v + jQf C n) (jSo C.c n) else 0)) := rfl
  rw [this]; omega
/-- what replacing t by u adds to n -/
def jCd (C : jK) (t u n : Int) : Int := jCn C t n * (jsz C u - jsz C t)
theorem jCd_x {C : jK} {d : Nat} {n t u : Int} (h : jTr C d n) (hd : d ≤ 4000) : (jSm C n t = 1 → jCd C t u n = jsz C u - jsz C t) ∧ (jSm C n t = 0 → jCd C t u n = (if 0 < jPts C n then jCd C t u (jSo C.a n) else 0) + (if 1 < jPts C n then jCd C t u (jSo C.b n) else 0) + (if 2 < jPts C n then jCd C t u (jSo C.c n) else 0)) := by
  have h1 := h.cn (t := t) hd
  constructor
  · intro q
    unfold jCd
    rw [h1, if_pos q, Int.one_mul]
  · intro q
    unfold jCd
    rw [h1, if_neg (by omega)]
    have e : jCnK C t n (jPts C n) = (if 0 < jPts C n then jCn C t (jSo C.a n) else 0) + (if 1 < jPts C n then jCn C t (jSo C.b n) else 0) + (if 2 < jPts C n then jCn C t (jSo C.c n) else 0) := rfl
    rw [e]
    split <;> split <;> split <;> simp [Int.add_mul]
theorem jFm.leaf {C : jK} {N Y b n : Int} {d : Nat} (h : jFm C N Y d b n) (h0 : jPts C n = 0) {b1 : Int} (h1 : jSo C.s n = 10 → jSo C.n n < b1) {e : Nat} (he : 1 ≤ e) : jFm C N Y e b1 n ∧ jsz C n = 1 := by
  obtain ⟨q1, q2, q3, q4, q5, q6, q7⟩ := h.nd
  cases e with
  | zero => omega
  | succ e =>
    refine ⟨⟨⟨q1, q2, q3, q4, q5, fun q => ⟨(q6 q).1, h1 q⟩, q7⟩, fun k g0 g1 => by omega⟩, ?_⟩
    unfold jsz
    show 1 + (if 0 < jPts C n then jSzF C 3999 (jPr C n 0) else 0) + (if 1 < jPts C n then jSzF C 3999 (jPr C n 1) else 0) + (if 2 < jPts C n then jSzF C 3999 (jPr C n 2) else 0) = 1
    rw [h0]; simp
/-- a node made again with other parts -/
theorem jRe {C D3 D : jK} {N N3 Y b n v wa wb wc : Int} {d e : Nat} (hF : jFm C N Y d b n) (hA : jAgK C D3 N) (hN : N ≤ N3) (hw : jNw D3 D N3 (jSo C.s n) (jSo C.n n) wa wb wc) (h10 : jSo C.s n = 10 → jSo C.n n < v) (he : e + 1 ≤ 4000)
    (ha : 0 < jPts C n → jFm D3 N3 Y e (v + jQf C n) wa) (hb : 1 < jPts C n → jFm D3 N3 Y e (v + jQf C n) wb) (hc : 2 < jPts C n → jFm D3 N3 Y e (v + jQf C n) wc) :
    jAgK C D N ∧ jFm D (N3 + 1) Y (e + 1) v N3 ∧ jsz D N3 = 1 + (if 0 < jPts C n then jsz D3 wa else 0) + (if 1 < jPts C n then jsz D3 wb else 0) + (if 2 < jPts C n then jsz D3 wc else 0) := by
  have hw' := hw
  obtain ⟨hA2, e1, e2, e3, e4, e5⟩ := hw
  obtain ⟨q1, q2, q3, q4, q5, q6, q7, q8, q9⟩ := hF.nd
  have hy : ∀ j, D.y j = C.y j := fun j => (hA2.2 j).trans (hA.2 j)
  have hp : jPts D N3 = jPts C n := jPts_like e1 (fun _ => e2) hy
  have hq : jQf D N3 = jQf C n := by unfold jQf; rw [e1]
  have hnd : jNd D (N3 + 1) Y v N3 := by
    refine ⟨by omega, by omega, ?_, ?_, ?_, ?_, ?_, ?_, ?_⟩
    · rw [e1]; exact q3
    · rw [e1]; exact q4
    · rw [e1, e2]; exact q5
    · rw [e1, e2]; exact fun g => ⟨(q6 g).1, h10 g⟩
    · rw [e1, e2]; exact q7
    · rw [hp]; exact q8
    · rw [hp]; exact q9
  have ha' : 0 < jPts D N3 → jFm D3 N3 Y e (v + jQf D N3) wa := by rw [hp, hq]; exact ha
  have hb' : 1 < jPts D N3 → jFm D3 N3 Y e (v + jQf D N3) wb := by rw [hp, hq]; exact hb
  have hc' : 2 < jPts D N3 → jFm D3 N3 Y e (v + jQf D N3) wc := by rw [hp, hq]; exact hc
  have hFm := hw'.fm hnd ha' hb' hc'
  refine ⟨hA.tr hA2 hN, hFm, ?_⟩
  rw [hw'.sz he hFm ha' hb' hc', hp]
theorem jIf4 (p c A B E : Int) : (p = 0 → c + (if 0 < p then A else 0) + (if 1 < p then B else 0) + (if 2 < p then E else 0) = c) ∧ (p = 1 → c + (if 0 < p then A else 0) + (if 1 < p then B else 0) + (if 2 < p then E else 0) = c + A) ∧ (p = 2 → c + (if 0 < p then A else 0) + (if 1 < p then B else 0) + (if 2 < p then E else 0) = c + A + B) ∧ (p = 3 → c + (if 0 < p then A else 0) + (if 1 < p then B else 0) + (if 2 < p then E else 0) = c + A + B + E) := by
  refine ⟨fun h => ?_, fun h => ?_, fun h => ?_, fun h => ?_⟩ <;> subst h <;> simp
theorem jSzK_y (C : jK) (n p : Int) : (p = 0 → jSzK C n p = 1) ∧ (p = 1 → jSzK C n p = 1 + jsz C (jSo C.a n)) ∧ (p = 2 → jSzK C n p = 1 + jsz C (jSo C.a n) + jsz C (jSo C.b n)) ∧ (p = 3 → jSzK C n p = 1 + jsz C (jSo C.a n) + jsz C (jSo C.b n) + jsz C (jSo C.c n)) := by
  rw [jSzK_x]; exact jIf4 p 1 _ _ _
theorem jSwK_y (C : jK) (T : Nat → Int32) (m v n p : Int) : (p = 0 → jSwK C T m v n p = 1) ∧ (p = 1 → jSwK C T m v n p = 1 + jSw C T m (v + jQf C n) (jSo C.a n)) ∧ (p = 2 → jSwK C T m v n p = 1 + jSw C T m (v + jQf C n) (jSo C.a n) + jSw C T m (v + jQf C n) (jSo C.b n)) ∧ (p = 3 → jSwK C T m v n p = 1 + jSw C T m (v + jQf C n) (jSo C.a n) + jSw C T m (v + jQf C n) (jSo C.b n) + jSw C T m (v + jQf C n) (jSo C.c n)) := by
  rw [jSwK_x]; exact jIf4 p 1 _ _ _
theorem jCd_y {C : jK} {d : Nat} {n t u : Int} (h : jTr C d n) (hd : d ≤ 4000) : (jSm C n t = 1 → jCd C t u n = jsz C u - jsz C t) ∧ (jSm C n t = 0 → (jPts C n = 0 → jCd C t u n = 0) ∧ (jPts C n = 1 → jCd C t u n = jCd C t u (jSo C.a n)) ∧ (jPts C n = 2 → jCd C t u n = jCd C t u (jSo C.a n) + jCd C t u (jSo C.b n)) ∧ (jPts C n = 3 → jCd C t u n = jCd C t u (jSo C.a n) + jCd C t u (jSo C.b n) + jCd C t u (jSo C.c n))) := by
  obtain ⟨h1, h2⟩ := jCd_x (t := t) (u := u) h hd
  refine ⟨h1, fun q => ?_⟩
  have h3 := jIf4 (jPts C n) 0 (jCd C t u (jSo C.a n)) (jCd C t u (jSo C.b n)) (jCd C t u (jSo C.c n))
  simp only [Int.zero_add] at h3
  rw [h2 q]; exact h3
theorem jRe4 {C D3 D : jK} {N N3 Y b n v wa wb wc : Int} {d e : Nat} (hF : jFm C N Y d b n) (hA : jAgK C D3 N) (hN : N ≤ N3) (hw : jNw D3 D N3 (jSo C.s n) (jSo C.n n) wa wb wc) (h10 : jSo C.s n = 10 → jSo C.n n < v) (he : e + 1 ≤ 4000)
    (ha : 0 < jPts C n → jFm D3 N3 Y e (v + jQf C n) wa) (hb : 1 < jPts C n → jFm D3 N3 Y e (v + jQf C n) wb) (hc : 2 < jPts C n → jFm D3 N3 Y e (v + jQf C n) wc) :
    jAgK C D N ∧ jFm D (N3 + 1) Y (e + 1) v N3 ∧ (jPts C n = 1 → jsz D N3 = 1 + jsz D3 wa) ∧ (jPts C n = 2 → jsz D N3 = 1 + jsz D3 wa + jsz D3 wb) ∧ (jPts C n = 3 → jsz D N3 = 1 + jsz D3 wa + jsz D3 wb + jsz D3 wc) := by
  obtain ⟨h1, h2, h3⟩ := jRe hF hA hN hw h10 he ha hb hc
  rw [h3]
  exact ⟨h1, h2, (jIf4 _ _ _ _ _).2⟩
theorem jCnF_ag {C D : jK} {N Y b1 t : Int} {d1 : Nat} (hA : jAgK C D N) (ht : jFm C N Y d1 b1 t) {d : Nat} : ∀ {b n : Int}, jFm C N Y d b n → ∀ e, jCnF D t e n = jCnF C t e n := by
  induction d with
  | zero => intro b n h; exact h.elim
  | succ d ih =>
    intro b n h e
    have h1 := h.nd.1; have h2 := h.nd.2.1
    cases e with
    | zero => rfl
    | succ e =>
      unfold jCnF
      rw [jSm_ag hA h ht, hA.pts h1 h2, jSu_congr (g := fun k => jCnF C t e (jPr C n k)) (fun k g0 g1 => by rw [hA.pr h1 h2]; exact ih (h.2 k g0 g1) e)]
theorem jCd_ag {C D : jK} {N Y b b1 b2 n t u : Int} {d d1 d2 : Nat} (hA : jAgK C D N) (h : jFm C N Y d b n) (ht : jFm C N Y d1 b1 t) (hu : jFm C N Y d2 b2 u) : jCd D t u n = jCd C t u n := by
  unfold jCd jCn
  rw [jCnF_ag hA ht h, jsz_ag hA ht, jsz_ag hA hu]
/-- terms that are found so far -/
def jTo (C : jK) (N Y : Int) (T : Nat → Int32) (m : Int) : Prop := ∀ k : Int, 0 ≤ k → k < m → jSo T k < 0 ∨ (jFm C N Y 80 0 (jSo T k) ∧ jsz C (jSo T k) ≤ 80)
theorem jTo.set {C : jK} {N Y m g x : Int} {T T1 : Nat → Int32} {n : Nat} (h : jTo C N Y T m) (ho : ∀ j, j < n → j ≠ x.toNat → T1 j = T j) (hv : jSo T1 x = g) (hx : 0 ≤ x) (hm : m ≤ n) (hg : jFm C N Y 80 0 g) (hs : jsz C g ≤ 80) : jTo C N Y T1 m := fun k h0 h1 => by
  by_cases e : k = x
  · rw [e, hv]; exact Or.inr ⟨hg, hs⟩
  · have e1 : jSo T1 k = jSo T k := by unfold jSo; rw [ho k.toNat (by omega) (by omega)]
    rw [e1]; exact h k h0 h1
theorem jSwK_a (C : jK) (T : Nat → Int32) (m v n p : Int) (h : 0 < p) (h3 : p ≤ 3) : 1 + jSw C T m (v + jQf C n) (jSo C.a n) ≤ jSwK C T m v n p := by
  have := jSwK_le C T m v n (k := 1) (p := p) (by omega)
  rw [(jSwK_y C T m v n 1).2.1 rfl] at this; exact this
theorem jSwK_b (C : jK) (T : Nat → Int32) (m v n p : Int) (h : 1 < p) (h3 : p ≤ 3) : 1 + jSw C T m (v + jQf C n) (jSo C.a n) + jSw C T m (v + jQf C n) (jSo C.b n) ≤ jSwK C T m v n p := by
  have := jSwK_le C T m v n (k := 2) (p := p) (by omega)
  rw [(jSwK_y C T m v n 2).2.2.1 rfl] at this; exact this
theorem jSzK_a (C : jK) (n p : Int) (h : 0 < p) (h3 : p ≤ 3) : 1 + jsz C (jSo C.a n) ≤ jSzK C n p := by
  have := jSzK_le C n (k := 1) (p := p) (by omega) (by omega)
  rw [(jSzK_y C n 1).2.1 rfl] at this; exact this
theorem jSzK_b (C : jK) (n p : Int) (h : 1 < p) (h3 : p ≤ 3) : 1 + jsz C (jSo C.a n) + jsz C (jSo C.b n) ≤ jSzK C n p := by
  have := jSzK_le C n (k := 2) (p := p) (by omega) (by omega)
  rw [(jSzK_y C n 2).2.2.1 rfl] at this; exact this
theorem jFm.sym {C : jK} {N Y b n : Int} {d : Nat} (h : jFm C N Y d b n) (hY : Y ≤ 16) : jSo C.s n = 7 ∨ jSo C.s n = 8 → 0 ≤ jSo C.n n ∧ jSo C.n n < 16 := fun q => ⟨(h.nd.2.2.2.2.1 q).1, by have := (h.nd.2.2.2.2.1 q).2; omega⟩
theorem jFm.bnd {C : jK} {N Y b n : Int} {d : Nat} (h : jFm C N Y d b n) (q : jSo C.s n = 10) : 0 ≤ jSo C.n n ∧ jSo C.n n < b ∧ jPts C n = 0 := ⟨(h.nd.2.2.2.2.2.1 q).1, (h.nd.2.2.2.2.2.1 q).2, (jPts_nl C n).1 q⟩
theorem jTr.sym {C : jK} {n : Int} {d : Nat} (h : jTr C d n) : jSo C.s n = 7 ∨ jSo C.s n = 8 → 0 ≤ jSo C.n n ∧ jSo C.n n < 16 := by obtain ⟨b, h⟩ := h; exact h.sym (Int.le_refl _)
section J12
variable {p : Program} {l : Launch} {e : Env} {R : Room} {s : State} {m : MethodId} {args : Array Value} {below : List Frame} {meth : Method} {c : Code} {H : Heap} {locs : List Loc} {cells slots : Nat} {Q : State → Prop}
variable {cc : ByteArray} {pc : Nat} {ls : Array Slot} {rest : List Value} {dC : Nat → ClassId} {dI : Nat → Nat → Nat} {ca : Nat → ClassId} {B : jF} {base : Nat} {G0 G : jT} {E : List (Nat × Nat)} {H0 : Heap} {zc zs : Nat} {L : List jPin} {M : List jCt} {I : List jIv} {a k n : Nat} {P : Nat → Int32 → Prop} {cA : ClassId} {tys : List (ClassId × FieldType)}
theorem jSt.moreM (hh : jSt (dC, dI) B base G0 G E H0 zc zs L M I H locs) {M1 : List jCt} (h : jMc (dC, dI) G H M1) : jSt (dC, dI) B base G0 G E H0 zc zs L (M1 ++ M) I H locs := by
  obtain ⟨h1, h2, h3, h4, h5, h6, h7, h8, h9⟩ := hh
  exact ⟨h1, h2, h3, h4, h5, h6, h7, fun q hq => (List.mem_append.mp hq).elim (h q) (h8 q), h9⟩
/-- a store into an array whose contents are known -/
theorem j7_iastU (hexec : p.tables.exec = Jvm.exec) (hb : c.code = cc) (hK : va_K (dC, dI) vwCl tys s) (hh : jSt (dC, dI) B base G0 G E H0 zc zs L M I H locs) (hB : jBok B) (hBk : ∀ n G a H, B k n G a H ↔ jAr (dC, dI) cA P n a H) (t0 : Nat) (ht : tys[t0]? = some (cA, .int)) (hk : k < 1000) (hk2 : 17 ≤ k) (hE : E.contains (k, 0) = true) (oj : Nat) {kk1 : Nat} {cB : ClassId} {f : Nat → Int32} (hj : M[oj]? = some (a, kk1, n, cB, f)) {M1 : List jCt} (js : List Nat) (hjs : js.map (fun i => M[i]?) = M1.map some) (hM : M1.all (fun q => !(q.2.1 == k)) = true) (hI : I.all (fun q => !(q.1.contains (k, 0))) = true) (ha : G a = some (k, n)) {i v : Int32} {x : Int} (hi : i.toInt = x) (h12 : 0 ≤ x ∧ x < n) (hv : P x.toNat v) (hdg : decode cc pc = .ok (.iastore, 1))
    (kk : ∀ (H1 : Heap) (locs1 : List Loc) (g : Nat → Int32), g x.toNat = v → (∀ j, j < n → j ≠ x.toNat → g j = f j) → jSt (dC, dI) B base G0 G E H0 zc zs L ((a, k, n, cA, g) :: M1) I H1 locs1 → W p l e R s m args below meth c H1 locs1 cells slots Q (F0 m (pc + 1) ls rest)) : W p l e R s m args below meth c H locs cells slots Q (F0 m pc ls (.int v :: .int i :: .ref a :: rest)) := by
  obtain ⟨h1, h2⟩ := h12
  obtain ⟨f', g1, g2⟩ := hh.ar hBk hk ha
  obtain ⟨-, -, -, q4⟩ := hh.2.2.2.2.2.2.2.1 _ (List.mem_of_getElem? hj)
  have hh1 : jSt (dC, dI) B base G0 G E H0 zc zs L M1 I H locs := by
    obtain ⟨e1, e2, e3, e4, e5, e6, e7, e8, e9⟩ := hh
    exact ⟨e1, e2, e3, e4, e5, e6, e7, e8.sub js hjs, e9⟩
  refine j_iast (A := jA base) hexec hb hK t0 g1 (hh.ab ha).1 hh.1.2.2 ht (jb_in hi h1 h2) hdg (fun H1 locs1 hat hsz hfr hT hL => ?_)
  have h9 := hh1.arr hB ha hk hk2 hE hM hI hsz hfr hT hL ((hBk _ _ _ _).mpr ⟨_, hat, jAr_upd g2 hi h1 hv⟩)
  refine kk H1 locs1 (upd f' i.toNatClampNeg v) (by rw [← jb_cl hi h1]; simp [upd]) (fun j hj' hne => ?_) ?_
  · have : j ≠ i.toNatClampNeg := by rw [jb_cl hi h1]; exact hne
    simp only [upd, if_neg this]
    exact (jCt_eq q4 g1 hj').symm
  · obtain ⟨e1, e2, e3, e4, e5, e6, e7, e8, e9⟩ := h9
    refine ⟨e1, e2, e3, e4, e5, e6, e7, fun q hq => ?_, e9⟩
    rcases List.mem_cons.mp hq with e | e
    · subst e; exact ⟨ha, hk2, hk, hat⟩
    · exact e8 q e
end J12
