section
-- p11: bits; the tape on both sides; bytes read as UTF-8; the text that comes of them
/-- a byte of x -/
def jVby (x k : Int) : Int := (x / (if k = 24 then 16777216 else if k = 16 then 65536 else if k = 8 then 256 else 1)) % 256
def jB8 (f : Nat → Int32) (i : Int) : Int := jSo f i % 256
theorem jB8.r (f : Nat → Int32) (i : Int) : 0 ≤ jB8 f i ∧ jB8 f i ≤ 255 := by unfold jB8; omega
/-- all but one byte of a row of n stay -/
def jOth (n : Int) (f g : Nat → Int32) (x : Int) : Prop := ∀ j : Int, 0 ≤ j → j < n → j ≠ x → jSo g j = jSo f j
/-- j bytes of v are put behind p, the highest first -/
def jVpk (f g : Nat → Int32) (p v j : Int) : Prop := (∀ i : Int, 0 ≤ i → i < p → jSo g i = jSo f i) ∧ ∀ k : Int, 0 ≤ k → k < j → jB8 g (p + k) = jVby v (24 - 8 * k)
theorem jVpk.start (f : Nat → Int32) (p v : Int) : jVpk f f p v 0 := ⟨fun _ _ _ => rfl, fun k h0 h1 => by omega⟩
theorem jVpk.step {f g g1 : Nat → Int32} {p j j1 q z s v : Int} (h : jVpk f g p v j) (h0 : 0 ≤ p) (hj : 0 ≤ j) (hq : q = p + j) (h4 : q < 4000) (hz : jSo g1 q % 256 = z % 256) (hs : z % 256 = jVby v s) (es : s = 24 - 8 * j) (ho : jOth 4000 g g1 q) (e : j1 = j + 1) : jVpk f g1 p v j1 := by
  subst e
  refine ⟨fun i q0 q1 => (ho i q0 (by omega) (by omega)).trans (h.1 i q0 q1), fun k q0 q1 => ?_⟩
  by_cases w : k = j
  · subst w; rw [← hq]; unfold jB8; rw [hz, hs, es]
  · have h2 := h.2 k q0 (by omega)
    unfold jB8 at h2 ⊢
    rw [ho (p + k) (by omega) (by omega) (by omega)]; exact h2
def jFv (a b c d e k : Int) : Int := jVby (if k < 4 then a else if k < 8 then b else if k < 12 then c else if k < 16 then d else e) (24 - 8 * (k % 4))
/-- j of the twenty bytes are put behind p -/
def jVfd (f g : Nat → Int32) (p a b c d e j : Int) : Prop := (∀ i : Int, 0 ≤ i → i < p → jSo g i = jSo f i) ∧ ∀ k : Int, 0 ≤ k → k < j → jB8 g (p + k) = jFv a b c d e k
theorem jVfd.start (f : Nat → Int32) (p a b c d e : Int) : jVfd f f p a b c d e 0 := ⟨fun _ _ _ => rfl, fun k h0 h1 => by omega⟩
theorem jVfd.step {f g g1 : Nat → Int32} {p j j1 q z s a b c d e v : Int} (h : jVfd f g p a b c d e j) (h0 : 0 ≤ p) (hj : 0 ≤ j) (hq : q = p + j) (h4 : q < 4000) (hz : jSo g1 q = z % 256) (hs : z % 256 = jVby v s) (es : s = 24 - 8 * (j % 4)) (ev : v = if j < 4 then a else if j < 8 then b else if j < 12 then c else if j < 16 then d else e) (ho : jOth 4000 g g1 q) (e1 : j1 = j + 1) : jVfd f g1 p a b c d e j1 := by
  subst e1
  refine ⟨fun i q0 q1 => (ho i q0 (by omega) (by omega)).trans (h.1 i q0 q1), fun k q0 q1 => ?_⟩
  by_cases w : k = j
  · subst w; rw [← hq]; unfold jB8 jFv; rw [hz, ← ev, ← es, ← hs]; omega
  · have h2 := h.2 k q0 (by omega)
    unfold jB8 at h2 ⊢
    rw [ho (p + k) (by omega) (by omega) (by omega)]; exact h2
/-- both tapes have the same n bytes -/
def jTe (f g : Nat → Int32) (n : Int) : Prop := ∀ j : Int, 0 ≤ j → j < n → jB8 f j = jB8 g j
theorem jTe.le {f g : Nat → Int32} {n m : Int} (h : jTe f g n) (e : m ≤ n) : jTe f g m := fun j h0 h1 => h j h0 (by omega)
/-- UTF-8: how many bytes follow; the bits of the first one; the bytes behind it; the char at a place, -1 when there is none; its bytes -/
def jUm (x : Int) : Int := if 194 ≤ x ∧ x ≤ 223 then 1 else if 224 ≤ x ∧ x ≤ 239 then 2 else if 240 ≤ x ∧ x ≤ 244 then 3 else 0
def jU0 (x m : Int) : Int := if m = 1 then x % 32 else if m = 2 then x % 16 else x % 8
def jUr (b : Int → Int) : Nat → Int → Int → Int
  | 0, _, v => v
  | k + 1, i, v => if 128 ≤ b i ∧ b i ≤ 191 then jUr b k (i + 1) (v * 64 + b i % 64) else -1
def jUk (m v : Int) : Int := if v < 0 ∨ (m = 2 ∧ v < 2048) ∨ (m = 3 ∧ v < 65536) ∨ (55296 ≤ v ∧ v ≤ 57343) ∨ 1114111 < v then -1 else v
def jUc (b : Int → Int) (i n : Int) : Int := if b i < 128 then b i else if jUm (b i) = 0 ∨ n ≤ i + jUm (b i) then -1 else jUk (jUm (b i)) (jUr b (jUm (b i)).toNat (i + 1) (jU0 (b i) (jUm (b i))))
def jUz (c : Int) : Int := if c < 128 then 1 else if c < 2048 then 2 else if c < 65536 then 3 else 4
def jUs (c : Int) : Int := if c < 0 then 1 else jUz c
theorem jUs.r (c : Int) : 1 ≤ jUs c ∧ jUs c ≤ 4 := by unfold jUs jUz; split; omega; split; omega; split; omega; split <;> omega
theorem jUr_cg {b d : Int → Int} : ∀ (k : Nat) (i v : Int), (∀ j : Int, i ≤ j → j < i + k → b j = d j) → jUr b k i v = jUr d k i v
  | 0, _, _, _ => rfl
  | k + 1, i, v, h => by
    show (if 128 ≤ b i ∧ b i ≤ 191 then jUr b k (i + 1) (v * 64 + b i % 64) else -1) = if 128 ≤ d i ∧ d i ≤ 191 then jUr d k (i + 1) (v * 64 + d i % 64) else -1
    rw [h i (by omega) (by omega), jUr_cg k (i + 1) _ (fun j q0 q1 => h j (by omega) (by omega))]
theorem jUm.r (x : Int) : 0 ≤ jUm x ∧ jUm x ≤ 3 := by unfold jUm; split; omega; split; omega; split <;> omega
theorem jUc_cg {b d : Int → Int} {i n : Int} (h : ∀ j : Int, i ≤ j → j < n → b j = d j) (hi : i < n) : jUc b i n = jUc d i n := by
  unfold jUc
  rw [h i (by omega) hi]
  by_cases w : d i < 128
  · rw [if_pos w, if_pos w]
  · rw [if_neg w, if_neg w]
    by_cases w2 : jUm (d i) = 0 ∨ n ≤ i + jUm (d i)
    · rw [if_pos w2, if_pos w2]
    · have h3 := jUm.r (d i)
      rw [if_neg w2, if_neg w2, jUr_cg _ (i + 1) _ (fun j q0 q1 => h j (by omega) (by omega))]
/-- the units of a char; of all bytes from a place on -/
def jUu (c : Int) : List Int := if c < 0 then [65533] else if c < 65536 then [c] else [55296 + (c - 65536) / 1024, 56320 + (c - 65536) % 1024]
def jUl (b : Int → Int) (n : Int) : Nat → Int → List Int
  | 0, _ => []
  | k + 1, i => if i < n then jUu (jUc b i n) ++ jUl b n k (i + jUs (jUc b i n)) else []
theorem jUl_s {b : Int → Int} {n i : Int} {k : Nat} (hk : 0 < k) (hi : i < n) : jUl b n k i = jUu (jUc b i n) ++ jUl b n (k - 1) (i + jUs (jUc b i n)) := by
  cases k with
  | zero => omega
  | succ k => exact if_pos hi
theorem jUl_o {b : Int → Int} {n i : Int} : ∀ (k : Nat), n ≤ i → jUl b n k i = []
  | 0, _ => rfl
  | k + 1, h => if_neg (show ¬ i < n by omega)
theorem jUl_cg {b d : Int → Int} {n : Int} (h : ∀ j : Int, 0 ≤ j → j < n → b j = d j) : ∀ (k : Nat) (i : Int), 0 ≤ i → jUl b n k i = jUl d n k i
  | 0, _, _ => rfl
  | k + 1, i, h0 => by
    by_cases w : i < n
    · have h1 := jUs.r (jUc d i n)
      rw [jUl_s (b := b) (k := k + 1) (by omega) w, jUl_s (b := d) (k := k + 1) (by omega) w, jUc_cg (fun j q0 q1 => h j (by omega) q1) w]
      show _ ++ jUl b n k _ = _ ++ jUl d n k _
      rw [jUl_cg h k _ (by omega)]
    · rw [jUl_o _ (by omega), jUl_o _ (by omega)]
def jTl (b : Int → Int) (n : Int) : List Int := jUl b n (n.toNat + 1) 0
theorem jTl_cg {b d : Int → Int} {n : Int} (h : ∀ j : Int, 0 ≤ j → j < n → b j = d j) : jTl b n = jTl d n := jUl_cg h _ 0 (by omega)
/-- g holds the units of P -/
def jVtx (g : Nat → Int32) (P : List Int) : Prop := ∀ j : Int, 0 ≤ j → j < P.length → jSo g j = P.getD j.toNat 0
/-- the bytes up to i are read, w units are written -/
def jDe (b : Int → Int) (n : Int) (g : Nat → Int32) (w i : Int) : Prop := ∃ (P : List Int) (k : Nat), n - i < k ∧ w = P.length ∧ jVtx g P ∧ P ++ jUl b n k i = jTl b n
theorem jDe.start (b : Int → Int) (n : Int) (g : Nat → Int32) {w i : Int} (hw : w = 0) (hi : i = 0) : jDe b n g w i := by
  subst hw hi
  exact ⟨[], n.toNat + 1, by omega, rfl, fun j h0 h1 => absurd h1 (by show ¬ j < ((0 : Nat) : Int); omega), rfl⟩
theorem jDe.le {b : Int → Int} {n w i : Int} {g : Nat → Int32} (h : jDe b n g w i) : w ≤ (jTl b n).length := by
  obtain ⟨P, k, hk, hw, hx, hP⟩ := h
  rw [← hP, List.length_append, hw]; omega
/-- what a batch of n bytes answers -/
def jBa (b : Int → Int) (n r : Int) : Prop := (1500 < ((jTl b n).length : Int) ∧ r = -2) ∨ (((jTl b n).length : Int) ≤ 1500 ∧ ∃ g : Nat → Int32, jVtx g (jTl b n) ∧ r = jPar g (jTl b n).length)
theorem jBa.uniq {b d : Int → Int} {n m r r1 : Int} (h : jBa b n r) (h1 : jBa d m r1) (em : m = n) (e : ∀ j : Int, 0 ≤ j → j < n → b j = d j) : r = r1 := by
  subst em
  rw [jBa, jTl_cg e] at h
  rcases h with ⟨a1, a2⟩ | ⟨a1, g, a2, a3⟩
  · rcases h1 with ⟨c1, c2⟩ | ⟨c1, g1, c2, c3⟩
    · rw [a2, c2]
    · omega
  · rcases h1 with ⟨c1, c2⟩ | ⟨c1, g1, c2, c3⟩
    · omega
    · rw [a3, c3]
      exact jPar_cg (by omega) (fun i q0 q1 => (a2 i q0 q1).trans (c2 i q0 q1).symm)
theorem jUm.ref {x n : Int} (h : (194 ≤ x ∧ x ≤ 223 ∧ n = 2) ∨ (224 ≤ x ∧ x ≤ 239 ∧ n = 3) ∨ (240 ≤ x ∧ x ≤ 244 ∧ n = 4)) : n - 1 = jUm x := by
  unfold jUm
  rcases h with ⟨a, b, c⟩ | ⟨a, b, c⟩ | ⟨a, b, c⟩
  · rw [if_pos (by omega)]; omega
  · rw [if_neg (by omega), if_pos (by omega)]; omega
  · rw [if_neg (by omega), if_neg (by omega), if_pos (by omega)]; omega
theorem jU0.r {x m : Int} (h : m = jUm x) (h1 : 194 ≤ x) (h2 : x ≤ 244) : 0 ≤ jU0 x m ∧ (m ≠ 1 ∨ (2 ≤ jU0 x m ∧ jU0 x m ≤ 31)) ∧ (m ≠ 2 ∨ jU0 x m ≤ 15) ∧ (m ≠ 3 ∨ jU0 x m ≤ 7) := by
  unfold jU0
  unfold jUm at h
  by_cases a : m = 1
  · rw [if_pos a]
    by_cases q : 194 ≤ x ∧ x ≤ 223
    · exact ⟨by omega, Or.inr ⟨by omega, by omega⟩, Or.inl (by omega), Or.inl (by omega)⟩
    · rw [if_neg q] at h
      by_cases q2 : 224 ≤ x ∧ x ≤ 239
      · rw [if_pos q2] at h; omega
      · rw [if_neg q2] at h
        by_cases q3 : 240 ≤ x ∧ x ≤ 244
        · rw [if_pos q3] at h; omega
        · rw [if_neg q3] at h; omega
  · rw [if_neg a]
    by_cases b : m = 2
    · rw [if_pos b]; exact ⟨by omega, Or.inl a, Or.inr (by omega), Or.inl (by omega)⟩
    · rw [if_neg b]; exact ⟨by omega, Or.inl a, Or.inl b, Or.inr (by omega)⟩
/-- how large what is read of n bytes is, k of them read -/
def jUb (n k v : Int) : Prop := 0 ≤ v ∧ ((n = 2 ∧ ((k = 1 ∧ 2 ≤ v ∧ v ≤ 31) ∨ (k = 2 ∧ 128 ≤ v ∧ v ≤ 2047))) ∨ (n = 3 ∧ ((k = 1 ∧ v ≤ 15) ∨ (k = 2 ∧ v ≤ 1023) ∨ (k = 3 ∧ v ≤ 65535))) ∨ (n = 4 ∧ ((k = 1 ∧ v ≤ 7) ∨ (k = 2 ∧ v ≤ 511) ∨ (k = 3 ∧ v ≤ 32767) ∨ (k = 4 ∧ v ≤ 2097151))))
theorem jUb.start {x m n k v : Int} (hm : m = jUm x) (h1 : 194 ≤ x) (h2 : x ≤ 244) (hn : n = m + 1) (h3 : n = 2 ∨ n = 3 ∨ n = 4) (hk : k = 1) (hv : v = jU0 x m) : jUb n k v := by
  obtain ⟨a, b, c, d⟩ := jU0.r hm h1 h2
  rw [← hv] at a b c d
  refine ⟨a, ?_⟩
  rcases h3 with h3 | h3 | h3
  · exact Or.inl ⟨h3, Or.inl ⟨hk, by omega, by omega⟩⟩
  · exact Or.inr (Or.inl ⟨h3, Or.inl ⟨hk, by omega⟩⟩)
  · exact Or.inr (Or.inr ⟨h3, Or.inl ⟨hk, by omega⟩⟩)
theorem jUb.step {n k v k1 v1 y : Int} (h : jUb n k v) (hk : k < n) (h0 : 0 ≤ y) (h1 : y < 64) (ek : k1 = k + 1) (ev : v1 = v * 64 + y) : jUb n k1 v1 := by
  unfold jUb at h ⊢
  omega
theorem jUb.r {n k v : Int} (h : jUb n k v) (hk : k < n) : 0 ≤ v ∧ v ≤ 32767 := by
  unfold jUb at h
  omega
/-- sentences counted -/
def jPz (f : Nat → Int32) (n : Int) (k : Nat) (i c : Int) : Prop := (c ≤ 39 ∧ jPn f n k i c = jPar f n) ∨ (c = 40 ∧ jPar f n = 40)
theorem jPz.step {f : Nat → Int32} {n i c i1 c1 : Int} {k : Nat} (h : jPz f n k i c) (hk : 0 < k) (hi : i < n) (hc : c < 40) (e : i1 = jGap f n (jEn f n i)) (ec : c1 = c + 1) : jPz f n (k - 1) i1 c1 := by
  rcases h with ⟨h1, h2⟩ | ⟨h1, h2⟩
  · by_cases q : c = 39
    · refine Or.inr ⟨by omega, ?_⟩
      rw [← h2, jPn_s hk, if_pos hi, if_pos q]
    · exact Or.inl ⟨by omega, (jPn_m hk hi q e ec).trans h2⟩
  · omega
/-- a batch on one side -/
def jVba (b : Int → Int) (p n r : Int) : Prop := ((n < 0 ∨ p < n) ∧ r = -1) ∨ (0 ≤ n ∧ n ≤ p ∧ jBa b n r)
theorem jVba.eq {f g : Nat → Int32} {p q n m r s : Int} (h : jTe f g p) (hf : jVba (jB8 f) p n r) (hg : jVba (jB8 g) q m s) (ep : q = p) (en : m = n) : r = s := by
  subst ep en
  rcases hf with ⟨a, c⟩ | ⟨a, c, d⟩
  · rcases hg with ⟨a1, c1⟩ | ⟨a1, c1, d1⟩
    · rw [c, c1]
    · omega
  · rcases hg with ⟨a1, c1⟩ | ⟨a1, c1, d1⟩
    · omega
    · exact d.uniq d1 rfl (fun j q0 q1 => h j q0 (by omega))
theorem jUc.r {b : Int → Int} {i n : Int} (h0 : 0 ≤ b i) : -1 ≤ jUc b i n ∧ jUc b i n ≤ 1114111 := by
  unfold jUc
  by_cases w : b i < 128
  · rw [if_pos w]; omega
  · rw [if_neg w]
    by_cases w2 : jUm (b i) = 0 ∨ n ≤ i + jUm (b i)
    · rw [if_pos w2]; omega
    · rw [if_neg w2]
      generalize jUr b (jUm (b i)).toNat (i + 1) (jU0 (b i) (jUm (b i))) = v
      unfold jUk
      by_cases w3 : v < 0 ∨ (jUm (b i) = 2 ∧ v < 2048) ∨ (jUm (b i) = 3 ∧ v < 65536) ∨ (55296 ≤ v ∧ v ≤ 57343) ∨ 1114111 < v
      · rw [if_pos w3]; omega
      · rw [if_neg w3]; omega
section JP1
variable {p : Program} {l : Launch} {e : Env} {R : Room} {s : State} {m : MethodId} {args : Array Value} {below : List Frame} {meth : Method} {c : Code} {H : Heap} {locs : List Loc} {cells slots : Nat} {Q : State → Prop}
variable {cc : ByteArray} {pc : Nat} {ls : Array Slot} {rest : List Value} {D : va_G} {cl : List vw_C} {A : Nat → Prop} {a : Nat} {tys : List (ClassId × FieldType)}
end JP1
section JP2
variable {p : Program} {l : Launch} {e : Env} {R : Room} {s : State} {m : MethodId} {args : Array Value} {below : List Frame} {meth : Method} {c : Code} {H : Heap} {locs : List Loc} {cells slots : Nat} {Q : State → Prop}
variable {cc : ByteArray} {pc : Nat} {ls : Array Slot} {rest : List Value} {dC : Nat → ClassId} {dI : Nat → Nat → Nat} {ca : Nat → ClassId} {B : jF} {base : Nat} {G0 G : jT} {E : List (Nat × Nat)} {H0 : Heap} {zc zs : Nat} {L : List jPin} {M : List jCt} {I : List jIv} {a k n : Nat} {cA : ClassId} {tys : List (ClassId × FieldType)}
end JP2
end
section
-- the kinds: one table
abbrev jPk : Type := Nat → jT → Nat → Heap → Prop
def jGo (P : jPk) : Prop := (∀ n G a H H1, H1[a]? = H[a]? → P n G a H → P n G a H1) ∧ ∀ n G G1 a H, jLe G G1 → P n G a H → P n G1 a H
def jF2 : List (Value → Prop) → List (Value → Prop) → Prop
  | [], [] => True
  | p :: P, q :: Q => (∀ v, p v → q v) ∧ jF2 P Q
  | _, _ => False
theorem jF2.at : ∀ (P Q : List (Value → Prop)), jF2 P Q → ∀ (i : Nat) (q : Value → Prop), Q[i]? = some q → ∃ p, P[i]? = some p ∧ ∀ v, p v → q v
  | [], [], _, i, q, h => by simp at h
  | p :: P, q :: Q, h, 0, r, e => by
    simp only [List.getElem?_cons_zero, Option.some.injEq] at e
    subst e
    exact ⟨p, rfl, h.1⟩
  | p :: P, q :: Q, h, i + 1, r, e => by
    simp only [List.getElem?_cons_succ] at e ⊢
    exact jF2.at P Q h.2 i r e
theorem jRf.le {G G1 : jT} {k n : Nat} (hle : jLe G G1) : ∀ v, jRf G k n v → jRf G1 k n v := fun _ ⟨x, e, h⟩ => ⟨x, e, hle _ _ h⟩
theorem jRk.le {G G1 : jT} {k n : Nat} (hle : jLe G G1) : ∀ v, jRk G k n v → jRk G1 k n v := fun _ ⟨x, j, e, h, g⟩ => ⟨x, j, e, hle _ _ h, g⟩
theorem jRn.le {G G1 : jT} {k n : Nat} (hle : jLe G G1) : ∀ v, jRn G k n v → jRn G1 k n v := fun _ h => h.elim Or.inl (fun ⟨x, e, h⟩ => Or.inr ⟨x, e, hle _ _ h⟩)
theorem jRm.le {G G1 : jT} {k n : Nat} (hle : jLe G G1) : ∀ v, jRm G k n v → jRm G1 k n v := fun _ h => h.elim Or.inl (fun ⟨x, j, e, h, g⟩ => Or.inr ⟨x, j, e, hle _ _ h, g⟩)
theorem jBr.le {G G1 : jT} {n : Nat} (hle : jLe G G1) : ∀ v, jBr n G v → jBr n G1 v := fun _ ⟨x, m, e, h, g⟩ => ⟨x, m, e, hle _ _ h, g⟩
theorem jGv.le {G G1 : jT} {n : Nat} (hle : jLe G G1) : ∀ v, jGv n G v → jGv n G1 v := fun _ ⟨x, m, e, h, g⟩ => ⟨x, m, e, hle _ _ h, g⟩
theorem jGn.le {G G1 : jT} {n : Nat} (hle : jLe G G1) : ∀ v, jGn n G v → jGn n G1 v := fun _ ⟨x, e, h⟩ => ⟨x, e, hle _ _ h⟩
theorem jGh.le {G G1 : jT} {n : Nat} (hle : jLe G G1) : ∀ v, jGh n G v → jGh n G1 v := fun _ ⟨x, m, e, h, g⟩ => ⟨x, m, e, hle _ _ h, g⟩
theorem jGfo.le {G G1 : jT} {n : Nat} (hle : jLe G G1) : ∀ v, jGfo n G v → jGfo n G1 v := fun _ h => h.elim Or.inl (fun ⟨x, j, e, h, g⟩ => Or.inr ⟨x, j, e, hle _ _ h, g⟩)
section J50
variable {dC : Nat → ClassId} {dI : Nat → Nat → Nat} {ca : Nat → ClassId}
theorem jGo.ob {k N : Nat} {F : Nat → jT → List (Value → Prop)} (hF : ∀ n G G1, jLe G G1 → jF2 (F n G) (F n G1)) : jGo (fun n G a H => jOb (dC, dI) k N (F n G) a H) := by
  refine ⟨fun n G a H H1 e h => ?_, fun n G G1 a H hle h => ?_⟩
  · obtain ⟨V, ⟨cell, h1, h2⟩, h3⟩ := h
    exact ⟨V, ⟨cell, by rw [e]; exact h1, h2⟩, h3⟩
  · obtain ⟨V, h1, h3⟩ := h
    refine ⟨V, h1, fun i q hq => ?_⟩
    obtain ⟨p, hp, hpq⟩ := (hF n G G1 hle).at _ _ i q hq
    exact hpq _ (h3 i p hp)
theorem jGo.ar {c : ClassId} {P : Nat → Int32 → Prop} : jGo (fun n _ a H => jAr (dC, dI) c P n a H) := ⟨fun _ _ _ _ _ e ⟨f, h1, h2⟩ => ⟨f, h1.kept e, h2⟩, fun _ _ _ _ _ _ h => h⟩
theorem jGo.al {c : ClassId} : jGo (fun n _ a H => jAl (dC, dI) c n a H) := ⟨fun _ _ _ _ _ e ⟨f, h1⟩ => ⟨f, h1.kept e⟩, fun _ _ _ _ _ _ h => h⟩
theorem jGo.aq {c : ClassId} {P : jT → Option Nat → Prop} (hP : ∀ G G1 o, jLe G G1 → P G o → P G1 o) : jGo (fun n G a H => jAq (dC, dI) c P n G a H) := ⟨fun _ _ _ _ _ e ⟨f, h1, h2⟩ => ⟨f, h1.kept e, h2⟩, fun _ _ _ _ _ hle ⟨f, h1, h2⟩ => ⟨f, h1, fun j hj => hP _ _ _ hle (h2 j hj)⟩⟩
theorem jGo.az {c : ClassId} : jGo (fun n _ a H => jAqZ (dC, dI) c n a H) := ⟨fun _ _ _ _ _ e ⟨f, h1, h2⟩ => ⟨f, h1.kept e, h2⟩, fun _ _ _ _ _ _ h => h⟩
theorem jQs.le {k n : Nat} {G G1 : jT} {o : Option Nat} (hle : jLe G G1) (h : jQs k n G o) : jQs k n G1 o := by obtain ⟨x, e, g⟩ := h; exact ⟨x, e, hle _ _ g⟩
theorem jQn.le {k n : Nat} {G G1 : jT} {o : Option Nat} (hle : jLe G G1) (h : jQn k n G o) : jQn k n G1 o := h.elim Or.inl (fun ⟨x, e, g⟩ => Or.inr ⟨x, e, hle _ _ g⟩)
theorem jQa.le {k : Nat} {G G1 : jT} {o : Option Nat} (hle : jLe G G1) (h : jQa k G o) : jQa k G1 o := h.elim Or.inl (fun ⟨x, n, e, g⟩ => Or.inr ⟨x, n, e, hle _ _ g⟩)
theorem jQg.le {G G1 : jT} {o : Option Nat} (hle : jLe G G1) (h : jQg G o) : jQg G1 o := by obtain ⟨x, n, e, g, q⟩ := h; exact ⟨x, n, e, hle _ _ g, q⟩
theorem jQh.le {G G1 : jT} {o : Option Nat} (hle : jLe G G1) (h : jQh G o) : jQh G1 o := h.elim Or.inl (fun ⟨x, n, e, g, q⟩ => Or.inr ⟨x, n, e, hle _ _ g, q⟩)
theorem jQk.le {k m : Nat} {G G1 : jT} {o : Option Nat} (hle : jLe G G1) (h : jQk k m G o) : jQk k m G1 o := by obtain ⟨x, n, e, g, q⟩ := h; exact ⟨x, n, e, hle _ _ g, q⟩
end J50
def jLk : List (Nat × jPk) → Nat → jPk
  | [], _ => fun _ _ _ _ => False
  | q :: l, k => bif Nat.beq k q.1 then q.2 else jLk l k
theorem jLk.good : ∀ l : List (Nat × jPk), (∀ q ∈ l, jGo q.2) → ∀ k, jGo (jLk l k)
  | [], _, _ => ⟨fun _ _ _ _ _ _ h => h, fun _ _ _ _ _ _ h => h⟩
  | q :: l, h, k => by
    show jGo (bif Nat.beq k q.1 then q.2 else jLk l k)
    cases Nat.beq k q.1
    · exact jLk.good l (fun x hx => h x (List.mem_cons_of_mem _ hx)) k
    · exact h q List.mem_cons_self
theorem jFm_0 : ∀ n G G1, jLe G G1 → jF2 (Fz0 n G) (Fz0 n G1) := fun n G G1 hle => ⟨jRk.le hle, fun _ h => h, fun _ h => h, fun _ h => h, trivial⟩
theorem jFm_1 : ∀ n G G1, jLe G G1 → jF2 (F1 n G) (F1 n G1) := fun n G G1 hle => ⟨fun _ h => h, fun _ h => h, fun _ h => h, trivial⟩
theorem jFm_2 : ∀ n G G1, jLe G G1 → jF2 (F2 n G) (F2 n G1) := fun n G G1 hle => ⟨jBr.le hle, fun _ h => h, trivial⟩
theorem jFm_3 : ∀ n G G1, jLe G G1 → jF2 (F3 n G) (F3 n G1) := fun n G G1 hle => ⟨jRk.le hle, fun _ h => h, jRf.le hle, fun _ h => h, fun _ h => h, jRf.le hle, jRf.le hle, jRf.le hle, jRf.le hle, jRf.le hle, fun _ h => h, jRm.le hle, jRn.le hle, fun _ h => h, fun _ h => h, fun _ h => h, fun _ h => h, trivial⟩
theorem jFm_4 : ∀ n G G1, jLe G G1 → jF2 (F4 n G) (F4 n G1) := fun n G G1 hle => ⟨jRf.le hle, fun _ h => h, fun _ h => h, fun _ h => h, fun _ h => h, fun _ h => h, fun _ h => h, fun _ h => h, fun _ h => h, fun _ h => h, fun _ h => h, fun _ h => h, trivial⟩
theorem jFm_5 : ∀ n G G1, jLe G G1 → jF2 (F5 n G) (F5 n G1) := fun n G G1 hle => ⟨jGv.le hle, jGn.le hle, jGh.le hle, jGfo.le hle, trivial⟩
theorem jFm_6 : ∀ n G G1, jLe G G1 → jF2 (F6 n G) (F6 n G1) := fun n G G1 hle => ⟨jRf.le hle, jRf.le hle, jRf.le hle, jRf.le hle, jRf.le hle, jRf.le hle, jRf.le hle, fun _ h => h, fun _ h => h, jRk.le hle, fun _ h => h, fun _ h => h, trivial⟩
theorem jFm_7 : ∀ n G G1, jLe G G1 → jF2 (F7 n G) (F7 n G1) := fun n G G1 hle => ⟨jRf.le hle, jRf.le hle, jRf.le hle, jRf.le hle, jRf.le hle, jRk.le hle, jRf.le hle, jRf.le hle, jRf.le hle, jRf.le hle, fun _ h => h, trivial⟩
theorem jFm_8 : ∀ n G G1, jLe G G1 → jF2 (F8 n G) (F8 n G1) := fun n G G1 hle => ⟨jRf.le hle, jRf.le hle, jRf.le hle, fun _ h => h, trivial⟩
theorem jFm_9 : ∀ n G G1, jLe G G1 → jF2 (F9b n G) (F9b n G1) := fun n G G1 hle => ⟨jRf.le hle, jRf.le hle, fun _ h => h, jRf.le hle, jRf.le hle, trivial⟩
theorem jFm_10 : ∀ n G G1, jLe G G1 → jF2 (F10 n G) (F10 n G1) := fun n G G1 hle => ⟨jRn.le hle, jRn.le hle, fun _ h => h, fun _ h => h, fun _ h => h, trivial⟩
theorem jFm_11 : ∀ n G G1, jLe G G1 → jF2 (F11 n G) (F11 n G1) := fun n G G1 hle => ⟨jRn.le hle, jRk.le hle, fun _ h => h, jRk.le hle, jRk.le hle, jRk.le hle, fun _ h => h, jRk.le hle, jRk.le hle, trivial⟩
theorem jFm_12 : ∀ n G G1, jLe G G1 → jF2 (F12b n G) (F12b n G1) := fun n G G1 hle => ⟨jRf.le hle, jRf.le hle, jRf.le hle, fun _ h => h, fun _ h => h, fun _ h => h, jRf.le hle, fun _ h => h, fun _ h => h, jRf.le hle, fun _ h => h, trivial⟩
theorem jFm_13 : ∀ n G G1, jLe G G1 → jF2 (F13 n G) (F13 n G1) := fun n G G1 hle => ⟨jRf.le hle, jRf.le hle, jRf.le hle, jRf.le hle, jRf.le hle, jRf.le hle, jRf.le hle, jRf.le hle, jRf.le hle, jRf.le hle, jRf.le hle, fun _ h => h, fun _ h => h, fun _ h => h, fun _ h => h, jRf.le hle, jRn.le hle, jRf.le hle, fun _ h => h, trivial⟩
theorem jFm_14 : ∀ n G G1, jLe G G1 → jF2 (F14 n G) (F14 n G1) := fun n G G1 hle => ⟨jRf.le hle, fun _ h => h, fun _ h => h, jRf.le hle, fun _ h => h, fun _ h => h, jRf.le hle, jRf.le hle, jRf.le hle, fun _ h => h, jRf.le hle, trivial⟩
theorem jFm_15 : ∀ n G G1, jLe G G1 → jF2 (F15 n G) (F15 n G1) := fun n G G1 hle => ⟨jRf.le hle, jRf.le hle, jRf.le hle, jRf.le hle, jRf.le hle, fun _ h => h, jRf.le hle, fun _ h => h, jRf.le hle, jRf.le hle, fun _ h => h, fun _ h => h, jRf.le hle, jRf.le hle, jRf.le hle, fun _ h => h, jRf.le hle, jRf.le hle, fun _ h => h, fun _ h => h, fun _ h => h, fun _ h => h, jRf.le hle, jRf.le hle, jRf.le hle, jRf.le hle, jRf.le hle, jRf.le hle, jRf.le hle, jRf.le hle, fun _ h => h, fun _ h => h, fun _ h => h, fun _ h => h, fun _ h => h, jRf.le hle, fun _ h => h, jRf.le hle, fun _ h => h, fun _ h => h, fun _ h => h, fun _ h => h, fun _ h => h, jRf.le hle, jRf.le hle, jRf.le hle, fun _ h => h, jRf.le hle, jRf.le hle, fun _ h => h, trivial⟩
theorem jFm_16 : ∀ n G G1, jLe G G1 → jF2 (F16 n G) (F16 n G1) := fun n G G1 hle => ⟨jRf.le hle, fun _ h => h, jRf.le hle, fun _ h => h, fun _ h => h, jRf.le hle, fun _ h => h, fun _ h => h, fun _ h => h, jRf.le hle, fun _ h => h, fun _ h => h, fun _ h => h, jRf.le hle, jRf.le hle, fun _ h => h, fun _ h => h, jRf.le hle, jRf.le hle, jRf.le hle, jRf.le hle, jRf.le hle, jRf.le hle, jRf.le hle, jRf.le hle, jRf.le hle, fun _ h => h, jRf.le hle, fun _ h => h, fun _ h => h, fun _ h => h, fun _ h => h, fun _ h => h, fun _ h => h, fun _ h => h, fun _ h => h, fun _ h => h, fun _ h => h, jRf.le hle, fun _ h => h, fun _ h => h, jRf.le hle, fun _ h => h, jRf.le hle, fun _ h => h, jRf.le hle, jRf.le hle, jRf.le hle, fun _ h => h, jRf.le hle, jRf.le hle, jRf.le hle, jRf.le hle, jRf.le hle, jRf.le hle, jRf.le hle, jRf.le hle, jRf.le hle, jRf.le hle, jRf.le hle, jRf.le hle, jRf.le hle, jRf.le hle, jRf.le hle, fun _ h => h, fun _ h => h, fun _ h => h, jRf.le hle, jRf.le hle, jRf.le hle, fun _ h => h, jRf.le hle, jRf.le hle, jRf.le hle, trivial⟩
theorem jGk_0 (dC : Nat → ClassId) (dI : Nat → Nat → Nat) (ca : Nat → ClassId) : jGo (fun n G a H => jOb (dC, dI) 0 4 (Fz0 n G) a H) := jGo.ob jFm_0
theorem jGk_1 (dC : Nat → ClassId) (dI : Nat → Nat → Nat) (ca : Nat → ClassId) : jGo (fun n G a H => jOb (dC, dI) 1 3 (F1 n G) a H) := jGo.ob jFm_1
theorem jGk_2 (dC : Nat → ClassId) (dI : Nat → Nat → Nat) (ca : Nat → ClassId) : jGo (fun n G a H => jOb (dC, dI) 2 2 (F2 n G) a H) := jGo.ob jFm_2
theorem jGk_3 (dC : Nat → ClassId) (dI : Nat → Nat → Nat) (ca : Nat → ClassId) : jGo (fun n G a H => jOb (dC, dI) 3 17 (F3 n G) a H) := jGo.ob jFm_3
theorem jGk_4 (dC : Nat → ClassId) (dI : Nat → Nat → Nat) (ca : Nat → ClassId) : jGo (fun n G a H => jOb (dC, dI) 4 12 (F4 n G) a H) := jGo.ob jFm_4
theorem jGk_5 (dC : Nat → ClassId) (dI : Nat → Nat → Nat) (ca : Nat → ClassId) : jGo (fun n G a H => jOb (dC, dI) 5 4 (F5 n G) a H) := jGo.ob jFm_5
theorem jGk_6 (dC : Nat → ClassId) (dI : Nat → Nat → Nat) (ca : Nat → ClassId) : jGo (fun n G a H => jOb (dC, dI) 6 12 (F6 n G) a H) := jGo.ob jFm_6
theorem jGk_7 (dC : Nat → ClassId) (dI : Nat → Nat → Nat) (ca : Nat → ClassId) : jGo (fun n G a H => jOb (dC, dI) 7 11 (F7 n G) a H) := jGo.ob jFm_7
theorem jGk_8 (dC : Nat → ClassId) (dI : Nat → Nat → Nat) (ca : Nat → ClassId) : jGo (fun n G a H => jOb (dC, dI) 8 4 (F8 n G) a H) := jGo.ob jFm_8
theorem jGk_9 (dC : Nat → ClassId) (dI : Nat → Nat → Nat) (ca : Nat → ClassId) : jGo (fun n G a H => jOb (dC, dI) 9 5 (F9b n G) a H) := jGo.ob jFm_9
theorem jGk_10 (dC : Nat → ClassId) (dI : Nat → Nat → Nat) (ca : Nat → ClassId) : jGo (fun n G a H => jOb (dC, dI) 10 5 (F10 n G) a H) := jGo.ob jFm_10
theorem jGk_11 (dC : Nat → ClassId) (dI : Nat → Nat → Nat) (ca : Nat → ClassId) : jGo (fun n G a H => jOb (dC, dI) 11 9 (F11 n G) a H) := jGo.ob jFm_11
theorem jGk_12 (dC : Nat → ClassId) (dI : Nat → Nat → Nat) (ca : Nat → ClassId) : jGo (fun n G a H => jOb (dC, dI) 12 11 (F12b n G) a H) := jGo.ob jFm_12
theorem jGk_13 (dC : Nat → ClassId) (dI : Nat → Nat → Nat) (ca : Nat → ClassId) : jGo (fun n G a H => jOb (dC, dI) 13 19 (F13 n G) a H) := jGo.ob jFm_13
theorem jGk_14 (dC : Nat → ClassId) (dI : Nat → Nat → Nat) (ca : Nat → ClassId) : jGo (fun n G a H => jOb (dC, dI) 14 11 (F14 n G) a H) := jGo.ob jFm_14
theorem jGk_15 (dC : Nat → ClassId) (dI : Nat → Nat → Nat) (ca : Nat → ClassId) : jGo (fun n G a H => jOb (dC, dI) 15 50 (F15 n G) a H) := jGo.ob jFm_15
theorem jGk_16 (dC : Nat → ClassId) (dI : Nat → Nat → Nat) (ca : Nat → ClassId) : jGo (fun n G a H => jOb (dC, dI) 16 74 (F16 n G) a H) := jGo.ob jFm_16
theorem jGk_100 (dC : Nat → ClassId) (dI : Nat → Nat → Nat) (ca : Nat → ClassId) : jGo (fun n G a H => jAr (dC, dI) (ca 0) (fun j z => True) n a H) := jGo.ar
theorem jGk_101 (dC : Nat → ClassId) (dI : Nat → Nat → Nat) (ca : Nat → ClassId) : jGo (fun n G a H => jAr (dC, dI) (ca 1) (fun j z => True) n a H) := jGo.ar
theorem jGk_102 (dC : Nat → ClassId) (dI : Nat → Nat → Nat) (ca : Nat → ClassId) : jGo (fun n G a H => jAl (dC, dI) (ca 2) n a H) := jGo.al
theorem jGk_103 (dC : Nat → ClassId) (dI : Nat → Nat → Nat) (ca : Nat → ClassId) : jGo (fun n G a H => jAr (dC, dI) (ca 3) (fun j z => (z = 0 ∨ z = 1)) n a H) := jGo.ar
theorem jGk_110 (dC : Nat → ClassId) (dI : Nat → Nat → Nat) (ca : Nat → ClassId) : jGo (fun n G a H => jAr (dC, dI) (ca 1) (fun j z => 0 ≤ z.toInt ∧ z.toInt ≤ 255) n a H) := jGo.ar
theorem jGk_111 (dC : Nat → ClassId) (dI : Nat → Nat → Nat) (ca : Nat → ClassId) : jGo (fun n G a H => jAr (dC, dI) (ca 1) (fun j z => 0 ≤ z.toInt ∧ z.toInt ≤ 255) n a H) := jGo.ar
theorem jGk_117 (dC : Nat → ClassId) (dI : Nat → Nat → Nat) (ca : Nat → ClassId) : jGo (fun n G a H => jAr (dC, dI) (ca 1) (fun j z => True) n a H) := jGo.ar
theorem jGk_118 (dC : Nat → ClassId) (dI : Nat → Nat → Nat) (ca : Nat → ClassId) : jGo (fun n G a H => jAr (dC, dI) (ca 1) (fun j z => -1 ≤ z.toInt ∧ z.toInt ≤ 3099) n a H) := jGo.ar
theorem jGk_119 (dC : Nat → ClassId) (dI : Nat → Nat → Nat) (ca : Nat → ClassId) : jGo (fun n G a H => jAr (dC, dI) (ca 1) (fun j z => z.toInt = -1 ∨ z.toInt = 0 ∨ ((j : Nat) < z.toInt ∧ z.toInt ≤ 3099)) n a H) := jGo.ar
theorem jGk_120 (dC : Nat → ClassId) (dI : Nat → Nat → Nat) (ca : Nat → ClassId) : jGo (fun n G a H => jAr (dC, dI) (ca 1) (fun j z => 0 ≤ z.toInt ∧ z.toInt ≤ 3300) n a H) := jGo.ar
theorem jGk_121 (dC : Nat → ClassId) (dI : Nat → Nat → Nat) (ca : Nat → ClassId) : jGo (fun n G a H => jAr (dC, dI) (ca 1) (fun j z => 0 ≤ z.toInt ∧ z.toInt ≤ 3300) n a H) := jGo.ar
theorem jGk_122 (dC : Nat → ClassId) (dI : Nat → Nat → Nat) (ca : Nat → ClassId) : jGo (fun n G a H => jAr (dC, dI) (ca 1) (fun j z => 0 ≤ z.toInt ∧ z.toInt ≤ 3100) n a H) := jGo.ar
theorem jGk_123 (dC : Nat → ClassId) (dI : Nat → Nat → Nat) (ca : Nat → ClassId) : jGo (fun n G a H => jAr (dC, dI) (ca 1) (fun j z => 0 ≤ z.toInt ∧ z.toInt ≤ 3100) n a H) := jGo.ar
theorem jGk_124 (dC : Nat → ClassId) (dI : Nat → Nat → Nat) (ca : Nat → ClassId) : jGo (fun n G a H => jAr (dC, dI) (ca 3) (fun j z => (z = 0 ∨ z = 1)) n a H) := jGo.ar
theorem jGk_125 (dC : Nat → ClassId) (dI : Nat → Nat → Nat) (ca : Nat → ClassId) : jGo (fun n G a H => jAr (dC, dI) (ca 1) (fun j z => True) n a H) := jGo.ar
theorem jGk_127 (dC : Nat → ClassId) (dI : Nat → Nat → Nat) (ca : Nat → ClassId) : jGo (fun n G a H => jAr (dC, dI) (ca 1) (fun j z => True) n a H) := jGo.ar
theorem jGk_132 (dC : Nat → ClassId) (dI : Nat → Nat → Nat) (ca : Nat → ClassId) : jGo (fun n G a H => jAr (dC, dI) (ca 1) (fun j z => 0 ≤ z.toInt ∧ z.toInt ≤ 10) n a H) := jGo.ar
theorem jGk_133 (dC : Nat → ClassId) (dI : Nat → Nat → Nat) (ca : Nat → ClassId) : jGo (fun n G a H => jAr (dC, dI) (ca 1) (fun j z => 0 ≤ z.toInt ∧ z.toInt ≤ 8192) n a H) := jGo.ar
theorem jGk_140 (dC : Nat → ClassId) (dI : Nat → Nat → Nat) (ca : Nat → ClassId) : jGo (fun n G a H => jAr (dC, dI) (ca 1) (fun j z => True) n a H) := jGo.ar
theorem jGk_141 (dC : Nat → ClassId) (dI : Nat → Nat → Nat) (ca : Nat → ClassId) : jGo (fun n G a H => jAr (dC, dI) (ca 1) (fun j z => True) n a H) := jGo.ar
theorem jGk_142 (dC : Nat → ClassId) (dI : Nat → Nat → Nat) (ca : Nat → ClassId) : jGo (fun n G a H => jAr (dC, dI) (ca 1) (fun j z => True) n a H) := jGo.ar
theorem jGk_143 (dC : Nat → ClassId) (dI : Nat → Nat → Nat) (ca : Nat → ClassId) : jGo (fun n G a H => jAr (dC, dI) (ca 1) (fun j z => True) n a H) := jGo.ar
theorem jGk_144 (dC : Nat → ClassId) (dI : Nat → Nat → Nat) (ca : Nat → ClassId) : jGo (fun n G a H => jAr (dC, dI) (ca 1) (fun j z => 0 ≤ z.toInt ∧ z.toInt ≤ 3000) n a H) := jGo.ar
theorem jGk_145 (dC : Nat → ClassId) (dI : Nat → Nat → Nat) (ca : Nat → ClassId) : jGo (fun n G a H => jAr (dC, dI) (ca 1) (fun j z => True) n a H) := jGo.ar
theorem jGk_146 (dC : Nat → ClassId) (dI : Nat → Nat → Nat) (ca : Nat → ClassId) : jGo (fun n G a H => jAr (dC, dI) (ca 1) (fun j z => True) n a H) := jGo.ar
theorem jGk_150 (dC : Nat → ClassId) (dI : Nat → Nat → Nat) (ca : Nat → ClassId) : jGo (fun n G a H => jAr (dC, dI) (ca 1) (fun j z => True) n a H) := jGo.ar
theorem jGk_151 (dC : Nat → ClassId) (dI : Nat → Nat → Nat) (ca : Nat → ClassId) : jGo (fun n G a H => jAr (dC, dI) (ca 1) (fun j z => True) n a H) := jGo.ar
theorem jGk_152 (dC : Nat → ClassId) (dI : Nat → Nat → Nat) (ca : Nat → ClassId) : jGo (fun n G a H => jAr (dC, dI) (ca 1) (fun j z => True) n a H) := jGo.ar
theorem jGk_153 (dC : Nat → ClassId) (dI : Nat → Nat → Nat) (ca : Nat → ClassId) : jGo (fun n G a H => jAr (dC, dI) (ca 1) (fun j z => True) n a H) := jGo.ar
theorem jGk_154 (dC : Nat → ClassId) (dI : Nat → Nat → Nat) (ca : Nat → ClassId) : jGo (fun n G a H => jAr (dC, dI) (ca 1) (fun j z => True) n a H) := jGo.ar
theorem jGk_155 (dC : Nat → ClassId) (dI : Nat → Nat → Nat) (ca : Nat → ClassId) : jGo (fun n G a H => jAr (dC, dI) (ca 1) (fun j z => 0 ≤ z.toInt ∧ z.toInt ≤ 11990) n a H) := jGo.ar
theorem jGk_156 (dC : Nat → ClassId) (dI : Nat → Nat → Nat) (ca : Nat → ClassId) : jGo (fun n G a H => jAr (dC, dI) (ca 1) (fun j z => 0 ≤ z.toInt ∧ z.toInt ≤ 10) n a H) := jGo.ar
theorem jGk_157 (dC : Nat → ClassId) (dI : Nat → Nat → Nat) (ca : Nat → ClassId) : jGo (fun n G a H => jAr (dC, dI) (ca 1) (fun j z => 0 ≤ z.toInt ∧ z.toInt ≤ 1599) n a H) := jGo.ar
theorem jGk_158 (dC : Nat → ClassId) (dI : Nat → Nat → Nat) (ca : Nat → ClassId) : jGo (fun n G a H => jAr (dC, dI) (ca 1) (fun j z => 0 ≤ z.toInt ∧ z.toInt ≤ 6) n a H) := jGo.ar
theorem jGk_159 (dC : Nat → ClassId) (dI : Nat → Nat → Nat) (ca : Nat → ClassId) : jGo (fun n G a H => jAr (dC, dI) (ca 1) (fun j z => 0 ≤ z.toInt ∧ z.toInt ≤ 8) n a H) := jGo.ar
theorem jGk_160 (dC : Nat → ClassId) (dI : Nat → Nat → Nat) (ca : Nat → ClassId) : jGo (fun n G a H => jAr (dC, dI) (ca 1) (fun j z => 0 ≤ z.toInt ∧ z.toInt ≤ 119999) n a H) := jGo.ar
theorem jGk_161 (dC : Nat → ClassId) (dI : Nat → Nat → Nat) (ca : Nat → ClassId) : jGo (fun n G a H => jAr (dC, dI) (ca 1) (fun j z => 0 ≤ z.toInt ∧ z.toInt ≤ 119999) n a H) := jGo.ar
theorem jGk_162 (dC : Nat → ClassId) (dI : Nat → Nat → Nat) (ca : Nat → ClassId) : jGo (fun n G a H => jAr (dC, dI) (ca 1) (fun j z => 0 ≤ z.toInt ∧ z.toInt ≤ 119999) n a H) := jGo.ar
theorem jGk_163 (dC : Nat → ClassId) (dI : Nat → Nat → Nat) (ca : Nat → ClassId) : jGo (fun n G a H => jAr (dC, dI) (ca 1) (fun j z => 0 ≤ z.toInt ∧ z.toInt ≤ 1599) n a H) := jGo.ar
theorem jGk_164 (dC : Nat → ClassId) (dI : Nat → Nat → Nat) (ca : Nat → ClassId) : jGo (fun n G a H => jAr (dC, dI) (ca 1) (fun j z => 0 ≤ z.toInt ∧ z.toInt ≤ 100000) n a H) := jGo.ar
theorem jGk_165 (dC : Nat → ClassId) (dI : Nat → Nat → Nat) (ca : Nat → ClassId) : jGo (fun n G a H => jAr (dC, dI) (ca 1) (fun j z => 0 ≤ z.toInt ∧ z.toInt ≤ 3) n a H) := jGo.ar
theorem jGk_166 (dC : Nat → ClassId) (dI : Nat → Nat → Nat) (ca : Nat → ClassId) : jGo (fun n G a H => jAr (dC, dI) (ca 1) (fun j z => True) n a H) := jGo.ar
theorem jGk_167 (dC : Nat → ClassId) (dI : Nat → Nat → Nat) (ca : Nat → ClassId) : jGo (fun n G a H => jAr (dC, dI) (ca 1) (fun j z => True) n a H) := jGo.ar
theorem jGk_168 (dC : Nat → ClassId) (dI : Nat → Nat → Nat) (ca : Nat → ClassId) : jGo (fun n G a H => jAr (dC, dI) (ca 1) (fun j z => 0 ≤ z.toInt ∧ z.toInt ≤ 119999) n a H) := jGo.ar
theorem jGk_169 (dC : Nat → ClassId) (dI : Nat → Nat → Nat) (ca : Nat → ClassId) : jGo (fun n G a H => jAr (dC, dI) (ca 1) (fun j z => True) n a H) := jGo.ar
theorem jGk_171 (dC : Nat → ClassId) (dI : Nat → Nat → Nat) (ca : Nat → ClassId) : jGo (fun n G a H => jAr (dC, dI) (ca 1) (fun j z => 0 ≤ z.toInt ∧ z.toInt ≤ 1500) n a H) := jGo.ar
theorem jGk_172 (dC : Nat → ClassId) (dI : Nat → Nat → Nat) (ca : Nat → ClassId) : jGo (fun n G a H => jAr (dC, dI) (ca 1) (fun j z => 0 ≤ z.toInt ∧ z.toInt ≤ 1500) n a H) := jGo.ar
theorem jGk_190 (dC : Nat → ClassId) (dI : Nat → Nat → Nat) (ca : Nat → ClassId) : jGo (fun n G a H => jAr (dC, dI) (ca 1) (fun j z => 0 ≤ z.toInt ∧ z.toInt ≤ 1500) n a H) := jGo.ar
theorem jGk_191 (dC : Nat → ClassId) (dI : Nat → Nat → Nat) (ca : Nat → ClassId) : jGo (fun n G a H => jAr (dC, dI) (ca 1) (fun j z => 0 ≤ z.toInt ∧ z.toInt ≤ 1500) n a H) := jGo.ar
theorem jGk_192 (dC : Nat → ClassId) (dI : Nat → Nat → Nat) (ca : Nat → ClassId) : jGo (fun n G a H => jAr (dC, dI) (ca 1) (fun j z => 0 ≤ z.toInt ∧ z.toInt ≤ 2) n a H) := jGo.ar
theorem jGk_193 (dC : Nat → ClassId) (dI : Nat → Nat → Nat) (ca : Nat → ClassId) : jGo (fun n G a H => jAr (dC, dI) (ca 1) (fun j z => True) n a H) := jGo.ar
theorem jGk_196 (dC : Nat → ClassId) (dI : Nat → Nat → Nat) (ca : Nat → ClassId) : jGo (fun n G a H => jAr (dC, dI) (ca 0) (fun j z => jBf j z) n a H) := jGo.ar
theorem jGk_197 (dC : Nat → ClassId) (dI : Nat → Nat → Nat) (ca : Nat → ClassId) : jGo (fun n G a H => jAr (dC, dI) (ca 0) (fun j z => jBf j z) n a H) := jGo.ar
theorem jGk_201 (dC : Nat → ClassId) (dI : Nat → Nat → Nat) (ca : Nat → ClassId) : jGo (fun n G a H => jAq (dC, dI) (ca 4) (jQs 14 0) n G a H) := jGo.aq (fun _ _ _ hle h => jQs.le hle h)
theorem jGk_202 (dC : Nat → ClassId) (dI : Nat → Nat → Nat) (ca : Nat → ClassId) : jGo (fun n G a H => jAq (dC, dI) (ca 4) (jQn 14 0) n G a H) := jGo.aq (fun _ _ _ hle h => jQn.le hle h)
theorem jGk_203 (dC : Nat → ClassId) (dI : Nat → Nat → Nat) (ca : Nat → ClassId) : jGo (fun n G a H => jAr (dC, dI) (ca 1) (fun j z => -3300 ≤ z.toInt ∧ z.toInt ≤ 20) n a H) := jGo.ar
theorem jGk_204 (dC : Nat → ClassId) (dI : Nat → Nat → Nat) (ca : Nat → ClassId) : jGo (fun n G a H => jAr (dC, dI) (ca 1) (fun j z => -3100 ≤ z.toInt ∧ z.toInt ≤ 3100) n a H) := jGo.ar
theorem jGk_205 (dC : Nat → ClassId) (dI : Nat → Nat → Nat) (ca : Nat → ClassId) : jGo (fun n G a H => jAr (dC, dI) (ca 1) (fun j z => 0 ≤ z.toInt ∧ z.toInt ≤ 1600) n a H) := jGo.ar
theorem jGk_206 (dC : Nat → ClassId) (dI : Nat → Nat → Nat) (ca : Nat → ClassId) : jGo (fun n G a H => jAr (dC, dI) (ca 1) (fun j z => 0 ≤ z.toInt ∧ z.toInt ≤ 40) n a H) := jGo.ar
theorem jGk_207 (dC : Nat → ClassId) (dI : Nat → Nat → Nat) (ca : Nat → ClassId) : jGo (fun n G a H => jAr (dC, dI) (ca 1) (fun j z => 0 ≤ z.toInt ∧ z.toInt ≤ 39) n a H) := jGo.ar
theorem jGk_208 (dC : Nat → ClassId) (dI : Nat → Nat → Nat) (ca : Nat → ClassId) : jGo (fun n G a H => jAq (dC, dI) (ca 4) (jQn 14 0) n G a H) := jGo.aq (fun _ _ _ hle h => jQn.le hle h)
theorem jGk_210 (dC : Nat → ClassId) (dI : Nat → Nat → Nat) (ca : Nat → ClassId) : jGo (fun n G a H => jAq (dC, dI) (ca 6) (jQn 11 0) n G a H) := jGo.aq (fun _ _ _ hle h => jQn.le hle h)
theorem jGk_211 (dC : Nat → ClassId) (dI : Nat → Nat → Nat) (ca : Nat → ClassId) : jGo (fun n G a H => jAq (dC, dI) (ca 7) (jQh) n G a H) := jGo.aq (fun _ _ _ hle h => jQh.le hle h)
theorem jGk_212 (dC : Nat → ClassId) (dI : Nat → Nat → Nat) (ca : Nat → ClassId) : jGo (fun n G a H => jAq (dC, dI) (ca 5) (jQn 3 0) n G a H) := jGo.aq (fun _ _ _ hle h => jQn.le hle h)
theorem jGk_214 (dC : Nat → ClassId) (dI : Nat → Nat → Nat) (ca : Nat → ClassId) : jGo (fun n G a H => jAq (dC, dI) (ca 7) (jQg) n G a H) := jGo.aq (fun _ _ _ hle h => jQg.le hle h)
theorem jGk_221 (dC : Nat → ClassId) (dI : Nat → Nat → Nat) (ca : Nat → ClassId) : jGo (fun n G a H => jAq (dC, dI) (ca 9) (jQn 3 0) n G a H) := jGo.aq (fun _ _ _ hle h => jQn.le hle h)
theorem jGk_222 (dC : Nat → ClassId) (dI : Nat → Nat → Nat) (ca : Nat → ClassId) : jGo (fun n G a H => jAq (dC, dI) (ca 9) (jQn 10 0) n G a H) := jGo.aq (fun _ _ _ hle h => jQn.le hle h)
theorem jGk_223 (dC : Nat → ClassId) (dI : Nat → Nat → Nat) (ca : Nat → ClassId) : jGo (fun n G a H => jAq (dC, dI) (ca 9) (jQn 11 0) n G a H) := jGo.aq (fun _ _ _ hle h => jQn.le hle h)
theorem jGk_280 (dC : Nat → ClassId) (dI : Nat → Nat → Nat) (ca : Nat → ClassId) : jGo (fun n G a H => jAr (dC, dI) (ca 1) (fun j z => -1 ≤ z.toInt) n a H) := jGo.ar
theorem jGk_286 (dC : Nat → ClassId) (dI : Nat → Nat → Nat) (ca : Nat → ClassId) : jGo (fun n G a H => jAr (dC, dI) (ca 1) (fun j z => (0 ≤ z.toInt ∨ z.toInt = -3)) n a H) := jGo.ar
theorem jGk_287 (dC : Nat → ClassId) (dI : Nat → Nat → Nat) (ca : Nat → ClassId) : jGo (fun n G a H => jAr (dC, dI) (ca 1) (fun j z => 0 ≤ z.toInt ∧ z.toInt ≤ 65535) n a H) := jGo.ar
theorem jGk_288 (dC : Nat → ClassId) (dI : Nat → Nat → Nat) (ca : Nat → ClassId) : jGo (fun n G a H => jAr (dC, dI) (ca 1) (fun j z => 0 ≤ z.toInt ∧ z.toInt ≤ 160) n a H) := jGo.ar
theorem jGk_290 (dC : Nat → ClassId) (dI : Nat → Nat → Nat) (ca : Nat → ClassId) : jGo (fun n G a H => jAr (dC, dI) (ca 1) (fun j z => 0 ≤ z.toInt ∧ z.toInt ≤ 3000) n a H) := jGo.ar
theorem jGk_291 (dC : Nat → ClassId) (dI : Nat → Nat → Nat) (ca : Nat → ClassId) : jGo (fun n G a H => jAr (dC, dI) (ca 1) (fun j z => 0 ≤ z.toInt ∧ z.toInt ≤ 3000) n a H) := jGo.ar
theorem jGk_292 (dC : Nat → ClassId) (dI : Nat → Nat → Nat) (ca : Nat → ClassId) : jGo (fun n G a H => jAr (dC, dI) (ca 1) (fun j z => 0 ≤ z.toInt ∧ z.toInt ≤ 8191) n a H) := jGo.ar
theorem jGk_293 (dC : Nat → ClassId) (dI : Nat → Nat → Nat) (ca : Nat → ClassId) : jGo (fun n G a H => jAr (dC, dI) (ca 1) (fun j z => -1 ≤ z.toInt ∧ z.toInt ≤ 8191) n a H) := jGo.ar
theorem jGk_313 (dC : Nat → ClassId) (dI : Nat → Nat → Nat) (ca : Nat → ClassId) : jGo (fun n G a H => jAq (dC, dI) (ca 8) (jQk 280 80) n G a H) := jGo.aq (fun _ _ _ hle h => jQk.le hle h)
theorem jGk_315 (dC : Nat → ClassId) (dI : Nat → Nat → Nat) (ca : Nat → ClassId) : jGo (fun n G a H => jAqZ (dC, dI) (ca 8) n a H) := jGo.az
def jBk0 (dC : Nat → ClassId) (dI : Nat → Nat → Nat) (ca : Nat → ClassId) : List (Nat × jPk) := [(0, fun n G a H => jOb (dC, dI) 0 4 (Fz0 n G) a H), (1, fun n G a H => jOb (dC, dI) 1 3 (F1 n G) a H), (2, fun n G a H => jOb (dC, dI) 2 2 (F2 n G) a H), (3, fun n G a H => jOb (dC, dI) 3 17 (F3 n G) a H), (4, fun n G a H => jOb (dC, dI) 4 12 (F4 n G) a H), (5, fun n G a H => jOb (dC, dI) 5 4 (F5 n G) a H), (6, fun n G a H => jOb (dC, dI) 6 12 (F6 n G) a H), (7, fun n G a H => jOb (dC, dI) 7 11 (F7 n G) a H), (8, fun n G a H => jOb (dC, dI) 8 4 (F8 n G) a H), (9, fun n G a H => jOb (dC, dI) 9 5 (F9b n G) a H), (10, fun n G a H => jOb (dC, dI) 10 5 (F10 n G) a H), (11, fun n G a H => jOb (dC, dI) 11 9 (F11 n G) a H)]
theorem jBg0 (dC : Nat → ClassId) (dI : Nat → Nat → Nat) (ca : Nat → ClassId) : ∀ q ∈ jBk0 dC dI ca, jGo q.2 := List.forall_mem_cons.mpr ⟨jGk_0 dC dI ca, List.forall_mem_cons.mpr ⟨jGk_1 dC dI ca, List.forall_mem_cons.mpr ⟨jGk_2 dC dI ca, List.forall_mem_cons.mpr ⟨jGk_3 dC dI ca, List.forall_mem_cons.mpr ⟨jGk_4 dC dI ca, List.forall_mem_cons.mpr ⟨jGk_5 dC dI ca, List.forall_mem_cons.mpr ⟨jGk_6 dC dI ca, List.forall_mem_cons.mpr ⟨jGk_7 dC dI ca, List.forall_mem_cons.mpr ⟨jGk_8 dC dI ca, List.forall_mem_cons.mpr ⟨jGk_9 dC dI ca, List.forall_mem_cons.mpr ⟨jGk_10 dC dI ca, List.forall_mem_cons.mpr ⟨jGk_11 dC dI ca, fun _ h => absurd h List.not_mem_nil⟩⟩⟩⟩⟩⟩⟩⟩⟩⟩⟩⟩
def jBk1 (dC : Nat → ClassId) (dI : Nat → Nat → Nat) (ca : Nat → ClassId) : List (Nat × jPk) := [(12, fun n G a H => jOb (dC, dI) 12 11 (F12b n G) a H), (13, fun n G a H => jOb (dC, dI) 13 19 (F13 n G) a H), (14, fun n G a H => jOb (dC, dI) 14 11 (F14 n G) a H), (15, fun n G a H => jOb (dC, dI) 15 50 (F15 n G) a H), (16, fun n G a H => jOb (dC, dI) 16 74 (F16 n G) a H), (100, fun n G a H => jAr (dC, dI) (ca 0) (fun j z => True) n a H), (101, fun n G a H => jAr (dC, dI) (ca 1) (fun j z => True) n a H), (102, fun n G a H => jAl (dC, dI) (ca 2) n a H), (103, fun n G a H => jAr (dC, dI) (ca 3) (fun j z => (z = 0 ∨ z = 1)) n a H), (110, fun n G a H => jAr (dC, dI) (ca 1) (fun j z => 0 ≤ z.toInt ∧ z.toInt ≤ 255) n a H), (111, fun n G a H => jAr (dC, dI) (ca 1) (fun j z => 0 ≤ z.toInt ∧ z.toInt ≤ 255) n a H), (117, fun n G a H => jAr (dC, dI) (ca 1) (fun j z => True) n a H)]
theorem jBg1 (dC : Nat → ClassId) (dI : Nat → Nat → Nat) (ca : Nat → ClassId) : ∀ q ∈ jBk1 dC dI ca, jGo q.2 := List.forall_mem_cons.mpr ⟨jGk_12 dC dI ca, List.forall_mem_cons.mpr ⟨jGk_13 dC dI ca, List.forall_mem_cons.mpr ⟨jGk_14 dC dI ca, List.forall_mem_cons.mpr ⟨jGk_15 dC dI ca, List.forall_mem_cons.mpr ⟨jGk_16 dC dI ca, List.forall_mem_cons.mpr ⟨jGk_100 dC dI ca, List.forall_mem_cons.mpr ⟨jGk_101 dC dI ca, List.forall_mem_cons.mpr ⟨jGk_102 dC dI ca, List.forall_mem_cons.mpr ⟨jGk_103 dC dI ca, List.forall_mem_cons.mpr ⟨jGk_110 dC dI ca, List.forall_mem_cons.mpr ⟨jGk_111 dC dI ca, List.forall_mem_cons.mpr ⟨jGk_117 dC dI ca, fun _ h => absurd h List.not_mem_nil⟩⟩⟩⟩⟩⟩⟩⟩⟩⟩⟩⟩
def jBk2 (dC : Nat → ClassId) (dI : Nat → Nat → Nat) (ca : Nat → ClassId) : List (Nat × jPk) := [(118, fun n G a H => jAr (dC, dI) (ca 1) (fun j z => -1 ≤ z.toInt ∧ z.toInt ≤ 3099) n a H), (119, fun n G a H => jAr (dC, dI) (ca 1) (fun j z => z.toInt = -1 ∨ z.toInt = 0 ∨ ((j : Nat) < z.toInt ∧ z.toInt ≤ 3099)) n a H), (120, fun n G a H => jAr (dC, dI) (ca 1) (fun j z => 0 ≤ z.toInt ∧ z.toInt ≤ 3300) n a H), (121, fun n G a H => jAr (dC, dI) (ca 1) (fun j z => 0 ≤ z.toInt ∧ z.toInt ≤ 3300) n a H), (122, fun n G a H => jAr (dC, dI) (ca 1) (fun j z => 0 ≤ z.toInt ∧ z.toInt ≤ 3100) n a H), (123, fun n G a H => jAr (dC, dI) (ca 1) (fun j z => 0 ≤ z.toInt ∧ z.toInt ≤ 3100) n a H), (124, fun n G a H => jAr (dC, dI) (ca 3) (fun j z => (z = 0 ∨ z = 1)) n a H), (125, fun n G a H => jAr (dC, dI) (ca 1) (fun j z => True) n a H), (127, fun n G a H => jAr (dC, dI) (ca 1) (fun j z => True) n a H), (132, fun n G a H => jAr (dC, dI) (ca 1) (fun j z => 0 ≤ z.toInt ∧ z.toInt ≤ 10) n a H), (133, fun n G a H => jAr (dC, dI) (ca 1) (fun j z => 0 ≤ z.toInt ∧ z.toInt ≤ 8192) n a H), (140, fun n G a H => jAr (dC, dI) (ca 1) (fun j z => True) n a H)]
theorem jBg2 (dC : Nat → ClassId) (dI : Nat → Nat → Nat) (ca : Nat → ClassId) : ∀ q ∈ jBk2 dC dI ca, jGo q.2 := List.forall_mem_cons.mpr ⟨jGk_118 dC dI ca, List.forall_mem_cons.mpr ⟨jGk_119 dC dI ca, List.forall_mem_cons.mpr ⟨jGk_120 dC dI ca, List.forall_mem_cons.mpr ⟨jGk_121 dC dI ca, List.forall_mem_cons.mpr ⟨jGk_122 dC dI ca, List.forall_mem_cons.mpr ⟨jGk_123 dC dI ca, List.forall_mem_cons.mpr ⟨jGk_124 dC dI ca, List.forall_mem_cons.mpr ⟨jGk_125 dC dI ca, List.forall_mem_cons.mpr ⟨jGk_127 dC dI ca, List.forall_mem_cons.mpr ⟨jGk_132 dC dI ca, List.forall_mem_cons.mpr ⟨jGk_133 dC dI ca, List.forall_mem_cons.mpr ⟨jGk_140 dC dI ca, fun _ h => absurd h List.not_mem_nil⟩⟩⟩⟩⟩⟩⟩⟩⟩⟩⟩⟩
def jBk3 (dC : Nat → ClassId) (dI : Nat → Nat → Nat) (ca : Nat → ClassId) : List (Nat × jPk) := [(141, fun n G a H => jAr (dC, dI) (ca 1) (fun j z => True) n a H), (142, fun n G a H => jAr (dC, dI) (ca 1) (fun j z => True) n a H), (143, fun n G a H => jAr (dC, dI) (ca 1) (fun j z => True) n a H), (144, fun n G a H => jAr (dC, dI) (ca 1) (fun j z => 0 ≤ z.toInt ∧ z.toInt ≤ 3000) n a H), (145, fun n G a H => jAr (dC, dI) (ca 1) (fun j z => True) n a H), (146, fun n G a H => jAr (dC, dI) (ca 1) (fun j z => True) n a H), (150, fun n G a H => jAr (dC, dI) (ca 1) (fun j z => True) n a H), (151, fun n G a H => jAr (dC, dI) (ca 1) (fun j z => True) n a H), (152, fun n G a H => jAr (dC, dI) (ca 1) (fun j z => True) n a H), (153, fun n G a H => jAr (dC, dI) (ca 1) (fun j z => True) n a H), (154, fun n G a H => jAr (dC, dI) (ca 1) (fun j z => True) n a H), (155, fun n G a H => jAr (dC, dI) (ca 1) (fun j z => 0 ≤ z.toInt ∧ z.toInt ≤ 11990) n a H)]
theorem jBg3 (dC : Nat → ClassId) (dI : Nat → Nat → Nat) (ca : Nat → ClassId) : ∀ q ∈ jBk3 dC dI ca, jGo q.2 := List.forall_mem_cons.mpr ⟨jGk_141 dC dI ca, List.forall_mem_cons.mpr ⟨jGk_142 dC dI ca, List.forall_mem_cons.mpr ⟨jGk_143 dC dI ca, List.forall_mem_cons.mpr ⟨jGk_144 dC dI ca, List.forall_mem_cons.mpr ⟨jGk_145 dC dI ca, List.forall_mem_cons.mpr ⟨jGk_146 dC dI ca, List.forall_mem_cons.mpr ⟨jGk_150 dC dI ca, List.forall_mem_cons.mpr ⟨jGk_151 dC dI ca, List.forall_mem_cons.mpr ⟨jGk_152 dC dI ca, List.forall_mem_cons.mpr ⟨jGk_153 dC dI ca, List.forall_mem_cons.mpr ⟨jGk_154 dC dI ca, List.forall_mem_cons.mpr ⟨jGk_155 dC dI ca, fun _ h => absurd h List.not_mem_nil⟩⟩⟩⟩⟩⟩⟩⟩⟩⟩⟩⟩
def jBk4 (dC : Nat → ClassId) (dI : Nat → Nat → Nat) (ca : Nat → ClassId) : List (Nat × jPk) := [(156, fun n G a H => jAr (dC, dI) (ca 1) (fun j z => 0 ≤ z.toInt ∧ z.toInt ≤ 10) n a H), (157, fun n G a H => jAr (dC, dI) (ca 1) (fun j z => 0 ≤ z.toInt ∧ z.toInt ≤ 1599) n a H), (158, fun n G a H => jAr (dC, dI) (ca 1) (fun j z => 0 ≤ z.toInt ∧ z.toInt ≤ 6) n a H), (159, fun n G a H => jAr (dC, dI) (ca 1) (fun j z => 0 ≤ z.toInt ∧ z.toInt ≤ 8) n a H), (160, fun n G a H => jAr (dC, dI) (ca 1) (fun j z => 0 ≤ z.toInt ∧ z.toInt ≤ 119999) n a H), (161, fun n G a H => jAr (dC, dI) (ca 1) (fun j z => 0 ≤ z.toInt ∧ z.toInt ≤ 119999) n a H), (162, fun n G a H => jAr (dC, dI) (ca 1) (fun j z => 0 ≤ z.toInt ∧ z.toInt ≤ 119999) n a H), (163, fun n G a H => jAr (dC, dI) (ca 1) (fun j z => 0 ≤ z.toInt ∧ z.toInt ≤ 1599) n a H), (164, fun n G a H => jAr (dC, dI) (ca 1) (fun j z => 0 ≤ z.toInt ∧ z.toInt ≤ 100000) n a H), (165, fun n G a H => jAr (dC, dI) (ca 1) (fun j z => 0 ≤ z.toInt ∧ z.toInt ≤ 3) n a H), (166, fun n G a H => jAr (dC, dI) (ca 1) (fun j z => True) n a H), (167, fun n G a H => jAr (dC, dI) (ca 1) (fun j z => True) n a H)]
theorem jBg4 (dC : Nat → ClassId) (dI : Nat → Nat → Nat) (ca : Nat → ClassId) : ∀ q ∈ jBk4 dC dI ca, jGo q.2 := List.forall_mem_cons.mpr ⟨jGk_156 dC dI ca, List.forall_mem_cons.mpr ⟨jGk_157 dC dI ca, List.forall_mem_cons.mpr ⟨jGk_158 dC dI ca, List.forall_mem_cons.mpr ⟨jGk_159 dC dI ca, List.forall_mem_cons.mpr ⟨jGk_160 dC dI ca, List.forall_mem_cons.mpr ⟨jGk_161 dC dI ca, List.forall_mem_cons.mpr ⟨jGk_162 dC dI ca, List.forall_mem_cons.mpr ⟨jGk_163 dC dI ca, List.forall_mem_cons.mpr ⟨jGk_164 dC dI ca, List.forall_mem_cons.mpr ⟨jGk_165 dC dI ca, List.forall_mem_cons.mpr ⟨jGk_166 dC dI ca, List.forall_mem_cons.mpr ⟨jGk_167 dC dI ca, fun _ h => absurd h List.not_mem_nil⟩⟩⟩⟩⟩⟩⟩⟩⟩⟩⟩⟩
def jBk5 (dC : Nat → ClassId) (dI : Nat → Nat → Nat) (ca : Nat → ClassId) : List (Nat × jPk) := [(168, fun n G a H => jAr (dC, dI) (ca 1) (fun j z => 0 ≤ z.toInt ∧ z.toInt ≤ 119999) n a H), (169, fun n G a H => jAr (dC, dI) (ca 1) (fun j z => True) n a H), (171, fun n G a H => jAr (dC, dI) (ca 1) (fun j z => 0 ≤ z.toInt ∧ z.toInt ≤ 1500) n a H), (172, fun n G a H => jAr (dC, dI) (ca 1) (fun j z => 0 ≤ z.toInt ∧ z.toInt ≤ 1500) n a H), (190, fun n G a H => jAr (dC, dI) (ca 1) (fun j z => 0 ≤ z.toInt ∧ z.toInt ≤ 1500) n a H), (191, fun n G a H => jAr (dC, dI) (ca 1) (fun j z => 0 ≤ z.toInt ∧ z.toInt ≤ 1500) n a H), (192, fun n G a H => jAr (dC, dI) (ca 1) (fun j z => 0 ≤ z.toInt ∧ z.toInt ≤ 2) n a H), (193, fun n G a H => jAr (dC, dI) (ca 1) (fun j z => True) n a H), (196, fun n G a H => jAr (dC, dI) (ca 0) (fun j z => jBf j z) n a H), (197, fun n G a H => jAr (dC, dI) (ca 0) (fun j z => jBf j z) n a H), (201, fun n G a H => jAq (dC, dI) (ca 4) (jQs 14 0) n G a H), (202, fun n G a H => jAq (dC, dI) (ca 4) (jQn 14 0) n G a H)]
theorem jBg5 (dC : Nat → ClassId) (dI : Nat → Nat → Nat) (ca : Nat → ClassId) : ∀ q ∈ jBk5 dC dI ca, jGo q.2 := List.forall_mem_cons.mpr ⟨jGk_168 dC dI ca, List.forall_mem_cons.mpr ⟨jGk_169 dC dI ca, List.forall_mem_cons.mpr ⟨jGk_171 dC dI ca, List.forall_mem_cons.mpr ⟨jGk_172 dC dI ca, List.forall_mem_cons.mpr ⟨jGk_190 dC dI ca, List.forall_mem_cons.mpr ⟨jGk_191 dC dI ca, List.forall_mem_cons.mpr ⟨jGk_192 dC dI ca, List.forall_mem_cons.mpr ⟨jGk_193 dC dI ca, List.forall_mem_cons.mpr ⟨jGk_196 dC dI ca, List.forall_mem_cons.mpr ⟨jGk_197 dC dI ca, List.forall_mem_cons.mpr ⟨jGk_201 dC dI ca, List.forall_mem_cons.mpr ⟨jGk_202 dC dI ca, fun _ h => absurd h List.not_mem_nil⟩⟩⟩⟩⟩⟩⟩⟩⟩⟩⟩⟩
def jBk6 (dC : Nat → ClassId) (dI : Nat → Nat → Nat) (ca : Nat → ClassId) : List (Nat × jPk) := [(203, fun n G a H => jAr (dC, dI) (ca 1) (fun j z => -3300 ≤ z.toInt ∧ z.toInt ≤ 20) n a H), (204, fun n G a H => jAr (dC, dI) (ca 1) (fun j z => -3100 ≤ z.toInt ∧ z.toInt ≤ 3100) n a H), (205, fun n G a H => jAr (dC, dI) (ca 1) (fun j z => 0 ≤ z.toInt ∧ z.toInt ≤ 1600) n a H), (206, fun n G a H => jAr (dC, dI) (ca 1) (fun j z => 0 ≤ z.toInt ∧ z.toInt ≤ 40) n a H), (207, fun n G a H => jAr (dC, dI) (ca 1) (fun j z => 0 ≤ z.toInt ∧ z.toInt ≤ 39) n a H), (208, fun n G a H => jAq (dC, dI) (ca 4) (jQn 14 0) n G a H), (210, fun n G a H => jAq (dC, dI) (ca 6) (jQn 11 0) n G a H), (211, fun n G a H => jAq (dC, dI) (ca 7) (jQh) n G a H), (212, fun n G a H => jAq (dC, dI) (ca 5) (jQn 3 0) n G a H), (214, fun n G a H => jAq (dC, dI) (ca 7) (jQg) n G a H), (221, fun n G a H => jAq (dC, dI) (ca 9) (jQn 3 0) n G a H), (222, fun n G a H => jAq (dC, dI) (ca 9) (jQn 10 0) n G a H)]
theorem jBg6 (dC : Nat → ClassId) (dI : Nat → Nat → Nat) (ca : Nat → ClassId) : ∀ q ∈ jBk6 dC dI ca, jGo q.2 := List.forall_mem_cons.mpr ⟨jGk_203 dC dI ca, List.forall_mem_cons.mpr ⟨jGk_204 dC dI ca, List.forall_mem_cons.mpr ⟨jGk_205 dC dI ca, List.forall_mem_cons.mpr ⟨jGk_206 dC dI ca, List.forall_mem_cons.mpr ⟨jGk_207 dC dI ca, List.forall_mem_cons.mpr ⟨jGk_208 dC dI ca, List.forall_mem_cons.mpr ⟨jGk_210 dC dI ca, List.forall_mem_cons.mpr ⟨jGk_211 dC dI ca, List.forall_mem_cons.mpr ⟨jGk_212 dC dI ca, List.forall_mem_cons.mpr ⟨jGk_214 dC dI ca, List.forall_mem_cons.mpr ⟨jGk_221 dC dI ca, List.forall_mem_cons.mpr ⟨jGk_222 dC dI ca, fun _ h => absurd h List.not_mem_nil⟩⟩⟩⟩⟩⟩⟩⟩⟩⟩⟩⟩
def jBk7 (dC : Nat → ClassId) (dI : Nat → Nat → Nat) (ca : Nat → ClassId) : List (Nat × jPk) := [(223, fun n G a H => jAq (dC, dI) (ca 9) (jQn 11 0) n G a H), (280, fun n G a H => jAr (dC, dI) (ca 1) (fun j z => -1 ≤ z.toInt) n a H), (286, fun n G a H => jAr (dC, dI) (ca 1) (fun j z => (0 ≤ z.toInt ∨ z.toInt = -3)) n a H), (287, fun n G a H => jAr (dC, dI) (ca 1) (fun j z => 0 ≤ z.toInt ∧ z.toInt ≤ 65535) n a H), (288, fun n G a H => jAr (dC, dI) (ca 1) (fun j z => 0 ≤ z.toInt ∧ z.toInt ≤ 160) n a H), (290, fun n G a H => jAr (dC, dI) (ca 1) (fun j z => 0 ≤ z.toInt ∧ z.toInt ≤ 3000) n a H), (291, fun n G a H => jAr (dC, dI) (ca 1) (fun j z => 0 ≤ z.toInt ∧ z.toInt ≤ 3000) n a H), (292, fun n G a H => jAr (dC, dI) (ca 1) (fun j z => 0 ≤ z.toInt ∧ z.toInt ≤ 8191) n a H), (293, fun n G a H => jAr (dC, dI) (ca 1) (fun j z => -1 ≤ z.toInt ∧ z.toInt ≤ 8191) n a H), (313, fun n G a H => jAq (dC, dI) (ca 8) (jQk 280 80) n G a H), (315, fun n G a H => jAqZ (dC, dI) (ca 8) n a H)]
theorem jBg7 (dC : Nat → ClassId) (dI : Nat → Nat → Nat) (ca : Nat → ClassId) : ∀ q ∈ jBk7 dC dI ca, jGo q.2 := List.forall_mem_cons.mpr ⟨jGk_223 dC dI ca, List.forall_mem_cons.mpr ⟨jGk_280 dC dI ca, List.forall_mem_cons.mpr ⟨jGk_286 dC dI ca, List.forall_mem_cons.mpr ⟨jGk_287 dC dI ca, List.forall_mem_cons.mpr ⟨jGk_288 dC dI ca, List.forall_mem_cons.mpr ⟨jGk_290 dC dI ca, List.forall_mem_cons.mpr ⟨jGk_291 dC dI ca, List.forall_mem_cons.mpr ⟨jGk_292 dC dI ca, List.forall_mem_cons.mpr ⟨jGk_293 dC dI ca, List.forall_mem_cons.mpr ⟨jGk_313 dC dI ca, List.forall_mem_cons.mpr ⟨jGk_315 dC dI ca, fun _ h => absurd h List.not_mem_nil⟩⟩⟩⟩⟩⟩⟩⟩⟩⟩⟩
def jBk (dC : Nat → ClassId) (dI : Nat → Nat → Nat) (ca : Nat → ClassId) : List (Nat × jPk) := jBk0 dC dI ca ++ (jBk1 dC dI ca ++ (jBk2 dC dI ca ++ (jBk3 dC dI ca ++ (jBk4 dC dI ca ++ (jBk5 dC dI ca ++ (jBk6 dC dI ca ++ (jBk7 dC dI ca)))))))
theorem jBg (dC : Nat → ClassId) (dI : Nat → Nat → Nat) (ca : Nat → ClassId) : ∀ q ∈ jBk dC dI ca, jGo q.2 := List.forall_mem_append.mpr ⟨jBg0 dC dI ca, List.forall_mem_append.mpr ⟨jBg1 dC dI ca, List.forall_mem_append.mpr ⟨jBg2 dC dI ca, List.forall_mem_append.mpr ⟨jBg3 dC dI ca, List.forall_mem_append.mpr ⟨jBg4 dC dI ca, List.forall_mem_append.mpr ⟨jBg5 dC dI ca, List.forall_mem_append.mpr ⟨jBg6 dC dI ca, jBg7 dC dI ca⟩⟩⟩⟩⟩⟩⟩
def jBB (dC : Nat → ClassId) (dI : Nat → Nat → Nat) (ca : Nat → ClassId) : jF := fun k n G a H => jLk (jBk dC dI ca) k n G a H
theorem jBB.ok (dC : Nat → ClassId) (dI : Nat → Nat → Nat) (ca : Nat → ClassId) : jBok (jBB dC dI ca) := ⟨fun k n G a H H1 h => (jLk.good _ (jBg dC dI ca) k).1 n G a H H1 (h a jSup.root), fun k n G G1 a H => (jLk.good _ (jBg dC dI ca) k).2 n G G1 a H⟩
end
section
-- nothing is there yet
section J51
variable {dC : Nat → ClassId} {dI : Nat → Nat → Nat} {ca : Nat → ClassId} {B : jF} {base : Nat} {G : jT} {H : Heap}
theorem jX.nil (h : ∀ a t, G a ≠ some t) : jX B base G [] H := ⟨fun a k n ha => absurd ha (h _ _), fun a t ha => absurd ha (h _ _)⟩
end J51
end
