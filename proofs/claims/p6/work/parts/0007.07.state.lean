section
-- what the walks take of the launch: the classes, the nest mates' links, the text constants, the statics (all outside of what a walk writes: addresses from base on)
theorem jStrT.str {base a : Nat} {tx : String} {U : State} {H : Heap} (h : jStrT base a tx U H) : jStr base a tx.length U H := by
  obtain ⟨h1, h2, v, h3, h4⟩ := h
  exact ⟨h1, h2, v, _, h3, h4⟩
theorem jG.str {dC : Nat → ClassId} {dI : Nat → Nat → Nat} {ca : Nat → ClassId} {base : Nat} {U : State} (h : jG dC dI ca base U) {o tx : String} {k : Nat} (hm : Cond.stringRef o k tx ∈ tables_1) : ∃ a, vk_R o k tx a U ∧ jStr base a tx.length U U.heap := by
  obtain ⟨a, h1, h2⟩ := h.2.2.2.1 o k tx hm
  exact ⟨a, h1, h2.str⟩
end
section
-- apply: a rule's quantifiers, its left sides, the terms that are told
def jNe (f : Nat → Int32) (m : Int) : Prop := ∀ k : Int, 0 ≤ k → k < m → jSo f k = -1
theorem jNe.s {f g : Nat → Int32} {m e : Int} (h : jNe f m) (hv : jSo g e = -1) (ho : ∀ j, j < 100 → j ≠ e.toNat → g j = f j) (he : e = m) (h0 : 0 ≤ m) (h1 : m ≤ 99) : jNe g (m + 1) := fun k g0 g1 => by
  have hU := jUpd.mk (n := 100) hv ho he h0
  by_cases q : k = m
  · rw [q]; exact hU.1
  · rw [hU.2 k g0 (by omega) q]; exact h k g0 (by omega)
def jNn (f : Nat → Int32) (m : Int) : Prop := ∀ k : Int, 0 ≤ k → k < m → 0 ≤ jSo f k
theorem jNn.s {f : Nat → Int32} {m z e : Int} (h : jNn f m) (hz : z = jSo f e) (he : e = m) (h0 : 0 ≤ z) : jNn f (m + 1) := fun k g0 g1 => by
  by_cases q : k = m
  · rw [q, ← he, ← hz]; exact h0
  · exact h k g0 (by omega)
end
section
-- where a sign stands in a text whose last sign it is
theorem jStrE.str {base a n : Nat} {f : Nat → Int32} {U : State} {H : Heap} (h : jStrE base a n f U H) : jStr base a n U H := by
  obtain ⟨h1, h2, -, v, h3, h4⟩ := h
  exact ⟨h1, h2, v, _, h3, h4⟩
end
section
-- invariants with a footprint, as a walk carries them: contents of reference arrays, one field of all documents, the sentences of all documents
section J15
variable {p : Program} {l : Launch} {e : Env} {R : Room} {s : State} {m : MethodId} {args : Array Value} {below : List Frame} {meth : Method} {c : Code} {H : Heap} {locs : List Loc} {cells slots : Nat} {Q : State → Prop}
variable {cc : ByteArray} {pc : Nat} {ls : Array Slot} {rest : List Value} {dC : Nat → ClassId} {dI : Nat → Nat → Nat} {ca : Nat → ClassId} {B : jF} {base : Nat} {G0 G : jT} {E : List (Nat × Nat)} {H0 : Heap} {zc zs : Nat} {L : List jPin} {M : List jCt} {I : List jIv} {a k n i N : Nat} {cA : ClassId} {tys : List (ClassId × FieldType)} {C own : String} {T : u_T} {index : Nat}
theorem jQc_eq {D : va_G} {a n j : Nat} {cA cB : ClassId} {f g : Nat → Option Nat} {H : Heap} (h1 : va_at D vwCl (a, .inl (cA, n, .inr (.inr (.inr (.inr f))))) H) (h2 : va_at D vwCl (a, .inl (cB, n, .inr (.inr (.inr (.inr g))))) H) (hj : j < n) : f j = g j := by
  have e1 : H[a]? = some (vp_cell cA (n, .inr (.inr (.inr (.inr f))))) := h1
  have e2 : H[a]? = some (vp_cell cB (n, .inr (.inr (.inr (.inr g))))) := h2
  have e := Option.some.inj (e1.symm.trans e2)
  have r1 : (vp_cell cA (n, .inr (.inr (.inr (.inr f))))).slots[j]? = some (va_rf (f j)) := by rw [vp_cell_q, arrV_read _ _ hj]
  have r2 : (vp_cell cB (n, .inr (.inr (.inr (.inr g))))).slots[j]? = some (va_rf (g j)) := by rw [vp_cell_q, arrV_read _ _ hj]
  rw [e, r2] at r1
  have r3 := Option.some.inj r1
  cases hf : f j <;> cases hg : g j <;> rw [hf, hg] at r3 <;> simp [va_rf] at r3 ⊢
  exact r3.symm
end J15
end
section
-- texts whose bytes are known: charAt, isText and member as functions
theorem jStrF.str {base a n : Nat} {f : Nat → Int32} {U : State} {H : Heap} (h : jStrF base a n f U H) : jStr base a n U H := by
  obtain ⟨h1, h2, v, h3, h4⟩ := h
  exact ⟨h1, h2, v, _, h3, h4⟩
def jTx (fp f : Nat → Int32) (a : Int) : Nat → Int
  | 0 => 1
  | n + 1 => if jSo fp (a + n) = (jCv (f n)).toInt then jTx fp f a n else 0
def jIT (fp f : Nat → Int32) (n : Nat) (a b : Int) : Int := if b - a = n then jTx fp f a n else 0
def jMn (nf nt nx fp f : Nat → Int32) (n : Nat) : Nat → Int → Int → Int
  | 0, _, c => c
  | k + 1, m, c => if m < 0 then c else jMn nf nt nx fp f n k (jSo nx m) (if jIT fp f n (jSo nf m) (jSo nt m) = 0 then c else m)
theorem jMn_s {nf nt nx fp f : Nat → Int32} {n k : Nat} {m c m1 c1 : Int} (hk : 0 < k) (hm : 0 ≤ m) (e1 : m1 = jSo nx m) (e2 : (jIT fp f n (jSo nf m) (jSo nt m) = 0 ∧ c1 = c) ∨ (jIT fp f n (jSo nf m) (jSo nt m) ≠ 0 ∧ c1 = m)) : jMn nf nt nx fp f n (k - 1) m1 c1 = jMn nf nt nx fp f n k m c := by
  cases k with
  | zero => omega
  | succ k =>
    have e : jMn nf nt nx fp f n (k + 1) m c = if m < 0 then c else jMn nf nt nx fp f n k (jSo nx m) (if jIT fp f n (jSo nf m) (jSo nt m) = 0 then c else m) := rfl
    rw [e, if_neg (by omega), ← e1]
    rcases e2 with ⟨q, rfl⟩ | ⟨q, rfl⟩
    · rw [if_pos q]; rfl
    · rw [if_neg q]; rfl
theorem jMn_e {nf nt nx fp f : Nat → Int32} {n k : Nat} {m c r : Int} (hk : 0 < k) (hm : m < 0) (e : r = c) : r = jMn nf nt nx fp f n k m c := by
  cases k with
  | zero => omega
  | succ k =>
    have e1 : jMn nf nt nx fp f n (k + 1) m c = if m < 0 then c else jMn nf nt nx fp f n k (jSo nx m) (if jIT fp f n (jSo nf m) (jSo nt m) = 0 then c else m) := rfl
    rw [e1, if_pos hm, e]
/-- the member of node a that the text f of length n names; -1 when there is none -/
def jMb (so hr nf nt nx fp f : Nat → Int32) (n : Nat) (a : Int) : Int := if a < 0 ∨ jSo so a ≠ 6 then -1 else jMn nf nt nx fp f n 3102 (jSo hr a) (-1)
end
section
-- the digits of a number are counted
theorem jDc.np {c d p n : Int} (h : jDc c d) (hn : p + d ≤ n) : jNp c p n := by
  unfold jDc at h
  unfold jNp
  rcases h with ⟨rfl, h⟩ | ⟨rfl, h⟩ | ⟨rfl, h⟩ | ⟨rfl, h⟩ | ⟨rfl, h⟩ | ⟨rfl, h⟩ | ⟨rfl, h⟩
  · left; omega
  · right; left; omega
  · right; right; left; omega
  · right; right; right; left; omega
  · right; right; right; right; left; omega
  · right; right; right; right; right; left; omega
  · right; right; right; right; right; right; omega
end
section
-- what is known of all lists (o: the one that is open); k: as many there are
def jWl9.s3 (w : jWl9) (l : List Nat) : jWl9 := ⟨w.1, w.2.1, w.2.2.1, l⟩
/-- the others are told as before -/
def jWo (c : Nat) (w wn : jWl9) : Prop := (c ≠ 1 → wn.1 = w.1 ∧ wn.2.1 = w.2.1) ∧ (c ≠ 2 → wn.2.2.1 = w.2.2.1) ∧ (c ≠ 3 → wn.2.2.2 = w.2.2.2)
section J33
variable {dC : Nat → ClassId} {dI : Nat → Nat → Nat} {ca : Nat → ClassId} {G G1 : jT} {H H1 : Heap} {a c k r x m n : Nat} {o : Option Nat} {ks : List Nat} {w wn : jWl9}
theorem jWo.s {c c1 : Nat} (h : jWo c w wn) (h1 : c1 ≠ c) (h2 : 1 ≤ c1) (h3 : c1 ≤ 3) : (c1 = 1 → wn.1 = w.1 ∧ wn.2.1 = w.2.1) ∧ (c1 ≠ 1 → jWls c1 wn = jWls c1 w) := by
  obtain rfl | rfl | rfl : c1 = 1 ∨ c1 = 2 ∨ c1 = 3 := by omega
  · exact ⟨fun _ => h.1 (fun q => h1 q.symm), fun q => absurd rfl q⟩
  · exact ⟨fun q => absurd q (by decide), fun _ => h.2.1 (fun q => h1 q.symm)⟩
  · exact ⟨fun q => absurd q (by decide), fun _ => h.2.2 (fun q => h1 q.symm)⟩
end J33
end
section
-- how many bytes a message has at least: its strings and keys stand apart
def jSuu (D : jC) : List Nat → Int
  | [] => 0
  | e :: es => jln D e + jSuu D es
theorem jCss.all {D : jC} {N : Int} : ∀ es : List Nat, (∀ e ∈ es, 0 ≤ jln D e ∧ jlo D e + jln D e ≤ N) → jCss D N es = jSuu D es
  | [], _ => rfl
  | e :: es, h => by
    have h1 := jCss.all (N := N) es (fun x hx => h x (List.mem_cons_of_mem _ hx))
    have h2 := h e List.mem_cons_self
    show jCl D N e + jCss D N es = jln D e + jSuu D es
    have h3 : jCl D N e = jln D e := by
      unfold jCl
      by_cases a : N ≤ jlo D e
      · rw [if_pos a]; omega
      · rw [if_neg a]
        by_cases b : N ≤ jlo D e + jln D e
        · rw [if_pos b]; omega
        · rw [if_neg b]
    omega
end
section
-- p9: lists and objects, values: what they leave
section
variable {T : Nat → Int → Int} {h l c f z j : Int}
theorem jjLk.e5c : jjLk T h l c f z 5 c = f := by by_cases hl : l < 0 <;> simp [jjLk, jjS, hl]
theorem jjLk.e6c : jjLk T h l c f z 6 c = z := by by_cases hl : l < 0 <;> simp [jjLk, jjS, hl]
end
end
section
-- p9: frames: X 0 fine or broken, 1 place, 2 told, 3 kept, 4 signs, 5 the name is like the wanted one, 6 digits, 7 value, 8 filled
section
variable {x a b c d e f g h i u r p q ql qg : Int}
theorem jfW_n (hn : b ≠ 6 ∨ i < c) : jfW (jfV x b c d e f g h i) = (jfV x b c d e f g h i, 0, 0) := if_neg (fun w => by have w1 : b = 6 := w.1; have w2 : c ≤ i := w.2; omega)
theorem jfA.bn {k l qn qb p : Int} (hb : b = 6) (hp : p = 6) (hk : k = d + 1) (hl : l = i + 1) (hw : l < c) (hr : r = 0) (hq : qb = 0) : jfA (jfV x b c d e f g h i) u r qn qb p c k e f g h l := by
  refine ⟨jfV 0 p c k e f g h l, 0, ?_, Or.inr ⟨hq, rfl⟩, fun w => by omega⟩
  unfold jfAc
  rw [if_pos (show jfV x b c d e f g h i 1 = 6 from hb)]
  show jfW (jfV 0 6 c (d + 1) e f g h (i + 1)) = _
  rw [jfW_n (Or.inr (by omega)), hk, hl, hr, hp]
end
section JP3
variable {p : Program} {l : Launch} {e : Env} {R : Room} {s : State} {m : MethodId} {args : Array Value} {below : List Frame} {meth : Method} {c : Code} {H : Heap} {locs : List Loc} {cells slots : Nat} {Q : State → Prop}
variable {cc : ByteArray} {pc : Nat} {ls : Array Slot} {rest : List Value} {dC : Nat → ClassId} {dI : Nat → Nat → Nat} {ca : Nat → ClassId} {B : jF} {base : Nat} {G0 G : jT} {E : List (Nat × Nat)} {H0 : Heap} {zc zs : Nat} {L : List jPin} {M : List jCt} {I : List jIv} {a k n : Nat} {cA : ClassId} {tys : List (ClassId × FieldType)}
end JP3
section JP4
variable {p : Program} {l : Launch} {e : Env} {R : Room} {s : State} {m : MethodId} {args : Array Value} {below : List Frame} {meth : Method} {c : Code} {H : Heap} {locs : List Loc} {cells slots : Nat} {Q : State → Prop}
variable {cc : ByteArray} {pc : Nat} {ls : Array Slot} {rest : List Value} {dC : Nat → ClassId} {dI : Nat → Nat → Nat} {ca : Nat → ClassId} {B : jF} {base : Nat} {G0 G : jT} {E : List (Nat × Nat)} {H0 : Heap} {zc zs : Nat} {L : List jPin} {M : List jCt} {I : List jIv} {a k n : Nat} {cA : ClassId} {tys : List (ClassId × FieldType)}
variable {P : Nat → Int32 → Prop}
end JP4
end
section
-- p9: what the class's methods say of JSON
theorem jjPu.rf (f : Nat → Int32) (u : Int) : jjPu f f u := fun _ _ _ => rfl
theorem jjPu.tr {f g k : Nat → Int32} {u v : Int} (h : jjPu f g u) (h1 : jjPu g k v) (e : u ≤ v) : jjPu f k u := fun j q0 q1 => (h1 j q0 (by omega)).trans (h j q0 q1)
section
variable {T T1 : Nat → Int → Int} {v u v1 k f z : Int} {fk fi fz fn fa fs fu gk gi gz gn ga gs gu : Nat → Int32}
theorem jjA.fr {t : Nat} {n w : Int} {g : Nat → Int32} (h : jjA T t n g) (hf : jjFr T T1 n w) (ht : t ≠ 7) : jjA T1 t n g := fun j q0 q1 => by rw [hf t j (fun _ => q1) (fun w => absurd w ht)]; exact h j q0 q1
theorem jjTC.str {b : Int → Int} {e a a1 u1 : Int} (h : jjTC T v u fk fi fz fn fa fs fu) (hs : jjStr b e a u T = (1, a1, u1, T1)) (hu : jjA T1 7 u1 gu) : jjTC T1 v u1 fk fi fz fn fa fs gu := by
  obtain ⟨a1, a2, a3, a4, a5, a6, a7⟩ := h
  have hf := (jjStr.fr b e a u v T).2.1
  rw [hs] at hf
  exact ⟨a1.fr hf (by decide), a2.fr hf (by decide), a3.fr hf (by decide), a4.fr hf (by decide), a5.fr hf (by decide), a6.fr hf (by decide), hu⟩
end
section
variable {X : Int × Int × Int × Int × (Nat → Int → Int)} {e d r a v u a0 v0 u0 : Int} {T : Nat → Int → Int} {fk fi fz fn fa fs fu : Nat → Int32}
end
/-- bytes are bytes -/
def jjFt (f : Nat → Int32) (n : Int) : Prop := ∀ j : Int, 0 ≤ j → j < n → -128 ≤ jSo f j ∧ jSo f j ≤ 127
theorem jjFb.step {k v k1 v1 d : Int} (h : jjFb k v) (hk : k < 4) (h0 : 0 ≤ d) (h1 : d ≤ 15) (ek : k1 = k + 1) (ev : v1 = v * 16 + d) : jjFb k1 v1 := by unfold jjFb at h ⊢; omega
section
variable {b : Int → Int} {e a v u r a1 v1 u1 z c : Int} {T T1 : Nat → Int → Int}
end
section
variable {b : Int → Int} {e a v u r qt qv qu d c : Int} {T : Nat → Int → Int} {fk fi fz fn fa fs fu : Nat → Int32} {n : Nat}
end
section
variable {b : Int → Int} {e o h : Int} {V : Int → Int → Int → (Nat → Int → Int) → Int × Int × Int × Int × (Nat → Int → Int)}
variable {k : Nat} {a v u l a1 u1 r r1 a2 v2 u2 q a3 d d1 qt qv qu : Int} {T T1 T2 : Nat → Int → Int} {X : Int × Int × Int × Int × (Nat → Int → Int)} {fk fi fz fn fa fs fu gk gi gz gn ga gs gu : Nat → Int32}
end
def jjN2 (b : Int → Int) (e a l2 l3 l4 w : Int) : Prop := ∃ w1 : Int, jjN1 b e a l2 l3 w1 ∧ w = jjNf b e w1 ∧ 0 ≤ w ∧ ((l4 = 1 ∧ w = w1) ∨ (l4 = 0 ∧ w1 < w))
section
variable {b : Int → Int} {e a l1 l2 l3 l4 w w1 q : Int}
theorem jjN1.np (h : jjN1 b e a l2 l3 w) : jjNp b e a = if jjNf b e w < 0 then -1 else jjNx b e (jjNf b e w) := by
  obtain ⟨h2, hw, h3, h4, h5⟩ := h
  unfold jjNp
  rw [← h2, ← hw, if_neg (by omega)]
theorem jjN2.e1 (h : jjN2 b e a l2 l3 l4 w) (hk : jjK b e w = 101 ∨ jjK b e w = 69) (hq : q = jjNq b e (w + 1)) (hw : w1 = jjDg b e q) (hn : w1 ≠ q) {l : Int} (hl : l = 0) : jjN3 b e a l2 l3 l w1 := by
  obtain ⟨w2, h1, h2, h3, h4⟩ := h
  have hg := jjDg.ge b e q
  have hq1 : w + 1 ≤ q := by rw [hq]; unfold jjNq; split <;> omega
  exact ⟨w2, h1, by rw [h1.np, ← h2, if_neg (by omega)]; unfold jjNx; rw [if_pos hk, ← hq, ← hw, if_neg hn], by omega, Or.inr ⟨hl, by omega⟩⟩
end
section
variable {b : Int → Int} {e a d w r r1 v u q v0 u0 : Int} {fk fi fz fn fa fs fu : Nat → Int32} {T0 : Nat → Int → Int}
end
end
section
-- p9: JSON as the reference reads it
theorem jjHx.a {c : Int} (h : 97 ≤ c) (h1 : c ≤ 102) : c - 87 = jjHx c := by unfold jjHx; rw [if_neg (by omega), if_pos ⟨h, h1⟩]
end
section
-- p9: JSON as the reference reads it
/-- member on both sides -/
theorem jIT.q {T : Nat → Int → Int} {fp f : Nat → Int32} {u : Int} (hu : jjA T 7 u fp) : ∀ (n : Nat) (a : Int), 0 ≤ a → a + n ≤ u → jTx fp f a n = jqTx T f a n
  | 0, _, _, _ => rfl
  | n + 1, a, h0, h1 => by
    show (if jSo fp (a + n) = _ then _ else _) = (if T 7 (a + n) = _ then _ else _)
    rw [hu (a + n) (by omega) (by omega), jIT.q hu n a h0 (by omega)]
theorem jMn.q {T : Nat → Int → Int} {ms mh mx mf mt mb me mi mn fp f : Nat → Int32} {v u x : Int} {n : Nat} (hR : jjTR T v ms mh mx mf mt mb me mi mn) (hu : jjA T 7 u fp) (hx : -1 ≤ x) (hn : 0 < n)
    (hk : ∀ c : Int, 0 ≤ c → c < v → T 8 c = 1 → 0 ≤ T 5 c ∧ 0 ≤ T 6 c ∧ T 5 c + T 6 c ≤ u) : ∀ (k m : Nat) (c d : Int), jjCh T v x k c → k < m → jMn mf mt mx fp f n m c d = jqMl T f n k c d
  | 0, m, c, d, hc, hm => by
    have hc : c = -1 := hc
    exact (jMn_e (by omega) (by omega) rfl).symm
  | k + 1, m, c, d, hc, hm => by
    obtain ⟨c1, c2, c3, c4⟩ := hc
    obtain ⟨_, r2, r3⟩ := hR c (by omega) c2
    obtain ⟨r4, r5⟩ := r3 c3
    obtain ⟨k1, k2, k3⟩ := hk c (by omega) c2 c3
    have e1 : (jIT fp f n (jSo mf c) (jSo mt c) = 0 ∧ jqU T f n (T 5 c) (T 6 c) ≠ 1) ∨ (jIT fp f n (jSo mf c) (jSo mt c) ≠ 0 ∧ jqU T f n (T 5 c) (T 6 c) = 1) := by
      unfold jIT jqU
      by_cases w : jSo mt c - jSo mf c = n
      · have e5 : T 5 c = jSo mf c := by
          rcases r5 with r5 | r5
          · omega
          · exact r5
        rw [if_pos w, if_pos (by omega), ← e5, jIT.q hu n (T 5 c) k1 (by omega)]
        rcases jqTx.r T f (T 5 c) n with q | q
        · exact Or.inl ⟨q, by omega⟩
        · exact Or.inr ⟨by omega, q⟩
      · rw [if_neg w, if_neg (by omega)]
        exact Or.inl ⟨rfl, by omega⟩
    rcases e1 with ⟨q1, q2⟩ | ⟨q1, q2⟩
    · rw [← jMn_s (k := m) (m := c) (m1 := T 4 c) (c1 := d) (by omega) (by omega) r2 (Or.inl ⟨q1, rfl⟩), jMn.q hR hu hx hn hk k (m - 1) (T 4 c) d c4 (by omega)]
      show _ = jqMl T f n k (T 4 c) _
      rw [if_neg q2]
    · rw [← jMn_s (k := m) (m := c) (m1 := T 4 c) (c1 := c) (by omega) (by omega) r2 (Or.inr ⟨q1, rfl⟩), jMn.q hR hu hx hn hk k (m - 1) (T 4 c) c c4 (by omega)]
      show _ = jqMl T f n k (T 4 c) _
      rw [if_pos q2]
theorem jMb.q {T : Nat → Int → Int} {ms mh mx mf mt mb me mi mn fp f : Nat → Int32} {v u a : Int} {n : Nat} (hR : jjTR T v ms mh mx mf mt mb me mi mn) (hu : jjA T 7 u fp) (hco : jjCo T 0 v) (hn : 0 < n) (ha : a < v) (hs : ∀ x : Int, 0 ≤ x → x < v → T 3 x < 3000)
    (hk : ∀ c : Int, 0 ≤ c → c < v → T 8 c = 1 → 0 ≤ T 5 c ∧ 0 ≤ T 6 c ∧ T 5 c + T 6 c ≤ u) : jMb ms mh mf mt mx fp f n a = jqM T v f n a := by
  unfold jMb jqM
  by_cases w : 0 ≤ a
  · obtain ⟨r1, r2, r3⟩ := hR a w ha
    rw [jqK.y w ha]
    by_cases w2 : jSo ms a = 6
    · have e1 : T 1 a = 1 ∧ T 2 a = jSo mh a := by omega
      rw [if_neg (by omega), if_pos e1.1]
      obtain ⟨k, hk1, hc⟩ := hco a w ha (Or.inl e1.1)
      have h3 := hs a w ha
      rw [hk1, show ((k : Nat) : Int).toNat = k by omega, ← e1.2]
      exact jMn.q hR hu (by omega) hn hk k 3102 (T 2 a) (-1) hc (by omega)
    · rw [if_pos (Or.inr w2), if_neg (by omega)]
  · rw [if_pos (Or.inl (by omega)), jqK.n (Or.inl (by omega)), if_neg (by omega)]
end
section
-- p9: JSON as the reference reads it
theorem jxE.m {c w : Int} (h : jxE c w) (hw : w < 0) : jjEs c = -1 := by
  rcases h with ⟨_, h⟩ | ⟨h, _⟩ | ⟨h, _⟩
  · exact h
  · omega
  · omega
theorem jxE.s {c w : Int} (h : jxE c w) (h0 : 0 ≤ w) (h3 : w < 3) : jjEs c = c := by
  rcases h with ⟨h, _⟩ | ⟨_, _, h, _⟩ | ⟨h, _⟩
  · omega
  · exact h
  · omega
end
section
-- p9: JSON as the reference reads it
section
variable {T T1 : Nat → Int → Int} {v v1 k f z : Int} {ms mh mx mf mt mb me mi mn ys yh yx yf yt yb ye yi yn : Nat → Int32}
theorem jjTR.fr (h : jjTR T v ms mh mx mf mt mb me mi mn) {u : Int} (hf : jjFr T T1 v u) : jjTR T1 v ms mh mx mf mt mb me mi mn := fun j h0 h1 => by
  have e : ∀ t : Nat, t ≠ 7 → T1 t j = T t j := fun t ht => hf t j (fun _ => h1) (fun w => absurd w ht)
  have hj := h j h0 h1
  unfold jjNd at hj ⊢
  rw [e 1 (by decide), e 2 (by decide), e 3 (by decide), e 4 (by decide), e 5 (by decide), e 6 (by decide), e 8 (by decide)]
  exact hj
end
end
section
-- p9: the texts of all documents, as a walk carries them; System.arraycopy of ints with contents
section J91
variable {dC : Nat → ClassId} {dI : Nat → Nat → Nat} {ca : Nat → ClassId} {G G1 : jT} {H H1 : Heap} {x : Option Nat} {t : jDtl}
end J91
-- the reference's
section J92
variable {dC : Nat → ClassId} {dI : Nat → Nat → Nat} {ca : Nat → ClassId} {G G1 : jT} {H H1 : Heap} {x : Option Nat} {t : jDtr}
end J92
section J93
variable {p : Program} {l : Launch} {e : Env} {R : Room} {s : State} {m : MethodId} {args : Array Value} {below : List Frame} {meth : Method} {c : Code} {H : Heap} {locs : List Loc} {cells slots : Nat} {Q : State → Prop}
variable {cc : ByteArray} {pc : Nat} {ls : Array Slot} {rest : List Value} {dC : Nat → ClassId} {dI : Nat → Nat → Nat} {ca : Nat → ClassId} {B : jF} {base : Nat} {G0 G : jT} {E : List (Nat × Nat)} {H0 : Heap} {zc zs : Nat} {L : List jPin} {M : List jCt} {I : List jIv} {a a0 k k0 n n0 index : Nat} {tys : List (ClassId × FieldType)} {own : String} {P P0 : Nat → Int32 → Prop} {cA : ClassId}
end J93
-- texts alike, a part of a text exchanged
def jdB (g h : Int → Int) (s e z n v : Int) (q : Int → Int) : Prop := (∀ j : Int, 0 ≤ j → j < s → h j = g j) ∧ (∀ j : Int, s ≤ j → j < s + v → h j = q (j - s)) ∧ ∀ j : Int, s + z ≤ j → j < n → h j = g (j - s - z + e)
theorem jdB.step {g : Int → Int} {f f1 : Nat → Int32} {s e z n v v1 i : Int} {q : Int → Int} (h : jdB g (jSo f) s e z n v q) (hx : jSo f1 i = q v) (ho : ∀ j, j < 1500 → j ≠ i.toNat → f1 j = f j) (hi : i = s + v) (h1 : v1 = v + 1) (h0 : 0 ≤ s ∧ 0 ≤ v ∧ v < z) (hn : n ≤ 1500 ∧ s + z ≤ 1500) : jdB g (jSo f1) s e z n v1 q := by
  have k : ∀ j : Int, 0 ≤ j → j < 1500 → j ≠ i → jSo f1 j = jSo f j := fun j j0 j1 j2 => by
    show (f1 j.toNat).toInt = (f j.toNat).toInt
    rw [ho j.toNat (by omega) (by omega)]
  obtain ⟨a, b, c⟩ := h
  refine ⟨fun j j0 j1 => (k j j0 (by omega) (by omega)).trans (a j j0 j1), fun j j0 j1 => ?_, fun j j0 j1 => (k j (by omega) (by omega) (by omega)).trans (c j j0 j1)⟩
  by_cases w : j < s + v
  · exact (k j (by omega) (by omega) (by omega)).trans (b j j0 w)
  · rw [show j = i by omega, show i - s = v by omega]
    exact hx
end
section
-- p9: a change looks only at the units below the length
theorem jdV.rf {g : Int → Int} {n : Int} : jdV g g n := fun _ _ _ => rfl
theorem jdV.tr {a b c : Int → Int} {n : Int} (h : jdV a b n) (h1 : jdV b c n) : jdV a c n := fun j j0 j1 => (h j j0 j1).trans (h1 j j0 j1)
/-- one more is made -/
theorem jdJ.s {T : Nat → Int → Int} {v c c1 n n1 r : Int} {k : Nat} {f f1 : Nat → Int32} {R : Int × Int × (Int → Int)} (hT : ∀ x, jqK T v x = 3 → 0 ≤ T 3 x) (hn : 0 ≤ n) (h : jdJ T v k c n f R) (hk : 0 < k) (ha : jdA T v n c f f1 r n1) (hr : r ≠ 0) (hc : c1 = T 4 c) : jdJ T v (k - 1) c1 n1 f1 R := by
  subst hc
  rcases ha with ⟨-, b, d, e⟩ | ⟨q, -⟩
  · cases k with
    | zero => omega
    | succ k =>
      have e1 : jdCh T v (k + 1) c n (jSo f) = jdCh T v k (T 4 c) (jdO T v (jSo f) n c).2.1 (jdO T v (jSo f) n c).2.2 := if_pos b
      unfold jdJ at h
      rw [e1, ← d] at h
      obtain ⟨a1, a2, a3⟩ := jdCh.cg hT k (T 4 c) n1 (jSo f1) (jdO T v (jSo f) n c).2.2 (by rw [d]; exact jdO.nn hn hT) e
      exact ⟨a1.trans h.1, a2.trans h.2.1, (by rw [h.2.1] at a3; exact a3.tr h.2.2)⟩
  · exact absurd q hr
end
section
-- StringBuilder with contents
section JX1
variable {p : Program} {l : Launch} {e : Env} {R : Room} {s : State} {m : MethodId} {args : Array Value} {below : List Frame} {meth : Method} {c : Code} {H : Heap} {locs : List Loc} {cells slots : Nat} {Q : State → Prop}
variable {cc : ByteArray} {pc : Nat} {ls : Array Slot} {rest : List Value} {dC : Nat → ClassId} {dI : Nat → Nat → Nat} {ca : Nat → ClassId} {B : jF} {base : Nat} {G0 G : jT} {E : List (Nat × Nat)} {H0 : Heap} {zc zs : Nat} {L : List jPin} {M : List jCt} {I : List jIv} {a k n : Nat} {cA : ClassId} {tys : List (ClassId × FieldType)}
end JX1
theorem jSbc.rf (f : Nat → Int32) (n : Nat) : jSbc f f n := fun _ _ => rfl
theorem jSbA.rf {f g : Nat → Int32} {n c : Int} (h : jSbA f g n c) : jSbA f g n c := h
end
section
-- p9: the open documents of the class: what holds of them, how they change
theorem jdVs.of {T : Nat → Int → Int} {v a b c z : Int} (hz : z = 0) (h1 : a = jqM T v (jChT "params") 6 z) (h2 : b = jqM T v (jChT "textDocument") 12 a) (h3 : c = jqM T v (jChT "version") 7 b) : c = jdVs T v := by
  subst hz h1 h2 h3
  rfl
theorem jdTt.of {T : Nat → Int → Int} {v a b c z : Int} (hz : z = 0) (h1 : a = jqM T v (jChT "params") 6 z) (h2 : b = jqM T v (jChT "textDocument") 12 a) (h3 : c = jqM T v (jChT "text") 4 b) : c = jdTt T v := by
  subst hz h1 h2 h3
  rfl
theorem jdCc.of {T : Nat → Int → Int} {v a b z : Int} (hz : z = 0) (h1 : a = jqM T v (jChT "params") 6 z) (h2 : b = jqM T v (jChT "contentChanges") 14 a) : b = jdCc T v := by
  subst hz h1 h2
  rfl
theorem jdG.all {g h : Int → Int} {s e z n : Int} {q : Int → Int} (hG : jdG g h s e z q n) (hs : s = 0) (hn : n ≤ z) : ∀ j : Int, 0 ≤ j → j < n → h j = q j := fun j j0 j1 => by
  subst hs
  rw [hG j j0 j1]
  unfold jdR
  rw [if_neg (by omega), if_pos (by omega), Int.sub_zero]
end
section
-- p9: a document is changed
theorem jdChange.a {T : Nat → Int → Int} {v : Int} {d : jDtl} {w : jWl9} (h : jdWh T v (jdCs d w).1 (jdCs d w).2 < 0) : jdCs d w = jdChange T v (jdCs d w) := by
  unfold jdChange
  rw [if_neg (fun q => ?_)]
  unfold jdCg at q
  split at q
  · rename_i g
    omega
  · omega
end
section
-- p9: what a message does
section
variable {T : Nat → Int → Int} {v p m : Int} {S S1 : Int × (Int → jdD)}
theorem jdRq.a (hm : m = jdMe T v) (hp : p = 0) (h : jqI T v (jChT jdIn) 10 m = 1) : jdRq T v p = 1 := by
  subst hm; unfold jdRq; rw [if_pos hp, if_pos h]
theorem jdNo.l (hm : m = jdMe T v) (hp : p = 1) (h : jqI T v (jChT "textDocument/didOpen") 20 m ≠ 1) (h1 : jqI T v (jChT "textDocument/didChange") 22 m ≠ 1) (h2 : jqI T v (jChT "textDocument/didClose") 21 m = 1) : jdNo T v p S = jdClose T v S := by
  subst hm; unfold jdNo; rw [if_neg (fun q => q hp), if_neg h, if_neg h1, if_pos h2]
end
section JR8
variable {dC : Nat → ClassId} {dI : Nat → Nat → Nat} {G : jT} {a nn yy : Nat} {P Q : Prop} {H : Heap}
end JR8
end
section
-- p9: the state of a server as both sides tell it; what a byte does, what many do
section
variable {s : jdSt} {u r br qn qb pl to ke sg il dg sv fi a1 a2 a3 a4 a5 a6 a7 a8 : Int}
theorem jdBy.of (hX : jfQ s.1 br pl to ke sg il dg sv fi) (hb : br = 0) : jdBy s u = if pl = 6 then jfBu s.2.1 fi u else s.2.1 := by
  unfold jdBy
  rw [hX.v hb]
  rfl
end
/-- what a byte does to the body -/
theorem jfBd.all {D : Int → Int} {f : Nat → Int32} (h : jfBd D f 3000) : ∀ j : Nat, j < 3000 → f j = jfCn D j := fun j hj => by
  obtain ⟨h1, h2, h3⟩ := h j (by omega) (by omega)
  unfold jfCn
  rw [if_pos hj]
  have e : jSo f j = (if D j < 128 then D j else D j - 256) := by
    unfold jB8 at h1
    split <;> omega
  rw [← e]
  show f j = Int32.ofInt (f (j : Int).toNat).toInt
  rw [Int32.ofInt_toInt]
  rfl
theorem jfFt.of {D : Int → Int} {f : Nat → Int32} {n : Int} (h : jfBd D f 3000) (hn : n ≤ 3000) : jjFt (jfCn D) n := fun j h0 h1 => by
  obtain ⟨-, a, b⟩ := h j h0 (by omega)
  have e : f j.toNat = jfCn D j.toNat := h.all j.toNat (by omega)
  have e1 : jSo f j = jSo (jfCn D) j := congrArg Int32.toInt e
  omega
section JP9
variable {dC : Nat → ClassId} {dI : Nat → Nat → Nat} {ca : Nat → ClassId} {B : jF} {base : Nat} {G0 G : jT} {E : List (Nat × Nat)} {H0 H : Heap} {zc zs : Nat} {L : List jPin} {M : List jCt} {I : List jIv} {locs : List Loc} {a k n : Nat}
end JP9
theorem jdFd.s {b : Int → Int} {s : jdSt} {k k1 : Nat} {v c : Int} (hk : k1 = k + 1) (hv : (k : Int) = v) (hc : c = b v) : jdFd b s k1 = jdStep (jdFd b s k) c := by
  subst hk hc hv
  rfl
theorem jdStep.yy {s : jdSt} {u r br qn qb pl to ke sg il dg sv fi a1 a2 a3 a4 a5 a6 a7 a8 m p z : Int} {D : Int → Int} {S S0 : Int × (Int → jdD)} (hX : jfQ s.1 br pl to ke sg il dg sv fi) (hb : br = 0) (hA : jfA (jfV 0 pl to ke sg il dg sv fi) u r qn qb a1 a2 a3 a4 a5 a6 a7 a8) (hr : r = 1) (hq : qb = 0) (hD : D = jdBy s u) (hp : s.2.2.1 = z) (hS : s.2.2.2 = S0) (hM : jdMs D qn z S0 = (m, p, S)) (hm : m = 0 ∨ m = 1) : jfQ (jdStep s u).1 m a1 a2 a3 a4 a5 a6 a7 a8 ∧ (jdStep s u).2.1 = jdBy s u ∧ (jdStep s u).2.2.1 = p ∧ (jdStep s u).2.2.2 = S := by
  subst hD hp hS
  exact jdStep.y hX hb hA hr hq hM hm
end
section
-- p9: the reference's documents: what its JSON tells, places, changes
section
variable {T : Nat → Int → Int} {v u a : Int} {ms mh mx mf mt mb me mi mn mp f : Nat → Int32} {n : Nat}
theorem jjRB.str (h : jjRB T v u ms mh mx mf mt mb me mi mn mp) (h0 : 0 ≤ a) (h1 : a < v) : (jSo ms a = 4 ∧ jqK T v a = 3 ∧ T 2 a = jSo mb a ∧ T 3 a = jSo me a - jSo mb a) ∨ (jSo ms a ≠ 4 ∧ jqK T v a ≠ 3) := by
  have k : jqK T v a = T 1 a := if_pos ⟨h0, h1⟩
  rw [k]
  obtain ⟨r, -, -⟩ := h.1 a h0 h1
  rcases r with ⟨a1, a2, -⟩ | ⟨a1, a2, -⟩ | ⟨a1, a2, a3, a4⟩ | ⟨a1, -, a2, -⟩ | ⟨a1, -, a2⟩ | ⟨a0, a1, a2⟩
  · exact Or.inr ⟨by omega, by omega⟩
  · exact Or.inr ⟨by omega, by omega⟩
  · exact Or.inl ⟨a1, a2, a3, a4⟩
  · exact Or.inr ⟨by omega, by omega⟩
  · exact Or.inr ⟨by omega, by omega⟩
  · exact Or.inr ⟨by omega, by omega⟩
end
-- places
section
variable {g : Int → Int} {n w a p a1 p1 : Int}
theorem jdL.e1 (h : a < n) (h1 : p < w) (h2 : g a = 10 ∨ (g a = 13 ∧ ¬ (a + 1 < n ∧ g (a + 1) = 10))) (ea : a1 = a + 1) (ep : p1 = p + 1) : jdL g n w (n - a1).toNat a1 p1 = jdL g n w (n - a).toNat a p := jdL.st h h1 ea (by rw [show jdE g n a = 1 from if_pos h2]; exact ep)
theorem jdL.e2 (h1 : p < w) (h2 : g a = 13) (h3 : a + 1 < n) (h4 : g (a + 1) = 10) (ea : a1 = a + 2) (ep : p1 = p + 1) : jdL g n w (n - a1).toNat a1 p1 = jdL g n w (n - a).toNat a p := by
  have e1 : jdE g n a = 0 := if_neg (fun q => q.elim (fun e => by omega) (fun e => e.2 ⟨h3, h4⟩))
  have e2 := jdL.st (g := g) (n := n) (w := w) (a := a) (p := p) (by omega) h1 rfl (by rw [e1]; omega : p = p + jdE g n a)
  have e3 := jdL.e1 (g := g) (n := n) (w := w) (a := a + 1) (p := p) (a1 := a1) (p1 := p1) h3 h1 (Or.inl h4) (by omega) ep
  exact e3.trans e2
end
theorem jdT.of {T : Nat → Int → Int} {v n p l c r : Int} {g : Int → Int} (h : jdPo T v p) (hl : l = T 2 (jqM T v (jChT "line") 4 p)) (hc : c = T 2 (jqM T v (jChT "character") 9 p)) (hr : r = jdP g n l c) : r = jdT T v g n p := by
  subst hl hc
  rw [hr]
  exact (if_pos ⟨h.1, h.2.1⟩).symm
end
section
-- p9: the reference's open documents as one entry: S, as jdRs tells them
def jRS (dC : Nat → ClassId) (dI : Nat → Nat → Nat) (ca : Nat → ClassId) (G : jT) (r : Nat) (S : Int × (Int → jdD)) (H : Heap) : Prop := ∃ (t : jDtr) (fd : Nat → Option Nat) (dc : Int32) (dd : Nat), (∃ n, G r = some (16, n)) ∧ jf (dC, dI) 16 r 41 (.ref dd) H ∧ G dd = some (201, 3) ∧ jQc dC dI (ca 4) dd 3 fd H ∧ jf (dC, dI) 16 r 42 (.int dc) H ∧ jRD dC dI ca G none t H ∧ jdIr t fd dc.toInt ∧ jdRs t fd dc.toInt = S
section J95
variable {dC : Nat → ClassId} {dI : Nat → Nat → Nat} {ca : Nat → ClassId} {G G1 : jT} {H H1 : Heap} {r dd n : Nat} {S : Int × (Int → jdD)} {t : jDtr} {fd : Nat → Option Nat} {dc : Int32}
theorem jRS.opn (h : jRS dC dI ca G r S H) (p1 : jf (dC, dI) 16 r 41 (.ref dd) H) (p2 : jf (dC, dI) 16 r 42 (.int dc) H) (q : jQc dC dI (ca 4) dd 3 fd H) : ∃ t, jRD dC dI ca G none t H ∧ jdIr t fd dc.toInt ∧ jdRs t fd dc.toInt = S := by
  obtain ⟨t, fe, d1, d2, -, h2, h3, h4, h5, h6, h7, h8⟩ := h
  have e1 : d2 = dd := by have := jf.uniq h2 p1; cases this; rfl
  have e2 : d1 = dc := Value.int.inj (jf.uniq h5 p2)
  subst e1 e2
  have e3 : ∀ i, i < 3 → fd i = fe i := fun i hi => jQc_eq q h4 hi
  exact ⟨t, h6, h7.cg e3, (jdRs.cg h7.2.1 e3).trans h8⟩
end J95
-- which document is meant
theorem jdWh.q {T : Nat → Int → Int} {v c : Int} {t : jDtr} {fd : Nat → Option Nat} (he : ∀ i : Nat, (i : Int) < c → ∃ a, fd i = some a) : jdF T v (jdUr T v) (jdRl t fd) (jdRx t fd) c.toNat 0 = jdWh T v (jdRs t fd c).1 (jdRs t fd c).2 := by
  refine jdF.cg c.toNat 0 (fun x h0 h1 => ?_)
  obtain ⟨a, ha⟩ := he x.toNat (by omega)
  have e : (jdRs t fd c).2 x = jdR1 t a := jdLi.at h0 (by omega) ha
  show jqE T v (jdUr T v) (jdRx t fd x) (jdRl t fd x) = jqE T v (jdUr T v) ((jdRs t fd c).2 x).2.2.2.2 ((jdRs t fd c).2 x).2.2.2.1
  rw [e, jdRx.at ha, jdRl.at ha]
  exact (jqE.cg (g := jdKp (t.ul a).toInt (jSo (t.ux a))) (h := jSo (t.ux a)) jdKp.v).symm
theorem jdRr.y {fd : Nat → Option Nat} {d : Int} {x : Nat} (h : (Value.ref x) = jdRr fd d) : 0 ≤ d ∧ fd d.toNat = some x := by
  unfold jdRr at h
  by_cases q : d < 0
  · rw [if_pos q] at h; cases h
  · rw [if_neg q] at h
    exact ⟨by omega, jdAt h⟩
theorem jqE.y {T : Nat → Int → Int} {v i n : Int} {g : Int → Int} (hk : jqK T v i = 3) (h : T 3 i = n) (he : jqEl T v i g n.toNat = 1) : jqE T v i g n = 1 := by
  unfold jqE
  rw [if_pos ⟨hk, h⟩, he]
end
section
-- p9: the reference opens, changes, closes a document
theorem jdR1.put_s (t : jDtr) (a : Nat) (v l : Int32) (f : Nat → Int32) (u : Int32) (g : Nat → Int32) : jdR1 (t.put a v l f u g) a = (v.toInt, l.toInt, jdKp l.toInt (jSo f), u.toInt, jdKp u.toInt (jSo g)) := by
  show ((jUf t.ve a v a).toInt, (jUf t.ln a l a).toInt, jdKp (jUf t.ln a l a).toInt (jSo (jUf t.tx a f a)), (jUf t.ul a u a).toInt, jdKp (jUf t.ul a u a).toInt (jSo (jUf t.ux a g a))) = _
  rw [jUf_s, jUf_s, jUf_s, jUf_s, jUf_s]
theorem jdOpen.r {T : Nat → Int → Int} {v u s t : Int} {d d2 : jDtr} {fd : Nat → Option Nat} {c c1 : Int} {x : Nat} {ve ln ul : Int32} {tx ux : Nat → Int32} (hI : jdIr d fd c) (hdis : ∀ i j, i < 3 → j < 3 → fd i = fd j → i = j) (hop : jdOp T v (jdRs d fd c).1 (jdRs d fd c).2 = 1) (hc : c1 = c + 1) (hx : fd c.toNat = some x) (hc3 : c < 3) (h2 : d2 = d.put x ve ln tx ul ux) (hu : u = jdUr T v) (hs : s = jdVs T v) (ht : t = jdTt T v)
    (hve : ve.toInt = T 2 s) (hln : ln.toInt = T 3 t) (htx : ∀ j : Int, 0 ≤ j → j < ln.toInt → jSo tx j = jqA T v t j) (hul : ul.toInt = T 3 u) (hux : ∀ j : Int, 0 ≤ j → j < ul.toInt → jSo ux j = jqA T v u j) : jdRs d2 fd c1 = jdOpen T v (jdRs d fd c) := by
  subst hu hs ht h2 hc
  have e0 := hI.1
  unfold jdOpen
  rw [if_pos hop]
  refine Prod.ext rfl ?_
  show jdLi (c + 1) fd (jdR1 (d.put x ve ln tx ul ux)) = jdUp (jdLi c fd (jdR1 d)) c (jdNd T v)
  refine jdLi.opn e0 rfl (fun i _ => rfl) hx ?_ (fun i a hi ha => ?_)
  · rw [jdR1.put_s]
    unfold jdNd
    rw [hve, ← hln, ← hul, jdKp.cg (n := ul.toInt) hux, jdKp.cg (n := ln.toInt) htx]
  · refine jdR1.put_n d ve ln tx ul ux (fun q => ?_)
    subst q
    have := hdis i c.toNat (by omega) (by omega) (by rw [ha, hx])
    omega
theorem jdClose.r {T : Nat → Int → Int} {v d k k' c c1 : Int} {t : jDtr} {f0 f g : Nat → Option Nat} {x : Nat} (hI : jdIr t f0 c) (hdis : ∀ i j, i < 3 → j < 3 → f0 i = f0 j → i = j) (hw : 0 ≤ jdWh T v (jdRs t f0 c).1 (jdRs t f0 c).2 ∧ jdWh T v (jdRs t f0 c).1 (jdRs t f0 c).2 < c ∧ f0 (jdWh T v (jdRs t f0 c).1 (jdRs t f0 c).2).toNat = some x) (hs : jSh f0 f d k') (h0 : 0 ≤ d) (hdc : d < c) (hx : f0 d.toNat = some x) (hkk : k' = k) (hk : k = c - 1) (hg : ∀ j, j < 3 → j ≠ k.toNat → g j = f j) (e : c1 = c - 1) : jdRs t g c1 = jdClose T v (jdRs t f0 c) := by
  subst hkk hk e
  have h3 := hI.2.1
  have ed : d = jdWh T v (jdRs t f0 c).1 (jdRs t f0 c).2 := by
    have := hdis d.toNat (jdWh T v (jdRs t f0 c).1 (jdRs t f0 c).2).toNat (by omega) (by omega) (by rw [hx, hw.2.2])
    omega
  unfold jdClose
  rw [if_pos hw.1]
  refine Prod.ext rfl ?_
  rw [← ed]
  show jdLi (c - 1) g (jdR1 t) = jdDn (jdLi c f0 (jdR1 t)) d
  refine jdLi.cls h0 hdc rfl (fun i hi => ?_) (fun i hi hi1 => ?_)
  · rw [hg i (by omega) (by omega), hs i (by omega), if_neg (by omega)]
  · rw [hg i (by omega) (by omega), hs i (by omega), if_pos (by omega)]
theorem jdIr.cls {t : jDtr} {f0 f g : Nat → Option Nat} {d k k' c c1 : Int} {x : Nat} (hI : jdIr t f0 c) (hs : jSh f0 f d k') (h0 : 0 ≤ d) (hdc : d < c) (hkk : k' = k) (hk : k = c - 1) (hv : g k.toNat = some x) (hg : ∀ j, j < 3 → j ≠ k.toNat → g j = f j) (e : c1 = c - 1) : jdIr t g c1 := by
  subst hkk hk e
  have h3 := hI.2.1
  refine ⟨by omega, by omega, fun i hi => ?_, hI.2.2.2⟩
  by_cases q : i = (c - 1).toNat
  · exact ⟨x, by rw [q]; exact hv⟩
  · rw [hg i hi q, hs i hi]
    split
    · exact hI.2.2.1 (i + 1) (by omega)
    · exact hI.2.2.1 i hi
-- all changes are ones that may be made
def jdAc (T : Nat → Int → Int) (v : Int) : Nat → Int → Prop
  | 0, _ => True
  | k + 1, c => jdCk T v c ∧ jdAc T v k (T 4 c)
theorem jdAc.of {T : Nat → Int → Int} {v : Int} : ∀ (k : Nat) (c n : Int) (g : Int → Int), (jdCh T v k c n g).1 = 1 → jdAc T v k c
  | 0, _, _, _, _ => trivial
  | k + 1, c, n, g, h => by
    by_cases q : (jdO T v g n c).1 = 1
    · have e : jdCh T v (k + 1) c n g = jdCh T v k (T 4 c) (jdO T v g n c).2.1 (jdO T v g n c).2.2 := if_pos q
      rw [e] at h
      exact ⟨jdO.ck q, jdAc.of k (T 4 c) _ _ h⟩
    · have e : jdCh T v (k + 1) c n g = (0, n, g) := if_neg q
      rw [e] at h
      have h : (0 : Int) = 1 := h
      omega
theorem jdAc.s {T : Nat → Int → Int} {v c c1 : Int} {k : Nat} (hk : 0 < k) (e : c1 = T 4 c) : jdAc T v k c ↔ (jdCk T v c ∧ jdAc T v (k - 1) c1) := by
  subst e
  cases k with
  | zero => omega
  | succ k => exact Iff.rfl
theorem jdCg.q {d : jDtr} {fd : Nat → Option Nat} {c i : Int} {x : Nat} (h : 0 ≤ i ∧ i < c ∧ fd i.toNat = some x) : (jdRs d fd c).2 i = jdR1 d x := jdLi.at h.1 h.2.1 h.2.2
theorem jdNew.r {T : Nat → Int → Int} {v c : Int} {d : jDtr} {x : Nat} {R : Int × Int × (Int → Int)} (hT : ∀ x, jqK T v x = 3 → 0 ≤ T 3 x) (hn : 0 ≤ (d.ln x).toInt) (hc : c = jdCc T v) (hR : R = jdCh T v (T 3 c).toNat (T 2 c) (d.ln x).toInt (jSo (d.tx x))) : (jdNew T v (jdR1 d x)).1 = R.1 ∧ (jdNew T v (jdR1 d x)).2.1 = R.2.1 ∧ jdKp (jdNew T v (jdR1 d x)).2.1 (jdNew T v (jdR1 d x)).2.2 = jdKp R.2.1 R.2.2 := by
  rw [hR, hc]
  exact jdNew.cg hT hn (jdKp.v)
theorem jdRs.at2 {t t1 : jDtr} {fd : Nat → Option Nat} {n : Int} (h : jdRs t fd n = jdRs t1 fd n) {i a : Nat} (hi : (i : Int) < n) (ha : fd i = some a) : jdR1 t a = jdR1 t1 a := by
  have e := congrArg (fun q : Int × (Int → jdD) => q.2 (i : Int)) h
  have e1 : (jdRs t fd n).2 (i : Int) = jdR1 t a := jdLi.at (by omega) hi ha
  have e2 : (jdRs t1 fd n).2 (i : Int) = jdR1 t1 a := jdLi.at (by omega) hi ha
  rw [← e1, ← e2]
  exact e
theorem jdChange.r {T : Nat → Int → Int} {v s c n n1 : Int} {d t1 d2 t3 : jDtr} {fd : Nat → Option Nat} {x : Nat} {R : Int × Int × (Int → Int)} {ve ln : Int32} {f tx : Nat → Int32} (hT : ∀ x, jqK T v x = 3 → 0 ≤ T 3 x) (hI : jdIr d fd n) (hdis : ∀ i j, i < 3 → j < 3 → fd i = fd j → i = j) (hs : s = jdVs T v) (hc : c = jdCc T v) (hx : 0 ≤ jdWh T v (jdRs d fd n).1 (jdRs d fd n).2 ∧ jdWh T v (jdRs d fd n).1 (jdRs d fd n).2 < n ∧ fd (jdWh T v (jdRs d fd n).1 (jdRs d fd n).2).toNat = some x)
    (k1 : jqK T v s = 4) (hv : (d.ve x).toInt < T 2 s) (k2 : jqK T v c = 2) (z1 : 1 ≤ T 3 c) (z2 : T 3 c ≤ 8) (hR : R = jdCh T v (T 3 c).toNat (T 2 c) (d.ln x).toInt (jSo (d.tx x))) (hJ : R.1 = 1 ∧ R.2.1 = n1 ∧ jdV (jSo f) R.2.2 n1) (h1 : t1 = d.put x ve (d.ln x) (d.tx x) (d.ul x) (d.ux x)) (hve : ve.toInt = T 2 s) (hm : jdRs d2 fd n = jdRs t1 fd n)
    (h3 : t3 = d2.put x (d2.ve x) ln tx (d2.ul x) (d2.ux x)) (hln : ln.toInt = n1) (htx : ∀ j : Int, 0 ≤ j → j < n1 → jSo tx j = jSo f j) : jdRs t3 fd n = jdChange T v (jdRs d fd n) := by
  have h3n := hI.2.1
  obtain ⟨r1, r2, r3⟩ := jdNew.r hT (hI.2.2.2 x).1 hc hR
  have hcg : jdCg T v (jdRs d fd n).1 (jdRs d fd n).2 = 1 := by
    refine if_pos ⟨hx.1, by rw [← hs]; exact k1, ?_, by rw [← hc]; exact k2, by rw [← hc]; exact z1, by rw [← hc]; exact z2, ?_⟩
    · rw [jdCg.q hx, ← hs]; exact hv
    · rw [jdCg.q hx, r1]; exact hJ.1
  have ex : jdR1 d2 x = jdR1 t1 x := jdRs.at2 hm (i := (jdWh T v (jdRs d fd n).1 (jdRs d fd n).2).toNat) (by omega) hx.2.2
  have ex1 : jdR1 t1 x = (ve.toInt, (d.ln x).toInt, jdKp (d.ln x).toInt (jSo (d.tx x)), (d.ul x).toInt, jdKp (d.ul x).toInt (jSo (d.ux x))) := by rw [h1, jdR1.put_s]
  have q1 : (d2.ve x).toInt = ve.toInt := congrArg (fun q : jdD => q.1) (ex.trans ex1)
  have q4 : (d2.ul x).toInt = (d.ul x).toInt := congrArg (fun q : jdD => q.2.2.2.1) (ex.trans ex1)
  have q5 : jdKp (d2.ul x).toInt (jSo (d2.ux x)) = jdKp (d.ul x).toInt (jSo (d.ux x)) := congrArg (fun q : jdD => q.2.2.2.2) (ex.trans ex1)
  unfold jdChange
  rw [if_pos hcg]
  refine Prod.ext rfl ?_
  show jdLi n fd (jdR1 t3) = jdUp (jdLi n fd (jdR1 d)) (jdWh T v (jdRs d fd n).1 (jdRs d fd n).2) (jdCd T v ((jdRs d fd n).2 (jdWh T v (jdRs d fd n).1 (jdRs d fd n).2)))
  refine jdLi.chg hx.1 hx.2.1 hx.2.2 ?_ (fun i hi he => hdis i _ (by omega) (by omega) (by rw [he, hx.2.2])) (fun i a hi ha hax => ?_)
  · rw [jdCg.q hx, h3, jdR1.put_s]
    unfold jdCd
    rw [r3, r2, hJ.2.1, q1, hve, hs, hln, q5, q4]
    rw [jdKp.cg (n := n1) (g := jSo tx) (h := R.2.2) (fun j j0 j1 => (htx j j0 j1).trans (hJ.2.2 j j0 j1))]
    rfl
  · rw [h3, jdR1.put_n d2 (d2.ve x) ln tx (d2.ul x) (d2.ux x) hax, jdRs.at2 hm hi ha, h1, jdR1.put_n d ve (d.ln x) (d.tx x) (d.ul x) (d.ux x) hax]
-- texts, ids, requests, notifications of the reference
theorem jqI.r {T : Nat → Int → Int} {v u a x : Int} {ms mh mx mf mt mb me mi mn mp f : Nat → Int32} {n : Nat} (h : jjRB T v u ms mh mx mf mt mb me mi mn mp) (hk : jqK T v a = 3) (e : x = jIT mp f n (jSo mb a) (jSo me a)) : x = jqI T v f n a := by
  have hp := jqK.p (T := T) (v := v) (i := a) (by omega)
  have hs := (h.str hp.1 hp.2.1).resolve_right (fun q => q.2 hk)
  have hb := h.2.2.2.2.2.1 a hp.1 hp.2.1 (by rw [← hp.2.2]; exact hk)
  have e1 : jqI T v f n a = jqU T f n (T 2 a) (T 3 a) := if_pos hk
  rw [e, e1]
  unfold jIT jqU
  rw [hs.2.2.2, hs.2.2.1]
  by_cases w : jSo me a - jSo mb a = n
  · rw [if_pos w, if_pos w]
    have h2 := hs.2.2.1
    have h3 := hs.2.2.2
    exact jIT.q h.2.1 n (jSo mb a) (by omega) (by omega)
  · rw [if_neg w, if_neg w]
theorem jdNs.y {T : Nat → Int → Int} {v p m : Int} {S : Int × (Int → jdD)} (hm : m = jdMe T v) (h : jqI T v (jChT "exit") 4 m = 1) : jdNs T v p S = S := by subst hm; exact if_pos h
end
section
-- p9: what a read leaves is within bounds (strings and names among the units, sizes)
def jjBn (T : Nat → Int → Int) (e lo v u : Int) : Prop := ∀ x : Int, lo ≤ x → x < v → jjBx T e x u
theorem jjMk.bn {T : Nat → Int → Int} {v k f z e u : Int} (h3 : k = 3 → 0 ≤ f ∧ f + z ≤ u) (h0 : 0 ≤ z) (he : z < e) : jjBn (jjMk T v k f z) e v (v + 1) u := fun x h1 h2 => by
  have ex : x = v := by omega
  subst ex
  obtain ⟨a1, a2, a3, -, a5, a6, a8⟩ := jjMk.at (T := T) (v := x) (k := k) (f := f) (z := z)
  refine ⟨fun q => ?_, fun q => ?_, by rw [a3]; exact h0, by rw [a3]; exact he⟩
  · rw [a1] at q; rw [a2, a3]; exact ⟨(h3 q).1, h0, (h3 q).2⟩
  · rw [a8] at q; omega
theorem jjL.bn {b : Int → Int} {e a v u : Int} {T : Nat → Int → Int} (ha : 0 ≤ a) (hu : 0 ≤ u) : (jjL b e a v u T).1 < 0 ∨ jjBn (jjL b e a v u T).2.2.2.2 e v (jjL b e a v u T).2.2.1 (jjL b e a v u T).2.2.2.1 := by
  by_cases hn : (jjL b e a v u T).1 < 0
  · exact Or.inl hn
  · refine Or.inr ?_
    have hae : a < e := by
      rcases jjL.out b e a v u T with h | h
      · exact absurd h hn
      · omega
    obtain ⟨s1, -, s3⟩ := jjStr.fr b e a u v T
    revert hn
    unfold jjL
    split
    · split
      · rename_i w
        intro _
        rcases s3 with s3 | ⟨-, s4, s5⟩
        · omega
        · exact jjMk.bn (fun _ => ⟨hu, by show u + ((jjStr b e a u T).2.2.1 - u) ≤ (jjStr b e a u T).2.2.1; omega⟩) (by omega) (by omega)
      · intro hn; exact absurd (show (-1 : Int) < 0 by omega) hn
    · split
      · split
        · intro hn; exact absurd (show (-1 : Int) < 0 by omega) hn
        · split
          · intro _; exact jjMk.bn (fun q => absurd q (by decide)) (by omega) (by omega)
          · intro _; exact jjMk.bn (fun q => absurd q (by decide)) (by omega) (by omega)
      · split
        · intro _; exact jjMk.bn (fun q => absurd q (by decide)) (by omega) (by omega)
        · split
          · intro _; exact jjMk.bn (fun q => absurd q (by decide)) (by omega) (by omega)
          · split
            · intro _; exact jjMk.bn (fun q => absurd q (by decide)) (by omega) (by omega)
            · intro hn; exact absurd (show (-1 : Int) < 0 by omega) hn
/-- a link: only the child and its holder change -/
theorem jjLk.bn {T : Nat → Int → Int} {e h l c f z v u : Int} (hb : jjBn T e (h + 1) v u) (hc : h < c) (hcv : c < v) (hl : l < 0 ∨ h < l) (hf : 0 ≤ f) (hz : 0 ≤ z) (hfz : f + z ≤ u) : jjBn (jjLk T h l c f z) e (h + 1) v u := fun x h1 h2 => by
  obtain ⟨a, b, d⟩ := hb x h1 h2
  have e1 : jjLk T h l c f z 1 x = T 1 x := jjLk.e1
  have e2 : jjLk T h l c f z 2 x = T 2 x := jjLk.e2 (Or.inl (by omega))
  have e3 : jjLk T h l c f z 3 x = T 3 x := jjLk.e3 (by omega)
  refine ⟨fun q => ?_, fun q => ?_, by rw [e3]; exact d⟩
  · rw [e1] at q; rw [e2, e3]; exact a q
  · by_cases w : x = c
    · subst w; rw [jjLk.e5c, jjLk.e6c]; exact ⟨hf, hz, hfz⟩
    · rw [jjLk.e8 w] at q; rw [jjLk.e5 w, jjLk.e6 w]; exact b q
theorem jjM.bn {b : Int → Int} {e o h : Int} {V : Int → Int → Int → (Nat → Int → Int) → Int × Int × Int × Int × (Nat → Int → Int)} (hV : ∀ (a v u : Int) (T : Nat → Int → Int), 0 ≤ v → jjOut e a v u T (V a v u T)) (hB : ∀ (a v u : Int) (T : Nat → Int → Int), 0 ≤ a → 0 ≤ v → 0 ≤ u → (V a v u T).1 < 0 ∨ jjBn (V a v u T).2.2.2.2 e v (V a v u T).2.2.1 (V a v u T).2.2.2.1) : ∀ (k : Nat) (a v u l : Int) (T : Nat → Int → Int), jjIn T h l v → 0 ≤ a → 0 ≤ u → 0 ≤ T 3 h → T 3 h < a → T 1 h ≠ 3 → T 8 h ≠ 1 → jjBn T e (h + 1) v u →
    (jjM b e V o h k a v u T l).1 < 0 ∨ jjBn (jjM b e V o h k a v u T l).2.2.2.2 e h (jjM b e V o h k a v u T l).2.2.1 (jjM b e V o h k a v u T l).2.2.2.1
  | 0, a, v, u, l, T, _, _, _, _, _, _, _, _ => Or.inl (by show (-1 : Int) < 0; omega)
  | k + 1, a, v, u, l, T, hi, ha, hu, t0, t1, tk, t8, hb => by
    have hky := jjKy.fr b e o a u v T
    have h01 := hi.2.1
    have h02 := hi.1
    have h03 := hi.l
    rcases hky with hk0 | ⟨hk1, hk2, hk3, hk4, hk5⟩
    · exact Or.inl (by rw [jjM_0 hk0]; omega)
    · have hp : jjKy b e o a u T = (1, (jjKy b e o a u T).2.1, (jjKy b e o a u T).2.2.1, (jjKy b e o a u T).2.2.2) := by rw [← hk1]
      generalize (jjKy b e o a u T).2.1 = a1 at *
      generalize (jjKy b e o a u T).2.2.1 = u1 at *
      generalize (jjKy b e o a u T).2.2.2 = T1 at *
      have ho := hV a1 v u1 T1 (by omega)
      have hbb := hB a1 v u1 T1 (by omega) (by omega) (by omega)
      rcases ho with ho | ⟨o1, o2, o3, o4, o5, o6, o7, o8, o9⟩
      · exact Or.inl (by rw [jjM_1 hp ho]; omega)
      · have hb2 := hbb.resolve_left (by omega)
        have hc : V a1 v u1 T1 = (v, (V a1 v u1 T1).2.1, (V a1 v u1 T1).2.2.1, (V a1 v u1 T1).2.2.2.1, (V a1 v u1 T1).2.2.2.2) := Prod.ext o1 rfl
        clear hbb
        generalize (V a1 v u1 T1).2.1 = a2 at *
        generalize (V a1 v u1 T1).2.2.1 = v2 at *
        generalize (V a1 v u1 T1).2.2.2.1 = u2 at *
        generalize (V a1 v u1 T1).2.2.2.2 = T2 at *
        have hf : ∀ (t : Nat) (j : Int), t ≠ 7 → j < v → T2 t j = T t j := fun t j w0 w1 => (o7 t j (fun _ => w1) (fun w => absurd w w0)).trans (hk5 t j (fun _ => w1) (fun w => absurd w w0))
        have hi2 := hi.step (f := u) (z := u1 - u) hf o4 o8 o9
        have hb3 : jjBn T2 e (h + 1) v2 u2 := fun x q0 q1 => by
          by_cases w : x < v
          · exact ((hb x q0 w).cg (fun t ht => hf t x ht w)).up (by omega)
          · exact hb2 x (by omega) q1
        have hb4 := jjLk.bn (l := l) (f := u) (z := u1 - u) hb3 h02 o4 h03 hu (by omega) (by omega)
        have e3 : jjLk T2 h l v u (u1 - u) 3 h = T 3 h + 1 := by rw [jjLk.e3h, hf 3 h (by decide) h02]
        have e1 : jjLk T2 h l v u (u1 - u) 1 h = T 1 h := by rw [jjLk.e1, hf 1 h (by decide) h02]
        have e8 : jjLk T2 h l v u (u1 - u) 8 h = T 8 h := by rw [jjLk.e8 (by omega), hf 8 h (by decide) h02]
        have hq := jjSk.ge b e a2
        by_cases w : jjK b e (jjSk b e a2) = 44
        · have hw := jjSk.ge b e (jjSk b e a2 + 1)
          rw [← jjM_more (h := h) (l := l) (k := k + 1) hp hc (by omega) rfl w rfl (by omega)]
          exact jjM.bn (b := b) (o := o) hV hB k (jjSk b e (jjSk b e a2 + 1)) v2 u2 v (jjLk T2 h l v u (u1 - u)) hi2 (by omega) (by omega) (by rw [e3]; omega) (by rw [e3]; omega) (by rw [e1]; exact tk) (by rw [e8]; exact t8) hb4
        · by_cases w2 : jjK b e (jjSk b e a2) = 93 + 32 * o
          · have hlt : jjSk b e a2 < e := by
              by_cases q : jjSk b e a2 < e
              · exact q
              · rw [jjK.n (by omega)] at w2; omega
            rw [jjM_end (h := h) (l := l) (k := k + 1) hp hc (by omega) rfl w2 (by omega)]
            refine Or.inr (fun x q0 q1 => ?_)
            by_cases wx : x = h
            · subst wx
              exact ⟨fun q => absurd (e1.symm.trans q) tk, fun q => absurd (e8.symm.trans q) t8, by show 0 ≤ jjLk T2 x l v u (u1 - u) 3 x; rw [e3]; omega, by show jjLk T2 x l v u (u1 - u) 3 x < e; rw [e3]; omega⟩
            · exact hb4 x (by omega) q1
          · exact Or.inl (by rw [jjM_2 (h := h) (l := l) (k := k + 1) hp hc rfl w w2]; omega)
theorem jjVal.bn {b : Int → Int} {e : Int} : ∀ (d : Nat) (a v u : Int) (T : Nat → Int → Int), 0 ≤ a → 0 ≤ v → 0 ≤ u → (jjVal b e d a v u T).1 < 0 ∨ jjBn (jjVal b e d a v u T).2.2.2.2 e v (jjVal b e d a v u T).2.2.1 (jjVal b e d a v u T).2.2.2.1
  | 0, a, v, u, T, ha, h0, hu => by
    by_cases w : jjK b e a = 123 ∨ jjK b e a = 91
    · exact Or.inl (by rw [jjVal_0 w rfl]; omega)
    · rw [jjVal_l (fun q => w (Or.inl q)) (fun q => w (Or.inr q))]; exact jjL.bn ha hu
  | d + 1, a, v, u, T, ha, h0, hu => by
    by_cases w : jjK b e a = 123 ∨ jjK b e a = 91
    · obtain ⟨o, ho⟩ : ∃ o : Int, (jjK b e a = 123 ∧ o = 1) ∨ (jjK b e a = 91 ∧ o = 0) := by
        rcases w with w | w
        · exact ⟨1, Or.inl ⟨w, rfl⟩⟩
        · exact ⟨0, Or.inr ⟨w, rfl⟩⟩
      rw [jjVal_h (d := d + 1) ho (by omega)]
      have hs := jjSk.ge b e (a + 1)
      show (jjH b e (jjVal b e d) o a v u T).1 < 0 ∨ jjBn (jjH b e (jjVal b e d) o a v u T).2.2.2.2 e v (jjH b e (jjVal b e d) o a v u T).2.2.1 (jjH b e (jjVal b e d) o a v u T).2.2.2.1
      have hk : (2 - o : Int) = 1 ∨ (2 - o : Int) = 2 := by omega
      unfold jjH
      generalize (2 - o : Int) = kd at hk ⊢
      split
      · rename_i w2
        have hlt : jjSk b e (a + 1) < e := by
          by_cases q : jjSk b e (a + 1) < e
          · exact q
          · rw [jjK.n (by omega)] at w2; omega
        exact Or.inr (jjMk.bn (fun q => by omega) (by omega) (by omega))
      · obtain ⟨m1, m2, m3, -, -, -, m8⟩ := jjMk.at (T := T) (v := v) (k := kd) (f := -1) (z := 0)
        have hi : jjIn (jjMk T v kd (-1) 0) v (-1) (v + 1) := ⟨by omega, h0, by rw [m1]; exact hk, Or.inl ⟨by omega, m3, m2, rfl⟩⟩
        exact jjM.bn (b := b) (e := e) (o := o) (jjVal.out (b := b) (e := e) d) (jjVal.bn (b := b) (e := e) d) ((e - a).toNat + 1) (jjSk b e (a + 1)) (v + 1) u (-1) _ hi (by omega) hu (by rw [m3]; omega) (by rw [m3]; omega) (by rw [m1]; omega) (by rw [m8]; omega) (fun x q0 q1 => by omega)
    · rw [jjVal_l (fun q => w (Or.inl q)) (fun q => w (Or.inr q))]; exact jjL.bn ha hu
end
section
-- p9: the reference's tables behind a read; its kept bytes
theorem jjRB.of {b : Int → Int} {e r q v u : Int} {T : Nat → Int → Int} {ms mh mx mf mt mb me mi mn fu : Nat → Int32} (hX : jjVal b e 10 (jjSk b e 0) 0 0 (fun _ _ => 0) = (r, q, v, u, T)) (hr : 0 ≤ r) (he : e ≤ 3000) (hR : jjTR T v ms mh mx mf mt mb me mi mn) (hu : jjA T 7 u fu) : jjRB T v u ms mh mx mf mt mb me mi mn fu ∧ 1 ≤ v ∧ r = 0 ∧ jSo mx 0 = -1 := by
  have ho := jjVal.out (b := b) (e := e) 10 (jjSk b e 0) 0 0 (fun _ _ => 0) (Int.le_refl 0)
  have hb := jjVal.bn (b := b) (e := e) 10 (jjSk b e 0) 0 0 (fun _ _ => 0) (jjSk.ge b e 0) (Int.le_refl 0) (Int.le_refl 0)
  rw [hX] at ho hb
  have hb : jjBn T e 0 v u := hb.resolve_left (by show ¬ r < 0; omega)
  rcases ho with ho | ⟨o1, -, -, o4, -, -, -, o8, o9⟩
  · have ho : r < 0 := ho
    omega
  · have o4 : (0 : Int) < v := o4
    have o8 : jjCo T 0 v := o8
    exact ⟨⟨hR, hu, o8, fun x h0 h1 => by have := (hb x h0 h1).2.2; omega, fun c h0 h1 h8 => (hb c h0 h1).2.1 h8, fun x h0 h1 h3 => (hb x h0 h1).1 h3, fun x h0 h1 _ => (hb x h0 h1).2.2.1⟩, by omega, o1, by rw [← (hR 0 (Int.le_refl 0) o4).2.1]; exact o9⟩
theorem jjRd.y {b : Int → Int} {e r q v u : Int} {T : Nat → Int → Int} (hX : jjVal b e 10 (jjSk b e 0) 0 0 (fun _ _ => 0) = (r, q, v, u, T)) (hr : 0 ≤ r) (hq : jjSk b e q = e) : jjRd b e = (1, v, u, T) := by
  unfold jjRd
  rw [hX, if_pos ⟨hr, hq⟩]
theorem jB8.cu {D : Int → Int} (h : jfBy D) : jB8 (jfCu D) = jB8 (jfCn D) := by
  funext j
  have e : ∀ x : Int, -128 ≤ x → x ≤ 255 → (Int32.ofInt x).toInt = x := fun x h0 h1 => Int32.toInt_ofInt_of_le (by omega) (by omega)
  unfold jB8 jSo jfCu jfCn
  have hd := h (j.toNat : Int)
  by_cases w : j.toNat < 3000
  · rw [if_pos w, if_pos w]
    by_cases q : D (j.toNat : Int) < 128
    · rw [if_pos q]
    · rw [if_neg q, e _ (by omega) (by omega), e _ (by omega) (by omega)]
      omega
  · rw [if_neg w, if_neg w]
section
variable {D : Int → Int} {z p v u r q : Int} {T : Nat → Int → Int} {S : Int × (Int → jdD)}
theorem jdMs.no (hD : jfBy D) (h : (jjRd (jB8 (jfCu D)) z).1 = 0) : jdMs D z p S = (0, p, S) := jdMs.n (by rw [← jB8.cu hD]; exact h)
end
end
section
-- p9: what unit answers
def jdOd (c d : Int) : Int := if 0 ≤ d ∧ d < c then d else -1
section
variable {t : jDtl} {w : jWl9} {tr : jDtr} {fd : Nat → Option Nat} {c d i : Int} {a : Nat}
theorem jdOd.yy (h0 : 0 ≤ d) (h1 : d < c) : jdOd c d = d := if_pos ⟨h0, h1⟩
theorem jdOd.no (h : d < 0 ∨ c ≤ d) : jdOd c d = -1 := if_neg (by omega)
theorem jdOd.rf (h : (Value.ref a) = jdRf w (jdOd w.1 d)) : 0 ≤ d ∧ d < w.1 ∧ w.2.1 d.toNat = some a := by
  by_cases q : 0 ≤ d ∧ d < w.1
  · rw [jdOd.yy q.1 q.2] at h
    unfold jdRf at h
    rw [if_neg (by omega)] at h
    exact ⟨q.1, q.2, jdAt h⟩
  · rw [jdOd.no (by omega)] at h
    unfold jdRf at h
    rw [if_pos (by decide)] at h
    cases h
end
end
section
-- p8: equal units have equal flaws; what a sentence costs
section
variable {f g : Nat → Int32} {d lo hi n m : Int}
end
def jcV (f : Nat → Int32) (n e i : Int) : Prop := i = e ∨ ∃ x : Nat, n - i < x ∧ jSx f n x i = e
section
variable {f : Nat → Int32} {n e i i1 : Int}
theorem jcV.of {b : Int} (h : jSen f n b = e) : jcV f n e b := Or.inr ⟨(n - b).toNat + 1, by omega, h⟩
variable {k : Nat} {c : Int}
end
end
section
-- p8: what is checked, by whom, who waits, what the cache keeps: a machine over the documents' numbers
def jwMg (T : Nat → Int → Int) (v p : Int) (S : Int × (Int → jdD)) (Z : jwSt) : jwSt := if jdGd T v = 1 then (if 0 ≤ jdId T v then jwRq T v p S Z else if jqI T v (jChT "exit") 4 (jdMe T v) = 1 then Z else jwNo T v p S Z) else Z
-- bytes
def jwMs (D : Int → Int) (z p : Int) (S : Int × (Int → jdD)) (Z : jwSt) : jwSt := if (jjRd (jB8 (jfCn D)) z).1 = 1 then jwMg (jjRd (jB8 (jfCn D)) z).2.2.2 (jjRd (jB8 (jfCn D)) z).2.1 p S Z else Z
def jwByte (s : jdSt) (Z : jwSt) (c : Int) : jwSt := if s.1 0 = 1 then Z else if (jfAc s.1 c).2.1 = 1 then jwMs (jdBy s c) (jfAc s.1 c).2.2 s.2.2.1 s.2.2.2 Z else Z
def jwFd (b : Int → Int) (s : jdSt) (Z : jwSt) : Nat → jwSt
  | 0 => Z
  | k + 1 => jwByte (jdFd b s k) (jwFd b s Z k) (b k)
end
section
-- p8: rows of units in arrays; the cache
theorem jcM.y {f : Nat → Int32} {n i x : Int} {c : Int} (ei : i = jcB f n c.toNat) (ex : x = jEn f n i) (h : c = 39) (hg : jGap f n x < n) : jcM f n c.toNat = 1 := if_pos ⟨by omega, by show jGap f n (jEn f n (jcB f n c.toNat)) < n; rw [← ei, ← ex]; exact hg⟩
theorem jcE.y {f : Nat → Int32} {n i x : Int} {c : Int} (ei : i = jcB f n c.toNat) (ex : x = jEn f n i) (h : c = 39) (hg : jGap f n x < n) : n = jcE f n c.toNat := by
  unfold jcE
  rw [jcM.y ei ex h hg, if_pos rfl]
theorem jcF.y {f : Nat → Int32} {n i x : Int} {c : Int} (ei : i = jcB f n c.toNat) (ex : x = jEn f n i) (h : c = 39) (hg : jGap f n x < n) : 2 = jcF f n c.toNat := by
  unfold jcF
  rw [jcM.y ei ex h hg, if_pos rfl]
-- the cache: the rows C in one array, 1600 places each, their lengths in another
theorem jwSa.y {f l g : Nat → Int32} {c z s s1 k k1 x y i : Int} (h : jwSa f l g c z s k) (hs : s ≠ 0) (hi : i = 1600 * c + k) (hx : x = jSo f i) (hy : y = jSo g k) (e : x = y) (e1 : s1 = 1) (ek : k1 = k + 1) : jwSa f l g c z s1 k1 := by
  rcases h with ⟨a, b, d⟩ | ⟨a, -⟩
  · refine Or.inl ⟨e1, b, fun j j0 j1 => ?_⟩
    by_cases q : j = k
    · subst q; rw [← hi, ← hx, ← hy, e]
    · exact d j j0 (by omega)
  · exact absurd a hs
end
section
-- p8: rows that move down in the cache; who waits, in arrays
def jwRo (f l : Nat → Int32) (i : Nat) (r : List Int) : Prop := jSo l i = r.length ∧ r.length ≤ 1600 ∧ jcL f r.length (1600 * i) = r
theorem jwRo.cg {f l f1 l1 : Nat → Int32} {i : Nat} {r : List Int} (h : jwRo f l i r) (hl : jSo l1 i = jSo l i) (hf : ∀ x : Int, 0 ≤ x → x < 1600 → jSo f1 (1600 * i + x) = jSo f (1600 * i + x)) : jwRo f1 l1 i r := by
  obtain ⟨h1, h2, h3⟩ := h
  exact ⟨hl.trans h1, h2, (jcL.cg _ _ _ (fun j j0 j1 => hf j j0 (by omega))).trans h3⟩
/-- those from c to i (without it) have moved down by one -/
def jwMv (C : List (List Int)) (c i : Int) (j : Nat) : Option (List Int) := if c ≤ (j : Int) ∧ (j : Int) < i then C[j + 1]? else C[j]?
def jwCm (f l : Nat → Int32) (C : List (List Int)) (c i : Int) : Prop := ∀ (j : Nat) (r : List Int), jwMv C c i j = some r → jwRo f l j r
theorem jwCm.era {C : List (List Int)} {c : Int} (h0 : 0 ≤ c) (j : Nat) (r : List Int) (hr : (C.eraseIdx c.toNat)[j]? = some r) : j < C.length - 1 ∨ C.length ≤ c.toNat := by
  have h1 := (List.getElem?_eq_some_iff.mp hr).1
  rw [List.length_eraseIdx] at h1
  split at h1
  · exact Or.inl h1
  · exact Or.inr (by omega)
theorem jwCm.en {f l : Nat → Int32} {C : List (List Int)} {c i : Int} (h : jwCm f l C c i) (h0 : 0 ≤ c) (h1 : c < C.length) (hi : (C.length : Int) ≤ i + 1) : jwCh f l (C.eraseIdx c.toNat) := fun j r hr => by
  have hj : (j : Int) < i := by
    rcases jwCm.era h0 j r hr with q | q <;> omega
  refine h j r ?_
  unfold jwMv
  rw [List.getElem?_eraseIdx] at hr
  by_cases q : c ≤ (j : Int)
  · rw [if_pos ⟨q, hj⟩]
    rw [if_neg (by omega)] at hr
    exact hr
  · rw [if_neg (by omega)]
    rw [if_pos (by omega)] at hr
    exact hr
/-- row i is being copied: k units of it stand there -/
def jwCi (f l : Nat → Int32) (C : List (List Int)) (c i k : Int) : Prop := (∀ (j : Nat) (r : List Int), (j : Int) ≠ i → jwMv C c i j = some r → jwRo f l j r) ∧ jSo l i = jSo l (i + 1) ∧ ∀ x : Int, 0 ≤ x → x < k → jSo f (1600 * i + x) = jSo f (1600 * (i + 1) + x)
theorem jwCi.s {f f1 l : Nat → Int32} {C : List (List Int)} {c i k p k1 v : Int} (h : jwCi f l C c i k) (hf : jUpd 38400 f f1 p v) (hp : p = 1600 * i + k) (hv : v = jSo f (1600 * (i + 1) + k)) (h0 : 0 ≤ i) (hi : i + 1 < 24) (hk : 0 ≤ k) (hk1 : k < 1600) (e : k1 = k + 1) (hC : C.length ≤ 24) : jwCi f1 l C c i k1 := by
  obtain ⟨g1, g2, g3⟩ := h
  subst hp
  have hx : ∀ y : Int, 0 ≤ y → y < 38400 → y ≠ 1600 * i + k → jSo f1 y = jSo f y := hf.2
  refine ⟨fun j r hj hr => ?_, g2, fun x x0 x1 => ?_⟩
  · have hj2 : (j : Int) < 24 := by
      unfold jwMv at hr
      split at hr <;> (have := (List.getElem?_eq_some_iff.mp hr).1; omega)
    exact (g1 j r hj hr).cg rfl (fun x x0 x1 => hx _ (by omega) (by omega) (by omega))
  · rw [hx (1600 * (i + 1) + x) (by omega) (by omega) (by omega)]
    by_cases q : x = k
    · subst q; rw [hf.1, hv]
    · rw [hx (1600 * i + x) (by omega) (by omega) (by omega)]
      exact g3 x x0 (by omega)
theorem jwCi.en {f l : Nat → Int32} {C : List (List Int)} {c i k i1 : Int} (h : jwCi f l C c i k) (hk : jSo l i ≤ k) (h0 : 0 ≤ i) (hc : c ≤ i) (e : i1 = i + 1) : jwCm f l C c i1 := fun j r hr => by
  obtain ⟨g1, g2, g3⟩ := h
  by_cases q : (j : Int) = i
  · unfold jwMv at hr
    rw [if_pos (by omega)] at hr
    have g := g1 (j + 1) r (by omega) (by unfold jwMv; rw [if_neg (by omega)]; exact hr)
    obtain ⟨a1, a2, a3⟩ := g
    have e1 : ((j + 1 : Nat) : Int) = i + 1 := by omega
    rw [e1] at a1 a3
    refine ⟨by rw [q, g2]; exact a1, a2, ?_⟩
    refine Eq.trans (jcL.cg _ _ _ (fun x x0 x1 => ?_)) a3
    rw [q]
    exact g3 x x0 (by have : jSo l i = r.length := g2.trans a1; omega)
  · refine g1 j r q ?_
    unfold jwMv at hr ⊢
    by_cases q1 : c ≤ (j : Int) ∧ (j : Int) < i
    · rw [if_pos q1]; rw [if_pos (by omega)] at hr; exact hr
    · rw [if_neg q1]; rw [if_neg (by omega)] at hr; exact hr
/-- a row is put behind the last one: k units of it stand there -/
def jwCp (f l g : Nat → Int32) (C : List (List Int)) (z k : Int) : Prop := jwCh f l C ∧ jSo l C.length = z ∧ ∀ x : Int, 0 ≤ x → x < k → jSo f (1600 * C.length + x) = jSo g x
theorem jwCp.s {f f1 l g : Nat → Int32} {C : List (List Int)} {z k k1 p v : Int} (h : jwCp f l g C z k) (hf : jUpd 38400 f f1 p v) (hp : p = 1600 * C.length + k) (hv : v = jSo g k) (hC : C.length < 24) (hk : 0 ≤ k) (hk1 : k < 1600) (e : k1 = k + 1) : jwCp f1 l g C z k1 := by
  obtain ⟨g1, g2, g3⟩ := h
  subst hp
  refine ⟨fun j r hr => ?_, g2, fun x x0 x1 => ?_⟩
  · have := (List.getElem?_eq_some_iff.mp hr).1
    exact jwRo.cg (g1 j r hr) rfl (fun x x0 x1 => hf.2 _ (by omega) (by omega) (by omega))
  · by_cases q : x = k
    · subst q; rw [hf.1, hv]
    · rw [hf.2 _ (by omega) (by omega) (by omega)]
      exact g3 x x0 (by omega)
theorem jwCp.en {f l g : Nat → Int32} {C : List (List Int)} {R : List Int} {z k : Int} (h : jwCp f l g C z k) (hk : z ≤ k) (h0 : 0 ≤ z) (h1 : z ≤ 1600) (hR : jcL g z.toNat 0 = R) : jwCh f l (C ++ [R]) := fun j r hr => by
  obtain ⟨g1, g2, g3⟩ := h
  have hl : R.length = z.toNat := by rw [← hR, jcL.len]
  by_cases q : j < C.length
  · rw [List.getElem?_append_left q] at hr
    exact g1 j r hr
  · have hj : j = C.length := by
      have := (List.getElem?_eq_some_iff.mp hr).1
      rw [List.length_append] at this
      have h2 : [R].length = 1 := rfl
      omega
    subst hj
    rw [List.getElem?_append_right (Nat.le_refl _), Nat.sub_self] at hr
    have hr : some R = some r := hr
    cases hr
    refine ⟨by rw [g2]; omega, by omega, ?_⟩
    rw [hl]
    refine Eq.trans (jcL.cg _ _ _ (fun x x0 x1 => ?_)) hR
    rw [Int.zero_add]
    exact g3 x x0 (by omega)
theorem jwEr {R : List Int} : ∀ (C : List (List Int)) (i : Nat), C[i]? = some R → (∀ j, j < i → C[j]? ≠ some R) → C.eraseIdx i = C.erase R
  | [], i, h, _ => by cases h
  | a :: C, 0, h, _ => by
    have h : some a = some R := h
    cases h
    rw [List.erase_cons_head]
    rfl
  | a :: C, i + 1, h, hn => by
    have h : C[i]? = some R := h
    have ha : a ≠ R := fun e => hn 0 (by omega) (by rw [e]; rfl)
    rw [List.erase_cons_tail (by simpa using ha)]
    show a :: C.eraseIdx i = _
    rw [jwEr C i h (fun j hj => hn (j + 1) (by omega))]
theorem jwKo.y {C : List (List Int)} {R : List Int} {r c : Int} (h : jwIx C R r) (h0 : 0 ≤ r) (e : c = r) : C.eraseIdx c.toNat = jwKo C R := by
  subst e
  rcases h with ⟨h, -⟩ | ⟨-, -, h2, h3⟩
  · omega
  · unfold jwKo
    rw [if_pos (List.mem_of_getElem? h2)]
    exact jwEr C _ h2 (fun j hj => h3 j (by omega))
end
section
-- p8: who waits, in arrays: one goes, one comes
theorem jwSi.s {n b lo hi p v h1 : Int} {f g g1 : Nat → Int32} (h : jwSi n f g b lo hi) (hu : jUpd n g g1 p v) (hp : p = hi) (hv : v = jSo g (hi + b)) (hb : 0 < b) (hl : lo ≤ hi) (h0 : 0 ≤ hi) (hn : hi + b < n) (e : h1 = hi + 1) : jwSi n f g1 b lo h1 := fun j j0 j1 => by
  subst hp e
  by_cases q : j = p
  · subst q
    rw [if_pos (by omega), hu.1, hv, h (j + b) (by omega) hn, if_neg (by omega)]
  · rw [hu.2 j j0 j1 q, h j j0 j1]
    by_cases q1 : lo ≤ j ∧ j < p
    · rw [if_pos q1, if_pos (by omega)]
    · rw [if_neg q1, if_neg (by omega)]
def jwSq (n : Nat) (f g : Nat → Option Nat) (lo hi : Int) : Prop := ∀ j : Nat, j < n → g j = if lo ≤ (j : Int) ∧ (j : Int) < hi then f (j + 1) else f j
theorem jwSq.s {n i k : Nat} {lo hi h1 : Int} {f g g1 : Nat → Option Nat} {x : Option Nat} (h : jwSq n f g lo hi) (hv : g1 i = x) (ho : ∀ j, j < n → j ≠ i → g1 j = g j) (hx : x = g k) (hi1 : (i : Int) = hi) (hk : k = i + 1) (hl : lo ≤ hi) (hn : i + 1 < n) (e : h1 = hi + 1) : jwSq n f g1 lo h1 := fun j j1 => by
  subst hk e
  by_cases q : j = i
  · subst q
    rw [if_pos (by omega), hv, hx, h (j + 1) (by omega), if_neg (by omega)]
  · rw [ho j j1 q, h j j1]
    by_cases q1 : lo ≤ (j : Int) ∧ (j : Int) < hi
    · rw [if_pos q1, if_pos (by omega)]
    · rw [if_neg q1, if_neg (by omega)]
theorem jwWi.cg {ws wi wu we ws1 wi1 wu1 we1 : Nat → Int32} {i j : Int} (h1 : jSo ws1 j = jSo ws i) (h2 : jSo wi1 j = jSo wi i) (h3 : jSo we1 j = jSo we i) (h4 : jSo ws i = 1 → ∀ x : Int, 0 ≤ x → x < jSo we i → jSo wu1 (20 * j + x) = jSo wu (20 * i + x)) : jwWi ws1 wi1 wu1 we1 j = jwWi ws wi wu we i := by
  unfold jwWi
  rw [h1, h2, h3]
  by_cases q : jSo ws i = 1
  · rw [if_pos q, if_pos q, jcL.cg _ (20 * j) (20 * i) (fun x x0 x1 => h4 q x x0 (by omega))]
  · rw [if_neg q, if_neg q]
theorem jwWr.era {n w v m : Int} {wo wo1 : Nat → Option Nat} {wd ws wi wu we wd1 ws1 wi1 wu1 we1 : Nat → Int32} {W : List jwA} (h : jwWr n wo wd ws wi wu we W) (h0 : 0 ≤ w) (hw : w < n) (hv : n ≤ v + 1) (ho : jwSq 12 wo wo1 w v) (hd : jwSi 12 wd wd1 1 w v) (hs : jwSi 12 ws ws1 1 w v) (hi : jwSi 12 wi wi1 1 w v) (he : jwSi 12 we we1 1 w v) (hu : jwSi 240 wu wu1 20 (20 * w) (20 * v)) (em : m = n - 1) : jwWr m wo1 wd1 ws1 wi1 wu1 we1 (W.eraseIdx w.toNat) := by
  obtain ⟨h1, h2, h3⟩ := h
  have hl : (W.eraseIdx w.toNat).length = W.length - 1 := by rw [List.length_eraseIdx, if_pos (by omega)]
  refine ⟨by omega, by omega, fun j a ha => ?_⟩
  have hj : j < W.length - 1 := by have := (List.getElem?_eq_some_iff.mp ha).1; omega
  rw [List.getElem?_eraseIdx] at ha
  by_cases q : w ≤ (j : Int)
  · rw [if_neg (by omega)] at ha
    obtain ⟨g1, g2, g3, g4⟩ := h3 (j + 1) a ha
    have c1 : ∀ {f f1 : Nat → Int32}, jwSi 12 f f1 1 w v → jSo f1 (j : Int) = jSo f ((j + 1 : Nat) : Int) := fun hh => by
      rw [hh j (by omega) (by omega), if_pos (by omega)]; congr 1
    refine ⟨?_, (c1 hd).trans g2, ?_, fun q1 => ?_⟩
    · rw [ho j (by omega), if_pos (by omega)]; exact g1
    · refine Eq.trans (jwWi.cg (c1 hs) (c1 hi) (c1 he) (fun q1 x x0 x1 => ?_)) g3
      have := g4 q1
      rw [hu (20 * (j : Int) + x) (by omega) (by omega), if_pos (by omega)]
      congr 1; omega
    · rw [c1 hs] at q1
      rw [c1 he]; exact g4 q1
  · rw [if_pos (by omega)] at ha
    obtain ⟨g1, g2, g3, g4⟩ := h3 j a ha
    have c1 : ∀ {f f1 : Nat → Int32}, jwSi 12 f f1 1 w v → jSo f1 (j : Int) = jSo f (j : Int) := fun hh => by
      rw [hh j (by omega) (by omega), if_neg (by omega)]
    refine ⟨?_, (c1 hd).trans g2, ?_, fun q1 => ?_⟩
    · rw [ho j (by omega), if_neg (by omega)]; exact g1
    · refine Eq.trans (jwWi.cg (c1 hs) (c1 hi) (c1 he) (fun q1 x x0 x1 => ?_)) g3
      have := g4 q1
      rw [hu (20 * (j : Int) + x) (by omega) (by omega), if_neg (by omega)]
    · rw [c1 hs] at q1
      rw [c1 he]; exact g4 q1
/-- the id as it is held while a message is answered -/
def jwIe (zs zi : Int) (fi : Nat → Int32) (zl : Int) : jwI := if zs = 1 then (1, 0, jcL fi zl.toNat 0) else (0, zi, [])
def jwUq (wu wu1 fi : Nat → Int32) (n k : Int) : Prop := (∀ x : Int, 0 ≤ x → x < k → jSo wu1 (20 * n + x) = jSo fi x) ∧ ∀ y : Int, 0 ≤ y → y < 20 * n → jSo wu1 y = jSo wu y
theorem jwUq.s {wu wu1 wu2 fi : Nat → Int32} {n k k1 p v : Int} (h : jwUq wu wu1 fi n k) (hu : jUpd 240 wu1 wu2 p v) (hp : p = 20 * n + k) (hv : v = jSo fi k) (h0 : 0 ≤ n) (hn : n < 12) (hk : 0 ≤ k) (hk2 : k < 20) (e : k1 = k + 1) : jwUq wu wu2 fi n k1 := by
  subst hp e
  refine ⟨fun x x0 x1 => ?_, fun y y0 y1 => (hu.2 y y0 (by omega) (by omega)).trans (h.2 y y0 y1)⟩
  by_cases q : x = k
  · subst q; rw [hu.1, hv]
  · rw [hu.2 _ (by omega) (by omega) (by omega)]; exact h.1 x x0 (by omega)
theorem jwIs.y {n i : Int} {x : Nat} {wo : Nat → Option Nat} {wd ws wi wu we : Nat → Int32} {W : List jwA} (h : jwWr n wo wd ws wi wu we W) (h0 : 0 ≤ i) (h1 : i < n) (hx : some x = wo i.toNat) : jwIs W x := by
  have hl : i.toNat < W.length := by have := h.1; omega
  have hg : W[i.toNat]? = some W[i.toNat] := List.getElem?_eq_getElem hl
  refine ⟨W[i.toNat], List.mem_of_getElem? hg, ?_⟩
  have := (h.2.2 _ _ hg).1
  rw [← hx] at this
  exact (Option.some.inj this).symm
end
section
-- p8: a finished sentence; ids as the reference compares them
theorem jwPw.y {W : List jwA} {a : jwA} (h : W.length < 12) : jwPw W a = W ++ [a] := if_pos h
theorem jwIq.y {W : List jwA} {i v x : Int} {T : Nat → Int → Int} {a : jwA} {w : jwI} (ha : W[i.toNat]? = some a) (h : w = a.2.2) (e : w = jwId T v x) : jwIq W i T v x := ⟨a, ha, h.symm.trans e⟩
theorem jwUn.of {f : Nat → Int32} {T : Nat → Int → Int} {v i : Int} : ∀ (z : Nat) (b j : Int), jcL f z b = jwUn T v i z j → ∀ x : Int, 0 ≤ x → x < z → jSo f (b + x) = jqA T v i (j + x)
  | 0, _, _, _, x, h0, h1 => by omega
  | z + 1, b, j, h, x, h0, h1 => by
    have h : jSo f b :: jcL f z (b + 1) = jqA T v i j :: jwUn T v i z (j + 1) := h
    injection h with e1 e2
    by_cases q : x = 0
    · subst q
      rw [Int.add_zero, Int.add_zero]; exact e1
    · have := jwUn.of z (b + 1) (j + 1) e2 (x - 1) (by omega) (by omega)
      rw [show b + 1 + (x - 1) = b + x by omega, show j + 1 + (x - 1) = j + x by omega] at this
      exact this
theorem jwSb.y {wu : Nat → Int32} {T : Nat → Int → Int} {v x b z s s1 k k1 p q : Int} (h : jwSb wu T v x b z s k) (hs : s ≠ 0) (hp : p = jSo wu (b + k)) (hq : q = jqA T v x k) (e : p = q) (e1 : s1 = 1) (ek : k1 = k + 1) : jwSb wu T v x b z s1 k1 := by
  rcases h with ⟨a, c, d⟩ | ⟨a, -⟩
  · refine Or.inl ⟨e1, c, fun j j0 j1 => ?_⟩
    by_cases w : j = k
    · subst w; rw [← hp, ← hq, e]
    · exact d j j0 (by omega)
  · exact absurd a hs
theorem jwSb.en {ws wi wu we : Nat → Int32} {T : Nat → Int → Int} {v x i b s k : Int} (h : jwSb wu T v x b (jSo we i) s k) (hs : s = 0) (hb : b = 20 * i) (h0 : 0 ≤ jSo we i) (h3 : 0 ≤ T 3 x) (h1 : jSo ws i = 1) (h2 : jqK T v x = 3) : jwWi ws wi wu we i ≠ jwId T v x := fun q => by
  unfold jwWi jwId at q
  rw [if_pos h1, if_pos h2] at q
  have e : jcL wu (jSo we i).toNat (20 * i) = jwUn T v x (T 3 x).toNat 0 := congrArg (fun p => p.2.2) q
  have hl := congrArg List.length e
  rw [jcL.len, jwUn.len] at hl
  rcases h with ⟨a, -⟩ | ⟨-, d | ⟨j, j0, j1, d⟩⟩
  · omega
  · omega
  · rw [← hl] at e
    have := jwUn.of _ _ _ e j j0 (by omega)
    rw [Int.zero_add, ← hb] at this
    exact d this
theorem jwIe.of {T : Nat → Int → Int} {v x zs zi zl : Int} {fi : Nat → Int32} (h : (zs = 1 ∧ jqK T v x = 3 ∧ zl = T 3 x ∧ ∀ j : Int, 0 ≤ j → j < zl → jSo fi j = jqA T v x j) ∨ (zs ≠ 1 ∧ jqK T v x ≠ 3 ∧ zi = T 2 x)) : jwIe zs zi fi zl = jwId T v x := by
  unfold jwIe jwId
  rcases h with ⟨a, b, c, d⟩ | ⟨a, b, c⟩
  · rw [if_pos a, if_pos b, c]
    congr 2
    exact jwUn.eq _ _ _ (fun y y0 y1 => by rw [Int.zero_add]; exact d y y0 (by omega))
  · rw [if_neg a, if_neg b, c]
end
section
-- p8: the reference's scheduler as the machine: what binds its rows to Z
section J85
variable {t : jDtr} {q : jXg} {fd co : Nat → Option Nat} {dc : Int} {cs cl : Nat → Int32} {W : List jwA} {ol nw td : Nat} {S : Int × (Int → jdD)} {Z : jwSt}
theorem jEqU.m {f g : Nat → Int32} {n i : Int} (h : jEqU f g n) (hn : 0 < n) (h0 : -1 ≤ i) (h1 : i < n) : jSo f i = jSo g i := by
  by_cases w : i = -1
  · subst w
    exact h 0 (by omega) hn
  · exact h i (by omega) h1
theorem jcW.cg {f g : Nat → Int32} {n e : Int} (h : jEqU f g n) (hn : 0 < n) (he : e ≤ n) : ∀ (k : Nat) (i : Int), -1 ≤ i → jcW f e k i = jcW g e k i
  | 0, _, _ => rfl
  | k + 1, i, hi => by
    show (if i < e ∧ jcSg (jSo f i) = 1 then jcW f e k (i + 1) else i) = (if i < e ∧ jcSg (jSo g i) = 1 then jcW g e k (i + 1) else i)
    by_cases w : i < e
    · rw [h.m hn hi (by omega), jcW.cg h hn he k (i + 1) (by omega)]
    · rw [if_neg (fun z => w z.1), if_neg (fun z => w z.1)]
theorem jOpI.m {f g : Nat → Int32} {n i : Int} (h : jEqU f g n) (h0 : -1 ≤ i) : jOpI f i n = jOpI g i n := by
  by_cases w : i = -1
  · subst w
    have key : ∀ f : Nat → Int32, jOpI f (-1) n = 0 := fun f => if_neg (fun z => by
      have z1 : (f 0).toInt = 40 := z.2.1
      have z2 : (f 0).toInt = 42 := z.2.2
      omega)
    rw [key f, key g]
  · exact jOpI_c h (by omega)
theorem jcK.cg {f g : Nat → Int32} {n e : Int} (hn : 0 < n) (he : e ≤ n) (h : jEqU f g n) : ∀ (k : Nat) (i : Int), -1 ≤ i → jcK f n e k i = jcK g n e k i
  | 0, _, _ => rfl
  | k + 1, i, hi => by
    rw [jcK_s (f := f) (k := k + 1) (by omega), jcK_s (f := g) (k := k + 1) (by omega), Nat.add_sub_cancel]
    by_cases w : i < e
    · rw [if_pos w, if_pos w, jOpI.m h hi]
      by_cases ho : jOpI g i n = 1
      · have h0 := jOpI.nn hi ho
        rw [if_pos ho, if_pos ho, jBcc_c h h0]
        exact jcK.cg hn he h k _ (by have := jBcc.rg (f := g) (n := n) (i := i); omega)
      · have hw : jcWd f e i = jcWd g e i := jcW.cg h hn he _ _ hi
        have hr : i ≤ jcWd g e i := (jcW.rg (f := g) (e := e) _ i (by omega)).1
        have hc : (jSo g i = 45 ∧ i + 1 < e ∧ jSo f (i + 1) = 62) = (jSo g i = 45 ∧ i + 1 < e ∧ jSo g (i + 1) = 62) := by
          by_cases w1 : i + 1 < e
          · rw [h.m hn (by omega : -1 ≤ i + 1) (by omega)]
          · exact propext ⟨fun z => absurd z.2.1 w1, fun z => absurd z.2.1 w1⟩
        rw [if_neg ho, if_neg ho, h.m hn hi (by omega), hw, jcK.cg hn he h k (jcWd g e i) (by omega), jcK.cg hn he h k (i + 2) (by omega), jcK.cg hn he h k (i + 1) (by omega)]
        simp only [hc]
    · rw [if_neg w, if_neg w]
theorem jcC.cg {f g : Nat → Int32} {n : Int} (hn : 0 ≤ n) (h : jEqU f g n) (k : Nat) : jcC f n k = jcC g n k := by
  unfold jcC
  rw [jcF.cg hn h k, jcE.cg hn h k, jcB.cg hn h k]
  have h3 : jcE g n k ≤ n := by
    unfold jcE
    split
    · exact Int.le_refl n
    · exact jEn.le hn
  by_cases w : 0 < n
  · rw [jcK.cg w h3 h _ _ (by have := jcB.nn (f := g) hn k; omega)]
  · have key : ∀ (f : Nat → Int32) (z : Nat), jcK f n (jcE g n k) z (jcB g n k) = 0 := fun f z => by
      cases z with
      | zero => rfl
      | succ z => exact if_neg (by have := jcB.nn (f := g) hn k; omega)
    rw [key f, key g]
end J85
section J87
variable {t : jDtr} {q : jXg} {fd co : Nat → Option Nat} {dc : Int} {cs cl : Nat → Int32} {W : List jwA} {ol nw td : Nat} {S : Int × (Int → jdD)} {Z : jwSt}
end J87
end
section
-- p8: what holds of the machine between two steps
section J89
variable {S : Int × (Int → jdD)} {Z : jwSt} {w d : Int}
theorem jwAk.s {k k1 : Int} (h : k = 0 ∨ k = 1) (e : k1 = k + 1) : jwAd S (jwAk S Z k) k = jwAk S Z k1 := by
  subst e
  rcases h with h | h <;> subst h <;> rfl
theorem jwWk.s {k k1 : Nat} (hk : k = k1 + 1) (h : jwHs S Z = 1) : jwWk S k Z = ((jwWk S k1 (jwAd S (jwAd S Z 0) 1)).1 + 1, (jwWk S k1 (jwAd S (jwAd S Z 0) 1)).2) := by
  subst hk
  exact if_pos h
theorem jwHs.y (h : 0 ≤ (Z.2.1 0).1 ∨ 0 ≤ (Z.2.1 1).1 ∨ 0 ≤ jwNx S Z) : jwHs S Z = 1 := if_pos h
end J89
end
section
-- p8: sentences that stay as they were (the reference)
theorem jwSm.cg {f g f1 g1 : Nat → Int32} {n m s : Int} (hn : 0 ≤ n) (hm : 0 ≤ m) (h : jEqU f f1 n) (h1 : jEqU g g1 m) : ∀ (x : Nat) (k : Int), jwSm f n g m s x k = jwSm f1 n g1 m s x k
  | 0, _ => rfl
  | x + 1, k => by
    show (if k < s ∧ jcU f n k.toNat = jcU g m k.toNat then jwSm f n g m s x (k + 1) else k) = (if k < s ∧ jcU f1 n k.toNat = jcU g1 m k.toNat then jwSm f1 n g1 m s x (k + 1) else k)
    rw [jcU.cg hn h, jcU.cg hm h1, jwSm.cg hn hm h h1 x (k + 1)]
theorem jwSy.cg {f g f1 g1 : Nat → Int32} {n m : Int} (hn : 0 ≤ n) (hm : 0 ≤ m) (h : jEqU f f1 n) (h1 : jEqU g g1 m) : jwSy f n g m = jwSy f1 n g1 m := by
  unfold jwSy
  rw [jPar_cg hn h, jPar_cg hm h1]
  exact jwSm.cg hn hm h h1 _ _
end
section
-- p8: the reference closes a document: the machine's state
section J91
variable {t : jDtr} {q : jXg} {fd fd1 co c1 : Nat → Option Nat} {dc dc1 : Int} {cs cl : Nat → Int32} {W : List jwA} {ol nw td x : Nat} {S S1 : Int × (Int → jdD)} {Z : jwSt} {d : Int}
theorem jrZ.cls (h : jrZ t q fd dc co cs cl W ol nw td S Z) (hd0 : 0 ≤ d) (hd : d < dc) (hx : fd d.toNat = some x) (hI : jdIr t fd1 dc1) (hS : jdRs t fd1 dc1 = S1) (hPu : jPu q.sn q.ck fd1 c1 cs dc1 ol nw td) (e1 : dc1 = dc - 1) (hN : ∀ e : Nat, (e : Int) < dc → e < 3 → (e : Int) ≠ d → fd1 (jwDn d e).toNat = fd e) (hc : ∀ w : Nat, w < 2 → c1 w = if co w = some x then none else co w) : jrZ t q fd1 dc1 c1 cs cl (W.filter (fun a => !decide (a.1 = x))) ol nw td S1 (jwCl1 Z d) := by
  have h3 := h.dc3
  have key : ∀ d1 a : Nat, d1 < 3 → fd d1 = some a → (a = x ↔ (d1 : Int) = d) := fun d1 a k2 k3 => by
    refine ⟨fun e => ?_, fun e => ?_⟩
    · subst e
      have := h.inj d1 d.toNat k2 (by omega) (k3.trans hx.symm)
      omega
    · have e1 : d1 = d.toNat := by omega
      subst e1
      exact Option.some.inj (k3.symm.trans hx)
  have dn : ∀ e : Int, 0 ≤ e → e < dc → e ≠ d → 0 ≤ jwDn d e ∧ jwDn d e < dc1 ∧ (if jwDn d e < d then Z.1 (jwDn d e) else Z.1 (jwDn d e + 1)) = Z.1 e := fun e a b c => by
    unfold jwDn
    by_cases g : d < e
    · rw [if_pos g, if_neg (by omega)]
      exact ⟨by omega, by omega, by rw [show e - 1 + 1 = e by omega]⟩
    · rw [if_neg g, if_pos (by omega)]
      exact ⟨by omega, by omega, rfl⟩
  refine ⟨hI, hS, hPu, h.2.2.2.1, fun d1 a k1 k2 k3 => ?_, fun w hw => ?_, fun ee => ?_, ?_⟩
  · by_cases g : (d1 : Int) < d
    · have hn := hN d1 (by omega) k2 (by omega)
      have ej : (jwDn d (d1 : Int)).toNat = d1 := by unfold jwDn; rw [if_neg (by omega)]; omega
      rw [ej, k3] at hn
      have := h.2.2.2.2.1 d1 a (by omega) k2 hn.symm
      show jrD t q a (if (d1 : Int) < d then Z.1 d1 else Z.1 (d1 + 1))
      rw [if_pos g]; exact this
    · have hn := hN (d1 + 1) (by omega) (by omega) (by omega)
      have ej : (jwDn d ((d1 + 1 : Nat) : Int)).toNat = d1 := by unfold jwDn; rw [if_pos (by omega)]; omega
      rw [ej, k3] at hn
      have := h.2.2.2.2.1 (d1 + 1) a (by omega) (by omega) hn.symm
      show jrD t q a (if (d1 : Int) < d then Z.1 d1 else Z.1 (d1 + 1))
      rw [if_neg g]; exact this
  · show jrK fd1 c1 cs cl dc1 ((fun i => if i < d then Z.1 i else Z.1 (i + 1)), (fun w => if (Z.2.1 w).1 = d then (-1, 0) else (jwDn d (Z.2.1 w).1, (Z.2.1 w).2)), _, _) w
    have hv := hc w hw
    rcases h.2.2.2.2.2.1 w hw with ⟨k1, k2⟩ | ⟨e, b, k1, k2, k3, k4, k5, k6⟩
    · rw [k1, if_neg (fun z => by cases z)] at hv
      refine Or.inl ⟨hv, ?_⟩
      show (if (Z.2.1 w).1 = d then ((-1, 0) : Int × Int) else (jwDn d (Z.2.1 w).1, (Z.2.1 w).2)) = (-1, 0)
      rw [k2]
      split
      · rfl
      · show (jwDn d (-1), (0 : Int)) = (-1, 0)
        unfold jwDn
        rw [if_neg (by omega)]
    · by_cases g : b = x
      · rw [k4, if_pos (by rw [g])] at hv
        have ed := (key e b k2 k3).mp g
        exact Or.inl ⟨hv, if_pos (by rw [k6]; exact ed)⟩
      · rw [k4, if_neg (fun z => g (Option.some.inj z))] at hv
        have ed : (e : Int) ≠ d := fun z => g ((key e b k2 k3).mpr z)
        obtain ⟨a1, a2, a3⟩ := dn e (by omega) k1 ed
        have ej : (((jwDn d (e : Int)).toNat : Nat) : Int) = jwDn d e := by omega
        refine Or.inr ⟨(jwDn d e).toNat, b, by omega, by omega, (hN e k1 k2 ed).trans k3, hv, ?_, ?_⟩
        · show jSo cs w = (if (((jwDn d (e : Int)).toNat : Nat) : Int) < d then Z.1 ((jwDn d (e : Int)).toNat : Nat) else Z.1 (((jwDn d (e : Int)).toNat : Nat) + 1))
          rw [ej, a3]; exact k5
        · show (if (Z.2.1 w).1 = d then ((-1, 0) : Int × Int) else (jwDn d (Z.2.1 w).1, (Z.2.1 w).2)) = _
          rw [k6, if_neg ed, ej]
  · have v0 := hc 0 (by omega)
    have v1 := hc 1 (by omega)
    by_cases g : co 0 = some x
    · rw [if_pos g] at v0; exact v0
    · rw [if_neg g] at v0
      by_cases g1 : co 1 = some x
      · rw [if_pos g1] at v1; rw [ee]; exact v1
      · rw [if_neg g1] at v1
        rw [v0]
        exact h.2.2.2.2.2.2.1 (by rw [← v0, ← v1]; exact ee)
  · have hf : jrW fd dc (W.filter (fun a => !decide (a.1 = x))) (Z.2.2.1.filter (fun z => !decide (z.1 = d))) := h.2.2.2.2.2.2.2.flt (fun a ha => by
      obtain ⟨d1, k1, k2, k3⟩ := h.2.2.2.2.2.2.2.1 a ha
      show (!(decide (jrNu fd a.1 = d))) = _
      rw [h.nu k2 k3]
      congr 1
      exact decide_eq_decide.mpr (key d1 a.1 k2 k3).symm)
    have hm : ∀ a ∈ W.filter (fun a => !decide (a.1 = x)), ∃ e : Nat, (e : Int) < dc ∧ e < 3 ∧ fd e = some a.1 ∧ (e : Int) ≠ d := fun a ha => by
      obtain ⟨e, k1, k2, k3⟩ := hf.1 a ha
      refine ⟨e, k1, k2, k3, fun z => ?_⟩
      have := (key e a.1 k2 k3).mpr z
      have h9 := (List.mem_filter.mp ha).2
      rw [this] at h9
      simp at h9
    refine ⟨fun a ha => ?_, ?_⟩
    · obtain ⟨e, k1, k2, k3, k4⟩ := hm a ha
      obtain ⟨a1, a2, -⟩ := dn e (by omega) k1 k4
      exact ⟨(jwDn d e).toNat, by omega, by omega, (hN e k1 k2 k4).trans k3⟩
    · show (Z.2.2.1.filter (fun z => !decide (z.1 = d))).map (fun z => (jwDn d z.1, z.2)) = _
      rw [hf.2, List.map_map]
      refine List.map_congr_left (fun a ha => ?_)
      obtain ⟨e, k1, k2, k3, k4⟩ := hm a ha
      obtain ⟨a1, a2, -⟩ := dn e (by omega) k1 k4
      show (jwDn d (jrNu fd a.1), a.2) = (jrNu fd1 a.1, a.2)
      rw [h.nu k2 k3, jrNu.at hPu.2.1 (d := (jwDn d (e : Int)).toNat) (by omega) ((hN e k1 k2 k4).trans k3)]
      congr 1
      omega
end J91
end
section
-- p8: when a change is made (the reference)
theorem jdCg.y {T : Nat → Int → Int} {v s c n : Int} {d : jDtr} {fd : Nat → Option Nat} {x : Nat} {R : Int × Int × (Int → Int)} (hT : ∀ x, jqK T v x = 3 → 0 ≤ T 3 x) (hI : jdIr d fd n) (hs : s = jdVs T v) (hc : c = jdCc T v) (hx : 0 ≤ jdWh T v (jdRs d fd n).1 (jdRs d fd n).2 ∧ jdWh T v (jdRs d fd n).1 (jdRs d fd n).2 < n ∧ fd (jdWh T v (jdRs d fd n).1 (jdRs d fd n).2).toNat = some x)
    (k1 : jqK T v s = 4) (hv : (d.ve x).toInt < T 2 s) (k2 : jqK T v c = 2) (z1 : 1 ≤ T 3 c) (z2 : T 3 c ≤ 8) (hR : R = jdCh T v (T 3 c).toNat (T 2 c) (d.ln x).toInt (jSo (d.tx x))) (hJ : R.1 = 1) : jdCg T v (jdRs d fd n).1 (jdRs d fd n).2 = 1 := by
  obtain ⟨r1, r2, r3⟩ := jdNew.r hT (hI.2.2.2 x).1 hc hR
  refine if_pos ⟨hx.1, by rw [← hs]; exact k1, ?_, by rw [← hc]; exact k2, by rw [← hc]; exact z1, by rw [← hc]; exact z2, ?_⟩
  · rw [jdCg.q hx, ← hs]; exact hv
  · rw [jdCg.q hx, r1]; exact hJ
end
section
-- p8: one asks (the reference)
section J92
variable {t : jDtr} {q : jXg} {fd co : Nat → Option Nat} {dc : Int} {cs cl : Nat → Int32} {W : List jwA} {ol nw td x : Nat} {S : Int × (Int → jdD)} {Z : jwSt} {d : Int}
theorem jwNd.cg {f g : Nat → Int32} {n s p : Int} (hn : 0 ≤ n) (h : jEqU f g n) : ∀ (y : Nat) (k : Int), jwNd f n s p y k = jwNd g n s p y k
  | 0, _ => rfl
  | y + 1, k => by
    show (if k < s ∧ jcE f n k.toNat ≤ p then jwNd f n s p y (k + 1) else k) = (if k < s ∧ jcE g n k.toNat ≤ p then jwNd g n s p y (k + 1) else k)
    rw [jcE.cg hn h, jwNd.cg hn h y (k + 1)]
theorem jwGo.y {T : Nat → Int → Int} {v p nd : Int} (h : jrZ t q fd dc co cs cl W ol nw td S Z) (hd0 : 0 ≤ d) (hd : d < dc) (hx : fd d.toNat = some x) (hp : p = jdT T v (jSo (t.tx x)) (t.ln x).toInt (jwPo T v)) (hp0 : 0 ≤ p) (hn : nd = jwNd (t.tx x) (t.ln x).toInt (q.sn x).toInt p 40 0) : jwGo T v S Z d = jwAsk T v d nd Z := by
  have h3 := h.dc3
  have hl := h.l0 x
  have e : S.2 d = jdR1 t x := by
    have := h.doc (d := d.toNat) (by omega) hx
    rw [show ((d.toNat : Nat) : Int) = d by omega] at this
    exact this
  have e1 : jdT T v (S.2 d).2.2.1 (S.2 d).2.1 (jwPo T v) = p := by
    rw [e, hp]
    show jdT T v (jdKp (t.ln x).toInt (jSo (t.tx x))) (t.ln x).toInt (jwPo T v) = _
    exact jdT.cg jdKp.v hl.1
  have hs := h.sn (d := d.toNat) (by omega) (by omega) hx
  have hll := h.ln (d := d.toNat) (by omega) hx
  have ht := h.tx (d := d.toNat) (by omega) hx
  rw [show ((d.toNat : Nat) : Int) = d by omega] at hs hll ht
  unfold jwGo
  rw [e1, if_pos ⟨hd0, hp0⟩, hs, hll, jwNd.cg hl.1 ht, ← hn]
theorem jwAsk.y {T : Nat → Int → Int} {v nd : Int} {I : jwI} (h : Z.1 d < nd) (hI : I = jwId T v (jdId T v)) : jwAsk T v d nd Z = (Z.1, Z.2.1, jwPu Z.2.2.1 (d, nd, I), Z.2.2.2) := by
  unfold jwAsk
  rw [if_pos h, hI]
theorem jwSt1.y {T : Nat → Int → Int} {v : Int} (h0 : 0 ≤ d) (h1 : jqK T v (jwNa T v) = 3) : jwSt1 T v S Z d = jwAsk T v d (jwS S d) Z := if_pos ⟨h0, h1⟩
/-- one that waits is cancelled: the first one with the id -/
theorem jwErP {p : jwQ → Bool} {f : jwA → jwQ} : ∀ (W : List jwA) (i : Nat) (a : jwA), W[i]? = some a → p (f a) = true → (∀ j b, j < i → W[j]? = some b → ¬ p (f b) = true) → (W.map f).eraseP p = (W.eraseIdx i).map f
  | [], i, a, h, _, _ => by cases h
  | b :: W, 0, a, h, hp, _ => by
    have h : some b = some a := h
    cases h
    show (f b :: W.map f).eraseP p = W.map f
    rw [List.eraseP_cons_of_pos hp]
  | b :: W, i + 1, a, h, hp, hn => by
    have h : W[i]? = some a := h
    have hb : ¬ p (f b) = true := hn 0 b (by omega) rfl
    show (f b :: W.map f).eraseP p = f b :: (W.eraseIdx i).map f
    rw [List.eraseP_cons_of_neg hb, jwErP W i a h hp (fun j c hj hc => hn (j + 1) c (by omega) hc)]
theorem jrW.era {Q : List jwQ} {i : Nat} (h : jrW fd dc W Q) : jrW fd dc (W.eraseIdx i) ((W.eraseIdx i).map (jrNm fd)) := ⟨fun a ha => h.1 a (List.mem_of_mem_eraseIdx ha), rfl⟩
theorem jwCa.y {T : Nat → Int → Int} {v i : Int} (h : jrZ t q fd dc co cs cl W ol nw td S Z) (hk : jqK T v (jwPi T v) = 4 ∨ (jqK T v (jwPi T v) = 3 ∧ T 3 (jwPi T v) ≤ 20)) (h0 : 0 ≤ i) (hy : jwIq W i T v (jwPi T v)) (hn : ∀ j : Int, 0 ≤ j → j < i → ¬ jwIq W j T v (jwPi T v)) : jrZ t q fd dc co cs cl (W.eraseIdx i.toNat) ol nw td S (jwCa T v Z) ∧ (jwCa T v Z).2.2.2 = Z.2.2.2 := by
  obtain ⟨a, ha, e⟩ := hy
  have hq := h.2.2.2.2.2.2.2
  have key : Z.2.2.1.eraseP (fun z => decide (z.2.2 = jwId T v (jwPi T v))) = (W.eraseIdx i.toNat).map (jrNm fd) := by
    rw [hq.2]
    refine jwErP W i.toNat a ha (decide_eq_true e) (fun j b hj hb w => ?_)
    exact hn (j : Int) (by omega) (by omega) ⟨b, by rw [show ((j : Int)).toNat = j by omega]; exact hb, of_decide_eq_true w⟩
  have ec : jwCa T v Z = (Z.1, Z.2.1, (W.eraseIdx i.toNat).map (jrNm fd), Z.2.2.2) := by
    unfold jwCa
    rw [if_pos hk, key]
  rw [ec]
  exact ⟨⟨h.1, h.2.1, h.2.2.1, h.2.2.2.1, h.2.2.2.2.1, h.2.2.2.2.2.1, h.2.2.2.2.2.2.1, hq.era⟩, rfl⟩
end J92
end
section
-- p8: a message, a byte, a batch (the reference)
section J93
variable {T : Nat → Int → Int} {v p m : Int} {S : Int × (Int → jdD)} {Z : jwSt}
theorem jwRq.s (hm : m = jdMe T v) (hp : p = 1) (h : jqI T v (jChT jdIn) 10 m ≠ 1) (h1 : jqI T v (jChT "shutdown") 8 m ≠ 1) (h2 : jqI T v (jChT "proof/goals") 11 m ≠ 1) (h3 : jqI T v (jChT "proof/statement") 15 m = 1) : jwRq T v p S Z = jwSt1 T v S Z (jdWh T v S.1 S.2) := by
  subst hm; unfold jwRq
  rw [if_pos ⟨hp, h, h1⟩, if_neg h2, if_pos h3]
theorem jwNz.y (hm : m = jdMe T v) (h : jqI T v (jChT "exit") 4 m = 1) : jwNz T v p S Z = Z := by subst hm; exact if_pos h
end J93
section J94
variable {X : Nat → Int} {s : jdSt} {c r bk pk m h l b cn cv qm qh ql qb qn qv e p z z1 n : Int} {fn fv gn gv fk gk : Nat → Int32} {S S1 : Int × (Int → jdD)} {D : Int → Int} {Z : jwSt}
end J94
theorem jwFd.s {b : Int → Int} {s : jdSt} {Z : jwSt} {k k1 : Nat} {v c : Int} (hk : k1 = k + 1) (hv : (k : Int) = v) (hc : c = b v) : jwFd b s Z k1 = jwByte (jdFd b s k) (jwFd b s Z k) c := by
  subst hk hv hc
  rfl
end
section
-- p8: the class: units of sentences that are kept (kind 175), and the States: the row of sentences that each one stands behind
section J95
variable {dC : Nat → ClassId} {dI : Nat → Nat → Nat} {ca : Nat → ClassId} {G G1 : jT} {H : Heap} {us rw : Nat → List Int} {a : Nat}
end J95
theorem jnE.cut {x y u v : List Int} (hx : jnE x) (hy : jnE y) (hu : ∀ c ∈ u, c ≠ (-1 : Int)) (hv : ∀ c ∈ v, c ≠ (-1 : Int)) (h : x ++ (u ++ [-1]) = y ++ (v ++ [-1])) : x = y ∧ u = v := by
  rw [← List.append_assoc, ← List.append_assoc] at h
  have h1 : x ++ u = y ++ v := List.append_cancel_right h
  rcases List.append_eq_append_iff.mp h1 with ⟨w, e1, e2⟩ | ⟨w, e1, e2⟩
  · rcases List.eq_nil_or_concat w with e | ⟨w1, c, e⟩
    · rw [e, List.append_nil] at e1
      rw [e, List.nil_append] at e2
      exact ⟨e1.symm, e2⟩
    · exfalso
      rcases hy with z | ⟨p, z⟩
      · rw [z, e] at e1
        have := congrArg List.length e1
        simp at this
      · rw [z, e, List.concat_eq_append, ← List.append_assoc] at e1
        have q := List.append_inj_right' e1 rfl
        have q1 : (-1 : Int) = c := (List.cons.inj q).1
        exact hu c (by rw [e2, e]; simp) q1.symm
  · rcases List.eq_nil_or_concat w with e | ⟨w1, c, e⟩
    · rw [e, List.append_nil] at e1
      rw [e, List.nil_append] at e2
      exact ⟨e1, e2.symm⟩
    · exfalso
      rcases hx with z | ⟨p, z⟩
      · rw [z, e] at e1
        have := congrArg List.length e1
        simp at this
      · rw [z, e, List.concat_eq_append, ← List.append_assoc] at e1
        have q := List.append_inj_right' e1 rfl
        have q1 : (-1 : Int) = c := (List.cons.inj q).1
        exact hv c (by rw [e2, e]; simp) q1.symm
section J96
variable {G : jT} {rw : Nat → List Int} {a b : Nat} {av bv : Value} {l m : List Int}
/-- one step of the comparison: other units, the same units -/
theorem jnQ.ne (h1 : jnQ G rw a av l) (h2 : jnQ G rw b bv m) (e : l ≠ m) : rw a ≠ rw b := fun q => by
  obtain ⟨u1, -, c1⟩ := h1
  obtain ⟨u2, -, c2⟩ := h2
  rcases c1 with ⟨-, z1, r1⟩ | ⟨x, -, gx, z1, r1, ex⟩
  · rcases c2 with ⟨-, z2, r2⟩ | ⟨y, -, gy, z2, r2, ey⟩
    · exact e (z1.trans z2.symm)
    · rw [r1, r2] at q
      have := congrArg List.length q
      simp at this
  · rcases c2 with ⟨-, z2, r2⟩ | ⟨y, -, gy, z2, r2, ey⟩
    · rw [r1, r2] at q
      have := congrArg List.length q
      simp at this
    · rw [r1, r2] at q
      exact e (jnE.cut ex ey u1 u2 q).2
end J96
end
section
-- p8: two States are compared: unit by unit, State by State
theorem jnU.ne {f g : Nat → Int32} {k m : Nat} {i : Int} (h0 : 0 ≤ i) (h1 : i < k) (hm : (k : Int) = m) (h : jSo f i ≠ jSo g i) : jcL f k 0 ≠ jcL g m 0 := fun e => by
  have hm : k = m := by omega
  subst hm
  exact h (jnL (i := i.toNat) e (by omega))
section J9A
variable {G : jT} {rw : Nat → List Int} {a b x y x1 y1 : Nat} {o p : Option Nat} {i i1 : Int} {av bv : Value} {l m : List Int}
end J9A
end
section
-- p8: the class: units of a sentence, compared; States behind sentences
theorem jnS.ne {f g : Nat → Int32} {n b i : Int} {k z : Nat} (h0 : 0 ≤ i) (h1 : i < z) (hb : b = jcB g n k) (hl : jcE g n k - jcB g n k = z) (hne : jSo f i ≠ jSo g (b + i)) : jcL f z 0 ≠ jcU g n k := fun e => by
  unfold jcU at e
  rw [show (jcE g n k - jcB g n k).toNat = z by omega, ← hb] at e
  have e1 := congrArg (fun l => l[i.toNat]?) e
  have e2 : some (jSo f (0 + (i.toNat : Nat))) = some (jSo g (b + (i.toNat : Nat))) := by
    rw [← jcL.at z 0 i.toNat (by omega), ← jcL.at z b i.toNat (by omega)]; exact e1
  have e3 := Option.some.inj e2
  rw [show (0 : Int) + (i.toNat : Nat) = i by omega, show ((i.toNat : Nat) : Int) = i by omega] at e3
  exact hne e3
theorem jzB.s {bh : Nat → Option Nat} {k : Int} {s : Nat} (h : k < 1 ∨ 40 < k) : jzB bh k s = s := if_pos h
theorem jzB.a {bh : Nat → Option Nat} {k : Int} {s x : Nat} (h1 : 1 ≤ k) (h2 : k ≤ 40) (h : some x = bh (k - 1).toNat) : jzB bh k s = x := by
  unfold jzB; rw [if_neg (by omega), ← h]; rfl
theorem jwNd.s {f : Nat → Int32} {n s p k k1 : Int} {x x1 : Nat} (hx : x = x1 + 1) (h : k < s ∧ jcE f n k.toNat ≤ p) (hk : k1 = k + 1) : jwNd f n s p x1 k1 = jwNd f n s p x k := by
  subst hx hk
  show _ = if k < s ∧ jcE f n k.toNat ≤ p then jwNd f n s p x1 (k + 1) else k
  rw [if_pos h]
end
section
-- p8: the class's documents, hands, lists, States as the machine
section J9C
variable {G : jT} {s0 : Nat} {t : jDtl} {q : jKg} {w : jWl9} {ho : Nat → Option Nat} {us rw : Nat → List Int} {qq : jRqG} {ib : Nat → List Int} {S : Int × (Int → jdD)} {Z : jwSt}
theorem jcZ.wk {d a i : Nat} (h : jcZ G s0 t q w ho us rw qq ib S Z) (hi : i < 2) (hd : (d : Int) < w.1) (ha : w.2.1 d = some a) : ((Z.2.1 i).1 = (d : Int) ↔ ho i = some a) := by
  rcases h.2.2.2.1 i hi with ⟨e1, e2⟩ | ⟨d1, a1, y, g1, g3, g4, g6, -⟩
  · rw [e1, e2]
    exact ⟨fun e => (by have e : (-1 : Int) = d := e; omega), fun e => (by cases e)⟩
  · rw [g6, g4]
    refine ⟨fun e => ?_, fun e => ?_⟩
    · have e : ((d1 : Int)) = d := e
      have e : d1 = d := by omega
      subst e
      exact g3.symm.trans ha
    · show ((d1 : Int)) = d
      have := h.inj g1 hd (g3.trans (e.trans ha.symm))
      omega
end J9C
/-- the loop over the open documents: o is the first one so far -/
def jzN (S : Int × (Int → jdD)) (Z : jwSt) (w : jWl9) (o : Option Nat) (v : Int) : Prop := ∃ y : Int, -1 ≤ y ∧ y < v ∧ va_rf o = jdRf w y ∧ jwN S Z (w.1 - v).toNat v y = jwNx S Z
section J9D
variable {G : jT} {s0 : Nat} {t : jDtl} {q : jKg} {w : jWl9} {ho : Nat → Option Nat} {us rw : Nat → List Int} {qq : jRqG} {ib : Nat → List Int} {S : Int × (Int → jdD)} {Z : jwSt} {o : Option Nat} {v v1 : Int} {a : Nat}
theorem jzN.en (hN : jzN S Z w o v) (hv : w.1 ≤ v) : va_rf o = jdRf w (jwNx S Z) := by
  obtain ⟨y, y0, y1, y2, y3⟩ := hN
  rw [show (w.1 - v).toNat = 0 by omega] at y3
  rw [← y3]
  exact y2
end J9D
/-- the document's check is no more -/
def jzRe (q g : jKg) (a : Nat) : Prop := g = q.put a (q.sn a) (q.ck a) 0 .null .null (q.sb a) (q.se a) (q.sc a) (q.bh a)
section J9E
variable {ho h h1 : Nat → Option Nat} {a : Nat} {v v1 : Int} {o : Option Nat}
theorem jzRh.y (hR : jzRh ho h a v) (h0 : 0 ≤ v) (h2 : v < 2) (e : v1 = v + 1) (hq : o = h v.toNat) (ho1 : o = some a) (hs : h1 v.toNat = none) (hk : ∀ j, j < 2 → j ≠ v.toNat → h1 j = h j) : jzRh ho h1 a v1 := fun i hi => by
  by_cases w : i = v.toNat
  · subst w
    have := hR v.toNat hi
    rw [if_neg (by omega)] at this
    rw [hs, if_pos (by omega), if_pos (this.symm.trans (hq.symm.trans ho1))]
  · rw [hk i hi w, hR i hi]
    by_cases c : (i : Int) < v
    · rw [if_pos c, if_pos (show (i : Int) < v1 by omega)]
    · rw [if_neg c, if_neg (show ¬ (i : Int) < v1 by omega)]
end J9E
end
section
-- p8: hands; the cache
section J9F
variable {G : jT} {s0 : Nat} {t : jDtl} {q : jKg} {w : jWl9} {ho : Nat → Option Nat} {us rw : Nat → List Int} {qq : jRqG} {ib : Nat → List Int} {S : Int × (Int → jdD)} {Z : jwSt}
end J9F
section J9G
variable {rw : Nat → List Int} {l : List Nat} {b x : Nat} {v : Int}
theorem jzKp.s (w : jWl9) (l l1 : List Nat) : (w.s3 l).s3 l1 = w.s3 l1 := rfl
theorem jzKp.er : ∀ (l : List Nat) (k x : Nat), (∀ (i y : Nat), i < k → l[i]? = some y → rw y ≠ rw b) → l[k]? = some x → rw x = rw b → (l.eraseIdx k).map rw = (l.map rw).erase (rw b)
  | [], k, x, _, hx, _ => by cases hx
  | y :: l, 0, x, _, hx, e => by
    have hx : some y = some x := hx
    cases hx
    show l.map rw = (rw y :: l.map rw).erase (rw b)
    rw [e, List.erase_cons_head]
  | y :: l, k + 1, x, h, hx, e => by
    show rw y :: (l.eraseIdx k).map rw = (rw y :: l.map rw).erase (rw b)
    rw [List.erase_cons_tail (by simpa using h 0 y (by omega) rfl), jzKp.er l k x (fun i z hi hz => h (i + 1) z (by omega) hz) hx e]
theorem jzKp.y (h : ∀ (i x : Nat), (i : Int) < v → l[i]? = some x → rw x ≠ rw b) (h0 : 0 ≤ v) (hx : l[v.toNat]? = some x) (e : rw x = rw b) : (l.eraseIdx v.toNat ++ [b]).map rw = jwKp (l.map rw) (rw b) := by
  have hm : rw b ∈ l.map rw := List.mem_map.mpr ⟨x, List.mem_of_getElem? hx, e⟩
  unfold jwKp
  rw [if_pos hm, List.map_append, jzKp.er l v.toNat x (fun i y hi hy => h i y (by omega) hy) hx e]
  rfl
end J9G
end
section
-- p8: a row that is cloned stays raw; copies
section JcK3
variable {p : Program} {l : Launch} {e : Env} {R : Room} {s : State} {m : MethodId} {args : Array Value} {below : List Frame} {meth : Method} {c : Code} {H : Heap} {locs : List Loc} {cells slots : Nat} {Q : State → Prop}
variable {cc : ByteArray} {pc : Nat} {ls : Array Slot} {rest : List Value} {dC : Nat → ClassId} {dI : Nat → Nat → Nat} {B : jF} {base : Nat} {G0 G : jT} {E : List (Nat × Nat)} {H0 : Heap} {zc zs : Nat} {L : List jPin} {M : List jCt} {I : List jIv} {a k n index : Nat} {tys : List (ClassId × FieldType)} {own : String}
end JcK3
theorem jnC.ct {x l : List Int} (h : ∀ c ∈ l, c ≠ (-1 : Int)) (hx : x.count (-1) < 40) : (x ++ (l ++ [-1])).count (-1) ≤ 40 := by
  have c0 : l.count (-1) = 0 := List.count_eq_zero.mpr (fun w => h _ w rfl)
  rw [List.count_append, List.count_append, c0]
  show _ + (0 + 1) ≤ 40
  omega
section JcK4
variable {p : Program} {l : Launch} {e : Env} {R : Room} {s : State} {m : MethodId} {args : Array Value} {below : List Frame} {meth : Method} {c : Code} {H : Heap} {locs : List Loc} {cells slots : Nat} {Q : State → Prop}
variable {cc : ByteArray} {pc : Nat} {ls : Array Slot} {rest : List Value} {dC : Nat → ClassId} {dI : Nat → Nat → Nat} {ca : Nat → ClassId} {B : jF} {base : Nat} {G0 G : jT} {E : List (Nat × Nat)} {H0 : Heap} {zc zs : Nat} {L : List jPin} {M : List jCt} {I : List jIv} {a a0 k k0 n n0 index : Nat} {tys : List (ClassId × FieldType)} {own C : String} {cA : ClassId}
end JcK4
end
section
-- p8: a check begins: the State ahead, the cache
section J9H
variable {G : jT} {rw us : Nat → List Int} {bh : Nat → Option Nat} {s0 x b y : Nat} {f : Nat → Int32} {n k v v1 : Int} {l : List Nat} {R : List Int} {wf av : Value} {u : List Int}
theorem jzH.bb (h : jzH G rw bh s0 f n k) (h0 : 0 ≤ k) (h4 : k ≤ 40) : rw (jzB bh k s0) = jcR f n k.toNat := by
  by_cases w : k < 1
  · rw [jzB.s (Or.inl w), h.2.1, show k.toNat = 0 by omega]; rfl
  · obtain ⟨x, h1, -, h2⟩ := h.2.2 (k - 1).toNat (by omega)
    rw [jzB.a (by omega) h4 h1.symm, h2, show (k - 1).toNat + 1 = k.toNat by omega]
theorem jcR.en : ∀ k : Nat, jnE (jcR f n k)
  | 0 => Or.inl rfl
  | k + 1 => Or.inr ⟨jcR f n k ++ jcU f n k, by show jcR f n k ++ (jcU f n k ++ [-1]) = _; rw [List.append_assoc]⟩
end J9H
end
section
-- p8: those that wait: who is ready, who asked about a document
def jzRd (q : jKg) (qq : jRqG) (x : Nat) : Bool := match qq.ab x with
  | .ref b => decide ((qq.nd x).toInt ≤ (q.ck b).toInt)
  | _ => true
theorem jzRd.n {q : jKg} {qq : jRqG} {x : Nat} (h : qq.ab x = .null) : jzRd q qq x = true := by unfold jzRd; rw [h]
def jzAb (qq : jRqG) (a x : Nat) : Bool := match qq.ab x with
  | .ref b => decide (b = a)
  | _ => false
theorem jzAb.y {qq : jRqG} {a x : Nat} (h : qq.ab x = .ref a) : jzAb qq a x = true := by unfold jzAb; rw [h]; exact decide_eq_true rfl
theorem jzAb.n {qq : jRqG} {a x : Nat} (h : qq.ab x ≠ .ref a) : jzAb qq a x = false := by
  unfold jzAb
  cases e : qq.ab x <;> simp
  intro c
  exact h (by rw [e, c])
end
section
-- p8: a hand takes a document, counts down, is done: on the class's side
theorem jzAg.tr {q q1 q2 : jKg} {b : Nat} (h : jzAg q q1 b) (h1 : jzAg q1 q2 b) : jzAg q q2 b := by
  obtain ⟨a1, a2, a3, a4, a5, a6, a7, a8, a9⟩ := h
  obtain ⟨b1, b2, b3, b4, b5, b6, b7, b8, b9⟩ := h1
  exact ⟨b1.trans a1, b2.trans a2, b3.trans a3, b4.trans a4, b5.trans a5, b6.trans a6, b7.trans a7, b8.trans a8, b9.trans a9⟩
section J9K
variable {G G1 : jT} {s0 a b d i : Nat} {t : jDtl} {q q1 q2 q3 : jKg} {w w1 : jWl9} {ho ho1 : Nat → Option Nat} {us us1 rw rw1 : Nat → List Int} {qq : jRqG} {ib : Nat → List Int} {S : Int × (Int → jdD)} {Z Z1 : jwSt} {k : Int}
theorem jzD.tr (h : jzD G t q rw b k) (hq : jzAg q q1 b) (hr : ∀ x, G x = some (11, 0) → rw1 x = rw x) (hle : jLe G G1) : jzD G1 t q1 rw1 b k := by
  obtain ⟨a1, a2, a3, a4, a5, a6, a7, a8, a9⟩ := hq
  obtain ⟨k1, k2, k3, k4, k5, k6, k7, k8, k9⟩ := h
  unfold jzD
  rw [a1, a2, a5, a6, a7, a8, a9]
  refine ⟨k1, k2, k3, k4, k5, k6, k7, fun i hi => ?_, k9⟩
  obtain ⟨x, e1, e2, e3⟩ := k8 i hi
  exact ⟨x, e1, hle _ _ e2, by rw [hr x e2]; exact e3⟩
theorem jzK.tr (h : jzK G t q us w ho Z i) (hq : ∀ b, ho i = some b → jzAg q q1 b) (hu : ∀ z m, G z = some (175, m) → us1 z = us z) (hh : ho1 i = ho i) (hZ : Z1.2.1 i = Z.2.1 i) (hk : ∀ d b : Nat, (d : Int) < w.1 → w.2.1 d = some b → ho i = some b → Z1.1 d = Z.1 d) (h1 : w1.1 = w.1) (h2 : w1.2.1 = w.2.1) (hle : jLe G G1) : jzK G1 t q1 us1 w1 ho1 Z1 i := by
  unfold jzK
  rw [hh, hZ, h1, h2]
  rcases h with e | ⟨d, b, y, g1, g2, g3, g4, g5, ⟨m, g6⟩, g7⟩
  · exact Or.inl e
  · obtain ⟨a1, a2, a3, a4, -⟩ := hq b g3
    refine Or.inr ⟨d, b, y, g1, g2, g3, ?_, ?_, ⟨m, hle _ _ g6⟩, ?_⟩
    · rw [a3]; exact g4
    · rw [a4]; exact g5
    · rw [hu y m g6, hk d b g1 g2 g3]; exact g7
end J9K
end
section
-- p8: a hand counts down; a check is done: on the class's side
theorem jzFil {α β : Type} {R R1 : α → β → Prop} {p : α → Bool} {p1 : β → Bool} (hp : ∀ x y, R x y → p x = p1 y) (hR : ∀ x y, R x y → R1 x y) : ∀ (l : List α) (m : List β), l.length = m.length → (∀ (j : Nat) (x : α) (y : β), l[j]? = some x → m[j]? = some y → R x y) → (l.filter p).length = (m.filter p1).length ∧ ∀ (j : Nat) (x : α) (y : β), (l.filter p)[j]? = some x → (m.filter p1)[j]? = some y → R1 x y
  | [], [], _, _ => ⟨rfl, fun j x y h => by cases h⟩
  | [], y :: m, e, _ => by cases e
  | x :: l, [], e, _ => by cases e
  | x :: l, y :: m, e, h => by
    have h0 : R x y := h 0 x y rfl rfl
    obtain ⟨i1, i2⟩ := jzFil (R := R) (R1 := R1) hp hR l m (Nat.succ.inj e) (fun j x1 y1 hx hy => h (j + 1) x1 y1 hx hy)
    by_cases c : p x = true
    · rw [List.filter_cons_of_pos c, List.filter_cons_of_pos (by rw [← hp x y h0]; exact c)]
      refine ⟨by rw [List.length_cons, List.length_cons, i1], fun j x1 y1 hx hy => ?_⟩
      cases j with
      | zero => cases hx; cases hy; exact hR _ _ h0
      | succ j => exact i2 j x1 y1 hx hy
    · rw [List.filter_cons_of_neg c, List.filter_cons_of_neg (by rw [← hp x y h0]; exact c)]
      exact ⟨i1, i2⟩
section J9L
variable {G G1 : jT} {s0 a b d i : Nat} {t : jDtl} {q q1 q2 q3 : jKg} {w w1 : jWl9} {ho ho1 : Nat → Option Nat} {us us1 rw rw1 : Nat → List Int} {qq : jRqG} {ib : Nat → List Int} {S : Int × (Int → jdD)} {Z Z1 : jwSt} {k : Int} {c : Int32} {x : Nat} {l4 : List Nat}
theorem jcR.ct {f : Nat → Int32} {n : Int} (h : ∀ j : Int, 0 ≤ j → j < n → 0 ≤ jSo f j) (hn : 0 ≤ n) : ∀ k : Nat, (∀ i : Nat, i < k → jcB f n i < n) → (jcR f n k).count (-1) = k
  | 0, _ => rfl
  | k + 1, hb => by
    have c0 : (jcU f n k).count (-1) = 0 := List.count_eq_zero.mpr (fun c => jcU.nn h hn (hb k (by omega)) _ c rfl)
    show (jcR f n k ++ (jcU f n k ++ [-1])).count (-1) = k + 1
    rw [List.count_append, List.count_append, c0, jcR.ct h hn k (fun i hi => hb i (by omega))]
    rfl
theorem jcU.ne {f : Nat → Int32} {n : Int} {k : Nat} (hb : jcB f n k < n) : jcU f n k ≠ [] := fun e => by
  have := congrArg List.length e
  unfold jcU at this
  rw [jcL.len] at this
  have h1 := jcE.rg hb
  have : (jcE f n k - jcB f n k).toNat = 0 := this
  omega
end J9L
end
section
-- p8: a hand advances: on the class's side
section J9M
variable {G G1 : jT} {s0 a b d i : Nat} {t : jDtl} {q q1 q2 q3 : jKg} {w w1 : jWl9} {ho ho1 : Nat → Option Nat} {us us1 rw rw1 : Nat → List Int} {qq : jRqG} {ib : Nat → List Int} {S : Int × (Int → jdD)} {Z Z1 : jwSt} {k v : Int} {c : Int32} {x : Nat} {l4 : List Nat}
/-- what check asks -/
theorem jcY.ck {y : Nat} (h : jcY G s0 t q w ho us rw qq ib S Z a d i) (hi : i < 2) (hok : jwOk S Z) (hcv : q.cv a = .ref y) (hx : Value.ref x = .ref (jzB (q.bh a) (q.ck a).toInt s0)) : (∀ c ∈ us y, c ≠ (-1 : Int)) ∧ us y ≠ [] ∧ (rw x).count (-1) < 40 ∧ jcR (t.tx a) (t.ln a).toInt (Z.1 d + 1).toNat = rw x ++ (us y ++ [-1]) ∧ jnE (rw x) := by
  obtain ⟨hlt, -⟩ := h.lt hi hok
  obtain ⟨y0, m0, z1, z2, z3, z4, z5, z6, z7, z8, z9, z10, z11⟩ := h.at hi
  rw [hcv] at z2
  cases z2
  cases hx
  have hU := h.1.2.2.2.2.2.2.2.2.2.2.2.2 d a h.2.2.1 h.2.2.2.1
  obtain ⟨l1, l2⟩ := h.1.l0 a
  have hb : ∀ i : Nat, (i : Int) < (q.sn a).toInt → jcB (t.tx a) (t.ln a).toInt i < (t.ln a).toInt := fun i hi => (z10 i hi).2.2
  have hr : rw (jzB (q.bh a) (q.ck a).toInt s0) = jcR (t.tx a) (t.ln a).toInt (Z.1 d).toNat := by
    rw [z5]
    exact z11.bb z7 (by omega)
  have hbk := hb (Z.1 d).toNat (by omega)
  rw [z4, hr]
  refine ⟨jcU.nn hU l1 hbk, jcU.ne hbk, ?_, jcR.pos z7, jcR.en _⟩
  rw [jcR.ct hU l1 _ (fun i hi => hb i (by omega))]
  omega
end J9M
end
section
-- p8: a document is closed: on the class's side
section J9P
variable {G : jT} {s0 a d : Nat} {t : jDtl} {q q1 : jKg} {w w1 : jWl9} {ho ho1 : Nat → Option Nat} {us rw : Nat → List Int} {qq : jRqG} {ib : Nat → List Int} {S S1 : Int × (Int → jdD)} {Z : jwSt}
theorem jzMap {α β : Type} {f : α → β} {l : List α} {j : Nat} {y : β} (h : (l.map f)[j]? = some y) : ∃ x, l[j]? = some x ∧ f x = y := by
  rw [List.getElem?_map] at h
  cases e : l[j]? with
  | none => rw [e] at h; cases h
  | some x => rw [e] at h; exact ⟨x, rfl, Option.some.inj h⟩
/-- a place after the close comes from one ahead of it -/
theorem jzBk {e b : Nat} (h1 : w1.1 = w.1 - 1) (h2 : ∀ i : Nat, (i : Int) < w1.1 → w1.2.1 i = if i < d then w.2.1 i else w.2.1 (i + 1)) (he : (e : Int) < w1.1) (hb : w1.2.1 e = some b) : ∃ e0 : Nat, (e0 : Int) < w.1 ∧ w.2.1 e0 = some b ∧ e0 ≠ d ∧ ((e0 < d ∧ e = e0) ∨ (d < e0 ∧ e0 = e + 1)) := by
  rw [h2 e he] at hb
  by_cases c : e < d
  · rw [if_pos c] at hb
    exact ⟨e, by omega, hb, by omega, Or.inl ⟨c, rfl⟩⟩
  · rw [if_neg c] at hb
    exact ⟨e + 1, by omega, hb, by omega, Or.inr ⟨by omega, rfl⟩⟩
/-- and forth -/
theorem jzFo {e b : Nat} (h1 : w1.1 = w.1 - 1) (h2 : ∀ i : Nat, (i : Int) < w1.1 → w1.2.1 i = if i < d then w.2.1 i else w.2.1 (i + 1)) (hd : (d : Int) < w.1) (he : (e : Int) < w.1) (hb : w.2.1 e = some b) (hne : e ≠ d) : ∃ e1 : Nat, (e1 : Int) < w1.1 ∧ w1.2.1 e1 = some b ∧ (e1 : Int) = jwDn d e ∧ (jwCl1 Z d).1 e1 = Z.1 e := by
  by_cases c : e < d
  · refine ⟨e, by omega, ?_, ?_, ?_⟩
    · rw [h2 e (by omega), if_pos c]; exact hb
    · unfold jwDn; rw [if_neg (by omega)]
    · show (if ((e : Nat) : Int) < d then _ else _) = _
      rw [if_pos (by omega)]
  · refine ⟨e - 1, by omega, ?_, ?_, ?_⟩
    · rw [h2 (e - 1) (by omega), if_neg (by omega), show e - 1 + 1 = e by omega]; exact hb
    · unfold jwDn; rw [if_pos (by omega)]; omega
    · show (if (((e - 1 : Nat)) : Int) < d then _ else Z.1 (((e - 1 : Nat) : Int) + 1)) = _
      rw [if_neg (by omega), show (((e - 1 : Nat)) : Int) + 1 = e by omega]
theorem jcZ.cls (h : jcZ G s0 t q w ho us rw qq ib S Z) (hd : (d : Int) < w.1) (ha : w.2.1 d = some a) (hR : jzRe q q1 a) (hh : ∀ j, j < 2 → ho1 j = if ho j = some a then none else ho j) (h1 : w1.1 = w.1 - 1) (h2 : ∀ i : Nat, (i : Int) < w1.1 → w1.2.1 i = if i < d then w.2.1 i else w.2.1 (i + 1)) (h3 : w1.2.2.1 = w.2.2.1.filter (fun x => !jzAb qq a x)) (h4 : w1.2.2.2 = w.2.2.2) (hI : jdIv t w1) (hS : jdCs t w1 = S1) : jcZ G s0 t q1 w1 ho1 us rw qq ib S1 (jwCl1 Z d) := by
  have hne : ∀ {e b : Nat}, (e : Int) < w.1 → w.2.1 e = some b → e ≠ d → b ≠ a := fun he hb hn c => hn (h.inj he hd (by rw [hb, c, ha]))
  have hag : ∀ b, b ≠ a → jzAg q q1 b := fun b hb => by
    have hR' : q1 = q.put a (q.sn a) (q.ck a) 0 .null .null (q.sb a) (q.se a) (q.sc a) (q.bh a) := hR
    rw [hR']
    exact jzAg.put hb
  refine ⟨hI, hS, fun e b he hb => ?_, fun j hj => ?_, fun e b he hb e0 e1 => ?_, fun e => ?_, ?_, ?_, ?_, h.2.2.2.2.2.2.2.2.2.1, h.2.2.2.2.2.2.2.2.2.2.1, ?_, fun e b he hb => ?_⟩
  · obtain ⟨e0, g1, g2, g3, g4⟩ := jzBk h1 h2 he hb
    have hz : (jwCl1 Z d).1 e = Z.1 e0 := by
      show (if ((e : Nat) : Int) < d then Z.1 e else Z.1 ((e : Int) + 1)) = _
      rcases g4 with ⟨c1, c2⟩ | ⟨c1, c2⟩
      · rw [if_pos (by omega), c2]
      · rw [if_neg (by omega), c2]; rfl
    rw [hz]
    exact (h.2.2.1 e0 b g1 g2).tr (hag b (hne g1 g2 g3)) (fun _ _ => rfl) jLe.rf
  · have hZ : (jwCl1 Z d).2.1 j = if (Z.2.1 j).1 = d then (-1, 0) else (jwDn d (Z.2.1 j).1, (Z.2.1 j).2) := rfl
    have hw := h.wk hj hd ha
    by_cases c : ho j = some a
    · refine Or.inl ⟨by rw [hh j hj, if_pos c], ?_⟩
      rw [hZ, if_pos (hw.mpr c)]
    · have c1 : ¬ (Z.2.1 j).1 = d := fun q9 => c (hw.mp q9)
      rcases h.2.2.2.1 j hj with ⟨e1, e2⟩ | ⟨e0, b, y, g1, g2, g3, g4, g5, g6, g7⟩
      · refine Or.inl ⟨by rw [hh j hj, if_neg c]; exact e1, ?_⟩
        rw [hZ, if_neg c1, e2]
        show (jwDn d (-1), (0 : Int)) = _
        unfold jwDn
        rw [if_neg (by omega)]
      · have hb : b ≠ a := fun q9 => c (by rw [g3, q9])
        have hn : e0 ≠ d := fun q9 => hb (Option.some.inj (by rw [← g2, q9, ha]))
        obtain ⟨f1, f2, f3, f4, f5⟩ := jzFo (Z := Z) h1 h2 hd g1 g2 hn
        obtain ⟨a1, a2, a3, a4, -⟩ := hag b hb
        refine Or.inr ⟨f1, b, y, f2, f3, by rw [hh j hj, if_neg c]; exact g3, ?_, by rw [a4]; exact g5, g6, by rw [f5]; exact g7⟩
        rw [hZ, if_neg c1, g4, f4, a3]
  · obtain ⟨e0', g1, g2, g3, -⟩ := jzBk h1 h2 he hb
    have hb1 := hne g1 g2 g3
    rw [(hag b hb1).2.2.2.1]
    refine h.2.2.2.2.1 e0' b g1 g2 (fun c => e0 ?_) (fun c => e1 ?_)
    · rw [hh 0 (by omega), c, if_neg (fun c4 => hb1 (Option.some.inj c4))]
    · rw [hh 1 (by omega), c, if_neg (fun c4 => hb1 (Option.some.inj c4))]
  · rw [hh 0 (by omega), hh 1 (by omega)] at e
    rw [hh 0 (by omega)]
    by_cases c : ho 0 = some a
    · rw [if_pos c]
    · rw [if_neg c] at e ⊢
      by_cases c1 : ho 1 = some a
      · rw [if_pos c1] at e; exact e
      · rw [if_neg c1] at e; exact h.2.2.2.2.2.1 e
  · have hW := h.2.2.2.2.2.2.1
    have hp : ∀ (x : Nat) (p : jwQ), jzR w qq ib x p → (!jzAb qq a x) = !decide (p.1 = (d : Int)) := fun x p hxp => by
      obtain ⟨e, b, i, r1, r2, r3, r4, -⟩ := hxp
      by_cases c : b = a
      · have : e = d := h.inj r1 hd (by rw [r2, c, ha])
        rw [jzAb.y (by rw [r3, c]), decide_eq_true (by rw [r4, this])]
      · rw [jzAb.n (fun q9 => c (Value.ref.inj (r3.symm.trans q9))), decide_eq_false (fun q9 => c (Option.some.inj (by rw [← r2, ← ha, show e = d by omega])))]
    obtain ⟨f1, f2⟩ := jzFil (R := jzR w qq ib) (R1 := jzR w qq ib) (p := fun x => !jzAb qq a x) (p1 := fun p : jwQ => !decide (p.1 = (d : Int))) hp (fun _ _ q9 => q9) w.2.2.1 Z.2.2.1 hW.1 hW.2
    refine ⟨?_, fun j x p hx hp1 => ?_⟩
    · rw [h3]
      show _ = ((Z.2.2.1.filter (fun q => !decide (q.1 = (d : Int)))).map (fun q => (jwDn d q.1, q.2))).length
      rw [List.length_map]
      exact f1
    · rw [h3] at hx
      obtain ⟨p0, g1, g2⟩ := jzMap (l := Z.2.2.1.filter (fun q => !decide (q.1 = (d : Int)))) (f := fun q : jwQ => (jwDn d q.1, q.2)) hp1
      obtain ⟨e, b, i, r1, r2, r3, r4, r5, r6⟩ := f2 j x p0 hx g1
      have hm := (List.mem_filter.mp (List.mem_of_getElem? g1)).2
      have hn : e ≠ d := fun q9 => by
        rw [decide_eq_true (by rw [r4, q9])] at hm
        cases hm
      obtain ⟨e1, k1, k2, k3, -⟩ := jzFo (Z := Z) h1 h2 hd r1 r2 hn
      rw [← g2]
      exact ⟨e1, b, i, k1, k2, r3, by show jwDn d p0.1 = _; rw [r4, k3], r5, r6⟩
  · rw [h4]; exact h.2.2.2.2.2.2.2.1
  · have := h.2.2.2.2.2.2.2.2.1; omega
  · rw [h4]; exact h.2.2.2.2.2.2.2.2.2.2.2.1
  · obtain ⟨e0, g1, g2, g3, -⟩ := jzBk h1 h2 he hb
    exact h.2.2.2.2.2.2.2.2.2.2.2.2 e0 b g1 g2
end J9P
section J9Q
variable {G : jT} {s0 a d : Nat} {t : jDtl} {q q1 : jKg} {w w1 w2 : jWl9} {ho ho1 : Nat → Option Nat} {us rw : Nat → List Int} {qq : jRqG} {ib : Nat → List Int} {S S1 : Int × (Int → jdD)} {Z : jwSt} {T : Nat → Int → Int} {v n : Int}
end J9Q
end
