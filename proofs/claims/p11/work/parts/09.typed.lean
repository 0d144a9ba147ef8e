-- the typed heap: a root has a kind below 1000; the cells that belong to a root are marked (1000 + place, root); B says what a root of a kind and its cells hold
abbrev jF : Type := Nat → Nat → jT → Nat → Heap → Prop
def jSup (G : jT) (a q : Nat) : Prop := q = a ∨ ∃ i, G q = some (1000 + i, a)
theorem jSup.own {G : jT} {a q i : Nat} (h : G q = some (1000 + i, a)) : jSup G a q := Or.inr ⟨i, h⟩
theorem jSup.root {G : jT} {a : Nat} : jSup G a a := Or.inl rfl
theorem jne {G : jT} {a b : Nat} {t u : Nat × Nat} (h1 : G a = some t) (h2 : G b = some u) (h : t.1 ≠ u.1) : a ≠ b := by
  intro e
  rw [e, h2] at h1
  exact h (by rw [Option.some.inj h1])
def jBok (B : jF) : Prop := (∀ k n G a H H1, (∀ q, jSup G a q → H1[q]? = H[q]?) → B k n G a H → B k n G a H1) ∧ (∀ k n G G1 a H, jLe G G1 → B k n G a H → B k n G1 a H)
def jX (B : jF) (base : Nat) (G : jT) (X : List Nat) (H : Heap) : Prop := (∀ a k n, G a = some (k, n) → k < 1000 → a ∉ X → B k n G a H) ∧ ∀ a t, G a = some t → base ≤ a ∧ a < H.size
theorem jX.opn {B : jF} {base : Nat} {G : jT} {X : List Nat} {H : Heap} (h : jX B base G X H) (r : Nat) : jX B base G (r :: X) H :=
  ⟨fun a k n h1 h2 h3 => h.1 a k n h1 h2 (fun q => h3 (List.mem_cons_of_mem _ q)), h.2⟩
theorem jX.cls {B : jF} {base : Nat} {G : jT} {X : List Nat} {H : Heap} {r k n : Nat} (h : jX B base G (r :: X) H) (hG : G r = some (k, n)) (hb : B k n G r H) : jX B base G X H := by
  refine ⟨fun a k1 n1 h1 h2 h3 => ?_, h.2⟩
  by_cases e : a = r
  · subst e
    cases hG.symm.trans h1
    exact hb
  · exact h.1 a k1 n1 h1 h2 (fun q => (List.mem_cons.mp q).elim e h3)
theorem jSup.only {G : jT} {a r q k n k1 n1 : Nat} (h1 : G a = some (k1, n1)) (h2 : k1 < 1000) (hG : G r = some (k, n)) (hk : k < 1000) (hq : jSup G r q) (hp : jSup G a q) : a = r := by
  rcases hq with e | ⟨i, e⟩ <;> rcases hp with e2 | ⟨i2, e2⟩
  · rw [← e, ← e2]
  · rw [e, hG] at e2; cases e2; omega
  · rw [e2, h1] at e; cases e; omega
  · rw [e] at e2
    have h5 := Option.some.inj e2
    exact (Prod.mk.inj h5).2.symm
theorem jX.put {B : jF} {base : Nat} {G : jT} {X : List Nat} {H H1 : Heap} {q r k n : Nat} (h : jX B base G X H) (hB : jBok B) (hG : G r = some (k, n)) (hk : k < 1000) (hq : jSup G r q) (hr : r ∈ X) (hsz : H1.size = H.size) (hfr : ∀ p, p ≠ q → H1[p]? = H[p]?) : jX B base G X H1 := by
  refine ⟨fun a k1 n1 h1 h2 h3 => hB.1 k1 n1 G a H H1 (fun p hp => hfr p ?_) (h.1 a k1 n1 h1 h2 h3), fun a t ht => by rw [hsz]; exact h.2 a t ht⟩
  intro e
  subst e
  have := jSup.only h1 h2 hG hk hq hp
  rw [this] at h3
  exact h3 hr
theorem jX.fresh {B : jF} {base : Nat} {G : jT} {X : List Nat} {H : Heap} (h : jX B base G X H) : G H.size = none := by
  cases e : G H.size with
  | none => rfl
  | some t => exact absurd (h.2 _ _ e).2 (Nat.lt_irrefl _)
theorem jLe.new {G : jT} {q : Nat} {t : Nat × Nat} (h : G q = none) : jLe G (va_up G q (some t)) := by
  intro a u hu
  by_cases e : a = q
  · subst e; rw [h] at hu; cases hu
  · rw [va_up_ne _ _ e]; exact hu
/-- a new cell: a root that is still open, or a cell of a root -/
theorem jX.grow {B : jF} {base : Nat} {G : jT} {X : List Nat} {H H1 : Heap} (h : jX B base G X H) (hB : jBok B) (t : Nat × Nat) (hb : base ≤ H.size) (hsz : H1.size = H.size + 1) (hfr : ∀ p, p < H.size → H1[p]? = H[p]?) : jX B base (va_up G H.size (some t)) (H.size :: X) H1 := by
  have hn := h.fresh
  refine ⟨fun a k1 n1 h1 h2 h3 => ?_, fun a u hu => ?_⟩
  · have ha : a ≠ H.size := fun e => h3 (by rw [e]; exact List.mem_cons_self)
    rw [va_up_ne _ _ ha] at h1
    have h3' : a ∉ X := fun q => h3 (List.mem_cons_of_mem _ q)
    refine hB.2 k1 n1 G _ a H1 (jLe.new hn) (hB.1 k1 n1 G a H H1 (fun p hp => hfr p ?_) (h.1 a k1 n1 h1 h2 h3'))
    rcases hp with e | ⟨i, e⟩
    · rw [e]; exact (h.2 _ _ h1).2
    · exact (h.2 _ _ e).2
  · by_cases e : a = H.size
    · subst e; exact ⟨hb, by omega⟩
    · rw [va_up_ne _ _ e] at hu
      have := h.2 a u hu
      exact ⟨this.1, by omega⟩
theorem jX.drop {B : jF} {base : Nat} {G : jT} {X : List Nat} {H : Heap} {r i n : Nat} (h : jX B base G (r :: X) H) (hG : G r = some (1000 + i, n)) : jX B base G X H := by
  refine ⟨fun a k1 n1 h1 h2 h3 => h.1 a k1 n1 h1 h2 (fun q => (List.mem_cons.mp q).elim (fun e => ?_) h3), h.2⟩
  subst e
  rw [hG] at h1; cases h1; omega
theorem jUp_self {G : jT} {q : Nat} {t : Nat × Nat} : va_up G q (some t) q = some t := by simp [va_up]
def jFrm (G : jT) (X : List Nat) (H0 H1 : Heap) : Prop := ∀ r ∈ X, ∀ q, jSup G r q → H1[q]? = H0[q]?
/-- only the cells of the roots M have changed, of those that were there -/
def jMod (G : jT) (M : List Nat) (H0 H1 : Heap) : Prop := ∀ q, q < H0.size → (∀ r ∈ M, ¬ jSup G r q) → H1[q]? = H0[q]?
theorem W.tight {p : Program} {l : Launch} {e : Env} {R : Room} {s : State} {m : MethodId} {args : Array Value} {below : List Frame} {meth : Method} {c : Code} {H : Heap} {locs : List Loc} {cells slots c2 n2 : Nat} {Q : State → Prop} {g : JFrame} (hc : H.size ≤ s.heap.size + c2) (hn : jTot H ≤ jTot s.heap + n2) (k : W p l e R s m args below meth c H locs c2 n2 Q g) : W p l e R s m args below meth c H locs cells slots Q g := by
  intro T hT X
  refine k T hT ⟨X.admits, X.cas, X.clock, X.frames, X.room, X.hears, X.method, X.code, X.here, X.tail, X.warmed, X.limits, X.bytes, ?_⟩
  obtain ⟨a1, a2, a3, a4, a5, a6⟩ := X.same
  refine ⟨a1, a2, by show T.heap.size ≤ _; rw [hT]; exact hc, a4, ?_, a6⟩
  have e1 : (T.setVm s.vm).heap = H := hT
  rw [e1]
  have hsz : s.heap.size ≤ H.size := by rw [← e1]; exact a2
  have hkeep : (H.toList.take s.heap.size).map (·.slots.size) = s.heap.toList.map (·.slots.size) := by
    apply List.ext_getElem?
    intro i
    rw [List.getElem?_map, List.getElem?_map]
    by_cases hi : i < s.heap.size
    · rw [List.getElem?_take_of_lt hi]
      have hs : s.heap[i]? = some s.heap[i] := Array.getElem?_eq_getElem hi
      obtain ⟨c', h1, -, h3, -⟩ := a6 i _ hs
      rw [e1] at h1
      rw [Array.getElem?_toList, Array.getElem?_toList, h1, hs]
      simp [h3]
    · have h1 : (H.toList.take s.heap.size)[i]? = none := by
        apply List.getElem?_eq_none
        simp; omega
      have h2 : s.heap.toList[i]? = none := by
        apply List.getElem?_eq_none
        simp; omega
      rw [h1, h2]
  have hsum : jTot H = jTot s.heap + ((H.toList.drop s.heap.size).map (·.slots.size)).sum := by
    unfold jTot
    rw [← hkeep, ← List.sum_append, ← List.map_append, List.take_append_drop]
  omega
theorem Met.ghost {X : Type} {l : Launch} {y : MethodName} {ws : List Cond} {rm : Room} {Pc : Array Value → State → Prop} {Qc : Array Value → State → Outcome → State → Prop} {P1 : X → Array Value → State → Prop} {Q1 : X → Array Value → State → Outcome → State → Prop} {mc ms : Nat} {free : Addr → Prop} (hM : ∀ g : X, Met l y ws rm (P1 g) (Q1 g) mc ms free) (hp : ∀ a U, Pc a U → ∃ g, P1 g a U ∧ ∀ o t, Q1 g a U o t → Qc a U o t) : Met l y ws rm Pc Qc mc ms free := by
  intro p e h1 h2 h3 s m args below hf ha hP _
  obtain ⟨g, hg, hq⟩ := hp _ _ hP
  obtain ⟨n, o, a1, a2, a3, a4, a5⟩ := hM g p e h1 h2 h3 s m args below hf ha hg trivial
  exact ⟨n, o, a1, a2, a3, hq _ _ a4, a5⟩
theorem W.known {p : Program} {l : Launch} {e : Env} {R : Room} {s : State} {m : MethodId} {args : Array Value} {below : List Frame} {meth : Method} {c : Code} {H : Heap} {locs : List Loc} {cells slots : Nat} {Q : State → Prop} {g : JFrame} (k : H.size ≤ s.heap.size + cells → jTot H ≤ jTot s.heap + slots → W p l e R s m args below meth c H locs cells slots Q g) : W p l e R s m args below meth c H locs cells slots Q g := by
  intro T hT X
  refine k (by rw [← hT]; exact X.heapSize) ?_ T hT X
  obtain ⟨a1, a2, a3, a4, a5, a6⟩ := X.same
  have e1 : (T.setVm s.vm).heap = H := hT
  rw [e1] at a2 a5 a6
  have hkeep : (H.toList.take s.heap.size).map (·.slots.size) = s.heap.toList.map (·.slots.size) := by
    apply List.ext_getElem?
    intro i
    rw [List.getElem?_map, List.getElem?_map]
    by_cases hi : i < s.heap.size
    · rw [List.getElem?_take_of_lt hi]
      have hs : s.heap[i]? = some s.heap[i] := Array.getElem?_eq_getElem hi
      obtain ⟨c', h1, -, h3, -⟩ := a6 i _ hs
      rw [Array.getElem?_toList, Array.getElem?_toList, h1, hs]
      simp [h3]
    · have h1 : (H.toList.take s.heap.size)[i]? = none := by
        apply List.getElem?_eq_none
        simp; omega
      have h2 : s.heap.toList[i]? = none := by
        apply List.getElem?_eq_none
        simp; omega
      rw [h1, h2]
  have hsum : jTot H = jTot s.heap + ((H.toList.drop s.heap.size).map (·.slots.size)).sum := by
    unfold jTot
    rw [← hkeep, ← List.sum_append, ← List.map_append, List.take_append_drop]
  omega
theorem jb_cl {x : Int32} {a : Int} (hx : x.toInt = a) (h : 0 ≤ a) : x.toNatClampNeg = a.toNat := by
  show x.toInt.toNat = _
  rw [hx]
theorem jb_n0 {x : Int32} {a : Int} (hx : x.toInt = a) (h : 0 ≤ a) : ¬ x < 0 := by
  intro q
  have h1 := Int32.lt_iff_toInt_lt.mp q
  have h0 : (0 : Int32).toInt = 0 := by decide
  omega
theorem jb_min {x y z : Int32} (h : z = if y < x then y else x) : z.toInt ≤ x.toInt ∧ z.toInt ≤ y.toInt ∧ (z.toInt = x.toInt ∨ z.toInt = y.toInt) := by
  by_cases q : y < x
  · rw [if_pos q] at h
    have := jb_lt rfl rfl q
    rw [h]
    omega
  · rw [if_neg q] at h
    have := jb_lt_n rfl rfl q
    rw [h]
    omega
theorem jb_max {x y z : Int32} (h : z = if x < y then y else x) : x.toInt ≤ z.toInt ∧ y.toInt ≤ z.toInt ∧ (z.toInt = x.toInt ∨ z.toInt = y.toInt) := by
  by_cases q : x < y
  · rw [if_pos q] at h
    have := jb_lt rfl rfl q
    rw [h]
    omega
  · rw [if_neg q] at h
    have := jb_lt_n rfl rfl q
    rw [h]
    omega
