section
-- the refined heap: every field of a typed object holds a value of its own predicate, every element of a typed array too; what is known of a field just now is a pin (address, kind, field, value)
def jf (D : va_G) (k a i : Nat) (v : Value) (H : Heap) : Prop := ∃ r : vw_C, vwCl[k]? = some r ∧ i < r.2.2 ∧ ∃ cell : Cell, H[a]? = some cell ∧ cell.cls = D.1 k ∧ cell.vm = .none ∧ cell.slots[D.2 k i]? = some v
theorem jf.kept {D : va_G} {k a i : Nat} {v : Value} {H H1 : Heap} (h : jf D k a i v H) (h1 : H1[a]? = H[a]?) : jf D k a i v H1 := by
  obtain ⟨r, g1, g2, cell, g3, g4⟩ := h
  exact ⟨r, g1, g2, cell, by rw [h1]; exact g3, g4⟩
def jOb (D : va_G) (k N : Nat) (P : List (Value → Prop)) (a : Nat) (H : Heap) : Prop := ∃ V : Nat → Value, t_OB a (D.1 k) N (D.2 k) H V ∧ ∀ (i : Nat) (p : Value → Prop), P[i]? = some p → p (V i)
def jAp (D : va_G) : Prop := ∀ k r, vwCl[k]? = some r → ∀ i j, i < r.2.2 → j < r.2.2 → i ≠ j → D.2 k i ≠ D.2 k j
abbrev jPin : Type := Nat × Nat × Nat × Value
def jP (D : va_G) (G : jT) (H : Heap) (L : List jPin) : Prop := ∀ q ∈ L, (∃ n, G q.1 = some (q.2.1, n)) ∧ jf D q.2.1 q.1 q.2.2.1 q.2.2.2 H
def jKp (D : va_G) (G : jT) (E : List (Nat × Nat)) (H0 H : Heap) : Prop := (∀ a k n i v, G a = some (k, n) → E.contains (k, i) = false → jf D k a i v H0 → jf D k a i v H) ∧ ∀ a k n, G a = some (k, n) → 17 ≤ k → k < 1000 → E.contains (k, 0) = false → H[a]? = H0[a]?
theorem jKp.rf {D : va_G} {G : jT} {E : List (Nat × Nat)} {H : Heap} : jKp D G E H H := ⟨fun _ _ _ _ _ _ _ h => h, fun _ _ _ _ _ _ _ => rfl⟩
/-- what an array holds just now: address, kind, length, class, contents -/
abbrev jCt : Type := Nat × Nat × Nat × ClassId × (Nat → Int32)
def jMc (D : va_G) (G : jT) (H : Heap) (M : List jCt) : Prop := ∀ q ∈ M, G q.1 = some (q.2.1, q.2.2.1) ∧ 17 ≤ q.2.1 ∧ q.2.1 < 1000 ∧ va_at D vwCl (q.1, .inl (q.2.2.2.1, q.2.2.1, .inl q.2.2.2.2)) H
theorem jMc.nil {D : va_G} {G : jT} {H : Heap} : jMc D G H [] := fun _ h => by cases h
theorem jMc.sub {D : va_G} {G : jT} {H : Heap} {L L1 : List jCt} (h : jMc D G H L) (is : List Nat) (hs : is.map (fun i => L[i]?) = L1.map some) : jMc D G H L1 := by
  intro q hq
  have h1 : some q ∈ L1.map some := List.mem_map.mpr ⟨q, hq, rfl⟩
  rw [← hs] at h1
  obtain ⟨i, -, h2⟩ := List.mem_map.mp h1
  exact h q (List.mem_of_getElem? h2)
theorem jMc.over {D : va_G} {G G1 : jT} {E1 : List (Nat × Nat)} {H H1 : Heap} {L L1 : List jCt} (h : jMc D G H L) (hk : jKp D G E1 H H1) (hG : jLe G G1) (is : List Nat) (hs : is.map (fun i => L[i]?) = L1.map some) (hn : L1.all (fun q => !(E1.contains (q.2.1, 0))) = true) : jMc D G1 H1 L1 := by
  intro q hq
  obtain ⟨g1, g2, g3, g4⟩ := h.sub is hs q hq
  have h2 := List.all_eq_true.mp hn q hq
  refine ⟨hG _ _ g1, g2, g3, g4.kept (hk.2 _ _ _ g1 g2 g3 ?_)⟩
  cases h3 : E1.contains (q.2.1, 0) with
  | false => rfl
  | true => rw [h3] at h2; cases h2
/-- what holds of a footprint: fields (kind, field) and arrays (kind, 0) -/
abbrev jIv : Type := List (Nat × Nat) × (Heap → Prop)
def jAg (D : va_G) (G : jT) (F : List (Nat × Nat)) (H H1 : Heap) : Prop := (∀ a k n i v, G a = some (k, n) → F.contains (k, i) = true → jf D k a i v H → jf D k a i v H1) ∧ ∀ a k n, G a = some (k, n) → 17 ≤ k → k < 1000 → F.contains (k, 0) = true → H1[a]? = H[a]?
def jIs (D : va_G) (G : jT) (H : Heap) (I : List jIv) : Prop := ∀ q ∈ I, q.2 H ∧ ∀ H1 H2 : Heap, jAg D G q.1 H1 H2 → q.2 H1 → q.2 H2
theorem jIs.nil {D : va_G} {G : jT} {H : Heap} : jIs D G H [] := fun _ h => by cases h
theorem jIs.sub {D : va_G} {G : jT} {H : Heap} {L L1 : List jIv} (h : jIs D G H L) (is : List Nat) (hs : is.map (fun i => L[i]?) = L1.map some) : jIs D G H L1 := by
  intro q hq
  have h1 : some q ∈ L1.map some := List.mem_map.mpr ⟨q, hq, rfl⟩
  rw [← hs] at h1
  obtain ⟨i, -, h2⟩ := List.mem_map.mp h1
  exact h q (List.mem_of_getElem? h2)
theorem jIs.ag {D : va_G} {G : jT} {H H1 : Heap} {L : List jIv} (h : jIs D G H L) (ha : ∀ q ∈ L, jAg D G q.1 H H1) : jIs D G H1 L := fun q hq => ⟨(h q hq).2 _ _ (ha q hq) (h q hq).1, (h q hq).2⟩
theorem jAg.of {D : va_G} {G : jT} {E F : List (Nat × Nat)} {H H1 : Heap} (h : jKp D G E H H1) (hn : E.all (fun q => !(F.contains q)) = true) : jAg D G F H H1 := by
  have key : ∀ k i, F.contains (k, i) = true → E.contains (k, i) = false := by
    intro k i hf
    cases h1 : E.contains (k, i) with
    | false => rfl
    | true =>
      have h2 := List.all_eq_true.mp hn (k, i) (List.contains_iff_mem.mp h1)
      rw [hf] at h2; cases h2
  exact ⟨fun a k n i v ha hf => h.1 a k n i v ha (key k i hf), fun a k n ha h1 h2 hf => h.2 a k n ha h1 h2 (key k 0 hf)⟩
def jSt (D : va_G) (B : jF) (base : Nat) (G0 G : jT) (E : List (Nat × Nat)) (H0 : Heap) (zc zs : Nat) (L : List jPin) (M : List jCt) (I : List jIv) (H : Heap) (locs : List Loc) : Prop :=
  va_S (jA base) H0 H locs ∧ jX B base G [] H ∧ jP D G H L ∧ jKp D G0 E H0 H ∧ jLe G0 G ∧ H.size ≤ H0.size + zc ∧ jTot H ≤ jTot H0 + zs ∧ jMc D G H M ∧ jIs D G H I
theorem jP.nil {D : va_G} {G : jT} {H : Heap} : jP D G H [] := fun _ h => by cases h
theorem jP.sub {D : va_G} {G : jT} {H : Heap} {L L1 : List jPin} (h : jP D G H L) (is : List Nat) (hs : is.map (fun i => L[i]?) = L1.map some) : jP D G H L1 := by
  intro q hq
  have h1 : some q ∈ L1.map some := List.mem_map.mpr ⟨q, hq, rfl⟩
  rw [← hs] at h1
  obtain ⟨i, -, h2⟩ := List.mem_map.mp h1
  exact h q (List.mem_of_getElem? h2)
theorem jP.app {D : va_G} {G : jT} {H : Heap} {L L1 : List jPin} (h : jP D G H L) (h1 : jP D G H L1) : jP D G H (L ++ L1) := fun q hq => (List.mem_append.mp hq).elim (h q) (h1 q)
theorem jP.lift {D : va_G} {G G1 : jT} {H : Heap} {L : List jPin} (h : jP D G H L) (h1 : jLe G G1) : jP D G1 H L := fun q hq => by
  obtain ⟨⟨n, g⟩, g2⟩ := h q hq
  exact ⟨⟨n, h1 _ _ g⟩, g2⟩
theorem jKp.sub {D : va_G} {G0 G : jT} {E E1 : List (Nat × Nat)} {H0 H : Heap} (h : jKp D G E1 H0 H) (hG : jLe G0 G) (hE : E1.all (fun q => E.contains q) = true) : jKp D G0 E H0 H := by
  have key : ∀ k i, E.contains (k, i) = false → E1.contains (k, i) = false := by
    intro k i he
    cases h1 : E1.contains (k, i) with
    | false => rfl
    | true =>
      have h2 := List.all_eq_true.mp hE (k, i) (List.contains_iff_mem.mp h1)
      rw [he] at h2; cases h2
  exact ⟨fun a k n i v ha he hf => h.1 a k n i v (hG _ _ ha) (key k i he) hf, fun a k n ha h1 h2 he => h.2 a k n (hG _ _ ha) h1 h2 (key k 0 he)⟩
theorem jKp.tr {D : va_G} {G : jT} {E : List (Nat × Nat)} {H0 H H1 : Heap} (h : jKp D G E H0 H) (h1 : jKp D G E H H1) : jKp D G E H0 H1 := ⟨fun a k n i v ha he hf => h1.1 a k n i v ha he (h.1 a k n i v ha he hf), fun a k n ha g1 g2 he => (h1.2 a k n ha g1 g2 he).trans (h.2 a k n ha g1 g2 he)⟩
/-- pins behind a step that keeps all fields but those of E1 -/
theorem jP.over {D : va_G} {G G1 : jT} {E1 : List (Nat × Nat)} {H H1 : Heap} {L L1 : List jPin} (h : jP D G H L) (hk : jKp D G E1 H H1) (hG : jLe G G1) (is : List Nat) (hs : is.map (fun i => L[i]?) = L1.map some) (hn : L1.all (fun q => !(E1.contains (q.2.1, q.2.2.1))) = true) : jP D G1 H1 L1 := by
  intro q hq
  obtain ⟨⟨n, g1⟩, g2⟩ := h.sub is hs q hq
  have h2 := List.all_eq_true.mp hn q hq
  refine ⟨⟨n, hG _ _ g1⟩, hk.1 _ _ n _ _ g1 ?_ g2⟩
  cases h3 : E1.contains (q.2.1, q.2.2.1) with
  | false => rfl
  | true => rw [h3] at h2; cases h2
section J7
variable {p : Program} {l : Launch} {e : Env} {R : Room} {s : State} {m : MethodId} {args : Array Value} {below : List Frame} {meth : Method} {c : Code} {H : Heap} {locs : List Loc} {cells slots : Nat} {Q : State → Prop}
variable {cc : ByteArray} {pc : Nat} {ls : Array Slot} {rest : List Value} {dC : Nat → ClassId} {dI : Nat → Nat → Nat} {ca : Nat → ClassId} {B : jF} {base : Nat} {G0 G : jT} {E : List (Nat × Nat)} {H0 : Heap} {zc zs : Nat} {L : List jPin} {M : List jCt} {I : List jIv} {a k n i index N : Nat} {tys : List (ClassId × FieldType)} {own C : String} {T : u_T}
theorem j7_lay {args : Array Value} {s : State} {C : String} {T : u_T} {i : Nat} (h : (u_lay C T i).before args s = true) : (Cond.lays C (T i).1 (T i).2.1 (T i).2.2.1).before args s = true ∨ (Cond.laysFinal C (T i).1 (T i).2.1 (T i).2.2.1).before args s = true := by
  unfold u_lay at h
  split at h
  · exact Or.inr h
  · exact Or.inl h
theorem jSt.ab (hh : jSt (dC, dI) B base G0 G E H0 zc zs L M I H locs) {t : Nat × Nat} (ha : G a = some t) : base ≤ a ∧ a < H.size := hh.2.1.2 a t ha
theorem j7_read (hexec : p.tables.exec = Jvm.exec) (hb : c.code = cc) (hown : s.vm.findClass own = some m.cls) (hK : va_K (dC, dI) vwCl tys s) (hc : vwCl[k]? = some (C, T, N)) (hlay : (u_lay C T i).before args s = true) (hlink : (Cond.fieldLink own index (T i).1 (T i).2.1 (T i).2.2.1).before args s = true) {v : Value} (hf : jf (dC, dI) k a i v H) (hdg : decode cc pc = .ok (.getfield index, 3))
    (kk : W p l e R s m args below meth c H locs cells slots Q (F0 m (pc + 3) ls (v :: rest))) : W p l e R s m args below meth c H locs cells slots Q (F0 m pc ls (.ref a :: rest)) := by
  obtain ⟨r, h1, hi, cell, q1, q2, q3, q4⟩ := hf
  have hr : r = (C, T, N) := Option.some.inj (h1.symm.trans hc)
  subst hr
  obtain ⟨hS, hfc, kC, hkC, hkind⟩ := hK.1 k _ hc
  obtain ⟨cf, kf, fi, f, hfi, hsl⟩ := hS i hi
  exact W.getf hexec hb hown hlink hfi (u_facts hfc hkC (j7_lay hlay) hfi).1 q1 (by rw [q3]; exact fun h => by cases h) (v := v) (by rw [hsl]; exact q4) rfl rfl hdg kk
/-- a field that isn't pinned: its value holds its predicate, and is pinned from now on -/
theorem jSt.pin (hh : jSt (dC, dI) B base G0 G E H0 zc zs L M I H locs) {F : Nat → jT → List (Value → Prop)} (hBk : ∀ n G a H, B k n G a H ↔ jOb (dC, dI) k N (F n G) a H) (hc : vwCl[k]? = some (C, T, N)) (hk : k < 1000) (ha : G a = some (k, n)) (hi : i < N) {P : Value → Prop} (hp : (F n G)[i]? = some P) : ∃ v, P v ∧ jSt (dC, dI) B base G0 G E H0 zc zs ((a, k, i, v) :: L) M I H locs := by
  obtain ⟨h1, h2, h3, h4⟩ := hh
  obtain ⟨V, ⟨cell, q1, q2, q3, q4⟩, hV⟩ := (hBk _ _ _ _).mp (h2.1 a k n ha hk (fun h => by cases h))
  refine ⟨V i, hV i P hp, h1, h2, fun q hq => ?_, h4⟩
  rcases List.mem_cons.mp hq with e | e
  · subst e; exact ⟨⟨n, ha⟩, _, hc, hi, cell, q1, q2, q3, q4 i hi⟩
  · exact h3 q e
theorem jSt.at (hh : jSt (dC, dI) B base G0 G E H0 zc zs L M I H locs) {v : Value} (j : Nat) (hj : L[j]? = some (a, k, i, v)) : jf (dC, dI) k a i v H := (hh.2.2.1 _ (List.mem_of_getElem? hj)).2
theorem jX.set {B : jF} {base : Nat} {G : jT} {H H1 : Heap} {a k n : Nat} (h : jX B base G [] H) (hB : jBok B) (ha : G a = some (k, n)) (hk : k < 1000) (hsz : H1.size = H.size) (hfr : ∀ p, p ≠ a → H1[p]? = H[p]?) (hb : B k n G a H1) : jX B base G [] H1 :=
  ((h.opn a).put hB ha hk jSup.root List.mem_cons_self hsz hfr).cls ha hb
/-- a write to a cell that is no object: all pins stay -/
theorem jSt.arr (hh : jSt (dC, dI) B base G0 G E H0 zc zs L M I H locs) (hB : jBok B) (ha : G a = some (k, n)) (hk : k < 1000) (hk2 : 17 ≤ k) (hE : E.contains (k, 0) = true) (hM : M.all (fun q => !(q.2.1 == k)) = true) (hI : I.all (fun q => !(q.1.contains (k, 0))) = true) {H1 : Heap} {locs1 : List Loc} (hsz : H1.size = H.size) (hfr : ∀ p, p ≠ a → H1[p]? = H[p]?) (ht : jTot H1 = jTot H) (hL : ∀ q ∈ locs1, jA base q.base) (hb : B k n G a H1) : jSt (dC, dI) B base G0 G E H0 zc zs L M I H1 locs1 := by
  obtain ⟨h1, h2, h3, h4, h5, h6, h7, h8, h9⟩ := hh
  have key : ∀ b kb nb ib v, G b = some (kb, nb) → jf (dC, dI) kb b ib v H → jf (dC, dI) kb b ib v H1 := by
    intro b kb nb ib v hb1 hf
    refine hf.kept (hfr b (fun e => ?_))
    subst e
    rw [ha] at hb1; cases hb1
    obtain ⟨r, g1, -⟩ := hf
    have : k < vwCl.length := (List.getElem?_eq_some_iff.mp g1).1
    have h17 : vwCl.length = 17 := rfl
    omega
  refine ⟨jS_put h1 hsz hfr (h2.2 a _ ha).1 hL, h2.set hB ha hk hsz hfr hb, fun q hq => ?_, ⟨fun b kb nb ib v hb1 he hf => key b kb nb ib v (h5 _ _ hb1) (h4.1 b kb nb ib v hb1 he hf), fun b kb nb hb1 g1 g2 he => (hfr b (fun e => ?_)).trans (h4.2 b kb nb hb1 g1 g2 he)⟩, h5, by omega, by omega, fun q hq => ?_, h9.ag (fun q hq => ⟨fun b kb nb ib v hb1 _ hf => key b kb nb ib v hb1 hf, fun b kb nb hb1 g1 g2 hf => hfr b (fun e => ?_)⟩)⟩
  · obtain ⟨⟨nq, g1⟩, g2⟩ := h3 q hq
    exact ⟨⟨nq, g1⟩, key _ _ nq _ _ g1 g2⟩
  · subst e
    have e1 := (h5 _ _ hb1).symm.trans ha
    cases e1
    rw [hE] at he; cases he
  · obtain ⟨g1, g2, g3, g4⟩ := h8 q hq
    refine ⟨g1, g2, g3, g4.kept (hfr _ (fun e => ?_))⟩
    have hm9 := List.all_eq_true.mp hM q hq
    rw [e, ha] at g1
    have e2 := (Prod.mk.inj (Option.some.inj g1)).1
    rw [← e2] at hm9
    simp at hm9
  · subst e
    have e1 := hb1.symm.trans ha
    cases e1
    have hi9 := List.all_eq_true.mp hI q hq
    rw [hf] at hi9; cases hi9
/-- a write to a field -/
theorem jSt.fld (hh : jSt (dC, dI) B base G0 G E H0 zc zs L M I H locs) (hB : jBok B) (hAp : jAp (dC, dI)) {F : Nat → jT → List (Value → Prop)} (hBk : ∀ n G a H, B k n G a H ↔ jOb (dC, dI) k N (F n G) a H) (hc : vwCl[k]? = some (C, T, N)) (hk : k < 1000) (ha : G a = some (k, n)) (hi : i < N) {P : Value → Prop} (hp : (F n G)[i]? = some P) {v : Value} (hv : P v) (hE : E.contains (k, i) = true)
    {L1 : List jPin} (is : List Nat) (hs : is.map (fun i => L[i]?) = L1.map some) (hn : L1.all (fun q => !(q.2.1 == k && q.2.2.1 == i)) = true) (hI : I.all (fun q => !(q.1.contains (k, i))) = true) {H1 : Heap} {locs1 : List Loc} {cell : Cell} (hcell : H[a]? = some cell) (h1c : H1[a]? = some (cell.setSlot (dI k i) v)) (hsz : H1.size = H.size) (hfr : ∀ p, p ≠ a → H1[p]? = H[p]?) (ht : jTot H1 = jTot H) (hL : ∀ q ∈ locs1, jA base q.base) :
    jSt (dC, dI) B base G0 G E H0 zc zs ((a, k, i, v) :: L1) M I H1 locs1 := by
  obtain ⟨h1, h2, h3, h4, h5, h6, h7, h8, h9⟩ := hh
  have hk17 : k < 17 := (List.getElem?_eq_some_iff.mp hc).1
  obtain ⟨V, ⟨cell', q1, q2, q3, q4⟩, hV⟩ := (hBk _ _ _ _).mp (h2.1 a k n ha hk (fun h => by cases h))
  cases hcell.symm.trans q1
  have hap : ∀ x y, x < N → y < N → x ≠ y → dI k x ≠ dI k y := fun x y hx hy => hAp k _ hc x y hx hy
  have hset : ∀ j, j < N → (cell.setSlot (dI k i) v).slots[dI k j]? = some (updV V i v j) := fun j hj => t_set q4 hap hi v j hj
  have hvi : updV V i v i = v := by simp [updV]
  have key : ∀ b kb nb ib w, G b = some (kb, nb) → ¬ (kb = k ∧ ib = i) → jf (dC, dI) kb b ib w H → jf (dC, dI) kb b ib w H1 := by
    intro b kb nb ib w hb1 hne hf
    by_cases e : b = a
    · subst e
      rw [ha] at hb1; cases hb1
      obtain ⟨r, g1, g2, cell2, g3, g4, g5, g6⟩ := hf
      have hr : r = (C, T, N) := Option.some.inj (g1.symm.trans hc)
      subst hr
      cases q1.symm.trans g3
      have hib : ib ≠ i := fun q => hne ⟨rfl, q⟩
      have e1 := hset ib g2
      have e2 : updV V i v ib = V ib := by simp [updV, hib]
      rw [e2] at e1
      have e3 : V ib = w := Option.some.inj ((q4 ib g2).symm.trans g6)
      exact ⟨_, hc, g2, _, h1c, g4, g5, by rw [← e3]; exact e1⟩
    · exact hf.kept (hfr b e)
  refine ⟨jS_put h1 hsz hfr (h2.2 a _ ha).1 hL, h2.set hB ha hk hsz hfr ((hBk _ _ _ _).mpr ⟨updV V i v, ⟨_, h1c, q2, q3, hset⟩, fun j p hj => ?_⟩), fun q hq => ?_, ⟨fun b kb nb ib w hb1 he hf => key b kb nb ib w (h5 _ _ hb1) (fun q => ?_) (h4.1 b kb nb ib w hb1 he hf), fun b kb nb hb1 g1 g2 he => (hfr b (fun e => ?_)).trans (h4.2 b kb nb hb1 g1 g2 he)⟩, h5, by omega, by omega, fun q hq => ?_, h9.ag (fun q hq => ⟨fun b kb nb ib w hb1 hf1 hf => key b kb nb ib w hb1 (fun g => ?_) hf, fun b kb nb hb1 g1 g2 hf => hfr b (fun e => ?_)⟩)⟩
  · by_cases e : j = i
    · subst e
      rw [hvi]
      cases hp.symm.trans hj
      exact hv
    · have e2 : updV V i v j = V j := by simp [updV, e]
      rw [e2]; exact hV j p hj
  · rcases List.mem_cons.mp hq with e | e
    · subst e
      refine ⟨⟨n, ha⟩, _, hc, hi, _, h1c, q2, q3, ?_⟩
      have e1 := hset i hi
      rw [hvi] at e1
      exact e1
    · obtain ⟨⟨nq, g1⟩, g2⟩ := (jP.sub h3 is hs) q e
      have g3 := List.all_eq_true.mp hn q e
      refine ⟨⟨nq, g1⟩, key _ _ nq _ _ g1 (fun g => ?_) g2⟩
      rw [g.1, g.2] at g3
      simp at g3
  · rw [q.1, q.2, hE] at he; cases he
  · subst e
    have e1 := (h5 _ _ hb1).symm.trans ha
    cases e1
    omega
  · obtain ⟨g1, g2, g3, g4⟩ := h8 q hq
    refine ⟨g1, g2, g3, g4.kept (hfr _ (fun e => ?_))⟩
    rw [e, ha] at g1
    have e2 := (Prod.mk.inj (Option.some.inj g1)).1
    omega
  · have hi9 := List.all_eq_true.mp hI q hq
    rw [g.1, g.2] at hf1
    rw [hf1] at hi9; cases hi9
  · subst e
    have e1 := hb1.symm.trans ha
    cases e1
    omega
theorem j7_put (hexec : p.tables.exec = Jvm.exec) (hb : c.code = cc) (hown : s.vm.findClass own = some m.cls) (hK : va_K (dC, dI) vwCl tys s) (hh : jSt (dC, dI) B base G0 G E H0 zc zs L M I H locs) (hB : jBok B) (hAp : jAp (dC, dI)) {F : Nat → jT → List (Value → Prop)} (hBk : ∀ n G a H, B k n G a H ↔ jOb (dC, dI) k N (F n G) a H) (hc : vwCl[k]? = some (C, T, N)) (hk : k < 1000) (ha : G a = some (k, n)) (hi : i < N) (hlay : (u_lay C T i).before args s = true) (hfin : (T i).2.2.2 = false) (hlink : (Cond.fieldLink own index (T i).1 (T i).2.1 (T i).2.2.1).before args s = true) {P : Value → Prop} (hp : (F n G)[i]? = some P) {ty : FieldType} {v : Value} (hd : parseFieldDescriptor (T i).2.2.1 = some ty) (hnar : narrow ty v = v) (hfit : fits ty v = true) (hv : P v) (hE : E.contains (k, i) = true)
    {L1 : List jPin} (is : List Nat) (hs : is.map (fun i => L[i]?) = L1.map some) (hn : L1.all (fun q => !(q.2.1 == k && q.2.2.1 == i)) = true) (hI : I.all (fun q => !(q.1.contains (k, i))) = true) (hdg : decode cc pc = .ok (.putfield index, 3))
    (kk : ∀ (H1 : Heap) (locs1 : List Loc), jSt (dC, dI) B base G0 G E H0 zc zs ((a, k, i, v) :: L1) M I H1 locs1 → W p l e R s m args below meth c H1 locs1 cells slots Q (F0 m (pc + 3) ls rest)) : W p l e R s m args below meth c H locs cells slots Q (F0 m pc ls (v :: .ref a :: rest)) := by
  obtain ⟨V, ⟨cell, q1, q2, q3, q4⟩, hV⟩ := (hBk _ _ _ _).mp (hh.2.1.1 a k n ha hk (fun h => by cases h))
  obtain ⟨hS, hfc, kC, hkC, hkind⟩ := hK.1 k _ hc
  obtain ⟨cf, kf, fi, f, hfi, hsl⟩ := hS i hi
  have hst := (u_facts hfc hkC (j7_lay hlay) hfi).1
  unfold u_lay at hlay
  rw [if_neg (by rw [hfin]; decide)] at hlay
  have h6 := u_store hfc hkC hkind hlay hfi hd hnar hfit
  refine W.putK hexec hb (f := f) ⟨hown, hlink, ⟨_, _, _, hfi⟩, hst⟩ (by rw [q2]; exact h6) q1 q3 (by rw [hsl]; exact k2_hasslot (q4 i hi)) rfl rfl hdg fun H1 e1 e2 e3 => ?_
  rw [hsl] at e1 ⊢
  refine kk H1 _ (hh.fld hB hAp hBk hc hk ha hi hp hv hE is hs hn hI q1 e1 e2 e3 (jTot_set e2 q1 e1 (jSet_sz _ _ _) e3) (fun q hq => ?_))
  rcases List.mem_append.mp hq with h | h
  · exact hh.1.2.2 q h
  · cases List.mem_singleton.mp h; exact (hh.ab ha).1
end J7
def jAr (D : va_G) (cA : ClassId) (P : Nat → Int32 → Prop) (n a : Nat) (H : Heap) : Prop := ∃ f : Nat → Int32, va_at D vwCl (a, .inl (cA, n, .inl f)) H ∧ ∀ j, j < n → P j (f j)
def jAl (D : va_G) (cA : ClassId) (n a : Nat) (H : Heap) : Prop := ∃ f : Nat → Int64, va_at D vwCl (a, .inl (cA, n, .inr (.inl f))) H
section J8
variable {p : Program} {l : Launch} {e : Env} {R : Room} {s : State} {m : MethodId} {args : Array Value} {below : List Frame} {meth : Method} {c : Code} {H : Heap} {locs : List Loc} {cells slots : Nat} {Q : State → Prop}
variable {cc : ByteArray} {pc : Nat} {ls : Array Slot} {rest : List Value} {dC : Nat → ClassId} {dI : Nat → Nat → Nat} {ca : Nat → ClassId} {B : jF} {base : Nat} {G0 G : jT} {E : List (Nat × Nat)} {H0 : Heap} {zc zs : Nat} {L : List jPin} {M : List jCt} {I : List jIv} {a k n : Nat} {P : Nat → Int32 → Prop} {cA : ClassId} {tys : List (ClassId × FieldType)}
theorem jSt.ar (hh : jSt (dC, dI) B base G0 G E H0 zc zs L M I H locs) (hBk : ∀ n G a H, B k n G a H ↔ jAr (dC, dI) cA P n a H) (hk : k < 1000) (ha : G a = some (k, n)) : ∃ f : Nat → Int32, va_at (dC, dI) vwCl (a, .inl (cA, n, .inl f)) H ∧ ∀ j, j < n → P j (f j) := (hBk _ _ _ _).mp (hh.2.1.1 a k n ha hk (fun h => by cases h))
theorem jSt.al (hh : jSt (dC, dI) B base G0 G E H0 zc zs L M I H locs) (hBk : ∀ n G a H, B k n G a H ↔ jAl (dC, dI) cA n a H) (hk : k < 1000) (ha : G a = some (k, n)) : ∃ f : Nat → Int64, va_at (dC, dI) vwCl (a, .inl (cA, n, .inr (.inl f))) H := (hBk _ _ _ _).mp (hh.2.1.1 a k n ha hk (fun h => by cases h))
theorem j7_len (hexec : p.tables.exec = Jvm.exec) (hb : c.code = cc) (hK : va_K (dC, dI) vwCl tys s) (hh : jSt (dC, dI) B base G0 G E H0 zc zs L M I H locs) (hBk : ∀ n G a H, B k n G a H ↔ jAr (dC, dI) cA P n a H) (t0 : Nat) {ty : FieldType} (ht : tys[t0]? = some (cA, ty)) (hk : k < 1000) (ha : G a = some (k, n)) (hn : n < 2147483648) (hdg : decode cc pc = .ok (.arraylength, 1))
    (kk : ∀ z : Int32, z.toInt = n → W p l e R s m args below meth c H locs cells slots Q (F0 m (pc + 1) ls (.int z :: rest))) : W p l e R s m args below meth c H locs cells slots Q (F0 m pc ls (.ref a :: rest)) := by
  obtain ⟨f, h1, -⟩ := hh.ar hBk hk ha
  exact va_alen (v := Int32.ofNat n) hexec hb hK (jp_one h1) 0 t0 rfl ht rfl hdg (kk _ (jb_nat hn))
theorem j7_iald (hexec : p.tables.exec = Jvm.exec) (hb : c.code = cc) (hK : va_K (dC, dI) vwCl tys s) (hh : jSt (dC, dI) B base G0 G E H0 zc zs L M I H locs) (hBk : ∀ n G a H, B k n G a H ↔ jAr (dC, dI) cA P n a H) (t0 : Nat) (ht : tys[t0]? = some (cA, .int)) (hk : k < 1000) (ha : G a = some (k, n)) {i : Int32} {x : Int} (hi : i.toInt = x) (h12 : 0 ≤ x ∧ x < n) (hdg : decode cc pc = .ok (.iaload, 1))
    (kk : ∀ z : Int32, P x.toNat z → W p l e R s m args below meth c H locs cells slots Q (F0 m (pc + 1) ls (.int z :: rest))) : W p l e R s m args below meth c H locs cells slots Q (F0 m pc ls (.int i :: .ref a :: rest)) := by
  obtain ⟨h1, h2⟩ := h12
  obtain ⟨f, g1, g2⟩ := hh.ar hBk hk ha
  exact va_iald hexec hb hK (jp_one g1) 0 t0 rfl ht (jb_in hi h1 h2) hdg (kk _ (by rw [← jb_cl hi h1]; exact g2 _ (jb_cl_lt hi h1 h2)))
theorem j7_bald (hexec : p.tables.exec = Jvm.exec) (hb : c.code = cc) (hK : va_K (dC, dI) vwCl tys s) (hh : jSt (dC, dI) B base G0 G E H0 zc zs L M I H locs) (hBk : ∀ n G a H, B k n G a H ↔ jAr (dC, dI) cA P n a H) (t0 : Nat) (ht : tys[t0]? = some (cA, .byte)) (hk : k < 1000) (ha : G a = some (k, n)) {i : Int32} {x : Int} (hi : i.toInt = x) (h12 : 0 ≤ x ∧ x < n) (hdg : decode cc pc = .ok (.baload, 1))
    (kk : ∀ z : Int32, P x.toNat z → W p l e R s m args below meth c H locs cells slots Q (F0 m (pc + 1) ls (.int z :: rest))) : W p l e R s m args below meth c H locs cells slots Q (F0 m pc ls (.int i :: .ref a :: rest)) := by
  obtain ⟨h1, h2⟩ := h12
  obtain ⟨f, g1, g2⟩ := hh.ar hBk hk ha
  exact va_bald hexec hb hK (jp_one g1) 0 t0 rfl ht (jb_in hi h1 h2) hdg (kk _ (by rw [← jb_cl hi h1]; exact g2 _ (jb_cl_lt hi h1 h2)))
theorem j7_lald (hexec : p.tables.exec = Jvm.exec) (hb : c.code = cc) (hK : va_K (dC, dI) vwCl tys s) (hh : jSt (dC, dI) B base G0 G E H0 zc zs L M I H locs) (hBk : ∀ n G a H, B k n G a H ↔ jAl (dC, dI) cA n a H) (t0 : Nat) (ht : tys[t0]? = some (cA, .long)) (hk : k < 1000) (ha : G a = some (k, n)) {i : Int32} {x : Int} (hi : i.toInt = x) (h12 : 0 ≤ x ∧ x < n) (hdg : decode cc pc = .ok (.laload, 1))
    (kk : ∀ z : Int64, W p l e R s m args below meth c H locs cells slots Q (F0 m (pc + 1) ls (.long z :: rest))) : W p l e R s m args below meth c H locs cells slots Q (F0 m pc ls (.int i :: .ref a :: rest)) := by
  obtain ⟨h1, h2⟩ := h12
  obtain ⟨f, g1⟩ := hh.al hBk hk ha
  exact va_lald hexec hb hK (jp_one g1) 0 t0 rfl ht (jb_in hi h1 h2) hdg (kk _)
theorem jAr_upd {f : Nat → Int32} {n : Nat} {i v : Int32} {x : Int} (h : ∀ j, j < n → P j (f j)) (hi : i.toInt = x) (h1 : 0 ≤ x) (hx : P x.toNat v) : ∀ j, j < n → P j (upd f i.toNatClampNeg v j) := by
  intro j hj
  by_cases e : j = i.toNatClampNeg
  · rw [e, jb_cl hi h1]; simp only [upd, if_pos]; exact hx
  · simp only [upd, if_neg e]; exact h j hj
theorem j7_iast (hexec : p.tables.exec = Jvm.exec) (hb : c.code = cc) (hK : va_K (dC, dI) vwCl tys s) (hh : jSt (dC, dI) B base G0 G E H0 zc zs L M I H locs) (hB : jBok B) (hBk : ∀ n G a H, B k n G a H ↔ jAr (dC, dI) cA P n a H) (t0 : Nat) (ht : tys[t0]? = some (cA, .int)) (hk : k < 1000) (hk2 : 17 ≤ k) (hE : E.contains (k, 0) = true) (hM : M.all (fun q => !(q.2.1 == k)) = true) (hI : I.all (fun q => !(q.1.contains (k, 0))) = true) (ha : G a = some (k, n)) {i v : Int32} {x : Int} (hi : i.toInt = x) (h12 : 0 ≤ x ∧ x < n) (hv : P x.toNat v) (hdg : decode cc pc = .ok (.iastore, 1))
    (kk : ∀ (H1 : Heap) (locs1 : List Loc), jSt (dC, dI) B base G0 G E H0 zc zs L M I H1 locs1 → W p l e R s m args below meth c H1 locs1 cells slots Q (F0 m (pc + 1) ls rest)) : W p l e R s m args below meth c H locs cells slots Q (F0 m pc ls (.int v :: .int i :: .ref a :: rest)) := by
  obtain ⟨h1, h2⟩ := h12
  obtain ⟨f, g1, g2⟩ := hh.ar hBk hk ha
  exact j_iast (A := jA base) hexec hb hK t0 g1 (hh.ab ha).1 hh.1.2.2 ht (jb_in hi h1 h2) hdg (fun H1 locs1 hat hsz hfr hT hL => kk H1 locs1 (hh.arr hB ha hk hk2 hE hM hI hsz hfr hT hL ((hBk _ _ _ _).mpr ⟨_, hat, jAr_upd g2 hi h1 hv⟩)))
/-- behind a call that makes no cells -/
theorem jSt.call (hh : jSt (dC, dI) B base G0 G E H0 zc zs L M I H locs) {E1 : List (Nat × Nat)} {H1 : Heap} {locs1 : List Loc} (hX : jX B base G [] H1) (hk : jKp (dC, dI) G E1 H H1) (hz : H1.size ≤ H.size) (ht : jTot H1 ≤ jTot H) (hS : va_S (jA base) H0 H1 locs1) (hE : E1.all (fun q => E.contains q) = true) {L1 : List jPin} (is : List Nat) (hs : is.map (fun i => L[i]?) = L1.map some) (hn : L1.all (fun q => !(E1.contains (q.2.1, q.2.2.1))) = true) {M1 : List jCt} (js : List Nat) (hjs : js.map (fun i => M[i]?) = M1.map some) (hjn : M1.all (fun q => !(E1.contains (q.2.1, 0))) = true) {I1 : List jIv} (ks : List Nat) (hks : ks.map (fun i => I[i]?) = I1.map some) (hkn : I1.all (fun q => E1.all (fun x => !(q.1.contains x))) = true) : jSt (dC, dI) B base G0 G E H0 zc zs L1 M1 I1 H1 locs1 := by
  obtain ⟨h1, h2, h3, h4, h5, h6, h7, h8, h9⟩ := hh
  exact ⟨hS, hX, h3.over hk jLe.rf is hs hn, h4.tr (hk.sub h5 hE), h5, by omega, by omega, h8.over hk jLe.rf js hjs hjn, (h9.sub ks hks).ag (fun q hq => jAg.of hk (List.all_eq_true.mp hkn q hq))⟩
theorem jSt.more (hh : jSt (dC, dI) B base G0 G E H0 zc zs L M I H locs) {P1 : List jPin} (h : jP (dC, dI) G H P1) : jSt (dC, dI) B base G0 G E H0 zc zs (P1 ++ L) M I H locs := by
  obtain ⟨h1, h2, h3, h4⟩ := hh
  exact ⟨h1, h2, h.app h3, h4⟩
theorem jSt.sub (hh : jSt (dC, dI) B base G0 G E H0 zc zs L M I H locs) {L1 : List jPin} (is : List Nat) (hs : is.map (fun i => L[i]?) = L1.map some) {M1 : List jCt} (js : List Nat) (hjs : js.map (fun i => M[i]?) = M1.map some) {I1 : List jIv} (ks : List Nat) (hks : ks.map (fun i => I[i]?) = I1.map some) : jSt (dC, dI) B base G0 G E H0 zc zs L1 M1 I1 H locs := by
  obtain ⟨h1, h2, h3, h4, h5, h6, h7, h8, h9⟩ := hh
  exact ⟨h1, h2, h3.sub is hs, h4, h5, h6, h7, h8.sub js hjs, h9.sub ks hks⟩
/-- what a method that makes no cells leaves -/
def jRt (D : va_G) (B : jF) (base : Nat) (G : jT) (E : List (Nat × Nat)) (H0 : Heap) (M : List jPin) (H1 : Heap) : Prop := jX B base G [] H1 ∧ jKp D G E H0 H1 ∧ H1.size ≤ H0.size ∧ jTot H1 ≤ jTot H0 ∧ jP D G H1 M
theorem jSt.rt (hh : jSt (dC, dI) B base G G E H0 0 0 L M I H locs) {M1 : List jPin} (is : List Nat) (hs : is.map (fun i => L[i]?) = M1.map some) {t : State} (ht : t.heap = H) : jRt (dC, dI) B base G E H0 M1 t.heap := by
  rw [ht]
  obtain ⟨h1, h2, h3, h4, h5, h6, h7, h8, h9⟩ := hh
  exact ⟨h2, h4, h6, h7, h3.sub is hs⟩
theorem jSt.start {H0 : Heap} (hX : jX B base G [] H0) {L : List jPin} (hP : jP (dC, dI) G H0 L) {M : List jCt} (hM : jMc (dC, dI) G H0 M) {I : List jIv} (hI : jIs (dC, dI) G H0 I) : jSt (dC, dI) B base G G E H0 0 0 L M I H0 [] := ⟨va_S.rf, hX, hP, jKp.rf, jLe.rf, Nat.le_refl _, Nat.le_refl _, hM, hI⟩
theorem jSt.recv (hh : jSt (dC, dI) B base G0 G E H0 zc zs L M I H locs) {N : Nat} {C : String} {T : u_T} {F : Nat → jT → List (Value → Prop)} (hBk : ∀ n G a H, B k n G a H ↔ jOb (dC, dI) k N (F n G) a H) (hc : vwCl[k]? = some (C, T, N)) (hk : k < 1000) (ha : G a = some (k, n)) (hK : va_K (dC, dI) vwCl tys s) : ∃ cell : Cell, H[a]? = some cell ∧ cell.vm.isStatics = false ∧ s.vm.findClass C = some cell.cls := by
  obtain ⟨V, ⟨cell, q1, q2, q3, q4⟩, hV⟩ := (hBk _ _ _ _).mp (hh.2.1.1 a k n ha hk (fun h => by cases h))
  obtain ⟨hS, hfc, -⟩ := hK.1 k _ hc
  exact ⟨cell, q1, by rw [q3]; rfl, by rw [q2]; exact hfc⟩
end J8
def jI (lo hi : Int) : Value → Prop := fun v => ∃ x : Int32, v = .int x ∧ lo ≤ x.toInt ∧ x.toInt ≤ hi
def jIa : Value → Prop := fun v => ∃ x : Int32, v = .int x
def jZb : Value → Prop := fun v => ∃ x : Int32, v = .int x ∧ (x = 0 ∨ x = 1)
def jRf (G : jT) (k n : Nat) : Value → Prop := fun v => ∃ x : Nat, v = .ref x ∧ G x = some (k, n)
def jRk (G : jT) (k n : Nat) : Value → Prop := fun v => ∃ (x j : Nat), v = .ref x ∧ G x = some (k, j) ∧ j ≤ n
def jRn (G : jT) (k n : Nat) : Value → Prop := fun v => v = .null ∨ ∃ x : Nat, v = .ref x ∧ G x = some (k, n)
def jRm (G : jT) (k n : Nat) : Value → Prop := fun v => v = .null ∨ ∃ (x j : Nat), v = .ref x ∧ G x = some (k, j) ∧ j ≤ n
theorem jb_idiv {x y z : Int32} {n : Int} (h : z = x / y) (hy : y.toInt = n) (hn : 0 < n) : (0 ≤ x.toInt ∧ z.toInt = x.toInt / n) ∨ (x.toInt ≤ 0 ∧ z.toInt = -((-x.toInt) / n)) := by
  have hb := jb_rng x
  have key : ∀ a : Int, 0 ≤ a → a ≤ 2147483648 → 0 ≤ a / n ∧ a / n ≤ a := fun a h1 _ => ⟨Int.ediv_nonneg h1 (by omega), Int.ediv_le_self _ h1⟩
  rw [h, Int32.toInt_div, hy]
  by_cases q : 0 ≤ x.toInt
  · left
    rw [Int.tdiv_eq_ediv_of_nonneg q]
    obtain ⟨k1, k2⟩ := key _ q (by omega)
    exact ⟨q, jb_bm (by omega) (by omega)⟩
  · right
    have e : x.toInt.tdiv n = -((-x.toInt) / n) := by
      have h1 := Int.neg_tdiv x.toInt n
      rw [Int.tdiv_eq_ediv_of_nonneg (by omega : 0 ≤ -x.toInt)] at h1
      omega
    obtain ⟨k1, k2⟩ := key (-x.toInt) (by omega) (by omega)
    rw [e]
    exact ⟨by omega, jb_bm (by omega) (by omega)⟩
theorem j_ldcwS {p : Program} {l : Launch} {e : Env} {R : Room} {s : State} {m : MethodId} {args : Array Value} {below : List Frame} {meth : Method} {c : Code} {T : State} {locs : List Loc} {cells slots : Nat} (X : Stand p l e R s m args below meth c T locs cells slots) (hexec : p.tables.exec = Jvm.exec) {own text : String} {index : Nat} {a : Addr} (hown : s.vm.findClass own = some m.cls)
    (hconst : (Cond.stringRef own index text).before args s = true) (hev : (Term.string own index).eval args s none [] s = some (.ref a)) {g : JFrame} (hg : g.method = m) (hdg : decode c.code g.pc = .ok (.ldc_w index, 3)) :
    ∀ target, Steps p.tables e below (T.setTop { g with pc := g.pc + 3, stack := .ref a :: g.stack }) target → Steps p.tables e below (T.setTop g) target := by
  obtain ⟨k, cf, i, a', hk, hcf, hcp, -, hr, hev'⟩ := Cond.stringRef_spec hown hconst
  cases hev.symm.trans hev'
  obtain ⟨k', hk', he⟩ := X.warmed.alike.2.2 _ _ hk
  have hr' : k'.resolved[index]? = some (some (.string a)) := by
    rcases X.warmed.entry hk hk' index with h | ⟨h, -⟩
    · rw [h]; exact hr
    · rw [hr] at h; cases h
  intro target hrest
  subst hg
  jvm_step X.here [hexec, hdg, ldc_w.wp_string (e := e) (s := T) (f := g) X.here.top hk' (by rw [he]; exact hcf) hcp hr']
  exact hrest
theorem j_ldcSw {p : Program} {l : Launch} {e : Env} {R : Room} {s : State} {m : MethodId} {args : Array Value} {below : List Frame} {meth : Method} {c : Code} {H : Heap} {locs : List Loc} {cells slots : Nat} {Q : State → Prop} {cc : ByteArray} {pc : Nat} {ls : Array Slot} {rest : List Value} (hexec : p.tables.exec = Jvm.exec) (hb : c.code = cc) {own tx : String} {index q : Nat} (hown : s.vm.findClass own = some m.cls) (hZ : vk_R own index tx q s) (hdg : decode cc pc = .ok (.ldc_w index, 3))
    (k : W p l e R s m args below meth c H locs cells slots Q (F0 m (pc + 3) ls (.ref q :: rest))) : W p l e R s m args below meth c H locs cells slots Q (F0 m pc ls rest) := by
  intro T hT X
  obtain ⟨t, a1, b1⟩ := k T hT X
  exact ⟨t, j_ldcwS X hexec hown (text := tx) (a := q) hZ.1 hZ.2 (g := F0 m pc ls rest) rfl (by rw [hb]; exact hdg) t a1, b1⟩
theorem jb_iadd2 {x y : Int32} {a b : Int} (hx : x.toInt = a) (hy : y.toInt = b) (h : -2147483648 ≤ a + b ∧ a + b ≤ 2147483647) : (x + y).toInt = a + b := jb_iadd hx hy h.1 h.2
theorem jb_isub2 {x y : Int32} {a b : Int} (hx : x.toInt = a) (hy : y.toInt = b) (h : -2147483648 ≤ a - b ∧ a - b ≤ 2147483647) : (x - y).toInt = a - b := jb_isub hx hy h.1 h.2
theorem jb_imul2 {x y : Int32} {a b : Int} (hx : x.toInt = a) (hy : y.toInt = b) (h : -2147483648 ≤ a * b ∧ a * b ≤ 2147483647) : (x * y).toInt = a * b := jb_imul hx hy h.1 h.2
end
section
-- contents of arrays that are known for a while
theorem jCt_eq {D : va_G} {a n j : Nat} {cA cB : ClassId} {f g : Nat → Int32} {H : Heap} (h1 : va_at D vwCl (a, .inl (cA, n, .inl f)) H) (h2 : va_at D vwCl (a, .inl (cB, n, .inl g)) H) (hj : j < n) : f j = g j := by
  have e1 : H[a]? = some (vp_cell cA (n, .inl f)) := h1
  have e2 : H[a]? = some (vp_cell cB (n, .inl g)) := h2
  have e := Option.some.inj (e1.symm.trans e2)
  have r1 : (vp_cell cA (n, .inl f)).slots[j]? = some (.int (f j)) := by rw [vp_cell_i, arrV_read _ _ hj]
  have r2 : (vp_cell cB (n, .inl g)).slots[j]? = some (.int (g j)) := by rw [vp_cell_i, arrV_read _ _ hj]
  rw [e, r2] at r1
  exact (Value.int.inj (Option.some.inj r1)).symm
section J9
variable {p : Program} {l : Launch} {e : Env} {R : Room} {s : State} {m : MethodId} {args : Array Value} {below : List Frame} {meth : Method} {c : Code} {H : Heap} {locs : List Loc} {cells slots : Nat} {Q : State → Prop}
variable {cc : ByteArray} {pc : Nat} {ls : Array Slot} {rest : List Value} {dC : Nat → ClassId} {dI : Nat → Nat → Nat} {ca : Nat → ClassId} {B : jF} {base : Nat} {G0 G : jT} {E : List (Nat × Nat)} {H0 : Heap} {zc zs : Nat} {L : List jPin} {M : List jCt} {I : List jIv} {a k n : Nat} {P : Nat → Int32 → Prop} {cA : ClassId} {tys : List (ClassId × FieldType)}
theorem jSt.cpin (hh : jSt (dC, dI) B base G0 G E H0 zc zs L M I H locs) (hBk : ∀ n G a H, B k n G a H ↔ jAr (dC, dI) cA P n a H) (hk : k < 1000) (hk2 : 17 ≤ k) (ha : G a = some (k, n)) : ∃ f : Nat → Int32, jSt (dC, dI) B base G0 G E H0 zc zs L ((a, k, n, cA, f) :: M) I H locs := by
  obtain ⟨f, g1, g2⟩ := hh.ar hBk hk ha
  obtain ⟨h1, h2, h3, h4, h5, h6, h7, h8, h9⟩ := hh
  refine ⟨f, h1, h2, h3, h4, h5, h6, h7, fun q hq => ?_, h9⟩
  rcases List.mem_cons.mp hq with e | e
  · subst e; exact ⟨ha, hk2, hk, g1⟩
  · exact h8 q e
theorem j7_ialdM (hexec : p.tables.exec = Jvm.exec) (hb : c.code = cc) (hK : va_K (dC, dI) vwCl tys s) (hh : jSt (dC, dI) B base G0 G E H0 zc zs L M I H locs) (hBk : ∀ n G a H, B k n G a H ↔ jAr (dC, dI) cA P n a H) (t0 : Nat) (ht : tys[t0]? = some (cA, .int)) (hk : k < 1000) (ha : G a = some (k, n)) {i : Int32} {x : Int} (hi : i.toInt = x) (h12 : 0 ≤ x ∧ x < n) {j : Nat} {kk1 : Nat} {cB : ClassId} {f : Nat → Int32} (hj : M[j]? = some (a, kk1, n, cB, f)) (hdg : decode cc pc = .ok (.iaload, 1))
    (kk : ∀ z : Int32, z = f x.toNat → P x.toNat z → W p l e R s m args below meth c H locs cells slots Q (F0 m (pc + 1) ls (.int z :: rest))) : W p l e R s m args below meth c H locs cells slots Q (F0 m pc ls (.int i :: .ref a :: rest)) := by
  obtain ⟨h1, h2⟩ := h12
  obtain ⟨f', g1, g2⟩ := hh.ar hBk hk ha
  obtain ⟨-, -, -, q4⟩ := hh.2.2.2.2.2.2.2.1 _ (List.mem_of_getElem? hj)
  have hlt := jb_cl_lt hi h1 h2
  have hP := g2 _ hlt
  have e1 := jCt_eq q4 g1 hlt
  rw [jb_cl hi h1] at e1 hP
  exact va_iald hexec hb hK (jp_one g1) 0 t0 rfl ht (jb_in hi h1 h2) hdg (by rw [jb_cl hi h1]; exact kk _ e1.symm hP)
end J9
end
section
-- arrays of references
def jK2 (dC : Nat → ClassId) (dI : Nat → Nat → Nat) (ca : Nat → ClassId) (U : State) : Prop := va_K (dC, dI) vwCl [(ca 4, .object "ProofServerModel$Document"), (ca 5, .object "ProofServer$Document"), (ca 6, .object "ProofServer$State"), (ca 7, .object "ProofServer$Goal")] U
def jAq (D : va_G) (cA : ClassId) (P : jT → Option Nat → Prop) (n : Nat) (G : jT) (a : Nat) (H : Heap) : Prop := ∃ f : Nat → Option Nat, va_at D vwCl (a, .inl (cA, n, .inr (.inr (.inr (.inr f))))) H ∧ ∀ j, j < n → P G (f j)
def jQn (k n : Nat) (G : jT) : Option Nat → Prop := fun o => o = none ∨ ∃ x, o = some x ∧ G x = some (k, n)
def jQs (k n : Nat) (G : jT) : Option Nat → Prop := fun o => ∃ x, o = some x ∧ G x = some (k, n)
section J10
variable {p : Program} {l : Launch} {e : Env} {R : Room} {s : State} {m : MethodId} {args : Array Value} {below : List Frame} {meth : Method} {c : Code} {H : Heap} {locs : List Loc} {cells slots : Nat} {Q : State → Prop}
variable {cc : ByteArray} {pc : Nat} {ls : Array Slot} {rest : List Value} {dC : Nat → ClassId} {dI : Nat → Nat → Nat} {ca : Nat → ClassId} {B : jF} {base : Nat} {G0 G : jT} {E : List (Nat × Nat)} {H0 : Heap} {zc zs : Nat} {L : List jPin} {M : List jCt} {I : List jIv} {a k n : Nat} {P : jT → Option Nat → Prop} {cA : ClassId} {tys : List (ClassId × FieldType)} {C : String}
theorem jSt.aq (hh : jSt (dC, dI) B base G0 G E H0 zc zs L M I H locs) (hBk : ∀ n G a H, B k n G a H ↔ jAq (dC, dI) cA P n G a H) (hk : k < 1000) (ha : G a = some (k, n)) : ∃ f : Nat → Option Nat, va_at (dC, dI) vwCl (a, .inl (cA, n, .inr (.inr (.inr (.inr f))))) H ∧ ∀ j, j < n → P G (f j) := (hBk _ _ _ _).mp (hh.2.1.1 a k n ha hk (fun h => by cases h))
theorem j7_qlen (hexec : p.tables.exec = Jvm.exec) (hb : c.code = cc) (hK : va_K (dC, dI) vwCl tys s) (hh : jSt (dC, dI) B base G0 G E H0 zc zs L M I H locs) (hBk : ∀ n G a H, B k n G a H ↔ jAq (dC, dI) cA P n G a H) (t0 : Nat) {ty : FieldType} (ht : tys[t0]? = some (cA, ty)) (hk : k < 1000) (ha : G a = some (k, n)) (hn : n < 2147483648) (hdg : decode cc pc = .ok (.arraylength, 1))
    (kk : ∀ z : Int32, z.toInt = n → W p l e R s m args below meth c H locs cells slots Q (F0 m (pc + 1) ls (.int z :: rest))) : W p l e R s m args below meth c H locs cells slots Q (F0 m pc ls (.ref a :: rest)) := by
  obtain ⟨f, h1, -⟩ := hh.aq hBk hk ha
  exact va_alen (v := Int32.ofNat n) hexec hb hK (jp_one h1) 0 t0 rfl ht rfl hdg (kk _ (jb_nat hn))
theorem jAq_up {f : Nat → Option Nat} {n j : Nat} {o : Option Nat} (h : ∀ j, j < n → P G (f j)) (ho : P G o) : ∀ i, i < n → P G (va_up f j o i) := by
  intro i hi
  by_cases e : i = j
  · subst e; simp only [va_up, if_pos]; exact ho
  · rw [va_up_ne _ _ e]; exact h i hi
end J10
def jQx {S : Type} (post : Value → S → Prop) (B : S → State → Prop) (A : Nat → Prop) : Array Value → State → Outcome → State → Prop := fun _ st oc t => (∃ (r : Value) (u : S), oc = .returned (some r) ∧ post r u ∧ B u t) ∧ va_F A st t
theorem j_callx {p : Program} {l : Launch} {e : Env} {R : Room} {s : State} {m : MethodId} {args : Array Value} {below : List Frame} {meth : Method} {c : Code} {H : Heap} {locs : List Loc} {cells slots : Nat} {Q : State → Prop} {pc : Nat} {ls : Array Slot} {rest st0 : List Value} {a : Array Value} {A0 A1 : Nat → Prop} {H0 : Heap} {mc ms : Nat} {free : Addr → Prop} {S : Type} {post : Value → S → Prop} {B : S → State → Prop} (hr : va_Run p l e R s m args below meth c H locs cells slots mc ms (F0 m pc ls st0) rest (jQx post B A1 a) free) (hS : va_S A0 H0 H locs) (hA : ∀ q, q < H.size → A1 q → A0 q) (hf : ∀ q, free q → A0 q)
    (kk : ∀ (r : Value) (u : S) (t : State) (H1 : Heap) (locs1 : List Loc), t.heap = H1 → s.vm.Alike t.vm → post r u → B u t → H.size ≤ H1.size → (∀ q : Nat, q < H.size → ¬ A1 q → H1[q]? = H[q]?) → va_S A0 H0 H1 locs1 → W p l e R s m args below meth c H1 locs1 (cells + mc) (slots + ms) Q (F0 m (pc + 3) ls (r :: rest))) : W p l e R s m args below meth c H locs cells slots Q (F0 m pc ls st0) := by
  intro T hT X
  obtain ⟨v, st₀, t, T', L, h0, X', hL, e1, e2, ⟨⟨r, u, hv, hp, hb⟩, hz, hk⟩, st⟩ := hr T hT X
  cases hv
  rw [h0] at hz hk
  obtain ⟨t2, a1, b1⟩ := kk r u t T'.heap (locs ++ L) e1.symm (by rw [← e2]; exact X'.warmed.alike) hp hb (by rw [e1]; exact hz) (fun q h1 h2 => by rw [e1]; exact hk q h1 h2)
    ⟨Nat.le_trans hS.1 (by rw [e1]; exact hz), fun q h1 h2 => by rw [e1, hk q (Nat.lt_of_lt_of_le h1 hS.1) (fun z => h2 (hA q (Nat.lt_of_lt_of_le h1 hS.1) z))]; exact hS.2.1 q h1 h2, fun q hq => by
      rcases List.mem_append.mp hq with h | h
      · exact hS.2.2 q h
      · exact hf _ (hL q h)⟩ T' rfl X'
  exact ⟨t2, st t2 a1, b1⟩
end
section
theorem dJ0_indexOf_0f7a4_0 : decode cJ0_indexOf_0f7a4 0 = .ok (.aload_n 0, 1) := by decide +kernel
theorem dJ0_indexOf_0f7a4_1 : decode cJ0_indexOf_0f7a4 1 = .ok (.iload_n 1, 1) := by decide +kernel
theorem dJ0_indexOf_0f7a4_2 : decode cJ0_indexOf_0f7a4 2 = .ok (.iconst 0, 1) := by decide +kernel
theorem dJ0_indexOf_0f7a4_3 : decode cJ0_indexOf_0f7a4 3 = .ok (.invokevirtual 633, 3) := by decide +kernel
theorem dJ0_indexOf_0f7a4_6 : decode cJ0_indexOf_0f7a4 6 = .ok (.ireturn, 1) := by decide +kernel
theorem dJ0_indexOf_7cf53_0 : decode cJ0_indexOf_7cf53 0 = .ok (.aload_n 0, 1) := by decide +kernel
theorem dJ0_indexOf_7cf53_1 : decode cJ0_indexOf_7cf53 1 = .ok (.invokevirtual 492, 3) := by decide +kernel
theorem dJ0_indexOf_7cf53_4 : decode cJ0_indexOf_7cf53 4 = .ok (.ifCond .eq 19, 3) := by decide +kernel
theorem dJ0_indexOf_7cf53_7 : decode cJ0_indexOf_7cf53 7 = .ok (.aload_n 0, 1) := by decide +kernel
theorem dJ0_indexOf_7cf53_8 : decode cJ0_indexOf_7cf53 8 = .ok (.getfield 9, 3) := by decide +kernel
theorem dJ0_indexOf_7cf53_11 : decode cJ0_indexOf_7cf53 11 = .ok (.iload_n 1, 1) := by decide +kernel
theorem dJ0_indexOf_7cf53_12 : decode cJ0_indexOf_7cf53 12 = .ok (.iload_n 2, 1) := by decide +kernel
theorem dJ0_indexOf_7cf53_13 : decode cJ0_indexOf_7cf53 13 = .ok (.aload_n 0, 1) := by decide +kernel
theorem dJ0_indexOf_7cf53_14 : decode cJ0_indexOf_7cf53 14 = .ok (.invokevirtual 505, 3) := by decide +kernel
theorem dJ0_indexOf_7cf53_17 : decode cJ0_indexOf_7cf53 17 = .ok (.invokestatic 637, 3) := by decide +kernel
theorem dJ0_indexOf_7cf53_20 : decode cJ0_indexOf_7cf53 20 = .ok (.goto 16, 3) := by decide +kernel
theorem dJ0_indexOf_7cf53_36 : decode cJ0_indexOf_7cf53 36 = .ok (.ireturn, 1) := by decide +kernel
theorem dJ1_canEncode_9a6ad_0 : decode cJ1_canEncode_9a6ad 0 = .ok (.iload_n 0, 1) := by decide +kernel
theorem dJ1_canEncode_9a6ad_1 : decode cJ1_canEncode_9a6ad 1 = .ok (.ifCond .lt 14, 3) := by decide +kernel
theorem dJ1_canEncode_9a6ad_4 : decode cJ1_canEncode_9a6ad 4 = .ok (.iload_n 0, 1) := by decide +kernel
theorem dJ1_canEncode_9a6ad_5 : decode cJ1_canEncode_9a6ad 5 = .ok (.sipush 255, 3) := by decide +kernel
theorem dJ1_canEncode_9a6ad_8 : decode cJ1_canEncode_9a6ad 8 = .ok (.if_icmp .gt 7, 3) := by decide +kernel
theorem dJ1_canEncode_9a6ad_11 : decode cJ1_canEncode_9a6ad 11 = .ok (.iconst 1, 1) := by decide +kernel
theorem dJ1_canEncode_9a6ad_12 : decode cJ1_canEncode_9a6ad 12 = .ok (.goto 4, 3) := by decide +kernel
theorem dJ1_canEncode_9a6ad_15 : decode cJ1_canEncode_9a6ad 15 = .ok (.iconst 0, 1) := by decide +kernel
theorem dJ1_canEncode_9a6ad_16 : decode cJ1_canEncode_9a6ad 16 = .ok (.ireturn, 1) := by decide +kernel
theorem dJ1_indexOf_4cfef_0 : decode cJ1_indexOf_4cfef 0 = .ok (.iload_n 1, 1) := by decide +kernel
theorem dJ1_indexOf_4cfef_1 : decode cJ1_indexOf_4cfef 1 = .ok (.invokestatic 88, 3) := by decide +kernel
theorem dJ1_indexOf_4cfef_4 : decode cJ1_indexOf_4cfef 4 = .ok (.ifCond .ne 5, 3) := by decide +kernel
theorem dJ1_indexOf_4cfef_7 : decode cJ1_indexOf_4cfef 7 = .ok (.iconst (-1), 1) := by decide +kernel
theorem dJ1_indexOf_4cfef_8 : decode cJ1_indexOf_4cfef 8 = .ok (.ireturn, 1) := by decide +kernel
theorem dJ1_indexOf_4cfef_9 : decode cJ1_indexOf_4cfef 9 = .ok (.iload_n 2, 1) := by decide +kernel
theorem dJ1_indexOf_4cfef_10 : decode cJ1_indexOf_4cfef 10 = .ok (.iconst 0, 1) := by decide +kernel
theorem dJ1_indexOf_4cfef_11 : decode cJ1_indexOf_4cfef 11 = .ok (.invokestatic 92, 3) := by decide +kernel
theorem dJ1_indexOf_4cfef_14 : decode cJ1_indexOf_4cfef 14 = .ok (.istore_n 2, 1) := by decide +kernel
theorem dJ1_indexOf_4cfef_15 : decode cJ1_indexOf_4cfef 15 = .ok (.iload_n 3, 1) := by decide +kernel
theorem dJ1_indexOf_4cfef_16 : decode cJ1_indexOf_4cfef 16 = .ok (.aload_n 0, 1) := by decide +kernel
theorem dJ1_indexOf_4cfef_17 : decode cJ1_indexOf_4cfef 17 = .ok (.arraylength, 1) := by decide +kernel
theorem dJ1_indexOf_4cfef_18 : decode cJ1_indexOf_4cfef 18 = .ok (.invokestatic 38, 3) := by decide +kernel
theorem dJ1_indexOf_4cfef_21 : decode cJ1_indexOf_4cfef 21 = .ok (.istore_n 3, 1) := by decide +kernel
theorem dJ1_indexOf_4cfef_22 : decode cJ1_indexOf_4cfef 22 = .ok (.iload_n 2, 1) := by decide +kernel
theorem dJ1_indexOf_4cfef_23 : decode cJ1_indexOf_4cfef 23 = .ok (.iload_n 3, 1) := by decide +kernel
theorem dJ1_indexOf_4cfef_24 : decode cJ1_indexOf_4cfef 24 = .ok (.if_icmp .lt 5, 3) := by decide +kernel
theorem dJ1_indexOf_4cfef_27 : decode cJ1_indexOf_4cfef 27 = .ok (.iconst (-1), 1) := by decide +kernel
theorem dJ1_indexOf_4cfef_28 : decode cJ1_indexOf_4cfef 28 = .ok (.ireturn, 1) := by decide +kernel
theorem dJ1_indexOf_4cfef_29 : decode cJ1_indexOf_4cfef 29 = .ok (.aload_n 0, 1) := by decide +kernel
theorem dJ1_indexOf_4cfef_30 : decode cJ1_indexOf_4cfef 30 = .ok (.iload_n 1, 1) := by decide +kernel
theorem dJ1_indexOf_4cfef_31 : decode cJ1_indexOf_4cfef 31 = .ok (.iload_n 2, 1) := by decide +kernel
theorem dJ1_indexOf_4cfef_32 : decode cJ1_indexOf_4cfef 32 = .ok (.iload_n 3, 1) := by decide +kernel
theorem dJ1_indexOf_4cfef_33 : decode cJ1_indexOf_4cfef 33 = .ok (.invokestatic 95, 3) := by decide +kernel
theorem dJ1_indexOf_4cfef_36 : decode cJ1_indexOf_4cfef 36 = .ok (.ireturn, 1) := by decide +kernel
theorem dJ1_indexOfChar_4cfef_0 : decode cJ1_indexOfChar_4cfef 0 = .ok (.iload_n 1, 1) := by decide +kernel
theorem dJ1_indexOfChar_4cfef_1 : decode cJ1_indexOfChar_4cfef 1 = .ok (.i2b, 1) := by decide +kernel
theorem dJ1_indexOfChar_4cfef_2 : decode cJ1_indexOfChar_4cfef 2 = .ok (.istore 4, 2) := by decide +kernel
theorem dJ1_indexOfChar_4cfef_4 : decode cJ1_indexOfChar_4cfef 4 = .ok (.iload_n 2, 1) := by decide +kernel
theorem dJ1_indexOfChar_4cfef_5 : decode cJ1_indexOfChar_4cfef 5 = .ok (.istore 5, 2) := by decide +kernel
theorem dJ1_indexOfChar_4cfef_7 : decode cJ1_indexOfChar_4cfef 7 = .ok (.iload 5, 2) := by decide +kernel
theorem dJ1_indexOfChar_4cfef_9 : decode cJ1_indexOfChar_4cfef 9 = .ok (.iload_n 3, 1) := by decide +kernel
theorem dJ1_indexOfChar_4cfef_10 : decode cJ1_indexOfChar_4cfef 10 = .ok (.if_icmp .ge 21, 3) := by decide +kernel
theorem dJ1_indexOfChar_4cfef_13 : decode cJ1_indexOfChar_4cfef 13 = .ok (.aload_n 0, 1) := by decide +kernel
theorem dJ1_indexOfChar_4cfef_14 : decode cJ1_indexOfChar_4cfef 14 = .ok (.iload 5, 2) := by decide +kernel
theorem dJ1_indexOfChar_4cfef_16 : decode cJ1_indexOfChar_4cfef 16 = .ok (.baload, 1) := by decide +kernel
theorem dJ1_indexOfChar_4cfef_17 : decode cJ1_indexOfChar_4cfef 17 = .ok (.iload 4, 2) := by decide +kernel
theorem dJ1_indexOfChar_4cfef_19 : decode cJ1_indexOfChar_4cfef 19 = .ok (.if_icmp .ne 6, 3) := by decide +kernel
theorem dJ1_indexOfChar_4cfef_22 : decode cJ1_indexOfChar_4cfef 22 = .ok (.iload 5, 2) := by decide +kernel
theorem dJ1_indexOfChar_4cfef_24 : decode cJ1_indexOfChar_4cfef 24 = .ok (.ireturn, 1) := by decide +kernel
theorem dJ1_indexOfChar_4cfef_25 : decode cJ1_indexOfChar_4cfef 25 = .ok (.iinc 5 1, 3) := by decide +kernel
theorem dJ1_indexOfChar_4cfef_28 : decode cJ1_indexOfChar_4cfef 28 = .ok (.goto (-21), 3) := by decide +kernel
theorem dJ1_indexOfChar_4cfef_31 : decode cJ1_indexOfChar_4cfef 31 = .ok (.iconst (-1), 1) := by decide +kernel
theorem dJ1_indexOfChar_4cfef_32 : decode cJ1_indexOfChar_4cfef 32 = .ok (.ireturn, 1) := by decide +kernel
set_option maxHeartbeats 4000000 in
set_option maxRecDepth 20000 in
theorem wJ0_coder_7d493 (l : Launch) (dC : Nat → ClassId) (dI : Nat → Nat → Nat) (ca : Nat → ClassId) (base : Nat) (H0 : Heap) (h0 n : Nat) : Met l yJ0_coder_7d493 (jw yJ0_coder_7d493 cJ0_coder_7d493 1 (some .byte)) ({ frames := 0, cells := 0, slots := 0, locals := 0 }) (va_Pc [.ref h0] (fun U => U.heap = H0 ∧ jStr base h0 n U H0 ∧ jG dC dI ca base U ∧ (n < 2147483648))) (vp_Si (fun r => r = 0)) 0 0 (fun _ => False) := by
  refine Met.ofW (cc := cJ0_coder_7d493) (maxL := 1) (ret := (some .byte)) (by decide) rfl ?_
  intro p e s m args below meth c s₁ B hml hv
  obtain ⟨rfl, hH0, hstr_h0, hG, hpre⟩ := hv
  have hK := hG.1
  have hx := B.exec
  have hb := B.bytes
  have hr := B.returns
  have hts := atoms_spec (ws := (jw yJ0_coder_7d493 cJ0_coder_7d493 1 (some .byte))) B.pre
  have htw : ∀ w ∈ jWl, w.before _ s = true := fun w h => hts w (List.mem_cons_of_mem _ h)
  have hown : s.vm.findClass RJ0 = some m.cls := findClass_of_methodNamed B.named
  have hlocks := B.notSynchronized
  obtain ⟨Q, hQ⟩ : ∃ Q, Q = MQ below (vp_Si (fun r => r = 0)) ([.ref h0] : List Value).toArray s 0 0 (fun _ => False) := ⟨_, rfl⟩
  rw [← hQ]
  have hl := lv_entry ([.ref h0]) (n := 1) (Nat.le_of_ble_eq_true rfl)
  rw [lg_entry_eq]
  generalize (lg_sl ([.ref h0]) ++ List.replicate (1 - (lg_sl ([.ref h0])).length) Slot.unset).toArray = ls at hl ⊢
  have hl : lv_has ls 1 [(0, .ref h0)] := hl
  generalize hR : (headSpec (jw yJ0_coder_7d493 cJ0_coder_7d493 1 (some .byte)) ({ frames := 0, cells := 0, slots := 0, locals := 0 })).room = R
  subst hH0
  have hS : va_S (jA base) s.heap s.heap [] := va_S.rf
  have hk0 : (0 : Int32).toInt = 0 := by decide
  have hk1 : (1 : Int32).toInt = 1 := by decide
  refine va_gets hx hb hG.2.2.2.2.1 hS hown (htw (.fieldLink RJ0 38 "java/lang/String" "COMPACT_STRINGS" "Z") (jWr_5 _ (List.mem_of_getElem? (i := 22) rfl))) (fun _ h9 => h9) dJ0_coder_7d493_0 ?_
  refine lv_if_eq (tgt := 13) hx hb dJ0_coder_7d493_3 (by decide) (fun c_1 => ?_) (fun c_1 => ?_)
  · skip
    exact absurd c_1 (by decide)
  · skip
    refine lv_aload_n hx hb dJ0_coder_7d493_6 rfl (lv_at hl 0 rfl) ?_
    refine vk_getf hx hb hstr_h0.2.1 hS hown (htw (.fieldLink RJ0 15 "java/lang/String" "coder" "B") (jWr_5 _ (List.mem_of_getElem? (i := 23) rfl))) (fun _ h9 => h9) dJ0_coder_7d493_7 ?_
    refine lv_goto (tgt := 14) hx hb dJ0_coder_7d493_10 (by decide) ?_
    rw [hQ]
    exact W.zret (v := 0) hx hb hr rfl (fun t ht hW => ⟨0, rfl, rfl, ht⟩) (fun _ h => nomatch h) dJ0_coder_7d493_14
set_option maxHeartbeats 4000000 in
set_option maxRecDepth 20000 in
theorem wJ0_isLatin1_aae02 (l : Launch) (dC : Nat → ClassId) (dI : Nat → Nat → Nat) (ca : Nat → ClassId) (base : Nat) (H0 : Heap) (h0 n : Nat) : Met l yJ0_isLatin1_aae02 (jw yJ0_isLatin1_aae02 cJ0_isLatin1_aae02 1 (some .boolean)) ({ frames := 0, cells := 0, slots := 0, locals := 0 }) (va_Pc [.ref h0] (fun U => U.heap = H0 ∧ jStr base h0 n U H0 ∧ jG dC dI ca base U ∧ (n < 2147483648))) (vp_Si (fun r => r = 1)) 0 0 (fun _ => False) := by
  refine Met.ofW (cc := cJ0_isLatin1_aae02) (maxL := 1) (ret := (some .boolean)) (by decide) rfl ?_
  intro p e s m args below meth c s₁ B hml hv
  obtain ⟨rfl, hH0, hstr_h0, hG, hpre⟩ := hv
  have hK := hG.1
  have hx := B.exec
  have hb := B.bytes
  have hr := B.returns
  have hts := atoms_spec (ws := (jw yJ0_isLatin1_aae02 cJ0_isLatin1_aae02 1 (some .boolean))) B.pre
  have htw : ∀ w ∈ jWl, w.before _ s = true := fun w h => hts w (List.mem_cons_of_mem _ h)
  have hown : s.vm.findClass RJ0 = some m.cls := findClass_of_methodNamed B.named
  have hlocks := B.notSynchronized
  obtain ⟨Q, hQ⟩ : ∃ Q, Q = MQ below (vp_Si (fun r => r = 1)) ([.ref h0] : List Value).toArray s 0 0 (fun _ => False) := ⟨_, rfl⟩
  rw [← hQ]
  have hl := lv_entry ([.ref h0]) (n := 1) (Nat.le_of_ble_eq_true rfl)
  rw [lg_entry_eq]
  generalize (lg_sl ([.ref h0]) ++ List.replicate (1 - (lg_sl ([.ref h0])).length) Slot.unset).toArray = ls at hl ⊢
  have hl : lv_has ls 1 [(0, .ref h0)] := hl
  generalize hR : (headSpec (jw yJ0_isLatin1_aae02 cJ0_isLatin1_aae02 1 (some .boolean)) ({ frames := 0, cells := 0, slots := 0, locals := 0 })).room = R
  subst hH0
  have hS : va_S (jA base) s.heap s.heap [] := va_S.rf
  have hk0 : (0 : Int32).toInt = 0 := by decide
  have hk1 : (1 : Int32).toInt = 1 := by decide
  refine va_gets hx hb hG.2.2.2.2.1 hS hown (htw (.fieldLink RJ0 38 "java/lang/String" "COMPACT_STRINGS" "Z") (jWr_5 _ (List.mem_of_getElem? (i := 22) rfl))) (fun _ h9 => h9) dJ0_isLatin1_aae02_0 ?_
  refine lv_if_eq (tgt := 17) hx hb dJ0_isLatin1_aae02_3 (by decide) (fun c_1 => ?_) (fun c_1 => ?_)
  · skip
    exact absurd c_1 (by decide)
  · skip
    refine lv_aload_n hx hb dJ0_isLatin1_aae02_6 rfl (lv_at hl 0 rfl) ?_
    refine vk_getf hx hb hstr_h0.2.1 hS hown (htw (.fieldLink RJ0 15 "java/lang/String" "coder" "B") (jWr_5 _ (List.mem_of_getElem? (i := 23) rfl))) (fun _ h9 => h9) dJ0_isLatin1_aae02_7 ?_
    refine lv_if_ne (tgt := 17) hx hb dJ0_isLatin1_aae02_10 (by decide) (fun c_2 => ?_) (fun c_2 => ?_)
    · skip
      exact absurd c_2 (by decide)
    · skip
      refine lv_iconst (v := 1) hx hb dJ0_isLatin1_aae02_13 (by decide) ?_
      refine lv_goto (tgt := 18) hx hb dJ0_isLatin1_aae02_14 (by decide) ?_
      rw [hQ]
      exact W.zret (v := 1) hx hb hr (jb_nz (Or.inr rfl)) (fun t ht hW => ⟨1, rfl, rfl, ht⟩) (fun _ h => nomatch h) dJ0_isLatin1_aae02_18
set_option maxHeartbeats 4000000 in
set_option maxRecDepth 20000 in
theorem wJ0_length_8abf5 (l : Launch) (dC : Nat → ClassId) (dI : Nat → Nat → Nat) (ca : Nat → ClassId) (base : Nat) (H0 : Heap) (h0 n : Nat) : Met l yJ0_length_8abf5 (jw yJ0_length_8abf5 cJ0_length_8abf5 1 (some .int)) ({ frames := 1, cells := 0, slots := 0, locals := 20 }) (va_Pc [.ref h0] (fun U => U.heap = H0 ∧ jStr base h0 n U H0 ∧ jG dC dI ca base U ∧ (n < 2147483648))) (vp_Si (fun r => r.toInt = n)) 0 0 (fun _ => False) := by
  refine Met.ofW (cc := cJ0_length_8abf5) (maxL := 1) (ret := (some .int)) (by decide) rfl ?_
  intro p e s m args below meth c s₁ B hml hv
  obtain ⟨rfl, hH0, hstr_h0, hG, hpre⟩ := hv
  have hK := hG.1
  have hx := B.exec
  have hb := B.bytes
  have hr := B.returns
  have hts := atoms_spec (ws := (jw yJ0_length_8abf5 cJ0_length_8abf5 1 (some .int))) B.pre
  have htw : ∀ w ∈ jWl, w.before _ s = true := fun w h => hts w (List.mem_cons_of_mem _ h)
  have hown : s.vm.findClass RJ0 = some m.cls := findClass_of_methodNamed B.named
  have hlocks := B.notSynchronized
  obtain ⟨Q, hQ⟩ : ∃ Q, Q = MQ below (vp_Si (fun r => r.toInt = n)) ([.ref h0] : List Value).toArray s 0 0 (fun _ => False) := ⟨_, rfl⟩
  rw [← hQ]
  have hl := lv_entry ([.ref h0]) (n := 1) (Nat.le_of_ble_eq_true rfl)
  rw [lg_entry_eq]
  generalize (lg_sl ([.ref h0]) ++ List.replicate (1 - (lg_sl ([.ref h0])).length) Slot.unset).toArray = ls at hl ⊢
  have hl : lv_has ls 1 [(0, .ref h0)] := hl
  generalize hR : (headSpec (jw yJ0_length_8abf5 cJ0_length_8abf5 1 (some .int)) ({ frames := 1, cells := 0, slots := 0, locals := 20 })).room = R
  subst hH0
  have hS : va_S (jA base) s.heap s.heap [] := va_S.rf
  have hk0 : (0 : Int32).toInt = 0 := by decide
  have hk1 : (1 : Int32).toInt = 1 := by decide
  refine lv_aload_n hx hb dJ0_length_8abf5_0 rfl (lv_at hl 0 rfl) ?_
  obtain ⟨sv_1, fsv_1, gsv_1, hsv_1⟩ := hstr_h0.2.2
  refine vk_getf hx hb gsv_1 hS hown (htw (.fieldLink RJ0 9 "java/lang/String" "value" "[B") (jWr_5 _ (List.mem_of_getElem? (i := 17) rfl))) (fun _ h9 => h9) dJ0_length_8abf5_1 ?_
  refine va_tlen hx hb hsv_1 hS (v := Int32.ofNat n) rfl dJ0_length_8abf5_4 ?_
  refine lv_topi (fun z_2 ez_2 => ?_)
  have hz_2 : z_2.toInt = n := by rw [ez_2]; exact jb_nat (by omega)
  refine lv_aload_n hx hb dJ0_length_8abf5_5 rfl (lv_at hl 0 rfl) ?_
  refine vp_callSi (W.runV (As := []) (rest := [.int z_2]) ⟨hx, hb, hml, hown, hts⟩ (wJ0_coder_7d493 l dC dI ca base s.heap h0 n) (cwV 0 hts (jgV (jWr_5 _ (List.mem_of_getElem? (i := 18) rfl)) (jWr_5 _ (List.mem_of_getElem? (i := 19) rfl)) (jWr_5 _ (List.mem_of_getElem? (i := 20) rfl)) (jWr_5 _ (List.mem_of_getElem? (i := 15) rfl)) (jWr_5 _ (List.mem_of_getElem? (i := 21) rfl))) rfl rfl rfl (by decide +kernel) ⟨by rw [← hR]; exact Nat.le_of_ble_eq_true rfl, by rw [← hR]; exact Nat.le_of_ble_eq_true rfl⟩) ⟨fun a U g mk q => by obtain ⟨q0, q1, q2, qK, q9⟩ := q; exact ⟨q0, q1, (q2.moved (Vm.Alike.refl U.vm)), jG.calling g mk a qK, q9⟩, jStr_recv hstr_h0 hS, fun U hU hW => ⟨rfl, hU, (hstr_h0.moved hW.alike).kept hS.2.1, hG.step hW hU hS, by omega⟩⟩ rfl rfl hl.1 rfl (lv_room (Nat.le_of_ble_eq_true rfl)) dJ0_length_8abf5_6 ⟨Nat.zero_le _, Nat.zero_le _⟩) (fun r_3 hr_3 => ?_)
  subst hr_3
  refine lv_ishr hx hb dJ0_length_8abf5_9 ?_
  refine lv_topi (fun z_4 ez_4 => ?_)
  have hz_4 : z_4.toInt = z_2.toInt / 2 ^ 0 := by rw [ez_4]; exact jb_ishr 0 (rfl) (by decide)
  rw [hQ]
  exact W.iret (v := z_4) hx hb hr (fun t ht hW => ⟨z_4, rfl, by first | trivial | omega | (constructor <;> omega), ht⟩) (fun _ h => nomatch h) dJ0_length_8abf5_10
set_option maxHeartbeats 4000000 in
set_option maxRecDepth 20000 in
theorem wJ3_checkIndex_8e157_z (l : Launch) (dC : Nat → ClassId) (dI : Nat → Nat → Nat) (ca : Nat → ClassId) (base : Nat) (H0 : Heap) (a0 : Int32) (a1 : Int32) : Met l yJ3_checkIndex_8e157 (jw yJ3_checkIndex_8e157 cJ3_checkIndex_8e157 3 (some .int)) ({ frames := 0, cells := 0, slots := 0, locals := 0 }) (va_Pc [.int a0, .int a1, .null] (fun U => U.heap = H0 ∧ jG dC dI ca base U ∧ (0 ≤ a0.toInt ∧ a0.toInt < a1.toInt))) (vp_Si (fun r => r = a0)) 0 0 (fun _ => False) := by
  refine Met.ofW (cc := cJ3_checkIndex_8e157) (maxL := 3) (ret := (some .int)) (by decide) rfl ?_
  intro p e s m args below meth c s₁ B hml hv
  obtain ⟨rfl, hH0, hG, hp1, hp2⟩ := hv
  have hK := hG.1
  have hx := B.exec
  have hb := B.bytes
  have hr := B.returns
  have hts := atoms_spec (ws := (jw yJ3_checkIndex_8e157 cJ3_checkIndex_8e157 3 (some .int))) B.pre
  have htw : ∀ w ∈ jWl, w.before _ s = true := fun w h => hts w (List.mem_cons_of_mem _ h)
  have hown : s.vm.findClass RJ3 = some m.cls := findClass_of_methodNamed B.named
  have hlocks := B.notSynchronized
  obtain ⟨Q, hQ⟩ : ∃ Q, Q = MQ below (vp_Si (fun r => r = a0)) ([.int a0, .int a1, .null] : List Value).toArray s 0 0 (fun _ => False) := ⟨_, rfl⟩
  rw [← hQ]
  have hl := lv_entry ([.int a0, .int a1, .null]) (n := 3) (Nat.le_of_ble_eq_true rfl)
  rw [lg_entry_eq]
  generalize (lg_sl ([.int a0, .int a1, .null]) ++ List.replicate (3 - (lg_sl ([.int a0, .int a1, .null])).length) Slot.unset).toArray = ls at hl ⊢
  have hl : lv_has ls 3 [(0, .int a0), (1, .int a1), (2, .null)] := hl
  generalize hR : (headSpec (jw yJ3_checkIndex_8e157 cJ3_checkIndex_8e157 3 (some .int)) ({ frames := 0, cells := 0, slots := 0, locals := 0 })).room = R
  subst hH0
  have hS : va_S (jA base) s.heap s.heap [] := va_S.rf
  have hk0 : (0 : Int32).toInt = 0 := by decide
  have hk1 : (1 : Int32).toInt = 1 := by decide
  refine lv_iload_n hx hb dJ3_checkIndex_8e157_0 rfl (lv_at hl 0 rfl) ?_
  refine lv_if_lt (tgt := 9) hx hb dJ3_checkIndex_8e157_1 (by decide) (fun c_1 => ?_) (fun c_1 => ?_)
  · skip
    have c_1' : a0.toInt < 0 := jb_lt (rfl) ((by decide)) c_1
    exact absurd c_1' (by omega)
  · skip
    have c_1' : a0.toInt ≥ 0 := jb_lt_n (rfl) ((by decide)) c_1
    refine lv_iload_n hx hb dJ3_checkIndex_8e157_4 rfl (lv_at hl 0 rfl) ?_
    refine lv_iload_n hx hb dJ3_checkIndex_8e157_5 rfl (lv_at hl 1 rfl) ?_
    refine lv_icmp_lt (tgt := 16) hx hb dJ3_checkIndex_8e157_6 (by decide) (fun c_2 => ?_) (fun c_2 => ?_)
    · skip
      have c_2' : a0.toInt < a1.toInt := jb_lt (rfl) (rfl) c_2
      refine lv_iload_n hx hb dJ3_checkIndex_8e157_16 rfl (lv_at hl 0 rfl) ?_
      rw [hQ]
      exact W.iret (v := a0) hx hb hr (fun t ht hW => ⟨a0, rfl, rfl, ht⟩) (fun _ h => nomatch h) dJ3_checkIndex_8e157_17
    · skip
      have c_2' : a0.toInt ≥ a1.toInt := jb_lt_n (rfl) (rfl) c_2
      exact absurd c_2' (by omega)
set_option maxHeartbeats 4000000 in
set_option maxRecDepth 20000 in
theorem wJ3_checkIndex_8e157_a (l : Launch) (dC : Nat → ClassId) (dI : Nat → Nat → Nat) (ca : Nat → ClassId) (base : Nat) (H0 : Heap) (a0 : Int32) (a1 : Int32) (a2 : Nat) : Met l yJ3_checkIndex_8e157 (jw yJ3_checkIndex_8e157 cJ3_checkIndex_8e157 3 (some .int)) ({ frames := 0, cells := 0, slots := 0, locals := 0 }) (va_Pc [.int a0, .int a1, .ref a2] (fun U => U.heap = H0 ∧ jG dC dI ca base U ∧ (0 ≤ a0.toInt ∧ a0.toInt < a1.toInt))) (vp_Si (fun r => r = a0)) 0 0 (fun _ => False) := by
  refine Met.ofW (cc := cJ3_checkIndex_8e157) (maxL := 3) (ret := (some .int)) (by decide) rfl ?_
  intro p e s m args below meth c s₁ B hml hv
  obtain ⟨rfl, hH0, hG, hp1, hp2⟩ := hv
  have hK := hG.1
  have hx := B.exec
  have hb := B.bytes
  have hr := B.returns
  have hts := atoms_spec (ws := (jw yJ3_checkIndex_8e157 cJ3_checkIndex_8e157 3 (some .int))) B.pre
  have htw : ∀ w ∈ jWl, w.before _ s = true := fun w h => hts w (List.mem_cons_of_mem _ h)
  have hown : s.vm.findClass RJ3 = some m.cls := findClass_of_methodNamed B.named
  have hlocks := B.notSynchronized
  obtain ⟨Q, hQ⟩ : ∃ Q, Q = MQ below (vp_Si (fun r => r = a0)) ([.int a0, .int a1, .ref a2] : List Value).toArray s 0 0 (fun _ => False) := ⟨_, rfl⟩
  rw [← hQ]
  have hl := lv_entry ([.int a0, .int a1, .ref a2]) (n := 3) (Nat.le_of_ble_eq_true rfl)
  rw [lg_entry_eq]
  generalize (lg_sl ([.int a0, .int a1, .ref a2]) ++ List.replicate (3 - (lg_sl ([.int a0, .int a1, .ref a2])).length) Slot.unset).toArray = ls at hl ⊢
  have hl : lv_has ls 3 [(0, .int a0), (1, .int a1), (2, .ref a2)] := hl
  generalize hR : (headSpec (jw yJ3_checkIndex_8e157 cJ3_checkIndex_8e157 3 (some .int)) ({ frames := 0, cells := 0, slots := 0, locals := 0 })).room = R
  subst hH0
  have hS : va_S (jA base) s.heap s.heap [] := va_S.rf
  have hk0 : (0 : Int32).toInt = 0 := by decide
  have hk1 : (1 : Int32).toInt = 1 := by decide
  refine lv_iload_n hx hb dJ3_checkIndex_8e157_0 rfl (lv_at hl 0 rfl) ?_
  refine lv_if_lt (tgt := 9) hx hb dJ3_checkIndex_8e157_1 (by decide) (fun c_1 => ?_) (fun c_1 => ?_)
  · skip
    have c_1' : a0.toInt < 0 := jb_lt (rfl) ((by decide)) c_1
    exact absurd c_1' (by omega)
  · skip
    have c_1' : a0.toInt ≥ 0 := jb_lt_n (rfl) ((by decide)) c_1
    refine lv_iload_n hx hb dJ3_checkIndex_8e157_4 rfl (lv_at hl 0 rfl) ?_
    refine lv_iload_n hx hb dJ3_checkIndex_8e157_5 rfl (lv_at hl 1 rfl) ?_
    refine lv_icmp_lt (tgt := 16) hx hb dJ3_checkIndex_8e157_6 (by decide) (fun c_2 => ?_) (fun c_2 => ?_)
    · skip
      have c_2' : a0.toInt < a1.toInt := jb_lt (rfl) (rfl) c_2
      refine lv_iload_n hx hb dJ3_checkIndex_8e157_16 rfl (lv_at hl 0 rfl) ?_
      rw [hQ]
      exact W.iret (v := a0) hx hb hr (fun t ht hW => ⟨a0, rfl, rfl, ht⟩) (fun _ h => nomatch h) dJ3_checkIndex_8e157_17
    · skip
      have c_2' : a0.toInt ≥ a1.toInt := jb_lt_n (rfl) (rfl) c_2
      exact absurd c_2' (by omega)
set_option maxHeartbeats 4000000 in
set_option maxRecDepth 20000 in
theorem wJ0_checkIndex_df160 (l : Launch) (dC : Nat → ClassId) (dI : Nat → Nat → Nat) (ca : Nat → ClassId) (base : Nat) (H0 : Heap) (a0 : Int32) (a1 : Int32) : Met l yJ0_checkIndex_df160 (jw yJ0_checkIndex_df160 cJ0_checkIndex_df160 2 none) ({ frames := 1, cells := 0, slots := 0, locals := 40 }) (va_Pc [.int a0, .int a1] (fun U => U.heap = H0 ∧ jG dC dI ca base U ∧ (0 ≤ a0.toInt ∧ a0.toInt < a1.toInt))) (va_Sv (fun _ => True)) 0 0 (fun _ => False) := by
  refine Met.ofW (cc := cJ0_checkIndex_df160) (maxL := 2) (ret := none) (by decide) rfl ?_
  intro p e s m args below meth c s₁ B hml hv
  obtain ⟨rfl, hH0, hG, hp1, hp2⟩ := hv
  have hK := hG.1
  have hx := B.exec
  have hb := B.bytes
  have hr := B.returns
  have hts := atoms_spec (ws := (jw yJ0_checkIndex_df160 cJ0_checkIndex_df160 2 none)) B.pre
  have htw : ∀ w ∈ jWl, w.before _ s = true := fun w h => hts w (List.mem_cons_of_mem _ h)
  have hown : s.vm.findClass RJ0 = some m.cls := findClass_of_methodNamed B.named
  have hlocks := B.notSynchronized
  obtain ⟨Q, hQ⟩ : ∃ Q, Q = MQ below (va_Sv (fun _ => True)) ([.int a0, .int a1] : List Value).toArray s 0 0 (fun _ => False) := ⟨_, rfl⟩
  rw [← hQ]
  have hl := lv_entry ([.int a0, .int a1]) (n := 2) (Nat.le_of_ble_eq_true rfl)
  rw [lg_entry_eq]
  generalize (lg_sl ([.int a0, .int a1]) ++ List.replicate (2 - (lg_sl ([.int a0, .int a1])).length) Slot.unset).toArray = ls at hl ⊢
  have hl : lv_has ls 2 [(0, .int a0), (1, .int a1)] := hl
  generalize hR : (headSpec (jw yJ0_checkIndex_df160 cJ0_checkIndex_df160 2 none) ({ frames := 1, cells := 0, slots := 0, locals := 40 })).room = R
  subst hH0
  have hS : va_S (jA base) s.heap s.heap [] := va_S.rf
  have hk0 : (0 : Int32).toInt = 0 := by decide
  have hk1 : (1 : Int32).toInt = 1 := by decide
  refine lv_iload_n hx hb dJ0_checkIndex_df160_0 rfl (lv_at hl 0 rfl) ?_
  refine lv_iload_n hx hb dJ0_checkIndex_df160_1 rfl (lv_at hl 1 rfl) ?_
  rcases hG.2.2.2.2.2.2.2 with hz9 | ⟨t9, hz9⟩
  · refine va_gets hx hb hz9 hS hown (htw (.fieldLink RJ0 1053 "jdk/internal/util/Preconditions" "SIOOBE_FORMATTER" "Ljava/util/function/BiFunction;") (jWr_6 _ (List.mem_of_getElem? (i := 15) rfl))) (fun _ h9 => h9) dJ0_checkIndex_df160_2 ?_
    refine vp_callSi (W.runS (As := [.int a0, .int a1, .null]) (rest := []) ⟨hx, hb, hml, hown, hts⟩ (wJ3_checkIndex_8e157_z l dC dI ca base s.heap a0 a1) (va_cwS 3 hts (jgS (jWr_6 _ (List.mem_of_getElem? (i := 16) rfl)) (jWr_6 _ (List.mem_of_getElem? (i := 17) rfl)) (jWr_6 _ (List.mem_of_getElem? (i := 18) rfl)) (jWr_6 _ (List.mem_of_getElem? (i := 19) rfl))) rfl rfl rfl (by decide +kernel) ⟨by rw [← hR]; exact Nat.le_of_ble_eq_true rfl, by rw [← hR]; exact Nat.le_of_ble_eq_true rfl⟩) ⟨fun a U g mk q => by obtain ⟨q0, q1, qK, q9⟩ := q; exact ⟨q0, q1, jG.calling g mk a qK, q9⟩, fun U hU hW => ⟨rfl, hU, hG.step hW hU hS, by first | trivial | omega | (constructor <;> omega)⟩⟩ rfl rfl hl.1 rfl (lv_room (Nat.le_of_ble_eq_true rfl)) dJ0_checkIndex_df160_5 ⟨Nat.zero_le _, Nat.zero_le _⟩) (fun r_1 hr_1 => ?_)
    refine lv_pop hx hb dJ0_checkIndex_df160_8 rfl ?_
    rw [hQ]
    exact W.vret hx hb hr (fun t ht hW => ⟨rfl, trivial, ht⟩) (fun _ h => nomatch h) dJ0_checkIndex_df160_9
  · refine va_gets hx hb hz9 hS hown (htw (.fieldLink RJ0 1053 "jdk/internal/util/Preconditions" "SIOOBE_FORMATTER" "Ljava/util/function/BiFunction;") (jWr_6 _ (List.mem_of_getElem? (i := 15) rfl))) (fun _ h9 => h9) dJ0_checkIndex_df160_2 ?_
    refine vp_callSi (W.runS (As := [.int a0, .int a1, .ref t9]) (rest := []) ⟨hx, hb, hml, hown, hts⟩ (wJ3_checkIndex_8e157_a l dC dI ca base s.heap a0 a1 t9) (va_cwS 3 hts (jgS (jWr_6 _ (List.mem_of_getElem? (i := 16) rfl)) (jWr_6 _ (List.mem_of_getElem? (i := 17) rfl)) (jWr_6 _ (List.mem_of_getElem? (i := 18) rfl)) (jWr_6 _ (List.mem_of_getElem? (i := 19) rfl))) rfl rfl rfl (by decide +kernel) ⟨by rw [← hR]; exact Nat.le_of_ble_eq_true rfl, by rw [← hR]; exact Nat.le_of_ble_eq_true rfl⟩) ⟨fun a U g mk q => by obtain ⟨q0, q1, qK, q9⟩ := q; exact ⟨q0, q1, jG.calling g mk a qK, q9⟩, fun U hU hW => ⟨rfl, hU, hG.step hW hU hS, by first | trivial | omega | (constructor <;> omega)⟩⟩ rfl rfl hl.1 rfl (lv_room (Nat.le_of_ble_eq_true rfl)) dJ0_checkIndex_df160_5 ⟨Nat.zero_le _, Nat.zero_le _⟩) (fun r_2 hr_2 => ?_)
    refine lv_pop hx hb dJ0_checkIndex_df160_8 rfl ?_
    rw [hQ]
    exact W.vret hx hb hr (fun t ht hW => ⟨rfl, trivial, ht⟩) (fun _ h => nomatch h) dJ0_checkIndex_df160_9
set_option maxHeartbeats 4000000 in
set_option maxRecDepth 20000 in
theorem wJ1_charAt_3b067 (l : Launch) (dC : Nat → ClassId) (dI : Nat → Nat → Nat) (ca : Nat → ClassId) (base : Nat) (H0 : Heap) (h0 n : Nat) (f : Nat → Int32) (a1 : Int32) : Met l yJ1_charAt_3b067 (jw yJ1_charAt_3b067 cJ1_charAt_3b067 2 (some .char)) ({ frames := 2, cells := 0, slots := 0, locals := 80 }) (va_Pc [.ref h0, .int a1] (fun U => U.heap = H0 ∧ va_T .byte h0 n (fun j => .int (f j)) (jA base) U H0 ∧ jG dC dI ca base U ∧ (n < 2147483648 ∧ 0 ≤ a1.toInt ∧ a1.toInt < n))) (vp_Si (fun r => 0 ≤ r.toInt ∧ r.toInt ≤ 255)) 0 0 (fun _ => False) := by
  refine Met.ofW (cc := cJ1_charAt_3b067) (maxL := 2) (ret := (some .char)) (by decide) rfl ?_
  intro p e s m args below meth c s₁ B hml hv
  obtain ⟨rfl, hH0, hsa_h0, hG, hp1, hp2, hp3⟩ := hv
  have hK := hG.1
  have hx := B.exec
  have hb := B.bytes
  have hr := B.returns
  have hts := atoms_spec (ws := (jw yJ1_charAt_3b067 cJ1_charAt_3b067 2 (some .char))) B.pre
  have htw : ∀ w ∈ jWl, w.before _ s = true := fun w h => hts w (List.mem_cons_of_mem _ h)
  have hown : s.vm.findClass RJ1 = some m.cls := findClass_of_methodNamed B.named
  have hlocks := B.notSynchronized
  obtain ⟨Q, hQ⟩ : ∃ Q, Q = MQ below (vp_Si (fun r => 0 ≤ r.toInt ∧ r.toInt ≤ 255)) ([.ref h0, .int a1] : List Value).toArray s 0 0 (fun _ => False) := ⟨_, rfl⟩
  rw [← hQ]
  have hl := lv_entry ([.ref h0, .int a1]) (n := 2) (Nat.le_of_ble_eq_true rfl)
  rw [lg_entry_eq]
  generalize (lg_sl ([.ref h0, .int a1]) ++ List.replicate (2 - (lg_sl ([.ref h0, .int a1])).length) Slot.unset).toArray = ls at hl ⊢
  have hl : lv_has ls 2 [(0, .ref h0), (1, .int a1)] := hl
  generalize hR : (headSpec (jw yJ1_charAt_3b067 cJ1_charAt_3b067 2 (some .char)) ({ frames := 2, cells := 0, slots := 0, locals := 80 })).room = R
  subst hH0
  have hS : va_S (jA base) s.heap s.heap [] := va_S.rf
  have hk0 : (0 : Int32).toInt = 0 := by decide
  have hk1 : (1 : Int32).toInt = 1 := by decide
  have hk255 : (255 : Int32).toInt = 255 := by decide
  refine lv_iload_n hx hb dJ1_charAt_3b067_0 rfl (lv_at hl 1 rfl) ?_
  refine lv_aload_n hx hb dJ1_charAt_3b067_1 rfl (lv_at hl 0 rfl) ?_
  refine va_tlen hx hb hsa_h0 hS (v := Int32.ofNat n) rfl dJ1_charAt_3b067_2 ?_
  refine lv_topi (fun z_1 ez_1 => ?_)
  have hz_1 : z_1.toInt = n := by rw [ez_1]; exact jb_nat (by omega)
  refine va_csv (W.runS (As := [.int a1, .int z_1]) (rest := []) ⟨hx, hb, hml, hown, hts⟩ (wJ0_checkIndex_df160 l dC dI ca base s.heap a1 z_1) (va_cwS 2 hts (jgS (jWr_6 _ (List.mem_of_getElem? (i := 12) rfl)) (jWr_6 _ (List.mem_of_getElem? (i := 13) rfl)) (jWr_5 _ (List.mem_of_getElem? (i := 15) rfl)) (jWr_6 _ (List.mem_of_getElem? (i := 14) rfl))) rfl rfl rfl (by decide +kernel) ⟨by rw [← hR]; exact Nat.le_of_ble_eq_true rfl, by rw [← hR]; exact Nat.le_of_ble_eq_true rfl⟩) ⟨fun a U g mk q => by obtain ⟨q0, q1, qK, q9⟩ := q; exact ⟨q0, q1, jG.calling g mk a qK, q9⟩, fun U hU hW => ⟨rfl, hU, hG.step hW hU hS, by first | trivial | omega | (constructor <;> omega)⟩⟩ rfl rfl hl.1 rfl (lv_room (Nat.le_of_ble_eq_true rfl)) dJ1_charAt_3b067_3 ⟨Nat.zero_le _, Nat.zero_le _⟩) (fun _ => ?_)
  refine lv_aload_n hx hb dJ1_charAt_3b067_6 rfl (lv_at hl 0 rfl) ?_
  refine lv_iload_n hx hb dJ1_charAt_3b067_7 rfl (lv_at hl 1 rfl) ?_
  refine va_tb hx hb hsa_h0 hS (jb_in (rfl) (by omega) (by omega)) rfl dJ1_charAt_3b067_8 ?_
  refine lv_topi (fun z_3 ez_3 => ?_)
  refine lv_sipush (v := 255) hx hb dJ1_charAt_3b067_9 (by decide) ?_
  refine lv_iand hx hb dJ1_charAt_3b067_12 ?_
  refine lv_topi (fun z_4 ez_4 => ?_)
  have hz_4 : 0 ≤ z_4.toInt ∧ z_4.toInt ≤ 255 := by rw [ez_4]; exact jb_and z_3 (m := 255) (k := 8) (by decide) (by decide)
  refine lv_i2c hx hb dJ1_charAt_3b067_13 rfl ?_
  refine lv_topi (fun z_5 ez_5 => ?_)
  rw [hQ]
  exact W.zret (v := z_5) hx hb hr (by rw [ez_5]; exact pk_nc _) (fun t ht hW => ⟨z_5, rfl, by rw [ez_5, ez_4]; exact jb_char _, ht⟩) (fun _ h => nomatch h) dJ1_charAt_3b067_14
set_option maxHeartbeats 4000000 in
set_option maxRecDepth 20000 in
theorem wJ0_charAt_5068e (l : Launch) (dC : Nat → ClassId) (dI : Nat → Nat → Nat) (ca : Nat → ClassId) (base : Nat) (H0 : Heap) (h0 n : Nat) (a1 : Int32) : Met l yJ0_charAt_5068e (jw yJ0_charAt_5068e cJ0_charAt_5068e 2 (some .char)) ({ frames := 3, cells := 0, slots := 0, locals := 120 }) (va_Pc [.ref h0, .int a1] (fun U => U.heap = H0 ∧ jStr base h0 n U H0 ∧ jG dC dI ca base U ∧ (n < 2147483648 ∧ 0 ≤ a1.toInt ∧ a1.toInt < n))) (vp_Si (fun r => 0 ≤ r.toInt ∧ r.toInt ≤ 255)) 0 0 (fun _ => False) := by
  refine Met.ofW (cc := cJ0_charAt_5068e) (maxL := 2) (ret := (some .char)) (by decide) rfl ?_
  intro p e s m args below meth c s₁ B hml hv
  obtain ⟨rfl, hH0, hstr_h0, hG, hp1, hp2, hp3⟩ := hv
  have hK := hG.1
  have hx := B.exec
  have hb := B.bytes
  have hr := B.returns
  have hts := atoms_spec (ws := (jw yJ0_charAt_5068e cJ0_charAt_5068e 2 (some .char))) B.pre
  have htw : ∀ w ∈ jWl, w.before _ s = true := fun w h => hts w (List.mem_cons_of_mem _ h)
  have hown : s.vm.findClass RJ0 = some m.cls := findClass_of_methodNamed B.named
  have hlocks := B.notSynchronized
  obtain ⟨Q, hQ⟩ : ∃ Q, Q = MQ below (vp_Si (fun r => 0 ≤ r.toInt ∧ r.toInt ≤ 255)) ([.ref h0, .int a1] : List Value).toArray s 0 0 (fun _ => False) := ⟨_, rfl⟩
  rw [← hQ]
  have hl := lv_entry ([.ref h0, .int a1]) (n := 2) (Nat.le_of_ble_eq_true rfl)
  rw [lg_entry_eq]
  generalize (lg_sl ([.ref h0, .int a1]) ++ List.replicate (2 - (lg_sl ([.ref h0, .int a1])).length) Slot.unset).toArray = ls at hl ⊢
  have hl : lv_has ls 2 [(0, .ref h0), (1, .int a1)] := hl
  generalize hR : (headSpec (jw yJ0_charAt_5068e cJ0_charAt_5068e 2 (some .char)) ({ frames := 3, cells := 0, slots := 0, locals := 120 })).room = R
  subst hH0
  have hS : va_S (jA base) s.heap s.heap [] := va_S.rf
  have hk0 : (0 : Int32).toInt = 0 := by decide
  have hk1 : (1 : Int32).toInt = 1 := by decide
  refine lv_aload_n hx hb dJ0_charAt_5068e_0 rfl (lv_at hl 0 rfl) ?_
  refine vp_callSi (W.runV (As := []) (rest := []) ⟨hx, hb, hml, hown, hts⟩ (wJ0_isLatin1_aae02 l dC dI ca base s.heap h0 n) (cwV 0 hts (jgV (jWr_6 _ (List.mem_of_getElem? (i := 4) rfl)) (jWr_6 _ (List.mem_of_getElem? (i := 5) rfl)) (jWr_6 _ (List.mem_of_getElem? (i := 6) rfl)) (jWr_5 _ (List.mem_of_getElem? (i := 15) rfl)) (jWr_6 _ (List.mem_of_getElem? (i := 7) rfl))) rfl rfl rfl (by decide +kernel) ⟨by rw [← hR]; exact Nat.le_of_ble_eq_true rfl, by rw [← hR]; exact Nat.le_of_ble_eq_true rfl⟩) ⟨fun a U g mk q => by obtain ⟨q0, q1, q2, qK, q9⟩ := q; exact ⟨q0, q1, (q2.moved (Vm.Alike.refl U.vm)), jG.calling g mk a qK, q9⟩, jStr_recv hstr_h0 hS, fun U hU hW => ⟨rfl, hU, (hstr_h0.moved hW.alike).kept hS.2.1, hG.step hW hU hS, by omega⟩⟩ rfl rfl hl.1 rfl (lv_room (Nat.le_of_ble_eq_true rfl)) dJ0_charAt_5068e_1 ⟨Nat.zero_le _, Nat.zero_le _⟩) (fun r_1 hr_1 => ?_)
  subst hr_1
  refine lv_if_eq (tgt := 16) hx hb dJ0_charAt_5068e_4 (by decide) (fun c_2 => ?_) (fun c_2 => ?_)
  · skip
    exact absurd c_2 (by decide)
  · skip
    refine lv_aload_n hx hb dJ0_charAt_5068e_7 rfl (lv_at hl 0 rfl) ?_
    obtain ⟨sv_3, fsv_3, gsv_3, hsv_3⟩ := hstr_h0.2.2
    refine vk_getf hx hb gsv_3 hS hown (htw (.fieldLink RJ0 9 "java/lang/String" "value" "[B") (jWr_5 _ (List.mem_of_getElem? (i := 17) rfl))) (fun _ h9 => h9) dJ0_charAt_5068e_8 ?_
    refine lv_iload_n hx hb dJ0_charAt_5068e_11 rfl (lv_at hl 1 rfl) ?_
    refine vp_callSi (W.runS (As := [.ref sv_3, .int a1]) (rest := []) ⟨hx, hb, hml, hown, hts⟩ (wJ1_charAt_3b067 l dC dI ca base s.heap sv_3 n fsv_3 a1) (va_cwS 2 hts (jgS (jWr_6 _ (List.mem_of_getElem? (i := 8) rfl)) (jWr_6 _ (List.mem_of_getElem? (i := 9) rfl)) (jWr_6 _ (List.mem_of_getElem? (i := 10) rfl)) (jWr_6 _ (List.mem_of_getElem? (i := 11) rfl))) rfl rfl rfl (by decide +kernel) ⟨by rw [← hR]; exact Nat.le_of_ble_eq_true rfl, by rw [← hR]; exact Nat.le_of_ble_eq_true rfl⟩) ⟨fun a U g mk q => by obtain ⟨q0, q1, q2, qK, q9⟩ := q; exact ⟨q0, q1, (q2.moved (Vm.Alike.refl U.vm)), jG.calling g mk a qK, q9⟩, fun U hU hW => ⟨rfl, hU, (hsv_3.moved hW.alike).kept hS.2.1, hG.step hW hU hS, ⟨by omega, by omega, by omega⟩⟩⟩ rfl rfl hl.1 rfl (lv_room (Nat.le_of_ble_eq_true rfl)) dJ0_charAt_5068e_12 ⟨Nat.zero_le _, Nat.zero_le _⟩) (fun r_4 hr_4 => ?_)
    rw [hQ]
    exact W.zret (v := r_4) hx hb hr (jb_nch hr_4.1 hr_4.2) (fun t ht hW => ⟨r_4, rfl, by first | trivial | omega | (constructor <;> omega), ht⟩) (fun _ h => nomatch h) dJ0_charAt_5068e_15
set_option maxHeartbeats 4000000 in
set_option maxRecDepth 20000 in
theorem wJ1_canEncode_9a6ad (l : Launch) (dC : Nat → ClassId) (dI : Nat → Nat → Nat) (ca : Nat → ClassId) (base : Nat) (H0 : Heap) (a0 : Int32) : Met l yJ1_canEncode_9a6ad (jw yJ1_canEncode_9a6ad cJ1_canEncode_9a6ad 1 (some .boolean)) ({ frames := 0, cells := 0, slots := 0, locals := 0 }) (va_Pc [.int a0] (fun U => U.heap = H0 ∧ jG dC dI ca base U ∧ (True))) (vp_Si (fun r => r = 0 ∨ r = 1)) 0 0 (fun _ => False) := by
  refine Met.ofW (cc := cJ1_canEncode_9a6ad) (maxL := 1) (ret := (some .boolean)) (by decide) rfl ?_
  intro p e s m args below meth c s₁ B hml hv
  obtain ⟨rfl, hH0, hG, hpre⟩ := hv
  have hK := hG.1
  have hx := B.exec
  have hb := B.bytes
  have hr := B.returns
  have hts := atoms_spec (ws := (jw yJ1_canEncode_9a6ad cJ1_canEncode_9a6ad 1 (some .boolean))) B.pre
  have htw : ∀ w ∈ jWl, w.before _ s = true := fun w h => hts w (List.mem_cons_of_mem _ h)
  have hown : s.vm.findClass RJ1 = some m.cls := findClass_of_methodNamed B.named
  have hlocks := B.notSynchronized
  obtain ⟨Q, hQ⟩ : ∃ Q, Q = MQ below (vp_Si (fun r => r = 0 ∨ r = 1)) ([.int a0] : List Value).toArray s 0 0 (fun _ => False) := ⟨_, rfl⟩
  rw [← hQ]
  have hl := lv_entry ([.int a0]) (n := 1) (Nat.le_of_ble_eq_true rfl)
  rw [lg_entry_eq]
  generalize (lg_sl ([.int a0]) ++ List.replicate (1 - (lg_sl ([.int a0])).length) Slot.unset).toArray = ls at hl ⊢
  have hl : lv_has ls 1 [(0, .int a0)] := hl
  generalize hR : (headSpec (jw yJ1_canEncode_9a6ad cJ1_canEncode_9a6ad 1 (some .boolean)) ({ frames := 0, cells := 0, slots := 0, locals := 0 })).room = R
  subst hH0
  have hS : va_S (jA base) s.heap s.heap [] := va_S.rf
  have hk0 : (0 : Int32).toInt = 0 := by decide
  have hk1 : (1 : Int32).toInt = 1 := by decide
  have hk255 : (255 : Int32).toInt = 255 := by decide
  refine lv_iload_n hx hb dJ1_canEncode_9a6ad_0 rfl (lv_at hl 0 rfl) ?_
  refine lv_if_lt (tgt := 15) hx hb dJ1_canEncode_9a6ad_1 (by decide) (fun c_1 => ?_) (fun c_1 => ?_)
  · skip
    have c_1' : a0.toInt < 0 := jb_lt (rfl) ((by decide)) c_1
    refine lv_iconst (v := 0) hx hb dJ1_canEncode_9a6ad_15 (by decide) ?_
    rw [hQ]
    exact W.zret (v := 0) hx hb hr (jb_nz (Or.inl rfl)) (fun t ht hW => ⟨0, rfl, by first | exact Or.inl rfl | exact Or.inr rfl | assumption, ht⟩) (fun _ h => nomatch h) dJ1_canEncode_9a6ad_16
  · skip
    have c_1' : a0.toInt ≥ 0 := jb_lt_n (rfl) ((by decide)) c_1
    refine lv_iload_n hx hb dJ1_canEncode_9a6ad_4 rfl (lv_at hl 0 rfl) ?_
    refine lv_sipush (v := 255) hx hb dJ1_canEncode_9a6ad_5 (by decide) ?_
    refine lv_icmp_gt (tgt := 15) hx hb dJ1_canEncode_9a6ad_8 (by decide) (fun c_2 => ?_) (fun c_2 => ?_)
    · skip
      have c_2' : a0.toInt > 255 := jb_gt (rfl) ((by decide)) c_2
      refine lv_iconst (v := 0) hx hb dJ1_canEncode_9a6ad_15 (by decide) ?_
      rw [hQ]
      exact W.zret (v := 0) hx hb hr (jb_nz (Or.inl rfl)) (fun t ht hW => ⟨0, rfl, by first | exact Or.inl rfl | exact Or.inr rfl | assumption, ht⟩) (fun _ h => nomatch h) dJ1_canEncode_9a6ad_16
    · skip
      have c_2' : a0.toInt ≤ 255 := jb_gt_n (rfl) ((by decide)) c_2
      refine lv_iconst (v := 1) hx hb dJ1_canEncode_9a6ad_11 (by decide) ?_
      refine lv_goto (tgt := 16) hx hb dJ1_canEncode_9a6ad_12 (by decide) ?_
      rw [hQ]
      exact W.zret (v := 1) hx hb hr (jb_nz (Or.inr rfl)) (fun t ht hW => ⟨1, rfl, by first | exact Or.inl rfl | exact Or.inr rfl | assumption, ht⟩) (fun _ h => nomatch h) dJ1_canEncode_9a6ad_16
set_option maxHeartbeats 4000000 in
set_option maxRecDepth 20000 in
theorem wJ1_indexOfChar_4cfef (l : Launch) (dC : Nat → ClassId) (dI : Nat → Nat → Nat) (ca : Nat → ClassId) (base : Nat) (H0 : Heap) (h0 n : Nat) (f : Nat → Int32) (a1 a2 a3 : Int32) : Met l yJ1_indexOfChar_4cfef (jw yJ1_indexOfChar_4cfef cJ1_indexOfChar_4cfef 6 (some .int)) ({ frames := 0, cells := 0, slots := 0, locals := 0 }) (va_Pc [.ref h0, .int a1, .int a2, .int a3] (fun U => U.heap = H0 ∧ va_T .byte h0 n (fun j => .int (f j)) (jA base) U H0 ∧ jG dC dI ca base U ∧ (n < 2147483648 ∧ 0 ≤ a2.toInt ∧ a3.toInt ≤ n))) (vp_Si (fun r => r.toInt = -1 ∨ (a2.toInt ≤ r.toInt ∧ r.toInt < a3.toInt))) 0 0 (fun _ => False) := by
  refine Met.ofW (cc := cJ1_indexOfChar_4cfef) (maxL := 6) (ret := (some .int)) (by decide) rfl ?_
  intro p e s m args below meth c s₁ B hml hv
  obtain ⟨rfl, hH0, hsa_h0, hG, hp1, hp2, hp3⟩ := hv
  have hK := hG.1
  have hx := B.exec
  have hb := B.bytes
  have hr := B.returns
  have hts := atoms_spec (ws := (jw yJ1_indexOfChar_4cfef cJ1_indexOfChar_4cfef 6 (some .int))) B.pre
  have htw : ∀ w ∈ jWl, w.before _ s = true := fun w h => hts w (List.mem_cons_of_mem _ h)
  have hown : s.vm.findClass RJ1 = some m.cls := findClass_of_methodNamed B.named
  have hlocks := B.notSynchronized
  obtain ⟨Q, hQ⟩ : ∃ Q, Q = MQ below (vp_Si (fun r => r.toInt = -1 ∨ (a2.toInt ≤ r.toInt ∧ r.toInt < a3.toInt))) ([.ref h0, .int a1, .int a2, .int a3] : List Value).toArray s 0 0 (fun _ => False) := ⟨_, rfl⟩
  rw [← hQ]
  have hl := lv_entry ([.ref h0, .int a1, .int a2, .int a3]) (n := 6) (Nat.le_of_ble_eq_true rfl)
  rw [lg_entry_eq]
  generalize (lg_sl ([.ref h0, .int a1, .int a2, .int a3]) ++ List.replicate (6 - (lg_sl ([.ref h0, .int a1, .int a2, .int a3])).length) Slot.unset).toArray = ls at hl ⊢
  have hl : lv_has ls 6 [(0, .ref h0), (1, .int a1), (2, .int a2), (3, .int a3)] := hl
  generalize hR : (headSpec (jw yJ1_indexOfChar_4cfef cJ1_indexOfChar_4cfef 6 (some .int)) ({ frames := 0, cells := 0, slots := 0, locals := 0 })).room = R
  subst hH0
  have hS : va_S (jA base) s.heap s.heap [] := va_S.rf
  have hkm1 : ((-1) : Int32).toInt = (-1) := by decide
  have hk0 : (0 : Int32).toInt = 0 := by decide
  have hk1 : (1 : Int32).toInt = 1 := by decide
  refine lv_iload_n hx hb dJ1_indexOfChar_4cfef_0 rfl (lv_at hl 1 rfl) ?_
  refine lv_i2b hx hb dJ1_indexOfChar_4cfef_1 rfl ?_
  refine lv_topi (fun z_1 ez_1 => ?_)
  refine lv_istore (lv' := [(4, .int z_1), (0, .ref h0), (1, .int a1), (2, .int a2), (3, .int a3)]) hx hb dJ1_indexOfChar_4cfef_2 hl (by decide) rfl (fun ls hl => ?_)
  refine lv_iload_n hx hb dJ1_indexOfChar_4cfef_4 rfl (lv_at hl 3 rfl) ?_
  refine lv_istore (lv' := [(5, .int a2), (4, .int z_1), (0, .ref h0), (1, .int a1), (2, .int a2), (3, .int a3)]) hx hb dJ1_indexOfChar_4cfef_5 hl (by decide) rfl (fun ls hl => ?_)
  have L7 : ∀ (N : Nat) (iv : Int32), (a2.toInt ≤ iv.toInt) → (((a3.toInt - iv.toInt).toNat : Int) : Int) < N → ∀ ls : Array Slot, lv_has ls 6 [(0, .ref h0), (1, .int a1), (2, .int a2), (3, .int a3), (4, .int z_1), (5, .int iv)] → W p l e R s m ([.ref h0, .int a1, .int a2, .int a3] : List Value).toArray below meth c s.heap [] 0 0 Q (F0 m 7 ls []) := by
    intro N
    induction N with
    | zero => intro iv hi hm; exact absurd hm (by omega)
    | succ N ih =>
      have L7 := ih
      intro iv hi hm ls hl
      refine lv_iload hx hb dJ1_indexOfChar_4cfef_7 (lv_at hl 5 rfl) ?_
      refine lv_iload_n hx hb dJ1_indexOfChar_4cfef_9 rfl (lv_at hl 3 rfl) ?_
      refine lv_icmp_ge (tgt := 31) hx hb dJ1_indexOfChar_4cfef_10 (by decide) (fun c_2 => ?_) (fun c_2 => ?_)
      · skip
        have c_2' : iv.toInt ≥ a3.toInt := jb_ge (rfl) (rfl) c_2
        refine lv_iconst (v := (-1)) hx hb dJ1_indexOfChar_4cfef_31 (by decide) ?_
        rw [hQ]
        exact W.iret (v := (-1)) hx hb hr (fun t ht hW => ⟨(-1), rfl, by omega, ht⟩) (fun _ h => nomatch h) dJ1_indexOfChar_4cfef_32
      · skip
        have c_2' : iv.toInt < a3.toInt := jb_ge_n (rfl) (rfl) c_2
        refine lv_aload_n hx hb dJ1_indexOfChar_4cfef_13 rfl (lv_at hl 0 rfl) ?_
        refine lv_iload hx hb dJ1_indexOfChar_4cfef_14 (lv_at hl 5 rfl) ?_
        refine va_tb hx hb hsa_h0 hS (jb_in (rfl) (by omega) (by omega)) rfl dJ1_indexOfChar_4cfef_16 ?_
        refine lv_topi (fun z_3 ez_3 => ?_)
        refine lv_iload hx hb dJ1_indexOfChar_4cfef_17 (lv_at hl 4 rfl) ?_
        refine lv_icmp_ne (tgt := 25) hx hb dJ1_indexOfChar_4cfef_19 (by decide) (fun c_4 => ?_) (fun c_4 => ?_)
        · skip
          have c_4' : z_3.toInt ≠ z_1.toInt := jb_ne (rfl) (rfl) c_4
          obtain ⟨z_5, ez_5⟩ : ∃ y : Int32, y = iv + 1 := ⟨_, rfl⟩
          refine lv_iinc (v := z_5) (lv' := [(5, .int z_5), (0, .ref h0), (1, .int a1), (2, .int a2), (3, .int a3), (4, .int z_1)]) hx hb dJ1_indexOfChar_4cfef_25 hl (k := 5) rfl (by rw [ez_5]; rfl) (by decide) rfl (fun ls hl => ?_)
          have hz_5 : z_5.toInt = iv.toInt + 1 := by rw [ez_5]; exact jb_iadd (rfl) (by decide) (by omega) (by omega)
          refine lv_goto (tgt := 7) hx hb dJ1_indexOfChar_4cfef_28 (by decide) ?_
          exact L7 z_5 (by omega) (by omega) _ (lv_sub hl [1, 2, 3, 4, 5, 0] rfl)
        · skip
          have c_4' : z_3.toInt = z_1.toInt := jb_ne_n (rfl) (rfl) c_4
          refine lv_iload hx hb dJ1_indexOfChar_4cfef_22 (lv_at hl 5 rfl) ?_
          rw [hQ]
          exact W.iret (v := iv) hx hb hr (fun t ht hW => ⟨iv, rfl, by omega, ht⟩) (fun _ h => nomatch h) dJ1_indexOfChar_4cfef_24
  exact L7 (((a3.toInt - (a2 : Int32).toInt).toNat : Int) : Int).toNat.succ a2 (by omega) (by omega) _ (lv_sub hl [2, 3, 4, 5, 1, 0] rfl)
set_option maxHeartbeats 4000000 in
set_option maxRecDepth 20000 in
theorem wJ1_indexOf_4cfef (l : Launch) (dC : Nat → ClassId) (dI : Nat → Nat → Nat) (ca : Nat → ClassId) (base : Nat) (H0 : Heap) (h0 n : Nat) (f : Nat → Int32) (a1 a2 a3 : Int32) : Met l yJ1_indexOf_4cfef (jw yJ1_indexOf_4cfef cJ1_indexOf_4cfef 4 (some .int)) ({ frames := 2, cells := 0, slots := 0, locals := 80 }) (va_Pc [.ref h0, .int a1, .int a2, .int a3] (fun U => U.heap = H0 ∧ va_T .byte h0 n (fun j => .int (f j)) (jA base) U H0 ∧ jG dC dI ca base U ∧ (n < 2147483648))) (vp_Si (fun r => r.toInt = -1 ∨ (0 ≤ r.toInt ∧ a2.toInt ≤ r.toInt ∧ r.toInt < n))) 0 0 (fun _ => False) := by
  refine Met.ofW (cc := cJ1_indexOf_4cfef) (maxL := 4) (ret := (some .int)) (by decide) rfl ?_
  intro p e s m args below meth c s₁ B hml hv
  obtain ⟨rfl, hH0, hsa_h0, hG, hp1⟩ := hv
  have hK := hG.1
  have hx := B.exec
  have hb := B.bytes
  have hr := B.returns
  have hts := atoms_spec (ws := (jw yJ1_indexOf_4cfef cJ1_indexOf_4cfef 4 (some .int))) B.pre
  have htw : ∀ w ∈ jWl, w.before _ s = true := fun w h => hts w (List.mem_cons_of_mem _ h)
  have hown : s.vm.findClass RJ1 = some m.cls := findClass_of_methodNamed B.named
  have hlocks := B.notSynchronized
  obtain ⟨Q, hQ⟩ : ∃ Q, Q = MQ below (vp_Si (fun r => r.toInt = -1 ∨ (0 ≤ r.toInt ∧ a2.toInt ≤ r.toInt ∧ r.toInt < n))) ([.ref h0, .int a1, .int a2, .int a3] : List Value).toArray s 0 0 (fun _ => False) := ⟨_, rfl⟩
  rw [← hQ]
  have hl := lv_entry ([.ref h0, .int a1, .int a2, .int a3]) (n := 4) (Nat.le_of_ble_eq_true rfl)
  rw [lg_entry_eq]
  generalize (lg_sl ([.ref h0, .int a1, .int a2, .int a3]) ++ List.replicate (4 - (lg_sl ([.ref h0, .int a1, .int a2, .int a3])).length) Slot.unset).toArray = ls at hl ⊢
  have hl : lv_has ls 4 [(0, .ref h0), (1, .int a1), (2, .int a2), (3, .int a3)] := hl
  generalize hR : (headSpec (jw yJ1_indexOf_4cfef cJ1_indexOf_4cfef 4 (some .int)) ({ frames := 2, cells := 0, slots := 0, locals := 80 })).room = R
  subst hH0
  have hS : va_S (jA base) s.heap s.heap [] := va_S.rf
  have hkm1 : ((-1) : Int32).toInt = (-1) := by decide
  have hk0 : (0 : Int32).toInt = 0 := by decide
  have hk1 : (1 : Int32).toInt = 1 := by decide
  refine lv_iload_n hx hb dJ1_indexOf_4cfef_0 rfl (lv_at hl 1 rfl) ?_
  refine vp_callSi (W.runS (As := [.int a1]) (rest := []) ⟨hx, hb, hml, hown, hts⟩ (wJ1_canEncode_9a6ad l dC dI ca base s.heap a1) (va_cwS 1 hts (jgS (jWr_38 _ (List.mem_of_getElem? (i := 1) rfl)) (jWr_38 _ (List.mem_of_getElem? (i := 2) rfl)) (jWr_6 _ (List.mem_of_getElem? (i := 10) rfl)) (jWr_38 _ (List.mem_of_getElem? (i := 3) rfl))) rfl rfl rfl (by decide +kernel) ⟨by rw [← hR]; exact Nat.le_of_ble_eq_true rfl, by rw [← hR]; exact Nat.le_of_ble_eq_true rfl⟩) ⟨fun a U g mk q => by obtain ⟨q0, q1, qK, q9⟩ := q; exact ⟨q0, q1, jG.calling g mk a qK, q9⟩, fun U hU hW => ⟨rfl, hU, hG.step hW hU hS, by first | trivial | omega | (constructor <;> omega)⟩⟩ rfl rfl hl.1 rfl (lv_room (Nat.le_of_ble_eq_true rfl)) dJ1_indexOf_4cfef_1 ⟨Nat.zero_le _, Nat.zero_le _⟩) (fun r_1 hr_1 => ?_)
  have hr_1' : r_1.toInt = 0 ∨ r_1.toInt = 1 := jb_01 hr_1
  refine lv_if_ne (tgt := 9) hx hb dJ1_indexOf_4cfef_4 (by decide) (fun c_2 => ?_) (fun c_2 => ?_)
  · skip
    have c_2' : r_1.toInt ≠ 0 := jb_ne (rfl) ((by decide)) c_2
    refine lv_iload_n hx hb dJ1_indexOf_4cfef_9 rfl (lv_at hl 2 rfl) ?_
    refine lv_iconst (v := 0) hx hb dJ1_indexOf_4cfef_10 (by decide) ?_
    refine va_mmax hx hb (by rw [hml]; exact hl.1.symm) hown (htw (.methodLink RJ1 92 Lib.Math.max.name) (jWr_37 _ (List.mem_of_getElem? (i := 23) rfl))) (htw (.static Lib.Math.max.name) (jWr_3 _ (List.mem_of_getElem? (i := 6) rfl))) (htw (.initialized "java/lang/Math") (jWr_3 _ (List.mem_of_getElem? (i := 7) rfl))) (htw (.code Lib.Math.max.name Lib.Math.max.code 2 (some .int)) (jWr_3 _ (List.mem_of_getElem? (i := 8) rfl))) (by rw [← hR]; exact Nat.le_of_ble_eq_true rfl) (by rw [← hR]; exact Nat.le_of_ble_eq_true rfl) (Nat.zero_le _) (Nat.zero_le _) dJ1_indexOf_4cfef_11 ?_
    refine lv_topi (fun z_3 ez_3 => ?_)
    have hz_3 := jb_max ez_3
    refine lv_istore_n (lv' := [(2, .int z_3), (0, .ref h0), (1, .int a1), (3, .int a3)]) hx hb dJ1_indexOf_4cfef_14 rfl hl (by decide) rfl (fun ls hl => ?_)
    refine lv_iload_n hx hb dJ1_indexOf_4cfef_15 rfl (lv_at hl 3 rfl) ?_
    refine lv_aload_n hx hb dJ1_indexOf_4cfef_16 rfl (lv_at hl 1 rfl) ?_
    refine va_tlen hx hb hsa_h0 hS (v := Int32.ofNat n) rfl dJ1_indexOf_4cfef_17 ?_
    refine lv_topi (fun z_4 ez_4 => ?_)
    have hz_4 : z_4.toInt = n := by rw [ez_4]; exact jb_nat (by omega)
    refine va_mmin hx hb (by rw [hml]; exact hl.1.symm) hown (htw (.methodLink RJ1 38 Lib.Math.min.name) (jWr_38 _ (List.mem_of_getElem? (i := 0) rfl))) (htw (.static Lib.Math.min.name) (jWr_16 _ (List.mem_of_getElem? (i := 16) rfl))) (htw (.initialized "java/lang/Math") (jWr_3 _ (List.mem_of_getElem? (i := 7) rfl))) (htw (.code Lib.Math.min.name Lib.Math.min.code 2 (some .int)) (jWr_16 _ (List.mem_of_getElem? (i := 17) rfl))) (by rw [← hR]; exact Nat.le_of_ble_eq_true rfl) (by rw [← hR]; exact Nat.le_of_ble_eq_true rfl) (Nat.zero_le _) (Nat.zero_le _) dJ1_indexOf_4cfef_18 ?_
    refine lv_topi (fun z_5 ez_5 => ?_)
    have hz_5 := jb_min ez_5
    refine lv_istore_n (lv' := [(3, .int z_5), (2, .int z_3), (0, .ref h0), (1, .int a1)]) hx hb dJ1_indexOf_4cfef_21 rfl hl (by decide) rfl (fun ls hl => ?_)
    refine lv_iload_n hx hb dJ1_indexOf_4cfef_22 rfl (lv_at hl 1 rfl) ?_
    refine lv_iload_n hx hb dJ1_indexOf_4cfef_23 rfl (lv_at hl 0 rfl) ?_
    refine lv_icmp_lt (tgt := 29) hx hb dJ1_indexOf_4cfef_24 (by decide) (fun c_6 => ?_) (fun c_6 => ?_)
    · skip
      have c_6' : z_3.toInt < z_5.toInt := jb_lt (rfl) (rfl) c_6
      refine lv_aload_n hx hb dJ1_indexOf_4cfef_29 rfl (lv_at hl 2 rfl) ?_
      refine lv_iload_n hx hb dJ1_indexOf_4cfef_30 rfl (lv_at hl 3 rfl) ?_
      refine lv_iload_n hx hb dJ1_indexOf_4cfef_31 rfl (lv_at hl 1 rfl) ?_
      refine lv_iload_n hx hb dJ1_indexOf_4cfef_32 rfl (lv_at hl 0 rfl) ?_
      refine vp_callSi (W.runS (As := [.ref h0, .int a1, .int z_3, .int z_5]) (rest := []) ⟨hx, hb, hml, hown, hts⟩ (wJ1_indexOfChar_4cfef l dC dI ca base s.heap h0 n f a1 z_3 z_5) (va_cwS 4 hts (jgS (jWr_38 _ (List.mem_of_getElem? (i := 4) rfl)) (jWr_38 _ (List.mem_of_getElem? (i := 5) rfl)) (jWr_6 _ (List.mem_of_getElem? (i := 10) rfl)) (jWr_38 _ (List.mem_of_getElem? (i := 6) rfl))) rfl rfl rfl (by decide +kernel) ⟨by rw [← hR]; exact Nat.le_of_ble_eq_true rfl, by rw [← hR]; exact Nat.le_of_ble_eq_true rfl⟩) ⟨fun a U g mk q => by obtain ⟨q0, q1, q2, qK, q9⟩ := q; exact ⟨q0, q1, (q2.moved (Vm.Alike.refl U.vm)), jG.calling g mk a qK, q9⟩, fun U hU hW => ⟨rfl, hU, (hsa_h0.moved hW.alike).kept hS.2.1, hG.step hW hU hS, ⟨by omega, by omega, by omega⟩⟩⟩ rfl rfl hl.1 rfl (lv_room (Nat.le_of_ble_eq_true rfl)) dJ1_indexOf_4cfef_33 ⟨Nat.zero_le _, Nat.zero_le _⟩) (fun r_7 hr_7 => ?_)
      rw [hQ]
      exact W.iret (v := r_7) hx hb hr (fun t ht hW => ⟨r_7, rfl, by omega, ht⟩) (fun _ h => nomatch h) dJ1_indexOf_4cfef_36
    · skip
      have c_6' : z_3.toInt ≥ z_5.toInt := jb_lt_n (rfl) (rfl) c_6
      refine lv_iconst (v := (-1)) hx hb dJ1_indexOf_4cfef_27 (by decide) ?_
      rw [hQ]
      exact W.iret (v := (-1)) hx hb hr (fun t ht hW => ⟨(-1), rfl, by omega, ht⟩) (fun _ h => nomatch h) dJ1_indexOf_4cfef_28
  · skip
    have c_2' : r_1.toInt = 0 := jb_ne_n (rfl) ((by decide)) c_2
    refine lv_iconst (v := (-1)) hx hb dJ1_indexOf_4cfef_7 (by decide) ?_
    rw [hQ]
    exact W.iret (v := (-1)) hx hb hr (fun t ht hW => ⟨(-1), rfl, by omega, ht⟩) (fun _ h => nomatch h) dJ1_indexOf_4cfef_8
set_option maxHeartbeats 4000000 in
set_option maxRecDepth 20000 in
theorem wJ0_indexOf_7cf53 (l : Launch) (dC : Nat → ClassId) (dI : Nat → Nat → Nat) (ca : Nat → ClassId) (base : Nat) (H0 : Heap) (h0 n : Nat) (a1 a2 : Int32) : Met l yJ0_indexOf_7cf53 (jw yJ0_indexOf_7cf53 cJ0_indexOf_7cf53 3 (some .int)) ({ frames := 3, cells := 0, slots := 0, locals := 120 }) (va_Pc [.ref h0, .int a1, .int a2] (fun U => U.heap = H0 ∧ jStr base h0 n U H0 ∧ jG dC dI ca base U ∧ (n < 2147483648))) (vp_Si (fun r => r.toInt = -1 ∨ (0 ≤ r.toInt ∧ a2.toInt ≤ r.toInt ∧ r.toInt < n))) 0 0 (fun _ => False) := by
  refine Met.ofW (cc := cJ0_indexOf_7cf53) (maxL := 3) (ret := (some .int)) (by decide) rfl ?_
  intro p e s m args below meth c s₁ B hml hv
  obtain ⟨rfl, hH0, hstr_h0, hG, hpre⟩ := hv
  have hK := hG.1
  have hx := B.exec
  have hb := B.bytes
  have hr := B.returns
  have hts := atoms_spec (ws := (jw yJ0_indexOf_7cf53 cJ0_indexOf_7cf53 3 (some .int))) B.pre
  have htw : ∀ w ∈ jWl, w.before _ s = true := fun w h => hts w (List.mem_cons_of_mem _ h)
  have hown : s.vm.findClass RJ0 = some m.cls := findClass_of_methodNamed B.named
  have hlocks := B.notSynchronized
  obtain ⟨Q, hQ⟩ : ∃ Q, Q = MQ below (vp_Si (fun r => r.toInt = -1 ∨ (0 ≤ r.toInt ∧ a2.toInt ≤ r.toInt ∧ r.toInt < n))) ([.ref h0, .int a1, .int a2] : List Value).toArray s 0 0 (fun _ => False) := ⟨_, rfl⟩
  rw [← hQ]
  have hl := lv_entry ([.ref h0, .int a1, .int a2]) (n := 3) (Nat.le_of_ble_eq_true rfl)
  rw [lg_entry_eq]
  generalize (lg_sl ([.ref h0, .int a1, .int a2]) ++ List.replicate (3 - (lg_sl ([.ref h0, .int a1, .int a2])).length) Slot.unset).toArray = ls at hl ⊢
  have hl : lv_has ls 3 [(0, .ref h0), (1, .int a1), (2, .int a2)] := hl
  generalize hR : (headSpec (jw yJ0_indexOf_7cf53 cJ0_indexOf_7cf53 3 (some .int)) ({ frames := 3, cells := 0, slots := 0, locals := 120 })).room = R
  subst hH0
  have hS : va_S (jA base) s.heap s.heap [] := va_S.rf
  have hk0 : (0 : Int32).toInt = 0 := by decide
  have hk1 : (1 : Int32).toInt = 1 := by decide
  refine lv_aload_n hx hb dJ0_indexOf_7cf53_0 rfl (lv_at hl 0 rfl) ?_
  refine vp_callSi (W.runV (As := []) (rest := []) ⟨hx, hb, hml, hown, hts⟩ (wJ0_isLatin1_aae02 l dC dI ca base s.heap h0 n) (cwV 0 hts (jgV (jWr_6 _ (List.mem_of_getElem? (i := 4) rfl)) (jWr_6 _ (List.mem_of_getElem? (i := 5) rfl)) (jWr_6 _ (List.mem_of_getElem? (i := 6) rfl)) (jWr_5 _ (List.mem_of_getElem? (i := 15) rfl)) (jWr_6 _ (List.mem_of_getElem? (i := 7) rfl))) rfl rfl rfl (by decide +kernel) ⟨by rw [← hR]; exact Nat.le_of_ble_eq_true rfl, by rw [← hR]; exact Nat.le_of_ble_eq_true rfl⟩) ⟨fun a U g mk q => by obtain ⟨q0, q1, q2, qK, q9⟩ := q; exact ⟨q0, q1, (q2.moved (Vm.Alike.refl U.vm)), jG.calling g mk a qK, q9⟩, jStr_recv hstr_h0 hS, fun U hU hW => ⟨rfl, hU, (hstr_h0.moved hW.alike).kept hS.2.1, hG.step hW hU hS, by omega⟩⟩ rfl rfl hl.1 rfl (lv_room (Nat.le_of_ble_eq_true rfl)) dJ0_indexOf_7cf53_1 ⟨Nat.zero_le _, Nat.zero_le _⟩) (fun r_1 hr_1 => ?_)
  subst hr_1
  refine lv_if_eq (tgt := 23) hx hb dJ0_indexOf_7cf53_4 (by decide) (fun c_2 => ?_) (fun c_2 => ?_)
  · skip
    exact absurd c_2 (by decide)
  · skip
    refine lv_aload_n hx hb dJ0_indexOf_7cf53_7 rfl (lv_at hl 0 rfl) ?_
    obtain ⟨sv_3, fsv_3, gsv_3, hsv_3⟩ := hstr_h0.2.2
    refine vk_getf hx hb gsv_3 hS hown (htw (.fieldLink RJ0 9 "java/lang/String" "value" "[B") (jWr_5 _ (List.mem_of_getElem? (i := 17) rfl))) (fun _ h9 => h9) dJ0_indexOf_7cf53_8 ?_
    refine lv_iload_n hx hb dJ0_indexOf_7cf53_11 rfl (lv_at hl 1 rfl) ?_
    refine lv_iload_n hx hb dJ0_indexOf_7cf53_12 rfl (lv_at hl 2 rfl) ?_
    refine lv_aload_n hx hb dJ0_indexOf_7cf53_13 rfl (lv_at hl 0 rfl) ?_
    refine vp_callSi (W.runV (As := []) (rest := [.int a2, .int a1, .ref sv_3]) ⟨hx, hb, hml, hown, hts⟩ (wJ0_length_8abf5 l dC dI ca base s.heap h0 n) (cwV 0 hts (jgV (jWr_37 _ (List.mem_of_getElem? (i := 19) rfl)) (jWr_5 _ (List.mem_of_getElem? (i := 13) rfl)) (jWr_5 _ (List.mem_of_getElem? (i := 14) rfl)) (jWr_5 _ (List.mem_of_getElem? (i := 15) rfl)) (jWr_5 _ (List.mem_of_getElem? (i := 16) rfl))) rfl rfl rfl (by decide +kernel) ⟨by rw [← hR]; exact Nat.le_of_ble_eq_true rfl, by rw [← hR]; exact Nat.le_of_ble_eq_true rfl⟩) ⟨fun a U g mk q => by obtain ⟨q0, q1, q2, qK, q9⟩ := q; exact ⟨q0, q1, (q2.moved (Vm.Alike.refl U.vm)), jG.calling g mk a qK, q9⟩, jStr_recv hstr_h0 hS, fun U hU hW => ⟨rfl, hU, (hstr_h0.moved hW.alike).kept hS.2.1, hG.step hW hU hS, by omega⟩⟩ rfl rfl hl.1 rfl (lv_room (Nat.le_of_ble_eq_true rfl)) dJ0_indexOf_7cf53_14 ⟨Nat.zero_le _, Nat.zero_le _⟩) (fun r_4 hr_4 => ?_)
    refine vp_callSi (W.runS (As := [.ref sv_3, .int a1, .int a2, .int r_4]) (rest := []) ⟨hx, hb, hml, hown, hts⟩ (wJ1_indexOf_4cfef l dC dI ca base s.heap sv_3 n fsv_3 a1 a2 r_4) (va_cwS 4 hts (jgS (jWr_37 _ (List.mem_of_getElem? (i := 20) rfl)) (jWr_37 _ (List.mem_of_getElem? (i := 21) rfl)) (jWr_6 _ (List.mem_of_getElem? (i := 10) rfl)) (jWr_37 _ (List.mem_of_getElem? (i := 22) rfl))) rfl rfl rfl (by decide +kernel) ⟨by rw [← hR]; exact Nat.le_of_ble_eq_true rfl, by rw [← hR]; exact Nat.le_of_ble_eq_true rfl⟩) ⟨fun a U g mk q => by obtain ⟨q0, q1, q2, qK, q9⟩ := q; exact ⟨q0, q1, (q2.moved (Vm.Alike.refl U.vm)), jG.calling g mk a qK, q9⟩, fun U hU hW => ⟨rfl, hU, (hsv_3.moved hW.alike).kept hS.2.1, hG.step hW hU hS, by omega⟩⟩ rfl rfl hl.1 rfl (lv_room (Nat.le_of_ble_eq_true rfl)) dJ0_indexOf_7cf53_17 ⟨Nat.zero_le _, Nat.zero_le _⟩) (fun r_5 hr_5 => ?_)
    refine lv_goto (tgt := 36) hx hb dJ0_indexOf_7cf53_20 (by decide) ?_
    rw [hQ]
    exact W.iret (v := r_5) hx hb hr (fun t ht hW => ⟨r_5, rfl, by omega, ht⟩) (fun _ h => nomatch h) dJ0_indexOf_7cf53_36
set_option maxHeartbeats 4000000 in
set_option maxRecDepth 20000 in
theorem wJ0_indexOf_0f7a4 (l : Launch) (dC : Nat → ClassId) (dI : Nat → Nat → Nat) (ca : Nat → ClassId) (base : Nat) (H0 : Heap) (h0 n : Nat) (a1 : Int32) : Met l yJ0_indexOf_0f7a4 (jw yJ0_indexOf_0f7a4 cJ0_indexOf_0f7a4 2 (some .int)) ({ frames := 4, cells := 0, slots := 0, locals := 160 }) (va_Pc [.ref h0, .int a1] (fun U => U.heap = H0 ∧ jStr base h0 n U H0 ∧ jG dC dI ca base U ∧ (n < 2147483648))) (vp_Si (fun r => r.toInt = -1 ∨ (0 ≤ r.toInt ∧ r.toInt < n))) 0 0 (fun _ => False) := by
  refine Met.ofW (cc := cJ0_indexOf_0f7a4) (maxL := 2) (ret := (some .int)) (by decide) rfl ?_
  intro p e s m args below meth c s₁ B hml hv
  obtain ⟨rfl, hH0, hstr_h0, hG, hpre⟩ := hv
  have hK := hG.1
  have hx := B.exec
  have hb := B.bytes
  have hr := B.returns
  have hts := atoms_spec (ws := (jw yJ0_indexOf_0f7a4 cJ0_indexOf_0f7a4 2 (some .int))) B.pre
  have htw : ∀ w ∈ jWl, w.before _ s = true := fun w h => hts w (List.mem_cons_of_mem _ h)
  have hown : s.vm.findClass RJ0 = some m.cls := findClass_of_methodNamed B.named
  have hlocks := B.notSynchronized
  obtain ⟨Q, hQ⟩ : ∃ Q, Q = MQ below (vp_Si (fun r => r.toInt = -1 ∨ (0 ≤ r.toInt ∧ r.toInt < n))) ([.ref h0, .int a1] : List Value).toArray s 0 0 (fun _ => False) := ⟨_, rfl⟩
  rw [← hQ]
  have hl := lv_entry ([.ref h0, .int a1]) (n := 2) (Nat.le_of_ble_eq_true rfl)
  rw [lg_entry_eq]
  generalize (lg_sl ([.ref h0, .int a1]) ++ List.replicate (2 - (lg_sl ([.ref h0, .int a1])).length) Slot.unset).toArray = ls at hl ⊢
  have hl : lv_has ls 2 [(0, .ref h0), (1, .int a1)] := hl
  generalize hR : (headSpec (jw yJ0_indexOf_0f7a4 cJ0_indexOf_0f7a4 2 (some .int)) ({ frames := 4, cells := 0, slots := 0, locals := 160 })).room = R
  subst hH0
  have hS : va_S (jA base) s.heap s.heap [] := va_S.rf
  have hk0 : (0 : Int32).toInt = 0 := by decide
  have hk1 : (1 : Int32).toInt = 1 := by decide
  refine lv_aload_n hx hb dJ0_indexOf_0f7a4_0 rfl (lv_at hl 0 rfl) ?_
  refine lv_iload_n hx hb dJ0_indexOf_0f7a4_1 rfl (lv_at hl 1 rfl) ?_
  refine lv_iconst (v := 0) hx hb dJ0_indexOf_0f7a4_2 (by decide) ?_
  refine vp_callSi (W.runV (As := [.int a1, .int 0]) (rest := []) ⟨hx, hb, hml, hown, hts⟩ (wJ0_indexOf_7cf53 l dC dI ca base s.heap h0 n a1 0) (cwV 2 hts (jgV (jWr_37 _ (List.mem_of_getElem? (i := 15) rfl)) (jWr_37 _ (List.mem_of_getElem? (i := 16) rfl)) (jWr_37 _ (List.mem_of_getElem? (i := 17) rfl)) (jWr_5 _ (List.mem_of_getElem? (i := 15) rfl)) (jWr_37 _ (List.mem_of_getElem? (i := 18) rfl))) rfl rfl rfl (by decide +kernel) ⟨by rw [← hR]; exact Nat.le_of_ble_eq_true rfl, by rw [← hR]; exact Nat.le_of_ble_eq_true rfl⟩) ⟨fun a U g mk q => by obtain ⟨q0, q1, q2, qK, q9⟩ := q; exact ⟨q0, q1, (q2.moved (Vm.Alike.refl U.vm)), jG.calling g mk a qK, q9⟩, jStr_recv hstr_h0 hS, fun U hU hW => ⟨rfl, hU, (hstr_h0.moved hW.alike).kept hS.2.1, hG.step hW hU hS, by omega⟩⟩ rfl rfl hl.1 rfl (lv_room (Nat.le_of_ble_eq_true rfl)) dJ0_indexOf_0f7a4_3 ⟨Nat.zero_le _, Nat.zero_le _⟩) (fun r_1 hr_1 => ?_)
  rw [hQ]
  exact W.iret (v := r_1) hx hb hr (fun t ht hW => ⟨r_1, rfl, by omega, ht⟩) (fun _ h => nomatch h) dJ0_indexOf_0f7a4_6
set_option maxHeartbeats 4000000 in
set_option maxRecDepth 20000 in
theorem wX0_isHigh (l : Launch) (dC : Nat → ClassId) (dI : Nat → Nat → Nat) (ca : Nat → ClassId) (base : Nat) (H0 : Heap) (a0 : Int32) : Met l yX0_isHigh (jw yX0_isHigh cX0_isHigh 1 (some .boolean)) ({ frames := 0, cells := 0, slots := 0, locals := 0 }) (va_Pc [.int a0] (fun U => U.heap = H0 ∧ jG dC dI ca base U ∧ (True))) (vp_Si (fun r => r = 0 ∨ r = 1)) 0 0 (fun _ => False) := by
  refine Met.ofW (cc := cX0_isHigh) (maxL := 1) (ret := (some .boolean)) (by decide) rfl ?_
  intro p e s m args below meth c s₁ B hml hv
  obtain ⟨rfl, hH0, hG, hpre⟩ := hv
  have hK := hG.1
  have hx := B.exec
  have hb := B.bytes
  have hr := B.returns
  have hts := atoms_spec (ws := (jw yX0_isHigh cX0_isHigh 1 (some .boolean))) B.pre
  have htw : ∀ w ∈ jWl, w.before _ s = true := fun w h => hts w (List.mem_cons_of_mem _ h)
  have hown : s.vm.findClass RX0 = some m.cls := findClass_of_methodNamed B.named
  have hlocks := B.notSynchronized
  obtain ⟨Q, hQ⟩ : ∃ Q, Q = MQ below (vp_Si (fun r => r = 0 ∨ r = 1)) ([.int a0] : List Value).toArray s 0 0 (fun _ => False) := ⟨_, rfl⟩
  rw [← hQ]
  have hl := lv_entry ([.int a0]) (n := 1) (Nat.le_of_ble_eq_true rfl)
  rw [lg_entry_eq]
  generalize (lg_sl ([.int a0]) ++ List.replicate (1 - (lg_sl ([.int a0])).length) Slot.unset).toArray = ls at hl ⊢
  have hl : lv_has ls 1 [(0, .int a0)] := hl
  generalize hR : (headSpec (jw yX0_isHigh cX0_isHigh 1 (some .boolean)) ({ frames := 0, cells := 0, slots := 0, locals := 0 })).room = R
  subst hH0
  have hS : va_S (jA base) s.heap s.heap [] := va_S.rf
  have hk0 : (0 : Int32).toInt = 0 := by decide
  have hk1 : (1 : Int32).toInt = 1 := by decide
  refine lv_iload_n hx hb dX0_isHigh_0 rfl (lv_at hl 0 rfl) ?_
  refine lv_ldc hx hb hown (htw (.constant RX0 61 55296) (jWr_20 _ (List.mem_of_getElem? (i := 17) rfl))) dX0_isHigh_1 ?_
  refine lv_icmp_lt (tgt := 16) hx hb dX0_isHigh_3 (by decide) (fun c_1 => ?_) (fun c_1 => ?_)
  · skip
    have c_1' : a0.toInt < 55296 := jb_lt (rfl) ((by decide)) c_1
    refine lv_iconst (v := 0) hx hb dX0_isHigh_16 (by decide) ?_
    rw [hQ]
    exact W.zret (v := 0) hx hb hr (jb_nz (Or.inl rfl)) (fun t ht hW => ⟨0, rfl, by first | exact Or.inl rfl | exact Or.inr rfl | assumption, ht⟩) (fun _ h => nomatch h) dX0_isHigh_17
  · skip
    have c_1' : a0.toInt ≥ 55296 := jb_lt_n (rfl) ((by decide)) c_1
    refine lv_iload_n hx hb dX0_isHigh_6 rfl (lv_at hl 0 rfl) ?_
    refine lv_ldc hx hb hown (htw (.constant RX0 62 56320) (jWr_21 _ (List.mem_of_getElem? (i := 12) rfl))) dX0_isHigh_7 ?_
    refine lv_icmp_ge (tgt := 16) hx hb dX0_isHigh_9 (by decide) (fun c_2 => ?_) (fun c_2 => ?_)
    · skip
      have c_2' : a0.toInt ≥ 56320 := jb_ge (rfl) ((by decide)) c_2
      refine lv_iconst (v := 0) hx hb dX0_isHigh_16 (by decide) ?_
      rw [hQ]
      exact W.zret (v := 0) hx hb hr (jb_nz (Or.inl rfl)) (fun t ht hW => ⟨0, rfl, by first | exact Or.inl rfl | exact Or.inr rfl | assumption, ht⟩) (fun _ h => nomatch h) dX0_isHigh_17
    · skip
      have c_2' : a0.toInt < 56320 := jb_ge_n (rfl) ((by decide)) c_2
      refine lv_iconst (v := 1) hx hb dX0_isHigh_12 (by decide) ?_
      refine lv_goto (tgt := 17) hx hb dX0_isHigh_13 (by decide) ?_
      rw [hQ]
      exact W.zret (v := 1) hx hb hr (jb_nz (Or.inr rfl)) (fun t ht hW => ⟨1, rfl, by first | exact Or.inl rfl | exact Or.inr rfl | assumption, ht⟩) (fun _ h => nomatch h) dX0_isHigh_17
set_option maxHeartbeats 4000000 in
set_option maxRecDepth 20000 in
theorem wX0_isLow (l : Launch) (dC : Nat → ClassId) (dI : Nat → Nat → Nat) (ca : Nat → ClassId) (base : Nat) (H0 : Heap) (a0 : Int32) : Met l yX0_isLow (jw yX0_isLow cX0_isLow 1 (some .boolean)) ({ frames := 0, cells := 0, slots := 0, locals := 0 }) (va_Pc [.int a0] (fun U => U.heap = H0 ∧ jG dC dI ca base U ∧ (True))) (vp_Si (fun r => r = 0 ∨ r = 1)) 0 0 (fun _ => False) := by
  refine Met.ofW (cc := cX0_isLow) (maxL := 1) (ret := (some .boolean)) (by decide) rfl ?_
  intro p e s m args below meth c s₁ B hml hv
  obtain ⟨rfl, hH0, hG, hpre⟩ := hv
  have hK := hG.1
  have hx := B.exec
  have hb := B.bytes
  have hr := B.returns
  have hts := atoms_spec (ws := (jw yX0_isLow cX0_isLow 1 (some .boolean))) B.pre
  have htw : ∀ w ∈ jWl, w.before _ s = true := fun w h => hts w (List.mem_cons_of_mem _ h)
  have hown : s.vm.findClass RX0 = some m.cls := findClass_of_methodNamed B.named
  have hlocks := B.notSynchronized
  obtain ⟨Q, hQ⟩ : ∃ Q, Q = MQ below (vp_Si (fun r => r = 0 ∨ r = 1)) ([.int a0] : List Value).toArray s 0 0 (fun _ => False) := ⟨_, rfl⟩
  rw [← hQ]
  have hl := lv_entry ([.int a0]) (n := 1) (Nat.le_of_ble_eq_true rfl)
  rw [lg_entry_eq]
  generalize (lg_sl ([.int a0]) ++ List.replicate (1 - (lg_sl ([.int a0])).length) Slot.unset).toArray = ls at hl ⊢
  have hl : lv_has ls 1 [(0, .int a0)] := hl
  generalize hR : (headSpec (jw yX0_isLow cX0_isLow 1 (some .boolean)) ({ frames := 0, cells := 0, slots := 0, locals := 0 })).room = R
  subst hH0
  have hS : va_S (jA base) s.heap s.heap [] := va_S.rf
  have hk0 : (0 : Int32).toInt = 0 := by decide
  have hk1 : (1 : Int32).toInt = 1 := by decide
  refine lv_iload_n hx hb dX0_isLow_0 rfl (lv_at hl 0 rfl) ?_
  refine lv_ldc hx hb hown (htw (.constant RX0 62 56320) (jWr_21 _ (List.mem_of_getElem? (i := 12) rfl))) dX0_isLow_1 ?_
  refine lv_icmp_lt (tgt := 16) hx hb dX0_isLow_3 (by decide) (fun c_1 => ?_) (fun c_1 => ?_)
  · skip
    have c_1' : a0.toInt < 56320 := jb_lt (rfl) ((by decide)) c_1
    refine lv_iconst (v := 0) hx hb dX0_isLow_16 (by decide) ?_
    rw [hQ]
    exact W.zret (v := 0) hx hb hr (jb_nz (Or.inl rfl)) (fun t ht hW => ⟨0, rfl, by first | exact Or.inl rfl | exact Or.inr rfl | assumption, ht⟩) (fun _ h => nomatch h) dX0_isLow_17
  · skip
    have c_1' : a0.toInt ≥ 56320 := jb_lt_n (rfl) ((by decide)) c_1
    refine lv_iload_n hx hb dX0_isLow_6 rfl (lv_at hl 0 rfl) ?_
    refine lv_ldc hx hb hown (htw (.constant RX0 73 57344) (jWr_20 _ (List.mem_of_getElem? (i := 18) rfl))) dX0_isLow_7 ?_
    refine lv_icmp_ge (tgt := 16) hx hb dX0_isLow_9 (by decide) (fun c_2 => ?_) (fun c_2 => ?_)
    · skip
      have c_2' : a0.toInt ≥ 57344 := jb_ge (rfl) ((by decide)) c_2
      refine lv_iconst (v := 0) hx hb dX0_isLow_16 (by decide) ?_
      rw [hQ]
      exact W.zret (v := 0) hx hb hr (jb_nz (Or.inl rfl)) (fun t ht hW => ⟨0, rfl, by first | exact Or.inl rfl | exact Or.inr rfl | assumption, ht⟩) (fun _ h => nomatch h) dX0_isLow_17
    · skip
      have c_2' : a0.toInt < 57344 := jb_ge_n (rfl) ((by decide)) c_2
      refine lv_iconst (v := 1) hx hb dX0_isLow_12 (by decide) ?_
      refine lv_goto (tgt := 17) hx hb dX0_isLow_13 (by decide) ?_
      rw [hQ]
      exact W.zret (v := 1) hx hb hr (jb_nz (Or.inr rfl)) (fun t ht hW => ⟨1, rfl, by first | exact Or.inl rfl | exact Or.inr rfl | assumption, ht⟩) (fun _ h => nomatch h) dX0_isLow_17
set_option maxHeartbeats 4000000 in
set_option maxRecDepth 20000 in
theorem wX11_isBlank (l : Launch) (dC : Nat → ClassId) (dI : Nat → Nat → Nat) (ca : Nat → ClassId) (base : Nat) (H0 : Heap) (a0 : Int32) : Met l yX11_isBlank (jw yX11_isBlank cX11_isBlank 1 (some .boolean)) ({ frames := 0, cells := 0, slots := 0, locals := 0 }) (va_Pc [.int a0] (fun U => U.heap = H0 ∧ jG dC dI ca base U ∧ (True))) (vp_Si (fun r => r = 0 ∨ r = 1)) 0 0 (fun _ => False) := by
  refine Met.ofW (cc := cX11_isBlank) (maxL := 1) (ret := (some .boolean)) (by decide) rfl ?_
  intro p e s m args below meth c s₁ B hml hv
  obtain ⟨rfl, hH0, hG, hpre⟩ := hv
  have hK := hG.1
  have hx := B.exec
  have hb := B.bytes
  have hr := B.returns
  have hts := atoms_spec (ws := (jw yX11_isBlank cX11_isBlank 1 (some .boolean))) B.pre
  have htw : ∀ w ∈ jWl, w.before _ s = true := fun w h => hts w (List.mem_cons_of_mem _ h)
  have hown : s.vm.findClass RX11 = some m.cls := findClass_of_methodNamed B.named
  have hlocks := B.notSynchronized
  obtain ⟨Q, hQ⟩ : ∃ Q, Q = MQ below (vp_Si (fun r => r = 0 ∨ r = 1)) ([.int a0] : List Value).toArray s 0 0 (fun _ => False) := ⟨_, rfl⟩
  rw [← hQ]
  have hl := lv_entry ([.int a0]) (n := 1) (Nat.le_of_ble_eq_true rfl)
  rw [lg_entry_eq]
  generalize (lg_sl ([.int a0]) ++ List.replicate (1 - (lg_sl ([.int a0])).length) Slot.unset).toArray = ls at hl ⊢
  have hl : lv_has ls 1 [(0, .int a0)] := hl
  generalize hR : (headSpec (jw yX11_isBlank cX11_isBlank 1 (some .boolean)) ({ frames := 0, cells := 0, slots := 0, locals := 0 })).room = R
  subst hH0
  have hS : va_S (jA base) s.heap s.heap [] := va_S.rf
  have hk0 : (0 : Int32).toInt = 0 := by decide
  have hk1 : (1 : Int32).toInt = 1 := by decide
  have hk9 : (9 : Int32).toInt = 9 := by decide
  have hk10 : (10 : Int32).toInt = 10 := by decide
  have hk13 : (13 : Int32).toInt = 13 := by decide
  have hk32 : (32 : Int32).toInt = 32 := by decide
  refine lv_iload_n hx hb dX11_isBlank_0 rfl (lv_at hl 0 rfl) ?_
  refine lv_bipush (v := 32) hx hb dX11_isBlank_1 (by decide) ?_
  refine lv_icmp_eq (tgt := 24) hx hb dX11_isBlank_3 (by decide) (fun c_1 => ?_) (fun c_1 => ?_)
  · skip
    have c_1' : a0.toInt = 32 := jb_eq (rfl) ((by decide)) c_1
    refine lv_iconst (v := 1) hx hb dX11_isBlank_24 (by decide) ?_
    refine lv_goto (tgt := 29) hx hb dX11_isBlank_25 (by decide) ?_
    rw [hQ]
    exact W.zret (v := 1) hx hb hr (jb_nz (Or.inr rfl)) (fun t ht hW => ⟨1, rfl, by first | exact Or.inl rfl | exact Or.inr rfl | assumption, ht⟩) (fun _ h => nomatch h) dX11_isBlank_29
  · skip
    have c_1' : a0.toInt ≠ 32 := jb_eq_n (rfl) ((by decide)) c_1
    refine lv_iload_n hx hb dX11_isBlank_6 rfl (lv_at hl 0 rfl) ?_
    refine lv_bipush (v := 9) hx hb dX11_isBlank_7 (by decide) ?_
    refine lv_icmp_eq (tgt := 24) hx hb dX11_isBlank_9 (by decide) (fun c_2 => ?_) (fun c_2 => ?_)
    · skip
      have c_2' : a0.toInt = 9 := jb_eq (rfl) ((by decide)) c_2
      refine lv_iconst (v := 1) hx hb dX11_isBlank_24 (by decide) ?_
      refine lv_goto (tgt := 29) hx hb dX11_isBlank_25 (by decide) ?_
      rw [hQ]
      exact W.zret (v := 1) hx hb hr (jb_nz (Or.inr rfl)) (fun t ht hW => ⟨1, rfl, by first | exact Or.inl rfl | exact Or.inr rfl | assumption, ht⟩) (fun _ h => nomatch h) dX11_isBlank_29
    · skip
      have c_2' : a0.toInt ≠ 9 := jb_eq_n (rfl) ((by decide)) c_2
      refine lv_iload_n hx hb dX11_isBlank_12 rfl (lv_at hl 0 rfl) ?_
      refine lv_bipush (v := 10) hx hb dX11_isBlank_13 (by decide) ?_
      refine lv_icmp_eq (tgt := 24) hx hb dX11_isBlank_15 (by decide) (fun c_3 => ?_) (fun c_3 => ?_)
      · skip
        have c_3' : a0.toInt = 10 := jb_eq (rfl) ((by decide)) c_3
        refine lv_iconst (v := 1) hx hb dX11_isBlank_24 (by decide) ?_
        refine lv_goto (tgt := 29) hx hb dX11_isBlank_25 (by decide) ?_
        rw [hQ]
        exact W.zret (v := 1) hx hb hr (jb_nz (Or.inr rfl)) (fun t ht hW => ⟨1, rfl, by first | exact Or.inl rfl | exact Or.inr rfl | assumption, ht⟩) (fun _ h => nomatch h) dX11_isBlank_29
      · skip
        have c_3' : a0.toInt ≠ 10 := jb_eq_n (rfl) ((by decide)) c_3
        refine lv_iload_n hx hb dX11_isBlank_18 rfl (lv_at hl 0 rfl) ?_
        refine lv_bipush (v := 13) hx hb dX11_isBlank_19 (by decide) ?_
        refine lv_icmp_ne (tgt := 28) hx hb dX11_isBlank_21 (by decide) (fun c_4 => ?_) (fun c_4 => ?_)
        · skip
          have c_4' : a0.toInt ≠ 13 := jb_ne (rfl) ((by decide)) c_4
          refine lv_iconst (v := 0) hx hb dX11_isBlank_28 (by decide) ?_
          rw [hQ]
          exact W.zret (v := 0) hx hb hr (jb_nz (Or.inl rfl)) (fun t ht hW => ⟨0, rfl, by first | exact Or.inl rfl | exact Or.inr rfl | assumption, ht⟩) (fun _ h => nomatch h) dX11_isBlank_29
        · skip
          have c_4' : a0.toInt = 13 := jb_ne_n (rfl) ((by decide)) c_4
          refine lv_iconst (v := 1) hx hb dX11_isBlank_24 (by decide) ?_
          refine lv_goto (tgt := 29) hx hb dX11_isBlank_25 (by decide) ?_
          rw [hQ]
          exact W.zret (v := 1) hx hb hr (jb_nz (Or.inr rfl)) (fun t ht hW => ⟨1, rfl, by first | exact Or.inl rfl | exact Or.inr rfl | assumption, ht⟩) (fun _ h => nomatch h) dX11_isBlank_29
set_option maxHeartbeats 4000000 in
set_option maxRecDepth 20000 in
theorem wX11_isLetter (l : Launch) (dC : Nat → ClassId) (dI : Nat → Nat → Nat) (ca : Nat → ClassId) (base : Nat) (H0 : Heap) (a0 : Int32) : Met l yX11_isLetter (jw yX11_isLetter cX11_isLetter 1 (some .boolean)) ({ frames := 0, cells := 0, slots := 0, locals := 0 }) (va_Pc [.int a0] (fun U => U.heap = H0 ∧ jG dC dI ca base U ∧ (True))) (vp_Si (fun r => r = 0 ∨ r = 1)) 0 0 (fun _ => False) := by
  refine Met.ofW (cc := cX11_isLetter) (maxL := 1) (ret := (some .boolean)) (by decide) rfl ?_
  intro p e s m args below meth c s₁ B hml hv
  obtain ⟨rfl, hH0, hG, hpre⟩ := hv
  have hK := hG.1
  have hx := B.exec
  have hb := B.bytes
  have hr := B.returns
  have hts := atoms_spec (ws := (jw yX11_isLetter cX11_isLetter 1 (some .boolean))) B.pre
  have htw : ∀ w ∈ jWl, w.before _ s = true := fun w h => hts w (List.mem_cons_of_mem _ h)
  have hown : s.vm.findClass RX11 = some m.cls := findClass_of_methodNamed B.named
  have hlocks := B.notSynchronized
  obtain ⟨Q, hQ⟩ : ∃ Q, Q = MQ below (vp_Si (fun r => r = 0 ∨ r = 1)) ([.int a0] : List Value).toArray s 0 0 (fun _ => False) := ⟨_, rfl⟩
  rw [← hQ]
  have hl := lv_entry ([.int a0]) (n := 1) (Nat.le_of_ble_eq_true rfl)
  rw [lg_entry_eq]
  generalize (lg_sl ([.int a0]) ++ List.replicate (1 - (lg_sl ([.int a0])).length) Slot.unset).toArray = ls at hl ⊢
  have hl : lv_has ls 1 [(0, .int a0)] := hl
  generalize hR : (headSpec (jw yX11_isLetter cX11_isLetter 1 (some .boolean)) ({ frames := 0, cells := 0, slots := 0, locals := 0 })).room = R
  subst hH0
  have hS : va_S (jA base) s.heap s.heap [] := va_S.rf
  have hk0 : (0 : Int32).toInt = 0 := by decide
  have hk1 : (1 : Int32).toInt = 1 := by decide
  have hk65 : (65 : Int32).toInt = 65 := by decide
  have hk90 : (90 : Int32).toInt = 90 := by decide
  have hk97 : (97 : Int32).toInt = 97 := by decide
  have hk122 : (122 : Int32).toInt = 122 := by decide
  refine lv_iload_n hx hb dX11_isLetter_0 rfl (lv_at hl 0 rfl) ?_
  refine lv_bipush (v := 97) hx hb dX11_isLetter_1 (by decide) ?_
  refine lv_icmp_lt (tgt := 12) hx hb dX11_isLetter_3 (by decide) (fun c_1 => ?_) (fun c_1 => ?_)
  · skip
    have c_1' : a0.toInt < 97 := jb_lt (rfl) ((by decide)) c_1
    refine lv_iload_n hx hb dX11_isLetter_12 rfl (lv_at hl 0 rfl) ?_
    refine lv_bipush (v := 65) hx hb dX11_isLetter_13 (by decide) ?_
    refine lv_icmp_lt (tgt := 28) hx hb dX11_isLetter_15 (by decide) (fun c_2 => ?_) (fun c_2 => ?_)
    · skip
      have c_2' : a0.toInt < 65 := jb_lt (rfl) ((by decide)) c_2
      refine lv_iconst (v := 0) hx hb dX11_isLetter_28 (by decide) ?_
      rw [hQ]
      exact W.zret (v := 0) hx hb hr (jb_nz (Or.inl rfl)) (fun t ht hW => ⟨0, rfl, by first | exact Or.inl rfl | exact Or.inr rfl | assumption, ht⟩) (fun _ h => nomatch h) dX11_isLetter_29
    · skip
      have c_2' : a0.toInt ≥ 65 := jb_lt_n (rfl) ((by decide)) c_2
      refine lv_iload_n hx hb dX11_isLetter_18 rfl (lv_at hl 0 rfl) ?_
      refine lv_bipush (v := 90) hx hb dX11_isLetter_19 (by decide) ?_
      refine lv_icmp_gt (tgt := 28) hx hb dX11_isLetter_21 (by decide) (fun c_3 => ?_) (fun c_3 => ?_)
      · skip
        have c_3' : a0.toInt > 90 := jb_gt (rfl) ((by decide)) c_3
        refine lv_iconst (v := 0) hx hb dX11_isLetter_28 (by decide) ?_
        rw [hQ]
        exact W.zret (v := 0) hx hb hr (jb_nz (Or.inl rfl)) (fun t ht hW => ⟨0, rfl, by first | exact Or.inl rfl | exact Or.inr rfl | assumption, ht⟩) (fun _ h => nomatch h) dX11_isLetter_29
      · skip
        have c_3' : a0.toInt ≤ 90 := jb_gt_n (rfl) ((by decide)) c_3
        refine lv_iconst (v := 1) hx hb dX11_isLetter_24 (by decide) ?_
        refine lv_goto (tgt := 29) hx hb dX11_isLetter_25 (by decide) ?_
        rw [hQ]
        exact W.zret (v := 1) hx hb hr (jb_nz (Or.inr rfl)) (fun t ht hW => ⟨1, rfl, by first | exact Or.inl rfl | exact Or.inr rfl | assumption, ht⟩) (fun _ h => nomatch h) dX11_isLetter_29
  · skip
    have c_1' : a0.toInt ≥ 97 := jb_lt_n (rfl) ((by decide)) c_1
    refine lv_iload_n hx hb dX11_isLetter_6 rfl (lv_at hl 0 rfl) ?_
    refine lv_bipush (v := 122) hx hb dX11_isLetter_7 (by decide) ?_
    refine lv_icmp_le (tgt := 24) hx hb dX11_isLetter_9 (by decide) (fun c_4 => ?_) (fun c_4 => ?_)
    · skip
      have c_4' : a0.toInt ≤ 122 := jb_le (rfl) ((by decide)) c_4
      refine lv_iconst (v := 1) hx hb dX11_isLetter_24 (by decide) ?_
      refine lv_goto (tgt := 29) hx hb dX11_isLetter_25 (by decide) ?_
      rw [hQ]
      exact W.zret (v := 1) hx hb hr (jb_nz (Or.inr rfl)) (fun t ht hW => ⟨1, rfl, by first | exact Or.inl rfl | exact Or.inr rfl | assumption, ht⟩) (fun _ h => nomatch h) dX11_isLetter_29
    · skip
      have c_4' : a0.toInt > 122 := jb_le_n (rfl) ((by decide)) c_4
      refine lv_iload_n hx hb dX11_isLetter_12 rfl (lv_at hl 0 rfl) ?_
      refine lv_bipush (v := 65) hx hb dX11_isLetter_13 (by decide) ?_
      refine lv_icmp_lt (tgt := 28) hx hb dX11_isLetter_15 (by decide) (fun c_5 => ?_) (fun c_5 => ?_)
      · skip
        have c_5' : a0.toInt < 65 := jb_lt (rfl) ((by decide)) c_5
        refine lv_iconst (v := 0) hx hb dX11_isLetter_28 (by decide) ?_
        rw [hQ]
        exact W.zret (v := 0) hx hb hr (jb_nz (Or.inl rfl)) (fun t ht hW => ⟨0, rfl, by first | exact Or.inl rfl | exact Or.inr rfl | assumption, ht⟩) (fun _ h => nomatch h) dX11_isLetter_29
      · skip
        have c_5' : a0.toInt ≥ 65 := jb_lt_n (rfl) ((by decide)) c_5
        refine lv_iload_n hx hb dX11_isLetter_18 rfl (lv_at hl 0 rfl) ?_
        refine lv_bipush (v := 90) hx hb dX11_isLetter_19 (by decide) ?_
        refine lv_icmp_gt (tgt := 28) hx hb dX11_isLetter_21 (by decide) (fun c_6 => ?_) (fun c_6 => ?_)
        · skip
          have c_6' : a0.toInt > 90 := jb_gt (rfl) ((by decide)) c_6
          refine lv_iconst (v := 0) hx hb dX11_isLetter_28 (by decide) ?_
          rw [hQ]
          exact W.zret (v := 0) hx hb hr (jb_nz (Or.inl rfl)) (fun t ht hW => ⟨0, rfl, by first | exact Or.inl rfl | exact Or.inr rfl | assumption, ht⟩) (fun _ h => nomatch h) dX11_isLetter_29
        · skip
          have c_6' : a0.toInt ≤ 90 := jb_gt_n (rfl) ((by decide)) c_6
          refine lv_iconst (v := 1) hx hb dX11_isLetter_24 (by decide) ?_
          refine lv_goto (tgt := 29) hx hb dX11_isLetter_25 (by decide) ?_
          rw [hQ]
          exact W.zret (v := 1) hx hb hr (jb_nz (Or.inr rfl)) (fun t ht hW => ⟨1, rfl, by first | exact Or.inl rfl | exact Or.inr rfl | assumption, ht⟩) (fun _ h => nomatch h) dX11_isLetter_29
set_option maxHeartbeats 4000000 in
set_option maxRecDepth 20000 in
theorem wX6_signOf (l : Launch) (dC : Nat → ClassId) (dI : Nat → Nat → Nat) (ca : Nat → ClassId) (base : Nat) (H0 : Heap) (a0 : Int32) : Met l yX6_signOf (jw yX6_signOf cX6_signOf 1 (some .int)) ({ frames := 0, cells := 0, slots := 0, locals := 0 }) (va_Pc [.int a0] (fun U => U.heap = H0 ∧ jG dC dI ca base U ∧ (True))) (vp_Si (fun r => -1 ≤ r.toInt ∧ r.toInt ≤ 63)) 0 0 (fun _ => False) := by
  refine Met.ofW (cc := cX6_signOf) (maxL := 1) (ret := (some .int)) (by decide) rfl ?_
  intro p e s m args below meth c s₁ B hml hv
  obtain ⟨rfl, hH0, hG, hpre⟩ := hv
  have hK := hG.1
  have hx := B.exec
  have hb := B.bytes
  have hr := B.returns
  have hts := atoms_spec (ws := (jw yX6_signOf cX6_signOf 1 (some .int))) B.pre
  have htw : ∀ w ∈ jWl, w.before _ s = true := fun w h => hts w (List.mem_cons_of_mem _ h)
  have hown : s.vm.findClass RX6 = some m.cls := findClass_of_methodNamed B.named
  have hlocks := B.notSynchronized
  obtain ⟨Q, hQ⟩ : ∃ Q, Q = MQ below (vp_Si (fun r => -1 ≤ r.toInt ∧ r.toInt ≤ 63)) ([.int a0] : List Value).toArray s 0 0 (fun _ => False) := ⟨_, rfl⟩
  rw [← hQ]
  have hl := lv_entry ([.int a0]) (n := 1) (Nat.le_of_ble_eq_true rfl)
  rw [lg_entry_eq]
  generalize (lg_sl ([.int a0]) ++ List.replicate (1 - (lg_sl ([.int a0])).length) Slot.unset).toArray = ls at hl ⊢
  have hl : lv_has ls 1 [(0, .int a0)] := hl
  generalize hR : (headSpec (jw yX6_signOf cX6_signOf 1 (some .int)) ({ frames := 0, cells := 0, slots := 0, locals := 0 })).room = R
  subst hH0
  have hS : va_S (jA base) s.heap s.heap [] := va_S.rf
  have hkm1 : ((-1) : Int32).toInt = (-1) := by decide
  have hk0 : (0 : Int32).toInt = 0 := by decide
  have hk1 : (1 : Int32).toInt = 1 := by decide
  have hk26 : (26 : Int32).toInt = 26 := by decide
  have hk39 : (39 : Int32).toInt = 39 := by decide
  have hk48 : (48 : Int32).toInt = 48 := by decide
  have hk52 : (52 : Int32).toInt = 52 := by decide
  have hk57 : (57 : Int32).toInt = 57 := by decide
  have hk62 : (62 : Int32).toInt = 62 := by decide
  have hk63 : (63 : Int32).toInt = 63 := by decide
  have hk65 : (65 : Int32).toInt = 65 := by decide
  have hk90 : (90 : Int32).toInt = 90 := by decide
  have hk95 : (95 : Int32).toInt = 95 := by decide
  have hk97 : (97 : Int32).toInt = 97 := by decide
  have hk122 : (122 : Int32).toInt = 122 := by decide
  refine lv_iload_n hx hb dX6_signOf_0 rfl (lv_at hl 0 rfl) ?_
  refine lv_bipush (v := 97) hx hb dX6_signOf_1 (by decide) ?_
  refine lv_icmp_lt (tgt := 17) hx hb dX6_signOf_3 (by decide) (fun c_1 => ?_) (fun c_1 => ?_)
  · skip
    have c_1' : a0.toInt < 97 := jb_lt (rfl) ((by decide)) c_1
    refine lv_iload_n hx hb dX6_signOf_17 rfl (lv_at hl 0 rfl) ?_
    refine lv_bipush (v := 65) hx hb dX6_signOf_18 (by decide) ?_
    refine lv_icmp_lt (tgt := 37) hx hb dX6_signOf_20 (by decide) (fun c_2 => ?_) (fun c_2 => ?_)
    · skip
      have c_2' : a0.toInt < 65 := jb_lt (rfl) ((by decide)) c_2
      refine lv_iload_n hx hb dX6_signOf_37 rfl (lv_at hl 0 rfl) ?_
      refine lv_bipush (v := 48) hx hb dX6_signOf_38 (by decide) ?_
      refine lv_icmp_lt (tgt := 57) hx hb dX6_signOf_40 (by decide) (fun c_3 => ?_) (fun c_3 => ?_)
      · skip
        have c_3' : a0.toInt < 48 := jb_lt (rfl) ((by decide)) c_3
        refine lv_iload_n hx hb dX6_signOf_57 rfl (lv_at hl 0 rfl) ?_
        refine lv_bipush (v := 95) hx hb dX6_signOf_58 (by decide) ?_
        refine lv_icmp_ne (tgt := 68) hx hb dX6_signOf_60 (by decide) (fun c_4 => ?_) (fun c_4 => ?_)
        · skip
          have c_4' : a0.toInt ≠ 95 := jb_ne (rfl) ((by decide)) c_4
          refine lv_iload_n hx hb dX6_signOf_68 rfl (lv_at hl 0 rfl) ?_
          refine lv_bipush (v := 39) hx hb dX6_signOf_69 (by decide) ?_
          refine lv_icmp_ne (tgt := 79) hx hb dX6_signOf_71 (by decide) (fun c_5 => ?_) (fun c_5 => ?_)
          · skip
            have c_5' : a0.toInt ≠ 39 := jb_ne (rfl) ((by decide)) c_5
            refine lv_iconst (v := (-1)) hx hb dX6_signOf_79 (by decide) ?_
            rw [hQ]
            exact W.iret (v := (-1)) hx hb hr (fun t ht hW => ⟨(-1), rfl, by first | trivial | omega | (constructor <;> omega), ht⟩) (fun _ h => nomatch h) dX6_signOf_80
          · skip
            have c_5' : a0.toInt = 39 := jb_ne_n (rfl) ((by decide)) c_5
            refine lv_bipush (v := 63) hx hb dX6_signOf_74 (by decide) ?_
            refine lv_goto (tgt := 80) hx hb dX6_signOf_76 (by decide) ?_
            rw [hQ]
            exact W.iret (v := 63) hx hb hr (fun t ht hW => ⟨63, rfl, by first | trivial | omega | (constructor <;> omega), ht⟩) (fun _ h => nomatch h) dX6_signOf_80
        · skip
          have c_4' : a0.toInt = 95 := jb_ne_n (rfl) ((by decide)) c_4
          refine lv_bipush (v := 62) hx hb dX6_signOf_63 (by decide) ?_
          refine lv_goto (tgt := 80) hx hb dX6_signOf_65 (by decide) ?_
          rw [hQ]
          exact W.iret (v := 62) hx hb hr (fun t ht hW => ⟨62, rfl, by first | trivial | omega | (constructor <;> omega), ht⟩) (fun _ h => nomatch h) dX6_signOf_80
      · skip
        have c_3' : a0.toInt ≥ 48 := jb_lt_n (rfl) ((by decide)) c_3
        refine lv_iload_n hx hb dX6_signOf_43 rfl (lv_at hl 0 rfl) ?_
        refine lv_bipush (v := 57) hx hb dX6_signOf_44 (by decide) ?_
        refine lv_icmp_gt (tgt := 57) hx hb dX6_signOf_46 (by decide) (fun c_6 => ?_) (fun c_6 => ?_)
        · skip
          have c_6' : a0.toInt > 57 := jb_gt (rfl) ((by decide)) c_6
          refine lv_iload_n hx hb dX6_signOf_57 rfl (lv_at hl 0 rfl) ?_
          refine lv_bipush (v := 95) hx hb dX6_signOf_58 (by decide) ?_
          refine lv_icmp_ne (tgt := 68) hx hb dX6_signOf_60 (by decide) (fun c_7 => ?_) (fun c_7 => ?_)
          · skip
            have c_7' : a0.toInt ≠ 95 := jb_ne (rfl) ((by decide)) c_7
            refine lv_iload_n hx hb dX6_signOf_68 rfl (lv_at hl 0 rfl) ?_
            refine lv_bipush (v := 39) hx hb dX6_signOf_69 (by decide) ?_
            refine lv_icmp_ne (tgt := 79) hx hb dX6_signOf_71 (by decide) (fun c_8 => ?_) (fun c_8 => ?_)
            · skip
              have c_8' : a0.toInt ≠ 39 := jb_ne (rfl) ((by decide)) c_8
              refine lv_iconst (v := (-1)) hx hb dX6_signOf_79 (by decide) ?_
              rw [hQ]
              exact W.iret (v := (-1)) hx hb hr (fun t ht hW => ⟨(-1), rfl, by first | trivial | omega | (constructor <;> omega), ht⟩) (fun _ h => nomatch h) dX6_signOf_80
            · skip
              have c_8' : a0.toInt = 39 := jb_ne_n (rfl) ((by decide)) c_8
              refine lv_bipush (v := 63) hx hb dX6_signOf_74 (by decide) ?_
              refine lv_goto (tgt := 80) hx hb dX6_signOf_76 (by decide) ?_
              rw [hQ]
              exact W.iret (v := 63) hx hb hr (fun t ht hW => ⟨63, rfl, by first | trivial | omega | (constructor <;> omega), ht⟩) (fun _ h => nomatch h) dX6_signOf_80
          · skip
            have c_7' : a0.toInt = 95 := jb_ne_n (rfl) ((by decide)) c_7
            refine lv_bipush (v := 62) hx hb dX6_signOf_63 (by decide) ?_
            refine lv_goto (tgt := 80) hx hb dX6_signOf_65 (by decide) ?_
            rw [hQ]
            exact W.iret (v := 62) hx hb hr (fun t ht hW => ⟨62, rfl, by first | trivial | omega | (constructor <;> omega), ht⟩) (fun _ h => nomatch h) dX6_signOf_80
        · skip
          have c_6' : a0.toInt ≤ 57 := jb_gt_n (rfl) ((by decide)) c_6
          refine lv_iload_n hx hb dX6_signOf_49 rfl (lv_at hl 0 rfl) ?_
          refine lv_bipush (v := 48) hx hb dX6_signOf_50 (by decide) ?_
          refine lv_isub hx hb dX6_signOf_52 ?_
          refine lv_topi (fun z_9 ez_9 => ?_)
          have hz_9 : z_9.toInt = a0.toInt - 48 := by rw [ez_9]; exact jb_isub (rfl) ((by decide)) (by omega) (by omega)
          refine lv_bipush (v := 52) hx hb dX6_signOf_53 (by decide) ?_
          refine lv_iadd hx hb dX6_signOf_55 ?_
          refine lv_topi (fun z_10 ez_10 => ?_)
          have hz_10 : z_10.toInt = z_9.toInt + 52 := by rw [ez_10]; exact jb_iadd (rfl) ((by decide)) (by omega) (by omega)
          rw [hQ]
          exact W.iret (v := z_10) hx hb hr (fun t ht hW => ⟨z_10, rfl, by first | trivial | omega | (constructor <;> omega), ht⟩) (fun _ h => nomatch h) dX6_signOf_56
    · skip
      have c_2' : a0.toInt ≥ 65 := jb_lt_n (rfl) ((by decide)) c_2
      refine lv_iload_n hx hb dX6_signOf_23 rfl (lv_at hl 0 rfl) ?_
      refine lv_bipush (v := 90) hx hb dX6_signOf_24 (by decide) ?_
      refine lv_icmp_gt (tgt := 37) hx hb dX6_signOf_26 (by decide) (fun c_11 => ?_) (fun c_11 => ?_)
      · skip
        have c_11' : a0.toInt > 90 := jb_gt (rfl) ((by decide)) c_11
        refine lv_iload_n hx hb dX6_signOf_37 rfl (lv_at hl 0 rfl) ?_
        refine lv_bipush (v := 48) hx hb dX6_signOf_38 (by decide) ?_
        refine lv_icmp_lt (tgt := 57) hx hb dX6_signOf_40 (by decide) (fun c_12 => ?_) (fun c_12 => ?_)
        · skip
          have c_12' : a0.toInt < 48 := jb_lt (rfl) ((by decide)) c_12
          refine lv_iload_n hx hb dX6_signOf_57 rfl (lv_at hl 0 rfl) ?_
          refine lv_bipush (v := 95) hx hb dX6_signOf_58 (by decide) ?_
          refine lv_icmp_ne (tgt := 68) hx hb dX6_signOf_60 (by decide) (fun c_13 => ?_) (fun c_13 => ?_)
          · skip
            have c_13' : a0.toInt ≠ 95 := jb_ne (rfl) ((by decide)) c_13
            refine lv_iload_n hx hb dX6_signOf_68 rfl (lv_at hl 0 rfl) ?_
            refine lv_bipush (v := 39) hx hb dX6_signOf_69 (by decide) ?_
            refine lv_icmp_ne (tgt := 79) hx hb dX6_signOf_71 (by decide) (fun c_14 => ?_) (fun c_14 => ?_)
            · skip
              have c_14' : a0.toInt ≠ 39 := jb_ne (rfl) ((by decide)) c_14
              refine lv_iconst (v := (-1)) hx hb dX6_signOf_79 (by decide) ?_
              rw [hQ]
              exact W.iret (v := (-1)) hx hb hr (fun t ht hW => ⟨(-1), rfl, by first | trivial | omega | (constructor <;> omega), ht⟩) (fun _ h => nomatch h) dX6_signOf_80
            · skip
              have c_14' : a0.toInt = 39 := jb_ne_n (rfl) ((by decide)) c_14
              refine lv_bipush (v := 63) hx hb dX6_signOf_74 (by decide) ?_
              refine lv_goto (tgt := 80) hx hb dX6_signOf_76 (by decide) ?_
              rw [hQ]
              exact W.iret (v := 63) hx hb hr (fun t ht hW => ⟨63, rfl, by first | trivial | omega | (constructor <;> omega), ht⟩) (fun _ h => nomatch h) dX6_signOf_80
          · skip
            have c_13' : a0.toInt = 95 := jb_ne_n (rfl) ((by decide)) c_13
            refine lv_bipush (v := 62) hx hb dX6_signOf_63 (by decide) ?_
            refine lv_goto (tgt := 80) hx hb dX6_signOf_65 (by decide) ?_
            rw [hQ]
            exact W.iret (v := 62) hx hb hr (fun t ht hW => ⟨62, rfl, by first | trivial | omega | (constructor <;> omega), ht⟩) (fun _ h => nomatch h) dX6_signOf_80
        · skip
          have c_12' : a0.toInt ≥ 48 := jb_lt_n (rfl) ((by decide)) c_12
          refine lv_iload_n hx hb dX6_signOf_43 rfl (lv_at hl 0 rfl) ?_
          refine lv_bipush (v := 57) hx hb dX6_signOf_44 (by decide) ?_
          refine lv_icmp_gt (tgt := 57) hx hb dX6_signOf_46 (by decide) (fun c_15 => ?_) (fun c_15 => ?_)
          · skip
            have c_15' : a0.toInt > 57 := jb_gt (rfl) ((by decide)) c_15
            refine lv_iload_n hx hb dX6_signOf_57 rfl (lv_at hl 0 rfl) ?_
            refine lv_bipush (v := 95) hx hb dX6_signOf_58 (by decide) ?_
            refine lv_icmp_ne (tgt := 68) hx hb dX6_signOf_60 (by decide) (fun c_16 => ?_) (fun c_16 => ?_)
            · skip
              have c_16' : a0.toInt ≠ 95 := jb_ne (rfl) ((by decide)) c_16
              refine lv_iload_n hx hb dX6_signOf_68 rfl (lv_at hl 0 rfl) ?_
              refine lv_bipush (v := 39) hx hb dX6_signOf_69 (by decide) ?_
              refine lv_icmp_ne (tgt := 79) hx hb dX6_signOf_71 (by decide) (fun c_17 => ?_) (fun c_17 => ?_)
              · skip
                have c_17' : a0.toInt ≠ 39 := jb_ne (rfl) ((by decide)) c_17
                refine lv_iconst (v := (-1)) hx hb dX6_signOf_79 (by decide) ?_
                rw [hQ]
                exact W.iret (v := (-1)) hx hb hr (fun t ht hW => ⟨(-1), rfl, by first | trivial | omega | (constructor <;> omega), ht⟩) (fun _ h => nomatch h) dX6_signOf_80
              · skip
                have c_17' : a0.toInt = 39 := jb_ne_n (rfl) ((by decide)) c_17
                refine lv_bipush (v := 63) hx hb dX6_signOf_74 (by decide) ?_
                refine lv_goto (tgt := 80) hx hb dX6_signOf_76 (by decide) ?_
                rw [hQ]
                exact W.iret (v := 63) hx hb hr (fun t ht hW => ⟨63, rfl, by first | trivial | omega | (constructor <;> omega), ht⟩) (fun _ h => nomatch h) dX6_signOf_80
            · skip
              have c_16' : a0.toInt = 95 := jb_ne_n (rfl) ((by decide)) c_16
              refine lv_bipush (v := 62) hx hb dX6_signOf_63 (by decide) ?_
              refine lv_goto (tgt := 80) hx hb dX6_signOf_65 (by decide) ?_
              rw [hQ]
              exact W.iret (v := 62) hx hb hr (fun t ht hW => ⟨62, rfl, by first | trivial | omega | (constructor <;> omega), ht⟩) (fun _ h => nomatch h) dX6_signOf_80
          · skip
            have c_15' : a0.toInt ≤ 57 := jb_gt_n (rfl) ((by decide)) c_15
            refine lv_iload_n hx hb dX6_signOf_49 rfl (lv_at hl 0 rfl) ?_
            refine lv_bipush (v := 48) hx hb dX6_signOf_50 (by decide) ?_
            refine lv_isub hx hb dX6_signOf_52 ?_
            refine lv_topi (fun z_18 ez_18 => ?_)
            have hz_18 : z_18.toInt = a0.toInt - 48 := by rw [ez_18]; exact jb_isub (rfl) ((by decide)) (by omega) (by omega)
            refine lv_bipush (v := 52) hx hb dX6_signOf_53 (by decide) ?_
            refine lv_iadd hx hb dX6_signOf_55 ?_
            refine lv_topi (fun z_19 ez_19 => ?_)
            have hz_19 : z_19.toInt = z_18.toInt + 52 := by rw [ez_19]; exact jb_iadd (rfl) ((by decide)) (by omega) (by omega)
            rw [hQ]
            exact W.iret (v := z_19) hx hb hr (fun t ht hW => ⟨z_19, rfl, by first | trivial | omega | (constructor <;> omega), ht⟩) (fun _ h => nomatch h) dX6_signOf_56
      · skip
        have c_11' : a0.toInt ≤ 90 := jb_gt_n (rfl) ((by decide)) c_11
        refine lv_iload_n hx hb dX6_signOf_29 rfl (lv_at hl 0 rfl) ?_
        refine lv_bipush (v := 65) hx hb dX6_signOf_30 (by decide) ?_
        refine lv_isub hx hb dX6_signOf_32 ?_
        refine lv_topi (fun z_20 ez_20 => ?_)
        have hz_20 : z_20.toInt = a0.toInt - 65 := by rw [ez_20]; exact jb_isub (rfl) ((by decide)) (by omega) (by omega)
        refine lv_bipush (v := 26) hx hb dX6_signOf_33 (by decide) ?_
        refine lv_iadd hx hb dX6_signOf_35 ?_
        refine lv_topi (fun z_21 ez_21 => ?_)
        have hz_21 : z_21.toInt = z_20.toInt + 26 := by rw [ez_21]; exact jb_iadd (rfl) ((by decide)) (by omega) (by omega)
        rw [hQ]
        exact W.iret (v := z_21) hx hb hr (fun t ht hW => ⟨z_21, rfl, by first | trivial | omega | (constructor <;> omega), ht⟩) (fun _ h => nomatch h) dX6_signOf_36
  · skip
    have c_1' : a0.toInt ≥ 97 := jb_lt_n (rfl) ((by decide)) c_1
    refine lv_iload_n hx hb dX6_signOf_6 rfl (lv_at hl 0 rfl) ?_
    refine lv_bipush (v := 122) hx hb dX6_signOf_7 (by decide) ?_
    refine lv_icmp_gt (tgt := 17) hx hb dX6_signOf_9 (by decide) (fun c_22 => ?_) (fun c_22 => ?_)
    · skip
      have c_22' : a0.toInt > 122 := jb_gt (rfl) ((by decide)) c_22
      refine lv_iload_n hx hb dX6_signOf_17 rfl (lv_at hl 0 rfl) ?_
      refine lv_bipush (v := 65) hx hb dX6_signOf_18 (by decide) ?_
      refine lv_icmp_lt (tgt := 37) hx hb dX6_signOf_20 (by decide) (fun c_23 => ?_) (fun c_23 => ?_)
      · skip
        have c_23' : a0.toInt < 65 := jb_lt (rfl) ((by decide)) c_23
        refine lv_iload_n hx hb dX6_signOf_37 rfl (lv_at hl 0 rfl) ?_
        refine lv_bipush (v := 48) hx hb dX6_signOf_38 (by decide) ?_
        refine lv_icmp_lt (tgt := 57) hx hb dX6_signOf_40 (by decide) (fun c_24 => ?_) (fun c_24 => ?_)
        · skip
          have c_24' : a0.toInt < 48 := jb_lt (rfl) ((by decide)) c_24
          refine lv_iload_n hx hb dX6_signOf_57 rfl (lv_at hl 0 rfl) ?_
          refine lv_bipush (v := 95) hx hb dX6_signOf_58 (by decide) ?_
          refine lv_icmp_ne (tgt := 68) hx hb dX6_signOf_60 (by decide) (fun c_25 => ?_) (fun c_25 => ?_)
          · skip
            have c_25' : a0.toInt ≠ 95 := jb_ne (rfl) ((by decide)) c_25
            refine lv_iload_n hx hb dX6_signOf_68 rfl (lv_at hl 0 rfl) ?_
            refine lv_bipush (v := 39) hx hb dX6_signOf_69 (by decide) ?_
            refine lv_icmp_ne (tgt := 79) hx hb dX6_signOf_71 (by decide) (fun c_26 => ?_) (fun c_26 => ?_)
            · skip
              have c_26' : a0.toInt ≠ 39 := jb_ne (rfl) ((by decide)) c_26
              refine lv_iconst (v := (-1)) hx hb dX6_signOf_79 (by decide) ?_
              rw [hQ]
              exact W.iret (v := (-1)) hx hb hr (fun t ht hW => ⟨(-1), rfl, by first | trivial | omega | (constructor <;> omega), ht⟩) (fun _ h => nomatch h) dX6_signOf_80
            · skip
              have c_26' : a0.toInt = 39 := jb_ne_n (rfl) ((by decide)) c_26
              refine lv_bipush (v := 63) hx hb dX6_signOf_74 (by decide) ?_
              refine lv_goto (tgt := 80) hx hb dX6_signOf_76 (by decide) ?_
              rw [hQ]
              exact W.iret (v := 63) hx hb hr (fun t ht hW => ⟨63, rfl, by first | trivial | omega | (constructor <;> omega), ht⟩) (fun _ h => nomatch h) dX6_signOf_80
          · skip
            have c_25' : a0.toInt = 95 := jb_ne_n (rfl) ((by decide)) c_25
            refine lv_bipush (v := 62) hx hb dX6_signOf_63 (by decide) ?_
            refine lv_goto (tgt := 80) hx hb dX6_signOf_65 (by decide) ?_
            rw [hQ]
            exact W.iret (v := 62) hx hb hr (fun t ht hW => ⟨62, rfl, by first | trivial | omega | (constructor <;> omega), ht⟩) (fun _ h => nomatch h) dX6_signOf_80
        · skip
          have c_24' : a0.toInt ≥ 48 := jb_lt_n (rfl) ((by decide)) c_24
          refine lv_iload_n hx hb dX6_signOf_43 rfl (lv_at hl 0 rfl) ?_
          refine lv_bipush (v := 57) hx hb dX6_signOf_44 (by decide) ?_
          refine lv_icmp_gt (tgt := 57) hx hb dX6_signOf_46 (by decide) (fun c_27 => ?_) (fun c_27 => ?_)
          · skip
            have c_27' : a0.toInt > 57 := jb_gt (rfl) ((by decide)) c_27
            refine lv_iload_n hx hb dX6_signOf_57 rfl (lv_at hl 0 rfl) ?_
            refine lv_bipush (v := 95) hx hb dX6_signOf_58 (by decide) ?_
            refine lv_icmp_ne (tgt := 68) hx hb dX6_signOf_60 (by decide) (fun c_28 => ?_) (fun c_28 => ?_)
            · skip
              have c_28' : a0.toInt ≠ 95 := jb_ne (rfl) ((by decide)) c_28
              refine lv_iload_n hx hb dX6_signOf_68 rfl (lv_at hl 0 rfl) ?_
              refine lv_bipush (v := 39) hx hb dX6_signOf_69 (by decide) ?_
              refine lv_icmp_ne (tgt := 79) hx hb dX6_signOf_71 (by decide) (fun c_29 => ?_) (fun c_29 => ?_)
              · skip
                have c_29' : a0.toInt ≠ 39 := jb_ne (rfl) ((by decide)) c_29
                refine lv_iconst (v := (-1)) hx hb dX6_signOf_79 (by decide) ?_
                rw [hQ]
                exact W.iret (v := (-1)) hx hb hr (fun t ht hW => ⟨(-1), rfl, by first | trivial | omega | (constructor <;> omega), ht⟩) (fun _ h => nomatch h) dX6_signOf_80
              · skip
                have c_29' : a0.toInt = 39 := jb_ne_n (rfl) ((by decide)) c_29
                refine lv_bipush (v := 63) hx hb dX6_signOf_74 (by decide) ?_
                refine lv_goto (tgt := 80) hx hb dX6_signOf_76 (by decide) ?_
                rw [hQ]
                exact W.iret (v := 63) hx hb hr (fun t ht hW => ⟨63, rfl, by first | trivial | omega | (constructor <;> omega), ht⟩) (fun _ h => nomatch h) dX6_signOf_80
            · skip
              have c_28' : a0.toInt = 95 := jb_ne_n (rfl) ((by decide)) c_28
              refine lv_bipush (v := 62) hx hb dX6_signOf_63 (by decide) ?_
              refine lv_goto (tgt := 80) hx hb dX6_signOf_65 (by decide) ?_
              rw [hQ]
              exact W.iret (v := 62) hx hb hr (fun t ht hW => ⟨62, rfl, by first | trivial | omega | (constructor <;> omega), ht⟩) (fun _ h => nomatch h) dX6_signOf_80
          · skip
            have c_27' : a0.toInt ≤ 57 := jb_gt_n (rfl) ((by decide)) c_27
            refine lv_iload_n hx hb dX6_signOf_49 rfl (lv_at hl 0 rfl) ?_
            refine lv_bipush (v := 48) hx hb dX6_signOf_50 (by decide) ?_
            refine lv_isub hx hb dX6_signOf_52 ?_
            refine lv_topi (fun z_30 ez_30 => ?_)
            have hz_30 : z_30.toInt = a0.toInt - 48 := by rw [ez_30]; exact jb_isub (rfl) ((by decide)) (by omega) (by omega)
            refine lv_bipush (v := 52) hx hb dX6_signOf_53 (by decide) ?_
            refine lv_iadd hx hb dX6_signOf_55 ?_
            refine lv_topi (fun z_31 ez_31 => ?_)
            have hz_31 : z_31.toInt = z_30.toInt + 52 := by rw [ez_31]; exact jb_iadd (rfl) ((by decide)) (by omega) (by omega)
            rw [hQ]
            exact W.iret (v := z_31) hx hb hr (fun t ht hW => ⟨z_31, rfl, by first | trivial | omega | (constructor <;> omega), ht⟩) (fun _ h => nomatch h) dX6_signOf_56
      · skip
        have c_23' : a0.toInt ≥ 65 := jb_lt_n (rfl) ((by decide)) c_23
        refine lv_iload_n hx hb dX6_signOf_23 rfl (lv_at hl 0 rfl) ?_
        refine lv_bipush (v := 90) hx hb dX6_signOf_24 (by decide) ?_
        refine lv_icmp_gt (tgt := 37) hx hb dX6_signOf_26 (by decide) (fun c_32 => ?_) (fun c_32 => ?_)
        · skip
          have c_32' : a0.toInt > 90 := jb_gt (rfl) ((by decide)) c_32
          refine lv_iload_n hx hb dX6_signOf_37 rfl (lv_at hl 0 rfl) ?_
          refine lv_bipush (v := 48) hx hb dX6_signOf_38 (by decide) ?_
          refine lv_icmp_lt (tgt := 57) hx hb dX6_signOf_40 (by decide) (fun c_33 => ?_) (fun c_33 => ?_)
          · skip
            have c_33' : a0.toInt < 48 := jb_lt (rfl) ((by decide)) c_33
            refine lv_iload_n hx hb dX6_signOf_57 rfl (lv_at hl 0 rfl) ?_
            refine lv_bipush (v := 95) hx hb dX6_signOf_58 (by decide) ?_
            refine lv_icmp_ne (tgt := 68) hx hb dX6_signOf_60 (by decide) (fun c_34 => ?_) (fun c_34 => ?_)
            · skip
              have c_34' : a0.toInt ≠ 95 := jb_ne (rfl) ((by decide)) c_34
              refine lv_iload_n hx hb dX6_signOf_68 rfl (lv_at hl 0 rfl) ?_
              refine lv_bipush (v := 39) hx hb dX6_signOf_69 (by decide) ?_
              refine lv_icmp_ne (tgt := 79) hx hb dX6_signOf_71 (by decide) (fun c_35 => ?_) (fun c_35 => ?_)
              · skip
                have c_35' : a0.toInt ≠ 39 := jb_ne (rfl) ((by decide)) c_35
                refine lv_iconst (v := (-1)) hx hb dX6_signOf_79 (by decide) ?_
                rw [hQ]
                exact W.iret (v := (-1)) hx hb hr (fun t ht hW => ⟨(-1), rfl, by first | trivial | omega | (constructor <;> omega), ht⟩) (fun _ h => nomatch h) dX6_signOf_80
              · skip
                have c_35' : a0.toInt = 39 := jb_ne_n (rfl) ((by decide)) c_35
                refine lv_bipush (v := 63) hx hb dX6_signOf_74 (by decide) ?_
                refine lv_goto (tgt := 80) hx hb dX6_signOf_76 (by decide) ?_
                rw [hQ]
                exact W.iret (v := 63) hx hb hr (fun t ht hW => ⟨63, rfl, by first | trivial | omega | (constructor <;> omega), ht⟩) (fun _ h => nomatch h) dX6_signOf_80
            · skip
              have c_34' : a0.toInt = 95 := jb_ne_n (rfl) ((by decide)) c_34
              refine lv_bipush (v := 62) hx hb dX6_signOf_63 (by decide) ?_
              refine lv_goto (tgt := 80) hx hb dX6_signOf_65 (by decide) ?_
              rw [hQ]
              exact W.iret (v := 62) hx hb hr (fun t ht hW => ⟨62, rfl, by first | trivial | omega | (constructor <;> omega), ht⟩) (fun _ h => nomatch h) dX6_signOf_80
          · skip
            have c_33' : a0.toInt ≥ 48 := jb_lt_n (rfl) ((by decide)) c_33
            refine lv_iload_n hx hb dX6_signOf_43 rfl (lv_at hl 0 rfl) ?_
            refine lv_bipush (v := 57) hx hb dX6_signOf_44 (by decide) ?_
            refine lv_icmp_gt (tgt := 57) hx hb dX6_signOf_46 (by decide) (fun c_36 => ?_) (fun c_36 => ?_)
            · skip
              have c_36' : a0.toInt > 57 := jb_gt (rfl) ((by decide)) c_36
              refine lv_iload_n hx hb dX6_signOf_57 rfl (lv_at hl 0 rfl) ?_
              refine lv_bipush (v := 95) hx hb dX6_signOf_58 (by decide) ?_
              refine lv_icmp_ne (tgt := 68) hx hb dX6_signOf_60 (by decide) (fun c_37 => ?_) (fun c_37 => ?_)
              · skip
                have c_37' : a0.toInt ≠ 95 := jb_ne (rfl) ((by decide)) c_37
                refine lv_iload_n hx hb dX6_signOf_68 rfl (lv_at hl 0 rfl) ?_
                refine lv_bipush (v := 39) hx hb dX6_signOf_69 (by decide) ?_
                refine lv_icmp_ne (tgt := 79) hx hb dX6_signOf_71 (by decide) (fun c_38 => ?_) (fun c_38 => ?_)
                · skip
                  have c_38' : a0.toInt ≠ 39 := jb_ne (rfl) ((by decide)) c_38
                  refine lv_iconst (v := (-1)) hx hb dX6_signOf_79 (by decide) ?_
                  rw [hQ]
                  exact W.iret (v := (-1)) hx hb hr (fun t ht hW => ⟨(-1), rfl, by first | trivial | omega | (constructor <;> omega), ht⟩) (fun _ h => nomatch h) dX6_signOf_80
                · skip
                  have c_38' : a0.toInt = 39 := jb_ne_n (rfl) ((by decide)) c_38
                  refine lv_bipush (v := 63) hx hb dX6_signOf_74 (by decide) ?_
                  refine lv_goto (tgt := 80) hx hb dX6_signOf_76 (by decide) ?_
                  rw [hQ]
                  exact W.iret (v := 63) hx hb hr (fun t ht hW => ⟨63, rfl, by first | trivial | omega | (constructor <;> omega), ht⟩) (fun _ h => nomatch h) dX6_signOf_80
              · skip
                have c_37' : a0.toInt = 95 := jb_ne_n (rfl) ((by decide)) c_37
                refine lv_bipush (v := 62) hx hb dX6_signOf_63 (by decide) ?_
                refine lv_goto (tgt := 80) hx hb dX6_signOf_65 (by decide) ?_
                rw [hQ]
                exact W.iret (v := 62) hx hb hr (fun t ht hW => ⟨62, rfl, by first | trivial | omega | (constructor <;> omega), ht⟩) (fun _ h => nomatch h) dX6_signOf_80
            · skip
              have c_36' : a0.toInt ≤ 57 := jb_gt_n (rfl) ((by decide)) c_36
              refine lv_iload_n hx hb dX6_signOf_49 rfl (lv_at hl 0 rfl) ?_
              refine lv_bipush (v := 48) hx hb dX6_signOf_50 (by decide) ?_
              refine lv_isub hx hb dX6_signOf_52 ?_
              refine lv_topi (fun z_39 ez_39 => ?_)
              have hz_39 : z_39.toInt = a0.toInt - 48 := by rw [ez_39]; exact jb_isub (rfl) ((by decide)) (by omega) (by omega)
              refine lv_bipush (v := 52) hx hb dX6_signOf_53 (by decide) ?_
              refine lv_iadd hx hb dX6_signOf_55 ?_
              refine lv_topi (fun z_40 ez_40 => ?_)
              have hz_40 : z_40.toInt = z_39.toInt + 52 := by rw [ez_40]; exact jb_iadd (rfl) ((by decide)) (by omega) (by omega)
              rw [hQ]
              exact W.iret (v := z_40) hx hb hr (fun t ht hW => ⟨z_40, rfl, by first | trivial | omega | (constructor <;> omega), ht⟩) (fun _ h => nomatch h) dX6_signOf_56
        · skip
          have c_32' : a0.toInt ≤ 90 := jb_gt_n (rfl) ((by decide)) c_32
          refine lv_iload_n hx hb dX6_signOf_29 rfl (lv_at hl 0 rfl) ?_
          refine lv_bipush (v := 65) hx hb dX6_signOf_30 (by decide) ?_
          refine lv_isub hx hb dX6_signOf_32 ?_
          refine lv_topi (fun z_41 ez_41 => ?_)
          have hz_41 : z_41.toInt = a0.toInt - 65 := by rw [ez_41]; exact jb_isub (rfl) ((by decide)) (by omega) (by omega)
          refine lv_bipush (v := 26) hx hb dX6_signOf_33 (by decide) ?_
          refine lv_iadd hx hb dX6_signOf_35 ?_
          refine lv_topi (fun z_42 ez_42 => ?_)
          have hz_42 : z_42.toInt = z_41.toInt + 26 := by rw [ez_42]; exact jb_iadd (rfl) ((by decide)) (by omega) (by omega)
          rw [hQ]
          exact W.iret (v := z_42) hx hb hr (fun t ht hW => ⟨z_42, rfl, by first | trivial | omega | (constructor <;> omega), ht⟩) (fun _ h => nomatch h) dX6_signOf_36
    · skip
      have c_22' : a0.toInt ≤ 122 := jb_gt_n (rfl) ((by decide)) c_22
      refine lv_iload_n hx hb dX6_signOf_12 rfl (lv_at hl 0 rfl) ?_
      refine lv_bipush (v := 97) hx hb dX6_signOf_13 (by decide) ?_
      refine lv_isub hx hb dX6_signOf_15 ?_
      refine lv_topi (fun z_43 ez_43 => ?_)
      have hz_43 : z_43.toInt = a0.toInt - 97 := by rw [ez_43]; exact jb_isub (rfl) ((by decide)) (by omega) (by omega)
      rw [hQ]
      exact W.iret (v := z_43) hx hb hr (fun t ht hW => ⟨z_43, rfl, by first | trivial | omega | (constructor <;> omega), ht⟩) (fun _ h => nomatch h) dX6_signOf_16
end
section
def F16 (n : Nat) (G : jT) : List (Value → Prop) := [jRf G 110 4000, jI 0 4000, jRf G 101 20000, jI 0 20000, jIa, jRf G 101 100000, jI 0 100000, jZb, jIa, jRf G 110 3300, jIa, jIa, jIa, jRf G 0 0, jRf G 0 0, jI (-1) 3000, jIa, jRf G 117 3100, jRf G 118 3100, jRf G 119 3100, jRf G 120 3100, jRf G 121 3100, jRf G 122 3100, jRf G 123 3100, jRf G 124 3100, jRf G 125 3100, jI 0 3100, jRf G 127 3300, jI 0 3300, jI 0 100000, jI 0 3000, jZb, jI 0 3300, jIa, jZb, jZb, jZb, jIa, jRf G 101 20, jI (-3300) 20, jZb, jRf G 201 3, jI 0 3, jRf G 101 3100, jI 0 1500, jRf G 101 1500, jRf G 14 0, jRf G 14 0, jI 0 12, jRf G 202 12, jRf G 103 12, jRf G 206 12, jRf G 103 12, jRf G 101 12, jRf G 101 240, jRf G 203 12, jRf G 101 37200, jRf G 204 12, jRf G 15 0, jRf G 101 3100, jRf G 208 2, jRf G 207 2, jRf G 101 2, jRf G 103 2, jIa, jIa, jI 0 24, jRf G 101 38400, jRf G 205 24, jRf G 101 1600, jI 0 1600, jRf G 14 0, jRf G 101 40, jRf G 101 40]
end
