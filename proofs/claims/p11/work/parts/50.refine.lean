-- the refined heap: every field of a typed object holds a value of its own predicate, every element of a typed array too; what is known of a field just now is a pin (address, kind, field, value)
def jf (D : va_G) (k a i : Nat) (v : Value) (H : Heap) : Prop := ∃ r : vw_C, vwCl[k]? = some r ∧ i < r.2.2 ∧ ∃ cell : Cell, H[a]? = some cell ∧ cell.cls = D.1 k ∧ cell.vm = .none ∧ cell.slots[D.2 k i]? = some v
theorem jf.kept {D : va_G} {k a i : Nat} {v : Value} {H H1 : Heap} (h : jf D k a i v H) (h1 : H1[a]? = H[a]?) : jf D k a i v H1 := by
  obtain ⟨r, g1, g2, cell, g3, g4⟩ := h
  exact ⟨r, g1, g2, cell, by rw [h1]; exact g3, g4⟩
def jOb (D : va_G) (k N : Nat) (P : List (Value → Prop)) (a : Nat) (H : Heap) : Prop := ∃ V : Nat → Value, t_OB a (D.1 k) N (D.2 k) H V ∧ ∀ (i : Nat) (p : Value → Prop), P[i]? = some p → p (V i)
def jAp (D : va_G) : Prop := ∀ k r, vwCl[k]? = some r → ∀ i j, i < r.2.2 → j < r.2.2 → i ≠ j → D.2 k i ≠ D.2 k j
abbrev jPin : Type := Nat × Nat × Nat × Value
def jP (D : va_G) (G : jT) (H : Heap) (L : List jPin) : Prop := ∀ q ∈ L, (∃ n, G q.1 = some (q.2.1, n)) ∧ jf D q.2.1 q.1 q.2.2.1 q.2.2.2 H
def jKp (D : va_G) (G : jT) (E : List (Nat × Nat)) (H0 H : Heap) : Prop := (∀ a k n i v, G a = some (k, n) → E.contains (k, i) = false → jf D k a i v H0 → jf D k a i v H) ∧ ∀ a k n, G a = some (k, n) → 17 ≤ k → k < 1000 → E.contains (k, 0) = false → H[a]? = H0[a]?
theorem jKp.rf {D : va_G} {G : jT} {E : List (Nat × Nat)} {H : Heap} : jKp D G E H H := ⟨fun _ _ _ _ _ _ _ h => h, fun _ _ _ _ _ _ _ => rfl⟩
/-- what an array holds just now: address, kind, length, class, contents -/
abbrev jCt : Type := Nat × Nat × Nat × ClassId × (Nat → Int32)
def jMc (D : va_G) (G : jT) (H : Heap) (M : List jCt) : Prop := ∀ q ∈ M, G q.1 = some (q.2.1, q.2.2.1) ∧ 17 ≤ q.2.1 ∧ q.2.1 < 1000 ∧ va_at D vwCl (q.1, .inl (q.2.2.2.1, q.2.2.1, .inl q.2.2.2.2)) H
theorem jMc.nil {D : va_G} {G : jT} {H : Heap} : jMc D G H [] := fun _ h => by cases h
theorem jMc.sub {D : va_G} {G : jT} {H : Heap} {L L1 : List jCt} (h : jMc D G H L) (is : List Nat) (hs : is.map (fun i => L[i]?) = L1.map some) : jMc D G H L1 := by
  intro q hq
  have h1 : some q ∈ L1.map some := List.mem_map.mpr ⟨q, hq, rfl⟩
  rw [← hs] at h1
  obtain ⟨i, -, h2⟩ := List.mem_map.mp h1
  exact h q (List.mem_of_getElem? h2)
theorem jMc.over {D : va_G} {G G1 : jT} {E1 : List (Nat × Nat)} {H H1 : Heap} {L L1 : List jCt} (h : jMc D G H L) (hk : jKp D G E1 H H1) (hG : jLe G G1) (is : List Nat) (hs : is.map (fun i => L[i]?) = L1.map some) (hn : L1.all (fun q => !(E1.contains (q.2.1, 0))) = true) : jMc D G1 H1 L1 := by
  intro q hq
  obtain ⟨g1, g2, g3, g4⟩ := h.sub is hs q hq
  have h2 := List.all_eq_true.mp hn q hq
  refine ⟨hG _ _ g1, g2, g3, g4.kept (hk.2 _ _ _ g1 g2 g3 ?_)⟩
  cases h3 : E1.contains (q.2.1, 0) with
  | false => rfl
  | true => rw [h3] at h2; cases h2
/-- what holds of a footprint: fields (kind, field) and arrays (kind, 0) -/
abbrev jIv : Type := List (Nat × Nat) × (Heap → Prop)
def jAg (D : va_G) (G : jT) (F : List (Nat × Nat)) (H H1 : Heap) : Prop := (∀ a k n i v, G a = some (k, n) → F.contains (k, i) = true → jf D k a i v H → jf D k a i v H1) ∧ ∀ a k n, G a = some (k, n) → 17 ≤ k → k < 1000 → F.contains (k, 0) = true → H1[a]? = H[a]?
def jIs (D : va_G) (G : jT) (H : Heap) (I : List jIv) : Prop := ∀ q ∈ I, q.2 H ∧ ∀ H1 H2 : Heap, jAg D G q.1 H1 H2 → q.2 H1 → q.2 H2
theorem jIs.nil {D : va_G} {G : jT} {H : Heap} : jIs D G H [] := fun _ h => by cases h
theorem jIs.sub {D : va_G} {G : jT} {H : Heap} {L L1 : List jIv} (h : jIs D G H L) (is : List Nat) (hs : is.map (fun i => L[i]?) = L1.map some) : jIs D G H L1 := by
  intro q hq
  have h1 : some q ∈ L1.map some := List.mem_map.mpr ⟨q, hq, rfl⟩
  rw [← hs] at h1
  obtain ⟨i, -, h2⟩ := List.mem_map.mp h1
  exact h q (List.mem_of_getElem? h2)
theorem jIs.ag {D : va_G} {G : jT} {H H1 : Heap} {L : List jIv} (h : jIs D G H L) (ha : ∀ q ∈ L, jAg D G q.1 H H1) : jIs D G H1 L := fun q hq => ⟨(h q hq).2 _ _ (ha q hq) (h q hq).1, (h q hq).2⟩
theorem jAg.of {D : va_G} {G : jT} {E F : List (Nat × Nat)} {H H1 : Heap} (h : jKp D G E H H1) (hn : E.all (fun q => !(F.contains q)) = true) : jAg D G F H H1 := by
  have key : ∀ k i, F.contains (k, i) = true → E.contains (k, i) = false := by
    intro k i hf
    cases h1 : E.contains (k, i) with
    | false => rfl
    | true =>
      have h2 := List.all_eq_true.mp hn (k, i) (List.contains_iff_mem.mp h1)
      rw [hf] at h2; cases h2
  exact ⟨fun a k n i v ha hf => h.1 a k n i v ha (key k i hf), fun a k n ha h1 h2 hf => h.2 a k n ha h1 h2 (key k 0 hf)⟩
def jSt (D : va_G) (B : jF) (base : Nat) (G0 G : jT) (E : List (Nat × Nat)) (H0 : Heap) (zc zs : Nat) (L : List jPin) (M : List jCt) (I : List jIv) (H : Heap) (locs : List Loc) : Prop :=
  va_S (jA base) H0 H locs ∧ jX B base G [] H ∧ jP D G H L ∧ jKp D G0 E H0 H ∧ jLe G0 G ∧ H.size ≤ H0.size + zc ∧ jTot H ≤ jTot H0 + zs ∧ jMc D G H M ∧ jIs D G H I
theorem jP.nil {D : va_G} {G : jT} {H : Heap} : jP D G H [] := fun _ h => by cases h
theorem jP.sub {D : va_G} {G : jT} {H : Heap} {L L1 : List jPin} (h : jP D G H L) (is : List Nat) (hs : is.map (fun i => L[i]?) = L1.map some) : jP D G H L1 := by
  intro q hq
  have h1 : some q ∈ L1.map some := List.mem_map.mpr ⟨q, hq, rfl⟩
  rw [← hs] at h1
  obtain ⟨i, -, h2⟩ := List.mem_map.mp h1
  exact h q (List.mem_of_getElem? h2)
theorem jP.app {D : va_G} {G : jT} {H : Heap} {L L1 : List jPin} (h : jP D G H L) (h1 : jP D G H L1) : jP D G H (L ++ L1) := fun q hq => (List.mem_append.mp hq).elim (h q) (h1 q)
theorem jP.lift {D : va_G} {G G1 : jT} {H : Heap} {L : List jPin} (h : jP D G H L) (h1 : jLe G G1) : jP D G1 H L := fun q hq => by
  obtain ⟨⟨n, g⟩, g2⟩ := h q hq
  exact ⟨⟨n, h1 _ _ g⟩, g2⟩
theorem jKp.sub {D : va_G} {G0 G : jT} {E E1 : List (Nat × Nat)} {H0 H : Heap} (h : jKp D G E1 H0 H) (hG : jLe G0 G) (hE : E1.all (fun q => E.contains q) = true) : jKp D G0 E H0 H := by
  have key : ∀ k i, E.contains (k, i) = false → E1.contains (k, i) = false := by
    intro k i he
    cases h1 : E1.contains (k, i) with
    | false => rfl
    | true =>
      have h2 := List.all_eq_true.mp hE (k, i) (List.contains_iff_mem.mp h1)
      rw [he] at h2; cases h2
  exact ⟨fun a k n i v ha he hf => h.1 a k n i v (hG _ _ ha) (key k i he) hf, fun a k n ha h1 h2 he => h.2 a k n (hG _ _ ha) h1 h2 (key k 0 he)⟩
theorem jKp.tr {D : va_G} {G : jT} {E : List (Nat × Nat)} {H0 H H1 : Heap} (h : jKp D G E H0 H) (h1 : jKp D G E H H1) : jKp D G E H0 H1 := ⟨fun a k n i v ha he hf => h1.1 a k n i v ha he (h.1 a k n i v ha he hf), fun a k n ha g1 g2 he => (h1.2 a k n ha g1 g2 he).trans (h.2 a k n ha g1 g2 he)⟩
/-- pins behind a step that keeps all fields but those of E1 -/
theorem jP.over {D : va_G} {G G1 : jT} {E1 : List (Nat × Nat)} {H H1 : Heap} {L L1 : List jPin} (h : jP D G H L) (hk : jKp D G E1 H H1) (hG : jLe G G1) (is : List Nat) (hs : is.map (fun i => L[i]?) = L1.map some) (hn : L1.all (fun q => !(E1.contains (q.2.1, q.2.2.1))) = true) : jP D G1 H1 L1 := by
  intro q hq
  obtain ⟨⟨n, g1⟩, g2⟩ := h.sub is hs q hq
  have h2 := List.all_eq_true.mp hn q hq
  refine ⟨⟨n, hG _ _ g1⟩, hk.1 _ _ n _ _ g1 ?_ g2⟩
  cases h3 : E1.contains (q.2.1, q.2.2.1) with
  | false => rfl
  | true => rw [h3] at h2; cases h2
section J7
variable {p : Program} {l : Launch} {e : Env} {R : Room} {s : State} {m : MethodId} {args : Array Value} {below : List Frame} {meth : Method} {c : Code} {H : Heap} {locs : List Loc} {cells slots : Nat} {Q : State → Prop}
variable {cc : ByteArray} {pc : Nat} {ls : Array Slot} {rest : List Value} {dC : Nat → ClassId} {dI : Nat → Nat → Nat} {ca : Nat → ClassId} {B : jF} {base : Nat} {G0 G : jT} {E : List (Nat × Nat)} {H0 : Heap} {zc zs : Nat} {L : List jPin} {M : List jCt} {I : List jIv} {a k n i index N : Nat} {tys : List (ClassId × FieldType)} {own C : String} {T : u_T}
theorem j7_lay {args : Array Value} {s : State} {C : String} {T : u_T} {i : Nat} (h : (u_lay C T i).before args s = true) : (Cond.lays C (T i).1 (T i).2.1 (T i).2.2.1).before args s = true ∨ (Cond.laysFinal C (T i).1 (T i).2.1 (T i).2.2.1).before args s = true := by
  unfold u_lay at h
  split at h
  · exact Or.inr h
  · exact Or.inl h
theorem jSt.ab (hh : jSt (dC, dI) B base G0 G E H0 zc zs L M I H locs) {t : Nat × Nat} (ha : G a = some t) : base ≤ a ∧ a < H.size := hh.2.1.2 a t ha
theorem j7_read (hexec : p.tables.exec = Jvm.exec) (hb : c.code = cc) (hown : s.vm.findClass own = some m.cls) (hK : va_K (dC, dI) vwCl tys s) (hc : vwCl[k]? = some (C, T, N)) (hlay : (u_lay C T i).before args s = true) (hlink : (Cond.fieldLink own index (T i).1 (T i).2.1 (T i).2.2.1).before args s = true) {v : Value} (hf : jf (dC, dI) k a i v H) (hdg : decode cc pc = .ok (.getfield index, 3))
    (kk : W p l e R s m args below meth c H locs cells slots Q (F0 m (pc + 3) ls (v :: rest))) : W p l e R s m args below meth c H locs cells slots Q (F0 m pc ls (.ref a :: rest)) := by
  obtain ⟨r, h1, hi, cell, q1, q2, q3, q4⟩ := hf
  have hr : r = (C, T, N) := Option.some.inj (h1.symm.trans hc)
  subst hr
  obtain ⟨hS, hfc, kC, hkC, hkind⟩ := hK.1 k _ hc
  obtain ⟨cf, kf, fi, f, hfi, hsl⟩ := hS i hi
  exact W.getf hexec hb hown hlink hfi (u_facts hfc hkC (j7_lay hlay) hfi).1 q1 (by rw [q3]; exact fun h => by cases h) (v := v) (by rw [hsl]; exact q4) rfl rfl hdg kk
theorem j7_readN (hexec : p.tables.exec = Jvm.exec) (hb : c.code = cc) (hown : s.vm.findClass own = some m.cls) (hK : va_K (dC, dI) vwCl tys s) (hc : vwCl[k]? = some (C, T, N)) (hlay : (u_lay C T i).before args s = true) {host : String} (hlink : (Cond.fieldLinkNest own index (T i).1 (T i).2.1 (T i).2.2.1 host).before args s = true) {v : Value} (hf : jf (dC, dI) k a i v H) (hdg : decode cc pc = .ok (.getfield index, 3))
    (kk : W p l e R s m args below meth c H locs cells slots Q (F0 m (pc + 3) ls (v :: rest))) : W p l e R s m args below meth c H locs cells slots Q (F0 m pc ls (.ref a :: rest)) := by
  obtain ⟨r, h1, hi, cell, q1, q2, q3, q4⟩ := hf
  have hr : r = (C, T, N) := Option.some.inj (h1.symm.trans hc)
  subst hr
  obtain ⟨hS, hfc, kC, hkC, hkind⟩ := hK.1 k _ hc
  obtain ⟨cf, kf, fi, f, hfi, hsl⟩ := hS i hi
  exact va_Wgetf hexec hb hown hlink hfi (u_facts hfc hkC (j7_lay hlay) hfi).1 q1 (by rw [q3]; exact fun h => by cases h) (v := v) (by rw [hsl]; exact q4) rfl rfl hdg kk
/-- a field that isn't pinned: its value holds its predicate, and is pinned from now on -/
theorem jSt.pin (hh : jSt (dC, dI) B base G0 G E H0 zc zs L M I H locs) {F : Nat → jT → List (Value → Prop)} (hBk : ∀ n G a H, B k n G a H ↔ jOb (dC, dI) k N (F n G) a H) (hc : vwCl[k]? = some (C, T, N)) (hk : k < 1000) (ha : G a = some (k, n)) (hi : i < N) {P : Value → Prop} (hp : (F n G)[i]? = some P) : ∃ v, P v ∧ jSt (dC, dI) B base G0 G E H0 zc zs ((a, k, i, v) :: L) M I H locs := by
  obtain ⟨h1, h2, h3, h4⟩ := hh
  obtain ⟨V, ⟨cell, q1, q2, q3, q4⟩, hV⟩ := (hBk _ _ _ _).mp (h2.1 a k n ha hk (fun h => by cases h))
  refine ⟨V i, hV i P hp, h1, h2, fun q hq => ?_, h4⟩
  rcases List.mem_cons.mp hq with e | e
  · subst e; exact ⟨⟨n, ha⟩, _, hc, hi, cell, q1, q2, q3, q4 i hi⟩
  · exact h3 q e
theorem jSt.at (hh : jSt (dC, dI) B base G0 G E H0 zc zs L M I H locs) {v : Value} (j : Nat) (hj : L[j]? = some (a, k, i, v)) : jf (dC, dI) k a i v H := (hh.2.2.1 _ (List.mem_of_getElem? hj)).2
theorem jX.set {B : jF} {base : Nat} {G : jT} {H H1 : Heap} {a k n : Nat} (h : jX B base G [] H) (hB : jBok B) (ha : G a = some (k, n)) (hk : k < 1000) (hsz : H1.size = H.size) (hfr : ∀ p, p ≠ a → H1[p]? = H[p]?) (hb : B k n G a H1) : jX B base G [] H1 :=
  ((h.opn a).put hB ha hk jSup.root List.mem_cons_self hsz hfr).cls ha hb
/-- a write to a cell that is no object: all pins stay -/
theorem jSt.arr (hh : jSt (dC, dI) B base G0 G E H0 zc zs L M I H locs) (hB : jBok B) (ha : G a = some (k, n)) (hk : k < 1000) (hk2 : 17 ≤ k) (hE : E.contains (k, 0) = true) (hM : M.all (fun q => !(q.2.1 == k)) = true) (hI : I.all (fun q => !(q.1.contains (k, 0))) = true) {H1 : Heap} {locs1 : List Loc} (hsz : H1.size = H.size) (hfr : ∀ p, p ≠ a → H1[p]? = H[p]?) (ht : jTot H1 = jTot H) (hL : ∀ q ∈ locs1, jA base q.base) (hb : B k n G a H1) : jSt (dC, dI) B base G0 G E H0 zc zs L M I H1 locs1 := by
  obtain ⟨h1, h2, h3, h4, h5, h6, h7, h8, h9⟩ := hh
  have key : ∀ b kb nb ib v, G b = some (kb, nb) → jf (dC, dI) kb b ib v H → jf (dC, dI) kb b ib v H1 := by
    intro b kb nb ib v hb1 hf
    refine hf.kept (hfr b (fun e => ?_))
    subst e
    rw [ha] at hb1; cases hb1
    obtain ⟨r, g1, -⟩ := hf
    have : k < vwCl.length := (List.getElem?_eq_some_iff.mp g1).1
    have h17 : vwCl.length = 17 := rfl
    omega
  refine ⟨jS_put h1 hsz hfr (h2.2 a _ ha).1 hL, h2.set hB ha hk hsz hfr hb, fun q hq => ?_, ⟨fun b kb nb ib v hb1 he hf => key b kb nb ib v (h5 _ _ hb1) (h4.1 b kb nb ib v hb1 he hf), fun b kb nb hb1 g1 g2 he => (hfr b (fun e => ?_)).trans (h4.2 b kb nb hb1 g1 g2 he)⟩, h5, by omega, by omega, fun q hq => ?_, h9.ag (fun q hq => ⟨fun b kb nb ib v hb1 _ hf => key b kb nb ib v hb1 hf, fun b kb nb hb1 g1 g2 hf => hfr b (fun e => ?_)⟩)⟩
  · obtain ⟨⟨nq, g1⟩, g2⟩ := h3 q hq
    exact ⟨⟨nq, g1⟩, key _ _ nq _ _ g1 g2⟩
  · subst e
    have e1 := (h5 _ _ hb1).symm.trans ha
    cases e1
    rw [hE] at he; cases he
  · obtain ⟨g1, g2, g3, g4⟩ := h8 q hq
    refine ⟨g1, g2, g3, g4.kept (hfr _ (fun e => ?_))⟩
    have hm9 := List.all_eq_true.mp hM q hq
    rw [e, ha] at g1
    have e2 := (Prod.mk.inj (Option.some.inj g1)).1
    rw [← e2] at hm9
    simp at hm9
  · subst e
    have e1 := hb1.symm.trans ha
    cases e1
    have hi9 := List.all_eq_true.mp hI q hq
    rw [hf] at hi9; cases hi9
/-- a write to a field -/
theorem jSt.fld (hh : jSt (dC, dI) B base G0 G E H0 zc zs L M I H locs) (hB : jBok B) (hAp : jAp (dC, dI)) {F : Nat → jT → List (Value → Prop)} (hBk : ∀ n G a H, B k n G a H ↔ jOb (dC, dI) k N (F n G) a H) (hc : vwCl[k]? = some (C, T, N)) (hk : k < 1000) (ha : G a = some (k, n)) (hi : i < N) {P : Value → Prop} (hp : (F n G)[i]? = some P) {v : Value} (hv : P v) (hE : E.contains (k, i) = true)
    {L1 : List jPin} (is : List Nat) (hs : is.map (fun i => L[i]?) = L1.map some) (hn : L1.all (fun q => !(q.2.1 == k && q.2.2.1 == i)) = true) (hI : I.all (fun q => !(q.1.contains (k, i))) = true) {H1 : Heap} {locs1 : List Loc} {cell : Cell} (hcell : H[a]? = some cell) (h1c : H1[a]? = some (cell.setSlot (dI k i) v)) (hsz : H1.size = H.size) (hfr : ∀ p, p ≠ a → H1[p]? = H[p]?) (ht : jTot H1 = jTot H) (hL : ∀ q ∈ locs1, jA base q.base) :
    jSt (dC, dI) B base G0 G E H0 zc zs ((a, k, i, v) :: L1) M I H1 locs1 := by
  obtain ⟨h1, h2, h3, h4, h5, h6, h7, h8, h9⟩ := hh
  have hk17 : k < 17 := (List.getElem?_eq_some_iff.mp hc).1
  obtain ⟨V, ⟨cell', q1, q2, q3, q4⟩, hV⟩ := (hBk _ _ _ _).mp (h2.1 a k n ha hk (fun h => by cases h))
  cases hcell.symm.trans q1
  have hap : ∀ x y, x < N → y < N → x ≠ y → dI k x ≠ dI k y := fun x y hx hy => hAp k _ hc x y hx hy
  have hset : ∀ j, j < N → (cell.setSlot (dI k i) v).slots[dI k j]? = some (updV V i v j) := fun j hj => t_set q4 hap hi v j hj
  have hvi : updV V i v i = v := by simp [updV]
  have key : ∀ b kb nb ib w, G b = some (kb, nb) → ¬ (kb = k ∧ ib = i) → jf (dC, dI) kb b ib w H → jf (dC, dI) kb b ib w H1 := by
    intro b kb nb ib w hb1 hne hf
    by_cases e : b = a
    · subst e
      rw [ha] at hb1; cases hb1
      obtain ⟨r, g1, g2, cell2, g3, g4, g5, g6⟩ := hf
      have hr : r = (C, T, N) := Option.some.inj (g1.symm.trans hc)
      subst hr
      cases q1.symm.trans g3
      have hib : ib ≠ i := fun q => hne ⟨rfl, q⟩
      have e1 := hset ib g2
      have e2 : updV V i v ib = V ib := by simp [updV, hib]
      rw [e2] at e1
      have e3 : V ib = w := Option.some.inj ((q4 ib g2).symm.trans g6)
      exact ⟨_, hc, g2, _, h1c, g4, g5, by rw [← e3]; exact e1⟩
    · exact hf.kept (hfr b e)
  refine ⟨jS_put h1 hsz hfr (h2.2 a _ ha).1 hL, h2.set hB ha hk hsz hfr ((hBk _ _ _ _).mpr ⟨updV V i v, ⟨_, h1c, q2, q3, hset⟩, fun j p hj => ?_⟩), fun q hq => ?_, ⟨fun b kb nb ib w hb1 he hf => key b kb nb ib w (h5 _ _ hb1) (fun q => ?_) (h4.1 b kb nb ib w hb1 he hf), fun b kb nb hb1 g1 g2 he => (hfr b (fun e => ?_)).trans (h4.2 b kb nb hb1 g1 g2 he)⟩, h5, by omega, by omega, fun q hq => ?_, h9.ag (fun q hq => ⟨fun b kb nb ib w hb1 hf1 hf => key b kb nb ib w hb1 (fun g => ?_) hf, fun b kb nb hb1 g1 g2 hf => hfr b (fun e => ?_)⟩)⟩
  · by_cases e : j = i
    · subst e
      rw [hvi]
      cases hp.symm.trans hj
      exact hv
    · have e2 : updV V i v j = V j := by simp [updV, e]
      rw [e2]; exact hV j p hj
  · rcases List.mem_cons.mp hq with e | e
    · subst e
      refine ⟨⟨n, ha⟩, _, hc, hi, _, h1c, q2, q3, ?_⟩
      have e1 := hset i hi
      rw [hvi] at e1
      exact e1
    · obtain ⟨⟨nq, g1⟩, g2⟩ := (jP.sub h3 is hs) q e
      have g3 := List.all_eq_true.mp hn q e
      refine ⟨⟨nq, g1⟩, key _ _ nq _ _ g1 (fun g => ?_) g2⟩
      rw [g.1, g.2] at g3
      simp at g3
  · rw [q.1, q.2, hE] at he; cases he
  · subst e
    have e1 := (h5 _ _ hb1).symm.trans ha
    cases e1
    omega
  · obtain ⟨g1, g2, g3, g4⟩ := h8 q hq
    refine ⟨g1, g2, g3, g4.kept (hfr _ (fun e => ?_))⟩
    rw [e, ha] at g1
    have e2 := (Prod.mk.inj (Option.some.inj g1)).1
    omega
  · have hi9 := List.all_eq_true.mp hI q hq
    rw [g.1, g.2] at hf1
    rw [hf1] at hi9; cases hi9
  · subst e
    have e1 := hb1.symm.trans ha
    cases e1
    omega
theorem j7_put (hexec : p.tables.exec = Jvm.exec) (hb : c.code = cc) (hown : s.vm.findClass own = some m.cls) (hK : va_K (dC, dI) vwCl tys s) (hh : jSt (dC, dI) B base G0 G E H0 zc zs L M I H locs) (hB : jBok B) (hAp : jAp (dC, dI)) {F : Nat → jT → List (Value → Prop)} (hBk : ∀ n G a H, B k n G a H ↔ jOb (dC, dI) k N (F n G) a H) (hc : vwCl[k]? = some (C, T, N)) (hk : k < 1000) (ha : G a = some (k, n)) (hi : i < N) (hlay : (u_lay C T i).before args s = true) (hfin : (T i).2.2.2 = false) (hlink : (Cond.fieldLink own index (T i).1 (T i).2.1 (T i).2.2.1).before args s = true) {P : Value → Prop} (hp : (F n G)[i]? = some P) {ty : FieldType} {v : Value} (hd : parseFieldDescriptor (T i).2.2.1 = some ty) (hnar : narrow ty v = v) (hfit : fits ty v = true) (hv : P v) (hE : E.contains (k, i) = true)
    {L1 : List jPin} (is : List Nat) (hs : is.map (fun i => L[i]?) = L1.map some) (hn : L1.all (fun q => !(q.2.1 == k && q.2.2.1 == i)) = true) (hI : I.all (fun q => !(q.1.contains (k, i))) = true) (hdg : decode cc pc = .ok (.putfield index, 3))
    (kk : ∀ (H1 : Heap) (locs1 : List Loc), jSt (dC, dI) B base G0 G E H0 zc zs ((a, k, i, v) :: L1) M I H1 locs1 → W p l e R s m args below meth c H1 locs1 cells slots Q (F0 m (pc + 3) ls rest)) : W p l e R s m args below meth c H locs cells slots Q (F0 m pc ls (v :: .ref a :: rest)) := by
  obtain ⟨V, ⟨cell, q1, q2, q3, q4⟩, hV⟩ := (hBk _ _ _ _).mp (hh.2.1.1 a k n ha hk (fun h => by cases h))
  obtain ⟨hS, hfc, kC, hkC, hkind⟩ := hK.1 k _ hc
  obtain ⟨cf, kf, fi, f, hfi, hsl⟩ := hS i hi
  have hst := (u_facts hfc hkC (j7_lay hlay) hfi).1
  unfold u_lay at hlay
  rw [if_neg (by rw [hfin]; decide)] at hlay
  have h6 := u_store hfc hkC hkind hlay hfi hd hnar hfit
  refine W.putK hexec hb (f := f) ⟨hown, hlink, ⟨_, _, _, hfi⟩, hst⟩ (by rw [q2]; exact h6) q1 q3 (by rw [hsl]; exact k2_hasslot (q4 i hi)) rfl rfl hdg fun H1 e1 e2 e3 => ?_
  rw [hsl] at e1 ⊢
  refine kk H1 _ (hh.fld hB hAp hBk hc hk ha hi hp hv hE is hs hn hI q1 e1 e2 e3 (jTot_set e2 q1 e1 (jSet_sz _ _ _) e3) (fun q hq => ?_))
  rcases List.mem_append.mp hq with h | h
  · exact hh.1.2.2 q h
  · cases List.mem_singleton.mp h; exact (hh.ab ha).1
theorem j7_putN (hexec : p.tables.exec = Jvm.exec) (hb : c.code = cc) (hown : s.vm.findClass own = some m.cls) (hK : va_K (dC, dI) vwCl tys s) (hh : jSt (dC, dI) B base G0 G E H0 zc zs L M I H locs) (hB : jBok B) (hAp : jAp (dC, dI)) {F : Nat → jT → List (Value → Prop)} (hBk : ∀ n G a H, B k n G a H ↔ jOb (dC, dI) k N (F n G) a H) (hc : vwCl[k]? = some (C, T, N)) (hk : k < 1000) (ha : G a = some (k, n)) (hi : i < N) (hlay : (u_lay C T i).before args s = true) (hfin : (T i).2.2.2 = false) {host : String} (hlink : (Cond.fieldLinkNest own index (T i).1 (T i).2.1 (T i).2.2.1 host).before args s = true) {P : Value → Prop} (hp : (F n G)[i]? = some P) {ty : FieldType} {v : Value} (hd : parseFieldDescriptor (T i).2.2.1 = some ty) (hnar : narrow ty v = v) (hfit : fits ty v = true) (hv : P v) (hE : E.contains (k, i) = true)
    {L1 : List jPin} (is : List Nat) (hs : is.map (fun i => L[i]?) = L1.map some) (hn : L1.all (fun q => !(q.2.1 == k && q.2.2.1 == i)) = true) (hI : I.all (fun q => !(q.1.contains (k, i))) = true) (hdg : decode cc pc = .ok (.putfield index, 3))
    (kk : ∀ (H1 : Heap) (locs1 : List Loc), jSt (dC, dI) B base G0 G E H0 zc zs ((a, k, i, v) :: L1) M I H1 locs1 → W p l e R s m args below meth c H1 locs1 cells slots Q (F0 m (pc + 3) ls rest)) : W p l e R s m args below meth c H locs cells slots Q (F0 m pc ls (v :: .ref a :: rest)) := by
  obtain ⟨V, ⟨cell, q1, q2, q3, q4⟩, hV⟩ := (hBk _ _ _ _).mp (hh.2.1.1 a k n ha hk (fun h => by cases h))
  obtain ⟨hS, hfc, kC, hkC, hkind⟩ := hK.1 k _ hc
  obtain ⟨cf, kf, fi, f, hfi, hsl⟩ := hS i hi
  have hst := (u_facts hfc hkC (j7_lay hlay) hfi).1
  unfold u_lay at hlay
  rw [if_neg (by rw [hfin]; decide)] at hlay
  have h6 := u_store hfc hkC hkind hlay hfi hd hnar hfit
  refine va_WputK hexec hb (f := f) hown hlink hfi hst (by rw [q2]; exact h6) q1 q3 (by rw [hsl]; exact k2_hasslot (q4 i hi)) rfl rfl hdg fun H1 e1 e2 e3 => ?_
  rw [hsl] at e1 ⊢
  refine kk H1 _ (hh.fld hB hAp hBk hc hk ha hi hp hv hE is hs hn hI q1 e1 e2 e3 (jTot_set e2 q1 e1 (jSet_sz _ _ _) e3) (fun q hq => ?_))
  rcases List.mem_append.mp hq with h | h
  · exact hh.1.2.2 q h
  · cases List.mem_singleton.mp h; exact (hh.ab ha).1
end J7
theorem j_zast {p : Program} {l : Launch} {e : Env} {R : Room} {s : State} {m : MethodId} {args : Array Value} {below : List Frame} {meth : Method} {c : Code} {H : Heap} {locs : List Loc} {cells slots : Nat} {Q : State → Prop} {cc : ByteArray} {pc : Nat} {ls : Array Slot} {rest : List Value} {D : va_G} {cl : List vw_C} {A : Nat → Prop} {a : Nat} {tys : List (ClassId × FieldType)} (hexec : p.tables.exec = Jvm.exec) (hb : c.code = cc) (hK : va_K D cl tys s) (t0 : Nat) {cA : ClassId} {n : Nat} {f : Nat → Int32} (hat : va_at D cl (a, .inl (cA, n, .inl f)) H) (hA : A a) (hL : ∀ q ∈ locs, A q.base) (ht : tys[t0]? = some (cA, .boolean)) {i : Int32} {x : Int32} (hx : x = 0 ∨ x = 1) (hin : vp_in i n) (hdg : decode cc pc = .ok (.bastore, 1))
    (kk : ∀ (H1 : Heap) (locs1 : List Loc), va_at D cl (a, .inl (cA, n, .inl (upd f i.toNatClampNeg x))) H1 → H1.size = H.size → (∀ q, q ≠ a → H1[q]? = H[q]?) → jTot H1 = jTot H → (∀ q ∈ locs1, A q.base) → W p l e R s m args below meth c H1 locs1 cells slots Q (F0 m (pc + 1) ls rest)) : W p l e R s m args below meth c H locs cells slots Q (F0 m pc ls (.int x :: .int i :: .ref a :: rest)) := by
  refine W.zast hexec hb hat ((hK.2 t0 _ ht).1 n (fun j => .int (f j))) (fun q => by cases q) (by show ¬ (i < 0 ∨ (arrV _ _ _).slots.size ≤ _); rw [arrV_size]; exact hin) rfl rfl hdg fun H1 e z oq => ?_
  rw [jb_nz hx] at e
  refine kk H1 _ ?_ z oq (jTot_set z hat e (jSet_sz _ _ _) oq) ?_
  · show H1[a]? = some (vp_cell _ _)
    rw [e]
    rw [vp_cell_i, vp_cell_i, arrV_store]
    congr 2
    funext q
    by_cases hq : q = i.toNatClampNeg
    · subst hq
      simp [updV, upd]
    · simp [updV, upd, hq]
  · intro q hq
    rcases List.mem_append.mp hq with h | h
    · exact hL q h
    · cases List.mem_singleton.mp h; exact hA
-- arrays: of ints (c = ca 1), booleans (ca 3), bytes (ca 0), each element of its predicate
def jAr (D : va_G) (cA : ClassId) (P : Nat → Int32 → Prop) (n a : Nat) (H : Heap) : Prop := ∃ f : Nat → Int32, va_at D vwCl (a, .inl (cA, n, .inl f)) H ∧ ∀ j, j < n → P j (f j)
def jAl (D : va_G) (cA : ClassId) (n a : Nat) (H : Heap) : Prop := ∃ f : Nat → Int64, va_at D vwCl (a, .inl (cA, n, .inr (.inl f))) H
section J8
variable {p : Program} {l : Launch} {e : Env} {R : Room} {s : State} {m : MethodId} {args : Array Value} {below : List Frame} {meth : Method} {c : Code} {H : Heap} {locs : List Loc} {cells slots : Nat} {Q : State → Prop}
variable {cc : ByteArray} {pc : Nat} {ls : Array Slot} {rest : List Value} {dC : Nat → ClassId} {dI : Nat → Nat → Nat} {ca : Nat → ClassId} {B : jF} {base : Nat} {G0 G : jT} {E : List (Nat × Nat)} {H0 : Heap} {zc zs : Nat} {L : List jPin} {M : List jCt} {I : List jIv} {a k n : Nat} {P : Nat → Int32 → Prop} {cA : ClassId} {tys : List (ClassId × FieldType)}
theorem jSt.ar (hh : jSt (dC, dI) B base G0 G E H0 zc zs L M I H locs) (hBk : ∀ n G a H, B k n G a H ↔ jAr (dC, dI) cA P n a H) (hk : k < 1000) (ha : G a = some (k, n)) : ∃ f : Nat → Int32, va_at (dC, dI) vwCl (a, .inl (cA, n, .inl f)) H ∧ ∀ j, j < n → P j (f j) := (hBk _ _ _ _).mp (hh.2.1.1 a k n ha hk (fun h => by cases h))
theorem jSt.al (hh : jSt (dC, dI) B base G0 G E H0 zc zs L M I H locs) (hBk : ∀ n G a H, B k n G a H ↔ jAl (dC, dI) cA n a H) (hk : k < 1000) (ha : G a = some (k, n)) : ∃ f : Nat → Int64, va_at (dC, dI) vwCl (a, .inl (cA, n, .inr (.inl f))) H := (hBk _ _ _ _).mp (hh.2.1.1 a k n ha hk (fun h => by cases h))
theorem j7_len (hexec : p.tables.exec = Jvm.exec) (hb : c.code = cc) (hK : va_K (dC, dI) vwCl tys s) (hh : jSt (dC, dI) B base G0 G E H0 zc zs L M I H locs) (hBk : ∀ n G a H, B k n G a H ↔ jAr (dC, dI) cA P n a H) (t0 : Nat) {ty : FieldType} (ht : tys[t0]? = some (cA, ty)) (hk : k < 1000) (ha : G a = some (k, n)) (hn : n < 2147483648) (hdg : decode cc pc = .ok (.arraylength, 1))
    (kk : ∀ z : Int32, z.toInt = n → W p l e R s m args below meth c H locs cells slots Q (F0 m (pc + 1) ls (.int z :: rest))) : W p l e R s m args below meth c H locs cells slots Q (F0 m pc ls (.ref a :: rest)) := by
  obtain ⟨f, h1, -⟩ := hh.ar hBk hk ha
  exact va_alen (v := Int32.ofNat n) hexec hb hK (jp_one h1) 0 t0 rfl ht rfl hdg (kk _ (jb_nat hn))
theorem j7_iald (hexec : p.tables.exec = Jvm.exec) (hb : c.code = cc) (hK : va_K (dC, dI) vwCl tys s) (hh : jSt (dC, dI) B base G0 G E H0 zc zs L M I H locs) (hBk : ∀ n G a H, B k n G a H ↔ jAr (dC, dI) cA P n a H) (t0 : Nat) (ht : tys[t0]? = some (cA, .int)) (hk : k < 1000) (ha : G a = some (k, n)) {i : Int32} {x : Int} (hi : i.toInt = x) (h12 : 0 ≤ x ∧ x < n) (hdg : decode cc pc = .ok (.iaload, 1))
    (kk : ∀ z : Int32, P x.toNat z → W p l e R s m args below meth c H locs cells slots Q (F0 m (pc + 1) ls (.int z :: rest))) : W p l e R s m args below meth c H locs cells slots Q (F0 m pc ls (.int i :: .ref a :: rest)) := by
  obtain ⟨h1, h2⟩ := h12
  obtain ⟨f, g1, g2⟩ := hh.ar hBk hk ha
  exact va_iald hexec hb hK (jp_one g1) 0 t0 rfl ht (jb_in hi h1 h2) hdg (kk _ (by rw [← jb_cl hi h1]; exact g2 _ (jb_cl_lt hi h1 h2)))
theorem j7_bald (hexec : p.tables.exec = Jvm.exec) (hb : c.code = cc) (hK : va_K (dC, dI) vwCl tys s) (hh : jSt (dC, dI) B base G0 G E H0 zc zs L M I H locs) (hBk : ∀ n G a H, B k n G a H ↔ jAr (dC, dI) cA P n a H) (t0 : Nat) (ht : tys[t0]? = some (cA, .byte)) (hk : k < 1000) (ha : G a = some (k, n)) {i : Int32} {x : Int} (hi : i.toInt = x) (h12 : 0 ≤ x ∧ x < n) (hdg : decode cc pc = .ok (.baload, 1))
    (kk : ∀ z : Int32, P x.toNat z → W p l e R s m args below meth c H locs cells slots Q (F0 m (pc + 1) ls (.int z :: rest))) : W p l e R s m args below meth c H locs cells slots Q (F0 m pc ls (.int i :: .ref a :: rest)) := by
  obtain ⟨h1, h2⟩ := h12
  obtain ⟨f, g1, g2⟩ := hh.ar hBk hk ha
  exact va_bald hexec hb hK (jp_one g1) 0 t0 rfl ht (jb_in hi h1 h2) hdg (kk _ (by rw [← jb_cl hi h1]; exact g2 _ (jb_cl_lt hi h1 h2)))
theorem j7_zald (hexec : p.tables.exec = Jvm.exec) (hb : c.code = cc) (hK : va_K (dC, dI) vwCl tys s) (hh : jSt (dC, dI) B base G0 G E H0 zc zs L M I H locs) (hBk : ∀ n G a H, B k n G a H ↔ jAr (dC, dI) cA P n a H) (t0 : Nat) (ht : tys[t0]? = some (cA, .boolean)) (hk : k < 1000) (ha : G a = some (k, n)) {i : Int32} {x : Int} (hi : i.toInt = x) (h12 : 0 ≤ x ∧ x < n) (hdg : decode cc pc = .ok (.baload, 1))
    (kk : ∀ z : Int32, P x.toNat z → W p l e R s m args below meth c H locs cells slots Q (F0 m (pc + 1) ls (.int z :: rest))) : W p l e R s m args below meth c H locs cells slots Q (F0 m pc ls (.int i :: .ref a :: rest)) := by
  obtain ⟨h1, h2⟩ := h12
  obtain ⟨f, g1, g2⟩ := hh.ar hBk hk ha
  exact va_zald hexec hb hK (jp_one g1) 0 t0 rfl ht (jb_in hi h1 h2) hdg (kk _ (by rw [← jb_cl hi h1]; exact g2 _ (jb_cl_lt hi h1 h2)))
theorem j7_lald (hexec : p.tables.exec = Jvm.exec) (hb : c.code = cc) (hK : va_K (dC, dI) vwCl tys s) (hh : jSt (dC, dI) B base G0 G E H0 zc zs L M I H locs) (hBk : ∀ n G a H, B k n G a H ↔ jAl (dC, dI) cA n a H) (t0 : Nat) (ht : tys[t0]? = some (cA, .long)) (hk : k < 1000) (ha : G a = some (k, n)) {i : Int32} {x : Int} (hi : i.toInt = x) (h12 : 0 ≤ x ∧ x < n) (hdg : decode cc pc = .ok (.laload, 1))
    (kk : ∀ z : Int64, W p l e R s m args below meth c H locs cells slots Q (F0 m (pc + 1) ls (.long z :: rest))) : W p l e R s m args below meth c H locs cells slots Q (F0 m pc ls (.int i :: .ref a :: rest)) := by
  obtain ⟨h1, h2⟩ := h12
  obtain ⟨f, g1⟩ := hh.al hBk hk ha
  exact va_lald hexec hb hK (jp_one g1) 0 t0 rfl ht (jb_in hi h1 h2) hdg (kk _)
theorem jAr_upd {f : Nat → Int32} {n : Nat} {i v : Int32} {x : Int} (h : ∀ j, j < n → P j (f j)) (hi : i.toInt = x) (h1 : 0 ≤ x) (hx : P x.toNat v) : ∀ j, j < n → P j (upd f i.toNatClampNeg v j) := by
  intro j hj
  by_cases e : j = i.toNatClampNeg
  · rw [e, jb_cl hi h1]; simp only [upd, if_pos]; exact hx
  · simp only [upd, if_neg e]; exact h j hj
theorem j7_iast (hexec : p.tables.exec = Jvm.exec) (hb : c.code = cc) (hK : va_K (dC, dI) vwCl tys s) (hh : jSt (dC, dI) B base G0 G E H0 zc zs L M I H locs) (hB : jBok B) (hBk : ∀ n G a H, B k n G a H ↔ jAr (dC, dI) cA P n a H) (t0 : Nat) (ht : tys[t0]? = some (cA, .int)) (hk : k < 1000) (hk2 : 17 ≤ k) (hE : E.contains (k, 0) = true) (hM : M.all (fun q => !(q.2.1 == k)) = true) (hI : I.all (fun q => !(q.1.contains (k, 0))) = true) (ha : G a = some (k, n)) {i v : Int32} {x : Int} (hi : i.toInt = x) (h12 : 0 ≤ x ∧ x < n) (hv : P x.toNat v) (hdg : decode cc pc = .ok (.iastore, 1))
    (kk : ∀ (H1 : Heap) (locs1 : List Loc), jSt (dC, dI) B base G0 G E H0 zc zs L M I H1 locs1 → W p l e R s m args below meth c H1 locs1 cells slots Q (F0 m (pc + 1) ls rest)) : W p l e R s m args below meth c H locs cells slots Q (F0 m pc ls (.int v :: .int i :: .ref a :: rest)) := by
  obtain ⟨h1, h2⟩ := h12
  obtain ⟨f, g1, g2⟩ := hh.ar hBk hk ha
  exact j_iast (A := jA base) hexec hb hK t0 g1 (hh.ab ha).1 hh.1.2.2 ht (jb_in hi h1 h2) hdg (fun H1 locs1 hat hsz hfr hT hL => kk H1 locs1 (hh.arr hB ha hk hk2 hE hM hI hsz hfr hT hL ((hBk _ _ _ _).mpr ⟨_, hat, jAr_upd g2 hi h1 hv⟩)))
theorem j7_last (hexec : p.tables.exec = Jvm.exec) (hb : c.code = cc) (hK : va_K (dC, dI) vwCl tys s) (hh : jSt (dC, dI) B base G0 G E H0 zc zs L M I H locs) (hB : jBok B) (hBk : ∀ n G a H, B k n G a H ↔ jAl (dC, dI) cA n a H) (t0 : Nat) (ht : tys[t0]? = some (cA, .long)) (hk : k < 1000) (hk2 : 17 ≤ k) (hE : E.contains (k, 0) = true) (hM : M.all (fun q => !(q.2.1 == k)) = true) (hI : I.all (fun q => !(q.1.contains (k, 0))) = true) (ha : G a = some (k, n)) {i : Int32} {v : Int64} {x : Int} (hi : i.toInt = x) (h12 : 0 ≤ x ∧ x < n) (hdg : decode cc pc = .ok (.lastore, 1))
    (kk : ∀ (H1 : Heap) (locs1 : List Loc), jSt (dC, dI) B base G0 G E H0 zc zs L M I H1 locs1 → W p l e R s m args below meth c H1 locs1 cells slots Q (F0 m (pc + 1) ls rest)) : W p l e R s m args below meth c H locs cells slots Q (F0 m pc ls (.long v :: .int i :: .ref a :: rest)) := by
  obtain ⟨h1, h2⟩ := h12
  obtain ⟨f, g1⟩ := hh.al hBk hk ha
  exact j_last (A := jA base) hexec hb hK t0 g1 (hh.ab ha).1 hh.1.2.2 ht (jb_in hi h1 h2) hdg (fun H1 locs1 hat hsz hfr hT hL => kk H1 locs1 (hh.arr hB ha hk hk2 hE hM hI hsz hfr hT hL ((hBk _ _ _ _).mpr ⟨_, hat⟩)))
theorem j7_zast (hexec : p.tables.exec = Jvm.exec) (hb : c.code = cc) (hK : va_K (dC, dI) vwCl tys s) (hh : jSt (dC, dI) B base G0 G E H0 zc zs L M I H locs) (hB : jBok B) (hBk : ∀ n G a H, B k n G a H ↔ jAr (dC, dI) cA P n a H) (t0 : Nat) (ht : tys[t0]? = some (cA, .boolean)) (hk : k < 1000) (hk2 : 17 ≤ k) (hE : E.contains (k, 0) = true) (hM : M.all (fun q => !(q.2.1 == k)) = true) (hI : I.all (fun q => !(q.1.contains (k, 0))) = true) (ha : G a = some (k, n)) {i v : Int32} {x : Int} (hi : i.toInt = x) (h12 : 0 ≤ x ∧ x < n) (hb1 : v = 0 ∨ v = 1) (hv : P x.toNat v) (hdg : decode cc pc = .ok (.bastore, 1))
    (kk : ∀ (H1 : Heap) (locs1 : List Loc), jSt (dC, dI) B base G0 G E H0 zc zs L M I H1 locs1 → W p l e R s m args below meth c H1 locs1 cells slots Q (F0 m (pc + 1) ls rest)) : W p l e R s m args below meth c H locs cells slots Q (F0 m pc ls (.int v :: .int i :: .ref a :: rest)) := by
  obtain ⟨h1, h2⟩ := h12
  obtain ⟨f, g1, g2⟩ := hh.ar hBk hk ha
  exact j_zast (A := jA base) hexec hb hK t0 g1 (hh.ab ha).1 hh.1.2.2 ht hb1 (jb_in hi h1 h2) hdg (fun H1 locs1 hat hsz hfr hT hL => kk H1 locs1 (hh.arr hB ha hk hk2 hE hM hI hsz hfr hT hL ((hBk _ _ _ _).mpr ⟨_, hat, jAr_upd g2 hi h1 hv⟩)))
theorem j7_bast (hexec : p.tables.exec = Jvm.exec) (hb : c.code = cc) (hK : va_K (dC, dI) vwCl tys s) (hh : jSt (dC, dI) B base G0 G E H0 zc zs L M I H locs) (hB : jBok B) (hBk : ∀ n G a H, B k n G a H ↔ jAr (dC, dI) cA P n a H) (t0 : Nat) (ht : tys[t0]? = some (cA, .byte)) (hk : k < 1000) (hk2 : 17 ≤ k) (hE : E.contains (k, 0) = true) (hM : M.all (fun q => !(q.2.1 == k)) = true) (hI : I.all (fun q => !(q.1.contains (k, 0))) = true) (ha : G a = some (k, n)) {i v : Int32} {x : Int} (hi : i.toInt = x) (h12 : 0 ≤ x ∧ x < n) (hP : ∀ j z, P j z) (hdg : decode cc pc = .ok (.bastore, 1))
    (kk : ∀ (H1 : Heap) (locs1 : List Loc), jSt (dC, dI) B base G0 G E H0 zc zs L M I H1 locs1 → W p l e R s m args below meth c H1 locs1 cells slots Q (F0 m (pc + 1) ls rest)) : W p l e R s m args below meth c H locs cells slots Q (F0 m pc ls (.int v :: .int i :: .ref a :: rest)) := by
  obtain ⟨h1, h2⟩ := h12
  obtain ⟨f, g1, g2⟩ := hh.ar hBk hk ha
  exact j_bast (A := jA base) hexec hb hK t0 g1 (hh.ab ha).1 hh.1.2.2 ht (jb_in hi h1 h2) hdg (fun H1 locs1 f1 _ hat hsz hfr hT hL => kk H1 locs1 (hh.arr hB ha hk hk2 hE hM hI hsz hfr hT hL ((hBk _ _ _ _).mpr ⟨f1, hat, fun _ _ => hP _ _⟩)))
/-- behind a call that makes no cells -/
theorem jSt.call (hh : jSt (dC, dI) B base G0 G E H0 zc zs L M I H locs) {E1 : List (Nat × Nat)} {H1 : Heap} {locs1 : List Loc} (hX : jX B base G [] H1) (hk : jKp (dC, dI) G E1 H H1) (hz : H1.size ≤ H.size) (ht : jTot H1 ≤ jTot H) (hS : va_S (jA base) H0 H1 locs1) (hE : E1.all (fun q => E.contains q) = true) {L1 : List jPin} (is : List Nat) (hs : is.map (fun i => L[i]?) = L1.map some) (hn : L1.all (fun q => !(E1.contains (q.2.1, q.2.2.1))) = true) {M1 : List jCt} (js : List Nat) (hjs : js.map (fun i => M[i]?) = M1.map some) (hjn : M1.all (fun q => !(E1.contains (q.2.1, 0))) = true) {I1 : List jIv} (ks : List Nat) (hks : ks.map (fun i => I[i]?) = I1.map some) (hkn : I1.all (fun q => E1.all (fun x => !(q.1.contains x))) = true) : jSt (dC, dI) B base G0 G E H0 zc zs L1 M1 I1 H1 locs1 := by
  obtain ⟨h1, h2, h3, h4, h5, h6, h7, h8, h9⟩ := hh
  exact ⟨hS, hX, h3.over hk jLe.rf is hs hn, h4.tr (hk.sub h5 hE), h5, by omega, by omega, h8.over hk jLe.rf js hjs hjn, (h9.sub ks hks).ag (fun q hq => jAg.of hk (List.all_eq_true.mp hkn q hq))⟩
theorem jSt.more (hh : jSt (dC, dI) B base G0 G E H0 zc zs L M I H locs) {P1 : List jPin} (h : jP (dC, dI) G H P1) : jSt (dC, dI) B base G0 G E H0 zc zs (P1 ++ L) M I H locs := by
  obtain ⟨h1, h2, h3, h4⟩ := hh
  exact ⟨h1, h2, h.app h3, h4⟩
theorem jSt.sub (hh : jSt (dC, dI) B base G0 G E H0 zc zs L M I H locs) {L1 : List jPin} (is : List Nat) (hs : is.map (fun i => L[i]?) = L1.map some) {M1 : List jCt} (js : List Nat) (hjs : js.map (fun i => M[i]?) = M1.map some) {I1 : List jIv} (ks : List Nat) (hks : ks.map (fun i => I[i]?) = I1.map some) : jSt (dC, dI) B base G0 G E H0 zc zs L1 M1 I1 H locs := by
  obtain ⟨h1, h2, h3, h4, h5, h6, h7, h8, h9⟩ := hh
  exact ⟨h1, h2, h3.sub is hs, h4, h5, h6, h7, h8.sub js hjs, h9.sub ks hks⟩
/-- what a method that makes no cells leaves -/
def jRt (D : va_G) (B : jF) (base : Nat) (G : jT) (E : List (Nat × Nat)) (H0 : Heap) (M : List jPin) (H1 : Heap) : Prop := jX B base G [] H1 ∧ jKp D G E H0 H1 ∧ H1.size ≤ H0.size ∧ jTot H1 ≤ jTot H0 ∧ jP D G H1 M
theorem jSt.rt (hh : jSt (dC, dI) B base G G E H0 0 0 L M I H locs) {M1 : List jPin} (is : List Nat) (hs : is.map (fun i => L[i]?) = M1.map some) {t : State} (ht : t.heap = H) : jRt (dC, dI) B base G E H0 M1 t.heap := by
  rw [ht]
  obtain ⟨h1, h2, h3, h4, h5, h6, h7, h8, h9⟩ := hh
  exact ⟨h2, h4, h6, h7, h3.sub is hs⟩
theorem jSt.start {H0 : Heap} (hX : jX B base G [] H0) {L : List jPin} (hP : jP (dC, dI) G H0 L) {M : List jCt} (hM : jMc (dC, dI) G H0 M) {I : List jIv} (hI : jIs (dC, dI) G H0 I) : jSt (dC, dI) B base G G E H0 0 0 L M I H0 [] := ⟨va_S.rf, hX, hP, jKp.rf, jLe.rf, Nat.le_refl _, Nat.le_refl _, hM, hI⟩
theorem jSt.recv (hh : jSt (dC, dI) B base G0 G E H0 zc zs L M I H locs) {N : Nat} {C : String} {T : u_T} {F : Nat → jT → List (Value → Prop)} (hBk : ∀ n G a H, B k n G a H ↔ jOb (dC, dI) k N (F n G) a H) (hc : vwCl[k]? = some (C, T, N)) (hk : k < 1000) (ha : G a = some (k, n)) (hK : va_K (dC, dI) vwCl tys s) : ∃ cell : Cell, H[a]? = some cell ∧ cell.vm.isStatics = false ∧ s.vm.findClass C = some cell.cls := by
  obtain ⟨V, ⟨cell, q1, q2, q3, q4⟩, hV⟩ := (hBk _ _ _ _).mp (hh.2.1.1 a k n ha hk (fun h => by cases h))
  obtain ⟨hS, hfc, -⟩ := hK.1 k _ hc
  exact ⟨cell, q1, by rw [q3]; rfl, by rw [q2]; exact hfc⟩
end J8
def jJa : Value → Prop := fun v => ∃ x : Int64, v = .long x
-- what a field may hold
def jI (lo hi : Int) : Value → Prop := fun v => ∃ x : Int32, v = .int x ∧ lo ≤ x.toInt ∧ x.toInt ≤ hi
def jIa : Value → Prop := fun v => ∃ x : Int32, v = .int x
def jZb : Value → Prop := fun v => ∃ x : Int32, v = .int x ∧ (x = 0 ∨ x = 1)
def jRf (G : jT) (k n : Nat) : Value → Prop := fun v => ∃ x : Nat, v = .ref x ∧ G x = some (k, n)
def jRk (G : jT) (k n : Nat) : Value → Prop := fun v => ∃ (x j : Nat), v = .ref x ∧ G x = some (k, j) ∧ j ≤ n
def jRn (G : jT) (k n : Nat) : Value → Prop := fun v => v = .null ∨ ∃ x : Nat, v = .ref x ∧ G x = some (k, n)
def jRm (G : jT) (k n : Nat) : Value → Prop := fun v => v = .null ∨ ∃ (x j : Nat), v = .ref x ∧ G x = some (k, j) ∧ j ≤ n
def jAny : Value → Prop := fun _ => True
theorem jb_idiv {x y z : Int32} {n : Int} (h : z = x / y) (hy : y.toInt = n) (hn : 0 < n) : (0 ≤ x.toInt ∧ z.toInt = x.toInt / n) ∨ (x.toInt ≤ 0 ∧ z.toInt = -((-x.toInt) / n)) := by
  have hb := jb_rng x
  have key : ∀ a : Int, 0 ≤ a → a ≤ 2147483648 → 0 ≤ a / n ∧ a / n ≤ a := fun a h1 _ => ⟨Int.ediv_nonneg h1 (by omega), Int.ediv_le_self _ h1⟩
  rw [h, Int32.toInt_div, hy]
  by_cases q : 0 ≤ x.toInt
  · left
    rw [Int.tdiv_eq_ediv_of_nonneg q]
    obtain ⟨k1, k2⟩ := key _ q (by omega)
    exact ⟨q, jb_bm (by omega) (by omega)⟩
  · right
    have e : x.toInt.tdiv n = -((-x.toInt) / n) := by
      have h1 := Int.neg_tdiv x.toInt n
      rw [Int.tdiv_eq_ediv_of_nonneg (by omega : 0 ≤ -x.toInt)] at h1
      omega
    obtain ⟨k1, k2⟩ := key (-x.toInt) (by omega) (by omega)
    rw [e]
    exact ⟨by omega, jb_bm (by omega) (by omega)⟩
theorem jb_irem {x y z : Int32} {n : Int} (h : z = x - x / y * y) (hy : y.toInt = n) (hn : 0 < n) : (0 ≤ x.toInt ∧ z.toInt = x.toInt % n) ∨ (x.toInt ≤ 0 ∧ z.toInt = -((-x.toInt) % n)) := by
  have hb := jb_rng x
  have key : ∀ a : Int, 0 ≤ a → a / n * n = a - a % n ∧ 0 ≤ a % n ∧ a % n ≤ a := by
    intro a ha
    have e1 := Int.emod_def a n
    have b1 := Int.emod_nonneg a (by omega : n ≠ 0)
    have b3 : 0 ≤ n * (a / n) := Int.mul_nonneg (by omega) (Int.ediv_nonneg ha (by omega))
    rw [Int.mul_comm]
    exact ⟨by omega, b1, by omega⟩
  rcases jb_idiv (z := x / y) rfl hy hn with ⟨q, hq⟩ | ⟨q, hq⟩
  · left
    obtain ⟨k1, k2, k3⟩ := key x.toInt q
    have hm : (x / y * y).toInt = x.toInt - x.toInt % n := by
      rw [Int32.toInt_mul, hq, hy, k1]
      exact jb_bm (by omega) (by omega)
    rw [h, Int32.toInt_sub, hm]
    have e : x.toInt - (x.toInt - x.toInt % n) = x.toInt % n := by omega
    rw [e]
    exact ⟨q, jb_bm (by omega) (by omega)⟩
  · right
    obtain ⟨k1, k2, k3⟩ := key (-x.toInt) (by omega)
    have hm : (x / y * y).toInt = x.toInt + (-x.toInt) % n := by
      rw [Int32.toInt_mul, hq, hy, Int.neg_mul, k1]
      have e : -(-x.toInt - -x.toInt % n) = x.toInt + -x.toInt % n := by omega
      rw [e]
      exact jb_bm (by omega) (by omega)
    rw [h, Int32.toInt_sub, hm]
    have e : x.toInt - (x.toInt + -x.toInt % n) = -(-x.toInt % n) := by omega
    rw [e]
    exact ⟨by omega, jb_bm (by omega) (by omega)⟩
theorem jb_ineg {x : Int32} {a : Int} (hx : x.toInt = a) (h : -2147483648 < a) : (-x).toInt = -a := by
  have hb := jb_rng x
  rw [Int32.toInt_neg, hx]
  exact jb_bm (by omega) (by omega)
theorem jb_ne0 {x : Int32} (h : x.toInt ≠ 0) : ¬ x = 0 := fun e => h (by rw [e]; decide)
def jpw : Nat → Int
  | 0 => 10
  | n + 1 => 10 * jpw n
theorem jpw_s (n : Nat) : (n = 0 ∧ jpw n = 10) ∨ (0 < n ∧ jpw n = 10 * jpw (n - 1)) := by
  cases n with
  | zero => exact Or.inl ⟨rfl, rfl⟩
  | succ k => exact Or.inr ⟨Nat.succ_pos _, rfl⟩
theorem j_chunk {big ws : List Cond} (i n : Nat) (h1 : GoodIn big ((ws.drop i).take n)) (h2 : GoodIn big (ws.drop (i + n))) : GoodIn big (ws.drop i) := by
  intro w hw
  rw [← List.take_append_drop n (ws.drop i), List.drop_drop] at hw
  exact (List.mem_append.mp hw).elim (h1 w) (h2 w)
theorem j_ldcwS {p : Program} {l : Launch} {e : Env} {R : Room} {s : State} {m : MethodId} {args : Array Value} {below : List Frame} {meth : Method} {c : Code} {T : State} {locs : List Loc} {cells slots : Nat} (X : Stand p l e R s m args below meth c T locs cells slots) (hexec : p.tables.exec = Jvm.exec) {own text : String} {index : Nat} {a : Addr} (hown : s.vm.findClass own = some m.cls)
    (hconst : (Cond.stringRef own index text).before args s = true) (hev : (Term.string own index).eval args s none [] s = some (.ref a)) {g : JFrame} (hg : g.method = m) (hdg : decode c.code g.pc = .ok (.ldc_w index, 3)) :
    ∀ target, Steps p.tables e below (T.setTop { g with pc := g.pc + 3, stack := .ref a :: g.stack }) target → Steps p.tables e below (T.setTop g) target := by
  obtain ⟨k, cf, i, a', hk, hcf, hcp, -, hr, hev'⟩ := Cond.stringRef_spec hown hconst
  cases hev.symm.trans hev'
  obtain ⟨k', hk', he⟩ := X.warmed.alike.2.2 _ _ hk
  have hr' : k'.resolved[index]? = some (some (.string a)) := by
    rcases X.warmed.entry hk hk' index with h | ⟨h, -⟩
    · rw [h]; exact hr
    · rw [hr] at h; cases h
  intro target hrest
  subst hg
  jvm_step X.here [hexec, hdg, ldc_w.wp_string (e := e) (s := T) (f := g) X.here.top hk' (by rw [he]; exact hcf) hcp hr']
  exact hrest
theorem j_ldcSw {p : Program} {l : Launch} {e : Env} {R : Room} {s : State} {m : MethodId} {args : Array Value} {below : List Frame} {meth : Method} {c : Code} {H : Heap} {locs : List Loc} {cells slots : Nat} {Q : State → Prop} {cc : ByteArray} {pc : Nat} {ls : Array Slot} {rest : List Value} (hexec : p.tables.exec = Jvm.exec) (hb : c.code = cc) {own tx : String} {index q : Nat} (hown : s.vm.findClass own = some m.cls) (hZ : vk_R own index tx q s) (hdg : decode cc pc = .ok (.ldc_w index, 3))
    (k : W p l e R s m args below meth c H locs cells slots Q (F0 m (pc + 3) ls (.ref q :: rest))) : W p l e R s m args below meth c H locs cells slots Q (F0 m pc ls rest) := by
  intro T hT X
  obtain ⟨t, a1, b1⟩ := k T hT X
  exact ⟨t, j_ldcwS X hexec hown (text := tx) (a := q) hZ.1 hZ.2 (g := F0 m pc ls rest) rfl (by rw [hb]; exact hdg) t a1, b1⟩
theorem jb_iadd2 {x y : Int32} {a b : Int} (hx : x.toInt = a) (hy : y.toInt = b) (h : -2147483648 ≤ a + b ∧ a + b ≤ 2147483647) : (x + y).toInt = a + b := jb_iadd hx hy h.1 h.2
theorem jb_isub2 {x y : Int32} {a b : Int} (hx : x.toInt = a) (hy : y.toInt = b) (h : -2147483648 ≤ a - b ∧ a - b ≤ 2147483647) : (x - y).toInt = a - b := jb_isub hx hy h.1 h.2
theorem jb_imul2 {x y : Int32} {a b : Int} (hx : x.toInt = a) (hy : y.toInt = b) (h : -2147483648 ≤ a * b ∧ a * b ≤ 2147483647) : (x * y).toInt = a * b := jb_imul hx hy h.1 h.2
