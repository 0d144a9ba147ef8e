section
-- the refined heap: every field of a typed object holds a value of its own predicate, every element of a typed array too; what is known of a field just now is a pin (address, kind, field, value)
def jf (D : va_G) (k a i : Nat) (v : Value) (H : Heap) : Prop := ∃ r : vw_C, vwCl[k]? = some r ∧ i < r.2.2 ∧ ∃ cell : Cell, H[a]? = some cell ∧ cell.cls = D.1 k ∧ cell.vm = .none ∧ cell.slots[D.2 k i]? = some v
theorem jf.kept {D : va_G} {k a i : Nat} {v : Value} {H H1 : Heap} (h : jf D k a i v H) (h1 : H1[a]? = H[a]?) : jf D k a i v H1 := by
  obtain ⟨r, g1, g2, cell, g3, g4⟩ := h
  exact ⟨r, g1, g2, cell, by rw [h1]; exact g3, g4⟩
def jOb (D : va_G) (k N : Nat) (P : List (Value → Prop)) (a : Nat) (H : Heap) : Prop := ∃ V : Nat → Value, t_OB a (D.1 k) N (D.2 k) H V ∧ ∀ (i : Nat) (p : Value → Prop), P[i]? = some p → p (V i)
def jAp (D : va_G) : Prop := ∀ k r, vwCl[k]? = some r → ∀ i j, i < r.2.2 → j < r.2.2 → i ≠ j → D.2 k i ≠ D.2 k j
abbrev jPin : Type := Nat × Nat × Nat × Value
def jP (D : va_G) (G : jT) (H : Heap) (L : List jPin) : Prop := ∀ q ∈ L, (∃ n, G q.1 = some (q.2.1, n)) ∧ jf D q.2.1 q.1 q.2.2.1 q.2.2.2 H
def jKp (D : va_G) (G : jT) (E : List (Nat × Nat)) (H0 H : Heap) : Prop := (∀ a k n i v, G a = some (k, n) → E.contains (k, i) = false → jf D k a i v H0 → jf D k a i v H) ∧ ∀ a k n, G a = some (k, n) → 17 ≤ k → k < 1000 → E.contains (k, 0) = false → H[a]? = H0[a]?
theorem jKp.rf {D : va_G} {G : jT} {E : List (Nat × Nat)} {H : Heap} : jKp D G E H H := ⟨fun _ _ _ _ _ _ _ h => h, fun _ _ _ _ _ _ _ => rfl⟩
/-- what an array holds just now: address, kind, length, class, contents -/
abbrev jCt : Type := Nat × Nat × Nat × ClassId × (Nat → Int32)
def jMc (D : va_G) (G : jT) (H : Heap) (M : List jCt) : Prop := ∀ q ∈ M, G q.1 = some (q.2.1, q.2.2.1) ∧ 17 ≤ q.2.1 ∧ q.2.1 < 1000 ∧ va_at D vwCl (q.1, .inl (q.2.2.2.1, q.2.2.1, .inl q.2.2.2.2)) H
theorem jMc.nil {D : va_G} {G : jT} {H : Heap} : jMc D G H [] := fun _ h => by cases h
theorem jMc.sub {D : va_G} {G : jT} {H : Heap} {L L1 : List jCt} (h : jMc D G H L) (is : List Nat) (hs : is.map (fun i => L[i]?) = L1.map some) : jMc D G H L1 := by
  intro q hq
  have h1 : some q ∈ L1.map some := List.mem_map.mpr ⟨q, hq, rfl⟩
  rw [← hs] at h1
  obtain ⟨i, -, h2⟩ := List.mem_map.mp h1
  exact h q (List.mem_of_getElem? h2)
theorem jMc.over {D : va_G} {G G1 : jT} {E1 : List (Nat × Nat)} {H H1 : Heap} {L L1 : List jCt} (h : jMc D G H L) (hk : jKp D G E1 H H1) (hG : jLe G G1) (is : List Nat) (hs : is.map (fun i => L[i]?) = L1.map some) (hn : L1.all (fun q => !(E1.contains (q.2.1, 0))) = true) : jMc D G1 H1 L1 := by
  intro q hq
  obtain ⟨g1, g2, g3, g4⟩ := h.sub is hs q hq
  have h2 := List.all_eq_true.mp hn q hq
  refine ⟨hG _ _ g1, g2, g3, g4.kept (hk.2 _ _ _ g1 g2 g3 ?_)⟩
  cases h3 : E1.contains (q.2.1, 0) with
  | false => rfl
  | true => rw [h3] at h2; cases h2
/-- what holds of a footprint: fields (kind, field) and arrays (kind, 0) -/
abbrev jIv : Type := List (Nat × Nat) × (Heap → Prop)
def jAg (D : va_G) (G : jT) (F : List (Nat × Nat)) (H H1 : Heap) : Prop := (∀ a k n i v, G a = some (k, n) → F.contains (k, i) = true → jf D k a i v H → jf D k a i v H1) ∧ ∀ a k n, G a = some (k, n) → 17 ≤ k → k < 1000 → F.contains (k, 0) = true → H1[a]? = H[a]?
def jIs (D : va_G) (G : jT) (H : Heap) (I : List jIv) : Prop := ∀ q ∈ I, q.2 H ∧ ∀ H1 H2 : Heap, jAg D G q.1 H1 H2 → q.2 H1 → q.2 H2
theorem jIs.nil {D : va_G} {G : jT} {H : Heap} : jIs D G H [] := fun _ h => by cases h
theorem jIs.sub {D : va_G} {G : jT} {H : Heap} {L L1 : List jIv} (h : jIs D G H L) (is : List Nat) (hs : is.map (fun i => L[i]?) = L1.map some) : jIs D G H L1 := by
  intro q hq
  have h1 : some q ∈ L1.map some := List.mem_map.mpr ⟨q, hq, rfl⟩
  rw [← hs] at h1
  obtain ⟨i, -, h2⟩ := List.mem_map.mp h1
  exact h q (List.mem_of_getElem? h2)
theorem jIs.ag {D : va_G} {G : jT} {H H1 : Heap} {L : List jIv} (h : jIs D G H L) (ha : ∀ q ∈ L, jAg D G q.1 H H1) : jIs D G H1 L := fun q hq => ⟨(h q hq).2 _ _ (ha q hq) (h q hq).1, (h q hq).2⟩
theorem jAg.of {D : va_G} {G : jT} {E F : List (Nat × Nat)} {H H1 : Heap} (h : jKp D G E H H1) (hn : E.all (fun q => !(F.contains q)) = true) : jAg D G F H H1 := by
  have key : ∀ k i, F.contains (k, i) = true → E.contains (k, i) = false := by
    intro k i hf
    cases h1 : E.contains (k, i) with
    | false => rfl
    | true =>
      have h2 := List.all_eq_true.mp hn (k, i) (List.contains_iff_mem.mp h1)
      rw [hf] at h2; cases h2
  exact ⟨fun a k n i v ha hf => h.1 a k n i v ha (key k i hf), fun a k n ha h1 h2 hf => h.2 a k n ha h1 h2 (key k 0 hf)⟩
def jSt (D : va_G) (B : jF) (base : Nat) (G0 G : jT) (E : List (Nat × Nat)) (H0 : Heap) (zc zs : Nat) (L : List jPin) (M : List jCt) (I : List jIv) (H : Heap) (locs : List Loc) : Prop :=
  va_S (jA base) H0 H locs ∧ jX B base G [] H ∧ jP D G H L ∧ jKp D G0 E H0 H ∧ jLe G0 G ∧ H.size ≤ H0.size + zc ∧ jTot H ≤ jTot H0 + zs ∧ jMc D G H M ∧ jIs D G H I
theorem jP.nil {D : va_G} {G : jT} {H : Heap} : jP D G H [] := fun _ h => by cases h
theorem jP.sub {D : va_G} {G : jT} {H : Heap} {L L1 : List jPin} (h : jP D G H L) (is : List Nat) (hs : is.map (fun i => L[i]?) = L1.map some) : jP D G H L1 := by
  intro q hq
  have h1 : some q ∈ L1.map some := List.mem_map.mpr ⟨q, hq, rfl⟩
  rw [← hs] at h1
  obtain ⟨i, -, h2⟩ := List.mem_map.mp h1
  exact h q (List.mem_of_getElem? h2)
theorem jP.app {D : va_G} {G : jT} {H : Heap} {L L1 : List jPin} (h : jP D G H L) (h1 : jP D G H L1) : jP D G H (L ++ L1) := fun q hq => (List.mem_append.mp hq).elim (h q) (h1 q)
theorem jP.lift {D : va_G} {G G1 : jT} {H : Heap} {L : List jPin} (h : jP D G H L) (h1 : jLe G G1) : jP D G1 H L := fun q hq => by
  obtain ⟨⟨n, g⟩, g2⟩ := h q hq
  exact ⟨⟨n, h1 _ _ g⟩, g2⟩
theorem jKp.sub {D : va_G} {G0 G : jT} {E E1 : List (Nat × Nat)} {H0 H : Heap} (h : jKp D G E1 H0 H) (hG : jLe G0 G) (hE : E1.all (fun q => E.contains q) = true) : jKp D G0 E H0 H := by
  have key : ∀ k i, E.contains (k, i) = false → E1.contains (k, i) = false := by
    intro k i he
    cases h1 : E1.contains (k, i) with
    | false => rfl
    | true =>
      have h2 := List.all_eq_true.mp hE (k, i) (List.contains_iff_mem.mp h1)
      rw [he] at h2; cases h2
  exact ⟨fun a k n i v ha he hf => h.1 a k n i v (hG _ _ ha) (key k i he) hf, fun a k n ha h1 h2 he => h.2 a k n (hG _ _ ha) h1 h2 (key k 0 he)⟩
theorem jKp.tr {D : va_G} {G : jT} {E : List (Nat × Nat)} {H0 H H1 : Heap} (h : jKp D G E H0 H) (h1 : jKp D G E H H1) : jKp D G E H0 H1 := ⟨fun a k n i v ha he hf => h1.1 a k n i v ha he (h.1 a k n i v ha he hf), fun a k n ha g1 g2 he => (h1.2 a k n ha g1 g2 he).trans (h.2 a k n ha g1 g2 he)⟩
/-- pins behind a step that keeps all fields but those of E1 -/
theorem jP.over {D : va_G} {G G1 : jT} {E1 : List (Nat × Nat)} {H H1 : Heap} {L L1 : List jPin} (h : jP D G H L) (hk : jKp D G E1 H H1) (hG : jLe G G1) (is : List Nat) (hs : is.map (fun i => L[i]?) = L1.map some) (hn : L1.all (fun q => !(E1.contains (q.2.1, q.2.2.1))) = true) : jP D G1 H1 L1 := by
  intro q hq
  obtain ⟨⟨n, g1⟩, g2⟩ := h.sub is hs q hq
  have h2 := List.all_eq_true.mp hn q hq
  refine ⟨⟨n, hG _ _ g1⟩, hk.1 _ _ n _ _ g1 ?_ g2⟩
  cases h3 : E1.contains (q.2.1, q.2.2.1) with
  | false => rfl
  | true => rw [h3] at h2; cases h2
section J7
variable {p : Program} {l : Launch} {e : Env} {R : Room} {s : State} {m : MethodId} {args : Array Value} {below : List Frame} {meth : Method} {c : Code} {H : Heap} {locs : List Loc} {cells slots : Nat} {Q : State → Prop}
variable {cc : ByteArray} {pc : Nat} {ls : Array Slot} {rest : List Value} {dC : Nat → ClassId} {dI : Nat → Nat → Nat} {ca : Nat → ClassId} {B : jF} {base : Nat} {G0 G : jT} {E : List (Nat × Nat)} {H0 : Heap} {zc zs : Nat} {L : List jPin} {M : List jCt} {I : List jIv} {a k n i index N : Nat} {tys : List (ClassId × FieldType)} {own C : String} {T : u_T}
theorem j7_lay {args : Array Value} {s : State} {C : String} {T : u_T} {i : Nat} (h : (u_lay C T i).before args s = true) : (Cond.lays C (T i).1 (T i).2.1 (T i).2.2.1).before args s = true ∨ (Cond.laysFinal C (T i).1 (T i).2.1 (T i).2.2.1).before args s = true := by
  unfold u_lay at h
  split at h
  · exact Or.inr h
  · exact Or.inl h
theorem jSt.ab (hh : jSt (dC, dI) B base G0 G E H0 zc zs L M I H locs) {t : Nat × Nat} (ha : G a = some t) : base ≤ a ∧ a < H.size := hh.2.1.2 a t ha
theorem j7_read (hexec : p.tables.exec = Jvm.exec) (hb : c.code = cc) (hown : s.vm.findClass own = some m.cls) (hK : va_K (dC, dI) vwCl tys s) (hc : vwCl[k]? = some (C, T, N)) (hlay : (u_lay C T i).before args s = true) (hlink : (Cond.fieldLink own index (T i).1 (T i).2.1 (T i).2.2.1).before args s = true) {v : Value} (hf : jf (dC, dI) k a i v H) (hdg : decode cc pc = .ok (.getfield index, 3))
    (kk : W p l e R s m args below meth c H locs cells slots Q (F0 m (pc + 3) ls (v :: rest))) : W p l e R s m args below meth c H locs cells slots Q (F0 m pc ls (.ref a :: rest)) := by
  obtain ⟨r, h1, hi, cell, q1, q2, q3, q4⟩ := hf
  have hr : r = (C, T, N) := Option.some.inj (h1.symm.trans hc)
  subst hr
  obtain ⟨hS, hfc, kC, hkC, hkind⟩ := hK.1 k _ hc
  obtain ⟨cf, kf, fi, f, hfi, hsl⟩ := hS i hi
  exact W.getf hexec hb hown hlink hfi (u_facts hfc hkC (j7_lay hlay) hfi).1 q1 (by rw [q3]; exact fun h => by cases h) (v := v) (by rw [hsl]; exact q4) rfl rfl hdg kk
theorem jSt.at (hh : jSt (dC, dI) B base G0 G E H0 zc zs L M I H locs) {v : Value} (j : Nat) (hj : L[j]? = some (a, k, i, v)) : jf (dC, dI) k a i v H := (hh.2.2.1 _ (List.mem_of_getElem? hj)).2
theorem jX.set {B : jF} {base : Nat} {G : jT} {H H1 : Heap} {a k n : Nat} (h : jX B base G [] H) (hB : jBok B) (ha : G a = some (k, n)) (hk : k < 1000) (hsz : H1.size = H.size) (hfr : ∀ p, p ≠ a → H1[p]? = H[p]?) (hb : B k n G a H1) : jX B base G [] H1 :=
  ((h.opn a).put hB ha hk jSup.root List.mem_cons_self hsz hfr).cls ha hb
/-- a write to a cell that is no object: all pins stay -/
theorem jSt.arr (hh : jSt (dC, dI) B base G0 G E H0 zc zs L M I H locs) (hB : jBok B) (ha : G a = some (k, n)) (hk : k < 1000) (hk2 : 17 ≤ k) (hE : E.contains (k, 0) = true) (hM : M.all (fun q => !(q.2.1 == k)) = true) (hI : I.all (fun q => !(q.1.contains (k, 0))) = true) {H1 : Heap} {locs1 : List Loc} (hsz : H1.size = H.size) (hfr : ∀ p, p ≠ a → H1[p]? = H[p]?) (ht : jTot H1 = jTot H) (hL : ∀ q ∈ locs1, jA base q.base) (hb : B k n G a H1) : jSt (dC, dI) B base G0 G E H0 zc zs L M I H1 locs1 := by
  obtain ⟨h1, h2, h3, h4, h5, h6, h7, h8, h9⟩ := hh
  have key : ∀ b kb nb ib v, G b = some (kb, nb) → jf (dC, dI) kb b ib v H → jf (dC, dI) kb b ib v H1 := by
    intro b kb nb ib v hb1 hf
    refine hf.kept (hfr b (fun e => ?_))
    subst e
    rw [ha] at hb1; cases hb1
    obtain ⟨r, g1, -⟩ := hf
    have : k < vwCl.length := (List.getElem?_eq_some_iff.mp g1).1
    have h17 : vwCl.length = 17 := rfl
    omega
  refine ⟨jS_put h1 hsz hfr (h2.2 a _ ha).1 hL, h2.set hB ha hk hsz hfr hb, fun q hq => ?_, ⟨fun b kb nb ib v hb1 he hf => key b kb nb ib v (h5 _ _ hb1) (h4.1 b kb nb ib v hb1 he hf), fun b kb nb hb1 g1 g2 he => (hfr b (fun e => ?_)).trans (h4.2 b kb nb hb1 g1 g2 he)⟩, h5, by omega, by omega, fun q hq => ?_, h9.ag (fun q hq => ⟨fun b kb nb ib v hb1 _ hf => key b kb nb ib v hb1 hf, fun b kb nb hb1 g1 g2 hf => hfr b (fun e => ?_)⟩)⟩
  · obtain ⟨⟨nq, g1⟩, g2⟩ := h3 q hq
    exact ⟨⟨nq, g1⟩, key _ _ nq _ _ g1 g2⟩
  · subst e
    have e1 := (h5 _ _ hb1).symm.trans ha
    cases e1
    rw [hE] at he; cases he
  · obtain ⟨g1, g2, g3, g4⟩ := h8 q hq
    refine ⟨g1, g2, g3, g4.kept (hfr _ (fun e => ?_))⟩
    have hm9 := List.all_eq_true.mp hM q hq
    rw [e, ha] at g1
    have e2 := (Prod.mk.inj (Option.some.inj g1)).1
    rw [← e2] at hm9
    simp at hm9
  · subst e
    have e1 := hb1.symm.trans ha
    cases e1
    have hi9 := List.all_eq_true.mp hI q hq
    rw [hf] at hi9; cases hi9
/-- a write to a field -/
theorem jSt.fld (hh : jSt (dC, dI) B base G0 G E H0 zc zs L M I H locs) (hB : jBok B) (hAp : jAp (dC, dI)) {F : Nat → jT → List (Value → Prop)} (hBk : ∀ n G a H, B k n G a H ↔ jOb (dC, dI) k N (F n G) a H) (hc : vwCl[k]? = some (C, T, N)) (hk : k < 1000) (ha : G a = some (k, n)) (hi : i < N) {P : Value → Prop} (hp : (F n G)[i]? = some P) {v : Value} (hv : P v) (hE : E.contains (k, i) = true)
    {L1 : List jPin} (is : List Nat) (hs : is.map (fun i => L[i]?) = L1.map some) (hn : L1.all (fun q => !(q.2.1 == k && q.2.2.1 == i)) = true) (hI : I.all (fun q => !(q.1.contains (k, i))) = true) {H1 : Heap} {locs1 : List Loc} {cell : Cell} (hcell : H[a]? = some cell) (h1c : H1[a]? = some (cell.setSlot (dI k i) v)) (hsz : H1.size = H.size) (hfr : ∀ p, p ≠ a → H1[p]? = H[p]?) (ht : jTot H1 = jTot H) (hL : ∀ q ∈ locs1, jA base q.base) :
    jSt (dC, dI) B base G0 G E H0 zc zs ((a, k, i, v) :: L1) M I H1 locs1 := by
  obtain ⟨h1, h2, h3, h4, h5, h6, h7, h8, h9⟩ := hh
  have hk17 : k < 17 := (List.getElem?_eq_some_iff.mp hc).1
  obtain ⟨V, ⟨cell', q1, q2, q3, q4⟩, hV⟩ := (hBk _ _ _ _).mp (h2.1 a k n ha hk (fun h => by cases h))
  cases hcell.symm.trans q1
  have hap : ∀ x y, x < N → y < N → x ≠ y → dI k x ≠ dI k y := fun x y hx hy => hAp k _ hc x y hx hy
  have hset : ∀ j, j < N → (cell.setSlot (dI k i) v).slots[dI k j]? = some (updV V i v j) := fun j hj => t_set q4 hap hi v j hj
  have hvi : updV V i v i = v := by simp [updV]
  have key : ∀ b kb nb ib w, G b = some (kb, nb) → ¬ (kb = k ∧ ib = i) → jf (dC, dI) kb b ib w H → jf (dC, dI) kb b ib w H1 := by
    intro b kb nb ib w hb1 hne hf
    by_cases e : b = a
    · subst e
      rw [ha] at hb1; cases hb1
      obtain ⟨r, g1, g2, cell2, g3, g4, g5, g6⟩ := hf
      have hr : r = (C, T, N) := Option.some.inj (g1.symm.trans hc)
      subst hr
      cases q1.symm.trans g3
      have hib : ib ≠ i := fun q => hne ⟨rfl, q⟩
      have e1 := hset ib g2
      have e2 : updV V i v ib = V ib := by simp [updV, hib]
      rw [e2] at e1
      have e3 : V ib = w := Option.some.inj ((q4 ib g2).symm.trans g6)
      exact ⟨_, hc, g2, _, h1c, g4, g5, by rw [← e3]; exact e1⟩
    · exact hf.kept (hfr b e)
  refine ⟨jS_put h1 hsz hfr (h2.2 a _ ha).1 hL, h2.set hB ha hk hsz hfr ((hBk _ _ _ _).mpr ⟨updV V i v, ⟨_, h1c, q2, q3, hset⟩, fun j p hj => ?_⟩), fun q hq => ?_, ⟨fun b kb nb ib w hb1 he hf => key b kb nb ib w (h5 _ _ hb1) (fun q => ?_) (h4.1 b kb nb ib w hb1 he hf), fun b kb nb hb1 g1 g2 he => (hfr b (fun e => ?_)).trans (h4.2 b kb nb hb1 g1 g2 he)⟩, h5, by omega, by omega, fun q hq => ?_, h9.ag (fun q hq => ⟨fun b kb nb ib w hb1 hf1 hf => key b kb nb ib w hb1 (fun g => ?_) hf, fun b kb nb hb1 g1 g2 hf => hfr b (fun e => ?_)⟩)⟩
  · by_cases e : j = i
    · subst e
      rw [hvi]
      cases hp.symm.trans hj
      exact hv
    · have e2 : updV V i v j = V j := by simp [updV, e]
      rw [e2]; exact hV j p hj
  · rcases List.mem_cons.mp hq with e | e
    · subst e
      refine ⟨⟨n, ha⟩, _, hc, hi, _, h1c, q2, q3, ?_⟩
      have e1 := hset i hi
      rw [hvi] at e1
      exact e1
    · obtain ⟨⟨nq, g1⟩, g2⟩ := (jP.sub h3 is hs) q e
      have g3 := List.all_eq_true.mp hn q e
      refine ⟨⟨nq, g1⟩, key _ _ nq _ _ g1 (fun g => ?_) g2⟩
      rw [g.1, g.2] at g3
      simp at g3
  · rw [q.1, q.2, hE] at he; cases he
  · subst e
    have e1 := (h5 _ _ hb1).symm.trans ha
    cases e1
    omega
  · obtain ⟨g1, g2, g3, g4⟩ := h8 q hq
    refine ⟨g1, g2, g3, g4.kept (hfr _ (fun e => ?_))⟩
    rw [e, ha] at g1
    have e2 := (Prod.mk.inj (Option.some.inj g1)).1
    omega
  · have hi9 := List.all_eq_true.mp hI q hq
    rw [g.1, g.2] at hf1
    rw [hf1] at hi9; cases hi9
  · subst e
    have e1 := hb1.symm.trans ha
    cases e1
    omega
end J7
def jAr (D : va_G) (cA : ClassId) (P : Nat → Int32 → Prop) (n a : Nat) (H : Heap) : Prop := ∃ f : Nat → Int32, va_at D vwCl (a, .inl (cA, n, .inl f)) H ∧ ∀ j, j < n → P j (f j)
section J8
variable {p : Program} {l : Launch} {e : Env} {R : Room} {s : State} {m : MethodId} {args : Array Value} {below : List Frame} {meth : Method} {c : Code} {H : Heap} {locs : List Loc} {cells slots : Nat} {Q : State → Prop}
variable {cc : ByteArray} {pc : Nat} {ls : Array Slot} {rest : List Value} {dC : Nat → ClassId} {dI : Nat → Nat → Nat} {ca : Nat → ClassId} {B : jF} {base : Nat} {G0 G : jT} {E : List (Nat × Nat)} {H0 : Heap} {zc zs : Nat} {L : List jPin} {M : List jCt} {I : List jIv} {a k n : Nat} {P : Nat → Int32 → Prop} {cA : ClassId} {tys : List (ClassId × FieldType)}
theorem jSt.ar (hh : jSt (dC, dI) B base G0 G E H0 zc zs L M I H locs) (hBk : ∀ n G a H, B k n G a H ↔ jAr (dC, dI) cA P n a H) (hk : k < 1000) (ha : G a = some (k, n)) : ∃ f : Nat → Int32, va_at (dC, dI) vwCl (a, .inl (cA, n, .inl f)) H ∧ ∀ j, j < n → P j (f j) := (hBk _ _ _ _).mp (hh.2.1.1 a k n ha hk (fun h => by cases h))
theorem j7_len (hexec : p.tables.exec = Jvm.exec) (hb : c.code = cc) (hK : va_K (dC, dI) vwCl tys s) (hh : jSt (dC, dI) B base G0 G E H0 zc zs L M I H locs) (hBk : ∀ n G a H, B k n G a H ↔ jAr (dC, dI) cA P n a H) (t0 : Nat) {ty : FieldType} (ht : tys[t0]? = some (cA, ty)) (hk : k < 1000) (ha : G a = some (k, n)) (hn : n < 2147483648) (hdg : decode cc pc = .ok (.arraylength, 1))
    (kk : ∀ z : Int32, z.toInt = n → W p l e R s m args below meth c H locs cells slots Q (F0 m (pc + 1) ls (.int z :: rest))) : W p l e R s m args below meth c H locs cells slots Q (F0 m pc ls (.ref a :: rest)) := by
  obtain ⟨f, h1, -⟩ := hh.ar hBk hk ha
  exact va_alen (v := Int32.ofNat n) hexec hb hK (jp_one h1) 0 t0 rfl ht rfl hdg (kk _ (jb_nat hn))
theorem j7_iald (hexec : p.tables.exec = Jvm.exec) (hb : c.code = cc) (hK : va_K (dC, dI) vwCl tys s) (hh : jSt (dC, dI) B base G0 G E H0 zc zs L M I H locs) (hBk : ∀ n G a H, B k n G a H ↔ jAr (dC, dI) cA P n a H) (t0 : Nat) (ht : tys[t0]? = some (cA, .int)) (hk : k < 1000) (ha : G a = some (k, n)) {i : Int32} {x : Int} (hi : i.toInt = x) (h12 : 0 ≤ x ∧ x < n) (hdg : decode cc pc = .ok (.iaload, 1))
    (kk : ∀ z : Int32, P x.toNat z → W p l e R s m args below meth c H locs cells slots Q (F0 m (pc + 1) ls (.int z :: rest))) : W p l e R s m args below meth c H locs cells slots Q (F0 m pc ls (.int i :: .ref a :: rest)) := by
  obtain ⟨h1, h2⟩ := h12
  obtain ⟨f, g1, g2⟩ := hh.ar hBk hk ha
  exact va_iald hexec hb hK (jp_one g1) 0 t0 rfl ht (jb_in hi h1 h2) hdg (kk _ (by rw [← jb_cl hi h1]; exact g2 _ (jb_cl_lt hi h1 h2)))
theorem jSt.more (hh : jSt (dC, dI) B base G0 G E H0 zc zs L M I H locs) {P1 : List jPin} (h : jP (dC, dI) G H P1) : jSt (dC, dI) B base G0 G E H0 zc zs (P1 ++ L) M I H locs := by
  obtain ⟨h1, h2, h3, h4⟩ := hh
  exact ⟨h1, h2, h.app h3, h4⟩
theorem jSt.sub (hh : jSt (dC, dI) B base G0 G E H0 zc zs L M I H locs) {L1 : List jPin} (is : List Nat) (hs : is.map (fun i => L[i]?) = L1.map some) {M1 : List jCt} (js : List Nat) (hjs : js.map (fun i => M[i]?) = M1.map some) {I1 : List jIv} (ks : List Nat) (hks : ks.map (fun i => I[i]?) = I1.map some) : jSt (dC, dI) B base G0 G E H0 zc zs L1 M1 I1 H locs := by
  obtain ⟨h1, h2, h3, h4, h5, h6, h7, h8, h9⟩ := hh
  exact ⟨h1, h2, h3.sub is hs, h4, h5, h6, h7, h8.sub js hjs, h9.sub ks hks⟩
theorem jSt.start {H0 : Heap} (hX : jX B base G [] H0) {L : List jPin} (hP : jP (dC, dI) G H0 L) {M : List jCt} (hM : jMc (dC, dI) G H0 M) {I : List jIv} (hI : jIs (dC, dI) G H0 I) : jSt (dC, dI) B base G G E H0 0 0 L M I H0 [] := ⟨va_S.rf, hX, hP, jKp.rf, jLe.rf, Nat.le_refl _, Nat.le_refl _, hM, hI⟩
theorem jSt.recv (hh : jSt (dC, dI) B base G0 G E H0 zc zs L M I H locs) {N : Nat} {C : String} {T : u_T} {F : Nat → jT → List (Value → Prop)} (hBk : ∀ n G a H, B k n G a H ↔ jOb (dC, dI) k N (F n G) a H) (hc : vwCl[k]? = some (C, T, N)) (hk : k < 1000) (ha : G a = some (k, n)) (hK : va_K (dC, dI) vwCl tys s) : ∃ cell : Cell, H[a]? = some cell ∧ cell.vm.isStatics = false ∧ s.vm.findClass C = some cell.cls := by
  obtain ⟨V, ⟨cell, q1, q2, q3, q4⟩, hV⟩ := (hBk _ _ _ _).mp (hh.2.1.1 a k n ha hk (fun h => by cases h))
  obtain ⟨hS, hfc, -⟩ := hK.1 k _ hc
  exact ⟨cell, q1, by rw [q3]; rfl, by rw [q2]; exact hfc⟩
end J8
theorem jb_iadd2 {x y : Int32} {a b : Int} (hx : x.toInt = a) (hy : y.toInt = b) (h : -2147483648 ≤ a + b ∧ a + b ≤ 2147483647) : (x + y).toInt = a + b := jb_iadd hx hy h.1 h.2
theorem jb_imul2 {x y : Int32} {a b : Int} (hx : x.toInt = a) (hy : y.toInt = b) (h : -2147483648 ≤ a * b ∧ a * b ≤ 2147483647) : (x * y).toInt = a * b := jb_imul hx hy h.1 h.2
end
section
-- arrays of references
def jAq (D : va_G) (cA : ClassId) (P : jT → Option Nat → Prop) (n : Nat) (G : jT) (a : Nat) (H : Heap) : Prop := ∃ f : Nat → Option Nat, va_at D vwCl (a, .inl (cA, n, .inr (.inr (.inr (.inr f))))) H ∧ ∀ j, j < n → P G (f j)
def jQn (k n : Nat) (G : jT) : Option Nat → Prop := fun o => o = none ∨ ∃ x, o = some x ∧ G x = some (k, n)
section J10
variable {p : Program} {l : Launch} {e : Env} {R : Room} {s : State} {m : MethodId} {args : Array Value} {below : List Frame} {meth : Method} {c : Code} {H : Heap} {locs : List Loc} {cells slots : Nat} {Q : State → Prop}
variable {cc : ByteArray} {pc : Nat} {ls : Array Slot} {rest : List Value} {dC : Nat → ClassId} {dI : Nat → Nat → Nat} {ca : Nat → ClassId} {B : jF} {base : Nat} {G0 G : jT} {E : List (Nat × Nat)} {H0 : Heap} {zc zs : Nat} {L : List jPin} {M : List jCt} {I : List jIv} {a k n : Nat} {P : jT → Option Nat → Prop} {cA : ClassId} {tys : List (ClassId × FieldType)} {C : String}
end J10
end
section
set_option maxHeartbeats 4000000 in
set_option maxRecDepth 20000 in
theorem wJ0_coder_7d493 (l : Launch) (dC : Nat → ClassId) (dI : Nat → Nat → Nat) (ca : Nat → ClassId) (base : Nat) (H0 : Heap) (h0 n : Nat) : Met l yJ0_coder_7d493 (jw yJ0_coder_7d493 cJ0_coder_7d493 1 (some .byte)) ({ frames := 0, cells := 0, slots := 0, locals := 0 }) (va_Pc [.ref h0] (fun U => U.heap = H0 ∧ jStr base h0 n U H0 ∧ jG dC dI ca base U ∧ (n < 2147483648))) (vp_Si (fun r => r = 0)) 0 0 (fun _ => False) := by
  refine Met.ofW (cc := cJ0_coder_7d493) (maxL := 1) (ret := (some .byte)) (by decide) rfl ?_
  intro p e s m args below meth c s₁ B hml hv
  obtain ⟨rfl, hH0, hstr_h0, hG, hpre⟩ := hv
  have hK := hG.1
  have hx := B.exec
  have hb := B.bytes
  have hr := B.returns
  have hts := atoms_spec (ws := (jw yJ0_coder_7d493 cJ0_coder_7d493 1 (some .byte))) B.pre
  have htw : ∀ w ∈ jWl, w.before _ s = true := fun w h => hts w (List.mem_cons_of_mem _ h)
  have hown : s.vm.findClass RJ0 = some m.cls := findClass_of_methodNamed B.named
  have hlocks := B.notSynchronized
  obtain ⟨Q, hQ⟩ : ∃ Q, Q = MQ below (vp_Si (fun r => r = 0)) ([.ref h0] : List Value).toArray s 0 0 (fun _ => False) := ⟨_, rfl⟩
  rw [← hQ]
  have hl := lv_entry ([.ref h0]) (n := 1) (Nat.le_of_ble_eq_true rfl)
  rw [lg_entry_eq]
  generalize (lg_sl ([.ref h0]) ++ List.replicate (1 - (lg_sl ([.ref h0])).length) Slot.unset).toArray = ls at hl ⊢
  have hl : lv_has ls 1 [(0, .ref h0)] := hl
  generalize hR : (headSpec (jw yJ0_coder_7d493 cJ0_coder_7d493 1 (some .byte)) ({ frames := 0, cells := 0, slots := 0, locals := 0 })).room = R
  subst hH0
  have hS : va_S (jA base) s.heap s.heap [] := va_S.rf
  have hk0 : (0 : Int32).toInt = 0 := by decide
  have hk1 : (1 : Int32).toInt = 1 := by decide
  refine va_gets hx hb hG.2.2.2.2.1 hS hown (htw (.fieldLink RJ0 38 "java/lang/String" "COMPACT_STRINGS" "Z") (jWr_5 _ (List.mem_of_getElem? (i := 22) rfl))) (fun _ h9 => h9) dJ0_coder_7d493_0 ?_
  refine lv_if_eq (tgt := 13) hx hb dJ0_coder_7d493_3 (by decide) (fun c_1 => ?_) (fun c_1 => ?_)
  · skip
    exact absurd c_1 (by decide)
  · skip
    refine lv_aload_n hx hb dJ0_coder_7d493_6 rfl (lv_at hl 0 rfl) ?_
    refine vk_getf hx hb hstr_h0.2.1 hS hown (htw (.fieldLink RJ0 15 "java/lang/String" "coder" "B") (jWr_5 _ (List.mem_of_getElem? (i := 23) rfl))) (fun _ h9 => h9) dJ0_coder_7d493_7 ?_
    refine lv_goto (tgt := 14) hx hb dJ0_coder_7d493_10 (by decide) ?_
    rw [hQ]
    exact W.zret (v := 0) hx hb hr rfl (fun t ht hW => ⟨0, rfl, rfl, ht⟩) (fun _ h => nomatch h) dJ0_coder_7d493_14
set_option maxHeartbeats 4000000 in
set_option maxRecDepth 20000 in
theorem wJ0_isLatin1_aae02 (l : Launch) (dC : Nat → ClassId) (dI : Nat → Nat → Nat) (ca : Nat → ClassId) (base : Nat) (H0 : Heap) (h0 n : Nat) : Met l yJ0_isLatin1_aae02 (jw yJ0_isLatin1_aae02 cJ0_isLatin1_aae02 1 (some .boolean)) ({ frames := 0, cells := 0, slots := 0, locals := 0 }) (va_Pc [.ref h0] (fun U => U.heap = H0 ∧ jStr base h0 n U H0 ∧ jG dC dI ca base U ∧ (n < 2147483648))) (vp_Si (fun r => r = 1)) 0 0 (fun _ => False) := by
  refine Met.ofW (cc := cJ0_isLatin1_aae02) (maxL := 1) (ret := (some .boolean)) (by decide) rfl ?_
  intro p e s m args below meth c s₁ B hml hv
  obtain ⟨rfl, hH0, hstr_h0, hG, hpre⟩ := hv
  have hK := hG.1
  have hx := B.exec
  have hb := B.bytes
  have hr := B.returns
  have hts := atoms_spec (ws := (jw yJ0_isLatin1_aae02 cJ0_isLatin1_aae02 1 (some .boolean))) B.pre
  have htw : ∀ w ∈ jWl, w.before _ s = true := fun w h => hts w (List.mem_cons_of_mem _ h)
  have hown : s.vm.findClass RJ0 = some m.cls := findClass_of_methodNamed B.named
  have hlocks := B.notSynchronized
  obtain ⟨Q, hQ⟩ : ∃ Q, Q = MQ below (vp_Si (fun r => r = 1)) ([.ref h0] : List Value).toArray s 0 0 (fun _ => False) := ⟨_, rfl⟩
  rw [← hQ]
  have hl := lv_entry ([.ref h0]) (n := 1) (Nat.le_of_ble_eq_true rfl)
  rw [lg_entry_eq]
  generalize (lg_sl ([.ref h0]) ++ List.replicate (1 - (lg_sl ([.ref h0])).length) Slot.unset).toArray = ls at hl ⊢
  have hl : lv_has ls 1 [(0, .ref h0)] := hl
  generalize hR : (headSpec (jw yJ0_isLatin1_aae02 cJ0_isLatin1_aae02 1 (some .boolean)) ({ frames := 0, cells := 0, slots := 0, locals := 0 })).room = R
  subst hH0
  have hS : va_S (jA base) s.heap s.heap [] := va_S.rf
  have hk0 : (0 : Int32).toInt = 0 := by decide
  have hk1 : (1 : Int32).toInt = 1 := by decide
  refine va_gets hx hb hG.2.2.2.2.1 hS hown (htw (.fieldLink RJ0 38 "java/lang/String" "COMPACT_STRINGS" "Z") (jWr_5 _ (List.mem_of_getElem? (i := 22) rfl))) (fun _ h9 => h9) dJ0_isLatin1_aae02_0 ?_
  refine lv_if_eq (tgt := 17) hx hb dJ0_isLatin1_aae02_3 (by decide) (fun c_1 => ?_) (fun c_1 => ?_)
  · skip
    exact absurd c_1 (by decide)
  · skip
    refine lv_aload_n hx hb dJ0_isLatin1_aae02_6 rfl (lv_at hl 0 rfl) ?_
    refine vk_getf hx hb hstr_h0.2.1 hS hown (htw (.fieldLink RJ0 15 "java/lang/String" "coder" "B") (jWr_5 _ (List.mem_of_getElem? (i := 23) rfl))) (fun _ h9 => h9) dJ0_isLatin1_aae02_7 ?_
    refine lv_if_ne (tgt := 17) hx hb dJ0_isLatin1_aae02_10 (by decide) (fun c_2 => ?_) (fun c_2 => ?_)
    · skip
      exact absurd c_2 (by decide)
    · skip
      refine lv_iconst (v := 1) hx hb dJ0_isLatin1_aae02_13 (by decide) ?_
      refine lv_goto (tgt := 18) hx hb dJ0_isLatin1_aae02_14 (by decide) ?_
      rw [hQ]
      exact W.zret (v := 1) hx hb hr (jb_nz (Or.inr rfl)) (fun t ht hW => ⟨1, rfl, rfl, ht⟩) (fun _ h => nomatch h) dJ0_isLatin1_aae02_18
set_option maxHeartbeats 4000000 in
set_option maxRecDepth 20000 in
theorem wJ0_length_8abf5 (l : Launch) (dC : Nat → ClassId) (dI : Nat → Nat → Nat) (ca : Nat → ClassId) (base : Nat) (H0 : Heap) (h0 n : Nat) : Met l yJ0_length_8abf5 (jw yJ0_length_8abf5 cJ0_length_8abf5 1 (some .int)) ({ frames := 1, cells := 0, slots := 0, locals := 20 }) (va_Pc [.ref h0] (fun U => U.heap = H0 ∧ jStr base h0 n U H0 ∧ jG dC dI ca base U ∧ (n < 2147483648))) (vp_Si (fun r => r.toInt = n)) 0 0 (fun _ => False) := by
  refine Met.ofW (cc := cJ0_length_8abf5) (maxL := 1) (ret := (some .int)) (by decide) rfl ?_
  intro p e s m args below meth c s₁ B hml hv
  obtain ⟨rfl, hH0, hstr_h0, hG, hpre⟩ := hv
  have hK := hG.1
  have hx := B.exec
  have hb := B.bytes
  have hr := B.returns
  have hts := atoms_spec (ws := (jw yJ0_length_8abf5 cJ0_length_8abf5 1 (some .int))) B.pre
  have htw : ∀ w ∈ jWl, w.before _ s = true := fun w h => hts w (List.mem_cons_of_mem _ h)
  have hown : s.vm.findClass RJ0 = some m.cls := findClass_of_methodNamed B.named
  have hlocks := B.notSynchronized
  obtain ⟨Q, hQ⟩ : ∃ Q, Q = MQ below (vp_Si (fun r => r.toInt = n)) ([.ref h0] : List Value).toArray s 0 0 (fun _ => False) := ⟨_, rfl⟩
  rw [← hQ]
  have hl := lv_entry ([.ref h0]) (n := 1) (Nat.le_of_ble_eq_true rfl)
  rw [lg_entry_eq]
  generalize (lg_sl ([.ref h0]) ++ List.replicate (1 - (lg_sl ([.ref h0])).length) Slot.unset).toArray = ls at hl ⊢
  have hl : lv_has ls 1 [(0, .ref h0)] := hl
  generalize hR : (headSpec (jw yJ0_length_8abf5 cJ0_length_8abf5 1 (some .int)) ({ frames := 1, cells := 0, slots := 0, locals := 20 })).room = R
  subst hH0
  have hS : va_S (jA base) s.heap s.heap [] := va_S.rf
  have hk0 : (0 : Int32).toInt = 0 := by decide
  have hk1 : (1 : Int32).toInt = 1 := by decide
  refine lv_aload_n hx hb dJ0_length_8abf5_0 rfl (lv_at hl 0 rfl) ?_
  obtain ⟨sv_1, fsv_1, gsv_1, hsv_1⟩ := hstr_h0.2.2
  refine vk_getf hx hb gsv_1 hS hown (htw (.fieldLink RJ0 9 "java/lang/String" "value" "[B") (jWr_5 _ (List.mem_of_getElem? (i := 17) rfl))) (fun _ h9 => h9) dJ0_length_8abf5_1 ?_
  refine va_tlen hx hb hsv_1 hS (v := Int32.ofNat n) rfl dJ0_length_8abf5_4 ?_
  refine lv_topi (fun z_2 ez_2 => ?_)
  have hz_2 : z_2.toInt = n := by rw [ez_2]; exact jb_nat (by omega)
  refine lv_aload_n hx hb dJ0_length_8abf5_5 rfl (lv_at hl 0 rfl) ?_
  refine vp_callSi (W.runV (As := []) (rest := [.int z_2]) ⟨hx, hb, hml, hown, hts⟩ (wJ0_coder_7d493 l dC dI ca base s.heap h0 n) (cwV 0 hts (jgV (jWr_5 _ (List.mem_of_getElem? (i := 18) rfl)) (jWr_5 _ (List.mem_of_getElem? (i := 19) rfl)) (jWr_5 _ (List.mem_of_getElem? (i := 20) rfl)) (jWr_5 _ (List.mem_of_getElem? (i := 15) rfl)) (jWr_5 _ (List.mem_of_getElem? (i := 21) rfl))) rfl rfl rfl (by decide +kernel) ⟨by rw [← hR]; exact Nat.le_of_ble_eq_true rfl, by rw [← hR]; exact Nat.le_of_ble_eq_true rfl⟩) ⟨fun a U g mk q => by obtain ⟨q0, q1, q2, qK, q9⟩ := q; exact ⟨q0, q1, (q2.moved (Vm.Alike.refl U.vm)), jG.calling g mk a qK, q9⟩, jStr_recv hstr_h0 hS, fun U hU hW => ⟨rfl, hU, (hstr_h0.moved hW.alike).kept hS.2.1, hG.step hW hU hS, by omega⟩⟩ rfl rfl hl.1 rfl (lv_room (Nat.le_of_ble_eq_true rfl)) dJ0_length_8abf5_6 ⟨Nat.zero_le _, Nat.zero_le _⟩) (fun r_3 hr_3 => ?_)
  subst hr_3
  refine lv_ishr hx hb dJ0_length_8abf5_9 ?_
  refine lv_topi (fun z_4 ez_4 => ?_)
  have hz_4 : z_4.toInt = z_2.toInt / 2 ^ 0 := by rw [ez_4]; exact jb_ishr 0 (rfl) (by decide)
  rw [hQ]
  exact W.iret (v := z_4) hx hb hr (fun t ht hW => ⟨z_4, rfl, by first | trivial | omega | (constructor <;> omega), ht⟩) (fun _ h => nomatch h) dJ0_length_8abf5_10
set_option maxHeartbeats 4000000 in
set_option maxRecDepth 20000 in
theorem wJ3_checkIndex_8e157_z (l : Launch) (dC : Nat → ClassId) (dI : Nat → Nat → Nat) (ca : Nat → ClassId) (base : Nat) (H0 : Heap) (a0 : Int32) (a1 : Int32) : Met l yJ3_checkIndex_8e157 (jw yJ3_checkIndex_8e157 cJ3_checkIndex_8e157 3 (some .int)) ({ frames := 0, cells := 0, slots := 0, locals := 0 }) (va_Pc [.int a0, .int a1, .null] (fun U => U.heap = H0 ∧ jG dC dI ca base U ∧ (0 ≤ a0.toInt ∧ a0.toInt < a1.toInt))) (vp_Si (fun r => r = a0)) 0 0 (fun _ => False) := by
  refine Met.ofW (cc := cJ3_checkIndex_8e157) (maxL := 3) (ret := (some .int)) (by decide) rfl ?_
  intro p e s m args below meth c s₁ B hml hv
  obtain ⟨rfl, hH0, hG, hp1, hp2⟩ := hv
  have hK := hG.1
  have hx := B.exec
  have hb := B.bytes
  have hr := B.returns
  have hts := atoms_spec (ws := (jw yJ3_checkIndex_8e157 cJ3_checkIndex_8e157 3 (some .int))) B.pre
  have htw : ∀ w ∈ jWl, w.before _ s = true := fun w h => hts w (List.mem_cons_of_mem _ h)
  have hown : s.vm.findClass RJ3 = some m.cls := findClass_of_methodNamed B.named
  have hlocks := B.notSynchronized
  obtain ⟨Q, hQ⟩ : ∃ Q, Q = MQ below (vp_Si (fun r => r = a0)) ([.int a0, .int a1, .null] : List Value).toArray s 0 0 (fun _ => False) := ⟨_, rfl⟩
  rw [← hQ]
  have hl := lv_entry ([.int a0, .int a1, .null]) (n := 3) (Nat.le_of_ble_eq_true rfl)
  rw [lg_entry_eq]
  generalize (lg_sl ([.int a0, .int a1, .null]) ++ List.replicate (3 - (lg_sl ([.int a0, .int a1, .null])).length) Slot.unset).toArray = ls at hl ⊢
  have hl : lv_has ls 3 [(0, .int a0), (1, .int a1), (2, .null)] := hl
  generalize hR : (headSpec (jw yJ3_checkIndex_8e157 cJ3_checkIndex_8e157 3 (some .int)) ({ frames := 0, cells := 0, slots := 0, locals := 0 })).room = R
  subst hH0
  have hS : va_S (jA base) s.heap s.heap [] := va_S.rf
  have hk0 : (0 : Int32).toInt = 0 := by decide
  have hk1 : (1 : Int32).toInt = 1 := by decide
  refine lv_iload_n hx hb dJ3_checkIndex_8e157_0 rfl (lv_at hl 0 rfl) ?_
  refine lv_if_lt (tgt := 9) hx hb dJ3_checkIndex_8e157_1 (by decide) (fun c_1 => ?_) (fun c_1 => ?_)
  · skip
    have c_1' : a0.toInt < 0 := jb_lt (rfl) ((by decide)) c_1
    exact absurd c_1' (by omega)
  · skip
    have c_1' : a0.toInt ≥ 0 := jb_lt_n (rfl) ((by decide)) c_1
    refine lv_iload_n hx hb dJ3_checkIndex_8e157_4 rfl (lv_at hl 0 rfl) ?_
    refine lv_iload_n hx hb dJ3_checkIndex_8e157_5 rfl (lv_at hl 1 rfl) ?_
    refine lv_icmp_lt (tgt := 16) hx hb dJ3_checkIndex_8e157_6 (by decide) (fun c_2 => ?_) (fun c_2 => ?_)
    · skip
      have c_2' : a0.toInt < a1.toInt := jb_lt (rfl) (rfl) c_2
      refine lv_iload_n hx hb dJ3_checkIndex_8e157_16 rfl (lv_at hl 0 rfl) ?_
      rw [hQ]
      exact W.iret (v := a0) hx hb hr (fun t ht hW => ⟨a0, rfl, rfl, ht⟩) (fun _ h => nomatch h) dJ3_checkIndex_8e157_17
    · skip
      have c_2' : a0.toInt ≥ a1.toInt := jb_lt_n (rfl) (rfl) c_2
      exact absurd c_2' (by omega)
set_option maxHeartbeats 4000000 in
set_option maxRecDepth 20000 in
theorem wJ3_checkIndex_8e157_a (l : Launch) (dC : Nat → ClassId) (dI : Nat → Nat → Nat) (ca : Nat → ClassId) (base : Nat) (H0 : Heap) (a0 : Int32) (a1 : Int32) (a2 : Nat) : Met l yJ3_checkIndex_8e157 (jw yJ3_checkIndex_8e157 cJ3_checkIndex_8e157 3 (some .int)) ({ frames := 0, cells := 0, slots := 0, locals := 0 }) (va_Pc [.int a0, .int a1, .ref a2] (fun U => U.heap = H0 ∧ jG dC dI ca base U ∧ (0 ≤ a0.toInt ∧ a0.toInt < a1.toInt))) (vp_Si (fun r => r = a0)) 0 0 (fun _ => False) := by
  refine Met.ofW (cc := cJ3_checkIndex_8e157) (maxL := 3) (ret := (some .int)) (by decide) rfl ?_
  intro p e s m args below meth c s₁ B hml hv
  obtain ⟨rfl, hH0, hG, hp1, hp2⟩ := hv
  have hK := hG.1
  have hx := B.exec
  have hb := B.bytes
  have hr := B.returns
  have hts := atoms_spec (ws := (jw yJ3_checkIndex_8e157 cJ3_checkIndex_8e157 3 (some .int))) B.pre
  have htw : ∀ w ∈ jWl, w.before _ s = true := fun w h => hts w (List.mem_cons_of_mem _ h)
  have hown : s.vm.findClass RJ3 = some m.cls := findClass_of_methodNamed B.named
  have hlocks := B.notSynchronized
  obtain ⟨Q, hQ⟩ : ∃ Q, Q = MQ below (vp_Si (fun r => r = a0)) ([.int a0, .int a1, .ref a2] : List Value).toArray s 0 0 (fun _ => False) := ⟨_, rfl⟩
  rw [← hQ]
  have hl := lv_entry ([.int a0, .int a1, .ref a2]) (n := 3) (Nat.le_of_ble_eq_true rfl)
  rw [lg_entry_eq]
  generalize (lg_sl ([.int a0, .int a1, .ref a2]) ++ List.replicate (3 - (lg_sl ([.int a0, .int a1, .ref a2])).length) Slot.unset).toArray = ls at hl ⊢
  have hl : lv_has ls 3 [(0, .int a0), (1, .int a1), (2, .ref a2)] := hl
  generalize hR : (headSpec (jw yJ3_checkIndex_8e157 cJ3_checkIndex_8e157 3 (some .int)) ({ frames := 0, cells := 0, slots := 0, locals := 0 })).room = R
  subst hH0
  have hS : va_S (jA base) s.heap s.heap [] := va_S.rf
  have hk0 : (0 : Int32).toInt = 0 := by decide
  have hk1 : (1 : Int32).toInt = 1 := by decide
  refine lv_iload_n hx hb dJ3_checkIndex_8e157_0 rfl (lv_at hl 0 rfl) ?_
  refine lv_if_lt (tgt := 9) hx hb dJ3_checkIndex_8e157_1 (by decide) (fun c_1 => ?_) (fun c_1 => ?_)
  · skip
    have c_1' : a0.toInt < 0 := jb_lt (rfl) ((by decide)) c_1
    exact absurd c_1' (by omega)
  · skip
    have c_1' : a0.toInt ≥ 0 := jb_lt_n (rfl) ((by decide)) c_1
    refine lv_iload_n hx hb dJ3_checkIndex_8e157_4 rfl (lv_at hl 0 rfl) ?_
    refine lv_iload_n hx hb dJ3_checkIndex_8e157_5 rfl (lv_at hl 1 rfl) ?_
    refine lv_icmp_lt (tgt := 16) hx hb dJ3_checkIndex_8e157_6 (by decide) (fun c_2 => ?_) (fun c_2 => ?_)
    · skip
      have c_2' : a0.toInt < a1.toInt := jb_lt (rfl) (rfl) c_2
      refine lv_iload_n hx hb dJ3_checkIndex_8e157_16 rfl (lv_at hl 0 rfl) ?_
      rw [hQ]
      exact W.iret (v := a0) hx hb hr (fun t ht hW => ⟨a0, rfl, rfl, ht⟩) (fun _ h => nomatch h) dJ3_checkIndex_8e157_17
    · skip
      have c_2' : a0.toInt ≥ a1.toInt := jb_lt_n (rfl) (rfl) c_2
      exact absurd c_2' (by omega)
set_option maxHeartbeats 4000000 in
set_option maxRecDepth 20000 in
theorem wJ0_checkIndex_df160 (l : Launch) (dC : Nat → ClassId) (dI : Nat → Nat → Nat) (ca : Nat → ClassId) (base : Nat) (H0 : Heap) (a0 : Int32) (a1 : Int32) : Met l yJ0_checkIndex_df160 (jw yJ0_checkIndex_df160 cJ0_checkIndex_df160 2 none) ({ frames := 1, cells := 0, slots := 0, locals := 40 }) (va_Pc [.int a0, .int a1] (fun U => U.heap = H0 ∧ jG dC dI ca base U ∧ (0 ≤ a0.toInt ∧ a0.toInt < a1.toInt))) (va_Sv (fun _ => True)) 0 0 (fun _ => False) := by
  refine Met.ofW (cc := cJ0_checkIndex_df160) (maxL := 2) (ret := none) (by decide) rfl ?_
  intro p e s m args below meth c s₁ B hml hv
  obtain ⟨rfl, hH0, hG, hp1, hp2⟩ := hv
  have hK := hG.1
  have hx := B.exec
  have hb := B.bytes
  have hr := B.returns
  have hts := atoms_spec (ws := (jw yJ0_checkIndex_df160 cJ0_checkIndex_df160 2 none)) B.pre
  have htw : ∀ w ∈ jWl, w.before _ s = true := fun w h => hts w (List.mem_cons_of_mem _ h)
  have hown : s.vm.findClass RJ0 = some m.cls := findClass_of_methodNamed B.named
  have hlocks := B.notSynchronized
  obtain ⟨Q, hQ⟩ : ∃ Q, Q = MQ below (va_Sv (fun _ => True)) ([.int a0, .int a1] : List Value).toArray s 0 0 (fun _ => False) := ⟨_, rfl⟩
  rw [← hQ]
  have hl := lv_entry ([.int a0, .int a1]) (n := 2) (Nat.le_of_ble_eq_true rfl)
  rw [lg_entry_eq]
  generalize (lg_sl ([.int a0, .int a1]) ++ List.replicate (2 - (lg_sl ([.int a0, .int a1])).length) Slot.unset).toArray = ls at hl ⊢
  have hl : lv_has ls 2 [(0, .int a0), (1, .int a1)] := hl
  generalize hR : (headSpec (jw yJ0_checkIndex_df160 cJ0_checkIndex_df160 2 none) ({ frames := 1, cells := 0, slots := 0, locals := 40 })).room = R
  subst hH0
  have hS : va_S (jA base) s.heap s.heap [] := va_S.rf
  have hk0 : (0 : Int32).toInt = 0 := by decide
  have hk1 : (1 : Int32).toInt = 1 := by decide
  refine lv_iload_n hx hb dJ0_checkIndex_df160_0 rfl (lv_at hl 0 rfl) ?_
  refine lv_iload_n hx hb dJ0_checkIndex_df160_1 rfl (lv_at hl 1 rfl) ?_
  rcases hG.2.2.2.2.2.2.2 with hz9 | ⟨t9, hz9⟩
  · refine va_gets hx hb hz9 hS hown (htw (.fieldLink RJ0 1053 "jdk/internal/util/Preconditions" "SIOOBE_FORMATTER" "Ljava/util/function/BiFunction;") (jWr_6 _ (List.mem_of_getElem? (i := 15) rfl))) (fun _ h9 => h9) dJ0_checkIndex_df160_2 ?_
    refine vp_callSi (W.runS (As := [.int a0, .int a1, .null]) (rest := []) ⟨hx, hb, hml, hown, hts⟩ (wJ3_checkIndex_8e157_z l dC dI ca base s.heap a0 a1) (va_cwS 3 hts (jgS (jWr_6 _ (List.mem_of_getElem? (i := 16) rfl)) (jWr_6 _ (List.mem_of_getElem? (i := 17) rfl)) (jWr_6 _ (List.mem_of_getElem? (i := 18) rfl)) (jWr_6 _ (List.mem_of_getElem? (i := 19) rfl))) rfl rfl rfl (by decide +kernel) ⟨by rw [← hR]; exact Nat.le_of_ble_eq_true rfl, by rw [← hR]; exact Nat.le_of_ble_eq_true rfl⟩) ⟨fun a U g mk q => by obtain ⟨q0, q1, qK, q9⟩ := q; exact ⟨q0, q1, jG.calling g mk a qK, q9⟩, fun U hU hW => ⟨rfl, hU, hG.step hW hU hS, by first | trivial | omega | (constructor <;> omega)⟩⟩ rfl rfl hl.1 rfl (lv_room (Nat.le_of_ble_eq_true rfl)) dJ0_checkIndex_df160_5 ⟨Nat.zero_le _, Nat.zero_le _⟩) (fun r_1 hr_1 => ?_)
    refine lv_pop hx hb dJ0_checkIndex_df160_8 rfl ?_
    rw [hQ]
    exact W.vret hx hb hr (fun t ht hW => ⟨rfl, trivial, ht⟩) (fun _ h => nomatch h) dJ0_checkIndex_df160_9
  · refine va_gets hx hb hz9 hS hown (htw (.fieldLink RJ0 1053 "jdk/internal/util/Preconditions" "SIOOBE_FORMATTER" "Ljava/util/function/BiFunction;") (jWr_6 _ (List.mem_of_getElem? (i := 15) rfl))) (fun _ h9 => h9) dJ0_checkIndex_df160_2 ?_
    refine vp_callSi (W.runS (As := [.int a0, .int a1, .ref t9]) (rest := []) ⟨hx, hb, hml, hown, hts⟩ (wJ3_checkIndex_8e157_a l dC dI ca base s.heap a0 a1 t9) (va_cwS 3 hts (jgS (jWr_6 _ (List.mem_of_getElem? (i := 16) rfl)) (jWr_6 _ (List.mem_of_getElem? (i := 17) rfl)) (jWr_6 _ (List.mem_of_getElem? (i := 18) rfl)) (jWr_6 _ (List.mem_of_getElem? (i := 19) rfl))) rfl rfl rfl (by decide +kernel) ⟨by rw [← hR]; exact Nat.le_of_ble_eq_true rfl, by rw [← hR]; exact Nat.le_of_ble_eq_true rfl⟩) ⟨fun a U g mk q => by obtain ⟨q0, q1, qK, q9⟩ := q; exact ⟨q0, q1, jG.calling g mk a qK, q9⟩, fun U hU hW => ⟨rfl, hU, hG.step hW hU hS, by first | trivial | omega | (constructor <;> omega)⟩⟩ rfl rfl hl.1 rfl (lv_room (Nat.le_of_ble_eq_true rfl)) dJ0_checkIndex_df160_5 ⟨Nat.zero_le _, Nat.zero_le _⟩) (fun r_2 hr_2 => ?_)
    refine lv_pop hx hb dJ0_checkIndex_df160_8 rfl ?_
    rw [hQ]
    exact W.vret hx hb hr (fun t ht hW => ⟨rfl, trivial, ht⟩) (fun _ h => nomatch h) dJ0_checkIndex_df160_9
set_option maxHeartbeats 4000000 in
set_option maxRecDepth 20000 in
theorem wJ1_charAt_3b067 (l : Launch) (dC : Nat → ClassId) (dI : Nat → Nat → Nat) (ca : Nat → ClassId) (base : Nat) (H0 : Heap) (h0 n : Nat) (f : Nat → Int32) (a1 : Int32) : Met l yJ1_charAt_3b067 (jw yJ1_charAt_3b067 cJ1_charAt_3b067 2 (some .char)) ({ frames := 2, cells := 0, slots := 0, locals := 80 }) (va_Pc [.ref h0, .int a1] (fun U => U.heap = H0 ∧ va_T .byte h0 n (fun j => .int (f j)) (jA base) U H0 ∧ jG dC dI ca base U ∧ (n < 2147483648 ∧ 0 ≤ a1.toInt ∧ a1.toInt < n))) (vp_Si (fun r => 0 ≤ r.toInt ∧ r.toInt ≤ 255)) 0 0 (fun _ => False) := by
  refine Met.ofW (cc := cJ1_charAt_3b067) (maxL := 2) (ret := (some .char)) (by decide) rfl ?_
  intro p e s m args below meth c s₁ B hml hv
  obtain ⟨rfl, hH0, hsa_h0, hG, hp1, hp2, hp3⟩ := hv
  have hK := hG.1
  have hx := B.exec
  have hb := B.bytes
  have hr := B.returns
  have hts := atoms_spec (ws := (jw yJ1_charAt_3b067 cJ1_charAt_3b067 2 (some .char))) B.pre
  have htw : ∀ w ∈ jWl, w.before _ s = true := fun w h => hts w (List.mem_cons_of_mem _ h)
  have hown : s.vm.findClass RJ1 = some m.cls := findClass_of_methodNamed B.named
  have hlocks := B.notSynchronized
  obtain ⟨Q, hQ⟩ : ∃ Q, Q = MQ below (vp_Si (fun r => 0 ≤ r.toInt ∧ r.toInt ≤ 255)) ([.ref h0, .int a1] : List Value).toArray s 0 0 (fun _ => False) := ⟨_, rfl⟩
  rw [← hQ]
  have hl := lv_entry ([.ref h0, .int a1]) (n := 2) (Nat.le_of_ble_eq_true rfl)
  rw [lg_entry_eq]
  generalize (lg_sl ([.ref h0, .int a1]) ++ List.replicate (2 - (lg_sl ([.ref h0, .int a1])).length) Slot.unset).toArray = ls at hl ⊢
  have hl : lv_has ls 2 [(0, .ref h0), (1, .int a1)] := hl
  generalize hR : (headSpec (jw yJ1_charAt_3b067 cJ1_charAt_3b067 2 (some .char)) ({ frames := 2, cells := 0, slots := 0, locals := 80 })).room = R
  subst hH0
  have hS : va_S (jA base) s.heap s.heap [] := va_S.rf
  have hk0 : (0 : Int32).toInt = 0 := by decide
  have hk1 : (1 : Int32).toInt = 1 := by decide
  have hk255 : (255 : Int32).toInt = 255 := by decide
  refine lv_iload_n hx hb dJ1_charAt_3b067_0 rfl (lv_at hl 1 rfl) ?_
  refine lv_aload_n hx hb dJ1_charAt_3b067_1 rfl (lv_at hl 0 rfl) ?_
  refine va_tlen hx hb hsa_h0 hS (v := Int32.ofNat n) rfl dJ1_charAt_3b067_2 ?_
  refine lv_topi (fun z_1 ez_1 => ?_)
  have hz_1 : z_1.toInt = n := by rw [ez_1]; exact jb_nat (by omega)
  refine va_csv (W.runS (As := [.int a1, .int z_1]) (rest := []) ⟨hx, hb, hml, hown, hts⟩ (wJ0_checkIndex_df160 l dC dI ca base s.heap a1 z_1) (va_cwS 2 hts (jgS (jWr_6 _ (List.mem_of_getElem? (i := 12) rfl)) (jWr_6 _ (List.mem_of_getElem? (i := 13) rfl)) (jWr_5 _ (List.mem_of_getElem? (i := 15) rfl)) (jWr_6 _ (List.mem_of_getElem? (i := 14) rfl))) rfl rfl rfl (by decide +kernel) ⟨by rw [← hR]; exact Nat.le_of_ble_eq_true rfl, by rw [← hR]; exact Nat.le_of_ble_eq_true rfl⟩) ⟨fun a U g mk q => by obtain ⟨q0, q1, qK, q9⟩ := q; exact ⟨q0, q1, jG.calling g mk a qK, q9⟩, fun U hU hW => ⟨rfl, hU, hG.step hW hU hS, by first | trivial | omega | (constructor <;> omega)⟩⟩ rfl rfl hl.1 rfl (lv_room (Nat.le_of_ble_eq_true rfl)) dJ1_charAt_3b067_3 ⟨Nat.zero_le _, Nat.zero_le _⟩) (fun _ => ?_)
  refine lv_aload_n hx hb dJ1_charAt_3b067_6 rfl (lv_at hl 0 rfl) ?_
  refine lv_iload_n hx hb dJ1_charAt_3b067_7 rfl (lv_at hl 1 rfl) ?_
  refine va_tb hx hb hsa_h0 hS (jb_in (rfl) (by omega) (by omega)) rfl dJ1_charAt_3b067_8 ?_
  refine lv_topi (fun z_3 ez_3 => ?_)
  refine lv_sipush (v := 255) hx hb dJ1_charAt_3b067_9 (by decide) ?_
  refine lv_iand hx hb dJ1_charAt_3b067_12 ?_
  refine lv_topi (fun z_4 ez_4 => ?_)
  have hz_4 : 0 ≤ z_4.toInt ∧ z_4.toInt ≤ 255 := by rw [ez_4]; exact jb_and z_3 (m := 255) (k := 8) (by decide) (by decide)
  refine lv_i2c hx hb dJ1_charAt_3b067_13 rfl ?_
  refine lv_topi (fun z_5 ez_5 => ?_)
  rw [hQ]
  exact W.zret (v := z_5) hx hb hr (by rw [ez_5]; exact pk_nc _) (fun t ht hW => ⟨z_5, rfl, by rw [ez_5, ez_4]; exact jb_char _, ht⟩) (fun _ h => nomatch h) dJ1_charAt_3b067_14
set_option maxHeartbeats 4000000 in
set_option maxRecDepth 20000 in
theorem wJ0_charAt_5068e (l : Launch) (dC : Nat → ClassId) (dI : Nat → Nat → Nat) (ca : Nat → ClassId) (base : Nat) (H0 : Heap) (h0 n : Nat) (a1 : Int32) : Met l yJ0_charAt_5068e (jw yJ0_charAt_5068e cJ0_charAt_5068e 2 (some .char)) ({ frames := 3, cells := 0, slots := 0, locals := 120 }) (va_Pc [.ref h0, .int a1] (fun U => U.heap = H0 ∧ jStr base h0 n U H0 ∧ jG dC dI ca base U ∧ (n < 2147483648 ∧ 0 ≤ a1.toInt ∧ a1.toInt < n))) (vp_Si (fun r => 0 ≤ r.toInt ∧ r.toInt ≤ 255)) 0 0 (fun _ => False) := by
  refine Met.ofW (cc := cJ0_charAt_5068e) (maxL := 2) (ret := (some .char)) (by decide) rfl ?_
  intro p e s m args below meth c s₁ B hml hv
  obtain ⟨rfl, hH0, hstr_h0, hG, hp1, hp2, hp3⟩ := hv
  have hK := hG.1
  have hx := B.exec
  have hb := B.bytes
  have hr := B.returns
  have hts := atoms_spec (ws := (jw yJ0_charAt_5068e cJ0_charAt_5068e 2 (some .char))) B.pre
  have htw : ∀ w ∈ jWl, w.before _ s = true := fun w h => hts w (List.mem_cons_of_mem _ h)
  have hown : s.vm.findClass RJ0 = some m.cls := findClass_of_methodNamed B.named
  have hlocks := B.notSynchronized
  obtain ⟨Q, hQ⟩ : ∃ Q, Q = MQ below (vp_Si (fun r => 0 ≤ r.toInt ∧ r.toInt ≤ 255)) ([.ref h0, .int a1] : List Value).toArray s 0 0 (fun _ => False) := ⟨_, rfl⟩
  rw [← hQ]
  have hl := lv_entry ([.ref h0, .int a1]) (n := 2) (Nat.le_of_ble_eq_true rfl)
  rw [lg_entry_eq]
  generalize (lg_sl ([.ref h0, .int a1]) ++ List.replicate (2 - (lg_sl ([.ref h0, .int a1])).length) Slot.unset).toArray = ls at hl ⊢
  have hl : lv_has ls 2 [(0, .ref h0), (1, .int a1)] := hl
  generalize hR : (headSpec (jw yJ0_charAt_5068e cJ0_charAt_5068e 2 (some .char)) ({ frames := 3, cells := 0, slots := 0, locals := 120 })).room = R
  subst hH0
  have hS : va_S (jA base) s.heap s.heap [] := va_S.rf
  have hk0 : (0 : Int32).toInt = 0 := by decide
  have hk1 : (1 : Int32).toInt = 1 := by decide
  refine lv_aload_n hx hb dJ0_charAt_5068e_0 rfl (lv_at hl 0 rfl) ?_
  refine vp_callSi (W.runV (As := []) (rest := []) ⟨hx, hb, hml, hown, hts⟩ (wJ0_isLatin1_aae02 l dC dI ca base s.heap h0 n) (cwV 0 hts (jgV (jWr_6 _ (List.mem_of_getElem? (i := 4) rfl)) (jWr_6 _ (List.mem_of_getElem? (i := 5) rfl)) (jWr_6 _ (List.mem_of_getElem? (i := 6) rfl)) (jWr_5 _ (List.mem_of_getElem? (i := 15) rfl)) (jWr_6 _ (List.mem_of_getElem? (i := 7) rfl))) rfl rfl rfl (by decide +kernel) ⟨by rw [← hR]; exact Nat.le_of_ble_eq_true rfl, by rw [← hR]; exact Nat.le_of_ble_eq_true rfl⟩) ⟨fun a U g mk q => by obtain ⟨q0, q1, q2, qK, q9⟩ := q; exact ⟨q0, q1, (q2.moved (Vm.Alike.refl U.vm)), jG.calling g mk a qK, q9⟩, jStr_recv hstr_h0 hS, fun U hU hW => ⟨rfl, hU, (hstr_h0.moved hW.alike).kept hS.2.1, hG.step hW hU hS, by omega⟩⟩ rfl rfl hl.1 rfl (lv_room (Nat.le_of_ble_eq_true rfl)) dJ0_charAt_5068e_1 ⟨Nat.zero_le _, Nat.zero_le _⟩) (fun r_1 hr_1 => ?_)
  subst hr_1
  refine lv_if_eq (tgt := 16) hx hb dJ0_charAt_5068e_4 (by decide) (fun c_2 => ?_) (fun c_2 => ?_)
  · skip
    exact absurd c_2 (by decide)
  · skip
    refine lv_aload_n hx hb dJ0_charAt_5068e_7 rfl (lv_at hl 0 rfl) ?_
    obtain ⟨sv_3, fsv_3, gsv_3, hsv_3⟩ := hstr_h0.2.2
    refine vk_getf hx hb gsv_3 hS hown (htw (.fieldLink RJ0 9 "java/lang/String" "value" "[B") (jWr_5 _ (List.mem_of_getElem? (i := 17) rfl))) (fun _ h9 => h9) dJ0_charAt_5068e_8 ?_
    refine lv_iload_n hx hb dJ0_charAt_5068e_11 rfl (lv_at hl 1 rfl) ?_
    refine vp_callSi (W.runS (As := [.ref sv_3, .int a1]) (rest := []) ⟨hx, hb, hml, hown, hts⟩ (wJ1_charAt_3b067 l dC dI ca base s.heap sv_3 n fsv_3 a1) (va_cwS 2 hts (jgS (jWr_6 _ (List.mem_of_getElem? (i := 8) rfl)) (jWr_6 _ (List.mem_of_getElem? (i := 9) rfl)) (jWr_6 _ (List.mem_of_getElem? (i := 10) rfl)) (jWr_6 _ (List.mem_of_getElem? (i := 11) rfl))) rfl rfl rfl (by decide +kernel) ⟨by rw [← hR]; exact Nat.le_of_ble_eq_true rfl, by rw [← hR]; exact Nat.le_of_ble_eq_true rfl⟩) ⟨fun a U g mk q => by obtain ⟨q0, q1, q2, qK, q9⟩ := q; exact ⟨q0, q1, (q2.moved (Vm.Alike.refl U.vm)), jG.calling g mk a qK, q9⟩, fun U hU hW => ⟨rfl, hU, (hsv_3.moved hW.alike).kept hS.2.1, hG.step hW hU hS, ⟨by omega, by omega, by omega⟩⟩⟩ rfl rfl hl.1 rfl (lv_room (Nat.le_of_ble_eq_true rfl)) dJ0_charAt_5068e_12 ⟨Nat.zero_le _, Nat.zero_le _⟩) (fun r_4 hr_4 => ?_)
    rw [hQ]
    exact W.zret (v := r_4) hx hb hr (jb_nch hr_4.1 hr_4.2) (fun t ht hW => ⟨r_4, rfl, by first | trivial | omega | (constructor <;> omega), ht⟩) (fun _ h => nomatch h) dJ0_charAt_5068e_15
set_option maxHeartbeats 4000000 in
set_option maxRecDepth 20000 in
theorem wX0_isHigh (l : Launch) (dC : Nat → ClassId) (dI : Nat → Nat → Nat) (ca : Nat → ClassId) (base : Nat) (H0 : Heap) (a0 : Int32) : Met l yX0_isHigh (jw yX0_isHigh cX0_isHigh 1 (some .boolean)) ({ frames := 0, cells := 0, slots := 0, locals := 0 }) (va_Pc [.int a0] (fun U => U.heap = H0 ∧ jG dC dI ca base U ∧ (True))) (vp_Si (fun r => r = 0 ∨ r = 1)) 0 0 (fun _ => False) := by
  refine Met.ofW (cc := cX0_isHigh) (maxL := 1) (ret := (some .boolean)) (by decide) rfl ?_
  intro p e s m args below meth c s₁ B hml hv
  obtain ⟨rfl, hH0, hG, hpre⟩ := hv
  have hK := hG.1
  have hx := B.exec
  have hb := B.bytes
  have hr := B.returns
  have hts := atoms_spec (ws := (jw yX0_isHigh cX0_isHigh 1 (some .boolean))) B.pre
  have htw : ∀ w ∈ jWl, w.before _ s = true := fun w h => hts w (List.mem_cons_of_mem _ h)
  have hown : s.vm.findClass RX0 = some m.cls := findClass_of_methodNamed B.named
  have hlocks := B.notSynchronized
  obtain ⟨Q, hQ⟩ : ∃ Q, Q = MQ below (vp_Si (fun r => r = 0 ∨ r = 1)) ([.int a0] : List Value).toArray s 0 0 (fun _ => False) := ⟨_, rfl⟩
  rw [← hQ]
  have hl := lv_entry ([.int a0]) (n := 1) (Nat.le_of_ble_eq_true rfl)
  rw [lg_entry_eq]
  generalize (lg_sl ([.int a0]) ++ List.replicate (1 - (lg_sl ([.int a0])).length) Slot.unset).toArray = ls at hl ⊢
  have hl : lv_has ls 1 [(0, .int a0)] := hl
  generalize hR : (headSpec (jw yX0_isHigh cX0_isHigh 1 (some .boolean)) ({ frames := 0, cells := 0, slots := 0, locals := 0 })).room = R
  subst hH0
  have hS : va_S (jA base) s.heap s.heap [] := va_S.rf
  have hk0 : (0 : Int32).toInt = 0 := by decide
  have hk1 : (1 : Int32).toInt = 1 := by decide
  refine lv_iload_n hx hb dX0_isHigh_0 rfl (lv_at hl 0 rfl) ?_
  refine lv_ldc hx hb hown (htw (.constant RX0 61 55296) (jWr_20 _ (List.mem_of_getElem? (i := 17) rfl))) dX0_isHigh_1 ?_
  refine lv_icmp_lt (tgt := 16) hx hb dX0_isHigh_3 (by decide) (fun c_1 => ?_) (fun c_1 => ?_)
  · skip
    have c_1' : a0.toInt < 55296 := jb_lt (rfl) ((by decide)) c_1
    refine lv_iconst (v := 0) hx hb dX0_isHigh_16 (by decide) ?_
    rw [hQ]
    exact W.zret (v := 0) hx hb hr (jb_nz (Or.inl rfl)) (fun t ht hW => ⟨0, rfl, by first | exact Or.inl rfl | exact Or.inr rfl | assumption, ht⟩) (fun _ h => nomatch h) dX0_isHigh_17
  · skip
    have c_1' : a0.toInt ≥ 55296 := jb_lt_n (rfl) ((by decide)) c_1
    refine lv_iload_n hx hb dX0_isHigh_6 rfl (lv_at hl 0 rfl) ?_
    refine lv_ldc hx hb hown (htw (.constant RX0 62 56320) (jWr_21 _ (List.mem_of_getElem? (i := 12) rfl))) dX0_isHigh_7 ?_
    refine lv_icmp_ge (tgt := 16) hx hb dX0_isHigh_9 (by decide) (fun c_2 => ?_) (fun c_2 => ?_)
    · skip
      have c_2' : a0.toInt ≥ 56320 := jb_ge (rfl) ((by decide)) c_2
      refine lv_iconst (v := 0) hx hb dX0_isHigh_16 (by decide) ?_
      rw [hQ]
      exact W.zret (v := 0) hx hb hr (jb_nz (Or.inl rfl)) (fun t ht hW => ⟨0, rfl, by first | exact Or.inl rfl | exact Or.inr rfl | assumption, ht⟩) (fun _ h => nomatch h) dX0_isHigh_17
    · skip
      have c_2' : a0.toInt < 56320 := jb_ge_n (rfl) ((by decide)) c_2
      refine lv_iconst (v := 1) hx hb dX0_isHigh_12 (by decide) ?_
      refine lv_goto (tgt := 17) hx hb dX0_isHigh_13 (by decide) ?_
      rw [hQ]
      exact W.zret (v := 1) hx hb hr (jb_nz (Or.inr rfl)) (fun t ht hW => ⟨1, rfl, by first | exact Or.inl rfl | exact Or.inr rfl | assumption, ht⟩) (fun _ h => nomatch h) dX0_isHigh_17
set_option maxHeartbeats 4000000 in
set_option maxRecDepth 20000 in
theorem wX0_isLow (l : Launch) (dC : Nat → ClassId) (dI : Nat → Nat → Nat) (ca : Nat → ClassId) (base : Nat) (H0 : Heap) (a0 : Int32) : Met l yX0_isLow (jw yX0_isLow cX0_isLow 1 (some .boolean)) ({ frames := 0, cells := 0, slots := 0, locals := 0 }) (va_Pc [.int a0] (fun U => U.heap = H0 ∧ jG dC dI ca base U ∧ (True))) (vp_Si (fun r => r = 0 ∨ r = 1)) 0 0 (fun _ => False) := by
  refine Met.ofW (cc := cX0_isLow) (maxL := 1) (ret := (some .boolean)) (by decide) rfl ?_
  intro p e s m args below meth c s₁ B hml hv
  obtain ⟨rfl, hH0, hG, hpre⟩ := hv
  have hK := hG.1
  have hx := B.exec
  have hb := B.bytes
  have hr := B.returns
  have hts := atoms_spec (ws := (jw yX0_isLow cX0_isLow 1 (some .boolean))) B.pre
  have htw : ∀ w ∈ jWl, w.before _ s = true := fun w h => hts w (List.mem_cons_of_mem _ h)
  have hown : s.vm.findClass RX0 = some m.cls := findClass_of_methodNamed B.named
  have hlocks := B.notSynchronized
  obtain ⟨Q, hQ⟩ : ∃ Q, Q = MQ below (vp_Si (fun r => r = 0 ∨ r = 1)) ([.int a0] : List Value).toArray s 0 0 (fun _ => False) := ⟨_, rfl⟩
  rw [← hQ]
  have hl := lv_entry ([.int a0]) (n := 1) (Nat.le_of_ble_eq_true rfl)
  rw [lg_entry_eq]
  generalize (lg_sl ([.int a0]) ++ List.replicate (1 - (lg_sl ([.int a0])).length) Slot.unset).toArray = ls at hl ⊢
  have hl : lv_has ls 1 [(0, .int a0)] := hl
  generalize hR : (headSpec (jw yX0_isLow cX0_isLow 1 (some .boolean)) ({ frames := 0, cells := 0, slots := 0, locals := 0 })).room = R
  subst hH0
  have hS : va_S (jA base) s.heap s.heap [] := va_S.rf
  have hk0 : (0 : Int32).toInt = 0 := by decide
  have hk1 : (1 : Int32).toInt = 1 := by decide
  refine lv_iload_n hx hb dX0_isLow_0 rfl (lv_at hl 0 rfl) ?_
  refine lv_ldc hx hb hown (htw (.constant RX0 62 56320) (jWr_21 _ (List.mem_of_getElem? (i := 12) rfl))) dX0_isLow_1 ?_
  refine lv_icmp_lt (tgt := 16) hx hb dX0_isLow_3 (by decide) (fun c_1 => ?_) (fun c_1 => ?_)
  · skip
    have c_1' : a0.toInt < 56320 := jb_lt (rfl) ((by decide)) c_1
    refine lv_iconst (v := 0) hx hb dX0_isLow_16 (by decide) ?_
    rw [hQ]
    exact W.zret (v := 0) hx hb hr (jb_nz (Or.inl rfl)) (fun t ht hW => ⟨0, rfl, by first | exact Or.inl rfl | exact Or.inr rfl | assumption, ht⟩) (fun _ h => nomatch h) dX0_isLow_17
  · skip
    have c_1' : a0.toInt ≥ 56320 := jb_lt_n (rfl) ((by decide)) c_1
    refine lv_iload_n hx hb dX0_isLow_6 rfl (lv_at hl 0 rfl) ?_
    refine lv_ldc hx hb hown (htw (.constant RX0 73 57344) (jWr_20 _ (List.mem_of_getElem? (i := 18) rfl))) dX0_isLow_7 ?_
    refine lv_icmp_ge (tgt := 16) hx hb dX0_isLow_9 (by decide) (fun c_2 => ?_) (fun c_2 => ?_)
    · skip
      have c_2' : a0.toInt ≥ 57344 := jb_ge (rfl) ((by decide)) c_2
      refine lv_iconst (v := 0) hx hb dX0_isLow_16 (by decide) ?_
      rw [hQ]
      exact W.zret (v := 0) hx hb hr (jb_nz (Or.inl rfl)) (fun t ht hW => ⟨0, rfl, by first | exact Or.inl rfl | exact Or.inr rfl | assumption, ht⟩) (fun _ h => nomatch h) dX0_isLow_17
    · skip
      have c_2' : a0.toInt < 57344 := jb_ge_n (rfl) ((by decide)) c_2
      refine lv_iconst (v := 1) hx hb dX0_isLow_12 (by decide) ?_
      refine lv_goto (tgt := 17) hx hb dX0_isLow_13 (by decide) ?_
      rw [hQ]
      exact W.zret (v := 1) hx hb hr (jb_nz (Or.inr rfl)) (fun t ht hW => ⟨1, rfl, by first | exact Or.inl rfl | exact Or.inr rfl | assumption, ht⟩) (fun _ h => nomatch h) dX0_isLow_17
end
section
-- new cells: an array of ints that is typed at once
section J11
variable {p : Program} {l : Launch} {e : Env} {R : Room} {s : State} {m : MethodId} {args : Array Value} {below : List Frame} {meth : Method} {c : Code} {H : Heap} {locs : List Loc} {cells slots : Nat} {Q : State → Prop}
variable {cc : ByteArray} {pc : Nat} {ls : Array Slot} {rest : List Value} {dC : Nat → ClassId} {dI : Nat → Nat → Nat} {ca : Nat → ClassId} {B : jF} {base : Nat} {G0 G : jT} {E : List (Nat × Nat)} {H0 : Heap} {zc zs : Nat} {L : List jPin} {M : List jCt} {I : List jIv} {k n : Nat} {P : Nat → Int32 → Prop} {cA : ClassId} {tys : List (ClassId × FieldType)}
theorem jf.lt {D : va_G} {k a i : Nat} {v : Value} {H : Heap} (h : jf D k a i v H) : a < H.size := by
  obtain ⟨r, -, -, cell, g, -⟩ := h
  exact (Array.getElem?_eq_some_iff.mp g).1
theorem jSt.new (hh : jSt (dC, dI) B base G0 G E H0 zc zs L M I H locs) (hB : jBok B) (hb0 : base ≤ H.size) {H1 : Heap} (hsz : H1.size = H.size + 1) (hfr : ∀ q, q < H.size → H1[q]? = H[q]?) {w : Nat} (hT : jTot H1 = jTot H + w) (hk : k < 1000) (hb : B k n (va_up G H.size (some (k, n))) H.size H1) : jSt (dC, dI) B base G0 (va_up G H.size (some (k, n))) E H0 (zc + 1) (zs + w) L M I H1 locs := by
  obtain ⟨h1, h2, h3, h4, h5, h6, h7, h8, h9⟩ := hh
  have hn := h2.fresh
  have hle : jLe G (va_up G H.size (some (k, n))) := jLe.new hn
  have key : ∀ kb b ib v, jf (dC, dI) kb b ib v H → jf (dC, dI) kb b ib v H1 := fun kb b ib v hf => hf.kept (hfr b hf.lt)
  have hX1 := (h2.grow hB (k, n) hb0 hsz hfr).cls (jUp_self) hb
  refine ⟨⟨by rw [hsz]; exact Nat.le_succ_of_le h1.1, fun q g1 g2 => (hfr q (Nat.lt_of_lt_of_le g1 h1.1)).trans (h1.2.1 q g1 g2), h1.2.2⟩, hX1, fun q hq => ?_, ⟨fun a kb nb ib v ha he hf => key kb a ib v (h4.1 a kb nb ib v ha he hf), fun a kb nb ha g1 g2 he => ?_⟩, h5.tr hle, by omega, by omega, fun q hq => ?_, fun q hq => ?_⟩
  · obtain ⟨⟨nq, g1⟩, g2⟩ := h3 q hq
    exact ⟨⟨nq, hle _ _ g1⟩, key _ _ _ _ g2⟩
  · exact (hfr a (h2.2 _ _ (h5 _ _ ha)).2).trans (h4.2 a kb nb ha g1 g2 he)
  · obtain ⟨g1, g2, g3, g4⟩ := h8 q hq
    exact ⟨hle _ _ g1, g2, g3, g4.kept (hfr _ (h2.2 _ _ g1).2)⟩
  · obtain ⟨g1, g2⟩ := h9 q hq
    have hag : ∀ Ha Hb, jAg (dC, dI) (va_up G H.size (some (k, n))) q.1 Ha Hb → jAg (dC, dI) G q.1 Ha Hb := fun Ha Hb hA => ⟨fun a kb nb ib v ha => hA.1 a kb nb ib v (hle _ _ ha), fun a kb nb ha => hA.2 a kb nb (hle _ _ ha)⟩
    refine ⟨g2 H H1 ⟨fun a kb nb ib v _ _ hf => key kb a ib v hf, fun a kb nb ha _ _ _ => hfr a (h2.2 _ _ ha).2⟩ g1, fun Ha Hb hA => g2 Ha Hb (hag Ha Hb hA)⟩
/-- what a method that makes cells leaves -/
def jRa (D : va_G) (B : jF) (base : Nat) (G0 G1 : jT) (E : List (Nat × Nat)) (H0 : Heap) (zc zs : Nat) (M : List jPin) (H1 : Heap) : Prop := jX B base G1 [] H1 ∧ jLe G0 G1 ∧ jKp D G0 E H0 H1 ∧ H1.size ≤ H0.size + zc ∧ jTot H1 ≤ jTot H0 + zs ∧ jP D G1 H1 M
theorem jSt.ra (hh : jSt (dC, dI) B base G0 G E H0 zc zs L M I H locs) {zc1 zs1 : Nat} (hc : zc ≤ zc1) (hs1 : zs ≤ zs1) {M1 : List jPin} (is : List Nat) (hs : is.map (fun i => L[i]?) = M1.map some) {t : State} (ht : t.heap = H) : jRa (dC, dI) B base G0 G E H0 zc1 zs1 M1 t.heap := by
  rw [ht]
  obtain ⟨h1, h2, h3, h4, h5, h6, h7, h8, h9⟩ := hh
  exact ⟨h2, h5, h4, by omega, by omega, h3.sub is hs⟩
end J11
end
section
-- formulas of the reference's kernel as rows of numbers: what a node is, its size, likeness, counting, putting in
abbrev jK : Type := (Nat → Int32) × (Nat → Int32) × (Nat → Int32) × (Nat → Int32) × (Nat → Int32) × (Nat → Int32)
abbrev jK.s (C : jK) : Nat → Int32 := C.1
abbrev jK.n (C : jK) : Nat → Int32 := C.2.1
abbrev jK.a (C : jK) : Nat → Int32 := C.2.2.1
abbrev jK.b (C : jK) : Nat → Int32 := C.2.2.2.1
abbrev jK.c (C : jK) : Nat → Int32 := C.2.2.2.2.1
abbrev jK.y (C : jK) : Nat → Int32 := C.2.2.2.2.2
abbrev jK.mk (s n a b c y : Nat → Int32) : jK := (s, n, a, b, c, y)
def jSo (f : Nat → Int32) (n : Int) : Int := (f n.toNat).toInt
def jPts (C : jK) (n : Int) : Int := if jSo C.s n = 7 ∨ jSo C.s n = 8 then jSo C.y (jSo C.n n) else if jSo C.s n ≤ 2 ∨ jSo C.s n = 6 then 2 else if jSo C.s n = 4 ∨ jSo C.s n = 5 then 1 else 0
def jPr (C : jK) (n k : Int) : Int := if k = 0 then jSo C.a n else if k = 1 then jSo C.b n else jSo C.c n
def jQf (C : jK) (n : Int) : Int := if jSo C.s n = 4 ∨ jSo C.s n = 5 then 1 else 0
/-- a node of a formula: N nodes, Y symbols, b names that are bound around it -/
def jNd (C : jK) (N Y b n : Int) : Prop := 0 ≤ n ∧ n < N ∧ 0 ≤ jSo C.s n ∧ jSo C.s n ≤ 10 ∧ (jSo C.s n = 7 ∨ jSo C.s n = 8 → 0 ≤ jSo C.n n ∧ jSo C.n n < Y) ∧ (jSo C.s n = 10 → 0 ≤ jSo C.n n ∧ jSo C.n n < b) ∧ (jSo C.s n = 9 ∨ jSo C.s n = 4 ∨ jSo C.s n = 5 → 0 ≤ jSo C.n n ∧ jSo C.n n ≤ 1599) ∧ 0 ≤ jPts C n ∧ jPts C n ≤ 3
def jFm (C : jK) (N Y : Int) : Nat → Int → Int → Prop
  | 0, _, _ => False
  | d + 1, b, n => jNd C N Y b n ∧ ∀ k : Int, 0 ≤ k → k < jPts C n → jFm C N Y d (b + jQf C n) (jPr C n k)
def jSzF (C : jK) : Nat → Int → Int
  | 0, _ => 0
  | d + 1, n => 1 + (if 0 < jPts C n then jSzF C d (jPr C n 0) else 0) + (if 1 < jPts C n then jSzF C d (jPr C n 1) else 0) + (if 2 < jPts C n then jSzF C d (jPr C n 2) else 0)
def jsz (C : jK) (n : Int) : Int := jSzF C 4000 n
/-- the size of a node and its first k parts -/
def jSzK (C : jK) (n k : Int) : Int := 1 + (if 0 < k then jsz C (jPr C n 0) else 0) + (if 1 < k then jsz C (jPr C n 1) else 0) + (if 2 < k then jsz C (jPr C n 2) else 0)
theorem jFm.nd {C : jK} {N Y b n : Int} {d : Nat} (h : jFm C N Y d b n) : jNd C N Y b n := by
  cases d with
  | zero => exact h.elim
  | succ d => exact h.1
theorem jFm.pos {C : jK} {N Y b n : Int} {d : Nat} (h : jFm C N Y d b n) : 1 ≤ d := by
  cases d with
  | zero => exact h.elim
  | succ d => omega
theorem jFm.part {C : jK} {N Y b n : Int} {d : Nat} (h : jFm C N Y d b n) {k : Int} (h0 : 0 ≤ k) (h1 : k < jPts C n) : jFm C N Y (d - 1) (b + jQf C n) (jPr C n k) := by
  cases d with
  | zero => exact h.elim
  | succ d => exact h.2 k h0 h1
theorem jFm.mono {C : jK} {N Y : Int} {d : Nat} : ∀ {b n : Int}, jFm C N Y d b n → ∀ {d1 : Nat} {b1 : Int}, d ≤ d1 → b ≤ b1 → jFm C N Y d1 b1 n := by
  induction d with
  | zero => intro b n h; exact h.elim
  | succ d ih =>
    intro b n h d1 b1 hd hb
    cases d1 with
    | zero => omega
    | succ d1 =>
      obtain ⟨⟨h1, h2, h3, h4, h5, h6, h7, h8⟩, hp⟩ := h
      exact ⟨⟨h1, h2, h3, h4, h5, fun q => ⟨(h6 q).1, by have := (h6 q).2; omega⟩, h7, h8⟩, fun k g0 g1 => ih (hp k g0 g1) (by omega) (by omega)⟩
theorem jSzF_fuel {C : jK} {N Y : Int} {d : Nat} : ∀ {b n : Int}, jFm C N Y d b n → ∀ d1, d ≤ d1 → jSzF C d1 n = jSzF C d n := by
  induction d with
  | zero => intro b n h; exact h.elim
  | succ d ih =>
    intro b n h d1 hd
    cases d1 with
    | zero => omega
    | succ d1 =>
      have e : ∀ k, 0 ≤ k → k < jPts C n → jSzF C d1 (jPr C n k) = jSzF C d (jPr C n k) := fun k g0 g1 => ih (h.2 k g0 g1) d1 (by omega)
      unfold jSzF
      have e0 : (if 0 < jPts C n then jSzF C d1 (jPr C n 0) else 0) = (if 0 < jPts C n then jSzF C d (jPr C n 0) else 0) := by split; exact e 0 (by omega) (by omega); rfl
      have e1 : (if 1 < jPts C n then jSzF C d1 (jPr C n 1) else 0) = (if 1 < jPts C n then jSzF C d (jPr C n 1) else 0) := by split; exact e 1 (by omega) (by omega); rfl
      have e2 : (if 2 < jPts C n then jSzF C d1 (jPr C n 2) else 0) = (if 2 < jPts C n then jSzF C d (jPr C n 2) else 0) := by split; exact e 2 (by omega) (by omega); rfl
      rw [e0, e1, e2]
theorem jsz_step {C : jK} {N Y b n : Int} {d : Nat} (h : jFm C N Y d b n) (hd : d ≤ 4000) : jsz C n = jSzK C n (jPts C n) := by
  unfold jsz jSzK
  have e : ∀ k, 0 ≤ k → k < jPts C n → jSzF C 3999 (jPr C n k) = jsz C (jPr C n k) := fun k g0 g1 => by
    have hp := h.part g0 g1
    unfold jsz
    rw [jSzF_fuel hp 3999 (by omega), jSzF_fuel hp 4000 (by omega)]
  show 1 + (if 0 < jPts C n then jSzF C 3999 (jPr C n 0) else 0) + (if 1 < jPts C n then jSzF C 3999 (jPr C n 1) else 0) + (if 2 < jPts C n then jSzF C 3999 (jPr C n 2) else 0) = _
  have e0 : (if 0 < jPts C n then jSzF C 3999 (jPr C n 0) else 0) = (if 0 < jPts C n then jsz C (jPr C n 0) else 0) := by split; exact e 0 (by omega) (by omega); rfl
  have e1 : (if 1 < jPts C n then jSzF C 3999 (jPr C n 1) else 0) = (if 1 < jPts C n then jsz C (jPr C n 1) else 0) := by split; exact e 1 (by omega) (by omega); rfl
  have e2 : (if 2 < jPts C n then jSzF C 3999 (jPr C n 2) else 0) = (if 2 < jPts C n then jsz C (jPr C n 2) else 0) := by split; exact e 2 (by omega) (by omega); rfl
  rw [e0, e1, e2]
theorem jSzF_nn {C : jK} : ∀ (d : Nat) (n : Int), 0 ≤ jSzF C d n := by
  intro d
  induction d with
  | zero => intro n; unfold jSzF; omega
  | succ d ih =>
    intro n
    have h0 := ih (jPr C n 0); have h1 := ih (jPr C n 1); have h2 := ih (jPr C n 2)
    unfold jSzF
    split <;> split <;> split <;> omega
theorem jsz_nn (C : jK) (n : Int) : 0 ≤ jsz C n := jSzF_nn _ _
theorem jsz_pos {C : jK} {N Y b n : Int} {d : Nat} (_ : jFm C N Y d b n) : 1 ≤ jsz C n := by
  unfold jsz
  show 1 ≤ 1 + (if 0 < jPts C n then jSzF C 3999 (jPr C n 0) else 0) + (if 1 < jPts C n then jSzF C 3999 (jPr C n 1) else 0) + (if 2 < jPts C n then jSzF C 3999 (jPr C n 2) else 0)
  have h0 := jSzF_nn (C := C) 3999 (jPr C n 0); have h1 := jSzF_nn (C := C) 3999 (jPr C n 1); have h2 := jSzF_nn (C := C) 3999 (jPr C n 2)
  split <;> split <;> split <;> omega
theorem jSzK_0 (C : jK) (n : Int) : jSzK C n 0 = 1 := by unfold jSzK; simp
theorem jSzK_s (C : jK) (n : Int) {k : Int} (h0 : 0 ≤ k) (h1 : k ≤ 2) : jSzK C n (k + 1) = jSzK C n k + jsz C (jPr C n k) := by
  have h : k = 0 ∨ k = 1 ∨ k = 2 := by omega
  unfold jSzK
  rcases h with rfl | rfl | rfl <;> simp <;> omega
theorem jSzK_le (C : jK) (n : Int) {k p : Int} (h0 : 0 ≤ k) (h1 : k ≤ p) : jSzK C n k ≤ jSzK C n p := by
  have g0 := jsz_nn C (jPr C n 0); have g1 := jsz_nn C (jPr C n 1); have g2 := jsz_nn C (jPr C n 2)
  unfold jSzK
  split <;> split <;> split <;> split <;> split <;> split <;> omega
theorem jsz_part {C : jK} {N Y b n : Int} {d : Nat} (h : jFm C N Y d b n) (hd : d ≤ 4000) {k : Int} (h0 : 0 ≤ k) (h1 : k < jPts C n) : jsz C (jPr C n k) + 1 ≤ jsz C n := by
  have h9 := h.nd
  have hp : jPts C n ≤ 3 := h9.2.2.2.2.2.2.2.2
  rw [jsz_step h hd]
  have h2 := jSzK_le C n (k := k + 1) (p := jPts C n) (by omega) (by omega)
  rw [jSzK_s C n h0 (by omega)] at h2
  have h3 := jSzK_le C n (k := 0) (p := k) (by omega) h0
  rw [jSzK_0] at h3
  omega
/-- as deep as large at most -/
theorem jFm.tight {C : jK} {N Y : Int} {d : Nat} (hd : d ≤ 4000) : ∀ {b n : Int}, jFm C N Y d b n → ∀ e : Nat, jsz C n ≤ e → jFm C N Y e b n := by
  induction d with
  | zero => intro b n h; exact h.elim
  | succ d ih =>
    intro b n h e he
    have h1 := jsz_pos h
    cases e with
    | zero => exact absurd he (by omega)
    | succ e => exact ⟨h.1, fun k g0 g1 => ih (by omega) (h.2 k g0 g1) e (by have := jsz_part h (by omega) g0 g1; omega)⟩
-- the same rows below N
def jAgK (C D : jK) (N : Int) : Prop := (∀ j : Nat, (j : Int) < N → D.s j = C.s j ∧ D.n j = C.n j ∧ D.a j = C.a j ∧ D.b j = C.b j ∧ D.c j = C.c j) ∧ ∀ j, D.y j = C.y j
theorem jAgK.rf (C : jK) (N : Int) : jAgK C C N := ⟨fun _ _ => ⟨rfl, rfl, rfl, rfl, rfl⟩, fun _ => rfl⟩
theorem jAgK.tr {C D E : jK} {N M : Int} (h : jAgK C D N) (h1 : jAgK D E M) (hm : N ≤ M) : jAgK C E N := ⟨fun j hj => by
  obtain ⟨a1, a2, a3, a4, a5⟩ := h.1 j hj
  obtain ⟨b1, b2, b3, b4, b5⟩ := h1.1 j (by omega)
  exact ⟨b1.trans a1, b2.trans a2, b3.trans a3, b4.trans a4, b5.trans a5⟩, fun j => (h1.2 j).trans (h.2 j)⟩
theorem jAgK.so {C D : jK} {N n : Int} (h : jAgK C D N) (h0 : 0 ≤ n) (h1 : n < N) : jSo D.s n = jSo C.s n ∧ jSo D.n n = jSo C.n n ∧ jSo D.a n = jSo C.a n ∧ jSo D.b n = jSo C.b n ∧ jSo D.c n = jSo C.c n := by
  obtain ⟨a1, a2, a3, a4, a5⟩ := h.1 n.toNat (by omega)
  unfold jSo
  exact ⟨by rw [a1], by rw [a2], by rw [a3], by rw [a4], by rw [a5]⟩
theorem jAgK.pts {C D : jK} {N n : Int} (h : jAgK C D N) (h0 : 0 ≤ n) (h1 : n < N) : jPts D n = jPts C n := by
  obtain ⟨a1, a2, a3, a4, a5⟩ := h.so h0 h1
  unfold jPts
  rw [a1, a2]
  have e : jSo D.y (jSo C.n n) = jSo C.y (jSo C.n n) := by unfold jSo; rw [h.2]
  rw [e]
theorem jAgK.pr {C D : jK} {N n : Int} (h : jAgK C D N) (h0 : 0 ≤ n) (h1 : n < N) (k : Int) : jPr D n k = jPr C n k := by
  obtain ⟨a1, a2, a3, a4, a5⟩ := h.so h0 h1
  unfold jPr
  rw [a3, a4, a5]
theorem jAgK.qf {C D : jK} {N n : Int} (h : jAgK C D N) (h0 : 0 ≤ n) (h1 : n < N) : jQf D n = jQf C n := by
  unfold jQf
  rw [(h.so h0 h1).1]
theorem jFm.ag {C D : jK} {N M Y : Int} (hA : jAgK C D N) (hM : N ≤ M) {d : Nat} : ∀ {b n : Int}, jFm C N Y d b n → jFm D M Y d b n := by
  induction d with
  | zero => intro b n h; exact h.elim
  | succ d ih =>
    intro b n h
    obtain ⟨⟨h1, h2, h3, h4, h5, h6, h7, h8, h9⟩, hp⟩ := h
    obtain ⟨a1, a2, -⟩ := hA.so h1 h2
    have ap := hA.pts h1 h2
    refine ⟨⟨h1, by omega, ?_, ?_, ?_, ?_, ?_, ?_, ?_⟩, fun k g0 g1 => ?_⟩
    · rw [a1]; exact h3
    · rw [a1]; exact h4
    · rw [a1, a2]; exact h5
    · rw [a1, a2]; exact h6
    · rw [a1, a2]; exact h7
    · rw [ap]; exact h8
    · rw [ap]; exact h9
    · rw [hA.qf h1 h2, hA.pr h1 h2]; exact ih (hp k g0 (by rw [ap] at g1; exact g1))
theorem jSzF_ag {C D : jK} {N Y : Int} (hA : jAgK C D N) {d : Nat} : ∀ {b n : Int}, jFm C N Y d b n → ∀ e, jSzF D e n = jSzF C e n := by
  induction d with
  | zero => intro b n h; exact h.elim
  | succ d ih =>
    intro b n h e
    have h1 := h.nd.1; have h2 := h.nd.2.1
    cases e with
    | zero => rfl
    | succ e =>
      unfold jSzF
      rw [hA.pts h1 h2]
      have ee : ∀ k, 0 ≤ k → k < jPts C n → jSzF D e (jPr D n k) = jSzF C e (jPr C n k) := fun k g0 g1 => by rw [hA.pr h1 h2]; exact ih (h.2 k g0 g1) e
      have e0 : (if 0 < jPts C n then jSzF D e (jPr D n 0) else 0) = (if 0 < jPts C n then jSzF C e (jPr C n 0) else 0) := by split; exact ee 0 (by omega) (by omega); rfl
      have e1 : (if 1 < jPts C n then jSzF D e (jPr D n 1) else 0) = (if 1 < jPts C n then jSzF C e (jPr C n 1) else 0) := by split; exact ee 1 (by omega) (by omega); rfl
      have e2 : (if 2 < jPts C n then jSzF D e (jPr D n 2) else 0) = (if 2 < jPts C n then jSzF C e (jPr C n 2) else 0) := by split; exact ee 2 (by omega) (by omega); rfl
      rw [e0, e1, e2]
theorem jsz_ag {C D : jK} {N Y b n : Int} {d : Nat} (hA : jAgK C D N) (h : jFm C N Y d b n) : jsz D n = jsz C n := jSzF_ag hA h 4000
-- likeness
/-- the terms that are put in -/
def jTs (C : jK) (N Y : Int) (e : Nat) (T : Nat → Int32) (m : Int) : Prop := ∀ k : Int, 0 ≤ k → k < m → jFm C N Y e 0 (jSo T k) ∧ jsz C (jSo T k) ≤ 5000
theorem jTs.ag {C D : jK} {N M Y m : Int} {e : Nat} {T : Nat → Int32} (h : jTs C N Y e T m) (hA : jAgK C D N) (hM : N ≤ M) : jTs D M Y e T m := fun k g0 g1 => ⟨(h k g0 g1).1.ag hA hM, by rw [jsz_ag hA (h k g0 g1).1]; exact (h k g0 g1).2⟩
def jNw (C D : jK) (N ws wn wa wb wc : Int) : Prop := jAgK C D N ∧ jSo D.s N = ws ∧ jSo D.n N = wn ∧ jSo D.a N = wa ∧ jSo D.b N = wb ∧ jSo D.c N = wc
theorem jFm.wide {C : jK} {N Y N1 Y1 : Int} (hN : N ≤ N1) (hY : Y ≤ Y1) {d : Nat} : ∀ {b n : Int}, jFm C N Y d b n → jFm C N1 Y1 d b n := by
  induction d with
  | zero => intro b n h; exact h.elim
  | succ d ih =>
    intro b n h
    obtain ⟨⟨h1, h2, h3, h4, h5, h6⟩, hp⟩ := h
    exact ⟨⟨h1, by omega, h3, h4, fun q => ⟨(h5 q).1, by have := (h5 q).2; omega⟩, h6⟩, fun k g0 g1 => ih (hp k g0 g1)⟩
/-- a formula of some depth at most, whatever is bound around it -/
def jTr (C : jK) (d : Nat) (n : Int) : Prop := ∃ b, jFm C 120000 16 d b n
theorem jFm.tr {C : jK} {N Y b n : Int} {d : Nat} (h : jFm C N Y d b n) (hN : N ≤ 120000) (hY : Y ≤ 16) : jTr C d n := ⟨b, h.wide hN hY⟩
theorem jTr.part {C : jK} {d : Nat} {n k : Int} (h : jTr C d n) (h0 : 0 ≤ k) (h1 : k < jPts C n) : jTr C (d - 1) (jPr C n k) := by obtain ⟨b, h⟩ := h; exact ⟨_, h.part h0 h1⟩
theorem jTr.mono {C : jK} {d d1 : Nat} {n : Int} (h : jTr C d n) (hd : d ≤ d1) : jTr C d1 n := by obtain ⟨b, h⟩ := h; exact ⟨b, h.mono hd (Int.le_refl b)⟩
theorem jTr.ok {C : jK} {d : Nat} {n : Int} (h : jTr C d n) : 0 ≤ n ∧ n < 120000 ∧ 0 ≤ jSo C.s n ∧ jSo C.s n ≤ 10 ∧ (jSo C.s n = 7 ∨ jSo C.s n = 8 → 0 ≤ jSo C.n n ∧ jSo C.n n < 16) ∧ 0 ≤ jPts C n ∧ jPts C n ≤ 3 ∧ 1 ≤ d := by
  obtain ⟨b, h⟩ := h
  obtain ⟨h1, h2, h3, h4, h5, h6, h7, h8, h9⟩ := h.nd
  exact ⟨h1, h2, h3, h4, h5, h8, h9, h.pos⟩
theorem jTr.step {C : jK} {d : Nat} {n : Int} (h : jTr C d n) (hd : d ≤ 4000) : jsz C n = jSzK C n (jPts C n) := by obtain ⟨b, h⟩ := h; exact jsz_step h hd
theorem jTr.pos {C : jK} {d : Nat} {n : Int} (h : jTr C d n) : 1 ≤ jsz C n := by obtain ⟨b, h⟩ := h; exact jsz_pos h
/-- terms that are found so far -/
def jTo (C : jK) (N Y : Int) (T : Nat → Int32) (m : Int) : Prop := ∀ k : Int, 0 ≤ k → k < m → jSo T k < 0 ∨ (jFm C N Y 80 0 (jSo T k) ∧ jsz C (jSo T k) ≤ 80)
theorem jTo.set {C : jK} {N Y m g x : Int} {T T1 : Nat → Int32} {n : Nat} (h : jTo C N Y T m) (ho : ∀ j, j < n → j ≠ x.toNat → T1 j = T j) (hv : jSo T1 x = g) (hx : 0 ≤ x) (hm : m ≤ n) (hg : jFm C N Y 80 0 g) (hs : jsz C g ≤ 80) : jTo C N Y T1 m := fun k h0 h1 => by
  by_cases e : k = x
  · rw [e, hv]; exact Or.inr ⟨hg, hs⟩
  · have e1 : jSo T1 k = jSo T k := by unfold jSo; rw [ho k.toNat (by omega) (by omega)]
    rw [e1]; exact h k h0 h1
section J12
variable {p : Program} {l : Launch} {e : Env} {R : Room} {s : State} {m : MethodId} {args : Array Value} {below : List Frame} {meth : Method} {c : Code} {H : Heap} {locs : List Loc} {cells slots : Nat} {Q : State → Prop}
variable {cc : ByteArray} {pc : Nat} {ls : Array Slot} {rest : List Value} {dC : Nat → ClassId} {dI : Nat → Nat → Nat} {ca : Nat → ClassId} {B : jF} {base : Nat} {G0 G : jT} {E : List (Nat × Nat)} {H0 : Heap} {zc zs : Nat} {L : List jPin} {M : List jCt} {I : List jIv} {a k n : Nat} {P : Nat → Int32 → Prop} {cA : ClassId} {tys : List (ClassId × FieldType)}
end J12
end
section
-- goals, hypotheses, facts of the reference's kernel: slots of arrays
def jUpd (n : Int) (f g : Nat → Int32) (i v : Int) : Prop := jSo g i = v ∧ ∀ j : Int, 0 ≤ j → j < n → j ≠ i → jSo g j = jSo f j
theorem jUpd.mk {n : Nat} {f g : Nat → Int32} {e i v : Int} (hv : jSo g e = v) (ho : ∀ j, j < n → j ≠ e.toNat → g j = f j) (he : e = i) (h0 : 0 ≤ i) : jUpd n f g i v := by
  subst he
  refine ⟨hv, fun j g0 g1 g2 => ?_⟩
  unfold jSo
  rw [ho j.toNat (by omega) (by omega)]
def jCpy (fg fh fp gg gh gp : Nat → Int32) (x y : Int) : Prop := jUpd 46 fg gg y (jSo fg x) ∧ jUpd 46 fh gh y (jSo fh x) ∧ (∀ i : Int, 0 ≤ i → i < 8 → jSo gp (8 * y + i) = jSo fp (8 * x + i)) ∧ ∀ j : Int, 0 ≤ j → j < 368 → (j < 8 * y ∨ 8 * y + 8 ≤ j) → jSo gp j = jSo fp j
def jPq (f g : Nat → Int32) (x y k : Int) : Prop := (∀ i : Int, 0 ≤ i → i < k → jSo g (8 * y + i) = jSo f (8 * x + i)) ∧ ∀ j : Int, 0 ≤ j → j < 368 → (j < 8 * y ∨ 8 * y + k ≤ j) → jSo g j = jSo f j
theorem jPq.rf (f : Nat → Int32) (x y : Int) : jPq f f x y 0 := ⟨fun i h0 h1 => by omega, fun _ _ _ _ => rfl⟩
theorem jPq.s {f g h : Nat → Int32} {x y k e e2 z : Int} (hq : jPq f g x y k) (hv : jSo h e = z) (ho : ∀ j, j < 368 → j ≠ e.toNat → h j = g j) (he : e = 8 * y + k) (hz : z = jSo g e2) (he2 : e2 = 8 * x + k) (hx : 0 ≤ x ∧ x ≤ 45) (hy : 0 ≤ y ∧ y ≤ 45) (hk : 0 ≤ k ∧ k < 8) : jPq f h x y (k + 1) := by
  have hU := jUpd.mk (n := 368) hv ho he (by omega)
  subst he2
  have e1 : jSo g (8 * x + k) = jSo f (8 * x + k) := hq.2 _ (by omega) (by omega) (by omega)
  refine ⟨fun i h0 h1 => ?_, fun j h0 h1 h2 => ?_⟩
  · by_cases q : i = k
    · rw [q, hU.1, hz, e1]
    · rw [hU.2 _ (by omega) (by omega) (by omega)]; exact hq.1 i h0 (by omega)
  · rw [hU.2 j h0 h1 (by omega)]; exact hq.2 j h0 h1 (by omega)
def jSe (fg fh fp gg gh gp : Nat → Int32) (i j : Int) : Prop := jSo gg j = jSo fg i ∧ jSo gh j = jSo fh i ∧ ∀ k : Int, 0 ≤ k → k < 8 → jSo gp (8 * j + k) = jSo fp (8 * i + k)
theorem jSe.rf (fg fh fp : Nat → Int32) (i : Int) : jSe fg fh fp fg fh fp i i := ⟨rfl, rfl, fun _ _ _ => rfl⟩
theorem jCpy.at {fg fh fp gg gh gp hg hh hp : Nat → Int32} {x y i : Int} (h : jCpy gg gh gp hg hh hp x y) (hs : jSe fg fh fp gg gh gp i x) : jSe fg fh fp hg hh hp i y := ⟨h.1.1.trans hs.1, h.2.1.1.trans hs.2.1, fun k g0 g1 => (h.2.2.1 k g0 g1).trans (hs.2.2 k g0 g1)⟩
theorem jCpy.off {fg fh fp gg gh gp hg hh hp : Nat → Int32} {x y i j : Int} (h : jCpy gg gh gp hg hh hp x y) (hs : jSe fg fh fp gg gh gp i j) (hj : 0 ≤ j) (hj1 : j ≤ 45) (hn : j ≠ y) (hy : 0 ≤ y) : jSe fg fh fp hg hh hp i j := ⟨(h.1.2 j hj (by omega) hn).trans hs.1, (h.2.1.2 j hj (by omega) hn).trans hs.2.1, fun k g0 g1 => (h.2.2.2 _ (by omega) (by omega) (by omega)).trans (hs.2.2 k g0 g1)⟩
def jT0 (fg fh fp gg gh gp : Nat → Int32) (p v : Int) : Prop := (∀ j : Int, 0 ≤ j → j < v → jSe fg fh fp gg gh gp (j + 1) j) ∧ ∀ j : Int, v ≤ j → j < p → jSe fg fh fp gg gh gp j j
theorem jT0.rf (fg fh fp : Nat → Int32) (p : Int) : jT0 fg fh fp fg fh fp p 0 := ⟨fun j h0 h1 => by omega, fun _ _ _ => jSe.rf _ _ _ _⟩
theorem jT0.s {fg fh fp gg gh gp hg hh hp : Nat → Int32} {p v x y : Int} (h : jT0 fg fh fp gg gh gp p v) (hc : jCpy gg gh gp hg hh hp x y) (hx : x = v + 1) (hy : y = v) (h0 : 0 ≤ v) (h1 : v + 1 < p) (h2 : p ≤ 46) : jT0 fg fh fp hg hh hp p (v + 1) := by
  subst hx; subst hy
  refine ⟨fun j g0 g1 => ?_, fun j g0 g1 => ?_⟩
  · by_cases q : j = y
    · rw [q]; exact hc.at (h.2 _ (by omega) h1)
    · exact hc.off (h.1 j g0 (by omega)) g0 (by omega) q h0
  · exact hc.off (h.2 j (by omega) g1) (by omega) (by omega) (by omega) h0
def jTu1 (fg fh fp gg gh gp : Nat → Int32) (p n v : Int) : Prop := (∀ j : Int, v < j → j < p → jSe fg fh fp gg gh gp j (j + n - 1)) ∧ ∀ j : Int, 0 ≤ j → j ≤ v → jSe fg fh fp gg gh gp j j
theorem jTu1.rf (fg fh fp : Nat → Int32) (p n : Int) : jTu1 fg fh fp fg fh fp p n (p - 1) := ⟨fun j h0 h1 => by omega, fun _ _ _ => jSe.rf _ _ _ _⟩
theorem jTu1.s {fg fh fp gg gh gp hg hh hp : Nat → Int32} {p n v x y : Int} (h : jTu1 fg fh fp gg gh gp p n v) (hc : jCpy gg gh gp hg hh hp x y) (hx : x = v) (hy : y = v + n - 1) (h0 : 0 < v) (h1 : v < p) (h3 : 1 ≤ n) (h2 : p + n ≤ 46) : jTu1 fg fh fp hg hh hp p n (v - 1) := by
  subst hx; subst hy
  refine ⟨fun j g0 g1 => ?_, fun j g0 g1 => ?_⟩
  · by_cases q : j = x
    · rw [q]; exact hc.at (h.2 _ (by omega) (by omega))
    · exact hc.off (h.1 j (by omega) g1) (by omega) (by omega) (by omega) (by omega)
  · exact hc.off (h.2 j g0 (by omega)) g0 (by omega) (by omega) (by omega)
def jTu2 (fg fh fp gg gh gp : Nat → Int32) (p n v : Int) : Prop := (∀ j : Int, 0 < j → j < p → jSe fg fh fp gg gh gp j (j + n - 1)) ∧ ∀ j : Int, 0 ≤ j → j < v → jSe fg fh fp gg gh gp 0 j
theorem jTu2.s {fg fh fp gg gh gp hg hh hp : Nat → Int32} {p n v x y : Int} (h : jTu2 fg fh fp gg gh gp p n v) (hc : jCpy gg gh gp hg hh hp x y) (hx : x = 0) (hy : y = v) (h0 : 1 ≤ v) (h1 : v < n) (h2 : p + n ≤ 46) (h3 : 0 ≤ p) : jTu2 fg fh fp hg hh hp p n (v + 1) := by
  subst hx; subst hy
  refine ⟨fun j g0 g1 => hc.off (h.1 j g0 g1) (by omega) (by omega) (by omega) (by omega), fun j g0 g1 => ?_⟩
  by_cases q : j = y
  · rw [q]; exact hc.at (h.2 0 (by omega) (by omega))
  · exact hc.off (h.2 j g0 (by omega)) g0 (by omega) q (by omega)
def jDq (f g : Nat → Int32) (x h v : Int) : Prop := (∀ k : Int, 0 ≤ k → k < 8 → (k < h ∨ v ≤ k → jSo g (8 * x + k) = jSo f (8 * x + k)) ∧ (h ≤ k ∧ k < v → jSo g (8 * x + k) = jSo f (8 * x + (k + 1)))) ∧ ∀ j : Int, 0 ≤ j → j < 368 → (j < 8 * x ∨ 8 * x + 8 ≤ j) → jSo g j = jSo f j
theorem jDq.rf (f : Nat → Int32) (x h : Int) : jDq f f x h h := ⟨fun k _ _ => ⟨fun _ => rfl, fun q => by omega⟩, fun _ _ _ _ => rfl⟩
theorem jDq.s {f g r : Nat → Int32} {x h v e e2 z : Int} (hq : jDq f g x h v) (hv : jSo r e = z) (ho : ∀ j, j < 368 → j ≠ e.toNat → r j = g j) (he : e = 8 * x + v) (hz : z = jSo g e2) (he2 : e2 = 8 * x + v + 1) (hx : 0 ≤ x ∧ x ≤ 45) (hh : 0 ≤ h ∧ h ≤ v ∧ v < 7) : jDq f r x h (v + 1) := by
  have hU := jUpd.mk (n := 368) hv ho he (by omega)
  have e1 := (hq.1 (v + 1) (by omega) (by omega)).1 (Or.inr (by omega))
  rw [show 8 * x + v + 1 = 8 * x + (v + 1) by omega] at he2
  subst he2
  refine ⟨fun k h0 h1 => ⟨fun q => ?_, fun q => ?_⟩, fun j h0 h1 h2 => ?_⟩
  · rw [hU.2 _ (by omega) (by omega) (by omega)]; exact (hq.1 k h0 h1).1 (by omega)
  · by_cases w : k = v
    · rw [w, hU.1, hz, e1]
    · rw [hU.2 _ (by omega) (by omega) (by omega)]; exact (hq.1 k h0 h1).2 (by omega)
  · rw [hU.2 j h0 h1 (by omega)]; exact hq.2 j h0 h1 h2
def jSl (P : Int → Prop) (fg fh fp : Nat → Int32) (g : Int) : Prop := P (jSo fg g) ∧ 0 ≤ jSo fh g ∧ jSo fh g ≤ 8 ∧ ∀ k : Int, 0 ≤ k → k < jSo fh g → P (jSo fp (8 * g + k))
def jGl (P : Int → Prop) (fg fh fp : Nat → Int32) (n : Int) : Prop := ∀ g : Int, 0 ≤ g → g < n → jSl P fg fh fp g
def jFa (P : Int → Prop) (ff : Nat → Int32) (n : Int) : Prop := ∀ k : Int, 0 ≤ k → k < n → P (jSo ff k)
theorem jSl.mono {P P1 : Int → Prop} {fg fh fp : Nat → Int32} {g : Int} (h : jSl P fg fh fp g) (hP : ∀ x, P x → P1 x) : jSl P1 fg fh fp g := ⟨hP _ h.1, h.2.1, h.2.2.1, fun k g0 g1 => hP _ (h.2.2.2 k g0 g1)⟩
theorem jGl.mono {P P1 : Int → Prop} {fg fh fp : Nat → Int32} {n : Int} (h : jGl P fg fh fp n) (hP : ∀ x, P x → P1 x) : jGl P1 fg fh fp n := fun g g0 g1 => (h g g0 g1).mono hP
theorem jFa.mono {P P1 : Int → Prop} {ff : Nat → Int32} {n : Int} (h : jFa P ff n) (hP : ∀ x, P x → P1 x) : jFa P1 ff n := fun k g0 g1 => hP _ (h k g0 g1)
theorem jGl.set {P : Int → Prop} {fg fh fp gg : Nat → Int32} {n i x : Int} (h : jGl P fg fh fp n) (hU : jUpd 46 fg gg i x) (hx : P x) (hn : n ≤ 46) : jGl P gg fh fp n := fun g g0 g1 => by
  obtain ⟨h1, h2⟩ := h g g0 g1
  refine ⟨?_, h2⟩
  by_cases q : g = i
  · rw [q, hU.1]; exact hx
  · rw [hU.2 g g0 (by omega) q]; exact h1
/-- a formula that is good: closed, of 80 nodes at most -/
def jG1 (C : jK) (N Y x : Int) : Prop := jFm C N Y 80 0 x ∧ jsz C x ≤ 80
theorem jG1.ag {C D : jK} {N M Y x : Int} (h : jG1 C N Y x) (hA : jAgK C D N) (hM : N ≤ M) : jG1 D M Y x := ⟨h.1.ag hA hM, by rw [jsz_ag hA h.1]; exact h.2⟩
end
section
-- formulas as they are read: raw terms (their parts behind them), raw formulas (their parts ahead of them)
def jRtm (C : jK) : Nat → Int → Int → Prop
  | 0, _, _ => False
  | d + 1, x, hi => 0 ≤ x ∧ x < hi ∧ jSo C.s x = 11 ∧ 0 ≤ jSo C.n x ∧ jSo C.n x ≤ 1599 ∧ 0 ≤ jSo C.c x ∧ (jSo C.c x = 1 → x < jSo C.a x ∧ jRtm C d (jSo C.a x) hi) ∧ (jSo C.c x = 2 → x < jSo C.a x ∧ jRtm C d (jSo C.a x) (jSo C.b (jSo C.a x)) ∧ jRtm C d (jSo C.b (jSo C.a x)) hi) ∧ (jSo C.c x = 3 → x < jSo C.a x ∧ jRtm C d (jSo C.a x) (jSo C.b (jSo C.a x)) ∧ jRtm C d (jSo C.b (jSo C.a x)) (jSo C.b (jSo C.b (jSo C.a x))) ∧ jRtm C d (jSo C.b (jSo C.b (jSo C.a x))) hi)
theorem jRtm.ok {C : jK} {d : Nat} {x hi : Int} (h : jRtm C d x hi) : 1 ≤ d ∧ 0 ≤ x ∧ x < hi ∧ jSo C.s x = 11 ∧ 0 ≤ jSo C.n x ∧ jSo C.n x ≤ 1599 ∧ 0 ≤ jSo C.c x := by
  cases d with
  | zero => exact h.elim
  | succ d => exact ⟨by omega, h.1, h.2.1, h.2.2.1, h.2.2.2.1, h.2.2.2.2.1, h.2.2.2.2.2.1⟩
/-- the same rows from x to hi (but for two of x itself) -/
def jAt (C D : jK) (x hi : Int) : Prop := ∀ j : Int, x ≤ j → j < hi → jSo D.s j = jSo C.s j ∧ jSo D.n j = jSo C.n j ∧ jSo D.a j = jSo C.a j ∧ jSo D.c j = jSo C.c j ∧ (x < j → jSo D.b j = jSo C.b j)
theorem jAt.sub {C D : jK} {x hi y h1 : Int} (h : jAt C D x hi) (hy : x < y) (hh : h1 ≤ hi) : jAt C D y h1 := fun j g0 g1 => by
  obtain ⟨a1, a2, a3, a4, a5⟩ := h j (by omega) (by omega)
  exact ⟨a1, a2, a3, a4, fun _ => a5 (by omega)⟩
theorem jRtm.ag {C D : jK} {d : Nat} : ∀ {x hi : Int}, jRtm C d x hi → jAt C D x hi → jRtm D d x hi := by
  induction d with
  | zero => intro x hi h; exact h.elim
  | succ d ih =>
    intro x hi h hA
    obtain ⟨h1, h2, h3, h4, h5, h6, k1, k2, k3⟩ := h
    obtain ⟨a1, a2, a3, a4, -⟩ := hA x (by omega) h2
    refine ⟨h1, h2, by rw [a1]; exact h3, by rw [a2]; exact h4, by rw [a2]; exact h5, by rw [a4]; exact h6, ?_, ?_, ?_⟩
    · rw [a4, a3]; intro q
      obtain ⟨z1, z2⟩ := k1 q
      exact ⟨z1, ih z2 (hA.sub z1 (Int.le_refl _))⟩
    · rw [a4, a3]; intro q
      obtain ⟨z1, z2, z3⟩ := k2 q
      have b1 := z2.ok; have b2 := z3.ok
      have e1 := (hA (jSo C.a x) (by omega) (by omega)).2.2.2.2 z1
      rw [e1]
      exact ⟨z1, ih z2 (hA.sub z1 (by omega)), ih z3 (hA.sub (by omega) (Int.le_refl _))⟩
    · rw [a4, a3]; intro q
      obtain ⟨z1, z2, z3, z4⟩ := k3 q
      have b1 := z2.ok; have b2 := z3.ok; have b3 := z4.ok
      have e1 := (hA (jSo C.a x) (by omega) (by omega)).2.2.2.2 z1
      rw [e1]
      have e2 := (hA (jSo C.b (jSo C.a x)) (by omega) (by omega)).2.2.2.2 (by omega)
      rw [e2]
      exact ⟨z1, ih z2 (hA.sub z1 (by omega)), ih z3 (hA.sub (by omega) (by omega)), ih z4 (hA.sub (by omega) (Int.le_refl _))⟩
theorem jRtm.mono {C : jK} {d : Nat} : ∀ {x hi : Int}, jRtm C d x hi → ∀ {d1 : Nat} {h1 : Int}, d ≤ d1 → hi ≤ h1 → jRtm C d1 x h1 := by
  induction d with
  | zero => intro x hi h; exact h.elim
  | succ d ih =>
    intro x hi h d1 h1 hd hh
    cases d1 with
    | zero => omega
    | succ d1 =>
      obtain ⟨g1, g2, g3, g4, g5, g6, k1, k2, k3⟩ := h
      refine ⟨g1, by omega, g3, g4, g5, g6, fun q => ?_, fun q => ?_, fun q => ?_⟩
      · obtain ⟨z1, z2⟩ := k1 q; exact ⟨z1, ih z2 (by omega) hh⟩
      · obtain ⟨z1, z2, z3⟩ := k2 q; exact ⟨z1, ih z2 (by omega) (Int.le_refl _), ih z3 (by omega) hh⟩
      · obtain ⟨z1, z2, z3, z4⟩ := k3 q; exact ⟨z1, ih z2 (by omega) (Int.le_refl _), ih z3 (by omega) (Int.le_refl _), ih z4 (by omega) hh⟩
theorem jAgK.at {C D : jK} {N x hi : Int} (h : jAgK C D N) (hx : 0 ≤ x) (hh : hi ≤ N) : jAt C D x hi := fun j g0 g1 => by
  obtain ⟨a1, a2, a3, a4, a5⟩ := h.so (n := j) (by omega) (by omega)
  exact ⟨a1, a2, a3, a5, fun _ => a4⟩
theorem jRtm.agK {C D : jK} {d : Nat} {N x hi : Int} (h : jRtm C d x hi) (hA : jAgK C D N) (hh : hi ≤ N) : jRtm D d x hi := h.ag (hA.at h.ok.2.1 hh)
/-- a raw formula: its nodes from lo to hi, its root x; q quantifiers within one another at most -/
def jRw (C : jK) : Nat → Nat → Int → Int → Int → Prop
  | 0, _, _, _, _ => False
  | e + 1, q, lo, x, hi => 0 ≤ lo ∧ lo ≤ x ∧ x < hi ∧ ((jSo C.s x = 11 ∧ jRtm C 13 x hi) ∨ jSo C.s x = 3 ∨ (jSo C.s x = 6 ∧ ∃ m : Int, lo ≤ jSo C.a x ∧ jRtm C 13 (jSo C.a x) m ∧ m ≤ jSo C.b x ∧ jRtm C 13 (jSo C.b x) x) ∨ ((jSo C.s x = 4 ∨ jSo C.s x = 5) ∧ 0 ≤ jSo C.n x ∧ jSo C.n x ≤ 1599 ∧ 1 ≤ q ∧ jRw C e (q - 1) lo (jSo C.a x) x) ∨ (0 ≤ jSo C.s x ∧ jSo C.s x ≤ 2 ∧ ∃ m : Int, jRw C e q lo (jSo C.a x) m ∧ jRw C e q m (jSo C.b x) x))
theorem jRw.ok {C : jK} {e q : Nat} {lo x hi : Int} (h : jRw C e q lo x hi) : 1 ≤ e ∧ 0 ≤ lo ∧ lo ≤ x ∧ x < hi := by
  cases e with
  | zero => exact h.elim
  | succ e => exact ⟨by omega, h.1, h.2.1, h.2.2.1⟩
theorem jRw.mono {C : jK} {e : Nat} : ∀ {q : Nat} {lo x hi : Int}, jRw C e q lo x hi → ∀ {e1 q1 : Nat} {l1 h1 : Int}, e ≤ e1 → q ≤ q1 → 0 ≤ l1 → l1 ≤ lo → hi ≤ h1 → jRw C e1 q1 l1 x h1 := by
  induction e with
  | zero => intro q lo x hi h; exact h.elim
  | succ e ih =>
    intro q lo x hi h e1 q1 l1 h1 he hq hl0 hl hh
    cases e1 with
    | zero => omega
    | succ e1 =>
      obtain ⟨g1, g2, g3, g4⟩ := h
      refine ⟨hl0, by omega, by omega, ?_⟩
      rcases g4 with ⟨s1, t1⟩ | s1 | ⟨s1, m, t1, t2, t3, t4⟩ | ⟨s1, t1, t2, t3, t4⟩ | ⟨s1, s2, m, t1, t2⟩
      · exact Or.inl ⟨s1, t1.mono (Nat.le_refl _) hh⟩
      · exact Or.inr (Or.inl s1)
      · exact Or.inr (Or.inr (Or.inl ⟨s1, m, by omega, t2, t3, t4⟩))
      · exact Or.inr (Or.inr (Or.inr (Or.inl ⟨s1, t1, t2, by omega, ih t4 (by omega) (by omega) hl0 hl (Int.le_refl _)⟩)))
      · exact Or.inr (Or.inr (Or.inr (Or.inr ⟨s1, s2, m, ih t1 (by omega) hq hl0 hl (Int.le_refl _), ih t2 (by omega) hq t2.ok.2.1 (Int.le_refl _) (Int.le_refl _)⟩)))
theorem jRw.ag {C D : jK} {N : Int} (hA : jAgK C D N) {e : Nat} : ∀ {q : Nat} {lo x hi : Int}, jRw C e q lo x hi → hi ≤ N → jRw D e q lo x hi := by
  induction e with
  | zero => intro q lo x hi h; exact h.elim
  | succ e ih =>
    intro q lo x hi h hN
    obtain ⟨g1, g2, g3, g4⟩ := h
    obtain ⟨a1, a2, a3, a4, a5⟩ := hA.so (n := x) (by omega) (by omega)
    refine ⟨g1, g2, g3, ?_⟩
    rw [a1, a2, a3, a4]
    rcases g4 with ⟨s1, t1⟩ | s1 | ⟨s1, m, t1, t2, t3, t4⟩ | ⟨s1, t1, t2, t3, t4⟩ | ⟨s1, s2, m, t1, t2⟩
    · exact Or.inl ⟨s1, t1.agK hA hN⟩
    · exact Or.inr (Or.inl s1)
    · have := t4.ok
      exact Or.inr (Or.inr (Or.inl ⟨s1, m, t1, t2.agK hA (by omega), t3, t4.agK hA (by omega)⟩))
    · exact Or.inr (Or.inr (Or.inr (Or.inl ⟨s1, t1, t2, t3, ih t4 (by omega)⟩)))
    · have := t2.ok
      exact Or.inr (Or.inr (Or.inr (Or.inr ⟨s1, s2, m, ih t1 (by omega), ih t2 (by omega)⟩)))
theorem jRw.up {C : jK} {e e1 q q1 : Nat} {lo x hi : Int} (h : jRw C e q lo x hi) (he : e ≤ e1) (hq : q ≤ q1) : jRw C e1 q1 lo x hi := h.mono he hq h.ok.2.1 (Int.le_refl _) (Int.le_refl _)
theorem jRw.eq {C D : jK} {e q d d1 : Nat} {m N ws wn wa wb wc : Int} (h1 : jRtm C d wa m) (h2 : jRtm C d1 wb N) (hm : m ≤ wb) (h : jNw C D N ws wn wa wb wc) (hs : ws = 6) (hd : d ≤ 13) (hd1 : d1 ≤ 13) (he : 1 ≤ e) : jRw D e q wa N (N + 1) := by
  have o1 := h1.ok; have o2 := h2.ok
  cases e with
  | zero => omega
  | succ e =>
    obtain ⟨hA, s1, s2, s3, s4, s5⟩ := h
    refine ⟨o1.2.1, by omega, by omega, Or.inr (Or.inr (Or.inl ⟨by omega, m, by omega, ?_, by omega, ?_⟩))⟩
    · rw [s3]; exact (h1.mono hd (Int.le_refl _)).agK hA (by omega)
    · rw [s4]; exact (h2.mono hd1 (Int.le_refl _)).agK hA (by omega)
-- what a raw formula is, by its root
end
section
-- the reference's kernel: its facts, goals and lemma are good formulas
theorem jG1.of {C : jK} {N Y x : Int} {d : Nat} (h : jFm C N Y d 0 x) (hd : d ≤ 4000) (hs : jsz C x ≤ 80) : jG1 C N Y x := ⟨h.tight hd 80 (by omega), hs⟩
/-- what the kernel holds between two sentences: nodes, symbols, facts, goals, whether there is a proof, its lemma -/
def jKi (C : jK) (pn py pf pg pp pl : Int) (ff fg fh fp : Nat → Int32) : Prop := 0 ≤ pn ∧ 0 ≤ py ∧ py ≤ 16 ∧ 0 ≤ pf ∧ pf ≤ 16 ∧ 0 ≤ pg ∧ pg ≤ 6 ∧ jFa (jG1 C pn py) ff pf ∧ jGl (jG1 C pn py) fg fh fp pg ∧ (1 ≤ pp → jG1 C pn py pl)
theorem jKi.ag {C D : jK} {pn qn py pf pg pp pl : Int} {ff fg fh fp : Nat → Int32} (h : jKi C pn py pf pg pp pl ff fg fh fp) (hA : jAgK C D pn) (hn : pn ≤ qn) : jKi D qn py pf pg pp pl ff fg fh fp := by
  obtain ⟨h1, h2, h3, h4, h5, h6, h7, h8, h9, h10⟩ := h
  exact ⟨by omega, h2, h3, h4, h5, h6, h7, h8.mono (fun x q => q.ag hA hn), h9.mono (fun x q => q.ag hA hn), fun q => (h10 q).ag hA hn⟩
end
section
-- apply: a rule's quantifiers, its left sides, the terms that are told
def jNe (f : Nat → Int32) (m : Int) : Prop := ∀ k : Int, 0 ≤ k → k < m → jSo f k = -1
theorem jNe.to {C : jK} {N Y m : Int} {f : Nat → Int32} (h : jNe f m) : jTo C N Y f m := fun k g0 g1 => Or.inl (by rw [h k g0 g1]; omega)
/-- the new goals so far -/
theorem jFa.put {P : Int → Prop} {f g : Nat → Int32} {n x e : Int} (h : jFa P f n) (hv : jSo g e = x) (ho : ∀ j, j < 100 → j ≠ e.toNat → g j = f j) (he : e = n) (h0 : 0 ≤ n) (h1 : n ≤ 99) (hx : P x) : jFa P g (n + 1) := fun k g0 g1 => by
  have hU := jUpd.mk (n := 100) hv ho he h0
  by_cases q : k = n
  · rw [q, hU.1]; exact hx
  · rw [hU.2 k g0 (by omega) q]; exact h k g0 (by omega)
end
section
-- where a sign stands in a text whose last sign it is
def jStrE (base a n : Nat) (f : Nat → Int32) (U : State) (H : Heap) : Prop := va_O "java/lang/String" a (jA base) U H ∧ va_OF "java/lang/String" "coder" "B" (.int 0) a (jA base) U H ∧ f (n - 1) = 32 ∧ ∃ v : Nat, va_OF "java/lang/String" "value" "[B" (.ref v) a (jA base) U H ∧ va_T .byte v n (fun j => .int (f j)) (jA base) U H
theorem jStrE.moved {base a n : Nat} {f : Nat → Int32} {u U : State} {H : Heap} (hvm : u.vm.Alike U.vm) (h : jStrE base a n f u H) : jStrE base a n f U H := by
  obtain ⟨h1, h2, h5, v, h3, h4⟩ := h
  exact ⟨h1.moved hvm, h2.moved hvm, h5, v, h3.moved hvm, h4.moved hvm⟩
theorem jStrE.kept {base a n : Nat} {f : Nat → Int32} {U : State} {H H1 : Heap} (h : jStrE base a n f U H) (hq : ∀ a : Nat, a < H.size → ¬ jA base a → H1[a]? = H[a]?) : jStrE base a n f U H1 := by
  obtain ⟨h1, h2, h5, v, h3, h4⟩ := h
  exact ⟨h1.kept hq, h2.kept hq, h5, v, h3.kept hq, h4.kept hq⟩
theorem jStrE.str {base a n : Nat} {f : Nat → Int32} {U : State} {H : Heap} (h : jStrE base a n f U H) : jStr base a n U H := by
  obtain ⟨h1, h2, -, v, h3, h4⟩ := h
  exact ⟨h1, h2, v, _, h3, h4⟩
end
section
-- printing: how often a bound name is marked
def jMx (f : Nat → Int32) (n M : Int) : Prop := ∀ k : Int, 0 ≤ k → k < n → jSo f k ≤ M
def jEqK (f g : Nat → Int32) (n : Int) : Prop := ∀ k : Int, 0 ≤ k → k < n → jSo g k = jSo f k
theorem jEqK.rf (f : Nat → Int32) (n : Int) : jEqK f f n := fun _ _ _ => rfl
theorem jEqK.tr {f g h : Nat → Int32} {n : Int} (h1 : jEqK f g n) (h2 : jEqK g h n) : jEqK f h n := fun k q0 q1 => (h2 k q0 q1).trans (h1 k q0 q1)
theorem jMx.eq {f g : Nat → Int32} {n M : Int} (h : jMx f n M) (he : jEqK f g n) : jMx g n M := fun k q0 q1 => by rw [he k q0 q1]; exact h k q0 q1
theorem jMx.put {f g : Nat → Int32} {n m M M1 x e : Int} (h : jMx f n M) (hv : jSo g e = x) (ho : ∀ j, j < 100 → j ≠ e.toNat → g j = f j) (he : e = n) (h0 : 0 ≤ n) (h1 : n ≤ 99) (hm : m = n + 1) (hx : x ≤ M1) (hM : M ≤ M1) : jMx g m M1 := fun k q0 q1 => by
  have hU := jUpd.mk (n := 100) hv ho he h0
  by_cases q : k = n
  · rw [q, hU.1]; exact hx
  · rw [hU.2 k q0 (by omega) q]; have := h k q0 (by omega); omega
end
section
-- how a text is parted, as functions
/-- sentences in order: s of them, all within u -/
def jSrt (b e : Nat → Int32) (s u : Int) : Prop := ∀ k : Int, 0 ≤ k → k < s → 0 ≤ jSo b k ∧ jSo b k ≤ jSo e k ∧ jSo e k ≤ u ∧ (k + 1 < s → jSo e k ≤ jSo b (k + 1))
theorem jSrt.nil (b e : Nat → Int32) (u : Int) : jSrt b e 0 u := fun k h0 h1 => by omega
theorem jSrt.up {b e : Nat → Int32} {s u v : Int} (h : jSrt b e s u) (hv : u ≤ v) : jSrt b e s v := fun k h0 h1 => by
  obtain ⟨a1, a2, a3, a4⟩ := h k h0 h1
  exact ⟨a1, a2, by omega, a4⟩
end
section
-- the documents of the reference: their sentences are in order (an invariant with a footprint; x: the document that is being changed)
abbrev jFd : List (Nat × Nat) := [(14, 4), (14, 5), (14, 6), (14, 7), (14, 9), (190, 0), (191, 0)]
def jD14 (dC : Nat → ClassId) (dI : Nat → Nat → Nat) (ca : Nat → ClassId) (G : jT) (a yb ye : Nat) (H : Heap) : Prop := ∃ (fb fe : Nat → Int32) (ps pz pc : Int32), G yb = some (190, 40) ∧ G ye = some (191, 40) ∧ jP (dC, dI) G H [(a, 14, 6, .ref yb), (a, 14, 7, .ref ye), (a, 14, 5, .int ps), (a, 14, 4, .int pz), (a, 14, 9, .int pc)] ∧ jMc (dC, dI) G H [(yb, 190, 40, ca 1, fb), (ye, 191, 40, ca 1, fe)] ∧ jSrt fb fe ps.toInt pz.toInt ∧ 0 ≤ pc.toInt ∧ pc.toInt ≤ ps.toInt ∧ ps.toInt ≤ 40 ∧ 0 ≤ pz.toInt ∧ pz.toInt ≤ 1500
def jDX (dC : Nat → ClassId) (dI : Nat → Nat → Nat) (ca : Nat → ClassId) (G : jT) (x : Option Nat) (H : Heap) : Prop := ∃ Yb Ye : Nat → Nat, (∀ a, G a = some (14, 0) → jf (dC, dI) 14 a 6 (.ref (Yb a)) H ∧ jf (dC, dI) 14 a 7 (.ref (Ye a)) H) ∧ (∀ a b, G a = some (14, 0) → G b = some (14, 0) → Yb a = Yb b → a = b) ∧ (∀ a b, G a = some (14, 0) → G b = some (14, 0) → Ye a = Ye b → a = b) ∧ ∀ a, G a = some (14, 0) → some a ≠ x → jD14 dC dI ca G a (Yb a) (Ye a) H
theorem jf.ag14 {D : va_G} {G : jT} {H H1 : Heap} {a i : Nat} {v : Value} (hA : jAg D G jFd H H1) (ha : G a = some (14, 0)) (hi : jFd.contains (14, i) = true) (h : jf D 14 a i v H) : jf D 14 a i v H1 := hA.1 a 14 0 i v ha hi h
theorem jD14.ag {dC : Nat → ClassId} {dI : Nat → Nat → Nat} {ca : Nat → ClassId} {G : jT} {a yb ye : Nat} {H H1 : Heap} (h : jD14 dC dI ca G a yb ye H) (ha : G a = some (14, 0)) (hA : jAg (dC, dI) G jFd H H1) : jD14 dC dI ca G a yb ye H1 := by
  obtain ⟨fb, fe, ps, pz, pc, g1, g2, g3, g4, g5⟩ := h
  refine ⟨fb, fe, ps, pz, pc, g1, g2, fun q hq => ?_, fun q hq => ?_, g5⟩
  · obtain ⟨q1, q2⟩ := g3 q hq
    refine ⟨q1, ?_⟩
    simp only [List.mem_cons, List.not_mem_nil, or_false] at hq
    rcases hq with rfl | rfl | rfl | rfl | rfl <;> exact jf.ag14 hA ha rfl q2
  · obtain ⟨q1, q2, q3, q4⟩ := g4 q hq
    refine ⟨q1, q2, q3, q4.kept ?_⟩
    simp only [List.mem_cons, List.not_mem_nil, or_false] at hq
    rcases hq with rfl | rfl
    · exact hA.2 _ _ _ q1 q2 q3 rfl
    · exact hA.2 _ _ _ q1 q2 q3 rfl
theorem jDX.ag {dC : Nat → ClassId} {dI : Nat → Nat → Nat} {ca : Nat → ClassId} {G : jT} {x : Option Nat} {H H1 : Heap} (hA : jAg (dC, dI) G jFd H H1) (h : jDX dC dI ca G x H) : jDX dC dI ca G x H1 := by
  obtain ⟨Yb, Ye, h1, h2, h3, h4⟩ := h
  exact ⟨Yb, Ye, fun a ha => ⟨jf.ag14 hA ha rfl (h1 a ha).1, jf.ag14 hA ha rfl (h1 a ha).2⟩, h2, h3, fun a ha hx => (h4 a ha hx).ag ha hA⟩
/-- what is known of one document -/
theorem jDX.at {dC : Nat → ClassId} {dI : Nat → Nat → Nat} {ca : Nat → ClassId} {G : jT} {x : Option Nat} {H : Heap} (h : jDX dC dI ca G x H) {a : Nat} (ha : G a = some (14, 0)) (hx : some a ≠ x) : ∃ yb ye, jD14 dC dI ca G a yb ye H := by
  obtain ⟨Yb, Ye, -, -, -, h4⟩ := h
  exact ⟨_, _, h4 a ha hx⟩
end
section
-- invariants with a footprint, as a walk carries them: contents of reference arrays, one field of all documents, the sentences of all documents
theorem jIs.cons {D : va_G} {G : jT} {H : Heap} {q : jIv} {L : List jIv} (h : q.2 H ∧ ∀ H1 H2 : Heap, jAg D G q.1 H1 H2 → q.2 H1 → q.2 H2) (h2 : jIs D G H L) : jIs D G H (q :: L) := fun x hx => by
  rcases List.mem_cons.mp hx with e | e
  · subst e; exact h
  · exact h2 x e
theorem jf.uniq {D : va_G} {k a i : Nat} {v w : Value} {H : Heap} (h1 : jf D k a i v H) (h2 : jf D k a i w H) : v = w := by
  obtain ⟨r, -, -, cell, g3, -, -, g6⟩ := h1
  obtain ⟨r2, -, -, cell2, q3, -, -, q6⟩ := h2
  cases g3.symm.trans q3
  exact Option.some.inj (g6.symm.trans q6)
def jQc (dC : Nat → ClassId) (dI : Nat → Nat → Nat) (cA : ClassId) (a n : Nat) (f : Nat → Option Nat) (H : Heap) : Prop := va_at (dC, dI) vwCl (a, .inl (cA, n, .inr (.inr (.inr (.inr f))))) H
def jVl (dC : Nat → ClassId) (dI : Nat → Nat → Nat) (G : jT) (i : Nat) (v : Nat → Int32) (H : Heap) : Prop := ∀ a, G a = some (14, 0) → jf (dC, dI) 14 a i (.int (v a)) H
abbrev jF9 : List (Nat × Nat) := [(14, 9)]
abbrev jFs : List (Nat × Nat) := [(14, 5), (14, 6), (14, 7), (190, 0), (191, 0)]
theorem jQc.ie {dC : Nat → ClassId} {dI : Nat → Nat → Nat} {cA : ClassId} {a n k m : Nat} {G : jT} {f : Nat → Option Nat} {H : Heap} (h : jQc dC dI cA a n f H) (ha : G a = some (k, m)) (h1 : 17 ≤ k) (h2 : k < 1000) : (([(k, 0)], jQc dC dI cA a n f) : jIv).2 H ∧ ∀ H1 H2 : Heap, jAg (dC, dI) G (([(k, 0)], jQc dC dI cA a n f) : jIv).1 H1 H2 → (([(k, 0)], jQc dC dI cA a n f) : jIv).2 H1 → (([(k, 0)], jQc dC dI cA a n f) : jIv).2 H2 :=
  ⟨h, fun H1 H2 hA hq => by
    have hq1 : va_at (dC, dI) vwCl (a, .inl (cA, n, .inr (.inr (.inr (.inr f))))) H1 := hq
    exact va_at.kept hq1 (hA.2 a k m ha h1 h2 (by simp))⟩
theorem jVl.ie {dC : Nat → ClassId} {dI : Nat → Nat → Nat} {G : jT} {v : Nat → Int32} {H : Heap} (h : jVl dC dI G 9 v H) : ((jF9, jVl dC dI G 9 v) : jIv).2 H ∧ ∀ H1 H2 : Heap, jAg (dC, dI) G ((jF9, jVl dC dI G 9 v) : jIv).1 H1 H2 → ((jF9, jVl dC dI G 9 v) : jIv).2 H1 → ((jF9, jVl dC dI G 9 v) : jIv).2 H2 :=
  ⟨h, fun H1 H2 hA hq a ha => hA.1 a 14 0 9 _ ha rfl (hq a ha)⟩
/-- one document: ps sentences, in order -/
def jD2 (dC : Nat → ClassId) (dI : Nat → Nat → Nat) (ca : Nat → ClassId) (G : jT) (a yb ye : Nat) (ps : Int32) (H : Heap) : Prop := ∃ (fb fe : Nat → Int32), G yb = some (190, 40) ∧ G ye = some (191, 40) ∧ jP (dC, dI) G H [(a, 14, 6, .ref yb), (a, 14, 7, .ref ye), (a, 14, 5, .int ps)] ∧ jMc (dC, dI) G H [(yb, 190, 40, ca 1, fb), (ye, 191, 40, ca 1, fe)] ∧ jSrt fb fe ps.toInt 1500 ∧ 0 ≤ ps.toInt ∧ ps.toInt ≤ 40
/-- all documents but x -/
def jDY (dC : Nat → ClassId) (dI : Nat → Nat → Nat) (ca : Nat → ClassId) (G : jT) (x : Option Nat) (sn : Nat → Int32) (H : Heap) : Prop := ∃ Yb Ye : Nat → Nat, (∀ a, G a = some (14, 0) → jf (dC, dI) 14 a 6 (.ref (Yb a)) H ∧ jf (dC, dI) 14 a 7 (.ref (Ye a)) H ∧ G (Yb a) = some (190, 40) ∧ G (Ye a) = some (191, 40)) ∧ (∀ a b, G a = some (14, 0) → G b = some (14, 0) → Yb a = Yb b → a = b) ∧ (∀ a b, G a = some (14, 0) → G b = some (14, 0) → Ye a = Ye b → a = b) ∧ ∀ a, G a = some (14, 0) → some a ≠ x → jD2 dC dI ca G a (Yb a) (Ye a) (sn a) H
theorem jD2.of {dC : Nat → ClassId} {dI : Nat → Nat → Nat} {ca : Nat → ClassId} {G : jT} {a yb ye : Nat} {ps : Int32} {H H1 : Heap} (h : jD2 dC dI ca G a yb ye ps H) (hf : ∀ i v, i = 5 ∨ i = 6 ∨ i = 7 → jf (dC, dI) 14 a i v H → jf (dC, dI) 14 a i v H1) (hb : H1[yb]? = H[yb]?) (he : H1[ye]? = H[ye]?) : jD2 dC dI ca G a yb ye ps H1 := by
  obtain ⟨fb, fe, g1, g2, g3, g4, g5⟩ := h
  refine ⟨fb, fe, g1, g2, fun q hq => ?_, fun q hq => ?_, g5⟩
  · obtain ⟨q1, q2⟩ := g3 q hq
    refine ⟨q1, ?_⟩
    simp only [List.mem_cons, List.not_mem_nil, or_false] at hq
    rcases hq with rfl | rfl | rfl
    · exact hf _ _ (Or.inr (Or.inl rfl)) q2
    · exact hf _ _ (Or.inr (Or.inr rfl)) q2
    · exact hf _ _ (Or.inl rfl) q2
  · obtain ⟨q1, q2, q3, q4⟩ := g4 q hq
    refine ⟨q1, q2, q3, q4.kept ?_⟩
    simp only [List.mem_cons, List.not_mem_nil, or_false] at hq
    rcases hq with rfl | rfl
    · exact hb
    · exact he
theorem jDY.ie {dC : Nat → ClassId} {dI : Nat → Nat → Nat} {ca : Nat → ClassId} {G : jT} {x : Option Nat} {sn : Nat → Int32} {H : Heap} (h : jDY dC dI ca G x sn H) : ((jFs, jDY dC dI ca G x sn) : jIv).2 H ∧ ∀ H1 H2 : Heap, jAg (dC, dI) G ((jFs, jDY dC dI ca G x sn) : jIv).1 H1 H2 → ((jFs, jDY dC dI ca G x sn) : jIv).2 H1 → ((jFs, jDY dC dI ca G x sn) : jIv).2 H2 := by
  refine ⟨h, fun H1 H2 hA hq => ?_⟩
  obtain ⟨Yb, Ye, h1, h2, h3, h4⟩ := hq
  refine ⟨Yb, Ye, fun a ha => ?_, h2, h3, fun a ha hx => ?_⟩
  · obtain ⟨g1, g2, g3, g4⟩ := h1 a ha
    exact ⟨hA.1 a 14 0 6 _ ha rfl g1, hA.1 a 14 0 7 _ ha rfl g2, g3, g4⟩
  · obtain ⟨g1, g2, g3, g4⟩ := h1 a ha
    refine (h4 a ha hx).of (fun i v hi hf => ?_) (hA.2 _ _ _ g3 (by omega) (by omega) rfl) (hA.2 _ _ _ g4 (by omega) (by omega) rfl)
    rcases hi with rfl | rfl | rfl
    · exact hA.1 a 14 0 5 _ ha rfl hf
    · exact hA.1 a 14 0 6 _ ha rfl hf
    · exact hA.1 a 14 0 7 _ ha rfl hf
theorem jDY.at {dC : Nat → ClassId} {dI : Nat → Nat → Nat} {ca : Nat → ClassId} {G : jT} {x : Option Nat} {sn : Nat → Int32} {H : Heap} (h : jDY dC dI ca G x sn H) {a : Nat} (ha : G a = some (14, 0)) (hx : some a ≠ x) : ∃ (yb ye : Nat) (fb fe : Nat → Int32), G yb = some (190, 40) ∧ G ye = some (191, 40) ∧ jP (dC, dI) G H [(a, 14, 6, .ref yb), (a, 14, 7, .ref ye), (a, 14, 5, .int (sn a))] ∧ jMc (dC, dI) G H [(yb, 190, 40, ca 1, fb), (ye, 191, 40, ca 1, fe)] ∧ jSrt fb fe (sn a).toInt 1500 ∧ 0 ≤ (sn a).toInt ∧ (sn a).toInt ≤ 40 := by
  obtain ⟨Yb, Ye, -, -, -, h4⟩ := h
  obtain ⟨fb, fe, g⟩ := h4 a ha hx
  exact ⟨_, _, fb, fe, g⟩
def jUn (v : Nat → Int32) (a : Nat) (w : Int32) : Nat → Int32 := fun b => if b = a then w else v b
theorem jUn_e (v : Nat → Int32) (a : Nat) (w : Int32) : jUn v a w a = w := by simp [jUn]
theorem jUn_n (v : Nat → Int32) {a b : Nat} (w : Int32) (h : b ≠ a) : jUn v a w b = v b := by simp [jUn, h]
/-- a write to a field of x -/
theorem jDY.fld {dC : Nat → ClassId} {dI : Nat → Nat → Nat} {ca : Nat → ClassId} {G : jT} {sn : Nat → Int32} {H H1 : Heap} {a : Nat} (h : jDY dC dI ca G (some a) sn H) (ha : G a = some (14, 0)) (hfr : ∀ p, p ≠ a → H1[p]? = H[p]?) (hkf : ∀ ib w, ib ≠ 5 → jf (dC, dI) 14 a ib w H → jf (dC, dI) 14 a ib w H1) : jDY dC dI ca G (some a) sn H1 := by
  obtain ⟨Yb, Ye, h1, h2, h3, h4⟩ := h
  refine ⟨Yb, Ye, fun b hb => ?_, h2, h3, fun b hb hx => ?_⟩
  · obtain ⟨g1, g2, g3, g4⟩ := h1 b hb
    by_cases e : b = a
    · subst e; exact ⟨hkf _ _ (by decide) g1, hkf _ _ (by decide) g2, g3, g4⟩
    · exact ⟨g1.kept (hfr b e), g2.kept (hfr b e), g3, g4⟩
  · obtain ⟨g1, g2, g3, g4⟩ := h1 b hb
    have e : b ≠ a := fun q => hx (by rw [q])
    refine (h4 b hb hx).of (fun i v hi hf => hf.kept (hfr b e)) (hfr _ (fun q => ?_)) (hfr _ (fun q => ?_))
    · rw [q, ha] at g3; cases g3
    · rw [q, ha] at g4; cases g4
/-- a write to an array of x -/
theorem jDY.arr {dC : Nat → ClassId} {dI : Nat → Nat → Nat} {ca : Nat → ClassId} {G : jT} {sn : Nat → Int32} {H H1 : Heap} {a y k : Nat} (h : jDY dC dI ca G (some a) sn H) (ha : G a = some (14, 0)) (hy : G y = some (k, 40)) (hk : (k = 190 ∧ jf (dC, dI) 14 a 6 (.ref y) H) ∨ (k = 191 ∧ jf (dC, dI) 14 a 7 (.ref y) H)) (hfr : ∀ p, p ≠ y → H1[p]? = H[p]?) : jDY dC dI ca G (some a) sn H1 := by
  obtain ⟨Yb, Ye, h1, h2, h3, h4⟩ := h
  have hn : ∀ b, G b = some (14, 0) → b ≠ y := fun b hb q => by
    rw [q, hy] at hb
    have := (Prod.mk.inj (Option.some.inj hb)).1
    rcases hk with hk | hk <;> omega
  refine ⟨Yb, Ye, fun b hb => ?_, h2, h3, fun b hb hx => ?_⟩
  · obtain ⟨g1, g2, g3, g4⟩ := h1 b hb
    exact ⟨g1.kept (hfr b (hn b hb)), g2.kept (hfr b (hn b hb)), g3, g4⟩
  · obtain ⟨g1, g2, g3, g4⟩ := h1 b hb
    refine (h4 b hb hx).of (fun i v hi hf => hf.kept (hfr b (hn b hb))) (hfr _ (fun q => ?_)) (hfr _ (fun q => ?_))
    · rcases hk with ⟨k1, k2⟩ | ⟨k1, k2⟩
      · have e1 : Yb a = y := by have := jf.uniq (h1 a ha).1 k2; cases this; rfl
        exact hx (by rw [h2 b a hb ha (q.trans e1.symm)])
      · rw [q, hy] at g3
        have := (Prod.mk.inj (Option.some.inj g3)).1
        omega
    · rcases hk with ⟨k1, k2⟩ | ⟨k1, k2⟩
      · rw [q, hy] at g4
        have := (Prod.mk.inj (Option.some.inj g4)).1
        omega
      · have e1 : Ye a = y := by have := jf.uniq (h1 a ha).2.1 k2; cases this; rfl
        exact hx (by rw [h3 b a hb ha (q.trans e1.symm)])
theorem jVl.put {dC : Nat → ClassId} {dI : Nat → Nat → Nat} {G : jT} {ck : Nat → Int32} {H H1 : Heap} {a : Nat} {w : Int32} (h : jVl dC dI G 9 ck H) (hfr : ∀ p, p ≠ a → H1[p]? = H[p]?) (hn : jf (dC, dI) 14 a 9 (.int w) H1) : jVl dC dI G 9 (jUn ck a w) H1 := fun b hb => by
  by_cases e : b = a
  · subst e; rw [jUn_e]; exact hn
  · rw [jUn_n _ _ e]; exact (h b hb).kept (hfr b e)
/-- what is asked of the numbers: the open documents are apart, checked <= sentences, and what a worker holds is an open document's sentence -/
def jPu (sn ck : Nat → Int32) (fd fo : Nat → Option Nat) (fs : Nat → Int32) (dc : Int) (ol nw td : Nat) : Prop := (∀ i, i < 3 → fd i ≠ some ol ∧ fd i ≠ some nw ∧ fd i ≠ some td) ∧ (∀ i j, i < 3 → j < 3 → fd i = fd j → i = j) ∧ (∀ i a, i < 3 → fd i = some a → (ck a).toInt ≤ (sn a).toInt) ∧ ∀ w, w < 2 → fo w = none ∨ ∃ (d a : Nat), (d : Int) < dc ∧ d < 3 ∧ fd d = some a ∧ fo w = some a ∧ (fs w).toInt < (sn a).toInt
/-- the documents of the reference, as they stand between two calls -/
def jDV (dC : Nat → ClassId) (dI : Nat → Nat → Nat) (ca : Nat → ClassId) (G : jT) (r dd co cs ol nw td : Nat) (H : Heap) : Prop := ∃ (sn ck fs : Nat → Int32) (fd fo : Nat → Option Nat) (dc : Int32), jP (dC, dI) G H [(r, 16, 41, .ref dd), (r, 16, 42, .int dc), (r, 16, 60, .ref co), (r, 16, 61, .ref cs), (r, 16, 46, .ref ol), (r, 16, 47, .ref nw), (r, 16, 71, .ref td)] ∧ jMc (dC, dI) G H [(cs, 207, 2, ca 1, fs)] ∧ jIs (dC, dI) G H [(jFs, jDY dC dI ca G none sn), (jF9, jVl dC dI G 9 ck), ([(201, 0)], jQc dC dI (ca 4) dd 3 fd), ([(208, 0)], jQc dC dI (ca 4) co 2 fo)] ∧ jPu sn ck fd fo fs dc.toInt ol nw td
theorem jVl.at {dC : Nat → ClassId} {dI : Nat → Nat → Nat} {G : jT} {ck : Nat → Int32} {H : Heap} {a : Nat} (h : jVl dC dI G 9 ck H) (ha : G a = some (14, 0)) : jP (dC, dI) G H [(a, 14, 9, .int (ck a))] := fun q hq => by
  cases List.mem_singleton.mp hq
  exact ⟨⟨0, ha⟩, h a ha⟩
section J15
variable {p : Program} {l : Launch} {e : Env} {R : Room} {s : State} {m : MethodId} {args : Array Value} {below : List Frame} {meth : Method} {c : Code} {H : Heap} {locs : List Loc} {cells slots : Nat} {Q : State → Prop}
variable {cc : ByteArray} {pc : Nat} {ls : Array Slot} {rest : List Value} {dC : Nat → ClassId} {dI : Nat → Nat → Nat} {ca : Nat → ClassId} {B : jF} {base : Nat} {G0 G : jT} {E : List (Nat × Nat)} {H0 : Heap} {zc zs : Nat} {L : List jPin} {M : List jCt} {I : List jIv} {a k n i N : Nat} {cA : ClassId} {tys : List (ClassId × FieldType)} {C own : String} {T : u_T} {index : Nat}
theorem jSt.iv (hh : jSt (dC, dI) B base G0 G E H0 zc zs L M I H locs) (j : Nat) {q : jIv} (hj : I[j]? = some q) : q.2 H := (hh.2.2.2.2.2.2.2.2 q (List.mem_of_getElem? hj)).1
theorem jSt.addI (hh : jSt (dC, dI) B base G0 G E H0 zc zs L M I H locs) {q : jIv} (h : q.2 H ∧ ∀ H1 H2 : Heap, jAg (dC, dI) G q.1 H1 H2 → q.2 H1 → q.2 H2) : jSt (dC, dI) B base G0 G E H0 zc zs L M (q :: I) H locs := by
  obtain ⟨h1, h2, h3, h4, h5, h6, h7, h8, h9⟩ := hh
  exact ⟨h1, h2, h3, h4, h5, h6, h7, h8, jIs.cons h h9⟩
end J15
end
section
-- texts whose bytes are known: charAt, isText and member as functions
def jStrF (base a n : Nat) (f : Nat → Int32) (U : State) (H : Heap) : Prop := va_O "java/lang/String" a (jA base) U H ∧ va_OF "java/lang/String" "coder" "B" (.int 0) a (jA base) U H ∧ ∃ v : Nat, va_OF "java/lang/String" "value" "[B" (.ref v) a (jA base) U H ∧ va_T .byte v n (fun j => .int (f j)) (jA base) U H
theorem jStrF.moved {base a n : Nat} {f : Nat → Int32} {u U : State} {H : Heap} (hvm : u.vm.Alike U.vm) (h : jStrF base a n f u H) : jStrF base a n f U H := by
  obtain ⟨h1, h2, v, h3, h4⟩ := h
  exact ⟨h1.moved hvm, h2.moved hvm, v, h3.moved hvm, h4.moved hvm⟩
theorem jStrF.kept {base a n : Nat} {f : Nat → Int32} {U : State} {H H1 : Heap} (h : jStrF base a n f U H) (hq : ∀ a : Nat, a < H.size → ¬ jA base a → H1[a]? = H[a]?) : jStrF base a n f U H1 := by
  obtain ⟨h1, h2, v, h3, h4⟩ := h
  exact ⟨h1.kept hq, h2.kept hq, v, h3.kept hq, h4.kept hq⟩
theorem jStrF.str {base a n : Nat} {f : Nat → Int32} {U : State} {H : Heap} (h : jStrF base a n f U H) : jStr base a n U H := by
  obtain ⟨h1, h2, v, h3, h4⟩ := h
  exact ⟨h1, h2, v, _, h3, h4⟩
end
section
def jLeA (f g : Nat → Int32) : Prop := ∀ i : Int, 0 ≤ i → i < 3100 → jSo f i ≤ jSo g i
end
section
-- the workers of a document that has changed; a document that is opened; closed
def jPv (sn ck : Nat → Int32) (fd fo : Nat → Option Nat) (fs : Nat → Int32) (dc : Int) (ol nw td : Nat) (x : Nat) (st k : Int) : Prop := (∀ i, i < 3 → fd i ≠ some ol ∧ fd i ≠ some nw ∧ fd i ≠ some td) ∧ (∀ i j, i < 3 → j < 3 → fd i = fd j → i = j) ∧ (∀ i a, i < 3 → fd i = some a → (ck a).toInt ≤ (sn a).toInt) ∧ (st ≤ (sn x).toInt ∧ (ck x).toInt ≤ st) ∧ ∀ w, w < 2 → fo w = none ∨ ∃ (d a : Nat), (d : Int) < dc ∧ d < 3 ∧ fd d = some a ∧ fo w = some a ∧ ((fs w).toInt < (sn a).toInt ∨ (a = x ∧ k ≤ (w : Int)))
theorem jPu.set {sn ck ck' fs : Nat → Int32} {fd fo : Nat → Option Nat} {dc st : Int} {ol nw td x : Nat} {v : Int32} (h : jPu sn ck fd fo fs dc ol nw td) (hst : st ≤ v.toInt) (hck : (ck' x).toInt ≤ st) (ho : ∀ a, a ≠ x → ck' a = ck a) : jPv (jUn sn x v) ck' fd fo fs dc ol nw td x st 0 := by
  obtain ⟨g0, g1, g2, g3⟩ := h
  refine ⟨g0, g1, fun i a hi ha => ?_, ⟨by rw [jUn_e]; exact hst, hck⟩, fun w hw => ?_⟩
  · by_cases e : a = x
    · subst e; rw [jUn_e]; omega
    · rw [jUn_n _ _ e, ho a e]; exact g2 i a hi ha
  · rcases g3 w hw with k | ⟨d, a, k1, k2, k3, k4, k5⟩
    · exact Or.inl k
    · refine Or.inr ⟨d, a, k1, k2, k3, k4, ?_⟩
      by_cases e : a = x
      · exact Or.inr ⟨e, by omega⟩
      · rw [jUn_n _ _ e]; exact Or.inl k5
theorem jPv.null {sn ck fs : Nat → Int32} {fd fo fo' : Nat → Option Nat} {dc st k k1 : Int} {ol nw td x w : Nat} (h : jPv sn ck fd fo fs dc ol nw td x st k) (hv : fo' w = none) (ho : ∀ j, j < 2 → j ≠ w → fo' j = fo j) (hw : (w : Int) = k) (hk : k1 = k + 1) : jPv sn ck fd fo' fs dc ol nw td x st k1 := by
  obtain ⟨g0, g1, g2, g4, g3⟩ := h
  refine ⟨g0, g1, g2, g4, fun j hj => ?_⟩
  by_cases e : j = w
  · subst e; exact Or.inl hv
  · rw [ho j hj e]
    rcases g3 j hj with q | ⟨d, a, k1, k2, k3, k4, k5⟩
    · exact Or.inl q
    · exact Or.inr ⟨d, a, k1, k2, k3, k4, k5.imp id (fun q => ⟨q.1, by have := q.2; omega⟩)⟩
abbrev jFt : List (Nat × Nat) := [(122, 0), (123, 0)]
def jFT (dC : Nat → ClassId) (dI : Nat → Nat → Nat) (ca : Nat → ClassId) (G : jT) (xb xe : Nat) (H : Heap) : Prop := ∃ fb fe : Nat → Int32, jMc (dC, dI) G H [(xb, 122, 3100, ca 1, fb), (xe, 123, 3100, ca 1, fe)] ∧ jLeA fb fe
theorem jFT.ie {dC : Nat → ClassId} {dI : Nat → Nat → Nat} {ca : Nat → ClassId} {G : jT} {xb xe : Nat} {H : Heap} (h : jFT dC dI ca G xb xe H) (hb : G xb = some (122, 3100)) (he : G xe = some (123, 3100)) : ((jFt, jFT dC dI ca G xb xe) : jIv).2 H ∧ ∀ H1 H2 : Heap, jAg (dC, dI) G ((jFt, jFT dC dI ca G xb xe) : jIv).1 H1 H2 → ((jFt, jFT dC dI ca G xb xe) : jIv).2 H1 → ((jFt, jFT dC dI ca G xb xe) : jIv).2 H2 := by
  refine ⟨h, fun H1 H2 hA hq => ?_⟩
  obtain ⟨fb, fe, h1, h2⟩ := hq
  refine ⟨fb, fe, fun q hq => ?_, h2⟩
  obtain ⟨q1, q2, q3, q4⟩ := h1 q hq
  refine ⟨q1, q2, q3, q4.kept ?_⟩
  simp only [List.mem_cons, List.not_mem_nil, or_false] at hq
  rcases hq with rfl | rfl
  · exact hA.2 _ _ _ q1 q2 q3 rfl
  · exact hA.2 _ _ _ q1 q2 q3 rfl
section J16
variable {p : Program} {l : Launch} {e : Env} {R : Room} {s : State} {m : MethodId} {args : Array Value} {below : List Frame} {meth : Method} {c : Code} {H : Heap} {locs : List Loc} {cells slots : Nat} {Q : State → Prop}
variable {cc : ByteArray} {pc : Nat} {ls : Array Slot} {rest : List Value} {dC : Nat → ClassId} {dI : Nat → Nat → Nat} {ca : Nat → ClassId} {B : jF} {base : Nat} {G0 G : jT} {E : List (Nat × Nat)} {H0 : Heap} {zc zs : Nat} {L : List jPin} {M : List jCt} {I : List jIv} {a k n : Nat} {cA : ClassId} {tys : List (ClassId × FieldType)}
end J16
end
section
-- how a text is parted rests on its units alone
def jEqU (f g : Nat → Int32) (n : Int) : Prop := ∀ i : Int, 0 ≤ i → i < n → jSo f i = jSo g i
theorem jEqU.nil (f g : Nat → Int32) : jEqU f g 0 := fun i h0 h1 => by omega
theorem jEqU.up {f g : Nat → Int32} {m n : Int} (h : jEqU f g m) (hn : n ≤ m) : jEqU f g n := fun i h0 h1 => h i h0 (by omega)
end
section
-- a document is closed: it goes behind the open ones
def jNo (fo : Nat → Option Nat) (x : Nat) (k : Int) : Prop := ∀ w : Nat, (w : Int) < k → fo w ≠ some x
theorem jNo.null {fo fo' : Nat → Option Nat} {x w : Nat} {k k1 : Int} (h : jNo fo x k) (hv : fo' w = none) (ho : ∀ j, j < 2 → j ≠ w → fo' j = fo j) (hw : (w : Int) = k) (h2 : k < 2) (hk : k1 = k + 1) : jNo fo' x k1 := fun j hj => by
  by_cases e : j = w
  · subst e; rw [hv]; exact fun q => by cases q
  · rw [ho j (by omega) e]; exact h j (by omega)
def jSh (f0 f : Nat → Option Nat) (d k : Int) : Prop := ∀ i : Nat, i < 3 → f i = if d ≤ (i : Int) ∧ (i : Int) < k then f0 (i + 1) else f0 i
theorem jSh.nil (f0 : Nat → Option Nat) (d : Int) : jSh f0 f0 d d := fun i hi => by rw [if_neg (by omega)]
theorem jSh.step {f0 f g : Nat → Option Nat} {d k k1 : Int} {o : Option Nat} (h : jSh f0 f d k) (h0 : 0 ≤ k) (hd : d ≤ k) (h3 : k + 1 < 3) (ho : o = f (k + 1).toNat) (hv : g k.toNat = o) (hg : ∀ j, j < 3 → j ≠ k.toNat → g j = f j) (e : k1 = k + 1) : jSh f0 g d k1 := fun i hi => by
  by_cases q : i = k.toNat
  · have h1 := h (k + 1).toNat (by omega)
    rw [if_neg (by omega)] at h1
    rw [q, hv, ho, h1, if_pos (by omega), show (k + 1).toNat = k.toNat + 1 by omega]
  · rw [hg i hi q, h i hi]
    by_cases w : d ≤ (i : Int) ∧ (i : Int) < k
    · rw [if_pos w, if_pos (by omega)]
    · rw [if_neg w, if_neg (by omega)]
theorem jPu.cls {sn ck fs : Nat → Int32} {f0 f g fo : Nat → Option Nat} {dc dc1 d k k' : Int} {ol nw td x : Nat} (h : jPu sn ck f0 fo fs dc ol nw td) (hn : jNo fo x 2) (hs : jSh f0 f d k') (h0 : 0 ≤ d) (hdc : d < dc) (h3 : dc ≤ 3) (hx : f0 d.toNat = some x) (hkk : k' = k) (hk : k = dc - 1) (hv : g k.toNat = some x) (hg : ∀ j, j < 3 → j ≠ k.toNat → g j = f j) (e : dc1 = dc - 1) : jPu sn ck g fo fs dc1 ol nw td := by
  have hkk2 := hkk.symm
  subst hkk2
  obtain ⟨g0, g1, g2, g3⟩ := h
  have key : ∀ i : Nat, i < 3 → ∃ j : Nat, j < 3 ∧ g i = f0 j ∧ (((i : Int) = k ∧ (j : Int) = d) ∨ (d ≤ (i : Int) ∧ (i : Int) < k ∧ j = i + 1) ∨ (((i : Int) < d ∨ k < (i : Int)) ∧ j = i)) := fun i hi => by
    by_cases q : i = k.toNat
    · exact ⟨d.toNat, by omega, by rw [q, hv, hx], Or.inl ⟨by omega, by omega⟩⟩
    · rw [hg i hi q, hs i hi]
      by_cases w : d ≤ (i : Int) ∧ (i : Int) < k
      · rw [if_pos w]; exact ⟨i + 1, by omega, rfl, Or.inr (Or.inl ⟨w.1, w.2, rfl⟩)⟩
      · rw [if_neg w]; exact ⟨i, hi, rfl, Or.inr (Or.inr ⟨by omega, rfl⟩)⟩
  refine ⟨fun i hi => ?_, fun i j hi hj he => ?_, fun i a hi ha => ?_, fun w hw => ?_⟩
  · obtain ⟨j, k1, k2, -⟩ := key i hi
    rw [k2]; exact g0 j k1
  · obtain ⟨i1, a1, a2, a3⟩ := key i hi
    obtain ⟨j1, b1, b2, b3⟩ := key j hj
    have := g1 i1 j1 a1 b1 (by rw [← a2, ← b2]; exact he)
    omega
  · obtain ⟨j, k1, k2, -⟩ := key i hi
    rw [k2] at ha; exact g2 j a k1 ha
  · rcases g3 w hw with q | ⟨j, a, k1, k2, k3, k4, k5⟩
    · exact Or.inl q
    · have hja : (j : Int) ≠ d := fun q => by
        have e1 : j = d.toNat := by omega
        rw [e1, hx] at k3
        exact hn w (by omega) (by rw [k4, k3])
      by_cases c : (j : Int) < d
      · obtain ⟨j1, b1, b2, b3⟩ := key j k2
        exact Or.inr ⟨j, a, by omega, k2, by rw [b2, show j1 = j by omega]; exact k3, k4, k5⟩
      · obtain ⟨j1, b1, b2, b3⟩ := key (j - 1) (by omega)
        exact Or.inr ⟨j - 1, a, by omega, by omega, by rw [b2, show j1 = j by omega]; exact k3, k4, k5⟩
end
section
-- super's methods; bytes whose contents are known; the numbers that signs tell
theorem arrV_cg {cA : ClassId} {n : Nat} {f g : Nat → Value} (h : ∀ j, j < n → f j = g j) : arrV cA n f = arrV cA n g := by
  unfold arrV
  congr 1
  congr 1
  funext j
  exact h j.val j.isLt
def jBf (j : Nat) (z : Int32) : Prop := fits .byte (.int z) = true
section J18
variable {p : Program} {l : Launch} {e : Env} {R : Room} {s : State} {m : MethodId} {args : Array Value} {below : List Frame} {meth : Method} {c : Code} {H : Heap} {locs : List Loc} {cells slots : Nat} {Q : State → Prop}
variable {cc : ByteArray} {pc : Nat} {ls : Array Slot} {rest : List Value} {dC : Nat → ClassId} {dI : Nat → Nat → Nat} {ca : Nat → ClassId} {B : jF} {base : Nat} {G0 G : jT} {E : List (Nat × Nat)} {H0 : Heap} {zc zs : Nat} {L : List jPin} {M : List jCt} {I : List jIv} {a k n : Nat} {cA : ClassId} {tys : List (ClassId × FieldType)}
theorem jSt.byt (hh : jSt (dC, dI) B base G0 G E H0 zc zs L M I H locs) (hBk : ∀ n G a H, B k n G a H ↔ jAr (dC, dI) cA jBf n a H) (hk : k < 1000) (ha : G a = some (k, n)) : ∃ f : Nat → Int32, va_at (dC, dI) vwCl (a, .inl (cA, n, .inl f)) H ∧ sb_Fit f := by
  obtain ⟨f, g1, g2⟩ := hh.ar hBk hk ha
  refine ⟨fun j => if j < n then f j else 0, ?_, fun j => ?_⟩
  · have e1 : H[a]? = some (vp_cell cA (n, .inl f)) := g1
    show H[a]? = some (vp_cell cA (n, .inl _))
    rw [e1, vp_cell_i, vp_cell_i]
    congr 1
    exact arrV_cg (fun j hj => by simp only [if_pos hj])
  · by_cases q : j < n
    · simp only [if_pos q]; exact g2 j q
    · simp only [if_neg q]; rfl
theorem j7_bastF (hexec : p.tables.exec = Jvm.exec) (hb : c.code = cc) (hK : va_K (dC, dI) vwCl tys s) (hh : jSt (dC, dI) B base G0 G E H0 zc zs L M I H locs) (hB : jBok B) (hBk : ∀ n G a H, B k n G a H ↔ jAr (dC, dI) cA jBf n a H) (t0 : Nat) (ht : tys[t0]? = some (cA, .byte)) (hk : k < 1000) (hk2 : 17 ≤ k) (hE : E.contains (k, 0) = true) (hM : M.all (fun q => !(q.2.1 == k)) = true) (hI : I.all (fun q => !(q.1.contains (k, 0))) = true) (ha : G a = some (k, n)) {i v : Int32} {x : Int} (hi : i.toInt = x) (h12 : 0 ≤ x ∧ x < n) (hdg : decode cc pc = .ok (.bastore, 1))
    (kk : ∀ (H1 : Heap) (locs1 : List Loc), jSt (dC, dI) B base G0 G E H0 zc zs L M I H1 locs1 → W p l e R s m args below meth c H1 locs1 cells slots Q (F0 m (pc + 1) ls rest)) : W p l e R s m args below meth c H locs cells slots Q (F0 m pc ls (.int v :: .int i :: .ref a :: rest)) := by
  obtain ⟨h1, h2⟩ := h12
  obtain ⟨f, g1, g2⟩ := hh.byt hBk hk ha
  exact j_bast (A := jA base) hexec hb hK t0 g1 (hh.ab ha).1 hh.1.2.2 ht (jb_in hi h1 h2) hdg (fun H1 locs1 f1 hf hat hsz hfr hT hL => kk H1 locs1 (hh.arr hB ha hk hk2 hE hM hI hsz hfr hT hL ((hBk _ _ _ _).mpr ⟨f1, hat, fun j _ => hf g2 j⟩)))
end J18
end
section
-- what a method writes of one object only: the others of its kind keep their fields
def jOw (D : va_G) (G : jT) (k r : Nat) (H0 H : Heap) : Prop := ∀ a n i v, a ≠ r → G a = some (k, n) → jf D k a i v H0 → jf D k a i v H
theorem jOw.rf {D : va_G} {G : jT} {k r : Nat} {H : Heap} : jOw D G k r H H := fun _ _ _ _ _ _ h => h
theorem jOw.tr {D : va_G} {G G1 : jT} {k r : Nat} {H0 H H1 : Heap} (h : jOw D G k r H0 H) (hle : jLe G G1) (h1 : jOw D G1 k r H H1) : jOw D G k r H0 H1 := fun a n i v hne ha hf => h1 a n i v hne (hle _ _ ha) (h a n i v hne ha hf)
theorem jOw.put {D : va_G} {G : jT} {k r : Nat} {H0 H H1 : Heap} (h : jOw D G k r H0 H) (hr : ∀ q, q ≠ r → H1[q]? = H[q]?) : jOw D G k r H0 H1 := fun a n i v hne ha hf => (h a n i v hne ha hf).kept (hr a hne)
theorem jOw.ie {dC : Nat → ClassId} {dI : Nat → Nat → Nat} {G0 G : jT} {k r N : Nat} {C : String} {T : u_T} {F : List (Nat × Nat)} {H0 H : Heap} (hc : vwCl[k]? = some (C, T, N)) (hF : (List.range N).all (fun i => F.contains (k, i)) = true) (hle : jLe G0 G) (h : jOw (dC, dI) G0 k r H0 H) : ((F, jOw (dC, dI) G0 k r H0) : jIv).2 H ∧ ∀ H1 H2 : Heap, jAg (dC, dI) G ((F, jOw (dC, dI) G0 k r H0) : jIv).1 H1 H2 → ((F, jOw (dC, dI) G0 k r H0) : jIv).2 H1 → ((F, jOw (dC, dI) G0 k r H0) : jIv).2 H2 := by
  refine ⟨h, fun H1 H2 hA h1 a n i v hne ha hf => ?_⟩
  have g := h1 a n i v hne ha hf
  have g' := g
  obtain ⟨r9, g1, g2, -⟩ := g'
  have e : r9 = (C, T, N) := Option.some.inj (g1.symm.trans hc)
  subst e
  exact hA.1 a k n i v (hle _ _ ha) (List.all_eq_true.mp hF i (List.mem_range.mpr g2)) g
theorem jP.cons {D : va_G} {G : jT} {H : Heap} {L : List jPin} {a k n i : Nat} {v : Value} (hg : G a = some (k, n)) (hf : jf D k a i v H) (h : jP D G H L) : jP D G H ((a, k, i, v) :: L) := fun q hq => by
  rcases List.mem_cons.mp hq with e | e
  · subst e; exact ⟨⟨n, hg⟩, hf⟩
  · exact h q e
/-- no new object of these kinds -/
def jNk (ks : List Nat) (G G1 : jT) : Prop := ∀ a k n, G1 a = some (k, n) → ks.contains k = true → G a = some (k, n)
theorem jNk.rf {ks : List Nat} {G : jT} : jNk ks G G := fun _ _ _ h _ => h
theorem jNk.tr {ks : List Nat} {G G1 G2 : jT} (h : jNk ks G G1) (h1 : jNk ks G1 G2) : jNk ks G G2 := fun a k n ha hk => h a k n (h1 a k n ha hk) hk
theorem jNk.sub {ks ks1 : List Nat} {G G1 : jT} (h : jNk ks G G1) (hs : ks1.all (fun k => ks.contains k) = true) : jNk ks1 G G1 := fun a k n ha hk => h a k n ha (List.all_eq_true.mp hs k (List.contains_iff_mem.mp hk))
theorem jNk.new {ks : List Nat} {G : jT} {x k n : Nat} (hk : ks.contains k = false) : jNk ks G (va_up G x (some (k, n))) := fun a k1 n1 ha h1 => by
  by_cases e : a = x
  · subst e
    simp only [va_up, if_pos] at ha
    have e1 := (Prod.mk.inj (Option.some.inj ha)).1
    rw [← e1, hk] at h1; cases h1
  · rw [va_up_ne _ _ e] at ha; exact ha
section J19
variable {p : Program} {l : Launch} {e : Env} {R : Room} {s : State} {m : MethodId} {args : Array Value} {below : List Frame} {meth : Method} {c : Code} {H : Heap} {locs : List Loc} {cells slots : Nat} {Q : State → Prop}
variable {cc : ByteArray} {pc : Nat} {ls : Array Slot} {rest : List Value} {dC : Nat → ClassId} {dI : Nat → Nat → Nat} {ca : Nat → ClassId} {B : jF} {base : Nat} {G0 G : jT} {E : List (Nat × Nat)} {H0 : Heap} {zc zs : Nat} {L : List jPin} {M : List jCt} {I : List jIv} {a k n i index N : Nat} {tys : List (ClassId × FieldType)} {own C : String} {T : u_T}
theorem j7_putX (hexec : p.tables.exec = Jvm.exec) (hb : c.code = cc) (hown : s.vm.findClass own = some m.cls) (hK : va_K (dC, dI) vwCl tys s) (hh : jSt (dC, dI) B base G0 G E H0 zc zs L M I H locs) (hB : jBok B) (hAp : jAp (dC, dI)) {F : Nat → jT → List (Value → Prop)} (hBk : ∀ n G a H, B k n G a H ↔ jOb (dC, dI) k N (F n G) a H) (hc : vwCl[k]? = some (C, T, N)) (hk : k < 1000) (ha : G a = some (k, n)) (hi : i < N) (hlay : (u_lay C T i).before args s = true) (hfin : (T i).2.2.2 = false) (hlink : (Cond.fieldLink own index (T i).1 (T i).2.1 (T i).2.2.1).before args s = true) {P : Value → Prop} (hp : (F n G)[i]? = some P) {ty : FieldType} {v : Value} (hd : parseFieldDescriptor (T i).2.2.1 = some ty) (hnar : narrow ty v = v) (hfit : fits ty v = true) (hv : P v) (hE : E.contains (k, i) = true)
    {L1 : List jPin} (is : List Nat) (hs : is.map (fun i => L[i]?) = L1.map some) (hn : L1.all (fun q => !(q.2.1 == k && q.2.2.1 == i)) = true) (hI : I.all (fun q => !(q.1.contains (k, i))) = true) (hdg : decode cc pc = .ok (.putfield index, 3))
    (kk : ∀ (H1 : Heap) (locs1 : List Loc), (∀ q, q ≠ a → H1[q]? = H[q]?) → jSt (dC, dI) B base G0 G E H0 zc zs ((a, k, i, v) :: L1) M I H1 locs1 → W p l e R s m args below meth c H1 locs1 cells slots Q (F0 m (pc + 3) ls rest)) : W p l e R s m args below meth c H locs cells slots Q (F0 m pc ls (v :: .ref a :: rest)) := by
  obtain ⟨V, ⟨cell, q1, q2, q3, q4⟩, hV⟩ := (hBk _ _ _ _).mp (hh.2.1.1 a k n ha hk (fun h => by cases h))
  obtain ⟨hS, hfc, kC, hkC, hkind⟩ := hK.1 k _ hc
  obtain ⟨cf, kf, fi, f, hfi, hsl⟩ := hS i hi
  have hst := (u_facts hfc hkC (j7_lay hlay) hfi).1
  unfold u_lay at hlay
  rw [if_neg (by rw [hfin]; decide)] at hlay
  have h6 := u_store hfc hkC hkind hlay hfi hd hnar hfit
  refine W.putK hexec hb (f := f) ⟨hown, hlink, ⟨_, _, _, hfi⟩, hst⟩ (by rw [q2]; exact h6) q1 q3 (by rw [hsl]; exact k2_hasslot (q4 i hi)) rfl rfl hdg fun H1 e1 e2 e3 => ?_
  rw [hsl] at e1 ⊢
  refine kk H1 _ e3 (hh.fld hB hAp hBk hc hk ha hi hp hv hE is hs hn hI q1 e1 e2 e3 (jTot_set e2 q1 e1 (jSet_sz _ _ _) e3) (fun q hq => ?_))
  rcases List.mem_append.mp hq with h | h
  · exact hh.1.2.2 q h
  · cases List.mem_singleton.mp h; exact (hh.ab ha).1
end J19
end
section
-- more cells: what is known stays known (a call that makes cells; none of them is a document of the reference)
theorem jAg.low {D : va_G} {G G1 : jT} {F : List (Nat × Nat)} {H H1 : Heap} (hle : jLe G G1) (h : jAg D G1 F H H1) : jAg D G F H H1 := ⟨fun a k n i v ha => h.1 a k n i v (hle _ _ ha), fun a k n ha => h.2 a k n (hle _ _ ha)⟩
theorem jIs.lift {D : va_G} {G G1 : jT} {H : Heap} {L : List jIv} (hle : jLe G G1) (h : jIs D G H L) : jIs D G1 H L := fun q hq => ⟨(h q hq).1, fun Ha Hb hA => (h q hq).2 Ha Hb (hA.low hle)⟩
theorem jMc.lift {D : va_G} {G G1 : jT} {H : Heap} {M : List jCt} (hle : jLe G G1) (h : jMc D G H M) : jMc D G1 H M := fun q hq => by
  obtain ⟨q1, q2, q3, q4⟩ := h q hq
  exact ⟨hle _ _ q1, q2, q3, q4⟩
theorem jSt.callG {dC : Nat → ClassId} {dI : Nat → Nat → Nat} {B : jF} {base : Nat} {G0 G : jT} {E : List (Nat × Nat)} {H0 : Heap} {zc zs : Nat} {L : List jPin} {M : List jCt} {I : List jIv} {H : Heap} {locs : List Loc} (hh : jSt (dC, dI) B base G0 G E H0 zc zs L M I H locs) {E1 : List (Nat × Nat)} {H1 : Heap} {locs1 : List Loc} {G1 : jT} {wc ws : Nat} (hX : jX B base G1 [] H1) (hG : jLe G G1) (hk : jKp (dC, dI) G E1 H H1) (hz : H1.size ≤ H.size + wc) (ht : jTot H1 ≤ jTot H + ws) (hS : va_S (jA base) H0 H1 locs1) (hE : E1.all (fun q => E.contains q) = true) {L1 : List jPin} (is : List Nat) (hs : is.map (fun i => L[i]?) = L1.map some) (hn : L1.all (fun q => !(E1.contains (q.2.1, q.2.2.1))) = true) {M1 : List jCt} (js : List Nat) (hjs : js.map (fun i => M[i]?) = M1.map some) (hjn : M1.all (fun q => !(E1.contains (q.2.1, 0))) = true) {I1 : List jIv} (ks : List Nat) (hks : ks.map (fun i => I[i]?) = I1.map some) (hkn : I1.all (fun q => E1.all (fun x => !(q.1.contains x))) = true) : jSt (dC, dI) B base G0 G1 E H0 (zc + wc) (zs + ws) L1 M1 I1 H1 locs1 := by
  obtain ⟨h1, h2, h3, h4, h5, h6, h7, h8, h9⟩ := hh
  exact ⟨hS, hX, h3.over hk hG is hs hn, h4.tr (hk.sub h5 hE), h5.tr hG, by omega, by omega, h8.over hk hG js hjs hjn, ((h9.sub ks hks).ag (fun q hq => jAg.of hk (List.all_eq_true.mp hkn q hq))).lift hG⟩
/-- no new document -/
def jN14 (G G1 : jT) : Prop := ∀ a, G1 a = some (14, 0) → G a = some (14, 0)
theorem jN14.rf {G : jT} : jN14 G G := fun _ h => h
theorem jN14.tr {G G1 G2 : jT} (h : jN14 G G1) (h1 : jN14 G1 G2) : jN14 G G2 := fun a ha => h a (h1 a ha)
theorem jN14.new {G : jT} {x k n : Nat} (hk : k ≠ 14) : jN14 G (va_up G x (some (k, n))) := fun a ha => by
  by_cases e : a = x
  · subst e
    simp only [va_up, if_pos] at ha
    exact absurd (Prod.mk.inj (Option.some.inj ha)).1 hk
  · rw [va_up_ne _ _ e] at ha; exact ha
theorem jD2.grow {dC : Nat → ClassId} {dI : Nat → Nat → Nat} {ca : Nat → ClassId} {G G1 : jT} {a yb ye : Nat} {ps : Int32} {H : Heap} (h : jD2 dC dI ca G a yb ye ps H) (hle : jLe G G1) : jD2 dC dI ca G1 a yb ye ps H := by
  obtain ⟨fb, fe, g1, g2, g3, g4, g5⟩ := h
  exact ⟨fb, fe, hle _ _ g1, hle _ _ g2, g3.lift hle, g4.lift hle, g5⟩
theorem jDY.grow {dC : Nat → ClassId} {dI : Nat → Nat → Nat} {ca : Nat → ClassId} {G G1 : jT} {x : Option Nat} {sn : Nat → Int32} {H : Heap} (h : jDY dC dI ca G x sn H) (hle : jLe G G1) (hn : jN14 G G1) : jDY dC dI ca G1 x sn H := by
  obtain ⟨Yb, Ye, h1, h2, h3, h4⟩ := h
  refine ⟨Yb, Ye, fun a ha => ?_, fun a b ha hb => h2 a b (hn a ha) (hn b hb), fun a b ha hb => h3 a b (hn a ha) (hn b hb), fun a ha hx => (h4 a (hn a ha) hx).grow hle⟩
  obtain ⟨g1, g2, g3, g4⟩ := h1 a (hn a ha)
  exact ⟨g1, g2, hle _ _ g3, hle _ _ g4⟩
theorem jVl.grow {dC : Nat → ClassId} {dI : Nat → Nat → Nat} {G G1 : jT} {i : Nat} {v : Nat → Int32} {H : Heap} (h : jVl dC dI G i v H) (hn : jN14 G G1) : jVl dC dI G1 i v H := fun a ha => h a (hn a ha)
theorem jFT.grow {dC : Nat → ClassId} {dI : Nat → Nat → Nat} {ca : Nat → ClassId} {G G1 : jT} {xb xe : Nat} {H : Heap} (h : jFT dC dI ca G xb xe H) (hle : jLe G G1) : jFT dC dI ca G1 xb xe H := by
  obtain ⟨fb, fe, h1, h2⟩ := h
  exact ⟨fb, fe, h1.lift hle, h2⟩
theorem jDV.grow {dC : Nat → ClassId} {dI : Nat → Nat → Nat} {ca : Nat → ClassId} {G G1 : jT} {r dd co cs ol nw td : Nat} {H : Heap} (h : jDV dC dI ca G r dd co cs ol nw td H) (hle : jLe G G1) (hn : jN14 G G1) (hd : G dd = some (201, 3)) (hc : G co = some (208, 2)) : jDV dC dI ca G1 r dd co cs ol nw td H := by
  obtain ⟨sn, ck, fs, fd, fo, dc, h1, h2, h3, h4⟩ := h
  refine ⟨sn, ck, fs, fd, fo, dc, h1.lift hle, h2.lift hle, ?_, h4⟩
  have e1 := (h3 _ (List.mem_of_getElem? (i := 0) rfl)).1
  have e2 := (h3 _ (List.mem_of_getElem? (i := 1) rfl)).1
  have e3 := (h3 _ (List.mem_of_getElem? (i := 2) rfl)).1
  have e4 := (h3 _ (List.mem_of_getElem? (i := 3) rfl)).1
  exact jIs.cons (jDY.ie (jDY.grow e1 hle hn)) (jIs.cons (jVl.ie (jVl.grow e2 hn)) (jIs.cons (jQc.ie e3 (hle _ _ hd) (by decide) (by decide)) (jIs.cons (jQc.ie e4 (hle _ _ hc) (by decide) (by decide)) jIs.nil)))
end
section
-- copyOf of bytes, over the one list of words
set_option maxHeartbeats 4000000 in
set_option maxRecDepth 20000 in
/-- Arrays.copyOf to a greater length: a new row -/
theorem wJ7_copyOf_9075b (l : Launch) (dC : Nat → ClassId) (dI : Nat → Nat → Nat) (ca : Nat → ClassId) (base LC LS : Nat) (H0 : Heap) (v n n1 : Nat) (f : Nat → Int32) (a1 : Int32) : Met l yJ7_copyOf_9075b (jw yJ7_copyOf_9075b cJ7_copyOf_9075b 3 (some (.array .byte))) ({ frames := 1, cells := LC - H0.size, slots := LS - jTot H0, locals := 40 }) (va_Pc [.ref v, .int a1] (fun U => U.heap = H0 ∧ va_at (dC, dI) vwCl (v, .inl (ca 0, n, .inl f)) H0 ∧ jG dC dI ca base U ∧ (sb_Fit f ∧ a1.toInt = n1 ∧ n < n1 ∧ n1 ≤ 2000000 ∧ H0.size + 1 ≤ LC ∧ jTot H0 + n1 ≤ LS))) (va_Qr (S := Nat → Int32) (fun f1 => sb_Fit f1) (fun f1 a t => a = H0.size ∧ va_at (dC, dI) vwCl (a, .inl (ca 0, n1, .inl f1)) t.heap ∧ t.heap.size = H0.size + 1 ∧ (∀ q, q < H0.size → t.heap[q]? = H0[q]?) ∧ jTot t.heap ≤ jTot H0 + n1) (fun q => H0.size ≤ q)) (LC - H0.size) (LS - jTot H0) (fun q => q = v ∨ H0.size ≤ q) := by
  refine Met.ofW (cc := cJ7_copyOf_9075b) (maxL := 3) (ret := (some (.array .byte))) (by decide) rfl ?_
  intro p e s m args below meth c s₁ B hml hv
  obtain ⟨rfl, hH0, hat, hG, hfit, h1, h2, h3, h4, h5⟩ := hv
  have hK := hG.1
  have hx := B.exec
  have hb := B.bytes
  have hr := B.returns
  have hts := atoms_spec (ws := (jw yJ7_copyOf_9075b cJ7_copyOf_9075b 3 (some (.array .byte)))) B.pre
  have htw : ∀ w ∈ jWl, w.before _ s = true := fun w h => hts w (List.mem_cons_of_mem _ h)
  have hown : s.vm.findClass RJ7 = some m.cls := findClass_of_methodNamed B.named
  have hlocks := B.notSynchronized
  subst hH0
  have hvl : v < s.heap.size := (Array.getElem?_eq_some_iff.mp hat).1
  have hl := lv_entry ([.ref v, .int a1]) (n := 3) (Nat.le_of_ble_eq_true rfl)
  rw [lg_entry_eq]
  generalize (lg_sl ([.ref v, .int a1]) ++ List.replicate (3 - (lg_sl ([.ref v, .int a1])).length) Slot.unset).toArray = ls at hl ⊢
  have hl : lv_has ls 3 [(0, .ref v), (1, .int a1)] := hl
  refine lv_iload_n hx hb dJ7_copyOf_9075b_0 rfl (lv_at hl 1 rfl) ?_
  refine lv_aload_n hx hb dJ7_copyOf_9075b_1 rfl (lv_at hl 0 rfl) ?_
  refine va_alen (v := Int32.ofNat n) hx hb hK (jp_one hat) 0 0 rfl rfl rfl dJ7_copyOf_9075b_2 ?_
  refine lv_icmp_ne (tgt := 14) hx hb dJ7_copyOf_9075b_3 (by decide) (fun c1 => ?_) (fun c1 => ?_)
  · refine lv_iload_n hx hb dJ7_copyOf_9075b_14 rfl (lv_at hl 1 rfl) ?_
    refine j_newi (ty := .byte) hx hb (htw (.arrayClass .byte) (jWr_3 _ (List.mem_of_getElem? (i := 9) rfl))) rfl rfl (fun _ h => h) hK 0 rfl (jb_n0 h1 (by omega)) (N' := n1) (by rw [jb_cl h1 (by omega)]; omega) (by simp [componentBytes]; omega) (by show 0 + 1 ≤ LC - s.heap.size; omega) (by show 0 + n1 ≤ LS - jTot s.heap; omega) dJ7_copyOf_9075b_15 (fun H1 hat1 hz1 ho1 hT1 => ?_)
    have hat2 := hat.kept (ho1 _ hvl)
    have hP : va_P (dC, dI) vwCl [(v, .inl (ca 0, n, .inl f)), (s.heap.size, .inl (ca 0, n1, .inl (fun _ => 0)))] H1 := by
      intro k r hr
      match k, hr with
      | 0, hr => cases hr; exact hat2
      | 1, hr => cases hr; exact hat1
      | k + 2, hr => simp at hr
    have hD : va_D (fun q => q = v ∨ s.heap.size ≤ q) [(v, .inl (ca 0, n, .inl f)), (s.heap.size, .inl (ca 0, n1, .inl (fun _ => 0)))] := by
      refine ⟨fun i j p q hi hj e => ?_, fun k q hq => ?_⟩
      · match i, j, hi, hj with
        | 0, 0, _, _ => rfl
        | 0, 1, hi, hj => cases hi; cases hj; simp at e; omega
        | 1, 0, hi, hj => cases hi; cases hj; simp at e; omega
        | 1, 1, _, _ => rfl
        | i + 2, _, hi, _ => simp at hi
        | _, j + 2, _, hj => simp at hj
      · match k, hq with
        | 0, hq => cases hq; exact Or.inl rfl
        | 1, hq => cases hq; exact Or.inr (Nat.le_refl _)
        | k + 2, hq => simp at hq
    have hS : va_S (fun q => q = v ∨ s.heap.size ≤ q) s.heap H1 [] := ⟨by omega, fun q h _ => ho1 q h, fun _ h => nomatch h⟩
    refine lv_astore_n (lv' := [(2, .ref s.heap.size), (0, .ref v), (1, .int a1)]) hx hb dJ7_copyOf_9075b_17 rfl hl (by decide) rfl (fun ls hl => ?_)
    refine lv_aload_n hx hb dJ7_copyOf_9075b_18 rfl (lv_at hl 1 rfl) ?_
    refine lv_iconst (v := 0) hx hb dJ7_copyOf_9075b_19 (by decide) ?_
    refine lv_aload_n hx hb dJ7_copyOf_9075b_20 rfl (lv_at hl 0 rfl) ?_
    refine lv_iconst (v := 0) hx hb dJ7_copyOf_9075b_21 (by decide) ?_
    refine lv_aload_n hx hb dJ7_copyOf_9075b_22 rfl (lv_at hl 1 rfl) ?_
    refine va_alen (v := Int32.ofNat n) hx hb hK (jp_one hat2) 0 0 rfl rfl rfl dJ7_copyOf_9075b_23 ?_
    refine lv_iload_n hx hb dJ7_copyOf_9075b_24 rfl (lv_at hl 2 rfl) ?_
    refine va_mmin hx hb (by rw [hml]; exact hl.1.symm) hown (htw (.methodLink RJ7 304 Lib.Math.min.name) (jWr_16 _ (List.mem_of_getElem? (i := 15) rfl))) (htw (.static Lib.Math.min.name) (jWr_16 _ (List.mem_of_getElem? (i := 16) rfl))) (htw (.initialized "java/lang/Math") (jWr_3 _ (List.mem_of_getElem? (i := 7) rfl))) (htw (.code Lib.Math.min.name Lib.Math.min.code 2 (some .int)) (jWr_16 _ (List.mem_of_getElem? (i := 17) rfl))) (Nat.le_of_ble_eq_true rfl) (Nat.le_of_ble_eq_true rfl) (by show 0 + 1 ≤ LC - s.heap.size; omega) (by show 0 + n1 ≤ LS - jTot s.heap; omega) dJ7_copyOf_9075b_25 ?_
    have hn : (Int32.ofNat n).toInt = n := jb_nat (by omega)
    rw [if_neg (fun q => by have h6 := jb_lt h1 hn q; omega)]
    refine va_copyi (H0 := s.heap) hx hb (by rw [hml]; exact hl.1.symm) hown (htw (.methodLink RJ7 150 arraycopyName) (jWr_16 _ (List.mem_of_getElem? (i := 18) rfl))) (htw (.native arraycopyName) (jWr_16 _ (List.mem_of_getElem? (i := 19) rfl))) (htw (.static arraycopyName) (jWr_16 _ (List.mem_of_getElem? (i := 20) rfl))) (htw (.initialized "java/lang/System") (jWr_16 _ (List.mem_of_getElem? (i := 21) rfl))) hK hP hD hS 0 1 0 0 rfl rfl rfl rfl rfl (by decide) (by decide) (jb_n0 hn (by omega)) (by rw [jb_cl hn (by omega), sb_cl0]; omega) (by rw [jb_cl hn (by omega), sb_cl0]; omega) (fun i hi => hfit _) (Nat.le_of_ble_eq_true rfl) (Nat.le_of_ble_eq_true rfl) dJ7_copyOf_9075b_28 (fun H2 locs2 hP2 hD2 hS2 => ?_)
    refine W.known (fun hsz2 hT2 => ?_)
    refine lv_aload_n hx hb dJ7_copyOf_9075b_31 rfl (lv_at hl 0 rfl) ?_
    have hat3 := hP2 1 _ rfl
    have hat4 := hP2 0 _ rfl
    have hl3 : s.heap.size < H2.size := hat3.lt
    refine W.widen (k := LC - s.heap.size) (n := LS - jTot s.heap) (by omega) (by omega) ?_
    refine W.aret hx hb hr (Or.inr ⟨_, rfl⟩) (Or.inr ⟨_, rfl⟩) (fun t ht hW => ⟨⟨_, _, rfl, ?_, rfl, by rw [ht]; exact hat3, by rw [ht]; omega, fun q hq => ?_, by rw [ht]; omega⟩, by rw [ht]; exact hS2.1, fun q hq hn => ?_⟩) ?_ dJ7_copyOf_9075b_32
    · exact hS2.2.2
    · exact sb_fitC hfit sb_fit0
    · rw [ht]
      by_cases e : q = v
      · subst e
        exact (show H2[q]? = some _ from hat4).trans (show s.heap[q]? = some _ from hat).symm
      · exact hS2.2.1 q hq (fun h => h.elim e (fun h => by omega))
    · rw [ht]
      by_cases e : q = v
      · subst e
        exact (show H2[q]? = some _ from hat4).trans (show s.heap[q]? = some _ from hat).symm
      · exact hS2.2.1 q hq (fun h => h.elim e (fun h => by omega))
  · exact absurd (jb_eq h1 (jb_nat (by omega)) c1) (by omega)
end
section
-- bytes that grow: arrays of bytes whose elements fit (the builders', the class's Bytes)
section J17
variable {p : Program} {l : Launch} {e : Env} {R : Room} {s : State} {m : MethodId} {args : Array Value} {below : List Frame} {meth : Method} {c : Code} {H : Heap} {locs : List Loc} {cells slots : Nat} {Q : State → Prop}
variable {cc : ByteArray} {pc : Nat} {ls : Array Slot} {rest : List Value} {dC : Nat → ClassId} {dI : Nat → Nat → Nat} {ca : Nat → ClassId} {B : jF} {base : Nat} {G0 G : jT} {E : List (Nat × Nat)} {H0 : Heap} {zc zs : Nat} {L : List jPin} {M : List jCt} {I : List jIv} {a k n : Nat} {cA : ClassId} {tys : List (ClassId × FieldType)}
theorem jSt.newL (hh : jSt (dC, dI) B base G0 G E H0 zc zs L M I H locs) (hB : jBok B) (hb0 : base ≤ H.size) {H1 : Heap} {locs1 : List Loc} (hS : va_S (jA base) H0 H1 locs1) (hsz : H1.size = H.size + 1) (hfr : ∀ q, q < H.size → H1[q]? = H[q]?) {w : Nat} (hT : jTot H1 ≤ jTot H + w) (hk : k < 1000) (hb : B k n (va_up G H.size (some (k, n))) H.size H1) : jSt (dC, dI) B base G0 (va_up G H.size (some (k, n))) E H0 (zc + 1) (zs + w) L M I H1 locs1 := by
  obtain ⟨h1, h2, h3, h4, h5, h6, h7, h8, h9⟩ := hh
  have hn := h2.fresh
  have hle : jLe G (va_up G H.size (some (k, n))) := jLe.new hn
  have key : ∀ kb b ib v, jf (dC, dI) kb b ib v H → jf (dC, dI) kb b ib v H1 := fun kb b ib v hf => hf.kept (hfr b hf.lt)
  have hX1 := (h2.grow hB (k, n) hb0 hsz hfr).cls (jUp_self) hb
  refine ⟨hS, hX1, fun q hq => ?_, ⟨fun a kb nb ib v ha he hf => key kb a ib v (h4.1 a kb nb ib v ha he hf), fun a kb nb ha g1 g2 he => ?_⟩, h5.tr hle, by omega, by omega, fun q hq => ?_, fun q hq => ?_⟩
  · obtain ⟨⟨nq, g1⟩, g2⟩ := h3 q hq
    exact ⟨⟨nq, hle _ _ g1⟩, key _ _ _ _ g2⟩
  · exact (hfr a (h2.2 _ _ (h5 _ _ ha)).2).trans (h4.2 a kb nb ha g1 g2 he)
  · obtain ⟨g1, g2, g3, g4⟩ := h8 q hq
    exact ⟨hle _ _ g1, g2, g3, g4.kept (hfr _ (h2.2 _ _ g1).2)⟩
  · obtain ⟨g1, g2⟩ := h9 q hq
    refine ⟨g2 H H1 ⟨fun a kb nb ib v _ _ hf => key kb a ib v hf, fun a kb nb ha _ _ _ => hfr a (h2.2 _ _ ha).2⟩ g1, fun Ha Hb hA => g2 Ha Hb (hA.low hle)⟩
/-- Arrays.copyOf of bytes to a greater length, in a walk: the copy is typed at once -/
theorem j7_copyb {own : String} {index : Nat} {Ts : List Cond} {nL LC LS n1 : Nat} {z : Int32} (hC : CallFix p m c cc nL s args Ts own) (hK : va_K (dC, dI) vwCl tys s) (hG : jG dC dI ca base s) (hh : jSt (dC, dI) B base G0 G E s.heap zc zs L M I H locs) (hB : jBok B) (hBk : ∀ n G a H, B k n G a H ↔ jAr (dC, dI) (ca 0) jBf n a H) (hk : k < 1000) (hb0 : base ≤ s.heap.size) (ha : G a = some (k, n)) (hz : z.toInt = n1) (hn : n < n1) (hm : n1 ≤ 2000000) (hLC : H.size + 1 ≤ LC) (hLS : jTot H + n1 ≤ LS) (hRc : R.cells = LC - s.heap.size) (hRs : R.slots = LS - jTot s.heap)
    (cw : CallB R s args own index yJ7_copyOf_9075b cJ7_copyOf_9075b 3 (some (.array .byte)) (jw yJ7_copyOf_9075b cJ7_copyOf_9075b 3 (some (.array .byte))) { frames := 1, cells := LC - H.size, slots := LS - jTot H, locals := 40 } (LC - H.size) (LS - jTot H) 2 ∧ (Cond.static yJ7_copyOf_9075b).before args s = true) (hsz : ls.size = nL) (hW : (rest.map fun v => v.category).sum ≤ 8) (hdg : decode cc pc = .ok (.invokestatic index, 3))
    (kk : ∀ (H1 : Heap) (locs1 : List Loc), H1.size = H.size + 1 → jTot H1 ≤ jTot H + n1 → jSt (dC, dI) B base G0 (va_up G H.size (some (k, n1))) E s.heap (zc + 1) (zs + n1) L M I H1 locs1 → W p l e R s m args below meth c H1 locs1 (zc + 1) (zs + n1) Q (F0 m (pc + 3) ls (.ref H.size :: rest))) : W p l e R s m args below meth c H locs cells slots Q (F0 m pc ls (.int z :: .ref a :: rest)) := by
  obtain ⟨f, g1, g2⟩ := hh.byt hBk hk ha
  refine W.room (fun r1 r2 => ?_)
  refine va_callr (A0 := jA base) (H0 := s.heap) (va_runS (As := [.ref a, .int z]) (rest := rest) hC (wJ7_copyOf_9075b l dC dI ca base LC LS H a n n1 f z) cw ⟨fun a U g mk q => by obtain ⟨q0, q1, q2, qK, q9⟩ := q; exact ⟨q0, q1, q2, jG.calling g mk a qK, q9⟩, fun U hU hW => ⟨rfl, hU, g1, hG.step hW hU hh.1, g2, hz, hn, hm, hLC, hLS⟩⟩ rfl rfl hsz rfl (by show 2 * 0 + _ ≤ 8; omega) hdg ⟨by omega, by omega⟩) hh.1 (fun q h9 h => absurd h9 (Nat.not_lt.mpr h)) (fun q h => h.elim (fun h => by rw [h]; exact (hh.ab ha).1) (fun h => by show base ≤ q; omega)) (fun f9 a9 t H1 locs1 ht hvm hw hB9 hz1 hk1 hS1 => ?_)
  obtain ⟨rfl, hat9, hsz9, hfr9, hT9⟩ := hB9
  rw [ht] at hat9 hsz9 hT9
  have hfr9 : ∀ q, q < H.size → H1[q]? = H[q]? := fun q hq => by rw [← ht]; exact hfr9 q hq
  have h9 := hh.newL (k := k) (n := n1) hB (Nat.le_trans hb0 r1) hS1 hsz9 hfr9 hT9 hk ((hBk _ _ _ _).mpr ⟨f9, hat9, fun j _ => hw j⟩)
  exact W.tight (c2 := zc + 1) (n2 := zs + n1) h9.2.2.2.2.2.1 h9.2.2.2.2.2.2.1 (kk H1 locs1 hsz9 hT9 h9)
end J17
end
section
def jPw (m : Nat) : Prop := ∃ k, k ≤ 16 ∧ m = 16 * 2 ^ k
theorem jPw.le {m : Nat} (h : jPw m) : 16 ≤ m ∧ m ≤ 1048576 := by
  obtain ⟨k, hk, rfl⟩ := h
  have h1 : 2 ^ k ≤ 2 ^ 16 := Nat.pow_le_pow_right (by decide) hk
  have h2 : 0 < 2 ^ k := Nat.two_pow_pos k
  have h3 : (2 : Nat) ^ 16 = 65536 := by decide
  omega
theorem jPw.cg {n m : Nat} (h : jPw n) (e : n = m) : jPw m := e ▸ h
theorem jPw.dbl {n m : Nat} (h : jPw n) (h1 : n < 1000000) (e : m = 2 * n) : jPw m := by
  obtain ⟨k, hk, rfl⟩ := h
  by_cases q : k = 16
  · subst q
    have h3 : (2 : Nat) ^ 16 = 65536 := by decide
    omega
  · exact ⟨k + 1, by omega, by rw [Nat.pow_succ]; omega⟩
def jBkd (n : Nat) : Nat := if n = 4000 then 197 else 196
def jBr (n : Nat) (G : jT) : Value → Prop := fun v => ∃ (x m : Nat), v = .ref x ∧ G x = some (jBkd n, m) ∧ 16 ≤ m ∧ m ≤ 1048576 ∧ (n = 0 → jPw m) ∧ (n = 0 ∨ m = n)
theorem jBr.mk6 {n m x : Nat} {G : jT} (hn : n ≠ 4000) (hg : G x = some (196, m)) (h1 : 16 ≤ m) (h2 : m ≤ 1048576) (h3 : n = 0 → jPw m) (h4 : n = 0 ∨ m = n) : jBr n G (.ref x) := ⟨x, m, rfl, by rw [jBkd, if_neg hn]; exact hg, h1, h2, h3, h4⟩
theorem jBr.mk7 {x : Nat} {G : jT} (hg : G x = some (197, 4000)) : jBr 4000 G (.ref x) := ⟨x, 4000, rfl, by rw [jBkd, if_pos rfl]; exact hg, by decide, by decide, fun h => by omega, Or.inr rfl⟩
def jBct (n : Nat) : Value → Prop := fun v => ∃ x : Int32, v = .int x ∧ 0 ≤ x.toInt ∧ x.toInt ≤ 1048576 ∧ (n = 0 ∨ x.toInt ≤ n)
def F2 (n : Nat) (G : jT) : List (Value → Prop) := [jBr n G, jBct n]
end
section
-- new objects: raw while they are made, typed when they are whole
def jFx : List (Value → Prop) → List Value → Prop
  | [], _ => True
  | _ :: _, [] => False
  | p :: P, v :: fs => p v ∧ jFx P fs
theorem jFx.at : ∀ (P : List (Value → Prop)) (fs : List Value), jFx P fs → ∀ (i : Nat) (p : Value → Prop), P[i]? = some p → p (vp_V fs i)
  | [], _, _, i, p, hp => by simp at hp
  | q :: P, [], h, i, p, hp => by simp [jFx] at h
  | q :: P, v :: fs, h, i, p, hp => by
    obtain ⟨h1, h2⟩ := h
    cases i with
    | zero =>
      have e : q = p := by simpa using hp
      rw [← e]; exact h1
    | succ j =>
      have e : P[j]? = some p := by simpa using hp
      exact jFx.at P fs h2 j p e
theorem jLe.typ {G : jT} {a : Nat} {t : Option (Nat × Nat)} (hn : ∀ t, G a ≠ some t) : jLe G (va_up G a t) := fun b u hb => by
  have hne : b ≠ a := fun e => hn u (by rw [← e]; exact hb)
  rw [va_up_ne _ _ hne]; exact hb
/-- the cells that were there are as they were, and have the kinds that they had -/
def jKe (G0 G : jT) (H0 H : Heap) : Prop := (∀ q, q < H0.size → H[q]? = H0[q]?) ∧ ∀ q t, q < H0.size → G q = some t → G0 q = some t
/-- the same, but for one -/
def jKx (r : Nat) (G0 G : jT) (H0 H : Heap) : Prop := (∀ q, q < H0.size → q ≠ r → H[q]? = H0[q]?) ∧ ∀ q t, q < H0.size → q ≠ r → G q = some t → G0 q = some t
theorem jKe.rf {G : jT} {H : Heap} : jKe G G H H := ⟨fun _ _ => rfl, fun _ _ _ h => h⟩
theorem jKx.rf {r : Nat} {G : jT} {H : Heap} : jKx r G G H H := ⟨fun _ _ _ => rfl, fun _ _ _ _ h => h⟩
theorem jLtz {H0 H : Heap} {q : Nat} (h : q < H0.size) (e : H[q]? = H0[q]?) : q < H.size := by
  rw [Array.getElem?_eq_getElem h] at e
  exact (Array.getElem?_eq_some_iff.mp e).1
theorem jKe.tr {G0 G G1 : jT} {H0 H H1 : Heap} (h : jKe G0 G H0 H) (h1 : jKe G G1 H H1) : jKe G0 G1 H0 H1 :=
  ⟨fun q hq => (h1.1 q (jLtz hq (h.1 q hq))).trans (h.1 q hq), fun q t hq hg => h.2 q t hq (h1.2 q t (jLtz hq (h.1 q hq)) hg)⟩
theorem jKx.tr {r : Nat} {G0 G G1 : jT} {H0 H H1 : Heap} (h : jKx r G0 G H0 H) (h1 : jKe G G1 H H1) : jKx r G0 G1 H0 H1 :=
  ⟨fun q hq hn => (h1.1 q (jLtz hq (h.1 q hq hn))).trans (h.1 q hq hn), fun q t hq hn hg => h.2 q t hq hn (h1.2 q t (jLtz hq (h.1 q hq hn)) hg)⟩
theorem jKx.put {r : Nat} {G0 G : jT} {H0 H H1 : Heap} (h : jKx r G0 G H0 H) (hr : ∀ q, q ≠ r → H1[q]? = H[q]?) : jKx r G0 G H0 H1 := ⟨fun q hq hn => (hr q hn).trans (h.1 q hq hn), h.2⟩
theorem jKx.typ {r : Nat} {G0 G : jT} {H0 H : Heap} {t : Option (Nat × Nat)} (h : jKx r G0 G H0 H) : jKx r G0 (va_up G r t) H0 H := ⟨h.1, fun q t hq hn hg => h.2 q t hq hn (by rw [va_up_ne _ _ hn] at hg; exact hg)⟩
theorem jKe.new {G : jT} {H H1 : Heap} {t : Option (Nat × Nat)} (hfr : ∀ q, q < H.size → H1[q]? = H[q]?) : jKe G (va_up G H.size t) H H1 := ⟨hfr, fun q t hq hg => by rw [va_up_ne _ _ (Nat.ne_of_lt hq)] at hg; exact hg⟩
theorem jKe.raw {G : jT} {H H1 : Heap} (hfr : ∀ q, q < H.size → H1[q]? = H[q]?) : jKe G G H H1 := ⟨hfr, fun _ _ _ h => h⟩
theorem jKe.nr {G G1 : jT} {H H1 : Heap} {a : Nat} (h : jKe G G1 H H1) (hlt : a < H.size) (hn : ∀ t, G a ≠ some t) : ∀ t, G1 a ≠ some t := fun t e => hn t (h.2 a t hlt e)
section J20
variable {p : Program} {l : Launch} {e : Env} {R : Room} {s : State} {m : MethodId} {args : Array Value} {below : List Frame} {meth : Method} {c : Code} {H : Heap} {locs : List Loc} {cells slots : Nat} {Q : State → Prop}
variable {cc : ByteArray} {pc : Nat} {ls : Array Slot} {rest : List Value} {dC : Nat → ClassId} {dI : Nat → Nat → Nat} {ca : Nat → ClassId} {B : jF} {base : Nat} {G0 G : jT} {E : List (Nat × Nat)} {H0 : Heap} {zc zs : Nat} {L : List jPin} {M : List jCt} {I : List jIv} {a k n i index N : Nat} {tys : List (ClassId × FieldType)} {own C : String} {T : u_T} {fs : List Value}
theorem jX.oth {B : jF} {base : Nat} {G : jT} {H H1 : Heap} (h : jX B base G [] H) (hB : jBok B) (hk : ∀ b t, G b = some t → H1[b]? = H[b]?) (hsz : H.size ≤ H1.size) : jX B base G [] H1 :=
  ⟨fun b k n hb h1 hx => hB.1 k n G b H H1 (fun q hq => by
    rcases hq with e | ⟨i, e⟩
    · rw [e]; exact hk b _ hb
    · exact hk q _ e) (h.1 b k n hb h1 hx), fun b t hb => ⟨(h.2 b t hb).1, Nat.lt_of_lt_of_le (h.2 b t hb).2 hsz⟩⟩
theorem jSt.oth (hh : jSt (dC, dI) B base G0 G E H0 zc zs L M I H locs) (hB : jBok B) {H1 : Heap} {locs1 : List Loc} {wc ws : Nat} (hk : ∀ b t, G b = some t → H1[b]? = H[b]?) (hS : va_S (jA base) H0 H1 locs1) (hsz : H.size ≤ H1.size) (hz : H1.size ≤ H.size + wc) (ht : jTot H1 ≤ jTot H + ws) : jSt (dC, dI) B base G0 G E H0 (zc + wc) (zs + ws) L M I H1 locs1 := by
  obtain ⟨h1, h2, h3, h4, h5, h6, h7, h8, h9⟩ := hh
  refine ⟨hS, h2.oth hB hk hsz, fun q hq => ?_, ⟨fun b kb nb ib v hb he hf => (h4.1 b kb nb ib v hb he hf).kept (hk b _ (h5 _ _ hb)), fun b kb nb hb g1 g2 he => (hk b _ (h5 _ _ hb)).trans (h4.2 b kb nb hb g1 g2 he)⟩, h5, by omega, by omega, fun q hq => ?_, h9.ag (fun q hq => ⟨fun b kb nb ib v hb _ hf => hf.kept (hk b _ hb), fun b kb nb hb _ _ _ => hk b _ hb⟩)⟩
  · obtain ⟨⟨nq, g1⟩, g2⟩ := h3 q hq
    exact ⟨⟨nq, g1⟩, g2.kept (hk _ _ g1)⟩
  · obtain ⟨g1, g2, g3, g4⟩ := h8 q hq
    exact ⟨g1, g2, g3, g4.kept (hk _ _ g1)⟩
/-- a write to a cell that has no kind -/
theorem jSt.rawput (hh : jSt (dC, dI) B base G0 G E H0 zc zs L M I H locs) (hB : jBok B) (hn : ∀ t, G a ≠ some t) (hba : base ≤ a) {H1 : Heap} {locs1 : List Loc} (hsz : H1.size = H.size) (hfr : ∀ q, q ≠ a → H1[q]? = H[q]?) (ht : jTot H1 = jTot H) (hL : ∀ q ∈ locs1, base ≤ q.base) : jSt (dC, dI) B base G0 G E H0 zc zs L M I H1 locs1 :=
  hh.oth (wc := 0) (ws := 0) hB (fun b t hb => hfr b (fun e => hn t (by rw [← e]; exact hb))) (jS_put hh.1 hsz hfr hba hL) (by omega) (by omega) (by omega)
/-- the cell gets its kind -/
theorem jSt.typ (hh : jSt (dC, dI) B base G0 G E H0 zc zs L M I H locs) (hB : jBok B) (hn : ∀ t, G a ≠ some t) (hba : base ≤ a) (hlt : a < H.size) (hb : B k n (va_up G a (some (k, n))) a H) : jSt (dC, dI) B base G0 (va_up G a (some (k, n))) E H0 zc zs L M I H locs := by
  obtain ⟨h1, h2, h3, h4, h5, h6, h7, h8, h9⟩ := hh
  have hg : G a = none := by
    cases h : G a with
    | none => rfl
    | some t => exact absurd h (hn t)
  have hle : jLe G (va_up G a (some (k, n))) := fun b t hb => by
    have hne : b ≠ a := fun e => by rw [e, hg] at hb; cases hb
    rw [va_up_ne _ _ hne]; exact hb
  refine ⟨h1, ⟨fun b kb nb hb1 hk1 hx => ?_, fun b t hb1 => ?_⟩, h3.lift hle, h4, h5.tr hle, h6, h7, h8.lift hle, h9.lift hle⟩
  · by_cases e : b = a
    · subst e
      rw [jUp_self] at hb1
      cases hb1
      exact hb
    · rw [va_up_ne _ _ e] at hb1
      exact hB.2 kb nb G _ b H hle (h2.1 b kb nb hb1 hk1 hx)
  · by_cases e : b = a
    · subst e; exact ⟨hba, hlt⟩
    · rw [va_up_ne _ _ e] at hb1
      exact h2.2 b t hb1
theorem jOb.of {F : Nat → jT → List (Value → Prop)} (hBk : ∀ n G a H, B k n G a H ↔ jOb (dC, dI) k N (F n G) a H) (hc : vwCl[k]? = some (C, T, N)) (h : va_at (dC, dI) vwCl (a, .inr (k, fs)) H) (hF : jFx (F n G) fs) : B k n G a H := by
  obtain ⟨r, h1, h2⟩ := h
  have hr : r = (C, T, N) := Option.some.inj (h1.symm.trans hc)
  subst hr
  exact (hBk _ _ _ _).mpr ⟨vp_V fs, h2, fun i p hp => jFx.at _ _ hF i p hp⟩
/-- the fields of a cell that has just got its kind -/
theorem jf.raw (hc : vwCl[k]? = some (C, T, N)) (h : va_at (dC, dI) vwCl (a, .inr (k, fs)) H) (hi : i < N) : jf (dC, dI) k a i (vp_V fs i) H := by
  obtain ⟨r, h1, cell, q1, q2, q3, q4⟩ := h
  have hr : r = (C, T, N) := Option.some.inj (h1.symm.trans hc)
  subst hr
  exact ⟨_, hc, hi, cell, q1, q2, q3, q4 i hi⟩
theorem j7_putR (hexec : p.tables.exec = Jvm.exec) (hb : c.code = cc) (hown : s.vm.findClass own = some m.cls) (hK : va_K (dC, dI) vwCl tys s) (hh : jSt (dC, dI) B base G0 G E H0 zc zs L M I H locs) (hB : jBok B) (hAp : jAp (dC, dI)) (hraw : va_at (dC, dI) vwCl (a, .inr (k, fs)) H) (hn : ∀ t, G a ≠ some t) (hba : base ≤ a) (hc : vwCl[k]? = some (C, T, N)) (hi : i < N) (hl : i < fs.length) (hlay : (u_lay C T i).before args s = true) (hfin : (T i).2.2.2 = false) (hlink : (Cond.fieldLink own index (T i).1 (T i).2.1 (T i).2.2.1).before args s = true) {ty : FieldType} {v : Value} (hd : parseFieldDescriptor (T i).2.2.1 = some ty) (hnar : narrow ty v = v) (hfit : fits ty v = true) (hdg : decode cc pc = .ok (.putfield index, 3))
    (kk : ∀ (H1 : Heap) (locs1 : List Loc), va_at (dC, dI) vwCl (a, .inr (k, fs.set i v)) H1 → (∀ q, q ≠ a → H1[q]? = H[q]?) → jSt (dC, dI) B base G0 G E H0 zc zs L M I H1 locs1 → W p l e R s m args below meth c H1 locs1 cells slots Q (F0 m (pc + 3) ls rest)) : W p l e R s m args below meth c H locs cells slots Q (F0 m pc ls (v :: .ref a :: rest)) := by
  obtain ⟨r, h1, cell, q1, q2, q3, q4⟩ := hraw
  have hr : r = (C, T, N) := Option.some.inj (h1.symm.trans hc)
  subst hr
  obtain ⟨hS, hfc, kC, hkC, hkind⟩ := hK.1 k _ hc
  obtain ⟨cf, kf, fi, f, hfi, hsl⟩ := hS i hi
  have hst := (u_facts hfc hkC (j7_lay hlay) hfi).1
  unfold u_lay at hlay
  rw [if_neg (by rw [hfin]; decide)] at hlay
  have h6 := u_store hfc hkC hkind hlay hfi hd hnar hfit
  have hap : ∀ x y, x < N → y < N → x ≠ y → dI k x ≠ dI k y := fun x y hx hy => hAp k _ hc x y hx hy
  refine W.putK hexec hb (f := f) ⟨hown, hlink, ⟨_, _, _, hfi⟩, hst⟩ (by rw [q2]; exact h6) q1 q3 (by rw [hsl]; exact k2_hasslot (q4 i hi)) rfl rfl hdg fun H1 e1 e2 e3 => ?_
  rw [hsl] at e1 ⊢
  refine kk H1 _ ⟨_, hc, t_OB.to (V := updV (vp_V fs) i v) ⟨_, e1, q2, q3, t_set q4 hap hi v⟩ (fun j _ => vp_updV_set hl v j)⟩ e3 (hh.rawput hB hn hba e2 e3 (jTot_set e2 q1 e1 (jSet_sz _ _ _) e3) (fun q hq => ?_))
  rcases List.mem_append.mp hq with h | h
  · exact hh.1.2.2 q h
  · cases List.mem_singleton.mp h; exact hba
/-- an array of ints that is typed at once; all else is as it was -/
theorem j7_newiK {P : Nat → Int32 → Prop} {cA : ClassId} (hexec : p.tables.exec = Jvm.exec) (hb : c.code = cc) (hK : va_K (dC, dI) vwCl tys s) (hh : jSt (dC, dI) B base G0 G E s.heap zc zs L M I H locs) (hB : jBok B) {atype : ArrayType} {ty : FieldType} (harr : (Cond.arrayClass ty).before args s = true) (hty : newarray.typeOf atype = ty) (hd : defaultValue ty = .int 0) (hra : ∀ cA, va_RA s cA ty → s.vm.findClass ("[" ++ ty.toString) = some cA) (hBk : ∀ n G a H, B k n G a H ↔ jAr (dC, dI) cA P n a H) (t0 : Nat) (ht : tys[t0]? = some (cA, ty)) (hcb : componentBytes ty ≤ 8) (hk : k < 1000) (hb0 : base ≤ s.heap.size) {z : Int32} {x : Int} (hi : z.toInt = x) (h0 : 0 ≤ x ∧ x ≤ 200000) (hP : ∀ j, P j 0) (hR : zc + 1 ≤ R.cells) (hR2 : zs + x.toNat ≤ R.slots) (hdg : decode cc pc = .ok (.newarray atype, 2))
    (kk : ∀ (H1 : Heap), (∀ q, q < H.size → H1[q]? = H[q]?) → jSt (dC, dI) B base G0 (va_up G H.size (some (k, x.toNat))) E s.heap (zc + 1) (zs + x.toNat) L M I H1 locs → W p l e R s m args below meth c H1 locs (zc + 1) (zs + x.toNat) Q (F0 m (pc + 2) ls (.ref H.size :: rest))) : W p l e R s m args below meth c H locs cells slots Q (F0 m pc ls (.int z :: rest)) := by
  have hn0 : ¬ z < 0 := jb_n0 hi h0.1
  have hcl : z.toNatClampNeg = x.toNat := jb_cl hi h0.1
  have hsz := hh.1.1
  have hmu : x.toNat * componentBytes ty ≤ 200000 * 8 := Nat.mul_le_mul (by omega) hcb
  refine W.tight (c2 := zc) (n2 := zs) hh.2.2.2.2.2.1 hh.2.2.2.2.2.2.1 ?_
  refine j_newi hexec hb harr hty hd hra hK t0 ht hn0 hcl (by omega) hR hR2 hdg (fun H1 hat hz1 hfr hT => ?_)
  exact kk H1 hfr (hh.new hB (Nat.le_trans hb0 hsz) hz1 hfr hT hk ((hBk _ _ _ _).mpr ⟨fun _ => 0, hat, fun j _ => hP j⟩))
end J20
-- all growing Bytes hold no more than they have room for
abbrev jFy : List (Nat × Nat) := [(2, 0), (2, 1)]
def jYb (dC : Nat → ClassId) (dI : Nat → Nat → Nat) (G : jT) (H : Heap) : Prop := ∀ a, G a = some (2, 0) → ∃ (c : Int32) (x m : Nat), jf (dC, dI) 2 a 1 (.int c) H ∧ jf (dC, dI) 2 a 0 (.ref x) H ∧ G x = some (196, m) ∧ c.toInt ≤ m ∧ m ≤ 1048576
theorem jYb.ie {dC : Nat → ClassId} {dI : Nat → Nat → Nat} {G : jT} {H : Heap} (h : jYb dC dI G H) : ((jFy, jYb dC dI G) : jIv).2 H ∧ ∀ H1 H2 : Heap, jAg (dC, dI) G ((jFy, jYb dC dI G) : jIv).1 H1 H2 → ((jFy, jYb dC dI G) : jIv).2 H1 → ((jFy, jYb dC dI G) : jIv).2 H2 :=
  ⟨h, fun H1 H2 hA h1 a ha => by
    obtain ⟨c, x, m, g1, g2, g3, g4⟩ := h1 a ha
    exact ⟨c, x, m, hA.1 a 2 0 1 _ ha rfl g1, hA.1 a 2 0 0 _ ha rfl g2, g3, g4⟩⟩
theorem jYb.grow {dC : Nat → ClassId} {dI : Nat → Nat → Nat} {G G1 : jT} {H : Heap} {ks : List Nat} (h : jYb dC dI G H) (hle : jLe G G1) (hN : jNk ks G G1) (hk : ks.contains 2 = true) : jYb dC dI G1 H := fun a ha => by
  obtain ⟨c, x, m, g1, g2, g3, g4⟩ := h a (hN a 2 0 ha hk)
  exact ⟨c, x, m, g1, g2, hle _ _ g3, g4⟩
theorem jYb.put {dC : Nat → ClassId} {dI : Nat → Nat → Nat} {G : jT} {r n : Nat} {H H1 : Heap} (h : jYb dC dI G H) (hr : ∀ q, q ≠ r → H1[q]? = H[q]?) (hx : G r = some (2, n)) (hp : n = 0 → ∃ (c : Int32) (x m : Nat), jf (dC, dI) 2 r 1 (.int c) H1 ∧ jf (dC, dI) 2 r 0 (.ref x) H1 ∧ G x = some (196, m) ∧ c.toInt ≤ m ∧ m ≤ 1048576) : jYb dC dI G H1 := fun a ha => by
  by_cases e : a = r
  · subst e
    rw [hx] at ha
    exact hp (Prod.mk.inj (Option.some.inj ha)).2
  · obtain ⟨c, x, m, g1, g2, g3, g4⟩ := h a ha
    exact ⟨c, x, m, g1.kept (hr a e), g2.kept (hr a e), g3, g4⟩
end
section
-- less is known of the room
theorem jSt.wk {dC : Nat → ClassId} {dI : Nat → Nat → Nat} {B : jF} {base : Nat} {G0 G : jT} {E : List (Nat × Nat)} {H0 : Heap} {zc zs : Nat} {L : List jPin} {M : List jCt} {I : List jIv} {H : Heap} {locs : List Loc} (hh : jSt (dC, dI) B base G0 G E H0 zc zs L M I H locs) {zc1 zs1 : Nat} (h1 : zc ≤ zc1) (h2 : zs ≤ zs1) : jSt (dC, dI) B base G0 G E H0 zc1 zs1 L M I H locs := by
  obtain ⟨g1, g2, g3, g4, g5, g6, g7, g8, g9⟩ := hh
  exact ⟨g1, g2, g3, g4, g5, by omega, by omega, g8, g9⟩
end
section
-- formulas whose nodes may be -1
def jLe5 (f : Nat → Int32) (r : Int) : Prop := ∀ j : Int, 0 ≤ j → j < r → jSo f j % 16 = 5
theorem jLe5.step {f : Nat → Int32} {r r1 : Int} (h : jLe5 f r) (h1 : r1 = r + 1) (h2 : jSo f r % 16 = 5) : jLe5 f r1 := fun j a b => by
  by_cases e : j = r
  · subst e; exact h2
  · exact h j a (by omega)
/-- the number of leading quantifiers -/
def jLd (f : Nat → Int32) (n : Nat) (r : Int) : Prop := jLe5 f r ∧ (r = n ∨ r = 12 ∨ jSo f r % 16 ≠ 5)
theorem jLd.uniq {f : Nat → Int32} {n : Nat} {r r1 : Int} (h : jLd f n r) (g : jLd f n r1) (h0 : 0 ≤ r) (h1 : r ≤ n) (h2 : r ≤ 12) (g0 : 0 ≤ r1) (g1 : r1 ≤ n) (g2 : r1 ≤ 12) : r = r1 := by
  rcases Int.lt_trichotomy r r1 with q | q | q
  · have := g.1 r h0 q
    have := h.2
    omega
  · exact q
  · have := h.1 r1 g0 q
    have := g.2
    omega
end
section
theorem dX0_init_0 : decode cX0_init 0 = .ok (.aload_n 0, 1) := by decide +kernel
theorem dX0_init_1 : decode cX0_init 1 = .ok (.invokespecial 1, 3) := by decide +kernel
theorem dX0_init_4 : decode cX0_init 4 = .ok (.aload_n 0, 1) := by decide +kernel
theorem dX0_init_5 : decode cX0_init 5 = .ok (.iload_n 1, 1) := by decide +kernel
theorem dX0_init_6 : decode cX0_init 6 = .ok (.bipush 16, 2) := by decide +kernel
theorem dX0_init_8 : decode cX0_init 8 = .ok (.invokestatic 7, 3) := by decide +kernel
theorem dX0_init_11 : decode cX0_init 11 = .ok (.newarray .byte, 2) := by decide +kernel
theorem dX0_init_13 : decode cX0_init 13 = .ok (.putfield 13, 3) := by decide +kernel
theorem dX0_init_16 : decode cX0_init 16 = .ok (.return_, 1) := by decide +kernel
end
section
-- arrays of references that get their kind when they are filled; arrays of arrays of ints
def jK5 (dC : Nat → ClassId) (dI : Nat → Nat → Nat) (ca : Nat → ClassId) (U : State) : Prop := va_K (dC, dI) vwCl [(ca 8, .array .int)] U ∧ (∃ kA : Class, U.vm.classes[ca 8]? = some kA ∧ kA.kind = .array (ca 1) (.array .int)) ∧ (∃ k1 : Class, U.vm.classes[ca 1]? = some k1) ∧ (Cond.arrayOver (.array .int)).before #[] U = true
def jQk (k most : Nat) (G : jT) : Option Nat → Prop := fun o => ∃ x j, o = some x ∧ G x = some (k, j) ∧ j ≤ most
section J22
variable {p : Program} {l : Launch} {e : Env} {R : Room} {s : State} {m : MethodId} {args : Array Value} {below : List Frame} {meth : Method} {c : Code} {H : Heap} {locs : List Loc} {cells slots : Nat} {Q : State → Prop}
variable {cc : ByteArray} {pc : Nat} {ls : Array Slot} {rest : List Value} {dC : Nat → ClassId} {dI : Nat → Nat → Nat} {ca : Nat → ClassId} {B : jF} {base : Nat} {G0 G : jT} {E : List (Nat × Nat)} {H0 : Heap} {zc zs : Nat} {L : List jPin} {M : List jCt} {I : List jIv} {a k n index : Nat} {tys : List (ClassId × FieldType)} {own C : String} {cA : ClassId} {f : Nat → Option Nat}
end J22
end
section
def jQg (G : jT) : Option Nat → Prop := fun o => ∃ x m, o = some x ∧ G x = some (5, m) ∧ m % 10 = 1
theorem jSz {G : jT} {a k n m : Nat} (h : G a = some (k, n)) (e : n = m) : G a = some (k, m) := e ▸ h
end
section
-- what a method writes of some objects only
def jOl (D : va_G) (G : jT) (k : Nat) (rs : List Nat) (H0 H : Heap) : Prop := ∀ a n i v, a ∉ rs → G a = some (k, n) → jf D k a i v H0 → jf D k a i v H
theorem jOl.rf {D : va_G} {G : jT} {k : Nat} {rs : List Nat} {H : Heap} : jOl D G k rs H H := fun _ _ _ _ _ _ h => h
theorem jOl.put {D : va_G} {G : jT} {k r : Nat} {rs : List Nat} {H0 H H1 : Heap} (h : jOl D G k rs H0 H) (hr : ∀ q, q ≠ r → H1[q]? = H[q]?) (hm : r ∈ rs) : jOl D G k rs H0 H1 := fun a n i v hne ha hf => (h a n i v hne ha hf).kept (hr a (fun q => hne (by rw [q]; exact hm)))
theorem jOl.ie {dC : Nat → ClassId} {dI : Nat → Nat → Nat} {G0 G : jT} {k N : Nat} {rs : List Nat} {C : String} {T : u_T} {F : List (Nat × Nat)} {H0 H : Heap} (hc : vwCl[k]? = some (C, T, N)) (hF : (List.range N).all (fun i => F.contains (k, i)) = true) (hle : jLe G0 G) (h : jOl (dC, dI) G0 k rs H0 H) : ((F, jOl (dC, dI) G0 k rs H0) : jIv).2 H ∧ ∀ H1 H2 : Heap, jAg (dC, dI) G ((F, jOl (dC, dI) G0 k rs H0) : jIv).1 H1 H2 → ((F, jOl (dC, dI) G0 k rs H0) : jIv).2 H1 → ((F, jOl (dC, dI) G0 k rs H0) : jIv).2 H2 := by
  refine ⟨h, fun H1 H2 hA h1 a n i v hne ha hf => ?_⟩
  have g := h1 a n i v hne ha hf
  have g' := g
  obtain ⟨r9, g1, g2, -⟩ := g'
  have e : r9 = (C, T, N) := Option.some.inj (g1.symm.trans hc)
  subst e
  exact hA.1 a k n i v (hle _ _ ha) (List.all_eq_true.mp hF i (List.mem_range.mpr g2)) g
end
section
-- how many digits a number has, as they are written one by one
def jTb (g v : Int) : Prop := (g = 10 ∧ v = 1000000000) ∨ (g = 9 ∧ v = 100000000) ∨ (g = 8 ∧ v = 10000000) ∨ (g = 7 ∧ v = 1000000) ∨ (g = 6 ∧ v = 100000) ∨ (g = 5 ∧ v = 10000) ∨ (g = 4 ∧ v = 1000) ∨ (g = 3 ∧ v = 100) ∨ (g = 2 ∧ v = 10) ∨ (g = 1 ∧ v = 1) ∨ (g = 0 ∧ v = 0)
def jDj (a p g : Int) : Prop := (10 ≤ a ∨ p = 0 ∨ p + g ≤ 1) ∧ (100 ≤ a ∨ p = 0 ∨ p + g ≤ 2) ∧ (1000 ≤ a ∨ p = 0 ∨ p + g ≤ 3) ∧ (10000 ≤ a ∨ p = 0 ∨ p + g ≤ 4) ∧ (100000 ≤ a ∨ p = 0 ∨ p + g ≤ 5) ∧ (1000000 ≤ a ∨ p = 0 ∨ p + g ≤ 6) ∧ (10000000 ≤ a ∨ p = 0 ∨ p + g ≤ 7)
def jNdg (a v g p b : Int) : Prop := jTb g v ∧ ((b = 0 ∧ p = 0) ∨ (b = 1 ∧ 1 ≤ p)) ∧ (b = 0 ∨ g = 0 ∨ 10 * v ≤ a) ∧ jDj a p g
def jNp (a pc n : Int) : Prop := (a < 10 ∧ pc + 1 ≤ n) ∨ (a < 100 ∧ pc + 2 ≤ n) ∨ (a < 1000 ∧ pc + 3 ≤ n) ∨ (a < 10000 ∧ pc + 4 ≤ n) ∨ (a < 100000 ∧ pc + 5 ≤ n) ∨ (a < 1000000 ∧ pc + 6 ≤ n) ∨ (a < 10000000 ∧ pc + 7 ≤ n)
theorem jNdg.start {a : Int} : jNdg a 1000000000 10 0 0 := ⟨Or.inl ⟨rfl, rfl⟩, Or.inl ⟨rfl, rfl⟩, Or.inl rfl, Or.inr (Or.inl rfl), Or.inr (Or.inl rfl), Or.inr (Or.inl rfl), Or.inr (Or.inl rfl), Or.inr (Or.inl rfl), Or.inr (Or.inl rfl), Or.inr (Or.inl rfl)⟩
theorem jTb.step {g v : Int} (h : jTb g v) (hv : 0 < v) : jTb (g - 1) (v / 10) ∧ 1 ≤ g := by
  unfold jTb at h ⊢
  rcases h with ⟨rfl, rfl⟩ | ⟨rfl, rfl⟩ | ⟨rfl, rfl⟩ | ⟨rfl, rfl⟩ | ⟨rfl, rfl⟩ | ⟨rfl, rfl⟩ | ⟨rfl, rfl⟩ | ⟨rfl, rfl⟩ | ⟨rfl, rfl⟩ | ⟨rfl, rfl⟩ | ⟨rfl, rfl⟩ <;> first | omega | (exact ⟨by decide, by decide⟩)
/-- what a digit that is written tells of the number -/
theorem jNdg.ge {a v g p b : Int} (h : jNdg a v g p b) (hv : 0 < v) (hc : b = 1 ∨ 1 ≤ a / v ∨ v = 1) : v = 1 ∨ v ≤ a := by
  obtain ⟨h1, h2, h3, -⟩ := h
  rcases hc with hc | hc | hc
  · rcases h3 with h3 | h3 | h3
    · omega
    · unfold jTb at h1; omega
    · omega
  · right
    have h4 : v * 1 ≤ v * (a / v) := Int.mul_le_mul_of_nonneg_left hc (by omega)
    have h5 : v * (a / v) ≤ a := Int.mul_ediv_self_le (by omega)
    omega
  · left; exact hc
theorem jD1 {a p g : Int} {A J : Int} (h : A ≤ a ∨ p = 0 ∨ p + g ≤ J) (hp : p = 0 → A ≤ a ∨ g ≤ J) : A ≤ a ∨ p + 1 = 0 ∨ p + 1 + (g - 1) ≤ J := by
  rcases h with h | h | h
  · exact Or.inl h
  · rcases hp h with q | q
    · exact Or.inl q
    · right; right; omega
  · right; right; omega
theorem jTb.g1 {g v a : Int} (h : jTb g v) (hv : 0 < v) (ha : v = 1 ∨ v ≤ a) : (10 ≤ a ∨ g ≤ 1) ∧ (100 ≤ a ∨ g ≤ 2) ∧ (1000 ≤ a ∨ g ≤ 3) ∧ (10000 ≤ a ∨ g ≤ 4) ∧ (100000 ≤ a ∨ g ≤ 5) ∧ (1000000 ≤ a ∨ g ≤ 6) ∧ (10000000 ≤ a ∨ g ≤ 7) := by
  unfold jTb at h
  rcases h with ⟨rfl, rfl⟩ | ⟨rfl, rfl⟩ | ⟨rfl, rfl⟩ | ⟨rfl, rfl⟩ | ⟨rfl, rfl⟩ | ⟨rfl, rfl⟩ | ⟨rfl, rfl⟩ | ⟨rfl, rfl⟩ | ⟨rfl, rfl⟩ | ⟨rfl, rfl⟩ | ⟨rfl, rfl⟩ <;> first | omega | (refine ⟨?_, ?_, ?_, ?_, ?_, ?_, ?_⟩ <;> omega)
theorem jTb.ten {g v a : Int} (h : jTb g v) (hv : 0 < v) (ha : v = 1 ∨ v ≤ a) : g - 1 = 0 ∨ 10 * (v / 10) ≤ a := by
  unfold jTb at h
  rcases h with ⟨rfl, rfl⟩ | ⟨rfl, rfl⟩ | ⟨rfl, rfl⟩ | ⟨rfl, rfl⟩ | ⟨rfl, rfl⟩ | ⟨rfl, rfl⟩ | ⟨rfl, rfl⟩ | ⟨rfl, rfl⟩ | ⟨rfl, rfl⟩ | ⟨rfl, rfl⟩ | ⟨rfl, rfl⟩ <;> omega
theorem jNdg.put {a v g p b p1 b1 v1 : Int} (h : jNdg a v g p b) (hv : 0 < v) (hc : b = 1 ∨ 1 ≤ a / v ∨ v = 1) (hp : p1 = p + 1) (hb : b1 = 1) (hv1 : v1 = v / 10) : jNdg a v1 (g - 1) p1 b1 := by
  subst hp hb hv1
  have hge := h.ge hv hc
  obtain ⟨h1, h2, h3, d1, d2, d3, d4, d5, d6, d7⟩ := h
  obtain ⟨e1, e2, e3, e4, e5, e6, e7⟩ := h1.g1 hv hge
  exact ⟨(h1.step hv).1, Or.inr ⟨rfl, by rcases h2 with h2 | h2 <;> omega⟩, Or.inr (h1.ten hv hge), jD1 d1 (fun _ => e1), jD1 d2 (fun _ => e2), jD1 d3 (fun _ => e3), jD1 d4 (fun _ => e4), jD1 d5 (fun _ => e5), jD1 d6 (fun _ => e6), jD1 d7 (fun _ => e7)⟩
theorem jNdg.lt {a v g p b pc n : Int} (h : jNdg a v g p b) (hv : 0 < v) (hc : b = 1 ∨ 1 ≤ a / v ∨ v = 1) (hn : jNp a pc n) : pc + p < n := by
  have hge := h.ge hv hc
  obtain ⟨h1, h2, h3, d1, d2, d3, d4, d5, d6, d7⟩ := h
  obtain ⟨e1, e2, e3, e4, e5, e6, e7⟩ := h1.g1 hv hge
  have hg := (h1.step hv).2
  unfold jNp at hn
  rcases hn with hn | hn | hn | hn | hn | hn | hn
  · clear d2 d3 d4 d5 d6 d7 e2 e3 e4 e5 e6 e7; omega
  · clear d1 d3 d4 d5 d6 d7 e1 e3 e4 e5 e6 e7; omega
  · clear d1 d2 d4 d5 d6 d7 e1 e2 e4 e5 e6 e7; omega
  · clear d1 d2 d3 d5 d6 d7 e1 e2 e3 e5 e6 e7; omega
  · clear d1 d2 d3 d4 d6 d7 e1 e2 e3 e4 e6 e7; omega
  · clear d1 d2 d3 d4 d5 d7 e1 e2 e3 e4 e5 e7; omega
  · clear d1 d2 d3 d4 d5 d6 e1 e2 e3 e4 e5 e6; omega
theorem jNdg.end {a v g p b : Int} (h : jNdg a v g p b) (hv : v ≤ 0) : (10 ≤ a ∨ p ≤ 1) ∧ (100 ≤ a ∨ p ≤ 2) ∧ (1000 ≤ a ∨ p ≤ 3) ∧ (10000 ≤ a ∨ p ≤ 4) ∧ (100000 ≤ a ∨ p ≤ 5) ∧ (1000000 ≤ a ∨ p ≤ 6) ∧ (10000000 ≤ a ∨ p ≤ 7) := by
  obtain ⟨h1, h2, h3, d1, d2, d3, d4, d5, d6, d7⟩ := h
  have hg : g = 0 := by unfold jTb at h1; clear h2 h3 d1 d2 d3 d4 d5 d6 d7; omega
  clear h1 h2 h3
  subst hg
  refine ⟨?_, ?_, ?_, ?_, ?_, ?_, ?_⟩
  · clear d2 d3 d4 d5 d6 d7; omega
  · clear d1 d3 d4 d5 d6 d7; omega
  · clear d1 d2 d4 d5 d6 d7; omega
  · clear d1 d2 d3 d5 d6 d7; omega
  · clear d1 d2 d3 d4 d6 d7; omega
  · clear d1 d2 d3 d4 d5 d7; omega
  · clear d1 d2 d3 d4 d5 d6; omega
end
section
-- the digits of a number are counted
def jDc (c d : Int) : Prop := (d = 1 ∧ c < 10) ∨ (d = 2 ∧ c < 100) ∨ (d = 3 ∧ c < 1000) ∨ (d = 4 ∧ c < 10000) ∨ (d = 5 ∧ c < 100000) ∨ (d = 6 ∧ c < 1000000) ∨ (d = 7 ∧ c < 10000000)
def jDi (c v d : Int) : Prop := (d = 1 ∧ v = c) ∨ (d = 2 ∧ v = c / 10) ∨ (d = 3 ∧ v = c / 100) ∨ (d = 4 ∧ v = c / 1000) ∨ (d = 5 ∧ v = c / 10000) ∨ (d = 6 ∧ v = c / 100000) ∨ (d = 7 ∧ v = c / 1000000)
theorem jDi.start {c : Int} : jDi c c 1 := Or.inl ⟨rfl, rfl⟩
theorem jDi.step {c v d v1 d1 : Int} (h : jDi c v d) (h0 : 10 ≤ v) (hc : c ≤ 1048576) (e : v1 = v / 10) (e1 : d1 = d + 1) : jDi c v1 d1 := by
  subst e e1
  unfold jDi at h ⊢
  rcases h with ⟨rfl, rfl⟩ | ⟨rfl, rfl⟩ | ⟨rfl, rfl⟩ | ⟨rfl, rfl⟩ | ⟨rfl, rfl⟩ | ⟨rfl, rfl⟩ | ⟨rfl, rfl⟩
  · right; left; omega
  · right; right; left; omega
  · right; right; right; left; omega
  · right; right; right; right; left; omega
  · right; right; right; right; right; left; omega
  · right; right; right; right; right; right; omega
  · exfalso; omega
theorem jDi.end {c v d : Int} (h : jDi c v d) (h0 : v < 10) : jDc c d := by
  unfold jDi at h
  unfold jDc
  rcases h with ⟨rfl, rfl⟩ | ⟨rfl, rfl⟩ | ⟨rfl, rfl⟩ | ⟨rfl, rfl⟩ | ⟨rfl, rfl⟩ | ⟨rfl, rfl⟩ | ⟨rfl, rfl⟩
  · left; omega
  · right; left; omega
  · right; right; left; omega
  · right; right; right; left; omega
  · right; right; right; right; left; omega
  · right; right; right; right; right; left; omega
  · right; right; right; right; right; right; omega
theorem jDc.end {c d p q : Int} (h : jDc c d) (h1 : 10 ≤ c ∨ q ≤ p + 1) (h2 : 100 ≤ c ∨ q ≤ p + 2) (h3 : 1000 ≤ c ∨ q ≤ p + 3) (h4 : 10000 ≤ c ∨ q ≤ p + 4) (h5 : 100000 ≤ c ∨ q ≤ p + 5) (h6 : 1000000 ≤ c ∨ q ≤ p + 6) (h7 : 10000000 ≤ c ∨ q ≤ p + 7) : q ≤ p + d := by
  unfold jDc at h
  rcases h with ⟨rfl, h⟩ | ⟨rfl, h⟩ | ⟨rfl, h⟩ | ⟨rfl, h⟩ | ⟨rfl, h⟩ | ⟨rfl, h⟩ | ⟨rfl, h⟩
  · clear h2 h3 h4 h5 h6 h7; omega
  · clear h1 h3 h4 h5 h6 h7; omega
  · clear h1 h2 h4 h5 h6 h7; omega
  · clear h1 h2 h3 h5 h6 h7; omega
  · clear h1 h2 h3 h4 h6 h7; omega
  · clear h1 h2 h3 h4 h5 h7; omega
  · clear h1 h2 h3 h4 h5 h6; omega
end
section
-- System.arraycopy of ints in a walk
section J21
variable {p : Program} {l : Launch} {e : Env} {R : Room} {s : State} {m : MethodId} {args : Array Value} {below : List Frame} {meth : Method} {c : Code} {H : Heap} {locs : List Loc} {cells slots : Nat} {Q : State → Prop}
variable {cc : ByteArray} {pc : Nat} {ls : Array Slot} {rest : List Value} {dC : Nat → ClassId} {dI : Nat → Nat → Nat} {ca : Nat → ClassId} {B : jF} {base : Nat} {G0 G : jT} {E : List (Nat × Nat)} {H0 : Heap} {zc zs : Nat} {L : List jPin} {M : List jCt} {I : List jIv} {a a0 k k0 n n0 index : Nat} {tys : List (ClassId × FieldType)} {own : String} {P P0 : Nat → Int32 → Prop} {cA : ClassId}
end J21
/-- an answer that is new -/
def jNwv (v : Value) (H0 : Heap) : Prop := ∃ x : Nat, v = .ref x ∧ H0.size ≤ x
theorem jNwv.le {x : Nat} {H0 : Heap} (h : jNwv (.ref x) H0) : H0.size ≤ x := by
  obtain ⟨y, e, h1⟩ := h
  cases e
  exact h1
end
section
-- an array of arrays gets its kind
theorem jAq.of {dC : Nat → ClassId} {dI : Nat → Nat → Nat} {B : jF} {k n a : Nat} {cA : ClassId} {P : jT → Option Nat → Prop} {G : jT} {H : Heap} {f : Nat → Option Nat} (hBk : ∀ n G a H, B k n G a H ↔ jAq (dC, dI) cA P n G a H) (h : va_at (dC, dI) vwCl (a, .inl (cA, n, .inr (.inr (.inr (.inr f))))) H) (hP : ∀ j, j < n → P G (f j)) : B k n G a H := (hBk _ _ _ _).mpr ⟨f, h, hP⟩
/-- the first elements are formulas -/
def jFq (G : jT) (f : Nat → Option Nat) (i : Int) : Prop := ∀ j : Nat, (j : Int) < i → jQk 280 80 G (f j)
theorem jFq.put {G : jT} {f : Nat → Option Nat} {i i1 x : Int} {v m : Nat} (h : jFq G f i) (hx : x = i) (hi : i1 = i + 1) (h0 : 0 ≤ i) (hv : G v = some (280, m)) (hm : m ≤ 80) : jFq G (va_up f x.toNat (some v)) i1 := fun j hj => by
  by_cases e : j = x.toNat
  · subst e
    simp only [va_up, if_pos]
    exact ⟨v, m, rfl, hv, hm⟩
  · rw [va_up_ne _ _ e]
    exact h j (by omega)
theorem jQk.up {k most : Nat} {G G1 : jT} {o : Option Nat} (h : jQk k most G o) (hle : jLe G G1) : jQk k most G1 o := by
  obtain ⟨x, j, h1, h2, h3⟩ := h
  exact ⟨x, j, h1, hle _ _ h2, h3⟩
theorem jFq.all {G G1 : jT} {f : Nat → Option Nat} {i : Int} {n : Nat} (h : jFq G f i) (hi : (n : Int) = i) (hle : jLe G G1) : ∀ j, j < n → jQk 280 80 G1 (f j) := fun j hj => (h j (by omega)).up hle
end
section
theorem jK5.moved {dC : Nat → ClassId} {dI : Nat → Nat → Nat} {ca : Nat → ClassId} {u U : State} (hvm : u.vm.Alike U.vm) (h : jK5 dC dI ca u) : jK5 dC dI ca U := by
  obtain ⟨h1, ⟨kA, a1, a2⟩, ⟨k1, b1⟩, h4⟩ := h
  obtain ⟨kA', c1, c2⟩ := hvm.2.2 _ _ a1
  obtain ⟨k1', d1, -⟩ := hvm.2.2 _ _ b1
  refine ⟨va_K.moved hvm h1, ⟨kA', c1, by rw [c2]; exact a2⟩, ⟨k1', d1⟩, ?_⟩
  obtain ⟨comp, cl, k, e1, e2, e3, e4, e5⟩ := arrayOverA_spec h4
  obtain ⟨k', hk', he⟩ := hvm.2.2 _ _ e3
  have f0 : (U.vm.classes.findIdx? fun (x : Class) => match x.kind with | .array component _ => component == comp | _ => false) = some cl := by
    rw [hvm.findIdx?_eq _ (fun _ => rfl)]; exact e2
  have f1 : U.vm.findClass (FieldType.array .int).toString = some comp := by rw [hvm.findClass]; exact e1
  have f2 : U.vm.findClass ("[" ++ (FieldType.array .int).toString) = some cl := by rw [hvm.findClass]; exact e5
  have f3 : k'.kind = .array comp (.array .int) := by rw [he]; exact e4
  unfold Cond.before Cond.holds
  simp only [Cond.value]
  rw [f1, Option.bind_some]
  refine (congrArg (fun o : Option Nat => (o.bind (fun c => (U.vm.classes[c]?).map fun (k : Class) => match k.kind with | .array _ ty => decide (ty = FieldType.array .int) && decide (U.vm.findClass ("[" ++ (FieldType.array .int).toString) = some c) | _ => false) == some true)) f0).trans ?_
  simp [hk', f3, f2]
end
section
-- what the kernel's walks need: raw arrays of ints, arrays whose last element is null, states, new goals
def jK6 (U : State) : Prop := va_AO "ProofServerModel$Document" U ∧ va_AO "ProofServer$Document" U ∧ va_AO "ProofServer$State" U ∧ va_AO "ProofServer$Goal" U
theorem jK6.moved {u U : State} (hvm : u.vm.Alike U.vm) (h : jK6 u) : jK6 U := ⟨va_AO.moved hvm h.1, va_AO.moved hvm h.2.1, va_AO.moved hvm h.2.2.1, va_AO.moved hvm h.2.2.2⟩
def jAqZ (D : va_G) (cA : ClassId) (n a : Nat) (H : Heap) : Prop := ∃ f : Nat → Option Nat, va_at D vwCl (a, .inl (cA, n, .inr (.inr (.inr (.inr f))))) H ∧ (0 < n → f (n - 1) = none)
section J30
variable {p : Program} {l : Launch} {e : Env} {R : Room} {s : State} {m : MethodId} {args : Array Value} {below : List Frame} {meth : Method} {c : Code} {H : Heap} {locs : List Loc} {cells slots : Nat} {Q : State → Prop}
variable {cc : ByteArray} {pc : Nat} {ls : Array Slot} {rest : List Value} {dC : Nat → ClassId} {dI : Nat → Nat → Nat} {ca : Nat → ClassId} {B : jF} {base : Nat} {G0 G : jT} {E : List (Nat × Nat)} {H0 : Heap} {zc zs : Nat} {L : List jPin} {M : List jCt} {I : List jIv} {a a0 k k0 n n0 index : Nat} {tys : List (ClassId × FieldType)} {own C : String} {cA : ClassId}
theorem jAr.of {P : Nat → Int32 → Prop} {f : Nat → Int32} (hBk : ∀ n G a H, B k n G a H ↔ jAr (dC, dI) cA P n a H) (h : va_at (dC, dI) vwCl (a, .inl (cA, n, .inl f)) H) (hP : ∀ j, j < n → P j (f j)) : B k n G a H := (hBk _ _ _ _).mpr ⟨f, h, hP⟩
theorem jAqZ.of {f : Nat → Option Nat} (hBk : ∀ n G a H, B k n G a H ↔ jAqZ (dC, dI) cA n a H) (h : va_at (dC, dI) vwCl (a, .inl (cA, n, .inr (.inr (.inr (.inr f))))) H) (hP : 0 < n → f (n - 1) = none) : B k n G a H := (hBk _ _ _ _).mpr ⟨f, h, hP⟩
end J30
def jFp (f : Nat → Int32) : Prop := ∀ j, -1 ≤ (f j).toInt
theorem jFp.put {f : Nat → Int32} {i : Nat} {v : Int32} (h : jFp f) (hv : -1 ≤ v.toInt) : jFp (upd f i v) := fun j => by
  unfold upd
  split
  · exact hv
  · exact h j
/-- the terms that are told lie in the source -/
def jTt (f g : Nat → Int32) (n : Nat) : Prop := ∀ l : Int, 0 ≤ l → l < 13 → 0 < jSo g l → jSo f l + jSo g l ≤ n
def jTbk (f g : Nat → Int32) (n : Nat) (b : Int) : Prop := ∀ l : Int, 0 ≤ l → l < b → jSo f l + jSo g l ≤ n
def jTa (g : Nat → Int32) (b : Int) : Prop := ∀ l : Int, 0 ≤ l → l < b → 0 < jSo g l
theorem jTt.tb {f g : Nat → Int32} {n : Nat} {b : Int} (h : jTt f g n) (hb : b ≤ 13) (ha : jTa g b) : jTbk f g n b := fun l h0 h1 => h l h0 (by omega) (ha l h0 h1)
theorem jTt.put {f g f1 g1 : Nat → Int32} {n : Nat} {x u w : Int} (h : jTt f g n) (hx : 0 ≤ x) (hx2 : x < 13) (hv : jSo f1 x = u) (ho : ∀ j, j < 13 → j ≠ x.toNat → f1 j = f j) (hv2 : jSo g1 x = w) (ho2 : ∀ j, j < 13 → j ≠ x.toNat → g1 j = g j) (hs : u + w ≤ n) : jTt f1 g1 n := fun l h0 h1 h2 => by
  by_cases e : l = x
  · subst e; rw [hv, hv2]; exact hs
  · have e1 : jSo f1 l = jSo f l := by unfold jSo; rw [ho l.toNat (by omega) (by omega)]
    have e2 : jSo g1 l = jSo g l := by unfold jSo; rw [ho2 l.toNat (by omega) (by omega)]
    rw [e2] at h2
    rw [e1, e2]
    exact h l h0 h1 h2
theorem jTa.cg {g : Nat → Int32} {b b1 : Int} (h : jTa g b) (hb : b1 ≤ b) : jTa g b1 := fun l h0 h1 => h l h0 (by omega)
def jZe (g : Nat → Int32) (n : Int) : Prop := ∀ l : Int, 0 ≤ l → l < n → jSo g l = 0
theorem jZe.step {g g1 : Nat → Int32} {i i1 : Int} {n : Nat} (h : jZe g i) (hi : i1 = i + 1) (h0 : 0 ≤ i) (hn : i < n) (hv : jSo g1 i = 0) (ho : ∀ j, j < n → j ≠ i.toNat → g1 j = g j) : jZe g1 i1 := fun l a b => by
  by_cases e : l = i
  · subst e; exact hv
  · have e1 : jSo g1 l = jSo g l := by unfold jSo; rw [ho l.toNat (by omega) (by omega)]
    rw [e1]; exact h l a (by omega)
/-- what matches tells, for the number of bound names of a rule -/
def jTf (ff : Nat → Int32) (n1 : Nat) (f g : Nat → Int32) (n : Nat) : Prop := ∀ b : Int, 0 ≤ b → b ≤ 12 → b ≤ n1 → jLd ff n1 b → jTbk f g n b
theorem jTf.of {ff : Nat → Int32} {n1 : Nat} {f g : Nat → Int32} {n : Nat} {b : Int} (h : jTt f g n) (ha : jTa g b) (hb0 : 0 ≤ b) (hb : b ≤ 12) (hb1 : b ≤ n1) (hl : jLd ff n1 b) : jTf ff n1 f g n := fun b' q0 q1 q2 q3 => by
  rw [jLd.uniq q3 hl q0 q2 q1 hb0 hb1 hb]
  exact h.tb (by omega) ha
theorem jTa.step {g : Nat → Int32} {b b1 : Int} (h : jTa g b) (hb : b1 = b + 1) (hv : 0 < jSo g b) : jTa g b1 := fun l h0 h1 => by
  by_cases e : l = b
  · subst e; exact hv
  · exact h l h0 (by omega)
def jNn0 (g : Nat → Int32) (n : Nat) : Prop := ∀ l : Int, 0 ≤ l → l < n → 0 ≤ jSo g l
def jNn1 (g : Nat → Int32) (n : Nat) : Prop := ∀ l : Int, 0 ≤ l → l < n → -1 ≤ jSo g l
def jW (f g : Nat → Int32) (b i : Int) : Int := if jSo f i % 16 = 10 ∧ jSo f i / 32768 < b then jSo g (jSo f i / 32768) else 1
def jPs (f g : Nat → Int32) (b i0 : Int) : Nat → Int
  | 0 => 0
  | k + 1 => jPs f g b i0 k + jW f g b (i0 + k)
def jPqk (f g : Nat → Int32) (b i0 i s : Int) : Prop := i0 ≤ i ∧ s = jPs f g b i0 (i - i0).toNat
theorem jPqk.step {f g : Nat → Int32} {b i0 i s i1 s1 : Int} (h : jPqk f g b i0 i s) (hi : i1 = i + 1) (hs : s1 = s + jW f g b i) : jPqk f g b i0 i1 s1 := by
  obtain ⟨h0, h2⟩ := h
  refine ⟨by omega, ?_⟩
  have e : (i1 - i0).toNat = (i - i0).toNat + 1 := by omega
  rw [e, hs, h2]
  show _ = jPs f g b i0 _ + jW f g b (i0 + ((i - i0).toNat : Nat))
  rw [show i0 + ((i - i0).toNat : Int) = i by omega]
theorem jNn0.of {g : Nat → Int32} {n : Nat} (h : ∀ i, i < n → 0 ≤ (g i).toInt ∧ (g i).toInt ≤ 3000) : jNn0 g n := fun l h0 h1 => (h l.toNat (by omega)).1
theorem jNn1.of {g : Nat → Int32} {n : Nat} (h : ∀ i, i < n → -1 ≤ (g i).toInt) : jNn1 g n := fun l h0 h1 => h l.toNat (by omega)
-- all states have as many facts as names of facts
abbrev jFs11 : List (Nat × Nat) := [(11, 4), (11, 5)]
def jSef (dC : Nat → ClassId) (dI : Nat → Nat → Nat) (G : jT) (H : Heap) : Prop := ∀ a, G a = some (11, 0) → ∃ x y m : Nat, jf (dC, dI) 11 a 4 (.ref x) H ∧ jf (dC, dI) 11 a 5 (.ref y) H ∧ G x = some (101, m) ∧ G y = some (313, m) ∧ m ≤ 16
theorem jSef.ie {dC : Nat → ClassId} {dI : Nat → Nat → Nat} {G : jT} {H : Heap} (h : jSef dC dI G H) : ((jFs11, jSef dC dI G) : jIv).2 H ∧ ∀ H1 H2 : Heap, jAg (dC, dI) G ((jFs11, jSef dC dI G) : jIv).1 H1 H2 → ((jFs11, jSef dC dI G) : jIv).2 H1 → ((jFs11, jSef dC dI G) : jIv).2 H2 :=
  ⟨h, fun H1 H2 hA h1 a ha => by
    obtain ⟨x, y, m, g1, g2, g3⟩ := h1 a ha
    exact ⟨x, y, m, hA.1 a 11 0 4 _ ha rfl g1, hA.1 a 11 0 5 _ ha rfl g2, g3⟩⟩
theorem jSef.grow {dC : Nat → ClassId} {dI : Nat → Nat → Nat} {G G1 : jT} {H : Heap} {ks : List Nat} (h : jSef dC dI G H) (hle : jLe G G1) (hN : jNk ks G G1) (hk : ks.contains 11 = true) : jSef dC dI G1 H := fun a ha => by
  obtain ⟨x, y, m, g1, g2, g3, g4, g5⟩ := h a (hN a 11 0 ha hk)
  exact ⟨x, y, m, g1, g2, hle _ _ g3, hle _ _ g4, g5⟩
/-- a new state -/
theorem jSef.typ {dC : Nat → ClassId} {dI : Nat → Nat → Nat} {G : jT} {r n : Nat} {H : Heap} (h : jSef dC dI G H) (hn : ∀ t, G r ≠ some t) (hr : ∃ x y m : Nat, jf (dC, dI) 11 r 4 (.ref x) H ∧ jf (dC, dI) 11 r 5 (.ref y) H ∧ G x = some (101, m) ∧ G y = some (313, m) ∧ m ≤ 16) : jSef dC dI (va_up G r (some (11, n))) H := fun a ha => by
  have hle : jLe G (va_up G r (some (11, n))) := jLe.typ hn
  by_cases e : a = r
  · subst e
    obtain ⟨x, y, m, g1, g2, g3, g4, g5⟩ := hr
    exact ⟨x, y, m, g1, g2, hle _ _ g3, hle _ _ g4, g5⟩
  · rw [va_up_ne _ _ e] at ha
    obtain ⟨x, y, m, g1, g2, g3, g4, g5⟩ := h a ha
    exact ⟨x, y, m, g1, g2, hle _ _ g3, hle _ _ g4, g5⟩
-- the goals that are made are no null
abbrev jFg : List (Nat × Nat) := [(7, 9), (7, 10), (211, 0)]
def jFr (dC : Nat → ClassId) (dI : Nat → Nat → Nat) (ca : Nat → ClassId) (G : jT) (a : Nat) (H : Heap) : Prop := ∃ (c : Int32) (b : Nat) (f : Nat → Option Nat), G a = some (7, 0) ∧ G b = some (211, 6) ∧ jf (dC, dI) 7 a 10 (.int c) H ∧ jf (dC, dI) 7 a 9 (.ref b) H ∧ jQc dC dI (ca 7) b 6 f H ∧ ∀ i : Nat, i < 6 → (i : Int) < c.toInt → f i ≠ none
theorem jFr.ie {dC : Nat → ClassId} {dI : Nat → Nat → Nat} {ca : Nat → ClassId} {G : jT} {a : Nat} {H : Heap} (h : jFr dC dI ca G a H) : ((jFg, jFr dC dI ca G a) : jIv).2 H ∧ ∀ H1 H2 : Heap, jAg (dC, dI) G ((jFg, jFr dC dI ca G a) : jIv).1 H1 H2 → ((jFg, jFr dC dI ca G a) : jIv).2 H1 → ((jFg, jFr dC dI ca G a) : jIv).2 H2 :=
  ⟨h, fun H1 H2 hA h1 => by
    obtain ⟨c, b, f, g1, g2, g3, g4, g5, g6⟩ := h1
    have hq1 : va_at (dC, dI) vwCl (b, .inl (ca 7, 6, .inr (.inr (.inr (.inr f))))) H1 := g5
    exact ⟨c, b, f, g1, g2, hA.1 a 7 0 10 _ g1 rfl g3, hA.1 a 7 0 9 _ g1 rfl g4, va_at.kept hq1 (hA.2 b 211 6 g2 (by decide) (by decide) rfl), g6⟩⟩
theorem jFr.grow {dC : Nat → ClassId} {dI : Nat → Nat → Nat} {ca : Nat → ClassId} {G G1 : jT} {a : Nat} {H : Heap} (h : jFr dC dI ca G a H) (hle : jLe G G1) : jFr dC dI ca G1 a H := by
  obtain ⟨c, b, f, g1, g2, g3⟩ := h
  exact ⟨c, b, f, hle _ _ g1, hle _ _ g2, g3⟩
def jFrc (f : Nat → Option Nat) (c : Int) : Prop := ∀ i : Nat, i < 6 → (i : Int) < c → f i ≠ none
theorem jFrc.put {f f1 : Nat → Option Nat} {c c1 x : Int} {v : Nat} (h : jFrc f c) (hc : c1 = c + 1) (hx : x = c) (h0 : 0 ≤ c) (hv : f1 x.toNat = some v) (ho : ∀ j, j < 6 → j ≠ x.toNat → f1 j = f j) : jFrc f1 c1 := fun i h6 hi => by
  by_cases e : i = x.toNat
  · subst e; rw [hv]; exact fun q => by cases q
  · rw [ho i h6 e]; exact h i h6 (by omega)
def jGq (G : jT) (f : Nat → Option Nat) (i : Int) : Prop := ∀ j : Nat, (j : Int) < i → jQg G (f j)
theorem jGq.put {G : jT} {f : Nat → Option Nat} {i i1 x : Int} {v m : Nat} (h : jGq G f i) (hi : i1 = i + 1) (hx : x = i) (h0 : 0 ≤ i) (hg : G v = some (5, m)) (hm : m % 10 = 1) : jGq G (va_up f x.toNat (some v)) i1 := fun j hj => by
  subst hx
  by_cases e : j = x.toNat
  · subst e; exact ⟨v, m, by simp [va_up], hg, hm⟩
  · rw [va_up_ne _ _ e]; exact h j (by omega)
theorem jGq.all {G G1 : jT} {f : Nat → Option Nat} {i : Int} {n : Nat} (h : jGq G f i) (hn : (n : Int) ≤ i) (hle : jLe G G1) : ∀ j, j < n → jQg G1 (f j) := fun j hj => by
  obtain ⟨x, m, q1, q2, q3⟩ := h j (by omega)
  exact ⟨x, m, q1, hle _ _ q2, q3⟩
end
section
-- all cells but these stay
def jKl (rs : List Nat) (H0 H : Heap) : Prop := ∀ q : Nat, q ∉ rs → H[q]? = H0[q]?
theorem jKl.rf {rs : List Nat} {H : Heap} : jKl rs H H := fun _ _ => rfl
theorem jKl.put {rs : List Nat} {H0 H H1 : Heap} {a : Nat} (h : jKl rs H0 H) (hr : ∀ q : Nat, q ≠ a → H1[q]? = H[q]?) (ha : a ∈ rs) : jKl rs H0 H1 := fun q hq => (hr q (fun e => hq (e ▸ ha))).trans (h q hq)
theorem jKl.tr {rs rs1 : List Nat} {H0 H H1 : Heap} (h : jKl rs H0 H) (h1 : jKl rs1 H H1) (hs : ∀ q, q ∈ rs1 → q ∈ rs) : jKl rs H0 H1 := fun q hq => (h1 q (fun e => hq (hs q e))).trans (h q hq)
section J31
variable {p : Program} {l : Launch} {e : Env} {R : Room} {s : State} {m : MethodId} {args : Array Value} {below : List Frame} {meth : Method} {c : Code} {H : Heap} {locs : List Loc} {cells slots : Nat} {Q : State → Prop}
variable {cc : ByteArray} {pc : Nat} {ls : Array Slot} {rest : List Value} {dC : Nat → ClassId} {dI : Nat → Nat → Nat} {ca : Nat → ClassId} {B : jF} {base : Nat} {G0 G : jT} {E : List (Nat × Nat)} {H0 : Heap} {zc zs : Nat} {L : List jPin} {M : List jCt} {I : List jIv} {a k n : Nat} {tys : List (ClassId × FieldType)} {cA : ClassId}
end J31
end
section
-- the places where a term stands, counted as the scan goes
def jSaB (f : Nat → Int32) (n : Nat) (g : Nat → Int32) (m : Nat) (a b w : Int) : Bool := decide (0 ≤ a) && (decide (0 ≤ b) && (decide (a + w ≤ n) && (decide (b + w ≤ m) && (List.range w.toNat).all (fun j => decide (jSo f (a + (j : Int)) = jSo g (b + (j : Int)))))))
def jSq (f g : Nat → Int32) (a b i : Int) : Prop := ∀ j : Int, 0 ≤ j → j < i → jSo f (a + j) = jSo g (b + j)
theorem jSq.step {f g : Nat → Int32} {a b i i1 : Int} (h : jSq f g a b i) (hi : i1 = i + 1) (he : jSo f (a + i) = jSo g (b + i)) : jSq f g a b i1 := fun j h0 h1 => by
  by_cases e : j = i
  · subst e; exact he
  · exact h j h0 (by omega)
def jTc (S : Int → Bool) (w n : Int) : Nat → Int → Int
  | 0, _ => 0
  | k + 1, i => if n ≤ i then 0 else if S i = true then 1 + jTc S w n k (i + w) else jTc S w n k (i + 1)
def jTn (S : Int → Bool) (w n i : Int) : Int := jTc S w n (n - i).toNat i
theorem jTn.end {S : Int → Bool} {w n i : Int} (h : n ≤ i) : jTn S w n i = 0 := by
  unfold jTn
  rw [show (n - i).toNat = 0 by omega]
  rfl
abbrev jSp (f : Nat → Int32) (n : Nat) (g : Nat → Int32) (m : Nat) (w : Int) : Int → Bool := fun x => jSaB f n g m x 1 w
/-- the first pass: i is reached, c were found -/
def jR1 (f : Nat → Int32) (n : Nat) (g : Nat → Int32) (m : Nat) (w i c : Int) : Prop := 0 ≤ c ∧ c ≤ i ∧ i ≤ n ∧ c + jTn (jSp f n g m w) w n i = jTn (jSp f n g m w) w n 0
/-- how long what comes will be -/
def jRz (f : Nat → Int32) (n : Nat) (g : Nat → Int32) (m : Nat) (w b z : Int) : Prop := z = n + jTn (jSp f n g m w) w n 0 * (b - w)
theorem jR1.size {f g : Nat → Int32} {n m : Nat} {w i c b y d : Int} (h : jR1 f n g m w i c) (hi : n ≤ i) (hy : y = n) (hd : d = b - w) : jRz f n g m w b (y + c * d) := by
  obtain ⟨h1, h2, h3, h4⟩ := h
  rw [jTn.end hi, Int.add_zero] at h4
  unfold jRz
  rw [hy, h4, hd]
end
section
-- what stands below a place stays
def jKb (f g : Nat → Int32) (n : Int) : Prop := ∀ j : Int, 0 ≤ j → j < n → jSo g j = jSo f j
theorem jKb.rf {f : Nat → Int32} {n : Int} : jKb f f n := fun _ _ _ => rfl
theorem jKb.tr {f g h : Nat → Int32} {n m : Int} (h1 : jKb f g n) (h2 : jKb g h m) (hm : n ≤ m) : jKb f h n := fun j a b => (h2 j a (by omega)).trans (h1 j a b)
theorem jKb.put {f g : Nat → Int32} {n i : Int} {N : Nat} (hi : n ≤ i) (h0 : 0 ≤ n) (hN : i < N) (ho : ∀ j, j < N → j ≠ i.toNat → g j = f j) : jKb f g n := fun j a b => by
  unfold jSo
  rw [ho j.toNat (by omega) (by omega)]
theorem jKb.cg {f g h : Nat → Int32} {n : Int} (h1 : jKb f g n) (e : h = f) : jKb h g n := e ▸ h1
end
section
-- lists: arrays of Object, the interface's calls
def jLcs (C : String) (U : State) : Prop := va_Nw (.castable C "java/lang/Object") U ∧ va_Nw (.castable C C) U
def jFw (n d : String) (y : MethodName) (U : State) : Prop := va_Fw "java/util/ArrayList" ⟨"java/util/List", n, d⟩ y U
theorem jFw.moved {n d : String} {y : MethodName} {u U : State} (hvm : u.vm.Alike U.vm) (h : jFw n d y u) : jFw n d y U := va_Fw.moved ⟨show "java/util/List" ≠ "java/lang/invoke/MethodHandle" by decide, show "java/util/List" ≠ "java/lang/invoke/VarHandle" by decide⟩ hvm h
def jK7 (dC : Nat → ClassId) (dI : Nat → Nat → Nat) (ca : Nat → ClassId) (base : Nat) (U : State) : Prop :=
  va_K (dC, dI) vwCl [(ca 9, .object "java/lang/Object")] U ∧ va_AO "java/lang/Object" U ∧ (jLcs "ProofServer$Document" U ∧ jLcs "ProofServer$Request" U ∧ jLcs "ProofServer$State" U)
  ∧ va_Mi "[Ljava/lang/Object;" (dI 99 1) U ∧ va_Dc U ∧ (jFw "size" "()I" yJx4a65c_size_8abf5 U ∧ jFw "get" "(I)Ljava/lang/Object;" yJx4a65c_get_915e3 U ∧ jFw "add" "(Ljava/lang/Object;)Z" yJx4a65c_add_9ea2d U ∧ jFw "remove" "(I)Ljava/lang/Object;" yJx4a65c_remove_915e3 U)
  ∧ va_Z "java/util/ArrayList" "DEFAULTCAPACITY_EMPTY_ELEMENTDATA" "[Ljava/lang/Object;" (.ref (dI 99 0)) (jA base) U U.heap ∧ va_T (.object "java/lang/Object") (dI 99 0) 0 (fun _ => .null) (jA base) U U.heap
theorem jLcs.warm {C : String} {s U : State} (hW : s.WarmedH U.vm) (h : jLcs C s) : jLcs C U := ⟨va_Nw.warmC hW h.1, va_Nw.warmC hW h.2⟩
theorem jLcs.same {C : String} {s U : State} (hv : s.vm = U.vm) (h : jLcs C s) : jLcs C U := ⟨va_Nw.same rfl hv h.1, va_Nw.same rfl hv h.2⟩
theorem jK7.step {dC : Nat → ClassId} {dI : Nat → Nat → Nat} {ca : Nat → ClassId} {base : Nat} {s U : State} {H : Heap} {locs : List Loc} (h : jK7 dC dI ca base s) (hW : s.WarmedH U.vm) (hU : U.heap = H) (hS : va_S (jA base) s.heap H locs) : jK7 dC dI ca base U := by
  obtain ⟨h1, h2, h3, h4, h5, h8, h6, h7⟩ := h
  have hq : ∀ a : Nat, a < s.heap.size → ¬ jA base a → U.heap[a]? = s.heap[a]? := fun a ha hn => by rw [hU]; exact hS.2.1 a ha hn
  exact ⟨va_K.moved hW.alike h1, va_AO.moved hW.alike h2, ⟨h3.1.warm hW, h3.2.1.warm hW, h3.2.2.warm hW⟩, h4.moved hW.alike, h5.moved hW.alike, ⟨h8.1.moved hW.alike, h8.2.1.moved hW.alike, h8.2.2.1.moved hW.alike, h8.2.2.2.moved hW.alike⟩, (h6.moved hW.alike).kept hq, (h7.moved hW.alike).kept hq⟩
theorem jK7.calling {dC : Nat → ClassId} {dI : Nat → Nat → Nat} {ca : Nat → ClassId} {base : Nat} {U : State} (g : JFrame) (mk : MethodId) (a : Array Value) (h : jK7 dC dI ca base U) : jK7 dC dI ca base (U.calling g mk a) := by
  obtain ⟨h1, h2, h3, h4, h5, h8, h6, h7⟩ := h
  have hv : U.vm.Alike (U.calling g mk a).vm := Vm.Alike.refl U.vm
  exact ⟨va_K.moved hv h1, va_AO.moved hv h2, ⟨h3.1.same rfl, h3.2.1.same rfl, h3.2.2.same rfl⟩, h4.moved hv, h5.moved hv, ⟨h8.1.moved hv, h8.2.1.moved hv, h8.2.2.1.moved hv, h8.2.2.2.moved hv⟩, h6.moved hv, h7.moved hv⟩
section J32
variable {p : Program} {l : Launch} {e : Env} {R : Room} {s : State} {m : MethodId} {args : Array Value} {below : List Frame} {meth : Method} {c : Code} {H : Heap} {locs : List Loc} {cells slots : Nat} {Q : State → Prop}
variable {cc : ByteArray} {pc : Nat} {ls : Array Slot} {rest : List Value} {dC : Nat → ClassId} {dI : Nat → Nat → Nat} {ca : Nat → ClassId} {B : jF} {base : Nat} {G0 G : jT} {E : List (Nat × Nat)} {H0 : Heap} {zc zs : Nat} {L : List jPin} {M : List jCt} {I : List jIv} {a a0 k k0 n n0 index : Nat} {tys tys0 : List (ClassId × FieldType)} {own C CE : String} {cA : ClassId}
end J32
theorem jQn.up {k n : Nat} {G G1 : jT} {o : Option Nat} (h : jQn k n G o) (hle : jLe G G1) : jQn k n G1 o := by
  rcases h with h | ⟨x, h1, h2⟩
  · exact Or.inl h
  · exact Or.inr ⟨x, h1, hle _ _ h2⟩
end
section
-- what is known of all lists (o: the one that is open); k: as many there are
abbrev jFl : List (Nat × Nat) := [(1, 1), (1, 2), (221, 0), (222, 0), (223, 0)]
def jLb (c : Nat) : Int := if c = 1 then 3 else if c = 2 then 12 else 24
def jLo (dC : Nat → ClassId) (dI : Nat → Nat → Nat) (ca : Nat → ClassId) (G : jT) (a c : Nat) (H : Heap) : Prop := ∃ (z : Int32) (x : Nat), jf (dC, dI) 1 a 2 (.int z) H ∧ jf (dC, dI) 1 a 1 (.ref x) H ∧ (0 ≤ z.toInt ∧ z.toInt ≤ jLb c) ∧ ((x = dI 99 0 ∧ z.toInt = 0) ∨ ∃ (m : Nat) (f : Nat → Option Nat), G x = some (220 + c, m) ∧ (10 ≤ m ∧ m ≤ 40) ∧ z.toInt ≤ m ∧ jQc dC dI (ca 9) x m f H ∧ ∀ i : Nat, (i : Int) < z.toInt → f i ≠ none)
def jLs (dC : Nat → ClassId) (dI : Nat → Nat → Nat) (ca : Nat → ClassId) (G : jT) (k : Nat) (o : Option Nat) (H : Heap) : Prop := (∀ a b c, G a = some (1, c) → G b = some (1, c) → a = b) ∧ (∀ a c, G a = some (1, c) → 1 ≤ c ∧ c ≤ k ∧ c ≤ 3) ∧ ∀ a c, G a = some (1, c) → o ≠ some a → jLo dC dI ca G a c H
section J33
variable {dC : Nat → ClassId} {dI : Nat → Nat → Nat} {ca : Nat → ClassId} {G G1 : jT} {H H1 : Heap} {a c k r x m n : Nat} {o : Option Nat} {ks : List Nat}
theorem jLo.agree (h : jLo dC dI ca G a c H) (ha : G a = some (1, c)) (hc : 1 ≤ c ∧ c ≤ 3) (hA : jAg (dC, dI) G jFl H H1) : jLo dC dI ca G a c H1 := by
  obtain ⟨z, x, h1, h2, h3, h4⟩ := h
  refine ⟨z, x, hA.1 a 1 c 2 _ ha rfl h1, hA.1 a 1 c 1 _ ha rfl h2, h3, ?_⟩
  rcases h4 with h4 | ⟨m, f, g1, g2, g3, g4, g5⟩
  · exact Or.inl h4
  · refine Or.inr ⟨m, f, g1, g2, g3, ?_, g5⟩
    have hq1 : va_at (dC, dI) vwCl (x, .inl (ca 9, m, .inr (.inr (.inr (.inr f))))) H := g4
    refine va_at.kept hq1 (hA.2 x (220 + c) m g1 (by omega) (by omega) ?_)
    obtain rfl | rfl | rfl : c = 1 ∨ c = 2 ∨ c = 3 := by omega
    · rfl
    · rfl
    · rfl
theorem jLs.ie (h : jLs dC dI ca G k o H) : ((jFl, jLs dC dI ca G k o) : jIv).2 H ∧ ∀ H1 H2 : Heap, jAg (dC, dI) G ((jFl, jLs dC dI ca G k o) : jIv).1 H1 H2 → ((jFl, jLs dC dI ca G k o) : jIv).2 H1 → ((jFl, jLs dC dI ca G k o) : jIv).2 H2 :=
  ⟨h, fun H1 H2 hA h1 => ⟨h1.1, h1.2.1, fun a c ha hn => (h1.2.2 a c ha hn).agree ha ⟨(h1.2.1 a c ha).1, (h1.2.1 a c ha).2.2⟩ hA⟩⟩
theorem jLo.up (h : jLo dC dI ca G a c H) (hle : jLe G G1) : jLo dC dI ca G1 a c H := by
  obtain ⟨z, x, h1, h2, h3, h4⟩ := h
  refine ⟨z, x, h1, h2, h3, ?_⟩
  rcases h4 with h4 | ⟨m, f, g1, g2⟩
  · exact Or.inl h4
  · exact Or.inr ⟨m, f, hle _ _ g1, g2⟩
theorem jLs.grow (h : jLs dC dI ca G k o H) (hle : jLe G G1) (hN : jNk ks G G1) (hk : ks.contains 1 = true) : jLs dC dI ca G1 k o H :=
  ⟨fun a b c ha hb => h.1 a b c (hN a 1 c ha hk) (hN b 1 c hb hk), fun a c ha => h.2.1 a c (hN a 1 c ha hk), fun a c ha hn => (h.2.2 a c (hN a 1 c ha hk) hn).up hle⟩
theorem jLs.at (h : jLs dC dI ca G k none H) (ha : G a = some (1, c)) : jLo dC dI ca G a c H := h.2.2 a c ha (fun q => by cases q)
theorem jLo.cells (h : jLo dC dI ca G a c H) (h1 : H1[a]? = H[a]?) (h2 : ∀ x m, G x = some (220 + c, m) → H1[x]? = H[x]?) : jLo dC dI ca G a c H1 := by
  obtain ⟨z, x, q1, q2, q3, q4⟩ := h
  refine ⟨z, x, q1.kept h1, q2.kept h1, q3, ?_⟩
  rcases q4 with q4 | ⟨m, f, g1, g2, g3, g4, g5⟩
  · exact Or.inl q4
  · have hq1 : va_at (dC, dI) vwCl (x, .inl (ca 9, m, .inr (.inr (.inr (.inr f))))) H := g4
    exact Or.inr ⟨m, f, g1, g2, g3, va_at.kept hq1 (h2 x m g1), g5⟩
end J33
theorem jAd.put {f g : Nat → Option Nat} {z nz x : Int} {n v : Nat} (h : ∀ k : Nat, (k : Int) < z → f k ≠ none) (hz : nz = z + 1) (h0 : 0 ≤ z) (hx : x = z) (hn : nz ≤ n) (hv : g x.toNat = some v) (ho : ∀ j, j < n → j ≠ x.toNat → g j = f j) : ∀ k : Nat, (k : Int) < nz → g k ≠ none := fun k hk => by
  by_cases e : k = x.toNat
  · subst e; rw [hv]; exact fun q => by cases q
  · rw [ho k (by omega) e]; exact h k (by omega)
end
section
-- Bytes that stay small; new Bytes
theorem jPw.h128 {n : Nat} (h : jPw n) (h1 : n < 128) : n ≤ 64 := by
  obtain ⟨k, hk, rfl⟩ := h
  by_cases q : k ≤ 2
  · have h4 : 2 ^ k ≤ 2 ^ 2 := Nat.pow_le_pow_right (by decide) q
    have h3 : (2 : Nat) ^ 2 = 4 := by decide
    omega
  · have h4 : 2 ^ 3 ≤ 2 ^ k := Nat.pow_le_pow_right (by decide) (by omega)
    have h3 : (2 : Nat) ^ 3 = 8 := by decide
    omega
theorem jYb.typ {dC : Nat → ClassId} {dI : Nat → Nat → Nat} {G : jT} {r n : Nat} {H : Heap} (h : jYb dC dI G H) (hn : ∀ t, G r ≠ some t) (hr : n = 0 → ∃ (c : Int32) (x m : Nat), jf (dC, dI) 2 r 1 (.int c) H ∧ jf (dC, dI) 2 r 0 (.ref x) H ∧ G x = some (196, m) ∧ c.toInt ≤ m ∧ m ≤ 1048576) : jYb dC dI (va_up G r (some (2, n))) H := fun a ha => by
  have hle : jLe G (va_up G r (some (2, n))) := jLe.typ hn
  by_cases e : a = r
  · subst e
    have e1 : some (2, n) = some (2, 0) := jUp_self.symm.trans ha
    have e2 : n = 0 := congrArg Prod.snd (Option.some.inj e1)
    obtain ⟨c, x, m, g1, g2, g3, g4, g5⟩ := hr e2
    exact ⟨c, x, m, g1, g2, hle _ _ g3, g4, g5⟩
  · rw [va_up_ne _ _ e] at ha
    obtain ⟨c, x, m, g1, g2, g3, g4, g5⟩ := h a ha
    exact ⟨c, x, m, g1, g2, hle _ _ g3, g4, g5⟩
/-- a new list -/
theorem jLs.typ {dC : Nat → ClassId} {dI : Nat → Nat → Nat} {ca : Nat → ClassId} {G : jT} {k r : Nat} {H : Heap} (h : jLs dC dI ca G k none H) (hn : ∀ t, G r ≠ some t) (h1 : jf (dC, dI) 1 r 2 (.int 0) H) (h2 : jf (dC, dI) 1 r 1 (.ref (dI 99 0)) H) (hk : k + 1 ≤ 3) : jLs dC dI ca (va_up G r (some (1, k + 1))) (k + 1) none H := by
  have hle : jLe G (va_up G r (some (1, k + 1))) := jLe.typ hn
  have key : ∀ a c, va_up G r (some (1, k + 1)) a = some (1, c) → (a = r ∧ c = k + 1) ∨ (a ≠ r ∧ G a = some (1, c)) := fun a c ha => by
    by_cases e : a = r
    · subst e
      have e1 : some (1, k + 1) = some (1, c) := jUp_self.symm.trans ha
      exact Or.inl ⟨rfl, (congrArg Prod.snd (Option.some.inj e1)).symm⟩
    · rw [va_up_ne _ _ e] at ha
      exact Or.inr ⟨e, ha⟩
  refine ⟨fun a b c ha hb => ?_, fun a c ha => ?_, fun a c ha _ => ?_⟩
  · rcases key a c ha with ⟨rfl, rfl⟩ | ⟨-, ha1⟩
    · rcases key b _ hb with ⟨rfl, -⟩ | ⟨-, hb1⟩
      · rfl
      · have := (h.2.1 b _ hb1).2.1
        omega
    · rcases key b _ hb with ⟨-, rfl⟩ | ⟨-, hb1⟩
      · have := (h.2.1 a _ ha1).2.1
        omega
      · exact h.1 a b c ha1 hb1
  · rcases key a c ha with ⟨-, rfl⟩ | ⟨-, ha1⟩
    · omega
    · have := h.2.1 a c ha1
      omega
  · rcases key a c ha with ⟨rfl, rfl⟩ | ⟨-, ha1⟩
    · refine ⟨0, dI 99 0, h1, h2, ⟨by decide, ?_⟩, Or.inl ⟨rfl, by decide⟩⟩
      show (0 : Int) ≤ jLb (k + 1)
      unfold jLb
      split
      · omega
      · split <;> omega
    · exact (h.2.2 a c ha1 (fun q => by cases q)).up hle
def jTen (v k : Int) : Prop := 0 ≤ k ∧ v = 10 ^ k.toNat / 10
theorem jTen.z : jTen 1000000000 10 := ⟨by omega, by decide⟩
theorem jTen.pos {v k : Int} (h : jTen v k) (hv : 0 < v) : 1 ≤ k := by
  obtain ⟨h0, e⟩ := h
  by_cases q : k = 0
  · subst q
    have e2 : (10 : Int) ^ (0 : Int).toNat / 10 = 0 := by decide
    omega
  · omega
theorem jTen.step {v k v1 k1 : Int} (h : jTen v k) (hv : v1 = v / 10) (hk : k1 = k - 1) (h1 : 1 ≤ k) : jTen v1 k1 := by
  obtain ⟨h0, e⟩ := h
  refine ⟨by omega, ?_⟩
  have e1 : k.toNat = k1.toNat + 1 := by omega
  rw [hv, e, e1, Int.pow_succ, Int.mul_ediv_cancel _ (by decide)]
end
