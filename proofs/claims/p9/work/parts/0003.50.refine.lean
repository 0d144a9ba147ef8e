section
-- the refined heap: every field of a typed object holds a value of its own predicate, every element of a typed array too; what is known of a field just now is a pin (address, kind, field, value)
def jf (D : va_G) (k a i : Nat) (v : Value) (H : Heap) : Prop := ∃ r : vw_C, vwCl[k]? = some r ∧ i < r.2.2 ∧ ∃ cell : Cell, H[a]? = some cell ∧ cell.cls = D.1 k ∧ cell.vm = .none ∧ cell.slots[D.2 k i]? = some v
theorem jf.kept {D : va_G} {k a i : Nat} {v : Value} {H H1 : Heap} (h : jf D k a i v H) (h1 : H1[a]? = H[a]?) : jf D k a i v H1 := by
  obtain ⟨r, g1, g2, cell, g3, g4⟩ := h
  exact ⟨r, g1, g2, cell, by rw [h1]; exact g3, g4⟩
def jOb (D : va_G) (k N : Nat) (P : List (Value → Prop)) (a : Nat) (H : Heap) : Prop := ∃ V : Nat → Value, t_OB a (D.1 k) N (D.2 k) H V ∧ ∀ (i : Nat) (p : Value → Prop), P[i]? = some p → p (V i)
def jAp (D : va_G) : Prop := ∀ k r, vwCl[k]? = some r → ∀ i j, i < r.2.2 → j < r.2.2 → i ≠ j → D.2 k i ≠ D.2 k j
abbrev jPin : Type := Nat × Nat × Nat × Value
def jP (D : va_G) (G : jT) (H : Heap) (L : List jPin) : Prop := ∀ q ∈ L, (∃ n, G q.1 = some (q.2.1, n)) ∧ jf D q.2.1 q.1 q.2.2.1 q.2.2.2 H
def jKp (D : va_G) (G : jT) (E : List (Nat × Nat)) (H0 H : Heap) : Prop := (∀ a k n i v, G a = some (k, n) → E.contains (k, i) = false → jf D k a i v H0 → jf D k a i v H) ∧ ∀ a k n, G a = some (k, n) → 17 ≤ k → k < 1000 → E.contains (k, 0) = false → H[a]? = H0[a]?
theorem jKp.rf {D : va_G} {G : jT} {E : List (Nat × Nat)} {H : Heap} : jKp D G E H H := ⟨fun _ _ _ _ _ _ _ h => h, fun _ _ _ _ _ _ _ => rfl⟩
/-- what an array holds just now: address, kind, length, class, contents -/
abbrev jCt : Type := Nat × Nat × Nat × ClassId × (Nat → Int32)
def jMc (D : va_G) (G : jT) (H : Heap) (M : List jCt) : Prop := ∀ q ∈ M, G q.1 = some (q.2.1, q.2.2.1) ∧ 17 ≤ q.2.1 ∧ q.2.1 < 1000 ∧ va_at D vwCl (q.1, .inl (q.2.2.2.1, q.2.2.1, .inl q.2.2.2.2)) H
theorem jMc.nil {D : va_G} {G : jT} {H : Heap} : jMc D G H [] := fun _ h => by cases h
theorem jMc.sub {D : va_G} {G : jT} {H : Heap} {L L1 : List jCt} (h : jMc D G H L) (is : List Nat) (hs : is.map (fun i => L[i]?) = L1.map some) : jMc D G H L1 := by
  intro q hq
  have h1 : some q ∈ L1.map some := List.mem_map.mpr ⟨q, hq, rfl⟩
  rw [← hs] at h1
  obtain ⟨i, -, h2⟩ := List.mem_map.mp h1
  exact h q (List.mem_of_getElem? h2)
theorem jMc.over {D : va_G} {G G1 : jT} {E1 : List (Nat × Nat)} {H H1 : Heap} {L L1 : List jCt} (h : jMc D G H L) (hk : jKp D G E1 H H1) (hG : jLe G G1) (is : List Nat) (hs : is.map (fun i => L[i]?) = L1.map some) (hn : L1.all (fun q => !(E1.contains (q.2.1, 0))) = true) : jMc D G1 H1 L1 := by
  intro q hq
  obtain ⟨g1, g2, g3, g4⟩ := h.sub is hs q hq
  have h2 := List.all_eq_true.mp hn q hq
  refine ⟨hG _ _ g1, g2, g3, g4.kept (hk.2 _ _ _ g1 g2 g3 ?_)⟩
  cases h3 : E1.contains (q.2.1, 0) with
  | false => rfl
  | true => rw [h3] at h2; cases h2
/-- what holds of a footprint: fields (kind, field) and arrays (kind, 0) -/
abbrev jIv : Type := List (Nat × Nat) × (Heap → Prop)
def jAg (D : va_G) (G : jT) (F : List (Nat × Nat)) (H H1 : Heap) : Prop := (∀ a k n i v, G a = some (k, n) → F.contains (k, i) = true → jf D k a i v H → jf D k a i v H1) ∧ ∀ a k n, G a = some (k, n) → 17 ≤ k → k < 1000 → F.contains (k, 0) = true → H1[a]? = H[a]?
def jIs (D : va_G) (G : jT) (H : Heap) (I : List jIv) : Prop := ∀ q ∈ I, q.2 H ∧ ∀ H1 H2 : Heap, jAg D G q.1 H1 H2 → q.2 H1 → q.2 H2
theorem jIs.nil {D : va_G} {G : jT} {H : Heap} : jIs D G H [] := fun _ h => by cases h
theorem jIs.sub {D : va_G} {G : jT} {H : Heap} {L L1 : List jIv} (h : jIs D G H L) (is : List Nat) (hs : is.map (fun i => L[i]?) = L1.map some) : jIs D G H L1 := by
  intro q hq
  have h1 : some q ∈ L1.map some := List.mem_map.mpr ⟨q, hq, rfl⟩
  rw [← hs] at h1
  obtain ⟨i, -, h2⟩ := List.mem_map.mp h1
  exact h q (List.mem_of_getElem? h2)
theorem jIs.ag {D : va_G} {G : jT} {H H1 : Heap} {L : List jIv} (h : jIs D G H L) (ha : ∀ q ∈ L, jAg D G q.1 H H1) : jIs D G H1 L := fun q hq => ⟨(h q hq).2 _ _ (ha q hq) (h q hq).1, (h q hq).2⟩
theorem jAg.of {D : va_G} {G : jT} {E F : List (Nat × Nat)} {H H1 : Heap} (h : jKp D G E H H1) (hn : E.all (fun q => !(F.contains q)) = true) : jAg D G F H H1 := by
  have key : ∀ k i, F.contains (k, i) = true → E.contains (k, i) = false := by
    intro k i hf
    cases h1 : E.contains (k, i) with
    | false => rfl
    | true =>
      have h2 := List.all_eq_true.mp hn (k, i) (List.contains_iff_mem.mp h1)
      rw [hf] at h2; cases h2
  exact ⟨fun a k n i v ha hf => h.1 a k n i v ha (key k i hf), fun a k n ha h1 h2 hf => h.2 a k n ha h1 h2 (key k 0 hf)⟩
def jSt (D : va_G) (B : jF) (base : Nat) (G0 G : jT) (E : List (Nat × Nat)) (H0 : Heap) (zc zs : Nat) (L : List jPin) (M : List jCt) (I : List jIv) (H : Heap) (locs : List Loc) : Prop :=
  va_S (jA base) H0 H locs ∧ jX B base G [] H ∧ jP D G H L ∧ jKp D G0 E H0 H ∧ jLe G0 G ∧ H.size ≤ H0.size + zc ∧ jTot H ≤ jTot H0 + zs ∧ jMc D G H M ∧ jIs D G H I
theorem jP.nil {D : va_G} {G : jT} {H : Heap} : jP D G H [] := fun _ h => by cases h
theorem jP.sub {D : va_G} {G : jT} {H : Heap} {L L1 : List jPin} (h : jP D G H L) (is : List Nat) (hs : is.map (fun i => L[i]?) = L1.map some) : jP D G H L1 := by
  intro q hq
  have h1 : some q ∈ L1.map some := List.mem_map.mpr ⟨q, hq, rfl⟩
  rw [← hs] at h1
  obtain ⟨i, -, h2⟩ := List.mem_map.mp h1
  exact h q (List.mem_of_getElem? h2)
theorem jP.app {D : va_G} {G : jT} {H : Heap} {L L1 : List jPin} (h : jP D G H L) (h1 : jP D G H L1) : jP D G H (L ++ L1) := fun q hq => (List.mem_append.mp hq).elim (h q) (h1 q)
theorem jKp.sub {D : va_G} {G0 G : jT} {E E1 : List (Nat × Nat)} {H0 H : Heap} (h : jKp D G E1 H0 H) (hG : jLe G0 G) (hE : E1.all (fun q => E.contains q) = true) : jKp D G0 E H0 H := by
  have key : ∀ k i, E.contains (k, i) = false → E1.contains (k, i) = false := by
    intro k i he
    cases h1 : E1.contains (k, i) with
    | false => rfl
    | true =>
      have h2 := List.all_eq_true.mp hE (k, i) (List.contains_iff_mem.mp h1)
      rw [he] at h2; cases h2
  exact ⟨fun a k n i v ha he hf => h.1 a k n i v (hG _ _ ha) (key k i he) hf, fun a k n ha h1 h2 he => h.2 a k n (hG _ _ ha) h1 h2 (key k 0 he)⟩
theorem jKp.tr {D : va_G} {G : jT} {E : List (Nat × Nat)} {H0 H H1 : Heap} (h : jKp D G E H0 H) (h1 : jKp D G E H H1) : jKp D G E H0 H1 := ⟨fun a k n i v ha he hf => h1.1 a k n i v ha he (h.1 a k n i v ha he hf), fun a k n ha g1 g2 he => (h1.2 a k n ha g1 g2 he).trans (h.2 a k n ha g1 g2 he)⟩
/-- pins behind a step that keeps all fields but those of E1 -/
theorem jP.over {D : va_G} {G G1 : jT} {E1 : List (Nat × Nat)} {H H1 : Heap} {L L1 : List jPin} (h : jP D G H L) (hk : jKp D G E1 H H1) (hG : jLe G G1) (is : List Nat) (hs : is.map (fun i => L[i]?) = L1.map some) (hn : L1.all (fun q => !(E1.contains (q.2.1, q.2.2.1))) = true) : jP D G1 H1 L1 := by
  intro q hq
  obtain ⟨⟨n, g1⟩, g2⟩ := h.sub is hs q hq
  have h2 := List.all_eq_true.mp hn q hq
  refine ⟨⟨n, hG _ _ g1⟩, hk.1 _ _ n _ _ g1 ?_ g2⟩
  cases h3 : E1.contains (q.2.1, q.2.2.1) with
  | false => rfl
  | true => rw [h3] at h2; cases h2
section J7
variable {p : Program} {l : Launch} {e : Env} {R : Room} {s : State} {m : MethodId} {args : Array Value} {below : List Frame} {meth : Method} {c : Code} {H : Heap} {locs : List Loc} {cells slots : Nat} {Q : State → Prop}
variable {cc : ByteArray} {pc : Nat} {ls : Array Slot} {rest : List Value} {dC : Nat → ClassId} {dI : Nat → Nat → Nat} {ca : Nat → ClassId} {B : jF} {base : Nat} {G0 G : jT} {E : List (Nat × Nat)} {H0 : Heap} {zc zs : Nat} {L : List jPin} {M : List jCt} {I : List jIv} {a k n i index N : Nat} {tys : List (ClassId × FieldType)} {own C : String} {T : u_T}
theorem j7_lay {args : Array Value} {s : State} {C : String} {T : u_T} {i : Nat} (h : (u_lay C T i).before args s = true) : (Cond.lays C (T i).1 (T i).2.1 (T i).2.2.1).before args s = true ∨ (Cond.laysFinal C (T i).1 (T i).2.1 (T i).2.2.1).before args s = true := by
  unfold u_lay at h
  split at h
  · exact Or.inr h
  · exact Or.inl h
theorem jSt.ab (hh : jSt (dC, dI) B base G0 G E H0 zc zs L M I H locs) {t : Nat × Nat} (ha : G a = some t) : base ≤ a ∧ a < H.size := hh.2.1.2 a t ha
theorem j7_read (hexec : p.tables.exec = Jvm.exec) (hb : c.code = cc) (hown : s.vm.findClass own = some m.cls) (hK : va_K (dC, dI) vwCl tys s) (hc : vwCl[k]? = some (C, T, N)) (hlay : (u_lay C T i).before args s = true) (hlink : (Cond.fieldLink own index (T i).1 (T i).2.1 (T i).2.2.1).before args s = true) {v : Value} (hf : jf (dC, dI) k a i v H) (hdg : decode cc pc = .ok (.getfield index, 3))
    (kk : W p l e R s m args below meth c H locs cells slots Q (F0 m (pc + 3) ls (v :: rest))) : W p l e R s m args below meth c H locs cells slots Q (F0 m pc ls (.ref a :: rest)) := by
  obtain ⟨r, h1, hi, cell, q1, q2, q3, q4⟩ := hf
  have hr : r = (C, T, N) := Option.some.inj (h1.symm.trans hc)
  subst hr
  obtain ⟨hS, hfc, kC, hkC, hkind⟩ := hK.1 k _ hc
  obtain ⟨cf, kf, fi, f, hfi, hsl⟩ := hS i hi
  exact W.getf hexec hb hown hlink hfi (u_facts hfc hkC (j7_lay hlay) hfi).1 q1 (by rw [q3]; exact fun h => by cases h) (v := v) (by rw [hsl]; exact q4) rfl rfl hdg kk
theorem jSt.at (hh : jSt (dC, dI) B base G0 G E H0 zc zs L M I H locs) {v : Value} (j : Nat) (hj : L[j]? = some (a, k, i, v)) : jf (dC, dI) k a i v H := (hh.2.2.1 _ (List.mem_of_getElem? hj)).2
theorem jX.set {B : jF} {base : Nat} {G : jT} {H H1 : Heap} {a k n : Nat} (h : jX B base G [] H) (hB : jBok B) (ha : G a = some (k, n)) (hk : k < 1000) (hsz : H1.size = H.size) (hfr : ∀ p, p ≠ a → H1[p]? = H[p]?) (hb : B k n G a H1) : jX B base G [] H1 :=
  ((h.opn a).put hB ha hk jSup.root List.mem_cons_self hsz hfr).cls ha hb
/-- a write to a cell that is no object: all pins stay -/
theorem jSt.arr (hh : jSt (dC, dI) B base G0 G E H0 zc zs L M I H locs) (hB : jBok B) (ha : G a = some (k, n)) (hk : k < 1000) (hk2 : 17 ≤ k) (hE : E.contains (k, 0) = true) (hM : M.all (fun q => !(q.2.1 == k)) = true) (hI : I.all (fun q => !(q.1.contains (k, 0))) = true) {H1 : Heap} {locs1 : List Loc} (hsz : H1.size = H.size) (hfr : ∀ p, p ≠ a → H1[p]? = H[p]?) (ht : jTot H1 = jTot H) (hL : ∀ q ∈ locs1, jA base q.base) (hb : B k n G a H1) : jSt (dC, dI) B base G0 G E H0 zc zs L M I H1 locs1 := by
  obtain ⟨h1, h2, h3, h4, h5, h6, h7, h8, h9⟩ := hh
  have key : ∀ b kb nb ib v, G b = some (kb, nb) → jf (dC, dI) kb b ib v H → jf (dC, dI) kb b ib v H1 := by
    intro b kb nb ib v hb1 hf
    refine hf.kept (hfr b (fun e => ?_))
    subst e
    rw [ha] at hb1; cases hb1
    obtain ⟨r, g1, -⟩ := hf
    have : k < vwCl.length := (List.getElem?_eq_some_iff.mp g1).1
    have h17 : vwCl.length = 17 := rfl
    omega
  refine ⟨jS_put h1 hsz hfr (h2.2 a _ ha).1 hL, h2.set hB ha hk hsz hfr hb, fun q hq => ?_, ⟨fun b kb nb ib v hb1 he hf => key b kb nb ib v (h5 _ _ hb1) (h4.1 b kb nb ib v hb1 he hf), fun b kb nb hb1 g1 g2 he => (hfr b (fun e => ?_)).trans (h4.2 b kb nb hb1 g1 g2 he)⟩, h5, by omega, by omega, fun q hq => ?_, h9.ag (fun q hq => ⟨fun b kb nb ib v hb1 _ hf => key b kb nb ib v hb1 hf, fun b kb nb hb1 g1 g2 hf => hfr b (fun e => ?_)⟩)⟩
  · obtain ⟨⟨nq, g1⟩, g2⟩ := h3 q hq
    exact ⟨⟨nq, g1⟩, key _ _ nq _ _ g1 g2⟩
  · subst e
    have e1 := (h5 _ _ hb1).symm.trans ha
    cases e1
    rw [hE] at he; cases he
  · obtain ⟨g1, g2, g3, g4⟩ := h8 q hq
    refine ⟨g1, g2, g3, g4.kept (hfr _ (fun e => ?_))⟩
    have hm9 := List.all_eq_true.mp hM q hq
    rw [e, ha] at g1
    have e2 := (Prod.mk.inj (Option.some.inj g1)).1
    rw [← e2] at hm9
    simp at hm9
  · subst e
    have e1 := hb1.symm.trans ha
    cases e1
    have hi9 := List.all_eq_true.mp hI q hq
    rw [hf] at hi9; cases hi9
end J7
def jAr (D : va_G) (cA : ClassId) (P : Nat → Int32 → Prop) (n a : Nat) (H : Heap) : Prop := ∃ f : Nat → Int32, va_at D vwCl (a, .inl (cA, n, .inl f)) H ∧ ∀ j, j < n → P j (f j)
section J8
variable {p : Program} {l : Launch} {e : Env} {R : Room} {s : State} {m : MethodId} {args : Array Value} {below : List Frame} {meth : Method} {c : Code} {H : Heap} {locs : List Loc} {cells slots : Nat} {Q : State → Prop}
variable {cc : ByteArray} {pc : Nat} {ls : Array Slot} {rest : List Value} {dC : Nat → ClassId} {dI : Nat → Nat → Nat} {ca : Nat → ClassId} {B : jF} {base : Nat} {G0 G : jT} {E : List (Nat × Nat)} {H0 : Heap} {zc zs : Nat} {L : List jPin} {M : List jCt} {I : List jIv} {a k n : Nat} {P : Nat → Int32 → Prop} {cA : ClassId} {tys : List (ClassId × FieldType)}
theorem jSt.ar (hh : jSt (dC, dI) B base G0 G E H0 zc zs L M I H locs) (hBk : ∀ n G a H, B k n G a H ↔ jAr (dC, dI) cA P n a H) (hk : k < 1000) (ha : G a = some (k, n)) : ∃ f : Nat → Int32, va_at (dC, dI) vwCl (a, .inl (cA, n, .inl f)) H ∧ ∀ j, j < n → P j (f j) := (hBk _ _ _ _).mp (hh.2.1.1 a k n ha hk (fun h => by cases h))
theorem jAr_upd {f : Nat → Int32} {n : Nat} {i v : Int32} {x : Int} (h : ∀ j, j < n → P j (f j)) (hi : i.toInt = x) (h1 : 0 ≤ x) (hx : P x.toNat v) : ∀ j, j < n → P j (upd f i.toNatClampNeg v j) := by
  intro j hj
  by_cases e : j = i.toNatClampNeg
  · rw [e, jb_cl hi h1]; simp only [upd, if_pos]; exact hx
  · simp only [upd, if_neg e]; exact h j hj
/-- behind a call that makes no cells -/
theorem jSt.call (hh : jSt (dC, dI) B base G0 G E H0 zc zs L M I H locs) {E1 : List (Nat × Nat)} {H1 : Heap} {locs1 : List Loc} (hX : jX B base G [] H1) (hk : jKp (dC, dI) G E1 H H1) (hz : H1.size ≤ H.size) (ht : jTot H1 ≤ jTot H) (hS : va_S (jA base) H0 H1 locs1) (hE : E1.all (fun q => E.contains q) = true) {L1 : List jPin} (is : List Nat) (hs : is.map (fun i => L[i]?) = L1.map some) (hn : L1.all (fun q => !(E1.contains (q.2.1, q.2.2.1))) = true) {M1 : List jCt} (js : List Nat) (hjs : js.map (fun i => M[i]?) = M1.map some) (hjn : M1.all (fun q => !(E1.contains (q.2.1, 0))) = true) {I1 : List jIv} (ks : List Nat) (hks : ks.map (fun i => I[i]?) = I1.map some) (hkn : I1.all (fun q => E1.all (fun x => !(q.1.contains x))) = true) : jSt (dC, dI) B base G0 G E H0 zc zs L1 M1 I1 H1 locs1 := by
  obtain ⟨h1, h2, h3, h4, h5, h6, h7, h8, h9⟩ := hh
  exact ⟨hS, hX, h3.over hk jLe.rf is hs hn, h4.tr (hk.sub h5 hE), h5, by omega, by omega, h8.over hk jLe.rf js hjs hjn, (h9.sub ks hks).ag (fun q hq => jAg.of hk (List.all_eq_true.mp hkn q hq))⟩
theorem jSt.more (hh : jSt (dC, dI) B base G0 G E H0 zc zs L M I H locs) {P1 : List jPin} (h : jP (dC, dI) G H P1) : jSt (dC, dI) B base G0 G E H0 zc zs (P1 ++ L) M I H locs := by
  obtain ⟨h1, h2, h3, h4⟩ := hh
  exact ⟨h1, h2, h.app h3, h4⟩
theorem jSt.sub (hh : jSt (dC, dI) B base G0 G E H0 zc zs L M I H locs) {L1 : List jPin} (is : List Nat) (hs : is.map (fun i => L[i]?) = L1.map some) {M1 : List jCt} (js : List Nat) (hjs : js.map (fun i => M[i]?) = M1.map some) {I1 : List jIv} (ks : List Nat) (hks : ks.map (fun i => I[i]?) = I1.map some) : jSt (dC, dI) B base G0 G E H0 zc zs L1 M1 I1 H locs := by
  obtain ⟨h1, h2, h3, h4, h5, h6, h7, h8, h9⟩ := hh
  exact ⟨h1, h2, h3.sub is hs, h4, h5, h6, h7, h8.sub js hjs, h9.sub ks hks⟩
/-- what a method that makes no cells leaves -/
def jRt (D : va_G) (B : jF) (base : Nat) (G : jT) (E : List (Nat × Nat)) (H0 : Heap) (M : List jPin) (H1 : Heap) : Prop := jX B base G [] H1 ∧ jKp D G E H0 H1 ∧ H1.size ≤ H0.size ∧ jTot H1 ≤ jTot H0 ∧ jP D G H1 M
theorem jSt.rt (hh : jSt (dC, dI) B base G G E H0 0 0 L M I H locs) {M1 : List jPin} (is : List Nat) (hs : is.map (fun i => L[i]?) = M1.map some) {t : State} (ht : t.heap = H) : jRt (dC, dI) B base G E H0 M1 t.heap := by
  rw [ht]
  obtain ⟨h1, h2, h3, h4, h5, h6, h7, h8, h9⟩ := hh
  exact ⟨h2, h4, h6, h7, h3.sub is hs⟩
theorem jSt.start {H0 : Heap} (hX : jX B base G [] H0) {L : List jPin} (hP : jP (dC, dI) G H0 L) {M : List jCt} (hM : jMc (dC, dI) G H0 M) {I : List jIv} (hI : jIs (dC, dI) G H0 I) : jSt (dC, dI) B base G G E H0 0 0 L M I H0 [] := ⟨va_S.rf, hX, hP, jKp.rf, jLe.rf, Nat.le_refl _, Nat.le_refl _, hM, hI⟩
theorem jSt.recv (hh : jSt (dC, dI) B base G0 G E H0 zc zs L M I H locs) {N : Nat} {C : String} {T : u_T} {F : Nat → jT → List (Value → Prop)} (hBk : ∀ n G a H, B k n G a H ↔ jOb (dC, dI) k N (F n G) a H) (hc : vwCl[k]? = some (C, T, N)) (hk : k < 1000) (ha : G a = some (k, n)) (hK : va_K (dC, dI) vwCl tys s) : ∃ cell : Cell, H[a]? = some cell ∧ cell.vm.isStatics = false ∧ s.vm.findClass C = some cell.cls := by
  obtain ⟨V, ⟨cell, q1, q2, q3, q4⟩, hV⟩ := (hBk _ _ _ _).mp (hh.2.1.1 a k n ha hk (fun h => by cases h))
  obtain ⟨hS, hfc, -⟩ := hK.1 k _ hc
  exact ⟨cell, q1, by rw [q3]; rfl, by rw [q2]; exact hfc⟩
end J8
def jI (lo hi : Int) : Value → Prop := fun v => ∃ x : Int32, v = .int x ∧ lo ≤ x.toInt ∧ x.toInt ≤ hi
def jIa : Value → Prop := fun v => ∃ x : Int32, v = .int x
def jZb : Value → Prop := fun v => ∃ x : Int32, v = .int x ∧ (x = 0 ∨ x = 1)
def jRf (G : jT) (k n : Nat) : Value → Prop := fun v => ∃ x : Nat, v = .ref x ∧ G x = some (k, n)
theorem jb_iadd2 {x y : Int32} {a b : Int} (hx : x.toInt = a) (hy : y.toInt = b) (h : -2147483648 ≤ a + b ∧ a + b ≤ 2147483647) : (x + y).toInt = a + b := jb_iadd hx hy h.1 h.2
theorem jb_isub2 {x y : Int32} {a b : Int} (hx : x.toInt = a) (hy : y.toInt = b) (h : -2147483648 ≤ a - b ∧ a - b ≤ 2147483647) : (x - y).toInt = a - b := jb_isub hx hy h.1 h.2
end
section
-- contents of arrays that are known for a while
theorem jCt_eq {D : va_G} {a n j : Nat} {cA cB : ClassId} {f g : Nat → Int32} {H : Heap} (h1 : va_at D vwCl (a, .inl (cA, n, .inl f)) H) (h2 : va_at D vwCl (a, .inl (cB, n, .inl g)) H) (hj : j < n) : f j = g j := by
  have e1 : H[a]? = some (vp_cell cA (n, .inl f)) := h1
  have e2 : H[a]? = some (vp_cell cB (n, .inl g)) := h2
  have e := Option.some.inj (e1.symm.trans e2)
  have r1 : (vp_cell cA (n, .inl f)).slots[j]? = some (.int (f j)) := by rw [vp_cell_i, arrV_read _ _ hj]
  have r2 : (vp_cell cB (n, .inl g)).slots[j]? = some (.int (g j)) := by rw [vp_cell_i, arrV_read _ _ hj]
  rw [e, r2] at r1
  exact (Value.int.inj (Option.some.inj r1)).symm
section J9
variable {p : Program} {l : Launch} {e : Env} {R : Room} {s : State} {m : MethodId} {args : Array Value} {below : List Frame} {meth : Method} {c : Code} {H : Heap} {locs : List Loc} {cells slots : Nat} {Q : State → Prop}
variable {cc : ByteArray} {pc : Nat} {ls : Array Slot} {rest : List Value} {dC : Nat → ClassId} {dI : Nat → Nat → Nat} {ca : Nat → ClassId} {B : jF} {base : Nat} {G0 G : jT} {E : List (Nat × Nat)} {H0 : Heap} {zc zs : Nat} {L : List jPin} {M : List jCt} {I : List jIv} {a k n : Nat} {P : Nat → Int32 → Prop} {cA : ClassId} {tys : List (ClassId × FieldType)}
theorem j7_ialdM (hexec : p.tables.exec = Jvm.exec) (hb : c.code = cc) (hK : va_K (dC, dI) vwCl tys s) (hh : jSt (dC, dI) B base G0 G E H0 zc zs L M I H locs) (hBk : ∀ n G a H, B k n G a H ↔ jAr (dC, dI) cA P n a H) (t0 : Nat) (ht : tys[t0]? = some (cA, .int)) (hk : k < 1000) (ha : G a = some (k, n)) {i : Int32} {x : Int} (hi : i.toInt = x) (h12 : 0 ≤ x ∧ x < n) {j : Nat} {kk1 : Nat} {cB : ClassId} {f : Nat → Int32} (hj : M[j]? = some (a, kk1, n, cB, f)) (hdg : decode cc pc = .ok (.iaload, 1))
    (kk : ∀ z : Int32, z = f x.toNat → P x.toNat z → W p l e R s m args below meth c H locs cells slots Q (F0 m (pc + 1) ls (.int z :: rest))) : W p l e R s m args below meth c H locs cells slots Q (F0 m pc ls (.int i :: .ref a :: rest)) := by
  obtain ⟨h1, h2⟩ := h12
  obtain ⟨f', g1, g2⟩ := hh.ar hBk hk ha
  obtain ⟨-, -, -, q4⟩ := hh.2.2.2.2.2.2.2.1 _ (List.mem_of_getElem? hj)
  have hlt := jb_cl_lt hi h1 h2
  have hP := g2 _ hlt
  have e1 := jCt_eq q4 g1 hlt
  rw [jb_cl hi h1] at e1 hP
  exact va_iald hexec hb hK (jp_one g1) 0 t0 rfl ht (jb_in hi h1 h2) hdg (by rw [jb_cl hi h1]; exact kk _ e1.symm hP)
end J9
end
section
def F15 (n : Nat) (G : jT) : List (Value → Prop) := [jRf G 150 120000, jRf G 151 120000, jRf G 152 120000, jRf G 153 120000, jRf G 154 120000, jI 0 120000, jRf G 166 12000, jI 0 12000, jRf G 155 1600, jRf G 156 1600, jI 0 1600, jI 0 16, jRf G 163 16, jRf G 103 16, jRf G 165 16, jI 0 16, jRf G 163 16, jRf G 160 16, jZb, jI 0 1599, jI 0 119999, jI 0 6, jRf G 161 46, jRf G 158 46, jRf G 163 276, jRf G 159 46, jRf G 163 368, jRf G 162 368, jRf G 167 1500, jRf G 157 1500, jI 0 1500, jIa, jI 0 1600, jZb, jI 0 9, jRf G 163 200, jI 0 200, jRf G 169 1, jI 0 1599, jI 0 1599, jI 0 1599, jI 0 3, jI 0 119999, jRf G 169 100, jRf G 168 100, jRf G 101 100000, jI 0 100000, jRf G 163 100, jRf G 164 100, jI 0 100]
theorem dX13_part_0 : decode cX13_part 0 = .ok (.iload_n 2, 1) := by decide +kernel
theorem dX13_part_1 : decode cX13_part 1 = .ok (.ifCond .ne 12, 3) := by decide +kernel
theorem dX13_part_4 : decode cX13_part 4 = .ok (.aload_n 0, 1) := by decide +kernel
theorem dX13_part_5 : decode cX13_part 5 = .ok (.getfield 19, 3) := by decide +kernel
theorem dX13_part_8 : decode cX13_part 8 = .ok (.iload_n 1, 1) := by decide +kernel
theorem dX13_part_9 : decode cX13_part 9 = .ok (.iaload, 1) := by decide +kernel
theorem dX13_part_10 : decode cX13_part 10 = .ok (.goto 23, 3) := by decide +kernel
theorem dX13_part_13 : decode cX13_part 13 = .ok (.iload_n 2, 1) := by decide +kernel
theorem dX13_part_14 : decode cX13_part 14 = .ok (.iconst 1, 1) := by decide +kernel
theorem dX13_part_15 : decode cX13_part 15 = .ok (.if_icmp .ne 12, 3) := by decide +kernel
theorem dX13_part_18 : decode cX13_part 18 = .ok (.aload_n 0, 1) := by decide +kernel
theorem dX13_part_19 : decode cX13_part 19 = .ok (.getfield 22, 3) := by decide +kernel
theorem dX13_part_22 : decode cX13_part 22 = .ok (.iload_n 1, 1) := by decide +kernel
theorem dX13_part_23 : decode cX13_part 23 = .ok (.iaload, 1) := by decide +kernel
theorem dX13_part_24 : decode cX13_part 24 = .ok (.goto 9, 3) := by decide +kernel
theorem dX13_part_27 : decode cX13_part 27 = .ok (.aload_n 0, 1) := by decide +kernel
theorem dX13_part_28 : decode cX13_part 28 = .ok (.getfield 25, 3) := by decide +kernel
theorem dX13_part_31 : decode cX13_part 31 = .ok (.iload_n 1, 1) := by decide +kernel
theorem dX13_part_32 : decode cX13_part 32 = .ok (.iaload, 1) := by decide +kernel
theorem dX13_part_33 : decode cX13_part 33 = .ok (.ireturn, 1) := by decide +kernel
end
section
-- new cells: an array of ints that is typed at once
section J11
variable {p : Program} {l : Launch} {e : Env} {R : Room} {s : State} {m : MethodId} {args : Array Value} {below : List Frame} {meth : Method} {c : Code} {H : Heap} {locs : List Loc} {cells slots : Nat} {Q : State → Prop}
variable {cc : ByteArray} {pc : Nat} {ls : Array Slot} {rest : List Value} {dC : Nat → ClassId} {dI : Nat → Nat → Nat} {ca : Nat → ClassId} {B : jF} {base : Nat} {G0 G : jT} {E : List (Nat × Nat)} {H0 : Heap} {zc zs : Nat} {L : List jPin} {M : List jCt} {I : List jIv} {k n : Nat} {P : Nat → Int32 → Prop} {cA : ClassId} {tys : List (ClassId × FieldType)}
theorem jf.lt {D : va_G} {k a i : Nat} {v : Value} {H : Heap} (h : jf D k a i v H) : a < H.size := by
  obtain ⟨r, -, -, cell, g, -⟩ := h
  exact (Array.getElem?_eq_some_iff.mp g).1
end J11
end
section
-- formulas of the reference's kernel as rows of numbers: what a node is, its size, likeness, counting, putting in
abbrev jK : Type := (Nat → Int32) × (Nat → Int32) × (Nat → Int32) × (Nat → Int32) × (Nat → Int32) × (Nat → Int32)
abbrev jK.s (C : jK) : Nat → Int32 := C.1
abbrev jK.n (C : jK) : Nat → Int32 := C.2.1
abbrev jK.a (C : jK) : Nat → Int32 := C.2.2.1
abbrev jK.b (C : jK) : Nat → Int32 := C.2.2.2.1
abbrev jK.c (C : jK) : Nat → Int32 := C.2.2.2.2.1
abbrev jK.y (C : jK) : Nat → Int32 := C.2.2.2.2.2
def jSo (f : Nat → Int32) (n : Int) : Int := (f n.toNat).toInt
def jPts (C : jK) (n : Int) : Int := if jSo C.s n = 7 ∨ jSo C.s n = 8 then jSo C.y (jSo C.n n) else if jSo C.s n ≤ 2 ∨ jSo C.s n = 6 then 2 else if jSo C.s n = 4 ∨ jSo C.s n = 5 then 1 else 0
def jPr (C : jK) (n k : Int) : Int := if k = 0 then jSo C.a n else if k = 1 then jSo C.b n else jSo C.c n
def jQf (C : jK) (n : Int) : Int := if jSo C.s n = 4 ∨ jSo C.s n = 5 then 1 else 0
/-- a node of a formula: N nodes, Y symbols, b names that are bound around it -/
def jNd (C : jK) (N Y b n : Int) : Prop := 0 ≤ n ∧ n < N ∧ 0 ≤ jSo C.s n ∧ jSo C.s n ≤ 10 ∧ (jSo C.s n = 7 ∨ jSo C.s n = 8 → 0 ≤ jSo C.n n ∧ jSo C.n n < Y) ∧ (jSo C.s n = 10 → 0 ≤ jSo C.n n ∧ jSo C.n n < b) ∧ (jSo C.s n = 9 ∨ jSo C.s n = 4 ∨ jSo C.s n = 5 → 0 ≤ jSo C.n n ∧ jSo C.n n ≤ 1599) ∧ 0 ≤ jPts C n ∧ jPts C n ≤ 3
def jFm (C : jK) (N Y : Int) : Nat → Int → Int → Prop
  | 0, _, _ => False
  | d + 1, b, n => jNd C N Y b n ∧ ∀ k : Int, 0 ≤ k → k < jPts C n → jFm C N Y d (b + jQf C n) (jPr C n k)
def jSzF (C : jK) : Nat → Int → Int
  | 0, _ => 0
  | d + 1, n => 1 + (if 0 < jPts C n then jSzF C d (jPr C n 0) else 0) + (if 1 < jPts C n then jSzF C d (jPr C n 1) else 0) + (if 2 < jPts C n then jSzF C d (jPr C n 2) else 0)
def jsz (C : jK) (n : Int) : Int := jSzF C 4000 n
/-- the size of a node and its first k parts -/
def jSzK (C : jK) (n k : Int) : Int := 1 + (if 0 < k then jsz C (jPr C n 0) else 0) + (if 1 < k then jsz C (jPr C n 1) else 0) + (if 2 < k then jsz C (jPr C n 2) else 0)
theorem jFm.nd {C : jK} {N Y b n : Int} {d : Nat} (h : jFm C N Y d b n) : jNd C N Y b n := by
  cases d with
  | zero => exact h.elim
  | succ d => exact h.1
theorem jFm.pos {C : jK} {N Y b n : Int} {d : Nat} (h : jFm C N Y d b n) : 1 ≤ d := by
  cases d with
  | zero => exact h.elim
  | succ d => omega
theorem jFm.part {C : jK} {N Y b n : Int} {d : Nat} (h : jFm C N Y d b n) {k : Int} (h0 : 0 ≤ k) (h1 : k < jPts C n) : jFm C N Y (d - 1) (b + jQf C n) (jPr C n k) := by
  cases d with
  | zero => exact h.elim
  | succ d => exact h.2 k h0 h1
theorem jFm.mono {C : jK} {N Y : Int} {d : Nat} : ∀ {b n : Int}, jFm C N Y d b n → ∀ {d1 : Nat} {b1 : Int}, d ≤ d1 → b ≤ b1 → jFm C N Y d1 b1 n := by
  induction d with
  | zero => intro b n h; exact h.elim
  | succ d ih =>
    intro b n h d1 b1 hd hb
    cases d1 with
    | zero => omega
    | succ d1 =>
      obtain ⟨⟨h1, h2, h3, h4, h5, h6, h7, h8⟩, hp⟩ := h
      exact ⟨⟨h1, h2, h3, h4, h5, fun q => ⟨(h6 q).1, by have := (h6 q).2; omega⟩, h7, h8⟩, fun k g0 g1 => ih (hp k g0 g1) (by omega) (by omega)⟩
theorem jSzF_fuel {C : jK} {N Y : Int} {d : Nat} : ∀ {b n : Int}, jFm C N Y d b n → ∀ d1, d ≤ d1 → jSzF C d1 n = jSzF C d n := by
  induction d with
  | zero => intro b n h; exact h.elim
  | succ d ih =>
    intro b n h d1 hd
    cases d1 with
    | zero => omega
    | succ d1 =>
      have e : ∀ k, 0 ≤ k → k < jPts C n → jSzF C d1 (jPr C n k) = jSzF C d (jPr C n k) := fun k g0 g1 => ih (h.2 k g0 g1) d1 (by omega)
      unfold jSzF
      have e0 : (if 0 < jPts C n then jSzF C d1 (jPr C n 0) else 0) = (if 0 < jPts C n then jSzF C d (jPr C n 0) else 0) := by split; exact e 0 (by omega) (by omega); rfl
      have e1 : (if 1 < jPts C n then jSzF C d1 (jPr C n 1) else 0) = (if 1 < jPts C n then jSzF C d (jPr C n 1) else 0) := by split; exact e 1 (by omega) (by omega); rfl
      have e2 : (if 2 < jPts C n then jSzF C d1 (jPr C n 2) else 0) = (if 2 < jPts C n then jSzF C d (jPr C n 2) else 0) := by split; exact e 2 (by omega) (by omega); rfl
      rw [e0, e1, e2]
theorem jsz_step {C : jK} {N Y b n : Int} {d : Nat} (h : jFm C N Y d b n) (hd : d ≤ 4000) : jsz C n = jSzK C n (jPts C n) := by
  unfold jsz jSzK
  have e : ∀ k, 0 ≤ k → k < jPts C n → jSzF C 3999 (jPr C n k) = jsz C (jPr C n k) := fun k g0 g1 => by
    have hp := h.part g0 g1
    unfold jsz
    rw [jSzF_fuel hp 3999 (by omega), jSzF_fuel hp 4000 (by omega)]
  show 1 + (if 0 < jPts C n then jSzF C 3999 (jPr C n 0) else 0) + (if 1 < jPts C n then jSzF C 3999 (jPr C n 1) else 0) + (if 2 < jPts C n then jSzF C 3999 (jPr C n 2) else 0) = _
  have e0 : (if 0 < jPts C n then jSzF C 3999 (jPr C n 0) else 0) = (if 0 < jPts C n then jsz C (jPr C n 0) else 0) := by split; exact e 0 (by omega) (by omega); rfl
  have e1 : (if 1 < jPts C n then jSzF C 3999 (jPr C n 1) else 0) = (if 1 < jPts C n then jsz C (jPr C n 1) else 0) := by split; exact e 1 (by omega) (by omega); rfl
  have e2 : (if 2 < jPts C n then jSzF C 3999 (jPr C n 2) else 0) = (if 2 < jPts C n then jsz C (jPr C n 2) else 0) := by split; exact e 2 (by omega) (by omega); rfl
  rw [e0, e1, e2]
theorem jSzF_nn {C : jK} : ∀ (d : Nat) (n : Int), 0 ≤ jSzF C d n := by
  intro d
  induction d with
  | zero => intro n; unfold jSzF; omega
  | succ d ih =>
    intro n
    have h0 := ih (jPr C n 0); have h1 := ih (jPr C n 1); have h2 := ih (jPr C n 2)
    unfold jSzF
    split <;> split <;> split <;> omega
theorem jsz_nn (C : jK) (n : Int) : 0 ≤ jsz C n := jSzF_nn _ _
theorem jsz_pos {C : jK} {N Y b n : Int} {d : Nat} (_ : jFm C N Y d b n) : 1 ≤ jsz C n := by
  unfold jsz
  show 1 ≤ 1 + (if 0 < jPts C n then jSzF C 3999 (jPr C n 0) else 0) + (if 1 < jPts C n then jSzF C 3999 (jPr C n 1) else 0) + (if 2 < jPts C n then jSzF C 3999 (jPr C n 2) else 0)
  have h0 := jSzF_nn (C := C) 3999 (jPr C n 0); have h1 := jSzF_nn (C := C) 3999 (jPr C n 1); have h2 := jSzF_nn (C := C) 3999 (jPr C n 2)
  split <;> split <;> split <;> omega
theorem jSzK_0 (C : jK) (n : Int) : jSzK C n 0 = 1 := by unfold jSzK; simp
theorem jSzK_s (C : jK) (n : Int) {k : Int} (h0 : 0 ≤ k) (h1 : k ≤ 2) : jSzK C n (k + 1) = jSzK C n k + jsz C (jPr C n k) := by
  have h : k = 0 ∨ k = 1 ∨ k = 2 := by omega
  unfold jSzK
  rcases h with rfl | rfl | rfl <;> simp <;> omega
theorem jSzK_le (C : jK) (n : Int) {k p : Int} (h0 : 0 ≤ k) (h1 : k ≤ p) : jSzK C n k ≤ jSzK C n p := by
  have g0 := jsz_nn C (jPr C n 0); have g1 := jsz_nn C (jPr C n 1); have g2 := jsz_nn C (jPr C n 2)
  unfold jSzK
  split <;> split <;> split <;> split <;> split <;> split <;> omega
theorem jsz_part {C : jK} {N Y b n : Int} {d : Nat} (h : jFm C N Y d b n) (hd : d ≤ 4000) {k : Int} (h0 : 0 ≤ k) (h1 : k < jPts C n) : jsz C (jPr C n k) + 1 ≤ jsz C n := by
  have h9 := h.nd
  have hp : jPts C n ≤ 3 := h9.2.2.2.2.2.2.2.2
  rw [jsz_step h hd]
  have h2 := jSzK_le C n (k := k + 1) (p := jPts C n) (by omega) (by omega)
  rw [jSzK_s C n h0 (by omega)] at h2
  have h3 := jSzK_le C n (k := 0) (p := k) (by omega) h0
  rw [jSzK_0] at h3
  omega
/-- as deep as large at most -/
theorem jFm.tight {C : jK} {N Y : Int} {d : Nat} (hd : d ≤ 4000) : ∀ {b n : Int}, jFm C N Y d b n → ∀ e : Nat, jsz C n ≤ e → jFm C N Y e b n := by
  induction d with
  | zero => intro b n h; exact h.elim
  | succ d ih =>
    intro b n h e he
    have h1 := jsz_pos h
    cases e with
    | zero => exact absurd he (by omega)
    | succ e => exact ⟨h.1, fun k g0 g1 => ih (by omega) (h.2 k g0 g1) e (by have := jsz_part h (by omega) g0 g1; omega)⟩
-- the same rows below N
def jAgK (C D : jK) (N : Int) : Prop := (∀ j : Nat, (j : Int) < N → D.s j = C.s j ∧ D.n j = C.n j ∧ D.a j = C.a j ∧ D.b j = C.b j ∧ D.c j = C.c j) ∧ ∀ j, D.y j = C.y j
theorem jAgK.tr {C D E : jK} {N M : Int} (h : jAgK C D N) (h1 : jAgK D E M) (hm : N ≤ M) : jAgK C E N := ⟨fun j hj => by
  obtain ⟨a1, a2, a3, a4, a5⟩ := h.1 j hj
  obtain ⟨b1, b2, b3, b4, b5⟩ := h1.1 j (by omega)
  exact ⟨b1.trans a1, b2.trans a2, b3.trans a3, b4.trans a4, b5.trans a5⟩, fun j => (h1.2 j).trans (h.2 j)⟩
def jSmF (C : jK) : Nat → Int → Int → Int
  | 0, _, _ => 0
  | d + 1, x, y => if x = y then 1 else if jSo C.s x ≠ jSo C.s y then 0 else if (7 ≤ jSo C.s x ∧ jSo C.s x ≤ 10) ∧ jSo C.n x ≠ jSo C.n y then 0 else if 0 < jPts C x ∧ jSmF C d (jPr C x 0) (jPr C y 0) = 0 then 0 else if 1 < jPts C x ∧ jSmF C d (jPr C x 1) (jPr C y 1) = 0 then 0 else if 2 < jPts C x ∧ jSmF C d (jPr C x 2) (jPr C y 2) = 0 then 0 else 1
def jSm (C : jK) (x y : Int) : Int := jSmF C 4000 x y
def jSmK (C : jK) (x y k : Int) : Int := if 0 < k ∧ jSm C (jPr C x 0) (jPr C y 0) = 0 then 0 else if 1 < k ∧ jSm C (jPr C x 1) (jPr C y 1) = 0 then 0 else if 2 < k ∧ jSm C (jPr C x 2) (jPr C y 2) = 0 then 0 else 1
theorem jSmF_fuel {C : jK} {N Y : Int} {d : Nat} : ∀ {b x : Int}, jFm C N Y d b x → ∀ (y : Int) (d1 : Nat), d ≤ d1 → jSmF C d1 x y = jSmF C d x y := by
  induction d with
  | zero => intro b n h; exact h.elim
  | succ d ih =>
    intro b x h y d1 hd
    cases d1 with
    | zero => omega
    | succ d1 =>
      have e : ∀ k, 0 ≤ k → k < jPts C x → jSmF C d1 (jPr C x k) (jPr C y k) = jSmF C d (jPr C x k) (jPr C y k) := fun k g0 g1 => ih (h.2 k g0 g1) _ d1 (by omega)
      unfold jSmF
      have e0 : (0 < jPts C x ∧ jSmF C d1 (jPr C x 0) (jPr C y 0) = 0) ↔ (0 < jPts C x ∧ jSmF C d (jPr C x 0) (jPr C y 0) = 0) := ⟨fun q => ⟨q.1, by rw [← e 0 (by omega) q.1]; exact q.2⟩, fun q => ⟨q.1, by rw [e 0 (by omega) q.1]; exact q.2⟩⟩
      have e1 : (1 < jPts C x ∧ jSmF C d1 (jPr C x 1) (jPr C y 1) = 0) ↔ (1 < jPts C x ∧ jSmF C d (jPr C x 1) (jPr C y 1) = 0) := ⟨fun q => ⟨q.1, by rw [← e 1 (by omega) q.1]; exact q.2⟩, fun q => ⟨q.1, by rw [e 1 (by omega) q.1]; exact q.2⟩⟩
      have e2 : (2 < jPts C x ∧ jSmF C d1 (jPr C x 2) (jPr C y 2) = 0) ↔ (2 < jPts C x ∧ jSmF C d (jPr C x 2) (jPr C y 2) = 0) := ⟨fun q => ⟨q.1, by rw [← e 2 (by omega) q.1]; exact q.2⟩, fun q => ⟨q.1, by rw [e 2 (by omega) q.1]; exact q.2⟩⟩
      simp only [e0, e1, e2]
theorem jSm_step {C : jK} {N Y b x : Int} {d : Nat} (h : jFm C N Y d b x) (hd : d ≤ 4000) (y : Int) : jSm C x y = if x = y then 1 else if jSo C.s x ≠ jSo C.s y then 0 else if (7 ≤ jSo C.s x ∧ jSo C.s x ≤ 10) ∧ jSo C.n x ≠ jSo C.n y then 0 else jSmK C x y (jPts C x) := by
  have e : ∀ k, 0 ≤ k → k < jPts C x → jSmF C 3999 (jPr C x k) (jPr C y k) = jSm C (jPr C x k) (jPr C y k) := fun k g0 g1 => by
    have hp := h.part g0 g1
    unfold jSm
    rw [jSmF_fuel hp _ 3999 (by omega), jSmF_fuel hp _ 4000 (by omega)]
  unfold jSm jSmK
  show jSmF C (3999 + 1) x y = _
  unfold jSmF
  have e0 : (0 < jPts C x ∧ jSmF C 3999 (jPr C x 0) (jPr C y 0) = 0) ↔ (0 < jPts C x ∧ jSm C (jPr C x 0) (jPr C y 0) = 0) := ⟨fun q => ⟨q.1, by rw [← e 0 (by omega) q.1]; exact q.2⟩, fun q => ⟨q.1, by rw [e 0 (by omega) q.1]; exact q.2⟩⟩
  have e1 : (1 < jPts C x ∧ jSmF C 3999 (jPr C x 1) (jPr C y 1) = 0) ↔ (1 < jPts C x ∧ jSm C (jPr C x 1) (jPr C y 1) = 0) := ⟨fun q => ⟨q.1, by rw [← e 1 (by omega) q.1]; exact q.2⟩, fun q => ⟨q.1, by rw [e 1 (by omega) q.1]; exact q.2⟩⟩
  have e2 : (2 < jPts C x ∧ jSmF C 3999 (jPr C x 2) (jPr C y 2) = 0) ↔ (2 < jPts C x ∧ jSm C (jPr C x 2) (jPr C y 2) = 0) := ⟨fun q => ⟨q.1, by rw [← e 2 (by omega) q.1]; exact q.2⟩, fun q => ⟨q.1, by rw [e 2 (by omega) q.1]; exact q.2⟩⟩
  simp only [e0, e1, e2]
theorem jSmK_0 (C : jK) (x y : Int) : jSmK C x y 0 = 1 := by unfold jSmK; simp
theorem jSmK_s (C : jK) (x y : Int) {k : Int} (h0 : 0 ≤ k) (h1 : k ≤ 2) (hs : jSm C (jPr C x k) (jPr C y k) ≠ 0) : jSmK C x y (k + 1) = jSmK C x y k := by
  have h : k = 0 ∨ k = 1 ∨ k = 2 := by omega
  unfold jSmK
  rcases h with rfl | rfl | rfl <;> simp [hs]
theorem jSmK_z (C : jK) (x y : Int) {k p : Int} (h0 : 0 ≤ k) (h1 : k < p) (h2 : p ≤ 3) (hs : jSm C (jPr C x k) (jPr C y k) = 0) : jSmK C x y p = 0 := by
  have h : k = 0 ∨ k = 1 ∨ k = 2 := by omega
  unfold jSmK
  rcases h with rfl | rfl | rfl
  · rw [if_pos ⟨by omega, hs⟩]
  · split
    · rfl
    · rw [if_pos ⟨by omega, hs⟩]
  · split
    · rfl
    · split
      · rfl
      · rw [if_pos ⟨by omega, hs⟩]
theorem jPts_like {C D : jK} {x y : Int} (hs : jSo D.s y = jSo C.s x) (hn : 7 ≤ jSo C.s x ∧ jSo C.s x ≤ 10 → jSo D.n y = jSo C.n x) (hy : ∀ j, D.y j = C.y j) : jPts D y = jPts C x := by
  unfold jPts
  rw [hs]
  by_cases q : jSo C.s x = 7 ∨ jSo C.s x = 8
  · rw [if_pos q, if_pos q, hn (by omega)]
    unfold jSo; rw [hy]
  · rw [if_neg q, if_neg q]
theorem jFm.wide {C : jK} {N Y N1 Y1 : Int} (hN : N ≤ N1) (hY : Y ≤ Y1) {d : Nat} : ∀ {b n : Int}, jFm C N Y d b n → jFm C N1 Y1 d b n := by
  induction d with
  | zero => intro b n h; exact h.elim
  | succ d ih =>
    intro b n h
    obtain ⟨⟨h1, h2, h3, h4, h5, h6⟩, hp⟩ := h
    exact ⟨⟨h1, by omega, h3, h4, fun q => ⟨(h5 q).1, by have := (h5 q).2; omega⟩, h6⟩, fun k g0 g1 => ih (hp k g0 g1)⟩
/-- a formula of some depth at most, whatever is bound around it -/
def jTr (C : jK) (d : Nat) (n : Int) : Prop := ∃ b, jFm C 120000 16 d b n
theorem jFm.tr {C : jK} {N Y b n : Int} {d : Nat} (h : jFm C N Y d b n) (hN : N ≤ 120000) (hY : Y ≤ 16) : jTr C d n := ⟨b, h.wide hN hY⟩
theorem jTr.part {C : jK} {d : Nat} {n k : Int} (h : jTr C d n) (h0 : 0 ≤ k) (h1 : k < jPts C n) : jTr C (d - 1) (jPr C n k) := by obtain ⟨b, h⟩ := h; exact ⟨_, h.part h0 h1⟩
theorem jTr.mono {C : jK} {d d1 : Nat} {n : Int} (h : jTr C d n) (hd : d ≤ d1) : jTr C d1 n := by obtain ⟨b, h⟩ := h; exact ⟨b, h.mono hd (Int.le_refl b)⟩
theorem jTr.ok {C : jK} {d : Nat} {n : Int} (h : jTr C d n) : 0 ≤ n ∧ n < 120000 ∧ 0 ≤ jSo C.s n ∧ jSo C.s n ≤ 10 ∧ (jSo C.s n = 7 ∨ jSo C.s n = 8 → 0 ≤ jSo C.n n ∧ jSo C.n n < 16) ∧ 0 ≤ jPts C n ∧ jPts C n ≤ 3 ∧ 1 ≤ d := by
  obtain ⟨b, h⟩ := h
  obtain ⟨h1, h2, h3, h4, h5, h6, h7, h8, h9⟩ := h.nd
  exact ⟨h1, h2, h3, h4, h5, h8, h9, h.pos⟩
theorem jTr.step {C : jK} {d : Nat} {n : Int} (h : jTr C d n) (hd : d ≤ 4000) : jsz C n = jSzK C n (jPts C n) := by obtain ⟨b, h⟩ := h; exact jsz_step h hd
theorem jTr.pos {C : jK} {d : Nat} {n : Int} (h : jTr C d n) : 1 ≤ jsz C n := by obtain ⟨b, h⟩ := h; exact jsz_pos h
theorem jTr.sm {C : jK} {d : Nat} {x : Int} (h : jTr C d x) (hd : d ≤ 4000) (y : Int) : jSm C x y = if x = y then 1 else if jSo C.s x ≠ jSo C.s y then 0 else if (7 ≤ jSo C.s x ∧ jSo C.s x ≤ 10) ∧ jSo C.n x ≠ jSo C.n y then 0 else jSmK C x y (jPts C x) := by obtain ⟨b, h⟩ := h; exact jSm_step h hd y
def jNbF (C : jK) : Nat → Int → Prop
  | 0, _ => True
  | d + 1, n => jSo C.s n ≠ 10 ∧ ∀ k : Int, 0 ≤ k → k < jPts C n → jNbF C d (jPr C n k)
def jNbK (C : jK) (d : Nat) (n k : Int) : Prop := ∀ j : Int, 0 ≤ j → j < k → jNbF C d (jPr C n j)
theorem jNbK_0 (C : jK) (d : Nat) (n : Int) : jNbK C d n 0 := fun j h0 h1 => by omega
theorem jNbK_s {C : jK} {d : Nat} {n k : Int} (h : jNbK C d n k) (h1 : jNbF C d (jPr C n k)) : jNbK C d n (k + 1) := fun j g0 g1 => by
  by_cases e : j = k
  · rw [e]; exact h1
  · exact h j g0 (by omega)
theorem jNbF_mk {C : jK} {d : Nat} {n : Int} (hd : 1 ≤ d) (h0 : jSo C.s n ≠ 10) (h : jNbK C (d - 1) n (jPts C n)) : jNbF C d n := by
  cases d with
  | zero => omega
  | succ d => exact ⟨h0, h⟩
theorem jFm.closed {C : jK} {N Y : Int} {d : Nat} : ∀ {b n : Int}, jFm C N Y d b n → jNbF C d n → ∀ b1, jFm C N Y d b1 n := by
  induction d with
  | zero => intro b n h; exact h.elim
  | succ d ih =>
    intro b n h hn b1
    obtain ⟨⟨h1, h2, h3, h4, h5, h6, h7⟩, hp⟩ := h
    exact ⟨⟨h1, h2, h3, h4, h5, fun q => absurd q hn.1, h7⟩, fun k g0 g1 => ih (hp k g0 g1) (hn.2 k g0 g1) _⟩
theorem jQf_ok (C : jK) (n : Int) : (jSo C.s n = 4 ∨ jSo C.s n = 5 → jQf C n = 1) ∧ (jSo C.s n ≠ 4 ∧ jSo C.s n ≠ 5 → jQf C n = 0) ∧ 0 ≤ jQf C n ∧ jQf C n ≤ 1 := by
  unfold jQf
  split <;> omega
theorem jPts_nl (C : jK) (n : Int) : (jSo C.s n = 10 → jPts C n = 0) ∧ (jSo C.s n = 4 ∨ jSo C.s n = 5 → jPts C n = 1) ∧ (jSo C.s n = 0 ∨ jSo C.s n = 1 ∨ jSo C.s n = 2 ∨ jSo C.s n = 6 → jPts C n = 2) ∧ (jSo C.s n = 3 ∨ jSo C.s n = 9 → jPts C n = 0) := by
  unfold jPts
  refine ⟨fun h => ?_, fun h => ?_, fun h => ?_, fun h => ?_⟩
  · rw [if_neg (by omega), if_neg (by omega), if_neg (by omega)]
  · rw [if_neg (by omega), if_neg (by omega), if_pos (by omega)]
  · rw [if_neg (by omega), if_pos (by omega)]
  · rw [if_neg (by omega), if_neg (by omega), if_neg (by omega)]
/-- terms that are found so far -/
def jTo (C : jK) (N Y : Int) (T : Nat → Int32) (m : Int) : Prop := ∀ k : Int, 0 ≤ k → k < m → jSo T k < 0 ∨ (jFm C N Y 80 0 (jSo T k) ∧ jsz C (jSo T k) ≤ 80)
theorem jTo.set {C : jK} {N Y m g x : Int} {T T1 : Nat → Int32} {n : Nat} (h : jTo C N Y T m) (ho : ∀ j, j < n → j ≠ x.toNat → T1 j = T j) (hv : jSo T1 x = g) (hx : 0 ≤ x) (hm : m ≤ n) (hg : jFm C N Y 80 0 g) (hs : jsz C g ≤ 80) : jTo C N Y T1 m := fun k h0 h1 => by
  by_cases e : k = x
  · rw [e, hv]; exact Or.inr ⟨hg, hs⟩
  · have e1 : jSo T1 k = jSo T k := by unfold jSo; rw [ho k.toNat (by omega) (by omega)]
    rw [e1]; exact h k h0 h1
theorem jFm.sym {C : jK} {N Y b n : Int} {d : Nat} (h : jFm C N Y d b n) (hY : Y ≤ 16) : jSo C.s n = 7 ∨ jSo C.s n = 8 → 0 ≤ jSo C.n n ∧ jSo C.n n < 16 := fun q => ⟨(h.nd.2.2.2.2.1 q).1, by have := (h.nd.2.2.2.2.1 q).2; omega⟩
theorem jFm.bnd {C : jK} {N Y b n : Int} {d : Nat} (h : jFm C N Y d b n) (q : jSo C.s n = 10) : 0 ≤ jSo C.n n ∧ jSo C.n n < b ∧ jPts C n = 0 := ⟨(h.nd.2.2.2.2.2.1 q).1, (h.nd.2.2.2.2.2.1 q).2, (jPts_nl C n).1 q⟩
theorem jTr.sym {C : jK} {n : Int} {d : Nat} (h : jTr C d n) : jSo C.s n = 7 ∨ jSo C.s n = 8 → 0 ≤ jSo C.n n ∧ jSo C.n n < 16 := by obtain ⟨b, h⟩ := h; exact h.sym (Int.le_refl _)
section J12
variable {p : Program} {l : Launch} {e : Env} {R : Room} {s : State} {m : MethodId} {args : Array Value} {below : List Frame} {meth : Method} {c : Code} {H : Heap} {locs : List Loc} {cells slots : Nat} {Q : State → Prop}
variable {cc : ByteArray} {pc : Nat} {ls : Array Slot} {rest : List Value} {dC : Nat → ClassId} {dI : Nat → Nat → Nat} {ca : Nat → ClassId} {B : jF} {base : Nat} {G0 G : jT} {E : List (Nat × Nat)} {H0 : Heap} {zc zs : Nat} {L : List jPin} {M : List jCt} {I : List jIv} {a k n : Nat} {P : Nat → Int32 → Prop} {cA : ClassId} {tys : List (ClassId × FieldType)}
theorem jSt.moreM (hh : jSt (dC, dI) B base G0 G E H0 zc zs L M I H locs) {M1 : List jCt} (h : jMc (dC, dI) G H M1) : jSt (dC, dI) B base G0 G E H0 zc zs L (M1 ++ M) I H locs := by
  obtain ⟨h1, h2, h3, h4, h5, h6, h7, h8, h9⟩ := hh
  exact ⟨h1, h2, h3, h4, h5, h6, h7, fun q hq => (List.mem_append.mp hq).elim (h q) (h8 q), h9⟩
/-- a store into an array whose contents are known -/
theorem j7_iastU (hexec : p.tables.exec = Jvm.exec) (hb : c.code = cc) (hK : va_K (dC, dI) vwCl tys s) (hh : jSt (dC, dI) B base G0 G E H0 zc zs L M I H locs) (hB : jBok B) (hBk : ∀ n G a H, B k n G a H ↔ jAr (dC, dI) cA P n a H) (t0 : Nat) (ht : tys[t0]? = some (cA, .int)) (hk : k < 1000) (hk2 : 17 ≤ k) (hE : E.contains (k, 0) = true) (oj : Nat) {kk1 : Nat} {cB : ClassId} {f : Nat → Int32} (hj : M[oj]? = some (a, kk1, n, cB, f)) {M1 : List jCt} (js : List Nat) (hjs : js.map (fun i => M[i]?) = M1.map some) (hM : M1.all (fun q => !(q.2.1 == k)) = true) (hI : I.all (fun q => !(q.1.contains (k, 0))) = true) (ha : G a = some (k, n)) {i v : Int32} {x : Int} (hi : i.toInt = x) (h12 : 0 ≤ x ∧ x < n) (hv : P x.toNat v) (hdg : decode cc pc = .ok (.iastore, 1))
    (kk : ∀ (H1 : Heap) (locs1 : List Loc) (g : Nat → Int32), g x.toNat = v → (∀ j, j < n → j ≠ x.toNat → g j = f j) → jSt (dC, dI) B base G0 G E H0 zc zs L ((a, k, n, cA, g) :: M1) I H1 locs1 → W p l e R s m args below meth c H1 locs1 cells slots Q (F0 m (pc + 1) ls rest)) : W p l e R s m args below meth c H locs cells slots Q (F0 m pc ls (.int v :: .int i :: .ref a :: rest)) := by
  obtain ⟨h1, h2⟩ := h12
  obtain ⟨f', g1, g2⟩ := hh.ar hBk hk ha
  obtain ⟨-, -, -, q4⟩ := hh.2.2.2.2.2.2.2.1 _ (List.mem_of_getElem? hj)
  have hh1 : jSt (dC, dI) B base G0 G E H0 zc zs L M1 I H locs := by
    obtain ⟨e1, e2, e3, e4, e5, e6, e7, e8, e9⟩ := hh
    exact ⟨e1, e2, e3, e4, e5, e6, e7, e8.sub js hjs, e9⟩
  refine j_iast (A := jA base) hexec hb hK t0 g1 (hh.ab ha).1 hh.1.2.2 ht (jb_in hi h1 h2) hdg (fun H1 locs1 hat hsz hfr hT hL => ?_)
  have h9 := hh1.arr hB ha hk hk2 hE hM hI hsz hfr hT hL ((hBk _ _ _ _).mpr ⟨_, hat, jAr_upd g2 hi h1 hv⟩)
  refine kk H1 locs1 (upd f' i.toNatClampNeg v) (by rw [← jb_cl hi h1]; simp [upd]) (fun j hj' hne => ?_) ?_
  · have : j ≠ i.toNatClampNeg := by rw [jb_cl hi h1]; exact hne
    simp only [upd, if_neg this]
    exact (jCt_eq q4 g1 hj').symm
  · obtain ⟨e1, e2, e3, e4, e5, e6, e7, e8, e9⟩ := h9
    refine ⟨e1, e2, e3, e4, e5, e6, e7, fun q hq => ?_, e9⟩
    rcases List.mem_cons.mp hq with e | e
    · subst e; exact ⟨ha, hk2, hk, hat⟩
    · exact e8 q e
end J12
end
section
theorem dX13_parts_0 : decode cX13_parts 0 = .ok (.aload_n 0, 1) := by decide +kernel
theorem dX13_parts_1 : decode cX13_parts 1 = .ok (.getfield 12, 3) := by decide +kernel
theorem dX13_parts_4 : decode cX13_parts 4 = .ok (.iload_n 1, 1) := by decide +kernel
theorem dX13_parts_5 : decode cX13_parts 5 = .ok (.iaload, 1) := by decide +kernel
theorem dX13_parts_6 : decode cX13_parts 6 = .ok (.istore_n 2, 1) := by decide +kernel
theorem dX13_parts_7 : decode cX13_parts 7 = .ok (.iload_n 2, 1) := by decide +kernel
theorem dX13_parts_8 : decode cX13_parts 8 = .ok (.bipush 7, 2) := by decide +kernel
theorem dX13_parts_10 : decode cX13_parts 10 = .ok (.if_icmp .eq 9, 3) := by decide +kernel
theorem dX13_parts_13 : decode cX13_parts 13 = .ok (.iload_n 2, 1) := by decide +kernel
theorem dX13_parts_14 : decode cX13_parts 14 = .ok (.bipush 8, 2) := by decide +kernel
theorem dX13_parts_16 : decode cX13_parts 16 = .ok (.if_icmp .ne 15, 3) := by decide +kernel
theorem dX13_parts_19 : decode cX13_parts 19 = .ok (.aload_n 0, 1) := by decide +kernel
theorem dX13_parts_20 : decode cX13_parts 20 = .ok (.getfield 44, 3) := by decide +kernel
theorem dX13_parts_23 : decode cX13_parts 23 = .ok (.aload_n 0, 1) := by decide +kernel
theorem dX13_parts_24 : decode cX13_parts 24 = .ok (.getfield 16, 3) := by decide +kernel
theorem dX13_parts_27 : decode cX13_parts 27 = .ok (.iload_n 1, 1) := by decide +kernel
theorem dX13_parts_28 : decode cX13_parts 28 = .ok (.iaload, 1) := by decide +kernel
theorem dX13_parts_29 : decode cX13_parts 29 = .ok (.iaload, 1) := by decide +kernel
theorem dX13_parts_30 : decode cX13_parts 30 = .ok (.ireturn, 1) := by decide +kernel
theorem dX13_parts_31 : decode cX13_parts 31 = .ok (.iload_n 2, 1) := by decide +kernel
theorem dX13_parts_32 : decode cX13_parts 32 = .ok (.iconst 2, 1) := by decide +kernel
theorem dX13_parts_33 : decode cX13_parts 33 = .ok (.if_icmp .le 9, 3) := by decide +kernel
theorem dX13_parts_36 : decode cX13_parts 36 = .ok (.iload_n 2, 1) := by decide +kernel
theorem dX13_parts_37 : decode cX13_parts 37 = .ok (.bipush 6, 2) := by decide +kernel
theorem dX13_parts_39 : decode cX13_parts 39 = .ok (.if_icmp .ne 7, 3) := by decide +kernel
theorem dX13_parts_42 : decode cX13_parts 42 = .ok (.iconst 2, 1) := by decide +kernel
theorem dX13_parts_43 : decode cX13_parts 43 = .ok (.goto 18, 3) := by decide +kernel
theorem dX13_parts_46 : decode cX13_parts 46 = .ok (.iload_n 2, 1) := by decide +kernel
theorem dX13_parts_47 : decode cX13_parts 47 = .ok (.iconst 4, 1) := by decide +kernel
theorem dX13_parts_48 : decode cX13_parts 48 = .ok (.if_icmp .eq 8, 3) := by decide +kernel
theorem dX13_parts_51 : decode cX13_parts 51 = .ok (.iload_n 2, 1) := by decide +kernel
theorem dX13_parts_52 : decode cX13_parts 52 = .ok (.iconst 5, 1) := by decide +kernel
theorem dX13_parts_53 : decode cX13_parts 53 = .ok (.if_icmp .ne 7, 3) := by decide +kernel
theorem dX13_parts_56 : decode cX13_parts 56 = .ok (.iconst 1, 1) := by decide +kernel
theorem dX13_parts_57 : decode cX13_parts 57 = .ok (.goto 4, 3) := by decide +kernel
theorem dX13_parts_60 : decode cX13_parts 60 = .ok (.iconst 0, 1) := by decide +kernel
theorem dX13_parts_61 : decode cX13_parts 61 = .ok (.ireturn, 1) := by decide +kernel
theorem dX13_isSame_0 : decode cX13_isSame 0 = .ok (.iload_n 1, 1) := by decide +kernel
theorem dX13_isSame_1 : decode cX13_isSame 1 = .ok (.iload_n 2, 1) := by decide +kernel
theorem dX13_isSame_2 : decode cX13_isSame 2 = .ok (.if_icmp .ne 5, 3) := by decide +kernel
theorem dX13_isSame_5 : decode cX13_isSame 5 = .ok (.iconst 1, 1) := by decide +kernel
theorem dX13_isSame_6 : decode cX13_isSame 6 = .ok (.ireturn, 1) := by decide +kernel
theorem dX13_isSame_7 : decode cX13_isSame 7 = .ok (.aload_n 0, 1) := by decide +kernel
theorem dX13_isSame_8 : decode cX13_isSame 8 = .ok (.getfield 12, 3) := by decide +kernel
theorem dX13_isSame_11 : decode cX13_isSame 11 = .ok (.iload_n 1, 1) := by decide +kernel
theorem dX13_isSame_12 : decode cX13_isSame 12 = .ok (.iaload, 1) := by decide +kernel
theorem dX13_isSame_13 : decode cX13_isSame 13 = .ok (.aload_n 0, 1) := by decide +kernel
theorem dX13_isSame_14 : decode cX13_isSame 14 = .ok (.getfield 12, 3) := by decide +kernel
theorem dX13_isSame_17 : decode cX13_isSame 17 = .ok (.iload_n 2, 1) := by decide +kernel
theorem dX13_isSame_18 : decode cX13_isSame 18 = .ok (.iaload, 1) := by decide +kernel
theorem dX13_isSame_19 : decode cX13_isSame 19 = .ok (.if_icmp .eq 5, 3) := by decide +kernel
theorem dX13_isSame_22 : decode cX13_isSame 22 = .ok (.iconst 0, 1) := by decide +kernel
theorem dX13_isSame_23 : decode cX13_isSame 23 = .ok (.ireturn, 1) := by decide +kernel
theorem dX13_isSame_24 : decode cX13_isSame 24 = .ok (.aload_n 0, 1) := by decide +kernel
theorem dX13_isSame_25 : decode cX13_isSame 25 = .ok (.getfield 12, 3) := by decide +kernel
theorem dX13_isSame_28 : decode cX13_isSame 28 = .ok (.iload_n 1, 1) := by decide +kernel
theorem dX13_isSame_29 : decode cX13_isSame 29 = .ok (.iaload, 1) := by decide +kernel
theorem dX13_isSame_30 : decode cX13_isSame 30 = .ok (.istore_n 3, 1) := by decide +kernel
theorem dX13_isSame_31 : decode cX13_isSame 31 = .ok (.iload_n 3, 1) := by decide +kernel
theorem dX13_isSame_32 : decode cX13_isSame 32 = .ok (.bipush 7, 2) := by decide +kernel
theorem dX13_isSame_34 : decode cX13_isSame 34 = .ok (.if_icmp .eq 21, 3) := by decide +kernel
theorem dX13_isSame_37 : decode cX13_isSame 37 = .ok (.iload_n 3, 1) := by decide +kernel
theorem dX13_isSame_38 : decode cX13_isSame 38 = .ok (.bipush 8, 2) := by decide +kernel
theorem dX13_isSame_40 : decode cX13_isSame 40 = .ok (.if_icmp .eq 15, 3) := by decide +kernel
theorem dX13_isSame_43 : decode cX13_isSame 43 = .ok (.iload_n 3, 1) := by decide +kernel
theorem dX13_isSame_44 : decode cX13_isSame 44 = .ok (.bipush 9, 2) := by decide +kernel
theorem dX13_isSame_46 : decode cX13_isSame 46 = .ok (.if_icmp .eq 9, 3) := by decide +kernel
theorem dX13_isSame_49 : decode cX13_isSame 49 = .ok (.iload_n 3, 1) := by decide +kernel
theorem dX13_isSame_50 : decode cX13_isSame 50 = .ok (.bipush 10, 2) := by decide +kernel
theorem dX13_isSame_52 : decode cX13_isSame 52 = .ok (.if_icmp .ne 20, 3) := by decide +kernel
theorem dX13_isSame_55 : decode cX13_isSame 55 = .ok (.aload_n 0, 1) := by decide +kernel
theorem dX13_isSame_56 : decode cX13_isSame 56 = .ok (.getfield 16, 3) := by decide +kernel
theorem dX13_isSame_59 : decode cX13_isSame 59 = .ok (.iload_n 1, 1) := by decide +kernel
theorem dX13_isSame_60 : decode cX13_isSame 60 = .ok (.iaload, 1) := by decide +kernel
theorem dX13_isSame_61 : decode cX13_isSame 61 = .ok (.aload_n 0, 1) := by decide +kernel
theorem dX13_isSame_62 : decode cX13_isSame 62 = .ok (.getfield 16, 3) := by decide +kernel
theorem dX13_isSame_65 : decode cX13_isSame 65 = .ok (.iload_n 2, 1) := by decide +kernel
theorem dX13_isSame_66 : decode cX13_isSame 66 = .ok (.iaload, 1) := by decide +kernel
theorem dX13_isSame_67 : decode cX13_isSame 67 = .ok (.if_icmp .eq 5, 3) := by decide +kernel
theorem dX13_isSame_70 : decode cX13_isSame 70 = .ok (.iconst 0, 1) := by decide +kernel
theorem dX13_isSame_71 : decode cX13_isSame 71 = .ok (.ireturn, 1) := by decide +kernel
theorem dX13_isSame_72 : decode cX13_isSame 72 = .ok (.iconst 0, 1) := by decide +kernel
theorem dX13_isSame_73 : decode cX13_isSame 73 = .ok (.istore 4, 2) := by decide +kernel
theorem dX13_isSame_75 : decode cX13_isSame 75 = .ok (.iload 4, 2) := by decide +kernel
theorem dX13_isSame_77 : decode cX13_isSame 77 = .ok (.aload_n 0, 1) := by decide +kernel
theorem dX13_isSame_78 : decode cX13_isSame 78 = .ok (.iload_n 1, 1) := by decide +kernel
theorem dX13_isSame_79 : decode cX13_isSame 79 = .ok (.invokevirtual 252, 3) := by decide +kernel
theorem dX13_isSame_82 : decode cX13_isSame 82 = .ok (.if_icmp .ge 32, 3) := by decide +kernel
theorem dX13_isSame_85 : decode cX13_isSame 85 = .ok (.aload_n 0, 1) := by decide +kernel
theorem dX13_isSame_86 : decode cX13_isSame 86 = .ok (.aload_n 0, 1) := by decide +kernel
theorem dX13_isSame_87 : decode cX13_isSame 87 = .ok (.iload_n 1, 1) := by decide +kernel
theorem dX13_isSame_88 : decode cX13_isSame 88 = .ok (.iload 4, 2) := by decide +kernel
theorem dX13_isSame_90 : decode cX13_isSame 90 = .ok (.invokevirtual 255, 3) := by decide +kernel
theorem dX13_isSame_93 : decode cX13_isSame 93 = .ok (.aload_n 0, 1) := by decide +kernel
theorem dX13_isSame_94 : decode cX13_isSame 94 = .ok (.iload_n 2, 1) := by decide +kernel
theorem dX13_isSame_95 : decode cX13_isSame 95 = .ok (.iload 4, 2) := by decide +kernel
theorem dX13_isSame_97 : decode cX13_isSame 97 = .ok (.invokevirtual 255, 3) := by decide +kernel
theorem dX13_isSame_100 : decode cX13_isSame 100 = .ok (.invokevirtual 262, 3) := by decide +kernel
theorem dX13_isSame_103 : decode cX13_isSame 103 = .ok (.ifCond .ne 5, 3) := by decide +kernel
theorem dX13_isSame_106 : decode cX13_isSame 106 = .ok (.iconst 0, 1) := by decide +kernel
theorem dX13_isSame_107 : decode cX13_isSame 107 = .ok (.ireturn, 1) := by decide +kernel
theorem dX13_isSame_108 : decode cX13_isSame 108 = .ok (.iinc 4 1, 3) := by decide +kernel
theorem dX13_isSame_111 : decode cX13_isSame 111 = .ok (.goto (-36), 3) := by decide +kernel
theorem dX13_isSame_114 : decode cX13_isSame 114 = .ok (.iconst 1, 1) := by decide +kernel
theorem dX13_isSame_115 : decode cX13_isSame 115 = .ok (.ireturn, 1) := by decide +kernel
theorem dX13_hasBound_0 : decode cX13_hasBound 0 = .ok (.aload_n 0, 1) := by decide +kernel
theorem dX13_hasBound_1 : decode cX13_hasBound 1 = .ok (.getfield 12, 3) := by decide +kernel
theorem dX13_hasBound_4 : decode cX13_hasBound 4 = .ok (.iload_n 1, 1) := by decide +kernel
theorem dX13_hasBound_5 : decode cX13_hasBound 5 = .ok (.iaload, 1) := by decide +kernel
theorem dX13_hasBound_6 : decode cX13_hasBound 6 = .ok (.bipush 10, 2) := by decide +kernel
theorem dX13_hasBound_8 : decode cX13_hasBound 8 = .ok (.if_icmp .ne 5, 3) := by decide +kernel
theorem dX13_hasBound_11 : decode cX13_hasBound 11 = .ok (.iconst 1, 1) := by decide +kernel
theorem dX13_hasBound_12 : decode cX13_hasBound 12 = .ok (.ireturn, 1) := by decide +kernel
theorem dX13_hasBound_13 : decode cX13_hasBound 13 = .ok (.iconst 0, 1) := by decide +kernel
theorem dX13_hasBound_14 : decode cX13_hasBound 14 = .ok (.istore_n 2, 1) := by decide +kernel
theorem dX13_hasBound_15 : decode cX13_hasBound 15 = .ok (.iload_n 2, 1) := by decide +kernel
theorem dX13_hasBound_16 : decode cX13_hasBound 16 = .ok (.aload_n 0, 1) := by decide +kernel
theorem dX13_hasBound_17 : decode cX13_hasBound 17 = .ok (.iload_n 1, 1) := by decide +kernel
theorem dX13_hasBound_18 : decode cX13_hasBound 18 = .ok (.invokevirtual 252, 3) := by decide +kernel
theorem dX13_hasBound_21 : decode cX13_hasBound 21 = .ok (.if_icmp .ge 24, 3) := by decide +kernel
theorem dX13_hasBound_24 : decode cX13_hasBound 24 = .ok (.aload_n 0, 1) := by decide +kernel
theorem dX13_hasBound_25 : decode cX13_hasBound 25 = .ok (.aload_n 0, 1) := by decide +kernel
theorem dX13_hasBound_26 : decode cX13_hasBound 26 = .ok (.iload_n 1, 1) := by decide +kernel
theorem dX13_hasBound_27 : decode cX13_hasBound 27 = .ok (.iload_n 2, 1) := by decide +kernel
theorem dX13_hasBound_28 : decode cX13_hasBound 28 = .ok (.invokevirtual 255, 3) := by decide +kernel
theorem dX13_hasBound_31 : decode cX13_hasBound 31 = .ok (.invokevirtual 273, 3) := by decide +kernel
theorem dX13_hasBound_34 : decode cX13_hasBound 34 = .ok (.ifCond .eq 5, 3) := by decide +kernel
theorem dX13_hasBound_37 : decode cX13_hasBound 37 = .ok (.iconst 1, 1) := by decide +kernel
theorem dX13_hasBound_38 : decode cX13_hasBound 38 = .ok (.ireturn, 1) := by decide +kernel
theorem dX13_hasBound_39 : decode cX13_hasBound 39 = .ok (.iinc 2 1, 3) := by decide +kernel
theorem dX13_hasBound_42 : decode cX13_hasBound 42 = .ok (.goto (-27), 3) := by decide +kernel
theorem dX13_hasBound_45 : decode cX13_hasBound 45 = .ok (.iconst 0, 1) := by decide +kernel
theorem dX13_hasBound_46 : decode cX13_hasBound 46 = .ok (.ireturn, 1) := by decide +kernel
def EX13_parts : List (Nat × Nat) := []
def EX13_partK : List (Nat × Nat) := []
def EX13_isSame : List (Nat × Nat) := []
def EX13_hasBound : List (Nat × Nat) := []
def qX13_isSame (l : Launch) (dC : Nat → ClassId) (dI : Nat → Nat → Nat) (ca : Nat → ClassId) (base : Nat) (B : jF) (d : Nat) : Prop := ∀ (G0 : jT) (H0 : Heap) (r0 : Nat) (a1 : Int32) (a2 : Int32) (zs : Nat) (zn : Nat) (za : Nat) (zb : Nat) (zc : Nat) (zy : Nat) (C : jK), Met l yX13_isSame (jw yX13_isSame cX13_isSame 5 (some .boolean)) ({ frames := d + 3, cells := 0, slots := 0, locals := 40 * d + 200 }) (va_Pc [.ref r0, .int a1, .int a2] (fun U => U.heap = H0 ∧ jX B base G0 [] H0 ∧ jG dC dI ca base U ∧ G0 r0 = some (15, 0) ∧ G0 zs = some (150, 120000) ∧ G0 zn = some (151, 120000) ∧ G0 za = some (152, 120000) ∧ G0 zb = some (153, 120000) ∧ G0 zc = some (154, 120000) ∧ G0 zy = some (165, 16) ∧ jP (dC, dI) G0 H0 [(r0, 15, 0, .ref zs), (r0, 15, 1, .ref zn), (r0, 15, 2, .ref za), (r0, 15, 3, .ref zb), (r0, 15, 4, .ref zc), (r0, 15, 14, .ref zy)] ∧ jMc (dC, dI) G0 H0 [(zs, 150, 120000, ca 1, C.s), (zn, 151, 120000, ca 1, C.n), (za, 152, 120000, ca 1, C.a), (zb, 153, 120000, ca 1, C.b), (zc, 154, 120000, ca 1, C.c), (zy, 165, 16, ca 1, C.y)] ∧ jTr C d a1.toInt ∧ jTr C d a2.toInt ∧ d ≤ 2000)) (va_Qi (S := Unit) (fun r u => (r = 0 ∨ r = 1) ∧ (r.toInt = jSm C a1.toInt a2.toInt)) (fun u t => jRt (dC, dI) B base G0 EX13_isSame H0 [] t.heap) (jA base)) 0 0 (jA base)
def qX13_hasBound (l : Launch) (dC : Nat → ClassId) (dI : Nat → Nat → Nat) (ca : Nat → ClassId) (base : Nat) (B : jF) (d : Nat) : Prop := ∀ (G0 : jT) (H0 : Heap) (r0 : Nat) (a1 : Int32) (zs : Nat) (zn : Nat) (za : Nat) (zb : Nat) (zc : Nat) (zy : Nat) (C : jK), Met l yX13_hasBound (jw yX13_hasBound cX13_hasBound 3 (some .boolean)) ({ frames := d + 3, cells := 0, slots := 0, locals := 40 * d + 200 }) (va_Pc [.ref r0, .int a1] (fun U => U.heap = H0 ∧ jX B base G0 [] H0 ∧ jG dC dI ca base U ∧ G0 r0 = some (15, 0) ∧ G0 zs = some (150, 120000) ∧ G0 zn = some (151, 120000) ∧ G0 za = some (152, 120000) ∧ G0 zb = some (153, 120000) ∧ G0 zc = some (154, 120000) ∧ G0 zy = some (165, 16) ∧ jP (dC, dI) G0 H0 [(r0, 15, 0, .ref zs), (r0, 15, 1, .ref zn), (r0, 15, 2, .ref za), (r0, 15, 3, .ref zb), (r0, 15, 4, .ref zc), (r0, 15, 14, .ref zy)] ∧ jMc (dC, dI) G0 H0 [(zs, 150, 120000, ca 1, C.s), (zn, 151, 120000, ca 1, C.n), (za, 152, 120000, ca 1, C.a), (zb, 153, 120000, ca 1, C.b), (zc, 154, 120000, ca 1, C.c), (zy, 165, 16, ca 1, C.y)] ∧ jTr C d a1.toInt ∧ d ≤ 2000)) (va_Qi (S := Unit) (fun r u => (r = 0 ∨ r = 1) ∧ ((r.toInt = 0 → jNbF C d a1.toInt))) (fun u t => jRt (dC, dI) B base G0 EX13_hasBound H0 [] t.heap) (jA base)) 0 0 (jA base)
set_option maxHeartbeats 4000000 in
set_option maxRecDepth 20000 in
theorem uX13_parts (l : Launch) (dC : Nat → ClassId) (dI : Nat → Nat → Nat) (ca : Nat → ClassId) (base : Nat) (B : jF) (hB : jBok B) (hAp : jAp (dC, dI)) (hB15 : ∀ n G a H, B 15 n G a H ↔ jOb (dC, dI) 15 50 (F15 n G) a H) (hB150 : ∀ n G a H, B 150 n G a H ↔ jAr (dC, dI) (ca 1) (fun j z => True) n a H) (hB151 : ∀ n G a H, B 151 n G a H ↔ jAr (dC, dI) (ca 1) (fun j z => True) n a H) (hB152 : ∀ n G a H, B 152 n G a H ↔ jAr (dC, dI) (ca 1) (fun j z => True) n a H) (hB153 : ∀ n G a H, B 153 n G a H ↔ jAr (dC, dI) (ca 1) (fun j z => True) n a H) (hB154 : ∀ n G a H, B 154 n G a H ↔ jAr (dC, dI) (ca 1) (fun j z => True) n a H) (hB165 : ∀ n G a H, B 165 n G a H ↔ jAr (dC, dI) (ca 1) (fun j z => 0 ≤ z.toInt ∧ z.toInt ≤ 3) n a H) (G0 : jT) (H0 : Heap) (r0 : Nat) (a1 : Int32) (zs : Nat) (zn : Nat) (za : Nat) (zb : Nat) (zc : Nat) (zy : Nat) (C : jK) : Met l yX13_parts (jw yX13_parts cX13_parts 3 (some .int)) ({ frames := 0, cells := 0, slots := 0, locals := 0 }) (va_Pc [.ref r0, .int a1] (fun U => U.heap = H0 ∧ jX B base G0 [] H0 ∧ jG dC dI ca base U ∧ G0 r0 = some (15, 0) ∧ G0 zs = some (150, 120000) ∧ G0 zn = some (151, 120000) ∧ G0 za = some (152, 120000) ∧ G0 zb = some (153, 120000) ∧ G0 zc = some (154, 120000) ∧ G0 zy = some (165, 16) ∧ jP (dC, dI) G0 H0 [(r0, 15, 0, .ref zs), (r0, 15, 1, .ref zn), (r0, 15, 2, .ref za), (r0, 15, 3, .ref zb), (r0, 15, 4, .ref zc), (r0, 15, 14, .ref zy)] ∧ jMc (dC, dI) G0 H0 [(zs, 150, 120000, ca 1, C.s), (zn, 151, 120000, ca 1, C.n), (za, 152, 120000, ca 1, C.a), (zb, 153, 120000, ca 1, C.b), (zc, 154, 120000, ca 1, C.c), (zy, 165, 16, ca 1, C.y)] ∧ 0 ≤ a1.toInt ∧ a1.toInt < 120000 ∧ (jSo C.s a1.toInt = 7 ∨ jSo C.s a1.toInt = 8 → 0 ≤ jSo C.n a1.toInt ∧ jSo C.n a1.toInt < 16))) (va_Qi (S := Unit) (fun r u => (r.toInt = jPts C a1.toInt ∧ 0 ≤ r.toInt ∧ r.toInt ≤ 3)) (fun u t => jRt (dC, dI) B base G0 EX13_parts H0 [] t.heap) (jA base)) 0 0 (jA base) := by
  refine Met.ofW (cc := cX13_parts) (maxL := 3) (ret := (some .int)) (by decide) rfl ?_
  intro p e s m args below meth c s₁ Bd hml hv
  obtain ⟨rfl, hH0, hX, hG, hg_r0, hg_zs, hg_zn, hg_za, hg_zb, hg_zc, hg_zy, hP0, hM0, hp0, hp1, hp2⟩ := hv
  have hK := hG.1
  have hx := Bd.exec
  have hb := Bd.bytes
  have hr := Bd.returns
  have hts := atoms_spec (ws := (jw yX13_parts cX13_parts 3 (some .int))) Bd.pre
  have htw : ∀ w ∈ jWl, w.before _ s = true := fun w h => hts w (List.mem_cons_of_mem _ h)
  have hown : s.vm.findClass RX13 = some m.cls := findClass_of_methodNamed Bd.named
  have hlocks := Bd.notSynchronized
  obtain ⟨Q, hQ⟩ : ∃ Q, Q = MQ below (va_Qi (S := Unit) (fun r u => (r.toInt = jPts C a1.toInt ∧ 0 ≤ r.toInt ∧ r.toInt ≤ 3)) (fun u t => jRt (dC, dI) B base G0 EX13_parts H0 [] t.heap) (jA base)) ([.ref r0, .int a1] : List Value).toArray s 0 0 (jA base) := ⟨_, rfl⟩
  rw [← hQ]
  have hl := lv_entry ([.ref r0, .int a1]) (n := 3) (Nat.le_of_ble_eq_true rfl)
  rw [lg_entry_eq]
  generalize (lg_sl ([.ref r0, .int a1]) ++ List.replicate (3 - (lg_sl ([.ref r0, .int a1])).length) Slot.unset).toArray = ls at hl ⊢
  have hl : lv_has ls 3 [(0, .ref r0), (1, .int a1)] := hl
  generalize hR : (headSpec (jw yX13_parts cX13_parts 3 (some .int)) ({ frames := 0, cells := 0, slots := 0, locals := 0 })).room = R
  subst hH0
  have hh : jSt (dC, dI) B base G0 G0 EX13_parts s.heap 0 0 [(r0, 15, 0, .ref zs), (r0, 15, 1, .ref zn), (r0, 15, 2, .ref za), (r0, 15, 3, .ref zb), (r0, 15, 4, .ref zc), (r0, 15, 14, .ref zy)] [(zs, 150, 120000, ca 1, C.s), (zn, 151, 120000, ca 1, C.n), (za, 152, 120000, ca 1, C.a), (zb, 153, 120000, ca 1, C.b), (zc, 154, 120000, ca 1, C.c), (zy, 165, 16, ca 1, C.y)] [] s.heap [] := jSt.start hX hP0 hM0 jIs.nil
  clear hX hP0
  have hk0 : (0 : Int32).toInt = 0 := by decide
  have hk1 : (1 : Int32).toInt = 1 := by decide
  have hk2 : (2 : Int32).toInt = 2 := by decide
  have hk4 : (4 : Int32).toInt = 4 := by decide
  have hk5 : (5 : Int32).toInt = 5 := by decide
  have hk6 : (6 : Int32).toInt = 6 := by decide
  have hk7 : (7 : Int32).toInt = 7 := by decide
  have hk8 : (8 : Int32).toInt = 8 := by decide
  have hly_15_0 := htw (u_lay RX13 TX13 0) (jWc_wsX130 _ (u_in_lay (by decide)))
  have hly_15_1 := htw (u_lay RX13 TX13 1) (jWc_wsX130 _ (u_in_lay (by decide)))
  have hly_15_14 := htw (u_lay RX13 TX13 14) (jWc_wsX130 _ (u_in_lay (by decide)))
  have hlk_12 := (htw (.fieldLink RX13 12 "ProofServerModel$Kernel" "sort" "[I") (jWr_14 _ (List.mem_of_getElem? (i := 9) rfl)))
  have hlk_44 := (htw (.fieldLink RX13 44 "ProofServerModel$Kernel" "arity" "[I") (jWr_14 _ (List.mem_of_getElem? (i := 19) rfl)))
  have hlk_16 := (htw (.fieldLink RX13 16 "ProofServerModel$Kernel" "name" "[I") (jWr_14 _ (List.mem_of_getElem? (i := 10) rfl)))
  have hrg_a1 := jb_rng a1
  refine lv_aload_n hx hb dX13_parts_0 rfl (lv_at hl 0 rfl) ?_
  refine j7_read hx hb hown hK (C := RX13) (T := TX13) (N := 50) rfl hly_15_0 hlk_12 (hh.at 0 rfl) dX13_parts_1 ?_
  refine lv_iload_n hx hb dX13_parts_4 rfl (lv_at hl 1 rfl) ?_
  refine j7_ialdM hx hb hK hh hB150 1 rfl (by decide) hg_zs (x := a1.toInt) (rfl) (by omega) (j := 0) rfl dX13_parts_5 (fun z_1 ez_1 (hz_1 : True) => ?_)
  have hqz_1 : z_1.toInt = jSo C.s (a1.toInt) := by unfold jSo; rw [ez_1]
  refine lv_istore_n (lv' := [(2, .int z_1), (0, .ref r0), (1, .int a1)]) hx hb dX13_parts_6 rfl hl (by decide) rfl (fun ls hl => ?_)
  refine lv_iload_n hx hb dX13_parts_7 rfl (lv_at hl 0 rfl) ?_
  refine lv_bipush (v := 7) hx hb dX13_parts_8 (by decide) ?_
  refine lv_icmp_eq (tgt := 19) hx hb dX13_parts_10 (by decide) (fun c_2 => ?_) (fun c_2 => ?_)
  · skip
    have c_2' : z_1.toInt = 7 := jb_eq (rfl) ((by decide)) c_2
    refine lv_aload_n hx hb dX13_parts_19 rfl (lv_at hl 1 rfl) ?_
    refine j7_read hx hb hown hK (C := RX13) (T := TX13) (N := 50) rfl hly_15_14 hlk_44 (hh.at 5 rfl) dX13_parts_20 ?_
    refine lv_aload_n hx hb dX13_parts_23 rfl (lv_at hl 1 rfl) ?_
    refine j7_read hx hb hown hK (C := RX13) (T := TX13) (N := 50) rfl hly_15_1 hlk_16 (hh.at 1 rfl) dX13_parts_24 ?_
    refine lv_iload_n hx hb dX13_parts_27 rfl (lv_at hl 2 rfl) ?_
    refine j7_ialdM hx hb hK hh hB151 1 rfl (by decide) hg_zn (x := a1.toInt) (rfl) (by omega) (j := 1) rfl dX13_parts_28 (fun z_3 ez_3 (hz_3 : True) => ?_)
    have hqz_3 : z_3.toInt = jSo C.n (a1.toInt) := by unfold jSo; rw [ez_3]
    refine j7_ialdM hx hb hK hh hB165 1 rfl (by decide) hg_zy (x := z_3.toInt) (rfl) (by omega) (j := 5) rfl dX13_parts_29 (fun z_4 ez_4 (hz_4 : 0 ≤ z_4.toInt ∧ z_4.toInt ≤ 3) => ?_)
    have hqz_4 : z_4.toInt = jSo C.y (z_3.toInt) := by unfold jSo; rw [ez_4]
    rw [hQ]
    exact W.iret (v := z_4) hx hb hr (fun t ht hW => ⟨⟨z_4, (), rfl, by refine ⟨?_, by omega, by omega⟩; unfold jPts; first | (rw [if_pos (by omega), ← hqz_3]; exact hqz_4) | (rw [if_neg (by omega), if_pos (by omega)]; exact hk2) | (rw [if_neg (by omega), if_neg (by omega), if_pos (by omega)]; exact hk1) | (rw [if_neg (by omega), if_neg (by omega), if_neg (by omega)]; exact hk0), hh.rt (M1 := []) [] rfl ht⟩, by rw [ht]; try exact hh.1.1, fun q h9 hq => by rw [ht]; try exact hh.1.2.1 q h9 hq⟩) hh.1.2.2 dX13_parts_30
  · skip
    have c_2' : z_1.toInt ≠ 7 := jb_eq_n (rfl) ((by decide)) c_2
    refine lv_iload_n hx hb dX13_parts_13 rfl (lv_at hl 0 rfl) ?_
    refine lv_bipush (v := 8) hx hb dX13_parts_14 (by decide) ?_
    refine lv_icmp_ne (tgt := 31) hx hb dX13_parts_16 (by decide) (fun c_5 => ?_) (fun c_5 => ?_)
    · skip
      have c_5' : z_1.toInt ≠ 8 := jb_ne (rfl) ((by decide)) c_5
      refine lv_iload_n hx hb dX13_parts_31 rfl (lv_at hl 0 rfl) ?_
      refine lv_iconst (v := 2) hx hb dX13_parts_32 (by decide) ?_
      refine lv_icmp_le (tgt := 42) hx hb dX13_parts_33 (by decide) (fun c_6 => ?_) (fun c_6 => ?_)
      · skip
        have c_6' : z_1.toInt ≤ 2 := jb_le (rfl) ((by decide)) c_6
        refine lv_iconst (v := 2) hx hb dX13_parts_42 (by decide) ?_
        refine lv_goto (tgt := 61) hx hb dX13_parts_43 (by decide) ?_
        rw [hQ]
        exact W.iret (v := 2) hx hb hr (fun t ht hW => ⟨⟨2, (), rfl, by refine ⟨?_, by omega, by omega⟩; unfold jPts; first | (rw [if_pos (by omega), ← (zz_none)]; exact (zz_none)) | (rw [if_neg (by omega), if_pos (by omega)]; exact hk2) | (rw [if_neg (by omega), if_neg (by omega), if_pos (by omega)]; exact hk1) | (rw [if_neg (by omega), if_neg (by omega), if_neg (by omega)]; exact hk0), hh.rt (M1 := []) [] rfl ht⟩, by rw [ht]; try exact hh.1.1, fun q h9 hq => by rw [ht]; try exact hh.1.2.1 q h9 hq⟩) hh.1.2.2 dX13_parts_61
      · skip
        have c_6' : z_1.toInt > 2 := jb_le_n (rfl) ((by decide)) c_6
        refine lv_iload_n hx hb dX13_parts_36 rfl (lv_at hl 0 rfl) ?_
        refine lv_bipush (v := 6) hx hb dX13_parts_37 (by decide) ?_
        refine lv_icmp_ne (tgt := 46) hx hb dX13_parts_39 (by decide) (fun c_7 => ?_) (fun c_7 => ?_)
        · skip
          have c_7' : z_1.toInt ≠ 6 := jb_ne (rfl) ((by decide)) c_7
          refine lv_iload_n hx hb dX13_parts_46 rfl (lv_at hl 0 rfl) ?_
          refine lv_iconst (v := 4) hx hb dX13_parts_47 (by decide) ?_
          refine lv_icmp_eq (tgt := 56) hx hb dX13_parts_48 (by decide) (fun c_8 => ?_) (fun c_8 => ?_)
          · skip
            have c_8' : z_1.toInt = 4 := jb_eq (rfl) ((by decide)) c_8
            refine lv_iconst (v := 1) hx hb dX13_parts_56 (by decide) ?_
            refine lv_goto (tgt := 61) hx hb dX13_parts_57 (by decide) ?_
            rw [hQ]
            exact W.iret (v := 1) hx hb hr (fun t ht hW => ⟨⟨1, (), rfl, by refine ⟨?_, by omega, by omega⟩; unfold jPts; first | (rw [if_pos (by omega), ← (zz_none)]; exact (zz_none)) | (rw [if_neg (by omega), if_pos (by omega)]; exact hk2) | (rw [if_neg (by omega), if_neg (by omega), if_pos (by omega)]; exact hk1) | (rw [if_neg (by omega), if_neg (by omega), if_neg (by omega)]; exact hk0), hh.rt (M1 := []) [] rfl ht⟩, by rw [ht]; try exact hh.1.1, fun q h9 hq => by rw [ht]; try exact hh.1.2.1 q h9 hq⟩) hh.1.2.2 dX13_parts_61
          · skip
            have c_8' : z_1.toInt ≠ 4 := jb_eq_n (rfl) ((by decide)) c_8
            refine lv_iload_n hx hb dX13_parts_51 rfl (lv_at hl 0 rfl) ?_
            refine lv_iconst (v := 5) hx hb dX13_parts_52 (by decide) ?_
            refine lv_icmp_ne (tgt := 60) hx hb dX13_parts_53 (by decide) (fun c_9 => ?_) (fun c_9 => ?_)
            · skip
              have c_9' : z_1.toInt ≠ 5 := jb_ne (rfl) ((by decide)) c_9
              refine lv_iconst (v := 0) hx hb dX13_parts_60 (by decide) ?_
              rw [hQ]
              exact W.iret (v := 0) hx hb hr (fun t ht hW => ⟨⟨0, (), rfl, by refine ⟨?_, by omega, by omega⟩; unfold jPts; first | (rw [if_pos (by omega), ← (zz_none)]; exact (zz_none)) | (rw [if_neg (by omega), if_pos (by omega)]; exact hk2) | (rw [if_neg (by omega), if_neg (by omega), if_pos (by omega)]; exact hk1) | (rw [if_neg (by omega), if_neg (by omega), if_neg (by omega)]; exact hk0), hh.rt (M1 := []) [] rfl ht⟩, by rw [ht]; try exact hh.1.1, fun q h9 hq => by rw [ht]; try exact hh.1.2.1 q h9 hq⟩) hh.1.2.2 dX13_parts_61
            · skip
              have c_9' : z_1.toInt = 5 := jb_ne_n (rfl) ((by decide)) c_9
              refine lv_iconst (v := 1) hx hb dX13_parts_56 (by decide) ?_
              refine lv_goto (tgt := 61) hx hb dX13_parts_57 (by decide) ?_
              rw [hQ]
              exact W.iret (v := 1) hx hb hr (fun t ht hW => ⟨⟨1, (), rfl, by refine ⟨?_, by omega, by omega⟩; unfold jPts; first | (rw [if_pos (by omega), ← (zz_none)]; exact (zz_none)) | (rw [if_neg (by omega), if_pos (by omega)]; exact hk2) | (rw [if_neg (by omega), if_neg (by omega), if_pos (by omega)]; exact hk1) | (rw [if_neg (by omega), if_neg (by omega), if_neg (by omega)]; exact hk0), hh.rt (M1 := []) [] rfl ht⟩, by rw [ht]; try exact hh.1.1, fun q h9 hq => by rw [ht]; try exact hh.1.2.1 q h9 hq⟩) hh.1.2.2 dX13_parts_61
        · skip
          have c_7' : z_1.toInt = 6 := jb_ne_n (rfl) ((by decide)) c_7
          refine lv_iconst (v := 2) hx hb dX13_parts_42 (by decide) ?_
          refine lv_goto (tgt := 61) hx hb dX13_parts_43 (by decide) ?_
          rw [hQ]
          exact W.iret (v := 2) hx hb hr (fun t ht hW => ⟨⟨2, (), rfl, by refine ⟨?_, by omega, by omega⟩; unfold jPts; first | (rw [if_pos (by omega), ← (zz_none)]; exact (zz_none)) | (rw [if_neg (by omega), if_pos (by omega)]; exact hk2) | (rw [if_neg (by omega), if_neg (by omega), if_pos (by omega)]; exact hk1) | (rw [if_neg (by omega), if_neg (by omega), if_neg (by omega)]; exact hk0), hh.rt (M1 := []) [] rfl ht⟩, by rw [ht]; try exact hh.1.1, fun q h9 hq => by rw [ht]; try exact hh.1.2.1 q h9 hq⟩) hh.1.2.2 dX13_parts_61
    · skip
      have c_5' : z_1.toInt = 8 := jb_ne_n (rfl) ((by decide)) c_5
      refine lv_aload_n hx hb dX13_parts_19 rfl (lv_at hl 1 rfl) ?_
      refine j7_read hx hb hown hK (C := RX13) (T := TX13) (N := 50) rfl hly_15_14 hlk_44 (hh.at 5 rfl) dX13_parts_20 ?_
      refine lv_aload_n hx hb dX13_parts_23 rfl (lv_at hl 1 rfl) ?_
      refine j7_read hx hb hown hK (C := RX13) (T := TX13) (N := 50) rfl hly_15_1 hlk_16 (hh.at 1 rfl) dX13_parts_24 ?_
      refine lv_iload_n hx hb dX13_parts_27 rfl (lv_at hl 2 rfl) ?_
      refine j7_ialdM hx hb hK hh hB151 1 rfl (by decide) hg_zn (x := a1.toInt) (rfl) (by omega) (j := 1) rfl dX13_parts_28 (fun z_10 ez_10 (hz_10 : True) => ?_)
      have hqz_10 : z_10.toInt = jSo C.n (a1.toInt) := by unfold jSo; rw [ez_10]
      refine j7_ialdM hx hb hK hh hB165 1 rfl (by decide) hg_zy (x := z_10.toInt) (rfl) (by omega) (j := 5) rfl dX13_parts_29 (fun z_11 ez_11 (hz_11 : 0 ≤ z_11.toInt ∧ z_11.toInt ≤ 3) => ?_)
      have hqz_11 : z_11.toInt = jSo C.y (z_10.toInt) := by unfold jSo; rw [ez_11]
      rw [hQ]
      exact W.iret (v := z_11) hx hb hr (fun t ht hW => ⟨⟨z_11, (), rfl, by refine ⟨?_, by omega, by omega⟩; unfold jPts; first | (rw [if_pos (by omega), ← hqz_10]; exact hqz_11) | (rw [if_neg (by omega), if_pos (by omega)]; exact hk2) | (rw [if_neg (by omega), if_neg (by omega), if_pos (by omega)]; exact hk1) | (rw [if_neg (by omega), if_neg (by omega), if_neg (by omega)]; exact hk0), hh.rt (M1 := []) [] rfl ht⟩, by rw [ht]; try exact hh.1.1, fun q h9 hq => by rw [ht]; try exact hh.1.2.1 q h9 hq⟩) hh.1.2.2 dX13_parts_30
set_option maxHeartbeats 4000000 in
set_option maxRecDepth 20000 in
theorem uX13_partK (l : Launch) (dC : Nat → ClassId) (dI : Nat → Nat → Nat) (ca : Nat → ClassId) (base : Nat) (B : jF) (hB : jBok B) (hAp : jAp (dC, dI)) (hB15 : ∀ n G a H, B 15 n G a H ↔ jOb (dC, dI) 15 50 (F15 n G) a H) (hB150 : ∀ n G a H, B 150 n G a H ↔ jAr (dC, dI) (ca 1) (fun j z => True) n a H) (hB151 : ∀ n G a H, B 151 n G a H ↔ jAr (dC, dI) (ca 1) (fun j z => True) n a H) (hB152 : ∀ n G a H, B 152 n G a H ↔ jAr (dC, dI) (ca 1) (fun j z => True) n a H) (hB153 : ∀ n G a H, B 153 n G a H ↔ jAr (dC, dI) (ca 1) (fun j z => True) n a H) (hB154 : ∀ n G a H, B 154 n G a H ↔ jAr (dC, dI) (ca 1) (fun j z => True) n a H) (hB165 : ∀ n G a H, B 165 n G a H ↔ jAr (dC, dI) (ca 1) (fun j z => 0 ≤ z.toInt ∧ z.toInt ≤ 3) n a H) (G0 : jT) (H0 : Heap) (r0 : Nat) (a1 : Int32) (a2 : Int32) (zs : Nat) (zn : Nat) (za : Nat) (zb : Nat) (zc : Nat) (zy : Nat) (C : jK) : Met l yX13_part (jw yX13_part cX13_part 3 (some .int)) ({ frames := 0, cells := 0, slots := 0, locals := 0 }) (va_Pc [.ref r0, .int a1, .int a2] (fun U => U.heap = H0 ∧ jX B base G0 [] H0 ∧ jG dC dI ca base U ∧ G0 r0 = some (15, 0) ∧ G0 zs = some (150, 120000) ∧ G0 zn = some (151, 120000) ∧ G0 za = some (152, 120000) ∧ G0 zb = some (153, 120000) ∧ G0 zc = some (154, 120000) ∧ G0 zy = some (165, 16) ∧ jP (dC, dI) G0 H0 [(r0, 15, 0, .ref zs), (r0, 15, 1, .ref zn), (r0, 15, 2, .ref za), (r0, 15, 3, .ref zb), (r0, 15, 4, .ref zc), (r0, 15, 14, .ref zy)] ∧ jMc (dC, dI) G0 H0 [(zs, 150, 120000, ca 1, C.s), (zn, 151, 120000, ca 1, C.n), (za, 152, 120000, ca 1, C.a), (zb, 153, 120000, ca 1, C.b), (zc, 154, 120000, ca 1, C.c), (zy, 165, 16, ca 1, C.y)] ∧ 0 ≤ a1.toInt ∧ a1.toInt ≤ 119999)) (va_Qi (S := Unit) (fun r u => (r.toInt = jPr C a1.toInt a2.toInt)) (fun u t => jRt (dC, dI) B base G0 EX13_partK H0 [] t.heap) (jA base)) 0 0 (jA base) := by
  refine Met.ofW (cc := cX13_part) (maxL := 3) (ret := (some .int)) (by decide) rfl ?_
  intro p e s m args below meth c s₁ Bd hml hv
  obtain ⟨rfl, hH0, hX, hG, hg_r0, hg_zs, hg_zn, hg_za, hg_zb, hg_zc, hg_zy, hP0, hM0, hp0, hp1⟩ := hv
  have hK := hG.1
  have hx := Bd.exec
  have hb := Bd.bytes
  have hr := Bd.returns
  have hts := atoms_spec (ws := (jw yX13_part cX13_part 3 (some .int))) Bd.pre
  have htw : ∀ w ∈ jWl, w.before _ s = true := fun w h => hts w (List.mem_cons_of_mem _ h)
  have hown : s.vm.findClass RX13 = some m.cls := findClass_of_methodNamed Bd.named
  have hlocks := Bd.notSynchronized
  obtain ⟨Q, hQ⟩ : ∃ Q, Q = MQ below (va_Qi (S := Unit) (fun r u => (r.toInt = jPr C a1.toInt a2.toInt)) (fun u t => jRt (dC, dI) B base G0 EX13_partK H0 [] t.heap) (jA base)) ([.ref r0, .int a1, .int a2] : List Value).toArray s 0 0 (jA base) := ⟨_, rfl⟩
  rw [← hQ]
  have hl := lv_entry ([.ref r0, .int a1, .int a2]) (n := 3) (Nat.le_of_ble_eq_true rfl)
  rw [lg_entry_eq]
  generalize (lg_sl ([.ref r0, .int a1, .int a2]) ++ List.replicate (3 - (lg_sl ([.ref r0, .int a1, .int a2])).length) Slot.unset).toArray = ls at hl ⊢
  have hl : lv_has ls 3 [(0, .ref r0), (1, .int a1), (2, .int a2)] := hl
  generalize hR : (headSpec (jw yX13_part cX13_part 3 (some .int)) ({ frames := 0, cells := 0, slots := 0, locals := 0 })).room = R
  subst hH0
  have hh : jSt (dC, dI) B base G0 G0 EX13_partK s.heap 0 0 [(r0, 15, 0, .ref zs), (r0, 15, 1, .ref zn), (r0, 15, 2, .ref za), (r0, 15, 3, .ref zb), (r0, 15, 4, .ref zc), (r0, 15, 14, .ref zy)] [(zs, 150, 120000, ca 1, C.s), (zn, 151, 120000, ca 1, C.n), (za, 152, 120000, ca 1, C.a), (zb, 153, 120000, ca 1, C.b), (zc, 154, 120000, ca 1, C.c), (zy, 165, 16, ca 1, C.y)] [] s.heap [] := jSt.start hX hP0 hM0 jIs.nil
  clear hX hP0
  have hk0 : (0 : Int32).toInt = 0 := by decide
  have hk1 : (1 : Int32).toInt = 1 := by decide
  have hly_15_2 := htw (u_lay RX13 TX13 2) (jWc_wsX130 _ (u_in_lay (by decide)))
  have hly_15_3 := htw (u_lay RX13 TX13 3) (jWc_wsX130 _ (u_in_lay (by decide)))
  have hly_15_4 := htw (u_lay RX13 TX13 4) (jWc_wsX130 _ (u_in_lay (by decide)))
  have hlk_19 := (htw (.fieldLink RX13 19 "ProofServerModel$Kernel" "one" "[I") (jWr_14 _ (List.mem_of_getElem? (i := 11) rfl)))
  have hlk_22 := (htw (.fieldLink RX13 22 "ProofServerModel$Kernel" "two" "[I") (jWr_14 _ (List.mem_of_getElem? (i := 12) rfl)))
  have hlk_25 := (htw (.fieldLink RX13 25 "ProofServerModel$Kernel" "three" "[I") (jWr_14 _ (List.mem_of_getElem? (i := 13) rfl)))
  have hrg_a1 := jb_rng a1
  have hrg_a2 := jb_rng a2
  refine lv_iload_n hx hb dX13_part_0 rfl (lv_at hl 2 rfl) ?_
  refine lv_if_ne (tgt := 13) hx hb dX13_part_1 (by decide) (fun c_1 => ?_) (fun c_1 => ?_)
  · skip
    have c_1' : a2.toInt ≠ 0 := jb_ne (rfl) ((by decide)) c_1
    refine lv_iload_n hx hb dX13_part_13 rfl (lv_at hl 2 rfl) ?_
    refine lv_iconst (v := 1) hx hb dX13_part_14 (by decide) ?_
    refine lv_icmp_ne (tgt := 27) hx hb dX13_part_15 (by decide) (fun c_2 => ?_) (fun c_2 => ?_)
    · skip
      have c_2' : a2.toInt ≠ 1 := jb_ne (rfl) ((by decide)) c_2
      refine lv_aload_n hx hb dX13_part_27 rfl (lv_at hl 0 rfl) ?_
      refine j7_read hx hb hown hK (C := RX13) (T := TX13) (N := 50) rfl hly_15_4 hlk_25 (hh.at 4 rfl) dX13_part_28 ?_
      refine lv_iload_n hx hb dX13_part_31 rfl (lv_at hl 1 rfl) ?_
      refine j7_ialdM hx hb hK hh hB154 1 rfl (by decide) hg_zc (x := a1.toInt) (rfl) (by omega) (j := 4) rfl dX13_part_32 (fun z_3 ez_3 (hz_3 : True) => ?_)
      have hqz_3 : z_3.toInt = jSo C.c (a1.toInt) := by unfold jSo; rw [ez_3]
      rw [hQ]
      exact W.iret (v := z_3) hx hb hr (fun t ht hW => ⟨⟨z_3, (), rfl, by unfold jPr; first | (rw [if_pos (by omega)]; exact (zz_none)) | (rw [if_neg (by omega), if_pos (by omega)]; exact (zz_none)) | (rw [if_neg (by omega), if_neg (by omega)]; exact hqz_3), hh.rt (M1 := []) [] rfl ht⟩, by rw [ht]; try exact hh.1.1, fun q h9 hq => by rw [ht]; try exact hh.1.2.1 q h9 hq⟩) hh.1.2.2 dX13_part_33
    · skip
      have c_2' : a2.toInt = 1 := jb_ne_n (rfl) ((by decide)) c_2
      refine lv_aload_n hx hb dX13_part_18 rfl (lv_at hl 0 rfl) ?_
      refine j7_read hx hb hown hK (C := RX13) (T := TX13) (N := 50) rfl hly_15_3 hlk_22 (hh.at 3 rfl) dX13_part_19 ?_
      refine lv_iload_n hx hb dX13_part_22 rfl (lv_at hl 1 rfl) ?_
      refine j7_ialdM hx hb hK hh hB153 1 rfl (by decide) hg_zb (x := a1.toInt) (rfl) (by omega) (j := 3) rfl dX13_part_23 (fun z_4 ez_4 (hz_4 : True) => ?_)
      have hqz_4 : z_4.toInt = jSo C.b (a1.toInt) := by unfold jSo; rw [ez_4]
      refine lv_goto (tgt := 33) hx hb dX13_part_24 (by decide) ?_
      rw [hQ]
      exact W.iret (v := z_4) hx hb hr (fun t ht hW => ⟨⟨z_4, (), rfl, by unfold jPr; first | (rw [if_pos (by omega)]; exact (zz_none)) | (rw [if_neg (by omega), if_pos (by omega)]; exact hqz_4) | (rw [if_neg (by omega), if_neg (by omega)]; exact (zz_none)), hh.rt (M1 := []) [] rfl ht⟩, by rw [ht]; try exact hh.1.1, fun q h9 hq => by rw [ht]; try exact hh.1.2.1 q h9 hq⟩) hh.1.2.2 dX13_part_33
  · skip
    have c_1' : a2.toInt = 0 := jb_ne_n (rfl) ((by decide)) c_1
    refine lv_aload_n hx hb dX13_part_4 rfl (lv_at hl 0 rfl) ?_
    refine j7_read hx hb hown hK (C := RX13) (T := TX13) (N := 50) rfl hly_15_2 hlk_19 (hh.at 2 rfl) dX13_part_5 ?_
    refine lv_iload_n hx hb dX13_part_8 rfl (lv_at hl 1 rfl) ?_
    refine j7_ialdM hx hb hK hh hB152 1 rfl (by decide) hg_za (x := a1.toInt) (rfl) (by omega) (j := 2) rfl dX13_part_9 (fun z_5 ez_5 (hz_5 : True) => ?_)
    have hqz_5 : z_5.toInt = jSo C.a (a1.toInt) := by unfold jSo; rw [ez_5]
    refine lv_goto (tgt := 33) hx hb dX13_part_10 (by decide) ?_
    rw [hQ]
    exact W.iret (v := z_5) hx hb hr (fun t ht hW => ⟨⟨z_5, (), rfl, by unfold jPr; first | (rw [if_pos (by omega)]; exact hqz_5) | (rw [if_neg (by omega), if_pos (by omega)]; exact (zz_none)) | (rw [if_neg (by omega), if_neg (by omega)]; exact (zz_none)), hh.rt (M1 := []) [] rfl ht⟩, by rw [ht]; try exact hh.1.1, fun q h9 hq => by rw [ht]; try exact hh.1.2.1 q h9 hq⟩) hh.1.2.2 dX13_part_33
set_option maxHeartbeats 4000000 in
set_option maxRecDepth 20000 in
theorem uX13_isSame (l : Launch) (dC : Nat → ClassId) (dI : Nat → Nat → Nat) (ca : Nat → ClassId) (base : Nat) (B : jF) (hB : jBok B) (hAp : jAp (dC, dI)) (hB15 : ∀ n G a H, B 15 n G a H ↔ jOb (dC, dI) 15 50 (F15 n G) a H) (hB150 : ∀ n G a H, B 150 n G a H ↔ jAr (dC, dI) (ca 1) (fun j z => True) n a H) (hB151 : ∀ n G a H, B 151 n G a H ↔ jAr (dC, dI) (ca 1) (fun j z => True) n a H) (hB152 : ∀ n G a H, B 152 n G a H ↔ jAr (dC, dI) (ca 1) (fun j z => True) n a H) (hB153 : ∀ n G a H, B 153 n G a H ↔ jAr (dC, dI) (ca 1) (fun j z => True) n a H) (hB154 : ∀ n G a H, B 154 n G a H ↔ jAr (dC, dI) (ca 1) (fun j z => True) n a H) (hB165 : ∀ n G a H, B 165 n G a H ↔ jAr (dC, dI) (ca 1) (fun j z => 0 ≤ z.toInt ∧ z.toInt ≤ 3) n a H) (d : Nat) (ih : ∀ d1, d1 < d → qX13_isSame l dC dI ca base B d1) (G0 : jT) (H0 : Heap) (r0 : Nat) (a1 : Int32) (a2 : Int32) (zs : Nat) (zn : Nat) (za : Nat) (zb : Nat) (zc : Nat) (zy : Nat) (C : jK) : Met l yX13_isSame (jw yX13_isSame cX13_isSame 5 (some .boolean)) ({ frames := d + 3, cells := 0, slots := 0, locals := 40 * d + 200 }) (va_Pc [.ref r0, .int a1, .int a2] (fun U => U.heap = H0 ∧ jX B base G0 [] H0 ∧ jG dC dI ca base U ∧ G0 r0 = some (15, 0) ∧ G0 zs = some (150, 120000) ∧ G0 zn = some (151, 120000) ∧ G0 za = some (152, 120000) ∧ G0 zb = some (153, 120000) ∧ G0 zc = some (154, 120000) ∧ G0 zy = some (165, 16) ∧ jP (dC, dI) G0 H0 [(r0, 15, 0, .ref zs), (r0, 15, 1, .ref zn), (r0, 15, 2, .ref za), (r0, 15, 3, .ref zb), (r0, 15, 4, .ref zc), (r0, 15, 14, .ref zy)] ∧ jMc (dC, dI) G0 H0 [(zs, 150, 120000, ca 1, C.s), (zn, 151, 120000, ca 1, C.n), (za, 152, 120000, ca 1, C.a), (zb, 153, 120000, ca 1, C.b), (zc, 154, 120000, ca 1, C.c), (zy, 165, 16, ca 1, C.y)] ∧ jTr C d a1.toInt ∧ jTr C d a2.toInt ∧ d ≤ 2000)) (va_Qi (S := Unit) (fun r u => (r = 0 ∨ r = 1) ∧ (r.toInt = jSm C a1.toInt a2.toInt)) (fun u t => jRt (dC, dI) B base G0 EX13_isSame H0 [] t.heap) (jA base)) 0 0 (jA base) := by
  refine Met.ofW (cc := cX13_isSame) (maxL := 5) (ret := (some .boolean)) (by decide) rfl ?_
  intro p e s m args below meth c s₁ Bd hml hv
  obtain ⟨rfl, hH0, hX, hG, hg_r0, hg_zs, hg_zn, hg_za, hg_zb, hg_zc, hg_zy, hP0, hM0, hp0, hp1, hp2⟩ := hv
  have hK := hG.1
  have hx := Bd.exec
  have hb := Bd.bytes
  have hr := Bd.returns
  have hts := atoms_spec (ws := (jw yX13_isSame cX13_isSame 5 (some .boolean))) Bd.pre
  have htw : ∀ w ∈ jWl, w.before _ s = true := fun w h => hts w (List.mem_cons_of_mem _ h)
  have hown : s.vm.findClass RX13 = some m.cls := findClass_of_methodNamed Bd.named
  have hlocks := Bd.notSynchronized
  obtain ⟨Q, hQ⟩ : ∃ Q, Q = MQ below (va_Qi (S := Unit) (fun r u => (r = 0 ∨ r = 1) ∧ (r.toInt = jSm C a1.toInt a2.toInt)) (fun u t => jRt (dC, dI) B base G0 EX13_isSame H0 [] t.heap) (jA base)) ([.ref r0, .int a1, .int a2] : List Value).toArray s 0 0 (jA base) := ⟨_, rfl⟩
  rw [← hQ]
  have hl := lv_entry ([.ref r0, .int a1, .int a2]) (n := 5) (Nat.le_of_ble_eq_true rfl)
  rw [lg_entry_eq]
  generalize (lg_sl ([.ref r0, .int a1, .int a2]) ++ List.replicate (5 - (lg_sl ([.ref r0, .int a1, .int a2])).length) Slot.unset).toArray = ls at hl ⊢
  have hl : lv_has ls 5 [(0, .ref r0), (1, .int a1), (2, .int a2)] := hl
  generalize hR : (headSpec (jw yX13_isSame cX13_isSame 5 (some .boolean)) ({ frames := d + 3, cells := 0, slots := 0, locals := 40 * d + 200 })).room = R
  subst hH0
  have hh : jSt (dC, dI) B base G0 G0 EX13_isSame s.heap 0 0 [(r0, 15, 0, .ref zs), (r0, 15, 1, .ref zn), (r0, 15, 2, .ref za), (r0, 15, 3, .ref zb), (r0, 15, 4, .ref zc), (r0, 15, 14, .ref zy)] [(zs, 150, 120000, ca 1, C.s), (zn, 151, 120000, ca 1, C.n), (za, 152, 120000, ca 1, C.a), (zb, 153, 120000, ca 1, C.b), (zc, 154, 120000, ca 1, C.c), (zy, 165, 16, ca 1, C.y)] [] s.heap [] := jSt.start hX hP0 hM0 jIs.nil
  clear hX hP0
  have hk0 : (0 : Int32).toInt = 0 := by decide
  have hk1 : (1 : Int32).toInt = 1 := by decide
  have hk7 : (7 : Int32).toInt = 7 := by decide
  have hk8 : (8 : Int32).toInt = 8 := by decide
  have hk9 : (9 : Int32).toInt = 9 := by decide
  have hk10 : (10 : Int32).toInt = 10 := by decide
  have hly_15_0 := htw (u_lay RX13 TX13 0) (jWc_wsX130 _ (u_in_lay (by decide)))
  have hly_15_1 := htw (u_lay RX13 TX13 1) (jWc_wsX130 _ (u_in_lay (by decide)))
  have hlk_12 := (htw (.fieldLink RX13 12 "ProofServerModel$Kernel" "sort" "[I") (jWr_14 _ (List.mem_of_getElem? (i := 9) rfl)))
  have hlk_16 := (htw (.fieldLink RX13 16 "ProofServerModel$Kernel" "name" "[I") (jWr_14 _ (List.mem_of_getElem? (i := 10) rfl)))
  have hrg_a1 := jb_rng a1
  have hrg_a2 := jb_rng a2
  obtain ⟨g1, g2, g3, g4, g5, g6, g7, g8⟩ := hp0.ok
  obtain ⟨e1, e2, e3, e4, e5, e6, e7, e8⟩ := hp1.ok
  have hst := hp0.sm (by omega) a2.toInt
  refine lv_iload_n hx hb dX13_isSame_0 rfl (lv_at hl 1 rfl) ?_
  refine lv_iload_n hx hb dX13_isSame_1 rfl (lv_at hl 2 rfl) ?_
  refine lv_icmp_ne (tgt := 7) hx hb dX13_isSame_2 (by decide) (fun c_1 => ?_) (fun c_1 => ?_)
  · skip
    have c_1' : a1.toInt ≠ a2.toInt := jb_ne (rfl) (rfl) c_1
    refine lv_aload_n hx hb dX13_isSame_7 rfl (lv_at hl 0 rfl) ?_
    refine j7_read hx hb hown hK (C := RX13) (T := TX13) (N := 50) rfl hly_15_0 hlk_12 (hh.at 0 rfl) dX13_isSame_8 ?_
    refine lv_iload_n hx hb dX13_isSame_11 rfl (lv_at hl 1 rfl) ?_
    refine j7_ialdM hx hb hK hh hB150 1 rfl (by decide) hg_zs (x := a1.toInt) (rfl) (by omega) (j := 0) rfl dX13_isSame_12 (fun z_2 ez_2 (hz_2 : True) => ?_)
    have hqz_2 : z_2.toInt = jSo C.s (a1.toInt) := by unfold jSo; rw [ez_2]
    refine lv_aload_n hx hb dX13_isSame_13 rfl (lv_at hl 0 rfl) ?_
    refine j7_read hx hb hown hK (C := RX13) (T := TX13) (N := 50) rfl hly_15_0 hlk_12 (hh.at 0 rfl) dX13_isSame_14 ?_
    refine lv_iload_n hx hb dX13_isSame_17 rfl (lv_at hl 2 rfl) ?_
    refine j7_ialdM hx hb hK hh hB150 1 rfl (by decide) hg_zs (x := a2.toInt) (rfl) (by omega) (j := 0) rfl dX13_isSame_18 (fun z_3 ez_3 (hz_3 : True) => ?_)
    have hqz_3 : z_3.toInt = jSo C.s (a2.toInt) := by unfold jSo; rw [ez_3]
    refine lv_icmp_eq (tgt := 24) hx hb dX13_isSame_19 (by decide) (fun c_4 => ?_) (fun c_4 => ?_)
    · skip
      have c_4' : z_2.toInt = z_3.toInt := jb_eq (rfl) (rfl) c_4
      refine lv_aload_n hx hb dX13_isSame_24 rfl (lv_at hl 0 rfl) ?_
      refine j7_read hx hb hown hK (C := RX13) (T := TX13) (N := 50) rfl hly_15_0 hlk_12 (hh.at 0 rfl) dX13_isSame_25 ?_
      refine lv_iload_n hx hb dX13_isSame_28 rfl (lv_at hl 1 rfl) ?_
      refine j7_ialdM hx hb hK hh hB150 1 rfl (by decide) hg_zs (x := a1.toInt) (rfl) (by omega) (j := 0) rfl dX13_isSame_29 (fun z_5 ez_5 (hz_5 : True) => ?_)
      have hqz_5 : z_5.toInt = jSo C.s (a1.toInt) := by unfold jSo; rw [ez_5]
      refine lv_istore_n (lv' := [(3, .int z_5), (0, .ref r0), (1, .int a1), (2, .int a2)]) hx hb dX13_isSame_30 rfl hl (by decide) rfl (fun ls hl => ?_)
      refine lv_iload_n hx hb dX13_isSame_31 rfl (lv_at hl 0 rfl) ?_
      refine lv_bipush (v := 7) hx hb dX13_isSame_32 (by decide) ?_
      have C72 : ∀ (H_6 : Heap) (locs_6 : List Loc), jSt (dC, dI) B base G0 G0 EX13_isSame s.heap 0 0 [(r0, 15, 0, .ref zs), (r0, 15, 1, .ref zn), (r0, 15, 2, .ref za), (r0, 15, 3, .ref zb), (r0, 15, 4, .ref zc), (r0, 15, 14, .ref zy)] [(zs, 150, 120000, ca 1, C.s), (zn, 151, 120000, ca 1, C.n), (za, 152, 120000, ca 1, C.a), (zb, 153, 120000, ca 1, C.b), (zc, 154, 120000, ca 1, C.c), (zy, 165, 16, ca 1, C.y)] [] H_6 locs_6 → ((7 ≤ jSo C.s a1.toInt ∧ jSo C.s a1.toInt ≤ 10 → jSo C.n a1.toInt = jSo C.n a2.toInt)) → ∀ ls : Array Slot, lv_has ls 5 [(0, .ref r0), (1, .int a1), (2, .int a2), (3, .int z_5)] → W p l e R s m ([.ref r0, .int a1, .int a2] : List Value).toArray below meth c H_6 locs_6 0 0 Q (F0 m 72 ls []) := by
        intro  H_6 locs_6 hh_6  hi_6 ls hl
        have hpq : jPts C a2.toInt = jPts C a1.toInt := jPts_like (D := C) (by omega) (fun _ => by omega) (fun _ => rfl)
        refine lv_iconst (v := 0) hx hb dX13_isSame_72 (by decide) ?_
        refine lv_istore (lv' := [(4, .int 0), (0, .ref r0), (1, .int a1), (2, .int a2), (3, .int z_5)]) hx hb dX13_isSame_73 hl (by decide) rfl (fun ls hl => ?_)
        have L75 : ∀ (N : Nat) (v4_7 : Int32) (H_7 : Heap) (locs_7 : List Loc), jSt (dC, dI) B base G0 G0 EX13_isSame s.heap 0 0 [(r0, 15, 0, .ref zs), (r0, 15, 1, .ref zn), (r0, 15, 2, .ref za), (r0, 15, 3, .ref zb), (r0, 15, 4, .ref zc), (r0, 15, 14, .ref zy)] [(zs, 150, 120000, ca 1, C.s), (zn, 151, 120000, ca 1, C.n), (za, 152, 120000, ca 1, C.a), (zb, 153, 120000, ca 1, C.b), (zc, 154, 120000, ca 1, C.c), (zy, 165, 16, ca 1, C.y)] [] H_7 locs_7 → (0 ≤ v4_7.toInt ∧ v4_7.toInt ≤ jPts C a1.toInt ∧ jSmK C a1.toInt a2.toInt v4_7.toInt = 1) → (3 - v4_7.toInt : Int) < N → ∀ ls : Array Slot, lv_has ls 5 [(0, .ref r0), (1, .int a1), (2, .int a2), (3, .int z_5), (4, .int v4_7)] → W p l e R s m ([.ref r0, .int a1, .int a2] : List Value).toArray below meth c H_7 locs_7 0 0 Q (F0 m 75 ls []) := by
          intro N
          induction N with
          | zero => intro v4_7 H_7 locs_7 hh_7  hi_7 hm; exact absurd hm (by omega)
          | succ N L75 =>
            intro v4_7 H_7 locs_7 hh_7  hi_7 hm_7 ls hl
            obtain ⟨hi_7_0, hi_7_1, hi_7_2⟩ := hi_7
            refine lv_iload hx hb dX13_isSame_75 (lv_at hl 4 rfl) ?_
            refine lv_aload_n hx hb dX13_isSame_77 rfl (lv_at hl 0 rfl) ?_
            refine lv_iload_n hx hb dX13_isSame_78 rfl (lv_at hl 1 rfl) ?_
            refine va_calli (A0 := jA base) (H0 := s.heap) (va_runV (As := [.int a1]) (rest := [.int v4_7]) ⟨hx, hb, hml, hown, hts⟩ (uX13_parts l dC dI ca base B hB hAp hB15 hB150 hB151 hB152 hB153 hB154 hB165 G0 H_7 r0 a1 zs zn za zb zc zy C) (cwV 1 hts (jgV (jWr_65 _ (List.mem_of_getElem? (i := 15) rfl)) (jWr_65 _ (List.mem_of_getElem? (i := 16) rfl)) (jWr_65 _ (List.mem_of_getElem? (i := 17) rfl)) (jWr_12 _ (List.mem_of_getElem? (i := 12) rfl)) (jWr_65 _ (List.mem_of_getElem? (i := 18) rfl))) rfl rfl rfl (by decide +kernel) ⟨by rw [← hR]; show (0) + 1 ≤ d + 3; omega, by rw [← hR]; show 8 + (3 + 11) + (0) ≤ 40 * d + 200; omega⟩) ⟨fun a U g mk q => by obtain ⟨q0, q1, q2, qK, q10, q11, q12, q13, q14, q15, q16, q17, q18, q19⟩ := q; exact ⟨q0, q1, q2, jG.calling g mk a qK, q10, q11, q12, q13, q14, q15, q16, q17, q18, q19⟩, hh_7.recv (C := RX13) (T := TX13) (N := 50) hB15 rfl (by decide) hg_r0 hK, fun U hU hW => ⟨rfl, hU, hh_7.2.1, hG.step hW hU hh_7.1, hg_r0, hg_zs, hg_zn, hg_za, hg_zb, hg_zc, hg_zy, (hh_7.2.2.1.sub (L1 := [(r0, 15, 0, .ref zs), (r0, 15, 1, .ref zn), (r0, 15, 2, .ref za), (r0, 15, 3, .ref zb), (r0, 15, 4, .ref zc), (r0, 15, 14, .ref zy)]) [0, 1, 2, 3, 4, 5] rfl), (hh_7.2.2.2.2.2.2.2.1.sub (L1 := [(zs, 150, 120000, ca 1, C.s), (zn, 151, 120000, ca 1, C.n), (za, 152, 120000, ca 1, C.a), (zb, 153, 120000, ca 1, C.b), (zc, 154, 120000, ca 1, C.c), (zy, 165, 16, ca 1, C.y)]) [0, 1, 2, 3, 4, 5] rfl), by first | omega | (refine ⟨?_, ?_, ?_⟩ <;> (first | omega | rfl | assumption | decide | exact Or.inl rfl | exact Or.inr rfl | (simp only; omega)))⟩⟩ rfl rfl hl.1 rfl (lv_room (Nat.le_of_ble_eq_true rfl)) dX13_isSame_79 ⟨Nat.zero_le _, Nat.zero_le _⟩) hh_7.1 (fun q _ h => h) (fun q h => h) (fun r_9 u_8 t_8 H_8 locs_8 ht_8 hvm_8 hr_9 hb_8 hz_8 hk_8 hS_8 => ?_)
            rw [ht_8] at hb_8
            obtain ⟨hb_81, hb_82, hb_83, hb_84, hb_85⟩ := hb_8
            have hh_8 : jSt (dC, dI) B base G0 G0 EX13_isSame s.heap 0 0 [(r0, 15, 0, .ref zs), (r0, 15, 1, .ref zn), (r0, 15, 2, .ref za), (r0, 15, 3, .ref zb), (r0, 15, 4, .ref zc), (r0, 15, 14, .ref zy)] [(zs, 150, 120000, ca 1, C.s), (zn, 151, 120000, ca 1, C.n), (za, 152, 120000, ca 1, C.a), (zb, 153, 120000, ca 1, C.b), (zc, 154, 120000, ca 1, C.c), (zy, 165, 16, ca 1, C.y)] [] H_8 locs_8 := ((hh_7.call hb_81 hb_82 hb_83 hb_84 hS_8 rfl (L1 := [(r0, 15, 0, .ref zs), (r0, 15, 1, .ref zn), (r0, 15, 2, .ref za), (r0, 15, 3, .ref zb), (r0, 15, 4, .ref zc), (r0, 15, 14, .ref zy)]) [0, 1, 2, 3, 4, 5] rfl rfl (M1 := [(zs, 150, 120000, ca 1, C.s), (zn, 151, 120000, ca 1, C.n), (za, 152, 120000, ca 1, C.a), (zb, 153, 120000, ca 1, C.b), (zc, 154, 120000, ca 1, C.c), (zy, 165, 16, ca 1, C.y)]) [0, 1, 2, 3, 4, 5] rfl rfl (I1 := []) [] rfl rfl).more hb_85)
            clear hh_7 ht_8 hvm_8 hz_8 hk_8 hS_8 hb_81 hb_82 hb_83 hb_84 hb_85
            obtain ⟨hr_9_0, hr_9_1, hr_9_2⟩ := hr_9
            refine lv_icmp_ge (tgt := 114) hx hb dX13_isSame_82 (by decide) (fun c_10 => ?_) (fun c_10 => ?_)
            · skip
              have c_10' : v4_7.toInt ≥ r_9.toInt := jb_ge (rfl) (rfl) c_10
              refine lv_iconst (v := 1) hx hb dX13_isSame_114 (by decide) ?_
              rw [hQ]
              exact W.zret (v := 1) hx hb hr (jb_nz (Or.inr rfl)) (fun t ht hW => ⟨⟨1, (), rfl, ⟨(Or.inr rfl), by rw [hst]; first | (rw [if_pos (by omega)]; exact hk1) | (rw [if_neg (by omega), if_pos (by omega)]; exact hk0) | (rw [if_neg (by omega), if_neg (by omega), if_pos (by omega)]; exact hk0) | (rw [if_neg (by omega), if_neg (by omega), if_neg (by omega), jSmK_z C a1.toInt a2.toInt (k := v4_7.toInt) (by omega) (by omega) (by omega) (by rw [← (zz_none), ← (zz_none)]; omega)]; exact hk0) | (rw [if_neg (by omega), if_neg (by omega), if_neg (by omega), show jPts C a1.toInt = v4_7.toInt by omega]; omega)⟩, hh_8.rt (M1 := []) [] rfl ht⟩, by rw [ht]; try exact hh_8.1.1, fun q h9 hq => by rw [ht]; try exact hh_8.1.2.1 q h9 hq⟩) hh_8.1.2.2 dX13_isSame_115
            · skip
              have c_10' : v4_7.toInt < r_9.toInt := jb_ge_n (rfl) (rfl) c_10
              refine lv_aload_n hx hb dX13_isSame_85 rfl (lv_at hl 0 rfl) ?_
              refine lv_aload_n hx hb dX13_isSame_86 rfl (lv_at hl 0 rfl) ?_
              refine lv_iload_n hx hb dX13_isSame_87 rfl (lv_at hl 1 rfl) ?_
              refine lv_iload hx hb dX13_isSame_88 (lv_at hl 4 rfl) ?_
              refine va_calli (A0 := jA base) (H0 := s.heap) (va_runV (As := [.int a1, .int v4_7]) (rest := [.ref r0]) ⟨hx, hb, hml, hown, hts⟩ (uX13_partK l dC dI ca base B hB hAp hB15 hB150 hB151 hB152 hB153 hB154 hB165 G0 H_8 r0 a1 v4_7 zs zn za zb zc zy C) (cwV 2 hts (jgV (jWr_65 _ (List.mem_of_getElem? (i := 19) rfl)) (jWr_65 _ (List.mem_of_getElem? (i := 20) rfl)) (jWr_65 _ (List.mem_of_getElem? (i := 21) rfl)) (jWr_12 _ (List.mem_of_getElem? (i := 12) rfl)) (jWr_65 _ (List.mem_of_getElem? (i := 22) rfl))) rfl rfl rfl (by decide +kernel) ⟨by rw [← hR]; show (0) + 1 ≤ d + 3; omega, by rw [← hR]; show 8 + (3 + 11) + (0) ≤ 40 * d + 200; omega⟩) ⟨fun a U g mk q => by obtain ⟨q0, q1, q2, qK, q10, q11, q12, q13, q14, q15, q16, q17, q18, q19⟩ := q; exact ⟨q0, q1, q2, jG.calling g mk a qK, q10, q11, q12, q13, q14, q15, q16, q17, q18, q19⟩, hh_8.recv (C := RX13) (T := TX13) (N := 50) hB15 rfl (by decide) hg_r0 hK, fun U hU hW => ⟨rfl, hU, hh_8.2.1, hG.step hW hU hh_8.1, hg_r0, hg_zs, hg_zn, hg_za, hg_zb, hg_zc, hg_zy, (hh_8.2.2.1.sub (L1 := [(r0, 15, 0, .ref zs), (r0, 15, 1, .ref zn), (r0, 15, 2, .ref za), (r0, 15, 3, .ref zb), (r0, 15, 4, .ref zc), (r0, 15, 14, .ref zy)]) [0, 1, 2, 3, 4, 5] rfl), (hh_8.2.2.2.2.2.2.2.1.sub (L1 := [(zs, 150, 120000, ca 1, C.s), (zn, 151, 120000, ca 1, C.n), (za, 152, 120000, ca 1, C.a), (zb, 153, 120000, ca 1, C.b), (zc, 154, 120000, ca 1, C.c), (zy, 165, 16, ca 1, C.y)]) [0, 1, 2, 3, 4, 5] rfl), by first | omega | (refine ⟨?_, ?_⟩ <;> (first | omega | rfl | assumption | decide | exact Or.inl rfl | exact Or.inr rfl | (simp only; omega)))⟩⟩ rfl rfl hl.1 rfl (lv_room (Nat.le_of_ble_eq_true rfl)) dX13_isSame_90 ⟨Nat.zero_le _, Nat.zero_le _⟩) hh_8.1 (fun q _ h => h) (fun q h => h) (fun r_12 u_11 t_11 H_11 locs_11 ht_11 hvm_11 hr_12 hb_11 hz_11 hk_11 hS_11 => ?_)
              rw [ht_11] at hb_11
              obtain ⟨hb_111, hb_112, hb_113, hb_114, hb_115⟩ := hb_11
              have hh_11 : jSt (dC, dI) B base G0 G0 EX13_isSame s.heap 0 0 [(r0, 15, 0, .ref zs), (r0, 15, 1, .ref zn), (r0, 15, 2, .ref za), (r0, 15, 3, .ref zb), (r0, 15, 4, .ref zc), (r0, 15, 14, .ref zy)] [(zs, 150, 120000, ca 1, C.s), (zn, 151, 120000, ca 1, C.n), (za, 152, 120000, ca 1, C.a), (zb, 153, 120000, ca 1, C.b), (zc, 154, 120000, ca 1, C.c), (zy, 165, 16, ca 1, C.y)] [] H_11 locs_11 := ((hh_8.call hb_111 hb_112 hb_113 hb_114 hS_11 rfl (L1 := [(r0, 15, 0, .ref zs), (r0, 15, 1, .ref zn), (r0, 15, 2, .ref za), (r0, 15, 3, .ref zb), (r0, 15, 4, .ref zc), (r0, 15, 14, .ref zy)]) [0, 1, 2, 3, 4, 5] rfl rfl (M1 := [(zs, 150, 120000, ca 1, C.s), (zn, 151, 120000, ca 1, C.n), (za, 152, 120000, ca 1, C.a), (zb, 153, 120000, ca 1, C.b), (zc, 154, 120000, ca 1, C.c), (zy, 165, 16, ca 1, C.y)]) [0, 1, 2, 3, 4, 5] rfl rfl (I1 := []) [] rfl rfl).more hb_115)
              clear hh_8 ht_11 hvm_11 hz_11 hk_11 hS_11 hb_111 hb_112 hb_113 hb_114 hb_115
              refine lv_aload_n hx hb dX13_isSame_93 rfl (lv_at hl 0 rfl) ?_
              refine lv_iload_n hx hb dX13_isSame_94 rfl (lv_at hl 2 rfl) ?_
              refine lv_iload hx hb dX13_isSame_95 (lv_at hl 4 rfl) ?_
              refine va_calli (A0 := jA base) (H0 := s.heap) (va_runV (As := [.int a2, .int v4_7]) (rest := [.int r_12, .ref r0]) ⟨hx, hb, hml, hown, hts⟩ (uX13_partK l dC dI ca base B hB hAp hB15 hB150 hB151 hB152 hB153 hB154 hB165 G0 H_11 r0 a2 v4_7 zs zn za zb zc zy C) (cwV 2 hts (jgV (jWr_65 _ (List.mem_of_getElem? (i := 19) rfl)) (jWr_65 _ (List.mem_of_getElem? (i := 20) rfl)) (jWr_65 _ (List.mem_of_getElem? (i := 21) rfl)) (jWr_12 _ (List.mem_of_getElem? (i := 12) rfl)) (jWr_65 _ (List.mem_of_getElem? (i := 22) rfl))) rfl rfl rfl (by decide +kernel) ⟨by rw [← hR]; show (0) + 1 ≤ d + 3; omega, by rw [← hR]; show 8 + (3 + 11) + (0) ≤ 40 * d + 200; omega⟩) ⟨fun a U g mk q => by obtain ⟨q0, q1, q2, qK, q10, q11, q12, q13, q14, q15, q16, q17, q18, q19⟩ := q; exact ⟨q0, q1, q2, jG.calling g mk a qK, q10, q11, q12, q13, q14, q15, q16, q17, q18, q19⟩, hh_11.recv (C := RX13) (T := TX13) (N := 50) hB15 rfl (by decide) hg_r0 hK, fun U hU hW => ⟨rfl, hU, hh_11.2.1, hG.step hW hU hh_11.1, hg_r0, hg_zs, hg_zn, hg_za, hg_zb, hg_zc, hg_zy, (hh_11.2.2.1.sub (L1 := [(r0, 15, 0, .ref zs), (r0, 15, 1, .ref zn), (r0, 15, 2, .ref za), (r0, 15, 3, .ref zb), (r0, 15, 4, .ref zc), (r0, 15, 14, .ref zy)]) [0, 1, 2, 3, 4, 5] rfl), (hh_11.2.2.2.2.2.2.2.1.sub (L1 := [(zs, 150, 120000, ca 1, C.s), (zn, 151, 120000, ca 1, C.n), (za, 152, 120000, ca 1, C.a), (zb, 153, 120000, ca 1, C.b), (zc, 154, 120000, ca 1, C.c), (zy, 165, 16, ca 1, C.y)]) [0, 1, 2, 3, 4, 5] rfl), by first | omega | (refine ⟨?_, ?_⟩ <;> (first | omega | rfl | assumption | decide | exact Or.inl rfl | exact Or.inr rfl | (simp only; omega)))⟩⟩ rfl rfl hl.1 rfl (lv_room (Nat.le_of_ble_eq_true rfl)) dX13_isSame_97 ⟨Nat.zero_le _, Nat.zero_le _⟩) hh_11.1 (fun q _ h => h) (fun q h => h) (fun r_14 u_13 t_13 H_13 locs_13 ht_13 hvm_13 hr_14 hb_13 hz_13 hk_13 hS_13 => ?_)
              rw [ht_13] at hb_13
              obtain ⟨hb_131, hb_132, hb_133, hb_134, hb_135⟩ := hb_13
              have hh_13 : jSt (dC, dI) B base G0 G0 EX13_isSame s.heap 0 0 [(r0, 15, 0, .ref zs), (r0, 15, 1, .ref zn), (r0, 15, 2, .ref za), (r0, 15, 3, .ref zb), (r0, 15, 4, .ref zc), (r0, 15, 14, .ref zy)] [(zs, 150, 120000, ca 1, C.s), (zn, 151, 120000, ca 1, C.n), (za, 152, 120000, ca 1, C.a), (zb, 153, 120000, ca 1, C.b), (zc, 154, 120000, ca 1, C.c), (zy, 165, 16, ca 1, C.y)] [] H_13 locs_13 := ((hh_11.call hb_131 hb_132 hb_133 hb_134 hS_13 rfl (L1 := [(r0, 15, 0, .ref zs), (r0, 15, 1, .ref zn), (r0, 15, 2, .ref za), (r0, 15, 3, .ref zb), (r0, 15, 4, .ref zc), (r0, 15, 14, .ref zy)]) [0, 1, 2, 3, 4, 5] rfl rfl (M1 := [(zs, 150, 120000, ca 1, C.s), (zn, 151, 120000, ca 1, C.n), (za, 152, 120000, ca 1, C.a), (zb, 153, 120000, ca 1, C.b), (zc, 154, 120000, ca 1, C.c), (zy, 165, 16, ca 1, C.y)]) [0, 1, 2, 3, 4, 5] rfl rfl (I1 := []) [] rfl rfl).more hb_135)
              clear hh_11 ht_13 hvm_13 hz_13 hk_13 hS_13 hb_131 hb_132 hb_133 hb_134 hb_135
              refine va_calli (A0 := jA base) (H0 := s.heap) (va_runV (As := [.int r_12, .int r_14]) (rest := []) ⟨hx, hb, hml, hown, hts⟩ (ih (d - 1) (by omega) G0 H_13 r0 r_12 r_14 zs zn za zb zc zy C) (cwV 2 hts (jgV (jWr_67 _ (List.mem_of_getElem? (i := 11) rfl)) (jWr_67 _ (List.mem_of_getElem? (i := 12) rfl)) (jWr_67 _ (List.mem_of_getElem? (i := 13) rfl)) (jWr_12 _ (List.mem_of_getElem? (i := 12) rfl)) (jWr_67 _ (List.mem_of_getElem? (i := 14) rfl))) rfl rfl rfl (by decide +kernel) ⟨by rw [← hR]; show (d - 1 + 3) + 1 ≤ d + 3; omega, by rw [← hR]; show 8 + (5 + 11) + (40 * (d - 1) + 200) ≤ 40 * d + 200; omega⟩) ⟨fun a U g mk q => by obtain ⟨q0, q1, q2, qK, q10, q11, q12, q13, q14, q15, q16, q17, q18, q19⟩ := q; exact ⟨q0, q1, q2, jG.calling g mk a qK, q10, q11, q12, q13, q14, q15, q16, q17, q18, q19⟩, hh_13.recv (C := RX13) (T := TX13) (N := 50) hB15 rfl (by decide) hg_r0 hK, fun U hU hW => ⟨rfl, hU, hh_13.2.1, hG.step hW hU hh_13.1, hg_r0, hg_zs, hg_zn, hg_za, hg_zb, hg_zc, hg_zy, (hh_13.2.2.1.sub (L1 := [(r0, 15, 0, .ref zs), (r0, 15, 1, .ref zn), (r0, 15, 2, .ref za), (r0, 15, 3, .ref zb), (r0, 15, 4, .ref zc), (r0, 15, 14, .ref zy)]) [0, 1, 2, 3, 4, 5] rfl), (hh_13.2.2.2.2.2.2.2.1.sub (L1 := [(zs, 150, 120000, ca 1, C.s), (zn, 151, 120000, ca 1, C.n), (za, 152, 120000, ca 1, C.a), (zb, 153, 120000, ca 1, C.b), (zc, 154, 120000, ca 1, C.c), (zy, 165, 16, ca 1, C.y)]) [0, 1, 2, 3, 4, 5] rfl), ⟨(by first | assumption | (rw [hr_12]; exact hp0.part (by omega) (by omega)) | (rw [hr_14]; exact hp1.part (by omega) (by omega)) | omega), (by first | assumption | (rw [hr_12]; exact hp0.part (by omega) (by omega)) | (rw [hr_14]; exact hp1.part (by omega) (by omega)) | omega), (by first | omega | rfl | assumption | (rw [hr_12]; exact hp0.part (by omega) (by omega)) | (rw [hr_14]; exact hp1.part (by omega) (by omega)))⟩⟩⟩ rfl rfl hl.1 rfl (lv_room (Nat.le_of_ble_eq_true rfl)) dX13_isSame_100 ⟨Nat.zero_le _, Nat.zero_le _⟩) hh_13.1 (fun q _ h => h) (fun q h => h) (fun r_16 u_15 t_15 H_15 locs_15 ht_15 hvm_15 hr_16 hb_15 hz_15 hk_15 hS_15 => ?_)
              rw [ht_15] at hb_15
              obtain ⟨hb_151, hb_152, hb_153, hb_154, hb_155⟩ := hb_15
              have hh_15 : jSt (dC, dI) B base G0 G0 EX13_isSame s.heap 0 0 [(r0, 15, 0, .ref zs), (r0, 15, 1, .ref zn), (r0, 15, 2, .ref za), (r0, 15, 3, .ref zb), (r0, 15, 4, .ref zc), (r0, 15, 14, .ref zy)] [(zs, 150, 120000, ca 1, C.s), (zn, 151, 120000, ca 1, C.n), (za, 152, 120000, ca 1, C.a), (zb, 153, 120000, ca 1, C.b), (zc, 154, 120000, ca 1, C.c), (zy, 165, 16, ca 1, C.y)] [] H_15 locs_15 := ((hh_13.call hb_151 hb_152 hb_153 hb_154 hS_15 rfl (L1 := [(r0, 15, 0, .ref zs), (r0, 15, 1, .ref zn), (r0, 15, 2, .ref za), (r0, 15, 3, .ref zb), (r0, 15, 4, .ref zc), (r0, 15, 14, .ref zy)]) [0, 1, 2, 3, 4, 5] rfl rfl (M1 := [(zs, 150, 120000, ca 1, C.s), (zn, 151, 120000, ca 1, C.n), (za, 152, 120000, ca 1, C.a), (zb, 153, 120000, ca 1, C.b), (zc, 154, 120000, ca 1, C.c), (zy, 165, 16, ca 1, C.y)]) [0, 1, 2, 3, 4, 5] rfl rfl (I1 := []) [] rfl rfl).more hb_155)
              clear hh_13 ht_15 hvm_15 hz_15 hk_15 hS_15 hb_151 hb_152 hb_153 hb_154 hb_155
              obtain ⟨hr_16b, hr_16p⟩ := hr_16
              have hr_16' := jb_01 hr_16b
              refine lv_if_ne (tgt := 108) hx hb dX13_isSame_103 (by decide) (fun c_17 => ?_) (fun c_17 => ?_)
              · skip
                have c_17' : r_16.toInt ≠ 0 := jb_ne (rfl) ((by decide)) c_17
                obtain ⟨z_18, ez_18⟩ : ∃ y : Int32, y = v4_7 + 1 := ⟨_, rfl⟩
                refine lv_iinc (v := z_18) (lv' := [(4, .int z_18), (0, .ref r0), (1, .int a1), (2, .int a2), (3, .int z_5)]) hx hb dX13_isSame_108 hl (k := 4) rfl (by rw [ez_18]; rfl) (by decide) rfl (fun ls hl => ?_)
                have hz_18 : z_18.toInt = v4_7.toInt + 1 := by rw [ez_18]; exact jb_iadd2 (rfl) (by decide) (by omega)
                refine lv_goto (tgt := 75) hx hb dX13_isSame_111 (by decide) ?_
                exact L75 z_18 _ _ hh_15 (⟨(by first | omega | rfl | assumption | (rw [hk0, jSmK_0]) | (rw [show (z_18).toInt = v4_7.toInt + 1 by omega, jSmK_s C a1.toInt a2.toInt (by omega) (by omega) (by rw [← hr_12, ← hr_14]; omega)]; omega)), (by first | omega | rfl | assumption | (rw [hk0, jSmK_0]) | (rw [show (z_18).toInt = v4_7.toInt + 1 by omega, jSmK_s C a1.toInt a2.toInt (by omega) (by omega) (by rw [← hr_12, ← hr_14]; omega)]; omega)), (by first | omega | rfl | assumption | (rw [hk0, jSmK_0]) | (rw [show (z_18).toInt = v4_7.toInt + 1 by omega, jSmK_s C a1.toInt a2.toInt (by omega) (by omega) (by rw [← hr_12, ← hr_14]; omega)]; omega))⟩) (by omega) _ (lv_sub hl [1, 2, 3, 4, 0] rfl)
              · skip
                have c_17' : r_16.toInt = 0 := jb_ne_n (rfl) ((by decide)) c_17
                refine lv_iconst (v := 0) hx hb dX13_isSame_106 (by decide) ?_
                rw [hQ]
                exact W.zret (v := 0) hx hb hr (jb_nz (Or.inl rfl)) (fun t ht hW => ⟨⟨0, (), rfl, ⟨(Or.inl rfl), by rw [hst]; first | (rw [if_pos (by omega)]; exact hk1) | (rw [if_neg (by omega), if_pos (by omega)]; exact hk0) | (rw [if_neg (by omega), if_neg (by omega), if_pos (by omega)]; exact hk0) | (rw [if_neg (by omega), if_neg (by omega), if_neg (by omega), jSmK_z C a1.toInt a2.toInt (k := v4_7.toInt) (by omega) (by omega) (by omega) (by rw [← hr_12, ← hr_14]; omega)]; exact hk0) | (rw [if_neg (by omega), if_neg (by omega), if_neg (by omega), show jPts C a1.toInt = v4_7.toInt by omega]; omega)⟩, hh_15.rt (M1 := []) [] rfl ht⟩, by rw [ht]; try exact hh_15.1.1, fun q h9 hq => by rw [ht]; try exact hh_15.1.2.1 q h9 hq⟩) hh_15.1.2.2 dX13_isSame_107
        exact L75 (3 - (0 : Int32).toInt : Int).toNat.succ 0 _ _ hh_6 (⟨(by first | omega | rfl | assumption | (rw [hk0, jSmK_0]) | (rw [show (0).toInt = (zz_none).toInt + 1 by omega, jSmK_s C a1.toInt a2.toInt (by omega) (by omega) (by rw [← hr_12, ← hr_14]; omega)]; omega)), (by first | omega | rfl | assumption | (rw [hk0, jSmK_0]) | (rw [show (0).toInt = (zz_none).toInt + 1 by omega, jSmK_s C a1.toInt a2.toInt (by omega) (by omega) (by rw [← hr_12, ← hr_14]; omega)]; omega)), (by first | omega | rfl | assumption | (rw [hk0, jSmK_0]) | (rw [show (0).toInt = (zz_none).toInt + 1 by omega, jSmK_s C a1.toInt a2.toInt (by omega) (by omega) (by rw [← hr_12, ← hr_14]; omega)]; omega))⟩) (by omega) _ (lv_sub hl [1, 2, 3, 4, 0] rfl)
      have C55 : ∀ (H_19 : Heap) (locs_19 : List Loc), jSt (dC, dI) B base G0 G0 EX13_isSame s.heap 0 0 [(r0, 15, 0, .ref zs), (r0, 15, 1, .ref zn), (r0, 15, 2, .ref za), (r0, 15, 3, .ref zb), (r0, 15, 4, .ref zc), (r0, 15, 14, .ref zy)] [(zs, 150, 120000, ca 1, C.s), (zn, 151, 120000, ca 1, C.n), (za, 152, 120000, ca 1, C.a), (zb, 153, 120000, ca 1, C.b), (zc, 154, 120000, ca 1, C.c), (zy, 165, 16, ca 1, C.y)] [] H_19 locs_19 → (7 ≤ jSo C.s a1.toInt ∧ jSo C.s a1.toInt ≤ 10) → ∀ ls : Array Slot, lv_has ls 5 [(0, .ref r0), (1, .int a1), (2, .int a2), (3, .int z_5)] → W p l e R s m ([.ref r0, .int a1, .int a2] : List Value).toArray below meth c H_19 locs_19 0 0 Q (F0 m 55 ls []) := by
        intro  H_19 locs_19 hh_19  hi_19 ls hl
        obtain ⟨hi_19_0, hi_19_1⟩ := hi_19
        refine lv_aload_n hx hb dX13_isSame_55 rfl (lv_at hl 0 rfl) ?_
        refine j7_read hx hb hown hK (C := RX13) (T := TX13) (N := 50) rfl hly_15_1 hlk_16 (hh_19.at 1 rfl) dX13_isSame_56 ?_
        refine lv_iload_n hx hb dX13_isSame_59 rfl (lv_at hl 1 rfl) ?_
        refine j7_ialdM hx hb hK hh_19 hB151 1 rfl (by decide) hg_zn (x := a1.toInt) (rfl) (by omega) (j := 1) rfl dX13_isSame_60 (fun z_20 ez_20 (hz_20 : True) => ?_)
        have hqz_20 : z_20.toInt = jSo C.n (a1.toInt) := by unfold jSo; rw [ez_20]
        refine lv_aload_n hx hb dX13_isSame_61 rfl (lv_at hl 0 rfl) ?_
        refine j7_read hx hb hown hK (C := RX13) (T := TX13) (N := 50) rfl hly_15_1 hlk_16 (hh_19.at 1 rfl) dX13_isSame_62 ?_
        refine lv_iload_n hx hb dX13_isSame_65 rfl (lv_at hl 2 rfl) ?_
        refine j7_ialdM hx hb hK hh_19 hB151 1 rfl (by decide) hg_zn (x := a2.toInt) (rfl) (by omega) (j := 1) rfl dX13_isSame_66 (fun z_21 ez_21 (hz_21 : True) => ?_)
        have hqz_21 : z_21.toInt = jSo C.n (a2.toInt) := by unfold jSo; rw [ez_21]
        refine lv_icmp_eq (tgt := 72) hx hb dX13_isSame_67 (by decide) (fun c_22 => ?_) (fun c_22 => ?_)
        · skip
          have c_22' : z_20.toInt = z_21.toInt := jb_eq (rfl) (rfl) c_22
          exact C72  _ _ hh_19 (by first | omega | rfl | assumption | decide | exact Or.inl rfl | exact Or.inr rfl | (simp only; omega)) _ (lv_sub hl [0, 1, 2, 3] rfl)
        · skip
          have c_22' : z_20.toInt ≠ z_21.toInt := jb_eq_n (rfl) (rfl) c_22
          refine lv_iconst (v := 0) hx hb dX13_isSame_70 (by decide) ?_
          rw [hQ]
          exact W.zret (v := 0) hx hb hr (jb_nz (Or.inl rfl)) (fun t ht hW => ⟨⟨0, (), rfl, ⟨(Or.inl rfl), by rw [hst]; first | (rw [if_pos (by omega)]; exact hk1) | (rw [if_neg (by omega), if_pos (by omega)]; exact hk0) | (rw [if_neg (by omega), if_neg (by omega), if_pos (by omega)]; exact hk0) | (rw [if_neg (by omega), if_neg (by omega), if_neg (by omega), jSmK_z C a1.toInt a2.toInt (k := (zz_none).toInt) (by omega) (by omega) (by omega) (by rw [← (zz_none), ← (zz_none)]; omega)]; exact hk0) | (rw [if_neg (by omega), if_neg (by omega), if_neg (by omega), show jPts C a1.toInt = (zz_none).toInt by omega]; omega)⟩, hh_19.rt (M1 := []) [] rfl ht⟩, by rw [ht]; try exact hh_19.1.1, fun q h9 hq => by rw [ht]; try exact hh_19.1.2.1 q h9 hq⟩) hh_19.1.2.2 dX13_isSame_71
      refine lv_icmp_eq (tgt := 55) hx hb dX13_isSame_34 (by decide) (fun c_23 => ?_) (fun c_23 => ?_)
      · skip
        have c_23' : z_5.toInt = 7 := jb_eq (rfl) ((by decide)) c_23
        exact C55  _ _ hh (by first | omega | (refine ⟨?_, ?_⟩ <;> (first | omega | rfl | assumption | decide | exact Or.inl rfl | exact Or.inr rfl | (simp only; omega)))) _ (lv_sub hl [1, 2, 3, 0] rfl)
      · skip
        have c_23' : z_5.toInt ≠ 7 := jb_eq_n (rfl) ((by decide)) c_23
        refine lv_iload_n hx hb dX13_isSame_37 rfl (lv_at hl 0 rfl) ?_
        refine lv_bipush (v := 8) hx hb dX13_isSame_38 (by decide) ?_
        refine lv_icmp_eq (tgt := 55) hx hb dX13_isSame_40 (by decide) (fun c_24 => ?_) (fun c_24 => ?_)
        · skip
          have c_24' : z_5.toInt = 8 := jb_eq (rfl) ((by decide)) c_24
          exact C55  _ _ hh (by first | omega | (refine ⟨?_, ?_⟩ <;> (first | omega | rfl | assumption | decide | exact Or.inl rfl | exact Or.inr rfl | (simp only; omega)))) _ (lv_sub hl [1, 2, 3, 0] rfl)
        · skip
          have c_24' : z_5.toInt ≠ 8 := jb_eq_n (rfl) ((by decide)) c_24
          refine lv_iload_n hx hb dX13_isSame_43 rfl (lv_at hl 0 rfl) ?_
          refine lv_bipush (v := 9) hx hb dX13_isSame_44 (by decide) ?_
          refine lv_icmp_eq (tgt := 55) hx hb dX13_isSame_46 (by decide) (fun c_25 => ?_) (fun c_25 => ?_)
          · skip
            have c_25' : z_5.toInt = 9 := jb_eq (rfl) ((by decide)) c_25
            exact C55  _ _ hh (by first | omega | (refine ⟨?_, ?_⟩ <;> (first | omega | rfl | assumption | decide | exact Or.inl rfl | exact Or.inr rfl | (simp only; omega)))) _ (lv_sub hl [1, 2, 3, 0] rfl)
          · skip
            have c_25' : z_5.toInt ≠ 9 := jb_eq_n (rfl) ((by decide)) c_25
            refine lv_iload_n hx hb dX13_isSame_49 rfl (lv_at hl 0 rfl) ?_
            refine lv_bipush (v := 10) hx hb dX13_isSame_50 (by decide) ?_
            refine lv_icmp_ne (tgt := 72) hx hb dX13_isSame_52 (by decide) (fun c_26 => ?_) (fun c_26 => ?_)
            · skip
              have c_26' : z_5.toInt ≠ 10 := jb_ne (rfl) ((by decide)) c_26
              exact C72  _ _ hh (by first | omega | rfl | assumption | decide | exact Or.inl rfl | exact Or.inr rfl | (simp only; omega)) _ (lv_sub hl [1, 2, 3, 0] rfl)
            · skip
              have c_26' : z_5.toInt = 10 := jb_ne_n (rfl) ((by decide)) c_26
              exact C55  _ _ hh (by first | omega | (refine ⟨?_, ?_⟩ <;> (first | omega | rfl | assumption | decide | exact Or.inl rfl | exact Or.inr rfl | (simp only; omega)))) _ (lv_sub hl [1, 2, 3, 0] rfl)
    · skip
      have c_4' : z_2.toInt ≠ z_3.toInt := jb_eq_n (rfl) (rfl) c_4
      refine lv_iconst (v := 0) hx hb dX13_isSame_22 (by decide) ?_
      rw [hQ]
      exact W.zret (v := 0) hx hb hr (jb_nz (Or.inl rfl)) (fun t ht hW => ⟨⟨0, (), rfl, ⟨(Or.inl rfl), by rw [hst]; first | (rw [if_pos (by omega)]; exact hk1) | (rw [if_neg (by omega), if_pos (by omega)]; exact hk0) | (rw [if_neg (by omega), if_neg (by omega), if_pos (by omega)]; exact hk0) | (rw [if_neg (by omega), if_neg (by omega), if_neg (by omega), jSmK_z C a1.toInt a2.toInt (k := (zz_none).toInt) (by omega) (by omega) (by omega) (by rw [← (zz_none), ← (zz_none)]; omega)]; exact hk0) | (rw [if_neg (by omega), if_neg (by omega), if_neg (by omega), show jPts C a1.toInt = (zz_none).toInt by omega]; omega)⟩, hh.rt (M1 := []) [] rfl ht⟩, by rw [ht]; try exact hh.1.1, fun q h9 hq => by rw [ht]; try exact hh.1.2.1 q h9 hq⟩) hh.1.2.2 dX13_isSame_23
  · skip
    have c_1' : a1.toInt = a2.toInt := jb_ne_n (rfl) (rfl) c_1
    refine lv_iconst (v := 1) hx hb dX13_isSame_5 (by decide) ?_
    rw [hQ]
    exact W.zret (v := 1) hx hb hr (jb_nz (Or.inr rfl)) (fun t ht hW => ⟨⟨1, (), rfl, ⟨(Or.inr rfl), by rw [hst]; first | (rw [if_pos (by omega)]; exact hk1) | (rw [if_neg (by omega), if_pos (by omega)]; exact hk0) | (rw [if_neg (by omega), if_neg (by omega), if_pos (by omega)]; exact hk0) | (rw [if_neg (by omega), if_neg (by omega), if_neg (by omega), jSmK_z C a1.toInt a2.toInt (k := (zz_none).toInt) (by omega) (by omega) (by omega) (by rw [← (zz_none), ← (zz_none)]; omega)]; exact hk0) | (rw [if_neg (by omega), if_neg (by omega), if_neg (by omega), show jPts C a1.toInt = (zz_none).toInt by omega]; omega)⟩, hh.rt (M1 := []) [] rfl ht⟩, by rw [ht]; try exact hh.1.1, fun q h9 hq => by rw [ht]; try exact hh.1.2.1 q h9 hq⟩) hh.1.2.2 dX13_isSame_6
theorem aX13_isSame (l : Launch) (dC : Nat → ClassId) (dI : Nat → Nat → Nat) (ca : Nat → ClassId) (base : Nat) (B : jF) (hB : jBok B) (hAp : jAp (dC, dI)) (hB15 : ∀ n G a H, B 15 n G a H ↔ jOb (dC, dI) 15 50 (F15 n G) a H) (hB150 : ∀ n G a H, B 150 n G a H ↔ jAr (dC, dI) (ca 1) (fun j z => True) n a H) (hB151 : ∀ n G a H, B 151 n G a H ↔ jAr (dC, dI) (ca 1) (fun j z => True) n a H) (hB152 : ∀ n G a H, B 152 n G a H ↔ jAr (dC, dI) (ca 1) (fun j z => True) n a H) (hB153 : ∀ n G a H, B 153 n G a H ↔ jAr (dC, dI) (ca 1) (fun j z => True) n a H) (hB154 : ∀ n G a H, B 154 n G a H ↔ jAr (dC, dI) (ca 1) (fun j z => True) n a H) (hB165 : ∀ n G a H, B 165 n G a H ↔ jAr (dC, dI) (ca 1) (fun j z => 0 ≤ z.toInt ∧ z.toInt ≤ 3) n a H) : ∀ ef, qX13_isSame l dC dI ca base B ef := fun ef => Nat.strongRecOn ef (fun e ih => fun G0 H0 r0 a1 a2 zs zn za zb zc zy C => uX13_isSame l dC dI ca base B hB hAp hB15 hB150 hB151 hB152 hB153 hB154 hB165 e ih G0 H0 r0 a1 a2 zs zn za zb zc zy C)
set_option maxHeartbeats 4000000 in
set_option maxRecDepth 20000 in
theorem uX13_hasBound (l : Launch) (dC : Nat → ClassId) (dI : Nat → Nat → Nat) (ca : Nat → ClassId) (base : Nat) (B : jF) (hB : jBok B) (hAp : jAp (dC, dI)) (hB15 : ∀ n G a H, B 15 n G a H ↔ jOb (dC, dI) 15 50 (F15 n G) a H) (hB150 : ∀ n G a H, B 150 n G a H ↔ jAr (dC, dI) (ca 1) (fun j z => True) n a H) (hB151 : ∀ n G a H, B 151 n G a H ↔ jAr (dC, dI) (ca 1) (fun j z => True) n a H) (hB152 : ∀ n G a H, B 152 n G a H ↔ jAr (dC, dI) (ca 1) (fun j z => True) n a H) (hB153 : ∀ n G a H, B 153 n G a H ↔ jAr (dC, dI) (ca 1) (fun j z => True) n a H) (hB154 : ∀ n G a H, B 154 n G a H ↔ jAr (dC, dI) (ca 1) (fun j z => True) n a H) (hB165 : ∀ n G a H, B 165 n G a H ↔ jAr (dC, dI) (ca 1) (fun j z => 0 ≤ z.toInt ∧ z.toInt ≤ 3) n a H) (d : Nat) (ih : ∀ d1, d1 < d → qX13_hasBound l dC dI ca base B d1) (G0 : jT) (H0 : Heap) (r0 : Nat) (a1 : Int32) (zs : Nat) (zn : Nat) (za : Nat) (zb : Nat) (zc : Nat) (zy : Nat) (C : jK) : Met l yX13_hasBound (jw yX13_hasBound cX13_hasBound 3 (some .boolean)) ({ frames := d + 3, cells := 0, slots := 0, locals := 40 * d + 200 }) (va_Pc [.ref r0, .int a1] (fun U => U.heap = H0 ∧ jX B base G0 [] H0 ∧ jG dC dI ca base U ∧ G0 r0 = some (15, 0) ∧ G0 zs = some (150, 120000) ∧ G0 zn = some (151, 120000) ∧ G0 za = some (152, 120000) ∧ G0 zb = some (153, 120000) ∧ G0 zc = some (154, 120000) ∧ G0 zy = some (165, 16) ∧ jP (dC, dI) G0 H0 [(r0, 15, 0, .ref zs), (r0, 15, 1, .ref zn), (r0, 15, 2, .ref za), (r0, 15, 3, .ref zb), (r0, 15, 4, .ref zc), (r0, 15, 14, .ref zy)] ∧ jMc (dC, dI) G0 H0 [(zs, 150, 120000, ca 1, C.s), (zn, 151, 120000, ca 1, C.n), (za, 152, 120000, ca 1, C.a), (zb, 153, 120000, ca 1, C.b), (zc, 154, 120000, ca 1, C.c), (zy, 165, 16, ca 1, C.y)] ∧ jTr C d a1.toInt ∧ d ≤ 2000)) (va_Qi (S := Unit) (fun r u => (r = 0 ∨ r = 1) ∧ ((r.toInt = 0 → jNbF C d a1.toInt))) (fun u t => jRt (dC, dI) B base G0 EX13_hasBound H0 [] t.heap) (jA base)) 0 0 (jA base) := by
  refine Met.ofW (cc := cX13_hasBound) (maxL := 3) (ret := (some .boolean)) (by decide) rfl ?_
  intro p e s m args below meth c s₁ Bd hml hv
  obtain ⟨rfl, hH0, hX, hG, hg_r0, hg_zs, hg_zn, hg_za, hg_zb, hg_zc, hg_zy, hP0, hM0, hp0, hp1⟩ := hv
  have hK := hG.1
  have hx := Bd.exec
  have hb := Bd.bytes
  have hr := Bd.returns
  have hts := atoms_spec (ws := (jw yX13_hasBound cX13_hasBound 3 (some .boolean))) Bd.pre
  have htw : ∀ w ∈ jWl, w.before _ s = true := fun w h => hts w (List.mem_cons_of_mem _ h)
  have hown : s.vm.findClass RX13 = some m.cls := findClass_of_methodNamed Bd.named
  have hlocks := Bd.notSynchronized
  obtain ⟨Q, hQ⟩ : ∃ Q, Q = MQ below (va_Qi (S := Unit) (fun r u => (r = 0 ∨ r = 1) ∧ ((r.toInt = 0 → jNbF C d a1.toInt))) (fun u t => jRt (dC, dI) B base G0 EX13_hasBound H0 [] t.heap) (jA base)) ([.ref r0, .int a1] : List Value).toArray s 0 0 (jA base) := ⟨_, rfl⟩
  rw [← hQ]
  have hl := lv_entry ([.ref r0, .int a1]) (n := 3) (Nat.le_of_ble_eq_true rfl)
  rw [lg_entry_eq]
  generalize (lg_sl ([.ref r0, .int a1]) ++ List.replicate (3 - (lg_sl ([.ref r0, .int a1])).length) Slot.unset).toArray = ls at hl ⊢
  have hl : lv_has ls 3 [(0, .ref r0), (1, .int a1)] := hl
  generalize hR : (headSpec (jw yX13_hasBound cX13_hasBound 3 (some .boolean)) ({ frames := d + 3, cells := 0, slots := 0, locals := 40 * d + 200 })).room = R
  subst hH0
  have hh : jSt (dC, dI) B base G0 G0 EX13_hasBound s.heap 0 0 [(r0, 15, 0, .ref zs), (r0, 15, 1, .ref zn), (r0, 15, 2, .ref za), (r0, 15, 3, .ref zb), (r0, 15, 4, .ref zc), (r0, 15, 14, .ref zy)] [(zs, 150, 120000, ca 1, C.s), (zn, 151, 120000, ca 1, C.n), (za, 152, 120000, ca 1, C.a), (zb, 153, 120000, ca 1, C.b), (zc, 154, 120000, ca 1, C.c), (zy, 165, 16, ca 1, C.y)] [] s.heap [] := jSt.start hX hP0 hM0 jIs.nil
  clear hX hP0
  have hk0 : (0 : Int32).toInt = 0 := by decide
  have hk1 : (1 : Int32).toInt = 1 := by decide
  have hk10 : (10 : Int32).toInt = 10 := by decide
  have hly_15_0 := htw (u_lay RX13 TX13 0) (jWc_wsX130 _ (u_in_lay (by decide)))
  have hlk_12 := (htw (.fieldLink RX13 12 "ProofServerModel$Kernel" "sort" "[I") (jWr_14 _ (List.mem_of_getElem? (i := 9) rfl)))
  have hrg_a1 := jb_rng a1
  obtain ⟨g1, g2, g3, g4, g5, g6, g7, g8⟩ := hp0.ok
  refine lv_aload_n hx hb dX13_hasBound_0 rfl (lv_at hl 0 rfl) ?_
  refine j7_read hx hb hown hK (C := RX13) (T := TX13) (N := 50) rfl hly_15_0 hlk_12 (hh.at 0 rfl) dX13_hasBound_1 ?_
  refine lv_iload_n hx hb dX13_hasBound_4 rfl (lv_at hl 1 rfl) ?_
  refine j7_ialdM hx hb hK hh hB150 1 rfl (by decide) hg_zs (x := a1.toInt) (rfl) (by omega) (j := 0) rfl dX13_hasBound_5 (fun z_1 ez_1 (hz_1 : True) => ?_)
  have hqz_1 : z_1.toInt = jSo C.s (a1.toInt) := by unfold jSo; rw [ez_1]
  refine lv_bipush (v := 10) hx hb dX13_hasBound_6 (by decide) ?_
  refine lv_icmp_ne (tgt := 13) hx hb dX13_hasBound_8 (by decide) (fun c_2 => ?_) (fun c_2 => ?_)
  · skip
    have c_2' : z_1.toInt ≠ 10 := jb_ne (rfl) ((by decide)) c_2
    refine lv_iconst (v := 0) hx hb dX13_hasBound_13 (by decide) ?_
    refine lv_istore_n (lv' := [(2, .int 0), (0, .ref r0), (1, .int a1)]) hx hb dX13_hasBound_14 rfl hl (by decide) rfl (fun ls hl => ?_)
    have L15 : ∀ (N : Nat) (v2_3 : Int32) (H_3 : Heap) (locs_3 : List Loc), jSt (dC, dI) B base G0 G0 EX13_hasBound s.heap 0 0 [(r0, 15, 0, .ref zs), (r0, 15, 1, .ref zn), (r0, 15, 2, .ref za), (r0, 15, 3, .ref zb), (r0, 15, 4, .ref zc), (r0, 15, 14, .ref zy)] [(zs, 150, 120000, ca 1, C.s), (zn, 151, 120000, ca 1, C.n), (za, 152, 120000, ca 1, C.a), (zb, 153, 120000, ca 1, C.b), (zc, 154, 120000, ca 1, C.c), (zy, 165, 16, ca 1, C.y)] [] H_3 locs_3 → (0 ≤ v2_3.toInt ∧ v2_3.toInt ≤ jPts C a1.toInt ∧ jNbK C (d - 1) a1.toInt v2_3.toInt) → (3 - v2_3.toInt : Int) < N → ∀ ls : Array Slot, lv_has ls 3 [(0, .ref r0), (1, .int a1), (2, .int v2_3)] → W p l e R s m ([.ref r0, .int a1] : List Value).toArray below meth c H_3 locs_3 0 0 Q (F0 m 15 ls []) := by
      intro N
      induction N with
      | zero => intro v2_3 H_3 locs_3 hh_3  hi_3 hm; exact absurd hm (by omega)
      | succ N L15 =>
        intro v2_3 H_3 locs_3 hh_3  hi_3 hm_3 ls hl
        obtain ⟨hi_3_0, hi_3_1, hi_3_2⟩ := hi_3
        refine lv_iload_n hx hb dX13_hasBound_15 rfl (lv_at hl 2 rfl) ?_
        refine lv_aload_n hx hb dX13_hasBound_16 rfl (lv_at hl 0 rfl) ?_
        refine lv_iload_n hx hb dX13_hasBound_17 rfl (lv_at hl 1 rfl) ?_
        refine va_calli (A0 := jA base) (H0 := s.heap) (va_runV (As := [.int a1]) (rest := [.int v2_3]) ⟨hx, hb, hml, hown, hts⟩ (uX13_parts l dC dI ca base B hB hAp hB15 hB150 hB151 hB152 hB153 hB154 hB165 G0 H_3 r0 a1 zs zn za zb zc zy C) (cwV 1 hts (jgV (jWr_65 _ (List.mem_of_getElem? (i := 15) rfl)) (jWr_65 _ (List.mem_of_getElem? (i := 16) rfl)) (jWr_65 _ (List.mem_of_getElem? (i := 17) rfl)) (jWr_12 _ (List.mem_of_getElem? (i := 12) rfl)) (jWr_65 _ (List.mem_of_getElem? (i := 18) rfl))) rfl rfl rfl (by decide +kernel) ⟨by rw [← hR]; show (0) + 1 ≤ d + 3; omega, by rw [← hR]; show 8 + (3 + 11) + (0) ≤ 40 * d + 200; omega⟩) ⟨fun a U g mk q => by obtain ⟨q0, q1, q2, qK, q10, q11, q12, q13, q14, q15, q16, q17, q18, q19⟩ := q; exact ⟨q0, q1, q2, jG.calling g mk a qK, q10, q11, q12, q13, q14, q15, q16, q17, q18, q19⟩, hh_3.recv (C := RX13) (T := TX13) (N := 50) hB15 rfl (by decide) hg_r0 hK, fun U hU hW => ⟨rfl, hU, hh_3.2.1, hG.step hW hU hh_3.1, hg_r0, hg_zs, hg_zn, hg_za, hg_zb, hg_zc, hg_zy, (hh_3.2.2.1.sub (L1 := [(r0, 15, 0, .ref zs), (r0, 15, 1, .ref zn), (r0, 15, 2, .ref za), (r0, 15, 3, .ref zb), (r0, 15, 4, .ref zc), (r0, 15, 14, .ref zy)]) [0, 1, 2, 3, 4, 5] rfl), (hh_3.2.2.2.2.2.2.2.1.sub (L1 := [(zs, 150, 120000, ca 1, C.s), (zn, 151, 120000, ca 1, C.n), (za, 152, 120000, ca 1, C.a), (zb, 153, 120000, ca 1, C.b), (zc, 154, 120000, ca 1, C.c), (zy, 165, 16, ca 1, C.y)]) [0, 1, 2, 3, 4, 5] rfl), by first | omega | (refine ⟨?_, ?_, ?_⟩ <;> (first | omega | rfl | assumption | decide | exact Or.inl rfl | exact Or.inr rfl | (simp only; omega)))⟩⟩ rfl rfl hl.1 rfl (lv_room (Nat.le_of_ble_eq_true rfl)) dX13_hasBound_18 ⟨Nat.zero_le _, Nat.zero_le _⟩) hh_3.1 (fun q _ h => h) (fun q h => h) (fun r_5 u_4 t_4 H_4 locs_4 ht_4 hvm_4 hr_5 hb_4 hz_4 hk_4 hS_4 => ?_)
        rw [ht_4] at hb_4
        obtain ⟨hb_41, hb_42, hb_43, hb_44, hb_45⟩ := hb_4
        have hh_4 : jSt (dC, dI) B base G0 G0 EX13_hasBound s.heap 0 0 [(r0, 15, 0, .ref zs), (r0, 15, 1, .ref zn), (r0, 15, 2, .ref za), (r0, 15, 3, .ref zb), (r0, 15, 4, .ref zc), (r0, 15, 14, .ref zy)] [(zs, 150, 120000, ca 1, C.s), (zn, 151, 120000, ca 1, C.n), (za, 152, 120000, ca 1, C.a), (zb, 153, 120000, ca 1, C.b), (zc, 154, 120000, ca 1, C.c), (zy, 165, 16, ca 1, C.y)] [] H_4 locs_4 := ((hh_3.call hb_41 hb_42 hb_43 hb_44 hS_4 rfl (L1 := [(r0, 15, 0, .ref zs), (r0, 15, 1, .ref zn), (r0, 15, 2, .ref za), (r0, 15, 3, .ref zb), (r0, 15, 4, .ref zc), (r0, 15, 14, .ref zy)]) [0, 1, 2, 3, 4, 5] rfl rfl (M1 := [(zs, 150, 120000, ca 1, C.s), (zn, 151, 120000, ca 1, C.n), (za, 152, 120000, ca 1, C.a), (zb, 153, 120000, ca 1, C.b), (zc, 154, 120000, ca 1, C.c), (zy, 165, 16, ca 1, C.y)]) [0, 1, 2, 3, 4, 5] rfl rfl (I1 := []) [] rfl rfl).more hb_45)
        clear hh_3 ht_4 hvm_4 hz_4 hk_4 hS_4 hb_41 hb_42 hb_43 hb_44 hb_45
        obtain ⟨hr_5_0, hr_5_1, hr_5_2⟩ := hr_5
        refine lv_icmp_ge (tgt := 45) hx hb dX13_hasBound_21 (by decide) (fun c_6 => ?_) (fun c_6 => ?_)
        · skip
          have c_6' : v2_3.toInt ≥ r_5.toInt := jb_ge (rfl) (rfl) c_6
          refine lv_iconst (v := 0) hx hb dX13_hasBound_45 (by decide) ?_
          rw [hQ]
          exact W.zret (v := 0) hx hb hr (jb_nz (Or.inl rfl)) (fun t ht hW => ⟨⟨0, (), rfl, ⟨(Or.inl rfl), by intro h9; first | exact absurd h9 (by omega) | exact jNbF_mk (by omega) (by omega) (by rw [show jPts C a1.toInt = v2_3.toInt by omega]; exact hi_3_2)⟩, hh_4.rt (M1 := []) [] rfl ht⟩, by rw [ht]; try exact hh_4.1.1, fun q h9 hq => by rw [ht]; try exact hh_4.1.2.1 q h9 hq⟩) hh_4.1.2.2 dX13_hasBound_46
        · skip
          have c_6' : v2_3.toInt < r_5.toInt := jb_ge_n (rfl) (rfl) c_6
          refine lv_aload_n hx hb dX13_hasBound_24 rfl (lv_at hl 0 rfl) ?_
          refine lv_aload_n hx hb dX13_hasBound_25 rfl (lv_at hl 0 rfl) ?_
          refine lv_iload_n hx hb dX13_hasBound_26 rfl (lv_at hl 1 rfl) ?_
          refine lv_iload_n hx hb dX13_hasBound_27 rfl (lv_at hl 2 rfl) ?_
          refine va_calli (A0 := jA base) (H0 := s.heap) (va_runV (As := [.int a1, .int v2_3]) (rest := [.ref r0]) ⟨hx, hb, hml, hown, hts⟩ (uX13_partK l dC dI ca base B hB hAp hB15 hB150 hB151 hB152 hB153 hB154 hB165 G0 H_4 r0 a1 v2_3 zs zn za zb zc zy C) (cwV 2 hts (jgV (jWr_65 _ (List.mem_of_getElem? (i := 19) rfl)) (jWr_65 _ (List.mem_of_getElem? (i := 20) rfl)) (jWr_65 _ (List.mem_of_getElem? (i := 21) rfl)) (jWr_12 _ (List.mem_of_getElem? (i := 12) rfl)) (jWr_65 _ (List.mem_of_getElem? (i := 22) rfl))) rfl rfl rfl (by decide +kernel) ⟨by rw [← hR]; show (0) + 1 ≤ d + 3; omega, by rw [← hR]; show 8 + (3 + 11) + (0) ≤ 40 * d + 200; omega⟩) ⟨fun a U g mk q => by obtain ⟨q0, q1, q2, qK, q10, q11, q12, q13, q14, q15, q16, q17, q18, q19⟩ := q; exact ⟨q0, q1, q2, jG.calling g mk a qK, q10, q11, q12, q13, q14, q15, q16, q17, q18, q19⟩, hh_4.recv (C := RX13) (T := TX13) (N := 50) hB15 rfl (by decide) hg_r0 hK, fun U hU hW => ⟨rfl, hU, hh_4.2.1, hG.step hW hU hh_4.1, hg_r0, hg_zs, hg_zn, hg_za, hg_zb, hg_zc, hg_zy, (hh_4.2.2.1.sub (L1 := [(r0, 15, 0, .ref zs), (r0, 15, 1, .ref zn), (r0, 15, 2, .ref za), (r0, 15, 3, .ref zb), (r0, 15, 4, .ref zc), (r0, 15, 14, .ref zy)]) [0, 1, 2, 3, 4, 5] rfl), (hh_4.2.2.2.2.2.2.2.1.sub (L1 := [(zs, 150, 120000, ca 1, C.s), (zn, 151, 120000, ca 1, C.n), (za, 152, 120000, ca 1, C.a), (zb, 153, 120000, ca 1, C.b), (zc, 154, 120000, ca 1, C.c), (zy, 165, 16, ca 1, C.y)]) [0, 1, 2, 3, 4, 5] rfl), by first | omega | (refine ⟨?_, ?_⟩ <;> (first | omega | rfl | assumption | decide | exact Or.inl rfl | exact Or.inr rfl | (simp only; omega)))⟩⟩ rfl rfl hl.1 rfl (lv_room (Nat.le_of_ble_eq_true rfl)) dX13_hasBound_28 ⟨Nat.zero_le _, Nat.zero_le _⟩) hh_4.1 (fun q _ h => h) (fun q h => h) (fun r_8 u_7 t_7 H_7 locs_7 ht_7 hvm_7 hr_8 hb_7 hz_7 hk_7 hS_7 => ?_)
          rw [ht_7] at hb_7
          obtain ⟨hb_71, hb_72, hb_73, hb_74, hb_75⟩ := hb_7
          have hh_7 : jSt (dC, dI) B base G0 G0 EX13_hasBound s.heap 0 0 [(r0, 15, 0, .ref zs), (r0, 15, 1, .ref zn), (r0, 15, 2, .ref za), (r0, 15, 3, .ref zb), (r0, 15, 4, .ref zc), (r0, 15, 14, .ref zy)] [(zs, 150, 120000, ca 1, C.s), (zn, 151, 120000, ca 1, C.n), (za, 152, 120000, ca 1, C.a), (zb, 153, 120000, ca 1, C.b), (zc, 154, 120000, ca 1, C.c), (zy, 165, 16, ca 1, C.y)] [] H_7 locs_7 := ((hh_4.call hb_71 hb_72 hb_73 hb_74 hS_7 rfl (L1 := [(r0, 15, 0, .ref zs), (r0, 15, 1, .ref zn), (r0, 15, 2, .ref za), (r0, 15, 3, .ref zb), (r0, 15, 4, .ref zc), (r0, 15, 14, .ref zy)]) [0, 1, 2, 3, 4, 5] rfl rfl (M1 := [(zs, 150, 120000, ca 1, C.s), (zn, 151, 120000, ca 1, C.n), (za, 152, 120000, ca 1, C.a), (zb, 153, 120000, ca 1, C.b), (zc, 154, 120000, ca 1, C.c), (zy, 165, 16, ca 1, C.y)]) [0, 1, 2, 3, 4, 5] rfl rfl (I1 := []) [] rfl rfl).more hb_75)
          clear hh_4 ht_7 hvm_7 hz_7 hk_7 hS_7 hb_71 hb_72 hb_73 hb_74 hb_75
          refine va_calli (A0 := jA base) (H0 := s.heap) (va_runV (As := [.int r_8]) (rest := []) ⟨hx, hb, hml, hown, hts⟩ (ih (d - 1) (by omega) G0 H_7 r0 r_8 zs zn za zb zc zy C) (cwV 1 hts (jgV (jWr_68 _ (List.mem_of_getElem? (i := 11) rfl)) (jWr_68 _ (List.mem_of_getElem? (i := 12) rfl)) (jWr_68 _ (List.mem_of_getElem? (i := 13) rfl)) (jWr_12 _ (List.mem_of_getElem? (i := 12) rfl)) (jWr_68 _ (List.mem_of_getElem? (i := 14) rfl))) rfl rfl rfl (by decide +kernel) ⟨by rw [← hR]; show (d - 1 + 3) + 1 ≤ d + 3; omega, by rw [← hR]; show 8 + (3 + 11) + (40 * (d - 1) + 200) ≤ 40 * d + 200; omega⟩) ⟨fun a U g mk q => by obtain ⟨q0, q1, q2, qK, q10, q11, q12, q13, q14, q15, q16, q17, q18, q19⟩ := q; exact ⟨q0, q1, q2, jG.calling g mk a qK, q10, q11, q12, q13, q14, q15, q16, q17, q18, q19⟩, hh_7.recv (C := RX13) (T := TX13) (N := 50) hB15 rfl (by decide) hg_r0 hK, fun U hU hW => ⟨rfl, hU, hh_7.2.1, hG.step hW hU hh_7.1, hg_r0, hg_zs, hg_zn, hg_za, hg_zb, hg_zc, hg_zy, (hh_7.2.2.1.sub (L1 := [(r0, 15, 0, .ref zs), (r0, 15, 1, .ref zn), (r0, 15, 2, .ref za), (r0, 15, 3, .ref zb), (r0, 15, 4, .ref zc), (r0, 15, 14, .ref zy)]) [0, 1, 2, 3, 4, 5] rfl), (hh_7.2.2.2.2.2.2.2.1.sub (L1 := [(zs, 150, 120000, ca 1, C.s), (zn, 151, 120000, ca 1, C.n), (za, 152, 120000, ca 1, C.a), (zb, 153, 120000, ca 1, C.b), (zc, 154, 120000, ca 1, C.c), (zy, 165, 16, ca 1, C.y)]) [0, 1, 2, 3, 4, 5] rfl), ⟨(by first | assumption | (rw [hr_8]; exact hp0.part (by omega) (by omega)) | omega), (by first | omega | rfl | assumption | (rw [hr_8]; exact hp0.part (by omega) (by omega)))⟩⟩⟩ rfl rfl hl.1 rfl (lv_room (Nat.le_of_ble_eq_true rfl)) dX13_hasBound_31 ⟨Nat.zero_le _, Nat.zero_le _⟩) hh_7.1 (fun q _ h => h) (fun q h => h) (fun r_10 u_9 t_9 H_9 locs_9 ht_9 hvm_9 hr_10 hb_9 hz_9 hk_9 hS_9 => ?_)
          rw [ht_9] at hb_9
          obtain ⟨hb_91, hb_92, hb_93, hb_94, hb_95⟩ := hb_9
          have hh_9 : jSt (dC, dI) B base G0 G0 EX13_hasBound s.heap 0 0 [(r0, 15, 0, .ref zs), (r0, 15, 1, .ref zn), (r0, 15, 2, .ref za), (r0, 15, 3, .ref zb), (r0, 15, 4, .ref zc), (r0, 15, 14, .ref zy)] [(zs, 150, 120000, ca 1, C.s), (zn, 151, 120000, ca 1, C.n), (za, 152, 120000, ca 1, C.a), (zb, 153, 120000, ca 1, C.b), (zc, 154, 120000, ca 1, C.c), (zy, 165, 16, ca 1, C.y)] [] H_9 locs_9 := ((hh_7.call hb_91 hb_92 hb_93 hb_94 hS_9 rfl (L1 := [(r0, 15, 0, .ref zs), (r0, 15, 1, .ref zn), (r0, 15, 2, .ref za), (r0, 15, 3, .ref zb), (r0, 15, 4, .ref zc), (r0, 15, 14, .ref zy)]) [0, 1, 2, 3, 4, 5] rfl rfl (M1 := [(zs, 150, 120000, ca 1, C.s), (zn, 151, 120000, ca 1, C.n), (za, 152, 120000, ca 1, C.a), (zb, 153, 120000, ca 1, C.b), (zc, 154, 120000, ca 1, C.c), (zy, 165, 16, ca 1, C.y)]) [0, 1, 2, 3, 4, 5] rfl rfl (I1 := []) [] rfl rfl).more hb_95)
          clear hh_7 ht_9 hvm_9 hz_9 hk_9 hS_9 hb_91 hb_92 hb_93 hb_94 hb_95
          obtain ⟨hr_10b, hr_10p⟩ := hr_10
          have hr_10' := jb_01 hr_10b
          refine lv_if_eq (tgt := 39) hx hb dX13_hasBound_34 (by decide) (fun c_11 => ?_) (fun c_11 => ?_)
          · skip
            have c_11' : r_10.toInt = 0 := jb_eq (rfl) ((by decide)) c_11
            obtain ⟨z_12, ez_12⟩ : ∃ y : Int32, y = v2_3 + 1 := ⟨_, rfl⟩
            refine lv_iinc (v := z_12) (lv' := [(2, .int z_12), (0, .ref r0), (1, .int a1)]) hx hb dX13_hasBound_39 hl (k := 2) rfl (by rw [ez_12]; rfl) (by decide) rfl (fun ls hl => ?_)
            have hz_12 : z_12.toInt = v2_3.toInt + 1 := by rw [ez_12]; exact jb_iadd2 (rfl) (by decide) (by omega)
            refine lv_goto (tgt := 15) hx hb dX13_hasBound_42 (by decide) ?_
            exact L15 z_12 _ _ hh_9 (⟨(by first | omega | rfl | assumption | (rw [hk0]; exact jNbK_0 _ _ _) | (rw [show (z_12).toInt = v2_3.toInt + 1 by omega]; exact jNbK_s hi_3_2 (by rw [← hr_8]; exact hr_10p (by omega)))), (by first | omega | rfl | assumption | (rw [hk0]; exact jNbK_0 _ _ _) | (rw [show (z_12).toInt = v2_3.toInt + 1 by omega]; exact jNbK_s hi_3_2 (by rw [← hr_8]; exact hr_10p (by omega)))), (by first | assumption | (rw [hk0]; exact jNbK_0 _ _ _) | (rw [show (z_12).toInt = v2_3.toInt + 1 by omega]; exact jNbK_s hi_3_2 (by rw [← hr_8]; exact hr_10p (by omega))) | omega)⟩) (by omega) _ (lv_sub hl [1, 2, 0] rfl)
          · skip
            have c_11' : r_10.toInt ≠ 0 := jb_eq_n (rfl) ((by decide)) c_11
            refine lv_iconst (v := 1) hx hb dX13_hasBound_37 (by decide) ?_
            rw [hQ]
            exact W.zret (v := 1) hx hb hr (jb_nz (Or.inr rfl)) (fun t ht hW => ⟨⟨1, (), rfl, ⟨(Or.inr rfl), by intro h9; first | exact absurd h9 (by omega) | exact jNbF_mk (by omega) (by omega) (by rw [show jPts C a1.toInt = v2_3.toInt by omega]; exact hi_3_2)⟩, hh_9.rt (M1 := []) [] rfl ht⟩, by rw [ht]; try exact hh_9.1.1, fun q h9 hq => by rw [ht]; try exact hh_9.1.2.1 q h9 hq⟩) hh_9.1.2.2 dX13_hasBound_38
    exact L15 (3 - (0 : Int32).toInt : Int).toNat.succ 0 _ _ hh (⟨(by first | omega | rfl | assumption | (rw [hk0]; exact jNbK_0 _ _ _) | (rw [show (0).toInt = (zz_none).toInt + 1 by omega]; exact jNbK_s (zz_none) (by rw [← hr_8]; exact hr_10p (by omega)))), (by first | omega | rfl | assumption | (rw [hk0]; exact jNbK_0 _ _ _) | (rw [show (0).toInt = (zz_none).toInt + 1 by omega]; exact jNbK_s (zz_none) (by rw [← hr_8]; exact hr_10p (by omega)))), (by first | assumption | (rw [hk0]; exact jNbK_0 _ _ _) | (rw [show (0).toInt = (zz_none).toInt + 1 by omega]; exact jNbK_s (zz_none) (by rw [← hr_8]; exact hr_10p (by omega))) | omega)⟩) (by omega) _ (lv_sub hl [1, 2, 0] rfl)
  · skip
    have c_2' : z_1.toInt = 10 := jb_ne_n (rfl) ((by decide)) c_2
    refine lv_iconst (v := 1) hx hb dX13_hasBound_11 (by decide) ?_
    rw [hQ]
    exact W.zret (v := 1) hx hb hr (jb_nz (Or.inr rfl)) (fun t ht hW => ⟨⟨1, (), rfl, ⟨(Or.inr rfl), by intro h9; first | exact absurd h9 (by omega) | exact jNbF_mk (by omega) (by omega) (by rw [show jPts C a1.toInt = (zz_none).toInt by omega]; exact (zz_none))⟩, hh.rt (M1 := []) [] rfl ht⟩, by rw [ht]; try exact hh.1.1, fun q h9 hq => by rw [ht]; try exact hh.1.2.1 q h9 hq⟩) hh.1.2.2 dX13_hasBound_12
theorem aX13_hasBound (l : Launch) (dC : Nat → ClassId) (dI : Nat → Nat → Nat) (ca : Nat → ClassId) (base : Nat) (B : jF) (hB : jBok B) (hAp : jAp (dC, dI)) (hB15 : ∀ n G a H, B 15 n G a H ↔ jOb (dC, dI) 15 50 (F15 n G) a H) (hB150 : ∀ n G a H, B 150 n G a H ↔ jAr (dC, dI) (ca 1) (fun j z => True) n a H) (hB151 : ∀ n G a H, B 151 n G a H ↔ jAr (dC, dI) (ca 1) (fun j z => True) n a H) (hB152 : ∀ n G a H, B 152 n G a H ↔ jAr (dC, dI) (ca 1) (fun j z => True) n a H) (hB153 : ∀ n G a H, B 153 n G a H ↔ jAr (dC, dI) (ca 1) (fun j z => True) n a H) (hB154 : ∀ n G a H, B 154 n G a H ↔ jAr (dC, dI) (ca 1) (fun j z => True) n a H) (hB165 : ∀ n G a H, B 165 n G a H ↔ jAr (dC, dI) (ca 1) (fun j z => 0 ≤ z.toInt ∧ z.toInt ≤ 3) n a H) : ∀ ef, qX13_hasBound l dC dI ca base B ef := fun ef => Nat.strongRecOn ef (fun e ih => fun G0 H0 r0 a1 zs zn za zb zc zy C => uX13_hasBound l dC dI ca base B hB hAp hB15 hB150 hB151 hB152 hB153 hB154 hB165 e ih G0 H0 r0 a1 zs zn za zb zc zy C)
end
