-- new objects: raw while they are made, typed when they are whole
def jFx : List (Value → Prop) → List Value → Prop
  | [], _ => True
  | _ :: _, [] => False
  | p :: P, v :: fs => p v ∧ jFx P fs
theorem jFx.at : ∀ (P : List (Value → Prop)) (fs : List Value), jFx P fs → ∀ (i : Nat) (p : Value → Prop), P[i]? = some p → p (vp_V fs i)
  | [], _, _, i, p, hp => by simp at hp
  | q :: P, [], h, i, p, hp => by simp [jFx] at h
  | q :: P, v :: fs, h, i, p, hp => by
    obtain ⟨h1, h2⟩ := h
    cases i with
    | zero =>
      have e : q = p := by simpa using hp
      rw [← e]; exact h1
    | succ j =>
      have e : P[j]? = some p := by simpa using hp
      exact jFx.at P fs h2 j p e
theorem jLe.typ {G : jT} {a : Nat} {t : Option (Nat × Nat)} (hn : ∀ t, G a ≠ some t) : jLe G (va_up G a t) := fun b u hb => by
  have hne : b ≠ a := fun e => hn u (by rw [← e]; exact hb)
  rw [va_up_ne _ _ hne]; exact hb
/-- the cells that were there are as they were, and have the kinds that they had -/
def jKe (G0 G : jT) (H0 H : Heap) : Prop := (∀ q, q < H0.size → H[q]? = H0[q]?) ∧ ∀ q t, q < H0.size → G q = some t → G0 q = some t
/-- the same, but for one -/
def jKx (r : Nat) (G0 G : jT) (H0 H : Heap) : Prop := (∀ q, q < H0.size → q ≠ r → H[q]? = H0[q]?) ∧ ∀ q t, q < H0.size → q ≠ r → G q = some t → G0 q = some t
theorem jKe.rf {G : jT} {H : Heap} : jKe G G H H := ⟨fun _ _ => rfl, fun _ _ _ h => h⟩
theorem jKx.rf {r : Nat} {G : jT} {H : Heap} : jKx r G G H H := ⟨fun _ _ _ => rfl, fun _ _ _ _ h => h⟩
theorem jLtz {H0 H : Heap} {q : Nat} (h : q < H0.size) (e : H[q]? = H0[q]?) : q < H.size := by
  rw [Array.getElem?_eq_getElem h] at e
  exact (Array.getElem?_eq_some_iff.mp e).1
theorem jKe.tr {G0 G G1 : jT} {H0 H H1 : Heap} (h : jKe G0 G H0 H) (h1 : jKe G G1 H H1) : jKe G0 G1 H0 H1 :=
  ⟨fun q hq => (h1.1 q (jLtz hq (h.1 q hq))).trans (h.1 q hq), fun q t hq hg => h.2 q t hq (h1.2 q t (jLtz hq (h.1 q hq)) hg)⟩
theorem jKx.tr {r : Nat} {G0 G G1 : jT} {H0 H H1 : Heap} (h : jKx r G0 G H0 H) (h1 : jKe G G1 H H1) : jKx r G0 G1 H0 H1 :=
  ⟨fun q hq hn => (h1.1 q (jLtz hq (h.1 q hq hn))).trans (h.1 q hq hn), fun q t hq hn hg => h.2 q t hq hn (h1.2 q t (jLtz hq (h.1 q hq hn)) hg)⟩
/-- an inner constructor, whose object came later -/
theorem jKx.in {r a : Nat} {G0 G G1 : jT} {H0 H H1 : Heap} (h : jKx r G0 G H0 H) (h1 : jKx a G G1 H H1) (ha : H0.size ≤ a) : jKx r G0 G1 H0 H1 :=
  ⟨fun q hq hn => (h1.1 q (jLtz hq (h.1 q hq hn)) (by omega)).trans (h.1 q hq hn), fun q t hq hn hg => h.2 q t hq hn (h1.2 q t (jLtz hq (h.1 q hq hn)) (by omega) hg)⟩
theorem jKe.in {a : Nat} {G0 G G1 : jT} {H0 H H1 : Heap} (h : jKe G0 G H0 H) (h1 : jKx a G G1 H H1) (ha : H0.size ≤ a) : jKe G0 G1 H0 H1 :=
  ⟨fun q hq => (h1.1 q (jLtz hq (h.1 q hq)) (by omega)).trans (h.1 q hq), fun q t hq hg => h.2 q t hq (h1.2 q t (jLtz hq (h.1 q hq)) (by omega) hg)⟩
theorem jKx.put {r : Nat} {G0 G : jT} {H0 H H1 : Heap} (h : jKx r G0 G H0 H) (hr : ∀ q, q ≠ r → H1[q]? = H[q]?) : jKx r G0 G H0 H1 := ⟨fun q hq hn => (hr q hn).trans (h.1 q hq hn), h.2⟩
theorem jKx.typ {r : Nat} {G0 G : jT} {H0 H : Heap} {t : Option (Nat × Nat)} (h : jKx r G0 G H0 H) : jKx r G0 (va_up G r t) H0 H := ⟨h.1, fun q t hq hn hg => h.2 q t hq hn (by rw [va_up_ne _ _ hn] at hg; exact hg)⟩
theorem jKe.new {G : jT} {H H1 : Heap} {t : Option (Nat × Nat)} (hfr : ∀ q, q < H.size → H1[q]? = H[q]?) : jKe G (va_up G H.size t) H H1 := ⟨hfr, fun q t hq hg => by rw [va_up_ne _ _ (Nat.ne_of_lt hq)] at hg; exact hg⟩
theorem jKe.raw {G : jT} {H H1 : Heap} (hfr : ∀ q, q < H.size → H1[q]? = H[q]?) : jKe G G H H1 := ⟨hfr, fun _ _ _ h => h⟩
theorem jKe.nr {G G1 : jT} {H H1 : Heap} {a : Nat} (h : jKe G G1 H H1) (hlt : a < H.size) (hn : ∀ t, G a ≠ some t) : ∀ t, G1 a ≠ some t := fun t e => hn t (h.2 a t hlt e)
theorem jKe.st {G : jT} {H0 H H1 : Heap} {G0 : jT} {a : Nat} (h : jKe G0 G H0 H) (ha : H0.size ≤ a) (hr : ∀ q, q ≠ a → H1[q]? = H[q]?) : jKe G0 G H0 H1 := ⟨fun q hq => (hr q (by omega)).trans (h.1 q hq), h.2⟩
section J20
variable {p : Program} {l : Launch} {e : Env} {R : Room} {s : State} {m : MethodId} {args : Array Value} {below : List Frame} {meth : Method} {c : Code} {H : Heap} {locs : List Loc} {cells slots : Nat} {Q : State → Prop}
variable {cc : ByteArray} {pc : Nat} {ls : Array Slot} {rest : List Value} {dC : Nat → ClassId} {dI : Nat → Nat → Nat} {ca : Nat → ClassId} {B : jF} {base : Nat} {G0 G : jT} {E : List (Nat × Nat)} {H0 : Heap} {zc zs : Nat} {L : List jPin} {M : List jCt} {I : List jIv} {a k n i index N : Nat} {tys : List (ClassId × FieldType)} {own C : String} {T : u_T} {fs : List Value}
theorem jX.oth {B : jF} {base : Nat} {G : jT} {H H1 : Heap} (h : jX B base G [] H) (hB : jBok B) (hk : ∀ b t, G b = some t → H1[b]? = H[b]?) (hsz : H.size ≤ H1.size) : jX B base G [] H1 :=
  ⟨fun b k n hb h1 hx => hB.1 k n G b H H1 (fun q hq => by
    rcases hq with e | ⟨i, e⟩
    · rw [e]; exact hk b _ hb
    · exact hk q _ e) (h.1 b k n hb h1 hx), fun b t hb => ⟨(h.2 b t hb).1, Nat.lt_of_lt_of_le (h.2 b t hb).2 hsz⟩⟩
theorem jSt.oth (hh : jSt (dC, dI) B base G0 G E H0 zc zs L M I H locs) (hB : jBok B) {H1 : Heap} {locs1 : List Loc} {wc ws : Nat} (hk : ∀ b t, G b = some t → H1[b]? = H[b]?) (hS : va_S (jA base) H0 H1 locs1) (hsz : H.size ≤ H1.size) (hz : H1.size ≤ H.size + wc) (ht : jTot H1 ≤ jTot H + ws) : jSt (dC, dI) B base G0 G E H0 (zc + wc) (zs + ws) L M I H1 locs1 := by
  obtain ⟨h1, h2, h3, h4, h5, h6, h7, h8, h9⟩ := hh
  refine ⟨hS, h2.oth hB hk hsz, fun q hq => ?_, ⟨fun b kb nb ib v hb he hf => (h4.1 b kb nb ib v hb he hf).kept (hk b _ (h5 _ _ hb)), fun b kb nb hb g1 g2 he => (hk b _ (h5 _ _ hb)).trans (h4.2 b kb nb hb g1 g2 he)⟩, h5, by omega, by omega, fun q hq => ?_, h9.ag (fun q hq => ⟨fun b kb nb ib v hb _ hf => hf.kept (hk b _ hb), fun b kb nb hb _ _ _ => hk b _ hb⟩)⟩
  · obtain ⟨⟨nq, g1⟩, g2⟩ := h3 q hq
    exact ⟨⟨nq, g1⟩, g2.kept (hk _ _ g1)⟩
  · obtain ⟨g1, g2, g3, g4⟩ := h8 q hq
    exact ⟨g1, g2, g3, g4.kept (hk _ _ g1)⟩
/-- a write to a cell that has no kind -/
theorem jSt.rawput (hh : jSt (dC, dI) B base G0 G E H0 zc zs L M I H locs) (hB : jBok B) (hn : ∀ t, G a ≠ some t) (hba : base ≤ a) {H1 : Heap} {locs1 : List Loc} (hsz : H1.size = H.size) (hfr : ∀ q, q ≠ a → H1[q]? = H[q]?) (ht : jTot H1 = jTot H) (hL : ∀ q ∈ locs1, base ≤ q.base) : jSt (dC, dI) B base G0 G E H0 zc zs L M I H1 locs1 :=
  hh.oth (wc := 0) (ws := 0) hB (fun b t hb => hfr b (fun e => hn t (by rw [← e]; exact hb))) (jS_put hh.1 hsz hfr hba hL) (by omega) (by omega) (by omega)
/-- a new cell that has no kind yet -/
theorem jSt.newR (hh : jSt (dC, dI) B base G0 G E H0 zc zs L M I H locs) (hB : jBok B) {H1 : Heap} (hsz : H1.size = H.size + 1) (hfr : ∀ q, q < H.size → H1[q]? = H[q]?) {w : Nat} (hT : jTot H1 = jTot H + w) : jSt (dC, dI) B base G0 G E H0 (zc + 1) (zs + w) L M I H1 locs :=
  hh.oth hB (fun b t hb => hfr b (hh.2.1.2 b t hb).2) ⟨by rw [hsz]; exact Nat.le_succ_of_le hh.1.1, fun q g1 g2 => (hfr q (Nat.lt_of_lt_of_le g1 hh.1.1)).trans (hh.1.2.1 q g1 g2), hh.1.2.2⟩ (by omega) (by omega) (by omega)
/-- the cell gets its kind -/
theorem jSt.typ (hh : jSt (dC, dI) B base G0 G E H0 zc zs L M I H locs) (hB : jBok B) (hn : ∀ t, G a ≠ some t) (hba : base ≤ a) (hlt : a < H.size) (hb : B k n (va_up G a (some (k, n))) a H) : jSt (dC, dI) B base G0 (va_up G a (some (k, n))) E H0 zc zs L M I H locs := by
  obtain ⟨h1, h2, h3, h4, h5, h6, h7, h8, h9⟩ := hh
  have hg : G a = none := by
    cases h : G a with
    | none => rfl
    | some t => exact absurd h (hn t)
  have hle : jLe G (va_up G a (some (k, n))) := fun b t hb => by
    have hne : b ≠ a := fun e => by rw [e, hg] at hb; cases hb
    rw [va_up_ne _ _ hne]; exact hb
  refine ⟨h1, ⟨fun b kb nb hb1 hk1 hx => ?_, fun b t hb1 => ?_⟩, h3.lift hle, h4, h5.tr hle, h6, h7, h8.lift hle, h9.lift hle⟩
  · by_cases e : b = a
    · subst e
      rw [jUp_self] at hb1
      cases hb1
      exact hb
    · rw [va_up_ne _ _ e] at hb1
      exact hB.2 kb nb G _ b H hle (h2.1 b kb nb hb1 hk1 hx)
  · by_cases e : b = a
    · subst e; exact ⟨hba, hlt⟩
    · rw [va_up_ne _ _ e] at hb1
      exact h2.2 b t hb1
theorem jOb.of {F : Nat → jT → List (Value → Prop)} (hBk : ∀ n G a H, B k n G a H ↔ jOb (dC, dI) k N (F n G) a H) (hc : vwCl[k]? = some (C, T, N)) (h : va_at (dC, dI) vwCl (a, .inr (k, fs)) H) (hF : jFx (F n G) fs) : B k n G a H := by
  obtain ⟨r, h1, h2⟩ := h
  have hr : r = (C, T, N) := Option.some.inj (h1.symm.trans hc)
  subst hr
  exact (hBk _ _ _ _).mpr ⟨vp_V fs, h2, fun i p hp => jFx.at _ _ hF i p hp⟩
/-- the fields of a cell that has just got its kind -/
theorem jf.raw (hc : vwCl[k]? = some (C, T, N)) (h : va_at (dC, dI) vwCl (a, .inr (k, fs)) H) (hi : i < N) : jf (dC, dI) k a i (vp_V fs i) H := by
  obtain ⟨r, h1, cell, q1, q2, q3, q4⟩ := h
  have hr : r = (C, T, N) := Option.some.inj (h1.symm.trans hc)
  subst hr
  exact ⟨_, hc, hi, cell, q1, q2, q3, q4 i hi⟩
theorem j7_newo {Ts : List Cond} (hexec : p.tables.exec = Jvm.exec) (hb : c.code = cc) (hts : ∀ w ∈ Ts, w.before args s = true) (hin : ∀ w ∈ u_ws C T N, w ∈ Ts) (ty : Nat → FieldType) (hty : ∀ k, k < N → parseFieldDescriptor (T k).2.2.1 = some (ty k)) (hown : s.vm.findClass own = some m.cls) (hcl : (Cond.classLink own index C).before args s = true) (hinst : (Cond.instantiable C N).before args s = true) (hini : (Cond.initialized C).before args s = true)
    (hK : va_K (dC, dI) vwCl tys s) (hc : vwCl[k]? = some (C, T, N)) (hfs : ∀ j, j < N → defaultValue (ty j) = vp_V fs j) (hh : jSt (dC, dI) B base G0 G E s.heap zc zs L M I H locs) (hB : jBok B) (hR : zc + 1 ≤ R.cells) (hR2 : zs + N ≤ R.slots) (hdg : decode cc pc = .ok (.new index, 3))
    (kk : ∀ H1 : Heap, va_at (dC, dI) vwCl (H.size, .inr (k, fs)) H1 → (∀ q, q < H.size → H1[q]? = H[q]?) → (∀ t, G H.size ≠ some t) → jSt (dC, dI) B base G0 G E s.heap (zc + 1) (zs + N) L M I H1 locs → W p l e R s m args below meth c H1 locs (zc + 1) (zs + N) Q (F0 m (pc + 3) ls (.ref H.size :: rest))) : W p l e R s m args below meth c H locs cells slots Q (F0 m pc ls rest) := by
  refine W.tight (c2 := zc) (n2 := zs) hh.2.2.2.2.2.1 hh.2.2.2.2.2.2.1 ?_
  refine j_new (D := (dC, dI)) (cl := vwCl) hexec hb hts hin ty hty hown hcl hinst hini hK hc hfs hR hR2 hdg (fun H1 hat hz hfr hT => ?_)
  exact kk H1 hat hfr (fun t => by rw [hh.2.1.fresh]; exact fun h => by cases h) (hh.newR hB hz hfr hT)
theorem j7_putR (hexec : p.tables.exec = Jvm.exec) (hb : c.code = cc) (hown : s.vm.findClass own = some m.cls) (hK : va_K (dC, dI) vwCl tys s) (hh : jSt (dC, dI) B base G0 G E H0 zc zs L M I H locs) (hB : jBok B) (hAp : jAp (dC, dI)) (hraw : va_at (dC, dI) vwCl (a, .inr (k, fs)) H) (hn : ∀ t, G a ≠ some t) (hba : base ≤ a) (hc : vwCl[k]? = some (C, T, N)) (hi : i < N) (hl : i < fs.length) (hlay : (u_lay C T i).before args s = true) (hfin : (T i).2.2.2 = false) (hlink : (Cond.fieldLink own index (T i).1 (T i).2.1 (T i).2.2.1).before args s = true) {ty : FieldType} {v : Value} (hd : parseFieldDescriptor (T i).2.2.1 = some ty) (hnar : narrow ty v = v) (hfit : fits ty v = true) (hdg : decode cc pc = .ok (.putfield index, 3))
    (kk : ∀ (H1 : Heap) (locs1 : List Loc), va_at (dC, dI) vwCl (a, .inr (k, fs.set i v)) H1 → (∀ q, q ≠ a → H1[q]? = H[q]?) → jSt (dC, dI) B base G0 G E H0 zc zs L M I H1 locs1 → W p l e R s m args below meth c H1 locs1 cells slots Q (F0 m (pc + 3) ls rest)) : W p l e R s m args below meth c H locs cells slots Q (F0 m pc ls (v :: .ref a :: rest)) := by
  obtain ⟨r, h1, cell, q1, q2, q3, q4⟩ := hraw
  have hr : r = (C, T, N) := Option.some.inj (h1.symm.trans hc)
  subst hr
  obtain ⟨hS, hfc, kC, hkC, hkind⟩ := hK.1 k _ hc
  obtain ⟨cf, kf, fi, f, hfi, hsl⟩ := hS i hi
  have hst := (u_facts hfc hkC (j7_lay hlay) hfi).1
  unfold u_lay at hlay
  rw [if_neg (by rw [hfin]; decide)] at hlay
  have h6 := u_store hfc hkC hkind hlay hfi hd hnar hfit
  have hap : ∀ x y, x < N → y < N → x ≠ y → dI k x ≠ dI k y := fun x y hx hy => hAp k _ hc x y hx hy
  refine W.putK hexec hb (f := f) ⟨hown, hlink, ⟨_, _, _, hfi⟩, hst⟩ (by rw [q2]; exact h6) q1 q3 (by rw [hsl]; exact k2_hasslot (q4 i hi)) rfl rfl hdg fun H1 e1 e2 e3 => ?_
  rw [hsl] at e1 ⊢
  refine kk H1 _ ⟨_, hc, t_OB.to (V := updV (vp_V fs) i v) ⟨_, e1, q2, q3, t_set q4 hap hi v⟩ (fun j _ => vp_updV_set hl v j)⟩ e3 (hh.rawput hB hn hba e2 e3 (jTot_set e2 q1 e1 (jSet_sz _ _ _) e3) (fun q hq => ?_))
  rcases List.mem_append.mp hq with h | h
  · exact hh.1.2.2 q h
  · cases List.mem_singleton.mp h; exact hba
theorem j7_putRF (hexec : p.tables.exec = Jvm.exec) (hb : c.code = cc) (hown : s.vm.findClass own = some m.cls) (hK : va_K (dC, dI) vwCl tys s) (hh : jSt (dC, dI) B base G0 G E H0 zc zs L M I H locs) (hB : jBok B) (hAp : jAp (dC, dI)) (hraw : va_at (dC, dI) vwCl (a, .inr (k, fs)) H) (hn : ∀ t, G a ≠ some t) (hba : base ≤ a) (hc : vwCl[k]? = some (C, T, N)) (hi : i < N) (hl : i < fs.length) (hlay : (u_lay C T i).before args s = true) (hfin : (T i).2.2.2 = true) (hin2 : meth.name = "<init>") (hdecl : (T i).1 = own) (hlink : (Cond.fieldLink own index (T i).1 (T i).2.1 (T i).2.2.1).before args s = true) {ty : FieldType} {v : Value} (hd : parseFieldDescriptor (T i).2.2.1 = some ty) (hnar : narrow ty v = v) (hfit : fits ty v = true) (hdg : decode cc pc = .ok (.putfield index, 3))
    (kk : ∀ (H1 : Heap) (locs1 : List Loc), va_at (dC, dI) vwCl (a, .inr (k, fs.set i v)) H1 → (∀ q, q ≠ a → H1[q]? = H[q]?) → jSt (dC, dI) B base G0 G E H0 zc zs L M I H1 locs1 → W p l e R s m args below meth c H1 locs1 cells slots Q (F0 m (pc + 3) ls rest)) : W p l e R s m args below meth c H locs cells slots Q (F0 m pc ls (v :: .ref a :: rest)) := by
  obtain ⟨r, h1, cell, q1, q2, q3, q4⟩ := hraw
  have hr : r = (C, T, N) := Option.some.inj (h1.symm.trans hc)
  subst hr
  obtain ⟨hS, hfc, kC, hkC, hkind⟩ := hK.1 k _ hc
  obtain ⟨cf, kf, fi, f, hfi, hsl⟩ := hS i hi
  have hst := (u_facts hfc hkC (j7_lay hlay) hfi).1
  unfold u_lay at hlay
  rw [if_pos hfin] at hlay
  have hcf : m.cls = cf := by
    obtain ⟨_, _, c', _, _, _, -, -, hf', -, -, -, hown2, -⟩ := Cond.laysFinal_spec hlay
    have e1 : c' = cf := by have := hfi.symm.trans hf'; simp at this; exact this.1.symm
    rw [hdecl] at hown2
    rw [← e1]; exact Option.some.inj (hown.symm.trans hown2)
  have h6 := u_fits hfc hkC hkind (Or.inr hlay) hfi hd hnar hfit
  have hap : ∀ x y, x < N → y < N → x ≠ y → dI k x ≠ dI k y := fun x y hx hy => hAp k _ hc x y hx hy
  refine W.putFinK hexec hb hown hlink hfi hst hcf hin2 (by rw [q2]; exact h6) q1 q3 (by rw [hsl]; exact k2_hasslot (q4 i hi)) rfl rfl hdg fun H1 e1 e2 e3 => ?_
  rw [hsl] at e1 ⊢
  refine kk H1 _ ⟨_, hc, t_OB.to (V := updV (vp_V fs) i v) ⟨_, e1, q2, q3, t_set q4 hap hi v⟩ (fun j _ => vp_updV_set hl v j)⟩ e3 (hh.rawput hB hn hba e2 e3 (jTot_set e2 q1 e1 (jSet_sz _ _ _) e3) (fun q hq => ?_))
  rcases List.mem_append.mp hq with h | h
  · exact hh.1.2.2 q h
  · cases List.mem_singleton.mp h; exact hba
/-- an array of ints that is typed at once; all else is as it was -/
theorem j7_newiK {P : Nat → Int32 → Prop} {cA : ClassId} (hexec : p.tables.exec = Jvm.exec) (hb : c.code = cc) (hK : va_K (dC, dI) vwCl tys s) (hh : jSt (dC, dI) B base G0 G E s.heap zc zs L M I H locs) (hB : jBok B) {atype : ArrayType} {ty : FieldType} (harr : (Cond.arrayClass ty).before args s = true) (hty : newarray.typeOf atype = ty) (hd : defaultValue ty = .int 0) (hra : ∀ cA, va_RA s cA ty → s.vm.findClass ("[" ++ ty.toString) = some cA) (hBk : ∀ n G a H, B k n G a H ↔ jAr (dC, dI) cA P n a H) (t0 : Nat) (ht : tys[t0]? = some (cA, ty)) (hcb : componentBytes ty ≤ 8) (hk : k < 1000) (hb0 : base ≤ s.heap.size) {z : Int32} {x : Int} (hi : z.toInt = x) (h0 : 0 ≤ x ∧ x ≤ 200000) (hP : ∀ j, P j 0) (hR : zc + 1 ≤ R.cells) (hR2 : zs + x.toNat ≤ R.slots) (hdg : decode cc pc = .ok (.newarray atype, 2))
    (kk : ∀ (H1 : Heap), (∀ q, q < H.size → H1[q]? = H[q]?) → jSt (dC, dI) B base G0 (va_up G H.size (some (k, x.toNat))) E s.heap (zc + 1) (zs + x.toNat) L M I H1 locs → W p l e R s m args below meth c H1 locs (zc + 1) (zs + x.toNat) Q (F0 m (pc + 2) ls (.ref H.size :: rest))) : W p l e R s m args below meth c H locs cells slots Q (F0 m pc ls (.int z :: rest)) := by
  have hn0 : ¬ z < 0 := jb_n0 hi h0.1
  have hcl : z.toNatClampNeg = x.toNat := jb_cl hi h0.1
  have hsz := hh.1.1
  have hmu : x.toNat * componentBytes ty ≤ 200000 * 8 := Nat.mul_le_mul (by omega) hcb
  refine W.tight (c2 := zc) (n2 := zs) hh.2.2.2.2.2.1 hh.2.2.2.2.2.2.1 ?_
  refine j_newi hexec hb harr hty hd hra hK t0 ht hn0 hcl (by omega) hR hR2 hdg (fun H1 hat hz1 hfr hT => ?_)
  exact kk H1 hfr (hh.new hB (Nat.le_trans hb0 hsz) hz1 hfr hT hk ((hBk _ _ _ _).mpr ⟨fun _ => 0, hat, fun j _ => hP j⟩))
/-- an array of longs -/
theorem j7_newlK {cA : ClassId} (hexec : p.tables.exec = Jvm.exec) (hb : c.code = cc) (hK : va_K (dC, dI) vwCl tys s) (hh : jSt (dC, dI) B base G0 G E s.heap zc zs L M I H locs) (hB : jBok B) (harr : (Cond.arrayClass .long).before args s = true) (hra : ∀ cA, va_RA s cA .long → s.vm.findClass ("[" ++ FieldType.long.toString) = some cA) (hBk : ∀ n G a H, B k n G a H ↔ jAl (dC, dI) cA n a H) (t0 : Nat) (ht : tys[t0]? = some (cA, .long)) (hk : k < 1000) (hb0 : base ≤ s.heap.size) {z : Int32} {x : Int} (hi : z.toInt = x) (h0 : 0 ≤ x ∧ x ≤ 200000) (hR : zc + 1 ≤ R.cells) (hR2 : zs + x.toNat ≤ R.slots) (hdg : decode cc pc = .ok (.newarray .long, 2))
    (kk : ∀ (H1 : Heap), (∀ q, q < H.size → H1[q]? = H[q]?) → jSt (dC, dI) B base G0 (va_up G H.size (some (k, x.toNat))) E s.heap (zc + 1) (zs + x.toNat) L M I H1 locs → W p l e R s m args below meth c H1 locs (zc + 1) (zs + x.toNat) Q (F0 m (pc + 2) ls (.ref H.size :: rest))) : W p l e R s m args below meth c H locs cells slots Q (F0 m pc ls (.int z :: rest)) := by
  have hn0 : ¬ z < 0 := jb_n0 hi h0.1
  have hcl : z.toNatClampNeg = x.toNat := jb_cl hi h0.1
  have hsz := hh.1.1
  have h8 : componentBytes FieldType.long ≤ 8 := by decide
  have hmu : x.toNat * componentBytes FieldType.long ≤ 200000 * 8 := Nat.mul_le_mul (by omega) h8
  refine W.tight (c2 := zc) (n2 := zs) hh.2.2.2.2.2.1 hh.2.2.2.2.2.2.1 ?_
  refine va_newaK (atype := .long) hexec hb harr rfl hdg rfl hn0 hcl (Nat.le_trans hmu (by decide)) hR hR2 rfl fun H1 cB e1 z1 o1 hAr hNm => ?_
  have hc : cB = cA := Option.some.inj (hNm.symm.trans (hra _ (hK.2 t0 _ ht).2))
  subst hc
  refine kk H1 o1 (hh.new hB (Nat.le_trans hb0 hsz) z1 o1 (by rw [jTot_push z1 e1 o1, arrV_size]) hk ((hBk _ _ _ _).mpr ⟨fun _ => 0, ?_⟩))
  show H1[H.size]? = some (vp_cell _ _)
  rw [e1]; rfl
/-- an array of references: null at first -/
theorem j7_newqK {cA : ClassId} {P : jT → Option Nat → Prop} (hexec : p.tables.exec = Jvm.exec) (hb : c.code = cc) (hown : s.vm.findClass own = some m.cls) (hclink : (Cond.classLink own index C).before args s = true) (hover : va_AO C s) (hK : va_K (dC, dI) vwCl tys s) (hh : jSt (dC, dI) B base G0 G E s.heap zc zs L M I H locs) (hB : jBok B) (hBk : ∀ n G a H, B k n G a H ↔ jAq (dC, dI) cA P n G a H) (t0 : Nat) (ht : tys[t0]? = some (cA, .object C)) (hk : k < 1000) (hb0 : base ≤ s.heap.size) {z : Int32} {x : Int} (hi : z.toInt = x) (h0 : 0 ≤ x ∧ x ≤ 200000) (hP : ∀ G, P G none) (hR : zc + 1 ≤ R.cells) (hR2 : zs + x.toNat ≤ R.slots) (hdg : decode cc pc = .ok (.anewarray index, 3))
    (kk : ∀ (H1 : Heap), (∀ q, q < H.size → H1[q]? = H[q]?) → jSt (dC, dI) B base G0 (va_up G H.size (some (k, x.toNat))) E s.heap (zc + 1) (zs + x.toNat) L M I H1 locs → va_at (dC, dI) vwCl (H.size, .inl (cA, x.toNat, .inr (.inr (.inr (.inr (fun _ => none)))))) H1 → W p l e R s m args below meth c H1 locs (zc + 1) (zs + x.toNat) Q (F0 m (pc + 3) ls (.ref H.size :: rest))) : W p l e R s m args below meth c H locs cells slots Q (F0 m pc ls (.int z :: rest)) := by
  have hn0 : ¬ z < 0 := jb_n0 hi h0.1
  have hcl : z.toNatClampNeg = x.toNat := jb_cl hi h0.1
  have hsz := hh.1.1
  refine W.tight (c2 := zc) (n2 := zs) hh.2.2.2.2.2.1 hh.2.2.2.2.2.2.1 ?_
  refine W.anew hexec hb hown hclink (va_AO.use hover) rfl hdg rfl hn0 (by rw [hcl]; omega) hR (by rw [hcl]; exact hR2) fun cB kA comp f1 f2 f3 f4 => ?_
  obtain ⟨kA', comp', k1, k2, k3, k4⟩ := (hK.2 t0 _ ht).2
  have hc : cB = cA := by
    first
      | exact Option.some.inj (f1.symm.trans k4)
      | exact Option.some.inj (f4.symm.trans k4)
      | exact (Option.some.inj (f1.symm.trans k3))
  subst hc
  generalize hH1 : H.push ({ cls := cB, slots := Array.replicate z.toNatClampNeg .null, vm := .none } : Cell) = H1
  have z1 : H1.size = H.size + 1 := by rw [← hH1, Array.size_push]
  have e1 : H1[H.size]? = some (arrV cB z.toNatClampNeg (fun _ => .null)) := by rw [← hH1, Array.getElem?_push_size, ← arrV_new]
  have o1 : ∀ q : Nat, q < H.size → H1[q]? = H[q]? := fun q hq => by rw [← hH1, Array.getElem?_push, if_neg (Nat.ne_of_lt hq)]
  have hat : va_at (dC, dI) vwCl (H.size, .inl (cB, x.toNat, .inr (.inr (.inr (.inr (fun _ => none)))))) H1 := by
    show H1[H.size]? = some (vp_cell _ _)
    rw [e1, hcl]; rfl
  rw [hcl]
  exact kk H1 o1 (hh.new hB (Nat.le_trans hb0 hsz) z1 o1 (by rw [jTot_push z1 e1 o1, arrV_size, hcl]) hk ((hBk _ _ _ _).mpr ⟨fun _ => none, hat, fun j _ => hP _⟩)) hat
end J20
-- all growing Bytes hold no more than they have room for
abbrev jFy : List (Nat × Nat) := [(2, 0), (2, 1)]
def jYb (dC : Nat → ClassId) (dI : Nat → Nat → Nat) (G : jT) (H : Heap) : Prop := ∀ a, G a = some (2, 0) → ∃ (c : Int32) (x m : Nat), jf (dC, dI) 2 a 1 (.int c) H ∧ jf (dC, dI) 2 a 0 (.ref x) H ∧ G x = some (196, m) ∧ c.toInt ≤ m ∧ m ≤ 1048576
theorem jYb.ie {dC : Nat → ClassId} {dI : Nat → Nat → Nat} {G : jT} {H : Heap} (h : jYb dC dI G H) : ((jFy, jYb dC dI G) : jIv).2 H ∧ ∀ H1 H2 : Heap, jAg (dC, dI) G ((jFy, jYb dC dI G) : jIv).1 H1 H2 → ((jFy, jYb dC dI G) : jIv).2 H1 → ((jFy, jYb dC dI G) : jIv).2 H2 :=
  ⟨h, fun H1 H2 hA h1 a ha => by
    obtain ⟨c, x, m, g1, g2, g3, g4⟩ := h1 a ha
    exact ⟨c, x, m, hA.1 a 2 0 1 _ ha rfl g1, hA.1 a 2 0 0 _ ha rfl g2, g3, g4⟩⟩
theorem jYb.grow {dC : Nat → ClassId} {dI : Nat → Nat → Nat} {G G1 : jT} {H : Heap} {ks : List Nat} (h : jYb dC dI G H) (hle : jLe G G1) (hN : jNk ks G G1) (hk : ks.contains 2 = true) : jYb dC dI G1 H := fun a ha => by
  obtain ⟨c, x, m, g1, g2, g3, g4⟩ := h a (hN a 2 0 ha hk)
  exact ⟨c, x, m, g1, g2, hle _ _ g3, g4⟩
theorem jYb.own {dC : Nat → ClassId} {dI : Nat → Nat → Nat} {G G1 : jT} {r : Nat} {H H1 : Heap} {ks : List Nat} (h : jYb dC dI G H) (ho : jOw (dC, dI) G 2 r H H1) (hle : jLe G G1) (hN : jNk ks G G1) (hk : ks.contains 2 = true) (hr : G1 r = some (2, 0) → ∃ (c : Int32) (x m : Nat), jf (dC, dI) 2 r 1 (.int c) H1 ∧ jf (dC, dI) 2 r 0 (.ref x) H1 ∧ G1 x = some (196, m) ∧ c.toInt ≤ m ∧ m ≤ 1048576) : jYb dC dI G1 H1 := fun a ha => by
  by_cases e : a = r
  · subst e; exact hr ha
  · have ha0 := hN a 2 0 ha hk
    obtain ⟨c, x, m, g1, g2, g3, g4⟩ := h a ha0
    exact ⟨c, x, m, ho a 0 1 _ e ha0 g1, ho a 0 0 _ e ha0 g2, hle _ _ g3, g4⟩
theorem jYb.put {dC : Nat → ClassId} {dI : Nat → Nat → Nat} {G : jT} {r n : Nat} {H H1 : Heap} (h : jYb dC dI G H) (hr : ∀ q, q ≠ r → H1[q]? = H[q]?) (hx : G r = some (2, n)) (hp : n = 0 → ∃ (c : Int32) (x m : Nat), jf (dC, dI) 2 r 1 (.int c) H1 ∧ jf (dC, dI) 2 r 0 (.ref x) H1 ∧ G x = some (196, m) ∧ c.toInt ≤ m ∧ m ≤ 1048576) : jYb dC dI G H1 := fun a ha => by
  by_cases e : a = r
  · subst e
    rw [hx] at ha
    exact hp (Prod.mk.inj (Option.some.inj ha)).2
  · obtain ⟨c, x, m, g1, g2, g3, g4⟩ := h a ha
    exact ⟨c, x, m, g1.kept (hr a e), g2.kept (hr a e), g3, g4⟩
def jQa (k : Nat) (G : jT) : Option Nat → Prop := fun o => o = none ∨ ∃ x n, o = some x ∧ G x = some (k, n)
