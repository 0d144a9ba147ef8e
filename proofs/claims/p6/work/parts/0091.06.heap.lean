section
section JR
variable {p : Program} {l : Launch} {e : Env} {R : Room} {s : State} {m : MethodId} {args : Array Value} {below : List Frame} {meth : Method} {c : Code} {H : Heap} {locs : List Loc} {cells slots : Nat} {Q : State → Prop}
variable {cc : ByteArray} {pc : Nat} {ls : Array Slot} {rest : List Value} {D : va_G} {cl : List vw_C} {A : Nat → Prop} {a : Nat} {tys : List (ClassId × FieldType)}
theorem j_new (hexec : p.tables.exec = Jvm.exec) (hb : c.code = cc) {own C : String} {T : u_T} {N ci index : Nat} {Ts : List Cond} (hts : ∀ w ∈ Ts, w.before args s = true) (hin : ∀ w ∈ u_ws C T N, w ∈ Ts) (ty : Nat → FieldType) (hty : ∀ k, k < N → parseFieldDescriptor (T k).2.2.1 = some (ty k)) (hown : s.vm.findClass own = some m.cls) (hcl : (Cond.classLink own index C).before args s = true) (hinst : (Cond.instantiable C N).before args s = true) (hini : (Cond.initialized C).before args s = true)
    (hK : va_K D cl tys s) (hc : cl[ci]? = some (C, T, N)) {fs : List Value} (hfs : ∀ j, j < N → defaultValue (ty j) = vp_V fs j) (hcells : cells + 1 ≤ R.cells) (hslots : slots + N ≤ R.slots) (hdg : decode cc pc = .ok (.new index, 3))
    (kk : ∀ H1 : Heap, va_at D cl (H.size, .inr (ci, fs)) H1 → H1.size = H.size + 1 → (∀ q, q < H.size → H1[q]? = H[q]?) → jTot H1 = jTot H + N → W p l e R s m args below meth c H1 locs (cells + 1) (slots + N) Q (F0 m (pc + 3) ls (.ref H.size :: rest))) : W p l e R s m args below meth c H locs cells slots Q (F0 m pc ls rest) := by
  have hKn := hK.1 ci _ hc
  refine W.newc hexec hb hown hcl hinst hini rfl hdg hcells hslots fun cC kC g1 g2 g3 g4 => ?_
  have hcc : cC = D.1 ci := Option.some.inj (g1.symm.trans hKn.2.1)
  subst hcc
  have e1 : (H.push ({ cls := D.1 ci, slots := kC.instanceTypes.map defaultValue, vm := .none } : Cell))[H.size]? = some (blank (D.1 ci) kC) := by simp [blank]
  refine kk _ ⟨_, hc, (u_born ty hts hin hKn g2 e1 hty).to hfs⟩ (by simp) (fun q hq => by rw [Array.getElem?_push, if_neg (Nat.ne_of_lt hq)]) ?_
  rw [jTot_push (by simp) e1 (fun q hq => by rw [Array.getElem?_push, if_neg (Nat.ne_of_lt hq)])]
  simp [blank, g4]
end JR
end
section
-- new objects: raw while they are made, typed when they are whole
theorem jLe.typ {G : jT} {a : Nat} {t : Option (Nat × Nat)} (hn : ∀ t, G a ≠ some t) : jLe G (va_up G a t) := fun b u hb => by
  have hne : b ≠ a := fun e => hn u (by rw [← e]; exact hb)
  rw [va_up_ne _ _ hne]; exact hb
theorem jKx.typ {r : Nat} {G0 G : jT} {H0 H : Heap} {t : Option (Nat × Nat)} (h : jKx r G0 G H0 H) : jKx r G0 (va_up G r t) H0 H := ⟨h.1, fun q t hq hn hg => h.2 q t hq hn (by rw [va_up_ne _ _ hn] at hg; exact hg)⟩
theorem jKe.raw {G : jT} {H H1 : Heap} (hfr : ∀ q, q < H.size → H1[q]? = H[q]?) : jKe G G H H1 := ⟨hfr, fun _ _ _ h => h⟩
theorem jKe.nr {G G1 : jT} {H H1 : Heap} {a : Nat} (h : jKe G G1 H H1) (hlt : a < H.size) (hn : ∀ t, G a ≠ some t) : ∀ t, G1 a ≠ some t := fun t e => hn t (h.2 a t hlt e)
section J20
variable {p : Program} {l : Launch} {e : Env} {R : Room} {s : State} {m : MethodId} {args : Array Value} {below : List Frame} {meth : Method} {c : Code} {H : Heap} {locs : List Loc} {cells slots : Nat} {Q : State → Prop}
variable {cc : ByteArray} {pc : Nat} {ls : Array Slot} {rest : List Value} {dC : Nat → ClassId} {dI : Nat → Nat → Nat} {ca : Nat → ClassId} {B : jF} {base : Nat} {G0 G : jT} {E : List (Nat × Nat)} {H0 : Heap} {zc zs : Nat} {L : List jPin} {M : List jCt} {I : List jIv} {a k n i index N : Nat} {tys : List (ClassId × FieldType)} {own C : String} {T : u_T} {fs : List Value}
/-- a write to a cell that has no kind -/
theorem jSt.rawput (hh : jSt (dC, dI) B base G0 G E H0 zc zs L M I H locs) (hB : jBok B) (hn : ∀ t, G a ≠ some t) (hba : base ≤ a) {H1 : Heap} {locs1 : List Loc} (hsz : H1.size = H.size) (hfr : ∀ q, q ≠ a → H1[q]? = H[q]?) (ht : jTot H1 = jTot H) (hL : ∀ q ∈ locs1, base ≤ q.base) : jSt (dC, dI) B base G0 G E H0 zc zs L M I H1 locs1 :=
  hh.oth (wc := 0) (ws := 0) hB (fun b t hb => hfr b (fun e => hn t (by rw [← e]; exact hb))) (jS_put hh.1 hsz hfr hba hL) (by omega) (by omega) (by omega)
/-- a new cell that has no kind yet -/
theorem jSt.newR (hh : jSt (dC, dI) B base G0 G E H0 zc zs L M I H locs) (hB : jBok B) {H1 : Heap} (hsz : H1.size = H.size + 1) (hfr : ∀ q, q < H.size → H1[q]? = H[q]?) {w : Nat} (hT : jTot H1 = jTot H + w) : jSt (dC, dI) B base G0 G E H0 (zc + 1) (zs + w) L M I H1 locs :=
  hh.oth hB (fun b t hb => hfr b (hh.2.1.2 b t hb).2) ⟨by rw [hsz]; exact Nat.le_succ_of_le hh.1.1, fun q g1 g2 => (hfr q (Nat.lt_of_lt_of_le g1 hh.1.1)).trans (hh.1.2.1 q g1 g2), hh.1.2.2⟩ (by omega) (by omega) (by omega)
/-- the cell gets its kind -/
theorem jSt.typ (hh : jSt (dC, dI) B base G0 G E H0 zc zs L M I H locs) (hB : jBok B) (hn : ∀ t, G a ≠ some t) (hba : base ≤ a) (hlt : a < H.size) (hb : B k n (va_up G a (some (k, n))) a H) : jSt (dC, dI) B base G0 (va_up G a (some (k, n))) E H0 zc zs L M I H locs := by
  obtain ⟨h1, h2, h3, h4, h5, h6, h7, h8, h9⟩ := hh
  have hg : G a = none := by
    cases h : G a with
    | none => rfl
    | some t => exact absurd h (hn t)
  have hle : jLe G (va_up G a (some (k, n))) := fun b t hb => by
    have hne : b ≠ a := fun e => by rw [e, hg] at hb; cases hb
    rw [va_up_ne _ _ hne]; exact hb
  refine ⟨h1, ⟨fun b kb nb hb1 hk1 hx => ?_, fun b t hb1 => ?_⟩, h3.lift hle, h4, h5.tr hle, h6, h7, h8.lift hle, h9.lift hle⟩
  · by_cases e : b = a
    · subst e
      rw [jUp_self] at hb1
      cases hb1
      exact hb
    · rw [va_up_ne _ _ e] at hb1
      exact hB.2 kb nb G _ b H hle (h2.1 b kb nb hb1 hk1 hx)
  · by_cases e : b = a
    · subst e; exact ⟨hba, hlt⟩
    · rw [va_up_ne _ _ e] at hb1
      exact h2.2 b t hb1
/-- the fields of a cell that has just got its kind -/
theorem jf.raw (hc : vwCl[k]? = some (C, T, N)) (h : va_at (dC, dI) vwCl (a, .inr (k, fs)) H) (hi : i < N) : jf (dC, dI) k a i (vp_V fs i) H := by
  obtain ⟨r, h1, cell, q1, q2, q3, q4⟩ := h
  have hr : r = (C, T, N) := Option.some.inj (h1.symm.trans hc)
  subst hr
  exact ⟨_, hc, hi, cell, q1, q2, q3, q4 i hi⟩
theorem j7_newo {Ts : List Cond} (hexec : p.tables.exec = Jvm.exec) (hb : c.code = cc) (hts : ∀ w ∈ Ts, w.before args s = true) (hin : ∀ w ∈ u_ws C T N, w ∈ Ts) (ty : Nat → FieldType) (hty : ∀ k, k < N → parseFieldDescriptor (T k).2.2.1 = some (ty k)) (hown : s.vm.findClass own = some m.cls) (hcl : (Cond.classLink own index C).before args s = true) (hinst : (Cond.instantiable C N).before args s = true) (hini : (Cond.initialized C).before args s = true)
    (hK : va_K (dC, dI) vwCl tys s) (hc : vwCl[k]? = some (C, T, N)) (hfs : ∀ j, j < N → defaultValue (ty j) = vp_V fs j) (hh : jSt (dC, dI) B base G0 G E s.heap zc zs L M I H locs) (hB : jBok B) (hR : zc + 1 ≤ R.cells) (hR2 : zs + N ≤ R.slots) (hdg : decode cc pc = .ok (.new index, 3))
    (kk : ∀ H1 : Heap, va_at (dC, dI) vwCl (H.size, .inr (k, fs)) H1 → (∀ q, q < H.size → H1[q]? = H[q]?) → (∀ t, G H.size ≠ some t) → jSt (dC, dI) B base G0 G E s.heap (zc + 1) (zs + N) L M I H1 locs → W p l e R s m args below meth c H1 locs (zc + 1) (zs + N) Q (F0 m (pc + 3) ls (.ref H.size :: rest))) : W p l e R s m args below meth c H locs cells slots Q (F0 m pc ls rest) := by
  refine W.tight (c2 := zc) (n2 := zs) hh.2.2.2.2.2.1 hh.2.2.2.2.2.2.1 ?_
  refine j_new (D := (dC, dI)) (cl := vwCl) hexec hb hts hin ty hty hown hcl hinst hini hK hc hfs hR hR2 hdg (fun H1 hat hz hfr hT => ?_)
  exact kk H1 hat hfr (fun t => by rw [hh.2.1.fresh]; exact fun h => by cases h) (hh.newR hB hz hfr hT)
theorem j7_putR (hexec : p.tables.exec = Jvm.exec) (hb : c.code = cc) (hown : s.vm.findClass own = some m.cls) (hK : va_K (dC, dI) vwCl tys s) (hh : jSt (dC, dI) B base G0 G E H0 zc zs L M I H locs) (hB : jBok B) (hAp : jAp (dC, dI)) (hraw : va_at (dC, dI) vwCl (a, .inr (k, fs)) H) (hn : ∀ t, G a ≠ some t) (hba : base ≤ a) (hc : vwCl[k]? = some (C, T, N)) (hi : i < N) (hl : i < fs.length) (hlay : (u_lay C T i).before args s = true) (hfin : (T i).2.2.2 = false) (hlink : (Cond.fieldLink own index (T i).1 (T i).2.1 (T i).2.2.1).before args s = true) {ty : FieldType} {v : Value} (hd : parseFieldDescriptor (T i).2.2.1 = some ty) (hnar : narrow ty v = v) (hfit : fits ty v = true) (hdg : decode cc pc = .ok (.putfield index, 3))
    (kk : ∀ (H1 : Heap) (locs1 : List Loc), va_at (dC, dI) vwCl (a, .inr (k, fs.set i v)) H1 → (∀ q, q ≠ a → H1[q]? = H[q]?) → jSt (dC, dI) B base G0 G E H0 zc zs L M I H1 locs1 → W p l e R s m args below meth c H1 locs1 cells slots Q (F0 m (pc + 3) ls rest)) : W p l e R s m args below meth c H locs cells slots Q (F0 m pc ls (v :: .ref a :: rest)) := by
  obtain ⟨r, h1, cell, q1, q2, q3, q4⟩ := hraw
  have hr : r = (C, T, N) := Option.some.inj (h1.symm.trans hc)
  subst hr
  obtain ⟨hS, hfc, kC, hkC, hkind⟩ := hK.1 k _ hc
  obtain ⟨cf, kf, fi, f, hfi, hsl⟩ := hS i hi
  have hst := (u_facts hfc hkC (j7_lay hlay) hfi).1
  unfold u_lay at hlay
  rw [if_neg (by rw [hfin]; decide)] at hlay
  have h6 := u_store hfc hkC hkind hlay hfi hd hnar hfit
  have hap : ∀ x y, x < N → y < N → x ≠ y → dI k x ≠ dI k y := fun x y hx hy => hAp k _ hc x y hx hy
  refine W.putK hexec hb (f := f) ⟨hown, hlink, ⟨_, _, _, hfi⟩, hst⟩ (by rw [q2]; exact h6) q1 q3 (by rw [hsl]; exact k2_hasslot (q4 i hi)) rfl rfl hdg fun H1 e1 e2 e3 => ?_
  rw [hsl] at e1 ⊢
  refine kk H1 _ ⟨_, hc, t_OB.to (V := updV (vp_V fs) i v) ⟨_, e1, q2, q3, t_set q4 hap hi v⟩ (fun j _ => vp_updV_set hl v j)⟩ e3 (hh.rawput hB hn hba e2 e3 (jTot_set e2 q1 e1 (jSet_sz _ _ _) e3) (fun q hq => ?_))
  rcases List.mem_append.mp hq with h | h
  · exact hh.1.2.2 q h
  · cases List.mem_singleton.mp h; exact hba
theorem j7_putRF (hexec : p.tables.exec = Jvm.exec) (hb : c.code = cc) (hown : s.vm.findClass own = some m.cls) (hK : va_K (dC, dI) vwCl tys s) (hh : jSt (dC, dI) B base G0 G E H0 zc zs L M I H locs) (hB : jBok B) (hAp : jAp (dC, dI)) (hraw : va_at (dC, dI) vwCl (a, .inr (k, fs)) H) (hn : ∀ t, G a ≠ some t) (hba : base ≤ a) (hc : vwCl[k]? = some (C, T, N)) (hi : i < N) (hl : i < fs.length) (hlay : (u_lay C T i).before args s = true) (hfin : (T i).2.2.2 = true) (hin2 : meth.name = "<init>") (hdecl : (T i).1 = own) (hlink : (Cond.fieldLink own index (T i).1 (T i).2.1 (T i).2.2.1).before args s = true) {ty : FieldType} {v : Value} (hd : parseFieldDescriptor (T i).2.2.1 = some ty) (hnar : narrow ty v = v) (hfit : fits ty v = true) (hdg : decode cc pc = .ok (.putfield index, 3))
    (kk : ∀ (H1 : Heap) (locs1 : List Loc), va_at (dC, dI) vwCl (a, .inr (k, fs.set i v)) H1 → (∀ q, q ≠ a → H1[q]? = H[q]?) → jSt (dC, dI) B base G0 G E H0 zc zs L M I H1 locs1 → W p l e R s m args below meth c H1 locs1 cells slots Q (F0 m (pc + 3) ls rest)) : W p l e R s m args below meth c H locs cells slots Q (F0 m pc ls (v :: .ref a :: rest)) := by
  obtain ⟨r, h1, cell, q1, q2, q3, q4⟩ := hraw
  have hr : r = (C, T, N) := Option.some.inj (h1.symm.trans hc)
  subst hr
  obtain ⟨hS, hfc, kC, hkC, hkind⟩ := hK.1 k _ hc
  obtain ⟨cf, kf, fi, f, hfi, hsl⟩ := hS i hi
  have hst := (u_facts hfc hkC (j7_lay hlay) hfi).1
  unfold u_lay at hlay
  rw [if_pos hfin] at hlay
  have hcf : m.cls = cf := by
    obtain ⟨_, _, c', _, _, _, -, -, hf', -, -, -, hown2, -⟩ := Cond.laysFinal_spec hlay
    have e1 : c' = cf := by have := hfi.symm.trans hf'; simp at this; exact this.1.symm
    rw [hdecl] at hown2
    rw [← e1]; exact Option.some.inj (hown.symm.trans hown2)
  have h6 := u_fits hfc hkC hkind (Or.inr hlay) hfi hd hnar hfit
  have hap : ∀ x y, x < N → y < N → x ≠ y → dI k x ≠ dI k y := fun x y hx hy => hAp k _ hc x y hx hy
  refine W.putFinK hexec hb hown hlink hfi hst hcf hin2 (by rw [q2]; exact h6) q1 q3 (by rw [hsl]; exact k2_hasslot (q4 i hi)) rfl rfl hdg fun H1 e1 e2 e3 => ?_
  rw [hsl] at e1 ⊢
  refine kk H1 _ ⟨_, hc, t_OB.to (V := updV (vp_V fs) i v) ⟨_, e1, q2, q3, t_set q4 hap hi v⟩ (fun j _ => vp_updV_set hl v j)⟩ e3 (hh.rawput hB hn hba e2 e3 (jTot_set e2 q1 e1 (jSet_sz _ _ _) e3) (fun q hq => ?_))
  rcases List.mem_append.mp hq with h | h
  · exact hh.1.2.2 q h
  · cases List.mem_singleton.mp h; exact hba
/-- an array of ints that is typed at once; all else is as it was -/
theorem j7_newiK {P : Nat → Int32 → Prop} {cA : ClassId} (hexec : p.tables.exec = Jvm.exec) (hb : c.code = cc) (hK : va_K (dC, dI) vwCl tys s) (hh : jSt (dC, dI) B base G0 G E s.heap zc zs L M I H locs) (hB : jBok B) {atype : ArrayType} {ty : FieldType} (harr : (Cond.arrayClass ty).before args s = true) (hty : newarray.typeOf atype = ty) (hd : defaultValue ty = .int 0) (hra : ∀ cA, va_RA s cA ty → s.vm.findClass ("[" ++ ty.toString) = some cA) (hBk : ∀ n G a H, B k n G a H ↔ jAr (dC, dI) cA P n a H) (t0 : Nat) (ht : tys[t0]? = some (cA, ty)) (hcb : componentBytes ty ≤ 8) (hk : k < 1000) (hb0 : base ≤ s.heap.size) {z : Int32} {x : Int} (hi : z.toInt = x) (h0 : 0 ≤ x ∧ x ≤ 200000) (hP : ∀ j, P j 0) (hR : zc + 1 ≤ R.cells) (hR2 : zs + x.toNat ≤ R.slots) (hdg : decode cc pc = .ok (.newarray atype, 2))
    (kk : ∀ (H1 : Heap), (∀ q, q < H.size → H1[q]? = H[q]?) → jSt (dC, dI) B base G0 (va_up G H.size (some (k, x.toNat))) E s.heap (zc + 1) (zs + x.toNat) L M I H1 locs → W p l e R s m args below meth c H1 locs (zc + 1) (zs + x.toNat) Q (F0 m (pc + 2) ls (.ref H.size :: rest))) : W p l e R s m args below meth c H locs cells slots Q (F0 m pc ls (.int z :: rest)) := by
  have hn0 : ¬ z < 0 := jb_n0 hi h0.1
  have hcl : z.toNatClampNeg = x.toNat := jb_cl hi h0.1
  have hsz := hh.1.1
  have hmu : x.toNat * componentBytes ty ≤ 200000 * 8 := Nat.mul_le_mul (by omega) hcb
  refine W.tight (c2 := zc) (n2 := zs) hh.2.2.2.2.2.1 hh.2.2.2.2.2.2.1 ?_
  refine j_newi hexec hb harr hty hd hra hK t0 ht hn0 hcl (by omega) hR hR2 hdg (fun H1 hat hz1 hfr hT => ?_)
  exact kk H1 hfr (hh.new hB (Nat.le_trans hb0 hsz) hz1 hfr hT hk ((hBk _ _ _ _).mpr ⟨fun _ => 0, hat, fun j _ => hP j⟩))
/-- an array of references: null at first -/
theorem j7_newqK {cA : ClassId} {P : jT → Option Nat → Prop} (hexec : p.tables.exec = Jvm.exec) (hb : c.code = cc) (hown : s.vm.findClass own = some m.cls) (hclink : (Cond.classLink own index C).before args s = true) (hover : va_AO C s) (hK : va_K (dC, dI) vwCl tys s) (hh : jSt (dC, dI) B base G0 G E s.heap zc zs L M I H locs) (hB : jBok B) (hBk : ∀ n G a H, B k n G a H ↔ jAq (dC, dI) cA P n G a H) (t0 : Nat) (ht : tys[t0]? = some (cA, .object C)) (hk : k < 1000) (hb0 : base ≤ s.heap.size) {z : Int32} {x : Int} (hi : z.toInt = x) (h0 : 0 ≤ x ∧ x ≤ 200000) (hP : ∀ G, P G none) (hR : zc + 1 ≤ R.cells) (hR2 : zs + x.toNat ≤ R.slots) (hdg : decode cc pc = .ok (.anewarray index, 3))
    (kk : ∀ (H1 : Heap), (∀ q, q < H.size → H1[q]? = H[q]?) → jSt (dC, dI) B base G0 (va_up G H.size (some (k, x.toNat))) E s.heap (zc + 1) (zs + x.toNat) L M I H1 locs → va_at (dC, dI) vwCl (H.size, .inl (cA, x.toNat, .inr (.inr (.inr (.inr (fun _ => none)))))) H1 → W p l e R s m args below meth c H1 locs (zc + 1) (zs + x.toNat) Q (F0 m (pc + 3) ls (.ref H.size :: rest))) : W p l e R s m args below meth c H locs cells slots Q (F0 m pc ls (.int z :: rest)) := by
  have hn0 : ¬ z < 0 := jb_n0 hi h0.1
  have hcl : z.toNatClampNeg = x.toNat := jb_cl hi h0.1
  have hsz := hh.1.1
  refine W.tight (c2 := zc) (n2 := zs) hh.2.2.2.2.2.1 hh.2.2.2.2.2.2.1 ?_
  refine W.anew hexec hb hown hclink (va_AO.use hover) rfl hdg rfl hn0 (by rw [hcl]; omega) hR (by rw [hcl]; exact hR2) fun cB kA comp f1 f2 f3 f4 => ?_
  obtain ⟨kA', comp', k1, k2, k3, k4⟩ := (hK.2 t0 _ ht).2
  have hc : cB = cA := by
    first
      | exact Option.some.inj (f1.symm.trans k4)
      | exact Option.some.inj (f4.symm.trans k4)
      | exact (Option.some.inj (f1.symm.trans k3))
  subst hc
  generalize hH1 : H.push ({ cls := cB, slots := Array.replicate z.toNatClampNeg .null, vm := .none } : Cell) = H1
  have z1 : H1.size = H.size + 1 := by rw [← hH1, Array.size_push]
  have e1 : H1[H.size]? = some (arrV cB z.toNatClampNeg (fun _ => .null)) := by rw [← hH1, Array.getElem?_push_size, ← arrV_new]
  have o1 : ∀ q : Nat, q < H.size → H1[q]? = H[q]? := fun q hq => by rw [← hH1, Array.getElem?_push, if_neg (Nat.ne_of_lt hq)]
  have hat : va_at (dC, dI) vwCl (H.size, .inl (cB, x.toNat, .inr (.inr (.inr (.inr (fun _ => none)))))) H1 := by
    show H1[H.size]? = some (vp_cell _ _)
    rw [e1, hcl]; rfl
  rw [hcl]
  exact kk H1 o1 (hh.new hB (Nat.le_trans hb0 hsz) z1 o1 (by rw [jTot_push z1 e1 o1, arrV_size, hcl]) hk ((hBk _ _ _ _).mpr ⟨fun _ => none, hat, fun j _ => hP _⟩)) hat
end J20
-- all growing Bytes hold no more than they have room for
end
section
theorem dX12_init_0 : decode cX12_init 0 = .ok (.aload_n 0, 1) := by decide +kernel
theorem dX12_init_1 : decode cX12_init 1 = .ok (.invokespecial 3, 3) := by decide +kernel
theorem dX12_init_4 : decode cX12_init 4 = .ok (.aload_n 0, 1) := by decide +kernel
theorem dX12_init_5 : decode cX12_init 5 = .ok (.bipush 40, 2) := by decide +kernel
theorem dX12_init_7 : decode cX12_init 7 = .ok (.newarray .int, 2) := by decide +kernel
theorem dX12_init_9 : decode cX12_init 9 = .ok (.putfield 9, 3) := by decide +kernel
theorem dX12_init_12 : decode cX12_init 12 = .ok (.aload_n 0, 1) := by decide +kernel
theorem dX12_init_13 : decode cX12_init 13 = .ok (.sipush 1500, 3) := by decide +kernel
theorem dX12_init_16 : decode cX12_init 16 = .ok (.newarray .int, 2) := by decide +kernel
theorem dX12_init_18 : decode cX12_init 18 = .ok (.putfield 15, 3) := by decide +kernel
theorem dX12_init_21 : decode cX12_init 21 = .ok (.aload_n 0, 1) := by decide +kernel
theorem dX12_init_22 : decode cX12_init 22 = .ok (.bipush 40, 2) := by decide +kernel
theorem dX12_init_24 : decode cX12_init 24 = .ok (.newarray .int, 2) := by decide +kernel
theorem dX12_init_26 : decode cX12_init 26 = .ok (.putfield 18, 3) := by decide +kernel
theorem dX12_init_29 : decode cX12_init 29 = .ok (.aload_n 0, 1) := by decide +kernel
theorem dX12_init_30 : decode cX12_init 30 = .ok (.bipush 40, 2) := by decide +kernel
theorem dX12_init_32 : decode cX12_init 32 = .ok (.newarray .int, 2) := by decide +kernel
theorem dX12_init_34 : decode cX12_init 34 = .ok (.putfield 21, 3) := by decide +kernel
theorem dX12_init_37 : decode cX12_init 37 = .ok (.aload_n 0, 1) := by decide +kernel
theorem dX12_init_38 : decode cX12_init 38 = .ok (.bipush 40, 2) := by decide +kernel
theorem dX12_init_40 : decode cX12_init 40 = .ok (.newarray .int, 2) := by decide +kernel
theorem dX12_init_42 : decode cX12_init 42 = .ok (.putfield 24, 3) := by decide +kernel
theorem dX12_init_45 : decode cX12_init 45 = .ok (.aload_n 0, 1) := by decide +kernel
theorem dX12_init_46 : decode cX12_init 46 = .ok (.bipush 40, 2) := by decide +kernel
theorem dX12_init_48 : decode cX12_init 48 = .ok (.newarray .int, 2) := by decide +kernel
theorem dX12_init_50 : decode cX12_init 50 = .ok (.putfield 27, 3) := by decide +kernel
theorem dX12_init_53 : decode cX12_init 53 = .ok (.return_, 1) := by decide +kernel
theorem dX13_init_0 : decode cX13_init 0 = .ok (.aload_n 0, 1) := by decide +kernel
theorem dX13_init_1 : decode cX13_init 1 = .ok (.invokespecial 3, 3) := by decide +kernel
theorem dX13_init_4 : decode cX13_init 4 = .ok (.aload_n 0, 1) := by decide +kernel
theorem dX13_init_5 : decode cX13_init 5 = .ok (.ldc 11, 2) := by decide +kernel
theorem dX13_init_7 : decode cX13_init 7 = .ok (.newarray .int, 2) := by decide +kernel
theorem dX13_init_9 : decode cX13_init 9 = .ok (.putfield 12, 3) := by decide +kernel
theorem dX13_init_12 : decode cX13_init 12 = .ok (.aload_n 0, 1) := by decide +kernel
theorem dX13_init_13 : decode cX13_init 13 = .ok (.ldc 11, 2) := by decide +kernel
theorem dX13_init_15 : decode cX13_init 15 = .ok (.newarray .int, 2) := by decide +kernel
theorem dX13_init_17 : decode cX13_init 17 = .ok (.putfield 16, 3) := by decide +kernel
theorem dX13_init_20 : decode cX13_init 20 = .ok (.aload_n 0, 1) := by decide +kernel
theorem dX13_init_21 : decode cX13_init 21 = .ok (.ldc 11, 2) := by decide +kernel
theorem dX13_init_23 : decode cX13_init 23 = .ok (.newarray .int, 2) := by decide +kernel
theorem dX13_init_25 : decode cX13_init 25 = .ok (.putfield 19, 3) := by decide +kernel
theorem dX13_init_28 : decode cX13_init 28 = .ok (.aload_n 0, 1) := by decide +kernel
theorem dX13_init_29 : decode cX13_init 29 = .ok (.ldc 11, 2) := by decide +kernel
theorem dX13_init_31 : decode cX13_init 31 = .ok (.newarray .int, 2) := by decide +kernel
theorem dX13_init_33 : decode cX13_init 33 = .ok (.putfield 22, 3) := by decide +kernel
theorem dX13_init_36 : decode cX13_init 36 = .ok (.aload_n 0, 1) := by decide +kernel
theorem dX13_init_37 : decode cX13_init 37 = .ok (.ldc 11, 2) := by decide +kernel
theorem dX13_init_39 : decode cX13_init 39 = .ok (.newarray .int, 2) := by decide +kernel
theorem dX13_init_41 : decode cX13_init 41 = .ok (.putfield 25, 3) := by decide +kernel
theorem dX13_init_44 : decode cX13_init 44 = .ok (.aload_n 0, 1) := by decide +kernel
theorem dX13_init_45 : decode cX13_init 45 = .ok (.sipush 12000, 3) := by decide +kernel
theorem dX13_init_48 : decode cX13_init 48 = .ok (.newarray .int, 2) := by decide +kernel
theorem dX13_init_50 : decode cX13_init 50 = .ok (.putfield 28, 3) := by decide +kernel
theorem dX13_init_53 : decode cX13_init 53 = .ok (.aload_n 0, 1) := by decide +kernel
theorem dX13_init_54 : decode cX13_init 54 = .ok (.sipush 1600, 3) := by decide +kernel
theorem dX13_init_57 : decode cX13_init 57 = .ok (.newarray .int, 2) := by decide +kernel
theorem dX13_init_59 : decode cX13_init 59 = .ok (.putfield 31, 3) := by decide +kernel
theorem dX13_init_62 : decode cX13_init 62 = .ok (.aload_n 0, 1) := by decide +kernel
theorem dX13_init_63 : decode cX13_init 63 = .ok (.sipush 1600, 3) := by decide +kernel
theorem dX13_init_66 : decode cX13_init 66 = .ok (.newarray .int, 2) := by decide +kernel
theorem dX13_init_68 : decode cX13_init 68 = .ok (.putfield 34, 3) := by decide +kernel
theorem dX13_init_71 : decode cX13_init 71 = .ok (.aload_n 0, 1) := by decide +kernel
theorem dX13_init_72 : decode cX13_init 72 = .ok (.bipush 16, 2) := by decide +kernel
theorem dX13_init_74 : decode cX13_init 74 = .ok (.newarray .int, 2) := by decide +kernel
theorem dX13_init_76 : decode cX13_init 76 = .ok (.putfield 37, 3) := by decide +kernel
theorem dX13_init_79 : decode cX13_init 79 = .ok (.aload_n 0, 1) := by decide +kernel
theorem dX13_init_80 : decode cX13_init 80 = .ok (.bipush 16, 2) := by decide +kernel
theorem dX13_init_82 : decode cX13_init 82 = .ok (.newarray .boolean, 2) := by decide +kernel
theorem dX13_init_84 : decode cX13_init 84 = .ok (.putfield 40, 3) := by decide +kernel
theorem dX13_init_87 : decode cX13_init 87 = .ok (.aload_n 0, 1) := by decide +kernel
theorem dX13_init_88 : decode cX13_init 88 = .ok (.bipush 16, 2) := by decide +kernel
theorem dX13_init_90 : decode cX13_init 90 = .ok (.newarray .int, 2) := by decide +kernel
theorem dX13_init_92 : decode cX13_init 92 = .ok (.putfield 44, 3) := by decide +kernel
theorem dX13_init_95 : decode cX13_init 95 = .ok (.aload_n 0, 1) := by decide +kernel
theorem dX13_init_96 : decode cX13_init 96 = .ok (.bipush 16, 2) := by decide +kernel
theorem dX13_init_98 : decode cX13_init 98 = .ok (.newarray .int, 2) := by decide +kernel
theorem dX13_init_100 : decode cX13_init 100 = .ok (.putfield 47, 3) := by decide +kernel
theorem dX13_init_103 : decode cX13_init 103 = .ok (.aload_n 0, 1) := by decide +kernel
theorem dX13_init_104 : decode cX13_init 104 = .ok (.bipush 16, 2) := by decide +kernel
theorem dX13_init_106 : decode cX13_init 106 = .ok (.newarray .int, 2) := by decide +kernel
theorem dX13_init_108 : decode cX13_init 108 = .ok (.putfield 50, 3) := by decide +kernel
theorem dX13_init_111 : decode cX13_init 111 = .ok (.aload_n 0, 1) := by decide +kernel
theorem dX13_init_112 : decode cX13_init 112 = .ok (.bipush 46, 2) := by decide +kernel
theorem dX13_init_114 : decode cX13_init 114 = .ok (.newarray .int, 2) := by decide +kernel
theorem dX13_init_116 : decode cX13_init 116 = .ok (.putfield 53, 3) := by decide +kernel
theorem dX13_init_119 : decode cX13_init 119 = .ok (.aload_n 0, 1) := by decide +kernel
theorem dX13_init_120 : decode cX13_init 120 = .ok (.bipush 46, 2) := by decide +kernel
theorem dX13_init_122 : decode cX13_init 122 = .ok (.newarray .int, 2) := by decide +kernel
theorem dX13_init_124 : decode cX13_init 124 = .ok (.putfield 56, 3) := by decide +kernel
theorem dX13_init_127 : decode cX13_init 127 = .ok (.aload_n 0, 1) := by decide +kernel
theorem dX13_init_128 : decode cX13_init 128 = .ok (.sipush 276, 3) := by decide +kernel
theorem dX13_init_131 : decode cX13_init 131 = .ok (.newarray .int, 2) := by decide +kernel
theorem dX13_init_133 : decode cX13_init 133 = .ok (.putfield 59, 3) := by decide +kernel
theorem dX13_init_136 : decode cX13_init 136 = .ok (.aload_n 0, 1) := by decide +kernel
theorem dX13_init_137 : decode cX13_init 137 = .ok (.bipush 46, 2) := by decide +kernel
theorem dX13_init_139 : decode cX13_init 139 = .ok (.newarray .int, 2) := by decide +kernel
theorem dX13_init_141 : decode cX13_init 141 = .ok (.putfield 62, 3) := by decide +kernel
theorem dX13_init_144 : decode cX13_init 144 = .ok (.aload_n 0, 1) := by decide +kernel
theorem dX13_init_145 : decode cX13_init 145 = .ok (.sipush 368, 3) := by decide +kernel
theorem dX13_init_148 : decode cX13_init 148 = .ok (.newarray .int, 2) := by decide +kernel
theorem dX13_init_150 : decode cX13_init 150 = .ok (.putfield 65, 3) := by decide +kernel
theorem dX13_init_153 : decode cX13_init 153 = .ok (.aload_n 0, 1) := by decide +kernel
theorem dX13_init_154 : decode cX13_init 154 = .ok (.sipush 368, 3) := by decide +kernel
theorem dX13_init_157 : decode cX13_init 157 = .ok (.newarray .int, 2) := by decide +kernel
theorem dX13_init_159 : decode cX13_init 159 = .ok (.putfield 68, 3) := by decide +kernel
theorem dX13_init_162 : decode cX13_init 162 = .ok (.aload_n 0, 1) := by decide +kernel
theorem dX13_init_163 : decode cX13_init 163 = .ok (.sipush 1500, 3) := by decide +kernel
theorem dX13_init_166 : decode cX13_init 166 = .ok (.newarray .int, 2) := by decide +kernel
theorem dX13_init_168 : decode cX13_init 168 = .ok (.putfield 71, 3) := by decide +kernel
theorem dX13_init_171 : decode cX13_init 171 = .ok (.aload_n 0, 1) := by decide +kernel
theorem dX13_init_172 : decode cX13_init 172 = .ok (.sipush 1500, 3) := by decide +kernel
theorem dX13_init_175 : decode cX13_init 175 = .ok (.newarray .int, 2) := by decide +kernel
theorem dX13_init_177 : decode cX13_init 177 = .ok (.putfield 74, 3) := by decide +kernel
theorem dX13_init_180 : decode cX13_init 180 = .ok (.aload_n 0, 1) := by decide +kernel
theorem dX13_init_181 : decode cX13_init 181 = .ok (.sipush 200, 3) := by decide +kernel
theorem dX13_init_184 : decode cX13_init 184 = .ok (.newarray .int, 2) := by decide +kernel
theorem dX13_init_186 : decode cX13_init 186 = .ok (.putfield 77, 3) := by decide +kernel
theorem dX13_init_189 : decode cX13_init 189 = .ok (.aload_n 0, 1) := by decide +kernel
theorem dX13_init_190 : decode cX13_init 190 = .ok (.iconst 1, 1) := by decide +kernel
theorem dX13_init_191 : decode cX13_init 191 = .ok (.newarray .int, 2) := by decide +kernel
theorem dX13_init_193 : decode cX13_init 193 = .ok (.putfield 80, 3) := by decide +kernel
theorem dX13_init_196 : decode cX13_init 196 = .ok (.aload_n 0, 1) := by decide +kernel
theorem dX13_init_197 : decode cX13_init 197 = .ok (.bipush 100, 2) := by decide +kernel
theorem dX13_init_199 : decode cX13_init 199 = .ok (.newarray .int, 2) := by decide +kernel
theorem dX13_init_201 : decode cX13_init 201 = .ok (.putfield 83, 3) := by decide +kernel
theorem dX13_init_204 : decode cX13_init 204 = .ok (.aload_n 0, 1) := by decide +kernel
theorem dX13_init_205 : decode cX13_init 205 = .ok (.bipush 100, 2) := by decide +kernel
theorem dX13_init_207 : decode cX13_init 207 = .ok (.newarray .int, 2) := by decide +kernel
theorem dX13_init_209 : decode cX13_init 209 = .ok (.putfield 86, 3) := by decide +kernel
theorem dX13_init_212 : decode cX13_init 212 = .ok (.aload_n 0, 1) := by decide +kernel
theorem dX13_init_213 : decode cX13_init 213 = .ok (.ldc 89, 2) := by decide +kernel
theorem dX13_init_215 : decode cX13_init 215 = .ok (.newarray .int, 2) := by decide +kernel
theorem dX13_init_217 : decode cX13_init 217 = .ok (.putfield 90, 3) := by decide +kernel
theorem dX13_init_220 : decode cX13_init 220 = .ok (.aload_n 0, 1) := by decide +kernel
theorem dX13_init_221 : decode cX13_init 221 = .ok (.bipush 100, 2) := by decide +kernel
theorem dX13_init_223 : decode cX13_init 223 = .ok (.newarray .int, 2) := by decide +kernel
theorem dX13_init_225 : decode cX13_init 225 = .ok (.putfield 93, 3) := by decide +kernel
theorem dX13_init_228 : decode cX13_init 228 = .ok (.aload_n 0, 1) := by decide +kernel
theorem dX13_init_229 : decode cX13_init 229 = .ok (.bipush 100, 2) := by decide +kernel
theorem dX13_init_231 : decode cX13_init 231 = .ok (.newarray .int, 2) := by decide +kernel
theorem dX13_init_233 : decode cX13_init 233 = .ok (.putfield 96, 3) := by decide +kernel
theorem dX13_init_236 : decode cX13_init 236 = .ok (.return_, 1) := by decide +kernel
def EX13_init : List (Nat × Nat) := []
set_option maxHeartbeats 4000000 in
set_option maxRecDepth 20000 in
theorem uX13_init (l : Launch) (dC : Nat → ClassId) (dI : Nat → Nat → Nat) (ca : Nat → ClassId) (base : Nat) (B : jF) (hB : jBok B) (hAp : jAp (dC, dI)) (hB15 : ∀ n G a H, B 15 n G a H ↔ jOb (dC, dI) 15 50 (F15 n G) a H) (hB101 : ∀ n G a H, B 101 n G a H ↔ jAr (dC, dI) (ca 1) (fun j z => True) n a H) (hB103 : ∀ n G a H, B 103 n G a H ↔ jAr (dC, dI) (ca 3) (fun j z => (z = 0 ∨ z = 1)) n a H) (hB150 : ∀ n G a H, B 150 n G a H ↔ jAr (dC, dI) (ca 1) (fun j z => True) n a H) (hB151 : ∀ n G a H, B 151 n G a H ↔ jAr (dC, dI) (ca 1) (fun j z => True) n a H) (hB152 : ∀ n G a H, B 152 n G a H ↔ jAr (dC, dI) (ca 1) (fun j z => True) n a H) (hB153 : ∀ n G a H, B 153 n G a H ↔ jAr (dC, dI) (ca 1) (fun j z => True) n a H) (hB154 : ∀ n G a H, B 154 n G a H ↔ jAr (dC, dI) (ca 1) (fun j z => True) n a H) (hB155 : ∀ n G a H, B 155 n G a H ↔ jAr (dC, dI) (ca 1) (fun j z => 0 ≤ z.toInt ∧ z.toInt ≤ 11990) n a H) (hB156 : ∀ n G a H, B 156 n G a H ↔ jAr (dC, dI) (ca 1) (fun j z => 0 ≤ z.toInt ∧ z.toInt ≤ 10) n a H) (hB157 : ∀ n G a H, B 157 n G a H ↔ jAr (dC, dI) (ca 1) (fun j z => 0 ≤ z.toInt ∧ z.toInt ≤ 1599) n a H) (hB158 : ∀ n G a H, B 158 n G a H ↔ jAr (dC, dI) (ca 1) (fun j z => 0 ≤ z.toInt ∧ z.toInt ≤ 6) n a H) (hB159 : ∀ n G a H, B 159 n G a H ↔ jAr (dC, dI) (ca 1) (fun j z => 0 ≤ z.toInt ∧ z.toInt ≤ 8) n a H) (hB160 : ∀ n G a H, B 160 n G a H ↔ jAr (dC, dI) (ca 1) (fun j z => 0 ≤ z.toInt ∧ z.toInt ≤ 119999) n a H) (hB161 : ∀ n G a H, B 161 n G a H ↔ jAr (dC, dI) (ca 1) (fun j z => 0 ≤ z.toInt ∧ z.toInt ≤ 119999) n a H) (hB162 : ∀ n G a H, B 162 n G a H ↔ jAr (dC, dI) (ca 1) (fun j z => 0 ≤ z.toInt ∧ z.toInt ≤ 119999) n a H) (hB163 : ∀ n G a H, B 163 n G a H ↔ jAr (dC, dI) (ca 1) (fun j z => 0 ≤ z.toInt ∧ z.toInt ≤ 1599) n a H) (hB164 : ∀ n G a H, B 164 n G a H ↔ jAr (dC, dI) (ca 1) (fun j z => 0 ≤ z.toInt ∧ z.toInt ≤ 100000) n a H) (hB165 : ∀ n G a H, B 165 n G a H ↔ jAr (dC, dI) (ca 1) (fun j z => 0 ≤ z.toInt ∧ z.toInt ≤ 3) n a H) (hB166 : ∀ n G a H, B 166 n G a H ↔ jAr (dC, dI) (ca 1) (fun j z => True) n a H) (hB167 : ∀ n G a H, B 167 n G a H ↔ jAr (dC, dI) (ca 1) (fun j z => True) n a H) (hB168 : ∀ n G a H, B 168 n G a H ↔ jAr (dC, dI) (ca 1) (fun j z => 0 ≤ z.toInt ∧ z.toInt ≤ 119999) n a H) (hB169 : ∀ n G a H, B 169 n G a H ↔ jAr (dC, dI) (ca 1) (fun j z => True) n a H) (G0 : jT) (H0 : Heap) (r0 : Nat) (LC LS : Nat) : Met l yX13_init (jw yX13_init cX13_init 1 none) ({ frames := 1, cells := LC - H0.size, slots := LS - jTot H0, locals := 31 }) (va_Pc [.ref r0] (fun U => U.heap = H0 ∧ jX B base G0 [] H0 ∧ jG dC dI ca base U ∧ va_at (dC, dI) vwCl (r0, .inr (15, [.null, .null, .null, .null, .null, .int 0, .null, .int 0, .null, .null, .int 0, .int 0, .null, .null, .null, .int 0, .null, .null, .int 0, .int 0, .int 0, .int 0, .null, .null, .null, .null, .null, .null, .null, .null, .int 0, .int 0, .int 0, .int 0, .int 0, .null, .int 0, .null, .int 0, .int 0, .int 0, .int 0, .int 0, .null, .null, .null, .int 0, .null, .null, .int 0])) H0 ∧ (∀ t, G0 r0 ≠ some t) ∧ base ≤ r0 ∧ jP (dC, dI) G0 H0 [] ∧ H0.size + 28 ≤ LC ∧ jTot H0 + 720031 ≤ LS ∧ True)) (va_Qv (S := jT) (fun u => True) (fun u t => jRa (dC, dI) B base G0 u EX13_init H0 (28) (720031) [] t.heap ∧ (jNk [0, 1, 2, 3, 4, 5, 6, 7, 8, 9, 10, 11, 12, 13, 14, 16, 17, 175]) G0 u ∧ u r0 = some (15, 0) ∧ jKx r0 G0 u H0 t.heap) (jA base)) (LC - H0.size) (LS - jTot H0) (jA base) := by
  refine Met.ofW (cc := cX13_init) (maxL := 1) (ret := none) (by decide) rfl ?_
  intro p e s m args below meth c s₁ Bd hml hv
  obtain ⟨rfl, hH0, hX, hG, hraw0, hnr0, hbr0, hP0, hLC0, hLS0, hp0⟩ := hv
  have hK := hG.1
  have hx := Bd.exec
  have hb := Bd.bytes
  have hr := Bd.returns
  have hts := atoms_spec (ws := (jw yX13_init cX13_init 1 none)) Bd.pre
  have htw : ∀ w ∈ jWl, w.before _ s = true := fun w h => hts w (List.mem_cons_of_mem _ h)
  have hown : s.vm.findClass RX13 = some m.cls := findClass_of_methodNamed Bd.named
  have hlocks := Bd.notSynchronized
  obtain ⟨Q, hQ⟩ : ∃ Q, Q = MQ below (va_Qv (S := jT) (fun u => True) (fun u t => jRa (dC, dI) B base G0 u EX13_init H0 (28) (720031) [] t.heap ∧ (jNk [0, 1, 2, 3, 4, 5, 6, 7, 8, 9, 10, 11, 12, 13, 14, 16, 17, 175]) G0 u ∧ u r0 = some (15, 0) ∧ jKx r0 G0 u H0 t.heap) (jA base)) ([.ref r0] : List Value).toArray s (LC - H0.size) (LS - jTot H0) (jA base) := ⟨_, rfl⟩
  rw [← hQ]
  have hl := lv_entry ([.ref r0]) (n := 1) (Nat.le_of_ble_eq_true rfl)
  rw [lg_entry_eq]
  generalize (lg_sl ([.ref r0]) ++ List.replicate (1 - (lg_sl ([.ref r0])).length) Slot.unset).toArray = ls at hl ⊢
  have hl : lv_has ls 1 [(0, .ref r0)] := hl
  generalize hR : (headSpec (jw yX13_init cX13_init 1 none) ({ frames := 1, cells := LC - H0.size, slots := LS - jTot H0, locals := 31 })).room = R
  subst hH0
  have hh : jSt (dC, dI) B base G0 G0 EX13_init s.heap 0 0 [] [] [] s.heap [] := jSt.start hX hP0 jMc.nil jIs.nil
  clear hX hP0
  have hk0 : (0 : Int32).toInt = 0 := by decide
  have hk1 : (1 : Int32).toInt = 1 := by decide
  have hk16 : (16 : Int32).toInt = 16 := by decide
  have hk46 : (46 : Int32).toInt = 46 := by decide
  have hk100 : (100 : Int32).toInt = 100 := by decide
  have hk200 : (200 : Int32).toInt = 200 := by decide
  have hk276 : (276 : Int32).toInt = 276 := by decide
  have hk368 : (368 : Int32).toInt = 368 := by decide
  have hk1500 : (1500 : Int32).toInt = 1500 := by decide
  have hk1600 : (1600 : Int32).toInt = 1600 := by decide
  have hk12000 : (12000 : Int32).toInt = 12000 := by decide
  have hk100000 : (100000 : Int32).toInt = 100000 := by decide
  have hk120000 : (120000 : Int32).toInt = 120000 := by decide
  have hly_15_0 := htw (u_lay RX13 TX13 0) (jWc_wsX130 _ (u_in_lay (by decide)))
  have hly_15_1 := htw (u_lay RX13 TX13 1) (jWc_wsX130 _ (u_in_lay (by decide)))
  have hly_15_2 := htw (u_lay RX13 TX13 2) (jWc_wsX130 _ (u_in_lay (by decide)))
  have hly_15_3 := htw (u_lay RX13 TX13 3) (jWc_wsX130 _ (u_in_lay (by decide)))
  have hly_15_4 := htw (u_lay RX13 TX13 4) (jWc_wsX130 _ (u_in_lay (by decide)))
  have hly_15_6 := htw (u_lay RX13 TX13 6) (jWc_wsX130 _ (u_in_lay (by decide)))
  have hly_15_8 := htw (u_lay RX13 TX13 8) (jWc_wsX130 _ (u_in_lay (by decide)))
  have hly_15_9 := htw (u_lay RX13 TX13 9) (jWc_wsX130 _ (u_in_lay (by decide)))
  have hly_15_12 := htw (u_lay RX13 TX13 12) (jWc_wsX130 _ (u_in_lay (by decide)))
  have hly_15_13 := htw (u_lay RX13 TX13 13) (jWc_wsX130 _ (u_in_lay (by decide)))
  have hly_15_14 := htw (u_lay RX13 TX13 14) (jWc_wsX130 _ (u_in_lay (by decide)))
  have hly_15_16 := htw (u_lay RX13 TX13 16) (jWc_wsX130 _ (u_in_lay (by decide)))
  have hly_15_17 := htw (u_lay RX13 TX13 17) (jWc_wsX130 _ (u_in_lay (by decide)))
  have hly_15_22 := htw (u_lay RX13 TX13 22) (jWc_wsX130 _ (u_in_lay (by decide)))
  have hly_15_23 := htw (u_lay RX13 TX13 23) (jWc_wsX130 _ (u_in_lay (by decide)))
  have hly_15_24 := htw (u_lay RX13 TX13 24) (jWc_wsX130 _ (u_in_lay (by decide)))
  have hly_15_25 := htw (u_lay RX13 TX13 25) (jWc_wsX130 _ (u_in_lay (by decide)))
  have hly_15_26 := htw (u_lay RX13 TX13 26) (jWc_wsX130 _ (u_in_lay (by decide)))
  have hly_15_27 := htw (u_lay RX13 TX13 27) (jWc_wsX130 _ (u_in_lay (by decide)))
  have hly_15_28 := htw (u_lay RX13 TX13 28) (jWc_wsX130 _ (u_in_lay (by decide)))
  have hly_15_29 := htw (u_lay RX13 TX13 29) (jWc_wsX130 _ (u_in_lay (by decide)))
  have hly_15_35 := htw (u_lay RX13 TX13 35) (jWc_wsX130 _ (u_in_lay (by decide)))
  have hly_15_37 := htw (u_lay RX13 TX13 37) (jWc_wsX130 _ (u_in_lay (by decide)))
  have hly_15_43 := htw (u_lay RX13 TX13 43) (jWc_wsX130 _ (u_in_lay (by decide)))
  have hly_15_44 := htw (u_lay RX13 TX13 44) (jWc_wsX130 _ (u_in_lay (by decide)))
  have hly_15_45 := htw (u_lay RX13 TX13 45) (jWc_wsX130 _ (u_in_lay (by decide)))
  have hly_15_47 := htw (u_lay RX13 TX13 47) (jWc_wsX130 _ (u_in_lay (by decide)))
  have hly_15_48 := htw (u_lay RX13 TX13 48) (jWc_wsX130 _ (u_in_lay (by decide)))
  have hcs_11 := htw (.constant RX13 11 120000) (jWr_14 _ (List.mem_of_getElem? (i := 8) rfl))
  have hlk_12 := (htw (.fieldLink RX13 12 "ProofServerModel$Kernel" "sort" "[I") (jWr_14 _ (List.mem_of_getElem? (i := 9) rfl)))
  have hlk_16 := (htw (.fieldLink RX13 16 "ProofServerModel$Kernel" "name" "[I") (jWr_14 _ (List.mem_of_getElem? (i := 10) rfl)))
  have hlk_19 := (htw (.fieldLink RX13 19 "ProofServerModel$Kernel" "one" "[I") (jWr_14 _ (List.mem_of_getElem? (i := 11) rfl)))
  have hlk_22 := (htw (.fieldLink RX13 22 "ProofServerModel$Kernel" "two" "[I") (jWr_14 _ (List.mem_of_getElem? (i := 12) rfl)))
  have hlk_25 := (htw (.fieldLink RX13 25 "ProofServerModel$Kernel" "three" "[I") (jWr_14 _ (List.mem_of_getElem? (i := 13) rfl)))
  have hlk_28 := (htw (.fieldLink RX13 28 "ProofServerModel$Kernel" "signs" "[I") (jWr_14 _ (List.mem_of_getElem? (i := 14) rfl)))
  have hlk_31 := (htw (.fieldLink RX13 31 "ProofServerModel$Kernel" "nameAt" "[I") (jWr_14 _ (List.mem_of_getElem? (i := 15) rfl)))
  have hlk_34 := (htw (.fieldLink RX13 34 "ProofServerModel$Kernel" "nameLength" "[I") (jWr_14 _ (List.mem_of_getElem? (i := 16) rfl)))
  have hlk_37 := (htw (.fieldLink RX13 37 "ProofServerModel$Kernel" "symbol" "[I") (jWr_14 _ (List.mem_of_getElem? (i := 17) rfl)))
  have hlk_40 := (htw (.fieldLink RX13 40 "ProofServerModel$Kernel" "predicate" "[Z") (jWr_14 _ (List.mem_of_getElem? (i := 18) rfl)))
  have hlk_44 := (htw (.fieldLink RX13 44 "ProofServerModel$Kernel" "arity" "[I") (jWr_14 _ (List.mem_of_getElem? (i := 19) rfl)))
  have hlk_47 := (htw (.fieldLink RX13 47 "ProofServerModel$Kernel" "factName" "[I") (jWr_14 _ (List.mem_of_getElem? (i := 20) rfl)))
  have hlk_50 := (htw (.fieldLink RX13 50 "ProofServerModel$Kernel" "fact" "[I") (jWr_14 _ (List.mem_of_getElem? (i := 21) rfl)))
  have hlk_53 := (htw (.fieldLink RX13 53 "ProofServerModel$Kernel" "goal" "[I") (jWr_14 _ (List.mem_of_getElem? (i := 22) rfl)))
  have hlk_56 := (htw (.fieldLink RX13 56 "ProofServerModel$Kernel" "vars" "[I") (jWr_14 _ (List.mem_of_getElem? (i := 23) rfl)))
  have hlk_59 := (htw (.fieldLink RX13 59 "ProofServerModel$Kernel" "varName" "[I") (jWr_15 _ (List.mem_of_getElem? (i := 0) rfl)))
  have hlk_62 := (htw (.fieldLink RX13 62 "ProofServerModel$Kernel" "hyps" "[I") (jWr_15 _ (List.mem_of_getElem? (i := 1) rfl)))
  have hlk_65 := (htw (.fieldLink RX13 65 "ProofServerModel$Kernel" "hypName" "[I") (jWr_15 _ (List.mem_of_getElem? (i := 2) rfl)))
  have hlk_68 := (htw (.fieldLink RX13 68 "ProofServerModel$Kernel" "hyp" "[I") (jWr_15 _ (List.mem_of_getElem? (i := 3) rfl)))
  have hlk_71 := (htw (.fieldLink RX13 71 "ProofServerModel$Kernel" "kind" "[I") (jWr_15 _ (List.mem_of_getElem? (i := 4) rfl)))
  have hlk_74 := (htw (.fieldLink RX13 74 "ProofServerModel$Kernel" "what" "[I") (jWr_15 _ (List.mem_of_getElem? (i := 5) rfl)))
  have hlk_77 := (htw (.fieldLink RX13 77 "ProofServerModel$Kernel" "binder" "[I") (jWr_15 _ (List.mem_of_getElem? (i := 6) rfl)))
  have hlk_80 := (htw (.fieldLink RX13 80 "ProofServerModel$Kernel" "single" "[I") (jWr_15 _ (List.mem_of_getElem? (i := 7) rfl)))
  have hlk_83 := (htw (.fieldLink RX13 83 "ProofServerModel$Kernel" "terms" "[I") (jWr_15 _ (List.mem_of_getElem? (i := 8) rfl)))
  have hlk_86 := (htw (.fieldLink RX13 86 "ProofServerModel$Kernel" "newGoals" "[I") (jWr_15 _ (List.mem_of_getElem? (i := 9) rfl)))
  have hcs_89 := htw (.constant RX13 89 100000) (jWr_15 _ (List.mem_of_getElem? (i := 10) rfl))
  have hlk_90 := (htw (.fieldLink RX13 90 "ProofServerModel$Kernel" "line" "[I") (jWr_15 _ (List.mem_of_getElem? (i := 11) rfl)))
  have hlk_93 := (htw (.fieldLink RX13 93 "ProofServerModel$Kernel" "writtenName" "[I") (jWr_15 _ (List.mem_of_getElem? (i := 12) rfl)))
  have hlk_96 := (htw (.fieldLink RX13 96 "ProofServerModel$Kernel" "writtenMarks" "[I") (jWr_15 _ (List.mem_of_getElem? (i := 13) rfl)))
  have hbs : base ≤ s.heap.size := Nat.le_of_lt (Nat.lt_of_le_of_lt hbr0 hraw0.lt)
  have hRc : R.cells = LC - s.heap.size := by rw [← hR]; rfl
  have hRs : R.slots = LS - jTot s.heap := by rw [← hR]; rfl
  have hin2 : meth.name = "<init>" := (name_of_methodNamed Bd.named Bd.method).1
  have hkp : jKx r0 G0 G0 s.heap s.heap := jKx.rf
  refine lv_aload_n hx hb dX13_init_0 rfl (lv_at hl 0 rfl) ?_
  refine W.objInit hx hb hown (htw (.methodLink RX13 3 objectInit) (jWr_14 _ (List.mem_of_getElem? (i := 7) rfl))) (htw (.instanceMethod objectInit) (jWr_1 _ (List.mem_of_getElem? (i := 10) rfl))) (htw (.code objectInit ⟨#[0xb1]⟩ 1 none) (jWr_1 _ (List.mem_of_getElem? (i := 11) rfl))) rfl (by rw [hml]; exact hl.1) rfl dX13_init_1 (by rw [← hR]; exact Nat.le_of_ble_eq_true rfl) (by rw [← hR]; exact Nat.le_of_ble_eq_true rfl) ?_
  refine W.eq (g2 := F0 m 4 ls []) rfl ?_
  refine lv_aload_n hx hb dX13_init_4 rfl (lv_at hl 0 rfl) ?_
  refine lv_ldc hx hb hown hcs_11 dX13_init_5 ?_
  have hsz_1 := hh.2.2.2.2.2.1
  have htt_1 := hh.2.2.2.2.2.2.1
  refine j7_newiK hx hb hK hh hB (atype := .int) (ty := .int) (htw (.arrayClass .int) (jWr_3 _ (List.mem_of_getElem? (i := 20) rfl))) rfl rfl (fun _ h => h) hB150 1 rfl (by decide) (by decide) hbs (x := 120000) (by decide) (by omega) (fun j => by first | trivial | decide | rfl | exact Or.inl rfl | (refine ⟨?_, ?_⟩ <;> decide)) (by rw [hRc]; omega) (by rw [hRs]; omega) dX13_init_7 (fun H_1 hfr_1 hh_1 => ?_)
  have hh_1 : jSt (dC, dI) B base G0 (va_up G0 s.heap.size (some (150, 120000))) EX13_init s.heap (0 + 1) (0 + 120000) [] [] [] H_1 [] := hh_1
  have hN_1 : (jNk [0, 1, 2, 3, 4, 5, 6, 7, 8, 9, 10, 11, 12, 13, 14, 16, 17, 175]) G0 (va_up G0 s.heap.size (some (150, 120000))) := jNk.new (by decide)
  have hgn_1 : (va_up G0 s.heap.size (some (150, 120000))) s.heap.size = some (150, 120000) := jUp_self
  have hle_1 : jLe G0 (va_up G0 s.heap.size (some (150, 120000))) := jLe.new hh.2.1.fresh
  have hke_1 : jKe G0 (va_up G0 s.heap.size (some (150, 120000))) s.heap H_1 := jKe.new hfr_1
  have hsy_1 : s.heap.size ≤ s.heap.size := hh.1.1
  generalize (va_up G0 s.heap.size (some (150, 120000))) = G_1 at hN_1 hgn_1 hle_1 hke_1 hh_1
  clear hh
  have hNn_1 : (jNk [0, 1, 2, 3, 4, 5, 6, 7, 8, 9, 10, 11, 12, 13, 14, 16, 17, 175]) G0 G_1 := (jNk.rf).tr hN_1
  have hkp_2 := hkp.tr hke_1
  have hraw_3n := hke_1.nr hraw0.lt hnr0
  have hraw_3 := hraw0.kept (hke_1.1 _ hraw0.lt)
  refine j7_putRF hx hb hown hK hh_1 hB hAp hraw_3 hraw_3n hbr0 (C := RX13) (T := TX13) (N := 50) rfl (i := 0) (by decide) (Nat.le_of_ble_eq_true rfl) hly_15_0 rfl hin2 rfl hlk_12 (ty := (.array .int)) (v := .ref s.heap.size) (by decide +kernel) rfl rfl dX13_init_9 (fun H_4 locs_4 hraw_4 hr_4 hh_4 => ?_)
  have hraw_4 : va_at (dC, dI) vwCl (r0, .inr (15, [.ref s.heap.size, .null, .null, .null, .null, .int 0, .null, .int 0, .null, .null, .int 0, .int 0, .null, .null, .null, .int 0, .null, .null, .int 0, .int 0, .int 0, .int 0, .null, .null, .null, .null, .null, .null, .null, .null, .int 0, .int 0, .int 0, .int 0, .int 0, .null, .int 0, .null, .int 0, .int 0, .int 0, .int 0, .int 0, .null, .null, .null, .int 0, .null, .null, .int 0])) H_4 := hraw_4
  have hkp_5 := hkp_2.put hr_4
  clear hh_1
  refine lv_aload_n hx hb dX13_init_12 rfl (lv_at hl 0 rfl) ?_
  refine lv_ldc hx hb hown hcs_11 dX13_init_13 ?_
  have hsz_6 := hh_4.2.2.2.2.2.1
  have htt_6 := hh_4.2.2.2.2.2.2.1
  refine j7_newiK hx hb hK hh_4 hB (atype := .int) (ty := .int) (htw (.arrayClass .int) (jWr_3 _ (List.mem_of_getElem? (i := 20) rfl))) rfl rfl (fun _ h => h) hB151 1 rfl (by decide) (by decide) hbs (x := 120000) (by decide) (by omega) (fun j => by first | trivial | decide | rfl | exact Or.inl rfl | (refine ⟨?_, ?_⟩ <;> decide)) (by rw [hRc]; omega) (by rw [hRs]; omega) dX13_init_15 (fun H_6 hfr_6 hh_6 => ?_)
  have hh_6 : jSt (dC, dI) B base G0 (va_up G_1 H_4.size (some (151, 120000))) EX13_init s.heap ((0 + 1) + 1) ((0 + 120000) + 120000) [] [] [] H_6 locs_4 := hh_6
  have hN_6 : (jNk [0, 1, 2, 3, 4, 5, 6, 7, 8, 9, 10, 11, 12, 13, 14, 16, 17, 175]) G_1 (va_up G_1 H_4.size (some (151, 120000))) := jNk.new (by decide)
  have hgn_6 : (va_up G_1 H_4.size (some (151, 120000))) H_4.size = some (151, 120000) := jUp_self
  have hle_6 : jLe G_1 (va_up G_1 H_4.size (some (151, 120000))) := jLe.new hh_4.2.1.fresh
  have hke_6 : jKe G_1 (va_up G_1 H_4.size (some (151, 120000))) H_4 H_6 := jKe.new hfr_6
  have hsy_6 : s.heap.size ≤ H_4.size := hh_4.1.1
  generalize (va_up G_1 H_4.size (some (151, 120000))) = G_6 at hN_6 hgn_6 hle_6 hke_6 hh_6
  clear hh_4
  have hNn_6 : (jNk [0, 1, 2, 3, 4, 5, 6, 7, 8, 9, 10, 11, 12, 13, 14, 16, 17, 175]) G0 G_6 := (hNn_1).tr hN_6
  have hkp_7 := hkp_5.tr hke_6
  have hraw_8n := hke_6.nr hraw_4.lt hraw_3n
  have hraw_8 := hraw_4.kept (hke_6.1 _ hraw_4.lt)
  refine j7_putRF hx hb hown hK hh_6 hB hAp hraw_8 hraw_8n hbr0 (C := RX13) (T := TX13) (N := 50) rfl (i := 1) (by decide) (Nat.le_of_ble_eq_true rfl) hly_15_1 rfl hin2 rfl hlk_16 (ty := (.array .int)) (v := .ref H_4.size) (by decide +kernel) rfl rfl dX13_init_17 (fun H_9 locs_9 hraw_9 hr_9 hh_9 => ?_)
  have hraw_9 : va_at (dC, dI) vwCl (r0, .inr (15, [.ref s.heap.size, .ref H_4.size, .null, .null, .null, .int 0, .null, .int 0, .null, .null, .int 0, .int 0, .null, .null, .null, .int 0, .null, .null, .int 0, .int 0, .int 0, .int 0, .null, .null, .null, .null, .null, .null, .null, .null, .int 0, .int 0, .int 0, .int 0, .int 0, .null, .int 0, .null, .int 0, .int 0, .int 0, .int 0, .int 0, .null, .null, .null, .int 0, .null, .null, .int 0])) H_9 := hraw_9
  have hkp_10 := hkp_7.put hr_9
  clear hh_6
  refine lv_aload_n hx hb dX13_init_20 rfl (lv_at hl 0 rfl) ?_
  refine lv_ldc hx hb hown hcs_11 dX13_init_21 ?_
  have hsz_11 := hh_9.2.2.2.2.2.1
  have htt_11 := hh_9.2.2.2.2.2.2.1
  refine j7_newiK hx hb hK hh_9 hB (atype := .int) (ty := .int) (htw (.arrayClass .int) (jWr_3 _ (List.mem_of_getElem? (i := 20) rfl))) rfl rfl (fun _ h => h) hB152 1 rfl (by decide) (by decide) hbs (x := 120000) (by decide) (by omega) (fun j => by first | trivial | decide | rfl | exact Or.inl rfl | (refine ⟨?_, ?_⟩ <;> decide)) (by rw [hRc]; omega) (by rw [hRs]; omega) dX13_init_23 (fun H_11 hfr_11 hh_11 => ?_)
  have hh_11 : jSt (dC, dI) B base G0 (va_up G_6 H_9.size (some (152, 120000))) EX13_init s.heap (((0 + 1) + 1) + 1) (((0 + 120000) + 120000) + 120000) [] [] [] H_11 locs_9 := hh_11
  have hN_11 : (jNk [0, 1, 2, 3, 4, 5, 6, 7, 8, 9, 10, 11, 12, 13, 14, 16, 17, 175]) G_6 (va_up G_6 H_9.size (some (152, 120000))) := jNk.new (by decide)
  have hgn_11 : (va_up G_6 H_9.size (some (152, 120000))) H_9.size = some (152, 120000) := jUp_self
  have hle_11 : jLe G_6 (va_up G_6 H_9.size (some (152, 120000))) := jLe.new hh_9.2.1.fresh
  have hke_11 : jKe G_6 (va_up G_6 H_9.size (some (152, 120000))) H_9 H_11 := jKe.new hfr_11
  have hsy_11 : s.heap.size ≤ H_9.size := hh_9.1.1
  generalize (va_up G_6 H_9.size (some (152, 120000))) = G_11 at hN_11 hgn_11 hle_11 hke_11 hh_11
  clear hh_9
  have hNn_11 : (jNk [0, 1, 2, 3, 4, 5, 6, 7, 8, 9, 10, 11, 12, 13, 14, 16, 17, 175]) G0 G_11 := (hNn_6).tr hN_11
  have hkp_12 := hkp_10.tr hke_11
  have hraw_13n := hke_11.nr hraw_9.lt hraw_8n
  have hraw_13 := hraw_9.kept (hke_11.1 _ hraw_9.lt)
  refine j7_putRF hx hb hown hK hh_11 hB hAp hraw_13 hraw_13n hbr0 (C := RX13) (T := TX13) (N := 50) rfl (i := 2) (by decide) (Nat.le_of_ble_eq_true rfl) hly_15_2 rfl hin2 rfl hlk_19 (ty := (.array .int)) (v := .ref H_9.size) (by decide +kernel) rfl rfl dX13_init_25 (fun H_14 locs_14 hraw_14 hr_14 hh_14 => ?_)
  have hraw_14 : va_at (dC, dI) vwCl (r0, .inr (15, [.ref s.heap.size, .ref H_4.size, .ref H_9.size, .null, .null, .int 0, .null, .int 0, .null, .null, .int 0, .int 0, .null, .null, .null, .int 0, .null, .null, .int 0, .int 0, .int 0, .int 0, .null, .null, .null, .null, .null, .null, .null, .null, .int 0, .int 0, .int 0, .int 0, .int 0, .null, .int 0, .null, .int 0, .int 0, .int 0, .int 0, .int 0, .null, .null, .null, .int 0, .null, .null, .int 0])) H_14 := hraw_14
  have hkp_15 := hkp_12.put hr_14
  clear hh_11
  refine lv_aload_n hx hb dX13_init_28 rfl (lv_at hl 0 rfl) ?_
  refine lv_ldc hx hb hown hcs_11 dX13_init_29 ?_
  have hsz_16 := hh_14.2.2.2.2.2.1
  have htt_16 := hh_14.2.2.2.2.2.2.1
  refine j7_newiK hx hb hK hh_14 hB (atype := .int) (ty := .int) (htw (.arrayClass .int) (jWr_3 _ (List.mem_of_getElem? (i := 20) rfl))) rfl rfl (fun _ h => h) hB153 1 rfl (by decide) (by decide) hbs (x := 120000) (by decide) (by omega) (fun j => by first | trivial | decide | rfl | exact Or.inl rfl | (refine ⟨?_, ?_⟩ <;> decide)) (by rw [hRc]; omega) (by rw [hRs]; omega) dX13_init_31 (fun H_16 hfr_16 hh_16 => ?_)
  have hh_16 : jSt (dC, dI) B base G0 (va_up G_11 H_14.size (some (153, 120000))) EX13_init s.heap ((((0 + 1) + 1) + 1) + 1) ((((0 + 120000) + 120000) + 120000) + 120000) [] [] [] H_16 locs_14 := hh_16
  have hN_16 : (jNk [0, 1, 2, 3, 4, 5, 6, 7, 8, 9, 10, 11, 12, 13, 14, 16, 17, 175]) G_11 (va_up G_11 H_14.size (some (153, 120000))) := jNk.new (by decide)
  have hgn_16 : (va_up G_11 H_14.size (some (153, 120000))) H_14.size = some (153, 120000) := jUp_self
  have hle_16 : jLe G_11 (va_up G_11 H_14.size (some (153, 120000))) := jLe.new hh_14.2.1.fresh
  have hke_16 : jKe G_11 (va_up G_11 H_14.size (some (153, 120000))) H_14 H_16 := jKe.new hfr_16
  have hsy_16 : s.heap.size ≤ H_14.size := hh_14.1.1
  generalize (va_up G_11 H_14.size (some (153, 120000))) = G_16 at hN_16 hgn_16 hle_16 hke_16 hh_16
  clear hh_14
  have hNn_16 : (jNk [0, 1, 2, 3, 4, 5, 6, 7, 8, 9, 10, 11, 12, 13, 14, 16, 17, 175]) G0 G_16 := (hNn_11).tr hN_16
  have hkp_17 := hkp_15.tr hke_16
  have hraw_18n := hke_16.nr hraw_14.lt hraw_13n
  have hraw_18 := hraw_14.kept (hke_16.1 _ hraw_14.lt)
  refine j7_putRF hx hb hown hK hh_16 hB hAp hraw_18 hraw_18n hbr0 (C := RX13) (T := TX13) (N := 50) rfl (i := 3) (by decide) (Nat.le_of_ble_eq_true rfl) hly_15_3 rfl hin2 rfl hlk_22 (ty := (.array .int)) (v := .ref H_14.size) (by decide +kernel) rfl rfl dX13_init_33 (fun H_19 locs_19 hraw_19 hr_19 hh_19 => ?_)
  have hraw_19 : va_at (dC, dI) vwCl (r0, .inr (15, [.ref s.heap.size, .ref H_4.size, .ref H_9.size, .ref H_14.size, .null, .int 0, .null, .int 0, .null, .null, .int 0, .int 0, .null, .null, .null, .int 0, .null, .null, .int 0, .int 0, .int 0, .int 0, .null, .null, .null, .null, .null, .null, .null, .null, .int 0, .int 0, .int 0, .int 0, .int 0, .null, .int 0, .null, .int 0, .int 0, .int 0, .int 0, .int 0, .null, .null, .null, .int 0, .null, .null, .int 0])) H_19 := hraw_19
  have hkp_20 := hkp_17.put hr_19
  clear hh_16
  refine lv_aload_n hx hb dX13_init_36 rfl (lv_at hl 0 rfl) ?_
  refine lv_ldc hx hb hown hcs_11 dX13_init_37 ?_
  have hsz_21 := hh_19.2.2.2.2.2.1
  have htt_21 := hh_19.2.2.2.2.2.2.1
  refine j7_newiK hx hb hK hh_19 hB (atype := .int) (ty := .int) (htw (.arrayClass .int) (jWr_3 _ (List.mem_of_getElem? (i := 20) rfl))) rfl rfl (fun _ h => h) hB154 1 rfl (by decide) (by decide) hbs (x := 120000) (by decide) (by omega) (fun j => by first | trivial | decide | rfl | exact Or.inl rfl | (refine ⟨?_, ?_⟩ <;> decide)) (by rw [hRc]; omega) (by rw [hRs]; omega) dX13_init_39 (fun H_21 hfr_21 hh_21 => ?_)
  have hh_21 : jSt (dC, dI) B base G0 (va_up G_16 H_19.size (some (154, 120000))) EX13_init s.heap (((((0 + 1) + 1) + 1) + 1) + 1) (((((0 + 120000) + 120000) + 120000) + 120000) + 120000) [] [] [] H_21 locs_19 := hh_21
  have hN_21 : (jNk [0, 1, 2, 3, 4, 5, 6, 7, 8, 9, 10, 11, 12, 13, 14, 16, 17, 175]) G_16 (va_up G_16 H_19.size (some (154, 120000))) := jNk.new (by decide)
  have hgn_21 : (va_up G_16 H_19.size (some (154, 120000))) H_19.size = some (154, 120000) := jUp_self
  have hle_21 : jLe G_16 (va_up G_16 H_19.size (some (154, 120000))) := jLe.new hh_19.2.1.fresh
  have hke_21 : jKe G_16 (va_up G_16 H_19.size (some (154, 120000))) H_19 H_21 := jKe.new hfr_21
  have hsy_21 : s.heap.size ≤ H_19.size := hh_19.1.1
  generalize (va_up G_16 H_19.size (some (154, 120000))) = G_21 at hN_21 hgn_21 hle_21 hke_21 hh_21
  clear hh_19
  have hNn_21 : (jNk [0, 1, 2, 3, 4, 5, 6, 7, 8, 9, 10, 11, 12, 13, 14, 16, 17, 175]) G0 G_21 := (hNn_16).tr hN_21
  have hkp_22 := hkp_20.tr hke_21
  have hraw_23n := hke_21.nr hraw_19.lt hraw_18n
  have hraw_23 := hraw_19.kept (hke_21.1 _ hraw_19.lt)
  refine j7_putRF hx hb hown hK hh_21 hB hAp hraw_23 hraw_23n hbr0 (C := RX13) (T := TX13) (N := 50) rfl (i := 4) (by decide) (Nat.le_of_ble_eq_true rfl) hly_15_4 rfl hin2 rfl hlk_25 (ty := (.array .int)) (v := .ref H_19.size) (by decide +kernel) rfl rfl dX13_init_41 (fun H_24 locs_24 hraw_24 hr_24 hh_24 => ?_)
  have hraw_24 : va_at (dC, dI) vwCl (r0, .inr (15, [.ref s.heap.size, .ref H_4.size, .ref H_9.size, .ref H_14.size, .ref H_19.size, .int 0, .null, .int 0, .null, .null, .int 0, .int 0, .null, .null, .null, .int 0, .null, .null, .int 0, .int 0, .int 0, .int 0, .null, .null, .null, .null, .null, .null, .null, .null, .int 0, .int 0, .int 0, .int 0, .int 0, .null, .int 0, .null, .int 0, .int 0, .int 0, .int 0, .int 0, .null, .null, .null, .int 0, .null, .null, .int 0])) H_24 := hraw_24
  have hkp_25 := hkp_22.put hr_24
  clear hh_21
  refine lv_aload_n hx hb dX13_init_44 rfl (lv_at hl 0 rfl) ?_
  refine lv_sipush (v := 12000) hx hb dX13_init_45 (by decide) ?_
  have hsz_26 := hh_24.2.2.2.2.2.1
  have htt_26 := hh_24.2.2.2.2.2.2.1
  refine j7_newiK hx hb hK hh_24 hB (atype := .int) (ty := .int) (htw (.arrayClass .int) (jWr_3 _ (List.mem_of_getElem? (i := 20) rfl))) rfl rfl (fun _ h => h) hB166 1 rfl (by decide) (by decide) hbs (x := 12000) (by decide) (by omega) (fun j => by first | trivial | decide | rfl | exact Or.inl rfl | (refine ⟨?_, ?_⟩ <;> decide)) (by rw [hRc]; omega) (by rw [hRs]; omega) dX13_init_48 (fun H_26 hfr_26 hh_26 => ?_)
  have hh_26 : jSt (dC, dI) B base G0 (va_up G_21 H_24.size (some (166, 12000))) EX13_init s.heap ((((((0 + 1) + 1) + 1) + 1) + 1) + 1) ((((((0 + 120000) + 120000) + 120000) + 120000) + 120000) + 12000) [] [] [] H_26 locs_24 := hh_26
  have hN_26 : (jNk [0, 1, 2, 3, 4, 5, 6, 7, 8, 9, 10, 11, 12, 13, 14, 16, 17, 175]) G_21 (va_up G_21 H_24.size (some (166, 12000))) := jNk.new (by decide)
  have hgn_26 : (va_up G_21 H_24.size (some (166, 12000))) H_24.size = some (166, 12000) := jUp_self
  have hle_26 : jLe G_21 (va_up G_21 H_24.size (some (166, 12000))) := jLe.new hh_24.2.1.fresh
  have hke_26 : jKe G_21 (va_up G_21 H_24.size (some (166, 12000))) H_24 H_26 := jKe.new hfr_26
  have hsy_26 : s.heap.size ≤ H_24.size := hh_24.1.1
  generalize (va_up G_21 H_24.size (some (166, 12000))) = G_26 at hN_26 hgn_26 hle_26 hke_26 hh_26
  clear hh_24
  have hNn_26 : (jNk [0, 1, 2, 3, 4, 5, 6, 7, 8, 9, 10, 11, 12, 13, 14, 16, 17, 175]) G0 G_26 := (hNn_21).tr hN_26
  have hkp_27 := hkp_25.tr hke_26
  have hraw_28n := hke_26.nr hraw_24.lt hraw_23n
  have hraw_28 := hraw_24.kept (hke_26.1 _ hraw_24.lt)
  refine j7_putRF hx hb hown hK hh_26 hB hAp hraw_28 hraw_28n hbr0 (C := RX13) (T := TX13) (N := 50) rfl (i := 6) (by decide) (Nat.le_of_ble_eq_true rfl) hly_15_6 rfl hin2 rfl hlk_28 (ty := (.array .int)) (v := .ref H_24.size) (by decide +kernel) rfl rfl dX13_init_50 (fun H_29 locs_29 hraw_29 hr_29 hh_29 => ?_)
  have hraw_29 : va_at (dC, dI) vwCl (r0, .inr (15, [.ref s.heap.size, .ref H_4.size, .ref H_9.size, .ref H_14.size, .ref H_19.size, .int 0, .ref H_24.size, .int 0, .null, .null, .int 0, .int 0, .null, .null, .null, .int 0, .null, .null, .int 0, .int 0, .int 0, .int 0, .null, .null, .null, .null, .null, .null, .null, .null, .int 0, .int 0, .int 0, .int 0, .int 0, .null, .int 0, .null, .int 0, .int 0, .int 0, .int 0, .int 0, .null, .null, .null, .int 0, .null, .null, .int 0])) H_29 := hraw_29
  have hkp_30 := hkp_27.put hr_29
  clear hh_26
  refine lv_aload_n hx hb dX13_init_53 rfl (lv_at hl 0 rfl) ?_
  refine lv_sipush (v := 1600) hx hb dX13_init_54 (by decide) ?_
  have hsz_31 := hh_29.2.2.2.2.2.1
  have htt_31 := hh_29.2.2.2.2.2.2.1
  refine j7_newiK hx hb hK hh_29 hB (atype := .int) (ty := .int) (htw (.arrayClass .int) (jWr_3 _ (List.mem_of_getElem? (i := 20) rfl))) rfl rfl (fun _ h => h) hB155 1 rfl (by decide) (by decide) hbs (x := 1600) (by decide) (by omega) (fun j => by first | trivial | decide | rfl | exact Or.inl rfl | (refine ⟨?_, ?_⟩ <;> decide)) (by rw [hRc]; omega) (by rw [hRs]; omega) dX13_init_57 (fun H_31 hfr_31 hh_31 => ?_)
  have hh_31 : jSt (dC, dI) B base G0 (va_up G_26 H_29.size (some (155, 1600))) EX13_init s.heap (((((((0 + 1) + 1) + 1) + 1) + 1) + 1) + 1) (((((((0 + 120000) + 120000) + 120000) + 120000) + 120000) + 12000) + 1600) [] [] [] H_31 locs_29 := hh_31
  have hN_31 : (jNk [0, 1, 2, 3, 4, 5, 6, 7, 8, 9, 10, 11, 12, 13, 14, 16, 17, 175]) G_26 (va_up G_26 H_29.size (some (155, 1600))) := jNk.new (by decide)
  have hgn_31 : (va_up G_26 H_29.size (some (155, 1600))) H_29.size = some (155, 1600) := jUp_self
  have hle_31 : jLe G_26 (va_up G_26 H_29.size (some (155, 1600))) := jLe.new hh_29.2.1.fresh
  have hke_31 : jKe G_26 (va_up G_26 H_29.size (some (155, 1600))) H_29 H_31 := jKe.new hfr_31
  have hsy_31 : s.heap.size ≤ H_29.size := hh_29.1.1
  generalize (va_up G_26 H_29.size (some (155, 1600))) = G_31 at hN_31 hgn_31 hle_31 hke_31 hh_31
  clear hh_29
  have hNn_31 : (jNk [0, 1, 2, 3, 4, 5, 6, 7, 8, 9, 10, 11, 12, 13, 14, 16, 17, 175]) G0 G_31 := (hNn_26).tr hN_31
  have hkp_32 := hkp_30.tr hke_31
  have hraw_33n := hke_31.nr hraw_29.lt hraw_28n
  have hraw_33 := hraw_29.kept (hke_31.1 _ hraw_29.lt)
  refine j7_putRF hx hb hown hK hh_31 hB hAp hraw_33 hraw_33n hbr0 (C := RX13) (T := TX13) (N := 50) rfl (i := 8) (by decide) (Nat.le_of_ble_eq_true rfl) hly_15_8 rfl hin2 rfl hlk_31 (ty := (.array .int)) (v := .ref H_29.size) (by decide +kernel) rfl rfl dX13_init_59 (fun H_34 locs_34 hraw_34 hr_34 hh_34 => ?_)
  have hraw_34 : va_at (dC, dI) vwCl (r0, .inr (15, [.ref s.heap.size, .ref H_4.size, .ref H_9.size, .ref H_14.size, .ref H_19.size, .int 0, .ref H_24.size, .int 0, .ref H_29.size, .null, .int 0, .int 0, .null, .null, .null, .int 0, .null, .null, .int 0, .int 0, .int 0, .int 0, .null, .null, .null, .null, .null, .null, .null, .null, .int 0, .int 0, .int 0, .int 0, .int 0, .null, .int 0, .null, .int 0, .int 0, .int 0, .int 0, .int 0, .null, .null, .null, .int 0, .null, .null, .int 0])) H_34 := hraw_34
  have hkp_35 := hkp_32.put hr_34
  clear hh_31
  refine lv_aload_n hx hb dX13_init_62 rfl (lv_at hl 0 rfl) ?_
  refine lv_sipush (v := 1600) hx hb dX13_init_63 (by decide) ?_
  have hsz_36 := hh_34.2.2.2.2.2.1
  have htt_36 := hh_34.2.2.2.2.2.2.1
  refine j7_newiK hx hb hK hh_34 hB (atype := .int) (ty := .int) (htw (.arrayClass .int) (jWr_3 _ (List.mem_of_getElem? (i := 20) rfl))) rfl rfl (fun _ h => h) hB156 1 rfl (by decide) (by decide) hbs (x := 1600) (by decide) (by omega) (fun j => by first | trivial | decide | rfl | exact Or.inl rfl | (refine ⟨?_, ?_⟩ <;> decide)) (by rw [hRc]; omega) (by rw [hRs]; omega) dX13_init_66 (fun H_36 hfr_36 hh_36 => ?_)
  have hh_36 : jSt (dC, dI) B base G0 (va_up G_31 H_34.size (some (156, 1600))) EX13_init s.heap ((((((((0 + 1) + 1) + 1) + 1) + 1) + 1) + 1) + 1) ((((((((0 + 120000) + 120000) + 120000) + 120000) + 120000) + 12000) + 1600) + 1600) [] [] [] H_36 locs_34 := hh_36
  have hN_36 : (jNk [0, 1, 2, 3, 4, 5, 6, 7, 8, 9, 10, 11, 12, 13, 14, 16, 17, 175]) G_31 (va_up G_31 H_34.size (some (156, 1600))) := jNk.new (by decide)
  have hgn_36 : (va_up G_31 H_34.size (some (156, 1600))) H_34.size = some (156, 1600) := jUp_self
  have hle_36 : jLe G_31 (va_up G_31 H_34.size (some (156, 1600))) := jLe.new hh_34.2.1.fresh
  have hke_36 : jKe G_31 (va_up G_31 H_34.size (some (156, 1600))) H_34 H_36 := jKe.new hfr_36
  have hsy_36 : s.heap.size ≤ H_34.size := hh_34.1.1
  generalize (va_up G_31 H_34.size (some (156, 1600))) = G_36 at hN_36 hgn_36 hle_36 hke_36 hh_36
  clear hh_34
  have hNn_36 : (jNk [0, 1, 2, 3, 4, 5, 6, 7, 8, 9, 10, 11, 12, 13, 14, 16, 17, 175]) G0 G_36 := (hNn_31).tr hN_36
  have hkp_37 := hkp_35.tr hke_36
  have hraw_38n := hke_36.nr hraw_34.lt hraw_33n
  have hraw_38 := hraw_34.kept (hke_36.1 _ hraw_34.lt)
  refine j7_putRF hx hb hown hK hh_36 hB hAp hraw_38 hraw_38n hbr0 (C := RX13) (T := TX13) (N := 50) rfl (i := 9) (by decide) (Nat.le_of_ble_eq_true rfl) hly_15_9 rfl hin2 rfl hlk_34 (ty := (.array .int)) (v := .ref H_34.size) (by decide +kernel) rfl rfl dX13_init_68 (fun H_39 locs_39 hraw_39 hr_39 hh_39 => ?_)
  have hraw_39 : va_at (dC, dI) vwCl (r0, .inr (15, [.ref s.heap.size, .ref H_4.size, .ref H_9.size, .ref H_14.size, .ref H_19.size, .int 0, .ref H_24.size, .int 0, .ref H_29.size, .ref H_34.size, .int 0, .int 0, .null, .null, .null, .int 0, .null, .null, .int 0, .int 0, .int 0, .int 0, .null, .null, .null, .null, .null, .null, .null, .null, .int 0, .int 0, .int 0, .int 0, .int 0, .null, .int 0, .null, .int 0, .int 0, .int 0, .int 0, .int 0, .null, .null, .null, .int 0, .null, .null, .int 0])) H_39 := hraw_39
  have hkp_40 := hkp_37.put hr_39
  clear hh_36
  refine lv_aload_n hx hb dX13_init_71 rfl (lv_at hl 0 rfl) ?_
  refine lv_bipush (v := 16) hx hb dX13_init_72 (by decide) ?_
  have hsz_41 := hh_39.2.2.2.2.2.1
  have htt_41 := hh_39.2.2.2.2.2.2.1
  refine j7_newiK hx hb hK hh_39 hB (atype := .int) (ty := .int) (htw (.arrayClass .int) (jWr_3 _ (List.mem_of_getElem? (i := 20) rfl))) rfl rfl (fun _ h => h) hB163 1 rfl (by decide) (by decide) hbs (x := 16) (by decide) (by omega) (fun j => by first | trivial | decide | rfl | exact Or.inl rfl | (refine ⟨?_, ?_⟩ <;> decide)) (by rw [hRc]; omega) (by rw [hRs]; omega) dX13_init_74 (fun H_41 hfr_41 hh_41 => ?_)
  have hh_41 : jSt (dC, dI) B base G0 (va_up G_36 H_39.size (some (163, 16))) EX13_init s.heap (((((((((0 + 1) + 1) + 1) + 1) + 1) + 1) + 1) + 1) + 1) (((((((((0 + 120000) + 120000) + 120000) + 120000) + 120000) + 12000) + 1600) + 1600) + 16) [] [] [] H_41 locs_39 := hh_41
  have hN_41 : (jNk [0, 1, 2, 3, 4, 5, 6, 7, 8, 9, 10, 11, 12, 13, 14, 16, 17, 175]) G_36 (va_up G_36 H_39.size (some (163, 16))) := jNk.new (by decide)
  have hgn_41 : (va_up G_36 H_39.size (some (163, 16))) H_39.size = some (163, 16) := jUp_self
  have hle_41 : jLe G_36 (va_up G_36 H_39.size (some (163, 16))) := jLe.new hh_39.2.1.fresh
  have hke_41 : jKe G_36 (va_up G_36 H_39.size (some (163, 16))) H_39 H_41 := jKe.new hfr_41
  have hsy_41 : s.heap.size ≤ H_39.size := hh_39.1.1
  generalize (va_up G_36 H_39.size (some (163, 16))) = G_41 at hN_41 hgn_41 hle_41 hke_41 hh_41
  clear hh_39
  have hNn_41 : (jNk [0, 1, 2, 3, 4, 5, 6, 7, 8, 9, 10, 11, 12, 13, 14, 16, 17, 175]) G0 G_41 := (hNn_36).tr hN_41
  have hkp_42 := hkp_40.tr hke_41
  have hraw_43n := hke_41.nr hraw_39.lt hraw_38n
  have hraw_43 := hraw_39.kept (hke_41.1 _ hraw_39.lt)
  refine j7_putRF hx hb hown hK hh_41 hB hAp hraw_43 hraw_43n hbr0 (C := RX13) (T := TX13) (N := 50) rfl (i := 12) (by decide) (Nat.le_of_ble_eq_true rfl) hly_15_12 rfl hin2 rfl hlk_37 (ty := (.array .int)) (v := .ref H_39.size) (by decide +kernel) rfl rfl dX13_init_76 (fun H_44 locs_44 hraw_44 hr_44 hh_44 => ?_)
  have hraw_44 : va_at (dC, dI) vwCl (r0, .inr (15, [.ref s.heap.size, .ref H_4.size, .ref H_9.size, .ref H_14.size, .ref H_19.size, .int 0, .ref H_24.size, .int 0, .ref H_29.size, .ref H_34.size, .int 0, .int 0, .ref H_39.size, .null, .null, .int 0, .null, .null, .int 0, .int 0, .int 0, .int 0, .null, .null, .null, .null, .null, .null, .null, .null, .int 0, .int 0, .int 0, .int 0, .int 0, .null, .int 0, .null, .int 0, .int 0, .int 0, .int 0, .int 0, .null, .null, .null, .int 0, .null, .null, .int 0])) H_44 := hraw_44
  have hkp_45 := hkp_42.put hr_44
  clear hh_41
  refine lv_aload_n hx hb dX13_init_79 rfl (lv_at hl 0 rfl) ?_
  refine lv_bipush (v := 16) hx hb dX13_init_80 (by decide) ?_
  have hsz_46 := hh_44.2.2.2.2.2.1
  have htt_46 := hh_44.2.2.2.2.2.2.1
  refine j7_newiK hx hb hK hh_44 hB (atype := .boolean) (ty := .boolean) (htw (.arrayClass .boolean) (jWr_11 _ (List.mem_of_getElem? (i := 11) rfl))) rfl rfl (fun _ h => h) hB103 3 rfl (by decide) (by decide) hbs (x := 16) (by decide) (by omega) (fun j => by first | trivial | decide | rfl | exact Or.inl rfl | (refine ⟨?_, ?_⟩ <;> decide)) (by rw [hRc]; omega) (by rw [hRs]; omega) dX13_init_82 (fun H_46 hfr_46 hh_46 => ?_)
  have hh_46 : jSt (dC, dI) B base G0 (va_up G_41 H_44.size (some (103, 16))) EX13_init s.heap ((((((((((0 + 1) + 1) + 1) + 1) + 1) + 1) + 1) + 1) + 1) + 1) ((((((((((0 + 120000) + 120000) + 120000) + 120000) + 120000) + 12000) + 1600) + 1600) + 16) + 16) [] [] [] H_46 locs_44 := hh_46
  have hN_46 : (jNk [0, 1, 2, 3, 4, 5, 6, 7, 8, 9, 10, 11, 12, 13, 14, 16, 17, 175]) G_41 (va_up G_41 H_44.size (some (103, 16))) := jNk.new (by decide)
  have hgn_46 : (va_up G_41 H_44.size (some (103, 16))) H_44.size = some (103, 16) := jUp_self
  have hle_46 : jLe G_41 (va_up G_41 H_44.size (some (103, 16))) := jLe.new hh_44.2.1.fresh
  have hke_46 : jKe G_41 (va_up G_41 H_44.size (some (103, 16))) H_44 H_46 := jKe.new hfr_46
  have hsy_46 : s.heap.size ≤ H_44.size := hh_44.1.1
  generalize (va_up G_41 H_44.size (some (103, 16))) = G_46 at hN_46 hgn_46 hle_46 hke_46 hh_46
  clear hh_44
  have hNn_46 : (jNk [0, 1, 2, 3, 4, 5, 6, 7, 8, 9, 10, 11, 12, 13, 14, 16, 17, 175]) G0 G_46 := (hNn_41).tr hN_46
  have hkp_47 := hkp_45.tr hke_46
  have hraw_48n := hke_46.nr hraw_44.lt hraw_43n
  have hraw_48 := hraw_44.kept (hke_46.1 _ hraw_44.lt)
  refine j7_putRF hx hb hown hK hh_46 hB hAp hraw_48 hraw_48n hbr0 (C := RX13) (T := TX13) (N := 50) rfl (i := 13) (by decide) (Nat.le_of_ble_eq_true rfl) hly_15_13 rfl hin2 rfl hlk_40 (ty := (.array .boolean)) (v := .ref H_44.size) (by decide +kernel) rfl rfl dX13_init_84 (fun H_49 locs_49 hraw_49 hr_49 hh_49 => ?_)
  have hraw_49 : va_at (dC, dI) vwCl (r0, .inr (15, [.ref s.heap.size, .ref H_4.size, .ref H_9.size, .ref H_14.size, .ref H_19.size, .int 0, .ref H_24.size, .int 0, .ref H_29.size, .ref H_34.size, .int 0, .int 0, .ref H_39.size, .ref H_44.size, .null, .int 0, .null, .null, .int 0, .int 0, .int 0, .int 0, .null, .null, .null, .null, .null, .null, .null, .null, .int 0, .int 0, .int 0, .int 0, .int 0, .null, .int 0, .null, .int 0, .int 0, .int 0, .int 0, .int 0, .null, .null, .null, .int 0, .null, .null, .int 0])) H_49 := hraw_49
  have hkp_50 := hkp_47.put hr_49
  clear hh_46
  refine lv_aload_n hx hb dX13_init_87 rfl (lv_at hl 0 rfl) ?_
  refine lv_bipush (v := 16) hx hb dX13_init_88 (by decide) ?_
  have hsz_51 := hh_49.2.2.2.2.2.1
  have htt_51 := hh_49.2.2.2.2.2.2.1
  refine j7_newiK hx hb hK hh_49 hB (atype := .int) (ty := .int) (htw (.arrayClass .int) (jWr_3 _ (List.mem_of_getElem? (i := 20) rfl))) rfl rfl (fun _ h => h) hB165 1 rfl (by decide) (by decide) hbs (x := 16) (by decide) (by omega) (fun j => by first | trivial | decide | rfl | exact Or.inl rfl | (refine ⟨?_, ?_⟩ <;> decide)) (by rw [hRc]; omega) (by rw [hRs]; omega) dX13_init_90 (fun H_51 hfr_51 hh_51 => ?_)
  have hh_51 : jSt (dC, dI) B base G0 (va_up G_46 H_49.size (some (165, 16))) EX13_init s.heap (((((((((((0 + 1) + 1) + 1) + 1) + 1) + 1) + 1) + 1) + 1) + 1) + 1) (((((((((((0 + 120000) + 120000) + 120000) + 120000) + 120000) + 12000) + 1600) + 1600) + 16) + 16) + 16) [] [] [] H_51 locs_49 := hh_51
  have hN_51 : (jNk [0, 1, 2, 3, 4, 5, 6, 7, 8, 9, 10, 11, 12, 13, 14, 16, 17, 175]) G_46 (va_up G_46 H_49.size (some (165, 16))) := jNk.new (by decide)
  have hgn_51 : (va_up G_46 H_49.size (some (165, 16))) H_49.size = some (165, 16) := jUp_self
  have hle_51 : jLe G_46 (va_up G_46 H_49.size (some (165, 16))) := jLe.new hh_49.2.1.fresh
  have hke_51 : jKe G_46 (va_up G_46 H_49.size (some (165, 16))) H_49 H_51 := jKe.new hfr_51
  have hsy_51 : s.heap.size ≤ H_49.size := hh_49.1.1
  generalize (va_up G_46 H_49.size (some (165, 16))) = G_51 at hN_51 hgn_51 hle_51 hke_51 hh_51
  clear hh_49
  have hNn_51 : (jNk [0, 1, 2, 3, 4, 5, 6, 7, 8, 9, 10, 11, 12, 13, 14, 16, 17, 175]) G0 G_51 := (hNn_46).tr hN_51
  have hkp_52 := hkp_50.tr hke_51
  have hraw_53n := hke_51.nr hraw_49.lt hraw_48n
  have hraw_53 := hraw_49.kept (hke_51.1 _ hraw_49.lt)
  refine j7_putRF hx hb hown hK hh_51 hB hAp hraw_53 hraw_53n hbr0 (C := RX13) (T := TX13) (N := 50) rfl (i := 14) (by decide) (Nat.le_of_ble_eq_true rfl) hly_15_14 rfl hin2 rfl hlk_44 (ty := (.array .int)) (v := .ref H_49.size) (by decide +kernel) rfl rfl dX13_init_92 (fun H_54 locs_54 hraw_54 hr_54 hh_54 => ?_)
  have hraw_54 : va_at (dC, dI) vwCl (r0, .inr (15, [.ref s.heap.size, .ref H_4.size, .ref H_9.size, .ref H_14.size, .ref H_19.size, .int 0, .ref H_24.size, .int 0, .ref H_29.size, .ref H_34.size, .int 0, .int 0, .ref H_39.size, .ref H_44.size, .ref H_49.size, .int 0, .null, .null, .int 0, .int 0, .int 0, .int 0, .null, .null, .null, .null, .null, .null, .null, .null, .int 0, .int 0, .int 0, .int 0, .int 0, .null, .int 0, .null, .int 0, .int 0, .int 0, .int 0, .int 0, .null, .null, .null, .int 0, .null, .null, .int 0])) H_54 := hraw_54
  have hkp_55 := hkp_52.put hr_54
  clear hh_51
  refine lv_aload_n hx hb dX13_init_95 rfl (lv_at hl 0 rfl) ?_
  refine lv_bipush (v := 16) hx hb dX13_init_96 (by decide) ?_
  have hsz_56 := hh_54.2.2.2.2.2.1
  have htt_56 := hh_54.2.2.2.2.2.2.1
  refine j7_newiK hx hb hK hh_54 hB (atype := .int) (ty := .int) (htw (.arrayClass .int) (jWr_3 _ (List.mem_of_getElem? (i := 20) rfl))) rfl rfl (fun _ h => h) hB163 1 rfl (by decide) (by decide) hbs (x := 16) (by decide) (by omega) (fun j => by first | trivial | decide | rfl | exact Or.inl rfl | (refine ⟨?_, ?_⟩ <;> decide)) (by rw [hRc]; omega) (by rw [hRs]; omega) dX13_init_98 (fun H_56 hfr_56 hh_56 => ?_)
  have hh_56 : jSt (dC, dI) B base G0 (va_up G_51 H_54.size (some (163, 16))) EX13_init s.heap ((((((((((((0 + 1) + 1) + 1) + 1) + 1) + 1) + 1) + 1) + 1) + 1) + 1) + 1) ((((((((((((0 + 120000) + 120000) + 120000) + 120000) + 120000) + 12000) + 1600) + 1600) + 16) + 16) + 16) + 16) [] [] [] H_56 locs_54 := hh_56
  have hN_56 : (jNk [0, 1, 2, 3, 4, 5, 6, 7, 8, 9, 10, 11, 12, 13, 14, 16, 17, 175]) G_51 (va_up G_51 H_54.size (some (163, 16))) := jNk.new (by decide)
  have hgn_56 : (va_up G_51 H_54.size (some (163, 16))) H_54.size = some (163, 16) := jUp_self
  have hle_56 : jLe G_51 (va_up G_51 H_54.size (some (163, 16))) := jLe.new hh_54.2.1.fresh
  have hke_56 : jKe G_51 (va_up G_51 H_54.size (some (163, 16))) H_54 H_56 := jKe.new hfr_56
  have hsy_56 : s.heap.size ≤ H_54.size := hh_54.1.1
  generalize (va_up G_51 H_54.size (some (163, 16))) = G_56 at hN_56 hgn_56 hle_56 hke_56 hh_56
  clear hh_54
  have hNn_56 : (jNk [0, 1, 2, 3, 4, 5, 6, 7, 8, 9, 10, 11, 12, 13, 14, 16, 17, 175]) G0 G_56 := (hNn_51).tr hN_56
  have hkp_57 := hkp_55.tr hke_56
  have hraw_58n := hke_56.nr hraw_54.lt hraw_53n
  have hraw_58 := hraw_54.kept (hke_56.1 _ hraw_54.lt)
  refine j7_putRF hx hb hown hK hh_56 hB hAp hraw_58 hraw_58n hbr0 (C := RX13) (T := TX13) (N := 50) rfl (i := 16) (by decide) (Nat.le_of_ble_eq_true rfl) hly_15_16 rfl hin2 rfl hlk_47 (ty := (.array .int)) (v := .ref H_54.size) (by decide +kernel) rfl rfl dX13_init_100 (fun H_59 locs_59 hraw_59 hr_59 hh_59 => ?_)
  have hraw_59 : va_at (dC, dI) vwCl (r0, .inr (15, [.ref s.heap.size, .ref H_4.size, .ref H_9.size, .ref H_14.size, .ref H_19.size, .int 0, .ref H_24.size, .int 0, .ref H_29.size, .ref H_34.size, .int 0, .int 0, .ref H_39.size, .ref H_44.size, .ref H_49.size, .int 0, .ref H_54.size, .null, .int 0, .int 0, .int 0, .int 0, .null, .null, .null, .null, .null, .null, .null, .null, .int 0, .int 0, .int 0, .int 0, .int 0, .null, .int 0, .null, .int 0, .int 0, .int 0, .int 0, .int 0, .null, .null, .null, .int 0, .null, .null, .int 0])) H_59 := hraw_59
  have hkp_60 := hkp_57.put hr_59
  clear hh_56
  refine lv_aload_n hx hb dX13_init_103 rfl (lv_at hl 0 rfl) ?_
  refine lv_bipush (v := 16) hx hb dX13_init_104 (by decide) ?_
  have hsz_61 := hh_59.2.2.2.2.2.1
  have htt_61 := hh_59.2.2.2.2.2.2.1
  refine j7_newiK hx hb hK hh_59 hB (atype := .int) (ty := .int) (htw (.arrayClass .int) (jWr_3 _ (List.mem_of_getElem? (i := 20) rfl))) rfl rfl (fun _ h => h) hB160 1 rfl (by decide) (by decide) hbs (x := 16) (by decide) (by omega) (fun j => by first | trivial | decide | rfl | exact Or.inl rfl | (refine ⟨?_, ?_⟩ <;> decide)) (by rw [hRc]; omega) (by rw [hRs]; omega) dX13_init_106 (fun H_61 hfr_61 hh_61 => ?_)
  have hh_61 : jSt (dC, dI) B base G0 (va_up G_56 H_59.size (some (160, 16))) EX13_init s.heap (((((((((((((0 + 1) + 1) + 1) + 1) + 1) + 1) + 1) + 1) + 1) + 1) + 1) + 1) + 1) (((((((((((((0 + 120000) + 120000) + 120000) + 120000) + 120000) + 12000) + 1600) + 1600) + 16) + 16) + 16) + 16) + 16) [] [] [] H_61 locs_59 := hh_61
  have hN_61 : (jNk [0, 1, 2, 3, 4, 5, 6, 7, 8, 9, 10, 11, 12, 13, 14, 16, 17, 175]) G_56 (va_up G_56 H_59.size (some (160, 16))) := jNk.new (by decide)
  have hgn_61 : (va_up G_56 H_59.size (some (160, 16))) H_59.size = some (160, 16) := jUp_self
  have hle_61 : jLe G_56 (va_up G_56 H_59.size (some (160, 16))) := jLe.new hh_59.2.1.fresh
  have hke_61 : jKe G_56 (va_up G_56 H_59.size (some (160, 16))) H_59 H_61 := jKe.new hfr_61
  have hsy_61 : s.heap.size ≤ H_59.size := hh_59.1.1
  generalize (va_up G_56 H_59.size (some (160, 16))) = G_61 at hN_61 hgn_61 hle_61 hke_61 hh_61
  clear hh_59
  have hNn_61 : (jNk [0, 1, 2, 3, 4, 5, 6, 7, 8, 9, 10, 11, 12, 13, 14, 16, 17, 175]) G0 G_61 := (hNn_56).tr hN_61
  have hkp_62 := hkp_60.tr hke_61
  have hraw_63n := hke_61.nr hraw_59.lt hraw_58n
  have hraw_63 := hraw_59.kept (hke_61.1 _ hraw_59.lt)
  refine j7_putRF hx hb hown hK hh_61 hB hAp hraw_63 hraw_63n hbr0 (C := RX13) (T := TX13) (N := 50) rfl (i := 17) (by decide) (Nat.le_of_ble_eq_true rfl) hly_15_17 rfl hin2 rfl hlk_50 (ty := (.array .int)) (v := .ref H_59.size) (by decide +kernel) rfl rfl dX13_init_108 (fun H_64 locs_64 hraw_64 hr_64 hh_64 => ?_)
  have hraw_64 : va_at (dC, dI) vwCl (r0, .inr (15, [.ref s.heap.size, .ref H_4.size, .ref H_9.size, .ref H_14.size, .ref H_19.size, .int 0, .ref H_24.size, .int 0, .ref H_29.size, .ref H_34.size, .int 0, .int 0, .ref H_39.size, .ref H_44.size, .ref H_49.size, .int 0, .ref H_54.size, .ref H_59.size, .int 0, .int 0, .int 0, .int 0, .null, .null, .null, .null, .null, .null, .null, .null, .int 0, .int 0, .int 0, .int 0, .int 0, .null, .int 0, .null, .int 0, .int 0, .int 0, .int 0, .int 0, .null, .null, .null, .int 0, .null, .null, .int 0])) H_64 := hraw_64
  have hkp_65 := hkp_62.put hr_64
  clear hh_61
  refine lv_aload_n hx hb dX13_init_111 rfl (lv_at hl 0 rfl) ?_
  refine lv_bipush (v := 46) hx hb dX13_init_112 (by decide) ?_
  have hsz_66 := hh_64.2.2.2.2.2.1
  have htt_66 := hh_64.2.2.2.2.2.2.1
  refine j7_newiK hx hb hK hh_64 hB (atype := .int) (ty := .int) (htw (.arrayClass .int) (jWr_3 _ (List.mem_of_getElem? (i := 20) rfl))) rfl rfl (fun _ h => h) hB161 1 rfl (by decide) (by decide) hbs (x := 46) (by decide) (by omega) (fun j => by first | trivial | decide | rfl | exact Or.inl rfl | (refine ⟨?_, ?_⟩ <;> decide)) (by rw [hRc]; omega) (by rw [hRs]; omega) dX13_init_114 (fun H_66 hfr_66 hh_66 => ?_)
  have hh_66 : jSt (dC, dI) B base G0 (va_up G_61 H_64.size (some (161, 46))) EX13_init s.heap ((((((((((((((0 + 1) + 1) + 1) + 1) + 1) + 1) + 1) + 1) + 1) + 1) + 1) + 1) + 1) + 1) ((((((((((((((0 + 120000) + 120000) + 120000) + 120000) + 120000) + 12000) + 1600) + 1600) + 16) + 16) + 16) + 16) + 16) + 46) [] [] [] H_66 locs_64 := hh_66
  have hN_66 : (jNk [0, 1, 2, 3, 4, 5, 6, 7, 8, 9, 10, 11, 12, 13, 14, 16, 17, 175]) G_61 (va_up G_61 H_64.size (some (161, 46))) := jNk.new (by decide)
  have hgn_66 : (va_up G_61 H_64.size (some (161, 46))) H_64.size = some (161, 46) := jUp_self
  have hle_66 : jLe G_61 (va_up G_61 H_64.size (some (161, 46))) := jLe.new hh_64.2.1.fresh
  have hke_66 : jKe G_61 (va_up G_61 H_64.size (some (161, 46))) H_64 H_66 := jKe.new hfr_66
  have hsy_66 : s.heap.size ≤ H_64.size := hh_64.1.1
  generalize (va_up G_61 H_64.size (some (161, 46))) = G_66 at hN_66 hgn_66 hle_66 hke_66 hh_66
  clear hh_64
  have hNn_66 : (jNk [0, 1, 2, 3, 4, 5, 6, 7, 8, 9, 10, 11, 12, 13, 14, 16, 17, 175]) G0 G_66 := (hNn_61).tr hN_66
  have hkp_67 := hkp_65.tr hke_66
  have hraw_68n := hke_66.nr hraw_64.lt hraw_63n
  have hraw_68 := hraw_64.kept (hke_66.1 _ hraw_64.lt)
  refine j7_putRF hx hb hown hK hh_66 hB hAp hraw_68 hraw_68n hbr0 (C := RX13) (T := TX13) (N := 50) rfl (i := 22) (by decide) (Nat.le_of_ble_eq_true rfl) hly_15_22 rfl hin2 rfl hlk_53 (ty := (.array .int)) (v := .ref H_64.size) (by decide +kernel) rfl rfl dX13_init_116 (fun H_69 locs_69 hraw_69 hr_69 hh_69 => ?_)
  have hraw_69 : va_at (dC, dI) vwCl (r0, .inr (15, [.ref s.heap.size, .ref H_4.size, .ref H_9.size, .ref H_14.size, .ref H_19.size, .int 0, .ref H_24.size, .int 0, .ref H_29.size, .ref H_34.size, .int 0, .int 0, .ref H_39.size, .ref H_44.size, .ref H_49.size, .int 0, .ref H_54.size, .ref H_59.size, .int 0, .int 0, .int 0, .int 0, .ref H_64.size, .null, .null, .null, .null, .null, .null, .null, .int 0, .int 0, .int 0, .int 0, .int 0, .null, .int 0, .null, .int 0, .int 0, .int 0, .int 0, .int 0, .null, .null, .null, .int 0, .null, .null, .int 0])) H_69 := hraw_69
  have hkp_70 := hkp_67.put hr_69
  clear hh_66
  refine lv_aload_n hx hb dX13_init_119 rfl (lv_at hl 0 rfl) ?_
  refine lv_bipush (v := 46) hx hb dX13_init_120 (by decide) ?_
  have hsz_71 := hh_69.2.2.2.2.2.1
  have htt_71 := hh_69.2.2.2.2.2.2.1
  refine j7_newiK hx hb hK hh_69 hB (atype := .int) (ty := .int) (htw (.arrayClass .int) (jWr_3 _ (List.mem_of_getElem? (i := 20) rfl))) rfl rfl (fun _ h => h) hB158 1 rfl (by decide) (by decide) hbs (x := 46) (by decide) (by omega) (fun j => by first | trivial | decide | rfl | exact Or.inl rfl | (refine ⟨?_, ?_⟩ <;> decide)) (by rw [hRc]; omega) (by rw [hRs]; omega) dX13_init_122 (fun H_71 hfr_71 hh_71 => ?_)
  have hh_71 : jSt (dC, dI) B base G0 (va_up G_66 H_69.size (some (158, 46))) EX13_init s.heap (((((((((((((((0 + 1) + 1) + 1) + 1) + 1) + 1) + 1) + 1) + 1) + 1) + 1) + 1) + 1) + 1) + 1) (((((((((((((((0 + 120000) + 120000) + 120000) + 120000) + 120000) + 12000) + 1600) + 1600) + 16) + 16) + 16) + 16) + 16) + 46) + 46) [] [] [] H_71 locs_69 := hh_71
  have hN_71 : (jNk [0, 1, 2, 3, 4, 5, 6, 7, 8, 9, 10, 11, 12, 13, 14, 16, 17, 175]) G_66 (va_up G_66 H_69.size (some (158, 46))) := jNk.new (by decide)
  have hgn_71 : (va_up G_66 H_69.size (some (158, 46))) H_69.size = some (158, 46) := jUp_self
  have hle_71 : jLe G_66 (va_up G_66 H_69.size (some (158, 46))) := jLe.new hh_69.2.1.fresh
  have hke_71 : jKe G_66 (va_up G_66 H_69.size (some (158, 46))) H_69 H_71 := jKe.new hfr_71
  have hsy_71 : s.heap.size ≤ H_69.size := hh_69.1.1
  generalize (va_up G_66 H_69.size (some (158, 46))) = G_71 at hN_71 hgn_71 hle_71 hke_71 hh_71
  clear hh_69
  have hNn_71 : (jNk [0, 1, 2, 3, 4, 5, 6, 7, 8, 9, 10, 11, 12, 13, 14, 16, 17, 175]) G0 G_71 := (hNn_66).tr hN_71
  have hkp_72 := hkp_70.tr hke_71
  have hraw_73n := hke_71.nr hraw_69.lt hraw_68n
  have hraw_73 := hraw_69.kept (hke_71.1 _ hraw_69.lt)
  refine j7_putRF hx hb hown hK hh_71 hB hAp hraw_73 hraw_73n hbr0 (C := RX13) (T := TX13) (N := 50) rfl (i := 23) (by decide) (Nat.le_of_ble_eq_true rfl) hly_15_23 rfl hin2 rfl hlk_56 (ty := (.array .int)) (v := .ref H_69.size) (by decide +kernel) rfl rfl dX13_init_124 (fun H_74 locs_74 hraw_74 hr_74 hh_74 => ?_)
  have hraw_74 : va_at (dC, dI) vwCl (r0, .inr (15, [.ref s.heap.size, .ref H_4.size, .ref H_9.size, .ref H_14.size, .ref H_19.size, .int 0, .ref H_24.size, .int 0, .ref H_29.size, .ref H_34.size, .int 0, .int 0, .ref H_39.size, .ref H_44.size, .ref H_49.size, .int 0, .ref H_54.size, .ref H_59.size, .int 0, .int 0, .int 0, .int 0, .ref H_64.size, .ref H_69.size, .null, .null, .null, .null, .null, .null, .int 0, .int 0, .int 0, .int 0, .int 0, .null, .int 0, .null, .int 0, .int 0, .int 0, .int 0, .int 0, .null, .null, .null, .int 0, .null, .null, .int 0])) H_74 := hraw_74
  have hkp_75 := hkp_72.put hr_74
  clear hh_71
  refine lv_aload_n hx hb dX13_init_127 rfl (lv_at hl 0 rfl) ?_
  refine lv_sipush (v := 276) hx hb dX13_init_128 (by decide) ?_
  have hsz_76 := hh_74.2.2.2.2.2.1
  have htt_76 := hh_74.2.2.2.2.2.2.1
  refine j7_newiK hx hb hK hh_74 hB (atype := .int) (ty := .int) (htw (.arrayClass .int) (jWr_3 _ (List.mem_of_getElem? (i := 20) rfl))) rfl rfl (fun _ h => h) hB163 1 rfl (by decide) (by decide) hbs (x := 276) (by decide) (by omega) (fun j => by first | trivial | decide | rfl | exact Or.inl rfl | (refine ⟨?_, ?_⟩ <;> decide)) (by rw [hRc]; omega) (by rw [hRs]; omega) dX13_init_131 (fun H_76 hfr_76 hh_76 => ?_)
  have hh_76 : jSt (dC, dI) B base G0 (va_up G_71 H_74.size (some (163, 276))) EX13_init s.heap ((((((((((((((((0 + 1) + 1) + 1) + 1) + 1) + 1) + 1) + 1) + 1) + 1) + 1) + 1) + 1) + 1) + 1) + 1) ((((((((((((((((0 + 120000) + 120000) + 120000) + 120000) + 120000) + 12000) + 1600) + 1600) + 16) + 16) + 16) + 16) + 16) + 46) + 46) + 276) [] [] [] H_76 locs_74 := hh_76
  have hN_76 : (jNk [0, 1, 2, 3, 4, 5, 6, 7, 8, 9, 10, 11, 12, 13, 14, 16, 17, 175]) G_71 (va_up G_71 H_74.size (some (163, 276))) := jNk.new (by decide)
  have hgn_76 : (va_up G_71 H_74.size (some (163, 276))) H_74.size = some (163, 276) := jUp_self
  have hle_76 : jLe G_71 (va_up G_71 H_74.size (some (163, 276))) := jLe.new hh_74.2.1.fresh
  have hke_76 : jKe G_71 (va_up G_71 H_74.size (some (163, 276))) H_74 H_76 := jKe.new hfr_76
  have hsy_76 : s.heap.size ≤ H_74.size := hh_74.1.1
  generalize (va_up G_71 H_74.size (some (163, 276))) = G_76 at hN_76 hgn_76 hle_76 hke_76 hh_76
  clear hh_74
  have hNn_76 : (jNk [0, 1, 2, 3, 4, 5, 6, 7, 8, 9, 10, 11, 12, 13, 14, 16, 17, 175]) G0 G_76 := (hNn_71).tr hN_76
  have hkp_77 := hkp_75.tr hke_76
  have hraw_78n := hke_76.nr hraw_74.lt hraw_73n
  have hraw_78 := hraw_74.kept (hke_76.1 _ hraw_74.lt)
  refine j7_putRF hx hb hown hK hh_76 hB hAp hraw_78 hraw_78n hbr0 (C := RX13) (T := TX13) (N := 50) rfl (i := 24) (by decide) (Nat.le_of_ble_eq_true rfl) hly_15_24 rfl hin2 rfl hlk_59 (ty := (.array .int)) (v := .ref H_74.size) (by decide +kernel) rfl rfl dX13_init_133 (fun H_79 locs_79 hraw_79 hr_79 hh_79 => ?_)
  have hraw_79 : va_at (dC, dI) vwCl (r0, .inr (15, [.ref s.heap.size, .ref H_4.size, .ref H_9.size, .ref H_14.size, .ref H_19.size, .int 0, .ref H_24.size, .int 0, .ref H_29.size, .ref H_34.size, .int 0, .int 0, .ref H_39.size, .ref H_44.size, .ref H_49.size, .int 0, .ref H_54.size, .ref H_59.size, .int 0, .int 0, .int 0, .int 0, .ref H_64.size, .ref H_69.size, .ref H_74.size, .null, .null, .null, .null, .null, .int 0, .int 0, .int 0, .int 0, .int 0, .null, .int 0, .null, .int 0, .int 0, .int 0, .int 0, .int 0, .null, .null, .null, .int 0, .null, .null, .int 0])) H_79 := hraw_79
  have hkp_80 := hkp_77.put hr_79
  clear hh_76
  refine lv_aload_n hx hb dX13_init_136 rfl (lv_at hl 0 rfl) ?_
  refine lv_bipush (v := 46) hx hb dX13_init_137 (by decide) ?_
  have hsz_81 := hh_79.2.2.2.2.2.1
  have htt_81 := hh_79.2.2.2.2.2.2.1
  refine j7_newiK hx hb hK hh_79 hB (atype := .int) (ty := .int) (htw (.arrayClass .int) (jWr_3 _ (List.mem_of_getElem? (i := 20) rfl))) rfl rfl (fun _ h => h) hB159 1 rfl (by decide) (by decide) hbs (x := 46) (by decide) (by omega) (fun j => by first | trivial | decide | rfl | exact Or.inl rfl | (refine ⟨?_, ?_⟩ <;> decide)) (by rw [hRc]; omega) (by rw [hRs]; omega) dX13_init_139 (fun H_81 hfr_81 hh_81 => ?_)
  have hh_81 : jSt (dC, dI) B base G0 (va_up G_76 H_79.size (some (159, 46))) EX13_init s.heap (((((((((((((((((0 + 1) + 1) + 1) + 1) + 1) + 1) + 1) + 1) + 1) + 1) + 1) + 1) + 1) + 1) + 1) + 1) + 1) (((((((((((((((((0 + 120000) + 120000) + 120000) + 120000) + 120000) + 12000) + 1600) + 1600) + 16) + 16) + 16) + 16) + 16) + 46) + 46) + 276) + 46) [] [] [] H_81 locs_79 := hh_81
  have hN_81 : (jNk [0, 1, 2, 3, 4, 5, 6, 7, 8, 9, 10, 11, 12, 13, 14, 16, 17, 175]) G_76 (va_up G_76 H_79.size (some (159, 46))) := jNk.new (by decide)
  have hgn_81 : (va_up G_76 H_79.size (some (159, 46))) H_79.size = some (159, 46) := jUp_self
  have hle_81 : jLe G_76 (va_up G_76 H_79.size (some (159, 46))) := jLe.new hh_79.2.1.fresh
  have hke_81 : jKe G_76 (va_up G_76 H_79.size (some (159, 46))) H_79 H_81 := jKe.new hfr_81
  have hsy_81 : s.heap.size ≤ H_79.size := hh_79.1.1
  generalize (va_up G_76 H_79.size (some (159, 46))) = G_81 at hN_81 hgn_81 hle_81 hke_81 hh_81
  clear hh_79
  have hNn_81 : (jNk [0, 1, 2, 3, 4, 5, 6, 7, 8, 9, 10, 11, 12, 13, 14, 16, 17, 175]) G0 G_81 := (hNn_76).tr hN_81
  have hkp_82 := hkp_80.tr hke_81
  have hraw_83n := hke_81.nr hraw_79.lt hraw_78n
  have hraw_83 := hraw_79.kept (hke_81.1 _ hraw_79.lt)
  refine j7_putRF hx hb hown hK hh_81 hB hAp hraw_83 hraw_83n hbr0 (C := RX13) (T := TX13) (N := 50) rfl (i := 25) (by decide) (Nat.le_of_ble_eq_true rfl) hly_15_25 rfl hin2 rfl hlk_62 (ty := (.array .int)) (v := .ref H_79.size) (by decide +kernel) rfl rfl dX13_init_141 (fun H_84 locs_84 hraw_84 hr_84 hh_84 => ?_)
  have hraw_84 : va_at (dC, dI) vwCl (r0, .inr (15, [.ref s.heap.size, .ref H_4.size, .ref H_9.size, .ref H_14.size, .ref H_19.size, .int 0, .ref H_24.size, .int 0, .ref H_29.size, .ref H_34.size, .int 0, .int 0, .ref H_39.size, .ref H_44.size, .ref H_49.size, .int 0, .ref H_54.size, .ref H_59.size, .int 0, .int 0, .int 0, .int 0, .ref H_64.size, .ref H_69.size, .ref H_74.size, .ref H_79.size, .null, .null, .null, .null, .int 0, .int 0, .int 0, .int 0, .int 0, .null, .int 0, .null, .int 0, .int 0, .int 0, .int 0, .int 0, .null, .null, .null, .int 0, .null, .null, .int 0])) H_84 := hraw_84
  have hkp_85 := hkp_82.put hr_84
  clear hh_81
  refine lv_aload_n hx hb dX13_init_144 rfl (lv_at hl 0 rfl) ?_
  refine lv_sipush (v := 368) hx hb dX13_init_145 (by decide) ?_
  have hsz_86 := hh_84.2.2.2.2.2.1
  have htt_86 := hh_84.2.2.2.2.2.2.1
  refine j7_newiK hx hb hK hh_84 hB (atype := .int) (ty := .int) (htw (.arrayClass .int) (jWr_3 _ (List.mem_of_getElem? (i := 20) rfl))) rfl rfl (fun _ h => h) hB163 1 rfl (by decide) (by decide) hbs (x := 368) (by decide) (by omega) (fun j => by first | trivial | decide | rfl | exact Or.inl rfl | (refine ⟨?_, ?_⟩ <;> decide)) (by rw [hRc]; omega) (by rw [hRs]; omega) dX13_init_148 (fun H_86 hfr_86 hh_86 => ?_)
  have hh_86 : jSt (dC, dI) B base G0 (va_up G_81 H_84.size (some (163, 368))) EX13_init s.heap ((((((((((((((((((0 + 1) + 1) + 1) + 1) + 1) + 1) + 1) + 1) + 1) + 1) + 1) + 1) + 1) + 1) + 1) + 1) + 1) + 1) ((((((((((((((((((0 + 120000) + 120000) + 120000) + 120000) + 120000) + 12000) + 1600) + 1600) + 16) + 16) + 16) + 16) + 16) + 46) + 46) + 276) + 46) + 368) [] [] [] H_86 locs_84 := hh_86
  have hN_86 : (jNk [0, 1, 2, 3, 4, 5, 6, 7, 8, 9, 10, 11, 12, 13, 14, 16, 17, 175]) G_81 (va_up G_81 H_84.size (some (163, 368))) := jNk.new (by decide)
  have hgn_86 : (va_up G_81 H_84.size (some (163, 368))) H_84.size = some (163, 368) := jUp_self
  have hle_86 : jLe G_81 (va_up G_81 H_84.size (some (163, 368))) := jLe.new hh_84.2.1.fresh
  have hke_86 : jKe G_81 (va_up G_81 H_84.size (some (163, 368))) H_84 H_86 := jKe.new hfr_86
  have hsy_86 : s.heap.size ≤ H_84.size := hh_84.1.1
  generalize (va_up G_81 H_84.size (some (163, 368))) = G_86 at hN_86 hgn_86 hle_86 hke_86 hh_86
  clear hh_84
  have hNn_86 : (jNk [0, 1, 2, 3, 4, 5, 6, 7, 8, 9, 10, 11, 12, 13, 14, 16, 17, 175]) G0 G_86 := (hNn_81).tr hN_86
  have hkp_87 := hkp_85.tr hke_86
  have hraw_88n := hke_86.nr hraw_84.lt hraw_83n
  have hraw_88 := hraw_84.kept (hke_86.1 _ hraw_84.lt)
  refine j7_putRF hx hb hown hK hh_86 hB hAp hraw_88 hraw_88n hbr0 (C := RX13) (T := TX13) (N := 50) rfl (i := 26) (by decide) (Nat.le_of_ble_eq_true rfl) hly_15_26 rfl hin2 rfl hlk_65 (ty := (.array .int)) (v := .ref H_84.size) (by decide +kernel) rfl rfl dX13_init_150 (fun H_89 locs_89 hraw_89 hr_89 hh_89 => ?_)
  have hraw_89 : va_at (dC, dI) vwCl (r0, .inr (15, [.ref s.heap.size, .ref H_4.size, .ref H_9.size, .ref H_14.size, .ref H_19.size, .int 0, .ref H_24.size, .int 0, .ref H_29.size, .ref H_34.size, .int 0, .int 0, .ref H_39.size, .ref H_44.size, .ref H_49.size, .int 0, .ref H_54.size, .ref H_59.size, .int 0, .int 0, .int 0, .int 0, .ref H_64.size, .ref H_69.size, .ref H_74.size, .ref H_79.size, .ref H_84.size, .null, .null, .null, .int 0, .int 0, .int 0, .int 0, .int 0, .null, .int 0, .null, .int 0, .int 0, .int 0, .int 0, .int 0, .null, .null, .null, .int 0, .null, .null, .int 0])) H_89 := hraw_89
  have hkp_90 := hkp_87.put hr_89
  clear hh_86
  refine lv_aload_n hx hb dX13_init_153 rfl (lv_at hl 0 rfl) ?_
  refine lv_sipush (v := 368) hx hb dX13_init_154 (by decide) ?_
  have hsz_91 := hh_89.2.2.2.2.2.1
  have htt_91 := hh_89.2.2.2.2.2.2.1
  refine j7_newiK hx hb hK hh_89 hB (atype := .int) (ty := .int) (htw (.arrayClass .int) (jWr_3 _ (List.mem_of_getElem? (i := 20) rfl))) rfl rfl (fun _ h => h) hB162 1 rfl (by decide) (by decide) hbs (x := 368) (by decide) (by omega) (fun j => by first | trivial | decide | rfl | exact Or.inl rfl | (refine ⟨?_, ?_⟩ <;> decide)) (by rw [hRc]; omega) (by rw [hRs]; omega) dX13_init_157 (fun H_91 hfr_91 hh_91 => ?_)
  have hh_91 : jSt (dC, dI) B base G0 (va_up G_86 H_89.size (some (162, 368))) EX13_init s.heap (((((((((((((((((((0 + 1) + 1) + 1) + 1) + 1) + 1) + 1) + 1) + 1) + 1) + 1) + 1) + 1) + 1) + 1) + 1) + 1) + 1) + 1) (((((((((((((((((((0 + 120000) + 120000) + 120000) + 120000) + 120000) + 12000) + 1600) + 1600) + 16) + 16) + 16) + 16) + 16) + 46) + 46) + 276) + 46) + 368) + 368) [] [] [] H_91 locs_89 := hh_91
  have hN_91 : (jNk [0, 1, 2, 3, 4, 5, 6, 7, 8, 9, 10, 11, 12, 13, 14, 16, 17, 175]) G_86 (va_up G_86 H_89.size (some (162, 368))) := jNk.new (by decide)
  have hgn_91 : (va_up G_86 H_89.size (some (162, 368))) H_89.size = some (162, 368) := jUp_self
  have hle_91 : jLe G_86 (va_up G_86 H_89.size (some (162, 368))) := jLe.new hh_89.2.1.fresh
  have hke_91 : jKe G_86 (va_up G_86 H_89.size (some (162, 368))) H_89 H_91 := jKe.new hfr_91
  have hsy_91 : s.heap.size ≤ H_89.size := hh_89.1.1
  generalize (va_up G_86 H_89.size (some (162, 368))) = G_91 at hN_91 hgn_91 hle_91 hke_91 hh_91
  clear hh_89
  have hNn_91 : (jNk [0, 1, 2, 3, 4, 5, 6, 7, 8, 9, 10, 11, 12, 13, 14, 16, 17, 175]) G0 G_91 := (hNn_86).tr hN_91
  have hkp_92 := hkp_90.tr hke_91
  have hraw_93n := hke_91.nr hraw_89.lt hraw_88n
  have hraw_93 := hraw_89.kept (hke_91.1 _ hraw_89.lt)
  refine j7_putRF hx hb hown hK hh_91 hB hAp hraw_93 hraw_93n hbr0 (C := RX13) (T := TX13) (N := 50) rfl (i := 27) (by decide) (Nat.le_of_ble_eq_true rfl) hly_15_27 rfl hin2 rfl hlk_68 (ty := (.array .int)) (v := .ref H_89.size) (by decide +kernel) rfl rfl dX13_init_159 (fun H_94 locs_94 hraw_94 hr_94 hh_94 => ?_)
  have hraw_94 : va_at (dC, dI) vwCl (r0, .inr (15, [.ref s.heap.size, .ref H_4.size, .ref H_9.size, .ref H_14.size, .ref H_19.size, .int 0, .ref H_24.size, .int 0, .ref H_29.size, .ref H_34.size, .int 0, .int 0, .ref H_39.size, .ref H_44.size, .ref H_49.size, .int 0, .ref H_54.size, .ref H_59.size, .int 0, .int 0, .int 0, .int 0, .ref H_64.size, .ref H_69.size, .ref H_74.size, .ref H_79.size, .ref H_84.size, .ref H_89.size, .null, .null, .int 0, .int 0, .int 0, .int 0, .int 0, .null, .int 0, .null, .int 0, .int 0, .int 0, .int 0, .int 0, .null, .null, .null, .int 0, .null, .null, .int 0])) H_94 := hraw_94
  have hkp_95 := hkp_92.put hr_94
  clear hh_91
  refine lv_aload_n hx hb dX13_init_162 rfl (lv_at hl 0 rfl) ?_
  refine lv_sipush (v := 1500) hx hb dX13_init_163 (by decide) ?_
  have hsz_96 := hh_94.2.2.2.2.2.1
  have htt_96 := hh_94.2.2.2.2.2.2.1
  refine j7_newiK hx hb hK hh_94 hB (atype := .int) (ty := .int) (htw (.arrayClass .int) (jWr_3 _ (List.mem_of_getElem? (i := 20) rfl))) rfl rfl (fun _ h => h) hB167 1 rfl (by decide) (by decide) hbs (x := 1500) (by decide) (by omega) (fun j => by first | trivial | decide | rfl | exact Or.inl rfl | (refine ⟨?_, ?_⟩ <;> decide)) (by rw [hRc]; omega) (by rw [hRs]; omega) dX13_init_166 (fun H_96 hfr_96 hh_96 => ?_)
  have hh_96 : jSt (dC, dI) B base G0 (va_up G_91 H_94.size (some (167, 1500))) EX13_init s.heap ((((((((((((((((((((0 + 1) + 1) + 1) + 1) + 1) + 1) + 1) + 1) + 1) + 1) + 1) + 1) + 1) + 1) + 1) + 1) + 1) + 1) + 1) + 1) ((((((((((((((((((((0 + 120000) + 120000) + 120000) + 120000) + 120000) + 12000) + 1600) + 1600) + 16) + 16) + 16) + 16) + 16) + 46) + 46) + 276) + 46) + 368) + 368) + 1500) [] [] [] H_96 locs_94 := hh_96
  have hN_96 : (jNk [0, 1, 2, 3, 4, 5, 6, 7, 8, 9, 10, 11, 12, 13, 14, 16, 17, 175]) G_91 (va_up G_91 H_94.size (some (167, 1500))) := jNk.new (by decide)
  have hgn_96 : (va_up G_91 H_94.size (some (167, 1500))) H_94.size = some (167, 1500) := jUp_self
  have hle_96 : jLe G_91 (va_up G_91 H_94.size (some (167, 1500))) := jLe.new hh_94.2.1.fresh
  have hke_96 : jKe G_91 (va_up G_91 H_94.size (some (167, 1500))) H_94 H_96 := jKe.new hfr_96
  have hsy_96 : s.heap.size ≤ H_94.size := hh_94.1.1
  generalize (va_up G_91 H_94.size (some (167, 1500))) = G_96 at hN_96 hgn_96 hle_96 hke_96 hh_96
  clear hh_94
  have hNn_96 : (jNk [0, 1, 2, 3, 4, 5, 6, 7, 8, 9, 10, 11, 12, 13, 14, 16, 17, 175]) G0 G_96 := (hNn_91).tr hN_96
  have hkp_97 := hkp_95.tr hke_96
  have hraw_98n := hke_96.nr hraw_94.lt hraw_93n
  have hraw_98 := hraw_94.kept (hke_96.1 _ hraw_94.lt)
  refine j7_putRF hx hb hown hK hh_96 hB hAp hraw_98 hraw_98n hbr0 (C := RX13) (T := TX13) (N := 50) rfl (i := 28) (by decide) (Nat.le_of_ble_eq_true rfl) hly_15_28 rfl hin2 rfl hlk_71 (ty := (.array .int)) (v := .ref H_94.size) (by decide +kernel) rfl rfl dX13_init_168 (fun H_99 locs_99 hraw_99 hr_99 hh_99 => ?_)
  have hraw_99 : va_at (dC, dI) vwCl (r0, .inr (15, [.ref s.heap.size, .ref H_4.size, .ref H_9.size, .ref H_14.size, .ref H_19.size, .int 0, .ref H_24.size, .int 0, .ref H_29.size, .ref H_34.size, .int 0, .int 0, .ref H_39.size, .ref H_44.size, .ref H_49.size, .int 0, .ref H_54.size, .ref H_59.size, .int 0, .int 0, .int 0, .int 0, .ref H_64.size, .ref H_69.size, .ref H_74.size, .ref H_79.size, .ref H_84.size, .ref H_89.size, .ref H_94.size, .null, .int 0, .int 0, .int 0, .int 0, .int 0, .null, .int 0, .null, .int 0, .int 0, .int 0, .int 0, .int 0, .null, .null, .null, .int 0, .null, .null, .int 0])) H_99 := hraw_99
  have hkp_100 := hkp_97.put hr_99
  clear hh_96
  refine lv_aload_n hx hb dX13_init_171 rfl (lv_at hl 0 rfl) ?_
  refine lv_sipush (v := 1500) hx hb dX13_init_172 (by decide) ?_
  have hsz_101 := hh_99.2.2.2.2.2.1
  have htt_101 := hh_99.2.2.2.2.2.2.1
  refine j7_newiK hx hb hK hh_99 hB (atype := .int) (ty := .int) (htw (.arrayClass .int) (jWr_3 _ (List.mem_of_getElem? (i := 20) rfl))) rfl rfl (fun _ h => h) hB157 1 rfl (by decide) (by decide) hbs (x := 1500) (by decide) (by omega) (fun j => by first | trivial | decide | rfl | exact Or.inl rfl | (refine ⟨?_, ?_⟩ <;> decide)) (by rw [hRc]; omega) (by rw [hRs]; omega) dX13_init_175 (fun H_101 hfr_101 hh_101 => ?_)
  have hh_101 : jSt (dC, dI) B base G0 (va_up G_96 H_99.size (some (157, 1500))) EX13_init s.heap (((((((((((((((((((((0 + 1) + 1) + 1) + 1) + 1) + 1) + 1) + 1) + 1) + 1) + 1) + 1) + 1) + 1) + 1) + 1) + 1) + 1) + 1) + 1) + 1) (((((((((((((((((((((0 + 120000) + 120000) + 120000) + 120000) + 120000) + 12000) + 1600) + 1600) + 16) + 16) + 16) + 16) + 16) + 46) + 46) + 276) + 46) + 368) + 368) + 1500) + 1500) [] [] [] H_101 locs_99 := hh_101
  have hN_101 : (jNk [0, 1, 2, 3, 4, 5, 6, 7, 8, 9, 10, 11, 12, 13, 14, 16, 17, 175]) G_96 (va_up G_96 H_99.size (some (157, 1500))) := jNk.new (by decide)
  have hgn_101 : (va_up G_96 H_99.size (some (157, 1500))) H_99.size = some (157, 1500) := jUp_self
  have hle_101 : jLe G_96 (va_up G_96 H_99.size (some (157, 1500))) := jLe.new hh_99.2.1.fresh
  have hke_101 : jKe G_96 (va_up G_96 H_99.size (some (157, 1500))) H_99 H_101 := jKe.new hfr_101
  have hsy_101 : s.heap.size ≤ H_99.size := hh_99.1.1
  generalize (va_up G_96 H_99.size (some (157, 1500))) = G_101 at hN_101 hgn_101 hle_101 hke_101 hh_101
  clear hh_99
  have hNn_101 : (jNk [0, 1, 2, 3, 4, 5, 6, 7, 8, 9, 10, 11, 12, 13, 14, 16, 17, 175]) G0 G_101 := (hNn_96).tr hN_101
  have hkp_102 := hkp_100.tr hke_101
  have hraw_103n := hke_101.nr hraw_99.lt hraw_98n
  have hraw_103 := hraw_99.kept (hke_101.1 _ hraw_99.lt)
  refine j7_putRF hx hb hown hK hh_101 hB hAp hraw_103 hraw_103n hbr0 (C := RX13) (T := TX13) (N := 50) rfl (i := 29) (by decide) (Nat.le_of_ble_eq_true rfl) hly_15_29 rfl hin2 rfl hlk_74 (ty := (.array .int)) (v := .ref H_99.size) (by decide +kernel) rfl rfl dX13_init_177 (fun H_104 locs_104 hraw_104 hr_104 hh_104 => ?_)
  have hraw_104 : va_at (dC, dI) vwCl (r0, .inr (15, [.ref s.heap.size, .ref H_4.size, .ref H_9.size, .ref H_14.size, .ref H_19.size, .int 0, .ref H_24.size, .int 0, .ref H_29.size, .ref H_34.size, .int 0, .int 0, .ref H_39.size, .ref H_44.size, .ref H_49.size, .int 0, .ref H_54.size, .ref H_59.size, .int 0, .int 0, .int 0, .int 0, .ref H_64.size, .ref H_69.size, .ref H_74.size, .ref H_79.size, .ref H_84.size, .ref H_89.size, .ref H_94.size, .ref H_99.size, .int 0, .int 0, .int 0, .int 0, .int 0, .null, .int 0, .null, .int 0, .int 0, .int 0, .int 0, .int 0, .null, .null, .null, .int 0, .null, .null, .int 0])) H_104 := hraw_104
  have hkp_105 := hkp_102.put hr_104
  clear hh_101
  refine lv_aload_n hx hb dX13_init_180 rfl (lv_at hl 0 rfl) ?_
  refine lv_sipush (v := 200) hx hb dX13_init_181 (by decide) ?_
  have hsz_106 := hh_104.2.2.2.2.2.1
  have htt_106 := hh_104.2.2.2.2.2.2.1
  refine j7_newiK hx hb hK hh_104 hB (atype := .int) (ty := .int) (htw (.arrayClass .int) (jWr_3 _ (List.mem_of_getElem? (i := 20) rfl))) rfl rfl (fun _ h => h) hB163 1 rfl (by decide) (by decide) hbs (x := 200) (by decide) (by omega) (fun j => by first | trivial | decide | rfl | exact Or.inl rfl | (refine ⟨?_, ?_⟩ <;> decide)) (by rw [hRc]; omega) (by rw [hRs]; omega) dX13_init_184 (fun H_106 hfr_106 hh_106 => ?_)
  have hh_106 : jSt (dC, dI) B base G0 (va_up G_101 H_104.size (some (163, 200))) EX13_init s.heap ((((((((((((((((((((((0 + 1) + 1) + 1) + 1) + 1) + 1) + 1) + 1) + 1) + 1) + 1) + 1) + 1) + 1) + 1) + 1) + 1) + 1) + 1) + 1) + 1) + 1) ((((((((((((((((((((((0 + 120000) + 120000) + 120000) + 120000) + 120000) + 12000) + 1600) + 1600) + 16) + 16) + 16) + 16) + 16) + 46) + 46) + 276) + 46) + 368) + 368) + 1500) + 1500) + 200) [] [] [] H_106 locs_104 := hh_106
  have hN_106 : (jNk [0, 1, 2, 3, 4, 5, 6, 7, 8, 9, 10, 11, 12, 13, 14, 16, 17, 175]) G_101 (va_up G_101 H_104.size (some (163, 200))) := jNk.new (by decide)
  have hgn_106 : (va_up G_101 H_104.size (some (163, 200))) H_104.size = some (163, 200) := jUp_self
  have hle_106 : jLe G_101 (va_up G_101 H_104.size (some (163, 200))) := jLe.new hh_104.2.1.fresh
  have hke_106 : jKe G_101 (va_up G_101 H_104.size (some (163, 200))) H_104 H_106 := jKe.new hfr_106
  have hsy_106 : s.heap.size ≤ H_104.size := hh_104.1.1
  generalize (va_up G_101 H_104.size (some (163, 200))) = G_106 at hN_106 hgn_106 hle_106 hke_106 hh_106
  clear hh_104
  have hNn_106 : (jNk [0, 1, 2, 3, 4, 5, 6, 7, 8, 9, 10, 11, 12, 13, 14, 16, 17, 175]) G0 G_106 := (hNn_101).tr hN_106
  have hkp_107 := hkp_105.tr hke_106
  have hraw_108n := hke_106.nr hraw_104.lt hraw_103n
  have hraw_108 := hraw_104.kept (hke_106.1 _ hraw_104.lt)
  refine j7_putRF hx hb hown hK hh_106 hB hAp hraw_108 hraw_108n hbr0 (C := RX13) (T := TX13) (N := 50) rfl (i := 35) (by decide) (Nat.le_of_ble_eq_true rfl) hly_15_35 rfl hin2 rfl hlk_77 (ty := (.array .int)) (v := .ref H_104.size) (by decide +kernel) rfl rfl dX13_init_186 (fun H_109 locs_109 hraw_109 hr_109 hh_109 => ?_)
  have hraw_109 : va_at (dC, dI) vwCl (r0, .inr (15, [.ref s.heap.size, .ref H_4.size, .ref H_9.size, .ref H_14.size, .ref H_19.size, .int 0, .ref H_24.size, .int 0, .ref H_29.size, .ref H_34.size, .int 0, .int 0, .ref H_39.size, .ref H_44.size, .ref H_49.size, .int 0, .ref H_54.size, .ref H_59.size, .int 0, .int 0, .int 0, .int 0, .ref H_64.size, .ref H_69.size, .ref H_74.size, .ref H_79.size, .ref H_84.size, .ref H_89.size, .ref H_94.size, .ref H_99.size, .int 0, .int 0, .int 0, .int 0, .int 0, .ref H_104.size, .int 0, .null, .int 0, .int 0, .int 0, .int 0, .int 0, .null, .null, .null, .int 0, .null, .null, .int 0])) H_109 := hraw_109
  have hkp_110 := hkp_107.put hr_109
  clear hh_106
  refine lv_aload_n hx hb dX13_init_189 rfl (lv_at hl 0 rfl) ?_
  refine lv_iconst (v := 1) hx hb dX13_init_190 (by decide) ?_
  have hsz_111 := hh_109.2.2.2.2.2.1
  have htt_111 := hh_109.2.2.2.2.2.2.1
  refine j7_newiK hx hb hK hh_109 hB (atype := .int) (ty := .int) (htw (.arrayClass .int) (jWr_3 _ (List.mem_of_getElem? (i := 20) rfl))) rfl rfl (fun _ h => h) hB169 1 rfl (by decide) (by decide) hbs (x := 1) (by decide) (by omega) (fun j => by first | trivial | decide | rfl | exact Or.inl rfl | (refine ⟨?_, ?_⟩ <;> decide)) (by rw [hRc]; omega) (by rw [hRs]; omega) dX13_init_191 (fun H_111 hfr_111 hh_111 => ?_)
  have hh_111 : jSt (dC, dI) B base G0 (va_up G_106 H_109.size (some (169, 1))) EX13_init s.heap (((((((((((((((((((((((0 + 1) + 1) + 1) + 1) + 1) + 1) + 1) + 1) + 1) + 1) + 1) + 1) + 1) + 1) + 1) + 1) + 1) + 1) + 1) + 1) + 1) + 1) + 1) (((((((((((((((((((((((0 + 120000) + 120000) + 120000) + 120000) + 120000) + 12000) + 1600) + 1600) + 16) + 16) + 16) + 16) + 16) + 46) + 46) + 276) + 46) + 368) + 368) + 1500) + 1500) + 200) + 1) [] [] [] H_111 locs_109 := hh_111
  have hN_111 : (jNk [0, 1, 2, 3, 4, 5, 6, 7, 8, 9, 10, 11, 12, 13, 14, 16, 17, 175]) G_106 (va_up G_106 H_109.size (some (169, 1))) := jNk.new (by decide)
  have hgn_111 : (va_up G_106 H_109.size (some (169, 1))) H_109.size = some (169, 1) := jUp_self
  have hle_111 : jLe G_106 (va_up G_106 H_109.size (some (169, 1))) := jLe.new hh_109.2.1.fresh
  have hke_111 : jKe G_106 (va_up G_106 H_109.size (some (169, 1))) H_109 H_111 := jKe.new hfr_111
  have hsy_111 : s.heap.size ≤ H_109.size := hh_109.1.1
  generalize (va_up G_106 H_109.size (some (169, 1))) = G_111 at hN_111 hgn_111 hle_111 hke_111 hh_111
  clear hh_109
  have hNn_111 : (jNk [0, 1, 2, 3, 4, 5, 6, 7, 8, 9, 10, 11, 12, 13, 14, 16, 17, 175]) G0 G_111 := (hNn_106).tr hN_111
  have hkp_112 := hkp_110.tr hke_111
  have hraw_113n := hke_111.nr hraw_109.lt hraw_108n
  have hraw_113 := hraw_109.kept (hke_111.1 _ hraw_109.lt)
  refine j7_putRF hx hb hown hK hh_111 hB hAp hraw_113 hraw_113n hbr0 (C := RX13) (T := TX13) (N := 50) rfl (i := 37) (by decide) (Nat.le_of_ble_eq_true rfl) hly_15_37 rfl hin2 rfl hlk_80 (ty := (.array .int)) (v := .ref H_109.size) (by decide +kernel) rfl rfl dX13_init_193 (fun H_114 locs_114 hraw_114 hr_114 hh_114 => ?_)
  have hraw_114 : va_at (dC, dI) vwCl (r0, .inr (15, [.ref s.heap.size, .ref H_4.size, .ref H_9.size, .ref H_14.size, .ref H_19.size, .int 0, .ref H_24.size, .int 0, .ref H_29.size, .ref H_34.size, .int 0, .int 0, .ref H_39.size, .ref H_44.size, .ref H_49.size, .int 0, .ref H_54.size, .ref H_59.size, .int 0, .int 0, .int 0, .int 0, .ref H_64.size, .ref H_69.size, .ref H_74.size, .ref H_79.size, .ref H_84.size, .ref H_89.size, .ref H_94.size, .ref H_99.size, .int 0, .int 0, .int 0, .int 0, .int 0, .ref H_104.size, .int 0, .ref H_109.size, .int 0, .int 0, .int 0, .int 0, .int 0, .null, .null, .null, .int 0, .null, .null, .int 0])) H_114 := hraw_114
  have hkp_115 := hkp_112.put hr_114
  clear hh_111
  refine lv_aload_n hx hb dX13_init_196 rfl (lv_at hl 0 rfl) ?_
  refine lv_bipush (v := 100) hx hb dX13_init_197 (by decide) ?_
  have hsz_116 := hh_114.2.2.2.2.2.1
  have htt_116 := hh_114.2.2.2.2.2.2.1
  refine j7_newiK hx hb hK hh_114 hB (atype := .int) (ty := .int) (htw (.arrayClass .int) (jWr_3 _ (List.mem_of_getElem? (i := 20) rfl))) rfl rfl (fun _ h => h) hB169 1 rfl (by decide) (by decide) hbs (x := 100) (by decide) (by omega) (fun j => by first | trivial | decide | rfl | exact Or.inl rfl | (refine ⟨?_, ?_⟩ <;> decide)) (by rw [hRc]; omega) (by rw [hRs]; omega) dX13_init_199 (fun H_116 hfr_116 hh_116 => ?_)
  have hh_116 : jSt (dC, dI) B base G0 (va_up G_111 H_114.size (some (169, 100))) EX13_init s.heap ((((((((((((((((((((((((0 + 1) + 1) + 1) + 1) + 1) + 1) + 1) + 1) + 1) + 1) + 1) + 1) + 1) + 1) + 1) + 1) + 1) + 1) + 1) + 1) + 1) + 1) + 1) + 1) ((((((((((((((((((((((((0 + 120000) + 120000) + 120000) + 120000) + 120000) + 12000) + 1600) + 1600) + 16) + 16) + 16) + 16) + 16) + 46) + 46) + 276) + 46) + 368) + 368) + 1500) + 1500) + 200) + 1) + 100) [] [] [] H_116 locs_114 := hh_116
  have hN_116 : (jNk [0, 1, 2, 3, 4, 5, 6, 7, 8, 9, 10, 11, 12, 13, 14, 16, 17, 175]) G_111 (va_up G_111 H_114.size (some (169, 100))) := jNk.new (by decide)
  have hgn_116 : (va_up G_111 H_114.size (some (169, 100))) H_114.size = some (169, 100) := jUp_self
  have hle_116 : jLe G_111 (va_up G_111 H_114.size (some (169, 100))) := jLe.new hh_114.2.1.fresh
  have hke_116 : jKe G_111 (va_up G_111 H_114.size (some (169, 100))) H_114 H_116 := jKe.new hfr_116
  have hsy_116 : s.heap.size ≤ H_114.size := hh_114.1.1
  generalize (va_up G_111 H_114.size (some (169, 100))) = G_116 at hN_116 hgn_116 hle_116 hke_116 hh_116
  clear hh_114
  have hNn_116 : (jNk [0, 1, 2, 3, 4, 5, 6, 7, 8, 9, 10, 11, 12, 13, 14, 16, 17, 175]) G0 G_116 := (hNn_111).tr hN_116
  have hkp_117 := hkp_115.tr hke_116
  have hraw_118n := hke_116.nr hraw_114.lt hraw_113n
  have hraw_118 := hraw_114.kept (hke_116.1 _ hraw_114.lt)
  refine j7_putRF hx hb hown hK hh_116 hB hAp hraw_118 hraw_118n hbr0 (C := RX13) (T := TX13) (N := 50) rfl (i := 43) (by decide) (Nat.le_of_ble_eq_true rfl) hly_15_43 rfl hin2 rfl hlk_83 (ty := (.array .int)) (v := .ref H_114.size) (by decide +kernel) rfl rfl dX13_init_201 (fun H_119 locs_119 hraw_119 hr_119 hh_119 => ?_)
  have hraw_119 : va_at (dC, dI) vwCl (r0, .inr (15, [.ref s.heap.size, .ref H_4.size, .ref H_9.size, .ref H_14.size, .ref H_19.size, .int 0, .ref H_24.size, .int 0, .ref H_29.size, .ref H_34.size, .int 0, .int 0, .ref H_39.size, .ref H_44.size, .ref H_49.size, .int 0, .ref H_54.size, .ref H_59.size, .int 0, .int 0, .int 0, .int 0, .ref H_64.size, .ref H_69.size, .ref H_74.size, .ref H_79.size, .ref H_84.size, .ref H_89.size, .ref H_94.size, .ref H_99.size, .int 0, .int 0, .int 0, .int 0, .int 0, .ref H_104.size, .int 0, .ref H_109.size, .int 0, .int 0, .int 0, .int 0, .int 0, .ref H_114.size, .null, .null, .int 0, .null, .null, .int 0])) H_119 := hraw_119
  have hkp_120 := hkp_117.put hr_119
  clear hh_116
  refine lv_aload_n hx hb dX13_init_204 rfl (lv_at hl 0 rfl) ?_
  refine lv_bipush (v := 100) hx hb dX13_init_205 (by decide) ?_
  have hsz_121 := hh_119.2.2.2.2.2.1
  have htt_121 := hh_119.2.2.2.2.2.2.1
  refine j7_newiK hx hb hK hh_119 hB (atype := .int) (ty := .int) (htw (.arrayClass .int) (jWr_3 _ (List.mem_of_getElem? (i := 20) rfl))) rfl rfl (fun _ h => h) hB168 1 rfl (by decide) (by decide) hbs (x := 100) (by decide) (by omega) (fun j => by first | trivial | decide | rfl | exact Or.inl rfl | (refine ⟨?_, ?_⟩ <;> decide)) (by rw [hRc]; omega) (by rw [hRs]; omega) dX13_init_207 (fun H_121 hfr_121 hh_121 => ?_)
  have hh_121 : jSt (dC, dI) B base G0 (va_up G_116 H_119.size (some (168, 100))) EX13_init s.heap (((((((((((((((((((((((((0 + 1) + 1) + 1) + 1) + 1) + 1) + 1) + 1) + 1) + 1) + 1) + 1) + 1) + 1) + 1) + 1) + 1) + 1) + 1) + 1) + 1) + 1) + 1) + 1) + 1) (((((((((((((((((((((((((0 + 120000) + 120000) + 120000) + 120000) + 120000) + 12000) + 1600) + 1600) + 16) + 16) + 16) + 16) + 16) + 46) + 46) + 276) + 46) + 368) + 368) + 1500) + 1500) + 200) + 1) + 100) + 100) [] [] [] H_121 locs_119 := hh_121
  have hN_121 : (jNk [0, 1, 2, 3, 4, 5, 6, 7, 8, 9, 10, 11, 12, 13, 14, 16, 17, 175]) G_116 (va_up G_116 H_119.size (some (168, 100))) := jNk.new (by decide)
  have hgn_121 : (va_up G_116 H_119.size (some (168, 100))) H_119.size = some (168, 100) := jUp_self
  have hle_121 : jLe G_116 (va_up G_116 H_119.size (some (168, 100))) := jLe.new hh_119.2.1.fresh
  have hke_121 : jKe G_116 (va_up G_116 H_119.size (some (168, 100))) H_119 H_121 := jKe.new hfr_121
  have hsy_121 : s.heap.size ≤ H_119.size := hh_119.1.1
  generalize (va_up G_116 H_119.size (some (168, 100))) = G_121 at hN_121 hgn_121 hle_121 hke_121 hh_121
  clear hh_119
  have hNn_121 : (jNk [0, 1, 2, 3, 4, 5, 6, 7, 8, 9, 10, 11, 12, 13, 14, 16, 17, 175]) G0 G_121 := (hNn_116).tr hN_121
  have hkp_122 := hkp_120.tr hke_121
  have hraw_123n := hke_121.nr hraw_119.lt hraw_118n
  have hraw_123 := hraw_119.kept (hke_121.1 _ hraw_119.lt)
  refine j7_putRF hx hb hown hK hh_121 hB hAp hraw_123 hraw_123n hbr0 (C := RX13) (T := TX13) (N := 50) rfl (i := 44) (by decide) (Nat.le_of_ble_eq_true rfl) hly_15_44 rfl hin2 rfl hlk_86 (ty := (.array .int)) (v := .ref H_119.size) (by decide +kernel) rfl rfl dX13_init_209 (fun H_124 locs_124 hraw_124 hr_124 hh_124 => ?_)
  have hraw_124 : va_at (dC, dI) vwCl (r0, .inr (15, [.ref s.heap.size, .ref H_4.size, .ref H_9.size, .ref H_14.size, .ref H_19.size, .int 0, .ref H_24.size, .int 0, .ref H_29.size, .ref H_34.size, .int 0, .int 0, .ref H_39.size, .ref H_44.size, .ref H_49.size, .int 0, .ref H_54.size, .ref H_59.size, .int 0, .int 0, .int 0, .int 0, .ref H_64.size, .ref H_69.size, .ref H_74.size, .ref H_79.size, .ref H_84.size, .ref H_89.size, .ref H_94.size, .ref H_99.size, .int 0, .int 0, .int 0, .int 0, .int 0, .ref H_104.size, .int 0, .ref H_109.size, .int 0, .int 0, .int 0, .int 0, .int 0, .ref H_114.size, .ref H_119.size, .null, .int 0, .null, .null, .int 0])) H_124 := hraw_124
  have hkp_125 := hkp_122.put hr_124
  clear hh_121
  refine lv_aload_n hx hb dX13_init_212 rfl (lv_at hl 0 rfl) ?_
  refine lv_ldc hx hb hown hcs_89 dX13_init_213 ?_
  have hsz_126 := hh_124.2.2.2.2.2.1
  have htt_126 := hh_124.2.2.2.2.2.2.1
  refine j7_newiK hx hb hK hh_124 hB (atype := .int) (ty := .int) (htw (.arrayClass .int) (jWr_3 _ (List.mem_of_getElem? (i := 20) rfl))) rfl rfl (fun _ h => h) hB101 1 rfl (by decide) (by decide) hbs (x := 100000) (by decide) (by omega) (fun j => by first | trivial | decide | rfl | exact Or.inl rfl | (refine ⟨?_, ?_⟩ <;> decide)) (by rw [hRc]; omega) (by rw [hRs]; omega) dX13_init_215 (fun H_126 hfr_126 hh_126 => ?_)
  have hh_126 : jSt (dC, dI) B base G0 (va_up G_121 H_124.size (some (101, 100000))) EX13_init s.heap ((((((((((((((((((((((((((0 + 1) + 1) + 1) + 1) + 1) + 1) + 1) + 1) + 1) + 1) + 1) + 1) + 1) + 1) + 1) + 1) + 1) + 1) + 1) + 1) + 1) + 1) + 1) + 1) + 1) + 1) ((((((((((((((((((((((((((0 + 120000) + 120000) + 120000) + 120000) + 120000) + 12000) + 1600) + 1600) + 16) + 16) + 16) + 16) + 16) + 46) + 46) + 276) + 46) + 368) + 368) + 1500) + 1500) + 200) + 1) + 100) + 100) + 100000) [] [] [] H_126 locs_124 := hh_126
  have hN_126 : (jNk [0, 1, 2, 3, 4, 5, 6, 7, 8, 9, 10, 11, 12, 13, 14, 16, 17, 175]) G_121 (va_up G_121 H_124.size (some (101, 100000))) := jNk.new (by decide)
  have hgn_126 : (va_up G_121 H_124.size (some (101, 100000))) H_124.size = some (101, 100000) := jUp_self
  have hle_126 : jLe G_121 (va_up G_121 H_124.size (some (101, 100000))) := jLe.new hh_124.2.1.fresh
  have hke_126 : jKe G_121 (va_up G_121 H_124.size (some (101, 100000))) H_124 H_126 := jKe.new hfr_126
  have hsy_126 : s.heap.size ≤ H_124.size := hh_124.1.1
  generalize (va_up G_121 H_124.size (some (101, 100000))) = G_126 at hN_126 hgn_126 hle_126 hke_126 hh_126
  clear hh_124
  have hNn_126 : (jNk [0, 1, 2, 3, 4, 5, 6, 7, 8, 9, 10, 11, 12, 13, 14, 16, 17, 175]) G0 G_126 := (hNn_121).tr hN_126
  have hkp_127 := hkp_125.tr hke_126
  have hraw_128n := hke_126.nr hraw_124.lt hraw_123n
  have hraw_128 := hraw_124.kept (hke_126.1 _ hraw_124.lt)
  refine j7_putRF hx hb hown hK hh_126 hB hAp hraw_128 hraw_128n hbr0 (C := RX13) (T := TX13) (N := 50) rfl (i := 45) (by decide) (Nat.le_of_ble_eq_true rfl) hly_15_45 rfl hin2 rfl hlk_90 (ty := (.array .int)) (v := .ref H_124.size) (by decide +kernel) rfl rfl dX13_init_217 (fun H_129 locs_129 hraw_129 hr_129 hh_129 => ?_)
  have hraw_129 : va_at (dC, dI) vwCl (r0, .inr (15, [.ref s.heap.size, .ref H_4.size, .ref H_9.size, .ref H_14.size, .ref H_19.size, .int 0, .ref H_24.size, .int 0, .ref H_29.size, .ref H_34.size, .int 0, .int 0, .ref H_39.size, .ref H_44.size, .ref H_49.size, .int 0, .ref H_54.size, .ref H_59.size, .int 0, .int 0, .int 0, .int 0, .ref H_64.size, .ref H_69.size, .ref H_74.size, .ref H_79.size, .ref H_84.size, .ref H_89.size, .ref H_94.size, .ref H_99.size, .int 0, .int 0, .int 0, .int 0, .int 0, .ref H_104.size, .int 0, .ref H_109.size, .int 0, .int 0, .int 0, .int 0, .int 0, .ref H_114.size, .ref H_119.size, .ref H_124.size, .int 0, .null, .null, .int 0])) H_129 := hraw_129
  have hkp_130 := hkp_127.put hr_129
  clear hh_126
  refine lv_aload_n hx hb dX13_init_220 rfl (lv_at hl 0 rfl) ?_
  refine lv_bipush (v := 100) hx hb dX13_init_221 (by decide) ?_
  have hsz_131 := hh_129.2.2.2.2.2.1
  have htt_131 := hh_129.2.2.2.2.2.2.1
  refine j7_newiK hx hb hK hh_129 hB (atype := .int) (ty := .int) (htw (.arrayClass .int) (jWr_3 _ (List.mem_of_getElem? (i := 20) rfl))) rfl rfl (fun _ h => h) hB163 1 rfl (by decide) (by decide) hbs (x := 100) (by decide) (by omega) (fun j => by first | trivial | decide | rfl | exact Or.inl rfl | (refine ⟨?_, ?_⟩ <;> decide)) (by rw [hRc]; omega) (by rw [hRs]; omega) dX13_init_223 (fun H_131 hfr_131 hh_131 => ?_)
  have hh_131 : jSt (dC, dI) B base G0 (va_up G_126 H_129.size (some (163, 100))) EX13_init s.heap (((((((((((((((((((((((((((0 + 1) + 1) + 1) + 1) + 1) + 1) + 1) + 1) + 1) + 1) + 1) + 1) + 1) + 1) + 1) + 1) + 1) + 1) + 1) + 1) + 1) + 1) + 1) + 1) + 1) + 1) + 1) (((((((((((((((((((((((((((0 + 120000) + 120000) + 120000) + 120000) + 120000) + 12000) + 1600) + 1600) + 16) + 16) + 16) + 16) + 16) + 46) + 46) + 276) + 46) + 368) + 368) + 1500) + 1500) + 200) + 1) + 100) + 100) + 100000) + 100) [] [] [] H_131 locs_129 := hh_131
  have hN_131 : (jNk [0, 1, 2, 3, 4, 5, 6, 7, 8, 9, 10, 11, 12, 13, 14, 16, 17, 175]) G_126 (va_up G_126 H_129.size (some (163, 100))) := jNk.new (by decide)
  have hgn_131 : (va_up G_126 H_129.size (some (163, 100))) H_129.size = some (163, 100) := jUp_self
  have hle_131 : jLe G_126 (va_up G_126 H_129.size (some (163, 100))) := jLe.new hh_129.2.1.fresh
  have hke_131 : jKe G_126 (va_up G_126 H_129.size (some (163, 100))) H_129 H_131 := jKe.new hfr_131
  have hsy_131 : s.heap.size ≤ H_129.size := hh_129.1.1
  generalize (va_up G_126 H_129.size (some (163, 100))) = G_131 at hN_131 hgn_131 hle_131 hke_131 hh_131
  clear hh_129
  have hNn_131 : (jNk [0, 1, 2, 3, 4, 5, 6, 7, 8, 9, 10, 11, 12, 13, 14, 16, 17, 175]) G0 G_131 := (hNn_126).tr hN_131
  have hkp_132 := hkp_130.tr hke_131
  have hraw_133n := hke_131.nr hraw_129.lt hraw_128n
  have hraw_133 := hraw_129.kept (hke_131.1 _ hraw_129.lt)
  refine j7_putRF hx hb hown hK hh_131 hB hAp hraw_133 hraw_133n hbr0 (C := RX13) (T := TX13) (N := 50) rfl (i := 47) (by decide) (Nat.le_of_ble_eq_true rfl) hly_15_47 rfl hin2 rfl hlk_93 (ty := (.array .int)) (v := .ref H_129.size) (by decide +kernel) rfl rfl dX13_init_225 (fun H_134 locs_134 hraw_134 hr_134 hh_134 => ?_)
  have hraw_134 : va_at (dC, dI) vwCl (r0, .inr (15, [.ref s.heap.size, .ref H_4.size, .ref H_9.size, .ref H_14.size, .ref H_19.size, .int 0, .ref H_24.size, .int 0, .ref H_29.size, .ref H_34.size, .int 0, .int 0, .ref H_39.size, .ref H_44.size, .ref H_49.size, .int 0, .ref H_54.size, .ref H_59.size, .int 0, .int 0, .int 0, .int 0, .ref H_64.size, .ref H_69.size, .ref H_74.size, .ref H_79.size, .ref H_84.size, .ref H_89.size, .ref H_94.size, .ref H_99.size, .int 0, .int 0, .int 0, .int 0, .int 0, .ref H_104.size, .int 0, .ref H_109.size, .int 0, .int 0, .int 0, .int 0, .int 0, .ref H_114.size, .ref H_119.size, .ref H_124.size, .int 0, .ref H_129.size, .null, .int 0])) H_134 := hraw_134
  have hkp_135 := hkp_132.put hr_134
  clear hh_131
  refine lv_aload_n hx hb dX13_init_228 rfl (lv_at hl 0 rfl) ?_
  refine lv_bipush (v := 100) hx hb dX13_init_229 (by decide) ?_
  have hsz_136 := hh_134.2.2.2.2.2.1
  have htt_136 := hh_134.2.2.2.2.2.2.1
  refine j7_newiK hx hb hK hh_134 hB (atype := .int) (ty := .int) (htw (.arrayClass .int) (jWr_3 _ (List.mem_of_getElem? (i := 20) rfl))) rfl rfl (fun _ h => h) hB164 1 rfl (by decide) (by decide) hbs (x := 100) (by decide) (by omega) (fun j => by first | trivial | decide | rfl | exact Or.inl rfl | (refine ⟨?_, ?_⟩ <;> decide)) (by rw [hRc]; omega) (by rw [hRs]; omega) dX13_init_231 (fun H_136 hfr_136 hh_136 => ?_)
  have hh_136 : jSt (dC, dI) B base G0 (va_up G_131 H_134.size (some (164, 100))) EX13_init s.heap ((((((((((((((((((((((((((((0 + 1) + 1) + 1) + 1) + 1) + 1) + 1) + 1) + 1) + 1) + 1) + 1) + 1) + 1) + 1) + 1) + 1) + 1) + 1) + 1) + 1) + 1) + 1) + 1) + 1) + 1) + 1) + 1) ((((((((((((((((((((((((((((0 + 120000) + 120000) + 120000) + 120000) + 120000) + 12000) + 1600) + 1600) + 16) + 16) + 16) + 16) + 16) + 46) + 46) + 276) + 46) + 368) + 368) + 1500) + 1500) + 200) + 1) + 100) + 100) + 100000) + 100) + 100) [] [] [] H_136 locs_134 := hh_136
  have hN_136 : (jNk [0, 1, 2, 3, 4, 5, 6, 7, 8, 9, 10, 11, 12, 13, 14, 16, 17, 175]) G_131 (va_up G_131 H_134.size (some (164, 100))) := jNk.new (by decide)
  have hgn_136 : (va_up G_131 H_134.size (some (164, 100))) H_134.size = some (164, 100) := jUp_self
  have hle_136 : jLe G_131 (va_up G_131 H_134.size (some (164, 100))) := jLe.new hh_134.2.1.fresh
  have hke_136 : jKe G_131 (va_up G_131 H_134.size (some (164, 100))) H_134 H_136 := jKe.new hfr_136
  have hsy_136 : s.heap.size ≤ H_134.size := hh_134.1.1
  generalize (va_up G_131 H_134.size (some (164, 100))) = G_136 at hN_136 hgn_136 hle_136 hke_136 hh_136
  clear hh_134
  have hNn_136 : (jNk [0, 1, 2, 3, 4, 5, 6, 7, 8, 9, 10, 11, 12, 13, 14, 16, 17, 175]) G0 G_136 := (hNn_131).tr hN_136
  have hkp_137 := hkp_135.tr hke_136
  have hraw_138n := hke_136.nr hraw_134.lt hraw_133n
  have hraw_138 := hraw_134.kept (hke_136.1 _ hraw_134.lt)
  refine j7_putRF hx hb hown hK hh_136 hB hAp hraw_138 hraw_138n hbr0 (C := RX13) (T := TX13) (N := 50) rfl (i := 48) (by decide) (Nat.le_of_ble_eq_true rfl) hly_15_48 rfl hin2 rfl hlk_96 (ty := (.array .int)) (v := .ref H_134.size) (by decide +kernel) rfl rfl dX13_init_233 (fun H_139 locs_139 hraw_139 hr_139 hh_139 => ?_)
  have hraw_139 : va_at (dC, dI) vwCl (r0, .inr (15, [.ref s.heap.size, .ref H_4.size, .ref H_9.size, .ref H_14.size, .ref H_19.size, .int 0, .ref H_24.size, .int 0, .ref H_29.size, .ref H_34.size, .int 0, .int 0, .ref H_39.size, .ref H_44.size, .ref H_49.size, .int 0, .ref H_54.size, .ref H_59.size, .int 0, .int 0, .int 0, .int 0, .ref H_64.size, .ref H_69.size, .ref H_74.size, .ref H_79.size, .ref H_84.size, .ref H_89.size, .ref H_94.size, .ref H_99.size, .int 0, .int 0, .int 0, .int 0, .int 0, .ref H_104.size, .int 0, .ref H_109.size, .int 0, .int 0, .int 0, .int 0, .int 0, .ref H_114.size, .ref H_119.size, .ref H_124.size, .int 0, .ref H_129.size, .ref H_134.size, .int 0])) H_139 := hraw_139
  have hkp_140 := hkp_137.put hr_139
  clear hh_136
  have hsz_141 := hh_139.2.2.2.2.2.1
  have htt_141 := hh_139.2.2.2.2.2.2.1
  refine W.room (fun hrc_141 hrs_141 => ?_)
  refine W.widen (k := LC - s.heap.size) (n := LS - jTot s.heap) (by omega) (by omega) ?_
  rw [hQ]
  have hle_142 : jLe G_136 (va_up G_136 r0 (some (15, 0))) := jLe.typ hraw_138n
  have hg_143 := (((((((((((((((((((((((((((hle_6).tr hle_11).tr hle_16).tr hle_21).tr hle_26).tr hle_31).tr hle_36).tr hle_41).tr hle_46).tr hle_51).tr hle_56).tr hle_61).tr hle_66).tr hle_71).tr hle_76).tr hle_81).tr hle_86).tr hle_91).tr hle_96).tr hle_101).tr hle_106).tr hle_111).tr hle_116).tr hle_121).tr hle_126).tr hle_131).tr hle_136).tr hle_142 _ _ hgn_1
  have hg_144 := ((((((((((((((((((((((((((hle_11).tr hle_16).tr hle_21).tr hle_26).tr hle_31).tr hle_36).tr hle_41).tr hle_46).tr hle_51).tr hle_56).tr hle_61).tr hle_66).tr hle_71).tr hle_76).tr hle_81).tr hle_86).tr hle_91).tr hle_96).tr hle_101).tr hle_106).tr hle_111).tr hle_116).tr hle_121).tr hle_126).tr hle_131).tr hle_136).tr hle_142 _ _ hgn_6
  have hg_145 := (((((((((((((((((((((((((hle_16).tr hle_21).tr hle_26).tr hle_31).tr hle_36).tr hle_41).tr hle_46).tr hle_51).tr hle_56).tr hle_61).tr hle_66).tr hle_71).tr hle_76).tr hle_81).tr hle_86).tr hle_91).tr hle_96).tr hle_101).tr hle_106).tr hle_111).tr hle_116).tr hle_121).tr hle_126).tr hle_131).tr hle_136).tr hle_142 _ _ hgn_11
  have hg_146 := ((((((((((((((((((((((((hle_21).tr hle_26).tr hle_31).tr hle_36).tr hle_41).tr hle_46).tr hle_51).tr hle_56).tr hle_61).tr hle_66).tr hle_71).tr hle_76).tr hle_81).tr hle_86).tr hle_91).tr hle_96).tr hle_101).tr hle_106).tr hle_111).tr hle_116).tr hle_121).tr hle_126).tr hle_131).tr hle_136).tr hle_142 _ _ hgn_16
  have hg_147 := (((((((((((((((((((((((hle_26).tr hle_31).tr hle_36).tr hle_41).tr hle_46).tr hle_51).tr hle_56).tr hle_61).tr hle_66).tr hle_71).tr hle_76).tr hle_81).tr hle_86).tr hle_91).tr hle_96).tr hle_101).tr hle_106).tr hle_111).tr hle_116).tr hle_121).tr hle_126).tr hle_131).tr hle_136).tr hle_142 _ _ hgn_21
  have hg_148 := ((((((((((((((((((((((hle_31).tr hle_36).tr hle_41).tr hle_46).tr hle_51).tr hle_56).tr hle_61).tr hle_66).tr hle_71).tr hle_76).tr hle_81).tr hle_86).tr hle_91).tr hle_96).tr hle_101).tr hle_106).tr hle_111).tr hle_116).tr hle_121).tr hle_126).tr hle_131).tr hle_136).tr hle_142 _ _ hgn_26
  have hg_149 := (((((((((((((((((((((hle_36).tr hle_41).tr hle_46).tr hle_51).tr hle_56).tr hle_61).tr hle_66).tr hle_71).tr hle_76).tr hle_81).tr hle_86).tr hle_91).tr hle_96).tr hle_101).tr hle_106).tr hle_111).tr hle_116).tr hle_121).tr hle_126).tr hle_131).tr hle_136).tr hle_142 _ _ hgn_31
  have hg_150 := ((((((((((((((((((((hle_41).tr hle_46).tr hle_51).tr hle_56).tr hle_61).tr hle_66).tr hle_71).tr hle_76).tr hle_81).tr hle_86).tr hle_91).tr hle_96).tr hle_101).tr hle_106).tr hle_111).tr hle_116).tr hle_121).tr hle_126).tr hle_131).tr hle_136).tr hle_142 _ _ hgn_36
  have hg_151 := (((((((((((((((((((hle_46).tr hle_51).tr hle_56).tr hle_61).tr hle_66).tr hle_71).tr hle_76).tr hle_81).tr hle_86).tr hle_91).tr hle_96).tr hle_101).tr hle_106).tr hle_111).tr hle_116).tr hle_121).tr hle_126).tr hle_131).tr hle_136).tr hle_142 _ _ hgn_41
  have hg_152 := ((((((((((((((((((hle_51).tr hle_56).tr hle_61).tr hle_66).tr hle_71).tr hle_76).tr hle_81).tr hle_86).tr hle_91).tr hle_96).tr hle_101).tr hle_106).tr hle_111).tr hle_116).tr hle_121).tr hle_126).tr hle_131).tr hle_136).tr hle_142 _ _ hgn_46
  have hg_153 := (((((((((((((((((hle_56).tr hle_61).tr hle_66).tr hle_71).tr hle_76).tr hle_81).tr hle_86).tr hle_91).tr hle_96).tr hle_101).tr hle_106).tr hle_111).tr hle_116).tr hle_121).tr hle_126).tr hle_131).tr hle_136).tr hle_142 _ _ hgn_51
  have hg_154 := ((((((((((((((((hle_61).tr hle_66).tr hle_71).tr hle_76).tr hle_81).tr hle_86).tr hle_91).tr hle_96).tr hle_101).tr hle_106).tr hle_111).tr hle_116).tr hle_121).tr hle_126).tr hle_131).tr hle_136).tr hle_142 _ _ hgn_56
  have hg_155 := (((((((((((((((hle_66).tr hle_71).tr hle_76).tr hle_81).tr hle_86).tr hle_91).tr hle_96).tr hle_101).tr hle_106).tr hle_111).tr hle_116).tr hle_121).tr hle_126).tr hle_131).tr hle_136).tr hle_142 _ _ hgn_61
  have hg_156 := ((((((((((((((hle_71).tr hle_76).tr hle_81).tr hle_86).tr hle_91).tr hle_96).tr hle_101).tr hle_106).tr hle_111).tr hle_116).tr hle_121).tr hle_126).tr hle_131).tr hle_136).tr hle_142 _ _ hgn_66
  have hg_157 := (((((((((((((hle_76).tr hle_81).tr hle_86).tr hle_91).tr hle_96).tr hle_101).tr hle_106).tr hle_111).tr hle_116).tr hle_121).tr hle_126).tr hle_131).tr hle_136).tr hle_142 _ _ hgn_71
  have hg_158 := ((((((((((((hle_81).tr hle_86).tr hle_91).tr hle_96).tr hle_101).tr hle_106).tr hle_111).tr hle_116).tr hle_121).tr hle_126).tr hle_131).tr hle_136).tr hle_142 _ _ hgn_76
  have hg_159 := (((((((((((hle_86).tr hle_91).tr hle_96).tr hle_101).tr hle_106).tr hle_111).tr hle_116).tr hle_121).tr hle_126).tr hle_131).tr hle_136).tr hle_142 _ _ hgn_81
  have hg_160 := ((((((((((hle_91).tr hle_96).tr hle_101).tr hle_106).tr hle_111).tr hle_116).tr hle_121).tr hle_126).tr hle_131).tr hle_136).tr hle_142 _ _ hgn_86
  have hg_161 := (((((((((hle_96).tr hle_101).tr hle_106).tr hle_111).tr hle_116).tr hle_121).tr hle_126).tr hle_131).tr hle_136).tr hle_142 _ _ hgn_91
  have hg_162 := ((((((((hle_101).tr hle_106).tr hle_111).tr hle_116).tr hle_121).tr hle_126).tr hle_131).tr hle_136).tr hle_142 _ _ hgn_96
  have hg_163 := (((((((hle_106).tr hle_111).tr hle_116).tr hle_121).tr hle_126).tr hle_131).tr hle_136).tr hle_142 _ _ hgn_101
  have hg_164 := ((((((hle_111).tr hle_116).tr hle_121).tr hle_126).tr hle_131).tr hle_136).tr hle_142 _ _ hgn_106
  have hg_165 := (((((hle_116).tr hle_121).tr hle_126).tr hle_131).tr hle_136).tr hle_142 _ _ hgn_111
  have hg_166 := ((((hle_121).tr hle_126).tr hle_131).tr hle_136).tr hle_142 _ _ hgn_116
  have hg_167 := (((hle_126).tr hle_131).tr hle_136).tr hle_142 _ _ hgn_121
  have hg_168 := ((hle_131).tr hle_136).tr hle_142 _ _ hgn_126
  have hg_169 := (hle_136).tr hle_142 _ _ hgn_131
  have hg_170 := (jLe.rf).tr hle_142 _ _ hgn_136
  have hfa_142 : jRf (va_up G_136 r0 (some (15, 0))) 150 120000 (.ref s.heap.size) ∧ jRf (va_up G_136 r0 (some (15, 0))) 151 120000 (.ref H_4.size) ∧ jRf (va_up G_136 r0 (some (15, 0))) 152 120000 (.ref H_9.size) ∧ jRf (va_up G_136 r0 (some (15, 0))) 153 120000 (.ref H_14.size) ∧ jRf (va_up G_136 r0 (some (15, 0))) 154 120000 (.ref H_19.size) ∧ jI 0 120000 (.int 0) ∧ jRf (va_up G_136 r0 (some (15, 0))) 166 12000 (.ref H_24.size) ∧ jI 0 12000 (.int 0) ∧ jRf (va_up G_136 r0 (some (15, 0))) 155 1600 (.ref H_29.size) ∧ jRf (va_up G_136 r0 (some (15, 0))) 156 1600 (.ref H_34.size) ∧ jI 0 1600 (.int 0) ∧ jI 0 16 (.int 0) ∧ jRf (va_up G_136 r0 (some (15, 0))) 163 16 (.ref H_39.size) ∧ jRf (va_up G_136 r0 (some (15, 0))) 103 16 (.ref H_44.size) ∧ jRf (va_up G_136 r0 (some (15, 0))) 165 16 (.ref H_49.size) ∧ jI 0 16 (.int 0) ∧ jRf (va_up G_136 r0 (some (15, 0))) 163 16 (.ref H_54.size) ∧ jRf (va_up G_136 r0 (some (15, 0))) 160 16 (.ref H_59.size) ∧ jZb (.int 0) ∧ jI 0 1599 (.int 0) ∧ jI 0 119999 (.int 0) ∧ jI 0 6 (.int 0) ∧ jRf (va_up G_136 r0 (some (15, 0))) 161 46 (.ref H_64.size) ∧ jRf (va_up G_136 r0 (some (15, 0))) 158 46 (.ref H_69.size) ∧ jRf (va_up G_136 r0 (some (15, 0))) 163 276 (.ref H_74.size) ∧ jRf (va_up G_136 r0 (some (15, 0))) 159 46 (.ref H_79.size) ∧ jRf (va_up G_136 r0 (some (15, 0))) 163 368 (.ref H_84.size) ∧ jRf (va_up G_136 r0 (some (15, 0))) 162 368 (.ref H_89.size) ∧ jRf (va_up G_136 r0 (some (15, 0))) 167 1500 (.ref H_94.size) ∧ jRf (va_up G_136 r0 (some (15, 0))) 157 1500 (.ref H_99.size) ∧ jI 0 1500 (.int 0) ∧ jIa (.int 0) ∧ jI 0 1600 (.int 0) ∧ jZb (.int 0) ∧ jI 0 9 (.int 0) ∧ jRf (va_up G_136 r0 (some (15, 0))) 163 200 (.ref H_104.size) ∧ jI 0 200 (.int 0) ∧ jRf (va_up G_136 r0 (some (15, 0))) 169 1 (.ref H_109.size) ∧ jI 0 1599 (.int 0) ∧ jI 0 1599 (.int 0) ∧ jI 0 1599 (.int 0) ∧ jI 0 3 (.int 0) ∧ jI 0 119999 (.int 0) ∧ jRf (va_up G_136 r0 (some (15, 0))) 169 100 (.ref H_114.size) ∧ jRf (va_up G_136 r0 (some (15, 0))) 168 100 (.ref H_119.size) ∧ jRf (va_up G_136 r0 (some (15, 0))) 101 100000 (.ref H_124.size) ∧ jI 0 100000 (.int 0) ∧ jRf (va_up G_136 r0 (some (15, 0))) 163 100 (.ref H_129.size) ∧ jRf (va_up G_136 r0 (some (15, 0))) 164 100 (.ref H_134.size) ∧ jI 0 100 (.int 0) ∧ True := ⟨⟨_, rfl, hg_143⟩, ⟨_, rfl, hg_144⟩, ⟨_, rfl, hg_145⟩, ⟨_, rfl, hg_146⟩, ⟨_, rfl, hg_147⟩, ⟨_, rfl, by omega, by omega⟩, ⟨_, rfl, hg_148⟩, ⟨_, rfl, by omega, by omega⟩, ⟨_, rfl, hg_149⟩, ⟨_, rfl, hg_150⟩, ⟨_, rfl, by omega, by omega⟩, ⟨_, rfl, by omega, by omega⟩, ⟨_, rfl, hg_151⟩, ⟨_, rfl, hg_152⟩, ⟨_, rfl, hg_153⟩, ⟨_, rfl, by omega, by omega⟩, ⟨_, rfl, hg_154⟩, ⟨_, rfl, hg_155⟩, ⟨_, rfl, Or.inl rfl⟩, ⟨_, rfl, by omega, by omega⟩, ⟨_, rfl, by omega, by omega⟩, ⟨_, rfl, by omega, by omega⟩, ⟨_, rfl, hg_156⟩, ⟨_, rfl, hg_157⟩, ⟨_, rfl, hg_158⟩, ⟨_, rfl, hg_159⟩, ⟨_, rfl, hg_160⟩, ⟨_, rfl, hg_161⟩, ⟨_, rfl, hg_162⟩, ⟨_, rfl, hg_163⟩, ⟨_, rfl, by omega, by omega⟩, ⟨_, rfl⟩, ⟨_, rfl, by omega, by omega⟩, ⟨_, rfl, Or.inl rfl⟩, ⟨_, rfl, by omega, by omega⟩, ⟨_, rfl, hg_164⟩, ⟨_, rfl, by omega, by omega⟩, ⟨_, rfl, hg_165⟩, ⟨_, rfl, by omega, by omega⟩, ⟨_, rfl, by omega, by omega⟩, ⟨_, rfl, by omega, by omega⟩, ⟨_, rfl, by omega, by omega⟩, ⟨_, rfl, by omega, by omega⟩, ⟨_, rfl, hg_166⟩, ⟨_, rfl, hg_167⟩, ⟨_, rfl, hg_168⟩, ⟨_, rfl, by omega, by omega⟩, ⟨_, rfl, hg_169⟩, ⟨_, rfl, hg_170⟩, ⟨_, rfl, by omega, by omega⟩, trivial⟩
  have hh_142 := hh_139.typ (k := 15) (n := 0) hB hraw_138n hbr0 hraw_139.lt (jOb.of (C := RX13) (T := TX13) (N := 50) (F := F15) hB15 rfl hraw_139 (show jFx (F15 0 (va_up G_136 r0 (some (15, 0)))) [.ref s.heap.size, .ref H_4.size, .ref H_9.size, .ref H_14.size, .ref H_19.size, .int 0, .ref H_24.size, .int 0, .ref H_29.size, .ref H_34.size, .int 0, .int 0, .ref H_39.size, .ref H_44.size, .ref H_49.size, .int 0, .ref H_54.size, .ref H_59.size, .int 0, .int 0, .int 0, .int 0, .ref H_64.size, .ref H_69.size, .ref H_74.size, .ref H_79.size, .ref H_84.size, .ref H_89.size, .ref H_94.size, .ref H_99.size, .int 0, .int 0, .int 0, .int 0, .int 0, .ref H_104.size, .int 0, .ref H_109.size, .int 0, .int 0, .int 0, .int 0, .int 0, .ref H_114.size, .ref H_119.size, .ref H_124.size, .int 0, .ref H_129.size, .ref H_134.size, .int 0] from hfa_142))
  have hgn_142 : (va_up G_136 r0 (some (15, 0))) r0 = some (15, 0) := jUp_self
  have hN_142 : (jNk [0, 1, 2, 3, 4, 5, 6, 7, 8, 9, 10, 11, 12, 13, 14, 16, 17, 175]) G_136 (va_up G_136 r0 (some (15, 0))) := jNk.new (by decide)
  have hNn_142 : (jNk [0, 1, 2, 3, 4, 5, 6, 7, 8, 9, 10, 11, 12, 13, 14, 16, 17, 175]) G0 (va_up G_136 r0 (some (15, 0))) := (hNn_136).tr hN_142
  have hkp_171 := hkp_140.typ (t := some (15, 0))
  exact W.vret hx hb hr (fun t ht hW => ⟨⟨(va_up G_136 r0 (some (15, 0))), rfl, trivial, ⟨hh_142.ra (by first | omega | (simp only; omega)) (by first | omega | (simp only; omega)) (M1 := []) [] rfl ht, hNn_142, hgn_142, by rw [ht]; exact hkp_171⟩⟩, by rw [ht]; try exact hh_142.1.1, fun q h9 hq => by rw [ht]; try exact hh_142.1.2.1 q h9 hq⟩) hh_142.1.2.2 dX13_init_236
end
section
-- arrays of references that get their kind when they are filled; arrays of arrays of ints
section J22
variable {p : Program} {l : Launch} {e : Env} {R : Room} {s : State} {m : MethodId} {args : Array Value} {below : List Frame} {meth : Method} {c : Code} {H : Heap} {locs : List Loc} {cells slots : Nat} {Q : State → Prop}
variable {cc : ByteArray} {pc : Nat} {ls : Array Slot} {rest : List Value} {dC : Nat → ClassId} {dI : Nat → Nat → Nat} {ca : Nat → ClassId} {B : jF} {base : Nat} {G0 G : jT} {E : List (Nat × Nat)} {H0 : Heap} {zc zs : Nat} {L : List jPin} {M : List jCt} {I : List jIv} {a k n index : Nat} {tys : List (ClassId × FieldType)} {own C : String} {cA : ClassId} {f : Nat → Option Nat}
theorem j7_newqR (hexec : p.tables.exec = Jvm.exec) (hb : c.code = cc) (hown : s.vm.findClass own = some m.cls) (hclink : (Cond.classLink own index C).before args s = true) (hover : va_AO C s) (hK : va_K (dC, dI) vwCl tys s) (hh : jSt (dC, dI) B base G0 G E s.heap zc zs L M I H locs) (hB : jBok B) (t0 : Nat) (ht : tys[t0]? = some (cA, .object C)) {z : Int32} {x : Int} (hi : z.toInt = x) (h0 : 0 ≤ x ∧ x ≤ 200000) (hR : zc + 1 ≤ R.cells) (hR2 : zs + x.toNat ≤ R.slots) (hdg : decode cc pc = .ok (.anewarray index, 3))
    (kk : ∀ (H1 : Heap), (∀ q, q < H.size → H1[q]? = H[q]?) → (∀ t, G H.size ≠ some t) → va_at (dC, dI) vwCl (H.size, .inl (cA, x.toNat, .inr (.inr (.inr (.inr (fun _ => none)))))) H1 → jSt (dC, dI) B base G0 G E s.heap (zc + 1) (zs + x.toNat) L M I H1 locs → W p l e R s m args below meth c H1 locs (zc + 1) (zs + x.toNat) Q (F0 m (pc + 3) ls (.ref H.size :: rest))) : W p l e R s m args below meth c H locs cells slots Q (F0 m pc ls (.int z :: rest)) := by
  have hn0 : ¬ z < 0 := jb_n0 hi h0.1
  have hcl : z.toNatClampNeg = x.toNat := jb_cl hi h0.1
  refine W.tight (c2 := zc) (n2 := zs) hh.2.2.2.2.2.1 hh.2.2.2.2.2.2.1 ?_
  refine W.anew hexec hb hown hclink (va_AO.use hover) rfl hdg rfl hn0 (by rw [hcl]; omega) hR (by rw [hcl]; exact hR2) fun cB kA comp f1 f2 f3 f4 => ?_
  obtain ⟨kA', comp', k1, k2, k3, k4⟩ := (hK.2 t0 _ ht).2
  have hc : cB = cA := Option.some.inj (f1.symm.trans k4)
  subst hc
  generalize hH1 : H.push ({ cls := cB, slots := Array.replicate z.toNatClampNeg .null, vm := .none } : Cell) = H1
  have z1 : H1.size = H.size + 1 := by rw [← hH1, Array.size_push]
  have e1 : H1[H.size]? = some (arrV cB z.toNatClampNeg (fun _ => .null)) := by rw [← hH1, Array.getElem?_push_size, ← arrV_new]
  have o1 : ∀ q : Nat, q < H.size → H1[q]? = H[q]? := fun q hq => by rw [← hH1, Array.getElem?_push, if_neg (Nat.ne_of_lt hq)]
  rw [hcl] at e1 ⊢
  exact kk H1 o1 (fun t => by rw [hh.2.1.fresh]; exact fun h => by cases h) (by show H1[H.size]? = some (vp_cell _ _); rw [e1]; rfl) (hh.newR hB z1 o1 (by rw [jTot_push z1 e1 o1, arrV_size]))
/-- an object into an array that has no kind yet -/
theorem j7_qastR (hexec : p.tables.exec = Jvm.exec) (hb : c.code = cc) (hK : va_K (dC, dI) vwCl tys s) (hh : jSt (dC, dI) B base G0 G E H0 zc zs L M I H locs) (hB : jBok B) (hraw : va_at (dC, dI) vwCl (a, .inl (cA, n, .inr (.inr (.inr (.inr f))))) H) (hnr : ∀ t, G a ≠ some t) (hba : base ≤ a) (t0 : Nat) (ht : tys[t0]? = some (cA, .object C)) {i : Int32} {x : Int} (hi : i.toInt = x) (h12 : 0 ≤ x ∧ x < n)
    {v kv nv N : Nat} {T : u_T} {F : Nat → jT → List (Value → Prop)} (hBv : ∀ n G a H, B kv n G a H ↔ jOb (dC, dI) kv N (F n G) a H) (hc : vwCl[kv]? = some (C, T, N)) (hkv : kv < 1000) (hv : G v = some (kv, nv)) (hdg : decode cc pc = .ok (.aastore, 1))
    (kk : ∀ (H1 : Heap) (locs1 : List Loc), va_at (dC, dI) vwCl (a, .inl (cA, n, .inr (.inr (.inr (.inr (va_up f x.toNat (some v))))))) H1 → (∀ q, q ≠ a → H1[q]? = H[q]?) → jSt (dC, dI) B base G0 G E H0 zc zs L M I H1 locs1 → W p l e R s m args below meth c H1 locs1 cells slots Q (F0 m (pc + 1) ls rest)) : W p l e R s m args below meth c H locs cells slots Q (F0 m pc ls (.ref v :: .int i :: .ref a :: rest)) := by
  obtain ⟨h1, h2⟩ := h12
  have g1 : H[a]? = some (vp_cell cA (n, .inr (.inr (.inr (.inr f))))) := hraw
  obtain ⟨V, ⟨cellV, q1, q2, q3, q4⟩, hV⟩ := (hBv _ _ _ _).mp (hh.2.1.1 v kv nv hv hkv (fun h => by cases h))
  have hlt := jb_cl_lt hi h1 h2
  have hcl := jb_cl hi h1
  have hcls := (hK.1 kv _ hc).2
  obtain ⟨kA, comp, k1, k2, k3, -⟩ := (hK.2 t0 _ ht).2
  have hcomp : comp = dC kv := Option.some.inj (k3.symm.trans hcls.1)
  subst hcomp
  obtain ⟨kC, hkC, -⟩ := hcls.2
  refine W.aast hexec hb g1 (fun q h => by cases h) (fun h => by cases h) k1 k2 rfl hkC ⟨jb_n0 hi h1, by show _ < (arrV _ _ _).slots.size; rw [arrV_size]; exact hlt⟩ q1 (fun q h => by rw [q3] at h; cases h) (by rw [q2]; exact hkC) (by rw [q2]; exact va_assign hcls) rfl rfl hdg fun H1 e1 z oq => ?_
  refine kk H1 _ ?_ oq (hh.rawput hB hnr hba z oq (jTot_set z g1 e1 (jSet_sz _ _ _) oq) (fun q hq => ?_))
  · show H1[a]? = some (vp_cell _ _)
    rw [e1, vp_cell_q, vp_cell_q, arrV_store, hcl]
    congr 2
    funext q
    by_cases hq : q = x.toNat
    · subst hq
      simp [updV, va_up, va_rf]
    · simp [updV, va_up, hq]
  · rcases List.mem_append.mp hq with h | h
    · exact hh.1.2.2 q h
    · cases List.mem_singleton.mp h; exact hba
end J22
end
section
-- a constructor that another one calls for its own object
theorem jKx.self {r : Nat} {G0 G G1 : jT} {H0 H H1 : Heap} (h : jKx r G0 G H0 H) (h1 : jKx r G G1 H H1) : jKx r G0 G1 H0 H1 :=
  ⟨fun q hq hn => (h1.1 q (jLtz hq (h.1 q hq hn)) hn).trans (h.1 q hq hn), fun q t hq hn hg => h.2 q t hq hn (h1.2 q t (jLtz hq (h.1 q hq hn)) hn hg)⟩
theorem jKx.ke {a r : Nat} {G G1 : jT} {H H1 : Heap} (h : jKx r G G1 H H1) (hlt : a < H.size) (hne : a ≠ r) (hn : ∀ t, G a ≠ some t) : H1[a]? = H[a]? ∧ ∀ t, G1 a ≠ some t := ⟨h.1 a hlt hne, fun t e => hn t (h.2 a t hlt hne e)⟩
end
section
theorem dJ5_init_d00df_0 : decode cJ5_init_d00df 0 = .ok (.aload_n 0, 1) := by decide +kernel
theorem dJ5_init_d00df_1 : decode cJ5_init_d00df 1 = .ok (.invokespecial 3, 3) := by decide +kernel
theorem dJ5_init_d00df_4 : decode cJ5_init_d00df 4 = .ok (.getstatic 18, 3) := by decide +kernel
theorem dJ5_init_d00df_7 : decode cJ5_init_d00df 7 = .ok (.ifCond .eq 18, 3) := by decide +kernel
theorem dJ5_init_d00df_10 : decode cJ5_init_d00df 10 = .ok (.aload_n 0, 1) := by decide +kernel
theorem dJ5_init_d00df_11 : decode cJ5_init_d00df 11 = .ok (.iload_n 1, 1) := by decide +kernel
theorem dJ5_init_d00df_12 : decode cJ5_init_d00df 12 = .ok (.newarray .byte, 2) := by decide +kernel
theorem dJ5_init_d00df_14 : decode cJ5_init_d00df 14 = .ok (.putfield 15, 3) := by decide +kernel
theorem dJ5_init_d00df_17 : decode cJ5_init_d00df 17 = .ok (.aload_n 0, 1) := by decide +kernel
theorem dJ5_init_d00df_18 : decode cJ5_init_d00df 18 = .ok (.iconst 0, 1) := by decide +kernel
theorem dJ5_init_d00df_19 : decode cJ5_init_d00df 19 = .ok (.putfield 22, 3) := by decide +kernel
theorem dJ5_init_d00df_22 : decode cJ5_init_d00df 22 = .ok (.goto 16, 3) := by decide +kernel
theorem dJ5_init_d00df_38 : decode cJ5_init_d00df 38 = .ok (.return_, 1) := by decide +kernel
theorem dJ4_init_da8c8_0 : decode cJ4_init_da8c8 0 = .ok (.aload_n 0, 1) := by decide +kernel
theorem dJ4_init_da8c8_1 : decode cJ4_init_da8c8 1 = .ok (.bipush 16, 2) := by decide +kernel
theorem dJ4_init_da8c8_3 : decode cJ4_init_da8c8 3 = .ok (.invokespecial 1, 3) := by decide +kernel
theorem dJ4_init_da8c8_6 : decode cJ4_init_da8c8 6 = .ok (.return_, 1) := by decide +kernel
end
section
-- an array of arrays gets its kind
theorem jKe.typn {G0 G : jT} {H0 H : Heap} {a : Nat} {t : Option (Nat × Nat)} (h : jKe G0 G H0 H) (ha : H0.size ≤ a) : jKe G0 (va_up G a t) H0 H := ⟨h.1, fun q u hq hg => h.2 q u hq (by rw [va_up_ne _ _ (by omega)] at hg; exact hg)⟩
end
section
-- what the kernel's walks need: raw arrays of ints, arrays whose last element is null, states, new goals
section J30
variable {p : Program} {l : Launch} {e : Env} {R : Room} {s : State} {m : MethodId} {args : Array Value} {below : List Frame} {meth : Method} {c : Code} {H : Heap} {locs : List Loc} {cells slots : Nat} {Q : State → Prop}
variable {cc : ByteArray} {pc : Nat} {ls : Array Slot} {rest : List Value} {dC : Nat → ClassId} {dI : Nat → Nat → Nat} {ca : Nat → ClassId} {B : jF} {base : Nat} {G0 G : jT} {E : List (Nat × Nat)} {H0 : Heap} {zc zs : Nat} {L : List jPin} {M : List jCt} {I : List jIv} {a a0 k k0 n n0 index : Nat} {tys : List (ClassId × FieldType)} {own C : String} {cA : ClassId}
theorem j7_newiR {cA : ClassId} (hexec : p.tables.exec = Jvm.exec) (hb : c.code = cc) (hK : va_K (dC, dI) vwCl tys s) (hh : jSt (dC, dI) B base G0 G E s.heap zc zs L M I H locs) (hB : jBok B) {atype : ArrayType} {ty : FieldType} (harr : (Cond.arrayClass ty).before args s = true) (hty : newarray.typeOf atype = ty) (hd : defaultValue ty = .int 0) (hra : ∀ cA, va_RA s cA ty → s.vm.findClass ("[" ++ ty.toString) = some cA) (t0 : Nat) (ht : tys[t0]? = some (cA, ty)) (hcb : componentBytes ty ≤ 8) {z : Int32} {x : Int} (hi : z.toInt = x) (h0 : 0 ≤ x ∧ x ≤ 200000) (hR : zc + 1 ≤ R.cells) (hR2 : zs + x.toNat ≤ R.slots) (hdg : decode cc pc = .ok (.newarray atype, 2))
    (kk : ∀ (H1 : Heap), (∀ q, q < H.size → H1[q]? = H[q]?) → (∀ t, G H.size ≠ some t) → va_at (dC, dI) vwCl (H.size, .inl (cA, x.toNat, .inl (fun _ => 0))) H1 → jSt (dC, dI) B base G0 G E s.heap (zc + 1) (zs + x.toNat) L M I H1 locs → W p l e R s m args below meth c H1 locs (zc + 1) (zs + x.toNat) Q (F0 m (pc + 2) ls (.ref H.size :: rest))) : W p l e R s m args below meth c H locs cells slots Q (F0 m pc ls (.int z :: rest)) := by
  have hn0 : ¬ z < 0 := jb_n0 hi h0.1
  have hcl : z.toNatClampNeg = x.toNat := jb_cl hi h0.1
  have hmu : x.toNat * componentBytes ty ≤ 200000 * 8 := Nat.mul_le_mul (by omega) hcb
  refine W.tight (c2 := zc) (n2 := zs) hh.2.2.2.2.2.1 hh.2.2.2.2.2.2.1 ?_
  refine j_newi hexec hb harr hty hd hra hK t0 ht hn0 hcl (by omega) hR hR2 hdg (fun H1 hat hz1 hfr hT => ?_)
  exact kk H1 hfr (fun t => by rw [hh.2.1.fresh]; exact fun h => by cases h) hat (hh.newR hB hz1 hfr hT)
end J30
/-- a new state -/
theorem jSef.typ {dC : Nat → ClassId} {dI : Nat → Nat → Nat} {G : jT} {r n : Nat} {H : Heap} (h : jSef dC dI G H) (hn : ∀ t, G r ≠ some t) (hr : ∃ x y m : Nat, jf (dC, dI) 11 r 4 (.ref x) H ∧ jf (dC, dI) 11 r 5 (.ref y) H ∧ G x = some (101, m) ∧ G y = some (313, m) ∧ m ≤ 16) : jSef dC dI (va_up G r (some (11, n))) H := fun a ha => by
  have hle : jLe G (va_up G r (some (11, n))) := jLe.typ hn
  by_cases e : a = r
  · subst e
    obtain ⟨x, y, m, g1, g2, g3, g4, g5⟩ := hr
    exact ⟨x, y, m, g1, g2, hle _ _ g3, hle _ _ g4, g5⟩
  · rw [va_up_ne _ _ e] at ha
    obtain ⟨x, y, m, g1, g2, g3, g4, g5⟩ := h a ha
    exact ⟨x, y, m, g1, g2, hle _ _ g3, hle _ _ g4, g5⟩
-- the goals that are made are no null
end
section
-- all cells but these stay
theorem jKx.typn {r : Nat} {G0 G : jT} {H0 H : Heap} {a : Nat} {t : Option (Nat × Nat)} (h : jKx r G0 G H0 H) (ha : H0.size ≤ a) : jKx r G0 (va_up G a t) H0 H := ⟨h.1, fun q u hq hn hg => h.2 q u hq hn (by rw [va_up_ne _ _ (by omega)] at hg; exact hg)⟩
section J31
variable {p : Program} {l : Launch} {e : Env} {R : Room} {s : State} {m : MethodId} {args : Array Value} {below : List Frame} {meth : Method} {c : Code} {H : Heap} {locs : List Loc} {cells slots : Nat} {Q : State → Prop}
variable {cc : ByteArray} {pc : Nat} {ls : Array Slot} {rest : List Value} {dC : Nat → ClassId} {dI : Nat → Nat → Nat} {ca : Nat → ClassId} {B : jF} {base : Nat} {G0 G : jT} {E : List (Nat × Nat)} {H0 : Heap} {zc zs : Nat} {L : List jPin} {M : List jCt} {I : List jIv} {a k n : Nat} {tys : List (ClassId × FieldType)} {cA : ClassId}
end J31
end
section
-- Bytes that stay small; new Bytes
theorem jYb.typ {dC : Nat → ClassId} {dI : Nat → Nat → Nat} {G : jT} {r n : Nat} {H : Heap} (h : jYb dC dI G H) (hn : ∀ t, G r ≠ some t) (hr : n = 0 → ∃ (c : Int32) (x m : Nat), jf (dC, dI) 2 r 1 (.int c) H ∧ jf (dC, dI) 2 r 0 (.ref x) H ∧ G x = some (196, m) ∧ c.toInt ≤ m ∧ m ≤ 1048576) : jYb dC dI (va_up G r (some (2, n))) H := fun a ha => by
  have hle : jLe G (va_up G r (some (2, n))) := jLe.typ hn
  by_cases e : a = r
  · subst e
    have e1 : some (2, n) = some (2, 0) := jUp_self.symm.trans ha
    have e2 : n = 0 := congrArg Prod.snd (Option.some.inj e1)
    obtain ⟨c, x, m, g1, g2, g3, g4, g5⟩ := hr e2
    exact ⟨c, x, m, g1, g2, hle _ _ g3, g4, g5⟩
  · rw [va_up_ne _ _ e] at ha
    obtain ⟨c, x, m, g1, g2, g3, g4, g5⟩ := h a ha
    exact ⟨c, x, m, g1, g2, hle _ _ g3, g4, g5⟩
/-- a new list -/
theorem jLs.typ {dC : Nat → ClassId} {dI : Nat → Nat → Nat} {ca : Nat → ClassId} {G : jT} {k r : Nat} {w wn : jWl9} {H : Heap} (h : jLs dC dI ca G k none w H) (hn : ∀ t, G r ≠ some t) (h1 : jf (dC, dI) 1 r 2 (.int 0) H) (h2 : jf (dC, dI) 1 r 1 (.ref (dI 99 0)) H) (hk : k + 1 ≤ 3) (hw : k + 1 = 1 → wn.1 = 0) (hm : k + 1 ≠ 1 → jWls (k + 1) wn = []) (hw1 : jWo (k + 1) w wn) : jLs dC dI ca (va_up G r (some (1, k + 1))) (k + 1) none wn H := by
  have hle : jLe G (va_up G r (some (1, k + 1))) := jLe.typ hn
  have key : ∀ a c, va_up G r (some (1, k + 1)) a = some (1, c) → (a = r ∧ c = k + 1) ∨ (a ≠ r ∧ G a = some (1, c)) := fun a c ha => by
    by_cases e : a = r
    · subst e
      have e1 : some (1, k + 1) = some (1, c) := jUp_self.symm.trans ha
      exact Or.inl ⟨rfl, (congrArg Prod.snd (Option.some.inj e1)).symm⟩
    · rw [va_up_ne _ _ e] at ha
      exact Or.inr ⟨e, ha⟩
  refine ⟨fun a b c ha hb => ?_, fun a c ha => ?_, fun a c ha _ => ?_⟩
  · rcases key a c ha with ⟨rfl, rfl⟩ | ⟨-, ha1⟩
    · rcases key b _ hb with ⟨rfl, -⟩ | ⟨-, hb1⟩
      · rfl
      · have := (h.2.1 b _ hb1).2.1
        omega
    · rcases key b _ hb with ⟨-, rfl⟩ | ⟨-, hb1⟩
      · have := (h.2.1 a _ ha1).2.1
        omega
      · exact h.1 a b c ha1 hb1
  · rcases key a c ha with ⟨-, rfl⟩ | ⟨-, ha1⟩
    · omega
    · have := h.2.1 a c ha1
      omega
  · rcases key a c ha with ⟨rfl, rfl⟩ | ⟨-, ha1⟩
    · refine ⟨0, dI 99 0, h1, h2, ⟨by decide, ?_⟩, Or.inl ⟨rfl, by decide, hw, hm⟩⟩
      show (0 : Int) ≤ jLb (k + 1)
      unfold jLb
      split
      · omega
      · split <;> omega
    · have h9 := (h.2.2 a c ha1 (fun q => by cases q)).up hle
      have h8 := h.2.1 a c ha1
      exact h9.tell (hw1.s (by omega) h8.1 h8.2.2)
end
section
-- the documents of the class: sentences in order, and what is still to be checked of the open ones
section J41
variable {dC : Nat → ClassId} {dI : Nat → Nat → Nat} {ca : Nat → ClassId} {G G1 : jT} {H H1 : Heap} {x : Option Nat} {ph : Nat}
/-- a new document -/
theorem jDcc.typ {r n yb ye : Nat} {fb fe : Nat → Int32} (h : jDcc dC dI ca G none ph H) (hn : ∀ t, G r ≠ some t) (h4 : jf (dC, dI) 3 r 4 (.int 0) H) (h10 : jf (dC, dI) 3 r 10 (.int 0) H) (h11 : jf (dC, dI) 3 r 11 .null H) (h5 : jf (dC, dI) 3 r 5 (.ref yb) H) (h6 : jf (dC, dI) 3 r 6 (.ref ye) H) (hb : G yb = some (171, 40)) (he : G ye = some (172, 40)) (hM : jMc (dC, dI) G H [(yb, 171, 40, ca 1, fb), (ye, 172, 40, ca 1, fe)])
    (hd : ∀ a m, G a = some (3, m) → ∀ y, (jf (dC, dI) 3 a 5 (.ref y) H → y ≠ yb) ∧ (jf (dC, dI) 3 a 6 (.ref y) H → y ≠ ye)) {ph1 : Nat} (hp : ph ≤ ph1) (hw : n = 0 → ph + 1500 ≤ ph1) : jDcc dC dI ca (va_up G r (some (3, n))) none ph1 H := by
  have hle : jLe G (va_up G r (some (3, n))) := jLe.typ hn
  obtain ⟨Yb, Ye, W, g1, g2, g3, g4, g5⟩ := h
  have key : ∀ a m, va_up G r (some (3, n)) a = some (3, m) → (a = r ∧ m = n) ∨ (a ≠ r ∧ G a = some (3, m)) := fun a m ha => by
    by_cases e : a = r
    · subst e
      have e1 : some (3, n) = some (3, m) := jUp_self.symm.trans ha
      exact Or.inl ⟨rfl, (congrArg Prod.snd (Option.some.inj e1)).symm⟩
    · rw [va_up_ne _ _ e] at ha
      exact Or.inr ⟨e, ha⟩
  refine ⟨fun b => if b = r then yb else Yb b, fun b => if b = r then ye else Ye b, fun b => if b = r then 1500 else W b, fun a m ha => ?_, fun a b m m' ha hb1 e => ?_, fun a b m m' ha hb1 e => ?_, fun a m ha _ => ?_, fun N => ?_⟩
  · rcases key a m ha with ⟨rfl, rfl⟩ | ⟨ne, ha1⟩
    · simp only [if_pos]
      exact ⟨h5, h6, hle _ _ hb, hle _ _ he⟩
    · obtain ⟨q1, q2, q3, q4⟩ := g1 a m ha1
      simp only [if_neg ne]
      exact ⟨q1, q2, hle _ _ q3, hle _ _ q4⟩
  · rcases key a m ha with ⟨rfl, rfl⟩ | ⟨ne, ha1⟩
    · rcases key b m' hb1 with ⟨rfl, -⟩ | ⟨ne', hb2⟩
      · rfl
      · simp only [if_pos, if_neg ne'] at e
        exact absurd e.symm (((hd b m' hb2 (Yb b)).1) (g1 b m' hb2).1)
    · rcases key b m' hb1 with ⟨rfl, -⟩ | ⟨ne', hb2⟩
      · simp only [if_pos, if_neg ne] at e
        exact absurd e (((hd a m ha1 (Yb a)).1) (g1 a m ha1).1)
      · simp only [if_neg ne, if_neg ne'] at e
        exact g2 a b m m' ha1 hb2 e
  · rcases key a m ha with ⟨rfl, rfl⟩ | ⟨ne, ha1⟩
    · rcases key b m' hb1 with ⟨rfl, -⟩ | ⟨ne', hb2⟩
      · rfl
      · simp only [if_pos, if_neg ne'] at e
        exact absurd e.symm (((hd b m' hb2 (Ye b)).2) (g1 b m' hb2).2.1)
    · rcases key b m' hb1 with ⟨rfl, -⟩ | ⟨ne', hb2⟩
      · simp only [if_pos, if_neg ne] at e
        exact absurd e (((hd a m ha1 (Ye a)).2) (g1 a m ha1).2.1)
      · simp only [if_neg ne, if_neg ne'] at e
        exact g3 a b m m' ha1 hb2 e
  · rcases key a m ha with ⟨rfl, rfl⟩ | ⟨ne, ha1⟩
    · simp only [if_pos]
      refine ⟨fb, fe, 0, 0, .null, ⟨fun q hq => ?_, fun q hq => ?_, jSn.zero (by decide), by decide⟩, fun _ => ⟨by decide, Or.inl ⟨rfl, by show (575 : Int) * (0 - 0) + (1500 - jEd fe 0) ≤ 1500; unfold jEd; rw [if_pos (by omega)]; omega⟩⟩⟩
      · simp only [List.mem_cons, List.not_mem_nil, or_false] at hq
        rcases hq with rfl | rfl | rfl
        · exact ⟨⟨_, ha⟩, h4⟩
        · exact ⟨⟨_, ha⟩, h10⟩
        · exact ⟨⟨_, ha⟩, h11⟩
      · obtain ⟨q1, q2⟩ := hM q hq
        exact ⟨hle _ _ q1, q2⟩
    · obtain ⟨fb1, fe1, ps1, pk1, vc1, q, qp⟩ := g4 a m ha1 (fun q => by cases q)
      simp only [if_neg ne]
      exact ⟨fb1, fe1, ps1, pk1, vc1, q.up hle, qp⟩
  · have hr0 : G r ≠ some (3, 0) := hn _
    have c1 : ∀ M, jSmm (va_up G r (some (3, n))) (some r) (fun b => if b = r then 1500 else W b) M = jSmm G (some r) W M := jSmm.cg (fun M => ⟨fun q => ⟨by rw [va_up_ne _ _ (fun z => q.2 (by rw [z]))] at q; exact q.1, q.2⟩, fun q => ⟨by rw [va_up_ne _ _ (fun z => q.2 (by rw [z]))]; exact q.1, q.2⟩⟩) (fun M hM => if_neg (fun z => hM (by rw [z])))
    have c2 := g5 N
    rw [← jSmm.ne hr0 N, ← c1 N] at c2
    by_cases e : n = 0
    · subst e
      have m := jSmm.less (W := fun b => if b = r then 1500 else W b) (a := r) (G := va_up G r (some (3, 0))) jUp_self N
      have m6 := hw rfl
      have m7 : (if r < N then (if r = r then 1500 else W r) else 0) ≤ 1500 := by
        by_cases q : r < N
        · rw [if_pos q, if_pos rfl]; exact Nat.le_refl _
        · rw [if_neg q]; omega
      omega
    · rw [← jSmm.ne (a := r) (G := va_up G r (some (3, n))) (fun q => e (congrArg Prod.snd (Option.some.inj (jUp_self.symm.trans q)))) N]
      exact Nat.le_trans c2 hp
end J41
end
section
-- p9: the texts of all documents, as a walk carries them; System.arraycopy of ints with contents
section J91
variable {dC : Nat → ClassId} {dI : Nat → Nat → Nat} {ca : Nat → ClassId} {G G1 : jT} {H H1 : Heap} {x : Option Nat} {t : jDtl}
/-- a new document -/
theorem jCD.typ {r n y z u : Nat} {v l : Int32} {f g : Nat → Int32} (h : jCD dC dI ca G none t H) (hn : ∀ t, G r ≠ some t) (p2 : jf (dC, dI) 3 r 2 (.ref y) H) (p1 : jf (dC, dI) 3 r 1 (.int v) H) (p3 : jf (dC, dI) 3 r 3 (.int l) H) (p0 : jf (dC, dI) 3 r 0 (.ref z) H) (hM : jMc (dC, dI) G H [(y, 173, 1500, ca 1, f), (z, 174, u, ca 1, g)]) (hd : ∀ a m, G a = some (3, m) → ∀ w, jf (dC, dI) 3 a 2 (.ref w) H → w ≠ y) (hu : u ≤ 3000) : jCD dC dI ca (va_up G r (some (3, n))) none (t.put r v l f u g) H := by
  have hle : jLe G (va_up G r (some (3, n))) := jLe.typ hn
  obtain ⟨Yt, Yu, g1, g2, g3⟩ := h
  have key : ∀ a m, va_up G r (some (3, n)) a = some (3, m) → (a = r ∧ m = n) ∨ (a ≠ r ∧ G a = some (3, m)) := fun a m ha => by
    by_cases e : a = r
    · subst e
      have e1 : some (3, n) = some (3, m) := jUp_self.symm.trans ha
      exact Or.inl ⟨rfl, (congrArg Prod.snd (Option.some.inj e1)).symm⟩
    · rw [va_up_ne _ _ e] at ha
      exact Or.inr ⟨e, ha⟩
  refine ⟨jUf Yt r y, jUf Yu r z, fun a m ha => ?_, fun a b m m' ha hb1 e => ?_, fun a m ha _ => ?_⟩
  · rcases key a m ha with ⟨rfl, rfl⟩ | ⟨ne, ha1⟩
    · rw [jUf_s]
      exact ⟨p2, hle _ _ (hM _ List.mem_cons_self).1⟩
    · obtain ⟨q1, q2⟩ := g1 a m ha1
      rw [jUf_n _ _ ne]
      exact ⟨q1, hle _ _ q2⟩
  · rcases key a m ha with ⟨rfl, rfl⟩ | ⟨ne, ha1⟩
    · rcases key b m' hb1 with ⟨rfl, -⟩ | ⟨ne', hb2⟩
      · rfl
      · rw [jUf_s, jUf_n _ _ ne'] at e
        exact absurd e.symm (hd b m' hb2 (Yt b) (g1 b m' hb2).1)
    · rcases key b m' hb1 with ⟨rfl, -⟩ | ⟨ne', hb2⟩
      · rw [jUf_s, jUf_n _ _ ne] at e
        exact absurd e (hd a m ha1 (Yt a) (g1 a m ha1).1)
      · rw [jUf_n _ _ ne, jUf_n _ _ ne'] at e
        exact g2 a b m m' ha1 hb2 e
  · rcases key a m ha with ⟨rfl, rfl⟩ | ⟨ne, ha1⟩
    · show jD6 dC dI ca _ a (jUf Yt a y a) (jUf Yu a z a) (jUf t.ve a v a) (jUf t.ln a l a) (jUf t.tx a f a) (jUf t.ul a u a) (jUf t.ux a g a) H
      rw [jUf_s, jUf_s, jUf_s, jUf_s, jUf_s, jUf_s, jUf_s]
      refine ⟨fun q hq => ?_, fun q hq => ⟨hle _ _ (hM q hq).1, (hM q hq).2⟩, hu⟩
      simp only [List.mem_cons, List.not_mem_nil, or_false] at hq
      rcases hq with rfl | rfl | rfl
      · exact ⟨⟨_, ha⟩, p1⟩
      · exact ⟨⟨_, ha⟩, p3⟩
      · exact ⟨⟨_, ha⟩, p0⟩
    · show jD6 dC dI ca _ a (jUf Yt r y a) (jUf Yu r z a) (jUf t.ve r v a) (jUf t.ln r l a) (jUf t.tx r f a) (jUf t.ul r u a) (jUf t.ux r g a) H
      rw [jUf_n _ _ ne, jUf_n _ _ ne, jUf_n _ _ ne, jUf_n _ _ ne, jUf_n _ _ ne, jUf_n _ _ ne, jUf_n _ _ ne]
      exact (g3 a m ha1 (fun q => by cases q)).up hle
end J91
-- the reference's
section J92
variable {dC : Nat → ClassId} {dI : Nat → Nat → Nat} {ca : Nat → ClassId} {G G1 : jT} {H H1 : Heap} {x : Option Nat} {t : jDtr}
end J92
section J93
variable {p : Program} {l : Launch} {e : Env} {R : Room} {s : State} {m : MethodId} {args : Array Value} {below : List Frame} {meth : Method} {c : Code} {H : Heap} {locs : List Loc} {cells slots : Nat} {Q : State → Prop}
variable {cc : ByteArray} {pc : Nat} {ls : Array Slot} {rest : List Value} {dC : Nat → ClassId} {dI : Nat → Nat → Nat} {ca : Nat → ClassId} {B : jF} {base : Nat} {G0 G : jT} {E : List (Nat × Nat)} {H0 : Heap} {zc zs : Nat} {L : List jPin} {M : List jCt} {I : List jIv} {a a0 k k0 n n0 index : Nat} {tys : List (ClassId × FieldType)} {own : String} {P P0 : Nat → Int32 → Prop} {cA : ClassId}
end J93
-- texts alike, a part of a text exchanged
end
section
-- p9: a new array with its contents
section JPA
variable {p : Program} {l : Launch} {e : Env} {R : Room} {s : State} {m : MethodId} {args : Array Value} {below : List Frame} {meth : Method} {c : Code} {H : Heap} {locs : List Loc} {cells slots : Nat} {Q : State → Prop}
variable {cc : ByteArray} {pc : Nat} {ls : Array Slot} {rest : List Value} {dC : Nat → ClassId} {dI : Nat → Nat → Nat} {ca : Nat → ClassId} {B : jF} {base : Nat} {G0 G : jT} {E : List (Nat × Nat)} {zc zs : Nat} {L : List jPin} {M : List jCt} {I : List jIv} {k : Nat} {tys : List (ClassId × FieldType)}
theorem j7_newiZ {P : Nat → Int32 → Prop} {cA : ClassId} (hexec : p.tables.exec = Jvm.exec) (hb : c.code = cc) (hK : va_K (dC, dI) vwCl tys s) (hh : jSt (dC, dI) B base G0 G E s.heap zc zs L M I H locs) (hB : jBok B) {atype : ArrayType} {ty : FieldType} (harr : (Cond.arrayClass ty).before args s = true) (hty : newarray.typeOf atype = ty) (hd : defaultValue ty = .int 0) (hra : ∀ cA, va_RA s cA ty → s.vm.findClass ("[" ++ ty.toString) = some cA) (hBk : ∀ n G a H, B k n G a H ↔ jAr (dC, dI) cA P n a H) (t0 : Nat) (ht : tys[t0]? = some (cA, ty)) (hcb : componentBytes ty ≤ 8) (hk : k < 1000) (hb0 : base ≤ s.heap.size) {z : Int32} {x : Int} (hi : z.toInt = x) (h0 : 0 ≤ x ∧ x ≤ 200000) (hP : ∀ j, P j 0) (hR : zc + 1 ≤ R.cells) (hR2 : zs + x.toNat ≤ R.slots) (hdg : decode cc pc = .ok (.newarray atype, 2))
    (kk : ∀ (H1 : Heap), (∀ q, q < H.size → H1[q]? = H[q]?) → va_at (dC, dI) vwCl (H.size, .inl (cA, x.toNat, .inl fun _ => 0)) H1 → jSt (dC, dI) B base G0 (va_up G H.size (some (k, x.toNat))) E s.heap (zc + 1) (zs + x.toNat) L M I H1 locs → W p l e R s m args below meth c H1 locs (zc + 1) (zs + x.toNat) Q (F0 m (pc + 2) ls (.ref H.size :: rest))) : W p l e R s m args below meth c H locs cells slots Q (F0 m pc ls (.int z :: rest)) := by
  have hn0 : ¬ z < 0 := jb_n0 hi h0.1
  have hcl : z.toNatClampNeg = x.toNat := jb_cl hi h0.1
  have hsz := hh.1.1
  have hmu : x.toNat * componentBytes ty ≤ 200000 * 8 := Nat.mul_le_mul (by omega) hcb
  refine W.tight (c2 := zc) (n2 := zs) hh.2.2.2.2.2.1 hh.2.2.2.2.2.2.1 ?_
  refine j_newi hexec hb harr hty hd hra hK t0 ht hn0 hcl (by omega) hR hR2 hdg (fun H1 hat hz1 hfr hT => ?_)
  exact kk H1 hfr hat (hh.new hB (Nat.le_trans hb0 hsz) hz1 hfr hT hk ((hBk _ _ _ _).mpr ⟨fun _ => 0, hat, fun j _ => hP j⟩))
end JPA
end
