-- arrays of references that get their kind when they are filled; arrays of arrays of ints
def jK5 (dC : Nat → ClassId) (dI : Nat → Nat → Nat) (ca : Nat → ClassId) (U : State) : Prop := va_K (dC, dI) vwCl [(ca 8, .array .int)] U ∧ (∃ kA : Class, U.vm.classes[ca 8]? = some kA ∧ kA.kind = .array (ca 1) (.array .int)) ∧ (∃ k1 : Class, U.vm.classes[ca 1]? = some k1) ∧ (Cond.arrayOver (.array .int)).before #[] U = true
def jQk (k most : Nat) (G : jT) : Option Nat → Prop := fun o => ∃ x j, o = some x ∧ G x = some (k, j) ∧ j ≤ most
section J22
variable {p : Program} {l : Launch} {e : Env} {R : Room} {s : State} {m : MethodId} {args : Array Value} {below : List Frame} {meth : Method} {c : Code} {H : Heap} {locs : List Loc} {cells slots : Nat} {Q : State → Prop}
variable {cc : ByteArray} {pc : Nat} {ls : Array Slot} {rest : List Value} {dC : Nat → ClassId} {dI : Nat → Nat → Nat} {ca : Nat → ClassId} {B : jF} {base : Nat} {G0 G : jT} {E : List (Nat × Nat)} {H0 : Heap} {zc zs : Nat} {L : List jPin} {M : List jCt} {I : List jIv} {a k n index : Nat} {tys : List (ClassId × FieldType)} {own C : String} {cA : ClassId} {f : Nat → Option Nat}
theorem j7_newqR (hexec : p.tables.exec = Jvm.exec) (hb : c.code = cc) (hown : s.vm.findClass own = some m.cls) (hclink : (Cond.classLink own index C).before args s = true) (hover : va_AO C s) (hK : va_K (dC, dI) vwCl tys s) (hh : jSt (dC, dI) B base G0 G E s.heap zc zs L M I H locs) (hB : jBok B) (t0 : Nat) (ht : tys[t0]? = some (cA, .object C)) {z : Int32} {x : Int} (hi : z.toInt = x) (h0 : 0 ≤ x ∧ x ≤ 200000) (hR : zc + 1 ≤ R.cells) (hR2 : zs + x.toNat ≤ R.slots) (hdg : decode cc pc = .ok (.anewarray index, 3))
    (kk : ∀ (H1 : Heap), (∀ q, q < H.size → H1[q]? = H[q]?) → (∀ t, G H.size ≠ some t) → va_at (dC, dI) vwCl (H.size, .inl (cA, x.toNat, .inr (.inr (.inr (.inr (fun _ => none)))))) H1 → jSt (dC, dI) B base G0 G E s.heap (zc + 1) (zs + x.toNat) L M I H1 locs → W p l e R s m args below meth c H1 locs (zc + 1) (zs + x.toNat) Q (F0 m (pc + 3) ls (.ref H.size :: rest))) : W p l e R s m args below meth c H locs cells slots Q (F0 m pc ls (.int z :: rest)) := by
  have hn0 : ¬ z < 0 := jb_n0 hi h0.1
  have hcl : z.toNatClampNeg = x.toNat := jb_cl hi h0.1
  refine W.tight (c2 := zc) (n2 := zs) hh.2.2.2.2.2.1 hh.2.2.2.2.2.2.1 ?_
  refine W.anew hexec hb hown hclink (va_AO.use hover) rfl hdg rfl hn0 (by rw [hcl]; omega) hR (by rw [hcl]; exact hR2) fun cB kA comp f1 f2 f3 f4 => ?_
  obtain ⟨kA', comp', k1, k2, k3, k4⟩ := (hK.2 t0 _ ht).2
  have hc : cB = cA := Option.some.inj (f1.symm.trans k4)
  subst hc
  generalize hH1 : H.push ({ cls := cB, slots := Array.replicate z.toNatClampNeg .null, vm := .none } : Cell) = H1
  have z1 : H1.size = H.size + 1 := by rw [← hH1, Array.size_push]
  have e1 : H1[H.size]? = some (arrV cB z.toNatClampNeg (fun _ => .null)) := by rw [← hH1, Array.getElem?_push_size, ← arrV_new]
  have o1 : ∀ q : Nat, q < H.size → H1[q]? = H[q]? := fun q hq => by rw [← hH1, Array.getElem?_push, if_neg (Nat.ne_of_lt hq)]
  rw [hcl] at e1 ⊢
  exact kk H1 o1 (fun t => by rw [hh.2.1.fresh]; exact fun h => by cases h) (by show H1[H.size]? = some (vp_cell _ _); rw [e1]; rfl) (hh.newR hB z1 o1 (by rw [jTot_push z1 e1 o1, arrV_size]))
theorem j7_newaR (hexec : p.tables.exec = Jvm.exec) (hb : c.code = cc) (hown : s.vm.findClass own = some m.cls) (hclink : (Cond.classLink own index (FieldType.array .int).toString).before args s = true) (hK5 : jK5 dC dI ca s) (hh : jSt (dC, dI) B base G0 G E s.heap zc zs L M I H locs) (hB : jBok B) {z : Int32} {x : Int} (hi : z.toInt = x) (h0 : 0 ≤ x ∧ x ≤ 200000) (hR : zc + 1 ≤ R.cells) (hR2 : zs + x.toNat ≤ R.slots) (hdg : decode cc pc = .ok (.anewarray index, 3))
    (kk : ∀ (H1 : Heap), (∀ q, q < H.size → H1[q]? = H[q]?) → (∀ t, G H.size ≠ some t) → va_at (dC, dI) vwCl (H.size, .inl (ca 8, x.toNat, .inr (.inr (.inr (.inr (fun _ => none)))))) H1 → jSt (dC, dI) B base G0 G E s.heap (zc + 1) (zs + x.toNat) L M I H1 locs → W p l e R s m args below meth c H1 locs (zc + 1) (zs + x.toNat) Q (F0 m (pc + 3) ls (.ref H.size :: rest))) : W p l e R s m args below meth c H locs cells slots Q (F0 m pc ls (.int z :: rest)) := by
  have hn0 : ¬ z < 0 := jb_n0 hi h0.1
  have hcl : z.toNatClampNeg = x.toNat := jb_cl hi h0.1
  refine W.tight (c2 := zc) (n2 := zs) hh.2.2.2.2.2.1 hh.2.2.2.2.2.2.1 ?_
  refine W.anewA (t := .int) hexec hb hown hclink hK5.2.2.2 rfl hdg rfl hn0 (by rw [hcl]; omega) hR (by rw [hcl]; exact hR2) fun cB kA comp f1 f2 f3 f4 => ?_
  have hc : cB = ca 8 := Option.some.inj (f1.symm.trans (hK5.1.2 0 _ rfl).2)
  subst hc
  generalize hH1 : H.push ({ cls := ca 8, slots := Array.replicate z.toNatClampNeg .null, vm := .none } : Cell) = H1
  have z1 : H1.size = H.size + 1 := by rw [← hH1, Array.size_push]
  have e1 : H1[H.size]? = some (arrV (ca 8) z.toNatClampNeg (fun _ => .null)) := by rw [← hH1, Array.getElem?_push_size, ← arrV_new]
  have o1 : ∀ q : Nat, q < H.size → H1[q]? = H[q]? := fun q hq => by rw [← hH1, Array.getElem?_push, if_neg (Nat.ne_of_lt hq)]
  rw [hcl] at e1 ⊢
  exact kk H1 o1 (fun t => by rw [hh.2.1.fresh]; exact fun h => by cases h) (by show H1[H.size]? = some (vp_cell _ _); rw [e1]; rfl) (hh.newR hB z1 o1 (by rw [jTot_push z1 e1 o1, arrV_size]))
/-- an object into an array that has no kind yet -/
theorem j7_qastR (hexec : p.tables.exec = Jvm.exec) (hb : c.code = cc) (hK : va_K (dC, dI) vwCl tys s) (hh : jSt (dC, dI) B base G0 G E H0 zc zs L M I H locs) (hB : jBok B) (hraw : va_at (dC, dI) vwCl (a, .inl (cA, n, .inr (.inr (.inr (.inr f))))) H) (hnr : ∀ t, G a ≠ some t) (hba : base ≤ a) (t0 : Nat) (ht : tys[t0]? = some (cA, .object C)) {i : Int32} {x : Int} (hi : i.toInt = x) (h12 : 0 ≤ x ∧ x < n)
    {v kv nv N : Nat} {T : u_T} {F : Nat → jT → List (Value → Prop)} (hBv : ∀ n G a H, B kv n G a H ↔ jOb (dC, dI) kv N (F n G) a H) (hc : vwCl[kv]? = some (C, T, N)) (hkv : kv < 1000) (hv : G v = some (kv, nv)) (hdg : decode cc pc = .ok (.aastore, 1))
    (kk : ∀ (H1 : Heap) (locs1 : List Loc), va_at (dC, dI) vwCl (a, .inl (cA, n, .inr (.inr (.inr (.inr (va_up f x.toNat (some v))))))) H1 → (∀ q, q ≠ a → H1[q]? = H[q]?) → jSt (dC, dI) B base G0 G E H0 zc zs L M I H1 locs1 → W p l e R s m args below meth c H1 locs1 cells slots Q (F0 m (pc + 1) ls rest)) : W p l e R s m args below meth c H locs cells slots Q (F0 m pc ls (.ref v :: .int i :: .ref a :: rest)) := by
  obtain ⟨h1, h2⟩ := h12
  have g1 : H[a]? = some (vp_cell cA (n, .inr (.inr (.inr (.inr f))))) := hraw
  obtain ⟨V, ⟨cellV, q1, q2, q3, q4⟩, hV⟩ := (hBv _ _ _ _).mp (hh.2.1.1 v kv nv hv hkv (fun h => by cases h))
  have hlt := jb_cl_lt hi h1 h2
  have hcl := jb_cl hi h1
  have hcls := (hK.1 kv _ hc).2
  obtain ⟨kA, comp, k1, k2, k3, -⟩ := (hK.2 t0 _ ht).2
  have hcomp : comp = dC kv := Option.some.inj (k3.symm.trans hcls.1)
  subst hcomp
  obtain ⟨kC, hkC, -⟩ := hcls.2
  refine W.aast hexec hb g1 (fun q h => by cases h) (fun h => by cases h) k1 k2 rfl hkC ⟨jb_n0 hi h1, by show _ < (arrV _ _ _).slots.size; rw [arrV_size]; exact hlt⟩ q1 (fun q h => by rw [q3] at h; cases h) (by rw [q2]; exact hkC) (by rw [q2]; exact va_assign hcls) rfl rfl hdg fun H1 e1 z oq => ?_
  refine kk H1 _ ?_ oq (hh.rawput hB hnr hba z oq (jTot_set z g1 e1 (jSet_sz _ _ _) oq) (fun q hq => ?_))
  · show H1[a]? = some (vp_cell _ _)
    rw [e1, vp_cell_q, vp_cell_q, arrV_store, hcl]
    congr 2
    funext q
    by_cases hq : q = x.toNat
    · subst hq
      simp [updV, va_up, va_rf]
    · simp [updV, va_up, hq]
  · rcases List.mem_append.mp hq with h | h
    · exact hh.1.2.2 q h
    · cases List.mem_singleton.mp h; exact hba
/-- an array of ints into an array of arrays that has no kind yet -/
theorem j7_qastA {Pv : Nat → Int32 → Prop} (hexec : p.tables.exec = Jvm.exec) (hb : c.code = cc) (hK5 : jK5 dC dI ca s) (hh : jSt (dC, dI) B base G0 G E H0 zc zs L M I H locs) (hB : jBok B) (hraw : va_at (dC, dI) vwCl (a, .inl (ca 8, n, .inr (.inr (.inr (.inr f))))) H) (hnr : ∀ t, G a ≠ some t) (hba : base ≤ a) {i : Int32} {x : Int} (hi : i.toInt = x) (h12 : 0 ≤ x ∧ x < n)
    {v kv nv : Nat} (hBv : ∀ n G a H, B kv n G a H ↔ jAr (dC, dI) (ca 1) Pv n a H) (hkv : kv < 1000) (hv : G v = some (kv, nv)) (hdg : decode cc pc = .ok (.aastore, 1))
    (kk : ∀ (H1 : Heap) (locs1 : List Loc), va_at (dC, dI) vwCl (a, .inl (ca 8, n, .inr (.inr (.inr (.inr (va_up f x.toNat (some v))))))) H1 → (∀ q, q ≠ a → H1[q]? = H[q]?) → jSt (dC, dI) B base G0 G E H0 zc zs L M I H1 locs1 → W p l e R s m args below meth c H1 locs1 cells slots Q (F0 m (pc + 1) ls rest)) : W p l e R s m args below meth c H locs cells slots Q (F0 m pc ls (.ref v :: .int i :: .ref a :: rest)) := by
  obtain ⟨h1, h2⟩ := h12
  have g1 : H[a]? = some (vp_cell (ca 8) (n, .inr (.inr (.inr (.inr f))))) := hraw
  obtain ⟨gv, gv1, -⟩ := hh.ar hBv hkv hv
  have q1 : H[v]? = some (vp_cell (ca 1) (nv, .inl gv)) := gv1
  have hlt := jb_cl_lt hi h1 h2
  have hcl := jb_cl hi h1
  obtain ⟨-, ⟨kA, k1, k2⟩, ⟨kI, hkI⟩, -⟩ := hK5
  refine W.aast hexec hb g1 (fun q h => by cases h) (fun h => by cases h) k1 k2 rfl hkI ⟨jb_n0 hi h1, by show _ < (arrV _ _ _).slots.size; rw [arrV_size]; exact hlt⟩ q1 (fun q h => by cases h) hkI (va_asg _ _) rfl rfl hdg fun H1 e1 z oq => ?_
  refine kk H1 _ ?_ oq (hh.rawput hB hnr hba z oq (jTot_set z g1 e1 (jSet_sz _ _ _) oq) (fun q hq => ?_))
  · show H1[a]? = some (vp_cell _ _)
    rw [e1, vp_cell_q, vp_cell_q, arrV_store, hcl]
    congr 2
    funext q
    by_cases hq : q = x.toNat
    · subst hq
      simp [updV, va_up, va_rf]
    · simp [updV, va_up, hq]
  · rcases List.mem_append.mp hq with h | h
    · exact hh.1.2.2 q h
    · cases List.mem_singleton.mp h; exact hba
/-- an element of a typed array of arrays -/
theorem j7_qaldA {P : jT → Option Nat → Prop} (hexec : p.tables.exec = Jvm.exec) (hb : c.code = cc) (hK5 : jK5 dC dI ca s) (hh : jSt (dC, dI) B base G0 G E H0 zc zs L M I H locs) (hBk : ∀ n G a H, B k n G a H ↔ jAq (dC, dI) (ca 8) P n G a H) (hk : k < 1000) (ha : G a = some (k, n)) {i : Int32} {x : Int} (hi : i.toInt = x) (h12 : 0 ≤ x ∧ x < n) (hdg : decode cc pc = .ok (.aaload, 1))
    (kk : ∀ o : Option Nat, P G o → W p l e R s m args below meth c H locs cells slots Q (F0 m (pc + 1) ls (va_rf o :: rest))) : W p l e R s m args below meth c H locs cells slots Q (F0 m pc ls (.int i :: .ref a :: rest)) := by
  obtain ⟨h1, h2⟩ := h12
  obtain ⟨f, g1, g2⟩ := hh.aq hBk hk ha
  have hlt := jb_cl_lt hi h1 h2
  have c1 : H[a]? = some (vp_cell (ca 8) (n, .inr (.inr (.inr (.inr f))))) := g1
  exact W.aald (v := va_rf (f i.toNatClampNeg)) (ty := .array .int) hexec hb c1 ((hK5.1.2 0 _ rfl).1 n (fun j => va_rf (f j))) rfl (fun q => by cases q) (by show ¬ (i < 0 ∨ (arrV _ _ _).slots.size ≤ _); rw [arrV_size]; exact jb_in hi h1 h2) (by show (arrV _ _ _).slots[_]? = _; rw [arrV_read _ _ hlt]) rfl rfl hdg (kk _ (g2 _ hlt))
end J22
