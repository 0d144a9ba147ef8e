-- contents of arrays that are known for a while
theorem jCt_eq {D : va_G} {a n j : Nat} {cA cB : ClassId} {f g : Nat → Int32} {H : Heap} (h1 : va_at D vwCl (a, .inl (cA, n, .inl f)) H) (h2 : va_at D vwCl (a, .inl (cB, n, .inl g)) H) (hj : j < n) : f j = g j := by
  have e1 : H[a]? = some (vp_cell cA (n, .inl f)) := h1
  have e2 : H[a]? = some (vp_cell cB (n, .inl g)) := h2
  have e := Option.some.inj (e1.symm.trans e2)
  have r1 : (vp_cell cA (n, .inl f)).slots[j]? = some (.int (f j)) := by rw [vp_cell_i, arrV_read _ _ hj]
  have r2 : (vp_cell cB (n, .inl g)).slots[j]? = some (.int (g j)) := by rw [vp_cell_i, arrV_read _ _ hj]
  rw [e, r2] at r1
  exact (Value.int.inj (Option.some.inj r1)).symm
section J9
variable {p : Program} {l : Launch} {e : Env} {R : Room} {s : State} {m : MethodId} {args : Array Value} {below : List Frame} {meth : Method} {c : Code} {H : Heap} {locs : List Loc} {cells slots : Nat} {Q : State → Prop}
variable {cc : ByteArray} {pc : Nat} {ls : Array Slot} {rest : List Value} {dC : Nat → ClassId} {dI : Nat → Nat → Nat} {ca : Nat → ClassId} {B : jF} {base : Nat} {G0 G : jT} {E : List (Nat × Nat)} {H0 : Heap} {zc zs : Nat} {L : List jPin} {M : List jCt} {I : List jIv} {a k n : Nat} {P : Nat → Int32 → Prop} {cA : ClassId} {tys : List (ClassId × FieldType)}
theorem jSt.cpin (hh : jSt (dC, dI) B base G0 G E H0 zc zs L M I H locs) (hBk : ∀ n G a H, B k n G a H ↔ jAr (dC, dI) cA P n a H) (hk : k < 1000) (hk2 : 17 ≤ k) (ha : G a = some (k, n)) : ∃ f : Nat → Int32, jSt (dC, dI) B base G0 G E H0 zc zs L ((a, k, n, cA, f) :: M) I H locs := by
  obtain ⟨f, g1, g2⟩ := hh.ar hBk hk ha
  obtain ⟨h1, h2, h3, h4, h5, h6, h7, h8, h9⟩ := hh
  refine ⟨f, h1, h2, h3, h4, h5, h6, h7, fun q hq => ?_, h9⟩
  rcases List.mem_cons.mp hq with e | e
  · subst e; exact ⟨ha, hk2, hk, g1⟩
  · exact h8 q e
theorem j7_ialdM (hexec : p.tables.exec = Jvm.exec) (hb : c.code = cc) (hK : va_K (dC, dI) vwCl tys s) (hh : jSt (dC, dI) B base G0 G E H0 zc zs L M I H locs) (hBk : ∀ n G a H, B k n G a H ↔ jAr (dC, dI) cA P n a H) (t0 : Nat) (ht : tys[t0]? = some (cA, .int)) (hk : k < 1000) (ha : G a = some (k, n)) {i : Int32} {x : Int} (hi : i.toInt = x) (h12 : 0 ≤ x ∧ x < n) {j : Nat} {kk1 : Nat} {cB : ClassId} {f : Nat → Int32} (hj : M[j]? = some (a, kk1, n, cB, f)) (hdg : decode cc pc = .ok (.iaload, 1))
    (kk : ∀ z : Int32, z = f x.toNat → P x.toNat z → W p l e R s m args below meth c H locs cells slots Q (F0 m (pc + 1) ls (.int z :: rest))) : W p l e R s m args below meth c H locs cells slots Q (F0 m pc ls (.int i :: .ref a :: rest)) := by
  obtain ⟨h1, h2⟩ := h12
  obtain ⟨f', g1, g2⟩ := hh.ar hBk hk ha
  obtain ⟨-, -, -, q4⟩ := hh.2.2.2.2.2.2.2.1 _ (List.mem_of_getElem? hj)
  have hlt := jb_cl_lt hi h1 h2
  have hP := g2 _ hlt
  have e1 := jCt_eq q4 g1 hlt
  rw [jb_cl hi h1] at e1 hP
  exact va_iald hexec hb hK (jp_one g1) 0 t0 rfl ht (jb_in hi h1 h2) hdg (by rw [jb_cl hi h1]; exact kk _ e1.symm hP)
theorem j7_zaldM (hexec : p.tables.exec = Jvm.exec) (hb : c.code = cc) (hK : va_K (dC, dI) vwCl tys s) (hh : jSt (dC, dI) B base G0 G E H0 zc zs L M I H locs) (hBk : ∀ n G a H, B k n G a H ↔ jAr (dC, dI) cA P n a H) (t0 : Nat) (ht : tys[t0]? = some (cA, .boolean)) (hk : k < 1000) (ha : G a = some (k, n)) {i : Int32} {x : Int} (hi : i.toInt = x) (h12 : 0 ≤ x ∧ x < n) {j : Nat} {kk1 : Nat} {cB : ClassId} {f : Nat → Int32} (hj : M[j]? = some (a, kk1, n, cB, f)) (hdg : decode cc pc = .ok (.baload, 1))
    (kk : ∀ z : Int32, z = f x.toNat → P x.toNat z → W p l e R s m args below meth c H locs cells slots Q (F0 m (pc + 1) ls (.int z :: rest))) : W p l e R s m args below meth c H locs cells slots Q (F0 m pc ls (.int i :: .ref a :: rest)) := by
  obtain ⟨h1, h2⟩ := h12
  obtain ⟨f', g1, g2⟩ := hh.ar hBk hk ha
  obtain ⟨-, -, -, q4⟩ := hh.2.2.2.2.2.2.2.1 _ (List.mem_of_getElem? hj)
  have hlt := jb_cl_lt hi h1 h2
  have hP := g2 _ hlt
  have e1 := jCt_eq q4 g1 hlt
  rw [jb_cl hi h1] at e1 hP
  exact va_zald hexec hb hK (jp_one g1) 0 t0 rfl ht (jb_in hi h1 h2) hdg (by rw [jb_cl hi h1]; exact kk _ e1.symm hP)
theorem j7_iastE (hexec : p.tables.exec = Jvm.exec) (hb : c.code = cc) (hK : va_K (dC, dI) vwCl tys s) (hh : jSt (dC, dI) B base G0 G E H0 zc zs L M I H locs) (hB : jBok B) (hBk : ∀ n G a H, B k n G a H ↔ jAr (dC, dI) cA P n a H) (t0 : Nat) (ht : tys[t0]? = some (cA, .int)) (hk : k < 1000) (hk2 : 17 ≤ k) (hE : E.contains (k, 0) = true) (hM : M.all (fun q => !(q.2.1 == k)) = true) (hI : I.all (fun q => !(q.1.contains (k, 0))) = true) (ha : G a = some (k, n)) {i v : Int32} {x : Int} (hi : i.toInt = x) (h12 : 0 ≤ x ∧ x < n) (hv : P x.toNat v) (hdg : decode cc pc = .ok (.iastore, 1))
    (kk : ∀ (H1 : Heap) (locs1 : List Loc) (f : Nat → Int32), f x.toNat = v → jSt (dC, dI) B base G0 G E H0 zc zs L ((a, k, n, cA, f) :: M) I H1 locs1 → W p l e R s m args below meth c H1 locs1 cells slots Q (F0 m (pc + 1) ls rest)) : W p l e R s m args below meth c H locs cells slots Q (F0 m pc ls (.int v :: .int i :: .ref a :: rest)) := by
  obtain ⟨h1, h2⟩ := h12
  obtain ⟨f, g1, g2⟩ := hh.ar hBk hk ha
  refine j_iast (A := jA base) hexec hb hK t0 g1 (hh.ab ha).1 hh.1.2.2 ht (jb_in hi h1 h2) hdg (fun H1 locs1 hat hsz hfr hT hL => ?_)
  have h9 := hh.arr hB ha hk hk2 hE hM hI hsz hfr hT hL ((hBk _ _ _ _).mpr ⟨_, hat, jAr_upd g2 hi h1 hv⟩)
  refine kk H1 locs1 (upd f i.toNatClampNeg v) (by rw [← jb_cl hi h1]; simp [upd]) ?_
  obtain ⟨e1, e2, e3, e4, e5, e6, e7, e8, e9⟩ := h9
  refine ⟨e1, e2, e3, e4, e5, e6, e7, fun q hq => ?_, e9⟩
  rcases List.mem_cons.mp hq with e | e
  · subst e; exact ⟨ha, hk2, hk, hat⟩
  · exact e8 q e
end J9
