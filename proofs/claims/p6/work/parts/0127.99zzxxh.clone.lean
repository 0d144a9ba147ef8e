section
-- p8: a row that is cloned stays raw; copies
section JcK3
variable {p : Program} {l : Launch} {e : Env} {R : Room} {s : State} {m : MethodId} {args : Array Value} {below : List Frame} {meth : Method} {c : Code} {H : Heap} {locs : List Loc} {cells slots : Nat} {Q : State → Prop}
variable {cc : ByteArray} {pc : Nat} {ls : Array Slot} {rest : List Value} {dC : Nat → ClassId} {dI : Nat → Nat → Nat} {B : jF} {base : Nat} {G0 G : jT} {E : List (Nat × Nat)} {H0 : Heap} {zc zs : Nat} {L : List jPin} {M : List jCt} {I : List jIv} {a k n index : Nat} {tys : List (ClassId × FieldType)} {own : String}
theorem j7_cloneR {f : Nat → Int32} {cA : ClassId} (hexec : p.tables.exec = Jvm.exec) (hb : c.code = cc) (hml : c.maxLocals = ls.size) (hown : s.vm.findClass own = some m.cls)
    (hlink : (Cond.methodLink own index ⟨"[I", "clone", "()Ljava/lang/Object;"⟩).before args s = true) (hsame : (Cond.sameMethod "[I" "java/lang/Object" "clone" "()Ljava/lang/Object;").before args s = true)
    (hnat : (Cond.native ⟨"java/lang/Object", "clone", "()Ljava/lang/Object;"⟩).before args s = true) (hinst : (Cond.instanceMethod ⟨"java/lang/Object", "clone", "()Ljava/lang/Object;"⟩).before args s = true)
    (hsel : (Cond.selects "[I" ⟨"[I", "clone", "()Ljava/lang/Object;"⟩ ⟨"java/lang/Object", "clone", "()Ljava/lang/Object;"⟩).before args s = true) (hK8 : jK8 s)
    (hK : va_K (dC, dI) vwCl tys s) (hh : jSt (dC, dI) B base G0 G E s.heap zc zs L M I H locs) (hB : jBok B) (g1 : va_at (dC, dI) vwCl (a, .inl (cA, n, .inl f)) H) (t0 : Nat) (ht : tys[t0]? = some (cA, .int))
    (hframes : 1 ≤ R.frames) (hlocals : (rest.map fun v => v.category).sum + 14 ≤ R.locals) (hR : zc + 1 ≤ R.cells) (hR2 : zs + n ≤ R.slots) (hdg : decode cc pc = .ok (.invokevirtual index, 3))
    (kk : ∀ (H1 : Heap), (∀ q, q < H.size → H1[q]? = H[q]?) → (∀ t, G H.size ≠ some t) → va_at (dC, dI) vwCl (H.size, .inl (cA, n, .inl f)) H1 → jSt (dC, dI) B base G0 G E s.heap (zc + 1) (zs + n) L M I H1 locs → W p l e R s m args below meth c H1 locs (zc + 1) (zs + n) Q (F0 m (pc + 3) ls (.ref H.size :: rest))) : W p l e R s m args below meth c H locs cells slots Q (F0 m pc ls (.ref a :: rest)) := by
  refine W.tight (c2 := zc) (n2 := zs) hh.2.2.2.2.2.1 hh.2.2.2.2.2.2.1 ?_
  refine W.cloneI hexec hb hml hown hlink hsame hnat hinst hsel hK8 hK t0 ht g1 hframes hlocals hR hR2 hdg (fun H1 e1 z1 o1 => ?_)
  exact kk H1 o1 (fun t => by rw [hh.2.1.fresh]; exact fun h => by cases h) e1 (hh.newR hB z1 o1 (by rw [jTot_push z1 e1 o1, show (vp_cell cA (n, .inl f)).slots.size = n from arrV_size _ _ _]))
theorem j7_castR {f : Nat → Int32} {cA : ClassId} (hexec : p.tables.exec = Jvm.exec) (hb : c.code = cc) (hown : s.vm.findClass own = some m.cls) (hlink : (Cond.classLink own index "[I").before args s = true) (hK : va_K (dC, dI) vwCl tys s) (g1 : va_at (dC, dI) vwCl (a, .inl (cA, n, .inl f)) H) (t0 : Nat) (ht : tys[t0]? = some (cA, .int)) (hdg : decode cc pc = .ok (.checkcast index, 3))
    (kk : W p l e R s m args below meth c H locs cells slots Q (F0 m (pc + 3) ls (.ref a :: rest))) : W p l e R s m args below meth c H locs cells slots Q (F0 m pc ls (.ref a :: rest)) :=
  va_castA hexec hb hown hlink (jp_one g1) 0 rfl (va_nm_int (hK.2 t0 _ ht).2) hdg kk
end JcK3
section JcK4
variable {p : Program} {l : Launch} {e : Env} {R : Room} {s : State} {m : MethodId} {args : Array Value} {below : List Frame} {meth : Method} {c : Code} {H : Heap} {locs : List Loc} {cells slots : Nat} {Q : State → Prop}
variable {cc : ByteArray} {pc : Nat} {ls : Array Slot} {rest : List Value} {dC : Nat → ClassId} {dI : Nat → Nat → Nat} {ca : Nat → ClassId} {B : jF} {base : Nat} {G0 G : jT} {E : List (Nat × Nat)} {H0 : Heap} {zc zs : Nat} {L : List jPin} {M : List jCt} {I : List jIv} {a a0 k k0 n n0 index : Nat} {tys : List (ClassId × FieldType)} {own C : String} {cA : ClassId}
theorem j7_acopyRX {f g : Nat → Int32} (hexec : p.tables.exec = Jvm.exec) (hb : c.code = cc) (hml : c.maxLocals = ls.size) (hown : s.vm.findClass own = some m.cls) (hlink : (Cond.methodLink own index arraycopyName).before args s = true) (hnat : (Cond.native arraycopyName).before args s = true) (hstat : (Cond.static arraycopyName).before args s = true) (hini : (Cond.initialized "java/lang/System").before args s = true)
    (hK : va_K (dC, dI) vwCl tys s) (hh : jSt (dC, dI) B base G0 G E H0 zc zs L M I H locs) (hB : jBok B) (f1 : va_at (dC, dI) vwCl (a0, .inl (cA, n0, .inl f)) H) (t0 : Nat) (ht : tys[t0]? = some (cA, .int)) (hraw : va_at (dC, dI) vwCl (a, .inl (cA, n, .inl g)) H) (hnr : ∀ t, G a ≠ some t) (hba : base ≤ a)
    {sp dp w : Int32} {x y z : Int} (hx : sp.toInt = x) (hy : dp.toInt = y) (hz : w.toInt = z) (h1 : 0 ≤ x ∧ 0 ≤ y ∧ 0 ≤ z ∧ x + z ≤ n0 ∧ y + z ≤ n)
    (hframes : 1 ≤ R.frames) (hlocals : (rest.map fun v => v.category).sum + (nativeFrameWords "java/lang/System" "arraycopy" 5 + 11) ≤ R.locals) (hdg : decode cc pc = .ok (.invokestatic index, 3))
    (kk : ∀ (H1 : Heap) (locs1 : List Loc) (g1 : Nat → Int32), va_at (dC, dI) vwCl (a, .inl (cA, n, .inl g1)) H1 → (∀ j : Nat, g1 j = if y.toNat ≤ j ∧ j < y.toNat + z.toNat then f (x.toNat + (j - y.toNat)) else g j) → (∀ q, q ≠ a → H1[q]? = H[q]?) → jSt (dC, dI) B base G0 G E H0 zc zs L M I H1 locs1 → W p l e R s m args below meth c H1 locs1 cells slots Q (F0 m (pc + 3) ls rest)) : W p l e R s m args below meth c H locs cells slots Q (F0 m pc ls (.int w :: .int dp :: .ref a :: .int sp :: .ref a0 :: rest)) := by
  obtain ⟨q1, q2, q3, q4, q5⟩ := h1
  have g1 := hraw
  have s0 : ¬ sp < 0 := jb_n0 hx q1
  have d0 : ¬ dp < 0 := jb_n0 hy q2
  have w0 : ¬ w < 0 := jb_n0 hz q3
  have es : sp.toNatClampNeg = x.toNat := jb_cl hx q1
  have ed : dp.toNatClampNeg = y.toNat := jb_cl hy q2
  have ew : w.toNatClampNeg = z.toNat := jb_cl hz q3
  have h4 : sp.toNatClampNeg + w.toNatClampNeg ≤ n0 := by rw [es, ew]; omega
  have c0 : H[a0]? = some (vp_cell cA (n0, .inl f)) := f1
  have c1 : H[a]? = some (vp_cell cA (n, .inl g)) := g1
  intro T hT X
  obtain ⟨-, k9, hk9, cm9, hkk9⟩ := (hK.2 t0 _ ht).1 n0 (fun j => .int (f j))
  obtain ⟨-, k8, hk8, cm8, hkk8⟩ := (hK.2 t0 _ ht).1 n (fun j => .int (g j))
  obtain ⟨vm', X', step⟩ := X.arraycopy hexec hown hlink hnat hstat hini (src := a0) (dst := a) (cs := vp_cell cA (n0, .inl f)) (cd := vp_cell cA (n, .inl g)) (srcPos := sp) (destPos := dp) (n := w) (by rw [hT]; exact c0) (by rw [hT]; exact c1)
    (fun _ h => by cases h) (fun _ h => by cases h) (fun h => by cases h) (fun h => by cases h) hk9 hk8 hkk9 hkk8 (by simp [refKind]) s0 d0 w0
    (by rw [hx, hz]; show ¬ _ > ((arrV cA n0 (fun j => .int (f j))).slots.size : Int); rw [arrV_size]; omega)
    (by rw [hy, hz]; show ¬ _ > ((arrV cA n (fun j => .int (g j))).slots.size : Int); rw [arrV_size]; omega)
    (fun vm₁ _ i hi => by
      have e9 : (vp_cell cA (n0, .inl f)).slots.getD (sp.toNatClampNeg + i) .null = .int (f (sp.toNatClampNeg + i)) := by
        show (arrV cA n0 (fun j => .int (f j))).slots.getD _ _ = _
        rw [Array.getD_eq_getD_getElem?, arrV_read _ _ (by omega)]
        rfl
      rw [e9]
      exact ⟨rfl, trivial⟩)
    (g := F0 m pc ls (.int w :: .int dp :: .ref a :: .int sp :: .ref a0 :: rest)) rfl (by rw [hml]) (rest := rest) rfl (by rw [hb]; exact hdg) hframes (by show 2 * 0 + _ + _ ≤ _; omega)
  have e1 : copied (vp_cell cA (n0, .inl f)) (vp_cell cA (n, .inl g)) sp dp w = vp_cell cA (n, .inl (va_cpy f g sp.toNatClampNeg dp.toNatClampNeg w.toNatClampNeg)) := va_copied (fun z => .int z) cA cA f g h4
  rw [e1] at X' step
  have hl : a < H.size := (Array.getElem?_eq_some_iff.mp c1).1
  have hheap : ((T.setVm vm').setCell a (vp_cell cA (n, .inl (va_cpy f g sp.toNatClampNeg dp.toNatClampNeg w.toNatClampNeg)))).heap = H.setIfInBounds a (vp_cell cA (n, .inl (va_cpy f g sp.toNatClampNeg dp.toNatClampNeg w.toNatClampNeg))) := by rw [← hT]; rfl
  have oq : ∀ q : Nat, q ≠ a → (H.setIfInBounds a (vp_cell cA (n, .inl (va_cpy f g sp.toNatClampNeg dp.toNatClampNeg w.toNatClampNeg))))[q]? = H[q]? := fun q hq => by simp [Array.getElem?_setIfInBounds, Ne.symm hq]
  have ha1 : (H.setIfInBounds a (vp_cell cA (n, .inl (va_cpy f g sp.toNatClampNeg dp.toNatClampNeg w.toNatClampNeg))))[a]? = some (vp_cell cA (n, .inl (va_cpy f g sp.toNatClampNeg dp.toNatClampNeg w.toNatClampNeg))) := by simp [Array.getElem?_setIfInBounds, hl]
  have hsz : (H.setIfInBounds a (vp_cell cA (n, .inl (va_cpy f g sp.toNatClampNeg dp.toNatClampNeg w.toNatClampNeg)))).size = H.size := by simp
  obtain ⟨t, a1, b1⟩ := kk _ _ (va_cpy f g sp.toNatClampNeg dp.toNatClampNeg w.toNatClampNeg) ha1 (fun j => by rw [← es, ← ed, ← ew]; rfl) oq (hh.rawput hB hnr hba hsz oq (jTot_set hsz c1 ha1 (by rw [vp_cell_i, vp_cell_i, arrV_size, arrV_size]) oq) (fun q hq => by
      rcases List.mem_append.mp hq with h | h
      · exact hh.1.2.2 q h
      · obtain ⟨z9, -, hz9⟩ := List.mem_map.mp h
        rw [← hz9]
        exact hba)) _ hheap X'
  exact ⟨t, step t a1, b1⟩
end JcK4
theorem jnC.nw {G : jT} {rw us : Nat → List Int} {b y : Nat} {l : List Int} (g : G b = some (11, 0)) (h : (∀ c ∈ us y, c ≠ (-1 : Int)) ∧ us y ≠ [] ∧ (rw b).count (-1) < 40 ∧ l = rw b ++ (us y ++ [-1]) ∧ jnE (rw b)) : (∀ c ∈ us y, c ≠ (-1 : Int)) ∧ l.count (-1) ≤ 40 ∧ (((Value.ref b) = .null ∧ us y = [] ∧ l = []) ∨ ∃ b1 : Nat, (Value.ref b) = .ref b1 ∧ G b1 = some (11, 0) ∧ us y ≠ [] ∧ l = rw b1 ++ (us y ++ [-1]) ∧ jnE (rw b1)) := by
  obtain ⟨h1, h2, h3, h4, h5⟩ := h
  exact ⟨h1, by rw [h4]; exact jnC.ct h1 h3, Or.inr ⟨b, rfl, g, h2, h4, h5⟩⟩
end
