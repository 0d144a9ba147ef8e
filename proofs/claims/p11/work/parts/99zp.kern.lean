-- what the kernel's walks need: raw arrays of ints, arrays whose last element is null, states, new goals
def jK6 (U : State) : Prop := va_AO "ProofServerModel$Document" U ∧ va_AO "ProofServer$Document" U ∧ va_AO "ProofServer$State" U ∧ va_AO "ProofServer$Goal" U
theorem jK6.moved {u U : State} (hvm : u.vm.Alike U.vm) (h : jK6 u) : jK6 U := ⟨va_AO.moved hvm h.1, va_AO.moved hvm h.2.1, va_AO.moved hvm h.2.2.1, va_AO.moved hvm h.2.2.2⟩
def jAqZ (D : va_G) (cA : ClassId) (n a : Nat) (H : Heap) : Prop := ∃ f : Nat → Option Nat, va_at D vwCl (a, .inl (cA, n, .inr (.inr (.inr (.inr f))))) H ∧ (0 < n → f (n - 1) = none)
section J30
variable {p : Program} {l : Launch} {e : Env} {R : Room} {s : State} {m : MethodId} {args : Array Value} {below : List Frame} {meth : Method} {c : Code} {H : Heap} {locs : List Loc} {cells slots : Nat} {Q : State → Prop}
variable {cc : ByteArray} {pc : Nat} {ls : Array Slot} {rest : List Value} {dC : Nat → ClassId} {dI : Nat → Nat → Nat} {ca : Nat → ClassId} {B : jF} {base : Nat} {G0 G : jT} {E : List (Nat × Nat)} {H0 : Heap} {zc zs : Nat} {L : List jPin} {M : List jCt} {I : List jIv} {a a0 k k0 n n0 index : Nat} {tys : List (ClassId × FieldType)} {own C : String} {cA : ClassId}
theorem j7_newiR {cA : ClassId} (hexec : p.tables.exec = Jvm.exec) (hb : c.code = cc) (hK : va_K (dC, dI) vwCl tys s) (hh : jSt (dC, dI) B base G0 G E s.heap zc zs L M I H locs) (hB : jBok B) {atype : ArrayType} {ty : FieldType} (harr : (Cond.arrayClass ty).before args s = true) (hty : newarray.typeOf atype = ty) (hd : defaultValue ty = .int 0) (hra : ∀ cA, va_RA s cA ty → s.vm.findClass ("[" ++ ty.toString) = some cA) (t0 : Nat) (ht : tys[t0]? = some (cA, ty)) (hcb : componentBytes ty ≤ 8) {z : Int32} {x : Int} (hi : z.toInt = x) (h0 : 0 ≤ x ∧ x ≤ 200000) (hR : zc + 1 ≤ R.cells) (hR2 : zs + x.toNat ≤ R.slots) (hdg : decode cc pc = .ok (.newarray atype, 2))
    (kk : ∀ (H1 : Heap), (∀ q, q < H.size → H1[q]? = H[q]?) → (∀ t, G H.size ≠ some t) → va_at (dC, dI) vwCl (H.size, .inl (cA, x.toNat, .inl (fun _ => 0))) H1 → jSt (dC, dI) B base G0 G E s.heap (zc + 1) (zs + x.toNat) L M I H1 locs → W p l e R s m args below meth c H1 locs (zc + 1) (zs + x.toNat) Q (F0 m (pc + 2) ls (.ref H.size :: rest))) : W p l e R s m args below meth c H locs cells slots Q (F0 m pc ls (.int z :: rest)) := by
  have hn0 : ¬ z < 0 := jb_n0 hi h0.1
  have hcl : z.toNatClampNeg = x.toNat := jb_cl hi h0.1
  have hmu : x.toNat * componentBytes ty ≤ 200000 * 8 := Nat.mul_le_mul (by omega) hcb
  refine W.tight (c2 := zc) (n2 := zs) hh.2.2.2.2.2.1 hh.2.2.2.2.2.2.1 ?_
  refine j_newi hexec hb harr hty hd hra hK t0 ht hn0 hcl (by omega) hR hR2 hdg (fun H1 hat hz1 hfr hT => ?_)
  exact kk H1 hfr (fun t => by rw [hh.2.1.fresh]; exact fun h => by cases h) hat (hh.newR hB hz1 hfr hT)
theorem j7_iastR {f : Nat → Int32} (hexec : p.tables.exec = Jvm.exec) (hb : c.code = cc) (hK : va_K (dC, dI) vwCl tys s) (hh : jSt (dC, dI) B base G0 G E H0 zc zs L M I H locs) (hB : jBok B) (hraw : va_at (dC, dI) vwCl (a, .inl (cA, n, .inl f)) H) (hnr : ∀ t, G a ≠ some t) (hba : base ≤ a) (t0 : Nat) (ht : tys[t0]? = some (cA, .int)) {i v : Int32} {x : Int} (hi : i.toInt = x) (h12 : 0 ≤ x ∧ x < n) (hdg : decode cc pc = .ok (.iastore, 1))
    (kk : ∀ (H1 : Heap) (locs1 : List Loc), va_at (dC, dI) vwCl (a, .inl (cA, n, .inl (upd f x.toNat v))) H1 → (∀ q, q ≠ a → H1[q]? = H[q]?) → jSt (dC, dI) B base G0 G E H0 zc zs L M I H1 locs1 → W p l e R s m args below meth c H1 locs1 cells slots Q (F0 m (pc + 1) ls rest)) : W p l e R s m args below meth c H locs cells slots Q (F0 m pc ls (.int v :: .int i :: .ref a :: rest)) := by
  obtain ⟨h1, h2⟩ := h12
  exact j_iast (A := jA base) hexec hb hK t0 hraw hba hh.1.2.2 ht (jb_in hi h1 h2) hdg (fun H1 locs1 hat hsz hfr hT hL => kk H1 locs1 (by rw [jb_cl hi h1] at hat; exact hat) hfr (hh.rawput hB hnr hba hsz hfr hT hL))
theorem j7_acopyR {P0 : Nat → Int32 → Prop} {g : Nat → Int32} (hexec : p.tables.exec = Jvm.exec) (hb : c.code = cc) (hml : c.maxLocals = ls.size) (hown : s.vm.findClass own = some m.cls) (hlink : (Cond.methodLink own index arraycopyName).before args s = true) (hnat : (Cond.native arraycopyName).before args s = true) (hstat : (Cond.static arraycopyName).before args s = true) (hini : (Cond.initialized "java/lang/System").before args s = true)
    (hK : va_K (dC, dI) vwCl tys s) (hh : jSt (dC, dI) B base G0 G E H0 zc zs L M I H locs) (hB : jBok B) (hBk0 : ∀ n G a H, B k0 n G a H ↔ jAr (dC, dI) cA P0 n a H) (t0 : Nat) (ht : tys[t0]? = some (cA, .int)) (hk0 : k0 < 1000) (ha0 : G a0 = some (k0, n0)) (hraw : va_at (dC, dI) vwCl (a, .inl (cA, n, .inl g)) H) (hnr : ∀ t, G a ≠ some t) (hba : base ≤ a)
    {sp dp w : Int32} {x y z : Int} (hx : sp.toInt = x) (hy : dp.toInt = y) (hz : w.toInt = z) (h1 : 0 ≤ x ∧ 0 ≤ y ∧ 0 ≤ z ∧ x + z ≤ n0 ∧ y + z ≤ n)
    (hframes : 1 ≤ R.frames) (hlocals : (rest.map fun v => v.category).sum + (nativeFrameWords "java/lang/System" "arraycopy" 5 + 11) ≤ R.locals) (hdg : decode cc pc = .ok (.invokestatic index, 3))
    (kk : ∀ (H1 : Heap) (locs1 : List Loc) (g1 : Nat → Int32), va_at (dC, dI) vwCl (a, .inl (cA, n, .inl g1)) H1 → (∀ j, g1 j = g j ∨ ∃ i, P0 i (g1 j)) → (∀ q, q ≠ a → H1[q]? = H[q]?) → jSt (dC, dI) B base G0 G E H0 zc zs L M I H1 locs1 → W p l e R s m args below meth c H1 locs1 cells slots Q (F0 m (pc + 3) ls rest)) : W p l e R s m args below meth c H locs cells slots Q (F0 m pc ls (.int w :: .int dp :: .ref a :: .int sp :: .ref a0 :: rest)) := by
  obtain ⟨q1, q2, q3, q4, q5⟩ := h1
  obtain ⟨f, f1, f2⟩ := hh.ar hBk0 hk0 ha0
  have g1 := hraw
  have s0 : ¬ sp < 0 := jb_n0 hx q1
  have d0 : ¬ dp < 0 := jb_n0 hy q2
  have w0 : ¬ w < 0 := jb_n0 hz q3
  have es : sp.toNatClampNeg = x.toNat := jb_cl hx q1
  have ed : dp.toNatClampNeg = y.toNat := jb_cl hy q2
  have ew : w.toNatClampNeg = z.toNat := jb_cl hz q3
  have h4 : sp.toNatClampNeg + w.toNatClampNeg ≤ n0 := by rw [es, ew]; omega
  have c0 : H[a0]? = some (vp_cell cA (n0, .inl f)) := f1
  have c1 : H[a]? = some (vp_cell cA (n, .inl g)) := g1
  intro T hT X
  obtain ⟨-, k9, hk9, cm9, hkk9⟩ := (hK.2 t0 _ ht).1 n0 (fun j => .int (f j))
  obtain ⟨-, k8, hk8, cm8, hkk8⟩ := (hK.2 t0 _ ht).1 n (fun j => .int (g j))
  obtain ⟨vm', X', step⟩ := X.arraycopy hexec hown hlink hnat hstat hini (src := a0) (dst := a) (cs := vp_cell cA (n0, .inl f)) (cd := vp_cell cA (n, .inl g)) (srcPos := sp) (destPos := dp) (n := w) (by rw [hT]; exact c0) (by rw [hT]; exact c1)
    (fun _ h => by cases h) (fun _ h => by cases h) (fun h => by cases h) (fun h => by cases h) hk9 hk8 hkk9 hkk8 (by simp [refKind]) s0 d0 w0
    (by rw [hx, hz]; show ¬ _ > ((arrV cA n0 (fun j => .int (f j))).slots.size : Int); rw [arrV_size]; omega)
    (by rw [hy, hz]; show ¬ _ > ((arrV cA n (fun j => .int (g j))).slots.size : Int); rw [arrV_size]; omega)
    (fun vm₁ _ i hi => by
      have e9 : (vp_cell cA (n0, .inl f)).slots.getD (sp.toNatClampNeg + i) .null = .int (f (sp.toNatClampNeg + i)) := by
        show (arrV cA n0 (fun j => .int (f j))).slots.getD _ _ = _
        rw [Array.getD_eq_getD_getElem?, arrV_read _ _ (by omega)]
        rfl
      rw [e9]
      exact ⟨rfl, trivial⟩)
    (g := F0 m pc ls (.int w :: .int dp :: .ref a :: .int sp :: .ref a0 :: rest)) rfl (by rw [hml]) (rest := rest) rfl (by rw [hb]; exact hdg) hframes (by show 2 * 0 + _ + _ ≤ _; omega)
  have e1 : copied (vp_cell cA (n0, .inl f)) (vp_cell cA (n, .inl g)) sp dp w = vp_cell cA (n, .inl (va_cpy f g sp.toNatClampNeg dp.toNatClampNeg w.toNatClampNeg)) := va_copied (fun z => .int z) cA cA f g h4
  rw [e1] at X' step
  have hl : a < H.size := (Array.getElem?_eq_some_iff.mp c1).1
  have hheap : ((T.setVm vm').setCell a (vp_cell cA (n, .inl (va_cpy f g sp.toNatClampNeg dp.toNatClampNeg w.toNatClampNeg)))).heap = H.setIfInBounds a (vp_cell cA (n, .inl (va_cpy f g sp.toNatClampNeg dp.toNatClampNeg w.toNatClampNeg))) := by rw [← hT]; rfl
  have oq : ∀ q : Nat, q ≠ a → (H.setIfInBounds a (vp_cell cA (n, .inl (va_cpy f g sp.toNatClampNeg dp.toNatClampNeg w.toNatClampNeg))))[q]? = H[q]? := fun q hq => by simp [Array.getElem?_setIfInBounds, Ne.symm hq]
  have ha1 : (H.setIfInBounds a (vp_cell cA (n, .inl (va_cpy f g sp.toNatClampNeg dp.toNatClampNeg w.toNatClampNeg))))[a]? = some (vp_cell cA (n, .inl (va_cpy f g sp.toNatClampNeg dp.toNatClampNeg w.toNatClampNeg))) := by simp [Array.getElem?_setIfInBounds, hl]
  have hsz : (H.setIfInBounds a (vp_cell cA (n, .inl (va_cpy f g sp.toNatClampNeg dp.toNatClampNeg w.toNatClampNeg)))).size = H.size := by simp
  obtain ⟨t, a1, b1⟩ := kk _ _ (va_cpy f g sp.toNatClampNeg dp.toNatClampNeg w.toNatClampNeg) ha1 (fun j => by
      unfold va_cpy
      split
      · rename_i hc
        exact Or.inr ⟨_, f2 (sp.toNatClampNeg + (j - dp.toNatClampNeg)) (by omega)⟩
      · exact Or.inl rfl) oq (hh.rawput hB hnr hba hsz oq (jTot_set hsz c1 ha1 (by rw [vp_cell_i, vp_cell_i, arrV_size, arrV_size]) oq) (fun q hq => by
      rcases List.mem_append.mp hq with h | h
      · exact hh.1.2.2 q h
      · obtain ⟨z9, -, hz9⟩ := List.mem_map.mp h
        rw [← hz9]
        exact hba)) _ hheap X'
  exact ⟨t, step t a1, b1⟩
theorem jSt.aqZ (hh : jSt (dC, dI) B base G0 G E H0 zc zs L M I H locs) (hBk : ∀ n G a H, B k n G a H ↔ jAqZ (dC, dI) cA n a H) (hk : k < 1000) (ha : G a = some (k, n)) : ∃ f : Nat → Option Nat, va_at (dC, dI) vwCl (a, .inl (cA, n, .inr (.inr (.inr (.inr f))))) H ∧ (0 < n → f (n - 1) = none) := (hBk _ _ _ _).mp (hh.2.1.1 a k n ha hk (fun h => by cases h))
theorem j7_qlenZ (hexec : p.tables.exec = Jvm.exec) (hb : c.code = cc) (hK : va_K (dC, dI) vwCl tys s) (hh : jSt (dC, dI) B base G0 G E H0 zc zs L M I H locs) (hBk : ∀ n G a H, B k n G a H ↔ jAqZ (dC, dI) cA n a H) (t0 : Nat) {ty : FieldType} (ht : tys[t0]? = some (cA, ty)) (hk : k < 1000) (ha : G a = some (k, n)) (hn : n < 2147483648) (hdg : decode cc pc = .ok (.arraylength, 1))
    (kk : ∀ z : Int32, z.toInt = n → W p l e R s m args below meth c H locs cells slots Q (F0 m (pc + 1) ls (.int z :: rest))) : W p l e R s m args below meth c H locs cells slots Q (F0 m pc ls (.ref a :: rest)) := by
  obtain ⟨f, h1, -⟩ := hh.aqZ hBk hk ha
  exact va_alen (v := Int32.ofNat n) hexec hb hK (jp_one h1) 0 t0 rfl ht rfl hdg (kk _ (jb_nat hn))
theorem j7_qaldZ (hexec : p.tables.exec = Jvm.exec) (hb : c.code = cc) (hK5 : jK5 dC dI ca s) (hh : jSt (dC, dI) B base G0 G E H0 zc zs L M I H locs) (hBk : ∀ n G a H, B k n G a H ↔ jAqZ (dC, dI) (ca 8) n a H) (hk : k < 1000) (ha : G a = some (k, n)) {i : Int32} {x : Int} (hi : i.toInt = x) (h12 : 0 ≤ x ∧ x < n) (hlast : x + 1 = n) (hdg : decode cc pc = .ok (.aaload, 1))
    (kk : W p l e R s m args below meth c H locs cells slots Q (F0 m (pc + 1) ls (.null :: rest))) : W p l e R s m args below meth c H locs cells slots Q (F0 m pc ls (.int i :: .ref a :: rest)) := by
  obtain ⟨h1, h2⟩ := h12
  obtain ⟨f, g1, g2⟩ := hh.aqZ hBk hk ha
  have hlt := jb_cl_lt hi h1 h2
  have c1 : H[a]? = some (vp_cell (ca 8) (n, .inr (.inr (.inr (.inr f))))) := g1
  have e1 : f i.toNatClampNeg = none := by
    have := g2 (by omega)
    rw [jb_cl hi h1, show x.toNat = n - 1 by omega]
    exact this
  exact W.aald (v := va_rf (f i.toNatClampNeg)) (ty := .array .int) hexec hb c1 ((hK5.1.2 0 _ rfl).1 n (fun j => va_rf (f j))) rfl (fun q => by cases q) (by show ¬ (i < 0 ∨ (arrV _ _ _).slots.size ≤ _); rw [arrV_size]; exact jb_in hi h1 h2) (by show (arrV _ _ _).slots[_]? = _; rw [arrV_read _ _ hlt]) rfl rfl hdg (by rw [e1]; exact kk)
theorem j7_aastN0 {T : State} (X : Stand p l e R s m args below meth c T locs cells slots) (hexec : p.tables.exec = Jvm.exec) {a : Addr} {cell : Cell} {j : Int32} (hcell : T.heap[a]? = some cell) (harr : s.isArrayOf cell (.array .int)) (hknown : cell.vm ≠ .unknown)
    (hin : ¬ (j < 0 ∨ cell.slots.size ≤ j.toNatClampNeg))
    {g : JFrame} (hg : g.method = m) {rest : List Value} (hstack : g.stack = .null :: .int j :: .ref a :: rest) (hdg : decode c.code g.pc = .ok (.aastore, 1)) :
    Stand p l e R s m args below meth c (T.setCell a (cell.setSlot j.toNatClampNeg .null)) (locs ++ [⟨a, j.toNatClampNeg⟩]) cells slots ∧
      ∀ target, Steps p.tables e below ((T.setCell a (cell.setSlot j.toNatClampNeg .null)).setTop { g with pc := g.pc + 1, stack := rest }) target → Steps p.tables e below (T.setTop g) target := by
  have hT := State.isArrayOf_alike X.warmed.alike harr
  have hfit : T.fitsSlot cell.cls cell.vm j.toNatClampNeg .null = true := by
    obtain ⟨hobj, k, hk, comp, hkind⟩ := hT
    cases hvm : cell.vm <;> first | exact absurd hvm (hobj _) | simp [State.fitsSlot, State.slotType?, hk, hkind, fits]
  refine ⟨X.stored hcell _ _, fun target hrest => ?_⟩
  subst hg
  jvm_step X.here [hexec, hdg]
  refine aastore.wp_of_null (c := cell) (t := .array .int) X.here.top hstack hcell hT hin hknown (Nat.not_le.mp fun q => hin (Or.inr q)) hfit ?_
  intro acts
  rw [afterInstr_ok]
  exact hrest
theorem j7_WaastN (hexec : p.tables.exec = Jvm.exec) (hb : c.code = cc) {a : Addr} {cell : Cell} {j : Int32} (hcell : H[a]? = some cell) (harr : s.isArrayOf cell (.array .int)) (hknown : cell.vm ≠ .unknown) (hin : ¬ (j < 0 ∨ cell.slots.size ≤ j.toNatClampNeg))
    {g : JFrame} (hg : g.method = m) {rest : List Value} (hstack : g.stack = .null :: .int j :: .ref a :: rest) (hdg : decode cc g.pc = .ok (.aastore, 1))
    (kk : ∀ H' : Heap, H'[a]? = some (cell.setSlot j.toNatClampNeg .null) → H'.size = H.size → (∀ q, q ≠ a → H'[q]? = H[q]?) → W p l e R s m args below meth c H' (locs ++ [⟨a, j.toNatClampNeg⟩]) cells slots Q { g with pc := g.pc + 1, stack := rest }) :
    W p l e R s m args below meth c H locs cells slots Q g := by
  intro T hT X
  have hT' : T.heap[a]? = some cell := by rw [hT]; exact hcell
  obtain ⟨X', st⟩ := j7_aastN0 X hexec hT' harr hknown hin hg hstack (by rw [hb]; exact hdg)
  have hlt : a < T.heap.size := (Array.getElem?_eq_some_iff.mp hT').1
  obtain ⟨t', a1, b1⟩ := kk _ (heapAt_setCell_self _ hlt) (by rw [size_setCell, hT]) (fun q hq => by rw [heapAt_setCell_ne _ (Ne.symm hq), hT]) (T.setCell a (cell.setSlot j.toNatClampNeg .null)) rfl X'
  exact ⟨t', st t' a1, b1⟩
theorem j7_qastAN {f : Nat → Option Nat} (hexec : p.tables.exec = Jvm.exec) (hb : c.code = cc) (hK5 : jK5 dC dI ca s) (hh : jSt (dC, dI) B base G0 G E H0 zc zs L M I H locs) (hB : jBok B) (hraw : va_at (dC, dI) vwCl (a, .inl (ca 8, n, .inr (.inr (.inr (.inr f))))) H) (hnr : ∀ t, G a ≠ some t) (hba : base ≤ a) {i : Int32} {x : Int} (hi : i.toInt = x) (h12 : 0 ≤ x ∧ x < n) (hdg : decode cc pc = .ok (.aastore, 1))
    (kk : ∀ (H1 : Heap) (locs1 : List Loc), va_at (dC, dI) vwCl (a, .inl (ca 8, n, .inr (.inr (.inr (.inr (va_up f x.toNat none)))))) H1 → (∀ q, q ≠ a → H1[q]? = H[q]?) → jSt (dC, dI) B base G0 G E H0 zc zs L M I H1 locs1 → W p l e R s m args below meth c H1 locs1 cells slots Q (F0 m (pc + 1) ls rest)) : W p l e R s m args below meth c H locs cells slots Q (F0 m pc ls (.null :: .int i :: .ref a :: rest)) := by
  obtain ⟨h1, h2⟩ := h12
  have g1 : H[a]? = some (vp_cell (ca 8) (n, .inr (.inr (.inr (.inr f))))) := hraw
  have hcl := jb_cl hi h1
  refine j7_WaastN hexec hb g1 ((hK5.1.2 0 _ rfl).1 n (fun j => va_rf (f j))) (fun h => by cases h) (by show ¬ (i < 0 ∨ (arrV _ _ _).slots.size ≤ _); rw [arrV_size]; exact jb_in hi h1 h2) rfl rfl hdg fun H1 e1 z oq => ?_
  refine kk H1 _ ?_ oq (hh.rawput hB hnr hba z oq (jTot_set z g1 e1 (jSet_sz _ _ _) oq) (fun q hq => ?_))
  · show H1[a]? = some (vp_cell _ _)
    rw [e1, vp_cell_q, vp_cell_q, arrV_store, hcl]
    congr 2
    funext q
    by_cases hq : q = x.toNat
    · subst hq
      simp [updV, va_up, va_rf]
    · simp [updV, va_up, hq]
  · rcases List.mem_append.mp hq with h | h
    · exact hh.1.2.2 q h
    · cases List.mem_singleton.mp h; exact hba
/-- a reference is read from an array that has no kind yet -/
theorem j7_qaldR {f : Nat → Option Nat} (hexec : p.tables.exec = Jvm.exec) (hb : c.code = cc) (hK : va_K (dC, dI) vwCl tys s) (hraw : va_at (dC, dI) vwCl (a, .inl (cA, n, .inr (.inr (.inr (.inr f))))) H) (t0 : Nat) (ht : tys[t0]? = some (cA, .object C)) {i : Int32} {x : Int} (hi : i.toInt = x) (h12 : 0 ≤ x ∧ x < n) {v : Nat} (hv : f x.toNat = some v) (hdg : decode cc pc = .ok (.aaload, 1))
    (kk : W p l e R s m args below meth c H locs cells slots Q (F0 m (pc + 1) ls (.ref v :: rest))) : W p l e R s m args below meth c H locs cells slots Q (F0 m pc ls (.int i :: .ref a :: rest)) := by
  obtain ⟨h1, h2⟩ := h12
  have hlt := jb_cl_lt hi h1 h2
  have c1 : H[a]? = some (vp_cell cA (n, .inr (.inr (.inr (.inr f))))) := hraw
  have e1 : f i.toNatClampNeg = some v := by rw [jb_cl hi h1]; exact hv
  exact W.aald (v := va_rf (f i.toNatClampNeg)) (ty := .object C) hexec hb c1 ((hK.2 t0 _ ht).1 n (fun j => va_rf (f j))) rfl (fun q => by cases q) (by show ¬ (i < 0 ∨ (arrV _ _ _).slots.size ≤ _); rw [arrV_size]; exact jb_in hi h1 h2) (by show (arrV _ _ _).slots[_]? = _; rw [arrV_read _ _ hlt]) rfl rfl hdg (by rw [e1]; exact kk)
theorem jAr.of {P : Nat → Int32 → Prop} {f : Nat → Int32} (hBk : ∀ n G a H, B k n G a H ↔ jAr (dC, dI) cA P n a H) (h : va_at (dC, dI) vwCl (a, .inl (cA, n, .inl f)) H) (hP : ∀ j, j < n → P j (f j)) : B k n G a H := (hBk _ _ _ _).mpr ⟨f, h, hP⟩
theorem jAqZ.of {f : Nat → Option Nat} (hBk : ∀ n G a H, B k n G a H ↔ jAqZ (dC, dI) cA n a H) (h : va_at (dC, dI) vwCl (a, .inl (cA, n, .inr (.inr (.inr (.inr f))))) H) (hP : 0 < n → f (n - 1) = none) : B k n G a H := (hBk _ _ _ _).mpr ⟨f, h, hP⟩
/-- an array without elements has its kind at once -/
theorem j7_newq0 {P : jT → Option Nat → Prop} (hexec : p.tables.exec = Jvm.exec) (hb : c.code = cc) (hown : s.vm.findClass own = some m.cls) (hclink : (Cond.classLink own index C).before args s = true) (hover : va_AO C s) (hK : va_K (dC, dI) vwCl tys s) (hh : jSt (dC, dI) B base G0 G E s.heap zc zs L M I H locs) (hB : jBok B) (hBk : ∀ n G a H, B k n G a H ↔ jAq (dC, dI) cA P n G a H) (t0 : Nat) (ht : tys[t0]? = some (cA, .object C)) (hk : k < 1000) (hb0 : base ≤ s.heap.size) {z : Int32} (hi : z.toInt = 0) (hR : zc + 1 ≤ R.cells) (hR2 : zs + 0 ≤ R.slots) (hdg : decode cc pc = .ok (.anewarray index, 3))
    (kk : ∀ (H1 : Heap), (∀ q, q < H.size → H1[q]? = H[q]?) → jSt (dC, dI) B base G0 (va_up G H.size (some (k, 0))) E s.heap (zc + 1) (zs + 0) L M I H1 locs → W p l e R s m args below meth c H1 locs (zc + 1) (zs + 0) Q (F0 m (pc + 3) ls (.ref H.size :: rest))) : W p l e R s m args below meth c H locs cells slots Q (F0 m pc ls (.int z :: rest)) :=
  j7_newqR hexec hb hown hclink hover hK hh hB t0 ht (x := 0) hi (by omega) hR hR2 hdg (fun H1 hfr hnr hraw hh1 => kk H1 hfr (hh1.typ hB hnr (Nat.le_trans hb0 hh.1.1) hraw.lt (jAq.of hBk hraw (fun j hj => absurd hj (Nat.not_lt_zero j)))))
theorem j7_newa0 {P : jT → Option Nat → Prop} (hexec : p.tables.exec = Jvm.exec) (hb : c.code = cc) (hown : s.vm.findClass own = some m.cls) (hclink : (Cond.classLink own index (FieldType.array .int).toString).before args s = true) (hK5 : jK5 dC dI ca s) (hh : jSt (dC, dI) B base G0 G E s.heap zc zs L M I H locs) (hB : jBok B) (hBk : ∀ n G a H, B k n G a H ↔ jAq (dC, dI) (ca 8) P n G a H) (hk : k < 1000) (hb0 : base ≤ s.heap.size) {z : Int32} (hi : z.toInt = 0) (hR : zc + 1 ≤ R.cells) (hR2 : zs + 0 ≤ R.slots) (hdg : decode cc pc = .ok (.anewarray index, 3))
    (kk : ∀ (H1 : Heap), (∀ q, q < H.size → H1[q]? = H[q]?) → jSt (dC, dI) B base G0 (va_up G H.size (some (k, 0))) E s.heap (zc + 1) (zs + 0) L M I H1 locs → W p l e R s m args below meth c H1 locs (zc + 1) (zs + 0) Q (F0 m (pc + 3) ls (.ref H.size :: rest))) : W p l e R s m args below meth c H locs cells slots Q (F0 m pc ls (.int z :: rest)) :=
  j7_newaR hexec hb hown hclink hK5 hh hB (x := 0) hi (by omega) hR hR2 hdg (fun H1 hfr hnr hraw hh1 => kk H1 hfr (hh1.typ hB hnr (Nat.le_trans hb0 hh.1.1) hraw.lt (jAq.of hBk hraw (fun j hj => absurd hj (Nat.not_lt_zero j)))))
/-- contents that are known keep to the kind -/
theorem jSt.allP {P : Nat → Int32 → Prop} {f : Nat → Int32} {cB : ClassId} (hh : jSt (dC, dI) B base G0 G E H0 zc zs L M I H locs) (hBk : ∀ n G a H, B k n G a H ↔ jAr (dC, dI) cA P n a H) (hk : k < 1000) (j : Nat) (hj : M[j]? = some (a, k, n, cB, f)) : ∀ i, i < n → P i (f i) := by
  obtain ⟨q1, -, -, q4⟩ := hh.2.2.2.2.2.2.2.1 _ (List.mem_of_getElem? hj)
  have q1' : G a = some (k, n) := q1
  have q4' : va_at (dC, dI) vwCl (a, .inl (cB, n, .inl f)) H := q4
  obtain ⟨f', g1, g2⟩ := hh.ar hBk hk q1'
  intro i hi
  have e : f i = f' i := jCt_eq q4' g1 hi
  rw [e]
  exact g2 i hi
end J30
def jFp (f : Nat → Int32) : Prop := ∀ j, -1 ≤ (f j).toInt
theorem jFp.zero : jFp (fun _ => 0) := fun _ => (by decide : (-1 : Int) ≤ (0 : Int32).toInt)
theorem jFp.put {f : Nat → Int32} {i : Nat} {v : Int32} (h : jFp f) (hv : -1 ≤ v.toInt) : jFp (upd f i v) := fun j => by
  unfold upd
  split
  · exact hv
  · exact h j
theorem jFp.cpy {g g1 : Nat → Int32} (h : jFp g) (hc : ∀ j, g1 j = g j ∨ ∃ _i : Nat, -1 ≤ (g1 j).toInt) : jFp g1 := fun j => by
  rcases hc j with e | ⟨_, e⟩
  · rw [e]; exact h j
  · exact e
/-- the terms that are told lie in the source -/
def jTt (f g : Nat → Int32) (n : Nat) : Prop := ∀ l : Int, 0 ≤ l → l < 13 → 0 < jSo g l → jSo f l + jSo g l ≤ n
def jTbk (f g : Nat → Int32) (n : Nat) (b : Int) : Prop := ∀ l : Int, 0 ≤ l → l < b → jSo f l + jSo g l ≤ n
def jTa (g : Nat → Int32) (b : Int) : Prop := ∀ l : Int, 0 ≤ l → l < b → 0 < jSo g l
theorem jTt.tb {f g : Nat → Int32} {n : Nat} {b : Int} (h : jTt f g n) (hb : b ≤ 13) (ha : jTa g b) : jTbk f g n b := fun l h0 h1 => h l h0 (by omega) (ha l h0 h1)
theorem jTt.put {f g f1 g1 : Nat → Int32} {n : Nat} {x u w : Int} (h : jTt f g n) (hx : 0 ≤ x) (hx2 : x < 13) (hv : jSo f1 x = u) (ho : ∀ j, j < 13 → j ≠ x.toNat → f1 j = f j) (hv2 : jSo g1 x = w) (ho2 : ∀ j, j < 13 → j ≠ x.toNat → g1 j = g j) (hs : u + w ≤ n) : jTt f1 g1 n := fun l h0 h1 h2 => by
  by_cases e : l = x
  · subst e; rw [hv, hv2]; exact hs
  · have e1 : jSo f1 l = jSo f l := by unfold jSo; rw [ho l.toNat (by omega) (by omega)]
    have e2 : jSo g1 l = jSo g l := by unfold jSo; rw [ho2 l.toNat (by omega) (by omega)]
    rw [e2] at h2
    rw [e1, e2]
    exact h l h0 h1 h2
theorem jTbk.one {f g : Nat → Int32} {n : Nat} {u w : Int} (hv : jSo f 0 = u) (hw : jSo g 0 = w) (h : u + w ≤ n) : jTbk f g n 1 := fun l h0 h1 => by
  obtain rfl : l = 0 := by omega
  rw [hv, hw]; exact h
theorem jTa.cg {g : Nat → Int32} {b b1 : Int} (h : jTa g b) (hb : b1 ≤ b) : jTa g b1 := fun l h0 h1 => h l h0 (by omega)
def jZe (g : Nat → Int32) (n : Int) : Prop := ∀ l : Int, 0 ≤ l → l < n → jSo g l = 0
theorem jZe.zero {g : Nat → Int32} {n : Int} (h : n ≤ 0) : jZe g n := fun l h0 h1 => by omega
theorem jZe.step {g g1 : Nat → Int32} {i i1 : Int} {n : Nat} (h : jZe g i) (hi : i1 = i + 1) (h0 : 0 ≤ i) (hn : i < n) (hv : jSo g1 i = 0) (ho : ∀ j, j < n → j ≠ i.toNat → g1 j = g j) : jZe g1 i1 := fun l a b => by
  by_cases e : l = i
  · subst e; exact hv
  · have e1 : jSo g1 l = jSo g l := by unfold jSo; rw [ho l.toNat (by omega) (by omega)]
    rw [e1]; exact h l a (by omega)
theorem jZe.tt {f g : Nat → Int32} {n : Nat} {m : Int} (h : jZe g m) (hm : 13 ≤ m) : jTt f g n := fun l h0 h1 h2 => by
  have := h l h0 (by omega)
  omega
/-- what matches tells, for the number of bound names of a rule -/
def jTf (ff : Nat → Int32) (n1 : Nat) (f g : Nat → Int32) (n : Nat) : Prop := ∀ b : Int, 0 ≤ b → b ≤ 12 → b ≤ n1 → jLd ff n1 b → jTbk f g n b
theorem jTf.of {ff : Nat → Int32} {n1 : Nat} {f g : Nat → Int32} {n : Nat} {b : Int} (h : jTt f g n) (ha : jTa g b) (hb0 : 0 ≤ b) (hb : b ≤ 12) (hb1 : b ≤ n1) (hl : jLd ff n1 b) : jTf ff n1 f g n := fun b' q0 q1 q2 q3 => by
  rw [jLd.uniq q3 hl q0 q2 q1 hb0 hb1 hb]
  exact h.tb (by omega) ha
theorem jTa.zero {g : Nat → Int32} {b : Int} (h : b ≤ 0) : jTa g b := fun l h0 h1 => by omega
theorem jTa.step {g : Nat → Int32} {b b1 : Int} (h : jTa g b) (hb : b1 = b + 1) (hv : 0 < jSo g b) : jTa g b1 := fun l h0 h1 => by
  by_cases e : l = b
  · subst e; exact hv
  · exact h l h0 (by omega)
def jNn0 (g : Nat → Int32) (n : Nat) : Prop := ∀ l : Int, 0 ≤ l → l < n → 0 ≤ jSo g l
def jNn1 (g : Nat → Int32) (n : Nat) : Prop := ∀ l : Int, 0 ≤ l → l < n → -1 ≤ jSo g l
def jW (f g : Nat → Int32) (b i : Int) : Int := if jSo f i % 16 = 10 ∧ jSo f i / 32768 < b then jSo g (jSo f i / 32768) else 1
def jPs (f g : Nat → Int32) (b i0 : Int) : Nat → Int
  | 0 => 0
  | k + 1 => jPs f g b i0 k + jW f g b (i0 + k)
def jPqk (f g : Nat → Int32) (b i0 i s : Int) : Prop := i0 ≤ i ∧ s = jPs f g b i0 (i - i0).toNat
theorem jPqk.zero {f g : Nat → Int32} {b i0 i s : Int} (h : i = i0) (hs : s = 0) : jPqk f g b i0 i s := ⟨by omega, by rw [hs, h, Int.sub_self]; rfl⟩
theorem jPqk.step {f g : Nat → Int32} {b i0 i s i1 s1 : Int} (h : jPqk f g b i0 i s) (hi : i1 = i + 1) (hs : s1 = s + jW f g b i) : jPqk f g b i0 i1 s1 := by
  obtain ⟨h0, h2⟩ := h
  refine ⟨by omega, ?_⟩
  have e : (i1 - i0).toNat = (i - i0).toNat + 1 := by omega
  rw [e, hs, h2]
  show _ = jPs f g b i0 _ + jW f g b (i0 + ((i - i0).toNat : Nat))
  rw [show i0 + ((i - i0).toNat : Int) = i by omega]
theorem jPqk.told {f g : Nat → Int32} {b i0 i s i1 s1 y : Int} (h : jPqk f g b i0 i s) (hi : i1 = i + 1) (h1 : jSo f i % 16 = 10) (h2 : jSo f i / 32768 < b) (hy : y = jSo f i / 32768) (hs : s1 = s + jSo g y) : jPqk f g b i0 i1 s1 := h.step hi (by rw [hs, hy]; unfold jW; rw [if_pos ⟨h1, h2⟩])
theorem jPqk.toldq {f g : Nat → Int32} {b i0 i s i1 s1 y z : Int} (h : jPqk f g b i0 i s) (hq : z = jSo g y) (hi : i1 = i + 1) (h1 : jSo f i % 16 = 10) (h2 : jSo f i / 32768 < b) (hy : y = jSo f i / 32768) (hs : s1 = s + z) : jPqk f g b i0 i1 s1 := h.told hi h1 h2 hy (by rw [hs, hq])
theorem jPqk.one {f g : Nat → Int32} {b i0 i s i1 s1 : Int} (h : jPqk f g b i0 i s) (hi : i1 = i + 1) (h1 : jSo f i % 16 ≠ 10 ∨ b ≤ jSo f i / 32768) (hs : s1 = s + 1) : jPqk f g b i0 i1 s1 := h.step hi (by rw [hs]; unfold jW; rw [if_neg (by omega)])
theorem jW.nn {f g : Nat → Int32} {b i : Int} (hf : -1 ≤ jSo f i) (hg : jNn0 g 13) (hb : b ≤ 13) : 0 ≤ jW f g b i := by
  unfold jW
  split
  · rename_i h
    exact hg _ (by omega) (by omega)
  · omega
theorem jPs.mono {f g : Nat → Int32} {b i0 e : Int} (hn : ∀ j, i0 ≤ j → j < e → 0 ≤ jW f g b j) (k : Nat) : ∀ m : Nat, k ≤ m → i0 + m ≤ e → jPs f g b i0 k ≤ jPs f g b i0 m
  | 0, h, _ => by rw [show k = 0 by omega]; exact Int.le_refl _
  | m + 1, h, h2 => by
    by_cases q : k = m + 1
    · rw [q]; exact Int.le_refl _
    · have h3 := jPs.mono hn k m (by omega) (by omega)
      have h4 := hn (i0 + m) (by omega) (by omega)
      show _ ≤ jPs f g b i0 m + jW f g b (i0 + m)
      omega
theorem jPqk.fit {f g : Nat → Int32} {b i0 i s e t : Int} (h : jPqk f g b i0 i s) (h1 : jPqk f g b i0 e t) (hie : i < e) (hn : ∀ j, i0 ≤ j → j < e → 0 ≤ jW f g b j) : s + jW f g b i ≤ t := by
  have h2 := h.step rfl rfl
  obtain ⟨q1, q2⟩ := h2
  obtain ⟨p1, p2⟩ := h1
  rw [q2, p2]
  exact jPs.mono hn _ _ (by omega) (by omega)
theorem jPqk.fitT {f g : Nat → Int32} {b i0 i s e t y : Int} {n : Nat} (h : jPqk f g b i0 i s) (h1 : jPqk f g b i0 e t) (hie : i < e) (hf : jNn1 f n) (hen : e ≤ n ∨ e ≤ i0) (h0 : 0 ≤ i0) (hg : jNn0 g 13) (hb : b ≤ 13) (c1 : jSo f i % 16 = 10) (c2 : jSo f i / 32768 < b) (hy : y = jSo f i / 32768) : s + jSo g y ≤ t := by
  have h2 := h.fit h1 hie (fun j q1 q2 => jW.nn (hf j (by omega) (by omega)) hg hb)
  unfold jW at h2
  rw [if_pos ⟨c1, c2⟩, ← hy] at h2
  exact h2
theorem jNn0.of {g : Nat → Int32} {n : Nat} (h : ∀ i, i < n → 0 ≤ (g i).toInt ∧ (g i).toInt ≤ 3000) : jNn0 g n := fun l h0 h1 => (h l.toNat (by omega)).1
theorem jNn1.of {g : Nat → Int32} {n : Nat} (h : ∀ i, i < n → -1 ≤ (g i).toInt) : jNn1 g n := fun l h0 h1 => h l.toNat (by omega)
-- all states have as many facts as names of facts
abbrev jFs11 : List (Nat × Nat) := [(11, 4), (11, 5)]
def jSef (dC : Nat → ClassId) (dI : Nat → Nat → Nat) (G : jT) (H : Heap) : Prop := ∀ a, G a = some (11, 0) → ∃ x y m : Nat, jf (dC, dI) 11 a 4 (.ref x) H ∧ jf (dC, dI) 11 a 5 (.ref y) H ∧ G x = some (101, m) ∧ G y = some (313, m) ∧ m ≤ 16
theorem jSef.ie {dC : Nat → ClassId} {dI : Nat → Nat → Nat} {G : jT} {H : Heap} (h : jSef dC dI G H) : ((jFs11, jSef dC dI G) : jIv).2 H ∧ ∀ H1 H2 : Heap, jAg (dC, dI) G ((jFs11, jSef dC dI G) : jIv).1 H1 H2 → ((jFs11, jSef dC dI G) : jIv).2 H1 → ((jFs11, jSef dC dI G) : jIv).2 H2 :=
  ⟨h, fun H1 H2 hA h1 a ha => by
    obtain ⟨x, y, m, g1, g2, g3⟩ := h1 a ha
    exact ⟨x, y, m, hA.1 a 11 0 4 _ ha rfl g1, hA.1 a 11 0 5 _ ha rfl g2, g3⟩⟩
theorem jSef.grow {dC : Nat → ClassId} {dI : Nat → Nat → Nat} {G G1 : jT} {H : Heap} {ks : List Nat} (h : jSef dC dI G H) (hle : jLe G G1) (hN : jNk ks G G1) (hk : ks.contains 11 = true) : jSef dC dI G1 H := fun a ha => by
  obtain ⟨x, y, m, g1, g2, g3, g4, g5⟩ := h a (hN a 11 0 ha hk)
  exact ⟨x, y, m, g1, g2, hle _ _ g3, hle _ _ g4, g5⟩
theorem jSef.own {dC : Nat → ClassId} {dI : Nat → Nat → Nat} {G G1 : jT} {r : Nat} {H H1 : Heap} {ks : List Nat} (h : jSef dC dI G H) (ho : jOw (dC, dI) G 11 r H H1) (hle : jLe G G1) (hN : jNk ks G G1) (hk : ks.contains 11 = true) (hr : ∃ x y m : Nat, jf (dC, dI) 11 r 4 (.ref x) H1 ∧ jf (dC, dI) 11 r 5 (.ref y) H1 ∧ G1 x = some (101, m) ∧ G1 y = some (313, m) ∧ m ≤ 16) : jSef dC dI G1 H1 := fun a ha => by
  by_cases e : a = r
  · subst e; exact hr
  · have ha0 := hN a 11 0 ha hk
    obtain ⟨x, y, m, g1, g2, g3, g4, g5⟩ := h a ha0
    exact ⟨x, y, m, ho a 0 4 _ e ha0 g1, ho a 0 5 _ e ha0 g2, hle _ _ g3, hle _ _ g4, g5⟩
/-- a new state -/
theorem jSef.typ {dC : Nat → ClassId} {dI : Nat → Nat → Nat} {G : jT} {r n : Nat} {H : Heap} (h : jSef dC dI G H) (hn : ∀ t, G r ≠ some t) (hr : ∃ x y m : Nat, jf (dC, dI) 11 r 4 (.ref x) H ∧ jf (dC, dI) 11 r 5 (.ref y) H ∧ G x = some (101, m) ∧ G y = some (313, m) ∧ m ≤ 16) : jSef dC dI (va_up G r (some (11, n))) H := fun a ha => by
  have hle : jLe G (va_up G r (some (11, n))) := jLe.typ hn
  by_cases e : a = r
  · subst e
    obtain ⟨x, y, m, g1, g2, g3, g4, g5⟩ := hr
    exact ⟨x, y, m, g1, g2, hle _ _ g3, hle _ _ g4, g5⟩
  · rw [va_up_ne _ _ e] at ha
    obtain ⟨x, y, m, g1, g2, g3, g4, g5⟩ := h a ha
    exact ⟨x, y, m, g1, g2, hle _ _ g3, hle _ _ g4, g5⟩
-- the goals that are made are no null
abbrev jFg : List (Nat × Nat) := [(7, 9), (7, 10), (211, 0)]
def jFr (dC : Nat → ClassId) (dI : Nat → Nat → Nat) (ca : Nat → ClassId) (G : jT) (a : Nat) (H : Heap) : Prop := ∃ (c : Int32) (b : Nat) (f : Nat → Option Nat), G a = some (7, 0) ∧ G b = some (211, 6) ∧ jf (dC, dI) 7 a 10 (.int c) H ∧ jf (dC, dI) 7 a 9 (.ref b) H ∧ jQc dC dI (ca 7) b 6 f H ∧ ∀ i : Nat, i < 6 → (i : Int) < c.toInt → f i ≠ none
theorem jFr.ie {dC : Nat → ClassId} {dI : Nat → Nat → Nat} {ca : Nat → ClassId} {G : jT} {a : Nat} {H : Heap} (h : jFr dC dI ca G a H) : ((jFg, jFr dC dI ca G a) : jIv).2 H ∧ ∀ H1 H2 : Heap, jAg (dC, dI) G ((jFg, jFr dC dI ca G a) : jIv).1 H1 H2 → ((jFg, jFr dC dI ca G a) : jIv).2 H1 → ((jFg, jFr dC dI ca G a) : jIv).2 H2 :=
  ⟨h, fun H1 H2 hA h1 => by
    obtain ⟨c, b, f, g1, g2, g3, g4, g5, g6⟩ := h1
    have hq1 : va_at (dC, dI) vwCl (b, .inl (ca 7, 6, .inr (.inr (.inr (.inr f))))) H1 := g5
    exact ⟨c, b, f, g1, g2, hA.1 a 7 0 10 _ g1 rfl g3, hA.1 a 7 0 9 _ g1 rfl g4, va_at.kept hq1 (hA.2 b 211 6 g2 (by decide) (by decide) rfl), g6⟩⟩
theorem jFr.grow {dC : Nat → ClassId} {dI : Nat → Nat → Nat} {ca : Nat → ClassId} {G G1 : jT} {a : Nat} {H : Heap} (h : jFr dC dI ca G a H) (hle : jLe G G1) : jFr dC dI ca G1 a H := by
  obtain ⟨c, b, f, g1, g2, g3⟩ := h
  exact ⟨c, b, f, hle _ _ g1, hle _ _ g2, g3⟩
def jFrc (f : Nat → Option Nat) (c : Int) : Prop := ∀ i : Nat, i < 6 → (i : Int) < c → f i ≠ none
theorem jFrc.put {f f1 : Nat → Option Nat} {c c1 x : Int} {v : Nat} (h : jFrc f c) (hc : c1 = c + 1) (hx : x = c) (h0 : 0 ≤ c) (hv : f1 x.toNat = some v) (ho : ∀ j, j < 6 → j ≠ x.toNat → f1 j = f j) : jFrc f1 c1 := fun i h6 hi => by
  by_cases e : i = x.toNat
  · subst e; rw [hv]; exact fun q => by cases q
  · rw [ho i h6 e]; exact h i h6 (by omega)
theorem jFrc.full {f : Nat → Option Nat} {c c1 : Int} (h : jFrc f c) (hc : 6 ≤ c) : jFrc f c1 := fun i h6 _ => h i h6 (by omega)

theorem jUpN {f : Nat → Option Nat} {i j : Nat} (h : j = i) : va_up f i none j = none := by subst h; simp [va_up]
-- goals that fit
def jGq (G : jT) (f : Nat → Option Nat) (i : Int) : Prop := ∀ j : Nat, (j : Int) < i → jQg G (f j)
theorem jGq.zero {G : jT} {f : Nat → Option Nat} {i : Int} (h : i ≤ 0) : jGq G f i := fun j hj => by omega
theorem jGq.put {G : jT} {f : Nat → Option Nat} {i i1 x : Int} {v m : Nat} (h : jGq G f i) (hi : i1 = i + 1) (hx : x = i) (h0 : 0 ≤ i) (hg : G v = some (5, m)) (hm : m % 10 = 1) : jGq G (va_up f x.toNat (some v)) i1 := fun j hj => by
  subst hx
  by_cases e : j = x.toNat
  · subst e; exact ⟨v, m, by simp [va_up], hg, hm⟩
  · rw [va_up_ne _ _ e]; exact h j (by omega)
theorem jGq.all {G G1 : jT} {f : Nat → Option Nat} {i : Int} {n : Nat} (h : jGq G f i) (hn : (n : Int) ≤ i) (hle : jLe G G1) : ∀ j, j < n → jQg G1 (f j) := fun j hj => by
  obtain ⟨x, m, q1, q2, q3⟩ := h j (by omega)
  exact ⟨x, m, q1, hle _ _ q2, q3⟩
