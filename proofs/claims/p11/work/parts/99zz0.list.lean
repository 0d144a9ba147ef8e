-- lists: arrays of Object, the interface's calls
def jLcs (C : String) (U : State) : Prop := va_Nw (.castable C "java/lang/Object") U ∧ va_Nw (.castable C C) U
def jFw (n d : String) (y : MethodName) (U : State) : Prop := va_Fw "java/util/ArrayList" ⟨"java/util/List", n, d⟩ y U
theorem jFw.moved {n d : String} {y : MethodName} {u U : State} (hvm : u.vm.Alike U.vm) (h : jFw n d y u) : jFw n d y U := va_Fw.moved ⟨show "java/util/List" ≠ "java/lang/invoke/MethodHandle" by decide, show "java/util/List" ≠ "java/lang/invoke/VarHandle" by decide⟩ hvm h
def jK7 (dC : Nat → ClassId) (dI : Nat → Nat → Nat) (ca : Nat → ClassId) (base : Nat) (U : State) : Prop :=
  va_K (dC, dI) vwCl [(ca 9, .object "java/lang/Object")] U ∧ va_AO "java/lang/Object" U ∧ (jLcs "ProofServer$Document" U ∧ jLcs "ProofServer$Request" U ∧ jLcs "ProofServer$State" U)
  ∧ va_Mi "[Ljava/lang/Object;" (dI 99 1) U ∧ va_Dc U ∧ (jFw "size" "()I" yJx4a65c_size_8abf5 U ∧ jFw "get" "(I)Ljava/lang/Object;" yJx4a65c_get_915e3 U ∧ jFw "add" "(Ljava/lang/Object;)Z" yJx4a65c_add_9ea2d U ∧ jFw "remove" "(I)Ljava/lang/Object;" yJx4a65c_remove_915e3 U)
  ∧ va_Z "java/util/ArrayList" "DEFAULTCAPACITY_EMPTY_ELEMENTDATA" "[Ljava/lang/Object;" (.ref (dI 99 0)) (jA base) U U.heap ∧ va_T (.object "java/lang/Object") (dI 99 0) 0 (fun _ => .null) (jA base) U U.heap
theorem jLcs.warm {C : String} {s U : State} (hW : s.WarmedH U.vm) (h : jLcs C s) : jLcs C U := ⟨va_Nw.warmC hW h.1, va_Nw.warmC hW h.2⟩
theorem jLcs.same {C : String} {s U : State} (hv : s.vm = U.vm) (h : jLcs C s) : jLcs C U := ⟨va_Nw.same rfl hv h.1, va_Nw.same rfl hv h.2⟩
theorem jK7.step {dC : Nat → ClassId} {dI : Nat → Nat → Nat} {ca : Nat → ClassId} {base : Nat} {s U : State} {H : Heap} {locs : List Loc} (h : jK7 dC dI ca base s) (hW : s.WarmedH U.vm) (hU : U.heap = H) (hS : va_S (jA base) s.heap H locs) : jK7 dC dI ca base U := by
  obtain ⟨h1, h2, h3, h4, h5, h8, h6, h7⟩ := h
  have hq : ∀ a : Nat, a < s.heap.size → ¬ jA base a → U.heap[a]? = s.heap[a]? := fun a ha hn => by rw [hU]; exact hS.2.1 a ha hn
  exact ⟨va_K.moved hW.alike h1, va_AO.moved hW.alike h2, ⟨h3.1.warm hW, h3.2.1.warm hW, h3.2.2.warm hW⟩, h4.moved hW.alike, h5.moved hW.alike, ⟨h8.1.moved hW.alike, h8.2.1.moved hW.alike, h8.2.2.1.moved hW.alike, h8.2.2.2.moved hW.alike⟩, (h6.moved hW.alike).kept hq, (h7.moved hW.alike).kept hq⟩
theorem jK7.calling {dC : Nat → ClassId} {dI : Nat → Nat → Nat} {ca : Nat → ClassId} {base : Nat} {U : State} (g : JFrame) (mk : MethodId) (a : Array Value) (h : jK7 dC dI ca base U) : jK7 dC dI ca base (U.calling g mk a) := by
  obtain ⟨h1, h2, h3, h4, h5, h8, h6, h7⟩ := h
  have hv : U.vm.Alike (U.calling g mk a).vm := Vm.Alike.refl U.vm
  exact ⟨va_K.moved hv h1, va_AO.moved hv h2, ⟨h3.1.same rfl, h3.2.1.same rfl, h3.2.2.same rfl⟩, h4.moved hv, h5.moved hv, ⟨h8.1.moved hv, h8.2.1.moved hv, h8.2.2.1.moved hv, h8.2.2.2.moved hv⟩, h6.moved hv, h7.moved hv⟩
theorem jgF {h : Cond} {own C : String} {idx : Nat} {x y : MethodName} {c : ByteArray} {n : Nat} {r : Option FieldType} (h1 : Cond.methodLink own idx x ∈ jWl) (h2 : Cond.selects C x y ∈ jWl) (h3 : Cond.instanceMethod y ∈ jWl) (h4 : Cond.initialized y.cls ∈ jWl) (hc : Cond.code y c n r ∈ jWl) : GoodIn (h :: jWl) (va_wsF own idx C x y (jw y c n r)) :=
  jgL (fun w hw => by
    rcases List.mem_cons.mp hw with e | hw
    · rw [e]; exact h1
    rcases List.mem_cons.mp hw with e | hw
    · rw [e]; exact h2
    rcases List.mem_cons.mp hw with e | hw
    · rw [e]; exact h3
    rw [List.mem_singleton.mp hw]; exact h4) (jgW hc)
theorem j_callFx {p : Program} {l : Launch} {e : Env} {R : Room} {s : State} {m : MethodId} {args : Array Value} {below : List Frame} {meth : Method} {c : Code} {H : Heap} {locs : List Loc} {cells slots : Nat} {Q : State → Prop} {pc : Nat} {ls : Array Slot} {rest st0 : List Value} {a : Array Value} {A0 A1 : Nat → Prop} {H0 : Heap} {mc ms : Nat} {free : Addr → Prop} {S : Type} {post : Value → S → Prop} {B : S → State → Prop} (hr : va_Run5 p l e R s m args below meth c H locs cells slots mc ms (F0 m pc ls st0) rest (jQx post B A1 a) free) (hS : va_S A0 H0 H locs) (hA : ∀ q, q < H.size → A1 q → A0 q) (hf : ∀ q, free q → A0 q)
    (kk : ∀ (r : Value) (u : S) (t : State) (H1 : Heap) (locs1 : List Loc), t.heap = H1 → s.vm.Alike t.vm → post r u → B u t → H.size ≤ H1.size → (∀ q : Nat, q < H.size → ¬ A1 q → H1[q]? = H[q]?) → va_S A0 H0 H1 locs1 → W p l e R s m args below meth c H1 locs1 (cells + mc) (slots + ms) Q (F0 m (pc + 5) ls (r :: rest))) : W p l e R s m args below meth c H locs cells slots Q (F0 m pc ls st0) := by
  intro T hT X
  obtain ⟨v, st₀, t, T', L, h0, X', hL, e1, e2, ⟨⟨r, u, hv, hp, hb⟩, hz, hk⟩, st⟩ := hr T hT X
  cases hv
  rw [h0] at hz hk
  obtain ⟨t2, a1, b1⟩ := kk r u t T'.heap (locs ++ L) e1.symm (by rw [← e2]; exact X'.warmed.alike) hp hb (by rw [e1]; exact hz) (fun q h1 h2 => by rw [e1]; exact hk q h1 h2)
    ⟨Nat.le_trans hS.1 (by rw [e1]; exact hz), fun q h1 h2 => by rw [e1, hk q (Nat.lt_of_lt_of_le h1 hS.1) (fun z => h2 (hA q (Nat.lt_of_lt_of_le h1 hS.1) z))]; exact hS.2.1 q h1 h2, fun q hq => by
      rcases List.mem_append.mp hq with h | h
      · exact hS.2.2 q h
      · exact hf _ (hL q h)⟩ T' rfl X'
  exact ⟨t2, st t2 a1, b1⟩
section J32
variable {p : Program} {l : Launch} {e : Env} {R : Room} {s : State} {m : MethodId} {args : Array Value} {below : List Frame} {meth : Method} {c : Code} {H : Heap} {locs : List Loc} {cells slots : Nat} {Q : State → Prop}
variable {cc : ByteArray} {pc : Nat} {ls : Array Slot} {rest : List Value} {dC : Nat → ClassId} {dI : Nat → Nat → Nat} {ca : Nat → ClassId} {B : jF} {base : Nat} {G0 G : jT} {E : List (Nat × Nat)} {H0 : Heap} {zc zs : Nat} {L : List jPin} {M : List jCt} {I : List jIv} {a a0 k k0 n n0 index : Nat} {tys tys0 : List (ClassId × FieldType)} {own C CE : String} {cA : ClassId}
/-- an object into an array of a wider class, its contents known -/
theorem j7_qastO {P : jT → Option Nat → Prop} (hexec : p.tables.exec = Jvm.exec) (hb : c.code = cc) (hK0 : va_K (dC, dI) vwCl tys0 s) (hK : va_K (dC, dI) vwCl tys s) (hh : jSt (dC, dI) B base G0 G E H0 zc zs L M I H locs) (hB : jBok B) (hBk : ∀ n G a H, B k n G a H ↔ jAq (dC, dI) cA P n G a H) (t0 : Nat) (ht : tys[t0]? = some (cA, .object CE)) (hk : k < 1000) (hk2 : 17 ≤ k) (hE : E.contains (k, 0) = true) (hM : M.all (fun q => !(q.2.1 == k)) = true) (hI : I.all (fun q => !(q.1.contains (k, 0))) = true) (ha : G a = some (k, n)) {i : Int32} {x : Int} (hi : i.toInt = x) (h12 : 0 ≤ x ∧ x < n)
    {v kv nv N : Nat} {T : u_T} {F : Nat → jT → List (Value → Prop)} (hBv : ∀ n G a H, B kv n G a H ↔ jOb (dC, dI) kv N (F n G) a H) (hc : vwCl[kv]? = some (C, T, N)) (hkv : kv < 1000) (hv : G v = some (kv, nv)) (hca : va_Nw (.castable C CE) s) (hP : P G (some v)) {f0 : Nat → Option Nat} {cB : ClassId} (hq0 : jQc dC dI cB a n f0 H) (hdg : decode cc pc = .ok (.aastore, 1))
    (kk : ∀ (H1 : Heap) (locs1 : List Loc) (g : Nat → Option Nat), g x.toNat = (some v) → (∀ j, j < n → j ≠ x.toNat → g j = f0 j) → jQc dC dI cA a n g H1 → (∀ q, q ≠ a → H1[q]? = H[q]?) → jSt (dC, dI) B base G0 G E H0 zc zs L M I H1 locs1 → W p l e R s m args below meth c H1 locs1 cells slots Q (F0 m (pc + 1) ls rest)) : W p l e R s m args below meth c H locs cells slots Q (F0 m pc ls (.ref v :: .int i :: .ref a :: rest)) := by
  obtain ⟨h1, h2⟩ := h12
  obtain ⟨f, g1, g2⟩ := hh.aq hBk hk ha
  obtain ⟨V, ⟨cellV, q1, q2, q3, q4⟩, hV⟩ := (hBv _ _ _ _).mp (hh.2.1.1 v kv nv hv hkv (fun h => by cases h))
  have hlt := jb_cl_lt hi h1 h2
  have hcl := jb_cl hi h1
  have hcls := (hK0.1 kv _ hc).2
  obtain ⟨kA, comp, k1, k2, k3, -⟩ := (hK.2 t0 _ ht).2
  obtain ⟨kE, hkE, -⟩ := Vm.findClass_spec k3
  obtain ⟨c0, t1, f1, f2, f3⟩ := Cond.castable_spec (va_Nw.use (A := args) rfl hca)
  cases hcls.1.symm.trans f1
  cases k3.symm.trans f2
  obtain ⟨kC, hkC, -⟩ := hcls.2
  have hff : ∀ j, j < n → f j = f0 j := fun j hj => jQc_eq g1 hq0 hj
  refine W.aast hexec hb g1 (fun q h => by cases h) (fun h => by cases h) k1 k2 rfl hkE ⟨jb_n0 hi h1, by show _ < (arrV _ _ _).slots.size; rw [arrV_size]; exact hlt⟩ q1 (fun q h => by rw [q3] at h; cases h) (by rw [q2]; exact hkC) (by rw [q2]; exact f3) rfl rfl hdg fun H1 e1 z oq => ?_
  have ha1 : H1[a]? = some (vp_cell cA (n, .inr (.inr (.inr (.inr (va_up f x.toNat (some v))))))) := by
    rw [e1, vp_cell_q, vp_cell_q, arrV_store, hcl]
    congr 2
    funext q
    by_cases hq : q = x.toNat
    · subst hq
      simp [updV, va_up, va_rf]
    · simp [updV, va_up, hq]
  refine kk H1 _ (va_up f x.toNat (some v)) (by simp [va_up]) (fun j hj hne => by rw [va_up_ne _ _ hne]; exact hff j hj) ha1 oq (hh.arr hB ha hk hk2 hE hM hI z oq (jTot_set z g1 e1 (jSet_sz _ _ _) oq) (fun q hq => ?_) ((hBk _ _ _ _).mpr ⟨va_up f x.toNat (some v), ha1, jAq_up g2 hP⟩))
  rcases List.mem_append.mp hq with h | h
  · exact hh.1.2.2 q h
  · cases List.mem_singleton.mp h; exact (hh.ab ha).1
/-- null into such an array -/
theorem j7_qastNO {P : jT → Option Nat → Prop} (hexec : p.tables.exec = Jvm.exec) (hb : c.code = cc) (hK : va_K (dC, dI) vwCl tys s) (hh : jSt (dC, dI) B base G0 G E H0 zc zs L M I H locs) (hB : jBok B) (hBk : ∀ n G a H, B k n G a H ↔ jAq (dC, dI) cA P n G a H) (t0 : Nat) (ht : tys[t0]? = some (cA, .object C)) (hk : k < 1000) (hk2 : 17 ≤ k) (hE : E.contains (k, 0) = true) (hM : M.all (fun q => !(q.2.1 == k)) = true) (hI : I.all (fun q => !(q.1.contains (k, 0))) = true) (ha : G a = some (k, n)) {i : Int32} {x : Int} (hi : i.toInt = x) (h12 : 0 ≤ x ∧ x < n) (hP : P G none) {f0 : Nat → Option Nat} {cB : ClassId} (hq0 : jQc dC dI cB a n f0 H) (hdg : decode cc pc = .ok (.aastore, 1))
    (kk : ∀ (H1 : Heap) (locs1 : List Loc) (g : Nat → Option Nat), g x.toNat = none → (∀ j, j < n → j ≠ x.toNat → g j = f0 j) → jQc dC dI cA a n g H1 → (∀ q, q ≠ a → H1[q]? = H[q]?) → jSt (dC, dI) B base G0 G E H0 zc zs L M I H1 locs1 → W p l e R s m args below meth c H1 locs1 cells slots Q (F0 m (pc + 1) ls rest)) : W p l e R s m args below meth c H locs cells slots Q (F0 m pc ls (.null :: .int i :: .ref a :: rest)) := by
  obtain ⟨h1, h2⟩ := h12
  obtain ⟨f, g1, g2⟩ := hh.aq hBk hk ha
  have hcl := jb_cl hi h1
  refine va_WaastN (C := C) hexec hb g1 ((hK.2 t0 _ ht).1 n (fun j => va_rf (f j))) (fun h => by cases h) (by show ¬ (i < 0 ∨ (arrV _ _ _).slots.size ≤ _); rw [arrV_size]; exact jb_in hi h1 h2) rfl rfl hdg fun H1 e1 z oq => ?_
  have hat : jQc dC dI cA a n (va_up f x.toNat none) H1 := by
    show H1[a]? = some (vp_cell _ _)
    rw [e1, vp_cell_q, vp_cell_q, arrV_store, hcl]
    congr 2
    funext q
    by_cases hq : q = x.toNat
    · subst hq
      simp [updV, va_up, va_rf]
    · simp [updV, va_up, hq]
  refine kk H1 _ (va_up f x.toNat none) (by simp [va_up]) (fun j hj hne => by rw [va_up_ne _ _ hne]; exact jQc_eq g1 hq0 hj) hat oq (hh.arr hB ha hk hk2 hE hM hI z oq (jTot_set z g1 e1 (jSet_sz _ _ _) oq) (fun q hq => ?_) ((hBk _ _ _ _).mpr ⟨_, hat, jAq_up g2 hP⟩))
  rcases List.mem_append.mp hq with h | h
  · exact hh.1.2.2 q h
  · cases List.mem_singleton.mp h; exact (hh.ab ha).1
/-- System.arraycopy of objects of one kind, the arrays' contents known -/
theorem j7_qcopy {kv nv N : Nat} {T : u_T} {F : Nat → jT → List (Value → Prop)} {f g : Nat → Option Nat} {cB cB1 : ClassId} (hexec : p.tables.exec = Jvm.exec) (hb : c.code = cc) (hml : c.maxLocals = ls.size) (hown : s.vm.findClass own = some m.cls) (hlink : (Cond.methodLink own index arraycopyName).before args s = true) (hnat : (Cond.native arraycopyName).before args s = true) (hstat : (Cond.static arraycopyName).before args s = true) (hini : (Cond.initialized "java/lang/System").before args s = true)
    (hK0 : va_K (dC, dI) vwCl tys0 s) (hK : va_K (dC, dI) vwCl tys s) (hh : jSt (dC, dI) B base G0 G E H0 zc zs L M I H locs) (hB : jBok B) (hBk : ∀ n G a H, B k n G a H ↔ jAq (dC, dI) cA (jQn kv nv) n G a H) (t0 : Nat) (ht : tys[t0]? = some (cA, .object CE)) (hk : k < 1000) (hk2 : 17 ≤ k) (hE : E.contains (k, 0) = true) (hM : M.all (fun q => !(q.2.1 == k)) = true) (hI : I.all (fun q => !(q.1.contains (k, 0))) = true) (ha0 : G a0 = some (k, n0)) (ha : G a = some (k, n)) (hq0 : jQc dC dI cB a0 n0 f H) (hq1 : jQc dC dI cB1 a n g H)
    (hBv : ∀ n G a H, B kv n G a H ↔ jOb (dC, dI) kv N (F n G) a H) (hc : vwCl[kv]? = some (C, T, N)) (hkv : kv < 1000) (hca : va_Nw (.castable C CE) s)
    {sp dp w : Int32} {x y z : Int} (hx : sp.toInt = x) (hy : dp.toInt = y) (hz : w.toInt = z) (h1 : 0 ≤ x ∧ 0 ≤ y ∧ 0 ≤ z ∧ x + z ≤ n0 ∧ y + z ≤ n)
    (hframes : 1 ≤ R.frames) (hlocals : (rest.map fun v => v.category).sum + (nativeFrameWords "java/lang/System" "arraycopy" 5 + 11) ≤ R.locals) (hdg : decode cc pc = .ok (.invokestatic index, 3))
    (kk : ∀ (H1 : Heap) (locs1 : List Loc) (g1 : Nat → Option Nat), (∀ j, j < n → g1 j = if y.toNat ≤ j ∧ j < y.toNat + z.toNat then f (x.toNat + (j - y.toNat)) else g j) → jQc dC dI cA a n g1 H1 → (∀ q, q ≠ a → H1[q]? = H[q]?) → jSt (dC, dI) B base G0 G E H0 zc zs L M I H1 locs1 → W p l e R s m args below meth c H1 locs1 cells slots Q (F0 m (pc + 3) ls rest)) : W p l e R s m args below meth c H locs cells slots Q (F0 m pc ls (.int w :: .int dp :: .ref a :: .int sp :: .ref a0 :: rest)) := by
  obtain ⟨q1, q2, q3, q4, q5⟩ := h1
  obtain ⟨f', f1, f2⟩ := hh.aq hBk hk ha0
  obtain ⟨g', g1, g2⟩ := hh.aq hBk hk ha
  have s0 : ¬ sp < 0 := jb_n0 hx q1
  have d0 : ¬ dp < 0 := jb_n0 hy q2
  have w0 : ¬ w < 0 := jb_n0 hz q3
  have es : sp.toNatClampNeg = x.toNat := jb_cl hx q1
  have ed : dp.toNatClampNeg = y.toNat := jb_cl hy q2
  have ew : w.toNatClampNeg = z.toNat := jb_cl hz q3
  have h4 : sp.toNatClampNeg + w.toNatClampNeg ≤ n0 := by rw [es, ew]; omega
  have c0 : H[a0]? = some (vp_cell cA (n0, .inr (.inr (.inr (.inr f'))))) := f1
  have c1 : H[a]? = some (vp_cell cA (n, .inr (.inr (.inr (.inr g'))))) := g1
  have hcls := (hK0.1 kv _ hc).2
  intro T hT X
  obtain ⟨-, k9, hk9, cm9, hkk9⟩ := (hK.2 t0 _ ht).1 n0 (fun j => va_rf (f' j))
  obtain ⟨-, k8, hk8, cm8, hkk8⟩ := (hK.2 t0 _ ht).1 n (fun j => va_rf (g' j))
  obtain ⟨vm', X', step⟩ := X.arraycopy hexec hown hlink hnat hstat hini (src := a0) (dst := a) (cs := vp_cell cA (n0, .inr (.inr (.inr (.inr f'))))) (cd := vp_cell cA (n, .inr (.inr (.inr (.inr g'))))) (srcPos := sp) (destPos := dp) (n := w) (by rw [hT]; exact c0) (by rw [hT]; exact c1)
    (fun _ h => by cases h) (fun _ h => by cases h) (fun h => by cases h) (fun h => by cases h) hk9 hk8 hkk9 hkk8 rfl s0 d0 w0
    (by rw [hx, hz]; show ¬ _ > ((arrV cA n0 (fun j => va_rf (f' j))).slots.size : Int); rw [arrV_size]; omega)
    (by rw [hy, hz]; show ¬ _ > ((arrV cA n (fun j => va_rf (g' j))).slots.size : Int); rw [arrV_size]; omega)
    (fun vm₁ hal i hi => by
      have e9 : (vp_cell cA (n0, .inr (.inr (.inr (.inr f'))))).slots.getD (sp.toNatClampNeg + i) .null = va_rf (f' (sp.toNatClampNeg + i)) := by
        show (arrV cA n0 (fun j => va_rf (f' j))).slots.getD _ _ = _
        rw [Array.getD_eq_getD_getElem?, arrV_read _ _ (by omega)]
        rfl
      rw [e9]
      cases hy9 : f' (sp.toNatClampNeg + i) with
      | none => exact ⟨rfl, trivial⟩
      | some y9 =>
        have hp9 := f2 (sp.toNatClampNeg + i) (by omega)
        rw [hy9] at hp9
        rcases hp9 with hp9 | ⟨x9, e8, hg9⟩
        · cases hp9
        · cases e8
          obtain ⟨V9, ⟨cellV, r1, r2, r3, r4⟩, -⟩ := (hBv _ _ _ _).mp (hh.2.1.1 y9 kv nv hg9 hkv (fun h => by cases h))
          obtain ⟨kA, comp, k1, k2, k3, -⟩ := (hK.2 t0 _ ht).2
          cases hk8.symm.trans k1
          cases hkk8.symm.trans k2
          obtain ⟨kE, hkE, -⟩ := Vm.findClass_spec k3
          obtain ⟨kC, hkC, -⟩ := hcls.2
          obtain ⟨kC', hkC', -⟩ := hal.2.2 _ _ hkC
          obtain ⟨kE', hkE', -⟩ := hal.2.2 _ _ hkE
          obtain ⟨c7, t7, w1, w2, w3⟩ := Cond.castable_spec (va_Nw.use (A := args) rfl hca)
          cases hcls.1.symm.trans w1
          cases k3.symm.trans w2
          refine ⟨rfl, cellV, (show T.heap[y9]? = some cellV by rw [hT]; exact r1), (fun q h => by rw [r3] at h; cases h), ⟨kC', by rw [r2]; exact hkC'⟩, ?_, ?_⟩
          · exact ⟨kE', hkE'⟩
          · show vm₁.assignable _ _ = true
            rw [hal.assignable, r2]
            exact w3)
    (g := F0 m pc ls (.int w :: .int dp :: .ref a :: .int sp :: .ref a0 :: rest)) rfl (by rw [hml]) (rest := rest) rfl (by rw [hb]; exact hdg) hframes (by show 2 * 0 + _ + _ ≤ _; omega)
  have e1 : copied (vp_cell cA (n0, .inr (.inr (.inr (.inr f'))))) (vp_cell cA (n, .inr (.inr (.inr (.inr g'))))) sp dp w = vp_cell cA (n, .inr (.inr (.inr (.inr (va_cpy f' g' sp.toNatClampNeg dp.toNatClampNeg w.toNatClampNeg))))) := by
    rw [vp_cell_q, vp_cell_q, vp_cell_q]
    exact va_copied (fun z => va_rf z) cA cA f' g' h4
  rw [e1] at X' step
  have hl : a < H.size := (Array.getElem?_eq_some_iff.mp c1).1
  generalize hcp : va_cpy f' g' sp.toNatClampNeg dp.toNatClampNeg w.toNatClampNeg = gn at X' step
  have hheap : ((T.setVm vm').setCell a (vp_cell cA (n, .inr (.inr (.inr (.inr gn)))))).heap = H.setIfInBounds a (vp_cell cA (n, .inr (.inr (.inr (.inr gn))))) := by rw [← hT]; rfl
  have oq : ∀ q : Nat, q ≠ a → (H.setIfInBounds a (vp_cell cA (n, .inr (.inr (.inr (.inr gn))))))[q]? = H[q]? := fun q hq => by simp [Array.getElem?_setIfInBounds, Ne.symm hq]
  have ha1 : (H.setIfInBounds a (vp_cell cA (n, .inr (.inr (.inr (.inr gn))))))[a]? = some (vp_cell cA (n, .inr (.inr (.inr (.inr gn))))) := by simp [Array.getElem?_setIfInBounds, hl]
  have hsz : (H.setIfInBounds a (vp_cell cA (n, .inr (.inr (.inr (.inr gn)))))).size = H.size := by simp
  have hgn : ∀ j, j < n → gn j = if y.toNat ≤ j ∧ j < y.toNat + z.toNat then f (x.toNat + (j - y.toNat)) else g j := fun j hj => by
    rw [← hcp]
    unfold va_cpy
    rw [es, ed, ew]
    split
    · rename_i hc9
      exact jQc_eq f1 hq0 (by omega)
    · exact jQc_eq g1 hq1 hj
  have hPn : ∀ j, j < n → jQn kv nv G (gn j) := fun j hj => by
    rw [← hcp]
    unfold va_cpy
    split
    · rename_i hc9
      exact f2 _ (by omega)
    · exact g2 j hj
  obtain ⟨t, a1, b1⟩ := kk _ _ gn hgn ha1 oq (hh.arr hB ha hk hk2 hE hM hI hsz oq (jTot_set hsz c1 ha1 (by rw [vp_cell_q, vp_cell_q, arrV_size, arrV_size]) oq) (fun q hq => by
      rcases List.mem_append.mp hq with h | h
      · exact hh.1.2.2 q h
      · obtain ⟨z9, -, hz9⟩ := List.mem_map.mp h
        rw [← hz9]
        exact (hh.ab ha).1) ((hBk _ _ _ _).mpr ⟨gn, ha1, hPn⟩)) _ hheap X'
  exact ⟨t, step t a1, b1⟩
theorem j7_qcopyR {kv nv N : Nat} {T : u_T} {F : Nat → jT → List (Value → Prop)} {f g : Nat → Option Nat} {cB : ClassId} (hexec : p.tables.exec = Jvm.exec) (hb : c.code = cc) (hml : c.maxLocals = ls.size) (hown : s.vm.findClass own = some m.cls) (hlink : (Cond.methodLink own index arraycopyName).before args s = true) (hnat : (Cond.native arraycopyName).before args s = true) (hstat : (Cond.static arraycopyName).before args s = true) (hini : (Cond.initialized "java/lang/System").before args s = true)
    (hK0 : va_K (dC, dI) vwCl tys0 s) (hK : va_K (dC, dI) vwCl tys s) (hh : jSt (dC, dI) B base G0 G E H0 zc zs L M I H locs) (hB : jBok B) (hBk : ∀ n G a H, B k n G a H ↔ jAq (dC, dI) cA (jQn kv nv) n G a H) (t0 : Nat) (ht : tys[t0]? = some (cA, .object CE)) (hk : k < 1000) (ha0 : G a0 = some (k, n0)) (hq0 : jQc dC dI cB a0 n0 f H) (hraw : va_at (dC, dI) vwCl (a, .inl (cA, n, .inr (.inr (.inr (.inr g))))) H) (hnr : ∀ t, G a ≠ some t) (hba : base ≤ a)
    (hBv : ∀ n G a H, B kv n G a H ↔ jOb (dC, dI) kv N (F n G) a H) (hc : vwCl[kv]? = some (C, T, N)) (hkv : kv < 1000) (hca : va_Nw (.castable C CE) s)
    {sp dp w : Int32} {x y z : Int} (hx : sp.toInt = x) (hy : dp.toInt = y) (hz : w.toInt = z) (h1 : 0 ≤ x ∧ 0 ≤ y ∧ 0 ≤ z ∧ x + z ≤ n0 ∧ y + z ≤ n)
    (hframes : 1 ≤ R.frames) (hlocals : (rest.map fun v => v.category).sum + (nativeFrameWords "java/lang/System" "arraycopy" 5 + 11) ≤ R.locals) (hdg : decode cc pc = .ok (.invokestatic index, 3))
    (kk : ∀ (H1 : Heap) (locs1 : List Loc) (g1 : Nat → Option Nat), (∀ j, j < n → g1 j = if y.toNat ≤ j ∧ j < y.toNat + z.toNat then f (x.toNat + (j - y.toNat)) else g j) → ((∀ j, j < n → jQn kv nv G (g j)) → ∀ j, j < n → jQn kv nv G (g1 j)) → va_at (dC, dI) vwCl (a, .inl (cA, n, .inr (.inr (.inr (.inr g1))))) H1 → (∀ q, q ≠ a → H1[q]? = H[q]?) → jSt (dC, dI) B base G0 G E H0 zc zs L M I H1 locs1 → W p l e R s m args below meth c H1 locs1 cells slots Q (F0 m (pc + 3) ls rest)) : W p l e R s m args below meth c H locs cells slots Q (F0 m pc ls (.int w :: .int dp :: .ref a :: .int sp :: .ref a0 :: rest)) := by
  obtain ⟨q1, q2, q3, q4, q5⟩ := h1
  obtain ⟨f', f1, f2⟩ := hh.aq hBk hk ha0
  have g1 := hraw
  have s0 : ¬ sp < 0 := jb_n0 hx q1
  have d0 : ¬ dp < 0 := jb_n0 hy q2
  have w0 : ¬ w < 0 := jb_n0 hz q3
  have es : sp.toNatClampNeg = x.toNat := jb_cl hx q1
  have ed : dp.toNatClampNeg = y.toNat := jb_cl hy q2
  have ew : w.toNatClampNeg = z.toNat := jb_cl hz q3
  have h4 : sp.toNatClampNeg + w.toNatClampNeg ≤ n0 := by rw [es, ew]; omega
  have c0 : H[a0]? = some (vp_cell cA (n0, .inr (.inr (.inr (.inr f'))))) := f1
  have c1 : H[a]? = some (vp_cell cA (n, .inr (.inr (.inr (.inr g))))) := g1
  have hcls := (hK0.1 kv _ hc).2
  intro T hT X
  obtain ⟨-, k9, hk9, cm9, hkk9⟩ := (hK.2 t0 _ ht).1 n0 (fun j => va_rf (f' j))
  obtain ⟨-, k8, hk8, cm8, hkk8⟩ := (hK.2 t0 _ ht).1 n (fun j => va_rf (g j))
  obtain ⟨vm', X', step⟩ := X.arraycopy hexec hown hlink hnat hstat hini (src := a0) (dst := a) (cs := vp_cell cA (n0, .inr (.inr (.inr (.inr f'))))) (cd := vp_cell cA (n, .inr (.inr (.inr (.inr g))))) (srcPos := sp) (destPos := dp) (n := w) (by rw [hT]; exact c0) (by rw [hT]; exact c1)
    (fun _ h => by cases h) (fun _ h => by cases h) (fun h => by cases h) (fun h => by cases h) hk9 hk8 hkk9 hkk8 rfl s0 d0 w0
    (by rw [hx, hz]; show ¬ _ > ((arrV cA n0 (fun j => va_rf (f' j))).slots.size : Int); rw [arrV_size]; omega)
    (by rw [hy, hz]; show ¬ _ > ((arrV cA n (fun j => va_rf (g j))).slots.size : Int); rw [arrV_size]; omega)
    (fun vm₁ hal i hi => by
      have e9 : (vp_cell cA (n0, .inr (.inr (.inr (.inr f'))))).slots.getD (sp.toNatClampNeg + i) .null = va_rf (f' (sp.toNatClampNeg + i)) := by
        show (arrV cA n0 (fun j => va_rf (f' j))).slots.getD _ _ = _
        rw [Array.getD_eq_getD_getElem?, arrV_read _ _ (by omega)]
        rfl
      rw [e9]
      cases hy9 : f' (sp.toNatClampNeg + i) with
      | none => exact ⟨rfl, trivial⟩
      | some y9 =>
        have hp9 := f2 (sp.toNatClampNeg + i) (by omega)
        rw [hy9] at hp9
        rcases hp9 with hp9 | ⟨x9, e8, hg9⟩
        · cases hp9
        · cases e8
          obtain ⟨V9, ⟨cellV, r1, r2, r3, r4⟩, -⟩ := (hBv _ _ _ _).mp (hh.2.1.1 y9 kv nv hg9 hkv (fun h => by cases h))
          obtain ⟨kA, comp, k1, k2, k3, -⟩ := (hK.2 t0 _ ht).2
          cases hk8.symm.trans k1
          cases hkk8.symm.trans k2
          obtain ⟨kE, hkE, -⟩ := Vm.findClass_spec k3
          obtain ⟨kC, hkC, -⟩ := hcls.2
          obtain ⟨kC', hkC', -⟩ := hal.2.2 _ _ hkC
          obtain ⟨kE', hkE', -⟩ := hal.2.2 _ _ hkE
          obtain ⟨c7, t7, w1, w2, w3⟩ := Cond.castable_spec (va_Nw.use (A := args) rfl hca)
          cases hcls.1.symm.trans w1
          cases k3.symm.trans w2
          refine ⟨rfl, cellV, (show T.heap[y9]? = some cellV by rw [hT]; exact r1), (fun q h => by rw [r3] at h; cases h), ⟨kC', by rw [r2]; exact hkC'⟩, ?_, ?_⟩
          · exact ⟨kE', hkE'⟩
          · show vm₁.assignable _ _ = true
            rw [hal.assignable, r2]
            exact w3)
    (g := F0 m pc ls (.int w :: .int dp :: .ref a :: .int sp :: .ref a0 :: rest)) rfl (by rw [hml]) (rest := rest) rfl (by rw [hb]; exact hdg) hframes (by show 2 * 0 + _ + _ ≤ _; omega)
  have e1 : copied (vp_cell cA (n0, .inr (.inr (.inr (.inr f'))))) (vp_cell cA (n, .inr (.inr (.inr (.inr g))))) sp dp w = vp_cell cA (n, .inr (.inr (.inr (.inr (va_cpy f' g sp.toNatClampNeg dp.toNatClampNeg w.toNatClampNeg))))) := by
    rw [vp_cell_q, vp_cell_q, vp_cell_q]
    exact va_copied (fun z => va_rf z) cA cA f' g h4
  rw [e1] at X' step
  have hl : a < H.size := (Array.getElem?_eq_some_iff.mp c1).1
  generalize hcp : va_cpy f' g sp.toNatClampNeg dp.toNatClampNeg w.toNatClampNeg = gn at X' step
  have hheap : ((T.setVm vm').setCell a (vp_cell cA (n, .inr (.inr (.inr (.inr gn)))))).heap = H.setIfInBounds a (vp_cell cA (n, .inr (.inr (.inr (.inr gn))))) := by rw [← hT]; rfl
  have oq : ∀ q : Nat, q ≠ a → (H.setIfInBounds a (vp_cell cA (n, .inr (.inr (.inr (.inr gn))))))[q]? = H[q]? := fun q hq => by simp [Array.getElem?_setIfInBounds, Ne.symm hq]
  have ha1 : (H.setIfInBounds a (vp_cell cA (n, .inr (.inr (.inr (.inr gn))))))[a]? = some (vp_cell cA (n, .inr (.inr (.inr (.inr gn))))) := by simp [Array.getElem?_setIfInBounds, hl]
  have hsz : (H.setIfInBounds a (vp_cell cA (n, .inr (.inr (.inr (.inr gn)))))).size = H.size := by simp
  have hgn : ∀ j, j < n → gn j = if y.toNat ≤ j ∧ j < y.toNat + z.toNat then f (x.toNat + (j - y.toNat)) else g j := fun j hj => by
    rw [← hcp]
    unfold va_cpy
    rw [es, ed, ew]
    split
    · rename_i hc9
      exact jQc_eq f1 hq0 (by omega)
    · rfl
  have hPn : (∀ j, j < n → jQn kv nv G (g j)) → ∀ j, j < n → jQn kv nv G (gn j) := fun g2 j hj => by
    rw [← hcp]
    unfold va_cpy
    split
    · rename_i hc9
      exact f2 _ (by omega)
    · exact g2 j hj
  obtain ⟨t, a1, b1⟩ := kk _ _ gn hgn hPn ha1 oq (hh.rawput hB hnr hba hsz oq (jTot_set hsz c1 ha1 (by rw [vp_cell_q, vp_cell_q, arrV_size, arrV_size]) oq) (fun q hq => by
      rcases List.mem_append.mp hq with h | h
      · exact hh.1.2.2 q h
      · obtain ⟨z9, -, hz9⟩ := List.mem_map.mp h
        rw [← hz9]
        exact hba)) _ hheap X'
  exact ⟨t, step t a1, b1⟩
/-- the class of such an array -/
theorem j7_getC {P : jT → Option Nat → Prop} (hexec : p.tables.exec = Jvm.exec) (hb : c.code = cc) (hml : c.maxLocals = ls.size) (hown : s.vm.findClass own = some m.cls) (hlink : (Cond.methodLink own index ⟨"java/lang/Object", "getClass", "()Ljava/lang/Class;"⟩).before args s = true) (hsel : (Cond.selects "[Ljava/lang/Object;" ⟨"java/lang/Object", "getClass", "()Ljava/lang/Class;"⟩ ⟨"java/lang/Object", "getClass", "()Ljava/lang/Class;"⟩).before args s = true) (hinst : (Cond.instanceMethod ⟨"java/lang/Object", "getClass", "()Ljava/lang/Class;"⟩).before args s = true) (hnat : (Cond.native ⟨"java/lang/Object", "getClass", "()Ljava/lang/Class;"⟩).before args s = true)
    (hK7 : jK7 dC dI ca base s) (hh : jSt (dC, dI) B base G0 G E H0 zc zs L M I H locs) (hBk : ∀ n G a H, B k n G a H ↔ jAq (dC, dI) (ca 9) P n G a H) (hk : k < 1000) (ha : G a = some (k, n)) (hframes : 1 ≤ R.frames) (hlocals : (rest.map fun v => v.category).sum + 14 ≤ R.locals) (hdg : decode cc pc = .ok (.invokevirtual index, 3))
    (kk : W p l e R s m args below meth c H locs cells slots Q (F0 m (pc + 3) ls (.ref (dI 99 1) :: rest))) : W p l e R s m args below meth c H locs cells slots Q (F0 m pc ls (.ref a :: rest)) := by
  obtain ⟨f, g1, -⟩ := hh.aq hBk hk ha
  have c1 : H[a]? = some (vp_cell (ca 9) (n, .inr (.inr (.inr (.inr f))))) := g1
  exact va_getC hexec hb hml hown hlink (va_Dc.use hK7.2.2.2.2.1) hsel hinst hnat hK7.2.2.2.1 ⟨_, c1, rfl, va_nmO (hK7.1.2 0 _ rfl).2 (by decide)⟩ hframes hlocals hdg kk
end J32
theorem jQn.up {k n : Nat} {G G1 : jT} {o : Option Nat} (h : jQn k n G o) (hle : jLe G G1) : jQn k n G1 o := by
  rcases h with h | ⟨x, h1, h2⟩
  · exact Or.inl h
  · exact Or.inr ⟨x, h1, hle _ _ h2⟩
theorem jQz {f g g1 : Nat → Option Nat} {x y z : Int} {n n0 : Nat} (hc : ∀ j, j < n → g1 j = if y.toNat ≤ j ∧ j < y.toNat + z.toNat then f (x.toNat + (j - y.toNat)) else g j) (hx : x = 0) (hy : y = 0) (hz : z = n0) (hn : n0 ≤ n) : ∀ j, j < n0 → g1 j = f j := fun j hj => by
  rw [hc j (by omega), if_pos (by omega)]
  congr 1
  omega
