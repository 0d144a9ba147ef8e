theorem jK5.moved {dC : Nat → ClassId} {dI : Nat → Nat → Nat} {ca : Nat → ClassId} {u U : State} (hvm : u.vm.Alike U.vm) (h : jK5 dC dI ca u) : jK5 dC dI ca U := by
  obtain ⟨h1, ⟨kA, a1, a2⟩, ⟨k1, b1⟩, h4⟩ := h
  obtain ⟨kA', c1, c2⟩ := hvm.2.2 _ _ a1
  obtain ⟨k1', d1, -⟩ := hvm.2.2 _ _ b1
  refine ⟨va_K.moved hvm h1, ⟨kA', c1, by rw [c2]; exact a2⟩, ⟨k1', d1⟩, ?_⟩
  obtain ⟨comp, cl, k, e1, e2, e3, e4, e5⟩ := arrayOverA_spec h4
  obtain ⟨k', hk', he⟩ := hvm.2.2 _ _ e3
  have f0 : (U.vm.classes.findIdx? fun (x : Class) => match x.kind with | .array component _ => component == comp | _ => false) = some cl := by
    rw [hvm.findIdx?_eq _ (fun _ => rfl)]; exact e2
  have f1 : U.vm.findClass (FieldType.array .int).toString = some comp := by rw [hvm.findClass]; exact e1
  have f2 : U.vm.findClass ("[" ++ (FieldType.array .int).toString) = some cl := by rw [hvm.findClass]; exact e5
  have f3 : k'.kind = .array comp (.array .int) := by rw [he]; exact e4
  unfold Cond.before Cond.holds
  simp only [Cond.value]
  rw [f1, Option.bind_some]
  refine (congrArg (fun o : Option Nat => (o.bind (fun c => (U.vm.classes[c]?).map fun (k : Class) => match k.kind with | .array _ ty => decide (ty = FieldType.array .int) && decide (U.vm.findClass ("[" ++ (FieldType.array .int).toString) = some c) | _ => false) == some true)) f0).trans ?_
  simp [hk', f3, f2]
