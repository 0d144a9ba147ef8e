-- arrays of references
def jK2 (dC : Nat → ClassId) (dI : Nat → Nat → Nat) (ca : Nat → ClassId) (U : State) : Prop := va_K (dC, dI) vwCl [(ca 4, .object "ProofServerModel$Document"), (ca 5, .object "ProofServer$Document"), (ca 6, .object "ProofServer$State"), (ca 7, .object "ProofServer$Goal")] U
def jty2 (ca : Nat → ClassId) : List (ClassId × FieldType) := [(ca 4, .object "ProofServerModel$Document"), (ca 5, .object "ProofServer$Document"), (ca 6, .object "ProofServer$State"), (ca 7, .object "ProofServer$Goal")]
def jAq (D : va_G) (cA : ClassId) (P : jT → Option Nat → Prop) (n : Nat) (G : jT) (a : Nat) (H : Heap) : Prop := ∃ f : Nat → Option Nat, va_at D vwCl (a, .inl (cA, n, .inr (.inr (.inr (.inr f))))) H ∧ ∀ j, j < n → P G (f j)
def jQn (k n : Nat) (G : jT) : Option Nat → Prop := fun o => o = none ∨ ∃ x, o = some x ∧ G x = some (k, n)
def jQs (k n : Nat) (G : jT) : Option Nat → Prop := fun o => ∃ x, o = some x ∧ G x = some (k, n)
section J10
variable {p : Program} {l : Launch} {e : Env} {R : Room} {s : State} {m : MethodId} {args : Array Value} {below : List Frame} {meth : Method} {c : Code} {H : Heap} {locs : List Loc} {cells slots : Nat} {Q : State → Prop}
variable {cc : ByteArray} {pc : Nat} {ls : Array Slot} {rest : List Value} {dC : Nat → ClassId} {dI : Nat → Nat → Nat} {ca : Nat → ClassId} {B : jF} {base : Nat} {G0 G : jT} {E : List (Nat × Nat)} {H0 : Heap} {zc zs : Nat} {L : List jPin} {M : List jCt} {I : List jIv} {a k n : Nat} {P : jT → Option Nat → Prop} {cA : ClassId} {tys : List (ClassId × FieldType)} {C : String}
theorem jSt.aq (hh : jSt (dC, dI) B base G0 G E H0 zc zs L M I H locs) (hBk : ∀ n G a H, B k n G a H ↔ jAq (dC, dI) cA P n G a H) (hk : k < 1000) (ha : G a = some (k, n)) : ∃ f : Nat → Option Nat, va_at (dC, dI) vwCl (a, .inl (cA, n, .inr (.inr (.inr (.inr f))))) H ∧ ∀ j, j < n → P G (f j) := (hBk _ _ _ _).mp (hh.2.1.1 a k n ha hk (fun h => by cases h))
theorem j7_qlen (hexec : p.tables.exec = Jvm.exec) (hb : c.code = cc) (hK : va_K (dC, dI) vwCl tys s) (hh : jSt (dC, dI) B base G0 G E H0 zc zs L M I H locs) (hBk : ∀ n G a H, B k n G a H ↔ jAq (dC, dI) cA P n G a H) (t0 : Nat) {ty : FieldType} (ht : tys[t0]? = some (cA, ty)) (hk : k < 1000) (ha : G a = some (k, n)) (hn : n < 2147483648) (hdg : decode cc pc = .ok (.arraylength, 1))
    (kk : ∀ z : Int32, z.toInt = n → W p l e R s m args below meth c H locs cells slots Q (F0 m (pc + 1) ls (.int z :: rest))) : W p l e R s m args below meth c H locs cells slots Q (F0 m pc ls (.ref a :: rest)) := by
  obtain ⟨f, h1, -⟩ := hh.aq hBk hk ha
  exact va_alen (v := Int32.ofNat n) hexec hb hK (jp_one h1) 0 t0 rfl ht rfl hdg (kk _ (jb_nat hn))
theorem j7_qald (hexec : p.tables.exec = Jvm.exec) (hb : c.code = cc) (hK : va_K (dC, dI) vwCl tys s) (hh : jSt (dC, dI) B base G0 G E H0 zc zs L M I H locs) (hBk : ∀ n G a H, B k n G a H ↔ jAq (dC, dI) cA P n G a H) (t0 : Nat) (ht : tys[t0]? = some (cA, .object C)) (hk : k < 1000) (ha : G a = some (k, n)) {i : Int32} {x : Int} (hi : i.toInt = x) (h12 : 0 ≤ x ∧ x < n) (hdg : decode cc pc = .ok (.aaload, 1))
    (kk : ∀ o : Option Nat, P G o → W p l e R s m args below meth c H locs cells slots Q (F0 m (pc + 1) ls (va_rf o :: rest))) : W p l e R s m args below meth c H locs cells slots Q (F0 m pc ls (.int i :: .ref a :: rest)) := by
  obtain ⟨h1, h2⟩ := h12
  obtain ⟨f, g1, g2⟩ := hh.aq hBk hk ha
  exact va_aldq hexec hb hK (jp_one g1) 0 t0 rfl ht (jb_in hi h1 h2) hdg (kk _ (g2 _ (jb_cl_lt hi h1 h2)))
theorem jAq_up {f : Nat → Option Nat} {n j : Nat} {o : Option Nat} (h : ∀ j, j < n → P G (f j)) (ho : P G o) : ∀ i, i < n → P G (va_up f j o i) := by
  intro i hi
  by_cases e : i = j
  · subst e; simp only [va_up, if_pos]; exact ho
  · rw [va_up_ne _ _ e]; exact h i hi
theorem j7_qast (hexec : p.tables.exec = Jvm.exec) (hb : c.code = cc) (hK : va_K (dC, dI) vwCl tys s) (hh : jSt (dC, dI) B base G0 G E H0 zc zs L M I H locs) (hB : jBok B) (hBk : ∀ n G a H, B k n G a H ↔ jAq (dC, dI) cA P n G a H) (t0 : Nat) (ht : tys[t0]? = some (cA, .object C)) (hk : k < 1000) (hk2 : 17 ≤ k) (hE : E.contains (k, 0) = true) (hM : M.all (fun q => !(q.2.1 == k)) = true) (hI : I.all (fun q => !(q.1.contains (k, 0))) = true) (ha : G a = some (k, n)) {i : Int32} {x : Int} (hi : i.toInt = x) (h12 : 0 ≤ x ∧ x < n)
    {v kv nv N : Nat} {T : u_T} {F : Nat → jT → List (Value → Prop)} (hBv : ∀ n G a H, B kv n G a H ↔ jOb (dC, dI) kv N (F n G) a H) (hc : vwCl[kv]? = some (C, T, N)) (hkv : kv < 1000) (hv : G v = some (kv, nv)) (hP : P G (some v)) (hdg : decode cc pc = .ok (.aastore, 1))
    (kk : ∀ (H1 : Heap) (locs1 : List Loc), jSt (dC, dI) B base G0 G E H0 zc zs L M I H1 locs1 → W p l e R s m args below meth c H1 locs1 cells slots Q (F0 m (pc + 1) ls rest)) : W p l e R s m args below meth c H locs cells slots Q (F0 m pc ls (.ref v :: .int i :: .ref a :: rest)) := by
  obtain ⟨h1, h2⟩ := h12
  obtain ⟨f, g1, g2⟩ := hh.aq hBk hk ha
  obtain ⟨V, ⟨cellV, q1, q2, q3, q4⟩, hV⟩ := (hBv _ _ _ _).mp (hh.2.1.1 v kv nv hv hkv (fun h => by cases h))
  have hlt := jb_cl_lt hi h1 h2
  have hcls := (hK.1 kv _ hc).2
  obtain ⟨kA, comp, k1, k2, k3, -⟩ := (hK.2 t0 _ ht).2
  have hcomp : comp = dC kv := Option.some.inj (k3.symm.trans hcls.1)
  subst hcomp
  obtain ⟨kC, hkC, -⟩ := hcls.2
  refine W.aast hexec hb g1 (fun q h => by cases h) (fun h => by cases h) k1 k2 rfl hkC ⟨jb_n0 hi h1, by show _ < (arrV _ _ _).slots.size; rw [arrV_size]; exact hlt⟩ q1 (fun q h => by rw [q3] at h; cases h) (by rw [q2]; exact hkC) (by rw [q2]; exact va_assign hcls) rfl rfl hdg fun H1 e1 z oq => ?_
  refine kk H1 _ (hh.arr hB ha hk hk2 hE hM hI z oq (jTot_set z g1 e1 (jSet_sz _ _ _) oq) (fun q hq => ?_) ((hBk _ _ _ _).mpr ⟨va_up f i.toNatClampNeg (some v), ?_, jAq_up g2 hP⟩))
  · rcases List.mem_append.mp hq with h | h
    · exact hh.1.2.2 q h
    · cases List.mem_singleton.mp h; exact (hh.ab ha).1
  · show H1[a]? = some (vp_cell _ _)
    rw [e1]
    rw [vp_cell_q, vp_cell_q, arrV_store]
    congr 2
    funext q
    by_cases hq : q = i.toNatClampNeg
    · subst hq
      simp [updV, va_up, va_rf]
    · simp [updV, va_up, hq]
theorem j7_qastN (hexec : p.tables.exec = Jvm.exec) (hb : c.code = cc) (hK : va_K (dC, dI) vwCl tys s) (hh : jSt (dC, dI) B base G0 G E H0 zc zs L M I H locs) (hB : jBok B) (hBk : ∀ n G a H, B k n G a H ↔ jAq (dC, dI) cA P n G a H) (t0 : Nat) (ht : tys[t0]? = some (cA, .object C)) (hk : k < 1000) (hk2 : 17 ≤ k) (hE : E.contains (k, 0) = true) (hM : M.all (fun q => !(q.2.1 == k)) = true) (hI : I.all (fun q => !(q.1.contains (k, 0))) = true) (ha : G a = some (k, n)) {i : Int32} {x : Int} (hi : i.toInt = x) (h12 : 0 ≤ x ∧ x < n) (hP : P G none) (hdg : decode cc pc = .ok (.aastore, 1))
    (kk : ∀ (H1 : Heap) (locs1 : List Loc), jSt (dC, dI) B base G0 G E H0 zc zs L M I H1 locs1 → W p l e R s m args below meth c H1 locs1 cells slots Q (F0 m (pc + 1) ls rest)) : W p l e R s m args below meth c H locs cells slots Q (F0 m pc ls (.null :: .int i :: .ref a :: rest)) := by
  obtain ⟨h1, h2⟩ := h12
  obtain ⟨f, g1, g2⟩ := hh.aq hBk hk ha
  refine va_WaastN (C := C) hexec hb g1 ((hK.2 t0 _ ht).1 n (fun j => va_rf (f j))) (fun h => by cases h) (by show ¬ (i < 0 ∨ (arrV _ _ _).slots.size ≤ _); rw [arrV_size]; exact jb_in hi h1 h2) rfl rfl hdg fun H1 e1 z oq => ?_
  refine kk H1 _ (hh.arr hB ha hk hk2 hE hM hI z oq (jTot_set z g1 e1 (jSet_sz _ _ _) oq) (fun q hq => ?_) ((hBk _ _ _ _).mpr ⟨va_up f i.toNatClampNeg none, ?_, jAq_up g2 hP⟩))
  · rcases List.mem_append.mp hq with h | h
    · exact hh.1.2.2 q h
    · cases List.mem_singleton.mp h; exact (hh.ab ha).1
  · show H1[a]? = some (vp_cell _ _)
    rw [e1]
    rw [vp_cell_q, vp_cell_q, arrV_store]
    congr 2
    funext q
    by_cases hq : q = i.toNatClampNeg
    · subst hq
      simp [updV, va_up, va_rf]
    · simp [updV, va_up, hq]
end J10
def jQx {S : Type} (post : Value → S → Prop) (B : S → State → Prop) (A : Nat → Prop) : Array Value → State → Outcome → State → Prop := fun _ st oc t => (∃ (r : Value) (u : S), oc = .returned (some r) ∧ post r u ∧ B u t) ∧ va_F A st t
theorem j_callx {p : Program} {l : Launch} {e : Env} {R : Room} {s : State} {m : MethodId} {args : Array Value} {below : List Frame} {meth : Method} {c : Code} {H : Heap} {locs : List Loc} {cells slots : Nat} {Q : State → Prop} {pc : Nat} {ls : Array Slot} {rest st0 : List Value} {a : Array Value} {A0 A1 : Nat → Prop} {H0 : Heap} {mc ms : Nat} {free : Addr → Prop} {S : Type} {post : Value → S → Prop} {B : S → State → Prop} (hr : va_Run p l e R s m args below meth c H locs cells slots mc ms (F0 m pc ls st0) rest (jQx post B A1 a) free) (hS : va_S A0 H0 H locs) (hA : ∀ q, q < H.size → A1 q → A0 q) (hf : ∀ q, free q → A0 q)
    (kk : ∀ (r : Value) (u : S) (t : State) (H1 : Heap) (locs1 : List Loc), t.heap = H1 → s.vm.Alike t.vm → post r u → B u t → H.size ≤ H1.size → (∀ q : Nat, q < H.size → ¬ A1 q → H1[q]? = H[q]?) → va_S A0 H0 H1 locs1 → W p l e R s m args below meth c H1 locs1 (cells + mc) (slots + ms) Q (F0 m (pc + 3) ls (r :: rest))) : W p l e R s m args below meth c H locs cells slots Q (F0 m pc ls st0) := by
  intro T hT X
  obtain ⟨v, st₀, t, T', L, h0, X', hL, e1, e2, ⟨⟨r, u, hv, hp, hb⟩, hz, hk⟩, st⟩ := hr T hT X
  cases hv
  rw [h0] at hz hk
  obtain ⟨t2, a1, b1⟩ := kk r u t T'.heap (locs ++ L) e1.symm (by rw [← e2]; exact X'.warmed.alike) hp hb (by rw [e1]; exact hz) (fun q h1 h2 => by rw [e1]; exact hk q h1 h2)
    ⟨Nat.le_trans hS.1 (by rw [e1]; exact hz), fun q h1 h2 => by rw [e1, hk q (Nat.lt_of_lt_of_le h1 hS.1) (fun z => h2 (hA q (Nat.lt_of_lt_of_le h1 hS.1) z))]; exact hS.2.1 q h1 h2, fun q hq => by
      rcases List.mem_append.mp hq with h | h
      · exact hS.2.2 q h
      · exact hf _ (hL q h)⟩ T' rfl X'
  exact ⟨t2, st t2 a1, b1⟩
