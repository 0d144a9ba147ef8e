section
theorem jWr_15 : ∀ w ∈ wsL_law_r15, w ∈ jWl := fun w h => jT15 w (List.mem_append_left _ h)
theorem jWr_59 : ∀ w ∈ wsL_law_r59, w ∈ jWl := fun w h => jT59 w (List.mem_append_left _ h)
theorem jWr_60 : ∀ w ∈ wsL_law_r60, w ∈ jWl := fun w h => jT60 w (List.mem_append_left _ h)
theorem jWr_62 : ∀ w ∈ wsL_law_r62, w ∈ jWl := fun w h => jT62 w (List.mem_append_left _ h)
theorem jWr_64 : ∀ w ∈ wsL_law_r64, w ∈ jWl := fun w h => jT64 w (List.mem_append_left _ h)
end
section
-- the refined heap: every field of a typed object holds a value of its own predicate, every element of a typed array too; what is known of a field just now is a pin (address, kind, field, value)
section J7
variable {p : Program} {l : Launch} {e : Env} {R : Room} {s : State} {m : MethodId} {args : Array Value} {below : List Frame} {meth : Method} {c : Code} {H : Heap} {locs : List Loc} {cells slots : Nat} {Q : State → Prop}
variable {cc : ByteArray} {pc : Nat} {ls : Array Slot} {rest : List Value} {dC : Nat → ClassId} {dI : Nat → Nat → Nat} {ca : Nat → ClassId} {B : jF} {base : Nat} {G0 G : jT} {E : List (Nat × Nat)} {H0 : Heap} {zc zs : Nat} {L : List jPin} {M : List jCt} {I : List jIv} {a k n i index N : Nat} {tys : List (ClassId × FieldType)} {own C : String} {T : u_T}
/-- a field that isn't pinned: its value holds its predicate, and is pinned from now on -/
theorem jSt.pin (hh : jSt (dC, dI) B base G0 G E H0 zc zs L M I H locs) {F : Nat → jT → List (Value → Prop)} (hBk : ∀ n G a H, B k n G a H ↔ jOb (dC, dI) k N (F n G) a H) (hc : vwCl[k]? = some (C, T, N)) (hk : k < 1000) (ha : G a = some (k, n)) (hi : i < N) {P : Value → Prop} (hp : (F n G)[i]? = some P) : ∃ v, P v ∧ jSt (dC, dI) B base G0 G E H0 zc zs ((a, k, i, v) :: L) M I H locs := by
  obtain ⟨h1, h2, h3, h4⟩ := hh
  obtain ⟨V, ⟨cell, q1, q2, q3, q4⟩, hV⟩ := (hBk _ _ _ _).mp (h2.1 a k n ha hk (fun h => by cases h))
  refine ⟨V i, hV i P hp, h1, h2, fun q hq => ?_, h4⟩
  rcases List.mem_cons.mp hq with e | e
  · subst e; exact ⟨⟨n, ha⟩, _, hc, hi, cell, q1, q2, q3, q4 i hi⟩
  · exact h3 q e
/-- a write to a field -/
theorem jSt.fld (hh : jSt (dC, dI) B base G0 G E H0 zc zs L M I H locs) (hB : jBok B) (hAp : jAp (dC, dI)) {F : Nat → jT → List (Value → Prop)} (hBk : ∀ n G a H, B k n G a H ↔ jOb (dC, dI) k N (F n G) a H) (hc : vwCl[k]? = some (C, T, N)) (hk : k < 1000) (ha : G a = some (k, n)) (hi : i < N) {P : Value → Prop} (hp : (F n G)[i]? = some P) {v : Value} (hv : P v) (hE : E.contains (k, i) = true)
    {L1 : List jPin} (is : List Nat) (hs : is.map (fun i => L[i]?) = L1.map some) (hn : L1.all (fun q => !(q.2.1 == k && q.2.2.1 == i)) = true) (hI : I.all (fun q => !(q.1.contains (k, i))) = true) {H1 : Heap} {locs1 : List Loc} {cell : Cell} (hcell : H[a]? = some cell) (h1c : H1[a]? = some (cell.setSlot (dI k i) v)) (hsz : H1.size = H.size) (hfr : ∀ p, p ≠ a → H1[p]? = H[p]?) (ht : jTot H1 = jTot H) (hL : ∀ q ∈ locs1, jA base q.base) :
    jSt (dC, dI) B base G0 G E H0 zc zs ((a, k, i, v) :: L1) M I H1 locs1 := by
  obtain ⟨h1, h2, h3, h4, h5, h6, h7, h8, h9⟩ := hh
  have hk17 : k < 17 := (List.getElem?_eq_some_iff.mp hc).1
  obtain ⟨V, ⟨cell', q1, q2, q3, q4⟩, hV⟩ := (hBk _ _ _ _).mp (h2.1 a k n ha hk (fun h => by cases h))
  cases hcell.symm.trans q1
  have hap : ∀ x y, x < N → y < N → x ≠ y → dI k x ≠ dI k y := fun x y hx hy => hAp k _ hc x y hx hy
  have hset : ∀ j, j < N → (cell.setSlot (dI k i) v).slots[dI k j]? = some (updV V i v j) := fun j hj => t_set q4 hap hi v j hj
  have hvi : updV V i v i = v := by simp [updV]
  have key : ∀ b kb nb ib w, G b = some (kb, nb) → ¬ (kb = k ∧ ib = i) → jf (dC, dI) kb b ib w H → jf (dC, dI) kb b ib w H1 := by
    intro b kb nb ib w hb1 hne hf
    by_cases e : b = a
    · subst e
      rw [ha] at hb1; cases hb1
      obtain ⟨r, g1, g2, cell2, g3, g4, g5, g6⟩ := hf
      have hr : r = (C, T, N) := Option.some.inj (g1.symm.trans hc)
      subst hr
      cases q1.symm.trans g3
      have hib : ib ≠ i := fun q => hne ⟨rfl, q⟩
      have e1 := hset ib g2
      have e2 : updV V i v ib = V ib := by simp [updV, hib]
      rw [e2] at e1
      have e3 : V ib = w := Option.some.inj ((q4 ib g2).symm.trans g6)
      exact ⟨_, hc, g2, _, h1c, g4, g5, by rw [← e3]; exact e1⟩
    · exact hf.kept (hfr b e)
  refine ⟨jS_put h1 hsz hfr (h2.2 a _ ha).1 hL, h2.set hB ha hk hsz hfr ((hBk _ _ _ _).mpr ⟨updV V i v, ⟨_, h1c, q2, q3, hset⟩, fun j p hj => ?_⟩), fun q hq => ?_, ⟨fun b kb nb ib w hb1 he hf => key b kb nb ib w (h5 _ _ hb1) (fun q => ?_) (h4.1 b kb nb ib w hb1 he hf), fun b kb nb hb1 g1 g2 he => (hfr b (fun e => ?_)).trans (h4.2 b kb nb hb1 g1 g2 he)⟩, h5, by omega, by omega, fun q hq => ?_, h9.ag (fun q hq => ⟨fun b kb nb ib w hb1 hf1 hf => key b kb nb ib w hb1 (fun g => ?_) hf, fun b kb nb hb1 g1 g2 hf => hfr b (fun e => ?_)⟩)⟩
  · by_cases e : j = i
    · subst e
      rw [hvi]
      cases hp.symm.trans hj
      exact hv
    · have e2 : updV V i v j = V j := by simp [updV, e]
      rw [e2]; exact hV j p hj
  · rcases List.mem_cons.mp hq with e | e
    · subst e
      refine ⟨⟨n, ha⟩, _, hc, hi, _, h1c, q2, q3, ?_⟩
      have e1 := hset i hi
      rw [hvi] at e1
      exact e1
    · obtain ⟨⟨nq, g1⟩, g2⟩ := (jP.sub h3 is hs) q e
      have g3 := List.all_eq_true.mp hn q e
      refine ⟨⟨nq, g1⟩, key _ _ nq _ _ g1 (fun g => ?_) g2⟩
      rw [g.1, g.2] at g3
      simp at g3
  · rw [q.1, q.2, hE] at he; cases he
  · subst e
    have e1 := (h5 _ _ hb1).symm.trans ha
    cases e1
    omega
  · obtain ⟨g1, g2, g3, g4⟩ := h8 q hq
    refine ⟨g1, g2, g3, g4.kept (hfr _ (fun e => ?_))⟩
    rw [e, ha] at g1
    have e2 := (Prod.mk.inj (Option.some.inj g1)).1
    omega
  · have hi9 := List.all_eq_true.mp hI q hq
    rw [g.1, g.2] at hf1
    rw [hf1] at hi9; cases hi9
  · subst e
    have e1 := hb1.symm.trans ha
    cases e1
    omega
theorem j7_put (hexec : p.tables.exec = Jvm.exec) (hb : c.code = cc) (hown : s.vm.findClass own = some m.cls) (hK : va_K (dC, dI) vwCl tys s) (hh : jSt (dC, dI) B base G0 G E H0 zc zs L M I H locs) (hB : jBok B) (hAp : jAp (dC, dI)) {F : Nat → jT → List (Value → Prop)} (hBk : ∀ n G a H, B k n G a H ↔ jOb (dC, dI) k N (F n G) a H) (hc : vwCl[k]? = some (C, T, N)) (hk : k < 1000) (ha : G a = some (k, n)) (hi : i < N) (hlay : (u_lay C T i).before args s = true) (hfin : (T i).2.2.2 = false) (hlink : (Cond.fieldLink own index (T i).1 (T i).2.1 (T i).2.2.1).before args s = true) {P : Value → Prop} (hp : (F n G)[i]? = some P) {ty : FieldType} {v : Value} (hd : parseFieldDescriptor (T i).2.2.1 = some ty) (hnar : narrow ty v = v) (hfit : fits ty v = true) (hv : P v) (hE : E.contains (k, i) = true)
    {L1 : List jPin} (is : List Nat) (hs : is.map (fun i => L[i]?) = L1.map some) (hn : L1.all (fun q => !(q.2.1 == k && q.2.2.1 == i)) = true) (hI : I.all (fun q => !(q.1.contains (k, i))) = true) (hdg : decode cc pc = .ok (.putfield index, 3))
    (kk : ∀ (H1 : Heap) (locs1 : List Loc), jSt (dC, dI) B base G0 G E H0 zc zs ((a, k, i, v) :: L1) M I H1 locs1 → W p l e R s m args below meth c H1 locs1 cells slots Q (F0 m (pc + 3) ls rest)) : W p l e R s m args below meth c H locs cells slots Q (F0 m pc ls (v :: .ref a :: rest)) := by
  obtain ⟨V, ⟨cell, q1, q2, q3, q4⟩, hV⟩ := (hBk _ _ _ _).mp (hh.2.1.1 a k n ha hk (fun h => by cases h))
  obtain ⟨hS, hfc, kC, hkC, hkind⟩ := hK.1 k _ hc
  obtain ⟨cf, kf, fi, f, hfi, hsl⟩ := hS i hi
  have hst := (u_facts hfc hkC (j7_lay hlay) hfi).1
  unfold u_lay at hlay
  rw [if_neg (by rw [hfin]; decide)] at hlay
  have h6 := u_store hfc hkC hkind hlay hfi hd hnar hfit
  refine W.putK hexec hb (f := f) ⟨hown, hlink, ⟨_, _, _, hfi⟩, hst⟩ (by rw [q2]; exact h6) q1 q3 (by rw [hsl]; exact k2_hasslot (q4 i hi)) rfl rfl hdg fun H1 e1 e2 e3 => ?_
  rw [hsl] at e1 ⊢
  refine kk H1 _ (hh.fld hB hAp hBk hc hk ha hi hp hv hE is hs hn hI q1 e1 e2 e3 (jTot_set e2 q1 e1 (jSet_sz _ _ _) e3) (fun q hq => ?_))
  rcases List.mem_append.mp hq with h | h
  · exact hh.1.2.2 q h
  · cases List.mem_singleton.mp h; exact (hh.ab ha).1
end J7
section J8
variable {p : Program} {l : Launch} {e : Env} {R : Room} {s : State} {m : MethodId} {args : Array Value} {below : List Frame} {meth : Method} {c : Code} {H : Heap} {locs : List Loc} {cells slots : Nat} {Q : State → Prop}
variable {cc : ByteArray} {pc : Nat} {ls : Array Slot} {rest : List Value} {dC : Nat → ClassId} {dI : Nat → Nat → Nat} {ca : Nat → ClassId} {B : jF} {base : Nat} {G0 G : jT} {E : List (Nat × Nat)} {H0 : Heap} {zc zs : Nat} {L : List jPin} {M : List jCt} {I : List jIv} {a k n : Nat} {P : Nat → Int32 → Prop} {cA : ClassId} {tys : List (ClassId × FieldType)}
theorem j7_iald (hexec : p.tables.exec = Jvm.exec) (hb : c.code = cc) (hK : va_K (dC, dI) vwCl tys s) (hh : jSt (dC, dI) B base G0 G E H0 zc zs L M I H locs) (hBk : ∀ n G a H, B k n G a H ↔ jAr (dC, dI) cA P n a H) (t0 : Nat) (ht : tys[t0]? = some (cA, .int)) (hk : k < 1000) (ha : G a = some (k, n)) {i : Int32} {x : Int} (hi : i.toInt = x) (h12 : 0 ≤ x ∧ x < n) (hdg : decode cc pc = .ok (.iaload, 1))
    (kk : ∀ z : Int32, P x.toNat z → W p l e R s m args below meth c H locs cells slots Q (F0 m (pc + 1) ls (.int z :: rest))) : W p l e R s m args below meth c H locs cells slots Q (F0 m pc ls (.int i :: .ref a :: rest)) := by
  obtain ⟨h1, h2⟩ := h12
  obtain ⟨f, g1, g2⟩ := hh.ar hBk hk ha
  exact va_iald hexec hb hK (jp_one g1) 0 t0 rfl ht (jb_in hi h1 h2) hdg (kk _ (by rw [← jb_cl hi h1]; exact g2 _ (jb_cl_lt hi h1 h2)))
theorem j7_zald (hexec : p.tables.exec = Jvm.exec) (hb : c.code = cc) (hK : va_K (dC, dI) vwCl tys s) (hh : jSt (dC, dI) B base G0 G E H0 zc zs L M I H locs) (hBk : ∀ n G a H, B k n G a H ↔ jAr (dC, dI) cA P n a H) (t0 : Nat) (ht : tys[t0]? = some (cA, .boolean)) (hk : k < 1000) (ha : G a = some (k, n)) {i : Int32} {x : Int} (hi : i.toInt = x) (h12 : 0 ≤ x ∧ x < n) (hdg : decode cc pc = .ok (.baload, 1))
    (kk : ∀ z : Int32, P x.toNat z → W p l e R s m args below meth c H locs cells slots Q (F0 m (pc + 1) ls (.int z :: rest))) : W p l e R s m args below meth c H locs cells slots Q (F0 m pc ls (.int i :: .ref a :: rest)) := by
  obtain ⟨h1, h2⟩ := h12
  obtain ⟨f, g1, g2⟩ := hh.ar hBk hk ha
  exact va_zald hexec hb hK (jp_one g1) 0 t0 rfl ht (jb_in hi h1 h2) hdg (kk _ (by rw [← jb_cl hi h1]; exact g2 _ (jb_cl_lt hi h1 h2)))
theorem j7_iast (hexec : p.tables.exec = Jvm.exec) (hb : c.code = cc) (hK : va_K (dC, dI) vwCl tys s) (hh : jSt (dC, dI) B base G0 G E H0 zc zs L M I H locs) (hB : jBok B) (hBk : ∀ n G a H, B k n G a H ↔ jAr (dC, dI) cA P n a H) (t0 : Nat) (ht : tys[t0]? = some (cA, .int)) (hk : k < 1000) (hk2 : 17 ≤ k) (hE : E.contains (k, 0) = true) (hM : M.all (fun q => !(q.2.1 == k)) = true) (hI : I.all (fun q => !(q.1.contains (k, 0))) = true) (ha : G a = some (k, n)) {i v : Int32} {x : Int} (hi : i.toInt = x) (h12 : 0 ≤ x ∧ x < n) (hv : P x.toNat v) (hdg : decode cc pc = .ok (.iastore, 1))
    (kk : ∀ (H1 : Heap) (locs1 : List Loc), jSt (dC, dI) B base G0 G E H0 zc zs L M I H1 locs1 → W p l e R s m args below meth c H1 locs1 cells slots Q (F0 m (pc + 1) ls rest)) : W p l e R s m args below meth c H locs cells slots Q (F0 m pc ls (.int v :: .int i :: .ref a :: rest)) := by
  obtain ⟨h1, h2⟩ := h12
  obtain ⟨f, g1, g2⟩ := hh.ar hBk hk ha
  exact j_iast (A := jA base) hexec hb hK t0 g1 (hh.ab ha).1 hh.1.2.2 ht (jb_in hi h1 h2) hdg (fun H1 locs1 hat hsz hfr hT hL => kk H1 locs1 (hh.arr hB ha hk hk2 hE hM hI hsz hfr hT hL ((hBk _ _ _ _).mpr ⟨_, hat, jAr_upd g2 hi h1 hv⟩)))
end J8
end
section
theorem dX13_node_0 : decode cX13_node 0 = .ok (.aload_n 0, 1) := by decide +kernel
theorem dX13_node_1 : decode cX13_node 1 = .ok (.getfield 12, 3) := by decide +kernel
theorem dX13_node_4 : decode cX13_node 4 = .ok (.aload_n 0, 1) := by decide +kernel
theorem dX13_node_5 : decode cX13_node 5 = .ok (.getfield 99, 3) := by decide +kernel
theorem dX13_node_8 : decode cX13_node 8 = .ok (.iload_n 1, 1) := by decide +kernel
theorem dX13_node_9 : decode cX13_node 9 = .ok (.iastore, 1) := by decide +kernel
theorem dX13_node_10 : decode cX13_node 10 = .ok (.aload_n 0, 1) := by decide +kernel
theorem dX13_node_11 : decode cX13_node 11 = .ok (.getfield 16, 3) := by decide +kernel
theorem dX13_node_14 : decode cX13_node 14 = .ok (.aload_n 0, 1) := by decide +kernel
theorem dX13_node_15 : decode cX13_node 15 = .ok (.getfield 99, 3) := by decide +kernel
theorem dX13_node_18 : decode cX13_node 18 = .ok (.iload_n 2, 1) := by decide +kernel
theorem dX13_node_19 : decode cX13_node 19 = .ok (.iastore, 1) := by decide +kernel
theorem dX13_node_20 : decode cX13_node 20 = .ok (.aload_n 0, 1) := by decide +kernel
theorem dX13_node_21 : decode cX13_node 21 = .ok (.getfield 19, 3) := by decide +kernel
theorem dX13_node_24 : decode cX13_node 24 = .ok (.aload_n 0, 1) := by decide +kernel
theorem dX13_node_25 : decode cX13_node 25 = .ok (.getfield 99, 3) := by decide +kernel
theorem dX13_node_28 : decode cX13_node 28 = .ok (.iload_n 3, 1) := by decide +kernel
theorem dX13_node_29 : decode cX13_node 29 = .ok (.iastore, 1) := by decide +kernel
theorem dX13_node_30 : decode cX13_node 30 = .ok (.aload_n 0, 1) := by decide +kernel
theorem dX13_node_31 : decode cX13_node 31 = .ok (.getfield 22, 3) := by decide +kernel
theorem dX13_node_34 : decode cX13_node 34 = .ok (.aload_n 0, 1) := by decide +kernel
theorem dX13_node_35 : decode cX13_node 35 = .ok (.getfield 99, 3) := by decide +kernel
theorem dX13_node_38 : decode cX13_node 38 = .ok (.iload 4, 2) := by decide +kernel
theorem dX13_node_40 : decode cX13_node 40 = .ok (.iastore, 1) := by decide +kernel
theorem dX13_node_41 : decode cX13_node 41 = .ok (.aload_n 0, 1) := by decide +kernel
theorem dX13_node_42 : decode cX13_node 42 = .ok (.getfield 25, 3) := by decide +kernel
theorem dX13_node_45 : decode cX13_node 45 = .ok (.aload_n 0, 1) := by decide +kernel
theorem dX13_node_46 : decode cX13_node 46 = .ok (.getfield 99, 3) := by decide +kernel
theorem dX13_node_49 : decode cX13_node 49 = .ok (.iload 5, 2) := by decide +kernel
theorem dX13_node_51 : decode cX13_node 51 = .ok (.iastore, 1) := by decide +kernel
theorem dX13_node_52 : decode cX13_node 52 = .ok (.aload_n 0, 1) := by decide +kernel
theorem dX13_node_53 : decode cX13_node 53 = .ok (.dup, 1) := by decide +kernel
theorem dX13_node_54 : decode cX13_node 54 = .ok (.getfield 99, 3) := by decide +kernel
theorem dX13_node_57 : decode cX13_node 57 = .ok (.iconst 1, 1) := by decide +kernel
theorem dX13_node_58 : decode cX13_node 58 = .ok (.iadd, 1) := by decide +kernel
theorem dX13_node_59 : decode cX13_node 59 = .ok (.putfield 99, 3) := by decide +kernel
theorem dX13_node_62 : decode cX13_node 62 = .ok (.aload_n 0, 1) := by decide +kernel
theorem dX13_node_63 : decode cX13_node 63 = .ok (.getfield 99, 3) := by decide +kernel
theorem dX13_node_66 : decode cX13_node 66 = .ok (.iconst 1, 1) := by decide +kernel
theorem dX13_node_67 : decode cX13_node 67 = .ok (.isub, 1) := by decide +kernel
theorem dX13_node_68 : decode cX13_node 68 = .ok (.ireturn, 1) := by decide +kernel
theorem dX13_fails_0 : decode cX13_fails 0 = .ok (.aload_n 0, 1) := by decide +kernel
theorem dX13_fails_1 : decode cX13_fails 1 = .ok (.getfield 221, 3) := by decide +kernel
theorem dX13_fails_4 : decode cX13_fails 4 = .ok (.ifCond .ne 8, 3) := by decide +kernel
theorem dX13_fails_7 : decode cX13_fails 7 = .ok (.aload_n 0, 1) := by decide +kernel
theorem dX13_fails_8 : decode cX13_fails 8 = .ok (.iload_n 1, 1) := by decide +kernel
theorem dX13_fails_9 : decode cX13_fails 9 = .ok (.putfield 221, 3) := by decide +kernel
theorem dX13_fails_12 : decode cX13_fails 12 = .ok (.return_, 1) := by decide +kernel
theorem dX13_symbolOf_0 : decode cX13_symbolOf 0 = .ok (.iconst 0, 1) := by decide +kernel
theorem dX13_symbolOf_1 : decode cX13_symbolOf 1 = .ok (.istore_n 2, 1) := by decide +kernel
theorem dX13_symbolOf_2 : decode cX13_symbolOf 2 = .ok (.iload_n 2, 1) := by decide +kernel
theorem dX13_symbolOf_3 : decode cX13_symbolOf 3 = .ok (.aload_n 0, 1) := by decide +kernel
theorem dX13_symbolOf_4 : decode cX13_symbolOf 4 = .ok (.getfield 109, 3) := by decide +kernel
theorem dX13_symbolOf_7 : decode cX13_symbolOf 7 = .ok (.if_icmp .ge 21, 3) := by decide +kernel
theorem dX13_symbolOf_10 : decode cX13_symbolOf 10 = .ok (.aload_n 0, 1) := by decide +kernel
theorem dX13_symbolOf_11 : decode cX13_symbolOf 11 = .ok (.getfield 37, 3) := by decide +kernel
theorem dX13_symbolOf_14 : decode cX13_symbolOf 14 = .ok (.iload_n 2, 1) := by decide +kernel
theorem dX13_symbolOf_15 : decode cX13_symbolOf 15 = .ok (.iaload, 1) := by decide +kernel
theorem dX13_symbolOf_16 : decode cX13_symbolOf 16 = .ok (.iload_n 1, 1) := by decide +kernel
theorem dX13_symbolOf_17 : decode cX13_symbolOf 17 = .ok (.if_icmp .ne 5, 3) := by decide +kernel
theorem dX13_symbolOf_20 : decode cX13_symbolOf 20 = .ok (.iload_n 2, 1) := by decide +kernel
theorem dX13_symbolOf_21 : decode cX13_symbolOf 21 = .ok (.ireturn, 1) := by decide +kernel
theorem dX13_symbolOf_22 : decode cX13_symbolOf 22 = .ok (.iinc 2 1, 3) := by decide +kernel
theorem dX13_symbolOf_25 : decode cX13_symbolOf 25 = .ok (.goto (-23), 3) := by decide +kernel
theorem dX13_symbolOf_28 : decode cX13_symbolOf 28 = .ok (.iconst (-1), 1) := by decide +kernel
theorem dX13_symbolOf_29 : decode cX13_symbolOf 29 = .ok (.ireturn, 1) := by decide +kernel
theorem dX13_isVariable_0 : decode cX13_isVariable 0 = .ok (.iconst 0, 1) := by decide +kernel
theorem dX13_isVariable_1 : decode cX13_isVariable 1 = .ok (.istore_n 2, 1) := by decide +kernel
theorem dX13_isVariable_2 : decode cX13_isVariable 2 = .ok (.aload_n 0, 1) := by decide +kernel
theorem dX13_isVariable_3 : decode cX13_isVariable 3 = .ok (.getfield 119, 3) := by decide +kernel
theorem dX13_isVariable_6 : decode cX13_isVariable 6 = .ok (.ifCond .le 31, 3) := by decide +kernel
theorem dX13_isVariable_9 : decode cX13_isVariable 9 = .ok (.iload_n 2, 1) := by decide +kernel
theorem dX13_isVariable_10 : decode cX13_isVariable 10 = .ok (.aload_n 0, 1) := by decide +kernel
theorem dX13_isVariable_11 : decode cX13_isVariable 11 = .ok (.getfield 56, 3) := by decide +kernel
theorem dX13_isVariable_14 : decode cX13_isVariable 14 = .ok (.iconst 0, 1) := by decide +kernel
theorem dX13_isVariable_15 : decode cX13_isVariable 15 = .ok (.iaload, 1) := by decide +kernel
theorem dX13_isVariable_16 : decode cX13_isVariable 16 = .ok (.if_icmp .ge 21, 3) := by decide +kernel
theorem dX13_isVariable_19 : decode cX13_isVariable 19 = .ok (.aload_n 0, 1) := by decide +kernel
theorem dX13_isVariable_20 : decode cX13_isVariable 20 = .ok (.getfield 59, 3) := by decide +kernel
theorem dX13_isVariable_23 : decode cX13_isVariable 23 = .ok (.iload_n 2, 1) := by decide +kernel
theorem dX13_isVariable_24 : decode cX13_isVariable 24 = .ok (.iaload, 1) := by decide +kernel
theorem dX13_isVariable_25 : decode cX13_isVariable 25 = .ok (.iload_n 1, 1) := by decide +kernel
theorem dX13_isVariable_26 : decode cX13_isVariable 26 = .ok (.if_icmp .ne 5, 3) := by decide +kernel
theorem dX13_isVariable_29 : decode cX13_isVariable 29 = .ok (.iconst 1, 1) := by decide +kernel
theorem dX13_isVariable_30 : decode cX13_isVariable 30 = .ok (.ireturn, 1) := by decide +kernel
theorem dX13_isVariable_31 : decode cX13_isVariable 31 = .ok (.iinc 2 1, 3) := by decide +kernel
theorem dX13_isVariable_34 : decode cX13_isVariable 34 = .ok (.goto (-32), 3) := by decide +kernel
theorem dX13_isVariable_37 : decode cX13_isVariable 37 = .ok (.iconst 0, 1) := by decide +kernel
theorem dX13_isVariable_38 : decode cX13_isVariable 38 = .ok (.ireturn, 1) := by decide +kernel
def EX13_isVariable : List (Nat × Nat) := []
set_option maxHeartbeats 4000000 in
set_option maxRecDepth 20000 in
theorem uX13_isVariable (l : Launch) (dC : Nat → ClassId) (dI : Nat → Nat → Nat) (ca : Nat → ClassId) (base : Nat) (B : jF) (hB : jBok B) (hAp : jAp (dC, dI)) (hB15 : ∀ n G a H, B 15 n G a H ↔ jOb (dC, dI) 15 50 (F15 n G) a H) (hB158 : ∀ n G a H, B 158 n G a H ↔ jAr (dC, dI) (ca 1) (fun j z => 0 ≤ z.toInt ∧ z.toInt ≤ 6) n a H) (hB163 : ∀ n G a H, B 163 n G a H ↔ jAr (dC, dI) (ca 1) (fun j z => 0 ≤ z.toInt ∧ z.toInt ≤ 1599) n a H) (G0 : jT) (H0 : Heap) (r0 : Nat) (a1 : Int32) : Met l yX13_isVariable (jw yX13_isVariable cX13_isVariable 3 (some .boolean)) ({ frames := 0, cells := 0, slots := 0, locals := 0 }) (va_Pc [.ref r0, .int a1] (fun U => U.heap = H0 ∧ jX B base G0 [] H0 ∧ jG dC dI ca base U ∧ G0 r0 = some (15, 0) ∧ jP (dC, dI) G0 H0 [] ∧ True)) (va_Qi (S := Unit) (fun r u => (r = 0 ∨ r = 1) ∧ (True)) (fun u t => jRt (dC, dI) B base G0 EX13_isVariable H0 [] t.heap) (jA base)) 0 0 (jA base) := by
  refine Met.ofW (cc := cX13_isVariable) (maxL := 3) (ret := (some .boolean)) (by decide) rfl ?_
  intro p e s m args below meth c s₁ Bd hml hv
  obtain ⟨rfl, hH0, hX, hG, hg_r0, hP0, hp0⟩ := hv
  have hK := hG.1
  have hx := Bd.exec
  have hb := Bd.bytes
  have hr := Bd.returns
  have hts := atoms_spec (ws := (jw yX13_isVariable cX13_isVariable 3 (some .boolean))) Bd.pre
  have htw : ∀ w ∈ jWl, w.before _ s = true := fun w h => hts w (List.mem_cons_of_mem _ h)
  have hown : s.vm.findClass RX13 = some m.cls := findClass_of_methodNamed Bd.named
  have hlocks := Bd.notSynchronized
  obtain ⟨Q, hQ⟩ : ∃ Q, Q = MQ below (va_Qi (S := Unit) (fun r u => (r = 0 ∨ r = 1) ∧ (True)) (fun u t => jRt (dC, dI) B base G0 EX13_isVariable H0 [] t.heap) (jA base)) ([.ref r0, .int a1] : List Value).toArray s 0 0 (jA base) := ⟨_, rfl⟩
  rw [← hQ]
  have hl := lv_entry ([.ref r0, .int a1]) (n := 3) (Nat.le_of_ble_eq_true rfl)
  rw [lg_entry_eq]
  generalize (lg_sl ([.ref r0, .int a1]) ++ List.replicate (3 - (lg_sl ([.ref r0, .int a1])).length) Slot.unset).toArray = ls at hl ⊢
  have hl : lv_has ls 3 [(0, .ref r0), (1, .int a1)] := hl
  generalize hR : (headSpec (jw yX13_isVariable cX13_isVariable 3 (some .boolean)) ({ frames := 0, cells := 0, slots := 0, locals := 0 })).room = R
  subst hH0
  have hh : jSt (dC, dI) B base G0 G0 EX13_isVariable s.heap 0 0 [] [] [] s.heap [] := jSt.start hX hP0 jMc.nil jIs.nil
  clear hX hP0
  have hk0 : (0 : Int32).toInt = 0 := by decide
  have hk1 : (1 : Int32).toInt = 1 := by decide
  have hly_15_21 := htw (u_lay RX13 TX13 21) (jWc_wsX130 _ (u_in_lay (by decide)))
  have hly_15_23 := htw (u_lay RX13 TX13 23) (jWc_wsX130 _ (u_in_lay (by decide)))
  have hly_15_24 := htw (u_lay RX13 TX13 24) (jWc_wsX130 _ (u_in_lay (by decide)))
  have hlk_119 := (htw (.fieldLink RX13 119 "ProofServerModel$Kernel" "goals" "I") (jWr_59 _ (List.mem_of_getElem? (i := 20) rfl)))
  have hlk_56 := (htw (.fieldLink RX13 56 "ProofServerModel$Kernel" "vars" "[I") (jWr_14 _ (List.mem_of_getElem? (i := 23) rfl)))
  have hlk_59 := (htw (.fieldLink RX13 59 "ProofServerModel$Kernel" "varName" "[I") (jWr_15 _ (List.mem_of_getElem? (i := 0) rfl)))
  have hrg_a1 := jb_rng a1
  refine lv_iconst (v := 0) hx hb dX13_isVariable_0 (by decide) ?_
  refine lv_istore_n (lv' := [(2, .int 0), (0, .ref r0), (1, .int a1)]) hx hb dX13_isVariable_1 rfl hl (by decide) rfl (fun ls hl => ?_)
  have L2 : ∀ (N : Nat) (v2_1 : Int32) (H_1 : Heap) (locs_1 : List Loc), jSt (dC, dI) B base G0 G0 EX13_isVariable s.heap 0 0 [] [] [] H_1 locs_1 → (0 ≤ v2_1.toInt ∧ v2_1.toInt ≤ 6) → (6 - v2_1.toInt : Int) < N → ∀ ls : Array Slot, lv_has ls 3 [(0, .ref r0), (1, .int a1), (2, .int v2_1)] → W p l e R s m ([.ref r0, .int a1] : List Value).toArray below meth c H_1 locs_1 0 0 Q (F0 m 2 ls []) := by
    intro N
    induction N with
    | zero => intro v2_1 H_1 locs_1 hh_1  hi_1 hm; exact absurd hm (by omega)
    | succ N L2 =>
      intro v2_1 H_1 locs_1 hh_1  hi_1 hm_1 ls hl
      obtain ⟨hi_1_0, hi_1_1⟩ := hi_1
      refine lv_aload_n hx hb dX13_isVariable_2 rfl (lv_at hl 0 rfl) ?_
      obtain ⟨v_2, hv_2, hh_3⟩ := hh_1.pin (C := RX13) (T := TX13) (N := 50) hB15 rfl (by decide) hg_r0 (i := 21) (by decide) rfl
      clear hh_1
      obtain ⟨goals_4, rfl, hlogoals_4, hhigoals_4⟩ := hv_2
      refine j7_read hx hb hown hK (C := RX13) (T := TX13) (N := 50) rfl hly_15_21 hlk_119 (hh_3.at 0 rfl) dX13_isVariable_3 ?_
      refine lv_if_le (tgt := 37) hx hb dX13_isVariable_6 (by decide) (fun c_5 => ?_) (fun c_5 => ?_)
      · skip
        have c_5' : goals_4.toInt ≤ 0 := jb_le (rfl) ((by decide)) c_5
        refine lv_iconst (v := 0) hx hb dX13_isVariable_37 (by decide) ?_
        rw [hQ]
        exact W.zret (v := 0) hx hb hr (jb_nz (Or.inl rfl)) (fun t ht hW => ⟨⟨0, (), rfl, ⟨(Or.inl rfl), trivial⟩, hh_3.rt (M1 := []) [] rfl ht⟩, by rw [ht]; try exact hh_3.1.1, fun q h9 hq => by rw [ht]; try exact hh_3.1.2.1 q h9 hq⟩) hh_3.1.2.2 dX13_isVariable_38
      · skip
        have c_5' : goals_4.toInt > 0 := jb_le_n (rfl) ((by decide)) c_5
        refine lv_iload_n hx hb dX13_isVariable_9 rfl (lv_at hl 2 rfl) ?_
        refine lv_aload_n hx hb dX13_isVariable_10 rfl (lv_at hl 0 rfl) ?_
        obtain ⟨v_6, hv_6, hh_7⟩ := hh_3.pin (C := RX13) (T := TX13) (N := 50) hB15 rfl (by decide) hg_r0 (i := 23) (by decide) rfl
        clear hh_3
        obtain ⟨vars_8, rfl, hg_vars_8⟩ := hv_6
        refine j7_read hx hb hown hK (C := RX13) (T := TX13) (N := 50) rfl hly_15_23 hlk_56 (hh_7.at 0 rfl) dX13_isVariable_11 ?_
        refine lv_iconst (v := 0) hx hb dX13_isVariable_14 (by decide) ?_
        refine j7_iald hx hb hK hh_7 hB158 1 rfl (by decide) hg_vars_8 (x := 0) ((by decide)) (by omega) dX13_isVariable_15 (fun z_9 (hz_9 : 0 ≤ z_9.toInt ∧ z_9.toInt ≤ 6) => ?_)
        refine lv_icmp_ge (tgt := 37) hx hb dX13_isVariable_16 (by decide) (fun c_10 => ?_) (fun c_10 => ?_)
        · skip
          have c_10' : v2_1.toInt ≥ z_9.toInt := jb_ge (rfl) (rfl) c_10
          refine lv_iconst (v := 0) hx hb dX13_isVariable_37 (by decide) ?_
          rw [hQ]
          exact W.zret (v := 0) hx hb hr (jb_nz (Or.inl rfl)) (fun t ht hW => ⟨⟨0, (), rfl, ⟨(Or.inl rfl), trivial⟩, hh_7.rt (M1 := []) [] rfl ht⟩, by rw [ht]; try exact hh_7.1.1, fun q h9 hq => by rw [ht]; try exact hh_7.1.2.1 q h9 hq⟩) hh_7.1.2.2 dX13_isVariable_38
        · skip
          have c_10' : v2_1.toInt < z_9.toInt := jb_ge_n (rfl) (rfl) c_10
          refine lv_aload_n hx hb dX13_isVariable_19 rfl (lv_at hl 0 rfl) ?_
          obtain ⟨v_11, hv_11, hh_12⟩ := hh_7.pin (C := RX13) (T := TX13) (N := 50) hB15 rfl (by decide) hg_r0 (i := 24) (by decide) rfl
          clear hh_7
          obtain ⟨varName_13, rfl, hg_varName_13⟩ := hv_11
          refine j7_read hx hb hown hK (C := RX13) (T := TX13) (N := 50) rfl hly_15_24 hlk_59 (hh_12.at 0 rfl) dX13_isVariable_20 ?_
          refine lv_iload_n hx hb dX13_isVariable_23 rfl (lv_at hl 2 rfl) ?_
          refine j7_iald hx hb hK hh_12 hB163 1 rfl (by decide) hg_varName_13 (x := v2_1.toInt) (rfl) (by omega) dX13_isVariable_24 (fun z_14 (hz_14 : 0 ≤ z_14.toInt ∧ z_14.toInt ≤ 1599) => ?_)
          refine lv_iload_n hx hb dX13_isVariable_25 rfl (lv_at hl 1 rfl) ?_
          refine lv_icmp_ne (tgt := 31) hx hb dX13_isVariable_26 (by decide) (fun c_15 => ?_) (fun c_15 => ?_)
          · skip
            have c_15' : z_14.toInt ≠ a1.toInt := jb_ne (rfl) (rfl) c_15
            obtain ⟨z_16, ez_16⟩ : ∃ y : Int32, y = v2_1 + 1 := ⟨_, rfl⟩
            refine lv_iinc (v := z_16) (lv' := [(2, .int z_16), (0, .ref r0), (1, .int a1)]) hx hb dX13_isVariable_31 hl (k := 2) rfl (by rw [ez_16]; rfl) (by decide) rfl (fun ls hl => ?_)
            have hz_16 : z_16.toInt = v2_1.toInt + 1 := by rw [ez_16]; exact jb_iadd2 (rfl) (by decide) (by omega)
            refine lv_goto (tgt := 2) hx hb dX13_isVariable_34 (by decide) ?_
            exact L2 z_16 _ _ (hh_12.sub (L1 := []) [] rfl (M1 := []) [] rfl (I1 := []) [] rfl) (by first | omega | (refine ⟨?_, ?_⟩ <;> (first | omega | rfl | assumption | decide | exact Or.inl rfl | exact Or.inr rfl | (simp only; omega)))) (by omega) _ (lv_sub hl [1, 2, 0] rfl)
          · skip
            have c_15' : z_14.toInt = a1.toInt := jb_ne_n (rfl) (rfl) c_15
            refine lv_iconst (v := 1) hx hb dX13_isVariable_29 (by decide) ?_
            rw [hQ]
            exact W.zret (v := 1) hx hb hr (jb_nz (Or.inr rfl)) (fun t ht hW => ⟨⟨1, (), rfl, ⟨(Or.inr rfl), trivial⟩, hh_12.rt (M1 := []) [] rfl ht⟩, by rw [ht]; try exact hh_12.1.1, fun q h9 hq => by rw [ht]; try exact hh_12.1.2.1 q h9 hq⟩) hh_12.1.2.2 dX13_isVariable_30
  exact L2 (6 - (0 : Int32).toInt : Int).toNat.succ 0 _ _ hh (by first | omega | (refine ⟨?_, ?_⟩ <;> (first | omega | rfl | assumption | decide | exact Or.inl rfl | exact Or.inr rfl | (simp only; omega)))) (by omega) _ (lv_sub hl [1, 2, 0] rfl)
end
section
-- formulas of the reference's kernel as rows of numbers: what a node is, its size, likeness, counting, putting in
abbrev jK.mk (s n a b c y : Nat → Int32) : jK := (s, n, a, b, c, y)
theorem jAgK.rf (C : jK) (N : Int) : jAgK C C N := ⟨fun _ _ => ⟨rfl, rfl, rfl, rfl, rfl⟩, fun _ => rfl⟩
theorem jAgK.so {C D : jK} {N n : Int} (h : jAgK C D N) (h0 : 0 ≤ n) (h1 : n < N) : jSo D.s n = jSo C.s n ∧ jSo D.n n = jSo C.n n ∧ jSo D.a n = jSo C.a n ∧ jSo D.b n = jSo C.b n ∧ jSo D.c n = jSo C.c n := by
  obtain ⟨a1, a2, a3, a4, a5⟩ := h.1 n.toNat (by omega)
  unfold jSo
  exact ⟨by rw [a1], by rw [a2], by rw [a3], by rw [a4], by rw [a5]⟩
theorem jAgK.pts {C D : jK} {N n : Int} (h : jAgK C D N) (h0 : 0 ≤ n) (h1 : n < N) : jPts D n = jPts C n := by
  obtain ⟨a1, a2, a3, a4, a5⟩ := h.so h0 h1
  unfold jPts
  rw [a1, a2]
  have e : jSo D.y (jSo C.n n) = jSo C.y (jSo C.n n) := by unfold jSo; rw [h.2]
  rw [e]
theorem jAgK.pr {C D : jK} {N n : Int} (h : jAgK C D N) (h0 : 0 ≤ n) (h1 : n < N) (k : Int) : jPr D n k = jPr C n k := by
  obtain ⟨a1, a2, a3, a4, a5⟩ := h.so h0 h1
  unfold jPr
  rw [a3, a4, a5]
theorem jAgK.qf {C D : jK} {N n : Int} (h : jAgK C D N) (h0 : 0 ≤ n) (h1 : n < N) : jQf D n = jQf C n := by
  unfold jQf
  rw [(h.so h0 h1).1]
theorem jFm.ag {C D : jK} {N M Y : Int} (hA : jAgK C D N) (hM : N ≤ M) {d : Nat} : ∀ {b n : Int}, jFm C N Y d b n → jFm D M Y d b n := by
  induction d with
  | zero => intro b n h; exact h.elim
  | succ d ih =>
    intro b n h
    obtain ⟨⟨h1, h2, h3, h4, h5, h6, h7, h8, h9⟩, hp⟩ := h
    obtain ⟨a1, a2, -⟩ := hA.so h1 h2
    have ap := hA.pts h1 h2
    refine ⟨⟨h1, by omega, ?_, ?_, ?_, ?_, ?_, ?_, ?_⟩, fun k g0 g1 => ?_⟩
    · rw [a1]; exact h3
    · rw [a1]; exact h4
    · rw [a1, a2]; exact h5
    · rw [a1, a2]; exact h6
    · rw [a1, a2]; exact h7
    · rw [ap]; exact h8
    · rw [ap]; exact h9
    · rw [hA.qf h1 h2, hA.pr h1 h2]; exact ih (hp k g0 (by rw [ap] at g1; exact g1))
theorem jSzF_ag {C D : jK} {N Y : Int} (hA : jAgK C D N) {d : Nat} : ∀ {b n : Int}, jFm C N Y d b n → ∀ e, jSzF D e n = jSzF C e n := by
  induction d with
  | zero => intro b n h; exact h.elim
  | succ d ih =>
    intro b n h e
    have h1 := h.nd.1; have h2 := h.nd.2.1
    cases e with
    | zero => rfl
    | succ e =>
      unfold jSzF
      rw [hA.pts h1 h2]
      have ee : ∀ k, 0 ≤ k → k < jPts C n → jSzF D e (jPr D n k) = jSzF C e (jPr C n k) := fun k g0 g1 => by rw [hA.pr h1 h2]; exact ih (h.2 k g0 g1) e
      have e0 : (if 0 < jPts C n then jSzF D e (jPr D n 0) else 0) = (if 0 < jPts C n then jSzF C e (jPr C n 0) else 0) := by split; exact ee 0 (by omega) (by omega); rfl
      have e1 : (if 1 < jPts C n then jSzF D e (jPr D n 1) else 0) = (if 1 < jPts C n then jSzF C e (jPr C n 1) else 0) := by split; exact ee 1 (by omega) (by omega); rfl
      have e2 : (if 2 < jPts C n then jSzF D e (jPr D n 2) else 0) = (if 2 < jPts C n then jSzF C e (jPr C n 2) else 0) := by split; exact ee 2 (by omega) (by omega); rfl
      rw [e0, e1, e2]
theorem jsz_ag {C D : jK} {N Y b n : Int} {d : Nat} (hA : jAgK C D N) (h : jFm C N Y d b n) : jsz D n = jsz C n := jSzF_ag hA h 4000
-- likeness
/-- the terms that are put in -/
def jTs (C : jK) (N Y : Int) (e : Nat) (T : Nat → Int32) (m : Int) : Prop := ∀ k : Int, 0 ≤ k → k < m → jFm C N Y e 0 (jSo T k) ∧ jsz C (jSo T k) ≤ 5000
theorem jTs.ag {C D : jK} {N M Y m : Int} {e : Nat} {T : Nat → Int32} (h : jTs C N Y e T m) (hA : jAgK C D N) (hM : N ≤ M) : jTs D M Y e T m := fun k g0 g1 => ⟨(h k g0 g1).1.ag hA hM, by rw [jsz_ag hA (h k g0 g1).1]; exact (h k g0 g1).2⟩
def jNw (C D : jK) (N ws wn wa wb wc : Int) : Prop := jAgK C D N ∧ jSo D.s N = ws ∧ jSo D.n N = wn ∧ jSo D.a N = wa ∧ jSo D.b N = wb ∧ jSo D.c N = wc
theorem jNw.fm {C D : jK} {N Y b ws wn wa wb wc : Int} {d : Nat} (h : jNw C D N ws wn wa wb wc) (hnd : jNd D (N + 1) Y b N) (ha : 0 < jPts D N → jFm C N Y d (b + jQf D N) wa) (hb : 1 < jPts D N → jFm C N Y d (b + jQf D N) wb) (hc : 2 < jPts D N → jFm C N Y d (b + jQf D N) wc) : jFm D (N + 1) Y (d + 1) b N := by
  obtain ⟨hA, e1, e2, e3, e4, e5⟩ := h
  refine ⟨hnd, fun k g0 g1 => ?_⟩
  have hp3 : jPts D N ≤ 3 := hnd.2.2.2.2.2.2.2.2
  have hk : k = 0 ∨ k = 1 ∨ k = 2 := by omega
  rcases hk with rfl | rfl | rfl
  · show jFm D (N + 1) Y d (b + jQf D N) (jSo D.a N); rw [e3]; exact (ha g1).ag hA (by omega)
  · show jFm D (N + 1) Y d (b + jQf D N) (jSo D.b N); rw [e4]; exact (hb g1).ag hA (by omega)
  · show jFm D (N + 1) Y d (b + jQf D N) (jSo D.c N); rw [e5]; exact (hc g1).ag hA (by omega)
theorem jNw.sz {C D : jK} {N Y b ws wn wa wb wc : Int} {d : Nat} (h : jNw C D N ws wn wa wb wc) (hd : d + 1 ≤ 4000) (hF : jFm D (N + 1) Y (d + 1) b N) (ha : 0 < jPts D N → jFm C N Y d (b + jQf D N) wa) (hb : 1 < jPts D N → jFm C N Y d (b + jQf D N) wb) (hc : 2 < jPts D N → jFm C N Y d (b + jQf D N) wc) : jsz D N = 1 + (if 0 < jPts D N then jsz C wa else 0) + (if 1 < jPts D N then jsz C wb else 0) + (if 2 < jPts D N then jsz C wc else 0) := by
  obtain ⟨hA, e1, e2, e3, e4, e5⟩ := h
  rw [jsz_step hF hd]
  unfold jSzK
  have q0 : (if 0 < jPts D N then jsz D (jPr D N 0) else 0) = (if 0 < jPts D N then jsz C wa else 0) := by split; (next g => show jsz D (jSo D.a N) = _; rw [e3, jsz_ag hA (ha g)]); rfl
  have q1 : (if 1 < jPts D N then jsz D (jPr D N 1) else 0) = (if 1 < jPts D N then jsz C wb else 0) := by split; (next g => show jsz D (jSo D.b N) = _; rw [e4, jsz_ag hA (hb g)]); rfl
  have q2 : (if 2 < jPts D N then jsz D (jPr D N 2) else 0) = (if 2 < jPts D N then jsz C wc else 0) := by split; (next g => show jsz D (jSo D.c N) = _; rw [e5, jsz_ag hA (hc g)]); rfl
  rw [q0, q1, q2]
theorem jFm.leaf {C : jK} {N Y b n : Int} {d : Nat} (h : jFm C N Y d b n) (h0 : jPts C n = 0) {b1 : Int} (h1 : jSo C.s n = 10 → jSo C.n n < b1) {e : Nat} (he : 1 ≤ e) : jFm C N Y e b1 n ∧ jsz C n = 1 := by
  obtain ⟨q1, q2, q3, q4, q5, q6, q7⟩ := h.nd
  cases e with
  | zero => omega
  | succ e =>
    refine ⟨⟨⟨q1, q2, q3, q4, q5, fun q => ⟨(q6 q).1, h1 q⟩, q7⟩, fun k g0 g1 => by omega⟩, ?_⟩
    unfold jsz
    show 1 + (if 0 < jPts C n then jSzF C 3999 (jPr C n 0) else 0) + (if 1 < jPts C n then jSzF C 3999 (jPr C n 1) else 0) + (if 2 < jPts C n then jSzF C 3999 (jPr C n 2) else 0) = 1
    rw [h0]; simp
theorem jIf4 (p c A B E : Int) : (p = 0 → c + (if 0 < p then A else 0) + (if 1 < p then B else 0) + (if 2 < p then E else 0) = c) ∧ (p = 1 → c + (if 0 < p then A else 0) + (if 1 < p then B else 0) + (if 2 < p then E else 0) = c + A) ∧ (p = 2 → c + (if 0 < p then A else 0) + (if 1 < p then B else 0) + (if 2 < p then E else 0) = c + A + B) ∧ (p = 3 → c + (if 0 < p then A else 0) + (if 1 < p then B else 0) + (if 2 < p then E else 0) = c + A + B + E) := by
  refine ⟨fun h => ?_, fun h => ?_, fun h => ?_, fun h => ?_⟩ <;> subst h <;> simp
section J12
variable {p : Program} {l : Launch} {e : Env} {R : Room} {s : State} {m : MethodId} {args : Array Value} {below : List Frame} {meth : Method} {c : Code} {H : Heap} {locs : List Loc} {cells slots : Nat} {Q : State → Prop}
variable {cc : ByteArray} {pc : Nat} {ls : Array Slot} {rest : List Value} {dC : Nat → ClassId} {dI : Nat → Nat → Nat} {ca : Nat → ClassId} {B : jF} {base : Nat} {G0 G : jT} {E : List (Nat × Nat)} {H0 : Heap} {zc zs : Nat} {L : List jPin} {M : List jCt} {I : List jIv} {a k n : Nat} {P : Nat → Int32 → Prop} {cA : ClassId} {tys : List (ClassId × FieldType)}
end J12
end
section
def EX13_nodeK : List (Nat × Nat) := [(15, 5), (150, 0), (151, 0), (152, 0), (153, 0), (154, 0)]
set_option maxHeartbeats 4000000 in
set_option maxRecDepth 20000 in
theorem uX13_nodeK (l : Launch) (dC : Nat → ClassId) (dI : Nat → Nat → Nat) (ca : Nat → ClassId) (base : Nat) (B : jF) (hB : jBok B) (hAp : jAp (dC, dI)) (hB15 : ∀ n G a H, B 15 n G a H ↔ jOb (dC, dI) 15 50 (F15 n G) a H) (hB150 : ∀ n G a H, B 150 n G a H ↔ jAr (dC, dI) (ca 1) (fun j z => True) n a H) (hB151 : ∀ n G a H, B 151 n G a H ↔ jAr (dC, dI) (ca 1) (fun j z => True) n a H) (hB152 : ∀ n G a H, B 152 n G a H ↔ jAr (dC, dI) (ca 1) (fun j z => True) n a H) (hB153 : ∀ n G a H, B 153 n G a H ↔ jAr (dC, dI) (ca 1) (fun j z => True) n a H) (hB154 : ∀ n G a H, B 154 n G a H ↔ jAr (dC, dI) (ca 1) (fun j z => True) n a H) (hB165 : ∀ n G a H, B 165 n G a H ↔ jAr (dC, dI) (ca 1) (fun j z => 0 ≤ z.toInt ∧ z.toInt ≤ 3) n a H) (G0 : jT) (H0 : Heap) (r0 : Nat) (a1 : Int32) (a2 : Int32) (a3 : Int32) (a4 : Int32) (a5 : Int32) (pn : Int32) (zs : Nat) (zn : Nat) (za : Nat) (zb : Nat) (zc : Nat) (zy : Nat) (C : jK) : Met l yX13_node (jw yX13_node cX13_node 6 (some .int)) ({ frames := 0, cells := 0, slots := 0, locals := 0 }) (va_Pc [.ref r0, .int a1, .int a2, .int a3, .int a4, .int a5] (fun U => U.heap = H0 ∧ jX B base G0 [] H0 ∧ jG dC dI ca base U ∧ G0 r0 = some (15, 0) ∧ G0 zs = some (150, 120000) ∧ G0 zn = some (151, 120000) ∧ G0 za = some (152, 120000) ∧ G0 zb = some (153, 120000) ∧ G0 zc = some (154, 120000) ∧ G0 zy = some (165, 16) ∧ jP (dC, dI) G0 H0 [(r0, 15, 5, .int pn), (r0, 15, 0, .ref zs), (r0, 15, 1, .ref zn), (r0, 15, 2, .ref za), (r0, 15, 3, .ref zb), (r0, 15, 4, .ref zc), (r0, 15, 14, .ref zy)] ∧ jMc (dC, dI) G0 H0 [(zs, 150, 120000, ca 1, C.s), (zn, 151, 120000, ca 1, C.n), (za, 152, 120000, ca 1, C.a), (zb, 153, 120000, ca 1, C.b), (zc, 154, 120000, ca 1, C.c), (zy, 165, 16, ca 1, C.y)] ∧ 0 ≤ pn.toInt ∧ pn.toInt ≤ 119999)) (va_Qi (S := Int32 × jK) (fun r u => (r.toInt = pn.toInt ∧ u.1.toInt = pn.toInt + 1 ∧ jNw C u.2 pn.toInt a1.toInt a2.toInt a3.toInt a4.toInt a5.toInt)) (fun u t => jRt (dC, dI) B base G0 EX13_nodeK H0 [(r0, 15, 5, .int u.1)] t.heap ∧ jMc (dC, dI) G0 t.heap [(zs, 150, 120000, ca 1, u.2.s), (zn, 151, 120000, ca 1, u.2.n), (za, 152, 120000, ca 1, u.2.a), (zb, 153, 120000, ca 1, u.2.b), (zc, 154, 120000, ca 1, u.2.c), (zy, 165, 16, ca 1, u.2.y)]) (jA base)) 0 0 (jA base) := by
  refine Met.ofW (cc := cX13_node) (maxL := 6) (ret := (some .int)) (by decide) rfl ?_
  intro p e s m args below meth c s₁ Bd hml hv
  obtain ⟨rfl, hH0, hX, hG, hg_r0, hg_zs, hg_zn, hg_za, hg_zb, hg_zc, hg_zy, hP0, hM0, hp0, hp1⟩ := hv
  have hK := hG.1
  have hx := Bd.exec
  have hb := Bd.bytes
  have hr := Bd.returns
  have hts := atoms_spec (ws := (jw yX13_node cX13_node 6 (some .int))) Bd.pre
  have htw : ∀ w ∈ jWl, w.before _ s = true := fun w h => hts w (List.mem_cons_of_mem _ h)
  have hown : s.vm.findClass RX13 = some m.cls := findClass_of_methodNamed Bd.named
  have hlocks := Bd.notSynchronized
  obtain ⟨Q, hQ⟩ : ∃ Q, Q = MQ below (va_Qi (S := Int32 × jK) (fun r u => (r.toInt = pn.toInt ∧ u.1.toInt = pn.toInt + 1 ∧ jNw C u.2 pn.toInt a1.toInt a2.toInt a3.toInt a4.toInt a5.toInt)) (fun u t => jRt (dC, dI) B base G0 EX13_nodeK H0 [(r0, 15, 5, .int u.1)] t.heap ∧ jMc (dC, dI) G0 t.heap [(zs, 150, 120000, ca 1, u.2.s), (zn, 151, 120000, ca 1, u.2.n), (za, 152, 120000, ca 1, u.2.a), (zb, 153, 120000, ca 1, u.2.b), (zc, 154, 120000, ca 1, u.2.c), (zy, 165, 16, ca 1, u.2.y)]) (jA base)) ([.ref r0, .int a1, .int a2, .int a3, .int a4, .int a5] : List Value).toArray s 0 0 (jA base) := ⟨_, rfl⟩
  rw [← hQ]
  have hl := lv_entry ([.ref r0, .int a1, .int a2, .int a3, .int a4, .int a5]) (n := 6) (Nat.le_of_ble_eq_true rfl)
  rw [lg_entry_eq]
  generalize (lg_sl ([.ref r0, .int a1, .int a2, .int a3, .int a4, .int a5]) ++ List.replicate (6 - (lg_sl ([.ref r0, .int a1, .int a2, .int a3, .int a4, .int a5])).length) Slot.unset).toArray = ls at hl ⊢
  have hl : lv_has ls 6 [(0, .ref r0), (1, .int a1), (2, .int a2), (3, .int a3), (4, .int a4), (5, .int a5)] := hl
  generalize hR : (headSpec (jw yX13_node cX13_node 6 (some .int)) ({ frames := 0, cells := 0, slots := 0, locals := 0 })).room = R
  subst hH0
  have hh : jSt (dC, dI) B base G0 G0 EX13_nodeK s.heap 0 0 [(r0, 15, 5, .int pn), (r0, 15, 0, .ref zs), (r0, 15, 1, .ref zn), (r0, 15, 2, .ref za), (r0, 15, 3, .ref zb), (r0, 15, 4, .ref zc), (r0, 15, 14, .ref zy)] [(zs, 150, 120000, ca 1, C.s), (zn, 151, 120000, ca 1, C.n), (za, 152, 120000, ca 1, C.a), (zb, 153, 120000, ca 1, C.b), (zc, 154, 120000, ca 1, C.c), (zy, 165, 16, ca 1, C.y)] [] s.heap [] := jSt.start hX hP0 hM0 jIs.nil
  clear hX hP0
  have hk0 : (0 : Int32).toInt = 0 := by decide
  have hk1 : (1 : Int32).toInt = 1 := by decide
  have hly_15_0 := htw (u_lay RX13 TX13 0) (jWc_wsX130 _ (u_in_lay (by decide)))
  have hly_15_1 := htw (u_lay RX13 TX13 1) (jWc_wsX130 _ (u_in_lay (by decide)))
  have hly_15_2 := htw (u_lay RX13 TX13 2) (jWc_wsX130 _ (u_in_lay (by decide)))
  have hly_15_3 := htw (u_lay RX13 TX13 3) (jWc_wsX130 _ (u_in_lay (by decide)))
  have hly_15_4 := htw (u_lay RX13 TX13 4) (jWc_wsX130 _ (u_in_lay (by decide)))
  have hly_15_5 := htw (u_lay RX13 TX13 5) (jWc_wsX130 _ (u_in_lay (by decide)))
  have hlk_12 := (htw (.fieldLink RX13 12 "ProofServerModel$Kernel" "sort" "[I") (jWr_14 _ (List.mem_of_getElem? (i := 9) rfl)))
  have hlk_99 := (htw (.fieldLink RX13 99 "ProofServerModel$Kernel" "nodes" "I") (jWr_59 _ (List.mem_of_getElem? (i := 14) rfl)))
  have hlk_16 := (htw (.fieldLink RX13 16 "ProofServerModel$Kernel" "name" "[I") (jWr_14 _ (List.mem_of_getElem? (i := 10) rfl)))
  have hlk_19 := (htw (.fieldLink RX13 19 "ProofServerModel$Kernel" "one" "[I") (jWr_14 _ (List.mem_of_getElem? (i := 11) rfl)))
  have hlk_22 := (htw (.fieldLink RX13 22 "ProofServerModel$Kernel" "two" "[I") (jWr_14 _ (List.mem_of_getElem? (i := 12) rfl)))
  have hlk_25 := (htw (.fieldLink RX13 25 "ProofServerModel$Kernel" "three" "[I") (jWr_14 _ (List.mem_of_getElem? (i := 13) rfl)))
  have hrg_a1 := jb_rng a1
  have hrg_a2 := jb_rng a2
  have hrg_a3 := jb_rng a3
  have hrg_a4 := jb_rng a4
  have hrg_a5 := jb_rng a5
  refine lv_aload_n hx hb dX13_node_0 rfl (lv_at hl 0 rfl) ?_
  refine j7_read hx hb hown hK (C := RX13) (T := TX13) (N := 50) rfl hly_15_0 hlk_12 (hh.at 1 rfl) dX13_node_1 ?_
  refine lv_aload_n hx hb dX13_node_4 rfl (lv_at hl 0 rfl) ?_
  refine j7_read hx hb hown hK (C := RX13) (T := TX13) (N := 50) rfl hly_15_5 hlk_99 (hh.at 0 rfl) dX13_node_5 ?_
  refine lv_iload_n hx hb dX13_node_8 rfl (lv_at hl 1 rfl) ?_
  refine j7_iastU hx hb hK hh hB hB150 1 rfl (by decide) (by decide) rfl 0 rfl (M1 := [(zn, 151, 120000, ca 1, C.n), (za, 152, 120000, ca 1, C.a), (zb, 153, 120000, ca 1, C.b), (zc, 154, 120000, ca 1, C.c), (zy, 165, 16, ca 1, C.y)]) [1, 2, 3, 4, 5] rfl rfl rfl hg_zs (x := pn.toInt) (rfl) (by omega) (trivial) dX13_node_9 (fun H_1 locs_1 fs_2 hv_1 ho_1 hh_1 => ?_)
  have hv_1 : jSo fs_2 (pn.toInt) = a1.toInt := by unfold jSo; rw [hv_1]; try exact rfl
  clear hh
  refine lv_aload_n hx hb dX13_node_10 rfl (lv_at hl 0 rfl) ?_
  refine j7_read hx hb hown hK (C := RX13) (T := TX13) (N := 50) rfl hly_15_1 hlk_16 (hh_1.at 2 rfl) dX13_node_11 ?_
  refine lv_aload_n hx hb dX13_node_14 rfl (lv_at hl 0 rfl) ?_
  refine j7_read hx hb hown hK (C := RX13) (T := TX13) (N := 50) rfl hly_15_5 hlk_99 (hh_1.at 0 rfl) dX13_node_15 ?_
  refine lv_iload_n hx hb dX13_node_18 rfl (lv_at hl 2 rfl) ?_
  refine j7_iastU hx hb hK hh_1 hB hB151 1 rfl (by decide) (by decide) rfl 1 rfl (M1 := [(zs, 150, 120000, ca 1, fs_2), (za, 152, 120000, ca 1, C.a), (zb, 153, 120000, ca 1, C.b), (zc, 154, 120000, ca 1, C.c), (zy, 165, 16, ca 1, C.y)]) [0, 2, 3, 4, 5] rfl rfl rfl hg_zn (x := pn.toInt) (rfl) (by omega) (trivial) dX13_node_19 (fun H_3 locs_3 fs_4 hv_3 ho_3 hh_3 => ?_)
  have hv_3 : jSo fs_4 (pn.toInt) = a2.toInt := by unfold jSo; rw [hv_3]; try exact rfl
  clear hh_1
  refine lv_aload_n hx hb dX13_node_20 rfl (lv_at hl 0 rfl) ?_
  refine j7_read hx hb hown hK (C := RX13) (T := TX13) (N := 50) rfl hly_15_2 hlk_19 (hh_3.at 3 rfl) dX13_node_21 ?_
  refine lv_aload_n hx hb dX13_node_24 rfl (lv_at hl 0 rfl) ?_
  refine j7_read hx hb hown hK (C := RX13) (T := TX13) (N := 50) rfl hly_15_5 hlk_99 (hh_3.at 0 rfl) dX13_node_25 ?_
  refine lv_iload_n hx hb dX13_node_28 rfl (lv_at hl 3 rfl) ?_
  refine j7_iastU hx hb hK hh_3 hB hB152 1 rfl (by decide) (by decide) rfl 2 rfl (M1 := [(zn, 151, 120000, ca 1, fs_4), (zs, 150, 120000, ca 1, fs_2), (zb, 153, 120000, ca 1, C.b), (zc, 154, 120000, ca 1, C.c), (zy, 165, 16, ca 1, C.y)]) [0, 1, 3, 4, 5] rfl rfl rfl hg_za (x := pn.toInt) (rfl) (by omega) (trivial) dX13_node_29 (fun H_5 locs_5 fs_6 hv_5 ho_5 hh_5 => ?_)
  have hv_5 : jSo fs_6 (pn.toInt) = a3.toInt := by unfold jSo; rw [hv_5]; try exact rfl
  clear hh_3
  refine lv_aload_n hx hb dX13_node_30 rfl (lv_at hl 0 rfl) ?_
  refine j7_read hx hb hown hK (C := RX13) (T := TX13) (N := 50) rfl hly_15_3 hlk_22 (hh_5.at 4 rfl) dX13_node_31 ?_
  refine lv_aload_n hx hb dX13_node_34 rfl (lv_at hl 0 rfl) ?_
  refine j7_read hx hb hown hK (C := RX13) (T := TX13) (N := 50) rfl hly_15_5 hlk_99 (hh_5.at 0 rfl) dX13_node_35 ?_
  refine lv_iload hx hb dX13_node_38 (lv_at hl 4 rfl) ?_
  refine j7_iastU hx hb hK hh_5 hB hB153 1 rfl (by decide) (by decide) rfl 3 rfl (M1 := [(za, 152, 120000, ca 1, fs_6), (zn, 151, 120000, ca 1, fs_4), (zs, 150, 120000, ca 1, fs_2), (zc, 154, 120000, ca 1, C.c), (zy, 165, 16, ca 1, C.y)]) [0, 1, 2, 4, 5] rfl rfl rfl hg_zb (x := pn.toInt) (rfl) (by omega) (trivial) dX13_node_40 (fun H_7 locs_7 fs_8 hv_7 ho_7 hh_7 => ?_)
  have hv_7 : jSo fs_8 (pn.toInt) = a4.toInt := by unfold jSo; rw [hv_7]; try exact rfl
  clear hh_5
  refine lv_aload_n hx hb dX13_node_41 rfl (lv_at hl 0 rfl) ?_
  refine j7_read hx hb hown hK (C := RX13) (T := TX13) (N := 50) rfl hly_15_4 hlk_25 (hh_7.at 5 rfl) dX13_node_42 ?_
  refine lv_aload_n hx hb dX13_node_45 rfl (lv_at hl 0 rfl) ?_
  refine j7_read hx hb hown hK (C := RX13) (T := TX13) (N := 50) rfl hly_15_5 hlk_99 (hh_7.at 0 rfl) dX13_node_46 ?_
  refine lv_iload hx hb dX13_node_49 (lv_at hl 5 rfl) ?_
  refine j7_iastU hx hb hK hh_7 hB hB154 1 rfl (by decide) (by decide) rfl 4 rfl (M1 := [(zb, 153, 120000, ca 1, fs_8), (za, 152, 120000, ca 1, fs_6), (zn, 151, 120000, ca 1, fs_4), (zs, 150, 120000, ca 1, fs_2), (zy, 165, 16, ca 1, C.y)]) [0, 1, 2, 3, 5] rfl rfl rfl hg_zc (x := pn.toInt) (rfl) (by omega) (trivial) dX13_node_51 (fun H_9 locs_9 fs_10 hv_9 ho_9 hh_9 => ?_)
  have hv_9 : jSo fs_10 (pn.toInt) = a5.toInt := by unfold jSo; rw [hv_9]; try exact rfl
  clear hh_7
  refine lv_aload_n hx hb dX13_node_52 rfl (lv_at hl 0 rfl) ?_
  refine lv_dup hx hb dX13_node_53 rfl ?_
  refine j7_read hx hb hown hK (C := RX13) (T := TX13) (N := 50) rfl hly_15_5 hlk_99 (hh_9.at 0 rfl) dX13_node_54 ?_
  refine lv_iconst (v := 1) hx hb dX13_node_57 (by decide) ?_
  refine lv_iadd hx hb dX13_node_58 ?_
  refine lv_topi (fun z_11 ez_11 => ?_)
  have hz_11 : z_11.toInt = pn.toInt + 1 := by rw [ez_11]; exact jb_iadd2 (rfl) ((by decide)) (by omega)
  refine j7_put hx hb hown hK hh_9 hB hAp hB15 (C := RX13) (T := TX13) (N := 50) rfl (by decide) hg_r0 (i := 5) (by decide) hly_15_5 rfl hlk_99 rfl (ty := .int) (v := .int z_11) (by decide +kernel) rfl rfl (⟨_, rfl, by omega, by omega⟩) rfl (L1 := [(r0, 15, 0, .ref zs), (r0, 15, 1, .ref zn), (r0, 15, 2, .ref za), (r0, 15, 3, .ref zb), (r0, 15, 4, .ref zc), (r0, 15, 14, .ref zy)]) [1, 2, 3, 4, 5, 6] rfl rfl rfl dX13_node_59 (fun H_12 locs_12 hh_12 => ?_)
  clear hh_9
  refine lv_aload_n hx hb dX13_node_62 rfl (lv_at hl 0 rfl) ?_
  refine j7_read hx hb hown hK (C := RX13) (T := TX13) (N := 50) rfl hly_15_5 hlk_99 (hh_12.at 0 rfl) dX13_node_63 ?_
  refine lv_iconst (v := 1) hx hb dX13_node_66 (by decide) ?_
  refine lv_isub hx hb dX13_node_67 ?_
  refine lv_topi (fun z_13 ez_13 => ?_)
  have hz_13 : z_13.toInt = z_11.toInt - 1 := by rw [ez_13]; exact jb_isub2 (rfl) ((by decide)) (by omega)
  rw [hQ]
  exact W.iret (v := z_13) hx hb hr (fun t ht hW => ⟨⟨z_13, (z_11, (jK.mk fs_2 fs_4 fs_6 fs_8 fs_10 C.y)), rfl, by (try dsimp only); refine ⟨by omega, by omega, ⟨fun j hj => ⟨?_, ?_, ?_, ?_, ?_⟩, fun _ => rfl⟩, ?_, ?_, ?_, ?_, ?_⟩ <;> first | exact ho_1 j (by omega) (by omega) | exact ho_3 j (by omega) (by omega) | exact ho_5 j (by omega) (by omega) | exact ho_7 j (by omega) (by omega) | exact ho_9 j (by omega) (by omega) | exact hv_1 | exact hv_3 | exact hv_5 | exact hv_7 | exact hv_9, ⟨hh_12.rt (M1 := [(r0, 15, 5, .int z_11)]) [0] rfl ht, by rw [ht]; exact hh_12.2.2.2.2.2.2.2.1.sub [4, 3, 2, 1, 0, 5] rfl⟩⟩, by rw [ht]; try exact hh_12.1.1, fun q h9 hq => by rw [ht]; try exact hh_12.1.2.1 q h9 hq⟩) hh_12.1.2.2 dX13_node_68
end
section
-- goals, hypotheses, facts of the reference's kernel: slots of arrays
def jUpd (n : Int) (f g : Nat → Int32) (i v : Int) : Prop := jSo g i = v ∧ ∀ j : Int, 0 ≤ j → j < n → j ≠ i → jSo g j = jSo f j
theorem jUpd.mk {n : Nat} {f g : Nat → Int32} {e i v : Int} (hv : jSo g e = v) (ho : ∀ j, j < n → j ≠ e.toNat → g j = f j) (he : e = i) (h0 : 0 ≤ i) : jUpd n f g i v := by
  subst he
  refine ⟨hv, fun j g0 g1 g2 => ?_⟩
  unfold jSo
  rw [ho j.toNat (by omega) (by omega)]
def jCpy (fg fh fp gg gh gp : Nat → Int32) (x y : Int) : Prop := jUpd 46 fg gg y (jSo fg x) ∧ jUpd 46 fh gh y (jSo fh x) ∧ (∀ i : Int, 0 ≤ i → i < 8 → jSo gp (8 * y + i) = jSo fp (8 * x + i)) ∧ ∀ j : Int, 0 ≤ j → j < 368 → (j < 8 * y ∨ 8 * y + 8 ≤ j) → jSo gp j = jSo fp j
def jPq (f g : Nat → Int32) (x y k : Int) : Prop := (∀ i : Int, 0 ≤ i → i < k → jSo g (8 * y + i) = jSo f (8 * x + i)) ∧ ∀ j : Int, 0 ≤ j → j < 368 → (j < 8 * y ∨ 8 * y + k ≤ j) → jSo g j = jSo f j
theorem jPq.rf (f : Nat → Int32) (x y : Int) : jPq f f x y 0 := ⟨fun i h0 h1 => by omega, fun _ _ _ _ => rfl⟩
theorem jPq.s {f g h : Nat → Int32} {x y k e e2 z : Int} (hq : jPq f g x y k) (hv : jSo h e = z) (ho : ∀ j, j < 368 → j ≠ e.toNat → h j = g j) (he : e = 8 * y + k) (hz : z = jSo g e2) (he2 : e2 = 8 * x + k) (hx : 0 ≤ x ∧ x ≤ 45) (hy : 0 ≤ y ∧ y ≤ 45) (hk : 0 ≤ k ∧ k < 8) : jPq f h x y (k + 1) := by
  have hU := jUpd.mk (n := 368) hv ho he (by omega)
  subst he2
  have e1 : jSo g (8 * x + k) = jSo f (8 * x + k) := hq.2 _ (by omega) (by omega) (by omega)
  refine ⟨fun i h0 h1 => ?_, fun j h0 h1 h2 => ?_⟩
  · by_cases q : i = k
    · rw [q, hU.1, hz, e1]
    · rw [hU.2 _ (by omega) (by omega) (by omega)]; exact hq.1 i h0 (by omega)
  · rw [hU.2 j h0 h1 (by omega)]; exact hq.2 j h0 h1 (by omega)
def jSe (fg fh fp gg gh gp : Nat → Int32) (i j : Int) : Prop := jSo gg j = jSo fg i ∧ jSo gh j = jSo fh i ∧ ∀ k : Int, 0 ≤ k → k < 8 → jSo gp (8 * j + k) = jSo fp (8 * i + k)
theorem jSe.rf (fg fh fp : Nat → Int32) (i : Int) : jSe fg fh fp fg fh fp i i := ⟨rfl, rfl, fun _ _ _ => rfl⟩
theorem jCpy.at {fg fh fp gg gh gp hg hh hp : Nat → Int32} {x y i : Int} (h : jCpy gg gh gp hg hh hp x y) (hs : jSe fg fh fp gg gh gp i x) : jSe fg fh fp hg hh hp i y := ⟨h.1.1.trans hs.1, h.2.1.1.trans hs.2.1, fun k g0 g1 => (h.2.2.1 k g0 g1).trans (hs.2.2 k g0 g1)⟩
theorem jCpy.off {fg fh fp gg gh gp hg hh hp : Nat → Int32} {x y i j : Int} (h : jCpy gg gh gp hg hh hp x y) (hs : jSe fg fh fp gg gh gp i j) (hj : 0 ≤ j) (hj1 : j ≤ 45) (hn : j ≠ y) (hy : 0 ≤ y) : jSe fg fh fp hg hh hp i j := ⟨(h.1.2 j hj (by omega) hn).trans hs.1, (h.2.1.2 j hj (by omega) hn).trans hs.2.1, fun k g0 g1 => (h.2.2.2 _ (by omega) (by omega) (by omega)).trans (hs.2.2 k g0 g1)⟩
def jT0 (fg fh fp gg gh gp : Nat → Int32) (p v : Int) : Prop := (∀ j : Int, 0 ≤ j → j < v → jSe fg fh fp gg gh gp (j + 1) j) ∧ ∀ j : Int, v ≤ j → j < p → jSe fg fh fp gg gh gp j j
theorem jT0.rf (fg fh fp : Nat → Int32) (p : Int) : jT0 fg fh fp fg fh fp p 0 := ⟨fun j h0 h1 => by omega, fun _ _ _ => jSe.rf _ _ _ _⟩
theorem jT0.s {fg fh fp gg gh gp hg hh hp : Nat → Int32} {p v x y : Int} (h : jT0 fg fh fp gg gh gp p v) (hc : jCpy gg gh gp hg hh hp x y) (hx : x = v + 1) (hy : y = v) (h0 : 0 ≤ v) (h1 : v + 1 < p) (h2 : p ≤ 46) : jT0 fg fh fp hg hh hp p (v + 1) := by
  subst hx; subst hy
  refine ⟨fun j g0 g1 => ?_, fun j g0 g1 => ?_⟩
  · by_cases q : j = y
    · rw [q]; exact hc.at (h.2 _ (by omega) h1)
    · exact hc.off (h.1 j g0 (by omega)) g0 (by omega) q h0
  · exact hc.off (h.2 j (by omega) g1) (by omega) (by omega) (by omega) h0
def jTu1 (fg fh fp gg gh gp : Nat → Int32) (p n v : Int) : Prop := (∀ j : Int, v < j → j < p → jSe fg fh fp gg gh gp j (j + n - 1)) ∧ ∀ j : Int, 0 ≤ j → j ≤ v → jSe fg fh fp gg gh gp j j
theorem jTu1.rf (fg fh fp : Nat → Int32) (p n : Int) : jTu1 fg fh fp fg fh fp p n (p - 1) := ⟨fun j h0 h1 => by omega, fun _ _ _ => jSe.rf _ _ _ _⟩
theorem jTu1.s {fg fh fp gg gh gp hg hh hp : Nat → Int32} {p n v x y : Int} (h : jTu1 fg fh fp gg gh gp p n v) (hc : jCpy gg gh gp hg hh hp x y) (hx : x = v) (hy : y = v + n - 1) (h0 : 0 < v) (h1 : v < p) (h3 : 1 ≤ n) (h2 : p + n ≤ 46) : jTu1 fg fh fp hg hh hp p n (v - 1) := by
  subst hx; subst hy
  refine ⟨fun j g0 g1 => ?_, fun j g0 g1 => ?_⟩
  · by_cases q : j = x
    · rw [q]; exact hc.at (h.2 _ (by omega) (by omega))
    · exact hc.off (h.1 j (by omega) g1) (by omega) (by omega) (by omega) (by omega)
  · exact hc.off (h.2 j g0 (by omega)) g0 (by omega) (by omega) (by omega)
def jTu2 (fg fh fp gg gh gp : Nat → Int32) (p n v : Int) : Prop := (∀ j : Int, 0 < j → j < p → jSe fg fh fp gg gh gp j (j + n - 1)) ∧ ∀ j : Int, 0 ≤ j → j < v → jSe fg fh fp gg gh gp 0 j
theorem jTu1.two {fg fh fp gg gh gp : Nat → Int32} {p n v : Int} (h : jTu1 fg fh fp gg gh gp p n v) (hv : v = 0) : jTu2 fg fh fp gg gh gp p n 1 := by
  subst hv
  exact ⟨h.1, fun j g0 g1 => by rw [show j = 0 by omega]; exact h.2 0 (by omega) (by omega)⟩
theorem jTu2.s {fg fh fp gg gh gp hg hh hp : Nat → Int32} {p n v x y : Int} (h : jTu2 fg fh fp gg gh gp p n v) (hc : jCpy gg gh gp hg hh hp x y) (hx : x = 0) (hy : y = v) (h0 : 1 ≤ v) (h1 : v < n) (h2 : p + n ≤ 46) (h3 : 0 ≤ p) : jTu2 fg fh fp hg hh hp p n (v + 1) := by
  subst hx; subst hy
  refine ⟨fun j g0 g1 => hc.off (h.1 j g0 g1) (by omega) (by omega) (by omega) (by omega), fun j g0 g1 => ?_⟩
  by_cases q : j = y
  · rw [q]; exact hc.at (h.2 0 (by omega) (by omega))
  · exact hc.off (h.2 j g0 (by omega)) g0 (by omega) q (by omega)
def jDq (f g : Nat → Int32) (x h v : Int) : Prop := (∀ k : Int, 0 ≤ k → k < 8 → (k < h ∨ v ≤ k → jSo g (8 * x + k) = jSo f (8 * x + k)) ∧ (h ≤ k ∧ k < v → jSo g (8 * x + k) = jSo f (8 * x + (k + 1)))) ∧ ∀ j : Int, 0 ≤ j → j < 368 → (j < 8 * x ∨ 8 * x + 8 ≤ j) → jSo g j = jSo f j
theorem jDq.rf (f : Nat → Int32) (x h : Int) : jDq f f x h h := ⟨fun k _ _ => ⟨fun _ => rfl, fun q => by omega⟩, fun _ _ _ _ => rfl⟩
theorem jDq.s {f g r : Nat → Int32} {x h v e e2 z : Int} (hq : jDq f g x h v) (hv : jSo r e = z) (ho : ∀ j, j < 368 → j ≠ e.toNat → r j = g j) (he : e = 8 * x + v) (hz : z = jSo g e2) (he2 : e2 = 8 * x + v + 1) (hx : 0 ≤ x ∧ x ≤ 45) (hh : 0 ≤ h ∧ h ≤ v ∧ v < 7) : jDq f r x h (v + 1) := by
  have hU := jUpd.mk (n := 368) hv ho he (by omega)
  have e1 := (hq.1 (v + 1) (by omega) (by omega)).1 (Or.inr (by omega))
  rw [show 8 * x + v + 1 = 8 * x + (v + 1) by omega] at he2
  subst he2
  refine ⟨fun k h0 h1 => ⟨fun q => ?_, fun q => ?_⟩, fun j h0 h1 h2 => ?_⟩
  · rw [hU.2 _ (by omega) (by omega) (by omega)]; exact (hq.1 k h0 h1).1 (by omega)
  · by_cases w : k = v
    · rw [w, hU.1, hz, e1]
    · rw [hU.2 _ (by omega) (by omega) (by omega)]; exact (hq.1 k h0 h1).2 (by omega)
  · rw [hU.2 j h0 h1 (by omega)]; exact hq.2 j h0 h1 h2
def jSl (P : Int → Prop) (fg fh fp : Nat → Int32) (g : Int) : Prop := P (jSo fg g) ∧ 0 ≤ jSo fh g ∧ jSo fh g ≤ 8 ∧ ∀ k : Int, 0 ≤ k → k < jSo fh g → P (jSo fp (8 * g + k))
def jGl (P : Int → Prop) (fg fh fp : Nat → Int32) (n : Int) : Prop := ∀ g : Int, 0 ≤ g → g < n → jSl P fg fh fp g
def jFa (P : Int → Prop) (ff : Nat → Int32) (n : Int) : Prop := ∀ k : Int, 0 ≤ k → k < n → P (jSo ff k)
theorem jSl.mono {P P1 : Int → Prop} {fg fh fp : Nat → Int32} {g : Int} (h : jSl P fg fh fp g) (hP : ∀ x, P x → P1 x) : jSl P1 fg fh fp g := ⟨hP _ h.1, h.2.1, h.2.2.1, fun k g0 g1 => hP _ (h.2.2.2 k g0 g1)⟩
theorem jGl.mono {P P1 : Int → Prop} {fg fh fp : Nat → Int32} {n : Int} (h : jGl P fg fh fp n) (hP : ∀ x, P x → P1 x) : jGl P1 fg fh fp n := fun g g0 g1 => (h g g0 g1).mono hP
theorem jFa.mono {P P1 : Int → Prop} {ff : Nat → Int32} {n : Int} (h : jFa P ff n) (hP : ∀ x, P x → P1 x) : jFa P1 ff n := fun k g0 g1 => hP _ (h k g0 g1)
/-- a formula that is good: closed, of 80 nodes at most -/
def jG1 (C : jK) (N Y x : Int) : Prop := jFm C N Y 80 0 x ∧ jsz C x ≤ 80
theorem jG1.ag {C D : jK} {N M Y x : Int} (h : jG1 C N Y x) (hA : jAgK C D N) (hM : N ≤ M) : jG1 D M Y x := ⟨h.1.ag hA hM, by rw [jsz_ag hA h.1]; exact h.2⟩
end
section
def EX13_failsK : List (Nat × Nat) := [(15, 34)]
def EX13_symbolOfK : List (Nat × Nat) := []
set_option maxHeartbeats 4000000 in
set_option maxRecDepth 20000 in
theorem uX13_failsK (l : Launch) (dC : Nat → ClassId) (dI : Nat → Nat → Nat) (ca : Nat → ClassId) (base : Nat) (B : jF) (hB : jBok B) (hAp : jAp (dC, dI)) (hB15 : ∀ n G a H, B 15 n G a H ↔ jOb (dC, dI) 15 50 (F15 n G) a H) (G0 : jT) (H0 : Heap) (r0 : Nat) (a1 : Int32) (pu : Int32) : Met l yX13_fails (jw yX13_fails cX13_fails 2 none) ({ frames := 0, cells := 0, slots := 0, locals := 0 }) (va_Pc [.ref r0, .int a1] (fun U => U.heap = H0 ∧ jX B base G0 [] H0 ∧ jG dC dI ca base U ∧ G0 r0 = some (15, 0) ∧ jP (dC, dI) G0 H0 [(r0, 15, 34, .int pu)] ∧ 0 ≤ pu.toInt ∧ pu.toInt ≤ 9 ∧ 1 ≤ a1.toInt ∧ a1.toInt ≤ 9)) (va_Qv (S := Int32) (fun u => 1 ≤ u.toInt ∧ u.toInt ≤ 9 ∧ pu.toInt ≤ u.toInt ∧ (1 ≤ pu.toInt → u.toInt = pu.toInt)) (fun u t => jRt (dC, dI) B base G0 EX13_failsK H0 [(r0, 15, 34, .int u)] t.heap) (jA base)) 0 0 (jA base) := by
  refine Met.ofW (cc := cX13_fails) (maxL := 2) (ret := none) (by decide) rfl ?_
  intro p e s m args below meth c s₁ Bd hml hv
  obtain ⟨rfl, hH0, hX, hG, hg_r0, hP0, hp0, hp1, hp2, hp3⟩ := hv
  have hK := hG.1
  have hx := Bd.exec
  have hb := Bd.bytes
  have hr := Bd.returns
  have hts := atoms_spec (ws := (jw yX13_fails cX13_fails 2 none)) Bd.pre
  have htw : ∀ w ∈ jWl, w.before _ s = true := fun w h => hts w (List.mem_cons_of_mem _ h)
  have hown : s.vm.findClass RX13 = some m.cls := findClass_of_methodNamed Bd.named
  have hlocks := Bd.notSynchronized
  obtain ⟨Q, hQ⟩ : ∃ Q, Q = MQ below (va_Qv (S := Int32) (fun u => 1 ≤ u.toInt ∧ u.toInt ≤ 9 ∧ pu.toInt ≤ u.toInt ∧ (1 ≤ pu.toInt → u.toInt = pu.toInt)) (fun u t => jRt (dC, dI) B base G0 EX13_failsK H0 [(r0, 15, 34, .int u)] t.heap) (jA base)) ([.ref r0, .int a1] : List Value).toArray s 0 0 (jA base) := ⟨_, rfl⟩
  rw [← hQ]
  have hl := lv_entry ([.ref r0, .int a1]) (n := 2) (Nat.le_of_ble_eq_true rfl)
  rw [lg_entry_eq]
  generalize (lg_sl ([.ref r0, .int a1]) ++ List.replicate (2 - (lg_sl ([.ref r0, .int a1])).length) Slot.unset).toArray = ls at hl ⊢
  have hl : lv_has ls 2 [(0, .ref r0), (1, .int a1)] := hl
  generalize hR : (headSpec (jw yX13_fails cX13_fails 2 none) ({ frames := 0, cells := 0, slots := 0, locals := 0 })).room = R
  subst hH0
  have hh : jSt (dC, dI) B base G0 G0 EX13_failsK s.heap 0 0 [(r0, 15, 34, .int pu)] [] [] s.heap [] := jSt.start hX hP0 jMc.nil jIs.nil
  clear hX hP0
  have hk0 : (0 : Int32).toInt = 0 := by decide
  have hk1 : (1 : Int32).toInt = 1 := by decide
  have hly_15_34 := htw (u_lay RX13 TX13 34) (jWc_wsX130 _ (u_in_lay (by decide)))
  have hlk_221 := (htw (.fieldLink RX13 221 "ProofServerModel$Kernel" "fault" "I") (jWr_60 _ (List.mem_of_getElem? (i := 3) rfl)))
  have hrg_a1 := jb_rng a1
  refine lv_aload_n hx hb dX13_fails_0 rfl (lv_at hl 0 rfl) ?_
  refine j7_read hx hb hown hK (C := RX13) (T := TX13) (N := 50) rfl hly_15_34 hlk_221 (hh.at 0 rfl) dX13_fails_1 ?_
  refine lv_if_ne (tgt := 12) hx hb dX13_fails_4 (by decide) (fun c_1 => ?_) (fun c_1 => ?_)
  · skip
    have c_1' : pu.toInt ≠ 0 := jb_ne (rfl) ((by decide)) c_1
    rw [hQ]
    exact W.vret hx hb hr (fun t ht hW => ⟨⟨pu, rfl, by first | omega | (refine ⟨?_, ?_, ?_, ?_⟩ <;> (first | omega | rfl | assumption | decide | exact Or.inl rfl | exact Or.inr rfl | (simp only; omega))), hh.rt (M1 := [(r0, 15, 34, .int pu)]) [0] rfl ht⟩, by rw [ht]; try exact hh.1.1, fun q h9 hq => by rw [ht]; try exact hh.1.2.1 q h9 hq⟩) hh.1.2.2 dX13_fails_12
  · skip
    have c_1' : pu.toInt = 0 := jb_ne_n (rfl) ((by decide)) c_1
    refine lv_aload_n hx hb dX13_fails_7 rfl (lv_at hl 0 rfl) ?_
    refine lv_iload_n hx hb dX13_fails_8 rfl (lv_at hl 1 rfl) ?_
    refine j7_put hx hb hown hK hh hB hAp hB15 (C := RX13) (T := TX13) (N := 50) rfl (by decide) hg_r0 (i := 34) (by decide) hly_15_34 rfl hlk_221 rfl (ty := .int) (v := .int a1) (by decide +kernel) rfl rfl (⟨_, rfl, by omega, by omega⟩) rfl (L1 := []) [] rfl rfl rfl dX13_fails_9 (fun H_2 locs_2 hh_2 => ?_)
    clear hh
    rw [hQ]
    exact W.vret hx hb hr (fun t ht hW => ⟨⟨a1, rfl, by first | omega | (refine ⟨?_, ?_, ?_, ?_⟩ <;> (first | omega | rfl | assumption | decide | exact Or.inl rfl | exact Or.inr rfl | (simp only; omega))), hh_2.rt (M1 := [(r0, 15, 34, .int a1)]) [0] rfl ht⟩, by rw [ht]; try exact hh_2.1.1, fun q h9 hq => by rw [ht]; try exact hh_2.1.2.1 q h9 hq⟩) hh_2.1.2.2 dX13_fails_12
set_option maxHeartbeats 4000000 in
set_option maxRecDepth 20000 in
theorem uX13_symbolOfK (l : Launch) (dC : Nat → ClassId) (dI : Nat → Nat → Nat) (ca : Nat → ClassId) (base : Nat) (B : jF) (hB : jBok B) (hAp : jAp (dC, dI)) (hB15 : ∀ n G a H, B 15 n G a H ↔ jOb (dC, dI) 15 50 (F15 n G) a H) (hB163 : ∀ n G a H, B 163 n G a H ↔ jAr (dC, dI) (ca 1) (fun j z => 0 ≤ z.toInt ∧ z.toInt ≤ 1599) n a H) (G0 : jT) (H0 : Heap) (r0 : Nat) (a1 : Int32) (py : Int32) : Met l yX13_symbolOf (jw yX13_symbolOf cX13_symbolOf 3 (some .int)) ({ frames := 0, cells := 0, slots := 0, locals := 0 }) (va_Pc [.ref r0, .int a1] (fun U => U.heap = H0 ∧ jX B base G0 [] H0 ∧ jG dC dI ca base U ∧ G0 r0 = some (15, 0) ∧ jP (dC, dI) G0 H0 [(r0, 15, 11, .int py)] ∧ 0 ≤ py.toInt ∧ py.toInt ≤ 16)) (va_Qi (S := Unit) (fun r u => (-1 ≤ r.toInt ∧ r.toInt < py.toInt)) (fun u t => jRt (dC, dI) B base G0 EX13_symbolOfK H0 [] t.heap) (jA base)) 0 0 (jA base) := by
  refine Met.ofW (cc := cX13_symbolOf) (maxL := 3) (ret := (some .int)) (by decide) rfl ?_
  intro p e s m args below meth c s₁ Bd hml hv
  obtain ⟨rfl, hH0, hX, hG, hg_r0, hP0, hp0, hp1⟩ := hv
  have hK := hG.1
  have hx := Bd.exec
  have hb := Bd.bytes
  have hr := Bd.returns
  have hts := atoms_spec (ws := (jw yX13_symbolOf cX13_symbolOf 3 (some .int))) Bd.pre
  have htw : ∀ w ∈ jWl, w.before _ s = true := fun w h => hts w (List.mem_cons_of_mem _ h)
  have hown : s.vm.findClass RX13 = some m.cls := findClass_of_methodNamed Bd.named
  have hlocks := Bd.notSynchronized
  obtain ⟨Q, hQ⟩ : ∃ Q, Q = MQ below (va_Qi (S := Unit) (fun r u => (-1 ≤ r.toInt ∧ r.toInt < py.toInt)) (fun u t => jRt (dC, dI) B base G0 EX13_symbolOfK H0 [] t.heap) (jA base)) ([.ref r0, .int a1] : List Value).toArray s 0 0 (jA base) := ⟨_, rfl⟩
  rw [← hQ]
  have hl := lv_entry ([.ref r0, .int a1]) (n := 3) (Nat.le_of_ble_eq_true rfl)
  rw [lg_entry_eq]
  generalize (lg_sl ([.ref r0, .int a1]) ++ List.replicate (3 - (lg_sl ([.ref r0, .int a1])).length) Slot.unset).toArray = ls at hl ⊢
  have hl : lv_has ls 3 [(0, .ref r0), (1, .int a1)] := hl
  generalize hR : (headSpec (jw yX13_symbolOf cX13_symbolOf 3 (some .int)) ({ frames := 0, cells := 0, slots := 0, locals := 0 })).room = R
  subst hH0
  have hh : jSt (dC, dI) B base G0 G0 EX13_symbolOfK s.heap 0 0 [(r0, 15, 11, .int py)] [] [] s.heap [] := jSt.start hX hP0 jMc.nil jIs.nil
  clear hX hP0
  have hkm1 : ((-1) : Int32).toInt = (-1) := by decide
  have hk0 : (0 : Int32).toInt = 0 := by decide
  have hk1 : (1 : Int32).toInt = 1 := by decide
  have hly_15_11 := htw (u_lay RX13 TX13 11) (jWc_wsX130 _ (u_in_lay (by decide)))
  have hly_15_12 := htw (u_lay RX13 TX13 12) (jWc_wsX130 _ (u_in_lay (by decide)))
  have hlk_109 := (htw (.fieldLink RX13 109 "ProofServerModel$Kernel" "symbols" "I") (jWr_59 _ (List.mem_of_getElem? (i := 17) rfl)))
  have hlk_37 := (htw (.fieldLink RX13 37 "ProofServerModel$Kernel" "symbol" "[I") (jWr_14 _ (List.mem_of_getElem? (i := 17) rfl)))
  have hrg_a1 := jb_rng a1
  refine lv_iconst (v := 0) hx hb dX13_symbolOf_0 (by decide) ?_
  refine lv_istore_n (lv' := [(2, .int 0), (0, .ref r0), (1, .int a1)]) hx hb dX13_symbolOf_1 rfl hl (by decide) rfl (fun ls hl => ?_)
  have L2 : ∀ (N : Nat) (v2_1 : Int32) (H_1 : Heap) (locs_1 : List Loc), jSt (dC, dI) B base G0 G0 EX13_symbolOfK s.heap 0 0 [(r0, 15, 11, .int py)] [] [] H_1 locs_1 → (0 ≤ v2_1.toInt ∧ v2_1.toInt ≤ py.toInt) → (py.toInt - v2_1.toInt : Int) < N → ∀ ls : Array Slot, lv_has ls 3 [(0, .ref r0), (1, .int a1), (2, .int v2_1)] → W p l e R s m ([.ref r0, .int a1] : List Value).toArray below meth c H_1 locs_1 0 0 Q (F0 m 2 ls []) := by
    intro N
    induction N with
    | zero => intro v2_1 H_1 locs_1 hh_1  hi_1 hm; exact absurd hm (by omega)
    | succ N L2 =>
      intro v2_1 H_1 locs_1 hh_1  hi_1 hm_1 ls hl
      obtain ⟨hi_1_0, hi_1_1⟩ := hi_1
      refine lv_iload_n hx hb dX13_symbolOf_2 rfl (lv_at hl 2 rfl) ?_
      refine lv_aload_n hx hb dX13_symbolOf_3 rfl (lv_at hl 0 rfl) ?_
      refine j7_read hx hb hown hK (C := RX13) (T := TX13) (N := 50) rfl hly_15_11 hlk_109 (hh_1.at 0 rfl) dX13_symbolOf_4 ?_
      refine lv_icmp_ge (tgt := 28) hx hb dX13_symbolOf_7 (by decide) (fun c_2 => ?_) (fun c_2 => ?_)
      · skip
        have c_2' : v2_1.toInt ≥ py.toInt := jb_ge (rfl) (rfl) c_2
        refine lv_iconst (v := (-1)) hx hb dX13_symbolOf_28 (by decide) ?_
        rw [hQ]
        exact W.iret (v := (-1)) hx hb hr (fun t ht hW => ⟨⟨(-1), (), rfl, by first | omega | (refine ⟨?_, ?_⟩ <;> (first | omega | rfl | assumption | decide | exact Or.inl rfl | exact Or.inr rfl | (simp only; omega))), hh_1.rt (M1 := []) [] rfl ht⟩, by rw [ht]; try exact hh_1.1.1, fun q h9 hq => by rw [ht]; try exact hh_1.1.2.1 q h9 hq⟩) hh_1.1.2.2 dX13_symbolOf_29
      · skip
        have c_2' : v2_1.toInt < py.toInt := jb_ge_n (rfl) (rfl) c_2
        refine lv_aload_n hx hb dX13_symbolOf_10 rfl (lv_at hl 0 rfl) ?_
        obtain ⟨v_3, hv_3, hh_4⟩ := hh_1.pin (C := RX13) (T := TX13) (N := 50) hB15 rfl (by decide) hg_r0 (i := 12) (by decide) rfl
        clear hh_1
        obtain ⟨symbol_5, rfl, hg_symbol_5⟩ := hv_3
        refine j7_read hx hb hown hK (C := RX13) (T := TX13) (N := 50) rfl hly_15_12 hlk_37 (hh_4.at 0 rfl) dX13_symbolOf_11 ?_
        refine lv_iload_n hx hb dX13_symbolOf_14 rfl (lv_at hl 2 rfl) ?_
        refine j7_iald hx hb hK hh_4 hB163 1 rfl (by decide) hg_symbol_5 (x := v2_1.toInt) (rfl) (by omega) dX13_symbolOf_15 (fun z_6 (hz_6 : 0 ≤ z_6.toInt ∧ z_6.toInt ≤ 1599) => ?_)
        refine lv_iload_n hx hb dX13_symbolOf_16 rfl (lv_at hl 1 rfl) ?_
        refine lv_icmp_ne (tgt := 22) hx hb dX13_symbolOf_17 (by decide) (fun c_7 => ?_) (fun c_7 => ?_)
        · skip
          have c_7' : z_6.toInt ≠ a1.toInt := jb_ne (rfl) (rfl) c_7
          obtain ⟨z_8, ez_8⟩ : ∃ y : Int32, y = v2_1 + 1 := ⟨_, rfl⟩
          refine lv_iinc (v := z_8) (lv' := [(2, .int z_8), (0, .ref r0), (1, .int a1)]) hx hb dX13_symbolOf_22 hl (k := 2) rfl (by rw [ez_8]; rfl) (by decide) rfl (fun ls hl => ?_)
          have hz_8 : z_8.toInt = v2_1.toInt + 1 := by rw [ez_8]; exact jb_iadd2 (rfl) (by decide) (by omega)
          refine lv_goto (tgt := 2) hx hb dX13_symbolOf_25 (by decide) ?_
          exact L2 z_8 _ _ (hh_4.sub (L1 := [(r0, 15, 11, .int py)]) [1] rfl (M1 := []) [] rfl (I1 := []) [] rfl) (by first | omega | (refine ⟨?_, ?_⟩ <;> (first | omega | rfl | assumption | decide | exact Or.inl rfl | exact Or.inr rfl | (simp only; omega)))) (by omega) _ (lv_sub hl [1, 2, 0] rfl)
        · skip
          have c_7' : z_6.toInt = a1.toInt := jb_ne_n (rfl) (rfl) c_7
          refine lv_iload_n hx hb dX13_symbolOf_20 rfl (lv_at hl 2 rfl) ?_
          rw [hQ]
          exact W.iret (v := v2_1) hx hb hr (fun t ht hW => ⟨⟨v2_1, (), rfl, by first | omega | (refine ⟨?_, ?_⟩ <;> (first | omega | rfl | assumption | decide | exact Or.inl rfl | exact Or.inr rfl | (simp only; omega))), hh_4.rt (M1 := []) [] rfl ht⟩, by rw [ht]; try exact hh_4.1.1, fun q h9 hq => by rw [ht]; try exact hh_4.1.2.1 q h9 hq⟩) hh_4.1.2.2 dX13_symbolOf_21
  exact L2 (py.toInt - (0 : Int32).toInt : Int).toNat.succ 0 _ _ hh (by first | omega | (refine ⟨?_, ?_⟩ <;> (first | omega | rfl | assumption | decide | exact Or.inl rfl | exact Or.inr rfl | (simp only; omega)))) (by omega) _ (lv_sub hl [1, 2, 0] rfl)
end
section
-- formulas as they are read: raw terms (their parts behind them), raw formulas (their parts ahead of them)
def jRtm (C : jK) : Nat → Int → Int → Prop
  | 0, _, _ => False
  | d + 1, x, hi => 0 ≤ x ∧ x < hi ∧ jSo C.s x = 11 ∧ 0 ≤ jSo C.n x ∧ jSo C.n x ≤ 1599 ∧ 0 ≤ jSo C.c x ∧ (jSo C.c x = 1 → x < jSo C.a x ∧ jRtm C d (jSo C.a x) hi) ∧ (jSo C.c x = 2 → x < jSo C.a x ∧ jRtm C d (jSo C.a x) (jSo C.b (jSo C.a x)) ∧ jRtm C d (jSo C.b (jSo C.a x)) hi) ∧ (jSo C.c x = 3 → x < jSo C.a x ∧ jRtm C d (jSo C.a x) (jSo C.b (jSo C.a x)) ∧ jRtm C d (jSo C.b (jSo C.a x)) (jSo C.b (jSo C.b (jSo C.a x))) ∧ jRtm C d (jSo C.b (jSo C.b (jSo C.a x))) hi)
theorem jRtm.ok {C : jK} {d : Nat} {x hi : Int} (h : jRtm C d x hi) : 1 ≤ d ∧ 0 ≤ x ∧ x < hi ∧ jSo C.s x = 11 ∧ 0 ≤ jSo C.n x ∧ jSo C.n x ≤ 1599 ∧ 0 ≤ jSo C.c x := by
  cases d with
  | zero => exact h.elim
  | succ d => exact ⟨by omega, h.1, h.2.1, h.2.2.1, h.2.2.2.1, h.2.2.2.2.1, h.2.2.2.2.2.1⟩
theorem jRtm.one {C : jK} {d : Nat} {x hi : Int} (h : jRtm C d x hi) (hc : jSo C.c x = 1) : x < jSo C.a x ∧ jRtm C (d - 1) (jSo C.a x) hi := by
  cases d with
  | zero => exact h.elim
  | succ d => exact h.2.2.2.2.2.2.1 hc
theorem jRtm.two {C : jK} {d : Nat} {x hi : Int} (h : jRtm C d x hi) (hc : jSo C.c x = 2) : x < jSo C.a x ∧ jRtm C (d - 1) (jSo C.a x) (jSo C.b (jSo C.a x)) ∧ jRtm C (d - 1) (jSo C.b (jSo C.a x)) hi := by
  cases d with
  | zero => exact h.elim
  | succ d => exact h.2.2.2.2.2.2.2.1 hc
theorem jRtm.three {C : jK} {d : Nat} {x hi : Int} (h : jRtm C d x hi) (hc : jSo C.c x = 3) : x < jSo C.a x ∧ jRtm C (d - 1) (jSo C.a x) (jSo C.b (jSo C.a x)) ∧ jRtm C (d - 1) (jSo C.b (jSo C.a x)) (jSo C.b (jSo C.b (jSo C.a x))) ∧ jRtm C (d - 1) (jSo C.b (jSo C.b (jSo C.a x))) hi := by
  cases d with
  | zero => exact h.elim
  | succ d => exact h.2.2.2.2.2.2.2.2 hc
/-- the same rows from x to hi (but for two of x itself) -/
def jAt (C D : jK) (x hi : Int) : Prop := ∀ j : Int, x ≤ j → j < hi → jSo D.s j = jSo C.s j ∧ jSo D.n j = jSo C.n j ∧ jSo D.a j = jSo C.a j ∧ jSo D.c j = jSo C.c j ∧ (x < j → jSo D.b j = jSo C.b j)
theorem jAt.sub {C D : jK} {x hi y h1 : Int} (h : jAt C D x hi) (hy : x < y) (hh : h1 ≤ hi) : jAt C D y h1 := fun j g0 g1 => by
  obtain ⟨a1, a2, a3, a4, a5⟩ := h j (by omega) (by omega)
  exact ⟨a1, a2, a3, a4, fun _ => a5 (by omega)⟩
theorem jRtm.ag {C D : jK} {d : Nat} : ∀ {x hi : Int}, jRtm C d x hi → jAt C D x hi → jRtm D d x hi := by
  induction d with
  | zero => intro x hi h; exact h.elim
  | succ d ih =>
    intro x hi h hA
    obtain ⟨h1, h2, h3, h4, h5, h6, k1, k2, k3⟩ := h
    obtain ⟨a1, a2, a3, a4, -⟩ := hA x (by omega) h2
    refine ⟨h1, h2, by rw [a1]; exact h3, by rw [a2]; exact h4, by rw [a2]; exact h5, by rw [a4]; exact h6, ?_, ?_, ?_⟩
    · rw [a4, a3]; intro q
      obtain ⟨z1, z2⟩ := k1 q
      exact ⟨z1, ih z2 (hA.sub z1 (Int.le_refl _))⟩
    · rw [a4, a3]; intro q
      obtain ⟨z1, z2, z3⟩ := k2 q
      have b1 := z2.ok; have b2 := z3.ok
      have e1 := (hA (jSo C.a x) (by omega) (by omega)).2.2.2.2 z1
      rw [e1]
      exact ⟨z1, ih z2 (hA.sub z1 (by omega)), ih z3 (hA.sub (by omega) (Int.le_refl _))⟩
    · rw [a4, a3]; intro q
      obtain ⟨z1, z2, z3, z4⟩ := k3 q
      have b1 := z2.ok; have b2 := z3.ok; have b3 := z4.ok
      have e1 := (hA (jSo C.a x) (by omega) (by omega)).2.2.2.2 z1
      rw [e1]
      have e2 := (hA (jSo C.b (jSo C.a x)) (by omega) (by omega)).2.2.2.2 (by omega)
      rw [e2]
      exact ⟨z1, ih z2 (hA.sub z1 (by omega)), ih z3 (hA.sub (by omega) (by omega)), ih z4 (hA.sub (by omega) (Int.le_refl _))⟩
theorem jRtm.mono {C : jK} {d : Nat} : ∀ {x hi : Int}, jRtm C d x hi → ∀ {d1 : Nat} {h1 : Int}, d ≤ d1 → hi ≤ h1 → jRtm C d1 x h1 := by
  induction d with
  | zero => intro x hi h; exact h.elim
  | succ d ih =>
    intro x hi h d1 h1 hd hh
    cases d1 with
    | zero => omega
    | succ d1 =>
      obtain ⟨g1, g2, g3, g4, g5, g6, k1, k2, k3⟩ := h
      refine ⟨g1, by omega, g3, g4, g5, g6, fun q => ?_, fun q => ?_, fun q => ?_⟩
      · obtain ⟨z1, z2⟩ := k1 q; exact ⟨z1, ih z2 (by omega) hh⟩
      · obtain ⟨z1, z2, z3⟩ := k2 q; exact ⟨z1, ih z2 (by omega) (Int.le_refl _), ih z3 (by omega) hh⟩
      · obtain ⟨z1, z2, z3, z4⟩ := k3 q; exact ⟨z1, ih z2 (by omega) (Int.le_refl _), ih z3 (by omega) (Int.le_refl _), ih z4 (by omega) hh⟩
theorem jAgK.at {C D : jK} {N x hi : Int} (h : jAgK C D N) (hx : 0 ≤ x) (hh : hi ≤ N) : jAt C D x hi := fun j g0 g1 => by
  obtain ⟨a1, a2, a3, a4, a5⟩ := h.so (n := j) (by omega) (by omega)
  exact ⟨a1, a2, a3, a5, fun _ => a4⟩
theorem jRtm.agK {C D : jK} {d : Nat} {N x hi : Int} (h : jRtm C d x hi) (hA : jAgK C D N) (hh : hi ≤ N) : jRtm D d x hi := h.ag (hA.at h.ok.2.1 hh)
/-- a term while its parts are read -/
def jRl (C : jK) (d : Nat) (t last w : Int) : Prop := 0 ≤ t ∧ t < w ∧ jSo C.s t = 11 ∧ 0 ≤ jSo C.n t ∧ jSo C.n t ≤ 1599 ∧ 0 ≤ jSo C.c t ∧ jSo C.c t < w - t ∧ (jSo C.c t = 0 → last = -1) ∧ (1 ≤ jSo C.c t → t < last ∧ last < w) ∧ (jSo C.c t = 1 → jSo C.a t = last ∧ jRtm C d last w) ∧ (jSo C.c t = 2 → t < jSo C.a t ∧ jSo C.b (jSo C.a t) = last ∧ jRtm C d (jSo C.a t) last ∧ jRtm C d last w) ∧ (jSo C.c t = 3 → t < jSo C.a t ∧ jSo C.b (jSo C.b (jSo C.a t)) = last ∧ jRtm C d (jSo C.a t) (jSo C.b (jSo C.a t)) ∧ jRtm C d (jSo C.b (jSo C.a t)) last ∧ jRtm C d last w)
theorem jRl.rt {C : jK} {d : Nat} {t last w : Int} (h : jRl C d t last w) : jRtm C (d + 1) t w := by
  obtain ⟨h1, h2, h3, h4, h5, h6, -, -, h8, k1, k2, k3⟩ := h
  refine ⟨h1, h2, h3, h4, h5, h6, fun q => ?_, fun q => ?_, fun q => ?_⟩
  · obtain ⟨z1, z2⟩ := k1 q; rw [z1]; exact ⟨(h8 (by omega)).1, z2⟩
  · obtain ⟨z1, z2, z3, z4⟩ := k2 q; rw [z2]; exact ⟨z1, z3, z4⟩
  · obtain ⟨z1, z2, z3, z4, z5⟩ := k3 q; rw [z2]; exact ⟨z1, z3, z4, z5⟩
/-- a raw formula: its nodes from lo to hi, its root x; q quantifiers within one another at most -/
def jRw (C : jK) : Nat → Nat → Int → Int → Int → Prop
  | 0, _, _, _, _ => False
  | e + 1, q, lo, x, hi => 0 ≤ lo ∧ lo ≤ x ∧ x < hi ∧ ((jSo C.s x = 11 ∧ jRtm C 13 x hi) ∨ jSo C.s x = 3 ∨ (jSo C.s x = 6 ∧ ∃ m : Int, lo ≤ jSo C.a x ∧ jRtm C 13 (jSo C.a x) m ∧ m ≤ jSo C.b x ∧ jRtm C 13 (jSo C.b x) x) ∨ ((jSo C.s x = 4 ∨ jSo C.s x = 5) ∧ 0 ≤ jSo C.n x ∧ jSo C.n x ≤ 1599 ∧ 1 ≤ q ∧ jRw C e (q - 1) lo (jSo C.a x) x) ∨ (0 ≤ jSo C.s x ∧ jSo C.s x ≤ 2 ∧ ∃ m : Int, jRw C e q lo (jSo C.a x) m ∧ jRw C e q m (jSo C.b x) x))
theorem jRw.ok {C : jK} {e q : Nat} {lo x hi : Int} (h : jRw C e q lo x hi) : 1 ≤ e ∧ 0 ≤ lo ∧ lo ≤ x ∧ x < hi := by
  cases e with
  | zero => exact h.elim
  | succ e => exact ⟨by omega, h.1, h.2.1, h.2.2.1⟩
theorem jRw.mono {C : jK} {e : Nat} : ∀ {q : Nat} {lo x hi : Int}, jRw C e q lo x hi → ∀ {e1 q1 : Nat} {l1 h1 : Int}, e ≤ e1 → q ≤ q1 → 0 ≤ l1 → l1 ≤ lo → hi ≤ h1 → jRw C e1 q1 l1 x h1 := by
  induction e with
  | zero => intro q lo x hi h; exact h.elim
  | succ e ih =>
    intro q lo x hi h e1 q1 l1 h1 he hq hl0 hl hh
    cases e1 with
    | zero => omega
    | succ e1 =>
      obtain ⟨g1, g2, g3, g4⟩ := h
      refine ⟨hl0, by omega, by omega, ?_⟩
      rcases g4 with ⟨s1, t1⟩ | s1 | ⟨s1, m, t1, t2, t3, t4⟩ | ⟨s1, t1, t2, t3, t4⟩ | ⟨s1, s2, m, t1, t2⟩
      · exact Or.inl ⟨s1, t1.mono (Nat.le_refl _) hh⟩
      · exact Or.inr (Or.inl s1)
      · exact Or.inr (Or.inr (Or.inl ⟨s1, m, by omega, t2, t3, t4⟩))
      · exact Or.inr (Or.inr (Or.inr (Or.inl ⟨s1, t1, t2, by omega, ih t4 (by omega) (by omega) hl0 hl (Int.le_refl _)⟩)))
      · exact Or.inr (Or.inr (Or.inr (Or.inr ⟨s1, s2, m, ih t1 (by omega) hq hl0 hl (Int.le_refl _), ih t2 (by omega) hq t2.ok.2.1 (Int.le_refl _) (Int.le_refl _)⟩)))
theorem jRw.ag {C D : jK} {N : Int} (hA : jAgK C D N) {e : Nat} : ∀ {q : Nat} {lo x hi : Int}, jRw C e q lo x hi → hi ≤ N → jRw D e q lo x hi := by
  induction e with
  | zero => intro q lo x hi h; exact h.elim
  | succ e ih =>
    intro q lo x hi h hN
    obtain ⟨g1, g2, g3, g4⟩ := h
    obtain ⟨a1, a2, a3, a4, a5⟩ := hA.so (n := x) (by omega) (by omega)
    refine ⟨g1, g2, g3, ?_⟩
    rw [a1, a2, a3, a4]
    rcases g4 with ⟨s1, t1⟩ | s1 | ⟨s1, m, t1, t2, t3, t4⟩ | ⟨s1, t1, t2, t3, t4⟩ | ⟨s1, s2, m, t1, t2⟩
    · exact Or.inl ⟨s1, t1.agK hA hN⟩
    · exact Or.inr (Or.inl s1)
    · have := t4.ok
      exact Or.inr (Or.inr (Or.inl ⟨s1, m, t1, t2.agK hA (by omega), t3, t4.agK hA (by omega)⟩))
    · exact Or.inr (Or.inr (Or.inr (Or.inl ⟨s1, t1, t2, t3, ih t4 (by omega)⟩)))
    · have := t2.ok
      exact Or.inr (Or.inr (Or.inr (Or.inr ⟨s1, s2, m, ih t1 (by omega), ih t2 (by omega)⟩)))
theorem jRw.eq {C D : jK} {e q d d1 : Nat} {m N ws wn wa wb wc : Int} (h1 : jRtm C d wa m) (h2 : jRtm C d1 wb N) (hm : m ≤ wb) (h : jNw C D N ws wn wa wb wc) (hs : ws = 6) (hd : d ≤ 13) (hd1 : d1 ≤ 13) (he : 1 ≤ e) : jRw D e q wa N (N + 1) := by
  have o1 := h1.ok; have o2 := h2.ok
  cases e with
  | zero => omega
  | succ e =>
    obtain ⟨hA, s1, s2, s3, s4, s5⟩ := h
    refine ⟨o1.2.1, by omega, by omega, Or.inr (Or.inr (Or.inl ⟨by omega, m, by omega, ?_, by omega, ?_⟩))⟩
    · rw [s3]; exact (h1.mono hd (Int.le_refl _)).agK hA (by omega)
    · rw [s4]; exact (h2.mono hd1 (Int.le_refl _)).agK hA (by omega)
-- what a raw formula is, by its root
theorem jRw.c11 {C : jK} {e q : Nat} {lo x hi : Int} (h : jRw C e q lo x hi) (hs : jSo C.s x = 11) : jRtm C 13 x hi := by
  cases e with
  | zero => exact h.elim
  | succ e =>
    rcases h.2.2.2 with ⟨_, t1⟩ | s1 | ⟨s1, _⟩ | ⟨s1, _⟩ | ⟨s1, s2, _⟩
    · exact t1
    all_goals omega
theorem jRw.c6 {C : jK} {e q : Nat} {lo x hi : Int} (h : jRw C e q lo x hi) (hs : jSo C.s x = 6) : ∃ m : Int, lo ≤ jSo C.a x ∧ jRtm C 13 (jSo C.a x) m ∧ m ≤ jSo C.b x ∧ jRtm C 13 (jSo C.b x) x := by
  cases e with
  | zero => exact h.elim
  | succ e =>
    rcases h.2.2.2 with ⟨s1, _⟩ | s1 | ⟨_, t1⟩ | ⟨s1, _⟩ | ⟨s1, s2, _⟩
    · omega
    · omega
    · exact t1
    all_goals omega
theorem jRw.c45 {C : jK} {e q : Nat} {lo x hi : Int} (h : jRw C e q lo x hi) (hs : jSo C.s x = 4 ∨ jSo C.s x = 5) : 0 ≤ jSo C.n x ∧ jSo C.n x ≤ 1599 ∧ 1 ≤ q ∧ jRw C (e - 1) (q - 1) lo (jSo C.a x) x := by
  cases e with
  | zero => exact h.elim
  | succ e =>
    rcases h.2.2.2 with ⟨s1, _⟩ | s1 | ⟨s1, _⟩ | ⟨_, t1⟩ | ⟨s1, s2, _⟩
    · omega
    · omega
    · omega
    · exact t1
    · omega
theorem jRw.c012 {C : jK} {e q : Nat} {lo x hi : Int} (h : jRw C e q lo x hi) (h1 : jSo C.s x ≠ 11) (h2 : jSo C.s x ≠ 3) (h3 : jSo C.s x ≠ 6) (h4 : jSo C.s x ≠ 4) (h5 : jSo C.s x ≠ 5) : 0 ≤ jSo C.s x ∧ jSo C.s x ≤ 2 ∧ ∃ m : Int, jRw C (e - 1) q lo (jSo C.a x) m ∧ jRw C (e - 1) q m (jSo C.b x) x := by
  cases e with
  | zero => exact h.elim
  | succ e =>
    rcases h.2.2.2 with ⟨s1, _⟩ | s1 | ⟨s1, _⟩ | ⟨s1, _⟩ | t1
    · exact absurd s1 h1
    · exact absurd s1 h2
    · exact absurd s1 h3
    · omega
    · exact t1
def jH1 (C : jK) (x hi : Int) : Int := if jSo C.c x = 1 then hi else jSo C.b (jSo C.a x)
def jH2 (C : jK) (x hi : Int) : Int := if jSo C.c x = 2 then hi else jSo C.b (jSo C.b (jSo C.a x))
theorem jRtm.p1 {C : jK} {d : Nat} {x hi : Int} (h : jRtm C d x hi) (h1 : 1 ≤ jSo C.c x) (h3 : jSo C.c x ≤ 3) : x < jSo C.a x ∧ jRtm C (d - 1) (jSo C.a x) (jH1 C x hi) ∧ jH1 C x hi ≤ hi ∧ jSo C.a x < hi := by
  unfold jH1
  have hc : jSo C.c x = 1 ∨ jSo C.c x = 2 ∨ jSo C.c x = 3 := by omega
  rcases hc with q | q | q
  · rw [if_pos q]; obtain ⟨z1, z2⟩ := h.one q; have := z2.ok; exact ⟨z1, z2, by omega, by omega⟩
  · rw [if_neg (by omega)]; obtain ⟨z1, z2, z3⟩ := h.two q; have := z2.ok; have := z3.ok; exact ⟨z1, z2, by omega, by omega⟩
  · rw [if_neg (by omega)]; obtain ⟨z1, z2, z3, z4⟩ := h.three q; have := z2.ok; have := z3.ok; have := z4.ok; exact ⟨z1, z2, by omega, by omega⟩
theorem jRtm.p2 {C : jK} {d : Nat} {x hi : Int} (h : jRtm C d x hi) (h1 : 2 ≤ jSo C.c x) (h3 : jSo C.c x ≤ 3) : jRtm C (d - 1) (jSo C.b (jSo C.a x)) (jH2 C x hi) ∧ jH1 C x hi = jSo C.b (jSo C.a x) ∧ jH2 C x hi ≤ hi := by
  have e1 : jH1 C x hi = jSo C.b (jSo C.a x) := by unfold jH1; rw [if_neg (by omega)]
  rw [e1]
  unfold jH2
  have hc : jSo C.c x = 2 ∨ jSo C.c x = 3 := by omega
  rcases hc with q | q
  · rw [if_pos q]; obtain ⟨z1, z2, z3⟩ := h.two q; exact ⟨z3, rfl, by omega⟩
  · rw [if_neg (by omega)]; obtain ⟨z1, z2, z3, z4⟩ := h.three q; have := z3.ok; have := z4.ok; exact ⟨z3, rfl, by omega⟩
theorem jRtm.p3 {C : jK} {d : Nat} {x hi : Int} (h : jRtm C d x hi) (h3 : jSo C.c x = 3) : jRtm C (d - 1) (jSo C.b (jSo C.b (jSo C.a x))) hi ∧ jH2 C x hi = jSo C.b (jSo C.b (jSo C.a x)) := by
  unfold jH2
  rw [if_neg (by omega)]
  exact ⟨(h.three h3).2.2.2, rfl⟩
-- new nodes of formulas
theorem jMk0 {C D : jK} {N Y b ws wn wa wb wc : Int} {e : Nat} (h : jNw C D N ws wn wa wb wc) (hs : (ws = 10 ∧ 0 ≤ wn ∧ wn < b) ∨ (ws = 9 ∧ 0 ≤ wn ∧ wn ≤ 1599) ∨ ws = 3) (h0 : 0 ≤ N) (he : 1 ≤ e) : jFm D (N + 1) Y e b N ∧ jsz D N = 1 := by
  obtain ⟨hA, e1, e2, e3, e4, e5⟩ := h
  have hl := jPts_nl D N
  have hp : jPts D N = 0 := by
    by_cases q : ws = 10
    · exact hl.1 (by omega)
    · exact hl.2.2.2 (by omega)
  have hF : jFm D (N + 1) Y 1 b N := ⟨⟨h0, by omega, by omega, by omega, fun q => by omega, fun q => by omega, fun q => by omega, by omega, by omega⟩, fun k g0 g1 => by omega⟩
  exact hF.leaf hp (fun q => by omega) he
theorem jMk1 {C D : jK} {N Y b ws wn wa wb wc : Int} {d : Nat} (h : jNw C D N ws wn wa wb wc) (hs : ws = 4 ∨ ws = 5) (hn : 0 ≤ wn ∧ wn ≤ 1599) (h0 : 0 ≤ N) (hd : d + 1 ≤ 4000) (ha : jFm C N Y d (b + 1) wa) : jFm D (N + 1) Y (d + 1) b N ∧ jsz D N = 1 + jsz C wa := by
  obtain ⟨hA, e1, e2, e3, e4, e5⟩ := h
  have h : jNw C D N ws wn wa wb wc := ⟨hA, e1, e2, e3, e4, e5⟩
  have hp : jPts D N = 1 := (jPts_nl D N).2.1 (by omega)
  have hq : jQf D N = 1 := (jQf_ok D N).1 (by omega)
  have k1 : 0 < jPts D N → jFm C N Y d (b + jQf D N) wa := fun _ => by rw [hq]; exact ha
  have k2 : 1 < jPts D N → jFm C N Y d (b + jQf D N) wb := fun q => by omega
  have k3 : 2 < jPts D N → jFm C N Y d (b + jQf D N) wc := fun q => by omega
  have hF := h.fm (Y := Y) (b := b) (d := d) ⟨h0, by omega, by omega, by omega, fun q => by omega, fun q => by omega, fun q => by omega, by omega, by omega⟩ k1 k2 k3
  refine ⟨hF, ?_⟩
  rw [h.sz hd hF k1 k2 k3, (jIf4 _ _ _ _ _).2.1 hp]
theorem jMk2 {C D : jK} {N Y b ws wn wa wb wc : Int} {d : Nat} (h : jNw C D N ws wn wa wb wc) (hs : (0 ≤ ws ∧ ws ≤ 2) ∨ ws = 6) (h0 : 0 ≤ N) (hd : d + 1 ≤ 4000) (ha : jFm C N Y d b wa) (hb : jFm C N Y d b wb) : jFm D (N + 1) Y (d + 1) b N ∧ jsz D N = 1 + jsz C wa + jsz C wb := by
  obtain ⟨hA, e1, e2, e3, e4, e5⟩ := h
  have h : jNw C D N ws wn wa wb wc := ⟨hA, e1, e2, e3, e4, e5⟩
  have hp : jPts D N = 2 := (jPts_nl D N).2.2.1 (by omega)
  have hq : jQf D N = 0 := (jQf_ok D N).2.1 (by omega)
  have k1 : 0 < jPts D N → jFm C N Y d (b + jQf D N) wa := fun _ => by rw [hq, Int.add_zero]; exact ha
  have k2 : 1 < jPts D N → jFm C N Y d (b + jQf D N) wb := fun q => by rw [hq, Int.add_zero]; exact hb
  have k3 : 2 < jPts D N → jFm C N Y d (b + jQf D N) wc := fun q => by omega
  have hF := h.fm (Y := Y) (b := b) (d := d) ⟨h0, by omega, by omega, by omega, fun q => by omega, fun q => by omega, fun q => by omega, by omega, by omega⟩ k1 k2 k3
  refine ⟨hF, ?_⟩
  rw [h.sz hd hF k1 k2 k3, (jIf4 _ _ _ _ _).2.2.1 hp]
theorem jMk7 {C D : jK} {N Y b ws wn wa wb wc m : Int} {d : Nat} (h : jNw C D N ws wn wa wb wc) (hs : ws = 7 ∨ ws = 8) (hn : 0 ≤ wn ∧ wn < Y) (hm : jSo C.y wn = m) (h0 : 0 ≤ N) (hd : d + 1 ≤ 4000) (hm0 : 0 ≤ m ∧ m ≤ 3) (ha : 1 ≤ m → jFm C N Y d b wa) (hb : 2 ≤ m → jFm C N Y d b wb) (hc : 3 ≤ m → jFm C N Y d b wc) : jFm D (N + 1) Y (d + 1) b N ∧ (m = 0 → jsz D N = 1) ∧ (m = 1 → jsz D N = 1 + jsz C wa) ∧ (m = 2 → jsz D N = 1 + jsz C wa + jsz C wb) ∧ (m = 3 → jsz D N = 1 + jsz C wa + jsz C wb + jsz C wc) := by
  obtain ⟨hA, e1, e2, e3, e4, e5⟩ := h
  have h : jNw C D N ws wn wa wb wc := ⟨hA, e1, e2, e3, e4, e5⟩
  have hy : jSo D.y wn = m := by rw [← hm]; unfold jSo; rw [hA.2]
  have hp : jPts D N = m := by unfold jPts; rw [if_pos (by omega), e2]; exact hy
  have hq : jQf D N = 0 := (jQf_ok D N).2.1 (by omega)
  have k1 : 0 < jPts D N → jFm C N Y d (b + jQf D N) wa := fun _ => by rw [hq, Int.add_zero]; exact ha (by omega)
  have k2 : 1 < jPts D N → jFm C N Y d (b + jQf D N) wb := fun q => by rw [hq, Int.add_zero]; exact hb (by omega)
  have k3 : 2 < jPts D N → jFm C N Y d (b + jQf D N) wc := fun q => by rw [hq, Int.add_zero]; exact hc (by omega)
  have hF := h.fm (Y := Y) (b := b) (d := d) ⟨h0, by omega, by omega, by omega, fun q => by omega, fun q => by omega, fun q => by omega, by omega, by omega⟩ k1 k2 k3
  have hz := h.sz hd hF k1 k2 k3
  have h4 := jIf4 (jPts D N) 1 (jsz C wa) (jsz C wb) (jsz C wc)
  refine ⟨hF, fun q => ?_, fun q => ?_, fun q => ?_, fun q => ?_⟩
  · rw [hz, h4.1 (by omega)]
  · rw [hz, h4.2.1 (by omega)]
  · rw [hz, h4.2.2.1 (by omega)]
  · rw [hz, h4.2.2.2 (by omega)]
theorem jRw.f3 {C : jK} {e q : Nat} {lo x hi N Y b : Int} (h : jRw C e q lo x hi) (hs : jSo C.s x = 3) (hN : hi ≤ N) {d : Nat} (hd : 1 ≤ d) : jFm C N Y d b x ∧ jsz C x = 1 := by
  have o := h.ok
  have hp : jPts C x = 0 := (jPts_nl C x).2.2.2 (by omega)
  have hF : jFm C N Y 1 b x := ⟨⟨by omega, by omega, by omega, by omega, fun q => by omega, fun q => by omega, fun q => by omega, by omega, by omega⟩, fun k g0 g1 => by omega⟩
  exact hF.leaf hp (fun q => by omega) hd
end
