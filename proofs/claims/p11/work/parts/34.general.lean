-- contracts over the typed heap: which roots may change
def jRoot (G : jT) (r : Nat) : Prop := ∃ k n, G r = some (k, n) ∧ k < 1000
def jModP (G : jT) (M : Nat → Prop) (H0 H1 : Heap) : Prop := ∀ q, q < H0.size → (∀ r, jRoot G r → jSup G r q → ¬ M r) → H1[q]? = H0[q]?
theorem jModP.rf {G : jT} {M : Nat → Prop} {H : Heap} : jModP G M H H := fun _ _ _ => rfl
theorem jModP.put {G0 G : jT} {M : Nat → Prop} {H0 H H1 : Heap} {a r : Nat} (h : jModP G0 M H0 H) (hE : jExt H0.size G0 G) (hr : jRoot G0 r) (hs : jSup G r a) (hM : M r) (hfr : ∀ q, q ≠ a → H1[q]? = H[q]?) : jModP G0 M H0 H1 := by
  intro q hq hn
  refine (hfr q (fun e => ?_)).trans (h q hq hn)
  subst e
  exact hn r hr ((jSup.ext hE hq).mp hs) hM
theorem jModP.new {G0 : jT} {M : Nat → Prop} {H0 H H1 : Heap} {a : Nat} (h : jModP G0 M H0 H) (ha : H0.size ≤ a) (hfr : ∀ q, q ≠ a → H1[q]? = H[q]?) : jModP G0 M H0 H1 := fun q hq hn => (hfr q (by omega)).trans (h q hq hn)
theorem jRoot.only {G : jT} {a r r1 : Nat} (h : jRoot G r) (h1 : jRoot G r1) (hs : jSup G r a) (hs1 : jSup G r1 a) : r1 = r := by
  obtain ⟨k, n, hk, hl⟩ := h
  obtain ⟨k1, n1, hk1, hl1⟩ := h1
  exact jSup.only hk1 hl1 hk hl hs hs1
/-- what holds of a cell of a root that a call leaves alone -/
theorem jModP.cell {G : jT} {M : Nat → Prop} {H0 H1 : Heap} {a r : Nat} (h : jModP G M H0 H1) (hr : jRoot G r) (hs : jSup G r a) (hM : ¬ M r) (hl : a < H0.size) : H1[a]? = H0[a]? := by
  refine h a hl (fun r1 h0 h1 h2 => hM ?_)
  rw [← hr.only h0 hs h1]; exact h2
section JL
variable {p : Program} {l : Launch} {e : Env} {R : Room} {s : State} {m : MethodId} {args : Array Value} {below : List Frame} {meth : Method} {c : Code} {H : Heap} {locs : List Loc} {cells slots : Nat} {Q : State → Prop}
variable {cc : ByteArray} {pc : Nat} {ls : Array Slot} {rest : List Value} {D : va_G} {cl : List vw_C} {A : Nat → Prop} {a : Nat} {tys : List (ClassId × FieldType)}
theorem j_last (hexec : p.tables.exec = Jvm.exec) (hb : c.code = cc) (hK : va_K D cl tys s) (t0 : Nat) {cA : ClassId} {n : Nat} {f : Nat → Int64} (hat : va_at D cl (a, .inl (cA, n, .inr (.inl f))) H) (hA : A a) (hL : ∀ q ∈ locs, A q.base) (ht : tys[t0]? = some (cA, .long)) {i : Int32} {x : Int64} (hin : vp_in i n) (hdg : decode cc pc = .ok (.lastore, 1))
    (kk : ∀ (H1 : Heap) (locs1 : List Loc), va_at D cl (a, .inl (cA, n, .inr (.inl (vp_updL f i.toNatClampNeg x)))) H1 → H1.size = H.size → (∀ q, q ≠ a → H1[q]? = H[q]?) → jTot H1 = jTot H → (∀ q ∈ locs1, A q.base) → W p l e R s m args below meth c H1 locs1 cells slots Q (F0 m (pc + 1) ls rest)) : W p l e R s m args below meth c H locs cells slots Q (F0 m pc ls (.long x :: .int i :: .ref a :: rest)) := by
  refine W.last hexec hb hat ((hK.2 t0 _ ht).1 n (fun j => .long (f j))) (fun q => by cases q) (by show ¬ (i < 0 ∨ (arrV _ _ _).slots.size ≤ _); rw [arrV_size]; exact hin) rfl rfl hdg fun H1 e z oq => ?_
  refine kk H1 _ ?_ z oq (jTot_set z hat e (jSet_sz _ _ _) oq) ?_
  · show H1[a]? = some (vp_cell _ _)
    rw [e]
    rw [vp_cell_l, vp_cell_l, arrV_store]
    congr 2
    funext q
    by_cases hq : q = i.toNatClampNeg
    · subst hq
      simp [updV, vp_updL]
    · simp [updV, vp_updL, hq]
  · intro q hq
    rcases List.mem_append.mp hq with h | h
    · exact hL q h
    · cases List.mem_singleton.mp h; exact hA
end JL
theorem jb_all {P : Int32 → Prop} {f : Nat → Int32} {n : Nat} {i : Int32} {x : Int32} (h : ∀ j, j < n → P (f j)) (hx : P x) : ∀ j, j < n → P (upd f i.toNatClampNeg x j) := by
  intro j hj
  by_cases e : j = i.toNatClampNeg
  · rw [e]; simp only [upd, if_pos]; exact hx
  · simp only [upd, if_neg e]; exact h j hj
theorem jb_cl_lt {i : Int32} {a : Int} {n : Nat} (hi : i.toInt = a) (h1 : 0 ≤ a) (h2 : a < n) : i.toNatClampNeg < n := by
  rw [jb_cl hi h1]; omega
theorem jModP.tr {G0 G : jT} {M M1 : Nat → Prop} {H0 H H1 : Heap} (h : jModP G0 M H0 H) (h1 : jModP G M1 H H1) (hE : jExt H0.size G0 G) (hz : H0.size ≤ H.size) (hM : ∀ r, M1 r → M r ∨ H0.size ≤ r) (hr : ∀ r, r < H0.size → jRoot G r → jRoot G0 r) (hs : ∀ r q, q < H0.size → jSup G r q → r < H0.size) : jModP G0 M H0 H1 := by
  intro q hq hn
  refine (h1 q (by omega) (fun r h2 h3 hm => ?_)).trans (h q hq hn)
  have hl := hs r q hq h3
  rcases hM r hm with e | e
  · exact hn r (hr r hl h2) ((jSup.ext hE hq).mp h3) e
  · omega
theorem jModP.tr0 {G : jT} {M M1 : Nat → Prop} {H0 H H1 : Heap} (h : jModP G M H0 H) (h1 : jModP G M1 H H1) (hz : H.size = H0.size) (hM : ∀ r, M1 r → M r) : jModP G M H0 H1 := fun q hq hn => (h1 q (by omega) (fun r h2 h3 hm => hn r h2 h3 (hM r hm))).trans (h q hq hn)
