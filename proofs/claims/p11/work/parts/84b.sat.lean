section
variable {H : Heap} {locs : List Loc} {dC : Nat → ClassId} {dI : Nat → Nat → Nat} {B : jF} {base : Nat} {G0 G : jT} {E : List (Nat × Nat)} {H0 : Heap} {zc zs : Nat} {L : List jPin} {M : List jCt} {I : List jIv} {a k n i N : Nat} {C : String} {T : u_T}
theorem jSt.sat (hh : jSt (dC, dI) B base G0 G E H0 zc zs L M I H locs) {F : Nat → jT → List (Value → Prop)} (hBk : ∀ n G a H, B k n G a H ↔ jOb (dC, dI) k N (F n G) a H) (hc : vwCl[k]? = some (C, T, N)) (hk : k < 1000) (ha : G a = some (k, n)) (hi : i < N) {P : Value → Prop} (hp : (F n G)[i]? = some P) {v : Value} (j : Nat) (hj : L[j]? = some (a, k, i, v)) : P v := by
  obtain ⟨V, ⟨cell, q1, q2, q3, q4⟩, hV⟩ := (hBk _ _ _ _).mp (hh.2.1.1 a k n ha hk (fun h => by cases h))
  obtain ⟨r, g1, g2, cell', g3, g4, g5, g6⟩ := (hh.2.2.1 _ (List.mem_of_getElem? hj)).2
  cases q1.symm.trans g3
  have e : V i = v := Option.some.inj ((q4 i hi).symm.trans g6)
  rw [← e]; exact hV i P hp
end
