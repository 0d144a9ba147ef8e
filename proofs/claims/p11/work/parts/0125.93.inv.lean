section
-- invariants with a footprint, as a walk carries them: contents of reference arrays, one field of all documents, the sentences of all documents
theorem jPu.take {sn ck fs fs' : Nat → Int32} {fd fo fo' : Nat → Option Nat} {dc : Int} {ol nw td : Nat} {w d x : Nat} (h : jPu sn ck fd fo fs dc ol nw td) (h1 : (d : Int) < dc) (h2 : d < 3) (h3 : fd d = some x) (hv : fo' w = some x) (ho : ∀ j, j < 2 → j ≠ w → fo' j = fo j) (hs : (fs' w).toInt < (sn x).toInt) (hso : ∀ j, j < 2 → j ≠ w → fs' j = fs j) : jPu sn ck fd fo' fs' dc ol nw td := by
  obtain ⟨g0, g1, g2, g3⟩ := h
  refine ⟨g0, g1, g2, fun j hj => ?_⟩
  by_cases e : j = w
  · subst e; exact Or.inr ⟨d, x, h1, h2, h3, hv, hs⟩
  · rw [ho j hj e, hso j hj e]; exact g3 j hj
section J15
variable {p : Program} {l : Launch} {e : Env} {R : Room} {s : State} {m : MethodId} {args : Array Value} {below : List Frame} {meth : Method} {c : Code} {H : Heap} {locs : List Loc} {cells slots : Nat} {Q : State → Prop}
variable {cc : ByteArray} {pc : Nat} {ls : Array Slot} {rest : List Value} {dC : Nat → ClassId} {dI : Nat → Nat → Nat} {ca : Nat → ClassId} {B : jF} {base : Nat} {G0 G : jT} {E : List (Nat × Nat)} {H0 : Heap} {zc zs : Nat} {L : List jPin} {M : List jCt} {I : List jIv} {a k n i N : Nat} {cA : ClassId} {tys : List (ClassId × FieldType)} {C own : String} {T : u_T} {index : Nat}
end J15
end
