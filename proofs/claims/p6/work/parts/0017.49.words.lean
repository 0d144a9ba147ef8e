section
theorem jWc_wsX110 : ∀ w ∈ wsX110, w ∈ jWl := fun w h => (List.mem_append_left _ (List.mem_append_left _ (List.mem_append_left _ (List.mem_append_left _ (List.mem_append_left _ (List.mem_append_left _ (List.mem_append_left _ (List.mem_append_left _ (List.mem_append_left _ (List.mem_append_left _ (List.mem_append_left _ (List.mem_append_left _ (List.mem_append_left _ (List.mem_append_left _ (List.mem_append_left _ (List.mem_append_left _ (List.mem_append_left _ (List.mem_append_right _ h))))))))))))))))))
theorem jWc_wsX140 : ∀ w ∈ wsX140, w ∈ jWl := fun w h => (List.mem_append_left _ (List.mem_append_left _ (List.mem_append_left _ (List.mem_append_left _ (List.mem_append_left _ (List.mem_append_left _ (List.mem_append_left _ (List.mem_append_left _ (List.mem_append_left _ (List.mem_append_left _ (List.mem_append_left _ (List.mem_append_left _ (List.mem_append_left _ (List.mem_append_left _ (List.mem_append_left _ (List.mem_append_left _ (List.mem_append_right _ h)))))))))))))))))
theorem jWc_wsX00 : ∀ w ∈ wsX00, w ∈ jWl := fun w h => (List.mem_append_left _ (List.mem_append_left _ (List.mem_append_left _ (List.mem_append_left _ (List.mem_append_left _ (List.mem_append_left _ (List.mem_append_left _ (List.mem_append_left _ (List.mem_append_left _ (List.mem_append_left _ (List.mem_append_left _ (List.mem_append_left _ (List.mem_append_left _ (List.mem_append_left _ (List.mem_append_left _ (List.mem_append_right _ h))))))))))))))))
theorem jWc_wsX20 : ∀ w ∈ wsX20, w ∈ jWl := fun w h => (List.mem_append_left _ (List.mem_append_left _ (List.mem_append_left _ (List.mem_append_left _ (List.mem_append_left _ (List.mem_append_left _ (List.mem_append_left _ (List.mem_append_left _ (List.mem_append_left _ (List.mem_append_left _ (List.mem_append_left _ (List.mem_append_left _ (List.mem_append_left _ (List.mem_append_left _ (List.mem_append_right _ h)))))))))))))))
theorem jWc_wsX40 : ∀ w ∈ wsX40, w ∈ jWl := fun w h => (List.mem_append_left _ (List.mem_append_left _ (List.mem_append_left _ (List.mem_append_left _ (List.mem_append_left _ (List.mem_append_left _ (List.mem_append_left _ (List.mem_append_left _ (List.mem_append_left _ (List.mem_append_left _ (List.mem_append_left _ (List.mem_append_left _ (List.mem_append_left _ (List.mem_append_right _ h))))))))))))))
theorem jWc_wsX50 : ∀ w ∈ wsX50, w ∈ jWl := fun w h => (List.mem_append_left _ (List.mem_append_left _ (List.mem_append_left _ (List.mem_append_left _ (List.mem_append_left _ (List.mem_append_left _ (List.mem_append_left _ (List.mem_append_left _ (List.mem_append_left _ (List.mem_append_left _ (List.mem_append_left _ (List.mem_append_left _ (List.mem_append_right _ h)))))))))))))
theorem jWc_wsX70 : ∀ w ∈ wsX70, w ∈ jWl := fun w h => (List.mem_append_left _ (List.mem_append_left _ (List.mem_append_left _ (List.mem_append_left _ (List.mem_append_left _ (List.mem_append_left _ (List.mem_append_left _ (List.mem_append_left _ (List.mem_append_left _ (List.mem_append_left _ (List.mem_append_left _ (List.mem_append_right _ h))))))))))))
theorem jWc_wsJx4a65c0 : ∀ w ∈ wsJx4a65c0, w ∈ jWl := fun w h => (List.mem_append_left _ (List.mem_append_left _ (List.mem_append_left _ (List.mem_append_left _ (List.mem_append_left _ (List.mem_append_left _ (List.mem_append_left _ (List.mem_append_left _ (List.mem_append_left _ (List.mem_append_left _ (List.mem_append_right _ h)))))))))))
theorem jWc_wsX10 : ∀ w ∈ wsX10, w ∈ jWl := fun w h => (List.mem_append_left _ (List.mem_append_left _ (List.mem_append_left _ (List.mem_append_left _ (List.mem_append_left _ (List.mem_append_left _ (List.mem_append_left _ (List.mem_append_left _ (List.mem_append_left _ (List.mem_append_right _ h))))))))))
theorem jWc_wsX60 : ∀ w ∈ wsX60, w ∈ jWl := fun w h => (List.mem_append_left _ (List.mem_append_left _ (List.mem_append_left _ (List.mem_append_left _ (List.mem_append_left _ (List.mem_append_left _ (List.mem_append_left _ (List.mem_append_left _ (List.mem_append_right _ h)))))))))
theorem jWc_wsX100 : ∀ w ∈ wsX100, w ∈ jWl := fun w h => (List.mem_append_left _ (List.mem_append_left _ (List.mem_append_left _ (List.mem_append_left _ (List.mem_append_left _ (List.mem_append_left _ (List.mem_append_left _ (List.mem_append_right _ h))))))))
theorem jWc_wsX90 : ∀ w ∈ wsX90, w ∈ jWl := fun w h => (List.mem_append_left _ (List.mem_append_left _ (List.mem_append_left _ (List.mem_append_left _ (List.mem_append_left _ (List.mem_append_left _ (List.mem_append_right _ h)))))))
theorem jWc_wsJ40 : ∀ w ∈ wsJ40, w ∈ jWl := fun w h => (List.mem_append_left _ (List.mem_append_left _ (List.mem_append_left _ (List.mem_append_left _ (List.mem_append_left _ (List.mem_append_right _ h))))))
theorem jWc_wsX120 : ∀ w ∈ wsX120, w ∈ jWl := fun w h => (List.mem_append_left _ (List.mem_append_left _ (List.mem_append_left _ (List.mem_append_left _ (List.mem_append_right _ h)))))
theorem jWc_wsX130 : ∀ w ∈ wsX130, w ∈ jWl := fun w h => (List.mem_append_left _ (List.mem_append_left _ (List.mem_append_left _ (List.mem_append_right _ h))))
theorem jWc_wsX80 : ∀ w ∈ wsX80, w ∈ jWl := fun w h => (List.mem_append_left _ (List.mem_append_left _ (List.mem_append_right _ h)))
theorem jWc_wsX30 : ∀ w ∈ wsX30, w ∈ jWl := fun w h => (List.mem_append_left _ (List.mem_append_right _ h))
end
section
-- the refined heap: every field of a typed object holds a value of its own predicate, every element of a typed array too; what is known of a field just now is a pin (address, kind, field, value)
def jAp (D : va_G) : Prop := ∀ k r, vwCl[k]? = some r → ∀ i j, i < r.2.2 → j < r.2.2 → i ≠ j → D.2 k i ≠ D.2 k j
section J7
variable {p : Program} {l : Launch} {e : Env} {R : Room} {s : State} {m : MethodId} {args : Array Value} {below : List Frame} {meth : Method} {c : Code} {H : Heap} {locs : List Loc} {cells slots : Nat} {Q : State → Prop}
variable {cc : ByteArray} {pc : Nat} {ls : Array Slot} {rest : List Value} {dC : Nat → ClassId} {dI : Nat → Nat → Nat} {ca : Nat → ClassId} {B : jF} {base : Nat} {G0 G : jT} {E : List (Nat × Nat)} {H0 : Heap} {zc zs : Nat} {L : List jPin} {M : List jCt} {I : List jIv} {a k n i index N : Nat} {tys : List (ClassId × FieldType)} {own C : String} {T : u_T}
end J7
section J8
variable {p : Program} {l : Launch} {e : Env} {R : Room} {s : State} {m : MethodId} {args : Array Value} {below : List Frame} {meth : Method} {c : Code} {H : Heap} {locs : List Loc} {cells slots : Nat} {Q : State → Prop}
variable {cc : ByteArray} {pc : Nat} {ls : Array Slot} {rest : List Value} {dC : Nat → ClassId} {dI : Nat → Nat → Nat} {ca : Nat → ClassId} {B : jF} {base : Nat} {G0 G : jT} {E : List (Nat × Nat)} {H0 : Heap} {zc zs : Nat} {L : List jPin} {M : List jCt} {I : List jIv} {a k n : Nat} {P : Nat → Int32 → Prop} {cA : ClassId} {tys : List (ClassId × FieldType)}
end J8
end
section
-- arrays of references
def jK2 (dC : Nat → ClassId) (dI : Nat → Nat → Nat) (ca : Nat → ClassId) (U : State) : Prop := va_K (dC, dI) vwCl [(ca 4, .object "ProofServerModel$Document"), (ca 5, .object "ProofServer$Document"), (ca 6, .object "ProofServer$State"), (ca 7, .object "ProofServer$Goal")] U
section J10
variable {p : Program} {l : Launch} {e : Env} {R : Room} {s : State} {m : MethodId} {args : Array Value} {below : List Frame} {meth : Method} {c : Code} {H : Heap} {locs : List Loc} {cells slots : Nat} {Q : State → Prop}
variable {cc : ByteArray} {pc : Nat} {ls : Array Slot} {rest : List Value} {dC : Nat → ClassId} {dI : Nat → Nat → Nat} {ca : Nat → ClassId} {B : jF} {base : Nat} {G0 G : jT} {E : List (Nat × Nat)} {H0 : Heap} {zc zs : Nat} {L : List jPin} {M : List jCt} {I : List jIv} {a k n : Nat} {P : jT → Option Nat → Prop} {cA : ClassId} {tys : List (ClassId × FieldType)} {C : String}
end J10
end
section
-- an array of ints is cloned
def jK8 (U : State) : Prop := va_Nw (.castable "[I" "java/lang/Cloneable") U
section J40
variable {p : Program} {l : Launch} {e : Env} {R : Room} {s : State} {m : MethodId} {args : Array Value} {below : List Frame} {meth : Method} {c : Code} {H : Heap} {locs : List Loc} {cells slots : Nat} {Q : State → Prop}
variable {cc : ByteArray} {pc : Nat} {ls : Array Slot} {rest : List Value} {dC : Nat → ClassId} {dI : Nat → Nat → Nat} {B : jF} {base : Nat} {G0 G : jT} {E : List (Nat × Nat)} {H0 : Heap} {zc zs : Nat} {L : List jPin} {M : List jCt} {I : List jIv} {a k n index : Nat} {tys : List (ClassId × FieldType)} {own : String}
end J40
end
section
-- p11: bits; the tape on both sides; bytes read as UTF-8; the text that comes of them
theorem jDe.long {b : Int → Int} {n w i c s m : Int} {g : Nat → Int32} (h : jDe b n g w i) (hi : i < n) (hc : c = jUc b i n) (hs : (65536 ≤ c ∧ s = 2) ∨ (c < 65536 ∧ s = 1)) (hm : m < w + s) : m < (jTl b n).length := by
  obtain ⟨P, k, hk, hw, hx, hP⟩ := h
  have e : ((jUu c).length : Int) = s := by
    unfold jUu
    rcases hs with ⟨q, e⟩ | ⟨q, e⟩
    · rw [if_neg (by omega), if_neg (by omega), e]; rfl
    · by_cases q2 : c < 0
      · rw [if_pos q2, e]; rfl
      · rw [if_neg q2, if_pos q, e]; rfl
  rw [← hP, jUl_s (by omega) hi, ← hc, List.length_append, List.length_append]
  omega
theorem jBa.long {b : Int → Int} {n r : Int} (h : 1500 < ((jTl b n).length : Int)) (e : r = -2) : jBa b n r := Or.inl ⟨h, e⟩
section JP1
variable {p : Program} {l : Launch} {e : Env} {R : Room} {s : State} {m : MethodId} {args : Array Value} {below : List Frame} {meth : Method} {c : Code} {H : Heap} {locs : List Loc} {cells slots : Nat} {Q : State → Prop}
variable {cc : ByteArray} {pc : Nat} {ls : Array Slot} {rest : List Value} {D : va_G} {cl : List vw_C} {A : Nat → Prop} {a : Nat} {tys : List (ClassId × FieldType)}
end JP1
section JP2
variable {p : Program} {l : Launch} {e : Env} {R : Room} {s : State} {m : MethodId} {args : Array Value} {below : List Frame} {meth : Method} {c : Code} {H : Heap} {locs : List Loc} {cells slots : Nat} {Q : State → Prop}
variable {cc : ByteArray} {pc : Nat} {ls : Array Slot} {rest : List Value} {dC : Nat → ClassId} {dI : Nat → Nat → Nat} {ca : Nat → ClassId} {B : jF} {base : Nat} {G0 G : jT} {E : List (Nat × Nat)} {H0 : Heap} {zc zs : Nat} {L : List jPin} {M : List jCt} {I : List jIv} {a k n : Nat} {cA : ClassId} {tys : List (ClassId × FieldType)}
end JP2
end
