section
-- the reference's kernel: its facts, goals and lemma are good formulas
/-- what the kernel holds between two sentences: nodes, symbols, facts, goals, whether there is a proof, its lemma -/
def jKi (C : jK) (pn py pf pg pp pl : Int) (ff fg fh fp : Nat → Int32) : Prop := 0 ≤ pn ∧ 0 ≤ py ∧ py ≤ 16 ∧ 0 ≤ pf ∧ pf ≤ 16 ∧ 0 ≤ pg ∧ pg ≤ 6 ∧ jFa (jG1 C pn py) ff pf ∧ jGl (jG1 C pn py) fg fh fp pg ∧ (1 ≤ pp → jG1 C pn py pl)
end
section
-- the kernel at the beginning
theorem jKi.zero {C : jK} {pn py pf pg pp pl : Int} {ff fg fh fp : Nat → Int32} (h1 : pn = 0) (h2 : py = 0) (h3 : pf = 0) (h4 : pg = 0) (h5 : pp = 0) : jKi C pn py pf pg pp pl ff fg fh fp := ⟨by omega, by omega, by omega, by omega, by omega, by omega, by omega, fun k q0 q1 => by omega, fun k q0 q1 => by omega, fun q => by omega⟩
end
section
-- an array of arrays gets its kind
theorem jFq.zero {G : jT} {f : Nat → Option Nat} {i : Int} (h : i ≤ 0) : jFq G f i := fun j hj => by omega
end
section
-- what the kernel's walks need: raw arrays of ints, arrays whose last element is null, states, new goals
section J30
variable {p : Program} {l : Launch} {e : Env} {R : Room} {s : State} {m : MethodId} {args : Array Value} {below : List Frame} {meth : Method} {c : Code} {H : Heap} {locs : List Loc} {cells slots : Nat} {Q : State → Prop}
variable {cc : ByteArray} {pc : Nat} {ls : Array Slot} {rest : List Value} {dC : Nat → ClassId} {dI : Nat → Nat → Nat} {ca : Nat → ClassId} {B : jF} {base : Nat} {G0 G : jT} {E : List (Nat × Nat)} {H0 : Heap} {zc zs : Nat} {L : List jPin} {M : List jCt} {I : List jIv} {a a0 k k0 n n0 index : Nat} {tys : List (ClassId × FieldType)} {own C : String} {cA : ClassId}
end J30
theorem jFp.zero : jFp (fun _ => 0) := fun _ => (by decide : (-1 : Int) ≤ (0 : Int32).toInt)
theorem jZe.zero {g : Nat → Int32} {n : Int} (h : n ≤ 0) : jZe g n := fun l h0 h1 => by omega
theorem jTa.zero {g : Nat → Int32} {b : Int} (h : b ≤ 0) : jTa g b := fun l h0 h1 => by omega
theorem jPqk.zero {f g : Nat → Int32} {b i0 i s : Int} (h : i = i0) (hs : s = 0) : jPqk f g b i0 i s := ⟨by omega, by rw [hs, h, Int.sub_self]; rfl⟩
def jSef (dC : Nat → ClassId) (dI : Nat → Nat → Nat) (G : jT) (H : Heap) : Prop := ∀ a, G a = some (11, 0) → ∃ x y m : Nat, jf (dC, dI) 11 a 4 (.ref x) H ∧ jf (dC, dI) 11 a 5 (.ref y) H ∧ G x = some (101, m) ∧ G y = some (313, m) ∧ m ≤ 16
theorem jGq.zero {G : jT} {f : Nat → Option Nat} {i : Int} (h : i ≤ 0) : jGq G f i := fun j hj => by omega
end
section
-- the places where a term stands, counted as the scan goes
theorem jSq.zero {f g : Nat → Int32} {a b i : Int} (h : i ≤ 0) : jSq f g a b i := fun j h0 h1 => by omega
theorem jR1.zero {f g : Nat → Int32} {n m : Nat} {w i c : Int} (hi : i = 0) (hc : c = 0) : jR1 f n g m w i c := by
  subst hi; subst hc
  exact ⟨by omega, by omega, by omega, Int.zero_add _⟩
/-- the second pass: i is reached, at are written -/
def jR2 (f : Nat → Int32) (n : Nat) (g : Nat → Int32) (m : Nat) (w b i at_ : Int) : Prop := 0 ≤ i ∧ i ≤ n ∧ at_ = i + (jTn (jSp f n g m w) w n 0 - jTn (jSp f n g m w) w n i) * (b - w)
theorem jR2.zero {f g : Nat → Int32} {n m : Nat} {w b i t : Int} (hi : i = 0) (ht : t = 0) : jR2 f n g m w b i t := by
  subst hi; subst ht
  refine ⟨by omega, by omega, ?_⟩
  rw [Int.sub_self, Int.zero_mul]
  rfl
end
section
-- the sentences of a document of the class: in order, none empty
theorem jSn.zero {b e : Nat → Int32} {s u : Int} (h : s ≤ 0) : jSn b e s u := fun k a c => by omega
end
section
-- p11: bits; the tape on both sides; bytes read as UTF-8; the text that comes of them
theorem jTe.zero (f g : Nat → Int32) : jTe f g 0 := fun j h0 h1 => by omega
section JP1
variable {p : Program} {l : Launch} {e : Env} {R : Room} {s : State} {m : MethodId} {args : Array Value} {below : List Frame} {meth : Method} {c : Code} {H : Heap} {locs : List Loc} {cells slots : Nat} {Q : State → Prop}
variable {cc : ByteArray} {pc : Nat} {ls : Array Slot} {rest : List Value} {D : va_G} {cl : List vw_C} {A : Nat → Prop} {a : Nat} {tys : List (ClassId × FieldType)}
end JP1
section JP2
variable {p : Program} {l : Launch} {e : Env} {R : Room} {s : State} {m : MethodId} {args : Array Value} {below : List Frame} {meth : Method} {c : Code} {H : Heap} {locs : List Loc} {cells slots : Nat} {Q : State → Prop}
variable {cc : ByteArray} {pc : Nat} {ls : Array Slot} {rest : List Value} {dC : Nat → ClassId} {dI : Nat → Nat → Nat} {ca : Nat → ClassId} {B : jF} {base : Nat} {G0 G : jT} {E : List (Nat × Nat)} {H0 : Heap} {zc zs : Nat} {L : List jPin} {M : List jCt} {I : List jIv} {a k n : Nat} {cA : ClassId} {tys : List (ClassId × FieldType)}
end JP2
end
section
-- p9: what both sides hold between two calls
section
variable {a0 a1 a2 a3 a4 a5 a6 a7 a8 z bk m h l b cn cv zr : Int} {fb fn fv fk : Nat → Int32} {t t1 : jDtl} {w w1 : jWl9} {S : Int × (Int → jdD)}
end
theorem jCD.zero {dC : Nat → ClassId} {dI : Nat → Nat → Nat} {ca : Nat → ClassId} {G : jT} {H : Heap} {t : jDtl} (h : ∀ a t, G a ≠ some t) : jCD dC dI ca G none t H := ⟨fun _ => 0, fun _ => 0, fun a n ha => absurd ha (h _ _), fun a b n m ha => absurd ha (h _ _), fun a n ha => absurd ha (h _ _)⟩
end
section
-- p8: the class parts a text: first without what the last sentence takes of the rest
def jcQ (f : Nat → Int32) (n : Int) (b e l : Nat → Int32) (c : Int) : Prop := ∀ k : Nat, (k : Int) < c → jSo b k = jcB f n k ∧ jSo e k = jEn f n (jcB f n k) ∧ jSo l k = (if jSen f n (jcB f n k) < 0 then 1 else 0) ∧ jcB f n k < n
theorem jcQ.nil {f b e l : Nat → Int32} {n : Int} : jcQ f n b e l 0 := fun k h => by omega
theorem jcPc.nil {f l : Nat → Int32} {n : Int} : jcPc f n l 0 := fun k h => by omega
end
