section
theorem jT27 : ∀ w ∈ jTl27, w ∈ jWl := fun w h => jT26 w (List.mem_append_right _ h)
theorem jT28 : ∀ w ∈ jTl28, w ∈ jWl := fun w h => jT27 w (List.mem_append_right _ h)
theorem jT29 : ∀ w ∈ jTl29, w ∈ jWl := fun w h => jT28 w (List.mem_append_right _ h)
theorem jT30 : ∀ w ∈ jTl30, w ∈ jWl := fun w h => jT29 w (List.mem_append_right _ h)
theorem jT31 : ∀ w ∈ jTl31, w ∈ jWl := fun w h => jT30 w (List.mem_append_right _ h)
theorem jT32 : ∀ w ∈ jTl32, w ∈ jWl := fun w h => jT31 w (List.mem_append_right _ h)
theorem jT33 : ∀ w ∈ jTl33, w ∈ jWl := fun w h => jT32 w (List.mem_append_right _ h)
theorem jT34 : ∀ w ∈ jTl34, w ∈ jWl := fun w h => jT33 w (List.mem_append_right _ h)
theorem jT35 : ∀ w ∈ jTl35, w ∈ jWl := fun w h => jT34 w (List.mem_append_right _ h)
theorem jT36 : ∀ w ∈ jTl36, w ∈ jWl := fun w h => jT35 w (List.mem_append_right _ h)
theorem jT37 : ∀ w ∈ jTl37, w ∈ jWl := fun w h => jT36 w (List.mem_append_right _ h)
theorem jT38 : ∀ w ∈ jTl38, w ∈ jWl := fun w h => jT37 w (List.mem_append_right _ h)
theorem jT39 : ∀ w ∈ jTl39, w ∈ jWl := fun w h => jT38 w (List.mem_append_right _ h)
theorem jT40 : ∀ w ∈ jTl40, w ∈ jWl := fun w h => jT39 w (List.mem_append_right _ h)
theorem jT41 : ∀ w ∈ jTl41, w ∈ jWl := fun w h => jT40 w (List.mem_append_right _ h)
theorem jT42 : ∀ w ∈ jTl42, w ∈ jWl := fun w h => jT41 w (List.mem_append_right _ h)
theorem jT43 : ∀ w ∈ jTl43, w ∈ jWl := fun w h => jT42 w (List.mem_append_right _ h)
theorem jT44 : ∀ w ∈ jTl44, w ∈ jWl := fun w h => jT43 w (List.mem_append_right _ h)
theorem jT45 : ∀ w ∈ jTl45, w ∈ jWl := fun w h => jT44 w (List.mem_append_right _ h)
theorem jT46 : ∀ w ∈ jTl46, w ∈ jWl := fun w h => jT45 w (List.mem_append_right _ h)
theorem jT47 : ∀ w ∈ jTl47, w ∈ jWl := fun w h => jT46 w (List.mem_append_right _ h)
theorem jT48 : ∀ w ∈ jTl48, w ∈ jWl := fun w h => jT47 w (List.mem_append_right _ h)
theorem jT49 : ∀ w ∈ jTl49, w ∈ jWl := fun w h => jT48 w (List.mem_append_right _ h)
theorem jT50 : ∀ w ∈ jTl50, w ∈ jWl := fun w h => jT49 w (List.mem_append_right _ h)
theorem jT51 : ∀ w ∈ jTl51, w ∈ jWl := fun w h => jT50 w (List.mem_append_right _ h)
theorem jT52 : ∀ w ∈ jTl52, w ∈ jWl := fun w h => jT51 w (List.mem_append_right _ h)
theorem jT53 : ∀ w ∈ jTl53, w ∈ jWl := fun w h => jT52 w (List.mem_append_right _ h)
theorem jT54 : ∀ w ∈ jTl54, w ∈ jWl := fun w h => jT53 w (List.mem_append_right _ h)
theorem jT55 : ∀ w ∈ jTl55, w ∈ jWl := fun w h => jT54 w (List.mem_append_right _ h)
theorem jT56 : ∀ w ∈ jTl56, w ∈ jWl := fun w h => jT55 w (List.mem_append_right _ h)
theorem jT57 : ∀ w ∈ jTl57, w ∈ jWl := fun w h => jT56 w (List.mem_append_right _ h)
theorem jT58 : ∀ w ∈ jTl58, w ∈ jWl := fun w h => jT57 w (List.mem_append_right _ h)
theorem jT59 : ∀ w ∈ jTl59, w ∈ jWl := fun w h => jT58 w (List.mem_append_right _ h)
theorem jT60 : ∀ w ∈ jTl60, w ∈ jWl := fun w h => jT59 w (List.mem_append_right _ h)
theorem jT61 : ∀ w ∈ jTl61, w ∈ jWl := fun w h => jT60 w (List.mem_append_right _ h)
theorem jT62 : ∀ w ∈ jTl62, w ∈ jWl := fun w h => jT61 w (List.mem_append_right _ h)
theorem jT63 : ∀ w ∈ jTl63, w ∈ jWl := fun w h => jT62 w (List.mem_append_right _ h)
theorem jT64 : ∀ w ∈ jTl64, w ∈ jWl := fun w h => jT63 w (List.mem_append_right _ h)
theorem jT65 : ∀ w ∈ jTl65, w ∈ jWl := fun w h => jT64 w (List.mem_append_right _ h)
theorem jT66 : ∀ w ∈ jTl66, w ∈ jWl := fun w h => jT65 w (List.mem_append_right _ h)
theorem jT67 : ∀ w ∈ jTl67, w ∈ jWl := fun w h => jT66 w (List.mem_append_right _ h)
theorem jT68 : ∀ w ∈ jTl68, w ∈ jWl := fun w h => jT67 w (List.mem_append_right _ h)
theorem jT69 : ∀ w ∈ jTl69, w ∈ jWl := fun w h => jT68 w (List.mem_append_right _ h)
theorem jT70 : ∀ w ∈ jTl70, w ∈ jWl := fun w h => jT69 w (List.mem_append_right _ h)
theorem jT71 : ∀ w ∈ jTl71, w ∈ jWl := fun w h => jT70 w (List.mem_append_right _ h)
theorem jT72 : ∀ w ∈ jTl72, w ∈ jWl := fun w h => jT71 w (List.mem_append_right _ h)
theorem jT73 : ∀ w ∈ jTl73, w ∈ jWl := fun w h => jT72 w (List.mem_append_right _ h)
theorem jT74 : ∀ w ∈ jTl74, w ∈ jWl := fun w h => jT73 w (List.mem_append_right _ h)
theorem jT75 : ∀ w ∈ jTl75, w ∈ jWl := fun w h => jT74 w (List.mem_append_right _ h)
theorem jT76 : ∀ w ∈ jTl76, w ∈ jWl := fun w h => jT75 w (List.mem_append_right _ h)
theorem jT77 : ∀ w ∈ jTl77, w ∈ jWl := fun w h => jT76 w (List.mem_append_right _ h)
theorem jT78 : ∀ w ∈ jTl78, w ∈ jWl := fun w h => jT77 w (List.mem_append_right _ h)
theorem jT79 : ∀ w ∈ jTl79, w ∈ jWl := fun w h => jT78 w (List.mem_append_right _ h)
theorem jT80 : ∀ w ∈ jTl80, w ∈ jWl := fun w h => jT79 w (List.mem_append_right _ h)
theorem jT81 : ∀ w ∈ jTl81, w ∈ jWl := fun w h => jT80 w (List.mem_append_right _ h)
theorem jT82 : ∀ w ∈ jTl82, w ∈ jWl := fun w h => jT81 w (List.mem_append_right _ h)
theorem jT83 : ∀ w ∈ jTl83, w ∈ jWl := fun w h => jT82 w (List.mem_append_right _ h)
theorem jT84 : ∀ w ∈ jTl84, w ∈ jWl := fun w h => jT83 w (List.mem_append_right _ h)
theorem jT85 : ∀ w ∈ jTl85, w ∈ jWl := fun w h => jT84 w (List.mem_append_right _ h)
theorem jT86 : ∀ w ∈ jTl86, w ∈ jWl := fun w h => jT85 w (List.mem_append_right _ h)
theorem jT87 : ∀ w ∈ jTl87, w ∈ jWl := fun w h => jT86 w (List.mem_append_right _ h)
theorem jT88 : ∀ w ∈ jTl88, w ∈ jWl := fun w h => jT87 w (List.mem_append_right _ h)
theorem jT89 : ∀ w ∈ jTl89, w ∈ jWl := fun w h => jT88 w (List.mem_append_right _ h)
theorem jT90 : ∀ w ∈ jTl90, w ∈ jWl := fun w h => jT89 w (List.mem_append_right _ h)
theorem jT91 : ∀ w ∈ jTl91, w ∈ jWl := fun w h => jT90 w (List.mem_append_right _ h)
theorem jT92 : ∀ w ∈ jTl92, w ∈ jWl := fun w h => jT91 w (List.mem_append_right _ h)
theorem jT93 : ∀ w ∈ jTl93, w ∈ jWl := fun w h => jT92 w (List.mem_append_right _ h)
theorem jT94 : ∀ w ∈ jTl94, w ∈ jWl := fun w h => jT93 w (List.mem_append_right _ h)
theorem jWr_2 : ∀ w ∈ wsL_law_r2, w ∈ jWl := fun w h => jT2 w (List.mem_append_left _ h)
theorem jWr_15 : ∀ w ∈ wsL_law_r15, w ∈ jWl := fun w h => jT15 w (List.mem_append_left _ h)
theorem jWr_17 : ∀ w ∈ wsL_law_r17, w ∈ jWl := fun w h => jT17 w (List.mem_append_left _ h)
theorem jWr_35 : ∀ w ∈ wsL_law_r35, w ∈ jWl := fun w h => jT35 w (List.mem_append_left _ h)
theorem jWr_39 : ∀ w ∈ wsL_law_r39, w ∈ jWl := fun w h => jT39 w (List.mem_append_left _ h)
theorem jWr_40 : ∀ w ∈ wsL_law_r40, w ∈ jWl := fun w h => jT40 w (List.mem_append_left _ h)
theorem jWr_44 : ∀ w ∈ wsL_law_r44, w ∈ jWl := fun w h => jT44 w (List.mem_append_left _ h)
theorem jWr_77 : ∀ w ∈ wsL_law_r77, w ∈ jWl := fun w h => jT77 w (List.mem_append_left _ h)
theorem jWr_93 : ∀ w ∈ wsL_law_r93, w ∈ jWl := fun w h => jT93 w (List.mem_append_left _ h)
theorem jWr_94 : ∀ w ∈ wsL_law_r94, w ∈ jWl := fun w h => jT94 w (List.mem_append_left _ h)
theorem jWc_wsX110 : ∀ w ∈ wsX110, w ∈ jWl := fun w h => (List.mem_append_left _ (List.mem_append_left _ (List.mem_append_left _ (List.mem_append_left _ (List.mem_append_left _ (List.mem_append_left _ (List.mem_append_left _ (List.mem_append_left _ (List.mem_append_left _ (List.mem_append_left _ (List.mem_append_left _ (List.mem_append_left _ (List.mem_append_left _ (List.mem_append_left _ (List.mem_append_left _ (List.mem_append_left _ (List.mem_append_left _ (List.mem_append_right _ h))))))))))))))))))
theorem jWc_wsX10 : ∀ w ∈ wsX10, w ∈ jWl := fun w h => (List.mem_append_left _ (List.mem_append_left _ (List.mem_append_left _ (List.mem_append_left _ (List.mem_append_left _ (List.mem_append_left _ (List.mem_append_left _ (List.mem_append_left _ (List.mem_append_left _ (List.mem_append_right _ h))))))))))
theorem jWc_wsX90 : ∀ w ∈ wsX90, w ∈ jWl := fun w h => (List.mem_append_left _ (List.mem_append_left _ (List.mem_append_left _ (List.mem_append_left _ (List.mem_append_left _ (List.mem_append_left _ (List.mem_append_right _ h)))))))
end
section
-- the refined heap: every field of a typed object holds a value of its own predicate, every element of a typed array too; what is known of a field just now is a pin (address, kind, field, value)
section J7
variable {p : Program} {l : Launch} {e : Env} {R : Room} {s : State} {m : MethodId} {args : Array Value} {below : List Frame} {meth : Method} {c : Code} {H : Heap} {locs : List Loc} {cells slots : Nat} {Q : State → Prop}
variable {cc : ByteArray} {pc : Nat} {ls : Array Slot} {rest : List Value} {dC : Nat → ClassId} {dI : Nat → Nat → Nat} {ca : Nat → ClassId} {B : jF} {base : Nat} {G0 G : jT} {E : List (Nat × Nat)} {H0 : Heap} {zc zs : Nat} {L : List jPin} {M : List jCt} {I : List jIv} {a k n i index N : Nat} {tys : List (ClassId × FieldType)} {own C : String} {T : u_T}
end J7
section J8
variable {p : Program} {l : Launch} {e : Env} {R : Room} {s : State} {m : MethodId} {args : Array Value} {below : List Frame} {meth : Method} {c : Code} {H : Heap} {locs : List Loc} {cells slots : Nat} {Q : State → Prop}
variable {cc : ByteArray} {pc : Nat} {ls : Array Slot} {rest : List Value} {dC : Nat → ClassId} {dI : Nat → Nat → Nat} {ca : Nat → ClassId} {B : jF} {base : Nat} {G0 G : jT} {E : List (Nat × Nat)} {H0 : Heap} {zc zs : Nat} {L : List jPin} {M : List jCt} {I : List jIv} {a k n : Nat} {P : Nat → Int32 → Prop} {cA : ClassId} {tys : List (ClassId × FieldType)}
theorem j7_bald (hexec : p.tables.exec = Jvm.exec) (hb : c.code = cc) (hK : va_K (dC, dI) vwCl tys s) (hh : jSt (dC, dI) B base G0 G E H0 zc zs L M I H locs) (hBk : ∀ n G a H, B k n G a H ↔ jAr (dC, dI) cA P n a H) (t0 : Nat) (ht : tys[t0]? = some (cA, .byte)) (hk : k < 1000) (ha : G a = some (k, n)) {i : Int32} {x : Int} (hi : i.toInt = x) (h12 : 0 ≤ x ∧ x < n) (hdg : decode cc pc = .ok (.baload, 1))
    (kk : ∀ z : Int32, P x.toNat z → W p l e R s m args below meth c H locs cells slots Q (F0 m (pc + 1) ls (.int z :: rest))) : W p l e R s m args below meth c H locs cells slots Q (F0 m pc ls (.int i :: .ref a :: rest)) := by
  obtain ⟨h1, h2⟩ := h12
  obtain ⟨f, g1, g2⟩ := hh.ar hBk hk ha
  exact va_bald hexec hb hK (jp_one g1) 0 t0 rfl ht (jb_in hi h1 h2) hdg (kk _ (by rw [← jb_cl hi h1]; exact g2 _ (jb_cl_lt hi h1 h2)))
end J8
def jRm (G : jT) (k n : Nat) : Value → Prop := fun v => v = .null ∨ ∃ (x j : Nat), v = .ref x ∧ G x = some (k, j) ∧ j ≤ n
end
section
-- arrays of references
def jK2 (dC : Nat → ClassId) (dI : Nat → Nat → Nat) (ca : Nat → ClassId) (U : State) : Prop := va_K (dC, dI) vwCl [(ca 4, .object "ProofServerModel$Document"), (ca 5, .object "ProofServer$Document"), (ca 6, .object "ProofServer$State"), (ca 7, .object "ProofServer$Goal")] U
section J10
variable {p : Program} {l : Launch} {e : Env} {R : Room} {s : State} {m : MethodId} {args : Array Value} {below : List Frame} {meth : Method} {c : Code} {H : Heap} {locs : List Loc} {cells slots : Nat} {Q : State → Prop}
variable {cc : ByteArray} {pc : Nat} {ls : Array Slot} {rest : List Value} {dC : Nat → ClassId} {dI : Nat → Nat → Nat} {ca : Nat → ClassId} {B : jF} {base : Nat} {G0 G : jT} {E : List (Nat × Nat)} {H0 : Heap} {zc zs : Nat} {L : List jPin} {M : List jCt} {I : List jIv} {a k n : Nat} {P : jT → Option Nat → Prop} {cA : ClassId} {tys : List (ClassId × FieldType)} {C : String}
theorem jSt.aq (hh : jSt (dC, dI) B base G0 G E H0 zc zs L M I H locs) (hBk : ∀ n G a H, B k n G a H ↔ jAq (dC, dI) cA P n G a H) (hk : k < 1000) (ha : G a = some (k, n)) : ∃ f : Nat → Option Nat, va_at (dC, dI) vwCl (a, .inl (cA, n, .inr (.inr (.inr (.inr f))))) H ∧ ∀ j, j < n → P G (f j) := (hBk _ _ _ _).mp (hh.2.1.1 a k n ha hk (fun h => by cases h))
theorem j7_qlen (hexec : p.tables.exec = Jvm.exec) (hb : c.code = cc) (hK : va_K (dC, dI) vwCl tys s) (hh : jSt (dC, dI) B base G0 G E H0 zc zs L M I H locs) (hBk : ∀ n G a H, B k n G a H ↔ jAq (dC, dI) cA P n G a H) (t0 : Nat) {ty : FieldType} (ht : tys[t0]? = some (cA, ty)) (hk : k < 1000) (ha : G a = some (k, n)) (hn : n < 2147483648) (hdg : decode cc pc = .ok (.arraylength, 1))
    (kk : ∀ z : Int32, z.toInt = n → W p l e R s m args below meth c H locs cells slots Q (F0 m (pc + 1) ls (.int z :: rest))) : W p l e R s m args below meth c H locs cells slots Q (F0 m pc ls (.ref a :: rest)) := by
  obtain ⟨f, h1, -⟩ := hh.aq hBk hk ha
  exact va_alen (v := Int32.ofNat n) hexec hb hK (jp_one h1) 0 t0 rfl ht rfl hdg (kk _ (jb_nat hn))
end J10
end
section
def F3 (n : Nat) (G : jT) : List (Value → Prop) := [jRk G 101 3000, jIa, jRf G 101 1500, jI 0 1500, jI 0 40, jRf G 171 40, jRf G 172 40, jRf G 101 40, jRf G 101 40, jRf G 210 40, jI 0 40, jRm G 101 1500, jRn G 11 0, jIa, jIa, jIa, jI 0 1500]
end
section
-- invariants with a footprint, as a walk carries them: contents of reference arrays, one field of all documents, the sentences of all documents
section J15
variable {p : Program} {l : Launch} {e : Env} {R : Room} {s : State} {m : MethodId} {args : Array Value} {below : List Frame} {meth : Method} {c : Code} {H : Heap} {locs : List Loc} {cells slots : Nat} {Q : State → Prop}
variable {cc : ByteArray} {pc : Nat} {ls : Array Slot} {rest : List Value} {dC : Nat → ClassId} {dI : Nat → Nat → Nat} {ca : Nat → ClassId} {B : jF} {base : Nat} {G0 G : jT} {E : List (Nat × Nat)} {H0 : Heap} {zc zs : Nat} {L : List jPin} {M : List jCt} {I : List jIv} {a k n i N : Nat} {cA : ClassId} {tys : List (ClassId × FieldType)} {C own : String} {T : u_T} {index : Nat}
theorem jQc_eq {D : va_G} {a n j : Nat} {cA cB : ClassId} {f g : Nat → Option Nat} {H : Heap} (h1 : va_at D vwCl (a, .inl (cA, n, .inr (.inr (.inr (.inr f))))) H) (h2 : va_at D vwCl (a, .inl (cB, n, .inr (.inr (.inr (.inr g))))) H) (hj : j < n) : f j = g j := by
  have e1 : H[a]? = some (vp_cell cA (n, .inr (.inr (.inr (.inr f))))) := h1
  have e2 : H[a]? = some (vp_cell cB (n, .inr (.inr (.inr (.inr g))))) := h2
  have e := Option.some.inj (e1.symm.trans e2)
  have r1 : (vp_cell cA (n, .inr (.inr (.inr (.inr f))))).slots[j]? = some (va_rf (f j)) := by rw [vp_cell_q, arrV_read _ _ hj]
  have r2 : (vp_cell cB (n, .inr (.inr (.inr (.inr g))))).slots[j]? = some (va_rf (g j)) := by rw [vp_cell_q, arrV_read _ _ hj]
  rw [e, r2] at r1
  have r3 := Option.some.inj r1
  cases hf : f j <;> cases hg : g j <;> rw [hf, hg] at r3 <;> simp [va_rf] at r3 ⊢
  exact r3.symm
/-- reads and writes of a reference array whose contents are known -/
theorem j7_qaldI {P : jT → Option Nat → Prop} (hexec : p.tables.exec = Jvm.exec) (hb : c.code = cc) (hK : va_K (dC, dI) vwCl tys s) (hh : jSt (dC, dI) B base G0 G E H0 zc zs L M I H locs) (hBk : ∀ n G a H, B k n G a H ↔ jAq (dC, dI) cA P n G a H) (t0 : Nat) (ht : tys[t0]? = some (cA, .object C)) (hk : k < 1000) (ha : G a = some (k, n)) {i : Int32} {x : Int} (hi : i.toInt = x) (h12 : 0 ≤ x ∧ x < n) {f : Nat → Option Nat} {cB : ClassId} (hq : jQc dC dI cB a n f H) (hdg : decode cc pc = .ok (.aaload, 1))
    (kk : ∀ o : Option Nat, P G o → o = f x.toNat → W p l e R s m args below meth c H locs cells slots Q (F0 m (pc + 1) ls (va_rf o :: rest))) : W p l e R s m args below meth c H locs cells slots Q (F0 m pc ls (.int i :: .ref a :: rest)) := by
  obtain ⟨h1, h2⟩ := h12
  obtain ⟨f', g1, g2⟩ := hh.aq hBk hk ha
  have hlt := jb_cl_lt hi h1 h2
  exact va_aldq hexec hb hK (jp_one g1) 0 t0 rfl ht (jb_in hi h1 h2) hdg (kk _ (g2 _ hlt) (by rw [← jb_cl hi h1]; exact jQc_eq g1 hq hlt))
end J15
end
section
theorem jBr.k6 {n : Nat} {G : jT} {v : Value} (hn : n ≠ 4000) (h : jBr n G v) : ∃ (x m : Nat), v = .ref x ∧ G x = some (196, m) ∧ 16 ≤ m ∧ m ≤ 1048576 ∧ (n = 0 → jPw m) ∧ (n = 0 ∨ m = n) := by
  obtain ⟨x, m, e, h1, h2⟩ := h
  rw [jBkd, if_neg hn] at h1
  exact ⟨x, m, e, h1, h2⟩
end
section
def jGv (n : Nat) (G : jT) : Value → Prop := fun v => ∃ (x j : Nat), v = .ref x ∧ G x = some (101, j) ∧ j ≤ 7 ∧ (n % 10 = 1 → j ≤ 6) ∧ (n % 10 = 2 → 6 < j)
def jGn (n : Nat) (G : jT) : Value → Prop := fun v => ∃ x : Nat, v = .ref x ∧ G x = some (101, n / 10)
def jGh (n : Nat) (G : jT) : Value → Prop := fun v => ∃ (x k : Nat), v = .ref x ∧ G x = some (k, n / 10) ∧ n / 10 ≤ 9 ∧ (n % 10 ≠ 4 → k = 313) ∧ (n % 10 = 4 → k = 315) ∧ (n % 10 = 1 → n / 10 ≤ 8) ∧ (n % 10 = 3 → 8 < n / 10)
def jGfo (n : Nat) (G : jT) : Value → Prop := fun v => (v = .null ∧ n % 10 = 0) ∨ ∃ (x j : Nat), v = .ref x ∧ G x = some (280, j) ∧ j ≤ 80 ∧ n % 10 ≠ 0 ∧ n % 10 ≤ 4
def F5 (n : Nat) (G : jT) : List (Value → Prop) := [jGv n G, jGn n G, jGh n G, jGfo n G]
def F11 (n : Nat) (G : jT) : List (Value → Prop) := [jRn G 11 0, jRk G 101 1500, jIa, jRk G 101 16, jRk G 101 16, jRk G 313 16, jIa, jRk G 280 80, jRk G 214 6]
end
