-- super's methods; bytes whose contents are known; the numbers that signs tell
theorem jgU {h : Cond} {own : String} {idx : Nat} {y : MethodName} {c : ByteArray} {n : Nat} {r : Option FieldType} (h1 : Cond.methodLink own idx y ∈ jWl) (h2 : Cond.sameMethod y.cls y.cls y.name y.desc ∈ jWl) (h3 : Cond.superclass own y.cls ∈ jWl) (h4 : Cond.instanceMethod y ∈ jWl) (h5 : Cond.initialized y.cls ∈ jWl) (hc : Cond.code y c n r ∈ jWl) : GoodIn (h :: jWl) (va_wsSU own idx y (jw y c n r)) :=
  jgL (fun w hw => by
    rcases List.mem_cons.mp hw with e | hw
    · rw [e]; exact h1
    rcases List.mem_cons.mp hw with e | hw
    · rw [e]; exact h2
    rcases List.mem_cons.mp hw with e | hw
    · rw [e]; exact h3
    rcases List.mem_cons.mp hw with e | hw
    · rw [e]; exact h4
    rw [List.mem_singleton.mp hw]; exact h5) (jgW hc)
theorem j7_baldM {p : Program} {l : Launch} {e : Env} {R : Room} {s : State} {m : MethodId} {args : Array Value} {below : List Frame} {meth : Method} {c : Code} {H : Heap} {locs : List Loc} {cells slots : Nat} {Q : State → Prop} {cc : ByteArray} {pc : Nat} {ls : Array Slot} {rest : List Value} {dC : Nat → ClassId} {dI : Nat → Nat → Nat} {B : jF} {base : Nat} {G0 G : jT} {E : List (Nat × Nat)} {H0 : Heap} {zc zs : Nat} {L : List jPin} {M : List jCt} {I : List jIv} {a k n : Nat} {P : Nat → Int32 → Prop} {cA : ClassId} {tys : List (ClassId × FieldType)} (hexec : p.tables.exec = Jvm.exec) (hb : c.code = cc) (hK : va_K (dC, dI) vwCl tys s) (hh : jSt (dC, dI) B base G0 G E H0 zc zs L M I H locs) (hBk : ∀ n G a H, B k n G a H ↔ jAr (dC, dI) cA P n a H) (t0 : Nat) (ht : tys[t0]? = some (cA, .byte)) (hk : k < 1000) (ha : G a = some (k, n)) {i : Int32} {x : Int} (hi : i.toInt = x) (h12 : 0 ≤ x ∧ x < n) {j : Nat} {kk1 : Nat} {cB : ClassId} {f : Nat → Int32} (hj : M[j]? = some (a, kk1, n, cB, f)) (hdg : decode cc pc = .ok (.baload, 1))
    (kk : ∀ z : Int32, z = f x.toNat → P x.toNat z → W p l e R s m args below meth c H locs cells slots Q (F0 m (pc + 1) ls (.int z :: rest))) : W p l e R s m args below meth c H locs cells slots Q (F0 m pc ls (.int i :: .ref a :: rest)) := by
  obtain ⟨h1, h2⟩ := h12
  obtain ⟨f', g1, g2⟩ := hh.ar hBk hk ha
  obtain ⟨-, -, -, q4⟩ := hh.2.2.2.2.2.2.2.1 _ (List.mem_of_getElem? hj)
  have hlt := jb_cl_lt hi h1 h2
  have hP := g2 _ hlt
  have e1 := jCt_eq q4 g1 hlt
  rw [jb_cl hi h1] at e1 hP
  exact va_bald hexec hb hK (jp_one g1) 0 t0 rfl ht (jb_in hi h1 h2) hdg (by rw [jb_cl hi h1]; exact kk _ e1.symm hP)
def jDg (f : Nat → Int32) (n : Int) : Prop := ∀ i : Int, 0 ≤ i → i < n → 48 ≤ (jCv (f i.toNat)).toInt ∧ (jCv (f i.toNat)).toInt ≤ 57
def jNm (f : Nat → Int32) : Nat → Int
  | 0 => 0
  | n + 1 => 10 * jNm f n + ((jCv (f n)).toInt - 48)
theorem jNm_s {f : Nat → Int32} {k : Int} {m : Nat} {v w c : Int} (h : v = jNm f k.toNat) (h0 : 0 ≤ k) (hc : c = (jCv (f k.toNat)).toInt) (hw : w = 10 * v + c - 48) (e : m = k.toNat + 1) : w = jNm f m := by
  subst e
  have : jNm f (k.toNat + 1) = 10 * jNm f k.toNat + ((jCv (f k.toNat)).toInt - 48) := rfl
  rw [this, ← h, ← hc]; omega
theorem jDg.snoc {f : Nat → Int32} {k k1 c : Int} (h : jDg f k) (hc : c = (jCv (f k.toNat)).toInt) (h1 : 48 ≤ c) (h2 : c ≤ 57) (e : k1 = k + 1) : jDg f k1 := fun i q0 q1 => by
  by_cases q : i = k
  · rw [q, ← hc]; exact ⟨h1, h2⟩
  · exact h i q0 (by omega)
theorem arrV_cg {cA : ClassId} {n : Nat} {f g : Nat → Value} (h : ∀ j, j < n → f j = g j) : arrV cA n f = arrV cA n g := by
  unfold arrV
  congr 1
  congr 1
  funext j
  exact h j.val j.isLt
def jBf (j : Nat) (z : Int32) : Prop := fits .byte (.int z) = true
section J18
variable {p : Program} {l : Launch} {e : Env} {R : Room} {s : State} {m : MethodId} {args : Array Value} {below : List Frame} {meth : Method} {c : Code} {H : Heap} {locs : List Loc} {cells slots : Nat} {Q : State → Prop}
variable {cc : ByteArray} {pc : Nat} {ls : Array Slot} {rest : List Value} {dC : Nat → ClassId} {dI : Nat → Nat → Nat} {ca : Nat → ClassId} {B : jF} {base : Nat} {G0 G : jT} {E : List (Nat × Nat)} {H0 : Heap} {zc zs : Nat} {L : List jPin} {M : List jCt} {I : List jIv} {a k n : Nat} {cA : ClassId} {tys : List (ClassId × FieldType)}
theorem jSt.byt (hh : jSt (dC, dI) B base G0 G E H0 zc zs L M I H locs) (hBk : ∀ n G a H, B k n G a H ↔ jAr (dC, dI) cA jBf n a H) (hk : k < 1000) (ha : G a = some (k, n)) : ∃ f : Nat → Int32, va_at (dC, dI) vwCl (a, .inl (cA, n, .inl f)) H ∧ sb_Fit f := by
  obtain ⟨f, g1, g2⟩ := hh.ar hBk hk ha
  refine ⟨fun j => if j < n then f j else 0, ?_, fun j => ?_⟩
  · have e1 : H[a]? = some (vp_cell cA (n, .inl f)) := g1
    show H[a]? = some (vp_cell cA (n, .inl _))
    rw [e1, vp_cell_i, vp_cell_i]
    congr 1
    exact arrV_cg (fun j hj => by simp only [if_pos hj])
  · by_cases q : j < n
    · simp only [if_pos q]; exact g2 j q
    · simp only [if_neg q]; rfl
theorem j7_bastF (hexec : p.tables.exec = Jvm.exec) (hb : c.code = cc) (hK : va_K (dC, dI) vwCl tys s) (hh : jSt (dC, dI) B base G0 G E H0 zc zs L M I H locs) (hB : jBok B) (hBk : ∀ n G a H, B k n G a H ↔ jAr (dC, dI) cA jBf n a H) (t0 : Nat) (ht : tys[t0]? = some (cA, .byte)) (hk : k < 1000) (hk2 : 17 ≤ k) (hE : E.contains (k, 0) = true) (hM : M.all (fun q => !(q.2.1 == k)) = true) (hI : I.all (fun q => !(q.1.contains (k, 0))) = true) (ha : G a = some (k, n)) {i v : Int32} {x : Int} (hi : i.toInt = x) (h12 : 0 ≤ x ∧ x < n) (hdg : decode cc pc = .ok (.bastore, 1))
    (kk : ∀ (H1 : Heap) (locs1 : List Loc), jSt (dC, dI) B base G0 G E H0 zc zs L M I H1 locs1 → W p l e R s m args below meth c H1 locs1 cells slots Q (F0 m (pc + 1) ls rest)) : W p l e R s m args below meth c H locs cells slots Q (F0 m pc ls (.int v :: .int i :: .ref a :: rest)) := by
  obtain ⟨h1, h2⟩ := h12
  obtain ⟨f, g1, g2⟩ := hh.byt hBk hk ha
  exact j_bast (A := jA base) hexec hb hK t0 g1 (hh.ab ha).1 hh.1.2.2 ht (jb_in hi h1 h2) hdg (fun H1 locs1 f1 hf hat hsz hfr hT hL => kk H1 locs1 (hh.arr hB ha hk hk2 hE hM hI hsz hfr hT hL ((hBk _ _ _ _).mpr ⟨f1, hat, fun j _ => hf g2 j⟩)))
end J18
