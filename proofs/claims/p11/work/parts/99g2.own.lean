-- what a method writes of one object only: the others of its kind keep their fields
def jOw (D : va_G) (G : jT) (k r : Nat) (H0 H : Heap) : Prop := ∀ a n i v, a ≠ r → G a = some (k, n) → jf D k a i v H0 → jf D k a i v H
theorem jOw.rf {D : va_G} {G : jT} {k r : Nat} {H : Heap} : jOw D G k r H H := fun _ _ _ _ _ _ h => h
theorem jOw.tr {D : va_G} {G G1 : jT} {k r : Nat} {H0 H H1 : Heap} (h : jOw D G k r H0 H) (hle : jLe G G1) (h1 : jOw D G1 k r H H1) : jOw D G k r H0 H1 := fun a n i v hne ha hf => h1 a n i v hne (hle _ _ ha) (h a n i v hne ha hf)
theorem jOw.put {D : va_G} {G : jT} {k r : Nat} {H0 H H1 : Heap} (h : jOw D G k r H0 H) (hr : ∀ q, q ≠ r → H1[q]? = H[q]?) : jOw D G k r H0 H1 := fun a n i v hne ha hf => (h a n i v hne ha hf).kept (hr a hne)
theorem jOw.ie {dC : Nat → ClassId} {dI : Nat → Nat → Nat} {G0 G : jT} {k r N : Nat} {C : String} {T : u_T} {F : List (Nat × Nat)} {H0 H : Heap} (hc : vwCl[k]? = some (C, T, N)) (hF : (List.range N).all (fun i => F.contains (k, i)) = true) (hle : jLe G0 G) (h : jOw (dC, dI) G0 k r H0 H) : ((F, jOw (dC, dI) G0 k r H0) : jIv).2 H ∧ ∀ H1 H2 : Heap, jAg (dC, dI) G ((F, jOw (dC, dI) G0 k r H0) : jIv).1 H1 H2 → ((F, jOw (dC, dI) G0 k r H0) : jIv).2 H1 → ((F, jOw (dC, dI) G0 k r H0) : jIv).2 H2 := by
  refine ⟨h, fun H1 H2 hA h1 a n i v hne ha hf => ?_⟩
  have g := h1 a n i v hne ha hf
  have g' := g
  obtain ⟨r9, g1, g2, -⟩ := g'
  have e : r9 = (C, T, N) := Option.some.inj (g1.symm.trans hc)
  subst e
  exact hA.1 a k n i v (hle _ _ ha) (List.all_eq_true.mp hF i (List.mem_range.mpr g2)) g
theorem jP.cons {D : va_G} {G : jT} {H : Heap} {L : List jPin} {a k n i : Nat} {v : Value} (hg : G a = some (k, n)) (hf : jf D k a i v H) (h : jP D G H L) : jP D G H ((a, k, i, v) :: L) := fun q hq => by
  rcases List.mem_cons.mp hq with e | e
  · subst e; exact ⟨⟨n, hg⟩, hf⟩
  · exact h q e
theorem jnek {G : jT} {a b k n k1 n1 : Nat} (h : G a = some (k, n)) (h1 : G b = some (k1, n1)) (hn : ((k, n) == (k1, n1)) = false) : a ≠ b := fun e => by
  rw [e, h1] at h
  rw [Option.some.inj h] at hn
  simp at hn
/-- no new object of these kinds -/
def jNk (ks : List Nat) (G G1 : jT) : Prop := ∀ a k n, G1 a = some (k, n) → ks.contains k = true → G a = some (k, n)
theorem jNk.rf {ks : List Nat} {G : jT} : jNk ks G G := fun _ _ _ h _ => h
theorem jNk.tr {ks : List Nat} {G G1 G2 : jT} (h : jNk ks G G1) (h1 : jNk ks G1 G2) : jNk ks G G2 := fun a k n ha hk => h a k n (h1 a k n ha hk) hk
theorem jNk.sub {ks ks1 : List Nat} {G G1 : jT} (h : jNk ks G G1) (hs : ks1.all (fun k => ks.contains k) = true) : jNk ks1 G G1 := fun a k n ha hk => h a k n ha (List.all_eq_true.mp hs k (List.contains_iff_mem.mp hk))
theorem jNk.new {ks : List Nat} {G : jT} {x k n : Nat} (hk : ks.contains k = false) : jNk ks G (va_up G x (some (k, n))) := fun a k1 n1 ha h1 => by
  by_cases e : a = x
  · subst e
    simp only [va_up, if_pos] at ha
    have e1 := (Prod.mk.inj (Option.some.inj ha)).1
    rw [← e1, hk] at h1; cases h1
  · rw [va_up_ne _ _ e] at ha; exact ha
section J19
variable {p : Program} {l : Launch} {e : Env} {R : Room} {s : State} {m : MethodId} {args : Array Value} {below : List Frame} {meth : Method} {c : Code} {H : Heap} {locs : List Loc} {cells slots : Nat} {Q : State → Prop}
variable {cc : ByteArray} {pc : Nat} {ls : Array Slot} {rest : List Value} {dC : Nat → ClassId} {dI : Nat → Nat → Nat} {ca : Nat → ClassId} {B : jF} {base : Nat} {G0 G : jT} {E : List (Nat × Nat)} {H0 : Heap} {zc zs : Nat} {L : List jPin} {M : List jCt} {I : List jIv} {a k n i index N : Nat} {tys : List (ClassId × FieldType)} {own C : String} {T : u_T}
theorem j7_putX (hexec : p.tables.exec = Jvm.exec) (hb : c.code = cc) (hown : s.vm.findClass own = some m.cls) (hK : va_K (dC, dI) vwCl tys s) (hh : jSt (dC, dI) B base G0 G E H0 zc zs L M I H locs) (hB : jBok B) (hAp : jAp (dC, dI)) {F : Nat → jT → List (Value → Prop)} (hBk : ∀ n G a H, B k n G a H ↔ jOb (dC, dI) k N (F n G) a H) (hc : vwCl[k]? = some (C, T, N)) (hk : k < 1000) (ha : G a = some (k, n)) (hi : i < N) (hlay : (u_lay C T i).before args s = true) (hfin : (T i).2.2.2 = false) (hlink : (Cond.fieldLink own index (T i).1 (T i).2.1 (T i).2.2.1).before args s = true) {P : Value → Prop} (hp : (F n G)[i]? = some P) {ty : FieldType} {v : Value} (hd : parseFieldDescriptor (T i).2.2.1 = some ty) (hnar : narrow ty v = v) (hfit : fits ty v = true) (hv : P v) (hE : E.contains (k, i) = true)
    {L1 : List jPin} (is : List Nat) (hs : is.map (fun i => L[i]?) = L1.map some) (hn : L1.all (fun q => !(q.2.1 == k && q.2.2.1 == i)) = true) (hI : I.all (fun q => !(q.1.contains (k, i))) = true) (hdg : decode cc pc = .ok (.putfield index, 3))
    (kk : ∀ (H1 : Heap) (locs1 : List Loc), (∀ q, q ≠ a → H1[q]? = H[q]?) → jSt (dC, dI) B base G0 G E H0 zc zs ((a, k, i, v) :: L1) M I H1 locs1 → W p l e R s m args below meth c H1 locs1 cells slots Q (F0 m (pc + 3) ls rest)) : W p l e R s m args below meth c H locs cells slots Q (F0 m pc ls (v :: .ref a :: rest)) := by
  obtain ⟨V, ⟨cell, q1, q2, q3, q4⟩, hV⟩ := (hBk _ _ _ _).mp (hh.2.1.1 a k n ha hk (fun h => by cases h))
  obtain ⟨hS, hfc, kC, hkC, hkind⟩ := hK.1 k _ hc
  obtain ⟨cf, kf, fi, f, hfi, hsl⟩ := hS i hi
  have hst := (u_facts hfc hkC (j7_lay hlay) hfi).1
  unfold u_lay at hlay
  rw [if_neg (by rw [hfin]; decide)] at hlay
  have h6 := u_store hfc hkC hkind hlay hfi hd hnar hfit
  refine W.putK hexec hb (f := f) ⟨hown, hlink, ⟨_, _, _, hfi⟩, hst⟩ (by rw [q2]; exact h6) q1 q3 (by rw [hsl]; exact k2_hasslot (q4 i hi)) rfl rfl hdg fun H1 e1 e2 e3 => ?_
  rw [hsl] at e1 ⊢
  refine kk H1 _ e3 (hh.fld hB hAp hBk hc hk ha hi hp hv hE is hs hn hI q1 e1 e2 e3 (jTot_set e2 q1 e1 (jSet_sz _ _ _) e3) (fun q hq => ?_))
  rcases List.mem_append.mp hq with h | h
  · exact hh.1.2.2 q h
  · cases List.mem_singleton.mp h; exact (hh.ab ha).1
end J19
theorem jb_i2c {x z : Int32} (e : z = (x.toUInt32 % 65536).toInt32) (h0 : 0 ≤ x.toInt) (h1 : x.toInt ≤ 255) : z.toInt = x.toInt := by
  rw [e]
  have h := jb_nch h0 h1
  first
    | exact congrArg Int32.toInt (Value.int.inj h)
    | (unfold narrow at h; exact congrArg Int32.toInt (Value.int.inj h))
    | (simp only [narrow] at h; exact congrArg Int32.toInt (Value.int.inj h))
theorem jNm_0 {f : Nat → Int32} {k : Int} (h : jDg f k) : ∀ n : Nat, (n : Int) ≤ k → 0 ≤ jNm f n
  | 0, _ => Int.le_refl 0
  | n + 1, hn => by
    have h1 := jNm_0 h n (by omega)
    have h2 := h (n : Int) (by omega) (by omega)
    have e : jNm f (n + 1) = 10 * jNm f n + ((jCv (f n)).toInt - 48) := rfl
    have e2 : ((n : Int)).toNat = n := by omega
    rw [e2] at h2
    rw [e]
    omega
