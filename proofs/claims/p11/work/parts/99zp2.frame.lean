-- all cells but these stay
def jKl (rs : List Nat) (H0 H : Heap) : Prop := ∀ q : Nat, q ∉ rs → H[q]? = H0[q]?
theorem jKl.rf {rs : List Nat} {H : Heap} : jKl rs H H := fun _ _ => rfl
theorem jKl.put {rs : List Nat} {H0 H H1 : Heap} {a : Nat} (h : jKl rs H0 H) (hr : ∀ q : Nat, q ≠ a → H1[q]? = H[q]?) (ha : a ∈ rs) : jKl rs H0 H1 := fun q hq => (hr q (fun e => hq (e ▸ ha))).trans (h q hq)
theorem jKl.tr {rs rs1 : List Nat} {H0 H H1 : Heap} (h : jKl rs H0 H) (h1 : jKl rs1 H H1) (hs : ∀ q, q ∈ rs1 → q ∈ rs) : jKl rs H0 H1 := fun q hq => (h1 q (fun e => hq (hs q e))).trans (h q hq)
theorem jKx.fl {r : Nat} {rs : List Nat} {G0 G : jT} {H0 H H1 : Heap} (h : jKx r G0 G H0 H) (h1 : jKl rs H H1) (hs : ∀ q, q ∈ rs → q = r ∨ H0.size ≤ q) : jKx r G0 G H0 H1 :=
  ⟨fun q hq hn => (h1 q (fun e => by rcases hs q e with e1 | e1; exact hn e1; omega)).trans (h.1 q hq hn), h.2⟩
theorem jKe.fl {rs : List Nat} {G0 G : jT} {H0 H H1 : Heap} (h : jKe G0 G H0 H) (h1 : jKl rs H H1) (hs : ∀ q, q ∈ rs → H0.size ≤ q) : jKe G0 G H0 H1 :=
  ⟨fun q hq => (h1 q (fun e => by have := hs q e; omega)).trans (h.1 q hq), h.2⟩
theorem jKx.st {r : Nat} {G : jT} {H0 H H1 : Heap} {G0 : jT} {a : Nat} (h : jKx r G0 G H0 H) (ha : H0.size ≤ a) (hr : ∀ q, q ≠ a → H1[q]? = H[q]?) : jKx r G0 G H0 H1 := ⟨fun q hq hn => (hr q (by omega)).trans (h.1 q hq hn), h.2⟩
theorem jKx.typn {r : Nat} {G0 G : jT} {H0 H : Heap} {a : Nat} {t : Option (Nat × Nat)} (h : jKx r G0 G H0 H) (ha : H0.size ≤ a) : jKx r G0 (va_up G a t) H0 H := ⟨h.1, fun q u hq hn hg => h.2 q u hq hn (by rw [va_up_ne _ _ (by omega)] at hg; exact hg)⟩
section J31
variable {p : Program} {l : Launch} {e : Env} {R : Room} {s : State} {m : MethodId} {args : Array Value} {below : List Frame} {meth : Method} {c : Code} {H : Heap} {locs : List Loc} {cells slots : Nat} {Q : State → Prop}
variable {cc : ByteArray} {pc : Nat} {ls : Array Slot} {rest : List Value} {dC : Nat → ClassId} {dI : Nat → Nat → Nat} {ca : Nat → ClassId} {B : jF} {base : Nat} {G0 G : jT} {E : List (Nat × Nat)} {H0 : Heap} {zc zs : Nat} {L : List jPin} {M : List jCt} {I : List jIv} {a k n : Nat} {tys : List (ClassId × FieldType)} {cA : ClassId}
theorem j7_lastF (hexec : p.tables.exec = Jvm.exec) (hb : c.code = cc) (hK : va_K (dC, dI) vwCl tys s) (hh : jSt (dC, dI) B base G0 G E H0 zc zs L M I H locs) (hB : jBok B) (hBk : ∀ n G a H, B k n G a H ↔ jAl (dC, dI) cA n a H) (t0 : Nat) (ht : tys[t0]? = some (cA, .long)) (hk : k < 1000) (hk2 : 17 ≤ k) (hE : E.contains (k, 0) = true) (hM : M.all (fun q => !(q.2.1 == k)) = true) (hI : I.all (fun q => !(q.1.contains (k, 0))) = true) (ha : G a = some (k, n)) {i : Int32} {v : Int64} {x : Int} (hi : i.toInt = x) (h12 : 0 ≤ x ∧ x < n) (hdg : decode cc pc = .ok (.lastore, 1))
    (kk : ∀ (H1 : Heap) (locs1 : List Loc), (∀ q, q ≠ a → H1[q]? = H[q]?) → jSt (dC, dI) B base G0 G E H0 zc zs L M I H1 locs1 → W p l e R s m args below meth c H1 locs1 cells slots Q (F0 m (pc + 1) ls rest)) : W p l e R s m args below meth c H locs cells slots Q (F0 m pc ls (.long v :: .int i :: .ref a :: rest)) := by
  obtain ⟨h1, h2⟩ := h12
  obtain ⟨f, g1⟩ := hh.al hBk hk ha
  exact j_last (A := jA base) hexec hb hK t0 g1 (hh.ab ha).1 hh.1.2.2 ht (jb_in hi h1 h2) hdg (fun H1 locs1 hat hsz hfr hT hL => kk H1 locs1 hfr (hh.arr hB ha hk hk2 hE hM hI hsz hfr hT hL ((hBk _ _ _ _).mpr ⟨_, hat⟩)))
end J31
