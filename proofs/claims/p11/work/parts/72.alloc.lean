-- new cells: an array of ints that is typed at once
section J11
variable {p : Program} {l : Launch} {e : Env} {R : Room} {s : State} {m : MethodId} {args : Array Value} {below : List Frame} {meth : Method} {c : Code} {H : Heap} {locs : List Loc} {cells slots : Nat} {Q : State → Prop}
variable {cc : ByteArray} {pc : Nat} {ls : Array Slot} {rest : List Value} {dC : Nat → ClassId} {dI : Nat → Nat → Nat} {ca : Nat → ClassId} {B : jF} {base : Nat} {G0 G : jT} {E : List (Nat × Nat)} {H0 : Heap} {zc zs : Nat} {L : List jPin} {M : List jCt} {I : List jIv} {k n : Nat} {P : Nat → Int32 → Prop} {cA : ClassId} {tys : List (ClassId × FieldType)}
theorem jf.lt {D : va_G} {k a i : Nat} {v : Value} {H : Heap} (h : jf D k a i v H) : a < H.size := by
  obtain ⟨r, -, -, cell, g, -⟩ := h
  exact (Array.getElem?_eq_some_iff.mp g).1
theorem jSt.new (hh : jSt (dC, dI) B base G0 G E H0 zc zs L M I H locs) (hB : jBok B) (hb0 : base ≤ H.size) {H1 : Heap} (hsz : H1.size = H.size + 1) (hfr : ∀ q, q < H.size → H1[q]? = H[q]?) {w : Nat} (hT : jTot H1 = jTot H + w) (hk : k < 1000) (hb : B k n (va_up G H.size (some (k, n))) H.size H1) : jSt (dC, dI) B base G0 (va_up G H.size (some (k, n))) E H0 (zc + 1) (zs + w) L M I H1 locs := by
  obtain ⟨h1, h2, h3, h4, h5, h6, h7, h8, h9⟩ := hh
  have hn := h2.fresh
  have hle : jLe G (va_up G H.size (some (k, n))) := jLe.new hn
  have key : ∀ kb b ib v, jf (dC, dI) kb b ib v H → jf (dC, dI) kb b ib v H1 := fun kb b ib v hf => hf.kept (hfr b hf.lt)
  have hX1 := (h2.grow hB (k, n) hb0 hsz hfr).cls (jUp_self) hb
  refine ⟨⟨by rw [hsz]; exact Nat.le_succ_of_le h1.1, fun q g1 g2 => (hfr q (Nat.lt_of_lt_of_le g1 h1.1)).trans (h1.2.1 q g1 g2), h1.2.2⟩, hX1, fun q hq => ?_, ⟨fun a kb nb ib v ha he hf => key kb a ib v (h4.1 a kb nb ib v ha he hf), fun a kb nb ha g1 g2 he => ?_⟩, h5.tr hle, by omega, by omega, fun q hq => ?_, fun q hq => ?_⟩
  · obtain ⟨⟨nq, g1⟩, g2⟩ := h3 q hq
    exact ⟨⟨nq, hle _ _ g1⟩, key _ _ _ _ g2⟩
  · exact (hfr a (h2.2 _ _ (h5 _ _ ha)).2).trans (h4.2 a kb nb ha g1 g2 he)
  · obtain ⟨g1, g2, g3, g4⟩ := h8 q hq
    exact ⟨hle _ _ g1, g2, g3, g4.kept (hfr _ (h2.2 _ _ g1).2)⟩
  · obtain ⟨g1, g2⟩ := h9 q hq
    have hag : ∀ Ha Hb, jAg (dC, dI) (va_up G H.size (some (k, n))) q.1 Ha Hb → jAg (dC, dI) G q.1 Ha Hb := fun Ha Hb hA => ⟨fun a kb nb ib v ha => hA.1 a kb nb ib v (hle _ _ ha), fun a kb nb ha => hA.2 a kb nb (hle _ _ ha)⟩
    refine ⟨g2 H H1 ⟨fun a kb nb ib v _ _ hf => key kb a ib v hf, fun a kb nb ha _ _ _ => hfr a (h2.2 _ _ ha).2⟩ g1, fun Ha Hb hA => g2 Ha Hb (hag Ha Hb hA)⟩
/-- what a method that makes cells leaves -/
def jRa (D : va_G) (B : jF) (base : Nat) (G0 G1 : jT) (E : List (Nat × Nat)) (H0 : Heap) (zc zs : Nat) (M : List jPin) (H1 : Heap) : Prop := jX B base G1 [] H1 ∧ jLe G0 G1 ∧ jKp D G0 E H0 H1 ∧ H1.size ≤ H0.size + zc ∧ jTot H1 ≤ jTot H0 + zs ∧ jP D G1 H1 M
theorem jSt.ra (hh : jSt (dC, dI) B base G0 G E H0 zc zs L M I H locs) {zc1 zs1 : Nat} (hc : zc ≤ zc1) (hs1 : zs ≤ zs1) {M1 : List jPin} (is : List Nat) (hs : is.map (fun i => L[i]?) = M1.map some) {t : State} (ht : t.heap = H) : jRa (dC, dI) B base G0 G E H0 zc1 zs1 M1 t.heap := by
  rw [ht]
  obtain ⟨h1, h2, h3, h4, h5, h6, h7, h8, h9⟩ := hh
  exact ⟨h2, h5, h4, by omega, by omega, h3.sub is hs⟩
/-- behind a call that makes cells -/
theorem jSt.calla (hh : jSt (dC, dI) B base G0 G E H0 zc zs L M I H locs) {E1 : List (Nat × Nat)} {H1 : Heap} {locs1 : List Loc} {G1 : jT} {wc ws : Nat} (hX : jX B base G1 [] H1) (hG : jLe G G1) (hk : jKp (dC, dI) G E1 H H1) (hz : H1.size ≤ H.size + wc) (ht : jTot H1 ≤ jTot H + ws) (hS : va_S (jA base) H0 H1 locs1) (hE : E1.all (fun q => E.contains q) = true) {L1 : List jPin} (is : List Nat) (hs : is.map (fun i => L[i]?) = L1.map some) (hn : L1.all (fun q => !(E1.contains (q.2.1, q.2.2.1))) = true) : jSt (dC, dI) B base G0 G1 E H0 (zc + wc) (zs + ws) L1 [] [] H1 locs1 := by
  obtain ⟨h1, h2, h3, h4, h5, h6, h7, h8, h9⟩ := hh
  exact ⟨hS, hX, h3.over hk hG is hs hn, h4.tr (hk.sub h5 hE), h5.tr hG, by omega, by omega, jMc.nil, jIs.nil⟩
theorem j7_newi (hexec : p.tables.exec = Jvm.exec) (hb : c.code = cc) (hK : va_K (dC, dI) vwCl tys s) (hh : jSt (dC, dI) B base G0 G E s.heap zc zs L M I H locs) (hB : jBok B) (hBk : ∀ n G a H, B k n G a H ↔ jAr (dC, dI) cA P n a H) (t0 : Nat) (ht : tys[t0]? = some (cA, .int)) (hk : k < 1000) (hb0 : base ≤ s.heap.size) (harr : (Cond.arrayClass .int).before args s = true) {z : Int32} {x : Int} (hi : z.toInt = x) (h0 : 0 ≤ x ∧ x ≤ 100000) (hP : ∀ j, P j 0) (hR : zc + 1 ≤ R.cells) (hR2 : zs + x.toNat ≤ R.slots) (hdg : decode cc pc = .ok (.newarray .int, 2))
    (kk : ∀ (H1 : Heap), jSt (dC, dI) B base G0 (va_up G H.size (some (k, x.toNat))) E s.heap (zc + 1) (zs + x.toNat) L M I H1 locs → W p l e R s m args below meth c H1 locs (zc + 1) (zs + x.toNat) Q (F0 m (pc + 2) ls (.ref H.size :: rest))) : W p l e R s m args below meth c H locs cells slots Q (F0 m pc ls (.int z :: rest)) := by
  have hn0 : ¬ z < 0 := jb_n0 hi h0.1
  have hcl : z.toNatClampNeg = x.toNat := jb_cl hi h0.1
  have hsz := hh.1.1
  refine W.tight (c2 := zc) (n2 := zs) hh.2.2.2.2.2.1 hh.2.2.2.2.2.2.1 ?_
  refine j_newi hexec hb harr rfl rfl (fun _ h => h) hK t0 ht hn0 hcl (by show x.toNat * 4 ≤ _; omega) hR hR2 hdg (fun H1 hat hz1 hfr hT => ?_)
  exact kk H1 (hh.new hB (Nat.le_trans hb0 hsz) hz1 hfr hT hk ((hBk _ _ _ _).mpr ⟨fun _ => 0, hat, fun j _ => hP j⟩))
end J11
