-- bytes that grow: arrays of bytes whose elements fit (the builders', the class's Bytes)
section J17
variable {p : Program} {l : Launch} {e : Env} {R : Room} {s : State} {m : MethodId} {args : Array Value} {below : List Frame} {meth : Method} {c : Code} {H : Heap} {locs : List Loc} {cells slots : Nat} {Q : State → Prop}
variable {cc : ByteArray} {pc : Nat} {ls : Array Slot} {rest : List Value} {dC : Nat → ClassId} {dI : Nat → Nat → Nat} {ca : Nat → ClassId} {B : jF} {base : Nat} {G0 G : jT} {E : List (Nat × Nat)} {H0 : Heap} {zc zs : Nat} {L : List jPin} {M : List jCt} {I : List jIv} {a k n : Nat} {cA : ClassId} {tys : List (ClassId × FieldType)}
theorem jSt.newL (hh : jSt (dC, dI) B base G0 G E H0 zc zs L M I H locs) (hB : jBok B) (hb0 : base ≤ H.size) {H1 : Heap} {locs1 : List Loc} (hS : va_S (jA base) H0 H1 locs1) (hsz : H1.size = H.size + 1) (hfr : ∀ q, q < H.size → H1[q]? = H[q]?) {w : Nat} (hT : jTot H1 ≤ jTot H + w) (hk : k < 1000) (hb : B k n (va_up G H.size (some (k, n))) H.size H1) : jSt (dC, dI) B base G0 (va_up G H.size (some (k, n))) E H0 (zc + 1) (zs + w) L M I H1 locs1 := by
  obtain ⟨h1, h2, h3, h4, h5, h6, h7, h8, h9⟩ := hh
  have hn := h2.fresh
  have hle : jLe G (va_up G H.size (some (k, n))) := jLe.new hn
  have key : ∀ kb b ib v, jf (dC, dI) kb b ib v H → jf (dC, dI) kb b ib v H1 := fun kb b ib v hf => hf.kept (hfr b hf.lt)
  have hX1 := (h2.grow hB (k, n) hb0 hsz hfr).cls (jUp_self) hb
  refine ⟨hS, hX1, fun q hq => ?_, ⟨fun a kb nb ib v ha he hf => key kb a ib v (h4.1 a kb nb ib v ha he hf), fun a kb nb ha g1 g2 he => ?_⟩, h5.tr hle, by omega, by omega, fun q hq => ?_, fun q hq => ?_⟩
  · obtain ⟨⟨nq, g1⟩, g2⟩ := h3 q hq
    exact ⟨⟨nq, hle _ _ g1⟩, key _ _ _ _ g2⟩
  · exact (hfr a (h2.2 _ _ (h5 _ _ ha)).2).trans (h4.2 a kb nb ha g1 g2 he)
  · obtain ⟨g1, g2, g3, g4⟩ := h8 q hq
    exact ⟨hle _ _ g1, g2, g3, g4.kept (hfr _ (h2.2 _ _ g1).2)⟩
  · obtain ⟨g1, g2⟩ := h9 q hq
    refine ⟨g2 H H1 ⟨fun a kb nb ib v _ _ hf => key kb a ib v hf, fun a kb nb ha _ _ _ => hfr a (h2.2 _ _ ha).2⟩ g1, fun Ha Hb hA => g2 Ha Hb (hA.low hle)⟩
/-- Arrays.copyOf of bytes to a greater length, in a walk: the copy is typed at once -/
theorem j7_copyb {own : String} {index : Nat} {Ts : List Cond} {nL LC LS n1 : Nat} {z : Int32} (hC : CallFix p m c cc nL s args Ts own) (hK : va_K (dC, dI) vwCl tys s) (hG : jG dC dI ca base s) (hh : jSt (dC, dI) B base G0 G E s.heap zc zs L M I H locs) (hB : jBok B) (hBk : ∀ n G a H, B k n G a H ↔ jAr (dC, dI) (ca 0) jBf n a H) (hk : k < 1000) (hb0 : base ≤ s.heap.size) (ha : G a = some (k, n)) (hz : z.toInt = n1) (hn : n < n1) (hm : n1 ≤ 2000000) (hLC : H.size + 1 ≤ LC) (hLS : jTot H + n1 ≤ LS) (hRc : R.cells = LC - s.heap.size) (hRs : R.slots = LS - jTot s.heap)
    (cw : CallB R s args own index yJ7_copyOf_9075b cJ7_copyOf_9075b 3 (some (.array .byte)) (jw yJ7_copyOf_9075b cJ7_copyOf_9075b 3 (some (.array .byte))) { frames := 1, cells := LC - H.size, slots := LS - jTot H, locals := 40 } (LC - H.size) (LS - jTot H) 2 ∧ (Cond.static yJ7_copyOf_9075b).before args s = true) (hsz : ls.size = nL) (hW : (rest.map fun v => v.category).sum ≤ 8) (hdg : decode cc pc = .ok (.invokestatic index, 3))
    (kk : ∀ (H1 : Heap) (locs1 : List Loc), H1.size = H.size + 1 → jTot H1 ≤ jTot H + n1 → jSt (dC, dI) B base G0 (va_up G H.size (some (k, n1))) E s.heap (zc + 1) (zs + n1) L M I H1 locs1 → W p l e R s m args below meth c H1 locs1 (zc + 1) (zs + n1) Q (F0 m (pc + 3) ls (.ref H.size :: rest))) : W p l e R s m args below meth c H locs cells slots Q (F0 m pc ls (.int z :: .ref a :: rest)) := by
  obtain ⟨f, g1, g2⟩ := hh.byt hBk hk ha
  refine W.room (fun r1 r2 => ?_)
  refine va_callr (A0 := jA base) (H0 := s.heap) (va_runS (As := [.ref a, .int z]) (rest := rest) hC (wJ7_copyOf_9075b l dC dI ca base LC LS H a n n1 f z) cw ⟨fun a U g mk q => by obtain ⟨q0, q1, q2, qK, q9⟩ := q; exact ⟨q0, q1, q2, jG.calling g mk a qK, q9⟩, fun U hU hW => ⟨rfl, hU, g1, hG.step hW hU hh.1, g2, hz, hn, hm, hLC, hLS⟩⟩ rfl rfl hsz rfl (by show 2 * 0 + _ ≤ 8; omega) hdg ⟨by omega, by omega⟩) hh.1 (fun q h9 h => absurd h9 (Nat.not_lt.mpr h)) (fun q h => h.elim (fun h => by rw [h]; exact (hh.ab ha).1) (fun h => by show base ≤ q; omega)) (fun f9 a9 t H1 locs1 ht hvm hw hB9 hz1 hk1 hS1 => ?_)
  obtain ⟨rfl, hat9, hsz9, hfr9, hT9⟩ := hB9
  rw [ht] at hat9 hsz9 hT9
  have hfr9 : ∀ q, q < H.size → H1[q]? = H[q]? := fun q hq => by rw [← ht]; exact hfr9 q hq
  have h9 := hh.newL (k := k) (n := n1) hB (Nat.le_trans hb0 r1) hS1 hsz9 hfr9 hT9 hk ((hBk _ _ _ _).mpr ⟨f9, hat9, fun j _ => hw j⟩)
  exact W.tight (c2 := zc + 1) (n2 := zs + n1) h9.2.2.2.2.2.1 h9.2.2.2.2.2.2.1 (kk H1 locs1 hsz9 hT9 h9)
end J17
