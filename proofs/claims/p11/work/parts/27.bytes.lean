theorem W.room {p : Program} {l : Launch} {e : Env} {R : Room} {s : State} {m : MethodId} {args : Array Value} {below : List Frame} {meth : Method} {c : Code} {H : Heap} {locs : List Loc} {cells slots : Nat} {Q : State → Prop} {g : JFrame} (k : s.heap.size ≤ H.size → jTot s.heap ≤ jTot H → W p l e R s m args below meth c H locs (H.size - s.heap.size) (jTot H - jTot s.heap) Q g) : W p l e R s m args below meth c H locs cells slots Q g := by
  intro T hT X
  have e1 : (T.setVm s.vm).heap = H := hT
  obtain ⟨a1, a2, a3, a4, a5, a6⟩ := X.same
  rw [e1] at a2 a6
  have hkeep : (H.toList.take s.heap.size).map (·.slots.size) = s.heap.toList.map (·.slots.size) := by
    apply List.ext_getElem?
    intro i
    rw [List.getElem?_map, List.getElem?_map]
    by_cases hi : i < s.heap.size
    · rw [List.getElem?_take_of_lt hi]
      have hs : s.heap[i]? = some s.heap[i] := Array.getElem?_eq_getElem hi
      obtain ⟨c', h1, -, h3, -⟩ := a6 i _ hs
      rw [Array.getElem?_toList, Array.getElem?_toList, h1, hs]
      simp [h3]
    · have h1 : (H.toList.take s.heap.size)[i]? = none := by
        apply List.getElem?_eq_none
        simp; omega
      have h2 : s.heap.toList[i]? = none := by
        apply List.getElem?_eq_none
        simp; omega
      rw [h1, h2]
  have hsum : jTot H = jTot s.heap + ((H.toList.drop s.heap.size).map (·.slots.size)).sum := by
    unfold jTot
    rw [← hkeep, ← List.sum_append, ← List.map_append, List.take_append_drop]
  exact W.tight (c2 := H.size - s.heap.size) (n2 := jTot H - jTot s.heap) (by omega) (by omega) (k a2 (by omega)) T hT X
section JB2
variable {dC : Nat → ClassId} {dI : Nat → Nat → Nat} {ca : Nat → ClassId} {base : Nat} {B : jF} {LC LS : Nat} {G0 G G1 : jT} {X : List Nat} {a len0 len len1 : Nat} {cnt0 cnt cnt1 : Int32} {K K1 K2 : Nat} {H0 H H1 : Heap}
theorem jPost2.rf (hX : jX B base G X H) (hBy : jBy dC dI ca G a len cnt H) (hN : jN2 LC LS len cnt K H) : jPost2 dC dI ca base B G X a len cnt 0 H (G, len, cnt) H := by
  obtain ⟨h1, h2, h3, h4, -⟩ := hN
  exact ⟨hX, jExt.rf, hBy, fun _ _ _ => rfl, Nat.le_refl _, by simp, by simp, h2, Nat.le_refl _, h4, Or.inl rfl, Nat.le_refl _, Nat.le_refl _⟩
theorem jPost2.tr (h : jPost2 dC dI ca base B G0 X a len0 cnt0 K1 H0 (G, len, cnt) H) (h' : jPost2 dC dI ca base B G X a len cnt K2 H (G1, len1, cnt1) H1) : jPost2 dC dI ca base B G0 X a len0 cnt0 (K1 + K2) H0 (G1, len1, cnt1) H1 := by
  obtain ⟨a1, a2, a3, a4, a5, a6, a7, a8, a9, a10, a11, a12, a13⟩ := h
  obtain ⟨b1, b2, b3, b4, b5, b6, b7, b8, b9, b10, b11, b12, b13⟩ := h'
  simp only at *
  refine ⟨b1, a2.tr b2 a5, b3, fun q h5 h6 => (b4 q (by omega) (fun h => h6 ((jSup.ext a2 h5).mp h))).trans (a4 q h5 h6), by omega, by simp only; omega, by simp only; omega, b8, by simp only; omega, b10, ?_, by simp only; omega, by simp only; omega⟩
  simp only
  rcases b11 with e | ⟨e, e2⟩
  · rcases a11 with e3 | ⟨e3, e4⟩
    · exact Or.inl (by omega)
    · exact Or.inr ⟨by rw [e]; exact e3, by omega⟩
  · exact Or.inr ⟨e, by omega⟩
theorem jN2.next (hN : jN2 LC LS len0 cnt0 K H0) (h : jPost2 dC dI ca base B G0 X a len0 cnt0 K1 H0 (G, len, cnt) H) (hK : K1 + K2 ≤ K) : jN2 LC LS len cnt K2 H := by
  obtain ⟨a1, a2, a3, a4, a5, a6, a7, a8, a9, a10, a11, a12, a13⟩ := h
  obtain ⟨b1, b2, b3, b4, b5⟩ := hN
  simp only at *
  refine ⟨by omega, a8, by omega, a10, ?_⟩
  rcases b5 with e | ⟨e, e2, e3⟩
  · rcases a11 with e4 | ⟨e4, e5⟩
    · exact Or.inl (by omega)
    · omega
  · refine Or.inr ⟨?_, by omega, by omega⟩
    rcases a11 with e4 | ⟨e4, e5⟩
    · rw [e4]; exact e
    · exact e4
theorem jN2.cells (hN : jN2 LC LS len0 cnt0 K H0) (h : jPost2 dC dI ca base B G0 X a len0 cnt0 K1 H0 (G, len, cnt) H) (hK : K1 ≤ K) (kt : jTot H0 ≤ jTot H) : (H.size - H0.size) + (LC - H.size) ≤ LC - H0.size ∧ (jTot H - jTot H0) + (LS - jTot H) ≤ LS - jTot H0 ∧ H.size - H0.size ≤ LC - H0.size ∧ jTot H - jTot H0 ≤ LS - jTot H0 := by
  obtain ⟨a1, a2, a3, a4, a5, a6, a7, a8, a9, a10, a11, a12, a13⟩ := h
  obtain ⟨b1, b2, b3, b4, b5⟩ := hN
  simp only at *
  rcases b5 with e | ⟨e, e2, e3⟩
  · rcases a11 with e4 | ⟨e4, e5⟩
    · omega
    · omega
  · omega
theorem jPre2.blind {U : State} (g : JFrame) (mk : MethodId) (av : Array Value) (h : jPre2 dC dI ca base B LC LS G X a len cnt K H U) : jPre2 dC dI ca base B LC LS G X a len cnt K H (U.calling g mk av) := by
  obtain ⟨h1, h2, h3, h4, h5⟩ := h
  exact ⟨h1, h2, h3, jG.calling g mk av h4, h5⟩
theorem jPre2.mk {s U : State} {locs : List Loc} (hG : jG dC dI ca base s) (hW : s.WarmedH U.vm) (hU : U.heap = H) (hS : va_S (jA base) s.heap H locs) (hN : jN2 LC LS len0 cnt0 K s.heap) (hga : ∃ n, G0 a = some (2, n)) (haX : a ∈ X) (h0 : jX B base G0 X s.heap) (h : jPost2 dC dI ca base B G0 X a len0 cnt0 K1 s.heap (G, len, cnt) H) (hK : K1 + K2 ≤ K) : jPre2 dC dI ca base B LC LS G X a len cnt K2 H U := by
  have hn := hN.next h hK
  obtain ⟨n, hn0⟩ := hga
  exact ⟨hU, h.1, h.2.2.1, hG.step hW hU hS, ⟨n, h.2.1.at (h0.2 _ _ hn0).2 hn0⟩, haX, hn⟩
theorem jBy.recv {s : State} (h : jBy dC dI ca G a len cnt H) (hK : va_K (dC, dI) vwCl (jty ca) s) : ∃ cell : Cell, H[a]? = some cell ∧ cell.vm.isStatics = false ∧ s.vm.findClass RX0 = some cell.cls := by
  obtain ⟨row, f, h1, -⟩ := h
  exact va_recv hK (jp_one h1) (ci := 2) (q0 := 0) rfl rfl
end JB2
theorem jX.rf2 {dC : Nat → ClassId} {dI : Nat → Nat → Nat} {ca : Nat → ClassId} {base : Nat} {B : jF} {LC LS : Nat} {G : jT} {X : List Nat} {a len : Nat} {cnt : Int32} {K : Nat} {H : Heap} (hX : jX B base G X H) (hBy : jBy dC dI ca G a len cnt H) (hN : jN2 LC LS len cnt K H) : jPost2 dC dI ca base B G X a len cnt 0 H (G, len, cnt) H := jPost2.rf hX hBy hN
theorem jPost2.le {dC : Nat → ClassId} {dI : Nat → Nat → Nat} {ca : Nat → ClassId} {base : Nat} {B : jF} {G0 : jT} {X : List Nat} {a len0 : Nat} {cnt0 : Int32} {K K1 : Nat} {H0 H : Heap} {u : jT × Nat × Int32} (h : jPost2 dC dI ca base B G0 X a len0 cnt0 K1 H0 u H) (hK : K1 ≤ K) : jPost2 dC dI ca base B G0 X a len0 cnt0 K H0 u H := by
  obtain ⟨a1, a2, a3, a4, a5, a6, a7, a8, a9, a10, a11, a12, a13⟩ := h
  exact ⟨a1, a2, a3, a4, a5, a6, by omega, a8, a9, a10, a11.elim Or.inl (fun h => Or.inr ⟨h.1, by omega⟩), a12, a13⟩
