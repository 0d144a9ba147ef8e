-- more cells: what is known stays known (a call that makes cells; none of them is a document of the reference)
theorem jAg.low {D : va_G} {G G1 : jT} {F : List (Nat × Nat)} {H H1 : Heap} (hle : jLe G G1) (h : jAg D G1 F H H1) : jAg D G F H H1 := ⟨fun a k n i v ha => h.1 a k n i v (hle _ _ ha), fun a k n ha => h.2 a k n (hle _ _ ha)⟩
theorem jIs.lift {D : va_G} {G G1 : jT} {H : Heap} {L : List jIv} (hle : jLe G G1) (h : jIs D G H L) : jIs D G1 H L := fun q hq => ⟨(h q hq).1, fun Ha Hb hA => (h q hq).2 Ha Hb (hA.low hle)⟩
theorem jMc.lift {D : va_G} {G G1 : jT} {H : Heap} {M : List jCt} (hle : jLe G G1) (h : jMc D G H M) : jMc D G1 H M := fun q hq => by
  obtain ⟨q1, q2, q3, q4⟩ := h q hq
  exact ⟨hle _ _ q1, q2, q3, q4⟩
theorem jSt.callG {dC : Nat → ClassId} {dI : Nat → Nat → Nat} {B : jF} {base : Nat} {G0 G : jT} {E : List (Nat × Nat)} {H0 : Heap} {zc zs : Nat} {L : List jPin} {M : List jCt} {I : List jIv} {H : Heap} {locs : List Loc} (hh : jSt (dC, dI) B base G0 G E H0 zc zs L M I H locs) {E1 : List (Nat × Nat)} {H1 : Heap} {locs1 : List Loc} {G1 : jT} {wc ws : Nat} (hX : jX B base G1 [] H1) (hG : jLe G G1) (hk : jKp (dC, dI) G E1 H H1) (hz : H1.size ≤ H.size + wc) (ht : jTot H1 ≤ jTot H + ws) (hS : va_S (jA base) H0 H1 locs1) (hE : E1.all (fun q => E.contains q) = true) {L1 : List jPin} (is : List Nat) (hs : is.map (fun i => L[i]?) = L1.map some) (hn : L1.all (fun q => !(E1.contains (q.2.1, q.2.2.1))) = true) {M1 : List jCt} (js : List Nat) (hjs : js.map (fun i => M[i]?) = M1.map some) (hjn : M1.all (fun q => !(E1.contains (q.2.1, 0))) = true) {I1 : List jIv} (ks : List Nat) (hks : ks.map (fun i => I[i]?) = I1.map some) (hkn : I1.all (fun q => E1.all (fun x => !(q.1.contains x))) = true) : jSt (dC, dI) B base G0 G1 E H0 (zc + wc) (zs + ws) L1 M1 I1 H1 locs1 := by
  obtain ⟨h1, h2, h3, h4, h5, h6, h7, h8, h9⟩ := hh
  exact ⟨hS, hX, h3.over hk hG is hs hn, h4.tr (hk.sub h5 hE), h5.tr hG, by omega, by omega, h8.over hk hG js hjs hjn, ((h9.sub ks hks).ag (fun q hq => jAg.of hk (List.all_eq_true.mp hkn q hq))).lift hG⟩
/-- no new document -/
def jN14 (G G1 : jT) : Prop := ∀ a, G1 a = some (14, 0) → G a = some (14, 0)
theorem jN14.rf {G : jT} : jN14 G G := fun _ h => h
theorem jN14.tr {G G1 G2 : jT} (h : jN14 G G1) (h1 : jN14 G1 G2) : jN14 G G2 := fun a ha => h a (h1 a ha)
theorem jN14.new {G : jT} {x k n : Nat} (hk : k ≠ 14) : jN14 G (va_up G x (some (k, n))) := fun a ha => by
  by_cases e : a = x
  · subst e
    simp only [va_up, if_pos] at ha
    exact absurd (Prod.mk.inj (Option.some.inj ha)).1 hk
  · rw [va_up_ne _ _ e] at ha; exact ha
theorem jD2.grow {dC : Nat → ClassId} {dI : Nat → Nat → Nat} {ca : Nat → ClassId} {G G1 : jT} {a yb ye : Nat} {ps : Int32} {H : Heap} (h : jD2 dC dI ca G a yb ye ps H) (hle : jLe G G1) : jD2 dC dI ca G1 a yb ye ps H := by
  obtain ⟨fb, fe, g1, g2, g3, g4, g5⟩ := h
  exact ⟨fb, fe, hle _ _ g1, hle _ _ g2, g3.lift hle, g4.lift hle, g5⟩
theorem jDY.grow {dC : Nat → ClassId} {dI : Nat → Nat → Nat} {ca : Nat → ClassId} {G G1 : jT} {x : Option Nat} {sn : Nat → Int32} {H : Heap} (h : jDY dC dI ca G x sn H) (hle : jLe G G1) (hn : jN14 G G1) : jDY dC dI ca G1 x sn H := by
  obtain ⟨Yb, Ye, h1, h2, h3, h4⟩ := h
  refine ⟨Yb, Ye, fun a ha => ?_, fun a b ha hb => h2 a b (hn a ha) (hn b hb), fun a b ha hb => h3 a b (hn a ha) (hn b hb), fun a ha hx => (h4 a (hn a ha) hx).grow hle⟩
  obtain ⟨g1, g2, g3, g4⟩ := h1 a (hn a ha)
  exact ⟨g1, g2, hle _ _ g3, hle _ _ g4⟩
theorem jVl.grow {dC : Nat → ClassId} {dI : Nat → Nat → Nat} {G G1 : jT} {i : Nat} {v : Nat → Int32} {H : Heap} (h : jVl dC dI G i v H) (hn : jN14 G G1) : jVl dC dI G1 i v H := fun a ha => h a (hn a ha)
theorem jFT.grow {dC : Nat → ClassId} {dI : Nat → Nat → Nat} {ca : Nat → ClassId} {G G1 : jT} {xb xe : Nat} {H : Heap} (h : jFT dC dI ca G xb xe H) (hle : jLe G G1) : jFT dC dI ca G1 xb xe H := by
  obtain ⟨fb, fe, h1, h2⟩ := h
  exact ⟨fb, fe, h1.lift hle, h2⟩
theorem jDV.grow {dC : Nat → ClassId} {dI : Nat → Nat → Nat} {ca : Nat → ClassId} {G G1 : jT} {r dd co cs ol nw td : Nat} {H : Heap} (h : jDV dC dI ca G r dd co cs ol nw td H) (hle : jLe G G1) (hn : jN14 G G1) (hd : G dd = some (201, 3)) (hc : G co = some (208, 2)) : jDV dC dI ca G1 r dd co cs ol nw td H := by
  obtain ⟨sn, ck, fs, fd, fo, dc, h1, h2, h3, h4⟩ := h
  refine ⟨sn, ck, fs, fd, fo, dc, h1.lift hle, h2.lift hle, ?_, h4⟩
  have e1 := (h3 _ (List.mem_of_getElem? (i := 0) rfl)).1
  have e2 := (h3 _ (List.mem_of_getElem? (i := 1) rfl)).1
  have e3 := (h3 _ (List.mem_of_getElem? (i := 2) rfl)).1
  have e4 := (h3 _ (List.mem_of_getElem? (i := 3) rfl)).1
  exact jIs.cons (jDY.ie (jDY.grow e1 hle hn)) (jIs.cons (jVl.ie (jVl.grow e2 hn)) (jIs.cons (jQc.ie e3 (hle _ _ hd) (by decide) (by decide)) (jIs.cons (jQc.ie e4 (hle _ _ hc) (by decide) (by decide)) jIs.nil)))
