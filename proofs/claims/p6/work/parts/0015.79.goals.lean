section
-- goals, hypotheses, facts of the reference's kernel: slots of arrays
def jAh (fh fp gh gp : Nat → Int32) (g x : Int) : Prop := jUpd 46 fh gh g (jSo fh g + 1) ∧ jUpd 368 fp gp (8 * g + jSo fh g) x
theorem jFa.add {P : Int → Prop} {ff gf : Nat → Int32} {n m x : Int} (h : jFa P ff n) (hU : jUpd 16 ff gf n x) (hx : P x) (hm : m = n + 1) (h16 : n < 16) : jFa P gf m := fun k g0 g1 => by
  by_cases q : k = n
  · rw [q, hU.1]; exact hx
  · rw [hU.2 k g0 (by omega) q]; exact h k g0 (by omega)
theorem jGl.add {P : Int → Prop} {fg fh fp gh gp : Nat → Int32} {n i x : Int} (h : jGl P fg fh fp n) (hA : jAh fh fp gh gp i x) (hx : P x) (h0 : 0 ≤ i) (h1 : i ≤ 45) (h7 : jSo fh i ≤ 7) (hn : n ≤ 46) (hi : 0 ≤ jSo fh i) : jGl P fg gh gp n := fun g g0 g1 => by
  obtain ⟨q1, q2, q3, q4⟩ := h g g0 g1
  by_cases q : g = i
  · subst q
    refine ⟨q1, by rw [hA.1.1]; omega, by rw [hA.1.1]; omega, fun k r0 r1 => ?_⟩
    rw [hA.1.1] at r1
    by_cases w : k = jSo fh g
    · rw [w, hA.2.1]; exact hx
    · rw [hA.2.2 _ (by omega) (by omega) (by omega)]; exact q4 k r0 (by omega)
  · have e := hA.1.2 g g0 (by omega) q
    refine ⟨q1, by rw [e]; exact q2, by rw [e]; exact q3, fun k r0 r1 => ?_⟩
    rw [e] at r1
    rw [hA.2.2 _ (by omega) (by omega) (by omega)]; exact q4 k r0 r1
end
section
-- invariants with a footprint, as a walk carries them: contents of reference arrays, one field of all documents, the sentences of all documents
theorem jPu.take {sn ck fs fs' : Nat → Int32} {fd fo fo' : Nat → Option Nat} {dc : Int} {ol nw td : Nat} {w d x : Nat} (h : jPu sn ck fd fo fs dc ol nw td) (h1 : (d : Int) < dc) (h2 : d < 3) (h3 : fd d = some x) (hv : fo' w = some x) (ho : ∀ j, j < 2 → j ≠ w → fo' j = fo j) (hs : (fs' w).toInt < (sn x).toInt) (hso : ∀ j, j < 2 → j ≠ w → fs' j = fs j) : jPu sn ck fd fo' fs' dc ol nw td := by
  obtain ⟨g0, g1, g2, g3⟩ := h
  refine ⟨g0, g1, g2, fun j hj => ?_⟩
  by_cases e : j = w
  · subst e; exact Or.inr ⟨d, x, h1, h2, h3, hv, hs⟩
  · rw [ho j hj e, hso j hj e]; exact g3 j hj
section J15
variable {p : Program} {l : Launch} {e : Env} {R : Room} {s : State} {m : MethodId} {args : Array Value} {below : List Frame} {meth : Method} {c : Code} {H : Heap} {locs : List Loc} {cells slots : Nat} {Q : State → Prop}
variable {cc : ByteArray} {pc : Nat} {ls : Array Slot} {rest : List Value} {dC : Nat → ClassId} {dI : Nat → Nat → Nat} {ca : Nat → ClassId} {B : jF} {base : Nat} {G0 G : jT} {E : List (Nat × Nat)} {H0 : Heap} {zc zs : Nat} {L : List jPin} {M : List jCt} {I : List jIv} {a k n i N : Nat} {cA : ClassId} {tys : List (ClassId × FieldType)} {C own : String} {T : u_T} {index : Nat}
end J15
end
section
-- what reading JSON leaves: the strings and keys of the values stand apart among the units, and take bytes
theorem jHv.add {C D : jC} {pv pu pt wv wu wt l x wu' wt' x' : Int} (h : jHv C pv pu pt D wv wu wt l x) (ha : wu' - wu + x' - x ≤ wt' - wt) : jHv C pv pu pt D wv wu' wt' l x' := by
  rcases h with h | ⟨h1, h2, h3, h4, h5⟩
  · exact Or.inl h
  · exact Or.inr ⟨h1, h2, h3, h4, by omega⟩
end
section
-- p9: a change looks only at the units below the length
/-- what unit answers -/
def jdUn (c : Int) (F : Int → jdD) (d i : Int) : Int := if d < 0 ∨ c ≤ d ∨ i < 0 ∨ (F d).2.1 ≤ i then -1 else (F d).2.2.1 i
end
section
-- p9: the reference's documents: what its JSON tells, places, changes
section
variable {T : Nat → Int → Int} {v u a : Int} {ms mh mx mf mt mb me mi mn mp f : Nat → Int32} {n : Nat}
end
-- places
section
variable {g : Int → Int} {n w a p a1 p1 : Int}
end
/-- a unit of a string, out of the pool -/
theorem jjRB.un {T : Nat → Int → Int} {v u a j : Int} {ms mh mx mf mt mb me mi mn mp : Nat → Int32} (h : jjRB T v u ms mh mx mf mt mb me mi mn mp) (hk : jqK T v a = 3) (h0 : 0 ≤ j) (h1 : j < T 3 a) : jSo mp (T 2 a + j) = jqA T v a j := by
  have hp := jqK.p (T := T) (v := v) (i := a) (by omega)
  have hs := h.2.2.2.2.2.1 a hp.1 hp.2.1 (by rw [← hp.2.2]; exact hk)
  have e : jqA T v a j = T 7 (T 2 a + j) := if_pos ⟨hk, h0, h1⟩
  rw [e]
  exact (h.2.1 _ (by omega) (by omega)).symm
end
section
-- p9: what both sides hold between two calls
def jlI (a0 a1 a2 a3 a4 a5 a6 a7 a8 : Int) (fb : Nat → Int32) (z : Int) (t : jDtl) (w : jWl9) (bk m h l b : Int) (fn : Nat → Int32) (cn : Int) (fv : Nat → Int32) (cv : Int) (fk : Nat → Int32) (zr : Int) (S : Int × (Int → jdD)) : Prop := ∃ s : jdSt, jfQ s.1 a0 a1 a2 a3 a4 a5 a6 a7 a8 ∧ jfBd s.2.1 fb 3000 ∧ s.2.2.1 = z ∧ s.2.2.2 = jdCs t w ∧ jrQ s bk m h l b fn cn fv cv fk zr S
section
variable {a0 a1 a2 a3 a4 a5 a6 a7 a8 z bk m h l b cn cv zr : Int} {fb fn fv fk : Nat → Int32} {t t1 : jDtl} {w w1 : jWl9} {S : Int × (Int → jdD)}
theorem jlI.un (q : jlI a0 a1 a2 a3 a4 a5 a6 a7 a8 fb z t w bk m h l b fn cn fv cv fk zr S) {r1 r2 c d c1 d1 : Int} (e1 : r1 = jdUn (jdCs t w).1 (jdCs t w).2 c d) (e2 : r2 = jdUn S.1 S.2 c1 d1) (ec : c1 = c) (ed : d1 = d) : r1 = r2 := by
  obtain ⟨s, h1, h2, h3, h4, h5⟩ := q
  have e : jdCs t w = S := h4.symm.trans h5.2.2.2.2
  subst ec ed
  rw [e1, e2, e]
end
end
section
-- p8: the sentences of a text, by their numbers
theorem jPar.un {f : Nat → Int32} {n c : Int} (hn : 0 ≤ n) (h0 : 0 ≤ c) (h1 : c ≤ 40) (h2 : ∀ j : Nat, (j : Int) < c → jcB f n j < n) (h3 : c < 40 → n ≤ jcB f n c.toNat) : c = jPar f n := by
  obtain ⟨g0, g1, g2, g3⟩ := jPar.ch (f := f) hn
  by_cases q : c < jPar f n
  · have := g2 c.toNat (by omega)
    have := h3 (by omega)
    omega
  · by_cases w : jPar f n < c
    · have := h2 (jPar f n).toNat (by omega)
      have := g3 (by omega)
      omega
    · omega
-- units and rows
end
section
-- p8: rows of units in arrays; the cache
/-- one unit more of a row; its mark -/
theorem jcR.un {fr gr ft : Nat → Int32} {R : List Int} {w w1 b v v1 x : Int} {N : Nat} (h : jcL fr w.toNat 0 = R ++ jcL ft (v - b).toNat b) (hv : jSo gr w = x) (ho : ∀ j : Nat, j < N → j ≠ w.toNat → gr j = fr j) (h0 : 0 ≤ w) (hN : w < N) (hb : b ≤ v) (e1 : w1 = w + 1) (e2 : v1 = v + 1) (hx : x = jSo ft v) : jcL gr w1.toNat 0 = R ++ jcL ft (v1 - b).toNat b := by
  subst e1 e2 hx
  rw [jcL.st (N := N) h0 hN hv (fun j hj hne => ho j (by omega) hne), h, show (v + 1 - b).toNat = (v - b).toNat + 1 by omega, jcL.sn, show b + (((v - b).toNat : Nat) : Int) = v by omega, List.append_assoc]
theorem jwIp.all {C : List (List Int)} {R : List Int} {v r : Int} (h : jwIp C R v) (hv : (C.length : Int) ≤ v) (e : r = -1) : jwIx C R r := Or.inl ⟨e, fun w => by
  obtain ⟨i, hi⟩ := List.mem_iff_getElem?.mp w
  have := (List.getElem?_eq_some_iff.mp hi).1
  exact h i (by omega) hi⟩
end
section
-- p8: what the loops over documents, requests and the cache take
section
variable {S : Int × (Int → jdD)} {Z : jwSt} {d d1 x x1 : Int} {k : Nat}
theorem jwN_y (hk : 0 < k) (h : Z.1 d < jwS S d) (h0 : (Z.2.1 0).1 ≠ d) (h1 : (Z.2.1 1).1 ≠ d) (ha : jwAs Z.2.2.1 d = true) : jwN S Z k d x = d := by rw [jwN_s hk, if_pos ⟨h, h0, h1⟩, if_pos ha]
end
-- lists by index
/-- all that wait are still waiting for their own document: only those of the document that has gone on may be ready -/
theorem jwRy.all {S : Int × (Int → jdD)} {Z : jwSt} {d : Int} {q : jwQ} (h : ∀ q ∈ Z.2.2.1, 0 ≤ q.1 ∧ q.1 < S.1 ∧ Z.1 q.1 < q.2.1) (hq : q ∈ Z.2.2.1) (c : Int) : (jwRy d c q = true ↔ q.2.1 ≤ jwUp Z.1 d c q.1) := by
  unfold jwRy jwUp
  have := (h q hq).2.2
  constructor
  · intro w
    rw [Bool.and_eq_true] at w
    have e := of_decide_eq_true w.1
    rw [if_pos e]
    exact of_decide_eq_true w.2
  · intro w
    by_cases e : q.1 = d
    · rw [if_pos e] at w
      rw [Bool.and_eq_true]
      exact ⟨decide_eq_true e, decide_eq_true w⟩
    · rw [if_neg e] at w
      omega
-- the prefix that stays
end
section
-- p8: what is told of all documents of the class: sentences, what is checked, the check that goes on (written by mkent.py)
section J81
variable {dC : Nat → ClassId} {dI : Nat → Nat → Nat} {ca : Nat → ClassId} {G G1 : jT} {H H1 : Heap} {x : Option Nat} {q : jKg}
variable {a ysb yse ysc ybh : Nat} {sn : Int32} {ck : Int32} {lf : Int32} {cv : Value} {fv : Value} {sb : Nat → Int32} {se : Nat → Int32} {sc : Nat → Int32} {bh : Nat → Option Nat}
theorem jK1.of (h : jK1 dC dI ca G a ysb yse ysc ybh sn ck lf cv fv sb se sc bh H) (hf : ∀ i v, i = 4 ∨ i = 10 ∨ i = 13 ∨ i = 11 ∨ i = 12 → jf (dC, dI) 3 a i v H → jf (dC, dI) 3 a i v H1) (k0 : H1[ysb]? = H[ysb]?) (k1 : H1[yse]? = H[yse]?) (k2 : H1[ysc]? = H[ysc]?) (k3 : H1[ybh]? = H[ybh]?) : jK1 dC dI ca G a ysb yse ysc ybh sn ck lf cv fv sb se sc bh H1 := by
  obtain ⟨h1, h2, h3⟩ := h
  refine ⟨fun z hz => ?_, fun z hz => ?_, ⟨h3.1, ?_⟩⟩
  · obtain ⟨q1, q2⟩ := h1 z hz
    refine ⟨q1, ?_⟩
    simp only [List.mem_cons, List.not_mem_nil, or_false] at hz
    rcases hz with rfl | rfl | rfl | rfl | rfl
    · exact hf _ _ (Or.inl rfl) q2
    · exact hf _ _ (Or.inr (Or.inl rfl)) q2
    · exact hf _ _ (Or.inr (Or.inr (Or.inl rfl))) q2
    · exact hf _ _ (Or.inr (Or.inr (Or.inr (Or.inl rfl)))) q2
    · exact hf _ _ (Or.inr (Or.inr (Or.inr (Or.inr (rfl))))) q2
  · obtain ⟨q1, q2, q3, q4⟩ := h2 z hz
    refine ⟨q1, q2, q3, q4.kept ?_⟩
    simp only [List.mem_cons, List.not_mem_nil, or_false] at hz
    rcases hz with rfl | rfl | rfl
    · exact k0
    · exact k1
    · exact k2
  · exact va_at.kept (show va_at (dC, dI) vwCl (ybh, .inl (ca 6, 40, .inr (.inr (.inr (.inr bh))))) H from h3.2) k3
end J81
end
section
-- p8: what is told of all documents of the reference: sentences, what is checked, the check that goes on (written by mkent.py)
section J82
variable {dC : Nat → ClassId} {dI : Nat → Nat → Nat} {ca : Nat → ClassId} {G G1 : jT} {H H1 : Heap} {x : Option Nat} {q : jXg}
variable {a ysb yse ysf : Nat} {sn : Int32} {ck : Int32} {sb : Nat → Int32} {se : Nat → Int32} {sf : Nat → Int32}
theorem jX1d.of (h : jX1d dC dI ca G a ysb yse ysf sn ck sb se sf H) (hf : ∀ i v, i = 5 ∨ i = 9 → jf (dC, dI) 14 a i v H → jf (dC, dI) 14 a i v H1) (k0 : H1[ysb]? = H[ysb]?) (k1 : H1[yse]? = H[yse]?) (k2 : H1[ysf]? = H[ysf]?) : jX1d dC dI ca G a ysb yse ysf sn ck sb se sf H1 := by
  obtain ⟨h1, h2, -⟩ := h
  refine ⟨fun z hz => ?_, fun z hz => ?_, trivial⟩
  · obtain ⟨q1, q2⟩ := h1 z hz
    refine ⟨q1, ?_⟩
    simp only [List.mem_cons, List.not_mem_nil, or_false] at hz
    rcases hz with rfl | rfl
    · exact hf _ _ (Or.inl rfl) q2
    · exact hf _ _ (Or.inr (rfl)) q2
  · obtain ⟨q1, q2, q3, q4⟩ := h2 z hz
    refine ⟨q1, q2, q3, q4.kept ?_⟩
    simp only [List.mem_cons, List.not_mem_nil, or_false] at hz
    rcases hz with rfl | rfl | rfl
    · exact k0
    · exact k1
    · exact k2
end J82
end
section
-- p8: the reference's scheduler as the machine: what binds its rows to Z
section J85
variable {t : jDtr} {q : jXg} {fd co : Nat → Option Nat} {dc : Int} {cs cl : Nat → Int32} {W : List jwA} {ol nw td : Nat} {S : Int × (Int → jdD)} {Z : jwSt}
theorem jrZ.cst {d a : Nat} (h : jrZ t q fd dc co cs cl W ol nw td S Z) (hd : (d : Int) < dc) (ha : fd d = some a) (k : Int) : jwC S d k = jcC (t.tx a) (t.ln a).toInt k.toNat := by
  unfold jwC
  rw [h.ln hd ha, jcC.cg (h.l0 a).1 (h.tx hd ha)]
end J85
section J87
variable {t : jDtr} {q : jXg} {fd co : Nat → Option Nat} {dc : Int} {cs cl : Nat → Int32} {W : List jwA} {ol nw td : Nat} {S : Int × (Int → jdD)} {Z : jwSt}
theorem jdRr.of {d : Int} {a : Nat} (h0 : 0 ≤ d) (h : some a = fd d.toNat) : Value.ref a = jdRr fd d := by
  unfold jdRr
  rw [if_neg (by omega), ← h]
  rfl
end J87
end
section
-- p8: what the reference does, as the machine does it
section J88
variable {t : jDtr} {q : jXg} {fd co co1 : Nat → Option Nat} {dc : Int} {cs cl cs1 cl1 : Nat → Int32} {W : List jwA} {ol nw td x : Nat} {S : Int × (Int → jdD)} {Z : jwSt} {w L : Int} {i : Nat}
theorem jrZ.take (h : jrZ t q fd dc co cs cl W ol nw td S Z) (hw0 : 0 ≤ w) (hw1 : w ≤ 1) (hx : Value.ref x = jdRr fd (jwNx S Z)) (hi : (i : Int) = w) (hv : co1 i = some x) (ho : ∀ j, j < 2 → j ≠ i → co1 j = co j) (hs : jUpd 2 cs cs1 w (q.ck x).toInt) (hl : jUpd 2 cl cl1 w L) (hL : L = jwLf S Z (jwNx S Z)) : jrZ t q fd dc co1 cs1 cl1 W ol nw td S (jwTk S Z w) := by
  obtain ⟨hd0, hd1⟩ := jdRr.y hx
  have hd : jwNx S Z < S.1 ∧ Z.1 (jwNx S Z) < jwS S (jwNx S Z) ∧ (Z.2.1 0).1 ≠ jwNx S Z ∧ (Z.2.1 1).1 ≠ jwNx S Z := by
    rcases jwNx.rg (S := S) (Z := Z) with e | e
    · omega
    · exact e.2
  obtain ⟨g1, g2, g3, g4⟩ := hd
  have hn := h.n
  have h3 := h.dc3
  have hnx := h.nx (v := jwNx S Z) hd0 (by omega) hd1.symm
  have e : jwTk S Z w = (Z.1, jwUw Z.2.1 w (jwNx S Z, L), Z.2.2) := by unfold jwTk; rw [if_neg (by omega), hL]
  have ed : (((jwNx S Z).toNat : Nat) : Int) = jwNx S Z := by omega
  rw [e]
  have hc : ∀ {f f1 : Nat → Int32} {v : Int}, jUpd 2 f f1 w v → ∀ j : Nat, j < 2 → j ≠ i → f1 j = f j := fun hh j hj hne => hh.at (by omega) (by omega)
  have hsw : jSo cs1 (i : Int) = (q.ck x).toInt := by rw [hi]; exact hs.1
  have hlw : jSo cl1 (i : Int) = L := by rw [hi]; exact hl.1
  refine ⟨h.1, h.2.1, ?_, h.2.2.2.1, h.2.2.2.2.1, fun j hj => ?_, ?_, h.2.2.2.2.2.2.2⟩
  · refine h.2.2.1.take (w := i) (d := (jwNx S Z).toNat) (by omega) (by omega) hd1 hv ho ?_ (hc hs)
    have : jSo cs1 (i : Int) = (cs1 i).toInt := rfl
    have h8 := hnx.1
    have h9 := hnx.2.1
    omega
  · by_cases ej : j = i
    · subst ej
      refine Or.inr ⟨(jwNx S Z).toNat, x, by omega, by omega, hd1, hv, ?_, ?_⟩
      · rw [hsw, ed]; exact hnx.2.1.symm
      · rw [hlw, ed]; exact jwUw_s hi
    · have e2 : jwUw Z.2.1 w (jwNx S Z, L) (j : Int) = Z.2.1 j := jwUw_n (by omega)
      have a1 : jSo cs1 (j : Int) = jSo cs j := by unfold jSo; rw [show ((j : Int)).toNat = j by omega, hc hs j hj ej]
      have a2 : jSo cl1 (j : Int) = jSo cl j := by unfold jSo; rw [show ((j : Int)).toNat = j by omega, hc hl j hj ej]
      rcases h.2.2.2.2.2.1 j hj with ⟨k1, k2⟩ | ⟨d1, b, k1, k2, k3, k4, k5, k6⟩
      · exact Or.inl ⟨(ho j hj ej).trans k1, e2.trans k2⟩
      · exact Or.inr ⟨d1, b, k1, k2, k3, (ho j hj ej).trans k4, a1.trans k5, (e2.trans k6).trans (by rw [a2])⟩
  · intro ee
    rcases (by omega : i = 0 ∨ i = 1) with ei | ei
    · subst ei
      rw [hv, ho 1 (by omega) (by omega)] at ee
      exact absurd (hnx.2.2.2.2.1.mpr ee.symm) g4
    · subst ei
      rw [hv, ho 0 (by omega) (by omega)] at ee
      exact absurd (hnx.2.2.2.1.mpr ee) g3
end J88
end
section
-- p8: sentences that stay as they were (the reference)
theorem jwSy.of {f g : Nat → Int32} {n m r : Int} (hn : 0 ≤ n) (hm : 0 ≤ m) (h0 : 0 ≤ r) (h1 : r ≤ jPar f n) (hs : r ≤ jPar g m) (he : ∀ j : Int, 0 ≤ j → j < r → jcU f n j.toNat = jcU g m j.toNat) (hne : r < jPar f n → jPar g m ≤ r ∨ jcU f n r.toNat ≠ jcU g m r.toNat) : r = jwSy f n g m := by
  have h := jwSy.min hn hm (Int.le_refl (jPar f n)) h0 h1 hs he hne
  have hl := jwSy.le (f := f) (g := g) hn hm
  by_cases q : jPar f n ≤ jwSy f n g m
  · rw [if_pos q] at h; omega
  · rw [if_neg q] at h; exact h
end
section
-- p8: the class: States and kept units as one entry; requests; ids
section J97
variable {dC : Nat → ClassId} {dI : Nat → Nat → Nat} {ca : Nat → ClassId} {G G1 : jT} {H : Heap} {r : Nat} {us rw : Nat → List Int}
theorem jUN.un {y k : Nat} (h : jUN dC dI ca G r us rw H) (hy : G y = some (175, k)) : ∃ f : Nat → Int32, va_at (dC, dI) vwCl (y, .inl (ca 1, k, .inl f)) H ∧ us y = jcL f k 0 := h.1 y k hy
end J97
-- requests: how many sentences are needed, the id, the document
section J98
variable {dC : Nat → ClassId} {dI : Nat → Nat → Nat} {ca : Nat → ClassId} {G G1 : jT} {H H1 : Heap} {x : Option Nat} {q : jRqG} {a : Nat} {nd : Int32} {iv ab : Value}
end J98
-- ids: Bytes of kind 17, their rows of kind 199
section J99
variable {dC : Nat → ClassId} {dI : Nat → Nat → Nat} {ca : Nat → ClassId} {G G1 : jT} {H H1 : Heap} {r xa xy xn : Nat} {ib : Nat → List Int}
end J99
-- the State that stands ahead of all
end
section
-- p8: the class: units of a sentence, compared; States behind sentences
theorem jnS.eq {f g : Nat → Int32} {n b v : Int} {k z : Nat} (h : ∀ i : Nat, (i : Int) < v → (f i).toInt = jSo g (b + i)) (hv : (z : Int) ≤ v) (hb : b = jcB g n k) (hl : jcE g n k - jcB g n k = z) : jcL f z 0 = jcU g n k := by
  unfold jcU
  rw [show (jcE g n k - jcB g n k).toNat = z by omega, ← hb]
  refine List.ext_getElem? (fun i => ?_)
  by_cases w : i < z
  · rw [jcL.at z 0 i w, jcL.at z b i w]
    congr 1
    rw [← h i (by omega)]
    unfold jSo
    rw [show ((0 : Int) + i).toNat = i by omega]
  · rw [List.getElem?_eq_none (by rw [jcL.len]; omega), List.getElem?_eq_none (by rw [jcL.len]; omega)]
end
section
-- p8: the class's documents, hands, lists, States as the machine
section J9C
variable {G : jT} {s0 : Nat} {t : jDtl} {q : jKg} {w : jWl9} {ho : Nat → Option Nat} {us rw : Nat → List Int} {qq : jRqG} {ib : Nat → List Int} {S : Int × (Int → jdD)} {Z : jwSt}
theorem jcZ.rwo {d a : Nat} (h : jcZ G s0 t q w ho us rw qq ib S Z) (hd : (d : Int) < w.1) (ha : w.2.1 d = some a) (k : Int) : jwR S d k = jcR (t.tx a) (t.ln a).toInt k.toNat := by
  unfold jwR
  rw [h.ln hd ha, jcR.cg (h.l0 a).1 (h.tx hd ha)]
theorem jcZ.cst {d a : Nat} (h : jcZ G s0 t q w ho us rw qq ib S Z) (hd : (d : Int) < w.1) (ha : w.2.1 d = some a) (k : Int) : jwC S d k = jcC (t.tx a) (t.ln a).toInt k.toNat := by
  unfold jwC
  rw [h.ln hd ha, jcC.cg (h.l0 a).1 (h.tx hd ha)]
/-- a document waits for a check that goes on: a hand holds it -/
theorem jcZ.fr {d a : Nat} (h : jcZ G s0 t q w ho us rw qq ib S Z) (hd : (d : Int) < w.1) (ha : w.2.1 d = some a) : (q.cv a = .null ↔ (ho 0 ≠ some a ∧ ho 1 ≠ some a)) := by
  refine ⟨fun e => ⟨fun e1 => ?_, fun e1 => ?_⟩, fun e => h.2.2.2.2.1 d a hd ha e.1 e.2⟩
  · rcases h.2.2.2.1 0 (by omega) with ⟨g1, -⟩ | ⟨d1, a1, y, -, -, g4, -, g7, -, -⟩
    · rw [e1] at g1; cases g1
    · rw [e1] at g4; cases g4; rw [e] at g7; cases g7
  · rcases h.2.2.2.1 1 (by omega) with ⟨g1, -⟩ | ⟨d1, a1, y, -, -, g4, -, g7, -, -⟩
    · rw [e1] at g1; cases g1
    · rw [e1] at g4; cases g4; rw [e] at g7; cases g7
theorem jcZ.as {d a : Nat} (h : jcZ G s0 t q w ho us rw qq ib S Z) (hd : (d : Int) < w.1) (ha : w.2.1 d = some a) : (jwAs Z.2.2.1 d = true ↔ ∃ x ∈ w.2.2.1, qq.ab x = .ref a) := by
  obtain ⟨g1, g2⟩ := h.2.2.2.2.2.2.1
  unfold jwAs
  rw [List.any_eq_true]
  refine ⟨fun ⟨p, hp, e⟩ => ?_, fun ⟨x, hx, e⟩ => ?_⟩
  · obtain ⟨j, hj, ej⟩ := List.mem_iff_getElem.mp hp
    have hj1 : j < w.2.2.1.length := by omega
    have ex : w.2.2.1[j]? = some w.2.2.1[j] := List.getElem?_eq_getElem hj1
    have ep : Z.2.2.1[j]? = some p := by rw [List.getElem?_eq_getElem hj, ej]
    obtain ⟨d1, a1, i, k1, k2, k3, k4, -⟩ := g2 j _ p ex ep
    have e := of_decide_eq_true e
    have e2 : d1 = d := by omega
    subst e2
    refine ⟨_, List.getElem_mem hj1, k3.trans ?_⟩
    rw [Option.some.inj (k2.symm.trans ha)]
  · obtain ⟨j, hj, ej⟩ := List.mem_iff_getElem.mp hx
    have hj1 : j < Z.2.2.1.length := by omega
    have ex : w.2.2.1[j]? = some x := by rw [List.getElem?_eq_getElem hj, ej]
    have ep : Z.2.2.1[j]? = some Z.2.2.1[j] := List.getElem?_eq_getElem hj1
    obtain ⟨d1, a1, i, k1, k2, k3, k4, -⟩ := g2 j x _ ex ep
    refine ⟨_, List.getElem_mem hj1, decide_eq_true ?_⟩
    rw [k3] at e
    cases e
    rw [k4, h.inj k1 hd (k2.trans ha.symm)]
theorem jcZ.nx {v : Int} {a : Nat} (h : jcZ G s0 t q w ho us rw qq ib S Z) (h0 : 0 ≤ v) (hv : v < w.1) (ha : w.2.1 v.toNat = some a) : jwS S v = (q.sn a).toInt ∧ Z.1 v = (q.ck a).toInt ∧ Z.1 v ≤ jwS S v ∧ ((Z.2.1 0).1 = v ↔ ho 0 = some a) ∧ ((Z.2.1 1).1 = v ↔ ho 1 = some a) ∧ (jwAs Z.2.2.1 v = true ↔ ∃ x ∈ w.2.2.1, qq.ab x = .ref a) ∧ (q.cv a = .null ↔ (ho 0 ≠ some a ∧ ho 1 ≠ some a)) ∧ 0 ≤ Z.1 v := by
  have e : ((v.toNat : Nat) : Int) = v := by omega
  have h1 := h.sn (d := v.toNat) (by omega) ha
  have h2 := h.2.2.1 v.toNat a (by omega) ha
  have h3 := h.wk (i := 0) (d := v.toNat) (by omega) (by omega) ha
  have h4 := h.wk (i := 1) (d := v.toNat) (by omega) (by omega) ha
  have h5 := h.as (d := v.toNat) (by omega) ha
  have h6 := h.fr (d := v.toNat) (by omega) ha
  have h7 := h2.2.2.2
  rw [e] at h1 h3 h4 h5 h7
  exact ⟨h1, h7.1.symm, by rw [h1]; exact h7.2.2.1, h3, h4, h5, h6, h7.2.1⟩
end J9C
section J9D
variable {G : jT} {s0 : Nat} {t : jDtl} {q : jKg} {w : jWl9} {ho : Nat → Option Nat} {us rw : Nat → List Int} {qq : jRqG} {ib : Nat → List Int} {S : Int × (Int → jdD)} {Z : jwSt} {o : Option Nat} {v v1 : Int} {a : Nat}
theorem jdRf.of {d : Int} {a : Nat} (h0 : 0 ≤ d) (h : w.2.1 d.toNat = some a) : Value.ref a = jdRf w d := by
  unfold jdRf
  rw [if_neg (by omega), h]
  rfl
theorem jzN.as (hN : jzN S Z w o v) (h : jcZ G s0 t q w ho us rw qq ib S Z) (h0 : 0 ≤ v) (hv : v < w.1) (ha : w.2.1 v.toNat = some a) (hc : q.cv a = .null) (hl : (q.ck a).toInt < (q.sn a).toInt) (hx : ∃ x ∈ w.2.2.1, qq.ab x = .ref a) : Value.ref a = jdRf w (jwNx S Z) := by
  obtain ⟨y, y0, y1, y2, y3⟩ := hN
  obtain ⟨n1, n2, n3, n4, n5, n6, n7, n8⟩ := h.nx h0 hv ha
  have c := n7.mp hc
  rw [← y3, jwN_y (by omega) (by omega) (fun e => c.1 (n4.mp e)) (fun e => c.2 (n5.mp e)) (n6.mpr hx)]
  exact jdRf.of h0 ha
end J9D
section J9E
variable {ho h h1 : Nat → Option Nat} {a : Nat} {v v1 : Int} {o : Option Nat}
end J9E
end
section
-- p8: a row that is cloned stays raw; copies
section JcK3
variable {p : Program} {l : Launch} {e : Env} {R : Room} {s : State} {m : MethodId} {args : Array Value} {below : List Frame} {meth : Method} {c : Code} {H : Heap} {locs : List Loc} {cells slots : Nat} {Q : State → Prop}
variable {cc : ByteArray} {pc : Nat} {ls : Array Slot} {rest : List Value} {dC : Nat → ClassId} {dI : Nat → Nat → Nat} {B : jF} {base : Nat} {G0 G : jT} {E : List (Nat × Nat)} {H0 : Heap} {zc zs : Nat} {L : List jPin} {M : List jCt} {I : List jIv} {a k n index : Nat} {tys : List (ClassId × FieldType)} {own : String}
end JcK3
/-- a copied part -/
theorem jnC.of {f g : Nat → Int32} {n : Nat} {a b z w : Int} (h : ∀ j : Nat, j < n → g j = if z.toNat ≤ j ∧ j < z.toNat + w.toNat then f (a.toNat + (j - z.toNat)) else (fun _ => (0 : Int32)) j) (hz : z = 0) (hw : (n : Int) ≤ w) (h0 : 0 ≤ a) (hn : (n : Int) = b - a) : jcL g n 0 = jcL f (b - a).toNat a := by
  rw [show (b - a).toNat = n by omega]
  refine List.ext_getElem? (fun i => ?_)
  by_cases c : i < n
  · rw [jcL.at n 0 i c, jcL.at n a i c]
    congr 1
    unfold jSo
    rw [show ((0 : Int) + i).toNat = i by omega, h i c, if_pos (by omega), show a.toNat + (i - z.toNat) = (a + i).toNat by omega]
  · rw [List.getElem?_eq_none (by rw [jcL.len]; omega), List.getElem?_eq_none (by rw [jcL.len]; omega)]
section JcK4
variable {p : Program} {l : Launch} {e : Env} {R : Room} {s : State} {m : MethodId} {args : Array Value} {below : List Frame} {meth : Method} {c : Code} {H : Heap} {locs : List Loc} {cells slots : Nat} {Q : State → Prop}
variable {cc : ByteArray} {pc : Nat} {ls : Array Slot} {rest : List Value} {dC : Nat → ClassId} {dI : Nat → Nat → Nat} {ca : Nat → ClassId} {B : jF} {base : Nat} {G0 G : jT} {E : List (Nat × Nat)} {H0 : Heap} {zc zs : Nat} {L : List jPin} {M : List jCt} {I : List jIv} {a a0 k k0 n n0 index : Nat} {tys : List (ClassId × FieldType)} {own C : String} {cA : ClassId}
end JcK4
end
section
-- p8: a check begins: the State ahead, the cache
section J9H
variable {G : jT} {rw us : Nat → List Int} {bh : Nat → Option Nat} {s0 x b y : Nat} {f : Nat → Int32} {n k v v1 : Int} {l : List Nat} {R : List Int} {wf av : Value} {u : List Int}
theorem jzF.nx (h : jzF l rw R wf v) (hw : wf = .null) (hx : l[v.toNat]? = some x) (hn : rw x ≠ R) (e : v1 = v + 1) : jzF l rw R .null v1 := by
  rcases h with ⟨-, h⟩ | ⟨y, h, -⟩
  · refine Or.inl ⟨rfl, fun i z hi hz => ?_⟩
    by_cases w : (i : Int) < v
    · exact h i z w hz
    · have e2 : i = v.toNat := by omega
      subst e2
      rw [hx] at hz; cases hz; exact hn
  · rw [hw] at h; cases h
end J9H
end
section
-- p8: a hand takes a document, counts down, is done: on the class's side
section J9K
variable {G G1 : jT} {s0 a b d i : Nat} {t : jDtl} {q q1 q2 q3 : jKg} {w w1 : jWl9} {ho ho1 : Nat → Option Nat} {us us1 rw rw1 : Nat → List Int} {qq : jRqG} {ib : Nat → List Int} {S : Int × (Int → jdD)} {Z Z1 : jwSt} {k : Int}
theorem jcZ.take {y m : Nat} (h : jcZ G s0 t q w ho us rw qq ib S Z) (hle : jLe G G1) (hi : i < 2) (hn : ho i = none) (hx : Value.ref a = jdRf w (jwNx S Z)) (hB : jzBe G q q1 a us us1 rw w.2.2.2 (t.tx a) (t.ln a).toInt y) (gy : G1 y = some (175, m)) (hv : ho1 i = some a) (hk : ∀ j, j < 2 → j ≠ i → ho1 j = ho j) : jcY G1 s0 t q1 w ho1 us1 rw qq ib S (jwTk S Z i) a (jwNx S Z).toNat i := by
  obtain ⟨x0, x1⟩ := jdRf.y hx
  obtain ⟨r1, r2, r3, r4, r5⟩ := (jwNx.rg (S := S) (Z := Z)).resolve_left (fun c => by omega)
  have hdw : jwNx S Z < w.1 := by rw [← h.n]; exact r2
  have ed : (((jwNx S Z).toNat : Nat) : Int) = jwNx S Z := by omega
  have hd1 : (((jwNx S Z).toNat : Nat) : Int) < w.1 := by omega
  obtain ⟨n1, n2, n3, n4, n5, n6, n7, n8⟩ := h.nx x0 hdw x1
  have f0 : ho 0 ≠ some a := fun c => r4 (n4.mpr c)
  have f1 : ho 1 ≠ some a := fun c => r5 (n5.mpr c)
  have fj : ∀ j, j < 2 → ho j ≠ some a := fun j hj => by
    rcases (by omega : j = 0 ∨ j = 1) with rfl | rfl
    · exact f0
    · exact f1
  obtain ⟨c, fv, hq1, hy1, hu1, hcs⟩ := hB
  have hZ : jwTk S Z i = (Z.1, jwUw Z.2.1 i (jwNx S Z, jwLf S Z (jwNx S Z)), Z.2.2) := if_neg (by omega)
  have hck : (q.ck a).toInt = Z.1 (jwNx S Z) := n2.symm
  have hrow : jwR S (jwNx S Z) (Z.1 (jwNx S Z) + 1) = jcR (t.tx a) (t.ln a).toInt ((q.ck a).toInt + 1).toNat := by
    have := h.rwo (d := (jwNx S Z).toNat) hd1 x1 (Z.1 (jwNx S Z) + 1)
    rw [ed] at this
    rw [this, hck]
  have hcst : jwC S (jwNx S Z) (Z.1 (jwNx S Z)) = jcC (t.tx a) (t.ln a).toInt (q.ck a).toInt.toNat := by
    have := h.cst (d := (jwNx S Z).toNat) hd1 x1 (Z.1 (jwNx S Z))
    rw [ed] at this
    rw [this, hck]
  have hL : c.toInt = jwLf S Z (jwNx S Z) := by
    unfold jwLf
    rw [hrow, h.2.2.2.2.2.2.2.1]
    rcases hcs with ⟨-, c2, c3⟩ | ⟨x, -, c2, c3, c4⟩
    · rw [if_neg c2, c3, hcst]
    · rw [if_pos (List.mem_map.mpr ⟨x, c2, c3⟩), c4]
  obtain ⟨p1, p2, p3, p4, p5, p6, p7, p8, p9⟩ := (jKg.pt (q := q) (a := a) (sn := q.sn a) (ck := q.ck a) (lf := c) (cv := .ref y) (fv := fv) (sb := q.sb a) (se := q.se a) (sc := q.sc a) (bh := q.bh a))
  rw [← hq1] at p1 p2 p3 p4 p5 p6 p7 p8 p9
  obtain ⟨u1, u2, u3, u4, u5, u6, u7, u8, u9⟩ := (jKg.pt (q := q1) (a := a) (sn := q1.sn a) (ck := q1.ck a) (lf := q1.lf a) (cv := q1.cv a) (fv := .null) (sb := q1.sb a) (se := q1.se a) (sc := q1.sc a) (bh := q1.bh a))
  have hag : ∀ b, b ≠ a → jzAg q (q1.fn a) b := fun b hb => (show jzAg q q1 b by rw [hq1]; exact jzAg.put hb).tr (jzAg.put hb)
  have hDa := h.2.2.1 (jwNx S Z).toNat a hd1 x1
  rw [ed] at hDa
  refine ⟨?_, hv, hd1, x1, ?_⟩
  · refine ⟨h.1, h.2.1, fun d b hd hb => ?_, fun j hj => ?_, fun d b hd hb e0 e1 => ?_, fun e => ?_, ?_, ?_, h.2.2.2.2.2.2.2.2.1, hle _ _ h.2.2.2.2.2.2.2.2.2.1, h.2.2.2.2.2.2.2.2.2.2.1, fun x hx => ⟨hle _ _ (h.2.2.2.2.2.2.2.2.2.2.2.1 x hx).1, (h.2.2.2.2.2.2.2.2.2.2.2.1 x hx).2⟩, h.2.2.2.2.2.2.2.2.2.2.2.2⟩
    · rw [hZ]
      by_cases e : b = a
      · subst e
        have ee : d = (jwNx S Z).toNat := h.inj hd hd1 (hb.trans x1.symm)
        subst ee
        show jzD G1 t (q1.fn b) rw b (Z.1 _)
        rw [ed]
        obtain ⟨k1, k2, k3, k4, k5, k6, k7, k8, k9⟩ := hDa
        unfold jzD
        rw [show (q1.fn b).sn b = q.sn b from u1.trans p1, show (q1.fn b).ck b = q.ck b from u2.trans p2, show (q1.fn b).sb b = q.sb b from u6.trans p6, show (q1.fn b).se b = q.se b from u7.trans p7, show (q1.fn b).sc b = q.sc b from u8.trans p8, show (q1.fn b).bh b = q.bh b from u9.trans p9, show (q1.fn b).fv b = .null from u5]
        refine ⟨k1, k2, k3, k4, k5, k6, k7, fun i hi => ?_, rfl⟩
        obtain ⟨x, e1, e2, e3⟩ := k8 i hi
        exact ⟨x, e1, hle _ _ e2, e3⟩
      · exact (h.2.2.1 d b hd hb).tr (hag b e) (fun _ _ => rfl) hle
    · by_cases e : j = i
      · subst e
        refine Or.inr ⟨(jwNx S Z).toNat, a, y, hd1, x1, hv, ?_, ?_, ⟨m, gy⟩, ?_⟩
        · rw [hZ, show (q1.fn a).lf a = c from u3.trans p3]
          show jwUw Z.2.1 (j : Int) _ (j : Int) = _
          unfold jwUw
          rw [if_pos rfl, ed, hL]
        · exact u4.trans p4
        · rw [hy1, hZ]
          show _ = jcU _ _ (Z.1 _).toNat
          rw [ed, hck]
      · refine (h.2.2.2.1 j hj).tr (fun b hb => hag b (fun c => fj j hj (by rw [← c]; exact hb))) hu1 (hk j hj e) ?_ (fun d b _ _ _ => by rw [hZ]) rfl rfl hle
        rw [hZ]
        show jwUw Z.2.1 (i : Int) _ (j : Int) = _
        unfold jwUw
        rw [if_neg (by omega)]
    · have hb1 : b ≠ a := fun c => by
        rcases (by omega : i = 0 ∨ i = 1) with r | r
        · exact e0 (by rw [c, ← r]; exact hv)
        · exact e1 (by rw [c, ← r]; exact hv)
      rw [(hag b hb1).2.2.2.1]
      refine h.2.2.2.2.1 d b hd hb (fun c => ?_) (fun c => ?_)
      · by_cases z : 0 = i
        · rw [← z] at hn; rw [hn] at c; cases c
        · exact e0 ((hk 0 (by omega) z).trans c)
      · by_cases z : 1 = i
        · rw [← z] at hn; rw [hn] at c; cases c
        · exact e1 ((hk 1 (by omega) z).trans c)
    · exfalso
      rcases (by omega : i = 0 ∨ i = 1) with r | r
      · subst r
        rw [hv, hk 1 (by omega) (by omega)] at e
        exact f1 e.symm
      · subst r
        rw [hv, hk 0 (by omega) (by omega)] at e
        exact f0 e
    · rw [hZ]; exact h.2.2.2.2.2.2.1
    · rw [hZ]; exact h.2.2.2.2.2.2.2.1
  · rw [p5]
    rcases hcs with ⟨c1, -⟩ | ⟨x, c1, c2, c3, c4⟩
    · exact Or.inl c1
    · refine Or.inr ⟨x, c1, hle _ _ (h.2.2.2.2.2.2.2.2.2.2.2.1 x c2).1, ?_, ?_⟩
      · rw [c3, hZ]
        show _ = jcR _ _ (Z.1 _ + 1).toNat
        rw [ed, hck]
      · rw [p3]; exact c4
end J9K
end
section
-- p8: what is kept of a text that has changed
section J9R
variable {G : jT} {rw us : Nat → List Int} {x : Nat} {f g : Nat → Int32} {n m k v v1 pk ps : Int} {av : Value} {u : List Int}
theorem jzF.u2 (h : jnQ G rw x av u) (hU : ∀ c ∈ jcU f n k.toNat, c ≠ (-1 : Int)) (e : rw x = jcR f n (k + 1).toNat) (h0 : 0 ≤ k) : u = jcU f n k.toNat := by
  rcases h.2.2 with ⟨-, -, e0⟩ | ⟨c, e1, -, -, e2, e3⟩
  · rw [e0, jcR.pos h0] at e
    have := congrArg List.length e
    simp at this
  · rw [e2, jcR.pos h0] at e
    exact (jnE.cut e3 (jcR.en _) h.1 hU e).2
theorem jzKq.un {q : jKg} {a : Nat} (h : jzKq G q us rw a f n pk) (h0 : 0 ≤ v) (h1 : v < pk) (e : some x = q.bh a v.toNat) (hQ : jnE (rw x) → jnQ G rw x av u) : u = jcU f n v.toNat := by
  obtain ⟨y, e1, e2, e3⟩ := h.at h0 h1 e
  cases e1
  exact jzF.u2 (hQ (by rw [e2]; exact jcR.en _)) e3 e2 h0
end J9R
/-- only checked is another -/
def jzCk (q g : jKg) (a : Nat) (k : Int) : Prop := ∃ c : Int32, g = q.put a (q.sn a) c (q.lf a) (q.cv a) (q.fv a) (q.sb a) (q.se a) (q.sc a) (q.bh a) ∧ c.toInt = k
theorem jzCk.of {q g : jKg} {a : Nat} {k : Int} {c : Int32} {cv : Value} (h : g = q.put a (q.sn a) c (q.lf a) cv (q.fv a) (q.sb a) (q.se a) (q.sc a) (q.bh a)) (hcv : q.cv a = cv) (hc : c.toInt = k) : jzCk q g a k := ⟨c, by rw [hcv]; exact h, hc⟩
end
section
-- p8: units of the open texts are not below 0
def jdSu (S : Int × (Int → jdD)) : Prop := ∀ d : Int, 0 ≤ d → d < S.1 → ∀ j : Int, 0 ≤ (S.2 d).2.2.1 j
def jdTu (T : Nat → Int → Int) (v : Int) : Prop := ∀ i j : Int, 0 ≤ jqA T v i j
section J9T
variable {T : Nat → Int → Int} {v n c : Int} {g : Int → Int} {S : Int × (Int → jdD)} {t : jDtl} {w : jWl9}
theorem jdKp.nn (h : ∀ j, 0 ≤ g j) : ∀ j, 0 ≤ jdKp n g j := fun j => by
  unfold jdKp
  split
  · exact h j
  · exact Int.le_refl 0
theorem jdO.un (hT : jdTu T v) (h : ∀ j, 0 ≤ g j) : ∀ j, 0 ≤ (jdO T v g n c).2.2 j := fun j => by
  unfold jdO
  split
  · show 0 ≤ jdR _ _ _ _ _ j
    unfold jdR
    split
    · exact h _
    · split
      · exact hT _ _
      · exact h _
  · exact h j
theorem jdCh.un (hT : jdTu T v) : ∀ (k : Nat) (c n : Int) (g : Int → Int), (∀ j, 0 ≤ g j) → ∀ j, 0 ≤ (jdCh T v k c n g).2.2 j
  | 0, c, n, g, h, j => h j
  | k + 1, c, n, g, h, j => by
    unfold jdCh
    split
    · exact jdCh.un hT k _ _ _ (jdO.un hT h) j
    · exact h j
theorem jdSu.cg (h : jdSu S) (hT : jdTu T v) : jdSu (jdChange T v S) := by
  unfold jdChange
  split
  · rename_i q
    intro d h0 h1 j
    show 0 ≤ (jdUp S.2 (jdWh T v S.1 S.2) (jdCd T v (S.2 (jdWh T v S.1 S.2))) d).2.2.1 j
    unfold jdUp
    split
    · rename_i e
      exact jdKp.nn (jdCh.un hT _ _ _ _ (h _ (by rw [← e]; exact h0) (by rw [← e]; exact h1))) j
    · exact h d h0 h1 j
  · exact h
end J9T
end
section
-- p8: a change, or none: the class's side of the machine
section J9X
variable {G G1 : jT} {s0 a d sp : Nat} {t t1 t2 : jDtl} {q g1 g2 q1 : jKg} {w w1 : jWl9} {ho ho1 : Nat → Option Nat} {us rw : Nat → List Int} {qq : jRqG} {ib : Nat → List Int} {S S8 : Int × (Int → jdD)} {Z Z8 : jwSt} {T : Nat → Int → Int} {v k Y : Int} {sn : Int32} {sb se sc : Nat → Int32} {v0 l0 ve ln : Int32} {f0 g0 tx : Nat → Int32} {u0 : Nat}
/-- the smaller one, out of omega's sight -/
def jzIf (a b c : Int) : Prop := a = if b ≤ c then b else c
theorem jzIf.of {a b c : Int} (h : a = if b ≤ c then b else c) : jzIf a b c := h
end J9X
end
section
-- p8: the units of strings that are read have no half pairs
theorem jsL.cg {T T1 : Nat → Int → Int} : ∀ (z : Nat) (b : Int), (∀ j : Int, b ≤ j → j < b + z → T1 7 j = T 7 j) → jsL T1 z b = jsL T z b
  | 0, _, _ => rfl
  | z + 1, b, h => by
    show T1 7 b :: jsL T1 z (b + 1) = T 7 b :: jsL T z (b + 1)
    rw [h b (Int.le_refl b) (by omega), jsL.cg z (b + 1) (fun j h0 h1 => h j (by omega) (by omega))]
/-- all strings so far -/
def jsW (T : Nat → Int → Int) (v u : Int) : Prop := ∀ i : Int, 0 ≤ i → i < v → T 1 i = 3 → 0 ≤ T 2 i ∧ 0 ≤ T 3 i ∧ T 2 i + T 3 i ≤ u ∧ jpW (jsL T (T 3 i).toNat (T 2 i))
theorem jsW.fr {T T1 : Nat → Int → Int} {v u u1 : Int} (h : jsW T v u) (hu : u ≤ u1) (h1 : ∀ i : Int, 0 ≤ i → i < v → T1 1 i = T 1 i) (h2 : ∀ i : Int, 0 ≤ i → i < v → T 1 i = 3 → T1 2 i = T 2 i ∧ T1 3 i = T 3 i) (h7 : ∀ j : Int, j < u → T1 7 j = T 7 j) : jsW T1 v u1 := fun i i0 i1 k => by
  rw [h1 i i0 i1] at k
  obtain ⟨a1, a2, a3, a4⟩ := h i i0 i1 k
  obtain ⟨b1, b2⟩ := h2 i i0 i1 k
  rw [b1, b2, jsL.cg _ _ (fun j j0 j1 => h7 j (by omega))]
  exact ⟨a1, a2, by omega, a4⟩
theorem jsW.of {T T1 : Nat → Int → Int} {v u u1 : Int} (h : jsW T v u) (hu : u ≤ u1) (hf : jjFr T T1 v u) : jsW T1 v u1 := h.fr hu (fun i _ i1 => hf 1 i (fun _ => i1) (fun q => absurd q (by decide))) (fun i _ i1 _ => ⟨hf 2 i (fun _ => i1) (fun q => absurd q (by decide)), hf 3 i (fun _ => i1) (fun q => absurd q (by decide))⟩) (fun j j1 => hf 7 j (fun q => absurd rfl q) (fun _ => j1))
end
section
-- p8: bytes of ids, put behind each other
theorem jbL.cg {f g : Nat → Int32} : ∀ (k b : Nat), (∀ j : Nat, b ≤ j → j < b + k → (g j).toInt % 256 = (f j).toInt % 256) → jbL g k b = jbL f k b
  | 0, _, _ => rfl
  | k + 1, b, h => by
    show ((g b).toInt % 256) :: jbL g k (b + 1) = ((f b).toInt % 256) :: jbL f k (b + 1)
    rw [h b (Nat.le_refl b) (by omega), jbL.cg k (b + 1) (fun j h0 h1 => h j (by omega) (by omega))]
theorem jbL.add {f : Nat → Int32} : ∀ (k b : Nat), jbL f (k + 1) b = jbL f k b ++ [(f (b + k)).toInt % 256]
  | 0, b => rfl
  | k + 1, b => by
    show ((f b).toInt % 256) :: jbL f (k + 1) (b + 1) = ((f b).toInt % 256) :: jbL f k (b + 1) ++ [(f (b + (k + 1))).toInt % 256]
    rw [jbL.add k (b + 1), show b + 1 + k = b + (k + 1) by omega]
    rfl
/-- one byte is put behind the others: g holds them, the row may be a newer one -/
theorem jiP.put {f f1 g : Nat → Int32} {n m c : Int} {z : Nat} {l : List Int} (hl : l = jbL f n.toNat 0) (h : ∀ j : Nat, j < z → f1 j = f j) (hz : n ≤ z) (h0 : 0 ≤ n) (hv : jSo g n % 256 = c % 256) (ho : ∀ j : Nat, (j : Int) < n → j ≠ n.toNat → g j = f1 j) (em : m = n + 1) : l ++ [c % 256] = jbL g m.toNat 0 := by
  rw [show m.toNat = n.toNat + 1 by omega, jbL.add, hl, jbL.cg (f := f) (g := g) n.toNat 0 (fun j _ h1 => by rw [ho j (by omega) (by omega), h j (by omega)])]
  unfold jSo at hv
  rw [show 0 + n.toNat = n.toNat by omega, hv]
/-- behind those of a stands now L too -/
def jiP (ib ix : Nat → List Int) (a : Nat) (L : List Int) : Prop := ix = jUf ib a (ib a ++ L)
section J9BV
variable {p : Program} {l : Launch} {e : Env} {R : Room} {s : State} {m : MethodId} {args : Array Value} {below : List Frame} {meth : Method} {c : Code} {H : Heap} {locs : List Loc} {cells slots : Nat} {Q : State → Prop}
variable {cc : ByteArray} {pc : Nat} {ls : Array Slot} {rest : List Value} {dC : Nat → ClassId} {dI : Nat → Nat → Nat} {ca : Nat → ClassId} {B : jF} {base : Nat} {G0 G : jT} {E : List (Nat × Nat)} {H0 : Heap} {zc zs : Nat} {L : List jPin} {M : List jCt} {I : List jIv} {a k n : Nat} {cA : ClassId} {tys : List (ClassId × FieldType)}
end J9BV
end
section
-- p8: a request is aimed at a document
section J9AM
variable {G : jT} {s0 a : Nat} {t : jDtl} {q : jKg} {w : jWl9} {ho : Nat → Option Nat} {us rw : Nat → List Int} {qq q1 : jRqG} {ib : Nat → List Int} {S : Int × (Int → jdD)} {Z : jwSt} {T : Nat → Int → Int} {v x : Int} {r1 : Nat}
theorem jwPo.of {z p c : Int} (hz : z = 0) (h1 : p = jqM T v (jChT "params") 6 z) (h2 : c = jqM T v (jChT "position") 8 p) : c = jwPo T v := by
  rw [h2, h1, hz]
  rfl
theorem jwNa.of {z p c : Int} (hz : z = 0) (h1 : p = jqM T v (jChT "params") 6 z) (h2 : c = jqM T v (jChT "name") 4 p) : c = jwNa T v := by
  rw [h2, h1, hz]
  rfl
end J9AM
end
section
-- p8: a request is cancelled, on the class's side
section J9CA
variable {T : Nat → Int → Int} {v u m : Int} {fk fi fz fn fa fs fu : Nat → Int32}
end J9CA
section J9CB
variable {G G1 : jT} {s0 x N n z : Nat} {t : jDtl} {q : jKg} {w w1 : jWl9} {ho : Nat → Option Nat} {us rw : Nat → List Int} {qq gQ : jRqG} {ib iB : Nat → List Int} {S : Int × (Int → jdD)} {Z Z8 : jwSt} {iV : Value} {T : Nat → Int → Int} {v u m : Int} {fk fi fz fn fa fs fu : Nat → Int32}
end J9CB
theorem jwPi.of {T : Nat → Int → Int} {v z p r : Int} (hz : z = 0) (hp : p = jqM T v (jChT "params") 6 z) (hr : r = jqM T v (jChT "id") 2 p) : r = jwPi T v := by
  subst hz hp
  exact hr
end
section
-- p8: a message is understood: the request that is made of it
/-- what a message leaves of the requests and their ids: a new one -/
def jzUs (G : jT) (qq gQ : jRqG) (ib iB : Nat → List Int) : Prop := ∃ (x N : Nat) (iV : Value) (P : Prop) (l : List Int), gQ = qq.put x 0 iV .null ∧ (∀ a t, G a = some t → a ≠ x) ∧ (∀ a t, G a = some t → a < N) ∧ jzRi ib iB N iV P l
section J9US
variable {G G1 : jT} {s0 x N y : Nat} {t : jDtl} {q : jKg} {w : jWl9} {ho : Nat → Option Nat} {us rw : Nat → List Int} {qq gQ : jRqG} {ib iB : Nat → List Int} {S : Int × (Int → jdD)} {Z : jwSt} {iV : Value} {T : Nat → Int → Int} {v u m : Int} {fk fi fz fn fa fs fu : Nat → Int32} {P : Prop} {l : List Int}
theorem jzUs.of (hg : gQ = qq.put x 0 iV .null) (hx : ∀ a t, G a = some t → a ≠ x) (hN : ∀ a t, G a = some t → a < N) (hR : jzRi ib iB N iV P l) : jzUs G qq gQ ib iB := ⟨x, N, iV, P, l, hg, hx, hN, hR⟩
end J9US
end
