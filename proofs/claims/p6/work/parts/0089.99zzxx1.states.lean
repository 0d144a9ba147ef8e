section
-- p8: the class: units of sentences that are kept (kind 175), and the States: the row of sentences that each one stands behind
section J95
variable {dC : Nat → ClassId} {dI : Nat → Nat → Nat} {ca : Nat → ClassId} {G G1 : jT} {H : Heap} {us rw : Nat → List Int} {a : Nat}
theorem jnR.up {av : Value} {l : List Int} (h : jnR G rw a av l) (hle : jLe G G1) : jnR G1 rw a av l := fun he => by
  obtain ⟨h1, h2, h3⟩ := h he
  refine ⟨h1, h2, ?_⟩
  rcases h3 with h | ⟨b, e, g, h⟩
  · exact Or.inl h
  · exact Or.inr ⟨b, e, hle _ _ g, h⟩
end J95
section J96
variable {G : jT} {rw : Nat → List Int} {a b : Nat} {av bv : Value} {l m : List Int}
end J96
end
section
-- p8: the class: States and kept units as one entry; requests; ids
section J97
variable {dC : Nat → ClassId} {dI : Nat → Nat → Nat} {ca : Nat → ClassId} {G G1 : jT} {H : Heap} {r : Nat} {us rw : Nat → List Int}
end J97
-- requests: how many sentences are needed, the id, the document
section J98
variable {dC : Nat → ClassId} {dI : Nat → Nat → Nat} {ca : Nat → ClassId} {G G1 : jT} {H H1 : Heap} {x : Option Nat} {q : jRqG} {a : Nat} {nd : Int32} {iv ab : Value}
theorem jQD.opn {n : Nat} (h : jQD dC dI ca G none q H) (ha : G a = some (10, n)) : (jP (dC, dI) G H [(a, 10, 2, .int (q.nd a)), (a, 10, 0, (q.iv a)), (a, 10, 1, (q.ab a))] ∧ jMc (dC, dI) G H []) ∧ jQD dC dI ca G (some a) q H := ⟨h.at ha (fun z => by cases z), fun b m hb _ => h b m hb (fun z => by cases z)⟩
theorem jQD.full {n : Nat} (h : jQD dC dI ca G (some a) q H) (_ha : G a = some (10, n)) (p2 : jf (dC, dI) 10 a 2 (.int nd) H) (p0 : jf (dC, dI) 10 a 0 iv H) (p1 : jf (dC, dI) 10 a 1 ab H) (_hM : jMc (dC, dI) G H []) : jQD dC dI ca G none (q.put a nd iv ab) H := fun b m hb _ => by
  by_cases e : b = a
  · subst e
    show jf (dC, dI) 10 b 2 (.int (jUf q.nd b nd b)) H ∧ jf (dC, dI) 10 b 0 (jUf q.iv b iv b) H ∧ jf (dC, dI) 10 b 1 (jUf q.ab b ab b) H
    rw [jUf_s, jUf_s, jUf_s]
    exact ⟨p2, p0, p1⟩
  · show jf (dC, dI) 10 b 2 (.int (jUf q.nd a nd b)) H ∧ jf (dC, dI) 10 b 0 (jUf q.iv a iv b) H ∧ jf (dC, dI) 10 b 1 (jUf q.ab a ab b) H
    rw [jUf_n _ _ e, jUf_n _ _ e, jUf_n _ _ e]
    exact h b m hb (fun z => e (Option.some.inj z).symm)
theorem jQD.fld {n : Nat} (h : jQD dC dI ca G (some a) q H) (_ha : G a = some (10, n)) (hfr : ∀ p, p ≠ a → H1[p]? = H[p]?) : jQD dC dI ca G (some a) q H1 := fun b m hb hx => by
  obtain ⟨p2, p0, p1⟩ := h b m hb hx
  have e : b ≠ a := fun e => hx (by rw [e])
  exact ⟨p2.kept (hfr b e), p0.kept (hfr b e), p1.kept (hfr b e)⟩
end J98
-- ids: Bytes of kind 17, their rows of kind 199
section J99
variable {dC : Nat → ClassId} {dI : Nat → Nat → Nat} {ca : Nat → ClassId} {G G1 : jT} {H H1 : Heap} {r xa xy xn : Nat} {ib : Nat → List Int}
theorem jI1.up {a y : Nat} {l : List Int} (h : jI1 dC dI ca G a y l H) (hle : jLe G G1) : jI1 dC dI ca G1 a y l H := by
  obtain ⟨m, c, f, p0, p1, g, q⟩ := h
  exact ⟨m, c, f, p0, p1, hle _ _ g, q⟩
/-- one id is opened -/
theorem jIB.opn {a : Nat} (h : jIB dC dI ca G r ib H) (hab : ∀ z t, G z = some t → z < xn) (ha : G a = some (17, 0)) : ∃ (y m : Nat) (c : Int32) (f : Nat → Int32), jf (dC, dI) 17 a 0 (.ref y) H ∧ jf (dC, dI) 17 a 1 (.int c) H ∧ G y = some (199, m) ∧ 0 ≤ c.toInt ∧ c.toInt ≤ m ∧ va_at (dC, dI) vwCl (y, .inl (ca 0, m, .inl f)) H ∧ ib a = jbL f c.toInt.toNat 0 ∧ jIX2 dC dI ca G r a y xn ib H := by
  obtain ⟨Y, h1, h2⟩ := h
  obtain ⟨m, c, f, p0, p1, g, c0, c1, v, e⟩ := h1 a ha
  refine ⟨Y a, m, c, f, p0, p1, g, c0, c1, v, e, Y, fun b hb hne => ⟨h1 b hb, fun q => hne (h2 b a hb ha q), ?_⟩, fun b d hb hd _ _ => h2 b d hb hd⟩
  obtain ⟨m1, c1, f1, q0, q1, g1, -⟩ := h1 b hb
  exact hab _ _ g1
/-- it is whole again -/
theorem jIX2.full {m : Nat} {c : Int32} {f : Nat → Int32} (h : jIX2 dC dI ca G r xa xy xn ib H) (p0 : jf (dC, dI) 17 xa 0 (.ref xy) H) (p1 : jf (dC, dI) 17 xa 1 (.int c) H) (g : G xy = some (199, m)) (c0 : 0 ≤ c.toInt) (c1 : c.toInt ≤ m) (v : va_at (dC, dI) vwCl (xy, .inl (ca 0, m, .inl f)) H) {l : List Int} (e : l = jbL f c.toInt.toNat 0) : jIB dC dI ca G r (jUf ib xa l) H := by
  obtain ⟨Y, h1, h2⟩ := h
  refine ⟨jUf Y xa xy, fun a ha => ?_, fun a b ha hb q => ?_⟩
  · by_cases x : a = xa
    · subst x
      rw [jUf_s, jUf_s]
      exact ⟨m, c, f, p0, p1, g, c0, c1, v, e⟩
    · rw [jUf_n _ _ x, jUf_n _ _ x]
      exact (h1 a ha x).1
  · by_cases x : a = xa
    · by_cases z : b = xa
      · rw [x, z]
      · rw [x, jUf_s, jUf_n _ _ z] at q
        exact absurd q.symm (h1 b hb z).2.1
    · by_cases z : b = xa
      · rw [z, jUf_s, jUf_n _ _ x] at q
        exact absurd q (h1 a ha x).2.1
      · rw [jUf_n _ _ x, jUf_n _ _ z] at q
        exact h2 a b ha hb x z q
end J99
-- the State that stands ahead of all
end
section
-- p8: two States are compared: unit by unit, State by State
section J9A
variable {G : jT} {rw : Nat → List Int} {a b x y x1 y1 : Nat} {o p : Option Nat} {i i1 : Int} {av bv : Value} {l m : List Int}
theorem jnI.no (h : jnI rw a b (some x) (some y) i) (h1 : jnQ G rw x av l) (h2 : jnQ G rw y bv m) (e : l ≠ m) : rw a ≠ rw b := fun q => jnQ.ne h1 h2 e (h.2.2.1.mp q)
end J9A
end
section
-- p8: a check begins: the State ahead, the cache
section J9H
variable {G : jT} {rw us : Nat → List Int} {bh : Nat → Option Nat} {s0 x b y : Nat} {f : Nat → Int32} {n k v v1 : Int} {l : List Nat} {R : List Int} {wf av : Value} {u : List Int}
theorem jzF.c (h : jnQ G rw x av u) (ha : av = .ref b) (hU : ∀ c ∈ jcU f n k.toNat, c ≠ (-1 : Int)) (_hb : rw y = jcR f n k.toNat) (e : rw x = jcR f n (k + 1).toNat) (h0 : 0 ≤ k) : rw b = jcR f n k.toNat ∧ u = jcU f n k.toNat := by
  rcases h.2.2 with ⟨e0, -⟩ | ⟨c, e1, -, -, e2, e3⟩
  · rw [ha] at e0; cases e0
  · rw [ha] at e1; cases e1
    rw [e2, jcR.pos h0] at e
    exact jnE.cut e3 (jcR.en _) h.1 hU e
theorem jzF.no (h : jzF l rw R wf v) (hw : wf = .null) (hv : (l.length : Int) ≤ v) : R ∉ l.map rw := fun q => by
  rcases h with ⟨-, h⟩ | ⟨y, h, -⟩
  · obtain ⟨x, hx, e⟩ := List.mem_map.mp q
    obtain ⟨i, hi, ei⟩ := List.mem_iff_getElem.mp hx
    exact h i x (by omega) (by rw [List.getElem?_eq_getElem hi, ei]) e
  · rw [hw] at h; cases h
end J9H
end
section
-- p8: the class's scheduler as one entry: S, Z
theorem jcZ.up {G G1 : jT} {s0 : Nat} {t : jDtl} {q : jKg} {w : jWl9} {ho : Nat → Option Nat} {us rw : Nat → List Int} {qq : jRqG} {ib : Nat → List Int} {S : Int × (Int → jdD)} {Z : jwSt} (h : jcZ G s0 t q w ho us rw qq ib S Z) (hle : jLe G G1) : jcZ G1 s0 t q w ho us rw qq ib S Z := by
  obtain ⟨h1, h2, h3, h4, h5, h6, h7, h8, h9, h10, h11, h12⟩ := h
  refine ⟨h1, h2, fun d a hd ha => ?_, fun i hi => ?_, h5, h6, h7, h8, h9, hle _ _ h10, h11, ?_⟩
  · obtain ⟨k1, k2, k3, k4, k5, k6, k7, k8, k9⟩ := h3 d a hd ha
    refine ⟨k1, k2, k3, k4, k5, k6, k7, fun i hi => ?_, k9⟩
    obtain ⟨x, e1, e2, e3⟩ := k8 i hi
    exact ⟨x, e1, hle _ _ e2, e3⟩
  · rcases h4 i hi with e | ⟨d, a, y, g1, g2, g3, g4, g5, ⟨m, g6⟩, g7⟩
    · exact Or.inl e
    · exact Or.inr ⟨d, a, y, g1, g2, g3, g4, g5, ⟨m, hle _ _ g6⟩, g7⟩
  · exact ⟨fun x hx => ⟨hle _ _ (h12.1 x hx).1, (h12.1 x hx).2⟩, h12.2⟩
section J9I
variable {dC : Nat → ClassId} {dI : Nat → Nat → Nat} {ca : Nat → ClassId} {G G1 : jT} {H : Heap} {r : Nat} {S : Int × (Int → jdD)} {Z : jwSt}
end J9I
end
section
-- p8: those that wait: who is ready, who asked about a document
theorem jzRd.r {q : jKg} {qq : jRqG} {x b : Nat} (h : qq.ab x = .ref b) : jzRd q qq x = decide ((qq.nd x).toInt ≤ (q.ck b).toInt) := by unfold jzRd; rw [h]
end
section
-- p8: a hand takes a document, counts down, is done: on the class's side
section J9K
variable {G G1 : jT} {s0 a b d i : Nat} {t : jDtl} {q q1 q2 q3 : jKg} {w w1 : jWl9} {ho ho1 : Nat → Option Nat} {us us1 rw rw1 : Nat → List Int} {qq : jRqG} {ib : Nat → List Int} {S : Int × (Int → jdD)} {Z Z1 : jwSt} {k : Int}
theorem jUf_id {α : Type} (v : Nat → α) (a : Nat) : jUf v a (v a) = v := funext (fun b => by
  by_cases e : b = a
  · rw [e, jUf_s]
  · rw [jUf_n _ _ e])
theorem jKg.fn_id (h : q.fv a = .null) : q.fn a = q := by
  unfold jKg.fn jKg.put
  rw [← h, jUf_id, jUf_id, jUf_id, jUf_id, jUf_id, jUf_id, jUf_id, jUf_id, jUf_id]
  rfl
theorem jcZ.hd (h : jcZ G s0 t q w ho us rw qq ib S Z) (hi : i < 2) (e : ho i = some a) : ∃ d, jcY G s0 t q w ho us rw qq ib S Z a d i := by
  obtain ⟨d, y, g1, g2, -⟩ := h.hs hi e
  have hf := (h.2.2.1 d a g1 g2).2.2.2.2.2.2.2.2
  exact ⟨d, by rw [jKg.fn_id hf]; exact h, e, g1, g2, Or.inl hf⟩
end J9K
end
section
-- p8: what is kept of a text that has changed
section J9R
variable {G : jT} {rw us : Nat → List Int} {x : Nat} {f g : Nat → Int32} {n m k v v1 pk ps : Int} {av : Value} {u : List Int}
theorem jzSm.no (h : jzSm f n g m pk) (hn : 0 ≤ n) (hm : 0 ≤ m) (hc : pk < jPar f n) (h0 : 0 ≤ pk) (hs : pk ≤ jPar g m) (hne : jPar g m ≤ pk ∨ jcU f n pk.toNat ≠ jcU g m pk.toNat) : jwSy f n g m ≤ pk := by
  have := jwSy.min (c := pk + 1) hn hm (by omega) h0 (by omega) hs h (fun _ => hne)
  by_cases c : pk + 1 ≤ jwSy f n g m
  · rw [if_pos c] at this; omega
  · rw [if_neg c] at this; omega
end J9R
end
section
-- p8: a document is changed: on the class's side
section J9S
variable {G : jT} {s0 a d : Nat} {t t1 : jDtl} {q q1 : jKg} {w w1 : jWl9} {ho ho1 : Nat → Option Nat} {us rw : Nat → List Int} {qq : jRqG} {ib : Nat → List Int} {S S1 : Int × (Int → jdD)} {Z : jwSt} {k : Int}
theorem jzD.tt (h : jzD G t q rw a k) (h1 : t1.tx a = t.tx a) (h2 : t1.ln a = t.ln a) : jzD G t1 q rw a k := by
  unfold jzD at h ⊢
  rw [h1, h2]
  exact h
theorem jzK.tt {i : Nat} (h : jzK G t q us w ho Z i) (h1 : ∀ b, ho i = some b → t1.tx b = t.tx b ∧ t1.ln b = t.ln b) : jzK G t1 q us w ho Z i := by
  rcases h with e | ⟨e, b, y, g1, g2, g3, g4, g5, g6, g7⟩
  · exact Or.inl e
  · exact Or.inr ⟨e, b, y, g1, g2, g3, g4, g5, g6, by rw [(h1 b g3).1, (h1 b g3).2]; exact g7⟩
end J9S
end
section
-- p8: a document is opened: on the class's side
section J9U
variable {G G1 : jT} {s0 a : Nat} {t t1 : jDtl} {q q1 : jKg} {w w1 : jWl9} {ho : Nat → Option Nat} {us rw : Nat → List Int} {qq : jRqG} {ib : Nat → List Int} {S S1 : Int × (Int → jdD)} {Z : jwSt}
theorem jcZ.opn (h : jcZ G s0 t q w ho us rw qq ib S Z) (hle : jLe G G1) (hna : ∀ i : Nat, (i : Int) < w.1 → w.2.1 i ≠ some a) (ht : ∀ b, b ≠ a → t1.tx b = t.tx b ∧ t1.ln b = t.ln b) (hu : ∀ j : Int, 0 ≤ j → j < (t1.ln a).toInt → 0 ≤ jSo (t1.tx a) j) (hq : ∀ b, b ≠ a → jzAg q q1 b) (hsn : (q1.sn a).toInt = jPar (t1.tx a) (t1.ln a).toInt) (hP : jcP (t1.tx a) (t1.ln a).toInt (q1.sb a) (q1.se a) (q1.sn a).toInt) (hPc : jcPc (t1.tx a) (t1.ln a).toInt (q1.sc a) (q1.sn a).toInt) (h40 : (q1.sn a).toInt ≤ 40) (h00 : 0 ≤ (q1.sn a).toInt) (hck : (q1.ck a).toInt = 0) (hcv : q1.cv a = .null) (hfv : q1.fv a = .null)
    (h1 : w1.1 = w.1 + 1) (h2 : ∀ i : Nat, (i : Int) < w.1 → w1.2.1 i = w.2.1 i) (h2a : w1.2.1 w.1.toNat = some a) (h3 : w1.2.2.1 = w.2.2.1) (h4 : w1.2.2.2 = w.2.2.2) (hw : w1.1 ≤ 3) (hI : jdIv t1 w1) (hS : jdCs t1 w1 = S1) : jcZ G1 s0 t1 q1 w1 ho us rw qq ib S1 (jwUp Z.1 S.1 0, Z.2) := by
  have h0 : 0 ≤ w.1 := h.1.2.2.2
  have eS := h.n
  have hsp : ∀ {e b : Nat}, (e : Int) < w1.1 → w1.2.1 e = some b → ((e : Int) < w.1 ∧ w.2.1 e = some b ∧ b ≠ a) ∨ ((e : Int) = w.1 ∧ b = a) := fun {e b} he hb => by
    by_cases c : (e : Int) < w.1
    · rw [h2 e c] at hb
      exact Or.inl ⟨c, hb, fun q9 => hna e c (by rw [hb, q9])⟩
    · have : e = w.1.toNat := by omega
      rw [this, h2a] at hb
      exact Or.inr ⟨by omega, (Option.some.inj hb).symm⟩
  have hZe : ∀ e : Int, e < w.1 → jwUp Z.1 S.1 0 e = Z.1 e := fun e he => by
    unfold jwUp
    rw [if_neg (by omega)]
  refine ⟨hI, hS, fun e b he hb => ?_, fun j hj => ?_, fun e b he hb e0 e1 => ?_, h.2.2.2.2.2.1, ?_, ?_, hw, hle _ _ h.2.2.2.2.2.2.2.2.2.1, h.2.2.2.2.2.2.2.2.2.2.1, ?_, fun e b he hb => ?_⟩
  · rcases hsp he hb with ⟨c1, c2, c3⟩ | ⟨c1, c2⟩
    · show jzD G1 t1 q1 rw b (jwUp Z.1 S.1 0 e)
      rw [hZe e c1]
      exact ((h.2.2.1 e b c1 c2).tr (hq b c3) (fun _ _ => rfl) hle).tt (ht b c3).1 (ht b c3).2
    · show jzD G1 t1 q1 rw b (jwUp Z.1 S.1 0 e)
      rw [show jwUp Z.1 S.1 0 e = 0 by unfold jwUp; rw [if_pos (by omega)], c2]
      exact ⟨hsn, hP, hPc, hck, Int.le_refl 0, h00, h40, fun i hi => by omega, hfv⟩
  · rcases h.2.2.2.1 j hj with e | ⟨e, b, y, g1, g2, g3, g4, g5, ⟨m, g6⟩, g7⟩
    · exact Or.inl e
    · have hb : b ≠ a := fun q9 => hna e g1 (by rw [g2, q9])
      obtain ⟨a1, a2, a3, a4, -⟩ := hq b hb
      refine Or.inr ⟨e, b, y, by omega, by rw [h2 e g1]; exact g2, g3, ?_, by rw [a4]; exact g5, ⟨m, hle _ _ g6⟩, ?_⟩
      · rw [a3]; exact g4
      · show us y = jcU (t1.tx b) (t1.ln b).toInt (jwUp Z.1 S.1 0 e).toNat
        rw [hZe e g1, (ht b hb).1, (ht b hb).2]
        exact g7
  · rcases hsp he hb with ⟨c1, c2, c3⟩ | ⟨c1, c2⟩
    · rw [(hq b c3).2.2.2.1]
      exact h.2.2.2.2.1 e b c1 c2 e0 e1
    · rw [c2]; exact hcv
  · have hW := h.2.2.2.2.2.2.1
    unfold jzW at hW ⊢
    rw [h3]
    refine ⟨hW.1, fun j x p hx hp => ?_⟩
    obtain ⟨e, b, i, r1, r2, r3⟩ := hW.2 j x p hx hp
    exact ⟨e, b, i, by omega, by rw [h2 e r1]; exact r2, r3⟩
  · rw [h4]; exact h.2.2.2.2.2.2.2.1
  · rw [h4]; exact fun x hx => ⟨hle _ _ (h.2.2.2.2.2.2.2.2.2.2.2.1 x hx).1, (h.2.2.2.2.2.2.2.2.2.2.2.1 x hx).2⟩
  · rcases hsp he hb with ⟨c1, c2, c3⟩ | ⟨c1, c2⟩
    · rw [(ht b c3).1, (ht b c3).2]
      exact h.2.2.2.2.2.2.2.2.2.2.2.2 e b c1 c2
    · rw [c2]; exact hu
end J9U
end
section
-- p8: a change, or none: the class's side of the machine
section J9X
variable {G G1 : jT} {s0 a d sp : Nat} {t t1 t2 : jDtl} {q g1 g2 q1 : jKg} {w w1 : jWl9} {ho ho1 : Nat → Option Nat} {us rw : Nat → List Int} {qq : jRqG} {ib : Nat → List Int} {S S8 : Int × (Int → jdD)} {Z Z8 : jwSt} {T : Nat → Int → Int} {v k Y : Int} {sn : Int32} {sb se sc : Nat → Int32} {v0 l0 ve ln : Int32} {f0 g0 tx : Nat → Int32} {u0 : Nat}
theorem jzIf.out {a b c : Int} (h : jzIf a b c) : a = if b ≤ c then b else c := h
end J9X
end
section
-- p8: the units of strings that are read have no half pairs
theorem jpW.one {u : Int} {L : List Int} (h0 : 0 ≤ u) (h1 : u ≤ 65535) (h2 : ¬ (55296 ≤ u ∧ u ≤ 57343)) (h : jpW L) : jpW (u :: L) := by
  cases L with
  | nil => exact ⟨h0, h1, h2⟩
  | cons v L => exact Or.inr ⟨h0, h1, h2, h⟩
theorem jpW.two {u v : Int} {L : List Int} (a : jpHi u) (b : jpLo v) (h : jpW L) : jpW (u :: v :: L) := Or.inl ⟨a, b, h⟩
/-- what stands within a string -/
def jsP (R : Int × Int × Int × Int) : Prop := (R.1 = 1 → 0 ≤ R.2.2.1 ∧ R.2.2.1 ≤ 65535 ∧ ¬ (55296 ≤ R.2.2.1 ∧ R.2.2.1 ≤ 57343)) ∧ (R.1 = 2 → jpHi R.2.2.1 ∧ jpLo R.2.2.2)
theorem jsP.no {k x y z : Int} (h1 : k ≠ 1) (h2 : k ≠ 2) : jsP (k, x, y, z) := ⟨fun q => absurd q h1, fun q => absurd q h2⟩
theorem jsP.one {n x y : Int} (h0 : 0 ≤ x) (h1 : x ≤ 65535) (h2 : ¬ (55296 ≤ x ∧ x ≤ 57343)) : jsP (1, n, x, y) := ⟨fun _ => ⟨h0, h1, h2⟩, fun q => by have q : (1 : Int) = 2 := q; omega⟩
theorem jsP.two {n x y : Int} (h0 : jpHi x) (h1 : jpLo y) : jsP (2, n, x, y) := ⟨fun q => by have q : (2 : Int) = 1 := q; omega, fun _ => ⟨h0, h1⟩⟩
theorem jUc.ns {b : Int → Int} {a e : Int} (h : 32 ≤ jUc b a e) : ¬ (55296 ≤ jUc b a e ∧ jUc b a e ≤ 57343) ∧ jUc b a e ≤ 1114111 := by
  unfold jUc at h ⊢
  by_cases w : b a < 128
  · rw [if_pos w] at h ⊢; omega
  · rw [if_neg w] at h ⊢
    by_cases w2 : jUm (b a) = 0 ∨ e ≤ a + jUm (b a)
    · rw [if_pos w2] at h; omega
    · rw [if_neg w2] at h ⊢
      generalize jUr b (jUm (b a)).toNat (a + 1) (jU0 (b a) (jUm (b a))) = v at h ⊢
      unfold jUk at h ⊢
      by_cases w3 : v < 0 ∨ (jUm (b a) = 2 ∧ v < 2048) ∨ (jUm (b a) = 3 ∧ v < 65536) ∨ (55296 ≤ v ∧ v ≤ 57343) ∨ 1114111 < v
      · rw [if_pos w3] at h; omega
      · rw [if_neg w3] at h ⊢; omega
theorem jjEs.rg (c : Int) : jjEs c < 0 ∨ (0 ≤ jjEs c ∧ jjEs c ≤ 116) := by
  unfold jjEs
  split
  · right; omega
  · split
    · right; omega
    · split
      · right; omega
      · split
        · right; omega
        · split
          · right; omega
          · split
            · right; omega
            · left; omega
theorem jjEu.sp (b : Int → Int) (e p : Int) : jsP (jjEu b e p) := by
  have h1 := jjF.r (b := b) (e := e) 4 p 0 (by omega) (by omega) (by omega) (by decide)
  unfold jjEu
  split
  · exact jsP.no (by decide) (by decide)
  · rename_i w
    split
    · rename_i w2
      split
      · rename_i w3
        exact jsP.two w2 w3.2
      · exact jsP.no (by decide) (by decide)
    · rename_i w2
      exact jsP.one (by omega) (by omega) (by omega)
theorem jjE.sp (b : Int → Int) (e a : Int) : jsP (jjE b e a) := by
  unfold jjE
  split
  · exact jjEu.sp b e (a + 2)
  · split
    · exact jsP.no (by decide) (by decide)
    · rename_i w
      have := jjEs.rg (jjK b e (a + 1))
      exact jsP.one (by omega) (by omega) (by omega)
theorem jjP.sp (b : Int → Int) (e a : Int) : jsP (jjP b e a) := by
  unfold jjP
  split
  · exact jsP.no (by decide) (by decide)
  · split
    · exact jsP.no (by decide) (by decide)
    · split
      · exact jsP.no (by decide) (by decide)
      · split
        · exact jjE.sp b e a
        · rename_i w1 w2 w3 w4
          have h := jUc.ns (b := b) (a := a) (e := e) (by omega)
          split
          · rename_i w5
            exact jsP.two ⟨by omega, by omega⟩ ⟨by omega, by omega⟩
          · exact jsP.one (by omega) (by omega) h.1
theorem jjSt.w {b : Int → Int} {e : Int} : ∀ (k : Nat) (a u : Int) (T : Nat → Int → Int), (jjSt b e k a u T).1 = 1 → u ≤ (jjSt b e k a u T).2.2.1 ∧ (∀ (t : Nat) (j : Int), (t ≠ 7 ∨ j < u) → (jjSt b e k a u T).2.2.2 t j = T t j) ∧ jpW (jsL (jjSt b e k a u T).2.2.2 ((jjSt b e k a u T).2.2.1 - u).toNat u)
  | 0, a, u, T, h => by have h : (0 : Int) = 1 := h; omega
  | k + 1, a, u, T, h => by
    have hP := jjP.sp b e a
    by_cases c3 : (jjP b e a).1 = 3
    · have e0 : jjSt b e (k + 1) a u T = (1, a + 1, u, T) := if_pos c3
      rw [e0]
      refine ⟨Int.le_refl u, fun _ _ _ => rfl, ?_⟩
      show jpW (jsL T (u - u).toNat u)
      rw [show (u - u).toNat = 0 by omega]
      trivial
    · by_cases c1 : (jjP b e a).1 = 1
      · have e0 : jjSt b e (k + 1) a u T = jjSt b e k (a + (jjP b e a).2.1) (u + 1) (jjS T 7 u (jjP b e a).2.2.1) := (if_neg c3).trans (if_pos c1)
        rw [e0] at h ⊢
        obtain ⟨x0, x1, x2⟩ := hP.1 c1
        have ih := jjSt.w k (a + (jjP b e a).2.1) (u + 1) (jjS T 7 u (jjP b e a).2.2.1) h
        generalize jjSt b e k (a + (jjP b e a).2.1) (u + 1) (jjS T 7 u (jjP b e a).2.2.1) = R at ih ⊢
        obtain ⟨i1, i2, i3⟩ := ih
        have e7 : R.2.2.2 7 u = (jjP b e a).2.2.1 := (i2 7 u (Or.inr (by omega))).trans (jjS.at _ _ _ _)
        refine ⟨by omega, fun t j q => (i2 t j (by omega)).trans (jjS.off (by omega)), ?_⟩
        rw [show (R.2.2.1 - u).toNat = (R.2.2.1 - (u + 1)).toNat + 1 by omega]
        show jpW (R.2.2.2 7 u :: jsL R.2.2.2 (R.2.2.1 - (u + 1)).toNat (u + 1))
        rw [e7]
        exact jpW.one x0 x1 x2 i3
      · by_cases c2 : (jjP b e a).1 = 2
        · have e0 : jjSt b e (k + 1) a u T = jjSt b e k (a + (jjP b e a).2.1) (u + 2) (jjS (jjS T 7 u (jjP b e a).2.2.1) 7 (u + 1) (jjP b e a).2.2.2) := (if_neg c3).trans ((if_neg c1).trans (if_pos c2))
          rw [e0] at h ⊢
          obtain ⟨x0, x1⟩ := hP.2 c2
          have ih := jjSt.w k (a + (jjP b e a).2.1) (u + 2) (jjS (jjS T 7 u (jjP b e a).2.2.1) 7 (u + 1) (jjP b e a).2.2.2) h
          generalize jjSt b e k (a + (jjP b e a).2.1) (u + 2) (jjS (jjS T 7 u (jjP b e a).2.2.1) 7 (u + 1) (jjP b e a).2.2.2) = R at ih ⊢
          obtain ⟨i1, i2, i3⟩ := ih
          have e7 : R.2.2.2 7 u = (jjP b e a).2.2.1 := (i2 7 u (Or.inr (by omega))).trans ((jjS.off (Or.inr (by omega))).trans (jjS.at _ _ _ _))
          have e8 : R.2.2.2 7 (u + 1) = (jjP b e a).2.2.2 := (i2 7 (u + 1) (Or.inr (by omega))).trans (jjS.at _ _ _ _)
          refine ⟨by omega, fun t j q => (i2 t j (by omega)).trans ((jjS.off (by omega)).trans (jjS.off (by omega))), ?_⟩
          rw [show (R.2.2.1 - u).toNat = (R.2.2.1 - (u + 2)).toNat + 1 + 1 by omega]
          show jpW (R.2.2.2 7 u :: R.2.2.2 7 (u + 1) :: jsL R.2.2.2 (R.2.2.1 - (u + 2)).toNat (u + 1 + 1))
          rw [e7, e8, show u + 1 + 1 = u + 2 by omega]
          exact jpW.two x0 x1 i3
        · have e0 : jjSt b e (k + 1) a u T = (0, a, u, T) := (if_neg c3).trans ((if_neg c1).trans (if_neg c2))
          rw [e0] at h
          have h : (0 : Int) = 1 := h
          omega
theorem jjStr.w {b : Int → Int} {e a u : Int} {T : Nat → Int → Int} (h : (jjStr b e a u T).1 = 1) : u ≤ (jjStr b e a u T).2.2.1 ∧ (∀ (t : Nat) (j : Int), (t ≠ 7 ∨ j < u) → (jjStr b e a u T).2.2.2 t j = T t j) ∧ jpW (jsL (jjStr b e a u T).2.2.2 ((jjStr b e a u T).2.2.1 - u).toNat u) := by
  unfold jjStr at h ⊢
  by_cases c : jjK b e a = 34
  · rw [if_pos c] at h ⊢
    exact jjSt.w _ _ _ _ h
  · rw [if_neg c] at h
    have h : (0 : Int) = 1 := h
    omega
theorem jjMk.e7 {T : Nat → Int → Int} {v k f z j : Int} : jjMk T v k f z 7 j = T 7 j := jjMk.fr T v (j + 1) k f z 7 j (fun q => absurd rfl q) (fun _ => by omega)
theorem jsW.mk {T : Nat → Int → Int} {v u k f z : Int} (h : jsW T v u) (hk : k ≠ 3) : jsW (jjMk T v k f z) (v + 1) u := fun i i0 i1 q => by
  by_cases c : i = v
  · rw [c, jjMk.at.1] at q
    exact absurd q hk
  · exact h.of (Int.le_refl u) (jjMk.fr T v u k f z) i i0 (by omega) q
theorem jsW.str {T : Nat → Int → Int} {v u z u1 : Int} (h : jsW T v u1) (h0 : 0 ≤ u) (hz : 0 ≤ z) (hu : u + z ≤ u1) (hw : jpW (jsL T z.toNat u)) : jsW (jjMk T v 3 u z) (v + 1) u1 := fun i i0 i1 q => by
  by_cases c : i = v
  · rw [c, jjMk.at.2.1, jjMk.at.2.2.1, jsL.cg _ _ (fun j _ _ => jjMk.e7)]
    exact ⟨h0, hz, hu, hw⟩
  · exact h.of (Int.le_refl u1) (jjMk.fr T v u1 3 u z) i i0 (by omega) q
theorem jjL.w {b : Int → Int} {e a v u : Int} {T : Nat → Int → Int} (h0 : 0 ≤ u) (hW : jsW T v u) (h : 0 ≤ (jjL b e a v u T).1) : jsW (jjL b e a v u T).2.2.2.2 (jjL b e a v u T).2.2.1 (jjL b e a v u T).2.2.2.1 := by
  unfold jjL at h ⊢
  by_cases c1 : jjK b e a = 34
  · rw [if_pos c1] at h ⊢
    by_cases c2 : (jjStr b e a u T).1 = 1
    · rw [if_pos c2] at h ⊢
      obtain ⟨i1, i2, i3⟩ := jjStr.w c2
      show jsW (jjMk (jjStr b e a u T).2.2.2 v 3 u ((jjStr b e a u T).2.2.1 - u)) (v + 1) (jjStr b e a u T).2.2.1
      generalize jjStr b e a u T = R at i1 i2 i3 ⊢
      exact jsW.str (hW.fr i1 (fun i _ _ => i2 1 i (Or.inl (by decide))) (fun i _ _ _ => ⟨i2 2 i (Or.inl (by decide)), i2 3 i (Or.inl (by decide))⟩) (fun j j1 => i2 7 j (Or.inr j1))) h0 (by omega) (by omega) i3
    · rw [if_neg c2] at h
      have h : (0 : Int) ≤ -1 := h
      omega
  · rw [if_neg c1] at h ⊢
    by_cases c2 : jjK b e a = 45 ∨ (48 ≤ jjK b e a ∧ jjK b e a ≤ 57)
    · rw [if_pos c2] at h ⊢
      by_cases c3 : jjNp b e a < 0
      · rw [if_pos c3] at h
        have h : (0 : Int) ≤ -1 := h
        omega
      · rw [if_neg c3] at h ⊢
        by_cases c4 : jjNp b e a = jjDg b e (jjNb b e a) ∧ -2147483648 ≤ jjNv b e a ∧ jjNv b e a ≤ 2147483647
        · rw [if_pos c4]; exact hW.mk (by decide)
        · rw [if_neg c4]; exact hW.mk (by decide)
    · rw [if_neg c2] at h ⊢
      by_cases c3 : jjW b e (jChT "true") 4 a = 1
      · rw [if_pos c3]; exact hW.mk (by decide)
      · rw [if_neg c3] at h ⊢
        by_cases c4 : jjW b e (jChT "false") 5 a = 1
        · rw [if_pos c4]; exact hW.mk (by decide)
        · rw [if_neg c4] at h ⊢
          by_cases c5 : jjW b e (jChT "null") 4 a = 1
          · rw [if_pos c5]; exact hW.mk (by decide)
          · rw [if_neg c5] at h
            have h : (0 : Int) ≤ -1 := h
            omega
theorem jsW.lk {T : Nat → Int → Int} {v u h l c f z : Int} (hW : jsW T v u) (hh : T 1 h ≠ 3) : jsW (jjLk T h l c f z) v u := hW.fr (Int.le_refl u) (fun i _ _ => jjLk.e1) (fun i _ _ k => ⟨jjLk.e2 (Or.inl (fun q => hh (by rw [← q]; exact k))), jjLk.e3 (fun q => hh (by rw [← q]; exact k))⟩) (fun j _ => jjLk.e7)
theorem jjM.w {b : Int → Int} {e o h : Int} {V : Int → Int → Int → (Nat → Int → Int) → Int × Int × Int × Int × (Nat → Int → Int)} (hV : ∀ (a v u : Int) (T : Nat → Int → Int), 0 ≤ v → jjOut e a v u T (V a v u T)) (hS : ∀ (a v u : Int) (T : Nat → Int → Int), 0 ≤ v → 0 ≤ u → jsW T v u → 0 ≤ (V a v u T).1 → jsW (V a v u T).2.2.2.2 (V a v u T).2.2.1 (V a v u T).2.2.2.1) : ∀ (k : Nat) (a v u l : Int) (T : Nat → Int → Int), 0 ≤ h → h < v → T 1 h ≠ 3 → 0 ≤ u → jsW T v u → 0 ≤ (jjM b e V o h k a v u T l).1 → jsW (jjM b e V o h k a v u T l).2.2.2.2 (jjM b e V o h k a v u T l).2.2.1 (jjM b e V o h k a v u T l).2.2.2.1
  | 0, a, v, u, l, T, _, _, _, _, _, hr => by have hr : (0 : Int) ≤ -1 := hr; omega
  | k + 1, a, v, u, l, T, h0, h1, h3, hu, hW, hr => by
    rcases jjKy.fr b e o a u v T with hk0 | ⟨hk1, hk2, hk3, hk4, hk5⟩
    · rw [jjM_0 hk0] at hr; omega
    · have hp : jjKy b e o a u T = (1, (jjKy b e o a u T).2.1, (jjKy b e o a u T).2.2.1, (jjKy b e o a u T).2.2.2) := by rw [← hk1]
      generalize (jjKy b e o a u T).2.1 = a1 at *
      generalize (jjKy b e o a u T).2.2.1 = u1 at *
      generalize (jjKy b e o a u T).2.2.2 = T1 at *
      have hW1 : jsW T1 v u1 := hW.of hk3 hk5
      have hW2 := hS a1 v u1 T1 (by omega) (by omega) hW1
      rcases hV a1 v u1 T1 (by omega) with ho | ⟨o1, o2, o3, o4, o5, o6, o7, o8, o9⟩
      · rw [jjM_1 hp ho] at hr; omega
      · have hW2 := hW2 (by omega)
        have hc : V a1 v u1 T1 = (v, (V a1 v u1 T1).2.1, (V a1 v u1 T1).2.2.1, (V a1 v u1 T1).2.2.2.1, (V a1 v u1 T1).2.2.2.2) := Prod.ext o1 rfl
        generalize (V a1 v u1 T1).2.1 = a2 at *
        generalize (V a1 v u1 T1).2.2.1 = v2 at *
        generalize (V a1 v u1 T1).2.2.2.1 = u2 at *
        generalize (V a1 v u1 T1).2.2.2.2 = T2 at *
        have hf : T2 1 h = T 1 h := (o7 1 h (fun _ => h1) (fun w => absurd w (by decide))).trans (hk5 1 h (fun _ => h1) (fun w => absurd w (by decide)))
        have hn : T2 1 h ≠ 3 := by rw [hf]; exact h3
        have hW3 : jsW (jjLk T2 h l v u (u1 - u)) v2 u2 := hW2.lk hn
        by_cases w : jjK b e (jjSk b e a2) = 44
        · rw [← jjM_more (h := h) (l := l) (k := k + 1) hp hc (by omega) rfl w rfl (by omega)] at hr ⊢
          exact jjM.w (b := b) (o := o) hV hS k _ v2 u2 v (jjLk T2 h l v u (u1 - u)) h0 (by omega) (by rw [jjLk.e1]; exact hn) (by omega) hW3 hr
        · by_cases w2 : jjK b e (jjSk b e a2) = 93 + 32 * o
          · rw [jjM_end (h := h) (l := l) (k := k + 1) hp hc (by omega) rfl w2 (by omega)]
            exact hW3
          · rw [jjM_2 (h := h) (l := l) (k := k + 1) hp hc rfl w w2] at hr; omega
theorem jjVal.w {b : Int → Int} {e : Int} : ∀ (d : Nat) (a v u : Int) (T : Nat → Int → Int), 0 ≤ v → 0 ≤ u → jsW T v u → 0 ≤ (jjVal b e d a v u T).1 → jsW (jjVal b e d a v u T).2.2.2.2 (jjVal b e d a v u T).2.2.1 (jjVal b e d a v u T).2.2.2.1
  | 0, a, v, u, T, h0, hu, hW, hr => by
    by_cases w : jjK b e a = 123 ∨ jjK b e a = 91
    · rw [jjVal_0 w rfl] at hr; omega
    · rw [jjVal_l (fun q => w (Or.inl q)) (fun q => w (Or.inr q))] at hr ⊢
      exact jjL.w hu hW hr
  | d + 1, a, v, u, T, h0, hu, hW, hr => by
    by_cases w : jjK b e a = 123 ∨ jjK b e a = 91
    · obtain ⟨o, ho⟩ : ∃ o : Int, (jjK b e a = 123 ∧ o = 1) ∨ (jjK b e a = 91 ∧ o = 0) := by
        rcases w with w | w
        · exact ⟨1, Or.inl ⟨w, rfl⟩⟩
        · exact ⟨0, Or.inr ⟨w, rfl⟩⟩
      rw [jjVal_h (d := d + 1) ho (by omega)] at hr ⊢
      have hr : 0 ≤ (jjH b e (jjVal b e d) o a v u T).1 := hr
      show jsW (jjH b e (jjVal b e d) o a v u T).2.2.2.2 (jjH b e (jjVal b e d) o a v u T).2.2.1 (jjH b e (jjVal b e d) o a v u T).2.2.2.1
      have hk : (2 - o : Int) ≠ 3 := by omega
      unfold jjH at hr ⊢
      by_cases w2 : jjK b e (jjSk b e (a + 1)) = (93 + 32 * o)
      · rw [if_pos w2]
        exact hW.mk hk
      · rw [if_neg w2] at hr ⊢
        exact jjM.w (b := b) (e := e) (o := o) (jjVal.out (b := b) (e := e) d) (jjVal.w (b := b) (e := e) d) _ _ (v + 1) u (-1) _ h0 (by omega) (by rw [jjMk.at.1]; exact hk) hu (hW.mk hk) hr
    · rw [jjVal_l (fun q => w (Or.inl q)) (fun q => w (Or.inr q))] at hr ⊢
      exact jjL.w hu hW hr
theorem jjRd.w {b : Int → Int} {e v u : Int} {T : Nat → Int → Int} (h : jjRd b e = (1, v, u, T)) : jsW T v u := by
  unfold jjRd at h
  by_cases c : 0 ≤ (jjVal b e 10 (jjSk b e 0) 0 0 (fun _ _ => 0)).1 ∧ jjSk b e (jjVal b e 10 (jjSk b e 0) 0 0 (fun _ _ => 0)).2.1 = e
  · rw [if_pos c] at h
    have hw := jjVal.w (b := b) (e := e) 10 (jjSk b e 0) 0 0 (fun _ _ => 0) (Int.le_refl 0) (Int.le_refl 0) (fun i i0 i1 => by omega) c.1
    have e1 := congrArg (fun x : Int × Int × Int × (Nat → Int → Int) => x.2.1) h
    have e2 := congrArg (fun x : Int × Int × Int × (Nat → Int → Int) => x.2.2.1) h
    have e3 := congrArg (fun x : Int × Int × Int × (Nat → Int → Int) => x.2.2.2) h
    have e1 : (jjVal b e 10 (jjSk b e 0) 0 0 (fun _ _ => 0)).2.2.1 = v := e1
    have e2 : (jjVal b e 10 (jjSk b e 0) 0 0 (fun _ _ => 0)).2.2.2.1 = u := e2
    have e3 : (jjVal b e 10 (jjSk b e 0) 0 0 (fun _ _ => 0)).2.2.2.2 = T := e3
    rw [e1, e2, e3] at hw
    exact hw
  · rw [if_neg c] at h
    have e1 := congrArg Prod.fst h
    have e1 : (0 : Int) = 1 := e1
    omega
end
section
-- p8: ids: numbers and strings as they are written, step by step
section J9ID
variable {ib i1 i2 : Nat → List Int} {a : Nat}
end J9ID
section J9IQ
variable {ib i1 i2 : Nat → List Int} {a : Nat} {f : Nat → Int32} {n v v1 : Int}
/-- the units from v on are still to be written -/
def jiQ (ib ix : Nat → List Int) (a : Nat) (f : Nat → Int32) (n v : Int) : Prop := jpW (jcL f (n - v).toNat v) ∧ ∃ L, jiP ib ix a L ∧ L ++ jpQ (jcL f (n - v).toNat v) = 34 :: jpQ (jcL f n.toNat 0)
theorem jiQ.hd (h : jiQ ib i1 a f n v) (h1 : v < n) : (v + 1 < n ∧ 55296 ≤ jSo f v ∧ jSo f v ≤ 56319 ∧ 56320 ≤ jSo f (v + 1) ∧ jSo f (v + 1) ≤ 57343) ∨ (0 ≤ jSo f v ∧ jSo f v ≤ 65535 ∧ (jSo f v < 55296 ∨ 57343 < jSo f v)) := by
  have h2 := h.1
  rw [show (n - v).toNat = (n - v - 1).toNat + 1 by omega] at h2
  rcases jpW.hd h2 with ⟨w, M, e, p, q, -⟩ | ⟨u0, u1, u2, -⟩
  · left
    by_cases c : v + 1 < n
    · rw [show (n - v - 1).toNat = (n - v - 2).toNat + 1 by omega] at e
      have e1 : jSo f (v + 1) = w := (List.cons.inj e).1
      rw [← e1] at q
      exact ⟨c, p.1, p.2, q.1, q.2⟩
    · rw [show (n - v - 1).toNat = 0 by omega] at e
      cases e
  · right
    exact ⟨u0, u1, by omega⟩
theorem jiQ.one {L : List Int} (h : jiQ ib i1 a f n v) (hv : v < n) (hu : jSo f v < 55296 ∨ 57343 < jSo f v) (hp : jiP i1 i2 a L) (hL : L = jpC (jSo f v)) (e : v1 = v + 1) : jiQ ib i2 a f n v1 := by
  obtain ⟨hW, M, p, q⟩ := h
  rw [show (n - v).toNat = (n - v1).toNat + 1 by omega] at hW q
  have e2 : jcL f ((n - v1).toNat + 1) v = jSo f v :: jcL f (n - v1).toNat v1 := by rw [e]; rfl
  rw [e2] at hW q
  refine ⟨?_, M ++ L, p.tr hp, ?_⟩
  · rcases jpW.hd hW with ⟨w, K, e3, p1, -⟩ | ⟨-, -, -, h3⟩
    · unfold jpHi at p1; omega
    · exact h3
  · rw [← q, jpQ.c (by omega), hL, List.append_assoc]
end J9IQ
end
section
-- p8: a request is made: its id as it is written
section J9RI
variable {ib iB : Nat → List Int} {N i : Nat} {T : Nat → Int → Int} {v x : Int}
end J9RI
section J9HI
variable {q : jRqG} {ib : Nat → List Int} {a b i j : Nat} {f g : Nat → Int32} {n m v : Int}
theorem jzHi.ne (h1 : q.iv a = .ref i) (h2 : q.iv b = .ref j) (e1 : ib i = jbL f n.toNat 0) (e2 : ib j = jbL g n.toNat 0) (h0 : 0 ≤ v) (h3 : v < n) (hne : jSo f v % 256 ≠ jSo g v % 256) : ¬ jzHi q ib a b := fun ⟨x, y, k1, k2, k3⟩ => by
  rw [h1] at k1; rw [h2] at k2
  cases k1; cases k2
  have := congrArg (fun l : List Int => l[v.toNat]?) k3
  have this : (ib i)[v.toNat]? = (ib j)[v.toNat]? := this
  rw [e1, e2, jbL.at _ _ _ (by omega), jbL.at _ _ _ (by omega), Nat.zero_add] at this
  exact hne (Option.some.inj this)
end J9HI
theorem jBf.r {j : Nat} {z : Int32} (h : jBf j z) : -128 ≤ z.toInt ∧ z.toInt ≤ 127 := by
  have h : (decide ((-128 : Int32) ≤ z) && decide (z ≤ 127)) = true := h
  rw [Bool.and_eq_true] at h
  have h1 := Int32.le_iff_toInt_le.mp (of_decide_eq_true h.1)
  have h2 := Int32.le_iff_toInt_le.mp (of_decide_eq_true h.2)
  have e1 : (-128 : Int32).toInt = -128 := by decide
  have e2 : (127 : Int32).toInt = 127 := by decide
  omega
end
section
-- p8: what holds of the machine stays, from message to message
section J9OM
variable {T : Nat → Int → Int} {v p : Int} {S S1 : Int × (Int → jdD)} {Z : jwSt} {d e : Int}
theorem jwDn.c {x : Int} (hd : 0 ≤ d) (hx : x ≠ d) : (x = -1 ∧ jwDn d x = -1) ∨ x < 0 ∨ (0 ≤ x ∧ x < d ∧ jwDn d x = x) ∨ (d < x ∧ jwDn d x = x - 1) := by
  unfold jwDn
  split <;> omega
end J9OM
end
section
-- p8: a byte, on the class's side
section J9GV
variable {s : jdSt} {u r br qn qb pl to ke sg il dg sv fi a1 a2 a3 a4 a5 a6 a7 a8 p z : Int} {D : Int → Int} {S : Int × (Int → jdD)} {Z : jwSt}
theorem jwMs.yc {v w : Int} {T : Nat → Int → Int} (h : jjRd (jB8 (jfCn D)) z = (1, v, w, T)) : jwMs D z p S Z = jwMg T v p S Z := by
  unfold jwMs
  rw [h, if_pos rfl]
theorem jdUs.w {v w : Int} {T : Nat → Int → Int} {o : Option Nat} {fk fi fz fn fa fs fu : Nat → Int32} (h : jdUs (jjRd (jB8 (jfCn D)) z) o v w T fk fi fz fn fa fs fu) (ho : (Value.null) = va_rf o) : jwMs D z p S Z = Z := by
  have e : o = none := by
    cases o with
    | none => rfl
    | some x => cases ho
  rcases h with ⟨-, c | ⟨c, c1⟩⟩ | ⟨c, -⟩
  · exact if_neg (by omega)
  · rw [jwMs.yc c]
    exact jwMg.x c1
  · exact absurd e c
end J9GV
end
section
-- p8: a batch leaves the open documents, their States and rows as they are
section J9BT
variable {G G1 : jT} {s0 x : Nat} {t t1 t2 : jDtl} {q q1 q2 : jKg} {w : jWl9} {ho : Nat → Option Nat} {us us1 us2 rw rw1 : Nat → List Int} {qq : jRqG} {ib : Nat → List Int} {S : Int × (Int → jdD)} {Z : jwSt}
theorem jzBt.put {v l : Int32} {f : Nat → Int32} {u : Nat} {g : Nat → Int32} (h : jzBt w t t1) (hn : ∀ i : Nat, (i : Int) < w.1 → w.2.1 i ≠ some x) (e : t2 = t1.put x v l f u g) : jzBt w t t2 := fun d b hd hb => by
  have hb1 : b ≠ x := fun c => hn d hd (by rw [hb, c])
  obtain ⟨e1, e2⟩ := h d b hd hb
  rw [e]
  exact ⟨(jUf_n _ _ hb1).trans e1, (jUf_n _ _ hb1).trans e2⟩
theorem jzBn.put {sn ck lf : Int32} {cv fv : Value} {sb se sc : Nat → Int32} {bh : Nat → Option Nat} (h : jzBn w q q1) (hn : ∀ i : Nat, (i : Int) < w.1 → w.2.1 i ≠ some x) (e : q2 = q1.put x sn ck lf cv fv sb se sc bh) : jzBn w q q2 := fun d b hd hb => by
  have hb1 : b ≠ x := fun c => hn d hd (by rw [hb, c])
  rw [e]
  exact (h d b hd hb).tr (jzAg.put hb1)
end J9BT
end
section
-- how long a message is at least that opens or changes a document
def jEs : List Nat → List Nat
  | [] => []
  | i :: is => (2 * i) :: (2 * i + 1) :: jEs is
theorem jEs.mem : ∀ (is : List Nat) (e : Nat), e ∈ jEs is → e / 2 ∈ is
  | [], _, h => by cases h
  | i :: is, e, h => by
    rcases List.mem_cons.mp h with h | h
    · subst h
      rw [show 2 * i / 2 = i by omega]
      exact List.mem_cons_self
    · rcases List.mem_cons.mp h with h | h
      · subst h
        rw [show (2 * i + 1) / 2 = i by omega]
        exact List.mem_cons_self
      · exact List.mem_cons_of_mem _ (jEs.mem is e h)
theorem jEs.apart : ∀ (is : List Nat), is.Pairwise (· ≠ ·) → (jEs is).Pairwise (· ≠ ·)
  | [], _ => List.Pairwise.nil
  | i :: is, h => by
    obtain ⟨h1, h2⟩ := List.pairwise_cons.mp h
    have g := jEs.apart is h2
    refine List.pairwise_cons.mpr ⟨fun e he q => ?_, List.pairwise_cons.mpr ⟨fun e he q => ?_, g⟩⟩
    · rcases List.mem_cons.mp he with he | he
      · omega
      · exact h1 _ (jEs.mem is e he) (by omega)
    · exact h1 _ (jEs.mem is e he) (by omega)
theorem jWs.eq {D : jC} : ∀ (is : List Int), (∀ i ∈ is, 0 ≤ i) → jSuu D (jEs (is.map Int.toNat)) = jWs D is
  | [], _ => rfl
  | i :: is, h => by
    have h1 := jWs.eq (D := D) is (fun x hx => h x (List.mem_cons_of_mem _ hx))
    have h2 := h i List.mem_cons_self
    show jln D (2 * i.toNat) + (jln D (2 * i.toNat + 1) + jSuu D (jEs (is.map Int.toNat))) = (if jSo D.1 i = 3 then jSo D.2.2.1 i else 0) + jSo D.2.2.2.2 i + jWs D is
    have n1 : jln D (2 * i.toNat) = (if jSo D.1 i = 3 then jSo D.2.2.1 i else 0) := by
      unfold jln
      rw [if_pos (by omega), show (((2 * i.toNat) / 2 : Nat) : Int) = i by omega]
    have n2 : jln D (2 * i.toNat + 1) = jSo D.2.2.2.2 i := by
      unfold jln
      rw [if_neg (by omega), show (((2 * i.toNat + 1) / 2 : Nat) : Int) = i by omega]
    rw [n1, n2, h1]
    omega
theorem jSb.one : ∀ n : Nat, jSb (fun _ => 1) n = 5 * (n : Int)
  | 0 => rfl
  | n + 1 => by
    have h := jSb.one n
    show jSb (fun _ => 1) n + (if 1 ≤ ((1 : Int32)).toInt then 5 else 2) = 5 * ((n + 1 : Nat) : Int)
    rw [if_pos (by decide), h]
    omega
theorem jCi.all {n : Nat} : ∀ is : List Nat, (∀ i ∈ is, i < n) → jCi n is = 3 * (is.length : Int)
  | [], _ => rfl
  | i :: is, h => by
    have h1 := jCi.all is (fun x hx => h x (List.mem_cons_of_mem _ hx))
    have h2 := h i List.mem_cons_self
    show (if i < n then (3 : Int) else 0) + jCi n is = 3 * ((is.length + 1 : Nat) : Int)
    rw [if_pos h2, h1]
    omega
theorem jCi.len {n : Nat} {is : List Nat} (hp : is.Pairwise (· ≠ ·)) (h : ∀ i ∈ is, i < n) : (is.length : Int) ≤ n := by
  have h1 := jSb.many (f := fun _ => 1) hp (fun _ _ => by decide) n
  rw [jSb.one, jCi.all is h] at h1
  omega
theorem jByt {C D : jC} {qv qu n : Int} (h : jJr C 0 0 D qv qu) (hu : qu + jSb D.2.2.2.2 qv.toNat ≤ n + 1) (is : List Int) (hp : is.Pairwise (· ≠ ·)) (hr : ∀ i ∈ is, 0 ≤ i ∧ i < qv ∧ 1 ≤ jSo D.2.2.2.2 i) : jWs D is + 5 * (is.length : Int) ≤ n + 1 := by
  have hq : (is.map Int.toNat).Pairwise (· ≠ ·) := List.pairwise_map.mpr (hp.imp_of_mem (fun ha hb ne q => ne (by
    have := (hr _ ha).1
    have := (hr _ hb).1
    omega)))
  have hm : ∀ x ∈ is.map Int.toNat, (x : Int) < qv ∧ 1 ≤ (D.2.2.2.2 x).toInt := fun x hx => by
    obtain ⟨i, hi, e⟩ := List.mem_map.mp hx
    have g := hr i hi
    have g3 := g.2.2
    unfold jSo at g3
    rw [← e]
    exact ⟨by omega, g3⟩
  have s1 := h.sum (jEs (is.map Int.toNat)) (fun e he => by
    have := (hm _ (jEs.mem _ _ he)).1
    omega) (jEs.apart _ hq)
  rw [jWs.eq is (fun i hi => (hr i hi).1)] at s1
  have s2 := jSb.many hq (fun i hi => (hm i hi).2) qv.toNat
  have s3 : jCi qv.toNat (is.map Int.toNat) = 3 * ((is.map Int.toNat).length : Int) := jCi.all _ (fun i hi => by
    have := (hm i hi).1
    omega)
  have s4 := jCi.len (n := qv.toNat) hq (fun i hi => by
    have := (hm i hi).1
    omega)
  have s5 := h.1
  rw [s3] at s2
  rw [List.length_map] at s2 s4
  omega
/-- a message that was understood, its method of z units -/
def jMg (D : jC) (pv pu n z : Int) : Prop := (∃ C : jC, jJr C 0 0 D pv pu) ∧ jUd D pv pu n ∧ ∃ m : Int, 0 ≤ m ∧ m < pv ∧ jSo D.2.2.2.2 m = 6 ∧ jSo D.1 m = 3 ∧ jSo D.2.2.1 m = z
theorem jNde.ne {D : jC} {pv i j k z k1 z1 : Int} (h : jNde D pv i k z) (g : jNde D pv j k1 z1) (hd : k ≠ k1 ∨ z ≠ z1) : i ≠ j := fun e => by
  subst e
  obtain ⟨-, -, h3, h4⟩ := h
  obtain ⟨-, -, g3, g4⟩ := g
  omega
theorem jNde.w {D : jC} {pv i k z : Int} (h : jNde D pv i k z) (hk : k ≠ 3) (is : List Int) : jWs D (i :: is) = z + jWs D is := by
  obtain ⟨h1, h2, h3, h4⟩ := h
  show (if jSo D.1 i = 3 then jSo D.2.2.1 i else 0) + jSo D.2.2.2.2 i + jWs D is = _
  rw [if_neg (by omega), h4]
  omega
theorem jNde.r {D : jC} {pv i k z : Int} (h : jNde D pv i k z) (hz : 1 ≤ z) : 0 ≤ i ∧ i < pv ∧ 1 ≤ jSo D.2.2.2.2 i := by
  obtain ⟨h1, h2, h3, h4⟩ := h
  omega
theorem jMg.opn {D : jC} {pv pu n p d u v t : Int} (h : jMg D pv pu n 20) (hp : jNde D pv p 1 6) (hd : jNde D pv d 1 12) (hu : jNde D pv u 3 3) (hv : jNde D pv v 4 7) (ht : jNde D pv t 3 4) : 102 + jSo D.2.2.1 u + jSo D.2.2.1 t ≤ n := by
  obtain ⟨⟨C, h1⟩, ⟨h2, j, j0, j1, j2, j3, j4⟩, m, m0, m1, m2, m3, m4⟩ := h
  have hj : jNde D pv j 3 7 := ⟨j0, j1, j3, j2⟩
  have hm : jNde D pv m 3 6 := ⟨m0, m1, m3, m2⟩
  have nil : ∀ a ∈ ([] : List Int), False := fun a ha => by cases ha
  have b := jByt h1 h2 [j, m, p, d, u, v, t]
    (List.pairwise_cons.mpr ⟨List.forall_mem_cons.mpr ⟨hj.ne hm (by omega), List.forall_mem_cons.mpr ⟨hj.ne hp (by omega), List.forall_mem_cons.mpr ⟨hj.ne hd (by omega), List.forall_mem_cons.mpr ⟨hj.ne hu (by omega), List.forall_mem_cons.mpr ⟨hj.ne hv (by omega), List.forall_mem_cons.mpr ⟨hj.ne ht (by omega), fun a ha => (nil a ha).elim⟩⟩⟩⟩⟩⟩,
    List.pairwise_cons.mpr ⟨List.forall_mem_cons.mpr ⟨hm.ne hp (by omega), List.forall_mem_cons.mpr ⟨hm.ne hd (by omega), List.forall_mem_cons.mpr ⟨hm.ne hu (by omega), List.forall_mem_cons.mpr ⟨hm.ne hv (by omega), List.forall_mem_cons.mpr ⟨hm.ne ht (by omega), fun a ha => (nil a ha).elim⟩⟩⟩⟩⟩,
    List.pairwise_cons.mpr ⟨List.forall_mem_cons.mpr ⟨hp.ne hd (by omega), List.forall_mem_cons.mpr ⟨hp.ne hu (by omega), List.forall_mem_cons.mpr ⟨hp.ne hv (by omega), List.forall_mem_cons.mpr ⟨hp.ne ht (by omega), fun a ha => (nil a ha).elim⟩⟩⟩⟩,
    List.pairwise_cons.mpr ⟨List.forall_mem_cons.mpr ⟨hd.ne hu (by omega), List.forall_mem_cons.mpr ⟨hd.ne hv (by omega), List.forall_mem_cons.mpr ⟨hd.ne ht (by omega), fun a ha => (nil a ha).elim⟩⟩⟩,
    List.pairwise_cons.mpr ⟨List.forall_mem_cons.mpr ⟨hu.ne hv (by omega), List.forall_mem_cons.mpr ⟨hu.ne ht (by omega), fun a ha => (nil a ha).elim⟩⟩,
    List.pairwise_cons.mpr ⟨List.forall_mem_cons.mpr ⟨hv.ne ht (by omega), fun a ha => (nil a ha).elim⟩,
    List.pairwise_cons.mpr ⟨fun a ha => (nil a ha).elim, List.Pairwise.nil⟩⟩⟩⟩⟩⟩⟩)
    (List.forall_mem_cons.mpr ⟨hj.r (by omega), List.forall_mem_cons.mpr ⟨hm.r (by omega), List.forall_mem_cons.mpr ⟨hp.r (by omega), List.forall_mem_cons.mpr ⟨hd.r (by omega), List.forall_mem_cons.mpr ⟨hu.r (by omega), List.forall_mem_cons.mpr ⟨hv.r (by omega), List.forall_mem_cons.mpr ⟨ht.r (by omega), fun a ha => (nil a ha).elim⟩⟩⟩⟩⟩⟩⟩)
  rw [hj.s, hm.s, hp.w (by omega), hd.w (by omega), hu.s, hv.w (by omega), ht.s, show jWs D [] = 0 from rfl, j4, m4, show (([j, m, p, d, u, v, t].length : Nat) : Int) = 7 from rfl] at b
  omega
/-- a message that was understood has some bytes -/
theorem jMh.one {D : jC} {pv pu n : Int} (h : jMh D pv pu n) : 14 ≤ n := by
  obtain ⟨⟨C, h1⟩, h2, j, j0, j1, j2, j3, j4⟩ := h
  have hj : jNde D pv j 3 7 := ⟨j0, j1, j3, j2⟩
  have nil : ∀ a ∈ ([] : List Int), False := fun a ha => by cases ha
  have b := jByt h1 h2 [j] (List.pairwise_cons.mpr ⟨fun a ha => (nil a ha).elim, List.Pairwise.nil⟩) (List.forall_mem_cons.mpr ⟨hj.r (by omega), fun a ha => (nil a ha).elim⟩)
  rw [hj.s, show jWs D [] = 0 from rfl, j4, show (([j].length : Nat) : Int) = 1 from rfl] at b
  omega
end
section
-- the documents of the reference while it is made
section J45
variable {dC : Nat → ClassId} {dI : Nat → Nat → Nat} {ca : Nat → ClassId} {G G1 : jT} {H : Heap}
theorem jDZa.zero (h : ∀ a t, G a ≠ some t) : jDZa dC dI G H := ⟨fun _ => 0, fun _ => 0, fun a ha => absurd ha (h _ _), fun a _ ha => absurd ha (h _ _), fun a _ ha => absurd ha (h _ _), fun a ha => absurd ha (h _ _)⟩
theorem jRZ.zero (h : ∀ a t, G a ≠ some t) : jRZ dC dI G H := ⟨fun _ => 0, fun _ => 0, fun a ha => absurd ha (h _ _), fun a _ ha => absurd ha (h _ _), fun a _ ha => absurd ha (h _ _), fun a ha => absurd ha (h _ _)⟩
theorem jFZ.zero (h : ∀ a t, G a ≠ some t) : jFZ dC dI G H := ⟨fun _ => 0, fun a ha => absurd ha (h _ _), fun a _ ha => absurd ha (h _ _)⟩
theorem jDZ.zero (h : ∀ a t, G a ≠ some t) : jDZ dC dI G H := ⟨jDZa.zero h, jRZ.zero h, jFZ.zero h⟩
theorem jPu.zero {fd fo : Nat → Option Nat} {fs : Nat → Int32} {dc : Int} {a b c ol nw td : Nat} (h0 : fd 0 = some a) (h1 : fd 1 = some b) (h2 : fd 2 = some c) (ha : a < b) (hb : b < c) (hc : c < ol) (ho : ol < nw) (hn : nw < td) (hf : ∀ w, w < 2 → fo w = none) : jPu (fun _ => 0) (fun _ => 0) fd fo fs dc ol nw td := by
  have c3 : ∀ i, i < 3 → i = 0 ∨ i = 1 ∨ i = 2 := fun i h => by omega
  refine ⟨fun i hi => ?_, fun i j hi hj e => ?_, fun i a hi _ => Int.le_refl _, fun w hw => Or.inl (hf w hw)⟩
  · rcases c3 i hi with rfl | rfl | rfl
    · rw [h0]; exact ⟨fun e => by cases e; omega, fun e => by cases e; omega, fun e => by cases e; omega⟩
    · rw [h1]; exact ⟨fun e => by cases e; omega, fun e => by cases e; omega, fun e => by cases e; omega⟩
    · rw [h2]; exact ⟨fun e => by cases e; omega, fun e => by cases e; omega, fun e => by cases e; omega⟩
  · rcases c3 i hi with rfl | rfl | rfl <;> rcases c3 j hj with rfl | rfl | rfl <;> first | rfl | (simp only [h0, h1, h2, Option.some.injEq] at e; omega)
end J45
end
