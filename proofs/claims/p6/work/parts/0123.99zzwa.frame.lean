section
-- p9: frames: X 0 fine or broken, 1 place, 2 told, 3 kept, 4 signs, 5 the name is like the wanted one, 6 digits, 7 value, 8 filled
section
variable {x a b c d e f g h i u r p q ql qg : Int}
theorem jfA.hn {p q ql qg s t k qn qb : Int} (hb : b ≠ 6) (hd : d < 200) (hy : jfHd (jfV x b c d e f g h i) u = jfV 1 p q d ql qg s t i) (hk : k = d + 1) (hw : p ≠ 6 ∨ i < q) (hr : r = 0) (hq : qb = 0) : jfA (jfV x b c d e f g h i) u r qn qb p q k ql qg s t i := by
  refine ⟨jfV 0 p q k ql qg s t i, 0, ?_, Or.inr ⟨hq, rfl⟩, fun w => by omega⟩
  unfold jfAc
  rw [if_neg (show ¬ jfV x b c d e f g h i 1 = 6 from hb), hy, if_neg (show ¬ (200 ≤ jfV x b c d e f g h i 3 ∨ jfV 1 p q d ql qg s t i 0 = 0) from fun w => by
    rcases w with w | w
    · have w : 200 ≤ d := w; omega
    · have w : (1 : Int) = 0 := w; omega)]
  show jfW (jfV 0 p q (d + 1) ql qg s t i) = _
  rw [jfW_n hw, hk, hr]
theorem jfA.hy {p q ql qg s t qn qb a1 a2 a3 a4 : Int} (hb : b ≠ 6) (hd : d < 200) (hy : jfHd (jfV x b c d e f g h i) u = jfV 1 p q d ql qg s t i) (hw : p = 6) (hi : q ≤ i) (hr : r = 1) (hq : qb = 0) (hn : qn = q) (h1 : a1 = 0) (h2 : a2 = -1) (h3 : a3 = 0) (h4 : a4 = 0) : jfA (jfV x b c d e f g h i) u r qn qb a1 a2 a3 ql qg s t a4 := by
  refine ⟨jfV 0 0 (-1) 0 ql qg s t 0, q, ?_, Or.inr ⟨hq, by rw [h1, h2, h3, h4]⟩, fun w => hn⟩
  unfold jfAc
  rw [if_neg (show ¬ jfV x b c d e f g h i 1 = 6 from hb), hy, if_neg (show ¬ (200 ≤ jfV x b c d e f g h i 3 ∨ jfV 1 p q d ql qg s t i 0 = 0) from fun w => by
    rcases w with w | w
    · have w : 200 ≤ d := w; omega
    · have w : (1 : Int) = 0 := w; omega)]
  show jfW (jfV 0 p q (d + 1) ql qg s t i) = _
  rw [jfW_y hw hi, hr]
end
section JP3
variable {p : Program} {l : Launch} {e : Env} {R : Room} {s : State} {m : MethodId} {args : Array Value} {below : List Frame} {meth : Method} {c : Code} {H : Heap} {locs : List Loc} {cells slots : Nat} {Q : State → Prop}
variable {cc : ByteArray} {pc : Nat} {ls : Array Slot} {rest : List Value} {dC : Nat → ClassId} {dI : Nat → Nat → Nat} {ca : Nat → ClassId} {B : jF} {base : Nat} {G0 G : jT} {E : List (Nat × Nat)} {H0 : Heap} {zc zs : Nat} {L : List jPin} {M : List jCt} {I : List jIv} {a k n : Nat} {cA : ClassId} {tys : List (ClassId × FieldType)}
end JP3
section JP4
variable {p : Program} {l : Launch} {e : Env} {R : Room} {s : State} {m : MethodId} {args : Array Value} {below : List Frame} {meth : Method} {c : Code} {H : Heap} {locs : List Loc} {cells slots : Nat} {Q : State → Prop}
variable {cc : ByteArray} {pc : Nat} {ls : Array Slot} {rest : List Value} {dC : Nat → ClassId} {dI : Nat → Nat → Nat} {ca : Nat → ClassId} {B : jF} {base : Nat} {G0 G : jT} {E : List (Nat × Nat)} {H0 : Heap} {zc zs : Nat} {L : List jPin} {M : List jCt} {I : List jIv} {a k n : Nat} {cA : ClassId} {tys : List (ClassId × FieldType)}
variable {P : Nat → Int32 → Prop}
end JP4
end
section
-- p9: what the class's methods say of JSON
section
variable {T T1 : Nat → Int → Int} {v u v1 k f z : Int} {fk fi fz fn fa fs fu gk gi gz gn ga gs gu : Nat → Int32}
end
section
variable {X : Int × Int × Int × Int × (Nat → Int → Int)} {e d r a v u a0 v0 u0 : Int} {T : Nat → Int → Int} {fk fi fz fn fa fs fu : Nat → Int32}
end
section
variable {b : Int → Int} {e a v u r a1 v1 u1 z c : Int} {T T1 : Nat → Int → Int}
end
section
variable {b : Int → Int} {e a v u r qt qv qu d c : Int} {T : Nat → Int → Int} {fk fi fz fn fa fs fu : Nat → Int32} {n : Nat}
end
section
variable {b : Int → Int} {e o h : Int} {V : Int → Int → Int → (Nat → Int → Int) → Int × Int × Int × Int × (Nat → Int → Int)}
theorem jjM.gt (hV : ∀ (a v u : Int) (T : Nat → Int → Int), 0 ≤ v → jjOut e a v u T (V a v u T)) : ∀ (k : Nat) (a v u l : Int) (T : Nat → Int → Int), 0 ≤ v → (jjM b e V o h k a v u T l).1 < 0 ∨ a < (jjM b e V o h k a v u T l).2.1
  | 0, _, _, _, _, _, _ => Or.inl (by show (-1 : Int) < 0; omega)
  | k + 1, a, v, u, l, T, h0 => by
    rcases jjKy.fr b e o a u v T with hk0 | ⟨hk1, hk2, hk3, hk4, hk5⟩
    · exact Or.inl (by rw [jjM_0 hk0]; omega)
    · have hp : jjKy b e o a u T = (1, (jjKy b e o a u T).2.1, (jjKy b e o a u T).2.2.1, (jjKy b e o a u T).2.2.2) := by rw [← hk1]
      generalize (jjKy b e o a u T).2.1 = a1 at *
      generalize (jjKy b e o a u T).2.2.1 = u1 at *
      generalize (jjKy b e o a u T).2.2.2 = T1 at *
      rcases hV a1 v u1 T1 h0 with ho | ⟨o1, o2, o3, o4, o5, o6, o7, o8, o9⟩
      · exact Or.inl (by rw [jjM_1 hp ho]; omega)
      · have hc : V a1 v u1 T1 = (v, (V a1 v u1 T1).2.1, (V a1 v u1 T1).2.2.1, (V a1 v u1 T1).2.2.2.1, (V a1 v u1 T1).2.2.2.2) := Prod.ext o1 rfl
        generalize (V a1 v u1 T1).2.1 = a2 at *
        generalize (V a1 v u1 T1).2.2.1 = v2 at *
        generalize (V a1 v u1 T1).2.2.2.1 = u2 at *
        generalize (V a1 v u1 T1).2.2.2.2 = T2 at *
        have hq := jjSk.ge b e a2
        by_cases w : jjK b e (jjSk b e a2) = 44
        · have hw := jjSk.ge b e (jjSk b e a2 + 1)
          rw [← jjM_more (h := h) (l := l) (k := k + 1) hp hc (by omega) rfl w rfl (by omega)]
          rcases jjM.gt hV k (jjSk b e (jjSk b e a2 + 1)) v2 u2 v (jjLk T2 h l v u (u1 - u)) (by omega) with ih | ih
          · exact Or.inl ih
          · exact Or.inr (by show a < (jjM b e V o h k _ _ _ _ _).2.1; omega)
        · by_cases w2 : jjK b e (jjSk b e a2) = 93 + 32 * o
          · rw [jjM_end (h := h) (l := l) (k := k + 1) hp hc (by omega) rfl w2 (by omega)]
            exact Or.inr (by show a < jjSk b e a2 + 1; omega)
          · exact Or.inl (by rw [jjM_2 (h := h) (l := l) (k := k + 1) hp hc rfl w w2]; omega)
variable {k : Nat} {a v u l a1 u1 r r1 a2 v2 u2 q a3 d d1 qt qv qu : Int} {T T1 T2 : Nat → Int → Int} {X : Int × Int × Int × Int × (Nat → Int → Int)} {fk fi fz fn fa fs fu gk gi gz gn ga gs gu : Nat → Int32}
end
section
variable {b : Int → Int} {e a l1 l2 l3 l4 w w1 q : Int}
end
section
variable {b : Int → Int} {e a d w r r1 v u q v0 u0 : Int} {fk fi fz fn fa fs fu : Nat → Int32} {T0 : Nat → Int → Int}
end
end
section
-- p9: the open documents, by their number
/-- the other two lists: their sizes, what stands in them -/
theorem jLs.sz2 {dC : Nat → ClassId} {dI : Nat → Nat → Nat} {ca : Nat → ClassId} {G : jT} {k a c : Nat} {w : jWl9} {H : Heap} {z : Int32} (h : jLs dC dI ca G k none w H) (ha : G a = some (1, c)) (hc : c ≠ 1) (hp : jf (dC, dI) 1 a 2 (.int z) H) : ((jWls c w).length : Int) = z.toInt ∧ z.toInt ≤ jLb c := by
  obtain ⟨z1, x, h1, -, h3, h4⟩ := h.at ha
  have e : z1 = z := Value.int.inj (jf.uniq h1 hp)
  subst e
  refine ⟨?_, h3.2⟩
  rcases h4 with ⟨-, g2, -, g3⟩ | ⟨m, f, -, -, -, -, -, -, g⟩
  · rw [g2, g3 hc]; rfl
  · exact (g hc).1
end
section
-- p8: what is told of all documents of the class: sentences, what is checked, the check that goes on (written by mkent.py)
section J81
variable {dC : Nat → ClassId} {dI : Nat → Nat → Nat} {ca : Nat → ClassId} {G G1 : jT} {H H1 : Heap} {x : Option Nat} {q : jKg}
variable {a ysb yse ysc ybh : Nat} {sn : Int32} {ck : Int32} {lf : Int32} {cv : Value} {fv : Value} {sb : Nat → Int32} {se : Nat → Int32} {sc : Nat → Int32} {bh : Nat → Option Nat}
theorem jKD.a9 {n : Nat} (h : jKD dC dI ca G (some a) q H) (ha : G a = some (3, n)) (hy : G ybh = some (210, 40)) (p : jf (dC, dI) 3 a 9 (.ref ybh) H) (hfr : ∀ p, p ≠ ybh → H1[p]? = H[p]?) : jKD dC dI ca G (some a) q H1 := by
  obtain ⟨Ysb, Yse, Ysc, Ybh, h1, i0, i1, i2, i3, h3⟩ := h
  have e9 : Ybh a = ybh := by obtain ⟨g0, e0, g1, e1, g2, e2, g3, e3⟩ := h1 a n ha; have z := jf.uniq g3 p; cases z; rfl
  have hn : ∀ b m, G b = some (3, m) → b ≠ ybh := fun b m hb z => by
    rw [z, hy] at hb
    have := congrArg Prod.fst (Option.some.inj hb)
    simp at this
  refine ⟨Ysb, Yse, Ysc, Ybh, fun b m hb => ?_, i0, i1, i2, i3, fun b m hb hx => ?_⟩
  · obtain ⟨g0, e0, g1, e1, g2, e2, g3, e3⟩ := h1 b m hb
    exact ⟨g0.kept (hfr b (hn b m hb)), e0, g1.kept (hfr b (hn b m hb)), e1, g2.kept (hfr b (hn b m hb)), e2, g3.kept (hfr b (hn b m hb)), e3⟩
  · have g := h3 b m hb hx
    obtain ⟨e0, e1, e2, e3⟩ := g.gy
    refine g.of (fun i v hi hf => hf.kept (hfr b (hn b m hb))) (hfr _ (fun z => ?_)) (hfr _ (fun z => ?_)) (hfr _ (fun z => ?_)) (hfr _ (fun z => ?_))
    · rw [z, hy] at e0
      have := congrArg Prod.fst (Option.some.inj e0)
      simp at this
    · rw [z, hy] at e1
      have := congrArg Prod.fst (Option.some.inj e1)
      simp at this
    · rw [z, hy] at e2
      have := congrArg Prod.fst (Option.some.inj e2)
      simp at this
    · exact hx (by rw [i3 b a m n hb ha (z.trans e9.symm)])
end J81
end
section
-- p8: the class: units of sentences that are kept (kind 175), and the States: the row of sentences that each one stands behind
section J95
variable {dC : Nat → ClassId} {dI : Nat → Nat → Nat} {ca : Nat → ClassId} {G G1 : jT} {H : Heap} {us rw : Nat → List Int} {a : Nat}
/-- a row that is new tells nothing of the old ones -/
theorem jNS.nus {r : Nat} {l : List Int} (h : jNS dC dI G us rw H) (hn : ∀ t, G r ≠ some t) : jNS dC dI G (jUf us r l) rw H := fun a ha => by
  obtain ⟨y, k, av, p0, p1, g, hr⟩ := h a ha
  exact ⟨y, k, av, p0, p1, g, by rw [jUf_n _ _ (fun e => hn _ (by rw [← e]; exact g))]; exact hr⟩
end J95
section J96
variable {G : jT} {rw : Nat → List Int} {a b : Nat} {av bv : Value} {l m : List Int}
end J96
end
section
-- p8: the class: States and kept units as one entry; requests; ids
section J97
variable {dC : Nat → ClassId} {dI : Nat → Nat → Nat} {ca : Nat → ClassId} {G G1 : jT} {H : Heap} {r : Nat} {us rw : Nat → List Int}
/-- a new row of units -/
theorem jUN.row {y k : Nat} {f : Nat → Int32} (h : jUN dC dI ca G r us rw H) (hn : ∀ t, G y ≠ some t) (hv : va_at (dC, dI) vwCl (y, .inl (ca 1, k, .inl f)) H) : jUN dC dI ca (va_up G y (some (175, k))) r (jUf us y (jcL f k 0)) rw H := by
  refine ⟨h.1.typ hv, fun a ha => ?_⟩
  have hle : jLe G (va_up G y (some (175, k))) := jLe.typ hn
  have e : a ≠ y := fun e => by
    subst e
    have e1 := Option.some.inj (ha.symm.trans jUp_self)
    have e2 := congrArg Prod.fst e1
    simp at e2
  rw [va_up_ne _ _ e] at ha
  obtain ⟨y1, k1, av, p0, p1, g, hr⟩ := h.2.nus (r := y) (l := jcL f k 0) hn a ha
  exact ⟨y1, k1, av, p0, p1, hle _ _ g, hr.up hle⟩
end J97
-- requests: how many sentences are needed, the id, the document
section J98
variable {dC : Nat → ClassId} {dI : Nat → Nat → Nat} {ca : Nat → ClassId} {G G1 : jT} {H H1 : Heap} {x : Option Nat} {q : jRqG} {a : Nat} {nd : Int32} {iv ab : Value}
end J98
-- ids: Bytes of kind 17, their rows of kind 199
section J99
variable {dC : Nat → ClassId} {dI : Nat → Nat → Nat} {ca : Nat → ClassId} {G G1 : jT} {H H1 : Heap} {r xa xy xn : Nat} {ib : Nat → List Int}
theorem jI1.kp {a y : Nat} {l : List Int} (h : jI1 dC dI ca G a y l H) (h1 : H1[a]? = H[a]?) (h2 : H1[y]? = H[y]?) : jI1 dC dI ca G a y l H1 := by
  obtain ⟨m, c, f, p0, p1, g, c0, c1, v, e⟩ := h
  exact ⟨m, c, f, p0.kept h1, p1.kept h1, g, c0, c1, v.kept h2, e⟩
/-- its row is written -/
theorem jIX2.row {m : Nat} (h : jIX2 dC dI ca G r xa xy xn ib H) (hy : G xy = some (199, m)) (hfr : ∀ p, p ≠ xy → H1[p]? = H[p]?) : jIX2 dC dI ca G r xa xy xn ib H1 := by
  obtain ⟨Y, h1, h2⟩ := h
  exact ⟨Y, fun a hga hx => ⟨(h1 a hga hx).1.kp (hfr a (fun e => by rw [e, hy] at hga; cases hga)) (hfr _ (h1 a hga hx).2.1), (h1 a hga hx).2⟩, h2⟩
end J99
-- the State that stands ahead of all
end
section
-- p8: two States are compared: unit by unit, State by State
section J9A
variable {G : jT} {rw : Nat → List Int} {a b x y x1 y1 : Nat} {o p : Option Nat} {i i1 : Int} {av bv : Value} {l m : List Int}
theorem jnI.zz (h : jnQ G rw a av l) (ha : jnE (rw a)) (hb : jnE (rw b)) (hi : i = 0) : jnI rw a b (some a) (some b) i := by
  subst hi
  refine ⟨by omega, ⟨fun q => (by cases q), fun q => (by cases q)⟩, Iff.rfl, fun x hx => ?_, fun x hx => (by cases hx; exact hb)⟩
  cases hx
  have := h.2.1
  exact ⟨by omega, ha⟩
theorem jnI.rr (h : jnI rw a b (some x) (some y) i) (h1 : jnQ G rw x av l) (h2 : jnQ G rw y bv m) (e : l = m) (ha : av = .ref x1) (hb : bv = .ref y1) (hi : i1 = i + 1) : jnI rw a b (some x1) (some y1) i1 := by
  obtain ⟨c0, -, c1, c2, -⟩ := h
  have c3 := (c2 x rfl).1
  rcases jnQ.eq h1 h2 e with ⟨q, -, -⟩ | ⟨z, z1, q1, q2, -, -, q3, q4, -, q6, q7⟩
  · rw [ha] at q; cases q
  · rw [ha] at q1; cases q1
    rw [hb] at q2; cases q2
    refine ⟨by omega, ⟨fun q => (by cases q), fun q => (by cases q)⟩, c1.trans q3, fun x hx => ?_, fun x hx => (by cases hx; exact q7)⟩
    cases hx
    exact ⟨by omega, q6⟩
theorem jnI.rn (h1 : jnQ G rw x av l) (h2 : jnQ G rw y bv m) (e : l = m) (ha : av = .ref x1) (hb : bv = .null) : False := by
  rcases jnQ.eq h1 h2 e with ⟨q, -, -⟩ | ⟨z, z1, -, q1, -⟩
  · rw [ha] at q; cases q
  · rw [hb] at q1; cases q1
theorem jnI.ea (h : jnI rw a b (some x) p i) : jnE (rw x) := (h.2.2.2.1 x rfl).2
theorem jnI.eb (h : jnI rw a b o (some y) i) : jnE (rw y) := h.2.2.2.2 y rfl
end J9A
end
section
def EX9_isSameRowN : List (Nat × Nat) := []
set_option maxHeartbeats 4000000 in
set_option maxRecDepth 20000 in
theorem uX9_isSameRowN (l : Launch) (dC : Nat → ClassId) (dI : Nat → Nat → Nat) (ca : Nat → ClassId) (base : Nat) (B : jF) (hB : jBok B) (hAp : jAp (dC, dI)) (hB11 : ∀ n G a H, B 11 n G a H ↔ jOb (dC, dI) 11 9 (F11 n G) a H) (hB175 : ∀ n G a H, B 175 n G a H ↔ jAr (dC, dI) (ca 1) (fun j z => True) n a H) (G0 : jT) (H0 : Heap) (r0 : Nat) (r1 : Nat) (us : Nat → List Int) (rw : Nat → List Int) : Met l yX9_isSameRow (jw yX9_isSameRow cX9_isSameRow 6 (some .boolean)) ({ frames := 0, cells := 0, slots := 0, locals := 0 }) (va_Pc [.ref r0, .ref r1] (fun U => U.heap = H0 ∧ jX B base G0 [] H0 ∧ jG dC dI ca base U ∧ G0 r0 = some (11, 0) ∧ G0 r1 = some (11, 0) ∧ jP (dC, dI) G0 H0 [] ∧ jIs (dC, dI) G0 H0 [(jFun, jUN dC dI ca G0 0 us rw)] ∧ jnE (rw r0) ∧ jnE (rw r1))) (va_Qi (S := Unit) (fun r u => (r = 0 ∨ r = 1) ∧ (((r.toInt = 1 ∧ rw r0 = rw r1) ∨ (r.toInt = 0 ∧ ¬ rw r0 = rw r1)))) (fun u t => (jRt (dC, dI) B base G0 EX9_isSameRowN H0 [] t.heap) ∧ jIs (dC, dI) G0 t.heap [(jFun, jUN dC dI ca G0 0 us rw)]) (jA base)) 0 0 (jA base) := by
  refine Met.ofW (cc := cX9_isSameRow) (maxL := 6) (ret := (some .boolean)) (by decide) rfl ?_
  intro p e s m args below meth c s₁ Bd hml hv
  obtain ⟨rfl, hH0, hX, hG, hg_r0, hg_r1, hP0, hI0, hp0, hp1⟩ := hv
  have hK := hG.1
  have hx := Bd.exec
  have hb := Bd.bytes
  have hr := Bd.returns
  have hts := atoms_spec (ws := (jw yX9_isSameRow cX9_isSameRow 6 (some .boolean))) Bd.pre
  have htw : ∀ w ∈ jWl, w.before _ s = true := fun w h => hts w (List.mem_cons_of_mem _ h)
  have hown : s.vm.findClass RX9 = some m.cls := findClass_of_methodNamed Bd.named
  have hlocks := Bd.notSynchronized
  obtain ⟨Q, hQ⟩ : ∃ Q, Q = MQ below (va_Qi (S := Unit) (fun r u => (r = 0 ∨ r = 1) ∧ (((r.toInt = 1 ∧ rw r0 = rw r1) ∨ (r.toInt = 0 ∧ ¬ rw r0 = rw r1)))) (fun u t => (jRt (dC, dI) B base G0 EX9_isSameRowN H0 [] t.heap) ∧ jIs (dC, dI) G0 t.heap [(jFun, jUN dC dI ca G0 0 us rw)]) (jA base)) ([.ref r0, .ref r1] : List Value).toArray s 0 0 (jA base) := ⟨_, rfl⟩
  rw [← hQ]
  have hl := lv_entry ([.ref r0, .ref r1]) (n := 6) (Nat.le_of_ble_eq_true rfl)
  rw [lg_entry_eq]
  generalize (lg_sl ([.ref r0, .ref r1]) ++ List.replicate (6 - (lg_sl ([.ref r0, .ref r1])).length) Slot.unset).toArray = ls at hl ⊢
  have hl : lv_has ls 6 [(0, .ref r0), (1, .ref r1)] := hl
  generalize hR : (headSpec (jw yX9_isSameRow cX9_isSameRow 6 (some .boolean)) ({ frames := 0, cells := 0, slots := 0, locals := 0 })).room = R
  subst hH0
  have hh : jSt (dC, dI) B base G0 G0 EX9_isSameRowN s.heap 0 0 [] [] [(jFun, jUN dC dI ca G0 0 us rw)] s.heap [] := jSt.start hX hP0 jMc.nil hI0
  clear hX hP0
  have hk0 : (0 : Int32).toInt = 0 := by decide
  have hk1 : (1 : Int32).toInt = 1 := by decide
  have hk41 : (41 : Int32).toInt = 41 := by decide
  have hly_11_0 := htw (u_lay RX9 TX9 0) (jWc_wsX90 _ (u_in_lay (by decide)))
  have hly_11_1 := htw (u_lay RX9 TX9 1) (jWc_wsX90 _ (u_in_lay (by decide)))
  have hlk_40 := (htw (.fieldLink RX9 40 "ProofServer$State" "units" "[I") (jWr_9 _ (List.mem_of_getElem? (i := 2) rfl)))
  have hlk_36 := (htw (.fieldLink RX9 36 "ProofServer$State" "ahead" "LProofServer$State;") (jWr_9 _ (List.mem_of_getElem? (i := 1) rfl)))
  obtain ⟨v_2, hv_2, hh_3⟩ := hh.pin (C := RX9) (T := TX9) (N := 9) hB11 rfl (by decide) hg_r0 (i := 1) (by decide) rfl
  obtain ⟨units_4, nunits_4, rfl, hg_units_4, hn_units_4⟩ := hv_2
  obtain ⟨ny_1, nk_1, na_1, nf_1, hn0_1, hn1_1, hgy_1, hnv_1, hNR_1, hNU_1⟩ := jUN.at (r := 0) (hh_3.iv 0 rfl) hg_r0
  obtain rfl : units_4 = ny_1 := by have h9 := jf.uniq (hh_3.at 0 rfl) hn1_1; cases h9; rfl
  obtain rfl : nunits_4 = nk_1 := by have h9 := Option.some.inj (hg_units_4.symm.trans hgy_1); exact congrArg Prod.snd h9
  have hh_5 := (hh_3.more (P1 := [(r0, 11, 0, na_1)]) (jP.cons hg_r0 hn0_1 jP.nil)).moreM (M1 := [(units_4, 175, nunits_4, ca 1, nf_1)]) (fun q hq => by cases List.mem_singleton.mp hq; exact ⟨hg_units_4, (by show 18 ≤ 175; decide), (by show 175 < 1000; decide), hnv_1⟩)
  clear hh_3
  refine lv_aload_n hx hb dX9_isSameRow_0 rfl (lv_at hl 0 rfl) ?_
  refine lv_astore_n (lv' := [(2, .ref r0), (0, .ref r0), (1, .ref r1)]) hx hb dX9_isSameRow_1 rfl hl (by decide) rfl (fun ls hl => ?_)
  refine lv_aload_n hx hb dX9_isSameRow_2 rfl (lv_at hl 2 rfl) ?_
  refine lv_astore_n (lv' := [(3, .ref r1), (2, .ref r0), (0, .ref r0), (1, .ref r1)]) hx hb dX9_isSameRow_3 rfl hl (by decide) rfl (fun ls hl => ?_)
  refine lv_iconst (v := 0) hx hb dX9_isSameRow_4 (by decide) ?_
  refine lv_istore (lv' := [(4, .int 0), (3, .ref r1), (2, .ref r0), (0, .ref r0), (1, .ref r1)]) hx hb dX9_isSameRow_5 hl (by decide) rfl (fun ls hl => ?_)
  have L7 : ∀ (N : Nat) (v2_6 : Option Nat) (v3_6 : Option Nat) (v4_6 : Int32) (H_6 : Heap) (locs_6 : List Loc), jSt (dC, dI) B base G0 G0 EX9_isSameRowN s.heap 0 0 [(r0, 11, 0, na_1), (r0, 11, 1, .ref units_4)] [(units_4, 175, nunits_4, ca 1, nf_1)] [(jFun, jUN dC dI ca G0 0 us rw)] H_6 locs_6 → jQn 11 0 G0 v2_6 → jQn 11 0 G0 v3_6 → (0 ≤ v4_6.toInt ∧ v4_6.toInt ≤ 41 ∧ jnI rw r0 r1 v2_6 v3_6 v4_6.toInt) → (42 - v4_6.toInt : Int) < N → ∀ ls : Array Slot, lv_has ls 6 [(0, .ref r0), (1, .ref r1), (2, va_rf v2_6), (3, va_rf v3_6), (4, .int v4_6)] → W p l e R s m ([.ref r0, .ref r1] : List Value).toArray below meth c H_6 locs_6 0 0 Q (F0 m 7 ls []) := by
    intro N
    induction N with
    | zero => intro v2_6 v3_6 v4_6 H_6 locs_6 hh_6 hq_v2_6 hq_v3_6 hi_6 hm; exact absurd hm (by omega)
    | succ N L7 =>
      intro v2_6 v3_6 v4_6 H_6 locs_6 hh_6 hq_v2_6 hq_v3_6 hi_6 hm_6 ls hl
      obtain ⟨hi_6_0, hi_6_1, hi_6_2⟩ := hi_6
      rcases hq_v2_6 with rfl | ⟨nv_7, rfl, hg_nv_7⟩
      · have hl : lv_has ls 6 [(0, .ref r0), (1, .ref r1), (2, .null), (3, va_rf v3_6), (4, .int v4_6)] := hl
        rcases hq_v3_6 with rfl | ⟨nv_8, rfl, hg_nv_8⟩
        · have hl : lv_has ls 6 [(0, .ref r0), (1, .ref r1), (2, .null), (3, .null), (4, .int v4_6)] := hl
          refine lv_iload hx hb dX9_isSameRow_7 (lv_at hl 4 rfl) ?_
          refine lv_bipush (v := 41) hx hb dX9_isSameRow_9 (by decide) ?_
          refine lv_icmp_gt (tgt := 98) hx hb dX9_isSameRow_11 (by decide) (fun c_9 => ?_) (fun c_9 => ?_)
          · skip
            have c_9' : v4_6.toInt > 41 := jb_gt (rfl) ((by decide)) c_9
            refine lv_iconst (v := 0) hx hb dX9_isSameRow_98 (by decide) ?_
            rw [hQ]
            exact W.zret (v := 0) hx hb hr (jb_nz (Or.inl rfl)) (fun t ht hW => ⟨⟨0, (), rfl, ⟨(Or.inl rfl), (by omega : False).elim⟩, ⟨hh_6.rt (M1 := []) [] rfl ht, by rw [ht]; exact hh_6.2.2.2.2.2.2.2.2.sub (L1 := [(jFun, jUN dC dI ca G0 0 us rw)]) [0] rfl⟩⟩, by rw [ht]; try exact hh_6.1.1, fun q h9 hq => by rw [ht]; try exact hh_6.1.2.1 q h9 hq⟩) hh_6.1.2.2 dX9_isSameRow_99
          · skip
            have c_9' : v4_6.toInt ≤ 41 := jb_gt_n (rfl) ((by decide)) c_9
            refine j7_nld_n hx hb dX9_isSameRow_14 rfl (lv_at hl 2 rfl) ?_
            refine j7_nld_n hx hb dX9_isSameRow_15 rfl (lv_at hl 3 rfl) ?_
            refine lv_acmp_ne (rx := none) (ry := none) (tgt := 21) hx hb dX9_isSameRow_16 (by decide) (fun c_10 => ?_) (fun c_10 => ?_)
            · skip
              exact absurd rfl c_10
            · skip
              refine lv_iconst (v := 1) hx hb dX9_isSameRow_19 (by decide) ?_
              rw [hQ]
              exact W.zret (v := 1) hx hb hr (jb_nz (Or.inr rfl)) (fun t ht hW => ⟨⟨1, (), rfl, ⟨(Or.inr rfl), Or.inl ⟨hk1, hi_6_2.yes rfl⟩⟩, ⟨hh_6.rt (M1 := []) [] rfl ht, by rw [ht]; exact hh_6.2.2.2.2.2.2.2.2.sub (L1 := [(jFun, jUN dC dI ca G0 0 us rw)]) [0] rfl⟩⟩, by rw [ht]; try exact hh_6.1.1, fun q h9 hq => by rw [ht]; try exact hh_6.1.2.1 q h9 hq⟩) hh_6.1.2.2 dX9_isSameRow_20
        · have hl : lv_has ls 6 [(0, .ref r0), (1, .ref r1), (2, .null), (3, .ref nv_8), (4, .int v4_6)] := hl
          refine lv_iload hx hb dX9_isSameRow_7 (lv_at hl 4 rfl) ?_
          refine lv_bipush (v := 41) hx hb dX9_isSameRow_9 (by decide) ?_
          refine lv_icmp_gt (tgt := 98) hx hb dX9_isSameRow_11 (by decide) (fun c_11 => ?_) (fun c_11 => ?_)
          · skip
            have c_11' : v4_6.toInt > 41 := jb_gt (rfl) ((by decide)) c_11
            refine lv_iconst (v := 0) hx hb dX9_isSameRow_98 (by decide) ?_
            rw [hQ]
            exact W.zret (v := 0) hx hb hr (jb_nz (Or.inl rfl)) (fun t ht hW => ⟨⟨0, (), rfl, ⟨(Or.inl rfl), (by omega : False).elim⟩, ⟨hh_6.rt (M1 := []) [] rfl ht, by rw [ht]; exact hh_6.2.2.2.2.2.2.2.2.sub (L1 := [(jFun, jUN dC dI ca G0 0 us rw)]) [0] rfl⟩⟩, by rw [ht]; try exact hh_6.1.1, fun q h9 hq => by rw [ht]; try exact hh_6.1.2.1 q h9 hq⟩) hh_6.1.2.2 dX9_isSameRow_99
          · skip
            have c_11' : v4_6.toInt ≤ 41 := jb_gt_n (rfl) ((by decide)) c_11
            refine j7_nld_n hx hb dX9_isSameRow_14 rfl (lv_at hl 2 rfl) ?_
            refine lv_aload_n hx hb dX9_isSameRow_15 rfl (lv_at hl 3 rfl) ?_
            refine lv_acmp_ne (rx := none) (ry := (some nv_8)) (tgt := 21) hx hb dX9_isSameRow_16 (by decide) (fun c_12 => ?_) (fun c_12 => ?_)
            · skip
              refine j7_nld_n hx hb dX9_isSameRow_21 rfl (lv_at hl 2 rfl) ?_
              refine lv_ifnullN (tgt := 42) hx hb dX9_isSameRow_22 (by decide) ?_
              refine lv_iconst (v := 0) hx hb dX9_isSameRow_42 (by decide) ?_
              rw [hQ]
              exact W.zret (v := 0) hx hb hr (jb_nz (Or.inl rfl)) (fun t ht hW => ⟨⟨0, (), rfl, ⟨(Or.inl rfl), (by have h9 := hi_6_2.2.1; simp at h9 : False).elim⟩, ⟨hh_6.rt (M1 := []) [] rfl ht, by rw [ht]; exact hh_6.2.2.2.2.2.2.2.2.sub (L1 := [(jFun, jUN dC dI ca G0 0 us rw)]) [0] rfl⟩⟩, by rw [ht]; try exact hh_6.1.1, fun q h9 hq => by rw [ht]; try exact hh_6.1.2.1 q h9 hq⟩) hh_6.1.2.2 dX9_isSameRow_43
            · skip
              cases c_12
      · have hl : lv_has ls 6 [(0, .ref r0), (1, .ref r1), (2, .ref nv_7), (3, va_rf v3_6), (4, .int v4_6)] := hl
        rcases hq_v3_6 with rfl | ⟨nv_13, rfl, hg_nv_13⟩
        · have hl : lv_has ls 6 [(0, .ref r0), (1, .ref r1), (2, .ref nv_7), (3, .null), (4, .int v4_6)] := hl
          refine lv_iload hx hb dX9_isSameRow_7 (lv_at hl 4 rfl) ?_
          refine lv_bipush (v := 41) hx hb dX9_isSameRow_9 (by decide) ?_
          refine lv_icmp_gt (tgt := 98) hx hb dX9_isSameRow_11 (by decide) (fun c_14 => ?_) (fun c_14 => ?_)
          · skip
            have c_14' : v4_6.toInt > 41 := jb_gt (rfl) ((by decide)) c_14
            refine lv_iconst (v := 0) hx hb dX9_isSameRow_98 (by decide) ?_
            rw [hQ]
            exact W.zret (v := 0) hx hb hr (jb_nz (Or.inl rfl)) (fun t ht hW => ⟨⟨0, (), rfl, ⟨(Or.inl rfl), (by omega : False).elim⟩, ⟨hh_6.rt (M1 := []) [] rfl ht, by rw [ht]; exact hh_6.2.2.2.2.2.2.2.2.sub (L1 := [(jFun, jUN dC dI ca G0 0 us rw)]) [0] rfl⟩⟩, by rw [ht]; try exact hh_6.1.1, fun q h9 hq => by rw [ht]; try exact hh_6.1.2.1 q h9 hq⟩) hh_6.1.2.2 dX9_isSameRow_99
          · skip
            have c_14' : v4_6.toInt ≤ 41 := jb_gt_n (rfl) ((by decide)) c_14
            refine lv_aload_n hx hb dX9_isSameRow_14 rfl (lv_at hl 2 rfl) ?_
            refine j7_nld_n hx hb dX9_isSameRow_15 rfl (lv_at hl 3 rfl) ?_
            refine lv_acmp_ne (rx := (some nv_7)) (ry := none) (tgt := 21) hx hb dX9_isSameRow_16 (by decide) (fun c_15 => ?_) (fun c_15 => ?_)
            · skip
              refine lv_aload_n hx hb dX9_isSameRow_21 rfl (lv_at hl 2 rfl) ?_
              refine lv_ifnull hx hb dX9_isSameRow_22 ?_
              refine j7_nld_n hx hb dX9_isSameRow_25 rfl (lv_at hl 3 rfl) ?_
              refine lv_ifnullN (tgt := 42) hx hb dX9_isSameRow_26 (by decide) ?_
              refine lv_iconst (v := 0) hx hb dX9_isSameRow_42 (by decide) ?_
              rw [hQ]
              exact W.zret (v := 0) hx hb hr (jb_nz (Or.inl rfl)) (fun t ht hW => ⟨⟨0, (), rfl, ⟨(Or.inl rfl), (by have h9 := hi_6_2.2.1; simp at h9 : False).elim⟩, ⟨hh_6.rt (M1 := []) [] rfl ht, by rw [ht]; exact hh_6.2.2.2.2.2.2.2.2.sub (L1 := [(jFun, jUN dC dI ca G0 0 us rw)]) [0] rfl⟩⟩, by rw [ht]; try exact hh_6.1.1, fun q h9 hq => by rw [ht]; try exact hh_6.1.2.1 q h9 hq⟩) hh_6.1.2.2 dX9_isSameRow_43
            · skip
              cases c_15
        · have hl : lv_has ls 6 [(0, .ref r0), (1, .ref r1), (2, .ref nv_7), (3, .ref nv_13), (4, .int v4_6)] := hl
          refine lv_iload hx hb dX9_isSameRow_7 (lv_at hl 4 rfl) ?_
          refine lv_bipush (v := 41) hx hb dX9_isSameRow_9 (by decide) ?_
          refine lv_icmp_gt (tgt := 98) hx hb dX9_isSameRow_11 (by decide) (fun c_16 => ?_) (fun c_16 => ?_)
          · skip
            have c_16' : v4_6.toInt > 41 := jb_gt (rfl) ((by decide)) c_16
            refine lv_iconst (v := 0) hx hb dX9_isSameRow_98 (by decide) ?_
            rw [hQ]
            exact W.zret (v := 0) hx hb hr (jb_nz (Or.inl rfl)) (fun t ht hW => ⟨⟨0, (), rfl, ⟨(Or.inl rfl), (by omega : False).elim⟩, ⟨hh_6.rt (M1 := []) [] rfl ht, by rw [ht]; exact hh_6.2.2.2.2.2.2.2.2.sub (L1 := [(jFun, jUN dC dI ca G0 0 us rw)]) [0] rfl⟩⟩, by rw [ht]; try exact hh_6.1.1, fun q h9 hq => by rw [ht]; try exact hh_6.1.2.1 q h9 hq⟩) hh_6.1.2.2 dX9_isSameRow_99
          · skip
            have c_16' : v4_6.toInt ≤ 41 := jb_gt_n (rfl) ((by decide)) c_16
            refine lv_aload_n hx hb dX9_isSameRow_14 rfl (lv_at hl 2 rfl) ?_
            refine lv_aload_n hx hb dX9_isSameRow_15 rfl (lv_at hl 3 rfl) ?_
            refine lv_acmp_ne (rx := (some nv_7)) (ry := (some nv_13)) (tgt := 21) hx hb dX9_isSameRow_16 (by decide) (fun c_17 => ?_) (fun c_17 => ?_)
            · skip
              refine lv_aload_n hx hb dX9_isSameRow_21 rfl (lv_at hl 2 rfl) ?_
              refine lv_ifnull hx hb dX9_isSameRow_22 ?_
              refine lv_aload_n hx hb dX9_isSameRow_25 rfl (lv_at hl 3 rfl) ?_
              refine lv_ifnull hx hb dX9_isSameRow_26 ?_
              obtain ⟨v_19, hv_19, hh_20⟩ := hh_6.pin (C := RX9) (T := TX9) (N := 9) hB11 rfl (by decide) hg_nv_7 (i := 1) (by decide) rfl
              obtain ⟨units_21, nunits_21, rfl, hg_units_21, hn_units_21⟩ := hv_19
              obtain ⟨ny_18, nk_18, na_18, nf_18, hn0_18, hn1_18, hgy_18, hnv_18, hNR_18, hNU_18⟩ := jUN.at (r := 0) (hh_20.iv 0 rfl) hg_nv_7
              obtain rfl : units_21 = ny_18 := by have h9 := jf.uniq (hh_20.at 0 rfl) hn1_18; cases h9; rfl
              obtain rfl : nunits_21 = nk_18 := by have h9 := Option.some.inj (hg_units_21.symm.trans hgy_18); exact congrArg Prod.snd h9
              have hh_22 := (hh_20.more (P1 := [(nv_7, 11, 0, na_18)]) (jP.cons hg_nv_7 hn0_18 jP.nil)).moreM (M1 := [(units_21, 175, nunits_21, ca 1, nf_18)]) (fun q hq => by cases List.mem_singleton.mp hq; exact ⟨hg_units_21, (by show 18 ≤ 175; decide), (by show 175 < 1000; decide), hnv_18⟩)
              clear hh_20
              obtain ⟨v_24, hv_24, hh_25⟩ := hh_22.pin (C := RX9) (T := TX9) (N := 9) hB11 rfl (by decide) hg_nv_13 (i := 1) (by decide) rfl
              obtain ⟨units_26, nunits_26, rfl, hg_units_26, hn_units_26⟩ := hv_24
              obtain ⟨ny_23, nk_23, na_23, nf_23, hn0_23, hn1_23, hgy_23, hnv_23, hNR_23, hNU_23⟩ := jUN.at (r := 0) (hh_25.iv 0 rfl) hg_nv_13
              obtain rfl : units_26 = ny_23 := by have h9 := jf.uniq (hh_25.at 0 rfl) hn1_23; cases h9; rfl
              obtain rfl : nunits_26 = nk_23 := by have h9 := Option.some.inj (hg_units_26.symm.trans hgy_23); exact congrArg Prod.snd h9
              have hh_27 := (hh_25.more (P1 := [(nv_13, 11, 0, na_23)]) (jP.cons hg_nv_13 hn0_23 jP.nil)).moreM (M1 := [(units_26, 175, nunits_26, ca 1, nf_23)]) (fun q hq => by cases List.mem_singleton.mp hq; exact ⟨hg_units_26, (by show 18 ≤ 175; decide), (by show 175 < 1000; decide), hnv_23⟩)
              clear hh_25
              refine lv_aload_n hx hb dX9_isSameRow_29 rfl (lv_at hl 2 rfl) ?_
              refine j7_read hx hb hown hK (C := RX9) (T := TX9) (N := 9) rfl hly_11_1 hlk_40 (hh_27.at 3 rfl) dX9_isSameRow_30 ?_
              refine j7_len hx hb hK hh_27 hB175 1 rfl (by decide) hg_units_21 (by omega) dX9_isSameRow_33 (fun z_28 hz_28 => ?_)
              refine lv_aload_n hx hb dX9_isSameRow_34 rfl (lv_at hl 3 rfl) ?_
              refine j7_read hx hb hown hK (C := RX9) (T := TX9) (N := 9) rfl hly_11_1 hlk_40 (hh_27.at 1 rfl) dX9_isSameRow_35 ?_
              refine j7_len hx hb hK hh_27 hB175 1 rfl (by decide) hg_units_26 (by omega) dX9_isSameRow_38 (fun z_29 hz_29 => ?_)
              refine lv_icmp_eq (tgt := 44) hx hb dX9_isSameRow_39 (by decide) (fun c_30 => ?_) (fun c_30 => ?_)
              · skip
                have c_30' : z_28.toInt = z_29.toInt := jb_eq (rfl) (rfl) c_30
                refine lv_iconst (v := 0) hx hb dX9_isSameRow_44 (by decide) ?_
                refine lv_istore (lv' := [(5, .int 0), (0, .ref r0), (1, .ref r1), (2, .ref nv_7), (3, .ref nv_13), (4, .int v4_6)]) hx hb dX9_isSameRow_45 hl (by decide) rfl (fun ls hl => ?_)
                have L47 : ∀ (N : Nat) (v5_31 : Int32) (H_31 : Heap) (locs_31 : List Loc), jSt (dC, dI) B base G0 G0 EX9_isSameRowN s.heap 0 0 [(nv_13, 11, 0, na_23), (nv_13, 11, 1, .ref units_26), (nv_7, 11, 0, na_18), (nv_7, 11, 1, .ref units_21), (r0, 11, 0, na_1), (r0, 11, 1, .ref units_4)] [(units_26, 175, nunits_26, ca 1, nf_23), (units_21, 175, nunits_21, ca 1, nf_18), (units_4, 175, nunits_4, ca 1, nf_1)] [(jFun, jUN dC dI ca G0 0 us rw)] H_31 locs_31 → (0 ≤ v5_31.toInt ∧ v5_31.toInt ≤ 1500 ∧ (∀ i : Nat, (i : Int) < v5_31.toInt → (nf_18 i).toInt = (nf_23 i).toInt)) → (1501 - v5_31.toInt : Int) < N → ∀ ls : Array Slot, lv_has ls 6 [(0, .ref r0), (1, .ref r1), (2, .ref nv_7), (3, .ref nv_13), (4, .int v4_6), (5, .int v5_31)] → W p l e R s m ([.ref r0, .ref r1] : List Value).toArray below meth c H_31 locs_31 0 0 Q (F0 m 47 ls []) := by
                  intro N
                  induction N with
                  | zero => intro v5_31 H_31 locs_31 hh_31  hi_31 hm; exact absurd hm (by omega)
                  | succ N L47 =>
                    intro v5_31 H_31 locs_31 hh_31  hi_31 hm_31 ls hl
                    obtain ⟨hi_31_0, hi_31_1, hi_31_2⟩ := hi_31
                    refine lv_iload hx hb dX9_isSameRow_47 (lv_at hl 5 rfl) ?_
                    refine lv_aload_n hx hb dX9_isSameRow_49 rfl (lv_at hl 2 rfl) ?_
                    refine j7_read hx hb hown hK (C := RX9) (T := TX9) (N := 9) rfl hly_11_1 hlk_40 (hh_31.at 3 rfl) dX9_isSameRow_50 ?_
                    refine j7_len hx hb hK hh_31 hB175 1 rfl (by decide) hg_units_21 (by omega) dX9_isSameRow_53 (fun z_32 hz_32 => ?_)
                    refine lv_icmp_ge (tgt := 82) hx hb dX9_isSameRow_54 (by decide) (fun c_33 => ?_) (fun c_33 => ?_)
                    · skip
                      have c_33' : v5_31.toInt ≥ z_32.toInt := jb_ge (rfl) (rfl) c_33
                      refine lv_aload_n hx hb dX9_isSameRow_82 rfl (lv_at hl 2 rfl) ?_
                      have hwf_34 := hh_31.at 2 rfl
                      have hh_35 := hh_31.sub (L1 := [(nv_13, 11, 0, na_23), (nv_13, 11, 1, .ref units_26), (nv_7, 11, 1, .ref units_21), (r0, 11, 0, na_1), (r0, 11, 1, .ref units_4)]) [0, 1, 3, 4, 5] rfl (M1 := [(units_26, 175, nunits_26, ca 1, nf_23), (units_21, 175, nunits_21, ca 1, nf_18), (units_4, 175, nunits_4, ca 1, nf_1)]) [0, 1, 2] rfl (I1 := [(jFun, jUN dC dI ca G0 0 us rw)]) [0] rfl
                      clear hh_31
                      obtain ⟨v_36, hv_36, hh_37⟩ := hh_35.pin (C := RX9) (T := TX9) (N := 9) hB11 rfl (by decide) hg_nv_7 (i := 0) (by decide) rfl
                      clear hh_35
                      have hwe83 : na_18 = v_36 := jf.uniq hwf_34 (hh_37.at 0 rfl)
                      clear hwf_34
                      rcases hv_36 with rfl | ⟨ahead_38, rfl, hg_ahead_38⟩
                      · refine j7_read hx hb hown hK (C := RX9) (T := TX9) (N := 9) rfl hly_11_0 hlk_36 (hh_37.at 0 rfl) dX9_isSameRow_83 ?_
                        refine j7_nst_n (lv' := [(2, .null), (0, .ref r0), (1, .ref r1), (3, .ref nv_13), (4, .int v4_6), (5, .int v5_31)]) hx hb dX9_isSameRow_86 rfl hl (by decide) rfl (fun ls hl => ?_)
                        refine lv_aload_n hx hb dX9_isSameRow_87 rfl (lv_at hl 3 rfl) ?_
                        have hwf_39 := hh_37.at 1 rfl
                        have hh_40 := hh_37.sub (L1 := [(nv_7, 11, 0, .null), (nv_13, 11, 1, .ref units_26), (nv_7, 11, 1, .ref units_21), (r0, 11, 0, na_1), (r0, 11, 1, .ref units_4)]) [0, 2, 3, 4, 5] rfl (M1 := [(units_26, 175, nunits_26, ca 1, nf_23), (units_21, 175, nunits_21, ca 1, nf_18), (units_4, 175, nunits_4, ca 1, nf_1)]) [0, 1, 2] rfl (I1 := [(jFun, jUN dC dI ca G0 0 us rw)]) [0] rfl
                        clear hh_37
                        obtain ⟨v_41, hv_41, hh_42⟩ := hh_40.pin (C := RX9) (T := TX9) (N := 9) hB11 rfl (by decide) hg_nv_13 (i := 0) (by decide) rfl
                        clear hh_40
                        have hwe88 : na_23 = v_41 := jf.uniq hwf_39 (hh_42.at 0 rfl)
                        clear hwf_39
                        rcases hv_41 with rfl | ⟨ahead_43, rfl, hg_ahead_43⟩
                        · refine j7_read hx hb hown hK (C := RX9) (T := TX9) (N := 9) rfl hly_11_0 hlk_36 (hh_42.at 0 rfl) dX9_isSameRow_88 ?_
                          refine j7_nst_n (lv' := [(3, .null), (2, .null), (0, .ref r0), (1, .ref r1), (4, .int v4_6), (5, .int v5_31)]) hx hb dX9_isSameRow_91 rfl hl (by decide) rfl (fun ls hl => ?_)
                          obtain ⟨z_44, ez_44⟩ : ∃ y : Int32, y = v4_6 + 1 := ⟨_, rfl⟩
                          refine lv_iinc (v := z_44) (lv' := [(4, .int z_44), (3, .null), (2, .null), (0, .ref r0), (1, .ref r1), (5, .int v5_31)]) hx hb dX9_isSameRow_92 hl (k := 4) rfl (by rw [ez_44]; rfl) (by decide) rfl (fun ls hl => ?_)
                          have hz_44 : z_44.toInt = v4_6.toInt + 1 := by rw [ez_44]; exact jb_iadd2 (rfl) (by decide) (by omega)
                          refine lv_goto (tgt := 7) hx hb dX9_isSameRow_95 (by decide) ?_
                          exact L7 none none z_44 _ _ (hh_42.sub (L1 := [(r0, 11, 0, na_1), (r0, 11, 1, .ref units_4)]) [4, 5] rfl (M1 := [(units_4, 175, nunits_4, ca 1, nf_1)]) [2] rfl (I1 := [(jFun, jUN dC dI ca G0 0 us rw)]) [0] rfl) (Or.inl rfl) (Or.inl rfl) (by have h9 := hi_6_2.nn (hNR_18 hi_6_2.ea) (hNR_23 hi_6_2.eb) (hNU_18.trans ((jnU.eq hi_31_2 (by have h9 := hz_32; omega) (by have h9 := hz_28; have h8 := hz_29; omega)).trans hNU_23.symm)) hwe83 hwe88 (i1 := (z_44).toInt) (by omega); exact ⟨by omega, h9.1, h9⟩) (by omega) _ (lv_sub hl [3, 4, 2, 1, 0] rfl)
                        · refine j7_read hx hb hown hK (C := RX9) (T := TX9) (N := 9) rfl hly_11_0 hlk_36 (hh_42.at 0 rfl) dX9_isSameRow_88 ?_
                          refine lv_astore_n (lv' := [(3, .ref ahead_43), (2, .null), (0, .ref r0), (1, .ref r1), (4, .int v4_6), (5, .int v5_31)]) hx hb dX9_isSameRow_91 rfl hl (by decide) rfl (fun ls hl => ?_)
                          obtain ⟨z_45, ez_45⟩ : ∃ y : Int32, y = v4_6 + 1 := ⟨_, rfl⟩
                          refine lv_iinc (v := z_45) (lv' := [(4, .int z_45), (3, .ref ahead_43), (2, .null), (0, .ref r0), (1, .ref r1), (5, .int v5_31)]) hx hb dX9_isSameRow_92 hl (k := 4) rfl (by rw [ez_45]; rfl) (by decide) rfl (fun ls hl => ?_)
                          have hz_45 : z_45.toInt = v4_6.toInt + 1 := by rw [ez_45]; exact jb_iadd2 (rfl) (by decide) (by omega)
                          refine lv_goto (tgt := 7) hx hb dX9_isSameRow_95 (by decide) ?_
                          exact L7 none (some ahead_43) z_45 _ _ (hh_42.sub (L1 := [(r0, 11, 0, na_1), (r0, 11, 1, .ref units_4)]) [4, 5] rfl (M1 := [(units_4, 175, nunits_4, ca 1, nf_1)]) [2] rfl (I1 := [(jFun, jUN dC dI ca G0 0 us rw)]) [0] rfl) (Or.inl rfl) (Or.inr ⟨_, rfl, hg_ahead_43⟩) ((jnI.nr (hNR_18 hi_6_2.ea) (hNR_23 hi_6_2.eb) (hNU_18.trans ((jnU.eq hi_31_2 (by have h9 := hz_32; omega) (by have h9 := hz_28; have h8 := hz_29; omega)).trans hNU_23.symm)) hwe83 hwe88).elim) (by omega) _ (lv_sub hl [3, 4, 2, 1, 0] rfl)
                      · refine j7_read hx hb hown hK (C := RX9) (T := TX9) (N := 9) rfl hly_11_0 hlk_36 (hh_37.at 0 rfl) dX9_isSameRow_83 ?_
                        refine lv_astore_n (lv' := [(2, .ref ahead_38), (0, .ref r0), (1, .ref r1), (3, .ref nv_13), (4, .int v4_6), (5, .int v5_31)]) hx hb dX9_isSameRow_86 rfl hl (by decide) rfl (fun ls hl => ?_)
                        refine lv_aload_n hx hb dX9_isSameRow_87 rfl (lv_at hl 3 rfl) ?_
                        have hwf_46 := hh_37.at 1 rfl
                        have hh_47 := hh_37.sub (L1 := [(nv_7, 11, 0, .ref ahead_38), (nv_13, 11, 1, .ref units_26), (nv_7, 11, 1, .ref units_21), (r0, 11, 0, na_1), (r0, 11, 1, .ref units_4)]) [0, 2, 3, 4, 5] rfl (M1 := [(units_26, 175, nunits_26, ca 1, nf_23), (units_21, 175, nunits_21, ca 1, nf_18), (units_4, 175, nunits_4, ca 1, nf_1)]) [0, 1, 2] rfl (I1 := [(jFun, jUN dC dI ca G0 0 us rw)]) [0] rfl
                        clear hh_37
                        obtain ⟨v_48, hv_48, hh_49⟩ := hh_47.pin (C := RX9) (T := TX9) (N := 9) hB11 rfl (by decide) hg_nv_13 (i := 0) (by decide) rfl
                        clear hh_47
                        have hwe88 : na_23 = v_48 := jf.uniq hwf_46 (hh_49.at 0 rfl)
                        clear hwf_46
                        rcases hv_48 with rfl | ⟨ahead_50, rfl, hg_ahead_50⟩
                        · refine j7_read hx hb hown hK (C := RX9) (T := TX9) (N := 9) rfl hly_11_0 hlk_36 (hh_49.at 0 rfl) dX9_isSameRow_88 ?_
                          refine j7_nst_n (lv' := [(3, .null), (2, .ref ahead_38), (0, .ref r0), (1, .ref r1), (4, .int v4_6), (5, .int v5_31)]) hx hb dX9_isSameRow_91 rfl hl (by decide) rfl (fun ls hl => ?_)
                          obtain ⟨z_51, ez_51⟩ : ∃ y : Int32, y = v4_6 + 1 := ⟨_, rfl⟩
                          refine lv_iinc (v := z_51) (lv' := [(4, .int z_51), (3, .null), (2, .ref ahead_38), (0, .ref r0), (1, .ref r1), (5, .int v5_31)]) hx hb dX9_isSameRow_92 hl (k := 4) rfl (by rw [ez_51]; rfl) (by decide) rfl (fun ls hl => ?_)
                          have hz_51 : z_51.toInt = v4_6.toInt + 1 := by rw [ez_51]; exact jb_iadd2 (rfl) (by decide) (by omega)
                          refine lv_goto (tgt := 7) hx hb dX9_isSameRow_95 (by decide) ?_
                          exact L7 (some ahead_38) none z_51 _ _ (hh_49.sub (L1 := [(r0, 11, 0, na_1), (r0, 11, 1, .ref units_4)]) [4, 5] rfl (M1 := [(units_4, 175, nunits_4, ca 1, nf_1)]) [2] rfl (I1 := [(jFun, jUN dC dI ca G0 0 us rw)]) [0] rfl) (Or.inr ⟨_, rfl, hg_ahead_38⟩) (Or.inl rfl) ((jnI.rn (hNR_18 hi_6_2.ea) (hNR_23 hi_6_2.eb) (hNU_18.trans ((jnU.eq hi_31_2 (by have h9 := hz_32; omega) (by have h9 := hz_28; have h8 := hz_29; omega)).trans hNU_23.symm)) hwe83 hwe88).elim) (by omega) _ (lv_sub hl [3, 4, 2, 1, 0] rfl)
                        · refine j7_read hx hb hown hK (C := RX9) (T := TX9) (N := 9) rfl hly_11_0 hlk_36 (hh_49.at 0 rfl) dX9_isSameRow_88 ?_
                          refine lv_astore_n (lv' := [(3, .ref ahead_50), (2, .ref ahead_38), (0, .ref r0), (1, .ref r1), (4, .int v4_6), (5, .int v5_31)]) hx hb dX9_isSameRow_91 rfl hl (by decide) rfl (fun ls hl => ?_)
                          obtain ⟨z_52, ez_52⟩ : ∃ y : Int32, y = v4_6 + 1 := ⟨_, rfl⟩
                          refine lv_iinc (v := z_52) (lv' := [(4, .int z_52), (3, .ref ahead_50), (2, .ref ahead_38), (0, .ref r0), (1, .ref r1), (5, .int v5_31)]) hx hb dX9_isSameRow_92 hl (k := 4) rfl (by rw [ez_52]; rfl) (by decide) rfl (fun ls hl => ?_)
                          have hz_52 : z_52.toInt = v4_6.toInt + 1 := by rw [ez_52]; exact jb_iadd2 (rfl) (by decide) (by omega)
                          refine lv_goto (tgt := 7) hx hb dX9_isSameRow_95 (by decide) ?_
                          exact L7 (some ahead_38) (some ahead_50) z_52 _ _ (hh_49.sub (L1 := [(r0, 11, 0, na_1), (r0, 11, 1, .ref units_4)]) [4, 5] rfl (M1 := [(units_4, 175, nunits_4, ca 1, nf_1)]) [2] rfl (I1 := [(jFun, jUN dC dI ca G0 0 us rw)]) [0] rfl) (Or.inr ⟨_, rfl, hg_ahead_38⟩) (Or.inr ⟨_, rfl, hg_ahead_50⟩) (by have h9 := hi_6_2.rr (hNR_18 hi_6_2.ea) (hNR_23 hi_6_2.eb) (hNU_18.trans ((jnU.eq hi_31_2 (by have h9 := hz_32; omega) (by have h9 := hz_28; have h8 := hz_29; omega)).trans hNU_23.symm)) hwe83 hwe88 (i1 := (z_52).toInt) (by omega); exact ⟨by omega, h9.1, h9⟩) (by omega) _ (lv_sub hl [3, 4, 2, 1, 0] rfl)
                    · skip
                      have c_33' : v5_31.toInt < z_32.toInt := jb_ge_n (rfl) (rfl) c_33
                      refine lv_aload_n hx hb dX9_isSameRow_57 rfl (lv_at hl 2 rfl) ?_
                      refine j7_read hx hb hown hK (C := RX9) (T := TX9) (N := 9) rfl hly_11_1 hlk_40 (hh_31.at 3 rfl) dX9_isSameRow_58 ?_
                      refine lv_iload hx hb dX9_isSameRow_61 (lv_at hl 5 rfl) ?_
                      refine j7_ialdM hx hb hK hh_31 hB175 1 rfl (by decide) hg_units_21 (x := v5_31.toInt) (rfl) (by omega) (j := 1) rfl dX9_isSameRow_63 (fun z_53 ez_53 (hz_53 : True) => ?_)
                      have hqz_53 : z_53.toInt = jSo nf_18 (v5_31.toInt) := by unfold jSo; rw [ez_53]
                      refine lv_aload_n hx hb dX9_isSameRow_64 rfl (lv_at hl 3 rfl) ?_
                      refine j7_read hx hb hown hK (C := RX9) (T := TX9) (N := 9) rfl hly_11_1 hlk_40 (hh_31.at 1 rfl) dX9_isSameRow_65 ?_
                      refine lv_iload hx hb dX9_isSameRow_68 (lv_at hl 5 rfl) ?_
                      refine j7_ialdM hx hb hK hh_31 hB175 1 rfl (by decide) hg_units_26 (x := v5_31.toInt) (rfl) (by omega) (j := 0) rfl dX9_isSameRow_70 (fun z_54 ez_54 (hz_54 : True) => ?_)
                      have hqz_54 : z_54.toInt = jSo nf_23 (v5_31.toInt) := by unfold jSo; rw [ez_54]
                      refine lv_icmp_eq (tgt := 76) hx hb dX9_isSameRow_71 (by decide) (fun c_55 => ?_) (fun c_55 => ?_)
                      · skip
                        have c_55' : z_53.toInt = z_54.toInt := jb_eq (rfl) (rfl) c_55
                        obtain ⟨z_56, ez_56⟩ : ∃ y : Int32, y = v5_31 + 1 := ⟨_, rfl⟩
                        refine lv_iinc (v := z_56) (lv' := [(5, .int z_56), (0, .ref r0), (1, .ref r1), (2, .ref nv_7), (3, .ref nv_13), (4, .int v4_6)]) hx hb dX9_isSameRow_76 hl (k := 5) rfl (by rw [ez_56]; rfl) (by decide) rfl (fun ls hl => ?_)
                        have hz_56 : z_56.toInt = v5_31.toInt + 1 := by rw [ez_56]; exact jb_iadd2 (rfl) (by decide) (by omega)
                        refine lv_goto (tgt := 47) hx hb dX9_isSameRow_79 (by decide) ?_
                        exact L47 z_56 _ _ hh_31 (⟨by omega, by omega, jnU.st hi_31_2 (by omega) hqz_53 hqz_54 (by omega) (by omega)⟩) (by omega) _ (lv_sub hl [1, 2, 3, 4, 5, 0] rfl)
                      · skip
                        have c_55' : z_53.toInt ≠ z_54.toInt := jb_eq_n (rfl) (rfl) c_55
                        refine lv_iconst (v := 0) hx hb dX9_isSameRow_74 (by decide) ?_
                        rw [hQ]
                        exact W.zret (v := 0) hx hb hr (jb_nz (Or.inl rfl)) (fun t ht hW => ⟨⟨0, (), rfl, ⟨(Or.inl rfl), Or.inr ⟨hk0, hi_6_2.no (hNR_18 hi_6_2.ea) (hNR_23 hi_6_2.eb) (by rw [hNU_18, hNU_23]; exact jnU.ne (i := v5_31.toInt) (by omega) (by have h9 := hz_32; omega) (by have h9 := hz_28; have h8 := hz_29; omega) (by rw [← hqz_53, ← hqz_54]; omega))⟩⟩, ⟨hh_31.rt (M1 := []) [] rfl ht, by rw [ht]; exact hh_31.2.2.2.2.2.2.2.2.sub (L1 := [(jFun, jUN dC dI ca G0 0 us rw)]) [0] rfl⟩⟩, by rw [ht]; try exact hh_31.1.1, fun q h9 hq => by rw [ht]; try exact hh_31.1.2.1 q h9 hq⟩) hh_31.1.2.2 dX9_isSameRow_75
                exact L47 (1501 - (0 : Int32).toInt : Int).toNat.succ 0 _ _ hh_27 (⟨by omega, by omega, fun i hi => by have h9 := hk0; omega⟩) (by omega) _ (lv_sub hl [1, 2, 3, 4, 5, 0] rfl)
              · skip
                have c_30' : z_28.toInt ≠ z_29.toInt := jb_eq_n (rfl) (rfl) c_30
                refine lv_iconst (v := 0) hx hb dX9_isSameRow_42 (by decide) ?_
                rw [hQ]
                exact W.zret (v := 0) hx hb hr (jb_nz (Or.inl rfl)) (fun t ht hW => ⟨⟨0, (), rfl, ⟨(Or.inl rfl), Or.inr ⟨hk0, hi_6_2.no (hNR_18 hi_6_2.ea) (hNR_23 hi_6_2.eb) (by rw [hNU_18, hNU_23]; exact jnU.ln (by have h9 := hz_28; have h8 := hz_29; omega))⟩⟩, ⟨hh_27.rt (M1 := []) [] rfl ht, by rw [ht]; exact hh_27.2.2.2.2.2.2.2.2.sub (L1 := [(jFun, jUN dC dI ca G0 0 us rw)]) [0] rfl⟩⟩, by rw [ht]; try exact hh_27.1.1, fun q h9 hq => by rw [ht]; try exact hh_27.1.2.1 q h9 hq⟩) hh_27.1.2.2 dX9_isSameRow_43
            · skip
              refine lv_iconst (v := 1) hx hb dX9_isSameRow_19 (by decide) ?_
              rw [hQ]
              exact W.zret (v := 1) hx hb hr (jb_nz (Or.inr rfl)) (fun t ht hW => ⟨⟨1, (), rfl, ⟨(Or.inr rfl), Or.inl ⟨hk1, hi_6_2.yes c_17⟩⟩, ⟨hh_6.rt (M1 := []) [] rfl ht, by rw [ht]; exact hh_6.2.2.2.2.2.2.2.2.sub (L1 := [(jFun, jUN dC dI ca G0 0 us rw)]) [0] rfl⟩⟩, by rw [ht]; try exact hh_6.1.1, fun q h9 hq => by rw [ht]; try exact hh_6.1.2.1 q h9 hq⟩) hh_6.1.2.2 dX9_isSameRow_20
  exact L7 (42 - (0 : Int32).toInt : Int).toNat.succ (some r0) (some r1) 0 _ _ hh_5 (Or.inr ⟨_, rfl, hg_r0⟩) (Or.inr ⟨_, rfl, hg_r1⟩) (⟨by omega, by omega, jnI.zz (hNR_1 hp0) hp0 hp1 (by omega)⟩) (by omega) _ (lv_sub hl [3, 4, 2, 1, 0] rfl)
end
section
def EX1_isSentenceT : List (Nat × Nat) := []
def EX1_stateBehindT : List (Nat × Nat) := []
set_option maxHeartbeats 4000000 in
set_option maxRecDepth 20000 in
theorem uX1_isSentenceT (l : Launch) (dC : Nat → ClassId) (dI : Nat → Nat → Nat) (ca : Nat → ClassId) (base : Nat) (B : jF) (hB : jBok B) (hAp : jAp (dC, dI)) (hB3 : ∀ n G a H, B 3 n G a H ↔ jOb (dC, dI) 3 17 (F3 n G) a H) (hB171 : ∀ n G a H, B 171 n G a H ↔ jAr (dC, dI) (ca 1) (fun j z => 0 ≤ z.toInt ∧ z.toInt ≤ 1500) n a H) (hB172 : ∀ n G a H, B 172 n G a H ↔ jAr (dC, dI) (ca 1) (fun j z => 0 ≤ z.toInt ∧ z.toInt ≤ 1500) n a H) (hB173 : ∀ n G a H, B 173 n G a H ↔ jAr (dC, dI) (ca 1) (fun j z => True) n a H) (hB175 : ∀ n G a H, B 175 n G a H ↔ jAr (dC, dI) (ca 1) (fun j z => True) n a H) (G0 : jT) (H0 : Heap) (r0 : Nat) (a1 : Int32) (r2 : Nat) (n0 : Nat) (n2 : Nat) (ps : Int32) (sa_ : Nat) (ea_ : Nat) (tx_ : Nat) (nn : Int) (f2 : Nat → Int32) (fb : Nat → Int32) (fe : Nat → Int32) (ft : Nat → Int32) : Met l yX1_isSentence (jw yX1_isSentence cX1_isSentence 4 (some .boolean)) ({ frames := 0, cells := 0, slots := 0, locals := 0 }) (va_Pc [.ref r0, .int a1, .ref r2] (fun U => U.heap = H0 ∧ jX B base G0 [] H0 ∧ jG dC dI ca base U ∧ G0 r0 = some (3, n0) ∧ G0 r2 = some (175, n2) ∧ G0 sa_ = some (171, 40) ∧ G0 ea_ = some (172, 40) ∧ G0 tx_ = some (173, 1500) ∧ jP (dC, dI) G0 H0 [(r0, 3, 4, .int ps), (r0, 3, 5, .ref sa_), (r0, 3, 6, .ref ea_), (r0, 3, 2, .ref tx_)] ∧ jMc (dC, dI) G0 H0 [(r2, 175, n2, ca 1, f2), (sa_, 171, 40, ca 1, fb), (ea_, 172, 40, ca 1, fe), (tx_, 173, 1500, ca 1, ft)] ∧ 0 ≤ ps.toInt ∧ ps.toInt ≤ 40 ∧ n2 ≤ 3000 ∧ 0 ≤ nn ∧ nn ≤ 1500 ∧ jcP ft nn fb fe ps.toInt)) (va_Qi (S := Unit) (fun r u => (r = 0 ∨ r = 1) ∧ (((r.toInt = 1 ∧ (0 ≤ a1.toInt ∧ a1.toInt < ps.toInt ∧ jcL f2 n2 0 = jcU ft nn (a1.toInt).toNat)) ∨ (r.toInt = 0 ∧ ¬ (0 ≤ a1.toInt ∧ a1.toInt < ps.toInt ∧ jcL f2 n2 0 = jcU ft nn (a1.toInt).toNat))))) (fun u t => jRt (dC, dI) B base G0 EX1_isSentenceT H0 [] t.heap) (jA base)) 0 0 (jA base) := by
  refine Met.ofW (cc := cX1_isSentence) (maxL := 4) (ret := (some .boolean)) (by decide) rfl ?_
  intro p e s m args below meth c s₁ Bd hml hv
  obtain ⟨rfl, hH0, hX, hG, hg_r0, hg_r2, hg_sa_, hg_ea_, hg_tx_, hP0, hM0, hp0, hp1, hp2, hp3, hp4, hp5⟩ := hv
  have hK := hG.1
  have hx := Bd.exec
  have hb := Bd.bytes
  have hr := Bd.returns
  have hts := atoms_spec (ws := (jw yX1_isSentence cX1_isSentence 4 (some .boolean))) Bd.pre
  have htw : ∀ w ∈ jWl, w.before _ s = true := fun w h => hts w (List.mem_cons_of_mem _ h)
  have hown : s.vm.findClass RX1 = some m.cls := findClass_of_methodNamed Bd.named
  have hlocks := Bd.notSynchronized
  obtain ⟨Q, hQ⟩ : ∃ Q, Q = MQ below (va_Qi (S := Unit) (fun r u => (r = 0 ∨ r = 1) ∧ (((r.toInt = 1 ∧ (0 ≤ a1.toInt ∧ a1.toInt < ps.toInt ∧ jcL f2 n2 0 = jcU ft nn (a1.toInt).toNat)) ∨ (r.toInt = 0 ∧ ¬ (0 ≤ a1.toInt ∧ a1.toInt < ps.toInt ∧ jcL f2 n2 0 = jcU ft nn (a1.toInt).toNat))))) (fun u t => jRt (dC, dI) B base G0 EX1_isSentenceT H0 [] t.heap) (jA base)) ([.ref r0, .int a1, .ref r2] : List Value).toArray s 0 0 (jA base) := ⟨_, rfl⟩
  rw [← hQ]
  have hl := lv_entry ([.ref r0, .int a1, .ref r2]) (n := 4) (Nat.le_of_ble_eq_true rfl)
  rw [lg_entry_eq]
  generalize (lg_sl ([.ref r0, .int a1, .ref r2]) ++ List.replicate (4 - (lg_sl ([.ref r0, .int a1, .ref r2])).length) Slot.unset).toArray = ls at hl ⊢
  have hl : lv_has ls 4 [(0, .ref r0), (1, .int a1), (2, .ref r2)] := hl
  generalize hR : (headSpec (jw yX1_isSentence cX1_isSentence 4 (some .boolean)) ({ frames := 0, cells := 0, slots := 0, locals := 0 })).room = R
  subst hH0
  have hh : jSt (dC, dI) B base G0 G0 EX1_isSentenceT s.heap 0 0 [(r0, 3, 4, .int ps), (r0, 3, 5, .ref sa_), (r0, 3, 6, .ref ea_), (r0, 3, 2, .ref tx_)] [(r2, 175, n2, ca 1, f2), (sa_, 171, 40, ca 1, fb), (ea_, 172, 40, ca 1, fe), (tx_, 173, 1500, ca 1, ft)] [] s.heap [] := jSt.start hX hP0 hM0 jIs.nil
  clear hX hP0
  have hk0 : (0 : Int32).toInt = 0 := by decide
  have hk1 : (1 : Int32).toInt = 1 := by decide
  have hly_3_2 := htw (u_lay RX1 TX1 2) (jWc_wsX10 _ (u_in_lay (by decide)))
  have hly_3_4 := htw (u_lay RX1 TX1 4) (jWc_wsX10 _ (u_in_lay (by decide)))
  have hly_3_5 := htw (u_lay RX1 TX1 5) (jWc_wsX10 _ (u_in_lay (by decide)))
  have hly_3_6 := htw (u_lay RX1 TX1 6) (jWc_wsX10 _ (u_in_lay (by decide)))
  have hlk_69 := (htw (.fieldLink RX1 69 "ProofServer$Document" "sentences" "I") (jWr_29 _ (List.mem_of_getElem? (i := 14) rfl)))
  have hlk_21 := (htw (.fieldLink RX1 21 "ProofServer$Document" "ends" "[I") (jWr_10 _ (List.mem_of_getElem? (i := 8) rfl)))
  have hlk_18 := (htw (.fieldLink RX1 18 "ProofServer$Document" "starts" "[I") (jWr_10 _ (List.mem_of_getElem? (i := 7) rfl)))
  have hlk_15 := (htw (.fieldLink RX1 15 "ProofServer$Document" "text" "[I") (jWr_10 _ (List.mem_of_getElem? (i := 6) rfl)))
  have hrg_a1 := jb_rng a1
  refine lv_iload_n hx hb dX1_isSentence_0 rfl (lv_at hl 1 rfl) ?_
  refine lv_if_lt (tgt := 30) hx hb dX1_isSentence_1 (by decide) (fun c_1 => ?_) (fun c_1 => ?_)
  · skip
    have c_1' : a1.toInt < 0 := jb_lt (rfl) ((by decide)) c_1
    refine lv_iconst (v := 0) hx hb dX1_isSentence_30 (by decide) ?_
    rw [hQ]
    exact W.zret (v := 0) hx hb hr (jb_nz (Or.inl rfl)) (fun t ht hW => ⟨⟨0, (), rfl, ⟨(Or.inl rfl), Or.inr ⟨hk0, fun q9 => by have h9 := q9.1; have h8 := q9.2.1; omega⟩⟩, hh.rt (M1 := []) [] rfl ht⟩, by rw [ht]; try exact hh.1.1, fun q h9 hq => by rw [ht]; try exact hh.1.2.1 q h9 hq⟩) hh.1.2.2 dX1_isSentence_31
  · skip
    have c_1' : a1.toInt ≥ 0 := jb_lt_n (rfl) ((by decide)) c_1
    refine lv_iload_n hx hb dX1_isSentence_4 rfl (lv_at hl 1 rfl) ?_
    refine lv_aload_n hx hb dX1_isSentence_5 rfl (lv_at hl 0 rfl) ?_
    refine j7_read hx hb hown hK (C := RX1) (T := TX1) (N := 17) rfl hly_3_4 hlk_69 (hh.at 0 rfl) dX1_isSentence_6 ?_
    refine lv_icmp_ge (tgt := 30) hx hb dX1_isSentence_9 (by decide) (fun c_2 => ?_) (fun c_2 => ?_)
    · skip
      have c_2' : a1.toInt ≥ ps.toInt := jb_ge (rfl) (rfl) c_2
      refine lv_iconst (v := 0) hx hb dX1_isSentence_30 (by decide) ?_
      rw [hQ]
      exact W.zret (v := 0) hx hb hr (jb_nz (Or.inl rfl)) (fun t ht hW => ⟨⟨0, (), rfl, ⟨(Or.inl rfl), Or.inr ⟨hk0, fun q9 => by have h9 := q9.1; have h8 := q9.2.1; omega⟩⟩, hh.rt (M1 := []) [] rfl ht⟩, by rw [ht]; try exact hh.1.1, fun q h9 hq => by rw [ht]; try exact hh.1.2.1 q h9 hq⟩) hh.1.2.2 dX1_isSentence_31
    · skip
      have c_2' : a1.toInt < ps.toInt := jb_ge_n (rfl) (rfl) c_2
      obtain ⟨t1, t2, t3⟩ := hp5 a1.toInt.toNat (by omega)
      rw [show ((a1.toInt.toNat : Nat) : Int) = a1.toInt by omega] at t1 t2
      have hce := jcE.rg t3
      have hcb := jcB.nn (f := ft) hp3 a1.toInt.toNat
      refine lv_aload_n hx hb dX1_isSentence_12 rfl (lv_at hl 0 rfl) ?_
      refine j7_read hx hb hown hK (C := RX1) (T := TX1) (N := 17) rfl hly_3_6 hlk_21 (hh.at 2 rfl) dX1_isSentence_13 ?_
      refine lv_iload_n hx hb dX1_isSentence_16 rfl (lv_at hl 1 rfl) ?_
      refine j7_ialdM hx hb hK hh hB172 1 rfl (by decide) hg_ea_ (x := a1.toInt) (rfl) (by omega) (j := 2) rfl dX1_isSentence_17 (fun z_3 ez_3 (hz_3 : 0 ≤ z_3.toInt ∧ z_3.toInt ≤ 1500) => ?_)
      have hqz_3 : z_3.toInt = jSo fe (a1.toInt) := by unfold jSo; rw [ez_3]
      refine lv_aload_n hx hb dX1_isSentence_18 rfl (lv_at hl 0 rfl) ?_
      refine j7_read hx hb hown hK (C := RX1) (T := TX1) (N := 17) rfl hly_3_5 hlk_18 (hh.at 1 rfl) dX1_isSentence_19 ?_
      refine lv_iload_n hx hb dX1_isSentence_22 rfl (lv_at hl 1 rfl) ?_
      refine j7_ialdM hx hb hK hh hB171 1 rfl (by decide) hg_sa_ (x := a1.toInt) (rfl) (by omega) (j := 1) rfl dX1_isSentence_23 (fun z_4 ez_4 (hz_4 : 0 ≤ z_4.toInt ∧ z_4.toInt ≤ 1500) => ?_)
      have hqz_4 : z_4.toInt = jSo fb (a1.toInt) := by unfold jSo; rw [ez_4]
      refine lv_isub hx hb dX1_isSentence_24 ?_
      refine lv_topi (fun z_5 ez_5 => ?_)
      have hz_5 : z_5.toInt = z_3.toInt - z_4.toInt := by rw [ez_5]; exact jb_isub2 (rfl) (rfl) (by omega)
      refine lv_aload_n hx hb dX1_isSentence_25 rfl (lv_at hl 2 rfl) ?_
      refine j7_len hx hb hK hh hB175 1 rfl (by decide) hg_r2 (by omega) dX1_isSentence_26 (fun z_6 hz_6 => ?_)
      refine lv_icmp_eq (tgt := 32) hx hb dX1_isSentence_27 (by decide) (fun c_7 => ?_) (fun c_7 => ?_)
      · skip
        have c_7' : z_5.toInt = z_6.toInt := jb_eq (rfl) (rfl) c_7
        refine lv_iconst (v := 0) hx hb dX1_isSentence_32 (by decide) ?_
        refine lv_istore_n (lv' := [(3, .int 0), (0, .ref r0), (1, .int a1), (2, .ref r2)]) hx hb dX1_isSentence_33 rfl hl (by decide) rfl (fun ls hl => ?_)
        have L34 : ∀ (N : Nat) (v3_8 : Int32) (H_8 : Heap) (locs_8 : List Loc), jSt (dC, dI) B base G0 G0 EX1_isSentenceT s.heap 0 0 [(r0, 3, 4, .int ps), (r0, 3, 5, .ref sa_), (r0, 3, 6, .ref ea_), (r0, 3, 2, .ref tx_)] [(r2, 175, n2, ca 1, f2), (sa_, 171, 40, ca 1, fb), (ea_, 172, 40, ca 1, fe), (tx_, 173, 1500, ca 1, ft)] [] H_8 locs_8 → (0 ≤ v3_8.toInt ∧ v3_8.toInt ≤ n2 ∧ (∀ i : Nat, (i : Int) < v3_8.toInt → (f2 i).toInt = jSo ft (jSo fb a1.toInt + i))) → (n2 - v3_8.toInt : Int) < N → ∀ ls : Array Slot, lv_has ls 4 [(0, .ref r0), (1, .int a1), (2, .ref r2), (3, .int v3_8)] → W p l e R s m ([.ref r0, .int a1, .ref r2] : List Value).toArray below meth c H_8 locs_8 0 0 Q (F0 m 34 ls []) := by
          intro N
          induction N with
          | zero => intro v3_8 H_8 locs_8 hh_8  hi_8 hm; exact absurd hm (by omega)
          | succ N L34 =>
            intro v3_8 H_8 locs_8 hh_8  hi_8 hm_8 ls hl
            obtain ⟨hi_8_0, hi_8_1, hi_8_2⟩ := hi_8
            refine lv_iload_n hx hb dX1_isSentence_34 rfl (lv_at hl 3 rfl) ?_
            refine lv_aload_n hx hb dX1_isSentence_35 rfl (lv_at hl 2 rfl) ?_
            refine j7_len hx hb hK hh_8 hB175 1 rfl (by decide) hg_r2 (by omega) dX1_isSentence_36 (fun z_9 hz_9 => ?_)
            refine lv_icmp_ge (tgt := 67) hx hb dX1_isSentence_37 (by decide) (fun c_10 => ?_) (fun c_10 => ?_)
            · skip
              have c_10' : v3_8.toInt ≥ z_9.toInt := jb_ge (rfl) (rfl) c_10
              refine lv_iconst (v := 1) hx hb dX1_isSentence_67 (by decide) ?_
              rw [hQ]
              exact W.zret (v := 1) hx hb hr (jb_nz (Or.inr rfl)) (fun t ht hW => ⟨⟨1, (), rfl, ⟨(Or.inr rfl), Or.inl ⟨hk1, by omega, by omega, jnS.eq hi_8_2 (by omega) t1 (by have h9 := hqz_3; have h8 := hqz_4; omega)⟩⟩, hh_8.rt (M1 := []) [] rfl ht⟩, by rw [ht]; try exact hh_8.1.1, fun q h9 hq => by rw [ht]; try exact hh_8.1.2.1 q h9 hq⟩) hh_8.1.2.2 dX1_isSentence_68
            · skip
              have c_10' : v3_8.toInt < z_9.toInt := jb_ge_n (rfl) (rfl) c_10
              refine lv_aload_n hx hb dX1_isSentence_40 rfl (lv_at hl 0 rfl) ?_
              refine j7_read hx hb hown hK (C := RX1) (T := TX1) (N := 17) rfl hly_3_2 hlk_15 (hh_8.at 3 rfl) dX1_isSentence_41 ?_
              refine lv_aload_n hx hb dX1_isSentence_44 rfl (lv_at hl 0 rfl) ?_
              refine j7_read hx hb hown hK (C := RX1) (T := TX1) (N := 17) rfl hly_3_5 hlk_18 (hh_8.at 1 rfl) dX1_isSentence_45 ?_
              refine lv_iload_n hx hb dX1_isSentence_48 rfl (lv_at hl 1 rfl) ?_
              refine j7_ialdM hx hb hK hh_8 hB171 1 rfl (by decide) hg_sa_ (x := a1.toInt) (rfl) (by omega) (j := 1) rfl dX1_isSentence_49 (fun z_11 ez_11 (hz_11 : 0 ≤ z_11.toInt ∧ z_11.toInt ≤ 1500) => ?_)
              have hqz_11 : z_11.toInt = jSo fb (a1.toInt) := by unfold jSo; rw [ez_11]
              refine lv_iload_n hx hb dX1_isSentence_50 rfl (lv_at hl 3 rfl) ?_
              refine lv_iadd hx hb dX1_isSentence_51 ?_
              refine lv_topi (fun z_12 ez_12 => ?_)
              have hz_12 : z_12.toInt = z_11.toInt + v3_8.toInt := by rw [ez_12]; exact jb_iadd2 (rfl) (rfl) (by omega)
              refine j7_ialdM hx hb hK hh_8 hB173 1 rfl (by decide) hg_tx_ (x := z_12.toInt) (rfl) (by omega) (j := 3) rfl dX1_isSentence_52 (fun z_13 ez_13 (hz_13 : True) => ?_)
              have hqz_13 : z_13.toInt = jSo ft ((z_11.toInt + v3_8.toInt)) := by unfold jSo; rw [ez_13, show z_12.toInt = (z_11.toInt + v3_8.toInt) by omega]
              have hq52 : z_13.toInt = jSo ft (jSo fb a1.toInt + v3_8.toInt) := by rw [hqz_13]; congr 1; have h9 := hqz_11; omega
              refine lv_aload_n hx hb dX1_isSentence_53 rfl (lv_at hl 2 rfl) ?_
              refine lv_iload_n hx hb dX1_isSentence_54 rfl (lv_at hl 3 rfl) ?_
              refine j7_ialdM hx hb hK hh_8 hB175 1 rfl (by decide) hg_r2 (x := v3_8.toInt) (rfl) (by omega) (j := 0) rfl dX1_isSentence_55 (fun z_14 ez_14 (hz_14 : True) => ?_)
              have hqz_14 : z_14.toInt = jSo f2 (v3_8.toInt) := by unfold jSo; rw [ez_14]
              refine lv_icmp_eq (tgt := 61) hx hb dX1_isSentence_56 (by decide) (fun c_15 => ?_) (fun c_15 => ?_)
              · skip
                have c_15' : z_13.toInt = z_14.toInt := jb_eq (rfl) (rfl) c_15
                obtain ⟨z_16, ez_16⟩ : ∃ y : Int32, y = v3_8 + 1 := ⟨_, rfl⟩
                refine lv_iinc (v := z_16) (lv' := [(3, .int z_16), (0, .ref r0), (1, .int a1), (2, .ref r2)]) hx hb dX1_isSentence_61 hl (k := 3) rfl (by rw [ez_16]; rfl) (by decide) rfl (fun ls hl => ?_)
                have hz_16 : z_16.toInt = v3_8.toInt + 1 := by rw [ez_16]; exact jb_iadd2 (rfl) (by decide) (by omega)
                refine lv_goto (tgt := 34) hx hb dX1_isSentence_64 (by decide) ?_
                exact L34 z_16 _ _ hh_8 (⟨by omega, by omega, jnS.st hi_8_2 (by omega) hq52 hqz_14 (by omega) (by omega)⟩) (by omega) _ (lv_sub hl [1, 2, 3, 0] rfl)
              · skip
                have c_15' : z_13.toInt ≠ z_14.toInt := jb_eq_n (rfl) (rfl) c_15
                refine lv_iconst (v := 0) hx hb dX1_isSentence_59 (by decide) ?_
                rw [hQ]
                exact W.zret (v := 0) hx hb hr (jb_nz (Or.inl rfl)) (fun t ht hW => ⟨⟨0, (), rfl, ⟨(Or.inl rfl), Or.inr ⟨hk0, fun q9 => jnS.ne (i := v3_8.toInt) (by omega) (by omega) t1 (by have h9 := hqz_3; have h8 := hqz_4; omega) (by rw [← hqz_14, ← hq52]; omega) q9.2.2⟩⟩, hh_8.rt (M1 := []) [] rfl ht⟩, by rw [ht]; try exact hh_8.1.1, fun q h9 hq => by rw [ht]; try exact hh_8.1.2.1 q h9 hq⟩) hh_8.1.2.2 dX1_isSentence_60
        exact L34 (n2 - (0 : Int32).toInt : Int).toNat.succ 0 _ _ hh (⟨by omega, by omega, fun i hi => by have h9 := hk0; omega⟩) (by omega) _ (lv_sub hl [1, 2, 3, 0] rfl)
      · skip
        have c_7' : z_5.toInt ≠ z_6.toInt := jb_eq_n (rfl) (rfl) c_7
        refine lv_iconst (v := 0) hx hb dX1_isSentence_30 (by decide) ?_
        rw [hQ]
        exact W.zret (v := 0) hx hb hr (jb_nz (Or.inl rfl)) (fun t ht hW => ⟨⟨0, (), rfl, ⟨(Or.inl rfl), Or.inr ⟨hk0, fun q9 => jnS.ln (by omega) (by have h9 := hqz_3; have h8 := hqz_4; omega) q9.2.2⟩⟩, hh.rt (M1 := []) [] rfl ht⟩, by rw [ht]; try exact hh.1.1, fun q h9 hq => by rw [ht]; try exact hh.1.2.1 q h9 hq⟩) hh.1.2.2 dX1_isSentence_31
set_option maxHeartbeats 4000000 in
set_option maxRecDepth 20000 in
theorem uX1_stateBehindT (l : Launch) (dC : Nat → ClassId) (dI : Nat → Nat → Nat) (ca : Nat → ClassId) (base : Nat) (B : jF) (hB : jBok B) (hAp : jAp (dC, dI)) (hB3 : ∀ n G a H, B 3 n G a H ↔ jOb (dC, dI) 3 17 (F3 n G) a H) (hB11 : ∀ n G a H, B 11 n G a H ↔ jOb (dC, dI) 11 9 (F11 n G) a H) (hB210 : ∀ n G a H, B 210 n G a H ↔ jAq (dC, dI) (ca 6) (jQn 11 0) n G a H) (G0 : jT) (H0 : Heap) (r0 : Nat) (a1 : Int32) (r2 : Nat) (n0 : Nat) (bh : Nat) (fq : Nat → Option Nat) : Met l yX1_stateBehind (jw yX1_stateBehind cX1_stateBehind 3 (some (.object "ProofServer$State"))) ({ frames := 0, cells := 0, slots := 0, locals := 0 }) (va_Pc [.ref r0, .int a1, .ref r2] (fun U => U.heap = H0 ∧ jX B base G0 [] H0 ∧ jG dC dI ca base U ∧ jK2 dC dI ca U ∧ G0 r0 = some (3, n0) ∧ G0 r2 = some (11, 0) ∧ G0 bh = some (210, 40) ∧ jP (dC, dI) G0 H0 [(r0, 3, 9, .ref bh)] ∧ jIs (dC, dI) G0 H0 [([(210, 0)], jQc dC dI (ca 6) bh 40 fq)] ∧ True)) (jQx (S := Unit) (fun v u => jRf G0 11 0 v ∧ v = .ref (jzB fq a1.toInt r2)) (fun u t => jRt (dC, dI) B base G0 EX1_stateBehindT H0 [] t.heap) (jA base)) 0 0 (jA base) := by
  refine Met.ofW (cc := cX1_stateBehind) (maxL := 3) (ret := (some (.object "ProofServer$State"))) (by decide) rfl ?_
  intro p e s m args below meth c s₁ Bd hml hv
  obtain ⟨rfl, hH0, hX, hG, hK2, hg_r0, hg_r2, hg_bh, hP0, hI0, hp0⟩ := hv
  have hK := hG.1
  have hx := Bd.exec
  have hb := Bd.bytes
  have hr := Bd.returns
  have hts := atoms_spec (ws := (jw yX1_stateBehind cX1_stateBehind 3 (some (.object "ProofServer$State")))) Bd.pre
  have htw : ∀ w ∈ jWl, w.before _ s = true := fun w h => hts w (List.mem_cons_of_mem _ h)
  have hown : s.vm.findClass RX1 = some m.cls := findClass_of_methodNamed Bd.named
  have hlocks := Bd.notSynchronized
  obtain ⟨Q, hQ⟩ : ∃ Q, Q = MQ below (jQx (S := Unit) (fun v u => jRf G0 11 0 v ∧ v = .ref (jzB fq a1.toInt r2)) (fun u t => jRt (dC, dI) B base G0 EX1_stateBehindT H0 [] t.heap) (jA base)) ([.ref r0, .int a1, .ref r2] : List Value).toArray s 0 0 (jA base) := ⟨_, rfl⟩
  rw [← hQ]
  have hl := lv_entry ([.ref r0, .int a1, .ref r2]) (n := 3) (Nat.le_of_ble_eq_true rfl)
  rw [lg_entry_eq]
  generalize (lg_sl ([.ref r0, .int a1, .ref r2]) ++ List.replicate (3 - (lg_sl ([.ref r0, .int a1, .ref r2])).length) Slot.unset).toArray = ls at hl ⊢
  have hl : lv_has ls 3 [(0, .ref r0), (1, .int a1), (2, .ref r2)] := hl
  generalize hR : (headSpec (jw yX1_stateBehind cX1_stateBehind 3 (some (.object "ProofServer$State"))) ({ frames := 0, cells := 0, slots := 0, locals := 0 })).room = R
  subst hH0
  have hh : jSt (dC, dI) B base G0 G0 EX1_stateBehindT s.heap 0 0 [(r0, 3, 9, .ref bh)] [] [([(210, 0)], jQc dC dI (ca 6) bh 40 fq)] s.heap [] := jSt.start hX hP0 jMc.nil hI0
  clear hX hP0
  have hk0 : (0 : Int32).toInt = 0 := by decide
  have hk1 : (1 : Int32).toInt = 1 := by decide
  have hk40 : (40 : Int32).toInt = 40 := by decide
  have hly_3_9 := htw (u_lay RX1 TX1 9) (jWc_wsX10 _ (u_in_lay (by decide)))
  have hlk_32 := (htw (.fieldLink RX1 32 "ProofServer$Document" "behind" "[LProofServer$State;") (jWr_10 _ (List.mem_of_getElem? (i := 12) rfl)))
  have hrg_a1 := jb_rng a1
  refine lv_iload_n hx hb dX1_stateBehind_0 rfl (lv_at hl 1 rfl) ?_
  refine lv_iconst (v := 1) hx hb dX1_stateBehind_1 (by decide) ?_
  refine lv_icmp_lt (tgt := 22) hx hb dX1_stateBehind_2 (by decide) (fun c_1 => ?_) (fun c_1 => ?_)
  · skip
    have c_1' : a1.toInt < 1 := jb_lt (rfl) ((by decide)) c_1
    refine lv_aload_n hx hb dX1_stateBehind_22 rfl (lv_at hl 2 rfl) ?_
    refine lv_goto (tgt := 34) hx hb dX1_stateBehind_23 (by decide) ?_
    rw [hQ]
    exact W.aret (v := .ref r2) hx hb hr (Or.inl ⟨_, rfl⟩) (Or.inr ⟨_, rfl⟩) (fun t ht hW => ⟨⟨.ref r2, (), rfl, ⟨⟨_, rfl, hg_r2⟩, by show (Value.ref _) = _; rw [jzB.s (by omega)]⟩, hh.rt (M1 := []) [] rfl ht⟩, by rw [ht]; try exact hh.1.1, fun q h9 hq => by rw [ht]; try exact hh.1.2.1 q h9 hq⟩) hh.1.2.2 dX1_stateBehind_34
  · skip
    have c_1' : a1.toInt ≥ 1 := jb_lt_n (rfl) ((by decide)) c_1
    refine lv_iload_n hx hb dX1_stateBehind_5 rfl (lv_at hl 1 rfl) ?_
    refine lv_bipush (v := 40) hx hb dX1_stateBehind_6 (by decide) ?_
    refine lv_icmp_gt (tgt := 22) hx hb dX1_stateBehind_8 (by decide) (fun c_2 => ?_) (fun c_2 => ?_)
    · skip
      have c_2' : a1.toInt > 40 := jb_gt (rfl) ((by decide)) c_2
      refine lv_aload_n hx hb dX1_stateBehind_22 rfl (lv_at hl 2 rfl) ?_
      refine lv_goto (tgt := 34) hx hb dX1_stateBehind_23 (by decide) ?_
      rw [hQ]
      exact W.aret (v := .ref r2) hx hb hr (Or.inl ⟨_, rfl⟩) (Or.inr ⟨_, rfl⟩) (fun t ht hW => ⟨⟨.ref r2, (), rfl, ⟨⟨_, rfl, hg_r2⟩, by show (Value.ref _) = _; rw [jzB.s (by omega)]⟩, hh.rt (M1 := []) [] rfl ht⟩, by rw [ht]; try exact hh.1.1, fun q h9 hq => by rw [ht]; try exact hh.1.2.1 q h9 hq⟩) hh.1.2.2 dX1_stateBehind_34
    · skip
      have c_2' : a1.toInt ≤ 40 := jb_gt_n (rfl) ((by decide)) c_2
      refine lv_aload_n hx hb dX1_stateBehind_11 rfl (lv_at hl 0 rfl) ?_
      refine j7_read hx hb hown hK (C := RX1) (T := TX1) (N := 17) rfl hly_3_9 hlk_32 (hh.at 0 rfl) dX1_stateBehind_12 ?_
      refine lv_iload_n hx hb dX1_stateBehind_15 rfl (lv_at hl 1 rfl) ?_
      refine lv_iconst (v := 1) hx hb dX1_stateBehind_16 (by decide) ?_
      refine lv_isub hx hb dX1_stateBehind_17 ?_
      refine lv_topi (fun z_3 ez_3 => ?_)
      have hz_3 : z_3.toInt = a1.toInt - 1 := by rw [ez_3]; exact jb_isub2 (rfl) ((by decide)) (by omega)
      refine j7_qaldI hx hb hK2 hh hB210 2 rfl (by decide) hg_bh (x := z_3.toInt) (rfl) (by omega) (hh.iv 0 rfl) dX1_stateBehind_18 (fun o_4 ho_4 heo_4 => ?_)
      rw [show z_3.toInt = (a1.toInt - 1) by omega] at heo_4
      rcases ho_4 with rfl | ⟨el_5, rfl, hg_el_5⟩
      · simp only [va_rf]
        refine lv_ifnonnullN hx hb dX1_stateBehind_19 ?_
        refine lv_aload_n hx hb dX1_stateBehind_22 rfl (lv_at hl 2 rfl) ?_
        refine lv_goto (tgt := 34) hx hb dX1_stateBehind_23 (by decide) ?_
        rw [hQ]
        exact W.aret (v := .ref r2) hx hb hr (Or.inl ⟨_, rfl⟩) (Or.inr ⟨_, rfl⟩) (fun t ht hW => ⟨⟨.ref r2, (), rfl, ⟨⟨_, rfl, hg_r2⟩, by show (Value.ref _) = _; rw [jzB.n (by omega) (by omega) (heo_4)]⟩, hh.rt (M1 := []) [] rfl ht⟩, by rw [ht]; try exact hh.1.1, fun q h9 hq => by rw [ht]; try exact hh.1.2.1 q h9 hq⟩) hh.1.2.2 dX1_stateBehind_34
      · simp only [va_rf]
        refine lv_ifnonnull (tgt := 26) hx hb dX1_stateBehind_19 (by decide) ?_
        refine lv_aload_n hx hb dX1_stateBehind_26 rfl (lv_at hl 0 rfl) ?_
        refine j7_read hx hb hown hK (C := RX1) (T := TX1) (N := 17) rfl hly_3_9 hlk_32 (hh.at 0 rfl) dX1_stateBehind_27 ?_
        refine lv_iload_n hx hb dX1_stateBehind_30 rfl (lv_at hl 1 rfl) ?_
        refine lv_iconst (v := 1) hx hb dX1_stateBehind_31 (by decide) ?_
        refine lv_isub hx hb dX1_stateBehind_32 ?_
        refine lv_topi (fun z_6 ez_6 => ?_)
        have hz_6 : z_6.toInt = a1.toInt - 1 := by rw [ez_6]; exact jb_isub2 (rfl) ((by decide)) (by omega)
        refine j7_qaldI hx hb hK2 hh hB210 2 rfl (by decide) hg_bh (x := z_6.toInt) (rfl) (by omega) (hh.iv 0 rfl) dX1_stateBehind_33 (fun o_7 ho_7 heo_7 => ?_)
        rw [show z_6.toInt = (a1.toInt - 1) by omega] at heo_7
        rcases ho_7 with rfl | ⟨el_8, rfl, hg_el_8⟩
        · simp only [va_rf]
          exact absurd (heo_7.trans heo_4.symm) (by simp)
        · simp only [va_rf]
          obtain rfl : el_5 = el_8 := (Option.some.inj (heo_7.trans heo_4.symm)).symm
          rw [hQ]
          exact W.aret (v := .ref el_5) hx hb hr (Or.inl ⟨_, rfl⟩) (Or.inr ⟨_, rfl⟩) (fun t ht hW => ⟨⟨.ref el_5, (), rfl, ⟨⟨_, rfl, hg_el_8⟩, by show (Value.ref _) = _; rw [jzB.a (by omega) (by omega) (heo_7)]⟩, hh.rt (M1 := []) [] rfl ht⟩, by rw [ht]; try exact hh.1.1, fun q h9 hq => by rw [ht]; try exact hh.1.2.1 q h9 hq⟩) hh.1.2.2 dX1_stateBehind_34
end
section
-- p8: the class parts a text: first without what the last sentence takes of the rest
theorem jcQ.fin {f b e l : Nat → Int32} {n c : Int} (h : jcQ f n b e l c) (hx : c < 40 ∨ (c ≤ 40 ∧ n ≤ jcB f n 40)) : jcP f n b e c ∧ jcPf f n l c := by
  have key : ∀ k : Nat, (k : Int) < c → jcM f n k = 0 := fun k hk => by
    unfold jcM
    refine if_neg (fun q => ?_)
    have q1 := q.1
    subst q1
    have q2 : jcB f n 40 < n := q.2
    omega
  refine ⟨fun k hk => ?_, fun k hk => ?_⟩
  · obtain ⟨h1, h2, h3, h4⟩ := h k hk
    refine ⟨h1, ?_, h4⟩
    unfold jcE
    rw [key k hk, if_neg (by decide)]
    exact h2
  · obtain ⟨h1, h2, h3, h4⟩ := h k hk
    unfold jcF
    rw [key k hk, if_neg (by decide)]
    exact h3
theorem jcC.f {f : Nat → Int32} {n x : Int} {k : Nat} (h : 0 < jcF f n k) (hx : x = 3 + 1) : x = jcC f n k := by
  unfold jcC; rw [if_pos h]; exact hx
end
