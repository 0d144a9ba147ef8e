section
-- the documents of the class: sentences in order, and what is still to be checked of the open ones
abbrev jFdo : List (Nat × Nat) := [(3, 4), (3, 5), (3, 6), (3, 10), (3, 11), (171, 0), (172, 0)]
section J41
variable {dC : Nat → ClassId} {dI : Nat → Nat → Nat} {ca : Nat → ClassId} {G G1 : jT} {H H1 : Heap} {x : Option Nat} {ph : Nat}
theorem jDcc.ie (h : jDcc dC dI ca G x ph H) : ((jFdo, jDcc dC dI ca G x ph) : jIv).2 H ∧ ∀ H1 H2 : Heap, jAg (dC, dI) G ((jFdo, jDcc dC dI ca G x ph) : jIv).1 H1 H2 → ((jFdo, jDcc dC dI ca G x ph) : jIv).2 H1 → ((jFdo, jDcc dC dI ca G x ph) : jIv).2 H2 := by
  refine ⟨h, fun H1 H2 hA hq => ?_⟩
  obtain ⟨Yb, Ye, W, h1, h2, h3, h4, h5⟩ := hq
  refine ⟨Yb, Ye, W, fun a n ha => ?_, h2, h3, fun a n ha hx => ?_, h5⟩
  · obtain ⟨g1, g2, g3, g4⟩ := h1 a n ha
    exact ⟨hA.1 a 3 n 5 _ ha rfl g1, hA.1 a 3 n 6 _ ha rfl g2, g3, g4⟩
  · obtain ⟨g1, g2, g3, g4⟩ := h1 a n ha
    obtain ⟨fb, fe, ps, pk, vc, g, gp⟩ := h4 a n ha hx
    refine ⟨fb, fe, ps, pk, vc, g.of (fun i v hi hf => ?_) (hA.2 _ _ _ g3 (by omega) (by omega) rfl) (hA.2 _ _ _ g4 (by omega) (by omega) rfl), gp⟩
    rcases hi with rfl | rfl | rfl
    · exact hA.1 a 3 n 4 _ ha rfl hf
    · exact hA.1 a 3 n 10 _ ha rfl hf
    · exact hA.1 a 3 n 11 _ ha rfl hf
/-- it is whole again -/
theorem jDcc.full {a n yb ye w : Nat} {fb fe : Nat → Int32} {ps pk : Int32} {vc : Value} (h : jDcc dC dI ca G (some a) ph H) (ha : G a = some (3, n)) (p5 : jf (dC, dI) 3 a 5 (.ref yb) H) (p6 : jf (dC, dI) 3 a 6 (.ref ye) H) (g : jD3 dC dI ca G a yb ye fb fe ps pk vc H) (gp : n = 0 → jPo fe ps.toInt pk.toInt vc w) {ph1 : Nat} (hp : ph ≤ ph1) (hw : n = 0 → ph + w ≤ ph1) : jDcc dC dI ca G none ph1 H := by
  obtain ⟨Yb, Ye, W, h1, h2, h3, h4, h5⟩ := h
  have e1 : Yb a = yb := by have := jf.uniq (h1 a n ha).1 p5; cases this; rfl
  have e2 : Ye a = ye := by have := jf.uniq (h1 a n ha).2.1 p6; cases this; rfl
  refine ⟨Yb, Ye, fun b => if b = a then w else W b, h1, h2, h3, fun b m hb _ => ?_, fun N => ?_⟩
  · by_cases e : b = a
    · subst e
      rw [e1, e2]
      have em : m = n := by
        rw [ha] at hb
        exact (congrArg Prod.snd (Option.some.inj hb)).symm
      refine ⟨fb, fe, ps, pk, vc, g, fun q => ?_⟩
      show jPo fe ps.toInt pk.toInt vc (if b = b then w else W b)
      rw [if_pos rfl]
      exact gp (em ▸ q)
    · obtain ⟨fb1, fe1, ps1, pk1, vc1, g1, gp1⟩ := h4 b m hb (fun q => e (Option.some.inj q).symm)
      refine ⟨fb1, fe1, ps1, pk1, vc1, g1, fun q => ?_⟩
      show jPo fe1 ps1.toInt pk1.toInt vc1 (if b = a then w else W b)
      rw [if_neg e]
      exact gp1 q
  · have c1 : ∀ M, jSmm G (some a) (fun b => if b = a then w else W b) M = jSmm G (some a) W M := jSmm.cg (fun _ => Iff.rfl) (fun M hM => if_neg (fun q => hM (by rw [q])))
    by_cases e : n = 0
    · subst e
      have m := jSmm.less (W := fun b => if b = a then w else W b) ha N
      rw [c1 N] at m
      have m5 := h5 N
      have m6 := hw rfl
      have m7 : (if a < N then (if a = a then w else W a) else 0) ≤ w := by
        by_cases q : a < N
        · rw [if_pos q, if_pos rfl]; exact Nat.le_refl _
        · rw [if_neg q]; omega
      omega
    · rw [← jSmm.ne (fun q => e (by rw [ha] at q; exact congrArg Prod.snd (Option.some.inj q))) N, c1 N]
      exact Nat.le_trans (h5 N) hp
/-- a field of the open document is written -/
theorem jDcc.fld {a n yb ye : Nat} (h : jDcc dC dI ca G (some a) ph H) (ha : G a = some (3, n)) (hfr : ∀ p, p ≠ a → H1[p]? = H[p]?) (p5 : jf (dC, dI) 3 a 5 (.ref yb) H) (p6 : jf (dC, dI) 3 a 6 (.ref ye) H) (q5 : jf (dC, dI) 3 a 5 (.ref yb) H1) (q6 : jf (dC, dI) 3 a 6 (.ref ye) H1) : jDcc dC dI ca G (some a) ph H1 := by
  obtain ⟨Yb, Ye, W, h1, h2, h3, h4, h5⟩ := h
  have e1 : Yb a = yb := by have := jf.uniq (h1 a n ha).1 p5; cases this; rfl
  have e2 : Ye a = ye := by have := jf.uniq (h1 a n ha).2.1 p6; cases this; rfl
  refine ⟨Yb, Ye, W, fun b m hb => ?_, h2, h3, fun b m hb hx => ?_, h5⟩
  · obtain ⟨g1, g2, g3, g4⟩ := h1 b m hb
    by_cases e : b = a
    · subst e
      exact ⟨by rw [e1]; exact q5, by rw [e2]; exact q6, g3, g4⟩
    · exact ⟨g1.kept (hfr b e), g2.kept (hfr b e), g3, g4⟩
  · obtain ⟨g1, g2, g3, g4⟩ := h1 b m hb
    have e : b ≠ a := fun q => hx (by rw [q])
    obtain ⟨fb, fe, ps, pk, vc, g, gp⟩ := h4 b m hb hx
    refine ⟨fb, fe, ps, pk, vc, g.of (fun i v hi hf => hf.kept (hfr b e)) (hfr _ (fun q => ?_)) (hfr _ (fun q => ?_)), gp⟩
    · rw [q, ha] at g3
      have := congrArg Prod.fst (Option.some.inj g3)
      simp at this
    · rw [q, ha] at g4
      have := congrArg Prod.fst (Option.some.inj g4)
      simp at this
/-- an array of the open document is written -/
theorem jDcc.arr {a n y k : Nat} (h : jDcc dC dI ca G (some a) ph H) (ha : G a = some (3, n)) (hy : G y = some (k, 40)) (hk : (k = 171 ∧ jf (dC, dI) 3 a 5 (.ref y) H) ∨ (k = 172 ∧ jf (dC, dI) 3 a 6 (.ref y) H)) (hfr : ∀ p, p ≠ y → H1[p]? = H[p]?) : jDcc dC dI ca G (some a) ph H1 := by
  obtain ⟨Yb, Ye, W, h1, h2, h3, h4, h5⟩ := h
  have hn : ∀ b m, G b = some (3, m) → b ≠ y := fun b m hb q => by
    rw [q, hy] at hb
    have := congrArg Prod.fst (Option.some.inj hb)
    simp at this
    rcases hk with hk | hk <;> omega
  refine ⟨Yb, Ye, W, fun b m hb => ?_, h2, h3, fun b m hb hx => ?_, h5⟩
  · obtain ⟨g1, g2, g3, g4⟩ := h1 b m hb
    exact ⟨g1.kept (hfr b (hn b m hb)), g2.kept (hfr b (hn b m hb)), g3, g4⟩
  · obtain ⟨g1, g2, g3, g4⟩ := h1 b m hb
    obtain ⟨fb, fe, ps, pk, vc, g, gp⟩ := h4 b m hb hx
    refine ⟨fb, fe, ps, pk, vc, g.of (fun i v hi hf => hf.kept (hfr b (hn b m hb))) (hfr _ (fun q => ?_)) (hfr _ (fun q => ?_)), gp⟩
    · rcases hk with ⟨k1, k2⟩ | ⟨k1, k2⟩
      · have e1 : Yb a = y := by have := jf.uniq (h1 a n ha).1 k2; cases this; rfl
        exact hx (by rw [h2 b a m n hb ha (q.trans e1.symm)])
      · rw [q, hy] at g3
        have := congrArg Prod.fst (Option.some.inj g3)
        simp at this
        omega
    · rcases hk with ⟨k1, k2⟩ | ⟨k1, k2⟩
      · rw [q, hy] at g4
        have := congrArg Prod.fst (Option.some.inj g4)
        simp at this
        omega
      · have e1 : Ye a = y := by have := jf.uniq (h1 a n ha).2.1 k2; cases this; rfl
        exact hx (by rw [h3 b a m n hb ha (q.trans e1.symm)])
/-- the same, with the numbers of each document told -/
def jDcx (dC : Nat → ClassId) (dI : Nat → Nat → Nat) (ca : Nat → ClassId) (G : jT) (ph : Nat) (sn ck : Nat → Int32) (vn : Nat → Value) (H : Heap) : Prop := jDcc dC dI ca G none ph H ∧ ∀ a n, G a = some (3, n) → jf (dC, dI) 3 a 4 (.int (sn a)) H ∧ jf (dC, dI) 3 a 10 (.int (ck a)) H ∧ jf (dC, dI) 3 a 11 (vn a) H
theorem jDcx.ie {sn ck : Nat → Int32} {vn : Nat → Value} (h : jDcx dC dI ca G ph sn ck vn H) : ((jFdo, jDcx dC dI ca G ph sn ck vn) : jIv).2 H ∧ ∀ H1 H2 : Heap, jAg (dC, dI) G ((jFdo, jDcx dC dI ca G ph sn ck vn) : jIv).1 H1 H2 → ((jFdo, jDcx dC dI ca G ph sn ck vn) : jIv).2 H1 → ((jFdo, jDcx dC dI ca G ph sn ck vn) : jIv).2 H2 :=
  ⟨h, fun H1 H2 hA hq => ⟨(jDcc.ie hq.1).2 H1 H2 hA hq.1, fun a n ha => by
    obtain ⟨q1, q2, q3⟩ := hq.2 a n ha
    exact ⟨hA.1 a 3 n 4 _ ha rfl q1, hA.1 a 3 n 10 _ ha rfl q2, hA.1 a 3 n 11 _ ha rfl q3⟩⟩⟩
end J41
end
section
-- p11: bits; the tape on both sides; bytes read as UTF-8; the text that comes of them
theorem jOth.mk {n : Nat} {f g : Nat → Int32} {e x : Int} (ho : ∀ j, j < n → j ≠ e.toNat → g j = f j) (he : e = x) (h0 : 0 ≤ x) : jOth n f g x := fun j q0 q1 q2 => by
  unfold jSo
  rw [ho j.toNat (by omega) (by omega)]
theorem jTe.z {f g : Nat → Int32} {n : Int} (h : n ≤ 0) : jTe f g n := fun j h0 h1 => by omega
theorem jUq.yes {b : Int → Int} {i n r q : Int} (h1 : 1 ≤ r) (h4 : r ≤ 4) (hn : i + r ≤ n) (h0 : 0 ≤ q) (h : q = jUc b i n) (hz : (r = 1 ∧ q < 128) ∨ (r = 2 ∧ 128 ≤ q ∧ q < 2048) ∨ (r = 3 ∧ 2048 ≤ q ∧ q < 65536) ∨ (r = 4 ∧ 65536 ≤ q)) : jUq b i n r q := by
  refine Or.inr ⟨h1, h4, hn, h0, h, ?_⟩
  unfold jUz
  rcases hz with ⟨a, c⟩ | ⟨a, c, d⟩ | ⟨a, c, d⟩ | ⟨a, c⟩
  · rw [if_pos c]; exact a
  · rw [if_neg (by omega), if_pos d]; exact a
  · rw [if_neg (by omega), if_neg (by omega), if_pos d]; exact a
  · rw [if_neg (by omega), if_neg (by omega), if_neg (by omega)]; exact a
theorem jCe.yes {f : Nat → Int32} {n i r : Int} (h : r = jCe f n i) (h0 : 0 ≤ r) : jOpI f i n = 1 ∧ r = jBcc f n i := by
  by_cases q : jOpI f i n = 1
  · exact ⟨q, jCe.op h q⟩
  · rw [jCe, if_neg q] at h; omega
theorem jVdc.yes {b : Int → Int} {n r w : Int} {g : Nat → Int32} (h : jVdc b n r w g) (hr : r ≠ 0) : w = ((jTl b n).length : Int) ∧ jVtx g (jTl b n) := by
  rcases h with ⟨a, c⟩ | ⟨a, c, d⟩
  · omega
  · exact ⟨c, d⟩
section JP1
variable {p : Program} {l : Launch} {e : Env} {R : Room} {s : State} {m : MethodId} {args : Array Value} {below : List Frame} {meth : Method} {c : Code} {H : Heap} {locs : List Loc} {cells slots : Nat} {Q : State → Prop}
variable {cc : ByteArray} {pc : Nat} {ls : Array Slot} {rest : List Value} {D : va_G} {cl : List vw_C} {A : Nat → Prop} {a : Nat} {tys : List (ClassId × FieldType)}
end JP1
section JP2
variable {p : Program} {l : Launch} {e : Env} {R : Room} {s : State} {m : MethodId} {args : Array Value} {below : List Frame} {meth : Method} {c : Code} {H : Heap} {locs : List Loc} {cells slots : Nat} {Q : State → Prop}
variable {cc : ByteArray} {pc : Nat} {ls : Array Slot} {rest : List Value} {dC : Nat → ClassId} {dI : Nat → Nat → Nat} {ca : Nat → ClassId} {B : jF} {base : Nat} {G0 G : jT} {E : List (Nat × Nat)} {H0 : Heap} {zc zs : Nat} {L : List jPin} {M : List jCt} {I : List jIv} {a k n : Nat} {cA : ClassId} {tys : List (ClassId × FieldType)}
end JP2
end
section
-- p9: JSON as it is read, over bytes b that end at e; tables T (1 kinds, 2 firsts, 3 sizes, 4 nexts, 5 and 6 keys, 7 units, 8: 1 where it stands in a list or object)
theorem jjA.new {T : Nat → Int → Int} {t : Nat} {n m x : Int} {f g : Nat → Int32} (h : jjA T t n f) (hv : jSo g n = x) (ho : ∀ i : Int, 0 ≤ i → i < n → jSo g i = jSo f i) (em : m = n + 1) : jjA (jjS T t n x) t m g := fun i h0 h1 => by
  by_cases e : i = n
  · subst e; rw [jjS.at, hv]
  · rw [jjS.off (Or.inr e), h i h0 (by omega), ho i h0 (by omega)]
theorem jjA.oth {T : Nat → Int → Int} {t a : Nat} {n j x : Int} {f : Nat → Int32} (h : jjA T a n f) (e : a ≠ t) : jjA (jjS T t j x) a n f := fun i h0 h1 => by rw [jjS.off (Or.inl e), h i h0 h1]
section
variable {b : Int → Int} {e o h : Int} {V : Int → Int → Int → (Nat → Int → Int) → Int × Int × Int × Int × (Nat → Int → Int)} {k : Nat} {a v u l a1 u1 r a2 v2 u2 q a3 : Int} {T T1 T2 : Nat → Int → Int}
end
end
section
-- p9: frames: X 0 fine or broken, 1 place, 2 told, 3 kept, 4 signs, 5 the name is like the wanted one, 6 digits, 7 value, 8 filled
section
variable {x a b c d e f g h i u r p q ql qg : Int}
end
section JP3
variable {p : Program} {l : Launch} {e : Env} {R : Room} {s : State} {m : MethodId} {args : Array Value} {below : List Frame} {meth : Method} {c : Code} {H : Heap} {locs : List Loc} {cells slots : Nat} {Q : State → Prop}
variable {cc : ByteArray} {pc : Nat} {ls : Array Slot} {rest : List Value} {dC : Nat → ClassId} {dI : Nat → Nat → Nat} {ca : Nat → ClassId} {B : jF} {base : Nat} {G0 G : jT} {E : List (Nat × Nat)} {H0 : Heap} {zc zs : Nat} {L : List jPin} {M : List jCt} {I : List jIv} {a k n : Nat} {cA : ClassId} {tys : List (ClassId × FieldType)}
end JP3
section JP4
variable {p : Program} {l : Launch} {e : Env} {R : Room} {s : State} {m : MethodId} {args : Array Value} {below : List Frame} {meth : Method} {c : Code} {H : Heap} {locs : List Loc} {cells slots : Nat} {Q : State → Prop}
variable {cc : ByteArray} {pc : Nat} {ls : Array Slot} {rest : List Value} {dC : Nat → ClassId} {dI : Nat → Nat → Nat} {ca : Nat → ClassId} {B : jF} {base : Nat} {G0 G : jT} {E : List (Nat × Nat)} {H0 : Heap} {zc zs : Nat} {L : List jPin} {M : List jCt} {I : List jIv} {a k n : Nat} {cA : ClassId} {tys : List (ClassId × FieldType)}
variable {P : Nat → Int32 → Prop}
theorem j7_zastU (hexec : p.tables.exec = Jvm.exec) (hb : c.code = cc) (hK : va_K (dC, dI) vwCl tys s) (hh : jSt (dC, dI) B base G0 G E H0 zc zs L M I H locs) (hB : jBok B) (hBk : ∀ n G a H, B k n G a H ↔ jAr (dC, dI) cA P n a H) (t0 : Nat) (ht : tys[t0]? = some (cA, .boolean)) (hk : k < 1000) (hk2 : 18 ≤ k) (hE : E.contains (k, 0) = true) (oj : Nat) {kk1 : Nat} {cB : ClassId} {f : Nat → Int32} (hj : M[oj]? = some (a, kk1, n, cB, f)) {M1 : List jCt} (js : List Nat) (hjs : js.map (fun i => M[i]?) = M1.map some) (hM : M1.all (fun q => !(q.2.1 == k)) = true) (hI : I.all (fun q => !(q.1.contains (k, 0))) = true) (ha : G a = some (k, n)) {i v : Int32} {x : Int} (hi : i.toInt = x) (h12 : 0 ≤ x ∧ x < n) (hb1 : v = 0 ∨ v = 1) (hv : P x.toNat v) (hdg : decode cc pc = .ok (.bastore, 1))
    (kk : ∀ (H1 : Heap) (locs1 : List Loc) (g : Nat → Int32), g x.toNat = v → (∀ j, j < n → j ≠ x.toNat → g j = f j) → jSt (dC, dI) B base G0 G E H0 zc zs L ((a, k, n, cA, g) :: M1) I H1 locs1 → W p l e R s m args below meth c H1 locs1 cells slots Q (F0 m (pc + 1) ls rest)) : W p l e R s m args below meth c H locs cells slots Q (F0 m pc ls (.int v :: .int i :: .ref a :: rest)) := by
  obtain ⟨h1, h2⟩ := h12
  obtain ⟨f', g1, g2⟩ := hh.ar hBk hk ha
  obtain ⟨-, -, -, q4⟩ := hh.2.2.2.2.2.2.2.1 _ (List.mem_of_getElem? hj)
  have hh1 : jSt (dC, dI) B base G0 G E H0 zc zs L M1 I H locs := by
    obtain ⟨e1, e2, e3, e4, e5, e6, e7, e8, e9⟩ := hh
    exact ⟨e1, e2, e3, e4, e5, e6, e7, e8.sub js hjs, e9⟩
  refine j_zast (A := jA base) hexec hb hK t0 g1 (hh.ab ha).1 hh.1.2.2 ht hb1 (jb_in hi h1 h2) hdg (fun H1 locs1 hat hsz hfr hT hL => ?_)
  have h9 := hh1.arr hB ha hk hk2 hE hM hI hsz hfr hT hL ((hBk _ _ _ _).mpr ⟨_, hat, jAr_upd g2 hi h1 hv⟩)
  refine kk H1 locs1 (upd f' i.toNatClampNeg v) (by rw [← jb_cl hi h1]; simp [upd]) (fun j hj' hne => ?_) ?_
  · have : j ≠ i.toNatClampNeg := by rw [jb_cl hi h1]; exact hne
    simp only [upd, if_neg this]
    exact (jCt_eq q4 g1 hj').symm
  · obtain ⟨e1, e2, e3, e4, e5, e6, e7, e8, e9⟩ := h9
    refine ⟨e1, e2, e3, e4, e5, e6, e7, fun q hq => ?_, e9⟩
    rcases List.mem_cons.mp hq with e | e
    · subst e; exact ⟨ha, hk2, hk, hat⟩
    · exact e8 q e
end JP4
end
section
-- p9: what the class's methods say of JSON
theorem jjTC.z {T : Nat → Int → Int} {v u : Int} {fk fi fz fn fa fs fu : Nat → Int32} (hv : v = 0) (hu : u = 0) : jjTC T v u fk fi fz fn fa fs fu := by
  have z : ∀ (t : Nat) (n : Int) (f : Nat → Int32), n = 0 → jjA T t n f := fun t n f h j q0 q1 => by omega
  exact ⟨z _ _ _ hv, z _ _ _ hv, z _ _ _ hv, z _ _ _ hv, z _ _ _ hv, z _ _ _ hv, z _ _ _ hu⟩
section
variable {T T1 : Nat → Int → Int} {v u v1 k f z : Int} {fk fi fz fn fa fs fu gk gi gz gn ga gs gu : Nat → Int32}
theorem jjTC.mk (h : jjTC T v u fk fi fz fn fa fs fu) (h0 : 0 ≤ v) (e1 : jSo gk v = k) (o1 : jjPu fk gk v) (e2 : jSo gi v = f) (o2 : jjPu fi gi v) (e3 : jSo gz v = z) (o3 : jjPu fz gz v) (e4 : jSo gn v = -1) (o4 : jjPu fn gn v) (e5 : jSo ga v = 0) (o5 : jjPu fa ga v) (e6 : jSo gs v = 0) (o6 : jjPu fs gs v) (ev : v1 = v + 1) : jjTC (jjMk T v k f z) v1 u gk gi gz gn ga gs fu := by
  obtain ⟨a1, a2, a3, a4, a5, a6, a7⟩ := h
  have ne : ∀ {t t' : Nat} {j x : Int} {T : Nat → Int → Int} {n : Int} {f : Nat → Int32}, t ≠ t' → jjA T t n f → jjA (jjS T t' j x) t n f := fun q h => h.oth q
  unfold jjMk
  refine ⟨?_, ?_, ?_, ?_, ?_, ?_, ?_⟩
  · exact ne (by decide) (ne (by decide) (ne (by decide) (ne (by decide) (ne (by decide) (ne (by decide) (a1.new e1 o1 ev))))))
  · exact ne (by decide) (ne (by decide) (ne (by decide) (ne (by decide) (ne (by decide) ((ne (by decide) a2).new e2 o2 ev)))))
  · exact ne (by decide) (ne (by decide) (ne (by decide) (ne (by decide) ((ne (by decide) (ne (by decide) a3)).new e3 o3 ev))))
  · exact ne (by decide) (ne (by decide) (ne (by decide) ((ne (by decide) (ne (by decide) (ne (by decide) a4))).new e4 o4 ev)))
  · exact ne (by decide) (ne (by decide) ((ne (by decide) (ne (by decide) (ne (by decide) (ne (by decide) a5)))).new e5 o5 ev))
  · exact ne (by decide) ((ne (by decide) (ne (by decide) (ne (by decide) (ne (by decide) (ne (by decide) a6))))).new e6 o6 ev)
  · exact ne (by decide) (ne (by decide) (ne (by decide) (ne (by decide) (ne (by decide) (ne (by decide) (ne (by decide) a7))))))
end
section
variable {X : Int × Int × Int × Int × (Nat → Int → Int)} {e d r a v u a0 v0 u0 : Int} {T : Nat → Int → Int} {fk fi fz fn fa fs fu : Nat → Int32}
theorem jjQv.yes (h : X = (r, a, v, u, T)) (h0 : 0 ≤ r) (hT : jjTC T v u fk fi fz fn fa fs fu) : jjQv X e d r a v u fk fi fz fn fa fs fu := Or.inr ⟨h0, T, h, hT⟩
end
theorem jjFb.z {k v : Int} (hk : k = 0) (hv : v = 0) : jjFb k v := ⟨by omega, Or.inl ⟨hk, hv⟩⟩
theorem jjQe.z {p : Int × Int × Int × Int} {r n u qu : Int} {f g : Nat → Int32} (h : jjQe p r n u qu f g) (hr : r = 0) : p.1 = 0 := by
  rcases h with ⟨_, h⟩ | ⟨h, _⟩
  · exact h
  · omega
theorem jjLs.start {b : Int → Int} {e a u a1 : Int} {T : Nat → Int → Int} {f : Nat → Int32} {k : Nat} (hT : jjA T 7 u f) (hk : jjK b e a = 34) (ea : a1 = a + 1) (ek : k = (e - a).toNat + 1) : jjLs b e k a1 u f (jjStr b e a u T) := by
  subst ea ek
  exact ⟨T, hT, by unfold jjStr; rw [if_pos hk]⟩
section
variable {b : Int → Int} {e a v u r a1 v1 u1 z c : Int} {T T1 : Nat → Int → Int}
end
section
variable {b : Int → Int} {e a v u r qt qv qu d c : Int} {T : Nat → Int → Int} {fk fi fz fn fa fs fu : Nat → Int32} {n : Nat}
end
section
variable {b : Int → Int} {e o h : Int} {V : Int → Int → Int → (Nat → Int → Int) → Int × Int × Int × Int × (Nat → Int → Int)}
variable {k : Nat} {a v u l a1 u1 r r1 a2 v2 u2 q a3 d d1 qt qv qu : Int} {T T1 T2 : Nat → Int → Int} {X : Int × Int × Int × Int × (Nat → Int → Int)} {fk fi fz fn fa fs fu gk gi gz gn ga gs gu : Nat → Int32}
end
section
variable {b : Int → Int} {e a l1 l2 l3 l4 w w1 q : Int}
end
section
variable {b : Int → Int} {e a d w r r1 v u q v0 u0 : Int} {fk fi fz fn fa fs fu : Nat → Int32} {T0 : Nat → Int → Int}
end
end
section
-- p9: what is asked of JSON that was read
theorem jjCh.h {T : Nat → Int → Int} {hi x c : Int} {n : Nat} (h : jjCh T hi x n c) (hn : 0 < n) : x < c ∧ c < hi ∧ T 8 c = 1 ∧ jjCh T hi x (n - 1) (T 4 c) := by
  cases n with
  | zero => omega
  | succ n => exact h
end
section
-- p9: JSON as the reference reads it
theorem jjTR.z {T : Nat → Int → Int} {v : Int} {ms mh mx mf mt mb me mi mn : Nat → Int32} (h : v = 0) : jjTR T v ms mh mx mf mt mb me mi mn := fun j h0 h1 => by omega
end
section
-- p9: JSON as the reference reads it
section
variable {T T1 : Nat → Int → Int} {v v1 k f z : Int} {ms mh mx mf mt mb me mi mn ys yh yx yf yt yb ye yi yn : Nat → Int32}
theorem jjMk.off {T : Nat → Int → Int} {v k f z : Int} {t : Nat} {j : Int} (h : j ≠ v) : jjMk T v k f z t j = T t j := by
  unfold jjMk
  rw [jjS.off (Or.inr h), jjS.off (Or.inr h), jjS.off (Or.inr h), jjS.off (Or.inr h), jjS.off (Or.inr h), jjS.off (Or.inr h), jjS.off (Or.inr h)]
theorem jjTR.mk (h : jjTR T v ms mh mx mf mt mb me mi mn) (o1 : jjPu ms ys v) (o2 : jjPu mh yh v) (o3 : jjPu mx yx v) (o4 : jjPu mf yf v) (o5 : jjPu mt yt v) (o6 : jjPu mb yb v) (o7 : jjPu me ye v) (o8 : jjPu mi yi v) (o9 : jjPu mn yn v)
    (hs : (jSo ys v = 6 ∧ k = 1 ∧ f = jSo yh v) ∨ (jSo ys v = 5 ∧ k = 2 ∧ f = jSo yh v) ∨ (jSo ys v = 4 ∧ k = 3 ∧ f = jSo yb v ∧ z = jSo ye v - jSo yb v) ∨ (jSo ys v = 3 ∧ jSo yi v = 1 ∧ k = 4 ∧ f = jSo yn v) ∨ (jSo ys v = 3 ∧ jSo yi v = 0 ∧ k = 5) ∨ (0 ≤ jSo ys v ∧ jSo ys v ≤ 2 ∧ k = 5)) (hx : jSo yx v = -1) (ev : v1 = v + 1) : jjTR (jjMk T v k f z) v1 ys yh yx yf yt yb ye yi yn := fun j h0 h1 => by
  by_cases e : j = v
  · subst e
    unfold jjNd
    obtain ⟨a1, a2, a3, a4, a5, a6, a8⟩ := jjMk.at (T := T) (v := j) (k := k) (f := f) (z := z)
    rw [a1, a2, a3, a4, a8, hx]
    refine ⟨?_, rfl, fun w => by omega⟩
    rcases hs with ⟨q1, q2, q3⟩ | ⟨q1, q2, q3⟩ | ⟨q1, q2, q3, q4⟩ | ⟨q1, q2, q3, q4⟩ | ⟨q1, q2, q3⟩ | ⟨q1, q2, q3⟩
    · exact Or.inl ⟨q1, q2, q3⟩
    · exact Or.inr (Or.inl ⟨q1, q2, q3⟩)
    · exact Or.inr (Or.inr (Or.inl ⟨q1, q2, q3, q4⟩))
    · exact Or.inr (Or.inr (Or.inr (Or.inl ⟨q1, q2, q3, q4⟩)))
    · exact Or.inr (Or.inr (Or.inr (Or.inr (Or.inl ⟨q1, q2, q3⟩))))
    · exact Or.inr (Or.inr (Or.inr (Or.inr (Or.inr ⟨q1, q2, q3⟩))))
  · have hj := h j h0 (by omega)
    unfold jjNd at hj ⊢
    rw [jjMk.off e, jjMk.off e, jjMk.off e, jjMk.off e, jjMk.off e, jjMk.off e, jjMk.off e, o1 j h0 (by omega), o2 j h0 (by omega), o3 j h0 (by omega), o4 j h0 (by omega), o5 j h0 (by omega), o6 j h0 (by omega), o7 j h0 (by omega), o8 j h0 (by omega), o9 j h0 (by omega)]
    exact hj
end
end
section
-- p9: JSON as the reference reads it
theorem jjQw.yes {X : Int × Int × Int × Int × (Nat → Int → Int)} {w r a v u : Int} {T : Nat → Int → Int} {ms mh mx mf mt mb me mi mn fu : Nat → Int32} (h : X = (r, a, v, u, T)) (hw : w = 0) (hR : jjTR T v ms mh mx mf mt mb me mi mn) (hu : jjA T 7 u fu) : jjQw X w r a v u ms mh mx mf mt mb me mi mn fu := Or.inr ⟨hw, T, h, hR, hu⟩
theorem jjW.f {b : Int → Int} {e a : Int} (h : jjW b e (jChT "false") 5 a = 1) : a < e ∧ b a = 102 := by have h1 := jjW.c h (by omega); rw [show (jChT "false" 0).toInt = 102 by decide +kernel] at h1; exact h1
section
variable {b : Int → Int} {e a v u r a1 v1 c : Int} {T : Nat → Int → Int}
end
section
variable {b : Int → Int} {e a v u r qt qn w c : Int} {n : Nat} {T : Nat → Int → Int} {ms mh mx mf mt mb me mi mn fu : Nat → Int32}
end
section
variable {b : Int → Int} {e o h m w a v u l : Int} {V : Int → Int → Int → (Nat → Int → Int) → Int × Int × Int × Int × (Nat → Int → Int)} {k : Nat} {ms mh mx mf mt mb me mi mn fu : Nat → Int32} {X : Int × Int × Int × Int × (Nat → Int → Int)}
end
end
section
-- p9: the texts of all documents, as a walk carries them; System.arraycopy of ints with contents
abbrev jFcd : List (Nat × Nat) := [(3, 0), (3, 1), (3, 2), (3, 3), (173, 0), (174, 0)]
section J91
variable {dC : Nat → ClassId} {dI : Nat → Nat → Nat} {ca : Nat → ClassId} {G G1 : jT} {H H1 : Heap} {x : Option Nat} {t : jDtl}
theorem jCD.ie (h : jCD dC dI ca G x t H) : ((jFcd, jCD dC dI ca G x t) : jIv).2 H ∧ ∀ H1 H2 : Heap, jAg (dC, dI) G ((jFcd, jCD dC dI ca G x t) : jIv).1 H1 H2 → ((jFcd, jCD dC dI ca G x t) : jIv).2 H1 → ((jFcd, jCD dC dI ca G x t) : jIv).2 H2 := by
  refine ⟨h, fun H1 H2 hA hq => ?_⟩
  obtain ⟨Yt, Yu, h1, h2, h3⟩ := hq
  refine ⟨Yt, Yu, fun a n ha => ?_, h2, fun a n ha hx => ?_⟩
  · obtain ⟨g1, g2⟩ := h1 a n ha
    exact ⟨hA.1 a 3 n 2 _ ha rfl g1, g2⟩
  · have g := h3 a n ha hx
    refine g.of (fun i v hi hf => ?_) (hA.2 _ _ _ g.gy.1 (by omega) (by omega) rfl) (hA.2 _ _ _ g.gy.2 (by omega) (by omega) rfl)
    rcases hi with rfl | rfl | rfl
    · exact hA.1 a 3 n 0 _ ha rfl hf
    · exact hA.1 a 3 n 1 _ ha rfl hf
    · exact hA.1 a 3 n 3 _ ha rfl hf
/-- it is whole again -/
theorem jCD.full {a n y z u : Nat} {v l : Int32} {f g : Nat → Int32} (h : jCD dC dI ca G (some a) t H) (ha : G a = some (3, n)) (p2 : jf (dC, dI) 3 a 2 (.ref y) H) (p1 : jf (dC, dI) 3 a 1 (.int v) H) (p3 : jf (dC, dI) 3 a 3 (.int l) H) (p0 : jf (dC, dI) 3 a 0 (.ref z) H) (hM : jMc (dC, dI) G H [(y, 173, 1500, ca 1, f), (z, 174, u, ca 1, g)]) (hu : u ≤ 3000) : jCD dC dI ca G none (t.put a v l f u g) H := by
  obtain ⟨Yt, Yu, h1, h2, h3⟩ := h
  have e1 : Yt a = y := by have := jf.uniq (h1 a n ha).1 p2; cases this; rfl
  refine ⟨Yt, jUf Yu a z, h1, h2, fun b m hb _ => ?_⟩
  by_cases e : b = a
  · subst e
    show jD6 dC dI ca G b (Yt b) (jUf Yu b z b) (jUf t.ve b v b) (jUf t.ln b l b) (jUf t.tx b f b) (jUf t.ul b u b) (jUf t.ux b g b) H
    rw [jUf_s, jUf_s, jUf_s, jUf_s, jUf_s, jUf_s, e1]
    refine ⟨fun q hq => ?_, hM, hu⟩
    simp only [List.mem_cons, List.not_mem_nil, or_false] at hq
    rcases hq with rfl | rfl | rfl
    · exact ⟨⟨_, ha⟩, p1⟩
    · exact ⟨⟨_, ha⟩, p3⟩
    · exact ⟨⟨_, ha⟩, p0⟩
  · show jD6 dC dI ca G b (Yt b) (jUf Yu a z b) (jUf t.ve a v b) (jUf t.ln a l b) (jUf t.tx a f b) (jUf t.ul a u b) (jUf t.ux a g b) H
    rw [jUf_n _ _ e, jUf_n _ _ e, jUf_n _ _ e, jUf_n _ _ e, jUf_n _ _ e, jUf_n _ _ e]
    exact h3 b m hb (fun q => e (Option.some.inj q).symm)
/-- a field of the open document is written -/
theorem jCD.fld {a n y : Nat} (h : jCD dC dI ca G (some a) t H) (ha : G a = some (3, n)) (hfr : ∀ p, p ≠ a → H1[p]? = H[p]?) (p2 : jf (dC, dI) 3 a 2 (.ref y) H) (q2 : jf (dC, dI) 3 a 2 (.ref y) H1) : jCD dC dI ca G (some a) t H1 := by
  obtain ⟨Yt, Yu, h1, h2, h3⟩ := h
  have e1 : Yt a = y := by have := jf.uniq (h1 a n ha).1 p2; cases this; rfl
  refine ⟨Yt, Yu, fun b m hb => ?_, h2, fun b m hb hx => ?_⟩
  · obtain ⟨g1, g2⟩ := h1 b m hb
    by_cases e : b = a
    · subst e
      exact ⟨by rw [e1]; exact q2, g2⟩
    · exact ⟨g1.kept (hfr b e), g2⟩
  · have e : b ≠ a := fun q => hx (by rw [q])
    have g := h3 b m hb hx
    refine g.of (fun i v hi hf => hf.kept (hfr b e)) (hfr _ (fun q => ?_)) (hfr _ (fun q => ?_))
    · have g3 := g.gy.1
      rw [q, ha] at g3
      have := congrArg Prod.fst (Option.some.inj g3)
      simp at this
    · have g3 := g.gy.2
      rw [q, ha] at g3
      have := congrArg Prod.fst (Option.some.inj g3)
      simp at this
end J91
-- the reference's
abbrev jFrd : List (Nat × Nat) := [(14, 0), (14, 1), (14, 2), (14, 3), (14, 4), (194, 0), (195, 0)]
section J92
variable {dC : Nat → ClassId} {dI : Nat → Nat → Nat} {ca : Nat → ClassId} {G G1 : jT} {H H1 : Heap} {x : Option Nat} {t : jDtr}
theorem jRD.ie (h : jRD dC dI ca G x t H) : ((jFrd, jRD dC dI ca G x t) : jIv).2 H ∧ ∀ H1 H2 : Heap, jAg (dC, dI) G ((jFrd, jRD dC dI ca G x t) : jIv).1 H1 H2 → ((jFrd, jRD dC dI ca G x t) : jIv).2 H1 → ((jFrd, jRD dC dI ca G x t) : jIv).2 H2 := by
  refine ⟨h, fun H1 H2 hA hq => ?_⟩
  obtain ⟨Yt, Yu, h1, h2, h3, h4⟩ := hq
  refine ⟨Yt, Yu, fun a ha => ?_, h2, h3, fun a ha hx => ?_⟩
  · obtain ⟨g1, g2, g3, g4⟩ := h1 a ha
    exact ⟨hA.1 a 14 0 3 _ ha rfl g1, hA.1 a 14 0 0 _ ha rfl g2, g3, g4⟩
  · have g := h4 a ha hx
    refine g.of (fun i v hi hf => ?_) (hA.2 _ _ _ g.gy.1 (by omega) (by omega) rfl) (hA.2 _ _ _ g.gy.2 (by omega) (by omega) rfl)
    rcases hi with rfl | rfl | rfl
    · exact hA.1 a 14 0 1 _ ha rfl hf
    · exact hA.1 a 14 0 2 _ ha rfl hf
    · exact hA.1 a 14 0 4 _ ha rfl hf
theorem jRD.full {a y z : Nat} {u v l : Int32} {f g : Nat → Int32} (h : jRD dC dI ca G (some a) t H) (ha : G a = some (14, 0)) (p3 : jf (dC, dI) 14 a 3 (.ref y) H) (p0 : jf (dC, dI) 14 a 0 (.ref z) H) (p2 : jf (dC, dI) 14 a 2 (.int v) H) (p4 : jf (dC, dI) 14 a 4 (.int l) H) (p1 : jf (dC, dI) 14 a 1 (.int u) H) (hM : jMc (dC, dI) G H [(y, 194, 1500, ca 1, f), (z, 195, 40, ca 1, g)]) : jRD dC dI ca G none (t.put a v l f u g) H := by
  obtain ⟨Yt, Yu, h1, h2, h3, h4⟩ := h
  have e1 : Yt a = y := by have := jf.uniq (h1 a ha).1 p3; cases this; rfl
  have e2 : Yu a = z := by have := jf.uniq (h1 a ha).2.1 p0; cases this; rfl
  refine ⟨Yt, Yu, h1, h2, h3, fun b hb _ => ?_⟩
  by_cases e : b = a
  · subst e
    show jD7 dC dI ca G b (Yt b) (Yu b) (jUf t.ve b v b) (jUf t.ln b l b) (jUf t.tx b f b) (jUf t.ul b u b) (jUf t.ux b g b) H
    rw [jUf_s, jUf_s, jUf_s, jUf_s, jUf_s, e1, e2]
    refine ⟨fun q hq => ?_, hM⟩
    simp only [List.mem_cons, List.not_mem_nil, or_false] at hq
    rcases hq with rfl | rfl | rfl
    · exact ⟨⟨_, ha⟩, p2⟩
    · exact ⟨⟨_, ha⟩, p4⟩
    · exact ⟨⟨_, ha⟩, p1⟩
  · show jD7 dC dI ca G b (Yt b) (Yu b) (jUf t.ve a v b) (jUf t.ln a l b) (jUf t.tx a f b) (jUf t.ul a u b) (jUf t.ux a g b) H
    rw [jUf_n _ _ e, jUf_n _ _ e, jUf_n _ _ e, jUf_n _ _ e, jUf_n _ _ e]
    exact h4 b hb (fun q => e (Option.some.inj q).symm)
theorem jRD.fld {a y z : Nat} (h : jRD dC dI ca G (some a) t H) (ha : G a = some (14, 0)) (hfr : ∀ p, p ≠ a → H1[p]? = H[p]?) (p3 : jf (dC, dI) 14 a 3 (.ref y) H) (p0 : jf (dC, dI) 14 a 0 (.ref z) H) (q3 : jf (dC, dI) 14 a 3 (.ref y) H1) (q0 : jf (dC, dI) 14 a 0 (.ref z) H1) : jRD dC dI ca G (some a) t H1 := by
  obtain ⟨Yt, Yu, h1, h2, h3, h4⟩ := h
  have e1 : Yt a = y := by have := jf.uniq (h1 a ha).1 p3; cases this; rfl
  have e2 : Yu a = z := by have := jf.uniq (h1 a ha).2.1 p0; cases this; rfl
  refine ⟨Yt, Yu, fun b hb => ?_, h2, h3, fun b hb hx => ?_⟩
  · obtain ⟨g1, g2, g3, g4⟩ := h1 b hb
    by_cases e : b = a
    · subst e
      exact ⟨by rw [e1]; exact q3, by rw [e2]; exact q0, g3, g4⟩
    · exact ⟨g1.kept (hfr b e), g2.kept (hfr b e), g3, g4⟩
  · have e : b ≠ a := fun q => hx (by rw [q])
    have g := h4 b hb hx
    refine g.of (fun i v hi hf => hf.kept (hfr b e)) (hfr _ (fun q => ?_)) (hfr _ (fun q => ?_))
    · have g3 := g.gy.1
      rw [q, ha] at g3
      have := congrArg Prod.fst (Option.some.inj g3)
      simp at this
    · have g3 := g.gy.2
      rw [q, ha] at g3
      have := congrArg Prod.fst (Option.some.inj g3)
      simp at this
end J92
section J93
variable {p : Program} {l : Launch} {e : Env} {R : Room} {s : State} {m : MethodId} {args : Array Value} {below : List Frame} {meth : Method} {c : Code} {H : Heap} {locs : List Loc} {cells slots : Nat} {Q : State → Prop}
variable {cc : ByteArray} {pc : Nat} {ls : Array Slot} {rest : List Value} {dC : Nat → ClassId} {dI : Nat → Nat → Nat} {ca : Nat → ClassId} {B : jF} {base : Nat} {G0 G : jT} {E : List (Nat × Nat)} {H0 : Heap} {zc zs : Nat} {L : List jPin} {M : List jCt} {I : List jIv} {a a0 k k0 n n0 index : Nat} {tys : List (ClassId × FieldType)} {own : String} {P P0 : Nat → Int32 → Prop} {cA : ClassId}
end J93
-- texts alike, a part of a text exchanged
end
section
-- p9: a change looks only at the units below the length
theorem jdJ.z {T : Nat → Int → Int} {v c n : Int} {k : Nat} {f f0 : Nat → Int32} (hT : ∀ x, jqK T v x = 3 → 0 ≤ T 3 x) (hn : 0 ≤ n) (h1 : n ≤ 1500) (h : jdW f f0) : jdJ T v k c n f (jdCh T v k c n (jSo f0)) := jdCh.cg hT k c n _ _ hn (fun j j0 j1 => h j j0 (by omega))
/-- all are made -/
theorem jdJ.e {T : Nat → Int → Int} {v c n : Int} {f : Nat → Int32} {R : Int × Int × (Int → Int)} (h : jdJ T v 0 c n f R) : R.1 = 1 ∧ R.2.1 = n ∧ jdV (jSo f) R.2.2 n := ⟨h.1.symm, h.2.1.symm, (by have h9 := h.2.2; rw [← h.2.1] at h9; exact h9)⟩
end
section
-- p9: headers as the reference reads them
theorem jfNe.z {f : Nat → Int32} {n : Int} (h : n = 0) : jfNe f n = 1 := by subst h; rfl
theorem jfCl.z (f : Nat → Int32) (n : Int) : jfCl f n = 0 ∨ jfCl f n = 1 := by
  unfold jfCl
  split
  · exact jfCe.r f 14
  · exact Or.inl rfl
def jfNx (X : Nat → Int) (c : Int) : Nat → Int := jfV 0 (jfHd X c 1) (jfHd X c 2) (X 3 + 1) (jfHd X c 4) (jfHd X c 5) (jfHd X c 6) (jfHd X c 7) (X 8)
/-- a byte of the headers: r whether it may be so -/
def jfHq (X : Nat → Int) (c r m h l b : Int) (fn : Nat → Int32) (cn : Int) (fv : Nat → Int32) (cv : Int) : Prop := (r = 0 ∧ (200 ≤ X 3 ∨ jfHd X c 0 = 0)) ∨ (r = 1 ∧ X 3 < 200 ∧ jfHd X c 0 = 1 ∧ jfRe (jfNx X c) m h l b fn cn fv cv)
section
variable {X : Nat → Int} {m h l b cn cv c r qm qh ql qb qn qv : Int} {fn fv gn gv : Nat → Int32}
/-- what comes of it, by its numbers -/
theorem jfHq.mk {e p t g i d z : Int} (hy : jfHd X c = jfV e p t (X 3) g i d z (X 8)) (h3 : X 3 < 200) (hr : (e = 1 ∧ r = 1 ∧ jfRe (jfV 0 p t (X 3 + 1) g i d z (X 8)) qm qh ql qb gn qn gv qv) ∨ (e = 0 ∧ r = 0)) : jfHq X c r qm qh ql qb gn qn gv qv := by
  rcases hr with ⟨e1, r1, q⟩ | ⟨e0, r0⟩
  · refine Or.inr ⟨r1, h3, by rw [hy]; exact e1, ?_⟩
    unfold jfNx
    rw [hy]
    exact q
  · exact Or.inl ⟨r0, Or.inr (by rw [hy]; exact e0)⟩
end
end
section
-- p9: the open documents of the class: what holds of them, how they change
/-- what stands in the list is a document -/
theorem jLs.el {dC : Nat → ClassId} {dI : Nat → Nat → Nat} {ca : Nat → ClassId} {B : jF} {base : Nat} {G : jT} {k a : Nat} {w : jWl9} {H : Heap} {L : List Nat} (h : jLs dC dI ca G k none w H) (ha : G a = some (1, 1)) (hX : jX B base G L H) (hL : L = []) (hb : ∀ n G a H, B 221 n G a H ↔ jAq (dC, dI) (ca 9) (jQn 3 0) n G a H) : ∀ (i b : Nat), (i : Int) < w.1 → w.2.1 i = some b → G b = some (3, 0) := fun i b hi hb1 => by
  subst hL
  obtain ⟨z, x, -, -, h3, h4⟩ := h.at ha
  rcases h4 with ⟨-, -, g3, -⟩ | ⟨m, f, g1, -, g3, g4, -, g6, -⟩
  · have := g3 rfl
    omega
  · obtain ⟨e1, e2⟩ := g6 rfl
    obtain ⟨f1, q1, q2⟩ := (hb _ _ _ _).mp (hX.1 _ _ _ g1 (by decide) (fun q => by cases q))
    have hz : (i : Int) < z.toInt := by omega
    have e3 : f i = f1 i := jQc_eq g4 q1 (by omega)
    have e4 : f1 i = some b := by rw [← e3, e2 i hz, hb1]
    rcases q2 i (by omega) with e | ⟨y, e, hy⟩
    · rw [e4] at e; cases e
    · rw [e4] at e; cases e; exact hy
end
section
-- p9: a document is changed
theorem jdChange.f {T : Nat → Int → Int} {v : Int} {d d1 : jDtl} {w : jWl9} {sp : Nat} {v0 l0 : Int32} {f0 g0 : Nat → Int32} {u0 : Nat} (hI : jdIv d w) (hn : ∀ i : Nat, (i : Int) < w.1 → w.2.1 i ≠ some sp) (h1 : d1 = d.put sp v0 l0 f0 u0 g0) (h : jdCs d w = jdChange T v (jdCs d w)) (hl0 : 0 ≤ l0.toInt) (hl1 : l0.toInt ≤ 1500) : jdIv d1 w ∧ jdCs d1 w = jdChange T v (jdCs d w) := by
  subst h1
  exact ⟨hI.put hl0 hl1, (jdCs.put hn).trans h⟩
end
section
-- p9: what a message does
section
variable {T : Nat → Int → Int} {v p m : Int} {S S1 : Int × (Int → jdD)}
theorem jdRq.b (hm : m = jdMe T v) (hp : p = 0) (h : jqI T v (jChT jdIn) 10 m ≠ 1) : jdRq T v p = p := by
  subst hm; unfold jdRq; rw [if_pos hp, if_neg h, hp]
theorem jdRq.d (hm : m = jdMe T v) (hp : p = 1) (h : jqI T v (jChT jdIn) 10 m ≠ 1) (h1 : jqI T v (jChT "shutdown") 8 m = 1) : jdRq T v p = 2 := by
  subst hm; unfold jdRq
  rw [if_neg (by omega), if_pos ⟨hp, h, h1⟩]
theorem jdRq.e (hm : m = jdMe T v) (hp : p ≠ 0) (h1 : jqI T v (jChT "shutdown") 8 m ≠ 1) : jdRq T v p = p := by
  subst hm; unfold jdRq
  rw [if_neg hp, if_neg (fun q => h1 q.2.2)]
theorem jdNo.z (hp : p ≠ 1) : jdNo T v p S = S := if_pos hp
end
section JR8
variable {dC : Nat → ClassId} {dI : Nat → Nat → Nat} {G : jT} {a nn yy : Nat} {P Q : Prop} {H : Heap}
theorem jRi.ie (h : jRi dC dI G a P H) (ha : G a = some (10, nn)) : (([(10, 0)], jRi dC dI G a P) : jIv).2 H ∧ ∀ H1 H2 : Heap, jAg (dC, dI) G (([(10, 0)], jRi dC dI G a P) : jIv).1 H1 H2 → (([(10, 0)], jRi dC dI G a P) : jIv).2 H1 → (([(10, 0)], jRi dC dI G a P) : jIv).2 H2 := by
  refine ⟨h, fun H1 H2 hA hq => ?_⟩
  rcases hq with ⟨p, y, g, f⟩ | ⟨p, f⟩
  · exact Or.inl ⟨p, y, g, hA.1 a 10 nn 0 _ ha rfl f⟩
  · exact Or.inr ⟨p, hA.1 a 10 nn 0 _ ha rfl f⟩
end JR8
end
section
-- p9: the state of a server as both sides tell it; what a byte does, what many do
section
variable {s : jdSt} {u r br qn qb pl to ke sg il dg sv fi a1 a2 a3 a4 a5 a6 a7 a8 : Int}
theorem jfQ.z {Y : Nat → Int} (h : jfQ Y qb a1 a2 a3 a4 a5 a6 a7 a8) (hb : qb = 1) : Y 0 = 1 := by
  rcases h with ⟨-, e⟩ | ⟨e, -⟩
  · rw [e]; rfl
  · omega
end
section JP9
variable {dC : Nat → ClassId} {dI : Nat → Nat → Nat} {ca : Nat → ClassId} {B : jF} {base : Nat} {G0 G : jT} {E : List (Nat × Nat)} {H0 H : Heap} {zc zs : Nat} {L : List jPin} {M : List jCt} {I : List jIv} {locs : List Loc} {a k n : Nat}
end JP9
end
section
-- p9: the reference's documents: what its JSON tells, places, changes
section
variable {T : Nat → Int → Int} {v u a : Int} {ms mh mx mf mt mb me mi mn mp f : Nat → Int32} {n : Nat}
end
-- places
section
variable {g : Int → Int} {n w a p a1 p1 : Int}
theorem jdE.z (h : g a ≠ 10) (h1 : g a ≠ 13) : jdE g n a = 0 := if_neg (fun q => q.elim h (fun e => h1 e.1))
end
end
section
-- p9: the reference's open documents as one entry: S, as jdRs tells them
abbrev jFra : List (Nat × Nat) := [(16, 41), (16, 42), (201, 0), (14, 0), (14, 1), (14, 2), (14, 3), (14, 4), (194, 0), (195, 0)]
theorem jFra_sub {x : Nat × Nat} (h : jFrd.contains x = true) : jFra.contains x = true := List.elem_iff.mpr (List.mem_cons_of_mem _ (List.mem_cons_of_mem _ (List.mem_cons_of_mem _ (List.elem_iff.mp h))))
section J95
variable {dC : Nat → ClassId} {dI : Nat → Nat → Nat} {ca : Nat → ClassId} {G G1 : jT} {H H1 : Heap} {r dd n : Nat} {S : Int × (Int → jdD)} {t : jDtr} {fd : Nat → Option Nat} {dc : Int32}
theorem jRS.ie (h : jRS dC dI ca G r S H) : ((jFra, jRS dC dI ca G r S) : jIv).2 H ∧ ∀ H1 H2 : Heap, jAg (dC, dI) G ((jFra, jRS dC dI ca G r S) : jIv).1 H1 H2 → ((jFra, jRS dC dI ca G r S) : jIv).2 H1 → ((jFra, jRS dC dI ca G r S) : jIv).2 H2 := by
  refine ⟨h, fun H1 H2 hA hq => ?_⟩
  obtain ⟨t, fd, dc, dd, ⟨n, h1⟩, h2, h3, h4, h5, h6, h7⟩ := hq
  have hq1 : va_at (dC, dI) vwCl (dd, .inl (ca 4, 3, .inr (.inr (.inr (.inr fd))))) H1 := h4
  refine ⟨t, fd, dc, dd, ⟨n, h1⟩, hA.1 r 16 n 41 _ h1 rfl h2, h3, va_at.kept hq1 (hA.2 dd 201 3 h3 (by omega) (by omega) rfl), hA.1 r 16 n 42 _ h1 rfl h5, ?_, h7⟩
  exact (jRD.ie h6).2 H1 H2 ⟨fun a k n i v ha hm hf => hA.1 a k n i v ha (jFra_sub hm) hf, fun a k n ha k1 k2 hm => hA.2 a k n ha k1 k2 (jFra_sub hm)⟩ h6
theorem jRS.mk (hr : G r = some (16, n)) (p1 : jf (dC, dI) 16 r 41 (.ref dd) H) (hd : G dd = some (201, 3)) (q : jQc dC dI (ca 4) dd 3 fd H) (p2 : jf (dC, dI) 16 r 42 (.int dc) H) (hR : jRD dC dI ca G none t H) (hI : jdIr t fd dc.toInt) : jRS dC dI ca G r (jdRs t fd dc.toInt) H := ⟨t, fd, dc, dd, ⟨n, hr⟩, p1, hd, q, p2, hR, hI, rfl⟩
end J95
-- which document is meant
theorem jdRr.z {fd : Nat → Option Nat} : jdRr fd (-1) = .null := if_pos (by decide)
end
section
-- p9: the reference opens, changes, closes a document
theorem jjCh.e {T : Nat → Int → Int} {v x c : Int} {k : Nat} (hx : -1 ≤ x) (h : jjCh T v x k c) (hc : c < 0) : k = 0 := by
  cases k with
  | zero => rfl
  | succ k =>
    have := h.1
    omega
end
section
-- p9: the reference's tables behind a read; its kept bytes
section
variable {D : Int → Int} {z p v u r q : Int} {T : Nat → Int → Int} {S : Int × (Int → jdD)}
theorem jdMg.nt {m : Int} (hg : jdGd T v = 1) (hi : jdId T v < 0) : (jdMg T v p S).2.2 = jdNs T v p S ∧ (jdMg T v p S).2.1 = p ∧ (((jdMg T v p S).1 = 1 ∧ jqI T v (jChT "exit") 4 (jdMe T v) = 1) ∨ ((jdMg T v p S).1 = 0 ∧ jqI T v (jChT "exit") 4 (jdMe T v) ≠ 1)) := by
  unfold jdMg jdNs
  rw [if_pos hg, if_neg (by omega)]
  by_cases w : jqI T v (jChT "exit") 4 (jdMe T v) = 1
  · rw [if_pos w, if_pos w]; exact ⟨rfl, rfl, Or.inl ⟨rfl, w⟩⟩
  · rw [if_neg w, if_neg w]; exact ⟨rfl, rfl, Or.inr ⟨rfl, w⟩⟩
end
end
section
-- p9: a byte as the reference takes it
section
variable {X : Nat → Int} {s : jdSt} {c r bk pk m h l b cn cv qm qh ql qb qn qv e p z z1 n : Int} {fn fv gn gv fk gk : Nat → Int32} {S S1 : Int × (Int → jdD)} {D : Int → Int}
end
theorem jfCu.z : (fun _ => 0 : Nat → Int32) = jfCu (fun _ => 0) := by
  funext j
  show (0 : Int32) = if j < 3000 then Int32.ofInt 0 else 0
  split <;> rfl
end
section
-- p9: what both sides hold between two calls
section
variable {a0 a1 a2 a3 a4 a5 a6 a7 a8 z bk m h l b cn cv zr : Int} {fb fn fv fk : Nat → Int32} {t t1 : jDtl} {w w1 : jWl9} {S : Int × (Int → jdD)}
end
/-- nothing is told yet -/
def jdZt : jDtl := (fun _ => 0, fun _ => 0, fun _ _ => 0, fun _ => 0, fun _ _ => 0)
theorem jdIv.z {w0 : Nat → Option Nat} {b0 c0 : List Nat} : jdIv jdZt ⟨0, w0, b0, c0⟩ := ⟨fun a => by show (0 : Int) ≤ (0 : Int32).toInt ∧ (0 : Int32).toInt ≤ 1500; decide, fun i hi => by have hi : (i : Int) < 0 := hi; omega, fun i j hi => by have hi : (i : Int) < 0 := hi; omega, Int.le_refl 0⟩
end
section
-- p8: equal units have equal flaws; what a sentence costs
def jcS (f g : Nat → Int32) (d lo hi : Int) : Prop := ∀ j : Int, lo ≤ j → j < hi → jSo f j = jSo g (j + d)
section
variable {f g : Nat → Int32} {d lo hi n m : Int}
theorem jcS.op (h : jcS f g d lo hi) {i : Int} (h0 : lo ≤ i) (h1 : i + 1 < hi) (hn : hi ≤ n) (hm : hi + d ≤ m) : jOpI f i n = jOpI g (i + d) m := by
  have a := h i h0 (by omega)
  have b := h (i + 1) (by omega) h1
  show (if i + 1 < n ∧ jSo f i = 40 ∧ jSo f (i + 1) = 42 then (1 : Int) else 0) = (if i + d + 1 < m ∧ jSo g (i + d) = 40 ∧ jSo g (i + d + 1) = 42 then (1 : Int) else 0)
  rw [a, b, show i + 1 + d = i + d + 1 by omega]
  by_cases q : jSo g (i + d) = 40 ∧ jSo g (i + d + 1) = 42
  · rw [if_pos ⟨by omega, q⟩, if_pos ⟨by omega, q⟩]
  · rw [if_neg (fun w => q w.2), if_neg (fun w => q w.2)]
theorem jcS.cl (h : jcS f g d lo hi) {i : Int} (h0 : lo ≤ i) (h1 : i + 1 < hi) (hn : hi ≤ n) (hm : hi + d ≤ m) : jClI f i n = jClI g (i + d) m := by
  have a := h i h0 (by omega)
  have b := h (i + 1) (by omega) h1
  show (if i + 1 < n ∧ jSo f i = 42 ∧ jSo f (i + 1) = 41 then (1 : Int) else 0) = (if i + d + 1 < m ∧ jSo g (i + d) = 42 ∧ jSo g (i + d + 1) = 41 then (1 : Int) else 0)
  rw [a, b, show i + 1 + d = i + d + 1 by omega]
  by_cases q : jSo g (i + d) = 42 ∧ jSo g (i + d + 1) = 41
  · rw [if_pos ⟨by omega, q⟩, if_pos ⟨by omega, q⟩]
  · rw [if_neg (fun w => q w.2), if_neg (fun w => q w.2)]
/-- a comment ends at the same place -/
theorem jcS.bc (h : jcS f g d lo hi) (hn : hi ≤ n) (hm : hi + d ≤ m) : ∀ (k k1 : Nat) (i c r : Int), lo ≤ i → jBc f n k i c = r → 0 ≤ r → 0 ≤ i → r ≤ hi → r - i < k1 → jBc g m k1 (i + d) c = r + d
  | 0, _, i, c, r, _, e, h0, _, _, _ => by
    have e : (-1 : Int) = r := e
    omega
  | k + 1, k1, i, c, r, hl, e, h0, hi0, hr, hk => by
    rw [jBc_s (by omega), show k + 1 - 1 = k by omega] at e
    by_cases q : i < n
    · rw [if_pos q] at e
      have hk1 : 0 < k1 := by
        have : i < r := by
          by_cases w : jOpI f i n = 1
          · rw [if_pos w] at e
            rcases jBc.rg (f := f) (n := n) k (i + 2) (c + 1) with z | z <;> omega
          · rw [if_neg w] at e
            by_cases v : jClI f i n = 1
            · rw [if_pos v] at e
              by_cases y : c = 1
              · rw [if_pos y] at e; omega
              · rw [if_neg y] at e
                rcases jBc.rg (f := f) (n := n) k (i + 2) (c - 1) with z | z <;> omega
            · rw [if_neg v] at e
              rcases jBc.rg (f := f) (n := n) k (i + 1) c with z | z <;> omega
        omega
      by_cases w : jOpI f i n = 1
      · rw [if_pos w] at e
        have z := jBc.rg (f := f) (n := n) k (i + 2) (c + 1)
        have o := h.op (i := i) (n := n) (m := m) hl (by omega) hn hm
        have := (jOpI.in (o.symm.trans w)).1
        rw [jBc_s hk1, if_pos (by omega), if_pos (o.symm.trans w), show i + d + 2 = i + 2 + d by omega]
        exact jcS.bc h hn hm k (k1 - 1) (i + 2) (c + 1) r (by omega) e h0 (by omega) hr (by omega)
      · rw [if_neg w] at e
        by_cases v : jClI f i n = 1
        · rw [if_pos v] at e
          have h1 : i + 1 < hi := by
            by_cases y : c = 1
            · rw [if_pos y] at e; omega
            · rw [if_neg y] at e
              rcases jBc.rg (f := f) (n := n) k (i + 2) (c - 1) with z | z <;> omega
          have o := h.op (i := i) (n := n) (m := m) hl h1 hn hm
          have o2 := h.cl (i := i) (n := n) (m := m) hl h1 hn hm
          have := (jClI.in (o2.symm.trans v)).1
          rw [jBc_s hk1, if_pos (by omega), if_neg (fun z => w (o.trans z)), if_pos (o2.symm.trans v)]
          by_cases y : c = 1
          · rw [if_pos y] at e ⊢; omega
          · rw [if_neg y] at e ⊢
            rw [show i + d + 2 = i + 2 + d by omega]
            exact jcS.bc h hn hm k (k1 - 1) (i + 2) (c - 1) r (by omega) e h0 (by omega) hr (by omega)
        · rw [if_neg v] at e
          have h1 : i + 1 < hi := by rcases jBc.rg (f := f) (n := n) k (i + 1) c with z | z <;> omega
          have o := h.op (i := i) (n := n) (m := m) hl h1 hn hm
          have o2 := h.cl (i := i) (n := n) (m := m) hl h1 hn hm
          rw [jBc_s hk1, if_pos (by omega), if_neg (fun z => w (o.trans z)), if_neg (fun z => v (o2.trans z)), show i + d + 1 = i + 1 + d by omega]
          exact jcS.bc h hn hm k (k1 - 1) (i + 1) c r (by omega) e h0 (by omega) hr (by omega)
    · rw [if_neg q] at e; omega
end
theorem jcW_e {f : Nat → Int32} {e i : Int} {k : Nat} (h : e ≤ i ∨ jcSg (jSo f i) = 0) : jcW f e k i = i := by
  cases k with
  | zero => rfl
  | succ k => exact if_neg (fun q => by omega)
section
variable {f : Nat → Int32} {n e i i1 : Int}
theorem jcV.op (h : jcV f n e i) (h0 : 0 ≤ e) (hi : i < e) (ho : jOpI f i n = 1) : 0 ≤ jBcc f n i ∧ i + 2 ≤ jBcc f n i ∧ jBcc f n i ≤ e ∧ jcV f n e (jBcc f n i) := by
  rcases h with h | ⟨x, hx, h⟩
  · omega
  · have hn := (jOpI.in ho).1
    rw [jSx_s (by omega), if_pos (by omega), if_pos ho] at h
    by_cases w : jBcc f n i < 0
    · rw [if_pos w] at h; omega
    · rw [if_neg w] at h
      have r := jBcc.rg (f := f) (n := n) (i := i)
      have r2 := jSx.rg (f := f) (n := n) (x - 1) (jBcc f n i)
      exact ⟨by omega, by omega, by omega, Or.inr ⟨x - 1, by omega, h⟩⟩
theorem jcV.ot (h : jcV f n e i) (h0 : 0 ≤ e) (hi : i < e) (ho : jOpI f i n ≠ 1) : jcV f n e (i + 1) := by
  rcases h with h | ⟨x, hx, h⟩
  · omega
  · have r := jSx.rg (f := f) (n := n) x i
    rw [jSx_s (by omega), if_pos (by omega), if_neg ho] at h
    by_cases w : jDt f n i = 1
    · rw [if_pos w] at h; exact Or.inl h
    · rw [if_neg w] at h; exact Or.inr ⟨x - 1, by omega, h⟩
theorem jcSg.no (h : jcSg (jSo f i) = 1) : jOpI f i n ≠ 1 := fun ho => by
  have := (jOpI.in ho).2.1
  rw [this] at h
  exact absurd h (by decide)
theorem jcV.ru (h0 : 0 ≤ e) : ∀ (k : Nat) (i : Int), jcV f n e i → jcV f n e (jcW f e k i)
  | 0, _, h => h
  | k + 1, i, h => by
    by_cases w : i < e ∧ jcSg (jSo f i) = 1
    · rw [show jcW f e (k + 1) i = jcW f e k (i + 1) from if_pos w]
      exact jcV.ru h0 k (i + 1) (h.ot h0 w.1 (jcSg.no w.2))
    · rw [show jcW f e (k + 1) i = i from if_neg w]
      exact h
theorem jcV.oe (h : jcV f n e i) (h0 : 0 ≤ e) (hn : e ≤ n) (hi : i < e) : jOpI f i e = jOpI f i n := by
  by_cases w : jOpI f i n = 1
  · have := jcV.op h h0 hi w
    rw [w]
    have q := jOpI.in w
    exact if_pos ⟨by omega, q.2⟩
  · have e1 : jOpI f i n = 0 := by have := jOpI_le f i n; omega
    rw [e1]
    by_cases v : jOpI f i e = 1
    · have q := jOpI.in v
      exact absurd (if_pos ⟨by omega, q.2⟩ : jOpI f i n = 1) w
    · have := jOpI_le f i e
      omega
theorem jcV.be (h : jcV f n e i) (h0 : 0 ≤ e) (hn : e ≤ n) (hp : 0 ≤ i) (hi : i < e) (ho : jOpI f i n = 1) : jBcc f e i = jBcc f n i := by
  obtain ⟨a, b, c, -⟩ := jcV.op h h0 hi ho
  have s : jcS f f 0 0 e := fun j _ _ => by rw [Int.add_zero]
  have := s.bc (n := n) (m := e) hn (by omega) ((n - i).toNat + 1) ((e - i).toNat + 1) i 0 (jBcc f n i) hp rfl a hp c (by omega)
  rw [Int.add_zero, Int.add_zero] at this
  exact this
variable {k : Nat} {c : Int}
theorem jcK_c (hk : 0 < k) (hi : i < e) (ho : jOpI f i n = 1) (e1 : i1 = jBcc f n i) : jcK f n e (k - 1) i1 = jcK f n e k i := by rw [jcK_s hk, if_pos hi, if_pos ho, e1]
theorem jcK_w (hk : 0 < k) (hi : i < e) (hl : jcLe (jSo f i) = 1) (e1 : i1 = jcWd f e i) (hc : c = if i1 - i ≤ 10 then 1 else i1 - i) : c + jcK f n e (k - 1) i1 = jcK f n e k i := by
  rw [jcK_s hk, if_pos hi, if_neg (jcSg.no (jcLe.sg hl)), if_pos hl, hc, e1]
theorem jcK_a (hk : 0 < k) (hi : i + 1 < e) (h : jSo f i = 45) (h2 : jSo f (i + 1) = 62) (e1 : i1 = i + 2) : 1 + jcK f n e (k - 1) i1 = jcK f n e k i := by
  rw [jcK_s hk, if_pos (by omega), if_neg (fun q => by have := (jOpI.in q).2.1; omega), if_neg (by rw [h]; decide), if_pos ⟨h, hi, h2⟩, e1]
theorem jcK_b (hk : 0 < k) (hi : i < e) (h : jBlk (jSo f i) = 1) (e1 : i1 = i + 1) : jcK f n e (k - 1) i1 = jcK f n e k i := by
  have q : jSo f i = 32 ∨ jSo f i = 9 ∨ jSo f i = 10 ∨ jSo f i = 13 := by
    unfold jBlk at h
    split at h
    · rename_i w; exact w
    · omega
  have q2 : ¬ jcLe (jSo f i) = 1 := by
    rcases q with q | q | q | q <;> rw [q] <;> decide
  rw [jcK_s hk, if_pos hi, if_neg (fun z => by have := (jOpI.in z).2.1; omega), if_neg q2, if_neg (fun z => by omega), if_pos h, e1]
theorem jcK_o (hk : 0 < k) (hi : i < e) (ho : jOpI f i n ≠ 1) (hl : jcLe (jSo f i) ≠ 1) (ha : ¬ (jSo f i = 45 ∧ i + 1 < e ∧ jSo f (i + 1) = 62)) (hb : jBlk (jSo f i) ≠ 1) (e1 : i1 = i + 1) : 1 + jcK f n e (k - 1) i1 = jcK f n e k i := by
  rw [jcK_s hk, if_pos hi, if_neg ho, if_neg hl, if_neg ha, if_neg hb, e1]
theorem jcK_e (hi : e ≤ i) : jcK f n e k i = 0 := by
  cases k with
  | zero => rfl
  | succ k => exact if_neg (by omega)
end
theorem jcBn {f : Nat → Int32} {i n : Int} (h : jBlk (jSo f i) = 1) : jOpI f i n ≠ 1 := fun q => by
  have := (jOpI.in q).2.1
  rw [this] at h
  exact absurd h (by decide)
theorem jcW_t {f : Nat → Int32} {e i i1 : Int} (hi : i < e) (h : jcSg (jSo f i) = 1) (e1 : i1 = i + 1) : jcW f e (e - i1).toNat i1 = jcW f e (e - i).toNat i := by
  rw [show (e - i1).toNat = (e - i).toNat - 1 by omega]
  exact jcW_s (by omega) hi h e1
end
section
-- p8: what is checked, by whom, who waits, what the cache keeps: a machine over the documents' numbers
/-- what work(k) answers, and leaves -/
def jwWork (S : Int × (Int → jdD)) (k : Int) (Z : jwSt) : Int × jwSt := if 0 ≤ k ∧ k ≤ 10000 then jwWk S k.toNat Z else (-1, Z)
end
section
-- p8: rows of units in arrays; the cache
theorem jwSa.no {f l g : Nat → Int32} {C : List (List Int)} {R : List Int} {c z s k c1 : Int} (h : jwSa f l g c z s k) (hs : s = 0) (hC : jwCh f l C) (hR : jcL g z.toNat 0 = R) (hz : 0 ≤ z) (h0 : 0 ≤ c) (hp : jwIp C R c) (e : c1 = c + 1) : jwIp C R c1 := fun i hi w => by
  by_cases q : (i : Int) = c
  · rcases h with ⟨a, -⟩ | ⟨-, d⟩
    · omega
    · rcases d with d | ⟨j, j0, j1, d⟩
      · exact hC.ne (k := 0) w q.symm hR (Or.inl d) hz rfl
      · exact hC.ne (k := j) w q.symm hR (Or.inr ⟨j0, j1, d⟩) hz rfl
  · exact hp i (by omega) w
theorem jwSa.yes {f l g : Nat → Int32} {C : List (List Int)} {R : List Int} {c z s k r : Int} (h : jwSa f l g c z s k) (hs : s ≠ 0) (hk : z ≤ k) (hC : jwCh f l C) (hR : jcL g z.toNat 0 = R) (hz : 0 ≤ z) (h0 : 0 ≤ c) (hc : c < C.length) (hp : jwIp C R c) (e : r = c) : jwIx C R r := by
  subst e
  rcases h with ⟨-, b, d⟩ | ⟨a, -⟩
  · have hl : r.toNat < C.length := by omega
    have hg : C[r.toNat]? = some C[r.toNat] := List.getElem?_eq_getElem hl
    have e := hC.eq (g := g) (R := R) (z := z) hg (by omega : r = ((r.toNat : Nat) : Int)) hR b hz (fun j j0 j1 => d j j0 (by omega))
    rw [e] at hg
    exact Or.inr ⟨h0, hc, hg, hp⟩
  · exact absurd a hs
end
section
-- p8: what the loops over documents, requests and the cache take
section
variable {S : Int × (Int → jdD)} {Z : jwSt} {d d1 x x1 : Int} {k : Nat}
theorem jwN_f (hk : 0 < k) (h : Z.1 d < jwS S d) (h0 : (Z.2.1 0).1 ≠ d) (h1 : (Z.2.1 1).1 ≠ d) (ha : jwAs Z.2.2.1 d ≠ true) (e : d1 = d + 1) (ex : x1 = if x < 0 then d else x) : jwN S Z (k - 1) d1 x1 = jwN S Z k d x := by rw [jwN_s hk, if_pos ⟨h, h0, h1⟩, if_neg ha, e, ex]
theorem jwN_n (hk : 0 < k) (h : jwS S d ≤ Z.1 d ∨ (Z.2.1 0).1 = d ∨ (Z.2.1 1).1 = d) (e : d1 = d + 1) : jwN S Z (k - 1) d1 x = jwN S Z k d x := by
  rw [jwN_s hk, if_neg (fun q => by
    rcases h with h | h | h
    · omega
    · exact q.2.1 h
    · exact q.2.2 h), e]
end
-- lists by index
theorem jwAs.no {Q : List jwQ} {d : Int} (h : ∀ (i : Nat) (q : jwQ), Q[i]? = some q → q.1 ≠ d) : jwAs Q d ≠ true := fun w => by
  unfold jwAs at w
  rw [List.any_eq_true] at w
  obtain ⟨q, hq, e⟩ := w
  obtain ⟨i, hi⟩ := List.mem_iff_getElem?.mp hq
  exact h i q hi (of_decide_eq_true e)
end
section
-- p8: rows that move down in the cache; who waits, in arrays
theorem jwCm.st {f l : Nat → Int32} {C : List (List Int)} {c i : Int} (h : jwCh f l C) (e : i = c) : jwCm f l C c i := fun j r hr => by
  unfold jwMv at hr
  rw [if_neg (by omega)] at hr
  exact h j r hr
theorem jwCi.st {f l l1 : Nat → Int32} {C : List (List Int)} {c i k v : Int} (h : jwCm f l C c i) (hl : jUpd 24 l l1 i v) (hv : v = jSo l (i + 1)) (h0 : 0 ≤ i) (hi : i + 1 < C.length) (hC : C.length ≤ 24) (ek : k = 0) : jwCi f l1 C c i k := by
  refine ⟨fun j r hj hr => ?_, ?_, fun x x0 x1 => by omega⟩
  · have hj2 : (j : Int) < 24 := by
      unfold jwMv at hr
      split at hr <;> (have := (List.getElem?_eq_some_iff.mp hr).1; omega)
    exact (h j r hr).cg (hl.2 j (by omega) hj2 hj) (fun x _ _ => rfl)
  · rw [hl.1, hl.2 (i + 1) (by omega) (by omega) (by omega), hv]
theorem jwCp.st {f l l1 g : Nat → Int32} {C : List (List Int)} {z k i : Int} (h : jwCh f l C) (hl : jUpd 24 l l1 i z) (hi : i = C.length) (hC : C.length < 24) (e : k = 0) : jwCp f l1 g C z k := by
  refine ⟨fun j r hr => ?_, by rw [← hi]; exact hl.1, fun x x0 x1 => by omega⟩
  have := (List.getElem?_eq_some_iff.mp hr).1
  exact jwRo.cg (h j r hr) (hl.2 j (by omega) (by omega) (by omega)) (fun x _ _ => rfl)
theorem jwKo.f {C : List (List Int)} {R : List Int} {r c : Int} (h : jwIx C R r) (h0 : r < 0) (hC : 24 ≤ C.length) (e : c = 0) : C.eraseIdx c.toNat = jwKo C R := by
  subst e
  rcases h with ⟨-, h⟩ | ⟨h, -⟩
  · unfold jwKo
    rw [if_neg h, if_pos hC]
    cases C <;> rfl
  · omega
theorem jwKo.kp {C : List (List Int)} {R : List Int} : jwKo C R ++ [R] = jwKp C R := rfl
-- who waits: address of the document, sentences that are needed, id
end
section
-- p8: who waits, in arrays: one goes, one comes
theorem jwSi.st {n b lo hi : Int} {f : Nat → Int32} (e : hi = lo) : jwSi n f f b lo hi := fun j _ _ => by rw [if_neg (by omega)]
theorem jwSq.st {n : Nat} {lo hi : Int} {f : Nat → Option Nat} (e : hi = lo) : jwSq n f f lo hi := fun j _ => by rw [if_neg (by omega)]
theorem jwUq.st {wu fi : Nat → Int32} {n k : Int} (e : k = 0) : jwUq wu wu fi n k := ⟨fun x x0 x1 => by omega, fun y _ _ => rfl⟩
theorem jwWr.el {n i : Int} {wo : Nat → Option Nat} {wd ws wi wu we : Nat → Int32} {W : List jwA} (h : jwWr n wo wd ws wi wu we W) (h0 : 0 ≤ i) (h1 : i < n) : ∃ a, W[i.toNat]? = some a ∧ wo i.toNat = some a.1 ∧ jSo wd i = a.2.1 ∧ jwWi ws wi wu we i = a.2.2 ∧ (jSo ws i = 1 → 0 ≤ jSo we i ∧ jSo we i ≤ 20) := by
  have hl : i.toNat < W.length := by have := h.1; omega
  have hg : W[i.toNat]? = some W[i.toNat] := List.getElem?_eq_getElem hl
  obtain ⟨g1, g2, g3, g4⟩ := h.2.2 _ _ hg
  rw [show ((i.toNat : Nat) : Int) = i by omega] at g2 g3 g4
  exact ⟨_, hg, g1, g2, g3, g4⟩
/-- what a pass leaves: the first v are looked at -/
def jwPs (p : jwA → Bool) (W0 W : List jwA) (v : Int) : Prop := 0 ≤ v ∧ v ≤ W.length ∧ W0.filter p = (W.take v.toNat) ++ (W.drop v.toNat).filter p ∧ ∀ a ∈ W.take v.toNat, p a = true
theorem jwPs.st {p : jwA → Bool} {W : List jwA} {v : Int} (e : v = 0) : jwPs p W W v := by
  subst e
  exact ⟨by omega, by omega, rfl, fun a ha => by cases ha⟩
theorem jwDr {W : List jwA} {i : Nat} {a : jwA} (h : W[i]? = some a) : W.drop i = a :: W.drop (i + 1) := by
  obtain ⟨hl, e⟩ := List.getElem?_eq_some_iff.mp h
  rw [List.drop_eq_getElem_cons hl, e]
theorem jwTa {W : List jwA} {i : Nat} {a : jwA} (h : W[i]? = some a) : W.take (i + 1) = W.take i ++ [a] := by
  rw [List.take_add_one, h]; rfl
theorem jwPs.k {p : jwA → Bool} {W0 W : List jwA} {v v1 : Int} {a : jwA} (h : jwPs p W0 W v) (ha : W[v.toNat]? = some a) (hp : p a = true) (e : v1 = v + 1) : jwPs p W0 W v1 := by
  obtain ⟨h0, h1, h2, h3⟩ := h
  subst e
  have hl := (List.getElem?_eq_some_iff.mp ha).1
  have e1 : (v + 1).toNat = v.toNat + 1 := by omega
  refine ⟨by omega, by omega, ?_, fun b hb => ?_⟩
  · rw [h2, jwDr ha, e1, jwTa ha, List.filter_cons_of_pos hp, List.append_assoc]; rfl
  · rw [e1, jwTa ha, List.mem_append] at hb
    rcases hb with hb | hb
    · exact h3 b hb
    · rw [List.mem_singleton.mp hb]; exact hp
theorem jwEi {W : List jwA} {i : Nat} : (W.eraseIdx i).take i = W.take i ∧ (W.eraseIdx i).drop i = W.drop (i + 1) := by
  by_cases q : i ≤ W.length
  · rw [List.eraseIdx_eq_take_drop_succ]
    have hl : (W.take i).length = i := by rw [List.length_take]; omega
    refine ⟨?_, ?_⟩
    · rw [List.take_append_of_le_length (by omega), List.take_take, Nat.min_self]
    · rw [List.drop_append_of_le_length (by omega), List.drop_take, Nat.sub_self, List.take_zero, List.nil_append]
  · rw [List.eraseIdx_of_length_le (by omega)]
    exact ⟨rfl, by rw [List.drop_of_length_le (by omega), List.drop_of_length_le (by omega)]⟩
theorem jwPs.d {p : jwA → Bool} {W0 W : List jwA} {v : Int} {a : jwA} (h : jwPs p W0 W v) (ha : W[v.toNat]? = some a) (hp : ¬ p a = true) : jwPs p W0 (W.eraseIdx v.toNat) v := by
  obtain ⟨h0, h1, h2, h3⟩ := h
  have hl := (List.getElem?_eq_some_iff.mp ha).1
  have hz : (W.eraseIdx v.toNat).length = W.length - 1 := by rw [List.length_eraseIdx, if_pos hl]
  refine ⟨h0, by omega, ?_, fun b hb => ?_⟩
  · rw [h2, jwDr ha, List.filter_cons_of_neg hp, jwEi.1, jwEi.2]
  · rw [jwEi.1] at hb; exact h3 b hb
theorem jwPs.e {p : jwA → Bool} {W0 W : List jwA} {v : Int} (h : jwPs p W0 W v) (hv : (W.length : Int) ≤ v) : W = W0.filter p := by
  obtain ⟨h0, h1, h2, h3⟩ := h
  rw [h2, List.drop_of_length_le (by omega), List.take_of_length_le (by omega)]
  exact (List.append_nil _).symm
end
section
-- p8: a finished sentence; ids as the reference compares them
theorem jcV.fl {f : Nat → Int32} {n : Int} {k : Nat} (h : ¬ 0 < jcF f n k) : jcV f n (jcE f n k) (jcB f n k) := by
  unfold jcF at h
  by_cases m : jcM f n k = 1
  · rw [if_pos m] at h; omega
  · rw [if_neg m] at h
    by_cases q : jSen f n (jcB f n k) < 0
    · rw [if_pos q] at h; omega
    · have e : jcE f n k = jSen f n (jcB f n k) := by
        unfold jcE
        rw [if_neg m]
        unfold jEn
        rw [if_neg q]
      rw [e]
      exact jcV.of rfl
theorem jwSi.h {n b lo hi h1 : Int} {f g : Nat → Int32} (h : jwSi n f g b lo hi) (e : h1 = hi) : jwSi n f g b lo h1 := by subst e; exact h
theorem jwSb.st {wu : Nat → Int32} {T : Nat → Int → Int} {v x b z s k : Int} (h : (s = 1 ∧ z = T 3 x) ∨ (s = 0 ∧ z ≠ T 3 x)) (ek : k = 0) : jwSb wu T v x b z s k := by
  rcases h with h | h
  · exact Or.inl ⟨h.1, h.2, fun j a c => by omega⟩
  · exact Or.inr ⟨h.1, Or.inl h.2⟩
theorem jwSb.z {wu : Nat → Int32} {T : Nat → Int → Int} {v x b z s s1 k k1 : Int} (h : jwSb wu T v x b z s k) (hs : s = 0) (e : s1 = 0) : jwSb wu T v x b z s1 k1 := by
  rcases h with ⟨a, -⟩ | ⟨-, d⟩
  · omega
  · exact Or.inr ⟨e, d⟩
end
section
-- p8: what is told of all documents of the class: sentences, what is checked, the check that goes on (written by mkent.py)
abbrev jFkd : List (Nat × Nat) := [(3, 4), (3, 5), (3, 6), (3, 7), (3, 9), (3, 10), (3, 11), (3, 12), (3, 13), (171, 0), (172, 0), (176, 0), (210, 0)]
section J81
variable {dC : Nat → ClassId} {dI : Nat → Nat → Nat} {ca : Nat → ClassId} {G G1 : jT} {H H1 : Heap} {x : Option Nat} {q : jKg}
variable {a ysb yse ysc ybh : Nat} {sn : Int32} {ck : Int32} {lf : Int32} {cv : Value} {fv : Value} {sb : Nat → Int32} {se : Nat → Int32} {sc : Nat → Int32} {bh : Nat → Option Nat}
theorem jK1.gy (h : jK1 dC dI ca G a ysb yse ysc ybh sn ck lf cv fv sb se sc bh H) : G ysb = some (171, 40) ∧ G yse = some (172, 40) ∧ G ysc = some (176, 40) ∧ G ybh = some (210, 40) := by
  obtain ⟨h1, h2, h3⟩ := h
  exact ⟨(h2 _ List.mem_cons_self).1, (h2 _ (List.mem_cons_of_mem _ List.mem_cons_self)).1, (h2 _ (List.mem_cons_of_mem _ (List.mem_cons_of_mem _ List.mem_cons_self))).1, h3.1⟩
theorem jKD.ie (h : jKD dC dI ca G x q H) : ((jFkd, jKD dC dI ca G x q) : jIv).2 H ∧ ∀ H1 H2 : Heap, jAg (dC, dI) G ((jFkd, jKD dC dI ca G x q) : jIv).1 H1 H2 → ((jFkd, jKD dC dI ca G x q) : jIv).2 H1 → ((jFkd, jKD dC dI ca G x q) : jIv).2 H2 := by
  refine ⟨h, fun H1 H2 hA hq => ?_⟩
  obtain ⟨Ysb, Yse, Ysc, Ybh, h1, i0, i1, i2, i3, h3⟩ := hq
  refine ⟨Ysb, Yse, Ysc, Ybh, fun a n ha => ?_, i0, i1, i2, i3, fun a n ha hx => ?_⟩
  · obtain ⟨g0, e0, g1, e1, g2, e2, g3, e3⟩ := h1 a n ha
    exact ⟨hA.1 a 3 n 5 _ ha rfl g0, e0, hA.1 a 3 n 6 _ ha rfl g1, e1, hA.1 a 3 n 7 _ ha rfl g2, e2, hA.1 a 3 n 9 _ ha rfl g3, e3⟩
  · have g := h3 a n ha hx
    obtain ⟨e0, e1, e2, e3⟩ := g.gy
    refine g.of (fun i v hi hf => ?_) (hA.2 _ _ _ e0 (by omega) (by omega) rfl) (hA.2 _ _ _ e1 (by omega) (by omega) rfl) (hA.2 _ _ _ e2 (by omega) (by omega) rfl) (hA.2 _ _ _ e3 (by omega) (by omega) rfl)
    rcases hi with rfl | rfl | rfl | rfl | rfl
    · exact hA.1 a 3 n 4 _ ha rfl hf
    · exact hA.1 a 3 n 10 _ ha rfl hf
    · exact hA.1 a 3 n 13 _ ha rfl hf
    · exact hA.1 a 3 n 11 _ ha rfl hf
    · exact hA.1 a 3 n 12 _ ha rfl hf
theorem jKD.opn {n : Nat} (h : jKD dC dI ca G none q H) (ha : G a = some (3, n)) : (∃ (ysb yse ysc ybh : Nat), G ysb = some (171, 40) ∧ G yse = some (172, 40) ∧ G ysc = some (176, 40) ∧ G ybh = some (210, 40) ∧ jP (dC, dI) G H [(a, 3, 5, .ref ysb), (a, 3, 6, .ref yse), (a, 3, 7, .ref ysc), (a, 3, 9, .ref ybh), (a, 3, 4, .int (q.sn a)), (a, 3, 10, .int (q.ck a)), (a, 3, 13, .int (q.lf a)), (a, 3, 11, (q.cv a)), (a, 3, 12, (q.fv a))] ∧ jMc (dC, dI) G H [(ysb, 171, 40, ca 1, q.sb a), (yse, 172, 40, ca 1, q.se a), (ysc, 176, 40, ca 1, q.sc a)] ∧ jQc dC dI (ca 6) ybh 40 (q.bh a) H) ∧ jKD dC dI ca G (some a) q H := by
  refine ⟨h.at ha (fun z => by cases z), ?_⟩
  obtain ⟨Ysb, Yse, Ysc, Ybh, h1, i0, i1, i2, i3, h3⟩ := h
  exact ⟨Ysb, Yse, Ysc, Ybh, h1, i0, i1, i2, i3, fun b m hb _ => h3 b m hb (fun z => by cases z)⟩
theorem jKD.full {n : Nat} (h : jKD dC dI ca G (some a) q H) (ha : G a = some (3, n)) (p5 : jf (dC, dI) 3 a 5 (.ref ysb) H) (p6 : jf (dC, dI) 3 a 6 (.ref yse) H) (p7 : jf (dC, dI) 3 a 7 (.ref ysc) H) (p9 : jf (dC, dI) 3 a 9 (.ref ybh) H) (p4 : jf (dC, dI) 3 a 4 (.int sn) H) (p10 : jf (dC, dI) 3 a 10 (.int ck) H) (p13 : jf (dC, dI) 3 a 13 (.int lf) H) (p11 : jf (dC, dI) 3 a 11 cv H) (p12 : jf (dC, dI) 3 a 12 fv H) (hM : jMc (dC, dI) G H [(ysb, 171, 40, ca 1, sb), (yse, 172, 40, ca 1, se), (ysc, 176, 40, ca 1, sc)]) (hQ0 : jQc dC dI (ca 6) ybh 40 bh H) : jKD dC dI ca G none (q.put a sn ck lf cv fv sb se sc bh) H := by
  obtain ⟨Ysb, Yse, Ysc, Ybh, h1, i0, i1, i2, i3, h3⟩ := h
  obtain ⟨g0, e0, g1, e1, g2, e2, g3, e3⟩ := h1 a n ha
  have y0 : Ysb a = ysb := by have z := jf.uniq g0 p5; cases z; rfl
  have y1 : Yse a = yse := by have z := jf.uniq g1 p6; cases z; rfl
  have y2 : Ysc a = ysc := by have z := jf.uniq g2 p7; cases z; rfl
  have y3 : Ybh a = ybh := by have z := jf.uniq g3 p9; cases z; rfl
  refine ⟨Ysb, Yse, Ysc, Ybh, h1, i0, i1, i2, i3, fun b m hb _ => ?_⟩
  by_cases e : b = a
  · subst e
    show jK1 dC dI ca G b (Ysb b) (Yse b) (Ysc b) (Ybh b) (jUf q.sn b sn b) (jUf q.ck b ck b) (jUf q.lf b lf b) (jUf q.cv b cv b) (jUf q.fv b fv b) (jUf q.sb b sb b) (jUf q.se b se b) (jUf q.sc b sc b) (jUf q.bh b bh b) H
    rw [jUf_s, jUf_s, jUf_s, jUf_s, jUf_s, jUf_s, jUf_s, jUf_s, jUf_s, y0, y1, y2, y3]
    refine ⟨fun z hz => ?_, hM, ⟨by rw [← y3]; exact e3, hQ0⟩⟩
    simp only [List.mem_cons, List.not_mem_nil, or_false] at hz
    rcases hz with rfl | rfl | rfl | rfl | rfl
    · exact ⟨⟨_, hb⟩, p4⟩
    · exact ⟨⟨_, hb⟩, p10⟩
    · exact ⟨⟨_, hb⟩, p13⟩
    · exact ⟨⟨_, hb⟩, p11⟩
    · exact ⟨⟨_, hb⟩, p12⟩
  · show jK1 dC dI ca G b (Ysb b) (Yse b) (Ysc b) (Ybh b) (jUf q.sn a sn b) (jUf q.ck a ck b) (jUf q.lf a lf b) (jUf q.cv a cv b) (jUf q.fv a fv b) (jUf q.sb a sb b) (jUf q.se a se b) (jUf q.sc a sc b) (jUf q.bh a bh b) H
    rw [jUf_n _ _ e, jUf_n _ _ e, jUf_n _ _ e, jUf_n _ _ e, jUf_n _ _ e, jUf_n _ _ e, jUf_n _ _ e, jUf_n _ _ e, jUf_n _ _ e]
    exact h3 b m hb (fun z => e (Option.some.inj z).symm)
theorem jKD.fld {n : Nat} (h : jKD dC dI ca G (some a) q H) (ha : G a = some (3, n)) (hfr : ∀ p, p ≠ a → H1[p]? = H[p]?) (p5 : jf (dC, dI) 3 a 5 (.ref ysb) H) (p6 : jf (dC, dI) 3 a 6 (.ref yse) H) (p7 : jf (dC, dI) 3 a 7 (.ref ysc) H) (p9 : jf (dC, dI) 3 a 9 (.ref ybh) H) (r5 : jf (dC, dI) 3 a 5 (.ref ysb) H1) (r6 : jf (dC, dI) 3 a 6 (.ref yse) H1) (r7 : jf (dC, dI) 3 a 7 (.ref ysc) H1) (r9 : jf (dC, dI) 3 a 9 (.ref ybh) H1) : jKD dC dI ca G (some a) q H1 := by
  obtain ⟨Ysb, Yse, Ysc, Ybh, h1, i0, i1, i2, i3, h3⟩ := h
  have hk : ∀ y k n, 100 ≤ k → G y = some (k, n) → y ≠ a := fun y k n hk hy e => by
    rw [e, ha] at hy
    have := congrArg Prod.fst (Option.some.inj hy)
    have this : 3 = k := this
    omega
  refine ⟨Ysb, Yse, Ysc, Ybh, fun b m hb => ?_, i0, i1, i2, i3, fun b m hb hx => ?_⟩
  · obtain ⟨g0, e0, g1, e1, g2, e2, g3, e3⟩ := h1 b m hb
    by_cases e : b = a
    · subst e
      have y0 : Ysb b = ysb := by have z := jf.uniq g0 p5; cases z; rfl
      have y1 : Yse b = yse := by have z := jf.uniq g1 p6; cases z; rfl
      have y2 : Ysc b = ysc := by have z := jf.uniq g2 p7; cases z; rfl
      have y3 : Ybh b = ybh := by have z := jf.uniq g3 p9; cases z; rfl
      exact ⟨by rw [y0]; exact r5, e0, by rw [y1]; exact r6, e1, by rw [y2]; exact r7, e2, by rw [y3]; exact r9, e3⟩
    · exact ⟨g0.kept (hfr b e), e0, g1.kept (hfr b e), e1, g2.kept (hfr b e), e2, g3.kept (hfr b e), e3⟩
  · have e : b ≠ a := fun z => hx (by rw [z])
    have g := h3 b m hb hx
    obtain ⟨e0, e1, e2, e3⟩ := g.gy
    exact g.of (fun i v hi hf => hf.kept (hfr b e)) (hfr _ (hk _ _ _ (by omega) e0)) (hfr _ (hk _ _ _ (by omega) e1)) (hfr _ (hk _ _ _ (by omega) e2)) (hfr _ (hk _ _ _ (by omega) e3))
end J81
end
section
-- p8: what is told of all documents of the reference: sentences, what is checked, the check that goes on (written by mkent.py)
abbrev jFxd : List (Nat × Nat) := [(14, 5), (14, 6), (14, 7), (14, 8), (14, 9), (190, 0), (191, 0), (192, 0)]
section J82
variable {dC : Nat → ClassId} {dI : Nat → Nat → Nat} {ca : Nat → ClassId} {G G1 : jT} {H H1 : Heap} {x : Option Nat} {q : jXg}
variable {a ysb yse ysf : Nat} {sn : Int32} {ck : Int32} {sb : Nat → Int32} {se : Nat → Int32} {sf : Nat → Int32}
theorem jX1d.gy (h : jX1d dC dI ca G a ysb yse ysf sn ck sb se sf H) : G ysb = some (190, 40) ∧ G yse = some (191, 40) ∧ G ysf = some (192, 40) := by
  obtain ⟨h1, h2, -⟩ := h
  exact ⟨(h2 _ List.mem_cons_self).1, (h2 _ (List.mem_cons_of_mem _ List.mem_cons_self)).1, (h2 _ (List.mem_cons_of_mem _ (List.mem_cons_of_mem _ List.mem_cons_self))).1⟩
theorem jXD.ie (h : jXD dC dI ca G x q H) : ((jFxd, jXD dC dI ca G x q) : jIv).2 H ∧ ∀ H1 H2 : Heap, jAg (dC, dI) G ((jFxd, jXD dC dI ca G x q) : jIv).1 H1 H2 → ((jFxd, jXD dC dI ca G x q) : jIv).2 H1 → ((jFxd, jXD dC dI ca G x q) : jIv).2 H2 := by
  refine ⟨h, fun H1 H2 hA hq => ?_⟩
  obtain ⟨Ysb, Yse, Ysf, h1, i0, i1, i2, h3⟩ := hq
  refine ⟨Ysb, Yse, Ysf, fun a _ ha => ?_, i0, i1, i2, fun a _ ha hx => ?_⟩
  · obtain ⟨g0, e0, g1, e1, g2, e2⟩ := h1 a 0 ha
    exact ⟨hA.1 a 14 0 6 _ ha rfl g0, e0, hA.1 a 14 0 7 _ ha rfl g1, e1, hA.1 a 14 0 8 _ ha rfl g2, e2⟩
  · have g := h3 a 0 ha hx
    obtain ⟨e0, e1, e2⟩ := g.gy
    refine g.of (fun i v hi hf => ?_) (hA.2 _ _ _ e0 (by omega) (by omega) rfl) (hA.2 _ _ _ e1 (by omega) (by omega) rfl) (hA.2 _ _ _ e2 (by omega) (by omega) rfl)
    rcases hi with rfl | rfl
    · exact hA.1 a 14 0 5 _ ha rfl hf
    · exact hA.1 a 14 0 9 _ ha rfl hf
theorem jXD.opn (h : jXD dC dI ca G none q H) (ha : G a = some (14, 0)) : (∃ (ysb yse ysf : Nat), G ysb = some (190, 40) ∧ G yse = some (191, 40) ∧ G ysf = some (192, 40) ∧ jP (dC, dI) G H [(a, 14, 6, .ref ysb), (a, 14, 7, .ref yse), (a, 14, 8, .ref ysf), (a, 14, 5, .int (q.sn a)), (a, 14, 9, .int (q.ck a))] ∧ jMc (dC, dI) G H [(ysb, 190, 40, ca 1, q.sb a), (yse, 191, 40, ca 1, q.se a), (ysf, 192, 40, ca 1, q.sf a)]) ∧ jXD dC dI ca G (some a) q H := by
  refine ⟨h.at ha (fun z => by cases z), ?_⟩
  obtain ⟨Ysb, Yse, Ysf, h1, i0, i1, i2, h3⟩ := h
  exact ⟨Ysb, Yse, Ysf, h1, i0, i1, i2, fun b _ hb _ => h3 b 0 hb (fun z => by cases z)⟩
theorem jXD.full (h : jXD dC dI ca G (some a) q H) (ha : G a = some (14, 0)) (p6 : jf (dC, dI) 14 a 6 (.ref ysb) H) (p7 : jf (dC, dI) 14 a 7 (.ref yse) H) (p8 : jf (dC, dI) 14 a 8 (.ref ysf) H) (p5 : jf (dC, dI) 14 a 5 (.int sn) H) (p9 : jf (dC, dI) 14 a 9 (.int ck) H)  (hM : jMc (dC, dI) G H [(ysb, 190, 40, ca 1, sb), (yse, 191, 40, ca 1, se), (ysf, 192, 40, ca 1, sf)])  : jXD dC dI ca G none (q.put a sn ck sb se sf) H := by
  obtain ⟨Ysb, Yse, Ysf, h1, i0, i1, i2, h3⟩ := h
  obtain ⟨g0, e0, g1, e1, g2, e2⟩ := h1 a 0 ha
  have y0 : Ysb a = ysb := by have z := jf.uniq g0 p6; cases z; rfl
  have y1 : Yse a = yse := by have z := jf.uniq g1 p7; cases z; rfl
  have y2 : Ysf a = ysf := by have z := jf.uniq g2 p8; cases z; rfl
  refine ⟨Ysb, Yse, Ysf, h1, i0, i1, i2, fun b _ hb _ => ?_⟩
  by_cases e : b = a
  · subst e
    show jX1d dC dI ca G b (Ysb b) (Yse b) (Ysf b) (jUf q.sn b sn b) (jUf q.ck b ck b) (jUf q.sb b sb b) (jUf q.se b se b) (jUf q.sf b sf b) H
    rw [jUf_s, jUf_s, jUf_s, jUf_s, jUf_s, y0, y1, y2]
    refine ⟨fun z hz => ?_, hM, trivial⟩
    simp only [List.mem_cons, List.not_mem_nil, or_false] at hz
    rcases hz with rfl | rfl
    · exact ⟨⟨_, hb⟩, p5⟩
    · exact ⟨⟨_, hb⟩, p9⟩
  · show jX1d dC dI ca G b (Ysb b) (Yse b) (Ysf b) (jUf q.sn a sn b) (jUf q.ck a ck b) (jUf q.sb a sb b) (jUf q.se a se b) (jUf q.sf a sf b) H
    rw [jUf_n _ _ e, jUf_n _ _ e, jUf_n _ _ e, jUf_n _ _ e, jUf_n _ _ e]
    exact h3 b 0 hb (fun z => e (Option.some.inj z).symm)
theorem jXD.fld (h : jXD dC dI ca G (some a) q H) (ha : G a = some (14, 0)) (hfr : ∀ p, p ≠ a → H1[p]? = H[p]?) (p6 : jf (dC, dI) 14 a 6 (.ref ysb) H) (p7 : jf (dC, dI) 14 a 7 (.ref yse) H) (p8 : jf (dC, dI) 14 a 8 (.ref ysf) H) (r6 : jf (dC, dI) 14 a 6 (.ref ysb) H1) (r7 : jf (dC, dI) 14 a 7 (.ref yse) H1) (r8 : jf (dC, dI) 14 a 8 (.ref ysf) H1) : jXD dC dI ca G (some a) q H1 := by
  obtain ⟨Ysb, Yse, Ysf, h1, i0, i1, i2, h3⟩ := h
  have hk : ∀ y k n, 100 ≤ k → G y = some (k, n) → y ≠ a := fun y k n hk hy e => by
    rw [e, ha] at hy
    have := congrArg Prod.fst (Option.some.inj hy)
    have this : 14 = k := this
    omega
  refine ⟨Ysb, Yse, Ysf, fun b _ hb => ?_, i0, i1, i2, fun b _ hb hx => ?_⟩
  · obtain ⟨g0, e0, g1, e1, g2, e2⟩ := h1 b 0 hb
    by_cases e : b = a
    · subst e
      have y0 : Ysb b = ysb := by have z := jf.uniq g0 p6; cases z; rfl
      have y1 : Yse b = yse := by have z := jf.uniq g1 p7; cases z; rfl
      have y2 : Ysf b = ysf := by have z := jf.uniq g2 p8; cases z; rfl
      exact ⟨by rw [y0]; exact r6, e0, by rw [y1]; exact r7, e1, by rw [y2]; exact r8, e2⟩
    · exact ⟨g0.kept (hfr b e), e0, g1.kept (hfr b e), e1, g2.kept (hfr b e), e2⟩
  · have e : b ≠ a := fun z => hx (by rw [z])
    have g := h3 b 0 hb hx
    obtain ⟨e0, e1, e2⟩ := g.gy
    exact g.of (fun i v hi hf => hf.kept (hfr b e)) (hfr _ (hk _ _ _ (by omega) e0)) (hfr _ (hk _ _ _ (by omega) e1)) (hfr _ (hk _ _ _ (by omega) e2))
end J82
end
section
def EX13_isNameSignT : List (Nat × Nat) := []
def EX13_scanT : List (Nat × Nat) := [(15, 7), (15, 10), (15, 30), (15, 31), (155, 0), (156, 0), (157, 0), (166, 0), (167, 0)]
def EX13_costT : List (Nat × Nat) := [(15, 7), (15, 10), (15, 30), (15, 31), (155, 0), (156, 0), (157, 0), (166, 0), (167, 0)]
set_option maxHeartbeats 4000000 in
set_option maxRecDepth 20000 in
theorem uX13_isNameSignT (l : Launch) (dC : Nat → ClassId) (dI : Nat → Nat → Nat) (ca : Nat → ClassId) (base : Nat) (B : jF) (hB : jBok B) (hAp : jAp (dC, dI)) (G0 : jT) (H0 : Heap) (a0 : Int32) : Met l yX13_isNameSign (jw yX13_isNameSign cX13_isNameSign 1 (some .boolean)) ({ frames := 2, cells := 0, slots := 0, locals := 42 }) (va_Pc [.int a0] (fun U => U.heap = H0 ∧ jX B base G0 [] H0 ∧ jG dC dI ca base U ∧ jP (dC, dI) G0 H0 [] ∧ True)) (va_Qi (S := Unit) (fun r u => (r = 0 ∨ r = 1) ∧ (r.toInt = jcSg a0.toInt)) (fun u t => jRt (dC, dI) B base G0 EX13_isNameSignT H0 [] t.heap) (jA base)) 0 0 (jA base) := by
  refine Met.ofW (cc := cX13_isNameSign) (maxL := 1) (ret := (some .boolean)) (by decide) rfl ?_
  intro p e s m args below meth c s₁ Bd hml hv
  obtain ⟨rfl, hH0, hX, hG, hP0, hp0⟩ := hv
  have hK := hG.1
  have hx := Bd.exec
  have hb := Bd.bytes
  have hr := Bd.returns
  have hts := atoms_spec (ws := (jw yX13_isNameSign cX13_isNameSign 1 (some .boolean))) Bd.pre
  have htw : ∀ w ∈ jWl, w.before _ s = true := fun w h => hts w (List.mem_cons_of_mem _ h)
  have hown : s.vm.findClass RX13 = some m.cls := findClass_of_methodNamed Bd.named
  have hlocks := Bd.notSynchronized
  obtain ⟨Q, hQ⟩ : ∃ Q, Q = MQ below (va_Qi (S := Unit) (fun r u => (r = 0 ∨ r = 1) ∧ (r.toInt = jcSg a0.toInt)) (fun u t => jRt (dC, dI) B base G0 EX13_isNameSignT H0 [] t.heap) (jA base)) ([.int a0] : List Value).toArray s 0 0 (jA base) := ⟨_, rfl⟩
  rw [← hQ]
  have hl := lv_entry ([.int a0]) (n := 1) (Nat.le_of_ble_eq_true rfl)
  rw [lg_entry_eq]
  generalize (lg_sl ([.int a0]) ++ List.replicate (1 - (lg_sl ([.int a0])).length) Slot.unset).toArray = ls at hl ⊢
  have hl : lv_has ls 1 [(0, .int a0)] := hl
  generalize hR : (headSpec (jw yX13_isNameSign cX13_isNameSign 1 (some .boolean)) ({ frames := 2, cells := 0, slots := 0, locals := 42 })).room = R
  subst hH0
  have hh : jSt (dC, dI) B base G0 G0 EX13_isNameSignT s.heap 0 0 [] [] [] s.heap [] := jSt.start hX hP0 jMc.nil jIs.nil
  clear hX hP0
  have hk0 : (0 : Int32).toInt = 0 := by decide
  have hk1 : (1 : Int32).toInt = 1 := by decide
  have hk39 : (39 : Int32).toInt = 39 := by decide
  have hk48 : (48 : Int32).toInt = 48 := by decide
  have hk57 : (57 : Int32).toInt = 57 := by decide
  have hk95 : (95 : Int32).toInt = 95 := by decide
  have hrg_a0 := jb_rng a0
  refine lv_iload_n hx hb dX13_isNameSign_0 rfl (lv_at hl 0 rfl) ?_
  refine va_calli (A0 := jA base) (H0 := s.heap) (va_runS (As := [.int a0]) (rest := []) ⟨hx, hb, hml, hown, hts⟩ (uX13_isLetter l dC dI ca base B hB hAp G0 s.heap a0) (va_cwS 1 hts (jgS (jWr_60 _ (List.mem_of_getElem? (i := 10) rfl)) (jWr_60 _ (List.mem_of_getElem? (i := 11) rfl)) (jWr_12 _ (List.mem_of_getElem? (i := 12) rfl)) (jWr_60 _ (List.mem_of_getElem? (i := 12) rfl))) rfl rfl rfl (by decide +kernel) ⟨by rw [← hR]; exact Nat.le_of_ble_eq_true rfl, by rw [← hR]; exact Nat.le_of_ble_eq_true rfl⟩) ⟨fun a U g mk q => by obtain ⟨q0, q1, q2, qK, q10, q11⟩ := q; exact ⟨q0, q1, q2, jG.calling g mk a qK, q10, q11⟩, fun U hU hW => ⟨rfl, hU, hh.2.1, hG.step hW hU hh.1, jP.nil, trivial⟩⟩ rfl rfl hl.1 rfl (lv_room (Nat.le_of_ble_eq_true rfl)) dX13_isNameSign_1 ⟨Nat.zero_le _, Nat.zero_le _⟩) hh.1 (fun q _ h => h) (fun q h => h) (fun r_2 u_1 t_1 H_1 locs_1 ht_1 hvm_1 hr_2 hb_1 hz_1 hk_1 hS_1 => ?_)
  rw [ht_1] at hb_1
  obtain ⟨hb_11, hb_12, hb_13, hb_14, hb_15⟩ := hb_1
  have hh_1 : jSt (dC, dI) B base G0 G0 EX13_isNameSignT s.heap 0 0 [] [] [] H_1 locs_1 := ((hh.call hb_11 hb_12 hb_13 hb_14 hS_1 rfl (L1 := []) [] rfl rfl (M1 := []) [] rfl rfl (I1 := []) [] rfl rfl).more hb_15)
  clear hh ht_1 hvm_1 hz_1 hk_1 hS_1 hb_11 hb_12 hb_13 hb_14 hb_15
  obtain ⟨hr_2b, hr_2p⟩ := hr_2
  have hr_2' := jb_01 hr_2b
  refine lv_if_ne (tgt := 30) hx hb dX13_isNameSign_4 (by decide) (fun c_3 => ?_) (fun c_3 => ?_)
  · skip
    have c_3' : r_2.toInt ≠ 0 := jb_ne (rfl) ((by decide)) c_3
    refine lv_iconst (v := 1) hx hb dX13_isNameSign_30 (by decide) ?_
    refine lv_goto (tgt := 35) hx hb dX13_isNameSign_31 (by decide) ?_
    rw [hQ]
    exact W.zret (v := 1) hx hb hr (jb_nz (Or.inr rfl)) (fun t ht hW => ⟨⟨1, (), rfl, ⟨(Or.inr rfl), by have h9 := hr_2p; unfold jLt jIn at h9; unfold jcSg; first | (rw [if_pos (by omega)]; first | exact hk1 | omega) | (rw [if_neg (by omega)]; first | exact hk0 | omega)⟩, hh_1.rt (M1 := []) [] rfl ht⟩, by rw [ht]; try exact hh_1.1.1, fun q h9 hq => by rw [ht]; try exact hh_1.1.2.1 q h9 hq⟩) hh_1.1.2.2 dX13_isNameSign_35
  · skip
    have c_3' : r_2.toInt = 0 := jb_ne_n (rfl) ((by decide)) c_3
    refine lv_iload_n hx hb dX13_isNameSign_7 rfl (lv_at hl 0 rfl) ?_
    refine lv_bipush (v := 48) hx hb dX13_isNameSign_8 (by decide) ?_
    refine lv_bipush (v := 57) hx hb dX13_isNameSign_10 (by decide) ?_
    refine va_calli (A0 := jA base) (H0 := s.heap) (va_runSN (As := [.int a0, .int 48, .int 57]) (rest := []) ⟨hx, hb, hml, hown, hts⟩ (uX14_in l dC dI ca base B hB hAp G0 H_1 a0 48 57) ⟨va_cnB 3 hts (jgW (jWr_48 _ (List.mem_of_getElem? (i := 12) rfl))) rfl rfl rfl (hG.2.2.1 RX13 132 yX14_in "ProofServerModel" (List.mem_of_getElem? (i := 2577) (by decide +kernel))) (htw (.initialized RX14) (jWr_1 _ (List.mem_of_getElem? (i := 5) rfl))) (by decide +kernel) ⟨by rw [← hR]; exact Nat.le_of_ble_eq_true rfl, by rw [← hR]; exact Nat.le_of_ble_eq_true rfl⟩, htw (.static yX14_in) (jWr_48 _ (List.mem_of_getElem? (i := 11) rfl)), trivial⟩ ⟨fun a U g mk q => by obtain ⟨q0, q1, q2, qK, q10, q11⟩ := q; exact ⟨q0, q1, q2, jG.calling g mk a qK, q10, q11⟩, fun U hU hW => ⟨rfl, hU, hh_1.2.1, hG.step hW hU hh_1.1, jP.nil, trivial⟩⟩ rfl rfl hl.1 rfl (lv_room (Nat.le_of_ble_eq_true rfl)) dX13_isNameSign_12 ⟨Nat.zero_le _, Nat.zero_le _⟩) hh_1.1 (fun q _ h => h) (fun q h => h) (fun r_5 u_4 t_4 H_4 locs_4 ht_4 hvm_4 hr_5 hb_4 hz_4 hk_4 hS_4 => ?_)
    rw [ht_4] at hb_4
    obtain ⟨hb_41, hb_42, hb_43, hb_44, hb_45⟩ := hb_4
    have hh_4 : jSt (dC, dI) B base G0 G0 EX13_isNameSignT s.heap 0 0 [] [] [] H_4 locs_4 := ((hh_1.call hb_41 hb_42 hb_43 hb_44 hS_4 rfl (L1 := []) [] rfl rfl (M1 := []) [] rfl rfl (I1 := []) [] rfl rfl).more hb_45)
    clear hh_1 ht_4 hvm_4 hz_4 hk_4 hS_4 hb_41 hb_42 hb_43 hb_44 hb_45
    obtain ⟨hr_5b, hr_5p⟩ := hr_5
    obtain ⟨hr_5p_0, hr_5p_1, hr_5p_2⟩ := hr_5p
    have hr_5' := jb_01 hr_5b
    refine lv_if_ne (tgt := 30) hx hb dX13_isNameSign_15 (by decide) (fun c_6 => ?_) (fun c_6 => ?_)
    · skip
      have c_6' : r_5.toInt ≠ 0 := jb_ne (rfl) ((by decide)) c_6
      refine lv_iconst (v := 1) hx hb dX13_isNameSign_30 (by decide) ?_
      refine lv_goto (tgt := 35) hx hb dX13_isNameSign_31 (by decide) ?_
      rw [hQ]
      exact W.zret (v := 1) hx hb hr (jb_nz (Or.inr rfl)) (fun t ht hW => ⟨⟨1, (), rfl, ⟨(Or.inr rfl), by have h9 := hr_2p; unfold jLt jIn at h9; have h8 := hr_5p_2; unfold jIn at h8; unfold jcSg; first | (rw [if_pos (by omega)]; first | exact hk1 | omega) | (rw [if_neg (by omega)]; first | exact hk0 | omega)⟩, hh_4.rt (M1 := []) [] rfl ht⟩, by rw [ht]; try exact hh_4.1.1, fun q h9 hq => by rw [ht]; try exact hh_4.1.2.1 q h9 hq⟩) hh_4.1.2.2 dX13_isNameSign_35
    · skip
      have c_6' : r_5.toInt = 0 := jb_ne_n (rfl) ((by decide)) c_6
      refine lv_iload_n hx hb dX13_isNameSign_18 rfl (lv_at hl 0 rfl) ?_
      refine lv_bipush (v := 95) hx hb dX13_isNameSign_19 (by decide) ?_
      refine lv_icmp_eq (tgt := 30) hx hb dX13_isNameSign_21 (by decide) (fun c_7 => ?_) (fun c_7 => ?_)
      · skip
        have c_7' : a0.toInt = 95 := jb_eq (rfl) ((by decide)) c_7
        refine lv_iconst (v := 1) hx hb dX13_isNameSign_30 (by decide) ?_
        refine lv_goto (tgt := 35) hx hb dX13_isNameSign_31 (by decide) ?_
        rw [hQ]
        exact W.zret (v := 1) hx hb hr (jb_nz (Or.inr rfl)) (fun t ht hW => ⟨⟨1, (), rfl, ⟨(Or.inr rfl), by have h9 := hr_2p; unfold jLt jIn at h9; have h8 := hr_5p_2; unfold jIn at h8; unfold jcSg; first | (rw [if_pos (by omega)]; first | exact hk1 | omega) | (rw [if_neg (by omega)]; first | exact hk0 | omega)⟩, hh_4.rt (M1 := []) [] rfl ht⟩, by rw [ht]; try exact hh_4.1.1, fun q h9 hq => by rw [ht]; try exact hh_4.1.2.1 q h9 hq⟩) hh_4.1.2.2 dX13_isNameSign_35
      · skip
        have c_7' : a0.toInt ≠ 95 := jb_eq_n (rfl) ((by decide)) c_7
        refine lv_iload_n hx hb dX13_isNameSign_24 rfl (lv_at hl 0 rfl) ?_
        refine lv_bipush (v := 39) hx hb dX13_isNameSign_25 (by decide) ?_
        refine lv_icmp_ne (tgt := 34) hx hb dX13_isNameSign_27 (by decide) (fun c_8 => ?_) (fun c_8 => ?_)
        · skip
          have c_8' : a0.toInt ≠ 39 := jb_ne (rfl) ((by decide)) c_8
          refine lv_iconst (v := 0) hx hb dX13_isNameSign_34 (by decide) ?_
          rw [hQ]
          exact W.zret (v := 0) hx hb hr (jb_nz (Or.inl rfl)) (fun t ht hW => ⟨⟨0, (), rfl, ⟨(Or.inl rfl), by have h9 := hr_2p; unfold jLt jIn at h9; have h8 := hr_5p_2; unfold jIn at h8; unfold jcSg; first | (rw [if_pos (by omega)]; first | exact hk1 | omega) | (rw [if_neg (by omega)]; first | exact hk0 | omega)⟩, hh_4.rt (M1 := []) [] rfl ht⟩, by rw [ht]; try exact hh_4.1.1, fun q h9 hq => by rw [ht]; try exact hh_4.1.2.1 q h9 hq⟩) hh_4.1.2.2 dX13_isNameSign_35
        · skip
          have c_8' : a0.toInt = 39 := jb_ne_n (rfl) ((by decide)) c_8
          refine lv_iconst (v := 1) hx hb dX13_isNameSign_30 (by decide) ?_
          refine lv_goto (tgt := 35) hx hb dX13_isNameSign_31 (by decide) ?_
          rw [hQ]
          exact W.zret (v := 1) hx hb hr (jb_nz (Or.inr rfl)) (fun t ht hW => ⟨⟨1, (), rfl, ⟨(Or.inr rfl), by have h9 := hr_2p; unfold jLt jIn at h9; have h8 := hr_5p_2; unfold jIn at h8; unfold jcSg; first | (rw [if_pos (by omega)]; first | exact hk1 | omega) | (rw [if_neg (by omega)]; first | exact hk0 | omega)⟩, hh_4.rt (M1 := []) [] rfl ht⟩, by rw [ht]; try exact hh_4.1.1, fun q h9 hq => by rw [ht]; try exact hh_4.1.2.1 q h9 hq⟩) hh_4.1.2.2 dX13_isNameSign_35
set_option maxHeartbeats 4000000 in
set_option maxRecDepth 20000 in
theorem uX13_scanT (l : Launch) (dC : Nat → ClassId) (dI : Nat → Nat → Nat) (ca : Nat → ClassId) (base : Nat) (B : jF) (hB : jBok B) (hAp : jAp (dC, dI)) (hB15 : ∀ n G a H, B 15 n G a H ↔ jOb (dC, dI) 15 50 (F15 n G) a H) (hB101 : ∀ n G a H, B 101 n G a H ↔ jAr (dC, dI) (ca 1) (fun j z => True) n a H) (hB155 : ∀ n G a H, B 155 n G a H ↔ jAr (dC, dI) (ca 1) (fun j z => 0 ≤ z.toInt ∧ z.toInt ≤ 11990) n a H) (hB156 : ∀ n G a H, B 156 n G a H ↔ jAr (dC, dI) (ca 1) (fun j z => 0 ≤ z.toInt ∧ z.toInt ≤ 10) n a H) (hB157 : ∀ n G a H, B 157 n G a H ↔ jAr (dC, dI) (ca 1) (fun j z => 0 ≤ z.toInt ∧ z.toInt ≤ 1599) n a H) (hB166 : ∀ n G a H, B 166 n G a H ↔ jAr (dC, dI) (ca 1) (fun j z => True) n a H) (hB167 : ∀ n G a H, B 167 n G a H ↔ jAr (dC, dI) (ca 1) (fun j z => True) n a H) (hB194 : ∀ n G a H, B 194 n G a H ↔ jAr (dC, dI) (ca 1) (fun j z => True) n a H) (G0 : jT) (H0 : Heap) (r0 : Nat) (r1 : Nat) (a2 : Int32) (a3 : Int32) (n1 : Nat) (pc : Int32) (ps : Int32) (nn : Int) (f1 : Nat → Int32) : Met l yX13_scan (jw yX13_scan cX13_scan 7 none) ({ frames := 3, cells := 0, slots := 0, locals := 62 }) (va_Pc [.ref r0, .ref r1, .int a2, .int a3] (fun U => U.heap = H0 ∧ jX B base G0 [] H0 ∧ jG dC dI ca base U ∧ G0 r1 = some (194, n1) ∧ G0 r0 = some (15, 0) ∧ jP (dC, dI) G0 H0 [(r0, 15, 10, .int pc), (r0, 15, 7, .int ps)] ∧ jMc (dC, dI) G0 H0 [(r1, 194, n1, ca 1, f1)] ∧ 0 ≤ a2.toInt ∧ a2.toInt ≤ a3.toInt ∧ a3.toInt ≤ n1 ∧ n1 ≤ 1500 ∧ 0 ≤ pc.toInt ∧ pc.toInt + (a3.toInt - a2.toInt) ≤ 1599 ∧ 0 ≤ ps.toInt ∧ ps.toInt + (a3.toInt - a2.toInt) ≤ 11990 ∧ a3.toInt ≤ nn ∧ nn ≤ 1500 ∧ jcV f1 nn a3.toInt a2.toInt)) (va_Qv (S := Int32 × Int32 × Int32 × Int32) (fun u => 0 ≤ u.1.toInt ∧ u.1.toInt ≤ a3.toInt - a2.toInt ∧ pc.toInt ≤ u.2.2.1.toInt ∧ u.2.2.1.toInt ≤ pc.toInt + (a3.toInt - a2.toInt) ∧ ps.toInt ≤ u.2.2.2.toInt ∧ u.2.2.2.toInt ≤ ps.toInt + (a3.toInt - a2.toInt) ∧ 0 ≤ u.2.1.toInt ∧ u.2.1.toInt ≤ a3.toInt - a2.toInt ∧ u.1.toInt + u.2.1.toInt = jcK f1 nn a3.toInt ((a3.toInt - a2.toInt).toNat + 1) a2.toInt) (fun u t => jRt (dC, dI) B base G0 EX13_scanT H0 [(r0, 15, 30, .int u.1), (r0, 15, 31, .int u.2.1), (r0, 15, 10, .int u.2.2.1), (r0, 15, 7, .int u.2.2.2)] t.heap) (jA base)) 0 0 (jA base) := by
  refine Met.ofW (cc := cX13_scan) (maxL := 7) (ret := none) (by decide) rfl ?_
  intro p e s m args below meth c s₁ Bd hml hv
  obtain ⟨rfl, hH0, hX, hG, hg_r1, hg_r0, hP0, hM0, hp0, hp1, hp2, hp3, hp4, hp5, hp6, hp7, hp8, hp9, hp10⟩ := hv
  have hK := hG.1
  have hx := Bd.exec
  have hb := Bd.bytes
  have hr := Bd.returns
  have hts := atoms_spec (ws := (jw yX13_scan cX13_scan 7 none)) Bd.pre
  have htw : ∀ w ∈ jWl, w.before _ s = true := fun w h => hts w (List.mem_cons_of_mem _ h)
  have hown : s.vm.findClass RX13 = some m.cls := findClass_of_methodNamed Bd.named
  have hlocks := Bd.notSynchronized
  obtain ⟨Q, hQ⟩ : ∃ Q, Q = MQ below (va_Qv (S := Int32 × Int32 × Int32 × Int32) (fun u => 0 ≤ u.1.toInt ∧ u.1.toInt ≤ a3.toInt - a2.toInt ∧ pc.toInt ≤ u.2.2.1.toInt ∧ u.2.2.1.toInt ≤ pc.toInt + (a3.toInt - a2.toInt) ∧ ps.toInt ≤ u.2.2.2.toInt ∧ u.2.2.2.toInt ≤ ps.toInt + (a3.toInt - a2.toInt) ∧ 0 ≤ u.2.1.toInt ∧ u.2.1.toInt ≤ a3.toInt - a2.toInt ∧ u.1.toInt + u.2.1.toInt = jcK f1 nn a3.toInt ((a3.toInt - a2.toInt).toNat + 1) a2.toInt) (fun u t => jRt (dC, dI) B base G0 EX13_scanT H0 [(r0, 15, 30, .int u.1), (r0, 15, 31, .int u.2.1), (r0, 15, 10, .int u.2.2.1), (r0, 15, 7, .int u.2.2.2)] t.heap) (jA base)) ([.ref r0, .ref r1, .int a2, .int a3] : List Value).toArray s 0 0 (jA base) := ⟨_, rfl⟩
  rw [← hQ]
  have hl := lv_entry ([.ref r0, .ref r1, .int a2, .int a3]) (n := 7) (Nat.le_of_ble_eq_true rfl)
  rw [lg_entry_eq]
  generalize (lg_sl ([.ref r0, .ref r1, .int a2, .int a3]) ++ List.replicate (7 - (lg_sl ([.ref r0, .ref r1, .int a2, .int a3])).length) Slot.unset).toArray = ls at hl ⊢
  have hl : lv_has ls 7 [(0, .ref r0), (1, .ref r1), (2, .int a2), (3, .int a3)] := hl
  generalize hR : (headSpec (jw yX13_scan cX13_scan 7 none) ({ frames := 3, cells := 0, slots := 0, locals := 62 })).room = R
  subst hH0
  have hh : jSt (dC, dI) B base G0 G0 EX13_scanT s.heap 0 0 [(r0, 15, 10, .int pc), (r0, 15, 7, .int ps)] [(r1, 194, n1, ca 1, f1)] [] s.heap [] := jSt.start hX hP0 hM0 jIs.nil
  clear hX hP0
  have hk0 : (0 : Int32).toInt = 0 := by decide
  have hk1 : (1 : Int32).toInt = 1 := by decide
  have hk2 : (2 : Int32).toInt = 2 := by decide
  have hk3 : (3 : Int32).toInt = 3 := by decide
  have hk10 : (10 : Int32).toInt = 10 := by decide
  have hk40 : (40 : Int32).toInt = 40 := by decide
  have hk41 : (41 : Int32).toInt = 41 := by decide
  have hk42 : (42 : Int32).toInt = 42 := by decide
  have hk43 : (43 : Int32).toInt = 43 := by decide
  have hk44 : (44 : Int32).toInt = 44 := by decide
  have hk45 : (45 : Int32).toInt = 45 := by decide
  have hk46 : (46 : Int32).toInt = 46 := by decide
  have hk48 : (48 : Int32).toInt = 48 := by decide
  have hk57 : (57 : Int32).toInt = 57 := by decide
  have hk58 : (58 : Int32).toInt = 58 := by decide
  have hk61 : (61 : Int32).toInt = 61 := by decide
  have hk62 : (62 : Int32).toInt = 62 := by decide
  have hk126 : (126 : Int32).toInt = 126 := by decide
  have hly_15_30 := htw (u_lay RX13 TX13 30) (jWc_wsX130 _ (u_in_lay (by decide)))
  have hly_15_31 := htw (u_lay RX13 TX13 31) (jWc_wsX130 _ (u_in_lay (by decide)))
  have hlk_140 := (htw (.fieldLink RX13 140 "ProofServerModel$Kernel" "tokens" "I") (jWr_60 _ (List.mem_of_getElem? (i := 9) rfl)))
  have hlk_143 := (htw (.fieldLink RX13 143 "ProofServerModel$Kernel" "loose" "I") (jWr_60 _ (List.mem_of_getElem? (i := 1) rfl)))
  have hrg_a2 := jb_rng a2
  have hrg_a3 := jb_rng a3
  refine lv_aload_n hx hb dX13_scan_0 rfl (lv_at hl 0 rfl) ?_
  refine lv_iconst (v := 0) hx hb dX13_scan_1 (by decide) ?_
  refine j7_put hx hb hown hK hh hB hAp hB15 (C := RX13) (T := TX13) (N := 50) rfl (by decide) hg_r0 (i := 30) (by decide) hly_15_30 rfl hlk_140 rfl (ty := .int) (v := .int 0) (by decide +kernel) rfl rfl (⟨_, rfl, by omega, by omega⟩) rfl (L1 := [(r0, 15, 10, .int pc), (r0, 15, 7, .int ps)]) [0, 1] rfl rfl rfl dX13_scan_2 (fun H_1 locs_1 hh_1 => ?_)
  clear hh
  refine lv_aload_n hx hb dX13_scan_5 rfl (lv_at hl 0 rfl) ?_
  refine lv_iconst (v := 0) hx hb dX13_scan_6 (by decide) ?_
  refine j7_put hx hb hown hK hh_1 hB hAp hB15 (C := RX13) (T := TX13) (N := 50) rfl (by decide) hg_r0 (i := 31) (by decide) hly_15_31 rfl hlk_143 rfl (ty := .int) (v := .int 0) (by decide +kernel) rfl rfl (⟨_, rfl⟩) rfl (L1 := [(r0, 15, 30, .int 0), (r0, 15, 10, .int pc), (r0, 15, 7, .int ps)]) [0, 1, 2] rfl rfl rfl dX13_scan_7 (fun H_2 locs_2 hh_2 => ?_)
  clear hh_1
  refine lv_iload_n hx hb dX13_scan_10 rfl (lv_at hl 2 rfl) ?_
  refine lv_istore (lv' := [(4, .int a2), (0, .ref r0), (1, .ref r1), (2, .int a2), (3, .int a3)]) hx hb dX13_scan_11 hl (by decide) rfl (fun ls hl => ?_)
  have L13 : ∀ (N : Nat) (v4_3 : Int32) (wk_3 : Int32) (wo_3 : Int32) (wc_3 : Int32) (ws_3 : Int32) (kf : Nat) (H_3 : Heap) (locs_3 : List Loc), jSt (dC, dI) B base G0 G0 EX13_scanT s.heap 0 0 [(r0, 15, 30, .int wk_3), (r0, 15, 31, .int wo_3), (r0, 15, 10, .int wc_3), (r0, 15, 7, .int ws_3)] [(r1, 194, n1, ca 1, f1)] [] H_3 locs_3 → (a2.toInt ≤ v4_3.toInt ∧ v4_3.toInt ≤ a3.toInt ∧ 0 ≤ wk_3.toInt ∧ wk_3.toInt ≤ v4_3.toInt - a2.toInt ∧ pc.toInt ≤ wc_3.toInt ∧ wc_3.toInt ≤ pc.toInt + (v4_3.toInt - a2.toInt) ∧ ps.toInt ≤ ws_3.toInt ∧ ws_3.toInt ≤ ps.toInt + (v4_3.toInt - a2.toInt) ∧ 0 ≤ wo_3.toInt ∧ wo_3.toInt ≤ v4_3.toInt - a2.toInt ∧ a3.toInt - v4_3.toInt < kf ∧ wk_3.toInt + wo_3.toInt + jcK f1 nn a3.toInt kf v4_3.toInt = jcK f1 nn a3.toInt ((a3.toInt - a2.toInt).toNat + 1) a2.toInt ∧ jcV f1 nn a3.toInt v4_3.toInt) → (a3.toInt - v4_3.toInt : Int) < N → ∀ ls : Array Slot, lv_has ls 7 [(0, .ref r0), (1, .ref r1), (2, .int a2), (3, .int a3), (4, .int v4_3)] → W p l e R s m ([.ref r0, .ref r1, .int a2, .int a3] : List Value).toArray below meth c H_3 locs_3 0 0 Q (F0 m 13 ls []) := by
    intro N
    induction N with
    | zero => intro v4_3 wk_3 wo_3 wc_3 ws_3 kf H_3 locs_3 hh_3  hi_3 hm; exact absurd hm (by omega)
    | succ N L13 =>
      intro v4_3 wk_3 wo_3 wc_3 ws_3 kf H_3 locs_3 hh_3  hi_3 hm_3 ls hl
      obtain ⟨hi_3_0, hi_3_1, hi_3_2, hi_3_3, hi_3_4, hi_3_5, hi_3_6, hi_3_7, hi_3_8, hi_3_9, hi_3_10, hi_3_11, hi_3_12⟩ := hi_3
      refine lv_iload hx hb dX13_scan_13 (lv_at hl 4 rfl) ?_
      refine lv_iload_n hx hb dX13_scan_15 rfl (lv_at hl 3 rfl) ?_
      refine lv_icmp_ge (tgt := 328) hx hb dX13_scan_16 (by decide) (fun c_4 => ?_) (fun c_4 => ?_)
      · skip
        have c_4' : v4_3.toInt ≥ a3.toInt := jb_ge (rfl) (rfl) c_4
        rw [hQ]
        exact W.vret hx hb hr (fun t ht hW => ⟨⟨(wk_3, wo_3, wc_3, ws_3), rfl, by (try dsimp only); have h8 := jcK_e (f := f1) (n := nn) (e := a3.toInt) (i := v4_3.toInt) (k := kf) (by omega); exact ⟨by omega, by omega, by omega, by omega, by omega, by omega, by omega, by omega, by have h9 := hi_3_11; omega⟩, hh_3.rt (M1 := [(r0, 15, 30, .int wk_3), (r0, 15, 31, .int wo_3), (r0, 15, 10, .int wc_3), (r0, 15, 7, .int ws_3)]) [0, 1, 2, 3] rfl ht⟩, by rw [ht]; try exact hh_3.1.1, fun q h9 hq => by rw [ht]; try exact hh_3.1.2.1 q h9 hq⟩) hh_3.1.2.2 dX13_scan_328
      · skip
        have c_4' : v4_3.toInt < a3.toInt := jb_ge_n (rfl) (rfl) c_4
        refine lv_aload_n hx hb dX13_scan_19 rfl (lv_at hl 1 rfl) ?_
        refine lv_iload hx hb dX13_scan_20 (lv_at hl 4 rfl) ?_
        refine j7_ialdM hx hb hK hh_3 hB194 1 rfl (by decide) hg_r1 (x := v4_3.toInt) (rfl) (by omega) (j := 0) rfl dX13_scan_22 (fun z_5 ez_5 (hz_5 : True) => ?_)
        have hqz_5 : z_5.toInt = jSo f1 (v4_3.toInt) := by unfold jSo; rw [ez_5]
        refine lv_istore (lv' := [(5, .int z_5), (0, .ref r0), (1, .ref r1), (2, .int a2), (3, .int a3), (4, .int v4_3)]) hx hb dX13_scan_23 hl (by decide) rfl (fun ls hl => ?_)
        refine lv_iload hx hb dX13_scan_25 (lv_at hl 0 rfl) ?_
        refine va_calli (A0 := jA base) (H0 := s.heap) (va_runSN (As := [.int z_5]) (rest := []) ⟨hx, hb, hml, hown, hts⟩ (uX14_isBlankK l dC dI ca base B hB hAp G0 H_3 z_5) ⟨va_cnB 1 hts (jgW (jWr_57 _ (List.mem_of_getElem? (i := 18) rfl))) rfl rfl rfl (hG.2.2.1 RX13 146 yX14_isBlank "ProofServerModel" (List.mem_of_getElem? (i := 2571) (by decide +kernel))) (htw (.initialized RX14) (jWr_1 _ (List.mem_of_getElem? (i := 5) rfl))) (by decide +kernel) ⟨by rw [← hR]; exact Nat.le_of_ble_eq_true rfl, by rw [← hR]; exact Nat.le_of_ble_eq_true rfl⟩, htw (.static yX14_isBlank) (jWr_57 _ (List.mem_of_getElem? (i := 17) rfl)), trivial⟩ ⟨fun a U g mk q => by obtain ⟨q0, q1, q2, qK, q10, q11⟩ := q; exact ⟨q0, q1, q2, jG.calling g mk a qK, q10, q11⟩, fun U hU hW => ⟨rfl, hU, hh_3.2.1, hG.step hW hU hh_3.1, jP.nil, trivial⟩⟩ rfl rfl hl.1 rfl (lv_room (Nat.le_of_ble_eq_true rfl)) dX13_scan_27 ⟨Nat.zero_le _, Nat.zero_le _⟩) hh_3.1 (fun q _ h => h) (fun q h => h) (fun r_7 u_6 t_6 H_6 locs_6 ht_6 hvm_6 hr_7 hb_6 hz_6 hk_6 hS_6 => ?_)
        rw [ht_6] at hb_6
        obtain ⟨hb_61, hb_62, hb_63, hb_64, hb_65⟩ := hb_6
        have hh_6 : jSt (dC, dI) B base G0 G0 EX13_scanT s.heap 0 0 [(r0, 15, 30, .int wk_3), (r0, 15, 31, .int wo_3), (r0, 15, 10, .int wc_3), (r0, 15, 7, .int ws_3)] [(r1, 194, n1, ca 1, f1)] [] H_6 locs_6 := ((hh_3.call hb_61 hb_62 hb_63 hb_64 hS_6 rfl (L1 := [(r0, 15, 30, .int wk_3), (r0, 15, 31, .int wo_3), (r0, 15, 10, .int wc_3), (r0, 15, 7, .int ws_3)]) [0, 1, 2, 3] rfl rfl (M1 := [(r1, 194, n1, ca 1, f1)]) [0] rfl rfl (I1 := []) [] rfl rfl).more hb_65)
        clear hh_3 ht_6 hvm_6 hz_6 hk_6 hS_6 hb_61 hb_62 hb_63 hb_64 hb_65
        obtain ⟨hr_7b, hr_7p⟩ := hr_7
        have hr_7' := jb_01 hr_7b
        refine lv_if_eq (tgt := 39) hx hb dX13_scan_30 (by decide) (fun c_8 => ?_) (fun c_8 => ?_)
        · skip
          have c_8' : r_7.toInt = 0 := jb_eq (rfl) ((by decide)) c_8
          refine lv_aload_n hx hb dX13_scan_39 rfl (lv_at hl 2 rfl) ?_
          refine lv_iload hx hb dX13_scan_40 (lv_at hl 5 rfl) ?_
          refine lv_iload_n hx hb dX13_scan_42 rfl (lv_at hl 4 rfl) ?_
          refine va_calli (A0 := jA base) (H0 := s.heap) (va_runSN (As := [.ref r1, .int v4_3, .int a3]) (rest := []) ⟨hx, hb, hml, hown, hts⟩ (uX14_opensv9 l dC dI ca base B hB hAp hB194 G0 H_6 r1 v4_3 a3 n1 f1) ⟨va_cnB 3 hts (jgW (jWr_57 _ (List.mem_of_getElem? (i := 21) rfl))) rfl rfl rfl (hG.2.2.1 RX13 149 yX14_opens "ProofServerModel" (List.mem_of_getElem? (i := 2572) (by decide +kernel))) (htw (.initialized RX14) (jWr_1 _ (List.mem_of_getElem? (i := 5) rfl))) (by decide +kernel) ⟨by rw [← hR]; exact Nat.le_of_ble_eq_true rfl, by rw [← hR]; exact Nat.le_of_ble_eq_true rfl⟩, htw (.static yX14_opens) (jWr_57 _ (List.mem_of_getElem? (i := 20) rfl)), trivial⟩ ⟨fun a U g mk q => by obtain ⟨q0, q1, q2, qK, q10, q11, q12, q13⟩ := q; exact ⟨q0, q1, q2, jG.calling g mk a qK, q10, q11, q12, q13⟩, fun U hU hW => ⟨rfl, hU, hh_6.2.1, hG.step hW hU hh_6.1, hg_r1, jP.nil, (hh_6.2.2.2.2.2.2.2.1.sub (L1 := [(r1, 194, n1, ca 1, f1)]) [0] rfl), by first | omega | (refine ⟨?_, ?_, ?_, ?_, ?_⟩ <;> (first | omega | rfl | assumption | decide | exact Or.inl rfl | exact Or.inr rfl | (simp only; omega)))⟩⟩ rfl rfl hl.1 rfl (lv_room (Nat.le_of_ble_eq_true rfl)) dX13_scan_43 ⟨Nat.zero_le _, Nat.zero_le _⟩) hh_6.1 (fun q _ h => h) (fun q h => h) (fun r_10 u_9 t_9 H_9 locs_9 ht_9 hvm_9 hr_10 hb_9 hz_9 hk_9 hS_9 => ?_)
          rw [ht_9] at hb_9
          obtain ⟨hb_91, hb_92, hb_93, hb_94, hb_95⟩ := hb_9
          have hh_9 : jSt (dC, dI) B base G0 G0 EX13_scanT s.heap 0 0 [(r0, 15, 30, .int wk_3), (r0, 15, 31, .int wo_3), (r0, 15, 10, .int wc_3), (r0, 15, 7, .int ws_3)] [(r1, 194, n1, ca 1, f1)] [] H_9 locs_9 := ((hh_6.call hb_91 hb_92 hb_93 hb_94 hS_9 rfl (L1 := [(r0, 15, 30, .int wk_3), (r0, 15, 31, .int wo_3), (r0, 15, 10, .int wc_3), (r0, 15, 7, .int ws_3)]) [0, 1, 2, 3] rfl rfl (M1 := [(r1, 194, n1, ca 1, f1)]) [0] rfl rfl (I1 := []) [] rfl rfl).more hb_95)
          clear hh_6 ht_9 hvm_9 hz_9 hk_9 hS_9 hb_91 hb_92 hb_93 hb_94 hb_95
          obtain ⟨hr_10b, hr_10p⟩ := hr_10
          obtain ⟨hr_10p_0, hr_10p_1⟩ := hr_10p
          have hr_10' := jb_01 hr_10b
          refine lv_if_eq (tgt := 74) hx hb dX13_scan_46 (by decide) (fun c_11 => ?_) (fun c_11 => ?_)
          · skip
            have c_11' : r_10.toInt = 0 := jb_eq (rfl) ((by decide)) c_11
            have hn9 : jOpI f1 v4_3.toInt nn ≠ 1 := by rw [← jcV.oe hi_3_12 (by omega) (by omega) (by omega), ← hr_10p_0]; omega
            refine lv_iload hx hb dX13_scan_74 (lv_at hl 0 rfl) ?_
            refine va_calli (A0 := jA base) (H0 := s.heap) (va_runS (As := [.int z_5]) (rest := []) ⟨hx, hb, hml, hown, hts⟩ (uX13_isLetter l dC dI ca base B hB hAp G0 H_9 z_5) (va_cwS 1 hts (jgS (jWr_60 _ (List.mem_of_getElem? (i := 10) rfl)) (jWr_60 _ (List.mem_of_getElem? (i := 11) rfl)) (jWr_12 _ (List.mem_of_getElem? (i := 12) rfl)) (jWr_60 _ (List.mem_of_getElem? (i := 12) rfl))) rfl rfl rfl (by decide +kernel) ⟨by rw [← hR]; exact Nat.le_of_ble_eq_true rfl, by rw [← hR]; exact Nat.le_of_ble_eq_true rfl⟩) ⟨fun a U g mk q => by obtain ⟨q0, q1, q2, qK, q10, q11⟩ := q; exact ⟨q0, q1, q2, jG.calling g mk a qK, q10, q11⟩, fun U hU hW => ⟨rfl, hU, hh_9.2.1, hG.step hW hU hh_9.1, jP.nil, trivial⟩⟩ rfl rfl hl.1 rfl (lv_room (Nat.le_of_ble_eq_true rfl)) dX13_scan_76 ⟨Nat.zero_le _, Nat.zero_le _⟩) hh_9.1 (fun q _ h => h) (fun q h => h) (fun r_13 u_12 t_12 H_12 locs_12 ht_12 hvm_12 hr_13 hb_12 hz_12 hk_12 hS_12 => ?_)
            rw [ht_12] at hb_12
            obtain ⟨hb_121, hb_122, hb_123, hb_124, hb_125⟩ := hb_12
            have hh_12 : jSt (dC, dI) B base G0 G0 EX13_scanT s.heap 0 0 [(r0, 15, 30, .int wk_3), (r0, 15, 31, .int wo_3), (r0, 15, 10, .int wc_3), (r0, 15, 7, .int ws_3)] [(r1, 194, n1, ca 1, f1)] [] H_12 locs_12 := ((hh_9.call hb_121 hb_122 hb_123 hb_124 hS_12 rfl (L1 := [(r0, 15, 30, .int wk_3), (r0, 15, 31, .int wo_3), (r0, 15, 10, .int wc_3), (r0, 15, 7, .int ws_3)]) [0, 1, 2, 3] rfl rfl (M1 := [(r1, 194, n1, ca 1, f1)]) [0] rfl rfl (I1 := []) [] rfl rfl).more hb_125)
            clear hh_9 ht_12 hvm_12 hz_12 hk_12 hS_12 hb_121 hb_122 hb_123 hb_124 hb_125
            obtain ⟨hr_13b, hr_13p⟩ := hr_13
            have hr_13' := jb_01 hr_13b
            refine lv_if_eq (tgt := 152) hx hb dX13_scan_79 (by decide) (fun c_14 => ?_) (fun c_14 => ?_)
            · skip
              have c_14' : r_13.toInt = 0 := jb_eq (rfl) ((by decide)) c_14
              have hl9 : jcLe (jSo f1 v4_3.toInt) ≠ 1 := by rw [jcLe.lt, ← hqz_5, ← hr_13p]; omega
              refine lv_iload hx hb dX13_scan_152 (lv_at hl 0 rfl) ?_
              refine lv_bipush (v := 48) hx hb dX13_scan_154 (by decide) ?_
              refine lv_bipush (v := 57) hx hb dX13_scan_156 (by decide) ?_
              refine va_calli (A0 := jA base) (H0 := s.heap) (va_runSN (As := [.int z_5, .int 48, .int 57]) (rest := []) ⟨hx, hb, hml, hown, hts⟩ (uX14_in l dC dI ca base B hB hAp G0 H_12 z_5 48 57) ⟨va_cnB 3 hts (jgW (jWr_48 _ (List.mem_of_getElem? (i := 12) rfl))) rfl rfl rfl (hG.2.2.1 RX13 132 yX14_in "ProofServerModel" (List.mem_of_getElem? (i := 2577) (by decide +kernel))) (htw (.initialized RX14) (jWr_1 _ (List.mem_of_getElem? (i := 5) rfl))) (by decide +kernel) ⟨by rw [← hR]; exact Nat.le_of_ble_eq_true rfl, by rw [← hR]; exact Nat.le_of_ble_eq_true rfl⟩, htw (.static yX14_in) (jWr_48 _ (List.mem_of_getElem? (i := 11) rfl)), trivial⟩ ⟨fun a U g mk q => by obtain ⟨q0, q1, q2, qK, q10, q11⟩ := q; exact ⟨q0, q1, q2, jG.calling g mk a qK, q10, q11⟩, fun U hU hW => ⟨rfl, hU, hh_12.2.1, hG.step hW hU hh_12.1, jP.nil, trivial⟩⟩ rfl rfl hl.1 rfl (lv_room (Nat.le_of_ble_eq_true rfl)) dX13_scan_158 ⟨Nat.zero_le _, Nat.zero_le _⟩) hh_12.1 (fun q _ h => h) (fun q h => h) (fun r_16 u_15 t_15 H_15 locs_15 ht_15 hvm_15 hr_16 hb_15 hz_15 hk_15 hS_15 => ?_)
              rw [ht_15] at hb_15
              obtain ⟨hb_151, hb_152, hb_153, hb_154, hb_155⟩ := hb_15
              have hh_15 : jSt (dC, dI) B base G0 G0 EX13_scanT s.heap 0 0 [(r0, 15, 30, .int wk_3), (r0, 15, 31, .int wo_3), (r0, 15, 10, .int wc_3), (r0, 15, 7, .int ws_3)] [(r1, 194, n1, ca 1, f1)] [] H_15 locs_15 := ((hh_12.call hb_151 hb_152 hb_153 hb_154 hS_15 rfl (L1 := [(r0, 15, 30, .int wk_3), (r0, 15, 31, .int wo_3), (r0, 15, 10, .int wc_3), (r0, 15, 7, .int ws_3)]) [0, 1, 2, 3] rfl rfl (M1 := [(r1, 194, n1, ca 1, f1)]) [0] rfl rfl (I1 := []) [] rfl rfl).more hb_155)
              clear hh_12 ht_15 hvm_15 hz_15 hk_15 hS_15 hb_151 hb_152 hb_153 hb_154 hb_155
              obtain ⟨hr_16b, hr_16p⟩ := hr_16
              obtain ⟨hr_16p_0, hr_16p_1, hr_16p_2⟩ := hr_16p
              have hr_16' := jb_01 hr_16b
              refine lv_if_eq (tgt := 180) hx hb dX13_scan_161 (by decide) (fun c_17 => ?_) (fun c_17 => ?_)
              · skip
                have c_17' : r_16.toInt = 0 := jb_eq (rfl) ((by decide)) c_17
                refine lv_iload hx hb dX13_scan_180 (lv_at hl 0 rfl) ?_
                refine lv_bipush (v := 45) hx hb dX13_scan_182 (by decide) ?_
                have C219 : ∀ (H_18 : Heap) (locs_18 : List Loc), jSt (dC, dI) B base G0 G0 EX13_scanT s.heap 0 0 [(r0, 15, 30, .int wk_3), (r0, 15, 31, .int wo_3), (r0, 15, 10, .int wc_3), (r0, 15, 7, .int ws_3)] [(r1, 194, n1, ca 1, f1)] [] H_18 locs_18 → ((z_5.toInt = 45 → a3.toInt ≤ v4_3.toInt + 1 ∨ jSo f1 (v4_3.toInt + 1) ≠ 62)) → ∀ ls : Array Slot, lv_has ls 7 [(0, .ref r0), (1, .ref r1), (2, .int a2), (3, .int a3), (4, .int v4_3), (5, .int z_5)] → W p l e R s m ([.ref r0, .ref r1, .int a2, .int a3] : List Value).toArray below meth c H_18 locs_18 0 0 Q (F0 m 219 ls []) := by
                  intro  H_18 locs_18 hh_18  hi_18 ls hl
                  refine lv_iload hx hb dX13_scan_219 (lv_at hl 5 rfl) ?_
                  refine lv_bipush (v := 42) hx hb dX13_scan_221 (by decide) ?_
                  have C295 : ∀ (w0_19 : Int32) (H_19 : Heap) (locs_19 : List Loc), jSt (dC, dI) B base G0 G0 EX13_scanT s.heap 0 0 [(r0, 15, 30, .int wk_3), (r0, 15, 31, .int wo_3), (r0, 15, 10, .int wc_3), (r0, 15, 7, .int ws_3)] [(r1, 194, n1, ca 1, f1)] [] H_19 locs_19 → (w0_19 = 0 ∨ w0_19 = 1) → (w0_19.toInt = 0 ∨ (40 ≤ z_5.toInt ∧ z_5.toInt ≤ 126)) → ∀ ls : Array Slot, lv_has ls 7 [(0, .ref r0), (1, .ref r1), (2, .int a2), (3, .int a3), (4, .int v4_3), (5, .int z_5)] → W p l e R s m ([.ref r0, .ref r1, .int a2, .int a3] : List Value).toArray below meth c H_19 locs_19 0 0 Q (F0 m 295 ls [.int w0_19]) := by
                    intro w0_19 H_19 locs_19 hh_19 hb_w0_19 hi_19 ls hl
                    have hb_w0_19' := jb_01 hb_w0_19
                    refine lv_istore (lv' := [(6, .int w0_19), (0, .ref r0), (1, .ref r1), (2, .int a2), (3, .int a3), (4, .int v4_3), (5, .int z_5)]) hx hb dX13_scan_295 hl (by decide) rfl (fun ls hl => ?_)
                    refine lv_iload hx hb dX13_scan_297 (lv_at hl 0 rfl) ?_
                    refine lv_if_eq (tgt := 312) hx hb dX13_scan_299 (by decide) (fun c_20 => ?_) (fun c_20 => ?_)
                    · skip
                      have c_20' : w0_19.toInt = 0 := jb_eq (rfl) ((by decide)) c_20
                      refine lv_aload_n hx hb dX13_scan_312 rfl (lv_at hl 1 rfl) ?_
                      refine lv_dup hx hb dX13_scan_313 rfl ?_
                      refine j7_read hx hb hown hK (C := RX13) (T := TX13) (N := 50) rfl hly_15_31 hlk_143 (hh_19.at 1 rfl) dX13_scan_314 ?_
                      refine lv_iconst (v := 1) hx hb dX13_scan_317 (by decide) ?_
                      refine lv_iadd hx hb dX13_scan_318 ?_
                      refine lv_topi (fun z_21 ez_21 => ?_)
                      have hz_21 : z_21.toInt = wo_3.toInt + 1 := by rw [ez_21]; exact jb_iadd2 (rfl) ((by decide)) (by omega)
                      refine j7_put hx hb hown hK hh_19 hB hAp hB15 (C := RX13) (T := TX13) (N := 50) rfl (by decide) hg_r0 (i := 31) (by decide) hly_15_31 rfl hlk_143 rfl (ty := .int) (v := .int z_21) (by decide +kernel) rfl rfl (⟨_, rfl⟩) rfl (L1 := [(r0, 15, 30, .int wk_3), (r0, 15, 10, .int wc_3), (r0, 15, 7, .int ws_3)]) [0, 2, 3] rfl rfl rfl dX13_scan_319 (fun H_22 locs_22 hh_22 => ?_)
                      clear hh_19
                      obtain ⟨z_23, ez_23⟩ : ∃ y : Int32, y = v4_3 + 1 := ⟨_, rfl⟩
                      refine lv_iinc (v := z_23) (lv' := [(4, .int z_23), (6, .int w0_19), (0, .ref r0), (1, .ref r1), (2, .int a2), (3, .int a3), (5, .int z_5)]) hx hb dX13_scan_322 hl (k := 5) rfl (by rw [ez_23]; rfl) (by decide) rfl (fun ls hl => ?_)
                      have hz_23 : z_23.toInt = v4_3.toInt + 1 := by rw [ez_23]; exact jb_iadd2 (rfl) (by decide) (by omega)
                      refine lv_goto (tgt := 13) hx hb dX13_scan_325 (by decide) ?_
                      exact L13 z_23 wk_3 z_21 wc_3 ws_3 (kf - 1) _ _ (hh_22.sub (L1 := [(r0, 15, 30, .int wk_3), (r0, 15, 31, .int z_21), (r0, 15, 10, .int wc_3), (r0, 15, 7, .int ws_3)]) [1, 0, 2, 3] rfl (M1 := [(r1, 194, n1, ca 1, f1)]) [0] rfl (I1 := []) [] rfl) (by have hk9 : 1 + jcK f1 nn a3.toInt (kf - 1) (z_23).toInt = jcK f1 nn a3.toInt kf v4_3.toInt := jcK_o (by omega) (by omega) hn9 hl9 (fun q9 => by have h9 := hi_18 (by rw [hqz_5]; exact q9.1); rcases h9 with h9 | h9; exact absurd q9.2.1 (by omega); exact h9 q9.2.2) (by rw [← hqz_5, ← hr_7p]; omega) (by omega); exact ⟨by omega, by omega, by omega, by omega, by omega, by omega, by omega, by omega, by omega, by omega, by omega, by have h9 := hi_3_11; omega, by rw [show (z_23).toInt = v4_3.toInt + 1 by omega]; exact jcV.ot hi_3_12 (by omega) (by omega) hn9⟩) (by omega) _ (lv_sub hl [2, 3, 4, 5, 0] rfl)
                    · skip
                      have c_20' : w0_19.toInt ≠ 0 := jb_eq_n (rfl) ((by decide)) c_20
                      refine lv_aload_n hx hb dX13_scan_302 rfl (lv_at hl 1 rfl) ?_
                      refine lv_iconst (v := 3) hx hb dX13_scan_303 (by decide) ?_
                      refine lv_iload hx hb dX13_scan_304 (lv_at hl 6 rfl) ?_
                      refine va_callv (A0 := jA base) (H0 := s.heap) (va_runV (As := [.int 3, .int z_5]) (rest := []) ⟨hx, hb, hml, hown, hts⟩ (uX13_token l dC dI ca base B hB hAp hB15 hB157 hB167 G0 H_19 r0 3 z_5 wk_3) (cwV 2 hts (jgV (jWr_60 _ (List.mem_of_getElem? (i := 20) rfl)) (jWr_60 _ (List.mem_of_getElem? (i := 21) rfl)) (jWr_60 _ (List.mem_of_getElem? (i := 22) rfl)) (jWr_12 _ (List.mem_of_getElem? (i := 12) rfl)) (jWr_60 _ (List.mem_of_getElem? (i := 23) rfl))) rfl rfl rfl (by decide +kernel) ⟨by rw [← hR]; exact Nat.le_of_ble_eq_true rfl, by rw [← hR]; exact Nat.le_of_ble_eq_true rfl⟩) ⟨fun a U g mk q => by obtain ⟨q0, q1, q2, qK, q10, q11, q12⟩ := q; exact ⟨q0, q1, q2, jG.calling g mk a qK, q10, q11, q12⟩, hh_19.recv (C := RX13) (T := TX13) (N := 50) hB15 rfl (by decide) hg_r0 hK, fun U hU hW => ⟨rfl, hU, hh_19.2.1, hG.step hW hU hh_19.1, hg_r0, (hh_19.2.2.1.sub (L1 := [(r0, 15, 30, .int wk_3)]) [0] rfl), by first | omega | (refine ⟨?_, ?_, ?_, ?_⟩ <;> (first | omega | rfl | assumption | decide | exact Or.inl rfl | exact Or.inr rfl | (simp only; omega)))⟩⟩ rfl rfl hl.1 rfl (lv_room (Nat.le_of_ble_eq_true rfl)) dX13_scan_306 ⟨Nat.zero_le _, Nat.zero_le _⟩) hh_19.1 (fun q _ h => h) (fun q h => h) (fun u_24 t_24 H_24 locs_24 ht_24 hvm_24 hr_25 hb_24 hz_24 hk_24 hS_24 => ?_)
                      obtain ⟨qk_24, rfl⟩ : ∃ z, z = u_24 := ⟨_, rfl⟩
                      rw [ht_24] at hb_24
                      obtain ⟨hb_241, hb_242, hb_243, hb_244, hb_245⟩ := hb_24
                      have hh_24 : jSt (dC, dI) B base G0 G0 EX13_scanT s.heap 0 0 [(r0, 15, 30, .int qk_24), (r0, 15, 31, .int wo_3), (r0, 15, 10, .int wc_3), (r0, 15, 7, .int ws_3)] [(r1, 194, n1, ca 1, f1)] [] H_24 locs_24 := ((hh_19.call hb_241 hb_242 hb_243 hb_244 hS_24 rfl (L1 := [(r0, 15, 31, .int wo_3), (r0, 15, 10, .int wc_3), (r0, 15, 7, .int ws_3)]) [1, 2, 3] rfl rfl (M1 := [(r1, 194, n1, ca 1, f1)]) [0] rfl rfl (I1 := []) [] rfl rfl).more hb_245)
                      clear hh_19 ht_24 hvm_24 hz_24 hk_24 hS_24 hb_241 hb_242 hb_243 hb_244 hb_245
                      refine lv_goto (tgt := 322) hx hb dX13_scan_309 (by decide) ?_
                      obtain ⟨z_26, ez_26⟩ : ∃ y : Int32, y = v4_3 + 1 := ⟨_, rfl⟩
                      refine lv_iinc (v := z_26) (lv' := [(4, .int z_26), (6, .int w0_19), (0, .ref r0), (1, .ref r1), (2, .int a2), (3, .int a3), (5, .int z_5)]) hx hb dX13_scan_322 hl (k := 5) rfl (by rw [ez_26]; rfl) (by decide) rfl (fun ls hl => ?_)
                      have hz_26 : z_26.toInt = v4_3.toInt + 1 := by rw [ez_26]; exact jb_iadd2 (rfl) (by decide) (by omega)
                      refine lv_goto (tgt := 13) hx hb dX13_scan_325 (by decide) ?_
                      exact L13 z_26 qk_24 wo_3 wc_3 ws_3 (kf - 1) _ _ hh_24 (by have hk9 : 1 + jcK f1 nn a3.toInt (kf - 1) (z_26).toInt = jcK f1 nn a3.toInt kf v4_3.toInt := jcK_o (by omega) (by omega) hn9 hl9 (fun q9 => by have h9 := hi_18 (by rw [hqz_5]; exact q9.1); rcases h9 with h9 | h9; exact absurd q9.2.1 (by omega); exact h9 q9.2.2) (by rw [← hqz_5, ← hr_7p]; omega) (by omega); exact ⟨by omega, by omega, by omega, by omega, by omega, by omega, by omega, by omega, by omega, by omega, by omega, by have h9 := hi_3_11; omega, by rw [show (z_26).toInt = v4_3.toInt + 1 by omega]; exact jcV.ot hi_3_12 (by omega) (by omega) hn9⟩) (by omega) _ (lv_sub hl [2, 3, 4, 5, 0] rfl)
                  have C290 : ∀ (H_27 : Heap) (locs_27 : List Loc), jSt (dC, dI) B base G0 G0 EX13_scanT s.heap 0 0 [(r0, 15, 30, .int wk_3), (r0, 15, 31, .int wo_3), (r0, 15, 10, .int wc_3), (r0, 15, 7, .int ws_3)] [(r1, 194, n1, ca 1, f1)] [] H_27 locs_27 → (40 ≤ z_5.toInt ∧ z_5.toInt ≤ 126) → ∀ ls : Array Slot, lv_has ls 7 [(0, .ref r0), (1, .ref r1), (2, .int a2), (3, .int a3), (4, .int v4_3), (5, .int z_5)] → W p l e R s m ([.ref r0, .ref r1, .int a2, .int a3] : List Value).toArray below meth c H_27 locs_27 0 0 Q (F0 m 290 ls []) := by
                    intro  H_27 locs_27 hh_27  hi_27 ls hl
                    obtain ⟨hi_27_0, hi_27_1⟩ := hi_27
                    refine lv_iconst (v := 1) hx hb dX13_scan_290 (by decide) ?_
                    refine lv_goto (tgt := 295) hx hb dX13_scan_291 (by decide) ?_
                    exact C295 1 _ _ hh_27 (Or.inr rfl) (by first | omega | rfl | assumption | decide | exact Or.inl rfl | exact Or.inr rfl | (simp only; omega)) _ (lv_sub hl [0, 1, 2, 3, 4, 5] rfl)
                  refine lv_icmp_eq (tgt := 290) hx hb dX13_scan_223 (by decide) (fun c_28 => ?_) (fun c_28 => ?_)
                  · skip
                    have c_28' : z_5.toInt = 42 := jb_eq (rfl) ((by decide)) c_28
                    exact C290  _ _ hh_18 (by first | omega | (refine ⟨?_, ?_⟩ <;> (first | omega | rfl | assumption | decide | exact Or.inl rfl | exact Or.inr rfl | (simp only; omega)))) _ (lv_sub hl [0, 1, 2, 3, 4, 5] rfl)
                  · skip
                    have c_28' : z_5.toInt ≠ 42 := jb_eq_n (rfl) ((by decide)) c_28
                    refine lv_iload hx hb dX13_scan_226 (lv_at hl 5 rfl) ?_
                    refine lv_bipush (v := 43) hx hb dX13_scan_228 (by decide) ?_
                    refine lv_icmp_eq (tgt := 290) hx hb dX13_scan_230 (by decide) (fun c_29 => ?_) (fun c_29 => ?_)
                    · skip
                      have c_29' : z_5.toInt = 43 := jb_eq (rfl) ((by decide)) c_29
                      exact C290  _ _ hh_18 (by first | omega | (refine ⟨?_, ?_⟩ <;> (first | omega | rfl | assumption | decide | exact Or.inl rfl | exact Or.inr rfl | (simp only; omega)))) _ (lv_sub hl [0, 1, 2, 3, 4, 5] rfl)
                    · skip
                      have c_29' : z_5.toInt ≠ 43 := jb_eq_n (rfl) ((by decide)) c_29
                      refine lv_iload hx hb dX13_scan_233 (lv_at hl 5 rfl) ?_
                      refine lv_bipush (v := 126) hx hb dX13_scan_235 (by decide) ?_
                      refine lv_icmp_eq (tgt := 290) hx hb dX13_scan_237 (by decide) (fun c_30 => ?_) (fun c_30 => ?_)
                      · skip
                        have c_30' : z_5.toInt = 126 := jb_eq (rfl) ((by decide)) c_30
                        exact C290  _ _ hh_18 (by first | omega | (refine ⟨?_, ?_⟩ <;> (first | omega | rfl | assumption | decide | exact Or.inl rfl | exact Or.inr rfl | (simp only; omega)))) _ (lv_sub hl [0, 1, 2, 3, 4, 5] rfl)
                      · skip
                        have c_30' : z_5.toInt ≠ 126 := jb_eq_n (rfl) ((by decide)) c_30
                        refine lv_iload hx hb dX13_scan_240 (lv_at hl 5 rfl) ?_
                        refine lv_bipush (v := 61) hx hb dX13_scan_242 (by decide) ?_
                        refine lv_icmp_eq (tgt := 290) hx hb dX13_scan_244 (by decide) (fun c_31 => ?_) (fun c_31 => ?_)
                        · skip
                          have c_31' : z_5.toInt = 61 := jb_eq (rfl) ((by decide)) c_31
                          exact C290  _ _ hh_18 (by first | omega | (refine ⟨?_, ?_⟩ <;> (first | omega | rfl | assumption | decide | exact Or.inl rfl | exact Or.inr rfl | (simp only; omega)))) _ (lv_sub hl [0, 1, 2, 3, 4, 5] rfl)
                        · skip
                          have c_31' : z_5.toInt ≠ 61 := jb_eq_n (rfl) ((by decide)) c_31
                          refine lv_iload hx hb dX13_scan_247 (lv_at hl 5 rfl) ?_
                          refine lv_bipush (v := 58) hx hb dX13_scan_249 (by decide) ?_
                          refine lv_icmp_eq (tgt := 290) hx hb dX13_scan_251 (by decide) (fun c_32 => ?_) (fun c_32 => ?_)
                          · skip
                            have c_32' : z_5.toInt = 58 := jb_eq (rfl) ((by decide)) c_32
                            exact C290  _ _ hh_18 (by first | omega | (refine ⟨?_, ?_⟩ <;> (first | omega | rfl | assumption | decide | exact Or.inl rfl | exact Or.inr rfl | (simp only; omega)))) _ (lv_sub hl [0, 1, 2, 3, 4, 5] rfl)
                          · skip
                            have c_32' : z_5.toInt ≠ 58 := jb_eq_n (rfl) ((by decide)) c_32
                            refine lv_iload hx hb dX13_scan_254 (lv_at hl 5 rfl) ?_
                            refine lv_bipush (v := 44) hx hb dX13_scan_256 (by decide) ?_
                            refine lv_icmp_eq (tgt := 290) hx hb dX13_scan_258 (by decide) (fun c_33 => ?_) (fun c_33 => ?_)
                            · skip
                              have c_33' : z_5.toInt = 44 := jb_eq (rfl) ((by decide)) c_33
                              exact C290  _ _ hh_18 (by first | omega | (refine ⟨?_, ?_⟩ <;> (first | omega | rfl | assumption | decide | exact Or.inl rfl | exact Or.inr rfl | (simp only; omega)))) _ (lv_sub hl [0, 1, 2, 3, 4, 5] rfl)
                            · skip
                              have c_33' : z_5.toInt ≠ 44 := jb_eq_n (rfl) ((by decide)) c_33
                              refine lv_iload hx hb dX13_scan_261 (lv_at hl 5 rfl) ?_
                              refine lv_bipush (v := 40) hx hb dX13_scan_263 (by decide) ?_
                              refine lv_icmp_eq (tgt := 290) hx hb dX13_scan_265 (by decide) (fun c_34 => ?_) (fun c_34 => ?_)
                              · skip
                                have c_34' : z_5.toInt = 40 := jb_eq (rfl) ((by decide)) c_34
                                exact C290  _ _ hh_18 (by first | omega | (refine ⟨?_, ?_⟩ <;> (first | omega | rfl | assumption | decide | exact Or.inl rfl | exact Or.inr rfl | (simp only; omega)))) _ (lv_sub hl [0, 1, 2, 3, 4, 5] rfl)
                              · skip
                                have c_34' : z_5.toInt ≠ 40 := jb_eq_n (rfl) ((by decide)) c_34
                                refine lv_iload hx hb dX13_scan_268 (lv_at hl 5 rfl) ?_
                                refine lv_bipush (v := 41) hx hb dX13_scan_270 (by decide) ?_
                                refine lv_icmp_eq (tgt := 290) hx hb dX13_scan_272 (by decide) (fun c_35 => ?_) (fun c_35 => ?_)
                                · skip
                                  have c_35' : z_5.toInt = 41 := jb_eq (rfl) ((by decide)) c_35
                                  exact C290  _ _ hh_18 (by first | omega | (refine ⟨?_, ?_⟩ <;> (first | omega | rfl | assumption | decide | exact Or.inl rfl | exact Or.inr rfl | (simp only; omega)))) _ (lv_sub hl [0, 1, 2, 3, 4, 5] rfl)
                                · skip
                                  have c_35' : z_5.toInt ≠ 41 := jb_eq_n (rfl) ((by decide)) c_35
                                  refine lv_iload hx hb dX13_scan_275 (lv_at hl 5 rfl) ?_
                                  refine lv_bipush (v := 46) hx hb dX13_scan_277 (by decide) ?_
                                  refine lv_icmp_ne (tgt := 294) hx hb dX13_scan_279 (by decide) (fun c_36 => ?_) (fun c_36 => ?_)
                                  · skip
                                    have c_36' : z_5.toInt ≠ 46 := jb_ne (rfl) ((by decide)) c_36
                                    refine lv_iconst (v := 0) hx hb dX13_scan_294 (by decide) ?_
                                    exact C295 0 _ _ hh_18 (Or.inl rfl) (by first | omega | rfl | assumption | decide | exact Or.inl rfl | exact Or.inr rfl | (simp only; omega)) _ (lv_sub hl [0, 1, 2, 3, 4, 5] rfl)
                                  · skip
                                    have c_36' : z_5.toInt = 46 := jb_ne_n (rfl) ((by decide)) c_36
                                    refine lv_iload hx hb dX13_scan_282 (lv_at hl 4 rfl) ?_
                                    refine lv_iconst (v := 1) hx hb dX13_scan_284 (by decide) ?_
                                    refine lv_iadd hx hb dX13_scan_285 ?_
                                    refine lv_topi (fun z_37 ez_37 => ?_)
                                    have hz_37 : z_37.toInt = v4_3.toInt + 1 := by rw [ez_37]; exact jb_iadd2 (rfl) ((by decide)) (by omega)
                                    refine lv_iload_n hx hb dX13_scan_286 rfl (lv_at hl 3 rfl) ?_
                                    refine lv_icmp_ne (tgt := 294) hx hb dX13_scan_287 (by decide) (fun c_38 => ?_) (fun c_38 => ?_)
                                    · skip
                                      have c_38' : z_37.toInt ≠ a3.toInt := jb_ne (rfl) (rfl) c_38
                                      refine lv_iconst (v := 0) hx hb dX13_scan_294 (by decide) ?_
                                      exact C295 0 _ _ hh_18 (Or.inl rfl) (by first | omega | rfl | assumption | decide | exact Or.inl rfl | exact Or.inr rfl | (simp only; omega)) _ (lv_sub hl [0, 1, 2, 3, 4, 5] rfl)
                                    · skip
                                      have c_38' : z_37.toInt = a3.toInt := jb_ne_n (rfl) (rfl) c_38
                                      exact C290  _ _ hh_18 (by first | omega | (refine ⟨?_, ?_⟩ <;> (first | omega | rfl | assumption | decide | exact Or.inl rfl | exact Or.inr rfl | (simp only; omega)))) _ (lv_sub hl [0, 1, 2, 3, 4, 5] rfl)
                refine lv_icmp_ne (tgt := 219) hx hb dX13_scan_184 (by decide) (fun c_39 => ?_) (fun c_39 => ?_)
                · skip
                  have c_39' : z_5.toInt ≠ 45 := jb_ne (rfl) ((by decide)) c_39
                  exact C219  _ _ hh_15 (by first | assumption | (intro h9; omega) | (intro _; exact Or.inl (by omega)) | (intro _; exact Or.inr (by rw [← hq200]; omega)) | omega) _ (lv_sub hl [1, 2, 3, 4, 5, 0] rfl)
                · skip
                  have c_39' : z_5.toInt = 45 := jb_ne_n (rfl) ((by decide)) c_39
                  refine lv_iload hx hb dX13_scan_187 (lv_at hl 5 rfl) ?_
                  refine lv_iconst (v := 1) hx hb dX13_scan_189 (by decide) ?_
                  refine lv_iadd hx hb dX13_scan_190 ?_
                  refine lv_topi (fun z_40 ez_40 => ?_)
                  have hz_40 : z_40.toInt = v4_3.toInt + 1 := by rw [ez_40]; exact jb_iadd2 (rfl) ((by decide)) (by omega)
                  refine lv_iload_n hx hb dX13_scan_191 rfl (lv_at hl 4 rfl) ?_
                  refine lv_icmp_ge (tgt := 219) hx hb dX13_scan_192 (by decide) (fun c_41 => ?_) (fun c_41 => ?_)
                  · skip
                    have c_41' : z_40.toInt ≥ a3.toInt := jb_ge (rfl) (rfl) c_41
                    exact C219  _ _ hh_15 (by first | assumption | (intro h9; omega) | (intro _; exact Or.inl (by omega)) | (intro _; exact Or.inr (by rw [← hq200]; omega)) | omega) _ (lv_sub hl [1, 2, 3, 4, 5, 0] rfl)
                  · skip
                    have c_41' : z_40.toInt < a3.toInt := jb_ge_n (rfl) (rfl) c_41
                    refine lv_aload_n hx hb dX13_scan_195 rfl (lv_at hl 2 rfl) ?_
                    refine lv_iload hx hb dX13_scan_196 (lv_at hl 5 rfl) ?_
                    refine lv_iconst (v := 1) hx hb dX13_scan_198 (by decide) ?_
                    refine lv_iadd hx hb dX13_scan_199 ?_
                    refine lv_topi (fun z_42 ez_42 => ?_)
                    have hz_42 : z_42.toInt = v4_3.toInt + 1 := by rw [ez_42]; exact jb_iadd2 (rfl) ((by decide)) (by omega)
                    refine j7_ialdM hx hb hK hh_15 hB194 1 rfl (by decide) hg_r1 (x := z_42.toInt) (rfl) (by omega) (j := 0) rfl dX13_scan_200 (fun z_43 ez_43 (hz_43 : True) => ?_)
                    have hqz_43 : z_43.toInt = jSo f1 ((v4_3.toInt + 1)) := by unfold jSo; rw [ez_43, show z_42.toInt = (v4_3.toInt + 1) by omega]
                    have hq200 : z_43.toInt = jSo f1 (v4_3.toInt + 1) := by rw [hqz_43]
                    refine lv_bipush (v := 62) hx hb dX13_scan_201 (by decide) ?_
                    refine lv_icmp_ne (tgt := 219) hx hb dX13_scan_203 (by decide) (fun c_44 => ?_) (fun c_44 => ?_)
                    · skip
                      have c_44' : z_43.toInt ≠ 62 := jb_ne (rfl) ((by decide)) c_44
                      exact C219  _ _ hh_15 (by first | assumption | (intro h9; omega) | (intro _; exact Or.inl (by omega)) | (intro _; exact Or.inr (by rw [← hq200]; omega)) | omega) _ (lv_sub hl [1, 2, 3, 4, 5, 0] rfl)
                    · skip
                      have c_44' : z_43.toInt = 62 := jb_ne_n (rfl) ((by decide)) c_44
                      refine lv_aload_n hx hb dX13_scan_206 rfl (lv_at hl 1 rfl) ?_
                      refine lv_iconst (v := 3) hx hb dX13_scan_207 (by decide) ?_
                      refine lv_bipush (v := 62) hx hb dX13_scan_208 (by decide) ?_
                      refine va_callv (A0 := jA base) (H0 := s.heap) (va_runV (As := [.int 3, .int 62]) (rest := []) ⟨hx, hb, hml, hown, hts⟩ (uX13_token l dC dI ca base B hB hAp hB15 hB157 hB167 G0 H_15 r0 3 62 wk_3) (cwV 2 hts (jgV (jWr_60 _ (List.mem_of_getElem? (i := 20) rfl)) (jWr_60 _ (List.mem_of_getElem? (i := 21) rfl)) (jWr_60 _ (List.mem_of_getElem? (i := 22) rfl)) (jWr_12 _ (List.mem_of_getElem? (i := 12) rfl)) (jWr_60 _ (List.mem_of_getElem? (i := 23) rfl))) rfl rfl rfl (by decide +kernel) ⟨by rw [← hR]; exact Nat.le_of_ble_eq_true rfl, by rw [← hR]; exact Nat.le_of_ble_eq_true rfl⟩) ⟨fun a U g mk q => by obtain ⟨q0, q1, q2, qK, q10, q11, q12⟩ := q; exact ⟨q0, q1, q2, jG.calling g mk a qK, q10, q11, q12⟩, hh_15.recv (C := RX13) (T := TX13) (N := 50) hB15 rfl (by decide) hg_r0 hK, fun U hU hW => ⟨rfl, hU, hh_15.2.1, hG.step hW hU hh_15.1, hg_r0, (hh_15.2.2.1.sub (L1 := [(r0, 15, 30, .int wk_3)]) [0] rfl), by first | omega | (refine ⟨?_, ?_, ?_, ?_⟩ <;> (first | omega | rfl | assumption | decide | exact Or.inl rfl | exact Or.inr rfl | (simp only; omega)))⟩⟩ rfl rfl hl.1 rfl (lv_room (Nat.le_of_ble_eq_true rfl)) dX13_scan_210 ⟨Nat.zero_le _, Nat.zero_le _⟩) hh_15.1 (fun q _ h => h) (fun q h => h) (fun u_45 t_45 H_45 locs_45 ht_45 hvm_45 hr_46 hb_45 hz_45 hk_45 hS_45 => ?_)
                      obtain ⟨qk_45, rfl⟩ : ∃ z, z = u_45 := ⟨_, rfl⟩
                      rw [ht_45] at hb_45
                      obtain ⟨hb_451, hb_452, hb_453, hb_454, hb_455⟩ := hb_45
                      have hh_45 : jSt (dC, dI) B base G0 G0 EX13_scanT s.heap 0 0 [(r0, 15, 30, .int qk_45), (r0, 15, 31, .int wo_3), (r0, 15, 10, .int wc_3), (r0, 15, 7, .int ws_3)] [(r1, 194, n1, ca 1, f1)] [] H_45 locs_45 := ((hh_15.call hb_451 hb_452 hb_453 hb_454 hS_45 rfl (L1 := [(r0, 15, 31, .int wo_3), (r0, 15, 10, .int wc_3), (r0, 15, 7, .int ws_3)]) [1, 2, 3] rfl rfl (M1 := [(r1, 194, n1, ca 1, f1)]) [0] rfl rfl (I1 := []) [] rfl rfl).more hb_455)
                      clear hh_15 ht_45 hvm_45 hz_45 hk_45 hS_45 hb_451 hb_452 hb_453 hb_454 hb_455
                      obtain ⟨z_47, ez_47⟩ : ∃ y : Int32, y = v4_3 + 2 := ⟨_, rfl⟩
                      refine lv_iinc (v := z_47) (lv' := [(4, .int z_47), (5, .int z_5), (0, .ref r0), (1, .ref r1), (2, .int a2), (3, .int a3)]) hx hb dX13_scan_213 hl (k := 5) rfl (by rw [ez_47]; rfl) (by decide) rfl (fun ls hl => ?_)
                      have hz_47 : z_47.toInt = v4_3.toInt + 2 := by rw [ez_47]; exact jb_iadd2 (rfl) (by decide) (by omega)
                      refine lv_goto (tgt := 325) hx hb dX13_scan_216 (by decide) ?_
                      refine lv_goto (tgt := 13) hx hb dX13_scan_325 (by decide) ?_
                      exact L13 z_47 qk_45 wo_3 wc_3 ws_3 (kf - 1) _ _ hh_45 (by have hk9 : 1 + jcK f1 nn a3.toInt (kf - 1) (z_47).toInt = jcK f1 nn a3.toInt kf v4_3.toInt := jcK_a (by omega) (by omega) (by rw [← hqz_5]; omega) (by rw [← hq200]; omega) (by omega); exact ⟨by omega, by omega, by omega, by omega, by omega, by omega, by omega, by omega, by omega, by omega, by omega, by have h9 := hi_3_11; omega, by rw [show (z_47).toInt = v4_3.toInt + 1 + 1 by omega]; exact (hi_3_12.ot (by omega) (by omega) hn9).ot (by omega) (by omega) (fun q9 => by have q1 := (jOpI.in q9).2.1; rw [← hq200] at q1; omega)⟩) (by omega) _ (lv_sub hl [2, 3, 4, 5, 0] rfl)
              · skip
                have c_17' : r_16.toInt ≠ 0 := jb_eq_n (rfl) ((by decide)) c_17
                refine lv_aload_n hx hb dX13_scan_164 rfl (lv_at hl 1 rfl) ?_
                refine lv_iconst (v := 2) hx hb dX13_scan_165 (by decide) ?_
                refine lv_iload hx hb dX13_scan_166 (lv_at hl 0 rfl) ?_
                refine lv_bipush (v := 48) hx hb dX13_scan_168 (by decide) ?_
                refine lv_isub hx hb dX13_scan_170 ?_
                refine lv_topi (fun z_48 ez_48 => ?_)
                have hz_48 : z_48.toInt = z_5.toInt - 48 := by rw [ez_48]; exact jb_isub2 (rfl) ((by decide)) (by omega)
                refine va_callv (A0 := jA base) (H0 := s.heap) (va_runV (As := [.int 2, .int z_48]) (rest := []) ⟨hx, hb, hml, hown, hts⟩ (uX13_token l dC dI ca base B hB hAp hB15 hB157 hB167 G0 H_15 r0 2 z_48 wk_3) (cwV 2 hts (jgV (jWr_60 _ (List.mem_of_getElem? (i := 20) rfl)) (jWr_60 _ (List.mem_of_getElem? (i := 21) rfl)) (jWr_60 _ (List.mem_of_getElem? (i := 22) rfl)) (jWr_12 _ (List.mem_of_getElem? (i := 12) rfl)) (jWr_60 _ (List.mem_of_getElem? (i := 23) rfl))) rfl rfl rfl (by decide +kernel) ⟨by rw [← hR]; exact Nat.le_of_ble_eq_true rfl, by rw [← hR]; exact Nat.le_of_ble_eq_true rfl⟩) ⟨fun a U g mk q => by obtain ⟨q0, q1, q2, qK, q10, q11, q12⟩ := q; exact ⟨q0, q1, q2, jG.calling g mk a qK, q10, q11, q12⟩, hh_15.recv (C := RX13) (T := TX13) (N := 50) hB15 rfl (by decide) hg_r0 hK, fun U hU hW => ⟨rfl, hU, hh_15.2.1, hG.step hW hU hh_15.1, hg_r0, (hh_15.2.2.1.sub (L1 := [(r0, 15, 30, .int wk_3)]) [0] rfl), by first | omega | (refine ⟨?_, ?_, ?_, ?_⟩ <;> (first | omega | rfl | assumption | decide | exact Or.inl rfl | exact Or.inr rfl | (simp only; omega)))⟩⟩ rfl rfl hl.1 rfl (lv_room (Nat.le_of_ble_eq_true rfl)) dX13_scan_171 ⟨Nat.zero_le _, Nat.zero_le _⟩) hh_15.1 (fun q _ h => h) (fun q h => h) (fun u_49 t_49 H_49 locs_49 ht_49 hvm_49 hr_50 hb_49 hz_49 hk_49 hS_49 => ?_)
                obtain ⟨qk_49, rfl⟩ : ∃ z, z = u_49 := ⟨_, rfl⟩
                rw [ht_49] at hb_49
                obtain ⟨hb_491, hb_492, hb_493, hb_494, hb_495⟩ := hb_49
                have hh_49 : jSt (dC, dI) B base G0 G0 EX13_scanT s.heap 0 0 [(r0, 15, 30, .int qk_49), (r0, 15, 31, .int wo_3), (r0, 15, 10, .int wc_3), (r0, 15, 7, .int ws_3)] [(r1, 194, n1, ca 1, f1)] [] H_49 locs_49 := ((hh_15.call hb_491 hb_492 hb_493 hb_494 hS_49 rfl (L1 := [(r0, 15, 31, .int wo_3), (r0, 15, 10, .int wc_3), (r0, 15, 7, .int ws_3)]) [1, 2, 3] rfl rfl (M1 := [(r1, 194, n1, ca 1, f1)]) [0] rfl rfl (I1 := []) [] rfl rfl).more hb_495)
                clear hh_15 ht_49 hvm_49 hz_49 hk_49 hS_49 hb_491 hb_492 hb_493 hb_494 hb_495
                obtain ⟨z_51, ez_51⟩ : ∃ y : Int32, y = v4_3 + 1 := ⟨_, rfl⟩
                refine lv_iinc (v := z_51) (lv' := [(4, .int z_51), (5, .int z_5), (0, .ref r0), (1, .ref r1), (2, .int a2), (3, .int a3)]) hx hb dX13_scan_174 hl (k := 5) rfl (by rw [ez_51]; rfl) (by decide) rfl (fun ls hl => ?_)
                have hz_51 : z_51.toInt = v4_3.toInt + 1 := by rw [ez_51]; exact jb_iadd2 (rfl) (by decide) (by omega)
                refine lv_goto (tgt := 325) hx hb dX13_scan_177 (by decide) ?_
                refine lv_goto (tgt := 13) hx hb dX13_scan_325 (by decide) ?_
                exact L13 z_51 qk_49 wo_3 wc_3 ws_3 (kf - 1) _ _ hh_49 (by have hk9 : 1 + jcK f1 nn a3.toInt (kf - 1) (z_51).toInt = jcK f1 nn a3.toInt kf v4_3.toInt := jcK_o (by omega) (by omega) hn9 hl9 (by rw [← hqz_5]; omega) (by rw [← hqz_5, ← hr_7p]; omega) (by omega); exact ⟨by omega, by omega, by omega, by omega, by omega, by omega, by omega, by omega, by omega, by omega, by omega, by have h9 := hi_3_11; omega, by rw [show (z_51).toInt = v4_3.toInt + 1 by omega]; exact jcV.ot hi_3_12 (by omega) (by omega) hn9⟩) (by omega) _ (lv_sub hl [2, 3, 4, 5, 0] rfl)
            · skip
              have c_14' : r_13.toInt ≠ 0 := jb_eq_n (rfl) ((by decide)) c_14
              have hl9 : jcLe (jSo f1 v4_3.toInt) = 1 := by rw [jcLe.lt, ← hqz_5, ← hr_13p]; omega
              refine lv_iload hx hb dX13_scan_82 (lv_at hl 5 rfl) ?_
              refine lv_istore (lv' := [(6, .int v4_3), (5, .int z_5), (0, .ref r0), (1, .ref r1), (2, .int a2), (3, .int a3), (4, .int v4_3)]) hx hb dX13_scan_84 hl (by decide) rfl (fun ls hl => ?_)
              have L86 : ∀ (N : Nat) (v4_52 : Int32) (H_52 : Heap) (locs_52 : List Loc), jSt (dC, dI) B base G0 G0 EX13_scanT s.heap 0 0 [(r0, 15, 30, .int wk_3), (r0, 15, 31, .int wo_3), (r0, 15, 10, .int wc_3), (r0, 15, 7, .int ws_3)] [(r1, 194, n1, ca 1, f1)] [] H_52 locs_52 → (v4_3.toInt ≤ v4_52.toInt ∧ v4_52.toInt ≤ a3.toInt ∧ a3.toInt - v4_52.toInt ≤ 1500 ∧ jcW f1 a3.toInt (a3.toInt - v4_52.toInt).toNat v4_52.toInt = jcWd f1 a3.toInt v4_3.toInt) → (a3.toInt - v4_52.toInt : Int) < N → ∀ ls : Array Slot, lv_has ls 7 [(0, .ref r0), (1, .ref r1), (2, .int a2), (3, .int a3), (4, .int v4_52), (5, .int z_5), (6, .int v4_3)] → W p l e R s m ([.ref r0, .ref r1, .int a2, .int a3] : List Value).toArray below meth c H_52 locs_52 0 0 Q (F0 m 86 ls []) := by
                intro N
                induction N with
                | zero => intro v4_52 H_52 locs_52 hh_52  hi_52 hm; exact absurd hm (by omega)
                | succ N L86 =>
                  intro v4_52 H_52 locs_52 hh_52  hi_52 hm_52 ls hl
                  obtain ⟨hi_52_0, hi_52_1, hi_52_2, hi_52_3⟩ := hi_52
                  refine lv_iload hx hb dX13_scan_86 (lv_at hl 4 rfl) ?_
                  refine lv_iload_n hx hb dX13_scan_88 rfl (lv_at hl 3 rfl) ?_
                  refine lv_icmp_ge (tgt := 108) hx hb dX13_scan_89 (by decide) (fun c_53 => ?_) (fun c_53 => ?_)
                  · skip
                    have c_53' : v4_52.toInt ≥ a3.toInt := jb_ge (rfl) (rfl) c_53
                    have hw9 : (v4_52).toInt = jcWd f1 a3.toInt v4_3.toInt := hi_52_3 ▸ (jcW_e (Or.inl (by omega))).symm
                    have hlt9 := jcWd.lt (f := f1) (e := a3.toInt) (i := v4_3.toInt) (by omega) hl9
                    refine lv_iload hx hb dX13_scan_108 (lv_at hl 4 rfl) ?_
                    refine lv_iload hx hb dX13_scan_110 (lv_at hl 6 rfl) ?_
                    refine lv_isub hx hb dX13_scan_112 ?_
                    refine lv_topi (fun z_54 ez_54 => ?_)
                    have hz_54 : z_54.toInt = v4_52.toInt - v4_3.toInt := by rw [ez_54]; exact jb_isub2 (rfl) (rfl) (by omega)
                    refine lv_bipush (v := 10) hx hb dX13_scan_113 (by decide) ?_
                    refine lv_icmp_le (tgt := 135) hx hb dX13_scan_115 (by decide) (fun c_55 => ?_) (fun c_55 => ?_)
                    · skip
                      have c_55' : z_54.toInt ≤ 10 := jb_le (rfl) ((by decide)) c_55
                      refine lv_aload_n hx hb dX13_scan_135 rfl (lv_at hl 0 rfl) ?_
                      refine lv_iconst (v := 1) hx hb dX13_scan_136 (by decide) ?_
                      refine lv_aload_n hx hb dX13_scan_137 rfl (lv_at hl 0 rfl) ?_
                      refine lv_aload_n hx hb dX13_scan_138 rfl (lv_at hl 1 rfl) ?_
                      refine lv_iload hx hb dX13_scan_139 (lv_at hl 6 rfl) ?_
                      refine lv_iload hx hb dX13_scan_141 (lv_at hl 4 rfl) ?_
                      refine va_calli (A0 := jA base) (H0 := s.heap) (va_runV (As := [.ref r1, .int v4_3, .int v4_52]) (rest := [.int 1, .ref r0]) ⟨hx, hb, hml, hown, hts⟩ (uX13_nameOfv9 l dC dI ca base B hB hAp hB15 hB155 hB156 hB166 hB194 G0 H_52 r0 r1 v4_3 v4_52 n1 wc_3 ws_3) (cwV 3 hts (jgV (jWr_60 _ (List.mem_of_getElem? (i := 16) rfl)) (jWr_60 _ (List.mem_of_getElem? (i := 17) rfl)) (jWr_60 _ (List.mem_of_getElem? (i := 18) rfl)) (jWr_12 _ (List.mem_of_getElem? (i := 12) rfl)) (jWr_60 _ (List.mem_of_getElem? (i := 19) rfl))) rfl rfl rfl (by decide +kernel) ⟨by rw [← hR]; exact Nat.le_of_ble_eq_true rfl, by rw [← hR]; exact Nat.le_of_ble_eq_true rfl⟩) ⟨fun a U g mk q => by obtain ⟨q0, q1, q2, qK, q10, q11, q12, q13⟩ := q; exact ⟨q0, q1, q2, jG.calling g mk a qK, q10, q11, q12, q13⟩, hh_52.recv (C := RX13) (T := TX13) (N := 50) hB15 rfl (by decide) hg_r0 hK, fun U hU hW => ⟨rfl, hU, hh_52.2.1, hG.step hW hU hh_52.1, hg_r1, hg_r0, (hh_52.2.2.1.sub (L1 := [(r0, 15, 10, .int wc_3), (r0, 15, 7, .int ws_3)]) [2, 3] rfl), by first | omega | (refine ⟨?_, ?_, ?_, ?_, ?_, ?_, ?_, ?_, ?_⟩ <;> (first | omega | rfl | assumption | decide | exact Or.inl rfl | exact Or.inr rfl | (simp only; omega)))⟩⟩ rfl rfl hl.1 rfl (lv_room (Nat.le_of_ble_eq_true rfl)) dX13_scan_143 ⟨Nat.zero_le _, Nat.zero_le _⟩) hh_52.1 (fun q _ h => h) (fun q h => h) (fun r_57 u_56 t_56 H_56 locs_56 ht_56 hvm_56 hr_57 hb_56 hz_56 hk_56 hS_56 => ?_)
                      obtain ⟨qc_56, qs_56⟩ := u_56
                      rw [ht_56] at hb_56
                      obtain ⟨hb_561, hb_562, hb_563, hb_564, hb_565⟩ := hb_56
                      have hh_56 : jSt (dC, dI) B base G0 G0 EX13_scanT s.heap 0 0 [(r0, 15, 10, .int qc_56), (r0, 15, 7, .int qs_56), (r0, 15, 30, .int wk_3), (r0, 15, 31, .int wo_3)] [(r1, 194, n1, ca 1, f1)] [] H_56 locs_56 := ((hh_52.call hb_561 hb_562 hb_563 hb_564 hS_56 rfl (L1 := [(r0, 15, 30, .int wk_3), (r0, 15, 31, .int wo_3)]) [0, 1] rfl rfl (M1 := [(r1, 194, n1, ca 1, f1)]) [0] rfl rfl (I1 := []) [] rfl rfl).more hb_565)
                      clear hh_52 ht_56 hvm_56 hz_56 hk_56 hS_56 hb_561 hb_562 hb_563 hb_564 hb_565
                      try simp only at hr_57
                      obtain ⟨hr_57_0, hr_57_1, hr_57_2, hr_57_3, hr_57_4, hr_57_5⟩ := hr_57
                      refine va_callv (A0 := jA base) (H0 := s.heap) (va_runV (As := [.int 1, .int r_57]) (rest := []) ⟨hx, hb, hml, hown, hts⟩ (uX13_token l dC dI ca base B hB hAp hB15 hB157 hB167 G0 H_56 r0 1 r_57 wk_3) (cwV 2 hts (jgV (jWr_60 _ (List.mem_of_getElem? (i := 20) rfl)) (jWr_60 _ (List.mem_of_getElem? (i := 21) rfl)) (jWr_60 _ (List.mem_of_getElem? (i := 22) rfl)) (jWr_12 _ (List.mem_of_getElem? (i := 12) rfl)) (jWr_60 _ (List.mem_of_getElem? (i := 23) rfl))) rfl rfl rfl (by decide +kernel) ⟨by rw [← hR]; exact Nat.le_of_ble_eq_true rfl, by rw [← hR]; exact Nat.le_of_ble_eq_true rfl⟩) ⟨fun a U g mk q => by obtain ⟨q0, q1, q2, qK, q10, q11, q12⟩ := q; exact ⟨q0, q1, q2, jG.calling g mk a qK, q10, q11, q12⟩, hh_56.recv (C := RX13) (T := TX13) (N := 50) hB15 rfl (by decide) hg_r0 hK, fun U hU hW => ⟨rfl, hU, hh_56.2.1, hG.step hW hU hh_56.1, hg_r0, (hh_56.2.2.1.sub (L1 := [(r0, 15, 30, .int wk_3)]) [2] rfl), by first | omega | (refine ⟨?_, ?_, ?_, ?_⟩ <;> (first | omega | rfl | assumption | decide | exact Or.inl rfl | exact Or.inr rfl | (simp only; omega)))⟩⟩ rfl rfl hl.1 rfl (lv_room (Nat.le_of_ble_eq_true rfl)) dX13_scan_146 ⟨Nat.zero_le _, Nat.zero_le _⟩) hh_56.1 (fun q _ h => h) (fun q h => h) (fun u_58 t_58 H_58 locs_58 ht_58 hvm_58 hr_59 hb_58 hz_58 hk_58 hS_58 => ?_)
                      obtain ⟨qk_58, rfl⟩ : ∃ z, z = u_58 := ⟨_, rfl⟩
                      rw [ht_58] at hb_58
                      obtain ⟨hb_581, hb_582, hb_583, hb_584, hb_585⟩ := hb_58
                      have hh_58 : jSt (dC, dI) B base G0 G0 EX13_scanT s.heap 0 0 [(r0, 15, 30, .int qk_58), (r0, 15, 10, .int qc_56), (r0, 15, 7, .int qs_56), (r0, 15, 31, .int wo_3)] [(r1, 194, n1, ca 1, f1)] [] H_58 locs_58 := ((hh_56.call hb_581 hb_582 hb_583 hb_584 hS_58 rfl (L1 := [(r0, 15, 10, .int qc_56), (r0, 15, 7, .int qs_56), (r0, 15, 31, .int wo_3)]) [0, 1, 3] rfl rfl (M1 := [(r1, 194, n1, ca 1, f1)]) [0] rfl rfl (I1 := []) [] rfl rfl).more hb_585)
                      clear hh_56 ht_58 hvm_58 hz_58 hk_58 hS_58 hb_581 hb_582 hb_583 hb_584 hb_585
                      refine lv_goto (tgt := 325) hx hb dX13_scan_149 (by decide) ?_
                      refine lv_goto (tgt := 13) hx hb dX13_scan_325 (by decide) ?_
                      exact L13 v4_52 qk_58 wo_3 qc_56 qs_56 (kf - 1) _ _ (hh_58.sub (L1 := [(r0, 15, 30, .int qk_58), (r0, 15, 31, .int wo_3), (r0, 15, 10, .int qc_56), (r0, 15, 7, .int qs_56)]) [0, 3, 1, 2] rfl (M1 := [(r1, 194, n1, ca 1, f1)]) [0] rfl (I1 := []) [] rfl) (by have hk9 : 1 + jcK f1 nn a3.toInt (kf - 1) (v4_52).toInt = jcK f1 nn a3.toInt kf v4_3.toInt := jcK_w (by omega) (by omega) hl9 hw9 (by first | (rw [if_pos (by omega)]) | (rw [if_neg (by omega)])); exact ⟨by omega, by omega, by omega, by omega, by omega, by omega, by omega, by omega, by omega, by omega, by omega, by have h9 := hi_3_11; omega, by rw [hw9]; exact jcV.ru (by omega) _ _ hi_3_12⟩) (by omega) _ (lv_sub hl [0, 1, 2, 3, 4] rfl)
                    · skip
                      have c_55' : z_54.toInt > 10 := jb_le_n (rfl) ((by decide)) c_55
                      refine lv_aload_n hx hb dX13_scan_118 rfl (lv_at hl 0 rfl) ?_
                      refine lv_dup hx hb dX13_scan_119 rfl ?_
                      refine j7_read hx hb hown hK (C := RX13) (T := TX13) (N := 50) rfl hly_15_31 hlk_143 (hh_52.at 1 rfl) dX13_scan_120 ?_
                      refine lv_iload hx hb dX13_scan_123 (lv_at hl 4 rfl) ?_
                      refine lv_iload hx hb dX13_scan_125 (lv_at hl 6 rfl) ?_
                      refine lv_isub hx hb dX13_scan_127 ?_
                      refine lv_topi (fun z_60 ez_60 => ?_)
                      have hz_60 : z_60.toInt = v4_52.toInt - v4_3.toInt := by rw [ez_60]; exact jb_isub2 (rfl) (rfl) (by omega)
                      refine lv_iadd hx hb dX13_scan_128 ?_
                      refine lv_topi (fun z_61 ez_61 => ?_)
                      have hz_61 : z_61.toInt = wo_3.toInt + z_60.toInt := by rw [ez_61]; exact jb_iadd2 (rfl) (rfl) (by omega)
                      refine j7_put hx hb hown hK hh_52 hB hAp hB15 (C := RX13) (T := TX13) (N := 50) rfl (by decide) hg_r0 (i := 31) (by decide) hly_15_31 rfl hlk_143 rfl (ty := .int) (v := .int z_61) (by decide +kernel) rfl rfl (⟨_, rfl⟩) rfl (L1 := [(r0, 15, 30, .int wk_3), (r0, 15, 10, .int wc_3), (r0, 15, 7, .int ws_3)]) [0, 2, 3] rfl rfl rfl dX13_scan_129 (fun H_62 locs_62 hh_62 => ?_)
                      clear hh_52
                      refine lv_goto (tgt := 149) hx hb dX13_scan_132 (by decide) ?_
                      refine lv_goto (tgt := 325) hx hb dX13_scan_149 (by decide) ?_
                      refine lv_goto (tgt := 13) hx hb dX13_scan_325 (by decide) ?_
                      exact L13 v4_52 wk_3 z_61 wc_3 ws_3 (kf - 1) _ _ (hh_62.sub (L1 := [(r0, 15, 30, .int wk_3), (r0, 15, 31, .int z_61), (r0, 15, 10, .int wc_3), (r0, 15, 7, .int ws_3)]) [1, 0, 2, 3] rfl (M1 := [(r1, 194, n1, ca 1, f1)]) [0] rfl (I1 := []) [] rfl) (by have hk9 : ((v4_52).toInt - v4_3.toInt) + jcK f1 nn a3.toInt (kf - 1) (v4_52).toInt = jcK f1 nn a3.toInt kf v4_3.toInt := jcK_w (by omega) (by omega) hl9 hw9 (by first | (rw [if_pos (by omega)]) | (rw [if_neg (by omega)])); exact ⟨by omega, by omega, by omega, by omega, by omega, by omega, by omega, by omega, by omega, by omega, by omega, by have h9 := hi_3_11; omega, by rw [hw9]; exact jcV.ru (by omega) _ _ hi_3_12⟩) (by omega) _ (lv_sub hl [0, 1, 2, 3, 4] rfl)
                  · skip
                    have c_53' : v4_52.toInt < a3.toInt := jb_ge_n (rfl) (rfl) c_53
                    refine lv_aload_n hx hb dX13_scan_92 rfl (lv_at hl 1 rfl) ?_
                    refine lv_iload hx hb dX13_scan_93 (lv_at hl 4 rfl) ?_
                    refine j7_ialdM hx hb hK hh_52 hB194 1 rfl (by decide) hg_r1 (x := v4_52.toInt) (rfl) (by omega) (j := 0) rfl dX13_scan_95 (fun z_63 ez_63 (hz_63 : True) => ?_)
                    have hqz_63 : z_63.toInt = jSo f1 (v4_52.toInt) := by unfold jSo; rw [ez_63]
                    refine va_calli (A0 := jA base) (H0 := s.heap) (va_runS (As := [.int z_63]) (rest := []) ⟨hx, hb, hml, hown, hts⟩ (uX13_isNameSignT l dC dI ca base B hB hAp G0 H_52 z_63) (va_cwS 1 hts (jgS (jWr_60 _ (List.mem_of_getElem? (i := 13) rfl)) (jWr_60 _ (List.mem_of_getElem? (i := 14) rfl)) (jWr_12 _ (List.mem_of_getElem? (i := 12) rfl)) (jWr_60 _ (List.mem_of_getElem? (i := 15) rfl))) rfl rfl rfl (by decide +kernel) ⟨by rw [← hR]; exact Nat.le_of_ble_eq_true rfl, by rw [← hR]; exact Nat.le_of_ble_eq_true rfl⟩) ⟨fun a U g mk q => by obtain ⟨q0, q1, q2, qK, q10, q11⟩ := q; exact ⟨q0, q1, q2, jG.calling g mk a qK, q10, q11⟩, fun U hU hW => ⟨rfl, hU, hh_52.2.1, hG.step hW hU hh_52.1, jP.nil, trivial⟩⟩ rfl rfl hl.1 rfl (lv_room (Nat.le_of_ble_eq_true rfl)) dX13_scan_96 ⟨Nat.zero_le _, Nat.zero_le _⟩) hh_52.1 (fun q _ h => h) (fun q h => h) (fun r_65 u_64 t_64 H_64 locs_64 ht_64 hvm_64 hr_65 hb_64 hz_64 hk_64 hS_64 => ?_)
                    rw [ht_64] at hb_64
                    obtain ⟨hb_641, hb_642, hb_643, hb_644, hb_645⟩ := hb_64
                    have hh_64 : jSt (dC, dI) B base G0 G0 EX13_scanT s.heap 0 0 [(r0, 15, 30, .int wk_3), (r0, 15, 31, .int wo_3), (r0, 15, 10, .int wc_3), (r0, 15, 7, .int ws_3)] [(r1, 194, n1, ca 1, f1)] [] H_64 locs_64 := ((hh_52.call hb_641 hb_642 hb_643 hb_644 hS_64 rfl (L1 := [(r0, 15, 30, .int wk_3), (r0, 15, 31, .int wo_3), (r0, 15, 10, .int wc_3), (r0, 15, 7, .int ws_3)]) [0, 1, 2, 3] rfl rfl (M1 := [(r1, 194, n1, ca 1, f1)]) [0] rfl rfl (I1 := []) [] rfl rfl).more hb_645)
                    clear hh_52 ht_64 hvm_64 hz_64 hk_64 hS_64 hb_641 hb_642 hb_643 hb_644 hb_645
                    obtain ⟨hr_65b, hr_65p⟩ := hr_65
                    have hr_65' := jb_01 hr_65b
                    refine lv_if_eq (tgt := 108) hx hb dX13_scan_99 (by decide) (fun c_66 => ?_) (fun c_66 => ?_)
                    · skip
                      have c_66' : r_65.toInt = 0 := jb_eq (rfl) ((by decide)) c_66
                      have hw9 : (v4_52).toInt = jcWd f1 a3.toInt v4_3.toInt := hi_52_3 ▸ (jcW_e (Or.inr (by rw [← hqz_63, ← hr_65p]; omega))).symm
                      have hlt9 := jcWd.lt (f := f1) (e := a3.toInt) (i := v4_3.toInt) (by omega) hl9
                      refine lv_iload hx hb dX13_scan_108 (lv_at hl 4 rfl) ?_
                      refine lv_iload hx hb dX13_scan_110 (lv_at hl 6 rfl) ?_
                      refine lv_isub hx hb dX13_scan_112 ?_
                      refine lv_topi (fun z_67 ez_67 => ?_)
                      have hz_67 : z_67.toInt = v4_52.toInt - v4_3.toInt := by rw [ez_67]; exact jb_isub2 (rfl) (rfl) (by omega)
                      refine lv_bipush (v := 10) hx hb dX13_scan_113 (by decide) ?_
                      refine lv_icmp_le (tgt := 135) hx hb dX13_scan_115 (by decide) (fun c_68 => ?_) (fun c_68 => ?_)
                      · skip
                        have c_68' : z_67.toInt ≤ 10 := jb_le (rfl) ((by decide)) c_68
                        refine lv_aload_n hx hb dX13_scan_135 rfl (lv_at hl 0 rfl) ?_
                        refine lv_iconst (v := 1) hx hb dX13_scan_136 (by decide) ?_
                        refine lv_aload_n hx hb dX13_scan_137 rfl (lv_at hl 0 rfl) ?_
                        refine lv_aload_n hx hb dX13_scan_138 rfl (lv_at hl 1 rfl) ?_
                        refine lv_iload hx hb dX13_scan_139 (lv_at hl 6 rfl) ?_
                        refine lv_iload hx hb dX13_scan_141 (lv_at hl 4 rfl) ?_
                        refine va_calli (A0 := jA base) (H0 := s.heap) (va_runV (As := [.ref r1, .int v4_3, .int v4_52]) (rest := [.int 1, .ref r0]) ⟨hx, hb, hml, hown, hts⟩ (uX13_nameOfv9 l dC dI ca base B hB hAp hB15 hB155 hB156 hB166 hB194 G0 H_64 r0 r1 v4_3 v4_52 n1 wc_3 ws_3) (cwV 3 hts (jgV (jWr_60 _ (List.mem_of_getElem? (i := 16) rfl)) (jWr_60 _ (List.mem_of_getElem? (i := 17) rfl)) (jWr_60 _ (List.mem_of_getElem? (i := 18) rfl)) (jWr_12 _ (List.mem_of_getElem? (i := 12) rfl)) (jWr_60 _ (List.mem_of_getElem? (i := 19) rfl))) rfl rfl rfl (by decide +kernel) ⟨by rw [← hR]; exact Nat.le_of_ble_eq_true rfl, by rw [← hR]; exact Nat.le_of_ble_eq_true rfl⟩) ⟨fun a U g mk q => by obtain ⟨q0, q1, q2, qK, q10, q11, q12, q13⟩ := q; exact ⟨q0, q1, q2, jG.calling g mk a qK, q10, q11, q12, q13⟩, hh_64.recv (C := RX13) (T := TX13) (N := 50) hB15 rfl (by decide) hg_r0 hK, fun U hU hW => ⟨rfl, hU, hh_64.2.1, hG.step hW hU hh_64.1, hg_r1, hg_r0, (hh_64.2.2.1.sub (L1 := [(r0, 15, 10, .int wc_3), (r0, 15, 7, .int ws_3)]) [2, 3] rfl), by first | omega | (refine ⟨?_, ?_, ?_, ?_, ?_, ?_, ?_, ?_, ?_⟩ <;> (first | omega | rfl | assumption | decide | exact Or.inl rfl | exact Or.inr rfl | (simp only; omega)))⟩⟩ rfl rfl hl.1 rfl (lv_room (Nat.le_of_ble_eq_true rfl)) dX13_scan_143 ⟨Nat.zero_le _, Nat.zero_le _⟩) hh_64.1 (fun q _ h => h) (fun q h => h) (fun r_70 u_69 t_69 H_69 locs_69 ht_69 hvm_69 hr_70 hb_69 hz_69 hk_69 hS_69 => ?_)
                        obtain ⟨qc_69, qs_69⟩ := u_69
                        rw [ht_69] at hb_69
                        obtain ⟨hb_691, hb_692, hb_693, hb_694, hb_695⟩ := hb_69
                        have hh_69 : jSt (dC, dI) B base G0 G0 EX13_scanT s.heap 0 0 [(r0, 15, 10, .int qc_69), (r0, 15, 7, .int qs_69), (r0, 15, 30, .int wk_3), (r0, 15, 31, .int wo_3)] [(r1, 194, n1, ca 1, f1)] [] H_69 locs_69 := ((hh_64.call hb_691 hb_692 hb_693 hb_694 hS_69 rfl (L1 := [(r0, 15, 30, .int wk_3), (r0, 15, 31, .int wo_3)]) [0, 1] rfl rfl (M1 := [(r1, 194, n1, ca 1, f1)]) [0] rfl rfl (I1 := []) [] rfl rfl).more hb_695)
                        clear hh_64 ht_69 hvm_69 hz_69 hk_69 hS_69 hb_691 hb_692 hb_693 hb_694 hb_695
                        try simp only at hr_70
                        obtain ⟨hr_70_0, hr_70_1, hr_70_2, hr_70_3, hr_70_4, hr_70_5⟩ := hr_70
                        refine va_callv (A0 := jA base) (H0 := s.heap) (va_runV (As := [.int 1, .int r_70]) (rest := []) ⟨hx, hb, hml, hown, hts⟩ (uX13_token l dC dI ca base B hB hAp hB15 hB157 hB167 G0 H_69 r0 1 r_70 wk_3) (cwV 2 hts (jgV (jWr_60 _ (List.mem_of_getElem? (i := 20) rfl)) (jWr_60 _ (List.mem_of_getElem? (i := 21) rfl)) (jWr_60 _ (List.mem_of_getElem? (i := 22) rfl)) (jWr_12 _ (List.mem_of_getElem? (i := 12) rfl)) (jWr_60 _ (List.mem_of_getElem? (i := 23) rfl))) rfl rfl rfl (by decide +kernel) ⟨by rw [← hR]; exact Nat.le_of_ble_eq_true rfl, by rw [← hR]; exact Nat.le_of_ble_eq_true rfl⟩) ⟨fun a U g mk q => by obtain ⟨q0, q1, q2, qK, q10, q11, q12⟩ := q; exact ⟨q0, q1, q2, jG.calling g mk a qK, q10, q11, q12⟩, hh_69.recv (C := RX13) (T := TX13) (N := 50) hB15 rfl (by decide) hg_r0 hK, fun U hU hW => ⟨rfl, hU, hh_69.2.1, hG.step hW hU hh_69.1, hg_r0, (hh_69.2.2.1.sub (L1 := [(r0, 15, 30, .int wk_3)]) [2] rfl), by first | omega | (refine ⟨?_, ?_, ?_, ?_⟩ <;> (first | omega | rfl | assumption | decide | exact Or.inl rfl | exact Or.inr rfl | (simp only; omega)))⟩⟩ rfl rfl hl.1 rfl (lv_room (Nat.le_of_ble_eq_true rfl)) dX13_scan_146 ⟨Nat.zero_le _, Nat.zero_le _⟩) hh_69.1 (fun q _ h => h) (fun q h => h) (fun u_71 t_71 H_71 locs_71 ht_71 hvm_71 hr_72 hb_71 hz_71 hk_71 hS_71 => ?_)
                        obtain ⟨qk_71, rfl⟩ : ∃ z, z = u_71 := ⟨_, rfl⟩
                        rw [ht_71] at hb_71
                        obtain ⟨hb_711, hb_712, hb_713, hb_714, hb_715⟩ := hb_71
                        have hh_71 : jSt (dC, dI) B base G0 G0 EX13_scanT s.heap 0 0 [(r0, 15, 30, .int qk_71), (r0, 15, 10, .int qc_69), (r0, 15, 7, .int qs_69), (r0, 15, 31, .int wo_3)] [(r1, 194, n1, ca 1, f1)] [] H_71 locs_71 := ((hh_69.call hb_711 hb_712 hb_713 hb_714 hS_71 rfl (L1 := [(r0, 15, 10, .int qc_69), (r0, 15, 7, .int qs_69), (r0, 15, 31, .int wo_3)]) [0, 1, 3] rfl rfl (M1 := [(r1, 194, n1, ca 1, f1)]) [0] rfl rfl (I1 := []) [] rfl rfl).more hb_715)
                        clear hh_69 ht_71 hvm_71 hz_71 hk_71 hS_71 hb_711 hb_712 hb_713 hb_714 hb_715
                        refine lv_goto (tgt := 325) hx hb dX13_scan_149 (by decide) ?_
                        refine lv_goto (tgt := 13) hx hb dX13_scan_325 (by decide) ?_
                        exact L13 v4_52 qk_71 wo_3 qc_69 qs_69 (kf - 1) _ _ (hh_71.sub (L1 := [(r0, 15, 30, .int qk_71), (r0, 15, 31, .int wo_3), (r0, 15, 10, .int qc_69), (r0, 15, 7, .int qs_69)]) [0, 3, 1, 2] rfl (M1 := [(r1, 194, n1, ca 1, f1)]) [0] rfl (I1 := []) [] rfl) (by have hk9 : 1 + jcK f1 nn a3.toInt (kf - 1) (v4_52).toInt = jcK f1 nn a3.toInt kf v4_3.toInt := jcK_w (by omega) (by omega) hl9 hw9 (by first | (rw [if_pos (by omega)]) | (rw [if_neg (by omega)])); exact ⟨by omega, by omega, by omega, by omega, by omega, by omega, by omega, by omega, by omega, by omega, by omega, by have h9 := hi_3_11; omega, by rw [hw9]; exact jcV.ru (by omega) _ _ hi_3_12⟩) (by omega) _ (lv_sub hl [0, 1, 2, 3, 4] rfl)
                      · skip
                        have c_68' : z_67.toInt > 10 := jb_le_n (rfl) ((by decide)) c_68
                        refine lv_aload_n hx hb dX13_scan_118 rfl (lv_at hl 0 rfl) ?_
                        refine lv_dup hx hb dX13_scan_119 rfl ?_
                        refine j7_read hx hb hown hK (C := RX13) (T := TX13) (N := 50) rfl hly_15_31 hlk_143 (hh_64.at 1 rfl) dX13_scan_120 ?_
                        refine lv_iload hx hb dX13_scan_123 (lv_at hl 4 rfl) ?_
                        refine lv_iload hx hb dX13_scan_125 (lv_at hl 6 rfl) ?_
                        refine lv_isub hx hb dX13_scan_127 ?_
                        refine lv_topi (fun z_73 ez_73 => ?_)
                        have hz_73 : z_73.toInt = v4_52.toInt - v4_3.toInt := by rw [ez_73]; exact jb_isub2 (rfl) (rfl) (by omega)
                        refine lv_iadd hx hb dX13_scan_128 ?_
                        refine lv_topi (fun z_74 ez_74 => ?_)
                        have hz_74 : z_74.toInt = wo_3.toInt + z_73.toInt := by rw [ez_74]; exact jb_iadd2 (rfl) (rfl) (by omega)
                        refine j7_put hx hb hown hK hh_64 hB hAp hB15 (C := RX13) (T := TX13) (N := 50) rfl (by decide) hg_r0 (i := 31) (by decide) hly_15_31 rfl hlk_143 rfl (ty := .int) (v := .int z_74) (by decide +kernel) rfl rfl (⟨_, rfl⟩) rfl (L1 := [(r0, 15, 30, .int wk_3), (r0, 15, 10, .int wc_3), (r0, 15, 7, .int ws_3)]) [0, 2, 3] rfl rfl rfl dX13_scan_129 (fun H_75 locs_75 hh_75 => ?_)
                        clear hh_64
                        refine lv_goto (tgt := 149) hx hb dX13_scan_132 (by decide) ?_
                        refine lv_goto (tgt := 325) hx hb dX13_scan_149 (by decide) ?_
                        refine lv_goto (tgt := 13) hx hb dX13_scan_325 (by decide) ?_
                        exact L13 v4_52 wk_3 z_74 wc_3 ws_3 (kf - 1) _ _ (hh_75.sub (L1 := [(r0, 15, 30, .int wk_3), (r0, 15, 31, .int z_74), (r0, 15, 10, .int wc_3), (r0, 15, 7, .int ws_3)]) [1, 0, 2, 3] rfl (M1 := [(r1, 194, n1, ca 1, f1)]) [0] rfl (I1 := []) [] rfl) (by have hk9 : ((v4_52).toInt - v4_3.toInt) + jcK f1 nn a3.toInt (kf - 1) (v4_52).toInt = jcK f1 nn a3.toInt kf v4_3.toInt := jcK_w (by omega) (by omega) hl9 hw9 (by first | (rw [if_pos (by omega)]) | (rw [if_neg (by omega)])); exact ⟨by omega, by omega, by omega, by omega, by omega, by omega, by omega, by omega, by omega, by omega, by omega, by have h9 := hi_3_11; omega, by rw [hw9]; exact jcV.ru (by omega) _ _ hi_3_12⟩) (by omega) _ (lv_sub hl [0, 1, 2, 3, 4] rfl)
                    · skip
                      have c_66' : r_65.toInt ≠ 0 := jb_eq_n (rfl) ((by decide)) c_66
                      obtain ⟨z_76, ez_76⟩ : ∃ y : Int32, y = v4_52 + 1 := ⟨_, rfl⟩
                      refine lv_iinc (v := z_76) (lv' := [(4, .int z_76), (0, .ref r0), (1, .ref r1), (2, .int a2), (3, .int a3), (5, .int z_5), (6, .int v4_3)]) hx hb dX13_scan_102 hl (k := 4) rfl (by rw [ez_76]; rfl) (by decide) rfl (fun ls hl => ?_)
                      have hz_76 : z_76.toInt = v4_52.toInt + 1 := by rw [ez_76]; exact jb_iadd2 (rfl) (by decide) (by omega)
                      refine lv_goto (tgt := 86) hx hb dX13_scan_105 (by decide) ?_
                      exact L86 z_76 _ _ hh_64 (⟨by omega, by omega, by omega, (jcW_t (by omega) (by rw [← hqz_63, ← hr_65p]; omega) (by omega)).trans hi_52_3⟩) (by omega) _ (lv_sub hl [1, 2, 3, 4, 0, 5, 6] rfl)
              exact L86 (a3.toInt - (v4_3 : Int32).toInt : Int).toNat.succ v4_3 _ _ hh_12 (⟨by omega, by omega, by omega, rfl⟩) (by omega) _ (lv_sub hl [2, 3, 4, 5, 6, 1, 0] rfl)
          · skip
            have c_11' : r_10.toInt ≠ 0 := jb_eq_n (rfl) ((by decide)) c_11
            have ho9 : jOpI f1 v4_3.toInt nn = 1 := by rw [← jcV.oe hi_3_12 (by omega) (by omega) (by omega), ← hr_10p_0]; omega
            have hb7 := jcV.op hi_3_12 (by omega) (by omega) ho9
            refine lv_aload_n hx hb dX13_scan_49 rfl (lv_at hl 2 rfl) ?_
            refine lv_iload hx hb dX13_scan_50 (lv_at hl 5 rfl) ?_
            refine lv_iload_n hx hb dX13_scan_52 rfl (lv_at hl 4 rfl) ?_
            refine va_calli (A0 := jA base) (H0 := s.heap) (va_runSN (As := [.ref r1, .int v4_3, .int a3]) (rest := []) ⟨hx, hb, hml, hown, hts⟩ (uX14_behindCommentv9 l dC dI ca base B hB hAp hB101 hB194 G0 H_9 r1 v4_3 a3 n1 f1) ⟨va_cnB 3 hts (jgW (jWr_58 _ (List.mem_of_getElem? (i := 0) rfl))) rfl rfl rfl (hG.2.2.1 RX13 153 yX14_behindComment "ProofServerModel" (List.mem_of_getElem? (i := 2573) (by decide +kernel))) (htw (.initialized RX14) (jWr_1 _ (List.mem_of_getElem? (i := 5) rfl))) (by decide +kernel) ⟨by rw [← hR]; exact Nat.le_of_ble_eq_true rfl, by rw [← hR]; exact Nat.le_of_ble_eq_true rfl⟩, htw (.static yX14_behindComment) (jWr_57 _ (List.mem_of_getElem? (i := 23) rfl)), trivial⟩ ⟨fun a U g mk q => by obtain ⟨q0, q1, q2, qK, q10, q11, q12, q13⟩ := q; exact ⟨q0, q1, q2, jG.calling g mk a qK, q10, q11, q12, q13⟩, fun U hU hW => ⟨rfl, hU, hh_9.2.1, hG.step hW hU hh_9.1, hg_r1, jP.nil, (hh_9.2.2.2.2.2.2.2.1.sub (L1 := [(r1, 194, n1, ca 1, f1)]) [0] rfl), by first | omega | (refine ⟨?_, ?_, ?_, ?_⟩ <;> (first | omega | rfl | assumption | decide | exact Or.inl rfl | exact Or.inr rfl | (simp only; omega)))⟩⟩ rfl rfl hl.1 rfl (lv_room (Nat.le_of_ble_eq_true rfl)) dX13_scan_53 ⟨Nat.zero_le _, Nat.zero_le _⟩) hh_9.1 (fun q _ h => h) (fun q h => h) (fun r_78 u_77 t_77 H_77 locs_77 ht_77 hvm_77 hr_78 hb_77 hz_77 hk_77 hS_77 => ?_)
            rw [ht_77] at hb_77
            obtain ⟨hb_771, hb_772, hb_773, hb_774, hb_775⟩ := hb_77
            have hh_77 : jSt (dC, dI) B base G0 G0 EX13_scanT s.heap 0 0 [(r0, 15, 30, .int wk_3), (r0, 15, 31, .int wo_3), (r0, 15, 10, .int wc_3), (r0, 15, 7, .int ws_3)] [(r1, 194, n1, ca 1, f1)] [] H_77 locs_77 := ((hh_9.call hb_771 hb_772 hb_773 hb_774 hS_77 rfl (L1 := [(r0, 15, 30, .int wk_3), (r0, 15, 31, .int wo_3), (r0, 15, 10, .int wc_3), (r0, 15, 7, .int ws_3)]) [0, 1, 2, 3] rfl rfl (M1 := [(r1, 194, n1, ca 1, f1)]) [0] rfl rfl (I1 := []) [] rfl rfl).more hb_775)
            clear hh_9 ht_77 hvm_77 hz_77 hk_77 hS_77 hb_771 hb_772 hb_773 hb_774 hb_775
            obtain ⟨hr_78_0, hr_78_1, hr_78_2, hr_78_3⟩ := hr_78
            refine lv_istore (lv' := [(6, .int r_78), (5, .int z_5), (0, .ref r0), (1, .ref r1), (2, .int a2), (3, .int a3), (4, .int v4_3)]) hx hb dX13_scan_56 hl (by decide) rfl (fun ls hl => ?_)
            have hb8 : r_78.toInt = jBcc f1 nn v4_3.toInt := hr_78_0.trans (jcV.be hi_3_12 (by omega) (by omega) (by omega) (by omega) ho9)
            refine lv_iload hx hb dX13_scan_58 (lv_at hl 0 rfl) ?_
            refine lv_if_ge (tgt := 67) hx hb dX13_scan_60 (by decide) (fun c_79 => ?_) (fun c_79 => ?_)
            · skip
              have c_79' : r_78.toInt ≥ 0 := jb_ge (rfl) ((by decide)) c_79
              first | (have hr_78_3q := hr_78_3.resolve_left (by omega); clear hr_78_3) | (have hr_78_3q := hr_78_3.resolve_right (by omega); clear hr_78_3) | skip
              refine lv_iload hx hb dX13_scan_67 (lv_at hl 0 rfl) ?_
              refine lv_istore (lv' := [(4, .int r_78), (6, .int r_78), (5, .int z_5), (0, .ref r0), (1, .ref r1), (2, .int a2), (3, .int a3)]) hx hb dX13_scan_69 hl (by decide) rfl (fun ls hl => ?_)
              refine lv_goto (tgt := 325) hx hb dX13_scan_71 (by decide) ?_
              refine lv_goto (tgt := 13) hx hb dX13_scan_325 (by decide) ?_
              exact L13 r_78 wk_3 wo_3 wc_3 ws_3 (kf - 1) _ _ hh_77 (by have hk9 : jcK f1 nn a3.toInt (kf - 1) (r_78).toInt = jcK f1 nn a3.toInt kf v4_3.toInt := jcK_c (by omega) (by omega) ho9 (by omega); exact ⟨by omega, by omega, by omega, by omega, by omega, by omega, by omega, by omega, by omega, by omega, by omega, by have h9 := hi_3_11; omega, by rw [show (r_78).toInt = jBcc f1 nn v4_3.toInt by omega]; exact hb7.2.2.2⟩) (by omega) _ (lv_sub hl [3, 4, 5, 6, 0] rfl)
            · skip
              have c_79' : r_78.toInt < 0 := jb_ge_n (rfl) ((by decide)) c_79
              exact absurd c_79' (by omega)
        · skip
          have c_8' : r_7.toInt ≠ 0 := jb_eq_n (rfl) ((by decide)) c_8
          obtain ⟨z_80, ez_80⟩ : ∃ y : Int32, y = v4_3 + 1 := ⟨_, rfl⟩
          refine lv_iinc (v := z_80) (lv' := [(4, .int z_80), (5, .int z_5), (0, .ref r0), (1, .ref r1), (2, .int a2), (3, .int a3)]) hx hb dX13_scan_33 hl (k := 5) rfl (by rw [ez_80]; rfl) (by decide) rfl (fun ls hl => ?_)
          have hz_80 : z_80.toInt = v4_3.toInt + 1 := by rw [ez_80]; exact jb_iadd2 (rfl) (by decide) (by omega)
          refine lv_goto (tgt := 325) hx hb dX13_scan_36 (by decide) ?_
          refine lv_goto (tgt := 13) hx hb dX13_scan_325 (by decide) ?_
          exact L13 z_80 wk_3 wo_3 wc_3 ws_3 (kf - 1) _ _ hh_6 (by have hk9 : jcK f1 nn a3.toInt (kf - 1) (z_80).toInt = jcK f1 nn a3.toInt kf v4_3.toInt := jcK_b (by omega) (by omega) (by rw [← hqz_5, ← hr_7p]; omega) (by omega); exact ⟨by omega, by omega, by omega, by omega, by omega, by omega, by omega, by omega, by omega, by omega, by omega, by have h9 := hi_3_11; omega, by rw [show (z_80).toInt = v4_3.toInt + 1 by omega]; exact jcV.ot hi_3_12 (by omega) (by omega) (jcBn (by rw [← hqz_5, ← hr_7p]; omega))⟩) (by omega) _ (lv_sub hl [2, 3, 4, 5, 0] rfl)
  exact L13 (a3.toInt - (a2 : Int32).toInt : Int).toNat.succ a2 0 0 pc ps ((a3.toInt - a2.toInt).toNat + 1) _ _ (hh_2.sub (L1 := [(r0, 15, 30, .int 0), (r0, 15, 31, .int 0), (r0, 15, 10, .int pc), (r0, 15, 7, .int ps)]) [1, 0, 2, 3] rfl (M1 := [(r1, 194, n1, ca 1, f1)]) [0] rfl (I1 := []) [] rfl) (⟨by omega, by omega, by omega, by omega, by omega, by omega, by omega, by omega, by omega, by omega, by omega, by first | omega | rfl, hp10⟩) (by omega) _ (lv_sub hl [1, 2, 3, 4, 0] rfl)
set_option maxHeartbeats 4000000 in
set_option maxRecDepth 20000 in
theorem uX13_costT (l : Launch) (dC : Nat → ClassId) (dI : Nat → Nat → Nat) (ca : Nat → ClassId) (base : Nat) (B : jF) (hB : jBok B) (hAp : jAp (dC, dI)) (hB15 : ∀ n G a H, B 15 n G a H ↔ jOb (dC, dI) 15 50 (F15 n G) a H) (hB101 : ∀ n G a H, B 101 n G a H ↔ jAr (dC, dI) (ca 1) (fun j z => True) n a H) (hB155 : ∀ n G a H, B 155 n G a H ↔ jAr (dC, dI) (ca 1) (fun j z => 0 ≤ z.toInt ∧ z.toInt ≤ 11990) n a H) (hB156 : ∀ n G a H, B 156 n G a H ↔ jAr (dC, dI) (ca 1) (fun j z => 0 ≤ z.toInt ∧ z.toInt ≤ 10) n a H) (hB157 : ∀ n G a H, B 157 n G a H ↔ jAr (dC, dI) (ca 1) (fun j z => 0 ≤ z.toInt ∧ z.toInt ≤ 1599) n a H) (hB166 : ∀ n G a H, B 166 n G a H ↔ jAr (dC, dI) (ca 1) (fun j z => True) n a H) (hB167 : ∀ n G a H, B 167 n G a H ↔ jAr (dC, dI) (ca 1) (fun j z => True) n a H) (hB194 : ∀ n G a H, B 194 n G a H ↔ jAr (dC, dI) (ca 1) (fun j z => True) n a H) (G0 : jT) (H0 : Heap) (r0 : Nat) (r1 : Nat) (a2 : Int32) (a3 : Int32) (a4 : Int32) (n1 : Nat) (pc : Int32) (ps : Int32) (nn : Int) (f1 : Nat → Int32) : Met l yX13_cost (jw yX13_cost cX13_cost 7 (some .int)) ({ frames := 4, cells := 0, slots := 0, locals := 88 }) (va_Pc [.ref r0, .ref r1, .int a2, .int a3, .int a4] (fun U => U.heap = H0 ∧ jX B base G0 [] H0 ∧ jG dC dI ca base U ∧ G0 r1 = some (194, n1) ∧ G0 r0 = some (15, 0) ∧ jP (dC, dI) G0 H0 [(r0, 15, 10, .int pc), (r0, 15, 7, .int ps)] ∧ jMc (dC, dI) G0 H0 [(r1, 194, n1, ca 1, f1)] ∧ 0 ≤ a2.toInt ∧ a2.toInt ≤ a3.toInt ∧ a3.toInt ≤ n1 ∧ n1 ≤ 1500 ∧ 0 ≤ pc.toInt ∧ pc.toInt + (a3.toInt - a2.toInt) ≤ 1599 ∧ 0 ≤ ps.toInt ∧ ps.toInt + (a3.toInt - a2.toInt) ≤ 11990 ∧ a3.toInt ≤ nn ∧ nn ≤ 1500 ∧ (0 < a4.toInt ∨ jcV f1 nn a3.toInt a2.toInt))) (va_Qi (S := Unit) (fun r u => (r.toInt = 3 + (if 0 < a4.toInt then 1 else jcK f1 nn a3.toInt ((a3.toInt - a2.toInt).toNat + 1) a2.toInt))) (fun u t => jRt (dC, dI) B base G0 EX13_costT H0 [] t.heap) (jA base)) 0 0 (jA base) := by
  refine Met.ofW (cc := cX13_cost) (maxL := 7) (ret := (some .int)) (by decide) rfl ?_
  intro p e s m args below meth c s₁ Bd hml hv
  obtain ⟨rfl, hH0, hX, hG, hg_r1, hg_r0, hP0, hM0, hp0, hp1, hp2, hp3, hp4, hp5, hp6, hp7, hp8, hp9, hp10⟩ := hv
  have hK := hG.1
  have hx := Bd.exec
  have hb := Bd.bytes
  have hr := Bd.returns
  have hts := atoms_spec (ws := (jw yX13_cost cX13_cost 7 (some .int))) Bd.pre
  have htw : ∀ w ∈ jWl, w.before _ s = true := fun w h => hts w (List.mem_cons_of_mem _ h)
  have hown : s.vm.findClass RX13 = some m.cls := findClass_of_methodNamed Bd.named
  have hlocks := Bd.notSynchronized
  obtain ⟨Q, hQ⟩ : ∃ Q, Q = MQ below (va_Qi (S := Unit) (fun r u => (r.toInt = 3 + (if 0 < a4.toInt then 1 else jcK f1 nn a3.toInt ((a3.toInt - a2.toInt).toNat + 1) a2.toInt))) (fun u t => jRt (dC, dI) B base G0 EX13_costT H0 [] t.heap) (jA base)) ([.ref r0, .ref r1, .int a2, .int a3, .int a4] : List Value).toArray s 0 0 (jA base) := ⟨_, rfl⟩
  rw [← hQ]
  have hl := lv_entry ([.ref r0, .ref r1, .int a2, .int a3, .int a4]) (n := 7) (Nat.le_of_ble_eq_true rfl)
  rw [lg_entry_eq]
  generalize (lg_sl ([.ref r0, .ref r1, .int a2, .int a3, .int a4]) ++ List.replicate (7 - (lg_sl ([.ref r0, .ref r1, .int a2, .int a3, .int a4])).length) Slot.unset).toArray = ls at hl ⊢
  have hl : lv_has ls 7 [(0, .ref r0), (1, .ref r1), (2, .int a2), (3, .int a3), (4, .int a4)] := hl
  generalize hR : (headSpec (jw yX13_cost cX13_cost 7 (some .int)) ({ frames := 4, cells := 0, slots := 0, locals := 88 })).room = R
  subst hH0
  have hh : jSt (dC, dI) B base G0 G0 EX13_costT s.heap 0 0 [(r0, 15, 10, .int pc), (r0, 15, 7, .int ps)] [(r1, 194, n1, ca 1, f1)] [] s.heap [] := jSt.start hX hP0 hM0 jIs.nil
  clear hX hP0
  have hk0 : (0 : Int32).toInt = 0 := by decide
  have hk1 : (1 : Int32).toInt = 1 := by decide
  have hk3 : (3 : Int32).toInt = 3 := by decide
  have hk4 : (4 : Int32).toInt = 4 := by decide
  have hly_15_7 := htw (u_lay RX13 TX13 7) (jWc_wsX130 _ (u_in_lay (by decide)))
  have hly_15_10 := htw (u_lay RX13 TX13 10) (jWc_wsX130 _ (u_in_lay (by decide)))
  have hly_15_30 := htw (u_lay RX13 TX13 30) (jWc_wsX130 _ (u_in_lay (by decide)))
  have hly_15_31 := htw (u_lay RX13 TX13 31) (jWc_wsX130 _ (u_in_lay (by decide)))
  have hlk_103 := (htw (.fieldLink RX13 103 "ProofServerModel$Kernel" "nameCount" "I") (jWr_59 _ (List.mem_of_getElem? (i := 15) rfl)))
  have hlk_106 := (htw (.fieldLink RX13 106 "ProofServerModel$Kernel" "signCount" "I") (jWr_59 _ (List.mem_of_getElem? (i := 16) rfl)))
  have hlk_140 := (htw (.fieldLink RX13 140 "ProofServerModel$Kernel" "tokens" "I") (jWr_60 _ (List.mem_of_getElem? (i := 9) rfl)))
  have hlk_143 := (htw (.fieldLink RX13 143 "ProofServerModel$Kernel" "loose" "I") (jWr_60 _ (List.mem_of_getElem? (i := 1) rfl)))
  have hrg_a2 := jb_rng a2
  have hrg_a3 := jb_rng a3
  have hrg_a4 := jb_rng a4
  refine lv_iload hx hb dX13_cost_0 (lv_at hl 4 rfl) ?_
  refine lv_if_le (tgt := 7) hx hb dX13_cost_2 (by decide) (fun c_1 => ?_) (fun c_1 => ?_)
  · skip
    have c_1' : a4.toInt ≤ 0 := jb_le (rfl) ((by decide)) c_1
    refine lv_aload_n hx hb dX13_cost_7 rfl (lv_at hl 0 rfl) ?_
    refine j7_read hx hb hown hK (C := RX13) (T := TX13) (N := 50) rfl hly_15_10 hlk_103 (hh.at 0 rfl) dX13_cost_8 ?_
    refine lv_istore (lv' := [(5, .int pc), (0, .ref r0), (1, .ref r1), (2, .int a2), (3, .int a3), (4, .int a4)]) hx hb dX13_cost_11 hl (by decide) rfl (fun ls hl => ?_)
    refine lv_aload_n hx hb dX13_cost_13 rfl (lv_at hl 1 rfl) ?_
    refine j7_read hx hb hown hK (C := RX13) (T := TX13) (N := 50) rfl hly_15_7 hlk_106 (hh.at 1 rfl) dX13_cost_14 ?_
    refine lv_istore (lv' := [(6, .int ps), (5, .int pc), (0, .ref r0), (1, .ref r1), (2, .int a2), (3, .int a3), (4, .int a4)]) hx hb dX13_cost_17 hl (by decide) rfl (fun ls hl => ?_)
    refine lv_aload_n hx hb dX13_cost_19 rfl (lv_at hl 2 rfl) ?_
    refine lv_aload_n hx hb dX13_cost_20 rfl (lv_at hl 3 rfl) ?_
    refine lv_iload_n hx hb dX13_cost_21 rfl (lv_at hl 4 rfl) ?_
    refine lv_iload_n hx hb dX13_cost_22 rfl (lv_at hl 5 rfl) ?_
    refine va_callv (A0 := jA base) (H0 := s.heap) (va_runV (As := [.ref r1, .int a2, .int a3]) (rest := []) ⟨hx, hb, hml, hown, hts⟩ (uX13_scanT l dC dI ca base B hB hAp hB15 hB101 hB155 hB156 hB157 hB166 hB167 hB194 G0 s.heap r0 r1 a2 a3 n1 pc ps nn f1) (cwV 3 hts (jgV (jWr_60 _ (List.mem_of_getElem? (i := 5) rfl)) (jWr_60 _ (List.mem_of_getElem? (i := 6) rfl)) (jWr_60 _ (List.mem_of_getElem? (i := 7) rfl)) (jWr_12 _ (List.mem_of_getElem? (i := 12) rfl)) (jWr_60 _ (List.mem_of_getElem? (i := 8) rfl))) rfl rfl rfl (by decide +kernel) ⟨by rw [← hR]; exact Nat.le_of_ble_eq_true rfl, by rw [← hR]; exact Nat.le_of_ble_eq_true rfl⟩) ⟨fun a U g mk q => by obtain ⟨q0, q1, q2, qK, q10, q11, q12, q13, q14⟩ := q; exact ⟨q0, q1, q2, jG.calling g mk a qK, q10, q11, q12, q13, q14⟩, hh.recv (C := RX13) (T := TX13) (N := 50) hB15 rfl (by decide) hg_r0 hK, fun U hU hW => ⟨rfl, hU, hh.2.1, hG.step hW hU hh.1, hg_r1, hg_r0, (hh.2.2.1.sub (L1 := [(r0, 15, 10, .int pc), (r0, 15, 7, .int ps)]) [0, 1] rfl), (hh.2.2.2.2.2.2.2.1.sub (L1 := [(r1, 194, n1, ca 1, f1)]) [0] rfl), ⟨(by first | omega | rfl | assumption | exact hp10.resolve_left (by omega)), (by first | omega | rfl | assumption | exact hp10.resolve_left (by omega)), (by first | omega | rfl | assumption | exact hp10.resolve_left (by omega)), (by first | omega | rfl | assumption | exact hp10.resolve_left (by omega)), (by first | omega | rfl | assumption | exact hp10.resolve_left (by omega)), (by first | omega | rfl | assumption | exact hp10.resolve_left (by omega)), (by first | omega | rfl | assumption | exact hp10.resolve_left (by omega)), (by first | omega | rfl | assumption | exact hp10.resolve_left (by omega)), (by first | omega | rfl | assumption | exact hp10.resolve_left (by omega)), (by first | omega | rfl | assumption | exact hp10.resolve_left (by omega)), (by first | assumption | exact hp10.resolve_left (by omega) | omega)⟩⟩⟩ rfl rfl hl.1 rfl (lv_room (Nat.le_of_ble_eq_true rfl)) dX13_cost_23 ⟨Nat.zero_le _, Nat.zero_le _⟩) hh.1 (fun q _ h => h) (fun q h => h) (fun u_2 t_2 H_2 locs_2 ht_2 hvm_2 hr_3 hb_2 hz_2 hk_2 hS_2 => ?_)
    obtain ⟨qk_2, qo_2, qc_2, qs_2⟩ := u_2
    rw [ht_2] at hb_2
    obtain ⟨hb_21, hb_22, hb_23, hb_24, hb_25⟩ := hb_2
    have hh_2 : jSt (dC, dI) B base G0 G0 EX13_costT s.heap 0 0 [(r0, 15, 30, .int qk_2), (r0, 15, 31, .int qo_2), (r0, 15, 10, .int qc_2), (r0, 15, 7, .int qs_2)] [(r1, 194, n1, ca 1, f1)] [] H_2 locs_2 := ((hh.call hb_21 hb_22 hb_23 hb_24 hS_2 rfl (L1 := []) [] rfl rfl (M1 := [(r1, 194, n1, ca 1, f1)]) [0] rfl rfl (I1 := []) [] rfl rfl).more hb_25)
    clear hh ht_2 hvm_2 hz_2 hk_2 hS_2 hb_21 hb_22 hb_23 hb_24 hb_25
    try simp only at hr_3
    obtain ⟨hr_3_0, hr_3_1, hr_3_2, hr_3_3, hr_3_4, hr_3_5, hr_3_6, hr_3_7, hr_3_8⟩ := hr_3
    refine lv_aload_n hx hb dX13_cost_26 rfl (lv_at hl 2 rfl) ?_
    refine lv_iload hx hb dX13_cost_27 (lv_at hl 1 rfl) ?_
    refine j7_put hx hb hown hK hh_2 hB hAp hB15 (C := RX13) (T := TX13) (N := 50) rfl (by decide) hg_r0 (i := 10) (by decide) hly_15_10 rfl hlk_103 rfl (ty := .int) (v := .int pc) (by decide +kernel) rfl rfl (⟨_, rfl, by omega, by omega⟩) rfl (L1 := [(r0, 15, 30, .int qk_2), (r0, 15, 31, .int qo_2), (r0, 15, 7, .int qs_2)]) [0, 1, 3] rfl rfl rfl dX13_cost_29 (fun H_4 locs_4 hh_4 => ?_)
    clear hh_2
    refine lv_aload_n hx hb dX13_cost_32 rfl (lv_at hl 2 rfl) ?_
    refine lv_iload hx hb dX13_cost_33 (lv_at hl 0 rfl) ?_
    refine j7_put hx hb hown hK hh_4 hB hAp hB15 (C := RX13) (T := TX13) (N := 50) rfl (by decide) hg_r0 (i := 7) (by decide) hly_15_7 rfl hlk_106 rfl (ty := .int) (v := .int ps) (by decide +kernel) rfl rfl (⟨_, rfl, by omega, by omega⟩) rfl (L1 := [(r0, 15, 10, .int pc), (r0, 15, 30, .int qk_2), (r0, 15, 31, .int qo_2)]) [0, 1, 2] rfl rfl rfl dX13_cost_35 (fun H_5 locs_5 hh_5 => ?_)
    clear hh_4
    refine lv_iconst (v := 3) hx hb dX13_cost_38 (by decide) ?_
    refine lv_aload_n hx hb dX13_cost_39 rfl (lv_at hl 2 rfl) ?_
    refine j7_read hx hb hown hK (C := RX13) (T := TX13) (N := 50) rfl hly_15_30 hlk_140 (hh_5.at 2 rfl) dX13_cost_40 ?_
    refine lv_iadd hx hb dX13_cost_43 ?_
    refine lv_topi (fun z_6 ez_6 => ?_)
    have hz_6 : z_6.toInt = 3 + qk_2.toInt := by rw [ez_6]; exact jb_iadd2 ((by decide)) (rfl) (by omega)
    refine lv_aload_n hx hb dX13_cost_44 rfl (lv_at hl 2 rfl) ?_
    refine j7_read hx hb hown hK (C := RX13) (T := TX13) (N := 50) rfl hly_15_31 hlk_143 (hh_5.at 3 rfl) dX13_cost_45 ?_
    refine lv_iadd hx hb dX13_cost_48 ?_
    refine lv_topi (fun z_7 ez_7 => ?_)
    have hz_7 : z_7.toInt = z_6.toInt + qo_2.toInt := by rw [ez_7]; exact jb_iadd2 (rfl) (rfl) (by omega)
    rw [hQ]
    exact W.iret (v := z_7) hx hb hr (fun t ht hW => ⟨⟨z_7, (), rfl, by rw [if_neg (by omega)]; have h9 := hr_3_8; omega, hh_5.rt (M1 := []) [] rfl ht⟩, by rw [ht]; try exact hh_5.1.1, fun q h9 hq => by rw [ht]; try exact hh_5.1.2.1 q h9 hq⟩) hh_5.1.2.2 dX13_cost_49
  · skip
    have c_1' : a4.toInt > 0 := jb_le_n (rfl) ((by decide)) c_1
    refine lv_iconst (v := 4) hx hb dX13_cost_5 (by decide) ?_
    rw [hQ]
    exact W.iret (v := 4) hx hb hr (fun t ht hW => ⟨⟨4, (), rfl, by rw [if_pos (by omega)]; exact hk4, hh.rt (M1 := []) [] rfl ht⟩, by rw [ht]; try exact hh.1.1, fun q h9 hq => by rw [ht]; try exact hh.1.2.1 q h9 hq⟩) hh.1.2.2 dX13_cost_6
end
