section
-- p9: documents: places, changes, messages
theorem jdL_e {g : Int → Int} {n w a p : Int} {k : Nat} (h : n ≤ a ∨ w ≤ p) : jdL g n w k a p = (a, p) := by
  cases k with
  | zero => rfl
  | succ k => exact if_neg (fun q => by omega)
theorem jdC_s {g : Int → Int} {n f c a a1 : Int} {k : Nat} (h : a < n) (h1 : a - f < c) (h2 : g a ≠ 10) (h3 : g a ≠ 13) (hk : 0 < k) (ea : a1 = a + 1) : jdC g n f c (k - 1) a1 = jdC g n f c k a := by
  subst ea
  cases k with
  | zero => omega
  | succ k => exact (if_pos ⟨h, h1, h2, h3⟩).symm
theorem jdC_e {g : Int → Int} {n f c a : Int} {k : Nat} (h : n ≤ a ∨ c ≤ a - f ∨ g a = 10 ∨ g a = 13) : jdC g n f c k a = a := by
  cases k with
  | zero => rfl
  | succ k => exact if_neg (fun q => by
      rcases h with h | h | h | h
      · omega
      · omega
      · exact q.2.2.1 h
      · exact q.2.2.2 h)
end
section
-- p9: the texts of all documents, as a walk carries them; System.arraycopy of ints with contents
section J91
variable {dC : Nat → ClassId} {dI : Nat → Nat → Nat} {ca : Nat → ClassId} {G G1 : jT} {H H1 : Heap} {x : Option Nat} {t : jDtl}
/-- the text of the open document is written -/
theorem jCD.arr {a n y : Nat} (h : jCD dC dI ca G (some a) t H) (ha : G a = some (3, n)) (hy : G y = some (173, 1500)) (p2 : jf (dC, dI) 3 a 2 (.ref y) H) (hfr : ∀ p, p ≠ y → H1[p]? = H[p]?) : jCD dC dI ca G (some a) t H1 := by
  obtain ⟨Yt, Yu, h1, h2, h3⟩ := h
  have e1 : Yt a = y := by have := jf.uniq (h1 a n ha).1 p2; cases this; rfl
  have hn : ∀ b m, G b = some (3, m) → b ≠ y := fun b m hb q => by
    rw [q, hy] at hb
    have := congrArg Prod.fst (Option.some.inj hb)
    simp at this
  refine ⟨Yt, Yu, fun b m hb => ?_, h2, fun b m hb hx => ?_⟩
  · obtain ⟨g1, g2⟩ := h1 b m hb
    exact ⟨g1.kept (hfr b (hn b m hb)), g2⟩
  · have g := h3 b m hb hx
    refine g.of (fun i v hi hf => hf.kept (hfr b (hn b m hb))) (hfr _ (fun q => ?_)) (hfr _ (fun q => ?_))
    · exact hx (by rw [h2 b a m n hb ha (q.trans e1.symm)])
    · have g3 := g.gy.2
      rw [q, hy] at g3
      have := congrArg Prod.fst (Option.some.inj g3)
      simp at this
theorem jCD.grow {ks : List Nat} (h : jCD dC dI ca G x t H) (hle : jLe G G1) (hN : jNk ks G G1) (hk : ks.contains 3 = true) : jCD dC dI ca G1 x t H := by
  obtain ⟨Yt, Yu, h1, h2, h3⟩ := h
  refine ⟨Yt, Yu, fun a n ha => ?_, fun a b n m ha hb => h2 a b n m (hN a 3 n ha hk) (hN b 3 m hb hk), fun a n ha hx => (h3 a n (hN a 3 n ha hk) hx).up hle⟩
  obtain ⟨g1, g2⟩ := h1 a n (hN a 3 n ha hk)
  exact ⟨g1, hle _ _ g2⟩
/-- the texts of the older documents are older -/
theorem jCD.fresh {G0 : jT} {H0 : Heap} {r y : Nat} (h : jCD dC dI ca G0 none t H0) (hab : ∀ a t, G0 a = some t → a < H0.size) (hr : ∀ t, G0 r ≠ some t) (hn : jNk [3] G0 G) (hk : jKx r G0 G H0 H) (hb : H0.size ≤ y) : ∀ a m, G a = some (3, m) → ∀ w, jf (dC, dI) 3 a 2 (.ref w) H → w ≠ y := fun a m ha w g => by
  have h0 := hn a 3 m ha rfl
  obtain ⟨Yt, Yu, h1, -⟩ := h
  obtain ⟨q1, q2⟩ := h1 a m h0
  have c : H[a]? = H0[a]? := hk.1 a (hab _ _ h0) (fun e => hr _ (by rw [← e]; exact h0))
  have l1 := hab _ _ q2
  have e := jf.uniq g (q1.kept c)
  cases e
  exact Nat.ne_of_lt (Nat.lt_of_lt_of_le l1 hb)
end J91
-- the reference's
section J92
variable {dC : Nat → ClassId} {dI : Nat → Nat → Nat} {ca : Nat → ClassId} {G G1 : jT} {H H1 : Heap} {x : Option Nat} {t : jDtr}
theorem jRD.arr {a w k n : Nat} (h : jRD dC dI ca G (some a) t H) (ha : G a = some (14, 0)) (hw : G w = some (k, n)) (hk : (k = 194 ∧ jf (dC, dI) 14 a 3 (.ref w) H) ∨ (k = 195 ∧ jf (dC, dI) 14 a 0 (.ref w) H)) (hfr : ∀ p, p ≠ w → H1[p]? = H[p]?) : jRD dC dI ca G (some a) t H1 := by
  obtain ⟨Yt, Yu, h1, h2, h3, h4⟩ := h
  have hn : ∀ b, G b = some (14, 0) → b ≠ w := fun b hb q => by
    rw [q, hw] at hb
    have := congrArg Prod.fst (Option.some.inj hb)
    simp at this
    rcases hk with hk | hk <;> omega
  refine ⟨Yt, Yu, fun b hb => ?_, h2, h3, fun b hb hx => ?_⟩
  · obtain ⟨g1, g2, g3, g4⟩ := h1 b hb
    exact ⟨g1.kept (hfr b (hn b hb)), g2.kept (hfr b (hn b hb)), g3, g4⟩
  · have g := h4 b hb hx
    refine g.of (fun i v hi hf => hf.kept (hfr b (hn b hb))) (hfr _ (fun q => ?_)) (hfr _ (fun q => ?_))
    · rcases hk with ⟨k1, k2⟩ | ⟨k1, k2⟩
      · have e1 : Yt a = w := by have := jf.uniq (h1 a ha).1 k2; cases this; rfl
        exact hx (by rw [h2 b a hb ha (q.trans e1.symm)])
      · have g3 := g.gy.1
        rw [q, hw] at g3
        have := congrArg Prod.fst (Option.some.inj g3)
        simp at this
        omega
    · rcases hk with ⟨k1, k2⟩ | ⟨k1, k2⟩
      · have g3 := g.gy.2
        rw [q, hw] at g3
        have := congrArg Prod.fst (Option.some.inj g3)
        simp at this
        omega
      · have e1 : Yu a = w := by have := jf.uniq (h1 a ha).2.1 k2; cases this; rfl
        exact hx (by rw [h3 b a hb ha (q.trans e1.symm)])
theorem jRD.grow (h : jRD dC dI ca G x t H) (hle : jLe G G1) (hN : ∀ a, G1 a = some (14, 0) → G a = some (14, 0)) : jRD dC dI ca G1 x t H := by
  obtain ⟨Yt, Yu, h1, h2, h3, h4⟩ := h
  refine ⟨Yt, Yu, fun a ha => ?_, fun a b ha hb => h2 a b (hN a ha) (hN b hb), fun a b ha hb => h3 a b (hN a ha) (hN b hb), fun a ha hx => ?_⟩
  · obtain ⟨g1, g2, g3, g4⟩ := h1 a (hN a ha)
    exact ⟨g1, g2, hle _ _ g3, hle _ _ g4⟩
  · obtain ⟨g3, g4⟩ := h4 a (hN a ha) hx
    refine ⟨fun q hq => ?_, fun q hq => ?_⟩
    · obtain ⟨⟨n, q1⟩, q2⟩ := g3 q hq
      exact ⟨⟨n, hle _ _ q1⟩, q2⟩
    · obtain ⟨q1, q2⟩ := g4 q hq
      exact ⟨hle _ _ q1, q2⟩
end J92
section J93
variable {p : Program} {l : Launch} {e : Env} {R : Room} {s : State} {m : MethodId} {args : Array Value} {below : List Frame} {meth : Method} {c : Code} {H : Heap} {locs : List Loc} {cells slots : Nat} {Q : State → Prop}
variable {cc : ByteArray} {pc : Nat} {ls : Array Slot} {rest : List Value} {dC : Nat → ClassId} {dI : Nat → Nat → Nat} {ca : Nat → ClassId} {B : jF} {base : Nat} {G0 G : jT} {E : List (Nat × Nat)} {H0 : Heap} {zc zs : Nat} {L : List jPin} {M : List jCt} {I : List jIv} {a a0 k k0 n n0 index : Nat} {tys : List (ClassId × FieldType)} {own : String} {P P0 : Nat → Int32 → Prop} {cA : ClassId}
end J93
-- texts alike, a part of a text exchanged
theorem jdB.zz {g h : Int → Int} {s e z w n v : Int} {q : Int → Int} (hv : ∀ j : Int, s + z ≤ j → j < s + z + w → h j = g (j - s - z + e)) (ho : ∀ j : Int, 0 ≤ j → j < 1500 → (j < s + z ∨ s + z + w ≤ j) → h j = g j) (h0 : v = 0) (hn : n = s + z + w) (hs : s ≤ 1500 ∧ 0 ≤ z) : jdB g h s e z n v q :=
  ⟨fun j j0 j1 => ho j j0 (by omega) (Or.inl (by omega)), fun j j0 j1 => absurd j1 (by omega), fun j j0 j1 => hv j j0 (by omega)⟩
theorem jdB.done {g h : Int → Int} {s e z z1 n n1 v : Int} {q : Int → Int} (hb : jdB g h s e z n v q) (hv : z ≤ v) (hs : 0 ≤ s) (hz : z1 = z) (hn : n1 = n) : jdG g h s e z1 q n1 := fun j j0 j1 => by
  subst hz hn
  unfold jdR
  by_cases w : j < s
  · rw [if_pos w]; exact hb.1 j j0 w
  · by_cases w1 : j < s + z1
    · rw [if_neg w, if_pos w1]; exact hb.2.1 j (by omega) (by omega)
    · rw [if_neg w, if_neg w1]; exact hb.2.2 j (by omega) j1
theorem jdS.w {T : Nat → Int → Int} {v n c r : Int} {g : Int → Int} (hr : r = jqM T v (jChT "range") 5 c) (h : r < 0) : jdS T v g n c = (0, n) := by
  unfold jdS
  rw [← hr, if_pos h]
end
section
-- p9: the open documents, by their number
theorem jdF_s {T : Nat → Int → Int} {v i d d1 : Int} {ul : Int → Int} {ur : Int → Int → Int} {k : Nat} (hk : 0 < k) (h : jqE T v i (ur d) (ul d) ≠ 1) (e : d1 = d + 1) : jdF T v i ul ur (k - 1) d1 = jdF T v i ul ur k d := by
  subst e
  cases k with
  | zero => omega
  | succ k => exact (if_neg h).symm
theorem jdF_y {T : Nat → Int → Int} {v i d : Int} {ul : Int → Int} {ur : Int → Int → Int} {k : Nat} (hk : 0 < k) (h : jqE T v i (ur d) (ul d) = 1) : jdF T v i ul ur k d = d := by
  cases k with
  | zero => omega
  | succ k => exact if_pos h
end
section
-- StringBuilder with contents
set_option maxHeartbeats 4000000 in
set_option maxRecDepth 20000 in
/-- Arrays.copyOf to a greater length: a new row -/
theorem wJ7_copyOf_9075bC (l : Launch) (dC : Nat → ClassId) (dI : Nat → Nat → Nat) (ca : Nat → ClassId) (base LC LS : Nat) (H0 : Heap) (v n n1 : Nat) (f : Nat → Int32) (a1 : Int32) : Met l yJ7_copyOf_9075b (jw yJ7_copyOf_9075b cJ7_copyOf_9075b 3 (some (.array .byte))) ({ frames := 1, cells := LC - H0.size, slots := LS - jTot H0, locals := 40 }) (va_Pc [.ref v, .int a1] (fun U => U.heap = H0 ∧ va_at (dC, dI) vwCl (v, .inl (ca 0, n, .inl f)) H0 ∧ jG dC dI ca base U ∧ (sb_Fit f ∧ a1.toInt = n1 ∧ n < n1 ∧ n1 ≤ 2000000 ∧ H0.size + 1 ≤ LC ∧ jTot H0 + n1 ≤ LS))) (va_Qr (S := Nat → Int32) (fun f1 => sb_Fit f1 ∧ ∀ j, j < n → f1 j = f j) (fun f1 a t => a = H0.size ∧ va_at (dC, dI) vwCl (a, .inl (ca 0, n1, .inl f1)) t.heap ∧ t.heap.size = H0.size + 1 ∧ (∀ q, q < H0.size → t.heap[q]? = H0[q]?) ∧ jTot t.heap ≤ jTot H0 + n1) (fun q => H0.size ≤ q)) (LC - H0.size) (LS - jTot H0) (fun q => q = v ∨ H0.size ≤ q) := by
  refine Met.ofW (cc := cJ7_copyOf_9075b) (maxL := 3) (ret := (some (.array .byte))) (by decide) rfl ?_
  intro p e s m args below meth c s₁ B hml hv
  obtain ⟨rfl, hH0, hat, hG, hfit, h1, h2, h3, h4, h5⟩ := hv
  have hK := hG.1
  have hx := B.exec
  have hb := B.bytes
  have hr := B.returns
  have hts := atoms_spec (ws := (jw yJ7_copyOf_9075b cJ7_copyOf_9075b 3 (some (.array .byte)))) B.pre
  have htw : ∀ w ∈ jWl, w.before _ s = true := fun w h => hts w (List.mem_cons_of_mem _ h)
  have hown : s.vm.findClass RJ7 = some m.cls := findClass_of_methodNamed B.named
  have hlocks := B.notSynchronized
  subst hH0
  have hvl : v < s.heap.size := (Array.getElem?_eq_some_iff.mp hat).1
  have hl := lv_entry ([.ref v, .int a1]) (n := 3) (Nat.le_of_ble_eq_true rfl)
  rw [lg_entry_eq]
  generalize (lg_sl ([.ref v, .int a1]) ++ List.replicate (3 - (lg_sl ([.ref v, .int a1])).length) Slot.unset).toArray = ls at hl ⊢
  have hl : lv_has ls 3 [(0, .ref v), (1, .int a1)] := hl
  refine lv_iload_n hx hb dJ7_copyOf_9075b_0 rfl (lv_at hl 1 rfl) ?_
  refine lv_aload_n hx hb dJ7_copyOf_9075b_1 rfl (lv_at hl 0 rfl) ?_
  refine va_alen (v := Int32.ofNat n) hx hb hK (jp_one hat) 0 0 rfl rfl rfl dJ7_copyOf_9075b_2 ?_
  refine lv_icmp_ne (tgt := 14) hx hb dJ7_copyOf_9075b_3 (by decide) (fun c1 => ?_) (fun c1 => ?_)
  · refine lv_iload_n hx hb dJ7_copyOf_9075b_14 rfl (lv_at hl 1 rfl) ?_
    refine j_newi (ty := .byte) hx hb (htw (.arrayClass .byte) (jWr_3 _ (List.mem_of_getElem? (i := 9) rfl))) rfl rfl (fun _ h => h) hK 0 rfl (jb_n0 h1 (by omega)) (N' := n1) (by rw [jb_cl h1 (by omega)]; omega) (by simp [componentBytes]; omega) (by show 0 + 1 ≤ LC - s.heap.size; omega) (by show 0 + n1 ≤ LS - jTot s.heap; omega) dJ7_copyOf_9075b_15 (fun H1 hat1 hz1 ho1 hT1 => ?_)
    have hat2 := hat.kept (ho1 _ hvl)
    have hP : va_P (dC, dI) vwCl [(v, .inl (ca 0, n, .inl f)), (s.heap.size, .inl (ca 0, n1, .inl (fun _ => 0)))] H1 := by
      intro k r hr
      match k, hr with
      | 0, hr => cases hr; exact hat2
      | 1, hr => cases hr; exact hat1
      | k + 2, hr => simp at hr
    have hD : va_D (fun q => q = v ∨ s.heap.size ≤ q) [(v, .inl (ca 0, n, .inl f)), (s.heap.size, .inl (ca 0, n1, .inl (fun _ => 0)))] := by
      refine ⟨fun i j p q hi hj e => ?_, fun k q hq => ?_⟩
      · match i, j, hi, hj with
        | 0, 0, _, _ => rfl
        | 0, 1, hi, hj => cases hi; cases hj; simp at e; omega
        | 1, 0, hi, hj => cases hi; cases hj; simp at e; omega
        | 1, 1, _, _ => rfl
        | i + 2, _, hi, _ => simp at hi
        | _, j + 2, _, hj => simp at hj
      · match k, hq with
        | 0, hq => cases hq; exact Or.inl rfl
        | 1, hq => cases hq; exact Or.inr (Nat.le_refl _)
        | k + 2, hq => simp at hq
    have hS : va_S (fun q => q = v ∨ s.heap.size ≤ q) s.heap H1 [] := ⟨by omega, fun q h _ => ho1 q h, fun _ h => nomatch h⟩
    refine lv_astore_n (lv' := [(2, .ref s.heap.size), (0, .ref v), (1, .int a1)]) hx hb dJ7_copyOf_9075b_17 rfl hl (by decide) rfl (fun ls hl => ?_)
    refine lv_aload_n hx hb dJ7_copyOf_9075b_18 rfl (lv_at hl 1 rfl) ?_
    refine lv_iconst (v := 0) hx hb dJ7_copyOf_9075b_19 (by decide) ?_
    refine lv_aload_n hx hb dJ7_copyOf_9075b_20 rfl (lv_at hl 0 rfl) ?_
    refine lv_iconst (v := 0) hx hb dJ7_copyOf_9075b_21 (by decide) ?_
    refine lv_aload_n hx hb dJ7_copyOf_9075b_22 rfl (lv_at hl 1 rfl) ?_
    refine va_alen (v := Int32.ofNat n) hx hb hK (jp_one hat2) 0 0 rfl rfl rfl dJ7_copyOf_9075b_23 ?_
    refine lv_iload_n hx hb dJ7_copyOf_9075b_24 rfl (lv_at hl 2 rfl) ?_
    refine va_mmin hx hb (by rw [hml]; exact hl.1.symm) hown (htw (.methodLink RJ7 304 Lib.Math.min.name) (jWr_16 _ (List.mem_of_getElem? (i := 15) rfl))) (htw (.static Lib.Math.min.name) (jWr_16 _ (List.mem_of_getElem? (i := 16) rfl))) (htw (.initialized "java/lang/Math") (jWr_3 _ (List.mem_of_getElem? (i := 7) rfl))) (htw (.code Lib.Math.min.name Lib.Math.min.code 2 (some .int)) (jWr_16 _ (List.mem_of_getElem? (i := 17) rfl))) (Nat.le_of_ble_eq_true rfl) (Nat.le_of_ble_eq_true rfl) (by show 0 + 1 ≤ LC - s.heap.size; omega) (by show 0 + n1 ≤ LS - jTot s.heap; omega) dJ7_copyOf_9075b_25 ?_
    have hn : (Int32.ofNat n).toInt = n := jb_nat (by omega)
    rw [if_neg (fun q => by have h6 := jb_lt h1 hn q; omega)]
    refine va_copyi (H0 := s.heap) hx hb (by rw [hml]; exact hl.1.symm) hown (htw (.methodLink RJ7 150 arraycopyName) (jWr_16 _ (List.mem_of_getElem? (i := 18) rfl))) (htw (.native arraycopyName) (jWr_16 _ (List.mem_of_getElem? (i := 19) rfl))) (htw (.static arraycopyName) (jWr_16 _ (List.mem_of_getElem? (i := 20) rfl))) (htw (.initialized "java/lang/System") (jWr_16 _ (List.mem_of_getElem? (i := 21) rfl))) hK hP hD hS 0 1 0 0 rfl rfl rfl rfl rfl (by decide) (by decide) (jb_n0 hn (by omega)) (by rw [jb_cl hn (by omega), sb_cl0]; omega) (by rw [jb_cl hn (by omega), sb_cl0]; omega) (fun i hi => hfit _) (Nat.le_of_ble_eq_true rfl) (Nat.le_of_ble_eq_true rfl) dJ7_copyOf_9075b_28 (fun H2 locs2 hP2 hD2 hS2 => ?_)
    refine W.known (fun hsz2 hT2 => ?_)
    refine lv_aload_n hx hb dJ7_copyOf_9075b_31 rfl (lv_at hl 0 rfl) ?_
    have hat3 := hP2 1 _ rfl
    have hat4 := hP2 0 _ rfl
    have hl3 : s.heap.size < H2.size := hat3.lt
    refine W.widen (k := LC - s.heap.size) (n := LS - jTot s.heap) (by omega) (by omega) ?_
    refine W.aret hx hb hr (Or.inr ⟨_, rfl⟩) (Or.inr ⟨_, rfl⟩) (fun t ht hW => ⟨⟨_, _, rfl, ?_, rfl, by rw [ht]; exact hat3, by rw [ht]; omega, fun q hq => ?_, by rw [ht]; omega⟩, by rw [ht]; exact hS2.1, fun q hq hn => ?_⟩) ?_ dJ7_copyOf_9075b_32
    · exact hS2.2.2
    · refine ⟨sb_fitC hfit sb_fit0, fun j hj => ?_⟩
      have e0 : (0 : Int32).toNatClampNeg = 0 := sb_cl0
      have e1 : (Int32.ofNat n).toNatClampNeg = n := by rw [jb_cl hn (by omega)]; omega
      show va_cpy f (fun _ => 0) _ _ _ j = f j
      unfold va_cpy
      rw [e0, e1, if_pos ⟨Nat.zero_le j, by omega⟩]
      congr 1
      omega
    · rw [ht]
      by_cases e : q = v
      · subst e
        exact (show H2[q]? = some _ from hat4).trans (show s.heap[q]? = some _ from hat).symm
      · exact hS2.2.1 q hq (fun h => h.elim e (fun h => by omega))
    · rw [ht]
      by_cases e : q = v
      · subst e
        exact (show H2[q]? = some _ from hat4).trans (show s.heap[q]? = some _ from hat).symm
      · exact hS2.2.1 q hq (fun h => h.elim e (fun h => by omega))
  · exact absurd (jb_eq h1 (jb_nat (by omega)) c1) (by omega)
section JX1
variable {p : Program} {l : Launch} {e : Env} {R : Room} {s : State} {m : MethodId} {args : Array Value} {below : List Frame} {meth : Method} {c : Code} {H : Heap} {locs : List Loc} {cells slots : Nat} {Q : State → Prop}
variable {cc : ByteArray} {pc : Nat} {ls : Array Slot} {rest : List Value} {dC : Nat → ClassId} {dI : Nat → Nat → Nat} {ca : Nat → ClassId} {B : jF} {base : Nat} {G0 G : jT} {E : List (Nat × Nat)} {H0 : Heap} {zc zs : Nat} {L : List jPin} {M : List jCt} {I : List jIv} {a k n : Nat} {cA : ClassId} {tys : List (ClassId × FieldType)}
/-- Arrays.copyOf of bytes to a greater length, in a walk: the copy is typed at once -/
theorem j7_copybC {own : String} {index : Nat} {Ts : List Cond} {nL LC LS n1 : Nat} {z : Int32} (hC : CallFix p m c cc nL s args Ts own) (hK : va_K (dC, dI) vwCl tys s) (hG : jG dC dI ca base s) (hh : jSt (dC, dI) B base G0 G E s.heap zc zs L M I H locs) (hB : jBok B) (hBk : ∀ n G a H, B k n G a H ↔ jAr (dC, dI) (ca 0) jBf n a H) (hk : k < 1000) (hk2 : 18 ≤ k) (oj : Nat) {kk1 : Nat} {cB : ClassId} {f0 : Nat → Int32} (hj : M[oj]? = some (a, kk1, n, cB, f0)) (hb0 : base ≤ s.heap.size) (ha : G a = some (k, n)) (hz : z.toInt = n1) (hn : n < n1) (hm : n1 ≤ 2000000) (hLC : H.size + 1 ≤ LC) (hLS : jTot H + n1 ≤ LS) (hRc : R.cells = LC - s.heap.size) (hRs : R.slots = LS - jTot s.heap)
    (cw : CallB R s args own index yJ7_copyOf_9075b cJ7_copyOf_9075b 3 (some (.array .byte)) (jw yJ7_copyOf_9075b cJ7_copyOf_9075b 3 (some (.array .byte))) { frames := 1, cells := LC - H.size, slots := LS - jTot H, locals := 40 } (LC - H.size) (LS - jTot H) 2 ∧ (Cond.static yJ7_copyOf_9075b).before args s = true) (hsz : ls.size = nL) (hW : (rest.map fun v => v.category).sum ≤ 8) (hdg : decode cc pc = .ok (.invokestatic index, 3))
    (kk : ∀ (H1 : Heap) (locs1 : List Loc) (g : Nat → Int32), (∀ j, j < n → g j = f0 j) → H1.size = H.size + 1 → jTot H1 ≤ jTot H + n1 → jSt (dC, dI) B base G0 (va_up G H.size (some (k, n1))) E s.heap (zc + 1) (zs + n1) L ((H.size, k, n1, ca 0, g) :: M) I H1 locs1 → W p l e R s m args below meth c H1 locs1 (zc + 1) (zs + n1) Q (F0 m (pc + 3) ls (.ref H.size :: rest))) : W p l e R s m args below meth c H locs cells slots Q (F0 m pc ls (.int z :: .ref a :: rest)) := by
  obtain ⟨f, g1, g2⟩ := hh.byt hBk hk ha
  obtain ⟨-, -, -, q4⟩ := hh.2.2.2.2.2.2.2.1 _ (List.mem_of_getElem? hj)
  refine W.room (fun r1 r2 => ?_)
  refine va_callr (A0 := jA base) (H0 := s.heap) (va_runS (As := [.ref a, .int z]) (rest := rest) hC (wJ7_copyOf_9075bC l dC dI ca base LC LS H a n n1 f z) cw ⟨fun a U g mk q => by obtain ⟨q0, q1, q2, qK, q9⟩ := q; exact ⟨q0, q1, q2, jG.calling g mk a qK, q9⟩, fun U hU hW => ⟨rfl, hU, g1, hG.step hW hU hh.1, g2, hz, hn, hm, hLC, hLS⟩⟩ rfl rfl hsz rfl (by show 2 * 0 + _ ≤ 8; omega) hdg ⟨by omega, by omega⟩) hh.1 (fun q h9 h => absurd h9 (Nat.not_lt.mpr h)) (fun q h => h.elim (fun h => by rw [h]; exact (hh.ab ha).1) (fun h => by show base ≤ q; omega)) (fun f9 a9 t H1 locs1 ht hvm hw hB9 hz1 hk1 hS1 => ?_)
  obtain ⟨rfl, hat9, hsz9, hfr9, hT9⟩ := hB9
  rw [ht] at hat9 hsz9 hT9
  have hfr9 : ∀ q, q < H.size → H1[q]? = H[q]? := fun q hq => by rw [← ht]; exact hfr9 q hq
  have h9 := hh.newL (k := k) (n := n1) hB (Nat.le_trans hb0 r1) hS1 hsz9 hfr9 hT9 hk ((hBk _ _ _ _).mpr ⟨f9, hat9, fun j _ => hw.1 j⟩)
  exact W.tight (c2 := zc + 1) (n2 := zs + n1) h9.2.2.2.2.2.1 h9.2.2.2.2.2.2.1 (kk H1 locs1 f9 (fun j hj' => (hw.2 j hj').trans (jCt_eq q4 g1 hj').symm) hsz9 hT9 (by
    obtain ⟨e1, e2, e3, e4, e5, e6, e7, e8, e9⟩ := h9
    refine ⟨e1, e2, e3, e4, e5, e6, e7, fun q hq => ?_, e9⟩
    rcases List.mem_cons.mp hq with e | e
    · subst e; exact ⟨jUp_self, hk2, hk, hat9⟩
    · exact e8 q e))
theorem j7_bastUX (hexec : p.tables.exec = Jvm.exec) (hb : c.code = cc) (hK : va_K (dC, dI) vwCl tys s) (hh : jSt (dC, dI) B base G0 G E H0 zc zs L M I H locs) (hB : jBok B) (hBk : ∀ n G a H, B k n G a H ↔ jAr (dC, dI) cA jBf n a H) (t0 : Nat) (ht : tys[t0]? = some (cA, .byte)) (hk : k < 1000) (hk2 : 18 ≤ k) (hE : E.contains (k, 0) = true) (oj : Nat) {kk1 : Nat} {cB : ClassId} {f : Nat → Int32} (hj : M[oj]? = some (a, kk1, n, cB, f)) (ox : Nat) {ax kx nx : Nat} {cX : ClassId} {fx : Nat → Int32} (hjx : M[ox]? = some (ax, kx, nx, cX, fx)) (hax : ax ≠ a) {M1 : List jCt} (js : List Nat) (hjs : js.map (fun i => M[i]?) = M1.map some) (hM : M1.all (fun q => !(q.2.1 == k)) = true) (hI : I.all (fun q => !(q.1.contains (k, 0))) = true) (ha : G a = some (k, n)) {i v : Int32} {x : Int} (hi : i.toInt = x) (h12 : 0 ≤ x ∧ x < n) (hdg : decode cc pc = .ok (.bastore, 1))
    (kk : ∀ (H1 : Heap) (locs1 : List Loc) (g : Nat → Int32), g x.toNat = vp_nar .byte v → (∀ j, j < n → j ≠ x.toNat → g j = f j) → jSt (dC, dI) B base G0 G E H0 zc zs L ((a, k, n, cA, g) :: (ax, kx, nx, cX, fx) :: M1) I H1 locs1 → W p l e R s m args below meth c H1 locs1 cells slots Q (F0 m (pc + 1) ls rest)) : W p l e R s m args below meth c H locs cells slots Q (F0 m pc ls (.int v :: .int i :: .ref a :: rest)) := by
  obtain ⟨h1, h2⟩ := h12
  obtain ⟨f', g1, g2⟩ := hh.byt hBk hk ha
  obtain ⟨-, -, -, q4⟩ := hh.2.2.2.2.2.2.2.1 _ (List.mem_of_getElem? hj)
  have hh1 : jSt (dC, dI) B base G0 G E H0 zc zs L M1 I H locs := by
    obtain ⟨e1, e2, e3, e4, e5, e6, e7, e8, e9⟩ := hh
    exact ⟨e1, e2, e3, e4, e5, e6, e7, e8.sub js hjs, e9⟩
  refine j_bastV (A := jA base) hexec hb hK t0 g1 (hh.ab ha).1 hh.1.2.2 ht (jb_in hi h1 h2) hdg (fun H1 locs1 hat hsz hfr hT hL => ?_)
  have hfit : sb_Fit (upd f' i.toNatClampNeg (vp_nar .byte v)) := sb_fitU g2 (by rw [vp_nar_byte]; exact pk_fb v)
  have h9 := hh1.arr hB ha hk hk2 hE hM hI hsz hfr hT hL ((hBk _ _ _ _).mpr ⟨_, hat, fun j _ => hfit j⟩)
  refine kk H1 locs1 (upd f' i.toNatClampNeg (vp_nar .byte v)) (by rw [← jb_cl hi h1]; simp [upd]) (fun j hj' hne => ?_) ?_
  · have : j ≠ i.toNatClampNeg := by rw [jb_cl hi h1]; exact hne
    simp only [upd, if_neg this]
    exact (jCt_eq q4 g1 hj').symm
  · obtain ⟨e1, e2, e3, e4, e5, e6, e7, e8, e9⟩ := h9
    refine ⟨e1, e2, e3, e4, e5, e6, e7, fun q hq => ?_, e9⟩
    rcases List.mem_cons.mp hq with e | e
    · subst e; exact ⟨ha, hk2, hk, hat⟩
    · rcases List.mem_cons.mp e with e | e
      · subst e
        obtain ⟨x1, x2, x3, x4⟩ := hh.2.2.2.2.2.2.2.1 _ (List.mem_of_getElem? hjx)
        exact ⟨x1, x2, x3, x4.kept (hfr _ hax)⟩
      · exact e8 q e
end JX1
theorem jSb_cw {v : Int32} (h0 : 0 ≤ v.toInt) (h1 : v.toInt ≤ 255) : (jCv (vp_nar .byte v.toInt8.toInt32)).toInt = v.toInt := by
  have e1 : ((vp_nar .byte v.toInt8.toInt32) &&& 255).toInt = (vp_nar .byte v.toInt8.toInt32).toInt % 256 := jb_a255 rfl
  have e2 := jNb v
  have e3 : ((vp_nar .byte v.toInt8.toInt32) &&& 255).toInt = v.toInt := by rw [e1, e2]; omega
  show ((((vp_nar .byte v.toInt8.toInt32) &&& 255).toUInt32 % 65536).toInt32).toInt = v.toInt
  rw [jb_i2c rfl (by omega) (by omega)]
  exact e3
end
section
-- p9: headers as the reference reads them
theorem jfCe_0 {f : Nat → Int32} {m n : Nat} (h : m < n) (he : jfSm (jCv (f m)).toInt ≠ jfC (m : Int)) : jfCe f n = 0 := by
  induction n with
  | zero => omega
  | succ n ih =>
    have e : jfCe f (n + 1) = if jfSm (jCv (f n)).toInt = jfC (n : Int) then jfCe f n else 0 := rfl
    rw [e]
    by_cases q : m = n
    · subst q; rw [if_neg he]
    · split
      · exact ih (by omega)
      · rfl
theorem jfCe_1 {f : Nat → Int32} {m : Nat} (h : jfCe f m = 1) (he : jfSm (jCv (f m)).toInt = jfC (m : Int)) : jfCe f (m + 1) = 1 := by
  have e : jfCe f (m + 1) = if jfSm (jCv (f m)).toInt = jfC (m : Int) then jfCe f m else 0 := rfl
  rw [e, if_pos he]; exact h
theorem jSbA.to {f g : Nat → Int32} {n c c1 : Int} (h : jSbA f g n c) (e : c = c1) : jSbA f g n c1 := ⟨h.1, h.2.trans e⟩
/-- the value is a length, so far (w 0) or as a whole (w 1) -/
def jfLo (f : Nat → Int32) (n w : Int) : Prop := n ≤ 4 ∧ (w = 0 ∨ n ≠ 0) ∧ jDg f n ∧ jNm f n.toNat ≤ 3000
section
variable {X : Nat → Int} {m h l b cn cv c r qm qh ql qb qn qv : Int} {fn fv gn gv : Nat → Int32}
theorem jfRe.x0 (q : jfRe X m h l b fn cn fv cv) (hm : m = 0) : X 1 = 0 ∧ X 2 = l ∧ X 3 = h ∧ X 8 = 0 := by
  obtain ⟨h2, h6 | ⟨h3, h8, g | g | g | g | g | g⟩⟩ := q
  · omega
  · exact ⟨g.1, h2, h3, h8⟩
  all_goals omega
theorem jfRe.x1 (q : jfRe X m h l b fn cn fv cv) (hm : m = 1) : X 1 = 1 ∧ X 2 = l ∧ X 3 = h ∧ X 8 = 0 ∧ X 4 = cn ∧ X 5 = jfNe fn cn ∧ cv = 0 := by
  obtain ⟨h2, h6 | ⟨h3, h8, g | g | g | g | g | g⟩⟩ := q
  · omega
  · omega
  · exact ⟨g.1, h2, h3, h8, g.2.2⟩
  all_goals omega
theorem jfRe.x4 (q : jfRe X m h l b fn cn fv cv) (hm : m = 4 ∨ m = 5) : X 1 = m ∧ X 2 = l ∧ X 3 = h ∧ X 8 = 0 := by
  obtain ⟨h2, h6 | ⟨h3, h8, g | g | g | g | g | g⟩⟩ := q
  · omega
  · omega
  · omega
  · omega
  · omega
  · exact ⟨by omega, h2, h3, h8⟩
  · exact ⟨by omega, h2, h3, h8⟩
theorem jfRe.x2 (q : jfRe X m h l b fn cn fv cv) (hm : m = 2 ∨ m = 3) : X 2 = l ∧ X 3 = h ∧ X 8 = 0 ∧ ((X 1 = 2 ∧ jfCl fn cn = 0) ∨ (X 1 = 3 ∧ ((m = 2 ∧ cv = 0) ∨ (m = 3 ∧ 1 ≤ cv)) ∧ jfCl fn cn = 1 ∧ X 6 = cv ∧ X 7 = jNm fv cv.toNat ∧ jDg fv cv ∧ cv ≤ 4 ∧ jNm fv cv.toNat ≤ 3000)) := by
  obtain ⟨h2, h6 | ⟨h3, h8, g | g | g | g | g | g⟩⟩ := q
  · omega
  · omega
  · omega
  · exact ⟨h2, h3, h8, Or.inl ⟨g.1, g.2.2⟩⟩
  · exact ⟨h2, h3, h8, Or.inr g⟩
  · omega
  · omega
theorem jfRe.h3 (q : jfRe X m h l b fn cn fv cv) (hm : m ≠ 6) : X 3 = h := by
  obtain ⟨h2, h6 | ⟨h3, _⟩⟩ := q
  · exact absurd h6.2.1 hm
  · exact h3
/-- too many -/
theorem jfHq.big (q : jfRe X m h l b fn cn fv cv) (hm : m ≠ 6) (hh : 200 ≤ h) (hr : r = 0) : jfHq X c r qm qh ql qb gn qn gv qv := Or.inl ⟨hr, Or.inl (by rw [q.h3 hm]; exact hh)⟩
theorem jfHd.a0 (h1 : X 1 = 0) : jfHd X c = jfLb X c := by unfold jfHd; rw [if_pos h1]
theorem jfHd.a2 (h1 : X 1 = 2) : jfHd X c = jfIv X c := by unfold jfHd; rw [if_neg (by omega), if_neg (by omega), if_pos h1]
theorem jfHd.a3 (h1 : X 1 = 3) : jfHd X c = jfIl X c := by unfold jfHd; rw [if_neg (by omega), if_neg (by omega), if_neg (by omega), if_pos h1]
theorem jfHd.a4 (h1 : X 1 = 4 ∨ X 1 = 5) : jfHd X c = jfV (if c = 10 then 1 else 0) (if X 1 = 4 then 0 else 6) (X 2) (X 3) (X 4) (X 5) (X 6) (X 7) (X 8) := by unfold jfHd; rw [if_neg (by omega), if_neg (by omega), if_neg (by omega), if_neg (by omega)]
/-- at a line's beginning -/
theorem jfHq.r0 (q : jfRe X m h l b fn cn fv cv) (hm : m = 0) (hh : h < 200) (hc : c = 13) (e1 : qm = 5) (e2 : qh = h + 1) (e3 : ql = l) (hr : (0 ≤ l ∧ r = 1) ∨ (l < 0 ∧ r = 0)) : jfHq X c r qm qh ql qb gn qn gv qv := by
  obtain ⟨h1, h2, h3, h8⟩ := q.x0 hm
  have hy : jfHd X c = jfV (if 0 ≤ X 2 then 1 else 0) 5 (X 2) (X 3) (X 4) (X 5) (X 6) (X 7) (X 8) := by rw [jfHd.a0 h1]; unfold jfLb; rw [if_pos hc]
  refine jfHq.mk hy (by omega) ?_
  rcases hr with ⟨g1, g2⟩ | ⟨g1, g2⟩
  · exact Or.inl ⟨if_pos (by omega), g2, h2.trans e3.symm, Or.inr ⟨by show X 3 + 1 = qh; omega, h8, Or.inr (Or.inr (Or.inr (Or.inr (Or.inr ⟨rfl, e1⟩))))⟩⟩
  · exact Or.inr ⟨if_neg (by omega), g2⟩
theorem jfHq.n0 (q : jfRe X m h l b fn cn fv cv) (hm : m = 0) (hh : h < 200) (hc : c ≠ 13) (h0 : 0 ≤ c) (e1 : qm = 1) (e2 : qh = h + 1) (e3 : ql = l) (e5 : qv = 0) {f : Nat → Int32} {n : Int} (hn : n = 0) (hA : jSbA f gn n c) (e6 : qn = n + 1) (hr : ((97 ≤ c ∧ c ≤ 122) ∨ (65 ≤ c ∧ c ≤ 90) ∨ c = 45) ∧ r = 1 ∨ ((c < 97 ∨ 122 < c) ∧ (c < 65 ∨ 90 < c) ∧ c ≠ 45) ∧ r = 0) : jfHq X c r qm qh ql qb gn qn gv qv := by
  obtain ⟨h1, h2, h3, h8⟩ := q.x0 hm
  have ho := jfOk.lt h0 hr
  have hN := jfNe.put hA (by omega) e6
  rw [jfNe.z hn, hn] at hN
  by_cases w : c = 58
  · have hy : jfHd X c = jfV 0 1 (X 2) (X 3) 0 1 (X 6) (X 7) (X 8) := by rw [jfHd.a0 h1]; unfold jfLb; rw [if_neg hc, if_pos w]
    exact jfHq.mk hy (by omega) (Or.inr ⟨rfl, by omega⟩)
  · have hy : jfHd X c = jfV (jfOk (jfSm c)) 1 (X 2) (X 3) (0 + 1) (jfLn 1 0 (jfSm c)) (X 6) (X 7) (X 8) := by rw [jfHd.a0 h1]; unfold jfLb; rw [if_neg hc, if_neg w]; unfold jfIn; rw [if_neg w]; rfl
    refine jfHq.mk hy (by omega) ?_
    rcases (by omega : r = 1 ∨ r = 0) with g | g
    · exact Or.inl ⟨ho.trans g, g, h2.trans e3.symm, Or.inr ⟨by show X 3 + 1 = qh; omega, h8, Or.inr (Or.inl ⟨rfl, e1, by show (0 : Int) + 1 = qn; omega, hN.symm, e5⟩)⟩⟩
    · exact Or.inr ⟨ho.trans g, g⟩
/-- within a name -/
theorem jfHq.c1 (q : jfRe X m h l b fn cn fv cv) (hm : m = 1) (hh : h < 200) (hc : c = 58) (e1 : qm = 2) (e2 : qh = h + 1) (e3 : ql = l) (e5 : gn = fn) (e6 : qn = cn) (e7 : qv = cv) (hr : r = 1) : jfHq X c r qm qh ql qb gn qn gv qv := by
  obtain ⟨h1, h2, h3, h8, h4, h5, h9⟩ := q.x1 hm
  subst e5 e6
  have hy : jfHd X c = jfV 1 (if X 5 = 1 ∧ X 4 = 14 then 3 else 2) (X 2) (X 3) (X 4) (X 5) 0 0 (X 8) := by rw [jfHd.a1 h1]; unfold jfIn; rw [if_pos hc]
  refine jfHq.mk hy (by omega) (Or.inl ⟨rfl, hr, h2.trans e3.symm, Or.inr ⟨by show X 3 + 1 = qh; omega, h8, ?_⟩⟩)
  have hcl := jfCl.of (f := gn) (n := qn)
  rw [← h5, ← h4] at hcl
  rcases hcl with ⟨g1, g2, g3⟩ | ⟨g1, g2⟩
  · refine Or.inr (Or.inr (Or.inr (Or.inl ⟨show (if X 5 = 1 ∧ X 4 = 14 then (3 : Int) else 2) = 3 from if_pos ⟨g1, g2⟩, Or.inl ⟨e1, by omega⟩, by rw [← h4]; exact g3, by show (0 : Int) = qv; omega, ?_, ?_, by omega, ?_⟩)))
    · show (0 : Int) = jNm gv qv.toNat
      rw [show qv.toNat = 0 by omega]; rfl
    · intro i h0 h1; omega
    · rw [show qv.toNat = 0 by omega]; show (0 : Int) ≤ 3000; omega
  · exact Or.inr (Or.inr (Or.inl ⟨show (if X 5 = 1 ∧ X 4 = 14 then (3 : Int) else 2) = 2 from if_neg (fun z => by omega), Or.inl e1, by rw [← h4]; exact g2⟩))
theorem jfHq.n1 (q : jfRe X m h l b fn cn fv cv) (hm : m = 1) (hh : h < 200) (hc : c ≠ 58) (h0 : 0 ≤ c) (hcn : 0 ≤ cn) (e1 : qm = 1) (e2 : qh = h + 1) (e3 : ql = l) (hA : jSbA fn gn cn c) (e6 : qn = cn + 1) (e7 : qv = cv) (hr : ((97 ≤ c ∧ c ≤ 122) ∨ (65 ≤ c ∧ c ≤ 90) ∨ c = 45) ∧ r = 1 ∨ ((c < 97 ∨ 122 < c) ∧ (c < 65 ∨ 90 < c) ∧ c ≠ 45) ∧ r = 0) : jfHq X c r qm qh ql qb gn qn gv qv := by
  obtain ⟨h1, h2, h3, h8, h4, h5, h9⟩ := q.x1 hm
  have ho := jfOk.lt h0 hr
  have hN := jfNe.put hA hcn e6
  rw [← h5, ← h4] at hN
  have hy : jfHd X c = jfV (jfOk (jfSm c)) (X 1) (X 2) (X 3) (X 4 + 1) (jfLn (X 5) (X 4) (jfSm c)) (X 6) (X 7) (X 8) := by rw [jfHd.a1 h1]; unfold jfIn; rw [if_neg hc]
  refine jfHq.mk hy (by omega) ?_
  rcases (by omega : r = 1 ∨ r = 0) with g | g
  · exact Or.inl ⟨ho.trans g, g, h2.trans e3.symm, Or.inr ⟨by show X 3 + 1 = qh; omega, h8, Or.inr (Or.inl ⟨h1, e1, by show X 4 + 1 = qn; omega, hN.symm, by omega⟩)⟩⟩
  · exact Or.inr ⟨ho.trans g, g⟩
/-- behind 13 -/
theorem jfHq.e4 (q : jfRe X m h l b fn cn fv cv) (hm : m = 4 ∨ m = 5) (hh : h < 200) (e1 : (m = 4 ∧ qm = 0) ∨ (m = 5 ∧ qm = 6)) (e2 : qh = h + 1) (e3 : ql = l) (e4 : qb = 0) (hr : (c = 10 ∧ r = 1) ∨ (c ≠ 10 ∧ r = 0)) : jfHq X c r qm qh ql qb gn qn gv qv := by
  obtain ⟨h1, h2, h3, h8⟩ := q.x4 hm
  have hy := jfHd.a4 (X := X) (c := c) (by omega)
  refine jfHq.mk hy (by omega) ?_
  rcases hr with ⟨g1, g2⟩ | ⟨g1, g2⟩
  · refine Or.inl ⟨if_pos g1, g2, h2.trans e3.symm, ?_⟩
    rcases e1 with ⟨k1, k2⟩ | ⟨k1, k2⟩
    · exact Or.inr ⟨by show X 3 + 1 = qh; omega, h8, Or.inl ⟨show (if X 1 = 4 then (0 : Int) else 6) = 0 from if_pos (by omega), k2⟩⟩
    · exact Or.inl ⟨show (if X 1 = 4 then (0 : Int) else 6) = 6 from if_neg (by omega), k2, by show qb = X 8; omega⟩
  · exact Or.inr ⟨if_neg g1, g2⟩
/-- in a value -/
theorem jfHq.b2 (q : jfRe X m h l b fn cn fv cv) (hm : m = 2) (hh : h < 200) (hc : c = 32) (e1 : qm = 2) (e2 : qh = h + 1) (e3 : ql = l) (e5 : gn = fn) (e6 : qn = cn) (e7 : gv = fv) (e8 : qv = cv) (hr : r = 1) : jfHq X c r qm qh ql qb gn qn gv qv := by
  subst e5 e6 e7 e8
  obtain ⟨h2, h3, h8, g | g⟩ := q.x2 (Or.inl hm)
  · have hy : jfHd X c = jfV (if 32 ≤ c ∧ c ≤ 126 then 1 else 0) (X 1) (X 2) (X 3) (X 4) (X 5) (X 6) (X 7) (X 8) := by rw [jfHd.a2 g.1]; unfold jfIv; rw [if_neg (by omega)]
    exact jfHq.mk hy (by omega) (Or.inl ⟨if_pos (by omega), hr, h2.trans e3.symm, Or.inr ⟨by show X 3 + 1 = qh; omega, h8, Or.inr (Or.inr (Or.inl ⟨g.1, Or.inl e1, g.2⟩))⟩⟩)
  · have hcv : qv = 0 := by omega
    have hy : jfHd X c = jfV (if c = 32 ∧ X 6 = 0 then 1 else 0) (X 1) (X 2) (X 3) (X 4) (X 5) (X 6) (X 7) (X 8) := by rw [jfHd.a3 g.1]; unfold jfIl; rw [if_neg (by omega), if_pos (by omega)]
    exact jfHq.mk hy (by omega) (Or.inl ⟨if_pos (by omega), hr, h2.trans e3.symm, Or.inr ⟨by show X 3 + 1 = qh; omega, h8, Or.inr (Or.inr (Or.inr (Or.inl ⟨g.1, Or.inl ⟨e1, hcv⟩, g.2.2⟩)))⟩⟩)
/-- a value ends, and the name is another one -/
theorem jfHq.r2 (q : jfRe X m h l b fn cn fv cv) (hm : m = 2 ∨ m = 3) (hh : h < 200) (hc : c = 13) (hcl : jfCl fn cn = 0) (e1 : qm = 4) (e2 : qh = h + 1) (e3 : ql = l) (hr : r = 1) : jfHq X c r qm qh ql qb gn qn gv qv := by
  obtain ⟨h2, h3, h8, g | g⟩ := q.x2 hm
  · have hy : jfHd X c = jfV 1 4 (X 2) (X 3) (X 4) (X 5) (X 6) (X 7) (X 8) := by rw [jfHd.a2 g.1]; unfold jfIv; rw [if_pos hc]
    exact jfHq.mk hy (by omega) (Or.inl ⟨rfl, hr, h2.trans e3.symm, Or.inr ⟨by show X 3 + 1 = qh; omega, h8, Or.inr (Or.inr (Or.inr (Or.inr (Or.inl ⟨rfl, e1⟩))))⟩⟩)
  · omega
/-- the length ends -/
theorem jfHq.r3 (q : jfRe X m h l b fn cn fv cv) (hm : m = 2 ∨ m = 3) (hh : h < 200) (hc : c = 13) (hcl : jfCl fn cn = 1) (hcv : 0 ≤ cv) (e1 : qm = 4) (e2 : qh = h + 1) (hr : (jfLo fv cv 1 ∧ ql = jNm fv cv.toNat ∧ r = 1) ∨ (¬ jfLo fv cv 1 ∧ r = 0)) : jfHq X c r qm qh ql qb gn qn gv qv := by
  obtain ⟨h2, h3, h8, g | g⟩ := q.x2 hm
  · omega
  · obtain ⟨g1, g2, g3, g4, g5, g6, g7, g8⟩ := g
    have hy : jfHd X c = jfV (if 0 < X 6 then 1 else 0) 4 (X 7) (X 3) (X 4) (X 5) (X 6) (X 7) (X 8) := by rw [jfHd.a3 g1]; unfold jfIl; rw [if_pos hc]
    refine jfHq.mk hy (by omega) ?_
    rcases hr with ⟨k1, k2, k3⟩ | ⟨k1, k2⟩
    · have k4 : cv ≠ 0 := by
        rcases k1.2.1 with z | z
        · omega
        · exact z
      exact Or.inl ⟨if_pos (by omega), k3, g5.trans k2.symm, Or.inr ⟨by show X 3 + 1 = qh; omega, h8, Or.inr (Or.inr (Or.inr (Or.inr (Or.inl ⟨rfl, e1⟩))))⟩⟩
    · have k4 : cv = 0 := by
        by_cases w : cv = 0
        · exact w
        · exact absurd ⟨g7, Or.inr w, g6, g8⟩ k1
      exact Or.inr ⟨if_neg (by omega), k2⟩
/-- a byte of a value whose name is another one -/
theorem jfHq.v2 (q : jfRe X m h l b fn cn fv cv) (hm : m = 2 ∨ m = 3) (hh : h < 200) (hc : c ≠ 13) (hcl : jfCl fn cn = 0) (e1 : qm = 3) (e2 : qh = h + 1) (e3 : ql = l) (e5 : gn = fn) (e6 : qn = cn) (hr : (32 ≤ c ∧ c ≤ 126 ∧ r = 1) ∨ ((c < 32 ∨ 126 < c) ∧ r = 0)) : jfHq X c r qm qh ql qb gn qn gv qv := by
  subst e5 e6
  obtain ⟨h2, h3, h8, g | g⟩ := q.x2 hm
  · have hy : jfHd X c = jfV (if 32 ≤ c ∧ c ≤ 126 then 1 else 0) (X 1) (X 2) (X 3) (X 4) (X 5) (X 6) (X 7) (X 8) := by rw [jfHd.a2 g.1]; unfold jfIv; rw [if_neg hc]
    refine jfHq.mk hy (by omega) ?_
    rcases hr with ⟨k1, k2, k3⟩ | ⟨k1, k2⟩
    · exact Or.inl ⟨if_pos ⟨k1, k2⟩, k3, h2.trans e3.symm, Or.inr ⟨by show X 3 + 1 = qh; omega, h8, Or.inr (Or.inr (Or.inl ⟨g.1, Or.inr e1, g.2⟩))⟩⟩
    · exact Or.inr ⟨if_neg (by omega), k2⟩
  · omega
/-- a byte of the length -/
theorem jfHq.v3 (q : jfRe X m h l b fn cn fv cv) (hm : m = 2 ∨ m = 3) (hh : h < 200) (hc : c ≠ 13) (hb : m = 3 ∨ c ≠ 32) (hcl : jfCl fn cn = 1) (hcv : 0 ≤ cv) (e1 : qm = 3) (e2 : qh = h + 1) (e3 : ql = l) (e5 : gn = fn) (e6 : qn = cn) (hA : jSbA fv gv cv c) (e8 : qv = cv + 1) (hr : (32 ≤ c ∧ c ≤ 126 ∧ jfLo gv qv 0 ∧ r = 1) ∨ ((c < 32 ∨ 126 < c ∨ ¬ jfLo gv qv 0) ∧ r = 0)) : jfHq X c r qm qh ql qb gn qn gv qv := by
  subst e5 e6 e8
  obtain ⟨h2, h3, h8, g | g⟩ := q.x2 hm
  · omega
  · obtain ⟨g1, g2, g3, g4, g5, g6, g7, g8⟩ := g
    obtain ⟨a1, a2⟩ := hA
    have hN : jNm gv (cv + 1).toNat = 10 * jNm fv cv.toNat + (c - 48) := by
      rw [show (cv + 1).toNat = cv.toNat + 1 by omega]
      show 10 * jNm gv cv.toNat + ((jCv (gv cv.toNat)).toInt - 48) = _
      rw [a2, jNm.cg cv.toNat (fun j hj => a1 j (by omega))]
    have hD : jDg gv (cv + 1) ↔ (48 ≤ c ∧ c ≤ 57) := by
      constructor
      · intro z
        have := z cv hcv (by omega)
        rw [a2] at this; exact this
      · intro z i i0 i1
        by_cases w : i = cv
        · rw [w, a2]; exact z
        · rw [a1 i.toNat (by omega)]; exact g6 i i0 (by omega)
    by_cases w : c < 48 ∨ 57 < c
    · have hy : jfHd X c = jfV (if c = 32 ∧ X 6 = 0 then 1 else 0) (X 1) (X 2) (X 3) (X 4) (X 5) (X 6) (X 7) (X 8) := by rw [jfHd.a3 g1]; unfold jfIl; rw [if_neg hc, if_pos w]
      refine jfHq.mk hy (by omega) (Or.inr ⟨if_neg (by omega), ?_⟩)
      rcases hr with ⟨_, _, k, _⟩ | ⟨_, k⟩
      · have := hD.mp k.2.2.1; omega
      · exact k
    · have hy : jfHd X c = jfV (if X 6 + 1 ≤ 4 ∧ X 7 * 10 + c - 48 ≤ 3000 then 1 else 0) (X 1) (X 2) (X 3) (X 4) (X 5) (X 6 + 1) (X 7 * 10 + c - 48) (X 8) := by rw [jfHd.a3 g1]; unfold jfIl; rw [if_neg hc, if_neg w]
      refine jfHq.mk hy (by omega) ?_
      have hd := hD.mpr (by omega)
      by_cases w2 : X 6 + 1 ≤ 4 ∧ X 7 * 10 + c - 48 ≤ 3000
      · have hlo : jfLo gv (cv + 1) 0 := ⟨by omega, Or.inl rfl, hd, by omega⟩
        have r1 : r = 1 := by
          rcases hr with ⟨_, _, _, k⟩ | ⟨k, _⟩
          · exact k
          · rcases k with k | k | k
            · omega
            · omega
            · exact absurd hlo k
        exact Or.inl ⟨if_pos w2, r1, h2.trans e3.symm, Or.inr ⟨by show X 3 + 1 = qh; omega, h8, Or.inr (Or.inr (Or.inr (Or.inl ⟨g1, Or.inr ⟨e1, by omega⟩, g3, by show X 6 + 1 = cv + 1; omega, by show X 7 * 10 + c - 48 = jNm gv (cv + 1).toNat; omega, hd, by omega, by omega⟩)))⟩⟩
      · refine Or.inr ⟨if_neg w2, ?_⟩
        rcases hr with ⟨_, _, k, _⟩ | ⟨_, k⟩
        · obtain ⟨k1, _, _, k2⟩ := k
          exact absurd ⟨by omega, by omega⟩ w2
        · exact k
end
end
section
def EJ5_ensureCapacityInternal_d00dfC : List (Nat × Nat) := [(0, 0)]
def EJ5_append_3fe6fC : List (Nat × Nat) := [(0, 0), (0, 3), (198, 0)]
def EJ4_append_cf468C : List (Nat × Nat) := [(0, 0), (0, 3), (198, 0)]
set_option maxHeartbeats 4000000 in
set_option maxRecDepth 20000 in
theorem uJ5_ensureCapacityInternal_d00dfC (l : Launch) (dC : Nat → ClassId) (dI : Nat → Nat → Nat) (ca : Nat → ClassId) (base : Nat) (B : jF) (hB : jBok B) (hAp : jAp (dC, dI)) (hB0 : ∀ n G a H, B 0 n G a H ↔ jOb (dC, dI) 0 4 (Fz0 n G) a H) (hB198 : ∀ n G a H, B 198 n G a H ↔ jAr (dC, dI) (ca 0) (fun j z => jBf j z) n a H) (G0 : jT) (H0 : Heap) (r0 : Nat) (a1 : Int32) (pc : Int32) (pa : Nat) (n_pa : Nat) (fv : Nat → Int32) (LC LS : Nat) : Met l yJ5_ensureCapacityInternal_d00df (jw yJ5_ensureCapacityInternal_d00df cJ5_ensureCapacityInternal_d00df 3 none) ({ frames := 3, cells := LC - H0.size, slots := LS - jTot H0, locals := 80 }) (va_Pc [.ref r0, .int a1] (fun U => U.heap = H0 ∧ jX B base G0 [] H0 ∧ jG dC dI ca base U ∧ G0 r0 = some (0, 0) ∧ G0 pa = some (198, n_pa) ∧ jP (dC, dI) G0 H0 [(r0, 0, 3, .int pc), (r0, 0, 0, .ref pa)] ∧ jMc (dC, dI) G0 H0 [(pa, 198, n_pa, ca 0, fv)] ∧ H0.size + (n_pa + 2) ≤ LC ∧ jTot H0 + (2 * n_pa + 4) ≤ LS ∧ 0 ≤ a1.toInt ∧ a1.toInt ≤ n_pa + 1 ∧ 16 ≤ n_pa ∧ n_pa ≤ 400)) (va_Qv (S := Nat × Nat × (Nat → Int32) × jT) (fun u => a1.toInt ≤ u.2.1 ∧ n_pa ≤ u.2.1 ∧ u.2.1 ≤ n_pa + n_pa + 2 ∧ (u.2.1 ≤ n_pa ∨ n_pa < a1.toInt) ∧ jSbc fv u.2.2.1 n_pa ∧ (u.1 = pa ∨ H0.size ≤ u.1)) (fun u t => jRa (dC, dI) B base G0 u.2.2.2 EJ5_ensureCapacityInternal_d00dfC H0 (u.2.1 - n_pa) (2 * (u.2.1 - n_pa)) [(r0, 0, 0, .ref u.1)] t.heap ∧ u.2.2.2 u.1 = some (198, u.2.1) ∧ (jNk [0, 1, 2, 3, 4, 5, 6, 7, 8, 9, 10, 11, 12, 13, 14, 15, 16, 17, 175]) G0 u.2.2.2 ∧ jOw (dC, dI) G0 0 r0 H0 t.heap ∧ jMc (dC, dI) u.2.2.2 t.heap [(u.1, 198, u.2.1, ca 0, u.2.2.1)]) (jA base)) (LC - H0.size) (LS - jTot H0) (jA base) := by
  refine Met.ofW (cc := cJ5_ensureCapacityInternal_d00df) (maxL := 3) (ret := none) (by decide) rfl ?_
  intro p e s m args below meth c s₁ Bd hml hv
  obtain ⟨rfl, hH0, hX, hG, hg_r0, hg_pa, hP0, hM0, hLC0, hLS0, hp0, hp1, hp2, hp3⟩ := hv
  have hK := hG.1
  have hx := Bd.exec
  have hb := Bd.bytes
  have hr := Bd.returns
  have hts := atoms_spec (ws := (jw yJ5_ensureCapacityInternal_d00df cJ5_ensureCapacityInternal_d00df 3 none)) Bd.pre
  have htw : ∀ w ∈ jWl, w.before _ s = true := fun w h => hts w (List.mem_cons_of_mem _ h)
  have hown : s.vm.findClass RJ5 = some m.cls := findClass_of_methodNamed Bd.named
  have hlocks := Bd.notSynchronized
  obtain ⟨Q, hQ⟩ : ∃ Q, Q = MQ below (va_Qv (S := Nat × Nat × (Nat → Int32) × jT) (fun u => a1.toInt ≤ u.2.1 ∧ n_pa ≤ u.2.1 ∧ u.2.1 ≤ n_pa + n_pa + 2 ∧ (u.2.1 ≤ n_pa ∨ n_pa < a1.toInt) ∧ jSbc fv u.2.2.1 n_pa ∧ (u.1 = pa ∨ H0.size ≤ u.1)) (fun u t => jRa (dC, dI) B base G0 u.2.2.2 EJ5_ensureCapacityInternal_d00dfC H0 (u.2.1 - n_pa) (2 * (u.2.1 - n_pa)) [(r0, 0, 0, .ref u.1)] t.heap ∧ u.2.2.2 u.1 = some (198, u.2.1) ∧ (jNk [0, 1, 2, 3, 4, 5, 6, 7, 8, 9, 10, 11, 12, 13, 14, 15, 16, 17, 175]) G0 u.2.2.2 ∧ jOw (dC, dI) G0 0 r0 H0 t.heap ∧ jMc (dC, dI) u.2.2.2 t.heap [(u.1, 198, u.2.1, ca 0, u.2.2.1)]) (jA base)) ([.ref r0, .int a1] : List Value).toArray s (LC - H0.size) (LS - jTot H0) (jA base) := ⟨_, rfl⟩
  rw [← hQ]
  have hl := lv_entry ([.ref r0, .int a1]) (n := 3) (Nat.le_of_ble_eq_true rfl)
  rw [lg_entry_eq]
  generalize (lg_sl ([.ref r0, .int a1]) ++ List.replicate (3 - (lg_sl ([.ref r0, .int a1])).length) Slot.unset).toArray = ls at hl ⊢
  have hl : lv_has ls 3 [(0, .ref r0), (1, .int a1)] := hl
  generalize hR : (headSpec (jw yJ5_ensureCapacityInternal_d00df cJ5_ensureCapacityInternal_d00df 3 none) ({ frames := 3, cells := LC - H0.size, slots := LS - jTot H0, locals := 80 })).room = R
  subst hH0
  have hh : jSt (dC, dI) B base G0 G0 EJ5_ensureCapacityInternal_d00dfC s.heap 0 0 [(r0, 0, 3, .int pc), (r0, 0, 0, .ref pa)] [(pa, 198, n_pa, ca 0, fv)] [] s.heap [] := jSt.start hX hP0 hM0 jIs.nil
  clear hX hP0
  have hk0 : (0 : Int32).toInt = 0 := by decide
  have hk1 : (1 : Int32).toInt = 1 := by decide
  have hly_0_0 := htw (u_lay RJ4 TJ4 0) (jWc_wsJ40 _ (u_in_lay (by decide)))
  have hly_0_1 := htw (u_lay RJ4 TJ4 1) (jWc_wsJ40 _ (u_in_lay (by decide)))
  have hlk_15 := (htw (.fieldLink RJ5 15 "java/lang/AbstractStringBuilder" "value" "[B") (jWr_13 _ (List.mem_of_getElem? (i := 11) rfl)))
  have hlk_22 := (htw (.fieldLink RJ5 22 "java/lang/AbstractStringBuilder" "coder" "B") (jWr_13 _ (List.mem_of_getElem? (i := 12) rfl)))
  have hrg_a1 := jb_rng a1
  have hbs : base ≤ s.heap.size := Nat.le_of_lt (Nat.lt_of_le_of_lt (hh.ab hg_r0).1 (hh.ab hg_r0).2)
  have hRc : R.cells = LC - s.heap.size := by rw [← hR]; rfl
  have hRs : R.slots = LS - jTot s.heap := by rw [← hR]; rfl
  have hh_1 := hh.addI (jOw.ie (dC := dC) (dI := dI) (G0 := G0) (k := 0) (r := r0) (H0 := s.heap) (F := [(0, 0), (0, 1), (0, 2), (0, 3)]) (C := RJ4) (T := TJ4) (N := 4) rfl (by decide) hh.2.2.2.2.1 (jOw.rf))
  clear hh
  refine lv_aload_n hx hb dJ5_ensureCapacityInternal_d00df_0 rfl (lv_at hl 0 rfl) ?_
  refine j7_read hx hb hown hK (C := RJ4) (T := TJ4) (N := 4) rfl hly_0_0 hlk_15 (hh_1.at 1 rfl) dJ5_ensureCapacityInternal_d00df_1 ?_
  refine j7_len hx hb hK hh_1 hB198 0 rfl (by decide) hg_pa (by omega) dJ5_ensureCapacityInternal_d00df_4 (fun z_2 hz_2 => ?_)
  refine lv_aload_n hx hb dJ5_ensureCapacityInternal_d00df_5 rfl (lv_at hl 0 rfl) ?_
  obtain ⟨v_3, hv_3, hh_4⟩ := hh_1.pin (C := RJ4) (T := TJ4) (N := 4) hB0 rfl (by decide) hg_r0 (i := 1) (by decide) rfl
  clear hh_1
  obtain ⟨coder_5, rfl, hlocoder_5, hhicoder_5⟩ := hv_3
  obtain rfl : coder_5 = 0 := Int32.toInt_inj.mp (by rw [show (0 : Int32).toInt = 0 by decide]; omega)
  refine j7_read hx hb hown hK (C := RJ4) (T := TJ4) (N := 4) rfl hly_0_1 hlk_22 (hh_4.at 0 rfl) dJ5_ensureCapacityInternal_d00df_6 ?_
  refine lv_ishr hx hb dJ5_ensureCapacityInternal_d00df_9 ?_
  refine lv_topi (fun z_6 ez_6 => ?_)
  have hz_6 : z_6.toInt = z_2.toInt / 2 ^ 0 := by rw [ez_6]; exact jb_ishr 0 (rfl) (by decide)
  refine lv_istore_n (lv' := [(2, .int z_6), (0, .ref r0), (1, .int a1)]) hx hb dJ5_ensureCapacityInternal_d00df_10 rfl hl (by decide) rfl (fun ls hl => ?_)
  refine lv_iload_n hx hb dJ5_ensureCapacityInternal_d00df_11 rfl (lv_at hl 2 rfl) ?_
  refine lv_iload_n hx hb dJ5_ensureCapacityInternal_d00df_12 rfl (lv_at hl 0 rfl) ?_
  refine lv_isub hx hb dJ5_ensureCapacityInternal_d00df_13 ?_
  refine lv_topi (fun z_7 ez_7 => ?_)
  have hz_7 : z_7.toInt = a1.toInt - z_6.toInt := by rw [ez_7]; exact jb_isub2 (rfl) (rfl) (by omega)
  refine lv_if_le (tgt := 38) hx hb dJ5_ensureCapacityInternal_d00df_14 (by decide) (fun c_8 => ?_) (fun c_8 => ?_)
  · skip
    have c_8' : z_7.toInt ≤ 0 := jb_le (rfl) ((by decide)) c_8
    have hsz_9 := hh_4.2.2.2.2.2.1
    have htt_9 := hh_4.2.2.2.2.2.2.1
    refine W.room (fun hrc_9 hrs_9 => ?_)
    refine W.widen (k := LC - s.heap.size) (n := LS - jTot s.heap) (by omega) (by omega) ?_
    rw [hQ]
    exact W.vret hx hb hr (fun t ht hW => ⟨⟨(pa, n_pa, fv, G0), rfl, by skip; (try dsimp only); exact ⟨by omega, by omega, by omega, by omega, jSbc.rf _ _, by omega⟩, ⟨hh_4.ra (by first | (simp only; omega) | omega) (by first | (simp only; omega) | omega) (M1 := [(r0, 0, 0, .ref pa)]) [2] rfl ht, hg_pa, jNk.rf, by rw [ht]; exact hh_4.iv 0 rfl, by rw [ht]; exact hh_4.2.2.2.2.2.2.2.1.sub [0] rfl⟩⟩, by rw [ht]; try exact hh_4.1.1, fun q h9 hq => by rw [ht]; try exact hh_4.1.2.1 q h9 hq⟩) hh_4.1.2.2 dJ5_ensureCapacityInternal_d00df_38
  · skip
    have c_8' : z_7.toInt > 0 := jb_le_n (rfl) ((by decide)) c_8
    refine lv_aload_n hx hb dJ5_ensureCapacityInternal_d00df_17 rfl (lv_at hl 1 rfl) ?_
    refine lv_aload_n hx hb dJ5_ensureCapacityInternal_d00df_18 rfl (lv_at hl 1 rfl) ?_
    refine j7_read hx hb hown hK (C := RJ4) (T := TJ4) (N := 4) rfl hly_0_0 hlk_15 (hh_4.at 2 rfl) dJ5_ensureCapacityInternal_d00df_19 ?_
    refine lv_aload_n hx hb dJ5_ensureCapacityInternal_d00df_22 rfl (lv_at hl 1 rfl) ?_
    refine lv_iload_n hx hb dJ5_ensureCapacityInternal_d00df_23 rfl (lv_at hl 2 rfl) ?_
    have hsz_10 := hh_4.2.2.2.2.2.1
    have htt_10 := hh_4.2.2.2.2.2.2.1
    refine W.room (fun hrc_10 hrs_10 => ?_)
    refine va_calli (A0 := jA base) (H0 := s.heap) (va_runU (As := [.int a1]) (rest := [.ref pa, .ref r0]) ⟨hx, hb, hml, hown, hts⟩ (uJ5_newCapacity_0f7a4 l dC dI ca base B hB hAp hB0 hB198 G0 s.heap r0 a1 pc pa n_pa) (va_cwU 1 hts (jgX (jWr_45 _ (List.mem_of_getElem? (i := 16) rfl)) (jWr_45 _ (List.mem_of_getElem? (i := 17) rfl)) (jWr_45 _ (List.mem_of_getElem? (i := 18) rfl)) (jWr_45 _ (List.mem_of_getElem? (i := 19) rfl)) (jWr_13 _ (List.mem_of_getElem? (i := 7) rfl)) (jWr_45 _ (List.mem_of_getElem? (i := 20) rfl))) rfl rfl rfl rfl (by decide +kernel) ⟨by rw [← hR]; exact Nat.le_of_ble_eq_true rfl, by rw [← hR]; exact Nat.le_of_ble_eq_true rfl⟩) ⟨fun a U g mk q => by obtain ⟨q0, q1, q2, qK, q10, q11, q12, q13⟩ := q; exact ⟨q0, q1, q2, jG.calling g mk a qK, q10, q11, q12, q13⟩, hh_4.recv (C := RJ4) (T := TJ4) (N := 4) hB0 rfl (by decide) hg_r0 hK, fun U hU hW => ⟨rfl, hU, hh_4.2.1, hG.step hW hU hh_4.1, hg_r0, hg_pa, (hh_4.2.2.1.sub (L1 := [(r0, 0, 3, .int pc), (r0, 0, 0, .ref pa)]) [1, 2] rfl), by first | omega | (refine ⟨?_, ?_, ?_⟩ <;> (first | omega | rfl | assumption | decide | exact Or.inl rfl | exact Or.inr rfl | (simp only; omega)))⟩⟩ rfl rfl hl.1 rfl (lv_room (Nat.le_of_ble_eq_true rfl)) dJ5_ensureCapacityInternal_d00df_24 ⟨by rw [hRc]; show _ + 0 ≤ _; omega, by rw [hRs]; show _ + 0 ≤ _; omega⟩) hh_4.1 (fun q _ h => h) (fun q h => h) (fun r_11 u_10 t_10 H_10 locs_10 ht_10 hvm_10 hr_11 hb_10 hz_10 hk_10 hS_10 => ?_)
    rw [ht_10] at hb_10
    obtain ⟨hb_101, hb_102, hb_103, hb_104, hb_105⟩ := hb_10
    have hh_10 : jSt (dC, dI) B base G0 G0 EJ5_ensureCapacityInternal_d00dfC s.heap 0 0 [(r0, 0, 1, .int 0), (r0, 0, 3, .int pc), (r0, 0, 0, .ref pa)] [(pa, 198, n_pa, ca 0, fv)] [([(0, 0), (0, 1), (0, 2), (0, 3)], jOw (dC, dI) G0 0 r0 s.heap)] H_10 locs_10 := ((hh_4.call hb_101 hb_102 hb_103 hb_104 hS_10 rfl (L1 := [(r0, 0, 1, .int 0), (r0, 0, 3, .int pc), (r0, 0, 0, .ref pa)]) [0, 1, 2] rfl rfl (M1 := [(pa, 198, n_pa, ca 0, fv)]) [0] rfl rfl (I1 := [([(0, 0), (0, 1), (0, 2), (0, 3)], jOw (dC, dI) G0 0 r0 s.heap)]) [0] rfl rfl).more hb_105)
    clear hh_4 ht_10 hvm_10 hz_10 hk_10 hS_10 hb_101 hb_102 hb_103 hb_104 hb_105
    obtain ⟨hr_11_0, hr_11_1, hr_11_2⟩ := hr_11
    refine lv_aload_n hx hb dJ5_ensureCapacityInternal_d00df_27 rfl (lv_at hl 1 rfl) ?_
    refine j7_read hx hb hown hK (C := RJ4) (T := TJ4) (N := 4) rfl hly_0_1 hlk_22 (hh_10.at 0 rfl) dJ5_ensureCapacityInternal_d00df_28 ?_
    refine lv_ishl hx hb dJ5_ensureCapacityInternal_d00df_31 ?_
    refine lv_topi (fun z_12 ez_12 => ?_)
    have hz_12 : z_12.toInt = r_11.toInt := by rw [ez_12, jb_shl0]; try exact rfl
    have hsx9 := hh_10.1.1
    obtain ⟨nc_14, enc_14⟩ : ∃ q : Nat, q = (z_12.toInt).toNat := ⟨_, rfl⟩
    have hsz_13 := hh_10.2.2.2.2.2.1
    have htt_13 := hh_10.2.2.2.2.2.2.1
    refine j7_copybC (LC := LC) (LS := LS) (n1 := nc_14) ⟨hx, hb, hml, hown, hts⟩ hK hG hh_10 hB hB198 (by decide) (by decide) 0 rfl hbs hg_pa (by omega) (by omega) (by omega) (by omega) (by omega) hRc hRs (va_cwS 2 hts (jgS (jWr_45 _ (List.mem_of_getElem? (i := 23) rfl)) (jWr_16 _ (List.mem_of_getElem? (i := 6) rfl)) (jWr_16 _ (List.mem_of_getElem? (i := 7) rfl)) (jWr_16 _ (List.mem_of_getElem? (i := 8) rfl))) rfl rfl rfl (by decide +kernel) ⟨by rw [← hR]; exact Nat.le_of_ble_eq_true rfl, by rw [← hR]; exact Nat.le_of_ble_eq_true rfl⟩) hl.1 (Nat.le_of_ble_eq_true rfl) dJ5_ensureCapacityInternal_d00df_32 (fun H_13 locs_13 gc_13 hgc_13 hsy_13 hty_13 hh_13 => ?_)
    have hN_13 : (jNk [0, 1, 2, 3, 4, 5, 6, 7, 8, 9, 10, 11, 12, 13, 14, 15, 16, 17, 175]) G0 (va_up G0 H_10.size (some (198, nc_14))) := jNk.new (by decide)
    have hgn_13 : (va_up G0 H_10.size (some (198, nc_14))) H_10.size = some (198, nc_14) := jUp_self
    have hle_13 : jLe G0 (va_up G0 H_10.size (some (198, nc_14))) := jLe.new hh_10.2.1.fresh
    generalize va_up G0 H_10.size (some (198, nc_14)) = G_13 at hN_13 hgn_13 hle_13 hh_13
    clear hh_10
    have hNn_13 : (jNk [0, 1, 2, 3, 4, 5, 6, 7, 8, 9, 10, 11, 12, 13, 14, 15, 16, 17, 175]) G0 G_13 := (jNk.rf).tr hN_13
    have hg_15 := hle_13 _ _ hg_r0
    have hg_16 := hle_13 _ _ hg_pa
    have hd_18 := hh_13.iv 0 rfl
    have hh_19 := hh_13.sub (L1 := [(r0, 0, 1, .int 0), (r0, 0, 3, .int pc), (r0, 0, 0, .ref pa)]) [0, 1, 2] rfl (M1 := [(H_10.size, 198, nc_14, ca 0, gc_13), (pa, 198, n_pa, ca 0, fv)]) [0, 1] rfl (I1 := []) [] rfl
    clear hh_13
    refine j7_putX hx hb hown hK hh_19 hB hAp hB0 (C := RJ4) (T := TJ4) (N := 4) rfl (by decide) hg_15 (i := 0) (by decide) hly_0_0 rfl hlk_15 rfl (ty := (.array .byte)) (v := .ref H_10.size) (by decide +kernel) rfl rfl (⟨_, _, rfl, hgn_13, by omega⟩) rfl (L1 := [(r0, 0, 1, .int 0), (r0, 0, 3, .int pc)]) [0, 1] rfl rfl rfl dJ5_ensureCapacityInternal_d00df_35 (fun H_17 locs_17 hr_17 hh_17 => ?_)
    clear hh_19
    have hd_18n := jOw.put hd_18 hr_17
    have hh_20 := hh_17.addI (jOw.ie (dC := dC) (dI := dI) (G0 := G0) (k := 0) (r := r0) (H0 := s.heap) (F := [(0, 0), (0, 1), (0, 2), (0, 3)]) (C := RJ4) (T := TJ4) (N := 4) rfl (by decide) hh_17.2.2.2.2.1 (hd_18n))
    clear hh_17
    clear hd_18 hd_18n hr_17
    have hsz_21 := hh_20.2.2.2.2.2.1
    have htt_21 := hh_20.2.2.2.2.2.2.1
    refine W.room (fun hrc_21 hrs_21 => ?_)
    refine W.widen (k := LC - s.heap.size) (n := LS - jTot s.heap) (by omega) (by omega) ?_
    rw [hQ]
    exact W.vret hx hb hr (fun t ht hW => ⟨⟨(H_10.size, nc_14, gc_13, G_13), rfl, by skip; (try dsimp only); exact ⟨by omega, by omega, by omega, by omega, hgc_13, by omega⟩, ⟨hh_20.ra (by first | (simp only; omega) | omega) (by first | (simp only; omega) | omega) (M1 := [(r0, 0, 0, .ref H_10.size)]) [0] rfl ht, hgn_13, hNn_13, by rw [ht]; exact hh_20.iv 0 rfl, by rw [ht]; exact hh_20.2.2.2.2.2.2.2.1.sub [0] rfl⟩⟩, by rw [ht]; try exact hh_20.1.1, fun q h9 hq => by rw [ht]; try exact hh_20.1.2.1 q h9 hq⟩) hh_20.1.2.2 dJ5_ensureCapacityInternal_d00df_38
set_option maxHeartbeats 4000000 in
set_option maxRecDepth 20000 in
theorem uJ5_append_3fe6fC (l : Launch) (dC : Nat → ClassId) (dI : Nat → Nat → Nat) (ca : Nat → ClassId) (base : Nat) (B : jF) (hB : jBok B) (hAp : jAp (dC, dI)) (hB0 : ∀ n G a H, B 0 n G a H ↔ jOb (dC, dI) 0 4 (Fz0 n G) a H) (hB198 : ∀ n G a H, B 198 n G a H ↔ jAr (dC, dI) (ca 0) (fun j z => jBf j z) n a H) (G0 : jT) (H0 : Heap) (r0 : Nat) (a1 : Int32) (pc : Int32) (pa : Nat) (n_pa : Nat) (fv : Nat → Int32) (xn nx : Nat) (fx : Nat → Int32) (LC LS : Nat) : Met l yJ5_append_3fe6f (jw yJ5_append_3fe6f cJ5_append_3fe6f 2 (some (.object "java/lang/AbstractStringBuilder"))) ({ frames := 4, cells := LC - H0.size, slots := LS - jTot H0, locals := 102 }) (va_Pc [.ref r0, .int a1] (fun U => U.heap = H0 ∧ jX B base G0 [] H0 ∧ jG dC dI ca base U ∧ G0 r0 = some (0, 0) ∧ G0 pa = some (198, n_pa) ∧ jP (dC, dI) G0 H0 [(r0, 0, 3, .int pc), (r0, 0, 0, .ref pa)] ∧ jMc (dC, dI) G0 H0 [(pa, 198, n_pa, ca 0, fv), (xn, 198, nx, ca 0, fx)] ∧ H0.size + (n_pa + 2) ≤ LC ∧ jTot H0 + (2 * n_pa + 4) ≤ LS ∧ 0 ≤ pc.toInt ∧ pc.toInt ≤ n_pa ∧ 16 ≤ n_pa ∧ n_pa ≤ 400 ∧ 0 ≤ a1.toInt ∧ a1.toInt ≤ 255 ∧ xn ≠ pa)) (jQx (S := Int32 × Nat × Nat × (Nat → Int32) × jT) (fun v u => jRf G0 0 0 v ∧ u.1.toInt = pc.toInt + 1 ∧ u.1.toInt ≤ u.2.2.1 ∧ n_pa ≤ u.2.2.1 ∧ u.2.2.1 ≤ n_pa + n_pa + 2 ∧ (u.2.2.1 ≤ n_pa ∨ n_pa ≤ pc.toInt) ∧ jSbA fv u.2.2.2.1 pc.toInt a1.toInt ∧ u.2.1 ≠ xn) (fun u t => jRa (dC, dI) B base G0 u.2.2.2.2 EJ5_append_3fe6fC H0 (u.2.2.1 - n_pa) (2 * (u.2.2.1 - n_pa)) [(r0, 0, 3, .int u.1), (r0, 0, 0, .ref u.2.1)] t.heap ∧ u.2.2.2.2 u.2.1 = some (198, u.2.2.1) ∧ (jNk [0, 1, 2, 3, 4, 5, 6, 7, 8, 9, 10, 11, 12, 13, 14, 15, 16, 17, 175]) G0 u.2.2.2.2 ∧ jOw (dC, dI) G0 0 r0 H0 t.heap ∧ jMc (dC, dI) u.2.2.2.2 t.heap [(u.2.1, 198, u.2.2.1, ca 0, u.2.2.2.1), (xn, 198, nx, ca 0, fx)]) (jA base)) (LC - H0.size) (LS - jTot H0) (jA base) := by
  refine Met.ofW (cc := cJ5_append_3fe6f) (maxL := 2) (ret := (some (.object "java/lang/AbstractStringBuilder"))) (by decide) rfl ?_
  intro p e s m args below meth c s₁ Bd hml hv
  obtain ⟨rfl, hH0, hX, hG, hg_r0, hg_pa, hP0, hM0, hLC0, hLS0, hp0, hp1, hp2, hp3, hp4, hp5, hp6⟩ := hv
  have hK := hG.1
  have hx := Bd.exec
  have hb := Bd.bytes
  have hr := Bd.returns
  have hts := atoms_spec (ws := (jw yJ5_append_3fe6f cJ5_append_3fe6f 2 (some (.object "java/lang/AbstractStringBuilder")))) Bd.pre
  have htw : ∀ w ∈ jWl, w.before _ s = true := fun w h => hts w (List.mem_cons_of_mem _ h)
  have hown : s.vm.findClass RJ5 = some m.cls := findClass_of_methodNamed Bd.named
  have hlocks := Bd.notSynchronized
  obtain ⟨Q, hQ⟩ : ∃ Q, Q = MQ below (jQx (S := Int32 × Nat × Nat × (Nat → Int32) × jT) (fun v u => jRf G0 0 0 v ∧ u.1.toInt = pc.toInt + 1 ∧ u.1.toInt ≤ u.2.2.1 ∧ n_pa ≤ u.2.2.1 ∧ u.2.2.1 ≤ n_pa + n_pa + 2 ∧ (u.2.2.1 ≤ n_pa ∨ n_pa ≤ pc.toInt) ∧ jSbA fv u.2.2.2.1 pc.toInt a1.toInt ∧ u.2.1 ≠ xn) (fun u t => jRa (dC, dI) B base G0 u.2.2.2.2 EJ5_append_3fe6fC H0 (u.2.2.1 - n_pa) (2 * (u.2.2.1 - n_pa)) [(r0, 0, 3, .int u.1), (r0, 0, 0, .ref u.2.1)] t.heap ∧ u.2.2.2.2 u.2.1 = some (198, u.2.2.1) ∧ (jNk [0, 1, 2, 3, 4, 5, 6, 7, 8, 9, 10, 11, 12, 13, 14, 15, 16, 17, 175]) G0 u.2.2.2.2 ∧ jOw (dC, dI) G0 0 r0 H0 t.heap ∧ jMc (dC, dI) u.2.2.2.2 t.heap [(u.2.1, 198, u.2.2.1, ca 0, u.2.2.2.1), (xn, 198, nx, ca 0, fx)]) (jA base)) ([.ref r0, .int a1] : List Value).toArray s (LC - H0.size) (LS - jTot H0) (jA base) := ⟨_, rfl⟩
  rw [← hQ]
  have hl := lv_entry ([.ref r0, .int a1]) (n := 2) (Nat.le_of_ble_eq_true rfl)
  rw [lg_entry_eq]
  generalize (lg_sl ([.ref r0, .int a1]) ++ List.replicate (2 - (lg_sl ([.ref r0, .int a1])).length) Slot.unset).toArray = ls at hl ⊢
  have hl : lv_has ls 2 [(0, .ref r0), (1, .int a1)] := hl
  generalize hR : (headSpec (jw yJ5_append_3fe6f cJ5_append_3fe6f 2 (some (.object "java/lang/AbstractStringBuilder"))) ({ frames := 4, cells := LC - H0.size, slots := LS - jTot H0, locals := 102 })).room = R
  subst hH0
  have hh : jSt (dC, dI) B base G0 G0 EJ5_append_3fe6fC s.heap 0 0 [(r0, 0, 3, .int pc), (r0, 0, 0, .ref pa)] [(pa, 198, n_pa, ca 0, fv), (xn, 198, nx, ca 0, fx)] [] s.heap [] := jSt.start hX hP0 hM0 jIs.nil
  clear hX hP0
  have hk0 : (0 : Int32).toInt = 0 := by decide
  have hk1 : (1 : Int32).toInt = 1 := by decide
  have hly_0_0 := htw (u_lay RJ4 TJ4 0) (jWc_wsJ40 _ (u_in_lay (by decide)))
  have hly_0_3 := htw (u_lay RJ4 TJ4 3) (jWc_wsJ40 _ (u_in_lay (by decide)))
  have hlk_79 := (htw (.fieldLink RJ5 79 "java/lang/AbstractStringBuilder" "count" "I") (jWr_45 _ (List.mem_of_getElem? (i := 9) rfl)))
  have hlk_15 := (htw (.fieldLink RJ5 15 "java/lang/AbstractStringBuilder" "value" "[B") (jWr_13 _ (List.mem_of_getElem? (i := 11) rfl)))
  have hrg_a1 := jb_rng a1
  have hbs : base ≤ s.heap.size := Nat.le_of_lt (Nat.lt_of_le_of_lt (hh.ab hg_r0).1 (hh.ab hg_r0).2)
  have hRc : R.cells = LC - s.heap.size := by rw [← hR]; rfl
  have hRs : R.slots = LS - jTot s.heap := by rw [← hR]; rfl
  have hh_1 := hh.addI (jOw.ie (dC := dC) (dI := dI) (G0 := G0) (k := 0) (r := r0) (H0 := s.heap) (F := [(0, 0), (0, 1), (0, 2), (0, 3)]) (C := RJ4) (T := TJ4) (N := 4) rfl (by decide) hh.2.2.2.2.1 (jOw.rf))
  clear hh
  have hxg := (hM0 _ (List.mem_of_getElem? (i := 1) rfl)).1
  have hxl := (hh_1.ab hxg).2
  refine lv_aload_n hx hb dJ5_append_3fe6f_0 rfl (lv_at hl 0 rfl) ?_
  refine lv_aload_n hx hb dJ5_append_3fe6f_1 rfl (lv_at hl 0 rfl) ?_
  refine j7_read hx hb hown hK (C := RJ4) (T := TJ4) (N := 4) rfl hly_0_3 hlk_79 (hh_1.at 0 rfl) dJ5_append_3fe6f_2 ?_
  refine lv_iconst (v := 1) hx hb dJ5_append_3fe6f_5 (by decide) ?_
  refine lv_iadd hx hb dJ5_append_3fe6f_6 ?_
  refine lv_topi (fun z_2 ez_2 => ?_)
  have hz_2 : z_2.toInt = pc.toInt + 1 := by rw [ez_2]; exact jb_iadd2 (rfl) ((by decide)) (by omega)
  have hsz_3 := hh_1.2.2.2.2.2.1
  have htt_3 := hh_1.2.2.2.2.2.2.1
  refine W.room (fun hrc_3 hrs_3 => ?_)
  refine va_callv (A0 := jA base) (H0 := s.heap) (va_runU (As := [.int z_2]) (rest := []) ⟨hx, hb, hml, hown, hts⟩ (uJ5_ensureCapacityInternal_d00dfC l dC dI ca base B hB hAp hB0 hB198 G0 s.heap r0 z_2 pc pa n_pa fv LC LS) (va_cwU 1 hts (jgX (jWr_45 _ (List.mem_of_getElem? (i := 11) rfl)) (jWr_45 _ (List.mem_of_getElem? (i := 12) rfl)) (jWr_45 _ (List.mem_of_getElem? (i := 13) rfl)) (jWr_45 _ (List.mem_of_getElem? (i := 14) rfl)) (jWr_13 _ (List.mem_of_getElem? (i := 7) rfl)) (jWr_45 _ (List.mem_of_getElem? (i := 15) rfl))) rfl rfl rfl rfl (by decide +kernel) ⟨by rw [← hR]; exact Nat.le_of_ble_eq_true rfl, by rw [← hR]; exact Nat.le_of_ble_eq_true rfl⟩) ⟨fun a U g mk q => by obtain ⟨q0, q1, q2, qK, q10, q11, q12, q13, q14⟩ := q; exact ⟨q0, q1, q2, jG.calling g mk a qK, q10, q11, q12, q13, q14⟩, hh_1.recv (C := RJ4) (T := TJ4) (N := 4) hB0 rfl (by decide) hg_r0 hK, fun U hU hW => ⟨rfl, hU, hh_1.2.1, hG.step hW hU hh_1.1, hg_r0, hg_pa, (hh_1.2.2.1.sub (L1 := [(r0, 0, 3, .int pc), (r0, 0, 0, .ref pa)]) [0, 1] rfl), (hh_1.2.2.2.2.2.2.2.1.sub (L1 := [(pa, 198, n_pa, ca 0, fv)]) [0] rfl), by first | omega | (refine ⟨?_, ?_, ?_, ?_⟩ <;> (first | omega | rfl | assumption | decide | exact Or.inl rfl | exact Or.inr rfl | (simp only; omega)))⟩⟩ rfl rfl hl.1 rfl (lv_room (Nat.le_of_ble_eq_true rfl)) dJ5_append_3fe6f_7 ⟨by rw [hRc]; omega, by rw [hRs]; omega⟩) hh_1.1 (fun q _ h => h) (fun q h => h) (fun u_3 t_3 H_3 locs_3 ht_3 hvm_3 hr_4 hb_3 hz_3 hk_3 hS_3 => ?_)
  rw [ht_3] at hb_3
  obtain ⟨qa_3, m_qa_3, gv_3, G_3⟩ := u_3
  simp only at hb_3
  obtain ⟨⟨hb_31, hb_32, hb_33, hb_34, hb_35, hb_36⟩, hgq_3_0, hN_3, hbO_3, hbM_3⟩ := hb_3
  have hh_3 : jSt (dC, dI) B base G0 G_3 EJ5_append_3fe6fC s.heap (0 + (m_qa_3 - n_pa)) (0 + (2 * (m_qa_3 - n_pa))) [(r0, 0, 0, .ref qa_3), (r0, 0, 3, .int pc)] [(pa, 198, n_pa, ca 0, fv), (xn, 198, nx, ca 0, fx)] [] H_3 locs_3 := (hh_1.callG hb_31 hb_32 hb_33 hb_34 hb_35 hS_3 rfl (L1 := [(r0, 0, 3, .int pc)]) [0] rfl rfl (M1 := [(pa, 198, n_pa, ca 0, fv), (xn, 198, nx, ca 0, fx)]) [0, 1] rfl rfl (I1 := []) [] rfl rfl).more hb_36
  have hNn_3 : (jNk [0, 1, 2, 3, 4, 5, 6, 7, 8, 9, 10, 11, 12, 13, 14, 15, 16, 17, 175]) G0 G_3 := (jNk.rf).tr hN_3
  have hg_5 := hb_32 _ _ hg_r0
  have hh_6 := hh_3.moreM hbM_3
  have hd_7 := jOw.tr (hh_1.iv 0 rfl) hh_1.2.2.2.2.1 hbO_3
  have hh_8 := hh_6.addI (jOw.ie (dC := dC) (dI := dI) (G0 := G0) (k := 0) (r := r0) (H0 := s.heap) (F := [(0, 0), (0, 1), (0, 2), (0, 3)]) (C := RJ4) (T := TJ4) (N := 4) rfl (by decide) hh_6.2.2.2.2.1 (hd_7))
  clear hh_6
  try simp only at hr_4
  obtain ⟨hr_4_0, hr_4_1, hr_4_2, hr_4_3, hr_4_4, hr_4_5⟩ := hr_4
  have hxd := hr_4_5
  refine lv_aload_n hx hb dJ5_append_3fe6f_10 rfl (lv_at hl 0 rfl) ?_
  have hsz_9 := hh_8.2.2.2.2.2.1
  have htt_9 := hh_8.2.2.2.2.2.2.1
  refine W.room (fun hrc_9 hrs_9 => ?_)
  refine va_calli (A0 := jA base) (H0 := s.heap) (va_runU (As := []) (rest := []) ⟨hx, hb, hml, hown, hts⟩ (uJ5_isLatin1_aae02 l dC dI ca base B hB hAp hB0 G_3 H_3 r0) (va_cwU 0 hts (jgX (jWr_46 _ (List.mem_of_getElem? (i := 0) rfl)) (jWr_46 _ (List.mem_of_getElem? (i := 1) rfl)) (jWr_46 _ (List.mem_of_getElem? (i := 2) rfl)) (jWr_46 _ (List.mem_of_getElem? (i := 3) rfl)) (jWr_13 _ (List.mem_of_getElem? (i := 7) rfl)) (jWr_46 _ (List.mem_of_getElem? (i := 4) rfl))) rfl rfl rfl rfl (by decide +kernel) ⟨by rw [← hR]; exact Nat.le_of_ble_eq_true rfl, by rw [← hR]; exact Nat.le_of_ble_eq_true rfl⟩) ⟨fun a U g mk q => by obtain ⟨q0, q1, q2, qK, q10, q11, q12⟩ := q; exact ⟨q0, q1, q2, jG.calling g mk a qK, q10, q11, q12⟩, hh_8.recv (C := RJ4) (T := TJ4) (N := 4) hB0 rfl (by decide) hg_5 hK, fun U hU hW => ⟨rfl, hU, hh_8.2.1, hG.step hW hU hh_8.1, hg_5, jP.nil, trivial⟩⟩ rfl rfl hl.1 rfl (lv_room (Nat.le_of_ble_eq_true rfl)) dJ5_append_3fe6f_11 ⟨by rw [hRc]; show _ + 0 ≤ _; omega, by rw [hRs]; show _ + 0 ≤ _; omega⟩) hh_8.1 (fun q _ h => h) (fun q h => h) (fun r_10 u_9 t_9 H_9 locs_9 ht_9 hvm_9 hr_10 hb_9 hz_9 hk_9 hS_9 => ?_)
  rw [ht_9] at hb_9
  obtain ⟨hb_91, hb_92, hb_93, hb_94, hb_95⟩ := hb_9
  have hh_9 : jSt (dC, dI) B base G0 G_3 EJ5_append_3fe6fC s.heap (0 + (m_qa_3 - n_pa)) (0 + (2 * (m_qa_3 - n_pa))) [(r0, 0, 0, .ref qa_3), (r0, 0, 3, .int pc)] [(qa_3, 198, m_qa_3, ca 0, gv_3), (pa, 198, n_pa, ca 0, fv), (xn, 198, nx, ca 0, fx)] [([(0, 0), (0, 1), (0, 2), (0, 3)], jOw (dC, dI) G0 0 r0 s.heap)] H_9 locs_9 := ((hh_8.call hb_91 hb_92 hb_93 hb_94 hS_9 rfl (L1 := [(r0, 0, 0, .ref qa_3), (r0, 0, 3, .int pc)]) [0, 1] rfl rfl (M1 := [(qa_3, 198, m_qa_3, ca 0, gv_3), (pa, 198, n_pa, ca 0, fv), (xn, 198, nx, ca 0, fx)]) [0, 1, 2] rfl rfl (I1 := [([(0, 0), (0, 1), (0, 2), (0, 3)], jOw (dC, dI) G0 0 r0 s.heap)]) [0] rfl rfl).more hb_95)
  clear hh_8 ht_9 hvm_9 hz_9 hk_9 hS_9 hb_91 hb_92 hb_93 hb_94 hb_95
  obtain ⟨hr_10b, hr_10p⟩ := hr_10
  have hr_10' := jb_01 hr_10b
  refine lv_if_eq (tgt := 45) hx hb dJ5_append_3fe6f_14 (by decide) (fun c_11 => ?_) (fun c_11 => ?_)
  · skip
    have c_11' : r_10.toInt = 0 := jb_eq (rfl) ((by decide)) c_11
    exact absurd c_11' (by omega)
  · skip
    have c_11' : r_10.toInt ≠ 0 := jb_eq_n (rfl) ((by decide)) c_11
    refine lv_iload_n hx hb dJ5_append_3fe6f_17 rfl (lv_at hl 1 rfl) ?_
    have hsz_12 := hh_9.2.2.2.2.2.1
    have htt_12 := hh_9.2.2.2.2.2.2.1
    refine W.room (fun hrc_12 hrs_12 => ?_)
    refine va_calli (A0 := jA base) (H0 := s.heap) (va_runS (As := [.int a1]) (rest := []) ⟨hx, hb, hml, hown, hts⟩ (uJ1_canEncode_fc78dK l dC dI ca base B hB hAp G_3 H_9 a1) (va_cwS 1 hts (jgS (jWr_47 _ (List.mem_of_getElem? (i := 2) rfl)) (jWr_47 _ (List.mem_of_getElem? (i := 3) rfl)) (jWr_6 _ (List.mem_of_getElem? (i := 10) rfl)) (jWr_47 _ (List.mem_of_getElem? (i := 4) rfl))) rfl rfl rfl (by decide +kernel) ⟨by rw [← hR]; exact Nat.le_of_ble_eq_true rfl, by rw [← hR]; exact Nat.le_of_ble_eq_true rfl⟩) ⟨fun a U g mk q => by obtain ⟨q0, q1, q2, qK, q10, q11⟩ := q; exact ⟨q0, q1, q2, jG.calling g mk a qK, q10, q11⟩, fun U hU hW => ⟨rfl, hU, hh_9.2.1, hG.step hW hU hh_9.1, jP.nil, by first | omega | (refine ⟨?_, ?_⟩ <;> (first | omega | rfl | assumption | decide | exact Or.inl rfl | exact Or.inr rfl | (simp only; omega)))⟩⟩ rfl rfl hl.1 rfl (lv_room (Nat.le_of_ble_eq_true rfl)) dJ5_append_3fe6f_18 ⟨by rw [hRc]; show _ + 0 ≤ _; omega, by rw [hRs]; show _ + 0 ≤ _; omega⟩) hh_9.1 (fun q _ h => h) (fun q h => h) (fun r_13 u_12 t_12 H_12 locs_12 ht_12 hvm_12 hr_13 hb_12 hz_12 hk_12 hS_12 => ?_)
    rw [ht_12] at hb_12
    obtain ⟨hb_121, hb_122, hb_123, hb_124, hb_125⟩ := hb_12
    have hh_12 : jSt (dC, dI) B base G0 G_3 EJ5_append_3fe6fC s.heap (0 + (m_qa_3 - n_pa)) (0 + (2 * (m_qa_3 - n_pa))) [(r0, 0, 0, .ref qa_3), (r0, 0, 3, .int pc)] [(qa_3, 198, m_qa_3, ca 0, gv_3), (pa, 198, n_pa, ca 0, fv), (xn, 198, nx, ca 0, fx)] [([(0, 0), (0, 1), (0, 2), (0, 3)], jOw (dC, dI) G0 0 r0 s.heap)] H_12 locs_12 := ((hh_9.call hb_121 hb_122 hb_123 hb_124 hS_12 rfl (L1 := [(r0, 0, 0, .ref qa_3), (r0, 0, 3, .int pc)]) [0, 1] rfl rfl (M1 := [(qa_3, 198, m_qa_3, ca 0, gv_3), (pa, 198, n_pa, ca 0, fv), (xn, 198, nx, ca 0, fx)]) [0, 1, 2] rfl rfl (I1 := [([(0, 0), (0, 1), (0, 2), (0, 3)], jOw (dC, dI) G0 0 r0 s.heap)]) [0] rfl rfl).more hb_125)
    clear hh_9 ht_12 hvm_12 hz_12 hk_12 hS_12 hb_121 hb_122 hb_123 hb_124 hb_125
    obtain ⟨hr_13b, hr_13p⟩ := hr_13
    have hr_13' := jb_01 hr_13b
    refine lv_if_eq (tgt := 45) hx hb dJ5_append_3fe6f_21 (by decide) (fun c_14 => ?_) (fun c_14 => ?_)
    · skip
      have c_14' : r_13.toInt = 0 := jb_eq (rfl) ((by decide)) c_14
      exact absurd c_14' (by omega)
    · skip
      have c_14' : r_13.toInt ≠ 0 := jb_eq_n (rfl) ((by decide)) c_14
      refine lv_aload_n hx hb dJ5_append_3fe6f_24 rfl (lv_at hl 0 rfl) ?_
      refine j7_read hx hb hown hK (C := RJ4) (T := TJ4) (N := 4) rfl hly_0_0 hlk_15 (hh_12.at 0 rfl) dJ5_append_3fe6f_25 ?_
      refine lv_aload_n hx hb dJ5_append_3fe6f_28 rfl (lv_at hl 0 rfl) ?_
      refine lv_dup hx hb dJ5_append_3fe6f_29 rfl ?_
      refine j7_read hx hb hown hK (C := RJ4) (T := TJ4) (N := 4) rfl hly_0_3 hlk_79 (hh_12.at 1 rfl) dJ5_append_3fe6f_30 ?_
      refine lv_dup_x1 hx hb dJ5_append_3fe6f_33 rfl rfl ?_
      refine lv_iconst (v := 1) hx hb dJ5_append_3fe6f_34 (by decide) ?_
      refine lv_iadd hx hb dJ5_append_3fe6f_35 ?_
      refine lv_topi (fun z_15 ez_15 => ?_)
      have hz_15 : z_15.toInt = pc.toInt + 1 := by rw [ez_15]; exact jb_iadd2 (rfl) ((by decide)) (by omega)
      have hd_17 := hh_12.iv 0 rfl
      have hh_18 := hh_12.sub (L1 := [(r0, 0, 0, .ref qa_3), (r0, 0, 3, .int pc)]) [0, 1] rfl (M1 := [(qa_3, 198, m_qa_3, ca 0, gv_3), (pa, 198, n_pa, ca 0, fv), (xn, 198, nx, ca 0, fx)]) [0, 1, 2] rfl (I1 := []) [] rfl
      clear hh_12
      refine j7_putX hx hb hown hK hh_18 hB hAp hB0 (C := RJ4) (T := TJ4) (N := 4) rfl (by decide) hg_5 (i := 3) (by decide) hly_0_3 rfl hlk_79 rfl (ty := .int) (v := .int z_15) (by decide +kernel) rfl rfl (⟨_, rfl, by omega, by omega⟩) rfl (L1 := [(r0, 0, 0, .ref qa_3)]) [0] rfl rfl rfl dJ5_append_3fe6f_36 (fun H_16 locs_16 hr_16 hh_16 => ?_)
      clear hh_18
      have hd_17n := jOw.put hd_17 hr_16
      have hh_19 := hh_16.addI (jOw.ie (dC := dC) (dI := dI) (G0 := G0) (k := 0) (r := r0) (H0 := s.heap) (F := [(0, 0), (0, 1), (0, 2), (0, 3)]) (C := RJ4) (T := TJ4) (N := 4) rfl (by decide) hh_16.2.2.2.2.1 (hd_17n))
      clear hh_16
      clear hd_17 hd_17n hr_16
      refine lv_iload_n hx hb dJ5_append_3fe6f_39 rfl (lv_at hl 1 rfl) ?_
      refine lv_i2b hx hb dJ5_append_3fe6f_40 rfl ?_
      refine lv_topi (fun z_20 ez_20 => ?_)
      have hxa : xn ≠ qa_3 := by omega
      refine j7_bastUX hx hb hK hh_19 hB hB198 0 rfl (by decide) (by decide) rfl 0 rfl 2 rfl (by first | assumption | omega) (M1 := []) [] rfl rfl rfl hgq_3_0 (x := pc.toInt) (rfl) (by omega) dJ5_append_3fe6f_41 (fun H_21 locs_21 fs_22 hv_21 ho_21 hh_21 => ?_)
      clear hh_19
      refine lv_goto (tgt := 75) hx hb dJ5_append_3fe6f_42 (by decide) ?_
      refine lv_aload_n hx hb dJ5_append_3fe6f_75 rfl (lv_at hl 0 rfl) ?_
      have hsz_23 := hh_21.2.2.2.2.2.1
      have htt_23 := hh_21.2.2.2.2.2.2.1
      refine W.room (fun hrc_23 hrs_23 => ?_)
      refine W.widen (k := LC - s.heap.size) (n := LS - jTot s.heap) (by omega) (by omega) ?_
      rw [hQ]
      exact W.aret (v := .ref r0) hx hb hr (Or.inl ⟨_, rfl⟩) (Or.inr ⟨_, rfl⟩) (fun t ht hW => ⟨⟨.ref r0, (z_15, qa_3, m_qa_3, fs_22, G_3), rfl, ⟨⟨_, rfl, hg_r0⟩, by skip; (try dsimp only); exact ⟨by omega, by omega, by omega, by omega, by omega, jSbA.of hr_4_4 (by omega) (by omega) (by rw [hv_21, ez_20]; exact jSb_cw (by omega) (by omega)) (fun j h9 h8 => ho_21 j (by omega) h8), by omega⟩⟩, ⟨hh_21.ra (by first | (simp only; omega) | omega) (by first | (simp only; omega) | omega) (M1 := [(r0, 0, 3, .int z_15), (r0, 0, 0, .ref qa_3)]) [0, 1] rfl ht, hgq_3_0, hNn_3, by rw [ht]; exact hh_21.iv 0 rfl, by rw [ht]; exact hh_21.2.2.2.2.2.2.2.1.sub [0, 1] rfl⟩⟩, by rw [ht]; try exact hh_21.1.1, fun q h9 hq => by rw [ht]; try exact hh_21.1.2.1 q h9 hq⟩) hh_21.1.2.2 dJ5_append_3fe6f_76
set_option maxHeartbeats 4000000 in
set_option maxRecDepth 20000 in
theorem uJ4_append_cf468C (l : Launch) (dC : Nat → ClassId) (dI : Nat → Nat → Nat) (ca : Nat → ClassId) (base : Nat) (B : jF) (hB : jBok B) (hAp : jAp (dC, dI)) (hB0 : ∀ n G a H, B 0 n G a H ↔ jOb (dC, dI) 0 4 (Fz0 n G) a H) (hB198 : ∀ n G a H, B 198 n G a H ↔ jAr (dC, dI) (ca 0) (fun j z => jBf j z) n a H) (G0 : jT) (H0 : Heap) (r0 : Nat) (a1 : Int32) (pc : Int32) (pa : Nat) (n_pa : Nat) (fv : Nat → Int32) (xn nx : Nat) (fx : Nat → Int32) (LC LS : Nat) : Met l yJ4_append_cf468 (jw yJ4_append_cf468 cJ4_append_cf468 2 (some (.object "java/lang/StringBuilder"))) ({ frames := 5, cells := LC - H0.size, slots := LS - jTot H0, locals := 123 }) (va_Pc [.ref r0, .int a1] (fun U => U.heap = H0 ∧ jX B base G0 [] H0 ∧ jG dC dI ca base U ∧ G0 r0 = some (0, 0) ∧ G0 pa = some (198, n_pa) ∧ jP (dC, dI) G0 H0 [(r0, 0, 3, .int pc), (r0, 0, 0, .ref pa)] ∧ jMc (dC, dI) G0 H0 [(pa, 198, n_pa, ca 0, fv), (xn, 198, nx, ca 0, fx)] ∧ H0.size + (n_pa + 2) ≤ LC ∧ jTot H0 + (2 * n_pa + 4) ≤ LS ∧ 0 ≤ pc.toInt ∧ pc.toInt ≤ n_pa ∧ 16 ≤ n_pa ∧ n_pa ≤ 400 ∧ 0 ≤ a1.toInt ∧ a1.toInt ≤ 255 ∧ xn ≠ pa)) (jQx (S := Int32 × Nat × Nat × (Nat → Int32) × jT) (fun v u => jRf G0 0 0 v ∧ u.1.toInt = pc.toInt + 1 ∧ u.1.toInt ≤ u.2.2.1 ∧ n_pa ≤ u.2.2.1 ∧ u.2.2.1 ≤ n_pa + n_pa + 2 ∧ (u.2.2.1 ≤ n_pa ∨ n_pa ≤ pc.toInt) ∧ jSbA fv u.2.2.2.1 pc.toInt a1.toInt ∧ u.2.1 ≠ xn) (fun u t => jRa (dC, dI) B base G0 u.2.2.2.2 EJ4_append_cf468C H0 (u.2.2.1 - n_pa) (2 * (u.2.2.1 - n_pa)) [(r0, 0, 3, .int u.1), (r0, 0, 0, .ref u.2.1)] t.heap ∧ u.2.2.2.2 u.2.1 = some (198, u.2.2.1) ∧ (jNk [0, 1, 2, 3, 4, 5, 6, 7, 8, 9, 10, 11, 12, 13, 14, 15, 16, 17, 175]) G0 u.2.2.2.2 ∧ jOw (dC, dI) G0 0 r0 H0 t.heap ∧ jMc (dC, dI) u.2.2.2.2 t.heap [(u.2.1, 198, u.2.2.1, ca 0, u.2.2.2.1), (xn, 198, nx, ca 0, fx)]) (jA base)) (LC - H0.size) (LS - jTot H0) (jA base) := by
  refine Met.ofW (cc := cJ4_append_cf468) (maxL := 2) (ret := (some (.object "java/lang/StringBuilder"))) (by decide) rfl ?_
  intro p e s m args below meth c s₁ Bd hml hv
  obtain ⟨rfl, hH0, hX, hG, hg_r0, hg_pa, hP0, hM0, hLC0, hLS0, hp0, hp1, hp2, hp3, hp4, hp5, hp6⟩ := hv
  have hK := hG.1
  have hx := Bd.exec
  have hb := Bd.bytes
  have hr := Bd.returns
  have hts := atoms_spec (ws := (jw yJ4_append_cf468 cJ4_append_cf468 2 (some (.object "java/lang/StringBuilder")))) Bd.pre
  have htw : ∀ w ∈ jWl, w.before _ s = true := fun w h => hts w (List.mem_cons_of_mem _ h)
  have hown : s.vm.findClass RJ4 = some m.cls := findClass_of_methodNamed Bd.named
  have hlocks := Bd.notSynchronized
  obtain ⟨Q, hQ⟩ : ∃ Q, Q = MQ below (jQx (S := Int32 × Nat × Nat × (Nat → Int32) × jT) (fun v u => jRf G0 0 0 v ∧ u.1.toInt = pc.toInt + 1 ∧ u.1.toInt ≤ u.2.2.1 ∧ n_pa ≤ u.2.2.1 ∧ u.2.2.1 ≤ n_pa + n_pa + 2 ∧ (u.2.2.1 ≤ n_pa ∨ n_pa ≤ pc.toInt) ∧ jSbA fv u.2.2.2.1 pc.toInt a1.toInt ∧ u.2.1 ≠ xn) (fun u t => jRa (dC, dI) B base G0 u.2.2.2.2 EJ4_append_cf468C H0 (u.2.2.1 - n_pa) (2 * (u.2.2.1 - n_pa)) [(r0, 0, 3, .int u.1), (r0, 0, 0, .ref u.2.1)] t.heap ∧ u.2.2.2.2 u.2.1 = some (198, u.2.2.1) ∧ (jNk [0, 1, 2, 3, 4, 5, 6, 7, 8, 9, 10, 11, 12, 13, 14, 15, 16, 17, 175]) G0 u.2.2.2.2 ∧ jOw (dC, dI) G0 0 r0 H0 t.heap ∧ jMc (dC, dI) u.2.2.2.2 t.heap [(u.2.1, 198, u.2.2.1, ca 0, u.2.2.2.1), (xn, 198, nx, ca 0, fx)]) (jA base)) ([.ref r0, .int a1] : List Value).toArray s (LC - H0.size) (LS - jTot H0) (jA base) := ⟨_, rfl⟩
  rw [← hQ]
  have hl := lv_entry ([.ref r0, .int a1]) (n := 2) (Nat.le_of_ble_eq_true rfl)
  rw [lg_entry_eq]
  generalize (lg_sl ([.ref r0, .int a1]) ++ List.replicate (2 - (lg_sl ([.ref r0, .int a1])).length) Slot.unset).toArray = ls at hl ⊢
  have hl : lv_has ls 2 [(0, .ref r0), (1, .int a1)] := hl
  generalize hR : (headSpec (jw yJ4_append_cf468 cJ4_append_cf468 2 (some (.object "java/lang/StringBuilder"))) ({ frames := 5, cells := LC - H0.size, slots := LS - jTot H0, locals := 123 })).room = R
  subst hH0
  have hh : jSt (dC, dI) B base G0 G0 EJ4_append_cf468C s.heap 0 0 [(r0, 0, 3, .int pc), (r0, 0, 0, .ref pa)] [(pa, 198, n_pa, ca 0, fv), (xn, 198, nx, ca 0, fx)] [] s.heap [] := jSt.start hX hP0 hM0 jIs.nil
  clear hX hP0
  have hk0 : (0 : Int32).toInt = 0 := by decide
  have hk1 : (1 : Int32).toInt = 1 := by decide
  have hrg_a1 := jb_rng a1
  have hbs : base ≤ s.heap.size := Nat.le_of_lt (Nat.lt_of_le_of_lt (hh.ab hg_r0).1 (hh.ab hg_r0).2)
  have hRc : R.cells = LC - s.heap.size := by rw [← hR]; rfl
  have hRs : R.slots = LS - jTot s.heap := by rw [← hR]; rfl
  have hh_1 := hh.addI (jOw.ie (dC := dC) (dI := dI) (G0 := G0) (k := 0) (r := r0) (H0 := s.heap) (F := [(0, 0), (0, 1), (0, 2), (0, 3)]) (C := RJ4) (T := TJ4) (N := 4) rfl (by decide) hh.2.2.2.2.1 (jOw.rf))
  clear hh
  refine lv_aload_n hx hb dJ4_append_cf468_0 rfl (lv_at hl 0 rfl) ?_
  refine lv_iload_n hx hb dJ4_append_cf468_1 rfl (lv_at hl 1 rfl) ?_
  have hsz_2 := hh_1.2.2.2.2.2.1
  have htt_2 := hh_1.2.2.2.2.2.2.1
  refine W.room (fun hrc_2 hrs_2 => ?_)
  refine j_callx (A0 := jA base) (H0 := s.heap) (va_runSU (hK.1 0 _ rfl).2 (As := [.int a1]) (rest := []) ⟨hx, hb, hml, hown, hts⟩ (uJ5_append_3fe6fC l dC dI ca base B hB hAp hB0 hB198 G0 s.heap r0 a1 pc pa n_pa fv xn nx fx LC LS) (va_cwSU 1 hts (jgU (jWr_46 _ (List.mem_of_getElem? (i := 22) rfl)) (jWr_46 _ (List.mem_of_getElem? (i := 23) rfl)) (jWr_45 _ (List.mem_of_getElem? (i := 6) rfl)) (jWr_47 _ (List.mem_of_getElem? (i := 0) rfl)) (jWr_13 _ (List.mem_of_getElem? (i := 7) rfl)) (jWr_47 _ (List.mem_of_getElem? (i := 1) rfl))) rfl rfl rfl (by decide +kernel) ⟨by rw [← hR]; exact Nat.le_of_ble_eq_true rfl, by rw [← hR]; exact Nat.le_of_ble_eq_true rfl⟩) ⟨fun a U g mk q => by obtain ⟨q0, q1, q2, qK, q10, q11, q12, q13, q14⟩ := q; exact ⟨q0, q1, q2, jG.calling g mk a qK, q10, q11, q12, q13, q14⟩, hh_1.recv (C := RJ4) (T := TJ4) (N := 4) hB0 rfl (by decide) hg_r0 hK, fun U hU hW => ⟨rfl, hU, hh_1.2.1, hG.step hW hU hh_1.1, hg_r0, hg_pa, (hh_1.2.2.1.sub (L1 := [(r0, 0, 3, .int pc), (r0, 0, 0, .ref pa)]) [0, 1] rfl), (hh_1.2.2.2.2.2.2.2.1.sub (L1 := [(pa, 198, n_pa, ca 0, fv), (xn, 198, nx, ca 0, fx)]) [0, 1] rfl), by first | omega | (refine ⟨?_, ?_, ?_, ?_, ?_, ?_, ?_⟩ <;> (first | omega | rfl | assumption | decide | exact Or.inl rfl | exact Or.inr rfl | (simp only; omega)))⟩⟩ rfl rfl hl.1 rfl (lv_room (Nat.le_of_ble_eq_true rfl)) dJ4_append_cf468_2 ⟨by rw [hRc]; omega, by rw [hRs]; omega⟩) hh_1.1 (fun q _ h => h) (fun q h => h) (fun r_3 u_2 t_2 H_2 locs_2 ht_2 hvm_2 hr_3 hb_2 hz_2 hk_2 hS_2 => ?_)
  obtain ⟨qc_2, qa_2, m_qa_2, gv_2, G_2⟩ := u_2
  rw [ht_2] at hb_2
  simp only at hb_2
  obtain ⟨⟨hb_21, hb_22, hb_23, hb_24, hb_25, hb_26⟩, hgq_2_0, hN_2, hbO_2, hbM_2⟩ := hb_2
  have hh_2 : jSt (dC, dI) B base G0 G_2 EJ4_append_cf468C s.heap (0 + (m_qa_2 - n_pa)) (0 + (2 * (m_qa_2 - n_pa))) [(r0, 0, 3, .int qc_2), (r0, 0, 0, .ref qa_2)] [] [] H_2 locs_2 := (hh_1.callG hb_21 hb_22 hb_23 hb_24 hb_25 hS_2 rfl (L1 := []) [] rfl rfl (M1 := []) [] rfl rfl (I1 := []) [] rfl rfl).more hb_26
  have hNn_2 : (jNk [0, 1, 2, 3, 4, 5, 6, 7, 8, 9, 10, 11, 12, 13, 14, 15, 16, 17, 175]) G0 G_2 := (jNk.rf).tr hN_2
  have hg_4 := hb_22 _ _ hg_r0
  have hh_5 := hh_2.moreM hbM_2
  have hd_6 := jOw.tr (hh_1.iv 0 rfl) hh_1.2.2.2.2.1 hbO_2
  have hh_7 := hh_5.addI (jOw.ie (dC := dC) (dI := dI) (G0 := G0) (k := 0) (r := r0) (H0 := s.heap) (F := [(0, 0), (0, 1), (0, 2), (0, 3)]) (C := RJ4) (T := TJ4) (N := 4) rfl (by decide) hh_5.2.2.2.2.1 (hd_6))
  clear hh_5
  obtain ⟨hr_3, hr_3p⟩ := hr_3
  try simp only at hr_3p
  obtain ⟨hr_3p_0, hr_3p_1, hr_3p_2, hr_3p_3, hr_3p_4, hr_3p_5, hr_3p_6⟩ := hr_3p
  obtain ⟨ret_8, rfl, hg_ret_8⟩ := hr_3
  have hg_9 := hb_22 _ _ hg_ret_8
  refine lv_pop hx hb dJ4_append_cf468_5 rfl ?_
  refine lv_aload_n hx hb dJ4_append_cf468_6 rfl (lv_at hl 0 rfl) ?_
  have hsz_10 := hh_7.2.2.2.2.2.1
  have htt_10 := hh_7.2.2.2.2.2.2.1
  refine W.room (fun hrc_10 hrs_10 => ?_)
  refine W.widen (k := LC - s.heap.size) (n := LS - jTot s.heap) (by omega) (by omega) ?_
  rw [hQ]
  exact W.aret (v := .ref r0) hx hb hr (Or.inl ⟨_, rfl⟩) (Or.inr ⟨_, rfl⟩) (fun t ht hW => ⟨⟨.ref r0, (qc_2, qa_2, m_qa_2, gv_2, G_2), rfl, ⟨⟨_, rfl, hg_r0⟩, by skip; (try dsimp only); exact ⟨by omega, by omega, by omega, by omega, by omega, hr_3p_5, hr_3p_6⟩⟩, ⟨hh_7.ra (by first | (simp only; omega) | omega) (by first | (simp only; omega) | omega) (M1 := [(r0, 0, 3, .int qc_2), (r0, 0, 0, .ref qa_2)]) [0, 1] rfl ht, hgq_2_0, hNn_2, by rw [ht]; exact hh_7.iv 0 rfl, by rw [ht]; exact hh_7.2.2.2.2.2.2.2.1.sub [0, 1] rfl⟩⟩, by rw [ht]; try exact hh_7.1.1, fun q h9 hq => by rw [ht]; try exact hh_7.1.2.1 q h9 hq⟩) hh_7.1.2.2 dJ4_append_cf468_7
end
