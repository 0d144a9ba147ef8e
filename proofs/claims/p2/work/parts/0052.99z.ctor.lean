section
theorem dX12_init_0 : decode cX12_init 0 = .ok (.aload_n 0, 1) := by decide +kernel
theorem dX12_init_1 : decode cX12_init 1 = .ok (.invokespecial 3, 3) := by decide +kernel
theorem dX12_init_4 : decode cX12_init 4 = .ok (.aload_n 0, 1) := by decide +kernel
theorem dX12_init_5 : decode cX12_init 5 = .ok (.bipush 40, 2) := by decide +kernel
theorem dX12_init_7 : decode cX12_init 7 = .ok (.newarray .int, 2) := by decide +kernel
theorem dX12_init_9 : decode cX12_init 9 = .ok (.putfield 9, 3) := by decide +kernel
theorem dX12_init_12 : decode cX12_init 12 = .ok (.aload_n 0, 1) := by decide +kernel
theorem dX12_init_13 : decode cX12_init 13 = .ok (.sipush 1500, 3) := by decide +kernel
theorem dX12_init_16 : decode cX12_init 16 = .ok (.newarray .int, 2) := by decide +kernel
theorem dX12_init_18 : decode cX12_init 18 = .ok (.putfield 15, 3) := by decide +kernel
theorem dX12_init_21 : decode cX12_init 21 = .ok (.aload_n 0, 1) := by decide +kernel
theorem dX12_init_22 : decode cX12_init 22 = .ok (.bipush 40, 2) := by decide +kernel
theorem dX12_init_24 : decode cX12_init 24 = .ok (.newarray .int, 2) := by decide +kernel
theorem dX12_init_26 : decode cX12_init 26 = .ok (.putfield 18, 3) := by decide +kernel
theorem dX12_init_29 : decode cX12_init 29 = .ok (.aload_n 0, 1) := by decide +kernel
theorem dX12_init_30 : decode cX12_init 30 = .ok (.bipush 40, 2) := by decide +kernel
theorem dX12_init_32 : decode cX12_init 32 = .ok (.newarray .int, 2) := by decide +kernel
theorem dX12_init_34 : decode cX12_init 34 = .ok (.putfield 21, 3) := by decide +kernel
theorem dX12_init_37 : decode cX12_init 37 = .ok (.aload_n 0, 1) := by decide +kernel
theorem dX12_init_38 : decode cX12_init 38 = .ok (.bipush 40, 2) := by decide +kernel
theorem dX12_init_40 : decode cX12_init 40 = .ok (.newarray .int, 2) := by decide +kernel
theorem dX12_init_42 : decode cX12_init 42 = .ok (.putfield 24, 3) := by decide +kernel
theorem dX12_init_45 : decode cX12_init 45 = .ok (.aload_n 0, 1) := by decide +kernel
theorem dX12_init_46 : decode cX12_init 46 = .ok (.bipush 40, 2) := by decide +kernel
theorem dX12_init_48 : decode cX12_init 48 = .ok (.newarray .int, 2) := by decide +kernel
theorem dX12_init_50 : decode cX12_init 50 = .ok (.putfield 27, 3) := by decide +kernel
theorem dX12_init_53 : decode cX12_init 53 = .ok (.return_, 1) := by decide +kernel
end
section
-- how many digits a number has, as they are written one by one
def jNp (a pc n : Int) : Prop := (a < 10 ∧ pc + 1 ≤ n) ∨ (a < 100 ∧ pc + 2 ≤ n) ∨ (a < 1000 ∧ pc + 3 ≤ n) ∨ (a < 10000 ∧ pc + 4 ≤ n) ∨ (a < 100000 ∧ pc + 5 ≤ n) ∨ (a < 1000000 ∧ pc + 6 ≤ n) ∨ (a < 10000000 ∧ pc + 7 ≤ n)
theorem jNdg.lt {a v g p b pc n : Int} (h : jNdg a v g p b) (hv : 0 < v) (hc : b = 1 ∨ 1 ≤ a / v ∨ v = 1) (hn : jNp a pc n) : pc + p < n := by
  have hge := h.ge hv hc
  obtain ⟨h1, h2, h3, d1, d2, d3, d4, d5, d6, d7⟩ := h
  obtain ⟨e1, e2, e3, e4, e5, e6, e7⟩ := h1.g1 hv hge
  have hg := (h1.step hv).2
  unfold jNp at hn
  rcases hn with hn | hn | hn | hn | hn | hn | hn
  · clear d2 d3 d4 d5 d6 d7 e2 e3 e4 e5 e6 e7; omega
  · clear d1 d3 d4 d5 d6 d7 e1 e3 e4 e5 e6 e7; omega
  · clear d1 d2 d4 d5 d6 d7 e1 e2 e4 e5 e6 e7; omega
  · clear d1 d2 d3 d5 d6 d7 e1 e2 e3 e5 e6 e7; omega
  · clear d1 d2 d3 d4 d6 d7 e1 e2 e3 e4 e6 e7; omega
  · clear d1 d2 d3 d4 d5 d7 e1 e2 e3 e4 e5 e7; omega
  · clear d1 d2 d3 d4 d5 d6 e1 e2 e3 e4 e5 e6; omega
end
section
-- a constructor that another one calls for its own object
theorem jKx.self {r : Nat} {G0 G G1 : jT} {H0 H H1 : Heap} (h : jKx r G0 G H0 H) (h1 : jKx r G G1 H H1) : jKx r G0 G1 H0 H1 :=
  ⟨fun q hq hn => (h1.1 q (jLtz hq (h.1 q hq hn)) hn).trans (h.1 q hq hn), fun q t hq hn hg => h.2 q t hq hn (h1.2 q t (jLtz hq (h.1 q hq hn)) hn hg)⟩
end
section
theorem dJ5_init_d00df_0 : decode cJ5_init_d00df 0 = .ok (.aload_n 0, 1) := by decide +kernel
theorem dJ5_init_d00df_1 : decode cJ5_init_d00df 1 = .ok (.invokespecial 3, 3) := by decide +kernel
theorem dJ5_init_d00df_4 : decode cJ5_init_d00df 4 = .ok (.getstatic 18, 3) := by decide +kernel
theorem dJ5_init_d00df_7 : decode cJ5_init_d00df 7 = .ok (.ifCond .eq 18, 3) := by decide +kernel
theorem dJ5_init_d00df_10 : decode cJ5_init_d00df 10 = .ok (.aload_n 0, 1) := by decide +kernel
theorem dJ5_init_d00df_11 : decode cJ5_init_d00df 11 = .ok (.iload_n 1, 1) := by decide +kernel
theorem dJ5_init_d00df_12 : decode cJ5_init_d00df 12 = .ok (.newarray .byte, 2) := by decide +kernel
theorem dJ5_init_d00df_14 : decode cJ5_init_d00df 14 = .ok (.putfield 15, 3) := by decide +kernel
theorem dJ5_init_d00df_17 : decode cJ5_init_d00df 17 = .ok (.aload_n 0, 1) := by decide +kernel
theorem dJ5_init_d00df_18 : decode cJ5_init_d00df 18 = .ok (.iconst 0, 1) := by decide +kernel
theorem dJ5_init_d00df_19 : decode cJ5_init_d00df 19 = .ok (.putfield 22, 3) := by decide +kernel
theorem dJ5_init_d00df_22 : decode cJ5_init_d00df 22 = .ok (.goto 16, 3) := by decide +kernel
theorem dJ5_init_d00df_38 : decode cJ5_init_d00df 38 = .ok (.return_, 1) := by decide +kernel
theorem dJ4_init_da8c8_0 : decode cJ4_init_da8c8 0 = .ok (.aload_n 0, 1) := by decide +kernel
theorem dJ4_init_da8c8_1 : decode cJ4_init_da8c8 1 = .ok (.bipush 16, 2) := by decide +kernel
theorem dJ4_init_da8c8_3 : decode cJ4_init_da8c8 3 = .ok (.invokespecial 1, 3) := by decide +kernel
theorem dJ4_init_da8c8_6 : decode cJ4_init_da8c8 6 = .ok (.return_, 1) := by decide +kernel
end
section
-- what the kernel's walks need: raw arrays of ints, arrays whose last element is null, states, new goals
section J30
variable {p : Program} {l : Launch} {e : Env} {R : Room} {s : State} {m : MethodId} {args : Array Value} {below : List Frame} {meth : Method} {c : Code} {H : Heap} {locs : List Loc} {cells slots : Nat} {Q : State → Prop}
variable {cc : ByteArray} {pc : Nat} {ls : Array Slot} {rest : List Value} {dC : Nat → ClassId} {dI : Nat → Nat → Nat} {ca : Nat → ClassId} {B : jF} {base : Nat} {G0 G : jT} {E : List (Nat × Nat)} {H0 : Heap} {zc zs : Nat} {L : List jPin} {M : List jCt} {I : List jIv} {a a0 k k0 n n0 index : Nat} {tys : List (ClassId × FieldType)} {own C : String} {cA : ClassId}
end J30
/-- a new state -/
theorem jSef.typ {dC : Nat → ClassId} {dI : Nat → Nat → Nat} {G : jT} {r n : Nat} {H : Heap} (h : jSef dC dI G H) (hn : ∀ t, G r ≠ some t) (hr : ∃ x y m : Nat, jf (dC, dI) 11 r 4 (.ref x) H ∧ jf (dC, dI) 11 r 5 (.ref y) H ∧ G x = some (101, m) ∧ G y = some (313, m) ∧ m ≤ 16) : jSef dC dI (va_up G r (some (11, n))) H := fun a ha => by
  have hle : jLe G (va_up G r (some (11, n))) := jLe.typ hn
  by_cases e : a = r
  · subst e
    obtain ⟨x, y, m, g1, g2, g3, g4, g5⟩ := hr
    exact ⟨x, y, m, g1, g2, hle _ _ g3, hle _ _ g4, g5⟩
  · rw [va_up_ne _ _ e] at ha
    obtain ⟨x, y, m, g1, g2, g3, g4, g5⟩ := h a ha
    exact ⟨x, y, m, g1, g2, hle _ _ g3, hle _ _ g4, g5⟩
-- the goals that are made are no null
end
section
-- Bytes that stay small; new Bytes
theorem jYb.typ {dC : Nat → ClassId} {dI : Nat → Nat → Nat} {G : jT} {r n : Nat} {H : Heap} (h : jYb dC dI G H) (hn : ∀ t, G r ≠ some t) (hr : n = 0 → ∃ (c : Int32) (x m : Nat), jf (dC, dI) 2 r 1 (.int c) H ∧ jf (dC, dI) 2 r 0 (.ref x) H ∧ G x = some (196, m) ∧ c.toInt ≤ m ∧ m ≤ 1048576) : jYb dC dI (va_up G r (some (2, n))) H := fun a ha => by
  have hle : jLe G (va_up G r (some (2, n))) := jLe.typ hn
  by_cases e : a = r
  · subst e
    have e1 : some (2, n) = some (2, 0) := jUp_self.symm.trans ha
    have e2 : n = 0 := congrArg Prod.snd (Option.some.inj e1)
    obtain ⟨c, x, m, g1, g2, g3, g4, g5⟩ := hr e2
    exact ⟨c, x, m, g1, g2, hle _ _ g3, g4, g5⟩
  · rw [va_up_ne _ _ e] at ha
    obtain ⟨c, x, m, g1, g2, g3, g4, g5⟩ := h a ha
    exact ⟨c, x, m, g1, g2, hle _ _ g3, g4, g5⟩
/-- a new list -/
theorem jLs.typ {dC : Nat → ClassId} {dI : Nat → Nat → Nat} {ca : Nat → ClassId} {G : jT} {k r : Nat} {H : Heap} (h : jLs dC dI ca G k none H) (hn : ∀ t, G r ≠ some t) (h1 : jf (dC, dI) 1 r 2 (.int 0) H) (h2 : jf (dC, dI) 1 r 1 (.ref (dI 99 0)) H) (hk : k + 1 ≤ 3) : jLs dC dI ca (va_up G r (some (1, k + 1))) (k + 1) none H := by
  have hle : jLe G (va_up G r (some (1, k + 1))) := jLe.typ hn
  have key : ∀ a c, va_up G r (some (1, k + 1)) a = some (1, c) → (a = r ∧ c = k + 1) ∨ (a ≠ r ∧ G a = some (1, c)) := fun a c ha => by
    by_cases e : a = r
    · subst e
      have e1 : some (1, k + 1) = some (1, c) := jUp_self.symm.trans ha
      exact Or.inl ⟨rfl, (congrArg Prod.snd (Option.some.inj e1)).symm⟩
    · rw [va_up_ne _ _ e] at ha
      exact Or.inr ⟨e, ha⟩
  refine ⟨fun a b c ha hb => ?_, fun a c ha => ?_, fun a c ha _ => ?_⟩
  · rcases key a c ha with ⟨rfl, rfl⟩ | ⟨-, ha1⟩
    · rcases key b _ hb with ⟨rfl, -⟩ | ⟨-, hb1⟩
      · rfl
      · have := (h.2.1 b _ hb1).2.1
        omega
    · rcases key b _ hb with ⟨-, rfl⟩ | ⟨-, hb1⟩
      · have := (h.2.1 a _ ha1).2.1
        omega
      · exact h.1 a b c ha1 hb1
  · rcases key a c ha with ⟨-, rfl⟩ | ⟨-, ha1⟩
    · omega
    · have := h.2.1 a c ha1
      omega
  · rcases key a c ha with ⟨rfl, rfl⟩ | ⟨-, ha1⟩
    · refine ⟨0, dI 99 0, h1, h2, ⟨by decide, ?_⟩, Or.inl ⟨rfl, by decide⟩⟩
      show (0 : Int) ≤ jLb (k + 1)
      unfold jLb
      split
      · omega
      · split <;> omega
    · exact (h.2.2 a c ha1 (fun q => by cases q)).up hle
end
section
-- the documents of the class: sentences in order, and what is still to be checked of the open ones
section J41
variable {dC : Nat → ClassId} {dI : Nat → Nat → Nat} {ca : Nat → ClassId} {G G1 : jT} {H H1 : Heap} {x : Option Nat} {ph : Nat}
/-- a new document -/
theorem jDcc.typ {r n yb ye : Nat} {fb fe : Nat → Int32} (h : jDcc dC dI ca G none ph H) (hn : ∀ t, G r ≠ some t) (h4 : jf (dC, dI) 3 r 4 (.int 0) H) (h10 : jf (dC, dI) 3 r 10 (.int 0) H) (h11 : jf (dC, dI) 3 r 11 .null H) (h5 : jf (dC, dI) 3 r 5 (.ref yb) H) (h6 : jf (dC, dI) 3 r 6 (.ref ye) H) (hb : G yb = some (171, 40)) (he : G ye = some (172, 40)) (hM : jMc (dC, dI) G H [(yb, 171, 40, ca 1, fb), (ye, 172, 40, ca 1, fe)])
    (hd : ∀ a m, G a = some (3, m) → ∀ y, (jf (dC, dI) 3 a 5 (.ref y) H → y ≠ yb) ∧ (jf (dC, dI) 3 a 6 (.ref y) H → y ≠ ye)) {ph1 : Nat} (hp : ph ≤ ph1) (hw : n = 0 → ph + 1500 ≤ ph1) : jDcc dC dI ca (va_up G r (some (3, n))) none ph1 H := by
  have hle : jLe G (va_up G r (some (3, n))) := jLe.typ hn
  obtain ⟨Yb, Ye, W, g1, g2, g3, g4, g5⟩ := h
  have key : ∀ a m, va_up G r (some (3, n)) a = some (3, m) → (a = r ∧ m = n) ∨ (a ≠ r ∧ G a = some (3, m)) := fun a m ha => by
    by_cases e : a = r
    · subst e
      have e1 : some (3, n) = some (3, m) := jUp_self.symm.trans ha
      exact Or.inl ⟨rfl, (congrArg Prod.snd (Option.some.inj e1)).symm⟩
    · rw [va_up_ne _ _ e] at ha
      exact Or.inr ⟨e, ha⟩
  refine ⟨fun b => if b = r then yb else Yb b, fun b => if b = r then ye else Ye b, fun b => if b = r then 1500 else W b, fun a m ha => ?_, fun a b m m' ha hb1 e => ?_, fun a b m m' ha hb1 e => ?_, fun a m ha _ => ?_, fun N => ?_⟩
  · rcases key a m ha with ⟨rfl, rfl⟩ | ⟨ne, ha1⟩
    · simp only [if_pos]
      exact ⟨h5, h6, hle _ _ hb, hle _ _ he⟩
    · obtain ⟨q1, q2, q3, q4⟩ := g1 a m ha1
      simp only [if_neg ne]
      exact ⟨q1, q2, hle _ _ q3, hle _ _ q4⟩
  · rcases key a m ha with ⟨rfl, rfl⟩ | ⟨ne, ha1⟩
    · rcases key b m' hb1 with ⟨rfl, -⟩ | ⟨ne', hb2⟩
      · rfl
      · simp only [if_pos, if_neg ne'] at e
        exact absurd e.symm (((hd b m' hb2 (Yb b)).1) (g1 b m' hb2).1)
    · rcases key b m' hb1 with ⟨rfl, -⟩ | ⟨ne', hb2⟩
      · simp only [if_pos, if_neg ne] at e
        exact absurd e (((hd a m ha1 (Yb a)).1) (g1 a m ha1).1)
      · simp only [if_neg ne, if_neg ne'] at e
        exact g2 a b m m' ha1 hb2 e
  · rcases key a m ha with ⟨rfl, rfl⟩ | ⟨ne, ha1⟩
    · rcases key b m' hb1 with ⟨rfl, -⟩ | ⟨ne', hb2⟩
      · rfl
      · simp only [if_pos, if_neg ne'] at e
        exact absurd e.symm (((hd b m' hb2 (Ye b)).2) (g1 b m' hb2).2.1)
    · rcases key b m' hb1 with ⟨rfl, -⟩ | ⟨ne', hb2⟩
      · simp only [if_pos, if_neg ne] at e
        exact absurd e (((hd a m ha1 (Ye a)).2) (g1 a m ha1).2.1)
      · simp only [if_neg ne, if_neg ne'] at e
        exact g3 a b m m' ha1 hb2 e
  · rcases key a m ha with ⟨rfl, rfl⟩ | ⟨ne, ha1⟩
    · simp only [if_pos]
      refine ⟨fb, fe, 0, 0, .null, ⟨fun q hq => ?_, fun q hq => ?_, jSn.zero (by decide), by decide⟩, fun _ => ⟨by decide, Or.inl ⟨rfl, by show (575 : Int) * (0 - 0) + (1500 - jEd fe 0) ≤ 1500; unfold jEd; rw [if_pos (by omega)]; omega⟩⟩⟩
      · simp only [List.mem_cons, List.not_mem_nil, or_false] at hq
        rcases hq with rfl | rfl | rfl
        · exact ⟨⟨_, ha⟩, h4⟩
        · exact ⟨⟨_, ha⟩, h10⟩
        · exact ⟨⟨_, ha⟩, h11⟩
      · obtain ⟨q1, q2⟩ := hM q hq
        exact ⟨hle _ _ q1, q2⟩
    · obtain ⟨fb1, fe1, ps1, pk1, vc1, q, qp⟩ := g4 a m ha1 (fun q => by cases q)
      simp only [if_neg ne]
      exact ⟨fb1, fe1, ps1, pk1, vc1, q.up hle, qp⟩
  · have hr0 : G r ≠ some (3, 0) := hn _
    have c1 : ∀ M, jSmm (va_up G r (some (3, n))) (some r) (fun b => if b = r then 1500 else W b) M = jSmm G (some r) W M := jSmm.cg (fun M => ⟨fun q => ⟨by rw [va_up_ne _ _ (fun z => q.2 (by rw [z]))] at q; exact q.1, q.2⟩, fun q => ⟨by rw [va_up_ne _ _ (fun z => q.2 (by rw [z]))]; exact q.1, q.2⟩⟩) (fun M hM => if_neg (fun z => hM (by rw [z])))
    have c2 := g5 N
    rw [← jSmm.ne hr0 N, ← c1 N] at c2
    by_cases e : n = 0
    · subst e
      have m := jSmm.less (W := fun b => if b = r then 1500 else W b) (a := r) (G := va_up G r (some (3, 0))) jUp_self N
      have m6 := hw rfl
      have m7 : (if r < N then (if r = r then 1500 else W r) else 0) ≤ 1500 := by
        by_cases q : r < N
        · rw [if_pos q, if_pos rfl]; exact Nat.le_refl _
        · rw [if_neg q]; omega
      omega
    · rw [← jSmm.ne (a := r) (G := va_up G r (some (3, n))) (fun q => e (congrArg Prod.snd (Option.some.inj (jUp_self.symm.trans q)))) N]
      exact Nat.le_trans c2 hp
/-- the arrays of the older documents are older -/
theorem jDcc.fresh {G0 : jT} {H0 : Heap} {r yb ye : Nat} (h : jDcc dC dI ca G0 none ph H0) (hab : ∀ a t, G0 a = some t → a < H0.size) (hr : ∀ t, G0 r ≠ some t) (hn : jNk [3] G0 G) (hk : jKx r G0 G H0 H) (hb : H0.size ≤ yb) (he : H0.size ≤ ye) : ∀ a m, G a = some (3, m) → ∀ y, (jf (dC, dI) 3 a 5 (.ref y) H → y ≠ yb) ∧ (jf (dC, dI) 3 a 6 (.ref y) H → y ≠ ye) := fun a m ha y => by
  have h0 := hn a 3 m ha rfl
  obtain ⟨Yb, Ye, W, h1, -⟩ := h
  obtain ⟨q1, q2, q3, q4⟩ := h1 a m h0
  have c : H[a]? = H0[a]? := hk.1 a (hab _ _ h0) (fun e => hr _ (by rw [← e]; exact h0))
  have l1 := hab _ _ q3
  have l2 := hab _ _ q4
  refine ⟨fun g => ?_, fun g => ?_⟩
  · have e := jf.uniq g (q1.kept c)
    cases e
    exact Nat.ne_of_lt (Nat.lt_of_lt_of_le l1 hb)
  · have e := jf.uniq g (q2.kept c)
    cases e
    exact Nat.ne_of_lt (Nat.lt_of_lt_of_le l2 he)
end J41
end
section
-- the start: what the Statement gives, as the contracts ask for it
theorem jZ.of {args : Array Value} {s : State} {base : Nat} (hF : ∀ c ∈ flatC narrow_1, c.before args s = true) (hT : ∀ w ∈ tables_1, w.before args s = true) (hb : base = s.heap.size) : jZ base s s.heap := by
  have hA : ∀ a : Nat, a < s.heap.size → ¬ jA base a := fun a ha h => by
    have h9 : base ≤ a := h
    omega
  obtain ⟨t11, e11, h11⟩ := va_Tof (tm := (.static "ProofServer$Syntax" "CHAIN_SIGNS" "[I")) (ty := .int) (N := 3) (f := fun j => .int (([62, 43, 42] : List Int32).getD j 0)) (A := jA base) (by decide) (hF (.arrayOf (.static "ProofServer$Syntax" "CHAIN_SIGNS" "[I") .int) (List.mem_of_getElem? (i := 12) (by decide +kernel))) (va_eqt (hF (.eq (.length (.static "ProofServer$Syntax" "CHAIN_SIGNS" "[I")) (.int 3)) (List.mem_of_getElem? (i := 13) (by decide +kernel)))) (fun j hj => by
    rcases (by omega : j = 0 ∨ j = 1 ∨ j = 2) with rfl | rfl | rfl
    · exact va_eqt (hF (.eq (.elem (.static "ProofServer$Syntax" "CHAIN_SIGNS" "[I") (.int 0)) (.int 62)) (List.mem_of_getElem? (i := 14) (by decide +kernel)))
    · exact va_eqt (hF (.eq (.elem (.static "ProofServer$Syntax" "CHAIN_SIGNS" "[I") (.int 1)) (.int 43)) (List.mem_of_getElem? (i := 15) (by decide +kernel)))
    · exact va_eqt (hF (.eq (.elem (.static "ProofServer$Syntax" "CHAIN_SIGNS" "[I") (.int 2)) (.int 42)) (List.mem_of_getElem? (i := 16) (by decide +kernel)))) hA
  obtain ⟨t17, e17, h17⟩ := va_Tof (tm := (.static "ProofServer$Syntax" "CHAIN_NODES" "[I")) (ty := .int) (N := 3) (f := fun j => .int (([1, 3, 2] : List Int32).getD j 0)) (A := jA base) (by decide) (hF (.arrayOf (.static "ProofServer$Syntax" "CHAIN_NODES" "[I") .int) (List.mem_of_getElem? (i := 18) (by decide +kernel))) (va_eqt (hF (.eq (.length (.static "ProofServer$Syntax" "CHAIN_NODES" "[I")) (.int 3)) (List.mem_of_getElem? (i := 19) (by decide +kernel)))) (fun j hj => by
    rcases (by omega : j = 0 ∨ j = 1 ∨ j = 2) with rfl | rfl | rfl
    · exact va_eqt (hF (.eq (.elem (.static "ProofServer$Syntax" "CHAIN_NODES" "[I") (.int 0)) (.int 1)) (List.mem_of_getElem? (i := 20) (by decide +kernel)))
    · exact va_eqt (hF (.eq (.elem (.static "ProofServer$Syntax" "CHAIN_NODES" "[I") (.int 1)) (.int 3)) (List.mem_of_getElem? (i := 21) (by decide +kernel)))
    · exact va_eqt (hF (.eq (.elem (.static "ProofServer$Syntax" "CHAIN_NODES" "[I") (.int 2)) (.int 2)) (List.mem_of_getElem? (i := 22) (by decide +kernel)))) hA
  refine ⟨va_Zof (hT (.laysStatic "java/lang/String" "COMPACT_STRINGS" "Z") (List.mem_of_getElem? (i := 174) (by decide +kernel))) (hT (.initialized "java/lang/String") (List.mem_of_getElem? (i := 8) (by decide +kernel))) (va_eqt (hF (.eq (.static "java/lang/String" "COMPACT_STRINGS" "Z") (.int 1)) (List.mem_of_getElem? (i := 2) (by decide +kernel)))) hA, ⟨t11, fun j => ([62, 43, 42] : List Int32).getD j 0, va_Zref (hT (.laysStatic "ProofServer$Syntax" "CHAIN_SIGNS" "[I") (List.mem_of_getElem? (i := 1418) (by decide +kernel))) (hT (.initialized "ProofServer$Syntax") (List.mem_of_getElem? (i := 12) (by decide +kernel))) e11 hA, h11, fun j hj => by rcases (by omega : j = 0 ∨ j = 1 ∨ j = 2) with rfl | rfl | rfl <;> decide⟩, ⟨t17, fun j => ([1, 3, 2] : List Int32).getD j 0, va_Zref (hT (.laysStatic "ProofServer$Syntax" "CHAIN_NODES" "[I") (List.mem_of_getElem? (i := 1436) (by decide +kernel))) (hT (.initialized "ProofServer$Syntax") (List.mem_of_getElem? (i := 12) (by decide +kernel))) e17 hA, h17, fun j hj => by rcases (by omega : j = 0 ∨ j = 1 ∨ j = 2) with rfl | rfl | rfl <;> decide⟩, va_Zqof (hT (.laysStatic "jdk/internal/util/Preconditions" "SIOOBE_FORMATTER" "Ljava/util/function/BiFunction;") (List.mem_of_getElem? (i := 190) (by decide +kernel))) (hT (.initialized "jdk/internal/util/Preconditions") (List.mem_of_getElem? (i := 10) (by decide +kernel))) (hF (.isRef (.static "jdk/internal/util/Preconditions" "SIOOBE_FORMATTER" "Ljava/util/function/BiFunction;")) (List.mem_of_getElem? (i := 3) (by decide +kernel))) hA⟩
end
section
-- how long a message is at least that opens or changes a document
theorem jNde.of {fk fi fz fa fs : Nat → Int32} {pv i k z : Int} (h0 : 0 ≤ i) (h1 : i < pv) (h2 : jSo fk i = k) (h3 : jSo fs i = z) : jNde (fk, fi, fz, fa, fs) pv i k z := ⟨h0, h1, h2, h3⟩
theorem jMh.of {C : jC} {gk gi gz ga gs : Nat → Int32} {qv qu n : Int} (h : jJr C 0 0 (gk, gi, gz, ga, gs) qv qu) (g : jUd (gk, gi, gz, ga, gs) qv qu n) : jMh (gk, gi, gz, ga, gs) qv qu n := ⟨⟨C, h⟩, g⟩
theorem jOr.of {p q : Prop} (h : p ∨ q) : jOr p q := h
end
section
-- the documents of the reference while it is made
section J45
variable {dC : Nat → ClassId} {dI : Nat → Nat → Nat} {ca : Nat → ClassId} {G G1 : jT} {H : Heap}
theorem jDZ.typ {r yb ye : Nat} (h : jDZ dC dI G H) (hn : ∀ t, G r ≠ some t) (h5 : jf (dC, dI) 14 r 5 (.int 0) H) (h9 : jf (dC, dI) 14 r 9 (.int 0) H) (h6 : jf (dC, dI) 14 r 6 (.ref yb) H) (h7 : jf (dC, dI) 14 r 7 (.ref ye) H) (hb : G yb = some (190, 40)) (he : G ye = some (191, 40))
    (hd : ∀ a, G a = some (14, 0) → ∀ y, (jf (dC, dI) 14 a 6 (.ref y) H → y ≠ yb) ∧ (jf (dC, dI) 14 a 7 (.ref y) H → y ≠ ye)) : jDZ dC dI (va_up G r (some (14, 0))) H := by
  have hle : jLe G (va_up G r (some (14, 0))) := jLe.typ hn
  obtain ⟨Yb, Ye, g1, g2, g3, g4⟩ := h
  have key : ∀ a, va_up G r (some (14, 0)) a = some (14, 0) → a = r ∨ (a ≠ r ∧ G a = some (14, 0)) := fun a ha => by
    by_cases e : a = r
    · exact Or.inl e
    · rw [va_up_ne _ _ e] at ha
      exact Or.inr ⟨e, ha⟩
  refine ⟨fun b => if b = r then yb else Yb b, fun b => if b = r then ye else Ye b, fun a ha => ?_, fun a b ha hb1 e => ?_, fun a b ha hb1 e => ?_, fun a ha => ?_⟩
  · rcases key a ha with rfl | ⟨ne, ha1⟩
    · simp only [if_pos]
      exact ⟨h6, h7, hle _ _ hb, hle _ _ he⟩
    · obtain ⟨q1, q2, q3, q4⟩ := g1 a ha1
      simp only [if_neg ne]
      exact ⟨q1, q2, hle _ _ q3, hle _ _ q4⟩
  · rcases key a ha with rfl | ⟨ne, ha1⟩
    · rcases key b hb1 with rfl | ⟨ne', hb2⟩
      · rfl
      · simp only [if_pos, if_neg ne'] at e
        exact absurd e.symm (((hd b hb2 (Yb b)).1) (g1 b hb2).1)
    · rcases key b hb1 with rfl | ⟨ne', hb2⟩
      · simp only [if_pos, if_neg ne] at e
        exact absurd e (((hd a ha1 (Yb a)).1) (g1 a ha1).1)
      · simp only [if_neg ne, if_neg ne'] at e
        exact g2 a b ha1 hb2 e
  · rcases key a ha with rfl | ⟨ne, ha1⟩
    · rcases key b hb1 with rfl | ⟨ne', hb2⟩
      · rfl
      · simp only [if_pos, if_neg ne'] at e
        exact absurd e.symm (((hd b hb2 (Ye b)).2) (g1 b hb2).2.1)
    · rcases key b hb1 with rfl | ⟨ne', hb2⟩
      · simp only [if_pos, if_neg ne] at e
        exact absurd e (((hd a ha1 (Ye a)).2) (g1 a ha1).2.1)
      · simp only [if_neg ne, if_neg ne'] at e
        exact g3 a b ha1 hb2 e
  · rcases key a ha with rfl | ⟨ne, ha1⟩
    · exact ⟨h5, h9⟩
    · exact g4 a ha1
theorem jDZ.fresh {G0 : jT} {H0 : Heap} {r yb ye : Nat} (h : jDZ dC dI G0 H0) (hab : ∀ a t, G0 a = some t → a < H0.size) (hr : ∀ t, G0 r ≠ some t) (hn : jN14 G0 G) (hk : jKx r G0 G H0 H) (hb : H0.size ≤ yb) (he : H0.size ≤ ye) : ∀ a, G a = some (14, 0) → ∀ y, (jf (dC, dI) 14 a 6 (.ref y) H → y ≠ yb) ∧ (jf (dC, dI) 14 a 7 (.ref y) H → y ≠ ye) := fun a ha y => by
  have h0 := hn a ha
  obtain ⟨Yb, Ye, h1, -⟩ := h
  obtain ⟨q1, q2, q3, q4⟩ := h1 a h0
  have c : H[a]? = H0[a]? := hk.1 a (hab _ _ h0) (fun e => hr _ (by rw [← e]; exact h0))
  have l1 := hab _ _ q3
  have l2 := hab _ _ q4
  refine ⟨fun g => ?_, fun g => ?_⟩
  · have e := jf.uniq g (q1.kept c)
    cases e
    exact Nat.ne_of_lt (Nat.lt_of_lt_of_le l1 hb)
  · have e := jf.uniq g (q2.kept c)
    cases e
    exact Nat.ne_of_lt (Nat.lt_of_lt_of_le l2 he)
end J45
end
