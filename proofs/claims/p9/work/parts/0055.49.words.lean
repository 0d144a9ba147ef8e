section
theorem jWr_17 : ∀ w ∈ wsL_law_r17, w ∈ jWl := fun w h => jT17 w (List.mem_append_left _ h)
end
section
theorem dX14_byteComes_0 : decode cX14_byteComes 0 = .ok (.aload_n 0, 1) := by decide +kernel
theorem dX14_byteComes_1 : decode cX14_byteComes 1 = .ok (.getfield 231, 3) := by decide +kernel
theorem dX14_byteComes_4 : decode cX14_byteComes 4 = .ok (.bipush 6, 2) := by decide +kernel
theorem dX14_byteComes_6 : decode cX14_byteComes 6 = .ok (.if_icmp .ge 32, 3) := by decide +kernel
theorem dX14_byteComes_9 : decode cX14_byteComes 9 = .ok (.aload_n 0, 1) := by decide +kernel
theorem dX14_byteComes_10 : decode cX14_byteComes 10 = .ok (.dup, 1) := by decide +kernel
theorem dX14_byteComes_11 : decode cX14_byteComes 11 = .ok (.getfield 258, 3) := by decide +kernel
theorem dX14_byteComes_14 : decode cX14_byteComes 14 = .ok (.iconst 1, 1) := by decide +kernel
theorem dX14_byteComes_15 : decode cX14_byteComes 15 = .ok (.iadd, 1) := by decide +kernel
theorem dX14_byteComes_16 : decode cX14_byteComes 16 = .ok (.putfield 258, 3) := by decide +kernel
theorem dX14_byteComes_19 : decode cX14_byteComes 19 = .ok (.aload_n 0, 1) := by decide +kernel
theorem dX14_byteComes_20 : decode cX14_byteComes 20 = .ok (.iload_n 1, 1) := by decide +kernel
theorem dX14_byteComes_21 : decode cX14_byteComes 21 = .ok (.invokevirtual 261, 3) := by decide +kernel
theorem dX14_byteComes_24 : decode cX14_byteComes 24 = .ok (.ifCond .ne 44, 3) := by decide +kernel
theorem dX14_byteComes_27 : decode cX14_byteComes 27 = .ok (.aload_n 0, 1) := by decide +kernel
theorem dX14_byteComes_28 : decode cX14_byteComes 28 = .ok (.iconst 1, 1) := by decide +kernel
theorem dX14_byteComes_29 : decode cX14_byteComes 29 = .ok (.putfield 202, 3) := by decide +kernel
theorem dX14_byteComes_32 : decode cX14_byteComes 32 = .ok (.aload_n 0, 1) := by decide +kernel
theorem dX14_byteComes_33 : decode cX14_byteComes 33 = .ok (.iconst 0, 1) := by decide +kernel
theorem dX14_byteComes_34 : decode cX14_byteComes 34 = .ok (.putfield 258, 3) := by decide +kernel
theorem dX14_byteComes_37 : decode cX14_byteComes 37 = .ok (.return_, 1) := by decide +kernel
theorem dX14_byteComes_38 : decode cX14_byteComes 38 = .ok (.aload_n 0, 1) := by decide +kernel
theorem dX14_byteComes_39 : decode cX14_byteComes 39 = .ok (.getfield 20, 3) := by decide +kernel
theorem dX14_byteComes_42 : decode cX14_byteComes 42 = .ok (.aload_n 0, 1) := by decide +kernel
theorem dX14_byteComes_43 : decode cX14_byteComes 43 = .ok (.getfield 244, 3) := by decide +kernel
theorem dX14_byteComes_46 : decode cX14_byteComes 46 = .ok (.iload_n 1, 1) := by decide +kernel
theorem dX14_byteComes_47 : decode cX14_byteComes 47 = .ok (.iastore, 1) := by decide +kernel
theorem dX14_byteComes_48 : decode cX14_byteComes 48 = .ok (.aload_n 0, 1) := by decide +kernel
theorem dX14_byteComes_49 : decode cX14_byteComes 49 = .ok (.dup, 1) := by decide +kernel
theorem dX14_byteComes_50 : decode cX14_byteComes 50 = .ok (.getfield 244, 3) := by decide +kernel
theorem dX14_byteComes_53 : decode cX14_byteComes 53 = .ok (.iconst 1, 1) := by decide +kernel
theorem dX14_byteComes_54 : decode cX14_byteComes 54 = .ok (.iadd, 1) := by decide +kernel
theorem dX14_byteComes_55 : decode cX14_byteComes 55 = .ok (.putfield 244, 3) := by decide +kernel
theorem dX14_byteComes_58 : decode cX14_byteComes 58 = .ok (.aload_n 0, 1) := by decide +kernel
theorem dX14_byteComes_59 : decode cX14_byteComes 59 = .ok (.dup, 1) := by decide +kernel
theorem dX14_byteComes_60 : decode cX14_byteComes 60 = .ok (.getfield 258, 3) := by decide +kernel
theorem dX14_byteComes_63 : decode cX14_byteComes 63 = .ok (.iconst 1, 1) := by decide +kernel
theorem dX14_byteComes_64 : decode cX14_byteComes 64 = .ok (.iadd, 1) := by decide +kernel
theorem dX14_byteComes_65 : decode cX14_byteComes 65 = .ok (.putfield 258, 3) := by decide +kernel
theorem dX14_byteComes_68 : decode cX14_byteComes 68 = .ok (.aload_n 0, 1) := by decide +kernel
theorem dX14_byteComes_69 : decode cX14_byteComes 69 = .ok (.getfield 231, 3) := by decide +kernel
theorem dX14_byteComes_72 : decode cX14_byteComes 72 = .ok (.bipush 6, 2) := by decide +kernel
theorem dX14_byteComes_74 : decode cX14_byteComes 74 = .ok (.if_icmp .ne 14, 3) := by decide +kernel
theorem dX14_byteComes_77 : decode cX14_byteComes 77 = .ok (.aload_n 0, 1) := by decide +kernel
theorem dX14_byteComes_78 : decode cX14_byteComes 78 = .ok (.getfield 244, 3) := by decide +kernel
theorem dX14_byteComes_81 : decode cX14_byteComes 81 = .ok (.aload_n 0, 1) := by decide +kernel
theorem dX14_byteComes_82 : decode cX14_byteComes 82 = .ok (.getfield 33, 3) := by decide +kernel
theorem dX14_byteComes_85 : decode cX14_byteComes 85 = .ok (.if_icmp .ge 4, 3) := by decide +kernel
theorem dX14_byteComes_88 : decode cX14_byteComes 88 = .ok (.return_, 1) := by decide +kernel
theorem dX14_byteComes_89 : decode cX14_byteComes 89 = .ok (.aload_n 0, 1) := by decide +kernel
theorem dX14_byteComes_90 : decode cX14_byteComes 90 = .ok (.getfield 33, 3) := by decide +kernel
theorem dX14_byteComes_93 : decode cX14_byteComes 93 = .ok (.istore_n 2, 1) := by decide +kernel
theorem dX14_byteComes_94 : decode cX14_byteComes 94 = .ok (.aload_n 0, 1) := by decide +kernel
theorem dX14_byteComes_95 : decode cX14_byteComes 95 = .ok (.iconst 0, 1) := by decide +kernel
theorem dX14_byteComes_96 : decode cX14_byteComes 96 = .ok (.putfield 231, 3) := by decide +kernel
theorem dX14_byteComes_99 : decode cX14_byteComes 99 = .ok (.aload_n 0, 1) := by decide +kernel
theorem dX14_byteComes_100 : decode cX14_byteComes 100 = .ok (.iconst 0, 1) := by decide +kernel
theorem dX14_byteComes_101 : decode cX14_byteComes 101 = .ok (.putfield 228, 3) := by decide +kernel
theorem dX14_byteComes_104 : decode cX14_byteComes 104 = .ok (.aload_n 0, 1) := by decide +kernel
theorem dX14_byteComes_105 : decode cX14_byteComes 105 = .ok (.iconst 0, 1) := by decide +kernel
theorem dX14_byteComes_106 : decode cX14_byteComes 106 = .ok (.putfield 258, 3) := by decide +kernel
theorem dX14_byteComes_109 : decode cX14_byteComes 109 = .ok (.aload_n 0, 1) := by decide +kernel
theorem dX14_byteComes_110 : decode cX14_byteComes 110 = .ok (.iconst (-1), 1) := by decide +kernel
theorem dX14_byteComes_111 : decode cX14_byteComes 111 = .ok (.putfield 33, 3) := by decide +kernel
theorem dX14_byteComes_114 : decode cX14_byteComes 114 = .ok (.aload_n 0, 1) := by decide +kernel
theorem dX14_byteComes_115 : decode cX14_byteComes 115 = .ok (.dup, 1) := by decide +kernel
theorem dX14_byteComes_116 : decode cX14_byteComes 116 = .ok (.getfield 264, 3) := by decide +kernel
theorem dX14_byteComes_119 : decode cX14_byteComes 119 = .ok (.iconst 1, 1) := by decide +kernel
theorem dX14_byteComes_120 : decode cX14_byteComes 120 = .ok (.iadd, 1) := by decide +kernel
theorem dX14_byteComes_121 : decode cX14_byteComes 121 = .ok (.putfield 264, 3) := by decide +kernel
theorem dX14_byteComes_124 : decode cX14_byteComes 124 = .ok (.aload_n 0, 1) := by decide +kernel
theorem dX14_byteComes_125 : decode cX14_byteComes 125 = .ok (.iload_n 2, 1) := by decide +kernel
theorem dX14_byteComes_126 : decode cX14_byteComes 126 = .ok (.invokevirtual 267, 3) := by decide +kernel
theorem dX14_byteComes_129 : decode cX14_byteComes 129 = .ok (.return_, 1) := by decide +kernel
end
section
theorem dX14_give_0 : decode cX14_give 0 = .ok (.iload_n 1, 1) := by decide +kernel
theorem dX14_give_1 : decode cX14_give 1 = .ok (.ifCond .lt 11, 3) := by decide +kernel
theorem dX14_give_4 : decode cX14_give 4 = .ok (.iload_n 1, 1) := by decide +kernel
theorem dX14_give_5 : decode cX14_give 5 = .ok (.aload_n 0, 1) := by decide +kernel
theorem dX14_give_6 : decode cX14_give 6 = .ok (.getfield 217, 3) := by decide +kernel
theorem dX14_give_9 : decode cX14_give 9 = .ok (.if_icmp .le 5, 3) := by decide +kernel
theorem dX14_give_12 : decode cX14_give 12 = .ok (.iconst (-1), 1) := by decide +kernel
theorem dX14_give_13 : decode cX14_give 13 = .ok (.ireturn, 1) := by decide +kernel
theorem dX14_give_14 : decode cX14_give 14 = .ok (.aload_n 0, 1) := by decide +kernel
theorem dX14_give_15 : decode cX14_give 15 = .ok (.iconst 0, 1) := by decide +kernel
theorem dX14_give_16 : decode cX14_give 16 = .ok (.putfield 217, 3) := by decide +kernel
theorem dX14_give_19 : decode cX14_give 19 = .ok (.iconst 0, 1) := by decide +kernel
theorem dX14_give_20 : decode cX14_give 20 = .ok (.istore_n 2, 1) := by decide +kernel
theorem dX14_give_21 : decode cX14_give 21 = .ok (.iload_n 2, 1) := by decide +kernel
theorem dX14_give_22 : decode cX14_give 22 = .ok (.iload_n 1, 1) := by decide +kernel
theorem dX14_give_23 : decode cX14_give 23 = .ok (.if_icmp .ge 26, 3) := by decide +kernel
theorem dX14_give_26 : decode cX14_give 26 = .ok (.aload_n 0, 1) := by decide +kernel
theorem dX14_give_27 : decode cX14_give 27 = .ok (.getfield 202, 3) := by decide +kernel
theorem dX14_give_30 : decode cX14_give 30 = .ok (.ifCond .ne 19, 3) := by decide +kernel
theorem dX14_give_33 : decode cX14_give 33 = .ok (.aload_n 0, 1) := by decide +kernel
theorem dX14_give_34 : decode cX14_give 34 = .ok (.aload_n 0, 1) := by decide +kernel
theorem dX14_give_35 : decode cX14_give 35 = .ok (.getfield 9, 3) := by decide +kernel
theorem dX14_give_38 : decode cX14_give 38 = .ok (.iload_n 2, 1) := by decide +kernel
theorem dX14_give_39 : decode cX14_give 39 = .ok (.iaload, 1) := by decide +kernel
theorem dX14_give_40 : decode cX14_give 40 = .ok (.invokevirtual 270, 3) := by decide +kernel
theorem dX14_give_43 : decode cX14_give 43 = .ok (.iinc 2 1, 3) := by decide +kernel
theorem dX14_give_46 : decode cX14_give 46 = .ok (.goto (-25), 3) := by decide +kernel
theorem dX14_give_49 : decode cX14_give 49 = .ok (.aload_n 0, 1) := by decide +kernel
theorem dX14_give_50 : decode cX14_give 50 = .ok (.getfield 211, 3) := by decide +kernel
theorem dX14_give_53 : decode cX14_give 53 = .ok (.ireturn, 1) := by decide +kernel
end
section
-- new objects: raw while they are made, typed when they are whole
section J20
variable {p : Program} {l : Launch} {e : Env} {R : Room} {s : State} {m : MethodId} {args : Array Value} {below : List Frame} {meth : Method} {c : Code} {H : Heap} {locs : List Loc} {cells slots : Nat} {Q : State → Prop}
variable {cc : ByteArray} {pc : Nat} {ls : Array Slot} {rest : List Value} {dC : Nat → ClassId} {dI : Nat → Nat → Nat} {ca : Nat → ClassId} {B : jF} {base : Nat} {G0 G : jT} {E : List (Nat × Nat)} {H0 : Heap} {zc zs : Nat} {L : List jPin} {M : List jCt} {I : List jIv} {a k n i index N : Nat} {tys : List (ClassId × FieldType)} {own C : String} {T : u_T} {fs : List Value}
end J20
-- all growing Bytes hold no more than they have room for
theorem jYb.grow {dC : Nat → ClassId} {dI : Nat → Nat → Nat} {G G1 : jT} {H : Heap} {ks : List Nat} (h : jYb dC dI G H) (hle : jLe G G1) (hN : jNk ks G G1) (hk : ks.contains 2 = true) : jYb dC dI G1 H := fun a ha => by
  obtain ⟨c, x, m, g1, g2, g3, g4⟩ := h a (hN a 2 0 ha hk)
  exact ⟨c, x, m, g1, g2, hle _ _ g3, g4⟩
end
section
-- what the kernel's walks need: raw arrays of ints, arrays whose last element is null, states, new goals
section J30
variable {p : Program} {l : Launch} {e : Env} {R : Room} {s : State} {m : MethodId} {args : Array Value} {below : List Frame} {meth : Method} {c : Code} {H : Heap} {locs : List Loc} {cells slots : Nat} {Q : State → Prop}
variable {cc : ByteArray} {pc : Nat} {ls : Array Slot} {rest : List Value} {dC : Nat → ClassId} {dI : Nat → Nat → Nat} {ca : Nat → ClassId} {B : jF} {base : Nat} {G0 G : jT} {E : List (Nat × Nat)} {H0 : Heap} {zc zs : Nat} {L : List jPin} {M : List jCt} {I : List jIv} {a a0 k k0 n n0 index : Nat} {tys : List (ClassId × FieldType)} {own C : String} {cA : ClassId}
end J30
theorem jSef.grow {dC : Nat → ClassId} {dI : Nat → Nat → Nat} {G G1 : jT} {H : Heap} {ks : List Nat} (h : jSef dC dI G H) (hle : jLe G G1) (hN : jNk ks G G1) (hk : ks.contains 11 = true) : jSef dC dI G1 H := fun a ha => by
  obtain ⟨x, y, m, g1, g2, g3, g4, g5⟩ := h a (hN a 11 0 ha hk)
  exact ⟨x, y, m, g1, g2, hle _ _ g3, hle _ _ g4, g5⟩
theorem jFr.grow {dC : Nat → ClassId} {dI : Nat → Nat → Nat} {ca : Nat → ClassId} {G G1 : jT} {a : Nat} {H : Heap} (h : jFr dC dI ca G a H) (hle : jLe G G1) : jFr dC dI ca G1 a H := by
  obtain ⟨c, b, f, g1, g2, g3⟩ := h
  exact ⟨c, b, f, hle _ _ g1, hle _ _ g2, g3⟩
end
section
-- what is known of all lists (o: the one that is open); k: as many there are
section J33
variable {dC : Nat → ClassId} {dI : Nat → Nat → Nat} {ca : Nat → ClassId} {G G1 : jT} {H H1 : Heap} {a c k r x m n : Nat} {o : Option Nat} {ks : List Nat} {w wn : jWl9}
theorem jLs.grow (h : jLs dC dI ca G k o w H) (hle : jLe G G1) (hN : jNk ks G G1) (hk : ks.contains 1 = true) : jLs dC dI ca G1 k o w H :=
  ⟨fun a b c ha hb => h.1 a b c (hN a 1 c ha hk) (hN b 1 c hb hk), fun a c ha => h.2.1 a c (hN a 1 c ha hk), fun a c ha hn => (h.2.2 a c (hN a 1 c ha hk) hn).up hle⟩
end J33
end
section
-- the documents of the class: sentences in order, and what is still to be checked of the open ones
section J41
variable {dC : Nat → ClassId} {dI : Nat → Nat → Nat} {ca : Nat → ClassId} {G G1 : jT} {H H1 : Heap} {x : Option Nat} {ph : Nat}
theorem jDcc.grow {ks : List Nat} (h : jDcc dC dI ca G x ph H) (hle : jLe G G1) (hN : jNk ks G G1) (hk : ks.contains 3 = true) : jDcc dC dI ca G1 x ph H := by
  obtain ⟨Yb, Ye, W, h1, h2, h3, h4, h5⟩ := h
  refine ⟨Yb, Ye, W, fun a n ha => ?_, fun a b n m ha hb => h2 a b n m (hN a 3 n ha hk) (hN b 3 m hb hk), fun a b n m ha hb => h3 a b n m (hN a 3 n ha hk) (hN b 3 m hb hk), fun a n ha hx => ?_, fun N => ?_⟩
  · obtain ⟨g1, g2, g3, g4⟩ := h1 a n (hN a 3 n ha hk)
    exact ⟨g1, g2, hle _ _ g3, hle _ _ g4⟩
  · obtain ⟨fb, fe, ps, pk, vc, g, gp⟩ := h4 a n (hN a 3 n ha hk) hx
    exact ⟨fb, fe, ps, pk, vc, g.up hle, gp⟩
  · rw [jSmm.cg (G := G) (fun M => ⟨fun q => ⟨hN M 3 0 q.1 hk, q.2⟩, fun q => ⟨hle _ _ q.1, q.2⟩⟩) (fun _ _ => rfl) N]
    exact h5 N
end J41
end
section
-- p9: frames: X 0 fine or broken, 1 place, 2 told, 3 kept, 4 signs, 5 the name is like the wanted one, 6 digits, 7 value, 8 filled
section
variable {x a b c d e f g h i u r p q ql qg : Int}
theorem jfW_y (hb : b = 6) (hi : c ≤ i) : jfW (jfV x b c d e f g h i) = (jfV 0 0 (-1) 0 e f g h 0, 1, c) := if_pos ⟨hb, hi⟩
theorem jfBd.set {D : Int → Int} {f k : Nat → Int32} {n m c : Int} (hD : jfBd D f m) (hc : jSo k n % 256 = c % 256) (hr : -128 ≤ jSo k n ∧ jSo k n ≤ 127) (h0 : 0 ≤ c) (h1 : c ≤ 255) (ho : ∀ j : Int, 0 ≤ j → j < m → j ≠ n → jSo k j = jSo f j) : jfBd (jfBu D n c) k m := fun j q0 q1 => by
  unfold jfBu
  by_cases w : j = n
  · rw [if_pos w, w]; unfold jB8; omega
  · have h2 := hD j q0 q1
    unfold jB8 at h2 ⊢
    rw [if_neg w, ho j q0 q1 w]; exact h2
end
section JP3
variable {p : Program} {l : Launch} {e : Env} {R : Room} {s : State} {m : MethodId} {args : Array Value} {below : List Frame} {meth : Method} {c : Code} {H : Heap} {locs : List Loc} {cells slots : Nat} {Q : State → Prop}
variable {cc : ByteArray} {pc : Nat} {ls : Array Slot} {rest : List Value} {dC : Nat → ClassId} {dI : Nat → Nat → Nat} {ca : Nat → ClassId} {B : jF} {base : Nat} {G0 G : jT} {E : List (Nat × Nat)} {H0 : Heap} {zc zs : Nat} {L : List jPin} {M : List jCt} {I : List jIv} {a k n : Nat} {cA : ClassId} {tys : List (ClassId × FieldType)}
end JP3
section JP4
variable {p : Program} {l : Launch} {e : Env} {R : Room} {s : State} {m : MethodId} {args : Array Value} {below : List Frame} {meth : Method} {c : Code} {H : Heap} {locs : List Loc} {cells slots : Nat} {Q : State → Prop}
variable {cc : ByteArray} {pc : Nat} {ls : Array Slot} {rest : List Value} {dC : Nat → ClassId} {dI : Nat → Nat → Nat} {ca : Nat → ClassId} {B : jF} {base : Nat} {G0 G : jT} {E : List (Nat × Nat)} {H0 : Heap} {zc zs : Nat} {L : List jPin} {M : List jCt} {I : List jIv} {a k n : Nat} {cA : ClassId} {tys : List (ClassId × FieldType)}
variable {P : Nat → Int32 → Prop}
end JP4
end
section
-- p9: the texts of all documents, as a walk carries them; System.arraycopy of ints with contents
section J91
variable {dC : Nat → ClassId} {dI : Nat → Nat → Nat} {ca : Nat → ClassId} {G G1 : jT} {H H1 : Heap} {x : Option Nat} {t : jDtl}
theorem jCD.grow {ks : List Nat} (h : jCD dC dI ca G x t H) (hle : jLe G G1) (hN : jNk ks G G1) (hk : ks.contains 3 = true) : jCD dC dI ca G1 x t H := by
  obtain ⟨Yt, Yu, h1, h2, h3⟩ := h
  refine ⟨Yt, Yu, fun a n ha => ?_, fun a b n m ha hb => h2 a b n m (hN a 3 n ha hk) (hN b 3 m hb hk), fun a n ha hx => (h3 a n (hN a 3 n ha hk) hx).up hle⟩
  obtain ⟨g1, g2⟩ := h1 a n (hN a 3 n ha hk)
  exact ⟨g1, hle _ _ g2⟩
end J91
-- the reference's
section J92
variable {dC : Nat → ClassId} {dI : Nat → Nat → Nat} {ca : Nat → ClassId} {G G1 : jT} {H H1 : Heap} {x : Option Nat} {t : jDtr}
theorem jRD.grow (h : jRD dC dI ca G x t H) (hle : jLe G G1) (hN : ∀ a, G1 a = some (14, 0) → G a = some (14, 0)) : jRD dC dI ca G1 x t H := by
  obtain ⟨Yt, Yu, h1, h2, h3, h4⟩ := h
  refine ⟨Yt, Yu, fun a ha => ?_, fun a b ha hb => h2 a b (hN a ha) (hN b hb), fun a b ha hb => h3 a b (hN a ha) (hN b hb), fun a ha hx => ?_⟩
  · obtain ⟨g1, g2, g3, g4⟩ := h1 a (hN a ha)
    exact ⟨g1, g2, hle _ _ g3, hle _ _ g4⟩
  · obtain ⟨g3, g4⟩ := h4 a (hN a ha) hx
    refine ⟨fun q hq => ?_, fun q hq => ?_⟩
    · obtain ⟨⟨n, q1⟩, q2⟩ := g3 q hq
      exact ⟨⟨n, hle _ _ q1⟩, q2⟩
    · obtain ⟨q1, q2⟩ := g4 q hq
      exact ⟨hle _ _ q1, q2⟩
end J92
section J93
variable {p : Program} {l : Launch} {e : Env} {R : Room} {s : State} {m : MethodId} {args : Array Value} {below : List Frame} {meth : Method} {c : Code} {H : Heap} {locs : List Loc} {cells slots : Nat} {Q : State → Prop}
variable {cc : ByteArray} {pc : Nat} {ls : Array Slot} {rest : List Value} {dC : Nat → ClassId} {dI : Nat → Nat → Nat} {ca : Nat → ClassId} {B : jF} {base : Nat} {G0 G : jT} {E : List (Nat × Nat)} {H0 : Heap} {zc zs : Nat} {L : List jPin} {M : List jCt} {I : List jIv} {a a0 k k0 n n0 index : Nat} {tys : List (ClassId × FieldType)} {own : String} {P P0 : Nat → Int32 → Prop} {cA : ClassId}
end J93
-- texts alike, a part of a text exchanged
end
section
-- p9: a document is changed
theorem jdJ.ss {T : Nat → Int → Int} {v c c1 n n1 r : Int} {k k1 : Nat} {f f1 : Nat → Int32} {R : Int × Int × (Int → Int)} (hT : ∀ x, jqK T v x = 3 → 0 ≤ T 3 x) (hn : 0 ≤ n) (h : jdJ T v k c n f R) (hk : k = k1 + 1) (ha : jdA T v n c f f1 r n1) (hr : r ≠ 0) (hc : c1 = jqN T v c) : jdJ T v k1 c1 n1 f1 R := by
  have h9 := jdJ.s hT hn h (by omega) ha hr (ha.nx hr hc)
  rw [show k - 1 = k1 by omega] at h9
  exact h9
end
section
-- p9: the state of a server as both sides tell it; what a byte does, what many do
theorem jdFd.brk {b : Int → Int} {s : jdSt} {k : Nat} (h : (jdFd b s k).1 0 = 1) : ∀ m, jdFd b s (k + m) = jdFd b s k
  | 0 => rfl
  | m + 1 => by
    have e := jdFd.brk h m
    show jdStep (jdFd b s (k + m)) (b ((k + m : Nat) : Int)) = _
    rw [e]
    exact if_pos h
theorem jdFd.br {b : Int → Int} {s : jdSt} {k n : Nat} (h : (jdFd b s k).1 0 = 1) (hn : k ≤ n) : jdFd b s n = jdFd b s k := by
  have e := jdFd.brk h (n - k)
  rw [show k + (n - k) = n by omega] at e
  exact e
section
variable {s : jdSt} {u r br qn qb pl to ke sg il dg sv fi a1 a2 a3 a4 a5 a6 a7 a8 : Int}
end
section JP9
variable {dC : Nat → ClassId} {dI : Nat → Nat → Nat} {ca : Nat → ClassId} {B : jF} {base : Nat} {G0 G : jT} {E : List (Nat × Nat)} {H0 H : Heap} {zc zs : Nat} {L : List jPin} {M : List jCt} {I : List jIv} {locs : List Loc} {a k n : Nat}
theorem jAtcg {cA : ClassId} {f g : Nat → Int32} (h : va_at (dC, dI) vwCl (a, .inl (cA, n, .inl f)) H) (hfg : ∀ j, j < n → f j = g j) : va_at (dC, dI) vwCl (a, .inl (cA, n, .inl g)) H := by
  have e1 : H[a]? = some (vp_cell cA (n, .inl f)) := h
  show H[a]? = some (vp_cell cA (n, .inl g))
  rw [e1, vp_cell_i, vp_cell_i]
  congr 1
  exact arrV_cg (fun j hj => by rw [hfg j hj])
theorem jSt.cgM {cA : ClassId} {f g : Nat → Int32} (hh : jSt (dC, dI) B base G0 G E H0 zc zs L ((a, k, n, cA, f) :: M) I H locs) (hfg : ∀ j, j < n → f j = g j) : jSt (dC, dI) B base G0 G E H0 zc zs L ((a, k, n, cA, g) :: M) I H locs := by
  obtain ⟨h1, h2, h3, h4, h5, h6, h7, h8, h9⟩ := hh
  refine ⟨h1, h2, h3, h4, h5, h6, h7, fun q hq => ?_, h9⟩
  rcases List.mem_cons.mp hq with e | e
  · subst e
    obtain ⟨g1, g2, g3, g4⟩ := h8 _ List.mem_cons_self
    refine ⟨g1, g2, g3, ?_⟩
    have g4 : va_at (dC, dI) vwCl (a, .inl (cA, n, .inl f)) H := g4
    show va_at (dC, dI) vwCl (a, .inl (cA, n, .inl g)) H
    exact jAtcg g4 hfg
  · exact h8 q (List.mem_cons_of_mem _ e)
end JP9
theorem jfQ.mm {Y : Nat → Int} {m m1 a1 a2 a3 a4 a5 a6 a7 a8 : Int} (h : jfQ Y m a1 a2 a3 a4 a5 a6 a7 a8) (e : m1 = m) : jfQ Y m1 a1 a2 a3 a4 a5 a6 a7 a8 := by
  subst e
  exact h
theorem jdStep.yy {s : jdSt} {u r br qn qb pl to ke sg il dg sv fi a1 a2 a3 a4 a5 a6 a7 a8 m p z : Int} {D : Int → Int} {S S0 : Int × (Int → jdD)} (hX : jfQ s.1 br pl to ke sg il dg sv fi) (hb : br = 0) (hA : jfA (jfV 0 pl to ke sg il dg sv fi) u r qn qb a1 a2 a3 a4 a5 a6 a7 a8) (hr : r = 1) (hq : qb = 0) (hD : D = jdBy s u) (hp : s.2.2.1 = z) (hS : s.2.2.2 = S0) (hM : jdMs D qn z S0 = (m, p, S)) (hm : m = 0 ∨ m = 1) : jfQ (jdStep s u).1 m a1 a2 a3 a4 a5 a6 a7 a8 ∧ (jdStep s u).2.1 = jdBy s u ∧ (jdStep s u).2.2.1 = p ∧ (jdStep s u).2.2.2 = S := by
  subst hD hp hS
  exact jdStep.y hX hb hA hr hq hM hm
end
section
-- p9: a byte as the reference takes it
theorem jRS.grow {dC : Nat → ClassId} {dI : Nat → Nat → Nat} {ca : Nat → ClassId} {G G1 : jT} {H : Heap} {r : Nat} {S : Int × (Int → jdD)} (h : jRS dC dI ca G r S H) (hle : jLe G G1) (hN : ∀ a, G1 a = some (14, 0) → G a = some (14, 0)) : jRS dC dI ca G1 r S H := by
  obtain ⟨t, fd, dc, dd, ⟨n, h1⟩, h2, h3, h4, h5, h6, h7⟩ := h
  exact ⟨t, fd, dc, dd, ⟨n, hle _ _ h1⟩, h2, hle _ _ h3, h4, h5, jRD.grow h6 hle hN, h7⟩
section
variable {X : Nat → Int} {s : jdSt} {c r bk pk m h l b cn cv qm qh ql qb qn qv e p z z1 n : Int} {fn fv gn gv fk gk : Nat → Int32} {S S1 : Int × (Int → jdD)} {D : Int → Int}
theorem jfRe.y6 (q : jfRe X m h l b fn cn fv cv) (hm : m = 6) : X 1 = 6 ∧ X 2 = l ∧ b = X 8 := by
  obtain ⟨q2, q⟩ := q
  rcases q with ⟨a, -, c⟩ | ⟨-, -, e⟩
  · exact ⟨a, q2, c⟩
  · exfalso
    rcases e with e | e | e | e | e | e
    · have := e.2; omega
    · have := e.2.1; omega
    · have := e.2.1; omega
    · have := e.2.1; omega
    · have := e.2; omega
    · have := e.2; omega
theorem jdStep.a1 {Y : Nat → Int} {w : Int} (h0 : s.1 0 = 0) (ha : jfAc s.1 c = (Y, 1, w)) (hM : jdMs (jdBy s c) w s.2.2.1 s.2.2.2 = (e, p, S)) : jdStep s c = (if e = 1 then jfB else Y, jdBy s c, p, S) := by
  unfold jdStep
  rw [ha, if_neg (by rw [h0]; decide), if_pos (by show (1 : Int) = 1; rfl), hM]
theorem jfAc.h1 (h1 : X 1 ≠ 6) (h3 : X 3 < 200) (hd : jfHd X c 0 = 1) : jfAc X c = jfW (jfNx X c) := by
  unfold jfAc jfNx
  rw [if_neg h1, if_neg (by omega)]
theorem jfAc.b6 (h1 : X 1 = 6) : jfAc X c = jfW (jfV 0 6 (X 2) (X 3 + 1) (X 4) (X 5) (X 6) (X 7) (X 8 + 1)) := by
  unfold jfAc
  rw [if_pos h1]
theorem jfBy.bu (h : jfBy D) {i : Int} (h0 : 0 ≤ c) (h1 : c ≤ 255) : jfBy (jfBu D i c) := fun j => by
  unfold jfBu
  split
  · exact ⟨h0, h1⟩
  · exact h j
/-- a header's byte behind which no message is whole -/
theorem jrQ.hh (hq : jrQ s pk m h l b fn cn fv cv fk z S) (hk : pk = 0) (hm : m ≠ 6) (hH : jfHq s.1 c r qm qh ql qb gn qn gv qv) (hr : r = 1) (hb : bk = 0) (hw : qm ≠ 6 ∨ qb < ql) : jrQ (jdStep s c) bk qm qh ql qb gn qn gv qv fk z (jdStep s c).2.2.2 ∧ (jdStep s c).2.2.2 = S := by
  obtain ⟨q1, q2, q3, q4, q5⟩ := hq
  obtain ⟨-, h0, hR⟩ := q1.resolve_left (fun w => by have := w.1; omega)
  have n6 := hR.n6 hm
  obtain ⟨-, a3, ad, aR⟩ := hH.resolve_left (fun w => by have := w.1; omega)
  have eb : jdBy s c = s.2.1 := if_neg n6
  have ew : jfW (jfNx s.1 c) = (jfNx s.1 c, 0, 0) := if_neg (fun w => by
    have w1 : jfNx s.1 c 1 = 6 := w.1
    have w2 : jfNx s.1 c 2 ≤ jfNx s.1 c 8 := w.2
    by_cases q : qm = 6
    · obtain ⟨-, g2, g3⟩ := aR.y6 q
      omega
    · exact aR.n6 q w1)
  have e1 := jdStep.a0 h0 ((jfAc.h1 n6 a3 ad).trans ew)
  rw [eb] at e1
  rw [e1]
  exact ⟨⟨Or.inr ⟨hb, rfl, aR⟩, q2, q3, q4, rfl⟩, q5⟩
theorem jrQ.fin {Y : Nat → Int} {M : Int × Int × Int × (Int → jdD)} {w : Int} (h0 : s.1 0 = 0) (ha : jfAc s.1 c = (Y, 1, w)) (hY : Y 0 = 0 ∧ Y 1 = 0 ∧ Y 2 = -1 ∧ Y 3 = 0 ∧ Y 8 = 0) (hM : jdMs (jdBy s c) w s.2.2.1 s.2.2.2 = M) (hD : jfBy (jdBy s c)) (hf : gk = jfCu (jdBy s c)) (hb : (bk = 1 ∧ M.1 = 1) ∨ (bk = 0 ∧ M.1 = 0)) (hz : z1 = M.2.1) (e1 : qm = 0) (e2 : qh = 0) (e3 : ql = -1) : (∀ b1 f1 n1 f2 v1, jrQ (jdStep s c) bk qm qh ql b1 f1 n1 f2 v1 gk z1 (jdStep s c).2.2.2) ∧ (jdStep s c).2.2.2 = M.2.2 := by
  obtain ⟨e, p, S⟩ := M
  have hb : (bk = 1 ∧ e = 1) ∨ (bk = 0 ∧ e = 0) := hb
  have hz : z1 = p := hz
  have es := jdStep.a1 h0 ha hM
  rw [es]
  refine ⟨fun b1 f1 n1 f2 v1 => ⟨?_, hD, hf, hz.symm, rfl⟩, rfl⟩
  rcases hb with ⟨g1, g2⟩ | ⟨g1, g2⟩
  · refine Or.inl ⟨g1, ?_⟩
    show (if e = 1 then jfB else Y) 0 = 1
    rw [if_pos g2]
    rfl
  · refine Or.inr ⟨g1, ?_, ?_⟩
    · show (if e = 1 then jfB else Y) 0 = 0
      rw [if_neg (by omega)]
      exact hY.1
    · show jfRe (if e = 1 then jfB else Y) qm qh ql b1 f1 n1 f2 v1
      rw [if_neg (by omega)]
      exact ⟨by omega, Or.inr ⟨by omega, by omega, Or.inl ⟨by omega, e1⟩⟩⟩
/-- a header's last byte: a message of no bytes -/
theorem jrQ.mm (hq : jrQ s pk m h l b fn cn fv cv fk z S) (hk : pk = 0) (hm : m ≠ 6) (hH : jfHq s.1 c r qm qh ql qb gn qn gv qv) (hr : r = 1) (hw : qm = 6) (hl : ql ≤ qb) (hn : n = ql) (hb : (bk = 1 ∧ (jdMs s.2.1 n z S).1 = 1) ∨ (bk = 0 ∧ (jdMs s.2.1 n z S).1 = 0)) (hz : z1 = (jdMs s.2.1 n z S).2.1) {m1 h2 l1 : Int} (e1 : m1 = 0) (e2 : h2 = 0) (e3 : l1 = -1) : (∀ b1 f1 n1 f2 v1, jrQ (jdStep s c) bk m1 h2 l1 b1 f1 n1 f2 v1 fk z1 (jdStep s c).2.2.2) ∧ (jdStep s c).2.2.2 = (jdMs s.2.1 n z S).2.2 := by
  obtain ⟨q1, q2, q3, q4, q5⟩ := hq
  obtain ⟨-, h0, hR⟩ := q1.resolve_left (fun w => by have := w.1; omega)
  have n6 := hR.n6 hm
  obtain ⟨-, a3, ad, aR⟩ := hH.resolve_left (fun w => by have := w.1; omega)
  have eb : jdBy s c = s.2.1 := if_neg n6
  obtain ⟨g1, g2, g3⟩ := aR.y6 hw
  have ew : jfW (jfNx s.1 c) = (jfV 0 0 (-1) 0 (jfNx s.1 c 4) (jfNx s.1 c 5) (jfNx s.1 c 6) (jfNx s.1 c 7) 0, 1, jfNx s.1 c 2) := if_pos ⟨g1, by omega⟩
  exact jrQ.fin h0 ((jfAc.h1 n6 a3 ad).trans ew) ⟨rfl, rfl, rfl, rfl, rfl⟩ (by rw [eb, g2, ← hn, q4, q5]) (by rw [eb]; exact q2) (by rw [eb]; exact q3) hb hz e1 e2 e3
/-- a byte of the body -/
theorem jrQ.bn (hq : jrQ s pk m h l b fn cn fv cv fk z S) (hk : pk = 0) (hm : m = 6) (h0 : 0 ≤ c) (h1 : c ≤ 255) (hf : gk = jfCu (jfBu s.2.1 b c)) (hb : bk = 0) (hw : b + 1 < l) (e1 : qm = 6) (e3 : ql = l) (e4 : qb = b + 1) : (∀ h1 f1 n1 f2 v1, jrQ (jdStep s c) bk qm h1 ql qb f1 n1 f2 v1 gk z (jdStep s c).2.2.2) ∧ (jdStep s c).2.2.2 = S := by
  obtain ⟨q1, q2, q3, q4, q5⟩ := hq
  obtain ⟨-, g0, hR⟩ := q1.resolve_left (fun w => by have := w.1; omega)
  obtain ⟨g1, g2, g3⟩ := hR.y6 hm
  have eb : jdBy s c = jfBu s.2.1 b c := by rw [g3]; exact if_pos g1
  have e9 := jdStep.a0 (c := c) g0 ((jfAc.b6 g1).trans (jfW_n (Or.inr (by omega))))
  rw [eb] at e9
  rw [e9]
  refine ⟨fun h1' f1 n1 f2 v1 => ⟨Or.inr ⟨hb, rfl, ?_⟩, q2.bu h0 h1, hf, q4, rfl⟩, q5⟩
  exact ⟨g2.trans e3.symm, Or.inl ⟨rfl, e1, by show qb = s.1 8 + 1; omega⟩⟩
/-- the last one -/
theorem jrQ.bm (hq : jrQ s pk m h l b fn cn fv cv fk z S) (hk : pk = 0) (hm : m = 6) (h0 : 0 ≤ c) (h1 : c ≤ 255) (hf : gk = jfCu (jfBu s.2.1 b c)) (hw : l ≤ b + 1) (hn : n = l) (hb : (bk = 1 ∧ (jdMs (jfBu s.2.1 b c) n z S).1 = 1) ∨ (bk = 0 ∧ (jdMs (jfBu s.2.1 b c) n z S).1 = 0)) (hz : z1 = (jdMs (jfBu s.2.1 b c) n z S).2.1) {m1 h2 l1 : Int} (e1 : m1 = 0) (e2 : h2 = 0) (e3 : l1 = -1) : (∀ b1 f1 n1 f2 v1, jrQ (jdStep s c) bk m1 h2 l1 b1 f1 n1 f2 v1 gk z1 (jdStep s c).2.2.2) ∧ (jdStep s c).2.2.2 = (jdMs (jfBu s.2.1 b c) n z S).2.2 := by
  obtain ⟨q1, q2, q3, q4, q5⟩ := hq
  obtain ⟨-, g0, hR⟩ := q1.resolve_left (fun w => by have := w.1; omega)
  obtain ⟨g1, g2, g3⟩ := hR.y6 hm
  have eb : jdBy s c = jfBu s.2.1 b c := by rw [g3]; exact if_pos g1
  exact jrQ.fin g0 ((jfAc.b6 g1).trans (jfW_y rfl (by omega))) ⟨rfl, rfl, rfl, rfl, rfl⟩ (by rw [eb, g2, ← hn, q4, q5]) (by rw [eb]; exact q2.bu h0 h1) (by rw [eb]; exact hf) hb hz e1 e2 e3
end
/-- the kept bytes, in their plain form -/
theorem jfCu.set {D : Int → Int} {f k : Nat → Int32} {i c : Int} {N : Nat} (hf : f = jfCu D) (hv : jSo k i = c) (ho : ∀ j, j < N → j ≠ i.toNat → k j = f j) (h0 : 0 ≤ i) (hi : i < 3000) : ∀ j, j < N → k j = jfCu (jfBu D i c) j := fun j hj => by
  by_cases w : j = i.toNat
  · have e : k j = Int32.ofInt c := by
      rw [← hv, w]
      exact (Int32.ofInt_toInt _).symm
    rw [e]
    show Int32.ofInt c = if j < 3000 then Int32.ofInt (if (j : Int) = i then c else D j) else 0
    rw [if_pos (by omega), if_pos (by omega)]
  · rw [ho j hj w, hf]
    show (if j < 3000 then Int32.ofInt (D j) else 0) = if j < 3000 then Int32.ofInt (if (j : Int) = i then c else D j) else 0
    rw [if_neg (show ¬ (j : Int) = i by omega)]
theorem jrQ.br {s : jdSt} {bk m h l b cn cv z : Int} {fn fv fk : Nat → Int32} {S : Int × (Int → jdD)} (hq : jrQ s bk m h l b fn cn fv cv fk z S) (hk : bk = 1) : s.1 0 = 1 := (hq.1.resolve_right (fun w => by have w1 := w.1; omega)).2
theorem jrQ.ss {s : jdSt} {bk m h l b cn cv z : Int} {fn fv fk : Nat → Int32} {S : Int × (Int → jdD)} (hq : jrQ s bk m h l b fn cn fv cv fk z S) : jrQ s bk m h l b fn cn fv cv fk z s.2.2.2 := ⟨hq.1, hq.2.1, hq.2.2.1, hq.2.2.2.1, rfl⟩
end
section
-- p9: what unit answers
section
variable {t : jDtl} {w : jWl9} {tr : jDtr} {fd : Nat → Option Nat} {c d i : Int} {a : Nat}
theorem jdOd.yy (h0 : 0 ≤ d) (h1 : d < c) : jdOd c d = d := if_pos ⟨h0, h1⟩
theorem jdOd.rf (h : (Value.ref a) = jdRf w (jdOd w.1 d)) : 0 ≤ d ∧ d < w.1 ∧ w.2 d.toNat = some a := by
  by_cases q : 0 ≤ d ∧ d < w.1
  · rw [jdOd.yy q.1 q.2] at h
    unfold jdRf at h
    rw [if_neg (by omega)] at h
    exact ⟨q.1, q.2, jdAt h⟩
  · rw [jdOd.no (by omega)] at h
    unfold jdRf at h
    rw [if_pos (by decide)] at h
    cases h
end
end
section
-- the documents of the reference while it is made
section J45
variable {dC : Nat → ClassId} {dI : Nat → Nat → Nat} {ca : Nat → ClassId} {G G1 : jT} {H : Heap}
theorem jDZa.grow (h : jDZa dC dI G H) (hle : jLe G G1) (hn : jN14 G G1) : jDZa dC dI G1 H := by
  obtain ⟨Yb, Ye, h1, h2, h3, h4⟩ := h
  refine ⟨Yb, Ye, fun a ha => ?_, fun a b ha hb => h2 a b (hn a ha) (hn b hb), fun a b ha hb => h3 a b (hn a ha) (hn b hb), fun a ha => h4 a (hn a ha)⟩
  obtain ⟨g1, g2, g3, g4⟩ := h1 a (hn a ha)
  exact ⟨g1, g2, hle _ _ g3, hle _ _ g4⟩
theorem jRZ.grow (h : jRZ dC dI G H) (hle : jLe G G1) (hn : jN14 G G1) : jRZ dC dI G1 H := by
  obtain ⟨Yb, Ye, h1, h2, h3, h4⟩ := h
  refine ⟨Yb, Ye, fun a ha => ?_, fun a b ha hb => h2 a b (hn a ha) (hn b hb), fun a b ha hb => h3 a b (hn a ha) (hn b hb), fun a ha => h4 a (hn a ha)⟩
  obtain ⟨g1, g2, g3, g4⟩ := h1 a (hn a ha)
  exact ⟨g1, g2, hle _ _ g3, hle _ _ g4⟩
theorem jDZ.grow (h : jDZ dC dI G H) (hle : jLe G G1) (hn : jN14 G G1) : jDZ dC dI G1 H := ⟨h.1.grow hle hn, h.2.grow hle hn⟩
end J45
end
section
def EX14_byteComesR : List (Nat × Nat) := [(0, 0), (0, 2), (0, 3), (14, 1), (14, 2), (14, 4), (14, 5), (14, 9), (15, 5), (15, 7), (15, 10), (15, 11), (15, 15), (15, 18), (15, 19), (15, 20), (15, 21), (15, 30), (15, 31), (15, 32), (15, 33), (15, 34), (15, 36), (15, 38), (15, 39), (15, 40), (15, 41), (15, 42), (15, 46), (15, 49), (16, 3), (16, 4), (16, 6), (16, 7), (16, 8), (16, 10), (16, 11), (16, 12), (16, 15), (16, 16), (16, 26), (16, 28), (16, 29), (16, 30), (16, 31), (16, 32), (16, 33), (16, 34), (16, 35), (16, 36), (16, 37), (16, 39), (16, 40), (16, 42), (16, 44), (16, 48), (101, 0), (103, 0), (110, 0), (112, 0), (117, 0), (118, 0), (119, 0), (120, 0), (121, 0), (122, 0), (123, 0), (124, 0), (125, 0), (127, 0), (150, 0), (151, 0), (152, 0), (153, 0), (154, 0), (155, 0), (156, 0), (157, 0), (158, 0), (159, 0), (160, 0), (161, 0), (162, 0), (163, 0), (164, 0), (165, 0), (166, 0), (167, 0), (168, 0), (169, 0), (190, 0), (191, 0), (192, 0), (194, 0), (195, 0), (198, 0), (201, 0), (202, 0), (203, 0), (204, 0), (206, 0), (208, 0)]
set_option maxHeartbeats 4000000 in
set_option maxRecDepth 20000 in
theorem uX14_byteComesR (l : Launch) (dC : Nat → ClassId) (dI : Nat → Nat → Nat) (ca : Nat → ClassId) (base : Nat) (B : jF) (hB : jBok B) (hAp : jAp (dC, dI)) (hB0 : ∀ n G a H, B 0 n G a H ↔ jOb (dC, dI) 0 4 (Fz0 n G) a H) (hB14 : ∀ n G a H, B 14 n G a H ↔ jOb (dC, dI) 14 11 (F14 n G) a H) (hB15 : ∀ n G a H, B 15 n G a H ↔ jOb (dC, dI) 15 50 (F15 n G) a H) (hB16 : ∀ n G a H, B 16 n G a H ↔ jOb (dC, dI) 16 74 (F16 n G) a H) (hB101 : ∀ n G a H, B 101 n G a H ↔ jAr (dC, dI) (ca 1) (fun j z => True) n a H) (hB103 : ∀ n G a H, B 103 n G a H ↔ jAr (dC, dI) (ca 3) (fun j z => (z = 0 ∨ z = 1)) n a H) (hB110 : ∀ n G a H, B 110 n G a H ↔ jAr (dC, dI) (ca 1) (fun j z => 0 ≤ z.toInt ∧ z.toInt ≤ 255) n a H) (hB112 : ∀ n G a H, B 112 n G a H ↔ jAr (dC, dI) (ca 1) (fun j z => True) n a H) (hB117 : ∀ n G a H, B 117 n G a H ↔ jAr (dC, dI) (ca 1) (fun j z => True) n a H) (hB118 : ∀ n G a H, B 118 n G a H ↔ jAr (dC, dI) (ca 1) (fun j z => -1 ≤ z.toInt ∧ z.toInt ≤ 3099) n a H) (hB119 : ∀ n G a H, B 119 n G a H ↔ jAr (dC, dI) (ca 1) (fun j z => z.toInt = -1 ∨ z.toInt = 0 ∨ ((j : Nat) < z.toInt ∧ z.toInt ≤ 3099)) n a H) (hB120 : ∀ n G a H, B 120 n G a H ↔ jAr (dC, dI) (ca 1) (fun j z => 0 ≤ z.toInt ∧ z.toInt ≤ 3300) n a H) (hB121 : ∀ n G a H, B 121 n G a H ↔ jAr (dC, dI) (ca 1) (fun j z => 0 ≤ z.toInt ∧ z.toInt ≤ 3300) n a H) (hB122 : ∀ n G a H, B 122 n G a H ↔ jAr (dC, dI) (ca 1) (fun j z => 0 ≤ z.toInt ∧ z.toInt ≤ 3100) n a H) (hB123 : ∀ n G a H, B 123 n G a H ↔ jAr (dC, dI) (ca 1) (fun j z => 0 ≤ z.toInt ∧ z.toInt ≤ 3100) n a H) (hB124 : ∀ n G a H, B 124 n G a H ↔ jAr (dC, dI) (ca 3) (fun j z => (z = 0 ∨ z = 1)) n a H) (hB125 : ∀ n G a H, B 125 n G a H ↔ jAr (dC, dI) (ca 1) (fun j z => True) n a H) (hB127 : ∀ n G a H, B 127 n G a H ↔ jAr (dC, dI) (ca 1) (fun j z => True) n a H) (hB150 : ∀ n G a H, B 150 n G a H ↔ jAr (dC, dI) (ca 1) (fun j z => True) n a H) (hB151 : ∀ n G a H, B 151 n G a H ↔ jAr (dC, dI) (ca 1) (fun j z => True) n a H) (hB152 : ∀ n G a H, B 152 n G a H ↔ jAr (dC, dI) (ca 1) (fun j z => True) n a H) (hB153 : ∀ n G a H, B 153 n G a H ↔ jAr (dC, dI) (ca 1) (fun j z => True) n a H) (hB154 : ∀ n G a H, B 154 n G a H ↔ jAr (dC, dI) (ca 1) (fun j z => True) n a H) (hB155 : ∀ n G a H, B 155 n G a H ↔ jAr (dC, dI) (ca 1) (fun j z => 0 ≤ z.toInt ∧ z.toInt ≤ 11990) n a H) (hB156 : ∀ n G a H, B 156 n G a H ↔ jAr (dC, dI) (ca 1) (fun j z => 0 ≤ z.toInt ∧ z.toInt ≤ 10) n a H) (hB157 : ∀ n G a H, B 157 n G a H ↔ jAr (dC, dI) (ca 1) (fun j z => 0 ≤ z.toInt ∧ z.toInt ≤ 1599) n a H) (hB158 : ∀ n G a H, B 158 n G a H ↔ jAr (dC, dI) (ca 1) (fun j z => 0 ≤ z.toInt ∧ z.toInt ≤ 6) n a H) (hB159 : ∀ n G a H, B 159 n G a H ↔ jAr (dC, dI) (ca 1) (fun j z => 0 ≤ z.toInt ∧ z.toInt ≤ 8) n a H) (hB160 : ∀ n G a H, B 160 n G a H ↔ jAr (dC, dI) (ca 1) (fun j z => 0 ≤ z.toInt ∧ z.toInt ≤ 119999) n a H) (hB161 : ∀ n G a H, B 161 n G a H ↔ jAr (dC, dI) (ca 1) (fun j z => 0 ≤ z.toInt ∧ z.toInt ≤ 119999) n a H) (hB162 : ∀ n G a H, B 162 n G a H ↔ jAr (dC, dI) (ca 1) (fun j z => 0 ≤ z.toInt ∧ z.toInt ≤ 119999) n a H) (hB163 : ∀ n G a H, B 163 n G a H ↔ jAr (dC, dI) (ca 1) (fun j z => 0 ≤ z.toInt ∧ z.toInt ≤ 1599) n a H) (hB164 : ∀ n G a H, B 164 n G a H ↔ jAr (dC, dI) (ca 1) (fun j z => 0 ≤ z.toInt ∧ z.toInt ≤ 100000) n a H) (hB165 : ∀ n G a H, B 165 n G a H ↔ jAr (dC, dI) (ca 1) (fun j z => 0 ≤ z.toInt ∧ z.toInt ≤ 3) n a H) (hB166 : ∀ n G a H, B 166 n G a H ↔ jAr (dC, dI) (ca 1) (fun j z => True) n a H) (hB167 : ∀ n G a H, B 167 n G a H ↔ jAr (dC, dI) (ca 1) (fun j z => True) n a H) (hB168 : ∀ n G a H, B 168 n G a H ↔ jAr (dC, dI) (ca 1) (fun j z => 0 ≤ z.toInt ∧ z.toInt ≤ 119999) n a H) (hB169 : ∀ n G a H, B 169 n G a H ↔ jAr (dC, dI) (ca 1) (fun j z => True) n a H) (hB190 : ∀ n G a H, B 190 n G a H ↔ jAr (dC, dI) (ca 1) (fun j z => 0 ≤ z.toInt ∧ z.toInt ≤ 1500) n a H) (hB191 : ∀ n G a H, B 191 n G a H ↔ jAr (dC, dI) (ca 1) (fun j z => 0 ≤ z.toInt ∧ z.toInt ≤ 1500) n a H) (hB192 : ∀ n G a H, B 192 n G a H ↔ jAr (dC, dI) (ca 1) (fun j z => 0 ≤ z.toInt ∧ z.toInt ≤ 2) n a H) (hB193 : ∀ n G a H, B 193 n G a H ↔ jAr (dC, dI) (ca 1) (fun j z => True) n a H) (hB194 : ∀ n G a H, B 194 n G a H ↔ jAr (dC, dI) (ca 1) (fun j z => True) n a H) (hB195 : ∀ n G a H, B 195 n G a H ↔ jAr (dC, dI) (ca 1) (fun j z => True) n a H) (hB198 : ∀ n G a H, B 198 n G a H ↔ jAr (dC, dI) (ca 0) (fun j z => jBf j z) n a H) (hB201 : ∀ n G a H, B 201 n G a H ↔ jAq (dC, dI) (ca 4) (jQs 14 0) n G a H) (hB202 : ∀ n G a H, B 202 n G a H ↔ jAq (dC, dI) (ca 4) (jQn 14 0) n G a H) (hB203 : ∀ n G a H, B 203 n G a H ↔ jAr (dC, dI) (ca 1) (fun j z => -3300 ≤ z.toInt ∧ z.toInt ≤ 20) n a H) (hB204 : ∀ n G a H, B 204 n G a H ↔ jAr (dC, dI) (ca 1) (fun j z => -3100 ≤ z.toInt ∧ z.toInt ≤ 3100) n a H) (hB206 : ∀ n G a H, B 206 n G a H ↔ jAr (dC, dI) (ca 1) (fun j z => 0 ≤ z.toInt ∧ z.toInt ≤ 40) n a H) (hB207 : ∀ n G a H, B 207 n G a H ↔ jAr (dC, dI) (ca 1) (fun j z => 0 ≤ z.toInt ∧ z.toInt ≤ 39) n a H) (hB208 : ∀ n G a H, B 208 n G a H ↔ jAq (dC, dI) (ca 4) (jQn 14 0) n G a H) (G0 : jT) (H0 : Heap) (r0 : Nat) (a1 : Int32) (bn : Nat) (bv : Nat) (cn : Int32) (an : Nat) (n_an : Nat) (cv : Int32) (av : Nat) (n_av : Nat) (ph : Int32) (pm : Int32) (pl : Int32) (pb : Int32) (kp_ : Nat) (pk : Int32) (pi : Int32) (ps : Int32) (dd : Nat) (dc : Int32) (co : Nat) (cs : Nat) (ol : Nat) (nw : Nat) (td : Nat) (s9 : jdSt) (sn ck : Nat → Int32) (fd fo : Nat → Option Nat) (S9 S8 : Int × (Int → jdD)) (fn : Nat → Int32) (fv : Nat → Int32) (fk : Nat → Int32) (fs : Nat → Int32) (LC LS : Nat) : Met l yX14_byteComes (jw yX14_byteComes cX14_byteComes 3 none) ({ frames := 1709, cells := LC - H0.size, slots := LS - jTot H0, locals := 72032 }) (va_Pc [.ref r0, .int a1] (fun U => U.heap = H0 ∧ jX B base G0 [] H0 ∧ jG dC dI ca base U ∧ jK2 dC dI ca U ∧ G0 r0 = some (16, 0) ∧ G0 bn = some (0, 0) ∧ G0 bv = some (0, 0) ∧ G0 an = some (198, n_an) ∧ G0 av = some (198, n_av) ∧ G0 kp_ = some (110, 3300) ∧ G0 dd = some (201, 3) ∧ G0 co = some (208, 2) ∧ G0 cs = some (207, 2) ∧ G0 ol = some (14, 0) ∧ G0 nw = some (14, 0) ∧ G0 td = some (14, 0) ∧ jP (dC, dI) G0 H0 [(r0, 16, 13, .ref bn), (r0, 16, 14, .ref bv), (bn, 0, 3, .int cn), (bn, 0, 0, .ref an), (bv, 0, 3, .int cv), (bv, 0, 0, .ref av), (r0, 16, 12, .int ph), (r0, 16, 11, .int pm), (r0, 16, 15, .int pl), (r0, 16, 16, .int pb), (r0, 16, 9, .ref kp_), (r0, 16, 7, .int pk), (r0, 16, 34, .int pi), (r0, 16, 35, .int ps), (r0, 16, 41, .ref dd), (r0, 16, 42, .int dc), (r0, 16, 60, .ref co), (r0, 16, 61, .ref cs), (r0, 16, 46, .ref ol), (r0, 16, 47, .ref nw), (r0, 16, 71, .ref td)] ∧ jMc (dC, dI) G0 H0 [(an, 198, n_an, ca 0, fn), (av, 198, n_av, ca 0, fv), (kp_, 110, 3300, ca 1, fk), (cs, 207, 2, ca 1, fs)] ∧ jIs (dC, dI) G0 H0 [(jFs, jDY dC dI ca G0 none sn), (jF9, jVl dC dI G0 9 ck), ([(201, 0)], jQc dC dI (ca 4) dd 3 fd), ([(208, 0)], jQc dC dI (ca 4) co 2 fo), (jFra, jRS dC dI ca G0 r0 S9)] ∧ H0.size + (1610 - n_an - n_av) ≤ LC ∧ jTot H0 + 2 * (1610 - n_an - n_av) ≤ LS ∧ jPu sn ck fd fo fs dc.toInt ol nw td ∧ bn ≠ bv ∧ 0 ≤ ph.toInt ∧ ph.toInt ≤ 200 ∧ 0 ≤ cn.toInt ∧ (pm.toInt = 0 ∨ cn.toInt ≤ ph.toInt) ∧ cn.toInt ≤ n_an ∧ 16 ≤ n_an ∧ n_an ≤ 400 ∧ 0 ≤ cv.toInt ∧ (pm.toInt = 0 ∨ cv.toInt ≤ ph.toInt) ∧ cv.toInt ≤ n_av ∧ 16 ≤ n_av ∧ n_av ≤ 400 ∧ -1 ≤ pl.toInt ∧ pl.toInt ≤ 3000 ∧ (pm.toInt ≠ 5 ∨ 0 ≤ pl.toInt) ∧ 0 ≤ a1.toInt ∧ a1.toInt ≤ 255 ∧ 0 ≤ pm.toInt ∧ pm.toInt ≤ 6 ∧ (pm.toInt ≠ 6 ∨ (0 ≤ pb.toInt ∧ pb.toInt < pl.toInt)) ∧ an ≠ av ∧ pk.toInt = 0 ∧ 0 ≤ ps.toInt ∧ ps.toInt ≤ pi.toInt ∧ pi.toInt ≤ 1 ∧ jrQ s9 pk.toInt pm.toInt ph.toInt pl.toInt pb.toInt fn cn.toInt fv cv.toInt fk (pi.toInt + ps.toInt) S9 ∧ S8 = (jdStep s9 a1.toInt).2.2.2)) (va_Qv (S := Int32 × Int32 × Int32 × Int32 × Int32 × Int32 × Int32 × Int32 × Int32 × Nat × Nat × Nat × Nat × (Nat → Int32) × (Nat → Int32) × (Nat → Int32) × jT) (fun u => 0 ≤ u.2.2.2.2.1.toInt ∧ (u.2.1.toInt = 0 ∨ u.2.2.2.2.1.toInt ≤ u.1.toInt) ∧ u.2.2.2.2.1.toInt ≤ u.2.2.2.2.2.2.2.2.2.2.1 ∧ n_an ≤ u.2.2.2.2.2.2.2.2.2.2.1 ∧ u.2.2.2.2.2.2.2.2.2.2.1 ≤ 400 ∧ 0 ≤ u.2.2.2.2.2.1.toInt ∧ (u.2.1.toInt = 0 ∨ u.2.2.2.2.2.1.toInt ≤ u.1.toInt) ∧ u.2.2.2.2.2.1.toInt ≤ u.2.2.2.2.2.2.2.2.2.2.2.2.1 ∧ n_av ≤ u.2.2.2.2.2.2.2.2.2.2.2.2.1 ∧ u.2.2.2.2.2.2.2.2.2.2.2.2.1 ≤ 400 ∧ -1 ≤ u.2.2.1.toInt ∧ u.2.2.1.toInt ≤ 3000 ∧ (u.2.2.2.2.2.2.1.toInt = 1 ∨ (0 ≤ u.1.toInt ∧ u.1.toInt ≤ 200 ∧ 0 ≤ u.2.1.toInt ∧ u.2.1.toInt ≤ 6 ∧ (u.2.1.toInt ≠ 5 ∨ 0 ≤ u.2.2.1.toInt) ∧ (u.2.1.toInt ≠ 6 ∨ (0 ≤ u.2.2.2.1.toInt ∧ u.2.2.2.1.toInt < u.2.2.1.toInt)))) ∧ u.2.2.2.2.2.2.2.2.2.1 ≠ u.2.2.2.2.2.2.2.2.2.2.2.1 ∧ 0 ≤ u.2.2.2.2.2.2.2.2.1.toInt ∧ u.2.2.2.2.2.2.2.2.1.toInt ≤ u.2.2.2.2.2.2.2.1.toInt ∧ u.2.2.2.2.2.2.2.1.toInt ≤ 1 ∧ jrQ (jdStep s9 a1.toInt) u.2.2.2.2.2.2.1.toInt u.2.1.toInt u.1.toInt u.2.2.1.toInt u.2.2.2.1.toInt u.2.2.2.2.2.2.2.2.2.2.2.2.2.2.1 u.2.2.2.2.1.toInt u.2.2.2.2.2.2.2.2.2.2.2.2.2.2.2.1 u.2.2.2.2.2.1.toInt u.2.2.2.2.2.2.2.2.2.2.2.2.2.1 (u.2.2.2.2.2.2.2.1.toInt + u.2.2.2.2.2.2.2.2.1.toInt) S8) (fun u t => jRa (dC, dI) B base G0 u.2.2.2.2.2.2.2.2.2.2.2.2.2.2.2.2 EX14_byteComesR H0 ((u.2.2.2.2.2.2.2.2.2.2.1 - n_an) + (u.2.2.2.2.2.2.2.2.2.2.2.2.1 - n_av)) (2 * (u.2.2.2.2.2.2.2.2.2.2.1 - n_an) + 2 * (u.2.2.2.2.2.2.2.2.2.2.2.2.1 - n_av)) [(r0, 16, 12, .int u.1), (r0, 16, 11, .int u.2.1), (r0, 16, 15, .int u.2.2.1), (r0, 16, 16, .int u.2.2.2.1), (bn, 0, 3, .int u.2.2.2.2.1), (bv, 0, 3, .int u.2.2.2.2.2.1), (r0, 16, 7, .int u.2.2.2.2.2.2.1), (r0, 16, 34, .int u.2.2.2.2.2.2.2.1), (r0, 16, 35, .int u.2.2.2.2.2.2.2.2.1), (bn, 0, 0, .ref u.2.2.2.2.2.2.2.2.2.1), (bv, 0, 0, .ref u.2.2.2.2.2.2.2.2.2.2.2.1)] t.heap ∧ u.2.2.2.2.2.2.2.2.2.2.2.2.2.2.2.2 u.2.2.2.2.2.2.2.2.2.1 = some (198, u.2.2.2.2.2.2.2.2.2.2.1) ∧ u.2.2.2.2.2.2.2.2.2.2.2.2.2.2.2.2 u.2.2.2.2.2.2.2.2.2.2.2.1 = some (198, u.2.2.2.2.2.2.2.2.2.2.2.2.1) ∧ (jNk [0, 1, 2, 3, 4, 5, 6, 7, 8, 9, 10, 11, 12, 13, 14, 15, 16]) G0 u.2.2.2.2.2.2.2.2.2.2.2.2.2.2.2.2 ∧ jIs (dC, dI) u.2.2.2.2.2.2.2.2.2.2.2.2.2.2.2.2 t.heap [(jFra, jRS dC dI ca u.2.2.2.2.2.2.2.2.2.2.2.2.2.2.2.2 r0 S8)] ∧ jDV dC dI ca u.2.2.2.2.2.2.2.2.2.2.2.2.2.2.2.2 r0 dd co cs ol nw td t.heap ∧ jMc (dC, dI) u.2.2.2.2.2.2.2.2.2.2.2.2.2.2.2.2 t.heap [(kp_, 110, 3300, ca 1, u.2.2.2.2.2.2.2.2.2.2.2.2.2.1), (u.2.2.2.2.2.2.2.2.2.1, 198, u.2.2.2.2.2.2.2.2.2.2.1, ca 0, u.2.2.2.2.2.2.2.2.2.2.2.2.2.2.1), (u.2.2.2.2.2.2.2.2.2.2.2.1, 198, u.2.2.2.2.2.2.2.2.2.2.2.2.1, ca 0, u.2.2.2.2.2.2.2.2.2.2.2.2.2.2.2.1)]) (jA base)) (LC - H0.size) (LS - jTot H0) (jA base) := by
  refine Met.ofW (cc := cX14_byteComes) (maxL := 3) (ret := none) (by decide) rfl ?_
  intro p e s m args below meth c s₁ Bd hml hv
  obtain ⟨rfl, hH0, hX, hG, hK2, hg_r0, hg_bn, hg_bv, hg_an, hg_av, hg_kp_, hg_dd, hg_co, hg_cs, hg_ol, hg_nw, hg_td, hP0, hM0, hI0, hLC0, hLS0, hp0, hp1, hp2, hp3, hp4, hp5, hp6, hp7, hp8, hp9, hp10, hp11, hp12, hp13, hp14, hp15, hp16, hp17, hp18, hp19, hp20, hp21, hp22, hp23, hp24, hp25, hp26, hp27, hp28⟩ := hv
  have hK := hG.1
  have hx := Bd.exec
  have hb := Bd.bytes
  have hr := Bd.returns
  have hts := atoms_spec (ws := (jw yX14_byteComes cX14_byteComes 3 none)) Bd.pre
  have htw : ∀ w ∈ jWl, w.before _ s = true := fun w h => hts w (List.mem_cons_of_mem _ h)
  have hown : s.vm.findClass RX14 = some m.cls := findClass_of_methodNamed Bd.named
  have hlocks := Bd.notSynchronized
  obtain ⟨Q, hQ⟩ : ∃ Q, Q = MQ below (va_Qv (S := Int32 × Int32 × Int32 × Int32 × Int32 × Int32 × Int32 × Int32 × Int32 × Nat × Nat × Nat × Nat × (Nat → Int32) × (Nat → Int32) × (Nat → Int32) × jT) (fun u => 0 ≤ u.2.2.2.2.1.toInt ∧ (u.2.1.toInt = 0 ∨ u.2.2.2.2.1.toInt ≤ u.1.toInt) ∧ u.2.2.2.2.1.toInt ≤ u.2.2.2.2.2.2.2.2.2.2.1 ∧ n_an ≤ u.2.2.2.2.2.2.2.2.2.2.1 ∧ u.2.2.2.2.2.2.2.2.2.2.1 ≤ 400 ∧ 0 ≤ u.2.2.2.2.2.1.toInt ∧ (u.2.1.toInt = 0 ∨ u.2.2.2.2.2.1.toInt ≤ u.1.toInt) ∧ u.2.2.2.2.2.1.toInt ≤ u.2.2.2.2.2.2.2.2.2.2.2.2.1 ∧ n_av ≤ u.2.2.2.2.2.2.2.2.2.2.2.2.1 ∧ u.2.2.2.2.2.2.2.2.2.2.2.2.1 ≤ 400 ∧ -1 ≤ u.2.2.1.toInt ∧ u.2.2.1.toInt ≤ 3000 ∧ (u.2.2.2.2.2.2.1.toInt = 1 ∨ (0 ≤ u.1.toInt ∧ u.1.toInt ≤ 200 ∧ 0 ≤ u.2.1.toInt ∧ u.2.1.toInt ≤ 6 ∧ (u.2.1.toInt ≠ 5 ∨ 0 ≤ u.2.2.1.toInt) ∧ (u.2.1.toInt ≠ 6 ∨ (0 ≤ u.2.2.2.1.toInt ∧ u.2.2.2.1.toInt < u.2.2.1.toInt)))) ∧ u.2.2.2.2.2.2.2.2.2.1 ≠ u.2.2.2.2.2.2.2.2.2.2.2.1 ∧ 0 ≤ u.2.2.2.2.2.2.2.2.1.toInt ∧ u.2.2.2.2.2.2.2.2.1.toInt ≤ u.2.2.2.2.2.2.2.1.toInt ∧ u.2.2.2.2.2.2.2.1.toInt ≤ 1 ∧ jrQ (jdStep s9 a1.toInt) u.2.2.2.2.2.2.1.toInt u.2.1.toInt u.1.toInt u.2.2.1.toInt u.2.2.2.1.toInt u.2.2.2.2.2.2.2.2.2.2.2.2.2.2.1 u.2.2.2.2.1.toInt u.2.2.2.2.2.2.2.2.2.2.2.2.2.2.2.1 u.2.2.2.2.2.1.toInt u.2.2.2.2.2.2.2.2.2.2.2.2.2.1 (u.2.2.2.2.2.2.2.1.toInt + u.2.2.2.2.2.2.2.2.1.toInt) S8) (fun u t => jRa (dC, dI) B base G0 u.2.2.2.2.2.2.2.2.2.2.2.2.2.2.2.2 EX14_byteComesR H0 ((u.2.2.2.2.2.2.2.2.2.2.1 - n_an) + (u.2.2.2.2.2.2.2.2.2.2.2.2.1 - n_av)) (2 * (u.2.2.2.2.2.2.2.2.2.2.1 - n_an) + 2 * (u.2.2.2.2.2.2.2.2.2.2.2.2.1 - n_av)) [(r0, 16, 12, .int u.1), (r0, 16, 11, .int u.2.1), (r0, 16, 15, .int u.2.2.1), (r0, 16, 16, .int u.2.2.2.1), (bn, 0, 3, .int u.2.2.2.2.1), (bv, 0, 3, .int u.2.2.2.2.2.1), (r0, 16, 7, .int u.2.2.2.2.2.2.1), (r0, 16, 34, .int u.2.2.2.2.2.2.2.1), (r0, 16, 35, .int u.2.2.2.2.2.2.2.2.1), (bn, 0, 0, .ref u.2.2.2.2.2.2.2.2.2.1), (bv, 0, 0, .ref u.2.2.2.2.2.2.2.2.2.2.2.1)] t.heap ∧ u.2.2.2.2.2.2.2.2.2.2.2.2.2.2.2.2 u.2.2.2.2.2.2.2.2.2.1 = some (198, u.2.2.2.2.2.2.2.2.2.2.1) ∧ u.2.2.2.2.2.2.2.2.2.2.2.2.2.2.2.2 u.2.2.2.2.2.2.2.2.2.2.2.1 = some (198, u.2.2.2.2.2.2.2.2.2.2.2.2.1) ∧ (jNk [0, 1, 2, 3, 4, 5, 6, 7, 8, 9, 10, 11, 12, 13, 14, 15, 16]) G0 u.2.2.2.2.2.2.2.2.2.2.2.2.2.2.2.2 ∧ jIs (dC, dI) u.2.2.2.2.2.2.2.2.2.2.2.2.2.2.2.2 t.heap [(jFra, jRS dC dI ca u.2.2.2.2.2.2.2.2.2.2.2.2.2.2.2.2 r0 S8)] ∧ jDV dC dI ca u.2.2.2.2.2.2.2.2.2.2.2.2.2.2.2.2 r0 dd co cs ol nw td t.heap ∧ jMc (dC, dI) u.2.2.2.2.2.2.2.2.2.2.2.2.2.2.2.2 t.heap [(kp_, 110, 3300, ca 1, u.2.2.2.2.2.2.2.2.2.2.2.2.2.1), (u.2.2.2.2.2.2.2.2.2.1, 198, u.2.2.2.2.2.2.2.2.2.2.1, ca 0, u.2.2.2.2.2.2.2.2.2.2.2.2.2.2.1), (u.2.2.2.2.2.2.2.2.2.2.2.1, 198, u.2.2.2.2.2.2.2.2.2.2.2.2.1, ca 0, u.2.2.2.2.2.2.2.2.2.2.2.2.2.2.2.1)]) (jA base)) ([.ref r0, .int a1] : List Value).toArray s (LC - H0.size) (LS - jTot H0) (jA base) := ⟨_, rfl⟩
  rw [← hQ]
  have hl := lv_entry ([.ref r0, .int a1]) (n := 3) (Nat.le_of_ble_eq_true rfl)
  rw [lg_entry_eq]
  generalize (lg_sl ([.ref r0, .int a1]) ++ List.replicate (3 - (lg_sl ([.ref r0, .int a1])).length) Slot.unset).toArray = ls at hl ⊢
  have hl : lv_has ls 3 [(0, .ref r0), (1, .int a1)] := hl
  generalize hR : (headSpec (jw yX14_byteComes cX14_byteComes 3 none) ({ frames := 1709, cells := LC - H0.size, slots := LS - jTot H0, locals := 72032 })).room = R
  subst hH0
  have hh : jSt (dC, dI) B base G0 G0 EX14_byteComesR s.heap 0 0 [(r0, 16, 13, .ref bn), (r0, 16, 14, .ref bv), (bn, 0, 3, .int cn), (bn, 0, 0, .ref an), (bv, 0, 3, .int cv), (bv, 0, 0, .ref av), (r0, 16, 12, .int ph), (r0, 16, 11, .int pm), (r0, 16, 15, .int pl), (r0, 16, 16, .int pb), (r0, 16, 9, .ref kp_), (r0, 16, 7, .int pk), (r0, 16, 34, .int pi), (r0, 16, 35, .int ps), (r0, 16, 41, .ref dd), (r0, 16, 42, .int dc), (r0, 16, 60, .ref co), (r0, 16, 61, .ref cs), (r0, 16, 46, .ref ol), (r0, 16, 47, .ref nw), (r0, 16, 71, .ref td)] [(an, 198, n_an, ca 0, fn), (av, 198, n_av, ca 0, fv), (kp_, 110, 3300, ca 1, fk), (cs, 207, 2, ca 1, fs)] [(jFs, jDY dC dI ca G0 none sn), (jF9, jVl dC dI G0 9 ck), ([(201, 0)], jQc dC dI (ca 4) dd 3 fd), ([(208, 0)], jQc dC dI (ca 4) co 2 fo), (jFra, jRS dC dI ca G0 r0 S9)] s.heap [] := jSt.start hX hP0 hM0 hI0
  clear hX hP0
  have hkm1 : ((-1) : Int32).toInt = (-1) := by decide
  have hk0 : (0 : Int32).toInt = 0 := by decide
  have hk1 : (1 : Int32).toInt = 1 := by decide
  have hk6 : (6 : Int32).toInt = 6 := by decide
  have hly_16_7 := htw (u_lay RX14 TX14 7) (jWc_wsX140 _ (u_in_lay (by decide)))
  have hly_16_8 := htw (u_lay RX14 TX14 8) (jWc_wsX140 _ (u_in_lay (by decide)))
  have hly_16_9 := htw (u_lay RX14 TX14 9) (jWc_wsX140 _ (u_in_lay (by decide)))
  have hly_16_10 := htw (u_lay RX14 TX14 10) (jWc_wsX140 _ (u_in_lay (by decide)))
  have hly_16_11 := htw (u_lay RX14 TX14 11) (jWc_wsX140 _ (u_in_lay (by decide)))
  have hly_16_12 := htw (u_lay RX14 TX14 12) (jWc_wsX140 _ (u_in_lay (by decide)))
  have hly_16_15 := htw (u_lay RX14 TX14 15) (jWc_wsX140 _ (u_in_lay (by decide)))
  have hly_16_16 := htw (u_lay RX14 TX14 16) (jWc_wsX140 _ (u_in_lay (by decide)))
  have hlk_231 := (htw (.fieldLink RX14 231 "ProofServerModel" "mode" "I") (jWr_44 _ (List.mem_of_getElem? (i := 15) rfl)))
  have hlk_258 := (htw (.fieldLink RX14 258 "ProofServerModel" "keptBytes" "I") (jWr_44 _ (List.mem_of_getElem? (i := 16) rfl)))
  have hlk_202 := (htw (.fieldLink RX14 202 "ProofServerModel" "broken" "Z") (jWr_44 _ (List.mem_of_getElem? (i := 9) rfl)))
  have hlk_20 := (htw (.fieldLink RX14 20 "ProofServerModel" "kept" "[I") (jWr_10 _ (List.mem_of_getElem? (i := 21) rfl)))
  have hlk_244 := (htw (.fieldLink RX14 244 "ProofServerModel" "bodyFrom" "I") (jWr_44 _ (List.mem_of_getElem? (i := 17) rfl)))
  have hlk_33 := (htw (.fieldLink RX14 33 "ProofServerModel" "length" "I") (jWr_11 _ (List.mem_of_getElem? (i := 3) rfl)))
  have hlk_228 := (htw (.fieldLink RX14 228 "ProofServerModel" "headerBytes" "I") (jWr_44 _ (List.mem_of_getElem? (i := 18) rfl)))
  have hlk_264 := (htw (.fieldLink RX14 264 "ProofServerModel" "messages" "I") (jWr_44 _ (List.mem_of_getElem? (i := 19) rfl)))
  have hrg_a1 := jb_rng a1
  have hbs : base ≤ s.heap.size := Nat.le_of_lt (Nat.lt_of_le_of_lt (hh.ab hg_r0).1 (hh.ab hg_r0).2)
  have hRc : R.cells = LC - s.heap.size := by rw [← hR]; rfl
  have hRs : R.slots = LS - jTot s.heap := by rw [← hR]; rfl
  have hpQ := hp27
  have hpS8 := hp28
  have hFk9 := hpQ.2.2.1
  have hBy9 := hpQ.2.1
  refine lv_aload_n hx hb dX14_byteComes_0 rfl (lv_at hl 0 rfl) ?_
  refine j7_read hx hb hown hK (C := RX14) (T := TX14) (N := 74) rfl hly_16_11 hlk_231 (hh.at 7 rfl) dX14_byteComes_1 ?_
  refine lv_bipush (v := 6) hx hb dX14_byteComes_4 (by decide) ?_
  refine lv_icmp_ge (tgt := 38) hx hb dX14_byteComes_6 (by decide) (fun c_1 => ?_) (fun c_1 => ?_)
  · skip
    have c_1' : pm.toInt ≥ 6 := jb_ge (rfl) ((by decide)) c_1
    refine lv_aload_n hx hb dX14_byteComes_38 rfl (lv_at hl 0 rfl) ?_
    refine j7_read hx hb hown hK (C := RX14) (T := TX14) (N := 74) rfl hly_16_9 hlk_20 (hh.at 10 rfl) dX14_byteComes_39 ?_
    refine lv_aload_n hx hb dX14_byteComes_42 rfl (lv_at hl 0 rfl) ?_
    refine j7_read hx hb hown hK (C := RX14) (T := TX14) (N := 74) rfl hly_16_16 hlk_244 (hh.at 9 rfl) dX14_byteComes_43 ?_
    refine lv_iload_n hx hb dX14_byteComes_46 rfl (lv_at hl 1 rfl) ?_
    refine j7_iastU hx hb hK hh hB hB110 1 rfl (by decide) (by decide) rfl 2 rfl (M1 := [(an, 198, n_an, ca 0, fn), (av, 198, n_av, ca 0, fv), (cs, 207, 2, ca 1, fs)]) [0, 1, 3] rfl rfl rfl hg_kp_ (x := pb.toInt) (rfl) (by omega) (by first | omega | (refine ⟨?_, ?_⟩ <;> (first | omega | rfl | assumption | decide | exact Or.inl rfl | exact Or.inr rfl | (simp only; omega)))) dX14_byteComes_47 (fun H_2 locs_2 fs_3 hv_2 ho_2 hh_2 => ?_)
    have hv_2 : jSo fs_3 (pb.toInt) = a1.toInt := by unfold jSo; rw [hv_2]; try exact rfl
    clear hh
    have hh_4 := (hh_2.sub (L1 := [(r0, 16, 13, .ref bn), (r0, 16, 14, .ref bv), (bn, 0, 3, .int cn), (bn, 0, 0, .ref an), (bv, 0, 3, .int cv), (bv, 0, 0, .ref av), (r0, 16, 12, .int ph), (r0, 16, 11, .int pm), (r0, 16, 15, .int pl), (r0, 16, 16, .int pb), (r0, 16, 9, .ref kp_), (r0, 16, 7, .int pk), (r0, 16, 34, .int pi), (r0, 16, 35, .int ps), (r0, 16, 41, .ref dd), (r0, 16, 42, .int dc), (r0, 16, 60, .ref co), (r0, 16, 61, .ref cs), (r0, 16, 46, .ref ol), (r0, 16, 47, .ref nw), (r0, 16, 71, .ref td)]) [0, 1, 2, 3, 4, 5, 6, 7, 8, 9, 10, 11, 12, 13, 14, 15, 16, 17, 18, 19, 20] rfl (M1 := [(kp_, 110, 3300, ca 1, fs_3), (an, 198, n_an, ca 0, fn), (av, 198, n_av, ca 0, fv), (cs, 207, 2, ca 1, fs)]) [0, 1, 2, 3] rfl (I1 := [(jFs, jDY dC dI ca G0 none sn), (jF9, jVl dC dI G0 9 ck), ([(201, 0)], jQc dC dI (ca 4) dd 3 fd), ([(208, 0)], jQc dC dI (ca 4) co 2 fo), (jFra, jRS dC dI ca G0 r0 S9)]) [0, 1, 2, 3, 4] rfl).cgM (g := (jfCu (jfBu s9.2.1 pb.toInt a1.toInt))) (jfCu.set hFk9 hv_2 ho_2 (by omega) (by omega))
    clear hh_2
    refine lv_aload_n hx hb dX14_byteComes_48 rfl (lv_at hl 0 rfl) ?_
    refine lv_dup hx hb dX14_byteComes_49 rfl ?_
    refine j7_read hx hb hown hK (C := RX14) (T := TX14) (N := 74) rfl hly_16_16 hlk_244 (hh_4.at 9 rfl) dX14_byteComes_50 ?_
    refine lv_iconst (v := 1) hx hb dX14_byteComes_53 (by decide) ?_
    refine lv_iadd hx hb dX14_byteComes_54 ?_
    refine lv_topi (fun z_5 ez_5 => ?_)
    have hz_5 : z_5.toInt = pb.toInt + 1 := by rw [ez_5]; exact jb_iadd2 (rfl) ((by decide)) (by omega)
    refine j7_put hx hb hown hK hh_4 hB hAp hB16 (C := RX14) (T := TX14) (N := 74) rfl (by decide) hg_r0 (i := 16) (by decide) hly_16_16 rfl hlk_244 rfl (ty := .int) (v := .int z_5) (by decide +kernel) rfl rfl (⟨_, rfl⟩) rfl (L1 := [(r0, 16, 13, .ref bn), (r0, 16, 14, .ref bv), (bn, 0, 3, .int cn), (bn, 0, 0, .ref an), (bv, 0, 3, .int cv), (bv, 0, 0, .ref av), (r0, 16, 12, .int ph), (r0, 16, 11, .int pm), (r0, 16, 15, .int pl), (r0, 16, 9, .ref kp_), (r0, 16, 7, .int pk), (r0, 16, 34, .int pi), (r0, 16, 35, .int ps), (r0, 16, 41, .ref dd), (r0, 16, 42, .int dc), (r0, 16, 60, .ref co), (r0, 16, 61, .ref cs), (r0, 16, 46, .ref ol), (r0, 16, 47, .ref nw), (r0, 16, 71, .ref td)]) [0, 1, 2, 3, 4, 5, 6, 7, 8, 10, 11, 12, 13, 14, 15, 16, 17, 18, 19, 20] rfl rfl rfl dX14_byteComes_55 (fun H_6 locs_6 hh_6 => ?_)
    clear hh_4
    refine lv_aload_n hx hb dX14_byteComes_58 rfl (lv_at hl 0 rfl) ?_
    refine lv_dup hx hb dX14_byteComes_59 rfl ?_
    obtain ⟨v_7, hv_7, hh_8⟩ := hh_6.pin (C := RX14) (T := TX14) (N := 74) hB16 rfl (by decide) hg_r0 (i := 10) (by decide) rfl
    clear hh_6
    obtain ⟨keptBytes_9, rfl⟩ := hv_7
    refine j7_read hx hb hown hK (C := RX14) (T := TX14) (N := 74) rfl hly_16_10 hlk_258 (hh_8.at 0 rfl) dX14_byteComes_60 ?_
    refine lv_iconst (v := 1) hx hb dX14_byteComes_63 (by decide) ?_
    refine lv_iadd hx hb dX14_byteComes_64 ?_
    refine lv_topi (fun z_10 ez_10 => ?_)
    refine j7_put hx hb hown hK hh_8 hB hAp hB16 (C := RX14) (T := TX14) (N := 74) rfl (by decide) hg_r0 (i := 10) (by decide) hly_16_10 rfl hlk_258 rfl (ty := .int) (v := .int z_10) (by decide +kernel) rfl rfl (⟨_, rfl⟩) rfl (L1 := [(r0, 16, 16, .int z_5), (r0, 16, 13, .ref bn), (r0, 16, 14, .ref bv), (bn, 0, 3, .int cn), (bn, 0, 0, .ref an), (bv, 0, 3, .int cv), (bv, 0, 0, .ref av), (r0, 16, 12, .int ph), (r0, 16, 11, .int pm), (r0, 16, 15, .int pl), (r0, 16, 9, .ref kp_), (r0, 16, 7, .int pk), (r0, 16, 34, .int pi), (r0, 16, 35, .int ps), (r0, 16, 41, .ref dd), (r0, 16, 42, .int dc), (r0, 16, 60, .ref co), (r0, 16, 61, .ref cs), (r0, 16, 46, .ref ol), (r0, 16, 47, .ref nw), (r0, 16, 71, .ref td)]) [1, 2, 3, 4, 5, 6, 7, 8, 9, 10, 11, 12, 13, 14, 15, 16, 17, 18, 19, 20, 21] rfl rfl rfl dX14_byteComes_65 (fun H_11 locs_11 hh_11 => ?_)
    clear hh_8
    refine lv_aload_n hx hb dX14_byteComes_68 rfl (lv_at hl 0 rfl) ?_
    refine j7_read hx hb hown hK (C := RX14) (T := TX14) (N := 74) rfl hly_16_11 hlk_231 (hh_11.at 9 rfl) dX14_byteComes_69 ?_
    refine lv_bipush (v := 6) hx hb dX14_byteComes_72 (by decide) ?_
    refine lv_icmp_ne (tgt := 88) hx hb dX14_byteComes_74 (by decide) (fun c_12 => ?_) (fun c_12 => ?_)
    · skip
      have c_12' : pm.toInt ≠ 6 := jb_ne (rfl) ((by decide)) c_12
      exact (by omega : False).elim
    · skip
      have c_12' : pm.toInt = 6 := jb_ne_n (rfl) ((by decide)) c_12
      refine lv_aload_n hx hb dX14_byteComes_77 rfl (lv_at hl 0 rfl) ?_
      refine j7_read hx hb hown hK (C := RX14) (T := TX14) (N := 74) rfl hly_16_16 hlk_244 (hh_11.at 1 rfl) dX14_byteComes_78 ?_
      refine lv_aload_n hx hb dX14_byteComes_81 rfl (lv_at hl 0 rfl) ?_
      refine j7_read hx hb hown hK (C := RX14) (T := TX14) (N := 74) rfl hly_16_15 hlk_33 (hh_11.at 10 rfl) dX14_byteComes_82 ?_
      refine lv_icmp_ge (tgt := 89) hx hb dX14_byteComes_85 (by decide) (fun c_13 => ?_) (fun c_13 => ?_)
      · skip
        have c_13' : z_5.toInt ≥ pl.toInt := jb_ge (rfl) (rfl) c_13
        refine lv_aload_n hx hb dX14_byteComes_89 rfl (lv_at hl 0 rfl) ?_
        refine j7_read hx hb hown hK (C := RX14) (T := TX14) (N := 74) rfl hly_16_15 hlk_33 (hh_11.at 10 rfl) dX14_byteComes_90 ?_
        refine lv_istore_n (lv' := [(2, .int pl), (0, .ref r0), (1, .int a1)]) hx hb dX14_byteComes_93 rfl hl (by decide) rfl (fun ls hl => ?_)
        have hBz9 := hBy9.bu (i := pb.toInt) (c := a1.toInt) (by omega) (by omega)
        refine lv_aload_n hx hb dX14_byteComes_94 rfl (lv_at hl 1 rfl) ?_
        refine lv_iconst (v := 0) hx hb dX14_byteComes_95 (by decide) ?_
        refine j7_put hx hb hown hK hh_11 hB hAp hB16 (C := RX14) (T := TX14) (N := 74) rfl (by decide) hg_r0 (i := 11) (by decide) hly_16_11 rfl hlk_231 rfl (ty := .int) (v := .int 0) (by decide +kernel) rfl rfl (⟨_, rfl⟩) rfl (L1 := [(r0, 16, 10, .int z_10), (r0, 16, 16, .int z_5), (r0, 16, 13, .ref bn), (r0, 16, 14, .ref bv), (bn, 0, 3, .int cn), (bn, 0, 0, .ref an), (bv, 0, 3, .int cv), (bv, 0, 0, .ref av), (r0, 16, 12, .int ph), (r0, 16, 15, .int pl), (r0, 16, 9, .ref kp_), (r0, 16, 7, .int pk), (r0, 16, 34, .int pi), (r0, 16, 35, .int ps), (r0, 16, 41, .ref dd), (r0, 16, 42, .int dc), (r0, 16, 60, .ref co), (r0, 16, 61, .ref cs), (r0, 16, 46, .ref ol), (r0, 16, 47, .ref nw), (r0, 16, 71, .ref td)]) [0, 1, 2, 3, 4, 5, 6, 7, 8, 10, 11, 12, 13, 14, 15, 16, 17, 18, 19, 20, 21] rfl rfl rfl dX14_byteComes_96 (fun H_14 locs_14 hh_14 => ?_)
        clear hh_11
        refine lv_aload_n hx hb dX14_byteComes_99 rfl (lv_at hl 1 rfl) ?_
        refine lv_iconst (v := 0) hx hb dX14_byteComes_100 (by decide) ?_
        refine j7_put hx hb hown hK hh_14 hB hAp hB16 (C := RX14) (T := TX14) (N := 74) rfl (by decide) hg_r0 (i := 12) (by decide) hly_16_12 rfl hlk_228 rfl (ty := .int) (v := .int 0) (by decide +kernel) rfl rfl (⟨_, rfl⟩) rfl (L1 := [(r0, 16, 11, .int 0), (r0, 16, 10, .int z_10), (r0, 16, 16, .int z_5), (r0, 16, 13, .ref bn), (r0, 16, 14, .ref bv), (bn, 0, 3, .int cn), (bn, 0, 0, .ref an), (bv, 0, 3, .int cv), (bv, 0, 0, .ref av), (r0, 16, 15, .int pl), (r0, 16, 9, .ref kp_), (r0, 16, 7, .int pk), (r0, 16, 34, .int pi), (r0, 16, 35, .int ps), (r0, 16, 41, .ref dd), (r0, 16, 42, .int dc), (r0, 16, 60, .ref co), (r0, 16, 61, .ref cs), (r0, 16, 46, .ref ol), (r0, 16, 47, .ref nw), (r0, 16, 71, .ref td)]) [0, 1, 2, 3, 4, 5, 6, 7, 8, 10, 11, 12, 13, 14, 15, 16, 17, 18, 19, 20, 21] rfl rfl rfl dX14_byteComes_101 (fun H_15 locs_15 hh_15 => ?_)
        clear hh_14
        refine lv_aload_n hx hb dX14_byteComes_104 rfl (lv_at hl 1 rfl) ?_
        refine lv_iconst (v := 0) hx hb dX14_byteComes_105 (by decide) ?_
        refine j7_put hx hb hown hK hh_15 hB hAp hB16 (C := RX14) (T := TX14) (N := 74) rfl (by decide) hg_r0 (i := 10) (by decide) hly_16_10 rfl hlk_258 rfl (ty := .int) (v := .int 0) (by decide +kernel) rfl rfl (⟨_, rfl⟩) rfl (L1 := [(r0, 16, 12, .int 0), (r0, 16, 11, .int 0), (r0, 16, 16, .int z_5), (r0, 16, 13, .ref bn), (r0, 16, 14, .ref bv), (bn, 0, 3, .int cn), (bn, 0, 0, .ref an), (bv, 0, 3, .int cv), (bv, 0, 0, .ref av), (r0, 16, 15, .int pl), (r0, 16, 9, .ref kp_), (r0, 16, 7, .int pk), (r0, 16, 34, .int pi), (r0, 16, 35, .int ps), (r0, 16, 41, .ref dd), (r0, 16, 42, .int dc), (r0, 16, 60, .ref co), (r0, 16, 61, .ref cs), (r0, 16, 46, .ref ol), (r0, 16, 47, .ref nw), (r0, 16, 71, .ref td)]) [0, 1, 3, 4, 5, 6, 7, 8, 9, 10, 11, 12, 13, 14, 15, 16, 17, 18, 19, 20, 21] rfl rfl rfl dX14_byteComes_106 (fun H_16 locs_16 hh_16 => ?_)
        clear hh_15
        refine lv_aload_n hx hb dX14_byteComes_109 rfl (lv_at hl 1 rfl) ?_
        refine lv_iconst (v := (-1)) hx hb dX14_byteComes_110 (by decide) ?_
        refine j7_put hx hb hown hK hh_16 hB hAp hB16 (C := RX14) (T := TX14) (N := 74) rfl (by decide) hg_r0 (i := 15) (by decide) hly_16_15 rfl hlk_33 rfl (ty := .int) (v := .int (-1)) (by decide +kernel) rfl rfl (⟨_, rfl, by omega, by omega⟩) rfl (L1 := [(r0, 16, 10, .int 0), (r0, 16, 12, .int 0), (r0, 16, 11, .int 0), (r0, 16, 16, .int z_5), (r0, 16, 13, .ref bn), (r0, 16, 14, .ref bv), (bn, 0, 3, .int cn), (bn, 0, 0, .ref an), (bv, 0, 3, .int cv), (bv, 0, 0, .ref av), (r0, 16, 9, .ref kp_), (r0, 16, 7, .int pk), (r0, 16, 34, .int pi), (r0, 16, 35, .int ps), (r0, 16, 41, .ref dd), (r0, 16, 42, .int dc), (r0, 16, 60, .ref co), (r0, 16, 61, .ref cs), (r0, 16, 46, .ref ol), (r0, 16, 47, .ref nw), (r0, 16, 71, .ref td)]) [0, 1, 2, 3, 4, 5, 6, 7, 8, 9, 11, 12, 13, 14, 15, 16, 17, 18, 19, 20, 21] rfl rfl rfl dX14_byteComes_111 (fun H_17 locs_17 hh_17 => ?_)
        clear hh_16
        refine lv_aload_n hx hb dX14_byteComes_114 rfl (lv_at hl 1 rfl) ?_
        refine lv_dup hx hb dX14_byteComes_115 rfl ?_
        obtain ⟨v_18, hv_18, hh_19⟩ := hh_17.pin (C := RX14) (T := TX14) (N := 74) hB16 rfl (by decide) hg_r0 (i := 8) (by decide) rfl
        clear hh_17
        obtain ⟨messages_20, rfl⟩ := hv_18
        refine j7_read hx hb hown hK (C := RX14) (T := TX14) (N := 74) rfl hly_16_8 hlk_264 (hh_19.at 0 rfl) dX14_byteComes_116 ?_
        refine lv_iconst (v := 1) hx hb dX14_byteComes_119 (by decide) ?_
        refine lv_iadd hx hb dX14_byteComes_120 ?_
        refine lv_topi (fun z_21 ez_21 => ?_)
        refine j7_put hx hb hown hK hh_19 hB hAp hB16 (C := RX14) (T := TX14) (N := 74) rfl (by decide) hg_r0 (i := 8) (by decide) hly_16_8 rfl hlk_264 rfl (ty := .int) (v := .int z_21) (by decide +kernel) rfl rfl (⟨_, rfl⟩) rfl (L1 := [(r0, 16, 15, .int (-1)), (r0, 16, 10, .int 0), (r0, 16, 12, .int 0), (r0, 16, 11, .int 0), (r0, 16, 16, .int z_5), (r0, 16, 13, .ref bn), (r0, 16, 14, .ref bv), (bn, 0, 3, .int cn), (bn, 0, 0, .ref an), (bv, 0, 3, .int cv), (bv, 0, 0, .ref av), (r0, 16, 9, .ref kp_), (r0, 16, 7, .int pk), (r0, 16, 34, .int pi), (r0, 16, 35, .int ps), (r0, 16, 41, .ref dd), (r0, 16, 42, .int dc), (r0, 16, 60, .ref co), (r0, 16, 61, .ref cs), (r0, 16, 46, .ref ol), (r0, 16, 47, .ref nw), (r0, 16, 71, .ref td)]) [1, 2, 3, 4, 5, 6, 7, 8, 9, 10, 11, 12, 13, 14, 15, 16, 17, 18, 19, 20, 21, 22] rfl rfl rfl dX14_byteComes_121 (fun H_22 locs_22 hh_22 => ?_)
        clear hh_19
        obtain ⟨v_23, hv_23, hh_24⟩ := hh_22.pin (C := RX14) (T := TX14) (N := 74) hB16 rfl (by decide) hg_r0 (i := 17) (by decide) rfl
        obtain ⟨sort_25, rfl, hg_sort_25⟩ := hv_23
        obtain ⟨f_sort_26, hh_26⟩ := hh_24.cpin hB117 (by decide) (by decide) hg_sort_25
        clear hh_24
        obtain ⟨v_27, hv_27, hh_28⟩ := hh_26.pin (C := RX14) (T := TX14) (N := 74) hB16 rfl (by decide) hg_r0 (i := 18) (by decide) rfl
        obtain ⟨heir_29, rfl, hg_heir_29⟩ := hv_27
        obtain ⟨f_heir_30, hh_30⟩ := hh_28.cpin hB118 (by decide) (by decide) hg_heir_29
        clear hh_28
        obtain ⟨v_31, hv_31, hh_32⟩ := hh_30.pin (C := RX14) (T := TX14) (N := 74) hB16 rfl (by decide) hg_r0 (i := 19) (by decide) rfl
        obtain ⟨next_33, rfl, hg_next_33⟩ := hv_31
        obtain ⟨f_next_34, hh_34⟩ := hh_32.cpin hB119 (by decide) (by decide) hg_next_33
        clear hh_32
        obtain ⟨v_35, hv_35, hh_36⟩ := hh_34.pin (C := RX14) (T := TX14) (N := 74) hB16 rfl (by decide) hg_r0 (i := 20) (by decide) rfl
        obtain ⟨nameFrom_37, rfl, hg_nameFrom_37⟩ := hv_35
        obtain ⟨f_nameFrom_38, hh_38⟩ := hh_36.cpin hB120 (by decide) (by decide) hg_nameFrom_37
        clear hh_36
        obtain ⟨v_39, hv_39, hh_40⟩ := hh_38.pin (C := RX14) (T := TX14) (N := 74) hB16 rfl (by decide) hg_r0 (i := 21) (by decide) rfl
        obtain ⟨nameTo_41, rfl, hg_nameTo_41⟩ := hv_39
        obtain ⟨f_nameTo_42, hh_42⟩ := hh_40.cpin hB121 (by decide) (by decide) hg_nameTo_41
        clear hh_40
        obtain ⟨v_43, hv_43, hh_44⟩ := hh_42.pin (C := RX14) (T := TX14) (N := 74) hB16 rfl (by decide) hg_r0 (i := 22) (by decide) rfl
        obtain ⟨from_45, rfl, hg_from_45⟩ := hv_43
        obtain ⟨f_from_46, hh_46⟩ := hh_44.cpin hB122 (by decide) (by decide) hg_from_45
        clear hh_44
        obtain ⟨v_47, hv_47, hh_48⟩ := hh_46.pin (C := RX14) (T := TX14) (N := 74) hB16 rfl (by decide) hg_r0 (i := 23) (by decide) rfl
        obtain ⟨to_49, rfl, hg_to_49⟩ := hv_47
        obtain ⟨f_to_50, hh_50⟩ := hh_48.cpin hB123 (by decide) (by decide) hg_to_49
        clear hh_48
        obtain ⟨v_51, hv_51, hh_52⟩ := hh_50.pin (C := RX14) (T := TX14) (N := 74) hB16 rfl (by decide) hg_r0 (i := 24) (by decide) rfl
        obtain ⟨isInt_53, rfl, hg_isInt_53⟩ := hv_51
        obtain ⟨f_isInt_54, hh_54⟩ := hh_52.cpin hB124 (by decide) (by decide) hg_isInt_53
        clear hh_52
        obtain ⟨v_55, hv_55, hh_56⟩ := hh_54.pin (C := RX14) (T := TX14) (N := 74) hB16 rfl (by decide) hg_r0 (i := 25) (by decide) rfl
        obtain ⟨ints_57, rfl, hg_ints_57⟩ := hv_55
        obtain ⟨f_ints_58, hh_58⟩ := hh_56.cpin hB125 (by decide) (by decide) hg_ints_57
        clear hh_56
        obtain ⟨v_59, hv_59, hh_60⟩ := hh_58.pin (C := RX14) (T := TX14) (N := 74) hB16 rfl (by decide) hg_r0 (i := 27) (by decide) rfl
        obtain ⟨pool_61, rfl, hg_pool_61⟩ := hv_59
        obtain ⟨f_pool_62, hh_62⟩ := hh_60.cpin hB127 (by decide) (by decide) hg_pool_61
        clear hh_60
        obtain ⟨v_63, hv_63, hh_64⟩ := hh_62.pin (C := RX14) (T := TX14) (N := 74) hB16 rfl (by decide) hg_r0 (i := 43) (by decide) rfl
        obtain ⟨changed_65, rfl, hg_changed_65⟩ := hv_63
        obtain ⟨f_changed_66, hh_66⟩ := hh_64.cpin hB112 (by decide) (by decide) hg_changed_65
        clear hh_64
        refine lv_aload_n hx hb dX14_byteComes_124 rfl (lv_at hl 1 rfl) ?_
        have hh_67 := hh_66.sub (L1 := ((r0, 16, 43, .ref changed_65) :: (r0, 16, 27, .ref pool_61) :: (r0, 16, 25, .ref ints_57) :: (r0, 16, 24, .ref isInt_53) :: (r0, 16, 23, .ref to_49) :: (r0, 16, 22, .ref from_45) :: (r0, 16, 21, .ref nameTo_41) :: (r0, 16, 20, .ref nameFrom_37) :: (r0, 16, 19, .ref next_33) :: (r0, 16, 18, .ref heir_29) :: (r0, 16, 17, .ref sort_25) :: (r0, 16, 15, .int (-1)) :: (r0, 16, 10, .int 0) :: (r0, 16, 12, .int 0) :: (r0, 16, 11, .int 0) :: (r0, 16, 16, .int z_5) :: (r0, 16, 13, .ref bn) :: (r0, 16, 14, .ref bv) :: (bn, 0, 3, .int cn) :: (bn, 0, 0, .ref an) :: (bv, 0, 3, .int cv) :: (bv, 0, 0, .ref av) :: (r0, 16, 9, .ref kp_) :: (r0, 16, 7, .int pk) :: (r0, 16, 34, .int pi) :: (r0, 16, 35, .int ps) :: (r0, 16, 41, .ref dd) :: (r0, 16, 42, .int dc) :: (r0, 16, 60, .ref co) :: (r0, 16, 61, .ref cs) :: (r0, 16, 46, .ref ol) :: (r0, 16, 47, .ref nw) :: (r0, 16, 71, .ref td) :: [])) [0, 1, 2, 3, 4, 5, 6, 7, 8, 9, 10, 12, 13, 14, 15, 16, 17, 18, 19, 20, 21, 22, 23, 24, 25, 26, 27, 28, 29, 30, 31, 32, 33] rfl (M1 := [(changed_65, 112, 3100, ca 1, f_changed_66), (pool_61, 127, 3300, ca 1, f_pool_62), (ints_57, 125, 3100, ca 1, f_ints_58), (isInt_53, 124, 3100, ca 3, f_isInt_54), (to_49, 123, 3100, ca 1, f_to_50), (from_45, 122, 3100, ca 1, f_from_46), (nameTo_41, 121, 3100, ca 1, f_nameTo_42), (nameFrom_37, 120, 3100, ca 1, f_nameFrom_38), (next_33, 119, 3100, ca 1, f_next_34), (heir_29, 118, 3100, ca 1, f_heir_30), (sort_25, 117, 3100, ca 1, f_sort_26), (kp_, 110, 3300, ca 1, (jfCu (jfBu s9.2.1 pb.toInt a1.toInt))), (an, 198, n_an, ca 0, fn), (av, 198, n_av, ca 0, fv), (cs, 207, 2, ca 1, fs)]) [0, 1, 2, 3, 4, 5, 6, 7, 8, 9, 10, 11, 12, 13, 14] rfl (I1 := [(jFs, jDY dC dI ca G0 none sn), (jF9, jVl dC dI G0 9 ck), ([(201, 0)], jQc dC dI (ca 4) dd 3 fd), ([(208, 0)], jQc dC dI (ca 4) co 2 fo), (jFra, jRS dC dI ca G0 r0 S9)]) [0, 1, 2, 3, 4] rfl
        clear hh_66
        refine lv_iload_n hx hb dX14_byteComes_125 rfl (lv_at hl 0 rfl) ?_
        have hsz_68 := hh_67.2.2.2.2.2.1
        have htt_68 := hh_67.2.2.2.2.2.2.1
        refine W.room (fun hrc_68 hrs_68 => ?_)
        refine va_callv (A0 := jA base) (H0 := s.heap) (va_runV (As := [.int pl]) (rest := []) ⟨hx, hb, hml, hown, hts⟩ (uX14_messageR l dC dI ca base B hB hAp hB14 hB15 hB16 hB101 hB103 hB110 hB112 hB117 hB118 hB119 hB120 hB121 hB122 hB123 hB124 hB125 hB127 hB150 hB151 hB152 hB153 hB154 hB155 hB156 hB157 hB158 hB159 hB160 hB161 hB162 hB163 hB164 hB165 hB166 hB167 hB168 hB169 hB190 hB191 hB192 hB193 hB194 hB195 hB201 hB202 hB203 hB204 hB206 hB207 hB208 G0 H_22 r0 pl sort_25 heir_29 next_33 nameFrom_37 nameTo_41 from_45 to_49 isInt_53 ints_57 pool_61 kp_ changed_65 pk pi ps dd dc co cs ol nw td (fun _ _ => 0) 0 0 (jfBu s9.2.1 pb.toInt a1.toInt) sn ck fd fo S9 ((jdMs (jfBu s9.2.1 pb.toInt a1.toInt) pl.toInt (pi.toInt + ps.toInt) S9).2.2) f_sort_26 f_heir_30 f_next_34 f_nameFrom_38 f_nameTo_42 f_from_46 f_to_50 f_isInt_54 f_ints_58 f_pool_62 (jfCu (jfBu s9.2.1 pb.toInt a1.toInt)) f_changed_66 fs) (cwV 1 hts (jgV (jWr_50 _ (List.mem_of_getElem? (i := 1) rfl)) (jWr_50 _ (List.mem_of_getElem? (i := 2) rfl)) (jWr_50 _ (List.mem_of_getElem? (i := 3) rfl)) (jWr_1 _ (List.mem_of_getElem? (i := 5) rfl)) (jWr_50 _ (List.mem_of_getElem? (i := 4) rfl))) rfl rfl rfl (by decide +kernel) ⟨by rw [← hR]; exact Nat.le_of_ble_eq_true rfl, by rw [← hR]; exact Nat.le_of_ble_eq_true rfl⟩) ⟨fun a U g mk q => by obtain ⟨q0, q1, q2, qK, q10, q11, q12, q13, q14, q15, q16, q17, q18, q19, q20, q21, q22, q23, q24, q25, q26, q27, q28, q29, q30, q31, q32, q33⟩ := q; exact ⟨q0, q1, q2, jG.calling g mk a qK, (va_K.moved (Vm.Alike.refl U.vm) q10), q11, q12, q13, q14, q15, q16, q17, q18, q19, q20, q21, q22, q23, q24, q25, q26, q27, q28, q29, q30, q31, q32, q33⟩, hh_67.recv (C := RX14) (T := TX14) (N := 74) hB16 rfl (by decide) hg_r0 hK, fun U hU hW => ⟨rfl, hU, hh_67.2.1, hG.step hW hU hh_67.1, va_K.moved hW.alike hK2, hg_r0, hg_sort_25, hg_heir_29, hg_next_33, hg_nameFrom_37, hg_nameTo_41, hg_from_45, hg_to_49, hg_isInt_53, hg_ints_57, hg_pool_61, hg_kp_, hg_changed_65, hg_dd, hg_co, hg_cs, hg_ol, hg_nw, hg_td, (hh_67.2.2.1.sub (L1 := [(r0, 16, 17, .ref sort_25), (r0, 16, 18, .ref heir_29), (r0, 16, 19, .ref next_33), (r0, 16, 20, .ref nameFrom_37), (r0, 16, 21, .ref nameTo_41), (r0, 16, 22, .ref from_45), (r0, 16, 23, .ref to_49), (r0, 16, 24, .ref isInt_53), (r0, 16, 25, .ref ints_57), (r0, 16, 27, .ref pool_61), (r0, 16, 9, .ref kp_), (r0, 16, 43, .ref changed_65), (r0, 16, 7, .int pk), (r0, 16, 34, .int pi), (r0, 16, 35, .int ps), (r0, 16, 41, .ref dd), (r0, 16, 42, .int dc), (r0, 16, 60, .ref co), (r0, 16, 61, .ref cs), (r0, 16, 46, .ref ol), (r0, 16, 47, .ref nw), (r0, 16, 71, .ref td)]) [10, 9, 8, 7, 6, 5, 4, 3, 2, 1, 22, 0, 23, 24, 25, 26, 27, 28, 29, 30, 31, 32] rfl), (hh_67.2.2.2.2.2.2.2.1.sub (L1 := [(sort_25, 117, 3100, ca 1, f_sort_26), (heir_29, 118, 3100, ca 1, f_heir_30), (next_33, 119, 3100, ca 1, f_next_34), (nameFrom_37, 120, 3100, ca 1, f_nameFrom_38), (nameTo_41, 121, 3100, ca 1, f_nameTo_42), (from_45, 122, 3100, ca 1, f_from_46), (to_49, 123, 3100, ca 1, f_to_50), (isInt_53, 124, 3100, ca 3, f_isInt_54), (ints_57, 125, 3100, ca 1, f_ints_58), (pool_61, 127, 3300, ca 1, f_pool_62), (kp_, 110, 3300, ca 1, (jfCu (jfBu s9.2.1 pb.toInt a1.toInt))), (changed_65, 112, 3100, ca 1, f_changed_66), (cs, 207, 2, ca 1, fs)]) [10, 9, 8, 7, 6, 5, 4, 3, 2, 1, 11, 0, 14] rfl), (hh_67.2.2.2.2.2.2.2.2.sub (L1 := [(jFs, jDY dC dI ca G0 none sn), (jF9, jVl dC dI G0 9 ck), ([(201, 0)], jQc dC dI (ca 4) dd 3 fd), ([(208, 0)], jQc dC dI (ca 4) co 2 fo), (jFra, jRS dC dI ca G0 r0 S9)]) [0, 1, 2, 3, 4] rfl), ⟨(by first | assumption | exact hBy9 | exact hBz9 | exact hFk9 | rfl | omega), (by first | omega | rfl | assumption | exact hBy9 | exact hBz9 | exact hFk9 | rfl), (by first | omega | rfl | assumption | exact hBy9 | exact hBz9 | exact hFk9 | rfl), (by first | omega | rfl | assumption | exact hBy9 | exact hBz9 | exact hFk9 | rfl), (by first | omega | rfl | assumption | exact hBy9 | exact hBz9 | exact hFk9 | rfl), (by first | omega | rfl | assumption | exact hBy9 | exact hBz9 | exact hFk9 | rfl), (by first | omega | rfl | assumption | exact hBy9 | exact hBz9 | exact hFk9 | rfl), (by first | omega | rfl | assumption | exact hBy9 | exact hBz9 | exact hFk9 | rfl), (by first | assumption | exact hBy9 | exact hBz9 | exact hFk9 | rfl | omega)⟩⟩⟩ rfl rfl hl.1 rfl (lv_room (Nat.le_of_ble_eq_true rfl)) dX14_byteComes_126 ⟨by rw [hRc]; show _ + 0 ≤ _; omega, by rw [hRs]; show _ + 0 ≤ _; omega⟩) hh_67.1 (fun q _ h => h) (fun q h => h) (fun u_68 t_68 H_68 locs_68 ht_68 hvm_68 hr_69 hb_68 hz_68 hk_68 hS_68 => ?_)
        obtain ⟨qi_68, qs_68, qb_68, ys_68, yh_68, yx_68, yf_68, yt_68, yb_68, ye_68, yi_68, yn_68, gu_68, gg_68⟩ := u_68
        rw [ht_68] at hb_68
        obtain ⟨hb_68, hbE_68⟩ := hb_68
        obtain ⟨hb_68, hbV_68⟩ := hb_68
        obtain ⟨sn_68, ck_68, fs_68, fd_68, fo_68, dc_68, hVP_68, hVM_68, hVI_68, hpu_68⟩ := hbV_68
        obtain ⟨⟨hb_681, hb_682, hb_683, hb_684, hb_685⟩, hb_686⟩ := hb_68
        have hh_68 : jSt (dC, dI) B base G0 G0 EX14_byteComesR s.heap 0 0 ((r0, 16, 41, .ref dd) :: (r0, 16, 42, .int dc_68) :: (r0, 16, 60, .ref co) :: (r0, 16, 61, .ref cs) :: (r0, 16, 46, .ref ol) :: (r0, 16, 47, .ref nw) :: (r0, 16, 71, .ref td) :: (r0, 16, 34, .int qi_68) :: (r0, 16, 35, .int qs_68) :: (r0, 16, 7, .int qb_68) :: (r0, 16, 43, .ref changed_65) :: (r0, 16, 27, .ref pool_61) :: (r0, 16, 25, .ref ints_57) :: (r0, 16, 24, .ref isInt_53) :: (r0, 16, 23, .ref to_49) :: (r0, 16, 22, .ref from_45) :: (r0, 16, 21, .ref nameTo_41) :: (r0, 16, 20, .ref nameFrom_37) :: (r0, 16, 19, .ref next_33) :: (r0, 16, 18, .ref heir_29) :: (r0, 16, 17, .ref sort_25) :: (r0, 16, 15, .int (-1)) :: (r0, 16, 10, .int 0) :: (r0, 16, 12, .int 0) :: (r0, 16, 11, .int 0) :: (r0, 16, 16, .int z_5) :: (r0, 16, 13, .ref bn) :: (r0, 16, 14, .ref bv) :: (bn, 0, 3, .int cn) :: (bn, 0, 0, .ref an) :: (bv, 0, 3, .int cv) :: (bv, 0, 0, .ref av) :: (r0, 16, 9, .ref kp_) :: []) [(cs, 207, 2, ca 1, fs_68), (sort_25, 117, 3100, ca 1, ys_68), (heir_29, 118, 3100, ca 1, yh_68), (next_33, 119, 3100, ca 1, yx_68), (nameFrom_37, 120, 3100, ca 1, yf_68), (nameTo_41, 121, 3100, ca 1, yt_68), (from_45, 122, 3100, ca 1, yb_68), (to_49, 123, 3100, ca 1, ye_68), (isInt_53, 124, 3100, ca 3, yi_68), (ints_57, 125, 3100, ca 1, yn_68), (pool_61, 127, 3300, ca 1, gu_68), (changed_65, 112, 3100, ca 1, gg_68), (kp_, 110, 3300, ca 1, (jfCu (jfBu s9.2.1 pb.toInt a1.toInt))), (an, 198, n_an, ca 0, fn), (av, 198, n_av, ca 0, fv)] [(jFra, jRS dC dI ca G0 r0 ((jdMs (jfBu s9.2.1 pb.toInt a1.toInt) pl.toInt (pi.toInt + ps.toInt) S9).2.2)), (jFs, jDY dC dI ca G0 none sn_68), (jF9, jVl dC dI G0 9 ck_68), ([(201, 0)], jQc dC dI (ca 4) dd 3 fd_68), ([(208, 0)], jQc dC dI (ca 4) co 2 fo_68)] H_68 locs_68 := ((((((hh_67.call hb_681 hb_682 hb_683 hb_684 hS_68 rfl (L1 := [(r0, 16, 43, .ref changed_65), (r0, 16, 27, .ref pool_61), (r0, 16, 25, .ref ints_57), (r0, 16, 24, .ref isInt_53), (r0, 16, 23, .ref to_49), (r0, 16, 22, .ref from_45), (r0, 16, 21, .ref nameTo_41), (r0, 16, 20, .ref nameFrom_37), (r0, 16, 19, .ref next_33), (r0, 16, 18, .ref heir_29), (r0, 16, 17, .ref sort_25), (r0, 16, 15, .int (-1)), (r0, 16, 10, .int 0), (r0, 16, 12, .int 0), (r0, 16, 11, .int 0), (r0, 16, 16, .int z_5), (r0, 16, 13, .ref bn), (r0, 16, 14, .ref bv), (bn, 0, 3, .int cn), (bn, 0, 0, .ref an), (bv, 0, 3, .int cv), (bv, 0, 0, .ref av), (r0, 16, 9, .ref kp_)]) [0, 1, 2, 3, 4, 5, 6, 7, 8, 9, 10, 11, 12, 13, 14, 15, 16, 17, 18, 19, 20, 21, 22] rfl rfl (M1 := [(kp_, 110, 3300, ca 1, (jfCu (jfBu s9.2.1 pb.toInt a1.toInt))), (an, 198, n_an, ca 0, fn), (av, 198, n_av, ca 0, fv)]) [11, 12, 13] rfl rfl (I1 := []) [] rfl rfl).more hb_685).moreM hb_686).more hVP_68).moreM hVM_68).addIs hVI_68).addIs hbE_68
        clear hh_67 ht_68 hvm_68 hz_68 hk_68 hS_68 hb_681 hb_682 hb_683 hb_684 hb_685
        clear hb_686
        clear hVP_68 hVM_68 hVI_68 hbE_68
        try simp only at hr_69
        obtain ⟨hr_69_0, hr_69_1, hr_69_2, hr_69_3, hr_69_4⟩ := hr_69
        have hm126 := hr_69_4
        have hst9 := jrQ.bm (c := a1.toInt) (bk := qb_68.toInt) (n := pl.toInt) hpQ (by omega) (by omega) (by omega) (by omega) rfl (by omega) (by omega) (by rcases hm126 with h | h; exact Or.inl h; exact Or.inr ⟨by have h9 := h.1; omega, h.2⟩) hr_69_0 hk0 hk0 hkm1
        have hA_70 : ((jdMs (jfBu s9.2.1 pb.toInt a1.toInt) pl.toInt (pi.toInt + ps.toInt) S9).2.2) = S8 := by rw [hpS8]; exact hst9.2.symm
        have hAe_70 := hh_68.iv 0 rfl
        rw [hA_70] at hAe_70
        have hh_71 := hh_68.sub (L1 := ((r0, 16, 41, .ref dd) :: (r0, 16, 42, .int dc_68) :: (r0, 16, 60, .ref co) :: (r0, 16, 61, .ref cs) :: (r0, 16, 46, .ref ol) :: (r0, 16, 47, .ref nw) :: (r0, 16, 71, .ref td) :: (r0, 16, 34, .int qi_68) :: (r0, 16, 35, .int qs_68) :: (r0, 16, 7, .int qb_68) :: (r0, 16, 43, .ref changed_65) :: (r0, 16, 27, .ref pool_61) :: (r0, 16, 25, .ref ints_57) :: (r0, 16, 24, .ref isInt_53) :: (r0, 16, 23, .ref to_49) :: (r0, 16, 22, .ref from_45) :: (r0, 16, 21, .ref nameTo_41) :: (r0, 16, 20, .ref nameFrom_37) :: (r0, 16, 19, .ref next_33) :: (r0, 16, 18, .ref heir_29) :: (r0, 16, 17, .ref sort_25) :: (r0, 16, 15, .int (-1)) :: (r0, 16, 10, .int 0) :: (r0, 16, 12, .int 0) :: (r0, 16, 11, .int 0) :: (r0, 16, 16, .int z_5) :: (r0, 16, 13, .ref bn) :: (r0, 16, 14, .ref bv) :: (bn, 0, 3, .int cn) :: (bn, 0, 0, .ref an) :: (bv, 0, 3, .int cv) :: (bv, 0, 0, .ref av) :: (r0, 16, 9, .ref kp_) :: [])) [0, 1, 2, 3, 4, 5, 6, 7, 8, 9, 10, 11, 12, 13, 14, 15, 16, 17, 18, 19, 20, 21, 22, 23, 24, 25, 26, 27, 28, 29, 30, 31, 32] rfl (M1 := [(cs, 207, 2, ca 1, fs_68), (sort_25, 117, 3100, ca 1, ys_68), (heir_29, 118, 3100, ca 1, yh_68), (next_33, 119, 3100, ca 1, yx_68), (nameFrom_37, 120, 3100, ca 1, yf_68), (nameTo_41, 121, 3100, ca 1, yt_68), (from_45, 122, 3100, ca 1, yb_68), (to_49, 123, 3100, ca 1, ye_68), (isInt_53, 124, 3100, ca 3, yi_68), (ints_57, 125, 3100, ca 1, yn_68), (pool_61, 127, 3300, ca 1, gu_68), (changed_65, 112, 3100, ca 1, gg_68), (kp_, 110, 3300, ca 1, (jfCu (jfBu s9.2.1 pb.toInt a1.toInt))), (an, 198, n_an, ca 0, fn), (av, 198, n_av, ca 0, fv)]) [0, 1, 2, 3, 4, 5, 6, 7, 8, 9, 10, 11, 12, 13, 14] rfl (I1 := [(jFs, jDY dC dI ca G0 none sn_68), (jF9, jVl dC dI G0 9 ck_68), ([(201, 0)], jQc dC dI (ca 4) dd 3 fd_68), ([(208, 0)], jQc dC dI (ca 4) co 2 fo_68)]) [1, 2, 3, 4] rfl
        clear hh_68
        have hh_72 := hh_71.addI (jRS.ie hAe_70)
        clear hh_71
        have hsz_73 := hh_72.2.2.2.2.2.1
        have htt_73 := hh_72.2.2.2.2.2.2.1
        refine W.room (fun hrc_73 hrs_73 => ?_)
        refine W.widen (k := LC - s.heap.size) (n := LS - jTot s.heap) (by omega) (by omega) ?_
        rw [hQ]
        exact W.vret hx hb hr (fun t ht hW => ⟨⟨(0, 0, (-1), z_5, cn, cv, qb_68, qi_68, qs_68, an, n_an, av, n_av, (jfCu (jfBu s9.2.1 pb.toInt a1.toInt)), fn, fv, G0), rfl, by skip; (try dsimp only); rw [hpS8]; exact ⟨(by first | (with_reducible assumption) | omega), (by first | (with_reducible assumption) | omega), (by first | (with_reducible assumption) | omega), (by first | (with_reducible assumption) | omega), (by first | (with_reducible assumption) | omega), (by first | (with_reducible assumption) | omega), (by first | (with_reducible assumption) | omega), (by first | (with_reducible assumption) | omega), (by first | (with_reducible assumption) | omega), (by first | (with_reducible assumption) | omega), (by first | (with_reducible assumption) | omega), (by first | (with_reducible assumption) | omega), (by first | (with_reducible assumption) | omega), (by first | (with_reducible assumption) | omega), (by first | (with_reducible assumption) | omega), (by first | (with_reducible assumption) | omega), (by first | (with_reducible assumption) | omega), hst9.1 _ _ _ _ _⟩, ⟨hh_72.ra (by first | (simp only; omega) | omega) (by first | (simp only; omega) | omega) (M1 := [(r0, 16, 12, .int 0), (r0, 16, 11, .int 0), (r0, 16, 15, .int (-1)), (r0, 16, 16, .int z_5), (bn, 0, 3, .int cn), (bv, 0, 3, .int cv), (r0, 16, 7, .int qb_68), (r0, 16, 34, .int qi_68), (r0, 16, 35, .int qs_68), (bn, 0, 0, .ref an), (bv, 0, 0, .ref av)]) [23, 24, 21, 25, 28, 30, 9, 7, 8, 29, 31] rfl ht, hg_an, hg_av, jNk.rf, by rw [ht]; exact hh_72.2.2.2.2.2.2.2.2.sub (L1 := [(jFra, jRS dC dI ca G0 r0 S8)]) [0] rfl, by rw [ht]; exact ⟨sn_68, ck_68, fs_68, fd_68, fo_68, dc_68, hh_72.2.2.1.sub (L1 := [(r0, 16, 41, .ref dd), (r0, 16, 42, .int dc_68), (r0, 16, 60, .ref co), (r0, 16, 61, .ref cs), (r0, 16, 46, .ref ol), (r0, 16, 47, .ref nw), (r0, 16, 71, .ref td)]) [0, 1, 2, 3, 4, 5, 6] rfl, hh_72.2.2.2.2.2.2.2.1.sub (L1 := [(cs, 207, 2, ca 1, fs_68)]) [0] rfl, hh_72.2.2.2.2.2.2.2.2.sub (L1 := [(jFs, jDY dC dI ca G0 none sn_68), (jF9, jVl dC dI G0 9 ck_68), ([(201, 0)], jQc dC dI (ca 4) dd 3 fd_68), ([(208, 0)], jQc dC dI (ca 4) co 2 fo_68)]) [1, 2, 3, 4] rfl, (by assumption)⟩, by rw [ht]; exact hh_72.2.2.2.2.2.2.2.1.sub [12, 13, 14] rfl⟩⟩, by rw [ht]; try exact hh_72.1.1, fun q h9 hq => by rw [ht]; try exact hh_72.1.2.1 q h9 hq⟩) hh_72.1.2.2 dX14_byteComes_129
      · skip
        have c_13' : z_5.toInt < pl.toInt := jb_ge_n (rfl) (rfl) c_13
        have hst9 := jrQ.bn (c := a1.toInt) (bk := pk.toInt) (qm := pm.toInt) (ql := pl.toInt) (qb := z_5.toInt) hpQ (by omega) (by omega) (by omega) (by omega) rfl (by omega) (by omega) (by omega) (by omega) (by omega)
        have hA_74 : S9 = S8 := by rw [hpS8]; exact hst9.2.symm
        have hAe_74 := hh_11.iv 4 rfl
        rw [hA_74] at hAe_74
        have hh_75 := hh_11.sub (L1 := [(r0, 16, 10, .int z_10), (r0, 16, 16, .int z_5), (r0, 16, 13, .ref bn), (r0, 16, 14, .ref bv), (bn, 0, 3, .int cn), (bn, 0, 0, .ref an), (bv, 0, 3, .int cv), (bv, 0, 0, .ref av), (r0, 16, 12, .int ph), (r0, 16, 11, .int pm), (r0, 16, 15, .int pl), (r0, 16, 9, .ref kp_), (r0, 16, 7, .int pk), (r0, 16, 34, .int pi), (r0, 16, 35, .int ps), (r0, 16, 41, .ref dd), (r0, 16, 42, .int dc), (r0, 16, 60, .ref co), (r0, 16, 61, .ref cs), (r0, 16, 46, .ref ol), (r0, 16, 47, .ref nw), (r0, 16, 71, .ref td)]) [0, 1, 2, 3, 4, 5, 6, 7, 8, 9, 10, 11, 12, 13, 14, 15, 16, 17, 18, 19, 20, 21] rfl (M1 := [(kp_, 110, 3300, ca 1, (jfCu (jfBu s9.2.1 pb.toInt a1.toInt))), (an, 198, n_an, ca 0, fn), (av, 198, n_av, ca 0, fv), (cs, 207, 2, ca 1, fs)]) [0, 1, 2, 3] rfl (I1 := [(jFs, jDY dC dI ca G0 none sn), (jF9, jVl dC dI G0 9 ck), ([(201, 0)], jQc dC dI (ca 4) dd 3 fd), ([(208, 0)], jQc dC dI (ca 4) co 2 fo)]) [0, 1, 2, 3] rfl
        clear hh_11
        have hh_76 := hh_75.addI (jRS.ie hAe_74)
        clear hh_75
        have hsz_77 := hh_76.2.2.2.2.2.1
        have htt_77 := hh_76.2.2.2.2.2.2.1
        refine W.room (fun hrc_77 hrs_77 => ?_)
        refine W.widen (k := LC - s.heap.size) (n := LS - jTot s.heap) (by omega) (by omega) ?_
        rw [hQ]
        exact W.vret hx hb hr (fun t ht hW => ⟨⟨(ph, pm, pl, z_5, cn, cv, pk, pi, ps, an, n_an, av, n_av, (jfCu (jfBu s9.2.1 pb.toInt a1.toInt)), fn, fv, G0), rfl, by skip; (try dsimp only); rw [hpS8]; exact ⟨(by first | (with_reducible assumption) | omega), (by first | (with_reducible assumption) | omega), (by first | (with_reducible assumption) | omega), (by first | (with_reducible assumption) | omega), (by first | (with_reducible assumption) | omega), (by first | (with_reducible assumption) | omega), (by first | (with_reducible assumption) | omega), (by first | (with_reducible assumption) | omega), (by first | (with_reducible assumption) | omega), (by first | (with_reducible assumption) | omega), (by first | (with_reducible assumption) | omega), (by first | (with_reducible assumption) | omega), (by first | (with_reducible assumption) | omega), (by first | (with_reducible assumption) | omega), (by first | (with_reducible assumption) | omega), (by first | (with_reducible assumption) | omega), (by first | (with_reducible assumption) | omega), hst9.1 _ _ _ _ _⟩, ⟨hh_76.ra (by first | (simp only; omega) | omega) (by first | (simp only; omega) | omega) (M1 := [(r0, 16, 12, .int ph), (r0, 16, 11, .int pm), (r0, 16, 15, .int pl), (r0, 16, 16, .int z_5), (bn, 0, 3, .int cn), (bv, 0, 3, .int cv), (r0, 16, 7, .int pk), (r0, 16, 34, .int pi), (r0, 16, 35, .int ps), (bn, 0, 0, .ref an), (bv, 0, 0, .ref av)]) [8, 9, 10, 1, 4, 6, 12, 13, 14, 5, 7] rfl ht, hg_an, hg_av, jNk.rf, by rw [ht]; exact hh_76.2.2.2.2.2.2.2.2.sub (L1 := [(jFra, jRS dC dI ca G0 r0 S8)]) [0] rfl, by rw [ht]; exact ⟨sn, ck, fs, fd, fo, dc, hh_76.2.2.1.sub (L1 := [(r0, 16, 41, .ref dd), (r0, 16, 42, .int dc), (r0, 16, 60, .ref co), (r0, 16, 61, .ref cs), (r0, 16, 46, .ref ol), (r0, 16, 47, .ref nw), (r0, 16, 71, .ref td)]) [15, 16, 17, 18, 19, 20, 21] rfl, hh_76.2.2.2.2.2.2.2.1.sub (L1 := [(cs, 207, 2, ca 1, fs)]) [3] rfl, hh_76.2.2.2.2.2.2.2.2.sub (L1 := [(jFs, jDY dC dI ca G0 none sn), (jF9, jVl dC dI G0 9 ck), ([(201, 0)], jQc dC dI (ca 4) dd 3 fd), ([(208, 0)], jQc dC dI (ca 4) co 2 fo)]) [1, 2, 3, 4] rfl, (by assumption)⟩, by rw [ht]; exact hh_76.2.2.2.2.2.2.2.1.sub [0, 1, 2] rfl⟩⟩, by rw [ht]; try exact hh_76.1.1, fun q h9 hq => by rw [ht]; try exact hh_76.1.2.1 q h9 hq⟩) hh_76.1.2.2 dX14_byteComes_88
  · skip
    have c_1' : pm.toInt < 6 := jb_ge_n (rfl) ((by decide)) c_1
    have hRe9 := (hpQ.1.resolve_left (fun q => by have q1 := q.1; omega)).2.2
    refine lv_aload_n hx hb dX14_byteComes_9 rfl (lv_at hl 0 rfl) ?_
    refine lv_dup hx hb dX14_byteComes_10 rfl ?_
    obtain ⟨v_78, hv_78, hh_79⟩ := hh.pin (C := RX14) (T := TX14) (N := 74) hB16 rfl (by decide) hg_r0 (i := 10) (by decide) rfl
    clear hh
    obtain ⟨keptBytes_80, rfl⟩ := hv_78
    refine j7_read hx hb hown hK (C := RX14) (T := TX14) (N := 74) rfl hly_16_10 hlk_258 (hh_79.at 0 rfl) dX14_byteComes_11 ?_
    refine lv_iconst (v := 1) hx hb dX14_byteComes_14 (by decide) ?_
    refine lv_iadd hx hb dX14_byteComes_15 ?_
    refine lv_topi (fun z_81 ez_81 => ?_)
    refine j7_put hx hb hown hK hh_79 hB hAp hB16 (C := RX14) (T := TX14) (N := 74) rfl (by decide) hg_r0 (i := 10) (by decide) hly_16_10 rfl hlk_258 rfl (ty := .int) (v := .int z_81) (by decide +kernel) rfl rfl (⟨_, rfl⟩) rfl (L1 := [(r0, 16, 13, .ref bn), (r0, 16, 14, .ref bv), (bn, 0, 3, .int cn), (bn, 0, 0, .ref an), (bv, 0, 3, .int cv), (bv, 0, 0, .ref av), (r0, 16, 12, .int ph), (r0, 16, 11, .int pm), (r0, 16, 15, .int pl), (r0, 16, 16, .int pb), (r0, 16, 9, .ref kp_), (r0, 16, 7, .int pk), (r0, 16, 34, .int pi), (r0, 16, 35, .int ps), (r0, 16, 41, .ref dd), (r0, 16, 42, .int dc), (r0, 16, 60, .ref co), (r0, 16, 61, .ref cs), (r0, 16, 46, .ref ol), (r0, 16, 47, .ref nw), (r0, 16, 71, .ref td)]) [1, 2, 3, 4, 5, 6, 7, 8, 9, 10, 11, 12, 13, 14, 15, 16, 17, 18, 19, 20, 21] rfl rfl rfl dX14_byteComes_16 (fun H_82 locs_82 hh_82 => ?_)
    clear hh_79
    refine lv_aload_n hx hb dX14_byteComes_19 rfl (lv_at hl 0 rfl) ?_
    refine lv_iload_n hx hb dX14_byteComes_20 rfl (lv_at hl 1 rfl) ?_
    have hsz_83 := hh_82.2.2.2.2.2.1
    have htt_83 := hh_82.2.2.2.2.2.2.1
    refine W.room (fun hrc_83 hrs_83 => ?_)
    refine va_calli (A0 := jA base) (H0 := s.heap) (va_runV (As := [.int a1]) (rest := []) ⟨hx, hb, hml, hown, hts⟩ (uX14_headerByteC l dC dI ca base B hB hAp hB0 hB16 hB198 G0 H_82 r0 a1 bn bv cn an n_an cv av n_av ph pm pl pb s9.1 fn fv LC LS) (cwV 1 hts (jgV (jWr_44 _ (List.mem_of_getElem? (i := 20) rfl)) (jWr_44 _ (List.mem_of_getElem? (i := 21) rfl)) (jWr_44 _ (List.mem_of_getElem? (i := 22) rfl)) (jWr_1 _ (List.mem_of_getElem? (i := 5) rfl)) (jWr_44 _ (List.mem_of_getElem? (i := 23) rfl))) rfl rfl rfl (by decide +kernel) ⟨by rw [← hR]; exact Nat.le_of_ble_eq_true rfl, by rw [← hR]; exact Nat.le_of_ble_eq_true rfl⟩) ⟨fun a U g mk q => by obtain ⟨q0, q1, q2, qK, q10, q11, q12, q13, q14, q15, q16, q17⟩ := q; exact ⟨q0, q1, q2, jG.calling g mk a qK, q10, q11, q12, q13, q14, q15, q16, q17⟩, hh_82.recv (C := RX14) (T := TX14) (N := 74) hB16 rfl (by decide) hg_r0 hK, fun U hU hW => ⟨rfl, hU, hh_82.2.1, hG.step hW hU hh_82.1, hg_r0, hg_bn, hg_bv, hg_an, hg_av, (hh_82.2.2.1.sub (L1 := [(r0, 16, 13, .ref bn), (r0, 16, 14, .ref bv), (bn, 0, 3, .int cn), (bn, 0, 0, .ref an), (bv, 0, 3, .int cv), (bv, 0, 0, .ref av), (r0, 16, 12, .int ph), (r0, 16, 11, .int pm), (r0, 16, 15, .int pl), (r0, 16, 16, .int pb)]) [1, 2, 3, 4, 5, 6, 7, 8, 9, 10] rfl), (hh_82.2.2.2.2.2.2.2.1.sub (L1 := [(an, 198, n_an, ca 0, fn), (av, 198, n_av, ca 0, fv)]) [0, 1] rfl), ⟨(by omega), (by omega), (by first | (with_reducible assumption) | omega), (by first | (with_reducible assumption) | omega), (by first | (with_reducible assumption) | omega), (by first | (with_reducible assumption) | omega), (by first | (with_reducible assumption) | omega), (by first | (with_reducible assumption) | omega), (by first | (with_reducible assumption) | omega), (by first | (with_reducible assumption) | omega), (by first | (with_reducible assumption) | omega), (by first | (with_reducible assumption) | omega), (by first | (with_reducible assumption) | omega), (by first | (with_reducible assumption) | omega), (by first | (with_reducible assumption) | omega), (by first | (with_reducible assumption) | omega), (by first | (with_reducible assumption) | omega), (by first | (with_reducible assumption) | omega), (by first | (with_reducible assumption) | omega), (by first | (with_reducible assumption) | omega), (by first | (with_reducible assumption) | omega), (by first | (with_reducible assumption) | omega), hRe9, (by assumption)⟩⟩⟩ rfl rfl hl.1 rfl (lv_room (Nat.le_of_ble_eq_true rfl)) dX14_byteComes_21 ⟨by rw [hRc]; omega, by rw [hRs]; omega⟩) hh_82.1 (fun q _ h => h) (fun q h => h) (fun r_84 u_83 t_83 H_83 locs_83 ht_83 hvm_83 hr_84 hb_83 hz_83 hk_83 hS_83 => ?_)
    obtain ⟨qh_83, qm_83, ql_83, qb_83, qn_83, qv_83, xa_83, m_xa_83, ya_83, m_ya_83, gn_83, gv_83, G_83⟩ := u_83
    rw [ht_83] at hb_83
    simp only at hb_83
    obtain ⟨⟨hb_831, hb_832, hb_833, hb_834, hb_835, hb_836⟩, hgq_83_0, hgq_83_1, hN_83, hbM_83⟩ := hb_83
    have hZ_83 : jN14 G0 G_83 := fun a h => hN_83 a 14 0 h rfl
    have hh_83 : jSt (dC, dI) B base G0 G_83 EX14_byteComesR s.heap (0 + ((m_xa_83 - n_an) + (m_ya_83 - n_av))) (0 + (2 * (m_xa_83 - n_an) + 2 * (m_ya_83 - n_av))) [(r0, 16, 12, .int qh_83), (r0, 16, 11, .int qm_83), (r0, 16, 15, .int ql_83), (r0, 16, 16, .int qb_83), (bn, 0, 3, .int qn_83), (bv, 0, 3, .int qv_83), (bn, 0, 0, .ref xa_83), (bv, 0, 0, .ref ya_83), (r0, 16, 10, .int z_81), (r0, 16, 13, .ref bn), (r0, 16, 14, .ref bv), (r0, 16, 9, .ref kp_), (r0, 16, 7, .int pk), (r0, 16, 34, .int pi), (r0, 16, 35, .int ps), (r0, 16, 41, .ref dd), (r0, 16, 42, .int dc), (r0, 16, 60, .ref co), (r0, 16, 61, .ref cs), (r0, 16, 46, .ref ol), (r0, 16, 47, .ref nw), (r0, 16, 71, .ref td)] [(kp_, 110, 3300, ca 1, fk), (cs, 207, 2, ca 1, fs)] [(jFs, jDY dC dI ca G0 none sn), (jF9, jVl dC dI G0 9 ck), ([(201, 0)], jQc dC dI (ca 4) dd 3 fd), ([(208, 0)], jQc dC dI (ca 4) co 2 fo), (jFra, jRS dC dI ca G0 r0 S9)] H_83 locs_83 := (hh_82.callG hb_831 hb_832 hb_833 hb_834 hb_835 hS_83 rfl (L1 := [(r0, 16, 10, .int z_81), (r0, 16, 13, .ref bn), (r0, 16, 14, .ref bv), (r0, 16, 9, .ref kp_), (r0, 16, 7, .int pk), (r0, 16, 34, .int pi), (r0, 16, 35, .int ps), (r0, 16, 41, .ref dd), (r0, 16, 42, .int dc), (r0, 16, 60, .ref co), (r0, 16, 61, .ref cs), (r0, 16, 46, .ref ol), (r0, 16, 47, .ref nw), (r0, 16, 71, .ref td)]) [0, 1, 2, 11, 12, 13, 14, 15, 16, 17, 18, 19, 20, 21] rfl rfl (M1 := [(kp_, 110, 3300, ca 1, fk), (cs, 207, 2, ca 1, fs)]) [2, 3] rfl rfl (I1 := [(jFs, jDY dC dI ca G0 none sn), (jF9, jVl dC dI G0 9 ck), ([(201, 0)], jQc dC dI (ca 4) dd 3 fd), ([(208, 0)], jQc dC dI (ca 4) co 2 fo), (jFra, jRS dC dI ca G0 r0 S9)]) [0, 1, 2, 3, 4] rfl rfl).more hb_836
    have hNn_83 : (jNk [0, 1, 2, 3, 4, 5, 6, 7, 8, 9, 10, 11, 12, 13, 14, 15, 16]) G0 G_83 := (jNk.rf).tr hN_83
    have hg_85 := hb_832 _ _ hg_r0
    have hg_86 := hb_832 _ _ hg_bn
    have hg_87 := hb_832 _ _ hg_bv
    have hg_88 := hb_832 _ _ hg_kp_
    have hg_89 := hb_832 _ _ hg_dd
    have hg_90 := hb_832 _ _ hg_co
    have hg_91 := hb_832 _ _ hg_cs
    have hg_92 := hb_832 _ _ hg_ol
    have hg_93 := hb_832 _ _ hg_nw
    have hg_94 := hb_832 _ _ hg_td
    have hd_95 := jDY.grow (hh_83.iv 0 rfl) hb_832 hZ_83
    have hh_96 := hh_83.sub (L1 := [(r0, 16, 12, .int qh_83), (r0, 16, 11, .int qm_83), (r0, 16, 15, .int ql_83), (r0, 16, 16, .int qb_83), (bn, 0, 3, .int qn_83), (bv, 0, 3, .int qv_83), (bn, 0, 0, .ref xa_83), (bv, 0, 0, .ref ya_83), (r0, 16, 10, .int z_81), (r0, 16, 13, .ref bn), (r0, 16, 14, .ref bv), (r0, 16, 9, .ref kp_), (r0, 16, 7, .int pk), (r0, 16, 34, .int pi), (r0, 16, 35, .int ps), (r0, 16, 41, .ref dd), (r0, 16, 42, .int dc), (r0, 16, 60, .ref co), (r0, 16, 61, .ref cs), (r0, 16, 46, .ref ol), (r0, 16, 47, .ref nw), (r0, 16, 71, .ref td)]) [0, 1, 2, 3, 4, 5, 6, 7, 8, 9, 10, 11, 12, 13, 14, 15, 16, 17, 18, 19, 20, 21] rfl (M1 := [(kp_, 110, 3300, ca 1, fk), (cs, 207, 2, ca 1, fs)]) [0, 1] rfl (I1 := [(jF9, jVl dC dI G0 9 ck), ([(201, 0)], jQc dC dI (ca 4) dd 3 fd), ([(208, 0)], jQc dC dI (ca 4) co 2 fo), (jFra, jRS dC dI ca G0 r0 S9)]) [1, 2, 3, 4] rfl
    clear hh_83
    have hh_97 := hh_96.addI (jDY.ie hd_95)
    clear hh_96
    have hd_98 := jVl.grow (hh_97.iv 1 rfl) hZ_83
    have hh_99 := hh_97.sub (L1 := [(r0, 16, 12, .int qh_83), (r0, 16, 11, .int qm_83), (r0, 16, 15, .int ql_83), (r0, 16, 16, .int qb_83), (bn, 0, 3, .int qn_83), (bv, 0, 3, .int qv_83), (bn, 0, 0, .ref xa_83), (bv, 0, 0, .ref ya_83), (r0, 16, 10, .int z_81), (r0, 16, 13, .ref bn), (r0, 16, 14, .ref bv), (r0, 16, 9, .ref kp_), (r0, 16, 7, .int pk), (r0, 16, 34, .int pi), (r0, 16, 35, .int ps), (r0, 16, 41, .ref dd), (r0, 16, 42, .int dc), (r0, 16, 60, .ref co), (r0, 16, 61, .ref cs), (r0, 16, 46, .ref ol), (r0, 16, 47, .ref nw), (r0, 16, 71, .ref td)]) [0, 1, 2, 3, 4, 5, 6, 7, 8, 9, 10, 11, 12, 13, 14, 15, 16, 17, 18, 19, 20, 21] rfl (M1 := [(kp_, 110, 3300, ca 1, fk), (cs, 207, 2, ca 1, fs)]) [0, 1] rfl (I1 := [(jFs, jDY dC dI ca G_83 none sn), ([(201, 0)], jQc dC dI (ca 4) dd 3 fd), ([(208, 0)], jQc dC dI (ca 4) co 2 fo), (jFra, jRS dC dI ca G0 r0 S9)]) [0, 2, 3, 4] rfl
    clear hh_97
    have hh_100 := hh_99.addI (jVl.ie hd_98)
    clear hh_99
    have hd_103 := jRS.grow (hh_100.iv 4 rfl) hb_832 (hZ_83)
    have hh_104 := hh_100.sub (L1 := [(r0, 16, 12, .int qh_83), (r0, 16, 11, .int qm_83), (r0, 16, 15, .int ql_83), (r0, 16, 16, .int qb_83), (bn, 0, 3, .int qn_83), (bv, 0, 3, .int qv_83), (bn, 0, 0, .ref xa_83), (bv, 0, 0, .ref ya_83), (r0, 16, 10, .int z_81), (r0, 16, 13, .ref bn), (r0, 16, 14, .ref bv), (r0, 16, 9, .ref kp_), (r0, 16, 7, .int pk), (r0, 16, 34, .int pi), (r0, 16, 35, .int ps), (r0, 16, 41, .ref dd), (r0, 16, 42, .int dc), (r0, 16, 60, .ref co), (r0, 16, 61, .ref cs), (r0, 16, 46, .ref ol), (r0, 16, 47, .ref nw), (r0, 16, 71, .ref td)]) [0, 1, 2, 3, 4, 5, 6, 7, 8, 9, 10, 11, 12, 13, 14, 15, 16, 17, 18, 19, 20, 21] rfl (M1 := [(kp_, 110, 3300, ca 1, fk), (cs, 207, 2, ca 1, fs)]) [0, 1] rfl (I1 := [(jF9, jVl dC dI G_83 9 ck), (jFs, jDY dC dI ca G_83 none sn), ([(201, 0)], jQc dC dI (ca 4) dd 3 fd), ([(208, 0)], jQc dC dI (ca 4) co 2 fo)]) [0, 1, 2, 3] rfl
    clear hh_100
    have hh_105 := hh_104.addI (jRS.ie hd_103)
    clear hh_104
    have hh_106 := hh_105.moreM hbM_83
    obtain ⟨hr_84b, hr_84p⟩ := hr_84
    try simp only at hr_84p
    obtain ⟨hr_84p_0, hr_84p_1, hr_84p_2, hr_84p_3, hr_84p_4, hr_84p_5, hr_84p_6, hr_84p_7, hr_84p_8, hr_84p_9, hr_84p_10, hr_84p_11, hr_84p_12, hr_84p_13, hr_84p_14, hr_84p_15⟩ := hr_84p
    have hhq9 := hr_84p_14
    have hr_84' := jb_01 hr_84b
    refine lv_if_ne (tgt := 68) hx hb dX14_byteComes_24 (by decide) (fun c_107 => ?_) (fun c_107 => ?_)
    · skip
      have c_107' : r_84.toInt ≠ 0 := jb_ne (rfl) ((by decide)) c_107
      first | (have hr_84p_2q := hr_84p_2.resolve_left (by omega); clear hr_84p_2) | (have hr_84p_2q := hr_84p_2.resolve_right (by omega); clear hr_84p_2) | skip
      first | (have hr_84p_7q := hr_84p_7.resolve_left (by omega); clear hr_84p_7) | (have hr_84p_7q := hr_84p_7.resolve_right (by omega); clear hr_84p_7) | skip
      first | (have hr_84p_13q := hr_84p_13.resolve_left (by omega); clear hr_84p_13) | (have hr_84p_13q := hr_84p_13.resolve_right (by omega); clear hr_84p_13) | skip
      refine lv_aload_n hx hb dX14_byteComes_68 rfl (lv_at hl 0 rfl) ?_
      refine j7_read hx hb hown hK (C := RX14) (T := TX14) (N := 74) rfl hly_16_11 hlk_231 (hh_106.at 1 rfl) dX14_byteComes_69 ?_
      refine lv_bipush (v := 6) hx hb dX14_byteComes_72 (by decide) ?_
      refine lv_icmp_ne (tgt := 88) hx hb dX14_byteComes_74 (by decide) (fun c_108 => ?_) (fun c_108 => ?_)
      · skip
        have c_108' : qm_83.toInt ≠ 6 := jb_ne (rfl) ((by decide)) c_108
        have hst9 := jrQ.hh (bk := pk.toInt) hpQ (by omega) (by omega) hhq9 (by omega) (by omega) (Or.inl (by omega))
        have hA_109 : S9 = S8 := by rw [hpS8]; exact hst9.2.symm
        have hAe_109 := hh_106.iv 0 rfl
        rw [hA_109] at hAe_109
        have hh_110 := hh_106.sub (L1 := [(r0, 16, 12, .int qh_83), (r0, 16, 11, .int qm_83), (r0, 16, 15, .int ql_83), (r0, 16, 16, .int qb_83), (bn, 0, 3, .int qn_83), (bv, 0, 3, .int qv_83), (bn, 0, 0, .ref xa_83), (bv, 0, 0, .ref ya_83), (r0, 16, 10, .int z_81), (r0, 16, 13, .ref bn), (r0, 16, 14, .ref bv), (r0, 16, 9, .ref kp_), (r0, 16, 7, .int pk), (r0, 16, 34, .int pi), (r0, 16, 35, .int ps), (r0, 16, 41, .ref dd), (r0, 16, 42, .int dc), (r0, 16, 60, .ref co), (r0, 16, 61, .ref cs), (r0, 16, 46, .ref ol), (r0, 16, 47, .ref nw), (r0, 16, 71, .ref td)]) [0, 1, 2, 3, 4, 5, 6, 7, 8, 9, 10, 11, 12, 13, 14, 15, 16, 17, 18, 19, 20, 21] rfl (M1 := [(xa_83, 198, m_xa_83, ca 0, gn_83), (ya_83, 198, m_ya_83, ca 0, gv_83), (kp_, 110, 3300, ca 1, fk), (cs, 207, 2, ca 1, fs)]) [0, 1, 2, 3] rfl (I1 := [(jF9, jVl dC dI G_83 9 ck), (jFs, jDY dC dI ca G_83 none sn), ([(201, 0)], jQc dC dI (ca 4) dd 3 fd), ([(208, 0)], jQc dC dI (ca 4) co 2 fo)]) [1, 2, 3, 4] rfl
        clear hh_106
        have hh_111 := hh_110.addI (jRS.ie hAe_109)
        clear hh_110
        have hsz_112 := hh_111.2.2.2.2.2.1
        have htt_112 := hh_111.2.2.2.2.2.2.1
        refine W.room (fun hrc_112 hrs_112 => ?_)
        refine W.widen (k := LC - s.heap.size) (n := LS - jTot s.heap) (by omega) (by omega) ?_
        rw [hQ]
        exact W.vret hx hb hr (fun t ht hW => ⟨⟨(qh_83, qm_83, ql_83, qb_83, qn_83, qv_83, pk, pi, ps, xa_83, m_xa_83, ya_83, m_ya_83, fk, gn_83, gv_83, G_83), rfl, by skip; (try dsimp only); rw [hpS8]; exact ⟨(by first | (with_reducible assumption) | omega), (by first | (with_reducible assumption) | omega), (by first | (with_reducible assumption) | omega), (by first | (with_reducible assumption) | omega), (by first | (with_reducible assumption) | omega), (by first | (with_reducible assumption) | omega), (by first | (with_reducible assumption) | omega), (by first | (with_reducible assumption) | omega), (by first | (with_reducible assumption) | omega), (by first | (with_reducible assumption) | omega), (by first | (with_reducible assumption) | omega), (by first | (with_reducible assumption) | omega), (by first | (with_reducible assumption) | omega), (by first | (with_reducible assumption) | omega), (by first | (with_reducible assumption) | omega), (by first | (with_reducible assumption) | omega), (by first | (with_reducible assumption) | omega), hst9.1⟩, ⟨hh_111.ra (by first | (simp only; omega) | omega) (by first | (simp only; omega) | omega) (M1 := [(r0, 16, 12, .int qh_83), (r0, 16, 11, .int qm_83), (r0, 16, 15, .int ql_83), (r0, 16, 16, .int qb_83), (bn, 0, 3, .int qn_83), (bv, 0, 3, .int qv_83), (r0, 16, 7, .int pk), (r0, 16, 34, .int pi), (r0, 16, 35, .int ps), (bn, 0, 0, .ref xa_83), (bv, 0, 0, .ref ya_83)]) [0, 1, 2, 3, 4, 5, 12, 13, 14, 6, 7] rfl ht, hgq_83_0, hgq_83_1, hNn_83, by rw [ht]; exact hh_111.2.2.2.2.2.2.2.2.sub (L1 := [(jFra, jRS dC dI ca G_83 r0 S8)]) [0] rfl, by rw [ht]; exact ⟨sn, ck, fs, fd, fo, dc, hh_111.2.2.1.sub (L1 := [(r0, 16, 41, .ref dd), (r0, 16, 42, .int dc), (r0, 16, 60, .ref co), (r0, 16, 61, .ref cs), (r0, 16, 46, .ref ol), (r0, 16, 47, .ref nw), (r0, 16, 71, .ref td)]) [15, 16, 17, 18, 19, 20, 21] rfl, hh_111.2.2.2.2.2.2.2.1.sub (L1 := [(cs, 207, 2, ca 1, fs)]) [3] rfl, hh_111.2.2.2.2.2.2.2.2.sub (L1 := [(jFs, jDY dC dI ca G_83 none sn), (jF9, jVl dC dI G_83 9 ck), ([(201, 0)], jQc dC dI (ca 4) dd 3 fd), ([(208, 0)], jQc dC dI (ca 4) co 2 fo)]) [2, 1, 3, 4] rfl, (by assumption)⟩, by rw [ht]; exact hh_111.2.2.2.2.2.2.2.1.sub [2, 0, 1] rfl⟩⟩, by rw [ht]; try exact hh_111.1.1, fun q h9 hq => by rw [ht]; try exact hh_111.1.2.1 q h9 hq⟩) hh_111.1.2.2 dX14_byteComes_88
      · skip
        have c_108' : qm_83.toInt = 6 := jb_ne_n (rfl) ((by decide)) c_108
        first | (have hr_84p_2q := hr_84p_2.resolve_left (by omega); clear hr_84p_2) | (have hr_84p_2q := hr_84p_2.resolve_right (by omega); clear hr_84p_2) | skip
        first | (have hr_84p_7q := hr_84p_7.resolve_left (by omega); clear hr_84p_7) | (have hr_84p_7q := hr_84p_7.resolve_right (by omega); clear hr_84p_7) | skip
        first | (have hr_84p_13q := hr_84p_13.resolve_left (by omega); clear hr_84p_13) | (have hr_84p_13q := hr_84p_13.resolve_right (by omega); clear hr_84p_13) | skip
        refine lv_aload_n hx hb dX14_byteComes_77 rfl (lv_at hl 0 rfl) ?_
        refine j7_read hx hb hown hK (C := RX14) (T := TX14) (N := 74) rfl hly_16_16 hlk_244 (hh_106.at 3 rfl) dX14_byteComes_78 ?_
        refine lv_aload_n hx hb dX14_byteComes_81 rfl (lv_at hl 0 rfl) ?_
        refine j7_read hx hb hown hK (C := RX14) (T := TX14) (N := 74) rfl hly_16_15 hlk_33 (hh_106.at 2 rfl) dX14_byteComes_82 ?_
        refine lv_icmp_ge (tgt := 89) hx hb dX14_byteComes_85 (by decide) (fun c_113 => ?_) (fun c_113 => ?_)
        · skip
          have c_113' : qb_83.toInt ≥ ql_83.toInt := jb_ge (rfl) (rfl) c_113
          first | (have hr_84p_2q := hr_84p_2.resolve_left (by omega); clear hr_84p_2) | (have hr_84p_2q := hr_84p_2.resolve_right (by omega); clear hr_84p_2) | skip
          first | (have hr_84p_7q := hr_84p_7.resolve_left (by omega); clear hr_84p_7) | (have hr_84p_7q := hr_84p_7.resolve_right (by omega); clear hr_84p_7) | skip
          first | (have hr_84p_13q := hr_84p_13.resolve_left (by omega); clear hr_84p_13) | (have hr_84p_13q := hr_84p_13.resolve_right (by omega); clear hr_84p_13) | skip
          refine lv_aload_n hx hb dX14_byteComes_89 rfl (lv_at hl 0 rfl) ?_
          refine j7_read hx hb hown hK (C := RX14) (T := TX14) (N := 74) rfl hly_16_15 hlk_33 (hh_106.at 2 rfl) dX14_byteComes_90 ?_
          refine lv_istore_n (lv' := [(2, .int ql_83), (0, .ref r0), (1, .int a1)]) hx hb dX14_byteComes_93 rfl hl (by decide) rfl (fun ls hl => ?_)
          refine lv_aload_n hx hb dX14_byteComes_94 rfl (lv_at hl 1 rfl) ?_
          refine lv_iconst (v := 0) hx hb dX14_byteComes_95 (by decide) ?_
          refine j7_put hx hb hown hK hh_106 hB hAp hB16 (C := RX14) (T := TX14) (N := 74) rfl (by decide) hg_85 (i := 11) (by decide) hly_16_11 rfl hlk_231 rfl (ty := .int) (v := .int 0) (by decide +kernel) rfl rfl (⟨_, rfl⟩) rfl (L1 := [(r0, 16, 12, .int qh_83), (r0, 16, 15, .int ql_83), (r0, 16, 16, .int qb_83), (bn, 0, 3, .int qn_83), (bv, 0, 3, .int qv_83), (bn, 0, 0, .ref xa_83), (bv, 0, 0, .ref ya_83), (r0, 16, 10, .int z_81), (r0, 16, 13, .ref bn), (r0, 16, 14, .ref bv), (r0, 16, 9, .ref kp_), (r0, 16, 7, .int pk), (r0, 16, 34, .int pi), (r0, 16, 35, .int ps), (r0, 16, 41, .ref dd), (r0, 16, 42, .int dc), (r0, 16, 60, .ref co), (r0, 16, 61, .ref cs), (r0, 16, 46, .ref ol), (r0, 16, 47, .ref nw), (r0, 16, 71, .ref td)]) [0, 2, 3, 4, 5, 6, 7, 8, 9, 10, 11, 12, 13, 14, 15, 16, 17, 18, 19, 20, 21] rfl rfl rfl dX14_byteComes_96 (fun H_114 locs_114 hh_114 => ?_)
          clear hh_106
          refine lv_aload_n hx hb dX14_byteComes_99 rfl (lv_at hl 1 rfl) ?_
          refine lv_iconst (v := 0) hx hb dX14_byteComes_100 (by decide) ?_
          refine j7_put hx hb hown hK hh_114 hB hAp hB16 (C := RX14) (T := TX14) (N := 74) rfl (by decide) hg_85 (i := 12) (by decide) hly_16_12 rfl hlk_228 rfl (ty := .int) (v := .int 0) (by decide +kernel) rfl rfl (⟨_, rfl⟩) rfl (L1 := [(r0, 16, 11, .int 0), (r0, 16, 15, .int ql_83), (r0, 16, 16, .int qb_83), (bn, 0, 3, .int qn_83), (bv, 0, 3, .int qv_83), (bn, 0, 0, .ref xa_83), (bv, 0, 0, .ref ya_83), (r0, 16, 10, .int z_81), (r0, 16, 13, .ref bn), (r0, 16, 14, .ref bv), (r0, 16, 9, .ref kp_), (r0, 16, 7, .int pk), (r0, 16, 34, .int pi), (r0, 16, 35, .int ps), (r0, 16, 41, .ref dd), (r0, 16, 42, .int dc), (r0, 16, 60, .ref co), (r0, 16, 61, .ref cs), (r0, 16, 46, .ref ol), (r0, 16, 47, .ref nw), (r0, 16, 71, .ref td)]) [0, 2, 3, 4, 5, 6, 7, 8, 9, 10, 11, 12, 13, 14, 15, 16, 17, 18, 19, 20, 21] rfl rfl rfl dX14_byteComes_101 (fun H_115 locs_115 hh_115 => ?_)
          clear hh_114
          refine lv_aload_n hx hb dX14_byteComes_104 rfl (lv_at hl 1 rfl) ?_
          refine lv_iconst (v := 0) hx hb dX14_byteComes_105 (by decide) ?_
          refine j7_put hx hb hown hK hh_115 hB hAp hB16 (C := RX14) (T := TX14) (N := 74) rfl (by decide) hg_85 (i := 10) (by decide) hly_16_10 rfl hlk_258 rfl (ty := .int) (v := .int 0) (by decide +kernel) rfl rfl (⟨_, rfl⟩) rfl (L1 := [(r0, 16, 12, .int 0), (r0, 16, 11, .int 0), (r0, 16, 15, .int ql_83), (r0, 16, 16, .int qb_83), (bn, 0, 3, .int qn_83), (bv, 0, 3, .int qv_83), (bn, 0, 0, .ref xa_83), (bv, 0, 0, .ref ya_83), (r0, 16, 13, .ref bn), (r0, 16, 14, .ref bv), (r0, 16, 9, .ref kp_), (r0, 16, 7, .int pk), (r0, 16, 34, .int pi), (r0, 16, 35, .int ps), (r0, 16, 41, .ref dd), (r0, 16, 42, .int dc), (r0, 16, 60, .ref co), (r0, 16, 61, .ref cs), (r0, 16, 46, .ref ol), (r0, 16, 47, .ref nw), (r0, 16, 71, .ref td)]) [0, 1, 2, 3, 4, 5, 6, 7, 9, 10, 11, 12, 13, 14, 15, 16, 17, 18, 19, 20, 21] rfl rfl rfl dX14_byteComes_106 (fun H_116 locs_116 hh_116 => ?_)
          clear hh_115
          refine lv_aload_n hx hb dX14_byteComes_109 rfl (lv_at hl 1 rfl) ?_
          refine lv_iconst (v := (-1)) hx hb dX14_byteComes_110 (by decide) ?_
          refine j7_put hx hb hown hK hh_116 hB hAp hB16 (C := RX14) (T := TX14) (N := 74) rfl (by decide) hg_85 (i := 15) (by decide) hly_16_15 rfl hlk_33 rfl (ty := .int) (v := .int (-1)) (by decide +kernel) rfl rfl (⟨_, rfl, by omega, by omega⟩) rfl (L1 := [(r0, 16, 10, .int 0), (r0, 16, 12, .int 0), (r0, 16, 11, .int 0), (r0, 16, 16, .int qb_83), (bn, 0, 3, .int qn_83), (bv, 0, 3, .int qv_83), (bn, 0, 0, .ref xa_83), (bv, 0, 0, .ref ya_83), (r0, 16, 13, .ref bn), (r0, 16, 14, .ref bv), (r0, 16, 9, .ref kp_), (r0, 16, 7, .int pk), (r0, 16, 34, .int pi), (r0, 16, 35, .int ps), (r0, 16, 41, .ref dd), (r0, 16, 42, .int dc), (r0, 16, 60, .ref co), (r0, 16, 61, .ref cs), (r0, 16, 46, .ref ol), (r0, 16, 47, .ref nw), (r0, 16, 71, .ref td)]) [0, 1, 2, 4, 5, 6, 7, 8, 9, 10, 11, 12, 13, 14, 15, 16, 17, 18, 19, 20, 21] rfl rfl rfl dX14_byteComes_111 (fun H_117 locs_117 hh_117 => ?_)
          clear hh_116
          refine lv_aload_n hx hb dX14_byteComes_114 rfl (lv_at hl 1 rfl) ?_
          refine lv_dup hx hb dX14_byteComes_115 rfl ?_
          obtain ⟨v_118, hv_118, hh_119⟩ := hh_117.pin (C := RX14) (T := TX14) (N := 74) hB16 rfl (by decide) hg_85 (i := 8) (by decide) rfl
          clear hh_117
          obtain ⟨messages_120, rfl⟩ := hv_118
          refine j7_read hx hb hown hK (C := RX14) (T := TX14) (N := 74) rfl hly_16_8 hlk_264 (hh_119.at 0 rfl) dX14_byteComes_116 ?_
          refine lv_iconst (v := 1) hx hb dX14_byteComes_119 (by decide) ?_
          refine lv_iadd hx hb dX14_byteComes_120 ?_
          refine lv_topi (fun z_121 ez_121 => ?_)
          refine j7_put hx hb hown hK hh_119 hB hAp hB16 (C := RX14) (T := TX14) (N := 74) rfl (by decide) hg_85 (i := 8) (by decide) hly_16_8 rfl hlk_264 rfl (ty := .int) (v := .int z_121) (by decide +kernel) rfl rfl (⟨_, rfl⟩) rfl (L1 := [(r0, 16, 15, .int (-1)), (r0, 16, 10, .int 0), (r0, 16, 12, .int 0), (r0, 16, 11, .int 0), (r0, 16, 16, .int qb_83), (bn, 0, 3, .int qn_83), (bv, 0, 3, .int qv_83), (bn, 0, 0, .ref xa_83), (bv, 0, 0, .ref ya_83), (r0, 16, 13, .ref bn), (r0, 16, 14, .ref bv), (r0, 16, 9, .ref kp_), (r0, 16, 7, .int pk), (r0, 16, 34, .int pi), (r0, 16, 35, .int ps), (r0, 16, 41, .ref dd), (r0, 16, 42, .int dc), (r0, 16, 60, .ref co), (r0, 16, 61, .ref cs), (r0, 16, 46, .ref ol), (r0, 16, 47, .ref nw), (r0, 16, 71, .ref td)]) [1, 2, 3, 4, 5, 6, 7, 8, 9, 10, 11, 12, 13, 14, 15, 16, 17, 18, 19, 20, 21, 22] rfl rfl rfl dX14_byteComes_121 (fun H_122 locs_122 hh_122 => ?_)
          clear hh_119
          obtain ⟨v_123, hv_123, hh_124⟩ := hh_122.pin (C := RX14) (T := TX14) (N := 74) hB16 rfl (by decide) hg_85 (i := 17) (by decide) rfl
          obtain ⟨sort_125, rfl, hg_sort_125⟩ := hv_123
          obtain ⟨f_sort_126, hh_126⟩ := hh_124.cpin hB117 (by decide) (by decide) hg_sort_125
          clear hh_124
          obtain ⟨v_127, hv_127, hh_128⟩ := hh_126.pin (C := RX14) (T := TX14) (N := 74) hB16 rfl (by decide) hg_85 (i := 18) (by decide) rfl
          obtain ⟨heir_129, rfl, hg_heir_129⟩ := hv_127
          obtain ⟨f_heir_130, hh_130⟩ := hh_128.cpin hB118 (by decide) (by decide) hg_heir_129
          clear hh_128
          obtain ⟨v_131, hv_131, hh_132⟩ := hh_130.pin (C := RX14) (T := TX14) (N := 74) hB16 rfl (by decide) hg_85 (i := 19) (by decide) rfl
          obtain ⟨next_133, rfl, hg_next_133⟩ := hv_131
          obtain ⟨f_next_134, hh_134⟩ := hh_132.cpin hB119 (by decide) (by decide) hg_next_133
          clear hh_132
          obtain ⟨v_135, hv_135, hh_136⟩ := hh_134.pin (C := RX14) (T := TX14) (N := 74) hB16 rfl (by decide) hg_85 (i := 20) (by decide) rfl
          obtain ⟨nameFrom_137, rfl, hg_nameFrom_137⟩ := hv_135
          obtain ⟨f_nameFrom_138, hh_138⟩ := hh_136.cpin hB120 (by decide) (by decide) hg_nameFrom_137
          clear hh_136
          obtain ⟨v_139, hv_139, hh_140⟩ := hh_138.pin (C := RX14) (T := TX14) (N := 74) hB16 rfl (by decide) hg_85 (i := 21) (by decide) rfl
          obtain ⟨nameTo_141, rfl, hg_nameTo_141⟩ := hv_139
          obtain ⟨f_nameTo_142, hh_142⟩ := hh_140.cpin hB121 (by decide) (by decide) hg_nameTo_141
          clear hh_140
          obtain ⟨v_143, hv_143, hh_144⟩ := hh_142.pin (C := RX14) (T := TX14) (N := 74) hB16 rfl (by decide) hg_85 (i := 22) (by decide) rfl
          obtain ⟨from_145, rfl, hg_from_145⟩ := hv_143
          obtain ⟨f_from_146, hh_146⟩ := hh_144.cpin hB122 (by decide) (by decide) hg_from_145
          clear hh_144
          obtain ⟨v_147, hv_147, hh_148⟩ := hh_146.pin (C := RX14) (T := TX14) (N := 74) hB16 rfl (by decide) hg_85 (i := 23) (by decide) rfl
          obtain ⟨to_149, rfl, hg_to_149⟩ := hv_147
          obtain ⟨f_to_150, hh_150⟩ := hh_148.cpin hB123 (by decide) (by decide) hg_to_149
          clear hh_148
          obtain ⟨v_151, hv_151, hh_152⟩ := hh_150.pin (C := RX14) (T := TX14) (N := 74) hB16 rfl (by decide) hg_85 (i := 24) (by decide) rfl
          obtain ⟨isInt_153, rfl, hg_isInt_153⟩ := hv_151
          obtain ⟨f_isInt_154, hh_154⟩ := hh_152.cpin hB124 (by decide) (by decide) hg_isInt_153
          clear hh_152
          obtain ⟨v_155, hv_155, hh_156⟩ := hh_154.pin (C := RX14) (T := TX14) (N := 74) hB16 rfl (by decide) hg_85 (i := 25) (by decide) rfl
          obtain ⟨ints_157, rfl, hg_ints_157⟩ := hv_155
          obtain ⟨f_ints_158, hh_158⟩ := hh_156.cpin hB125 (by decide) (by decide) hg_ints_157
          clear hh_156
          obtain ⟨v_159, hv_159, hh_160⟩ := hh_158.pin (C := RX14) (T := TX14) (N := 74) hB16 rfl (by decide) hg_85 (i := 27) (by decide) rfl
          obtain ⟨pool_161, rfl, hg_pool_161⟩ := hv_159
          obtain ⟨f_pool_162, hh_162⟩ := hh_160.cpin hB127 (by decide) (by decide) hg_pool_161
          clear hh_160
          obtain ⟨v_163, hv_163, hh_164⟩ := hh_162.pin (C := RX14) (T := TX14) (N := 74) hB16 rfl (by decide) hg_85 (i := 43) (by decide) rfl
          obtain ⟨changed_165, rfl, hg_changed_165⟩ := hv_163
          obtain ⟨f_changed_166, hh_166⟩ := hh_164.cpin hB112 (by decide) (by decide) hg_changed_165
          clear hh_164
          refine lv_aload_n hx hb dX14_byteComes_124 rfl (lv_at hl 1 rfl) ?_
          have hh_167 := hh_166.sub (L1 := ((r0, 16, 43, .ref changed_165) :: (r0, 16, 27, .ref pool_161) :: (r0, 16, 25, .ref ints_157) :: (r0, 16, 24, .ref isInt_153) :: (r0, 16, 23, .ref to_149) :: (r0, 16, 22, .ref from_145) :: (r0, 16, 21, .ref nameTo_141) :: (r0, 16, 20, .ref nameFrom_137) :: (r0, 16, 19, .ref next_133) :: (r0, 16, 18, .ref heir_129) :: (r0, 16, 17, .ref sort_125) :: (r0, 16, 15, .int (-1)) :: (r0, 16, 10, .int 0) :: (r0, 16, 12, .int 0) :: (r0, 16, 11, .int 0) :: (r0, 16, 16, .int qb_83) :: (bn, 0, 3, .int qn_83) :: (bv, 0, 3, .int qv_83) :: (bn, 0, 0, .ref xa_83) :: (bv, 0, 0, .ref ya_83) :: (r0, 16, 13, .ref bn) :: (r0, 16, 14, .ref bv) :: (r0, 16, 9, .ref kp_) :: (r0, 16, 7, .int pk) :: (r0, 16, 34, .int pi) :: (r0, 16, 35, .int ps) :: (r0, 16, 41, .ref dd) :: (r0, 16, 42, .int dc) :: (r0, 16, 60, .ref co) :: (r0, 16, 61, .ref cs) :: (r0, 16, 46, .ref ol) :: (r0, 16, 47, .ref nw) :: (r0, 16, 71, .ref td) :: [])) [0, 1, 2, 3, 4, 5, 6, 7, 8, 9, 10, 12, 13, 14, 15, 16, 17, 18, 19, 20, 21, 22, 23, 24, 25, 26, 27, 28, 29, 30, 31, 32, 33] rfl (M1 := [(changed_165, 112, 3100, ca 1, f_changed_166), (pool_161, 127, 3300, ca 1, f_pool_162), (ints_157, 125, 3100, ca 1, f_ints_158), (isInt_153, 124, 3100, ca 3, f_isInt_154), (to_149, 123, 3100, ca 1, f_to_150), (from_145, 122, 3100, ca 1, f_from_146), (nameTo_141, 121, 3100, ca 1, f_nameTo_142), (nameFrom_137, 120, 3100, ca 1, f_nameFrom_138), (next_133, 119, 3100, ca 1, f_next_134), (heir_129, 118, 3100, ca 1, f_heir_130), (sort_125, 117, 3100, ca 1, f_sort_126), (xa_83, 198, m_xa_83, ca 0, gn_83), (ya_83, 198, m_ya_83, ca 0, gv_83), (kp_, 110, 3300, ca 1, fk), (cs, 207, 2, ca 1, fs)]) [0, 1, 2, 3, 4, 5, 6, 7, 8, 9, 10, 11, 12, 13, 14] rfl (I1 := [(jFra, jRS dC dI ca G_83 r0 S9), (jF9, jVl dC dI G_83 9 ck), (jFs, jDY dC dI ca G_83 none sn), ([(201, 0)], jQc dC dI (ca 4) dd 3 fd), ([(208, 0)], jQc dC dI (ca 4) co 2 fo)]) [0, 1, 2, 3, 4] rfl
          clear hh_166
          refine lv_iload_n hx hb dX14_byteComes_125 rfl (lv_at hl 0 rfl) ?_
          have hsz_168 := hh_167.2.2.2.2.2.1
          have htt_168 := hh_167.2.2.2.2.2.2.1
          refine W.room (fun hrc_168 hrs_168 => ?_)
          refine va_callv (A0 := jA base) (H0 := s.heap) (va_runV (As := [.int ql_83]) (rest := []) ⟨hx, hb, hml, hown, hts⟩ (uX14_messageR l dC dI ca base B hB hAp hB14 hB15 hB16 hB101 hB103 hB110 hB112 hB117 hB118 hB119 hB120 hB121 hB122 hB123 hB124 hB125 hB127 hB150 hB151 hB152 hB153 hB154 hB155 hB156 hB157 hB158 hB159 hB160 hB161 hB162 hB163 hB164 hB165 hB166 hB167 hB168 hB169 hB190 hB191 hB192 hB193 hB194 hB195 hB201 hB202 hB203 hB204 hB206 hB207 hB208 G_83 H_122 r0 ql_83 sort_125 heir_129 next_133 nameFrom_137 nameTo_141 from_145 to_149 isInt_153 ints_157 pool_161 kp_ changed_165 pk pi ps dd dc co cs ol nw td (fun _ _ => 0) 0 0 s9.2.1 sn ck fd fo S9 ((jdMs s9.2.1 ql_83.toInt (pi.toInt + ps.toInt) S9).2.2) f_sort_126 f_heir_130 f_next_134 f_nameFrom_138 f_nameTo_142 f_from_146 f_to_150 f_isInt_154 f_ints_158 f_pool_162 fk f_changed_166 fs) (cwV 1 hts (jgV (jWr_50 _ (List.mem_of_getElem? (i := 1) rfl)) (jWr_50 _ (List.mem_of_getElem? (i := 2) rfl)) (jWr_50 _ (List.mem_of_getElem? (i := 3) rfl)) (jWr_1 _ (List.mem_of_getElem? (i := 5) rfl)) (jWr_50 _ (List.mem_of_getElem? (i := 4) rfl))) rfl rfl rfl (by decide +kernel) ⟨by rw [← hR]; exact Nat.le_of_ble_eq_true rfl, by rw [← hR]; exact Nat.le_of_ble_eq_true rfl⟩) ⟨fun a U g mk q => by obtain ⟨q0, q1, q2, qK, q10, q11, q12, q13, q14, q15, q16, q17, q18, q19, q20, q21, q22, q23, q24, q25, q26, q27, q28, q29, q30, q31, q32, q33⟩ := q; exact ⟨q0, q1, q2, jG.calling g mk a qK, (va_K.moved (Vm.Alike.refl U.vm) q10), q11, q12, q13, q14, q15, q16, q17, q18, q19, q20, q21, q22, q23, q24, q25, q26, q27, q28, q29, q30, q31, q32, q33⟩, hh_167.recv (C := RX14) (T := TX14) (N := 74) hB16 rfl (by decide) hg_85 hK, fun U hU hW => ⟨rfl, hU, hh_167.2.1, hG.step hW hU hh_167.1, va_K.moved hW.alike hK2, hg_85, hg_sort_125, hg_heir_129, hg_next_133, hg_nameFrom_137, hg_nameTo_141, hg_from_145, hg_to_149, hg_isInt_153, hg_ints_157, hg_pool_161, hg_88, hg_changed_165, hg_89, hg_90, hg_91, hg_92, hg_93, hg_94, (hh_167.2.2.1.sub (L1 := [(r0, 16, 17, .ref sort_125), (r0, 16, 18, .ref heir_129), (r0, 16, 19, .ref next_133), (r0, 16, 20, .ref nameFrom_137), (r0, 16, 21, .ref nameTo_141), (r0, 16, 22, .ref from_145), (r0, 16, 23, .ref to_149), (r0, 16, 24, .ref isInt_153), (r0, 16, 25, .ref ints_157), (r0, 16, 27, .ref pool_161), (r0, 16, 9, .ref kp_), (r0, 16, 43, .ref changed_165), (r0, 16, 7, .int pk), (r0, 16, 34, .int pi), (r0, 16, 35, .int ps), (r0, 16, 41, .ref dd), (r0, 16, 42, .int dc), (r0, 16, 60, .ref co), (r0, 16, 61, .ref cs), (r0, 16, 46, .ref ol), (r0, 16, 47, .ref nw), (r0, 16, 71, .ref td)]) [10, 9, 8, 7, 6, 5, 4, 3, 2, 1, 22, 0, 23, 24, 25, 26, 27, 28, 29, 30, 31, 32] rfl), (hh_167.2.2.2.2.2.2.2.1.sub (L1 := [(sort_125, 117, 3100, ca 1, f_sort_126), (heir_129, 118, 3100, ca 1, f_heir_130), (next_133, 119, 3100, ca 1, f_next_134), (nameFrom_137, 120, 3100, ca 1, f_nameFrom_138), (nameTo_141, 121, 3100, ca 1, f_nameTo_142), (from_145, 122, 3100, ca 1, f_from_146), (to_149, 123, 3100, ca 1, f_to_150), (isInt_153, 124, 3100, ca 3, f_isInt_154), (ints_157, 125, 3100, ca 1, f_ints_158), (pool_161, 127, 3300, ca 1, f_pool_162), (kp_, 110, 3300, ca 1, fk), (changed_165, 112, 3100, ca 1, f_changed_166), (cs, 207, 2, ca 1, fs)]) [10, 9, 8, 7, 6, 5, 4, 3, 2, 1, 13, 0, 14] rfl), (hh_167.2.2.2.2.2.2.2.2.sub (L1 := [(jFs, jDY dC dI ca G_83 none sn), (jF9, jVl dC dI G_83 9 ck), ([(201, 0)], jQc dC dI (ca 4) dd 3 fd), ([(208, 0)], jQc dC dI (ca 4) co 2 fo), (jFra, jRS dC dI ca G_83 r0 S9)]) [2, 1, 3, 4, 0] rfl), ⟨(by first | assumption | exact hBy9 | exact hBz9 | exact hFk9 | rfl | omega), (by first | omega | rfl | assumption | exact hBy9 | exact hBz9 | exact hFk9 | rfl), (by first | omega | rfl | assumption | exact hBy9 | exact hBz9 | exact hFk9 | rfl), (by first | omega | rfl | assumption | exact hBy9 | exact hBz9 | exact hFk9 | rfl), (by first | omega | rfl | assumption | exact hBy9 | exact hBz9 | exact hFk9 | rfl), (by first | omega | rfl | assumption | exact hBy9 | exact hBz9 | exact hFk9 | rfl), (by first | omega | rfl | assumption | exact hBy9 | exact hBz9 | exact hFk9 | rfl), (by first | omega | rfl | assumption | exact hBy9 | exact hBz9 | exact hFk9 | rfl), (by first | assumption | exact hBy9 | exact hBz9 | exact hFk9 | rfl | omega)⟩⟩⟩ rfl rfl hl.1 rfl (lv_room (Nat.le_of_ble_eq_true rfl)) dX14_byteComes_126 ⟨by rw [hRc]; show _ + 0 ≤ _; omega, by rw [hRs]; show _ + 0 ≤ _; omega⟩) hh_167.1 (fun q _ h => h) (fun q h => h) (fun u_168 t_168 H_168 locs_168 ht_168 hvm_168 hr_169 hb_168 hz_168 hk_168 hS_168 => ?_)
          obtain ⟨qi_168, qs_168, qb_168, ys_168, yh_168, yx_168, yf_168, yt_168, yb_168, ye_168, yi_168, yn_168, gu_168, gg_168⟩ := u_168
          rw [ht_168] at hb_168
          obtain ⟨hb_168, hbE_168⟩ := hb_168
          obtain ⟨hb_168, hbV_168⟩ := hb_168
          obtain ⟨sn_168, ck_168, fs_168, fd_168, fo_168, dc_168, hVP_168, hVM_168, hVI_168, hpu_168⟩ := hbV_168
          obtain ⟨⟨hb_1681, hb_1682, hb_1683, hb_1684, hb_1685⟩, hb_1686⟩ := hb_168
          have hh_168 : jSt (dC, dI) B base G0 G_83 EX14_byteComesR s.heap (0 + ((m_xa_83 - n_an) + (m_ya_83 - n_av))) (0 + (2 * (m_xa_83 - n_an) + 2 * (m_ya_83 - n_av))) ((r0, 16, 41, .ref dd) :: (r0, 16, 42, .int dc_168) :: (r0, 16, 60, .ref co) :: (r0, 16, 61, .ref cs) :: (r0, 16, 46, .ref ol) :: (r0, 16, 47, .ref nw) :: (r0, 16, 71, .ref td) :: (r0, 16, 34, .int qi_168) :: (r0, 16, 35, .int qs_168) :: (r0, 16, 7, .int qb_168) :: (r0, 16, 43, .ref changed_165) :: (r0, 16, 27, .ref pool_161) :: (r0, 16, 25, .ref ints_157) :: (r0, 16, 24, .ref isInt_153) :: (r0, 16, 23, .ref to_149) :: (r0, 16, 22, .ref from_145) :: (r0, 16, 21, .ref nameTo_141) :: (r0, 16, 20, .ref nameFrom_137) :: (r0, 16, 19, .ref next_133) :: (r0, 16, 18, .ref heir_129) :: (r0, 16, 17, .ref sort_125) :: (r0, 16, 15, .int (-1)) :: (r0, 16, 10, .int 0) :: (r0, 16, 12, .int 0) :: (r0, 16, 11, .int 0) :: (r0, 16, 16, .int qb_83) :: (bn, 0, 3, .int qn_83) :: (bv, 0, 3, .int qv_83) :: (bn, 0, 0, .ref xa_83) :: (bv, 0, 0, .ref ya_83) :: (r0, 16, 13, .ref bn) :: (r0, 16, 14, .ref bv) :: (r0, 16, 9, .ref kp_) :: []) [(cs, 207, 2, ca 1, fs_168), (sort_125, 117, 3100, ca 1, ys_168), (heir_129, 118, 3100, ca 1, yh_168), (next_133, 119, 3100, ca 1, yx_168), (nameFrom_137, 120, 3100, ca 1, yf_168), (nameTo_141, 121, 3100, ca 1, yt_168), (from_145, 122, 3100, ca 1, yb_168), (to_149, 123, 3100, ca 1, ye_168), (isInt_153, 124, 3100, ca 3, yi_168), (ints_157, 125, 3100, ca 1, yn_168), (pool_161, 127, 3300, ca 1, gu_168), (changed_165, 112, 3100, ca 1, gg_168), (xa_83, 198, m_xa_83, ca 0, gn_83), (ya_83, 198, m_ya_83, ca 0, gv_83), (kp_, 110, 3300, ca 1, fk)] [(jFra, jRS dC dI ca G_83 r0 ((jdMs s9.2.1 ql_83.toInt (pi.toInt + ps.toInt) S9).2.2)), (jFs, jDY dC dI ca G_83 none sn_168), (jF9, jVl dC dI G_83 9 ck_168), ([(201, 0)], jQc dC dI (ca 4) dd 3 fd_168), ([(208, 0)], jQc dC dI (ca 4) co 2 fo_168)] H_168 locs_168 := ((((((hh_167.call hb_1681 hb_1682 hb_1683 hb_1684 hS_168 rfl (L1 := [(r0, 16, 43, .ref changed_165), (r0, 16, 27, .ref pool_161), (r0, 16, 25, .ref ints_157), (r0, 16, 24, .ref isInt_153), (r0, 16, 23, .ref to_149), (r0, 16, 22, .ref from_145), (r0, 16, 21, .ref nameTo_141), (r0, 16, 20, .ref nameFrom_137), (r0, 16, 19, .ref next_133), (r0, 16, 18, .ref heir_129), (r0, 16, 17, .ref sort_125), (r0, 16, 15, .int (-1)), (r0, 16, 10, .int 0), (r0, 16, 12, .int 0), (r0, 16, 11, .int 0), (r0, 16, 16, .int qb_83), (bn, 0, 3, .int qn_83), (bv, 0, 3, .int qv_83), (bn, 0, 0, .ref xa_83), (bv, 0, 0, .ref ya_83), (r0, 16, 13, .ref bn), (r0, 16, 14, .ref bv), (r0, 16, 9, .ref kp_)]) [0, 1, 2, 3, 4, 5, 6, 7, 8, 9, 10, 11, 12, 13, 14, 15, 16, 17, 18, 19, 20, 21, 22] rfl rfl (M1 := [(xa_83, 198, m_xa_83, ca 0, gn_83), (ya_83, 198, m_ya_83, ca 0, gv_83), (kp_, 110, 3300, ca 1, fk)]) [11, 12, 13] rfl rfl (I1 := []) [] rfl rfl).more hb_1685).moreM hb_1686).more hVP_168).moreM hVM_168).addIs hVI_168).addIs hbE_168
          clear hh_167 ht_168 hvm_168 hz_168 hk_168 hS_168 hb_1681 hb_1682 hb_1683 hb_1684 hb_1685
          clear hb_1686
          clear hVP_168 hVM_168 hVI_168 hbE_168
          try simp only at hr_169
          obtain ⟨hr_169_0, hr_169_1, hr_169_2, hr_169_3, hr_169_4⟩ := hr_169
          have hm126 := hr_169_4
          have hst9 := jrQ.mm (bk := qb_168.toInt) (n := ql_83.toInt) hpQ (by omega) (by omega) hhq9 (by omega) (by omega) (by omega) (by omega) (by rcases hm126 with h | h; exact Or.inl h; exact Or.inr ⟨by have h9 := h.1; omega, h.2⟩) hr_169_0 hk0 hk0 hkm1
          have hA_170 : ((jdMs s9.2.1 ql_83.toInt (pi.toInt + ps.toInt) S9).2.2) = S8 := by rw [hpS8]; exact hst9.2.symm
          have hAe_170 := hh_168.iv 0 rfl
          rw [hA_170] at hAe_170
          have hh_171 := hh_168.sub (L1 := ((r0, 16, 41, .ref dd) :: (r0, 16, 42, .int dc_168) :: (r0, 16, 60, .ref co) :: (r0, 16, 61, .ref cs) :: (r0, 16, 46, .ref ol) :: (r0, 16, 47, .ref nw) :: (r0, 16, 71, .ref td) :: (r0, 16, 34, .int qi_168) :: (r0, 16, 35, .int qs_168) :: (r0, 16, 7, .int qb_168) :: (r0, 16, 43, .ref changed_165) :: (r0, 16, 27, .ref pool_161) :: (r0, 16, 25, .ref ints_157) :: (r0, 16, 24, .ref isInt_153) :: (r0, 16, 23, .ref to_149) :: (r0, 16, 22, .ref from_145) :: (r0, 16, 21, .ref nameTo_141) :: (r0, 16, 20, .ref nameFrom_137) :: (r0, 16, 19, .ref next_133) :: (r0, 16, 18, .ref heir_129) :: (r0, 16, 17, .ref sort_125) :: (r0, 16, 15, .int (-1)) :: (r0, 16, 10, .int 0) :: (r0, 16, 12, .int 0) :: (r0, 16, 11, .int 0) :: (r0, 16, 16, .int qb_83) :: (bn, 0, 3, .int qn_83) :: (bv, 0, 3, .int qv_83) :: (bn, 0, 0, .ref xa_83) :: (bv, 0, 0, .ref ya_83) :: (r0, 16, 13, .ref bn) :: (r0, 16, 14, .ref bv) :: (r0, 16, 9, .ref kp_) :: [])) [0, 1, 2, 3, 4, 5, 6, 7, 8, 9, 10, 11, 12, 13, 14, 15, 16, 17, 18, 19, 20, 21, 22, 23, 24, 25, 26, 27, 28, 29, 30, 31, 32] rfl (M1 := [(cs, 207, 2, ca 1, fs_168), (sort_125, 117, 3100, ca 1, ys_168), (heir_129, 118, 3100, ca 1, yh_168), (next_133, 119, 3100, ca 1, yx_168), (nameFrom_137, 120, 3100, ca 1, yf_168), (nameTo_141, 121, 3100, ca 1, yt_168), (from_145, 122, 3100, ca 1, yb_168), (to_149, 123, 3100, ca 1, ye_168), (isInt_153, 124, 3100, ca 3, yi_168), (ints_157, 125, 3100, ca 1, yn_168), (pool_161, 127, 3300, ca 1, gu_168), (changed_165, 112, 3100, ca 1, gg_168), (xa_83, 198, m_xa_83, ca 0, gn_83), (ya_83, 198, m_ya_83, ca 0, gv_83), (kp_, 110, 3300, ca 1, fk)]) [0, 1, 2, 3, 4, 5, 6, 7, 8, 9, 10, 11, 12, 13, 14] rfl (I1 := [(jFs, jDY dC dI ca G_83 none sn_168), (jF9, jVl dC dI G_83 9 ck_168), ([(201, 0)], jQc dC dI (ca 4) dd 3 fd_168), ([(208, 0)], jQc dC dI (ca 4) co 2 fo_168)]) [1, 2, 3, 4] rfl
          clear hh_168
          have hh_172 := hh_171.addI (jRS.ie hAe_170)
          clear hh_171
          have hsz_173 := hh_172.2.2.2.2.2.1
          have htt_173 := hh_172.2.2.2.2.2.2.1
          refine W.room (fun hrc_173 hrs_173 => ?_)
          refine W.widen (k := LC - s.heap.size) (n := LS - jTot s.heap) (by omega) (by omega) ?_
          rw [hQ]
          exact W.vret hx hb hr (fun t ht hW => ⟨⟨(0, 0, (-1), qb_83, qn_83, qv_83, qb_168, qi_168, qs_168, xa_83, m_xa_83, ya_83, m_ya_83, fk, gn_83, gv_83, G_83), rfl, by skip; (try dsimp only); rw [hpS8]; exact ⟨(by first | (with_reducible assumption) | omega), (by first | (with_reducible assumption) | omega), (by first | (with_reducible assumption) | omega), (by first | (with_reducible assumption) | omega), (by first | (with_reducible assumption) | omega), (by first | (with_reducible assumption) | omega), (by first | (with_reducible assumption) | omega), (by first | (with_reducible assumption) | omega), (by first | (with_reducible assumption) | omega), (by first | (with_reducible assumption) | omega), (by first | (with_reducible assumption) | omega), (by first | (with_reducible assumption) | omega), (by first | (with_reducible assumption) | omega), (by first | (with_reducible assumption) | omega), (by first | (with_reducible assumption) | omega), (by first | (with_reducible assumption) | omega), (by first | (with_reducible assumption) | omega), hst9.1 _ _ _ _ _⟩, ⟨hh_172.ra (by first | (simp only; omega) | omega) (by first | (simp only; omega) | omega) (M1 := [(r0, 16, 12, .int 0), (r0, 16, 11, .int 0), (r0, 16, 15, .int (-1)), (r0, 16, 16, .int qb_83), (bn, 0, 3, .int qn_83), (bv, 0, 3, .int qv_83), (r0, 16, 7, .int qb_168), (r0, 16, 34, .int qi_168), (r0, 16, 35, .int qs_168), (bn, 0, 0, .ref xa_83), (bv, 0, 0, .ref ya_83)]) [23, 24, 21, 25, 26, 27, 9, 7, 8, 28, 29] rfl ht, hgq_83_0, hgq_83_1, hNn_83, by rw [ht]; exact hh_172.2.2.2.2.2.2.2.2.sub (L1 := [(jFra, jRS dC dI ca G_83 r0 S8)]) [0] rfl, by rw [ht]; exact ⟨sn_168, ck_168, fs_168, fd_168, fo_168, dc_168, hh_172.2.2.1.sub (L1 := [(r0, 16, 41, .ref dd), (r0, 16, 42, .int dc_168), (r0, 16, 60, .ref co), (r0, 16, 61, .ref cs), (r0, 16, 46, .ref ol), (r0, 16, 47, .ref nw), (r0, 16, 71, .ref td)]) [0, 1, 2, 3, 4, 5, 6] rfl, hh_172.2.2.2.2.2.2.2.1.sub (L1 := [(cs, 207, 2, ca 1, fs_168)]) [0] rfl, hh_172.2.2.2.2.2.2.2.2.sub (L1 := [(jFs, jDY dC dI ca G_83 none sn_168), (jF9, jVl dC dI G_83 9 ck_168), ([(201, 0)], jQc dC dI (ca 4) dd 3 fd_168), ([(208, 0)], jQc dC dI (ca 4) co 2 fo_168)]) [1, 2, 3, 4] rfl, (by assumption)⟩, by rw [ht]; exact hh_172.2.2.2.2.2.2.2.1.sub [14, 12, 13] rfl⟩⟩, by rw [ht]; try exact hh_172.1.1, fun q h9 hq => by rw [ht]; try exact hh_172.1.2.1 q h9 hq⟩) hh_172.1.2.2 dX14_byteComes_129
        · skip
          have c_113' : qb_83.toInt < ql_83.toInt := jb_ge_n (rfl) (rfl) c_113
          first | (have hr_84p_2q := hr_84p_2.resolve_left (by omega); clear hr_84p_2) | (have hr_84p_2q := hr_84p_2.resolve_right (by omega); clear hr_84p_2) | skip
          first | (have hr_84p_7q := hr_84p_7.resolve_left (by omega); clear hr_84p_7) | (have hr_84p_7q := hr_84p_7.resolve_right (by omega); clear hr_84p_7) | skip
          first | (have hr_84p_13q := hr_84p_13.resolve_left (by omega); clear hr_84p_13) | (have hr_84p_13q := hr_84p_13.resolve_right (by omega); clear hr_84p_13) | skip
          have hst9 := jrQ.hh (bk := pk.toInt) hpQ (by omega) (by omega) hhq9 (by omega) (by omega) (Or.inr (by omega))
          have hA_174 : S9 = S8 := by rw [hpS8]; exact hst9.2.symm
          have hAe_174 := hh_106.iv 0 rfl
          rw [hA_174] at hAe_174
          have hh_175 := hh_106.sub (L1 := [(r0, 16, 12, .int qh_83), (r0, 16, 11, .int qm_83), (r0, 16, 15, .int ql_83), (r0, 16, 16, .int qb_83), (bn, 0, 3, .int qn_83), (bv, 0, 3, .int qv_83), (bn, 0, 0, .ref xa_83), (bv, 0, 0, .ref ya_83), (r0, 16, 10, .int z_81), (r0, 16, 13, .ref bn), (r0, 16, 14, .ref bv), (r0, 16, 9, .ref kp_), (r0, 16, 7, .int pk), (r0, 16, 34, .int pi), (r0, 16, 35, .int ps), (r0, 16, 41, .ref dd), (r0, 16, 42, .int dc), (r0, 16, 60, .ref co), (r0, 16, 61, .ref cs), (r0, 16, 46, .ref ol), (r0, 16, 47, .ref nw), (r0, 16, 71, .ref td)]) [0, 1, 2, 3, 4, 5, 6, 7, 8, 9, 10, 11, 12, 13, 14, 15, 16, 17, 18, 19, 20, 21] rfl (M1 := [(xa_83, 198, m_xa_83, ca 0, gn_83), (ya_83, 198, m_ya_83, ca 0, gv_83), (kp_, 110, 3300, ca 1, fk), (cs, 207, 2, ca 1, fs)]) [0, 1, 2, 3] rfl (I1 := [(jF9, jVl dC dI G_83 9 ck), (jFs, jDY dC dI ca G_83 none sn), ([(201, 0)], jQc dC dI (ca 4) dd 3 fd), ([(208, 0)], jQc dC dI (ca 4) co 2 fo)]) [1, 2, 3, 4] rfl
          clear hh_106
          have hh_176 := hh_175.addI (jRS.ie hAe_174)
          clear hh_175
          have hsz_177 := hh_176.2.2.2.2.2.1
          have htt_177 := hh_176.2.2.2.2.2.2.1
          refine W.room (fun hrc_177 hrs_177 => ?_)
          refine W.widen (k := LC - s.heap.size) (n := LS - jTot s.heap) (by omega) (by omega) ?_
          rw [hQ]
          exact W.vret hx hb hr (fun t ht hW => ⟨⟨(qh_83, qm_83, ql_83, qb_83, qn_83, qv_83, pk, pi, ps, xa_83, m_xa_83, ya_83, m_ya_83, fk, gn_83, gv_83, G_83), rfl, by skip; (try dsimp only); rw [hpS8]; exact ⟨(by first | (with_reducible assumption) | omega), (by first | (with_reducible assumption) | omega), (by first | (with_reducible assumption) | omega), (by first | (with_reducible assumption) | omega), (by first | (with_reducible assumption) | omega), (by first | (with_reducible assumption) | omega), (by first | (with_reducible assumption) | omega), (by first | (with_reducible assumption) | omega), (by first | (with_reducible assumption) | omega), (by first | (with_reducible assumption) | omega), (by first | (with_reducible assumption) | omega), (by first | (with_reducible assumption) | omega), (by first | (with_reducible assumption) | omega), (by first | (with_reducible assumption) | omega), (by first | (with_reducible assumption) | omega), (by first | (with_reducible assumption) | omega), (by first | (with_reducible assumption) | omega), hst9.1⟩, ⟨hh_176.ra (by first | (simp only; omega) | omega) (by first | (simp only; omega) | omega) (M1 := [(r0, 16, 12, .int qh_83), (r0, 16, 11, .int qm_83), (r0, 16, 15, .int ql_83), (r0, 16, 16, .int qb_83), (bn, 0, 3, .int qn_83), (bv, 0, 3, .int qv_83), (r0, 16, 7, .int pk), (r0, 16, 34, .int pi), (r0, 16, 35, .int ps), (bn, 0, 0, .ref xa_83), (bv, 0, 0, .ref ya_83)]) [0, 1, 2, 3, 4, 5, 12, 13, 14, 6, 7] rfl ht, hgq_83_0, hgq_83_1, hNn_83, by rw [ht]; exact hh_176.2.2.2.2.2.2.2.2.sub (L1 := [(jFra, jRS dC dI ca G_83 r0 S8)]) [0] rfl, by rw [ht]; exact ⟨sn, ck, fs, fd, fo, dc, hh_176.2.2.1.sub (L1 := [(r0, 16, 41, .ref dd), (r0, 16, 42, .int dc), (r0, 16, 60, .ref co), (r0, 16, 61, .ref cs), (r0, 16, 46, .ref ol), (r0, 16, 47, .ref nw), (r0, 16, 71, .ref td)]) [15, 16, 17, 18, 19, 20, 21] rfl, hh_176.2.2.2.2.2.2.2.1.sub (L1 := [(cs, 207, 2, ca 1, fs)]) [3] rfl, hh_176.2.2.2.2.2.2.2.2.sub (L1 := [(jFs, jDY dC dI ca G_83 none sn), (jF9, jVl dC dI G_83 9 ck), ([(201, 0)], jQc dC dI (ca 4) dd 3 fd), ([(208, 0)], jQc dC dI (ca 4) co 2 fo)]) [2, 1, 3, 4] rfl, (by assumption)⟩, by rw [ht]; exact hh_176.2.2.2.2.2.2.2.1.sub [2, 0, 1] rfl⟩⟩, by rw [ht]; try exact hh_176.1.1, fun q h9 hq => by rw [ht]; try exact hh_176.1.2.1 q h9 hq⟩) hh_176.1.2.2 dX14_byteComes_88
    · skip
      have c_107' : r_84.toInt = 0 := jb_ne_n (rfl) ((by decide)) c_107
      first | (have hr_84p_2q := hr_84p_2.resolve_left (by omega); clear hr_84p_2) | (have hr_84p_2q := hr_84p_2.resolve_right (by omega); clear hr_84p_2) | skip
      first | (have hr_84p_7q := hr_84p_7.resolve_left (by omega); clear hr_84p_7) | (have hr_84p_7q := hr_84p_7.resolve_right (by omega); clear hr_84p_7) | skip
      first | (have hr_84p_13q := hr_84p_13.resolve_left (by omega); clear hr_84p_13) | (have hr_84p_13q := hr_84p_13.resolve_right (by omega); clear hr_84p_13) | skip
      refine lv_aload_n hx hb dX14_byteComes_27 rfl (lv_at hl 0 rfl) ?_
      refine lv_iconst (v := 1) hx hb dX14_byteComes_28 (by decide) ?_
      refine j7_put hx hb hown hK hh_106 hB hAp hB16 (C := RX14) (T := TX14) (N := 74) rfl (by decide) hg_85 (i := 7) (by decide) hly_16_7 rfl hlk_202 rfl (ty := .boolean) (v := .int 1) (by decide +kernel) (jb_nz (Or.inr rfl)) (jb_fz (Or.inr rfl)) (⟨_, rfl, (Or.inr rfl)⟩) rfl (L1 := [(r0, 16, 12, .int qh_83), (r0, 16, 11, .int qm_83), (r0, 16, 15, .int ql_83), (r0, 16, 16, .int qb_83), (bn, 0, 3, .int qn_83), (bv, 0, 3, .int qv_83), (bn, 0, 0, .ref xa_83), (bv, 0, 0, .ref ya_83), (r0, 16, 10, .int z_81), (r0, 16, 13, .ref bn), (r0, 16, 14, .ref bv), (r0, 16, 9, .ref kp_), (r0, 16, 34, .int pi), (r0, 16, 35, .int ps), (r0, 16, 41, .ref dd), (r0, 16, 42, .int dc), (r0, 16, 60, .ref co), (r0, 16, 61, .ref cs), (r0, 16, 46, .ref ol), (r0, 16, 47, .ref nw), (r0, 16, 71, .ref td)]) [0, 1, 2, 3, 4, 5, 6, 7, 8, 9, 10, 11, 13, 14, 15, 16, 17, 18, 19, 20, 21] rfl rfl rfl dX14_byteComes_29 (fun H_178 locs_178 hh_178 => ?_)
      clear hh_106
      refine lv_aload_n hx hb dX14_byteComes_32 rfl (lv_at hl 0 rfl) ?_
      refine lv_iconst (v := 0) hx hb dX14_byteComes_33 (by decide) ?_
      refine j7_put hx hb hown hK hh_178 hB hAp hB16 (C := RX14) (T := TX14) (N := 74) rfl (by decide) hg_85 (i := 10) (by decide) hly_16_10 rfl hlk_258 rfl (ty := .int) (v := .int 0) (by decide +kernel) rfl rfl (⟨_, rfl⟩) rfl (L1 := [(r0, 16, 7, .int 1), (r0, 16, 12, .int qh_83), (r0, 16, 11, .int qm_83), (r0, 16, 15, .int ql_83), (r0, 16, 16, .int qb_83), (bn, 0, 3, .int qn_83), (bv, 0, 3, .int qv_83), (bn, 0, 0, .ref xa_83), (bv, 0, 0, .ref ya_83), (r0, 16, 13, .ref bn), (r0, 16, 14, .ref bv), (r0, 16, 9, .ref kp_), (r0, 16, 34, .int pi), (r0, 16, 35, .int ps), (r0, 16, 41, .ref dd), (r0, 16, 42, .int dc), (r0, 16, 60, .ref co), (r0, 16, 61, .ref cs), (r0, 16, 46, .ref ol), (r0, 16, 47, .ref nw), (r0, 16, 71, .ref td)]) [0, 1, 2, 3, 4, 5, 6, 7, 8, 10, 11, 12, 13, 14, 15, 16, 17, 18, 19, 20, 21] rfl rfl rfl dX14_byteComes_34 (fun H_179 locs_179 hh_179 => ?_)
      clear hh_178
      have hst9 := jrQ.x hpQ (by omega) (by omega) hhq9 (by omega) hk1
      have hA_180 : S9 = S8 := by rw [hpS8]; exact hst9.2.symm
      have hAe_180 := hh_179.iv 0 rfl
      rw [hA_180] at hAe_180
      have hh_181 := hh_179.sub (L1 := [(r0, 16, 10, .int 0), (r0, 16, 7, .int 1), (r0, 16, 12, .int qh_83), (r0, 16, 11, .int qm_83), (r0, 16, 15, .int ql_83), (r0, 16, 16, .int qb_83), (bn, 0, 3, .int qn_83), (bv, 0, 3, .int qv_83), (bn, 0, 0, .ref xa_83), (bv, 0, 0, .ref ya_83), (r0, 16, 13, .ref bn), (r0, 16, 14, .ref bv), (r0, 16, 9, .ref kp_), (r0, 16, 34, .int pi), (r0, 16, 35, .int ps), (r0, 16, 41, .ref dd), (r0, 16, 42, .int dc), (r0, 16, 60, .ref co), (r0, 16, 61, .ref cs), (r0, 16, 46, .ref ol), (r0, 16, 47, .ref nw), (r0, 16, 71, .ref td)]) [0, 1, 2, 3, 4, 5, 6, 7, 8, 9, 10, 11, 12, 13, 14, 15, 16, 17, 18, 19, 20, 21] rfl (M1 := [(xa_83, 198, m_xa_83, ca 0, gn_83), (ya_83, 198, m_ya_83, ca 0, gv_83), (kp_, 110, 3300, ca 1, fk), (cs, 207, 2, ca 1, fs)]) [0, 1, 2, 3] rfl (I1 := [(jF9, jVl dC dI G_83 9 ck), (jFs, jDY dC dI ca G_83 none sn), ([(201, 0)], jQc dC dI (ca 4) dd 3 fd), ([(208, 0)], jQc dC dI (ca 4) co 2 fo)]) [1, 2, 3, 4] rfl
      clear hh_179
      have hh_182 := hh_181.addI (jRS.ie hAe_180)
      clear hh_181
      have hsz_183 := hh_182.2.2.2.2.2.1
      have htt_183 := hh_182.2.2.2.2.2.2.1
      refine W.room (fun hrc_183 hrs_183 => ?_)
      refine W.widen (k := LC - s.heap.size) (n := LS - jTot s.heap) (by omega) (by omega) ?_
      rw [hQ]
      exact W.vret hx hb hr (fun t ht hW => ⟨⟨(qh_83, qm_83, ql_83, qb_83, qn_83, qv_83, 1, pi, ps, xa_83, m_xa_83, ya_83, m_ya_83, fk, gn_83, gv_83, G_83), rfl, by skip; (try dsimp only); rw [hpS8]; exact ⟨(by first | (with_reducible assumption) | omega), (by first | (with_reducible assumption) | omega), (by first | (with_reducible assumption) | omega), (by first | (with_reducible assumption) | omega), (by first | (with_reducible assumption) | omega), (by first | (with_reducible assumption) | omega), (by first | (with_reducible assumption) | omega), (by first | (with_reducible assumption) | omega), (by first | (with_reducible assumption) | omega), (by first | (with_reducible assumption) | omega), (by first | (with_reducible assumption) | omega), (by first | (with_reducible assumption) | omega), (by first | (with_reducible assumption) | omega), (by first | (with_reducible assumption) | omega), (by first | (with_reducible assumption) | omega), (by first | (with_reducible assumption) | omega), (by first | (with_reducible assumption) | omega), hst9.1 _ _ _ _ _ _ _ _⟩, ⟨hh_182.ra (by first | (simp only; omega) | omega) (by first | (simp only; omega) | omega) (M1 := [(r0, 16, 12, .int qh_83), (r0, 16, 11, .int qm_83), (r0, 16, 15, .int ql_83), (r0, 16, 16, .int qb_83), (bn, 0, 3, .int qn_83), (bv, 0, 3, .int qv_83), (r0, 16, 7, .int 1), (r0, 16, 34, .int pi), (r0, 16, 35, .int ps), (bn, 0, 0, .ref xa_83), (bv, 0, 0, .ref ya_83)]) [2, 3, 4, 5, 6, 7, 1, 13, 14, 8, 9] rfl ht, hgq_83_0, hgq_83_1, hNn_83, by rw [ht]; exact hh_182.2.2.2.2.2.2.2.2.sub (L1 := [(jFra, jRS dC dI ca G_83 r0 S8)]) [0] rfl, by rw [ht]; exact ⟨sn, ck, fs, fd, fo, dc, hh_182.2.2.1.sub (L1 := [(r0, 16, 41, .ref dd), (r0, 16, 42, .int dc), (r0, 16, 60, .ref co), (r0, 16, 61, .ref cs), (r0, 16, 46, .ref ol), (r0, 16, 47, .ref nw), (r0, 16, 71, .ref td)]) [15, 16, 17, 18, 19, 20, 21] rfl, hh_182.2.2.2.2.2.2.2.1.sub (L1 := [(cs, 207, 2, ca 1, fs)]) [3] rfl, hh_182.2.2.2.2.2.2.2.2.sub (L1 := [(jFs, jDY dC dI ca G_83 none sn), (jF9, jVl dC dI G_83 9 ck), ([(201, 0)], jQc dC dI (ca 4) dd 3 fd), ([(208, 0)], jQc dC dI (ca 4) co 2 fo)]) [2, 1, 3, 4] rfl, (by assumption)⟩, by rw [ht]; exact hh_182.2.2.2.2.2.2.2.1.sub [2, 0, 1] rfl⟩⟩, by rw [ht]; try exact hh_182.1.1, fun q h9 hq => by rw [ht]; try exact hh_182.1.2.1 q h9 hq⟩) hh_182.1.2.2 dX14_byteComes_37
end
