section
theorem dX0_put_0 : decode cX0_put 0 = .ok (.aload_n 0, 1) := by decide +kernel
theorem dX0_put_1 : decode cX0_put 1 = .ok (.getfield 19, 3) := by decide +kernel
theorem dX0_put_4 : decode cX0_put 4 = .ok (.aload_n 0, 1) := by decide +kernel
theorem dX0_put_5 : decode cX0_put 5 = .ok (.getfield 13, 3) := by decide +kernel
theorem dX0_put_8 : decode cX0_put 8 = .ok (.arraylength, 1) := by decide +kernel
theorem dX0_put_9 : decode cX0_put 9 = .ok (.if_icmp .lt 30, 3) := by decide +kernel
theorem dX0_put_39 : decode cX0_put 39 = .ok (.aload_n 0, 1) := by decide +kernel
theorem dX0_put_40 : decode cX0_put 40 = .ok (.getfield 19, 3) := by decide +kernel
theorem dX0_put_43 : decode cX0_put 43 = .ok (.ifCond .lt 36, 3) := by decide +kernel
theorem dX0_put_46 : decode cX0_put 46 = .ok (.aload_n 0, 1) := by decide +kernel
theorem dX0_put_47 : decode cX0_put 47 = .ok (.getfield 19, 3) := by decide +kernel
theorem dX0_put_50 : decode cX0_put 50 = .ok (.aload_n 0, 1) := by decide +kernel
theorem dX0_put_51 : decode cX0_put 51 = .ok (.getfield 13, 3) := by decide +kernel
theorem dX0_put_54 : decode cX0_put 54 = .ok (.arraylength, 1) := by decide +kernel
theorem dX0_put_55 : decode cX0_put 55 = .ok (.if_icmp .ge 24, 3) := by decide +kernel
theorem dX0_put_58 : decode cX0_put 58 = .ok (.aload_n 0, 1) := by decide +kernel
theorem dX0_put_59 : decode cX0_put 59 = .ok (.getfield 13, 3) := by decide +kernel
theorem dX0_put_62 : decode cX0_put 62 = .ok (.aload_n 0, 1) := by decide +kernel
theorem dX0_put_63 : decode cX0_put 63 = .ok (.getfield 19, 3) := by decide +kernel
theorem dX0_put_66 : decode cX0_put 66 = .ok (.iload_n 1, 1) := by decide +kernel
theorem dX0_put_67 : decode cX0_put 67 = .ok (.i2b, 1) := by decide +kernel
theorem dX0_put_68 : decode cX0_put 68 = .ok (.bastore, 1) := by decide +kernel
theorem dX0_put_69 : decode cX0_put 69 = .ok (.aload_n 0, 1) := by decide +kernel
theorem dX0_put_70 : decode cX0_put 70 = .ok (.dup, 1) := by decide +kernel
theorem dX0_put_71 : decode cX0_put 71 = .ok (.getfield 19, 3) := by decide +kernel
theorem dX0_put_74 : decode cX0_put 74 = .ok (.iconst 1, 1) := by decide +kernel
theorem dX0_put_75 : decode cX0_put 75 = .ok (.iadd, 1) := by decide +kernel
theorem dX0_put_76 : decode cX0_put 76 = .ok (.putfield 19, 3) := by decide +kernel
theorem dX0_put_79 : decode cX0_put 79 = .ok (.return_, 1) := by decide +kernel
end
section
-- new objects: raw while they are made, typed when they are whole
section J20
variable {p : Program} {l : Launch} {e : Env} {R : Room} {s : State} {m : MethodId} {args : Array Value} {below : List Frame} {meth : Method} {c : Code} {H : Heap} {locs : List Loc} {cells slots : Nat} {Q : State → Prop}
variable {cc : ByteArray} {pc : Nat} {ls : Array Slot} {rest : List Value} {dC : Nat → ClassId} {dI : Nat → Nat → Nat} {ca : Nat → ClassId} {B : jF} {base : Nat} {G0 G : jT} {E : List (Nat × Nat)} {H0 : Heap} {zc zs : Nat} {L : List jPin} {M : List jCt} {I : List jIv} {a k n i index N : Nat} {tys : List (ClassId × FieldType)} {own C : String} {T : u_T} {fs : List Value}
end J20
-- all growing Bytes hold no more than they have room for
theorem jYb.own {dC : Nat → ClassId} {dI : Nat → Nat → Nat} {G G1 : jT} {r : Nat} {H H1 : Heap} {ks : List Nat} (h : jYb dC dI G H) (ho : jOw (dC, dI) G 2 r H H1) (hle : jLe G G1) (hN : jNk ks G G1) (hk : ks.contains 2 = true) (hr : G1 r = some (2, 0) → ∃ (c : Int32) (x m : Nat), jf (dC, dI) 2 r 1 (.int c) H1 ∧ jf (dC, dI) 2 r 0 (.ref x) H1 ∧ G1 x = some (196, m) ∧ c.toInt ≤ m ∧ m ≤ 1048576) : jYb dC dI G1 H1 := fun a ha => by
  by_cases e : a = r
  · subst e; exact hr ha
  · have ha0 := hN a 2 0 ha hk
    obtain ⟨c, x, m, g1, g2, g3, g4⟩ := h a ha0
    exact ⟨c, x, m, ho a 0 1 _ e ha0 g1, ho a 0 0 _ e ha0 g2, hle _ _ g3, g4⟩
end
section
-- what a method writes of some objects only
theorem jOl.trL {D : va_G} {G G1 : jT} {k : Nat} {rs rs1 : List Nat} {H0 H H1 : Heap} (h : jOl D G k rs H0 H) (hle : jLe G G1) (h1 : jOl D G1 k rs1 H H1) (hs : ∀ x ∈ rs1, x ∈ rs) : jOl D G k rs H0 H1 := fun a n i v hne ha hf => h1 a n i v (fun q => hne (hs a q)) (hle _ _ ha) (h a n i v hne ha hf)
theorem jOl.trO {D : va_G} {G G1 : jT} {k r : Nat} {rs : List Nat} {H0 H H1 : Heap} (h : jOl D G k rs H0 H) (hle : jLe G G1) (h1 : jOw D G1 k r H H1) (hr : r ∈ rs) : jOl D G k rs H0 H1 := fun a n i v hne ha hf => h1 a n i v (fun q => hne (by rw [q]; exact hr)) (hle _ _ ha) (h a n i v hne ha hf)
end
section
theorem dX11_feed_0 : decode cX11_feed 0 = .ok (.aload_n 0, 1) := by decide +kernel
theorem dX11_feed_1 : decode cX11_feed 1 = .ok (.getfield 14, 3) := by decide +kernel
theorem dX11_feed_4 : decode cX11_feed 4 = .ok (.getfield 92, 3) := by decide +kernel
theorem dX11_feed_7 : decode cX11_feed 7 = .ok (.sipush 3980, 3) := by decide +kernel
theorem dX11_feed_10 : decode cX11_feed 10 = .ok (.if_icmp .le 5, 3) := by decide +kernel
theorem dX11_feed_13 : decode cX11_feed 13 = .ok (.iconst (-1), 1) := by decide +kernel
theorem dX11_feed_14 : decode cX11_feed 14 = .ok (.ireturn, 1) := by decide +kernel
theorem dX11_feed_15 : decode cX11_feed 15 = .ok (.aload_n 0, 1) := by decide +kernel
theorem dX11_feed_16 : decode cX11_feed 16 = .ok (.iload_n 1, 1) := by decide +kernel
theorem dX11_feed_17 : decode cX11_feed 17 = .ok (.invokevirtual 95, 3) := by decide +kernel
theorem dX11_feed_20 : decode cX11_feed 20 = .ok (.aload_n 0, 1) := by decide +kernel
theorem dX11_feed_21 : decode cX11_feed 21 = .ok (.iload_n 2, 1) := by decide +kernel
theorem dX11_feed_22 : decode cX11_feed 22 = .ok (.invokevirtual 95, 3) := by decide +kernel
theorem dX11_feed_25 : decode cX11_feed 25 = .ok (.aload_n 0, 1) := by decide +kernel
theorem dX11_feed_26 : decode cX11_feed 26 = .ok (.iload_n 3, 1) := by decide +kernel
theorem dX11_feed_27 : decode cX11_feed 27 = .ok (.invokevirtual 95, 3) := by decide +kernel
theorem dX11_feed_30 : decode cX11_feed 30 = .ok (.aload_n 0, 1) := by decide +kernel
theorem dX11_feed_31 : decode cX11_feed 31 = .ok (.iload 4, 2) := by decide +kernel
theorem dX11_feed_33 : decode cX11_feed 33 = .ok (.invokevirtual 95, 3) := by decide +kernel
theorem dX11_feed_36 : decode cX11_feed 36 = .ok (.aload_n 0, 1) := by decide +kernel
theorem dX11_feed_37 : decode cX11_feed 37 = .ok (.iload 5, 2) := by decide +kernel
theorem dX11_feed_39 : decode cX11_feed 39 = .ok (.invokevirtual 95, 3) := by decide +kernel
theorem dX11_feed_42 : decode cX11_feed 42 = .ok (.aload_n 0, 1) := by decide +kernel
theorem dX11_feed_43 : decode cX11_feed 43 = .ok (.getfield 14, 3) := by decide +kernel
theorem dX11_feed_46 : decode cX11_feed 46 = .ok (.getfield 92, 3) := by decide +kernel
theorem dX11_feed_49 : decode cX11_feed 49 = .ok (.ireturn, 1) := by decide +kernel
theorem dX11_putOnTape_0 : decode cX11_putOnTape 0 = .ok (.bipush 24, 2) := by decide +kernel
theorem dX11_putOnTape_2 : decode cX11_putOnTape 2 = .ok (.istore_n 2, 1) := by decide +kernel
theorem dX11_putOnTape_3 : decode cX11_putOnTape 3 = .ok (.iload_n 2, 1) := by decide +kernel
theorem dX11_putOnTape_4 : decode cX11_putOnTape 4 = .ok (.ifCond .lt 19, 3) := by decide +kernel
theorem dX11_putOnTape_7 : decode cX11_putOnTape 7 = .ok (.aload_n 0, 1) := by decide +kernel
theorem dX11_putOnTape_8 : decode cX11_putOnTape 8 = .ok (.getfield 14, 3) := by decide +kernel
theorem dX11_putOnTape_11 : decode cX11_putOnTape 11 = .ok (.iload_n 1, 1) := by decide +kernel
theorem dX11_putOnTape_12 : decode cX11_putOnTape 12 = .ok (.iload_n 2, 1) := by decide +kernel
theorem dX11_putOnTape_13 : decode cX11_putOnTape 13 = .ok (.ishr, 1) := by decide +kernel
theorem dX11_putOnTape_14 : decode cX11_putOnTape 14 = .ok (.invokevirtual 246, 3) := by decide +kernel
theorem dX11_putOnTape_17 : decode cX11_putOnTape 17 = .ok (.iinc 2 (-8), 3) := by decide +kernel
theorem dX11_putOnTape_20 : decode cX11_putOnTape 20 = .ok (.goto (-17), 3) := by decide +kernel
theorem dX11_putOnTape_23 : decode cX11_putOnTape 23 = .ok (.return_, 1) := by decide +kernel
end
section
-- what the kernel's walks need: raw arrays of ints, arrays whose last element is null, states, new goals
section J30
variable {p : Program} {l : Launch} {e : Env} {R : Room} {s : State} {m : MethodId} {args : Array Value} {below : List Frame} {meth : Method} {c : Code} {H : Heap} {locs : List Loc} {cells slots : Nat} {Q : State → Prop}
variable {cc : ByteArray} {pc : Nat} {ls : Array Slot} {rest : List Value} {dC : Nat → ClassId} {dI : Nat → Nat → Nat} {ca : Nat → ClassId} {B : jF} {base : Nat} {G0 G : jT} {E : List (Nat × Nat)} {H0 : Heap} {zc zs : Nat} {L : List jPin} {M : List jCt} {I : List jIv} {a a0 k k0 n n0 index : Nat} {tys : List (ClassId × FieldType)} {own C : String} {cA : ClassId}
end J30
theorem jSef.own {dC : Nat → ClassId} {dI : Nat → Nat → Nat} {G G1 : jT} {r : Nat} {H H1 : Heap} {ks : List Nat} (h : jSef dC dI G H) (ho : jOw (dC, dI) G 11 r H H1) (hle : jLe G G1) (hN : jNk ks G G1) (hk : ks.contains 11 = true) (hr : ∃ x y m : Nat, jf (dC, dI) 11 r 4 (.ref x) H1 ∧ jf (dC, dI) 11 r 5 (.ref y) H1 ∧ G1 x = some (101, m) ∧ G1 y = some (313, m) ∧ m ≤ 16) : jSef dC dI G1 H1 := fun a ha => by
  by_cases e : a = r
  · subst e; exact hr
  · have ha0 := hN a 11 0 ha hk
    obtain ⟨x, y, m, g1, g2, g3, g4, g5⟩ := h a ha0
    exact ⟨x, y, m, ho a 0 4 _ e ha0 g1, ho a 0 5 _ e ha0 g2, hle _ _ g3, hle _ _ g4, g5⟩
end
section
-- p11: bits; the tape on both sides; bytes read as UTF-8; the text that comes of them
theorem jVfd.five {f f1 f2 f3 f4 f5 : Nat → Int32} {p p1 p2 p3 p4 a b c d e : Int} (h0 : 0 ≤ p) (h1 : jVpk f f1 p a 4) (e1 : p1 = p + 4) (h2 : jVpk f1 f2 p1 b 4) (e2 : p2 = p + 8) (h3 : jVpk f2 f3 p2 c 4) (e3 : p3 = p + 12) (h4 : jVpk f3 f4 p3 d 4) (e4 : p4 = p + 16) (h5 : jVpk f4 f5 p4 e 4) : jVfd f f5 p a b c d e 20 := by
  subst e1 e2 e3 e4
  refine ⟨fun i q0 q1 => by rw [h5.1 i q0 (by omega), h4.1 i q0 (by omega), h3.1 i q0 (by omega), h2.1 i q0 (by omega), h1.1 i q0 (by omega)], fun k q0 q1 => ?_⟩
  unfold jFv
  by_cases w1 : k < 4
  · have h9 := h1.2 k q0 w1
    rw [if_pos w1, show k % 4 = k by omega, ← h9]
    unfold jB8
    rw [h5.1 (p + k) (by omega) (by omega), h4.1 (p + k) (by omega) (by omega), h3.1 (p + k) (by omega) (by omega), h2.1 (p + k) (by omega) (by omega)]
  · by_cases w2 : k < 8
    · have h9 := h2.2 (k - 4) (by omega) (by omega)
      rw [if_neg w1, if_pos w2, show k % 4 = k - 4 by omega, ← h9, show p + 4 + (k - 4) = p + k by omega]
      unfold jB8
      rw [h5.1 (p + k) (by omega) (by omega), h4.1 (p + k) (by omega) (by omega), h3.1 (p + k) (by omega) (by omega)]
    · by_cases w3 : k < 12
      · have h9 := h3.2 (k - 8) (by omega) (by omega)
        rw [if_neg w1, if_neg w2, if_pos w3, show k % 4 = k - 8 by omega, ← h9, show p + 8 + (k - 8) = p + k by omega]
        unfold jB8
        rw [h5.1 (p + k) (by omega) (by omega), h4.1 (p + k) (by omega) (by omega)]
      · by_cases w4 : k < 16
        · have h9 := h4.2 (k - 12) (by omega) (by omega)
          rw [if_neg w1, if_neg w2, if_neg w3, if_pos w4, show k % 4 = k - 12 by omega, ← h9, show p + 12 + (k - 12) = p + k by omega]
          unfold jB8
          rw [h5.1 (p + k) (by omega) (by omega)]
        · have h9 := h5.2 (k - 16) (by omega) (by omega)
          rw [if_neg w1, if_neg w2, if_neg w3, if_neg w4, show k % 4 = k - 16 by omega, ← h9, show p + 16 + (k - 16) = p + k by omega]
section JP1
variable {p : Program} {l : Launch} {e : Env} {R : Room} {s : State} {m : MethodId} {args : Array Value} {below : List Frame} {meth : Method} {c : Code} {H : Heap} {locs : List Loc} {cells slots : Nat} {Q : State → Prop}
variable {cc : ByteArray} {pc : Nat} {ls : Array Slot} {rest : List Value} {D : va_G} {cl : List vw_C} {A : Nat → Prop} {a : Nat} {tys : List (ClassId × FieldType)}
end JP1
section JP2
variable {p : Program} {l : Launch} {e : Env} {R : Room} {s : State} {m : MethodId} {args : Array Value} {below : List Frame} {meth : Method} {c : Code} {H : Heap} {locs : List Loc} {cells slots : Nat} {Q : State → Prop}
variable {cc : ByteArray} {pc : Nat} {ls : Array Slot} {rest : List Value} {dC : Nat → ClassId} {dI : Nat → Nat → Nat} {ca : Nat → ClassId} {B : jF} {base : Nat} {G0 G : jT} {E : List (Nat × Nat)} {H0 : Heap} {zc zs : Nat} {L : List jPin} {M : List jCt} {I : List jIv} {a k n : Nat} {cA : ClassId} {tys : List (ClassId × FieldType)}
theorem j7_bastU (hexec : p.tables.exec = Jvm.exec) (hb : c.code = cc) (hK : va_K (dC, dI) vwCl tys s) (hh : jSt (dC, dI) B base G0 G E H0 zc zs L M I H locs) (hB : jBok B) (hBk : ∀ n G a H, B k n G a H ↔ jAr (dC, dI) cA jBf n a H) (t0 : Nat) (ht : tys[t0]? = some (cA, .byte)) (hk : k < 1000) (hk2 : 18 ≤ k) (hE : E.contains (k, 0) = true) (oj : Nat) {kk1 : Nat} {cB : ClassId} {f : Nat → Int32} (hj : M[oj]? = some (a, kk1, n, cB, f)) {M1 : List jCt} (js : List Nat) (hjs : js.map (fun i => M[i]?) = M1.map some) (hM : M1.all (fun q => !(q.2.1 == k)) = true) (hI : I.all (fun q => !(q.1.contains (k, 0))) = true) (ha : G a = some (k, n)) {i v : Int32} {x : Int} (hi : i.toInt = x) (h12 : 0 ≤ x ∧ x < n) (hdg : decode cc pc = .ok (.bastore, 1))
    (kk : ∀ (H1 : Heap) (locs1 : List Loc) (g : Nat → Int32), g x.toNat = vp_nar .byte v → (∀ j, j < n → j ≠ x.toNat → g j = f j) → jSt (dC, dI) B base G0 G E H0 zc zs L ((a, k, n, cA, g) :: M1) I H1 locs1 → W p l e R s m args below meth c H1 locs1 cells slots Q (F0 m (pc + 1) ls rest)) : W p l e R s m args below meth c H locs cells slots Q (F0 m pc ls (.int v :: .int i :: .ref a :: rest)) := by
  obtain ⟨h1, h2⟩ := h12
  obtain ⟨f', g1, g2⟩ := hh.byt hBk hk ha
  obtain ⟨-, -, -, q4⟩ := hh.2.2.2.2.2.2.2.1 _ (List.mem_of_getElem? hj)
  have hh1 : jSt (dC, dI) B base G0 G E H0 zc zs L M1 I H locs := by
    obtain ⟨e1, e2, e3, e4, e5, e6, e7, e8, e9⟩ := hh
    exact ⟨e1, e2, e3, e4, e5, e6, e7, e8.sub js hjs, e9⟩
  refine j_bastV (A := jA base) hexec hb hK t0 g1 (hh.ab ha).1 hh.1.2.2 ht (jb_in hi h1 h2) hdg (fun H1 locs1 hat hsz hfr hT hL => ?_)
  have hfit : sb_Fit (upd f' i.toNatClampNeg (vp_nar .byte v)) := sb_fitU g2 (by rw [vp_nar_byte]; exact pk_fb v)
  have h9 := hh1.arr hB ha hk hk2 hE hM hI hsz hfr hT hL ((hBk _ _ _ _).mpr ⟨_, hat, fun j _ => hfit j⟩)
  refine kk H1 locs1 (upd f' i.toNatClampNeg (vp_nar .byte v)) (by rw [← jb_cl hi h1]; simp [upd]) (fun j hj' hne => ?_) ?_
  · have : j ≠ i.toNatClampNeg := by rw [jb_cl hi h1]; exact hne
    simp only [upd, if_neg this]
    exact (jCt_eq q4 g1 hj').symm
  · obtain ⟨e1, e2, e3, e4, e5, e6, e7, e8, e9⟩ := h9
    refine ⟨e1, e2, e3, e4, e5, e6, e7, fun q hq => ?_, e9⟩
    rcases List.mem_cons.mp hq with e | e
    · subst e; exact ⟨ha, hk2, hk, hat⟩
    · exact e8 q e
end JP2
end
