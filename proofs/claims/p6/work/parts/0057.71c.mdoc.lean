section
section
variable {p : Program} {l : Launch} {e : Env} {R : Room} {s : State} {m : MethodId} {args : Array Value} {below : List Frame} {meth : Method} {c : Code} {H : Heap} {locs : List Loc} {cells slots : Nat} {Q : State → Prop}
variable {cc : ByteArray} {pc : Nat} {ls : Array Slot} {rest : List Value}
theorem j7_nst (hexec : p.tables.exec = Jvm.exec) (hb : c.code = cc) {i nL : Nat} {lv lv' : List (Nat × Value)} (hdg : decode cc pc = .ok (.astore i, 2)) (h : lv_has ls nL lv) (hn : i < nL) (hl : (i, Value.null) :: lv.filter (fun q => !(q.1 == i) && !(q.1 + 1 == i && q.2.category == 2)) = lv')
    (kk : ∀ ls' : Array Slot, lv_has ls' nL lv' → W p l e R s m args below meth c H locs cells slots Q (F0 m (pc + 2) ls' rest)) : W p l e R s m args below meth c H locs cells slots Q (F0 m pc ls (.null :: rest)) := by
  obtain ⟨ls', e', h'⟩ := lv_store1 (v := .null) h hn rfl
  intro T hT X
  obtain ⟨t, a, b⟩ := kk ls' (hl ▸ h') T hT X
  refine ⟨t, ?_, b⟩
  jvm_step X.here [X.here.top, ↓top_set X.here.top, hexec, hb, hdg, e', Value.isRef]
  exact a
end
section
variable {p : Program} {l : Launch} {e : Env} {R : Room} {s : State} {m : MethodId} {args : Array Value} {below : List Frame} {meth : Method} {c : Code} {H : Heap} {locs : List Loc} {cells slots : Nat} {Q : State → Prop}
variable {cc : ByteArray} {pc : Nat} {ls : Array Slot} {rest : List Value}
theorem j7_nld (hexec : p.tables.exec = Jvm.exec) (hb : c.code = cc) {i : Nat} (hdg : decode cc pc = .ok (.aload i, 2)) (hl : ls[i]? = some (.val .null))
    (k : W p l e R s m args below meth c H locs cells slots Q (F0 m (pc + 2) ls (.null :: rest))) : W p l e R s m args below meth c H locs cells slots Q (F0 m pc ls (rest)) := by
  intro T hT X
  obtain ⟨t, a, b⟩ := k T hT X
  refine ⟨t, ?_, b⟩
  jvm_step X.here [X.here.top, hexec, hb, hdg, hl, Value.isRef]
  exact a
end
theorem dX14_documentOf_0 : decode cX14_documentOf 0 = .ok (.aload_n 0, 1) := by decide +kernel
theorem dX14_documentOf_1 : decode cX14_documentOf 1 = .ok (.iload_n 1, 1) := by decide +kernel
theorem dX14_documentOf_2 : decode cX14_documentOf 2 = .ok (.invokevirtual 368, 3) := by decide +kernel
theorem dX14_documentOf_5 : decode cX14_documentOf 5 = .ok (.ifCond .ne 5, 3) := by decide +kernel
theorem dX14_documentOf_8 : decode cX14_documentOf 8 = .ok (.aconst_null, 1) := by decide +kernel
theorem dX14_documentOf_9 : decode cX14_documentOf 9 = .ok (.areturn, 1) := by decide +kernel
theorem dX14_documentOf_10 : decode cX14_documentOf 10 = .ok (.iconst 0, 1) := by decide +kernel
theorem dX14_documentOf_11 : decode cX14_documentOf 11 = .ok (.istore_n 2, 1) := by decide +kernel
theorem dX14_documentOf_12 : decode cX14_documentOf 12 = .ok (.iload_n 2, 1) := by decide +kernel
theorem dX14_documentOf_13 : decode cX14_documentOf 13 = .ok (.aload_n 0, 1) := by decide +kernel
theorem dX14_documentOf_14 : decode cX14_documentOf 14 = .ok (.getfield 505, 3) := by decide +kernel
theorem dX14_documentOf_17 : decode cX14_documentOf 17 = .ok (.if_icmp .ge 104, 3) := by decide +kernel
theorem dX14_documentOf_20 : decode cX14_documentOf 20 = .ok (.aload_n 0, 1) := by decide +kernel
theorem dX14_documentOf_21 : decode cX14_documentOf 21 = .ok (.getfield 74, 3) := by decide +kernel
theorem dX14_documentOf_24 : decode cX14_documentOf 24 = .ok (.iload_n 2, 1) := by decide +kernel
theorem dX14_documentOf_25 : decode cX14_documentOf 25 = .ok (.aaload, 1) := by decide +kernel
theorem dX14_documentOf_26 : decode cX14_documentOf 26 = .ok (.astore_n 3, 1) := by decide +kernel
theorem dX14_documentOf_27 : decode cX14_documentOf 27 = .ok (.aload_n 3, 1) := by decide +kernel
theorem dX14_documentOf_28 : decode cX14_documentOf 28 = .ok (.getfield 508, 3) := by decide +kernel
theorem dX14_documentOf_31 : decode cX14_documentOf 31 = .ok (.aload_n 0, 1) := by decide +kernel
theorem dX14_documentOf_32 : decode cX14_documentOf 32 = .ok (.getfield 55, 3) := by decide +kernel
theorem dX14_documentOf_35 : decode cX14_documentOf 35 = .ok (.iload_n 1, 1) := by decide +kernel
theorem dX14_documentOf_36 : decode cX14_documentOf 36 = .ok (.iaload, 1) := by decide +kernel
theorem dX14_documentOf_37 : decode cX14_documentOf 37 = .ok (.aload_n 0, 1) := by decide +kernel
theorem dX14_documentOf_38 : decode cX14_documentOf 38 = .ok (.getfield 52, 3) := by decide +kernel
theorem dX14_documentOf_41 : decode cX14_documentOf 41 = .ok (.iload_n 1, 1) := by decide +kernel
theorem dX14_documentOf_42 : decode cX14_documentOf 42 = .ok (.iaload, 1) := by decide +kernel
theorem dX14_documentOf_43 : decode cX14_documentOf 43 = .ok (.isub, 1) := by decide +kernel
theorem dX14_documentOf_44 : decode cX14_documentOf 44 = .ok (.if_icmp .ne 7, 3) := by decide +kernel
theorem dX14_documentOf_47 : decode cX14_documentOf 47 = .ok (.iconst 1, 1) := by decide +kernel
theorem dX14_documentOf_48 : decode cX14_documentOf 48 = .ok (.goto 4, 3) := by decide +kernel
theorem dX14_documentOf_51 : decode cX14_documentOf 51 = .ok (.iconst 0, 1) := by decide +kernel
theorem dX14_documentOf_52 : decode cX14_documentOf 52 = .ok (.istore 4, 2) := by decide +kernel
theorem dX14_documentOf_54 : decode cX14_documentOf 54 = .ok (.iconst 0, 1) := by decide +kernel
theorem dX14_documentOf_55 : decode cX14_documentOf 55 = .ok (.istore 5, 2) := by decide +kernel
theorem dX14_documentOf_57 : decode cX14_documentOf 57 = .ok (.iload 5, 2) := by decide +kernel
theorem dX14_documentOf_59 : decode cX14_documentOf 59 = .ok (.aload_n 3, 1) := by decide +kernel
theorem dX14_documentOf_60 : decode cX14_documentOf 60 = .ok (.getfield 508, 3) := by decide +kernel
theorem dX14_documentOf_63 : decode cX14_documentOf 63 = .ok (.if_icmp .ge 45, 3) := by decide +kernel
theorem dX14_documentOf_66 : decode cX14_documentOf 66 = .ok (.iload 4, 2) := by decide +kernel
theorem dX14_documentOf_68 : decode cX14_documentOf 68 = .ok (.ifCond .eq 40, 3) := by decide +kernel
theorem dX14_documentOf_71 : decode cX14_documentOf 71 = .ok (.aload_n 3, 1) := by decide +kernel
theorem dX14_documentOf_72 : decode cX14_documentOf 72 = .ok (.getfield 511, 3) := by decide +kernel
theorem dX14_documentOf_75 : decode cX14_documentOf 75 = .ok (.iload 5, 2) := by decide +kernel
theorem dX14_documentOf_77 : decode cX14_documentOf 77 = .ok (.iaload, 1) := by decide +kernel
theorem dX14_documentOf_78 : decode cX14_documentOf 78 = .ok (.aload_n 0, 1) := by decide +kernel
theorem dX14_documentOf_79 : decode cX14_documentOf 79 = .ok (.getfield 65, 3) := by decide +kernel
theorem dX14_documentOf_82 : decode cX14_documentOf 82 = .ok (.aload_n 0, 1) := by decide +kernel
theorem dX14_documentOf_83 : decode cX14_documentOf 83 = .ok (.getfield 52, 3) := by decide +kernel
theorem dX14_documentOf_86 : decode cX14_documentOf 86 = .ok (.iload_n 1, 1) := by decide +kernel
theorem dX14_documentOf_87 : decode cX14_documentOf 87 = .ok (.iaload, 1) := by decide +kernel
theorem dX14_documentOf_88 : decode cX14_documentOf 88 = .ok (.iload 5, 2) := by decide +kernel
theorem dX14_documentOf_90 : decode cX14_documentOf 90 = .ok (.iadd, 1) := by decide +kernel
theorem dX14_documentOf_91 : decode cX14_documentOf 91 = .ok (.iaload, 1) := by decide +kernel
theorem dX14_documentOf_92 : decode cX14_documentOf 92 = .ok (.if_icmp .ne 7, 3) := by decide +kernel
theorem dX14_documentOf_95 : decode cX14_documentOf 95 = .ok (.iconst 1, 1) := by decide +kernel
theorem dX14_documentOf_96 : decode cX14_documentOf 96 = .ok (.goto 4, 3) := by decide +kernel
theorem dX14_documentOf_99 : decode cX14_documentOf 99 = .ok (.iconst 0, 1) := by decide +kernel
theorem dX14_documentOf_100 : decode cX14_documentOf 100 = .ok (.istore 4, 2) := by decide +kernel
theorem dX14_documentOf_102 : decode cX14_documentOf 102 = .ok (.iinc 5 1, 3) := by decide +kernel
theorem dX14_documentOf_105 : decode cX14_documentOf 105 = .ok (.goto (-48), 3) := by decide +kernel
theorem dX14_documentOf_108 : decode cX14_documentOf 108 = .ok (.iload 4, 2) := by decide +kernel
theorem dX14_documentOf_110 : decode cX14_documentOf 110 = .ok (.ifCond .eq 5, 3) := by decide +kernel
theorem dX14_documentOf_113 : decode cX14_documentOf 113 = .ok (.aload_n 3, 1) := by decide +kernel
theorem dX14_documentOf_114 : decode cX14_documentOf 114 = .ok (.areturn, 1) := by decide +kernel
theorem dX14_documentOf_115 : decode cX14_documentOf 115 = .ok (.iinc 2 1, 3) := by decide +kernel
theorem dX14_documentOf_118 : decode cX14_documentOf 118 = .ok (.goto (-106), 3) := by decide +kernel
theorem dX14_documentOf_121 : decode cX14_documentOf 121 = .ok (.aconst_null, 1) := by decide +kernel
theorem dX14_documentOf_122 : decode cX14_documentOf 122 = .ok (.areturn, 1) := by decide +kernel
theorem dX14_settleChecks_0 : decode cX14_settleChecks 0 = .ok (.aload_n 1, 1) := by decide +kernel
theorem dX14_settleChecks_1 : decode cX14_settleChecks 1 = .ok (.invokestatic 534, 3) := by decide +kernel
theorem dX14_settleChecks_4 : decode cX14_settleChecks 4 = .ok (.aload_n 1, 1) := by decide +kernel
theorem dX14_settleChecks_5 : decode cX14_settleChecks 5 = .ok (.getfield 531, 3) := by decide +kernel
theorem dX14_settleChecks_8 : decode cX14_settleChecks 8 = .ok (.iload_n 2, 1) := by decide +kernel
theorem dX14_settleChecks_9 : decode cX14_settleChecks 9 = .ok (.if_icmp .le 8, 3) := by decide +kernel
theorem dX14_settleChecks_12 : decode cX14_settleChecks 12 = .ok (.aload_n 1, 1) := by decide +kernel
theorem dX14_settleChecks_13 : decode cX14_settleChecks 13 = .ok (.iload_n 2, 1) := by decide +kernel
theorem dX14_settleChecks_14 : decode cX14_settleChecks 14 = .ok (.putfield 531, 3) := by decide +kernel
theorem dX14_settleChecks_17 : decode cX14_settleChecks 17 = .ok (.iconst 0, 1) := by decide +kernel
theorem dX14_settleChecks_18 : decode cX14_settleChecks 18 = .ok (.istore_n 3, 1) := by decide +kernel
theorem dX14_settleChecks_19 : decode cX14_settleChecks 19 = .ok (.iload_n 3, 1) := by decide +kernel
theorem dX14_settleChecks_20 : decode cX14_settleChecks 20 = .ok (.iconst 2, 1) := by decide +kernel
theorem dX14_settleChecks_21 : decode cX14_settleChecks 21 = .ok (.if_icmp .ge 36, 3) := by decide +kernel
theorem dX14_settleChecks_24 : decode cX14_settleChecks 24 = .ok (.aload_n 0, 1) := by decide +kernel
theorem dX14_settleChecks_25 : decode cX14_settleChecks 25 = .ok (.getfield 129, 3) := by decide +kernel
theorem dX14_settleChecks_28 : decode cX14_settleChecks 28 = .ok (.iload_n 3, 1) := by decide +kernel
theorem dX14_settleChecks_29 : decode cX14_settleChecks 29 = .ok (.aaload, 1) := by decide +kernel
theorem dX14_settleChecks_30 : decode cX14_settleChecks 30 = .ok (.aload_n 1, 1) := by decide +kernel
theorem dX14_settleChecks_31 : decode cX14_settleChecks 31 = .ok (.if_acmp .ne 20, 3) := by decide +kernel
theorem dX14_settleChecks_34 : decode cX14_settleChecks 34 = .ok (.aload_n 0, 1) := by decide +kernel
theorem dX14_settleChecks_35 : decode cX14_settleChecks 35 = .ok (.getfield 132, 3) := by decide +kernel
theorem dX14_settleChecks_38 : decode cX14_settleChecks 38 = .ok (.iload_n 3, 1) := by decide +kernel
theorem dX14_settleChecks_39 : decode cX14_settleChecks 39 = .ok (.iaload, 1) := by decide +kernel
theorem dX14_settleChecks_40 : decode cX14_settleChecks 40 = .ok (.iload_n 2, 1) := by decide +kernel
theorem dX14_settleChecks_41 : decode cX14_settleChecks 41 = .ok (.if_icmp .lt 10, 3) := by decide +kernel
theorem dX14_settleChecks_44 : decode cX14_settleChecks 44 = .ok (.aload_n 0, 1) := by decide +kernel
theorem dX14_settleChecks_45 : decode cX14_settleChecks 45 = .ok (.getfield 129, 3) := by decide +kernel
theorem dX14_settleChecks_48 : decode cX14_settleChecks 48 = .ok (.iload_n 3, 1) := by decide +kernel
theorem dX14_settleChecks_49 : decode cX14_settleChecks 49 = .ok (.aconst_null, 1) := by decide +kernel
theorem dX14_settleChecks_50 : decode cX14_settleChecks 50 = .ok (.aastore, 1) := by decide +kernel
theorem dX14_settleChecks_51 : decode cX14_settleChecks 51 = .ok (.iinc 3 1, 3) := by decide +kernel
theorem dX14_settleChecks_54 : decode cX14_settleChecks 54 = .ok (.goto (-35), 3) := by decide +kernel
theorem dX14_settleChecks_57 : decode cX14_settleChecks 57 = .ok (.return_, 1) := by decide +kernel
end
section
theorem dX14_modified_0 : decode cX14_modified 0 = .ok (.iconst 0, 1) := by decide +kernel
theorem dX14_modified_1 : decode cX14_modified 1 = .ok (.istore_n 2, 1) := by decide +kernel
theorem dX14_modified_2 : decode cX14_modified 2 = .ok (.iload_n 2, 1) := by decide +kernel
theorem dX14_modified_3 : decode cX14_modified 3 = .ok (.aload_n 0, 1) := by decide +kernel
theorem dX14_modified_4 : decode cX14_modified 4 = .ok (.getfield 711, 3) := by decide +kernel
theorem dX14_modified_7 : decode cX14_modified 7 = .ok (.if_icmp .ge 34, 3) := by decide +kernel
theorem dX14_modified_10 : decode cX14_modified 10 = .ok (.aload_n 0, 1) := by decide +kernel
theorem dX14_modified_11 : decode cX14_modified 11 = .ok (.getfield 91, 3) := by decide +kernel
theorem dX14_modified_14 : decode cX14_modified 14 = .ok (.iload_n 2, 1) := by decide +kernel
theorem dX14_modified_15 : decode cX14_modified 15 = .ok (.aaload, 1) := by decide +kernel
theorem dX14_modified_16 : decode cX14_modified 16 = .ok (.aload_n 1, 1) := by decide +kernel
theorem dX14_modified_17 : decode cX14_modified 17 = .ok (.if_acmp .ne 18, 3) := by decide +kernel
theorem dX14_modified_20 : decode cX14_modified 20 = .ok (.aload_n 0, 1) := by decide +kernel
theorem dX14_modified_21 : decode cX14_modified 21 = .ok (.iload_n 2, 1) := by decide +kernel
theorem dX14_modified_22 : decode cX14_modified 22 = .ok (.invokevirtual 718, 3) := by decide +kernel
theorem dX14_modified_25 : decode cX14_modified 25 = .ok (.aload_n 0, 1) := by decide +kernel
theorem dX14_modified_26 : decode cX14_modified 26 = .ok (.ldc_w 721, 3) := by decide +kernel
theorem dX14_modified_29 : decode cX14_modified 29 = .ok (.invokevirtual 425, 3) := by decide +kernel
theorem dX14_modified_32 : decode cX14_modified 32 = .ok (.goto (-30), 3) := by decide +kernel
theorem dX14_modified_35 : decode cX14_modified 35 = .ok (.iinc 2 1, 3) := by decide +kernel
theorem dX14_modified_38 : decode cX14_modified 38 = .ok (.goto (-36), 3) := by decide +kernel
theorem dX14_modified_41 : decode cX14_modified 41 = .ok (.return_, 1) := by decide +kernel
end
section
-- new cells: an array of ints that is typed at once
section J11
variable {p : Program} {l : Launch} {e : Env} {R : Room} {s : State} {m : MethodId} {args : Array Value} {below : List Frame} {meth : Method} {c : Code} {H : Heap} {locs : List Loc} {cells slots : Nat} {Q : State → Prop}
variable {cc : ByteArray} {pc : Nat} {ls : Array Slot} {rest : List Value} {dC : Nat → ClassId} {dI : Nat → Nat → Nat} {ca : Nat → ClassId} {B : jF} {base : Nat} {G0 G : jT} {E : List (Nat × Nat)} {H0 : Heap} {zc zs : Nat} {L : List jPin} {M : List jCt} {I : List jIv} {k n : Nat} {P : Nat → Int32 → Prop} {cA : ClassId} {tys : List (ClassId × FieldType)}
/-- what a method that makes cells leaves -/
def jRa (D : va_G) (B : jF) (base : Nat) (G0 G1 : jT) (E : List (Nat × Nat)) (H0 : Heap) (zc zs : Nat) (M : List jPin) (H1 : Heap) : Prop := jX B base G1 [] H1 ∧ jLe G0 G1 ∧ jKp D G0 E H0 H1 ∧ H1.size ≤ H0.size + zc ∧ jTot H1 ≤ jTot H0 + zs ∧ jP D G1 H1 M
theorem jSt.ra (hh : jSt (dC, dI) B base G0 G E H0 zc zs L M I H locs) {zc1 zs1 : Nat} (hc : zc ≤ zc1) (hs1 : zs ≤ zs1) {M1 : List jPin} (is : List Nat) (hs : is.map (fun i => L[i]?) = M1.map some) {t : State} (ht : t.heap = H) : jRa (dC, dI) B base G0 G E H0 zc1 zs1 M1 t.heap := by
  rw [ht]
  obtain ⟨h1, h2, h3, h4, h5, h6, h7, h8, h9⟩ := hh
  exact ⟨h2, h5, h4, by omega, by omega, h3.sub is hs⟩
end J11
end
section
-- how a text is parted, as functions
theorem jGa_b {f : Nat → Int32} {n i i1 : Int} {k : Nat} (hk : 0 < k) (hi : i < n) (hb : jBlk (jSo f i) = 1) (e : i1 = i + 1) : jGa f n (k - 1) i1 = jGa f n k i := by rw [jGa_s hk, if_pos hi, if_pos hb, e]
theorem jGa_c {f : Nat → Int32} {n i i1 : Int} {k : Nat} (hk : 0 < k) (hi : i < n) (hb : jBlk (jSo f i) = 0) (ho : jOpI f i n = 1) (h0 : 0 ≤ i1) (e : i1 = jBcc f n i) : jGa f n (k - 1) i1 = jGa f n k i := by
  rw [jGa_s hk, if_pos hi, if_neg (by omega), if_pos ⟨ho, by omega⟩, e]
theorem jGa_x {f : Nat → Int32} {n i r : Int} {k : Nat} (hk : 0 < k) (hi : i < n) (hb : jBlk (jSo f i) = 0) (ho : jOpI f i n = 0 ∨ jBcc f n i < 0) (e : r = i) : r = jGa f n k i := by
  rw [jGa_s hk, if_pos hi, if_neg (by omega), if_neg (by omega), e]
theorem jGa_n {f : Nat → Int32} {n i r : Int} {k : Nat} (hk : 0 < k) (hi : n ≤ i) (e : r = n) : r = jGa f n k i := by rw [jGa_s hk, if_neg (by omega), e]
theorem jSx_c {f : Nat → Int32} {n i i1 : Int} {k : Nat} (hk : 0 < k) (hi : i < n) (ho : jOpI f i n = 1) (h0 : 0 ≤ i1) (e : i1 = jBcc f n i) : jSx f n (k - 1) i1 = jSx f n k i := by rw [jSx_s hk, if_pos hi, if_pos ho, if_neg (by omega), e]
theorem jSx_u {f : Nat → Int32} {n i r b : Int} {k : Nat} (hk : 0 < k) (hi : i < n) (ho : jOpI f i n = 1) (h0 : b < 0) (e : b = jBcc f n i) (er : r = -1) : r = jSx f n k i := by rw [jSx_s hk, if_pos hi, if_pos ho, if_pos (by omega), er]
theorem jSx_n {f : Nat → Int32} {n i i1 : Int} {k : Nat} (hk : 0 < k) (hi : i < n) (ho : jOpI f i n = 0) (hd : jDt f n i = 0) (e : i1 = i + 1) : jSx f n (k - 1) i1 = jSx f n k i := by rw [jSx_s hk, if_pos hi, if_neg (by omega), if_neg (by omega), e]
theorem jSx_d {f : Nat → Int32} {n i r : Int} {k : Nat} (hk : 0 < k) (hi : i < n) (ho : jOpI f i n = 0) (hd : jDt f n i = 1) (e : r = i + 1) : r = jSx f n k i := by rw [jSx_s hk, if_pos hi, if_neg (by omega), if_pos hd, e]
theorem jSx_o {f : Nat → Int32} {n i r : Int} {k : Nat} (hk : 0 < k) (hi : n ≤ i) (e : r = -1) : r = jSx f n k i := by rw [jSx_s hk, if_neg (by omega), e]
theorem jDt_1 {f : Nat → Int32} {n i : Int} (h : jSo f i = 46) (h1 : i + 1 = n ∨ jBlk (jSo f (i + 1)) = 1 ∨ jOpI f (i + 1) n = 1) : jDt f n i = 1 := by unfold jDt; rw [if_pos ⟨h, h1⟩]
theorem jDt_0 {f : Nat → Int32} {n i : Int} (h : jSo f i ≠ 46 ∨ (i + 1 ≠ n ∧ jBlk (jSo f (i + 1)) = 0 ∧ jOpI f (i + 1) n = 0)) : jDt f n i = 0 := by unfold jDt; rw [if_neg (by omega)]
theorem jPn_l {f : Nat → Int32} {n i i1 c c1 : Int} {k k1 : Nat} (hk : 0 < k) (hk1 : 0 < k1) (hi : i < n) (hc : c = 39) (e : n ≤ i1) (ec : c1 = 40) : jPn f n k1 i1 c1 = jPn f n k i c := by rw [jPn_s hk, if_pos hi, if_pos hc, jPn_s hk1, if_neg (by omega), ec]
theorem jUpd.two {n : Int} {f g h : Nat → Int32} {i v w : Int} (h1 : jUpd n f g i v) (h2 : jUpd n g h i w) : jUpd n f h i w := ⟨h2.1, fun j q0 q1 q2 => (h2.2 j q0 q1 q2).trans (h1.2 j q0 q1 q2)⟩
end
section
def EX14_behindGapsKv9 : List (Nat × Nat) := []
def EX14_sentenceEndKv9 : List (Nat × Nat) := []
set_option maxHeartbeats 4000000 in
set_option maxRecDepth 20000 in
theorem uX14_behindGapsKv9 (l : Launch) (dC : Nat → ClassId) (dI : Nat → Nat → Nat) (ca : Nat → ClassId) (base : Nat) (B : jF) (hB : jBok B) (hAp : jAp (dC, dI)) (hB101 : ∀ n G a H, B 101 n G a H ↔ jAr (dC, dI) (ca 1) (fun j z => True) n a H) (hB194 : ∀ n G a H, B 194 n G a H ↔ jAr (dC, dI) (ca 1) (fun j z => True) n a H) (G0 : jT) (H0 : Heap) (r0 : Nat) (a1 : Int32) (a2 : Int32) (n0 : Nat) (f0 : Nat → Int32) : Met l yX14_behindGaps (jw yX14_behindGaps cX14_behindGaps 4 (some .int)) ({ frames := 2, cells := 0, slots := 0, locals := 46 }) (va_Pc [.ref r0, .int a1, .int a2] (fun U => U.heap = H0 ∧ jX B base G0 [] H0 ∧ jG dC dI ca base U ∧ G0 r0 = some (194, n0) ∧ jP (dC, dI) G0 H0 [] ∧ jMc (dC, dI) G0 H0 [(r0, 194, n0, ca 1, f0)] ∧ 0 ≤ a1.toInt ∧ a1.toInt ≤ a2.toInt ∧ a2.toInt ≤ n0 ∧ n0 ≤ 200000)) (va_Qi (S := Unit) (fun r u => (r.toInt = jGap f0 a2.toInt a1.toInt ∧ a1.toInt ≤ r.toInt ∧ r.toInt ≤ a2.toInt)) (fun u t => jRt (dC, dI) B base G0 EX14_behindGapsKv9 H0 [] t.heap) (jA base)) 0 0 (jA base) := by
  refine Met.ofW (cc := cX14_behindGaps) (maxL := 4) (ret := (some .int)) (by decide) rfl ?_
  intro p e s m args below meth c s₁ Bd hml hv
  obtain ⟨rfl, hH0, hX, hG, hg_r0, hP0, hM0, hp0, hp1, hp2, hp3⟩ := hv
  have hK := hG.1
  have hx := Bd.exec
  have hb := Bd.bytes
  have hr := Bd.returns
  have hts := atoms_spec (ws := (jw yX14_behindGaps cX14_behindGaps 4 (some .int))) Bd.pre
  have htw : ∀ w ∈ jWl, w.before _ s = true := fun w h => hts w (List.mem_cons_of_mem _ h)
  have hown : s.vm.findClass RX14 = some m.cls := findClass_of_methodNamed Bd.named
  have hlocks := Bd.notSynchronized
  obtain ⟨Q, hQ⟩ : ∃ Q, Q = MQ below (va_Qi (S := Unit) (fun r u => (r.toInt = jGap f0 a2.toInt a1.toInt ∧ a1.toInt ≤ r.toInt ∧ r.toInt ≤ a2.toInt)) (fun u t => jRt (dC, dI) B base G0 EX14_behindGapsKv9 H0 [] t.heap) (jA base)) ([.ref r0, .int a1, .int a2] : List Value).toArray s 0 0 (jA base) := ⟨_, rfl⟩
  rw [← hQ]
  have hl := lv_entry ([.ref r0, .int a1, .int a2]) (n := 4) (Nat.le_of_ble_eq_true rfl)
  rw [lg_entry_eq]
  generalize (lg_sl ([.ref r0, .int a1, .int a2]) ++ List.replicate (4 - (lg_sl ([.ref r0, .int a1, .int a2])).length) Slot.unset).toArray = ls at hl ⊢
  have hl : lv_has ls 4 [(0, .ref r0), (1, .int a1), (2, .int a2)] := hl
  generalize hR : (headSpec (jw yX14_behindGaps cX14_behindGaps 4 (some .int)) ({ frames := 2, cells := 0, slots := 0, locals := 46 })).room = R
  subst hH0
  have hh : jSt (dC, dI) B base G0 G0 EX14_behindGapsKv9 s.heap 0 0 [] [(r0, 194, n0, ca 1, f0)] [] s.heap [] := jSt.start hX hP0 hM0 jIs.nil
  clear hX hP0
  have hk0 : (0 : Int32).toInt = 0 := by decide
  have hk1 : (1 : Int32).toInt = 1 := by decide
  have hrg_a1 := jb_rng a1
  have hrg_a2 := jb_rng a2
  refine lv_iload_n hx hb dX14_behindGaps_0 rfl (lv_at hl 1 rfl) ?_
  refine lv_istore_n (lv' := [(3, .int a1), (0, .ref r0), (1, .int a1), (2, .int a2)]) hx hb dX14_behindGaps_1 rfl hl (by decide) rfl (fun ls hl => ?_)
  have L2 : ∀ (N : Nat) (v3_1 : Int32) (kf : Nat) (H_1 : Heap) (locs_1 : List Loc), jSt (dC, dI) B base G0 G0 EX14_behindGapsKv9 s.heap 0 0 [] [(r0, 194, n0, ca 1, f0)] [] H_1 locs_1 → (a1.toInt ≤ v3_1.toInt ∧ v3_1.toInt ≤ a2.toInt ∧ a2.toInt - v3_1.toInt < kf ∧ jGa f0 a2.toInt kf v3_1.toInt = jGap f0 a2.toInt a1.toInt) → (a2.toInt - v3_1.toInt : Int) < N → ∀ ls : Array Slot, lv_has ls 4 [(0, .ref r0), (1, .int a1), (2, .int a2), (3, .int v3_1)] → W p l e R s m ([.ref r0, .int a1, .int a2] : List Value).toArray below meth c H_1 locs_1 0 0 Q (F0 m 2 ls []) := by
    intro N
    induction N with
    | zero => intro v3_1 kf H_1 locs_1 hh_1  hi_1 hm; exact absurd hm (by omega)
    | succ N L2 =>
      intro v3_1 kf H_1 locs_1 hh_1  hi_1 hm_1 ls hl
      obtain ⟨hi_1_0, hi_1_1, hi_1_2, hi_1_3⟩ := hi_1
      refine lv_iload_n hx hb dX14_behindGaps_2 rfl (lv_at hl 3 rfl) ?_
      refine lv_iload_n hx hb dX14_behindGaps_3 rfl (lv_at hl 2 rfl) ?_
      refine lv_icmp_ge (tgt := 52) hx hb dX14_behindGaps_4 (by decide) (fun c_2 => ?_) (fun c_2 => ?_)
      · skip
        have c_2' : v3_1.toInt ≥ a2.toInt := jb_ge (rfl) (rfl) c_2
        refine lv_iload_n hx hb dX14_behindGaps_52 rfl (lv_at hl 2 rfl) ?_
        rw [hQ]
        exact W.iret (v := a2) hx hb hr (fun t ht hW => ⟨⟨a2, (), rfl, by refine ⟨?_, by omega, by omega⟩; exact (jGa_n (by omega) (by omega) rfl).trans hi_1_3, hh_1.rt (M1 := []) [] rfl ht⟩, by rw [ht]; try exact hh_1.1.1, fun q h9 hq => by rw [ht]; try exact hh_1.1.2.1 q h9 hq⟩) hh_1.1.2.2 dX14_behindGaps_53
      · skip
        have c_2' : v3_1.toInt < a2.toInt := jb_ge_n (rfl) (rfl) c_2
        refine lv_aload_n hx hb dX14_behindGaps_7 rfl (lv_at hl 0 rfl) ?_
        refine lv_iload_n hx hb dX14_behindGaps_8 rfl (lv_at hl 3 rfl) ?_
        refine j7_ialdM hx hb hK hh_1 hB194 1 rfl (by decide) hg_r0 (x := v3_1.toInt) (rfl) (by omega) (j := 0) rfl dX14_behindGaps_9 (fun z_3 ez_3 (hz_3 : True) => ?_)
        have hqz_3 : z_3.toInt = jSo f0 (v3_1.toInt) := by unfold jSo; rw [ez_3]
        refine va_calli (A0 := jA base) (H0 := s.heap) (va_runS (As := [.int z_3]) (rest := []) ⟨hx, hb, hml, hown, hts⟩ (uX14_isBlankK l dC dI ca base B hB hAp G0 H_1 z_3) (va_cwS 1 hts (jgS (jWr_57 _ (List.mem_of_getElem? (i := 16) rfl)) (jWr_57 _ (List.mem_of_getElem? (i := 17) rfl)) (jWr_1 _ (List.mem_of_getElem? (i := 5) rfl)) (jWr_57 _ (List.mem_of_getElem? (i := 18) rfl))) rfl rfl rfl (by decide +kernel) ⟨by rw [← hR]; exact Nat.le_of_ble_eq_true rfl, by rw [← hR]; exact Nat.le_of_ble_eq_true rfl⟩) ⟨fun a U g mk q => by obtain ⟨q0, q1, q2, qK, q10, q11⟩ := q; exact ⟨q0, q1, q2, jG.calling g mk a qK, q10, q11⟩, fun U hU hW => ⟨rfl, hU, hh_1.2.1, hG.step hW hU hh_1.1, jP.nil, trivial⟩⟩ rfl rfl hl.1 rfl (lv_room (Nat.le_of_ble_eq_true rfl)) dX14_behindGaps_10 ⟨Nat.zero_le _, Nat.zero_le _⟩) hh_1.1 (fun q _ h => h) (fun q h => h) (fun r_5 u_4 t_4 H_4 locs_4 ht_4 hvm_4 hr_5 hb_4 hz_4 hk_4 hS_4 => ?_)
        rw [ht_4] at hb_4
        obtain ⟨hb_41, hb_42, hb_43, hb_44, hb_45⟩ := hb_4
        have hh_4 : jSt (dC, dI) B base G0 G0 EX14_behindGapsKv9 s.heap 0 0 [] [(r0, 194, n0, ca 1, f0)] [] H_4 locs_4 := ((hh_1.call hb_41 hb_42 hb_43 hb_44 hS_4 rfl (L1 := []) [] rfl rfl (M1 := [(r0, 194, n0, ca 1, f0)]) [0] rfl rfl (I1 := []) [] rfl rfl).more hb_45)
        clear hh_1 ht_4 hvm_4 hz_4 hk_4 hS_4 hb_41 hb_42 hb_43 hb_44 hb_45
        obtain ⟨hr_5b, hr_5p⟩ := hr_5
        have hr_5' := jb_01 hr_5b
        refine lv_if_eq (tgt := 22) hx hb dX14_behindGaps_13 (by decide) (fun c_6 => ?_) (fun c_6 => ?_)
        · skip
          have c_6' : r_5.toInt = 0 := jb_eq (rfl) ((by decide)) c_6
          refine lv_aload_n hx hb dX14_behindGaps_22 rfl (lv_at hl 0 rfl) ?_
          refine lv_iload_n hx hb dX14_behindGaps_23 rfl (lv_at hl 3 rfl) ?_
          refine lv_iload_n hx hb dX14_behindGaps_24 rfl (lv_at hl 2 rfl) ?_
          refine va_calli (A0 := jA base) (H0 := s.heap) (va_runS (As := [.ref r0, .int v3_1, .int a2]) (rest := []) ⟨hx, hb, hml, hown, hts⟩ (uX14_opensv9 l dC dI ca base B hB hAp hB194 G0 H_4 r0 v3_1 a2 n0 f0) (va_cwS 3 hts (jgS (jWr_57 _ (List.mem_of_getElem? (i := 19) rfl)) (jWr_57 _ (List.mem_of_getElem? (i := 20) rfl)) (jWr_1 _ (List.mem_of_getElem? (i := 5) rfl)) (jWr_57 _ (List.mem_of_getElem? (i := 21) rfl))) rfl rfl rfl (by decide +kernel) ⟨by rw [← hR]; exact Nat.le_of_ble_eq_true rfl, by rw [← hR]; exact Nat.le_of_ble_eq_true rfl⟩) ⟨fun a U g mk q => by obtain ⟨q0, q1, q2, qK, q10, q11, q12, q13⟩ := q; exact ⟨q0, q1, q2, jG.calling g mk a qK, q10, q11, q12, q13⟩, fun U hU hW => ⟨rfl, hU, hh_4.2.1, hG.step hW hU hh_4.1, hg_r0, jP.nil, (hh_4.2.2.2.2.2.2.2.1.sub (L1 := [(r0, 194, n0, ca 1, f0)]) [0] rfl), by first | omega | (refine ⟨?_, ?_, ?_, ?_, ?_⟩ <;> (first | omega | rfl | assumption | decide | exact Or.inl rfl | exact Or.inr rfl | (simp only; omega)))⟩⟩ rfl rfl hl.1 rfl (lv_room (Nat.le_of_ble_eq_true rfl)) dX14_behindGaps_25 ⟨Nat.zero_le _, Nat.zero_le _⟩) hh_4.1 (fun q _ h => h) (fun q h => h) (fun r_8 u_7 t_7 H_7 locs_7 ht_7 hvm_7 hr_8 hb_7 hz_7 hk_7 hS_7 => ?_)
          rw [ht_7] at hb_7
          obtain ⟨hb_71, hb_72, hb_73, hb_74, hb_75⟩ := hb_7
          have hh_7 : jSt (dC, dI) B base G0 G0 EX14_behindGapsKv9 s.heap 0 0 [] [(r0, 194, n0, ca 1, f0)] [] H_7 locs_7 := ((hh_4.call hb_71 hb_72 hb_73 hb_74 hS_7 rfl (L1 := []) [] rfl rfl (M1 := [(r0, 194, n0, ca 1, f0)]) [0] rfl rfl (I1 := []) [] rfl rfl).more hb_75)
          clear hh_4 ht_7 hvm_7 hz_7 hk_7 hS_7 hb_71 hb_72 hb_73 hb_74 hb_75
          obtain ⟨hr_8b, hr_8p⟩ := hr_8
          obtain ⟨hr_8p_0, hr_8p_1⟩ := hr_8p
          have hr_8' := jb_01 hr_8b
          refine lv_if_eq (tgt := 50) hx hb dX14_behindGaps_28 (by decide) (fun c_9 => ?_) (fun c_9 => ?_)
          · skip
            have c_9' : r_8.toInt = 0 := jb_eq (rfl) ((by decide)) c_9
            refine lv_iload_n hx hb dX14_behindGaps_50 rfl (lv_at hl 3 rfl) ?_
            rw [hQ]
            exact W.iret (v := v3_1) hx hb hr (fun t ht hW => ⟨⟨v3_1, (), rfl, by refine ⟨?_, by omega, by omega⟩; exact (jGa_x (by omega) (by omega) (by rw [← hqz_3, ← hr_5p]; omega) (by first | exact Or.inl (by omega) | exact Or.inr (by have h9 := (zz_none); unfold jBcc; omega)) rfl).trans hi_1_3, hh_7.rt (M1 := []) [] rfl ht⟩, by rw [ht]; try exact hh_7.1.1, fun q h9 hq => by rw [ht]; try exact hh_7.1.2.1 q h9 hq⟩) hh_7.1.2.2 dX14_behindGaps_51
          · skip
            have c_9' : r_8.toInt ≠ 0 := jb_eq_n (rfl) ((by decide)) c_9
            refine lv_aload_n hx hb dX14_behindGaps_31 rfl (lv_at hl 0 rfl) ?_
            refine lv_iload_n hx hb dX14_behindGaps_32 rfl (lv_at hl 3 rfl) ?_
            refine lv_iload_n hx hb dX14_behindGaps_33 rfl (lv_at hl 2 rfl) ?_
            refine va_calli (A0 := jA base) (H0 := s.heap) (va_runS (As := [.ref r0, .int v3_1, .int a2]) (rest := []) ⟨hx, hb, hml, hown, hts⟩ (uX14_behindCommentv9 l dC dI ca base B hB hAp hB101 hB194 G0 H_7 r0 v3_1 a2 n0 f0) (va_cwS 3 hts (jgS (jWr_57 _ (List.mem_of_getElem? (i := 22) rfl)) (jWr_57 _ (List.mem_of_getElem? (i := 23) rfl)) (jWr_1 _ (List.mem_of_getElem? (i := 5) rfl)) (jWr_58 _ (List.mem_of_getElem? (i := 0) rfl))) rfl rfl rfl (by decide +kernel) ⟨by rw [← hR]; exact Nat.le_of_ble_eq_true rfl, by rw [← hR]; exact Nat.le_of_ble_eq_true rfl⟩) ⟨fun a U g mk q => by obtain ⟨q0, q1, q2, qK, q10, q11, q12, q13⟩ := q; exact ⟨q0, q1, q2, jG.calling g mk a qK, q10, q11, q12, q13⟩, fun U hU hW => ⟨rfl, hU, hh_7.2.1, hG.step hW hU hh_7.1, hg_r0, jP.nil, (hh_7.2.2.2.2.2.2.2.1.sub (L1 := [(r0, 194, n0, ca 1, f0)]) [0] rfl), by first | omega | (refine ⟨?_, ?_, ?_, ?_⟩ <;> (first | omega | rfl | assumption | decide | exact Or.inl rfl | exact Or.inr rfl | (simp only; omega)))⟩⟩ rfl rfl hl.1 rfl (lv_room (Nat.le_of_ble_eq_true rfl)) dX14_behindGaps_34 ⟨Nat.zero_le _, Nat.zero_le _⟩) hh_7.1 (fun q _ h => h) (fun q h => h) (fun r_11 u_10 t_10 H_10 locs_10 ht_10 hvm_10 hr_11 hb_10 hz_10 hk_10 hS_10 => ?_)
            rw [ht_10] at hb_10
            obtain ⟨hb_101, hb_102, hb_103, hb_104, hb_105⟩ := hb_10
            have hh_10 : jSt (dC, dI) B base G0 G0 EX14_behindGapsKv9 s.heap 0 0 [] [(r0, 194, n0, ca 1, f0)] [] H_10 locs_10 := ((hh_7.call hb_101 hb_102 hb_103 hb_104 hS_10 rfl (L1 := []) [] rfl rfl (M1 := [(r0, 194, n0, ca 1, f0)]) [0] rfl rfl (I1 := []) [] rfl rfl).more hb_105)
            clear hh_7 ht_10 hvm_10 hz_10 hk_10 hS_10 hb_101 hb_102 hb_103 hb_104 hb_105
            obtain ⟨hr_11_0, hr_11_1, hr_11_2, hr_11_3⟩ := hr_11
            refine lv_if_lt (tgt := 50) hx hb dX14_behindGaps_37 (by decide) (fun c_12 => ?_) (fun c_12 => ?_)
            · skip
              have c_12' : r_11.toInt < 0 := jb_lt (rfl) ((by decide)) c_12
              first | (have hr_11_3q := hr_11_3.resolve_left (by omega); clear hr_11_3) | (have hr_11_3q := hr_11_3.resolve_right (by omega); clear hr_11_3) | try clear hr_11_3
              refine lv_iload_n hx hb dX14_behindGaps_50 rfl (lv_at hl 3 rfl) ?_
              rw [hQ]
              exact W.iret (v := v3_1) hx hb hr (fun t ht hW => ⟨⟨v3_1, (), rfl, by refine ⟨?_, by omega, by omega⟩; exact (jGa_x (by omega) (by omega) (by rw [← hqz_3, ← hr_5p]; omega) (by first | exact Or.inl (by omega) | exact Or.inr (by have h9 := hr_11_0; unfold jBcc; omega)) rfl).trans hi_1_3, hh_10.rt (M1 := []) [] rfl ht⟩, by rw [ht]; try exact hh_10.1.1, fun q h9 hq => by rw [ht]; try exact hh_10.1.2.1 q h9 hq⟩) hh_10.1.2.2 dX14_behindGaps_51
            · skip
              have c_12' : r_11.toInt ≥ 0 := jb_lt_n (rfl) ((by decide)) c_12
              first | (have hr_11_3q := hr_11_3.resolve_left (by omega); clear hr_11_3) | (have hr_11_3q := hr_11_3.resolve_right (by omega); clear hr_11_3) | try clear hr_11_3
              refine lv_aload_n hx hb dX14_behindGaps_40 rfl (lv_at hl 0 rfl) ?_
              refine lv_iload_n hx hb dX14_behindGaps_41 rfl (lv_at hl 3 rfl) ?_
              refine lv_iload_n hx hb dX14_behindGaps_42 rfl (lv_at hl 2 rfl) ?_
              refine va_calli (A0 := jA base) (H0 := s.heap) (va_runS (As := [.ref r0, .int v3_1, .int a2]) (rest := []) ⟨hx, hb, hml, hown, hts⟩ (uX14_behindCommentv9 l dC dI ca base B hB hAp hB101 hB194 G0 H_10 r0 v3_1 a2 n0 f0) (va_cwS 3 hts (jgS (jWr_57 _ (List.mem_of_getElem? (i := 22) rfl)) (jWr_57 _ (List.mem_of_getElem? (i := 23) rfl)) (jWr_1 _ (List.mem_of_getElem? (i := 5) rfl)) (jWr_58 _ (List.mem_of_getElem? (i := 0) rfl))) rfl rfl rfl (by decide +kernel) ⟨by rw [← hR]; exact Nat.le_of_ble_eq_true rfl, by rw [← hR]; exact Nat.le_of_ble_eq_true rfl⟩) ⟨fun a U g mk q => by obtain ⟨q0, q1, q2, qK, q10, q11, q12, q13⟩ := q; exact ⟨q0, q1, q2, jG.calling g mk a qK, q10, q11, q12, q13⟩, fun U hU hW => ⟨rfl, hU, hh_10.2.1, hG.step hW hU hh_10.1, hg_r0, jP.nil, (hh_10.2.2.2.2.2.2.2.1.sub (L1 := [(r0, 194, n0, ca 1, f0)]) [0] rfl), by first | omega | (refine ⟨?_, ?_, ?_, ?_⟩ <;> (first | omega | rfl | assumption | decide | exact Or.inl rfl | exact Or.inr rfl | (simp only; omega)))⟩⟩ rfl rfl hl.1 rfl (lv_room (Nat.le_of_ble_eq_true rfl)) dX14_behindGaps_43 ⟨Nat.zero_le _, Nat.zero_le _⟩) hh_10.1 (fun q _ h => h) (fun q h => h) (fun r_14 u_13 t_13 H_13 locs_13 ht_13 hvm_13 hr_14 hb_13 hz_13 hk_13 hS_13 => ?_)
              rw [ht_13] at hb_13
              obtain ⟨hb_131, hb_132, hb_133, hb_134, hb_135⟩ := hb_13
              have hh_13 : jSt (dC, dI) B base G0 G0 EX14_behindGapsKv9 s.heap 0 0 [] [(r0, 194, n0, ca 1, f0)] [] H_13 locs_13 := ((hh_10.call hb_131 hb_132 hb_133 hb_134 hS_13 rfl (L1 := []) [] rfl rfl (M1 := [(r0, 194, n0, ca 1, f0)]) [0] rfl rfl (I1 := []) [] rfl rfl).more hb_135)
              clear hh_10 ht_13 hvm_13 hz_13 hk_13 hS_13 hb_131 hb_132 hb_133 hb_134 hb_135
              obtain ⟨hr_14_0, hr_14_1, hr_14_2, hr_14_3⟩ := hr_14
              refine lv_istore_n (lv' := [(3, .int r_14), (0, .ref r0), (1, .int a1), (2, .int a2)]) hx hb dX14_behindGaps_46 rfl hl (by decide) rfl (fun ls hl => ?_)
              refine lv_goto (tgt := 2) hx hb dX14_behindGaps_47 (by decide) ?_
              exact L2 r_14 (kf - 1) _ _ hh_13 (by refine ⟨by omega, by omega, by omega, ?_⟩; first | exact (jGa_b (by omega) (by omega) (by rw [← hqz_3, ← hr_5p]; omega) (by omega)).trans hi_1_3 | exact (jGa_c (by omega) (by omega) (by rw [← hqz_3, ← hr_5p]; omega) (by omega) (by omega) hr_14_0).trans hi_1_3) (by omega) _ (lv_sub hl [1, 2, 3, 0] rfl)
        · skip
          have c_6' : r_5.toInt ≠ 0 := jb_eq_n (rfl) ((by decide)) c_6
          obtain ⟨z_15, ez_15⟩ : ∃ y : Int32, y = v3_1 + 1 := ⟨_, rfl⟩
          refine lv_iinc (v := z_15) (lv' := [(3, .int z_15), (0, .ref r0), (1, .int a1), (2, .int a2)]) hx hb dX14_behindGaps_16 hl (k := 3) rfl (by rw [ez_15]; rfl) (by decide) rfl (fun ls hl => ?_)
          have hz_15 : z_15.toInt = v3_1.toInt + 1 := by rw [ez_15]; exact jb_iadd2 (rfl) (by decide) (by omega)
          refine lv_goto (tgt := 2) hx hb dX14_behindGaps_19 (by decide) ?_
          exact L2 z_15 (kf - 1) _ _ hh_4 (by refine ⟨by omega, by omega, by omega, ?_⟩; first | exact (jGa_b (by omega) (by omega) (by rw [← hqz_3, ← hr_5p]; omega) (by omega)).trans hi_1_3 | exact (jGa_c (by omega) (by omega) (by rw [← hqz_3, ← hr_5p]; omega) (by omega) (by omega) (zz_none)).trans hi_1_3) (by omega) _ (lv_sub hl [1, 2, 3, 0] rfl)
  exact L2 (a2.toInt - (a1 : Int32).toInt : Int).toNat.succ a1 ((a2.toInt - a1.toInt).toNat + 1) _ _ hh (by exact ⟨by omega, by omega, by omega, rfl⟩) (by omega) _ (lv_sub hl [1, 2, 3, 0] rfl)
set_option maxHeartbeats 4000000 in
set_option maxRecDepth 20000 in
theorem uX14_sentenceEndKv9 (l : Launch) (dC : Nat → ClassId) (dI : Nat → Nat → Nat) (ca : Nat → ClassId) (base : Nat) (B : jF) (hB : jBok B) (hAp : jAp (dC, dI)) (hB101 : ∀ n G a H, B 101 n G a H ↔ jAr (dC, dI) (ca 1) (fun j z => True) n a H) (hB194 : ∀ n G a H, B 194 n G a H ↔ jAr (dC, dI) (ca 1) (fun j z => True) n a H) (G0 : jT) (H0 : Heap) (r0 : Nat) (a1 : Int32) (a2 : Int32) (n0 : Nat) (f0 : Nat → Int32) : Met l yX14_sentenceEnd (jw yX14_sentenceEnd cX14_sentenceEnd 4 (some .int)) ({ frames := 2, cells := 0, slots := 0, locals := 46 }) (va_Pc [.ref r0, .int a1, .int a2] (fun U => U.heap = H0 ∧ jX B base G0 [] H0 ∧ jG dC dI ca base U ∧ G0 r0 = some (194, n0) ∧ jP (dC, dI) G0 H0 [] ∧ jMc (dC, dI) G0 H0 [(r0, 194, n0, ca 1, f0)] ∧ 0 ≤ a1.toInt ∧ a1.toInt ≤ a2.toInt ∧ a2.toInt ≤ n0 ∧ n0 ≤ 200000)) (va_Qi (S := Unit) (fun r u => (r.toInt = jSen f0 a2.toInt a1.toInt ∧ -1 ≤ r.toInt ∧ r.toInt ≤ a2.toInt ∧ (r.toInt = -1 ∨ a1.toInt < r.toInt))) (fun u t => jRt (dC, dI) B base G0 EX14_sentenceEndKv9 H0 [] t.heap) (jA base)) 0 0 (jA base) := by
  refine Met.ofW (cc := cX14_sentenceEnd) (maxL := 4) (ret := (some .int)) (by decide) rfl ?_
  intro p e s m args below meth c s₁ Bd hml hv
  obtain ⟨rfl, hH0, hX, hG, hg_r0, hP0, hM0, hp0, hp1, hp2, hp3⟩ := hv
  have hK := hG.1
  have hx := Bd.exec
  have hb := Bd.bytes
  have hr := Bd.returns
  have hts := atoms_spec (ws := (jw yX14_sentenceEnd cX14_sentenceEnd 4 (some .int))) Bd.pre
  have htw : ∀ w ∈ jWl, w.before _ s = true := fun w h => hts w (List.mem_cons_of_mem _ h)
  have hown : s.vm.findClass RX14 = some m.cls := findClass_of_methodNamed Bd.named
  have hlocks := Bd.notSynchronized
  obtain ⟨Q, hQ⟩ : ∃ Q, Q = MQ below (va_Qi (S := Unit) (fun r u => (r.toInt = jSen f0 a2.toInt a1.toInt ∧ -1 ≤ r.toInt ∧ r.toInt ≤ a2.toInt ∧ (r.toInt = -1 ∨ a1.toInt < r.toInt))) (fun u t => jRt (dC, dI) B base G0 EX14_sentenceEndKv9 H0 [] t.heap) (jA base)) ([.ref r0, .int a1, .int a2] : List Value).toArray s 0 0 (jA base) := ⟨_, rfl⟩
  rw [← hQ]
  have hl := lv_entry ([.ref r0, .int a1, .int a2]) (n := 4) (Nat.le_of_ble_eq_true rfl)
  rw [lg_entry_eq]
  generalize (lg_sl ([.ref r0, .int a1, .int a2]) ++ List.replicate (4 - (lg_sl ([.ref r0, .int a1, .int a2])).length) Slot.unset).toArray = ls at hl ⊢
  have hl : lv_has ls 4 [(0, .ref r0), (1, .int a1), (2, .int a2)] := hl
  generalize hR : (headSpec (jw yX14_sentenceEnd cX14_sentenceEnd 4 (some .int)) ({ frames := 2, cells := 0, slots := 0, locals := 46 })).room = R
  subst hH0
  have hh : jSt (dC, dI) B base G0 G0 EX14_sentenceEndKv9 s.heap 0 0 [] [(r0, 194, n0, ca 1, f0)] [] s.heap [] := jSt.start hX hP0 hM0 jIs.nil
  clear hX hP0
  have hkm1 : ((-1) : Int32).toInt = (-1) := by decide
  have hk0 : (0 : Int32).toInt = 0 := by decide
  have hk1 : (1 : Int32).toInt = 1 := by decide
  have hk46 : (46 : Int32).toInt = 46 := by decide
  have hrg_a1 := jb_rng a1
  have hrg_a2 := jb_rng a2
  refine lv_iload_n hx hb dX14_sentenceEnd_0 rfl (lv_at hl 1 rfl) ?_
  refine lv_istore_n (lv' := [(3, .int a1), (0, .ref r0), (1, .int a1), (2, .int a2)]) hx hb dX14_sentenceEnd_1 rfl hl (by decide) rfl (fun ls hl => ?_)
  have L2 : ∀ (N : Nat) (v3_1 : Int32) (kf : Nat) (H_1 : Heap) (locs_1 : List Loc), jSt (dC, dI) B base G0 G0 EX14_sentenceEndKv9 s.heap 0 0 [] [(r0, 194, n0, ca 1, f0)] [] H_1 locs_1 → (a1.toInt ≤ v3_1.toInt ∧ v3_1.toInt ≤ a2.toInt ∧ a2.toInt - v3_1.toInt < kf ∧ jSx f0 a2.toInt kf v3_1.toInt = jSen f0 a2.toInt a1.toInt) → (a2.toInt - v3_1.toInt : Int) < N → ∀ ls : Array Slot, lv_has ls 4 [(0, .ref r0), (1, .int a1), (2, .int a2), (3, .int v3_1)] → W p l e R s m ([.ref r0, .int a1, .int a2] : List Value).toArray below meth c H_1 locs_1 0 0 Q (F0 m 2 ls []) := by
    intro N
    induction N with
    | zero => intro v3_1 kf H_1 locs_1 hh_1  hi_1 hm; exact absurd hm (by omega)
    | succ N L2 =>
      intro v3_1 kf H_1 locs_1 hh_1  hi_1 hm_1 ls hl
      obtain ⟨hi_1_0, hi_1_1, hi_1_2, hi_1_3⟩ := hi_1
      refine lv_iload_n hx hb dX14_sentenceEnd_2 rfl (lv_at hl 3 rfl) ?_
      refine lv_iload_n hx hb dX14_sentenceEnd_3 rfl (lv_at hl 2 rfl) ?_
      refine lv_icmp_ge (tgt := 76) hx hb dX14_sentenceEnd_4 (by decide) (fun c_2 => ?_) (fun c_2 => ?_)
      · skip
        have c_2' : v3_1.toInt ≥ a2.toInt := jb_ge (rfl) (rfl) c_2
        refine lv_iconst (v := (-1)) hx hb dX14_sentenceEnd_76 (by decide) ?_
        rw [hQ]
        exact W.iret (v := (-1)) hx hb hr (fun t ht hW => ⟨⟨(-1), (), rfl, by refine ⟨?_, by omega, by omega, by omega⟩; exact (jSx_o (by omega) (by omega) hkm1).trans hi_1_3, hh_1.rt (M1 := []) [] rfl ht⟩, by rw [ht]; try exact hh_1.1.1, fun q h9 hq => by rw [ht]; try exact hh_1.1.2.1 q h9 hq⟩) hh_1.1.2.2 dX14_sentenceEnd_77
      · skip
        have c_2' : v3_1.toInt < a2.toInt := jb_ge_n (rfl) (rfl) c_2
        refine lv_aload_n hx hb dX14_sentenceEnd_7 rfl (lv_at hl 0 rfl) ?_
        refine lv_iload_n hx hb dX14_sentenceEnd_8 rfl (lv_at hl 3 rfl) ?_
        refine lv_iload_n hx hb dX14_sentenceEnd_9 rfl (lv_at hl 2 rfl) ?_
        refine va_calli (A0 := jA base) (H0 := s.heap) (va_runS (As := [.ref r0, .int v3_1, .int a2]) (rest := []) ⟨hx, hb, hml, hown, hts⟩ (uX14_opensv9 l dC dI ca base B hB hAp hB194 G0 H_1 r0 v3_1 a2 n0 f0) (va_cwS 3 hts (jgS (jWr_57 _ (List.mem_of_getElem? (i := 19) rfl)) (jWr_57 _ (List.mem_of_getElem? (i := 20) rfl)) (jWr_1 _ (List.mem_of_getElem? (i := 5) rfl)) (jWr_57 _ (List.mem_of_getElem? (i := 21) rfl))) rfl rfl rfl (by decide +kernel) ⟨by rw [← hR]; exact Nat.le_of_ble_eq_true rfl, by rw [← hR]; exact Nat.le_of_ble_eq_true rfl⟩) ⟨fun a U g mk q => by obtain ⟨q0, q1, q2, qK, q10, q11, q12, q13⟩ := q; exact ⟨q0, q1, q2, jG.calling g mk a qK, q10, q11, q12, q13⟩, fun U hU hW => ⟨rfl, hU, hh_1.2.1, hG.step hW hU hh_1.1, hg_r0, jP.nil, (hh_1.2.2.2.2.2.2.2.1.sub (L1 := [(r0, 194, n0, ca 1, f0)]) [0] rfl), by first | omega | (refine ⟨?_, ?_, ?_, ?_, ?_⟩ <;> (first | omega | rfl | assumption | decide | exact Or.inl rfl | exact Or.inr rfl | (simp only; omega)))⟩⟩ rfl rfl hl.1 rfl (lv_room (Nat.le_of_ble_eq_true rfl)) dX14_sentenceEnd_10 ⟨Nat.zero_le _, Nat.zero_le _⟩) hh_1.1 (fun q _ h => h) (fun q h => h) (fun r_4 u_3 t_3 H_3 locs_3 ht_3 hvm_3 hr_4 hb_3 hz_3 hk_3 hS_3 => ?_)
        rw [ht_3] at hb_3
        obtain ⟨hb_31, hb_32, hb_33, hb_34, hb_35⟩ := hb_3
        have hh_3 : jSt (dC, dI) B base G0 G0 EX14_sentenceEndKv9 s.heap 0 0 [] [(r0, 194, n0, ca 1, f0)] [] H_3 locs_3 := ((hh_1.call hb_31 hb_32 hb_33 hb_34 hS_3 rfl (L1 := []) [] rfl rfl (M1 := [(r0, 194, n0, ca 1, f0)]) [0] rfl rfl (I1 := []) [] rfl rfl).more hb_35)
        clear hh_1 ht_3 hvm_3 hz_3 hk_3 hS_3 hb_31 hb_32 hb_33 hb_34 hb_35
        obtain ⟨hr_4b, hr_4p⟩ := hr_4
        obtain ⟨hr_4p_0, hr_4p_1⟩ := hr_4p
        have hr_4' := jb_01 hr_4b
        refine lv_if_eq (tgt := 29) hx hb dX14_sentenceEnd_13 (by decide) (fun c_5 => ?_) (fun c_5 => ?_)
        · skip
          have c_5' : r_4.toInt = 0 := jb_eq (rfl) ((by decide)) c_5
          refine lv_aload_n hx hb dX14_sentenceEnd_29 rfl (lv_at hl 0 rfl) ?_
          refine lv_iload_n hx hb dX14_sentenceEnd_30 rfl (lv_at hl 3 rfl) ?_
          refine j7_ialdM hx hb hK hh_3 hB194 1 rfl (by decide) hg_r0 (x := v3_1.toInt) (rfl) (by omega) (j := 0) rfl dX14_sentenceEnd_31 (fun z_6 ez_6 (hz_6 : True) => ?_)
          have hqz_6 : z_6.toInt = jSo f0 (v3_1.toInt) := by unfold jSo; rw [ez_6]
          refine lv_bipush (v := 46) hx hb dX14_sentenceEnd_32 (by decide) ?_
          refine lv_icmp_ne (tgt := 70) hx hb dX14_sentenceEnd_34 (by decide) (fun c_7 => ?_) (fun c_7 => ?_)
          · skip
            have c_7' : z_6.toInt ≠ 46 := jb_ne (rfl) ((by decide)) c_7
            obtain ⟨z_8, ez_8⟩ : ∃ y : Int32, y = v3_1 + 1 := ⟨_, rfl⟩
            refine lv_iinc (v := z_8) (lv' := [(3, .int z_8), (0, .ref r0), (1, .int a1), (2, .int a2)]) hx hb dX14_sentenceEnd_70 hl (k := 3) rfl (by rw [ez_8]; rfl) (by decide) rfl (fun ls hl => ?_)
            have hz_8 : z_8.toInt = v3_1.toInt + 1 := by rw [ez_8]; exact jb_iadd2 (rfl) (by decide) (by omega)
            refine lv_goto (tgt := 2) hx hb dX14_sentenceEnd_73 (by decide) ?_
            exact L2 z_8 (kf - 1) _ _ hh_3 (by refine ⟨by omega, by omega, by omega, ?_⟩; first | exact (jSx_c (by omega) (by omega) (by omega) (by omega) (zz_none)).trans hi_1_3 | exact (jSx_n (by omega) (by omega) (by omega) (jDt_0 (by first | exact Or.inl (by rw [← hqz_6]; omega) | exact Or.inr ⟨by omega, (by rw [← (zz_none), ← (zz_none)]; omega), by omega⟩)) (by omega)).trans hi_1_3) (by omega) _ (lv_sub hl [1, 2, 3, 0] rfl)
          · skip
            have c_7' : z_6.toInt = 46 := jb_ne_n (rfl) ((by decide)) c_7
            refine lv_iload_n hx hb dX14_sentenceEnd_37 rfl (lv_at hl 3 rfl) ?_
            refine lv_iconst (v := 1) hx hb dX14_sentenceEnd_38 (by decide) ?_
            refine lv_iadd hx hb dX14_sentenceEnd_39 ?_
            refine lv_topi (fun z_9 ez_9 => ?_)
            have hz_9 : z_9.toInt = v3_1.toInt + 1 := by rw [ez_9]; exact jb_iadd2 (rfl) ((by decide)) (by omega)
            refine lv_iload_n hx hb dX14_sentenceEnd_40 rfl (lv_at hl 2 rfl) ?_
            refine lv_icmp_eq (tgt := 66) hx hb dX14_sentenceEnd_41 (by decide) (fun c_10 => ?_) (fun c_10 => ?_)
            · skip
              have c_10' : z_9.toInt = a2.toInt := jb_eq (rfl) (rfl) c_10
              refine lv_iload_n hx hb dX14_sentenceEnd_66 rfl (lv_at hl 3 rfl) ?_
              refine lv_iconst (v := 1) hx hb dX14_sentenceEnd_67 (by decide) ?_
              refine lv_iadd hx hb dX14_sentenceEnd_68 ?_
              refine lv_topi (fun z_11 ez_11 => ?_)
              have hz_11 : z_11.toInt = v3_1.toInt + 1 := by rw [ez_11]; exact jb_iadd2 (rfl) ((by decide)) (by omega)
              rw [hQ]
              exact W.iret (v := z_11) hx hb hr (fun t ht hW => ⟨⟨z_11, (), rfl, by refine ⟨?_, by omega, by omega, by omega⟩; exact (jSx_d (by omega) (by omega) (by omega) (jDt_1 (by rw [← hqz_6]; omega) (by first | exact Or.inl (by omega) | exact Or.inr (Or.inl (by rw [← (zz_none), ← (zz_none)]; omega)) | exact Or.inr (Or.inr (by rw [ho60]; omega)))) (by omega)).trans hi_1_3, hh_3.rt (M1 := []) [] rfl ht⟩, by rw [ht]; try exact hh_3.1.1, fun q h9 hq => by rw [ht]; try exact hh_3.1.2.1 q h9 hq⟩) hh_3.1.2.2 dX14_sentenceEnd_69
            · skip
              have c_10' : z_9.toInt ≠ a2.toInt := jb_eq_n (rfl) (rfl) c_10
              refine lv_aload_n hx hb dX14_sentenceEnd_44 rfl (lv_at hl 0 rfl) ?_
              refine lv_iload_n hx hb dX14_sentenceEnd_45 rfl (lv_at hl 3 rfl) ?_
              refine lv_iconst (v := 1) hx hb dX14_sentenceEnd_46 (by decide) ?_
              refine lv_iadd hx hb dX14_sentenceEnd_47 ?_
              refine lv_topi (fun z_12 ez_12 => ?_)
              have hz_12 : z_12.toInt = v3_1.toInt + 1 := by rw [ez_12]; exact jb_iadd2 (rfl) ((by decide)) (by omega)
              refine j7_ialdM hx hb hK hh_3 hB194 1 rfl (by decide) hg_r0 (x := z_12.toInt) (rfl) (by omega) (j := 0) rfl dX14_sentenceEnd_48 (fun z_13 ez_13 (hz_13 : True) => ?_)
              have hqz_13 : z_13.toInt = jSo f0 ((v3_1.toInt + 1)) := by unfold jSo; rw [ez_13, show z_12.toInt = (v3_1.toInt + 1) by omega]
              refine va_calli (A0 := jA base) (H0 := s.heap) (va_runS (As := [.int z_13]) (rest := []) ⟨hx, hb, hml, hown, hts⟩ (uX14_isBlankK l dC dI ca base B hB hAp G0 H_3 z_13) (va_cwS 1 hts (jgS (jWr_57 _ (List.mem_of_getElem? (i := 16) rfl)) (jWr_57 _ (List.mem_of_getElem? (i := 17) rfl)) (jWr_1 _ (List.mem_of_getElem? (i := 5) rfl)) (jWr_57 _ (List.mem_of_getElem? (i := 18) rfl))) rfl rfl rfl (by decide +kernel) ⟨by rw [← hR]; exact Nat.le_of_ble_eq_true rfl, by rw [← hR]; exact Nat.le_of_ble_eq_true rfl⟩) ⟨fun a U g mk q => by obtain ⟨q0, q1, q2, qK, q10, q11⟩ := q; exact ⟨q0, q1, q2, jG.calling g mk a qK, q10, q11⟩, fun U hU hW => ⟨rfl, hU, hh_3.2.1, hG.step hW hU hh_3.1, jP.nil, trivial⟩⟩ rfl rfl hl.1 rfl (lv_room (Nat.le_of_ble_eq_true rfl)) dX14_sentenceEnd_49 ⟨Nat.zero_le _, Nat.zero_le _⟩) hh_3.1 (fun q _ h => h) (fun q h => h) (fun r_15 u_14 t_14 H_14 locs_14 ht_14 hvm_14 hr_15 hb_14 hz_14 hk_14 hS_14 => ?_)
              rw [ht_14] at hb_14
              obtain ⟨hb_141, hb_142, hb_143, hb_144, hb_145⟩ := hb_14
              have hh_14 : jSt (dC, dI) B base G0 G0 EX14_sentenceEndKv9 s.heap 0 0 [] [(r0, 194, n0, ca 1, f0)] [] H_14 locs_14 := ((hh_3.call hb_141 hb_142 hb_143 hb_144 hS_14 rfl (L1 := []) [] rfl rfl (M1 := [(r0, 194, n0, ca 1, f0)]) [0] rfl rfl (I1 := []) [] rfl rfl).more hb_145)
              clear hh_3 ht_14 hvm_14 hz_14 hk_14 hS_14 hb_141 hb_142 hb_143 hb_144 hb_145
              obtain ⟨hr_15b, hr_15p⟩ := hr_15
              have hr_15' := jb_01 hr_15b
              refine lv_if_ne (tgt := 66) hx hb dX14_sentenceEnd_52 (by decide) (fun c_16 => ?_) (fun c_16 => ?_)
              · skip
                have c_16' : r_15.toInt ≠ 0 := jb_ne (rfl) ((by decide)) c_16
                refine lv_iload_n hx hb dX14_sentenceEnd_66 rfl (lv_at hl 3 rfl) ?_
                refine lv_iconst (v := 1) hx hb dX14_sentenceEnd_67 (by decide) ?_
                refine lv_iadd hx hb dX14_sentenceEnd_68 ?_
                refine lv_topi (fun z_17 ez_17 => ?_)
                have hz_17 : z_17.toInt = v3_1.toInt + 1 := by rw [ez_17]; exact jb_iadd2 (rfl) ((by decide)) (by omega)
                rw [hQ]
                exact W.iret (v := z_17) hx hb hr (fun t ht hW => ⟨⟨z_17, (), rfl, by refine ⟨?_, by omega, by omega, by omega⟩; exact (jSx_d (by omega) (by omega) (by omega) (jDt_1 (by rw [← hqz_6]; omega) (by first | exact Or.inl (by omega) | exact Or.inr (Or.inl (by rw [← hqz_13, ← hr_15p]; omega)) | exact Or.inr (Or.inr (by rw [ho60]; omega)))) (by omega)).trans hi_1_3, hh_14.rt (M1 := []) [] rfl ht⟩, by rw [ht]; try exact hh_14.1.1, fun q h9 hq => by rw [ht]; try exact hh_14.1.2.1 q h9 hq⟩) hh_14.1.2.2 dX14_sentenceEnd_69
              · skip
                have c_16' : r_15.toInt = 0 := jb_ne_n (rfl) ((by decide)) c_16
                refine lv_aload_n hx hb dX14_sentenceEnd_55 rfl (lv_at hl 0 rfl) ?_
                refine lv_iload_n hx hb dX14_sentenceEnd_56 rfl (lv_at hl 3 rfl) ?_
                refine lv_iconst (v := 1) hx hb dX14_sentenceEnd_57 (by decide) ?_
                refine lv_iadd hx hb dX14_sentenceEnd_58 ?_
                refine lv_topi (fun z_18 ez_18 => ?_)
                have hz_18 : z_18.toInt = v3_1.toInt + 1 := by rw [ez_18]; exact jb_iadd2 (rfl) ((by decide)) (by omega)
                refine lv_iload_n hx hb dX14_sentenceEnd_59 rfl (lv_at hl 2 rfl) ?_
                refine va_calli (A0 := jA base) (H0 := s.heap) (va_runS (As := [.ref r0, .int z_18, .int a2]) (rest := []) ⟨hx, hb, hml, hown, hts⟩ (uX14_opensv9 l dC dI ca base B hB hAp hB194 G0 H_14 r0 z_18 a2 n0 f0) (va_cwS 3 hts (jgS (jWr_57 _ (List.mem_of_getElem? (i := 19) rfl)) (jWr_57 _ (List.mem_of_getElem? (i := 20) rfl)) (jWr_1 _ (List.mem_of_getElem? (i := 5) rfl)) (jWr_57 _ (List.mem_of_getElem? (i := 21) rfl))) rfl rfl rfl (by decide +kernel) ⟨by rw [← hR]; exact Nat.le_of_ble_eq_true rfl, by rw [← hR]; exact Nat.le_of_ble_eq_true rfl⟩) ⟨fun a U g mk q => by obtain ⟨q0, q1, q2, qK, q10, q11, q12, q13⟩ := q; exact ⟨q0, q1, q2, jG.calling g mk a qK, q10, q11, q12, q13⟩, fun U hU hW => ⟨rfl, hU, hh_14.2.1, hG.step hW hU hh_14.1, hg_r0, jP.nil, (hh_14.2.2.2.2.2.2.2.1.sub (L1 := [(r0, 194, n0, ca 1, f0)]) [0] rfl), by first | omega | (refine ⟨?_, ?_, ?_, ?_, ?_⟩ <;> (first | omega | rfl | assumption | decide | exact Or.inl rfl | exact Or.inr rfl | (simp only; omega)))⟩⟩ rfl rfl hl.1 rfl (lv_room (Nat.le_of_ble_eq_true rfl)) dX14_sentenceEnd_60 ⟨Nat.zero_le _, Nat.zero_le _⟩) hh_14.1 (fun q _ h => h) (fun q h => h) (fun r_20 u_19 t_19 H_19 locs_19 ht_19 hvm_19 hr_20 hb_19 hz_19 hk_19 hS_19 => ?_)
                rw [ht_19] at hb_19
                obtain ⟨hb_191, hb_192, hb_193, hb_194, hb_195⟩ := hb_19
                have hh_19 : jSt (dC, dI) B base G0 G0 EX14_sentenceEndKv9 s.heap 0 0 [] [(r0, 194, n0, ca 1, f0)] [] H_19 locs_19 := ((hh_14.call hb_191 hb_192 hb_193 hb_194 hS_19 rfl (L1 := []) [] rfl rfl (M1 := [(r0, 194, n0, ca 1, f0)]) [0] rfl rfl (I1 := []) [] rfl rfl).more hb_195)
                clear hh_14 ht_19 hvm_19 hz_19 hk_19 hS_19 hb_191 hb_192 hb_193 hb_194 hb_195
                obtain ⟨hr_20b, hr_20p⟩ := hr_20
                obtain ⟨hr_20p_0, hr_20p_1⟩ := hr_20p
                have ho60 : jOpI f0 (v3_1.toInt + 1) a2.toInt = r_20.toInt := by rw [hr_20p_0]; congr 1; omega
                have hr_20' := jb_01 hr_20b
                refine lv_if_eq (tgt := 70) hx hb dX14_sentenceEnd_63 (by decide) (fun c_21 => ?_) (fun c_21 => ?_)
                · skip
                  have c_21' : r_20.toInt = 0 := jb_eq (rfl) ((by decide)) c_21
                  obtain ⟨z_22, ez_22⟩ : ∃ y : Int32, y = v3_1 + 1 := ⟨_, rfl⟩
                  refine lv_iinc (v := z_22) (lv' := [(3, .int z_22), (0, .ref r0), (1, .int a1), (2, .int a2)]) hx hb dX14_sentenceEnd_70 hl (k := 3) rfl (by rw [ez_22]; rfl) (by decide) rfl (fun ls hl => ?_)
                  have hz_22 : z_22.toInt = v3_1.toInt + 1 := by rw [ez_22]; exact jb_iadd2 (rfl) (by decide) (by omega)
                  refine lv_goto (tgt := 2) hx hb dX14_sentenceEnd_73 (by decide) ?_
                  exact L2 z_22 (kf - 1) _ _ hh_19 (by refine ⟨by omega, by omega, by omega, ?_⟩; first | exact (jSx_c (by omega) (by omega) (by omega) (by omega) (zz_none)).trans hi_1_3 | exact (jSx_n (by omega) (by omega) (by omega) (jDt_0 (by first | exact Or.inl (by rw [← hqz_6]; omega) | exact Or.inr ⟨by omega, (by rw [← hqz_13, ← hr_15p]; omega), by omega⟩)) (by omega)).trans hi_1_3) (by omega) _ (lv_sub hl [1, 2, 3, 0] rfl)
                · skip
                  have c_21' : r_20.toInt ≠ 0 := jb_eq_n (rfl) ((by decide)) c_21
                  refine lv_iload_n hx hb dX14_sentenceEnd_66 rfl (lv_at hl 3 rfl) ?_
                  refine lv_iconst (v := 1) hx hb dX14_sentenceEnd_67 (by decide) ?_
                  refine lv_iadd hx hb dX14_sentenceEnd_68 ?_
                  refine lv_topi (fun z_23 ez_23 => ?_)
                  have hz_23 : z_23.toInt = v3_1.toInt + 1 := by rw [ez_23]; exact jb_iadd2 (rfl) ((by decide)) (by omega)
                  rw [hQ]
                  exact W.iret (v := z_23) hx hb hr (fun t ht hW => ⟨⟨z_23, (), rfl, by refine ⟨?_, by omega, by omega, by omega⟩; exact (jSx_d (by omega) (by omega) (by omega) (jDt_1 (by rw [← hqz_6]; omega) (by first | exact Or.inl (by omega) | exact Or.inr (Or.inl (by rw [← hqz_13, ← hr_15p]; omega)) | exact Or.inr (Or.inr (by rw [ho60]; omega)))) (by omega)).trans hi_1_3, hh_19.rt (M1 := []) [] rfl ht⟩, by rw [ht]; try exact hh_19.1.1, fun q h9 hq => by rw [ht]; try exact hh_19.1.2.1 q h9 hq⟩) hh_19.1.2.2 dX14_sentenceEnd_69
        · skip
          have c_5' : r_4.toInt ≠ 0 := jb_eq_n (rfl) ((by decide)) c_5
          refine lv_aload_n hx hb dX14_sentenceEnd_16 rfl (lv_at hl 0 rfl) ?_
          refine lv_iload_n hx hb dX14_sentenceEnd_17 rfl (lv_at hl 3 rfl) ?_
          refine lv_iload_n hx hb dX14_sentenceEnd_18 rfl (lv_at hl 2 rfl) ?_
          refine va_calli (A0 := jA base) (H0 := s.heap) (va_runS (As := [.ref r0, .int v3_1, .int a2]) (rest := []) ⟨hx, hb, hml, hown, hts⟩ (uX14_behindCommentv9 l dC dI ca base B hB hAp hB101 hB194 G0 H_3 r0 v3_1 a2 n0 f0) (va_cwS 3 hts (jgS (jWr_57 _ (List.mem_of_getElem? (i := 22) rfl)) (jWr_57 _ (List.mem_of_getElem? (i := 23) rfl)) (jWr_1 _ (List.mem_of_getElem? (i := 5) rfl)) (jWr_58 _ (List.mem_of_getElem? (i := 0) rfl))) rfl rfl rfl (by decide +kernel) ⟨by rw [← hR]; exact Nat.le_of_ble_eq_true rfl, by rw [← hR]; exact Nat.le_of_ble_eq_true rfl⟩) ⟨fun a U g mk q => by obtain ⟨q0, q1, q2, qK, q10, q11, q12, q13⟩ := q; exact ⟨q0, q1, q2, jG.calling g mk a qK, q10, q11, q12, q13⟩, fun U hU hW => ⟨rfl, hU, hh_3.2.1, hG.step hW hU hh_3.1, hg_r0, jP.nil, (hh_3.2.2.2.2.2.2.2.1.sub (L1 := [(r0, 194, n0, ca 1, f0)]) [0] rfl), by first | omega | (refine ⟨?_, ?_, ?_, ?_⟩ <;> (first | omega | rfl | assumption | decide | exact Or.inl rfl | exact Or.inr rfl | (simp only; omega)))⟩⟩ rfl rfl hl.1 rfl (lv_room (Nat.le_of_ble_eq_true rfl)) dX14_sentenceEnd_19 ⟨Nat.zero_le _, Nat.zero_le _⟩) hh_3.1 (fun q _ h => h) (fun q h => h) (fun r_25 u_24 t_24 H_24 locs_24 ht_24 hvm_24 hr_25 hb_24 hz_24 hk_24 hS_24 => ?_)
          rw [ht_24] at hb_24
          obtain ⟨hb_241, hb_242, hb_243, hb_244, hb_245⟩ := hb_24
          have hh_24 : jSt (dC, dI) B base G0 G0 EX14_sentenceEndKv9 s.heap 0 0 [] [(r0, 194, n0, ca 1, f0)] [] H_24 locs_24 := ((hh_3.call hb_241 hb_242 hb_243 hb_244 hS_24 rfl (L1 := []) [] rfl rfl (M1 := [(r0, 194, n0, ca 1, f0)]) [0] rfl rfl (I1 := []) [] rfl rfl).more hb_245)
          clear hh_3 ht_24 hvm_24 hz_24 hk_24 hS_24 hb_241 hb_242 hb_243 hb_244 hb_245
          obtain ⟨hr_25_0, hr_25_1, hr_25_2, hr_25_3⟩ := hr_25
          refine lv_istore_n (lv' := [(3, .int r_25), (0, .ref r0), (1, .int a1), (2, .int a2)]) hx hb dX14_sentenceEnd_22 rfl hl (by decide) rfl (fun ls hl => ?_)
          refine lv_iload_n hx hb dX14_sentenceEnd_23 rfl (lv_at hl 0 rfl) ?_
          refine lv_if_ge (tgt := 2) hx hb dX14_sentenceEnd_24 (by decide) (fun c_26 => ?_) (fun c_26 => ?_)
          · skip
            have c_26' : r_25.toInt ≥ 0 := jb_ge (rfl) ((by decide)) c_26
            first | (have hr_25_3q := hr_25_3.resolve_left (by omega); clear hr_25_3) | (have hr_25_3q := hr_25_3.resolve_right (by omega); clear hr_25_3) | skip
            exact L2 r_25 (kf - 1) _ _ hh_24 (by refine ⟨by omega, by omega, by omega, ?_⟩; first | exact (jSx_c (by omega) (by omega) (by omega) (by omega) hr_25_0).trans hi_1_3 | exact (jSx_n (by omega) (by omega) (by omega) (jDt_0 (by first | exact Or.inl (by rw [← (zz_none)]; omega) | exact Or.inr ⟨by omega, (by rw [← (zz_none), ← (zz_none)]; omega), by omega⟩)) (by omega)).trans hi_1_3) (by omega) _ (lv_sub hl [1, 2, 3, 0] rfl)
          · skip
            have c_26' : r_25.toInt < 0 := jb_ge_n (rfl) ((by decide)) c_26
            first | (have hr_25_3q := hr_25_3.resolve_left (by omega); clear hr_25_3) | (have hr_25_3q := hr_25_3.resolve_right (by omega); clear hr_25_3) | skip
            refine lv_iconst (v := (-1)) hx hb dX14_sentenceEnd_27 (by decide) ?_
            rw [hQ]
            exact W.iret (v := (-1)) hx hb hr (fun t ht hW => ⟨⟨(-1), (), rfl, by refine ⟨?_, by omega, by omega, by omega⟩; exact (jSx_u (b := r_25.toInt) (by omega) (by omega) (by omega) (by omega) hr_25_0 hkm1).trans hi_1_3, hh_24.rt (M1 := []) [] rfl ht⟩, by rw [ht]; try exact hh_24.1.1, fun q h9 hq => by rw [ht]; try exact hh_24.1.2.1 q h9 hq⟩) hh_24.1.2.2 dX14_sentenceEnd_28
  exact L2 (a2.toInt - (a1 : Int32).toInt : Int).toNat.succ a1 ((a2.toInt - a1.toInt).toNat + 1) _ _ hh (by exact ⟨by omega, by omega, by omega, rfl⟩) (by omega) _ (lv_sub hl [1, 2, 3, 0] rfl)
end
section
theorem dX14_isSame_0 : decode cX14_isSame 0 = .ok (.aload_n 0, 1) := by decide +kernel
theorem dX14_isSame_1 : decode cX14_isSame 1 = .ok (.getfield 594, 3) := by decide +kernel
theorem dX14_isSame_4 : decode cX14_isSame 4 = .ok (.iload_n 1, 1) := by decide +kernel
theorem dX14_isSame_5 : decode cX14_isSame 5 = .ok (.iaload, 1) := by decide +kernel
theorem dX14_isSame_6 : decode cX14_isSame 6 = .ok (.aload_n 0, 1) := by decide +kernel
theorem dX14_isSame_7 : decode cX14_isSame 7 = .ok (.getfield 596, 3) := by decide +kernel
theorem dX14_isSame_10 : decode cX14_isSame 10 = .ok (.iload_n 1, 1) := by decide +kernel
theorem dX14_isSame_11 : decode cX14_isSame 11 = .ok (.iaload, 1) := by decide +kernel
theorem dX14_isSame_12 : decode cX14_isSame 12 = .ok (.isub, 1) := by decide +kernel
theorem dX14_isSame_13 : decode cX14_isSame 13 = .ok (.istore 4, 2) := by decide +kernel
theorem dX14_isSame_15 : decode cX14_isSame 15 = .ok (.aload_n 2, 1) := by decide +kernel
theorem dX14_isSame_16 : decode cX14_isSame 16 = .ok (.getfield 594, 3) := by decide +kernel
theorem dX14_isSame_19 : decode cX14_isSame 19 = .ok (.iload_n 3, 1) := by decide +kernel
theorem dX14_isSame_20 : decode cX14_isSame 20 = .ok (.iaload, 1) := by decide +kernel
theorem dX14_isSame_21 : decode cX14_isSame 21 = .ok (.aload_n 2, 1) := by decide +kernel
theorem dX14_isSame_22 : decode cX14_isSame 22 = .ok (.getfield 596, 3) := by decide +kernel
theorem dX14_isSame_25 : decode cX14_isSame 25 = .ok (.iload_n 3, 1) := by decide +kernel
theorem dX14_isSame_26 : decode cX14_isSame 26 = .ok (.iaload, 1) := by decide +kernel
theorem dX14_isSame_27 : decode cX14_isSame 27 = .ok (.isub, 1) := by decide +kernel
theorem dX14_isSame_28 : decode cX14_isSame 28 = .ok (.iload 4, 2) := by decide +kernel
theorem dX14_isSame_30 : decode cX14_isSame 30 = .ok (.if_icmp .ne 18, 3) := by decide +kernel
theorem dX14_isSame_33 : decode cX14_isSame 33 = .ok (.aload_n 0, 1) := by decide +kernel
theorem dX14_isSame_34 : decode cX14_isSame 34 = .ok (.getfield 599, 3) := by decide +kernel
theorem dX14_isSame_37 : decode cX14_isSame 37 = .ok (.iload_n 1, 1) := by decide +kernel
theorem dX14_isSame_38 : decode cX14_isSame 38 = .ok (.iaload, 1) := by decide +kernel
theorem dX14_isSame_39 : decode cX14_isSame 39 = .ok (.aload_n 2, 1) := by decide +kernel
theorem dX14_isSame_40 : decode cX14_isSame 40 = .ok (.getfield 599, 3) := by decide +kernel
theorem dX14_isSame_43 : decode cX14_isSame 43 = .ok (.iload_n 3, 1) := by decide +kernel
theorem dX14_isSame_44 : decode cX14_isSame 44 = .ok (.iaload, 1) := by decide +kernel
theorem dX14_isSame_45 : decode cX14_isSame 45 = .ok (.if_icmp .eq 5, 3) := by decide +kernel
theorem dX14_isSame_48 : decode cX14_isSame 48 = .ok (.iconst 0, 1) := by decide +kernel
theorem dX14_isSame_49 : decode cX14_isSame 49 = .ok (.ireturn, 1) := by decide +kernel
theorem dX14_isSame_50 : decode cX14_isSame 50 = .ok (.iconst 0, 1) := by decide +kernel
theorem dX14_isSame_51 : decode cX14_isSame 51 = .ok (.istore 5, 2) := by decide +kernel
theorem dX14_isSame_53 : decode cX14_isSame 53 = .ok (.iload 5, 2) := by decide +kernel
theorem dX14_isSame_55 : decode cX14_isSame 55 = .ok (.iload 4, 2) := by decide +kernel
theorem dX14_isSame_57 : decode cX14_isSame 57 = .ok (.if_icmp .ge 42, 3) := by decide +kernel
theorem dX14_isSame_60 : decode cX14_isSame 60 = .ok (.aload_n 0, 1) := by decide +kernel
theorem dX14_isSame_61 : decode cX14_isSame 61 = .ok (.getfield 529, 3) := by decide +kernel
theorem dX14_isSame_64 : decode cX14_isSame 64 = .ok (.aload_n 0, 1) := by decide +kernel
theorem dX14_isSame_65 : decode cX14_isSame 65 = .ok (.getfield 596, 3) := by decide +kernel
theorem dX14_isSame_68 : decode cX14_isSame 68 = .ok (.iload_n 1, 1) := by decide +kernel
theorem dX14_isSame_69 : decode cX14_isSame 69 = .ok (.iaload, 1) := by decide +kernel
theorem dX14_isSame_70 : decode cX14_isSame 70 = .ok (.iload 5, 2) := by decide +kernel
theorem dX14_isSame_72 : decode cX14_isSame 72 = .ok (.iadd, 1) := by decide +kernel
theorem dX14_isSame_73 : decode cX14_isSame 73 = .ok (.iaload, 1) := by decide +kernel
theorem dX14_isSame_74 : decode cX14_isSame 74 = .ok (.aload_n 2, 1) := by decide +kernel
theorem dX14_isSame_75 : decode cX14_isSame 75 = .ok (.getfield 529, 3) := by decide +kernel
theorem dX14_isSame_78 : decode cX14_isSame 78 = .ok (.aload_n 2, 1) := by decide +kernel
theorem dX14_isSame_79 : decode cX14_isSame 79 = .ok (.getfield 596, 3) := by decide +kernel
theorem dX14_isSame_82 : decode cX14_isSame 82 = .ok (.iload_n 3, 1) := by decide +kernel
theorem dX14_isSame_83 : decode cX14_isSame 83 = .ok (.iaload, 1) := by decide +kernel
theorem dX14_isSame_84 : decode cX14_isSame 84 = .ok (.iload 5, 2) := by decide +kernel
theorem dX14_isSame_86 : decode cX14_isSame 86 = .ok (.iadd, 1) := by decide +kernel
theorem dX14_isSame_87 : decode cX14_isSame 87 = .ok (.iaload, 1) := by decide +kernel
theorem dX14_isSame_88 : decode cX14_isSame 88 = .ok (.if_icmp .eq 5, 3) := by decide +kernel
theorem dX14_isSame_91 : decode cX14_isSame 91 = .ok (.iconst 0, 1) := by decide +kernel
theorem dX14_isSame_92 : decode cX14_isSame 92 = .ok (.ireturn, 1) := by decide +kernel
theorem dX14_isSame_93 : decode cX14_isSame 93 = .ok (.iinc 5 1, 3) := by decide +kernel
theorem dX14_isSame_96 : decode cX14_isSame 96 = .ok (.goto (-43), 3) := by decide +kernel
theorem dX14_isSame_99 : decode cX14_isSame 99 = .ok (.iconst 1, 1) := by decide +kernel
theorem dX14_isSame_100 : decode cX14_isSame 100 = .ok (.ireturn, 1) := by decide +kernel
end
section
theorem dX14_isIdOf_0 : decode cX14_isIdOf 0 = .ok (.aload_n 0, 1) := by decide +kernel
theorem dX14_isIdOf_1 : decode cX14_isIdOf 1 = .ok (.getfield 100, 3) := by decide +kernel
theorem dX14_isIdOf_4 : decode cX14_isIdOf 4 = .ok (.iload_n 1, 1) := by decide +kernel
theorem dX14_isIdOf_5 : decode cX14_isIdOf 5 = .ok (.baload, 1) := by decide +kernel
theorem dX14_isIdOf_6 : decode cX14_isIdOf 6 = .ok (.aload_n 0, 1) := by decide +kernel
theorem dX14_isIdOf_7 : decode cX14_isIdOf 7 = .ok (.getfield 37, 3) := by decide +kernel
theorem dX14_isIdOf_10 : decode cX14_isIdOf 10 = .ok (.iload_n 2, 1) := by decide +kernel
theorem dX14_isIdOf_11 : decode cX14_isIdOf 11 = .ok (.iaload, 1) := by decide +kernel
theorem dX14_isIdOf_12 : decode cX14_isIdOf 12 = .ok (.iconst 4, 1) := by decide +kernel
theorem dX14_isIdOf_13 : decode cX14_isIdOf 13 = .ok (.if_icmp .ne 7, 3) := by decide +kernel
theorem dX14_isIdOf_16 : decode cX14_isIdOf 16 = .ok (.iconst 1, 1) := by decide +kernel
theorem dX14_isIdOf_17 : decode cX14_isIdOf 17 = .ok (.goto 4, 3) := by decide +kernel
theorem dX14_isIdOf_20 : decode cX14_isIdOf 20 = .ok (.iconst 0, 1) := by decide +kernel
theorem dX14_isIdOf_21 : decode cX14_isIdOf 21 = .ok (.if_icmp .eq 5, 3) := by decide +kernel
theorem dX14_isIdOf_24 : decode cX14_isIdOf 24 = .ok (.iconst 0, 1) := by decide +kernel
theorem dX14_isIdOf_25 : decode cX14_isIdOf 25 = .ok (.ireturn, 1) := by decide +kernel
theorem dX14_isIdOf_26 : decode cX14_isIdOf 26 = .ok (.aload_n 0, 1) := by decide +kernel
theorem dX14_isIdOf_27 : decode cX14_isIdOf 27 = .ok (.getfield 100, 3) := by decide +kernel
theorem dX14_isIdOf_30 : decode cX14_isIdOf 30 = .ok (.iload_n 1, 1) := by decide +kernel
theorem dX14_isIdOf_31 : decode cX14_isIdOf 31 = .ok (.baload, 1) := by decide +kernel
theorem dX14_isIdOf_32 : decode cX14_isIdOf 32 = .ok (.ifCond .ne 24, 3) := by decide +kernel
theorem dX14_isIdOf_35 : decode cX14_isIdOf 35 = .ok (.aload_n 0, 1) := by decide +kernel
theorem dX14_isIdOf_36 : decode cX14_isIdOf 36 = .ok (.getfield 103, 3) := by decide +kernel
theorem dX14_isIdOf_39 : decode cX14_isIdOf 39 = .ok (.iload_n 1, 1) := by decide +kernel
theorem dX14_isIdOf_40 : decode cX14_isIdOf 40 = .ok (.iaload, 1) := by decide +kernel
theorem dX14_isIdOf_41 : decode cX14_isIdOf 41 = .ok (.aload_n 0, 1) := by decide +kernel
theorem dX14_isIdOf_42 : decode cX14_isIdOf 42 = .ok (.getfield 62, 3) := by decide +kernel
theorem dX14_isIdOf_45 : decode cX14_isIdOf 45 = .ok (.iload_n 2, 1) := by decide +kernel
theorem dX14_isIdOf_46 : decode cX14_isIdOf 46 = .ok (.iaload, 1) := by decide +kernel
theorem dX14_isIdOf_47 : decode cX14_isIdOf 47 = .ok (.if_icmp .ne 7, 3) := by decide +kernel
theorem dX14_isIdOf_50 : decode cX14_isIdOf 50 = .ok (.iconst 1, 1) := by decide +kernel
theorem dX14_isIdOf_51 : decode cX14_isIdOf 51 = .ok (.goto 4, 3) := by decide +kernel
theorem dX14_isIdOf_54 : decode cX14_isIdOf 54 = .ok (.iconst 0, 1) := by decide +kernel
theorem dX14_isIdOf_55 : decode cX14_isIdOf 55 = .ok (.ireturn, 1) := by decide +kernel
theorem dX14_isIdOf_56 : decode cX14_isIdOf 56 = .ok (.aload_n 0, 1) := by decide +kernel
theorem dX14_isIdOf_57 : decode cX14_isIdOf 57 = .ok (.getfield 109, 3) := by decide +kernel
theorem dX14_isIdOf_60 : decode cX14_isIdOf 60 = .ok (.iload_n 1, 1) := by decide +kernel
theorem dX14_isIdOf_61 : decode cX14_isIdOf 61 = .ok (.iaload, 1) := by decide +kernel
theorem dX14_isIdOf_62 : decode cX14_isIdOf 62 = .ok (.aload_n 0, 1) := by decide +kernel
theorem dX14_isIdOf_63 : decode cX14_isIdOf 63 = .ok (.getfield 55, 3) := by decide +kernel
theorem dX14_isIdOf_66 : decode cX14_isIdOf 66 = .ok (.iload_n 2, 1) := by decide +kernel
theorem dX14_isIdOf_67 : decode cX14_isIdOf 67 = .ok (.iaload, 1) := by decide +kernel
theorem dX14_isIdOf_68 : decode cX14_isIdOf 68 = .ok (.aload_n 0, 1) := by decide +kernel
theorem dX14_isIdOf_69 : decode cX14_isIdOf 69 = .ok (.getfield 52, 3) := by decide +kernel
theorem dX14_isIdOf_72 : decode cX14_isIdOf 72 = .ok (.iload_n 2, 1) := by decide +kernel
theorem dX14_isIdOf_73 : decode cX14_isIdOf 73 = .ok (.iaload, 1) := by decide +kernel
theorem dX14_isIdOf_74 : decode cX14_isIdOf 74 = .ok (.isub, 1) := by decide +kernel
theorem dX14_isIdOf_75 : decode cX14_isIdOf 75 = .ok (.if_icmp .ne 7, 3) := by decide +kernel
theorem dX14_isIdOf_78 : decode cX14_isIdOf 78 = .ok (.iconst 1, 1) := by decide +kernel
theorem dX14_isIdOf_79 : decode cX14_isIdOf 79 = .ok (.goto 4, 3) := by decide +kernel
theorem dX14_isIdOf_82 : decode cX14_isIdOf 82 = .ok (.iconst 0, 1) := by decide +kernel
theorem dX14_isIdOf_83 : decode cX14_isIdOf 83 = .ok (.istore_n 3, 1) := by decide +kernel
theorem dX14_isIdOf_84 : decode cX14_isIdOf 84 = .ok (.iconst 0, 1) := by decide +kernel
theorem dX14_isIdOf_85 : decode cX14_isIdOf 85 = .ok (.istore 4, 2) := by decide +kernel
theorem dX14_isIdOf_87 : decode cX14_isIdOf 87 = .ok (.iload 4, 2) := by decide +kernel
theorem dX14_isIdOf_89 : decode cX14_isIdOf 89 = .ok (.aload_n 0, 1) := by decide +kernel
theorem dX14_isIdOf_90 : decode cX14_isIdOf 90 = .ok (.getfield 109, 3) := by decide +kernel
theorem dX14_isIdOf_93 : decode cX14_isIdOf 93 = .ok (.iload_n 1, 1) := by decide +kernel
theorem dX14_isIdOf_94 : decode cX14_isIdOf 94 = .ok (.iaload, 1) := by decide +kernel
theorem dX14_isIdOf_95 : decode cX14_isIdOf 95 = .ok (.if_icmp .ge 48, 3) := by decide +kernel
theorem dX14_isIdOf_98 : decode cX14_isIdOf 98 = .ok (.iload_n 3, 1) := by decide +kernel
theorem dX14_isIdOf_99 : decode cX14_isIdOf 99 = .ok (.ifCond .eq 44, 3) := by decide +kernel
theorem dX14_isIdOf_102 : decode cX14_isIdOf 102 = .ok (.aload_n 0, 1) := by decide +kernel
theorem dX14_isIdOf_103 : decode cX14_isIdOf 103 = .ok (.getfield 106, 3) := by decide +kernel
theorem dX14_isIdOf_106 : decode cX14_isIdOf 106 = .ok (.bipush 20, 2) := by decide +kernel
theorem dX14_isIdOf_108 : decode cX14_isIdOf 108 = .ok (.iload_n 1, 1) := by decide +kernel
theorem dX14_isIdOf_109 : decode cX14_isIdOf 109 = .ok (.imul, 1) := by decide +kernel
theorem dX14_isIdOf_110 : decode cX14_isIdOf 110 = .ok (.iload 4, 2) := by decide +kernel
theorem dX14_isIdOf_112 : decode cX14_isIdOf 112 = .ok (.iadd, 1) := by decide +kernel
theorem dX14_isIdOf_113 : decode cX14_isIdOf 113 = .ok (.iaload, 1) := by decide +kernel
theorem dX14_isIdOf_114 : decode cX14_isIdOf 114 = .ok (.aload_n 0, 1) := by decide +kernel
theorem dX14_isIdOf_115 : decode cX14_isIdOf 115 = .ok (.getfield 65, 3) := by decide +kernel
theorem dX14_isIdOf_118 : decode cX14_isIdOf 118 = .ok (.aload_n 0, 1) := by decide +kernel
theorem dX14_isIdOf_119 : decode cX14_isIdOf 119 = .ok (.getfield 52, 3) := by decide +kernel
theorem dX14_isIdOf_122 : decode cX14_isIdOf 122 = .ok (.iload_n 2, 1) := by decide +kernel
theorem dX14_isIdOf_123 : decode cX14_isIdOf 123 = .ok (.iaload, 1) := by decide +kernel
theorem dX14_isIdOf_124 : decode cX14_isIdOf 124 = .ok (.iload 4, 2) := by decide +kernel
theorem dX14_isIdOf_126 : decode cX14_isIdOf 126 = .ok (.iadd, 1) := by decide +kernel
theorem dX14_isIdOf_127 : decode cX14_isIdOf 127 = .ok (.iaload, 1) := by decide +kernel
theorem dX14_isIdOf_128 : decode cX14_isIdOf 128 = .ok (.if_icmp .ne 7, 3) := by decide +kernel
theorem dX14_isIdOf_131 : decode cX14_isIdOf 131 = .ok (.iconst 1, 1) := by decide +kernel
theorem dX14_isIdOf_132 : decode cX14_isIdOf 132 = .ok (.goto 4, 3) := by decide +kernel
theorem dX14_isIdOf_135 : decode cX14_isIdOf 135 = .ok (.iconst 0, 1) := by decide +kernel
theorem dX14_isIdOf_136 : decode cX14_isIdOf 136 = .ok (.istore_n 3, 1) := by decide +kernel
theorem dX14_isIdOf_137 : decode cX14_isIdOf 137 = .ok (.iinc 4 1, 3) := by decide +kernel
theorem dX14_isIdOf_140 : decode cX14_isIdOf 140 = .ok (.goto (-53), 3) := by decide +kernel
theorem dX14_isIdOf_143 : decode cX14_isIdOf 143 = .ok (.iload_n 3, 1) := by decide +kernel
theorem dX14_isIdOf_144 : decode cX14_isIdOf 144 = .ok (.ireturn, 1) := by decide +kernel
theorem dJ1_canEncode_fc78d_0 : decode cJ1_canEncode_fc78d 0 = .ok (.iload_n 0, 1) := by decide +kernel
theorem dJ1_canEncode_fc78d_1 : decode cJ1_canEncode_fc78d 1 = .ok (.sipush 255, 3) := by decide +kernel
theorem dJ1_canEncode_fc78d_4 : decode cJ1_canEncode_fc78d 4 = .ok (.if_icmp .gt 7, 3) := by decide +kernel
theorem dJ1_canEncode_fc78d_7 : decode cJ1_canEncode_fc78d 7 = .ok (.iconst 1, 1) := by decide +kernel
theorem dJ1_canEncode_fc78d_8 : decode cJ1_canEncode_fc78d 8 = .ok (.goto 4, 3) := by decide +kernel
theorem dJ1_canEncode_fc78d_11 : decode cJ1_canEncode_fc78d 11 = .ok (.iconst 0, 1) := by decide +kernel
theorem dJ1_canEncode_fc78d_12 : decode cJ1_canEncode_fc78d 12 = .ok (.ireturn, 1) := by decide +kernel
end
section
theorem dX14_takeId_0 : decode cX14_takeId 0 = .ok (.aload_n 0, 1) := by decide +kernel
theorem dX14_takeId_1 : decode cX14_takeId 1 = .ok (.iload_n 1, 1) := by decide +kernel
theorem dX14_takeId_2 : decode cX14_takeId 2 = .ok (.ifCond .ge 7, 3) := by decide +kernel
theorem dX14_takeId_5 : decode cX14_takeId 5 = .ok (.iconst 1, 1) := by decide +kernel
theorem dX14_takeId_6 : decode cX14_takeId 6 = .ok (.goto 4, 3) := by decide +kernel
theorem dX14_takeId_9 : decode cX14_takeId 9 = .ok (.iconst 0, 1) := by decide +kernel
theorem dX14_takeId_10 : decode cX14_takeId 10 = .ok (.putfield 374, 3) := by decide +kernel
theorem dX14_takeId_13 : decode cX14_takeId 13 = .ok (.iload_n 1, 1) := by decide +kernel
theorem dX14_takeId_14 : decode cX14_takeId 14 = .ok (.ifCond .ge 4, 3) := by decide +kernel
theorem dX14_takeId_17 : decode cX14_takeId 17 = .ok (.return_, 1) := by decide +kernel
theorem dX14_takeId_18 : decode cX14_takeId 18 = .ok (.aload_n 0, 1) := by decide +kernel
theorem dX14_takeId_19 : decode cX14_takeId 19 = .ok (.aload_n 0, 1) := by decide +kernel
theorem dX14_takeId_20 : decode cX14_takeId 20 = .ok (.getfield 37, 3) := by decide +kernel
theorem dX14_takeId_23 : decode cX14_takeId 23 = .ok (.iload_n 1, 1) := by decide +kernel
theorem dX14_takeId_24 : decode cX14_takeId 24 = .ok (.iaload, 1) := by decide +kernel
theorem dX14_takeId_25 : decode cX14_takeId 25 = .ok (.iconst 4, 1) := by decide +kernel
theorem dX14_takeId_26 : decode cX14_takeId 26 = .ok (.if_icmp .ne 7, 3) := by decide +kernel
theorem dX14_takeId_29 : decode cX14_takeId 29 = .ok (.iconst 1, 1) := by decide +kernel
theorem dX14_takeId_30 : decode cX14_takeId 30 = .ok (.goto 4, 3) := by decide +kernel
theorem dX14_takeId_33 : decode cX14_takeId 33 = .ok (.iconst 0, 1) := by decide +kernel
theorem dX14_takeId_34 : decode cX14_takeId 34 = .ok (.putfield 377, 3) := by decide +kernel
theorem dX14_takeId_37 : decode cX14_takeId 37 = .ok (.aload_n 0, 1) := by decide +kernel
theorem dX14_takeId_38 : decode cX14_takeId 38 = .ok (.aload_n 0, 1) := by decide +kernel
theorem dX14_takeId_39 : decode cX14_takeId 39 = .ok (.getfield 377, 3) := by decide +kernel
theorem dX14_takeId_42 : decode cX14_takeId 42 = .ok (.ifCond .eq 7, 3) := by decide +kernel
theorem dX14_takeId_45 : decode cX14_takeId 45 = .ok (.iconst 0, 1) := by decide +kernel
theorem dX14_takeId_46 : decode cX14_takeId 46 = .ok (.goto 9, 3) := by decide +kernel
theorem dX14_takeId_49 : decode cX14_takeId 49 = .ok (.aload_n 0, 1) := by decide +kernel
theorem dX14_takeId_50 : decode cX14_takeId 50 = .ok (.getfield 62, 3) := by decide +kernel
theorem dX14_takeId_53 : decode cX14_takeId 53 = .ok (.iload_n 1, 1) := by decide +kernel
theorem dX14_takeId_54 : decode cX14_takeId 54 = .ok (.iaload, 1) := by decide +kernel
theorem dX14_takeId_55 : decode cX14_takeId 55 = .ok (.putfield 380, 3) := by decide +kernel
theorem dX14_takeId_58 : decode cX14_takeId 58 = .ok (.aload_n 0, 1) := by decide +kernel
theorem dX14_takeId_59 : decode cX14_takeId 59 = .ok (.aload_n 0, 1) := by decide +kernel
theorem dX14_takeId_60 : decode cX14_takeId 60 = .ok (.getfield 377, 3) := by decide +kernel
theorem dX14_takeId_63 : decode cX14_takeId 63 = .ok (.ifCond .eq 19, 3) := by decide +kernel
theorem dX14_takeId_66 : decode cX14_takeId 66 = .ok (.aload_n 0, 1) := by decide +kernel
theorem dX14_takeId_67 : decode cX14_takeId 67 = .ok (.getfield 55, 3) := by decide +kernel
theorem dX14_takeId_70 : decode cX14_takeId 70 = .ok (.iload_n 1, 1) := by decide +kernel
theorem dX14_takeId_71 : decode cX14_takeId 71 = .ok (.iaload, 1) := by decide +kernel
theorem dX14_takeId_72 : decode cX14_takeId 72 = .ok (.aload_n 0, 1) := by decide +kernel
theorem dX14_takeId_73 : decode cX14_takeId 73 = .ok (.getfield 52, 3) := by decide +kernel
theorem dX14_takeId_76 : decode cX14_takeId 76 = .ok (.iload_n 1, 1) := by decide +kernel
theorem dX14_takeId_77 : decode cX14_takeId 77 = .ok (.iaload, 1) := by decide +kernel
theorem dX14_takeId_78 : decode cX14_takeId 78 = .ok (.isub, 1) := by decide +kernel
theorem dX14_takeId_79 : decode cX14_takeId 79 = .ok (.goto 4, 3) := by decide +kernel
theorem dX14_takeId_82 : decode cX14_takeId 82 = .ok (.iconst 0, 1) := by decide +kernel
theorem dX14_takeId_83 : decode cX14_takeId 83 = .ok (.putfield 383, 3) := by decide +kernel
theorem dX14_takeId_86 : decode cX14_takeId 86 = .ok (.iconst 0, 1) := by decide +kernel
theorem dX14_takeId_87 : decode cX14_takeId 87 = .ok (.istore_n 2, 1) := by decide +kernel
theorem dX14_takeId_88 : decode cX14_takeId 88 = .ok (.iload_n 2, 1) := by decide +kernel
theorem dX14_takeId_89 : decode cX14_takeId 89 = .ok (.aload_n 0, 1) := by decide +kernel
theorem dX14_takeId_90 : decode cX14_takeId 90 = .ok (.getfield 383, 3) := by decide +kernel
theorem dX14_takeId_93 : decode cX14_takeId 93 = .ok (.if_icmp .ge 28, 3) := by decide +kernel
theorem dX14_takeId_96 : decode cX14_takeId 96 = .ok (.aload_n 0, 1) := by decide +kernel
theorem dX14_takeId_97 : decode cX14_takeId 97 = .ok (.getfield 68, 3) := by decide +kernel
theorem dX14_takeId_100 : decode cX14_takeId 100 = .ok (.iload_n 2, 1) := by decide +kernel
theorem dX14_takeId_101 : decode cX14_takeId 101 = .ok (.aload_n 0, 1) := by decide +kernel
theorem dX14_takeId_102 : decode cX14_takeId 102 = .ok (.getfield 65, 3) := by decide +kernel
theorem dX14_takeId_105 : decode cX14_takeId 105 = .ok (.aload_n 0, 1) := by decide +kernel
theorem dX14_takeId_106 : decode cX14_takeId 106 = .ok (.getfield 52, 3) := by decide +kernel
theorem dX14_takeId_109 : decode cX14_takeId 109 = .ok (.iload_n 1, 1) := by decide +kernel
theorem dX14_takeId_110 : decode cX14_takeId 110 = .ok (.iaload, 1) := by decide +kernel
theorem dX14_takeId_111 : decode cX14_takeId 111 = .ok (.iload_n 2, 1) := by decide +kernel
theorem dX14_takeId_112 : decode cX14_takeId 112 = .ok (.iadd, 1) := by decide +kernel
theorem dX14_takeId_113 : decode cX14_takeId 113 = .ok (.iaload, 1) := by decide +kernel
theorem dX14_takeId_114 : decode cX14_takeId 114 = .ok (.iastore, 1) := by decide +kernel
theorem dX14_takeId_115 : decode cX14_takeId 115 = .ok (.iinc 2 1, 3) := by decide +kernel
theorem dX14_takeId_118 : decode cX14_takeId 118 = .ok (.goto (-30), 3) := by decide +kernel
theorem dX14_takeId_121 : decode cX14_takeId 121 = .ok (.return_, 1) := by decide +kernel
end
section
-- invariants with a footprint, as a walk carries them: contents of reference arrays, one field of all documents, the sentences of all documents
/-- the documents of the reference, as they stand between two calls -/
def jDV (dC : Nat → ClassId) (dI : Nat → Nat → Nat) (ca : Nat → ClassId) (G : jT) (r dd co cs ol nw td : Nat) (H : Heap) : Prop := ∃ (sn ck fs : Nat → Int32) (fd fo : Nat → Option Nat) (dc : Int32), jP (dC, dI) G H [(r, 16, 41, .ref dd), (r, 16, 42, .int dc), (r, 16, 60, .ref co), (r, 16, 61, .ref cs), (r, 16, 46, .ref ol), (r, 16, 47, .ref nw), (r, 16, 71, .ref td)] ∧ jMc (dC, dI) G H [(cs, 207, 2, ca 1, fs)] ∧ jIs (dC, dI) G H [(jFs, jDY dC dI ca G none sn), (jF9, jVl dC dI G 9 ck), ([(201, 0)], jQc dC dI (ca 4) dd 3 fd), ([(208, 0)], jQc dC dI (ca 4) co 2 fo)] ∧ jPu sn ck fd fo fs dc.toInt ol nw td
/-- the sentences of a document that is no worker's: x is told, old or now, or a closed one -/
theorem jPu.num {sn ck fs : Nat → Int32} {fd fo : Nat → Option Nat} {dc : Int} {ol nw td : Nat} {x : Nat} {v : Int32} (h : jPu sn ck fd fo fs dc ol nw td) (hx : x = ol ∨ x = nw ∨ x = td) : jPu (jUn sn x v) ck fd fo fs dc ol nw td := by
  obtain ⟨g0, g1, g2, g3⟩ := h
  have hne : ∀ i a, i < 3 → fd i = some a → a ≠ x := fun i a hi ha e => by
    obtain ⟨k1, k2, k3⟩ := g0 i hi
    subst e
    rcases hx with rfl | rfl | rfl
    · exact k1 ha
    · exact k2 ha
    · exact k3 ha
  refine ⟨g0, g1, fun i a hi ha => ?_, fun w hw => ?_⟩
  · rw [jUn_n _ _ (hne i a hi ha)]; exact g2 i a hi ha
  · rcases g3 w hw with k | ⟨d, a, k1, k2, k3, k4, k5⟩
    · exact Or.inl k
    · exact Or.inr ⟨d, a, k1, k2, k3, k4, by rw [jUn_n _ _ (hne d a k2 k3)]; exact k5⟩
section J15
variable {p : Program} {l : Launch} {e : Env} {R : Room} {s : State} {m : MethodId} {args : Array Value} {below : List Frame} {meth : Method} {c : Code} {H : Heap} {locs : List Loc} {cells slots : Nat} {Q : State → Prop}
variable {cc : ByteArray} {pc : Nat} {ls : Array Slot} {rest : List Value} {dC : Nat → ClassId} {dI : Nat → Nat → Nat} {ca : Nat → ClassId} {B : jF} {base : Nat} {G0 G : jT} {E : List (Nat × Nat)} {H0 : Heap} {zc zs : Nat} {L : List jPin} {M : List jCt} {I : List jIv} {a k n i N : Nat} {cA : ClassId} {tys : List (ClassId × FieldType)} {C own : String} {T : u_T} {index : Nat}
theorem j7_iastX {P : Nat → Int32 → Prop} (hexec : p.tables.exec = Jvm.exec) (hb : c.code = cc) (hK : va_K (dC, dI) vwCl tys s) (hh : jSt (dC, dI) B base G0 G E H0 zc zs L M I H locs) (hB : jBok B) (hBk : ∀ n G a H, B k n G a H ↔ jAr (dC, dI) cA P n a H) (t0 : Nat) (ht : tys[t0]? = some (cA, .int)) (hk : k < 1000) (hk2 : 18 ≤ k) (hE : E.contains (k, 0) = true) (oj : Nat) {kk1 : Nat} {cB : ClassId} {f : Nat → Int32} (hj : M[oj]? = some (a, kk1, n, cB, f)) {M1 : List jCt} (js : List Nat) (hjs : js.map (fun i => M[i]?) = M1.map some) (hM : M1.all (fun q => !(q.2.1 == k)) = true) (hI : I.all (fun q => !(q.1.contains (k, 0))) = true) (ha : G a = some (k, n)) {i v : Int32} {x : Int} (hi : i.toInt = x) (h12 : 0 ≤ x ∧ x < n) (hv : P x.toNat v) (hdg : decode cc pc = .ok (.iastore, 1))
    (kk : ∀ (H1 : Heap) (locs1 : List Loc) (g : Nat → Int32), g x.toNat = v → (∀ j, j < n → j ≠ x.toNat → g j = f j) → (∀ q, q ≠ a → H1[q]? = H[q]?) → jSt (dC, dI) B base G0 G E H0 zc zs L ((a, k, n, cA, g) :: M1) I H1 locs1 → W p l e R s m args below meth c H1 locs1 cells slots Q (F0 m (pc + 1) ls rest)) : W p l e R s m args below meth c H locs cells slots Q (F0 m pc ls (.int v :: .int i :: .ref a :: rest)) := by
  obtain ⟨h1, h2⟩ := h12
  obtain ⟨f', g1, g2⟩ := hh.ar hBk hk ha
  obtain ⟨-, -, -, q4⟩ := hh.2.2.2.2.2.2.2.1 _ (List.mem_of_getElem? hj)
  have hh1 : jSt (dC, dI) B base G0 G E H0 zc zs L M1 I H locs := by
    obtain ⟨e1, e2, e3, e4, e5, e6, e7, e8, e9⟩ := hh
    exact ⟨e1, e2, e3, e4, e5, e6, e7, e8.sub js hjs, e9⟩
  refine j_iast (A := jA base) hexec hb hK t0 g1 (hh.ab ha).1 hh.1.2.2 ht (jb_in hi h1 h2) hdg (fun H1 locs1 hat hsz hfr hT hL => ?_)
  have h9 := hh1.arr hB ha hk hk2 hE hM hI hsz hfr hT hL ((hBk _ _ _ _).mpr ⟨_, hat, jAr_upd g2 hi h1 hv⟩)
  refine kk H1 locs1 (upd f' i.toNatClampNeg v) (by rw [← jb_cl hi h1]; simp [upd]) (fun j hj' hne => ?_) hfr ?_
  · have : j ≠ i.toNatClampNeg := by rw [jb_cl hi h1]; exact hne
    simp only [upd, if_neg this]
    exact (jCt_eq q4 g1 hj').symm
  · obtain ⟨e1, e2, e3, e4, e5, e6, e7, e8, e9⟩ := h9
    refine ⟨e1, e2, e3, e4, e5, e6, e7, fun q hq => ?_, e9⟩
    rcases List.mem_cons.mp hq with e | e
    · subst e; exact ⟨ha, hk2, hk, hat⟩
    · exact e8 q e
end J15
end
section
-- texts whose bytes are known: charAt, isText and member as functions
theorem jStrT.F {base a n : Nat} {tx : String} {U : State} {H : Heap} (h : jStrT base a tx U H) (hn : tx.length = n) : jStrF base a n (jChT tx) U H := by
  subst hn
  obtain ⟨h1, h2, v, h3, h4⟩ := h
  exact ⟨h1, h2, v, h3, h4⟩
theorem jTx_0 {fp f : Nat → Int32} {a : Int} {m n : Nat} (h : m < n) (he : jSo fp (a + m) ≠ (jCv (f m)).toInt) : jTx fp f a n = 0 := by
  induction n with
  | zero => omega
  | succ n ih =>
    have e : jTx fp f a (n + 1) = if jSo fp (a + n) = (jCv (f n)).toInt then jTx fp f a n else 0 := rfl
    rw [e]
    by_cases q : m = n
    · subst q; rw [if_neg he]
    · split
      · exact ih (by omega)
      · rfl
theorem jTx_1 {fp f : Nat → Int32} {a : Int} {m : Nat} (h : jTx fp f a m = 1) (he : jSo fp (a + m) = (jCv (f m)).toInt) : jTx fp f a (m + 1) = 1 := by
  have e : jTx fp f a (m + 1) = if jSo fp (a + m) = (jCv (f m)).toInt then jTx fp f a m else 0 := rfl
  rw [e, if_pos he]; exact h
set_option maxHeartbeats 4000000 in
set_option maxRecDepth 20000 in
theorem eJ1_charAt_3b067 (l : Launch) (dC : Nat → ClassId) (dI : Nat → Nat → Nat) (ca : Nat → ClassId) (base : Nat) (H0 : Heap) (h0 n : Nat) (f : Nat → Int32) (a1 : Int32) : Met l yJ1_charAt_3b067 (jw yJ1_charAt_3b067 cJ1_charAt_3b067 2 (some .char)) ({ frames := 2, cells := 0, slots := 0, locals := 80 }) (va_Pc [.ref h0, .int a1] (fun U => U.heap = H0 ∧ va_T .byte h0 n (fun j => .int (f j)) (jA base) U H0 ∧ jG dC dI ca base U ∧ (n < 2147483648 ∧ 0 ≤ a1.toInt ∧ a1.toInt < n))) (vp_Si (fun r => r = jCv (f a1.toInt.toNat))) 0 0 (fun _ => False) := by
  refine Met.ofW (cc := cJ1_charAt_3b067) (maxL := 2) (ret := (some .char)) (by decide) rfl ?_
  intro p e s m args below meth c s₁ B hml hv
  obtain ⟨rfl, hH0, hsa_h0, hG, hp1, hp2, hp3⟩ := hv
  have hK := hG.1
  have hx := B.exec
  have hb := B.bytes
  have hr := B.returns
  have hts := atoms_spec (ws := (jw yJ1_charAt_3b067 cJ1_charAt_3b067 2 (some .char))) B.pre
  have htw : ∀ w ∈ jWl, w.before _ s = true := fun w h => hts w (List.mem_cons_of_mem _ h)
  have hown : s.vm.findClass RJ1 = some m.cls := findClass_of_methodNamed B.named
  have hlocks := B.notSynchronized
  obtain ⟨Q, hQ⟩ : ∃ Q, Q = MQ below (vp_Si (fun r => r = jCv (f a1.toInt.toNat))) ([.ref h0, .int a1] : List Value).toArray s 0 0 (fun _ => False) := ⟨_, rfl⟩
  rw [← hQ]
  have hl := lv_entry ([.ref h0, .int a1]) (n := 2) (Nat.le_of_ble_eq_true rfl)
  rw [lg_entry_eq]
  generalize (lg_sl ([.ref h0, .int a1]) ++ List.replicate (2 - (lg_sl ([.ref h0, .int a1])).length) Slot.unset).toArray = ls at hl ⊢
  have hl : lv_has ls 2 [(0, .ref h0), (1, .int a1)] := hl
  generalize hR : (headSpec (jw yJ1_charAt_3b067 cJ1_charAt_3b067 2 (some .char)) ({ frames := 2, cells := 0, slots := 0, locals := 80 })).room = R
  subst hH0
  have hS : va_S (jA base) s.heap s.heap [] := va_S.rf
  have hk0 : (0 : Int32).toInt = 0 := by decide
  have hk1 : (1 : Int32).toInt = 1 := by decide
  have hk255 : (255 : Int32).toInt = 255 := by decide
  refine lv_iload_n hx hb dJ1_charAt_3b067_0 rfl (lv_at hl 1 rfl) ?_
  refine lv_aload_n hx hb dJ1_charAt_3b067_1 rfl (lv_at hl 0 rfl) ?_
  refine va_tlen hx hb hsa_h0 hS (v := Int32.ofNat n) rfl dJ1_charAt_3b067_2 ?_
  refine lv_topi (fun z_1 ez_1 => ?_)
  have hz_1 : z_1.toInt = n := by rw [ez_1]; exact jb_nat (by omega)
  refine va_csv (W.runS (As := [.int a1, .int z_1]) (rest := []) ⟨hx, hb, hml, hown, hts⟩ (wJ0_checkIndex_df160 l dC dI ca base s.heap a1 z_1) (va_cwS 2 hts (jgS (jWr_6 _ (List.mem_of_getElem? (i := 12) rfl)) (jWr_6 _ (List.mem_of_getElem? (i := 13) rfl)) (jWr_5 _ (List.mem_of_getElem? (i := 15) rfl)) (jWr_6 _ (List.mem_of_getElem? (i := 14) rfl))) rfl rfl rfl (by decide +kernel) ⟨by rw [← hR]; exact Nat.le_of_ble_eq_true rfl, by rw [← hR]; exact Nat.le_of_ble_eq_true rfl⟩) ⟨fun a U g mk q => by obtain ⟨q0, q1, qK, q9⟩ := q; exact ⟨q0, q1, jG.calling g mk a qK, q9⟩, fun U hU hW => ⟨rfl, hU, hG.step hW hU hS, by first | trivial | omega | (constructor <;> omega)⟩⟩ rfl rfl hl.1 rfl (lv_room (Nat.le_of_ble_eq_true rfl)) dJ1_charAt_3b067_3 ⟨Nat.zero_le _, Nat.zero_le _⟩) (fun _ => ?_)
  refine lv_aload_n hx hb dJ1_charAt_3b067_6 rfl (lv_at hl 0 rfl) ?_
  refine lv_iload_n hx hb dJ1_charAt_3b067_7 rfl (lv_at hl 1 rfl) ?_
  refine va_tb hx hb hsa_h0 hS (jb_in (rfl) (by omega) (by omega)) rfl dJ1_charAt_3b067_8 ?_
  refine lv_topi (fun z_3 ez_3 => ?_)
  refine lv_sipush (v := 255) hx hb dJ1_charAt_3b067_9 (by decide) ?_
  refine lv_iand hx hb dJ1_charAt_3b067_12 ?_
  refine lv_topi (fun z_4 ez_4 => ?_)
  have hz_4 : 0 ≤ z_4.toInt ∧ z_4.toInt ≤ 255 := by rw [ez_4]; exact jb_and z_3 (m := 255) (k := 8) (by decide) (by decide)
  refine lv_i2c hx hb dJ1_charAt_3b067_13 rfl ?_
  refine lv_topi (fun z_5 ez_5 => ?_)
  rw [hQ]
  exact W.zret (v := z_5) hx hb hr (by rw [ez_5]; exact pk_nc _) (fun t ht hW => ⟨z_5, rfl, by show z_5 = jCv (f a1.toInt.toNat); rw [← jb_cl (x := a1) rfl (by omega), ez_5, ez_4, ez_3]; rfl, ht⟩) (fun _ h => nomatch h) dJ1_charAt_3b067_14
set_option maxHeartbeats 4000000 in
set_option maxRecDepth 20000 in
theorem eJ0_charAt_5068e (l : Launch) (dC : Nat → ClassId) (dI : Nat → Nat → Nat) (ca : Nat → ClassId) (base : Nat) (H0 : Heap) (h0 n : Nat) (f : Nat → Int32) (a1 : Int32) : Met l yJ0_charAt_5068e (jw yJ0_charAt_5068e cJ0_charAt_5068e 2 (some .char)) ({ frames := 3, cells := 0, slots := 0, locals := 120 }) (va_Pc [.ref h0, .int a1] (fun U => U.heap = H0 ∧ jStrF base h0 n f U H0 ∧ jG dC dI ca base U ∧ (n < 2147483648 ∧ 0 ≤ a1.toInt ∧ a1.toInt < n))) (vp_Si (fun r => r = jCv (f a1.toInt.toNat))) 0 0 (fun _ => False) := by
  refine Met.ofW (cc := cJ0_charAt_5068e) (maxL := 2) (ret := (some .char)) (by decide) rfl ?_
  intro p e s m args below meth c s₁ B hml hv
  obtain ⟨rfl, hH0, hsF, hG, hp1, hp2, hp3⟩ := hv
  have hstr_h0 := hsF.str
  have hK := hG.1
  have hx := B.exec
  have hb := B.bytes
  have hr := B.returns
  have hts := atoms_spec (ws := (jw yJ0_charAt_5068e cJ0_charAt_5068e 2 (some .char))) B.pre
  have htw : ∀ w ∈ jWl, w.before _ s = true := fun w h => hts w (List.mem_cons_of_mem _ h)
  have hown : s.vm.findClass RJ0 = some m.cls := findClass_of_methodNamed B.named
  have hlocks := B.notSynchronized
  obtain ⟨Q, hQ⟩ : ∃ Q, Q = MQ below (vp_Si (fun r => r = jCv (f a1.toInt.toNat))) ([.ref h0, .int a1] : List Value).toArray s 0 0 (fun _ => False) := ⟨_, rfl⟩
  rw [← hQ]
  have hl := lv_entry ([.ref h0, .int a1]) (n := 2) (Nat.le_of_ble_eq_true rfl)
  rw [lg_entry_eq]
  generalize (lg_sl ([.ref h0, .int a1]) ++ List.replicate (2 - (lg_sl ([.ref h0, .int a1])).length) Slot.unset).toArray = ls at hl ⊢
  have hl : lv_has ls 2 [(0, .ref h0), (1, .int a1)] := hl
  generalize hR : (headSpec (jw yJ0_charAt_5068e cJ0_charAt_5068e 2 (some .char)) ({ frames := 3, cells := 0, slots := 0, locals := 120 })).room = R
  subst hH0
  have hS : va_S (jA base) s.heap s.heap [] := va_S.rf
  have hk0 : (0 : Int32).toInt = 0 := by decide
  have hk1 : (1 : Int32).toInt = 1 := by decide
  refine lv_aload_n hx hb dJ0_charAt_5068e_0 rfl (lv_at hl 0 rfl) ?_
  refine vp_callSi (W.runV (As := []) (rest := []) ⟨hx, hb, hml, hown, hts⟩ (wJ0_isLatin1_aae02 l dC dI ca base s.heap h0 n) (cwV 0 hts (jgV (jWr_6 _ (List.mem_of_getElem? (i := 4) rfl)) (jWr_6 _ (List.mem_of_getElem? (i := 5) rfl)) (jWr_6 _ (List.mem_of_getElem? (i := 6) rfl)) (jWr_5 _ (List.mem_of_getElem? (i := 15) rfl)) (jWr_6 _ (List.mem_of_getElem? (i := 7) rfl))) rfl rfl rfl (by decide +kernel) ⟨by rw [← hR]; exact Nat.le_of_ble_eq_true rfl, by rw [← hR]; exact Nat.le_of_ble_eq_true rfl⟩) ⟨fun a U g mk q => by obtain ⟨q0, q1, q2, qK, q9⟩ := q; exact ⟨q0, q1, (q2.moved (Vm.Alike.refl U.vm)), jG.calling g mk a qK, q9⟩, jStr_recv hstr_h0 hS, fun U hU hW => ⟨rfl, hU, (hstr_h0.moved hW.alike).kept hS.2.1, hG.step hW hU hS, by omega⟩⟩ rfl rfl hl.1 rfl (lv_room (Nat.le_of_ble_eq_true rfl)) dJ0_charAt_5068e_1 ⟨Nat.zero_le _, Nat.zero_le _⟩) (fun r_1 hr_1 => ?_)
  subst hr_1
  refine lv_if_eq (tgt := 16) hx hb dJ0_charAt_5068e_4 (by decide) (fun c_2 => ?_) (fun c_2 => ?_)
  · skip
    exact absurd c_2 (by decide)
  · skip
    refine lv_aload_n hx hb dJ0_charAt_5068e_7 rfl (lv_at hl 0 rfl) ?_
    obtain ⟨sv_3, gsv_3, hsv_3⟩ := hsF.2.2
    refine vk_getf hx hb gsv_3 hS hown (htw (.fieldLink RJ0 9 "java/lang/String" "value" "[B") (jWr_5 _ (List.mem_of_getElem? (i := 17) rfl))) (fun _ h9 => h9) dJ0_charAt_5068e_8 ?_
    refine lv_iload_n hx hb dJ0_charAt_5068e_11 rfl (lv_at hl 1 rfl) ?_
    refine vp_callSi (W.runS (As := [.ref sv_3, .int a1]) (rest := []) ⟨hx, hb, hml, hown, hts⟩ (eJ1_charAt_3b067 l dC dI ca base s.heap sv_3 n f a1) (va_cwS 2 hts (jgS (jWr_6 _ (List.mem_of_getElem? (i := 8) rfl)) (jWr_6 _ (List.mem_of_getElem? (i := 9) rfl)) (jWr_6 _ (List.mem_of_getElem? (i := 10) rfl)) (jWr_6 _ (List.mem_of_getElem? (i := 11) rfl))) rfl rfl rfl (by decide +kernel) ⟨by rw [← hR]; exact Nat.le_of_ble_eq_true rfl, by rw [← hR]; exact Nat.le_of_ble_eq_true rfl⟩) ⟨fun a U g mk q => by obtain ⟨q0, q1, q2, qK, q9⟩ := q; exact ⟨q0, q1, (q2.moved (Vm.Alike.refl U.vm)), jG.calling g mk a qK, q9⟩, fun U hU hW => ⟨rfl, hU, (hsv_3.moved hW.alike).kept hS.2.1, hG.step hW hU hS, ⟨by omega, by omega, by omega⟩⟩⟩ rfl rfl hl.1 rfl (lv_room (Nat.le_of_ble_eq_true rfl)) dJ0_charAt_5068e_12 ⟨Nat.zero_le _, Nat.zero_le _⟩) (fun r_4 hr_4 => ?_)
    rw [hQ]
    exact W.zret (v := r_4) hx hb hr (by rw [hr_4]; exact jb_nch (jb_char _).1 (jb_char _).2) (fun t ht hW => ⟨r_4, rfl, hr_4, ht⟩) (fun _ h => nomatch h) dJ0_charAt_5068e_15
end
section
def EX14_isTextK : List (Nat × Nat) := []
set_option maxHeartbeats 4000000 in
set_option maxRecDepth 20000 in
theorem uX14_isTextK (l : Launch) (dC : Nat → ClassId) (dI : Nat → Nat → Nat) (ca : Nat → ClassId) (base : Nat) (B : jF) (hB : jBok B) (hAp : jAp (dC, dI)) (hB16 : ∀ n G a H, B 16 n G a H ↔ jOb (dC, dI) 16 74 (F16 n G) a H) (hB127 : ∀ n G a H, B 127 n G a H ↔ jAr (dC, dI) (ca 1) (fun j z => True) n a H) (G0 : jT) (H0 : Heap) (r0 : Nat) (a1 : Int32) (a2 : Int32) (r3 : Nat) (n3 : Nat) (f3 : Nat → Int32) (xp : Nat) (mp : Nat → Int32) : Met l yX14_isText (jw yX14_isText cX14_isText 5 (some .boolean)) ({ frames := 4, cells := 0, slots := 0, locals := 141 }) (va_Pc [.ref r0, .int a1, .int a2, .ref r3] (fun U => U.heap = H0 ∧ jX B base G0 [] H0 ∧ jG dC dI ca base U ∧ jStrF base r3 n3 f3 U H0 ∧ G0 r0 = some (16, 0) ∧ G0 xp = some (127, 3300) ∧ jP (dC, dI) G0 H0 [(r0, 16, 27, .ref xp)] ∧ jMc (dC, dI) G0 H0 [(xp, 127, 3300, ca 1, mp)] ∧ 0 ≤ a1.toInt ∧ a2.toInt ≤ 3300 ∧ a1.toInt ≤ 3300 ∧ 0 ≤ a2.toInt ∧ n3 < 2147483648)) (va_Qi (S := Unit) (fun r u => (r = 0 ∨ r = 1) ∧ (r.toInt = jIT mp f3 n3 a1.toInt a2.toInt)) (fun u t => jRt (dC, dI) B base G0 EX14_isTextK H0 [] t.heap) (jA base)) 0 0 (jA base) := by
  refine Met.ofW (cc := cX14_isText) (maxL := 5) (ret := (some .boolean)) (by decide) rfl ?_
  intro p e s m args below meth c s₁ Bd hml hv
  obtain ⟨rfl, hH0, hX, hG, hstrF_r3, hg_r0, hg_xp, hP0, hM0, hp0, hp1, hp2, hp3, hp4⟩ := hv
  have hK := hG.1
  have hx := Bd.exec
  have hb := Bd.bytes
  have hr := Bd.returns
  have hts := atoms_spec (ws := (jw yX14_isText cX14_isText 5 (some .boolean))) Bd.pre
  have htw : ∀ w ∈ jWl, w.before _ s = true := fun w h => hts w (List.mem_cons_of_mem _ h)
  have hown : s.vm.findClass RX14 = some m.cls := findClass_of_methodNamed Bd.named
  have hlocks := Bd.notSynchronized
  obtain ⟨Q, hQ⟩ : ∃ Q, Q = MQ below (va_Qi (S := Unit) (fun r u => (r = 0 ∨ r = 1) ∧ (r.toInt = jIT mp f3 n3 a1.toInt a2.toInt)) (fun u t => jRt (dC, dI) B base G0 EX14_isTextK H0 [] t.heap) (jA base)) ([.ref r0, .int a1, .int a2, .ref r3] : List Value).toArray s 0 0 (jA base) := ⟨_, rfl⟩
  rw [← hQ]
  have hl := lv_entry ([.ref r0, .int a1, .int a2, .ref r3]) (n := 5) (Nat.le_of_ble_eq_true rfl)
  rw [lg_entry_eq]
  generalize (lg_sl ([.ref r0, .int a1, .int a2, .ref r3]) ++ List.replicate (5 - (lg_sl ([.ref r0, .int a1, .int a2, .ref r3])).length) Slot.unset).toArray = ls at hl ⊢
  have hstr_r3 := hstrF_r3.str
  have hl : lv_has ls 5 [(0, .ref r0), (1, .int a1), (2, .int a2), (3, .ref r3)] := hl
  generalize hR : (headSpec (jw yX14_isText cX14_isText 5 (some .boolean)) ({ frames := 4, cells := 0, slots := 0, locals := 141 })).room = R
  subst hH0
  have hh : jSt (dC, dI) B base G0 G0 EX14_isTextK s.heap 0 0 [(r0, 16, 27, .ref xp)] [(xp, 127, 3300, ca 1, mp)] [] s.heap [] := jSt.start hX hP0 hM0 jIs.nil
  clear hX hP0
  have hk0 : (0 : Int32).toInt = 0 := by decide
  have hk1 : (1 : Int32).toInt = 1 := by decide
  have hly_16_27 := htw (u_lay RX14 TX14 27) (jWc_wsX140 _ (u_in_lay (by decide)))
  have hlk_65 := (htw (.fieldLink RX14 65 "ProofServerModel" "pool" "[I") (jWr_11 _ (List.mem_of_getElem? (i := 14) rfl)))
  have hrg_a1 := jb_rng a1
  have hrg_a2 := jb_rng a2
  refine lv_iload_n hx hb dX14_isText_0 rfl (lv_at hl 2 rfl) ?_
  refine lv_iload_n hx hb dX14_isText_1 rfl (lv_at hl 1 rfl) ?_
  refine lv_isub hx hb dX14_isText_2 ?_
  refine lv_topi (fun z_1 ez_1 => ?_)
  have hz_1 : z_1.toInt = a2.toInt - a1.toInt := by rw [ez_1]; exact jb_isub2 (rfl) (rfl) (by omega)
  refine lv_aload_n hx hb dX14_isText_3 rfl (lv_at hl 3 rfl) ?_
  refine vp_callSi (W.runV (As := []) (rest := [.int z_1]) ⟨hx, hb, hml, hown, hts⟩ (wJ0_length_8abf5 l dC dI ca base s.heap r3 n3) (cwV 0 hts (jgV (jWr_49 _ (List.mem_of_getElem? (i := 1) rfl)) (jWr_5 _ (List.mem_of_getElem? (i := 13) rfl)) (jWr_5 _ (List.mem_of_getElem? (i := 14) rfl)) (jWr_5 _ (List.mem_of_getElem? (i := 15) rfl)) (jWr_5 _ (List.mem_of_getElem? (i := 16) rfl))) rfl rfl rfl (by decide +kernel) ⟨by rw [← hR]; exact Nat.le_of_ble_eq_true rfl, by rw [← hR]; exact Nat.le_of_ble_eq_true rfl⟩) ⟨fun a U g mk q => by obtain ⟨q0, q1, q2, qK, q9⟩ := q; exact ⟨q0, q1, (q2.moved (Vm.Alike.refl U.vm)), jG.calling g mk a qK, q9⟩, jStr_recv hstr_r3 hh.1, fun U hU hW => ⟨rfl, hU, (hstr_r3.moved hW.alike).kept hh.1.2.1, hG.step hW hU hh.1, by omega⟩⟩ rfl rfl hl.1 rfl (lv_room (Nat.le_of_ble_eq_true rfl)) dX14_isText_4 ⟨Nat.zero_le _, Nat.zero_le _⟩) (fun r_2 hr_2 => ?_)
  refine lv_icmp_eq (tgt := 12) hx hb dX14_isText_7 (by decide) (fun c_3 => ?_) (fun c_3 => ?_)
  · skip
    have c_3' : z_1.toInt = r_2.toInt := jb_eq (rfl) (rfl) c_3
    refine lv_iconst (v := 0) hx hb dX14_isText_12 (by decide) ?_
    refine lv_istore (lv' := [(4, .int 0), (0, .ref r0), (1, .int a1), (2, .int a2), (3, .ref r3)]) hx hb dX14_isText_13 hl (by decide) rfl (fun ls hl => ?_)
    have L15 : ∀ (N : Nat) (v4_4 : Int32) (H_4 : Heap) (locs_4 : List Loc), jSt (dC, dI) B base G0 G0 EX14_isTextK s.heap 0 0 [(r0, 16, 27, .ref xp)] [(xp, 127, 3300, ca 1, mp)] [] H_4 locs_4 → (0 ≤ v4_4.toInt ∧ v4_4.toInt ≤ n3 ∧ jTx mp f3 a1.toInt (v4_4.toInt).toNat = 1) → (n3 - v4_4.toInt : Int) < N → ∀ ls : Array Slot, lv_has ls 5 [(0, .ref r0), (1, .int a1), (2, .int a2), (3, .ref r3), (4, .int v4_4)] → W p l e R s m ([.ref r0, .int a1, .int a2, .ref r3] : List Value).toArray below meth c H_4 locs_4 0 0 Q (F0 m 15 ls []) := by
      intro N
      induction N with
      | zero => intro v4_4 H_4 locs_4 hh_4  hi_4 hm; exact absurd hm (by omega)
      | succ N L15 =>
        intro v4_4 H_4 locs_4 hh_4  hi_4 hm_4 ls hl
        obtain ⟨hi_4_0, hi_4_1, hi_4_2⟩ := hi_4
        refine lv_iload hx hb dX14_isText_15 (lv_at hl 4 rfl) ?_
        refine lv_aload_n hx hb dX14_isText_17 rfl (lv_at hl 3 rfl) ?_
        refine vp_callSi (W.runV (As := []) (rest := [.int v4_4]) ⟨hx, hb, hml, hown, hts⟩ (wJ0_length_8abf5 l dC dI ca base H_4 r3 n3) (cwV 0 hts (jgV (jWr_49 _ (List.mem_of_getElem? (i := 1) rfl)) (jWr_5 _ (List.mem_of_getElem? (i := 13) rfl)) (jWr_5 _ (List.mem_of_getElem? (i := 14) rfl)) (jWr_5 _ (List.mem_of_getElem? (i := 15) rfl)) (jWr_5 _ (List.mem_of_getElem? (i := 16) rfl))) rfl rfl rfl (by decide +kernel) ⟨by rw [← hR]; exact Nat.le_of_ble_eq_true rfl, by rw [← hR]; exact Nat.le_of_ble_eq_true rfl⟩) ⟨fun a U g mk q => by obtain ⟨q0, q1, q2, qK, q9⟩ := q; exact ⟨q0, q1, (q2.moved (Vm.Alike.refl U.vm)), jG.calling g mk a qK, q9⟩, jStr_recv hstr_r3 hh_4.1, fun U hU hW => ⟨rfl, hU, (hstr_r3.moved hW.alike).kept hh_4.1.2.1, hG.step hW hU hh_4.1, by omega⟩⟩ rfl rfl hl.1 rfl (lv_room (Nat.le_of_ble_eq_true rfl)) dX14_isText_18 ⟨Nat.zero_le _, Nat.zero_le _⟩) (fun r_5 hr_5 => ?_)
        refine lv_icmp_ge (tgt := 50) hx hb dX14_isText_21 (by decide) (fun c_6 => ?_) (fun c_6 => ?_)
        · skip
          have c_6' : v4_4.toInt ≥ r_5.toInt := jb_ge (rfl) (rfl) c_6
          refine lv_iconst (v := 1) hx hb dX14_isText_50 (by decide) ?_
          rw [hQ]
          exact W.zret (v := 1) hx hb hr (jb_nz (Or.inr rfl)) (fun t ht hW => ⟨⟨1, (), rfl, ⟨(Or.inr rfl), by unfold jIT; rw [if_pos (by omega), show n3 = v4_4.toInt.toNat by omega, hi_4_2]; exact hk1⟩, hh_4.rt (M1 := []) [] rfl ht⟩, by rw [ht]; try exact hh_4.1.1, fun q h9 hq => by rw [ht]; try exact hh_4.1.2.1 q h9 hq⟩) hh_4.1.2.2 dX14_isText_51
        · skip
          have c_6' : v4_4.toInt < r_5.toInt := jb_ge_n (rfl) (rfl) c_6
          refine lv_aload_n hx hb dX14_isText_24 rfl (lv_at hl 0 rfl) ?_
          refine j7_read hx hb hown hK (C := RX14) (T := TX14) (N := 74) rfl hly_16_27 hlk_65 (hh_4.at 0 rfl) dX14_isText_25 ?_
          refine lv_iload_n hx hb dX14_isText_28 rfl (lv_at hl 1 rfl) ?_
          refine lv_iload hx hb dX14_isText_29 (lv_at hl 4 rfl) ?_
          refine lv_iadd hx hb dX14_isText_31 ?_
          refine lv_topi (fun z_7 ez_7 => ?_)
          have hz_7 : z_7.toInt = a1.toInt + v4_4.toInt := by rw [ez_7]; exact jb_iadd2 (rfl) (rfl) (by omega)
          refine j7_ialdM hx hb hK hh_4 hB127 1 rfl (by decide) hg_xp (x := z_7.toInt) (rfl) (by omega) (j := 0) rfl dX14_isText_32 (fun z_8 ez_8 (hz_8 : True) => ?_)
          have hqz_8 : z_8.toInt = jSo mp ((a1.toInt + v4_4.toInt)) := by unfold jSo; rw [ez_8, show z_7.toInt = (a1.toInt + v4_4.toInt) by omega]
          refine lv_aload_n hx hb dX14_isText_33 rfl (lv_at hl 3 rfl) ?_
          refine lv_iload hx hb dX14_isText_34 (lv_at hl 4 rfl) ?_
          refine vp_callSi (W.runV (As := [.int v4_4]) (rest := [.int z_8]) ⟨hx, hb, hml, hown, hts⟩ (eJ0_charAt_5068e l dC dI ca base H_4 r3 n3 f3 v4_4) (cwV 1 hts (jgV (jWr_49 _ (List.mem_of_getElem? (i := 13) rfl)) (jWr_6 _ (List.mem_of_getElem? (i := 1) rfl)) (jWr_6 _ (List.mem_of_getElem? (i := 2) rfl)) (jWr_5 _ (List.mem_of_getElem? (i := 15) rfl)) (jWr_6 _ (List.mem_of_getElem? (i := 3) rfl))) rfl rfl rfl (by decide +kernel) ⟨by rw [← hR]; exact Nat.le_of_ble_eq_true rfl, by rw [← hR]; exact Nat.le_of_ble_eq_true rfl⟩) ⟨fun a U g mk q => by obtain ⟨q0, q1, q2, qK, q9⟩ := q; exact ⟨q0, q1, (q2.moved (Vm.Alike.refl U.vm)), jG.calling g mk a qK, q9⟩, jStr_recv hstr_r3 hh_4.1, fun U hU hW => ⟨rfl, hU, (hstrF_r3.moved hW.alike).kept hh_4.1.2.1, hG.step hW hU hh_4.1, ⟨by omega, by omega, by omega⟩⟩⟩ rfl rfl hl.1 rfl (lv_room (Nat.le_of_ble_eq_true rfl)) dX14_isText_36 ⟨Nat.zero_le _, Nat.zero_le _⟩) (fun r_9 hr_9 => ?_)
          refine lv_icmp_eq (tgt := 44) hx hb dX14_isText_39 (by decide) (fun c_10 => ?_) (fun c_10 => ?_)
          · skip
            have c_10' : z_8.toInt = r_9.toInt := jb_eq (rfl) (rfl) c_10
            obtain ⟨z_11, ez_11⟩ : ∃ y : Int32, y = v4_4 + 1 := ⟨_, rfl⟩
            refine lv_iinc (v := z_11) (lv' := [(4, .int z_11), (0, .ref r0), (1, .int a1), (2, .int a2), (3, .ref r3)]) hx hb dX14_isText_44 hl (k := 4) rfl (by rw [ez_11]; rfl) (by decide) rfl (fun ls hl => ?_)
            have hz_11 : z_11.toInt = v4_4.toInt + 1 := by rw [ez_11]; exact jb_iadd2 (rfl) (by decide) (by omega)
            refine lv_goto (tgt := 15) hx hb dX14_isText_47 (by decide) ?_
            exact L15 z_11 _ _ hh_4 (by refine ⟨by omega, by omega, ?_⟩; rw [show (z_11).toInt.toNat = v4_4.toInt.toNat + 1 by omega]; exact jTx_1 hi_4_2 (by rw [show a1.toInt + ((v4_4.toInt.toNat : Nat) : Int) = a1.toInt + v4_4.toInt by omega, ← hqz_8, ← hr_9]; omega)) (by omega) _ (lv_sub hl [1, 2, 3, 4, 0] rfl)
          · skip
            have c_10' : z_8.toInt ≠ r_9.toInt := jb_eq_n (rfl) (rfl) c_10
            refine lv_iconst (v := 0) hx hb dX14_isText_42 (by decide) ?_
            rw [hQ]
            exact W.zret (v := 0) hx hb hr (jb_nz (Or.inl rfl)) (fun t ht hW => ⟨⟨0, (), rfl, ⟨(Or.inl rfl), by unfold jIT; rw [if_pos (by omega), jTx_0 (m := v4_4.toInt.toNat) (by omega) (by rw [show a1.toInt + ((v4_4.toInt.toNat : Nat) : Int) = a1.toInt + v4_4.toInt by omega, ← hqz_8, ← hr_9]; omega)]; exact hk0⟩, hh_4.rt (M1 := []) [] rfl ht⟩, by rw [ht]; try exact hh_4.1.1, fun q h9 hq => by rw [ht]; try exact hh_4.1.2.1 q h9 hq⟩) hh_4.1.2.2 dX14_isText_43
    exact L15 (n3 - (0 : Int32).toInt : Int).toNat.succ 0 _ _ hh (by refine ⟨by omega, by omega, ?_⟩; rw [hk0]; rfl) (by omega) _ (lv_sub hl [1, 2, 3, 4, 0] rfl)
  · skip
    have c_3' : z_1.toInt ≠ r_2.toInt := jb_eq_n (rfl) (rfl) c_3
    refine lv_iconst (v := 0) hx hb dX14_isText_10 (by decide) ?_
    rw [hQ]
    exact W.zret (v := 0) hx hb hr (jb_nz (Or.inl rfl)) (fun t ht hW => ⟨⟨0, (), rfl, ⟨(Or.inl rfl), by unfold jIT; rw [if_neg (by omega)]; exact hk0⟩, hh.rt (M1 := []) [] rfl ht⟩, by rw [ht]; try exact hh.1.1, fun q h9 hq => by rw [ht]; try exact hh.1.2.1 q h9 hq⟩) hh.1.2.2 dX14_isText_11
end
section
theorem dX14_isPosition_0 : decode cX14_isPosition 0 = .ok (.aload_n 0, 1) := by decide +kernel
theorem dX14_isPosition_1 : decode cX14_isPosition 1 = .ok (.iload_n 1, 1) := by decide +kernel
theorem dX14_isPosition_2 : decode cX14_isPosition 2 = .ok (.ldc_w 544, 3) := by decide +kernel
theorem dX14_isPosition_5 : decode cX14_isPosition 5 = .ok (.invokevirtual 430, 3) := by decide +kernel
theorem dX14_isPosition_8 : decode cX14_isPosition 8 = .ok (.istore_n 2, 1) := by decide +kernel
theorem dX14_isPosition_9 : decode cX14_isPosition 9 = .ok (.aload_n 0, 1) := by decide +kernel
theorem dX14_isPosition_10 : decode cX14_isPosition 10 = .ok (.iload_n 1, 1) := by decide +kernel
theorem dX14_isPosition_11 : decode cX14_isPosition 11 = .ok (.ldc_w 546, 3) := by decide +kernel
theorem dX14_isPosition_14 : decode cX14_isPosition 14 = .ok (.invokevirtual 430, 3) := by decide +kernel
theorem dX14_isPosition_17 : decode cX14_isPosition 17 = .ok (.istore_n 3, 1) := by decide +kernel
theorem dX14_isPosition_18 : decode cX14_isPosition 18 = .ok (.aload_n 0, 1) := by decide +kernel
theorem dX14_isPosition_19 : decode cX14_isPosition 19 = .ok (.iload_n 2, 1) := by decide +kernel
theorem dX14_isPosition_20 : decode cX14_isPosition 20 = .ok (.invokevirtual 371, 3) := by decide +kernel
theorem dX14_isPosition_23 : decode cX14_isPosition 23 = .ok (.ifCond .eq 33, 3) := by decide +kernel
theorem dX14_isPosition_26 : decode cX14_isPosition 26 = .ok (.aload_n 0, 1) := by decide +kernel
theorem dX14_isPosition_27 : decode cX14_isPosition 27 = .ok (.iload_n 3, 1) := by decide +kernel
theorem dX14_isPosition_28 : decode cX14_isPosition 28 = .ok (.invokevirtual 371, 3) := by decide +kernel
theorem dX14_isPosition_31 : decode cX14_isPosition 31 = .ok (.ifCond .eq 25, 3) := by decide +kernel
theorem dX14_isPosition_34 : decode cX14_isPosition 34 = .ok (.aload_n 0, 1) := by decide +kernel
theorem dX14_isPosition_35 : decode cX14_isPosition 35 = .ok (.getfield 62, 3) := by decide +kernel
theorem dX14_isPosition_38 : decode cX14_isPosition 38 = .ok (.iload_n 2, 1) := by decide +kernel
theorem dX14_isPosition_39 : decode cX14_isPosition 39 = .ok (.iaload, 1) := by decide +kernel
theorem dX14_isPosition_40 : decode cX14_isPosition 40 = .ok (.ifCond .lt 16, 3) := by decide +kernel
theorem dX14_isPosition_43 : decode cX14_isPosition 43 = .ok (.aload_n 0, 1) := by decide +kernel
theorem dX14_isPosition_44 : decode cX14_isPosition 44 = .ok (.getfield 62, 3) := by decide +kernel
theorem dX14_isPosition_47 : decode cX14_isPosition 47 = .ok (.iload_n 3, 1) := by decide +kernel
theorem dX14_isPosition_48 : decode cX14_isPosition 48 = .ok (.iaload, 1) := by decide +kernel
theorem dX14_isPosition_49 : decode cX14_isPosition 49 = .ok (.ifCond .lt 7, 3) := by decide +kernel
theorem dX14_isPosition_52 : decode cX14_isPosition 52 = .ok (.iconst 1, 1) := by decide +kernel
theorem dX14_isPosition_53 : decode cX14_isPosition 53 = .ok (.goto 4, 3) := by decide +kernel
theorem dX14_isPosition_56 : decode cX14_isPosition 56 = .ok (.iconst 0, 1) := by decide +kernel
theorem dX14_isPosition_57 : decode cX14_isPosition 57 = .ok (.ireturn, 1) := by decide +kernel
theorem dX14_lineOf_0 : decode cX14_lineOf 0 = .ok (.aload_n 0, 1) := by decide +kernel
theorem dX14_lineOf_1 : decode cX14_lineOf 1 = .ok (.getfield 62, 3) := by decide +kernel
theorem dX14_lineOf_4 : decode cX14_lineOf 4 = .ok (.aload_n 0, 1) := by decide +kernel
theorem dX14_lineOf_5 : decode cX14_lineOf 5 = .ok (.iload_n 1, 1) := by decide +kernel
theorem dX14_lineOf_6 : decode cX14_lineOf 6 = .ok (.ldc_w 544, 3) := by decide +kernel
theorem dX14_lineOf_9 : decode cX14_lineOf 9 = .ok (.invokevirtual 430, 3) := by decide +kernel
theorem dX14_lineOf_12 : decode cX14_lineOf 12 = .ok (.iaload, 1) := by decide +kernel
theorem dX14_lineOf_13 : decode cX14_lineOf 13 = .ok (.ireturn, 1) := by decide +kernel
theorem dX14_characterOf_0 : decode cX14_characterOf 0 = .ok (.aload_n 0, 1) := by decide +kernel
theorem dX14_characterOf_1 : decode cX14_characterOf 1 = .ok (.getfield 62, 3) := by decide +kernel
theorem dX14_characterOf_4 : decode cX14_characterOf 4 = .ok (.aload_n 0, 1) := by decide +kernel
theorem dX14_characterOf_5 : decode cX14_characterOf 5 = .ok (.iload_n 1, 1) := by decide +kernel
theorem dX14_characterOf_6 : decode cX14_characterOf 6 = .ok (.ldc_w 546, 3) := by decide +kernel
theorem dX14_characterOf_9 : decode cX14_characterOf 9 = .ok (.invokevirtual 430, 3) := by decide +kernel
theorem dX14_characterOf_12 : decode cX14_characterOf 12 = .ok (.iaload, 1) := by decide +kernel
theorem dX14_characterOf_13 : decode cX14_characterOf 13 = .ok (.ireturn, 1) := by decide +kernel
theorem dX14_isChange_0 : decode cX14_isChange 0 = .ok (.aload_n 0, 1) := by decide +kernel
theorem dX14_isChange_1 : decode cX14_isChange 1 = .ok (.getfield 37, 3) := by decide +kernel
theorem dX14_isChange_4 : decode cX14_isChange 4 = .ok (.iload_n 1, 1) := by decide +kernel
theorem dX14_isChange_5 : decode cX14_isChange 5 = .ok (.iaload, 1) := by decide +kernel
theorem dX14_isChange_6 : decode cX14_isChange 6 = .ok (.bipush 6, 2) := by decide +kernel
theorem dX14_isChange_8 : decode cX14_isChange 8 = .ok (.if_icmp .ne 18, 3) := by decide +kernel
theorem dX14_isChange_11 : decode cX14_isChange 11 = .ok (.aload_n 0, 1) := by decide +kernel
theorem dX14_isChange_12 : decode cX14_isChange 12 = .ok (.aload_n 0, 1) := by decide +kernel
theorem dX14_isChange_13 : decode cX14_isChange 13 = .ok (.iload_n 1, 1) := by decide +kernel
theorem dX14_isChange_14 : decode cX14_isChange 14 = .ok (.ldc_w 519, 3) := by decide +kernel
theorem dX14_isChange_17 : decode cX14_isChange 17 = .ok (.invokevirtual 430, 3) := by decide +kernel
theorem dX14_isChange_20 : decode cX14_isChange 20 = .ok (.invokevirtual 368, 3) := by decide +kernel
theorem dX14_isChange_23 : decode cX14_isChange 23 = .ok (.ifCond .ne 5, 3) := by decide +kernel
theorem dX14_isChange_26 : decode cX14_isChange 26 = .ok (.iconst 0, 1) := by decide +kernel
theorem dX14_isChange_27 : decode cX14_isChange 27 = .ok (.ireturn, 1) := by decide +kernel
theorem dX14_isChange_28 : decode cX14_isChange 28 = .ok (.aload_n 0, 1) := by decide +kernel
theorem dX14_isChange_29 : decode cX14_isChange 29 = .ok (.iload_n 1, 1) := by decide +kernel
theorem dX14_isChange_30 : decode cX14_isChange 30 = .ok (.ldc_w 548, 3) := by decide +kernel
theorem dX14_isChange_33 : decode cX14_isChange 33 = .ok (.invokevirtual 430, 3) := by decide +kernel
theorem dX14_isChange_36 : decode cX14_isChange 36 = .ok (.istore_n 2, 1) := by decide +kernel
theorem dX14_isChange_37 : decode cX14_isChange 37 = .ok (.iload_n 2, 1) := by decide +kernel
theorem dX14_isChange_38 : decode cX14_isChange 38 = .ok (.ifCond .lt 33, 3) := by decide +kernel
theorem dX14_isChange_41 : decode cX14_isChange 41 = .ok (.aload_n 0, 1) := by decide +kernel
theorem dX14_isChange_42 : decode cX14_isChange 42 = .ok (.aload_n 0, 1) := by decide +kernel
theorem dX14_isChange_43 : decode cX14_isChange 43 = .ok (.iload_n 2, 1) := by decide +kernel
theorem dX14_isChange_44 : decode cX14_isChange 44 = .ok (.ldc_w 553, 3) := by decide +kernel
theorem dX14_isChange_47 : decode cX14_isChange 47 = .ok (.invokevirtual 430, 3) := by decide +kernel
theorem dX14_isChange_50 : decode cX14_isChange 50 = .ok (.invokevirtual 566, 3) := by decide +kernel
theorem dX14_isChange_53 : decode cX14_isChange 53 = .ok (.ifCond .eq 22, 3) := by decide +kernel
theorem dX14_isChange_56 : decode cX14_isChange 56 = .ok (.aload_n 0, 1) := by decide +kernel
theorem dX14_isChange_57 : decode cX14_isChange 57 = .ok (.aload_n 0, 1) := by decide +kernel
theorem dX14_isChange_58 : decode cX14_isChange 58 = .ok (.iload_n 2, 1) := by decide +kernel
theorem dX14_isChange_59 : decode cX14_isChange 59 = .ok (.ldc_w 555, 3) := by decide +kernel
theorem dX14_isChange_62 : decode cX14_isChange 62 = .ok (.invokevirtual 430, 3) := by decide +kernel
theorem dX14_isChange_65 : decode cX14_isChange 65 = .ok (.invokevirtual 566, 3) := by decide +kernel
theorem dX14_isChange_68 : decode cX14_isChange 68 = .ok (.ifCond .eq 7, 3) := by decide +kernel
theorem dX14_isChange_71 : decode cX14_isChange 71 = .ok (.iconst 1, 1) := by decide +kernel
theorem dX14_isChange_72 : decode cX14_isChange 72 = .ok (.goto 4, 3) := by decide +kernel
theorem dX14_isChange_75 : decode cX14_isChange 75 = .ok (.iconst 0, 1) := by decide +kernel
theorem dX14_isChange_76 : decode cX14_isChange 76 = .ok (.ireturn, 1) := by decide +kernel
end
section
theorem dX14_make_0 : decode cX14_make 0 = .ok (.aload_n 0, 1) := by decide +kernel
theorem dX14_make_1 : decode cX14_make 1 = .ok (.iload_n 1, 1) := by decide +kernel
theorem dX14_make_2 : decode cX14_make 2 = .ok (.ldc_w 519, 3) := by decide +kernel
theorem dX14_make_5 : decode cX14_make 5 = .ok (.invokevirtual 430, 3) := by decide +kernel
theorem dX14_make_8 : decode cX14_make 8 = .ok (.istore_n 2, 1) := by decide +kernel
theorem dX14_make_9 : decode cX14_make 9 = .ok (.aload_n 0, 1) := by decide +kernel
theorem dX14_make_10 : decode cX14_make 10 = .ok (.iload_n 1, 1) := by decide +kernel
theorem dX14_make_11 : decode cX14_make 11 = .ok (.ldc_w 548, 3) := by decide +kernel
theorem dX14_make_14 : decode cX14_make 14 = .ok (.invokevirtual 430, 3) := by decide +kernel
theorem dX14_make_17 : decode cX14_make 17 = .ok (.istore_n 3, 1) := by decide +kernel
theorem dX14_make_18 : decode cX14_make 18 = .ok (.aload_n 0, 1) := by decide +kernel
theorem dX14_make_19 : decode cX14_make 19 = .ok (.getfield 55, 3) := by decide +kernel
theorem dX14_make_22 : decode cX14_make 22 = .ok (.iload_n 2, 1) := by decide +kernel
theorem dX14_make_23 : decode cX14_make 23 = .ok (.iaload, 1) := by decide +kernel
theorem dX14_make_24 : decode cX14_make 24 = .ok (.aload_n 0, 1) := by decide +kernel
theorem dX14_make_25 : decode cX14_make 25 = .ok (.getfield 52, 3) := by decide +kernel
theorem dX14_make_28 : decode cX14_make 28 = .ok (.iload_n 2, 1) := by decide +kernel
theorem dX14_make_29 : decode cX14_make 29 = .ok (.iaload, 1) := by decide +kernel
theorem dX14_make_30 : decode cX14_make 30 = .ok (.isub, 1) := by decide +kernel
theorem dX14_make_31 : decode cX14_make 31 = .ok (.istore 4, 2) := by decide +kernel
theorem dX14_make_33 : decode cX14_make 33 = .ok (.iconst 0, 1) := by decide +kernel
theorem dX14_make_34 : decode cX14_make 34 = .ok (.istore 5, 2) := by decide +kernel
theorem dX14_make_36 : decode cX14_make 36 = .ok (.aload_n 0, 1) := by decide +kernel
theorem dX14_make_37 : decode cX14_make 37 = .ok (.getfield 550, 3) := by decide +kernel
theorem dX14_make_40 : decode cX14_make 40 = .ok (.istore 6, 2) := by decide +kernel
theorem dX14_make_42 : decode cX14_make 42 = .ok (.iload_n 3, 1) := by decide +kernel
theorem dX14_make_43 : decode cX14_make 43 = .ok (.ifCond .lt 87, 3) := by decide +kernel
theorem dX14_make_46 : decode cX14_make 46 = .ok (.aload_n 0, 1) := by decide +kernel
theorem dX14_make_47 : decode cX14_make 47 = .ok (.iload_n 3, 1) := by decide +kernel
theorem dX14_make_48 : decode cX14_make 48 = .ok (.ldc_w 553, 3) := by decide +kernel
theorem dX14_make_51 : decode cX14_make 51 = .ok (.invokevirtual 430, 3) := by decide +kernel
theorem dX14_make_54 : decode cX14_make 54 = .ok (.istore 7, 2) := by decide +kernel
theorem dX14_make_56 : decode cX14_make 56 = .ok (.aload_n 0, 1) := by decide +kernel
theorem dX14_make_57 : decode cX14_make 57 = .ok (.iload_n 3, 1) := by decide +kernel
theorem dX14_make_58 : decode cX14_make 58 = .ok (.ldc_w 555, 3) := by decide +kernel
theorem dX14_make_61 : decode cX14_make 61 = .ok (.invokevirtual 430, 3) := by decide +kernel
theorem dX14_make_64 : decode cX14_make 64 = .ok (.istore 8, 2) := by decide +kernel
theorem dX14_make_66 : decode cX14_make 66 = .ok (.aload_n 0, 1) := by decide +kernel
theorem dX14_make_67 : decode cX14_make 67 = .ok (.getfield 78, 3) := by decide +kernel
theorem dX14_make_70 : decode cX14_make 70 = .ok (.aload_n 0, 1) := by decide +kernel
theorem dX14_make_71 : decode cX14_make 71 = .ok (.getfield 550, 3) := by decide +kernel
theorem dX14_make_74 : decode cX14_make 74 = .ok (.aload_n 0, 1) := by decide +kernel
theorem dX14_make_75 : decode cX14_make 75 = .ok (.iload 7, 2) := by decide +kernel
theorem dX14_make_77 : decode cX14_make 77 = .ok (.invokevirtual 556, 3) := by decide +kernel
theorem dX14_make_80 : decode cX14_make 80 = .ok (.aload_n 0, 1) := by decide +kernel
theorem dX14_make_81 : decode cX14_make 81 = .ok (.iload 7, 2) := by decide +kernel
theorem dX14_make_83 : decode cX14_make 83 = .ok (.invokevirtual 559, 3) := by decide +kernel
theorem dX14_make_86 : decode cX14_make 86 = .ok (.invokestatic 562, 3) := by decide +kernel
theorem dX14_make_89 : decode cX14_make 89 = .ok (.istore 5, 2) := by decide +kernel
theorem dX14_make_91 : decode cX14_make 91 = .ok (.aload_n 0, 1) := by decide +kernel
theorem dX14_make_92 : decode cX14_make 92 = .ok (.getfield 78, 3) := by decide +kernel
theorem dX14_make_95 : decode cX14_make 95 = .ok (.aload_n 0, 1) := by decide +kernel
theorem dX14_make_96 : decode cX14_make 96 = .ok (.getfield 550, 3) := by decide +kernel
theorem dX14_make_99 : decode cX14_make 99 = .ok (.aload_n 0, 1) := by decide +kernel
theorem dX14_make_100 : decode cX14_make 100 = .ok (.iload 8, 2) := by decide +kernel
theorem dX14_make_102 : decode cX14_make 102 = .ok (.invokevirtual 556, 3) := by decide +kernel
theorem dX14_make_105 : decode cX14_make 105 = .ok (.aload_n 0, 1) := by decide +kernel
theorem dX14_make_106 : decode cX14_make 106 = .ok (.iload 8, 2) := by decide +kernel
theorem dX14_make_108 : decode cX14_make 108 = .ok (.invokevirtual 559, 3) := by decide +kernel
theorem dX14_make_111 : decode cX14_make 111 = .ok (.invokestatic 562, 3) := by decide +kernel
theorem dX14_make_114 : decode cX14_make 114 = .ok (.istore 6, 2) := by decide +kernel
theorem dX14_make_116 : decode cX14_make 116 = .ok (.iload 5, 2) := by decide +kernel
theorem dX14_make_118 : decode cX14_make 118 = .ok (.ifCond .lt 10, 3) := by decide +kernel
theorem dX14_make_121 : decode cX14_make 121 = .ok (.iload 6, 2) := by decide +kernel
theorem dX14_make_123 : decode cX14_make 123 = .ok (.iload 5, 2) := by decide +kernel
theorem dX14_make_125 : decode cX14_make 125 = .ok (.if_icmp .ge 5, 3) := by decide +kernel
theorem dX14_make_128 : decode cX14_make 128 = .ok (.iconst 0, 1) := by decide +kernel
theorem dX14_make_129 : decode cX14_make 129 = .ok (.ireturn, 1) := by decide +kernel
theorem dX14_make_130 : decode cX14_make 130 = .ok (.aload_n 0, 1) := by decide +kernel
theorem dX14_make_131 : decode cX14_make 131 = .ok (.getfield 550, 3) := by decide +kernel
theorem dX14_make_134 : decode cX14_make 134 = .ok (.iload 6, 2) := by decide +kernel
theorem dX14_make_136 : decode cX14_make 136 = .ok (.iload 5, 2) := by decide +kernel
theorem dX14_make_138 : decode cX14_make 138 = .ok (.isub, 1) := by decide +kernel
theorem dX14_make_139 : decode cX14_make 139 = .ok (.isub, 1) := by decide +kernel
theorem dX14_make_140 : decode cX14_make 140 = .ok (.iload 4, 2) := by decide +kernel
theorem dX14_make_142 : decode cX14_make 142 = .ok (.iadd, 1) := by decide +kernel
theorem dX14_make_143 : decode cX14_make 143 = .ok (.istore 7, 2) := by decide +kernel
theorem dX14_make_145 : decode cX14_make 145 = .ok (.iload 7, 2) := by decide +kernel
theorem dX14_make_147 : decode cX14_make 147 = .ok (.sipush 1500, 3) := by decide +kernel
theorem dX14_make_150 : decode cX14_make 150 = .ok (.if_icmp .le 5, 3) := by decide +kernel
theorem dX14_make_153 : decode cX14_make 153 = .ok (.iconst 0, 1) := by decide +kernel
theorem dX14_make_154 : decode cX14_make 154 = .ok (.ireturn, 1) := by decide +kernel
theorem dX14_make_155 : decode cX14_make 155 = .ok (.aload_n 0, 1) := by decide +kernel
theorem dX14_make_156 : decode cX14_make 156 = .ok (.getfield 550, 3) := by decide +kernel
theorem dX14_make_159 : decode cX14_make 159 = .ok (.iload 6, 2) := by decide +kernel
theorem dX14_make_161 : decode cX14_make 161 = .ok (.isub, 1) := by decide +kernel
theorem dX14_make_162 : decode cX14_make 162 = .ok (.istore 8, 2) := by decide +kernel
theorem dX14_make_164 : decode cX14_make 164 = .ok (.iconst 0, 1) := by decide +kernel
theorem dX14_make_165 : decode cX14_make 165 = .ok (.istore 9, 2) := by decide +kernel
theorem dX14_make_167 : decode cX14_make 167 = .ok (.iload 9, 2) := by decide +kernel
theorem dX14_make_169 : decode cX14_make 169 = .ok (.iload 8, 2) := by decide +kernel
theorem dX14_make_171 : decode cX14_make 171 = .ok (.if_icmp .ge 26, 3) := by decide +kernel
theorem dX14_make_174 : decode cX14_make 174 = .ok (.aload_n 0, 1) := by decide +kernel
theorem dX14_make_175 : decode cX14_make 175 = .ok (.getfield 81, 3) := by decide +kernel
theorem dX14_make_178 : decode cX14_make 178 = .ok (.iload 9, 2) := by decide +kernel
theorem dX14_make_180 : decode cX14_make 180 = .ok (.aload_n 0, 1) := by decide +kernel
theorem dX14_make_181 : decode cX14_make 181 = .ok (.getfield 78, 3) := by decide +kernel
theorem dX14_make_184 : decode cX14_make 184 = .ok (.iload 6, 2) := by decide +kernel
theorem dX14_make_186 : decode cX14_make 186 = .ok (.iload 9, 2) := by decide +kernel
theorem dX14_make_188 : decode cX14_make 188 = .ok (.iadd, 1) := by decide +kernel
theorem dX14_make_189 : decode cX14_make 189 = .ok (.iaload, 1) := by decide +kernel
theorem dX14_make_190 : decode cX14_make 190 = .ok (.iastore, 1) := by decide +kernel
theorem dX14_make_191 : decode cX14_make 191 = .ok (.iinc 9 1, 3) := by decide +kernel
theorem dX14_make_194 : decode cX14_make 194 = .ok (.goto (-27), 3) := by decide +kernel
theorem dX14_make_197 : decode cX14_make 197 = .ok (.iconst 0, 1) := by decide +kernel
theorem dX14_make_198 : decode cX14_make 198 = .ok (.istore 9, 2) := by decide +kernel
theorem dX14_make_200 : decode cX14_make 200 = .ok (.iload 9, 2) := by decide +kernel
theorem dX14_make_202 : decode cX14_make 202 = .ok (.iload 4, 2) := by decide +kernel
theorem dX14_make_204 : decode cX14_make 204 = .ok (.if_icmp .ge 33, 3) := by decide +kernel
theorem dX14_make_207 : decode cX14_make 207 = .ok (.aload_n 0, 1) := by decide +kernel
theorem dX14_make_208 : decode cX14_make 208 = .ok (.getfield 78, 3) := by decide +kernel
theorem dX14_make_211 : decode cX14_make 211 = .ok (.iload 5, 2) := by decide +kernel
theorem dX14_make_213 : decode cX14_make 213 = .ok (.iload 9, 2) := by decide +kernel
theorem dX14_make_215 : decode cX14_make 215 = .ok (.iadd, 1) := by decide +kernel
theorem dX14_make_216 : decode cX14_make 216 = .ok (.aload_n 0, 1) := by decide +kernel
theorem dX14_make_217 : decode cX14_make 217 = .ok (.getfield 65, 3) := by decide +kernel
theorem dX14_make_220 : decode cX14_make 220 = .ok (.aload_n 0, 1) := by decide +kernel
theorem dX14_make_221 : decode cX14_make 221 = .ok (.getfield 52, 3) := by decide +kernel
theorem dX14_make_224 : decode cX14_make 224 = .ok (.iload_n 2, 1) := by decide +kernel
theorem dX14_make_225 : decode cX14_make 225 = .ok (.iaload, 1) := by decide +kernel
theorem dX14_make_226 : decode cX14_make 226 = .ok (.iload 9, 2) := by decide +kernel
theorem dX14_make_228 : decode cX14_make 228 = .ok (.iadd, 1) := by decide +kernel
theorem dX14_make_229 : decode cX14_make 229 = .ok (.iaload, 1) := by decide +kernel
theorem dX14_make_230 : decode cX14_make 230 = .ok (.iastore, 1) := by decide +kernel
theorem dX14_make_231 : decode cX14_make 231 = .ok (.iinc 9 1, 3) := by decide +kernel
theorem dX14_make_234 : decode cX14_make 234 = .ok (.goto (-34), 3) := by decide +kernel
theorem dX14_make_237 : decode cX14_make 237 = .ok (.iconst 0, 1) := by decide +kernel
theorem dX14_make_238 : decode cX14_make 238 = .ok (.istore 9, 2) := by decide +kernel
theorem dX14_make_240 : decode cX14_make 240 = .ok (.iload 9, 2) := by decide +kernel
theorem dX14_make_242 : decode cX14_make 242 = .ok (.iload 8, 2) := by decide +kernel
theorem dX14_make_244 : decode cX14_make 244 = .ok (.if_icmp .ge 29, 3) := by decide +kernel
theorem dX14_make_247 : decode cX14_make 247 = .ok (.aload_n 0, 1) := by decide +kernel
theorem dX14_make_248 : decode cX14_make 248 = .ok (.getfield 78, 3) := by decide +kernel
theorem dX14_make_251 : decode cX14_make 251 = .ok (.iload 5, 2) := by decide +kernel
theorem dX14_make_253 : decode cX14_make 253 = .ok (.iload 4, 2) := by decide +kernel
theorem dX14_make_255 : decode cX14_make 255 = .ok (.iadd, 1) := by decide +kernel
theorem dX14_make_256 : decode cX14_make 256 = .ok (.iload 9, 2) := by decide +kernel
theorem dX14_make_258 : decode cX14_make 258 = .ok (.iadd, 1) := by decide +kernel
theorem dX14_make_259 : decode cX14_make 259 = .ok (.aload_n 0, 1) := by decide +kernel
theorem dX14_make_260 : decode cX14_make 260 = .ok (.getfield 81, 3) := by decide +kernel
theorem dX14_make_263 : decode cX14_make 263 = .ok (.iload 9, 2) := by decide +kernel
theorem dX14_make_265 : decode cX14_make 265 = .ok (.iaload, 1) := by decide +kernel
theorem dX14_make_266 : decode cX14_make 266 = .ok (.iastore, 1) := by decide +kernel
theorem dX14_make_267 : decode cX14_make 267 = .ok (.iinc 9 1, 3) := by decide +kernel
theorem dX14_make_270 : decode cX14_make 270 = .ok (.goto (-30), 3) := by decide +kernel
theorem dX14_make_273 : decode cX14_make 273 = .ok (.aload_n 0, 1) := by decide +kernel
theorem dX14_make_274 : decode cX14_make 274 = .ok (.iload 7, 2) := by decide +kernel
theorem dX14_make_276 : decode cX14_make 276 = .ok (.putfield 550, 3) := by decide +kernel
theorem dX14_make_279 : decode cX14_make 279 = .ok (.iconst 1, 1) := by decide +kernel
theorem dX14_make_280 : decode cX14_make 280 = .ok (.ireturn, 1) := by decide +kernel
end
section
theorem dX14_askGoals_0 : decode cX14_askGoals 0 = .ok (.aload_n 0, 1) := by decide +kernel
theorem dX14_askGoals_1 : decode cX14_askGoals 1 = .ok (.aload_n 0, 1) := by decide +kernel
theorem dX14_askGoals_2 : decode cX14_askGoals 2 = .ok (.aload_n 0, 1) := by decide +kernel
theorem dX14_askGoals_3 : decode cX14_askGoals 3 = .ok (.iload_n 1, 1) := by decide +kernel
theorem dX14_askGoals_4 : decode cX14_askGoals 4 = .ok (.ldc_w 514, 3) := by decide +kernel
theorem dX14_askGoals_7 : decode cX14_askGoals 7 = .ok (.invokevirtual 430, 3) := by decide +kernel
theorem dX14_askGoals_10 : decode cX14_askGoals 10 = .ok (.ldc_w 516, 3) := by decide +kernel
theorem dX14_askGoals_13 : decode cX14_askGoals 13 = .ok (.invokevirtual 430, 3) := by decide +kernel
theorem dX14_askGoals_16 : decode cX14_askGoals 16 = .ok (.invokevirtual 520, 3) := by decide +kernel
theorem dX14_askGoals_19 : decode cX14_askGoals 19 = .ok (.astore_n 2, 1) := by decide +kernel
theorem dX14_askGoals_20 : decode cX14_askGoals 20 = .ok (.aload_n 0, 1) := by decide +kernel
theorem dX14_askGoals_21 : decode cX14_askGoals 21 = .ok (.iload_n 1, 1) := by decide +kernel
theorem dX14_askGoals_22 : decode cX14_askGoals 22 = .ok (.ldc_w 695, 3) := by decide +kernel
theorem dX14_askGoals_25 : decode cX14_askGoals 25 = .ok (.invokevirtual 430, 3) := by decide +kernel
theorem dX14_askGoals_28 : decode cX14_askGoals 28 = .ok (.istore_n 3, 1) := by decide +kernel
theorem dX14_askGoals_29 : decode cX14_askGoals 29 = .ok (.aload_n 2, 1) := by decide +kernel
theorem dX14_askGoals_30 : decode cX14_askGoals 30 = .ok (.ifnull 35, 3) := by decide +kernel
theorem dX14_askGoals_33 : decode cX14_askGoals 33 = .ok (.aload_n 0, 1) := by decide +kernel
theorem dX14_askGoals_34 : decode cX14_askGoals 34 = .ok (.iload_n 3, 1) := by decide +kernel
theorem dX14_askGoals_35 : decode cX14_askGoals 35 = .ok (.invokevirtual 566, 3) := by decide +kernel
theorem dX14_askGoals_38 : decode cX14_askGoals 38 = .ok (.ifCond .eq 27, 3) := by decide +kernel
theorem dX14_askGoals_41 : decode cX14_askGoals 41 = .ok (.aload_n 2, 1) := by decide +kernel
theorem dX14_askGoals_42 : decode cX14_askGoals 42 = .ok (.getfield 529, 3) := by decide +kernel
theorem dX14_askGoals_45 : decode cX14_askGoals 45 = .ok (.aload_n 2, 1) := by decide +kernel
theorem dX14_askGoals_46 : decode cX14_askGoals 46 = .ok (.getfield 526, 3) := by decide +kernel
theorem dX14_askGoals_49 : decode cX14_askGoals 49 = .ok (.aload_n 0, 1) := by decide +kernel
theorem dX14_askGoals_50 : decode cX14_askGoals 50 = .ok (.iload_n 3, 1) := by decide +kernel
theorem dX14_askGoals_51 : decode cX14_askGoals 51 = .ok (.invokevirtual 556, 3) := by decide +kernel
theorem dX14_askGoals_54 : decode cX14_askGoals 54 = .ok (.aload_n 0, 1) := by decide +kernel
theorem dX14_askGoals_55 : decode cX14_askGoals 55 = .ok (.iload_n 3, 1) := by decide +kernel
theorem dX14_askGoals_56 : decode cX14_askGoals 56 = .ok (.invokevirtual 559, 3) := by decide +kernel
theorem dX14_askGoals_59 : decode cX14_askGoals 59 = .ok (.invokestatic 562, 3) := by decide +kernel
theorem dX14_askGoals_62 : decode cX14_askGoals 62 = .ok (.goto 4, 3) := by decide +kernel
theorem dX14_askGoals_65 : decode cX14_askGoals 65 = .ok (.iconst (-1), 1) := by decide +kernel
theorem dX14_askGoals_66 : decode cX14_askGoals 66 = .ok (.istore 4, 2) := by decide +kernel
theorem dX14_askGoals_68 : decode cX14_askGoals 68 = .ok (.iload 4, 2) := by decide +kernel
theorem dX14_askGoals_70 : decode cX14_askGoals 70 = .ok (.ifCond .ge 11, 3) := by decide +kernel
theorem dX14_askGoals_73 : decode cX14_askGoals 73 = .ok (.aload_n 0, 1) := by decide +kernel
theorem dX14_askGoals_74 : decode cX14_askGoals 74 = .ok (.sipush (-32602), 3) := by decide +kernel
theorem dX14_askGoals_77 : decode cX14_askGoals 77 = .ok (.invokevirtual 425, 3) := by decide +kernel
theorem dX14_askGoals_80 : decode cX14_askGoals 80 = .ok (.return_, 1) := by decide +kernel
theorem dX14_askGoals_81 : decode cX14_askGoals 81 = .ok (.iconst 0, 1) := by decide +kernel
theorem dX14_askGoals_82 : decode cX14_askGoals 82 = .ok (.istore 5, 2) := by decide +kernel
theorem dX14_askGoals_84 : decode cX14_askGoals 84 = .ok (.iload 5, 2) := by decide +kernel
theorem dX14_askGoals_86 : decode cX14_askGoals 86 = .ok (.aload_n 2, 1) := by decide +kernel
theorem dX14_askGoals_87 : decode cX14_askGoals 87 = .ok (.getfield 587, 3) := by decide +kernel
theorem dX14_askGoals_90 : decode cX14_askGoals 90 = .ok (.if_icmp .ge 21, 3) := by decide +kernel
theorem dX14_askGoals_93 : decode cX14_askGoals 93 = .ok (.aload_n 2, 1) := by decide +kernel
theorem dX14_askGoals_94 : decode cX14_askGoals 94 = .ok (.getfield 594, 3) := by decide +kernel
theorem dX14_askGoals_97 : decode cX14_askGoals 97 = .ok (.iload 5, 2) := by decide +kernel
theorem dX14_askGoals_99 : decode cX14_askGoals 99 = .ok (.iaload, 1) := by decide +kernel
theorem dX14_askGoals_100 : decode cX14_askGoals 100 = .ok (.iload 4, 2) := by decide +kernel
theorem dX14_askGoals_102 : decode cX14_askGoals 102 = .ok (.if_icmp .gt 9, 3) := by decide +kernel
theorem dX14_askGoals_105 : decode cX14_askGoals 105 = .ok (.iinc 5 1, 3) := by decide +kernel
theorem dX14_askGoals_108 : decode cX14_askGoals 108 = .ok (.goto (-24), 3) := by decide +kernel
theorem dX14_askGoals_111 : decode cX14_askGoals 111 = .ok (.aload_n 2, 1) := by decide +kernel
theorem dX14_askGoals_112 : decode cX14_askGoals 112 = .ok (.getfield 531, 3) := by decide +kernel
theorem dX14_askGoals_115 : decode cX14_askGoals 115 = .ok (.iload 5, 2) := by decide +kernel
theorem dX14_askGoals_117 : decode cX14_askGoals 117 = .ok (.if_icmp .lt 25, 3) := by decide +kernel
theorem dX14_askGoals_120 : decode cX14_askGoals 120 = .ok (.aload_n 0, 1) := by decide +kernel
theorem dX14_askGoals_121 : decode cX14_askGoals 121 = .ok (.invokevirtual 466, 3) := by decide +kernel
theorem dX14_askGoals_124 : decode cX14_askGoals 124 = .ok (.aload_n 0, 1) := by decide +kernel
theorem dX14_askGoals_125 : decode cX14_askGoals 125 = .ok (.aload_n 2, 1) := by decide +kernel
theorem dX14_askGoals_126 : decode cX14_askGoals 126 = .ok (.iload 5, 2) := by decide +kernel
theorem dX14_askGoals_128 : decode cX14_askGoals 128 = .ok (.invokevirtual 697, 3) := by decide +kernel
theorem dX14_askGoals_131 : decode cX14_askGoals 131 = .ok (.aload_n 0, 1) := by decide +kernel
theorem dX14_askGoals_132 : decode cX14_askGoals 132 = .ok (.invokevirtual 700, 3) := by decide +kernel
theorem dX14_askGoals_135 : decode cX14_askGoals 135 = .ok (.aload_n 0, 1) := by decide +kernel
theorem dX14_askGoals_136 : decode cX14_askGoals 136 = .ok (.invokevirtual 422, 3) := by decide +kernel
theorem dX14_askGoals_139 : decode cX14_askGoals 139 = .ok (.goto 12, 3) := by decide +kernel
theorem dX14_askGoals_142 : decode cX14_askGoals 142 = .ok (.aload_n 0, 1) := by decide +kernel
theorem dX14_askGoals_143 : decode cX14_askGoals 143 = .ok (.aload_n 2, 1) := by decide +kernel
theorem dX14_askGoals_144 : decode cX14_askGoals 144 = .ok (.iconst 1, 1) := by decide +kernel
theorem dX14_askGoals_145 : decode cX14_askGoals 145 = .ok (.iload 5, 2) := by decide +kernel
theorem dX14_askGoals_147 : decode cX14_askGoals 147 = .ok (.invokevirtual 703, 3) := by decide +kernel
theorem dX14_askGoals_150 : decode cX14_askGoals 150 = .ok (.pop, 1) := by decide +kernel
theorem dX14_askGoals_151 : decode cX14_askGoals 151 = .ok (.return_, 1) := by decide +kernel
theorem dX14_cancel_0 : decode cX14_cancel 0 = .ok (.aload_n 0, 1) := by decide +kernel
theorem dX14_cancel_1 : decode cX14_cancel 1 = .ok (.iload_n 1, 1) := by decide +kernel
theorem dX14_cancel_2 : decode cX14_cancel 2 = .ok (.ldc_w 428, 3) := by decide +kernel
theorem dX14_cancel_5 : decode cX14_cancel 5 = .ok (.invokevirtual 430, 3) := by decide +kernel
theorem dX14_cancel_8 : decode cX14_cancel 8 = .ok (.istore_n 2, 1) := by decide +kernel
theorem dX14_cancel_9 : decode cX14_cancel 9 = .ok (.iload_n 2, 1) := by decide +kernel
theorem dX14_cancel_10 : decode cX14_cancel 10 = .ok (.ifCond .lt 11, 3) := by decide +kernel
theorem dX14_cancel_13 : decode cX14_cancel 13 = .ok (.aload_n 0, 1) := by decide +kernel
theorem dX14_cancel_14 : decode cX14_cancel 14 = .ok (.iload_n 2, 1) := by decide +kernel
theorem dX14_cancel_15 : decode cX14_cancel 15 = .ok (.invokevirtual 445, 3) := by decide +kernel
theorem dX14_cancel_18 : decode cX14_cancel 18 = .ok (.ifCond .ne 4, 3) := by decide +kernel
theorem dX14_cancel_21 : decode cX14_cancel 21 = .ok (.return_, 1) := by decide +kernel
theorem dX14_cancel_22 : decode cX14_cancel 22 = .ok (.iconst 0, 1) := by decide +kernel
theorem dX14_cancel_23 : decode cX14_cancel 23 = .ok (.istore_n 3, 1) := by decide +kernel
theorem dX14_cancel_24 : decode cX14_cancel 24 = .ok (.iload_n 3, 1) := by decide +kernel
theorem dX14_cancel_25 : decode cX14_cancel 25 = .ok (.aload_n 0, 1) := by decide +kernel
theorem dX14_cancel_26 : decode cX14_cancel 26 = .ok (.getfield 711, 3) := by decide +kernel
theorem dX14_cancel_29 : decode cX14_cancel 29 = .ok (.if_icmp .ge 34, 3) := by decide +kernel
theorem dX14_cancel_32 : decode cX14_cancel 32 = .ok (.aload_n 0, 1) := by decide +kernel
theorem dX14_cancel_33 : decode cX14_cancel 33 = .ok (.iload_n 3, 1) := by decide +kernel
theorem dX14_cancel_34 : decode cX14_cancel 34 = .ok (.iload_n 2, 1) := by decide +kernel
theorem dX14_cancel_35 : decode cX14_cancel 35 = .ok (.invokevirtual 714, 3) := by decide +kernel
theorem dX14_cancel_38 : decode cX14_cancel 38 = .ok (.ifCond .ne 6, 3) := by decide +kernel
theorem dX14_cancel_41 : decode cX14_cancel 41 = .ok (.goto 16, 3) := by decide +kernel
theorem dX14_cancel_44 : decode cX14_cancel 44 = .ok (.aload_n 0, 1) := by decide +kernel
theorem dX14_cancel_45 : decode cX14_cancel 45 = .ok (.iload_n 3, 1) := by decide +kernel
theorem dX14_cancel_46 : decode cX14_cancel 46 = .ok (.invokevirtual 718, 3) := by decide +kernel
theorem dX14_cancel_49 : decode cX14_cancel 49 = .ok (.aload_n 0, 1) := by decide +kernel
theorem dX14_cancel_50 : decode cX14_cancel 50 = .ok (.ldc_w 414, 3) := by decide +kernel
theorem dX14_cancel_53 : decode cX14_cancel 53 = .ok (.invokevirtual 425, 3) := by decide +kernel
theorem dX14_cancel_56 : decode cX14_cancel 56 = .ok (.return_, 1) := by decide +kernel
theorem dX14_cancel_57 : decode cX14_cancel 57 = .ok (.iinc 3 1, 3) := by decide +kernel
theorem dX14_cancel_60 : decode cX14_cancel 60 = .ok (.goto (-36), 3) := by decide +kernel
theorem dX14_cancel_63 : decode cX14_cancel 63 = .ok (.return_, 1) := by decide +kernel
end
section
-- the workers of a document that has changed; a document that is opened; closed
theorem jPu.set {sn ck ck' fs : Nat → Int32} {fd fo : Nat → Option Nat} {dc st : Int} {ol nw td x : Nat} {v : Int32} (h : jPu sn ck fd fo fs dc ol nw td) (hst : st ≤ v.toInt) (hck : (ck' x).toInt ≤ st) (ho : ∀ a, a ≠ x → ck' a = ck a) : jPv (jUn sn x v) ck' fd fo fs dc ol nw td x st 0 := by
  obtain ⟨g0, g1, g2, g3⟩ := h
  refine ⟨g0, g1, fun i a hi ha => ?_, ⟨by rw [jUn_e]; exact hst, hck⟩, fun w hw => ?_⟩
  · by_cases e : a = x
    · subst e; rw [jUn_e]; omega
    · rw [jUn_n _ _ e, ho a e]; exact g2 i a hi ha
  · rcases g3 w hw with k | ⟨d, a, k1, k2, k3, k4, k5⟩
    · exact Or.inl k
    · refine Or.inr ⟨d, a, k1, k2, k3, k4, ?_⟩
      by_cases e : a = x
      · exact Or.inr ⟨e, by omega⟩
      · rw [jUn_n _ _ e]; exact Or.inl k5
theorem jPv.keep {sn ck fs : Nat → Int32} {fd fo : Nat → Option Nat} {dc st k k1 : Int} {ol nw td x w : Nat} (h : jPv sn ck fd fo fs dc ol nw td x st k) (hc : fo w ≠ some x ∨ (fs w).toInt < st) (hw : (w : Int) = k) (hk : k1 = k + 1) : jPv sn ck fd fo fs dc ol nw td x st k1 := by
  obtain ⟨g0, g1, g2, g4, g3⟩ := h
  refine ⟨g0, g1, g2, g4, fun j hj => ?_⟩
  rcases g3 j hj with q | ⟨d, a, k1, k2, k3, k4, k5⟩
  · exact Or.inl q
  · refine Or.inr ⟨d, a, k1, k2, k3, k4, ?_⟩
    rcases k5 with k5 | ⟨k5, k6⟩
    · exact Or.inl k5
    · by_cases e : j = w
      · subst e
        rcases hc with hc | hc
        · exact absurd (by rw [k4, k5]) hc
        · subst k5; exact Or.inl (by have := g4.1; omega)
      · exact Or.inr ⟨k5, by omega⟩
theorem jPv.done {sn ck fs : Nat → Int32} {fd fo : Nat → Option Nat} {dc st k : Int} {ol nw td x : Nat} (h : jPv sn ck fd fo fs dc ol nw td x st k) (hk : 2 ≤ k) : jPu sn ck fd fo fs dc ol nw td := by
  obtain ⟨g0, g1, g2, g4, g3⟩ := h
  refine ⟨g0, g1, g2, fun j hj => ?_⟩
  rcases g3 j hj with q | ⟨d, a, k1, k2, k3, k4, k5⟩
  · exact Or.inl q
  · exact Or.inr ⟨d, a, k1, k2, k3, k4, k5.elim id (fun q => by have := q.2; omega)⟩
section J16
variable {p : Program} {l : Launch} {e : Env} {R : Room} {s : State} {m : MethodId} {args : Array Value} {below : List Frame} {meth : Method} {c : Code} {H : Heap} {locs : List Loc} {cells slots : Nat} {Q : State → Prop}
variable {cc : ByteArray} {pc : Nat} {ls : Array Slot} {rest : List Value} {dC : Nat → ClassId} {dI : Nat → Nat → Nat} {ca : Nat → ClassId} {B : jF} {base : Nat} {G0 G : jT} {E : List (Nat × Nat)} {H0 : Heap} {zc zs : Nat} {L : List jPin} {M : List jCt} {I : List jIv} {a k n : Nat} {cA : ClassId} {tys : List (ClassId × FieldType)}
end J16
end
section
-- how a text is parted rests on its units alone
theorem jEqU.snoc {f f1 g : Nat → Int32} {m m1 k : Int} (h : jEqU f g m) (h0 : 0 ≤ m) (hm : m < k) (hv : jSo f1 m = jSo g m) (ho : ∀ j : Nat, (j : Int) < k → j ≠ m.toNat → f1 j = f j) (e : m1 = m + 1) : jEqU f1 g m1 := fun i q0 q1 => by
  by_cases q : i = m
  · rw [q]; exact hv
  · have := h i q0 (by omega)
    rw [← this]
    unfold jSo
    rw [ho i.toNat (by omega) (by omega)]
end
section
-- a document is closed: it goes behind the open ones
theorem jNo.keep {fo : Nat → Option Nat} {x w : Nat} {k k1 : Int} (h : jNo fo x k) (hv : fo w ≠ some x) (hw : (w : Int) = k) (hk : k1 = k + 1) : jNo fo x k1 := fun j hj => by
  by_cases e : j = w
  · subst e; exact hv
  · exact h j (by omega)
end
