section
theorem dX4_unitsOf_0 : decode cX4_unitsOf 0 = .ok (.aload_n 0, 1) := by decide +kernel
theorem dX4_unitsOf_1 : decode cX4_unitsOf 1 = .ok (.iload_n 1, 1) := by decide +kernel
theorem dX4_unitsOf_2 : decode cX4_unitsOf 2 = .ok (.invokevirtual 63, 3) := by decide +kernel
theorem dX4_unitsOf_5 : decode cX4_unitsOf 5 = .ok (.iconst 3, 1) := by decide +kernel
theorem dX4_unitsOf_6 : decode cX4_unitsOf 6 = .ok (.if_icmp .ne 16, 3) := by decide +kernel
theorem dX4_unitsOf_9 : decode cX4_unitsOf 9 = .ok (.aload_n 0, 1) := by decide +kernel
theorem dX4_unitsOf_10 : decode cX4_unitsOf 10 = .ok (.getfield 18, 3) := by decide +kernel
theorem dX4_unitsOf_13 : decode cX4_unitsOf 13 = .ok (.iload_n 1, 1) := by decide +kernel
theorem dX4_unitsOf_14 : decode cX4_unitsOf 14 = .ok (.iaload, 1) := by decide +kernel
theorem dX4_unitsOf_15 : decode cX4_unitsOf 15 = .ok (.iconst 0, 1) := by decide +kernel
theorem dX4_unitsOf_16 : decode cX4_unitsOf 16 = .ok (.invokestatic 86, 3) := by decide +kernel
theorem dX4_unitsOf_19 : decode cX4_unitsOf 19 = .ok (.goto 4, 3) := by decide +kernel
theorem dX4_unitsOf_22 : decode cX4_unitsOf 22 = .ok (.iconst 0, 1) := by decide +kernel
theorem dX4_unitsOf_23 : decode cX4_unitsOf 23 = .ok (.newarray .int, 2) := by decide +kernel
theorem dX4_unitsOf_25 : decode cX4_unitsOf 25 = .ok (.astore_n 2, 1) := by decide +kernel
theorem dX4_unitsOf_26 : decode cX4_unitsOf 26 = .ok (.iconst 0, 1) := by decide +kernel
theorem dX4_unitsOf_27 : decode cX4_unitsOf 27 = .ok (.istore_n 3, 1) := by decide +kernel
theorem dX4_unitsOf_28 : decode cX4_unitsOf 28 = .ok (.iload_n 3, 1) := by decide +kernel
theorem dX4_unitsOf_29 : decode cX4_unitsOf 29 = .ok (.aload_n 2, 1) := by decide +kernel
theorem dX4_unitsOf_30 : decode cX4_unitsOf 30 = .ok (.arraylength, 1) := by decide +kernel
theorem dX4_unitsOf_31 : decode cX4_unitsOf 31 = .ok (.if_icmp .ge 18, 3) := by decide +kernel
theorem dX4_unitsOf_34 : decode cX4_unitsOf 34 = .ok (.aload_n 2, 1) := by decide +kernel
theorem dX4_unitsOf_35 : decode cX4_unitsOf 35 = .ok (.iload_n 3, 1) := by decide +kernel
theorem dX4_unitsOf_36 : decode cX4_unitsOf 36 = .ok (.aload_n 0, 1) := by decide +kernel
theorem dX4_unitsOf_37 : decode cX4_unitsOf 37 = .ok (.iload_n 1, 1) := by decide +kernel
theorem dX4_unitsOf_38 : decode cX4_unitsOf 38 = .ok (.iload_n 3, 1) := by decide +kernel
theorem dX4_unitsOf_39 : decode cX4_unitsOf 39 = .ok (.invokevirtual 80, 3) := by decide +kernel
theorem dX4_unitsOf_42 : decode cX4_unitsOf 42 = .ok (.iastore, 1) := by decide +kernel
theorem dX4_unitsOf_43 : decode cX4_unitsOf 43 = .ok (.iinc 3 1, 3) := by decide +kernel
theorem dX4_unitsOf_46 : decode cX4_unitsOf 46 = .ok (.goto (-18), 3) := by decide +kernel
theorem dX4_unitsOf_49 : decode cX4_unitsOf 49 = .ok (.aload_n 2, 1) := by decide +kernel
theorem dX4_unitsOf_50 : decode cX4_unitsOf 50 = .ok (.areturn, 1) := by decide +kernel
end
section
-- all cells but these stay
section J31
variable {p : Program} {l : Launch} {e : Env} {R : Room} {s : State} {m : MethodId} {args : Array Value} {below : List Frame} {meth : Method} {c : Code} {H : Heap} {locs : List Loc} {cells slots : Nat} {Q : State → Prop}
variable {cc : ByteArray} {pc : Nat} {ls : Array Slot} {rest : List Value} {dC : Nat → ClassId} {dI : Nat → Nat → Nat} {ca : Nat → ClassId} {B : jF} {base : Nat} {G0 G : jT} {E : List (Nat × Nat)} {H0 : Heap} {zc zs : Nat} {L : List jPin} {M : List jCt} {I : List jIv} {a k n : Nat} {tys : List (ClassId × FieldType)} {cA : ClassId}
theorem j7_lastF (hexec : p.tables.exec = Jvm.exec) (hb : c.code = cc) (hK : va_K (dC, dI) vwCl tys s) (hh : jSt (dC, dI) B base G0 G E H0 zc zs L M I H locs) (hB : jBok B) (hBk : ∀ n G a H, B k n G a H ↔ jAl (dC, dI) cA n a H) (t0 : Nat) (ht : tys[t0]? = some (cA, .long)) (hk : k < 1000) (hk2 : 17 ≤ k) (hE : E.contains (k, 0) = true) (hM : M.all (fun q => !(q.2.1 == k)) = true) (hI : I.all (fun q => !(q.1.contains (k, 0))) = true) (ha : G a = some (k, n)) {i : Int32} {v : Int64} {x : Int} (hi : i.toInt = x) (h12 : 0 ≤ x ∧ x < n) (hdg : decode cc pc = .ok (.lastore, 1))
    (kk : ∀ (H1 : Heap) (locs1 : List Loc), (∀ q, q ≠ a → H1[q]? = H[q]?) → jSt (dC, dI) B base G0 G E H0 zc zs L M I H1 locs1 → W p l e R s m args below meth c H1 locs1 cells slots Q (F0 m (pc + 1) ls rest)) : W p l e R s m args below meth c H locs cells slots Q (F0 m pc ls (.long v :: .int i :: .ref a :: rest)) := by
  obtain ⟨h1, h2⟩ := h12
  obtain ⟨f, g1⟩ := hh.al hBk hk ha
  exact j_last (A := jA base) hexec hb hK t0 g1 (hh.ab ha).1 hh.1.2.2 ht (jb_in hi h1 h2) hdg (fun H1 locs1 hat hsz hfr hT hL => kk H1 locs1 hfr (hh.arr hB ha hk hk2 hE hM hI hsz hfr hT hL ((hBk _ _ _ _).mpr ⟨_, hat⟩)))
end J31
end
section
def EX6_findB : List (Nat × Nat) := [(8, 3), (102, 0), (132, 0), (133, 0)]
def EX6_numberOfB : List (Nat × Nat) := [(8, 3), (102, 0), (132, 0), (133, 0)]
set_option maxHeartbeats 4000000 in
set_option maxRecDepth 20000 in
theorem uX6_findB (l : Launch) (dC : Nat → ClassId) (dI : Nat → Nat → Nat) (ca : Nat → ClassId) (base : Nat) (B : jF) (hB : jBok B) (hAp : jAp (dC, dI)) (hB8 : ∀ n G a H, B 8 n G a H ↔ jOb (dC, dI) 8 4 (F8 n G) a H) (hB102 : ∀ n G a H, B 102 n G a H ↔ jAl (dC, dI) (ca 2) n a H) (hB132 : ∀ n G a H, B 132 n G a H ↔ jAr (dC, dI) (ca 1) (fun j z => 0 ≤ z.toInt ∧ z.toInt ≤ 10) n a H) (hB133 : ∀ n G a H, B 133 n G a H ↔ jAr (dC, dI) (ca 1) (fun j z => 0 ≤ z.toInt ∧ z.toInt ≤ 8192) n a H) (G0 : jT) (H0 : Heap) (r0 : Nat) (a1 : Int64) (a3 : Int32) (a4 : Int32) (xs : Nat) (xp : Nat) (xl : Nat) : Met l yX6_find (jw yX6_find cX6_find 9 (some .int)) ({ frames := 0, cells := 0, slots := 0, locals := 0 }) (va_Pc [.ref r0, .long a1, .int a3, .int a4] (fun U => U.heap = H0 ∧ jX B base G0 [] H0 ∧ jG dC dI ca base U ∧ G0 r0 = some (8, 0) ∧ G0 xs = some (102, 8192) ∧ G0 xp = some (132, 8192) ∧ G0 xl = some (133, 16384) ∧ jP (dC, dI) G0 H0 [(r0, 8, 0, .ref xs), (r0, 8, 1, .ref xp), (r0, 8, 2, .ref xl)] ∧ 0 ≤ a3.toInt ∧ a3.toInt ≤ 10)) (va_Qi (S := Unit) (fun r u => (-1 ≤ r.toInt ∧ r.toInt ≤ 8191)) (fun u t => (jRt (dC, dI) B base G0 EX6_findB H0 [] t.heap) ∧ jKl [r0, xs, xp, xl] H0 t.heap) (jA base)) 0 0 (jA base) := by
  refine Met.ofW (cc := cX6_find) (maxL := 9) (ret := (some .int)) (by decide) rfl ?_
  intro p e s m args below meth c s₁ Bd hml hv
  obtain ⟨rfl, hH0, hX, hG, hg_r0, hg_xs, hg_xp, hg_xl, hP0, hp0, hp1⟩ := hv
  have hK := hG.1
  have hx := Bd.exec
  have hb := Bd.bytes
  have hr := Bd.returns
  have hts := atoms_spec (ws := (jw yX6_find cX6_find 9 (some .int))) Bd.pre
  have htw : ∀ w ∈ jWl, w.before _ s = true := fun w h => hts w (List.mem_cons_of_mem _ h)
  have hown : s.vm.findClass RX6 = some m.cls := findClass_of_methodNamed Bd.named
  have hlocks := Bd.notSynchronized
  obtain ⟨Q, hQ⟩ : ∃ Q, Q = MQ below (va_Qi (S := Unit) (fun r u => (-1 ≤ r.toInt ∧ r.toInt ≤ 8191)) (fun u t => (jRt (dC, dI) B base G0 EX6_findB H0 [] t.heap) ∧ jKl [r0, xs, xp, xl] H0 t.heap) (jA base)) ([.ref r0, .long a1, .int a3, .int a4] : List Value).toArray s 0 0 (jA base) := ⟨_, rfl⟩
  rw [← hQ]
  have hl := lv_entry ([.ref r0, .long a1, .int a3, .int a4]) (n := 9) (Nat.le_of_ble_eq_true rfl)
  rw [lg_entry_eq]
  generalize (lg_sl ([.ref r0, .long a1, .int a3, .int a4]) ++ List.replicate (9 - (lg_sl ([.ref r0, .long a1, .int a3, .int a4])).length) Slot.unset).toArray = ls at hl ⊢
  have hl : lv_has ls 9 [(0, .ref r0), (1, .long a1), (3, .int a3), (4, .int a4)] := hl
  generalize hR : (headSpec (jw yX6_find cX6_find 9 (some .int)) ({ frames := 0, cells := 0, slots := 0, locals := 0 })).room = R
  subst hH0
  have hh : jSt (dC, dI) B base G0 G0 EX6_findB s.heap 0 0 [(r0, 8, 0, .ref xs), (r0, 8, 1, .ref xp), (r0, 8, 2, .ref xl)] [] [] s.heap [] := jSt.start hX hP0 jMc.nil jIs.nil
  clear hX hP0
  have hkm1 : ((-1) : Int32).toInt = (-1) := by decide
  have hk0 : (0 : Int32).toInt = 0 := by decide
  have hk1 : (1 : Int32).toInt = 1 := by decide
  have hk31 : (31 : Int32).toInt = 31 := by decide
  have hk40 : (40 : Int32).toInt = 40 := by decide
  have hk8192 : (8192 : Int32).toInt = 8192 := by decide
  have hk16383 : (16383 : Int32).toInt = 16383 := by decide
  have hk16384 : (16384 : Int32).toInt = 16384 := by decide
  have hly_8_0 := htw (u_lay RX6 TX6 0) (jWc_wsX60 _ (u_in_lay (by decide)))
  have hly_8_1 := htw (u_lay RX6 TX6 1) (jWc_wsX60 _ (u_in_lay (by decide)))
  have hly_8_2 := htw (u_lay RX6 TX6 2) (jWc_wsX60 _ (u_in_lay (by decide)))
  have hly_8_3 := htw (u_lay RX6 TX6 3) (jWc_wsX60 _ (u_in_lay (by decide)))
  have hlk_19 := (htw (.fieldLink RX6 19 "ProofServer$Names" "slots" "[I") (jWr_5 _ (List.mem_of_getElem? (i := 11) rfl)))
  have hlk_52 := (htw (.fieldLink RX6 52 "ProofServer$Names" "count" "I") (jWr_8 _ (List.mem_of_getElem? (i := 3) rfl)))
  have hlk_11 := (htw (.fieldLink RX6 11 "ProofServer$Names" "stems" "[J") (jWr_5 _ (List.mem_of_getElem? (i := 9) rfl)))
  have hlk_15 := (htw (.fieldLink RX6 15 "ProofServer$Names" "primes" "[I") (jWr_5 _ (List.mem_of_getElem? (i := 10) rfl)))
  have hrg_a3 := jb_rng a3
  have hrg_a4 := jb_rng a4
  have hfl : jKl [r0, xs, xp, xl] s.heap s.heap := jKl.rf
  refine lv_lload_n hx hb dX6_find_0 rfl (lv_at hl 1 rfl) ?_
  refine lv_ldc2 hx hb hown (htw (.constantLong RX6 50 (-7046029254386353131)) (jWr_8 _ (List.mem_of_getElem? (i := 2) rfl))) dX6_find_1 ?_
  refine lv_lmul hx hb dX6_find_4 ?_
  refine lv_topl (fun z_1 ez_1 => ?_)
  refine lv_bipush (v := 40) hx hb dX6_find_5 (by decide) ?_
  refine lv_lushr hx hb dX6_find_7 rfl ?_
  refine lv_topl (fun z_2 ez_2 => ?_)
  refine lv_l2i hx hb dX6_find_8 rfl ?_
  refine lv_topi (fun z_3 ez_3 => ?_)
  refine lv_bipush (v := 31) hx hb dX6_find_9 (by decide) ?_
  refine lv_iload_n hx hb dX6_find_11 rfl (lv_at hl 2 rfl) ?_
  refine lv_imul hx hb dX6_find_12 ?_
  refine lv_topi (fun z_4 ez_4 => ?_)
  refine lv_iadd hx hb dX6_find_13 ?_
  refine lv_topi (fun z_5 ez_5 => ?_)
  refine lv_istore (lv' := [(5, .int z_5), (0, .ref r0), (1, .long a1), (3, .int a3), (4, .int a4)]) hx hb dX6_find_14 hl (by decide) rfl (fun ls hl => ?_)
  refine lv_iconst (v := 0) hx hb dX6_find_16 (by decide) ?_
  refine lv_istore (lv' := [(6, .int 0), (5, .int z_5), (0, .ref r0), (1, .long a1), (3, .int a3), (4, .int a4)]) hx hb dX6_find_17 hl (by decide) rfl (fun ls hl => ?_)
  have L19 : ∀ (N : Nat) (v6_6 : Int32) (H_6 : Heap) (locs_6 : List Loc), jSt (dC, dI) B base G0 G0 EX6_findB s.heap 0 0 [(r0, 8, 0, .ref xs), (r0, 8, 1, .ref xp), (r0, 8, 2, .ref xl)] [] [] H_6 locs_6 → jKl [r0, xs, xp, xl] s.heap H_6 → (0 ≤ v6_6.toInt ∧ v6_6.toInt ≤ 16384) → (16384 - v6_6.toInt : Int) < N → ∀ ls : Array Slot, lv_has ls 9 [(0, .ref r0), (1, .long a1), (3, .int a3), (4, .int a4), (5, .int z_5), (6, .int v6_6)] → W p l e R s m ([.ref r0, .long a1, .int a3, .int a4] : List Value).toArray below meth c H_6 locs_6 0 0 Q (F0 m 19 ls []) := by
    intro N
    induction N with
    | zero => intro v6_6 H_6 locs_6 hh_6 hfl_6 hi_6 hm; exact absurd hm (by omega)
    | succ N L19 =>
      intro v6_6 H_6 locs_6 hh_6 hfl_6 hi_6 hm_6 ls hl
      obtain ⟨hi_6_0, hi_6_1⟩ := hi_6
      refine lv_iload hx hb dX6_find_19 (lv_at hl 5 rfl) ?_
      refine lv_sipush (v := 16384) hx hb dX6_find_21 (by decide) ?_
      refine lv_icmp_ge (tgt := 151) hx hb dX6_find_24 (by decide) (fun c_7 => ?_) (fun c_7 => ?_)
      · skip
        have c_7' : v6_6.toInt ≥ 16384 := jb_ge (rfl) ((by decide)) c_7
        refine lv_iconst (v := (-1)) hx hb dX6_find_151 (by decide) ?_
        rw [hQ]
        exact W.iret (v := (-1)) hx hb hr (fun t ht hW => ⟨⟨(-1), (), rfl, by first | omega | (refine ⟨?_, ?_⟩ <;> (first | omega | rfl | assumption | decide | exact Or.inl rfl | exact Or.inr rfl | (simp only; omega))), ⟨hh_6.rt (M1 := []) [] rfl ht, by rw [ht]; exact hfl_6⟩⟩, by rw [ht]; try exact hh_6.1.1, fun q h9 hq => by rw [ht]; try exact hh_6.1.2.1 q h9 hq⟩) hh_6.1.2.2 dX6_find_152
      · skip
        have c_7' : v6_6.toInt < 16384 := jb_ge_n (rfl) ((by decide)) c_7
        refine lv_iload hx hb dX6_find_27 (lv_at hl 4 rfl) ?_
        refine lv_iload hx hb dX6_find_29 (lv_at hl 5 rfl) ?_
        refine lv_iadd hx hb dX6_find_31 ?_
        refine lv_topi (fun z_8 ez_8 => ?_)
        refine lv_sipush (v := 16383) hx hb dX6_find_32 (by decide) ?_
        refine lv_iand hx hb dX6_find_35 ?_
        refine lv_topi (fun z_9 ez_9 => ?_)
        have hz_9 : 0 ≤ z_9.toInt ∧ z_9.toInt ≤ 16383 := by rw [ez_9]; exact jb_and z_8 (m := 16383) (k := 14) (by decide) (by decide)
        refine lv_istore (lv' := [(7, .int z_9), (0, .ref r0), (1, .long a1), (3, .int a3), (4, .int a4), (5, .int z_5), (6, .int v6_6)]) hx hb dX6_find_36 hl (by decide) rfl (fun ls hl => ?_)
        refine lv_aload_n hx hb dX6_find_38 rfl (lv_at hl 1 rfl) ?_
        refine j7_read hx hb hown hK (C := RX6) (T := TX6) (N := 4) rfl hly_8_2 hlk_19 (hh_6.at 2 rfl) dX6_find_39 ?_
        refine lv_iload hx hb dX6_find_42 (lv_at hl 0 rfl) ?_
        refine j7_iald hx hb hK hh_6 hB133 1 rfl (by decide) hg_xl (x := z_9.toInt) (rfl) (by omega) dX6_find_44 (fun z_10 (hz_10 : 0 ≤ z_10.toInt ∧ z_10.toInt ≤ 8192) => ?_)
        refine lv_iconst (v := 1) hx hb dX6_find_45 (by decide) ?_
        refine lv_isub hx hb dX6_find_46 ?_
        refine lv_topi (fun z_11 ez_11 => ?_)
        have hz_11 : z_11.toInt = z_10.toInt - 1 := by rw [ez_11]; exact jb_isub2 (rfl) ((by decide)) (by omega)
        refine lv_istore (lv' := [(8, .int z_11), (7, .int z_9), (0, .ref r0), (1, .long a1), (3, .int a3), (4, .int a4), (5, .int z_5), (6, .int v6_6)]) hx hb dX6_find_47 hl (by decide) rfl (fun ls hl => ?_)
        refine lv_iload hx hb dX6_find_49 (lv_at hl 0 rfl) ?_
        refine lv_if_ge (tgt := 119) hx hb dX6_find_51 (by decide) (fun c_12 => ?_) (fun c_12 => ?_)
        · skip
          have c_12' : z_11.toInt ≥ 0 := jb_ge (rfl) ((by decide)) c_12
          refine lv_aload_n hx hb dX6_find_119 rfl (lv_at hl 2 rfl) ?_
          refine j7_read hx hb hown hK (C := RX6) (T := TX6) (N := 4) rfl hly_8_0 hlk_11 (hh_6.at 0 rfl) dX6_find_120 ?_
          refine lv_iload hx hb dX6_find_123 (lv_at hl 0 rfl) ?_
          refine j7_lald hx hb hK hh_6 hB102 2 rfl (by decide) hg_xs (x := z_11.toInt) (rfl) (by omega) dX6_find_125 (fun z_13 => ?_)
          refine lv_lload_n hx hb dX6_find_126 rfl (lv_at hl 3 rfl) ?_
          refine W.lcmp hx hb dX6_find_127 ?_
          refine lv_topi (fun z_14 ez_14 => ?_)
          have hz_14 := jb_lcmp ez_14
          refine lv_if_ne (tgt := 145) hx hb dX6_find_128 (by decide) (fun c_15 => ?_) (fun c_15 => ?_)
          · skip
            have c_15' : z_14.toInt ≠ 0 := jb_ne (rfl) ((by decide)) c_15
            obtain ⟨z_16, ez_16⟩ : ∃ y : Int32, y = v6_6 + 1 := ⟨_, rfl⟩
            refine lv_iinc (v := z_16) (lv' := [(6, .int z_16), (8, .int z_11), (7, .int z_9), (0, .ref r0), (1, .long a1), (3, .int a3), (4, .int a4), (5, .int z_5)]) hx hb dX6_find_145 hl (k := 7) rfl (by rw [ez_16]; rfl) (by decide) rfl (fun ls hl => ?_)
            have hz_16 : z_16.toInt = v6_6.toInt + 1 := by rw [ez_16]; exact jb_iadd2 (rfl) (by decide) (by omega)
            refine lv_goto (tgt := 19) hx hb dX6_find_148 (by decide) ?_
            exact L19 z_16 _ _ hh_6 (hfl_6) (by first | omega | (refine ⟨?_, ?_⟩ <;> (first | omega | rfl | assumption | decide | exact Or.inl rfl | exact Or.inr rfl | (simp only; omega)))) (by omega) _ (lv_sub hl [3, 4, 5, 6, 7, 0] rfl)
          · skip
            have c_15' : z_14.toInt = 0 := jb_ne_n (rfl) ((by decide)) c_15
            refine lv_aload_n hx hb dX6_find_131 rfl (lv_at hl 2 rfl) ?_
            refine j7_read hx hb hown hK (C := RX6) (T := TX6) (N := 4) rfl hly_8_1 hlk_15 (hh_6.at 1 rfl) dX6_find_132 ?_
            refine lv_iload hx hb dX6_find_135 (lv_at hl 0 rfl) ?_
            refine j7_iald hx hb hK hh_6 hB132 1 rfl (by decide) hg_xp (x := z_11.toInt) (rfl) (by omega) dX6_find_137 (fun z_17 (hz_17 : 0 ≤ z_17.toInt ∧ z_17.toInt ≤ 10) => ?_)
            refine lv_iload_n hx hb dX6_find_138 rfl (lv_at hl 4 rfl) ?_
            refine lv_icmp_ne (tgt := 145) hx hb dX6_find_139 (by decide) (fun c_18 => ?_) (fun c_18 => ?_)
            · skip
              have c_18' : z_17.toInt ≠ a3.toInt := jb_ne (rfl) (rfl) c_18
              obtain ⟨z_19, ez_19⟩ : ∃ y : Int32, y = v6_6 + 1 := ⟨_, rfl⟩
              refine lv_iinc (v := z_19) (lv' := [(6, .int z_19), (8, .int z_11), (7, .int z_9), (0, .ref r0), (1, .long a1), (3, .int a3), (4, .int a4), (5, .int z_5)]) hx hb dX6_find_145 hl (k := 7) rfl (by rw [ez_19]; rfl) (by decide) rfl (fun ls hl => ?_)
              have hz_19 : z_19.toInt = v6_6.toInt + 1 := by rw [ez_19]; exact jb_iadd2 (rfl) (by decide) (by omega)
              refine lv_goto (tgt := 19) hx hb dX6_find_148 (by decide) ?_
              exact L19 z_19 _ _ hh_6 (hfl_6) (by first | omega | (refine ⟨?_, ?_⟩ <;> (first | omega | rfl | assumption | decide | exact Or.inl rfl | exact Or.inr rfl | (simp only; omega)))) (by omega) _ (lv_sub hl [3, 4, 5, 6, 7, 0] rfl)
            · skip
              have c_18' : z_17.toInt = a3.toInt := jb_ne_n (rfl) (rfl) c_18
              refine lv_iload hx hb dX6_find_142 (lv_at hl 0 rfl) ?_
              rw [hQ]
              exact W.iret (v := z_11) hx hb hr (fun t ht hW => ⟨⟨z_11, (), rfl, by first | omega | (refine ⟨?_, ?_⟩ <;> (first | omega | rfl | assumption | decide | exact Or.inl rfl | exact Or.inr rfl | (simp only; omega))), ⟨hh_6.rt (M1 := []) [] rfl ht, by rw [ht]; exact hfl_6⟩⟩, by rw [ht]; try exact hh_6.1.1, fun q h9 hq => by rw [ht]; try exact hh_6.1.2.1 q h9 hq⟩) hh_6.1.2.2 dX6_find_144
        · skip
          have c_12' : z_11.toInt < 0 := jb_ge_n (rfl) ((by decide)) c_12
          refine lv_iload hx hb dX6_find_54 (lv_at hl 5 rfl) ?_
          refine lv_if_eq (tgt := 69) hx hb dX6_find_56 (by decide) (fun c_20 => ?_) (fun c_20 => ?_)
          · skip
            have c_20' : a4.toInt = 0 := jb_eq (rfl) ((by decide)) c_20
            refine lv_iconst (v := (-1)) hx hb dX6_find_69 (by decide) ?_
            rw [hQ]
            exact W.iret (v := (-1)) hx hb hr (fun t ht hW => ⟨⟨(-1), (), rfl, by first | omega | (refine ⟨?_, ?_⟩ <;> (first | omega | rfl | assumption | decide | exact Or.inl rfl | exact Or.inr rfl | (simp only; omega))), ⟨hh_6.rt (M1 := []) [] rfl ht, by rw [ht]; exact hfl_6⟩⟩, by rw [ht]; try exact hh_6.1.1, fun q h9 hq => by rw [ht]; try exact hh_6.1.2.1 q h9 hq⟩) hh_6.1.2.2 dX6_find_70
          · skip
            have c_20' : a4.toInt ≠ 0 := jb_eq_n (rfl) ((by decide)) c_20
            refine lv_aload_n hx hb dX6_find_59 rfl (lv_at hl 2 rfl) ?_
            obtain ⟨v_21, hv_21, hh_22⟩ := hh_6.pin (C := RX6) (T := TX6) (N := 4) hB8 rfl (by decide) hg_r0 (i := 3) (by decide) rfl
            clear hh_6
            obtain ⟨count_23, rfl, hlocount_23, hhicount_23⟩ := hv_21
            refine j7_read hx hb hown hK (C := RX6) (T := TX6) (N := 4) rfl hly_8_3 hlk_52 (hh_22.at 0 rfl) dX6_find_60 ?_
            refine lv_sipush (v := 8192) hx hb dX6_find_63 (by decide) ?_
            refine lv_icmp_lt (tgt := 71) hx hb dX6_find_66 (by decide) (fun c_24 => ?_) (fun c_24 => ?_)
            · skip
              have c_24' : count_23.toInt < 8192 := jb_lt (rfl) ((by decide)) c_24
              refine lv_aload_n hx hb dX6_find_71 rfl (lv_at hl 2 rfl) ?_
              refine j7_read hx hb hown hK (C := RX6) (T := TX6) (N := 4) rfl hly_8_0 hlk_11 (hh_22.at 1 rfl) dX6_find_72 ?_
              refine lv_aload_n hx hb dX6_find_75 rfl (lv_at hl 2 rfl) ?_
              refine j7_read hx hb hown hK (C := RX6) (T := TX6) (N := 4) rfl hly_8_3 hlk_52 (hh_22.at 0 rfl) dX6_find_76 ?_
              refine lv_lload_n hx hb dX6_find_79 rfl (lv_at hl 3 rfl) ?_
              refine j7_lastF hx hb hK hh_22 hB hB102 2 rfl (by decide) (by decide) rfl rfl rfl hg_xs (x := count_23.toInt) (rfl) (by omega) dX6_find_80 (fun H_25 locs_25 hr_25 hh_25 => ?_)
              have hfl_26 := hfl_6.put hr_25 (by simp)
              clear hr_25
              clear hh_22
              refine lv_aload_n hx hb dX6_find_81 rfl (lv_at hl 2 rfl) ?_
              refine j7_read hx hb hown hK (C := RX6) (T := TX6) (N := 4) rfl hly_8_1 hlk_15 (hh_25.at 2 rfl) dX6_find_82 ?_
              refine lv_aload_n hx hb dX6_find_85 rfl (lv_at hl 2 rfl) ?_
              refine j7_read hx hb hown hK (C := RX6) (T := TX6) (N := 4) rfl hly_8_3 hlk_52 (hh_25.at 0 rfl) dX6_find_86 ?_
              refine lv_iload_n hx hb dX6_find_89 rfl (lv_at hl 4 rfl) ?_
              refine j7_iastF hx hb hK hh_25 hB hB132 1 rfl (by decide) (by decide) rfl rfl rfl hg_xp (x := count_23.toInt) (rfl) (by omega) (by first | omega | (refine ⟨?_, ?_⟩ <;> (first | omega | rfl | assumption | decide | exact Or.inl rfl | exact Or.inr rfl | (simp only; omega)))) dX6_find_90 (fun H_27 locs_27 hr_27 hh_27 => ?_)
              have hfl_28 := hfl_26.put hr_27 (by simp)
              clear hr_27
              clear hh_25
              refine lv_aload_n hx hb dX6_find_91 rfl (lv_at hl 2 rfl) ?_
              refine lv_dup hx hb dX6_find_92 rfl ?_
              refine j7_read hx hb hown hK (C := RX6) (T := TX6) (N := 4) rfl hly_8_3 hlk_52 (hh_27.at 0 rfl) dX6_find_93 ?_
              refine lv_iconst (v := 1) hx hb dX6_find_96 (by decide) ?_
              refine lv_iadd hx hb dX6_find_97 ?_
              refine lv_topi (fun z_29 ez_29 => ?_)
              have hz_29 : z_29.toInt = count_23.toInt + 1 := by rw [ez_29]; exact jb_iadd2 (rfl) ((by decide)) (by omega)
              refine j7_putX hx hb hown hK hh_27 hB hAp hB8 (C := RX6) (T := TX6) (N := 4) rfl (by decide) hg_r0 (i := 3) (by decide) hly_8_3 rfl hlk_52 rfl (ty := .int) (v := .int z_29) (by decide +kernel) rfl rfl (⟨_, rfl, by omega, by omega⟩) rfl (L1 := [(r0, 8, 0, .ref xs), (r0, 8, 1, .ref xp), (r0, 8, 2, .ref xl)]) [1, 2, 3] rfl rfl rfl dX6_find_98 (fun H_30 locs_30 hr_30 hh_30 => ?_)
              have hfl_31 := hfl_28.put hr_30 (by simp)
              clear hr_30
              clear hh_27
              refine lv_aload_n hx hb dX6_find_101 rfl (lv_at hl 2 rfl) ?_
              refine j7_read hx hb hown hK (C := RX6) (T := TX6) (N := 4) rfl hly_8_2 hlk_19 (hh_30.at 3 rfl) dX6_find_102 ?_
              refine lv_iload hx hb dX6_find_105 (lv_at hl 1 rfl) ?_
              refine lv_aload_n hx hb dX6_find_107 rfl (lv_at hl 2 rfl) ?_
              refine j7_read hx hb hown hK (C := RX6) (T := TX6) (N := 4) rfl hly_8_3 hlk_52 (hh_30.at 0 rfl) dX6_find_108 ?_
              refine j7_iastF hx hb hK hh_30 hB hB133 1 rfl (by decide) (by decide) rfl rfl rfl hg_xl (x := z_9.toInt) (rfl) (by omega) (by first | omega | (refine ⟨?_, ?_⟩ <;> (first | omega | rfl | assumption | decide | exact Or.inl rfl | exact Or.inr rfl | (simp only; omega)))) dX6_find_111 (fun H_32 locs_32 hr_32 hh_32 => ?_)
              have hfl_33 := hfl_31.put hr_32 (by simp)
              clear hr_32
              clear hh_30
              refine lv_aload_n hx hb dX6_find_112 rfl (lv_at hl 2 rfl) ?_
              refine j7_read hx hb hown hK (C := RX6) (T := TX6) (N := 4) rfl hly_8_3 hlk_52 (hh_32.at 0 rfl) dX6_find_113 ?_
              refine lv_iconst (v := 1) hx hb dX6_find_116 (by decide) ?_
              refine lv_isub hx hb dX6_find_117 ?_
              refine lv_topi (fun z_34 ez_34 => ?_)
              have hz_34 : z_34.toInt = z_29.toInt - 1 := by rw [ez_34]; exact jb_isub2 (rfl) ((by decide)) (by omega)
              rw [hQ]
              exact W.iret (v := z_34) hx hb hr (fun t ht hW => ⟨⟨z_34, (), rfl, by first | omega | (refine ⟨?_, ?_⟩ <;> (first | omega | rfl | assumption | decide | exact Or.inl rfl | exact Or.inr rfl | (simp only; omega))), ⟨hh_32.rt (M1 := []) [] rfl ht, by rw [ht]; exact hfl_33⟩⟩, by rw [ht]; try exact hh_32.1.1, fun q h9 hq => by rw [ht]; try exact hh_32.1.2.1 q h9 hq⟩) hh_32.1.2.2 dX6_find_118
            · skip
              have c_24' : count_23.toInt ≥ 8192 := jb_lt_n (rfl) ((by decide)) c_24
              refine lv_iconst (v := (-1)) hx hb dX6_find_69 (by decide) ?_
              rw [hQ]
              exact W.iret (v := (-1)) hx hb hr (fun t ht hW => ⟨⟨(-1), (), rfl, by first | omega | (refine ⟨?_, ?_⟩ <;> (first | omega | rfl | assumption | decide | exact Or.inl rfl | exact Or.inr rfl | (simp only; omega))), ⟨hh_22.rt (M1 := []) [] rfl ht, by rw [ht]; exact hfl_6⟩⟩, by rw [ht]; try exact hh_22.1.1, fun q h9 hq => by rw [ht]; try exact hh_22.1.2.1 q h9 hq⟩) hh_22.1.2.2 dX6_find_70
  exact L19 (16384 - (0 : Int32).toInt : Int).toNat.succ 0 _ _ hh (hfl) (by first | omega | (refine ⟨?_, ?_⟩ <;> (first | omega | rfl | assumption | decide | exact Or.inl rfl | exact Or.inr rfl | (simp only; omega)))) (by omega) _ (lv_sub hl [2, 3, 4, 5, 1, 0] rfl)
set_option maxHeartbeats 4000000 in
set_option maxRecDepth 20000 in
theorem uX6_numberOfB (l : Launch) (dC : Nat → ClassId) (dI : Nat → Nat → Nat) (ca : Nat → ClassId) (base : Nat) (B : jF) (hB : jBok B) (hAp : jAp (dC, dI)) (hB8 : ∀ n G a H, B 8 n G a H ↔ jOb (dC, dI) 8 4 (F8 n G) a H) (hB101 : ∀ n G a H, B 101 n G a H ↔ jAr (dC, dI) (ca 1) (fun j z => True) n a H) (hB102 : ∀ n G a H, B 102 n G a H ↔ jAl (dC, dI) (ca 2) n a H) (hB132 : ∀ n G a H, B 132 n G a H ↔ jAr (dC, dI) (ca 1) (fun j z => 0 ≤ z.toInt ∧ z.toInt ≤ 10) n a H) (hB133 : ∀ n G a H, B 133 n G a H ↔ jAr (dC, dI) (ca 1) (fun j z => 0 ≤ z.toInt ∧ z.toInt ≤ 8192) n a H) (G0 : jT) (H0 : Heap) (r0 : Nat) (r1 : Nat) (a2 : Int32) (a3 : Int32) (a4 : Int32) (n1 : Nat) (xs : Nat) (xp : Nat) (xl : Nat) : Met l yX6_numberOf (jw yX6_numberOf cX6_numberOf 10 (some .int)) ({ frames := 1, cells := 0, slots := 0, locals := 28 }) (va_Pc [.ref r0, .ref r1, .int a2, .int a3, .int a4] (fun U => U.heap = H0 ∧ jX B base G0 [] H0 ∧ jG dC dI ca base U ∧ G0 r0 = some (8, 0) ∧ G0 r1 = some (101, n1) ∧ G0 xs = some (102, 8192) ∧ G0 xp = some (132, 8192) ∧ G0 xl = some (133, 16384) ∧ jP (dC, dI) G0 H0 [(r0, 8, 0, .ref xs), (r0, 8, 1, .ref xp), (r0, 8, 2, .ref xl)] ∧ n1 < 2147483648)) (va_Qi (S := Unit) (fun r u => (-1 ≤ r.toInt ∧ r.toInt ≤ 8191)) (fun u t => (jRt (dC, dI) B base G0 EX6_numberOfB H0 [] t.heap) ∧ jKl [r0, xs, xp, xl] H0 t.heap) (jA base)) 0 0 (jA base) := by
  refine Met.ofW (cc := cX6_numberOf) (maxL := 10) (ret := (some .int)) (by decide) rfl ?_
  intro p e s m args below meth c s₁ Bd hml hv
  obtain ⟨rfl, hH0, hX, hG, hg_r0, hg_r1, hg_xs, hg_xp, hg_xl, hP0, hp0⟩ := hv
  have hK := hG.1
  have hx := Bd.exec
  have hb := Bd.bytes
  have hr := Bd.returns
  have hts := atoms_spec (ws := (jw yX6_numberOf cX6_numberOf 10 (some .int))) Bd.pre
  have htw : ∀ w ∈ jWl, w.before _ s = true := fun w h => hts w (List.mem_cons_of_mem _ h)
  have hown : s.vm.findClass RX6 = some m.cls := findClass_of_methodNamed Bd.named
  have hlocks := Bd.notSynchronized
  obtain ⟨Q, hQ⟩ : ∃ Q, Q = MQ below (va_Qi (S := Unit) (fun r u => (-1 ≤ r.toInt ∧ r.toInt ≤ 8191)) (fun u t => (jRt (dC, dI) B base G0 EX6_numberOfB H0 [] t.heap) ∧ jKl [r0, xs, xp, xl] H0 t.heap) (jA base)) ([.ref r0, .ref r1, .int a2, .int a3, .int a4] : List Value).toArray s 0 0 (jA base) := ⟨_, rfl⟩
  rw [← hQ]
  have hl := lv_entry ([.ref r0, .ref r1, .int a2, .int a3, .int a4]) (n := 10) (Nat.le_of_ble_eq_true rfl)
  rw [lg_entry_eq]
  generalize (lg_sl ([.ref r0, .ref r1, .int a2, .int a3, .int a4]) ++ List.replicate (10 - (lg_sl ([.ref r0, .ref r1, .int a2, .int a3, .int a4])).length) Slot.unset).toArray = ls at hl ⊢
  have hl : lv_has ls 10 [(0, .ref r0), (1, .ref r1), (2, .int a2), (3, .int a3), (4, .int a4)] := hl
  generalize hR : (headSpec (jw yX6_numberOf cX6_numberOf 10 (some .int)) ({ frames := 1, cells := 0, slots := 0, locals := 28 })).room = R
  subst hH0
  have hh : jSt (dC, dI) B base G0 G0 EX6_numberOfB s.heap 0 0 [(r0, 8, 0, .ref xs), (r0, 8, 1, .ref xp), (r0, 8, 2, .ref xl)] [] [] s.heap [] := jSt.start hX hP0 jMc.nil jIs.nil
  clear hX hP0
  have hkm1 : ((-1) : Int32).toInt = (-1) := by decide
  have hk0 : (0 : Int32).toInt = 0 := by decide
  have hk1 : (1 : Int32).toInt = 1 := by decide
  have hk6 : (6 : Int32).toInt = 6 := by decide
  have hk10 : (10 : Int32).toInt = 10 := by decide
  have hk39 : (39 : Int32).toInt = 39 := by decide
  have hrg_a2 := jb_rng a2
  have hrg_a3 := jb_rng a3
  have hrg_a4 := jb_rng a4
  have hfl : jKl [r0, xs, xp, xl] s.heap s.heap := jKl.rf
  refine lv_iload_n hx hb dX6_numberOf_0 rfl (lv_at hl 2 rfl) ?_
  refine lv_if_lt (tgt := 32) hx hb dX6_numberOf_1 (by decide) (fun c_1 => ?_) (fun c_1 => ?_)
  · skip
    have c_1' : a2.toInt < 0 := jb_lt (rfl) ((by decide)) c_1
    refine lv_iconst (v := (-1)) hx hb dX6_numberOf_32 (by decide) ?_
    rw [hQ]
    exact W.iret (v := (-1)) hx hb hr (fun t ht hW => ⟨⟨(-1), (), rfl, by first | omega | (refine ⟨?_, ?_⟩ <;> (first | omega | rfl | assumption | decide | exact Or.inl rfl | exact Or.inr rfl | (simp only; omega))), ⟨hh.rt (M1 := []) [] rfl ht, by rw [ht]; exact hfl⟩⟩, by rw [ht]; try exact hh.1.1, fun q h9 hq => by rw [ht]; try exact hh.1.2.1 q h9 hq⟩) hh.1.2.2 dX6_numberOf_33
  · skip
    have c_1' : a2.toInt ≥ 0 := jb_lt_n (rfl) ((by decide)) c_1
    refine lv_iload_n hx hb dX6_numberOf_4 rfl (lv_at hl 3 rfl) ?_
    refine lv_aload_n hx hb dX6_numberOf_5 rfl (lv_at hl 1 rfl) ?_
    refine j7_len hx hb hK hh hB101 1 rfl (by decide) hg_r1 (by omega) dX6_numberOf_6 (fun z_2 hz_2 => ?_)
    refine lv_icmp_gt (tgt := 32) hx hb dX6_numberOf_7 (by decide) (fun c_3 => ?_) (fun c_3 => ?_)
    · skip
      have c_3' : a3.toInt > z_2.toInt := jb_gt (rfl) (rfl) c_3
      refine lv_iconst (v := (-1)) hx hb dX6_numberOf_32 (by decide) ?_
      rw [hQ]
      exact W.iret (v := (-1)) hx hb hr (fun t ht hW => ⟨⟨(-1), (), rfl, by first | omega | (refine ⟨?_, ?_⟩ <;> (first | omega | rfl | assumption | decide | exact Or.inl rfl | exact Or.inr rfl | (simp only; omega))), ⟨hh.rt (M1 := []) [] rfl ht, by rw [ht]; exact hfl⟩⟩, by rw [ht]; try exact hh.1.1, fun q h9 hq => by rw [ht]; try exact hh.1.2.1 q h9 hq⟩) hh.1.2.2 dX6_numberOf_33
    · skip
      have c_3' : a3.toInt ≤ z_2.toInt := jb_gt_n (rfl) (rfl) c_3
      refine lv_iload_n hx hb dX6_numberOf_10 rfl (lv_at hl 2 rfl) ?_
      refine lv_iload_n hx hb dX6_numberOf_11 rfl (lv_at hl 3 rfl) ?_
      refine lv_icmp_ge (tgt := 32) hx hb dX6_numberOf_12 (by decide) (fun c_4 => ?_) (fun c_4 => ?_)
      · skip
        have c_4' : a2.toInt ≥ a3.toInt := jb_ge (rfl) (rfl) c_4
        refine lv_iconst (v := (-1)) hx hb dX6_numberOf_32 (by decide) ?_
        rw [hQ]
        exact W.iret (v := (-1)) hx hb hr (fun t ht hW => ⟨⟨(-1), (), rfl, by first | omega | (refine ⟨?_, ?_⟩ <;> (first | omega | rfl | assumption | decide | exact Or.inl rfl | exact Or.inr rfl | (simp only; omega))), ⟨hh.rt (M1 := []) [] rfl ht, by rw [ht]; exact hfl⟩⟩, by rw [ht]; try exact hh.1.1, fun q h9 hq => by rw [ht]; try exact hh.1.2.1 q h9 hq⟩) hh.1.2.2 dX6_numberOf_33
      · skip
        have c_4' : a2.toInt < a3.toInt := jb_ge_n (rfl) (rfl) c_4
        refine lv_iload_n hx hb dX6_numberOf_15 rfl (lv_at hl 3 rfl) ?_
        refine lv_iload_n hx hb dX6_numberOf_16 rfl (lv_at hl 2 rfl) ?_
        refine lv_isub hx hb dX6_numberOf_17 ?_
        refine lv_topi (fun z_5 ez_5 => ?_)
        have hz_5 : z_5.toInt = a3.toInt - a2.toInt := by rw [ez_5]; exact jb_isub2 (rfl) (rfl) (by omega)
        refine lv_bipush (v := 10) hx hb dX6_numberOf_18 (by decide) ?_
        refine lv_icmp_gt (tgt := 32) hx hb dX6_numberOf_20 (by decide) (fun c_6 => ?_) (fun c_6 => ?_)
        · skip
          have c_6' : z_5.toInt > 10 := jb_gt (rfl) ((by decide)) c_6
          refine lv_iconst (v := (-1)) hx hb dX6_numberOf_32 (by decide) ?_
          rw [hQ]
          exact W.iret (v := (-1)) hx hb hr (fun t ht hW => ⟨⟨(-1), (), rfl, by first | omega | (refine ⟨?_, ?_⟩ <;> (first | omega | rfl | assumption | decide | exact Or.inl rfl | exact Or.inr rfl | (simp only; omega))), ⟨hh.rt (M1 := []) [] rfl ht, by rw [ht]; exact hfl⟩⟩, by rw [ht]; try exact hh.1.1, fun q h9 hq => by rw [ht]; try exact hh.1.2.1 q h9 hq⟩) hh.1.2.2 dX6_numberOf_33
        · skip
          have c_6' : z_5.toInt ≤ 10 := jb_gt_n (rfl) ((by decide)) c_6
          refine lv_aload_n hx hb dX6_numberOf_23 rfl (lv_at hl 1 rfl) ?_
          refine lv_iload_n hx hb dX6_numberOf_24 rfl (lv_at hl 2 rfl) ?_
          refine j7_iald hx hb hK hh hB101 1 rfl (by decide) hg_r1 (x := a2.toInt) (rfl) (by omega) dX6_numberOf_25 (fun z_7 (hz_7 : True) => ?_)
          refine vp_callSi (va_Run.run (va_runSN (As := [.int z_7]) (rest := []) ⟨hx, hb, hml, hown, hts⟩ (wX11_isLetter l dC dI ca base s.heap z_7) ⟨va_cnB 1 hts (jgW (jWr_7 _ (List.mem_of_getElem? (i := 18) rfl))) rfl rfl rfl (hG.2.2.1 RX6 38 yX11_isLetter "ProofServer" (List.mem_of_getElem? (i := 217) (by decide +kernel))) (htw (.initialized RX11) (jWr_1 _ (List.mem_of_getElem? (i := 2) rfl))) (by decide +kernel) ⟨by rw [← hR]; exact Nat.le_of_ble_eq_true rfl, by rw [← hR]; exact Nat.le_of_ble_eq_true rfl⟩, htw (.static yX11_isLetter) (jWr_7 _ (List.mem_of_getElem? (i := 17) rfl)), trivial⟩ ⟨fun a U g mk q => by obtain ⟨q0, q1, qK, q9⟩ := q; exact ⟨q0, q1, jG.calling g mk a qK, q9⟩, fun U hU hW => ⟨rfl, hU, hG.step hW hU hh.1, by first | trivial | omega | (constructor <;> omega)⟩⟩ rfl rfl hl.1 rfl (lv_room (Nat.le_of_ble_eq_true rfl)) dX6_numberOf_26 ⟨Nat.zero_le _, Nat.zero_le _⟩)) (fun r_8 hr_8 => ?_)
          have hr_8' : r_8.toInt = 0 ∨ r_8.toInt = 1 := jb_01 hr_8
          refine lv_if_ne (tgt := 34) hx hb dX6_numberOf_29 (by decide) (fun c_9 => ?_) (fun c_9 => ?_)
          · skip
            have c_9' : r_8.toInt ≠ 0 := jb_ne (rfl) ((by decide)) c_9
            refine lv_iload_n hx hb dX6_numberOf_34 rfl (lv_at hl 3 rfl) ?_
            refine lv_istore (lv' := [(5, .int a3), (0, .ref r0), (1, .ref r1), (2, .int a2), (3, .int a3), (4, .int a4)]) hx hb dX6_numberOf_35 hl (by decide) rfl (fun ls hl => ?_)
            have L37 : ∀ (N : Nat) (v5_10 : Int32) (H_10 : Heap) (locs_10 : List Loc), jSt (dC, dI) B base G0 G0 EX6_numberOfB s.heap 0 0 [(r0, 8, 0, .ref xs), (r0, 8, 1, .ref xp), (r0, 8, 2, .ref xl)] [] [] H_10 locs_10 → jKl [r0, xs, xp, xl] s.heap H_10 → (a2.toInt ≤ v5_10.toInt ∧ v5_10.toInt ≤ a3.toInt) → (v5_10.toInt - a2.toInt : Int) < N → ∀ ls : Array Slot, lv_has ls 10 [(0, .ref r0), (1, .ref r1), (2, .int a2), (3, .int a3), (4, .int a4), (5, .int v5_10)] → W p l e R s m ([.ref r0, .ref r1, .int a2, .int a3, .int a4] : List Value).toArray below meth c H_10 locs_10 0 0 Q (F0 m 37 ls []) := by
              intro N
              induction N with
              | zero => intro v5_10 H_10 locs_10 hh_10 hfl_10 hi_10 hm; exact absurd hm (by omega)
              | succ N L37 =>
                intro v5_10 H_10 locs_10 hh_10 hfl_10 hi_10 hm_10 ls hl
                obtain ⟨hi_10_0, hi_10_1⟩ := hi_10
                refine lv_iload hx hb dX6_numberOf_37 (lv_at hl 5 rfl) ?_
                refine lv_iload_n hx hb dX6_numberOf_39 rfl (lv_at hl 2 rfl) ?_
                refine lv_icmp_le (tgt := 60) hx hb dX6_numberOf_40 (by decide) (fun c_11 => ?_) (fun c_11 => ?_)
                · skip
                  have c_11' : v5_10.toInt ≤ a2.toInt := jb_le (rfl) (rfl) c_11
                  refine lv_lconst (v := 1) hx hb dX6_numberOf_60 (by decide) ?_
                  refine lv_lstore (lv' := [(6, .long 1), (0, .ref r0), (1, .ref r1), (2, .int a2), (3, .int a3), (4, .int a4), (5, .int v5_10)]) hx hb dX6_numberOf_61 hl (by decide) rfl (fun ls hl => ?_)
                  refine lv_iload hx hb dX6_numberOf_63 (lv_at hl 6 rfl) ?_
                  refine lv_iconst (v := 1) hx hb dX6_numberOf_65 (by decide) ?_
                  refine lv_isub hx hb dX6_numberOf_66 ?_
                  refine lv_topi (fun z_12 ez_12 => ?_)
                  have hz_12 : z_12.toInt = v5_10.toInt - 1 := by rw [ez_12]; exact jb_isub2 (rfl) ((by decide)) (by omega)
                  refine lv_istore (lv' := [(8, .int z_12), (6, .long 1), (0, .ref r0), (1, .ref r1), (2, .int a2), (3, .int a3), (4, .int a4), (5, .int v5_10)]) hx hb dX6_numberOf_67 hl (by decide) rfl (fun ls hl => ?_)
                  have L69 : ∀ (N : Nat) (v6_13 : Int64) (v8_13 : Int32) (H_13 : Heap) (locs_13 : List Loc), jSt (dC, dI) B base G0 G0 EX6_numberOfB s.heap 0 0 [(r0, 8, 0, .ref xs), (r0, 8, 1, .ref xp), (r0, 8, 2, .ref xl)] [] [] H_13 locs_13 → jKl [r0, xs, xp, xl] s.heap H_13 → (a2.toInt - 1 ≤ v8_13.toInt ∧ v8_13.toInt < a3.toInt) → (v8_13.toInt + 1 - a2.toInt : Int) < N → ∀ ls : Array Slot, lv_has ls 10 [(0, .ref r0), (1, .ref r1), (2, .int a2), (3, .int a3), (4, .int a4), (5, .int v5_10), (6, .long v6_13), (8, .int v8_13)] → W p l e R s m ([.ref r0, .ref r1, .int a2, .int a3, .int a4] : List Value).toArray below meth c H_13 locs_13 0 0 Q (F0 m 69 ls []) := by
                    intro N
                    induction N with
                    | zero => intro v6_13 v8_13 H_13 locs_13 hh_13 hfl_13 hi_13 hm; exact absurd hm (by omega)
                    | succ N L69 =>
                      intro v6_13 v8_13 H_13 locs_13 hh_13 hfl_13 hi_13 hm_13 ls hl
                      obtain ⟨hi_13_0, hi_13_1⟩ := hi_13
                      refine lv_iload hx hb dX6_numberOf_69 (lv_at hl 7 rfl) ?_
                      refine lv_iload_n hx hb dX6_numberOf_71 rfl (lv_at hl 2 rfl) ?_
                      refine lv_icmp_lt (tgt := 108) hx hb dX6_numberOf_72 (by decide) (fun c_14 => ?_) (fun c_14 => ?_)
                      · skip
                        have c_14' : v8_13.toInt < a2.toInt := jb_lt (rfl) (rfl) c_14
                        refine lv_aload_n hx hb dX6_numberOf_108 rfl (lv_at hl 0 rfl) ?_
                        refine lv_lload hx hb dX6_numberOf_109 (lv_at hl 6 rfl) ?_
                        refine lv_iload_n hx hb dX6_numberOf_111 rfl (lv_at hl 3 rfl) ?_
                        refine lv_iload hx hb dX6_numberOf_112 (lv_at hl 5 rfl) ?_
                        refine lv_isub hx hb dX6_numberOf_114 ?_
                        refine lv_topi (fun z_15 ez_15 => ?_)
                        have hz_15 : z_15.toInt = a3.toInt - v5_10.toInt := by rw [ez_15]; exact jb_isub2 (rfl) (rfl) (by omega)
                        refine lv_iload hx hb dX6_numberOf_115 (lv_at hl 4 rfl) ?_
                        refine va_calli (A0 := jA base) (H0 := s.heap) (va_runV (As := [.long v6_13, .int z_15, .int a4]) (rest := []) ⟨hx, hb, hml, hown, hts⟩ (uX6_findB l dC dI ca base B hB hAp hB8 hB102 hB132 hB133 G0 H_13 r0 v6_13 z_15 a4 xs xp xl) (cwV 3 hts (jgV (jWr_7 _ (List.mem_of_getElem? (i := 22) rfl)) (jWr_7 _ (List.mem_of_getElem? (i := 23) rfl)) (jWr_8 _ (List.mem_of_getElem? (i := 0) rfl)) (jWr_4 _ (List.mem_of_getElem? (i := 10) rfl)) (jWr_8 _ (List.mem_of_getElem? (i := 1) rfl))) rfl rfl rfl (by decide +kernel) ⟨by rw [← hR]; exact Nat.le_of_ble_eq_true rfl, by rw [← hR]; exact Nat.le_of_ble_eq_true rfl⟩) ⟨fun a U g mk q => by obtain ⟨q0, q1, q2, qK, q10, q11, q12, q13, q14, q15⟩ := q; exact ⟨q0, q1, q2, jG.calling g mk a qK, q10, q11, q12, q13, q14, q15⟩, hh_13.recv (C := RX6) (T := TX6) (N := 4) hB8 rfl (by decide) hg_r0 hK, fun U hU hW => ⟨rfl, hU, hh_13.2.1, hG.step hW hU hh_13.1, hg_r0, hg_xs, hg_xp, hg_xl, (hh_13.2.2.1.sub (L1 := [(r0, 8, 0, .ref xs), (r0, 8, 1, .ref xp), (r0, 8, 2, .ref xl)]) [0, 1, 2] rfl), by first | omega | (refine ⟨?_, ?_⟩ <;> (first | omega | rfl | assumption | decide | exact Or.inl rfl | exact Or.inr rfl | (simp only; omega)))⟩⟩ rfl rfl hl.1 rfl (lv_room (Nat.le_of_ble_eq_true rfl)) dX6_numberOf_117 ⟨Nat.zero_le _, Nat.zero_le _⟩) hh_13.1 (fun q _ h => h) (fun q h => h) (fun r_17 u_16 t_16 H_16 locs_16 ht_16 hvm_16 hr_17 hb_16 hz_16 hk_16 hS_16 => ?_)
                        rw [ht_16] at hb_16
                        obtain ⟨hb_16, hbF_16⟩ := hb_16
                        obtain ⟨hb_161, hb_162, hb_163, hb_164, hb_165⟩ := hb_16
                        have hh_16 : jSt (dC, dI) B base G0 G0 EX6_numberOfB s.heap 0 0 [(r0, 8, 0, .ref xs), (r0, 8, 1, .ref xp), (r0, 8, 2, .ref xl)] [] [] H_16 locs_16 := ((hh_13.call hb_161 hb_162 hb_163 hb_164 hS_16 rfl (L1 := [(r0, 8, 0, .ref xs), (r0, 8, 1, .ref xp), (r0, 8, 2, .ref xl)]) [0, 1, 2] rfl rfl (M1 := []) [] rfl rfl (I1 := []) [] rfl rfl).more hb_165)
                        clear hh_13 ht_16 hvm_16 hz_16 hk_16 hS_16 hb_161 hb_162 hb_163 hb_164 hb_165
                        have hfl_18 := hfl_13.tr hbF_16 (by first | exact fun q h => h | (intro q h9; simp at h9 ⊢; exact h9) | (intro q h9; simp at h9))
                        obtain ⟨hr_17_0, hr_17_1⟩ := hr_17
                        rw [hQ]
                        exact W.iret (v := r_17) hx hb hr (fun t ht hW => ⟨⟨r_17, (), rfl, by first | omega | (refine ⟨?_, ?_⟩ <;> (first | omega | rfl | assumption | decide | exact Or.inl rfl | exact Or.inr rfl | (simp only; omega))), ⟨hh_16.rt (M1 := []) [] rfl ht, by rw [ht]; exact hfl_18⟩⟩, by rw [ht]; try exact hh_16.1.1, fun q h9 hq => by rw [ht]; try exact hh_16.1.2.1 q h9 hq⟩) hh_16.1.2.2 dX6_numberOf_120
                      · skip
                        have c_14' : v8_13.toInt ≥ a2.toInt := jb_lt_n (rfl) (rfl) c_14
                        refine lv_aload_n hx hb dX6_numberOf_75 rfl (lv_at hl 1 rfl) ?_
                        refine lv_iload hx hb dX6_numberOf_76 (lv_at hl 7 rfl) ?_
                        refine j7_iald hx hb hK hh_13 hB101 1 rfl (by decide) hg_r1 (x := v8_13.toInt) (rfl) (by omega) dX6_numberOf_78 (fun z_19 (hz_19 : True) => ?_)
                        refine vp_callSi (W.runS (As := [.int z_19]) (rest := []) ⟨hx, hb, hml, hown, hts⟩ (wX6_signOf l dC dI ca base H_13 z_19) (va_cwS 1 hts (jgS (jWr_7 _ (List.mem_of_getElem? (i := 19) rfl)) (jWr_7 _ (List.mem_of_getElem? (i := 20) rfl)) (jWr_4 _ (List.mem_of_getElem? (i := 10) rfl)) (jWr_7 _ (List.mem_of_getElem? (i := 21) rfl))) rfl rfl rfl (by decide +kernel) ⟨by rw [← hR]; exact Nat.le_of_ble_eq_true rfl, by rw [← hR]; exact Nat.le_of_ble_eq_true rfl⟩) ⟨fun a U g mk q => by obtain ⟨q0, q1, qK, q9⟩ := q; exact ⟨q0, q1, jG.calling g mk a qK, q9⟩, fun U hU hW => ⟨rfl, hU, hG.step hW hU hh_13.1, by first | trivial | omega | (constructor <;> omega)⟩⟩ rfl rfl hl.1 rfl (lv_room (Nat.le_of_ble_eq_true rfl)) dX6_numberOf_79 ⟨Nat.zero_le _, Nat.zero_le _⟩) (fun r_20 hr_20 => ?_)
                        refine lv_istore (lv' := [(9, .int r_20), (0, .ref r0), (1, .ref r1), (2, .int a2), (3, .int a3), (4, .int a4), (5, .int v5_10), (6, .long v6_13), (8, .int v8_13)]) hx hb dX6_numberOf_82 hl (by decide) rfl (fun ls hl => ?_)
                        refine lv_iload hx hb dX6_numberOf_84 (lv_at hl 0 rfl) ?_
                        refine lv_if_ge (tgt := 91) hx hb dX6_numberOf_86 (by decide) (fun c_21 => ?_) (fun c_21 => ?_)
                        · skip
                          have c_21' : r_20.toInt ≥ 0 := jb_ge (rfl) ((by decide)) c_21
                          refine lv_lload hx hb dX6_numberOf_91 (lv_at hl 7 rfl) ?_
                          refine lv_bipush (v := 6) hx hb dX6_numberOf_93 (by decide) ?_
                          refine lv_lshl hx hb dX6_numberOf_95 rfl ?_
                          refine lv_topl (fun z_22 ez_22 => ?_)
                          refine lv_iload hx hb dX6_numberOf_96 (lv_at hl 0 rfl) ?_
                          refine lv_i2l hx hb dX6_numberOf_98 rfl ?_
                          refine lv_topl (fun z_23 ez_23 => ?_)
                          refine lv_lor hx hb dX6_numberOf_99 ?_
                          refine lv_topl (fun z_24 ez_24 => ?_)
                          refine lv_lstore (lv' := [(6, .long z_24), (9, .int r_20), (0, .ref r0), (1, .ref r1), (2, .int a2), (3, .int a3), (4, .int a4), (5, .int v5_10), (8, .int v8_13)]) hx hb dX6_numberOf_100 hl (by decide) rfl (fun ls hl => ?_)
                          obtain ⟨z_25, ez_25⟩ : ∃ y : Int32, y = v8_13 + (-1) := ⟨_, rfl⟩
                          refine lv_iinc (v := z_25) (lv' := [(8, .int z_25), (6, .long z_24), (9, .int r_20), (0, .ref r0), (1, .ref r1), (2, .int a2), (3, .int a3), (4, .int a4), (5, .int v5_10)]) hx hb dX6_numberOf_102 hl (k := 8) rfl (by rw [ez_25]; rfl) (by decide) rfl (fun ls hl => ?_)
                          have hz_25 : z_25.toInt = v8_13.toInt + (-1) := by rw [ez_25]; exact jb_iadd2 (rfl) (by decide) (by omega)
                          refine lv_goto (tgt := 69) hx hb dX6_numberOf_105 (by decide) ?_
                          exact L69 z_24 z_25 _ _ hh_13 (hfl_13) (by first | omega | (refine ⟨?_, ?_⟩ <;> (first | omega | rfl | assumption | decide | exact Or.inl rfl | exact Or.inr rfl | (simp only; omega)))) (by omega) _ (lv_sub hl [3, 4, 5, 6, 7, 8, 1, 0] rfl)
                        · skip
                          have c_21' : r_20.toInt < 0 := jb_ge_n (rfl) ((by decide)) c_21
                          refine lv_iconst (v := (-1)) hx hb dX6_numberOf_89 (by decide) ?_
                          rw [hQ]
                          exact W.iret (v := (-1)) hx hb hr (fun t ht hW => ⟨⟨(-1), (), rfl, by first | omega | (refine ⟨?_, ?_⟩ <;> (first | omega | rfl | assumption | decide | exact Or.inl rfl | exact Or.inr rfl | (simp only; omega))), ⟨hh_13.rt (M1 := []) [] rfl ht, by rw [ht]; exact hfl_13⟩⟩, by rw [ht]; try exact hh_13.1.1, fun q h9 hq => by rw [ht]; try exact hh_13.1.2.1 q h9 hq⟩) hh_13.1.2.2 dX6_numberOf_90
                  exact L69 ((z_12 : Int32).toInt + 1 - a2.toInt : Int).toNat.succ 1 z_12 _ _ hh_10 (hfl_10) (by first | omega | (refine ⟨?_, ?_⟩ <;> (first | omega | rfl | assumption | decide | exact Or.inl rfl | exact Or.inr rfl | (simp only; omega)))) (by omega) _ (lv_sub hl [2, 3, 4, 5, 6, 7, 1, 0] rfl)
                · skip
                  have c_11' : v5_10.toInt > a2.toInt := jb_le_n (rfl) (rfl) c_11
                  refine lv_aload_n hx hb dX6_numberOf_43 rfl (lv_at hl 1 rfl) ?_
                  refine lv_iload hx hb dX6_numberOf_44 (lv_at hl 5 rfl) ?_
                  refine lv_iconst (v := 1) hx hb dX6_numberOf_46 (by decide) ?_
                  refine lv_isub hx hb dX6_numberOf_47 ?_
                  refine lv_topi (fun z_26 ez_26 => ?_)
                  have hz_26 : z_26.toInt = v5_10.toInt - 1 := by rw [ez_26]; exact jb_isub2 (rfl) ((by decide)) (by omega)
                  refine j7_iald hx hb hK hh_10 hB101 1 rfl (by decide) hg_r1 (x := z_26.toInt) (rfl) (by omega) dX6_numberOf_48 (fun z_27 (hz_27 : True) => ?_)
                  refine lv_bipush (v := 39) hx hb dX6_numberOf_49 (by decide) ?_
                  refine lv_icmp_ne (tgt := 60) hx hb dX6_numberOf_51 (by decide) (fun c_28 => ?_) (fun c_28 => ?_)
                  · skip
                    have c_28' : z_27.toInt ≠ 39 := jb_ne (rfl) ((by decide)) c_28
                    refine lv_lconst (v := 1) hx hb dX6_numberOf_60 (by decide) ?_
                    refine lv_lstore (lv' := [(6, .long 1), (0, .ref r0), (1, .ref r1), (2, .int a2), (3, .int a3), (4, .int a4), (5, .int v5_10)]) hx hb dX6_numberOf_61 hl (by decide) rfl (fun ls hl => ?_)
                    refine lv_iload hx hb dX6_numberOf_63 (lv_at hl 6 rfl) ?_
                    refine lv_iconst (v := 1) hx hb dX6_numberOf_65 (by decide) ?_
                    refine lv_isub hx hb dX6_numberOf_66 ?_
                    refine lv_topi (fun z_29 ez_29 => ?_)
                    have hz_29 : z_29.toInt = v5_10.toInt - 1 := by rw [ez_29]; exact jb_isub2 (rfl) ((by decide)) (by omega)
                    refine lv_istore (lv' := [(8, .int z_29), (6, .long 1), (0, .ref r0), (1, .ref r1), (2, .int a2), (3, .int a3), (4, .int a4), (5, .int v5_10)]) hx hb dX6_numberOf_67 hl (by decide) rfl (fun ls hl => ?_)
                    have L69 : ∀ (N : Nat) (v6_30 : Int64) (v8_30 : Int32) (H_30 : Heap) (locs_30 : List Loc), jSt (dC, dI) B base G0 G0 EX6_numberOfB s.heap 0 0 [(r0, 8, 0, .ref xs), (r0, 8, 1, .ref xp), (r0, 8, 2, .ref xl)] [] [] H_30 locs_30 → jKl [r0, xs, xp, xl] s.heap H_30 → (a2.toInt - 1 ≤ v8_30.toInt ∧ v8_30.toInt < a3.toInt) → (v8_30.toInt + 1 - a2.toInt : Int) < N → ∀ ls : Array Slot, lv_has ls 10 [(0, .ref r0), (1, .ref r1), (2, .int a2), (3, .int a3), (4, .int a4), (5, .int v5_10), (6, .long v6_30), (8, .int v8_30)] → W p l e R s m ([.ref r0, .ref r1, .int a2, .int a3, .int a4] : List Value).toArray below meth c H_30 locs_30 0 0 Q (F0 m 69 ls []) := by
                      intro N
                      induction N with
                      | zero => intro v6_30 v8_30 H_30 locs_30 hh_30 hfl_30 hi_30 hm; exact absurd hm (by omega)
                      | succ N L69 =>
                        intro v6_30 v8_30 H_30 locs_30 hh_30 hfl_30 hi_30 hm_30 ls hl
                        obtain ⟨hi_30_0, hi_30_1⟩ := hi_30
                        refine lv_iload hx hb dX6_numberOf_69 (lv_at hl 7 rfl) ?_
                        refine lv_iload_n hx hb dX6_numberOf_71 rfl (lv_at hl 2 rfl) ?_
                        refine lv_icmp_lt (tgt := 108) hx hb dX6_numberOf_72 (by decide) (fun c_31 => ?_) (fun c_31 => ?_)
                        · skip
                          have c_31' : v8_30.toInt < a2.toInt := jb_lt (rfl) (rfl) c_31
                          refine lv_aload_n hx hb dX6_numberOf_108 rfl (lv_at hl 0 rfl) ?_
                          refine lv_lload hx hb dX6_numberOf_109 (lv_at hl 6 rfl) ?_
                          refine lv_iload_n hx hb dX6_numberOf_111 rfl (lv_at hl 3 rfl) ?_
                          refine lv_iload hx hb dX6_numberOf_112 (lv_at hl 5 rfl) ?_
                          refine lv_isub hx hb dX6_numberOf_114 ?_
                          refine lv_topi (fun z_32 ez_32 => ?_)
                          have hz_32 : z_32.toInt = a3.toInt - v5_10.toInt := by rw [ez_32]; exact jb_isub2 (rfl) (rfl) (by omega)
                          refine lv_iload hx hb dX6_numberOf_115 (lv_at hl 4 rfl) ?_
                          refine va_calli (A0 := jA base) (H0 := s.heap) (va_runV (As := [.long v6_30, .int z_32, .int a4]) (rest := []) ⟨hx, hb, hml, hown, hts⟩ (uX6_findB l dC dI ca base B hB hAp hB8 hB102 hB132 hB133 G0 H_30 r0 v6_30 z_32 a4 xs xp xl) (cwV 3 hts (jgV (jWr_7 _ (List.mem_of_getElem? (i := 22) rfl)) (jWr_7 _ (List.mem_of_getElem? (i := 23) rfl)) (jWr_8 _ (List.mem_of_getElem? (i := 0) rfl)) (jWr_4 _ (List.mem_of_getElem? (i := 10) rfl)) (jWr_8 _ (List.mem_of_getElem? (i := 1) rfl))) rfl rfl rfl (by decide +kernel) ⟨by rw [← hR]; exact Nat.le_of_ble_eq_true rfl, by rw [← hR]; exact Nat.le_of_ble_eq_true rfl⟩) ⟨fun a U g mk q => by obtain ⟨q0, q1, q2, qK, q10, q11, q12, q13, q14, q15⟩ := q; exact ⟨q0, q1, q2, jG.calling g mk a qK, q10, q11, q12, q13, q14, q15⟩, hh_30.recv (C := RX6) (T := TX6) (N := 4) hB8 rfl (by decide) hg_r0 hK, fun U hU hW => ⟨rfl, hU, hh_30.2.1, hG.step hW hU hh_30.1, hg_r0, hg_xs, hg_xp, hg_xl, (hh_30.2.2.1.sub (L1 := [(r0, 8, 0, .ref xs), (r0, 8, 1, .ref xp), (r0, 8, 2, .ref xl)]) [0, 1, 2] rfl), by first | omega | (refine ⟨?_, ?_⟩ <;> (first | omega | rfl | assumption | decide | exact Or.inl rfl | exact Or.inr rfl | (simp only; omega)))⟩⟩ rfl rfl hl.1 rfl (lv_room (Nat.le_of_ble_eq_true rfl)) dX6_numberOf_117 ⟨Nat.zero_le _, Nat.zero_le _⟩) hh_30.1 (fun q _ h => h) (fun q h => h) (fun r_34 u_33 t_33 H_33 locs_33 ht_33 hvm_33 hr_34 hb_33 hz_33 hk_33 hS_33 => ?_)
                          rw [ht_33] at hb_33
                          obtain ⟨hb_33, hbF_33⟩ := hb_33
                          obtain ⟨hb_331, hb_332, hb_333, hb_334, hb_335⟩ := hb_33
                          have hh_33 : jSt (dC, dI) B base G0 G0 EX6_numberOfB s.heap 0 0 [(r0, 8, 0, .ref xs), (r0, 8, 1, .ref xp), (r0, 8, 2, .ref xl)] [] [] H_33 locs_33 := ((hh_30.call hb_331 hb_332 hb_333 hb_334 hS_33 rfl (L1 := [(r0, 8, 0, .ref xs), (r0, 8, 1, .ref xp), (r0, 8, 2, .ref xl)]) [0, 1, 2] rfl rfl (M1 := []) [] rfl rfl (I1 := []) [] rfl rfl).more hb_335)
                          clear hh_30 ht_33 hvm_33 hz_33 hk_33 hS_33 hb_331 hb_332 hb_333 hb_334 hb_335
                          have hfl_35 := hfl_30.tr hbF_33 (by first | exact fun q h => h | (intro q h9; simp at h9 ⊢; exact h9) | (intro q h9; simp at h9))
                          obtain ⟨hr_34_0, hr_34_1⟩ := hr_34
                          rw [hQ]
                          exact W.iret (v := r_34) hx hb hr (fun t ht hW => ⟨⟨r_34, (), rfl, by first | omega | (refine ⟨?_, ?_⟩ <;> (first | omega | rfl | assumption | decide | exact Or.inl rfl | exact Or.inr rfl | (simp only; omega))), ⟨hh_33.rt (M1 := []) [] rfl ht, by rw [ht]; exact hfl_35⟩⟩, by rw [ht]; try exact hh_33.1.1, fun q h9 hq => by rw [ht]; try exact hh_33.1.2.1 q h9 hq⟩) hh_33.1.2.2 dX6_numberOf_120
                        · skip
                          have c_31' : v8_30.toInt ≥ a2.toInt := jb_lt_n (rfl) (rfl) c_31
                          refine lv_aload_n hx hb dX6_numberOf_75 rfl (lv_at hl 1 rfl) ?_
                          refine lv_iload hx hb dX6_numberOf_76 (lv_at hl 7 rfl) ?_
                          refine j7_iald hx hb hK hh_30 hB101 1 rfl (by decide) hg_r1 (x := v8_30.toInt) (rfl) (by omega) dX6_numberOf_78 (fun z_36 (hz_36 : True) => ?_)
                          refine vp_callSi (W.runS (As := [.int z_36]) (rest := []) ⟨hx, hb, hml, hown, hts⟩ (wX6_signOf l dC dI ca base H_30 z_36) (va_cwS 1 hts (jgS (jWr_7 _ (List.mem_of_getElem? (i := 19) rfl)) (jWr_7 _ (List.mem_of_getElem? (i := 20) rfl)) (jWr_4 _ (List.mem_of_getElem? (i := 10) rfl)) (jWr_7 _ (List.mem_of_getElem? (i := 21) rfl))) rfl rfl rfl (by decide +kernel) ⟨by rw [← hR]; exact Nat.le_of_ble_eq_true rfl, by rw [← hR]; exact Nat.le_of_ble_eq_true rfl⟩) ⟨fun a U g mk q => by obtain ⟨q0, q1, qK, q9⟩ := q; exact ⟨q0, q1, jG.calling g mk a qK, q9⟩, fun U hU hW => ⟨rfl, hU, hG.step hW hU hh_30.1, by first | trivial | omega | (constructor <;> omega)⟩⟩ rfl rfl hl.1 rfl (lv_room (Nat.le_of_ble_eq_true rfl)) dX6_numberOf_79 ⟨Nat.zero_le _, Nat.zero_le _⟩) (fun r_37 hr_37 => ?_)
                          refine lv_istore (lv' := [(9, .int r_37), (0, .ref r0), (1, .ref r1), (2, .int a2), (3, .int a3), (4, .int a4), (5, .int v5_10), (6, .long v6_30), (8, .int v8_30)]) hx hb dX6_numberOf_82 hl (by decide) rfl (fun ls hl => ?_)
                          refine lv_iload hx hb dX6_numberOf_84 (lv_at hl 0 rfl) ?_
                          refine lv_if_ge (tgt := 91) hx hb dX6_numberOf_86 (by decide) (fun c_38 => ?_) (fun c_38 => ?_)
                          · skip
                            have c_38' : r_37.toInt ≥ 0 := jb_ge (rfl) ((by decide)) c_38
                            refine lv_lload hx hb dX6_numberOf_91 (lv_at hl 7 rfl) ?_
                            refine lv_bipush (v := 6) hx hb dX6_numberOf_93 (by decide) ?_
                            refine lv_lshl hx hb dX6_numberOf_95 rfl ?_
                            refine lv_topl (fun z_39 ez_39 => ?_)
                            refine lv_iload hx hb dX6_numberOf_96 (lv_at hl 0 rfl) ?_
                            refine lv_i2l hx hb dX6_numberOf_98 rfl ?_
                            refine lv_topl (fun z_40 ez_40 => ?_)
                            refine lv_lor hx hb dX6_numberOf_99 ?_
                            refine lv_topl (fun z_41 ez_41 => ?_)
                            refine lv_lstore (lv' := [(6, .long z_41), (9, .int r_37), (0, .ref r0), (1, .ref r1), (2, .int a2), (3, .int a3), (4, .int a4), (5, .int v5_10), (8, .int v8_30)]) hx hb dX6_numberOf_100 hl (by decide) rfl (fun ls hl => ?_)
                            obtain ⟨z_42, ez_42⟩ : ∃ y : Int32, y = v8_30 + (-1) := ⟨_, rfl⟩
                            refine lv_iinc (v := z_42) (lv' := [(8, .int z_42), (6, .long z_41), (9, .int r_37), (0, .ref r0), (1, .ref r1), (2, .int a2), (3, .int a3), (4, .int a4), (5, .int v5_10)]) hx hb dX6_numberOf_102 hl (k := 8) rfl (by rw [ez_42]; rfl) (by decide) rfl (fun ls hl => ?_)
                            have hz_42 : z_42.toInt = v8_30.toInt + (-1) := by rw [ez_42]; exact jb_iadd2 (rfl) (by decide) (by omega)
                            refine lv_goto (tgt := 69) hx hb dX6_numberOf_105 (by decide) ?_
                            exact L69 z_41 z_42 _ _ hh_30 (hfl_30) (by first | omega | (refine ⟨?_, ?_⟩ <;> (first | omega | rfl | assumption | decide | exact Or.inl rfl | exact Or.inr rfl | (simp only; omega)))) (by omega) _ (lv_sub hl [3, 4, 5, 6, 7, 8, 1, 0] rfl)
                          · skip
                            have c_38' : r_37.toInt < 0 := jb_ge_n (rfl) ((by decide)) c_38
                            refine lv_iconst (v := (-1)) hx hb dX6_numberOf_89 (by decide) ?_
                            rw [hQ]
                            exact W.iret (v := (-1)) hx hb hr (fun t ht hW => ⟨⟨(-1), (), rfl, by first | omega | (refine ⟨?_, ?_⟩ <;> (first | omega | rfl | assumption | decide | exact Or.inl rfl | exact Or.inr rfl | (simp only; omega))), ⟨hh_30.rt (M1 := []) [] rfl ht, by rw [ht]; exact hfl_30⟩⟩, by rw [ht]; try exact hh_30.1.1, fun q h9 hq => by rw [ht]; try exact hh_30.1.2.1 q h9 hq⟩) hh_30.1.2.2 dX6_numberOf_90
                    exact L69 ((z_29 : Int32).toInt + 1 - a2.toInt : Int).toNat.succ 1 z_29 _ _ hh_10 (hfl_10) (by first | omega | (refine ⟨?_, ?_⟩ <;> (first | omega | rfl | assumption | decide | exact Or.inl rfl | exact Or.inr rfl | (simp only; omega)))) (by omega) _ (lv_sub hl [2, 3, 4, 5, 6, 7, 1, 0] rfl)
                  · skip
                    have c_28' : z_27.toInt = 39 := jb_ne_n (rfl) ((by decide)) c_28
                    obtain ⟨z_43, ez_43⟩ : ∃ y : Int32, y = v5_10 + (-1) := ⟨_, rfl⟩
                    refine lv_iinc (v := z_43) (lv' := [(5, .int z_43), (0, .ref r0), (1, .ref r1), (2, .int a2), (3, .int a3), (4, .int a4)]) hx hb dX6_numberOf_54 hl (k := 5) rfl (by rw [ez_43]; rfl) (by decide) rfl (fun ls hl => ?_)
                    have hz_43 : z_43.toInt = v5_10.toInt + (-1) := by rw [ez_43]; exact jb_iadd2 (rfl) (by decide) (by omega)
                    refine lv_goto (tgt := 37) hx hb dX6_numberOf_57 (by decide) ?_
                    exact L37 z_43 _ _ hh_10 (hfl_10) (by first | omega | (refine ⟨?_, ?_⟩ <;> (first | omega | rfl | assumption | decide | exact Or.inl rfl | exact Or.inr rfl | (simp only; omega)))) (by omega) _ (lv_sub hl [1, 2, 3, 4, 5, 0] rfl)
            exact L37 ((a3 : Int32).toInt - a2.toInt : Int).toNat.succ a3 _ _ hh (hfl) (by first | omega | (refine ⟨?_, ?_⟩ <;> (first | omega | rfl | assumption | decide | exact Or.inl rfl | exact Or.inr rfl | (simp only; omega)))) (by omega) _ (lv_sub hl [1, 2, 3, 4, 5, 0] rfl)
          · skip
            have c_9' : r_8.toInt = 0 := jb_ne_n (rfl) ((by decide)) c_9
            refine lv_iconst (v := (-1)) hx hb dX6_numberOf_32 (by decide) ?_
            rw [hQ]
            exact W.iret (v := (-1)) hx hb hr (fun t ht hW => ⟨⟨(-1), (), rfl, by first | omega | (refine ⟨?_, ?_⟩ <;> (first | omega | rfl | assumption | decide | exact Or.inl rfl | exact Or.inr rfl | (simp only; omega))), ⟨hh.rt (M1 := []) [] rfl ht, by rw [ht]; exact hfl⟩⟩, by rw [ht]; try exact hh.1.1, fun q h9 hq => by rw [ht]; try exact hh.1.2.1 q h9 hq⟩) hh.1.2.2 dX6_numberOf_33
end
