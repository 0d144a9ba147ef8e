theorem dX3_without_0 : decode cX3_without 0 = .ok (.aload_n 0, 1) := by decide +kernel
theorem dX3_without_1 : decode cX3_without 1 = .ok (.getfield 15, 3) := by decide +kernel
theorem dX3_without_4 : decode cX3_without 4 = .ok (.arraylength, 1) := by decide +kernel
theorem dX3_without_5 : decode cX3_without 5 = .ok (.iconst 1, 1) := by decide +kernel
theorem dX3_without_6 : decode cX3_without 6 = .ok (.isub, 1) := by decide +kernel
theorem dX3_without_7 : decode cX3_without 7 = .ok (.iconst 0, 1) := by decide +kernel
theorem dX3_without_8 : decode cX3_without 8 = .ok (.invokestatic 37, 3) := by decide +kernel
theorem dX3_without_11 : decode cX3_without 11 = .ok (.istore_n 2, 1) := by decide +kernel
theorem dX3_without_12 : decode cX3_without 12 = .ok (.iload_n 2, 1) := by decide +kernel
theorem dX3_without_13 : decode cX3_without 13 = .ok (.newarray .int, 2) := by decide +kernel
theorem dX3_without_15 : decode cX3_without 15 = .ok (.astore_n 3, 1) := by decide +kernel
theorem dX3_without_16 : decode cX3_without 16 = .ok (.iload_n 2, 1) := by decide +kernel
theorem dX3_without_17 : decode cX3_without 17 = .ok (.anewarray 43, 3) := by decide +kernel
theorem dX3_without_20 : decode cX3_without 20 = .ok (.astore 4, 2) := by decide +kernel
theorem dX3_without_22 : decode cX3_without 22 = .ok (.iconst 0, 1) := by decide +kernel
theorem dX3_without_23 : decode cX3_without 23 = .ok (.istore 5, 2) := by decide +kernel
theorem dX3_without_25 : decode cX3_without 25 = .ok (.iload 5, 2) := by decide +kernel
theorem dX3_without_27 : decode cX3_without 27 = .ok (.iload_n 2, 1) := by decide +kernel
theorem dX3_without_28 : decode cX3_without 28 = .ok (.if_icmp .ge 49, 3) := by decide +kernel
theorem dX3_without_31 : decode cX3_without 31 = .ok (.iload 5, 2) := by decide +kernel
theorem dX3_without_33 : decode cX3_without 33 = .ok (.iload_n 1, 1) := by decide +kernel
theorem dX3_without_34 : decode cX3_without 34 = .ok (.if_icmp .ge 8, 3) := by decide +kernel
theorem dX3_without_37 : decode cX3_without 37 = .ok (.iload 5, 2) := by decide +kernel
theorem dX3_without_39 : decode cX3_without 39 = .ok (.goto 7, 3) := by decide +kernel
theorem dX3_without_42 : decode cX3_without 42 = .ok (.iload 5, 2) := by decide +kernel
theorem dX3_without_44 : decode cX3_without 44 = .ok (.iconst 1, 1) := by decide +kernel
theorem dX3_without_45 : decode cX3_without 45 = .ok (.iadd, 1) := by decide +kernel
theorem dX3_without_46 : decode cX3_without 46 = .ok (.istore 6, 2) := by decide +kernel
theorem dX3_without_48 : decode cX3_without 48 = .ok (.aload_n 3, 1) := by decide +kernel
theorem dX3_without_49 : decode cX3_without 49 = .ok (.iload 5, 2) := by decide +kernel
theorem dX3_without_51 : decode cX3_without 51 = .ok (.aload_n 0, 1) := by decide +kernel
theorem dX3_without_52 : decode cX3_without 52 = .ok (.getfield 15, 3) := by decide +kernel
theorem dX3_without_55 : decode cX3_without 55 = .ok (.iload 6, 2) := by decide +kernel
theorem dX3_without_57 : decode cX3_without 57 = .ok (.iaload, 1) := by decide +kernel
theorem dX3_without_58 : decode cX3_without 58 = .ok (.iastore, 1) := by decide +kernel
theorem dX3_without_59 : decode cX3_without 59 = .ok (.aload 4, 2) := by decide +kernel
theorem dX3_without_61 : decode cX3_without 61 = .ok (.iload 5, 2) := by decide +kernel
theorem dX3_without_63 : decode cX3_without 63 = .ok (.aload_n 0, 1) := by decide +kernel
theorem dX3_without_64 : decode cX3_without 64 = .ok (.getfield 18, 3) := by decide +kernel
theorem dX3_without_67 : decode cX3_without 67 = .ok (.iload 6, 2) := by decide +kernel
theorem dX3_without_69 : decode cX3_without 69 = .ok (.aaload, 1) := by decide +kernel
theorem dX3_without_70 : decode cX3_without 70 = .ok (.aastore, 1) := by decide +kernel
theorem dX3_without_71 : decode cX3_without 71 = .ok (.iinc 5 1, 3) := by decide +kernel
theorem dX3_without_74 : decode cX3_without 74 = .ok (.goto (-49), 3) := by decide +kernel
theorem dX3_without_77 : decode cX3_without 77 = .ok (.new 10, 3) := by decide +kernel
theorem dX3_without_80 : decode cX3_without 80 = .ok (.dup, 1) := by decide +kernel
theorem dX3_without_81 : decode cX3_without 81 = .ok (.aload_n 0, 1) := by decide +kernel
theorem dX3_without_82 : decode cX3_without 82 = .ok (.getfield 9, 3) := by decide +kernel
theorem dX3_without_85 : decode cX3_without 85 = .ok (.aload_n 3, 1) := by decide +kernel
theorem dX3_without_86 : decode cX3_without 86 = .ok (.aload 4, 2) := by decide +kernel
theorem dX3_without_88 : decode cX3_without 88 = .ok (.aload_n 0, 1) := by decide +kernel
theorem dX3_without_89 : decode cX3_without 89 = .ok (.getfield 22, 3) := by decide +kernel
theorem dX3_without_92 : decode cX3_without 92 = .ok (.invokespecial 25, 3) := by decide +kernel
theorem dX3_without_95 : decode cX3_without 95 = .ok (.areturn, 1) := by decide +kernel
def EX3_without : List (Nat × Nat) := [(101, 0)]
set_option maxHeartbeats 4000000 in
set_option maxRecDepth 20000 in
theorem uX3_without (l : Launch) (dC : Nat → ClassId) (dI : Nat → Nat → Nat) (ca : Nat → ClassId) (base : Nat) (B : jF) (hB : jBok B) (hAp : jAp (dC, dI)) (hB5 : ∀ n G a H, B 5 n G a H ↔ jOb (dC, dI) 5 4 (F5 n G) a H) (hB101 : ∀ n G a H, B 101 n G a H ↔ jAr (dC, dI) (ca 1) (fun j z => True) n a H) (hB280 : ∀ n G a H, B 280 n G a H ↔ jAr (dC, dI) (ca 1) (fun j z => -1 ≤ z.toInt) n a H) (hB313 : ∀ n G a H, B 313 n G a H ↔ jAq (dC, dI) (ca 8) (jQk 280 80) n G a H) (G0 : jT) (H0 : Heap) (r0 : Nat) (a1 : Int32) (n0 : Nat) (LC LS : Nat) : Met l yX3_without (jw yX3_without cX3_without 7 (some (.object "ProofServer$Goal"))) ({ frames := 2, cells := LC - H0.size, slots := LS - jTot H0, locals := 55 }) (va_Pc [.ref r0, .int a1] (fun U => U.heap = H0 ∧ jX B base G0 [] H0 ∧ jG dC dI ca base U ∧ jK5 dC dI ca U ∧ G0 r0 = some (5, n0) ∧ jP (dC, dI) G0 H0 [] ∧ H0.size + 3 ≤ LC ∧ jTot H0 + 30 ≤ LS ∧ n0 % 10 = 1 ∧ 0 ≤ a1.toInt ∧ a1.toInt < n0 / 10 ∧ n0 / 10 ≤ 8)) (jQx (S := Nat × jT) (fun v u => jRf u.2 5 u.1 v ∧ jNwv v H0 ∧ u.1 = n0 - 10) (fun u t => jRa (dC, dI) B base G0 u.2 EX3_without H0 (3) (24) [] t.heap ∧ (jNk [0, 1, 2, 3, 4, 6, 7, 8, 9, 10, 11, 12, 13, 14, 15, 16]) G0 u.2) (jA base)) (LC - H0.size) (LS - jTot H0) (jA base) := by
  refine Met.ofW (cc := cX3_without) (maxL := 7) (ret := (some (.object "ProofServer$Goal"))) (by decide) rfl ?_
  intro p e s m args below meth c s₁ Bd hml hv
  obtain ⟨rfl, hH0, hX, hG, hK5, hg_r0, hP0, hLC0, hLS0, hp0, hp1, hp2, hp3⟩ := hv
  have hK := hG.1
  have hx := Bd.exec
  have hb := Bd.bytes
  have hr := Bd.returns
  have hts := atoms_spec (ws := (jw yX3_without cX3_without 7 (some (.object "ProofServer$Goal")))) Bd.pre
  have htw : ∀ w ∈ jWl, w.before _ s = true := fun w h => hts w (List.mem_cons_of_mem _ h)
  have hown : s.vm.findClass RX3 = some m.cls := findClass_of_methodNamed Bd.named
  have hlocks := Bd.notSynchronized
  obtain ⟨Q, hQ⟩ : ∃ Q, Q = MQ below (jQx (S := Nat × jT) (fun v u => jRf u.2 5 u.1 v ∧ jNwv v H0 ∧ u.1 = n0 - 10) (fun u t => jRa (dC, dI) B base G0 u.2 EX3_without H0 (3) (24) [] t.heap ∧ (jNk [0, 1, 2, 3, 4, 6, 7, 8, 9, 10, 11, 12, 13, 14, 15, 16]) G0 u.2) (jA base)) ([.ref r0, .int a1] : List Value).toArray s (LC - H0.size) (LS - jTot H0) (jA base) := ⟨_, rfl⟩
  rw [← hQ]
  have hl := lv_entry ([.ref r0, .int a1]) (n := 7) (Nat.le_of_ble_eq_true rfl)
  rw [lg_entry_eq]
  generalize (lg_sl ([.ref r0, .int a1]) ++ List.replicate (7 - (lg_sl ([.ref r0, .int a1])).length) Slot.unset).toArray = ls at hl ⊢
  have hl : lv_has ls 7 [(0, .ref r0), (1, .int a1)] := hl
  generalize hR : (headSpec (jw yX3_without cX3_without 7 (some (.object "ProofServer$Goal"))) ({ frames := 2, cells := LC - H0.size, slots := LS - jTot H0, locals := 55 })).room = R
  subst hH0
  have hh : jSt (dC, dI) B base G0 G0 EX3_without s.heap 0 0 [] [] [] s.heap [] := jSt.start hX hP0 jMc.nil jIs.nil
  clear hX hP0
  have hk0 : (0 : Int32).toInt = 0 := by decide
  have hk1 : (1 : Int32).toInt = 1 := by decide
  have hly_5_0 := htw (u_lay RX3 TX3 0) (jWc_wsX30 _ (u_in_lay (by decide)))
  have hly_5_1 := htw (u_lay RX3 TX3 1) (jWc_wsX30 _ (u_in_lay (by decide)))
  have hly_5_2 := htw (u_lay RX3 TX3 2) (jWc_wsX30 _ (u_in_lay (by decide)))
  have hly_5_3 := htw (u_lay RX3 TX3 3) (jWc_wsX30 _ (u_in_lay (by decide)))
  have hlk_15 := (htw (.fieldLink RX3 15 "ProofServer$Goal" "names" "[I") (jWr_83 _ (List.mem_of_getElem? (i := 11) rfl)))
  have hlk_18 := (htw (.fieldLink RX3 18 "ProofServer$Goal" "hypotheses" "[[I") (jWr_83 _ (List.mem_of_getElem? (i := 12) rfl)))
  have hlk_9 := (htw (.fieldLink RX3 9 "ProofServer$Goal" "variables" "[I") (jWr_83 _ (List.mem_of_getElem? (i := 10) rfl)))
  have hlk_22 := (htw (.fieldLink RX3 22 "ProofServer$Goal" "formula" "[I") (jWr_83 _ (List.mem_of_getElem? (i := 13) rfl)))
  have hrg_a1 := jb_rng a1
  have hbs : base ≤ s.heap.size := Nat.le_of_lt (Nat.lt_of_le_of_lt (hh.ab hg_r0).1 (hh.ab hg_r0).2)
  have hRc : R.cells = LC - s.heap.size := by rw [← hR]; rfl
  have hRs : R.slots = LS - jTot s.heap := by rw [← hR]; rfl
  refine lv_aload_n hx hb dX3_without_0 rfl (lv_at hl 0 rfl) ?_
  obtain ⟨v_1, hv_1, hh_2⟩ := hh.pin (C := RX3) (T := TX3) (N := 4) hB5 rfl (by decide) hg_r0 (i := 1) (by decide) rfl
  clear hh
  obtain ⟨names_3, rfl, hg_names_3⟩ := hv_1
  refine j7_read hx hb hown hK (C := RX3) (T := TX3) (N := 4) rfl hly_5_1 hlk_15 (hh_2.at 0 rfl) dX3_without_1 ?_
  refine j7_len hx hb hK hh_2 hB101 1 rfl (by decide) hg_names_3 (by omega) dX3_without_4 (fun z_4 hz_4 => ?_)
  refine lv_iconst (v := 1) hx hb dX3_without_5 (by decide) ?_
  refine lv_isub hx hb dX3_without_6 ?_
  refine lv_topi (fun z_5 ez_5 => ?_)
  have hz_5 : z_5.toInt = z_4.toInt - 1 := by rw [ez_5]; exact jb_isub2 (rfl) ((by decide)) (by omega)
  refine lv_iconst (v := 0) hx hb dX3_without_7 (by decide) ?_
  have hsz_6 := hh_2.2.2.2.2.2.1
  have htt_6 := hh_2.2.2.2.2.2.2.1
  refine W.room (fun hrc_6 hrs_6 => ?_)
  refine va_mmax hx hb (by rw [hml]; exact hl.1.symm) hown (htw (.methodLink RX3 37 Lib.Math.max.name) (jWr_88 _ (List.mem_of_getElem? (i := 2) rfl))) (htw (.static Lib.Math.max.name) (jWr_3 _ (List.mem_of_getElem? (i := 6) rfl))) (htw (.initialized "java/lang/Math") (jWr_3 _ (List.mem_of_getElem? (i := 7) rfl))) (htw (.code Lib.Math.max.name Lib.Math.max.code 2 (some .int)) (jWr_3 _ (List.mem_of_getElem? (i := 8) rfl))) (by rw [← hR]; exact Nat.le_of_ble_eq_true rfl) (by rw [← hR]; exact Nat.le_of_ble_eq_true rfl) (by rw [hRc]; omega) (by rw [hRs]; omega) dX3_without_8 ?_
  refine lv_topi (fun z_7 ez_7 => ?_)
  have hz_7 := jb_max ez_7
  refine lv_istore_n (lv' := [(2, .int z_7), (0, .ref r0), (1, .int a1)]) hx hb dX3_without_11 rfl hl (by decide) rfl (fun ls hl => ?_)
  refine lv_iload_n hx hb dX3_without_12 rfl (lv_at hl 0 rfl) ?_
  have hsz_8 := hh_2.2.2.2.2.2.1
  have htt_8 := hh_2.2.2.2.2.2.2.1
  refine j7_newiK hx hb hK hh_2 hB (atype := .int) (ty := .int) (htw (.arrayClass .int) (jWr_3 _ (List.mem_of_getElem? (i := 20) rfl))) rfl rfl (fun _ h => h) hB101 1 rfl (by decide) (by decide) hbs (x := z_7.toInt) rfl (by omega) (fun j => by first | trivial | decide | rfl | exact Or.inl rfl | (refine ⟨?_, ?_⟩ <;> decide)) (by rw [hRc]; omega) (by rw [hRs]; omega) dX3_without_13 (fun H_8 hfr_8 hh_8 => ?_)
  have hh_8 : jSt (dC, dI) B base G0 (va_up G0 s.heap.size (some (101, (z_7.toInt).toNat))) EX3_without s.heap (0 + 1) (0 + (z_7.toInt).toNat) [(r0, 5, 1, .ref names_3)] [] [] H_8 [] := hh_8
  have hN_8 : (jNk [0, 1, 2, 3, 4, 6, 7, 8, 9, 10, 11, 12, 13, 14, 15, 16]) G0 (va_up G0 s.heap.size (some (101, (z_7.toInt).toNat))) := jNk.new (by decide)
  have hgn_8 : (va_up G0 s.heap.size (some (101, (z_7.toInt).toNat))) s.heap.size = some (101, (z_7.toInt).toNat) := jUp_self
  have hle_8 : jLe G0 (va_up G0 s.heap.size (some (101, (z_7.toInt).toNat))) := jLe.new hh_2.2.1.fresh
  have hke_8 : jKe G0 (va_up G0 s.heap.size (some (101, (z_7.toInt).toNat))) s.heap H_8 := jKe.new hfr_8
  have hsy_8 : s.heap.size ≤ s.heap.size := hh_2.1.1
  generalize (va_up G0 s.heap.size (some (101, (z_7.toInt).toNat))) = G_8 at hN_8 hgn_8 hle_8 hke_8 hh_8
  generalize hnc_8 : (z_7.toInt).toNat = nc_8 at hgn_8 hh_8 ⊢
  clear hh_2
  have hNn_8 : (jNk [0, 1, 2, 3, 4, 6, 7, 8, 9, 10, 11, 12, 13, 14, 15, 16]) G0 G_8 := (jNk.rf).tr hN_8
  have hg_9 := hle_8 _ _ hg_r0
  have hg_10 := hle_8 _ _ hg_names_3
  refine lv_astore_n (lv' := [(3, .ref s.heap.size), (2, .int z_7), (0, .ref r0), (1, .int a1)]) hx hb dX3_without_15 rfl hl (by decide) rfl (fun ls hl => ?_)
  refine lv_iload_n hx hb dX3_without_16 rfl (lv_at hl 1 rfl) ?_
  have hsz_11 := hh_8.2.2.2.2.2.1
  have htt_11 := hh_8.2.2.2.2.2.2.1
  have hsy_11 : s.heap.size ≤ H_8.size := hh_8.1.1
  refine j7_newaR hx hb hown (show (Cond.classLink RX3 43 (FieldType.array .int).toString).before _ s = true from htw (.classLink RX3 43 "[I") (jWr_88 _ (List.mem_of_getElem? (i := 3) rfl))) hK5 hh_8 hB (x := z_7.toInt) rfl (by omega) (by rw [hRc]; omega) (by rw [hRs]; omega) dX3_without_17 (fun H_11 hfr_11 hnr_11 hraw_11 hh_11 => ?_)
  have hke_11 : jKe G_8 G_8 H_8 H_11 := jKe.raw hfr_11
  have hbr_11 : base ≤ H_8.size := Nat.le_trans hbs hsy_11
  obtain ⟨nq_11, hnq_11⟩ : ∃ q : Nat, q = (z_7.toInt).toNat := ⟨_, rfl⟩
  rw [← hnq_11] at hraw_11 hh_11 ⊢
  clear hh_8
  refine lv_astore (lv' := [(4, .ref H_8.size), (3, .ref s.heap.size), (2, .int z_7), (0, .ref r0), (1, .int a1)]) hx hb dX3_without_20 hl (by decide) rfl (fun ls hl => ?_)
  refine lv_iconst (v := 0) hx hb dX3_without_22 (by decide) ?_
  refine lv_istore (lv' := [(5, .int 0), (4, .ref H_8.size), (3, .ref s.heap.size), (2, .int z_7), (0, .ref r0), (1, .int a1)]) hx hb dX3_without_23 hl (by decide) rfl (fun ls hl => ?_)
  have L25 : ∀ (N : Nat) (fq_12 : Nat → Option Nat) (v5_12 : Int32) (H_12 : Heap) (locs_12 : List Loc), jSt (dC, dI) B base G0 G_8 EX3_without s.heap ((0 + 1) + 1) ((0 + nc_8) + nq_11) [(r0, 5, 1, .ref names_3)] [] [] H_12 locs_12 → va_at (dC, dI) vwCl (H_8.size, .inl (ca 8, nq_11, .inr (.inr (.inr (.inr fq_12))))) H_12 → (0 ≤ v5_12.toInt ∧ v5_12.toInt ≤ z_7.toInt ∧ jFq G_8 fq_12 v5_12.toInt) → (z_7.toInt - v5_12.toInt : Int) < N → ∀ ls : Array Slot, lv_has ls 7 [(0, .ref r0), (1, .int a1), (2, .int z_7), (3, .ref s.heap.size), (4, .ref H_8.size), (5, .int v5_12)] → W p l e R s m ([.ref r0, .int a1] : List Value).toArray below meth c H_12 locs_12 ((0 + 1) + 1) ((0 + nc_8) + nq_11) Q (F0 m 25 ls []) := by
    intro N
    induction N with
    | zero => intro fq_12 v5_12 H_12 locs_12 hh_12 hraw_12 hi_12 hm; exact absurd hm (by omega)
    | succ N L25 =>
      intro fq_12 v5_12 H_12 locs_12 hh_12 hraw_12 hi_12 hm_12 ls hl
      obtain ⟨hi_12_0, hi_12_1, hi_12_2⟩ := hi_12
      refine lv_iload hx hb dX3_without_25 (lv_at hl 5 rfl) ?_
      refine lv_iload_n hx hb dX3_without_27 rfl (lv_at hl 2 rfl) ?_
      refine lv_icmp_ge (tgt := 77) hx hb dX3_without_28 (by decide) (fun c_13 => ?_) (fun c_13 => ?_)
      · skip
        have c_13' : v5_12.toInt ≥ z_7.toInt := jb_ge (rfl) (rfl) c_13
        have hle_14 : jLe G_8 (va_up G_8 H_8.size (some (313, nq_11))) := jLe.typ hnr_11
        have hh_14 := hh_12.typ (k := 313) (n := nq_11) hB hnr_11 hbr_11 hraw_12.lt (jAq.of hB313 hraw_12 (hi_12_2.all (by omega) hle_14))
        have hgn_14 : (va_up G_8 H_8.size (some (313, nq_11))) H_8.size = some (313, nq_11) := jUp_self
        have hN_14 : (jNk [0, 1, 2, 3, 4, 6, 7, 8, 9, 10, 11, 12, 13, 14, 15, 16]) G_8 (va_up G_8 H_8.size (some (313, nq_11))) := jNk.new (by decide)
        have hNn_14 : (jNk [0, 1, 2, 3, 4, 6, 7, 8, 9, 10, 11, 12, 13, 14, 15, 16]) G0 (va_up G_8 H_8.size (some (313, nq_11))) := (hNn_8).tr hN_14
        generalize (va_up G_8 H_8.size (some (313, nq_11))) = G_14 at hN_14 hNn_14 hgn_14 hle_14 hh_14
        have hg_15 := hle_14 _ _ hg_9
        have hg_16 := hle_14 _ _ hgn_8
        have hg_17 := hle_14 _ _ hg_10
        have hsz_18 := hh_14.2.2.2.2.2.1
        have htt_18 := hh_14.2.2.2.2.2.2.1
        refine j7_newo (k := 5) (C := RX3) (T := TX3) (N := 4) (fs := [.null, .null, .null, .null]) hx hb htw jWc_wsX30 (fun k => ([(.array .int), (.array .int), (.array (.array .int)), (.array .int)] : List FieldType).getD k .int) (by decide +kernel) hown (htw (.classLink RX3 10 RX3) (jWr_85 _ (List.mem_of_getElem? (i := 4) rfl))) (htw (.instantiable RX3 4) (jWr_82 _ (List.mem_of_getElem? (i := 9) rfl))) (htw (.initialized RX3) (jWr_82 _ (List.mem_of_getElem? (i := 10) rfl))) hK rfl (fun j hj => by rcases (by omega : j = 0 ∨ j = 1 ∨ j = 2 ∨ j = 3) with rfl | rfl | rfl | rfl <;> rfl) hh_14 hB (by rw [hRc]; omega) (by rw [hRs]; omega) dX3_without_77 (fun H_18 hraw_18 hfr_18 hnr_18 hh_18 => ?_)
        have hke_18 : jKe G_14 G_14 H_12 H_18 := jKe.raw hfr_18
        have hbr_18 : base ≤ H_12.size := Nat.le_trans hbs hh_14.1.1
        have hsy_18 : s.heap.size ≤ H_12.size := hh_14.1.1
        clear hh_14
        refine lv_dup hx hb dX3_without_80 rfl ?_
        refine lv_aload_n hx hb dX3_without_81 rfl (lv_at hl 0 rfl) ?_
        obtain ⟨v_19, hv_19, hh_20⟩ := hh_18.pin (C := RX3) (T := TX3) (N := 4) hB5 rfl (by decide) hg_15 (i := 0) (by decide) rfl
        clear hh_18
        obtain ⟨variables_21, nvariables_21, rfl, hg_variables_21, hvavariables_21, hvbvariables_21, hvcvariables_21⟩ := hv_19
        refine j7_read hx hb hown hK (C := RX3) (T := TX3) (N := 4) rfl hly_5_0 hlk_9 (hh_20.at 0 rfl) dX3_without_82 ?_
        refine lv_aload_n hx hb dX3_without_85 rfl (lv_at hl 3 rfl) ?_
        refine lv_aload hx hb dX3_without_86 (lv_at hl 4 rfl) ?_
        refine lv_aload_n hx hb dX3_without_88 rfl (lv_at hl 0 rfl) ?_
        obtain ⟨v_22, hv_22, hh_23⟩ := hh_20.pin (C := RX3) (T := TX3) (N := 4) hB5 rfl (by decide) hg_15 (i := 3) (by decide) rfl
        clear hh_20
        rcases hv_22 with ⟨rfl, hcv_22⟩ | ⟨formula_24, nformula_24, rfl, hg_formula_24, hn_formula_24, hcv_22, hdv_22⟩
        · exact absurd hcv_22 (by omega)
        refine j7_read hx hb hown hK (C := RX3) (T := TX3) (N := 4) rfl hly_5_3 hlk_22 (hh_23.at 0 rfl) dX3_without_89 ?_
        have hsz_25 := hh_23.2.2.2.2.2.1
        have htt_25 := hh_23.2.2.2.2.2.2.1
        refine W.room (fun hrc_25 hrs_25 => ?_)
        refine va_callv (A0 := jA base) (H0 := s.heap) (va_runI (As := [.ref variables_21, .ref s.heap.size, .ref H_8.size, .ref formula_24]) (rest := [.ref H_12.size]) ⟨hx, hb, hml, hown, hts⟩ (uX3_init l dC dI ca base B hB hAp hB5 hB101 hB280 hB313 G_14 H_18 H_12.size variables_21 s.heap.size H_8.size formula_24 nvariables_21 nc_8 nq_11 nformula_24 (n0 - 10) LC LS) (cwI 4 hts (jgW (jWr_83 _ (List.mem_of_getElem? (i := 8) rfl))) rfl rfl rfl (htw (.initialized RX3) (jWr_82 _ (List.mem_of_getElem? (i := 10) rfl))) (htw (.methodLink RX3 25 yX3_init) (jWr_85 _ (List.mem_of_getElem? (i := 7) rfl))) (htw (.instanceMethod yX3_init) (jWr_83 _ (List.mem_of_getElem? (i := 7) rfl))) rfl (by decide +kernel) ⟨by rw [← hR]; exact Nat.le_of_ble_eq_true rfl, by rw [← hR]; exact Nat.le_of_ble_eq_true rfl⟩) ⟨fun a U g mk q => by obtain ⟨q0, q1, q2, qK, q10, q11, q12, q13, q14, q15, q16, q17, q18⟩ := q; exact ⟨q0, q1, q2, jG.calling g mk a qK, q10, q11, q12, q13, q14, q15, q16, q17, q18⟩, fun U hU hW => ⟨rfl, hU, hh_23.2.1, hG.step hW hU hh_23.1, hg_variables_21, hg_16, hgn_14, hg_formula_24, hraw_18, hnr_18, hbr_18, jP.nil, (by omega), (by omega), by first | omega | (refine ⟨?_, ?_, ?_, ?_, ?_, ?_⟩ <;> (first | omega | rfl | assumption | decide | exact Or.inl rfl | exact Or.inr rfl | (simp only; omega)))⟩⟩ rfl rfl hl.1 rfl (lv_room (Nat.le_of_ble_eq_true rfl)) dX3_without_92 ⟨by rw [hRc]; omega, by rw [hRs]; omega⟩) hh_23.1 (fun q _ h => h) (fun q h => h) (fun u_25 t_25 H_25 locs_25 ht_25 hvm_25 hr_26 hb_25 hz_25 hk_25 hS_25 => ?_)
        rw [ht_25] at hb_25
        obtain ⟨G_25, rfl⟩ : ∃ z, z = u_25 := ⟨_, rfl⟩
        try simp only at hb_25
        obtain ⟨⟨hb_251, hb_252, hb_253, hb_254, hb_255, hb_256⟩, hN_25, hgc_25, hbX_25⟩ := hb_25
        have hh_25 : jSt (dC, dI) B base G0 G_25 EX3_without s.heap ((((0 + 1) + 1) + 1) + (0)) ((((0 + nc_8) + nq_11) + 4) + (0)) [(r0, 5, 3, .ref formula_24), (r0, 5, 0, .ref variables_21), (r0, 5, 1, .ref names_3)] [] [] H_25 locs_25 := (hh_23.callG hb_251 hb_252 hb_253 hb_254 hb_255 hS_25 rfl (L1 := [(r0, 5, 3, .ref formula_24), (r0, 5, 0, .ref variables_21), (r0, 5, 1, .ref names_3)]) [0, 1, 2] rfl rfl (M1 := []) [] rfl rfl (I1 := []) [] rfl rfl).more hb_256
        have hNn_25 : (jNk [0, 1, 2, 3, 4, 6, 7, 8, 9, 10, 11, 12, 13, 14, 15, 16]) G0 G_25 := (hNn_14).tr hN_25
        have hg_27 := hb_252 _ _ hg_15
        have hg_28 := hb_252 _ _ hg_16
        have hg_29 := hb_252 _ _ hgn_14
        have hg_30 := hb_252 _ _ hg_formula_24
        have hg_31 := hb_252 _ _ hg_variables_21
        have hg_32 := hb_252 _ _ hg_17
        try simp only at hr_26
        have hsz_33 := hh_25.2.2.2.2.2.1
        have htt_33 := hh_25.2.2.2.2.2.2.1
        refine W.room (fun hrc_33 hrs_33 => ?_)
        refine W.widen (k := LC - s.heap.size) (n := LS - jTot s.heap) (by omega) (by omega) ?_
        rw [hQ]
        exact W.aret (v := .ref H_12.size) hx hb hr (Or.inl ⟨_, rfl⟩) (Or.inr ⟨_, rfl⟩) (fun t ht hW => ⟨⟨.ref H_12.size, ((n0 - 10), G_25), rfl, ⟨⟨_, rfl, hgc_25⟩, ⟨_, rfl, hsy_18⟩, by first | rfl | ((try dsimp only); first | omega | rfl | assumption | fail)⟩, ⟨hh_25.ra (by first | omega | (simp only; omega)) (by first | omega | (simp only; omega)) (M1 := []) [] rfl ht, hNn_25⟩⟩, by rw [ht]; try exact hh_25.1.1, fun q h9 hq => by rw [ht]; try exact hh_25.1.2.1 q h9 hq⟩) hh_25.1.2.2 dX3_without_95
      · skip
        have c_13' : v5_12.toInt < z_7.toInt := jb_ge_n (rfl) (rfl) c_13
        refine lv_iload hx hb dX3_without_31 (lv_at hl 5 rfl) ?_
        refine lv_iload_n hx hb dX3_without_33 rfl (lv_at hl 1 rfl) ?_
        refine lv_icmp_ge (tgt := 42) hx hb dX3_without_34 (by decide) (fun c_34 => ?_) (fun c_34 => ?_)
        · skip
          have c_34' : v5_12.toInt ≥ a1.toInt := jb_ge (rfl) (rfl) c_34
          refine lv_iload hx hb dX3_without_42 (lv_at hl 5 rfl) ?_
          refine lv_iconst (v := 1) hx hb dX3_without_44 (by decide) ?_
          refine lv_iadd hx hb dX3_without_45 ?_
          refine lv_topi (fun z_35 ez_35 => ?_)
          have hz_35 : z_35.toInt = v5_12.toInt + 1 := by rw [ez_35]; exact jb_iadd2 (rfl) ((by decide)) (by omega)
          refine lv_istore (lv' := [(6, .int z_35), (0, .ref r0), (1, .int a1), (2, .int z_7), (3, .ref s.heap.size), (4, .ref H_8.size), (5, .int v5_12)]) hx hb dX3_without_46 hl (by decide) rfl (fun ls hl => ?_)
          refine lv_aload_n hx hb dX3_without_48 rfl (lv_at hl 4 rfl) ?_
          refine lv_iload hx hb dX3_without_49 (lv_at hl 6 rfl) ?_
          refine lv_aload_n hx hb dX3_without_51 rfl (lv_at hl 1 rfl) ?_
          refine j7_read hx hb hown hK (C := RX3) (T := TX3) (N := 4) rfl hly_5_1 hlk_15 (hh_12.at 0 rfl) dX3_without_52 ?_
          refine lv_iload hx hb dX3_without_55 (lv_at hl 0 rfl) ?_
          refine j7_iald hx hb hK hh_12 hB101 1 rfl (by decide) hg_10 (x := z_35.toInt) (rfl) (by omega) dX3_without_57 (fun z_36 (hz_36 : True) => ?_)
          refine j7_iastF hx hb hK hh_12 hB hB101 1 rfl (by decide) (by decide) rfl rfl rfl hgn_8 (x := v5_12.toInt) (rfl) (by omega) (trivial) dX3_without_58 (fun H_37 locs_37 hr_37 hh_37 => ?_)
          have hraw_38 := hraw_12.kept (hr_37 (H_8.size) (fun (e9 : H_8.size = s.heap.size) => hnr_11 _ ((congrArg G_8 e9).trans hgn_8)))
          clear hr_37
          clear hh_12
          refine lv_aload hx hb dX3_without_59 (lv_at hl 5 rfl) ?_
          refine lv_iload hx hb dX3_without_61 (lv_at hl 6 rfl) ?_
          refine lv_aload_n hx hb dX3_without_63 rfl (lv_at hl 1 rfl) ?_
          obtain ⟨v_39, hv_39, hh_40⟩ := hh_37.pin (C := RX3) (T := TX3) (N := 4) hB5 rfl (by decide) hg_9 (i := 2) (by decide) rfl
          clear hh_37
          obtain ⟨hypotheses_41, khypotheses_41, rfl, hg_hypotheses_41, hhahypotheses_41, hhbhypotheses_41, hhchypotheses_41, hhdhypotheses_41, hhehypotheses_41⟩ := hv_39
          obtain rfl : khypotheses_41 = 313 := hhbhypotheses_41 (by omega)
          refine j7_read hx hb hown hK (C := RX3) (T := TX3) (N := 4) rfl hly_5_2 hlk_18 (hh_40.at 0 rfl) dX3_without_64 ?_
          refine lv_iload hx hb dX3_without_67 (lv_at hl 0 rfl) ?_
          refine j7_qaldA hx hb hK5 hh_40 hB313 (by decide) hg_hypotheses_41 (x := z_35.toInt) (rfl) (by omega) dX3_without_69 (fun o_42 ho_42 => ?_)
          obtain ⟨el_43, nel_43, rfl, hg_el_43, hn_el_43⟩ := ho_42
          simp only [va_rf]
          refine j7_qastA hx hb hK5 hh_40 hB hraw_38 hnr_11 hbr_11 (x := v5_12.toInt) (rfl) (by omega) hB280 (by decide) hg_el_43 dX3_without_70 (fun H_44 locs_44 hraw_44 hr_44 hh_44 => ?_)
          clear hr_44
          clear hh_40
          obtain ⟨z_45, ez_45⟩ : ∃ y : Int32, y = v5_12 + 1 := ⟨_, rfl⟩
          refine lv_iinc (v := z_45) (lv' := [(5, .int z_45), (6, .int z_35), (0, .ref r0), (1, .int a1), (2, .int z_7), (3, .ref s.heap.size), (4, .ref H_8.size)]) hx hb dX3_without_71 hl (k := 6) rfl (by rw [ez_45]; rfl) (by decide) rfl (fun ls hl => ?_)
          have hz_45 : z_45.toInt = v5_12.toInt + 1 := by rw [ez_45]; exact jb_iadd2 (rfl) (by decide) (by omega)
          refine lv_goto (tgt := 25) hx hb dX3_without_74 (by decide) ?_
          refine W.tight (c2 := ((0 + 1) + 1)) (n2 := ((0 + nc_8) + nq_11)) hh_44.2.2.2.2.2.1 hh_44.2.2.2.2.2.2.1 ?_
          exact L25 (va_up fq_12 (v5_12.toInt).toNat (some el_43)) z_45 _ _ (hh_44.sub (L1 := [(r0, 5, 1, .ref names_3)]) [1] rfl (M1 := []) [] rfl (I1 := []) [] rfl) (hraw_44) (by refine ⟨by omega, by omega, ?_⟩; exact hi_12_2.put rfl (by omega) (by omega) (by assumption) (by assumption)) (by omega) _ (lv_sub hl [2, 3, 4, 5, 6, 0] rfl)
        · skip
          have c_34' : v5_12.toInt < a1.toInt := jb_ge_n (rfl) (rfl) c_34
          refine lv_iload hx hb dX3_without_37 (lv_at hl 5 rfl) ?_
          refine lv_goto (tgt := 46) hx hb dX3_without_39 (by decide) ?_
          refine lv_istore (lv' := [(6, .int v5_12), (0, .ref r0), (1, .int a1), (2, .int z_7), (3, .ref s.heap.size), (4, .ref H_8.size), (5, .int v5_12)]) hx hb dX3_without_46 hl (by decide) rfl (fun ls hl => ?_)
          refine lv_aload_n hx hb dX3_without_48 rfl (lv_at hl 4 rfl) ?_
          refine lv_iload hx hb dX3_without_49 (lv_at hl 6 rfl) ?_
          refine lv_aload_n hx hb dX3_without_51 rfl (lv_at hl 1 rfl) ?_
          refine j7_read hx hb hown hK (C := RX3) (T := TX3) (N := 4) rfl hly_5_1 hlk_15 (hh_12.at 0 rfl) dX3_without_52 ?_
          refine lv_iload hx hb dX3_without_55 (lv_at hl 0 rfl) ?_
          refine j7_iald hx hb hK hh_12 hB101 1 rfl (by decide) hg_10 (x := v5_12.toInt) (rfl) (by omega) dX3_without_57 (fun z_46 (hz_46 : True) => ?_)
          refine j7_iastF hx hb hK hh_12 hB hB101 1 rfl (by decide) (by decide) rfl rfl rfl hgn_8 (x := v5_12.toInt) (rfl) (by omega) (trivial) dX3_without_58 (fun H_47 locs_47 hr_47 hh_47 => ?_)
          have hraw_48 := hraw_12.kept (hr_47 (H_8.size) (fun (e9 : H_8.size = s.heap.size) => hnr_11 _ ((congrArg G_8 e9).trans hgn_8)))
          clear hr_47
          clear hh_12
          refine lv_aload hx hb dX3_without_59 (lv_at hl 5 rfl) ?_
          refine lv_iload hx hb dX3_without_61 (lv_at hl 6 rfl) ?_
          refine lv_aload_n hx hb dX3_without_63 rfl (lv_at hl 1 rfl) ?_
          obtain ⟨v_49, hv_49, hh_50⟩ := hh_47.pin (C := RX3) (T := TX3) (N := 4) hB5 rfl (by decide) hg_9 (i := 2) (by decide) rfl
          clear hh_47
          obtain ⟨hypotheses_51, khypotheses_51, rfl, hg_hypotheses_51, hhahypotheses_51, hhbhypotheses_51, hhchypotheses_51, hhdhypotheses_51, hhehypotheses_51⟩ := hv_49
          obtain rfl : khypotheses_51 = 313 := hhbhypotheses_51 (by omega)
          refine j7_read hx hb hown hK (C := RX3) (T := TX3) (N := 4) rfl hly_5_2 hlk_18 (hh_50.at 0 rfl) dX3_without_64 ?_
          refine lv_iload hx hb dX3_without_67 (lv_at hl 0 rfl) ?_
          refine j7_qaldA hx hb hK5 hh_50 hB313 (by decide) hg_hypotheses_51 (x := v5_12.toInt) (rfl) (by omega) dX3_without_69 (fun o_52 ho_52 => ?_)
          obtain ⟨el_53, nel_53, rfl, hg_el_53, hn_el_53⟩ := ho_52
          simp only [va_rf]
          refine j7_qastA hx hb hK5 hh_50 hB hraw_48 hnr_11 hbr_11 (x := v5_12.toInt) (rfl) (by omega) hB280 (by decide) hg_el_53 dX3_without_70 (fun H_54 locs_54 hraw_54 hr_54 hh_54 => ?_)
          clear hr_54
          clear hh_50
          obtain ⟨z_55, ez_55⟩ : ∃ y : Int32, y = v5_12 + 1 := ⟨_, rfl⟩
          refine lv_iinc (v := z_55) (lv' := [(5, .int z_55), (6, .int v5_12), (0, .ref r0), (1, .int a1), (2, .int z_7), (3, .ref s.heap.size), (4, .ref H_8.size)]) hx hb dX3_without_71 hl (k := 6) rfl (by rw [ez_55]; rfl) (by decide) rfl (fun ls hl => ?_)
          have hz_55 : z_55.toInt = v5_12.toInt + 1 := by rw [ez_55]; exact jb_iadd2 (rfl) (by decide) (by omega)
          refine lv_goto (tgt := 25) hx hb dX3_without_74 (by decide) ?_
          refine W.tight (c2 := ((0 + 1) + 1)) (n2 := ((0 + nc_8) + nq_11)) hh_54.2.2.2.2.2.1 hh_54.2.2.2.2.2.2.1 ?_
          exact L25 (va_up fq_12 (v5_12.toInt).toNat (some el_53)) z_55 _ _ (hh_54.sub (L1 := [(r0, 5, 1, .ref names_3)]) [1] rfl (M1 := []) [] rfl (I1 := []) [] rfl) (hraw_54) (by refine ⟨by omega, by omega, ?_⟩; exact hi_12_2.put rfl (by omega) (by omega) (by assumption) (by assumption)) (by omega) _ (lv_sub hl [2, 3, 4, 5, 6, 0] rfl)
  refine W.tight (c2 := ((0 + 1) + 1)) (n2 := ((0 + nc_8) + nq_11)) hh_11.2.2.2.2.2.1 hh_11.2.2.2.2.2.2.1 ?_
  exact L25 (z_7.toInt - (0 : Int32).toInt : Int).toNat.succ (fun _ => none) 0 _ _ hh_11 (hraw_11) (by refine ⟨by omega, by omega, jFq.zero (by omega)⟩) (by omega) _ (lv_sub hl [4, 5, 3, 2, 1, 0] rfl)
