theorem dX14_isNamed_0 : decode cX14_isNamed 0 = .ok (.aload_n 0, 1) := by decide +kernel
theorem dX14_isNamed_1 : decode cX14_isNamed 1 = .ok (.getfield 122, 3) := by decide +kernel
theorem dX14_isNamed_4 : decode cX14_isNamed 4 = .ok (.getfield 686, 3) := by decide +kernel
theorem dX14_isNamed_7 : decode cX14_isNamed 7 = .ok (.iload_n 1, 1) := by decide +kernel
theorem dX14_isNamed_8 : decode cX14_isNamed 8 = .ok (.iaload, 1) := by decide +kernel
theorem dX14_isNamed_9 : decode cX14_isNamed 9 = .ok (.iload 4, 2) := by decide +kernel
theorem dX14_isNamed_11 : decode cX14_isNamed 11 = .ok (.if_icmp .ne 7, 3) := by decide +kernel
theorem dX14_isNamed_14 : decode cX14_isNamed 14 = .ok (.iconst 1, 1) := by decide +kernel
theorem dX14_isNamed_15 : decode cX14_isNamed 15 = .ok (.goto 4, 3) := by decide +kernel
theorem dX14_isNamed_18 : decode cX14_isNamed 18 = .ok (.iconst 0, 1) := by decide +kernel
theorem dX14_isNamed_19 : decode cX14_isNamed 19 = .ok (.istore 5, 2) := by decide +kernel
theorem dX14_isNamed_21 : decode cX14_isNamed 21 = .ok (.iconst 0, 1) := by decide +kernel
theorem dX14_isNamed_22 : decode cX14_isNamed 22 = .ok (.istore 6, 2) := by decide +kernel
theorem dX14_isNamed_24 : decode cX14_isNamed 24 = .ok (.iload 6, 2) := by decide +kernel
theorem dX14_isNamed_26 : decode cX14_isNamed 26 = .ok (.iload 4, 2) := by decide +kernel
theorem dX14_isNamed_28 : decode cX14_isNamed 28 = .ok (.if_icmp .ge 50, 3) := by decide +kernel
theorem dX14_isNamed_31 : decode cX14_isNamed 31 = .ok (.iload 5, 2) := by decide +kernel
theorem dX14_isNamed_33 : decode cX14_isNamed 33 = .ok (.ifCond .eq 45, 3) := by decide +kernel
theorem dX14_isNamed_36 : decode cX14_isNamed 36 = .ok (.aload_n 0, 1) := by decide +kernel
theorem dX14_isNamed_37 : decode cX14_isNamed 37 = .ok (.getfield 122, 3) := by decide +kernel
theorem dX14_isNamed_40 : decode cX14_isNamed 40 = .ok (.getfield 689, 3) := by decide +kernel
theorem dX14_isNamed_43 : decode cX14_isNamed 43 = .ok (.aload_n 0, 1) := by decide +kernel
theorem dX14_isNamed_44 : decode cX14_isNamed 44 = .ok (.getfield 122, 3) := by decide +kernel
theorem dX14_isNamed_47 : decode cX14_isNamed 47 = .ok (.getfield 692, 3) := by decide +kernel
theorem dX14_isNamed_50 : decode cX14_isNamed 50 = .ok (.iload_n 1, 1) := by decide +kernel
theorem dX14_isNamed_51 : decode cX14_isNamed 51 = .ok (.iaload, 1) := by decide +kernel
theorem dX14_isNamed_52 : decode cX14_isNamed 52 = .ok (.iload 6, 2) := by decide +kernel
theorem dX14_isNamed_54 : decode cX14_isNamed 54 = .ok (.iadd, 1) := by decide +kernel
theorem dX14_isNamed_55 : decode cX14_isNamed 55 = .ok (.iaload, 1) := by decide +kernel
theorem dX14_isNamed_56 : decode cX14_isNamed 56 = .ok (.aload_n 2, 1) := by decide +kernel
theorem dX14_isNamed_57 : decode cX14_isNamed 57 = .ok (.iload_n 3, 1) := by decide +kernel
theorem dX14_isNamed_58 : decode cX14_isNamed 58 = .ok (.iload 6, 2) := by decide +kernel
theorem dX14_isNamed_60 : decode cX14_isNamed 60 = .ok (.iadd, 1) := by decide +kernel
theorem dX14_isNamed_61 : decode cX14_isNamed 61 = .ok (.iaload, 1) := by decide +kernel
theorem dX14_isNamed_62 : decode cX14_isNamed 62 = .ok (.if_icmp .ne 7, 3) := by decide +kernel
theorem dX14_isNamed_65 : decode cX14_isNamed 65 = .ok (.iconst 1, 1) := by decide +kernel
theorem dX14_isNamed_66 : decode cX14_isNamed 66 = .ok (.goto 4, 3) := by decide +kernel
theorem dX14_isNamed_69 : decode cX14_isNamed 69 = .ok (.iconst 0, 1) := by decide +kernel
theorem dX14_isNamed_70 : decode cX14_isNamed 70 = .ok (.istore 5, 2) := by decide +kernel
theorem dX14_isNamed_72 : decode cX14_isNamed 72 = .ok (.iinc 6 1, 3) := by decide +kernel
theorem dX14_isNamed_75 : decode cX14_isNamed 75 = .ok (.goto (-51), 3) := by decide +kernel
theorem dX14_isNamed_78 : decode cX14_isNamed 78 = .ok (.iload 5, 2) := by decide +kernel
theorem dX14_isNamed_80 : decode cX14_isNamed 80 = .ok (.ireturn, 1) := by decide +kernel
def EX14_isNamed : List (Nat × Nat) := []
set_option maxHeartbeats 4000000 in
set_option maxRecDepth 20000 in
theorem uX14_isNamed (l : Launch) (dC : Nat → ClassId) (dI : Nat → Nat → Nat) (ca : Nat → ClassId) (base : Nat) (B : jF) (hB : jBok B) (hAp : jAp (dC, dI)) (hB15 : ∀ n G a H, B 15 n G a H ↔ jOb (dC, dI) 15 50 (F15 n G) a H) (hB16 : ∀ n G a H, B 16 n G a H ↔ jOb (dC, dI) 16 74 (F16 n G) a H) (hB101 : ∀ n G a H, B 101 n G a H ↔ jAr (dC, dI) (ca 1) (fun j z => True) n a H) (hB155 : ∀ n G a H, B 155 n G a H ↔ jAr (dC, dI) (ca 1) (fun j z => 0 ≤ z.toInt ∧ z.toInt ≤ 11990) n a H) (hB156 : ∀ n G a H, B 156 n G a H ↔ jAr (dC, dI) (ca 1) (fun j z => 0 ≤ z.toInt ∧ z.toInt ≤ 10) n a H) (hB166 : ∀ n G a H, B 166 n G a H ↔ jAr (dC, dI) (ca 1) (fun j z => True) n a H) (G0 : jT) (H0 : Heap) (r0 : Nat) (a1 : Int32) (r2 : Nat) (a3 : Int32) (a4 : Int32) (n2 : Nat) : Met l yX14_isNamed (jw yX14_isNamed cX14_isNamed 7 (some .boolean)) ({ frames := 0, cells := 0, slots := 0, locals := 0 }) (va_Pc [.ref r0, .int a1, .ref r2, .int a3, .int a4] (fun U => U.heap = H0 ∧ jX B base G0 [] H0 ∧ jG dC dI ca base U ∧ G0 r2 = some (101, n2) ∧ G0 r0 = some (16, 0) ∧ jP (dC, dI) G0 H0 [] ∧ 0 ≤ a1.toInt ∧ a1.toInt ≤ 1599 ∧ 0 ≤ a3.toInt ∧ a3.toInt + a4.toInt ≤ n2 ∧ n2 ≤ 200000)) (va_Qi (S := Unit) (fun r u => (r = 0 ∨ r = 1) ∧ (True)) (fun u t => jRt (dC, dI) B base G0 EX14_isNamed H0 [] t.heap) (jA base)) 0 0 (jA base) := by
  refine Met.ofW (cc := cX14_isNamed) (maxL := 7) (ret := (some .boolean)) (by decide) rfl ?_
  intro p e s m args below meth c s₁ Bd hml hv
  obtain ⟨rfl, hH0, hX, hG, hg_r2, hg_r0, hP0, hp0, hp1, hp2, hp3, hp4⟩ := hv
  have hK := hG.1
  have hx := Bd.exec
  have hb := Bd.bytes
  have hr := Bd.returns
  have hts := atoms_spec (ws := (jw yX14_isNamed cX14_isNamed 7 (some .boolean))) Bd.pre
  have htw : ∀ w ∈ jWl, w.before _ s = true := fun w h => hts w (List.mem_cons_of_mem _ h)
  have hown : s.vm.findClass RX14 = some m.cls := findClass_of_methodNamed Bd.named
  have hlocks := Bd.notSynchronized
  obtain ⟨Q, hQ⟩ : ∃ Q, Q = MQ below (va_Qi (S := Unit) (fun r u => (r = 0 ∨ r = 1) ∧ (True)) (fun u t => jRt (dC, dI) B base G0 EX14_isNamed H0 [] t.heap) (jA base)) ([.ref r0, .int a1, .ref r2, .int a3, .int a4] : List Value).toArray s 0 0 (jA base) := ⟨_, rfl⟩
  rw [← hQ]
  have hl := lv_entry ([.ref r0, .int a1, .ref r2, .int a3, .int a4]) (n := 7) (Nat.le_of_ble_eq_true rfl)
  rw [lg_entry_eq]
  generalize (lg_sl ([.ref r0, .int a1, .ref r2, .int a3, .int a4]) ++ List.replicate (7 - (lg_sl ([.ref r0, .int a1, .ref r2, .int a3, .int a4])).length) Slot.unset).toArray = ls at hl ⊢
  have hl : lv_has ls 7 [(0, .ref r0), (1, .int a1), (2, .ref r2), (3, .int a3), (4, .int a4)] := hl
  generalize hR : (headSpec (jw yX14_isNamed cX14_isNamed 7 (some .boolean)) ({ frames := 0, cells := 0, slots := 0, locals := 0 })).room = R
  subst hH0
  have hh : jSt (dC, dI) B base G0 G0 EX14_isNamed s.heap 0 0 [] [] [] s.heap [] := jSt.start hX hP0 jMc.nil jIs.nil
  clear hX hP0
  have hk0 : (0 : Int32).toInt = 0 := by decide
  have hk1 : (1 : Int32).toInt = 1 := by decide
  have hly_15_6 := htw (u_lay RX13 TX13 6) (jWc_wsX130 _ (u_in_lay (by decide)))
  have hly_15_8 := htw (u_lay RX13 TX13 8) (jWc_wsX130 _ (u_in_lay (by decide)))
  have hly_15_9 := htw (u_lay RX13 TX13 9) (jWc_wsX130 _ (u_in_lay (by decide)))
  have hly_16_58 := htw (u_lay RX14 TX14 58) (jWc_wsX140 _ (u_in_lay (by decide)))
  have hlk_122 := (htw (.fieldLink RX14 122 "ProofServerModel" "kernel" "LProofServerModel$Kernel;") (jWr_12 _ (List.mem_of_getElem? (i := 13) rfl)))
  have hlk_686 := (va_Nw.use (A := ([.ref r0, .int a1, .ref r2, .int a3, .int a4] : List Value).toArray) rfl (hG.2.1 RX14 686 "ProofServerModel$Kernel" "nameLength" "[I" "ProofServerModel" (List.mem_of_getElem? (i := 1792) (by decide +kernel))))
  have hlk_689 := (va_Nw.use (A := ([.ref r0, .int a1, .ref r2, .int a3, .int a4] : List Value).toArray) rfl (hG.2.1 RX14 689 "ProofServerModel$Kernel" "signs" "[I" "ProofServerModel" (List.mem_of_getElem? (i := 1787) (by decide +kernel))))
  have hlk_692 := (va_Nw.use (A := ([.ref r0, .int a1, .ref r2, .int a3, .int a4] : List Value).toArray) rfl (hG.2.1 RX14 692 "ProofServerModel$Kernel" "nameAt" "[I" "ProofServerModel" (List.mem_of_getElem? (i := 1790) (by decide +kernel))))
  have hrg_a1 := jb_rng a1
  have hrg_a3 := jb_rng a3
  have hrg_a4 := jb_rng a4
  refine lv_aload_n hx hb dX14_isNamed_0 rfl (lv_at hl 0 rfl) ?_
  obtain ⟨v_1, hv_1, hh_2⟩ := hh.pin (C := RX14) (T := TX14) (N := 74) hB16 rfl (by decide) hg_r0 (i := 58) (by decide) rfl
  clear hh
  obtain ⟨kernel_3, rfl, hg_kernel_3⟩ := hv_1
  refine j7_read hx hb hown hK (C := RX14) (T := TX14) (N := 74) rfl hly_16_58 hlk_122 (hh_2.at 0 rfl) dX14_isNamed_1 ?_
  obtain ⟨v_4, hv_4, hh_5⟩ := hh_2.pin (C := RX13) (T := TX13) (N := 50) hB15 rfl (by decide) hg_kernel_3 (i := 9) (by decide) rfl
  clear hh_2
  obtain ⟨nameLength_6, rfl, hg_nameLength_6⟩ := hv_4
  refine j7_readN hx hb hown hK (C := RX13) (T := TX13) (N := 50) rfl hly_15_9 hlk_686 (hh_5.at 0 rfl) dX14_isNamed_4 ?_
  refine lv_iload_n hx hb dX14_isNamed_7 rfl (lv_at hl 1 rfl) ?_
  refine j7_iald hx hb hK hh_5 hB156 1 rfl (by decide) hg_nameLength_6 (x := a1.toInt) (rfl) (by omega) dX14_isNamed_8 (fun z_7 (hz_7 : 0 ≤ z_7.toInt ∧ z_7.toInt ≤ 10) => ?_)
  refine lv_iload hx hb dX14_isNamed_9 (lv_at hl 4 rfl) ?_
  have C19 : ∀ (w0_8 : Int32) (H_8 : Heap) (locs_8 : List Loc), jSt (dC, dI) B base G0 G0 EX14_isNamed s.heap 0 0 [(kernel_3, 15, 9, .ref nameLength_6), (r0, 16, 58, .ref kernel_3)] [] [] H_8 locs_8 → (w0_8 = 0 ∨ w0_8 = 1) → (w0_8.toInt = 0 ∨ a4.toInt ≤ 10) → ∀ ls : Array Slot, lv_has ls 7 [(0, .ref r0), (1, .int a1), (2, .ref r2), (3, .int a3), (4, .int a4)] → W p l e R s m ([.ref r0, .int a1, .ref r2, .int a3, .int a4] : List Value).toArray below meth c H_8 locs_8 0 0 Q (F0 m 19 ls [.int w0_8]) := by
    intro w0_8 H_8 locs_8 hh_8 hb_w0_8 hi_8 ls hl
    have hb_w0_8' := jb_01 hb_w0_8
    refine lv_istore (lv' := [(5, .int w0_8), (0, .ref r0), (1, .int a1), (2, .ref r2), (3, .int a3), (4, .int a4)]) hx hb dX14_isNamed_19 hl (by decide) rfl (fun ls hl => ?_)
    refine lv_iconst (v := 0) hx hb dX14_isNamed_21 (by decide) ?_
    refine lv_istore (lv' := [(6, .int 0), (5, .int w0_8), (0, .ref r0), (1, .int a1), (2, .ref r2), (3, .int a3), (4, .int a4)]) hx hb dX14_isNamed_22 hl (by decide) rfl (fun ls hl => ?_)
    have L24 : ∀ (N : Nat) (v5_9 : Int32) (v6_9 : Int32) (H_9 : Heap) (locs_9 : List Loc), jSt (dC, dI) B base G0 G0 EX14_isNamed s.heap 0 0 [(kernel_3, 15, 9, .ref nameLength_6), (r0, 16, 58, .ref kernel_3)] [] [] H_9 locs_9 → (v5_9 = 0 ∨ v5_9 = 1) → (0 ≤ v6_9.toInt ∧ v6_9.toInt ≤ 200000 ∧ (v5_9.toInt = 0 ∨ a4.toInt ≤ 10)) → (((a4.toInt - v6_9.toInt).toNat : Int) : Int) < N → ∀ ls : Array Slot, lv_has ls 7 [(0, .ref r0), (1, .int a1), (2, .ref r2), (3, .int a3), (4, .int a4), (5, .int v5_9), (6, .int v6_9)] → W p l e R s m ([.ref r0, .int a1, .ref r2, .int a3, .int a4] : List Value).toArray below meth c H_9 locs_9 0 0 Q (F0 m 24 ls []) := by
      intro N
      induction N with
      | zero => intro v5_9 v6_9 H_9 locs_9 hh_9 hb_v5_9 hi_9 hm; exact absurd hm (by omega)
      | succ N L24 =>
        intro v5_9 v6_9 H_9 locs_9 hh_9 hb_v5_9 hi_9 hm_9 ls hl
        obtain ⟨hi_9_0, hi_9_1, hi_9_2⟩ := hi_9
        have hb_v5_9' := jb_01 hb_v5_9
        refine lv_iload hx hb dX14_isNamed_24 (lv_at hl 6 rfl) ?_
        refine lv_iload hx hb dX14_isNamed_26 (lv_at hl 4 rfl) ?_
        refine lv_icmp_ge (tgt := 78) hx hb dX14_isNamed_28 (by decide) (fun c_10 => ?_) (fun c_10 => ?_)
        · skip
          have c_10' : v6_9.toInt ≥ a4.toInt := jb_ge (rfl) (rfl) c_10
          refine lv_iload hx hb dX14_isNamed_78 (lv_at hl 5 rfl) ?_
          rw [hQ]
          exact W.zret (v := v5_9) hx hb hr (jb_nz (hb_v5_9)) (fun t ht hW => ⟨⟨v5_9, (), rfl, ⟨(hb_v5_9), trivial⟩, hh_9.rt (M1 := []) [] rfl ht⟩, by rw [ht]; try exact hh_9.1.1, fun q h9 hq => by rw [ht]; try exact hh_9.1.2.1 q h9 hq⟩) hh_9.1.2.2 dX14_isNamed_80
        · skip
          have c_10' : v6_9.toInt < a4.toInt := jb_ge_n (rfl) (rfl) c_10
          refine lv_iload hx hb dX14_isNamed_31 (lv_at hl 5 rfl) ?_
          refine lv_if_eq (tgt := 78) hx hb dX14_isNamed_33 (by decide) (fun c_11 => ?_) (fun c_11 => ?_)
          · skip
            have c_11' : v5_9.toInt = 0 := jb_eq (rfl) ((by decide)) c_11
            refine lv_iload hx hb dX14_isNamed_78 (lv_at hl 5 rfl) ?_
            rw [hQ]
            exact W.zret (v := v5_9) hx hb hr (jb_nz (hb_v5_9)) (fun t ht hW => ⟨⟨v5_9, (), rfl, ⟨(hb_v5_9), trivial⟩, hh_9.rt (M1 := []) [] rfl ht⟩, by rw [ht]; try exact hh_9.1.1, fun q h9 hq => by rw [ht]; try exact hh_9.1.2.1 q h9 hq⟩) hh_9.1.2.2 dX14_isNamed_80
          · skip
            have c_11' : v5_9.toInt ≠ 0 := jb_eq_n (rfl) ((by decide)) c_11
            refine lv_aload_n hx hb dX14_isNamed_36 rfl (lv_at hl 0 rfl) ?_
            refine j7_read hx hb hown hK (C := RX14) (T := TX14) (N := 74) rfl hly_16_58 hlk_122 (hh_9.at 1 rfl) dX14_isNamed_37 ?_
            obtain ⟨v_12, hv_12, hh_13⟩ := hh_9.pin (C := RX13) (T := TX13) (N := 50) hB15 rfl (by decide) hg_kernel_3 (i := 6) (by decide) rfl
            clear hh_9
            obtain ⟨signs_14, rfl, hg_signs_14⟩ := hv_12
            refine j7_readN hx hb hown hK (C := RX13) (T := TX13) (N := 50) rfl hly_15_6 hlk_689 (hh_13.at 0 rfl) dX14_isNamed_40 ?_
            refine lv_aload_n hx hb dX14_isNamed_43 rfl (lv_at hl 0 rfl) ?_
            refine j7_read hx hb hown hK (C := RX14) (T := TX14) (N := 74) rfl hly_16_58 hlk_122 (hh_13.at 2 rfl) dX14_isNamed_44 ?_
            obtain ⟨v_15, hv_15, hh_16⟩ := hh_13.pin (C := RX13) (T := TX13) (N := 50) hB15 rfl (by decide) hg_kernel_3 (i := 8) (by decide) rfl
            clear hh_13
            obtain ⟨nameAt_17, rfl, hg_nameAt_17⟩ := hv_15
            refine j7_readN hx hb hown hK (C := RX13) (T := TX13) (N := 50) rfl hly_15_8 hlk_692 (hh_16.at 0 rfl) dX14_isNamed_47 ?_
            refine lv_iload_n hx hb dX14_isNamed_50 rfl (lv_at hl 1 rfl) ?_
            refine j7_iald hx hb hK hh_16 hB155 1 rfl (by decide) hg_nameAt_17 (x := a1.toInt) (rfl) (by omega) dX14_isNamed_51 (fun z_18 (hz_18 : 0 ≤ z_18.toInt ∧ z_18.toInt ≤ 11990) => ?_)
            refine lv_iload hx hb dX14_isNamed_52 (lv_at hl 6 rfl) ?_
            refine lv_iadd hx hb dX14_isNamed_54 ?_
            refine lv_topi (fun z_19 ez_19 => ?_)
            have hz_19 : z_19.toInt = z_18.toInt + v6_9.toInt := by rw [ez_19]; exact jb_iadd2 (rfl) (rfl) (by omega)
            refine j7_iald hx hb hK hh_16 hB166 1 rfl (by decide) hg_signs_14 (x := z_19.toInt) (rfl) (by omega) dX14_isNamed_55 (fun z_20 (hz_20 : True) => ?_)
            refine lv_aload_n hx hb dX14_isNamed_56 rfl (lv_at hl 2 rfl) ?_
            refine lv_iload_n hx hb dX14_isNamed_57 rfl (lv_at hl 3 rfl) ?_
            refine lv_iload hx hb dX14_isNamed_58 (lv_at hl 6 rfl) ?_
            refine lv_iadd hx hb dX14_isNamed_60 ?_
            refine lv_topi (fun z_21 ez_21 => ?_)
            have hz_21 : z_21.toInt = a3.toInt + v6_9.toInt := by rw [ez_21]; exact jb_iadd2 (rfl) (rfl) (by omega)
            refine j7_iald hx hb hK hh_16 hB101 1 rfl (by decide) hg_r2 (x := z_21.toInt) (rfl) (by omega) dX14_isNamed_61 (fun z_22 (hz_22 : True) => ?_)
            refine lv_icmp_ne (tgt := 69) hx hb dX14_isNamed_62 (by decide) (fun c_23 => ?_) (fun c_23 => ?_)
            · skip
              have c_23' : z_20.toInt ≠ z_22.toInt := jb_ne (rfl) (rfl) c_23
              refine lv_iconst (v := 0) hx hb dX14_isNamed_69 (by decide) ?_
              refine lv_istore (lv' := [(5, .int 0), (0, .ref r0), (1, .int a1), (2, .ref r2), (3, .int a3), (4, .int a4), (6, .int v6_9)]) hx hb dX14_isNamed_70 hl (by decide) rfl (fun ls hl => ?_)
              obtain ⟨z_24, ez_24⟩ : ∃ y : Int32, y = v6_9 + 1 := ⟨_, rfl⟩
              refine lv_iinc (v := z_24) (lv' := [(6, .int z_24), (5, .int 0), (0, .ref r0), (1, .int a1), (2, .ref r2), (3, .int a3), (4, .int a4)]) hx hb dX14_isNamed_72 hl (k := 6) rfl (by rw [ez_24]; rfl) (by decide) rfl (fun ls hl => ?_)
              have hz_24 : z_24.toInt = v6_9.toInt + 1 := by rw [ez_24]; exact jb_iadd2 (rfl) (by decide) (by omega)
              refine lv_goto (tgt := 24) hx hb dX14_isNamed_75 (by decide) ?_
              exact L24 0 z_24 _ _ (hh_16.sub (L1 := [(kernel_3, 15, 9, .ref nameLength_6), (r0, 16, 58, .ref kernel_3)]) [2, 3] rfl (M1 := []) [] rfl (I1 := []) [] rfl) (Or.inl rfl) (by first | omega | (refine ⟨?_, ?_, ?_⟩ <;> (first | omega | rfl | assumption | decide | exact Or.inl rfl | exact Or.inr rfl | (simp only; omega)))) (by omega) _ (lv_sub hl [2, 3, 4, 5, 6, 1, 0] rfl)
            · skip
              have c_23' : z_20.toInt = z_22.toInt := jb_ne_n (rfl) (rfl) c_23
              refine lv_iconst (v := 1) hx hb dX14_isNamed_65 (by decide) ?_
              refine lv_goto (tgt := 70) hx hb dX14_isNamed_66 (by decide) ?_
              refine lv_istore (lv' := [(5, .int 1), (0, .ref r0), (1, .int a1), (2, .ref r2), (3, .int a3), (4, .int a4), (6, .int v6_9)]) hx hb dX14_isNamed_70 hl (by decide) rfl (fun ls hl => ?_)
              obtain ⟨z_25, ez_25⟩ : ∃ y : Int32, y = v6_9 + 1 := ⟨_, rfl⟩
              refine lv_iinc (v := z_25) (lv' := [(6, .int z_25), (5, .int 1), (0, .ref r0), (1, .int a1), (2, .ref r2), (3, .int a3), (4, .int a4)]) hx hb dX14_isNamed_72 hl (k := 6) rfl (by rw [ez_25]; rfl) (by decide) rfl (fun ls hl => ?_)
              have hz_25 : z_25.toInt = v6_9.toInt + 1 := by rw [ez_25]; exact jb_iadd2 (rfl) (by decide) (by omega)
              refine lv_goto (tgt := 24) hx hb dX14_isNamed_75 (by decide) ?_
              exact L24 1 z_25 _ _ (hh_16.sub (L1 := [(kernel_3, 15, 9, .ref nameLength_6), (r0, 16, 58, .ref kernel_3)]) [2, 3] rfl (M1 := []) [] rfl (I1 := []) [] rfl) (Or.inr rfl) (by first | omega | (refine ⟨?_, ?_, ?_⟩ <;> (first | omega | rfl | assumption | decide | exact Or.inl rfl | exact Or.inr rfl | (simp only; omega)))) (by omega) _ (lv_sub hl [2, 3, 4, 5, 6, 1, 0] rfl)
    exact L24 (((a4.toInt - (0 : Int32).toInt).toNat : Int) : Int).toNat.succ w0_8 0 _ _ hh_8 (hb_w0_8) (by first | omega | (refine ⟨?_, ?_, ?_⟩ <;> (first | omega | rfl | assumption | decide | exact Or.inl rfl | exact Or.inr rfl | (simp only; omega)))) (by omega) _ (lv_sub hl [2, 3, 4, 5, 6, 1, 0] rfl)
  refine lv_icmp_ne (tgt := 18) hx hb dX14_isNamed_11 (by decide) (fun c_26 => ?_) (fun c_26 => ?_)
  · skip
    have c_26' : z_7.toInt ≠ a4.toInt := jb_ne (rfl) (rfl) c_26
    refine lv_iconst (v := 0) hx hb dX14_isNamed_18 (by decide) ?_
    exact C19 0 _ _ hh_5 (Or.inl rfl) (by first | omega | rfl | assumption | decide | exact Or.inl rfl | exact Or.inr rfl | (simp only; omega)) _ (lv_sub hl [0, 1, 2, 3, 4] rfl)
  · skip
    have c_26' : z_7.toInt = a4.toInt := jb_ne_n (rfl) (rfl) c_26
    refine lv_iconst (v := 1) hx hb dX14_isNamed_14 (by decide) ?_
    refine lv_goto (tgt := 19) hx hb dX14_isNamed_15 (by decide) ?_
    exact C19 1 _ _ hh_5 (Or.inr rfl) (by first | omega | rfl | assumption | decide | exact Or.inl rfl | exact Or.inr rfl | (simp only; omega)) _ (lv_sub hl [0, 1, 2, 3, 4] rfl)
