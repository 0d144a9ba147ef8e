theorem dX14_isContentLength_0 : decode cX14_isContentLength 0 = .ok (.ldc 220, 2) := by decide +kernel
theorem dX14_isContentLength_2 : decode cX14_isContentLength 2 = .ok (.astore_n 1, 1) := by decide +kernel
theorem dX14_isContentLength_3 : decode cX14_isContentLength 3 = .ok (.aload_n 0, 1) := by decide +kernel
theorem dX14_isContentLength_4 : decode cX14_isContentLength 4 = .ok (.getfield 26, 3) := by decide +kernel
theorem dX14_isContentLength_7 : decode cX14_isContentLength 7 = .ok (.invokevirtual 222, 3) := by decide +kernel
theorem dX14_isContentLength_10 : decode cX14_isContentLength 10 = .ok (.aload_n 1, 1) := by decide +kernel
theorem dX14_isContentLength_11 : decode cX14_isContentLength 11 = .ok (.invokevirtual 163, 3) := by decide +kernel
theorem dX14_isContentLength_14 : decode cX14_isContentLength 14 = .ok (.if_icmp .eq 5, 3) := by decide +kernel
theorem dX14_isContentLength_17 : decode cX14_isContentLength 17 = .ok (.iconst 0, 1) := by decide +kernel
theorem dX14_isContentLength_18 : decode cX14_isContentLength 18 = .ok (.ireturn, 1) := by decide +kernel
theorem dX14_isContentLength_19 : decode cX14_isContentLength 19 = .ok (.iconst 0, 1) := by decide +kernel
theorem dX14_isContentLength_20 : decode cX14_isContentLength 20 = .ok (.istore_n 2, 1) := by decide +kernel
theorem dX14_isContentLength_21 : decode cX14_isContentLength 21 = .ok (.iload_n 2, 1) := by decide +kernel
theorem dX14_isContentLength_22 : decode cX14_isContentLength 22 = .ok (.aload_n 1, 1) := by decide +kernel
theorem dX14_isContentLength_23 : decode cX14_isContentLength 23 = .ok (.invokevirtual 163, 3) := by decide +kernel
theorem dX14_isContentLength_26 : decode cX14_isContentLength 26 = .ok (.if_icmp .ge 47, 3) := by decide +kernel
theorem dX14_isContentLength_29 : decode cX14_isContentLength 29 = .ok (.aload_n 0, 1) := by decide +kernel
theorem dX14_isContentLength_30 : decode cX14_isContentLength 30 = .ok (.getfield 26, 3) := by decide +kernel
theorem dX14_isContentLength_33 : decode cX14_isContentLength 33 = .ok (.iload_n 2, 1) := by decide +kernel
theorem dX14_isContentLength_34 : decode cX14_isContentLength 34 = .ok (.invokevirtual 223, 3) := by decide +kernel
theorem dX14_isContentLength_37 : decode cX14_isContentLength 37 = .ok (.istore_n 3, 1) := by decide +kernel
theorem dX14_isContentLength_38 : decode cX14_isContentLength 38 = .ok (.iload_n 3, 1) := by decide +kernel
theorem dX14_isContentLength_39 : decode cX14_isContentLength 39 = .ok (.bipush 65, 2) := by decide +kernel
theorem dX14_isContentLength_41 : decode cX14_isContentLength 41 = .ok (.bipush 90, 2) := by decide +kernel
theorem dX14_isContentLength_43 : decode cX14_isContentLength 43 = .ok (.invokestatic 181, 3) := by decide +kernel
theorem dX14_isContentLength_46 : decode cX14_isContentLength 46 = .ok (.ifCond .eq 10, 3) := by decide +kernel
theorem dX14_isContentLength_49 : decode cX14_isContentLength 49 = .ok (.iload_n 3, 1) := by decide +kernel
theorem dX14_isContentLength_50 : decode cX14_isContentLength 50 = .ok (.bipush 32, 2) := by decide +kernel
theorem dX14_isContentLength_52 : decode cX14_isContentLength 52 = .ok (.iadd, 1) := by decide +kernel
theorem dX14_isContentLength_53 : decode cX14_isContentLength 53 = .ok (.goto 4, 3) := by decide +kernel
theorem dX14_isContentLength_56 : decode cX14_isContentLength 56 = .ok (.iload_n 3, 1) := by decide +kernel
theorem dX14_isContentLength_57 : decode cX14_isContentLength 57 = .ok (.aload_n 1, 1) := by decide +kernel
theorem dX14_isContentLength_58 : decode cX14_isContentLength 58 = .ok (.iload_n 2, 1) := by decide +kernel
theorem dX14_isContentLength_59 : decode cX14_isContentLength 59 = .ok (.invokevirtual 168, 3) := by decide +kernel
theorem dX14_isContentLength_62 : decode cX14_isContentLength 62 = .ok (.if_icmp .eq 5, 3) := by decide +kernel
theorem dX14_isContentLength_65 : decode cX14_isContentLength 65 = .ok (.iconst 0, 1) := by decide +kernel
theorem dX14_isContentLength_66 : decode cX14_isContentLength 66 = .ok (.ireturn, 1) := by decide +kernel
theorem dX14_isContentLength_67 : decode cX14_isContentLength 67 = .ok (.iinc 2 1, 3) := by decide +kernel
theorem dX14_isContentLength_70 : decode cX14_isContentLength 70 = .ok (.goto (-49), 3) := by decide +kernel
theorem dX14_isContentLength_73 : decode cX14_isContentLength 73 = .ok (.iconst 1, 1) := by decide +kernel
theorem dX14_isContentLength_74 : decode cX14_isContentLength 74 = .ok (.ireturn, 1) := by decide +kernel
theorem dX14_isLengthSoFar_0 : decode cX14_isLengthSoFar 0 = .ok (.aload_n 0, 1) := by decide +kernel
theorem dX14_isLengthSoFar_1 : decode cX14_isLengthSoFar 1 = .ok (.getfield 30, 3) := by decide +kernel
theorem dX14_isLengthSoFar_4 : decode cX14_isLengthSoFar 4 = .ok (.invokevirtual 222, 3) := by decide +kernel
theorem dX14_isLengthSoFar_7 : decode cX14_isLengthSoFar 7 = .ok (.istore_n 2, 1) := by decide +kernel
theorem dX14_isLengthSoFar_8 : decode cX14_isLengthSoFar 8 = .ok (.iload_n 2, 1) := by decide +kernel
theorem dX14_isLengthSoFar_9 : decode cX14_isLengthSoFar 9 = .ok (.iconst 4, 1) := by decide +kernel
theorem dX14_isLengthSoFar_10 : decode cX14_isLengthSoFar 10 = .ok (.if_icmp .gt 11, 3) := by decide +kernel
theorem dX14_isLengthSoFar_13 : decode cX14_isLengthSoFar 13 = .ok (.iload_n 1, 1) := by decide +kernel
theorem dX14_isLengthSoFar_14 : decode cX14_isLengthSoFar 14 = .ok (.ifCond .eq 9, 3) := by decide +kernel
theorem dX14_isLengthSoFar_17 : decode cX14_isLengthSoFar 17 = .ok (.iload_n 2, 1) := by decide +kernel
theorem dX14_isLengthSoFar_18 : decode cX14_isLengthSoFar 18 = .ok (.ifCond .ne 5, 3) := by decide +kernel
theorem dX14_isLengthSoFar_21 : decode cX14_isLengthSoFar 21 = .ok (.iconst 0, 1) := by decide +kernel
theorem dX14_isLengthSoFar_22 : decode cX14_isLengthSoFar 22 = .ok (.ireturn, 1) := by decide +kernel
theorem dX14_isLengthSoFar_23 : decode cX14_isLengthSoFar 23 = .ok (.iconst 0, 1) := by decide +kernel
theorem dX14_isLengthSoFar_24 : decode cX14_isLengthSoFar 24 = .ok (.istore_n 3, 1) := by decide +kernel
theorem dX14_isLengthSoFar_25 : decode cX14_isLengthSoFar 25 = .ok (.iconst 0, 1) := by decide +kernel
theorem dX14_isLengthSoFar_26 : decode cX14_isLengthSoFar 26 = .ok (.istore 4, 2) := by decide +kernel
theorem dX14_isLengthSoFar_28 : decode cX14_isLengthSoFar 28 = .ok (.iload 4, 2) := by decide +kernel
theorem dX14_isLengthSoFar_30 : decode cX14_isLengthSoFar 30 = .ok (.iload_n 2, 1) := by decide +kernel
theorem dX14_isLengthSoFar_31 : decode cX14_isLengthSoFar 31 = .ok (.if_icmp .ge 44, 3) := by decide +kernel
theorem dX14_isLengthSoFar_34 : decode cX14_isLengthSoFar 34 = .ok (.aload_n 0, 1) := by decide +kernel
theorem dX14_isLengthSoFar_35 : decode cX14_isLengthSoFar 35 = .ok (.getfield 30, 3) := by decide +kernel
theorem dX14_isLengthSoFar_38 : decode cX14_isLengthSoFar 38 = .ok (.iload 4, 2) := by decide +kernel
theorem dX14_isLengthSoFar_40 : decode cX14_isLengthSoFar 40 = .ok (.invokevirtual 223, 3) := by decide +kernel
theorem dX14_isLengthSoFar_43 : decode cX14_isLengthSoFar 43 = .ok (.invokestatic 224, 3) := by decide +kernel
theorem dX14_isLengthSoFar_46 : decode cX14_isLengthSoFar 46 = .ok (.ifCond .ne 5, 3) := by decide +kernel
theorem dX14_isLengthSoFar_49 : decode cX14_isLengthSoFar 49 = .ok (.iconst 0, 1) := by decide +kernel
theorem dX14_isLengthSoFar_50 : decode cX14_isLengthSoFar 50 = .ok (.ireturn, 1) := by decide +kernel
theorem dX14_isLengthSoFar_51 : decode cX14_isLengthSoFar 51 = .ok (.bipush 10, 2) := by decide +kernel
theorem dX14_isLengthSoFar_53 : decode cX14_isLengthSoFar 53 = .ok (.iload_n 3, 1) := by decide +kernel
theorem dX14_isLengthSoFar_54 : decode cX14_isLengthSoFar 54 = .ok (.imul, 1) := by decide +kernel
theorem dX14_isLengthSoFar_55 : decode cX14_isLengthSoFar 55 = .ok (.aload_n 0, 1) := by decide +kernel
theorem dX14_isLengthSoFar_56 : decode cX14_isLengthSoFar 56 = .ok (.getfield 30, 3) := by decide +kernel
theorem dX14_isLengthSoFar_59 : decode cX14_isLengthSoFar 59 = .ok (.iload 4, 2) := by decide +kernel
theorem dX14_isLengthSoFar_61 : decode cX14_isLengthSoFar 61 = .ok (.invokevirtual 223, 3) := by decide +kernel
theorem dX14_isLengthSoFar_64 : decode cX14_isLengthSoFar 64 = .ok (.iadd, 1) := by decide +kernel
theorem dX14_isLengthSoFar_65 : decode cX14_isLengthSoFar 65 = .ok (.bipush 48, 2) := by decide +kernel
theorem dX14_isLengthSoFar_67 : decode cX14_isLengthSoFar 67 = .ok (.isub, 1) := by decide +kernel
theorem dX14_isLengthSoFar_68 : decode cX14_isLengthSoFar 68 = .ok (.istore_n 3, 1) := by decide +kernel
theorem dX14_isLengthSoFar_69 : decode cX14_isLengthSoFar 69 = .ok (.iinc 4 1, 3) := by decide +kernel
theorem dX14_isLengthSoFar_72 : decode cX14_isLengthSoFar 72 = .ok (.goto (-44), 3) := by decide +kernel
theorem dX14_isLengthSoFar_75 : decode cX14_isLengthSoFar 75 = .ok (.iload_n 3, 1) := by decide +kernel
theorem dX14_isLengthSoFar_76 : decode cX14_isLengthSoFar 76 = .ok (.sipush 3000, 3) := by decide +kernel
theorem dX14_isLengthSoFar_79 : decode cX14_isLengthSoFar 79 = .ok (.if_icmp .gt 7, 3) := by decide +kernel
theorem dX14_isLengthSoFar_82 : decode cX14_isLengthSoFar 82 = .ok (.iconst 1, 1) := by decide +kernel
theorem dX14_isLengthSoFar_83 : decode cX14_isLengthSoFar 83 = .ok (.goto 4, 3) := by decide +kernel
theorem dX14_isLengthSoFar_86 : decode cX14_isLengthSoFar 86 = .ok (.iconst 0, 1) := by decide +kernel
theorem dX14_isLengthSoFar_87 : decode cX14_isLengthSoFar 87 = .ok (.ireturn, 1) := by decide +kernel
theorem dX14_lengthTold_0 : decode cX14_lengthTold 0 = .ok (.iconst 0, 1) := by decide +kernel
theorem dX14_lengthTold_1 : decode cX14_lengthTold 1 = .ok (.istore_n 1, 1) := by decide +kernel
theorem dX14_lengthTold_2 : decode cX14_lengthTold 2 = .ok (.iconst 0, 1) := by decide +kernel
theorem dX14_lengthTold_3 : decode cX14_lengthTold 3 = .ok (.istore_n 2, 1) := by decide +kernel
theorem dX14_lengthTold_4 : decode cX14_lengthTold 4 = .ok (.iload_n 2, 1) := by decide +kernel
theorem dX14_lengthTold_5 : decode cX14_lengthTold 5 = .ok (.aload_n 0, 1) := by decide +kernel
theorem dX14_lengthTold_6 : decode cX14_lengthTold 6 = .ok (.getfield 30, 3) := by decide +kernel
theorem dX14_lengthTold_9 : decode cX14_lengthTold 9 = .ok (.invokevirtual 222, 3) := by decide +kernel
theorem dX14_lengthTold_12 : decode cX14_lengthTold 12 = .ok (.if_icmp .ge 26, 3) := by decide +kernel
theorem dX14_lengthTold_15 : decode cX14_lengthTold 15 = .ok (.bipush 10, 2) := by decide +kernel
theorem dX14_lengthTold_17 : decode cX14_lengthTold 17 = .ok (.iload_n 1, 1) := by decide +kernel
theorem dX14_lengthTold_18 : decode cX14_lengthTold 18 = .ok (.imul, 1) := by decide +kernel
theorem dX14_lengthTold_19 : decode cX14_lengthTold 19 = .ok (.aload_n 0, 1) := by decide +kernel
theorem dX14_lengthTold_20 : decode cX14_lengthTold 20 = .ok (.getfield 30, 3) := by decide +kernel
theorem dX14_lengthTold_23 : decode cX14_lengthTold 23 = .ok (.iload_n 2, 1) := by decide +kernel
theorem dX14_lengthTold_24 : decode cX14_lengthTold 24 = .ok (.invokevirtual 223, 3) := by decide +kernel
theorem dX14_lengthTold_27 : decode cX14_lengthTold 27 = .ok (.iadd, 1) := by decide +kernel
theorem dX14_lengthTold_28 : decode cX14_lengthTold 28 = .ok (.bipush 48, 2) := by decide +kernel
theorem dX14_lengthTold_30 : decode cX14_lengthTold 30 = .ok (.isub, 1) := by decide +kernel
theorem dX14_lengthTold_31 : decode cX14_lengthTold 31 = .ok (.istore_n 1, 1) := by decide +kernel
theorem dX14_lengthTold_32 : decode cX14_lengthTold 32 = .ok (.iinc 2 1, 3) := by decide +kernel
theorem dX14_lengthTold_35 : decode cX14_lengthTold 35 = .ok (.goto (-31), 3) := by decide +kernel
theorem dX14_lengthTold_38 : decode cX14_lengthTold 38 = .ok (.iload_n 1, 1) := by decide +kernel
theorem dX14_lengthTold_39 : decode cX14_lengthTold 39 = .ok (.ireturn, 1) := by decide +kernel
def EX14_lengthTold : List (Nat × Nat) := []
def EX14_isLengthSoFar : List (Nat × Nat) := []
def EX14_isContentLength : List (Nat × Nat) := []
set_option maxHeartbeats 4000000 in
set_option maxRecDepth 20000 in
theorem uX14_lengthTold (l : Launch) (dC : Nat → ClassId) (dI : Nat → Nat → Nat) (ca : Nat → ClassId) (base : Nat) (B : jF) (hB : jBok B) (hAp : jAp (dC, dI)) (hB0 : ∀ n G a H, B 0 n G a H ↔ jOb (dC, dI) 0 4 (Fz0 n G) a H) (hB16 : ∀ n G a H, B 16 n G a H ↔ jOb (dC, dI) 16 74 (F16 n G) a H) (hB196 : ∀ n G a H, B 196 n G a H ↔ jAr (dC, dI) (ca 0) (fun j z => jBf j z) n a H) (G0 : jT) (H0 : Heap) (r0 : Nat) (bv : Nat) (pc : Int32) (pa : Nat) (n_pa : Nat) (fv : Nat → Int32) : Met l yX14_lengthTold (jw yX14_lengthTold cX14_lengthTold 3 (some .int)) ({ frames := 4, cells := 0, slots := 0, locals := 106 }) (va_Pc [.ref r0] (fun U => U.heap = H0 ∧ jX B base G0 [] H0 ∧ jG dC dI ca base U ∧ G0 r0 = some (16, 0) ∧ G0 bv = some (0, 0) ∧ G0 pa = some (196, n_pa) ∧ jP (dC, dI) G0 H0 [(r0, 16, 14, .ref bv), (bv, 0, 3, .int pc), (bv, 0, 0, .ref pa)] ∧ jMc (dC, dI) G0 H0 [(pa, 196, n_pa, ca 0, fv)] ∧ 0 ≤ pc.toInt ∧ pc.toInt ≤ n_pa ∧ n_pa ≤ 1000 ∧ pc.toInt ≤ 4 ∧ jDg fv pc.toInt)) (va_Qi (S := Unit) (fun r u => (r.toInt = jNm fv (pc.toInt).toNat)) (fun u t => jRt (dC, dI) B base G0 EX14_lengthTold H0 [] t.heap) (jA base)) 0 0 (jA base) := by
  refine Met.ofW (cc := cX14_lengthTold) (maxL := 3) (ret := (some .int)) (by decide) rfl ?_
  intro p e s m args below meth c s₁ Bd hml hv
  obtain ⟨rfl, hH0, hX, hG, hg_r0, hg_bv, hg_pa, hP0, hM0, hp0, hp1, hp2, hp3, hp4⟩ := hv
  have hK := hG.1
  have hx := Bd.exec
  have hb := Bd.bytes
  have hr := Bd.returns
  have hts := atoms_spec (ws := (jw yX14_lengthTold cX14_lengthTold 3 (some .int))) Bd.pre
  have htw : ∀ w ∈ jWl, w.before _ s = true := fun w h => hts w (List.mem_cons_of_mem _ h)
  have hown : s.vm.findClass RX14 = some m.cls := findClass_of_methodNamed Bd.named
  have hlocks := Bd.notSynchronized
  obtain ⟨Q, hQ⟩ : ∃ Q, Q = MQ below (va_Qi (S := Unit) (fun r u => (r.toInt = jNm fv (pc.toInt).toNat)) (fun u t => jRt (dC, dI) B base G0 EX14_lengthTold H0 [] t.heap) (jA base)) ([.ref r0] : List Value).toArray s 0 0 (jA base) := ⟨_, rfl⟩
  rw [← hQ]
  have hl := lv_entry ([.ref r0]) (n := 3) (Nat.le_of_ble_eq_true rfl)
  rw [lg_entry_eq]
  generalize (lg_sl ([.ref r0]) ++ List.replicate (3 - (lg_sl ([.ref r0])).length) Slot.unset).toArray = ls at hl ⊢
  have hl : lv_has ls 3 [(0, .ref r0)] := hl
  generalize hR : (headSpec (jw yX14_lengthTold cX14_lengthTold 3 (some .int)) ({ frames := 4, cells := 0, slots := 0, locals := 106 })).room = R
  subst hH0
  have hh : jSt (dC, dI) B base G0 G0 EX14_lengthTold s.heap 0 0 [(r0, 16, 14, .ref bv), (bv, 0, 3, .int pc), (bv, 0, 0, .ref pa)] [(pa, 196, n_pa, ca 0, fv)] [] s.heap [] := jSt.start hX hP0 hM0 jIs.nil
  clear hX hP0
  have hk0 : (0 : Int32).toInt = 0 := by decide
  have hk1 : (1 : Int32).toInt = 1 := by decide
  have hk10 : (10 : Int32).toInt = 10 := by decide
  have hk48 : (48 : Int32).toInt = 48 := by decide
  have hly_16_14 := htw (u_lay RX14 TX14 14) (jWc_wsX140 _ (u_in_lay (by decide)))
  have hlk_30 := (htw (.fieldLink RX14 30 "ProofServerModel" "value" "Ljava/lang/StringBuilder;") (jWr_11 _ (List.mem_of_getElem? (i := 2) rfl)))
  refine lv_iconst (v := 0) hx hb dX14_lengthTold_0 (by decide) ?_
  refine lv_istore_n (lv' := [(1, .int 0), (0, .ref r0)]) hx hb dX14_lengthTold_1 rfl hl (by decide) rfl (fun ls hl => ?_)
  refine lv_iconst (v := 0) hx hb dX14_lengthTold_2 (by decide) ?_
  refine lv_istore_n (lv' := [(2, .int 0), (1, .int 0), (0, .ref r0)]) hx hb dX14_lengthTold_3 rfl hl (by decide) rfl (fun ls hl => ?_)
  have L4 : ∀ (N : Nat) (v1_1 : Int32) (v2_1 : Int32) (H_1 : Heap) (locs_1 : List Loc), jSt (dC, dI) B base G0 G0 EX14_lengthTold s.heap 0 0 [(r0, 16, 14, .ref bv), (bv, 0, 3, .int pc), (bv, 0, 0, .ref pa)] [(pa, 196, n_pa, ca 0, fv)] [] H_1 locs_1 → (0 ≤ v2_1.toInt ∧ v2_1.toInt ≤ pc.toInt ∧ v1_1.toInt = jNm fv (v2_1.toInt).toNat ∧ 0 ≤ v1_1.toInt ∧ (v2_1.toInt ≤ 0 → v1_1.toInt ≤ 0) ∧ (v2_1.toInt ≤ 1 → v1_1.toInt ≤ 9) ∧ (v2_1.toInt ≤ 2 → v1_1.toInt ≤ 99) ∧ (v2_1.toInt ≤ 3 → v1_1.toInt ≤ 999) ∧ v1_1.toInt ≤ 9999) → (pc.toInt - v2_1.toInt : Int) < N → ∀ ls : Array Slot, lv_has ls 3 [(0, .ref r0), (1, .int v1_1), (2, .int v2_1)] → W p l e R s m ([.ref r0] : List Value).toArray below meth c H_1 locs_1 0 0 Q (F0 m 4 ls []) := by
    intro N
    induction N with
    | zero => intro v1_1 v2_1 H_1 locs_1 hh_1  hi_1 hm; exact absurd hm (by omega)
    | succ N L4 =>
      intro v1_1 v2_1 H_1 locs_1 hh_1  hi_1 hm_1 ls hl
      obtain ⟨hi_1_0, hi_1_1, hi_1_2, hi_1_3, hi_1_4, hi_1_5, hi_1_6, hi_1_7, hi_1_8⟩ := hi_1
      refine lv_iload_n hx hb dX14_lengthTold_4 rfl (lv_at hl 2 rfl) ?_
      refine lv_aload_n hx hb dX14_lengthTold_5 rfl (lv_at hl 0 rfl) ?_
      refine j7_read hx hb hown hK (C := RX14) (T := TX14) (N := 74) rfl hly_16_14 hlk_30 (hh_1.at 0 rfl) dX14_lengthTold_6 ?_
      refine va_calli (A0 := jA base) (H0 := s.heap) (va_runV (As := []) (rest := [.int v2_1]) ⟨hx, hb, hml, hown, hts⟩ (uJ4_length_8abf5 l dC dI ca base B hB hAp hB0 G0 H_1 bv pc) (cwV 0 hts (jgV (jWr_48 _ (List.mem_of_getElem? (i := 17) rfl)) (jWr_48 _ (List.mem_of_getElem? (i := 18) rfl)) (jWr_48 _ (List.mem_of_getElem? (i := 19) rfl)) (jWr_11 _ (List.mem_of_getElem? (i := 0) rfl)) (jWr_48 _ (List.mem_of_getElem? (i := 20) rfl))) rfl rfl rfl (by decide +kernel) ⟨by rw [← hR]; exact Nat.le_of_ble_eq_true rfl, by rw [← hR]; exact Nat.le_of_ble_eq_true rfl⟩) ⟨fun a U g mk q => by obtain ⟨q0, q1, q2, qK, q10, q11, q12⟩ := q; exact ⟨q0, q1, q2, jG.calling g mk a qK, q10, q11, q12⟩, hh_1.recv (C := RJ4) (T := TJ4) (N := 4) hB0 rfl (by decide) hg_bv hK, fun U hU hW => ⟨rfl, hU, hh_1.2.1, hG.step hW hU hh_1.1, hg_bv, (hh_1.2.2.1.sub (L1 := [(bv, 0, 3, .int pc)]) [1] rfl), trivial⟩⟩ rfl rfl hl.1 rfl (lv_room (Nat.le_of_ble_eq_true rfl)) dX14_lengthTold_9 ⟨Nat.zero_le _, Nat.zero_le _⟩) hh_1.1 (fun q _ h => h) (fun q h => h) (fun r_3 u_2 t_2 H_2 locs_2 ht_2 hvm_2 hr_3 hb_2 hz_2 hk_2 hS_2 => ?_)
      rw [ht_2] at hb_2
      obtain ⟨hb_21, hb_22, hb_23, hb_24, hb_25⟩ := hb_2
      have hh_2 : jSt (dC, dI) B base G0 G0 EX14_lengthTold s.heap 0 0 [(r0, 16, 14, .ref bv), (bv, 0, 3, .int pc), (bv, 0, 0, .ref pa)] [(pa, 196, n_pa, ca 0, fv)] [] H_2 locs_2 := ((hh_1.call hb_21 hb_22 hb_23 hb_24 hS_2 rfl (L1 := [(r0, 16, 14, .ref bv), (bv, 0, 3, .int pc), (bv, 0, 0, .ref pa)]) [0, 1, 2] rfl rfl (M1 := [(pa, 196, n_pa, ca 0, fv)]) [0] rfl rfl (I1 := []) [] rfl rfl).more hb_25)
      clear hh_1 ht_2 hvm_2 hz_2 hk_2 hS_2 hb_21 hb_22 hb_23 hb_24 hb_25
      refine lv_icmp_ge (tgt := 38) hx hb dX14_lengthTold_12 (by decide) (fun c_4 => ?_) (fun c_4 => ?_)
      · skip
        have c_4' : v2_1.toInt ≥ r_3.toInt := jb_ge (rfl) (rfl) c_4
        refine lv_iload_n hx hb dX14_lengthTold_38 rfl (lv_at hl 1 rfl) ?_
        rw [hQ]
        exact W.iret (v := v1_1) hx hb hr (fun t ht hW => ⟨⟨v1_1, (), rfl, by rw [show pc.toInt = v2_1.toInt by omega]; exact hi_1_2, hh_2.rt (M1 := []) [] rfl ht⟩, by rw [ht]; try exact hh_2.1.1, fun q h9 hq => by rw [ht]; try exact hh_2.1.2.1 q h9 hq⟩) hh_2.1.2.2 dX14_lengthTold_39
      · skip
        have c_4' : v2_1.toInt < r_3.toInt := jb_ge_n (rfl) (rfl) c_4
        have hdg := hp4 v2_1.toInt (by omega) (by omega)
        refine lv_bipush (v := 10) hx hb dX14_lengthTold_15 (by decide) ?_
        refine lv_iload_n hx hb dX14_lengthTold_17 rfl (lv_at hl 1 rfl) ?_
        refine lv_imul hx hb dX14_lengthTold_18 ?_
        refine lv_topi (fun z_5 ez_5 => ?_)
        have hz_5 : z_5.toInt = 10 * v1_1.toInt := by rw [ez_5]; exact jb_imul2 ((by decide)) (rfl) (by omega)
        refine lv_aload_n hx hb dX14_lengthTold_19 rfl (lv_at hl 0 rfl) ?_
        refine j7_read hx hb hown hK (C := RX14) (T := TX14) (N := 74) rfl hly_16_14 hlk_30 (hh_2.at 0 rfl) dX14_lengthTold_20 ?_
        refine lv_iload_n hx hb dX14_lengthTold_23 rfl (lv_at hl 2 rfl) ?_
        refine va_calli (A0 := jA base) (H0 := s.heap) (va_runV (As := [.int v2_1]) (rest := [.int z_5]) ⟨hx, hb, hml, hown, hts⟩ (uJ4_charAt_5068e l dC dI ca base B hB hAp hB0 hB196 G0 H_2 bv v2_1 pc pa n_pa fv) (cwV 1 hts (jgV (jWr_49 _ (List.mem_of_getElem? (i := 2) rfl)) (jWr_49 _ (List.mem_of_getElem? (i := 3) rfl)) (jWr_49 _ (List.mem_of_getElem? (i := 4) rfl)) (jWr_11 _ (List.mem_of_getElem? (i := 0) rfl)) (jWr_49 _ (List.mem_of_getElem? (i := 5) rfl))) rfl rfl rfl (by decide +kernel) ⟨by rw [← hR]; exact Nat.le_of_ble_eq_true rfl, by rw [← hR]; exact Nat.le_of_ble_eq_true rfl⟩) ⟨fun a U g mk q => by obtain ⟨q0, q1, q2, qK, q10, q11, q12, q13, q14⟩ := q; exact ⟨q0, q1, q2, jG.calling g mk a qK, q10, q11, q12, q13, q14⟩, hh_2.recv (C := RJ4) (T := TJ4) (N := 4) hB0 rfl (by decide) hg_bv hK, fun U hU hW => ⟨rfl, hU, hh_2.2.1, hG.step hW hU hh_2.1, hg_bv, hg_pa, (hh_2.2.2.1.sub (L1 := [(bv, 0, 3, .int pc), (bv, 0, 0, .ref pa)]) [1, 2] rfl), (hh_2.2.2.2.2.2.2.2.1.sub (L1 := [(pa, 196, n_pa, ca 0, fv)]) [0] rfl), by first | omega | (refine ⟨?_, ?_, ?_, ?_⟩ <;> (first | omega | rfl | assumption | decide | exact Or.inl rfl | exact Or.inr rfl | (simp only; omega)))⟩⟩ rfl rfl hl.1 rfl (lv_room (Nat.le_of_ble_eq_true rfl)) dX14_lengthTold_24 ⟨Nat.zero_le _, Nat.zero_le _⟩) hh_2.1 (fun q _ h => h) (fun q h => h) (fun r_7 u_6 t_6 H_6 locs_6 ht_6 hvm_6 hr_7 hb_6 hz_6 hk_6 hS_6 => ?_)
        rw [ht_6] at hb_6
        obtain ⟨hb_61, hb_62, hb_63, hb_64, hb_65⟩ := hb_6
        have hh_6 : jSt (dC, dI) B base G0 G0 EX14_lengthTold s.heap 0 0 [(r0, 16, 14, .ref bv), (bv, 0, 3, .int pc), (bv, 0, 0, .ref pa)] [(pa, 196, n_pa, ca 0, fv)] [] H_6 locs_6 := ((hh_2.call hb_61 hb_62 hb_63 hb_64 hS_6 rfl (L1 := [(r0, 16, 14, .ref bv), (bv, 0, 3, .int pc), (bv, 0, 0, .ref pa)]) [0, 1, 2] rfl rfl (M1 := [(pa, 196, n_pa, ca 0, fv)]) [0] rfl rfl (I1 := []) [] rfl rfl).more hb_65)
        clear hh_2 ht_6 hvm_6 hz_6 hk_6 hS_6 hb_61 hb_62 hb_63 hb_64 hb_65
        obtain ⟨hr_7_0, hr_7_1, hr_7_2⟩ := hr_7
        refine lv_iadd hx hb dX14_lengthTold_27 ?_
        refine lv_topi (fun z_8 ez_8 => ?_)
        have hz_8 : z_8.toInt = z_5.toInt + r_7.toInt := by rw [ez_8]; exact jb_iadd2 (rfl) (rfl) (by omega)
        refine lv_bipush (v := 48) hx hb dX14_lengthTold_28 (by decide) ?_
        refine lv_isub hx hb dX14_lengthTold_30 ?_
        refine lv_topi (fun z_9 ez_9 => ?_)
        have hz_9 : z_9.toInt = z_8.toInt - 48 := by rw [ez_9]; exact jb_isub2 (rfl) ((by decide)) (by omega)
        refine lv_istore_n (lv' := [(1, .int z_9), (0, .ref r0), (2, .int v2_1)]) hx hb dX14_lengthTold_31 rfl hl (by decide) rfl (fun ls hl => ?_)
        obtain ⟨z_10, ez_10⟩ : ∃ y : Int32, y = v2_1 + 1 := ⟨_, rfl⟩
        refine lv_iinc (v := z_10) (lv' := [(2, .int z_10), (1, .int z_9), (0, .ref r0)]) hx hb dX14_lengthTold_32 hl (k := 2) rfl (by rw [ez_10]; rfl) (by decide) rfl (fun ls hl => ?_)
        have hz_10 : z_10.toInt = v2_1.toInt + 1 := by rw [ez_10]; exact jb_iadd2 (rfl) (by decide) (by omega)
        refine lv_goto (tgt := 4) hx hb dX14_lengthTold_35 (by decide) ?_
        exact L4 z_9 z_10 _ _ hh_6 (by have hd0 := hdg; refine ⟨by omega, by omega, jNm_s hi_1_2 (by omega) hr_7_2 (by omega) (by omega), by omega, by omega, by omega, by omega, by omega, by omega⟩) (by omega) _ (lv_sub hl [2, 1, 0] rfl)
  exact L4 (pc.toInt - (0 : Int32).toInt : Int).toNat.succ 0 0 _ _ hh (by refine ⟨by omega, by omega, by rw [hk0]; rfl, by omega, by omega, by omega, by omega, by omega, by omega⟩) (by omega) _ (lv_sub hl [2, 1, 0] rfl)
set_option maxHeartbeats 4000000 in
set_option maxRecDepth 20000 in
theorem uX14_isLengthSoFar (l : Launch) (dC : Nat → ClassId) (dI : Nat → Nat → Nat) (ca : Nat → ClassId) (base : Nat) (B : jF) (hB : jBok B) (hAp : jAp (dC, dI)) (hB0 : ∀ n G a H, B 0 n G a H ↔ jOb (dC, dI) 0 4 (Fz0 n G) a H) (hB16 : ∀ n G a H, B 16 n G a H ↔ jOb (dC, dI) 16 74 (F16 n G) a H) (hB196 : ∀ n G a H, B 196 n G a H ↔ jAr (dC, dI) (ca 0) (fun j z => jBf j z) n a H) (G0 : jT) (H0 : Heap) (r0 : Nat) (a1 : Int32) (bv : Nat) (pc : Int32) (pa : Nat) (n_pa : Nat) (fv : Nat → Int32) : Met l yX14_isLengthSoFar (jw yX14_isLengthSoFar cX14_isLengthSoFar 5 (some .boolean)) ({ frames := 4, cells := 0, slots := 0, locals := 106 }) (va_Pc [.ref r0, .int a1] (fun U => U.heap = H0 ∧ jX B base G0 [] H0 ∧ jG dC dI ca base U ∧ G0 r0 = some (16, 0) ∧ (a1 = 0 ∨ a1 = 1) ∧ G0 bv = some (0, 0) ∧ G0 pa = some (196, n_pa) ∧ jP (dC, dI) G0 H0 [(r0, 16, 14, .ref bv), (bv, 0, 3, .int pc), (bv, 0, 0, .ref pa)] ∧ jMc (dC, dI) G0 H0 [(pa, 196, n_pa, ca 0, fv)] ∧ 0 ≤ pc.toInt ∧ pc.toInt ≤ n_pa ∧ n_pa ≤ 1000)) (va_Qi (S := Unit) (fun r u => (r = 0 ∨ r = 1) ∧ (0 ≤ r.toInt ∧ r.toInt ≤ 1 ∧ (r.toInt = 1 → pc.toInt ≤ 4 ∧ jDg fv pc.toInt ∧ jNm fv (pc.toInt).toNat ≤ 3000))) (fun u t => jRt (dC, dI) B base G0 EX14_isLengthSoFar H0 [] t.heap) (jA base)) 0 0 (jA base) := by
  refine Met.ofW (cc := cX14_isLengthSoFar) (maxL := 5) (ret := (some .boolean)) (by decide) rfl ?_
  intro p e s m args below meth c s₁ Bd hml hv
  obtain ⟨rfl, hH0, hX, hG, hg_r0, hz_a1, hg_bv, hg_pa, hP0, hM0, hp0, hp1, hp2⟩ := hv
  have hK := hG.1
  have hx := Bd.exec
  have hb := Bd.bytes
  have hr := Bd.returns
  have hts := atoms_spec (ws := (jw yX14_isLengthSoFar cX14_isLengthSoFar 5 (some .boolean))) Bd.pre
  have htw : ∀ w ∈ jWl, w.before _ s = true := fun w h => hts w (List.mem_cons_of_mem _ h)
  have hown : s.vm.findClass RX14 = some m.cls := findClass_of_methodNamed Bd.named
  have hlocks := Bd.notSynchronized
  obtain ⟨Q, hQ⟩ : ∃ Q, Q = MQ below (va_Qi (S := Unit) (fun r u => (r = 0 ∨ r = 1) ∧ (0 ≤ r.toInt ∧ r.toInt ≤ 1 ∧ (r.toInt = 1 → pc.toInt ≤ 4 ∧ jDg fv pc.toInt ∧ jNm fv (pc.toInt).toNat ≤ 3000))) (fun u t => jRt (dC, dI) B base G0 EX14_isLengthSoFar H0 [] t.heap) (jA base)) ([.ref r0, .int a1] : List Value).toArray s 0 0 (jA base) := ⟨_, rfl⟩
  rw [← hQ]
  have hl := lv_entry ([.ref r0, .int a1]) (n := 5) (Nat.le_of_ble_eq_true rfl)
  rw [lg_entry_eq]
  generalize (lg_sl ([.ref r0, .int a1]) ++ List.replicate (5 - (lg_sl ([.ref r0, .int a1])).length) Slot.unset).toArray = ls at hl ⊢
  have hl : lv_has ls 5 [(0, .ref r0), (1, .int a1)] := hl
  generalize hR : (headSpec (jw yX14_isLengthSoFar cX14_isLengthSoFar 5 (some .boolean)) ({ frames := 4, cells := 0, slots := 0, locals := 106 })).room = R
  subst hH0
  have hh : jSt (dC, dI) B base G0 G0 EX14_isLengthSoFar s.heap 0 0 [(r0, 16, 14, .ref bv), (bv, 0, 3, .int pc), (bv, 0, 0, .ref pa)] [(pa, 196, n_pa, ca 0, fv)] [] s.heap [] := jSt.start hX hP0 hM0 jIs.nil
  clear hX hP0
  have hk0 : (0 : Int32).toInt = 0 := by decide
  have hk1 : (1 : Int32).toInt = 1 := by decide
  have hk4 : (4 : Int32).toInt = 4 := by decide
  have hk10 : (10 : Int32).toInt = 10 := by decide
  have hk48 : (48 : Int32).toInt = 48 := by decide
  have hk3000 : (3000 : Int32).toInt = 3000 := by decide
  have hly_16_14 := htw (u_lay RX14 TX14 14) (jWc_wsX140 _ (u_in_lay (by decide)))
  have hlk_30 := (htw (.fieldLink RX14 30 "ProofServerModel" "value" "Ljava/lang/StringBuilder;") (jWr_11 _ (List.mem_of_getElem? (i := 2) rfl)))
  have hrg_a1 := jb_rng a1
  refine lv_aload_n hx hb dX14_isLengthSoFar_0 rfl (lv_at hl 0 rfl) ?_
  refine j7_read hx hb hown hK (C := RX14) (T := TX14) (N := 74) rfl hly_16_14 hlk_30 (hh.at 0 rfl) dX14_isLengthSoFar_1 ?_
  refine va_calli (A0 := jA base) (H0 := s.heap) (va_runV (As := []) (rest := []) ⟨hx, hb, hml, hown, hts⟩ (uJ4_length_8abf5 l dC dI ca base B hB hAp hB0 G0 s.heap bv pc) (cwV 0 hts (jgV (jWr_48 _ (List.mem_of_getElem? (i := 17) rfl)) (jWr_48 _ (List.mem_of_getElem? (i := 18) rfl)) (jWr_48 _ (List.mem_of_getElem? (i := 19) rfl)) (jWr_11 _ (List.mem_of_getElem? (i := 0) rfl)) (jWr_48 _ (List.mem_of_getElem? (i := 20) rfl))) rfl rfl rfl (by decide +kernel) ⟨by rw [← hR]; exact Nat.le_of_ble_eq_true rfl, by rw [← hR]; exact Nat.le_of_ble_eq_true rfl⟩) ⟨fun a U g mk q => by obtain ⟨q0, q1, q2, qK, q10, q11, q12⟩ := q; exact ⟨q0, q1, q2, jG.calling g mk a qK, q10, q11, q12⟩, hh.recv (C := RJ4) (T := TJ4) (N := 4) hB0 rfl (by decide) hg_bv hK, fun U hU hW => ⟨rfl, hU, hh.2.1, hG.step hW hU hh.1, hg_bv, (hh.2.2.1.sub (L1 := [(bv, 0, 3, .int pc)]) [1] rfl), trivial⟩⟩ rfl rfl hl.1 rfl (lv_room (Nat.le_of_ble_eq_true rfl)) dX14_isLengthSoFar_4 ⟨Nat.zero_le _, Nat.zero_le _⟩) hh.1 (fun q _ h => h) (fun q h => h) (fun r_2 u_1 t_1 H_1 locs_1 ht_1 hvm_1 hr_2 hb_1 hz_1 hk_1 hS_1 => ?_)
  rw [ht_1] at hb_1
  obtain ⟨hb_11, hb_12, hb_13, hb_14, hb_15⟩ := hb_1
  have hh_1 : jSt (dC, dI) B base G0 G0 EX14_isLengthSoFar s.heap 0 0 [(r0, 16, 14, .ref bv), (bv, 0, 3, .int pc), (bv, 0, 0, .ref pa)] [(pa, 196, n_pa, ca 0, fv)] [] H_1 locs_1 := ((hh.call hb_11 hb_12 hb_13 hb_14 hS_1 rfl (L1 := [(r0, 16, 14, .ref bv), (bv, 0, 3, .int pc), (bv, 0, 0, .ref pa)]) [0, 1, 2] rfl rfl (M1 := [(pa, 196, n_pa, ca 0, fv)]) [0] rfl rfl (I1 := []) [] rfl rfl).more hb_15)
  clear hh ht_1 hvm_1 hz_1 hk_1 hS_1 hb_11 hb_12 hb_13 hb_14 hb_15
  refine lv_istore_n (lv' := [(2, .int r_2), (0, .ref r0), (1, .int a1)]) hx hb dX14_isLengthSoFar_7 rfl hl (by decide) rfl (fun ls hl => ?_)
  refine lv_iload_n hx hb dX14_isLengthSoFar_8 rfl (lv_at hl 0 rfl) ?_
  refine lv_iconst (v := 4) hx hb dX14_isLengthSoFar_9 (by decide) ?_
  refine lv_icmp_gt (tgt := 21) hx hb dX14_isLengthSoFar_10 (by decide) (fun c_3 => ?_) (fun c_3 => ?_)
  · skip
    have c_3' : r_2.toInt > 4 := jb_gt (rfl) ((by decide)) c_3
    refine lv_iconst (v := 0) hx hb dX14_isLengthSoFar_21 (by decide) ?_
    rw [hQ]
    exact W.zret (v := 0) hx hb hr (jb_nz (Or.inl rfl)) (fun t ht hW => ⟨⟨0, (), rfl, ⟨(Or.inl rfl), by refine ⟨by omega, by omega, fun h9 => ?_⟩; omega⟩, hh_1.rt (M1 := []) [] rfl ht⟩, by rw [ht]; try exact hh_1.1.1, fun q h9 hq => by rw [ht]; try exact hh_1.1.2.1 q h9 hq⟩) hh_1.1.2.2 dX14_isLengthSoFar_22
  · skip
    have c_3' : r_2.toInt ≤ 4 := jb_gt_n (rfl) ((by decide)) c_3
    refine lv_iload_n hx hb dX14_isLengthSoFar_13 rfl (lv_at hl 2 rfl) ?_
    refine lv_if_eq (tgt := 23) hx hb dX14_isLengthSoFar_14 (by decide) (fun c_4 => ?_) (fun c_4 => ?_)
    · skip
      have c_4' : a1.toInt = 0 := jb_eq (rfl) ((by decide)) c_4
      refine lv_iconst (v := 0) hx hb dX14_isLengthSoFar_23 (by decide) ?_
      refine lv_istore_n (lv' := [(3, .int 0), (2, .int r_2), (0, .ref r0), (1, .int a1)]) hx hb dX14_isLengthSoFar_24 rfl hl (by decide) rfl (fun ls hl => ?_)
      refine lv_iconst (v := 0) hx hb dX14_isLengthSoFar_25 (by decide) ?_
      refine lv_istore (lv' := [(4, .int 0), (3, .int 0), (2, .int r_2), (0, .ref r0), (1, .int a1)]) hx hb dX14_isLengthSoFar_26 hl (by decide) rfl (fun ls hl => ?_)
      have L28 : ∀ (N : Nat) (v3_5 : Int32) (v4_5 : Int32) (H_5 : Heap) (locs_5 : List Loc), jSt (dC, dI) B base G0 G0 EX14_isLengthSoFar s.heap 0 0 [(r0, 16, 14, .ref bv), (bv, 0, 3, .int pc), (bv, 0, 0, .ref pa)] [(pa, 196, n_pa, ca 0, fv)] [] H_5 locs_5 → (0 ≤ v4_5.toInt ∧ v4_5.toInt ≤ pc.toInt ∧ v3_5.toInt = jNm fv (v4_5.toInt).toNat ∧ 0 ≤ v3_5.toInt ∧ (v4_5.toInt ≤ 0 → v3_5.toInt ≤ 0) ∧ (v4_5.toInt ≤ 1 → v3_5.toInt ≤ 9) ∧ (v4_5.toInt ≤ 2 → v3_5.toInt ≤ 99) ∧ (v4_5.toInt ≤ 3 → v3_5.toInt ≤ 999) ∧ v3_5.toInt ≤ 9999 ∧ jDg fv v4_5.toInt) → (pc.toInt - v4_5.toInt : Int) < N → ∀ ls : Array Slot, lv_has ls 5 [(0, .ref r0), (1, .int a1), (2, .int r_2), (3, .int v3_5), (4, .int v4_5)] → W p l e R s m ([.ref r0, .int a1] : List Value).toArray below meth c H_5 locs_5 0 0 Q (F0 m 28 ls []) := by
        intro N
        induction N with
        | zero => intro v3_5 v4_5 H_5 locs_5 hh_5  hi_5 hm; exact absurd hm (by omega)
        | succ N L28 =>
          intro v3_5 v4_5 H_5 locs_5 hh_5  hi_5 hm_5 ls hl
          obtain ⟨hi_5_0, hi_5_1, hi_5_2, hi_5_3, hi_5_4, hi_5_5, hi_5_6, hi_5_7, hi_5_8, hi_5_9⟩ := hi_5
          refine lv_iload hx hb dX14_isLengthSoFar_28 (lv_at hl 4 rfl) ?_
          refine lv_iload_n hx hb dX14_isLengthSoFar_30 rfl (lv_at hl 2 rfl) ?_
          refine lv_icmp_ge (tgt := 75) hx hb dX14_isLengthSoFar_31 (by decide) (fun c_6 => ?_) (fun c_6 => ?_)
          · skip
            have c_6' : v4_5.toInt ≥ r_2.toInt := jb_ge (rfl) (rfl) c_6
            refine lv_iload_n hx hb dX14_isLengthSoFar_75 rfl (lv_at hl 3 rfl) ?_
            refine lv_sipush (v := 3000) hx hb dX14_isLengthSoFar_76 (by decide) ?_
            refine lv_icmp_gt (tgt := 86) hx hb dX14_isLengthSoFar_79 (by decide) (fun c_7 => ?_) (fun c_7 => ?_)
            · skip
              have c_7' : v3_5.toInt > 3000 := jb_gt (rfl) ((by decide)) c_7
              refine lv_iconst (v := 0) hx hb dX14_isLengthSoFar_86 (by decide) ?_
              rw [hQ]
              exact W.zret (v := 0) hx hb hr (jb_nz (Or.inl rfl)) (fun t ht hW => ⟨⟨0, (), rfl, ⟨(Or.inl rfl), by refine ⟨by omega, by omega, fun h9 => ?_⟩; omega⟩, hh_5.rt (M1 := []) [] rfl ht⟩, by rw [ht]; try exact hh_5.1.1, fun q h9 hq => by rw [ht]; try exact hh_5.1.2.1 q h9 hq⟩) hh_5.1.2.2 dX14_isLengthSoFar_87
            · skip
              have c_7' : v3_5.toInt ≤ 3000 := jb_gt_n (rfl) ((by decide)) c_7
              refine lv_iconst (v := 1) hx hb dX14_isLengthSoFar_82 (by decide) ?_
              refine lv_goto (tgt := 87) hx hb dX14_isLengthSoFar_83 (by decide) ?_
              rw [hQ]
              exact W.zret (v := 1) hx hb hr (jb_nz (Or.inr rfl)) (fun t ht hW => ⟨⟨1, (), rfl, ⟨(Or.inr rfl), by refine ⟨by omega, by omega, fun _ => ⟨by omega, ?_, ?_⟩⟩; (rw [show pc.toInt = v4_5.toInt by omega]; exact hi_5_9); (rw [show pc.toInt = v4_5.toInt by omega, ← hi_5_2]; omega)⟩, hh_5.rt (M1 := []) [] rfl ht⟩, by rw [ht]; try exact hh_5.1.1, fun q h9 hq => by rw [ht]; try exact hh_5.1.2.1 q h9 hq⟩) hh_5.1.2.2 dX14_isLengthSoFar_87
          · skip
            have c_6' : v4_5.toInt < r_2.toInt := jb_ge_n (rfl) (rfl) c_6
            refine lv_aload_n hx hb dX14_isLengthSoFar_34 rfl (lv_at hl 0 rfl) ?_
            refine j7_read hx hb hown hK (C := RX14) (T := TX14) (N := 74) rfl hly_16_14 hlk_30 (hh_5.at 0 rfl) dX14_isLengthSoFar_35 ?_
            refine lv_iload hx hb dX14_isLengthSoFar_38 (lv_at hl 4 rfl) ?_
            refine va_calli (A0 := jA base) (H0 := s.heap) (va_runV (As := [.int v4_5]) (rest := []) ⟨hx, hb, hml, hown, hts⟩ (uJ4_charAt_5068e l dC dI ca base B hB hAp hB0 hB196 G0 H_5 bv v4_5 pc pa n_pa fv) (cwV 1 hts (jgV (jWr_49 _ (List.mem_of_getElem? (i := 2) rfl)) (jWr_49 _ (List.mem_of_getElem? (i := 3) rfl)) (jWr_49 _ (List.mem_of_getElem? (i := 4) rfl)) (jWr_11 _ (List.mem_of_getElem? (i := 0) rfl)) (jWr_49 _ (List.mem_of_getElem? (i := 5) rfl))) rfl rfl rfl (by decide +kernel) ⟨by rw [← hR]; exact Nat.le_of_ble_eq_true rfl, by rw [← hR]; exact Nat.le_of_ble_eq_true rfl⟩) ⟨fun a U g mk q => by obtain ⟨q0, q1, q2, qK, q10, q11, q12, q13, q14⟩ := q; exact ⟨q0, q1, q2, jG.calling g mk a qK, q10, q11, q12, q13, q14⟩, hh_5.recv (C := RJ4) (T := TJ4) (N := 4) hB0 rfl (by decide) hg_bv hK, fun U hU hW => ⟨rfl, hU, hh_5.2.1, hG.step hW hU hh_5.1, hg_bv, hg_pa, (hh_5.2.2.1.sub (L1 := [(bv, 0, 3, .int pc), (bv, 0, 0, .ref pa)]) [1, 2] rfl), (hh_5.2.2.2.2.2.2.2.1.sub (L1 := [(pa, 196, n_pa, ca 0, fv)]) [0] rfl), by first | omega | (refine ⟨?_, ?_, ?_, ?_⟩ <;> (first | omega | rfl | assumption | decide | exact Or.inl rfl | exact Or.inr rfl | (simp only; omega)))⟩⟩ rfl rfl hl.1 rfl (lv_room (Nat.le_of_ble_eq_true rfl)) dX14_isLengthSoFar_40 ⟨Nat.zero_le _, Nat.zero_le _⟩) hh_5.1 (fun q _ h => h) (fun q h => h) (fun r_9 u_8 t_8 H_8 locs_8 ht_8 hvm_8 hr_9 hb_8 hz_8 hk_8 hS_8 => ?_)
            rw [ht_8] at hb_8
            obtain ⟨hb_81, hb_82, hb_83, hb_84, hb_85⟩ := hb_8
            have hh_8 : jSt (dC, dI) B base G0 G0 EX14_isLengthSoFar s.heap 0 0 [(r0, 16, 14, .ref bv), (bv, 0, 3, .int pc), (bv, 0, 0, .ref pa)] [(pa, 196, n_pa, ca 0, fv)] [] H_8 locs_8 := ((hh_5.call hb_81 hb_82 hb_83 hb_84 hS_8 rfl (L1 := [(r0, 16, 14, .ref bv), (bv, 0, 3, .int pc), (bv, 0, 0, .ref pa)]) [0, 1, 2] rfl rfl (M1 := [(pa, 196, n_pa, ca 0, fv)]) [0] rfl rfl (I1 := []) [] rfl rfl).more hb_85)
            clear hh_5 ht_8 hvm_8 hz_8 hk_8 hS_8 hb_81 hb_82 hb_83 hb_84 hb_85
            obtain ⟨hr_9_0, hr_9_1, hr_9_2⟩ := hr_9
            refine va_calli (A0 := jA base) (H0 := s.heap) (va_runS (As := [.int r_9]) (rest := []) ⟨hx, hb, hml, hown, hts⟩ (uX14_isDigit l dC dI ca base B hB hAp G0 H_8 r_9) (va_cwS 1 hts (jgS (jWr_49 _ (List.mem_of_getElem? (i := 18) rfl)) (jWr_49 _ (List.mem_of_getElem? (i := 19) rfl)) (jWr_1 _ (List.mem_of_getElem? (i := 5) rfl)) (jWr_49 _ (List.mem_of_getElem? (i := 20) rfl))) rfl rfl rfl (by decide +kernel) ⟨by rw [← hR]; exact Nat.le_of_ble_eq_true rfl, by rw [← hR]; exact Nat.le_of_ble_eq_true rfl⟩) ⟨fun a U g mk q => by obtain ⟨q0, q1, q2, qK, q10, q11⟩ := q; exact ⟨q0, q1, q2, jG.calling g mk a qK, q10, q11⟩, fun U hU hW => ⟨rfl, hU, hh_8.2.1, hG.step hW hU hh_8.1, jP.nil, trivial⟩⟩ rfl rfl hl.1 rfl (lv_room (Nat.le_of_ble_eq_true rfl)) dX14_isLengthSoFar_43 ⟨Nat.zero_le _, Nat.zero_le _⟩) hh_8.1 (fun q _ h => h) (fun q h => h) (fun r_11 u_10 t_10 H_10 locs_10 ht_10 hvm_10 hr_11 hb_10 hz_10 hk_10 hS_10 => ?_)
            rw [ht_10] at hb_10
            obtain ⟨hb_101, hb_102, hb_103, hb_104, hb_105⟩ := hb_10
            have hh_10 : jSt (dC, dI) B base G0 G0 EX14_isLengthSoFar s.heap 0 0 [(r0, 16, 14, .ref bv), (bv, 0, 3, .int pc), (bv, 0, 0, .ref pa)] [(pa, 196, n_pa, ca 0, fv)] [] H_10 locs_10 := ((hh_8.call hb_101 hb_102 hb_103 hb_104 hS_10 rfl (L1 := [(r0, 16, 14, .ref bv), (bv, 0, 3, .int pc), (bv, 0, 0, .ref pa)]) [0, 1, 2] rfl rfl (M1 := [(pa, 196, n_pa, ca 0, fv)]) [0] rfl rfl (I1 := []) [] rfl rfl).more hb_105)
            clear hh_8 ht_10 hvm_10 hz_10 hk_10 hS_10 hb_101 hb_102 hb_103 hb_104 hb_105
            obtain ⟨hr_11b, hr_11p⟩ := hr_11
            obtain ⟨hr_11p_0, hr_11p_1⟩ := hr_11p
            have hr_11' := jb_01 hr_11b
            refine lv_if_ne (tgt := 51) hx hb dX14_isLengthSoFar_46 (by decide) (fun c_12 => ?_) (fun c_12 => ?_)
            · skip
              have c_12' : r_11.toInt ≠ 0 := jb_ne (rfl) ((by decide)) c_12
              refine lv_bipush (v := 10) hx hb dX14_isLengthSoFar_51 (by decide) ?_
              refine lv_iload_n hx hb dX14_isLengthSoFar_53 rfl (lv_at hl 3 rfl) ?_
              refine lv_imul hx hb dX14_isLengthSoFar_54 ?_
              refine lv_topi (fun z_13 ez_13 => ?_)
              have hz_13 : z_13.toInt = 10 * v3_5.toInt := by rw [ez_13]; exact jb_imul2 ((by decide)) (rfl) (by omega)
              refine lv_aload_n hx hb dX14_isLengthSoFar_55 rfl (lv_at hl 0 rfl) ?_
              refine j7_read hx hb hown hK (C := RX14) (T := TX14) (N := 74) rfl hly_16_14 hlk_30 (hh_10.at 0 rfl) dX14_isLengthSoFar_56 ?_
              refine lv_iload hx hb dX14_isLengthSoFar_59 (lv_at hl 4 rfl) ?_
              refine va_calli (A0 := jA base) (H0 := s.heap) (va_runV (As := [.int v4_5]) (rest := [.int z_13]) ⟨hx, hb, hml, hown, hts⟩ (uJ4_charAt_5068e l dC dI ca base B hB hAp hB0 hB196 G0 H_10 bv v4_5 pc pa n_pa fv) (cwV 1 hts (jgV (jWr_49 _ (List.mem_of_getElem? (i := 2) rfl)) (jWr_49 _ (List.mem_of_getElem? (i := 3) rfl)) (jWr_49 _ (List.mem_of_getElem? (i := 4) rfl)) (jWr_11 _ (List.mem_of_getElem? (i := 0) rfl)) (jWr_49 _ (List.mem_of_getElem? (i := 5) rfl))) rfl rfl rfl (by decide +kernel) ⟨by rw [← hR]; exact Nat.le_of_ble_eq_true rfl, by rw [← hR]; exact Nat.le_of_ble_eq_true rfl⟩) ⟨fun a U g mk q => by obtain ⟨q0, q1, q2, qK, q10, q11, q12, q13, q14⟩ := q; exact ⟨q0, q1, q2, jG.calling g mk a qK, q10, q11, q12, q13, q14⟩, hh_10.recv (C := RJ4) (T := TJ4) (N := 4) hB0 rfl (by decide) hg_bv hK, fun U hU hW => ⟨rfl, hU, hh_10.2.1, hG.step hW hU hh_10.1, hg_bv, hg_pa, (hh_10.2.2.1.sub (L1 := [(bv, 0, 3, .int pc), (bv, 0, 0, .ref pa)]) [1, 2] rfl), (hh_10.2.2.2.2.2.2.2.1.sub (L1 := [(pa, 196, n_pa, ca 0, fv)]) [0] rfl), by first | omega | (refine ⟨?_, ?_, ?_, ?_⟩ <;> (first | omega | rfl | assumption | decide | exact Or.inl rfl | exact Or.inr rfl | (simp only; omega)))⟩⟩ rfl rfl hl.1 rfl (lv_room (Nat.le_of_ble_eq_true rfl)) dX14_isLengthSoFar_61 ⟨Nat.zero_le _, Nat.zero_le _⟩) hh_10.1 (fun q _ h => h) (fun q h => h) (fun r_15 u_14 t_14 H_14 locs_14 ht_14 hvm_14 hr_15 hb_14 hz_14 hk_14 hS_14 => ?_)
              rw [ht_14] at hb_14
              obtain ⟨hb_141, hb_142, hb_143, hb_144, hb_145⟩ := hb_14
              have hh_14 : jSt (dC, dI) B base G0 G0 EX14_isLengthSoFar s.heap 0 0 [(r0, 16, 14, .ref bv), (bv, 0, 3, .int pc), (bv, 0, 0, .ref pa)] [(pa, 196, n_pa, ca 0, fv)] [] H_14 locs_14 := ((hh_10.call hb_141 hb_142 hb_143 hb_144 hS_14 rfl (L1 := [(r0, 16, 14, .ref bv), (bv, 0, 3, .int pc), (bv, 0, 0, .ref pa)]) [0, 1, 2] rfl rfl (M1 := [(pa, 196, n_pa, ca 0, fv)]) [0] rfl rfl (I1 := []) [] rfl rfl).more hb_145)
              clear hh_10 ht_14 hvm_14 hz_14 hk_14 hS_14 hb_141 hb_142 hb_143 hb_144 hb_145
              obtain ⟨hr_15_0, hr_15_1, hr_15_2⟩ := hr_15
              refine lv_iadd hx hb dX14_isLengthSoFar_64 ?_
              refine lv_topi (fun z_16 ez_16 => ?_)
              have hz_16 : z_16.toInt = z_13.toInt + r_15.toInt := by rw [ez_16]; exact jb_iadd2 (rfl) (rfl) (by omega)
              refine lv_bipush (v := 48) hx hb dX14_isLengthSoFar_65 (by decide) ?_
              refine lv_isub hx hb dX14_isLengthSoFar_67 ?_
              refine lv_topi (fun z_17 ez_17 => ?_)
              have hz_17 : z_17.toInt = z_16.toInt - 48 := by rw [ez_17]; exact jb_isub2 (rfl) ((by decide)) (by omega)
              refine lv_istore_n (lv' := [(3, .int z_17), (0, .ref r0), (1, .int a1), (2, .int r_2), (4, .int v4_5)]) hx hb dX14_isLengthSoFar_68 rfl hl (by decide) rfl (fun ls hl => ?_)
              obtain ⟨z_18, ez_18⟩ : ∃ y : Int32, y = v4_5 + 1 := ⟨_, rfl⟩
              refine lv_iinc (v := z_18) (lv' := [(4, .int z_18), (3, .int z_17), (0, .ref r0), (1, .int a1), (2, .int r_2)]) hx hb dX14_isLengthSoFar_69 hl (k := 4) rfl (by rw [ez_18]; rfl) (by decide) rfl (fun ls hl => ?_)
              have hz_18 : z_18.toInt = v4_5.toInt + 1 := by rw [ez_18]; exact jb_iadd2 (rfl) (by decide) (by omega)
              refine lv_goto (tgt := 28) hx hb dX14_isLengthSoFar_72 (by decide) ?_
              exact L28 z_17 z_18 _ _ hh_14 (by have hd0 := hr_9_0; refine ⟨by omega, by omega, jNm_s hi_5_2 (by omega) hr_15_2 (by omega) (by omega), by omega, by omega, by omega, by omega, by omega, by omega, hi_5_9.snoc hr_9_2 (by omega) (by omega) (by omega)⟩) (by omega) _ (lv_sub hl [2, 3, 4, 1, 0] rfl)
            · skip
              have c_12' : r_11.toInt = 0 := jb_ne_n (rfl) ((by decide)) c_12
              refine lv_iconst (v := 0) hx hb dX14_isLengthSoFar_49 (by decide) ?_
              rw [hQ]
              exact W.zret (v := 0) hx hb hr (jb_nz (Or.inl rfl)) (fun t ht hW => ⟨⟨0, (), rfl, ⟨(Or.inl rfl), by refine ⟨by omega, by omega, fun h9 => ?_⟩; omega⟩, hh_10.rt (M1 := []) [] rfl ht⟩, by rw [ht]; try exact hh_10.1.1, fun q h9 hq => by rw [ht]; try exact hh_10.1.2.1 q h9 hq⟩) hh_10.1.2.2 dX14_isLengthSoFar_50
      exact L28 (pc.toInt - (0 : Int32).toInt : Int).toNat.succ 0 0 _ _ hh_1 (by refine ⟨by omega, by omega, by rw [hk0]; rfl, by omega, by omega, by omega, by omega, by omega, by omega, ?_⟩; rw [hk0]; exact fun i h0 h1 => by omega) (by omega) _ (lv_sub hl [3, 4, 2, 1, 0] rfl)
    · skip
      have c_4' : a1.toInt ≠ 0 := jb_eq_n (rfl) ((by decide)) c_4
      refine lv_iload_n hx hb dX14_isLengthSoFar_17 rfl (lv_at hl 0 rfl) ?_
      refine lv_if_ne (tgt := 23) hx hb dX14_isLengthSoFar_18 (by decide) (fun c_19 => ?_) (fun c_19 => ?_)
      · skip
        have c_19' : r_2.toInt ≠ 0 := jb_ne (rfl) ((by decide)) c_19
        refine lv_iconst (v := 0) hx hb dX14_isLengthSoFar_23 (by decide) ?_
        refine lv_istore_n (lv' := [(3, .int 0), (2, .int r_2), (0, .ref r0), (1, .int a1)]) hx hb dX14_isLengthSoFar_24 rfl hl (by decide) rfl (fun ls hl => ?_)
        refine lv_iconst (v := 0) hx hb dX14_isLengthSoFar_25 (by decide) ?_
        refine lv_istore (lv' := [(4, .int 0), (3, .int 0), (2, .int r_2), (0, .ref r0), (1, .int a1)]) hx hb dX14_isLengthSoFar_26 hl (by decide) rfl (fun ls hl => ?_)
        have L28 : ∀ (N : Nat) (v3_20 : Int32) (v4_20 : Int32) (H_20 : Heap) (locs_20 : List Loc), jSt (dC, dI) B base G0 G0 EX14_isLengthSoFar s.heap 0 0 [(r0, 16, 14, .ref bv), (bv, 0, 3, .int pc), (bv, 0, 0, .ref pa)] [(pa, 196, n_pa, ca 0, fv)] [] H_20 locs_20 → (0 ≤ v4_20.toInt ∧ v4_20.toInt ≤ pc.toInt ∧ v3_20.toInt = jNm fv (v4_20.toInt).toNat ∧ 0 ≤ v3_20.toInt ∧ (v4_20.toInt ≤ 0 → v3_20.toInt ≤ 0) ∧ (v4_20.toInt ≤ 1 → v3_20.toInt ≤ 9) ∧ (v4_20.toInt ≤ 2 → v3_20.toInt ≤ 99) ∧ (v4_20.toInt ≤ 3 → v3_20.toInt ≤ 999) ∧ v3_20.toInt ≤ 9999 ∧ jDg fv v4_20.toInt) → (pc.toInt - v4_20.toInt : Int) < N → ∀ ls : Array Slot, lv_has ls 5 [(0, .ref r0), (1, .int a1), (2, .int r_2), (3, .int v3_20), (4, .int v4_20)] → W p l e R s m ([.ref r0, .int a1] : List Value).toArray below meth c H_20 locs_20 0 0 Q (F0 m 28 ls []) := by
          intro N
          induction N with
          | zero => intro v3_20 v4_20 H_20 locs_20 hh_20  hi_20 hm; exact absurd hm (by omega)
          | succ N L28 =>
            intro v3_20 v4_20 H_20 locs_20 hh_20  hi_20 hm_20 ls hl
            obtain ⟨hi_20_0, hi_20_1, hi_20_2, hi_20_3, hi_20_4, hi_20_5, hi_20_6, hi_20_7, hi_20_8, hi_20_9⟩ := hi_20
            refine lv_iload hx hb dX14_isLengthSoFar_28 (lv_at hl 4 rfl) ?_
            refine lv_iload_n hx hb dX14_isLengthSoFar_30 rfl (lv_at hl 2 rfl) ?_
            refine lv_icmp_ge (tgt := 75) hx hb dX14_isLengthSoFar_31 (by decide) (fun c_21 => ?_) (fun c_21 => ?_)
            · skip
              have c_21' : v4_20.toInt ≥ r_2.toInt := jb_ge (rfl) (rfl) c_21
              refine lv_iload_n hx hb dX14_isLengthSoFar_75 rfl (lv_at hl 3 rfl) ?_
              refine lv_sipush (v := 3000) hx hb dX14_isLengthSoFar_76 (by decide) ?_
              refine lv_icmp_gt (tgt := 86) hx hb dX14_isLengthSoFar_79 (by decide) (fun c_22 => ?_) (fun c_22 => ?_)
              · skip
                have c_22' : v3_20.toInt > 3000 := jb_gt (rfl) ((by decide)) c_22
                refine lv_iconst (v := 0) hx hb dX14_isLengthSoFar_86 (by decide) ?_
                rw [hQ]
                exact W.zret (v := 0) hx hb hr (jb_nz (Or.inl rfl)) (fun t ht hW => ⟨⟨0, (), rfl, ⟨(Or.inl rfl), by refine ⟨by omega, by omega, fun h9 => ?_⟩; omega⟩, hh_20.rt (M1 := []) [] rfl ht⟩, by rw [ht]; try exact hh_20.1.1, fun q h9 hq => by rw [ht]; try exact hh_20.1.2.1 q h9 hq⟩) hh_20.1.2.2 dX14_isLengthSoFar_87
              · skip
                have c_22' : v3_20.toInt ≤ 3000 := jb_gt_n (rfl) ((by decide)) c_22
                refine lv_iconst (v := 1) hx hb dX14_isLengthSoFar_82 (by decide) ?_
                refine lv_goto (tgt := 87) hx hb dX14_isLengthSoFar_83 (by decide) ?_
                rw [hQ]
                exact W.zret (v := 1) hx hb hr (jb_nz (Or.inr rfl)) (fun t ht hW => ⟨⟨1, (), rfl, ⟨(Or.inr rfl), by refine ⟨by omega, by omega, fun _ => ⟨by omega, ?_, ?_⟩⟩; (rw [show pc.toInt = v4_20.toInt by omega]; exact hi_20_9); (rw [show pc.toInt = v4_20.toInt by omega, ← hi_20_2]; omega)⟩, hh_20.rt (M1 := []) [] rfl ht⟩, by rw [ht]; try exact hh_20.1.1, fun q h9 hq => by rw [ht]; try exact hh_20.1.2.1 q h9 hq⟩) hh_20.1.2.2 dX14_isLengthSoFar_87
            · skip
              have c_21' : v4_20.toInt < r_2.toInt := jb_ge_n (rfl) (rfl) c_21
              refine lv_aload_n hx hb dX14_isLengthSoFar_34 rfl (lv_at hl 0 rfl) ?_
              refine j7_read hx hb hown hK (C := RX14) (T := TX14) (N := 74) rfl hly_16_14 hlk_30 (hh_20.at 0 rfl) dX14_isLengthSoFar_35 ?_
              refine lv_iload hx hb dX14_isLengthSoFar_38 (lv_at hl 4 rfl) ?_
              refine va_calli (A0 := jA base) (H0 := s.heap) (va_runV (As := [.int v4_20]) (rest := []) ⟨hx, hb, hml, hown, hts⟩ (uJ4_charAt_5068e l dC dI ca base B hB hAp hB0 hB196 G0 H_20 bv v4_20 pc pa n_pa fv) (cwV 1 hts (jgV (jWr_49 _ (List.mem_of_getElem? (i := 2) rfl)) (jWr_49 _ (List.mem_of_getElem? (i := 3) rfl)) (jWr_49 _ (List.mem_of_getElem? (i := 4) rfl)) (jWr_11 _ (List.mem_of_getElem? (i := 0) rfl)) (jWr_49 _ (List.mem_of_getElem? (i := 5) rfl))) rfl rfl rfl (by decide +kernel) ⟨by rw [← hR]; exact Nat.le_of_ble_eq_true rfl, by rw [← hR]; exact Nat.le_of_ble_eq_true rfl⟩) ⟨fun a U g mk q => by obtain ⟨q0, q1, q2, qK, q10, q11, q12, q13, q14⟩ := q; exact ⟨q0, q1, q2, jG.calling g mk a qK, q10, q11, q12, q13, q14⟩, hh_20.recv (C := RJ4) (T := TJ4) (N := 4) hB0 rfl (by decide) hg_bv hK, fun U hU hW => ⟨rfl, hU, hh_20.2.1, hG.step hW hU hh_20.1, hg_bv, hg_pa, (hh_20.2.2.1.sub (L1 := [(bv, 0, 3, .int pc), (bv, 0, 0, .ref pa)]) [1, 2] rfl), (hh_20.2.2.2.2.2.2.2.1.sub (L1 := [(pa, 196, n_pa, ca 0, fv)]) [0] rfl), by first | omega | (refine ⟨?_, ?_, ?_, ?_⟩ <;> (first | omega | rfl | assumption | decide | exact Or.inl rfl | exact Or.inr rfl | (simp only; omega)))⟩⟩ rfl rfl hl.1 rfl (lv_room (Nat.le_of_ble_eq_true rfl)) dX14_isLengthSoFar_40 ⟨Nat.zero_le _, Nat.zero_le _⟩) hh_20.1 (fun q _ h => h) (fun q h => h) (fun r_24 u_23 t_23 H_23 locs_23 ht_23 hvm_23 hr_24 hb_23 hz_23 hk_23 hS_23 => ?_)
              rw [ht_23] at hb_23
              obtain ⟨hb_231, hb_232, hb_233, hb_234, hb_235⟩ := hb_23
              have hh_23 : jSt (dC, dI) B base G0 G0 EX14_isLengthSoFar s.heap 0 0 [(r0, 16, 14, .ref bv), (bv, 0, 3, .int pc), (bv, 0, 0, .ref pa)] [(pa, 196, n_pa, ca 0, fv)] [] H_23 locs_23 := ((hh_20.call hb_231 hb_232 hb_233 hb_234 hS_23 rfl (L1 := [(r0, 16, 14, .ref bv), (bv, 0, 3, .int pc), (bv, 0, 0, .ref pa)]) [0, 1, 2] rfl rfl (M1 := [(pa, 196, n_pa, ca 0, fv)]) [0] rfl rfl (I1 := []) [] rfl rfl).more hb_235)
              clear hh_20 ht_23 hvm_23 hz_23 hk_23 hS_23 hb_231 hb_232 hb_233 hb_234 hb_235
              obtain ⟨hr_24_0, hr_24_1, hr_24_2⟩ := hr_24
              refine va_calli (A0 := jA base) (H0 := s.heap) (va_runS (As := [.int r_24]) (rest := []) ⟨hx, hb, hml, hown, hts⟩ (uX14_isDigit l dC dI ca base B hB hAp G0 H_23 r_24) (va_cwS 1 hts (jgS (jWr_49 _ (List.mem_of_getElem? (i := 18) rfl)) (jWr_49 _ (List.mem_of_getElem? (i := 19) rfl)) (jWr_1 _ (List.mem_of_getElem? (i := 5) rfl)) (jWr_49 _ (List.mem_of_getElem? (i := 20) rfl))) rfl rfl rfl (by decide +kernel) ⟨by rw [← hR]; exact Nat.le_of_ble_eq_true rfl, by rw [← hR]; exact Nat.le_of_ble_eq_true rfl⟩) ⟨fun a U g mk q => by obtain ⟨q0, q1, q2, qK, q10, q11⟩ := q; exact ⟨q0, q1, q2, jG.calling g mk a qK, q10, q11⟩, fun U hU hW => ⟨rfl, hU, hh_23.2.1, hG.step hW hU hh_23.1, jP.nil, trivial⟩⟩ rfl rfl hl.1 rfl (lv_room (Nat.le_of_ble_eq_true rfl)) dX14_isLengthSoFar_43 ⟨Nat.zero_le _, Nat.zero_le _⟩) hh_23.1 (fun q _ h => h) (fun q h => h) (fun r_26 u_25 t_25 H_25 locs_25 ht_25 hvm_25 hr_26 hb_25 hz_25 hk_25 hS_25 => ?_)
              rw [ht_25] at hb_25
              obtain ⟨hb_251, hb_252, hb_253, hb_254, hb_255⟩ := hb_25
              have hh_25 : jSt (dC, dI) B base G0 G0 EX14_isLengthSoFar s.heap 0 0 [(r0, 16, 14, .ref bv), (bv, 0, 3, .int pc), (bv, 0, 0, .ref pa)] [(pa, 196, n_pa, ca 0, fv)] [] H_25 locs_25 := ((hh_23.call hb_251 hb_252 hb_253 hb_254 hS_25 rfl (L1 := [(r0, 16, 14, .ref bv), (bv, 0, 3, .int pc), (bv, 0, 0, .ref pa)]) [0, 1, 2] rfl rfl (M1 := [(pa, 196, n_pa, ca 0, fv)]) [0] rfl rfl (I1 := []) [] rfl rfl).more hb_255)
              clear hh_23 ht_25 hvm_25 hz_25 hk_25 hS_25 hb_251 hb_252 hb_253 hb_254 hb_255
              obtain ⟨hr_26b, hr_26p⟩ := hr_26
              obtain ⟨hr_26p_0, hr_26p_1⟩ := hr_26p
              have hr_26' := jb_01 hr_26b
              refine lv_if_ne (tgt := 51) hx hb dX14_isLengthSoFar_46 (by decide) (fun c_27 => ?_) (fun c_27 => ?_)
              · skip
                have c_27' : r_26.toInt ≠ 0 := jb_ne (rfl) ((by decide)) c_27
                refine lv_bipush (v := 10) hx hb dX14_isLengthSoFar_51 (by decide) ?_
                refine lv_iload_n hx hb dX14_isLengthSoFar_53 rfl (lv_at hl 3 rfl) ?_
                refine lv_imul hx hb dX14_isLengthSoFar_54 ?_
                refine lv_topi (fun z_28 ez_28 => ?_)
                have hz_28 : z_28.toInt = 10 * v3_20.toInt := by rw [ez_28]; exact jb_imul2 ((by decide)) (rfl) (by omega)
                refine lv_aload_n hx hb dX14_isLengthSoFar_55 rfl (lv_at hl 0 rfl) ?_
                refine j7_read hx hb hown hK (C := RX14) (T := TX14) (N := 74) rfl hly_16_14 hlk_30 (hh_25.at 0 rfl) dX14_isLengthSoFar_56 ?_
                refine lv_iload hx hb dX14_isLengthSoFar_59 (lv_at hl 4 rfl) ?_
                refine va_calli (A0 := jA base) (H0 := s.heap) (va_runV (As := [.int v4_20]) (rest := [.int z_28]) ⟨hx, hb, hml, hown, hts⟩ (uJ4_charAt_5068e l dC dI ca base B hB hAp hB0 hB196 G0 H_25 bv v4_20 pc pa n_pa fv) (cwV 1 hts (jgV (jWr_49 _ (List.mem_of_getElem? (i := 2) rfl)) (jWr_49 _ (List.mem_of_getElem? (i := 3) rfl)) (jWr_49 _ (List.mem_of_getElem? (i := 4) rfl)) (jWr_11 _ (List.mem_of_getElem? (i := 0) rfl)) (jWr_49 _ (List.mem_of_getElem? (i := 5) rfl))) rfl rfl rfl (by decide +kernel) ⟨by rw [← hR]; exact Nat.le_of_ble_eq_true rfl, by rw [← hR]; exact Nat.le_of_ble_eq_true rfl⟩) ⟨fun a U g mk q => by obtain ⟨q0, q1, q2, qK, q10, q11, q12, q13, q14⟩ := q; exact ⟨q0, q1, q2, jG.calling g mk a qK, q10, q11, q12, q13, q14⟩, hh_25.recv (C := RJ4) (T := TJ4) (N := 4) hB0 rfl (by decide) hg_bv hK, fun U hU hW => ⟨rfl, hU, hh_25.2.1, hG.step hW hU hh_25.1, hg_bv, hg_pa, (hh_25.2.2.1.sub (L1 := [(bv, 0, 3, .int pc), (bv, 0, 0, .ref pa)]) [1, 2] rfl), (hh_25.2.2.2.2.2.2.2.1.sub (L1 := [(pa, 196, n_pa, ca 0, fv)]) [0] rfl), by first | omega | (refine ⟨?_, ?_, ?_, ?_⟩ <;> (first | omega | rfl | assumption | decide | exact Or.inl rfl | exact Or.inr rfl | (simp only; omega)))⟩⟩ rfl rfl hl.1 rfl (lv_room (Nat.le_of_ble_eq_true rfl)) dX14_isLengthSoFar_61 ⟨Nat.zero_le _, Nat.zero_le _⟩) hh_25.1 (fun q _ h => h) (fun q h => h) (fun r_30 u_29 t_29 H_29 locs_29 ht_29 hvm_29 hr_30 hb_29 hz_29 hk_29 hS_29 => ?_)
                rw [ht_29] at hb_29
                obtain ⟨hb_291, hb_292, hb_293, hb_294, hb_295⟩ := hb_29
                have hh_29 : jSt (dC, dI) B base G0 G0 EX14_isLengthSoFar s.heap 0 0 [(r0, 16, 14, .ref bv), (bv, 0, 3, .int pc), (bv, 0, 0, .ref pa)] [(pa, 196, n_pa, ca 0, fv)] [] H_29 locs_29 := ((hh_25.call hb_291 hb_292 hb_293 hb_294 hS_29 rfl (L1 := [(r0, 16, 14, .ref bv), (bv, 0, 3, .int pc), (bv, 0, 0, .ref pa)]) [0, 1, 2] rfl rfl (M1 := [(pa, 196, n_pa, ca 0, fv)]) [0] rfl rfl (I1 := []) [] rfl rfl).more hb_295)
                clear hh_25 ht_29 hvm_29 hz_29 hk_29 hS_29 hb_291 hb_292 hb_293 hb_294 hb_295
                obtain ⟨hr_30_0, hr_30_1, hr_30_2⟩ := hr_30
                refine lv_iadd hx hb dX14_isLengthSoFar_64 ?_
                refine lv_topi (fun z_31 ez_31 => ?_)
                have hz_31 : z_31.toInt = z_28.toInt + r_30.toInt := by rw [ez_31]; exact jb_iadd2 (rfl) (rfl) (by omega)
                refine lv_bipush (v := 48) hx hb dX14_isLengthSoFar_65 (by decide) ?_
                refine lv_isub hx hb dX14_isLengthSoFar_67 ?_
                refine lv_topi (fun z_32 ez_32 => ?_)
                have hz_32 : z_32.toInt = z_31.toInt - 48 := by rw [ez_32]; exact jb_isub2 (rfl) ((by decide)) (by omega)
                refine lv_istore_n (lv' := [(3, .int z_32), (0, .ref r0), (1, .int a1), (2, .int r_2), (4, .int v4_20)]) hx hb dX14_isLengthSoFar_68 rfl hl (by decide) rfl (fun ls hl => ?_)
                obtain ⟨z_33, ez_33⟩ : ∃ y : Int32, y = v4_20 + 1 := ⟨_, rfl⟩
                refine lv_iinc (v := z_33) (lv' := [(4, .int z_33), (3, .int z_32), (0, .ref r0), (1, .int a1), (2, .int r_2)]) hx hb dX14_isLengthSoFar_69 hl (k := 4) rfl (by rw [ez_33]; rfl) (by decide) rfl (fun ls hl => ?_)
                have hz_33 : z_33.toInt = v4_20.toInt + 1 := by rw [ez_33]; exact jb_iadd2 (rfl) (by decide) (by omega)
                refine lv_goto (tgt := 28) hx hb dX14_isLengthSoFar_72 (by decide) ?_
                exact L28 z_32 z_33 _ _ hh_29 (by have hd0 := hr_24_0; refine ⟨by omega, by omega, jNm_s hi_20_2 (by omega) hr_30_2 (by omega) (by omega), by omega, by omega, by omega, by omega, by omega, by omega, hi_20_9.snoc hr_24_2 (by omega) (by omega) (by omega)⟩) (by omega) _ (lv_sub hl [2, 3, 4, 1, 0] rfl)
              · skip
                have c_27' : r_26.toInt = 0 := jb_ne_n (rfl) ((by decide)) c_27
                refine lv_iconst (v := 0) hx hb dX14_isLengthSoFar_49 (by decide) ?_
                rw [hQ]
                exact W.zret (v := 0) hx hb hr (jb_nz (Or.inl rfl)) (fun t ht hW => ⟨⟨0, (), rfl, ⟨(Or.inl rfl), by refine ⟨by omega, by omega, fun h9 => ?_⟩; omega⟩, hh_25.rt (M1 := []) [] rfl ht⟩, by rw [ht]; try exact hh_25.1.1, fun q h9 hq => by rw [ht]; try exact hh_25.1.2.1 q h9 hq⟩) hh_25.1.2.2 dX14_isLengthSoFar_50
        exact L28 (pc.toInt - (0 : Int32).toInt : Int).toNat.succ 0 0 _ _ hh_1 (by refine ⟨by omega, by omega, by rw [hk0]; rfl, by omega, by omega, by omega, by omega, by omega, by omega, ?_⟩; rw [hk0]; exact fun i h0 h1 => by omega) (by omega) _ (lv_sub hl [3, 4, 2, 1, 0] rfl)
      · skip
        have c_19' : r_2.toInt = 0 := jb_ne_n (rfl) ((by decide)) c_19
        refine lv_iconst (v := 0) hx hb dX14_isLengthSoFar_21 (by decide) ?_
        rw [hQ]
        exact W.zret (v := 0) hx hb hr (jb_nz (Or.inl rfl)) (fun t ht hW => ⟨⟨0, (), rfl, ⟨(Or.inl rfl), by refine ⟨by omega, by omega, fun h9 => ?_⟩; omega⟩, hh_1.rt (M1 := []) [] rfl ht⟩, by rw [ht]; try exact hh_1.1.1, fun q h9 hq => by rw [ht]; try exact hh_1.1.2.1 q h9 hq⟩) hh_1.1.2.2 dX14_isLengthSoFar_22
set_option maxHeartbeats 4000000 in
set_option maxRecDepth 20000 in
theorem uX14_isContentLength (l : Launch) (dC : Nat → ClassId) (dI : Nat → Nat → Nat) (ca : Nat → ClassId) (base : Nat) (B : jF) (hB : jBok B) (hAp : jAp (dC, dI)) (hB0 : ∀ n G a H, B 0 n G a H ↔ jOb (dC, dI) 0 4 (Fz0 n G) a H) (hB16 : ∀ n G a H, B 16 n G a H ↔ jOb (dC, dI) 16 74 (F16 n G) a H) (hB196 : ∀ n G a H, B 196 n G a H ↔ jAr (dC, dI) (ca 0) (fun j z => jBf j z) n a H) (G0 : jT) (H0 : Heap) (r0 : Nat) (bn : Nat) (pc : Int32) (pa : Nat) (n_pa : Nat) (fv : Nat → Int32) : Met l yX14_isContentLength (jw yX14_isContentLength cX14_isContentLength 4 (some .boolean)) ({ frames := 4, cells := 0, slots := 0, locals := 141 }) (va_Pc [.ref r0] (fun U => U.heap = H0 ∧ jX B base G0 [] H0 ∧ jG dC dI ca base U ∧ G0 r0 = some (16, 0) ∧ G0 bn = some (0, 0) ∧ G0 pa = some (196, n_pa) ∧ jP (dC, dI) G0 H0 [(r0, 16, 13, .ref bn), (bn, 0, 3, .int pc), (bn, 0, 0, .ref pa)] ∧ jMc (dC, dI) G0 H0 [(pa, 196, n_pa, ca 0, fv)] ∧ 0 ≤ pc.toInt ∧ pc.toInt ≤ n_pa ∧ n_pa ≤ 1000)) (va_Qi (S := Unit) (fun r u => (r = 0 ∨ r = 1) ∧ (True)) (fun u t => jRt (dC, dI) B base G0 EX14_isContentLength H0 [] t.heap) (jA base)) 0 0 (jA base) := by
  refine Met.ofW (cc := cX14_isContentLength) (maxL := 4) (ret := (some .boolean)) (by decide) rfl ?_
  intro p e s m args below meth c s₁ Bd hml hv
  obtain ⟨rfl, hH0, hX, hG, hg_r0, hg_bn, hg_pa, hP0, hM0, hp0, hp1, hp2⟩ := hv
  have hK := hG.1
  have hx := Bd.exec
  have hb := Bd.bytes
  have hr := Bd.returns
  have hts := atoms_spec (ws := (jw yX14_isContentLength cX14_isContentLength 4 (some .boolean))) Bd.pre
  have htw : ∀ w ∈ jWl, w.before _ s = true := fun w h => hts w (List.mem_cons_of_mem _ h)
  have hown : s.vm.findClass RX14 = some m.cls := findClass_of_methodNamed Bd.named
  have hlocks := Bd.notSynchronized
  obtain ⟨Q, hQ⟩ : ∃ Q, Q = MQ below (va_Qi (S := Unit) (fun r u => (r = 0 ∨ r = 1) ∧ (True)) (fun u t => jRt (dC, dI) B base G0 EX14_isContentLength H0 [] t.heap) (jA base)) ([.ref r0] : List Value).toArray s 0 0 (jA base) := ⟨_, rfl⟩
  rw [← hQ]
  have hl := lv_entry ([.ref r0]) (n := 4) (Nat.le_of_ble_eq_true rfl)
  rw [lg_entry_eq]
  generalize (lg_sl ([.ref r0]) ++ List.replicate (4 - (lg_sl ([.ref r0])).length) Slot.unset).toArray = ls at hl ⊢
  have hl : lv_has ls 4 [(0, .ref r0)] := hl
  generalize hR : (headSpec (jw yX14_isContentLength cX14_isContentLength 4 (some .boolean)) ({ frames := 4, cells := 0, slots := 0, locals := 141 })).room = R
  subst hH0
  have hh : jSt (dC, dI) B base G0 G0 EX14_isContentLength s.heap 0 0 [(r0, 16, 13, .ref bn), (bn, 0, 3, .int pc), (bn, 0, 0, .ref pa)] [(pa, 196, n_pa, ca 0, fv)] [] s.heap [] := jSt.start hX hP0 hM0 jIs.nil
  clear hX hP0
  have hk0 : (0 : Int32).toInt = 0 := by decide
  have hk1 : (1 : Int32).toInt = 1 := by decide
  have hk32 : (32 : Int32).toInt = 32 := by decide
  have hk65 : (65 : Int32).toInt = 65 := by decide
  have hk90 : (90 : Int32).toInt = 90 := by decide
  have hly_16_13 := htw (u_lay RX14 TX14 13) (jWc_wsX140 _ (u_in_lay (by decide)))
  obtain ⟨str220, rstr220, hstr2200⟩ := hG.str (o := RX14) (k := 220) (tx := "content-length") (List.mem_of_getElem? (i := 2274) (by decide +kernel))
  have hstr220 : jStr base str220 14 s s.heap := hstr2200
  have hlk_26 := (htw (.fieldLink RX14 26 "ProofServerModel" "name" "Ljava/lang/StringBuilder;") (jWr_11 _ (List.mem_of_getElem? (i := 1) rfl)))
  refine va_ldcS hx hb hown rstr220 dX14_isContentLength_0 ?_
  refine lv_astore_n (lv' := [(1, .ref str220), (0, .ref r0)]) hx hb dX14_isContentLength_2 rfl hl (by decide) rfl (fun ls hl => ?_)
  refine lv_aload_n hx hb dX14_isContentLength_3 rfl (lv_at hl 1 rfl) ?_
  refine j7_read hx hb hown hK (C := RX14) (T := TX14) (N := 74) rfl hly_16_13 hlk_26 (hh.at 0 rfl) dX14_isContentLength_4 ?_
  refine va_calli (A0 := jA base) (H0 := s.heap) (va_runV (As := []) (rest := []) ⟨hx, hb, hml, hown, hts⟩ (uJ4_length_8abf5 l dC dI ca base B hB hAp hB0 G0 s.heap bn pc) (cwV 0 hts (jgV (jWr_48 _ (List.mem_of_getElem? (i := 17) rfl)) (jWr_48 _ (List.mem_of_getElem? (i := 18) rfl)) (jWr_48 _ (List.mem_of_getElem? (i := 19) rfl)) (jWr_11 _ (List.mem_of_getElem? (i := 0) rfl)) (jWr_48 _ (List.mem_of_getElem? (i := 20) rfl))) rfl rfl rfl (by decide +kernel) ⟨by rw [← hR]; exact Nat.le_of_ble_eq_true rfl, by rw [← hR]; exact Nat.le_of_ble_eq_true rfl⟩) ⟨fun a U g mk q => by obtain ⟨q0, q1, q2, qK, q10, q11, q12⟩ := q; exact ⟨q0, q1, q2, jG.calling g mk a qK, q10, q11, q12⟩, hh.recv (C := RJ4) (T := TJ4) (N := 4) hB0 rfl (by decide) hg_bn hK, fun U hU hW => ⟨rfl, hU, hh.2.1, hG.step hW hU hh.1, hg_bn, (hh.2.2.1.sub (L1 := [(bn, 0, 3, .int pc)]) [1] rfl), trivial⟩⟩ rfl rfl hl.1 rfl (lv_room (Nat.le_of_ble_eq_true rfl)) dX14_isContentLength_7 ⟨Nat.zero_le _, Nat.zero_le _⟩) hh.1 (fun q _ h => h) (fun q h => h) (fun r_2 u_1 t_1 H_1 locs_1 ht_1 hvm_1 hr_2 hb_1 hz_1 hk_1 hS_1 => ?_)
  rw [ht_1] at hb_1
  obtain ⟨hb_11, hb_12, hb_13, hb_14, hb_15⟩ := hb_1
  have hh_1 : jSt (dC, dI) B base G0 G0 EX14_isContentLength s.heap 0 0 [(r0, 16, 13, .ref bn), (bn, 0, 3, .int pc), (bn, 0, 0, .ref pa)] [(pa, 196, n_pa, ca 0, fv)] [] H_1 locs_1 := ((hh.call hb_11 hb_12 hb_13 hb_14 hS_1 rfl (L1 := [(r0, 16, 13, .ref bn), (bn, 0, 3, .int pc), (bn, 0, 0, .ref pa)]) [0, 1, 2] rfl rfl (M1 := [(pa, 196, n_pa, ca 0, fv)]) [0] rfl rfl (I1 := []) [] rfl rfl).more hb_15)
  clear hh ht_1 hvm_1 hz_1 hk_1 hS_1 hb_11 hb_12 hb_13 hb_14 hb_15
  refine lv_aload_n hx hb dX14_isContentLength_10 rfl (lv_at hl 0 rfl) ?_
  refine vp_callSi (W.runV (As := []) (rest := [.int r_2]) ⟨hx, hb, hml, hown, hts⟩ (wJ0_length_8abf5 l dC dI ca base H_1 str220 14) (cwV 0 hts (jgV (jWr_49 _ (List.mem_of_getElem? (i := 1) rfl)) (jWr_5 _ (List.mem_of_getElem? (i := 13) rfl)) (jWr_5 _ (List.mem_of_getElem? (i := 14) rfl)) (jWr_5 _ (List.mem_of_getElem? (i := 15) rfl)) (jWr_5 _ (List.mem_of_getElem? (i := 16) rfl))) rfl rfl rfl (by decide +kernel) ⟨by rw [← hR]; exact Nat.le_of_ble_eq_true rfl, by rw [← hR]; exact Nat.le_of_ble_eq_true rfl⟩) ⟨fun a U g mk q => by obtain ⟨q0, q1, q2, qK, q9⟩ := q; exact ⟨q0, q1, (q2.moved (Vm.Alike.refl U.vm)), jG.calling g mk a qK, q9⟩, jStr_recv hstr220 hh_1.1, fun U hU hW => ⟨rfl, hU, (hstr220.moved hW.alike).kept hh_1.1.2.1, hG.step hW hU hh_1.1, by omega⟩⟩ rfl rfl hl.1 rfl (lv_room (Nat.le_of_ble_eq_true rfl)) dX14_isContentLength_11 ⟨Nat.zero_le _, Nat.zero_le _⟩) (fun r_3 hr_3 => ?_)
  refine lv_icmp_eq (tgt := 19) hx hb dX14_isContentLength_14 (by decide) (fun c_4 => ?_) (fun c_4 => ?_)
  · skip
    have c_4' : r_2.toInt = r_3.toInt := jb_eq (rfl) (rfl) c_4
    refine lv_iconst (v := 0) hx hb dX14_isContentLength_19 (by decide) ?_
    refine lv_istore_n (lv' := [(2, .int 0), (1, .ref str220), (0, .ref r0)]) hx hb dX14_isContentLength_20 rfl hl (by decide) rfl (fun ls hl => ?_)
    have L21 : ∀ (N : Nat) (v2_5 : Int32) (H_5 : Heap) (locs_5 : List Loc), jSt (dC, dI) B base G0 G0 EX14_isContentLength s.heap 0 0 [(r0, 16, 13, .ref bn), (bn, 0, 3, .int pc), (bn, 0, 0, .ref pa)] [(pa, 196, n_pa, ca 0, fv)] [] H_5 locs_5 → (0 ≤ v2_5.toInt ∧ v2_5.toInt ≤ 14) → (14 - v2_5.toInt : Int) < N → ∀ ls : Array Slot, lv_has ls 4 [(0, .ref r0), (1, .ref str220), (2, .int v2_5)] → W p l e R s m ([.ref r0] : List Value).toArray below meth c H_5 locs_5 0 0 Q (F0 m 21 ls []) := by
      intro N
      induction N with
      | zero => intro v2_5 H_5 locs_5 hh_5  hi_5 hm; exact absurd hm (by omega)
      | succ N L21 =>
        intro v2_5 H_5 locs_5 hh_5  hi_5 hm_5 ls hl
        obtain ⟨hi_5_0, hi_5_1⟩ := hi_5
        refine lv_iload_n hx hb dX14_isContentLength_21 rfl (lv_at hl 2 rfl) ?_
        refine lv_aload_n hx hb dX14_isContentLength_22 rfl (lv_at hl 1 rfl) ?_
        refine vp_callSi (W.runV (As := []) (rest := [.int v2_5]) ⟨hx, hb, hml, hown, hts⟩ (wJ0_length_8abf5 l dC dI ca base H_5 str220 14) (cwV 0 hts (jgV (jWr_49 _ (List.mem_of_getElem? (i := 1) rfl)) (jWr_5 _ (List.mem_of_getElem? (i := 13) rfl)) (jWr_5 _ (List.mem_of_getElem? (i := 14) rfl)) (jWr_5 _ (List.mem_of_getElem? (i := 15) rfl)) (jWr_5 _ (List.mem_of_getElem? (i := 16) rfl))) rfl rfl rfl (by decide +kernel) ⟨by rw [← hR]; exact Nat.le_of_ble_eq_true rfl, by rw [← hR]; exact Nat.le_of_ble_eq_true rfl⟩) ⟨fun a U g mk q => by obtain ⟨q0, q1, q2, qK, q9⟩ := q; exact ⟨q0, q1, (q2.moved (Vm.Alike.refl U.vm)), jG.calling g mk a qK, q9⟩, jStr_recv hstr220 hh_5.1, fun U hU hW => ⟨rfl, hU, (hstr220.moved hW.alike).kept hh_5.1.2.1, hG.step hW hU hh_5.1, by omega⟩⟩ rfl rfl hl.1 rfl (lv_room (Nat.le_of_ble_eq_true rfl)) dX14_isContentLength_23 ⟨Nat.zero_le _, Nat.zero_le _⟩) (fun r_6 hr_6 => ?_)
        refine lv_icmp_ge (tgt := 73) hx hb dX14_isContentLength_26 (by decide) (fun c_7 => ?_) (fun c_7 => ?_)
        · skip
          have c_7' : v2_5.toInt ≥ r_6.toInt := jb_ge (rfl) (rfl) c_7
          refine lv_iconst (v := 1) hx hb dX14_isContentLength_73 (by decide) ?_
          rw [hQ]
          exact W.zret (v := 1) hx hb hr (jb_nz (Or.inr rfl)) (fun t ht hW => ⟨⟨1, (), rfl, ⟨(Or.inr rfl), trivial⟩, hh_5.rt (M1 := []) [] rfl ht⟩, by rw [ht]; try exact hh_5.1.1, fun q h9 hq => by rw [ht]; try exact hh_5.1.2.1 q h9 hq⟩) hh_5.1.2.2 dX14_isContentLength_74
        · skip
          have c_7' : v2_5.toInt < r_6.toInt := jb_ge_n (rfl) (rfl) c_7
          refine lv_aload_n hx hb dX14_isContentLength_29 rfl (lv_at hl 0 rfl) ?_
          refine j7_read hx hb hown hK (C := RX14) (T := TX14) (N := 74) rfl hly_16_13 hlk_26 (hh_5.at 0 rfl) dX14_isContentLength_30 ?_
          refine lv_iload_n hx hb dX14_isContentLength_33 rfl (lv_at hl 2 rfl) ?_
          refine va_calli (A0 := jA base) (H0 := s.heap) (va_runV (As := [.int v2_5]) (rest := []) ⟨hx, hb, hml, hown, hts⟩ (uJ4_charAt_5068e l dC dI ca base B hB hAp hB0 hB196 G0 H_5 bn v2_5 pc pa n_pa fv) (cwV 1 hts (jgV (jWr_49 _ (List.mem_of_getElem? (i := 2) rfl)) (jWr_49 _ (List.mem_of_getElem? (i := 3) rfl)) (jWr_49 _ (List.mem_of_getElem? (i := 4) rfl)) (jWr_11 _ (List.mem_of_getElem? (i := 0) rfl)) (jWr_49 _ (List.mem_of_getElem? (i := 5) rfl))) rfl rfl rfl (by decide +kernel) ⟨by rw [← hR]; exact Nat.le_of_ble_eq_true rfl, by rw [← hR]; exact Nat.le_of_ble_eq_true rfl⟩) ⟨fun a U g mk q => by obtain ⟨q0, q1, q2, qK, q10, q11, q12, q13, q14⟩ := q; exact ⟨q0, q1, q2, jG.calling g mk a qK, q10, q11, q12, q13, q14⟩, hh_5.recv (C := RJ4) (T := TJ4) (N := 4) hB0 rfl (by decide) hg_bn hK, fun U hU hW => ⟨rfl, hU, hh_5.2.1, hG.step hW hU hh_5.1, hg_bn, hg_pa, (hh_5.2.2.1.sub (L1 := [(bn, 0, 3, .int pc), (bn, 0, 0, .ref pa)]) [1, 2] rfl), (hh_5.2.2.2.2.2.2.2.1.sub (L1 := [(pa, 196, n_pa, ca 0, fv)]) [0] rfl), by first | omega | (refine ⟨?_, ?_, ?_, ?_⟩ <;> (first | omega | rfl | assumption | decide | exact Or.inl rfl | exact Or.inr rfl | (simp only; omega)))⟩⟩ rfl rfl hl.1 rfl (lv_room (Nat.le_of_ble_eq_true rfl)) dX14_isContentLength_34 ⟨Nat.zero_le _, Nat.zero_le _⟩) hh_5.1 (fun q _ h => h) (fun q h => h) (fun r_9 u_8 t_8 H_8 locs_8 ht_8 hvm_8 hr_9 hb_8 hz_8 hk_8 hS_8 => ?_)
          rw [ht_8] at hb_8
          obtain ⟨hb_81, hb_82, hb_83, hb_84, hb_85⟩ := hb_8
          have hh_8 : jSt (dC, dI) B base G0 G0 EX14_isContentLength s.heap 0 0 [(r0, 16, 13, .ref bn), (bn, 0, 3, .int pc), (bn, 0, 0, .ref pa)] [(pa, 196, n_pa, ca 0, fv)] [] H_8 locs_8 := ((hh_5.call hb_81 hb_82 hb_83 hb_84 hS_8 rfl (L1 := [(r0, 16, 13, .ref bn), (bn, 0, 3, .int pc), (bn, 0, 0, .ref pa)]) [0, 1, 2] rfl rfl (M1 := [(pa, 196, n_pa, ca 0, fv)]) [0] rfl rfl (I1 := []) [] rfl rfl).more hb_85)
          clear hh_5 ht_8 hvm_8 hz_8 hk_8 hS_8 hb_81 hb_82 hb_83 hb_84 hb_85
          obtain ⟨hr_9_0, hr_9_1, hr_9_2⟩ := hr_9
          refine lv_istore_n (lv' := [(3, .int r_9), (0, .ref r0), (1, .ref str220), (2, .int v2_5)]) hx hb dX14_isContentLength_37 rfl hl (by decide) rfl (fun ls hl => ?_)
          refine lv_iload_n hx hb dX14_isContentLength_38 rfl (lv_at hl 0 rfl) ?_
          refine lv_bipush (v := 65) hx hb dX14_isContentLength_39 (by decide) ?_
          refine lv_bipush (v := 90) hx hb dX14_isContentLength_41 (by decide) ?_
          refine va_calli (A0 := jA base) (H0 := s.heap) (va_runS (As := [.int r_9, .int 65, .int 90]) (rest := []) ⟨hx, hb, hml, hown, hts⟩ (uX14_in l dC dI ca base B hB hAp G0 H_8 r_9 65 90) (va_cwS 3 hts (jgS (jWr_48 _ (List.mem_of_getElem? (i := 10) rfl)) (jWr_48 _ (List.mem_of_getElem? (i := 11) rfl)) (jWr_1 _ (List.mem_of_getElem? (i := 5) rfl)) (jWr_48 _ (List.mem_of_getElem? (i := 12) rfl))) rfl rfl rfl (by decide +kernel) ⟨by rw [← hR]; exact Nat.le_of_ble_eq_true rfl, by rw [← hR]; exact Nat.le_of_ble_eq_true rfl⟩) ⟨fun a U g mk q => by obtain ⟨q0, q1, q2, qK, q10, q11⟩ := q; exact ⟨q0, q1, q2, jG.calling g mk a qK, q10, q11⟩, fun U hU hW => ⟨rfl, hU, hh_8.2.1, hG.step hW hU hh_8.1, jP.nil, trivial⟩⟩ rfl rfl hl.1 rfl (lv_room (Nat.le_of_ble_eq_true rfl)) dX14_isContentLength_43 ⟨Nat.zero_le _, Nat.zero_le _⟩) hh_8.1 (fun q _ h => h) (fun q h => h) (fun r_11 u_10 t_10 H_10 locs_10 ht_10 hvm_10 hr_11 hb_10 hz_10 hk_10 hS_10 => ?_)
          rw [ht_10] at hb_10
          obtain ⟨hb_101, hb_102, hb_103, hb_104, hb_105⟩ := hb_10
          have hh_10 : jSt (dC, dI) B base G0 G0 EX14_isContentLength s.heap 0 0 [(r0, 16, 13, .ref bn), (bn, 0, 3, .int pc), (bn, 0, 0, .ref pa)] [(pa, 196, n_pa, ca 0, fv)] [] H_10 locs_10 := ((hh_8.call hb_101 hb_102 hb_103 hb_104 hS_10 rfl (L1 := [(r0, 16, 13, .ref bn), (bn, 0, 3, .int pc), (bn, 0, 0, .ref pa)]) [0, 1, 2] rfl rfl (M1 := [(pa, 196, n_pa, ca 0, fv)]) [0] rfl rfl (I1 := []) [] rfl rfl).more hb_105)
          clear hh_8 ht_10 hvm_10 hz_10 hk_10 hS_10 hb_101 hb_102 hb_103 hb_104 hb_105
          obtain ⟨hr_11b, hr_11p⟩ := hr_11
          obtain ⟨hr_11p_0, hr_11p_1, hr_11p_2⟩ := hr_11p
          have hr_11' := jb_01 hr_11b
          refine lv_if_eq (tgt := 56) hx hb dX14_isContentLength_46 (by decide) (fun c_12 => ?_) (fun c_12 => ?_)
          · skip
            have c_12' : r_11.toInt = 0 := jb_eq (rfl) ((by decide)) c_12
            refine lv_iload_n hx hb dX14_isContentLength_56 rfl (lv_at hl 0 rfl) ?_
            refine lv_aload_n hx hb dX14_isContentLength_57 rfl (lv_at hl 2 rfl) ?_
            refine lv_iload_n hx hb dX14_isContentLength_58 rfl (lv_at hl 3 rfl) ?_
            refine vp_callSi (W.runV (As := [.int v2_5]) (rest := [.int r_9]) ⟨hx, hb, hml, hown, hts⟩ (wJ0_charAt_5068e l dC dI ca base H_10 str220 14 v2_5) (cwV 1 hts (jgV (jWr_49 _ (List.mem_of_getElem? (i := 13) rfl)) (jWr_6 _ (List.mem_of_getElem? (i := 1) rfl)) (jWr_6 _ (List.mem_of_getElem? (i := 2) rfl)) (jWr_5 _ (List.mem_of_getElem? (i := 15) rfl)) (jWr_6 _ (List.mem_of_getElem? (i := 3) rfl))) rfl rfl rfl (by decide +kernel) ⟨by rw [← hR]; exact Nat.le_of_ble_eq_true rfl, by rw [← hR]; exact Nat.le_of_ble_eq_true rfl⟩) ⟨fun a U g mk q => by obtain ⟨q0, q1, q2, qK, q9⟩ := q; exact ⟨q0, q1, (q2.moved (Vm.Alike.refl U.vm)), jG.calling g mk a qK, q9⟩, jStr_recv hstr220 hh_10.1, fun U hU hW => ⟨rfl, hU, (hstr220.moved hW.alike).kept hh_10.1.2.1, hG.step hW hU hh_10.1, ⟨by omega, by omega, by omega⟩⟩⟩ rfl rfl hl.1 rfl (lv_room (Nat.le_of_ble_eq_true rfl)) dX14_isContentLength_59 ⟨Nat.zero_le _, Nat.zero_le _⟩) (fun r_13 hr_13 => ?_)
            refine lv_icmp_eq (tgt := 67) hx hb dX14_isContentLength_62 (by decide) (fun c_14 => ?_) (fun c_14 => ?_)
            · skip
              have c_14' : r_9.toInt = r_13.toInt := jb_eq (rfl) (rfl) c_14
              obtain ⟨z_15, ez_15⟩ : ∃ y : Int32, y = v2_5 + 1 := ⟨_, rfl⟩
              refine lv_iinc (v := z_15) (lv' := [(2, .int z_15), (3, .int r_9), (0, .ref r0), (1, .ref str220)]) hx hb dX14_isContentLength_67 hl (k := 3) rfl (by rw [ez_15]; rfl) (by decide) rfl (fun ls hl => ?_)
              have hz_15 : z_15.toInt = v2_5.toInt + 1 := by rw [ez_15]; exact jb_iadd2 (rfl) (by decide) (by omega)
              refine lv_goto (tgt := 21) hx hb dX14_isContentLength_70 (by decide) ?_
              exact L21 z_15 _ _ hh_10 (by first | omega | (refine ⟨?_, ?_⟩ <;> (first | omega | rfl | assumption | decide | exact Or.inl rfl | exact Or.inr rfl | (simp only; omega)))) (by omega) _ (lv_sub hl [2, 3, 0] rfl)
            · skip
              have c_14' : r_9.toInt ≠ r_13.toInt := jb_eq_n (rfl) (rfl) c_14
              refine lv_iconst (v := 0) hx hb dX14_isContentLength_65 (by decide) ?_
              rw [hQ]
              exact W.zret (v := 0) hx hb hr (jb_nz (Or.inl rfl)) (fun t ht hW => ⟨⟨0, (), rfl, ⟨(Or.inl rfl), trivial⟩, hh_10.rt (M1 := []) [] rfl ht⟩, by rw [ht]; try exact hh_10.1.1, fun q h9 hq => by rw [ht]; try exact hh_10.1.2.1 q h9 hq⟩) hh_10.1.2.2 dX14_isContentLength_66
          · skip
            have c_12' : r_11.toInt ≠ 0 := jb_eq_n (rfl) ((by decide)) c_12
            refine lv_iload_n hx hb dX14_isContentLength_49 rfl (lv_at hl 0 rfl) ?_
            refine lv_bipush (v := 32) hx hb dX14_isContentLength_50 (by decide) ?_
            refine lv_iadd hx hb dX14_isContentLength_52 ?_
            refine lv_topi (fun z_16 ez_16 => ?_)
            have hz_16 : z_16.toInt = r_9.toInt + 32 := by rw [ez_16]; exact jb_iadd2 (rfl) ((by decide)) (by omega)
            refine lv_goto (tgt := 57) hx hb dX14_isContentLength_53 (by decide) ?_
            refine lv_aload_n hx hb dX14_isContentLength_57 rfl (lv_at hl 2 rfl) ?_
            refine lv_iload_n hx hb dX14_isContentLength_58 rfl (lv_at hl 3 rfl) ?_
            refine vp_callSi (W.runV (As := [.int v2_5]) (rest := [.int z_16]) ⟨hx, hb, hml, hown, hts⟩ (wJ0_charAt_5068e l dC dI ca base H_10 str220 14 v2_5) (cwV 1 hts (jgV (jWr_49 _ (List.mem_of_getElem? (i := 13) rfl)) (jWr_6 _ (List.mem_of_getElem? (i := 1) rfl)) (jWr_6 _ (List.mem_of_getElem? (i := 2) rfl)) (jWr_5 _ (List.mem_of_getElem? (i := 15) rfl)) (jWr_6 _ (List.mem_of_getElem? (i := 3) rfl))) rfl rfl rfl (by decide +kernel) ⟨by rw [← hR]; exact Nat.le_of_ble_eq_true rfl, by rw [← hR]; exact Nat.le_of_ble_eq_true rfl⟩) ⟨fun a U g mk q => by obtain ⟨q0, q1, q2, qK, q9⟩ := q; exact ⟨q0, q1, (q2.moved (Vm.Alike.refl U.vm)), jG.calling g mk a qK, q9⟩, jStr_recv hstr220 hh_10.1, fun U hU hW => ⟨rfl, hU, (hstr220.moved hW.alike).kept hh_10.1.2.1, hG.step hW hU hh_10.1, ⟨by omega, by omega, by omega⟩⟩⟩ rfl rfl hl.1 rfl (lv_room (Nat.le_of_ble_eq_true rfl)) dX14_isContentLength_59 ⟨Nat.zero_le _, Nat.zero_le _⟩) (fun r_17 hr_17 => ?_)
            refine lv_icmp_eq (tgt := 67) hx hb dX14_isContentLength_62 (by decide) (fun c_18 => ?_) (fun c_18 => ?_)
            · skip
              have c_18' : z_16.toInt = r_17.toInt := jb_eq (rfl) (rfl) c_18
              obtain ⟨z_19, ez_19⟩ : ∃ y : Int32, y = v2_5 + 1 := ⟨_, rfl⟩
              refine lv_iinc (v := z_19) (lv' := [(2, .int z_19), (3, .int r_9), (0, .ref r0), (1, .ref str220)]) hx hb dX14_isContentLength_67 hl (k := 3) rfl (by rw [ez_19]; rfl) (by decide) rfl (fun ls hl => ?_)
              have hz_19 : z_19.toInt = v2_5.toInt + 1 := by rw [ez_19]; exact jb_iadd2 (rfl) (by decide) (by omega)
              refine lv_goto (tgt := 21) hx hb dX14_isContentLength_70 (by decide) ?_
              exact L21 z_19 _ _ hh_10 (by first | omega | (refine ⟨?_, ?_⟩ <;> (first | omega | rfl | assumption | decide | exact Or.inl rfl | exact Or.inr rfl | (simp only; omega)))) (by omega) _ (lv_sub hl [2, 3, 0] rfl)
            · skip
              have c_18' : z_16.toInt ≠ r_17.toInt := jb_eq_n (rfl) (rfl) c_18
              refine lv_iconst (v := 0) hx hb dX14_isContentLength_65 (by decide) ?_
              rw [hQ]
              exact W.zret (v := 0) hx hb hr (jb_nz (Or.inl rfl)) (fun t ht hW => ⟨⟨0, (), rfl, ⟨(Or.inl rfl), trivial⟩, hh_10.rt (M1 := []) [] rfl ht⟩, by rw [ht]; try exact hh_10.1.1, fun q h9 hq => by rw [ht]; try exact hh_10.1.2.1 q h9 hq⟩) hh_10.1.2.2 dX14_isContentLength_66
    exact L21 (14 - (0 : Int32).toInt : Int).toNat.succ 0 _ _ hh_1 (by first | omega | (refine ⟨?_, ?_⟩ <;> (first | omega | rfl | assumption | decide | exact Or.inl rfl | exact Or.inr rfl | (simp only; omega)))) (by omega) _ (lv_sub hl [2, 1, 0] rfl)
  · skip
    have c_4' : r_2.toInt ≠ r_3.toInt := jb_eq_n (rfl) (rfl) c_4
    refine lv_iconst (v := 0) hx hb dX14_isContentLength_17 (by decide) ?_
    rw [hQ]
    exact W.zret (v := 0) hx hb hr (jb_nz (Or.inl rfl)) (fun t ht hW => ⟨⟨0, (), rfl, ⟨(Or.inl rfl), trivial⟩, hh_1.rt (M1 := []) [] rfl ht⟩, by rw [ht]; try exact hh_1.1.1, fun q h9 hq => by rw [ht]; try exact hh_1.1.2.1 q h9 hq⟩) hh_1.1.2.2 dX14_isContentLength_18
