theorem dX14_waitFor_0 : decode cX14_waitFor 0 = .ok (.aload_n 0, 1) := by decide +kernel
theorem dX14_waitFor_1 : decode cX14_waitFor 1 = .ok (.getfield 711, 3) := by decide +kernel
theorem dX14_waitFor_4 : decode cX14_waitFor 4 = .ok (.bipush 12, 2) := by decide +kernel
theorem dX14_waitFor_6 : decode cX14_waitFor 6 = .ok (.if_icmp .ne 12, 3) := by decide +kernel
theorem dX14_waitFor_9 : decode cX14_waitFor 9 = .ok (.aload_n 0, 1) := by decide +kernel
theorem dX14_waitFor_10 : decode cX14_waitFor 10 = .ok (.sipush (-32600), 3) := by decide +kernel
theorem dX14_waitFor_13 : decode cX14_waitFor 13 = .ok (.invokevirtual 425, 3) := by decide +kernel
theorem dX14_waitFor_16 : decode cX14_waitFor 16 = .ok (.iconst 0, 1) := by decide +kernel
theorem dX14_waitFor_17 : decode cX14_waitFor 17 = .ok (.ireturn, 1) := by decide +kernel
theorem dX14_waitFor_18 : decode cX14_waitFor 18 = .ok (.aload_n 0, 1) := by decide +kernel
theorem dX14_waitFor_19 : decode cX14_waitFor 19 = .ok (.getfield 91, 3) := by decide +kernel
theorem dX14_waitFor_22 : decode cX14_waitFor 22 = .ok (.aload_n 0, 1) := by decide +kernel
theorem dX14_waitFor_23 : decode cX14_waitFor 23 = .ok (.getfield 711, 3) := by decide +kernel
theorem dX14_waitFor_26 : decode cX14_waitFor 26 = .ok (.aload_n 1, 1) := by decide +kernel
theorem dX14_waitFor_27 : decode cX14_waitFor 27 = .ok (.aastore, 1) := by decide +kernel
theorem dX14_waitFor_28 : decode cX14_waitFor 28 = .ok (.aload_n 0, 1) := by decide +kernel
theorem dX14_waitFor_29 : decode cX14_waitFor 29 = .ok (.getfield 94, 3) := by decide +kernel
theorem dX14_waitFor_32 : decode cX14_waitFor 32 = .ok (.aload_n 0, 1) := by decide +kernel
theorem dX14_waitFor_33 : decode cX14_waitFor 33 = .ok (.getfield 711, 3) := by decide +kernel
theorem dX14_waitFor_36 : decode cX14_waitFor 36 = .ok (.iload_n 2, 1) := by decide +kernel
theorem dX14_waitFor_37 : decode cX14_waitFor 37 = .ok (.bastore, 1) := by decide +kernel
theorem dX14_waitFor_38 : decode cX14_waitFor 38 = .ok (.aload_n 0, 1) := by decide +kernel
theorem dX14_waitFor_39 : decode cX14_waitFor 39 = .ok (.getfield 97, 3) := by decide +kernel
theorem dX14_waitFor_42 : decode cX14_waitFor 42 = .ok (.aload_n 0, 1) := by decide +kernel
theorem dX14_waitFor_43 : decode cX14_waitFor 43 = .ok (.getfield 711, 3) := by decide +kernel
theorem dX14_waitFor_46 : decode cX14_waitFor 46 = .ok (.iload_n 3, 1) := by decide +kernel
theorem dX14_waitFor_47 : decode cX14_waitFor 47 = .ok (.iastore, 1) := by decide +kernel
theorem dX14_waitFor_48 : decode cX14_waitFor 48 = .ok (.aload_n 0, 1) := by decide +kernel
theorem dX14_waitFor_49 : decode cX14_waitFor 49 = .ok (.getfield 100, 3) := by decide +kernel
theorem dX14_waitFor_52 : decode cX14_waitFor 52 = .ok (.aload_n 0, 1) := by decide +kernel
theorem dX14_waitFor_53 : decode cX14_waitFor 53 = .ok (.getfield 711, 3) := by decide +kernel
theorem dX14_waitFor_56 : decode cX14_waitFor 56 = .ok (.aload_n 0, 1) := by decide +kernel
theorem dX14_waitFor_57 : decode cX14_waitFor 57 = .ok (.getfield 377, 3) := by decide +kernel
theorem dX14_waitFor_60 : decode cX14_waitFor 60 = .ok (.bastore, 1) := by decide +kernel
theorem dX14_waitFor_61 : decode cX14_waitFor 61 = .ok (.aload_n 0, 1) := by decide +kernel
theorem dX14_waitFor_62 : decode cX14_waitFor 62 = .ok (.getfield 103, 3) := by decide +kernel
theorem dX14_waitFor_65 : decode cX14_waitFor 65 = .ok (.aload_n 0, 1) := by decide +kernel
theorem dX14_waitFor_66 : decode cX14_waitFor 66 = .ok (.getfield 711, 3) := by decide +kernel
theorem dX14_waitFor_69 : decode cX14_waitFor 69 = .ok (.aload_n 0, 1) := by decide +kernel
theorem dX14_waitFor_70 : decode cX14_waitFor 70 = .ok (.getfield 380, 3) := by decide +kernel
theorem dX14_waitFor_73 : decode cX14_waitFor 73 = .ok (.iastore, 1) := by decide +kernel
theorem dX14_waitFor_74 : decode cX14_waitFor 74 = .ok (.aload_n 0, 1) := by decide +kernel
theorem dX14_waitFor_75 : decode cX14_waitFor 75 = .ok (.getfield 109, 3) := by decide +kernel
theorem dX14_waitFor_78 : decode cX14_waitFor 78 = .ok (.aload_n 0, 1) := by decide +kernel
theorem dX14_waitFor_79 : decode cX14_waitFor 79 = .ok (.getfield 711, 3) := by decide +kernel
theorem dX14_waitFor_82 : decode cX14_waitFor 82 = .ok (.aload_n 0, 1) := by decide +kernel
theorem dX14_waitFor_83 : decode cX14_waitFor 83 = .ok (.getfield 383, 3) := by decide +kernel
theorem dX14_waitFor_86 : decode cX14_waitFor 86 = .ok (.iastore, 1) := by decide +kernel
theorem dX14_waitFor_87 : decode cX14_waitFor 87 = .ok (.iconst 0, 1) := by decide +kernel
theorem dX14_waitFor_88 : decode cX14_waitFor 88 = .ok (.istore 4, 2) := by decide +kernel
theorem dX14_waitFor_90 : decode cX14_waitFor 90 = .ok (.iload 4, 2) := by decide +kernel
theorem dX14_waitFor_92 : decode cX14_waitFor 92 = .ok (.aload_n 0, 1) := by decide +kernel
theorem dX14_waitFor_93 : decode cX14_waitFor 93 = .ok (.getfield 383, 3) := by decide +kernel
theorem dX14_waitFor_96 : decode cX14_waitFor 96 = .ok (.if_icmp .ge 31, 3) := by decide +kernel
theorem dX14_waitFor_99 : decode cX14_waitFor 99 = .ok (.aload_n 0, 1) := by decide +kernel
theorem dX14_waitFor_100 : decode cX14_waitFor 100 = .ok (.getfield 106, 3) := by decide +kernel
theorem dX14_waitFor_103 : decode cX14_waitFor 103 = .ok (.bipush 20, 2) := by decide +kernel
theorem dX14_waitFor_105 : decode cX14_waitFor 105 = .ok (.aload_n 0, 1) := by decide +kernel
theorem dX14_waitFor_106 : decode cX14_waitFor 106 = .ok (.getfield 711, 3) := by decide +kernel
theorem dX14_waitFor_109 : decode cX14_waitFor 109 = .ok (.imul, 1) := by decide +kernel
theorem dX14_waitFor_110 : decode cX14_waitFor 110 = .ok (.iload 4, 2) := by decide +kernel
theorem dX14_waitFor_112 : decode cX14_waitFor 112 = .ok (.iadd, 1) := by decide +kernel
theorem dX14_waitFor_113 : decode cX14_waitFor 113 = .ok (.aload_n 0, 1) := by decide +kernel
theorem dX14_waitFor_114 : decode cX14_waitFor 114 = .ok (.getfield 68, 3) := by decide +kernel
theorem dX14_waitFor_117 : decode cX14_waitFor 117 = .ok (.iload 4, 2) := by decide +kernel
theorem dX14_waitFor_119 : decode cX14_waitFor 119 = .ok (.iaload, 1) := by decide +kernel
theorem dX14_waitFor_120 : decode cX14_waitFor 120 = .ok (.iastore, 1) := by decide +kernel
theorem dX14_waitFor_121 : decode cX14_waitFor 121 = .ok (.iinc 4 1, 3) := by decide +kernel
theorem dX14_waitFor_124 : decode cX14_waitFor 124 = .ok (.goto (-34), 3) := by decide +kernel
theorem dX14_waitFor_127 : decode cX14_waitFor 127 = .ok (.aload_n 0, 1) := by decide +kernel
theorem dX14_waitFor_128 : decode cX14_waitFor 128 = .ok (.dup, 1) := by decide +kernel
theorem dX14_waitFor_129 : decode cX14_waitFor 129 = .ok (.getfield 711, 3) := by decide +kernel
theorem dX14_waitFor_132 : decode cX14_waitFor 132 = .ok (.iconst 1, 1) := by decide +kernel
theorem dX14_waitFor_133 : decode cX14_waitFor 133 = .ok (.iadd, 1) := by decide +kernel
theorem dX14_waitFor_134 : decode cX14_waitFor 134 = .ok (.putfield 711, 3) := by decide +kernel
theorem dX14_waitFor_137 : decode cX14_waitFor 137 = .ok (.iconst 1, 1) := by decide +kernel
theorem dX14_waitFor_138 : decode cX14_waitFor 138 = .ok (.ireturn, 1) := by decide +kernel
def EX14_waitFor : List (Nat × Nat) := [(16, 3), (16, 4), (16, 6), (16, 48), (101, 0), (103, 0), (202, 0), (203, 0), (206, 0)]
set_option maxHeartbeats 4000000 in
set_option maxRecDepth 20000 in
theorem uX14_waitFor (l : Launch) (dC : Nat → ClassId) (dI : Nat → Nat → Nat) (ca : Nat → ClassId) (base : Nat) (B : jF) (hB : jBok B) (hAp : jAp (dC, dI)) (hB14 : ∀ n G a H, B 14 n G a H ↔ jOb (dC, dI) 14 11 (F14 n G) a H) (hB16 : ∀ n G a H, B 16 n G a H ↔ jOb (dC, dI) 16 74 (F16 n G) a H) (hB101 : ∀ n G a H, B 101 n G a H ↔ jAr (dC, dI) (ca 1) (fun j z => True) n a H) (hB103 : ∀ n G a H, B 103 n G a H ↔ jAr (dC, dI) (ca 3) (fun j z => (z = 0 ∨ z = 1)) n a H) (hB202 : ∀ n G a H, B 202 n G a H ↔ jAq (dC, dI) (ca 4) (jQn 14 0) n G a H) (hB203 : ∀ n G a H, B 203 n G a H ↔ jAr (dC, dI) (ca 1) (fun j z => -3300 ≤ z.toInt ∧ z.toInt ≤ 20) n a H) (hB206 : ∀ n G a H, B 206 n G a H ↔ jAr (dC, dI) (ca 1) (fun j z => 0 ≤ z.toInt ∧ z.toInt ≤ 40) n a H) (G0 : jT) (H0 : Heap) (r0 : Nat) (r1 : Nat) (a2 : Int32) (a3 : Int32) : Met l yX14_waitFor (jw yX14_waitFor cX14_waitFor 5 (some .boolean)) ({ frames := 15, cells := 0, slots := 0, locals := 526 }) (va_Pc [.ref r0, .ref r1, .int a2, .int a3] (fun U => U.heap = H0 ∧ jX B base G0 [] H0 ∧ jG dC dI ca base U ∧ jK2 dC dI ca U ∧ G0 r1 = some (14, 0) ∧ G0 r0 = some (16, 0) ∧ (a2 = 0 ∨ a2 = 1) ∧ jP (dC, dI) G0 H0 [] ∧ 0 ≤ a3.toInt ∧ a3.toInt ≤ 40)) (va_Qi (S := Unit) (fun r u => (r = 0 ∨ r = 1) ∧ (True)) (fun u t => jRt (dC, dI) B base G0 EX14_waitFor H0 [] t.heap) (jA base)) 0 0 (jA base) := by
  refine Met.ofW (cc := cX14_waitFor) (maxL := 5) (ret := (some .boolean)) (by decide) rfl ?_
  intro p e s m args below meth c s₁ Bd hml hv
  obtain ⟨rfl, hH0, hX, hG, hK2, hg_r1, hg_r0, hz_a2, hP0, hp0, hp1⟩ := hv
  have hK := hG.1
  have hx := Bd.exec
  have hb := Bd.bytes
  have hr := Bd.returns
  have hts := atoms_spec (ws := (jw yX14_waitFor cX14_waitFor 5 (some .boolean))) Bd.pre
  have htw : ∀ w ∈ jWl, w.before _ s = true := fun w h => hts w (List.mem_cons_of_mem _ h)
  have hown : s.vm.findClass RX14 = some m.cls := findClass_of_methodNamed Bd.named
  have hlocks := Bd.notSynchronized
  obtain ⟨Q, hQ⟩ : ∃ Q, Q = MQ below (va_Qi (S := Unit) (fun r u => (r = 0 ∨ r = 1) ∧ (True)) (fun u t => jRt (dC, dI) B base G0 EX14_waitFor H0 [] t.heap) (jA base)) ([.ref r0, .ref r1, .int a2, .int a3] : List Value).toArray s 0 0 (jA base) := ⟨_, rfl⟩
  rw [← hQ]
  have hl := lv_entry ([.ref r0, .ref r1, .int a2, .int a3]) (n := 5) (Nat.le_of_ble_eq_true rfl)
  rw [lg_entry_eq]
  generalize (lg_sl ([.ref r0, .ref r1, .int a2, .int a3]) ++ List.replicate (5 - (lg_sl ([.ref r0, .ref r1, .int a2, .int a3])).length) Slot.unset).toArray = ls at hl ⊢
  have hl : lv_has ls 5 [(0, .ref r0), (1, .ref r1), (2, .int a2), (3, .int a3)] := hl
  generalize hR : (headSpec (jw yX14_waitFor cX14_waitFor 5 (some .boolean)) ({ frames := 15, cells := 0, slots := 0, locals := 526 })).room = R
  subst hH0
  have hh : jSt (dC, dI) B base G0 G0 EX14_waitFor s.heap 0 0 [] [] [] s.heap [] := jSt.start hX hP0 jMc.nil jIs.nil
  clear hX hP0
  have hkm32600 : ((-32600) : Int32).toInt = (-32600) := by decide
  have hk0 : (0 : Int32).toInt = 0 := by decide
  have hk1 : (1 : Int32).toInt = 1 := by decide
  have hk12 : (12 : Int32).toInt = 12 := by decide
  have hk20 : (20 : Int32).toInt = 20 := by decide
  have hly_16_36 := htw (u_lay RX14 TX14 36) (jWc_wsX140 _ (u_in_lay (by decide)))
  have hly_16_37 := htw (u_lay RX14 TX14 37) (jWc_wsX140 _ (u_in_lay (by decide)))
  have hly_16_38 := htw (u_lay RX14 TX14 38) (jWc_wsX140 _ (u_in_lay (by decide)))
  have hly_16_39 := htw (u_lay RX14 TX14 39) (jWc_wsX140 _ (u_in_lay (by decide)))
  have hly_16_48 := htw (u_lay RX14 TX14 48) (jWc_wsX140 _ (u_in_lay (by decide)))
  have hly_16_49 := htw (u_lay RX14 TX14 49) (jWc_wsX140 _ (u_in_lay (by decide)))
  have hly_16_50 := htw (u_lay RX14 TX14 50) (jWc_wsX140 _ (u_in_lay (by decide)))
  have hly_16_51 := htw (u_lay RX14 TX14 51) (jWc_wsX140 _ (u_in_lay (by decide)))
  have hly_16_52 := htw (u_lay RX14 TX14 52) (jWc_wsX140 _ (u_in_lay (by decide)))
  have hly_16_53 := htw (u_lay RX14 TX14 53) (jWc_wsX140 _ (u_in_lay (by decide)))
  have hly_16_54 := htw (u_lay RX14 TX14 54) (jWc_wsX140 _ (u_in_lay (by decide)))
  have hly_16_55 := htw (u_lay RX14 TX14 55) (jWc_wsX140 _ (u_in_lay (by decide)))
  have hlk_711 := (htw (.fieldLink RX14 711 "ProofServerModel" "waits" "I") (jWr_58 _ (List.mem_of_getElem? (i := 11) rfl)))
  have hlk_91 := (htw (.fieldLink RX14 91 "ProofServerModel" "waitOf" "[LProofServerModel$Document;") (jWr_12 _ (List.mem_of_getElem? (i := 0) rfl)))
  have hlk_94 := (htw (.fieldLink RX14 94 "ProofServerModel" "waitGoals" "[Z") (jWr_12 _ (List.mem_of_getElem? (i := 1) rfl)))
  have hlk_97 := (htw (.fieldLink RX14 97 "ProofServerModel" "waitNeed" "[I") (jWr_12 _ (List.mem_of_getElem? (i := 2) rfl)))
  have hlk_100 := (htw (.fieldLink RX14 100 "ProofServerModel" "waitString" "[Z") (jWr_12 _ (List.mem_of_getElem? (i := 3) rfl)))
  have hlk_377 := (htw (.fieldLink RX14 377 "ProofServerModel" "idString" "Z") (jWr_53 _ (List.mem_of_getElem? (i := 19) rfl)))
  have hlk_103 := (htw (.fieldLink RX14 103 "ProofServerModel" "waitInt" "[I") (jWr_12 _ (List.mem_of_getElem? (i := 4) rfl)))
  have hlk_380 := (htw (.fieldLink RX14 380 "ProofServerModel" "idInt" "I") (jWr_53 _ (List.mem_of_getElem? (i := 21) rfl)))
  have hlk_109 := (htw (.fieldLink RX14 109 "ProofServerModel" "waitLength" "[I") (jWr_12 _ (List.mem_of_getElem? (i := 6) rfl)))
  have hlk_383 := (htw (.fieldLink RX14 383 "ProofServerModel" "idLength" "I") (jWr_53 _ (List.mem_of_getElem? (i := 20) rfl)))
  have hlk_106 := (htw (.fieldLink RX14 106 "ProofServerModel" "waitUnits" "[I") (jWr_12 _ (List.mem_of_getElem? (i := 5) rfl)))
  have hlk_68 := (htw (.fieldLink RX14 68 "ProofServerModel" "idUnits" "[I") (jWr_11 _ (List.mem_of_getElem? (i := 15) rfl)))
  have hrg_a2 := jb_rng a2
  have hrg_a3 := jb_rng a3
  refine lv_aload_n hx hb dX14_waitFor_0 rfl (lv_at hl 0 rfl) ?_
  obtain ⟨v_1, hv_1, hh_2⟩ := hh.pin (C := RX14) (T := TX14) (N := 74) hB16 rfl (by decide) hg_r0 (i := 48) (by decide) rfl
  clear hh
  obtain ⟨waits_3, rfl, hlowaits_3, hhiwaits_3⟩ := hv_1
  refine j7_read hx hb hown hK (C := RX14) (T := TX14) (N := 74) rfl hly_16_48 hlk_711 (hh_2.at 0 rfl) dX14_waitFor_1 ?_
  refine lv_bipush (v := 12) hx hb dX14_waitFor_4 (by decide) ?_
  refine lv_icmp_ne (tgt := 18) hx hb dX14_waitFor_6 (by decide) (fun c_4 => ?_) (fun c_4 => ?_)
  · skip
    have c_4' : waits_3.toInt ≠ 12 := jb_ne (rfl) ((by decide)) c_4
    refine lv_aload_n hx hb dX14_waitFor_18 rfl (lv_at hl 0 rfl) ?_
    obtain ⟨v_5, hv_5, hh_6⟩ := hh_2.pin (C := RX14) (T := TX14) (N := 74) hB16 rfl (by decide) hg_r0 (i := 49) (by decide) rfl
    clear hh_2
    obtain ⟨waitOf_7, rfl, hg_waitOf_7⟩ := hv_5
    refine j7_read hx hb hown hK (C := RX14) (T := TX14) (N := 74) rfl hly_16_49 hlk_91 (hh_6.at 0 rfl) dX14_waitFor_19 ?_
    refine lv_aload_n hx hb dX14_waitFor_22 rfl (lv_at hl 0 rfl) ?_
    refine j7_read hx hb hown hK (C := RX14) (T := TX14) (N := 74) rfl hly_16_48 hlk_711 (hh_6.at 1 rfl) dX14_waitFor_23 ?_
    refine lv_aload_n hx hb dX14_waitFor_26 rfl (lv_at hl 1 rfl) ?_
    refine j7_qast hx hb hK2 hh_6 hB hB202 0 rfl (by decide) (by decide) rfl rfl rfl hg_waitOf_7 (x := waits_3.toInt) (rfl) (by omega) hB14 (T := TX12) (N := 11) rfl (by decide) hg_r1 (Or.inr ⟨_, rfl, hg_r1⟩) dX14_waitFor_27 (fun H_8 locs_8 hh_8 => ?_)
    clear hh_6
    refine lv_aload_n hx hb dX14_waitFor_28 rfl (lv_at hl 0 rfl) ?_
    obtain ⟨v_9, hv_9, hh_10⟩ := hh_8.pin (C := RX14) (T := TX14) (N := 74) hB16 rfl (by decide) hg_r0 (i := 50) (by decide) rfl
    clear hh_8
    obtain ⟨waitGoals_11, rfl, hg_waitGoals_11⟩ := hv_9
    refine j7_read hx hb hown hK (C := RX14) (T := TX14) (N := 74) rfl hly_16_50 hlk_94 (hh_10.at 0 rfl) dX14_waitFor_29 ?_
    refine lv_aload_n hx hb dX14_waitFor_32 rfl (lv_at hl 0 rfl) ?_
    refine j7_read hx hb hown hK (C := RX14) (T := TX14) (N := 74) rfl hly_16_48 hlk_711 (hh_10.at 2 rfl) dX14_waitFor_33 ?_
    refine lv_iload_n hx hb dX14_waitFor_36 rfl (lv_at hl 2 rfl) ?_
    refine j7_zast hx hb hK hh_10 hB hB103 3 rfl (by decide) (by decide) rfl rfl rfl hg_waitGoals_11 (x := waits_3.toInt) (rfl) (by omega) (hz_a2) (hz_a2) dX14_waitFor_37 (fun H_12 locs_12 hh_12 => ?_)
    clear hh_10
    refine lv_aload_n hx hb dX14_waitFor_38 rfl (lv_at hl 0 rfl) ?_
    obtain ⟨v_13, hv_13, hh_14⟩ := hh_12.pin (C := RX14) (T := TX14) (N := 74) hB16 rfl (by decide) hg_r0 (i := 51) (by decide) rfl
    clear hh_12
    obtain ⟨waitNeed_15, rfl, hg_waitNeed_15⟩ := hv_13
    refine j7_read hx hb hown hK (C := RX14) (T := TX14) (N := 74) rfl hly_16_51 hlk_97 (hh_14.at 0 rfl) dX14_waitFor_39 ?_
    refine lv_aload_n hx hb dX14_waitFor_42 rfl (lv_at hl 0 rfl) ?_
    refine j7_read hx hb hown hK (C := RX14) (T := TX14) (N := 74) rfl hly_16_48 hlk_711 (hh_14.at 3 rfl) dX14_waitFor_43 ?_
    refine lv_iload_n hx hb dX14_waitFor_46 rfl (lv_at hl 3 rfl) ?_
    refine j7_iast hx hb hK hh_14 hB hB206 1 rfl (by decide) (by decide) rfl rfl rfl hg_waitNeed_15 (x := waits_3.toInt) (rfl) (by omega) (by first | omega | (refine ⟨?_, ?_⟩ <;> (first | omega | rfl | assumption | decide | exact Or.inl rfl | exact Or.inr rfl | (simp only; omega)))) dX14_waitFor_47 (fun H_16 locs_16 hh_16 => ?_)
    clear hh_14
    refine lv_aload_n hx hb dX14_waitFor_48 rfl (lv_at hl 0 rfl) ?_
    obtain ⟨v_17, hv_17, hh_18⟩ := hh_16.pin (C := RX14) (T := TX14) (N := 74) hB16 rfl (by decide) hg_r0 (i := 52) (by decide) rfl
    clear hh_16
    obtain ⟨waitString_19, rfl, hg_waitString_19⟩ := hv_17
    refine j7_read hx hb hown hK (C := RX14) (T := TX14) (N := 74) rfl hly_16_52 hlk_100 (hh_18.at 0 rfl) dX14_waitFor_49 ?_
    refine lv_aload_n hx hb dX14_waitFor_52 rfl (lv_at hl 0 rfl) ?_
    refine j7_read hx hb hown hK (C := RX14) (T := TX14) (N := 74) rfl hly_16_48 hlk_711 (hh_18.at 4 rfl) dX14_waitFor_53 ?_
    refine lv_aload_n hx hb dX14_waitFor_56 rfl (lv_at hl 0 rfl) ?_
    obtain ⟨v_20, hv_20, hh_21⟩ := hh_18.pin (C := RX14) (T := TX14) (N := 74) hB16 rfl (by decide) hg_r0 (i := 36) (by decide) rfl
    clear hh_18
    obtain ⟨idString_22, rfl, hzidString_22⟩ := hv_20
    have hzidString_22' := jb_01 hzidString_22
    refine j7_read hx hb hown hK (C := RX14) (T := TX14) (N := 74) rfl hly_16_36 hlk_377 (hh_21.at 0 rfl) dX14_waitFor_57 ?_
    refine j7_zast hx hb hK hh_21 hB hB103 3 rfl (by decide) (by decide) rfl rfl rfl hg_waitString_19 (x := waits_3.toInt) (rfl) (by omega) (hzidString_22) (hzidString_22) dX14_waitFor_60 (fun H_23 locs_23 hh_23 => ?_)
    clear hh_21
    refine lv_aload_n hx hb dX14_waitFor_61 rfl (lv_at hl 0 rfl) ?_
    obtain ⟨v_24, hv_24, hh_25⟩ := hh_23.pin (C := RX14) (T := TX14) (N := 74) hB16 rfl (by decide) hg_r0 (i := 53) (by decide) rfl
    clear hh_23
    obtain ⟨waitInt_26, rfl, hg_waitInt_26⟩ := hv_24
    refine j7_read hx hb hown hK (C := RX14) (T := TX14) (N := 74) rfl hly_16_53 hlk_103 (hh_25.at 0 rfl) dX14_waitFor_62 ?_
    refine lv_aload_n hx hb dX14_waitFor_65 rfl (lv_at hl 0 rfl) ?_
    refine j7_read hx hb hown hK (C := RX14) (T := TX14) (N := 74) rfl hly_16_48 hlk_711 (hh_25.at 6 rfl) dX14_waitFor_66 ?_
    refine lv_aload_n hx hb dX14_waitFor_69 rfl (lv_at hl 0 rfl) ?_
    obtain ⟨v_27, hv_27, hh_28⟩ := hh_25.pin (C := RX14) (T := TX14) (N := 74) hB16 rfl (by decide) hg_r0 (i := 37) (by decide) rfl
    clear hh_25
    obtain ⟨idInt_29, rfl⟩ := hv_27
    refine j7_read hx hb hown hK (C := RX14) (T := TX14) (N := 74) rfl hly_16_37 hlk_380 (hh_28.at 0 rfl) dX14_waitFor_70 ?_
    refine j7_iast hx hb hK hh_28 hB hB101 1 rfl (by decide) (by decide) rfl rfl rfl hg_waitInt_26 (x := waits_3.toInt) (rfl) (by omega) (trivial) dX14_waitFor_73 (fun H_30 locs_30 hh_30 => ?_)
    clear hh_28
    refine lv_aload_n hx hb dX14_waitFor_74 rfl (lv_at hl 0 rfl) ?_
    obtain ⟨v_31, hv_31, hh_32⟩ := hh_30.pin (C := RX14) (T := TX14) (N := 74) hB16 rfl (by decide) hg_r0 (i := 55) (by decide) rfl
    clear hh_30
    obtain ⟨waitLength_33, rfl, hg_waitLength_33⟩ := hv_31
    refine j7_read hx hb hown hK (C := RX14) (T := TX14) (N := 74) rfl hly_16_55 hlk_109 (hh_32.at 0 rfl) dX14_waitFor_75 ?_
    refine lv_aload_n hx hb dX14_waitFor_78 rfl (lv_at hl 0 rfl) ?_
    refine j7_read hx hb hown hK (C := RX14) (T := TX14) (N := 74) rfl hly_16_48 hlk_711 (hh_32.at 8 rfl) dX14_waitFor_79 ?_
    refine lv_aload_n hx hb dX14_waitFor_82 rfl (lv_at hl 0 rfl) ?_
    obtain ⟨v_34, hv_34, hh_35⟩ := hh_32.pin (C := RX14) (T := TX14) (N := 74) hB16 rfl (by decide) hg_r0 (i := 39) (by decide) rfl
    clear hh_32
    obtain ⟨idLength_36, rfl, hloidLength_36, hhiidLength_36⟩ := hv_34
    refine j7_read hx hb hown hK (C := RX14) (T := TX14) (N := 74) rfl hly_16_39 hlk_383 (hh_35.at 0 rfl) dX14_waitFor_83 ?_
    refine j7_iast hx hb hK hh_35 hB hB203 1 rfl (by decide) (by decide) rfl rfl rfl hg_waitLength_33 (x := waits_3.toInt) (rfl) (by omega) (by first | omega | (refine ⟨?_, ?_⟩ <;> (first | omega | rfl | assumption | decide | exact Or.inl rfl | exact Or.inr rfl | (simp only; omega)))) dX14_waitFor_86 (fun H_37 locs_37 hh_37 => ?_)
    clear hh_35
    refine lv_iconst (v := 0) hx hb dX14_waitFor_87 (by decide) ?_
    refine lv_istore (lv' := [(4, .int 0), (0, .ref r0), (1, .ref r1), (2, .int a2), (3, .int a3)]) hx hb dX14_waitFor_88 hl (by decide) rfl (fun ls hl => ?_)
    have L90 : ∀ (N : Nat) (v4_38 : Int32) (H_38 : Heap) (locs_38 : List Loc), jSt (dC, dI) B base G0 G0 EX14_waitFor s.heap 0 0 [(r0, 16, 39, .int idLength_36), (r0, 16, 55, .ref waitLength_33), (r0, 16, 37, .int idInt_29), (r0, 16, 53, .ref waitInt_26), (r0, 16, 36, .int idString_22), (r0, 16, 52, .ref waitString_19), (r0, 16, 51, .ref waitNeed_15), (r0, 16, 50, .ref waitGoals_11), (r0, 16, 49, .ref waitOf_7), (r0, 16, 48, .int waits_3)] [] [] H_38 locs_38 → (0 ≤ v4_38.toInt ∧ v4_38.toInt ≤ 20) → (20 - v4_38.toInt : Int) < N → ∀ ls : Array Slot, lv_has ls 5 [(0, .ref r0), (1, .ref r1), (2, .int a2), (3, .int a3), (4, .int v4_38)] → W p l e R s m ([.ref r0, .ref r1, .int a2, .int a3] : List Value).toArray below meth c H_38 locs_38 0 0 Q (F0 m 90 ls []) := by
      intro N
      induction N with
      | zero => intro v4_38 H_38 locs_38 hh_38  hi_38 hm; exact absurd hm (by omega)
      | succ N L90 =>
        intro v4_38 H_38 locs_38 hh_38  hi_38 hm_38 ls hl
        obtain ⟨hi_38_0, hi_38_1⟩ := hi_38
        refine lv_iload hx hb dX14_waitFor_90 (lv_at hl 4 rfl) ?_
        refine lv_aload_n hx hb dX14_waitFor_92 rfl (lv_at hl 0 rfl) ?_
        refine j7_read hx hb hown hK (C := RX14) (T := TX14) (N := 74) rfl hly_16_39 hlk_383 (hh_38.at 0 rfl) dX14_waitFor_93 ?_
        refine lv_icmp_ge (tgt := 127) hx hb dX14_waitFor_96 (by decide) (fun c_39 => ?_) (fun c_39 => ?_)
        · skip
          have c_39' : v4_38.toInt ≥ idLength_36.toInt := jb_ge (rfl) (rfl) c_39
          refine lv_aload_n hx hb dX14_waitFor_127 rfl (lv_at hl 0 rfl) ?_
          refine lv_dup hx hb dX14_waitFor_128 rfl ?_
          refine j7_read hx hb hown hK (C := RX14) (T := TX14) (N := 74) rfl hly_16_48 hlk_711 (hh_38.at 9 rfl) dX14_waitFor_129 ?_
          refine lv_iconst (v := 1) hx hb dX14_waitFor_132 (by decide) ?_
          refine lv_iadd hx hb dX14_waitFor_133 ?_
          refine lv_topi (fun z_40 ez_40 => ?_)
          have hz_40 : z_40.toInt = waits_3.toInt + 1 := by rw [ez_40]; exact jb_iadd2 (rfl) ((by decide)) (by omega)
          refine j7_put hx hb hown hK hh_38 hB hAp hB16 (C := RX14) (T := TX14) (N := 74) rfl (by decide) hg_r0 (i := 48) (by decide) hly_16_48 rfl hlk_711 rfl (ty := .int) (v := .int z_40) (by decide +kernel) rfl rfl (⟨_, rfl, by omega, by omega⟩) rfl (L1 := [(r0, 16, 39, .int idLength_36), (r0, 16, 55, .ref waitLength_33), (r0, 16, 37, .int idInt_29), (r0, 16, 53, .ref waitInt_26), (r0, 16, 36, .int idString_22), (r0, 16, 52, .ref waitString_19), (r0, 16, 51, .ref waitNeed_15), (r0, 16, 50, .ref waitGoals_11), (r0, 16, 49, .ref waitOf_7)]) [0, 1, 2, 3, 4, 5, 6, 7, 8] rfl rfl rfl dX14_waitFor_134 (fun H_41 locs_41 hh_41 => ?_)
          clear hh_38
          refine lv_iconst (v := 1) hx hb dX14_waitFor_137 (by decide) ?_
          rw [hQ]
          exact W.zret (v := 1) hx hb hr (jb_nz (Or.inr rfl)) (fun t ht hW => ⟨⟨1, (), rfl, ⟨(Or.inr rfl), trivial⟩, hh_41.rt (M1 := []) [] rfl ht⟩, by rw [ht]; try exact hh_41.1.1, fun q h9 hq => by rw [ht]; try exact hh_41.1.2.1 q h9 hq⟩) hh_41.1.2.2 dX14_waitFor_138
        · skip
          have c_39' : v4_38.toInt < idLength_36.toInt := jb_ge_n (rfl) (rfl) c_39
          refine lv_aload_n hx hb dX14_waitFor_99 rfl (lv_at hl 0 rfl) ?_
          obtain ⟨v_42, hv_42, hh_43⟩ := hh_38.pin (C := RX14) (T := TX14) (N := 74) hB16 rfl (by decide) hg_r0 (i := 54) (by decide) rfl
          clear hh_38
          obtain ⟨waitUnits_44, rfl, hg_waitUnits_44⟩ := hv_42
          refine j7_read hx hb hown hK (C := RX14) (T := TX14) (N := 74) rfl hly_16_54 hlk_106 (hh_43.at 0 rfl) dX14_waitFor_100 ?_
          refine lv_bipush (v := 20) hx hb dX14_waitFor_103 (by decide) ?_
          refine lv_aload_n hx hb dX14_waitFor_105 rfl (lv_at hl 0 rfl) ?_
          refine j7_read hx hb hown hK (C := RX14) (T := TX14) (N := 74) rfl hly_16_48 hlk_711 (hh_43.at 10 rfl) dX14_waitFor_106 ?_
          refine lv_imul hx hb dX14_waitFor_109 ?_
          refine lv_topi (fun z_45 ez_45 => ?_)
          have hz_45 : z_45.toInt = 20 * waits_3.toInt := by rw [ez_45]; exact jb_imul2 ((by decide)) (rfl) (by omega)
          refine lv_iload hx hb dX14_waitFor_110 (lv_at hl 4 rfl) ?_
          refine lv_iadd hx hb dX14_waitFor_112 ?_
          refine lv_topi (fun z_46 ez_46 => ?_)
          have hz_46 : z_46.toInt = z_45.toInt + v4_38.toInt := by rw [ez_46]; exact jb_iadd2 (rfl) (rfl) (by omega)
          refine lv_aload_n hx hb dX14_waitFor_113 rfl (lv_at hl 0 rfl) ?_
          obtain ⟨v_47, hv_47, hh_48⟩ := hh_43.pin (C := RX14) (T := TX14) (N := 74) hB16 rfl (by decide) hg_r0 (i := 38) (by decide) rfl
          clear hh_43
          obtain ⟨idUnits_49, rfl, hg_idUnits_49⟩ := hv_47
          refine j7_read hx hb hown hK (C := RX14) (T := TX14) (N := 74) rfl hly_16_38 hlk_68 (hh_48.at 0 rfl) dX14_waitFor_114 ?_
          refine lv_iload hx hb dX14_waitFor_117 (lv_at hl 4 rfl) ?_
          refine j7_iald hx hb hK hh_48 hB101 1 rfl (by decide) hg_idUnits_49 (x := v4_38.toInt) (rfl) (by omega) dX14_waitFor_119 (fun z_50 (hz_50 : True) => ?_)
          refine j7_iast hx hb hK hh_48 hB hB101 1 rfl (by decide) (by decide) rfl rfl rfl hg_waitUnits_44 (x := z_46.toInt) (rfl) (by omega) (trivial) dX14_waitFor_120 (fun H_51 locs_51 hh_51 => ?_)
          clear hh_48
          obtain ⟨z_52, ez_52⟩ : ∃ y : Int32, y = v4_38 + 1 := ⟨_, rfl⟩
          refine lv_iinc (v := z_52) (lv' := [(4, .int z_52), (0, .ref r0), (1, .ref r1), (2, .int a2), (3, .int a3)]) hx hb dX14_waitFor_121 hl (k := 4) rfl (by rw [ez_52]; rfl) (by decide) rfl (fun ls hl => ?_)
          have hz_52 : z_52.toInt = v4_38.toInt + 1 := by rw [ez_52]; exact jb_iadd2 (rfl) (by decide) (by omega)
          refine lv_goto (tgt := 90) hx hb dX14_waitFor_124 (by decide) ?_
          exact L90 z_52 _ _ (hh_51.sub (L1 := [(r0, 16, 39, .int idLength_36), (r0, 16, 55, .ref waitLength_33), (r0, 16, 37, .int idInt_29), (r0, 16, 53, .ref waitInt_26), (r0, 16, 36, .int idString_22), (r0, 16, 52, .ref waitString_19), (r0, 16, 51, .ref waitNeed_15), (r0, 16, 50, .ref waitGoals_11), (r0, 16, 49, .ref waitOf_7), (r0, 16, 48, .int waits_3)]) [2, 3, 4, 5, 6, 7, 8, 9, 10, 11] rfl (M1 := []) [] rfl (I1 := []) [] rfl) (by first | omega | (refine ⟨?_, ?_⟩ <;> (first | omega | rfl | assumption | decide | exact Or.inl rfl | exact Or.inr rfl | (simp only; omega)))) (by omega) _ (lv_sub hl [1, 2, 3, 4, 0] rfl)
    exact L90 (20 - (0 : Int32).toInt : Int).toNat.succ 0 _ _ hh_37 (by first | omega | (refine ⟨?_, ?_⟩ <;> (first | omega | rfl | assumption | decide | exact Or.inl rfl | exact Or.inr rfl | (simp only; omega)))) (by omega) _ (lv_sub hl [1, 2, 3, 4, 0] rfl)
  · skip
    have c_4' : waits_3.toInt = 12 := jb_ne_n (rfl) ((by decide)) c_4
    refine lv_aload_n hx hb dX14_waitFor_9 rfl (lv_at hl 0 rfl) ?_
    refine lv_sipush (v := (-32600)) hx hb dX14_waitFor_10 (by decide) ?_
    refine va_callv (A0 := jA base) (H0 := s.heap) (va_runV (As := [.int (-32600)]) (rest := []) ⟨hx, hb, hml, hown, hts⟩ (uX14_error l dC dI ca base B hB hAp hB16 hB101 G0 s.heap r0 (-32600)) (cwV 1 hts (jgV (jWr_53 _ (List.mem_of_getElem? (i := 9) rfl)) (jWr_53 _ (List.mem_of_getElem? (i := 10) rfl)) (jWr_53 _ (List.mem_of_getElem? (i := 11) rfl)) (jWr_1 _ (List.mem_of_getElem? (i := 5) rfl)) (jWr_53 _ (List.mem_of_getElem? (i := 12) rfl))) rfl rfl rfl (by decide +kernel) ⟨by rw [← hR]; exact Nat.le_of_ble_eq_true rfl, by rw [← hR]; exact Nat.le_of_ble_eq_true rfl⟩) ⟨fun a U g mk q => by obtain ⟨q0, q1, q2, qK, q10, q11, q12⟩ := q; exact ⟨q0, q1, q2, jG.calling g mk a qK, q10, q11, q12⟩, hh_2.recv (C := RX14) (T := TX14) (N := 74) hB16 rfl (by decide) hg_r0 hK, fun U hU hW => ⟨rfl, hU, hh_2.2.1, hG.step hW hU hh_2.1, hg_r0, jP.nil, trivial⟩⟩ rfl rfl hl.1 rfl (lv_room (Nat.le_of_ble_eq_true rfl)) dX14_waitFor_13 ⟨Nat.zero_le _, Nat.zero_le _⟩) hh_2.1 (fun q _ h => h) (fun q h => h) (fun u_53 t_53 H_53 locs_53 ht_53 hvm_53 hr_54 hb_53 hz_53 hk_53 hS_53 => ?_)
    rw [ht_53] at hb_53
    obtain ⟨hb_531, hb_532, hb_533, hb_534, hb_535⟩ := hb_53
    have hh_53 : jSt (dC, dI) B base G0 G0 EX14_waitFor s.heap 0 0 [(r0, 16, 48, .int waits_3)] [] [] H_53 locs_53 := ((hh_2.call hb_531 hb_532 hb_533 hb_534 hS_53 rfl (L1 := [(r0, 16, 48, .int waits_3)]) [0] rfl rfl (M1 := []) [] rfl rfl (I1 := []) [] rfl rfl).more hb_535)
    clear hh_2 ht_53 hvm_53 hz_53 hk_53 hS_53 hb_531 hb_532 hb_533 hb_534 hb_535
    refine lv_iconst (v := 0) hx hb dX14_waitFor_16 (by decide) ?_
    rw [hQ]
    exact W.zret (v := 0) hx hb hr (jb_nz (Or.inl rfl)) (fun t ht hW => ⟨⟨0, (), rfl, ⟨(Or.inl rfl), trivial⟩, hh_53.rt (M1 := []) [] rfl ht⟩, by rw [ht]; try exact hh_53.1.1, fun q h9 hq => by rw [ht]; try exact hh_53.1.2.1 q h9 hq⟩) hh_53.1.2.2 dX14_waitFor_17
