theorem dX14_takeId_0 : decode cX14_takeId 0 = .ok (.aload_n 0, 1) := by decide +kernel
theorem dX14_takeId_1 : decode cX14_takeId 1 = .ok (.iload_n 1, 1) := by decide +kernel
theorem dX14_takeId_2 : decode cX14_takeId 2 = .ok (.ifCond .ge 7, 3) := by decide +kernel
theorem dX14_takeId_5 : decode cX14_takeId 5 = .ok (.iconst 1, 1) := by decide +kernel
theorem dX14_takeId_6 : decode cX14_takeId 6 = .ok (.goto 4, 3) := by decide +kernel
theorem dX14_takeId_9 : decode cX14_takeId 9 = .ok (.iconst 0, 1) := by decide +kernel
theorem dX14_takeId_10 : decode cX14_takeId 10 = .ok (.putfield 374, 3) := by decide +kernel
theorem dX14_takeId_13 : decode cX14_takeId 13 = .ok (.iload_n 1, 1) := by decide +kernel
theorem dX14_takeId_14 : decode cX14_takeId 14 = .ok (.ifCond .ge 4, 3) := by decide +kernel
theorem dX14_takeId_17 : decode cX14_takeId 17 = .ok (.return_, 1) := by decide +kernel
theorem dX14_takeId_18 : decode cX14_takeId 18 = .ok (.aload_n 0, 1) := by decide +kernel
theorem dX14_takeId_19 : decode cX14_takeId 19 = .ok (.aload_n 0, 1) := by decide +kernel
theorem dX14_takeId_20 : decode cX14_takeId 20 = .ok (.getfield 37, 3) := by decide +kernel
theorem dX14_takeId_23 : decode cX14_takeId 23 = .ok (.iload_n 1, 1) := by decide +kernel
theorem dX14_takeId_24 : decode cX14_takeId 24 = .ok (.iaload, 1) := by decide +kernel
theorem dX14_takeId_25 : decode cX14_takeId 25 = .ok (.iconst 4, 1) := by decide +kernel
theorem dX14_takeId_26 : decode cX14_takeId 26 = .ok (.if_icmp .ne 7, 3) := by decide +kernel
theorem dX14_takeId_29 : decode cX14_takeId 29 = .ok (.iconst 1, 1) := by decide +kernel
theorem dX14_takeId_30 : decode cX14_takeId 30 = .ok (.goto 4, 3) := by decide +kernel
theorem dX14_takeId_33 : decode cX14_takeId 33 = .ok (.iconst 0, 1) := by decide +kernel
theorem dX14_takeId_34 : decode cX14_takeId 34 = .ok (.putfield 377, 3) := by decide +kernel
theorem dX14_takeId_37 : decode cX14_takeId 37 = .ok (.aload_n 0, 1) := by decide +kernel
theorem dX14_takeId_38 : decode cX14_takeId 38 = .ok (.aload_n 0, 1) := by decide +kernel
theorem dX14_takeId_39 : decode cX14_takeId 39 = .ok (.getfield 377, 3) := by decide +kernel
theorem dX14_takeId_42 : decode cX14_takeId 42 = .ok (.ifCond .eq 7, 3) := by decide +kernel
theorem dX14_takeId_45 : decode cX14_takeId 45 = .ok (.iconst 0, 1) := by decide +kernel
theorem dX14_takeId_46 : decode cX14_takeId 46 = .ok (.goto 9, 3) := by decide +kernel
theorem dX14_takeId_49 : decode cX14_takeId 49 = .ok (.aload_n 0, 1) := by decide +kernel
theorem dX14_takeId_50 : decode cX14_takeId 50 = .ok (.getfield 62, 3) := by decide +kernel
theorem dX14_takeId_53 : decode cX14_takeId 53 = .ok (.iload_n 1, 1) := by decide +kernel
theorem dX14_takeId_54 : decode cX14_takeId 54 = .ok (.iaload, 1) := by decide +kernel
theorem dX14_takeId_55 : decode cX14_takeId 55 = .ok (.putfield 380, 3) := by decide +kernel
theorem dX14_takeId_58 : decode cX14_takeId 58 = .ok (.aload_n 0, 1) := by decide +kernel
theorem dX14_takeId_59 : decode cX14_takeId 59 = .ok (.aload_n 0, 1) := by decide +kernel
theorem dX14_takeId_60 : decode cX14_takeId 60 = .ok (.getfield 377, 3) := by decide +kernel
theorem dX14_takeId_63 : decode cX14_takeId 63 = .ok (.ifCond .eq 19, 3) := by decide +kernel
theorem dX14_takeId_66 : decode cX14_takeId 66 = .ok (.aload_n 0, 1) := by decide +kernel
theorem dX14_takeId_67 : decode cX14_takeId 67 = .ok (.getfield 55, 3) := by decide +kernel
theorem dX14_takeId_70 : decode cX14_takeId 70 = .ok (.iload_n 1, 1) := by decide +kernel
theorem dX14_takeId_71 : decode cX14_takeId 71 = .ok (.iaload, 1) := by decide +kernel
theorem dX14_takeId_72 : decode cX14_takeId 72 = .ok (.aload_n 0, 1) := by decide +kernel
theorem dX14_takeId_73 : decode cX14_takeId 73 = .ok (.getfield 52, 3) := by decide +kernel
theorem dX14_takeId_76 : decode cX14_takeId 76 = .ok (.iload_n 1, 1) := by decide +kernel
theorem dX14_takeId_77 : decode cX14_takeId 77 = .ok (.iaload, 1) := by decide +kernel
theorem dX14_takeId_78 : decode cX14_takeId 78 = .ok (.isub, 1) := by decide +kernel
theorem dX14_takeId_79 : decode cX14_takeId 79 = .ok (.goto 4, 3) := by decide +kernel
theorem dX14_takeId_82 : decode cX14_takeId 82 = .ok (.iconst 0, 1) := by decide +kernel
theorem dX14_takeId_83 : decode cX14_takeId 83 = .ok (.putfield 383, 3) := by decide +kernel
theorem dX14_takeId_86 : decode cX14_takeId 86 = .ok (.iconst 0, 1) := by decide +kernel
theorem dX14_takeId_87 : decode cX14_takeId 87 = .ok (.istore_n 2, 1) := by decide +kernel
theorem dX14_takeId_88 : decode cX14_takeId 88 = .ok (.iload_n 2, 1) := by decide +kernel
theorem dX14_takeId_89 : decode cX14_takeId 89 = .ok (.aload_n 0, 1) := by decide +kernel
theorem dX14_takeId_90 : decode cX14_takeId 90 = .ok (.getfield 383, 3) := by decide +kernel
theorem dX14_takeId_93 : decode cX14_takeId 93 = .ok (.if_icmp .ge 28, 3) := by decide +kernel
theorem dX14_takeId_96 : decode cX14_takeId 96 = .ok (.aload_n 0, 1) := by decide +kernel
theorem dX14_takeId_97 : decode cX14_takeId 97 = .ok (.getfield 68, 3) := by decide +kernel
theorem dX14_takeId_100 : decode cX14_takeId 100 = .ok (.iload_n 2, 1) := by decide +kernel
theorem dX14_takeId_101 : decode cX14_takeId 101 = .ok (.aload_n 0, 1) := by decide +kernel
theorem dX14_takeId_102 : decode cX14_takeId 102 = .ok (.getfield 65, 3) := by decide +kernel
theorem dX14_takeId_105 : decode cX14_takeId 105 = .ok (.aload_n 0, 1) := by decide +kernel
theorem dX14_takeId_106 : decode cX14_takeId 106 = .ok (.getfield 52, 3) := by decide +kernel
theorem dX14_takeId_109 : decode cX14_takeId 109 = .ok (.iload_n 1, 1) := by decide +kernel
theorem dX14_takeId_110 : decode cX14_takeId 110 = .ok (.iaload, 1) := by decide +kernel
theorem dX14_takeId_111 : decode cX14_takeId 111 = .ok (.iload_n 2, 1) := by decide +kernel
theorem dX14_takeId_112 : decode cX14_takeId 112 = .ok (.iadd, 1) := by decide +kernel
theorem dX14_takeId_113 : decode cX14_takeId 113 = .ok (.iaload, 1) := by decide +kernel
theorem dX14_takeId_114 : decode cX14_takeId 114 = .ok (.iastore, 1) := by decide +kernel
theorem dX14_takeId_115 : decode cX14_takeId 115 = .ok (.iinc 2 1, 3) := by decide +kernel
theorem dX14_takeId_118 : decode cX14_takeId 118 = .ok (.goto (-30), 3) := by decide +kernel
theorem dX14_takeId_121 : decode cX14_takeId 121 = .ok (.return_, 1) := by decide +kernel
def EX14_takeId : List (Nat × Nat) := [(16, 36), (16, 37), (16, 39), (16, 40), (101, 0)]
set_option maxHeartbeats 4000000 in
set_option maxRecDepth 20000 in
theorem uX14_takeId (l : Launch) (dC : Nat → ClassId) (dI : Nat → Nat → Nat) (ca : Nat → ClassId) (base : Nat) (B : jF) (hB : jBok B) (hAp : jAp (dC, dI)) (hB16 : ∀ n G a H, B 16 n G a H ↔ jOb (dC, dI) 16 74 (F16 n G) a H) (hB101 : ∀ n G a H, B 101 n G a H ↔ jAr (dC, dI) (ca 1) (fun j z => True) n a H) (hB117 : ∀ n G a H, B 117 n G a H ↔ jAr (dC, dI) (ca 1) (fun j z => True) n a H) (hB122 : ∀ n G a H, B 122 n G a H ↔ jAr (dC, dI) (ca 1) (fun j z => 0 ≤ z.toInt ∧ z.toInt ≤ 3100) n a H) (hB123 : ∀ n G a H, B 123 n G a H ↔ jAr (dC, dI) (ca 1) (fun j z => 0 ≤ z.toInt ∧ z.toInt ≤ 3100) n a H) (hB125 : ∀ n G a H, B 125 n G a H ↔ jAr (dC, dI) (ca 1) (fun j z => True) n a H) (hB127 : ∀ n G a H, B 127 n G a H ↔ jAr (dC, dI) (ca 1) (fun j z => True) n a H) (G0 : jT) (H0 : Heap) (r0 : Nat) (a1 : Int32) (zm : Nat) (xb : Nat) (xe : Nat) (fs : Nat → Int32) (fb : Nat → Int32) (fe : Nat → Int32) : Met l yX14_takeId (jw yX14_takeId cX14_takeId 3 none) ({ frames := 0, cells := 0, slots := 0, locals := 0 }) (va_Pc [.ref r0, .int a1] (fun U => U.heap = H0 ∧ jX B base G0 [] H0 ∧ jG dC dI ca base U ∧ G0 r0 = some (16, 0) ∧ G0 zm = some (117, 3100) ∧ G0 xb = some (122, 3100) ∧ G0 xe = some (123, 3100) ∧ jP (dC, dI) G0 H0 [(r0, 16, 17, .ref zm), (r0, 16, 22, .ref xb), (r0, 16, 23, .ref xe)] ∧ jMc (dC, dI) G0 H0 [(zm, 117, 3100, ca 1, fs), (xb, 122, 3100, ca 1, fb), (xe, 123, 3100, ca 1, fe)] ∧ a1.toInt ≤ 3099 ∧ (0 ≤ a1.toInt → jSo fs a1.toInt = 4 → jSo fe a1.toInt - jSo fb a1.toInt ≤ 20))) (va_Qv (S := Unit) (fun u => True) (fun u t => jRt (dC, dI) B base G0 EX14_takeId H0 [] t.heap) (jA base)) 0 0 (jA base) := by
  refine Met.ofW (cc := cX14_takeId) (maxL := 3) (ret := none) (by decide) rfl ?_
  intro p e s m args below meth c s₁ Bd hml hv
  obtain ⟨rfl, hH0, hX, hG, hg_r0, hg_zm, hg_xb, hg_xe, hP0, hM0, hp0, hp1⟩ := hv
  have hK := hG.1
  have hx := Bd.exec
  have hb := Bd.bytes
  have hr := Bd.returns
  have hts := atoms_spec (ws := (jw yX14_takeId cX14_takeId 3 none)) Bd.pre
  have htw : ∀ w ∈ jWl, w.before _ s = true := fun w h => hts w (List.mem_cons_of_mem _ h)
  have hown : s.vm.findClass RX14 = some m.cls := findClass_of_methodNamed Bd.named
  have hlocks := Bd.notSynchronized
  obtain ⟨Q, hQ⟩ : ∃ Q, Q = MQ below (va_Qv (S := Unit) (fun u => True) (fun u t => jRt (dC, dI) B base G0 EX14_takeId H0 [] t.heap) (jA base)) ([.ref r0, .int a1] : List Value).toArray s 0 0 (jA base) := ⟨_, rfl⟩
  rw [← hQ]
  have hl := lv_entry ([.ref r0, .int a1]) (n := 3) (Nat.le_of_ble_eq_true rfl)
  rw [lg_entry_eq]
  generalize (lg_sl ([.ref r0, .int a1]) ++ List.replicate (3 - (lg_sl ([.ref r0, .int a1])).length) Slot.unset).toArray = ls at hl ⊢
  have hl : lv_has ls 3 [(0, .ref r0), (1, .int a1)] := hl
  generalize hR : (headSpec (jw yX14_takeId cX14_takeId 3 none) ({ frames := 0, cells := 0, slots := 0, locals := 0 })).room = R
  subst hH0
  have hh : jSt (dC, dI) B base G0 G0 EX14_takeId s.heap 0 0 [(r0, 16, 17, .ref zm), (r0, 16, 22, .ref xb), (r0, 16, 23, .ref xe)] [(zm, 117, 3100, ca 1, fs), (xb, 122, 3100, ca 1, fb), (xe, 123, 3100, ca 1, fe)] [] s.heap [] := jSt.start hX hP0 hM0 jIs.nil
  clear hX hP0
  have hk0 : (0 : Int32).toInt = 0 := by decide
  have hk1 : (1 : Int32).toInt = 1 := by decide
  have hk4 : (4 : Int32).toInt = 4 := by decide
  have hly_16_17 := htw (u_lay RX14 TX14 17) (jWc_wsX140 _ (u_in_lay (by decide)))
  have hly_16_22 := htw (u_lay RX14 TX14 22) (jWc_wsX140 _ (u_in_lay (by decide)))
  have hly_16_23 := htw (u_lay RX14 TX14 23) (jWc_wsX140 _ (u_in_lay (by decide)))
  have hly_16_25 := htw (u_lay RX14 TX14 25) (jWc_wsX140 _ (u_in_lay (by decide)))
  have hly_16_27 := htw (u_lay RX14 TX14 27) (jWc_wsX140 _ (u_in_lay (by decide)))
  have hly_16_36 := htw (u_lay RX14 TX14 36) (jWc_wsX140 _ (u_in_lay (by decide)))
  have hly_16_37 := htw (u_lay RX14 TX14 37) (jWc_wsX140 _ (u_in_lay (by decide)))
  have hly_16_38 := htw (u_lay RX14 TX14 38) (jWc_wsX140 _ (u_in_lay (by decide)))
  have hly_16_39 := htw (u_lay RX14 TX14 39) (jWc_wsX140 _ (u_in_lay (by decide)))
  have hly_16_40 := htw (u_lay RX14 TX14 40) (jWc_wsX140 _ (u_in_lay (by decide)))
  have hlk_374 := (htw (.fieldLink RX14 374 "ProofServerModel" "idNull" "Z") (jWr_50 _ (List.mem_of_getElem? (i := 10) rfl)))
  have hlk_37 := (htw (.fieldLink RX14 37 "ProofServerModel" "sort" "[I") (jWr_11 _ (List.mem_of_getElem? (i := 4) rfl)))
  have hlk_377 := (htw (.fieldLink RX14 377 "ProofServerModel" "idString" "Z") (jWr_53 _ (List.mem_of_getElem? (i := 19) rfl)))
  have hlk_62 := (htw (.fieldLink RX14 62 "ProofServerModel" "ints" "[I") (jWr_11 _ (List.mem_of_getElem? (i := 13) rfl)))
  have hlk_380 := (htw (.fieldLink RX14 380 "ProofServerModel" "idInt" "I") (jWr_53 _ (List.mem_of_getElem? (i := 21) rfl)))
  have hlk_55 := (htw (.fieldLink RX14 55 "ProofServerModel" "to" "[I") (jWr_11 _ (List.mem_of_getElem? (i := 10) rfl)))
  have hlk_52 := (htw (.fieldLink RX14 52 "ProofServerModel" "from" "[I") (jWr_11 _ (List.mem_of_getElem? (i := 9) rfl)))
  have hlk_383 := (htw (.fieldLink RX14 383 "ProofServerModel" "idLength" "I") (jWr_53 _ (List.mem_of_getElem? (i := 20) rfl)))
  have hlk_68 := (htw (.fieldLink RX14 68 "ProofServerModel" "idUnits" "[I") (jWr_11 _ (List.mem_of_getElem? (i := 15) rfl)))
  have hlk_65 := (htw (.fieldLink RX14 65 "ProofServerModel" "pool" "[I") (jWr_11 _ (List.mem_of_getElem? (i := 14) rfl)))
  have hrg_a1 := jb_rng a1
  refine lv_aload_n hx hb dX14_takeId_0 rfl (lv_at hl 0 rfl) ?_
  refine lv_iload_n hx hb dX14_takeId_1 rfl (lv_at hl 1 rfl) ?_
  have C10 : ∀ (w0_1 : Int32) (H_1 : Heap) (locs_1 : List Loc), jSt (dC, dI) B base G0 G0 EX14_takeId s.heap 0 0 [(r0, 16, 17, .ref zm), (r0, 16, 22, .ref xb), (r0, 16, 23, .ref xe)] [(zm, 117, 3100, ca 1, fs), (xb, 122, 3100, ca 1, fb), (xe, 123, 3100, ca 1, fe)] [] H_1 locs_1 → (w0_1 = 0 ∨ w0_1 = 1) → (0 ≤ w0_1.toInt ∧ w0_1.toInt ≤ 1) → ∀ ls : Array Slot, lv_has ls 3 [(0, .ref r0), (1, .int a1)] → W p l e R s m ([.ref r0, .int a1] : List Value).toArray below meth c H_1 locs_1 0 0 Q (F0 m 10 ls [.int w0_1, .ref r0]) := by
    intro w0_1 H_1 locs_1 hh_1 hb_w0_1 hi_1 ls hl
    obtain ⟨hi_1_0, hi_1_1⟩ := hi_1
    have hb_w0_1' := jb_01 hb_w0_1
    refine j7_put hx hb hown hK hh_1 hB hAp hB16 (C := RX14) (T := TX14) (N := 74) rfl (by decide) hg_r0 (i := 40) (by decide) hly_16_40 rfl hlk_374 rfl (ty := .boolean) (v := .int w0_1) (by decide +kernel) (jb_nz (hb_w0_1)) (jb_fz (hb_w0_1)) (⟨_, rfl, (hb_w0_1)⟩) rfl (L1 := [(r0, 16, 17, .ref zm), (r0, 16, 22, .ref xb), (r0, 16, 23, .ref xe)]) [0, 1, 2] rfl rfl rfl dX14_takeId_10 (fun H_2 locs_2 hh_2 => ?_)
    clear hh_1
    refine lv_iload_n hx hb dX14_takeId_13 rfl (lv_at hl 1 rfl) ?_
    refine lv_if_ge (tgt := 18) hx hb dX14_takeId_14 (by decide) (fun c_3 => ?_) (fun c_3 => ?_)
    · skip
      have c_3' : a1.toInt ≥ 0 := jb_ge (rfl) ((by decide)) c_3
      refine lv_aload_n hx hb dX14_takeId_18 rfl (lv_at hl 0 rfl) ?_
      refine lv_aload_n hx hb dX14_takeId_19 rfl (lv_at hl 0 rfl) ?_
      refine j7_read hx hb hown hK (C := RX14) (T := TX14) (N := 74) rfl hly_16_17 hlk_37 (hh_2.at 1 rfl) dX14_takeId_20 ?_
      refine lv_iload_n hx hb dX14_takeId_23 rfl (lv_at hl 1 rfl) ?_
      refine j7_ialdM hx hb hK hh_2 hB117 1 rfl (by decide) hg_zm (x := a1.toInt) (rfl) (by omega) (j := 0) rfl dX14_takeId_24 (fun z_4 ez_4 (hz_4 : True) => ?_)
      have hqz_4 : z_4.toInt = jSo fs (a1.toInt) := by unfold jSo; rw [ez_4]
      refine lv_iconst (v := 4) hx hb dX14_takeId_25 (by decide) ?_
      have C34 : ∀ (w0_5 : Int32) (H_5 : Heap) (locs_5 : List Loc), jSt (dC, dI) B base G0 G0 EX14_takeId s.heap 0 0 [(r0, 16, 40, .int w0_1), (r0, 16, 17, .ref zm), (r0, 16, 22, .ref xb), (r0, 16, 23, .ref xe)] [(zm, 117, 3100, ca 1, fs), (xb, 122, 3100, ca 1, fb), (xe, 123, 3100, ca 1, fe)] [] H_5 locs_5 → (w0_5 = 0 ∨ w0_5 = 1) → (0 ≤ w0_5.toInt ∧ w0_5.toInt ≤ 1 ∧ 0 ≤ a1.toInt ∧ (w0_5.toInt = 1 → jSo fs a1.toInt = 4)) → ∀ ls : Array Slot, lv_has ls 3 [(0, .ref r0), (1, .int a1)] → W p l e R s m ([.ref r0, .int a1] : List Value).toArray below meth c H_5 locs_5 0 0 Q (F0 m 34 ls [.int w0_5, .ref r0]) := by
        intro w0_5 H_5 locs_5 hh_5 hb_w0_5 hi_5 ls hl
        obtain ⟨hi_5_0, hi_5_1, hi_5_2, hi_5_3⟩ := hi_5
        have hb_w0_5' := jb_01 hb_w0_5
        refine j7_put hx hb hown hK hh_5 hB hAp hB16 (C := RX14) (T := TX14) (N := 74) rfl (by decide) hg_r0 (i := 36) (by decide) hly_16_36 rfl hlk_377 rfl (ty := .boolean) (v := .int w0_5) (by decide +kernel) (jb_nz (hb_w0_5)) (jb_fz (hb_w0_5)) (⟨_, rfl, (hb_w0_5)⟩) rfl (L1 := [(r0, 16, 40, .int w0_1), (r0, 16, 17, .ref zm), (r0, 16, 22, .ref xb), (r0, 16, 23, .ref xe)]) [0, 1, 2, 3] rfl rfl rfl dX14_takeId_34 (fun H_6 locs_6 hh_6 => ?_)
        clear hh_5
        refine lv_aload_n hx hb dX14_takeId_37 rfl (lv_at hl 0 rfl) ?_
        refine lv_aload_n hx hb dX14_takeId_38 rfl (lv_at hl 0 rfl) ?_
        refine j7_read hx hb hown hK (C := RX14) (T := TX14) (N := 74) rfl hly_16_36 hlk_377 (hh_6.at 0 rfl) dX14_takeId_39 ?_
        refine lv_if_eq (tgt := 49) hx hb dX14_takeId_42 (by decide) (fun c_7 => ?_) (fun c_7 => ?_)
        · skip
          have c_7' : w0_5.toInt = 0 := jb_eq (rfl) ((by decide)) c_7
          refine lv_aload_n hx hb dX14_takeId_49 rfl (lv_at hl 0 rfl) ?_
          obtain ⟨v_8, hv_8, hh_9⟩ := hh_6.pin (C := RX14) (T := TX14) (N := 74) hB16 rfl (by decide) hg_r0 (i := 25) (by decide) rfl
          clear hh_6
          obtain ⟨ints_10, rfl, hg_ints_10⟩ := hv_8
          refine j7_read hx hb hown hK (C := RX14) (T := TX14) (N := 74) rfl hly_16_25 hlk_62 (hh_9.at 0 rfl) dX14_takeId_50 ?_
          refine lv_iload_n hx hb dX14_takeId_53 rfl (lv_at hl 1 rfl) ?_
          refine j7_iald hx hb hK hh_9 hB125 1 rfl (by decide) hg_ints_10 (x := a1.toInt) (rfl) (by omega) dX14_takeId_54 (fun z_11 (hz_11 : True) => ?_)
          refine j7_put hx hb hown hK hh_9 hB hAp hB16 (C := RX14) (T := TX14) (N := 74) rfl (by decide) hg_r0 (i := 37) (by decide) hly_16_37 rfl hlk_380 rfl (ty := .int) (v := .int z_11) (by decide +kernel) rfl rfl (⟨_, rfl⟩) rfl (L1 := [(r0, 16, 25, .ref ints_10), (r0, 16, 36, .int w0_5), (r0, 16, 40, .int w0_1), (r0, 16, 17, .ref zm), (r0, 16, 22, .ref xb), (r0, 16, 23, .ref xe)]) [0, 1, 2, 3, 4, 5] rfl rfl rfl dX14_takeId_55 (fun H_12 locs_12 hh_12 => ?_)
          clear hh_9
          refine lv_aload_n hx hb dX14_takeId_58 rfl (lv_at hl 0 rfl) ?_
          refine lv_aload_n hx hb dX14_takeId_59 rfl (lv_at hl 0 rfl) ?_
          refine j7_read hx hb hown hK (C := RX14) (T := TX14) (N := 74) rfl hly_16_36 hlk_377 (hh_12.at 2 rfl) dX14_takeId_60 ?_
          refine lv_if_eq (tgt := 82) hx hb dX14_takeId_63 (by decide) (fun c_13 => ?_) (fun c_13 => ?_)
          · skip
            have c_13' : w0_5.toInt = 0 := jb_eq (rfl) ((by decide)) c_13
            refine lv_iconst (v := 0) hx hb dX14_takeId_82 (by decide) ?_
            refine j7_put hx hb hown hK hh_12 hB hAp hB16 (C := RX14) (T := TX14) (N := 74) rfl (by decide) hg_r0 (i := 39) (by decide) hly_16_39 rfl hlk_383 rfl (ty := .int) (v := .int 0) (by decide +kernel) rfl rfl (⟨_, rfl, by omega, by omega⟩) rfl (L1 := [(r0, 16, 37, .int z_11), (r0, 16, 25, .ref ints_10), (r0, 16, 36, .int w0_5), (r0, 16, 40, .int w0_1), (r0, 16, 17, .ref zm), (r0, 16, 22, .ref xb), (r0, 16, 23, .ref xe)]) [0, 1, 2, 3, 4, 5, 6] rfl rfl rfl dX14_takeId_83 (fun H_14 locs_14 hh_14 => ?_)
            clear hh_12
            refine lv_iconst (v := 0) hx hb dX14_takeId_86 (by decide) ?_
            refine lv_istore_n (lv' := [(2, .int 0), (0, .ref r0), (1, .int a1)]) hx hb dX14_takeId_87 rfl hl (by decide) rfl (fun ls hl => ?_)
            have L88 : ∀ (N : Nat) (v2_15 : Int32) (H_15 : Heap) (locs_15 : List Loc), jSt (dC, dI) B base G0 G0 EX14_takeId s.heap 0 0 [(r0, 16, 39, .int 0), (r0, 16, 37, .int z_11), (r0, 16, 25, .ref ints_10), (r0, 16, 36, .int w0_5), (r0, 16, 40, .int w0_1), (r0, 16, 17, .ref zm), (r0, 16, 22, .ref xb), (r0, 16, 23, .ref xe)] [(zm, 117, 3100, ca 1, fs), (xb, 122, 3100, ca 1, fb), (xe, 123, 3100, ca 1, fe)] [] H_15 locs_15 → (0 ≤ v2_15.toInt ∧ v2_15.toInt ≤ 20) → (20 - v2_15.toInt : Int) < N → ∀ ls : Array Slot, lv_has ls 3 [(0, .ref r0), (1, .int a1), (2, .int v2_15)] → W p l e R s m ([.ref r0, .int a1] : List Value).toArray below meth c H_15 locs_15 0 0 Q (F0 m 88 ls []) := by
              intro N
              induction N with
              | zero => intro v2_15 H_15 locs_15 hh_15  hi_15 hm; exact absurd hm (by omega)
              | succ N L88 =>
                intro v2_15 H_15 locs_15 hh_15  hi_15 hm_15 ls hl
                obtain ⟨hi_15_0, hi_15_1⟩ := hi_15
                refine lv_iload_n hx hb dX14_takeId_88 rfl (lv_at hl 2 rfl) ?_
                refine lv_aload_n hx hb dX14_takeId_89 rfl (lv_at hl 0 rfl) ?_
                refine j7_read hx hb hown hK (C := RX14) (T := TX14) (N := 74) rfl hly_16_39 hlk_383 (hh_15.at 0 rfl) dX14_takeId_90 ?_
                refine lv_icmp_ge (tgt := 121) hx hb dX14_takeId_93 (by decide) (fun c_16 => ?_) (fun c_16 => ?_)
                · skip
                  have c_16' : v2_15.toInt ≥ 0 := jb_ge (rfl) ((by decide)) c_16
                  rw [hQ]
                  exact W.vret hx hb hr (fun t ht hW => ⟨⟨(), rfl, trivial, hh_15.rt (M1 := []) [] rfl ht⟩, by rw [ht]; try exact hh_15.1.1, fun q h9 hq => by rw [ht]; try exact hh_15.1.2.1 q h9 hq⟩) hh_15.1.2.2 dX14_takeId_121
                · skip
                  have c_16' : v2_15.toInt < 0 := jb_ge_n (rfl) ((by decide)) c_16
                  refine lv_aload_n hx hb dX14_takeId_96 rfl (lv_at hl 0 rfl) ?_
                  obtain ⟨v_17, hv_17, hh_18⟩ := hh_15.pin (C := RX14) (T := TX14) (N := 74) hB16 rfl (by decide) hg_r0 (i := 38) (by decide) rfl
                  clear hh_15
                  obtain ⟨idUnits_19, rfl, hg_idUnits_19⟩ := hv_17
                  refine j7_read hx hb hown hK (C := RX14) (T := TX14) (N := 74) rfl hly_16_38 hlk_68 (hh_18.at 0 rfl) dX14_takeId_97 ?_
                  refine lv_iload_n hx hb dX14_takeId_100 rfl (lv_at hl 2 rfl) ?_
                  refine lv_aload_n hx hb dX14_takeId_101 rfl (lv_at hl 0 rfl) ?_
                  obtain ⟨v_20, hv_20, hh_21⟩ := hh_18.pin (C := RX14) (T := TX14) (N := 74) hB16 rfl (by decide) hg_r0 (i := 27) (by decide) rfl
                  clear hh_18
                  obtain ⟨pool_22, rfl, hg_pool_22⟩ := hv_20
                  refine j7_read hx hb hown hK (C := RX14) (T := TX14) (N := 74) rfl hly_16_27 hlk_65 (hh_21.at 0 rfl) dX14_takeId_102 ?_
                  refine lv_aload_n hx hb dX14_takeId_105 rfl (lv_at hl 0 rfl) ?_
                  refine j7_read hx hb hown hK (C := RX14) (T := TX14) (N := 74) rfl hly_16_22 hlk_52 (hh_21.at 8 rfl) dX14_takeId_106 ?_
                  refine lv_iload_n hx hb dX14_takeId_109 rfl (lv_at hl 1 rfl) ?_
                  refine j7_ialdM hx hb hK hh_21 hB122 1 rfl (by decide) hg_xb (x := a1.toInt) (rfl) (by omega) (j := 1) rfl dX14_takeId_110 (fun z_23 ez_23 (hz_23 : 0 ≤ z_23.toInt ∧ z_23.toInt ≤ 3100) => ?_)
                  have hqz_23 : z_23.toInt = jSo fb (a1.toInt) := by unfold jSo; rw [ez_23]
                  refine lv_iload_n hx hb dX14_takeId_111 rfl (lv_at hl 2 rfl) ?_
                  refine lv_iadd hx hb dX14_takeId_112 ?_
                  refine lv_topi (fun z_24 ez_24 => ?_)
                  have hz_24 : z_24.toInt = z_23.toInt + v2_15.toInt := by rw [ez_24]; exact jb_iadd2 (rfl) (rfl) (by omega)
                  refine j7_iald hx hb hK hh_21 hB127 1 rfl (by decide) hg_pool_22 (x := z_24.toInt) (rfl) (by omega) dX14_takeId_113 (fun z_25 (hz_25 : True) => ?_)
                  refine j7_iast hx hb hK hh_21 hB hB101 1 rfl (by decide) (by decide) rfl rfl rfl hg_idUnits_19 (x := v2_15.toInt) (rfl) (by omega) (trivial) dX14_takeId_114 (fun H_26 locs_26 hh_26 => ?_)
                  clear hh_21
                  obtain ⟨z_27, ez_27⟩ : ∃ y : Int32, y = v2_15 + 1 := ⟨_, rfl⟩
                  refine lv_iinc (v := z_27) (lv' := [(2, .int z_27), (0, .ref r0), (1, .int a1)]) hx hb dX14_takeId_115 hl (k := 2) rfl (by rw [ez_27]; rfl) (by decide) rfl (fun ls hl => ?_)
                  have hz_27 : z_27.toInt = v2_15.toInt + 1 := by rw [ez_27]; exact jb_iadd2 (rfl) (by decide) (by omega)
                  refine lv_goto (tgt := 88) hx hb dX14_takeId_118 (by decide) ?_
                  exact L88 z_27 _ _ (hh_26.sub (L1 := [(r0, 16, 39, .int 0), (r0, 16, 37, .int z_11), (r0, 16, 25, .ref ints_10), (r0, 16, 36, .int w0_5), (r0, 16, 40, .int w0_1), (r0, 16, 17, .ref zm), (r0, 16, 22, .ref xb), (r0, 16, 23, .ref xe)]) [2, 3, 4, 5, 6, 7, 8, 9] rfl (M1 := [(zm, 117, 3100, ca 1, fs), (xb, 122, 3100, ca 1, fb), (xe, 123, 3100, ca 1, fe)]) [0, 1, 2] rfl (I1 := []) [] rfl) (by first | omega | (refine ⟨?_, ?_⟩ <;> (first | omega | rfl | assumption | decide | exact Or.inl rfl | exact Or.inr rfl | (simp only; omega)))) (by omega) _ (lv_sub hl [1, 2, 0] rfl)
            exact L88 (20 - (0 : Int32).toInt : Int).toNat.succ 0 _ _ hh_14 (by first | omega | (refine ⟨?_, ?_⟩ <;> (first | omega | rfl | assumption | decide | exact Or.inl rfl | exact Or.inr rfl | (simp only; omega)))) (by omega) _ (lv_sub hl [1, 2, 0] rfl)
          · skip
            have c_13' : w0_5.toInt ≠ 0 := jb_eq_n (rfl) ((by decide)) c_13
            exact (by omega : False).elim
        · skip
          have c_7' : w0_5.toInt ≠ 0 := jb_eq_n (rfl) ((by decide)) c_7
          refine lv_iconst (v := 0) hx hb dX14_takeId_45 (by decide) ?_
          refine lv_goto (tgt := 55) hx hb dX14_takeId_46 (by decide) ?_
          refine j7_put hx hb hown hK hh_6 hB hAp hB16 (C := RX14) (T := TX14) (N := 74) rfl (by decide) hg_r0 (i := 37) (by decide) hly_16_37 rfl hlk_380 rfl (ty := .int) (v := .int 0) (by decide +kernel) rfl rfl (⟨_, rfl⟩) rfl (L1 := [(r0, 16, 36, .int w0_5), (r0, 16, 40, .int w0_1), (r0, 16, 17, .ref zm), (r0, 16, 22, .ref xb), (r0, 16, 23, .ref xe)]) [0, 1, 2, 3, 4] rfl rfl rfl dX14_takeId_55 (fun H_28 locs_28 hh_28 => ?_)
          clear hh_6
          refine lv_aload_n hx hb dX14_takeId_58 rfl (lv_at hl 0 rfl) ?_
          refine lv_aload_n hx hb dX14_takeId_59 rfl (lv_at hl 0 rfl) ?_
          refine j7_read hx hb hown hK (C := RX14) (T := TX14) (N := 74) rfl hly_16_36 hlk_377 (hh_28.at 1 rfl) dX14_takeId_60 ?_
          refine lv_if_eq (tgt := 82) hx hb dX14_takeId_63 (by decide) (fun c_29 => ?_) (fun c_29 => ?_)
          · skip
            have c_29' : w0_5.toInt = 0 := jb_eq (rfl) ((by decide)) c_29
            exact (by omega : False).elim
          · skip
            have c_29' : w0_5.toInt ≠ 0 := jb_eq_n (rfl) ((by decide)) c_29
            refine lv_aload_n hx hb dX14_takeId_66 rfl (lv_at hl 0 rfl) ?_
            refine j7_read hx hb hown hK (C := RX14) (T := TX14) (N := 74) rfl hly_16_23 hlk_55 (hh_28.at 5 rfl) dX14_takeId_67 ?_
            refine lv_iload_n hx hb dX14_takeId_70 rfl (lv_at hl 1 rfl) ?_
            refine j7_ialdM hx hb hK hh_28 hB123 1 rfl (by decide) hg_xe (x := a1.toInt) (rfl) (by omega) (j := 2) rfl dX14_takeId_71 (fun z_30 ez_30 (hz_30 : 0 ≤ z_30.toInt ∧ z_30.toInt ≤ 3100) => ?_)
            have hqz_30 : z_30.toInt = jSo fe (a1.toInt) := by unfold jSo; rw [ez_30]
            refine lv_aload_n hx hb dX14_takeId_72 rfl (lv_at hl 0 rfl) ?_
            refine j7_read hx hb hown hK (C := RX14) (T := TX14) (N := 74) rfl hly_16_22 hlk_52 (hh_28.at 4 rfl) dX14_takeId_73 ?_
            refine lv_iload_n hx hb dX14_takeId_76 rfl (lv_at hl 1 rfl) ?_
            refine j7_ialdM hx hb hK hh_28 hB122 1 rfl (by decide) hg_xb (x := a1.toInt) (rfl) (by omega) (j := 1) rfl dX14_takeId_77 (fun z_31 ez_31 (hz_31 : 0 ≤ z_31.toInt ∧ z_31.toInt ≤ 3100) => ?_)
            have hqz_31 : z_31.toInt = jSo fb (a1.toInt) := by unfold jSo; rw [ez_31]
            refine lv_isub hx hb dX14_takeId_78 ?_
            refine lv_topi (fun z_32 ez_32 => ?_)
            have hz_32 : z_32.toInt = z_30.toInt - z_31.toInt := by rw [ez_32]; exact jb_isub2 (rfl) (rfl) (by omega)
            refine lv_goto (tgt := 83) hx hb dX14_takeId_79 (by decide) ?_
            refine j7_put hx hb hown hK hh_28 hB hAp hB16 (C := RX14) (T := TX14) (N := 74) rfl (by decide) hg_r0 (i := 39) (by decide) hly_16_39 rfl hlk_383 rfl (ty := .int) (v := .int z_32) (by decide +kernel) rfl rfl (⟨_, rfl, by omega, by omega⟩) rfl (L1 := [(r0, 16, 37, .int 0), (r0, 16, 36, .int w0_5), (r0, 16, 40, .int w0_1), (r0, 16, 17, .ref zm), (r0, 16, 22, .ref xb), (r0, 16, 23, .ref xe)]) [0, 1, 2, 3, 4, 5] rfl rfl rfl dX14_takeId_83 (fun H_33 locs_33 hh_33 => ?_)
            clear hh_28
            refine lv_iconst (v := 0) hx hb dX14_takeId_86 (by decide) ?_
            refine lv_istore_n (lv' := [(2, .int 0), (0, .ref r0), (1, .int a1)]) hx hb dX14_takeId_87 rfl hl (by decide) rfl (fun ls hl => ?_)
            have L88 : ∀ (N : Nat) (v2_34 : Int32) (H_34 : Heap) (locs_34 : List Loc), jSt (dC, dI) B base G0 G0 EX14_takeId s.heap 0 0 [(r0, 16, 39, .int z_32), (r0, 16, 37, .int 0), (r0, 16, 36, .int w0_5), (r0, 16, 40, .int w0_1), (r0, 16, 17, .ref zm), (r0, 16, 22, .ref xb), (r0, 16, 23, .ref xe)] [(zm, 117, 3100, ca 1, fs), (xb, 122, 3100, ca 1, fb), (xe, 123, 3100, ca 1, fe)] [] H_34 locs_34 → (0 ≤ v2_34.toInt ∧ v2_34.toInt ≤ 20) → (20 - v2_34.toInt : Int) < N → ∀ ls : Array Slot, lv_has ls 3 [(0, .ref r0), (1, .int a1), (2, .int v2_34)] → W p l e R s m ([.ref r0, .int a1] : List Value).toArray below meth c H_34 locs_34 0 0 Q (F0 m 88 ls []) := by
              intro N
              induction N with
              | zero => intro v2_34 H_34 locs_34 hh_34  hi_34 hm; exact absurd hm (by omega)
              | succ N L88 =>
                intro v2_34 H_34 locs_34 hh_34  hi_34 hm_34 ls hl
                obtain ⟨hi_34_0, hi_34_1⟩ := hi_34
                refine lv_iload_n hx hb dX14_takeId_88 rfl (lv_at hl 2 rfl) ?_
                refine lv_aload_n hx hb dX14_takeId_89 rfl (lv_at hl 0 rfl) ?_
                refine j7_read hx hb hown hK (C := RX14) (T := TX14) (N := 74) rfl hly_16_39 hlk_383 (hh_34.at 0 rfl) dX14_takeId_90 ?_
                refine lv_icmp_ge (tgt := 121) hx hb dX14_takeId_93 (by decide) (fun c_35 => ?_) (fun c_35 => ?_)
                · skip
                  have c_35' : v2_34.toInt ≥ z_32.toInt := jb_ge (rfl) (rfl) c_35
                  rw [hQ]
                  exact W.vret hx hb hr (fun t ht hW => ⟨⟨(), rfl, trivial, hh_34.rt (M1 := []) [] rfl ht⟩, by rw [ht]; try exact hh_34.1.1, fun q h9 hq => by rw [ht]; try exact hh_34.1.2.1 q h9 hq⟩) hh_34.1.2.2 dX14_takeId_121
                · skip
                  have c_35' : v2_34.toInt < z_32.toInt := jb_ge_n (rfl) (rfl) c_35
                  refine lv_aload_n hx hb dX14_takeId_96 rfl (lv_at hl 0 rfl) ?_
                  obtain ⟨v_36, hv_36, hh_37⟩ := hh_34.pin (C := RX14) (T := TX14) (N := 74) hB16 rfl (by decide) hg_r0 (i := 38) (by decide) rfl
                  clear hh_34
                  obtain ⟨idUnits_38, rfl, hg_idUnits_38⟩ := hv_36
                  refine j7_read hx hb hown hK (C := RX14) (T := TX14) (N := 74) rfl hly_16_38 hlk_68 (hh_37.at 0 rfl) dX14_takeId_97 ?_
                  refine lv_iload_n hx hb dX14_takeId_100 rfl (lv_at hl 2 rfl) ?_
                  refine lv_aload_n hx hb dX14_takeId_101 rfl (lv_at hl 0 rfl) ?_
                  obtain ⟨v_39, hv_39, hh_40⟩ := hh_37.pin (C := RX14) (T := TX14) (N := 74) hB16 rfl (by decide) hg_r0 (i := 27) (by decide) rfl
                  clear hh_37
                  obtain ⟨pool_41, rfl, hg_pool_41⟩ := hv_39
                  refine j7_read hx hb hown hK (C := RX14) (T := TX14) (N := 74) rfl hly_16_27 hlk_65 (hh_40.at 0 rfl) dX14_takeId_102 ?_
                  refine lv_aload_n hx hb dX14_takeId_105 rfl (lv_at hl 0 rfl) ?_
                  refine j7_read hx hb hown hK (C := RX14) (T := TX14) (N := 74) rfl hly_16_22 hlk_52 (hh_40.at 7 rfl) dX14_takeId_106 ?_
                  refine lv_iload_n hx hb dX14_takeId_109 rfl (lv_at hl 1 rfl) ?_
                  refine j7_ialdM hx hb hK hh_40 hB122 1 rfl (by decide) hg_xb (x := a1.toInt) (rfl) (by omega) (j := 1) rfl dX14_takeId_110 (fun z_42 ez_42 (hz_42 : 0 ≤ z_42.toInt ∧ z_42.toInt ≤ 3100) => ?_)
                  have hqz_42 : z_42.toInt = jSo fb (a1.toInt) := by unfold jSo; rw [ez_42]
                  refine lv_iload_n hx hb dX14_takeId_111 rfl (lv_at hl 2 rfl) ?_
                  refine lv_iadd hx hb dX14_takeId_112 ?_
                  refine lv_topi (fun z_43 ez_43 => ?_)
                  have hz_43 : z_43.toInt = z_42.toInt + v2_34.toInt := by rw [ez_43]; exact jb_iadd2 (rfl) (rfl) (by omega)
                  refine j7_iald hx hb hK hh_40 hB127 1 rfl (by decide) hg_pool_41 (x := z_43.toInt) (rfl) (by omega) dX14_takeId_113 (fun z_44 (hz_44 : True) => ?_)
                  refine j7_iast hx hb hK hh_40 hB hB101 1 rfl (by decide) (by decide) rfl rfl rfl hg_idUnits_38 (x := v2_34.toInt) (rfl) (by omega) (trivial) dX14_takeId_114 (fun H_45 locs_45 hh_45 => ?_)
                  clear hh_40
                  obtain ⟨z_46, ez_46⟩ : ∃ y : Int32, y = v2_34 + 1 := ⟨_, rfl⟩
                  refine lv_iinc (v := z_46) (lv' := [(2, .int z_46), (0, .ref r0), (1, .int a1)]) hx hb dX14_takeId_115 hl (k := 2) rfl (by rw [ez_46]; rfl) (by decide) rfl (fun ls hl => ?_)
                  have hz_46 : z_46.toInt = v2_34.toInt + 1 := by rw [ez_46]; exact jb_iadd2 (rfl) (by decide) (by omega)
                  refine lv_goto (tgt := 88) hx hb dX14_takeId_118 (by decide) ?_
                  exact L88 z_46 _ _ (hh_45.sub (L1 := [(r0, 16, 39, .int z_32), (r0, 16, 37, .int 0), (r0, 16, 36, .int w0_5), (r0, 16, 40, .int w0_1), (r0, 16, 17, .ref zm), (r0, 16, 22, .ref xb), (r0, 16, 23, .ref xe)]) [2, 3, 4, 5, 6, 7, 8] rfl (M1 := [(zm, 117, 3100, ca 1, fs), (xb, 122, 3100, ca 1, fb), (xe, 123, 3100, ca 1, fe)]) [0, 1, 2] rfl (I1 := []) [] rfl) (by first | omega | (refine ⟨?_, ?_⟩ <;> (first | omega | rfl | assumption | decide | exact Or.inl rfl | exact Or.inr rfl | (simp only; omega)))) (by omega) _ (lv_sub hl [1, 2, 0] rfl)
            exact L88 (20 - (0 : Int32).toInt : Int).toNat.succ 0 _ _ hh_33 (by first | omega | (refine ⟨?_, ?_⟩ <;> (first | omega | rfl | assumption | decide | exact Or.inl rfl | exact Or.inr rfl | (simp only; omega)))) (by omega) _ (lv_sub hl [1, 2, 0] rfl)
      refine lv_icmp_ne (tgt := 33) hx hb dX14_takeId_26 (by decide) (fun c_47 => ?_) (fun c_47 => ?_)
      · skip
        have c_47' : z_4.toInt ≠ 4 := jb_ne (rfl) ((by decide)) c_47
        refine lv_iconst (v := 0) hx hb dX14_takeId_33 (by decide) ?_
        exact C34 0 _ _ hh_2 (Or.inl rfl) (by first | omega | (refine ⟨?_, ?_, ?_, ?_⟩ <;> (first | omega | rfl | assumption | decide | exact Or.inl rfl | exact Or.inr rfl | (simp only; omega)))) _ (lv_sub hl [0, 1] rfl)
      · skip
        have c_47' : z_4.toInt = 4 := jb_ne_n (rfl) ((by decide)) c_47
        refine lv_iconst (v := 1) hx hb dX14_takeId_29 (by decide) ?_
        refine lv_goto (tgt := 34) hx hb dX14_takeId_30 (by decide) ?_
        exact C34 1 _ _ hh_2 (Or.inr rfl) (by first | omega | (refine ⟨?_, ?_, ?_, ?_⟩ <;> (first | omega | rfl | assumption | decide | exact Or.inl rfl | exact Or.inr rfl | (simp only; omega)))) _ (lv_sub hl [0, 1] rfl)
    · skip
      have c_3' : a1.toInt < 0 := jb_ge_n (rfl) ((by decide)) c_3
      rw [hQ]
      exact W.vret hx hb hr (fun t ht hW => ⟨⟨(), rfl, trivial, hh_2.rt (M1 := []) [] rfl ht⟩, by rw [ht]; try exact hh_2.1.1, fun q h9 hq => by rw [ht]; try exact hh_2.1.2.1 q h9 hq⟩) hh_2.1.2.2 dX14_takeId_17
  refine lv_if_ge (tgt := 9) hx hb dX14_takeId_2 (by decide) (fun c_48 => ?_) (fun c_48 => ?_)
  · skip
    have c_48' : a1.toInt ≥ 0 := jb_ge (rfl) ((by decide)) c_48
    refine lv_iconst (v := 0) hx hb dX14_takeId_9 (by decide) ?_
    exact C10 0 _ _ hh (Or.inl rfl) (by first | omega | (refine ⟨?_, ?_⟩ <;> (first | omega | rfl | assumption | decide | exact Or.inl rfl | exact Or.inr rfl | (simp only; omega)))) _ (lv_sub hl [0, 1] rfl)
  · skip
    have c_48' : a1.toInt < 0 := jb_ge_n (rfl) ((by decide)) c_48
    refine lv_iconst (v := 1) hx hb dX14_takeId_5 (by decide) ?_
    refine lv_goto (tgt := 10) hx hb dX14_takeId_6 (by decide) ?_
    exact C10 1 _ _ hh (Or.inr rfl) (by first | omega | (refine ⟨?_, ?_⟩ <;> (first | omega | rfl | assumption | decide | exact Or.inl rfl | exact Or.inr rfl | (simp only; omega)))) _ (lv_sub hl [0, 1] rfl)
