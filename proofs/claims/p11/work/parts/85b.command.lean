theorem dX13_command_0 : decode cX13_command 0 = .ok (.aload_n 0, 1) := by decide +kernel
theorem dX13_command_1 : decode cX13_command 1 = .ok (.getfield 140, 3) := by decide +kernel
theorem dX13_command_4 : decode cX13_command 4 = .ok (.ifCond .eq 13, 3) := by decide +kernel
theorem dX13_command_7 : decode cX13_command 7 = .ok (.aload_n 0, 1) := by decide +kernel
theorem dX13_command_8 : decode cX13_command 8 = .ok (.getfield 71, 3) := by decide +kernel
theorem dX13_command_11 : decode cX13_command 11 = .ok (.iconst 0, 1) := by decide +kernel
theorem dX13_command_12 : decode cX13_command 12 = .ok (.iaload, 1) := by decide +kernel
theorem dX13_command_13 : decode cX13_command 13 = .ok (.iconst 1, 1) := by decide +kernel
theorem dX13_command_14 : decode cX13_command 14 = .ok (.if_icmp .eq 5, 3) := by decide +kernel
theorem dX13_command_17 : decode cX13_command 17 = .ok (.iconst (-1), 1) := by decide +kernel
theorem dX13_command_18 : decode cX13_command 18 = .ok (.ireturn, 1) := by decide +kernel
theorem dX13_command_19 : decode cX13_command 19 = .ok (.iconst 0, 1) := by decide +kernel
theorem dX13_command_20 : decode cX13_command 20 = .ok (.istore_n 1, 1) := by decide +kernel
theorem dX13_command_21 : decode cX13_command 21 = .ok (.iconst 0, 1) := by decide +kernel
theorem dX13_command_22 : decode cX13_command 22 = .ok (.istore_n 2, 1) := by decide +kernel
theorem dX13_command_23 : decode cX13_command 23 = .ok (.iload_n 1, 1) := by decide +kernel
theorem dX13_command_24 : decode cX13_command 24 = .ok (.ldc_w 286, 3) := by decide +kernel
theorem dX13_command_27 : decode cX13_command 27 = .ok (.invokevirtual 122, 3) := by decide +kernel
theorem dX13_command_30 : decode cX13_command 30 = .ok (.if_icmp .ge 115, 3) := by decide +kernel
theorem dX13_command_33 : decode cX13_command 33 = .ok (.ldc_w 286, 3) := by decide +kernel
theorem dX13_command_36 : decode cX13_command 36 = .ok (.bipush 32, 2) := by decide +kernel
theorem dX13_command_38 : decode cX13_command 38 = .ok (.iload_n 1, 1) := by decide +kernel
theorem dX13_command_39 : decode cX13_command 39 = .ok (.invokevirtual 288, 3) := by decide +kernel
theorem dX13_command_42 : decode cX13_command 42 = .ok (.istore_n 3, 1) := by decide +kernel
theorem dX13_command_43 : decode cX13_command 43 = .ok (.aload_n 0, 1) := by decide +kernel
theorem dX13_command_44 : decode cX13_command 44 = .ok (.getfield 34, 3) := by decide +kernel
theorem dX13_command_47 : decode cX13_command 47 = .ok (.aload_n 0, 1) := by decide +kernel
theorem dX13_command_48 : decode cX13_command 48 = .ok (.getfield 74, 3) := by decide +kernel
theorem dX13_command_51 : decode cX13_command 51 = .ok (.iconst 0, 1) := by decide +kernel
theorem dX13_command_52 : decode cX13_command 52 = .ok (.iaload, 1) := by decide +kernel
theorem dX13_command_53 : decode cX13_command 53 = .ok (.iaload, 1) := by decide +kernel
theorem dX13_command_54 : decode cX13_command 54 = .ok (.iload_n 3, 1) := by decide +kernel
theorem dX13_command_55 : decode cX13_command 55 = .ok (.iload_n 1, 1) := by decide +kernel
theorem dX13_command_56 : decode cX13_command 56 = .ok (.isub, 1) := by decide +kernel
theorem dX13_command_57 : decode cX13_command 57 = .ok (.if_icmp .ne 7, 3) := by decide +kernel
theorem dX13_command_60 : decode cX13_command 60 = .ok (.iconst 1, 1) := by decide +kernel
theorem dX13_command_61 : decode cX13_command 61 = .ok (.goto 4, 3) := by decide +kernel
theorem dX13_command_64 : decode cX13_command 64 = .ok (.iconst 0, 1) := by decide +kernel
theorem dX13_command_65 : decode cX13_command 65 = .ok (.istore 4, 2) := by decide +kernel
theorem dX13_command_67 : decode cX13_command 67 = .ok (.iconst 0, 1) := by decide +kernel
theorem dX13_command_68 : decode cX13_command 68 = .ok (.istore 5, 2) := by decide +kernel
theorem dX13_command_70 : decode cX13_command 70 = .ok (.iload 5, 2) := by decide +kernel
theorem dX13_command_72 : decode cX13_command 72 = .ok (.iload_n 3, 1) := by decide +kernel
theorem dX13_command_73 : decode cX13_command 73 = .ok (.iload_n 1, 1) := by decide +kernel
theorem dX13_command_74 : decode cX13_command 74 = .ok (.isub, 1) := by decide +kernel
theorem dX13_command_75 : decode cX13_command 75 = .ok (.if_icmp .ge 53, 3) := by decide +kernel
theorem dX13_command_78 : decode cX13_command 78 = .ok (.iload 4, 2) := by decide +kernel
theorem dX13_command_80 : decode cX13_command 80 = .ok (.ifCond .eq 48, 3) := by decide +kernel
theorem dX13_command_83 : decode cX13_command 83 = .ok (.aload_n 0, 1) := by decide +kernel
theorem dX13_command_84 : decode cX13_command 84 = .ok (.getfield 28, 3) := by decide +kernel
theorem dX13_command_87 : decode cX13_command 87 = .ok (.aload_n 0, 1) := by decide +kernel
theorem dX13_command_88 : decode cX13_command 88 = .ok (.getfield 31, 3) := by decide +kernel
theorem dX13_command_91 : decode cX13_command 91 = .ok (.aload_n 0, 1) := by decide +kernel
theorem dX13_command_92 : decode cX13_command 92 = .ok (.getfield 74, 3) := by decide +kernel
theorem dX13_command_95 : decode cX13_command 95 = .ok (.iconst 0, 1) := by decide +kernel
theorem dX13_command_96 : decode cX13_command 96 = .ok (.iaload, 1) := by decide +kernel
theorem dX13_command_97 : decode cX13_command 97 = .ok (.iaload, 1) := by decide +kernel
theorem dX13_command_98 : decode cX13_command 98 = .ok (.iload 5, 2) := by decide +kernel
theorem dX13_command_100 : decode cX13_command 100 = .ok (.iadd, 1) := by decide +kernel
theorem dX13_command_101 : decode cX13_command 101 = .ok (.iaload, 1) := by decide +kernel
theorem dX13_command_102 : decode cX13_command 102 = .ok (.ldc_w 286, 3) := by decide +kernel
theorem dX13_command_105 : decode cX13_command 105 = .ok (.iload_n 1, 1) := by decide +kernel
theorem dX13_command_106 : decode cX13_command 106 = .ok (.iload 5, 2) := by decide +kernel
theorem dX13_command_108 : decode cX13_command 108 = .ok (.iadd, 1) := by decide +kernel
theorem dX13_command_109 : decode cX13_command 109 = .ok (.invokevirtual 128, 3) := by decide +kernel
theorem dX13_command_112 : decode cX13_command 112 = .ok (.if_icmp .ne 7, 3) := by decide +kernel
theorem dX13_command_115 : decode cX13_command 115 = .ok (.iconst 1, 1) := by decide +kernel
theorem dX13_command_116 : decode cX13_command 116 = .ok (.goto 4, 3) := by decide +kernel
theorem dX13_command_119 : decode cX13_command 119 = .ok (.iconst 0, 1) := by decide +kernel
theorem dX13_command_120 : decode cX13_command 120 = .ok (.istore 4, 2) := by decide +kernel
theorem dX13_command_122 : decode cX13_command 122 = .ok (.iinc 5 1, 3) := by decide +kernel
theorem dX13_command_125 : decode cX13_command 125 = .ok (.goto (-55), 3) := by decide +kernel
theorem dX13_command_128 : decode cX13_command 128 = .ok (.iload 4, 2) := by decide +kernel
theorem dX13_command_130 : decode cX13_command 130 = .ok (.ifCond .eq 5, 3) := by decide +kernel
theorem dX13_command_133 : decode cX13_command 133 = .ok (.iload_n 2, 1) := by decide +kernel
theorem dX13_command_134 : decode cX13_command 134 = .ok (.ireturn, 1) := by decide +kernel
theorem dX13_command_135 : decode cX13_command 135 = .ok (.iload_n 3, 1) := by decide +kernel
theorem dX13_command_136 : decode cX13_command 136 = .ok (.iconst 1, 1) := by decide +kernel
theorem dX13_command_137 : decode cX13_command 137 = .ok (.iadd, 1) := by decide +kernel
theorem dX13_command_138 : decode cX13_command 138 = .ok (.istore_n 1, 1) := by decide +kernel
theorem dX13_command_139 : decode cX13_command 139 = .ok (.iinc 2 1, 3) := by decide +kernel
theorem dX13_command_142 : decode cX13_command 142 = .ok (.goto (-119), 3) := by decide +kernel
theorem dX13_command_145 : decode cX13_command 145 = .ok (.iconst (-1), 1) := by decide +kernel
theorem dX13_command_146 : decode cX13_command 146 = .ok (.ireturn, 1) := by decide +kernel
def EX13_command : List (Nat × Nat) := []
def qtx2593 : String := match tables_1[2593]? with | some (Jvm.Cond.stringRef _ _ t) => t | _ => ""
set_option maxHeartbeats 4000000 in
set_option maxRecDepth 20000 in
theorem uX13_command (l : Launch) (dC : Nat → ClassId) (dI : Nat → Nat → Nat) (ca : Nat → ClassId) (base : Nat) (B : jF) (hB : jBok B) (hAp : jAp (dC, dI)) (hB15 : ∀ n G a H, B 15 n G a H ↔ jOb (dC, dI) 15 50 (F15 n G) a H) (hB155 : ∀ n G a H, B 155 n G a H ↔ jAr (dC, dI) (ca 1) (fun j z => 0 ≤ z.toInt ∧ z.toInt ≤ 11990) n a H) (hB156 : ∀ n G a H, B 156 n G a H ↔ jAr (dC, dI) (ca 1) (fun j z => 0 ≤ z.toInt ∧ z.toInt ≤ 10) n a H) (hB157 : ∀ n G a H, B 157 n G a H ↔ jAr (dC, dI) (ca 1) (fun j z => 0 ≤ z.toInt ∧ z.toInt ≤ 1599) n a H) (hB166 : ∀ n G a H, B 166 n G a H ↔ jAr (dC, dI) (ca 1) (fun j z => True) n a H) (hB167 : ∀ n G a H, B 167 n G a H ↔ jAr (dC, dI) (ca 1) (fun j z => True) n a H) (G0 : jT) (H0 : Heap) (r0 : Nat) (pk : Int32) : Met l yX13_command (jw yX13_command cX13_command 6 (some .int)) ({ frames := 4, cells := 0, slots := 0, locals := 142 }) (va_Pc [.ref r0] (fun U => U.heap = H0 ∧ jX B base G0 [] H0 ∧ jG dC dI ca base U ∧ G0 r0 = some (15, 0) ∧ jP (dC, dI) G0 H0 [(r0, 15, 30, .int pk)] ∧ 0 ≤ pk.toInt ∧ pk.toInt ≤ 1500)) (va_Qi (S := Unit) (fun r u => (-1 ≤ r.toInt ∧ r.toInt ≤ 18 ∧ (r.toInt = -1 ∨ 1 ≤ pk.toInt))) (fun u t => jRt (dC, dI) B base G0 EX13_command H0 [] t.heap) (jA base)) 0 0 (jA base) := by
  refine Met.ofW (cc := cX13_command) (maxL := 6) (ret := (some .int)) (by decide) rfl ?_
  intro p e s m args below meth c s₁ Bd hml hv
  obtain ⟨rfl, hH0, hX, hG, hg_r0, hP0, hp0, hp1⟩ := hv
  have hK := hG.1
  have hx := Bd.exec
  have hb := Bd.bytes
  have hr := Bd.returns
  have hts := atoms_spec (ws := (jw yX13_command cX13_command 6 (some .int))) Bd.pre
  have htw : ∀ w ∈ jWl, w.before _ s = true := fun w h => hts w (List.mem_cons_of_mem _ h)
  have hown : s.vm.findClass RX13 = some m.cls := findClass_of_methodNamed Bd.named
  have hlocks := Bd.notSynchronized
  obtain ⟨Q, hQ⟩ : ∃ Q, Q = MQ below (va_Qi (S := Unit) (fun r u => (-1 ≤ r.toInt ∧ r.toInt ≤ 18 ∧ (r.toInt = -1 ∨ 1 ≤ pk.toInt))) (fun u t => jRt (dC, dI) B base G0 EX13_command H0 [] t.heap) (jA base)) ([.ref r0] : List Value).toArray s 0 0 (jA base) := ⟨_, rfl⟩
  rw [← hQ]
  have hl := lv_entry ([.ref r0]) (n := 6) (Nat.le_of_ble_eq_true rfl)
  rw [lg_entry_eq]
  generalize (lg_sl ([.ref r0]) ++ List.replicate (6 - (lg_sl ([.ref r0])).length) Slot.unset).toArray = ls at hl ⊢
  have hl : lv_has ls 6 [(0, .ref r0)] := hl
  generalize hR : (headSpec (jw yX13_command cX13_command 6 (some .int)) ({ frames := 4, cells := 0, slots := 0, locals := 142 })).room = R
  subst hH0
  have hh : jSt (dC, dI) B base G0 G0 EX13_command s.heap 0 0 [(r0, 15, 30, .int pk)] [] [] s.heap [] := jSt.start hX hP0 jMc.nil jIs.nil
  clear hX hP0
  have hkm1 : ((-1) : Int32).toInt = (-1) := by decide
  have hk0 : (0 : Int32).toInt = 0 := by decide
  have hk1 : (1 : Int32).toInt = 1 := by decide
  have hk32 : (32 : Int32).toInt = 32 := by decide
  have hly_15_6 := htw (u_lay RX13 TX13 6) (jWc_wsX130 _ (u_in_lay (by decide)))
  have hly_15_8 := htw (u_lay RX13 TX13 8) (jWc_wsX130 _ (u_in_lay (by decide)))
  have hly_15_9 := htw (u_lay RX13 TX13 9) (jWc_wsX130 _ (u_in_lay (by decide)))
  have hly_15_28 := htw (u_lay RX13 TX13 28) (jWc_wsX130 _ (u_in_lay (by decide)))
  have hly_15_29 := htw (u_lay RX13 TX13 29) (jWc_wsX130 _ (u_in_lay (by decide)))
  have hly_15_30 := htw (u_lay RX13 TX13 30) (jWc_wsX130 _ (u_in_lay (by decide)))
  have hlk_140 := (htw (.fieldLink RX13 140 "ProofServerModel$Kernel" "tokens" "I") (jWr_60 _ (List.mem_of_getElem? (i := 9) rfl)))
  have hlk_71 := (htw (.fieldLink RX13 71 "ProofServerModel$Kernel" "kind" "[I") (jWr_15 _ (List.mem_of_getElem? (i := 4) rfl)))
  obtain ⟨str286, rstr286, hT286⟩ := hG.strT (o := RX13) (k := 286) (tx := qtx2593) (List.mem_of_getElem? (i := 2593) (by decide +kernel))
  have hstr2860 := hT286.str
  have h9str286 : qtx2593.length = 116 := by decide +kernel
  have hE286 : jStrE base str286 116 (jChT qtx2593) s s.heap := hT286.E h9str286 (by decide +kernel)
  have hstr286 : jStr base str286 116 s s.heap := by rw [h9str286] at hstr2860; exact hstr2860
  have hlk_34 := (htw (.fieldLink RX13 34 "ProofServerModel$Kernel" "nameLength" "[I") (jWr_14 _ (List.mem_of_getElem? (i := 16) rfl)))
  have hlk_74 := (htw (.fieldLink RX13 74 "ProofServerModel$Kernel" "what" "[I") (jWr_15 _ (List.mem_of_getElem? (i := 5) rfl)))
  have hlk_28 := (htw (.fieldLink RX13 28 "ProofServerModel$Kernel" "signs" "[I") (jWr_14 _ (List.mem_of_getElem? (i := 14) rfl)))
  have hlk_31 := (htw (.fieldLink RX13 31 "ProofServerModel$Kernel" "nameAt" "[I") (jWr_14 _ (List.mem_of_getElem? (i := 15) rfl)))
  have hc18 : jCs (jChT qtx2593) 115 = 18 := by decide +kernel
  refine lv_aload_n hx hb dX13_command_0 rfl (lv_at hl 0 rfl) ?_
  refine j7_read hx hb hown hK (C := RX13) (T := TX13) (N := 50) rfl hly_15_30 hlk_140 (hh.at 0 rfl) dX13_command_1 ?_
  refine lv_if_eq (tgt := 17) hx hb dX13_command_4 (by decide) (fun c_1 => ?_) (fun c_1 => ?_)
  · skip
    have c_1' : pk.toInt = 0 := jb_eq (rfl) ((by decide)) c_1
    refine lv_iconst (v := (-1)) hx hb dX13_command_17 (by decide) ?_
    rw [hQ]
    exact W.iret (v := (-1)) hx hb hr (fun t ht hW => ⟨⟨(-1), (), rfl, by exact ⟨by omega, by omega, by omega⟩, hh.rt (M1 := []) [] rfl ht⟩, by rw [ht]; try exact hh.1.1, fun q h9 hq => by rw [ht]; try exact hh.1.2.1 q h9 hq⟩) hh.1.2.2 dX13_command_18
  · skip
    have c_1' : pk.toInt ≠ 0 := jb_eq_n (rfl) ((by decide)) c_1
    refine lv_aload_n hx hb dX13_command_7 rfl (lv_at hl 0 rfl) ?_
    obtain ⟨v_2, hv_2, hh_3⟩ := hh.pin (C := RX13) (T := TX13) (N := 50) hB15 rfl (by decide) hg_r0 (i := 28) (by decide) rfl
    clear hh
    obtain ⟨kind_4, rfl, hg_kind_4⟩ := hv_2
    refine j7_read hx hb hown hK (C := RX13) (T := TX13) (N := 50) rfl hly_15_28 hlk_71 (hh_3.at 0 rfl) dX13_command_8 ?_
    refine lv_iconst (v := 0) hx hb dX13_command_11 (by decide) ?_
    refine j7_iald hx hb hK hh_3 hB167 1 rfl (by decide) hg_kind_4 (x := 0) ((by decide)) (by omega) dX13_command_12 (fun z_5 (hz_5 : True) => ?_)
    refine lv_iconst (v := 1) hx hb dX13_command_13 (by decide) ?_
    refine lv_icmp_eq (tgt := 19) hx hb dX13_command_14 (by decide) (fun c_6 => ?_) (fun c_6 => ?_)
    · skip
      have c_6' : z_5.toInt = 1 := jb_eq (rfl) ((by decide)) c_6
      refine lv_iconst (v := 0) hx hb dX13_command_19 (by decide) ?_
      refine lv_istore_n (lv' := [(1, .int 0), (0, .ref r0)]) hx hb dX13_command_20 rfl hl (by decide) rfl (fun ls hl => ?_)
      refine lv_iconst (v := 0) hx hb dX13_command_21 (by decide) ?_
      refine lv_istore_n (lv' := [(2, .int 0), (1, .int 0), (0, .ref r0)]) hx hb dX13_command_22 rfl hl (by decide) rfl (fun ls hl => ?_)
      have L23 : ∀ (N : Nat) (v1_7 : Int32) (v2_7 : Int32) (H_7 : Heap) (locs_7 : List Loc), jSt (dC, dI) B base G0 G0 EX13_command s.heap 0 0 [(r0, 15, 28, .ref kind_4), (r0, 15, 30, .int pk)] [] [] H_7 locs_7 → (0 ≤ v1_7.toInt ∧ v1_7.toInt ≤ 116 ∧ 0 ≤ v2_7.toInt ∧ v2_7.toInt ≤ v1_7.toInt ∧ v2_7.toInt ≤ jCs (jChT qtx2593) (v1_7.toInt + 0).toNat) → (116 - v1_7.toInt : Int) < N → ∀ ls : Array Slot, lv_has ls 6 [(0, .ref r0), (1, .int v1_7), (2, .int v2_7)] → W p l e R s m ([.ref r0] : List Value).toArray below meth c H_7 locs_7 0 0 Q (F0 m 23 ls []) := by
        intro N
        induction N with
        | zero => intro v1_7 v2_7 H_7 locs_7 hh_7  hi_7 hm; exact absurd hm (by omega)
        | succ N L23 =>
          intro v1_7 v2_7 H_7 locs_7 hh_7  hi_7 hm_7 ls hl
          obtain ⟨hi_7_0, hi_7_1, hi_7_2, hi_7_3, hi_7_4⟩ := hi_7
          refine lv_iload_n hx hb dX13_command_23 rfl (lv_at hl 1 rfl) ?_
          refine j_ldcSw hx hb hown rstr286 dX13_command_24 ?_
          refine vp_callSi (W.runV (As := []) (rest := [.int v1_7]) ⟨hx, hb, hml, hown, hts⟩ (wJ0_length_8abf5 l dC dI ca base H_7 str286 116) (cwV 0 hts (jgV (jWr_61 _ (List.mem_of_getElem? (i := 4) rfl)) (jWr_5 _ (List.mem_of_getElem? (i := 13) rfl)) (jWr_5 _ (List.mem_of_getElem? (i := 14) rfl)) (jWr_5 _ (List.mem_of_getElem? (i := 15) rfl)) (jWr_5 _ (List.mem_of_getElem? (i := 16) rfl))) rfl rfl rfl (by decide +kernel) ⟨by rw [← hR]; exact Nat.le_of_ble_eq_true rfl, by rw [← hR]; exact Nat.le_of_ble_eq_true rfl⟩) ⟨fun a U g mk q => by obtain ⟨q0, q1, q2, qK, q9⟩ := q; exact ⟨q0, q1, (q2.moved (Vm.Alike.refl U.vm)), jG.calling g mk a qK, q9⟩, jStr_recv hstr286 hh_7.1, fun U hU hW => ⟨rfl, hU, (hstr286.moved hW.alike).kept hh_7.1.2.1, hG.step hW hU hh_7.1, by omega⟩⟩ rfl rfl hl.1 rfl (lv_room (Nat.le_of_ble_eq_true rfl)) dX13_command_27 ⟨Nat.zero_le _, Nat.zero_le _⟩) (fun r_8 hr_8 => ?_)
          refine lv_icmp_ge (tgt := 145) hx hb dX13_command_30 (by decide) (fun c_9 => ?_) (fun c_9 => ?_)
          · skip
            have c_9' : v1_7.toInt ≥ r_8.toInt := jb_ge (rfl) (rfl) c_9
            refine lv_iconst (v := (-1)) hx hb dX13_command_145 (by decide) ?_
            rw [hQ]
            exact W.iret (v := (-1)) hx hb hr (fun t ht hW => ⟨⟨(-1), (), rfl, by exact ⟨by omega, by omega, by omega⟩, hh_7.rt (M1 := []) [] rfl ht⟩, by rw [ht]; try exact hh_7.1.1, fun q h9 hq => by rw [ht]; try exact hh_7.1.2.1 q h9 hq⟩) hh_7.1.2.2 dX13_command_146
          · skip
            have c_9' : v1_7.toInt < r_8.toInt := jb_ge_n (rfl) (rfl) c_9
            refine j_ldcSw hx hb hown rstr286 dX13_command_33 ?_
            refine lv_bipush (v := 32) hx hb dX13_command_36 (by decide) ?_
            refine lv_iload_n hx hb dX13_command_38 rfl (lv_at hl 1 rfl) ?_
            refine vp_callSi (W.runV (As := [.int 32, .int v1_7]) (rest := []) ⟨hx, hb, hml, hown, hts⟩ (eJ0_indexOf_7cf53 l dC dI ca base H_7 str286 116 (jChT qtx2593) 32 v1_7) (cwV 2 hts (jgV (jWr_61 _ (List.mem_of_getElem? (i := 5) rfl)) (jWr_37 _ (List.mem_of_getElem? (i := 16) rfl)) (jWr_37 _ (List.mem_of_getElem? (i := 17) rfl)) (jWr_5 _ (List.mem_of_getElem? (i := 15) rfl)) (jWr_37 _ (List.mem_of_getElem? (i := 18) rfl))) rfl rfl rfl (by decide +kernel) ⟨by rw [← hR]; exact Nat.le_of_ble_eq_true rfl, by rw [← hR]; exact Nat.le_of_ble_eq_true rfl⟩) ⟨fun a U g mk q => by obtain ⟨q0, q1, q2, qK, q9⟩ := q; exact ⟨q0, q1, (q2.moved (Vm.Alike.refl U.vm)), jG.calling g mk a qK, q9⟩, jStr_recv hstr286 hh_7.1, fun U hU hW => ⟨rfl, hU, (hE286.moved hW.alike).kept hh_7.1.2.1, hG.step hW hU hh_7.1, ⟨by omega, rfl, by omega, by omega⟩⟩⟩ rfl rfl hl.1 rfl (lv_room (Nat.le_of_ble_eq_true rfl)) dX13_command_39 ⟨Nat.zero_le _, Nat.zero_le _⟩) (fun r_10 hr_10 => ?_)
            refine lv_istore_n (lv' := [(3, .int r_10), (0, .ref r0), (1, .int v1_7), (2, .int v2_7)]) hx hb dX13_command_42 rfl hl (by decide) rfl (fun ls hl => ?_)
            refine lv_aload_n hx hb dX13_command_43 rfl (lv_at hl 1 rfl) ?_
            obtain ⟨v_11, hv_11, hh_12⟩ := hh_7.pin (C := RX13) (T := TX13) (N := 50) hB15 rfl (by decide) hg_r0 (i := 9) (by decide) rfl
            clear hh_7
            obtain ⟨nameLength_13, rfl, hg_nameLength_13⟩ := hv_11
            refine j7_read hx hb hown hK (C := RX13) (T := TX13) (N := 50) rfl hly_15_9 hlk_34 (hh_12.at 0 rfl) dX13_command_44 ?_
            refine lv_aload_n hx hb dX13_command_47 rfl (lv_at hl 1 rfl) ?_
            obtain ⟨v_14, hv_14, hh_15⟩ := hh_12.pin (C := RX13) (T := TX13) (N := 50) hB15 rfl (by decide) hg_r0 (i := 29) (by decide) rfl
            clear hh_12
            obtain ⟨what_16, rfl, hg_what_16⟩ := hv_14
            refine j7_read hx hb hown hK (C := RX13) (T := TX13) (N := 50) rfl hly_15_29 hlk_74 (hh_15.at 0 rfl) dX13_command_48 ?_
            refine lv_iconst (v := 0) hx hb dX13_command_51 (by decide) ?_
            refine j7_iald hx hb hK hh_15 hB157 1 rfl (by decide) hg_what_16 (x := 0) ((by decide)) (by omega) dX13_command_52 (fun z_17 (hz_17 : 0 ≤ z_17.toInt ∧ z_17.toInt ≤ 1599) => ?_)
            refine j7_iald hx hb hK hh_15 hB156 1 rfl (by decide) hg_nameLength_13 (x := z_17.toInt) (rfl) (by omega) dX13_command_53 (fun z_18 (hz_18 : 0 ≤ z_18.toInt ∧ z_18.toInt ≤ 10) => ?_)
            refine lv_iload_n hx hb dX13_command_54 rfl (lv_at hl 0 rfl) ?_
            refine lv_iload_n hx hb dX13_command_55 rfl (lv_at hl 2 rfl) ?_
            refine lv_isub hx hb dX13_command_56 ?_
            refine lv_topi (fun z_19 ez_19 => ?_)
            have hz_19 : z_19.toInt = r_10.toInt - v1_7.toInt := by rw [ez_19]; exact jb_isub2 (rfl) (rfl) (by omega)
            have C65 : ∀ (w0_20 : Int32) (H_20 : Heap) (locs_20 : List Loc), jSt (dC, dI) B base G0 G0 EX13_command s.heap 0 0 [(r0, 15, 29, .ref what_16), (r0, 15, 9, .ref nameLength_13), (r0, 15, 28, .ref kind_4), (r0, 15, 30, .int pk)] [] [] H_20 locs_20 → (w0_20 = 0 ∨ w0_20 = 1) → (0 ≤ w0_20.toInt ∧ w0_20.toInt ≤ 1 ∧ r_10.toInt - v1_7.toInt ≤ 10 + 1000 * (1 - w0_20.toInt)) → ∀ ls : Array Slot, lv_has ls 6 [(0, .ref r0), (1, .int v1_7), (2, .int v2_7), (3, .int r_10)] → W p l e R s m ([.ref r0] : List Value).toArray below meth c H_20 locs_20 0 0 Q (F0 m 65 ls [.int w0_20]) := by
              intro w0_20 H_20 locs_20 hh_20 hb_w0_20 hi_20 ls hl
              obtain ⟨hi_20_0, hi_20_1, hi_20_2⟩ := hi_20
              have hb_w0_20' := jb_01 hb_w0_20
              refine lv_istore (lv' := [(4, .int w0_20), (0, .ref r0), (1, .int v1_7), (2, .int v2_7), (3, .int r_10)]) hx hb dX13_command_65 hl (by decide) rfl (fun ls hl => ?_)
              refine lv_iconst (v := 0) hx hb dX13_command_67 (by decide) ?_
              refine lv_istore (lv' := [(5, .int 0), (4, .int w0_20), (0, .ref r0), (1, .int v1_7), (2, .int v2_7), (3, .int r_10)]) hx hb dX13_command_68 hl (by decide) rfl (fun ls hl => ?_)
              have L70 : ∀ (N : Nat) (v4_21 : Int32) (v5_21 : Int32) (H_21 : Heap) (locs_21 : List Loc), jSt (dC, dI) B base G0 G0 EX13_command s.heap 0 0 [(r0, 15, 29, .ref what_16), (r0, 15, 9, .ref nameLength_13), (r0, 15, 28, .ref kind_4), (r0, 15, 30, .int pk)] [] [] H_21 locs_21 → (v4_21 = 0 ∨ v4_21 = 1) → (0 ≤ v5_21.toInt ∧ v5_21.toInt ≤ 116 ∧ r_10.toInt - v1_7.toInt ≤ 10 + 1000 * (1 - v4_21.toInt)) → (116 - v5_21.toInt : Int) < N → ∀ ls : Array Slot, lv_has ls 6 [(0, .ref r0), (1, .int v1_7), (2, .int v2_7), (3, .int r_10), (4, .int v4_21), (5, .int v5_21)] → W p l e R s m ([.ref r0] : List Value).toArray below meth c H_21 locs_21 0 0 Q (F0 m 70 ls []) := by
                intro N
                induction N with
                | zero => intro v4_21 v5_21 H_21 locs_21 hh_21 hb_v4_21 hi_21 hm; exact absurd hm (by omega)
                | succ N L70 =>
                  intro v4_21 v5_21 H_21 locs_21 hh_21 hb_v4_21 hi_21 hm_21 ls hl
                  obtain ⟨hi_21_0, hi_21_1, hi_21_2⟩ := hi_21
                  have hb_v4_21' := jb_01 hb_v4_21
                  refine lv_iload hx hb dX13_command_70 (lv_at hl 5 rfl) ?_
                  refine lv_iload_n hx hb dX13_command_72 rfl (lv_at hl 3 rfl) ?_
                  refine lv_iload_n hx hb dX13_command_73 rfl (lv_at hl 1 rfl) ?_
                  refine lv_isub hx hb dX13_command_74 ?_
                  refine lv_topi (fun z_22 ez_22 => ?_)
                  have hz_22 : z_22.toInt = r_10.toInt - v1_7.toInt := by rw [ez_22]; exact jb_isub2 (rfl) (rfl) (by omega)
                  refine lv_icmp_ge (tgt := 128) hx hb dX13_command_75 (by decide) (fun c_23 => ?_) (fun c_23 => ?_)
                  · skip
                    have c_23' : v5_21.toInt ≥ z_22.toInt := jb_ge (rfl) (rfl) c_23
                    refine lv_iload hx hb dX13_command_128 (lv_at hl 4 rfl) ?_
                    refine lv_if_eq (tgt := 135) hx hb dX13_command_130 (by decide) (fun c_24 => ?_) (fun c_24 => ?_)
                    · skip
                      have c_24' : v4_21.toInt = 0 := jb_eq (rfl) ((by decide)) c_24
                      refine lv_iload_n hx hb dX13_command_135 rfl (lv_at hl 3 rfl) ?_
                      refine lv_iconst (v := 1) hx hb dX13_command_136 (by decide) ?_
                      refine lv_iadd hx hb dX13_command_137 ?_
                      refine lv_topi (fun z_25 ez_25 => ?_)
                      have hz_25 : z_25.toInt = r_10.toInt + 1 := by rw [ez_25]; exact jb_iadd2 (rfl) ((by decide)) (by omega)
                      refine lv_istore_n (lv' := [(1, .int z_25), (0, .ref r0), (2, .int v2_7), (3, .int r_10), (4, .int v4_21), (5, .int v5_21)]) hx hb dX13_command_138 rfl hl (by decide) rfl (fun ls hl => ?_)
                      obtain ⟨z_26, ez_26⟩ : ∃ y : Int32, y = v2_7 + 1 := ⟨_, rfl⟩
                      refine lv_iinc (v := z_26) (lv' := [(2, .int z_26), (1, .int z_25), (0, .ref r0), (3, .int r_10), (4, .int v4_21), (5, .int v5_21)]) hx hb dX13_command_139 hl (k := 2) rfl (by rw [ez_26]; rfl) (by decide) rfl (fun ls hl => ?_)
                      have hz_26 : z_26.toInt = v2_7.toInt + 1 := by rw [ez_26]; exact jb_iadd2 (rfl) (by decide) (by omega)
                      refine lv_goto (tgt := 23) hx hb dX13_command_142 (by decide) ?_
                      exact L23 z_25 z_26 _ _ (hh_21.sub (L1 := [(r0, 15, 28, .ref kind_4), (r0, 15, 30, .int pk)]) [2, 3] rfl (M1 := []) [] rfl (I1 := []) [] rfl) (⟨(by first | omega | rfl | assumption | (rw [show ((z_25).toInt + 0).toNat = (r_10).toInt.toNat + 1 by omega]; have h9 := jCs_s (jChT qtx2593) (m := (v1_7.toInt + 0).toNat) (n := (r_10).toInt.toNat) (by omega) hr_10.2.2.2; omega)), (by first | omega | rfl | assumption | (rw [show ((z_25).toInt + 0).toNat = (r_10).toInt.toNat + 1 by omega]; have h9 := jCs_s (jChT qtx2593) (m := (v1_7.toInt + 0).toNat) (n := (r_10).toInt.toNat) (by omega) hr_10.2.2.2; omega)), (by first | omega | rfl | assumption | (rw [show ((z_25).toInt + 0).toNat = (r_10).toInt.toNat + 1 by omega]; have h9 := jCs_s (jChT qtx2593) (m := (v1_7.toInt + 0).toNat) (n := (r_10).toInt.toNat) (by omega) hr_10.2.2.2; omega)), (by first | omega | rfl | assumption | (rw [show ((z_25).toInt + 0).toNat = (r_10).toInt.toNat + 1 by omega]; have h9 := jCs_s (jChT qtx2593) (m := (v1_7.toInt + 0).toNat) (n := (r_10).toInt.toNat) (by omega) hr_10.2.2.2; omega)), (by first | omega | rfl | assumption | (rw [show ((z_25).toInt + 0).toNat = (r_10).toInt.toNat + 1 by omega]; have h9 := jCs_s (jChT qtx2593) (m := (v1_7.toInt + 0).toNat) (n := (r_10).toInt.toNat) (by omega) hr_10.2.2.2; omega))⟩) (by omega) _ (lv_sub hl [2, 1, 0] rfl)
                    · skip
                      have c_24' : v4_21.toInt ≠ 0 := jb_eq_n (rfl) ((by decide)) c_24
                      refine lv_iload_n hx hb dX13_command_133 rfl (lv_at hl 2 rfl) ?_
                      rw [hQ]
                      exact W.iret (v := v2_7) hx hb hr (fun t ht hW => ⟨⟨v2_7, (), rfl, by have h9 := jCs_mono (jChT qtx2593) (m := (v1_7.toInt + 0).toNat) (n := 115) (by omega); exact ⟨by omega, by omega, by omega⟩, hh_21.rt (M1 := []) [] rfl ht⟩, by rw [ht]; try exact hh_21.1.1, fun q h9 hq => by rw [ht]; try exact hh_21.1.2.1 q h9 hq⟩) hh_21.1.2.2 dX13_command_134
                  · skip
                    have c_23' : v5_21.toInt < z_22.toInt := jb_ge_n (rfl) (rfl) c_23
                    refine lv_iload hx hb dX13_command_78 (lv_at hl 4 rfl) ?_
                    refine lv_if_eq (tgt := 128) hx hb dX13_command_80 (by decide) (fun c_27 => ?_) (fun c_27 => ?_)
                    · skip
                      have c_27' : v4_21.toInt = 0 := jb_eq (rfl) ((by decide)) c_27
                      refine lv_iload hx hb dX13_command_128 (lv_at hl 4 rfl) ?_
                      refine lv_if_eq (tgt := 135) hx hb dX13_command_130 (by decide) (fun c_28 => ?_) (fun c_28 => ?_)
                      · skip
                        have c_28' : v4_21.toInt = 0 := jb_eq (rfl) ((by decide)) c_28
                        refine lv_iload_n hx hb dX13_command_135 rfl (lv_at hl 3 rfl) ?_
                        refine lv_iconst (v := 1) hx hb dX13_command_136 (by decide) ?_
                        refine lv_iadd hx hb dX13_command_137 ?_
                        refine lv_topi (fun z_29 ez_29 => ?_)
                        have hz_29 : z_29.toInt = r_10.toInt + 1 := by rw [ez_29]; exact jb_iadd2 (rfl) ((by decide)) (by omega)
                        refine lv_istore_n (lv' := [(1, .int z_29), (0, .ref r0), (2, .int v2_7), (3, .int r_10), (4, .int v4_21), (5, .int v5_21)]) hx hb dX13_command_138 rfl hl (by decide) rfl (fun ls hl => ?_)
                        obtain ⟨z_30, ez_30⟩ : ∃ y : Int32, y = v2_7 + 1 := ⟨_, rfl⟩
                        refine lv_iinc (v := z_30) (lv' := [(2, .int z_30), (1, .int z_29), (0, .ref r0), (3, .int r_10), (4, .int v4_21), (5, .int v5_21)]) hx hb dX13_command_139 hl (k := 2) rfl (by rw [ez_30]; rfl) (by decide) rfl (fun ls hl => ?_)
                        have hz_30 : z_30.toInt = v2_7.toInt + 1 := by rw [ez_30]; exact jb_iadd2 (rfl) (by decide) (by omega)
                        refine lv_goto (tgt := 23) hx hb dX13_command_142 (by decide) ?_
                        exact L23 z_29 z_30 _ _ (hh_21.sub (L1 := [(r0, 15, 28, .ref kind_4), (r0, 15, 30, .int pk)]) [2, 3] rfl (M1 := []) [] rfl (I1 := []) [] rfl) (⟨(by first | omega | rfl | assumption | (rw [show ((z_29).toInt + 0).toNat = (r_10).toInt.toNat + 1 by omega]; have h9 := jCs_s (jChT qtx2593) (m := (v1_7.toInt + 0).toNat) (n := (r_10).toInt.toNat) (by omega) hr_10.2.2.2; omega)), (by first | omega | rfl | assumption | (rw [show ((z_29).toInt + 0).toNat = (r_10).toInt.toNat + 1 by omega]; have h9 := jCs_s (jChT qtx2593) (m := (v1_7.toInt + 0).toNat) (n := (r_10).toInt.toNat) (by omega) hr_10.2.2.2; omega)), (by first | omega | rfl | assumption | (rw [show ((z_29).toInt + 0).toNat = (r_10).toInt.toNat + 1 by omega]; have h9 := jCs_s (jChT qtx2593) (m := (v1_7.toInt + 0).toNat) (n := (r_10).toInt.toNat) (by omega) hr_10.2.2.2; omega)), (by first | omega | rfl | assumption | (rw [show ((z_29).toInt + 0).toNat = (r_10).toInt.toNat + 1 by omega]; have h9 := jCs_s (jChT qtx2593) (m := (v1_7.toInt + 0).toNat) (n := (r_10).toInt.toNat) (by omega) hr_10.2.2.2; omega)), (by first | omega | rfl | assumption | (rw [show ((z_29).toInt + 0).toNat = (r_10).toInt.toNat + 1 by omega]; have h9 := jCs_s (jChT qtx2593) (m := (v1_7.toInt + 0).toNat) (n := (r_10).toInt.toNat) (by omega) hr_10.2.2.2; omega))⟩) (by omega) _ (lv_sub hl [2, 1, 0] rfl)
                      · skip
                        have c_28' : v4_21.toInt ≠ 0 := jb_eq_n (rfl) ((by decide)) c_28
                        exact (by omega : False).elim
                    · skip
                      have c_27' : v4_21.toInt ≠ 0 := jb_eq_n (rfl) ((by decide)) c_27
                      refine lv_aload_n hx hb dX13_command_83 rfl (lv_at hl 0 rfl) ?_
                      obtain ⟨v_31, hv_31, hh_32⟩ := hh_21.pin (C := RX13) (T := TX13) (N := 50) hB15 rfl (by decide) hg_r0 (i := 6) (by decide) rfl
                      clear hh_21
                      obtain ⟨signs_33, rfl, hg_signs_33⟩ := hv_31
                      refine j7_read hx hb hown hK (C := RX13) (T := TX13) (N := 50) rfl hly_15_6 hlk_28 (hh_32.at 0 rfl) dX13_command_84 ?_
                      refine lv_aload_n hx hb dX13_command_87 rfl (lv_at hl 0 rfl) ?_
                      obtain ⟨v_34, hv_34, hh_35⟩ := hh_32.pin (C := RX13) (T := TX13) (N := 50) hB15 rfl (by decide) hg_r0 (i := 8) (by decide) rfl
                      clear hh_32
                      obtain ⟨nameAt_36, rfl, hg_nameAt_36⟩ := hv_34
                      refine j7_read hx hb hown hK (C := RX13) (T := TX13) (N := 50) rfl hly_15_8 hlk_31 (hh_35.at 0 rfl) dX13_command_88 ?_
                      refine lv_aload_n hx hb dX13_command_91 rfl (lv_at hl 0 rfl) ?_
                      refine j7_read hx hb hown hK (C := RX13) (T := TX13) (N := 50) rfl hly_15_29 hlk_74 (hh_35.at 2 rfl) dX13_command_92 ?_
                      refine lv_iconst (v := 0) hx hb dX13_command_95 (by decide) ?_
                      refine j7_iald hx hb hK hh_35 hB157 1 rfl (by decide) hg_what_16 (x := 0) ((by decide)) (by omega) dX13_command_96 (fun z_37 (hz_37 : 0 ≤ z_37.toInt ∧ z_37.toInt ≤ 1599) => ?_)
                      refine j7_iald hx hb hK hh_35 hB155 1 rfl (by decide) hg_nameAt_36 (x := z_37.toInt) (rfl) (by omega) dX13_command_97 (fun z_38 (hz_38 : 0 ≤ z_38.toInt ∧ z_38.toInt ≤ 11990) => ?_)
                      refine lv_iload hx hb dX13_command_98 (lv_at hl 5 rfl) ?_
                      refine lv_iadd hx hb dX13_command_100 ?_
                      refine lv_topi (fun z_39 ez_39 => ?_)
                      have hz_39 : z_39.toInt = z_38.toInt + v5_21.toInt := by rw [ez_39]; exact jb_iadd2 (rfl) (rfl) (by omega)
                      refine j7_iald hx hb hK hh_35 hB166 1 rfl (by decide) hg_signs_33 (x := z_39.toInt) (rfl) (by omega) dX13_command_101 (fun z_40 (hz_40 : True) => ?_)
                      refine j_ldcSw hx hb hown rstr286 dX13_command_102 ?_
                      refine lv_iload_n hx hb dX13_command_105 rfl (lv_at hl 1 rfl) ?_
                      refine lv_iload hx hb dX13_command_106 (lv_at hl 5 rfl) ?_
                      refine lv_iadd hx hb dX13_command_108 ?_
                      refine lv_topi (fun z_41 ez_41 => ?_)
                      have hz_41 : z_41.toInt = v1_7.toInt + v5_21.toInt := by rw [ez_41]; exact jb_iadd2 (rfl) (rfl) (by omega)
                      refine vp_callSi (W.runV (As := [.int z_41]) (rest := [.int z_40]) ⟨hx, hb, hml, hown, hts⟩ (wJ0_charAt_5068e l dC dI ca base H_21 str286 116 z_41) (cwV 1 hts (jgV (jWr_61 _ (List.mem_of_getElem? (i := 6) rfl)) (jWr_6 _ (List.mem_of_getElem? (i := 1) rfl)) (jWr_6 _ (List.mem_of_getElem? (i := 2) rfl)) (jWr_5 _ (List.mem_of_getElem? (i := 15) rfl)) (jWr_6 _ (List.mem_of_getElem? (i := 3) rfl))) rfl rfl rfl (by decide +kernel) ⟨by rw [← hR]; exact Nat.le_of_ble_eq_true rfl, by rw [← hR]; exact Nat.le_of_ble_eq_true rfl⟩) ⟨fun a U g mk q => by obtain ⟨q0, q1, q2, qK, q9⟩ := q; exact ⟨q0, q1, (q2.moved (Vm.Alike.refl U.vm)), jG.calling g mk a qK, q9⟩, jStr_recv hstr286 hh_35.1, fun U hU hW => ⟨rfl, hU, (hstr286.moved hW.alike).kept hh_35.1.2.1, hG.step hW hU hh_35.1, ⟨by omega, by omega, by omega⟩⟩⟩ rfl rfl hl.1 rfl (lv_room (Nat.le_of_ble_eq_true rfl)) dX13_command_109 ⟨Nat.zero_le _, Nat.zero_le _⟩) (fun r_42 hr_42 => ?_)
                      refine lv_icmp_ne (tgt := 119) hx hb dX13_command_112 (by decide) (fun c_43 => ?_) (fun c_43 => ?_)
                      · skip
                        have c_43' : z_40.toInt ≠ r_42.toInt := jb_ne (rfl) (rfl) c_43
                        refine lv_iconst (v := 0) hx hb dX13_command_119 (by decide) ?_
                        refine lv_istore (lv' := [(4, .int 0), (0, .ref r0), (1, .int v1_7), (2, .int v2_7), (3, .int r_10), (5, .int v5_21)]) hx hb dX13_command_120 hl (by decide) rfl (fun ls hl => ?_)
                        obtain ⟨z_44, ez_44⟩ : ∃ y : Int32, y = v5_21 + 1 := ⟨_, rfl⟩
                        refine lv_iinc (v := z_44) (lv' := [(5, .int z_44), (4, .int 0), (0, .ref r0), (1, .int v1_7), (2, .int v2_7), (3, .int r_10)]) hx hb dX13_command_122 hl (k := 5) rfl (by rw [ez_44]; rfl) (by decide) rfl (fun ls hl => ?_)
                        have hz_44 : z_44.toInt = v5_21.toInt + 1 := by rw [ez_44]; exact jb_iadd2 (rfl) (by decide) (by omega)
                        refine lv_goto (tgt := 70) hx hb dX13_command_125 (by decide) ?_
                        exact L70 0 z_44 _ _ (hh_35.sub (L1 := [(r0, 15, 29, .ref what_16), (r0, 15, 9, .ref nameLength_13), (r0, 15, 28, .ref kind_4), (r0, 15, 30, .int pk)]) [2, 3, 4, 5] rfl (M1 := []) [] rfl (I1 := []) [] rfl) (Or.inl rfl) (by first | omega | (refine ⟨?_, ?_, ?_⟩ <;> (first | omega | rfl | assumption | decide | exact Or.inl rfl | exact Or.inr rfl | (simp only; omega)))) (by omega) _ (lv_sub hl [2, 3, 4, 5, 1, 0] rfl)
                      · skip
                        have c_43' : z_40.toInt = r_42.toInt := jb_ne_n (rfl) (rfl) c_43
                        refine lv_iconst (v := 1) hx hb dX13_command_115 (by decide) ?_
                        refine lv_goto (tgt := 120) hx hb dX13_command_116 (by decide) ?_
                        refine lv_istore (lv' := [(4, .int 1), (0, .ref r0), (1, .int v1_7), (2, .int v2_7), (3, .int r_10), (5, .int v5_21)]) hx hb dX13_command_120 hl (by decide) rfl (fun ls hl => ?_)
                        obtain ⟨z_45, ez_45⟩ : ∃ y : Int32, y = v5_21 + 1 := ⟨_, rfl⟩
                        refine lv_iinc (v := z_45) (lv' := [(5, .int z_45), (4, .int 1), (0, .ref r0), (1, .int v1_7), (2, .int v2_7), (3, .int r_10)]) hx hb dX13_command_122 hl (k := 5) rfl (by rw [ez_45]; rfl) (by decide) rfl (fun ls hl => ?_)
                        have hz_45 : z_45.toInt = v5_21.toInt + 1 := by rw [ez_45]; exact jb_iadd2 (rfl) (by decide) (by omega)
                        refine lv_goto (tgt := 70) hx hb dX13_command_125 (by decide) ?_
                        exact L70 1 z_45 _ _ (hh_35.sub (L1 := [(r0, 15, 29, .ref what_16), (r0, 15, 9, .ref nameLength_13), (r0, 15, 28, .ref kind_4), (r0, 15, 30, .int pk)]) [2, 3, 4, 5] rfl (M1 := []) [] rfl (I1 := []) [] rfl) (Or.inr rfl) (by first | omega | (refine ⟨?_, ?_, ?_⟩ <;> (first | omega | rfl | assumption | decide | exact Or.inl rfl | exact Or.inr rfl | (simp only; omega)))) (by omega) _ (lv_sub hl [2, 3, 4, 5, 1, 0] rfl)
              exact L70 (116 - (0 : Int32).toInt : Int).toNat.succ w0_20 0 _ _ hh_20 (hb_w0_20) (by first | omega | (refine ⟨?_, ?_, ?_⟩ <;> (first | omega | rfl | assumption | decide | exact Or.inl rfl | exact Or.inr rfl | (simp only; omega)))) (by omega) _ (lv_sub hl [2, 3, 4, 5, 1, 0] rfl)
            refine lv_icmp_ne (tgt := 64) hx hb dX13_command_57 (by decide) (fun c_46 => ?_) (fun c_46 => ?_)
            · skip
              have c_46' : z_18.toInt ≠ z_19.toInt := jb_ne (rfl) (rfl) c_46
              refine lv_iconst (v := 0) hx hb dX13_command_64 (by decide) ?_
              exact C65 0 _ _ hh_15 (Or.inl rfl) (by first | omega | (refine ⟨?_, ?_, ?_⟩ <;> (first | omega | rfl | assumption | decide | exact Or.inl rfl | exact Or.inr rfl | (simp only; omega)))) _ (lv_sub hl [1, 2, 3, 0] rfl)
            · skip
              have c_46' : z_18.toInt = z_19.toInt := jb_ne_n (rfl) (rfl) c_46
              refine lv_iconst (v := 1) hx hb dX13_command_60 (by decide) ?_
              refine lv_goto (tgt := 65) hx hb dX13_command_61 (by decide) ?_
              exact C65 1 _ _ hh_15 (Or.inr rfl) (by first | omega | (refine ⟨?_, ?_, ?_⟩ <;> (first | omega | rfl | assumption | decide | exact Or.inl rfl | exact Or.inr rfl | (simp only; omega)))) _ (lv_sub hl [1, 2, 3, 0] rfl)
      exact L23 (116 - (0 : Int32).toInt : Int).toNat.succ 0 0 _ _ hh_3 (by refine ⟨by omega, by omega, by omega, by omega, ?_⟩; rw [hk0]; exact jCs_mono (jChT qtx2593) (m := 0) (Nat.zero_le _)) (by omega) _ (lv_sub hl [2, 1, 0] rfl)
    · skip
      have c_6' : z_5.toInt ≠ 1 := jb_eq_n (rfl) ((by decide)) c_6
      refine lv_iconst (v := (-1)) hx hb dX13_command_17 (by decide) ?_
      rw [hQ]
      exact W.iret (v := (-1)) hx hb hr (fun t ht hW => ⟨⟨(-1), (), rfl, by exact ⟨by omega, by omega, by omega⟩, hh_3.rt (M1 := []) [] rfl ht⟩, by rw [ht]; try exact hh_3.1.1, fun q h9 hq => by rw [ht]; try exact hh_3.1.2.1 q h9 hq⟩) hh_3.1.2.2 dX13_command_18
