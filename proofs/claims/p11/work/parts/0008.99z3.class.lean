section
def F13 (n : Nat) (G : jT) : List (Value → Prop) := [jRf G 2 4000, jRf G 4 0, jRf G 6 0, jRf G 2 20000, jRf G 2 0, jRf G 7 0, jRf G 9 0, jRf G 1 1, jRf G 1 2, jRf G 1 3, jRf G 212 2, jI 0 2, jIa, jIa, jIa, jRf G 3 1, jRn G 3 1, jRf G 2 0, jIa]
theorem dX8_hasIdOf_0 : decode cX8_hasIdOf 0 = .ok (.aload_n 0, 1) := by decide +kernel
theorem dX8_hasIdOf_1 : decode cX8_hasIdOf 1 = .ok (.getfield 29, 3) := by decide +kernel
theorem dX8_hasIdOf_4 : decode cX8_hasIdOf 4 = .ok (.ifnull 27, 3) := by decide +kernel
theorem dX8_hasIdOf_7 : decode cX8_hasIdOf 7 = .ok (.aload_n 1, 1) := by decide +kernel
theorem dX8_hasIdOf_8 : decode cX8_hasIdOf 8 = .ok (.getfield 29, 3) := by decide +kernel
theorem dX8_hasIdOf_11 : decode cX8_hasIdOf 11 = .ok (.ifnull 20, 3) := by decide +kernel
theorem dX8_hasIdOf_14 : decode cX8_hasIdOf 14 = .ok (.aload_n 0, 1) := by decide +kernel
theorem dX8_hasIdOf_15 : decode cX8_hasIdOf 15 = .ok (.getfield 29, 3) := by decide +kernel
theorem dX8_hasIdOf_18 : decode cX8_hasIdOf 18 = .ok (.getfield 59, 3) := by decide +kernel
theorem dX8_hasIdOf_21 : decode cX8_hasIdOf 21 = .ok (.aload_n 1, 1) := by decide +kernel
theorem dX8_hasIdOf_22 : decode cX8_hasIdOf 22 = .ok (.getfield 29, 3) := by decide +kernel
theorem dX8_hasIdOf_25 : decode cX8_hasIdOf 25 = .ok (.getfield 59, 3) := by decide +kernel
theorem dX8_hasIdOf_28 : decode cX8_hasIdOf 28 = .ok (.if_icmp .eq 5, 3) := by decide +kernel
theorem dX8_hasIdOf_31 : decode cX8_hasIdOf 31 = .ok (.iconst 0, 1) := by decide +kernel
theorem dX8_hasIdOf_32 : decode cX8_hasIdOf 32 = .ok (.ireturn, 1) := by decide +kernel
theorem dX8_hasIdOf_33 : decode cX8_hasIdOf 33 = .ok (.iconst 0, 1) := by decide +kernel
theorem dX8_hasIdOf_34 : decode cX8_hasIdOf 34 = .ok (.istore_n 2, 1) := by decide +kernel
theorem dX8_hasIdOf_35 : decode cX8_hasIdOf 35 = .ok (.iload_n 2, 1) := by decide +kernel
theorem dX8_hasIdOf_36 : decode cX8_hasIdOf 36 = .ok (.aload_n 0, 1) := by decide +kernel
theorem dX8_hasIdOf_37 : decode cX8_hasIdOf 37 = .ok (.getfield 29, 3) := by decide +kernel
theorem dX8_hasIdOf_40 : decode cX8_hasIdOf 40 = .ok (.getfield 59, 3) := by decide +kernel
theorem dX8_hasIdOf_43 : decode cX8_hasIdOf 43 = .ok (.if_icmp .ge 32, 3) := by decide +kernel
theorem dX8_hasIdOf_46 : decode cX8_hasIdOf 46 = .ok (.aload_n 0, 1) := by decide +kernel
theorem dX8_hasIdOf_47 : decode cX8_hasIdOf 47 = .ok (.getfield 29, 3) := by decide +kernel
theorem dX8_hasIdOf_50 : decode cX8_hasIdOf 50 = .ok (.getfield 62, 3) := by decide +kernel
theorem dX8_hasIdOf_53 : decode cX8_hasIdOf 53 = .ok (.iload_n 2, 1) := by decide +kernel
theorem dX8_hasIdOf_54 : decode cX8_hasIdOf 54 = .ok (.baload, 1) := by decide +kernel
theorem dX8_hasIdOf_55 : decode cX8_hasIdOf 55 = .ok (.aload_n 1, 1) := by decide +kernel
theorem dX8_hasIdOf_56 : decode cX8_hasIdOf 56 = .ok (.getfield 29, 3) := by decide +kernel
theorem dX8_hasIdOf_59 : decode cX8_hasIdOf 59 = .ok (.getfield 62, 3) := by decide +kernel
theorem dX8_hasIdOf_62 : decode cX8_hasIdOf 62 = .ok (.iload_n 2, 1) := by decide +kernel
theorem dX8_hasIdOf_63 : decode cX8_hasIdOf 63 = .ok (.baload, 1) := by decide +kernel
theorem dX8_hasIdOf_64 : decode cX8_hasIdOf 64 = .ok (.if_icmp .eq 5, 3) := by decide +kernel
theorem dX8_hasIdOf_67 : decode cX8_hasIdOf 67 = .ok (.iconst 0, 1) := by decide +kernel
theorem dX8_hasIdOf_68 : decode cX8_hasIdOf 68 = .ok (.ireturn, 1) := by decide +kernel
theorem dX8_hasIdOf_69 : decode cX8_hasIdOf 69 = .ok (.iinc 2 1, 3) := by decide +kernel
theorem dX8_hasIdOf_72 : decode cX8_hasIdOf 72 = .ok (.goto (-37), 3) := by decide +kernel
theorem dX8_hasIdOf_75 : decode cX8_hasIdOf 75 = .ok (.iconst 1, 1) := by decide +kernel
theorem dX8_hasIdOf_76 : decode cX8_hasIdOf 76 = .ok (.ireturn, 1) := by decide +kernel
theorem dX11_out_0 : decode cX11_out 0 = .ok (.iload_n 1, 1) := by decide +kernel
theorem dX11_out_1 : decode cX11_out 1 = .ok (.ifCond .lt 14, 3) := by decide +kernel
theorem dX11_out_4 : decode cX11_out 4 = .ok (.iload_n 1, 1) := by decide +kernel
theorem dX11_out_5 : decode cX11_out 5 = .ok (.aload_n 0, 1) := by decide +kernel
theorem dX11_out_6 : decode cX11_out 6 = .ok (.getfield 32, 3) := by decide +kernel
theorem dX11_out_9 : decode cX11_out 9 = .ok (.getfield 92, 3) := by decide +kernel
theorem dX11_out_12 : decode cX11_out 12 = .ok (.if_icmp .lt 7, 3) := by decide +kernel
theorem dX11_out_15 : decode cX11_out 15 = .ok (.iconst (-1), 1) := by decide +kernel
theorem dX11_out_16 : decode cX11_out 16 = .ok (.goto 16, 3) := by decide +kernel
theorem dX11_out_19 : decode cX11_out 19 = .ok (.aload_n 0, 1) := by decide +kernel
theorem dX11_out_20 : decode cX11_out 20 = .ok (.getfield 32, 3) := by decide +kernel
theorem dX11_out_23 : decode cX11_out 23 = .ok (.getfield 98, 3) := by decide +kernel
theorem dX11_out_26 : decode cX11_out 26 = .ok (.iload_n 1, 1) := by decide +kernel
theorem dX11_out_27 : decode cX11_out 27 = .ok (.baload, 1) := by decide +kernel
theorem dX11_out_28 : decode cX11_out 28 = .ok (.sipush 255, 3) := by decide +kernel
theorem dX11_out_31 : decode cX11_out 31 = .ok (.iand, 1) := by decide +kernel
theorem dX11_out_32 : decode cX11_out 32 = .ok (.ireturn, 1) := by decide +kernel
theorem dX11_verdict_0 : decode cX11_verdict 0 = .ok (.aload_n 0, 1) := by decide +kernel
theorem dX11_verdict_1 : decode cX11_verdict 1 = .ok (.getfield 200, 3) := by decide +kernel
theorem dX11_verdict_4 : decode cX11_verdict 4 = .ok (.ifnull 30, 3) := by decide +kernel
theorem dX11_verdict_7 : decode cX11_verdict 7 = .ok (.iload_n 1, 1) := by decide +kernel
theorem dX11_verdict_8 : decode cX11_verdict 8 = .ok (.ifCond .lt 26, 3) := by decide +kernel
theorem dX11_verdict_11 : decode cX11_verdict 11 = .ok (.iload_n 1, 1) := by decide +kernel
theorem dX11_verdict_12 : decode cX11_verdict 12 = .ok (.aload_n 0, 1) := by decide +kernel
theorem dX11_verdict_13 : decode cX11_verdict 13 = .ok (.getfield 200, 3) := by decide +kernel
theorem dX11_verdict_16 : decode cX11_verdict 16 = .ok (.getfield 168, 3) := by decide +kernel
theorem dX11_verdict_19 : decode cX11_verdict 19 = .ok (.if_icmp .ge 15, 3) := by decide +kernel
theorem dX11_verdict_22 : decode cX11_verdict 22 = .ok (.aload_n 0, 1) := by decide +kernel
theorem dX11_verdict_23 : decode cX11_verdict 23 = .ok (.getfield 200, 3) := by decide +kernel
theorem dX11_verdict_26 : decode cX11_verdict 26 = .ok (.getfield 178, 3) := by decide +kernel
theorem dX11_verdict_29 : decode cX11_verdict 29 = .ok (.iload_n 1, 1) := by decide +kernel
theorem dX11_verdict_30 : decode cX11_verdict 30 = .ok (.aaload, 1) := by decide +kernel
theorem dX11_verdict_31 : decode cX11_verdict 31 = .ok (.ifnonnull 5, 3) := by decide +kernel
theorem dX11_verdict_34 : decode cX11_verdict 34 = .ok (.iconst (-1), 1) := by decide +kernel
theorem dX11_verdict_35 : decode cX11_verdict 35 = .ok (.ireturn, 1) := by decide +kernel
theorem dX11_verdict_36 : decode cX11_verdict 36 = .ok (.aload_n 0, 1) := by decide +kernel
theorem dX11_verdict_37 : decode cX11_verdict 37 = .ok (.getfield 200, 3) := by decide +kernel
theorem dX11_verdict_40 : decode cX11_verdict 40 = .ok (.getfield 178, 3) := by decide +kernel
theorem dX11_verdict_43 : decode cX11_verdict 43 = .ok (.iload_n 1, 1) := by decide +kernel
theorem dX11_verdict_44 : decode cX11_verdict 44 = .ok (.aaload, 1) := by decide +kernel
theorem dX11_verdict_45 : decode cX11_verdict 45 = .ok (.astore_n 3, 1) := by decide +kernel
theorem dX11_verdict_46 : decode cX11_verdict 46 = .ok (.iload_n 2, 1) := by decide +kernel
theorem dX11_verdict_47 : decode cX11_verdict 47 = .ok (.tableswitch 95 0 5 #[37, 47, 57, 62, 72, 89], 37) := by decide +kernel
theorem dX11_verdict_84 : decode cX11_verdict 84 = .ok (.aload_n 0, 1) := by decide +kernel
theorem dX11_verdict_85 : decode cX11_verdict 85 = .ok (.getfield 200, 3) := by decide +kernel
theorem dX11_verdict_88 : decode cX11_verdict 88 = .ok (.getfield 182, 3) := by decide +kernel
theorem dX11_verdict_91 : decode cX11_verdict 91 = .ok (.iload_n 1, 1) := by decide +kernel
theorem dX11_verdict_92 : decode cX11_verdict 92 = .ok (.iaload, 1) := by decide +kernel
theorem dX11_verdict_93 : decode cX11_verdict 93 = .ok (.ireturn, 1) := by decide +kernel
theorem dX11_verdict_94 : decode cX11_verdict 94 = .ok (.aload_n 0, 1) := by decide +kernel
theorem dX11_verdict_95 : decode cX11_verdict 95 = .ok (.getfield 200, 3) := by decide +kernel
theorem dX11_verdict_98 : decode cX11_verdict 98 = .ok (.getfield 185, 3) := by decide +kernel
theorem dX11_verdict_101 : decode cX11_verdict 101 = .ok (.iload_n 1, 1) := by decide +kernel
theorem dX11_verdict_102 : decode cX11_verdict 102 = .ok (.iaload, 1) := by decide +kernel
theorem dX11_verdict_103 : decode cX11_verdict 103 = .ok (.ireturn, 1) := by decide +kernel
theorem dX11_verdict_104 : decode cX11_verdict 104 = .ok (.aload_n 3, 1) := by decide +kernel
theorem dX11_verdict_105 : decode cX11_verdict 105 = .ok (.getfield 188, 3) := by decide +kernel
theorem dX11_verdict_108 : decode cX11_verdict 108 = .ok (.ireturn, 1) := by decide +kernel
theorem dX11_verdict_109 : decode cX11_verdict 109 = .ok (.aload_n 0, 1) := by decide +kernel
theorem dX11_verdict_110 : decode cX11_verdict 110 = .ok (.getfield 200, 3) := by decide +kernel
theorem dX11_verdict_113 : decode cX11_verdict 113 = .ok (.getfield 193, 3) := by decide +kernel
theorem dX11_verdict_116 : decode cX11_verdict 116 = .ok (.iload_n 1, 1) := by decide +kernel
theorem dX11_verdict_117 : decode cX11_verdict 117 = .ok (.iaload, 1) := by decide +kernel
theorem dX11_verdict_118 : decode cX11_verdict 118 = .ok (.ireturn, 1) := by decide +kernel
theorem dX11_verdict_119 : decode cX11_verdict 119 = .ok (.aload_n 3, 1) := by decide +kernel
theorem dX11_verdict_120 : decode cX11_verdict 120 = .ok (.getfield 232, 3) := by decide +kernel
theorem dX11_verdict_123 : decode cX11_verdict 123 = .ok (.ifCond .ge 7, 3) := by decide +kernel
theorem dX11_verdict_126 : decode cX11_verdict 126 = .ok (.iconst (-1), 1) := by decide +kernel
theorem dX11_verdict_127 : decode cX11_verdict 127 = .ok (.goto 8, 3) := by decide +kernel
theorem dX11_verdict_130 : decode cX11_verdict 130 = .ok (.aload_n 3, 1) := by decide +kernel
theorem dX11_verdict_131 : decode cX11_verdict 131 = .ok (.getfield 235, 3) := by decide +kernel
theorem dX11_verdict_134 : decode cX11_verdict 134 = .ok (.arraylength, 1) := by decide +kernel
theorem dX11_verdict_135 : decode cX11_verdict 135 = .ok (.ireturn, 1) := by decide +kernel
theorem dX11_verdict_136 : decode cX11_verdict 136 = .ok (.aload_n 3, 1) := by decide +kernel
theorem dX11_verdict_137 : decode cX11_verdict 137 = .ok (.getfield 239, 3) := by decide +kernel
theorem dX11_verdict_140 : decode cX11_verdict 140 = .ok (.arraylength, 1) := by decide +kernel
theorem dX11_verdict_141 : decode cX11_verdict 141 = .ok (.ireturn, 1) := by decide +kernel
theorem dX11_verdict_142 : decode cX11_verdict 142 = .ok (.iconst (-1), 1) := by decide +kernel
theorem dX11_verdict_143 : decode cX11_verdict 143 = .ok (.ireturn, 1) := by decide +kernel
theorem dX11_release_0 : decode cX11_release 0 = .ok (.aload_n 1, 1) := by decide +kernel
theorem dX11_release_1 : decode cX11_release 1 = .ok (.aconst_null, 1) := by decide +kernel
theorem dX11_release_2 : decode cX11_release 2 = .ok (.putfield 567, 3) := by decide +kernel
theorem dX11_release_5 : decode cX11_release 5 = .ok (.aload_n 1, 1) := by decide +kernel
theorem dX11_release_6 : decode cX11_release 6 = .ok (.aconst_null, 1) := by decide +kernel
theorem dX11_release_7 : decode cX11_release 7 = .ok (.putfield 580, 3) := by decide +kernel
theorem dX11_release_10 : decode cX11_release 10 = .ok (.aload_n 1, 1) := by decide +kernel
theorem dX11_release_11 : decode cX11_release 11 = .ok (.iconst 0, 1) := by decide +kernel
theorem dX11_release_12 : decode cX11_release 12 = .ok (.putfield 577, 3) := by decide +kernel
theorem dX11_release_15 : decode cX11_release 15 = .ok (.iconst 0, 1) := by decide +kernel
theorem dX11_release_16 : decode cX11_release 16 = .ok (.istore_n 2, 1) := by decide +kernel
theorem dX11_release_17 : decode cX11_release 17 = .ok (.iload_n 2, 1) := by decide +kernel
theorem dX11_release_18 : decode cX11_release 18 = .ok (.iconst 2, 1) := by decide +kernel
theorem dX11_release_19 : decode cX11_release 19 = .ok (.if_icmp .ge 26, 3) := by decide +kernel
theorem dX11_release_22 : decode cX11_release 22 = .ok (.aload_n 0, 1) := by decide +kernel
theorem dX11_release_23 : decode cX11_release 23 = .ok (.getfield 73, 3) := by decide +kernel
theorem dX11_release_26 : decode cX11_release 26 = .ok (.iload_n 2, 1) := by decide +kernel
theorem dX11_release_27 : decode cX11_release 27 = .ok (.aaload, 1) := by decide +kernel
theorem dX11_release_28 : decode cX11_release 28 = .ok (.aload_n 1, 1) := by decide +kernel
theorem dX11_release_29 : decode cX11_release 29 = .ok (.if_acmp .ne 10, 3) := by decide +kernel
theorem dX11_release_32 : decode cX11_release 32 = .ok (.aload_n 0, 1) := by decide +kernel
theorem dX11_release_33 : decode cX11_release 33 = .ok (.getfield 73, 3) := by decide +kernel
theorem dX11_release_36 : decode cX11_release 36 = .ok (.iload_n 2, 1) := by decide +kernel
theorem dX11_release_37 : decode cX11_release 37 = .ok (.aconst_null, 1) := by decide +kernel
theorem dX11_release_38 : decode cX11_release 38 = .ok (.aastore, 1) := by decide +kernel
theorem dX11_release_39 : decode cX11_release 39 = .ok (.iinc 2 1, 3) := by decide +kernel
theorem dX11_release_42 : decode cX11_release 42 = .ok (.goto (-25), 3) := by decide +kernel
theorem dX11_release_45 : decode cX11_release 45 = .ok (.return_, 1) := by decide +kernel
def EX11_out : List (Nat × Nat) := []
def EX11_verdict : List (Nat × Nat) := []
def EX8_hasIdOf : List (Nat × Nat) := []
set_option maxHeartbeats 4000000 in
set_option maxRecDepth 20000 in
theorem uX11_out (l : Launch) (dC : Nat → ClassId) (dI : Nat → Nat → Nat) (ca : Nat → ClassId) (base : Nat) (B : jF) (hB : jBok B) (hAp : jAp (dC, dI)) (hB2 : ∀ n G a H, B 2 n G a H ↔ jOb (dC, dI) 2 2 (F2 n G) a H) (hB13 : ∀ n G a H, B 13 n G a H ↔ jOb (dC, dI) 13 19 (F13 n G) a H) (hB196 : ∀ n G a H, B 196 n G a H ↔ jAr (dC, dI) (ca 0) (fun j z => jBf j z) n a H) (G0 : jT) (H0 : Heap) (r0 : Nat) (a1 : Int32) : Met l yX11_out (jw yX11_out cX11_out 2 (some .int)) ({ frames := 0, cells := 0, slots := 0, locals := 0 }) (va_Pc [.ref r0, .int a1] (fun U => U.heap = H0 ∧ jX B base G0 [] H0 ∧ jG dC dI ca base U ∧ G0 r0 = some (13, 0) ∧ jP (dC, dI) G0 H0 [] ∧ True)) (va_Qi (S := Unit) (fun r u => (True)) (fun u t => jRt (dC, dI) B base G0 EX11_out H0 [] t.heap) (jA base)) 0 0 (jA base) := by
  refine Met.ofW (cc := cX11_out) (maxL := 2) (ret := (some .int)) (by decide) rfl ?_
  intro p e s m args below meth c s₁ Bd hml hv
  obtain ⟨rfl, hH0, hX, hG, hg_r0, hP0, hp0⟩ := hv
  have hK := hG.1
  have hx := Bd.exec
  have hb := Bd.bytes
  have hr := Bd.returns
  have hts := atoms_spec (ws := (jw yX11_out cX11_out 2 (some .int))) Bd.pre
  have htw : ∀ w ∈ jWl, w.before _ s = true := fun w h => hts w (List.mem_cons_of_mem _ h)
  have hown : s.vm.findClass RX11 = some m.cls := findClass_of_methodNamed Bd.named
  have hlocks := Bd.notSynchronized
  obtain ⟨Q, hQ⟩ : ∃ Q, Q = MQ below (va_Qi (S := Unit) (fun r u => (True)) (fun u t => jRt (dC, dI) B base G0 EX11_out H0 [] t.heap) (jA base)) ([.ref r0, .int a1] : List Value).toArray s 0 0 (jA base) := ⟨_, rfl⟩
  rw [← hQ]
  have hl := lv_entry ([.ref r0, .int a1]) (n := 2) (Nat.le_of_ble_eq_true rfl)
  rw [lg_entry_eq]
  generalize (lg_sl ([.ref r0, .int a1]) ++ List.replicate (2 - (lg_sl ([.ref r0, .int a1])).length) Slot.unset).toArray = ls at hl ⊢
  have hl : lv_has ls 2 [(0, .ref r0), (1, .int a1)] := hl
  generalize hR : (headSpec (jw yX11_out cX11_out 2 (some .int)) ({ frames := 0, cells := 0, slots := 0, locals := 0 })).room = R
  subst hH0
  have hh : jSt (dC, dI) B base G0 G0 EX11_out s.heap 0 0 [] [] [] s.heap [] := jSt.start hX hP0 jMc.nil jIs.nil
  clear hX hP0
  have hkm1 : ((-1) : Int32).toInt = (-1) := by decide
  have hk0 : (0 : Int32).toInt = 0 := by decide
  have hk1 : (1 : Int32).toInt = 1 := by decide
  have hk255 : (255 : Int32).toInt = 255 := by decide
  have hly_2_0 := htw (u_lay RX0 TX0 0) (jWc_wsX00 _ (u_in_lay (by decide)))
  have hly_2_1 := htw (u_lay RX0 TX0 1) (jWc_wsX00 _ (u_in_lay (by decide)))
  have hly_13_3 := htw (u_lay RX11 TX11 3) (jWc_wsX110 _ (u_in_lay (by decide)))
  have hlk_32 := (htw (.fieldLink RX11 32 "ProofServer" "output" "LProofServer$Bytes;") (jWr_2 _ (List.mem_of_getElem? (i := 0) rfl)))
  have hlk_92 := (htw (.fieldLink RX11 92 "ProofServer$Bytes" "count" "I") (jWr_15 _ (List.mem_of_getElem? (i := 18) rfl)))
  have hlk_98 := (htw (.fieldLink RX11 98 "ProofServer$Bytes" "row" "[B") (jWr_17 _ (List.mem_of_getElem? (i := 7) rfl)))
  have hrg_a1 := jb_rng a1
  refine lv_iload_n hx hb dX11_out_0 rfl (lv_at hl 1 rfl) ?_
  refine lv_if_lt (tgt := 15) hx hb dX11_out_1 (by decide) (fun c_1 => ?_) (fun c_1 => ?_)
  · skip
    have c_1' : a1.toInt < 0 := jb_lt (rfl) ((by decide)) c_1
    refine lv_iconst (v := (-1)) hx hb dX11_out_15 (by decide) ?_
    refine lv_goto (tgt := 32) hx hb dX11_out_16 (by decide) ?_
    rw [hQ]
    exact W.iret (v := (-1)) hx hb hr (fun t ht hW => ⟨⟨(-1), (), rfl, trivial, hh.rt (M1 := []) [] rfl ht⟩, by rw [ht]; try exact hh.1.1, fun q h9 hq => by rw [ht]; try exact hh.1.2.1 q h9 hq⟩) hh.1.2.2 dX11_out_32
  · skip
    have c_1' : a1.toInt ≥ 0 := jb_lt_n (rfl) ((by decide)) c_1
    refine lv_iload_n hx hb dX11_out_4 rfl (lv_at hl 1 rfl) ?_
    refine lv_aload_n hx hb dX11_out_5 rfl (lv_at hl 0 rfl) ?_
    obtain ⟨v_2, hv_2, hh_3⟩ := hh.pin (C := RX11) (T := TX11) (N := 19) hB13 rfl (by decide) hg_r0 (i := 3) (by decide) rfl
    clear hh
    obtain ⟨output_4, rfl, hg_output_4⟩ := hv_2
    refine j7_read hx hb hown hK (C := RX11) (T := TX11) (N := 19) rfl hly_13_3 hlk_32 (hh_3.at 0 rfl) dX11_out_6 ?_
    obtain ⟨v_5, hv_5, hh_6⟩ := hh_3.pin (C := RX0) (T := TX0) (N := 2) hB2 rfl (by decide) hg_output_4 (i := 1) (by decide) rfl
    clear hh_3
    obtain ⟨count_7, rfl, hlocount_7, hhicount_7, hfxcount_7⟩ := hv_5
    refine j7_read hx hb hown hK (C := RX0) (T := TX0) (N := 2) rfl hly_2_1 hlk_92 (hh_6.at 0 rfl) dX11_out_9 ?_
    refine lv_icmp_lt (tgt := 19) hx hb dX11_out_12 (by decide) (fun c_8 => ?_) (fun c_8 => ?_)
    · skip
      have c_8' : a1.toInt < count_7.toInt := jb_lt (rfl) (rfl) c_8
      refine lv_aload_n hx hb dX11_out_19 rfl (lv_at hl 0 rfl) ?_
      refine j7_read hx hb hown hK (C := RX11) (T := TX11) (N := 19) rfl hly_13_3 hlk_32 (hh_6.at 1 rfl) dX11_out_20 ?_
      obtain ⟨v_9, hv_9, hh_10⟩ := hh_6.pin (C := RX0) (T := TX0) (N := 2) hB2 rfl (by decide) hg_output_4 (i := 0) (by decide) rfl
      clear hh_6
      obtain ⟨row_11, nrow_11, rfl, hg_row_11, hlorow_11, hhirow_11, hpwrow_11, hfxrow_11⟩ := jBr.k6 (by decide) hv_9
      refine j7_read hx hb hown hK (C := RX0) (T := TX0) (N := 2) rfl hly_2_0 hlk_98 (hh_10.at 0 rfl) dX11_out_23 ?_
      refine lv_iload_n hx hb dX11_out_26 rfl (lv_at hl 1 rfl) ?_
      refine j7_bald hx hb hK hh_10 hB196 0 rfl (by decide) hg_row_11 (x := a1.toInt) (rfl) (by omega) dX11_out_27 (fun z_12 (hz_12 : jBf (a1.toInt).toNat z_12) => ?_)
      refine lv_sipush (v := 255) hx hb dX11_out_28 (by decide) ?_
      refine lv_iand hx hb dX11_out_31 ?_
      refine lv_topi (fun z_13 ez_13 => ?_)
      have hz_13 : 0 ≤ z_13.toInt ∧ z_13.toInt ≤ 255 := by rw [ez_13]; exact jb_and z_12 (m := 255) (k := 8) (by decide) (by decide)
      rw [hQ]
      exact W.iret (v := z_13) hx hb hr (fun t ht hW => ⟨⟨z_13, (), rfl, trivial, hh_10.rt (M1 := []) [] rfl ht⟩, by rw [ht]; try exact hh_10.1.1, fun q h9 hq => by rw [ht]; try exact hh_10.1.2.1 q h9 hq⟩) hh_10.1.2.2 dX11_out_32
    · skip
      have c_8' : a1.toInt ≥ count_7.toInt := jb_lt_n (rfl) (rfl) c_8
      refine lv_iconst (v := (-1)) hx hb dX11_out_15 (by decide) ?_
      refine lv_goto (tgt := 32) hx hb dX11_out_16 (by decide) ?_
      rw [hQ]
      exact W.iret (v := (-1)) hx hb hr (fun t ht hW => ⟨⟨(-1), (), rfl, trivial, hh_6.rt (M1 := []) [] rfl ht⟩, by rw [ht]; try exact hh_6.1.1, fun q h9 hq => by rw [ht]; try exact hh_6.1.2.1 q h9 hq⟩) hh_6.1.2.2 dX11_out_32
set_option maxHeartbeats 4000000 in
set_option maxRecDepth 20000 in
theorem uX11_verdict (l : Launch) (dC : Nat → ClassId) (dI : Nat → Nat → Nat) (ca : Nat → ClassId) (base : Nat) (B : jF) (hB : jBok B) (hAp : jAp (dC, dI)) (hB3 : ∀ n G a H, B 3 n G a H ↔ jOb (dC, dI) 3 17 (F3 n G) a H) (hB5 : ∀ n G a H, B 5 n G a H ↔ jOb (dC, dI) 5 4 (F5 n G) a H) (hB11 : ∀ n G a H, B 11 n G a H ↔ jOb (dC, dI) 11 9 (F11 n G) a H) (hB13 : ∀ n G a H, B 13 n G a H ↔ jOb (dC, dI) 13 19 (F13 n G) a H) (hB101 : ∀ n G a H, B 101 n G a H ↔ jAr (dC, dI) (ca 1) (fun j z => True) n a H) (hB171 : ∀ n G a H, B 171 n G a H ↔ jAr (dC, dI) (ca 1) (fun j z => 0 ≤ z.toInt ∧ z.toInt ≤ 1500) n a H) (hB172 : ∀ n G a H, B 172 n G a H ↔ jAr (dC, dI) (ca 1) (fun j z => 0 ≤ z.toInt ∧ z.toInt ≤ 1500) n a H) (hB210 : ∀ n G a H, B 210 n G a H ↔ jAq (dC, dI) (ca 6) (jQn 11 0) n G a H) (hB214 : ∀ n G a H, B 214 n G a H ↔ jAq (dC, dI) (ca 7) (jQg) n G a H) (G0 : jT) (H0 : Heap) (r0 : Nat) (a1 : Int32) (a2 : Int32) : Met l yX11_verdict (jw yX11_verdict cX11_verdict 4 (some .int)) ({ frames := 0, cells := 0, slots := 0, locals := 0 }) (va_Pc [.ref r0, .int a1, .int a2] (fun U => U.heap = H0 ∧ jX B base G0 [] H0 ∧ jG dC dI ca base U ∧ jK2 dC dI ca U ∧ G0 r0 = some (13, 0) ∧ jP (dC, dI) G0 H0 [] ∧ True)) (va_Qi (S := Unit) (fun r u => (True)) (fun u t => jRt (dC, dI) B base G0 EX11_verdict H0 [] t.heap) (jA base)) 0 0 (jA base) := by
  refine Met.ofW (cc := cX11_verdict) (maxL := 4) (ret := (some .int)) (by decide) rfl ?_
  intro p e s m args below meth c s₁ Bd hml hv
  obtain ⟨rfl, hH0, hX, hG, hK2, hg_r0, hP0, hp0⟩ := hv
  have hK := hG.1
  have hx := Bd.exec
  have hb := Bd.bytes
  have hr := Bd.returns
  have hts := atoms_spec (ws := (jw yX11_verdict cX11_verdict 4 (some .int))) Bd.pre
  have htw : ∀ w ∈ jWl, w.before _ s = true := fun w h => hts w (List.mem_cons_of_mem _ h)
  have hown : s.vm.findClass RX11 = some m.cls := findClass_of_methodNamed Bd.named
  have hlocks := Bd.notSynchronized
  obtain ⟨Q, hQ⟩ : ∃ Q, Q = MQ below (va_Qi (S := Unit) (fun r u => (True)) (fun u t => jRt (dC, dI) B base G0 EX11_verdict H0 [] t.heap) (jA base)) ([.ref r0, .int a1, .int a2] : List Value).toArray s 0 0 (jA base) := ⟨_, rfl⟩
  rw [← hQ]
  have hl := lv_entry ([.ref r0, .int a1, .int a2]) (n := 4) (Nat.le_of_ble_eq_true rfl)
  rw [lg_entry_eq]
  generalize (lg_sl ([.ref r0, .int a1, .int a2]) ++ List.replicate (4 - (lg_sl ([.ref r0, .int a1, .int a2])).length) Slot.unset).toArray = ls at hl ⊢
  have hl : lv_has ls 4 [(0, .ref r0), (1, .int a1), (2, .int a2)] := hl
  generalize hR : (headSpec (jw yX11_verdict cX11_verdict 4 (some .int)) ({ frames := 0, cells := 0, slots := 0, locals := 0 })).room = R
  subst hH0
  have hh : jSt (dC, dI) B base G0 G0 EX11_verdict s.heap 0 0 [] [] [] s.heap [] := jSt.start hX hP0 jMc.nil jIs.nil
  clear hX hP0
  have hkm1 : ((-1) : Int32).toInt = (-1) := by decide
  have hk0 : (0 : Int32).toInt = 0 := by decide
  have hk1 : (1 : Int32).toInt = 1 := by decide
  have hly_3_4 := htw (u_lay RX1 TX1 4) (jWc_wsX10 _ (u_in_lay (by decide)))
  have hly_3_5 := htw (u_lay RX1 TX1 5) (jWc_wsX10 _ (u_in_lay (by decide)))
  have hly_3_6 := htw (u_lay RX1 TX1 6) (jWc_wsX10 _ (u_in_lay (by decide)))
  have hly_3_7 := htw (u_lay RX1 TX1 7) (jWc_wsX10 _ (u_in_lay (by decide)))
  have hly_3_9 := htw (u_lay RX1 TX1 9) (jWc_wsX10 _ (u_in_lay (by decide)))
  have hly_11_2 := htw (u_lay RX9 TX9 2) (jWc_wsX90 _ (u_in_lay (by decide)))
  have hly_11_4 := htw (u_lay RX9 TX9 4) (jWc_wsX90 _ (u_in_lay (by decide)))
  have hly_11_6 := htw (u_lay RX9 TX9 6) (jWc_wsX90 _ (u_in_lay (by decide)))
  have hly_11_8 := htw (u_lay RX9 TX9 8) (jWc_wsX90 _ (u_in_lay (by decide)))
  have hly_13_16 := htw (u_lay RX11 TX11 16) (jWc_wsX110 _ (u_in_lay (by decide)))
  have hlk_200 := (htw (.fieldLink RX11 200 "ProofServer" "latest" "LProofServer$Document;") (jWr_93 _ (List.mem_of_getElem? (i := 14) rfl)))
  have hlk_168 := (htw (.fieldLink RX11 168 "ProofServer$Document" "sentences" "I") (jWr_35 _ (List.mem_of_getElem? (i := 4) rfl)))
  have hlk_178 := (htw (.fieldLink RX11 178 "ProofServer$Document" "behind" "[LProofServer$State;") (jWr_39 _ (List.mem_of_getElem? (i := 23) rfl)))
  have hlk_182 := (htw (.fieldLink RX11 182 "ProofServer$Document" "starts" "[I") (jWr_40 _ (List.mem_of_getElem? (i := 13) rfl)))
  have hlk_185 := (htw (.fieldLink RX11 185 "ProofServer$Document" "ends" "[I") (jWr_40 _ (List.mem_of_getElem? (i := 14) rfl)))
  have hlk_188 := (htw (.fieldLink RX11 188 "ProofServer$State" "fault" "I") (jWr_40 _ (List.mem_of_getElem? (i := 0) rfl)))
  have hlk_193 := (htw (.fieldLink RX11 193 "ProofServer$Document" "costs" "[I") (jWr_77 _ (List.mem_of_getElem? (i := 16) rfl)))
  have hlk_232 := (htw (.fieldLink RX11 232 "ProofServer$State" "lemma" "I") (jWr_94 _ (List.mem_of_getElem? (i := 10) rfl)))
  have hlk_235 := (htw (.fieldLink RX11 235 "ProofServer$State" "goals" "[LProofServer$Goal;") (jWr_94 _ (List.mem_of_getElem? (i := 11) rfl)))
  have hlk_239 := (htw (.fieldLink RX11 239 "ProofServer$State" "factNames" "[I") (jWr_94 _ (List.mem_of_getElem? (i := 12) rfl)))
  have hrg_a1 := jb_rng a1
  have hrg_a2 := jb_rng a2
  refine lv_aload_n hx hb dX11_verdict_0 rfl (lv_at hl 0 rfl) ?_
  obtain ⟨v_1, hv_1, hh_2⟩ := hh.pin (C := RX11) (T := TX11) (N := 19) hB13 rfl (by decide) hg_r0 (i := 16) (by decide) rfl
  clear hh
  rcases hv_1 with rfl | ⟨latest_3, rfl, hg_latest_3⟩
  · refine j7_read hx hb hown hK (C := RX11) (T := TX11) (N := 19) rfl hly_13_16 hlk_200 (hh_2.at 0 rfl) dX11_verdict_1 ?_
    refine lv_ifnullN (tgt := 34) hx hb dX11_verdict_4 (by decide) ?_
    refine lv_iconst (v := (-1)) hx hb dX11_verdict_34 (by decide) ?_
    rw [hQ]
    exact W.iret (v := (-1)) hx hb hr (fun t ht hW => ⟨⟨(-1), (), rfl, trivial, hh_2.rt (M1 := []) [] rfl ht⟩, by rw [ht]; try exact hh_2.1.1, fun q h9 hq => by rw [ht]; try exact hh_2.1.2.1 q h9 hq⟩) hh_2.1.2.2 dX11_verdict_35
  · refine j7_read hx hb hown hK (C := RX11) (T := TX11) (N := 19) rfl hly_13_16 hlk_200 (hh_2.at 0 rfl) dX11_verdict_1 ?_
    refine lv_ifnull hx hb dX11_verdict_4 ?_
    refine lv_iload_n hx hb dX11_verdict_7 rfl (lv_at hl 1 rfl) ?_
    refine lv_if_lt (tgt := 34) hx hb dX11_verdict_8 (by decide) (fun c_4 => ?_) (fun c_4 => ?_)
    · skip
      have c_4' : a1.toInt < 0 := jb_lt (rfl) ((by decide)) c_4
      refine lv_iconst (v := (-1)) hx hb dX11_verdict_34 (by decide) ?_
      rw [hQ]
      exact W.iret (v := (-1)) hx hb hr (fun t ht hW => ⟨⟨(-1), (), rfl, trivial, hh_2.rt (M1 := []) [] rfl ht⟩, by rw [ht]; try exact hh_2.1.1, fun q h9 hq => by rw [ht]; try exact hh_2.1.2.1 q h9 hq⟩) hh_2.1.2.2 dX11_verdict_35
    · skip
      have c_4' : a1.toInt ≥ 0 := jb_lt_n (rfl) ((by decide)) c_4
      refine lv_iload_n hx hb dX11_verdict_11 rfl (lv_at hl 1 rfl) ?_
      refine lv_aload_n hx hb dX11_verdict_12 rfl (lv_at hl 0 rfl) ?_
      refine j7_read hx hb hown hK (C := RX11) (T := TX11) (N := 19) rfl hly_13_16 hlk_200 (hh_2.at 0 rfl) dX11_verdict_13 ?_
      obtain ⟨v_5, hv_5, hh_6⟩ := hh_2.pin (C := RX1) (T := TX1) (N := 17) hB3 rfl (by decide) hg_latest_3 (i := 4) (by decide) rfl
      clear hh_2
      obtain ⟨sentences_7, rfl, hlosentences_7, hhisentences_7⟩ := hv_5
      refine j7_read hx hb hown hK (C := RX1) (T := TX1) (N := 17) rfl hly_3_4 hlk_168 (hh_6.at 0 rfl) dX11_verdict_16 ?_
      refine lv_icmp_ge (tgt := 34) hx hb dX11_verdict_19 (by decide) (fun c_8 => ?_) (fun c_8 => ?_)
      · skip
        have c_8' : a1.toInt ≥ sentences_7.toInt := jb_ge (rfl) (rfl) c_8
        refine lv_iconst (v := (-1)) hx hb dX11_verdict_34 (by decide) ?_
        rw [hQ]
        exact W.iret (v := (-1)) hx hb hr (fun t ht hW => ⟨⟨(-1), (), rfl, trivial, hh_6.rt (M1 := []) [] rfl ht⟩, by rw [ht]; try exact hh_6.1.1, fun q h9 hq => by rw [ht]; try exact hh_6.1.2.1 q h9 hq⟩) hh_6.1.2.2 dX11_verdict_35
      · skip
        have c_8' : a1.toInt < sentences_7.toInt := jb_ge_n (rfl) (rfl) c_8
        obtain ⟨v_9, hv_9, hh_10⟩ := hh_6.pin (C := RX1) (T := TX1) (N := 17) hB3 rfl (by decide) hg_latest_3 (i := 9) (by decide) rfl
        obtain ⟨behind_11, rfl, hg_behind_11⟩ := hv_9
        obtain ⟨fq_12, hfq_12a, hfq_12p⟩ := hh_10.aq hB210 (by decide) hg_behind_11
        have hh_13 := hh_10.addI (jQc.ie hfq_12a hg_behind_11 (by decide) (by decide))
        clear hh_10
        refine lv_aload_n hx hb dX11_verdict_22 rfl (lv_at hl 0 rfl) ?_
        refine j7_read hx hb hown hK (C := RX11) (T := TX11) (N := 19) rfl hly_13_16 hlk_200 (hh_13.at 2 rfl) dX11_verdict_23 ?_
        refine j7_read hx hb hown hK (C := RX1) (T := TX1) (N := 17) rfl hly_3_9 hlk_178 (hh_13.at 0 rfl) dX11_verdict_26 ?_
        refine lv_iload_n hx hb dX11_verdict_29 rfl (lv_at hl 1 rfl) ?_
        refine j7_qaldI hx hb hK2 hh_13 hB210 2 rfl (by decide) hg_behind_11 (x := a1.toInt) (rfl) (by omega) (hh_13.iv 0 rfl) dX11_verdict_30 (fun o_14 ho_14 heo_14 => ?_)
        rcases ho_14 with rfl | ⟨el_15, rfl, hg_el_15⟩
        · simp only [va_rf]
          refine lv_ifnonnullN hx hb dX11_verdict_31 ?_
          refine lv_iconst (v := (-1)) hx hb dX11_verdict_34 (by decide) ?_
          rw [hQ]
          exact W.iret (v := (-1)) hx hb hr (fun t ht hW => ⟨⟨(-1), (), rfl, trivial, hh_13.rt (M1 := []) [] rfl ht⟩, by rw [ht]; try exact hh_13.1.1, fun q h9 hq => by rw [ht]; try exact hh_13.1.2.1 q h9 hq⟩) hh_13.1.2.2 dX11_verdict_35
        · simp only [va_rf]
          refine lv_ifnonnull (tgt := 36) hx hb dX11_verdict_31 (by decide) ?_
          refine lv_aload_n hx hb dX11_verdict_36 rfl (lv_at hl 0 rfl) ?_
          refine j7_read hx hb hown hK (C := RX11) (T := TX11) (N := 19) rfl hly_13_16 hlk_200 (hh_13.at 2 rfl) dX11_verdict_37 ?_
          refine j7_read hx hb hown hK (C := RX1) (T := TX1) (N := 17) rfl hly_3_9 hlk_178 (hh_13.at 0 rfl) dX11_verdict_40 ?_
          refine lv_iload_n hx hb dX11_verdict_43 rfl (lv_at hl 1 rfl) ?_
          refine j7_qaldI hx hb hK2 hh_13 hB210 2 rfl (by decide) hg_behind_11 (x := a1.toInt) (rfl) (by omega) (hh_13.iv 0 rfl) dX11_verdict_44 (fun o_16 ho_16 heo_16 => ?_)
          rcases ho_16 with rfl | ⟨el_17, rfl, hg_el_17⟩
          · simp only [va_rf]
            exact absurd (heo_16.trans heo_14.symm) (by simp)
          · simp only [va_rf]
            obtain rfl : el_15 = el_17 := (Option.some.inj (heo_16.trans heo_14.symm)).symm
            refine lv_astore_n (lv' := [(3, .ref el_15), (0, .ref r0), (1, .int a1), (2, .int a2)]) hx hb dX11_verdict_45 rfl hl (by decide) rfl (fun ls hl => ?_)
            refine lv_iload_n hx hb dX11_verdict_46 rfl (lv_at hl 3 rfl) ?_
            rcases (by omega : (a2.toInt < 0 ∨ 5 < a2.toInt) ∨ a2.toInt = 0 ∨ a2.toInt = 1 ∨ a2.toInt = 2 ∨ a2.toInt = 3 ∨ a2.toInt = 4 ∨ a2.toInt = 5) with c_18 | c_18 | c_18 | c_18 | c_18 | c_18 | c_18
            · refine lv_tableOut (tgt := 142) hx hb dX11_verdict_47 c_18 (by decide) ?_
              refine lv_iconst (v := (-1)) hx hb dX11_verdict_142 (by decide) ?_
              rw [hQ]
              exact W.iret (v := (-1)) hx hb hr (fun t ht hW => ⟨⟨(-1), (), rfl, trivial, hh_13.rt (M1 := []) [] rfl ht⟩, by rw [ht]; try exact hh_13.1.1, fun q h9 hq => by rw [ht]; try exact hh_13.1.2.1 q h9 hq⟩) hh_13.1.2.2 dX11_verdict_143
            · refine lv_tableIn (off := 37) (tgt := 84) hx hb dX11_verdict_47 (by omega) (by omega) (by rw [c_18]; rfl) (by decide) ?_
              refine lv_aload_n hx hb dX11_verdict_84 rfl (lv_at hl 1 rfl) ?_
              refine j7_read hx hb hown hK (C := RX11) (T := TX11) (N := 19) rfl hly_13_16 hlk_200 (hh_13.at 2 rfl) dX11_verdict_85 ?_
              obtain ⟨v_19, hv_19, hh_20⟩ := hh_13.pin (C := RX1) (T := TX1) (N := 17) hB3 rfl (by decide) hg_latest_3 (i := 5) (by decide) rfl
              clear hh_13
              obtain ⟨starts_21, rfl, hg_starts_21⟩ := hv_19
              refine j7_read hx hb hown hK (C := RX1) (T := TX1) (N := 17) rfl hly_3_5 hlk_182 (hh_20.at 0 rfl) dX11_verdict_88 ?_
              refine lv_iload_n hx hb dX11_verdict_91 rfl (lv_at hl 2 rfl) ?_
              refine j7_iald hx hb hK hh_20 hB171 1 rfl (by decide) hg_starts_21 (x := a1.toInt) (rfl) (by omega) dX11_verdict_92 (fun z_22 (hz_22 : 0 ≤ z_22.toInt ∧ z_22.toInt ≤ 1500) => ?_)
              rw [hQ]
              exact W.iret (v := z_22) hx hb hr (fun t ht hW => ⟨⟨z_22, (), rfl, trivial, hh_20.rt (M1 := []) [] rfl ht⟩, by rw [ht]; try exact hh_20.1.1, fun q h9 hq => by rw [ht]; try exact hh_20.1.2.1 q h9 hq⟩) hh_20.1.2.2 dX11_verdict_93
            · refine lv_tableIn (off := 47) (tgt := 94) hx hb dX11_verdict_47 (by omega) (by omega) (by rw [c_18]; rfl) (by decide) ?_
              refine lv_aload_n hx hb dX11_verdict_94 rfl (lv_at hl 1 rfl) ?_
              refine j7_read hx hb hown hK (C := RX11) (T := TX11) (N := 19) rfl hly_13_16 hlk_200 (hh_13.at 2 rfl) dX11_verdict_95 ?_
              obtain ⟨v_23, hv_23, hh_24⟩ := hh_13.pin (C := RX1) (T := TX1) (N := 17) hB3 rfl (by decide) hg_latest_3 (i := 6) (by decide) rfl
              clear hh_13
              obtain ⟨ends_25, rfl, hg_ends_25⟩ := hv_23
              refine j7_read hx hb hown hK (C := RX1) (T := TX1) (N := 17) rfl hly_3_6 hlk_185 (hh_24.at 0 rfl) dX11_verdict_98 ?_
              refine lv_iload_n hx hb dX11_verdict_101 rfl (lv_at hl 2 rfl) ?_
              refine j7_iald hx hb hK hh_24 hB172 1 rfl (by decide) hg_ends_25 (x := a1.toInt) (rfl) (by omega) dX11_verdict_102 (fun z_26 (hz_26 : 0 ≤ z_26.toInt ∧ z_26.toInt ≤ 1500) => ?_)
              rw [hQ]
              exact W.iret (v := z_26) hx hb hr (fun t ht hW => ⟨⟨z_26, (), rfl, trivial, hh_24.rt (M1 := []) [] rfl ht⟩, by rw [ht]; try exact hh_24.1.1, fun q h9 hq => by rw [ht]; try exact hh_24.1.2.1 q h9 hq⟩) hh_24.1.2.2 dX11_verdict_103
            · refine lv_tableIn (off := 57) (tgt := 104) hx hb dX11_verdict_47 (by omega) (by omega) (by rw [c_18]; rfl) (by decide) ?_
              refine lv_aload_n hx hb dX11_verdict_104 rfl (lv_at hl 0 rfl) ?_
              obtain ⟨v_27, hv_27, hh_28⟩ := hh_13.pin (C := RX9) (T := TX9) (N := 9) hB11 rfl (by decide) hg_el_15 (i := 2) (by decide) rfl
              clear hh_13
              obtain ⟨fault_29, rfl⟩ := hv_27
              refine j7_read hx hb hown hK (C := RX9) (T := TX9) (N := 9) rfl hly_11_2 hlk_188 (hh_28.at 0 rfl) dX11_verdict_105 ?_
              rw [hQ]
              exact W.iret (v := fault_29) hx hb hr (fun t ht hW => ⟨⟨fault_29, (), rfl, trivial, hh_28.rt (M1 := []) [] rfl ht⟩, by rw [ht]; try exact hh_28.1.1, fun q h9 hq => by rw [ht]; try exact hh_28.1.2.1 q h9 hq⟩) hh_28.1.2.2 dX11_verdict_108
            · refine lv_tableIn (off := 62) (tgt := 109) hx hb dX11_verdict_47 (by omega) (by omega) (by rw [c_18]; rfl) (by decide) ?_
              refine lv_aload_n hx hb dX11_verdict_109 rfl (lv_at hl 1 rfl) ?_
              refine j7_read hx hb hown hK (C := RX11) (T := TX11) (N := 19) rfl hly_13_16 hlk_200 (hh_13.at 2 rfl) dX11_verdict_110 ?_
              obtain ⟨v_30, hv_30, hh_31⟩ := hh_13.pin (C := RX1) (T := TX1) (N := 17) hB3 rfl (by decide) hg_latest_3 (i := 7) (by decide) rfl
              clear hh_13
              obtain ⟨costs_32, rfl, hg_costs_32⟩ := hv_30
              refine j7_read hx hb hown hK (C := RX1) (T := TX1) (N := 17) rfl hly_3_7 hlk_193 (hh_31.at 0 rfl) dX11_verdict_113 ?_
              refine lv_iload_n hx hb dX11_verdict_116 rfl (lv_at hl 2 rfl) ?_
              refine j7_iald hx hb hK hh_31 hB101 1 rfl (by decide) hg_costs_32 (x := a1.toInt) (rfl) (by omega) dX11_verdict_117 (fun z_33 (hz_33 : True) => ?_)
              rw [hQ]
              exact W.iret (v := z_33) hx hb hr (fun t ht hW => ⟨⟨z_33, (), rfl, trivial, hh_31.rt (M1 := []) [] rfl ht⟩, by rw [ht]; try exact hh_31.1.1, fun q h9 hq => by rw [ht]; try exact hh_31.1.2.1 q h9 hq⟩) hh_31.1.2.2 dX11_verdict_118
            · refine lv_tableIn (off := 72) (tgt := 119) hx hb dX11_verdict_47 (by omega) (by omega) (by rw [c_18]; rfl) (by decide) ?_
              refine lv_aload_n hx hb dX11_verdict_119 rfl (lv_at hl 0 rfl) ?_
              obtain ⟨v_34, hv_34, hh_35⟩ := hh_13.pin (C := RX9) (T := TX9) (N := 9) hB11 rfl (by decide) hg_el_15 (i := 6) (by decide) rfl
              clear hh_13
              obtain ⟨lemma_36, rfl⟩ := hv_34
              refine j7_read hx hb hown hK (C := RX9) (T := TX9) (N := 9) rfl hly_11_6 hlk_232 (hh_35.at 0 rfl) dX11_verdict_120 ?_
              refine lv_if_ge (tgt := 130) hx hb dX11_verdict_123 (by decide) (fun c_37 => ?_) (fun c_37 => ?_)
              · skip
                have c_37' : lemma_36.toInt ≥ 0 := jb_ge (rfl) ((by decide)) c_37
                refine lv_aload_n hx hb dX11_verdict_130 rfl (lv_at hl 0 rfl) ?_
                obtain ⟨v_38, hv_38, hh_39⟩ := hh_35.pin (C := RX9) (T := TX9) (N := 9) hB11 rfl (by decide) hg_el_15 (i := 8) (by decide) rfl
                clear hh_35
                obtain ⟨goals_40, ngoals_40, rfl, hg_goals_40, hn_goals_40⟩ := hv_38
                refine j7_read hx hb hown hK (C := RX9) (T := TX9) (N := 9) rfl hly_11_8 hlk_235 (hh_39.at 0 rfl) dX11_verdict_131 ?_
                refine j7_qlen hx hb hK2 hh_39 hB214 3 rfl (by decide) hg_goals_40 (by omega) dX11_verdict_134 (fun z_41 hz_41 => ?_)
                rw [hQ]
                exact W.iret (v := z_41) hx hb hr (fun t ht hW => ⟨⟨z_41, (), rfl, trivial, hh_39.rt (M1 := []) [] rfl ht⟩, by rw [ht]; try exact hh_39.1.1, fun q h9 hq => by rw [ht]; try exact hh_39.1.2.1 q h9 hq⟩) hh_39.1.2.2 dX11_verdict_135
              · skip
                have c_37' : lemma_36.toInt < 0 := jb_ge_n (rfl) ((by decide)) c_37
                refine lv_iconst (v := (-1)) hx hb dX11_verdict_126 (by decide) ?_
                refine lv_goto (tgt := 135) hx hb dX11_verdict_127 (by decide) ?_
                rw [hQ]
                exact W.iret (v := (-1)) hx hb hr (fun t ht hW => ⟨⟨(-1), (), rfl, trivial, hh_35.rt (M1 := []) [] rfl ht⟩, by rw [ht]; try exact hh_35.1.1, fun q h9 hq => by rw [ht]; try exact hh_35.1.2.1 q h9 hq⟩) hh_35.1.2.2 dX11_verdict_135
            · refine lv_tableIn (off := 89) (tgt := 136) hx hb dX11_verdict_47 (by omega) (by omega) (by rw [c_18]; rfl) (by decide) ?_
              refine lv_aload_n hx hb dX11_verdict_136 rfl (lv_at hl 0 rfl) ?_
              obtain ⟨v_42, hv_42, hh_43⟩ := hh_13.pin (C := RX9) (T := TX9) (N := 9) hB11 rfl (by decide) hg_el_15 (i := 4) (by decide) rfl
              clear hh_13
              obtain ⟨factNames_44, nfactNames_44, rfl, hg_factNames_44, hn_factNames_44⟩ := hv_42
              refine j7_read hx hb hown hK (C := RX9) (T := TX9) (N := 9) rfl hly_11_4 hlk_239 (hh_43.at 0 rfl) dX11_verdict_137 ?_
              refine j7_len hx hb hK hh_43 hB101 1 rfl (by decide) hg_factNames_44 (by omega) dX11_verdict_140 (fun z_45 hz_45 => ?_)
              rw [hQ]
              exact W.iret (v := z_45) hx hb hr (fun t ht hW => ⟨⟨z_45, (), rfl, trivial, hh_43.rt (M1 := []) [] rfl ht⟩, by rw [ht]; try exact hh_43.1.1, fun q h9 hq => by rw [ht]; try exact hh_43.1.2.1 q h9 hq⟩) hh_43.1.2.2 dX11_verdict_141
set_option maxHeartbeats 4000000 in
set_option maxRecDepth 20000 in
theorem uX8_hasIdOf (l : Launch) (dC : Nat → ClassId) (dI : Nat → Nat → Nat) (ca : Nat → ClassId) (base : Nat) (B : jF) (hB : jBok B) (hAp : jAp (dC, dI)) (hB2 : ∀ n G a H, B 2 n G a H ↔ jOb (dC, dI) 2 2 (F2 n G) a H) (hB10 : ∀ n G a H, B 10 n G a H ↔ jOb (dC, dI) 10 5 (F10 n G) a H) (hB196 : ∀ n G a H, B 196 n G a H ↔ jAr (dC, dI) (ca 0) (fun j z => jBf j z) n a H) (G0 : jT) (H0 : Heap) (r0 : Nat) (r1 : Nat) : Met l yX8_hasIdOf (jw yX8_hasIdOf cX8_hasIdOf 3 (some .boolean)) ({ frames := 0, cells := 0, slots := 0, locals := 0 }) (va_Pc [.ref r0, .ref r1] (fun U => U.heap = H0 ∧ jX B base G0 [] H0 ∧ jG dC dI ca base U ∧ G0 r1 = some (10, 0) ∧ G0 r0 = some (10, 0) ∧ jP (dC, dI) G0 H0 [] ∧ jIs (dC, dI) G0 H0 [(jFy, jYb dC dI G0)] ∧ True)) (va_Qi (S := Unit) (fun r u => (r = 0 ∨ r = 1) ∧ (True)) (fun u t => (jRt (dC, dI) B base G0 EX8_hasIdOf H0 [] t.heap) ∧ jIs (dC, dI) G0 t.heap [(jFy, jYb dC dI G0)]) (jA base)) 0 0 (jA base) := by
  refine Met.ofW (cc := cX8_hasIdOf) (maxL := 3) (ret := (some .boolean)) (by decide) rfl ?_
  intro p e s m args below meth c s₁ Bd hml hv
  obtain ⟨rfl, hH0, hX, hG, hg_r1, hg_r0, hP0, hI0, hp0⟩ := hv
  have hK := hG.1
  have hx := Bd.exec
  have hb := Bd.bytes
  have hr := Bd.returns
  have hts := atoms_spec (ws := (jw yX8_hasIdOf cX8_hasIdOf 3 (some .boolean))) Bd.pre
  have htw : ∀ w ∈ jWl, w.before _ s = true := fun w h => hts w (List.mem_cons_of_mem _ h)
  have hown : s.vm.findClass RX8 = some m.cls := findClass_of_methodNamed Bd.named
  have hlocks := Bd.notSynchronized
  obtain ⟨Q, hQ⟩ : ∃ Q, Q = MQ below (va_Qi (S := Unit) (fun r u => (r = 0 ∨ r = 1) ∧ (True)) (fun u t => (jRt (dC, dI) B base G0 EX8_hasIdOf H0 [] t.heap) ∧ jIs (dC, dI) G0 t.heap [(jFy, jYb dC dI G0)]) (jA base)) ([.ref r0, .ref r1] : List Value).toArray s 0 0 (jA base) := ⟨_, rfl⟩
  rw [← hQ]
  have hl := lv_entry ([.ref r0, .ref r1]) (n := 3) (Nat.le_of_ble_eq_true rfl)
  rw [lg_entry_eq]
  generalize (lg_sl ([.ref r0, .ref r1]) ++ List.replicate (3 - (lg_sl ([.ref r0, .ref r1])).length) Slot.unset).toArray = ls at hl ⊢
  have hl : lv_has ls 3 [(0, .ref r0), (1, .ref r1)] := hl
  generalize hR : (headSpec (jw yX8_hasIdOf cX8_hasIdOf 3 (some .boolean)) ({ frames := 0, cells := 0, slots := 0, locals := 0 })).room = R
  subst hH0
  have hh : jSt (dC, dI) B base G0 G0 EX8_hasIdOf s.heap 0 0 [] [] [(jFy, jYb dC dI G0)] s.heap [] := jSt.start hX hP0 jMc.nil hI0
  clear hX hP0
  have hk0 : (0 : Int32).toInt = 0 := by decide
  have hk1 : (1 : Int32).toInt = 1 := by decide
  have hly_2_0 := htw (u_lay RX0 TX0 0) (jWc_wsX00 _ (u_in_lay (by decide)))
  have hly_2_1 := htw (u_lay RX0 TX0 1) (jWc_wsX00 _ (u_in_lay (by decide)))
  have hly_10_0 := htw (u_lay RX8 TX8 0) (jWc_wsX80 _ (u_in_lay (by decide)))
  have hlk_29 := (htw (.fieldLink RX8 29 "ProofServer$Request" "id" "LProofServer$Bytes;") (jWr_24 _ (List.mem_of_getElem? (i := 4) rfl)))
  have hlk_59 := (htw (.fieldLink RX8 59 "ProofServer$Bytes" "count" "I") (jWr_44 _ (List.mem_of_getElem? (i := 3) rfl)))
  have hlk_62 := (htw (.fieldLink RX8 62 "ProofServer$Bytes" "row" "[B") (jWr_44 _ (List.mem_of_getElem? (i := 4) rfl)))
  refine lv_aload_n hx hb dX8_hasIdOf_0 rfl (lv_at hl 0 rfl) ?_
  obtain ⟨v_1, hv_1, hh_2⟩ := hh.pin (C := RX8) (T := TX8) (N := 5) hB10 rfl (by decide) hg_r0 (i := 0) (by decide) rfl
  clear hh
  rcases hv_1 with rfl | ⟨id_3, rfl, hg_id_3⟩
  · refine j7_read hx hb hown hK (C := RX8) (T := TX8) (N := 5) rfl hly_10_0 hlk_29 (hh_2.at 0 rfl) dX8_hasIdOf_1 ?_
    refine lv_ifnullN (tgt := 31) hx hb dX8_hasIdOf_4 (by decide) ?_
    refine lv_iconst (v := 0) hx hb dX8_hasIdOf_31 (by decide) ?_
    rw [hQ]
    exact W.zret (v := 0) hx hb hr (jb_nz (Or.inl rfl)) (fun t ht hW => ⟨⟨0, (), rfl, ⟨(Or.inl rfl), trivial⟩, ⟨hh_2.rt (M1 := []) [] rfl ht, by rw [ht]; exact hh_2.2.2.2.2.2.2.2.2.sub (L1 := [(jFy, jYb dC dI G0)]) [0] rfl⟩⟩, by rw [ht]; try exact hh_2.1.1, fun q h9 hq => by rw [ht]; try exact hh_2.1.2.1 q h9 hq⟩) hh_2.1.2.2 dX8_hasIdOf_32
  · refine j7_read hx hb hown hK (C := RX8) (T := TX8) (N := 5) rfl hly_10_0 hlk_29 (hh_2.at 0 rfl) dX8_hasIdOf_1 ?_
    refine lv_ifnull hx hb dX8_hasIdOf_4 ?_
    refine lv_aload_n hx hb dX8_hasIdOf_7 rfl (lv_at hl 1 rfl) ?_
    obtain ⟨v_4, hv_4, hh_5⟩ := hh_2.pin (C := RX8) (T := TX8) (N := 5) hB10 rfl (by decide) hg_r1 (i := 0) (by decide) rfl
    clear hh_2
    rcases hv_4 with rfl | ⟨id_6, rfl, hg_id_6⟩
    · refine j7_read hx hb hown hK (C := RX8) (T := TX8) (N := 5) rfl hly_10_0 hlk_29 (hh_5.at 0 rfl) dX8_hasIdOf_8 ?_
      refine lv_ifnullN (tgt := 31) hx hb dX8_hasIdOf_11 (by decide) ?_
      refine lv_iconst (v := 0) hx hb dX8_hasIdOf_31 (by decide) ?_
      rw [hQ]
      exact W.zret (v := 0) hx hb hr (jb_nz (Or.inl rfl)) (fun t ht hW => ⟨⟨0, (), rfl, ⟨(Or.inl rfl), trivial⟩, ⟨hh_5.rt (M1 := []) [] rfl ht, by rw [ht]; exact hh_5.2.2.2.2.2.2.2.2.sub (L1 := [(jFy, jYb dC dI G0)]) [0] rfl⟩⟩, by rw [ht]; try exact hh_5.1.1, fun q h9 hq => by rw [ht]; try exact hh_5.1.2.1 q h9 hq⟩) hh_5.1.2.2 dX8_hasIdOf_32
    · refine j7_read hx hb hown hK (C := RX8) (T := TX8) (N := 5) rfl hly_10_0 hlk_29 (hh_5.at 0 rfl) dX8_hasIdOf_8 ?_
      refine lv_ifnull hx hb dX8_hasIdOf_11 ?_
      obtain ⟨yc_7, yx_7, ym_7, hy1_7, hy2_7, hg_yx_7, hy4_7⟩ := (hh_5.iv 0 rfl) _ hg_id_3
      have hh_8 := hh_5.more (P1 := [(id_3, 2, 1, .int yc_7), (id_3, 2, 0, .ref yx_7)]) (jP.cons hg_id_3 hy1_7 (jP.cons hg_id_3 hy2_7 jP.nil))
      clear hh_5
      obtain ⟨yc_9, yx_9, ym_9, hy1_9, hy2_9, hg_yx_9, hy4_9⟩ := (hh_8.iv 0 rfl) _ hg_id_6
      have hh_10 := hh_8.more (P1 := [(id_6, 2, 1, .int yc_9), (id_6, 2, 0, .ref yx_9)]) (jP.cons hg_id_6 hy1_9 (jP.cons hg_id_6 hy2_9 jP.nil))
      clear hh_8
      refine lv_aload_n hx hb dX8_hasIdOf_14 rfl (lv_at hl 0 rfl) ?_
      refine j7_read hx hb hown hK (C := RX8) (T := TX8) (N := 5) rfl hly_10_0 hlk_29 (hh_10.at 5 rfl) dX8_hasIdOf_15 ?_
      refine j7_read hx hb hown hK (C := RX0) (T := TX0) (N := 2) rfl hly_2_1 hlk_59 (hh_10.at 2 rfl) dX8_hasIdOf_18 ?_
      refine lv_aload_n hx hb dX8_hasIdOf_21 rfl (lv_at hl 1 rfl) ?_
      refine j7_read hx hb hown hK (C := RX8) (T := TX8) (N := 5) rfl hly_10_0 hlk_29 (hh_10.at 4 rfl) dX8_hasIdOf_22 ?_
      refine j7_read hx hb hown hK (C := RX0) (T := TX0) (N := 2) rfl hly_2_1 hlk_59 (hh_10.at 0 rfl) dX8_hasIdOf_25 ?_
      refine lv_icmp_eq (tgt := 33) hx hb dX8_hasIdOf_28 (by decide) (fun c_11 => ?_) (fun c_11 => ?_)
      · skip
        have c_11' : yc_7.toInt = yc_9.toInt := jb_eq (rfl) (rfl) c_11
        refine lv_iconst (v := 0) hx hb dX8_hasIdOf_33 (by decide) ?_
        refine lv_istore_n (lv' := [(2, .int 0), (0, .ref r0), (1, .ref r1)]) hx hb dX8_hasIdOf_34 rfl hl (by decide) rfl (fun ls hl => ?_)
        have L35 : ∀ (N : Nat) (v2_12 : Int32) (H_12 : Heap) (locs_12 : List Loc), jSt (dC, dI) B base G0 G0 EX8_hasIdOf s.heap 0 0 [(id_6, 2, 1, .int yc_9), (id_6, 2, 0, .ref yx_9), (id_3, 2, 1, .int yc_7), (id_3, 2, 0, .ref yx_7), (r1, 10, 0, .ref id_6), (r0, 10, 0, .ref id_3)] [] [(jFy, jYb dC dI G0)] H_12 locs_12 → (0 ≤ v2_12.toInt ∧ v2_12.toInt ≤ 1048576) → (1048577 - v2_12.toInt : Int) < N → ∀ ls : Array Slot, lv_has ls 3 [(0, .ref r0), (1, .ref r1), (2, .int v2_12)] → W p l e R s m ([.ref r0, .ref r1] : List Value).toArray below meth c H_12 locs_12 0 0 Q (F0 m 35 ls []) := by
          intro N
          induction N with
          | zero => intro v2_12 H_12 locs_12 hh_12  hi_12 hm; exact absurd hm (by omega)
          | succ N L35 =>
            intro v2_12 H_12 locs_12 hh_12  hi_12 hm_12 ls hl
            obtain ⟨hi_12_0, hi_12_1⟩ := hi_12
            refine lv_iload_n hx hb dX8_hasIdOf_35 rfl (lv_at hl 2 rfl) ?_
            refine lv_aload_n hx hb dX8_hasIdOf_36 rfl (lv_at hl 0 rfl) ?_
            refine j7_read hx hb hown hK (C := RX8) (T := TX8) (N := 5) rfl hly_10_0 hlk_29 (hh_12.at 5 rfl) dX8_hasIdOf_37 ?_
            refine j7_read hx hb hown hK (C := RX0) (T := TX0) (N := 2) rfl hly_2_1 hlk_59 (hh_12.at 2 rfl) dX8_hasIdOf_40 ?_
            refine lv_icmp_ge (tgt := 75) hx hb dX8_hasIdOf_43 (by decide) (fun c_13 => ?_) (fun c_13 => ?_)
            · skip
              have c_13' : v2_12.toInt ≥ yc_7.toInt := jb_ge (rfl) (rfl) c_13
              refine lv_iconst (v := 1) hx hb dX8_hasIdOf_75 (by decide) ?_
              rw [hQ]
              exact W.zret (v := 1) hx hb hr (jb_nz (Or.inr rfl)) (fun t ht hW => ⟨⟨1, (), rfl, ⟨(Or.inr rfl), trivial⟩, ⟨hh_12.rt (M1 := []) [] rfl ht, by rw [ht]; exact hh_12.2.2.2.2.2.2.2.2.sub (L1 := [(jFy, jYb dC dI G0)]) [0] rfl⟩⟩, by rw [ht]; try exact hh_12.1.1, fun q h9 hq => by rw [ht]; try exact hh_12.1.2.1 q h9 hq⟩) hh_12.1.2.2 dX8_hasIdOf_76
            · skip
              have c_13' : v2_12.toInt < yc_7.toInt := jb_ge_n (rfl) (rfl) c_13
              refine lv_aload_n hx hb dX8_hasIdOf_46 rfl (lv_at hl 0 rfl) ?_
              refine j7_read hx hb hown hK (C := RX8) (T := TX8) (N := 5) rfl hly_10_0 hlk_29 (hh_12.at 5 rfl) dX8_hasIdOf_47 ?_
              refine j7_read hx hb hown hK (C := RX0) (T := TX0) (N := 2) rfl hly_2_0 hlk_62 (hh_12.at 3 rfl) dX8_hasIdOf_50 ?_
              refine lv_iload_n hx hb dX8_hasIdOf_53 rfl (lv_at hl 2 rfl) ?_
              refine j7_bald hx hb hK hh_12 hB196 0 rfl (by decide) hg_yx_7 (x := v2_12.toInt) (rfl) (by omega) dX8_hasIdOf_54 (fun z_14 (hz_14 : jBf (v2_12.toInt).toNat z_14) => ?_)
              refine lv_aload_n hx hb dX8_hasIdOf_55 rfl (lv_at hl 1 rfl) ?_
              refine j7_read hx hb hown hK (C := RX8) (T := TX8) (N := 5) rfl hly_10_0 hlk_29 (hh_12.at 4 rfl) dX8_hasIdOf_56 ?_
              refine j7_read hx hb hown hK (C := RX0) (T := TX0) (N := 2) rfl hly_2_0 hlk_62 (hh_12.at 1 rfl) dX8_hasIdOf_59 ?_
              refine lv_iload_n hx hb dX8_hasIdOf_62 rfl (lv_at hl 2 rfl) ?_
              refine j7_bald hx hb hK hh_12 hB196 0 rfl (by decide) hg_yx_9 (x := v2_12.toInt) (rfl) (by omega) dX8_hasIdOf_63 (fun z_15 (hz_15 : jBf (v2_12.toInt).toNat z_15) => ?_)
              refine lv_icmp_eq (tgt := 69) hx hb dX8_hasIdOf_64 (by decide) (fun c_16 => ?_) (fun c_16 => ?_)
              · skip
                have c_16' : z_14.toInt = z_15.toInt := jb_eq (rfl) (rfl) c_16
                obtain ⟨z_17, ez_17⟩ : ∃ y : Int32, y = v2_12 + 1 := ⟨_, rfl⟩
                refine lv_iinc (v := z_17) (lv' := [(2, .int z_17), (0, .ref r0), (1, .ref r1)]) hx hb dX8_hasIdOf_69 hl (k := 2) rfl (by rw [ez_17]; rfl) (by decide) rfl (fun ls hl => ?_)
                have hz_17 : z_17.toInt = v2_12.toInt + 1 := by rw [ez_17]; exact jb_iadd2 (rfl) (by decide) (by omega)
                refine lv_goto (tgt := 35) hx hb dX8_hasIdOf_72 (by decide) ?_
                exact L35 z_17 _ _ hh_12 (by first | omega | (refine ⟨?_, ?_⟩ <;> (first | omega | rfl | assumption | decide | exact Or.inl rfl | exact Or.inr rfl | (simp only; omega)))) (by omega) _ (lv_sub hl [1, 2, 0] rfl)
              · skip
                have c_16' : z_14.toInt ≠ z_15.toInt := jb_eq_n (rfl) (rfl) c_16
                refine lv_iconst (v := 0) hx hb dX8_hasIdOf_67 (by decide) ?_
                rw [hQ]
                exact W.zret (v := 0) hx hb hr (jb_nz (Or.inl rfl)) (fun t ht hW => ⟨⟨0, (), rfl, ⟨(Or.inl rfl), trivial⟩, ⟨hh_12.rt (M1 := []) [] rfl ht, by rw [ht]; exact hh_12.2.2.2.2.2.2.2.2.sub (L1 := [(jFy, jYb dC dI G0)]) [0] rfl⟩⟩, by rw [ht]; try exact hh_12.1.1, fun q h9 hq => by rw [ht]; try exact hh_12.1.2.1 q h9 hq⟩) hh_12.1.2.2 dX8_hasIdOf_68
        exact L35 (1048577 - (0 : Int32).toInt : Int).toNat.succ 0 _ _ hh_10 (by first | omega | (refine ⟨?_, ?_⟩ <;> (first | omega | rfl | assumption | decide | exact Or.inl rfl | exact Or.inr rfl | (simp only; omega)))) (by omega) _ (lv_sub hl [1, 2, 0] rfl)
      · skip
        have c_11' : yc_7.toInt ≠ yc_9.toInt := jb_eq_n (rfl) (rfl) c_11
        refine lv_iconst (v := 0) hx hb dX8_hasIdOf_31 (by decide) ?_
        rw [hQ]
        exact W.zret (v := 0) hx hb hr (jb_nz (Or.inl rfl)) (fun t ht hW => ⟨⟨0, (), rfl, ⟨(Or.inl rfl), trivial⟩, ⟨hh_10.rt (M1 := []) [] rfl ht, by rw [ht]; exact hh_10.2.2.2.2.2.2.2.2.sub (L1 := [(jFy, jYb dC dI G0)]) [0] rfl⟩⟩, by rw [ht]; try exact hh_10.1.1, fun q h9 hq => by rw [ht]; try exact hh_10.1.2.1 q h9 hq⟩) hh_10.1.2.2 dX8_hasIdOf_32
end
