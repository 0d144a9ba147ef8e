section
theorem dX11_out_0 : decode cX11_out 0 = .ok (.iload_n 1, 1) := by decide +kernel
theorem dX11_out_1 : decode cX11_out 1 = .ok (.ifCond .lt 14, 3) := by decide +kernel
theorem dX11_out_4 : decode cX11_out 4 = .ok (.iload_n 1, 1) := by decide +kernel
theorem dX11_out_5 : decode cX11_out 5 = .ok (.aload_n 0, 1) := by decide +kernel
theorem dX11_out_6 : decode cX11_out 6 = .ok (.getfield 32, 3) := by decide +kernel
theorem dX11_out_9 : decode cX11_out 9 = .ok (.getfield 92, 3) := by decide +kernel
theorem dX11_out_12 : decode cX11_out 12 = .ok (.if_icmp .lt 7, 3) := by decide +kernel
theorem dX11_out_15 : decode cX11_out 15 = .ok (.iconst (-1), 1) := by decide +kernel
theorem dX11_out_16 : decode cX11_out 16 = .ok (.goto 16, 3) := by decide +kernel
theorem dX11_out_19 : decode cX11_out 19 = .ok (.aload_n 0, 1) := by decide +kernel
theorem dX11_out_20 : decode cX11_out 20 = .ok (.getfield 32, 3) := by decide +kernel
theorem dX11_out_23 : decode cX11_out 23 = .ok (.getfield 98, 3) := by decide +kernel
theorem dX11_out_26 : decode cX11_out 26 = .ok (.iload_n 1, 1) := by decide +kernel
theorem dX11_out_27 : decode cX11_out 27 = .ok (.baload, 1) := by decide +kernel
theorem dX11_out_28 : decode cX11_out 28 = .ok (.sipush 255, 3) := by decide +kernel
theorem dX11_out_31 : decode cX11_out 31 = .ok (.iand, 1) := by decide +kernel
theorem dX11_out_32 : decode cX11_out 32 = .ok (.ireturn, 1) := by decide +kernel
theorem dX11_verdict_0 : decode cX11_verdict 0 = .ok (.aload_n 0, 1) := by decide +kernel
theorem dX11_verdict_1 : decode cX11_verdict 1 = .ok (.getfield 200, 3) := by decide +kernel
theorem dX11_verdict_4 : decode cX11_verdict 4 = .ok (.ifnull 30, 3) := by decide +kernel
theorem dX11_verdict_7 : decode cX11_verdict 7 = .ok (.iload_n 1, 1) := by decide +kernel
theorem dX11_verdict_8 : decode cX11_verdict 8 = .ok (.ifCond .lt 26, 3) := by decide +kernel
theorem dX11_verdict_11 : decode cX11_verdict 11 = .ok (.iload_n 1, 1) := by decide +kernel
theorem dX11_verdict_12 : decode cX11_verdict 12 = .ok (.aload_n 0, 1) := by decide +kernel
theorem dX11_verdict_13 : decode cX11_verdict 13 = .ok (.getfield 200, 3) := by decide +kernel
theorem dX11_verdict_16 : decode cX11_verdict 16 = .ok (.getfield 168, 3) := by decide +kernel
theorem dX11_verdict_19 : decode cX11_verdict 19 = .ok (.if_icmp .ge 15, 3) := by decide +kernel
theorem dX11_verdict_22 : decode cX11_verdict 22 = .ok (.aload_n 0, 1) := by decide +kernel
theorem dX11_verdict_23 : decode cX11_verdict 23 = .ok (.getfield 200, 3) := by decide +kernel
theorem dX11_verdict_26 : decode cX11_verdict 26 = .ok (.getfield 178, 3) := by decide +kernel
theorem dX11_verdict_29 : decode cX11_verdict 29 = .ok (.iload_n 1, 1) := by decide +kernel
theorem dX11_verdict_30 : decode cX11_verdict 30 = .ok (.aaload, 1) := by decide +kernel
theorem dX11_verdict_31 : decode cX11_verdict 31 = .ok (.ifnonnull 5, 3) := by decide +kernel
theorem dX11_verdict_34 : decode cX11_verdict 34 = .ok (.iconst (-1), 1) := by decide +kernel
theorem dX11_verdict_35 : decode cX11_verdict 35 = .ok (.ireturn, 1) := by decide +kernel
theorem dX11_verdict_36 : decode cX11_verdict 36 = .ok (.aload_n 0, 1) := by decide +kernel
theorem dX11_verdict_37 : decode cX11_verdict 37 = .ok (.getfield 200, 3) := by decide +kernel
theorem dX11_verdict_40 : decode cX11_verdict 40 = .ok (.getfield 178, 3) := by decide +kernel
theorem dX11_verdict_43 : decode cX11_verdict 43 = .ok (.iload_n 1, 1) := by decide +kernel
theorem dX11_verdict_44 : decode cX11_verdict 44 = .ok (.aaload, 1) := by decide +kernel
theorem dX11_verdict_45 : decode cX11_verdict 45 = .ok (.astore_n 3, 1) := by decide +kernel
theorem dX11_verdict_46 : decode cX11_verdict 46 = .ok (.iload_n 2, 1) := by decide +kernel
theorem dX11_verdict_47 : decode cX11_verdict 47 = .ok (.tableswitch 95 0 5 #[37, 47, 57, 62, 72, 89], 37) := by decide +kernel
theorem dX11_verdict_84 : decode cX11_verdict 84 = .ok (.aload_n 0, 1) := by decide +kernel
theorem dX11_verdict_85 : decode cX11_verdict 85 = .ok (.getfield 200, 3) := by decide +kernel
theorem dX11_verdict_88 : decode cX11_verdict 88 = .ok (.getfield 182, 3) := by decide +kernel
theorem dX11_verdict_91 : decode cX11_verdict 91 = .ok (.iload_n 1, 1) := by decide +kernel
theorem dX11_verdict_92 : decode cX11_verdict 92 = .ok (.iaload, 1) := by decide +kernel
theorem dX11_verdict_93 : decode cX11_verdict 93 = .ok (.ireturn, 1) := by decide +kernel
theorem dX11_verdict_94 : decode cX11_verdict 94 = .ok (.aload_n 0, 1) := by decide +kernel
theorem dX11_verdict_95 : decode cX11_verdict 95 = .ok (.getfield 200, 3) := by decide +kernel
theorem dX11_verdict_98 : decode cX11_verdict 98 = .ok (.getfield 185, 3) := by decide +kernel
theorem dX11_verdict_101 : decode cX11_verdict 101 = .ok (.iload_n 1, 1) := by decide +kernel
theorem dX11_verdict_102 : decode cX11_verdict 102 = .ok (.iaload, 1) := by decide +kernel
theorem dX11_verdict_103 : decode cX11_verdict 103 = .ok (.ireturn, 1) := by decide +kernel
theorem dX11_verdict_104 : decode cX11_verdict 104 = .ok (.aload_n 3, 1) := by decide +kernel
theorem dX11_verdict_105 : decode cX11_verdict 105 = .ok (.getfield 188, 3) := by decide +kernel
theorem dX11_verdict_108 : decode cX11_verdict 108 = .ok (.ireturn, 1) := by decide +kernel
theorem dX11_verdict_109 : decode cX11_verdict 109 = .ok (.aload_n 0, 1) := by decide +kernel
theorem dX11_verdict_110 : decode cX11_verdict 110 = .ok (.getfield 200, 3) := by decide +kernel
theorem dX11_verdict_113 : decode cX11_verdict 113 = .ok (.getfield 193, 3) := by decide +kernel
theorem dX11_verdict_116 : decode cX11_verdict 116 = .ok (.iload_n 1, 1) := by decide +kernel
theorem dX11_verdict_117 : decode cX11_verdict 117 = .ok (.iaload, 1) := by decide +kernel
theorem dX11_verdict_118 : decode cX11_verdict 118 = .ok (.ireturn, 1) := by decide +kernel
theorem dX11_verdict_119 : decode cX11_verdict 119 = .ok (.aload_n 3, 1) := by decide +kernel
theorem dX11_verdict_120 : decode cX11_verdict 120 = .ok (.getfield 232, 3) := by decide +kernel
theorem dX11_verdict_123 : decode cX11_verdict 123 = .ok (.ifCond .ge 7, 3) := by decide +kernel
theorem dX11_verdict_126 : decode cX11_verdict 126 = .ok (.iconst (-1), 1) := by decide +kernel
theorem dX11_verdict_127 : decode cX11_verdict 127 = .ok (.goto 8, 3) := by decide +kernel
theorem dX11_verdict_130 : decode cX11_verdict 130 = .ok (.aload_n 3, 1) := by decide +kernel
theorem dX11_verdict_131 : decode cX11_verdict 131 = .ok (.getfield 235, 3) := by decide +kernel
theorem dX11_verdict_134 : decode cX11_verdict 134 = .ok (.arraylength, 1) := by decide +kernel
theorem dX11_verdict_135 : decode cX11_verdict 135 = .ok (.ireturn, 1) := by decide +kernel
theorem dX11_verdict_136 : decode cX11_verdict 136 = .ok (.aload_n 3, 1) := by decide +kernel
theorem dX11_verdict_137 : decode cX11_verdict 137 = .ok (.getfield 239, 3) := by decide +kernel
theorem dX11_verdict_140 : decode cX11_verdict 140 = .ok (.arraylength, 1) := by decide +kernel
theorem dX11_verdict_141 : decode cX11_verdict 141 = .ok (.ireturn, 1) := by decide +kernel
theorem dX11_verdict_142 : decode cX11_verdict 142 = .ok (.iconst (-1), 1) := by decide +kernel
theorem dX11_verdict_143 : decode cX11_verdict 143 = .ok (.ireturn, 1) := by decide +kernel
def EX11_out : List (Nat × Nat) := []
def EX11_verdict : List (Nat × Nat) := []
set_option maxHeartbeats 4000000 in
set_option maxRecDepth 20000 in
theorem uX11_out (l : Launch) (dC : Nat → ClassId) (dI : Nat → Nat → Nat) (ca : Nat → ClassId) (base : Nat) (B : jF) (hB : jBok B) (hAp : jAp (dC, dI)) (hB2 : ∀ n G a H, B 2 n G a H ↔ jOb (dC, dI) 2 2 (F2 n G) a H) (hB13 : ∀ n G a H, B 13 n G a H ↔ jOb (dC, dI) 13 19 (F13 n G) a H) (hB17 : ∀ n G a H, B 17 n G a H ↔ jOb (dC, dI) 17 2 (F17 n G) a H) (hB196 : ∀ n G a H, B 196 n G a H ↔ jAr (dC, dI) (ca 0) (fun j z => jBf j z) n a H) (hB199 : ∀ n G a H, B 199 n G a H ↔ jAr (dC, dI) (ca 0) (fun j z => jBf j z) n a H) (G0 : jT) (H0 : Heap) (r0 : Nat) (a1 : Int32) : Met l yX11_out (jw yX11_out cX11_out 2 (some .int)) ({ frames := 0, cells := 0, slots := 0, locals := 0 }) (va_Pc [.ref r0, .int a1] (fun U => U.heap = H0 ∧ jX B base G0 [] H0 ∧ jG dC dI ca base U ∧ G0 r0 = some (13, 0) ∧ jP (dC, dI) G0 H0 [] ∧ True)) (va_Qi (S := Unit) (fun r u => (True)) (fun u t => jRt (dC, dI) B base G0 EX11_out H0 [] t.heap) (jA base)) 0 0 (jA base) := by
  refine Met.ofW (cc := cX11_out) (maxL := 2) (ret := (some .int)) (by decide) rfl ?_
  intro p e s m args below meth c s₁ Bd hml hv
  obtain ⟨rfl, hH0, hX, hG, hg_r0, hP0, hp0⟩ := hv
  have hK := hG.1
  have hx := Bd.exec
  have hb := Bd.bytes
  have hr := Bd.returns
  have hts := atoms_spec (ws := (jw yX11_out cX11_out 2 (some .int))) Bd.pre
  have htw : ∀ w ∈ jWl, w.before _ s = true := fun w h => hts w (List.mem_cons_of_mem _ h)
  have hown : s.vm.findClass RX11 = some m.cls := findClass_of_methodNamed Bd.named
  have hlocks := Bd.notSynchronized
  obtain ⟨Q, hQ⟩ : ∃ Q, Q = MQ below (va_Qi (S := Unit) (fun r u => (True)) (fun u t => jRt (dC, dI) B base G0 EX11_out H0 [] t.heap) (jA base)) ([.ref r0, .int a1] : List Value).toArray s 0 0 (jA base) := ⟨_, rfl⟩
  rw [← hQ]
  have hl := lv_entry ([.ref r0, .int a1]) (n := 2) (Nat.le_of_ble_eq_true rfl)
  rw [lg_entry_eq]
  generalize (lg_sl ([.ref r0, .int a1]) ++ List.replicate (2 - (lg_sl ([.ref r0, .int a1])).length) Slot.unset).toArray = ls at hl ⊢
  have hl : lv_has ls 2 [(0, .ref r0), (1, .int a1)] := hl
  generalize hR : (headSpec (jw yX11_out cX11_out 2 (some .int)) ({ frames := 0, cells := 0, slots := 0, locals := 0 })).room = R
  subst hH0
  have hh : jSt (dC, dI) B base G0 G0 EX11_out s.heap 0 0 [] [] [] s.heap [] := jSt.start hX hP0 jMc.nil jIs.nil
  clear hX hP0
  have hkm1 : ((-1) : Int32).toInt = (-1) := by decide
  have hk0 : (0 : Int32).toInt = 0 := by decide
  have hk1 : (1 : Int32).toInt = 1 := by decide
  have hk255 : (255 : Int32).toInt = 255 := by decide
  have hly_2_0 := htw (u_lay RX0 TX0 0) (jWc_wsX00 _ (u_in_lay (by decide)))
  have hly_2_1 := htw (u_lay RX0 TX0 1) (jWc_wsX00 _ (u_in_lay (by decide)))
  have hly_13_3 := htw (u_lay RX11 TX11 3) (jWc_wsX110 _ (u_in_lay (by decide)))
  have hlk_32 := (htw (.fieldLink RX11 32 "ProofServer" "output" "LProofServer$Bytes;") (jWr_2 _ (List.mem_of_getElem? (i := 0) rfl)))
  have hlk_92 := (htw (.fieldLink RX11 92 "ProofServer$Bytes" "count" "I") (jWr_15 _ (List.mem_of_getElem? (i := 18) rfl)))
  have hlk_98 := (htw (.fieldLink RX11 98 "ProofServer$Bytes" "row" "[B") (jWr_17 _ (List.mem_of_getElem? (i := 7) rfl)))
  have hrg_a1 := jb_rng a1
  refine lv_iload_n hx hb dX11_out_0 rfl (lv_at hl 1 rfl) ?_
  refine lv_if_lt (tgt := 15) hx hb dX11_out_1 (by decide) (fun c_1 => ?_) (fun c_1 => ?_)
  · skip
    have c_1' : a1.toInt < 0 := jb_lt (rfl) ((by decide)) c_1
    refine lv_iconst (v := (-1)) hx hb dX11_out_15 (by decide) ?_
    refine lv_goto (tgt := 32) hx hb dX11_out_16 (by decide) ?_
    rw [hQ]
    exact W.iret (v := (-1)) hx hb hr (fun t ht hW => ⟨⟨(-1), (), rfl, trivial, hh.rt (M1 := []) [] rfl ht⟩, by rw [ht]; try exact hh.1.1, fun q h9 hq => by rw [ht]; try exact hh.1.2.1 q h9 hq⟩) hh.1.2.2 dX11_out_32
  · skip
    have c_1' : a1.toInt ≥ 0 := jb_lt_n (rfl) ((by decide)) c_1
    refine lv_iload_n hx hb dX11_out_4 rfl (lv_at hl 1 rfl) ?_
    refine lv_aload_n hx hb dX11_out_5 rfl (lv_at hl 0 rfl) ?_
    obtain ⟨v_2, hv_2, hh_3⟩ := hh.pin (C := RX11) (T := TX11) (N := 19) hB13 rfl (by decide) hg_r0 (i := 3) (by decide) rfl
    clear hh
    obtain ⟨output_4, rfl, hg_output_4⟩ := hv_2
    refine j7_read hx hb hown hK (C := RX11) (T := TX11) (N := 19) rfl hly_13_3 hlk_32 (hh_3.at 0 rfl) dX11_out_6 ?_
    obtain ⟨v_5, hv_5, hh_6⟩ := hh_3.pin (C := RX0) (T := TX0) (N := 2) hB2 rfl (by decide) hg_output_4 (i := 1) (by decide) rfl
    clear hh_3
    obtain ⟨count_7, rfl, hlocount_7, hhicount_7, hfxcount_7⟩ := hv_5
    refine j7_read hx hb hown hK (C := RX0) (T := TX0) (N := 2) rfl hly_2_1 hlk_92 (hh_6.at 0 rfl) dX11_out_9 ?_
    refine lv_icmp_lt (tgt := 19) hx hb dX11_out_12 (by decide) (fun c_8 => ?_) (fun c_8 => ?_)
    · skip
      have c_8' : a1.toInt < count_7.toInt := jb_lt (rfl) (rfl) c_8
      refine lv_aload_n hx hb dX11_out_19 rfl (lv_at hl 0 rfl) ?_
      refine j7_read hx hb hown hK (C := RX11) (T := TX11) (N := 19) rfl hly_13_3 hlk_32 (hh_6.at 1 rfl) dX11_out_20 ?_
      obtain ⟨v_9, hv_9, hh_10⟩ := hh_6.pin (C := RX0) (T := TX0) (N := 2) hB2 rfl (by decide) hg_output_4 (i := 0) (by decide) rfl
      clear hh_6
      obtain ⟨row_11, nrow_11, rfl, hg_row_11, hlorow_11, hhirow_11, hpwrow_11, hfxrow_11⟩ := jBr.k6 (by decide) hv_9
      refine j7_read hx hb hown hK (C := RX0) (T := TX0) (N := 2) rfl hly_2_0 hlk_98 (hh_10.at 0 rfl) dX11_out_23 ?_
      refine lv_iload_n hx hb dX11_out_26 rfl (lv_at hl 1 rfl) ?_
      refine j7_bald hx hb hK hh_10 hB196 0 rfl (by decide) hg_row_11 (x := a1.toInt) (rfl) (by omega) dX11_out_27 (fun z_12 (hz_12 : jBf (a1.toInt).toNat z_12) => ?_)
      refine lv_sipush (v := 255) hx hb dX11_out_28 (by decide) ?_
      refine lv_iand hx hb dX11_out_31 ?_
      refine lv_topi (fun z_13 ez_13 => ?_)
      have hz_13 : 0 ≤ z_13.toInt ∧ z_13.toInt ≤ 255 := by rw [ez_13]; exact jb_and z_12 (m := 255) (k := 8) (by decide) (by decide)
      rw [hQ]
      exact W.iret (v := z_13) hx hb hr (fun t ht hW => ⟨⟨z_13, (), rfl, trivial, hh_10.rt (M1 := []) [] rfl ht⟩, by rw [ht]; try exact hh_10.1.1, fun q h9 hq => by rw [ht]; try exact hh_10.1.2.1 q h9 hq⟩) hh_10.1.2.2 dX11_out_32
    · skip
      have c_8' : a1.toInt ≥ count_7.toInt := jb_lt_n (rfl) (rfl) c_8
      refine lv_iconst (v := (-1)) hx hb dX11_out_15 (by decide) ?_
      refine lv_goto (tgt := 32) hx hb dX11_out_16 (by decide) ?_
      rw [hQ]
      exact W.iret (v := (-1)) hx hb hr (fun t ht hW => ⟨⟨(-1), (), rfl, trivial, hh_6.rt (M1 := []) [] rfl ht⟩, by rw [ht]; try exact hh_6.1.1, fun q h9 hq => by rw [ht]; try exact hh_6.1.2.1 q h9 hq⟩) hh_6.1.2.2 dX11_out_32
set_option maxHeartbeats 4000000 in
set_option maxRecDepth 20000 in
theorem uX11_verdict (l : Launch) (dC : Nat → ClassId) (dI : Nat → Nat → Nat) (ca : Nat → ClassId) (base : Nat) (B : jF) (hB : jBok B) (hAp : jAp (dC, dI)) (hB3 : ∀ n G a H, B 3 n G a H ↔ jOb (dC, dI) 3 17 (F3 n G) a H) (hB5 : ∀ n G a H, B 5 n G a H ↔ jOb (dC, dI) 5 4 (F5 n G) a H) (hB11 : ∀ n G a H, B 11 n G a H ↔ jOb (dC, dI) 11 9 (F11 n G) a H) (hB13 : ∀ n G a H, B 13 n G a H ↔ jOb (dC, dI) 13 19 (F13 n G) a H) (hB101 : ∀ n G a H, B 101 n G a H ↔ jAr (dC, dI) (ca 1) (fun j z => True) n a H) (hB171 : ∀ n G a H, B 171 n G a H ↔ jAr (dC, dI) (ca 1) (fun j z => 0 ≤ z.toInt ∧ z.toInt ≤ 1500) n a H) (hB172 : ∀ n G a H, B 172 n G a H ↔ jAr (dC, dI) (ca 1) (fun j z => 0 ≤ z.toInt ∧ z.toInt ≤ 1500) n a H) (hB176 : ∀ n G a H, B 176 n G a H ↔ jAr (dC, dI) (ca 1) (fun j z => True) n a H) (hB210 : ∀ n G a H, B 210 n G a H ↔ jAq (dC, dI) (ca 6) (jQn 11 0) n G a H) (hB214 : ∀ n G a H, B 214 n G a H ↔ jAq (dC, dI) (ca 7) (jQg) n G a H) (G0 : jT) (H0 : Heap) (r0 : Nat) (a1 : Int32) (a2 : Int32) : Met l yX11_verdict (jw yX11_verdict cX11_verdict 4 (some .int)) ({ frames := 0, cells := 0, slots := 0, locals := 0 }) (va_Pc [.ref r0, .int a1, .int a2] (fun U => U.heap = H0 ∧ jX B base G0 [] H0 ∧ jG dC dI ca base U ∧ jK2 dC dI ca U ∧ G0 r0 = some (13, 0) ∧ jP (dC, dI) G0 H0 [] ∧ True)) (va_Qi (S := Unit) (fun r u => (True)) (fun u t => jRt (dC, dI) B base G0 EX11_verdict H0 [] t.heap) (jA base)) 0 0 (jA base) := by
  refine Met.ofW (cc := cX11_verdict) (maxL := 4) (ret := (some .int)) (by decide) rfl ?_
  intro p e s m args below meth c s₁ Bd hml hv
  obtain ⟨rfl, hH0, hX, hG, hK2, hg_r0, hP0, hp0⟩ := hv
  have hK := hG.1
  have hx := Bd.exec
  have hb := Bd.bytes
  have hr := Bd.returns
  have hts := atoms_spec (ws := (jw yX11_verdict cX11_verdict 4 (some .int))) Bd.pre
  have htw : ∀ w ∈ jWl, w.before _ s = true := fun w h => hts w (List.mem_cons_of_mem _ h)
  have hown : s.vm.findClass RX11 = some m.cls := findClass_of_methodNamed Bd.named
  have hlocks := Bd.notSynchronized
  obtain ⟨Q, hQ⟩ : ∃ Q, Q = MQ below (va_Qi (S := Unit) (fun r u => (True)) (fun u t => jRt (dC, dI) B base G0 EX11_verdict H0 [] t.heap) (jA base)) ([.ref r0, .int a1, .int a2] : List Value).toArray s 0 0 (jA base) := ⟨_, rfl⟩
  rw [← hQ]
  have hl := lv_entry ([.ref r0, .int a1, .int a2]) (n := 4) (Nat.le_of_ble_eq_true rfl)
  rw [lg_entry_eq]
  generalize (lg_sl ([.ref r0, .int a1, .int a2]) ++ List.replicate (4 - (lg_sl ([.ref r0, .int a1, .int a2])).length) Slot.unset).toArray = ls at hl ⊢
  have hl : lv_has ls 4 [(0, .ref r0), (1, .int a1), (2, .int a2)] := hl
  generalize hR : (headSpec (jw yX11_verdict cX11_verdict 4 (some .int)) ({ frames := 0, cells := 0, slots := 0, locals := 0 })).room = R
  subst hH0
  have hh : jSt (dC, dI) B base G0 G0 EX11_verdict s.heap 0 0 [] [] [] s.heap [] := jSt.start hX hP0 jMc.nil jIs.nil
  clear hX hP0
  have hkm1 : ((-1) : Int32).toInt = (-1) := by decide
  have hk0 : (0 : Int32).toInt = 0 := by decide
  have hk1 : (1 : Int32).toInt = 1 := by decide
  have hly_3_4 := htw (u_lay RX1 TX1 4) (jWc_wsX10 _ (u_in_lay (by decide)))
  have hly_3_5 := htw (u_lay RX1 TX1 5) (jWc_wsX10 _ (u_in_lay (by decide)))
  have hly_3_6 := htw (u_lay RX1 TX1 6) (jWc_wsX10 _ (u_in_lay (by decide)))
  have hly_3_7 := htw (u_lay RX1 TX1 7) (jWc_wsX10 _ (u_in_lay (by decide)))
  have hly_3_9 := htw (u_lay RX1 TX1 9) (jWc_wsX10 _ (u_in_lay (by decide)))
  have hly_11_2 := htw (u_lay RX9 TX9 2) (jWc_wsX90 _ (u_in_lay (by decide)))
  have hly_11_4 := htw (u_lay RX9 TX9 4) (jWc_wsX90 _ (u_in_lay (by decide)))
  have hly_11_6 := htw (u_lay RX9 TX9 6) (jWc_wsX90 _ (u_in_lay (by decide)))
  have hly_11_8 := htw (u_lay RX9 TX9 8) (jWc_wsX90 _ (u_in_lay (by decide)))
  have hly_13_16 := htw (u_lay RX11 TX11 16) (jWc_wsX110 _ (u_in_lay (by decide)))
  have hlk_200 := (htw (.fieldLink RX11 200 "ProofServer" "latest" "LProofServer$Document;") (jWr_93 _ (List.mem_of_getElem? (i := 14) rfl)))
  have hlk_168 := (htw (.fieldLink RX11 168 "ProofServer$Document" "sentences" "I") (jWr_35 _ (List.mem_of_getElem? (i := 4) rfl)))
  have hlk_178 := (htw (.fieldLink RX11 178 "ProofServer$Document" "behind" "[LProofServer$State;") (jWr_39 _ (List.mem_of_getElem? (i := 23) rfl)))
  have hlk_182 := (htw (.fieldLink RX11 182 "ProofServer$Document" "starts" "[I") (jWr_40 _ (List.mem_of_getElem? (i := 13) rfl)))
  have hlk_185 := (htw (.fieldLink RX11 185 "ProofServer$Document" "ends" "[I") (jWr_40 _ (List.mem_of_getElem? (i := 14) rfl)))
  have hlk_188 := (htw (.fieldLink RX11 188 "ProofServer$State" "fault" "I") (jWr_40 _ (List.mem_of_getElem? (i := 0) rfl)))
  have hlk_193 := (htw (.fieldLink RX11 193 "ProofServer$Document" "costs" "[I") (jWr_77 _ (List.mem_of_getElem? (i := 16) rfl)))
  have hlk_232 := (htw (.fieldLink RX11 232 "ProofServer$State" "lemma" "I") (jWr_94 _ (List.mem_of_getElem? (i := 10) rfl)))
  have hlk_235 := (htw (.fieldLink RX11 235 "ProofServer$State" "goals" "[LProofServer$Goal;") (jWr_94 _ (List.mem_of_getElem? (i := 11) rfl)))
  have hlk_239 := (htw (.fieldLink RX11 239 "ProofServer$State" "factNames" "[I") (jWr_94 _ (List.mem_of_getElem? (i := 12) rfl)))
  have hrg_a1 := jb_rng a1
  have hrg_a2 := jb_rng a2
  refine lv_aload_n hx hb dX11_verdict_0 rfl (lv_at hl 0 rfl) ?_
  obtain ⟨v_1, hv_1, hh_2⟩ := hh.pin (C := RX11) (T := TX11) (N := 19) hB13 rfl (by decide) hg_r0 (i := 16) (by decide) rfl
  clear hh
  rcases hv_1 with rfl | ⟨latest_3, rfl, hg_latest_3⟩
  · refine j7_read hx hb hown hK (C := RX11) (T := TX11) (N := 19) rfl hly_13_16 hlk_200 (hh_2.at 0 rfl) dX11_verdict_1 ?_
    refine lv_ifnullN (tgt := 34) hx hb dX11_verdict_4 (by decide) ?_
    refine lv_iconst (v := (-1)) hx hb dX11_verdict_34 (by decide) ?_
    rw [hQ]
    exact W.iret (v := (-1)) hx hb hr (fun t ht hW => ⟨⟨(-1), (), rfl, trivial, hh_2.rt (M1 := []) [] rfl ht⟩, by rw [ht]; try exact hh_2.1.1, fun q h9 hq => by rw [ht]; try exact hh_2.1.2.1 q h9 hq⟩) hh_2.1.2.2 dX11_verdict_35
  · refine j7_read hx hb hown hK (C := RX11) (T := TX11) (N := 19) rfl hly_13_16 hlk_200 (hh_2.at 0 rfl) dX11_verdict_1 ?_
    refine lv_ifnull hx hb dX11_verdict_4 ?_
    refine lv_iload_n hx hb dX11_verdict_7 rfl (lv_at hl 1 rfl) ?_
    refine lv_if_lt (tgt := 34) hx hb dX11_verdict_8 (by decide) (fun c_4 => ?_) (fun c_4 => ?_)
    · skip
      have c_4' : a1.toInt < 0 := jb_lt (rfl) ((by decide)) c_4
      refine lv_iconst (v := (-1)) hx hb dX11_verdict_34 (by decide) ?_
      rw [hQ]
      exact W.iret (v := (-1)) hx hb hr (fun t ht hW => ⟨⟨(-1), (), rfl, trivial, hh_2.rt (M1 := []) [] rfl ht⟩, by rw [ht]; try exact hh_2.1.1, fun q h9 hq => by rw [ht]; try exact hh_2.1.2.1 q h9 hq⟩) hh_2.1.2.2 dX11_verdict_35
    · skip
      have c_4' : a1.toInt ≥ 0 := jb_lt_n (rfl) ((by decide)) c_4
      refine lv_iload_n hx hb dX11_verdict_11 rfl (lv_at hl 1 rfl) ?_
      refine lv_aload_n hx hb dX11_verdict_12 rfl (lv_at hl 0 rfl) ?_
      refine j7_read hx hb hown hK (C := RX11) (T := TX11) (N := 19) rfl hly_13_16 hlk_200 (hh_2.at 0 rfl) dX11_verdict_13 ?_
      obtain ⟨v_5, hv_5, hh_6⟩ := hh_2.pin (C := RX1) (T := TX1) (N := 17) hB3 rfl (by decide) hg_latest_3 (i := 4) (by decide) rfl
      clear hh_2
      obtain ⟨sentences_7, rfl, hlosentences_7, hhisentences_7⟩ := hv_5
      refine j7_read hx hb hown hK (C := RX1) (T := TX1) (N := 17) rfl hly_3_4 hlk_168 (hh_6.at 0 rfl) dX11_verdict_16 ?_
      refine lv_icmp_ge (tgt := 34) hx hb dX11_verdict_19 (by decide) (fun c_8 => ?_) (fun c_8 => ?_)
      · skip
        have c_8' : a1.toInt ≥ sentences_7.toInt := jb_ge (rfl) (rfl) c_8
        refine lv_iconst (v := (-1)) hx hb dX11_verdict_34 (by decide) ?_
        rw [hQ]
        exact W.iret (v := (-1)) hx hb hr (fun t ht hW => ⟨⟨(-1), (), rfl, trivial, hh_6.rt (M1 := []) [] rfl ht⟩, by rw [ht]; try exact hh_6.1.1, fun q h9 hq => by rw [ht]; try exact hh_6.1.2.1 q h9 hq⟩) hh_6.1.2.2 dX11_verdict_35
      · skip
        have c_8' : a1.toInt < sentences_7.toInt := jb_ge_n (rfl) (rfl) c_8
        obtain ⟨v_9, hv_9, hh_10⟩ := hh_6.pin (C := RX1) (T := TX1) (N := 17) hB3 rfl (by decide) hg_latest_3 (i := 9) (by decide) rfl
        obtain ⟨behind_11, rfl, hg_behind_11⟩ := hv_9
        obtain ⟨fq_12, hfq_12a, hfq_12p⟩ := hh_10.aq hB210 (by decide) hg_behind_11
        have hh_13 := hh_10.addI (jQc.ie hfq_12a hg_behind_11 (by decide) (by decide))
        clear hh_10
        refine lv_aload_n hx hb dX11_verdict_22 rfl (lv_at hl 0 rfl) ?_
        refine j7_read hx hb hown hK (C := RX11) (T := TX11) (N := 19) rfl hly_13_16 hlk_200 (hh_13.at 2 rfl) dX11_verdict_23 ?_
        refine j7_read hx hb hown hK (C := RX1) (T := TX1) (N := 17) rfl hly_3_9 hlk_178 (hh_13.at 0 rfl) dX11_verdict_26 ?_
        refine lv_iload_n hx hb dX11_verdict_29 rfl (lv_at hl 1 rfl) ?_
        refine j7_qaldI hx hb hK2 hh_13 hB210 2 rfl (by decide) hg_behind_11 (x := a1.toInt) (rfl) (by omega) (hh_13.iv 0 rfl) dX11_verdict_30 (fun o_14 ho_14 heo_14 => ?_)
        rcases ho_14 with rfl | ⟨el_15, rfl, hg_el_15⟩
        · simp only [va_rf]
          refine lv_ifnonnullN hx hb dX11_verdict_31 ?_
          refine lv_iconst (v := (-1)) hx hb dX11_verdict_34 (by decide) ?_
          rw [hQ]
          exact W.iret (v := (-1)) hx hb hr (fun t ht hW => ⟨⟨(-1), (), rfl, trivial, hh_13.rt (M1 := []) [] rfl ht⟩, by rw [ht]; try exact hh_13.1.1, fun q h9 hq => by rw [ht]; try exact hh_13.1.2.1 q h9 hq⟩) hh_13.1.2.2 dX11_verdict_35
        · simp only [va_rf]
          refine lv_ifnonnull (tgt := 36) hx hb dX11_verdict_31 (by decide) ?_
          refine lv_aload_n hx hb dX11_verdict_36 rfl (lv_at hl 0 rfl) ?_
          refine j7_read hx hb hown hK (C := RX11) (T := TX11) (N := 19) rfl hly_13_16 hlk_200 (hh_13.at 2 rfl) dX11_verdict_37 ?_
          refine j7_read hx hb hown hK (C := RX1) (T := TX1) (N := 17) rfl hly_3_9 hlk_178 (hh_13.at 0 rfl) dX11_verdict_40 ?_
          refine lv_iload_n hx hb dX11_verdict_43 rfl (lv_at hl 1 rfl) ?_
          refine j7_qaldI hx hb hK2 hh_13 hB210 2 rfl (by decide) hg_behind_11 (x := a1.toInt) (rfl) (by omega) (hh_13.iv 0 rfl) dX11_verdict_44 (fun o_16 ho_16 heo_16 => ?_)
          rcases ho_16 with rfl | ⟨el_17, rfl, hg_el_17⟩
          · simp only [va_rf]
            exact absurd (heo_16.trans heo_14.symm) (by simp)
          · simp only [va_rf]
            obtain rfl : el_15 = el_17 := (Option.some.inj (heo_16.trans heo_14.symm)).symm
            refine lv_astore_n (lv' := [(3, .ref el_15), (0, .ref r0), (1, .int a1), (2, .int a2)]) hx hb dX11_verdict_45 rfl hl (by decide) rfl (fun ls hl => ?_)
            refine lv_iload_n hx hb dX11_verdict_46 rfl (lv_at hl 3 rfl) ?_
            rcases (by omega : (a2.toInt < 0 ∨ 5 < a2.toInt) ∨ a2.toInt = 0 ∨ a2.toInt = 1 ∨ a2.toInt = 2 ∨ a2.toInt = 3 ∨ a2.toInt = 4 ∨ a2.toInt = 5) with c_18 | c_18 | c_18 | c_18 | c_18 | c_18 | c_18
            · refine lv_tableOut (tgt := 142) hx hb dX11_verdict_47 c_18 (by decide) ?_
              refine lv_iconst (v := (-1)) hx hb dX11_verdict_142 (by decide) ?_
              rw [hQ]
              exact W.iret (v := (-1)) hx hb hr (fun t ht hW => ⟨⟨(-1), (), rfl, trivial, hh_13.rt (M1 := []) [] rfl ht⟩, by rw [ht]; try exact hh_13.1.1, fun q h9 hq => by rw [ht]; try exact hh_13.1.2.1 q h9 hq⟩) hh_13.1.2.2 dX11_verdict_143
            · refine lv_tableIn (off := 37) (tgt := 84) hx hb dX11_verdict_47 (by omega) (by omega) (by rw [c_18]; rfl) (by decide) ?_
              refine lv_aload_n hx hb dX11_verdict_84 rfl (lv_at hl 1 rfl) ?_
              refine j7_read hx hb hown hK (C := RX11) (T := TX11) (N := 19) rfl hly_13_16 hlk_200 (hh_13.at 2 rfl) dX11_verdict_85 ?_
              obtain ⟨v_19, hv_19, hh_20⟩ := hh_13.pin (C := RX1) (T := TX1) (N := 17) hB3 rfl (by decide) hg_latest_3 (i := 5) (by decide) rfl
              clear hh_13
              obtain ⟨starts_21, rfl, hg_starts_21⟩ := hv_19
              refine j7_read hx hb hown hK (C := RX1) (T := TX1) (N := 17) rfl hly_3_5 hlk_182 (hh_20.at 0 rfl) dX11_verdict_88 ?_
              refine lv_iload_n hx hb dX11_verdict_91 rfl (lv_at hl 2 rfl) ?_
              refine j7_iald hx hb hK hh_20 hB171 1 rfl (by decide) hg_starts_21 (x := a1.toInt) (rfl) (by omega) dX11_verdict_92 (fun z_22 (hz_22 : 0 ≤ z_22.toInt ∧ z_22.toInt ≤ 1500) => ?_)
              rw [hQ]
              exact W.iret (v := z_22) hx hb hr (fun t ht hW => ⟨⟨z_22, (), rfl, trivial, hh_20.rt (M1 := []) [] rfl ht⟩, by rw [ht]; try exact hh_20.1.1, fun q h9 hq => by rw [ht]; try exact hh_20.1.2.1 q h9 hq⟩) hh_20.1.2.2 dX11_verdict_93
            · refine lv_tableIn (off := 47) (tgt := 94) hx hb dX11_verdict_47 (by omega) (by omega) (by rw [c_18]; rfl) (by decide) ?_
              refine lv_aload_n hx hb dX11_verdict_94 rfl (lv_at hl 1 rfl) ?_
              refine j7_read hx hb hown hK (C := RX11) (T := TX11) (N := 19) rfl hly_13_16 hlk_200 (hh_13.at 2 rfl) dX11_verdict_95 ?_
              obtain ⟨v_23, hv_23, hh_24⟩ := hh_13.pin (C := RX1) (T := TX1) (N := 17) hB3 rfl (by decide) hg_latest_3 (i := 6) (by decide) rfl
              clear hh_13
              obtain ⟨ends_25, rfl, hg_ends_25⟩ := hv_23
              refine j7_read hx hb hown hK (C := RX1) (T := TX1) (N := 17) rfl hly_3_6 hlk_185 (hh_24.at 0 rfl) dX11_verdict_98 ?_
              refine lv_iload_n hx hb dX11_verdict_101 rfl (lv_at hl 2 rfl) ?_
              refine j7_iald hx hb hK hh_24 hB172 1 rfl (by decide) hg_ends_25 (x := a1.toInt) (rfl) (by omega) dX11_verdict_102 (fun z_26 (hz_26 : 0 ≤ z_26.toInt ∧ z_26.toInt ≤ 1500) => ?_)
              rw [hQ]
              exact W.iret (v := z_26) hx hb hr (fun t ht hW => ⟨⟨z_26, (), rfl, trivial, hh_24.rt (M1 := []) [] rfl ht⟩, by rw [ht]; try exact hh_24.1.1, fun q h9 hq => by rw [ht]; try exact hh_24.1.2.1 q h9 hq⟩) hh_24.1.2.2 dX11_verdict_103
            · refine lv_tableIn (off := 57) (tgt := 104) hx hb dX11_verdict_47 (by omega) (by omega) (by rw [c_18]; rfl) (by decide) ?_
              refine lv_aload_n hx hb dX11_verdict_104 rfl (lv_at hl 0 rfl) ?_
              obtain ⟨v_27, hv_27, hh_28⟩ := hh_13.pin (C := RX9) (T := TX9) (N := 9) hB11 rfl (by decide) hg_el_15 (i := 2) (by decide) rfl
              clear hh_13
              obtain ⟨fault_29, rfl⟩ := hv_27
              refine j7_read hx hb hown hK (C := RX9) (T := TX9) (N := 9) rfl hly_11_2 hlk_188 (hh_28.at 0 rfl) dX11_verdict_105 ?_
              rw [hQ]
              exact W.iret (v := fault_29) hx hb hr (fun t ht hW => ⟨⟨fault_29, (), rfl, trivial, hh_28.rt (M1 := []) [] rfl ht⟩, by rw [ht]; try exact hh_28.1.1, fun q h9 hq => by rw [ht]; try exact hh_28.1.2.1 q h9 hq⟩) hh_28.1.2.2 dX11_verdict_108
            · refine lv_tableIn (off := 62) (tgt := 109) hx hb dX11_verdict_47 (by omega) (by omega) (by rw [c_18]; rfl) (by decide) ?_
              refine lv_aload_n hx hb dX11_verdict_109 rfl (lv_at hl 1 rfl) ?_
              refine j7_read hx hb hown hK (C := RX11) (T := TX11) (N := 19) rfl hly_13_16 hlk_200 (hh_13.at 2 rfl) dX11_verdict_110 ?_
              obtain ⟨v_30, hv_30, hh_31⟩ := hh_13.pin (C := RX1) (T := TX1) (N := 17) hB3 rfl (by decide) hg_latest_3 (i := 7) (by decide) rfl
              clear hh_13
              obtain ⟨costs_32, rfl, hg_costs_32⟩ := hv_30
              refine j7_read hx hb hown hK (C := RX1) (T := TX1) (N := 17) rfl hly_3_7 hlk_193 (hh_31.at 0 rfl) dX11_verdict_113 ?_
              refine lv_iload_n hx hb dX11_verdict_116 rfl (lv_at hl 2 rfl) ?_
              refine j7_iald hx hb hK hh_31 hB176 1 rfl (by decide) hg_costs_32 (x := a1.toInt) (rfl) (by omega) dX11_verdict_117 (fun z_33 (hz_33 : True) => ?_)
              rw [hQ]
              exact W.iret (v := z_33) hx hb hr (fun t ht hW => ⟨⟨z_33, (), rfl, trivial, hh_31.rt (M1 := []) [] rfl ht⟩, by rw [ht]; try exact hh_31.1.1, fun q h9 hq => by rw [ht]; try exact hh_31.1.2.1 q h9 hq⟩) hh_31.1.2.2 dX11_verdict_118
            · refine lv_tableIn (off := 72) (tgt := 119) hx hb dX11_verdict_47 (by omega) (by omega) (by rw [c_18]; rfl) (by decide) ?_
              refine lv_aload_n hx hb dX11_verdict_119 rfl (lv_at hl 0 rfl) ?_
              obtain ⟨v_34, hv_34, hh_35⟩ := hh_13.pin (C := RX9) (T := TX9) (N := 9) hB11 rfl (by decide) hg_el_15 (i := 6) (by decide) rfl
              clear hh_13
              obtain ⟨lemma_36, rfl⟩ := hv_34
              refine j7_read hx hb hown hK (C := RX9) (T := TX9) (N := 9) rfl hly_11_6 hlk_232 (hh_35.at 0 rfl) dX11_verdict_120 ?_
              refine lv_if_ge (tgt := 130) hx hb dX11_verdict_123 (by decide) (fun c_37 => ?_) (fun c_37 => ?_)
              · skip
                have c_37' : lemma_36.toInt ≥ 0 := jb_ge (rfl) ((by decide)) c_37
                refine lv_aload_n hx hb dX11_verdict_130 rfl (lv_at hl 0 rfl) ?_
                obtain ⟨v_38, hv_38, hh_39⟩ := hh_35.pin (C := RX9) (T := TX9) (N := 9) hB11 rfl (by decide) hg_el_15 (i := 8) (by decide) rfl
                clear hh_35
                obtain ⟨goals_40, ngoals_40, rfl, hg_goals_40, hn_goals_40⟩ := hv_38
                refine j7_read hx hb hown hK (C := RX9) (T := TX9) (N := 9) rfl hly_11_8 hlk_235 (hh_39.at 0 rfl) dX11_verdict_131 ?_
                refine j7_qlen hx hb hK2 hh_39 hB214 3 rfl (by decide) hg_goals_40 (by omega) dX11_verdict_134 (fun z_41 hz_41 => ?_)
                rw [hQ]
                exact W.iret (v := z_41) hx hb hr (fun t ht hW => ⟨⟨z_41, (), rfl, trivial, hh_39.rt (M1 := []) [] rfl ht⟩, by rw [ht]; try exact hh_39.1.1, fun q h9 hq => by rw [ht]; try exact hh_39.1.2.1 q h9 hq⟩) hh_39.1.2.2 dX11_verdict_135
              · skip
                have c_37' : lemma_36.toInt < 0 := jb_ge_n (rfl) ((by decide)) c_37
                refine lv_iconst (v := (-1)) hx hb dX11_verdict_126 (by decide) ?_
                refine lv_goto (tgt := 135) hx hb dX11_verdict_127 (by decide) ?_
                rw [hQ]
                exact W.iret (v := (-1)) hx hb hr (fun t ht hW => ⟨⟨(-1), (), rfl, trivial, hh_35.rt (M1 := []) [] rfl ht⟩, by rw [ht]; try exact hh_35.1.1, fun q h9 hq => by rw [ht]; try exact hh_35.1.2.1 q h9 hq⟩) hh_35.1.2.2 dX11_verdict_135
            · refine lv_tableIn (off := 89) (tgt := 136) hx hb dX11_verdict_47 (by omega) (by omega) (by rw [c_18]; rfl) (by decide) ?_
              refine lv_aload_n hx hb dX11_verdict_136 rfl (lv_at hl 0 rfl) ?_
              obtain ⟨v_42, hv_42, hh_43⟩ := hh_13.pin (C := RX9) (T := TX9) (N := 9) hB11 rfl (by decide) hg_el_15 (i := 4) (by decide) rfl
              clear hh_13
              obtain ⟨factNames_44, nfactNames_44, rfl, hg_factNames_44, hn_factNames_44⟩ := hv_42
              refine j7_read hx hb hown hK (C := RX9) (T := TX9) (N := 9) rfl hly_11_4 hlk_239 (hh_43.at 0 rfl) dX11_verdict_137 ?_
              refine j7_len hx hb hK hh_43 hB101 1 rfl (by decide) hg_factNames_44 (by omega) dX11_verdict_140 (fun z_45 hz_45 => ?_)
              rw [hQ]
              exact W.iret (v := z_45) hx hb hr (fun t ht hW => ⟨⟨z_45, (), rfl, trivial, hh_43.rt (M1 := []) [] rfl ht⟩, by rw [ht]; try exact hh_43.1.1, fun q h9 hq => by rw [ht]; try exact hh_43.1.2.1 q h9 hq⟩) hh_43.1.2.2 dX11_verdict_141
end
section
theorem dX11_take_0 : decode cX11_take 0 = .ok (.aload_n 0, 1) := by decide +kernel
theorem dX11_take_1 : decode cX11_take 1 = .ok (.getfield 32, 3) := by decide +kernel
theorem dX11_take_4 : decode cX11_take 4 = .ok (.getfield 92, 3) := by decide +kernel
theorem dX11_take_7 : decode cX11_take 7 = .ok (.istore_n 1, 1) := by decide +kernel
theorem dX11_take_8 : decode cX11_take 8 = .ok (.aload_n 0, 1) := by decide +kernel
theorem dX11_take_9 : decode cX11_take 9 = .ok (.getfield 32, 3) := by decide +kernel
theorem dX11_take_12 : decode cX11_take 12 = .ok (.iconst 0, 1) := by decide +kernel
theorem dX11_take_13 : decode cX11_take 13 = .ok (.putfield 92, 3) := by decide +kernel
theorem dX11_take_16 : decode cX11_take 16 = .ok (.iload_n 1, 1) := by decide +kernel
theorem dX11_take_17 : decode cX11_take 17 = .ok (.ireturn, 1) := by decide +kernel
def EX11_take : List (Nat × Nat) := [(2, 1)]
set_option maxHeartbeats 4000000 in
set_option maxRecDepth 20000 in
theorem uX11_take (l : Launch) (dC : Nat → ClassId) (dI : Nat → Nat → Nat) (ca : Nat → ClassId) (base : Nat) (B : jF) (hB : jBok B) (hAp : jAp (dC, dI)) (hB2 : ∀ n G a H, B 2 n G a H ↔ jOb (dC, dI) 2 2 (F2 n G) a H) (hB13 : ∀ n G a H, B 13 n G a H ↔ jOb (dC, dI) 13 19 (F13 n G) a H) (hB17 : ∀ n G a H, B 17 n G a H ↔ jOb (dC, dI) 17 2 (F17 n G) a H) (G0 : jT) (H0 : Heap) (r0 : Nat) (ou : Nat) : Met l yX11_take (jw yX11_take cX11_take 2 (some .int)) ({ frames := 0, cells := 0, slots := 0, locals := 0 }) (va_Pc [.ref r0] (fun U => U.heap = H0 ∧ jX B base G0 [] H0 ∧ jG dC dI ca base U ∧ G0 r0 = some (13, 0) ∧ G0 ou = some (2, 20000) ∧ jP (dC, dI) G0 H0 [(r0, 13, 3, .ref ou)] ∧ jIs (dC, dI) G0 H0 [(jFy, jYb dC dI G0)] ∧ True)) (va_Qi (S := Unit) (fun r u => (True)) (fun u t => ((jRt (dC, dI) B base G0 EX11_take H0 [] t.heap) ∧ jOl (dC, dI) G0 2 [ou] H0 t.heap) ∧ jIs (dC, dI) G0 t.heap [(jFy, jYb dC dI G0)]) (jA base)) 0 0 (jA base) := by
  refine Met.ofW (cc := cX11_take) (maxL := 2) (ret := (some .int)) (by decide) rfl ?_
  intro p e s m args below meth c s₁ Bd hml hv
  obtain ⟨rfl, hH0, hX, hG, hg_r0, hg_ou, hP0, hI0, hp0⟩ := hv
  have hK := hG.1
  have hx := Bd.exec
  have hb := Bd.bytes
  have hr := Bd.returns
  have hts := atoms_spec (ws := (jw yX11_take cX11_take 2 (some .int))) Bd.pre
  have htw : ∀ w ∈ jWl, w.before _ s = true := fun w h => hts w (List.mem_cons_of_mem _ h)
  have hown : s.vm.findClass RX11 = some m.cls := findClass_of_methodNamed Bd.named
  have hlocks := Bd.notSynchronized
  obtain ⟨Q, hQ⟩ : ∃ Q, Q = MQ below (va_Qi (S := Unit) (fun r u => (True)) (fun u t => ((jRt (dC, dI) B base G0 EX11_take H0 [] t.heap) ∧ jOl (dC, dI) G0 2 [ou] H0 t.heap) ∧ jIs (dC, dI) G0 t.heap [(jFy, jYb dC dI G0)]) (jA base)) ([.ref r0] : List Value).toArray s 0 0 (jA base) := ⟨_, rfl⟩
  rw [← hQ]
  have hl := lv_entry ([.ref r0]) (n := 2) (Nat.le_of_ble_eq_true rfl)
  rw [lg_entry_eq]
  generalize (lg_sl ([.ref r0]) ++ List.replicate (2 - (lg_sl ([.ref r0])).length) Slot.unset).toArray = ls at hl ⊢
  have hl : lv_has ls 2 [(0, .ref r0)] := hl
  generalize hR : (headSpec (jw yX11_take cX11_take 2 (some .int)) ({ frames := 0, cells := 0, slots := 0, locals := 0 })).room = R
  subst hH0
  have hh : jSt (dC, dI) B base G0 G0 EX11_take s.heap 0 0 [(r0, 13, 3, .ref ou)] [] [(jFy, jYb dC dI G0)] s.heap [] := jSt.start hX hP0 jMc.nil hI0
  clear hX hP0
  have hk0 : (0 : Int32).toInt = 0 := by decide
  have hk1 : (1 : Int32).toInt = 1 := by decide
  have hly_2_1 := htw (u_lay RX0 TX0 1) (jWc_wsX00 _ (u_in_lay (by decide)))
  have hly_13_3 := htw (u_lay RX11 TX11 3) (jWc_wsX110 _ (u_in_lay (by decide)))
  have hlk_32 := (htw (.fieldLink RX11 32 "ProofServer" "output" "LProofServer$Bytes;") (jWr_2 _ (List.mem_of_getElem? (i := 0) rfl)))
  have hlk_92 := (htw (.fieldLink RX11 92 "ProofServer$Bytes" "count" "I") (jWr_15 _ (List.mem_of_getElem? (i := 18) rfl)))
  have hh_1 := hh.addI (jOl.ie (dC := dC) (dI := dI) (G0 := G0) (k := 2) (rs := [ou]) (H0 := s.heap) (F := [(2, 0), (2, 1)]) (C := RX0) (T := TX0) (N := 2) rfl (by decide) hh.2.2.2.2.1 (jOl.rf))
  clear hh
  refine lv_aload_n hx hb dX11_take_0 rfl (lv_at hl 0 rfl) ?_
  refine j7_read hx hb hown hK (C := RX11) (T := TX11) (N := 19) rfl hly_13_3 hlk_32 (hh_1.at 0 rfl) dX11_take_1 ?_
  obtain ⟨v_2, hv_2, hh_3⟩ := hh_1.pin (C := RX0) (T := TX0) (N := 2) hB2 rfl (by decide) hg_ou (i := 1) (by decide) rfl
  clear hh_1
  obtain ⟨count_4, rfl, hlocount_4, hhicount_4, hfxcount_4⟩ := hv_2
  refine j7_read hx hb hown hK (C := RX0) (T := TX0) (N := 2) rfl hly_2_1 hlk_92 (hh_3.at 0 rfl) dX11_take_4 ?_
  refine lv_istore_n (lv' := [(1, .int count_4), (0, .ref r0)]) hx hb dX11_take_7 rfl hl (by decide) rfl (fun ls hl => ?_)
  refine lv_aload_n hx hb dX11_take_8 rfl (lv_at hl 1 rfl) ?_
  refine j7_read hx hb hown hK (C := RX11) (T := TX11) (N := 19) rfl hly_13_3 hlk_32 (hh_3.at 1 rfl) dX11_take_9 ?_
  refine lv_iconst (v := 0) hx hb dX11_take_12 (by decide) ?_
  have hd_6 := hh_3.iv 0 rfl
  have hd_7 := hh_3.iv 1 rfl
  have hh_8 := hh_3.sub (L1 := [(ou, 2, 1, .int count_4), (r0, 13, 3, .ref ou)]) [0, 1] rfl (M1 := []) [] rfl (I1 := []) [] rfl
  clear hh_3
  refine j7_putX hx hb hown hK hh_8 hB hAp hB2 (C := RX0) (T := TX0) (N := 2) rfl (by decide) hg_ou (i := 1) (by decide) hly_2_1 rfl hlk_92 rfl (ty := .int) (v := .int 0) (by decide +kernel) rfl rfl (⟨_, rfl, by omega, by omega, by omega⟩) rfl (L1 := [(r0, 13, 3, .ref ou)]) [1] rfl rfl rfl dX11_take_13 (fun H_5 locs_5 hr_5 hh_5 => ?_)
  clear hh_8
  have hd_7n := jYb.put hd_7 hr_5 hg_ou (fun h9 => by cases h9)
  have hd_6n := jOl.put hd_6 hr_5 (by simp)
  have hh_9 := hh_5.addI (jYb.ie hd_7n)
  clear hh_5
  have hh_10 := hh_9.addI (jOl.ie (dC := dC) (dI := dI) (G0 := G0) (k := 2) (rs := [ou]) (H0 := s.heap) (F := [(2, 0), (2, 1)]) (C := RX0) (T := TX0) (N := 2) rfl (by decide) hh_9.2.2.2.2.1 (hd_6n))
  clear hh_9
  clear hd_6 hd_6n hd_7 hd_7n hr_5
  refine lv_iload_n hx hb dX11_take_16 rfl (lv_at hl 0 rfl) ?_
  rw [hQ]
  exact W.iret (v := count_4) hx hb hr (fun t ht hW => ⟨⟨count_4, (), rfl, trivial, ⟨⟨hh_10.rt (M1 := []) [] rfl ht, by rw [ht]; exact hh_10.iv 0 rfl⟩, by rw [ht]; exact hh_10.2.2.2.2.2.2.2.2.sub (L1 := [(jFy, jYb dC dI G0)]) [1] rfl⟩⟩, by rw [ht]; try exact hh_10.1.1, fun q h9 hq => by rw [ht]; try exact hh_10.1.2.1 q h9 hq⟩) hh_10.1.2.2 dX11_take_17
end
section
theorem dX11_state_0 : decode cX11_state 0 = .ok (.iload_n 1, 1) := by decide +kernel
theorem dX11_state_1 : decode cX11_state 1 = .ok (.tableswitch 196 0 12 #[67, 83, 105, 113, 123, 133, 143, 148, 153, 158, 166, 174, 185], 67) := by decide +kernel
theorem dX11_state_68 : decode cX11_state 68 = .ok (.aload_n 0, 1) := by decide +kernel
theorem dX11_state_69 : decode cX11_state 69 = .ok (.getfield 21, 3) := by decide +kernel
theorem dX11_state_72 : decode cX11_state 72 = .ok (.getfield 102, 3) := by decide +kernel
theorem dX11_state_75 : decode cX11_state 75 = .ok (.ifCond .eq 7, 3) := by decide +kernel
theorem dX11_state_78 : decode cX11_state 78 = .ok (.iconst 1, 1) := by decide +kernel
theorem dX11_state_79 : decode cX11_state 79 = .ok (.goto 4, 3) := by decide +kernel
theorem dX11_state_82 : decode cX11_state 82 = .ok (.iconst 0, 1) := by decide +kernel
theorem dX11_state_83 : decode cX11_state 83 = .ok (.ireturn, 1) := by decide +kernel
theorem dX11_state_84 : decode cX11_state 84 = .ok (.aload_n 0, 1) := by decide +kernel
theorem dX11_state_85 : decode cX11_state 85 = .ok (.getfield 21, 3) := by decide +kernel
theorem dX11_state_88 : decode cX11_state 88 = .ok (.getfield 102, 3) := by decide +kernel
theorem dX11_state_91 : decode cX11_state 91 = .ok (.ifCond .eq 7, 3) := by decide +kernel
theorem dX11_state_94 : decode cX11_state 94 = .ok (.iconst 0, 1) := by decide +kernel
theorem dX11_state_95 : decode cX11_state 95 = .ok (.goto 10, 3) := by decide +kernel
theorem dX11_state_98 : decode cX11_state 98 = .ok (.aload_n 0, 1) := by decide +kernel
theorem dX11_state_99 : decode cX11_state 99 = .ok (.getfield 21, 3) := by decide +kernel
theorem dX11_state_102 : decode cX11_state 102 = .ok (.getfield 136, 3) := by decide +kernel
theorem dX11_state_105 : decode cX11_state 105 = .ok (.ireturn, 1) := by decide +kernel
theorem dX11_state_106 : decode cX11_state 106 = .ok (.aload_n 0, 1) := by decide +kernel
theorem dX11_state_107 : decode cX11_state 107 = .ok (.getfield 21, 3) := by decide +kernel
theorem dX11_state_110 : decode cX11_state 110 = .ok (.getfield 139, 3) := by decide +kernel
theorem dX11_state_113 : decode cX11_state 113 = .ok (.ireturn, 1) := by decide +kernel
theorem dX11_state_114 : decode cX11_state 114 = .ok (.aload_n 0, 1) := by decide +kernel
theorem dX11_state_115 : decode cX11_state 115 = .ok (.getfield 61, 3) := by decide +kernel
theorem dX11_state_118 : decode cX11_state 118 = .ok (.invokeinterface 142 1, 5) := by decide +kernel
theorem dX11_state_123 : decode cX11_state 123 = .ok (.ireturn, 1) := by decide +kernel
theorem dX11_state_124 : decode cX11_state 124 = .ok (.aload_n 0, 1) := by decide +kernel
theorem dX11_state_125 : decode cX11_state 125 = .ok (.getfield 65, 3) := by decide +kernel
theorem dX11_state_128 : decode cX11_state 128 = .ok (.invokeinterface 142 1, 5) := by decide +kernel
theorem dX11_state_133 : decode cX11_state 133 = .ok (.ireturn, 1) := by decide +kernel
theorem dX11_state_134 : decode cX11_state 134 = .ok (.aload_n 0, 1) := by decide +kernel
theorem dX11_state_135 : decode cX11_state 135 = .ok (.getfield 68, 3) := by decide +kernel
theorem dX11_state_138 : decode cX11_state 138 = .ok (.invokeinterface 142 1, 5) := by decide +kernel
theorem dX11_state_143 : decode cX11_state 143 = .ok (.ireturn, 1) := by decide +kernel
theorem dX11_state_144 : decode cX11_state 144 = .ok (.aload_n 0, 1) := by decide +kernel
theorem dX11_state_145 : decode cX11_state 145 = .ok (.getfield 133, 3) := by decide +kernel
theorem dX11_state_148 : decode cX11_state 148 = .ok (.ireturn, 1) := by decide +kernel
theorem dX11_state_149 : decode cX11_state 149 = .ok (.aload_n 0, 1) := by decide +kernel
theorem dX11_state_150 : decode cX11_state 150 = .ok (.getfield 148, 3) := by decide +kernel
theorem dX11_state_153 : decode cX11_state 153 = .ok (.ireturn, 1) := by decide +kernel
theorem dX11_state_154 : decode cX11_state 154 = .ok (.aload_n 0, 1) := by decide +kernel
theorem dX11_state_155 : decode cX11_state 155 = .ok (.getfield 151, 3) := by decide +kernel
theorem dX11_state_158 : decode cX11_state 158 = .ok (.ireturn, 1) := by decide +kernel
theorem dX11_state_159 : decode cX11_state 159 = .ok (.aload_n 0, 1) := by decide +kernel
theorem dX11_state_160 : decode cX11_state 160 = .ok (.getfield 14, 3) := by decide +kernel
theorem dX11_state_163 : decode cX11_state 163 = .ok (.getfield 92, 3) := by decide +kernel
theorem dX11_state_166 : decode cX11_state 166 = .ok (.ireturn, 1) := by decide +kernel
theorem dX11_state_167 : decode cX11_state 167 = .ok (.aload_n 0, 1) := by decide +kernel
theorem dX11_state_168 : decode cX11_state 168 = .ok (.getfield 32, 3) := by decide +kernel
theorem dX11_state_171 : decode cX11_state 171 = .ok (.getfield 92, 3) := by decide +kernel
theorem dX11_state_174 : decode cX11_state 174 = .ok (.ireturn, 1) := by decide +kernel
theorem dX11_state_175 : decode cX11_state 175 = .ok (.aload_n 0, 1) := by decide +kernel
theorem dX11_state_176 : decode cX11_state 176 = .ok (.aload_n 0, 1) := by decide +kernel
theorem dX11_state_177 : decode cX11_state 177 = .ok (.getfield 73, 3) := by decide +kernel
theorem dX11_state_180 : decode cX11_state 180 = .ok (.iconst 0, 1) := by decide +kernel
theorem dX11_state_181 : decode cX11_state 181 = .ok (.aaload, 1) := by decide +kernel
theorem dX11_state_182 : decode cX11_state 182 = .ok (.invokevirtual 154, 3) := by decide +kernel
theorem dX11_state_185 : decode cX11_state 185 = .ok (.ireturn, 1) := by decide +kernel
theorem dX11_state_186 : decode cX11_state 186 = .ok (.aload_n 0, 1) := by decide +kernel
theorem dX11_state_187 : decode cX11_state 187 = .ok (.aload_n 0, 1) := by decide +kernel
theorem dX11_state_188 : decode cX11_state 188 = .ok (.getfield 73, 3) := by decide +kernel
theorem dX11_state_191 : decode cX11_state 191 = .ok (.iconst 1, 1) := by decide +kernel
theorem dX11_state_192 : decode cX11_state 192 = .ok (.aaload, 1) := by decide +kernel
theorem dX11_state_193 : decode cX11_state 193 = .ok (.invokevirtual 154, 3) := by decide +kernel
theorem dX11_state_196 : decode cX11_state 196 = .ok (.ireturn, 1) := by decide +kernel
theorem dX11_state_197 : decode cX11_state 197 = .ok (.iconst (-1), 1) := by decide +kernel
theorem dX11_state_198 : decode cX11_state 198 = .ok (.ireturn, 1) := by decide +kernel
theorem dX11_unit_0 : decode cX11_unit 0 = .ok (.aload_n 0, 1) := by decide +kernel
theorem dX11_unit_1 : decode cX11_unit 1 = .ok (.iload_n 1, 1) := by decide +kernel
theorem dX11_unit_2 : decode cX11_unit 2 = .ok (.invokevirtual 158, 3) := by decide +kernel
theorem dX11_unit_5 : decode cX11_unit 5 = .ok (.astore_n 3, 1) := by decide +kernel
theorem dX11_unit_6 : decode cX11_unit 6 = .ok (.aload_n 3, 1) := by decide +kernel
theorem dX11_unit_7 : decode cX11_unit 7 = .ok (.ifnull 15, 3) := by decide +kernel
theorem dX11_unit_10 : decode cX11_unit 10 = .ok (.iload_n 2, 1) := by decide +kernel
theorem dX11_unit_11 : decode cX11_unit 11 = .ok (.ifCond .lt 11, 3) := by decide +kernel
theorem dX11_unit_14 : decode cX11_unit 14 = .ok (.iload_n 2, 1) := by decide +kernel
theorem dX11_unit_15 : decode cX11_unit 15 = .ok (.aload_n 3, 1) := by decide +kernel
theorem dX11_unit_16 : decode cX11_unit 16 = .ok (.getfield 165, 3) := by decide +kernel
theorem dX11_unit_19 : decode cX11_unit 19 = .ok (.if_icmp .lt 7, 3) := by decide +kernel
theorem dX11_unit_22 : decode cX11_unit 22 = .ok (.iconst (-1), 1) := by decide +kernel
theorem dX11_unit_23 : decode cX11_unit 23 = .ok (.goto 9, 3) := by decide +kernel
theorem dX11_unit_26 : decode cX11_unit 26 = .ok (.aload_n 3, 1) := by decide +kernel
theorem dX11_unit_27 : decode cX11_unit 27 = .ok (.getfield 174, 3) := by decide +kernel
theorem dX11_unit_30 : decode cX11_unit 30 = .ok (.iload_n 2, 1) := by decide +kernel
theorem dX11_unit_31 : decode cX11_unit 31 = .ok (.iaload, 1) := by decide +kernel
theorem dX11_unit_32 : decode cX11_unit 32 = .ok (.ireturn, 1) := by decide +kernel
theorem dX11_sentence_0 : decode cX11_sentence 0 = .ok (.aload_n 0, 1) := by decide +kernel
theorem dX11_sentence_1 : decode cX11_sentence 1 = .ok (.iload_n 1, 1) := by decide +kernel
theorem dX11_sentence_2 : decode cX11_sentence 2 = .ok (.invokevirtual 158, 3) := by decide +kernel
theorem dX11_sentence_5 : decode cX11_sentence 5 = .ok (.astore 4, 2) := by decide +kernel
theorem dX11_sentence_7 : decode cX11_sentence 7 = .ok (.aload 4, 2) := by decide +kernel
theorem dX11_sentence_9 : decode cX11_sentence 9 = .ok (.ifnull 16, 3) := by decide +kernel
theorem dX11_sentence_12 : decode cX11_sentence 12 = .ok (.iload_n 2, 1) := by decide +kernel
theorem dX11_sentence_13 : decode cX11_sentence 13 = .ok (.ifCond .lt 12, 3) := by decide +kernel
theorem dX11_sentence_16 : decode cX11_sentence 16 = .ok (.iload_n 2, 1) := by decide +kernel
theorem dX11_sentence_17 : decode cX11_sentence 17 = .ok (.aload 4, 2) := by decide +kernel
theorem dX11_sentence_19 : decode cX11_sentence 19 = .ok (.getfield 168, 3) := by decide +kernel
theorem dX11_sentence_22 : decode cX11_sentence 22 = .ok (.if_icmp .lt 5, 3) := by decide +kernel
theorem dX11_sentence_25 : decode cX11_sentence 25 = .ok (.iconst (-1), 1) := by decide +kernel
theorem dX11_sentence_26 : decode cX11_sentence 26 = .ok (.ireturn, 1) := by decide +kernel
theorem dX11_sentence_27 : decode cX11_sentence 27 = .ok (.iload_n 2, 1) := by decide +kernel
theorem dX11_sentence_28 : decode cX11_sentence 28 = .ok (.aload 4, 2) := by decide +kernel
theorem dX11_sentence_30 : decode cX11_sentence 30 = .ok (.getfield 171, 3) := by decide +kernel
theorem dX11_sentence_33 : decode cX11_sentence 33 = .ok (.if_icmp .ge 17, 3) := by decide +kernel
theorem dX11_sentence_36 : decode cX11_sentence 36 = .ok (.aload 4, 2) := by decide +kernel
theorem dX11_sentence_38 : decode cX11_sentence 38 = .ok (.getfield 178, 3) := by decide +kernel
theorem dX11_sentence_41 : decode cX11_sentence 41 = .ok (.iload_n 2, 1) := by decide +kernel
theorem dX11_sentence_42 : decode cX11_sentence 42 = .ok (.aaload, 1) := by decide +kernel
theorem dX11_sentence_43 : decode cX11_sentence 43 = .ok (.ifnull 7, 3) := by decide +kernel
theorem dX11_sentence_46 : decode cX11_sentence 46 = .ok (.iconst 1, 1) := by decide +kernel
theorem dX11_sentence_47 : decode cX11_sentence 47 = .ok (.goto 4, 3) := by decide +kernel
theorem dX11_sentence_50 : decode cX11_sentence 50 = .ok (.iconst 0, 1) := by decide +kernel
theorem dX11_sentence_51 : decode cX11_sentence 51 = .ok (.istore 5, 2) := by decide +kernel
theorem dX11_sentence_53 : decode cX11_sentence 53 = .ok (.iload_n 3, 1) := by decide +kernel
theorem dX11_sentence_54 : decode cX11_sentence 54 = .ok (.tableswitch 89 0 4 #[34, 42, 50, 61, 81], 34) := by decide +kernel
theorem dX11_sentence_88 : decode cX11_sentence 88 = .ok (.aload 4, 2) := by decide +kernel
theorem dX11_sentence_90 : decode cX11_sentence 90 = .ok (.getfield 182, 3) := by decide +kernel
theorem dX11_sentence_93 : decode cX11_sentence 93 = .ok (.iload_n 2, 1) := by decide +kernel
theorem dX11_sentence_94 : decode cX11_sentence 94 = .ok (.iaload, 1) := by decide +kernel
theorem dX11_sentence_95 : decode cX11_sentence 95 = .ok (.ireturn, 1) := by decide +kernel
theorem dX11_sentence_96 : decode cX11_sentence 96 = .ok (.aload 4, 2) := by decide +kernel
theorem dX11_sentence_98 : decode cX11_sentence 98 = .ok (.getfield 185, 3) := by decide +kernel
theorem dX11_sentence_101 : decode cX11_sentence 101 = .ok (.iload_n 2, 1) := by decide +kernel
theorem dX11_sentence_102 : decode cX11_sentence 102 = .ok (.iaload, 1) := by decide +kernel
theorem dX11_sentence_103 : decode cX11_sentence 103 = .ok (.ireturn, 1) := by decide +kernel
theorem dX11_sentence_104 : decode cX11_sentence 104 = .ok (.iload 5, 2) := by decide +kernel
theorem dX11_sentence_106 : decode cX11_sentence 106 = .ok (.ifCond .eq 7, 3) := by decide +kernel
theorem dX11_sentence_109 : decode cX11_sentence 109 = .ok (.iconst 1, 1) := by decide +kernel
theorem dX11_sentence_110 : decode cX11_sentence 110 = .ok (.goto 4, 3) := by decide +kernel
theorem dX11_sentence_113 : decode cX11_sentence 113 = .ok (.iconst 0, 1) := by decide +kernel
theorem dX11_sentence_114 : decode cX11_sentence 114 = .ok (.ireturn, 1) := by decide +kernel
theorem dX11_sentence_115 : decode cX11_sentence 115 = .ok (.iload 5, 2) := by decide +kernel
theorem dX11_sentence_117 : decode cX11_sentence 117 = .ok (.ifCond .eq 16, 3) := by decide +kernel
theorem dX11_sentence_120 : decode cX11_sentence 120 = .ok (.aload 4, 2) := by decide +kernel
theorem dX11_sentence_122 : decode cX11_sentence 122 = .ok (.getfield 178, 3) := by decide +kernel
theorem dX11_sentence_125 : decode cX11_sentence 125 = .ok (.iload_n 2, 1) := by decide +kernel
theorem dX11_sentence_126 : decode cX11_sentence 126 = .ok (.aaload, 1) := by decide +kernel
theorem dX11_sentence_127 : decode cX11_sentence 127 = .ok (.getfield 188, 3) := by decide +kernel
theorem dX11_sentence_130 : decode cX11_sentence 130 = .ok (.goto 4, 3) := by decide +kernel
theorem dX11_sentence_133 : decode cX11_sentence 133 = .ok (.iconst (-1), 1) := by decide +kernel
theorem dX11_sentence_134 : decode cX11_sentence 134 = .ok (.ireturn, 1) := by decide +kernel
theorem dX11_sentence_135 : decode cX11_sentence 135 = .ok (.aload 4, 2) := by decide +kernel
theorem dX11_sentence_137 : decode cX11_sentence 137 = .ok (.getfield 193, 3) := by decide +kernel
theorem dX11_sentence_140 : decode cX11_sentence 140 = .ok (.iload_n 2, 1) := by decide +kernel
theorem dX11_sentence_141 : decode cX11_sentence 141 = .ok (.iaload, 1) := by decide +kernel
theorem dX11_sentence_142 : decode cX11_sentence 142 = .ok (.ireturn, 1) := by decide +kernel
theorem dX11_sentence_143 : decode cX11_sentence 143 = .ok (.iconst (-1), 1) := by decide +kernel
theorem dX11_sentence_144 : decode cX11_sentence 144 = .ok (.ireturn, 1) := by decide +kernel
def EX11_openAt : List (Nat × Nat) := []
def EX11_numberOf : List (Nat × Nat) := []
def EX11_unit : List (Nat × Nat) := []
def EX11_sentence : List (Nat × Nat) := []
def EX11_state : List (Nat × Nat) := []
set_option maxHeartbeats 4000000 in
set_option maxRecDepth 20000 in
theorem uX11_openAt (l : Launch) (dC : Nat → ClassId) (dI : Nat → Nat → Nat) (ca : Nat → ClassId) (base : Nat) (B : jF) (hB : jBok B) (hAp : jAp (dC, dI)) (hB1 : ∀ n G a H, B 1 n G a H ↔ jOb (dC, dI) 1 3 (F1 n G) a H) (hB3 : ∀ n G a H, B 3 n G a H ↔ jOb (dC, dI) 3 17 (F3 n G) a H) (hB13 : ∀ n G a H, B 13 n G a H ↔ jOb (dC, dI) 13 19 (F13 n G) a H) (hB221 : ∀ n G a H, B 221 n G a H ↔ jAq (dC, dI) (ca 9) (jQn 3 0) n G a H) (G0 : jT) (H0 : Heap) (r0 : Nat) (a1 : Int32) (wl : jWl9) : Met l yX11_openAt (jw yX11_openAt cX11_openAt 2 (some (.object "ProofServer$Document"))) ({ frames := 3, cells := 0, slots := 0, locals := 64 }) (va_Pc [.ref r0, .int a1] (fun U => U.heap = H0 ∧ jX B base G0 [] H0 ∧ jG dC dI ca base U ∧ jK7 dC dI ca base U ∧ G0 r0 = some (13, 0) ∧ jP (dC, dI) G0 H0 [] ∧ jIs (dC, dI) G0 H0 [(jFl, jLs dC dI ca G0 3 none wl)] ∧ True)) (jQx (S := Unit) (fun v u => jRn G0 3 0 v) (fun u t => (jRt (dC, dI) B base G0 EX11_openAt H0 [] t.heap) ∧ jIs (dC, dI) G0 t.heap [(jFl, jLs dC dI ca G0 3 none wl)]) (jA base)) 0 0 (jA base) := by
  refine Met.ofW (cc := cX11_openAt) (maxL := 2) (ret := (some (.object "ProofServer$Document"))) (by decide) rfl ?_
  intro p e s m args below meth c s₁ Bd hml hv
  obtain ⟨rfl, hH0, hX, hG, hK7, hg_r0, hP0, hI0, hp0⟩ := hv
  have hK := hG.1
  have hx := Bd.exec
  have hb := Bd.bytes
  have hr := Bd.returns
  have hts := atoms_spec (ws := (jw yX11_openAt cX11_openAt 2 (some (.object "ProofServer$Document")))) Bd.pre
  have htw : ∀ w ∈ jWl, w.before _ s = true := fun w h => hts w (List.mem_cons_of_mem _ h)
  have hown : s.vm.findClass RX11 = some m.cls := findClass_of_methodNamed Bd.named
  have hlocks := Bd.notSynchronized
  obtain ⟨Q, hQ⟩ : ∃ Q, Q = MQ below (jQx (S := Unit) (fun v u => jRn G0 3 0 v) (fun u t => (jRt (dC, dI) B base G0 EX11_openAt H0 [] t.heap) ∧ jIs (dC, dI) G0 t.heap [(jFl, jLs dC dI ca G0 3 none wl)]) (jA base)) ([.ref r0, .int a1] : List Value).toArray s 0 0 (jA base) := ⟨_, rfl⟩
  rw [← hQ]
  have hl := lv_entry ([.ref r0, .int a1]) (n := 2) (Nat.le_of_ble_eq_true rfl)
  rw [lg_entry_eq]
  generalize (lg_sl ([.ref r0, .int a1]) ++ List.replicate (2 - (lg_sl ([.ref r0, .int a1])).length) Slot.unset).toArray = ls at hl ⊢
  have hl : lv_has ls 2 [(0, .ref r0), (1, .int a1)] := hl
  generalize hR : (headSpec (jw yX11_openAt cX11_openAt 2 (some (.object "ProofServer$Document"))) ({ frames := 3, cells := 0, slots := 0, locals := 64 })).room = R
  subst hH0
  have hh : jSt (dC, dI) B base G0 G0 EX11_openAt s.heap 0 0 [] [] [(jFl, jLs dC dI ca G0 3 none wl)] s.heap [] := jSt.start hX hP0 jMc.nil hI0
  clear hX hP0
  have hk0 : (0 : Int32).toInt = 0 := by decide
  have hk1 : (1 : Int32).toInt = 1 := by decide
  have hly_13_7 := htw (u_lay RX11 TX11 7) (jWc_wsX110 _ (u_in_lay (by decide)))
  have hlk_61 := (htw (.fieldLink RX11 61 "ProofServer" "open" "Ljava/util/List;") (jWr_2 _ (List.mem_of_getElem? (i := 14) rfl)))
  have hrg_a1 := jb_rng a1
  refine lv_iload_n hx hb dX11_openAt_0 rfl (lv_at hl 1 rfl) ?_
  refine lv_if_lt (tgt := 17) hx hb dX11_openAt_1 (by decide) (fun c_1 => ?_) (fun c_1 => ?_)
  · skip
    have c_1' : a1.toInt < 0 := jb_lt (rfl) ((by decide)) c_1
    refine lv_null hx hb dX11_openAt_17 ?_
    refine lv_goto (tgt := 34) hx hb dX11_openAt_18 (by decide) ?_
    rw [hQ]
    exact W.aret (v := .null) hx hb hr (Or.inl ⟨_, rfl⟩) (Or.inl rfl) (fun t ht hW => ⟨⟨.null, (), rfl, Or.inl rfl, ⟨hh.rt (M1 := []) [] rfl ht, by rw [ht]; exact hh.2.2.2.2.2.2.2.2.sub (L1 := [(jFl, jLs dC dI ca G0 3 none wl)]) [0] rfl⟩⟩, by rw [ht]; try exact hh.1.1, fun q h9 hq => by rw [ht]; try exact hh.1.2.1 q h9 hq⟩) hh.1.2.2 dX11_openAt_34
  · skip
    have c_1' : a1.toInt ≥ 0 := jb_lt_n (rfl) ((by decide)) c_1
    refine lv_iload_n hx hb dX11_openAt_4 rfl (lv_at hl 1 rfl) ?_
    refine lv_aload_n hx hb dX11_openAt_5 rfl (lv_at hl 0 rfl) ?_
    obtain ⟨v_2, hv_2, hh_3⟩ := hh.pin (C := RX11) (T := TX11) (N := 19) hB13 rfl (by decide) hg_r0 (i := 7) (by decide) rfl
    clear hh
    obtain ⟨open_4, rfl, hg_open_4⟩ := hv_2
    refine j7_read hx hb hown hK (C := RX11) (T := TX11) (N := 19) rfl hly_13_7 hlk_61 (hh_3.at 0 rfl) dX11_openAt_6 ?_
    obtain ⟨v_7, hv_7, hh_8⟩ := hh_3.pin (C := RJx4a65c) (T := TJx4a65c) (N := 3) hB1 rfl (by decide) hg_open_4 (i := 2) (by decide) rfl
    obtain ⟨size_9, rfl, hlosize_9, hhisize_9⟩ := hv_7
    refine va_callFi (A0 := jA base) (H0 := s.heap) (va_runF (hK.1 1 _ rfl).2 (As := []) (rest := [.int a1]) ⟨hx, hb, hml, hown, hts⟩ (uJx4a65c_size_8abf5 l dC dI ca base B hB hAp hB1 G0 s.heap open_4 1 size_9) (va_cwF 0 hts (jgF (jWr_27 _ (List.mem_of_getElem? (i := 22) rfl)) (jWr_27 _ (List.mem_of_getElem? (i := 23) rfl)) (jWr_28 _ (List.mem_of_getElem? (i := 0) rfl)) (jWr_2 _ (List.mem_of_getElem? (i := 13) rfl)) (jWr_28 _ (List.mem_of_getElem? (i := 1) rfl))) rfl rfl rfl hK7.2.2.2.2.2.1.1 ⟨by decide, by decide, by decide +kernel⟩ ⟨by rw [← hR]; exact Nat.le_of_ble_eq_true rfl, by rw [← hR]; exact Nat.le_of_ble_eq_true rfl⟩) ⟨fun a U g mk q => by obtain ⟨q0, q1, q2, qK, q10, q11, q12⟩ := q; exact ⟨q0, q1, q2, jG.calling g mk a qK, q10, q11, q12⟩, hh_8.recv (C := RJx4a65c) (T := TJx4a65c) (N := 3) hB1 rfl (by decide) hg_open_4 hK, fun U hU hW => ⟨rfl, hU, hh_8.2.1, hG.step hW hU hh_8.1, hg_open_4, (hh_8.2.2.1.sub (L1 := [(open_4, 1, 2, .int size_9)]) [0] rfl), trivial⟩⟩ rfl rfl hl.1 rfl (lv_room (Nat.le_of_ble_eq_true rfl)) dX11_openAt_9 ⟨Nat.zero_le _, Nat.zero_le _⟩) hh_8.1 (fun q _ h => h) (fun q h => h) (fun r_6 u_5 t_5 H_5 locs_5 ht_5 hvm_5 hr_6 hb_5 hz_5 hk_5 hS_5 => ?_)
    rw [ht_5] at hb_5
    obtain ⟨hb_51, hb_52, hb_53, hb_54, hb_55⟩ := hb_5
    have hh_5 : jSt (dC, dI) B base G0 G0 EX11_openAt s.heap 0 0 [(open_4, 1, 2, .int size_9), (r0, 13, 7, .ref open_4)] [] [(jFl, jLs dC dI ca G0 3 none wl)] H_5 locs_5 := ((hh_8.call hb_51 hb_52 hb_53 hb_54 hS_5 rfl (L1 := [(open_4, 1, 2, .int size_9), (r0, 13, 7, .ref open_4)]) [0, 1] rfl rfl (M1 := []) [] rfl rfl (I1 := [(jFl, jLs dC dI ca G0 3 none wl)]) [0] rfl rfl).more hb_55)
    clear hh_8 ht_5 hvm_5 hz_5 hk_5 hS_5 hb_51 hb_52 hb_53 hb_54 hb_55
    refine lv_icmp_lt (tgt := 21) hx hb dX11_openAt_14 (by decide) (fun c_10 => ?_) (fun c_10 => ?_)
    · skip
      have c_10' : a1.toInt < r_6.toInt := jb_lt (rfl) (rfl) c_10
      refine lv_aload_n hx hb dX11_openAt_21 rfl (lv_at hl 0 rfl) ?_
      refine j7_read hx hb hown hK (C := RX11) (T := TX11) (N := 19) rfl hly_13_7 hlk_61 (hh_5.at 1 rfl) dX11_openAt_22 ?_
      refine lv_iload_n hx hb dX11_openAt_25 rfl (lv_at hl 1 rfl) ?_
      refine j_callFx (A0 := jA base) (H0 := s.heap) (va_runF (hK.1 1 _ rfl).2 (As := [.int a1]) (rest := []) ⟨hx, hb, hml, hown, hts⟩ (uJx4a65c_get_915e3L1 l dC dI ca base B hB hAp hB1 hB3 hB221 G0 H_5 open_4 a1 size_9 wl) (va_cwF 1 hts (jgF (jWr_28 _ (List.mem_of_getElem? (i := 3) rfl)) (jWr_28 _ (List.mem_of_getElem? (i := 4) rfl)) (jWr_28 _ (List.mem_of_getElem? (i := 5) rfl)) (jWr_2 _ (List.mem_of_getElem? (i := 13) rfl)) (jWr_28 _ (List.mem_of_getElem? (i := 6) rfl))) rfl rfl rfl hK7.2.2.2.2.2.1.2.1 ⟨by decide, by decide, by decide +kernel⟩ ⟨by rw [← hR]; exact Nat.le_of_ble_eq_true rfl, by rw [← hR]; exact Nat.le_of_ble_eq_true rfl⟩) ⟨fun a U g mk q => by obtain ⟨q0, q1, q2, qK, q10, q11, q12, q13, q14⟩ := q; exact ⟨q0, q1, q2, jG.calling g mk a qK, (jK7.calling g mk a q10), q11, q12, q13, q14⟩, hh_5.recv (C := RJx4a65c) (T := TJx4a65c) (N := 3) hB1 rfl (by decide) hg_open_4 hK, fun U hU hW => ⟨rfl, hU, hh_5.2.1, hG.step hW hU hh_5.1, (hK7.step hW hU hh_5.1), hg_open_4, (hh_5.2.2.1.sub (L1 := [(open_4, 1, 2, .int size_9)]) [0] rfl), (hh_5.2.2.2.2.2.2.2.2.sub (L1 := [(jFl, jLs dC dI ca G0 3 none wl)]) [0] rfl), by first | omega | (refine ⟨?_, ?_⟩ <;> (first | omega | rfl | assumption | decide | exact Or.inl rfl | exact Or.inr rfl | (simp only; omega)))⟩⟩ rfl rfl hl.1 rfl (lv_room (Nat.le_of_ble_eq_true rfl)) dX11_openAt_26 ⟨Nat.zero_le _, Nat.zero_le _⟩) hh_5.1 (fun q _ h => h) (fun q h => h) (fun r_12 u_11 t_11 H_11 locs_11 ht_11 hvm_11 hr_12 hb_11 hz_11 hk_11 hS_11 => ?_)
      rw [ht_11] at hb_11
      obtain ⟨hb_11, hbE_11⟩ := hb_11
      obtain ⟨hb_111, hb_112, hb_113, hb_114, hb_115⟩ := hb_11
      have hh_11 : jSt (dC, dI) B base G0 G0 EX11_openAt s.heap 0 0 [(open_4, 1, 2, .int size_9), (r0, 13, 7, .ref open_4)] [] [(jFl, jLs dC dI ca G0 3 none wl)] H_11 locs_11 := (((hh_5.call hb_111 hb_112 hb_113 hb_114 hS_11 rfl (L1 := [(open_4, 1, 2, .int size_9), (r0, 13, 7, .ref open_4)]) [0, 1] rfl rfl (M1 := []) [] rfl rfl (I1 := []) [] rfl rfl).more hb_115)).addIs hbE_11
      clear hh_5 ht_11 hvm_11 hz_11 hk_11 hS_11 hb_111 hb_112 hb_113 hb_114 hb_115
      clear  hbE_11
      obtain ⟨hr_12, hr_12p⟩ := hr_12
      obtain ⟨ret_13, rfl, hg_ret_13⟩ := hr_12
      refine va_castY hx hb hown (htw (.classLink RX11 71 "ProofServer$Document") (jWr_27 _ (List.mem_of_getElem? (i := 20) rfl))) hK7.2.2.1.1.2 (hh_11.recv (C := RX1) (T := TX1) (N := 17) hB3 rfl (by decide) hg_ret_13 hK) dX11_openAt_31 ?_
      rw [hQ]
      exact W.aret (v := .ref ret_13) hx hb hr (Or.inl ⟨_, rfl⟩) (Or.inr ⟨_, rfl⟩) (fun t ht hW => ⟨⟨.ref ret_13, (), rfl, Or.inr ⟨_, rfl, hg_ret_13⟩, ⟨hh_11.rt (M1 := []) [] rfl ht, by rw [ht]; exact hh_11.2.2.2.2.2.2.2.2.sub (L1 := [(jFl, jLs dC dI ca G0 3 none wl)]) [0] rfl⟩⟩, by rw [ht]; try exact hh_11.1.1, fun q h9 hq => by rw [ht]; try exact hh_11.1.2.1 q h9 hq⟩) hh_11.1.2.2 dX11_openAt_34
    · skip
      have c_10' : a1.toInt ≥ r_6.toInt := jb_lt_n (rfl) (rfl) c_10
      refine lv_null hx hb dX11_openAt_17 ?_
      refine lv_goto (tgt := 34) hx hb dX11_openAt_18 (by decide) ?_
      rw [hQ]
      exact W.aret (v := .null) hx hb hr (Or.inl ⟨_, rfl⟩) (Or.inl rfl) (fun t ht hW => ⟨⟨.null, (), rfl, Or.inl rfl, ⟨hh_5.rt (M1 := []) [] rfl ht, by rw [ht]; exact hh_5.2.2.2.2.2.2.2.2.sub (L1 := [(jFl, jLs dC dI ca G0 3 none wl)]) [0] rfl⟩⟩, by rw [ht]; try exact hh_5.1.1, fun q h9 hq => by rw [ht]; try exact hh_5.1.2.1 q h9 hq⟩) hh_5.1.2.2 dX11_openAt_34
set_option maxHeartbeats 4000000 in
set_option maxRecDepth 20000 in
theorem uX11_numberOf (l : Launch) (dC : Nat → ClassId) (dI : Nat → Nat → Nat) (ca : Nat → ClassId) (base : Nat) (B : jF) (hB : jBok B) (hAp : jAp (dC, dI)) (hB1 : ∀ n G a H, B 1 n G a H ↔ jOb (dC, dI) 1 3 (F1 n G) a H) (hB3 : ∀ n G a H, B 3 n G a H ↔ jOb (dC, dI) 3 17 (F3 n G) a H) (hB13 : ∀ n G a H, B 13 n G a H ↔ jOb (dC, dI) 13 19 (F13 n G) a H) (hB221 : ∀ n G a H, B 221 n G a H ↔ jAq (dC, dI) (ca 9) (jQn 3 0) n G a H) (G0 : jT) (H0 : Heap) (r0 : Nat) (r1 : Nat) (op : Nat) (sz : Int32) (wl : jWl9) : Met l yX11_numberOf (jw yX11_numberOf cX11_numberOf 3 (some .int)) ({ frames := 3, cells := 0, slots := 0, locals := 64 }) (va_Pc [.ref r0, .ref r1] (fun U => U.heap = H0 ∧ jX B base G0 [] H0 ∧ jG dC dI ca base U ∧ jK7 dC dI ca base U ∧ G0 r0 = some (13, 0) ∧ G0 r1 = some (3, 0) ∧ G0 op = some (1, 1) ∧ jP (dC, dI) G0 H0 [(r0, 13, 7, .ref op), (op, 1, 2, .int sz)] ∧ jIs (dC, dI) G0 H0 [(jFl, jLs dC dI ca G0 3 none wl)] ∧ 0 ≤ sz.toInt ∧ sz.toInt ≤ 40)) (va_Qi (S := Unit) (fun r u => (-1 ≤ r.toInt ∧ (r.toInt < 0 ∨ r.toInt < sz.toInt))) (fun u t => (jRt (dC, dI) B base G0 EX11_numberOf H0 [] t.heap) ∧ jIs (dC, dI) G0 t.heap [(jFl, jLs dC dI ca G0 3 none wl)]) (jA base)) 0 0 (jA base) := by
  refine Met.ofW (cc := cX11_numberOf) (maxL := 3) (ret := (some .int)) (by decide) rfl ?_
  intro p e s m args below meth c s₁ Bd hml hv
  obtain ⟨rfl, hH0, hX, hG, hK7, hg_r0, hg_r1, hg_op, hP0, hI0, hp0, hp1⟩ := hv
  have hK := hG.1
  have hx := Bd.exec
  have hb := Bd.bytes
  have hr := Bd.returns
  have hts := atoms_spec (ws := (jw yX11_numberOf cX11_numberOf 3 (some .int))) Bd.pre
  have htw : ∀ w ∈ jWl, w.before _ s = true := fun w h => hts w (List.mem_cons_of_mem _ h)
  have hown : s.vm.findClass RX11 = some m.cls := findClass_of_methodNamed Bd.named
  have hlocks := Bd.notSynchronized
  obtain ⟨Q, hQ⟩ : ∃ Q, Q = MQ below (va_Qi (S := Unit) (fun r u => (-1 ≤ r.toInt ∧ (r.toInt < 0 ∨ r.toInt < sz.toInt))) (fun u t => (jRt (dC, dI) B base G0 EX11_numberOf H0 [] t.heap) ∧ jIs (dC, dI) G0 t.heap [(jFl, jLs dC dI ca G0 3 none wl)]) (jA base)) ([.ref r0, .ref r1] : List Value).toArray s 0 0 (jA base) := ⟨_, rfl⟩
  rw [← hQ]
  have hl := lv_entry ([.ref r0, .ref r1]) (n := 3) (Nat.le_of_ble_eq_true rfl)
  rw [lg_entry_eq]
  generalize (lg_sl ([.ref r0, .ref r1]) ++ List.replicate (3 - (lg_sl ([.ref r0, .ref r1])).length) Slot.unset).toArray = ls at hl ⊢
  have hl : lv_has ls 3 [(0, .ref r0), (1, .ref r1)] := hl
  generalize hR : (headSpec (jw yX11_numberOf cX11_numberOf 3 (some .int)) ({ frames := 3, cells := 0, slots := 0, locals := 64 })).room = R
  subst hH0
  have hh : jSt (dC, dI) B base G0 G0 EX11_numberOf s.heap 0 0 [(r0, 13, 7, .ref op), (op, 1, 2, .int sz)] [] [(jFl, jLs dC dI ca G0 3 none wl)] s.heap [] := jSt.start hX hP0 jMc.nil hI0
  clear hX hP0
  have hkm1 : ((-1) : Int32).toInt = (-1) := by decide
  have hk0 : (0 : Int32).toInt = 0 := by decide
  have hk1 : (1 : Int32).toInt = 1 := by decide
  have hly_13_7 := htw (u_lay RX11 TX11 7) (jWc_wsX110 _ (u_in_lay (by decide)))
  have hlk_61 := (htw (.fieldLink RX11 61 "ProofServer" "open" "Ljava/util/List;") (jWr_2 _ (List.mem_of_getElem? (i := 14) rfl)))
  refine lv_iconst (v := 0) hx hb dX11_numberOf_0 (by decide) ?_
  refine lv_istore_n (lv' := [(2, .int 0), (0, .ref r0), (1, .ref r1)]) hx hb dX11_numberOf_1 rfl hl (by decide) rfl (fun ls hl => ?_)
  have L2 : ∀ (N : Nat) (v2_1 : Int32) (H_1 : Heap) (locs_1 : List Loc), jSt (dC, dI) B base G0 G0 EX11_numberOf s.heap 0 0 [(r0, 13, 7, .ref op), (op, 1, 2, .int sz)] [] [(jFl, jLs dC dI ca G0 3 none wl)] H_1 locs_1 → (0 ≤ v2_1.toInt ∧ v2_1.toInt ≤ 40) → (41 - v2_1.toInt : Int) < N → ∀ ls : Array Slot, lv_has ls 3 [(0, .ref r0), (1, .ref r1), (2, .int v2_1)] → W p l e R s m ([.ref r0, .ref r1] : List Value).toArray below meth c H_1 locs_1 0 0 Q (F0 m 2 ls []) := by
    intro N
    induction N with
    | zero => intro v2_1 H_1 locs_1 hh_1  hi_1 hm; exact absurd hm (by omega)
    | succ N L2 =>
      intro v2_1 H_1 locs_1 hh_1  hi_1 hm_1 ls hl
      obtain ⟨hi_1_0, hi_1_1⟩ := hi_1
      refine lv_iload_n hx hb dX11_numberOf_2 rfl (lv_at hl 2 rfl) ?_
      refine lv_aload_n hx hb dX11_numberOf_3 rfl (lv_at hl 0 rfl) ?_
      refine j7_read hx hb hown hK (C := RX11) (T := TX11) (N := 19) rfl hly_13_7 hlk_61 (hh_1.at 0 rfl) dX11_numberOf_4 ?_
      refine va_callFi (A0 := jA base) (H0 := s.heap) (va_runF (hK.1 1 _ rfl).2 (As := []) (rest := [.int v2_1]) ⟨hx, hb, hml, hown, hts⟩ (uJx4a65c_size_8abf5 l dC dI ca base B hB hAp hB1 G0 H_1 op 1 sz) (va_cwF 0 hts (jgF (jWr_27 _ (List.mem_of_getElem? (i := 22) rfl)) (jWr_27 _ (List.mem_of_getElem? (i := 23) rfl)) (jWr_28 _ (List.mem_of_getElem? (i := 0) rfl)) (jWr_2 _ (List.mem_of_getElem? (i := 13) rfl)) (jWr_28 _ (List.mem_of_getElem? (i := 1) rfl))) rfl rfl rfl hK7.2.2.2.2.2.1.1 ⟨by decide, by decide, by decide +kernel⟩ ⟨by rw [← hR]; exact Nat.le_of_ble_eq_true rfl, by rw [← hR]; exact Nat.le_of_ble_eq_true rfl⟩) ⟨fun a U g mk q => by obtain ⟨q0, q1, q2, qK, q10, q11, q12⟩ := q; exact ⟨q0, q1, q2, jG.calling g mk a qK, q10, q11, q12⟩, hh_1.recv (C := RJx4a65c) (T := TJx4a65c) (N := 3) hB1 rfl (by decide) hg_op hK, fun U hU hW => ⟨rfl, hU, hh_1.2.1, hG.step hW hU hh_1.1, hg_op, (hh_1.2.2.1.sub (L1 := [(op, 1, 2, .int sz)]) [1] rfl), trivial⟩⟩ rfl rfl hl.1 rfl (lv_room (Nat.le_of_ble_eq_true rfl)) dX11_numberOf_7 ⟨Nat.zero_le _, Nat.zero_le _⟩) hh_1.1 (fun q _ h => h) (fun q h => h) (fun r_3 u_2 t_2 H_2 locs_2 ht_2 hvm_2 hr_3 hb_2 hz_2 hk_2 hS_2 => ?_)
      rw [ht_2] at hb_2
      obtain ⟨hb_21, hb_22, hb_23, hb_24, hb_25⟩ := hb_2
      have hh_2 : jSt (dC, dI) B base G0 G0 EX11_numberOf s.heap 0 0 [(r0, 13, 7, .ref op), (op, 1, 2, .int sz)] [] [(jFl, jLs dC dI ca G0 3 none wl)] H_2 locs_2 := ((hh_1.call hb_21 hb_22 hb_23 hb_24 hS_2 rfl (L1 := [(r0, 13, 7, .ref op), (op, 1, 2, .int sz)]) [0, 1] rfl rfl (M1 := []) [] rfl rfl (I1 := [(jFl, jLs dC dI ca G0 3 none wl)]) [0] rfl rfl).more hb_25)
      clear hh_1 ht_2 hvm_2 hz_2 hk_2 hS_2 hb_21 hb_22 hb_23 hb_24 hb_25
      refine lv_icmp_ge (tgt := 37) hx hb dX11_numberOf_12 (by decide) (fun c_4 => ?_) (fun c_4 => ?_)
      · skip
        have c_4' : v2_1.toInt ≥ r_3.toInt := jb_ge (rfl) (rfl) c_4
        refine lv_iconst (v := (-1)) hx hb dX11_numberOf_37 (by decide) ?_
        rw [hQ]
        exact W.iret (v := (-1)) hx hb hr (fun t ht hW => ⟨⟨(-1), (), rfl, by first | omega | (refine ⟨?_, ?_⟩ <;> (first | omega | rfl | assumption | decide | exact Or.inl rfl | exact Or.inr rfl | (simp only; omega))), ⟨hh_2.rt (M1 := []) [] rfl ht, by rw [ht]; exact hh_2.2.2.2.2.2.2.2.2.sub (L1 := [(jFl, jLs dC dI ca G0 3 none wl)]) [0] rfl⟩⟩, by rw [ht]; try exact hh_2.1.1, fun q h9 hq => by rw [ht]; try exact hh_2.1.2.1 q h9 hq⟩) hh_2.1.2.2 dX11_numberOf_38
      · skip
        have c_4' : v2_1.toInt < r_3.toInt := jb_ge_n (rfl) (rfl) c_4
        refine lv_aload_n hx hb dX11_numberOf_15 rfl (lv_at hl 0 rfl) ?_
        refine j7_read hx hb hown hK (C := RX11) (T := TX11) (N := 19) rfl hly_13_7 hlk_61 (hh_2.at 0 rfl) dX11_numberOf_16 ?_
        refine lv_iload_n hx hb dX11_numberOf_19 rfl (lv_at hl 2 rfl) ?_
        refine j_callFx (A0 := jA base) (H0 := s.heap) (va_runF (hK.1 1 _ rfl).2 (As := [.int v2_1]) (rest := []) ⟨hx, hb, hml, hown, hts⟩ (uJx4a65c_get_915e3L1 l dC dI ca base B hB hAp hB1 hB3 hB221 G0 H_2 op v2_1 sz wl) (va_cwF 1 hts (jgF (jWr_28 _ (List.mem_of_getElem? (i := 3) rfl)) (jWr_28 _ (List.mem_of_getElem? (i := 4) rfl)) (jWr_28 _ (List.mem_of_getElem? (i := 5) rfl)) (jWr_2 _ (List.mem_of_getElem? (i := 13) rfl)) (jWr_28 _ (List.mem_of_getElem? (i := 6) rfl))) rfl rfl rfl hK7.2.2.2.2.2.1.2.1 ⟨by decide, by decide, by decide +kernel⟩ ⟨by rw [← hR]; exact Nat.le_of_ble_eq_true rfl, by rw [← hR]; exact Nat.le_of_ble_eq_true rfl⟩) ⟨fun a U g mk q => by obtain ⟨q0, q1, q2, qK, q10, q11, q12, q13, q14⟩ := q; exact ⟨q0, q1, q2, jG.calling g mk a qK, (jK7.calling g mk a q10), q11, q12, q13, q14⟩, hh_2.recv (C := RJx4a65c) (T := TJx4a65c) (N := 3) hB1 rfl (by decide) hg_op hK, fun U hU hW => ⟨rfl, hU, hh_2.2.1, hG.step hW hU hh_2.1, (hK7.step hW hU hh_2.1), hg_op, (hh_2.2.2.1.sub (L1 := [(op, 1, 2, .int sz)]) [1] rfl), (hh_2.2.2.2.2.2.2.2.2.sub (L1 := [(jFl, jLs dC dI ca G0 3 none wl)]) [0] rfl), by first | omega | (refine ⟨?_, ?_⟩ <;> (first | omega | rfl | assumption | decide | exact Or.inl rfl | exact Or.inr rfl | (simp only; omega)))⟩⟩ rfl rfl hl.1 rfl (lv_room (Nat.le_of_ble_eq_true rfl)) dX11_numberOf_20 ⟨Nat.zero_le _, Nat.zero_le _⟩) hh_2.1 (fun q _ h => h) (fun q h => h) (fun r_6 u_5 t_5 H_5 locs_5 ht_5 hvm_5 hr_6 hb_5 hz_5 hk_5 hS_5 => ?_)
        rw [ht_5] at hb_5
        obtain ⟨hb_5, hbE_5⟩ := hb_5
        obtain ⟨hb_51, hb_52, hb_53, hb_54, hb_55⟩ := hb_5
        have hh_5 : jSt (dC, dI) B base G0 G0 EX11_numberOf s.heap 0 0 [(r0, 13, 7, .ref op), (op, 1, 2, .int sz)] [] [(jFl, jLs dC dI ca G0 3 none wl)] H_5 locs_5 := (((hh_2.call hb_51 hb_52 hb_53 hb_54 hS_5 rfl (L1 := [(r0, 13, 7, .ref op), (op, 1, 2, .int sz)]) [0, 1] rfl rfl (M1 := []) [] rfl rfl (I1 := []) [] rfl rfl).more hb_55)).addIs hbE_5
        clear hh_2 ht_5 hvm_5 hz_5 hk_5 hS_5 hb_51 hb_52 hb_53 hb_54 hb_55
        clear  hbE_5
        obtain ⟨hr_6, hr_6p⟩ := hr_6
        obtain ⟨ret_7, rfl, hg_ret_7⟩ := hr_6
        refine lv_aload_n hx hb dX11_numberOf_25 rfl (lv_at hl 1 rfl) ?_
        refine lv_acmp_ne (rx := (some ret_7)) (ry := (some r1)) (tgt := 31) hx hb dX11_numberOf_26 (by decide) (fun c_8 => ?_) (fun c_8 => ?_)
        · skip
          obtain ⟨z_9, ez_9⟩ : ∃ y : Int32, y = v2_1 + 1 := ⟨_, rfl⟩
          refine lv_iinc (v := z_9) (lv' := [(2, .int z_9), (0, .ref r0), (1, .ref r1)]) hx hb dX11_numberOf_31 hl (k := 2) rfl (by rw [ez_9]; rfl) (by decide) rfl (fun ls hl => ?_)
          have hz_9 : z_9.toInt = v2_1.toInt + 1 := by rw [ez_9]; exact jb_iadd2 (rfl) (by decide) (by omega)
          refine lv_goto (tgt := 2) hx hb dX11_numberOf_34 (by decide) ?_
          exact L2 z_9 _ _ hh_5 (by first | omega | (refine ⟨?_, ?_⟩ <;> (first | omega | rfl | assumption | decide | exact Or.inl rfl | exact Or.inr rfl | (simp only; omega)))) (by omega) _ (lv_sub hl [1, 2, 0] rfl)
        · skip
          refine lv_iload_n hx hb dX11_numberOf_29 rfl (lv_at hl 2 rfl) ?_
          rw [hQ]
          exact W.iret (v := v2_1) hx hb hr (fun t ht hW => ⟨⟨v2_1, (), rfl, by first | omega | (refine ⟨?_, ?_⟩ <;> (first | omega | rfl | assumption | decide | exact Or.inl rfl | exact Or.inr rfl | (simp only; omega))), ⟨hh_5.rt (M1 := []) [] rfl ht, by rw [ht]; exact hh_5.2.2.2.2.2.2.2.2.sub (L1 := [(jFl, jLs dC dI ca G0 3 none wl)]) [0] rfl⟩⟩, by rw [ht]; try exact hh_5.1.1, fun q h9 hq => by rw [ht]; try exact hh_5.1.2.1 q h9 hq⟩) hh_5.1.2.2 dX11_numberOf_30
  exact L2 (41 - (0 : Int32).toInt : Int).toNat.succ 0 _ _ hh (by first | omega | (refine ⟨?_, ?_⟩ <;> (first | omega | rfl | assumption | decide | exact Or.inl rfl | exact Or.inr rfl | (simp only; omega)))) (by omega) _ (lv_sub hl [1, 2, 0] rfl)
set_option maxHeartbeats 4000000 in
set_option maxRecDepth 20000 in
theorem uX11_unit (l : Launch) (dC : Nat → ClassId) (dI : Nat → Nat → Nat) (ca : Nat → ClassId) (base : Nat) (B : jF) (hB : jBok B) (hAp : jAp (dC, dI)) (hB1 : ∀ n G a H, B 1 n G a H ↔ jOb (dC, dI) 1 3 (F1 n G) a H) (hB3 : ∀ n G a H, B 3 n G a H ↔ jOb (dC, dI) 3 17 (F3 n G) a H) (hB13 : ∀ n G a H, B 13 n G a H ↔ jOb (dC, dI) 13 19 (F13 n G) a H) (hB173 : ∀ n G a H, B 173 n G a H ↔ jAr (dC, dI) (ca 1) (fun j z => True) n a H) (hB221 : ∀ n G a H, B 221 n G a H ↔ jAq (dC, dI) (ca 9) (jQn 3 0) n G a H) (G0 : jT) (H0 : Heap) (r0 : Nat) (a1 : Int32) (a2 : Int32) (wl : jWl9) : Met l yX11_unit (jw yX11_unit cX11_unit 4 (some .int)) ({ frames := 4, cells := 0, slots := 0, locals := 85 }) (va_Pc [.ref r0, .int a1, .int a2] (fun U => U.heap = H0 ∧ jX B base G0 [] H0 ∧ jG dC dI ca base U ∧ jK7 dC dI ca base U ∧ G0 r0 = some (13, 0) ∧ jP (dC, dI) G0 H0 [] ∧ jIs (dC, dI) G0 H0 [(jFl, jLs dC dI ca G0 3 none wl)] ∧ True)) (va_Qi (S := Unit) (fun r u => (True)) (fun u t => (jRt (dC, dI) B base G0 EX11_unit H0 [] t.heap) ∧ jIs (dC, dI) G0 t.heap [(jFl, jLs dC dI ca G0 3 none wl)]) (jA base)) 0 0 (jA base) := by
  refine Met.ofW (cc := cX11_unit) (maxL := 4) (ret := (some .int)) (by decide) rfl ?_
  intro p e s m args below meth c s₁ Bd hml hv
  obtain ⟨rfl, hH0, hX, hG, hK7, hg_r0, hP0, hI0, hp0⟩ := hv
  have hK := hG.1
  have hx := Bd.exec
  have hb := Bd.bytes
  have hr := Bd.returns
  have hts := atoms_spec (ws := (jw yX11_unit cX11_unit 4 (some .int))) Bd.pre
  have htw : ∀ w ∈ jWl, w.before _ s = true := fun w h => hts w (List.mem_cons_of_mem _ h)
  have hown : s.vm.findClass RX11 = some m.cls := findClass_of_methodNamed Bd.named
  have hlocks := Bd.notSynchronized
  obtain ⟨Q, hQ⟩ : ∃ Q, Q = MQ below (va_Qi (S := Unit) (fun r u => (True)) (fun u t => (jRt (dC, dI) B base G0 EX11_unit H0 [] t.heap) ∧ jIs (dC, dI) G0 t.heap [(jFl, jLs dC dI ca G0 3 none wl)]) (jA base)) ([.ref r0, .int a1, .int a2] : List Value).toArray s 0 0 (jA base) := ⟨_, rfl⟩
  rw [← hQ]
  have hl := lv_entry ([.ref r0, .int a1, .int a2]) (n := 4) (Nat.le_of_ble_eq_true rfl)
  rw [lg_entry_eq]
  generalize (lg_sl ([.ref r0, .int a1, .int a2]) ++ List.replicate (4 - (lg_sl ([.ref r0, .int a1, .int a2])).length) Slot.unset).toArray = ls at hl ⊢
  have hl : lv_has ls 4 [(0, .ref r0), (1, .int a1), (2, .int a2)] := hl
  generalize hR : (headSpec (jw yX11_unit cX11_unit 4 (some .int)) ({ frames := 4, cells := 0, slots := 0, locals := 85 })).room = R
  subst hH0
  have hh : jSt (dC, dI) B base G0 G0 EX11_unit s.heap 0 0 [] [] [(jFl, jLs dC dI ca G0 3 none wl)] s.heap [] := jSt.start hX hP0 jMc.nil hI0
  clear hX hP0
  have hkm1 : ((-1) : Int32).toInt = (-1) := by decide
  have hk0 : (0 : Int32).toInt = 0 := by decide
  have hk1 : (1 : Int32).toInt = 1 := by decide
  have hly_3_2 := htw (u_lay RX1 TX1 2) (jWc_wsX10 _ (u_in_lay (by decide)))
  have hly_3_3 := htw (u_lay RX1 TX1 3) (jWc_wsX10 _ (u_in_lay (by decide)))
  have hlk_165 := (htw (.fieldLink RX11 165 "ProofServer$Document" "length" "I") (jWr_41 _ (List.mem_of_getElem? (i := 20) rfl)))
  have hlk_174 := (htw (.fieldLink RX11 174 "ProofServer$Document" "text" "[I") (jWr_77 _ (List.mem_of_getElem? (i := 15) rfl)))
  have hrg_a1 := jb_rng a1
  have hrg_a2 := jb_rng a2
  refine lv_aload_n hx hb dX11_unit_0 rfl (lv_at hl 0 rfl) ?_
  refine lv_iload_n hx hb dX11_unit_1 rfl (lv_at hl 1 rfl) ?_
  refine j_callx (A0 := jA base) (H0 := s.heap) (va_runV (As := [.int a1]) (rest := []) ⟨hx, hb, hml, hown, hts⟩ (uX11_openAt l dC dI ca base B hB hAp hB1 hB3 hB13 hB221 G0 s.heap r0 a1 wl) (cwV 1 hts (jgV (jWr_92 _ (List.mem_of_getElem? (i := 10) rfl)) (jWr_92 _ (List.mem_of_getElem? (i := 11) rfl)) (jWr_92 _ (List.mem_of_getElem? (i := 12) rfl)) (jWr_1 _ (List.mem_of_getElem? (i := 2) rfl)) (jWr_92 _ (List.mem_of_getElem? (i := 13) rfl))) rfl rfl rfl (by decide +kernel) ⟨by rw [← hR]; exact Nat.le_of_ble_eq_true rfl, by rw [← hR]; exact Nat.le_of_ble_eq_true rfl⟩) ⟨fun a U g mk q => by obtain ⟨q0, q1, q2, qK, q10, q11, q12, q13, q14⟩ := q; exact ⟨q0, q1, q2, jG.calling g mk a qK, (jK7.calling g mk a q10), q11, q12, q13, q14⟩, hh.recv (C := RX11) (T := TX11) (N := 19) hB13 rfl (by decide) hg_r0 hK, fun U hU hW => ⟨rfl, hU, hh.2.1, hG.step hW hU hh.1, (hK7.step hW hU hh.1), hg_r0, jP.nil, (hh.2.2.2.2.2.2.2.2.sub (L1 := [(jFl, jLs dC dI ca G0 3 none wl)]) [0] rfl), trivial⟩⟩ rfl rfl hl.1 rfl (lv_room (Nat.le_of_ble_eq_true rfl)) dX11_unit_2 ⟨Nat.zero_le _, Nat.zero_le _⟩) hh.1 (fun q _ h => h) (fun q h => h) (fun r_2 u_1 t_1 H_1 locs_1 ht_1 hvm_1 hr_2 hb_1 hz_1 hk_1 hS_1 => ?_)
  rw [ht_1] at hb_1
  obtain ⟨hb_1, hbE_1⟩ := hb_1
  obtain ⟨hb_11, hb_12, hb_13, hb_14, hb_15⟩ := hb_1
  have hh_1 : jSt (dC, dI) B base G0 G0 EX11_unit s.heap 0 0 [] [] [(jFl, jLs dC dI ca G0 3 none wl)] H_1 locs_1 := (((hh.call hb_11 hb_12 hb_13 hb_14 hS_1 rfl (L1 := []) [] rfl rfl (M1 := []) [] rfl rfl (I1 := []) [] rfl rfl).more hb_15)).addIs hbE_1
  clear hh ht_1 hvm_1 hz_1 hk_1 hS_1 hb_11 hb_12 hb_13 hb_14 hb_15
  clear  hbE_1
  rcases hr_2 with rfl | ⟨ret_3, rfl, hg_ret_3⟩
  · skip
    refine j7_nst_n (lv' := [(3, .null), (0, .ref r0), (1, .int a1), (2, .int a2)]) hx hb dX11_unit_5 rfl hl (by decide) rfl (fun ls hl => ?_)
    refine j7_nld_n hx hb dX11_unit_6 rfl (lv_at hl 0 rfl) ?_
    refine lv_ifnullN (tgt := 22) hx hb dX11_unit_7 (by decide) ?_
    refine lv_iconst (v := (-1)) hx hb dX11_unit_22 (by decide) ?_
    refine lv_goto (tgt := 32) hx hb dX11_unit_23 (by decide) ?_
    rw [hQ]
    exact W.iret (v := (-1)) hx hb hr (fun t ht hW => ⟨⟨(-1), (), rfl, trivial, ⟨hh_1.rt (M1 := []) [] rfl ht, by rw [ht]; exact hh_1.2.2.2.2.2.2.2.2.sub (L1 := [(jFl, jLs dC dI ca G0 3 none wl)]) [0] rfl⟩⟩, by rw [ht]; try exact hh_1.1.1, fun q h9 hq => by rw [ht]; try exact hh_1.1.2.1 q h9 hq⟩) hh_1.1.2.2 dX11_unit_32
  · skip
    refine lv_astore_n (lv' := [(3, .ref ret_3), (0, .ref r0), (1, .int a1), (2, .int a2)]) hx hb dX11_unit_5 rfl hl (by decide) rfl (fun ls hl => ?_)
    refine lv_aload_n hx hb dX11_unit_6 rfl (lv_at hl 0 rfl) ?_
    refine lv_ifnull hx hb dX11_unit_7 ?_
    refine lv_iload_n hx hb dX11_unit_10 rfl (lv_at hl 3 rfl) ?_
    refine lv_if_lt (tgt := 22) hx hb dX11_unit_11 (by decide) (fun c_4 => ?_) (fun c_4 => ?_)
    · skip
      have c_4' : a2.toInt < 0 := jb_lt (rfl) ((by decide)) c_4
      refine lv_iconst (v := (-1)) hx hb dX11_unit_22 (by decide) ?_
      refine lv_goto (tgt := 32) hx hb dX11_unit_23 (by decide) ?_
      rw [hQ]
      exact W.iret (v := (-1)) hx hb hr (fun t ht hW => ⟨⟨(-1), (), rfl, trivial, ⟨hh_1.rt (M1 := []) [] rfl ht, by rw [ht]; exact hh_1.2.2.2.2.2.2.2.2.sub (L1 := [(jFl, jLs dC dI ca G0 3 none wl)]) [0] rfl⟩⟩, by rw [ht]; try exact hh_1.1.1, fun q h9 hq => by rw [ht]; try exact hh_1.1.2.1 q h9 hq⟩) hh_1.1.2.2 dX11_unit_32
    · skip
      have c_4' : a2.toInt ≥ 0 := jb_lt_n (rfl) ((by decide)) c_4
      refine lv_iload_n hx hb dX11_unit_14 rfl (lv_at hl 3 rfl) ?_
      refine lv_aload_n hx hb dX11_unit_15 rfl (lv_at hl 0 rfl) ?_
      obtain ⟨v_5, hv_5, hh_6⟩ := hh_1.pin (C := RX1) (T := TX1) (N := 17) hB3 rfl (by decide) hg_ret_3 (i := 3) (by decide) rfl
      clear hh_1
      obtain ⟨length_7, rfl, hlolength_7, hhilength_7⟩ := hv_5
      refine j7_read hx hb hown hK (C := RX1) (T := TX1) (N := 17) rfl hly_3_3 hlk_165 (hh_6.at 0 rfl) dX11_unit_16 ?_
      refine lv_icmp_lt (tgt := 26) hx hb dX11_unit_19 (by decide) (fun c_8 => ?_) (fun c_8 => ?_)
      · skip
        have c_8' : a2.toInt < length_7.toInt := jb_lt (rfl) (rfl) c_8
        refine lv_aload_n hx hb dX11_unit_26 rfl (lv_at hl 0 rfl) ?_
        obtain ⟨v_9, hv_9, hh_10⟩ := hh_6.pin (C := RX1) (T := TX1) (N := 17) hB3 rfl (by decide) hg_ret_3 (i := 2) (by decide) rfl
        clear hh_6
        obtain ⟨text_11, rfl, hg_text_11⟩ := hv_9
        refine j7_read hx hb hown hK (C := RX1) (T := TX1) (N := 17) rfl hly_3_2 hlk_174 (hh_10.at 0 rfl) dX11_unit_27 ?_
        refine lv_iload_n hx hb dX11_unit_30 rfl (lv_at hl 3 rfl) ?_
        refine j7_iald hx hb hK hh_10 hB173 1 rfl (by decide) hg_text_11 (x := a2.toInt) (rfl) (by omega) dX11_unit_31 (fun z_12 (hz_12 : True) => ?_)
        rw [hQ]
        exact W.iret (v := z_12) hx hb hr (fun t ht hW => ⟨⟨z_12, (), rfl, trivial, ⟨hh_10.rt (M1 := []) [] rfl ht, by rw [ht]; exact hh_10.2.2.2.2.2.2.2.2.sub (L1 := [(jFl, jLs dC dI ca G0 3 none wl)]) [0] rfl⟩⟩, by rw [ht]; try exact hh_10.1.1, fun q h9 hq => by rw [ht]; try exact hh_10.1.2.1 q h9 hq⟩) hh_10.1.2.2 dX11_unit_32
      · skip
        have c_8' : a2.toInt ≥ length_7.toInt := jb_lt_n (rfl) (rfl) c_8
        refine lv_iconst (v := (-1)) hx hb dX11_unit_22 (by decide) ?_
        refine lv_goto (tgt := 32) hx hb dX11_unit_23 (by decide) ?_
        rw [hQ]
        exact W.iret (v := (-1)) hx hb hr (fun t ht hW => ⟨⟨(-1), (), rfl, trivial, ⟨hh_6.rt (M1 := []) [] rfl ht, by rw [ht]; exact hh_6.2.2.2.2.2.2.2.2.sub (L1 := [(jFl, jLs dC dI ca G0 3 none wl)]) [0] rfl⟩⟩, by rw [ht]; try exact hh_6.1.1, fun q h9 hq => by rw [ht]; try exact hh_6.1.2.1 q h9 hq⟩) hh_6.1.2.2 dX11_unit_32
set_option maxHeartbeats 4000000 in
set_option maxRecDepth 20000 in
theorem uX11_sentence (l : Launch) (dC : Nat → ClassId) (dI : Nat → Nat → Nat) (ca : Nat → ClassId) (base : Nat) (B : jF) (hB : jBok B) (hAp : jAp (dC, dI)) (hB1 : ∀ n G a H, B 1 n G a H ↔ jOb (dC, dI) 1 3 (F1 n G) a H) (hB3 : ∀ n G a H, B 3 n G a H ↔ jOb (dC, dI) 3 17 (F3 n G) a H) (hB11 : ∀ n G a H, B 11 n G a H ↔ jOb (dC, dI) 11 9 (F11 n G) a H) (hB13 : ∀ n G a H, B 13 n G a H ↔ jOb (dC, dI) 13 19 (F13 n G) a H) (hB171 : ∀ n G a H, B 171 n G a H ↔ jAr (dC, dI) (ca 1) (fun j z => 0 ≤ z.toInt ∧ z.toInt ≤ 1500) n a H) (hB172 : ∀ n G a H, B 172 n G a H ↔ jAr (dC, dI) (ca 1) (fun j z => 0 ≤ z.toInt ∧ z.toInt ≤ 1500) n a H) (hB176 : ∀ n G a H, B 176 n G a H ↔ jAr (dC, dI) (ca 1) (fun j z => True) n a H) (hB210 : ∀ n G a H, B 210 n G a H ↔ jAq (dC, dI) (ca 6) (jQn 11 0) n G a H) (hB221 : ∀ n G a H, B 221 n G a H ↔ jAq (dC, dI) (ca 9) (jQn 3 0) n G a H) (G0 : jT) (H0 : Heap) (r0 : Nat) (a1 : Int32) (a2 : Int32) (a3 : Int32) (wl : jWl9) : Met l yX11_sentence (jw yX11_sentence cX11_sentence 6 (some .int)) ({ frames := 4, cells := 0, slots := 0, locals := 85 }) (va_Pc [.ref r0, .int a1, .int a2, .int a3] (fun U => U.heap = H0 ∧ jX B base G0 [] H0 ∧ jG dC dI ca base U ∧ jK2 dC dI ca U ∧ jK7 dC dI ca base U ∧ G0 r0 = some (13, 0) ∧ jP (dC, dI) G0 H0 [] ∧ jIs (dC, dI) G0 H0 [(jFl, jLs dC dI ca G0 3 none wl)] ∧ True)) (va_Qi (S := Unit) (fun r u => (True)) (fun u t => (jRt (dC, dI) B base G0 EX11_sentence H0 [] t.heap) ∧ jIs (dC, dI) G0 t.heap [(jFl, jLs dC dI ca G0 3 none wl)]) (jA base)) 0 0 (jA base) := by
  refine Met.ofW (cc := cX11_sentence) (maxL := 6) (ret := (some .int)) (by decide) rfl ?_
  intro p e s m args below meth c s₁ Bd hml hv
  obtain ⟨rfl, hH0, hX, hG, hK2, hK7, hg_r0, hP0, hI0, hp0⟩ := hv
  have hK := hG.1
  have hx := Bd.exec
  have hb := Bd.bytes
  have hr := Bd.returns
  have hts := atoms_spec (ws := (jw yX11_sentence cX11_sentence 6 (some .int))) Bd.pre
  have htw : ∀ w ∈ jWl, w.before _ s = true := fun w h => hts w (List.mem_cons_of_mem _ h)
  have hown : s.vm.findClass RX11 = some m.cls := findClass_of_methodNamed Bd.named
  have hlocks := Bd.notSynchronized
  obtain ⟨Q, hQ⟩ : ∃ Q, Q = MQ below (va_Qi (S := Unit) (fun r u => (True)) (fun u t => (jRt (dC, dI) B base G0 EX11_sentence H0 [] t.heap) ∧ jIs (dC, dI) G0 t.heap [(jFl, jLs dC dI ca G0 3 none wl)]) (jA base)) ([.ref r0, .int a1, .int a2, .int a3] : List Value).toArray s 0 0 (jA base) := ⟨_, rfl⟩
  rw [← hQ]
  have hl := lv_entry ([.ref r0, .int a1, .int a2, .int a3]) (n := 6) (Nat.le_of_ble_eq_true rfl)
  rw [lg_entry_eq]
  generalize (lg_sl ([.ref r0, .int a1, .int a2, .int a3]) ++ List.replicate (6 - (lg_sl ([.ref r0, .int a1, .int a2, .int a3])).length) Slot.unset).toArray = ls at hl ⊢
  have hl : lv_has ls 6 [(0, .ref r0), (1, .int a1), (2, .int a2), (3, .int a3)] := hl
  generalize hR : (headSpec (jw yX11_sentence cX11_sentence 6 (some .int)) ({ frames := 4, cells := 0, slots := 0, locals := 85 })).room = R
  subst hH0
  have hh : jSt (dC, dI) B base G0 G0 EX11_sentence s.heap 0 0 [] [] [(jFl, jLs dC dI ca G0 3 none wl)] s.heap [] := jSt.start hX hP0 jMc.nil hI0
  clear hX hP0
  have hkm1 : ((-1) : Int32).toInt = (-1) := by decide
  have hk0 : (0 : Int32).toInt = 0 := by decide
  have hk1 : (1 : Int32).toInt = 1 := by decide
  have hly_3_4 := htw (u_lay RX1 TX1 4) (jWc_wsX10 _ (u_in_lay (by decide)))
  have hly_3_5 := htw (u_lay RX1 TX1 5) (jWc_wsX10 _ (u_in_lay (by decide)))
  have hly_3_6 := htw (u_lay RX1 TX1 6) (jWc_wsX10 _ (u_in_lay (by decide)))
  have hly_3_7 := htw (u_lay RX1 TX1 7) (jWc_wsX10 _ (u_in_lay (by decide)))
  have hly_3_9 := htw (u_lay RX1 TX1 9) (jWc_wsX10 _ (u_in_lay (by decide)))
  have hly_3_10 := htw (u_lay RX1 TX1 10) (jWc_wsX10 _ (u_in_lay (by decide)))
  have hly_11_2 := htw (u_lay RX9 TX9 2) (jWc_wsX90 _ (u_in_lay (by decide)))
  have hlk_168 := (htw (.fieldLink RX11 168 "ProofServer$Document" "sentences" "I") (jWr_35 _ (List.mem_of_getElem? (i := 4) rfl)))
  have hlk_171 := (htw (.fieldLink RX11 171 "ProofServer$Document" "checked" "I") (jWr_35 _ (List.mem_of_getElem? (i := 17) rfl)))
  have hlk_178 := (htw (.fieldLink RX11 178 "ProofServer$Document" "behind" "[LProofServer$State;") (jWr_39 _ (List.mem_of_getElem? (i := 23) rfl)))
  have hlk_182 := (htw (.fieldLink RX11 182 "ProofServer$Document" "starts" "[I") (jWr_40 _ (List.mem_of_getElem? (i := 13) rfl)))
  have hlk_185 := (htw (.fieldLink RX11 185 "ProofServer$Document" "ends" "[I") (jWr_40 _ (List.mem_of_getElem? (i := 14) rfl)))
  have hlk_188 := (htw (.fieldLink RX11 188 "ProofServer$State" "fault" "I") (jWr_40 _ (List.mem_of_getElem? (i := 0) rfl)))
  have hlk_193 := (htw (.fieldLink RX11 193 "ProofServer$Document" "costs" "[I") (jWr_77 _ (List.mem_of_getElem? (i := 16) rfl)))
  have hrg_a1 := jb_rng a1
  have hrg_a2 := jb_rng a2
  have hrg_a3 := jb_rng a3
  refine lv_aload_n hx hb dX11_sentence_0 rfl (lv_at hl 0 rfl) ?_
  refine lv_iload_n hx hb dX11_sentence_1 rfl (lv_at hl 1 rfl) ?_
  refine j_callx (A0 := jA base) (H0 := s.heap) (va_runV (As := [.int a1]) (rest := []) ⟨hx, hb, hml, hown, hts⟩ (uX11_openAt l dC dI ca base B hB hAp hB1 hB3 hB13 hB221 G0 s.heap r0 a1 wl) (cwV 1 hts (jgV (jWr_92 _ (List.mem_of_getElem? (i := 10) rfl)) (jWr_92 _ (List.mem_of_getElem? (i := 11) rfl)) (jWr_92 _ (List.mem_of_getElem? (i := 12) rfl)) (jWr_1 _ (List.mem_of_getElem? (i := 2) rfl)) (jWr_92 _ (List.mem_of_getElem? (i := 13) rfl))) rfl rfl rfl (by decide +kernel) ⟨by rw [← hR]; exact Nat.le_of_ble_eq_true rfl, by rw [← hR]; exact Nat.le_of_ble_eq_true rfl⟩) ⟨fun a U g mk q => by obtain ⟨q0, q1, q2, qK, q10, q11, q12, q13, q14⟩ := q; exact ⟨q0, q1, q2, jG.calling g mk a qK, (jK7.calling g mk a q10), q11, q12, q13, q14⟩, hh.recv (C := RX11) (T := TX11) (N := 19) hB13 rfl (by decide) hg_r0 hK, fun U hU hW => ⟨rfl, hU, hh.2.1, hG.step hW hU hh.1, (hK7.step hW hU hh.1), hg_r0, jP.nil, (hh.2.2.2.2.2.2.2.2.sub (L1 := [(jFl, jLs dC dI ca G0 3 none wl)]) [0] rfl), trivial⟩⟩ rfl rfl hl.1 rfl (lv_room (Nat.le_of_ble_eq_true rfl)) dX11_sentence_2 ⟨Nat.zero_le _, Nat.zero_le _⟩) hh.1 (fun q _ h => h) (fun q h => h) (fun r_2 u_1 t_1 H_1 locs_1 ht_1 hvm_1 hr_2 hb_1 hz_1 hk_1 hS_1 => ?_)
  rw [ht_1] at hb_1
  obtain ⟨hb_1, hbE_1⟩ := hb_1
  obtain ⟨hb_11, hb_12, hb_13, hb_14, hb_15⟩ := hb_1
  have hh_1 : jSt (dC, dI) B base G0 G0 EX11_sentence s.heap 0 0 [] [] [(jFl, jLs dC dI ca G0 3 none wl)] H_1 locs_1 := (((hh.call hb_11 hb_12 hb_13 hb_14 hS_1 rfl (L1 := []) [] rfl rfl (M1 := []) [] rfl rfl (I1 := []) [] rfl rfl).more hb_15)).addIs hbE_1
  clear hh ht_1 hvm_1 hz_1 hk_1 hS_1 hb_11 hb_12 hb_13 hb_14 hb_15
  clear  hbE_1
  rcases hr_2 with rfl | ⟨ret_3, rfl, hg_ret_3⟩
  · skip
    refine j7_nst (lv' := [(4, .null), (0, .ref r0), (1, .int a1), (2, .int a2), (3, .int a3)]) hx hb dX11_sentence_5 hl (by decide) rfl (fun ls hl => ?_)
    refine j7_nld hx hb dX11_sentence_7 (lv_at hl 0 rfl) ?_
    refine lv_ifnullN (tgt := 25) hx hb dX11_sentence_9 (by decide) ?_
    refine lv_iconst (v := (-1)) hx hb dX11_sentence_25 (by decide) ?_
    rw [hQ]
    exact W.iret (v := (-1)) hx hb hr (fun t ht hW => ⟨⟨(-1), (), rfl, trivial, ⟨hh_1.rt (M1 := []) [] rfl ht, by rw [ht]; exact hh_1.2.2.2.2.2.2.2.2.sub (L1 := [(jFl, jLs dC dI ca G0 3 none wl)]) [0] rfl⟩⟩, by rw [ht]; try exact hh_1.1.1, fun q h9 hq => by rw [ht]; try exact hh_1.1.2.1 q h9 hq⟩) hh_1.1.2.2 dX11_sentence_26
  · skip
    refine lv_astore (lv' := [(4, .ref ret_3), (0, .ref r0), (1, .int a1), (2, .int a2), (3, .int a3)]) hx hb dX11_sentence_5 hl (by decide) rfl (fun ls hl => ?_)
    refine lv_aload hx hb dX11_sentence_7 (lv_at hl 0 rfl) ?_
    refine lv_ifnull hx hb dX11_sentence_9 ?_
    refine lv_iload_n hx hb dX11_sentence_12 rfl (lv_at hl 3 rfl) ?_
    refine lv_if_lt (tgt := 25) hx hb dX11_sentence_13 (by decide) (fun c_4 => ?_) (fun c_4 => ?_)
    · skip
      have c_4' : a2.toInt < 0 := jb_lt (rfl) ((by decide)) c_4
      refine lv_iconst (v := (-1)) hx hb dX11_sentence_25 (by decide) ?_
      rw [hQ]
      exact W.iret (v := (-1)) hx hb hr (fun t ht hW => ⟨⟨(-1), (), rfl, trivial, ⟨hh_1.rt (M1 := []) [] rfl ht, by rw [ht]; exact hh_1.2.2.2.2.2.2.2.2.sub (L1 := [(jFl, jLs dC dI ca G0 3 none wl)]) [0] rfl⟩⟩, by rw [ht]; try exact hh_1.1.1, fun q h9 hq => by rw [ht]; try exact hh_1.1.2.1 q h9 hq⟩) hh_1.1.2.2 dX11_sentence_26
    · skip
      have c_4' : a2.toInt ≥ 0 := jb_lt_n (rfl) ((by decide)) c_4
      refine lv_iload_n hx hb dX11_sentence_16 rfl (lv_at hl 3 rfl) ?_
      refine lv_aload hx hb dX11_sentence_17 (lv_at hl 0 rfl) ?_
      obtain ⟨v_5, hv_5, hh_6⟩ := hh_1.pin (C := RX1) (T := TX1) (N := 17) hB3 rfl (by decide) hg_ret_3 (i := 4) (by decide) rfl
      clear hh_1
      obtain ⟨sentences_7, rfl, hlosentences_7, hhisentences_7⟩ := hv_5
      refine j7_read hx hb hown hK (C := RX1) (T := TX1) (N := 17) rfl hly_3_4 hlk_168 (hh_6.at 0 rfl) dX11_sentence_19 ?_
      refine lv_icmp_lt (tgt := 27) hx hb dX11_sentence_22 (by decide) (fun c_8 => ?_) (fun c_8 => ?_)
      · skip
        have c_8' : a2.toInt < sentences_7.toInt := jb_lt (rfl) (rfl) c_8
        obtain ⟨v_9, hv_9, hh_10⟩ := hh_6.pin (C := RX1) (T := TX1) (N := 17) hB3 rfl (by decide) hg_ret_3 (i := 9) (by decide) rfl
        obtain ⟨behind_11, rfl, hg_behind_11⟩ := hv_9
        obtain ⟨fq_12, hfq_12a, hfq_12p⟩ := hh_10.aq hB210 (by decide) hg_behind_11
        have hh_13 := hh_10.addI (jQc.ie hfq_12a hg_behind_11 (by decide) (by decide))
        clear hh_10
        refine lv_iload_n hx hb dX11_sentence_27 rfl (lv_at hl 3 rfl) ?_
        refine lv_aload hx hb dX11_sentence_28 (lv_at hl 0 rfl) ?_
        obtain ⟨v_14, hv_14, hh_15⟩ := hh_13.pin (C := RX1) (T := TX1) (N := 17) hB3 rfl (by decide) hg_ret_3 (i := 10) (by decide) rfl
        clear hh_13
        obtain ⟨checked_16, rfl, hlochecked_16, hhichecked_16⟩ := hv_14
        refine j7_read hx hb hown hK (C := RX1) (T := TX1) (N := 17) rfl hly_3_10 hlk_171 (hh_15.at 0 rfl) dX11_sentence_30 ?_
        refine lv_icmp_ge (tgt := 50) hx hb dX11_sentence_33 (by decide) (fun c_17 => ?_) (fun c_17 => ?_)
        · skip
          have c_17' : a2.toInt ≥ checked_16.toInt := jb_ge (rfl) (rfl) c_17
          refine lv_iconst (v := 0) hx hb dX11_sentence_50 (by decide) ?_
          refine lv_istore (lv' := [(5, .int 0), (4, .ref ret_3), (0, .ref r0), (1, .int a1), (2, .int a2), (3, .int a3)]) hx hb dX11_sentence_51 hl (by decide) rfl (fun ls hl => ?_)
          refine lv_iload_n hx hb dX11_sentence_53 rfl (lv_at hl 5 rfl) ?_
          rcases (by omega : (a3.toInt < 0 ∨ 4 < a3.toInt) ∨ a3.toInt = 0 ∨ a3.toInt = 1 ∨ a3.toInt = 2 ∨ a3.toInt = 3 ∨ a3.toInt = 4) with c_18 | c_18 | c_18 | c_18 | c_18 | c_18
          · refine lv_tableOut (tgt := 143) hx hb dX11_sentence_54 c_18 (by decide) ?_
            refine lv_iconst (v := (-1)) hx hb dX11_sentence_143 (by decide) ?_
            rw [hQ]
            exact W.iret (v := (-1)) hx hb hr (fun t ht hW => ⟨⟨(-1), (), rfl, trivial, ⟨hh_15.rt (M1 := []) [] rfl ht, by rw [ht]; exact hh_15.2.2.2.2.2.2.2.2.sub (L1 := [(jFl, jLs dC dI ca G0 3 none wl)]) [1] rfl⟩⟩, by rw [ht]; try exact hh_15.1.1, fun q h9 hq => by rw [ht]; try exact hh_15.1.2.1 q h9 hq⟩) hh_15.1.2.2 dX11_sentence_144
          · refine lv_tableIn (off := 34) (tgt := 88) hx hb dX11_sentence_54 (by omega) (by omega) (by rw [c_18]; rfl) (by decide) ?_
            refine lv_aload hx hb dX11_sentence_88 (lv_at hl 1 rfl) ?_
            obtain ⟨v_19, hv_19, hh_20⟩ := hh_15.pin (C := RX1) (T := TX1) (N := 17) hB3 rfl (by decide) hg_ret_3 (i := 5) (by decide) rfl
            clear hh_15
            obtain ⟨starts_21, rfl, hg_starts_21⟩ := hv_19
            refine j7_read hx hb hown hK (C := RX1) (T := TX1) (N := 17) rfl hly_3_5 hlk_182 (hh_20.at 0 rfl) dX11_sentence_90 ?_
            refine lv_iload_n hx hb dX11_sentence_93 rfl (lv_at hl 4 rfl) ?_
            refine j7_iald hx hb hK hh_20 hB171 1 rfl (by decide) hg_starts_21 (x := a2.toInt) (rfl) (by omega) dX11_sentence_94 (fun z_22 (hz_22 : 0 ≤ z_22.toInt ∧ z_22.toInt ≤ 1500) => ?_)
            rw [hQ]
            exact W.iret (v := z_22) hx hb hr (fun t ht hW => ⟨⟨z_22, (), rfl, trivial, ⟨hh_20.rt (M1 := []) [] rfl ht, by rw [ht]; exact hh_20.2.2.2.2.2.2.2.2.sub (L1 := [(jFl, jLs dC dI ca G0 3 none wl)]) [1] rfl⟩⟩, by rw [ht]; try exact hh_20.1.1, fun q h9 hq => by rw [ht]; try exact hh_20.1.2.1 q h9 hq⟩) hh_20.1.2.2 dX11_sentence_95
          · refine lv_tableIn (off := 42) (tgt := 96) hx hb dX11_sentence_54 (by omega) (by omega) (by rw [c_18]; rfl) (by decide) ?_
            refine lv_aload hx hb dX11_sentence_96 (lv_at hl 1 rfl) ?_
            obtain ⟨v_23, hv_23, hh_24⟩ := hh_15.pin (C := RX1) (T := TX1) (N := 17) hB3 rfl (by decide) hg_ret_3 (i := 6) (by decide) rfl
            clear hh_15
            obtain ⟨ends_25, rfl, hg_ends_25⟩ := hv_23
            refine j7_read hx hb hown hK (C := RX1) (T := TX1) (N := 17) rfl hly_3_6 hlk_185 (hh_24.at 0 rfl) dX11_sentence_98 ?_
            refine lv_iload_n hx hb dX11_sentence_101 rfl (lv_at hl 4 rfl) ?_
            refine j7_iald hx hb hK hh_24 hB172 1 rfl (by decide) hg_ends_25 (x := a2.toInt) (rfl) (by omega) dX11_sentence_102 (fun z_26 (hz_26 : 0 ≤ z_26.toInt ∧ z_26.toInt ≤ 1500) => ?_)
            rw [hQ]
            exact W.iret (v := z_26) hx hb hr (fun t ht hW => ⟨⟨z_26, (), rfl, trivial, ⟨hh_24.rt (M1 := []) [] rfl ht, by rw [ht]; exact hh_24.2.2.2.2.2.2.2.2.sub (L1 := [(jFl, jLs dC dI ca G0 3 none wl)]) [1] rfl⟩⟩, by rw [ht]; try exact hh_24.1.1, fun q h9 hq => by rw [ht]; try exact hh_24.1.2.1 q h9 hq⟩) hh_24.1.2.2 dX11_sentence_103
          · refine lv_tableIn (off := 50) (tgt := 104) hx hb dX11_sentence_54 (by omega) (by omega) (by rw [c_18]; rfl) (by decide) ?_
            refine lv_iload hx hb dX11_sentence_104 (lv_at hl 0 rfl) ?_
            refine lv_if_eq (tgt := 113) hx hb dX11_sentence_106 (by decide) (fun c_27 => ?_) (fun c_27 => ?_)
            · skip
              refine lv_iconst (v := 0) hx hb dX11_sentence_113 (by decide) ?_
              rw [hQ]
              exact W.iret (v := 0) hx hb hr (fun t ht hW => ⟨⟨0, (), rfl, trivial, ⟨hh_15.rt (M1 := []) [] rfl ht, by rw [ht]; exact hh_15.2.2.2.2.2.2.2.2.sub (L1 := [(jFl, jLs dC dI ca G0 3 none wl)]) [1] rfl⟩⟩, by rw [ht]; try exact hh_15.1.1, fun q h9 hq => by rw [ht]; try exact hh_15.1.2.1 q h9 hq⟩) hh_15.1.2.2 dX11_sentence_114
            · skip
              exact absurd c_27 (by decide)
          · refine lv_tableIn (off := 61) (tgt := 115) hx hb dX11_sentence_54 (by omega) (by omega) (by rw [c_18]; rfl) (by decide) ?_
            refine lv_iload hx hb dX11_sentence_115 (lv_at hl 0 rfl) ?_
            refine lv_if_eq (tgt := 133) hx hb dX11_sentence_117 (by decide) (fun c_28 => ?_) (fun c_28 => ?_)
            · skip
              refine lv_iconst (v := (-1)) hx hb dX11_sentence_133 (by decide) ?_
              rw [hQ]
              exact W.iret (v := (-1)) hx hb hr (fun t ht hW => ⟨⟨(-1), (), rfl, trivial, ⟨hh_15.rt (M1 := []) [] rfl ht, by rw [ht]; exact hh_15.2.2.2.2.2.2.2.2.sub (L1 := [(jFl, jLs dC dI ca G0 3 none wl)]) [1] rfl⟩⟩, by rw [ht]; try exact hh_15.1.1, fun q h9 hq => by rw [ht]; try exact hh_15.1.2.1 q h9 hq⟩) hh_15.1.2.2 dX11_sentence_134
            · skip
              exact absurd c_28 (by decide)
          · refine lv_tableIn (off := 81) (tgt := 135) hx hb dX11_sentence_54 (by omega) (by omega) (by rw [c_18]; rfl) (by decide) ?_
            refine lv_aload hx hb dX11_sentence_135 (lv_at hl 1 rfl) ?_
            obtain ⟨v_29, hv_29, hh_30⟩ := hh_15.pin (C := RX1) (T := TX1) (N := 17) hB3 rfl (by decide) hg_ret_3 (i := 7) (by decide) rfl
            clear hh_15
            obtain ⟨costs_31, rfl, hg_costs_31⟩ := hv_29
            refine j7_read hx hb hown hK (C := RX1) (T := TX1) (N := 17) rfl hly_3_7 hlk_193 (hh_30.at 0 rfl) dX11_sentence_137 ?_
            refine lv_iload_n hx hb dX11_sentence_140 rfl (lv_at hl 4 rfl) ?_
            refine j7_iald hx hb hK hh_30 hB176 1 rfl (by decide) hg_costs_31 (x := a2.toInt) (rfl) (by omega) dX11_sentence_141 (fun z_32 (hz_32 : True) => ?_)
            rw [hQ]
            exact W.iret (v := z_32) hx hb hr (fun t ht hW => ⟨⟨z_32, (), rfl, trivial, ⟨hh_30.rt (M1 := []) [] rfl ht, by rw [ht]; exact hh_30.2.2.2.2.2.2.2.2.sub (L1 := [(jFl, jLs dC dI ca G0 3 none wl)]) [1] rfl⟩⟩, by rw [ht]; try exact hh_30.1.1, fun q h9 hq => by rw [ht]; try exact hh_30.1.2.1 q h9 hq⟩) hh_30.1.2.2 dX11_sentence_142
        · skip
          have c_17' : a2.toInt < checked_16.toInt := jb_ge_n (rfl) (rfl) c_17
          refine lv_aload hx hb dX11_sentence_36 (lv_at hl 0 rfl) ?_
          refine j7_read hx hb hown hK (C := RX1) (T := TX1) (N := 17) rfl hly_3_9 hlk_178 (hh_15.at 1 rfl) dX11_sentence_38 ?_
          refine lv_iload_n hx hb dX11_sentence_41 rfl (lv_at hl 3 rfl) ?_
          refine j7_qaldI hx hb hK2 hh_15 hB210 2 rfl (by decide) hg_behind_11 (x := a2.toInt) (rfl) (by omega) (hh_15.iv 0 rfl) dX11_sentence_42 (fun o_33 ho_33 heo_33 => ?_)
          rcases ho_33 with rfl | ⟨el_34, rfl, hg_el_34⟩
          · simp only [va_rf]
            refine lv_ifnullN (tgt := 50) hx hb dX11_sentence_43 (by decide) ?_
            refine lv_iconst (v := 0) hx hb dX11_sentence_50 (by decide) ?_
            refine lv_istore (lv' := [(5, .int 0), (4, .ref ret_3), (0, .ref r0), (1, .int a1), (2, .int a2), (3, .int a3)]) hx hb dX11_sentence_51 hl (by decide) rfl (fun ls hl => ?_)
            refine lv_iload_n hx hb dX11_sentence_53 rfl (lv_at hl 5 rfl) ?_
            rcases (by omega : (a3.toInt < 0 ∨ 4 < a3.toInt) ∨ a3.toInt = 0 ∨ a3.toInt = 1 ∨ a3.toInt = 2 ∨ a3.toInt = 3 ∨ a3.toInt = 4) with c_35 | c_35 | c_35 | c_35 | c_35 | c_35
            · refine lv_tableOut (tgt := 143) hx hb dX11_sentence_54 c_35 (by decide) ?_
              refine lv_iconst (v := (-1)) hx hb dX11_sentence_143 (by decide) ?_
              rw [hQ]
              exact W.iret (v := (-1)) hx hb hr (fun t ht hW => ⟨⟨(-1), (), rfl, trivial, ⟨hh_15.rt (M1 := []) [] rfl ht, by rw [ht]; exact hh_15.2.2.2.2.2.2.2.2.sub (L1 := [(jFl, jLs dC dI ca G0 3 none wl)]) [1] rfl⟩⟩, by rw [ht]; try exact hh_15.1.1, fun q h9 hq => by rw [ht]; try exact hh_15.1.2.1 q h9 hq⟩) hh_15.1.2.2 dX11_sentence_144
            · refine lv_tableIn (off := 34) (tgt := 88) hx hb dX11_sentence_54 (by omega) (by omega) (by rw [c_35]; rfl) (by decide) ?_
              refine lv_aload hx hb dX11_sentence_88 (lv_at hl 1 rfl) ?_
              obtain ⟨v_36, hv_36, hh_37⟩ := hh_15.pin (C := RX1) (T := TX1) (N := 17) hB3 rfl (by decide) hg_ret_3 (i := 5) (by decide) rfl
              clear hh_15
              obtain ⟨starts_38, rfl, hg_starts_38⟩ := hv_36
              refine j7_read hx hb hown hK (C := RX1) (T := TX1) (N := 17) rfl hly_3_5 hlk_182 (hh_37.at 0 rfl) dX11_sentence_90 ?_
              refine lv_iload_n hx hb dX11_sentence_93 rfl (lv_at hl 4 rfl) ?_
              refine j7_iald hx hb hK hh_37 hB171 1 rfl (by decide) hg_starts_38 (x := a2.toInt) (rfl) (by omega) dX11_sentence_94 (fun z_39 (hz_39 : 0 ≤ z_39.toInt ∧ z_39.toInt ≤ 1500) => ?_)
              rw [hQ]
              exact W.iret (v := z_39) hx hb hr (fun t ht hW => ⟨⟨z_39, (), rfl, trivial, ⟨hh_37.rt (M1 := []) [] rfl ht, by rw [ht]; exact hh_37.2.2.2.2.2.2.2.2.sub (L1 := [(jFl, jLs dC dI ca G0 3 none wl)]) [1] rfl⟩⟩, by rw [ht]; try exact hh_37.1.1, fun q h9 hq => by rw [ht]; try exact hh_37.1.2.1 q h9 hq⟩) hh_37.1.2.2 dX11_sentence_95
            · refine lv_tableIn (off := 42) (tgt := 96) hx hb dX11_sentence_54 (by omega) (by omega) (by rw [c_35]; rfl) (by decide) ?_
              refine lv_aload hx hb dX11_sentence_96 (lv_at hl 1 rfl) ?_
              obtain ⟨v_40, hv_40, hh_41⟩ := hh_15.pin (C := RX1) (T := TX1) (N := 17) hB3 rfl (by decide) hg_ret_3 (i := 6) (by decide) rfl
              clear hh_15
              obtain ⟨ends_42, rfl, hg_ends_42⟩ := hv_40
              refine j7_read hx hb hown hK (C := RX1) (T := TX1) (N := 17) rfl hly_3_6 hlk_185 (hh_41.at 0 rfl) dX11_sentence_98 ?_
              refine lv_iload_n hx hb dX11_sentence_101 rfl (lv_at hl 4 rfl) ?_
              refine j7_iald hx hb hK hh_41 hB172 1 rfl (by decide) hg_ends_42 (x := a2.toInt) (rfl) (by omega) dX11_sentence_102 (fun z_43 (hz_43 : 0 ≤ z_43.toInt ∧ z_43.toInt ≤ 1500) => ?_)
              rw [hQ]
              exact W.iret (v := z_43) hx hb hr (fun t ht hW => ⟨⟨z_43, (), rfl, trivial, ⟨hh_41.rt (M1 := []) [] rfl ht, by rw [ht]; exact hh_41.2.2.2.2.2.2.2.2.sub (L1 := [(jFl, jLs dC dI ca G0 3 none wl)]) [1] rfl⟩⟩, by rw [ht]; try exact hh_41.1.1, fun q h9 hq => by rw [ht]; try exact hh_41.1.2.1 q h9 hq⟩) hh_41.1.2.2 dX11_sentence_103
            · refine lv_tableIn (off := 50) (tgt := 104) hx hb dX11_sentence_54 (by omega) (by omega) (by rw [c_35]; rfl) (by decide) ?_
              refine lv_iload hx hb dX11_sentence_104 (lv_at hl 0 rfl) ?_
              refine lv_if_eq (tgt := 113) hx hb dX11_sentence_106 (by decide) (fun c_44 => ?_) (fun c_44 => ?_)
              · skip
                refine lv_iconst (v := 0) hx hb dX11_sentence_113 (by decide) ?_
                rw [hQ]
                exact W.iret (v := 0) hx hb hr (fun t ht hW => ⟨⟨0, (), rfl, trivial, ⟨hh_15.rt (M1 := []) [] rfl ht, by rw [ht]; exact hh_15.2.2.2.2.2.2.2.2.sub (L1 := [(jFl, jLs dC dI ca G0 3 none wl)]) [1] rfl⟩⟩, by rw [ht]; try exact hh_15.1.1, fun q h9 hq => by rw [ht]; try exact hh_15.1.2.1 q h9 hq⟩) hh_15.1.2.2 dX11_sentence_114
              · skip
                exact absurd c_44 (by decide)
            · refine lv_tableIn (off := 61) (tgt := 115) hx hb dX11_sentence_54 (by omega) (by omega) (by rw [c_35]; rfl) (by decide) ?_
              refine lv_iload hx hb dX11_sentence_115 (lv_at hl 0 rfl) ?_
              refine lv_if_eq (tgt := 133) hx hb dX11_sentence_117 (by decide) (fun c_45 => ?_) (fun c_45 => ?_)
              · skip
                refine lv_iconst (v := (-1)) hx hb dX11_sentence_133 (by decide) ?_
                rw [hQ]
                exact W.iret (v := (-1)) hx hb hr (fun t ht hW => ⟨⟨(-1), (), rfl, trivial, ⟨hh_15.rt (M1 := []) [] rfl ht, by rw [ht]; exact hh_15.2.2.2.2.2.2.2.2.sub (L1 := [(jFl, jLs dC dI ca G0 3 none wl)]) [1] rfl⟩⟩, by rw [ht]; try exact hh_15.1.1, fun q h9 hq => by rw [ht]; try exact hh_15.1.2.1 q h9 hq⟩) hh_15.1.2.2 dX11_sentence_134
              · skip
                exact absurd c_45 (by decide)
            · refine lv_tableIn (off := 81) (tgt := 135) hx hb dX11_sentence_54 (by omega) (by omega) (by rw [c_35]; rfl) (by decide) ?_
              refine lv_aload hx hb dX11_sentence_135 (lv_at hl 1 rfl) ?_
              obtain ⟨v_46, hv_46, hh_47⟩ := hh_15.pin (C := RX1) (T := TX1) (N := 17) hB3 rfl (by decide) hg_ret_3 (i := 7) (by decide) rfl
              clear hh_15
              obtain ⟨costs_48, rfl, hg_costs_48⟩ := hv_46
              refine j7_read hx hb hown hK (C := RX1) (T := TX1) (N := 17) rfl hly_3_7 hlk_193 (hh_47.at 0 rfl) dX11_sentence_137 ?_
              refine lv_iload_n hx hb dX11_sentence_140 rfl (lv_at hl 4 rfl) ?_
              refine j7_iald hx hb hK hh_47 hB176 1 rfl (by decide) hg_costs_48 (x := a2.toInt) (rfl) (by omega) dX11_sentence_141 (fun z_49 (hz_49 : True) => ?_)
              rw [hQ]
              exact W.iret (v := z_49) hx hb hr (fun t ht hW => ⟨⟨z_49, (), rfl, trivial, ⟨hh_47.rt (M1 := []) [] rfl ht, by rw [ht]; exact hh_47.2.2.2.2.2.2.2.2.sub (L1 := [(jFl, jLs dC dI ca G0 3 none wl)]) [1] rfl⟩⟩, by rw [ht]; try exact hh_47.1.1, fun q h9 hq => by rw [ht]; try exact hh_47.1.2.1 q h9 hq⟩) hh_47.1.2.2 dX11_sentence_142
          · simp only [va_rf]
            refine lv_ifnull hx hb dX11_sentence_43 ?_
            refine lv_iconst (v := 1) hx hb dX11_sentence_46 (by decide) ?_
            refine lv_goto (tgt := 51) hx hb dX11_sentence_47 (by decide) ?_
            refine lv_istore (lv' := [(5, .int 1), (4, .ref ret_3), (0, .ref r0), (1, .int a1), (2, .int a2), (3, .int a3)]) hx hb dX11_sentence_51 hl (by decide) rfl (fun ls hl => ?_)
            refine lv_iload_n hx hb dX11_sentence_53 rfl (lv_at hl 5 rfl) ?_
            rcases (by omega : (a3.toInt < 0 ∨ 4 < a3.toInt) ∨ a3.toInt = 0 ∨ a3.toInt = 1 ∨ a3.toInt = 2 ∨ a3.toInt = 3 ∨ a3.toInt = 4) with c_50 | c_50 | c_50 | c_50 | c_50 | c_50
            · refine lv_tableOut (tgt := 143) hx hb dX11_sentence_54 c_50 (by decide) ?_
              refine lv_iconst (v := (-1)) hx hb dX11_sentence_143 (by decide) ?_
              rw [hQ]
              exact W.iret (v := (-1)) hx hb hr (fun t ht hW => ⟨⟨(-1), (), rfl, trivial, ⟨hh_15.rt (M1 := []) [] rfl ht, by rw [ht]; exact hh_15.2.2.2.2.2.2.2.2.sub (L1 := [(jFl, jLs dC dI ca G0 3 none wl)]) [1] rfl⟩⟩, by rw [ht]; try exact hh_15.1.1, fun q h9 hq => by rw [ht]; try exact hh_15.1.2.1 q h9 hq⟩) hh_15.1.2.2 dX11_sentence_144
            · refine lv_tableIn (off := 34) (tgt := 88) hx hb dX11_sentence_54 (by omega) (by omega) (by rw [c_50]; rfl) (by decide) ?_
              refine lv_aload hx hb dX11_sentence_88 (lv_at hl 1 rfl) ?_
              obtain ⟨v_51, hv_51, hh_52⟩ := hh_15.pin (C := RX1) (T := TX1) (N := 17) hB3 rfl (by decide) hg_ret_3 (i := 5) (by decide) rfl
              clear hh_15
              obtain ⟨starts_53, rfl, hg_starts_53⟩ := hv_51
              refine j7_read hx hb hown hK (C := RX1) (T := TX1) (N := 17) rfl hly_3_5 hlk_182 (hh_52.at 0 rfl) dX11_sentence_90 ?_
              refine lv_iload_n hx hb dX11_sentence_93 rfl (lv_at hl 4 rfl) ?_
              refine j7_iald hx hb hK hh_52 hB171 1 rfl (by decide) hg_starts_53 (x := a2.toInt) (rfl) (by omega) dX11_sentence_94 (fun z_54 (hz_54 : 0 ≤ z_54.toInt ∧ z_54.toInt ≤ 1500) => ?_)
              rw [hQ]
              exact W.iret (v := z_54) hx hb hr (fun t ht hW => ⟨⟨z_54, (), rfl, trivial, ⟨hh_52.rt (M1 := []) [] rfl ht, by rw [ht]; exact hh_52.2.2.2.2.2.2.2.2.sub (L1 := [(jFl, jLs dC dI ca G0 3 none wl)]) [1] rfl⟩⟩, by rw [ht]; try exact hh_52.1.1, fun q h9 hq => by rw [ht]; try exact hh_52.1.2.1 q h9 hq⟩) hh_52.1.2.2 dX11_sentence_95
            · refine lv_tableIn (off := 42) (tgt := 96) hx hb dX11_sentence_54 (by omega) (by omega) (by rw [c_50]; rfl) (by decide) ?_
              refine lv_aload hx hb dX11_sentence_96 (lv_at hl 1 rfl) ?_
              obtain ⟨v_55, hv_55, hh_56⟩ := hh_15.pin (C := RX1) (T := TX1) (N := 17) hB3 rfl (by decide) hg_ret_3 (i := 6) (by decide) rfl
              clear hh_15
              obtain ⟨ends_57, rfl, hg_ends_57⟩ := hv_55
              refine j7_read hx hb hown hK (C := RX1) (T := TX1) (N := 17) rfl hly_3_6 hlk_185 (hh_56.at 0 rfl) dX11_sentence_98 ?_
              refine lv_iload_n hx hb dX11_sentence_101 rfl (lv_at hl 4 rfl) ?_
              refine j7_iald hx hb hK hh_56 hB172 1 rfl (by decide) hg_ends_57 (x := a2.toInt) (rfl) (by omega) dX11_sentence_102 (fun z_58 (hz_58 : 0 ≤ z_58.toInt ∧ z_58.toInt ≤ 1500) => ?_)
              rw [hQ]
              exact W.iret (v := z_58) hx hb hr (fun t ht hW => ⟨⟨z_58, (), rfl, trivial, ⟨hh_56.rt (M1 := []) [] rfl ht, by rw [ht]; exact hh_56.2.2.2.2.2.2.2.2.sub (L1 := [(jFl, jLs dC dI ca G0 3 none wl)]) [1] rfl⟩⟩, by rw [ht]; try exact hh_56.1.1, fun q h9 hq => by rw [ht]; try exact hh_56.1.2.1 q h9 hq⟩) hh_56.1.2.2 dX11_sentence_103
            · refine lv_tableIn (off := 50) (tgt := 104) hx hb dX11_sentence_54 (by omega) (by omega) (by rw [c_50]; rfl) (by decide) ?_
              refine lv_iload hx hb dX11_sentence_104 (lv_at hl 0 rfl) ?_
              refine lv_if_eq (tgt := 113) hx hb dX11_sentence_106 (by decide) (fun c_59 => ?_) (fun c_59 => ?_)
              · skip
                exact absurd c_59 (by decide)
              · skip
                refine lv_iconst (v := 1) hx hb dX11_sentence_109 (by decide) ?_
                refine lv_goto (tgt := 114) hx hb dX11_sentence_110 (by decide) ?_
                rw [hQ]
                exact W.iret (v := 1) hx hb hr (fun t ht hW => ⟨⟨1, (), rfl, trivial, ⟨hh_15.rt (M1 := []) [] rfl ht, by rw [ht]; exact hh_15.2.2.2.2.2.2.2.2.sub (L1 := [(jFl, jLs dC dI ca G0 3 none wl)]) [1] rfl⟩⟩, by rw [ht]; try exact hh_15.1.1, fun q h9 hq => by rw [ht]; try exact hh_15.1.2.1 q h9 hq⟩) hh_15.1.2.2 dX11_sentence_114
            · refine lv_tableIn (off := 61) (tgt := 115) hx hb dX11_sentence_54 (by omega) (by omega) (by rw [c_50]; rfl) (by decide) ?_
              refine lv_iload hx hb dX11_sentence_115 (lv_at hl 0 rfl) ?_
              refine lv_if_eq (tgt := 133) hx hb dX11_sentence_117 (by decide) (fun c_60 => ?_) (fun c_60 => ?_)
              · skip
                exact absurd c_60 (by decide)
              · skip
                refine lv_aload hx hb dX11_sentence_120 (lv_at hl 1 rfl) ?_
                refine j7_read hx hb hown hK (C := RX1) (T := TX1) (N := 17) rfl hly_3_9 hlk_178 (hh_15.at 1 rfl) dX11_sentence_122 ?_
                refine lv_iload_n hx hb dX11_sentence_125 rfl (lv_at hl 4 rfl) ?_
                refine j7_qaldI hx hb hK2 hh_15 hB210 2 rfl (by decide) hg_behind_11 (x := a2.toInt) (rfl) (by omega) (hh_15.iv 0 rfl) dX11_sentence_126 (fun o_61 ho_61 heo_61 => ?_)
                rcases ho_61 with rfl | ⟨el_62, rfl, hg_el_62⟩
                · simp only [va_rf]
                  exact absurd (heo_61.trans heo_33.symm) (by simp)
                · simp only [va_rf]
                  obtain rfl : el_34 = el_62 := (Option.some.inj (heo_61.trans heo_33.symm)).symm
                  obtain ⟨v_63, hv_63, hh_64⟩ := hh_15.pin (C := RX9) (T := TX9) (N := 9) hB11 rfl (by decide) hg_el_34 (i := 2) (by decide) rfl
                  clear hh_15
                  obtain ⟨fault_65, rfl⟩ := hv_63
                  refine j7_read hx hb hown hK (C := RX9) (T := TX9) (N := 9) rfl hly_11_2 hlk_188 (hh_64.at 0 rfl) dX11_sentence_127 ?_
                  refine lv_goto (tgt := 134) hx hb dX11_sentence_130 (by decide) ?_
                  rw [hQ]
                  exact W.iret (v := fault_65) hx hb hr (fun t ht hW => ⟨⟨fault_65, (), rfl, trivial, ⟨hh_64.rt (M1 := []) [] rfl ht, by rw [ht]; exact hh_64.2.2.2.2.2.2.2.2.sub (L1 := [(jFl, jLs dC dI ca G0 3 none wl)]) [1] rfl⟩⟩, by rw [ht]; try exact hh_64.1.1, fun q h9 hq => by rw [ht]; try exact hh_64.1.2.1 q h9 hq⟩) hh_64.1.2.2 dX11_sentence_134
            · refine lv_tableIn (off := 81) (tgt := 135) hx hb dX11_sentence_54 (by omega) (by omega) (by rw [c_50]; rfl) (by decide) ?_
              refine lv_aload hx hb dX11_sentence_135 (lv_at hl 1 rfl) ?_
              obtain ⟨v_66, hv_66, hh_67⟩ := hh_15.pin (C := RX1) (T := TX1) (N := 17) hB3 rfl (by decide) hg_ret_3 (i := 7) (by decide) rfl
              clear hh_15
              obtain ⟨costs_68, rfl, hg_costs_68⟩ := hv_66
              refine j7_read hx hb hown hK (C := RX1) (T := TX1) (N := 17) rfl hly_3_7 hlk_193 (hh_67.at 0 rfl) dX11_sentence_137 ?_
              refine lv_iload_n hx hb dX11_sentence_140 rfl (lv_at hl 4 rfl) ?_
              refine j7_iald hx hb hK hh_67 hB176 1 rfl (by decide) hg_costs_68 (x := a2.toInt) (rfl) (by omega) dX11_sentence_141 (fun z_69 (hz_69 : True) => ?_)
              rw [hQ]
              exact W.iret (v := z_69) hx hb hr (fun t ht hW => ⟨⟨z_69, (), rfl, trivial, ⟨hh_67.rt (M1 := []) [] rfl ht, by rw [ht]; exact hh_67.2.2.2.2.2.2.2.2.sub (L1 := [(jFl, jLs dC dI ca G0 3 none wl)]) [1] rfl⟩⟩, by rw [ht]; try exact hh_67.1.1, fun q h9 hq => by rw [ht]; try exact hh_67.1.2.1 q h9 hq⟩) hh_67.1.2.2 dX11_sentence_142
      · skip
        have c_8' : a2.toInt ≥ sentences_7.toInt := jb_lt_n (rfl) (rfl) c_8
        refine lv_iconst (v := (-1)) hx hb dX11_sentence_25 (by decide) ?_
        rw [hQ]
        exact W.iret (v := (-1)) hx hb hr (fun t ht hW => ⟨⟨(-1), (), rfl, trivial, ⟨hh_6.rt (M1 := []) [] rfl ht, by rw [ht]; exact hh_6.2.2.2.2.2.2.2.2.sub (L1 := [(jFl, jLs dC dI ca G0 3 none wl)]) [0] rfl⟩⟩, by rw [ht]; try exact hh_6.1.1, fun q h9 hq => by rw [ht]; try exact hh_6.1.2.1 q h9 hq⟩) hh_6.1.2.2 dX11_sentence_26
set_option maxHeartbeats 4000000 in
set_option maxRecDepth 20000 in
theorem uX11_state (l : Launch) (dC : Nat → ClassId) (dI : Nat → Nat → Nat) (ca : Nat → ClassId) (base : Nat) (B : jF) (hB : jBok B) (hAp : jAp (dC, dI)) (hB1 : ∀ n G a H, B 1 n G a H ↔ jOb (dC, dI) 1 3 (F1 n G) a H) (hB2 : ∀ n G a H, B 2 n G a H ↔ jOb (dC, dI) 2 2 (F2 n G) a H) (hB3 : ∀ n G a H, B 3 n G a H ↔ jOb (dC, dI) 3 17 (F3 n G) a H) (hB4 : ∀ n G a H, B 4 n G a H ↔ jOb (dC, dI) 4 12 (F4 n G) a H) (hB13 : ∀ n G a H, B 13 n G a H ↔ jOb (dC, dI) 13 19 (F13 n G) a H) (hB17 : ∀ n G a H, B 17 n G a H ↔ jOb (dC, dI) 17 2 (F17 n G) a H) (hB212 : ∀ n G a H, B 212 n G a H ↔ jAq (dC, dI) (ca 5) (jQn 3 0) n G a H) (hB221 : ∀ n G a H, B 221 n G a H ↔ jAq (dC, dI) (ca 9) (jQn 3 0) n G a H) (G0 : jT) (H0 : Heap) (r0 : Nat) (a1 : Int32) (wl : jWl9) : Met l yX11_state (jw yX11_state cX11_state 2 (some .int)) ({ frames := 4, cells := 0, slots := 0, locals := 86 }) (va_Pc [.ref r0, .int a1] (fun U => U.heap = H0 ∧ jX B base G0 [] H0 ∧ jG dC dI ca base U ∧ jK2 dC dI ca U ∧ jK7 dC dI ca base U ∧ G0 r0 = some (13, 0) ∧ jP (dC, dI) G0 H0 [] ∧ jIs (dC, dI) G0 H0 [(jFl, jLs dC dI ca G0 3 none wl)] ∧ True)) (va_Qi (S := Unit) (fun r u => (True)) (fun u t => (jRt (dC, dI) B base G0 EX11_state H0 [] t.heap) ∧ jIs (dC, dI) G0 t.heap [(jFl, jLs dC dI ca G0 3 none wl)]) (jA base)) 0 0 (jA base) := by
  refine Met.ofW (cc := cX11_state) (maxL := 2) (ret := (some .int)) (by decide) rfl ?_
  intro p e s m args below meth c s₁ Bd hml hv
  obtain ⟨rfl, hH0, hX, hG, hK2, hK7, hg_r0, hP0, hI0, hp0⟩ := hv
  have hK := hG.1
  have hx := Bd.exec
  have hb := Bd.bytes
  have hr := Bd.returns
  have hts := atoms_spec (ws := (jw yX11_state cX11_state 2 (some .int))) Bd.pre
  have htw : ∀ w ∈ jWl, w.before _ s = true := fun w h => hts w (List.mem_cons_of_mem _ h)
  have hown : s.vm.findClass RX11 = some m.cls := findClass_of_methodNamed Bd.named
  have hlocks := Bd.notSynchronized
  obtain ⟨Q, hQ⟩ : ∃ Q, Q = MQ below (va_Qi (S := Unit) (fun r u => (True)) (fun u t => (jRt (dC, dI) B base G0 EX11_state H0 [] t.heap) ∧ jIs (dC, dI) G0 t.heap [(jFl, jLs dC dI ca G0 3 none wl)]) (jA base)) ([.ref r0, .int a1] : List Value).toArray s 0 0 (jA base) := ⟨_, rfl⟩
  rw [← hQ]
  have hl := lv_entry ([.ref r0, .int a1]) (n := 2) (Nat.le_of_ble_eq_true rfl)
  rw [lg_entry_eq]
  generalize (lg_sl ([.ref r0, .int a1]) ++ List.replicate (2 - (lg_sl ([.ref r0, .int a1])).length) Slot.unset).toArray = ls at hl ⊢
  have hl : lv_has ls 2 [(0, .ref r0), (1, .int a1)] := hl
  generalize hR : (headSpec (jw yX11_state cX11_state 2 (some .int)) ({ frames := 4, cells := 0, slots := 0, locals := 86 })).room = R
  subst hH0
  have hh : jSt (dC, dI) B base G0 G0 EX11_state s.heap 0 0 [] [] [(jFl, jLs dC dI ca G0 3 none wl)] s.heap [] := jSt.start hX hP0 jMc.nil hI0
  clear hX hP0
  have hkm1 : ((-1) : Int32).toInt = (-1) := by decide
  have hk0 : (0 : Int32).toInt = 0 := by decide
  have hk1 : (1 : Int32).toInt = 1 := by decide
  have hly_2_1 := htw (u_lay RX0 TX0 1) (jWc_wsX00 _ (u_in_lay (by decide)))
  have hly_4_2 := htw (u_lay RX2 TX2 2) (jWc_wsX20 _ (u_in_lay (by decide)))
  have hly_4_3 := htw (u_lay RX2 TX2 3) (jWc_wsX20 _ (u_in_lay (by decide)))
  have hly_4_4 := htw (u_lay RX2 TX2 4) (jWc_wsX20 _ (u_in_lay (by decide)))
  have hly_13_0 := htw (u_lay RX11 TX11 0) (jWc_wsX110 _ (u_in_lay (by decide)))
  have hly_13_1 := htw (u_lay RX11 TX11 1) (jWc_wsX110 _ (u_in_lay (by decide)))
  have hly_13_3 := htw (u_lay RX11 TX11 3) (jWc_wsX110 _ (u_in_lay (by decide)))
  have hly_13_7 := htw (u_lay RX11 TX11 7) (jWc_wsX110 _ (u_in_lay (by decide)))
  have hly_13_8 := htw (u_lay RX11 TX11 8) (jWc_wsX110 _ (u_in_lay (by decide)))
  have hly_13_9 := htw (u_lay RX11 TX11 9) (jWc_wsX110 _ (u_in_lay (by decide)))
  have hly_13_10 := htw (u_lay RX11 TX11 10) (jWc_wsX110 _ (u_in_lay (by decide)))
  have hly_13_12 := htw (u_lay RX11 TX11 12) (jWc_wsX110 _ (u_in_lay (by decide)))
  have hly_13_13 := htw (u_lay RX11 TX11 13) (jWc_wsX110 _ (u_in_lay (by decide)))
  have hly_13_14 := htw (u_lay RX11 TX11 14) (jWc_wsX110 _ (u_in_lay (by decide)))
  have hlk_21 := (htw (.fieldLink RX11 21 "ProofServer" "frames" "LProofServer$Frames;") (jWr_1 _ (List.mem_of_getElem? (i := 19) rfl)))
  have hlk_102 := (htw (.fieldLink RX11 102 "ProofServer$Frames" "broken" "Z") (jWr_17 _ (List.mem_of_getElem? (i := 8) rfl)))
  have hlk_136 := (htw (.fieldLink RX11 136 "ProofServer$Frames" "kept" "I") (jWr_91 _ (List.mem_of_getElem? (i := 20) rfl)))
  have hlk_139 := (htw (.fieldLink RX11 139 "ProofServer$Frames" "messages" "I") (jWr_91 _ (List.mem_of_getElem? (i := 21) rfl)))
  have hlk_61 := (htw (.fieldLink RX11 61 "ProofServer" "open" "Ljava/util/List;") (jWr_2 _ (List.mem_of_getElem? (i := 14) rfl)))
  have hlk_65 := (htw (.fieldLink RX11 65 "ProofServer" "waiting" "Ljava/util/List;") (jWr_2 _ (List.mem_of_getElem? (i := 15) rfl)))
  have hlk_68 := (htw (.fieldLink RX11 68 "ProofServer" "cache" "Ljava/util/List;") (jWr_2 _ (List.mem_of_getElem? (i := 16) rfl)))
  have hlk_133 := (htw (.fieldLink RX11 133 "ProofServer" "steps" "I") (jWr_76 _ (List.mem_of_getElem? (i := 14) rfl)))
  have hlk_148 := (htw (.fieldLink RX11 148 "ProofServer" "reused" "I") (jWr_77 _ (List.mem_of_getElem? (i := 7) rfl)))
  have hlk_151 := (htw (.fieldLink RX11 151 "ProofServer" "lost" "I") (jWr_27 _ (List.mem_of_getElem? (i := 0) rfl)))
  have hlk_14 := (htw (.fieldLink RX11 14 "ProofServer" "tape" "LProofServer$Bytes;") (jWr_1 _ (List.mem_of_getElem? (i := 15) rfl)))
  have hlk_92 := (htw (.fieldLink RX11 92 "ProofServer$Bytes" "count" "I") (jWr_15 _ (List.mem_of_getElem? (i := 18) rfl)))
  have hlk_32 := (htw (.fieldLink RX11 32 "ProofServer" "output" "LProofServer$Bytes;") (jWr_2 _ (List.mem_of_getElem? (i := 0) rfl)))
  have hlk_73 := (htw (.fieldLink RX11 73 "ProofServer" "hands" "[LProofServer$Document;") (jWr_2 _ (List.mem_of_getElem? (i := 18) rfl)))
  have hrg_a1 := jb_rng a1
  refine lv_iload_n hx hb dX11_state_0 rfl (lv_at hl 1 rfl) ?_
  rcases (by omega : (a1.toInt < 0 ∨ 12 < a1.toInt) ∨ a1.toInt = 0 ∨ a1.toInt = 1 ∨ a1.toInt = 2 ∨ a1.toInt = 3 ∨ a1.toInt = 4 ∨ a1.toInt = 5 ∨ a1.toInt = 6 ∨ a1.toInt = 7 ∨ a1.toInt = 8 ∨ a1.toInt = 9 ∨ a1.toInt = 10 ∨ a1.toInt = 11 ∨ a1.toInt = 12) with c_1 | c_1 | c_1 | c_1 | c_1 | c_1 | c_1 | c_1 | c_1 | c_1 | c_1 | c_1 | c_1 | c_1
  · refine lv_tableOut (tgt := 197) hx hb dX11_state_1 c_1 (by decide) ?_
    refine lv_iconst (v := (-1)) hx hb dX11_state_197 (by decide) ?_
    rw [hQ]
    exact W.iret (v := (-1)) hx hb hr (fun t ht hW => ⟨⟨(-1), (), rfl, trivial, ⟨hh.rt (M1 := []) [] rfl ht, by rw [ht]; exact hh.2.2.2.2.2.2.2.2.sub (L1 := [(jFl, jLs dC dI ca G0 3 none wl)]) [0] rfl⟩⟩, by rw [ht]; try exact hh.1.1, fun q h9 hq => by rw [ht]; try exact hh.1.2.1 q h9 hq⟩) hh.1.2.2 dX11_state_198
  · refine lv_tableIn (off := 67) (tgt := 68) hx hb dX11_state_1 (by omega) (by omega) (by rw [c_1]; rfl) (by decide) ?_
    refine lv_aload_n hx hb dX11_state_68 rfl (lv_at hl 0 rfl) ?_
    obtain ⟨v_2, hv_2, hh_3⟩ := hh.pin (C := RX11) (T := TX11) (N := 19) hB13 rfl (by decide) hg_r0 (i := 1) (by decide) rfl
    clear hh
    obtain ⟨frames_4, rfl, hg_frames_4⟩ := hv_2
    refine j7_read hx hb hown hK (C := RX11) (T := TX11) (N := 19) rfl hly_13_1 hlk_21 (hh_3.at 0 rfl) dX11_state_69 ?_
    obtain ⟨v_5, hv_5, hh_6⟩ := hh_3.pin (C := RX2) (T := TX2) (N := 12) hB4 rfl (by decide) hg_frames_4 (i := 4) (by decide) rfl
    clear hh_3
    obtain ⟨broken_7, rfl, hzbroken_7⟩ := hv_5
    have hzbroken_7' := jb_01 hzbroken_7
    refine j7_read hx hb hown hK (C := RX2) (T := TX2) (N := 12) rfl hly_4_4 hlk_102 (hh_6.at 0 rfl) dX11_state_72 ?_
    refine lv_if_eq (tgt := 82) hx hb dX11_state_75 (by decide) (fun c_8 => ?_) (fun c_8 => ?_)
    · skip
      have c_8' : broken_7.toInt = 0 := jb_eq (rfl) ((by decide)) c_8
      refine lv_iconst (v := 0) hx hb dX11_state_82 (by decide) ?_
      rw [hQ]
      exact W.iret (v := 0) hx hb hr (fun t ht hW => ⟨⟨0, (), rfl, trivial, ⟨hh_6.rt (M1 := []) [] rfl ht, by rw [ht]; exact hh_6.2.2.2.2.2.2.2.2.sub (L1 := [(jFl, jLs dC dI ca G0 3 none wl)]) [0] rfl⟩⟩, by rw [ht]; try exact hh_6.1.1, fun q h9 hq => by rw [ht]; try exact hh_6.1.2.1 q h9 hq⟩) hh_6.1.2.2 dX11_state_83
    · skip
      have c_8' : broken_7.toInt ≠ 0 := jb_eq_n (rfl) ((by decide)) c_8
      refine lv_iconst (v := 1) hx hb dX11_state_78 (by decide) ?_
      refine lv_goto (tgt := 83) hx hb dX11_state_79 (by decide) ?_
      rw [hQ]
      exact W.iret (v := 1) hx hb hr (fun t ht hW => ⟨⟨1, (), rfl, trivial, ⟨hh_6.rt (M1 := []) [] rfl ht, by rw [ht]; exact hh_6.2.2.2.2.2.2.2.2.sub (L1 := [(jFl, jLs dC dI ca G0 3 none wl)]) [0] rfl⟩⟩, by rw [ht]; try exact hh_6.1.1, fun q h9 hq => by rw [ht]; try exact hh_6.1.2.1 q h9 hq⟩) hh_6.1.2.2 dX11_state_83
  · refine lv_tableIn (off := 83) (tgt := 84) hx hb dX11_state_1 (by omega) (by omega) (by rw [c_1]; rfl) (by decide) ?_
    refine lv_aload_n hx hb dX11_state_84 rfl (lv_at hl 0 rfl) ?_
    obtain ⟨v_9, hv_9, hh_10⟩ := hh.pin (C := RX11) (T := TX11) (N := 19) hB13 rfl (by decide) hg_r0 (i := 1) (by decide) rfl
    clear hh
    obtain ⟨frames_11, rfl, hg_frames_11⟩ := hv_9
    refine j7_read hx hb hown hK (C := RX11) (T := TX11) (N := 19) rfl hly_13_1 hlk_21 (hh_10.at 0 rfl) dX11_state_85 ?_
    obtain ⟨v_12, hv_12, hh_13⟩ := hh_10.pin (C := RX2) (T := TX2) (N := 12) hB4 rfl (by decide) hg_frames_11 (i := 4) (by decide) rfl
    clear hh_10
    obtain ⟨broken_14, rfl, hzbroken_14⟩ := hv_12
    have hzbroken_14' := jb_01 hzbroken_14
    refine j7_read hx hb hown hK (C := RX2) (T := TX2) (N := 12) rfl hly_4_4 hlk_102 (hh_13.at 0 rfl) dX11_state_88 ?_
    refine lv_if_eq (tgt := 98) hx hb dX11_state_91 (by decide) (fun c_15 => ?_) (fun c_15 => ?_)
    · skip
      have c_15' : broken_14.toInt = 0 := jb_eq (rfl) ((by decide)) c_15
      refine lv_aload_n hx hb dX11_state_98 rfl (lv_at hl 0 rfl) ?_
      refine j7_read hx hb hown hK (C := RX11) (T := TX11) (N := 19) rfl hly_13_1 hlk_21 (hh_13.at 1 rfl) dX11_state_99 ?_
      obtain ⟨v_16, hv_16, hh_17⟩ := hh_13.pin (C := RX2) (T := TX2) (N := 12) hB4 rfl (by decide) hg_frames_11 (i := 2) (by decide) rfl
      clear hh_13
      obtain ⟨kept_18, rfl⟩ := hv_16
      refine j7_read hx hb hown hK (C := RX2) (T := TX2) (N := 12) rfl hly_4_2 hlk_136 (hh_17.at 0 rfl) dX11_state_102 ?_
      rw [hQ]
      exact W.iret (v := kept_18) hx hb hr (fun t ht hW => ⟨⟨kept_18, (), rfl, trivial, ⟨hh_17.rt (M1 := []) [] rfl ht, by rw [ht]; exact hh_17.2.2.2.2.2.2.2.2.sub (L1 := [(jFl, jLs dC dI ca G0 3 none wl)]) [0] rfl⟩⟩, by rw [ht]; try exact hh_17.1.1, fun q h9 hq => by rw [ht]; try exact hh_17.1.2.1 q h9 hq⟩) hh_17.1.2.2 dX11_state_105
    · skip
      have c_15' : broken_14.toInt ≠ 0 := jb_eq_n (rfl) ((by decide)) c_15
      refine lv_iconst (v := 0) hx hb dX11_state_94 (by decide) ?_
      refine lv_goto (tgt := 105) hx hb dX11_state_95 (by decide) ?_
      rw [hQ]
      exact W.iret (v := 0) hx hb hr (fun t ht hW => ⟨⟨0, (), rfl, trivial, ⟨hh_13.rt (M1 := []) [] rfl ht, by rw [ht]; exact hh_13.2.2.2.2.2.2.2.2.sub (L1 := [(jFl, jLs dC dI ca G0 3 none wl)]) [0] rfl⟩⟩, by rw [ht]; try exact hh_13.1.1, fun q h9 hq => by rw [ht]; try exact hh_13.1.2.1 q h9 hq⟩) hh_13.1.2.2 dX11_state_105
  · refine lv_tableIn (off := 105) (tgt := 106) hx hb dX11_state_1 (by omega) (by omega) (by rw [c_1]; rfl) (by decide) ?_
    refine lv_aload_n hx hb dX11_state_106 rfl (lv_at hl 0 rfl) ?_
    obtain ⟨v_19, hv_19, hh_20⟩ := hh.pin (C := RX11) (T := TX11) (N := 19) hB13 rfl (by decide) hg_r0 (i := 1) (by decide) rfl
    clear hh
    obtain ⟨frames_21, rfl, hg_frames_21⟩ := hv_19
    refine j7_read hx hb hown hK (C := RX11) (T := TX11) (N := 19) rfl hly_13_1 hlk_21 (hh_20.at 0 rfl) dX11_state_107 ?_
    obtain ⟨v_22, hv_22, hh_23⟩ := hh_20.pin (C := RX2) (T := TX2) (N := 12) hB4 rfl (by decide) hg_frames_21 (i := 3) (by decide) rfl
    clear hh_20
    obtain ⟨messages_24, rfl⟩ := hv_22
    refine j7_read hx hb hown hK (C := RX2) (T := TX2) (N := 12) rfl hly_4_3 hlk_139 (hh_23.at 0 rfl) dX11_state_110 ?_
    rw [hQ]
    exact W.iret (v := messages_24) hx hb hr (fun t ht hW => ⟨⟨messages_24, (), rfl, trivial, ⟨hh_23.rt (M1 := []) [] rfl ht, by rw [ht]; exact hh_23.2.2.2.2.2.2.2.2.sub (L1 := [(jFl, jLs dC dI ca G0 3 none wl)]) [0] rfl⟩⟩, by rw [ht]; try exact hh_23.1.1, fun q h9 hq => by rw [ht]; try exact hh_23.1.2.1 q h9 hq⟩) hh_23.1.2.2 dX11_state_113
  · refine lv_tableIn (off := 113) (tgt := 114) hx hb dX11_state_1 (by omega) (by omega) (by rw [c_1]; rfl) (by decide) ?_
    refine lv_aload_n hx hb dX11_state_114 rfl (lv_at hl 0 rfl) ?_
    obtain ⟨v_25, hv_25, hh_26⟩ := hh.pin (C := RX11) (T := TX11) (N := 19) hB13 rfl (by decide) hg_r0 (i := 7) (by decide) rfl
    clear hh
    obtain ⟨open_27, rfl, hg_open_27⟩ := hv_25
    refine j7_read hx hb hown hK (C := RX11) (T := TX11) (N := 19) rfl hly_13_7 hlk_61 (hh_26.at 0 rfl) dX11_state_115 ?_
    obtain ⟨v_30, hv_30, hh_31⟩ := hh_26.pin (C := RJx4a65c) (T := TJx4a65c) (N := 3) hB1 rfl (by decide) hg_open_27 (i := 2) (by decide) rfl
    obtain ⟨size_32, rfl, hlosize_32, hhisize_32⟩ := hv_30
    refine va_callFi (A0 := jA base) (H0 := s.heap) (va_runF (hK.1 1 _ rfl).2 (As := []) (rest := []) ⟨hx, hb, hml, hown, hts⟩ (uJx4a65c_size_8abf5 l dC dI ca base B hB hAp hB1 G0 s.heap open_27 1 size_32) (va_cwF 0 hts (jgF (jWr_27 _ (List.mem_of_getElem? (i := 22) rfl)) (jWr_27 _ (List.mem_of_getElem? (i := 23) rfl)) (jWr_28 _ (List.mem_of_getElem? (i := 0) rfl)) (jWr_2 _ (List.mem_of_getElem? (i := 13) rfl)) (jWr_28 _ (List.mem_of_getElem? (i := 1) rfl))) rfl rfl rfl hK7.2.2.2.2.2.1.1 ⟨by decide, by decide, by decide +kernel⟩ ⟨by rw [← hR]; exact Nat.le_of_ble_eq_true rfl, by rw [← hR]; exact Nat.le_of_ble_eq_true rfl⟩) ⟨fun a U g mk q => by obtain ⟨q0, q1, q2, qK, q10, q11, q12⟩ := q; exact ⟨q0, q1, q2, jG.calling g mk a qK, q10, q11, q12⟩, hh_31.recv (C := RJx4a65c) (T := TJx4a65c) (N := 3) hB1 rfl (by decide) hg_open_27 hK, fun U hU hW => ⟨rfl, hU, hh_31.2.1, hG.step hW hU hh_31.1, hg_open_27, (hh_31.2.2.1.sub (L1 := [(open_27, 1, 2, .int size_32)]) [0] rfl), trivial⟩⟩ rfl rfl hl.1 rfl (lv_room (Nat.le_of_ble_eq_true rfl)) dX11_state_118 ⟨Nat.zero_le _, Nat.zero_le _⟩) hh_31.1 (fun q _ h => h) (fun q h => h) (fun r_29 u_28 t_28 H_28 locs_28 ht_28 hvm_28 hr_29 hb_28 hz_28 hk_28 hS_28 => ?_)
    rw [ht_28] at hb_28
    obtain ⟨hb_281, hb_282, hb_283, hb_284, hb_285⟩ := hb_28
    have hh_28 : jSt (dC, dI) B base G0 G0 EX11_state s.heap 0 0 [(open_27, 1, 2, .int size_32), (r0, 13, 7, .ref open_27)] [] [(jFl, jLs dC dI ca G0 3 none wl)] H_28 locs_28 := ((hh_31.call hb_281 hb_282 hb_283 hb_284 hS_28 rfl (L1 := [(open_27, 1, 2, .int size_32), (r0, 13, 7, .ref open_27)]) [0, 1] rfl rfl (M1 := []) [] rfl rfl (I1 := [(jFl, jLs dC dI ca G0 3 none wl)]) [0] rfl rfl).more hb_285)
    clear hh_31 ht_28 hvm_28 hz_28 hk_28 hS_28 hb_281 hb_282 hb_283 hb_284 hb_285
    rw [hQ]
    exact W.iret (v := r_29) hx hb hr (fun t ht hW => ⟨⟨r_29, (), rfl, trivial, ⟨hh_28.rt (M1 := []) [] rfl ht, by rw [ht]; exact hh_28.2.2.2.2.2.2.2.2.sub (L1 := [(jFl, jLs dC dI ca G0 3 none wl)]) [0] rfl⟩⟩, by rw [ht]; try exact hh_28.1.1, fun q h9 hq => by rw [ht]; try exact hh_28.1.2.1 q h9 hq⟩) hh_28.1.2.2 dX11_state_123
  · refine lv_tableIn (off := 123) (tgt := 124) hx hb dX11_state_1 (by omega) (by omega) (by rw [c_1]; rfl) (by decide) ?_
    refine lv_aload_n hx hb dX11_state_124 rfl (lv_at hl 0 rfl) ?_
    obtain ⟨v_33, hv_33, hh_34⟩ := hh.pin (C := RX11) (T := TX11) (N := 19) hB13 rfl (by decide) hg_r0 (i := 8) (by decide) rfl
    clear hh
    obtain ⟨waiting_35, rfl, hg_waiting_35⟩ := hv_33
    refine j7_read hx hb hown hK (C := RX11) (T := TX11) (N := 19) rfl hly_13_8 hlk_65 (hh_34.at 0 rfl) dX11_state_125 ?_
    obtain ⟨v_38, hv_38, hh_39⟩ := hh_34.pin (C := RJx4a65c) (T := TJx4a65c) (N := 3) hB1 rfl (by decide) hg_waiting_35 (i := 2) (by decide) rfl
    obtain ⟨size_40, rfl, hlosize_40, hhisize_40⟩ := hv_38
    refine va_callFi (A0 := jA base) (H0 := s.heap) (va_runF (hK.1 1 _ rfl).2 (As := []) (rest := []) ⟨hx, hb, hml, hown, hts⟩ (uJx4a65c_size_8abf5 l dC dI ca base B hB hAp hB1 G0 s.heap waiting_35 2 size_40) (va_cwF 0 hts (jgF (jWr_27 _ (List.mem_of_getElem? (i := 22) rfl)) (jWr_27 _ (List.mem_of_getElem? (i := 23) rfl)) (jWr_28 _ (List.mem_of_getElem? (i := 0) rfl)) (jWr_2 _ (List.mem_of_getElem? (i := 13) rfl)) (jWr_28 _ (List.mem_of_getElem? (i := 1) rfl))) rfl rfl rfl hK7.2.2.2.2.2.1.1 ⟨by decide, by decide, by decide +kernel⟩ ⟨by rw [← hR]; exact Nat.le_of_ble_eq_true rfl, by rw [← hR]; exact Nat.le_of_ble_eq_true rfl⟩) ⟨fun a U g mk q => by obtain ⟨q0, q1, q2, qK, q10, q11, q12⟩ := q; exact ⟨q0, q1, q2, jG.calling g mk a qK, q10, q11, q12⟩, hh_39.recv (C := RJx4a65c) (T := TJx4a65c) (N := 3) hB1 rfl (by decide) hg_waiting_35 hK, fun U hU hW => ⟨rfl, hU, hh_39.2.1, hG.step hW hU hh_39.1, hg_waiting_35, (hh_39.2.2.1.sub (L1 := [(waiting_35, 1, 2, .int size_40)]) [0] rfl), trivial⟩⟩ rfl rfl hl.1 rfl (lv_room (Nat.le_of_ble_eq_true rfl)) dX11_state_128 ⟨Nat.zero_le _, Nat.zero_le _⟩) hh_39.1 (fun q _ h => h) (fun q h => h) (fun r_37 u_36 t_36 H_36 locs_36 ht_36 hvm_36 hr_37 hb_36 hz_36 hk_36 hS_36 => ?_)
    rw [ht_36] at hb_36
    obtain ⟨hb_361, hb_362, hb_363, hb_364, hb_365⟩ := hb_36
    have hh_36 : jSt (dC, dI) B base G0 G0 EX11_state s.heap 0 0 [(waiting_35, 1, 2, .int size_40), (r0, 13, 8, .ref waiting_35)] [] [(jFl, jLs dC dI ca G0 3 none wl)] H_36 locs_36 := ((hh_39.call hb_361 hb_362 hb_363 hb_364 hS_36 rfl (L1 := [(waiting_35, 1, 2, .int size_40), (r0, 13, 8, .ref waiting_35)]) [0, 1] rfl rfl (M1 := []) [] rfl rfl (I1 := [(jFl, jLs dC dI ca G0 3 none wl)]) [0] rfl rfl).more hb_365)
    clear hh_39 ht_36 hvm_36 hz_36 hk_36 hS_36 hb_361 hb_362 hb_363 hb_364 hb_365
    rw [hQ]
    exact W.iret (v := r_37) hx hb hr (fun t ht hW => ⟨⟨r_37, (), rfl, trivial, ⟨hh_36.rt (M1 := []) [] rfl ht, by rw [ht]; exact hh_36.2.2.2.2.2.2.2.2.sub (L1 := [(jFl, jLs dC dI ca G0 3 none wl)]) [0] rfl⟩⟩, by rw [ht]; try exact hh_36.1.1, fun q h9 hq => by rw [ht]; try exact hh_36.1.2.1 q h9 hq⟩) hh_36.1.2.2 dX11_state_133
  · refine lv_tableIn (off := 133) (tgt := 134) hx hb dX11_state_1 (by omega) (by omega) (by rw [c_1]; rfl) (by decide) ?_
    refine lv_aload_n hx hb dX11_state_134 rfl (lv_at hl 0 rfl) ?_
    obtain ⟨v_41, hv_41, hh_42⟩ := hh.pin (C := RX11) (T := TX11) (N := 19) hB13 rfl (by decide) hg_r0 (i := 9) (by decide) rfl
    clear hh
    obtain ⟨cache_43, rfl, hg_cache_43⟩ := hv_41
    refine j7_read hx hb hown hK (C := RX11) (T := TX11) (N := 19) rfl hly_13_9 hlk_68 (hh_42.at 0 rfl) dX11_state_135 ?_
    obtain ⟨v_46, hv_46, hh_47⟩ := hh_42.pin (C := RJx4a65c) (T := TJx4a65c) (N := 3) hB1 rfl (by decide) hg_cache_43 (i := 2) (by decide) rfl
    obtain ⟨size_48, rfl, hlosize_48, hhisize_48⟩ := hv_46
    refine va_callFi (A0 := jA base) (H0 := s.heap) (va_runF (hK.1 1 _ rfl).2 (As := []) (rest := []) ⟨hx, hb, hml, hown, hts⟩ (uJx4a65c_size_8abf5 l dC dI ca base B hB hAp hB1 G0 s.heap cache_43 3 size_48) (va_cwF 0 hts (jgF (jWr_27 _ (List.mem_of_getElem? (i := 22) rfl)) (jWr_27 _ (List.mem_of_getElem? (i := 23) rfl)) (jWr_28 _ (List.mem_of_getElem? (i := 0) rfl)) (jWr_2 _ (List.mem_of_getElem? (i := 13) rfl)) (jWr_28 _ (List.mem_of_getElem? (i := 1) rfl))) rfl rfl rfl hK7.2.2.2.2.2.1.1 ⟨by decide, by decide, by decide +kernel⟩ ⟨by rw [← hR]; exact Nat.le_of_ble_eq_true rfl, by rw [← hR]; exact Nat.le_of_ble_eq_true rfl⟩) ⟨fun a U g mk q => by obtain ⟨q0, q1, q2, qK, q10, q11, q12⟩ := q; exact ⟨q0, q1, q2, jG.calling g mk a qK, q10, q11, q12⟩, hh_47.recv (C := RJx4a65c) (T := TJx4a65c) (N := 3) hB1 rfl (by decide) hg_cache_43 hK, fun U hU hW => ⟨rfl, hU, hh_47.2.1, hG.step hW hU hh_47.1, hg_cache_43, (hh_47.2.2.1.sub (L1 := [(cache_43, 1, 2, .int size_48)]) [0] rfl), trivial⟩⟩ rfl rfl hl.1 rfl (lv_room (Nat.le_of_ble_eq_true rfl)) dX11_state_138 ⟨Nat.zero_le _, Nat.zero_le _⟩) hh_47.1 (fun q _ h => h) (fun q h => h) (fun r_45 u_44 t_44 H_44 locs_44 ht_44 hvm_44 hr_45 hb_44 hz_44 hk_44 hS_44 => ?_)
    rw [ht_44] at hb_44
    obtain ⟨hb_441, hb_442, hb_443, hb_444, hb_445⟩ := hb_44
    have hh_44 : jSt (dC, dI) B base G0 G0 EX11_state s.heap 0 0 [(cache_43, 1, 2, .int size_48), (r0, 13, 9, .ref cache_43)] [] [(jFl, jLs dC dI ca G0 3 none wl)] H_44 locs_44 := ((hh_47.call hb_441 hb_442 hb_443 hb_444 hS_44 rfl (L1 := [(cache_43, 1, 2, .int size_48), (r0, 13, 9, .ref cache_43)]) [0, 1] rfl rfl (M1 := []) [] rfl rfl (I1 := [(jFl, jLs dC dI ca G0 3 none wl)]) [0] rfl rfl).more hb_445)
    clear hh_47 ht_44 hvm_44 hz_44 hk_44 hS_44 hb_441 hb_442 hb_443 hb_444 hb_445
    rw [hQ]
    exact W.iret (v := r_45) hx hb hr (fun t ht hW => ⟨⟨r_45, (), rfl, trivial, ⟨hh_44.rt (M1 := []) [] rfl ht, by rw [ht]; exact hh_44.2.2.2.2.2.2.2.2.sub (L1 := [(jFl, jLs dC dI ca G0 3 none wl)]) [0] rfl⟩⟩, by rw [ht]; try exact hh_44.1.1, fun q h9 hq => by rw [ht]; try exact hh_44.1.2.1 q h9 hq⟩) hh_44.1.2.2 dX11_state_143
  · refine lv_tableIn (off := 143) (tgt := 144) hx hb dX11_state_1 (by omega) (by omega) (by rw [c_1]; rfl) (by decide) ?_
    refine lv_aload_n hx hb dX11_state_144 rfl (lv_at hl 0 rfl) ?_
    obtain ⟨v_49, hv_49, hh_50⟩ := hh.pin (C := RX11) (T := TX11) (N := 19) hB13 rfl (by decide) hg_r0 (i := 12) (by decide) rfl
    clear hh
    obtain ⟨steps_51, rfl⟩ := hv_49
    refine j7_read hx hb hown hK (C := RX11) (T := TX11) (N := 19) rfl hly_13_12 hlk_133 (hh_50.at 0 rfl) dX11_state_145 ?_
    rw [hQ]
    exact W.iret (v := steps_51) hx hb hr (fun t ht hW => ⟨⟨steps_51, (), rfl, trivial, ⟨hh_50.rt (M1 := []) [] rfl ht, by rw [ht]; exact hh_50.2.2.2.2.2.2.2.2.sub (L1 := [(jFl, jLs dC dI ca G0 3 none wl)]) [0] rfl⟩⟩, by rw [ht]; try exact hh_50.1.1, fun q h9 hq => by rw [ht]; try exact hh_50.1.2.1 q h9 hq⟩) hh_50.1.2.2 dX11_state_148
  · refine lv_tableIn (off := 148) (tgt := 149) hx hb dX11_state_1 (by omega) (by omega) (by rw [c_1]; rfl) (by decide) ?_
    refine lv_aload_n hx hb dX11_state_149 rfl (lv_at hl 0 rfl) ?_
    obtain ⟨v_52, hv_52, hh_53⟩ := hh.pin (C := RX11) (T := TX11) (N := 19) hB13 rfl (by decide) hg_r0 (i := 13) (by decide) rfl
    clear hh
    obtain ⟨reused_54, rfl⟩ := hv_52
    refine j7_read hx hb hown hK (C := RX11) (T := TX11) (N := 19) rfl hly_13_13 hlk_148 (hh_53.at 0 rfl) dX11_state_150 ?_
    rw [hQ]
    exact W.iret (v := reused_54) hx hb hr (fun t ht hW => ⟨⟨reused_54, (), rfl, trivial, ⟨hh_53.rt (M1 := []) [] rfl ht, by rw [ht]; exact hh_53.2.2.2.2.2.2.2.2.sub (L1 := [(jFl, jLs dC dI ca G0 3 none wl)]) [0] rfl⟩⟩, by rw [ht]; try exact hh_53.1.1, fun q h9 hq => by rw [ht]; try exact hh_53.1.2.1 q h9 hq⟩) hh_53.1.2.2 dX11_state_153
  · refine lv_tableIn (off := 153) (tgt := 154) hx hb dX11_state_1 (by omega) (by omega) (by rw [c_1]; rfl) (by decide) ?_
    refine lv_aload_n hx hb dX11_state_154 rfl (lv_at hl 0 rfl) ?_
    obtain ⟨v_55, hv_55, hh_56⟩ := hh.pin (C := RX11) (T := TX11) (N := 19) hB13 rfl (by decide) hg_r0 (i := 14) (by decide) rfl
    clear hh
    obtain ⟨lost_57, rfl⟩ := hv_55
    refine j7_read hx hb hown hK (C := RX11) (T := TX11) (N := 19) rfl hly_13_14 hlk_151 (hh_56.at 0 rfl) dX11_state_155 ?_
    rw [hQ]
    exact W.iret (v := lost_57) hx hb hr (fun t ht hW => ⟨⟨lost_57, (), rfl, trivial, ⟨hh_56.rt (M1 := []) [] rfl ht, by rw [ht]; exact hh_56.2.2.2.2.2.2.2.2.sub (L1 := [(jFl, jLs dC dI ca G0 3 none wl)]) [0] rfl⟩⟩, by rw [ht]; try exact hh_56.1.1, fun q h9 hq => by rw [ht]; try exact hh_56.1.2.1 q h9 hq⟩) hh_56.1.2.2 dX11_state_158
  · refine lv_tableIn (off := 158) (tgt := 159) hx hb dX11_state_1 (by omega) (by omega) (by rw [c_1]; rfl) (by decide) ?_
    refine lv_aload_n hx hb dX11_state_159 rfl (lv_at hl 0 rfl) ?_
    obtain ⟨v_58, hv_58, hh_59⟩ := hh.pin (C := RX11) (T := TX11) (N := 19) hB13 rfl (by decide) hg_r0 (i := 0) (by decide) rfl
    clear hh
    obtain ⟨tape_60, rfl, hg_tape_60⟩ := hv_58
    refine j7_read hx hb hown hK (C := RX11) (T := TX11) (N := 19) rfl hly_13_0 hlk_14 (hh_59.at 0 rfl) dX11_state_160 ?_
    obtain ⟨v_61, hv_61, hh_62⟩ := hh_59.pin (C := RX0) (T := TX0) (N := 2) hB2 rfl (by decide) hg_tape_60 (i := 1) (by decide) rfl
    clear hh_59
    obtain ⟨count_63, rfl, hlocount_63, hhicount_63, hfxcount_63⟩ := hv_61
    refine j7_read hx hb hown hK (C := RX0) (T := TX0) (N := 2) rfl hly_2_1 hlk_92 (hh_62.at 0 rfl) dX11_state_163 ?_
    rw [hQ]
    exact W.iret (v := count_63) hx hb hr (fun t ht hW => ⟨⟨count_63, (), rfl, trivial, ⟨hh_62.rt (M1 := []) [] rfl ht, by rw [ht]; exact hh_62.2.2.2.2.2.2.2.2.sub (L1 := [(jFl, jLs dC dI ca G0 3 none wl)]) [0] rfl⟩⟩, by rw [ht]; try exact hh_62.1.1, fun q h9 hq => by rw [ht]; try exact hh_62.1.2.1 q h9 hq⟩) hh_62.1.2.2 dX11_state_166
  · refine lv_tableIn (off := 166) (tgt := 167) hx hb dX11_state_1 (by omega) (by omega) (by rw [c_1]; rfl) (by decide) ?_
    refine lv_aload_n hx hb dX11_state_167 rfl (lv_at hl 0 rfl) ?_
    obtain ⟨v_64, hv_64, hh_65⟩ := hh.pin (C := RX11) (T := TX11) (N := 19) hB13 rfl (by decide) hg_r0 (i := 3) (by decide) rfl
    clear hh
    obtain ⟨output_66, rfl, hg_output_66⟩ := hv_64
    refine j7_read hx hb hown hK (C := RX11) (T := TX11) (N := 19) rfl hly_13_3 hlk_32 (hh_65.at 0 rfl) dX11_state_168 ?_
    obtain ⟨v_67, hv_67, hh_68⟩ := hh_65.pin (C := RX0) (T := TX0) (N := 2) hB2 rfl (by decide) hg_output_66 (i := 1) (by decide) rfl
    clear hh_65
    obtain ⟨count_69, rfl, hlocount_69, hhicount_69, hfxcount_69⟩ := hv_67
    refine j7_read hx hb hown hK (C := RX0) (T := TX0) (N := 2) rfl hly_2_1 hlk_92 (hh_68.at 0 rfl) dX11_state_171 ?_
    rw [hQ]
    exact W.iret (v := count_69) hx hb hr (fun t ht hW => ⟨⟨count_69, (), rfl, trivial, ⟨hh_68.rt (M1 := []) [] rfl ht, by rw [ht]; exact hh_68.2.2.2.2.2.2.2.2.sub (L1 := [(jFl, jLs dC dI ca G0 3 none wl)]) [0] rfl⟩⟩, by rw [ht]; try exact hh_68.1.1, fun q h9 hq => by rw [ht]; try exact hh_68.1.2.1 q h9 hq⟩) hh_68.1.2.2 dX11_state_174
  · refine lv_tableIn (off := 174) (tgt := 175) hx hb dX11_state_1 (by omega) (by omega) (by rw [c_1]; rfl) (by decide) ?_
    refine lv_aload_n hx hb dX11_state_175 rfl (lv_at hl 0 rfl) ?_
    refine lv_aload_n hx hb dX11_state_176 rfl (lv_at hl 0 rfl) ?_
    obtain ⟨v_70, hv_70, hh_71⟩ := hh.pin (C := RX11) (T := TX11) (N := 19) hB13 rfl (by decide) hg_r0 (i := 10) (by decide) rfl
    clear hh
    obtain ⟨hands_72, rfl, hg_hands_72⟩ := hv_70
    refine j7_read hx hb hown hK (C := RX11) (T := TX11) (N := 19) rfl hly_13_10 hlk_73 (hh_71.at 0 rfl) dX11_state_177 ?_
    refine lv_iconst (v := 0) hx hb dX11_state_180 (by decide) ?_
    refine j7_qald hx hb hK2 hh_71 hB212 1 rfl (by decide) hg_hands_72 (x := 0) ((by decide)) (by omega) dX11_state_181 (fun o_73 ho_73 => ?_)
    rcases ho_73 with rfl | ⟨el_74, rfl, hg_el_74⟩
    · simp only [va_rf]
      refine va_calli (A0 := jA base) (H0 := s.heap) (va_runV (As := [.null]) (rest := []) ⟨hx, hb, hml, hown, hts⟩ (uX11_numberOfZ l dC dI ca base B hB hAp hB1 hB3 hB13 hB221 G0 s.heap r0 wl) (cwV 1 hts (jgV (jWr_43 _ (List.mem_of_getElem? (i := 14) rfl)) (jWr_43 _ (List.mem_of_getElem? (i := 15) rfl)) (jWr_43 _ (List.mem_of_getElem? (i := 16) rfl)) (jWr_1 _ (List.mem_of_getElem? (i := 2) rfl)) (jWr_43 _ (List.mem_of_getElem? (i := 17) rfl))) rfl rfl rfl (by decide +kernel) ⟨by rw [← hR]; exact Nat.le_of_ble_eq_true rfl, by rw [← hR]; exact Nat.le_of_ble_eq_true rfl⟩) ⟨fun a U g mk q => by obtain ⟨q0, q1, q2, qK, q10, q11, q12, q13, q14⟩ := q; exact ⟨q0, q1, q2, jG.calling g mk a qK, (jK7.calling g mk a q10), q11, q12, q13, q14⟩, hh_71.recv (C := RX11) (T := TX11) (N := 19) hB13 rfl (by decide) hg_r0 hK, fun U hU hW => ⟨rfl, hU, hh_71.2.1, hG.step hW hU hh_71.1, (hK7.step hW hU hh_71.1), hg_r0, jP.nil, (hh_71.2.2.2.2.2.2.2.2.sub (L1 := [(jFl, jLs dC dI ca G0 3 none wl)]) [0] rfl), trivial⟩⟩ rfl rfl hl.1 rfl (lv_room (Nat.le_of_ble_eq_true rfl)) dX11_state_182 ⟨Nat.zero_le _, Nat.zero_le _⟩) hh_71.1 (fun q _ h => h) (fun q h => h) (fun r_76 u_75 t_75 H_75 locs_75 ht_75 hvm_75 hr_76 hb_75 hz_75 hk_75 hS_75 => ?_)
      rw [ht_75] at hb_75
      obtain ⟨hb_75, hbE_75⟩ := hb_75
      obtain ⟨hb_751, hb_752, hb_753, hb_754, hb_755⟩ := hb_75
      have hh_75 : jSt (dC, dI) B base G0 G0 EX11_state s.heap 0 0 [(r0, 13, 10, .ref hands_72)] [] [(jFl, jLs dC dI ca G0 3 none wl)] H_75 locs_75 := (((hh_71.call hb_751 hb_752 hb_753 hb_754 hS_75 rfl (L1 := [(r0, 13, 10, .ref hands_72)]) [0] rfl rfl (M1 := []) [] rfl rfl (I1 := []) [] rfl rfl).more hb_755)).addIs hbE_75
      clear hh_71 ht_75 hvm_75 hz_75 hk_75 hS_75 hb_751 hb_752 hb_753 hb_754 hb_755
      clear  hbE_75
      rw [hQ]
      exact W.iret (v := r_76) hx hb hr (fun t ht hW => ⟨⟨r_76, (), rfl, trivial, ⟨hh_75.rt (M1 := []) [] rfl ht, by rw [ht]; exact hh_75.2.2.2.2.2.2.2.2.sub (L1 := [(jFl, jLs dC dI ca G0 3 none wl)]) [0] rfl⟩⟩, by rw [ht]; try exact hh_75.1.1, fun q h9 hq => by rw [ht]; try exact hh_75.1.2.1 q h9 hq⟩) hh_75.1.2.2 dX11_state_185
    · simp only [va_rf]
      obtain ⟨v_79, hv_79, hh_80⟩ := hh_71.pin (C := RX11) (T := TX11) (N := 19) hB13 rfl (by decide) hg_r0 (i := 7) (by decide) rfl
      obtain ⟨open_81, rfl, hg_open_81⟩ := hv_79
      obtain ⟨v_82, hv_82, hh_83⟩ := hh_80.pin (C := RJx4a65c) (T := TJx4a65c) (N := 3) hB1 rfl (by decide) hg_open_81 (i := 2) (by decide) rfl
      obtain ⟨size_84, rfl, hlosize_84, hhisize_84⟩ := hv_82
      refine va_calli (A0 := jA base) (H0 := s.heap) (va_runV (As := [.ref el_74]) (rest := []) ⟨hx, hb, hml, hown, hts⟩ (uX11_numberOf l dC dI ca base B hB hAp hB1 hB3 hB13 hB221 G0 s.heap r0 el_74 open_81 size_84 wl) (cwV 1 hts (jgV (jWr_43 _ (List.mem_of_getElem? (i := 14) rfl)) (jWr_43 _ (List.mem_of_getElem? (i := 15) rfl)) (jWr_43 _ (List.mem_of_getElem? (i := 16) rfl)) (jWr_1 _ (List.mem_of_getElem? (i := 2) rfl)) (jWr_43 _ (List.mem_of_getElem? (i := 17) rfl))) rfl rfl rfl (by decide +kernel) ⟨by rw [← hR]; exact Nat.le_of_ble_eq_true rfl, by rw [← hR]; exact Nat.le_of_ble_eq_true rfl⟩) ⟨fun a U g mk q => by obtain ⟨q0, q1, q2, qK, q10, q11, q12, q13, q14, q15, q16⟩ := q; exact ⟨q0, q1, q2, jG.calling g mk a qK, (jK7.calling g mk a q10), q11, q12, q13, q14, q15, q16⟩, hh_83.recv (C := RX11) (T := TX11) (N := 19) hB13 rfl (by decide) hg_r0 hK, fun U hU hW => ⟨rfl, hU, hh_83.2.1, hG.step hW hU hh_83.1, (hK7.step hW hU hh_83.1), hg_r0, hg_el_74, hg_open_81, (hh_83.2.2.1.sub (L1 := [(r0, 13, 7, .ref open_81), (open_81, 1, 2, .int size_84)]) [1, 0] rfl), (hh_83.2.2.2.2.2.2.2.2.sub (L1 := [(jFl, jLs dC dI ca G0 3 none wl)]) [0] rfl), by first | omega | (refine ⟨?_, ?_⟩ <;> (first | omega | rfl | assumption | decide | exact Or.inl rfl | exact Or.inr rfl | (simp only; omega)))⟩⟩ rfl rfl hl.1 rfl (lv_room (Nat.le_of_ble_eq_true rfl)) dX11_state_182 ⟨Nat.zero_le _, Nat.zero_le _⟩) hh_83.1 (fun q _ h => h) (fun q h => h) (fun r_78 u_77 t_77 H_77 locs_77 ht_77 hvm_77 hr_78 hb_77 hz_77 hk_77 hS_77 => ?_)
      rw [ht_77] at hb_77
      obtain ⟨hb_77, hbE_77⟩ := hb_77
      obtain ⟨hb_771, hb_772, hb_773, hb_774, hb_775⟩ := hb_77
      have hh_77 : jSt (dC, dI) B base G0 G0 EX11_state s.heap 0 0 [(open_81, 1, 2, .int size_84), (r0, 13, 7, .ref open_81), (r0, 13, 10, .ref hands_72)] [] [(jFl, jLs dC dI ca G0 3 none wl)] H_77 locs_77 := (((hh_83.call hb_771 hb_772 hb_773 hb_774 hS_77 rfl (L1 := [(open_81, 1, 2, .int size_84), (r0, 13, 7, .ref open_81), (r0, 13, 10, .ref hands_72)]) [0, 1, 2] rfl rfl (M1 := []) [] rfl rfl (I1 := []) [] rfl rfl).more hb_775)).addIs hbE_77
      clear hh_83 ht_77 hvm_77 hz_77 hk_77 hS_77 hb_771 hb_772 hb_773 hb_774 hb_775
      clear  hbE_77
      obtain ⟨hr_78_0, hr_78_1⟩ := hr_78
      rw [hQ]
      exact W.iret (v := r_78) hx hb hr (fun t ht hW => ⟨⟨r_78, (), rfl, trivial, ⟨hh_77.rt (M1 := []) [] rfl ht, by rw [ht]; exact hh_77.2.2.2.2.2.2.2.2.sub (L1 := [(jFl, jLs dC dI ca G0 3 none wl)]) [0] rfl⟩⟩, by rw [ht]; try exact hh_77.1.1, fun q h9 hq => by rw [ht]; try exact hh_77.1.2.1 q h9 hq⟩) hh_77.1.2.2 dX11_state_185
  · refine lv_tableIn (off := 185) (tgt := 186) hx hb dX11_state_1 (by omega) (by omega) (by rw [c_1]; rfl) (by decide) ?_
    refine lv_aload_n hx hb dX11_state_186 rfl (lv_at hl 0 rfl) ?_
    refine lv_aload_n hx hb dX11_state_187 rfl (lv_at hl 0 rfl) ?_
    obtain ⟨v_85, hv_85, hh_86⟩ := hh.pin (C := RX11) (T := TX11) (N := 19) hB13 rfl (by decide) hg_r0 (i := 10) (by decide) rfl
    clear hh
    obtain ⟨hands_87, rfl, hg_hands_87⟩ := hv_85
    refine j7_read hx hb hown hK (C := RX11) (T := TX11) (N := 19) rfl hly_13_10 hlk_73 (hh_86.at 0 rfl) dX11_state_188 ?_
    refine lv_iconst (v := 1) hx hb dX11_state_191 (by decide) ?_
    refine j7_qald hx hb hK2 hh_86 hB212 1 rfl (by decide) hg_hands_87 (x := 1) ((by decide)) (by omega) dX11_state_192 (fun o_88 ho_88 => ?_)
    rcases ho_88 with rfl | ⟨el_89, rfl, hg_el_89⟩
    · simp only [va_rf]
      refine va_calli (A0 := jA base) (H0 := s.heap) (va_runV (As := [.null]) (rest := []) ⟨hx, hb, hml, hown, hts⟩ (uX11_numberOfZ l dC dI ca base B hB hAp hB1 hB3 hB13 hB221 G0 s.heap r0 wl) (cwV 1 hts (jgV (jWr_43 _ (List.mem_of_getElem? (i := 14) rfl)) (jWr_43 _ (List.mem_of_getElem? (i := 15) rfl)) (jWr_43 _ (List.mem_of_getElem? (i := 16) rfl)) (jWr_1 _ (List.mem_of_getElem? (i := 2) rfl)) (jWr_43 _ (List.mem_of_getElem? (i := 17) rfl))) rfl rfl rfl (by decide +kernel) ⟨by rw [← hR]; exact Nat.le_of_ble_eq_true rfl, by rw [← hR]; exact Nat.le_of_ble_eq_true rfl⟩) ⟨fun a U g mk q => by obtain ⟨q0, q1, q2, qK, q10, q11, q12, q13, q14⟩ := q; exact ⟨q0, q1, q2, jG.calling g mk a qK, (jK7.calling g mk a q10), q11, q12, q13, q14⟩, hh_86.recv (C := RX11) (T := TX11) (N := 19) hB13 rfl (by decide) hg_r0 hK, fun U hU hW => ⟨rfl, hU, hh_86.2.1, hG.step hW hU hh_86.1, (hK7.step hW hU hh_86.1), hg_r0, jP.nil, (hh_86.2.2.2.2.2.2.2.2.sub (L1 := [(jFl, jLs dC dI ca G0 3 none wl)]) [0] rfl), trivial⟩⟩ rfl rfl hl.1 rfl (lv_room (Nat.le_of_ble_eq_true rfl)) dX11_state_193 ⟨Nat.zero_le _, Nat.zero_le _⟩) hh_86.1 (fun q _ h => h) (fun q h => h) (fun r_91 u_90 t_90 H_90 locs_90 ht_90 hvm_90 hr_91 hb_90 hz_90 hk_90 hS_90 => ?_)
      rw [ht_90] at hb_90
      obtain ⟨hb_90, hbE_90⟩ := hb_90
      obtain ⟨hb_901, hb_902, hb_903, hb_904, hb_905⟩ := hb_90
      have hh_90 : jSt (dC, dI) B base G0 G0 EX11_state s.heap 0 0 [(r0, 13, 10, .ref hands_87)] [] [(jFl, jLs dC dI ca G0 3 none wl)] H_90 locs_90 := (((hh_86.call hb_901 hb_902 hb_903 hb_904 hS_90 rfl (L1 := [(r0, 13, 10, .ref hands_87)]) [0] rfl rfl (M1 := []) [] rfl rfl (I1 := []) [] rfl rfl).more hb_905)).addIs hbE_90
      clear hh_86 ht_90 hvm_90 hz_90 hk_90 hS_90 hb_901 hb_902 hb_903 hb_904 hb_905
      clear  hbE_90
      rw [hQ]
      exact W.iret (v := r_91) hx hb hr (fun t ht hW => ⟨⟨r_91, (), rfl, trivial, ⟨hh_90.rt (M1 := []) [] rfl ht, by rw [ht]; exact hh_90.2.2.2.2.2.2.2.2.sub (L1 := [(jFl, jLs dC dI ca G0 3 none wl)]) [0] rfl⟩⟩, by rw [ht]; try exact hh_90.1.1, fun q h9 hq => by rw [ht]; try exact hh_90.1.2.1 q h9 hq⟩) hh_90.1.2.2 dX11_state_196
    · simp only [va_rf]
      obtain ⟨v_94, hv_94, hh_95⟩ := hh_86.pin (C := RX11) (T := TX11) (N := 19) hB13 rfl (by decide) hg_r0 (i := 7) (by decide) rfl
      obtain ⟨open_96, rfl, hg_open_96⟩ := hv_94
      obtain ⟨v_97, hv_97, hh_98⟩ := hh_95.pin (C := RJx4a65c) (T := TJx4a65c) (N := 3) hB1 rfl (by decide) hg_open_96 (i := 2) (by decide) rfl
      obtain ⟨size_99, rfl, hlosize_99, hhisize_99⟩ := hv_97
      refine va_calli (A0 := jA base) (H0 := s.heap) (va_runV (As := [.ref el_89]) (rest := []) ⟨hx, hb, hml, hown, hts⟩ (uX11_numberOf l dC dI ca base B hB hAp hB1 hB3 hB13 hB221 G0 s.heap r0 el_89 open_96 size_99 wl) (cwV 1 hts (jgV (jWr_43 _ (List.mem_of_getElem? (i := 14) rfl)) (jWr_43 _ (List.mem_of_getElem? (i := 15) rfl)) (jWr_43 _ (List.mem_of_getElem? (i := 16) rfl)) (jWr_1 _ (List.mem_of_getElem? (i := 2) rfl)) (jWr_43 _ (List.mem_of_getElem? (i := 17) rfl))) rfl rfl rfl (by decide +kernel) ⟨by rw [← hR]; exact Nat.le_of_ble_eq_true rfl, by rw [← hR]; exact Nat.le_of_ble_eq_true rfl⟩) ⟨fun a U g mk q => by obtain ⟨q0, q1, q2, qK, q10, q11, q12, q13, q14, q15, q16⟩ := q; exact ⟨q0, q1, q2, jG.calling g mk a qK, (jK7.calling g mk a q10), q11, q12, q13, q14, q15, q16⟩, hh_98.recv (C := RX11) (T := TX11) (N := 19) hB13 rfl (by decide) hg_r0 hK, fun U hU hW => ⟨rfl, hU, hh_98.2.1, hG.step hW hU hh_98.1, (hK7.step hW hU hh_98.1), hg_r0, hg_el_89, hg_open_96, (hh_98.2.2.1.sub (L1 := [(r0, 13, 7, .ref open_96), (open_96, 1, 2, .int size_99)]) [1, 0] rfl), (hh_98.2.2.2.2.2.2.2.2.sub (L1 := [(jFl, jLs dC dI ca G0 3 none wl)]) [0] rfl), by first | omega | (refine ⟨?_, ?_⟩ <;> (first | omega | rfl | assumption | decide | exact Or.inl rfl | exact Or.inr rfl | (simp only; omega)))⟩⟩ rfl rfl hl.1 rfl (lv_room (Nat.le_of_ble_eq_true rfl)) dX11_state_193 ⟨Nat.zero_le _, Nat.zero_le _⟩) hh_98.1 (fun q _ h => h) (fun q h => h) (fun r_93 u_92 t_92 H_92 locs_92 ht_92 hvm_92 hr_93 hb_92 hz_92 hk_92 hS_92 => ?_)
      rw [ht_92] at hb_92
      obtain ⟨hb_92, hbE_92⟩ := hb_92
      obtain ⟨hb_921, hb_922, hb_923, hb_924, hb_925⟩ := hb_92
      have hh_92 : jSt (dC, dI) B base G0 G0 EX11_state s.heap 0 0 [(open_96, 1, 2, .int size_99), (r0, 13, 7, .ref open_96), (r0, 13, 10, .ref hands_87)] [] [(jFl, jLs dC dI ca G0 3 none wl)] H_92 locs_92 := (((hh_98.call hb_921 hb_922 hb_923 hb_924 hS_92 rfl (L1 := [(open_96, 1, 2, .int size_99), (r0, 13, 7, .ref open_96), (r0, 13, 10, .ref hands_87)]) [0, 1, 2] rfl rfl (M1 := []) [] rfl rfl (I1 := []) [] rfl rfl).more hb_925)).addIs hbE_92
      clear hh_98 ht_92 hvm_92 hz_92 hk_92 hS_92 hb_921 hb_922 hb_923 hb_924 hb_925
      clear  hbE_92
      obtain ⟨hr_93_0, hr_93_1⟩ := hr_93
      rw [hQ]
      exact W.iret (v := r_93) hx hb hr (fun t ht hW => ⟨⟨r_93, (), rfl, trivial, ⟨hh_92.rt (M1 := []) [] rfl ht, by rw [ht]; exact hh_92.2.2.2.2.2.2.2.2.sub (L1 := [(jFl, jLs dC dI ca G0 3 none wl)]) [0] rfl⟩⟩, by rw [ht]; try exact hh_92.1.1, fun q h9 hq => by rw [ht]; try exact hh_92.1.2.1 q h9 hq⟩) hh_92.1.2.2 dX11_state_196
end
section
theorem dX11_goals_0 : decode cX11_goals 0 = .ok (.aload_n 0, 1) := by decide +kernel
theorem dX11_goals_1 : decode cX11_goals 1 = .ok (.getfield 200, 3) := by decide +kernel
theorem dX11_goals_4 : decode cX11_goals 4 = .ok (.ifnull 19, 3) := by decide +kernel
theorem dX11_goals_7 : decode cX11_goals 7 = .ok (.iload_n 1, 1) := by decide +kernel
theorem dX11_goals_8 : decode cX11_goals 8 = .ok (.iconst (-1), 1) := by decide +kernel
theorem dX11_goals_9 : decode cX11_goals 9 = .ok (.if_icmp .lt 14, 3) := by decide +kernel
theorem dX11_goals_12 : decode cX11_goals 12 = .ok (.iload_n 1, 1) := by decide +kernel
theorem dX11_goals_13 : decode cX11_goals 13 = .ok (.aload_n 0, 1) := by decide +kernel
theorem dX11_goals_14 : decode cX11_goals 14 = .ok (.getfield 200, 3) := by decide +kernel
theorem dX11_goals_17 : decode cX11_goals 17 = .ok (.getfield 168, 3) := by decide +kernel
theorem dX11_goals_20 : decode cX11_goals 20 = .ok (.if_icmp .lt 5, 3) := by decide +kernel
theorem dX11_goals_23 : decode cX11_goals 23 = .ok (.iconst (-1), 1) := by decide +kernel
theorem dX11_goals_24 : decode cX11_goals 24 = .ok (.ireturn, 1) := by decide +kernel
theorem dX11_goals_25 : decode cX11_goals 25 = .ok (.aload_n 0, 1) := by decide +kernel
theorem dX11_goals_26 : decode cX11_goals 26 = .ok (.getfield 89, 3) := by decide +kernel
theorem dX11_goals_29 : decode cX11_goals 29 = .ok (.iload_n 1, 1) := by decide +kernel
theorem dX11_goals_30 : decode cX11_goals 30 = .ok (.if_icmp .eq 44, 3) := by decide +kernel
theorem dX11_goals_33 : decode cX11_goals 33 = .ok (.aload_n 0, 1) := by decide +kernel
theorem dX11_goals_34 : decode cX11_goals 34 = .ok (.getfield 86, 3) := by decide +kernel
theorem dX11_goals_37 : decode cX11_goals 37 = .ok (.iconst 0, 1) := by decide +kernel
theorem dX11_goals_38 : decode cX11_goals 38 = .ok (.putfield 92, 3) := by decide +kernel
theorem dX11_goals_41 : decode cX11_goals 41 = .ok (.aload_n 0, 1) := by decide +kernel
theorem dX11_goals_42 : decode cX11_goals 42 = .ok (.getfield 54, 3) := by decide +kernel
theorem dX11_goals_45 : decode cX11_goals 45 = .ok (.aload_n 0, 1) := by decide +kernel
theorem dX11_goals_46 : decode cX11_goals 46 = .ok (.getfield 200, 3) := by decide +kernel
theorem dX11_goals_49 : decode cX11_goals 49 = .ok (.iload_n 1, 1) := by decide +kernel
theorem dX11_goals_50 : decode cX11_goals 50 = .ok (.iconst 1, 1) := by decide +kernel
theorem dX11_goals_51 : decode cX11_goals 51 = .ok (.iadd, 1) := by decide +kernel
theorem dX11_goals_52 : decode cX11_goals 52 = .ok (.aload_n 0, 1) := by decide +kernel
theorem dX11_goals_53 : decode cX11_goals 53 = .ok (.getfield 41, 3) := by decide +kernel
theorem dX11_goals_56 : decode cX11_goals 56 = .ok (.getfield 217, 3) := by decide +kernel
theorem dX11_goals_59 : decode cX11_goals 59 = .ok (.invokevirtual 221, 3) := by decide +kernel
theorem dX11_goals_62 : decode cX11_goals 62 = .ok (.aload_n 0, 1) := by decide +kernel
theorem dX11_goals_63 : decode cX11_goals 63 = .ok (.getfield 86, 3) := by decide +kernel
theorem dX11_goals_66 : decode cX11_goals 66 = .ok (.invokevirtual 242, 3) := by decide +kernel
theorem dX11_goals_69 : decode cX11_goals 69 = .ok (.aload_n 0, 1) := by decide +kernel
theorem dX11_goals_70 : decode cX11_goals 70 = .ok (.iload_n 1, 1) := by decide +kernel
theorem dX11_goals_71 : decode cX11_goals 71 = .ok (.putfield 89, 3) := by decide +kernel
theorem dX11_goals_74 : decode cX11_goals 74 = .ok (.iload_n 2, 1) := by decide +kernel
theorem dX11_goals_75 : decode cX11_goals 75 = .ok (.ifCond .lt 14, 3) := by decide +kernel
theorem dX11_goals_78 : decode cX11_goals 78 = .ok (.iload_n 2, 1) := by decide +kernel
theorem dX11_goals_79 : decode cX11_goals 79 = .ok (.aload_n 0, 1) := by decide +kernel
theorem dX11_goals_80 : decode cX11_goals 80 = .ok (.getfield 86, 3) := by decide +kernel
theorem dX11_goals_83 : decode cX11_goals 83 = .ok (.getfield 92, 3) := by decide +kernel
theorem dX11_goals_86 : decode cX11_goals 86 = .ok (.if_icmp .lt 7, 3) := by decide +kernel
theorem dX11_goals_89 : decode cX11_goals 89 = .ok (.iconst (-1), 1) := by decide +kernel
theorem dX11_goals_90 : decode cX11_goals 90 = .ok (.goto 16, 3) := by decide +kernel
theorem dX11_goals_93 : decode cX11_goals 93 = .ok (.aload_n 0, 1) := by decide +kernel
theorem dX11_goals_94 : decode cX11_goals 94 = .ok (.getfield 86, 3) := by decide +kernel
theorem dX11_goals_97 : decode cX11_goals 97 = .ok (.getfield 98, 3) := by decide +kernel
theorem dX11_goals_100 : decode cX11_goals 100 = .ok (.iload_n 2, 1) := by decide +kernel
theorem dX11_goals_101 : decode cX11_goals 101 = .ok (.baload, 1) := by decide +kernel
theorem dX11_goals_102 : decode cX11_goals 102 = .ok (.sipush 255, 3) := by decide +kernel
theorem dX11_goals_105 : decode cX11_goals 105 = .ok (.iand, 1) := by decide +kernel
theorem dX11_goals_106 : decode cX11_goals 106 = .ok (.ireturn, 1) := by decide +kernel
def EX11_goals : List (Nat × Nat) := [(2, 0), (2, 1), (9, 2), (13, 18), (196, 0), (286, 0), (287, 0), (288, 0)]
set_option maxHeartbeats 4000000 in
set_option maxRecDepth 20000 in
theorem uX11_goals (l : Launch) (dC : Nat → ClassId) (dI : Nat → Nat → Nat) (ca : Nat → ClassId) (base : Nat) (B : jF) (hB : jBok B) (hAp : jAp (dC, dI)) (hB2 : ∀ n G a H, B 2 n G a H ↔ jOb (dC, dI) 2 2 (F2 n G) a H) (hB3 : ∀ n G a H, B 3 n G a H ↔ jOb (dC, dI) 3 17 (F3 n G) a H) (hB5 : ∀ n G a H, B 5 n G a H ↔ jOb (dC, dI) 5 4 (F5 n G) a H) (hB7 : ∀ n G a H, B 7 n G a H ↔ jOb (dC, dI) 7 11 (F7 n G) a H) (hB8 : ∀ n G a H, B 8 n G a H ↔ jOb (dC, dI) 8 4 (F8 n G) a H) (hB9 : ∀ n G a H, B 9 n G a H ↔ jOb (dC, dI) 9 5 (F9b n G) a H) (hB11 : ∀ n G a H, B 11 n G a H ↔ jOb (dC, dI) 11 9 (F11 n G) a H) (hB13 : ∀ n G a H, B 13 n G a H ↔ jOb (dC, dI) 13 19 (F13 n G) a H) (hB17 : ∀ n G a H, B 17 n G a H ↔ jOb (dC, dI) 17 2 (F17 n G) a H) (hB101 : ∀ n G a H, B 101 n G a H ↔ jAr (dC, dI) (ca 1) (fun j z => True) n a H) (hB102 : ∀ n G a H, B 102 n G a H ↔ jAl (dC, dI) (ca 2) n a H) (hB132 : ∀ n G a H, B 132 n G a H ↔ jAr (dC, dI) (ca 1) (fun j z => 0 ≤ z.toInt ∧ z.toInt ≤ 10) n a H) (hB196 : ∀ n G a H, B 196 n G a H ↔ jAr (dC, dI) (ca 0) (fun j z => jBf j z) n a H) (hB199 : ∀ n G a H, B 199 n G a H ↔ jAr (dC, dI) (ca 0) (fun j z => jBf j z) n a H) (hB210 : ∀ n G a H, B 210 n G a H ↔ jAq (dC, dI) (ca 6) (jQn 11 0) n G a H) (hB214 : ∀ n G a H, B 214 n G a H ↔ jAq (dC, dI) (ca 7) (jQg) n G a H) (hB280 : ∀ n G a H, B 280 n G a H ↔ jAr (dC, dI) (ca 1) (fun j z => -1 ≤ z.toInt) n a H) (hB286 : ∀ n G a H, B 286 n G a H ↔ jAr (dC, dI) (ca 1) (fun j z => (0 ≤ z.toInt ∨ z.toInt = -3)) n a H) (hB287 : ∀ n G a H, B 287 n G a H ↔ jAr (dC, dI) (ca 1) (fun j z => 0 ≤ z.toInt ∧ z.toInt ≤ 65535) n a H) (hB288 : ∀ n G a H, B 288 n G a H ↔ jAr (dC, dI) (ca 1) (fun j z => 0 ≤ z.toInt ∧ z.toInt ≤ 160) n a H) (hB313 : ∀ n G a H, B 313 n G a H ↔ jAq (dC, dI) (ca 8) (jQk 280 80) n G a H) (G0 : jT) (H0 : Heap) (r0 : Nat) (a1 : Int32) (a2 : Int32) (sh : Nat) (pc : Int32) (pa : Nat) (n_pa : Nat) (LC LS : Nat) : Met l yX11_goals (jw yX11_goals cX11_goals 3 (some .int)) ({ frames := 7, cells := LC - H0.size, slots := LS - jTot H0, locals := 219 }) (va_Pc [.ref r0, .int a1, .int a2] (fun U => U.heap = H0 ∧ jX B base G0 [] H0 ∧ jG dC dI ca base U ∧ jK2 dC dI ca U ∧ jK5 dC dI ca U ∧ G0 r0 = some (13, 0) ∧ G0 sh = some (2, 0) ∧ G0 pa = some (196, n_pa) ∧ jP (dC, dI) G0 H0 [(r0, 13, 17, .ref sh), (sh, 2, 1, .int pc), (sh, 2, 0, .ref pa)] ∧ jIs (dC, dI) G0 H0 [(jFy, jYb dC dI G0)] ∧ H0.size + (1048576 - n_pa) / 16 + 1 ≤ LC ∧ jTot H0 + 2 * (1048576 - n_pa) ≤ LS ∧ 0 ≤ pc.toInt ∧ pc.toInt ≤ n_pa ∧ 16 ≤ n_pa ∧ n_pa ≤ 1048576 ∧ jPw n_pa)) (va_Qi (S := Int32 × Nat × Nat × jT) (fun r u => (0 ≤ u.1.toInt ∧ u.1.toInt ≤ u.2.2.1 ∧ n_pa ≤ u.2.2.1 ∧ u.2.2.1 ≤ 1048576 ∧ jPw u.2.2.1)) (fun u t => jRa (dC, dI) B base G0 u.2.2.2 EX11_goals H0 ((u.2.2.1 - n_pa) / 16) (2 * (u.2.2.1 - n_pa)) [(sh, 2, 1, .int u.1), (sh, 2, 0, .ref u.2.1)] t.heap ∧ u.2.2.2 u.2.1 = some (196, u.2.2.1) ∧ (jNk [0, 1, 2, 3, 4, 5, 6, 7, 8, 9, 10, 11, 12, 13, 14, 15, 16, 17, 175]) G0 u.2.2.2 ∧ jOl (dC, dI) G0 2 [sh] H0 t.heap ∧ jIs (dC, dI) u.2.2.2 t.heap [(jFy, jYb dC dI u.2.2.2)]) (jA base)) (LC - H0.size) (LS - jTot H0) (jA base) := by
  refine Met.ofW (cc := cX11_goals) (maxL := 3) (ret := (some .int)) (by decide) rfl ?_
  intro p e s m args below meth c s₁ Bd hml hv
  obtain ⟨rfl, hH0, hX, hG, hK2, hK5, hg_r0, hg_sh, hg_pa, hP0, hI0, hLC0, hLS0, hp0, hp1, hp2, hp3, hp4⟩ := hv
  have hK := hG.1
  have hx := Bd.exec
  have hb := Bd.bytes
  have hr := Bd.returns
  have hts := atoms_spec (ws := (jw yX11_goals cX11_goals 3 (some .int))) Bd.pre
  have htw : ∀ w ∈ jWl, w.before _ s = true := fun w h => hts w (List.mem_cons_of_mem _ h)
  have hown : s.vm.findClass RX11 = some m.cls := findClass_of_methodNamed Bd.named
  have hlocks := Bd.notSynchronized
  obtain ⟨Q, hQ⟩ : ∃ Q, Q = MQ below (va_Qi (S := Int32 × Nat × Nat × jT) (fun r u => (0 ≤ u.1.toInt ∧ u.1.toInt ≤ u.2.2.1 ∧ n_pa ≤ u.2.2.1 ∧ u.2.2.1 ≤ 1048576 ∧ jPw u.2.2.1)) (fun u t => jRa (dC, dI) B base G0 u.2.2.2 EX11_goals H0 ((u.2.2.1 - n_pa) / 16) (2 * (u.2.2.1 - n_pa)) [(sh, 2, 1, .int u.1), (sh, 2, 0, .ref u.2.1)] t.heap ∧ u.2.2.2 u.2.1 = some (196, u.2.2.1) ∧ (jNk [0, 1, 2, 3, 4, 5, 6, 7, 8, 9, 10, 11, 12, 13, 14, 15, 16, 17, 175]) G0 u.2.2.2 ∧ jOl (dC, dI) G0 2 [sh] H0 t.heap ∧ jIs (dC, dI) u.2.2.2 t.heap [(jFy, jYb dC dI u.2.2.2)]) (jA base)) ([.ref r0, .int a1, .int a2] : List Value).toArray s (LC - H0.size) (LS - jTot H0) (jA base) := ⟨_, rfl⟩
  rw [← hQ]
  have hl := lv_entry ([.ref r0, .int a1, .int a2]) (n := 3) (Nat.le_of_ble_eq_true rfl)
  rw [lg_entry_eq]
  generalize (lg_sl ([.ref r0, .int a1, .int a2]) ++ List.replicate (3 - (lg_sl ([.ref r0, .int a1, .int a2])).length) Slot.unset).toArray = ls at hl ⊢
  have hl : lv_has ls 3 [(0, .ref r0), (1, .int a1), (2, .int a2)] := hl
  generalize hR : (headSpec (jw yX11_goals cX11_goals 3 (some .int)) ({ frames := 7, cells := LC - H0.size, slots := LS - jTot H0, locals := 219 })).room = R
  subst hH0
  have hh : jSt (dC, dI) B base G0 G0 EX11_goals s.heap 0 0 [(r0, 13, 17, .ref sh), (sh, 2, 1, .int pc), (sh, 2, 0, .ref pa)] [] [(jFy, jYb dC dI G0)] s.heap [] := jSt.start hX hP0 jMc.nil hI0
  clear hX hP0
  have hkm1 : ((-1) : Int32).toInt = (-1) := by decide
  have hk0 : (0 : Int32).toInt = 0 := by decide
  have hk1 : (1 : Int32).toInt = 1 := by decide
  have hk255 : (255 : Int32).toInt = 255 := by decide
  have hly_2_0 := htw (u_lay RX0 TX0 0) (jWc_wsX00 _ (u_in_lay (by decide)))
  have hly_2_1 := htw (u_lay RX0 TX0 1) (jWc_wsX00 _ (u_in_lay (by decide)))
  have hly_3_4 := htw (u_lay RX1 TX1 4) (jWc_wsX10 _ (u_in_lay (by decide)))
  have hly_7_2 := htw (u_lay RX5 TX5 2) (jWc_wsX50 _ (u_in_lay (by decide)))
  have hly_13_5 := htw (u_lay RX11 TX11 5) (jWc_wsX110 _ (u_in_lay (by decide)))
  have hly_13_6 := htw (u_lay RX11 TX11 6) (jWc_wsX110 _ (u_in_lay (by decide)))
  have hly_13_16 := htw (u_lay RX11 TX11 16) (jWc_wsX110 _ (u_in_lay (by decide)))
  have hly_13_17 := htw (u_lay RX11 TX11 17) (jWc_wsX110 _ (u_in_lay (by decide)))
  have hly_13_18 := htw (u_lay RX11 TX11 18) (jWc_wsX110 _ (u_in_lay (by decide)))
  have hlk_200 := (htw (.fieldLink RX11 200 "ProofServer" "latest" "LProofServer$Document;") (jWr_93 _ (List.mem_of_getElem? (i := 14) rfl)))
  have hlk_168 := (htw (.fieldLink RX11 168 "ProofServer$Document" "sentences" "I") (jWr_35 _ (List.mem_of_getElem? (i := 4) rfl)))
  have hlk_89 := (htw (.fieldLink RX11 89 "ProofServer" "shownOf" "I") (jWr_3 _ (List.mem_of_getElem? (i := 0) rfl)))
  have hlk_86 := (htw (.fieldLink RX11 86 "ProofServer" "shown" "LProofServer$Bytes;") (jWr_2 _ (List.mem_of_getElem? (i := 23) rfl)))
  have hlk_92 := (htw (.fieldLink RX11 92 "ProofServer$Bytes" "count" "I") (jWr_15 _ (List.mem_of_getElem? (i := 18) rfl)))
  have hlk_54 := (htw (.fieldLink RX11 54 "ProofServer" "printer" "LProofServer$Printer;") (jWr_2 _ (List.mem_of_getElem? (i := 10) rfl)))
  have hlk_41 := (htw (.fieldLink RX11 41 "ProofServer" "kernel" "LProofServer$Kernel;") (jWr_2 _ (List.mem_of_getElem? (i := 5) rfl)))
  have hlk_217 := (htw (.fieldLink RX11 217 "ProofServer$Kernel" "start" "LProofServer$State;") (jWr_30 _ (List.mem_of_getElem? (i := 6) rfl)))
  have hlk_98 := (htw (.fieldLink RX11 98 "ProofServer$Bytes" "row" "[B") (jWr_17 _ (List.mem_of_getElem? (i := 7) rfl)))
  have hrg_a1 := jb_rng a1
  have hrg_a2 := jb_rng a2
  have hbs : base ≤ s.heap.size := Nat.le_of_lt (Nat.lt_of_le_of_lt (hh.ab hg_r0).1 (hh.ab hg_r0).2)
  have hRc : R.cells = LC - s.heap.size := by rw [← hR]; rfl
  have hRs : R.slots = LS - jTot s.heap := by rw [← hR]; rfl
  have hh_1 := hh.addI (jOl.ie (dC := dC) (dI := dI) (G0 := G0) (k := 2) (rs := [sh]) (H0 := s.heap) (F := [(2, 0), (2, 1)]) (C := RX0) (T := TX0) (N := 2) rfl (by decide) hh.2.2.2.2.1 (jOl.rf))
  clear hh
  refine lv_aload_n hx hb dX11_goals_0 rfl (lv_at hl 0 rfl) ?_
  obtain ⟨v_2, hv_2, hh_3⟩ := hh_1.pin (C := RX11) (T := TX11) (N := 19) hB13 rfl (by decide) hg_r0 (i := 16) (by decide) rfl
  clear hh_1
  rcases hv_2 with rfl | ⟨latest_4, rfl, hg_latest_4⟩
  · refine j7_read hx hb hown hK (C := RX11) (T := TX11) (N := 19) rfl hly_13_16 hlk_200 (hh_3.at 0 rfl) dX11_goals_1 ?_
    refine lv_ifnullN (tgt := 23) hx hb dX11_goals_4 (by decide) ?_
    refine lv_iconst (v := (-1)) hx hb dX11_goals_23 (by decide) ?_
    have hsz_5 := hh_3.2.2.2.2.2.1
    have htt_5 := hh_3.2.2.2.2.2.2.1
    refine W.room (fun hrc_5 hrs_5 => ?_)
    refine W.widen (k := LC - s.heap.size) (n := LS - jTot s.heap) (by omega) (by omega) ?_
    rw [hQ]
    exact W.iret (v := (-1)) hx hb hr (fun t ht hW => ⟨⟨(-1), (pc, pa, n_pa, G0), rfl, by (try dsimp only); exact ⟨(by first | omega | rfl | assumption | fail), (by first | omega | rfl | assumption | fail), (by first | omega | rfl | assumption | fail), (by first | omega | rfl | assumption | fail), (by first | assumption | fail | omega)⟩, ⟨hh_3.ra (by first | omega | (simp only; omega)) (by first | omega | (simp only; omega)) (M1 := [(sh, 2, 1, .int pc), (sh, 2, 0, .ref pa)]) [2, 3] rfl ht, hg_pa, jNk.rf, by rw [ht]; exact hh_3.iv 0 rfl, by rw [ht]; exact hh_3.2.2.2.2.2.2.2.2.sub (L1 := [(jFy, jYb dC dI G0)]) [1] rfl⟩⟩, by rw [ht]; try exact hh_3.1.1, fun q h9 hq => by rw [ht]; try exact hh_3.1.2.1 q h9 hq⟩) hh_3.1.2.2 dX11_goals_24
  · refine j7_read hx hb hown hK (C := RX11) (T := TX11) (N := 19) rfl hly_13_16 hlk_200 (hh_3.at 0 rfl) dX11_goals_1 ?_
    refine lv_ifnull hx hb dX11_goals_4 ?_
    refine lv_iload_n hx hb dX11_goals_7 rfl (lv_at hl 1 rfl) ?_
    refine lv_iconst (v := (-1)) hx hb dX11_goals_8 (by decide) ?_
    refine lv_icmp_lt (tgt := 23) hx hb dX11_goals_9 (by decide) (fun c_6 => ?_) (fun c_6 => ?_)
    · skip
      have c_6' : a1.toInt < (-1) := jb_lt (rfl) ((by decide)) c_6
      refine lv_iconst (v := (-1)) hx hb dX11_goals_23 (by decide) ?_
      have hsz_7 := hh_3.2.2.2.2.2.1
      have htt_7 := hh_3.2.2.2.2.2.2.1
      refine W.room (fun hrc_7 hrs_7 => ?_)
      refine W.widen (k := LC - s.heap.size) (n := LS - jTot s.heap) (by omega) (by omega) ?_
      rw [hQ]
      exact W.iret (v := (-1)) hx hb hr (fun t ht hW => ⟨⟨(-1), (pc, pa, n_pa, G0), rfl, by (try dsimp only); exact ⟨(by first | omega | rfl | assumption | fail), (by first | omega | rfl | assumption | fail), (by first | omega | rfl | assumption | fail), (by first | omega | rfl | assumption | fail), (by first | assumption | fail | omega)⟩, ⟨hh_3.ra (by first | omega | (simp only; omega)) (by first | omega | (simp only; omega)) (M1 := [(sh, 2, 1, .int pc), (sh, 2, 0, .ref pa)]) [2, 3] rfl ht, hg_pa, jNk.rf, by rw [ht]; exact hh_3.iv 0 rfl, by rw [ht]; exact hh_3.2.2.2.2.2.2.2.2.sub (L1 := [(jFy, jYb dC dI G0)]) [1] rfl⟩⟩, by rw [ht]; try exact hh_3.1.1, fun q h9 hq => by rw [ht]; try exact hh_3.1.2.1 q h9 hq⟩) hh_3.1.2.2 dX11_goals_24
    · skip
      have c_6' : a1.toInt ≥ (-1) := jb_lt_n (rfl) ((by decide)) c_6
      refine lv_iload_n hx hb dX11_goals_12 rfl (lv_at hl 1 rfl) ?_
      refine lv_aload_n hx hb dX11_goals_13 rfl (lv_at hl 0 rfl) ?_
      refine j7_read hx hb hown hK (C := RX11) (T := TX11) (N := 19) rfl hly_13_16 hlk_200 (hh_3.at 0 rfl) dX11_goals_14 ?_
      obtain ⟨v_8, hv_8, hh_9⟩ := hh_3.pin (C := RX1) (T := TX1) (N := 17) hB3 rfl (by decide) hg_latest_4 (i := 4) (by decide) rfl
      clear hh_3
      obtain ⟨sentences_10, rfl, hlosentences_10, hhisentences_10⟩ := hv_8
      refine j7_read hx hb hown hK (C := RX1) (T := TX1) (N := 17) rfl hly_3_4 hlk_168 (hh_9.at 0 rfl) dX11_goals_17 ?_
      refine lv_icmp_lt (tgt := 25) hx hb dX11_goals_20 (by decide) (fun c_11 => ?_) (fun c_11 => ?_)
      · skip
        have c_11' : a1.toInt < sentences_10.toInt := jb_lt (rfl) (rfl) c_11
        refine lv_aload_n hx hb dX11_goals_25 rfl (lv_at hl 0 rfl) ?_
        obtain ⟨v_12, hv_12, hh_13⟩ := hh_9.pin (C := RX11) (T := TX11) (N := 19) hB13 rfl (by decide) hg_r0 (i := 18) (by decide) rfl
        clear hh_9
        obtain ⟨shownOf_14, rfl⟩ := hv_12
        refine j7_read hx hb hown hK (C := RX11) (T := TX11) (N := 19) rfl hly_13_18 hlk_89 (hh_13.at 0 rfl) dX11_goals_26 ?_
        refine lv_iload_n hx hb dX11_goals_29 rfl (lv_at hl 1 rfl) ?_
        refine lv_icmp_eq (tgt := 74) hx hb dX11_goals_30 (by decide) (fun c_15 => ?_) (fun c_15 => ?_)
        · skip
          have c_15' : shownOf_14.toInt = a1.toInt := jb_eq (rfl) (rfl) c_15
          refine lv_iload_n hx hb dX11_goals_74 rfl (lv_at hl 2 rfl) ?_
          refine lv_if_lt (tgt := 89) hx hb dX11_goals_75 (by decide) (fun c_16 => ?_) (fun c_16 => ?_)
          · skip
            have c_16' : a2.toInt < 0 := jb_lt (rfl) ((by decide)) c_16
            refine lv_iconst (v := (-1)) hx hb dX11_goals_89 (by decide) ?_
            refine lv_goto (tgt := 106) hx hb dX11_goals_90 (by decide) ?_
            have hsz_17 := hh_13.2.2.2.2.2.1
            have htt_17 := hh_13.2.2.2.2.2.2.1
            refine W.room (fun hrc_17 hrs_17 => ?_)
            refine W.widen (k := LC - s.heap.size) (n := LS - jTot s.heap) (by omega) (by omega) ?_
            rw [hQ]
            exact W.iret (v := (-1)) hx hb hr (fun t ht hW => ⟨⟨(-1), (pc, pa, n_pa, G0), rfl, by (try dsimp only); exact ⟨(by first | omega | rfl | assumption | fail), (by first | omega | rfl | assumption | fail), (by first | omega | rfl | assumption | fail), (by first | omega | rfl | assumption | fail), (by first | assumption | fail | omega)⟩, ⟨hh_13.ra (by first | omega | (simp only; omega)) (by first | omega | (simp only; omega)) (M1 := [(sh, 2, 1, .int pc), (sh, 2, 0, .ref pa)]) [4, 5] rfl ht, hg_pa, jNk.rf, by rw [ht]; exact hh_13.iv 0 rfl, by rw [ht]; exact hh_13.2.2.2.2.2.2.2.2.sub (L1 := [(jFy, jYb dC dI G0)]) [1] rfl⟩⟩, by rw [ht]; try exact hh_13.1.1, fun q h9 hq => by rw [ht]; try exact hh_13.1.2.1 q h9 hq⟩) hh_13.1.2.2 dX11_goals_106
          · skip
            have c_16' : a2.toInt ≥ 0 := jb_lt_n (rfl) ((by decide)) c_16
            refine lv_iload_n hx hb dX11_goals_78 rfl (lv_at hl 2 rfl) ?_
            refine lv_aload_n hx hb dX11_goals_79 rfl (lv_at hl 0 rfl) ?_
            refine j7_read hx hb hown hK (C := RX11) (T := TX11) (N := 19) rfl hly_13_17 hlk_86 (hh_13.at 3 rfl) dX11_goals_80 ?_
            refine j7_read hx hb hown hK (C := RX0) (T := TX0) (N := 2) rfl hly_2_1 hlk_92 (hh_13.at 4 rfl) dX11_goals_83 ?_
            refine lv_icmp_lt (tgt := 93) hx hb dX11_goals_86 (by decide) (fun c_18 => ?_) (fun c_18 => ?_)
            · skip
              have c_18' : a2.toInt < pc.toInt := jb_lt (rfl) (rfl) c_18
              refine lv_aload_n hx hb dX11_goals_93 rfl (lv_at hl 0 rfl) ?_
              refine j7_read hx hb hown hK (C := RX11) (T := TX11) (N := 19) rfl hly_13_17 hlk_86 (hh_13.at 3 rfl) dX11_goals_94 ?_
              refine j7_read hx hb hown hK (C := RX0) (T := TX0) (N := 2) rfl hly_2_0 hlk_98 (hh_13.at 5 rfl) dX11_goals_97 ?_
              refine lv_iload_n hx hb dX11_goals_100 rfl (lv_at hl 2 rfl) ?_
              refine j7_bald hx hb hK hh_13 hB196 0 rfl (by decide) hg_pa (x := a2.toInt) (rfl) (by omega) dX11_goals_101 (fun z_19 (hz_19 : jBf (a2.toInt).toNat z_19) => ?_)
              refine lv_sipush (v := 255) hx hb dX11_goals_102 (by decide) ?_
              refine lv_iand hx hb dX11_goals_105 ?_
              refine lv_topi (fun z_20 ez_20 => ?_)
              have hz_20 : 0 ≤ z_20.toInt ∧ z_20.toInt ≤ 255 := by rw [ez_20]; exact jb_and z_19 (m := 255) (k := 8) (by decide) (by decide)
              have hsz_21 := hh_13.2.2.2.2.2.1
              have htt_21 := hh_13.2.2.2.2.2.2.1
              refine W.room (fun hrc_21 hrs_21 => ?_)
              refine W.widen (k := LC - s.heap.size) (n := LS - jTot s.heap) (by omega) (by omega) ?_
              rw [hQ]
              exact W.iret (v := z_20) hx hb hr (fun t ht hW => ⟨⟨z_20, (pc, pa, n_pa, G0), rfl, by (try dsimp only); exact ⟨(by first | omega | rfl | assumption | fail), (by first | omega | rfl | assumption | fail), (by first | omega | rfl | assumption | fail), (by first | omega | rfl | assumption | fail), (by first | assumption | fail | omega)⟩, ⟨hh_13.ra (by first | omega | (simp only; omega)) (by first | omega | (simp only; omega)) (M1 := [(sh, 2, 1, .int pc), (sh, 2, 0, .ref pa)]) [4, 5] rfl ht, hg_pa, jNk.rf, by rw [ht]; exact hh_13.iv 0 rfl, by rw [ht]; exact hh_13.2.2.2.2.2.2.2.2.sub (L1 := [(jFy, jYb dC dI G0)]) [1] rfl⟩⟩, by rw [ht]; try exact hh_13.1.1, fun q h9 hq => by rw [ht]; try exact hh_13.1.2.1 q h9 hq⟩) hh_13.1.2.2 dX11_goals_106
            · skip
              have c_18' : a2.toInt ≥ pc.toInt := jb_lt_n (rfl) (rfl) c_18
              refine lv_iconst (v := (-1)) hx hb dX11_goals_89 (by decide) ?_
              refine lv_goto (tgt := 106) hx hb dX11_goals_90 (by decide) ?_
              have hsz_22 := hh_13.2.2.2.2.2.1
              have htt_22 := hh_13.2.2.2.2.2.2.1
              refine W.room (fun hrc_22 hrs_22 => ?_)
              refine W.widen (k := LC - s.heap.size) (n := LS - jTot s.heap) (by omega) (by omega) ?_
              rw [hQ]
              exact W.iret (v := (-1)) hx hb hr (fun t ht hW => ⟨⟨(-1), (pc, pa, n_pa, G0), rfl, by (try dsimp only); exact ⟨(by first | omega | rfl | assumption | fail), (by first | omega | rfl | assumption | fail), (by first | omega | rfl | assumption | fail), (by first | omega | rfl | assumption | fail), (by first | assumption | fail | omega)⟩, ⟨hh_13.ra (by first | omega | (simp only; omega)) (by first | omega | (simp only; omega)) (M1 := [(sh, 2, 1, .int pc), (sh, 2, 0, .ref pa)]) [4, 5] rfl ht, hg_pa, jNk.rf, by rw [ht]; exact hh_13.iv 0 rfl, by rw [ht]; exact hh_13.2.2.2.2.2.2.2.2.sub (L1 := [(jFy, jYb dC dI G0)]) [1] rfl⟩⟩, by rw [ht]; try exact hh_13.1.1, fun q h9 hq => by rw [ht]; try exact hh_13.1.2.1 q h9 hq⟩) hh_13.1.2.2 dX11_goals_106
        · skip
          have c_15' : shownOf_14.toInt ≠ a1.toInt := jb_eq_n (rfl) (rfl) c_15
          refine lv_aload_n hx hb dX11_goals_33 rfl (lv_at hl 0 rfl) ?_
          refine j7_read hx hb hown hK (C := RX11) (T := TX11) (N := 19) rfl hly_13_17 hlk_86 (hh_13.at 3 rfl) dX11_goals_34 ?_
          refine lv_iconst (v := 0) hx hb dX11_goals_37 (by decide) ?_
          have hd_24 := hh_13.iv 0 rfl
          have hd_25 := hh_13.iv 1 rfl
          have hh_26 := hh_13.sub (L1 := [(r0, 13, 18, .int shownOf_14), (latest_4, 3, 4, .int sentences_10), (r0, 13, 16, .ref latest_4), (r0, 13, 17, .ref sh), (sh, 2, 1, .int pc), (sh, 2, 0, .ref pa)]) [0, 1, 2, 3, 4, 5] rfl (M1 := []) [] rfl (I1 := []) [] rfl
          clear hh_13
          refine j7_putX hx hb hown hK hh_26 hB hAp hB2 (C := RX0) (T := TX0) (N := 2) rfl (by decide) hg_sh (i := 1) (by decide) hly_2_1 rfl hlk_92 rfl (ty := .int) (v := .int 0) (by decide +kernel) rfl rfl (⟨_, rfl, by omega, by omega, by omega⟩) rfl (L1 := [(r0, 13, 18, .int shownOf_14), (latest_4, 3, 4, .int sentences_10), (r0, 13, 16, .ref latest_4), (r0, 13, 17, .ref sh), (sh, 2, 0, .ref pa)]) [0, 1, 2, 3, 5] rfl rfl rfl dX11_goals_38 (fun H_23 locs_23 hr_23 hh_23 => ?_)
          clear hh_26
          have hd_25n := jYb.put hd_25 hr_23 hg_sh (fun h9 => ⟨_, _, _, hh_23.at 0 rfl, hh_23.at 5 rfl, hg_pa, by omega⟩)
          have hd_24n := jOl.put hd_24 hr_23 (by simp)
          have hh_27 := hh_23.addI (jYb.ie hd_25n)
          clear hh_23
          have hh_28 := hh_27.addI (jOl.ie (dC := dC) (dI := dI) (G0 := G0) (k := 2) (rs := [sh]) (H0 := s.heap) (F := [(2, 0), (2, 1)]) (C := RX0) (T := TX0) (N := 2) rfl (by decide) hh_27.2.2.2.2.1 (hd_24n))
          clear hh_27
          clear hd_24 hd_24n hd_25 hd_25n hr_23
          refine lv_aload_n hx hb dX11_goals_41 rfl (lv_at hl 0 rfl) ?_
          obtain ⟨v_29, hv_29, hh_30⟩ := hh_28.pin (C := RX11) (T := TX11) (N := 19) hB13 rfl (by decide) hg_r0 (i := 6) (by decide) rfl
          clear hh_28
          obtain ⟨printer_31, rfl, hg_printer_31⟩ := hv_29
          refine j7_read hx hb hown hK (C := RX11) (T := TX11) (N := 19) rfl hly_13_6 hlk_54 (hh_30.at 0 rfl) dX11_goals_42 ?_
          refine lv_aload_n hx hb dX11_goals_45 rfl (lv_at hl 0 rfl) ?_
          refine j7_read hx hb hown hK (C := RX11) (T := TX11) (N := 19) rfl hly_13_16 hlk_200 (hh_30.at 4 rfl) dX11_goals_46 ?_
          refine lv_iload_n hx hb dX11_goals_49 rfl (lv_at hl 1 rfl) ?_
          refine lv_iconst (v := 1) hx hb dX11_goals_50 (by decide) ?_
          refine lv_iadd hx hb dX11_goals_51 ?_
          refine lv_topi (fun z_32 ez_32 => ?_)
          have hz_32 : z_32.toInt = a1.toInt + 1 := by rw [ez_32]; exact jb_iadd2 (rfl) ((by decide)) (by omega)
          refine lv_aload_n hx hb dX11_goals_52 rfl (lv_at hl 0 rfl) ?_
          obtain ⟨v_33, hv_33, hh_34⟩ := hh_30.pin (C := RX11) (T := TX11) (N := 19) hB13 rfl (by decide) hg_r0 (i := 5) (by decide) rfl
          clear hh_30
          obtain ⟨kernel_35, rfl, hg_kernel_35⟩ := hv_33
          refine j7_read hx hb hown hK (C := RX11) (T := TX11) (N := 19) rfl hly_13_5 hlk_41 (hh_34.at 0 rfl) dX11_goals_53 ?_
          obtain ⟨v_36, hv_36, hh_37⟩ := hh_34.pin (C := RX5) (T := TX5) (N := 11) hB7 rfl (by decide) hg_kernel_35 (i := 2) (by decide) rfl
          clear hh_34
          obtain ⟨start_38, rfl, hg_start_38⟩ := hv_36
          refine j7_read hx hb hown hK (C := RX5) (T := TX5) (N := 11) rfl hly_7_2 hlk_217 (hh_37.at 0 rfl) dX11_goals_56 ?_
          have hsz_39 := hh_37.2.2.2.2.2.1
          have htt_39 := hh_37.2.2.2.2.2.2.1
          refine W.room (fun hrc_39 hrs_39 => ?_)
          refine j_callx (A0 := jA base) (H0 := s.heap) (va_runV (As := [.int z_32, .ref start_38]) (rest := [.ref printer_31]) ⟨hx, hb, hml, hown, hts⟩ (uX1_stateBehind l dC dI ca base B hB hAp hB3 hB11 hB210 G0 H_23 latest_4 z_32 start_38 1) (cwV 2 hts (jgV (jWr_30 _ (List.mem_of_getElem? (i := 9) rfl)) (jWr_30 _ (List.mem_of_getElem? (i := 10) rfl)) (jWr_30 _ (List.mem_of_getElem? (i := 11) rfl)) (jWr_2 _ (List.mem_of_getElem? (i := 21) rfl)) (jWr_30 _ (List.mem_of_getElem? (i := 12) rfl))) rfl rfl rfl (by decide +kernel) ⟨by rw [← hR]; exact Nat.le_of_ble_eq_true rfl, by rw [← hR]; exact Nat.le_of_ble_eq_true rfl⟩) ⟨fun a U g mk q => by obtain ⟨q0, q1, q2, qK, q10, q11, q12, q13, q14⟩ := q; exact ⟨q0, q1, q2, jG.calling g mk a qK, (va_K.moved (Vm.Alike.refl U.vm) q10), q11, q12, q13, q14⟩, hh_37.recv (C := RX1) (T := TX1) (N := 17) hB3 rfl (by decide) hg_latest_4 hK, fun U hU hW => ⟨rfl, hU, hh_37.2.1, hG.step hW hU hh_37.1, va_K.moved hW.alike hK2, hg_latest_4, hg_start_38, jP.nil, trivial⟩⟩ rfl rfl hl.1 rfl (lv_room (Nat.le_of_ble_eq_true rfl)) dX11_goals_59 ⟨by rw [hRc]; show _ + 0 ≤ _; omega, by rw [hRs]; show _ + 0 ≤ _; omega⟩) hh_37.1 (fun q _ h => h) (fun q h => h) (fun r_40 u_39 t_39 H_39 locs_39 ht_39 hvm_39 hr_40 hb_39 hz_39 hk_39 hS_39 => ?_)
          rw [ht_39] at hb_39
          obtain ⟨hb_391, hb_392, hb_393, hb_394, hb_395⟩ := hb_39
          have hh_39 : jSt (dC, dI) B base G0 G0 EX11_goals s.heap 0 0 [(kernel_35, 7, 2, .ref start_38), (r0, 13, 5, .ref kernel_35), (r0, 13, 6, .ref printer_31), (sh, 2, 1, .int 0), (r0, 13, 18, .int shownOf_14), (latest_4, 3, 4, .int sentences_10), (r0, 13, 16, .ref latest_4), (r0, 13, 17, .ref sh), (sh, 2, 0, .ref pa)] [] [([(2, 0), (2, 1)], jOl (dC, dI) G0 2 [sh] s.heap), (jFy, jYb dC dI G0)] H_39 locs_39 := ((hh_37.call hb_391 hb_392 hb_393 hb_394 hS_39 rfl (L1 := [(kernel_35, 7, 2, .ref start_38), (r0, 13, 5, .ref kernel_35), (r0, 13, 6, .ref printer_31), (sh, 2, 1, .int 0), (r0, 13, 18, .int shownOf_14), (latest_4, 3, 4, .int sentences_10), (r0, 13, 16, .ref latest_4), (r0, 13, 17, .ref sh), (sh, 2, 0, .ref pa)]) [0, 1, 2, 3, 4, 5, 6, 7, 8] rfl rfl (M1 := []) [] rfl rfl (I1 := [([(2, 0), (2, 1)], jOl (dC, dI) G0 2 [sh] s.heap), (jFy, jYb dC dI G0)]) [0, 1] rfl rfl).more hb_395)
          clear hh_37 ht_39 hvm_39 hz_39 hk_39 hS_39 hb_391 hb_392 hb_393 hb_394 hb_395
          obtain ⟨ret_41, rfl, hg_ret_41⟩ := hr_40
          refine lv_aload_n hx hb dX11_goals_62 rfl (lv_at hl 0 rfl) ?_
          refine j7_read hx hb hown hK (C := RX11) (T := TX11) (N := 19) rfl hly_13_17 hlk_86 (hh_39.at 7 rfl) dX11_goals_63 ?_
          have hsz_42 := hh_39.2.2.2.2.2.1
          have htt_42 := hh_39.2.2.2.2.2.2.1
          refine W.room (fun hrc_42 hrs_42 => ?_)
          refine va_callv (A0 := jA base) (H0 := s.heap) (va_runV (As := [.ref ret_41, .ref sh]) (rest := []) ⟨hx, hb, hml, hown, hts⟩ (uX7_proof l dC dI ca base B hB hAp hB2 hB5 hB8 hB9 hB11 hB101 hB102 hB132 hB196 hB214 hB280 hB286 hB287 hB288 hB313 G0 H_39 printer_31 ret_41 sh 0 pa n_pa LC LS) (cwV 2 hts (jgV (jWr_32 _ (List.mem_of_getElem? (i := 21) rfl)) (jWr_32 _ (List.mem_of_getElem? (i := 22) rfl)) (jWr_32 _ (List.mem_of_getElem? (i := 23) rfl)) (jWr_2 _ (List.mem_of_getElem? (i := 8) rfl)) (jWr_33 _ (List.mem_of_getElem? (i := 0) rfl))) rfl rfl rfl (by decide +kernel) ⟨by rw [← hR]; exact Nat.le_of_ble_eq_true rfl, by rw [← hR]; exact Nat.le_of_ble_eq_true rfl⟩) ⟨fun a U g mk q => by obtain ⟨q0, q1, q2, qK, q10, q11, q12, q13, q14, q15, q16, q17⟩ := q; exact ⟨q0, q1, q2, jG.calling g mk a qK, (va_K.moved (Vm.Alike.refl U.vm) q10), (jK5.moved (Vm.Alike.refl U.vm) q11), q12, q13, q14, q15, q16, q17⟩, hh_39.recv (C := RX7) (T := TX7) (N := 5) hB9 rfl (by decide) hg_printer_31 hK, fun U hU hW => ⟨rfl, hU, hh_39.2.1, hG.step hW hU hh_39.1, va_K.moved hW.alike hK2, jK5.moved hW.alike hK5, hg_sh, hg_ret_41, hg_printer_31, hg_pa, (hh_39.2.2.1.sub (L1 := [(sh, 2, 1, .int 0), (sh, 2, 0, .ref pa)]) [3, 8] rfl), (by omega), (by omega), ⟨(by first | omega | rfl | assumption | fail), (by first | omega | rfl | assumption | fail), (by first | omega | rfl | assumption | fail), (by first | omega | rfl | assumption | fail), (by first | assumption | fail | omega)⟩⟩⟩ rfl rfl hl.1 rfl (lv_room (Nat.le_of_ble_eq_true rfl)) dX11_goals_66 ⟨by rw [hRc]; omega, by rw [hRs]; omega⟩) hh_39.1 (fun q _ h => h) (fun q h => h) (fun u_42 t_42 H_42 locs_42 ht_42 hvm_42 hr_43 hb_42 hz_42 hk_42 hS_42 => ?_)
          obtain ⟨qc_42, qa_42, m_qa_42, G_42⟩ := u_42
          rw [ht_42] at hb_42
          simp only at hb_42
          obtain ⟨⟨hb_421, hb_422, hb_423, hb_424, hb_425, hb_426⟩, hgq_42_0, hN_42, hbO_42⟩ := hb_42
          have hy_44 := hh_39.iv 1 rfl
          have hh_42 : jSt (dC, dI) B base G0 G_42 EX11_goals s.heap (0 + ((m_qa_42 - n_pa) / 16)) (0 + (2 * (m_qa_42 - n_pa))) [(sh, 2, 1, .int qc_42), (sh, 2, 0, .ref qa_42), (kernel_35, 7, 2, .ref start_38), (r0, 13, 5, .ref kernel_35), (r0, 13, 6, .ref printer_31), (r0, 13, 18, .int shownOf_14), (latest_4, 3, 4, .int sentences_10), (r0, 13, 16, .ref latest_4), (r0, 13, 17, .ref sh)] [] [] H_42 locs_42 := (hh_39.callG hb_421 hb_422 hb_423 hb_424 hb_425 hS_42 rfl (L1 := [(kernel_35, 7, 2, .ref start_38), (r0, 13, 5, .ref kernel_35), (r0, 13, 6, .ref printer_31), (r0, 13, 18, .int shownOf_14), (latest_4, 3, 4, .int sentences_10), (r0, 13, 16, .ref latest_4), (r0, 13, 17, .ref sh)]) [0, 1, 2, 4, 5, 6, 7] rfl rfl (M1 := []) [] rfl rfl (I1 := []) [] rfl rfl).more hb_426
          have hNn_42 : (jNk [0, 1, 2, 3, 4, 5, 6, 7, 8, 9, 10, 11, 12, 13, 14, 15, 16, 17, 175]) G0 G_42 := (jNk.rf).tr hN_42
          have hg_45 := hb_422 _ _ hg_r0
          have hg_46 := hb_422 _ _ hg_start_38
          have hg_47 := hb_422 _ _ hg_kernel_35
          have hg_48 := hb_422 _ _ hg_printer_31
          have hg_49 := hb_422 _ _ hg_latest_4
          have hg_50 := hb_422 _ _ hg_sh
          have hd_51 := jOl.trO (hh_39.iv 0 rfl) hh_39.2.2.2.2.1 hbO_42 (by simp)
          have hh_52 := hh_42.addI (jOl.ie (dC := dC) (dI := dI) (G0 := G0) (k := 2) (rs := [sh]) (H0 := s.heap) (F := [(2, 0), (2, 1)]) (C := RX0) (T := TX0) (N := 2) rfl (by decide) hh_42.2.2.2.2.1 (hd_51))
          clear hh_42
          have hyp_42 : qc_42.toInt ≤ (m_qa_42 : Nat) ∧ m_qa_42 ≤ 1048576 := by (try simp only at hr_43); omega
          have hy_53 := jYb.own hy_44 hbO_42 hb_422 hN_42 (by decide) (fun _ => ⟨_, _, _, hh_52.at 0 rfl, hh_52.at 1 rfl, hgq_42_0, hyp_42⟩)
          have hh_54 := hh_52.addI (jYb.ie hy_53)
          clear hh_52
          try simp only at hr_43
          obtain ⟨hr_43_0, hr_43_1, hr_43_2, hr_43_3, hr_43_4⟩ := hr_43
          have hh_55 := hh_54.wk (zc1 := (m_qa_42 - n_pa) / 16) (zs1 := 2 * (m_qa_42 - n_pa)) (by omega) (by omega)
          clear hh_54
          try clear hsz_42 htt_42 hrc_42 hrs_42
          try clear hb_424 hb_425
          refine lv_aload_n hx hb dX11_goals_69 rfl (lv_at hl 0 rfl) ?_
          refine lv_iload_n hx hb dX11_goals_70 rfl (lv_at hl 1 rfl) ?_
          refine j7_put hx hb hown hK hh_55 hB hAp hB13 (C := RX11) (T := TX11) (N := 19) rfl (by decide) hg_45 (i := 18) (by decide) hly_13_18 rfl hlk_89 rfl (ty := .int) (v := .int a1) (by decide +kernel) rfl rfl (⟨_, rfl⟩) rfl (L1 := [(sh, 2, 1, .int qc_42), (sh, 2, 0, .ref qa_42), (kernel_35, 7, 2, .ref start_38), (r0, 13, 5, .ref kernel_35), (r0, 13, 6, .ref printer_31), (latest_4, 3, 4, .int sentences_10), (r0, 13, 16, .ref latest_4), (r0, 13, 17, .ref sh)]) [0, 1, 2, 3, 4, 6, 7, 8] rfl rfl rfl dX11_goals_71 (fun H_56 locs_56 hh_56 => ?_)
          clear hh_55
          refine lv_iload_n hx hb dX11_goals_74 rfl (lv_at hl 2 rfl) ?_
          refine lv_if_lt (tgt := 89) hx hb dX11_goals_75 (by decide) (fun c_57 => ?_) (fun c_57 => ?_)
          · skip
            have c_57' : a2.toInt < 0 := jb_lt (rfl) ((by decide)) c_57
            refine lv_iconst (v := (-1)) hx hb dX11_goals_89 (by decide) ?_
            refine lv_goto (tgt := 106) hx hb dX11_goals_90 (by decide) ?_
            have hsz_58 := hh_56.2.2.2.2.2.1
            have htt_58 := hh_56.2.2.2.2.2.2.1
            refine W.room (fun hrc_58 hrs_58 => ?_)
            refine W.widen (k := LC - s.heap.size) (n := LS - jTot s.heap) (by omega) (by omega) ?_
            rw [hQ]
            exact W.iret (v := (-1)) hx hb hr (fun t ht hW => ⟨⟨(-1), (qc_42, qa_42, m_qa_42, G_42), rfl, by (try dsimp only); exact ⟨(by first | omega | rfl | assumption | fail), (by first | omega | rfl | assumption | fail), (by first | omega | rfl | assumption | fail), (by first | omega | rfl | assumption | fail), (by first | assumption | fail | omega)⟩, ⟨hh_56.ra (by first | omega | (simp only; omega)) (by first | omega | (simp only; omega)) (M1 := [(sh, 2, 1, .int qc_42), (sh, 2, 0, .ref qa_42)]) [1, 2] rfl ht, hgq_42_0, hNn_42, by rw [ht]; exact hh_56.iv 1 rfl, by rw [ht]; exact hh_56.2.2.2.2.2.2.2.2.sub (L1 := [(jFy, jYb dC dI G_42)]) [0] rfl⟩⟩, by rw [ht]; try exact hh_56.1.1, fun q h9 hq => by rw [ht]; try exact hh_56.1.2.1 q h9 hq⟩) hh_56.1.2.2 dX11_goals_106
          · skip
            have c_57' : a2.toInt ≥ 0 := jb_lt_n (rfl) ((by decide)) c_57
            refine lv_iload_n hx hb dX11_goals_78 rfl (lv_at hl 2 rfl) ?_
            refine lv_aload_n hx hb dX11_goals_79 rfl (lv_at hl 0 rfl) ?_
            refine j7_read hx hb hown hK (C := RX11) (T := TX11) (N := 19) rfl hly_13_17 hlk_86 (hh_56.at 8 rfl) dX11_goals_80 ?_
            refine j7_read hx hb hown hK (C := RX0) (T := TX0) (N := 2) rfl hly_2_1 hlk_92 (hh_56.at 1 rfl) dX11_goals_83 ?_
            refine lv_icmp_lt (tgt := 93) hx hb dX11_goals_86 (by decide) (fun c_59 => ?_) (fun c_59 => ?_)
            · skip
              have c_59' : a2.toInt < qc_42.toInt := jb_lt (rfl) (rfl) c_59
              refine lv_aload_n hx hb dX11_goals_93 rfl (lv_at hl 0 rfl) ?_
              refine j7_read hx hb hown hK (C := RX11) (T := TX11) (N := 19) rfl hly_13_17 hlk_86 (hh_56.at 8 rfl) dX11_goals_94 ?_
              refine j7_read hx hb hown hK (C := RX0) (T := TX0) (N := 2) rfl hly_2_0 hlk_98 (hh_56.at 2 rfl) dX11_goals_97 ?_
              refine lv_iload_n hx hb dX11_goals_100 rfl (lv_at hl 2 rfl) ?_
              refine j7_bald hx hb hK hh_56 hB196 0 rfl (by decide) hgq_42_0 (x := a2.toInt) (rfl) (by omega) dX11_goals_101 (fun z_60 (hz_60 : jBf (a2.toInt).toNat z_60) => ?_)
              refine lv_sipush (v := 255) hx hb dX11_goals_102 (by decide) ?_
              refine lv_iand hx hb dX11_goals_105 ?_
              refine lv_topi (fun z_61 ez_61 => ?_)
              have hz_61 : 0 ≤ z_61.toInt ∧ z_61.toInt ≤ 255 := by rw [ez_61]; exact jb_and z_60 (m := 255) (k := 8) (by decide) (by decide)
              have hsz_62 := hh_56.2.2.2.2.2.1
              have htt_62 := hh_56.2.2.2.2.2.2.1
              refine W.room (fun hrc_62 hrs_62 => ?_)
              refine W.widen (k := LC - s.heap.size) (n := LS - jTot s.heap) (by omega) (by omega) ?_
              rw [hQ]
              exact W.iret (v := z_61) hx hb hr (fun t ht hW => ⟨⟨z_61, (qc_42, qa_42, m_qa_42, G_42), rfl, by (try dsimp only); exact ⟨(by first | omega | rfl | assumption | fail), (by first | omega | rfl | assumption | fail), (by first | omega | rfl | assumption | fail), (by first | omega | rfl | assumption | fail), (by first | assumption | fail | omega)⟩, ⟨hh_56.ra (by first | omega | (simp only; omega)) (by first | omega | (simp only; omega)) (M1 := [(sh, 2, 1, .int qc_42), (sh, 2, 0, .ref qa_42)]) [1, 2] rfl ht, hgq_42_0, hNn_42, by rw [ht]; exact hh_56.iv 1 rfl, by rw [ht]; exact hh_56.2.2.2.2.2.2.2.2.sub (L1 := [(jFy, jYb dC dI G_42)]) [0] rfl⟩⟩, by rw [ht]; try exact hh_56.1.1, fun q h9 hq => by rw [ht]; try exact hh_56.1.2.1 q h9 hq⟩) hh_56.1.2.2 dX11_goals_106
            · skip
              have c_59' : a2.toInt ≥ qc_42.toInt := jb_lt_n (rfl) (rfl) c_59
              refine lv_iconst (v := (-1)) hx hb dX11_goals_89 (by decide) ?_
              refine lv_goto (tgt := 106) hx hb dX11_goals_90 (by decide) ?_
              have hsz_63 := hh_56.2.2.2.2.2.1
              have htt_63 := hh_56.2.2.2.2.2.2.1
              refine W.room (fun hrc_63 hrs_63 => ?_)
              refine W.widen (k := LC - s.heap.size) (n := LS - jTot s.heap) (by omega) (by omega) ?_
              rw [hQ]
              exact W.iret (v := (-1)) hx hb hr (fun t ht hW => ⟨⟨(-1), (qc_42, qa_42, m_qa_42, G_42), rfl, by (try dsimp only); exact ⟨(by first | omega | rfl | assumption | fail), (by first | omega | rfl | assumption | fail), (by first | omega | rfl | assumption | fail), (by first | omega | rfl | assumption | fail), (by first | assumption | fail | omega)⟩, ⟨hh_56.ra (by first | omega | (simp only; omega)) (by first | omega | (simp only; omega)) (M1 := [(sh, 2, 1, .int qc_42), (sh, 2, 0, .ref qa_42)]) [1, 2] rfl ht, hgq_42_0, hNn_42, by rw [ht]; exact hh_56.iv 1 rfl, by rw [ht]; exact hh_56.2.2.2.2.2.2.2.2.sub (L1 := [(jFy, jYb dC dI G_42)]) [0] rfl⟩⟩, by rw [ht]; try exact hh_56.1.1, fun q h9 hq => by rw [ht]; try exact hh_56.1.2.1 q h9 hq⟩) hh_56.1.2.2 dX11_goals_106
      · skip
        have c_11' : a1.toInt ≥ sentences_10.toInt := jb_lt_n (rfl) (rfl) c_11
        refine lv_iconst (v := (-1)) hx hb dX11_goals_23 (by decide) ?_
        have hsz_64 := hh_9.2.2.2.2.2.1
        have htt_64 := hh_9.2.2.2.2.2.2.1
        refine W.room (fun hrc_64 hrs_64 => ?_)
        refine W.widen (k := LC - s.heap.size) (n := LS - jTot s.heap) (by omega) (by omega) ?_
        rw [hQ]
        exact W.iret (v := (-1)) hx hb hr (fun t ht hW => ⟨⟨(-1), (pc, pa, n_pa, G0), rfl, by (try dsimp only); exact ⟨(by first | omega | rfl | assumption | fail), (by first | omega | rfl | assumption | fail), (by first | omega | rfl | assumption | fail), (by first | omega | rfl | assumption | fail), (by first | assumption | fail | omega)⟩, ⟨hh_9.ra (by first | omega | (simp only; omega)) (by first | omega | (simp only; omega)) (M1 := [(sh, 2, 1, .int pc), (sh, 2, 0, .ref pa)]) [3, 4] rfl ht, hg_pa, jNk.rf, by rw [ht]; exact hh_9.iv 0 rfl, by rw [ht]; exact hh_9.2.2.2.2.2.2.2.2.sub (L1 := [(jFy, jYb dC dI G0)]) [1] rfl⟩⟩, by rw [ht]; try exact hh_9.1.1, fun q h9 hq => by rw [ht]; try exact hh_9.1.2.1 q h9 hq⟩) hh_9.1.2.2 dX11_goals_24
end
section
-- p9: what both sides hold between two calls
section
variable {a0 a1 a2 a3 a4 a5 a6 a7 a8 z bk m h l b cn cv zr : Int} {fb fn fv fk : Nat → Int32} {t t1 : jDtl} {w w1 : jWl9} {S : Int × (Int → jdD)}
theorem jlI.gv {s1 s2 : jdSt} (h1 : jfQ s1.1 a0 a1 a2 a3 a4 a5 a6 a7 a8) (h2 : jfBd s1.2.1 fb 3000) (h3 : s1.2.2.1 = z) (h4 : s1.2.2.2 = jdCs t w) (h5 : jrQ s2 bk m h l b fn cn fv cv fk zr S) (he : s2 = s1) : jlI a0 a1 a2 a3 a4 a5 a6 a7 a8 fb z t w bk m h l b fn cn fv cv fk zr S := by
  subst he
  exact ⟨s2, h1, h2, h3, h4, h5⟩
end
theorem jlFd {f g : Nat → Int32} {s : jdSt} {a p a1 p1 : Int} (hT : jTe f g p) (ha : a1 = a) (hp : p1 = p) : jdFd (jB8 g) s (jdN a1 p1) = jdFd (jB8 f) s (jdN a p) := by
  subst ha hp
  refine jdFd.cg _ (fun j hj => ?_)
  have h1 : (j : Int) < p1 := by
    unfold jdN at hj
    split at hj <;> omega
  exact (hT j (by omega) h1).symm
end
