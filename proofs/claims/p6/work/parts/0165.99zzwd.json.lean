section
def EX11_isDigitJ : List (Nat × Nat) := []
def EX0_decodedJ : List (Nat × Nat) := []
def EX4_peekJ : List (Nat × Nat) := []
def EX4_skipBlanksJ : List (Nat × Nat) := [(6, 11)]
def EX4_digitsJ : List (Nat × Nat) := [(6, 11)]
def EX4_isWordJ : List (Nat × Nat) := [(6, 11)]
def EX4_isColonJ : List (Nat × Nat) := [(6, 11)]
def EX4_fourDigitsJ : List (Nat × Nat) := [(6, 11)]
def EX4_addUnitJ : List (Nat × Nat) := [(6, 8), (146, 0)]
def EX4_addCharJ : List (Nat × Nat) := [(6, 8), (146, 0)]
def EX4_isEscapeJ : List (Nat × Nat) := [(6, 8), (6, 11), (146, 0)]
def EX4_isUnitEscapeJ : List (Nat × Nat) := [(6, 8), (6, 11), (146, 0)]
def EX4_isStringJ : List (Nat × Nat) := [(6, 8), (6, 11), (146, 0)]
set_option maxHeartbeats 4000000 in
set_option maxRecDepth 20000 in
theorem uX11_isDigitJ (l : Launch) (dC : Nat → ClassId) (dI : Nat → Nat → Nat) (ca : Nat → ClassId) (base : Nat) (B : jF) (hB : jBok B) (hAp : jAp (dC, dI)) (G0 : jT) (H0 : Heap) (a0 : Int32) : Met l yX11_isDigit (jw yX11_isDigit cX11_isDigit 1 (some .boolean)) ({ frames := 0, cells := 0, slots := 0, locals := 0 }) (va_Pc [.int a0] (fun U => U.heap = H0 ∧ jX B base G0 [] H0 ∧ jG dC dI ca base U ∧ jP (dC, dI) G0 H0 [] ∧ True)) (va_Qi (S := Unit) (fun r u => (r = 0 ∨ r = 1) ∧ ((r.toInt = 1 ∧ 48 ≤ a0.toInt ∧ a0.toInt ≤ 57) ∨ (r.toInt = 0 ∧ (a0.toInt < 48 ∨ 57 < a0.toInt)))) (fun u t => jRt (dC, dI) B base G0 EX11_isDigitJ H0 [] t.heap) (jA base)) 0 0 (jA base) := by
  refine Met.ofW (cc := cX11_isDigit) (maxL := 1) (ret := (some .boolean)) (by decide) rfl ?_
  intro p e s m args below meth c s₁ Bd hml hv
  obtain ⟨rfl, hH0, hX, hG, hP0, hp0⟩ := hv
  have hK := hG.1
  have hx := Bd.exec
  have hb := Bd.bytes
  have hr := Bd.returns
  have hts := atoms_spec (ws := (jw yX11_isDigit cX11_isDigit 1 (some .boolean))) Bd.pre
  have htw : ∀ w ∈ jWl, w.before _ s = true := fun w h => hts w (List.mem_cons_of_mem _ h)
  have hown : s.vm.findClass RX11 = some m.cls := findClass_of_methodNamed Bd.named
  have hlocks := Bd.notSynchronized
  obtain ⟨Q, hQ⟩ : ∃ Q, Q = MQ below (va_Qi (S := Unit) (fun r u => (r = 0 ∨ r = 1) ∧ ((r.toInt = 1 ∧ 48 ≤ a0.toInt ∧ a0.toInt ≤ 57) ∨ (r.toInt = 0 ∧ (a0.toInt < 48 ∨ 57 < a0.toInt)))) (fun u t => jRt (dC, dI) B base G0 EX11_isDigitJ H0 [] t.heap) (jA base)) ([.int a0] : List Value).toArray s 0 0 (jA base) := ⟨_, rfl⟩
  rw [← hQ]
  have hl := lv_entry ([.int a0]) (n := 1) (Nat.le_of_ble_eq_true rfl)
  rw [lg_entry_eq]
  generalize (lg_sl ([.int a0]) ++ List.replicate (1 - (lg_sl ([.int a0])).length) Slot.unset).toArray = ls at hl ⊢
  have hl : lv_has ls 1 [(0, .int a0)] := hl
  generalize hR : (headSpec (jw yX11_isDigit cX11_isDigit 1 (some .boolean)) ({ frames := 0, cells := 0, slots := 0, locals := 0 })).room = R
  subst hH0
  have hh : jSt (dC, dI) B base G0 G0 EX11_isDigitJ s.heap 0 0 [] [] [] s.heap [] := jSt.start hX hP0 jMc.nil jIs.nil
  clear hX hP0
  have hk0 : (0 : Int32).toInt = 0 := by decide
  have hk1 : (1 : Int32).toInt = 1 := by decide
  have hk48 : (48 : Int32).toInt = 48 := by decide
  have hk57 : (57 : Int32).toInt = 57 := by decide
  have hrg_a0 := jb_rng a0
  refine lv_iload_n hx hb dX11_isDigit_0 rfl (lv_at hl 0 rfl) ?_
  refine lv_bipush (v := 48) hx hb dX11_isDigit_1 (by decide) ?_
  refine lv_icmp_lt (tgt := 16) hx hb dX11_isDigit_3 (by decide) (fun c_1 => ?_) (fun c_1 => ?_)
  · skip
    have c_1' : a0.toInt < 48 := jb_lt (rfl) ((by decide)) c_1
    refine lv_iconst (v := 0) hx hb dX11_isDigit_16 (by decide) ?_
    rw [hQ]
    exact W.zret (v := 0) hx hb hr (jb_nz (Or.inl rfl)) (fun t ht hW => ⟨⟨0, (), rfl, ⟨(Or.inl rfl), by first | omega | rfl | assumption | decide | exact Or.inl rfl | exact Or.inr rfl | (simp only; omega)⟩, hh.rt (M1 := []) [] rfl ht⟩, by rw [ht]; try exact hh.1.1, fun q h9 hq => by rw [ht]; try exact hh.1.2.1 q h9 hq⟩) hh.1.2.2 dX11_isDigit_17
  · skip
    have c_1' : a0.toInt ≥ 48 := jb_lt_n (rfl) ((by decide)) c_1
    refine lv_iload_n hx hb dX11_isDigit_6 rfl (lv_at hl 0 rfl) ?_
    refine lv_bipush (v := 57) hx hb dX11_isDigit_7 (by decide) ?_
    refine lv_icmp_gt (tgt := 16) hx hb dX11_isDigit_9 (by decide) (fun c_2 => ?_) (fun c_2 => ?_)
    · skip
      have c_2' : a0.toInt > 57 := jb_gt (rfl) ((by decide)) c_2
      refine lv_iconst (v := 0) hx hb dX11_isDigit_16 (by decide) ?_
      rw [hQ]
      exact W.zret (v := 0) hx hb hr (jb_nz (Or.inl rfl)) (fun t ht hW => ⟨⟨0, (), rfl, ⟨(Or.inl rfl), by first | omega | rfl | assumption | decide | exact Or.inl rfl | exact Or.inr rfl | (simp only; omega)⟩, hh.rt (M1 := []) [] rfl ht⟩, by rw [ht]; try exact hh.1.1, fun q h9 hq => by rw [ht]; try exact hh.1.2.1 q h9 hq⟩) hh.1.2.2 dX11_isDigit_17
    · skip
      have c_2' : a0.toInt ≤ 57 := jb_gt_n (rfl) ((by decide)) c_2
      refine lv_iconst (v := 1) hx hb dX11_isDigit_12 (by decide) ?_
      refine lv_goto (tgt := 17) hx hb dX11_isDigit_13 (by decide) ?_
      rw [hQ]
      exact W.zret (v := 1) hx hb hr (jb_nz (Or.inr rfl)) (fun t ht hW => ⟨⟨1, (), rfl, ⟨(Or.inr rfl), by first | omega | rfl | assumption | decide | exact Or.inl rfl | exact Or.inr rfl | (simp only; omega)⟩, hh.rt (M1 := []) [] rfl ht⟩, by rw [ht]; try exact hh.1.1, fun q h9 hq => by rw [ht]; try exact hh.1.2.1 q h9 hq⟩) hh.1.2.2 dX11_isDigit_17
set_option maxHeartbeats 4000000 in
set_option maxRecDepth 20000 in
theorem uX0_decodedJ (l : Launch) (dC : Nat → ClassId) (dI : Nat → Nat → Nat) (ca : Nat → ClassId) (base : Nat) (B : jF) (hB : jBok B) (hAp : jAp (dC, dI)) (hB100 : ∀ n G a H, B 100 n G a H ↔ jAr (dC, dI) (ca 0) (fun j z => True) n a H) (G0 : jT) (H0 : Heap) (r0 : Nat) (a1 : Int32) (a2 : Int32) (n0 : Nat) (fb : Nat → Int32) : Met l yX0_decoded (jw yX0_decoded cX0_decoded 8 (some .int)) ({ frames := 0, cells := 0, slots := 0, locals := 0 }) (va_Pc [.ref r0, .int a1, .int a2] (fun U => U.heap = H0 ∧ jX B base G0 [] H0 ∧ jG dC dI ca base U ∧ G0 r0 = some (100, n0) ∧ jP (dC, dI) G0 H0 [] ∧ jMc (dC, dI) G0 H0 [(r0, 100, n0, ca 0, fb)] ∧ 0 ≤ a1.toInt ∧ a1.toInt < a2.toInt ∧ a2.toInt ≤ n0 ∧ n0 ≤ 4000)) (va_Qi (S := Unit) (fun r u => (r.toInt = jUc (jB8 fb) a1.toInt a2.toInt ∧ -1 ≤ r.toInt ∧ r.toInt ≤ 1114111)) (fun u t => jRt (dC, dI) B base G0 EX0_decodedJ H0 [] t.heap) (jA base)) 0 0 (jA base) := by
  refine Met.ofW (cc := cX0_decoded) (maxL := 8) (ret := (some .int)) (by decide) rfl ?_
  intro p e s m args below meth c s₁ Bd hml hv
  obtain ⟨rfl, hH0, hX, hG, hg_r0, hP0, hM0, hp0, hp1, hp2, hp3⟩ := hv
  have hK := hG.1
  have hx := Bd.exec
  have hb := Bd.bytes
  have hr := Bd.returns
  have hts := atoms_spec (ws := (jw yX0_decoded cX0_decoded 8 (some .int))) Bd.pre
  have htw : ∀ w ∈ jWl, w.before _ s = true := fun w h => hts w (List.mem_cons_of_mem _ h)
  have hown : s.vm.findClass RX0 = some m.cls := findClass_of_methodNamed Bd.named
  have hlocks := Bd.notSynchronized
  obtain ⟨Q, hQ⟩ : ∃ Q, Q = MQ below (va_Qi (S := Unit) (fun r u => (r.toInt = jUc (jB8 fb) a1.toInt a2.toInt ∧ -1 ≤ r.toInt ∧ r.toInt ≤ 1114111)) (fun u t => jRt (dC, dI) B base G0 EX0_decodedJ H0 [] t.heap) (jA base)) ([.ref r0, .int a1, .int a2] : List Value).toArray s 0 0 (jA base) := ⟨_, rfl⟩
  rw [← hQ]
  have hl := lv_entry ([.ref r0, .int a1, .int a2]) (n := 8) (Nat.le_of_ble_eq_true rfl)
  rw [lg_entry_eq]
  generalize (lg_sl ([.ref r0, .int a1, .int a2]) ++ List.replicate (8 - (lg_sl ([.ref r0, .int a1, .int a2])).length) Slot.unset).toArray = ls at hl ⊢
  have hl : lv_has ls 8 [(0, .ref r0), (1, .int a1), (2, .int a2)] := hl
  generalize hR : (headSpec (jw yX0_decoded cX0_decoded 8 (some .int)) ({ frames := 0, cells := 0, slots := 0, locals := 0 })).room = R
  subst hH0
  have hh : jSt (dC, dI) B base G0 G0 EX0_decodedJ s.heap 0 0 [] [(r0, 100, n0, ca 0, fb)] [] s.heap [] := jSt.start hX hP0 hM0 jIs.nil
  clear hX hP0
  have hkm1 : ((-1) : Int32).toInt = (-1) := by decide
  have hk0 : (0 : Int32).toInt = 0 := by decide
  have hk1 : (1 : Int32).toInt = 1 := by decide
  have hk2 : (2 : Int32).toInt = 2 := by decide
  have hk3 : (3 : Int32).toInt = 3 := by decide
  have hk6 : (6 : Int32).toInt = 6 := by decide
  have hk63 : (63 : Int32).toInt = 63 := by decide
  have hk128 : (128 : Int32).toInt = 128 := by decide
  have hk192 : (192 : Int32).toInt = 192 := by decide
  have hk194 : (194 : Int32).toInt = 194 := by decide
  have hk224 : (224 : Int32).toInt = 224 := by decide
  have hk240 : (240 : Int32).toInt = 240 := by decide
  have hk244 : (244 : Int32).toInt = 244 := by decide
  have hk255 : (255 : Int32).toInt = 255 := by decide
  have hk2048 : (2048 : Int32).toInt = 2048 := by decide
  have hk55296 : (55296 : Int32).toInt = 55296 := by decide
  have hk57344 : (57344 : Int32).toInt = 57344 := by decide
  have hk65536 : (65536 : Int32).toInt = 65536 := by decide
  have hk1114111 : (1114111 : Int32).toInt = 1114111 := by decide
  have hcs_60 := htw (.constant RX0 60 65536) (jWr_20 _ (List.mem_of_getElem? (i := 15) rfl))
  have hcs_74 := htw (.constant RX0 74 1114111) (jWr_20 _ (List.mem_of_getElem? (i := 16) rfl))
  have hcs_61 := htw (.constant RX0 61 55296) (jWr_20 _ (List.mem_of_getElem? (i := 17) rfl))
  have hcs_73 := htw (.constant RX0 73 57344) (jWr_20 _ (List.mem_of_getElem? (i := 18) rfl))
  have hrg_a1 := jb_rng a1
  have hrg_a2 := jb_rng a2
  refine lv_iload_n hx hb dX0_decoded_0 rfl (lv_at hl 1 rfl) ?_
  refine lv_if_lt (tgt := 15) hx hb dX0_decoded_1 (by decide) (fun c_1 => ?_) (fun c_1 => ?_)
  · skip
    have c_1' : a1.toInt < 0 := jb_lt (rfl) ((by decide)) c_1
    exact absurd c_1' (by omega)
  · skip
    have c_1' : a1.toInt ≥ 0 := jb_lt_n (rfl) ((by decide)) c_1
    refine lv_iload_n hx hb dX0_decoded_4 rfl (lv_at hl 1 rfl) ?_
    refine lv_iload_n hx hb dX0_decoded_5 rfl (lv_at hl 2 rfl) ?_
    refine lv_icmp_ge (tgt := 15) hx hb dX0_decoded_6 (by decide) (fun c_2 => ?_) (fun c_2 => ?_)
    · skip
      have c_2' : a1.toInt ≥ a2.toInt := jb_ge (rfl) (rfl) c_2
      exact absurd c_2' (by omega)
    · skip
      have c_2' : a1.toInt < a2.toInt := jb_ge_n (rfl) (rfl) c_2
      refine lv_iload_n hx hb dX0_decoded_9 rfl (lv_at hl 2 rfl) ?_
      refine lv_aload_n hx hb dX0_decoded_10 rfl (lv_at hl 0 rfl) ?_
      refine j7_len hx hb hK hh hB100 0 rfl (by decide) hg_r0 (by omega) dX0_decoded_11 (fun z_3 hz_3 => ?_)
      refine lv_icmp_le (tgt := 17) hx hb dX0_decoded_12 (by decide) (fun c_4 => ?_) (fun c_4 => ?_)
      · skip
        have c_4' : a2.toInt ≤ z_3.toInt := jb_le (rfl) (rfl) c_4
        refine lv_aload_n hx hb dX0_decoded_17 rfl (lv_at hl 0 rfl) ?_
        refine lv_iload_n hx hb dX0_decoded_18 rfl (lv_at hl 1 rfl) ?_
        refine j7_baldM hx hb hK hh hB100 0 rfl (by decide) hg_r0 (x := a1.toInt) (rfl) (by omega) (j := 0) rfl dX0_decoded_19 (fun z_5 ez_5 (hz_5 : True) => ?_)
        have hqz_5 : z_5.toInt = jSo fb (a1.toInt) := by unfold jSo; rw [ez_5]
        refine lv_sipush (v := 255) hx hb dX0_decoded_20 (by decide) ?_
        refine lv_iand hx hb dX0_decoded_23 ?_
        refine lv_topi (fun z_6 ez_6 => ?_)
        have hz_6 : 0 ≤ z_6.toInt ∧ z_6.toInt ≤ 255 := by rw [ez_6]; exact jb_and z_5 (m := 255) (k := 8) (by decide) (by decide)
        have hb3 : z_6.toInt = jB8 fb a1.toInt := (jb_a255 ez_6).trans (by rw [hqz_5]; rfl)
        have hb3r := jB8.r fb a1.toInt
        refine lv_istore_n (lv' := [(3, .int z_6), (0, .ref r0), (1, .int a1), (2, .int a2)]) hx hb dX0_decoded_24 rfl hl (by decide) rfl (fun ls hl => ?_)
        refine lv_iload_n hx hb dX0_decoded_25 rfl (lv_at hl 0 rfl) ?_
        refine lv_sipush (v := 128) hx hb dX0_decoded_26 (by decide) ?_
        refine lv_icmp_ge (tgt := 34) hx hb dX0_decoded_29 (by decide) (fun c_7 => ?_) (fun c_7 => ?_)
        · skip
          have c_7' : z_6.toInt ≥ 128 := jb_ge (rfl) ((by decide)) c_7
          refine lv_iload_n hx hb dX0_decoded_34 rfl (lv_at hl 0 rfl) ?_
          refine lv_sipush (v := 240) hx hb dX0_decoded_35 (by decide) ?_
          have C57 : ∀ (w0_8 : Int32) (H_8 : Heap) (locs_8 : List Loc), jSt (dC, dI) B base G0 G0 EX0_decodedJ s.heap 0 0 [] [(r0, 100, n0, ca 0, fb)] [] H_8 locs_8 → (0 ≤ w0_8.toInt ∧ ((240 ≤ z_6.toInt ∧ w0_8.toInt = 3) ∨ (224 ≤ z_6.toInt ∧ z_6.toInt < 240 ∧ w0_8.toInt = 2) ∨ (z_6.toInt < 224 ∧ w0_8.toInt = 1))) → ∀ ls : Array Slot, lv_has ls 8 [(0, .ref r0), (1, .int a1), (2, .int a2), (3, .int z_6)] → W p l e R s m ([.ref r0, .int a1, .int a2] : List Value).toArray below meth c H_8 locs_8 0 0 Q (F0 m 57 ls [.int w0_8]) := by
            intro w0_8 H_8 locs_8 hh_8  hi_8 ls hl
            obtain ⟨hi_8_0, hi_8_1⟩ := hi_8
            refine lv_istore (lv' := [(4, .int w0_8), (0, .ref r0), (1, .int a1), (2, .int a2), (3, .int z_6)]) hx hb dX0_decoded_57 hl (by decide) rfl (fun ls hl => ?_)
            refine lv_iload_n hx hb dX0_decoded_59 rfl (lv_at hl 4 rfl) ?_
            refine lv_sipush (v := 194) hx hb dX0_decoded_60 (by decide) ?_
            refine lv_icmp_lt (tgt := 81) hx hb dX0_decoded_63 (by decide) (fun c_9 => ?_) (fun c_9 => ?_)
            · skip
              have c_9' : z_6.toInt < 194 := jb_lt (rfl) ((by decide)) c_9
              refine lv_iconst (v := (-1)) hx hb dX0_decoded_81 (by decide) ?_
              rw [hQ]
              exact W.iret (v := (-1)) hx hb hr (fun t ht hW => ⟨⟨(-1), (), rfl, by refine jUc.ret (jB8.r _ _).1 ?_; exact jUc_m hb3 (by omega) rfl (jUm.bad (i := a1.toInt) (n := a2.toInt) hi_8_1 (by omega)) rfl, hh_8.rt (M1 := []) [] rfl ht⟩, by rw [ht]; try exact hh_8.1.1, fun q h9 hq => by rw [ht]; try exact hh_8.1.2.1 q h9 hq⟩) hh_8.1.2.2 dX0_decoded_82
            · skip
              have c_9' : z_6.toInt ≥ 194 := jb_lt_n (rfl) ((by decide)) c_9
              refine lv_iload_n hx hb dX0_decoded_66 rfl (lv_at hl 4 rfl) ?_
              refine lv_sipush (v := 244) hx hb dX0_decoded_67 (by decide) ?_
              refine lv_icmp_gt (tgt := 81) hx hb dX0_decoded_70 (by decide) (fun c_10 => ?_) (fun c_10 => ?_)
              · skip
                have c_10' : z_6.toInt > 244 := jb_gt (rfl) ((by decide)) c_10
                refine lv_iconst (v := (-1)) hx hb dX0_decoded_81 (by decide) ?_
                rw [hQ]
                exact W.iret (v := (-1)) hx hb hr (fun t ht hW => ⟨⟨(-1), (), rfl, by refine jUc.ret (jB8.r _ _).1 ?_; exact jUc_m hb3 (by omega) rfl (jUm.bad (i := a1.toInt) (n := a2.toInt) hi_8_1 (by omega)) rfl, hh_8.rt (M1 := []) [] rfl ht⟩, by rw [ht]; try exact hh_8.1.1, fun q h9 hq => by rw [ht]; try exact hh_8.1.2.1 q h9 hq⟩) hh_8.1.2.2 dX0_decoded_82
              · skip
                have c_10' : z_6.toInt ≤ 244 := jb_gt_n (rfl) ((by decide)) c_10
                refine lv_iload hx hb dX0_decoded_73 (lv_at hl 0 rfl) ?_
                refine lv_iload_n hx hb dX0_decoded_75 rfl (lv_at hl 3 rfl) ?_
                refine lv_iload_n hx hb dX0_decoded_76 rfl (lv_at hl 2 rfl) ?_
                refine lv_isub hx hb dX0_decoded_77 ?_
                refine lv_topi (fun z_11 ez_11 => ?_)
                have hz_11 : z_11.toInt = a2.toInt - a1.toInt := by rw [ez_11]; exact jb_isub2 (rfl) (rfl) (by omega)
                refine lv_icmp_lt (tgt := 83) hx hb dX0_decoded_78 (by decide) (fun c_12 => ?_) (fun c_12 => ?_)
                · skip
                  have c_12' : w0_8.toInt < z_11.toInt := jb_lt (rfl) (rfl) c_12
                  have hm4 := jUm.of hi_8_1 (by omega) (by omega)
                  refine lv_iload_n hx hb dX0_decoded_83 rfl (lv_at hl 4 rfl) ?_
                  refine lv_bipush (v := 63) hx hb dX0_decoded_84 (by decide) ?_
                  refine lv_iload hx hb dX0_decoded_86 (lv_at hl 0 rfl) ?_
                  refine lv_ishr hx hb dX0_decoded_88 ?_
                  refine lv_topi (fun z_13 ez_13 => ?_)
                  refine lv_iand hx hb dX0_decoded_89 ?_
                  refine lv_topi (fun z_14 ez_14 => ?_)
                  have hu0 : z_14.toInt = jU0 z_6.toInt w0_8.toInt := jU0.of ez_13 ez_14 rfl (by omega)
                  refine lv_istore (lv' := [(5, .int z_14), (4, .int w0_8), (0, .ref r0), (1, .int a1), (2, .int a2), (3, .int z_6)]) hx hb dX0_decoded_90 hl (by decide) rfl (fun ls hl => ?_)
                  refine lv_iconst (v := 1) hx hb dX0_decoded_92 (by decide) ?_
                  refine lv_istore (lv' := [(6, .int 1), (5, .int z_14), (4, .int w0_8), (0, .ref r0), (1, .int a1), (2, .int a2), (3, .int z_6)]) hx hb dX0_decoded_93 hl (by decide) rfl (fun ls hl => ?_)
                  have L95 : ∀ (N : Nat) (v5_15 : Int32) (v6_15 : Int32) (H_15 : Heap) (locs_15 : List Loc), jSt (dC, dI) B base G0 G0 EX0_decodedJ s.heap 0 0 [] [(r0, 100, n0, ca 0, fb)] [] H_15 locs_15 → (1 ≤ v6_15.toInt ∧ v6_15.toInt ≤ w0_8.toInt + 1 ∧ jUb (w0_8.toInt + 1) v6_15.toInt v5_15.toInt ∧ jUr (jB8 fb) (w0_8.toInt + 1 - v6_15.toInt).toNat (a1.toInt + v6_15.toInt) v5_15.toInt = jUr (jB8 fb) (w0_8.toInt).toNat (a1.toInt + 1) (jU0 z_6.toInt w0_8.toInt)) → (w0_8.toInt + 1 - v6_15.toInt : Int) < N → ∀ ls : Array Slot, lv_has ls 8 [(0, .ref r0), (1, .int a1), (2, .int a2), (3, .int z_6), (4, .int w0_8), (5, .int v5_15), (6, .int v6_15)] → W p l e R s m ([.ref r0, .int a1, .int a2] : List Value).toArray below meth c H_15 locs_15 0 0 Q (F0 m 95 ls []) := by
                    intro N
                    induction N with
                    | zero => intro v5_15 v6_15 H_15 locs_15 hh_15  hi_15 hm; exact absurd hm (by omega)
                    | succ N L95 =>
                      intro v5_15 v6_15 H_15 locs_15 hh_15  hi_15 hm_15 ls hl
                      obtain ⟨hi_15_0, hi_15_1, hi_15_2, hi_15_3⟩ := hi_15
                      refine lv_iload hx hb dX0_decoded_95 (lv_at hl 6 rfl) ?_
                      refine lv_iload hx hb dX0_decoded_97 (lv_at hl 4 rfl) ?_
                      refine lv_icmp_gt (tgt := 147) hx hb dX0_decoded_99 (by decide) (fun c_16 => ?_) (fun c_16 => ?_)
                      · skip
                        have c_16' : v6_15.toInt > w0_8.toInt := jb_gt (rfl) (rfl) c_16
                        have hbe := hi_15_2.end (by omega)
                        refine lv_iload hx hb dX0_decoded_147 (lv_at hl 4 rfl) ?_
                        refine lv_iconst (v := 2) hx hb dX0_decoded_149 (by decide) ?_
                        have C179 : ∀ (w0_17 : Int32) (H_17 : Heap) (locs_17 : List Loc), jSt (dC, dI) B base G0 G0 EX0_decodedJ s.heap 0 0 [] [(r0, 100, n0, ca 0, fb)] [] H_17 locs_17 → (w0_17 = 0 ∨ w0_17 = 1) → ((w0_17.toInt = 1 ∧ (w0_8.toInt = 2 ∧ v5_15.toInt < 2048 ∨ w0_8.toInt = 3 ∧ v5_15.toInt < 65536)) ∨ (w0_17.toInt = 0 ∧ (w0_8.toInt ≠ 2 ∨ 2048 ≤ v5_15.toInt) ∧ (w0_8.toInt ≠ 3 ∨ 65536 ≤ v5_15.toInt))) → ∀ ls : Array Slot, lv_has ls 8 [(0, .ref r0), (1, .int a1), (2, .int a2), (3, .int z_6), (4, .int w0_8), (5, .int v5_15), (6, .int v6_15)] → W p l e R s m ([.ref r0, .int a1, .int a2] : List Value).toArray below meth c H_17 locs_17 0 0 Q (F0 m 179 ls [.int w0_17]) := by
                          intro w0_17 H_17 locs_17 hh_17 hb_w0_17 hi_17 ls hl
                          have hb_w0_17' := jb_01 hb_w0_17
                          refine lv_istore (lv' := [(6, .int w0_17), (0, .ref r0), (1, .int a1), (2, .int a2), (3, .int z_6), (4, .int w0_8), (5, .int v5_15)]) hx hb dX0_decoded_179 hl (by decide) rfl (fun ls hl => ?_)
                          refine lv_iload hx hb dX0_decoded_181 (lv_at hl 0 rfl) ?_
                          refine lv_if_ne (tgt := 207) hx hb dX0_decoded_183 (by decide) (fun c_18 => ?_) (fun c_18 => ?_)
                          · skip
                            have c_18' : w0_17.toInt ≠ 0 := jb_ne (rfl) ((by decide)) c_18
                            refine lv_iconst (v := (-1)) hx hb dX0_decoded_207 (by decide) ?_
                            refine lv_goto (tgt := 213) hx hb dX0_decoded_208 (by decide) ?_
                            rw [hQ]
                            exact W.iret (v := (-1)) hx hb hr (fun t ht hW => ⟨⟨(-1), (), rfl, by refine jUc.ret (jB8.r _ _).1 ?_; exact jUc_k hb3 (by omega) hm4 (by omega) (by omega) (hi_15_3.symm.trans (jUr_z (by omega))) (jUk_x (by omega) rfl), hh_17.rt (M1 := []) [] rfl ht⟩, by rw [ht]; try exact hh_17.1.1, fun q h9 hq => by rw [ht]; try exact hh_17.1.2.1 q h9 hq⟩) hh_17.1.2.2 dX0_decoded_213
                          · skip
                            have c_18' : w0_17.toInt = 0 := jb_ne_n (rfl) ((by decide)) c_18
                            refine lv_iload hx hb dX0_decoded_186 (lv_at hl 6 rfl) ?_
                            refine lv_ldc hx hb hown hcs_74 dX0_decoded_188 ?_
                            refine lv_icmp_gt (tgt := 207) hx hb dX0_decoded_190 (by decide) (fun c_19 => ?_) (fun c_19 => ?_)
                            · skip
                              have c_19' : v5_15.toInt > 1114111 := jb_gt (rfl) ((by decide)) c_19
                              refine lv_iconst (v := (-1)) hx hb dX0_decoded_207 (by decide) ?_
                              refine lv_goto (tgt := 213) hx hb dX0_decoded_208 (by decide) ?_
                              rw [hQ]
                              exact W.iret (v := (-1)) hx hb hr (fun t ht hW => ⟨⟨(-1), (), rfl, by refine jUc.ret (jB8.r _ _).1 ?_; exact jUc_k hb3 (by omega) hm4 (by omega) (by omega) (hi_15_3.symm.trans (jUr_z (by omega))) (jUk_x (by omega) rfl), hh_17.rt (M1 := []) [] rfl ht⟩, by rw [ht]; try exact hh_17.1.1, fun q h9 hq => by rw [ht]; try exact hh_17.1.2.1 q h9 hq⟩) hh_17.1.2.2 dX0_decoded_213
                            · skip
                              have c_19' : v5_15.toInt ≤ 1114111 := jb_gt_n (rfl) ((by decide)) c_19
                              refine lv_iload hx hb dX0_decoded_193 (lv_at hl 6 rfl) ?_
                              refine lv_ldc hx hb hown hcs_61 dX0_decoded_195 ?_
                              refine lv_icmp_lt (tgt := 211) hx hb dX0_decoded_197 (by decide) (fun c_20 => ?_) (fun c_20 => ?_)
                              · skip
                                have c_20' : v5_15.toInt < 55296 := jb_lt (rfl) ((by decide)) c_20
                                refine lv_iload hx hb dX0_decoded_211 (lv_at hl 6 rfl) ?_
                                rw [hQ]
                                exact W.iret (v := v5_15) hx hb hr (fun t ht hW => ⟨⟨v5_15, (), rfl, by refine jUc.ret (jB8.r _ _).1 ?_; exact jUc_k hb3 (by omega) hm4 (by omega) (by omega) (hi_15_3.symm.trans (jUr_z (by omega))) (jUk_v (by omega) (by omega) (by omega) (by omega) (by omega) rfl), hh_17.rt (M1 := []) [] rfl ht⟩, by rw [ht]; try exact hh_17.1.1, fun q h9 hq => by rw [ht]; try exact hh_17.1.2.1 q h9 hq⟩) hh_17.1.2.2 dX0_decoded_213
                              · skip
                                have c_20' : v5_15.toInt ≥ 55296 := jb_lt_n (rfl) ((by decide)) c_20
                                refine lv_iload hx hb dX0_decoded_200 (lv_at hl 6 rfl) ?_
                                refine lv_ldc hx hb hown hcs_73 dX0_decoded_202 ?_
                                refine lv_icmp_ge (tgt := 211) hx hb dX0_decoded_204 (by decide) (fun c_21 => ?_) (fun c_21 => ?_)
                                · skip
                                  have c_21' : v5_15.toInt ≥ 57344 := jb_ge (rfl) ((by decide)) c_21
                                  refine lv_iload hx hb dX0_decoded_211 (lv_at hl 6 rfl) ?_
                                  rw [hQ]
                                  exact W.iret (v := v5_15) hx hb hr (fun t ht hW => ⟨⟨v5_15, (), rfl, by refine jUc.ret (jB8.r _ _).1 ?_; exact jUc_k hb3 (by omega) hm4 (by omega) (by omega) (hi_15_3.symm.trans (jUr_z (by omega))) (jUk_v (by omega) (by omega) (by omega) (by omega) (by omega) rfl), hh_17.rt (M1 := []) [] rfl ht⟩, by rw [ht]; try exact hh_17.1.1, fun q h9 hq => by rw [ht]; try exact hh_17.1.2.1 q h9 hq⟩) hh_17.1.2.2 dX0_decoded_213
                                · skip
                                  have c_21' : v5_15.toInt < 57344 := jb_ge_n (rfl) ((by decide)) c_21
                                  refine lv_iconst (v := (-1)) hx hb dX0_decoded_207 (by decide) ?_
                                  refine lv_goto (tgt := 213) hx hb dX0_decoded_208 (by decide) ?_
                                  rw [hQ]
                                  exact W.iret (v := (-1)) hx hb hr (fun t ht hW => ⟨⟨(-1), (), rfl, by refine jUc.ret (jB8.r _ _).1 ?_; exact jUc_k hb3 (by omega) hm4 (by omega) (by omega) (hi_15_3.symm.trans (jUr_z (by omega))) (jUk_x (by omega) rfl), hh_17.rt (M1 := []) [] rfl ht⟩, by rw [ht]; try exact hh_17.1.1, fun q h9 hq => by rw [ht]; try exact hh_17.1.2.1 q h9 hq⟩) hh_17.1.2.2 dX0_decoded_213
                        refine lv_icmp_ne (tgt := 161) hx hb dX0_decoded_150 (by decide) (fun c_22 => ?_) (fun c_22 => ?_)
                        · skip
                          have c_22' : w0_8.toInt ≠ 2 := jb_ne (rfl) ((by decide)) c_22
                          refine lv_iload hx hb dX0_decoded_161 (lv_at hl 4 rfl) ?_
                          refine lv_iconst (v := 3) hx hb dX0_decoded_163 (by decide) ?_
                          refine lv_icmp_ne (tgt := 178) hx hb dX0_decoded_164 (by decide) (fun c_23 => ?_) (fun c_23 => ?_)
                          · skip
                            have c_23' : w0_8.toInt ≠ 3 := jb_ne (rfl) ((by decide)) c_23
                            refine lv_iconst (v := 0) hx hb dX0_decoded_178 (by decide) ?_
                            exact C179 0 _ _ hh_15 (Or.inl rfl) (by first | omega | rfl | assumption | decide | exact Or.inl rfl | exact Or.inr rfl | (simp only; omega)) _ (lv_sub hl [0, 1, 2, 3, 4, 5, 6] rfl)
                          · skip
                            have c_23' : w0_8.toInt = 3 := jb_ne_n (rfl) ((by decide)) c_23
                            refine lv_iload hx hb dX0_decoded_167 (lv_at hl 5 rfl) ?_
                            refine lv_ldc hx hb hown hcs_60 dX0_decoded_169 ?_
                            refine lv_icmp_ge (tgt := 178) hx hb dX0_decoded_171 (by decide) (fun c_24 => ?_) (fun c_24 => ?_)
                            · skip
                              have c_24' : v5_15.toInt ≥ 65536 := jb_ge (rfl) ((by decide)) c_24
                              refine lv_iconst (v := 0) hx hb dX0_decoded_178 (by decide) ?_
                              exact C179 0 _ _ hh_15 (Or.inl rfl) (by first | omega | rfl | assumption | decide | exact Or.inl rfl | exact Or.inr rfl | (simp only; omega)) _ (lv_sub hl [0, 1, 2, 3, 4, 5, 6] rfl)
                            · skip
                              have c_24' : v5_15.toInt < 65536 := jb_ge_n (rfl) ((by decide)) c_24
                              refine lv_iconst (v := 1) hx hb dX0_decoded_174 (by decide) ?_
                              refine lv_goto (tgt := 179) hx hb dX0_decoded_175 (by decide) ?_
                              exact C179 1 _ _ hh_15 (Or.inr rfl) (by first | omega | rfl | assumption | decide | exact Or.inl rfl | exact Or.inr rfl | (simp only; omega)) _ (lv_sub hl [0, 1, 2, 3, 4, 5, 6] rfl)
                        · skip
                          have c_22' : w0_8.toInt = 2 := jb_ne_n (rfl) ((by decide)) c_22
                          refine lv_iload hx hb dX0_decoded_153 (lv_at hl 5 rfl) ?_
                          refine lv_sipush (v := 2048) hx hb dX0_decoded_155 (by decide) ?_
                          refine lv_icmp_lt (tgt := 174) hx hb dX0_decoded_158 (by decide) (fun c_25 => ?_) (fun c_25 => ?_)
                          · skip
                            have c_25' : v5_15.toInt < 2048 := jb_lt (rfl) ((by decide)) c_25
                            refine lv_iconst (v := 1) hx hb dX0_decoded_174 (by decide) ?_
                            refine lv_goto (tgt := 179) hx hb dX0_decoded_175 (by decide) ?_
                            exact C179 1 _ _ hh_15 (Or.inr rfl) (by first | omega | rfl | assumption | decide | exact Or.inl rfl | exact Or.inr rfl | (simp only; omega)) _ (lv_sub hl [0, 1, 2, 3, 4, 5, 6] rfl)
                          · skip
                            have c_25' : v5_15.toInt ≥ 2048 := jb_lt_n (rfl) ((by decide)) c_25
                            refine lv_iload hx hb dX0_decoded_161 (lv_at hl 4 rfl) ?_
                            refine lv_iconst (v := 3) hx hb dX0_decoded_163 (by decide) ?_
                            refine lv_icmp_ne (tgt := 178) hx hb dX0_decoded_164 (by decide) (fun c_26 => ?_) (fun c_26 => ?_)
                            · skip
                              have c_26' : w0_8.toInt ≠ 3 := jb_ne (rfl) ((by decide)) c_26
                              refine lv_iconst (v := 0) hx hb dX0_decoded_178 (by decide) ?_
                              exact C179 0 _ _ hh_15 (Or.inl rfl) (by first | omega | rfl | assumption | decide | exact Or.inl rfl | exact Or.inr rfl | (simp only; omega)) _ (lv_sub hl [0, 1, 2, 3, 4, 5, 6] rfl)
                            · skip
                              have c_26' : w0_8.toInt = 3 := jb_ne_n (rfl) ((by decide)) c_26
                              refine lv_iload hx hb dX0_decoded_167 (lv_at hl 5 rfl) ?_
                              refine lv_ldc hx hb hown hcs_60 dX0_decoded_169 ?_
                              refine lv_icmp_ge (tgt := 178) hx hb dX0_decoded_171 (by decide) (fun c_27 => ?_) (fun c_27 => ?_)
                              · skip
                                have c_27' : v5_15.toInt ≥ 65536 := jb_ge (rfl) ((by decide)) c_27
                                refine lv_iconst (v := 0) hx hb dX0_decoded_178 (by decide) ?_
                                exact C179 0 _ _ hh_15 (Or.inl rfl) (by first | omega | rfl | assumption | decide | exact Or.inl rfl | exact Or.inr rfl | (simp only; omega)) _ (lv_sub hl [0, 1, 2, 3, 4, 5, 6] rfl)
                              · skip
                                have c_27' : v5_15.toInt < 65536 := jb_ge_n (rfl) ((by decide)) c_27
                                refine lv_iconst (v := 1) hx hb dX0_decoded_174 (by decide) ?_
                                refine lv_goto (tgt := 179) hx hb dX0_decoded_175 (by decide) ?_
                                exact C179 1 _ _ hh_15 (Or.inr rfl) (by first | omega | rfl | assumption | decide | exact Or.inl rfl | exact Or.inr rfl | (simp only; omega)) _ (lv_sub hl [0, 1, 2, 3, 4, 5, 6] rfl)
                      · skip
                        have c_16' : v6_15.toInt ≤ w0_8.toInt := jb_gt_n (rfl) (rfl) c_16
                        refine lv_aload_n hx hb dX0_decoded_102 rfl (lv_at hl 0 rfl) ?_
                        refine lv_iload_n hx hb dX0_decoded_103 rfl (lv_at hl 1 rfl) ?_
                        refine lv_iload hx hb dX0_decoded_104 (lv_at hl 6 rfl) ?_
                        refine lv_iadd hx hb dX0_decoded_106 ?_
                        refine lv_topi (fun z_28 ez_28 => ?_)
                        have hz_28 : z_28.toInt = a1.toInt + v6_15.toInt := by rw [ez_28]; exact jb_iadd2 (rfl) (rfl) (by omega)
                        refine j7_baldM hx hb hK hh_15 hB100 0 rfl (by decide) hg_r0 (x := z_28.toInt) (rfl) (by omega) (j := 0) rfl dX0_decoded_107 (fun z_29 ez_29 (hz_29 : True) => ?_)
                        have hqz_29 : z_29.toInt = jSo fb ((a1.toInt + v6_15.toInt)) := by unfold jSo; rw [ez_29, show z_28.toInt = (a1.toInt + v6_15.toInt) by omega]
                        refine lv_sipush (v := 255) hx hb dX0_decoded_108 (by decide) ?_
                        refine lv_iand hx hb dX0_decoded_111 ?_
                        refine lv_topi (fun z_30 ez_30 => ?_)
                        have hz_30 : 0 ≤ z_30.toInt ∧ z_30.toInt ≤ 255 := by rw [ez_30]; exact jb_and z_29 (m := 255) (k := 8) (by decide) (by decide)
                        have hb7 : z_30.toInt = jB8 fb (a1.toInt + v6_15.toInt) := (jb_a255 ez_30).trans (by rw [hqz_29]; rfl)
                        have hb7r := jB8.r fb (a1.toInt + v6_15.toInt)
                        have hbr := hi_15_2.r (by omega)
                        refine lv_istore (lv' := [(7, .int z_30), (0, .ref r0), (1, .int a1), (2, .int a2), (3, .int z_6), (4, .int w0_8), (5, .int v5_15), (6, .int v6_15)]) hx hb dX0_decoded_112 hl (by decide) rfl (fun ls hl => ?_)
                        refine lv_iload hx hb dX0_decoded_114 (lv_at hl 0 rfl) ?_
                        refine lv_sipush (v := 192) hx hb dX0_decoded_116 (by decide) ?_
                        refine lv_iand hx hb dX0_decoded_119 ?_
                        refine lv_topi (fun z_31 ez_31 => ?_)
                        have hc7 := jb_a192 ez_31 (by omega) (by omega)
                        refine lv_sipush (v := 128) hx hb dX0_decoded_120 (by decide) ?_
                        refine lv_icmp_eq (tgt := 128) hx hb dX0_decoded_123 (by decide) (fun c_32 => ?_) (fun c_32 => ?_)
                        · skip
                          have c_32' : z_31.toInt = 128 := jb_eq (rfl) ((by decide)) c_32
                          refine lv_iload hx hb dX0_decoded_128 (lv_at hl 6 rfl) ?_
                          refine lv_bipush (v := 6) hx hb dX0_decoded_130 (by decide) ?_
                          refine lv_ishl hx hb dX0_decoded_132 ?_
                          refine lv_topi (fun z_33 ez_33 => ?_)
                          have hbz_33 := jb_shlc 6 64 ez_33 (by decide) (by decide) (by omega) (by omega)
                          refine lv_iload hx hb dX0_decoded_133 (lv_at hl 0 rfl) ?_
                          refine lv_bipush (v := 63) hx hb dX0_decoded_135 (by decide) ?_
                          refine lv_iand hx hb dX0_decoded_137 ?_
                          refine lv_topi (fun z_34 ez_34 => ?_)
                          have hz_34 : 0 ≤ z_34.toInt ∧ z_34.toInt ≤ 63 := by rw [ez_34]; exact jb_and z_30 (m := 63) (k := 6) (by decide) (by decide)
                          refine lv_ior hx hb dX0_decoded_138 ?_
                          refine lv_topi (fun z_35 ez_35 => ?_)
                          have hy7 := jb_a63 ez_34
                          have hz5 := jb_or64 ez_35 v5_15.toInt (by omega) (by omega) (by omega) (by omega) (by omega)
                          refine lv_istore (lv' := [(5, .int z_35), (7, .int z_30), (0, .ref r0), (1, .int a1), (2, .int a2), (3, .int z_6), (4, .int w0_8), (6, .int v6_15)]) hx hb dX0_decoded_139 hl (by decide) rfl (fun ls hl => ?_)
                          obtain ⟨z_36, ez_36⟩ : ∃ y : Int32, y = v6_15 + 1 := ⟨_, rfl⟩
                          refine lv_iinc (v := z_36) (lv' := [(6, .int z_36), (5, .int z_35), (7, .int z_30), (0, .ref r0), (1, .int a1), (2, .int a2), (3, .int z_6), (4, .int w0_8)]) hx hb dX0_decoded_141 hl (k := 7) rfl (by rw [ez_36]; rfl) (by decide) rfl (fun ls hl => ?_)
                          have hz_36 : z_36.toInt = v6_15.toInt + 1 := by rw [ez_36]; exact jb_iadd2 (rfl) (by decide) (by omega)
                          refine lv_goto (tgt := 95) hx hb dX0_decoded_144 (by decide) ?_
                          exact L95 z_35 z_36 _ _ hh_15 (by refine ⟨by omega, by omega, hi_15_2.step (y := z_34.toInt) (by omega) (by omega) (by omega) (by omega) (by omega), ?_⟩; exact ((jUr_e (by omega) (by omega) rfl).trans (jUr_n (by omega) hb7 (by omega) (by omega) rfl (by omega))).trans hi_15_3) (by omega) _ (lv_sub hl [3, 4, 5, 6, 7, 1, 0] rfl)
                        · skip
                          have c_32' : z_31.toInt ≠ 128 := jb_eq_n (rfl) ((by decide)) c_32
                          refine lv_iconst (v := (-1)) hx hb dX0_decoded_126 (by decide) ?_
                          rw [hQ]
                          exact W.iret (v := (-1)) hx hb hr (fun t ht hW => ⟨⟨(-1), (), rfl, by refine jUc.ret (jB8.r _ _).1 ?_; exact jUc_k hb3 (by omega) hm4 (by omega) (by omega) (hi_15_3.symm.trans (jUr_x (by omega) hb7 (by omega))) (jUk_x (Or.inl (by decide)) rfl), hh_15.rt (M1 := []) [] rfl ht⟩, by rw [ht]; try exact hh_15.1.1, fun q h9 hq => by rw [ht]; try exact hh_15.1.2.1 q h9 hq⟩) hh_15.1.2.2 dX0_decoded_127
                  exact L95 (w0_8.toInt + 1 - (1 : Int32).toInt : Int).toNat.succ z_14 1 _ _ hh_8 (by refine ⟨by omega, by omega, jUb.start hm4 (by omega) (by omega) rfl (by omega) (by omega) hu0, ?_⟩; exact jUr_e (by omega) (by omega) hu0) (by omega) _ (lv_sub hl [3, 4, 5, 6, 2, 1, 0] rfl)
                · skip
                  have c_12' : w0_8.toInt ≥ z_11.toInt := jb_lt_n (rfl) (rfl) c_12
                  refine lv_iconst (v := (-1)) hx hb dX0_decoded_81 (by decide) ?_
                  rw [hQ]
                  exact W.iret (v := (-1)) hx hb hr (fun t ht hW => ⟨⟨(-1), (), rfl, by refine jUc.ret (jB8.r _ _).1 ?_; exact jUc_m hb3 (by omega) rfl (jUm.bad (i := a1.toInt) (n := a2.toInt) hi_8_1 (by omega)) rfl, hh_8.rt (M1 := []) [] rfl ht⟩, by rw [ht]; try exact hh_8.1.1, fun q h9 hq => by rw [ht]; try exact hh_8.1.2.1 q h9 hq⟩) hh_8.1.2.2 dX0_decoded_82
          refine lv_icmp_lt (tgt := 45) hx hb dX0_decoded_38 (by decide) (fun c_37 => ?_) (fun c_37 => ?_)
          · skip
            have c_37' : z_6.toInt < 240 := jb_lt (rfl) ((by decide)) c_37
            refine lv_iload_n hx hb dX0_decoded_45 rfl (lv_at hl 0 rfl) ?_
            refine lv_sipush (v := 224) hx hb dX0_decoded_46 (by decide) ?_
            refine lv_icmp_lt (tgt := 56) hx hb dX0_decoded_49 (by decide) (fun c_38 => ?_) (fun c_38 => ?_)
            · skip
              have c_38' : z_6.toInt < 224 := jb_lt (rfl) ((by decide)) c_38
              refine lv_iconst (v := 1) hx hb dX0_decoded_56 (by decide) ?_
              exact C57 1 _ _ hh (by first | omega | (refine ⟨?_, ?_⟩ <;> (first | omega | rfl | assumption | decide | exact Or.inl rfl | exact Or.inr rfl | (simp only; omega)))) _ (lv_sub hl [1, 2, 3, 0] rfl)
            · skip
              have c_38' : z_6.toInt ≥ 224 := jb_lt_n (rfl) ((by decide)) c_38
              refine lv_iconst (v := 2) hx hb dX0_decoded_52 (by decide) ?_
              refine lv_goto (tgt := 57) hx hb dX0_decoded_53 (by decide) ?_
              exact C57 2 _ _ hh (by first | omega | (refine ⟨?_, ?_⟩ <;> (first | omega | rfl | assumption | decide | exact Or.inl rfl | exact Or.inr rfl | (simp only; omega)))) _ (lv_sub hl [1, 2, 3, 0] rfl)
          · skip
            have c_37' : z_6.toInt ≥ 240 := jb_lt_n (rfl) ((by decide)) c_37
            refine lv_iconst (v := 3) hx hb dX0_decoded_41 (by decide) ?_
            refine lv_goto (tgt := 57) hx hb dX0_decoded_42 (by decide) ?_
            exact C57 3 _ _ hh (by first | omega | (refine ⟨?_, ?_⟩ <;> (first | omega | rfl | assumption | decide | exact Or.inl rfl | exact Or.inr rfl | (simp only; omega)))) _ (lv_sub hl [1, 2, 3, 0] rfl)
        · skip
          have c_7' : z_6.toInt < 128 := jb_ge_n (rfl) ((by decide)) c_7
          refine lv_iload_n hx hb dX0_decoded_32 rfl (lv_at hl 0 rfl) ?_
          rw [hQ]
          exact W.iret (v := z_6) hx hb hr (fun t ht hW => ⟨⟨z_6, (), rfl, by refine jUc.ret (jB8.r _ _).1 ?_; exact jUc_a hb3 (by omega), hh.rt (M1 := []) [] rfl ht⟩, by rw [ht]; try exact hh.1.1, fun q h9 hq => by rw [ht]; try exact hh.1.2.1 q h9 hq⟩) hh.1.2.2 dX0_decoded_33
      · skip
        have c_4' : a2.toInt > z_3.toInt := jb_le_n (rfl) (rfl) c_4
        exact absurd c_4' (by omega)
set_option maxHeartbeats 4000000 in
set_option maxRecDepth 20000 in
theorem uX4_peekJ (l : Launch) (dC : Nat → ClassId) (dI : Nat → Nat → Nat) (ca : Nat → ClassId) (base : Nat) (B : jF) (hB : jBok B) (hAp : jAp (dC, dI)) (hB6 : ∀ n G a H, B 6 n G a H ↔ jOb (dC, dI) 6 12 (F6 n G) a H) (hB100 : ∀ n G a H, B 100 n G a H ↔ jAr (dC, dI) (ca 0) (fun j z => True) n a H) (G0 : jT) (H0 : Heap) (r0 : Nat) (rb : Nat) (n_rb : Nat) (pe : Int32) (pt : Int32) (fb : Nat → Int32) : Met l yX4_peek (jw yX4_peek cX4_peek 1 (some .int)) ({ frames := 0, cells := 0, slots := 0, locals := 0 }) (va_Pc [.ref r0] (fun U => U.heap = H0 ∧ jX B base G0 [] H0 ∧ jG dC dI ca base U ∧ G0 r0 = some (6, 0) ∧ G0 rb = some (100, n_rb) ∧ jP (dC, dI) G0 H0 [(r0, 6, 9, .ref rb), (r0, 6, 10, .int pe), (r0, 6, 11, .int pt)] ∧ jMc (dC, dI) G0 H0 [(rb, 100, n_rb, ca 0, fb)] ∧ 0 ≤ pe.toInt ∧ pe.toInt ≤ n_rb ∧ n_rb ≤ 3000 ∧ 0 ≤ pt.toInt ∧ pt.toInt ≤ 19000)) (va_Qi (S := Unit) (fun r u => (r.toInt = jjK (jB8 fb) pe.toInt pt.toInt ∧ -1 ≤ r.toInt ∧ r.toInt ≤ 255)) (fun u t => jRt (dC, dI) B base G0 EX4_peekJ H0 [] t.heap) (jA base)) 0 0 (jA base) := by
  refine Met.ofW (cc := cX4_peek) (maxL := 1) (ret := (some .int)) (by decide) rfl ?_
  intro p e s m args below meth c s₁ Bd hml hv
  obtain ⟨rfl, hH0, hX, hG, hg_r0, hg_rb, hP0, hM0, hp0, hp1, hp2, hp3, hp4⟩ := hv
  have hK := hG.1
  have hx := Bd.exec
  have hb := Bd.bytes
  have hr := Bd.returns
  have hts := atoms_spec (ws := (jw yX4_peek cX4_peek 1 (some .int))) Bd.pre
  have htw : ∀ w ∈ jWl, w.before _ s = true := fun w h => hts w (List.mem_cons_of_mem _ h)
  have hown : s.vm.findClass RX4 = some m.cls := findClass_of_methodNamed Bd.named
  have hlocks := Bd.notSynchronized
  obtain ⟨Q, hQ⟩ : ∃ Q, Q = MQ below (va_Qi (S := Unit) (fun r u => (r.toInt = jjK (jB8 fb) pe.toInt pt.toInt ∧ -1 ≤ r.toInt ∧ r.toInt ≤ 255)) (fun u t => jRt (dC, dI) B base G0 EX4_peekJ H0 [] t.heap) (jA base)) ([.ref r0] : List Value).toArray s 0 0 (jA base) := ⟨_, rfl⟩
  rw [← hQ]
  have hl := lv_entry ([.ref r0]) (n := 1) (Nat.le_of_ble_eq_true rfl)
  rw [lg_entry_eq]
  generalize (lg_sl ([.ref r0]) ++ List.replicate (1 - (lg_sl ([.ref r0])).length) Slot.unset).toArray = ls at hl ⊢
  have hl : lv_has ls 1 [(0, .ref r0)] := hl
  generalize hR : (headSpec (jw yX4_peek cX4_peek 1 (some .int)) ({ frames := 0, cells := 0, slots := 0, locals := 0 })).room = R
  subst hH0
  have hh : jSt (dC, dI) B base G0 G0 EX4_peekJ s.heap 0 0 [(r0, 6, 9, .ref rb), (r0, 6, 10, .int pe), (r0, 6, 11, .int pt)] [(rb, 100, n_rb, ca 0, fb)] [] s.heap [] := jSt.start hX hP0 hM0 jIs.nil
  clear hX hP0
  have hkm1 : ((-1) : Int32).toInt = (-1) := by decide
  have hk0 : (0 : Int32).toInt = 0 := by decide
  have hk1 : (1 : Int32).toInt = 1 := by decide
  have hk255 : (255 : Int32).toInt = 255 := by decide
  have hly_6_9 := htw (u_lay RX4 TX4 9) (jWc_wsX40 _ (u_in_lay (by decide)))
  have hly_6_10 := htw (u_lay RX4 TX4 10) (jWc_wsX40 _ (u_in_lay (by decide)))
  have hly_6_11 := htw (u_lay RX4 TX4 11) (jWc_wsX40 _ (u_in_lay (by decide)))
  have hlk_47 := (htw (.fieldLink RX4 47 "ProofServer$Json" "at" "I") (jWr_19 _ (List.mem_of_getElem? (i := 12) rfl)))
  have hlk_43 := (htw (.fieldLink RX4 43 "ProofServer$Json" "end" "I") (jWr_19 _ (List.mem_of_getElem? (i := 11) rfl)))
  have hlk_33 := (htw (.fieldLink RX4 33 "ProofServer$Json" "bytes" "[B") (jWr_4 _ (List.mem_of_getElem? (i := 4) rfl)))
  refine lv_aload_n hx hb dX4_peek_0 rfl (lv_at hl 0 rfl) ?_
  refine j7_read hx hb hown hK (C := RX4) (T := TX4) (N := 12) rfl hly_6_11 hlk_47 (hh.at 2 rfl) dX4_peek_1 ?_
  refine lv_if_lt (tgt := 34) hx hb dX4_peek_4 (by decide) (fun c_1 => ?_) (fun c_1 => ?_)
  · skip
    have c_1' : pt.toInt < 0 := jb_lt (rfl) ((by decide)) c_1
    refine lv_iconst (v := (-1)) hx hb dX4_peek_34 (by decide) ?_
    rw [hQ]
    exact W.iret (v := (-1)) hx hb hr (fun t ht hW => ⟨⟨(-1), (), rfl, by refine ⟨?_, by omega, by omega⟩; rw [jjK.n (by omega)]; exact hkm1, hh.rt (M1 := []) [] rfl ht⟩, by rw [ht]; try exact hh.1.1, fun q h9 hq => by rw [ht]; try exact hh.1.2.1 q h9 hq⟩) hh.1.2.2 dX4_peek_35
  · skip
    have c_1' : pt.toInt ≥ 0 := jb_lt_n (rfl) ((by decide)) c_1
    refine lv_aload_n hx hb dX4_peek_7 rfl (lv_at hl 0 rfl) ?_
    refine j7_read hx hb hown hK (C := RX4) (T := TX4) (N := 12) rfl hly_6_11 hlk_47 (hh.at 2 rfl) dX4_peek_8 ?_
    refine lv_aload_n hx hb dX4_peek_11 rfl (lv_at hl 0 rfl) ?_
    refine j7_read hx hb hown hK (C := RX4) (T := TX4) (N := 12) rfl hly_6_10 hlk_43 (hh.at 1 rfl) dX4_peek_12 ?_
    refine lv_icmp_ge (tgt := 34) hx hb dX4_peek_15 (by decide) (fun c_2 => ?_) (fun c_2 => ?_)
    · skip
      have c_2' : pt.toInt ≥ pe.toInt := jb_ge (rfl) (rfl) c_2
      refine lv_iconst (v := (-1)) hx hb dX4_peek_34 (by decide) ?_
      rw [hQ]
      exact W.iret (v := (-1)) hx hb hr (fun t ht hW => ⟨⟨(-1), (), rfl, by refine ⟨?_, by omega, by omega⟩; rw [jjK.n (by omega)]; exact hkm1, hh.rt (M1 := []) [] rfl ht⟩, by rw [ht]; try exact hh.1.1, fun q h9 hq => by rw [ht]; try exact hh.1.2.1 q h9 hq⟩) hh.1.2.2 dX4_peek_35
    · skip
      have c_2' : pt.toInt < pe.toInt := jb_ge_n (rfl) (rfl) c_2
      refine lv_aload_n hx hb dX4_peek_18 rfl (lv_at hl 0 rfl) ?_
      refine j7_read hx hb hown hK (C := RX4) (T := TX4) (N := 12) rfl hly_6_9 hlk_33 (hh.at 0 rfl) dX4_peek_19 ?_
      refine lv_aload_n hx hb dX4_peek_22 rfl (lv_at hl 0 rfl) ?_
      refine j7_read hx hb hown hK (C := RX4) (T := TX4) (N := 12) rfl hly_6_11 hlk_47 (hh.at 2 rfl) dX4_peek_23 ?_
      refine j7_baldM hx hb hK hh hB100 0 rfl (by decide) hg_rb (x := pt.toInt) (rfl) (by omega) (j := 0) rfl dX4_peek_26 (fun z_3 ez_3 (hz_3 : True) => ?_)
      have hqz_3 : z_3.toInt = jSo fb (pt.toInt) := by unfold jSo; rw [ez_3]
      refine lv_sipush (v := 255) hx hb dX4_peek_27 (by decide) ?_
      refine lv_iand hx hb dX4_peek_30 ?_
      refine lv_topi (fun z_4 ez_4 => ?_)
      have hz_4 : 0 ≤ z_4.toInt ∧ z_4.toInt ≤ 255 := by rw [ez_4]; exact jb_and z_3 (m := 255) (k := 8) (by decide) (by decide)
      refine lv_goto (tgt := 35) hx hb dX4_peek_31 (by decide) ?_
      rw [hQ]
      exact W.iret (v := z_4) hx hb hr (fun t ht hW => ⟨⟨z_4, (), rfl, by refine ⟨?_, by omega, by omega⟩; rw [jjK.y (by omega)]; exact (jb_a255 ez_4).trans (by rw [hqz_3]; rfl), hh.rt (M1 := []) [] rfl ht⟩, by rw [ht]; try exact hh.1.1, fun q h9 hq => by rw [ht]; try exact hh.1.2.1 q h9 hq⟩) hh.1.2.2 dX4_peek_35
set_option maxHeartbeats 4000000 in
set_option maxRecDepth 20000 in
theorem uX4_skipBlanksJ (l : Launch) (dC : Nat → ClassId) (dI : Nat → Nat → Nat) (ca : Nat → ClassId) (base : Nat) (B : jF) (hB : jBok B) (hAp : jAp (dC, dI)) (hB6 : ∀ n G a H, B 6 n G a H ↔ jOb (dC, dI) 6 12 (F6 n G) a H) (hB100 : ∀ n G a H, B 100 n G a H ↔ jAr (dC, dI) (ca 0) (fun j z => True) n a H) (G0 : jT) (H0 : Heap) (r0 : Nat) (rb : Nat) (n_rb : Nat) (pe : Int32) (pt : Int32) (kb : Int) (fb : Nat → Int32) : Met l yX4_skipBlanks (jw yX4_skipBlanks cX4_skipBlanks 1 none) ({ frames := 1, cells := 0, slots := 0, locals := 20 }) (va_Pc [.ref r0] (fun U => U.heap = H0 ∧ jX B base G0 [] H0 ∧ jG dC dI ca base U ∧ G0 r0 = some (6, 0) ∧ G0 rb = some (100, n_rb) ∧ jP (dC, dI) G0 H0 [(r0, 6, 9, .ref rb), (r0, 6, 10, .int pe), (r0, 6, 11, .int pt)] ∧ jMc (dC, dI) G0 H0 [(rb, 100, n_rb, ca 0, fb)] ∧ 0 ≤ pe.toInt ∧ pe.toInt ≤ n_rb ∧ n_rb ≤ 3000 ∧ 0 ≤ pt.toInt ∧ pt.toInt ≤ 19000 ∧ pt.toInt ≤ kb ∧ pe.toInt ≤ kb ∧ kb ≤ 19000)) (va_Qv (S := Int32) (fun u => u.toInt = jjSk (jB8 fb) pe.toInt pt.toInt ∧ pt.toInt ≤ u.toInt ∧ u.toInt ≤ kb) (fun u t => jRt (dC, dI) B base G0 EX4_skipBlanksJ H0 [(r0, 6, 11, .int u)] t.heap) (jA base)) 0 0 (jA base) := by
  refine Met.ofW (cc := cX4_skipBlanks) (maxL := 1) (ret := none) (by decide) rfl ?_
  intro p e s m args below meth c s₁ Bd hml hv
  obtain ⟨rfl, hH0, hX, hG, hg_r0, hg_rb, hP0, hM0, hp0, hp1, hp2, hp3, hp4, hp5, hp6, hp7⟩ := hv
  have hK := hG.1
  have hx := Bd.exec
  have hb := Bd.bytes
  have hr := Bd.returns
  have hts := atoms_spec (ws := (jw yX4_skipBlanks cX4_skipBlanks 1 none)) Bd.pre
  have htw : ∀ w ∈ jWl, w.before _ s = true := fun w h => hts w (List.mem_cons_of_mem _ h)
  have hown : s.vm.findClass RX4 = some m.cls := findClass_of_methodNamed Bd.named
  have hlocks := Bd.notSynchronized
  obtain ⟨Q, hQ⟩ : ∃ Q, Q = MQ below (va_Qv (S := Int32) (fun u => u.toInt = jjSk (jB8 fb) pe.toInt pt.toInt ∧ pt.toInt ≤ u.toInt ∧ u.toInt ≤ kb) (fun u t => jRt (dC, dI) B base G0 EX4_skipBlanksJ H0 [(r0, 6, 11, .int u)] t.heap) (jA base)) ([.ref r0] : List Value).toArray s 0 0 (jA base) := ⟨_, rfl⟩
  rw [← hQ]
  have hl := lv_entry ([.ref r0]) (n := 1) (Nat.le_of_ble_eq_true rfl)
  rw [lg_entry_eq]
  generalize (lg_sl ([.ref r0]) ++ List.replicate (1 - (lg_sl ([.ref r0])).length) Slot.unset).toArray = ls at hl ⊢
  have hl : lv_has ls 1 [(0, .ref r0)] := hl
  generalize hR : (headSpec (jw yX4_skipBlanks cX4_skipBlanks 1 none) ({ frames := 1, cells := 0, slots := 0, locals := 20 })).room = R
  subst hH0
  have hh : jSt (dC, dI) B base G0 G0 EX4_skipBlanksJ s.heap 0 0 [(r0, 6, 9, .ref rb), (r0, 6, 10, .int pe), (r0, 6, 11, .int pt)] [(rb, 100, n_rb, ca 0, fb)] [] s.heap [] := jSt.start hX hP0 hM0 jIs.nil
  clear hX hP0
  have hk0 : (0 : Int32).toInt = 0 := by decide
  have hk1 : (1 : Int32).toInt = 1 := by decide
  have hly_6_10 := htw (u_lay RX4 TX4 10) (jWc_wsX40 _ (u_in_lay (by decide)))
  have hly_6_11 := htw (u_lay RX4 TX4 11) (jWc_wsX40 _ (u_in_lay (by decide)))
  have hlk_47 := (htw (.fieldLink RX4 47 "ProofServer$Json" "at" "I") (jWr_19 _ (List.mem_of_getElem? (i := 12) rfl)))
  have hlk_43 := (htw (.fieldLink RX4 43 "ProofServer$Json" "end" "I") (jWr_19 _ (List.mem_of_getElem? (i := 11) rfl)))
  have L0 : ∀ (N : Nat) (wt_1 : Int32) (kf : Nat) (H_1 : Heap) (locs_1 : List Loc), jSt (dC, dI) B base G0 G0 EX4_skipBlanksJ s.heap 0 0 [(r0, 6, 11, .int wt_1), (r0, 6, 9, .ref rb), (r0, 6, 10, .int pe)] [(rb, 100, n_rb, ca 0, fb)] [] H_1 locs_1 → (pt.toInt ≤ wt_1.toInt ∧ wt_1.toInt ≤ kb ∧ pe.toInt - wt_1.toInt ≤ kf ∧ jjB (jB8 fb) pe.toInt kf wt_1.toInt = jjSk (jB8 fb) pe.toInt pt.toInt) → (((pe.toInt - wt_1.toInt).toNat : Int) : Int) < N → ∀ ls : Array Slot, lv_has ls 1 [(0, .ref r0)] → W p l e R s m ([.ref r0] : List Value).toArray below meth c H_1 locs_1 0 0 Q (F0 m 0 ls []) := by
    intro N
    induction N with
    | zero => intro wt_1 kf H_1 locs_1 hh_1  hi_1 hm; exact absurd hm (by omega)
    | succ N L0 =>
      intro wt_1 kf H_1 locs_1 hh_1  hi_1 hm_1 ls hl
      obtain ⟨hi_1_0, hi_1_1, hi_1_2, hi_1_3⟩ := hi_1
      refine lv_aload_n hx hb dX4_skipBlanks_0 rfl (lv_at hl 0 rfl) ?_
      refine j7_read hx hb hown hK (C := RX4) (T := TX4) (N := 12) rfl hly_6_11 hlk_47 (hh_1.at 0 rfl) dX4_skipBlanks_1 ?_
      refine lv_aload_n hx hb dX4_skipBlanks_4 rfl (lv_at hl 0 rfl) ?_
      refine j7_read hx hb hown hK (C := RX4) (T := TX4) (N := 12) rfl hly_6_10 hlk_43 (hh_1.at 2 rfl) dX4_skipBlanks_5 ?_
      refine lv_icmp_ge (tgt := 34) hx hb dX4_skipBlanks_8 (by decide) (fun c_2 => ?_) (fun c_2 => ?_)
      · skip
        have c_2' : wt_1.toInt ≥ pe.toInt := jb_ge (rfl) (rfl) c_2
        rw [hQ]
        exact W.vret hx hb hr (fun t ht hW => ⟨⟨wt_1, rfl, by (try dsimp only); refine ⟨?_, by omega, by omega⟩; exact (jjB_n (Or.inl (by omega))).symm.trans hi_1_3, hh_1.rt (M1 := [(r0, 6, 11, .int wt_1)]) [0] rfl ht⟩, by rw [ht]; try exact hh_1.1.1, fun q h9 hq => by rw [ht]; try exact hh_1.1.2.1 q h9 hq⟩) hh_1.1.2.2 dX4_skipBlanks_34
      · skip
        have c_2' : wt_1.toInt < pe.toInt := jb_ge_n (rfl) (rfl) c_2
        refine lv_aload_n hx hb dX4_skipBlanks_11 rfl (lv_at hl 0 rfl) ?_
        refine va_calli (A0 := jA base) (H0 := s.heap) (va_runV (As := []) (rest := []) ⟨hx, hb, hml, hown, hts⟩ (uX4_peekJ l dC dI ca base B hB hAp hB6 hB100 G0 H_1 r0 rb n_rb pe wt_1 fb) (cwV 0 hts (jgV (jWr_19 _ (List.mem_of_getElem? (i := 19) rfl)) (jWr_19 _ (List.mem_of_getElem? (i := 20) rfl)) (jWr_19 _ (List.mem_of_getElem? (i := 21) rfl)) (jWr_1 _ (List.mem_of_getElem? (i := 22) rfl)) (jWr_19 _ (List.mem_of_getElem? (i := 22) rfl))) rfl rfl rfl (by decide +kernel) ⟨by rw [← hR]; exact Nat.le_of_ble_eq_true rfl, by rw [← hR]; exact Nat.le_of_ble_eq_true rfl⟩) ⟨fun a U g mk q => by obtain ⟨q0, q1, q2, qK, q10, q11, q12, q13, q14⟩ := q; exact ⟨q0, q1, q2, jG.calling g mk a qK, q10, q11, q12, q13, q14⟩, hh_1.recv (C := RX4) (T := TX4) (N := 12) hB6 rfl (by decide) hg_r0 hK, fun U hU hW => ⟨rfl, hU, hh_1.2.1, hG.step hW hU hh_1.1, hg_r0, hg_rb, (hh_1.2.2.1.sub (L1 := [(r0, 6, 9, .ref rb), (r0, 6, 10, .int pe), (r0, 6, 11, .int wt_1)]) [1, 2, 0] rfl), (hh_1.2.2.2.2.2.2.2.1.sub (L1 := [(rb, 100, n_rb, ca 0, fb)]) [0] rfl), by first | omega | (refine ⟨?_, ?_, ?_, ?_, ?_⟩ <;> (first | omega | rfl | assumption | decide | exact Or.inl rfl | exact Or.inr rfl | (simp only; omega)))⟩⟩ rfl rfl hl.1 rfl (lv_room (Nat.le_of_ble_eq_true rfl)) dX4_skipBlanks_12 ⟨Nat.zero_le _, Nat.zero_le _⟩) hh_1.1 (fun q _ h => h) (fun q h => h) (fun r_4 u_3 t_3 H_3 locs_3 ht_3 hvm_3 hr_4 hb_3 hz_3 hk_3 hS_3 => ?_)
        rw [ht_3] at hb_3
        obtain ⟨hb_31, hb_32, hb_33, hb_34, hb_35⟩ := hb_3
        have hh_3 : jSt (dC, dI) B base G0 G0 EX4_skipBlanksJ s.heap 0 0 [(r0, 6, 11, .int wt_1), (r0, 6, 9, .ref rb), (r0, 6, 10, .int pe)] [(rb, 100, n_rb, ca 0, fb)] [] H_3 locs_3 := ((hh_1.call hb_31 hb_32 hb_33 hb_34 hS_3 rfl (L1 := [(r0, 6, 11, .int wt_1), (r0, 6, 9, .ref rb), (r0, 6, 10, .int pe)]) [0, 1, 2] rfl rfl (M1 := [(rb, 100, n_rb, ca 0, fb)]) [0] rfl rfl (I1 := []) [] rfl rfl).more hb_35)
        clear hh_1 ht_3 hvm_3 hz_3 hk_3 hS_3 hb_31 hb_32 hb_33 hb_34 hb_35
        obtain ⟨hr_4_0, hr_4_1, hr_4_2⟩ := hr_4
        refine va_calli (A0 := jA base) (H0 := s.heap) (va_runSN (As := [.int r_4]) (rest := []) ⟨hx, hb, hml, hown, hts⟩ (uX11_isBlankP l dC dI ca base B hB hAp G0 H_3 r_4) ⟨va_cnB 1 hts (jgW (jWr_20 _ (List.mem_of_getElem? (i := 0) rfl))) rfl rfl rfl (hG.2.2.1 RX4 92 yX11_isBlank "ProofServer" (List.mem_of_getElem? (i := 641) (by decide +kernel))) (htw (.initialized RX11) (jWr_1 _ (List.mem_of_getElem? (i := 2) rfl))) (by decide +kernel) ⟨by rw [← hR]; exact Nat.le_of_ble_eq_true rfl, by rw [← hR]; exact Nat.le_of_ble_eq_true rfl⟩, htw (.static yX11_isBlank) (jWr_19 _ (List.mem_of_getElem? (i := 23) rfl)), trivial⟩ ⟨fun a U g mk q => by obtain ⟨q0, q1, q2, qK, q10, q11⟩ := q; exact ⟨q0, q1, q2, jG.calling g mk a qK, q10, q11⟩, fun U hU hW => ⟨rfl, hU, hh_3.2.1, hG.step hW hU hh_3.1, jP.nil, trivial⟩⟩ rfl rfl hl.1 rfl (lv_room (Nat.le_of_ble_eq_true rfl)) dX4_skipBlanks_15 ⟨Nat.zero_le _, Nat.zero_le _⟩) hh_3.1 (fun q _ h => h) (fun q h => h) (fun r_6 u_5 t_5 H_5 locs_5 ht_5 hvm_5 hr_6 hb_5 hz_5 hk_5 hS_5 => ?_)
        rw [ht_5] at hb_5
        obtain ⟨hb_51, hb_52, hb_53, hb_54, hb_55⟩ := hb_5
        have hh_5 : jSt (dC, dI) B base G0 G0 EX4_skipBlanksJ s.heap 0 0 [(r0, 6, 11, .int wt_1), (r0, 6, 9, .ref rb), (r0, 6, 10, .int pe)] [(rb, 100, n_rb, ca 0, fb)] [] H_5 locs_5 := ((hh_3.call hb_51 hb_52 hb_53 hb_54 hS_5 rfl (L1 := [(r0, 6, 11, .int wt_1), (r0, 6, 9, .ref rb), (r0, 6, 10, .int pe)]) [0, 1, 2] rfl rfl (M1 := [(rb, 100, n_rb, ca 0, fb)]) [0] rfl rfl (I1 := []) [] rfl rfl).more hb_55)
        clear hh_3 ht_5 hvm_5 hz_5 hk_5 hS_5 hb_51 hb_52 hb_53 hb_54 hb_55
        obtain ⟨hr_6b, hr_6p⟩ := hr_6
        have hr_6' := jb_01 hr_6b
        refine lv_if_eq (tgt := 34) hx hb dX4_skipBlanks_18 (by decide) (fun c_7 => ?_) (fun c_7 => ?_)
        · skip
          have c_7' : r_6.toInt = 0 := jb_eq (rfl) ((by decide)) c_7
          rw [hQ]
          exact W.vret hx hb hr (fun t ht hW => ⟨⟨wt_1, rfl, by (try dsimp only); refine ⟨?_, by omega, by omega⟩; exact (jjB_n (Or.inr (by have h9 := jjK.y (b := jB8 fb) (e := pe.toInt) (a := wt_1.toInt) (by omega); rw [← h9, ← hr_4_0, ← hr_6p]; omega))).symm.trans hi_1_3, hh_5.rt (M1 := [(r0, 6, 11, .int wt_1)]) [0] rfl ht⟩, by rw [ht]; try exact hh_5.1.1, fun q h9 hq => by rw [ht]; try exact hh_5.1.2.1 q h9 hq⟩) hh_5.1.2.2 dX4_skipBlanks_34
        · skip
          have c_7' : r_6.toInt ≠ 0 := jb_eq_n (rfl) ((by decide)) c_7
          refine lv_aload_n hx hb dX4_skipBlanks_21 rfl (lv_at hl 0 rfl) ?_
          refine lv_dup hx hb dX4_skipBlanks_22 rfl ?_
          refine j7_read hx hb hown hK (C := RX4) (T := TX4) (N := 12) rfl hly_6_11 hlk_47 (hh_5.at 0 rfl) dX4_skipBlanks_23 ?_
          refine lv_iconst (v := 1) hx hb dX4_skipBlanks_26 (by decide) ?_
          refine lv_iadd hx hb dX4_skipBlanks_27 ?_
          refine lv_topi (fun z_8 ez_8 => ?_)
          have hz_8 : z_8.toInt = wt_1.toInt + 1 := by rw [ez_8]; exact jb_iadd2 (rfl) ((by decide)) (by omega)
          refine j7_put hx hb hown hK hh_5 hB hAp hB6 (C := RX4) (T := TX4) (N := 12) rfl (by decide) hg_r0 (i := 11) (by decide) hly_6_11 rfl hlk_47 rfl (ty := .int) (v := .int z_8) (by decide +kernel) rfl rfl (⟨_, rfl, by omega, by omega⟩) rfl (L1 := [(r0, 6, 9, .ref rb), (r0, 6, 10, .int pe)]) [1, 2] rfl rfl rfl dX4_skipBlanks_28 (fun H_9 locs_9 hh_9 => ?_)
          clear hh_5
          refine lv_goto (tgt := 0) hx hb dX4_skipBlanks_31 (by decide) ?_
          exact L0 z_8 (kf - 1) _ _ hh_9 (by refine ⟨by omega, by omega, by omega, ?_⟩; exact (jjB_y (by omega) (by have h9 := jjK.y (b := jB8 fb) (e := pe.toInt) (a := wt_1.toInt) (by omega); rw [← h9, ← hr_4_0, ← hr_6p]; omega) (by omega) (by omega)).trans hi_1_3) (by omega) _ (lv_sub hl [0] rfl)
  exact L0 (((pe.toInt - (pt : Int32).toInt).toNat : Int) : Int).toNat.succ pt ((pe.toInt - pt.toInt).toNat) _ _ (hh.sub (L1 := [(r0, 6, 11, .int pt), (r0, 6, 9, .ref rb), (r0, 6, 10, .int pe)]) [2, 0, 1] rfl (M1 := [(rb, 100, n_rb, ca 0, fb)]) [0] rfl (I1 := []) [] rfl) (by refine ⟨by omega, by omega, by omega, rfl⟩) (by omega) _ (lv_sub hl [0] rfl)
set_option maxHeartbeats 4000000 in
set_option maxRecDepth 20000 in
theorem uX4_digitsJ (l : Launch) (dC : Nat → ClassId) (dI : Nat → Nat → Nat) (ca : Nat → ClassId) (base : Nat) (B : jF) (hB : jBok B) (hAp : jAp (dC, dI)) (hB6 : ∀ n G a H, B 6 n G a H ↔ jOb (dC, dI) 6 12 (F6 n G) a H) (hB100 : ∀ n G a H, B 100 n G a H ↔ jAr (dC, dI) (ca 0) (fun j z => True) n a H) (G0 : jT) (H0 : Heap) (r0 : Nat) (rb : Nat) (n_rb : Nat) (pe : Int32) (pt : Int32) (fb : Nat → Int32) : Met l yX4_digits (jw yX4_digits cX4_digits 2 (some .int)) ({ frames := 1, cells := 0, slots := 0, locals := 20 }) (va_Pc [.ref r0] (fun U => U.heap = H0 ∧ jX B base G0 [] H0 ∧ jG dC dI ca base U ∧ G0 r0 = some (6, 0) ∧ G0 rb = some (100, n_rb) ∧ jP (dC, dI) G0 H0 [(r0, 6, 9, .ref rb), (r0, 6, 10, .int pe), (r0, 6, 11, .int pt)] ∧ jMc (dC, dI) G0 H0 [(rb, 100, n_rb, ca 0, fb)] ∧ 0 ≤ pe.toInt ∧ pe.toInt ≤ n_rb ∧ n_rb ≤ 3000 ∧ 0 ≤ pt.toInt ∧ pt.toInt ≤ 19000 ∧ pt.toInt ≤ pe.toInt)) (va_Qi (S := Int32) (fun r u => (u.toInt = jjDg (jB8 fb) pe.toInt pt.toInt ∧ r.toInt = u.toInt - pt.toInt ∧ pt.toInt ≤ u.toInt ∧ u.toInt ≤ pe.toInt)) (fun u t => jRt (dC, dI) B base G0 EX4_digitsJ H0 [(r0, 6, 11, .int u)] t.heap) (jA base)) 0 0 (jA base) := by
  refine Met.ofW (cc := cX4_digits) (maxL := 2) (ret := (some .int)) (by decide) rfl ?_
  intro p e s m args below meth c s₁ Bd hml hv
  obtain ⟨rfl, hH0, hX, hG, hg_r0, hg_rb, hP0, hM0, hp0, hp1, hp2, hp3, hp4, hp5⟩ := hv
  have hK := hG.1
  have hx := Bd.exec
  have hb := Bd.bytes
  have hr := Bd.returns
  have hts := atoms_spec (ws := (jw yX4_digits cX4_digits 2 (some .int))) Bd.pre
  have htw : ∀ w ∈ jWl, w.before _ s = true := fun w h => hts w (List.mem_cons_of_mem _ h)
  have hown : s.vm.findClass RX4 = some m.cls := findClass_of_methodNamed Bd.named
  have hlocks := Bd.notSynchronized
  obtain ⟨Q, hQ⟩ : ∃ Q, Q = MQ below (va_Qi (S := Int32) (fun r u => (u.toInt = jjDg (jB8 fb) pe.toInt pt.toInt ∧ r.toInt = u.toInt - pt.toInt ∧ pt.toInt ≤ u.toInt ∧ u.toInt ≤ pe.toInt)) (fun u t => jRt (dC, dI) B base G0 EX4_digitsJ H0 [(r0, 6, 11, .int u)] t.heap) (jA base)) ([.ref r0] : List Value).toArray s 0 0 (jA base) := ⟨_, rfl⟩
  rw [← hQ]
  have hl := lv_entry ([.ref r0]) (n := 2) (Nat.le_of_ble_eq_true rfl)
  rw [lg_entry_eq]
  generalize (lg_sl ([.ref r0]) ++ List.replicate (2 - (lg_sl ([.ref r0])).length) Slot.unset).toArray = ls at hl ⊢
  have hl : lv_has ls 2 [(0, .ref r0)] := hl
  generalize hR : (headSpec (jw yX4_digits cX4_digits 2 (some .int)) ({ frames := 1, cells := 0, slots := 0, locals := 20 })).room = R
  subst hH0
  have hh : jSt (dC, dI) B base G0 G0 EX4_digitsJ s.heap 0 0 [(r0, 6, 9, .ref rb), (r0, 6, 10, .int pe), (r0, 6, 11, .int pt)] [(rb, 100, n_rb, ca 0, fb)] [] s.heap [] := jSt.start hX hP0 hM0 jIs.nil
  clear hX hP0
  have hk0 : (0 : Int32).toInt = 0 := by decide
  have hk1 : (1 : Int32).toInt = 1 := by decide
  have hly_6_10 := htw (u_lay RX4 TX4 10) (jWc_wsX40 _ (u_in_lay (by decide)))
  have hly_6_11 := htw (u_lay RX4 TX4 11) (jWc_wsX40 _ (u_in_lay (by decide)))
  have hlk_47 := (htw (.fieldLink RX4 47 "ProofServer$Json" "at" "I") (jWr_19 _ (List.mem_of_getElem? (i := 12) rfl)))
  have hlk_43 := (htw (.fieldLink RX4 43 "ProofServer$Json" "end" "I") (jWr_19 _ (List.mem_of_getElem? (i := 11) rfl)))
  refine lv_aload_n hx hb dX4_digits_0 rfl (lv_at hl 0 rfl) ?_
  refine j7_read hx hb hown hK (C := RX4) (T := TX4) (N := 12) rfl hly_6_11 hlk_47 (hh.at 2 rfl) dX4_digits_1 ?_
  refine lv_istore_n (lv' := [(1, .int pt), (0, .ref r0)]) hx hb dX4_digits_4 rfl hl (by decide) rfl (fun ls hl => ?_)
  have L5 : ∀ (N : Nat) (wt_1 : Int32) (kf : Nat) (H_1 : Heap) (locs_1 : List Loc), jSt (dC, dI) B base G0 G0 EX4_digitsJ s.heap 0 0 [(r0, 6, 11, .int wt_1), (r0, 6, 9, .ref rb), (r0, 6, 10, .int pe)] [(rb, 100, n_rb, ca 0, fb)] [] H_1 locs_1 → (pt.toInt ≤ wt_1.toInt ∧ wt_1.toInt ≤ pe.toInt ∧ pe.toInt - wt_1.toInt ≤ kf ∧ jjD (jB8 fb) pe.toInt kf wt_1.toInt = jjDg (jB8 fb) pe.toInt pt.toInt) → (pe.toInt - wt_1.toInt : Int) < N → ∀ ls : Array Slot, lv_has ls 2 [(0, .ref r0), (1, .int pt)] → W p l e R s m ([.ref r0] : List Value).toArray below meth c H_1 locs_1 0 0 Q (F0 m 5 ls []) := by
    intro N
    induction N with
    | zero => intro wt_1 kf H_1 locs_1 hh_1  hi_1 hm; exact absurd hm (by omega)
    | succ N L5 =>
      intro wt_1 kf H_1 locs_1 hh_1  hi_1 hm_1 ls hl
      obtain ⟨hi_1_0, hi_1_1, hi_1_2, hi_1_3⟩ := hi_1
      refine lv_aload_n hx hb dX4_digits_5 rfl (lv_at hl 0 rfl) ?_
      refine j7_read hx hb hown hK (C := RX4) (T := TX4) (N := 12) rfl hly_6_11 hlk_47 (hh_1.at 0 rfl) dX4_digits_6 ?_
      refine lv_aload_n hx hb dX4_digits_9 rfl (lv_at hl 0 rfl) ?_
      refine j7_read hx hb hown hK (C := RX4) (T := TX4) (N := 12) rfl hly_6_10 hlk_43 (hh_1.at 2 rfl) dX4_digits_10 ?_
      refine lv_icmp_ge (tgt := 39) hx hb dX4_digits_13 (by decide) (fun c_2 => ?_) (fun c_2 => ?_)
      · skip
        have c_2' : wt_1.toInt ≥ pe.toInt := jb_ge (rfl) (rfl) c_2
        refine lv_aload_n hx hb dX4_digits_39 rfl (lv_at hl 0 rfl) ?_
        refine j7_read hx hb hown hK (C := RX4) (T := TX4) (N := 12) rfl hly_6_11 hlk_47 (hh_1.at 0 rfl) dX4_digits_40 ?_
        refine lv_iload_n hx hb dX4_digits_43 rfl (lv_at hl 1 rfl) ?_
        refine lv_isub hx hb dX4_digits_44 ?_
        refine lv_topi (fun z_3 ez_3 => ?_)
        have hz_3 : z_3.toInt = wt_1.toInt - pt.toInt := by rw [ez_3]; exact jb_isub2 (rfl) (rfl) (by omega)
        rw [hQ]
        exact W.iret (v := z_3) hx hb hr (fun t ht hW => ⟨⟨z_3, wt_1, rfl, by (try dsimp only); refine ⟨?_, by omega, by omega, by omega⟩; exact (jjD_n (Or.inl (by omega))).symm.trans hi_1_3, hh_1.rt (M1 := [(r0, 6, 11, .int wt_1)]) [0] rfl ht⟩, by rw [ht]; try exact hh_1.1.1, fun q h9 hq => by rw [ht]; try exact hh_1.1.2.1 q h9 hq⟩) hh_1.1.2.2 dX4_digits_45
      · skip
        have c_2' : wt_1.toInt < pe.toInt := jb_ge_n (rfl) (rfl) c_2
        refine lv_aload_n hx hb dX4_digits_16 rfl (lv_at hl 0 rfl) ?_
        refine va_calli (A0 := jA base) (H0 := s.heap) (va_runV (As := []) (rest := []) ⟨hx, hb, hml, hown, hts⟩ (uX4_peekJ l dC dI ca base B hB hAp hB6 hB100 G0 H_1 r0 rb n_rb pe wt_1 fb) (cwV 0 hts (jgV (jWr_19 _ (List.mem_of_getElem? (i := 19) rfl)) (jWr_19 _ (List.mem_of_getElem? (i := 20) rfl)) (jWr_19 _ (List.mem_of_getElem? (i := 21) rfl)) (jWr_1 _ (List.mem_of_getElem? (i := 22) rfl)) (jWr_19 _ (List.mem_of_getElem? (i := 22) rfl))) rfl rfl rfl (by decide +kernel) ⟨by rw [← hR]; exact Nat.le_of_ble_eq_true rfl, by rw [← hR]; exact Nat.le_of_ble_eq_true rfl⟩) ⟨fun a U g mk q => by obtain ⟨q0, q1, q2, qK, q10, q11, q12, q13, q14⟩ := q; exact ⟨q0, q1, q2, jG.calling g mk a qK, q10, q11, q12, q13, q14⟩, hh_1.recv (C := RX4) (T := TX4) (N := 12) hB6 rfl (by decide) hg_r0 hK, fun U hU hW => ⟨rfl, hU, hh_1.2.1, hG.step hW hU hh_1.1, hg_r0, hg_rb, (hh_1.2.2.1.sub (L1 := [(r0, 6, 9, .ref rb), (r0, 6, 10, .int pe), (r0, 6, 11, .int wt_1)]) [1, 2, 0] rfl), (hh_1.2.2.2.2.2.2.2.1.sub (L1 := [(rb, 100, n_rb, ca 0, fb)]) [0] rfl), by first | omega | (refine ⟨?_, ?_, ?_, ?_, ?_⟩ <;> (first | omega | rfl | assumption | decide | exact Or.inl rfl | exact Or.inr rfl | (simp only; omega)))⟩⟩ rfl rfl hl.1 rfl (lv_room (Nat.le_of_ble_eq_true rfl)) dX4_digits_17 ⟨Nat.zero_le _, Nat.zero_le _⟩) hh_1.1 (fun q _ h => h) (fun q h => h) (fun r_5 u_4 t_4 H_4 locs_4 ht_4 hvm_4 hr_5 hb_4 hz_4 hk_4 hS_4 => ?_)
        rw [ht_4] at hb_4
        obtain ⟨hb_41, hb_42, hb_43, hb_44, hb_45⟩ := hb_4
        have hh_4 : jSt (dC, dI) B base G0 G0 EX4_digitsJ s.heap 0 0 [(r0, 6, 11, .int wt_1), (r0, 6, 9, .ref rb), (r0, 6, 10, .int pe)] [(rb, 100, n_rb, ca 0, fb)] [] H_4 locs_4 := ((hh_1.call hb_41 hb_42 hb_43 hb_44 hS_4 rfl (L1 := [(r0, 6, 11, .int wt_1), (r0, 6, 9, .ref rb), (r0, 6, 10, .int pe)]) [0, 1, 2] rfl rfl (M1 := [(rb, 100, n_rb, ca 0, fb)]) [0] rfl rfl (I1 := []) [] rfl rfl).more hb_45)
        clear hh_1 ht_4 hvm_4 hz_4 hk_4 hS_4 hb_41 hb_42 hb_43 hb_44 hb_45
        obtain ⟨hr_5_0, hr_5_1, hr_5_2⟩ := hr_5
        refine va_calli (A0 := jA base) (H0 := s.heap) (va_runSN (As := [.int r_5]) (rest := []) ⟨hx, hb, hml, hown, hts⟩ (uX11_isDigitJ l dC dI ca base B hB hAp G0 H_4 r_5) ⟨va_cnB 1 hts (jgW (jWr_22 _ (List.mem_of_getElem? (i := 15) rfl))) rfl rfl rfl (hG.2.2.1 RX4 108 yX11_isDigit "ProofServer" (List.mem_of_getElem? (i := 711) (by decide +kernel))) (htw (.initialized RX11) (jWr_1 _ (List.mem_of_getElem? (i := 2) rfl))) (by decide +kernel) ⟨by rw [← hR]; exact Nat.le_of_ble_eq_true rfl, by rw [← hR]; exact Nat.le_of_ble_eq_true rfl⟩, htw (.static yX11_isDigit) (jWr_22 _ (List.mem_of_getElem? (i := 14) rfl)), trivial⟩ ⟨fun a U g mk q => by obtain ⟨q0, q1, q2, qK, q10, q11⟩ := q; exact ⟨q0, q1, q2, jG.calling g mk a qK, q10, q11⟩, fun U hU hW => ⟨rfl, hU, hh_4.2.1, hG.step hW hU hh_4.1, jP.nil, trivial⟩⟩ rfl rfl hl.1 rfl (lv_room (Nat.le_of_ble_eq_true rfl)) dX4_digits_20 ⟨Nat.zero_le _, Nat.zero_le _⟩) hh_4.1 (fun q _ h => h) (fun q h => h) (fun r_7 u_6 t_6 H_6 locs_6 ht_6 hvm_6 hr_7 hb_6 hz_6 hk_6 hS_6 => ?_)
        rw [ht_6] at hb_6
        obtain ⟨hb_61, hb_62, hb_63, hb_64, hb_65⟩ := hb_6
        have hh_6 : jSt (dC, dI) B base G0 G0 EX4_digitsJ s.heap 0 0 [(r0, 6, 11, .int wt_1), (r0, 6, 9, .ref rb), (r0, 6, 10, .int pe)] [(rb, 100, n_rb, ca 0, fb)] [] H_6 locs_6 := ((hh_4.call hb_61 hb_62 hb_63 hb_64 hS_6 rfl (L1 := [(r0, 6, 11, .int wt_1), (r0, 6, 9, .ref rb), (r0, 6, 10, .int pe)]) [0, 1, 2] rfl rfl (M1 := [(rb, 100, n_rb, ca 0, fb)]) [0] rfl rfl (I1 := []) [] rfl rfl).more hb_65)
        clear hh_4 ht_6 hvm_6 hz_6 hk_6 hS_6 hb_61 hb_62 hb_63 hb_64 hb_65
        obtain ⟨hr_7b, hr_7p⟩ := hr_7
        have hr_7' := jb_01 hr_7b
        refine lv_if_eq (tgt := 39) hx hb dX4_digits_23 (by decide) (fun c_8 => ?_) (fun c_8 => ?_)
        · skip
          have c_8' : r_7.toInt = 0 := jb_eq (rfl) ((by decide)) c_8
          first | (have hr_7pq := hr_7p.resolve_left (by omega); clear hr_7p) | (have hr_7pq := hr_7p.resolve_right (by omega); clear hr_7p) | try clear hr_7p
          refine lv_aload_n hx hb dX4_digits_39 rfl (lv_at hl 0 rfl) ?_
          refine j7_read hx hb hown hK (C := RX4) (T := TX4) (N := 12) rfl hly_6_11 hlk_47 (hh_6.at 0 rfl) dX4_digits_40 ?_
          refine lv_iload_n hx hb dX4_digits_43 rfl (lv_at hl 1 rfl) ?_
          refine lv_isub hx hb dX4_digits_44 ?_
          refine lv_topi (fun z_9 ez_9 => ?_)
          have hz_9 : z_9.toInt = wt_1.toInt - pt.toInt := by rw [ez_9]; exact jb_isub2 (rfl) (rfl) (by omega)
          rw [hQ]
          exact W.iret (v := z_9) hx hb hr (fun t ht hW => ⟨⟨z_9, wt_1, rfl, by (try dsimp only); refine ⟨?_, by omega, by omega, by omega⟩; exact (jjD_n (Or.inr (by have h9 := jjK.y (b := jB8 fb) (e := pe.toInt) (a := wt_1.toInt) (by omega); omega))).symm.trans hi_1_3, hh_6.rt (M1 := [(r0, 6, 11, .int wt_1)]) [0] rfl ht⟩, by rw [ht]; try exact hh_6.1.1, fun q h9 hq => by rw [ht]; try exact hh_6.1.2.1 q h9 hq⟩) hh_6.1.2.2 dX4_digits_45
        · skip
          have c_8' : r_7.toInt ≠ 0 := jb_eq_n (rfl) ((by decide)) c_8
          first | (have hr_7pq := hr_7p.resolve_left (by omega); clear hr_7p) | (have hr_7pq := hr_7p.resolve_right (by omega); clear hr_7p) | try clear hr_7p
          refine lv_aload_n hx hb dX4_digits_26 rfl (lv_at hl 0 rfl) ?_
          refine lv_dup hx hb dX4_digits_27 rfl ?_
          refine j7_read hx hb hown hK (C := RX4) (T := TX4) (N := 12) rfl hly_6_11 hlk_47 (hh_6.at 0 rfl) dX4_digits_28 ?_
          refine lv_iconst (v := 1) hx hb dX4_digits_31 (by decide) ?_
          refine lv_iadd hx hb dX4_digits_32 ?_
          refine lv_topi (fun z_10 ez_10 => ?_)
          have hz_10 : z_10.toInt = wt_1.toInt + 1 := by rw [ez_10]; exact jb_iadd2 (rfl) ((by decide)) (by omega)
          refine j7_put hx hb hown hK hh_6 hB hAp hB6 (C := RX4) (T := TX4) (N := 12) rfl (by decide) hg_r0 (i := 11) (by decide) hly_6_11 rfl hlk_47 rfl (ty := .int) (v := .int z_10) (by decide +kernel) rfl rfl (⟨_, rfl, by omega, by omega⟩) rfl (L1 := [(r0, 6, 9, .ref rb), (r0, 6, 10, .int pe)]) [1, 2] rfl rfl rfl dX4_digits_33 (fun H_11 locs_11 hh_11 => ?_)
          clear hh_6
          refine lv_goto (tgt := 5) hx hb dX4_digits_36 (by decide) ?_
          exact L5 z_10 (kf - 1) _ _ hh_11 (by refine ⟨by omega, by omega, by omega, ?_⟩; exact (jjD_y (by omega) (by have h9 := jjK.y (b := jB8 fb) (e := pe.toInt) (a := wt_1.toInt) (by omega); omega) (by have h9 := jjK.y (b := jB8 fb) (e := pe.toInt) (a := wt_1.toInt) (by omega); omega) (by omega) (by omega)).trans hi_1_3) (by omega) _ (lv_sub hl [0, 1] rfl)
  exact L5 (pe.toInt - (pt : Int32).toInt : Int).toNat.succ pt ((pe.toInt - pt.toInt).toNat) _ _ (hh.sub (L1 := [(r0, 6, 11, .int pt), (r0, 6, 9, .ref rb), (r0, 6, 10, .int pe)]) [2, 0, 1] rfl (M1 := [(rb, 100, n_rb, ca 0, fb)]) [0] rfl (I1 := []) [] rfl) (by refine ⟨by omega, by omega, by omega, rfl⟩) (by omega) _ (lv_sub hl [1, 0] rfl)
set_option maxHeartbeats 4000000 in
set_option maxRecDepth 20000 in
theorem uX4_isWordJ (l : Launch) (dC : Nat → ClassId) (dI : Nat → Nat → Nat) (ca : Nat → ClassId) (base : Nat) (B : jF) (hB : jBok B) (hAp : jAp (dC, dI)) (hB6 : ∀ n G a H, B 6 n G a H ↔ jOb (dC, dI) 6 12 (F6 n G) a H) (hB100 : ∀ n G a H, B 100 n G a H ↔ jAr (dC, dI) (ca 0) (fun j z => True) n a H) (G0 : jT) (H0 : Heap) (r0 : Nat) (r1 : Nat) (n1 : Nat) (f1 : Nat → Int32) (rb : Nat) (n_rb : Nat) (pe : Int32) (pt : Int32) (fb : Nat → Int32) : Met l yX4_isWord (jw yX4_isWord cX4_isWord 3 (some .boolean)) ({ frames := 4, cells := 0, slots := 0, locals := 141 }) (va_Pc [.ref r0, .ref r1] (fun U => U.heap = H0 ∧ jX B base G0 [] H0 ∧ jG dC dI ca base U ∧ jStrF base r1 n1 f1 U H0 ∧ G0 r0 = some (6, 0) ∧ G0 rb = some (100, n_rb) ∧ jP (dC, dI) G0 H0 [(r0, 6, 9, .ref rb), (r0, 6, 10, .int pe), (r0, 6, 11, .int pt)] ∧ jMc (dC, dI) G0 H0 [(rb, 100, n_rb, ca 0, fb)] ∧ 0 ≤ pe.toInt ∧ pe.toInt ≤ n_rb ∧ n_rb ≤ 3000 ∧ 0 ≤ pt.toInt ∧ pt.toInt ≤ 19000 ∧ pt.toInt ≤ pe.toInt ∧ 1 ≤ n1 ∧ n1 ≤ 1000 ∧ jjFt fb pe.toInt ∧ jjAs f1 n1)) (va_Qi (S := Int32) (fun r u => (r = 0 ∨ r = 1) ∧ (r.toInt = jjW (jB8 fb) pe.toInt f1 n1 pt.toInt ∧ ((r.toInt = 1 ∧ u.toInt = pt.toInt + n1 ∧ u.toInt ≤ pe.toInt) ∨ (r.toInt = 0 ∧ u.toInt = pt.toInt)))) (fun u t => jRt (dC, dI) B base G0 EX4_isWordJ H0 [(r0, 6, 11, .int u)] t.heap) (jA base)) 0 0 (jA base) := by
  refine Met.ofW (cc := cX4_isWord) (maxL := 3) (ret := (some .boolean)) (by decide) rfl ?_
  intro p e s m args below meth c s₁ Bd hml hv
  obtain ⟨rfl, hH0, hX, hG, hstrF_r1, hg_r0, hg_rb, hP0, hM0, hp0, hp1, hp2, hp3, hp4, hp5, hp6, hp7, hp8, hp9⟩ := hv
  have hK := hG.1
  have hx := Bd.exec
  have hb := Bd.bytes
  have hr := Bd.returns
  have hts := atoms_spec (ws := (jw yX4_isWord cX4_isWord 3 (some .boolean))) Bd.pre
  have htw : ∀ w ∈ jWl, w.before _ s = true := fun w h => hts w (List.mem_cons_of_mem _ h)
  have hown : s.vm.findClass RX4 = some m.cls := findClass_of_methodNamed Bd.named
  have hlocks := Bd.notSynchronized
  obtain ⟨Q, hQ⟩ : ∃ Q, Q = MQ below (va_Qi (S := Int32) (fun r u => (r = 0 ∨ r = 1) ∧ (r.toInt = jjW (jB8 fb) pe.toInt f1 n1 pt.toInt ∧ ((r.toInt = 1 ∧ u.toInt = pt.toInt + n1 ∧ u.toInt ≤ pe.toInt) ∨ (r.toInt = 0 ∧ u.toInt = pt.toInt)))) (fun u t => jRt (dC, dI) B base G0 EX4_isWordJ H0 [(r0, 6, 11, .int u)] t.heap) (jA base)) ([.ref r0, .ref r1] : List Value).toArray s 0 0 (jA base) := ⟨_, rfl⟩
  rw [← hQ]
  have hl := lv_entry ([.ref r0, .ref r1]) (n := 3) (Nat.le_of_ble_eq_true rfl)
  rw [lg_entry_eq]
  generalize (lg_sl ([.ref r0, .ref r1]) ++ List.replicate (3 - (lg_sl ([.ref r0, .ref r1])).length) Slot.unset).toArray = ls at hl ⊢
  have hstr_r1 := hstrF_r1.str
  have hl : lv_has ls 3 [(0, .ref r0), (1, .ref r1)] := hl
  generalize hR : (headSpec (jw yX4_isWord cX4_isWord 3 (some .boolean)) ({ frames := 4, cells := 0, slots := 0, locals := 141 })).room = R
  subst hH0
  have hh : jSt (dC, dI) B base G0 G0 EX4_isWordJ s.heap 0 0 [(r0, 6, 9, .ref rb), (r0, 6, 10, .int pe), (r0, 6, 11, .int pt)] [(rb, 100, n_rb, ca 0, fb)] [] s.heap [] := jSt.start hX hP0 hM0 jIs.nil
  clear hX hP0
  have hk0 : (0 : Int32).toInt = 0 := by decide
  have hk1 : (1 : Int32).toInt = 1 := by decide
  have hly_6_9 := htw (u_lay RX4 TX4 9) (jWc_wsX40 _ (u_in_lay (by decide)))
  have hly_6_10 := htw (u_lay RX4 TX4 10) (jWc_wsX40 _ (u_in_lay (by decide)))
  have hly_6_11 := htw (u_lay RX4 TX4 11) (jWc_wsX40 _ (u_in_lay (by decide)))
  have hlk_47 := (htw (.fieldLink RX4 47 "ProofServer$Json" "at" "I") (jWr_19 _ (List.mem_of_getElem? (i := 12) rfl)))
  have hlk_43 := (htw (.fieldLink RX4 43 "ProofServer$Json" "end" "I") (jWr_19 _ (List.mem_of_getElem? (i := 11) rfl)))
  have hlk_33 := (htw (.fieldLink RX4 33 "ProofServer$Json" "bytes" "[B") (jWr_4 _ (List.mem_of_getElem? (i := 4) rfl)))
  refine lv_iconst (v := 0) hx hb dX4_isWord_0 (by decide) ?_
  refine lv_istore_n (lv' := [(2, .int 0), (0, .ref r0), (1, .ref r1)]) hx hb dX4_isWord_1 rfl hl (by decide) rfl (fun ls hl => ?_)
  have L2 : ∀ (N : Nat) (v2_1 : Int32) (H_1 : Heap) (locs_1 : List Loc), jSt (dC, dI) B base G0 G0 EX4_isWordJ s.heap 0 0 [(r0, 6, 9, .ref rb), (r0, 6, 10, .int pe), (r0, 6, 11, .int pt)] [(rb, 100, n_rb, ca 0, fb)] [] H_1 locs_1 → (0 ≤ v2_1.toInt ∧ v2_1.toInt ≤ n1 ∧ pt.toInt + v2_1.toInt ≤ pe.toInt ∧ jjWf (jB8 fb) pe.toInt f1 pt.toInt (n1 - (v2_1.toInt).toNat) (v2_1.toInt).toNat = jjW (jB8 fb) pe.toInt f1 n1 pt.toInt) → (n1 - v2_1.toInt : Int) < N → ∀ ls : Array Slot, lv_has ls 3 [(0, .ref r0), (1, .ref r1), (2, .int v2_1)] → W p l e R s m ([.ref r0, .ref r1] : List Value).toArray below meth c H_1 locs_1 0 0 Q (F0 m 2 ls []) := by
    intro N
    induction N with
    | zero => intro v2_1 H_1 locs_1 hh_1  hi_1 hm; exact absurd hm (by omega)
    | succ N L2 =>
      intro v2_1 H_1 locs_1 hh_1  hi_1 hm_1 ls hl
      obtain ⟨hi_1_0, hi_1_1, hi_1_2, hi_1_3⟩ := hi_1
      refine lv_iload_n hx hb dX4_isWord_2 rfl (lv_at hl 2 rfl) ?_
      refine lv_aload_n hx hb dX4_isWord_3 rfl (lv_at hl 1 rfl) ?_
      refine vp_callSi (W.runV (As := []) (rest := [.int v2_1]) ⟨hx, hb, hml, hown, hts⟩ (wJ0_length_8abf5 l dC dI ca base H_1 r1 n1) (cwV 0 hts (jgV (jWr_20 _ (List.mem_of_getElem? (i := 23) rfl)) (jWr_5 _ (List.mem_of_getElem? (i := 13) rfl)) (jWr_5 _ (List.mem_of_getElem? (i := 14) rfl)) (jWr_5 _ (List.mem_of_getElem? (i := 15) rfl)) (jWr_5 _ (List.mem_of_getElem? (i := 16) rfl))) rfl rfl rfl (by decide +kernel) ⟨by rw [← hR]; exact Nat.le_of_ble_eq_true rfl, by rw [← hR]; exact Nat.le_of_ble_eq_true rfl⟩) ⟨fun a U g mk q => by obtain ⟨q0, q1, q2, qK, q9⟩ := q; exact ⟨q0, q1, (q2.moved (Vm.Alike.refl U.vm)), jG.calling g mk a qK, q9⟩, jStr_recv hstr_r1 hh_1.1, fun U hU hW => ⟨rfl, hU, (hstr_r1.moved hW.alike).kept hh_1.1.2.1, hG.step hW hU hh_1.1, by omega⟩⟩ rfl rfl hl.1 rfl (lv_room (Nat.le_of_ble_eq_true rfl)) dX4_isWord_4 ⟨Nat.zero_le _, Nat.zero_le _⟩) (fun r_2 hr_2 => ?_)
      refine lv_icmp_ge (tgt := 50) hx hb dX4_isWord_7 (by decide) (fun c_3 => ?_) (fun c_3 => ?_)
      · skip
        have c_3' : v2_1.toInt ≥ r_2.toInt := jb_ge (rfl) (rfl) c_3
        refine lv_aload_n hx hb dX4_isWord_50 rfl (lv_at hl 0 rfl) ?_
        refine lv_dup hx hb dX4_isWord_51 rfl ?_
        refine j7_read hx hb hown hK (C := RX4) (T := TX4) (N := 12) rfl hly_6_11 hlk_47 (hh_1.at 2 rfl) dX4_isWord_52 ?_
        refine lv_aload_n hx hb dX4_isWord_55 rfl (lv_at hl 1 rfl) ?_
        refine vp_callSi (W.runV (As := []) (rest := [.int pt, .ref r0]) ⟨hx, hb, hml, hown, hts⟩ (wJ0_length_8abf5 l dC dI ca base H_1 r1 n1) (cwV 0 hts (jgV (jWr_20 _ (List.mem_of_getElem? (i := 23) rfl)) (jWr_5 _ (List.mem_of_getElem? (i := 13) rfl)) (jWr_5 _ (List.mem_of_getElem? (i := 14) rfl)) (jWr_5 _ (List.mem_of_getElem? (i := 15) rfl)) (jWr_5 _ (List.mem_of_getElem? (i := 16) rfl))) rfl rfl rfl (by decide +kernel) ⟨by rw [← hR]; exact Nat.le_of_ble_eq_true rfl, by rw [← hR]; exact Nat.le_of_ble_eq_true rfl⟩) ⟨fun a U g mk q => by obtain ⟨q0, q1, q2, qK, q9⟩ := q; exact ⟨q0, q1, (q2.moved (Vm.Alike.refl U.vm)), jG.calling g mk a qK, q9⟩, jStr_recv hstr_r1 hh_1.1, fun U hU hW => ⟨rfl, hU, (hstr_r1.moved hW.alike).kept hh_1.1.2.1, hG.step hW hU hh_1.1, by omega⟩⟩ rfl rfl hl.1 rfl (lv_room (Nat.le_of_ble_eq_true rfl)) dX4_isWord_56 ⟨Nat.zero_le _, Nat.zero_le _⟩) (fun r_4 hr_4 => ?_)
        refine lv_iadd hx hb dX4_isWord_59 ?_
        refine lv_topi (fun z_5 ez_5 => ?_)
        have hz_5 : z_5.toInt = pt.toInt + r_4.toInt := by rw [ez_5]; exact jb_iadd2 (rfl) (rfl) (by omega)
        refine j7_put hx hb hown hK hh_1 hB hAp hB6 (C := RX4) (T := TX4) (N := 12) rfl (by decide) hg_r0 (i := 11) (by decide) hly_6_11 rfl hlk_47 rfl (ty := .int) (v := .int z_5) (by decide +kernel) rfl rfl (⟨_, rfl, by omega, by omega⟩) rfl (L1 := [(r0, 6, 9, .ref rb), (r0, 6, 10, .int pe)]) [0, 1] rfl rfl rfl dX4_isWord_60 (fun H_6 locs_6 hh_6 => ?_)
        clear hh_1
        refine lv_iconst (v := 1) hx hb dX4_isWord_63 (by decide) ?_
        rw [hQ]
        exact W.zret (v := 1) hx hb hr (jb_nz (Or.inr rfl)) (fun t ht hW => ⟨⟨1, z_5, rfl, ⟨(Or.inr rfl), by (try dsimp only); refine ⟨?_, by omega⟩; have h9 := hi_1_3; rw [show n1 - v2_1.toInt.toNat = 0 by omega] at h9; exact hk1.trans h9⟩, hh_6.rt (M1 := [(r0, 6, 11, .int z_5)]) [0] rfl ht⟩, by rw [ht]; try exact hh_6.1.1, fun q h9 hq => by rw [ht]; try exact hh_6.1.2.1 q h9 hq⟩) hh_6.1.2.2 dX4_isWord_64
      · skip
        have c_3' : v2_1.toInt < r_2.toInt := jb_ge_n (rfl) (rfl) c_3
        refine lv_aload_n hx hb dX4_isWord_10 rfl (lv_at hl 0 rfl) ?_
        refine j7_read hx hb hown hK (C := RX4) (T := TX4) (N := 12) rfl hly_6_11 hlk_47 (hh_1.at 2 rfl) dX4_isWord_11 ?_
        refine lv_iload_n hx hb dX4_isWord_14 rfl (lv_at hl 2 rfl) ?_
        refine lv_iadd hx hb dX4_isWord_15 ?_
        refine lv_topi (fun z_7 ez_7 => ?_)
        have hz_7 : z_7.toInt = pt.toInt + v2_1.toInt := by rw [ez_7]; exact jb_iadd2 (rfl) (rfl) (by omega)
        refine lv_aload_n hx hb dX4_isWord_16 rfl (lv_at hl 0 rfl) ?_
        refine j7_read hx hb hown hK (C := RX4) (T := TX4) (N := 12) rfl hly_6_10 hlk_43 (hh_1.at 1 rfl) dX4_isWord_17 ?_
        refine lv_icmp_ge (tgt := 42) hx hb dX4_isWord_20 (by decide) (fun c_8 => ?_) (fun c_8 => ?_)
        · skip
          have c_8' : z_7.toInt ≥ pe.toInt := jb_ge (rfl) (rfl) c_8
          refine lv_iconst (v := 0) hx hb dX4_isWord_42 (by decide) ?_
          rw [hQ]
          exact W.zret (v := 0) hx hb hr (jb_nz (Or.inl rfl)) (fun t ht hW => ⟨⟨0, pt, rfl, ⟨(Or.inl rfl), by (try dsimp only); refine ⟨?_, by omega⟩; exact hk0.trans ((jjWf_n (Or.inl (by omega)) (by omega)).symm.trans hi_1_3)⟩, hh_1.rt (M1 := [(r0, 6, 11, .int pt)]) [2] rfl ht⟩, by rw [ht]; try exact hh_1.1.1, fun q h9 hq => by rw [ht]; try exact hh_1.1.2.1 q h9 hq⟩) hh_1.1.2.2 dX4_isWord_43
        · skip
          have c_8' : z_7.toInt < pe.toInt := jb_ge_n (rfl) (rfl) c_8
          refine lv_aload_n hx hb dX4_isWord_23 rfl (lv_at hl 0 rfl) ?_
          refine j7_read hx hb hown hK (C := RX4) (T := TX4) (N := 12) rfl hly_6_9 hlk_33 (hh_1.at 0 rfl) dX4_isWord_24 ?_
          refine lv_aload_n hx hb dX4_isWord_27 rfl (lv_at hl 0 rfl) ?_
          refine j7_read hx hb hown hK (C := RX4) (T := TX4) (N := 12) rfl hly_6_11 hlk_47 (hh_1.at 2 rfl) dX4_isWord_28 ?_
          refine lv_iload_n hx hb dX4_isWord_31 rfl (lv_at hl 2 rfl) ?_
          refine lv_iadd hx hb dX4_isWord_32 ?_
          refine lv_topi (fun z_9 ez_9 => ?_)
          have hz_9 : z_9.toInt = pt.toInt + v2_1.toInt := by rw [ez_9]; exact jb_iadd2 (rfl) (rfl) (by omega)
          refine j7_baldM hx hb hK hh_1 hB100 0 rfl (by decide) hg_rb (x := z_9.toInt) (rfl) (by omega) (j := 0) rfl dX4_isWord_33 (fun z_10 ez_10 (hz_10 : True) => ?_)
          have hqz_10 : z_10.toInt = jSo fb ((pt.toInt + v2_1.toInt)) := by unfold jSo; rw [ez_10, show z_9.toInt = (pt.toInt + v2_1.toInt) by omega]
          refine lv_aload_n hx hb dX4_isWord_34 rfl (lv_at hl 1 rfl) ?_
          refine lv_iload_n hx hb dX4_isWord_35 rfl (lv_at hl 2 rfl) ?_
          refine vp_callSi (W.runV (As := [.int v2_1]) (rest := [.int z_10]) ⟨hx, hb, hml, hown, hts⟩ (eJ0_charAt_5068e l dC dI ca base H_1 r1 n1 f1 v2_1) (cwV 1 hts (jgV (jWr_21 _ (List.mem_of_getElem? (i := 0) rfl)) (jWr_6 _ (List.mem_of_getElem? (i := 1) rfl)) (jWr_6 _ (List.mem_of_getElem? (i := 2) rfl)) (jWr_5 _ (List.mem_of_getElem? (i := 15) rfl)) (jWr_6 _ (List.mem_of_getElem? (i := 3) rfl))) rfl rfl rfl (by decide +kernel) ⟨by rw [← hR]; exact Nat.le_of_ble_eq_true rfl, by rw [← hR]; exact Nat.le_of_ble_eq_true rfl⟩) ⟨fun a U g mk q => by obtain ⟨q0, q1, q2, qK, q9⟩ := q; exact ⟨q0, q1, (q2.moved (Vm.Alike.refl U.vm)), jG.calling g mk a qK, q9⟩, jStr_recv hstr_r1 hh_1.1, fun U hU hW => ⟨rfl, hU, (hstrF_r1.moved hW.alike).kept hh_1.1.2.1, hG.step hW hU hh_1.1, ⟨by omega, by omega, by omega⟩⟩⟩ rfl rfl hl.1 rfl (lv_room (Nat.le_of_ble_eq_true rfl)) dX4_isWord_36 ⟨Nat.zero_le _, Nat.zero_le _⟩) (fun r_11 hr_11 => ?_)
          refine lv_icmp_eq (tgt := 44) hx hb dX4_isWord_39 (by decide) (fun c_12 => ?_) (fun c_12 => ?_)
          · skip
            have c_12' : z_10.toInt = r_11.toInt := jb_eq (rfl) (rfl) c_12
            obtain ⟨z_13, ez_13⟩ : ∃ y : Int32, y = v2_1 + 1 := ⟨_, rfl⟩
            refine lv_iinc (v := z_13) (lv' := [(2, .int z_13), (0, .ref r0), (1, .ref r1)]) hx hb dX4_isWord_44 hl (k := 2) rfl (by rw [ez_13]; rfl) (by decide) rfl (fun ls hl => ?_)
            have hz_13 : z_13.toInt = v2_1.toInt + 1 := by rw [ez_13]; exact jb_iadd2 (rfl) (by decide) (by omega)
            refine lv_goto (tgt := 2) hx hb dX4_isWord_47 (by decide) ?_
            exact L2 z_13 _ _ hh_1 (by refine ⟨by omega, by omega, by omega, ?_⟩; rw [show (z_13).toInt.toNat = v2_1.toInt.toNat + 1 by omega, show n1 - (v2_1.toInt.toNat + 1) = n1 - v2_1.toInt.toNat - 1 by omega]; exact (jjWf_y (by omega) (by rw [show pt.toInt + ((v2_1.toInt.toNat : Nat) : Int) = pt.toInt + v2_1.toInt by omega]; unfold jB8; have h8 := hqz_10; have h7 := congrArg Int32.toInt hr_11; have h6 := hp9 v2_1.toInt.toNat (by omega); have h5 := hp8 (pt.toInt + v2_1.toInt) (by omega) (by omega); omega) (by omega)).trans hi_1_3) (by omega) _ (lv_sub hl [1, 2, 0] rfl)
          · skip
            have c_12' : z_10.toInt ≠ r_11.toInt := jb_eq_n (rfl) (rfl) c_12
            refine lv_iconst (v := 0) hx hb dX4_isWord_42 (by decide) ?_
            rw [hQ]
            exact W.zret (v := 0) hx hb hr (jb_nz (Or.inl rfl)) (fun t ht hW => ⟨⟨0, pt, rfl, ⟨(Or.inl rfl), by (try dsimp only); refine ⟨?_, by omega⟩; exact hk0.trans ((jjWf_n (Or.inr (fun h4 => by have h3 := h4; have h8 := hqz_10; have h7 := congrArg Int32.toInt hr_11; have h6 := hp9 v2_1.toInt.toNat (by omega); have h5 := hp8 (pt.toInt + v2_1.toInt) (by omega) (by omega); rw [show pt.toInt + ((v2_1.toInt.toNat : Nat) : Int) = pt.toInt + v2_1.toInt by omega] at h3; unfold jB8 at h3; omega)) (by omega)).symm.trans hi_1_3)⟩, hh_1.rt (M1 := [(r0, 6, 11, .int pt)]) [2] rfl ht⟩, by rw [ht]; try exact hh_1.1.1, fun q h9 hq => by rw [ht]; try exact hh_1.1.2.1 q h9 hq⟩) hh_1.1.2.2 dX4_isWord_43
  exact L2 (n1 - (0 : Int32).toInt : Int).toNat.succ 0 _ _ hh (by refine ⟨by omega, by omega, by omega, ?_⟩; rw [hk0]; rfl) (by omega) _ (lv_sub hl [1, 2, 0] rfl)
set_option maxHeartbeats 4000000 in
set_option maxRecDepth 20000 in
theorem uX4_isColonJ (l : Launch) (dC : Nat → ClassId) (dI : Nat → Nat → Nat) (ca : Nat → ClassId) (base : Nat) (B : jF) (hB : jBok B) (hAp : jAp (dC, dI)) (hB6 : ∀ n G a H, B 6 n G a H ↔ jOb (dC, dI) 6 12 (F6 n G) a H) (hB100 : ∀ n G a H, B 100 n G a H ↔ jAr (dC, dI) (ca 0) (fun j z => True) n a H) (G0 : jT) (H0 : Heap) (r0 : Nat) (rb : Nat) (n_rb : Nat) (pe : Int32) (pt : Int32) (fb : Nat → Int32) : Met l yX4_isColon (jw yX4_isColon cX4_isColon 2 (some .boolean)) ({ frames := 2, cells := 0, slots := 0, locals := 40 }) (va_Pc [.ref r0] (fun U => U.heap = H0 ∧ jX B base G0 [] H0 ∧ jG dC dI ca base U ∧ G0 r0 = some (6, 0) ∧ G0 rb = some (100, n_rb) ∧ jP (dC, dI) G0 H0 [(r0, 6, 9, .ref rb), (r0, 6, 10, .int pe), (r0, 6, 11, .int pt)] ∧ jMc (dC, dI) G0 H0 [(rb, 100, n_rb, ca 0, fb)] ∧ 0 ≤ pe.toInt ∧ pe.toInt ≤ n_rb ∧ n_rb ≤ 3000 ∧ 0 ≤ pt.toInt ∧ pt.toInt ≤ 19000 ∧ pt.toInt ≤ pe.toInt)) (va_Qi (S := Int32) (fun r u => (r = 0 ∨ r = 1) ∧ (u.toInt = jjSk (jB8 fb) pe.toInt (jjSk (jB8 fb) pe.toInt pt.toInt + 1) ∧ ((r.toInt = 1 ∧ jjK (jB8 fb) pe.toInt (jjSk (jB8 fb) pe.toInt pt.toInt) = 58) ∨ (r.toInt = 0 ∧ jjK (jB8 fb) pe.toInt (jjSk (jB8 fb) pe.toInt pt.toInt) ≠ 58)) ∧ pt.toInt + 1 ≤ u.toInt ∧ u.toInt ≤ pe.toInt + 1 - r.toInt)) (fun u t => jRt (dC, dI) B base G0 EX4_isColonJ H0 [(r0, 6, 11, .int u)] t.heap) (jA base)) 0 0 (jA base) := by
  refine Met.ofW (cc := cX4_isColon) (maxL := 2) (ret := (some .boolean)) (by decide) rfl ?_
  intro p e s m args below meth c s₁ Bd hml hv
  obtain ⟨rfl, hH0, hX, hG, hg_r0, hg_rb, hP0, hM0, hp0, hp1, hp2, hp3, hp4, hp5⟩ := hv
  have hK := hG.1
  have hx := Bd.exec
  have hb := Bd.bytes
  have hr := Bd.returns
  have hts := atoms_spec (ws := (jw yX4_isColon cX4_isColon 2 (some .boolean))) Bd.pre
  have htw : ∀ w ∈ jWl, w.before _ s = true := fun w h => hts w (List.mem_cons_of_mem _ h)
  have hown : s.vm.findClass RX4 = some m.cls := findClass_of_methodNamed Bd.named
  have hlocks := Bd.notSynchronized
  obtain ⟨Q, hQ⟩ : ∃ Q, Q = MQ below (va_Qi (S := Int32) (fun r u => (r = 0 ∨ r = 1) ∧ (u.toInt = jjSk (jB8 fb) pe.toInt (jjSk (jB8 fb) pe.toInt pt.toInt + 1) ∧ ((r.toInt = 1 ∧ jjK (jB8 fb) pe.toInt (jjSk (jB8 fb) pe.toInt pt.toInt) = 58) ∨ (r.toInt = 0 ∧ jjK (jB8 fb) pe.toInt (jjSk (jB8 fb) pe.toInt pt.toInt) ≠ 58)) ∧ pt.toInt + 1 ≤ u.toInt ∧ u.toInt ≤ pe.toInt + 1 - r.toInt)) (fun u t => jRt (dC, dI) B base G0 EX4_isColonJ H0 [(r0, 6, 11, .int u)] t.heap) (jA base)) ([.ref r0] : List Value).toArray s 0 0 (jA base) := ⟨_, rfl⟩
  rw [← hQ]
  have hl := lv_entry ([.ref r0]) (n := 2) (Nat.le_of_ble_eq_true rfl)
  rw [lg_entry_eq]
  generalize (lg_sl ([.ref r0]) ++ List.replicate (2 - (lg_sl ([.ref r0])).length) Slot.unset).toArray = ls at hl ⊢
  have hl : lv_has ls 2 [(0, .ref r0)] := hl
  generalize hR : (headSpec (jw yX4_isColon cX4_isColon 2 (some .boolean)) ({ frames := 2, cells := 0, slots := 0, locals := 40 })).room = R
  subst hH0
  have hh : jSt (dC, dI) B base G0 G0 EX4_isColonJ s.heap 0 0 [(r0, 6, 9, .ref rb), (r0, 6, 10, .int pe), (r0, 6, 11, .int pt)] [(rb, 100, n_rb, ca 0, fb)] [] s.heap [] := jSt.start hX hP0 hM0 jIs.nil
  clear hX hP0
  have hk0 : (0 : Int32).toInt = 0 := by decide
  have hk1 : (1 : Int32).toInt = 1 := by decide
  have hk58 : (58 : Int32).toInt = 58 := by decide
  have hly_6_11 := htw (u_lay RX4 TX4 11) (jWc_wsX40 _ (u_in_lay (by decide)))
  have hlk_47 := (htw (.fieldLink RX4 47 "ProofServer$Json" "at" "I") (jWr_19 _ (List.mem_of_getElem? (i := 12) rfl)))
  refine lv_aload_n hx hb dX4_isColon_0 rfl (lv_at hl 0 rfl) ?_
  refine va_callv (A0 := jA base) (H0 := s.heap) (va_runV (As := []) (rest := []) ⟨hx, hb, hml, hown, hts⟩ (uX4_skipBlanksJ l dC dI ca base B hB hAp hB6 hB100 G0 s.heap r0 rb n_rb pe pt pe.toInt fb) (cwV 0 hts (jgV (jWr_19 _ (List.mem_of_getElem? (i := 15) rfl)) (jWr_19 _ (List.mem_of_getElem? (i := 16) rfl)) (jWr_19 _ (List.mem_of_getElem? (i := 17) rfl)) (jWr_1 _ (List.mem_of_getElem? (i := 22) rfl)) (jWr_19 _ (List.mem_of_getElem? (i := 18) rfl))) rfl rfl rfl (by decide +kernel) ⟨by rw [← hR]; exact Nat.le_of_ble_eq_true rfl, by rw [← hR]; exact Nat.le_of_ble_eq_true rfl⟩) ⟨fun a U g mk q => by obtain ⟨q0, q1, q2, qK, q10, q11, q12, q13, q14⟩ := q; exact ⟨q0, q1, q2, jG.calling g mk a qK, q10, q11, q12, q13, q14⟩, hh.recv (C := RX4) (T := TX4) (N := 12) hB6 rfl (by decide) hg_r0 hK, fun U hU hW => ⟨rfl, hU, hh.2.1, hG.step hW hU hh.1, hg_r0, hg_rb, (hh.2.2.1.sub (L1 := [(r0, 6, 9, .ref rb), (r0, 6, 10, .int pe), (r0, 6, 11, .int pt)]) [0, 1, 2] rfl), (hh.2.2.2.2.2.2.2.1.sub (L1 := [(rb, 100, n_rb, ca 0, fb)]) [0] rfl), by first | omega | (refine ⟨?_, ?_, ?_, ?_, ?_, ?_, ?_, ?_⟩ <;> (first | omega | rfl | assumption | decide | exact Or.inl rfl | exact Or.inr rfl | (simp only; omega)))⟩⟩ rfl rfl hl.1 rfl (lv_room (Nat.le_of_ble_eq_true rfl)) dX4_isColon_1 ⟨Nat.zero_le _, Nat.zero_le _⟩) hh.1 (fun q _ h => h) (fun q h => h) (fun u_1 t_1 H_1 locs_1 ht_1 hvm_1 hr_2 hb_1 hz_1 hk_1 hS_1 => ?_)
  obtain ⟨qt_1, rfl⟩ : ∃ z, z = u_1 := ⟨_, rfl⟩
  rw [ht_1] at hb_1
  obtain ⟨hb_11, hb_12, hb_13, hb_14, hb_15⟩ := hb_1
  have hh_1 : jSt (dC, dI) B base G0 G0 EX4_isColonJ s.heap 0 0 [(r0, 6, 11, .int qt_1), (r0, 6, 9, .ref rb), (r0, 6, 10, .int pe)] [(rb, 100, n_rb, ca 0, fb)] [] H_1 locs_1 := ((hh.call hb_11 hb_12 hb_13 hb_14 hS_1 rfl (L1 := [(r0, 6, 9, .ref rb), (r0, 6, 10, .int pe)]) [0, 1] rfl rfl (M1 := [(rb, 100, n_rb, ca 0, fb)]) [0] rfl rfl (I1 := []) [] rfl rfl).more hb_15)
  clear hh ht_1 hvm_1 hz_1 hk_1 hS_1 hb_11 hb_12 hb_13 hb_14 hb_15
  obtain ⟨hr_2_0, hr_2_1, hr_2_2⟩ := hr_2
  refine lv_aload_n hx hb dX4_isColon_4 rfl (lv_at hl 0 rfl) ?_
  refine va_calli (A0 := jA base) (H0 := s.heap) (va_runV (As := []) (rest := []) ⟨hx, hb, hml, hown, hts⟩ (uX4_peekJ l dC dI ca base B hB hAp hB6 hB100 G0 H_1 r0 rb n_rb pe qt_1 fb) (cwV 0 hts (jgV (jWr_19 _ (List.mem_of_getElem? (i := 19) rfl)) (jWr_19 _ (List.mem_of_getElem? (i := 20) rfl)) (jWr_19 _ (List.mem_of_getElem? (i := 21) rfl)) (jWr_1 _ (List.mem_of_getElem? (i := 22) rfl)) (jWr_19 _ (List.mem_of_getElem? (i := 22) rfl))) rfl rfl rfl (by decide +kernel) ⟨by rw [← hR]; exact Nat.le_of_ble_eq_true rfl, by rw [← hR]; exact Nat.le_of_ble_eq_true rfl⟩) ⟨fun a U g mk q => by obtain ⟨q0, q1, q2, qK, q10, q11, q12, q13, q14⟩ := q; exact ⟨q0, q1, q2, jG.calling g mk a qK, q10, q11, q12, q13, q14⟩, hh_1.recv (C := RX4) (T := TX4) (N := 12) hB6 rfl (by decide) hg_r0 hK, fun U hU hW => ⟨rfl, hU, hh_1.2.1, hG.step hW hU hh_1.1, hg_r0, hg_rb, (hh_1.2.2.1.sub (L1 := [(r0, 6, 9, .ref rb), (r0, 6, 10, .int pe), (r0, 6, 11, .int qt_1)]) [1, 2, 0] rfl), (hh_1.2.2.2.2.2.2.2.1.sub (L1 := [(rb, 100, n_rb, ca 0, fb)]) [0] rfl), by first | omega | (refine ⟨?_, ?_, ?_, ?_, ?_⟩ <;> (first | omega | rfl | assumption | decide | exact Or.inl rfl | exact Or.inr rfl | (simp only; omega)))⟩⟩ rfl rfl hl.1 rfl (lv_room (Nat.le_of_ble_eq_true rfl)) dX4_isColon_5 ⟨Nat.zero_le _, Nat.zero_le _⟩) hh_1.1 (fun q _ h => h) (fun q h => h) (fun r_4 u_3 t_3 H_3 locs_3 ht_3 hvm_3 hr_4 hb_3 hz_3 hk_3 hS_3 => ?_)
  rw [ht_3] at hb_3
  obtain ⟨hb_31, hb_32, hb_33, hb_34, hb_35⟩ := hb_3
  have hh_3 : jSt (dC, dI) B base G0 G0 EX4_isColonJ s.heap 0 0 [(r0, 6, 11, .int qt_1), (r0, 6, 9, .ref rb), (r0, 6, 10, .int pe)] [(rb, 100, n_rb, ca 0, fb)] [] H_3 locs_3 := ((hh_1.call hb_31 hb_32 hb_33 hb_34 hS_3 rfl (L1 := [(r0, 6, 11, .int qt_1), (r0, 6, 9, .ref rb), (r0, 6, 10, .int pe)]) [0, 1, 2] rfl rfl (M1 := [(rb, 100, n_rb, ca 0, fb)]) [0] rfl rfl (I1 := []) [] rfl rfl).more hb_35)
  clear hh_1 ht_3 hvm_3 hz_3 hk_3 hS_3 hb_31 hb_32 hb_33 hb_34 hb_35
  obtain ⟨hr_4_0, hr_4_1, hr_4_2⟩ := hr_4
  refine lv_bipush (v := 58) hx hb dX4_isColon_8 (by decide) ?_
  refine lv_icmp_ne (tgt := 17) hx hb dX4_isColon_10 (by decide) (fun c_5 => ?_) (fun c_5 => ?_)
  · skip
    have c_5' : r_4.toInt ≠ 58 := jb_ne (rfl) ((by decide)) c_5
    refine lv_iconst (v := 0) hx hb dX4_isColon_17 (by decide) ?_
    refine lv_istore_n (lv' := [(1, .int 0), (0, .ref r0)]) hx hb dX4_isColon_18 rfl hl (by decide) rfl (fun ls hl => ?_)
    refine lv_aload_n hx hb dX4_isColon_19 rfl (lv_at hl 1 rfl) ?_
    refine lv_dup hx hb dX4_isColon_20 rfl ?_
    refine j7_read hx hb hown hK (C := RX4) (T := TX4) (N := 12) rfl hly_6_11 hlk_47 (hh_3.at 0 rfl) dX4_isColon_21 ?_
    refine lv_iconst (v := 1) hx hb dX4_isColon_24 (by decide) ?_
    refine lv_iadd hx hb dX4_isColon_25 ?_
    refine lv_topi (fun z_6 ez_6 => ?_)
    have hz_6 : z_6.toInt = qt_1.toInt + 1 := by rw [ez_6]; exact jb_iadd2 (rfl) ((by decide)) (by omega)
    refine j7_put hx hb hown hK hh_3 hB hAp hB6 (C := RX4) (T := TX4) (N := 12) rfl (by decide) hg_r0 (i := 11) (by decide) hly_6_11 rfl hlk_47 rfl (ty := .int) (v := .int z_6) (by decide +kernel) rfl rfl (⟨_, rfl, by omega, by omega⟩) rfl (L1 := [(r0, 6, 9, .ref rb), (r0, 6, 10, .int pe)]) [1, 2] rfl rfl rfl dX4_isColon_26 (fun H_7 locs_7 hh_7 => ?_)
    clear hh_3
    refine lv_aload_n hx hb dX4_isColon_29 rfl (lv_at hl 1 rfl) ?_
    refine va_callv (A0 := jA base) (H0 := s.heap) (va_runV (As := []) (rest := []) ⟨hx, hb, hml, hown, hts⟩ (uX4_skipBlanksJ l dC dI ca base B hB hAp hB6 hB100 G0 H_7 r0 rb n_rb pe z_6 (pe.toInt + 1 - 0) fb) (cwV 0 hts (jgV (jWr_19 _ (List.mem_of_getElem? (i := 15) rfl)) (jWr_19 _ (List.mem_of_getElem? (i := 16) rfl)) (jWr_19 _ (List.mem_of_getElem? (i := 17) rfl)) (jWr_1 _ (List.mem_of_getElem? (i := 22) rfl)) (jWr_19 _ (List.mem_of_getElem? (i := 18) rfl))) rfl rfl rfl (by decide +kernel) ⟨by rw [← hR]; exact Nat.le_of_ble_eq_true rfl, by rw [← hR]; exact Nat.le_of_ble_eq_true rfl⟩) ⟨fun a U g mk q => by obtain ⟨q0, q1, q2, qK, q10, q11, q12, q13, q14⟩ := q; exact ⟨q0, q1, q2, jG.calling g mk a qK, q10, q11, q12, q13, q14⟩, hh_7.recv (C := RX4) (T := TX4) (N := 12) hB6 rfl (by decide) hg_r0 hK, fun U hU hW => ⟨rfl, hU, hh_7.2.1, hG.step hW hU hh_7.1, hg_r0, hg_rb, (hh_7.2.2.1.sub (L1 := [(r0, 6, 9, .ref rb), (r0, 6, 10, .int pe), (r0, 6, 11, .int z_6)]) [1, 2, 0] rfl), (hh_7.2.2.2.2.2.2.2.1.sub (L1 := [(rb, 100, n_rb, ca 0, fb)]) [0] rfl), by first | omega | (refine ⟨?_, ?_, ?_, ?_, ?_, ?_, ?_, ?_⟩ <;> (first | omega | rfl | assumption | decide | exact Or.inl rfl | exact Or.inr rfl | (simp only; omega)))⟩⟩ rfl rfl hl.1 rfl (lv_room (Nat.le_of_ble_eq_true rfl)) dX4_isColon_30 ⟨Nat.zero_le _, Nat.zero_le _⟩) hh_7.1 (fun q _ h => h) (fun q h => h) (fun u_8 t_8 H_8 locs_8 ht_8 hvm_8 hr_9 hb_8 hz_8 hk_8 hS_8 => ?_)
    obtain ⟨qt_8, rfl⟩ : ∃ z, z = u_8 := ⟨_, rfl⟩
    rw [ht_8] at hb_8
    obtain ⟨hb_81, hb_82, hb_83, hb_84, hb_85⟩ := hb_8
    have hh_8 : jSt (dC, dI) B base G0 G0 EX4_isColonJ s.heap 0 0 [(r0, 6, 11, .int qt_8), (r0, 6, 9, .ref rb), (r0, 6, 10, .int pe)] [(rb, 100, n_rb, ca 0, fb)] [] H_8 locs_8 := ((hh_7.call hb_81 hb_82 hb_83 hb_84 hS_8 rfl (L1 := [(r0, 6, 9, .ref rb), (r0, 6, 10, .int pe)]) [1, 2] rfl rfl (M1 := [(rb, 100, n_rb, ca 0, fb)]) [0] rfl rfl (I1 := []) [] rfl rfl).more hb_85)
    clear hh_7 ht_8 hvm_8 hz_8 hk_8 hS_8 hb_81 hb_82 hb_83 hb_84 hb_85
    obtain ⟨hr_9_0, hr_9_1, hr_9_2⟩ := hr_9
    refine lv_iload_n hx hb dX4_isColon_33 rfl (lv_at hl 0 rfl) ?_
    rw [hQ]
    exact W.zret (v := 0) hx hb hr (jb_nz (Or.inl rfl)) (fun t ht hW => ⟨⟨0, qt_8, rfl, ⟨(Or.inl rfl), by (try dsimp only); refine ⟨hr_9_0.trans (by rw [show z_6.toInt = jjSk (jB8 fb) pe.toInt pt.toInt + 1 by omega]), ?_, by omega, by omega⟩; rw [← hr_2_0, ← hr_4_0]; omega⟩, hh_8.rt (M1 := [(r0, 6, 11, .int qt_8)]) [0] rfl ht⟩, by rw [ht]; try exact hh_8.1.1, fun q h9 hq => by rw [ht]; try exact hh_8.1.2.1 q h9 hq⟩) hh_8.1.2.2 dX4_isColon_34
  · skip
    have c_5' : r_4.toInt = 58 := jb_ne_n (rfl) ((by decide)) c_5
    have hlt9 := jjK.lt hr_4_0 (by omega)
    refine lv_iconst (v := 1) hx hb dX4_isColon_13 (by decide) ?_
    refine lv_goto (tgt := 18) hx hb dX4_isColon_14 (by decide) ?_
    refine lv_istore_n (lv' := [(1, .int 1), (0, .ref r0)]) hx hb dX4_isColon_18 rfl hl (by decide) rfl (fun ls hl => ?_)
    refine lv_aload_n hx hb dX4_isColon_19 rfl (lv_at hl 1 rfl) ?_
    refine lv_dup hx hb dX4_isColon_20 rfl ?_
    refine j7_read hx hb hown hK (C := RX4) (T := TX4) (N := 12) rfl hly_6_11 hlk_47 (hh_3.at 0 rfl) dX4_isColon_21 ?_
    refine lv_iconst (v := 1) hx hb dX4_isColon_24 (by decide) ?_
    refine lv_iadd hx hb dX4_isColon_25 ?_
    refine lv_topi (fun z_10 ez_10 => ?_)
    have hz_10 : z_10.toInt = qt_1.toInt + 1 := by rw [ez_10]; exact jb_iadd2 (rfl) ((by decide)) (by omega)
    refine j7_put hx hb hown hK hh_3 hB hAp hB6 (C := RX4) (T := TX4) (N := 12) rfl (by decide) hg_r0 (i := 11) (by decide) hly_6_11 rfl hlk_47 rfl (ty := .int) (v := .int z_10) (by decide +kernel) rfl rfl (⟨_, rfl, by omega, by omega⟩) rfl (L1 := [(r0, 6, 9, .ref rb), (r0, 6, 10, .int pe)]) [1, 2] rfl rfl rfl dX4_isColon_26 (fun H_11 locs_11 hh_11 => ?_)
    clear hh_3
    refine lv_aload_n hx hb dX4_isColon_29 rfl (lv_at hl 1 rfl) ?_
    refine va_callv (A0 := jA base) (H0 := s.heap) (va_runV (As := []) (rest := []) ⟨hx, hb, hml, hown, hts⟩ (uX4_skipBlanksJ l dC dI ca base B hB hAp hB6 hB100 G0 H_11 r0 rb n_rb pe z_10 (pe.toInt + 1 - 1) fb) (cwV 0 hts (jgV (jWr_19 _ (List.mem_of_getElem? (i := 15) rfl)) (jWr_19 _ (List.mem_of_getElem? (i := 16) rfl)) (jWr_19 _ (List.mem_of_getElem? (i := 17) rfl)) (jWr_1 _ (List.mem_of_getElem? (i := 22) rfl)) (jWr_19 _ (List.mem_of_getElem? (i := 18) rfl))) rfl rfl rfl (by decide +kernel) ⟨by rw [← hR]; exact Nat.le_of_ble_eq_true rfl, by rw [← hR]; exact Nat.le_of_ble_eq_true rfl⟩) ⟨fun a U g mk q => by obtain ⟨q0, q1, q2, qK, q10, q11, q12, q13, q14⟩ := q; exact ⟨q0, q1, q2, jG.calling g mk a qK, q10, q11, q12, q13, q14⟩, hh_11.recv (C := RX4) (T := TX4) (N := 12) hB6 rfl (by decide) hg_r0 hK, fun U hU hW => ⟨rfl, hU, hh_11.2.1, hG.step hW hU hh_11.1, hg_r0, hg_rb, (hh_11.2.2.1.sub (L1 := [(r0, 6, 9, .ref rb), (r0, 6, 10, .int pe), (r0, 6, 11, .int z_10)]) [1, 2, 0] rfl), (hh_11.2.2.2.2.2.2.2.1.sub (L1 := [(rb, 100, n_rb, ca 0, fb)]) [0] rfl), by first | omega | (refine ⟨?_, ?_, ?_, ?_, ?_, ?_, ?_, ?_⟩ <;> (first | omega | rfl | assumption | decide | exact Or.inl rfl | exact Or.inr rfl | (simp only; omega)))⟩⟩ rfl rfl hl.1 rfl (lv_room (Nat.le_of_ble_eq_true rfl)) dX4_isColon_30 ⟨Nat.zero_le _, Nat.zero_le _⟩) hh_11.1 (fun q _ h => h) (fun q h => h) (fun u_12 t_12 H_12 locs_12 ht_12 hvm_12 hr_13 hb_12 hz_12 hk_12 hS_12 => ?_)
    obtain ⟨qt_12, rfl⟩ : ∃ z, z = u_12 := ⟨_, rfl⟩
    rw [ht_12] at hb_12
    obtain ⟨hb_121, hb_122, hb_123, hb_124, hb_125⟩ := hb_12
    have hh_12 : jSt (dC, dI) B base G0 G0 EX4_isColonJ s.heap 0 0 [(r0, 6, 11, .int qt_12), (r0, 6, 9, .ref rb), (r0, 6, 10, .int pe)] [(rb, 100, n_rb, ca 0, fb)] [] H_12 locs_12 := ((hh_11.call hb_121 hb_122 hb_123 hb_124 hS_12 rfl (L1 := [(r0, 6, 9, .ref rb), (r0, 6, 10, .int pe)]) [1, 2] rfl rfl (M1 := [(rb, 100, n_rb, ca 0, fb)]) [0] rfl rfl (I1 := []) [] rfl rfl).more hb_125)
    clear hh_11 ht_12 hvm_12 hz_12 hk_12 hS_12 hb_121 hb_122 hb_123 hb_124 hb_125
    obtain ⟨hr_13_0, hr_13_1, hr_13_2⟩ := hr_13
    refine lv_iload_n hx hb dX4_isColon_33 rfl (lv_at hl 0 rfl) ?_
    rw [hQ]
    exact W.zret (v := 1) hx hb hr (jb_nz (Or.inr rfl)) (fun t ht hW => ⟨⟨1, qt_12, rfl, ⟨(Or.inr rfl), by (try dsimp only); refine ⟨hr_13_0.trans (by rw [show z_10.toInt = jjSk (jB8 fb) pe.toInt pt.toInt + 1 by omega]), ?_, by omega, by omega⟩; rw [← hr_2_0, ← hr_4_0]; omega⟩, hh_12.rt (M1 := [(r0, 6, 11, .int qt_12)]) [0] rfl ht⟩, by rw [ht]; try exact hh_12.1.1, fun q h9 hq => by rw [ht]; try exact hh_12.1.2.1 q h9 hq⟩) hh_12.1.2.2 dX4_isColon_34
set_option maxHeartbeats 4000000 in
set_option maxRecDepth 20000 in
theorem uX4_fourDigitsJ (l : Launch) (dC : Nat → ClassId) (dI : Nat → Nat → Nat) (ca : Nat → ClassId) (base : Nat) (B : jF) (hB : jBok B) (hAp : jAp (dC, dI)) (hB6 : ∀ n G a H, B 6 n G a H ↔ jOb (dC, dI) 6 12 (F6 n G) a H) (hB100 : ∀ n G a H, B 100 n G a H ↔ jAr (dC, dI) (ca 0) (fun j z => True) n a H) (G0 : jT) (H0 : Heap) (r0 : Nat) (rb : Nat) (n_rb : Nat) (pe : Int32) (pt : Int32) (fb : Nat → Int32) : Met l yX4_fourDigits (jw yX4_fourDigits cX4_fourDigits 6 (some .int)) ({ frames := 0, cells := 0, slots := 0, locals := 0 }) (va_Pc [.ref r0] (fun U => U.heap = H0 ∧ jX B base G0 [] H0 ∧ jG dC dI ca base U ∧ G0 r0 = some (6, 0) ∧ G0 rb = some (100, n_rb) ∧ jP (dC, dI) G0 H0 [(r0, 6, 9, .ref rb), (r0, 6, 10, .int pe), (r0, 6, 11, .int pt)] ∧ jMc (dC, dI) G0 H0 [(rb, 100, n_rb, ca 0, fb)] ∧ 0 ≤ pe.toInt ∧ pe.toInt ≤ n_rb ∧ n_rb ≤ 3000 ∧ 0 ≤ pt.toInt ∧ pt.toInt ≤ 19000 ∧ pt.toInt ≤ pe.toInt ∧ jjFt fb pe.toInt)) (va_Qi (S := Int32) (fun r u => (r.toInt = jjF (jB8 fb) pe.toInt 4 pt.toInt 0 ∧ -1 ≤ r.toInt ∧ r.toInt ≤ 65535 ∧ pt.toInt ≤ u.toInt ∧ u.toInt ≤ pe.toInt ∧ (r.toInt = -1 ∨ u.toInt = pt.toInt + 4))) (fun u t => jRt (dC, dI) B base G0 EX4_fourDigitsJ H0 [(r0, 6, 11, .int u)] t.heap) (jA base)) 0 0 (jA base) := by
  refine Met.ofW (cc := cX4_fourDigits) (maxL := 6) (ret := (some .int)) (by decide) rfl ?_
  intro p e s m args below meth c s₁ Bd hml hv
  obtain ⟨rfl, hH0, hX, hG, hg_r0, hg_rb, hP0, hM0, hp0, hp1, hp2, hp3, hp4, hp5, hp6⟩ := hv
  have hK := hG.1
  have hx := Bd.exec
  have hb := Bd.bytes
  have hr := Bd.returns
  have hts := atoms_spec (ws := (jw yX4_fourDigits cX4_fourDigits 6 (some .int))) Bd.pre
  have htw : ∀ w ∈ jWl, w.before _ s = true := fun w h => hts w (List.mem_cons_of_mem _ h)
  have hown : s.vm.findClass RX4 = some m.cls := findClass_of_methodNamed Bd.named
  have hlocks := Bd.notSynchronized
  obtain ⟨Q, hQ⟩ : ∃ Q, Q = MQ below (va_Qi (S := Int32) (fun r u => (r.toInt = jjF (jB8 fb) pe.toInt 4 pt.toInt 0 ∧ -1 ≤ r.toInt ∧ r.toInt ≤ 65535 ∧ pt.toInt ≤ u.toInt ∧ u.toInt ≤ pe.toInt ∧ (r.toInt = -1 ∨ u.toInt = pt.toInt + 4))) (fun u t => jRt (dC, dI) B base G0 EX4_fourDigitsJ H0 [(r0, 6, 11, .int u)] t.heap) (jA base)) ([.ref r0] : List Value).toArray s 0 0 (jA base) := ⟨_, rfl⟩
  rw [← hQ]
  have hl := lv_entry ([.ref r0]) (n := 6) (Nat.le_of_ble_eq_true rfl)
  rw [lg_entry_eq]
  generalize (lg_sl ([.ref r0]) ++ List.replicate (6 - (lg_sl ([.ref r0])).length) Slot.unset).toArray = ls at hl ⊢
  have hl : lv_has ls 6 [(0, .ref r0)] := hl
  generalize hR : (headSpec (jw yX4_fourDigits cX4_fourDigits 6 (some .int)) ({ frames := 0, cells := 0, slots := 0, locals := 0 })).room = R
  subst hH0
  have hh : jSt (dC, dI) B base G0 G0 EX4_fourDigitsJ s.heap 0 0 [(r0, 6, 9, .ref rb), (r0, 6, 10, .int pe), (r0, 6, 11, .int pt)] [(rb, 100, n_rb, ca 0, fb)] [] s.heap [] := jSt.start hX hP0 hM0 jIs.nil
  clear hX hP0
  have hkm1 : ((-1) : Int32).toInt = (-1) := by decide
  have hk0 : (0 : Int32).toInt = 0 := by decide
  have hk1 : (1 : Int32).toInt = 1 := by decide
  have hk4 : (4 : Int32).toInt = 4 := by decide
  have hk10 : (10 : Int32).toInt = 10 := by decide
  have hk32 : (32 : Int32).toInt = 32 := by decide
  have hk48 : (48 : Int32).toInt = 48 := by decide
  have hk57 : (57 : Int32).toInt = 57 := by decide
  have hk65 : (65 : Int32).toInt = 65 := by decide
  have hk70 : (70 : Int32).toInt = 70 := by decide
  have hk97 : (97 : Int32).toInt = 97 := by decide
  have hk102 : (102 : Int32).toInt = 102 := by decide
  have hly_6_9 := htw (u_lay RX4 TX4 9) (jWc_wsX40 _ (u_in_lay (by decide)))
  have hly_6_10 := htw (u_lay RX4 TX4 10) (jWc_wsX40 _ (u_in_lay (by decide)))
  have hly_6_11 := htw (u_lay RX4 TX4 11) (jWc_wsX40 _ (u_in_lay (by decide)))
  have hlk_47 := (htw (.fieldLink RX4 47 "ProofServer$Json" "at" "I") (jWr_19 _ (List.mem_of_getElem? (i := 12) rfl)))
  have hlk_43 := (htw (.fieldLink RX4 43 "ProofServer$Json" "end" "I") (jWr_19 _ (List.mem_of_getElem? (i := 11) rfl)))
  have hlk_33 := (htw (.fieldLink RX4 33 "ProofServer$Json" "bytes" "[B") (jWr_4 _ (List.mem_of_getElem? (i := 4) rfl)))
  refine lv_iconst (v := 0) hx hb dX4_fourDigits_0 (by decide) ?_
  refine lv_istore_n (lv' := [(1, .int 0), (0, .ref r0)]) hx hb dX4_fourDigits_1 rfl hl (by decide) rfl (fun ls hl => ?_)
  refine lv_iconst (v := 0) hx hb dX4_fourDigits_2 (by decide) ?_
  refine lv_istore_n (lv' := [(2, .int 0), (1, .int 0), (0, .ref r0)]) hx hb dX4_fourDigits_3 rfl hl (by decide) rfl (fun ls hl => ?_)
  have L4 : ∀ (N : Nat) (v1_1 : Int32) (v2_1 : Int32) (wt_1 : Int32) (H_1 : Heap) (locs_1 : List Loc), jSt (dC, dI) B base G0 G0 EX4_fourDigitsJ s.heap 0 0 [(r0, 6, 11, .int wt_1), (r0, 6, 9, .ref rb), (r0, 6, 10, .int pe)] [(rb, 100, n_rb, ca 0, fb)] [] H_1 locs_1 → (0 ≤ v2_1.toInt ∧ v2_1.toInt ≤ 4 ∧ wt_1.toInt = pt.toInt + v2_1.toInt ∧ wt_1.toInt ≤ pe.toInt ∧ jjFb v2_1.toInt v1_1.toInt ∧ jjF (jB8 fb) pe.toInt (4 - v2_1.toInt).toNat wt_1.toInt v1_1.toInt = jjF (jB8 fb) pe.toInt 4 pt.toInt 0) → (4 - v2_1.toInt : Int) < N → ∀ ls : Array Slot, lv_has ls 6 [(0, .ref r0), (1, .int v1_1), (2, .int v2_1)] → W p l e R s m ([.ref r0] : List Value).toArray below meth c H_1 locs_1 0 0 Q (F0 m 4 ls []) := by
    intro N
    induction N with
    | zero => intro v1_1 v2_1 wt_1 H_1 locs_1 hh_1  hi_1 hm; exact absurd hm (by omega)
    | succ N L4 =>
      intro v1_1 v2_1 wt_1 H_1 locs_1 hh_1  hi_1 hm_1 ls hl
      obtain ⟨hi_1_0, hi_1_1, hi_1_2, hi_1_3, hi_1_4, hi_1_5⟩ := hi_1
      refine lv_iload_n hx hb dX4_fourDigits_4 rfl (lv_at hl 2 rfl) ?_
      refine lv_iconst (v := 4) hx hb dX4_fourDigits_5 (by decide) ?_
      refine lv_icmp_ge (tgt := 137) hx hb dX4_fourDigits_6 (by decide) (fun c_2 => ?_) (fun c_2 => ?_)
      · skip
        have c_2' : v2_1.toInt ≥ 4 := jb_ge (rfl) ((by decide)) c_2
        refine lv_iload_n hx hb dX4_fourDigits_137 rfl (lv_at hl 1 rfl) ?_
        rw [hQ]
        exact W.iret (v := v1_1) hx hb hr (fun t ht hW => ⟨⟨v1_1, wt_1, rfl, by (try dsimp only); have hr9 := hi_1_4.r; refine ⟨?_, by omega, by omega, by omega, by omega, by omega⟩; have h9 := hi_1_5; rw [show (4 - v2_1.toInt).toNat = 0 by omega] at h9; exact h9, hh_1.rt (M1 := [(r0, 6, 11, .int wt_1)]) [0] rfl ht⟩, by rw [ht]; try exact hh_1.1.1, fun q h9 hq => by rw [ht]; try exact hh_1.1.2.1 q h9 hq⟩) hh_1.1.2.2 dX4_fourDigits_138
      · skip
        have c_2' : v2_1.toInt < 4 := jb_ge_n (rfl) ((by decide)) c_2
        refine lv_aload_n hx hb dX4_fourDigits_9 rfl (lv_at hl 0 rfl) ?_
        refine j7_read hx hb hown hK (C := RX4) (T := TX4) (N := 12) rfl hly_6_11 hlk_47 (hh_1.at 0 rfl) dX4_fourDigits_10 ?_
        refine lv_aload_n hx hb dX4_fourDigits_13 rfl (lv_at hl 0 rfl) ?_
        refine j7_read hx hb hown hK (C := RX4) (T := TX4) (N := 12) rfl hly_6_10 hlk_43 (hh_1.at 2 rfl) dX4_fourDigits_14 ?_
        have C33 : ∀ (w0_3 : Int32) (H_3 : Heap) (locs_3 : List Loc), jSt (dC, dI) B base G0 G0 EX4_fourDigitsJ s.heap 0 0 [(r0, 6, 11, .int wt_1), (r0, 6, 9, .ref rb), (r0, 6, 10, .int pe)] [(rb, 100, n_rb, ca 0, fb)] [] H_3 locs_3 → (jjSb (jB8 fb) pe.toInt wt_1.toInt w0_3.toInt) → ∀ ls : Array Slot, lv_has ls 6 [(0, .ref r0), (1, .int v1_1), (2, .int v2_1)] → W p l e R s m ([.ref r0] : List Value).toArray below meth c H_3 locs_3 0 0 Q (F0 m 33 ls [.int w0_3]) := by
          intro w0_3 H_3 locs_3 hh_3  hi_3 ls hl
          refine lv_istore_n (lv' := [(3, .int w0_3), (0, .ref r0), (1, .int v1_1), (2, .int v2_1)]) hx hb dX4_fourDigits_33 rfl hl (by decide) rfl (fun ls hl => ?_)
          refine lv_iload_n hx hb dX4_fourDigits_34 rfl (lv_at hl 0 rfl) ?_
          refine lv_bipush (v := 65) hx hb dX4_fourDigits_35 (by decide) ?_
          have C54 : ∀ (w0_4 : Int32) (H_4 : Heap) (locs_4 : List Loc), jSt (dC, dI) B base G0 G0 EX4_fourDigitsJ s.heap 0 0 [(r0, 6, 11, .int wt_1), (r0, 6, 9, .ref rb), (r0, 6, 10, .int pe)] [(rb, 100, n_rb, ca 0, fb)] [] H_4 locs_4 → ((65 ≤ w0_3.toInt ∧ w0_3.toInt ≤ 70 ∧ w0_4.toInt = w0_3.toInt + 32) ∨ ((w0_3.toInt < 65 ∨ 70 < w0_3.toInt) ∧ w0_4.toInt = w0_3.toInt)) → ∀ ls : Array Slot, lv_has ls 6 [(0, .ref r0), (1, .int v1_1), (2, .int v2_1), (3, .int w0_3)] → W p l e R s m ([.ref r0] : List Value).toArray below meth c H_4 locs_4 0 0 Q (F0 m 54 ls [.int w0_4]) := by
            intro w0_4 H_4 locs_4 hh_4  hi_4 ls hl
            refine lv_istore (lv' := [(4, .int w0_4), (0, .ref r0), (1, .int v1_1), (2, .int v2_1), (3, .int w0_3)]) hx hb dX4_fourDigits_54 hl (by decide) rfl (fun ls hl => ?_)
            refine lv_iload hx hb dX4_fourDigits_56 (lv_at hl 0 rfl) ?_
            refine lv_bipush (v := 97) hx hb dX4_fourDigits_58 (by decide) ?_
            have C75 : ∀ (w0_5 : Int32) (H_5 : Heap) (locs_5 : List Loc), jSt (dC, dI) B base G0 G0 EX4_fourDigitsJ s.heap 0 0 [(r0, 6, 11, .int wt_1), (r0, 6, 9, .ref rb), (r0, 6, 10, .int pe)] [(rb, 100, n_rb, ca 0, fb)] [] H_5 locs_5 → (w0_5 = 0 ∨ w0_5 = 1) → ((w0_5.toInt = 1 ∧ 97 ≤ w0_4.toInt ∧ w0_4.toInt ≤ 102) ∨ (w0_5.toInt = 0 ∧ (w0_4.toInt < 97 ∨ 102 < w0_4.toInt))) → ∀ ls : Array Slot, lv_has ls 6 [(0, .ref r0), (1, .int v1_1), (2, .int v2_1), (3, .int w0_3), (4, .int w0_4)] → W p l e R s m ([.ref r0] : List Value).toArray below meth c H_5 locs_5 0 0 Q (F0 m 75 ls [.int w0_5]) := by
              intro w0_5 H_5 locs_5 hh_5 hb_w0_5 hi_5 ls hl
              have hb_w0_5' := jb_01 hb_w0_5
              refine lv_istore (lv' := [(5, .int w0_5), (0, .ref r0), (1, .int v1_1), (2, .int v2_1), (3, .int w0_3), (4, .int w0_4)]) hx hb dX4_fourDigits_75 hl (by decide) rfl (fun ls hl => ?_)
              refine lv_iload hx hb dX4_fourDigits_77 (lv_at hl 0 rfl) ?_
              refine lv_if_ne (tgt := 96) hx hb dX4_fourDigits_79 (by decide) (fun c_6 => ?_) (fun c_6 => ?_)
              · skip
                have c_6' : w0_5.toInt ≠ 0 := jb_ne (rfl) ((by decide)) c_6
                have hfr := hi_1_4.r
                refine lv_iload_n hx hb dX4_fourDigits_96 rfl (lv_at hl 2 rfl) ?_
                refine lv_iconst (v := 4) hx hb dX4_fourDigits_97 (by decide) ?_
                refine lv_ishl hx hb dX4_fourDigits_98 ?_
                refine lv_topi (fun z_7 ez_7 => ?_)
                have hbz_7 := jb_shlc 4 16 ez_7 (by decide) (by decide) (by omega) (by omega)
                refine lv_iload hx hb dX4_fourDigits_99 (lv_at hl 0 rfl) ?_
                refine lv_if_eq (tgt := 115) hx hb dX4_fourDigits_101 (by decide) (fun c_8 => ?_) (fun c_8 => ?_)
                · skip
                  have c_8' : w0_5.toInt = 0 := jb_eq (rfl) ((by decide)) c_8
                  exact (by omega : False).elim
                · skip
                  have c_8' : w0_5.toInt ≠ 0 := jb_eq_n (rfl) ((by decide)) c_8
                  refine lv_iload hx hb dX4_fourDigits_104 (lv_at hl 5 rfl) ?_
                  refine lv_bipush (v := 97) hx hb dX4_fourDigits_106 (by decide) ?_
                  refine lv_isub hx hb dX4_fourDigits_108 ?_
                  refine lv_topi (fun z_9 ez_9 => ?_)
                  have hz_9 : z_9.toInt = w0_4.toInt - 97 := by rw [ez_9]; exact jb_isub2 (rfl) ((by decide)) (by omega)
                  refine lv_bipush (v := 10) hx hb dX4_fourDigits_109 (by decide) ?_
                  refine lv_iadd hx hb dX4_fourDigits_111 ?_
                  refine lv_topi (fun z_10 ez_10 => ?_)
                  have hz_10 : z_10.toInt = z_9.toInt + 10 := by rw [ez_10]; exact jb_iadd2 (rfl) ((by decide)) (by omega)
                  refine lv_goto (tgt := 119) hx hb dX4_fourDigits_112 (by decide) ?_
                  refine lv_ior hx hb dX4_fourDigits_119 ?_
                  refine lv_topi (fun z_11 ez_11 => ?_)
                  have hlt9 : wt_1.toInt < pe.toInt := hi_3.lt (by omega)
                  have hz5 := jb_or16 ez_11 v1_1.toInt (by omega) (by omega) (by omega) (by omega) (by omega)
                  have hdx := hi_3.hx (d := z_11.toInt - 16 * v1_1.toInt) (by omega) (by omega)
                  refine lv_istore_n (lv' := [(1, .int z_11), (5, .int w0_5), (0, .ref r0), (2, .int v2_1), (3, .int w0_3), (4, .int w0_4)]) hx hb dX4_fourDigits_120 rfl hl (by decide) rfl (fun ls hl => ?_)
                  refine lv_aload_n hx hb dX4_fourDigits_121 rfl (lv_at hl 2 rfl) ?_
                  refine lv_dup hx hb dX4_fourDigits_122 rfl ?_
                  refine j7_read hx hb hown hK (C := RX4) (T := TX4) (N := 12) rfl hly_6_11 hlk_47 (hh_5.at 0 rfl) dX4_fourDigits_123 ?_
                  refine lv_iconst (v := 1) hx hb dX4_fourDigits_126 (by decide) ?_
                  refine lv_iadd hx hb dX4_fourDigits_127 ?_
                  refine lv_topi (fun z_12 ez_12 => ?_)
                  have hz_12 : z_12.toInt = wt_1.toInt + 1 := by rw [ez_12]; exact jb_iadd2 (rfl) ((by decide)) (by omega)
                  refine j7_put hx hb hown hK hh_5 hB hAp hB6 (C := RX4) (T := TX4) (N := 12) rfl (by decide) hg_r0 (i := 11) (by decide) hly_6_11 rfl hlk_47 rfl (ty := .int) (v := .int z_12) (by decide +kernel) rfl rfl (⟨_, rfl, by omega, by omega⟩) rfl (L1 := [(r0, 6, 9, .ref rb), (r0, 6, 10, .int pe)]) [1, 2] rfl rfl rfl dX4_fourDigits_128 (fun H_13 locs_13 hh_13 => ?_)
                  clear hh_5
                  obtain ⟨z_14, ez_14⟩ : ∃ y : Int32, y = v2_1 + 1 := ⟨_, rfl⟩
                  refine lv_iinc (v := z_14) (lv' := [(2, .int z_14), (1, .int z_11), (5, .int w0_5), (0, .ref r0), (3, .int w0_3), (4, .int w0_4)]) hx hb dX4_fourDigits_131 hl (k := 3) rfl (by rw [ez_14]; rfl) (by decide) rfl (fun ls hl => ?_)
                  have hz_14 : z_14.toInt = v2_1.toInt + 1 := by rw [ez_14]; exact jb_iadd2 (rfl) (by decide) (by omega)
                  refine lv_goto (tgt := 4) hx hb dX4_fourDigits_134 (by decide) ?_
                  exact L4 z_11 z_14 z_12 _ _ hh_13 (by refine ⟨by omega, by omega, by omega, by omega, hi_1_4.step (by omega) hdx.2.1 hdx.2.2 (by omega) (by omega), ?_⟩; rw [show (4 - (z_14).toInt).toNat = (4 - v2_1.toInt).toNat - 1 by omega]; exact (jjF_y rfl hdx.1 hdx.2.1 (by omega) (by omega) (by omega)).trans hi_1_5) (by omega) _ (lv_sub hl [3, 1, 0] rfl)
              · skip
                have c_6' : w0_5.toInt = 0 := jb_ne_n (rfl) ((by decide)) c_6
                refine lv_iload_n hx hb dX4_fourDigits_82 rfl (lv_at hl 4 rfl) ?_
                refine lv_bipush (v := 48) hx hb dX4_fourDigits_83 (by decide) ?_
                refine lv_icmp_lt (tgt := 94) hx hb dX4_fourDigits_85 (by decide) (fun c_15 => ?_) (fun c_15 => ?_)
                · skip
                  have c_15' : w0_3.toInt < 48 := jb_lt (rfl) ((by decide)) c_15
                  refine lv_iconst (v := (-1)) hx hb dX4_fourDigits_94 (by decide) ?_
                  rw [hQ]
                  exact W.iret (v := (-1)) hx hb hr (fun t ht hW => ⟨⟨(-1), wt_1, rfl, by (try dsimp only); refine ⟨?_, by omega, by omega, by omega, by omega, by omega⟩; exact hkm1.trans ((jjF_n rfl (hi_3.no (by omega) (by omega) (by omega)) (by omega)).symm.trans hi_1_5), hh_5.rt (M1 := [(r0, 6, 11, .int wt_1)]) [0] rfl ht⟩, by rw [ht]; try exact hh_5.1.1, fun q h9 hq => by rw [ht]; try exact hh_5.1.2.1 q h9 hq⟩) hh_5.1.2.2 dX4_fourDigits_95
                · skip
                  have c_15' : w0_3.toInt ≥ 48 := jb_lt_n (rfl) ((by decide)) c_15
                  refine lv_iload_n hx hb dX4_fourDigits_88 rfl (lv_at hl 4 rfl) ?_
                  refine lv_bipush (v := 57) hx hb dX4_fourDigits_89 (by decide) ?_
                  refine lv_icmp_le (tgt := 96) hx hb dX4_fourDigits_91 (by decide) (fun c_16 => ?_) (fun c_16 => ?_)
                  · skip
                    have c_16' : w0_3.toInt ≤ 57 := jb_le (rfl) ((by decide)) c_16
                    have hfr := hi_1_4.r
                    refine lv_iload_n hx hb dX4_fourDigits_96 rfl (lv_at hl 2 rfl) ?_
                    refine lv_iconst (v := 4) hx hb dX4_fourDigits_97 (by decide) ?_
                    refine lv_ishl hx hb dX4_fourDigits_98 ?_
                    refine lv_topi (fun z_17 ez_17 => ?_)
                    have hbz_17 := jb_shlc 4 16 ez_17 (by decide) (by decide) (by omega) (by omega)
                    refine lv_iload hx hb dX4_fourDigits_99 (lv_at hl 0 rfl) ?_
                    refine lv_if_eq (tgt := 115) hx hb dX4_fourDigits_101 (by decide) (fun c_18 => ?_) (fun c_18 => ?_)
                    · skip
                      have c_18' : w0_5.toInt = 0 := jb_eq (rfl) ((by decide)) c_18
                      refine lv_iload_n hx hb dX4_fourDigits_115 rfl (lv_at hl 4 rfl) ?_
                      refine lv_bipush (v := 48) hx hb dX4_fourDigits_116 (by decide) ?_
                      refine lv_isub hx hb dX4_fourDigits_118 ?_
                      refine lv_topi (fun z_19 ez_19 => ?_)
                      have hz_19 : z_19.toInt = w0_3.toInt - 48 := by rw [ez_19]; exact jb_isub2 (rfl) ((by decide)) (by omega)
                      refine lv_ior hx hb dX4_fourDigits_119 ?_
                      refine lv_topi (fun z_20 ez_20 => ?_)
                      have hlt9 : wt_1.toInt < pe.toInt := hi_3.lt (by omega)
                      have hz5 := jb_or16 ez_20 v1_1.toInt (by omega) (by omega) (by omega) (by omega) (by omega)
                      have hdx := hi_3.hx (d := z_20.toInt - 16 * v1_1.toInt) (by omega) (by omega)
                      refine lv_istore_n (lv' := [(1, .int z_20), (5, .int w0_5), (0, .ref r0), (2, .int v2_1), (3, .int w0_3), (4, .int w0_4)]) hx hb dX4_fourDigits_120 rfl hl (by decide) rfl (fun ls hl => ?_)
                      refine lv_aload_n hx hb dX4_fourDigits_121 rfl (lv_at hl 2 rfl) ?_
                      refine lv_dup hx hb dX4_fourDigits_122 rfl ?_
                      refine j7_read hx hb hown hK (C := RX4) (T := TX4) (N := 12) rfl hly_6_11 hlk_47 (hh_5.at 0 rfl) dX4_fourDigits_123 ?_
                      refine lv_iconst (v := 1) hx hb dX4_fourDigits_126 (by decide) ?_
                      refine lv_iadd hx hb dX4_fourDigits_127 ?_
                      refine lv_topi (fun z_21 ez_21 => ?_)
                      have hz_21 : z_21.toInt = wt_1.toInt + 1 := by rw [ez_21]; exact jb_iadd2 (rfl) ((by decide)) (by omega)
                      refine j7_put hx hb hown hK hh_5 hB hAp hB6 (C := RX4) (T := TX4) (N := 12) rfl (by decide) hg_r0 (i := 11) (by decide) hly_6_11 rfl hlk_47 rfl (ty := .int) (v := .int z_21) (by decide +kernel) rfl rfl (⟨_, rfl, by omega, by omega⟩) rfl (L1 := [(r0, 6, 9, .ref rb), (r0, 6, 10, .int pe)]) [1, 2] rfl rfl rfl dX4_fourDigits_128 (fun H_22 locs_22 hh_22 => ?_)
                      clear hh_5
                      obtain ⟨z_23, ez_23⟩ : ∃ y : Int32, y = v2_1 + 1 := ⟨_, rfl⟩
                      refine lv_iinc (v := z_23) (lv' := [(2, .int z_23), (1, .int z_20), (5, .int w0_5), (0, .ref r0), (3, .int w0_3), (4, .int w0_4)]) hx hb dX4_fourDigits_131 hl (k := 3) rfl (by rw [ez_23]; rfl) (by decide) rfl (fun ls hl => ?_)
                      have hz_23 : z_23.toInt = v2_1.toInt + 1 := by rw [ez_23]; exact jb_iadd2 (rfl) (by decide) (by omega)
                      refine lv_goto (tgt := 4) hx hb dX4_fourDigits_134 (by decide) ?_
                      exact L4 z_20 z_23 z_21 _ _ hh_22 (by refine ⟨by omega, by omega, by omega, by omega, hi_1_4.step (by omega) hdx.2.1 hdx.2.2 (by omega) (by omega), ?_⟩; rw [show (4 - (z_23).toInt).toNat = (4 - v2_1.toInt).toNat - 1 by omega]; exact (jjF_y rfl hdx.1 hdx.2.1 (by omega) (by omega) (by omega)).trans hi_1_5) (by omega) _ (lv_sub hl [3, 1, 0] rfl)
                    · skip
                      have c_18' : w0_5.toInt ≠ 0 := jb_eq_n (rfl) ((by decide)) c_18
                      exact (by omega : False).elim
                  · skip
                    have c_16' : w0_3.toInt > 57 := jb_le_n (rfl) ((by decide)) c_16
                    refine lv_iconst (v := (-1)) hx hb dX4_fourDigits_94 (by decide) ?_
                    rw [hQ]
                    exact W.iret (v := (-1)) hx hb hr (fun t ht hW => ⟨⟨(-1), wt_1, rfl, by (try dsimp only); refine ⟨?_, by omega, by omega, by omega, by omega, by omega⟩; exact hkm1.trans ((jjF_n rfl (hi_3.no (by omega) (by omega) (by omega)) (by omega)).symm.trans hi_1_5), hh_5.rt (M1 := [(r0, 6, 11, .int wt_1)]) [0] rfl ht⟩, by rw [ht]; try exact hh_5.1.1, fun q h9 hq => by rw [ht]; try exact hh_5.1.2.1 q h9 hq⟩) hh_5.1.2.2 dX4_fourDigits_95
            refine lv_icmp_lt (tgt := 74) hx hb dX4_fourDigits_60 (by decide) (fun c_24 => ?_) (fun c_24 => ?_)
            · skip
              have c_24' : w0_4.toInt < 97 := jb_lt (rfl) ((by decide)) c_24
              refine lv_iconst (v := 0) hx hb dX4_fourDigits_74 (by decide) ?_
              exact C75 0 _ _ hh_4 (Or.inl rfl) (by first | omega | rfl | assumption | decide | exact Or.inl rfl | exact Or.inr rfl | (simp only; omega)) _ (lv_sub hl [1, 2, 3, 4, 0] rfl)
            · skip
              have c_24' : w0_4.toInt ≥ 97 := jb_lt_n (rfl) ((by decide)) c_24
              refine lv_iload hx hb dX4_fourDigits_63 (lv_at hl 0 rfl) ?_
              refine lv_bipush (v := 102) hx hb dX4_fourDigits_65 (by decide) ?_
              refine lv_icmp_gt (tgt := 74) hx hb dX4_fourDigits_67 (by decide) (fun c_25 => ?_) (fun c_25 => ?_)
              · skip
                have c_25' : w0_4.toInt > 102 := jb_gt (rfl) ((by decide)) c_25
                refine lv_iconst (v := 0) hx hb dX4_fourDigits_74 (by decide) ?_
                exact C75 0 _ _ hh_4 (Or.inl rfl) (by first | omega | rfl | assumption | decide | exact Or.inl rfl | exact Or.inr rfl | (simp only; omega)) _ (lv_sub hl [1, 2, 3, 4, 0] rfl)
              · skip
                have c_25' : w0_4.toInt ≤ 102 := jb_gt_n (rfl) ((by decide)) c_25
                refine lv_iconst (v := 1) hx hb dX4_fourDigits_70 (by decide) ?_
                refine lv_goto (tgt := 75) hx hb dX4_fourDigits_71 (by decide) ?_
                exact C75 1 _ _ hh_4 (Or.inr rfl) (by first | omega | rfl | assumption | decide | exact Or.inl rfl | exact Or.inr rfl | (simp only; omega)) _ (lv_sub hl [1, 2, 3, 4, 0] rfl)
          refine lv_icmp_lt (tgt := 53) hx hb dX4_fourDigits_37 (by decide) (fun c_26 => ?_) (fun c_26 => ?_)
          · skip
            have c_26' : w0_3.toInt < 65 := jb_lt (rfl) ((by decide)) c_26
            refine lv_iload_n hx hb dX4_fourDigits_53 rfl (lv_at hl 0 rfl) ?_
            exact C54 w0_3 _ _ hh_3 (by first | omega | rfl | assumption | decide | exact Or.inl rfl | exact Or.inr rfl | (simp only; omega)) _ (lv_sub hl [1, 2, 3, 0] rfl)
          · skip
            have c_26' : w0_3.toInt ≥ 65 := jb_lt_n (rfl) ((by decide)) c_26
            refine lv_iload_n hx hb dX4_fourDigits_40 rfl (lv_at hl 0 rfl) ?_
            refine lv_bipush (v := 70) hx hb dX4_fourDigits_41 (by decide) ?_
            refine lv_icmp_gt (tgt := 53) hx hb dX4_fourDigits_43 (by decide) (fun c_27 => ?_) (fun c_27 => ?_)
            · skip
              have c_27' : w0_3.toInt > 70 := jb_gt (rfl) ((by decide)) c_27
              refine lv_iload_n hx hb dX4_fourDigits_53 rfl (lv_at hl 0 rfl) ?_
              exact C54 w0_3 _ _ hh_3 (by first | omega | rfl | assumption | decide | exact Or.inl rfl | exact Or.inr rfl | (simp only; omega)) _ (lv_sub hl [1, 2, 3, 0] rfl)
            · skip
              have c_27' : w0_3.toInt ≤ 70 := jb_gt_n (rfl) ((by decide)) c_27
              refine lv_iload_n hx hb dX4_fourDigits_46 rfl (lv_at hl 0 rfl) ?_
              refine lv_bipush (v := 32) hx hb dX4_fourDigits_47 (by decide) ?_
              refine lv_iadd hx hb dX4_fourDigits_49 ?_
              refine lv_topi (fun z_28 ez_28 => ?_)
              have hz_28 : z_28.toInt = w0_3.toInt + 32 := by rw [ez_28]; exact jb_iadd2 (rfl) ((by decide)) (by omega)
              refine lv_goto (tgt := 54) hx hb dX4_fourDigits_50 (by decide) ?_
              exact C54 z_28 _ _ hh_3 (by first | omega | rfl | assumption | decide | exact Or.inl rfl | exact Or.inr rfl | (simp only; omega)) _ (lv_sub hl [1, 2, 3, 0] rfl)
        refine lv_icmp_ge (tgt := 32) hx hb dX4_fourDigits_17 (by decide) (fun c_29 => ?_) (fun c_29 => ?_)
        · skip
          have c_29' : wt_1.toInt ≥ pe.toInt := jb_ge (rfl) (rfl) c_29
          refine lv_iconst (v := (-1)) hx hb dX4_fourDigits_32 (by decide) ?_
          exact C33 (-1) _ _ hh_1 (by first | assumption | exact Or.inl ⟨by omega, by omega, by omega, by unfold jB8; rw [← (zz_none)]⟩ | exact Or.inr ⟨by omega, by omega⟩ | omega) _ (lv_sub hl [0, 1, 2] rfl)
        · skip
          have c_29' : wt_1.toInt < pe.toInt := jb_ge_n (rfl) (rfl) c_29
          refine lv_aload_n hx hb dX4_fourDigits_20 rfl (lv_at hl 0 rfl) ?_
          refine j7_read hx hb hown hK (C := RX4) (T := TX4) (N := 12) rfl hly_6_9 hlk_33 (hh_1.at 1 rfl) dX4_fourDigits_21 ?_
          refine lv_aload_n hx hb dX4_fourDigits_24 rfl (lv_at hl 0 rfl) ?_
          refine j7_read hx hb hown hK (C := RX4) (T := TX4) (N := 12) rfl hly_6_11 hlk_47 (hh_1.at 0 rfl) dX4_fourDigits_25 ?_
          have hft := hp6 wt_1.toInt (by omega) (by omega)
          refine j7_baldM hx hb hK hh_1 hB100 0 rfl (by decide) hg_rb (x := wt_1.toInt) (rfl) (by omega) (j := 0) rfl dX4_fourDigits_28 (fun z_30 ez_30 (hz_30 : True) => ?_)
          have hqz_30 : z_30.toInt = jSo fb (wt_1.toInt) := by unfold jSo; rw [ez_30]
          refine lv_goto (tgt := 33) hx hb dX4_fourDigits_29 (by decide) ?_
          exact C33 z_30 _ _ hh_1 (by first | assumption | exact Or.inl ⟨by omega, by omega, by omega, by unfold jB8; rw [← hqz_30]⟩ | exact Or.inr ⟨by omega, by omega⟩ | omega) _ (lv_sub hl [0, 1, 2] rfl)
  exact L4 (4 - (0 : Int32).toInt : Int).toNat.succ 0 0 pt _ _ (hh.sub (L1 := [(r0, 6, 11, .int pt), (r0, 6, 9, .ref rb), (r0, 6, 10, .int pe)]) [2, 0, 1] rfl (M1 := [(rb, 100, n_rb, ca 0, fb)]) [0] rfl (I1 := []) [] rfl) (by refine ⟨by omega, by omega, by omega, by omega, jjFb.z (by omega) (by omega), ?_⟩; rw [hk0]; rfl) (by omega) _ (lv_sub hl [2, 1, 0] rfl)
set_option maxHeartbeats 4000000 in
set_option maxRecDepth 20000 in
theorem uX4_addUnitJ (l : Launch) (dC : Nat → ClassId) (dI : Nat → Nat → Nat) (ca : Nat → ClassId) (base : Nat) (B : jF) (hB : jBok B) (hAp : jAp (dC, dI)) (hB6 : ∀ n G a H, B 6 n G a H ↔ jOb (dC, dI) 6 12 (F6 n G) a H) (hB146 : ∀ n G a H, B 146 n G a H ↔ jAr (dC, dI) (ca 1) (fun j z => True) n a H) (G0 : jT) (H0 : Heap) (r0 : Nat) (a1 : Int32) (pu : Int32) (jun : Nat) (fu : Nat → Int32) : Met l yX4_addUnit (jw yX4_addUnit cX4_addUnit 2 none) ({ frames := 0, cells := 0, slots := 0, locals := 0 }) (va_Pc [.ref r0, .int a1] (fun U => U.heap = H0 ∧ jX B base G0 [] H0 ∧ jG dC dI ca base U ∧ G0 r0 = some (6, 0) ∧ G0 jun = some (146, 3000) ∧ jP (dC, dI) G0 H0 [(r0, 6, 8, .int pu), (r0, 6, 6, .ref jun)] ∧ jMc (dC, dI) G0 H0 [(jun, 146, 3000, ca 1, fu)] ∧ 0 ≤ pu.toInt ∧ pu.toInt < 3000)) (va_Qv (S := Int32 × (Nat → Int32)) (fun u => u.1.toInt = pu.toInt + 1 ∧ jSo u.2 pu.toInt = a1.toInt ∧ jjPu fu u.2 pu.toInt) (fun u t => jRt (dC, dI) B base G0 EX4_addUnitJ H0 [(r0, 6, 8, .int u.1)] t.heap ∧ jMc (dC, dI) G0 t.heap [(jun, 146, 3000, ca 1, u.2)]) (jA base)) 0 0 (jA base) := by
  refine Met.ofW (cc := cX4_addUnit) (maxL := 2) (ret := none) (by decide) rfl ?_
  intro p e s m args below meth c s₁ Bd hml hv
  obtain ⟨rfl, hH0, hX, hG, hg_r0, hg_jun, hP0, hM0, hp0, hp1⟩ := hv
  have hK := hG.1
  have hx := Bd.exec
  have hb := Bd.bytes
  have hr := Bd.returns
  have hts := atoms_spec (ws := (jw yX4_addUnit cX4_addUnit 2 none)) Bd.pre
  have htw : ∀ w ∈ jWl, w.before _ s = true := fun w h => hts w (List.mem_cons_of_mem _ h)
  have hown : s.vm.findClass RX4 = some m.cls := findClass_of_methodNamed Bd.named
  have hlocks := Bd.notSynchronized
  obtain ⟨Q, hQ⟩ : ∃ Q, Q = MQ below (va_Qv (S := Int32 × (Nat → Int32)) (fun u => u.1.toInt = pu.toInt + 1 ∧ jSo u.2 pu.toInt = a1.toInt ∧ jjPu fu u.2 pu.toInt) (fun u t => jRt (dC, dI) B base G0 EX4_addUnitJ H0 [(r0, 6, 8, .int u.1)] t.heap ∧ jMc (dC, dI) G0 t.heap [(jun, 146, 3000, ca 1, u.2)]) (jA base)) ([.ref r0, .int a1] : List Value).toArray s 0 0 (jA base) := ⟨_, rfl⟩
  rw [← hQ]
  have hl := lv_entry ([.ref r0, .int a1]) (n := 2) (Nat.le_of_ble_eq_true rfl)
  rw [lg_entry_eq]
  generalize (lg_sl ([.ref r0, .int a1]) ++ List.replicate (2 - (lg_sl ([.ref r0, .int a1])).length) Slot.unset).toArray = ls at hl ⊢
  have hl : lv_has ls 2 [(0, .ref r0), (1, .int a1)] := hl
  generalize hR : (headSpec (jw yX4_addUnit cX4_addUnit 2 none) ({ frames := 0, cells := 0, slots := 0, locals := 0 })).room = R
  subst hH0
  have hh : jSt (dC, dI) B base G0 G0 EX4_addUnitJ s.heap 0 0 [(r0, 6, 8, .int pu), (r0, 6, 6, .ref jun)] [(jun, 146, 3000, ca 1, fu)] [] s.heap [] := jSt.start hX hP0 hM0 jIs.nil
  clear hX hP0
  have hk0 : (0 : Int32).toInt = 0 := by decide
  have hk1 : (1 : Int32).toInt = 1 := by decide
  have hly_6_6 := htw (u_lay RX4 TX4 6) (jWc_wsX40 _ (u_in_lay (by decide)))
  have hly_6_8 := htw (u_lay RX4 TX4 8) (jWc_wsX40 _ (u_in_lay (by decide)))
  have hlk_53 := (htw (.fieldLink RX4 53 "ProofServer$Json" "unitCount" "I") (jWr_19 _ (List.mem_of_getElem? (i := 14) rfl)))
  have hlk_30 := (htw (.fieldLink RX4 30 "ProofServer$Json" "units" "[I") (jWr_4 _ (List.mem_of_getElem? (i := 3) rfl)))
  have hrg_a1 := jb_rng a1
  refine lv_aload_n hx hb dX4_addUnit_0 rfl (lv_at hl 0 rfl) ?_
  refine j7_read hx hb hown hK (C := RX4) (T := TX4) (N := 12) rfl hly_6_8 hlk_53 (hh.at 0 rfl) dX4_addUnit_1 ?_
  refine lv_aload_n hx hb dX4_addUnit_4 rfl (lv_at hl 0 rfl) ?_
  refine j7_read hx hb hown hK (C := RX4) (T := TX4) (N := 12) rfl hly_6_6 hlk_30 (hh.at 1 rfl) dX4_addUnit_5 ?_
  refine j7_len hx hb hK hh hB146 1 rfl (by decide) hg_jun (by omega) dX4_addUnit_8 (fun z_1 hz_1 => ?_)
  refine lv_icmp_ge (tgt := 32) hx hb dX4_addUnit_9 (by decide) (fun c_2 => ?_) (fun c_2 => ?_)
  · skip
    have c_2' : pu.toInt ≥ z_1.toInt := jb_ge (rfl) (rfl) c_2
    exact absurd c_2' (by omega)
  · skip
    have c_2' : pu.toInt < z_1.toInt := jb_ge_n (rfl) (rfl) c_2
    refine lv_aload_n hx hb dX4_addUnit_12 rfl (lv_at hl 0 rfl) ?_
    refine j7_read hx hb hown hK (C := RX4) (T := TX4) (N := 12) rfl hly_6_6 hlk_30 (hh.at 1 rfl) dX4_addUnit_13 ?_
    refine lv_aload_n hx hb dX4_addUnit_16 rfl (lv_at hl 0 rfl) ?_
    refine j7_read hx hb hown hK (C := RX4) (T := TX4) (N := 12) rfl hly_6_8 hlk_53 (hh.at 0 rfl) dX4_addUnit_17 ?_
    refine lv_iload_n hx hb dX4_addUnit_20 rfl (lv_at hl 1 rfl) ?_
    refine j7_iastU hx hb hK hh hB hB146 1 rfl (by decide) (by decide) rfl 0 rfl (M1 := []) [] rfl rfl rfl hg_jun (x := pu.toInt) (rfl) (by omega) (trivial) dX4_addUnit_21 (fun H_3 locs_3 fs_4 hv_3 ho_3 hh_3 => ?_)
    have hv_3 : jSo fs_4 (pu.toInt) = a1.toInt := by unfold jSo; rw [hv_3]; try exact rfl
    clear hh
    refine lv_aload_n hx hb dX4_addUnit_22 rfl (lv_at hl 0 rfl) ?_
    refine lv_dup hx hb dX4_addUnit_23 rfl ?_
    refine j7_read hx hb hown hK (C := RX4) (T := TX4) (N := 12) rfl hly_6_8 hlk_53 (hh_3.at 0 rfl) dX4_addUnit_24 ?_
    refine lv_iconst (v := 1) hx hb dX4_addUnit_27 (by decide) ?_
    refine lv_iadd hx hb dX4_addUnit_28 ?_
    refine lv_topi (fun z_5 ez_5 => ?_)
    have hz_5 : z_5.toInt = pu.toInt + 1 := by rw [ez_5]; exact jb_iadd2 (rfl) ((by decide)) (by omega)
    refine j7_put hx hb hown hK hh_3 hB hAp hB6 (C := RX4) (T := TX4) (N := 12) rfl (by decide) hg_r0 (i := 8) (by decide) hly_6_8 rfl hlk_53 rfl (ty := .int) (v := .int z_5) (by decide +kernel) rfl rfl (⟨_, rfl, by omega, by omega⟩) rfl (L1 := [(r0, 6, 6, .ref jun)]) [1] rfl rfl rfl dX4_addUnit_29 (fun H_6 locs_6 hh_6 => ?_)
    clear hh_3
    rw [hQ]
    exact W.vret hx hb hr (fun t ht hW => ⟨⟨(z_5, fs_4), rfl, by (try dsimp only); refine ⟨by omega, hv_3, fun j q0 q1 => jst ho_3 j q0 (by omega) (by omega) (by omega)⟩, ⟨hh_6.rt (M1 := [(r0, 6, 8, .int z_5)]) [0] rfl ht, by rw [ht]; exact hh_6.2.2.2.2.2.2.2.1.sub [0] rfl⟩⟩, by rw [ht]; try exact hh_6.1.1, fun q h9 hq => by rw [ht]; try exact hh_6.1.2.1 q h9 hq⟩) hh_6.1.2.2 dX4_addUnit_32
set_option maxHeartbeats 4000000 in
set_option maxRecDepth 20000 in
theorem uX4_addCharJ (l : Launch) (dC : Nat → ClassId) (dI : Nat → Nat → Nat) (ca : Nat → ClassId) (base : Nat) (B : jF) (hB : jBok B) (hAp : jAp (dC, dI)) (hB6 : ∀ n G a H, B 6 n G a H ↔ jOb (dC, dI) 6 12 (F6 n G) a H) (hB146 : ∀ n G a H, B 146 n G a H ↔ jAr (dC, dI) (ca 1) (fun j z => True) n a H) (G0 : jT) (H0 : Heap) (r0 : Nat) (a1 : Int32) (pu : Int32) (jun : Nat) (fu : Nat → Int32) : Met l yX4_addChar (jw yX4_addChar cX4_addChar 2 none) ({ frames := 1, cells := 0, slots := 0, locals := 21 }) (va_Pc [.ref r0, .int a1] (fun U => U.heap = H0 ∧ jX B base G0 [] H0 ∧ jG dC dI ca base U ∧ G0 r0 = some (6, 0) ∧ G0 jun = some (146, 3000) ∧ jP (dC, dI) G0 H0 [(r0, 6, 8, .int pu), (r0, 6, 6, .ref jun)] ∧ jMc (dC, dI) G0 H0 [(jun, 146, 3000, ca 1, fu)] ∧ 0 ≤ pu.toInt ∧ pu.toInt < 3000 ∧ (a1.toInt < 65536 ∨ pu.toInt < 2999) ∧ 0 ≤ a1.toInt ∧ a1.toInt ≤ 1114111)) (va_Qv (S := Int32 × (Nat → Int32)) (fun u => (65536 ≤ a1.toInt ∧ u.1.toInt = pu.toInt + 2 ∧ jSo u.2 pu.toInt = 55296 + (a1.toInt - 65536) / 1024 ∧ jSo u.2 (pu.toInt + 1) = 56320 + (a1.toInt - 65536) % 1024 ∧ jjPu fu u.2 pu.toInt) ∨ (a1.toInt < 65536 ∧ u.1.toInt = pu.toInt + 1 ∧ jSo u.2 pu.toInt = a1.toInt ∧ jjPu fu u.2 pu.toInt)) (fun u t => jRt (dC, dI) B base G0 EX4_addCharJ H0 [(r0, 6, 8, .int u.1)] t.heap ∧ jMc (dC, dI) G0 t.heap [(jun, 146, 3000, ca 1, u.2)]) (jA base)) 0 0 (jA base) := by
  refine Met.ofW (cc := cX4_addChar) (maxL := 2) (ret := none) (by decide) rfl ?_
  intro p e s m args below meth c s₁ Bd hml hv
  obtain ⟨rfl, hH0, hX, hG, hg_r0, hg_jun, hP0, hM0, hp0, hp1, hp2, hp3, hp4⟩ := hv
  have hK := hG.1
  have hx := Bd.exec
  have hb := Bd.bytes
  have hr := Bd.returns
  have hts := atoms_spec (ws := (jw yX4_addChar cX4_addChar 2 none)) Bd.pre
  have htw : ∀ w ∈ jWl, w.before _ s = true := fun w h => hts w (List.mem_cons_of_mem _ h)
  have hown : s.vm.findClass RX4 = some m.cls := findClass_of_methodNamed Bd.named
  have hlocks := Bd.notSynchronized
  obtain ⟨Q, hQ⟩ : ∃ Q, Q = MQ below (va_Qv (S := Int32 × (Nat → Int32)) (fun u => (65536 ≤ a1.toInt ∧ u.1.toInt = pu.toInt + 2 ∧ jSo u.2 pu.toInt = 55296 + (a1.toInt - 65536) / 1024 ∧ jSo u.2 (pu.toInt + 1) = 56320 + (a1.toInt - 65536) % 1024 ∧ jjPu fu u.2 pu.toInt) ∨ (a1.toInt < 65536 ∧ u.1.toInt = pu.toInt + 1 ∧ jSo u.2 pu.toInt = a1.toInt ∧ jjPu fu u.2 pu.toInt)) (fun u t => jRt (dC, dI) B base G0 EX4_addCharJ H0 [(r0, 6, 8, .int u.1)] t.heap ∧ jMc (dC, dI) G0 t.heap [(jun, 146, 3000, ca 1, u.2)]) (jA base)) ([.ref r0, .int a1] : List Value).toArray s 0 0 (jA base) := ⟨_, rfl⟩
  rw [← hQ]
  have hl := lv_entry ([.ref r0, .int a1]) (n := 2) (Nat.le_of_ble_eq_true rfl)
  rw [lg_entry_eq]
  generalize (lg_sl ([.ref r0, .int a1]) ++ List.replicate (2 - (lg_sl ([.ref r0, .int a1])).length) Slot.unset).toArray = ls at hl ⊢
  have hl : lv_has ls 2 [(0, .ref r0), (1, .int a1)] := hl
  generalize hR : (headSpec (jw yX4_addChar cX4_addChar 2 none) ({ frames := 1, cells := 0, slots := 0, locals := 21 })).room = R
  subst hH0
  have hh : jSt (dC, dI) B base G0 G0 EX4_addCharJ s.heap 0 0 [(r0, 6, 8, .int pu), (r0, 6, 6, .ref jun)] [(jun, 146, 3000, ca 1, fu)] [] s.heap [] := jSt.start hX hP0 hM0 jIs.nil
  clear hX hP0
  have hk0 : (0 : Int32).toInt = 0 := by decide
  have hk1 : (1 : Int32).toInt = 1 := by decide
  have hk10 : (10 : Int32).toInt = 10 := by decide
  have hk1023 : (1023 : Int32).toInt = 1023 := by decide
  have hk55296 : (55296 : Int32).toInt = 55296 := by decide
  have hk56320 : (56320 : Int32).toInt = 56320 := by decide
  have hk65536 : (65536 : Int32).toInt = 65536 := by decide
  have hcs_161 := htw (.constant RX4 161 65536) (jWr_22 _ (List.mem_of_getElem? (i := 7) rfl))
  have hcs_162 := htw (.constant RX4 162 55296) (jWr_22 _ (List.mem_of_getElem? (i := 8) rfl))
  have hcs_166 := htw (.constant RX4 166 56320) (jWr_22 _ (List.mem_of_getElem? (i := 9) rfl))
  have hrg_a1 := jb_rng a1
  refine lv_iload_n hx hb dX4_addChar_0 rfl (lv_at hl 1 rfl) ?_
  refine lv_ldc hx hb hown hcs_161 dX4_addChar_1 ?_
  refine lv_icmp_lt (tgt := 38) hx hb dX4_addChar_3 (by decide) (fun c_1 => ?_) (fun c_1 => ?_)
  · skip
    have c_1' : a1.toInt < 65536 := jb_lt (rfl) ((by decide)) c_1
    refine lv_aload_n hx hb dX4_addChar_38 rfl (lv_at hl 0 rfl) ?_
    refine lv_iload_n hx hb dX4_addChar_39 rfl (lv_at hl 1 rfl) ?_
    refine va_callv (A0 := jA base) (H0 := s.heap) (va_runV (As := [.int a1]) (rest := []) ⟨hx, hb, hml, hown, hts⟩ (uX4_addUnitJ l dC dI ca base B hB hAp hB6 hB146 G0 s.heap r0 a1 pu jun fu) (cwV 1 hts (jgV (jWr_21 _ (List.mem_of_getElem? (i := 13) rfl)) (jWr_21 _ (List.mem_of_getElem? (i := 14) rfl)) (jWr_21 _ (List.mem_of_getElem? (i := 15) rfl)) (jWr_1 _ (List.mem_of_getElem? (i := 22) rfl)) (jWr_21 _ (List.mem_of_getElem? (i := 16) rfl))) rfl rfl rfl (by decide +kernel) ⟨by rw [← hR]; exact Nat.le_of_ble_eq_true rfl, by rw [← hR]; exact Nat.le_of_ble_eq_true rfl⟩) ⟨fun a U g mk q => by obtain ⟨q0, q1, q2, qK, q10, q11, q12, q13, q14⟩ := q; exact ⟨q0, q1, q2, jG.calling g mk a qK, q10, q11, q12, q13, q14⟩, hh.recv (C := RX4) (T := TX4) (N := 12) hB6 rfl (by decide) hg_r0 hK, fun U hU hW => ⟨rfl, hU, hh.2.1, hG.step hW hU hh.1, hg_r0, hg_jun, (hh.2.2.1.sub (L1 := [(r0, 6, 8, .int pu), (r0, 6, 6, .ref jun)]) [0, 1] rfl), (hh.2.2.2.2.2.2.2.1.sub (L1 := [(jun, 146, 3000, ca 1, fu)]) [0] rfl), by first | omega | (refine ⟨?_, ?_⟩ <;> (first | omega | rfl | assumption | decide | exact Or.inl rfl | exact Or.inr rfl | (simp only; omega)))⟩⟩ rfl rfl hl.1 rfl (lv_room (Nat.le_of_ble_eq_true rfl)) dX4_addChar_40 ⟨Nat.zero_le _, Nat.zero_le _⟩) hh.1 (fun q _ h => h) (fun q h => h) (fun u_2 t_2 H_2 locs_2 ht_2 hvm_2 hr_3 hb_2 hz_2 hk_2 hS_2 => ?_)
    obtain ⟨qu_2, gu_2⟩ := u_2
    rw [ht_2] at hb_2
    obtain ⟨⟨hb_21, hb_22, hb_23, hb_24, hb_25⟩, hb_26⟩ := hb_2
    have hh_2 : jSt (dC, dI) B base G0 G0 EX4_addCharJ s.heap 0 0 [(r0, 6, 8, .int qu_2), (r0, 6, 6, .ref jun)] [(jun, 146, 3000, ca 1, gu_2)] [] H_2 locs_2 := ((hh.call hb_21 hb_22 hb_23 hb_24 hS_2 rfl (L1 := [(r0, 6, 6, .ref jun)]) [1] rfl rfl (M1 := []) [] rfl rfl (I1 := []) [] rfl rfl).more hb_25).moreM hb_26
    clear hh ht_2 hvm_2 hz_2 hk_2 hS_2 hb_21 hb_22 hb_23 hb_24 hb_25
    clear hb_26
    try simp only at hr_3
    obtain ⟨hr_3_0, hr_3_1, hr_3_2⟩ := hr_3
    rw [hQ]
    exact W.vret hx hb hr (fun t ht hW => ⟨⟨(qu_2, gu_2), rfl, by (try dsimp only); exact Or.inr ⟨by omega, hr_3_0, hr_3_1, hr_3_2⟩, ⟨hh_2.rt (M1 := [(r0, 6, 8, .int qu_2)]) [0] rfl ht, by rw [ht]; exact hh_2.2.2.2.2.2.2.2.1.sub [0] rfl⟩⟩, by rw [ht]; try exact hh_2.1.1, fun q h9 hq => by rw [ht]; try exact hh_2.1.2.1 q h9 hq⟩) hh_2.1.2.2 dX4_addChar_43
  · skip
    have c_1' : a1.toInt ≥ 65536 := jb_lt_n (rfl) ((by decide)) c_1
    refine lv_aload_n hx hb dX4_addChar_6 rfl (lv_at hl 0 rfl) ?_
    refine lv_ldc hx hb hown hcs_162 dX4_addChar_7 ?_
    refine lv_iload_n hx hb dX4_addChar_9 rfl (lv_at hl 1 rfl) ?_
    refine lv_ldc hx hb hown hcs_161 dX4_addChar_10 ?_
    refine lv_isub hx hb dX4_addChar_12 ?_
    refine lv_topi (fun z_4 ez_4 => ?_)
    have hz_4 : z_4.toInt = a1.toInt - 65536 := by rw [ez_4]; exact jb_isub2 (rfl) ((by decide)) (by omega)
    refine lv_bipush (v := 10) hx hb dX4_addChar_13 (by decide) ?_
    refine lv_ishr hx hb dX4_addChar_15 ?_
    refine lv_topi (fun z_5 ez_5 => ?_)
    have hz_5 : z_5.toInt = z_4.toInt / 2 ^ 10 := by rw [ez_5]; exact jb_ishr 10 (rfl) (by decide)
    have hs1 := jb_shr10 ez_5 (by omega)
    refine lv_iadd hx hb dX4_addChar_16 ?_
    refine lv_topi (fun z_6 ez_6 => ?_)
    have hz_6 : z_6.toInt = 55296 + z_5.toInt := by rw [ez_6]; exact jb_iadd2 ((by decide)) (rfl) (by omega)
    refine va_callv (A0 := jA base) (H0 := s.heap) (va_runV (As := [.int z_6]) (rest := []) ⟨hx, hb, hml, hown, hts⟩ (uX4_addUnitJ l dC dI ca base B hB hAp hB6 hB146 G0 s.heap r0 z_6 pu jun fu) (cwV 1 hts (jgV (jWr_21 _ (List.mem_of_getElem? (i := 13) rfl)) (jWr_21 _ (List.mem_of_getElem? (i := 14) rfl)) (jWr_21 _ (List.mem_of_getElem? (i := 15) rfl)) (jWr_1 _ (List.mem_of_getElem? (i := 22) rfl)) (jWr_21 _ (List.mem_of_getElem? (i := 16) rfl))) rfl rfl rfl (by decide +kernel) ⟨by rw [← hR]; exact Nat.le_of_ble_eq_true rfl, by rw [← hR]; exact Nat.le_of_ble_eq_true rfl⟩) ⟨fun a U g mk q => by obtain ⟨q0, q1, q2, qK, q10, q11, q12, q13, q14⟩ := q; exact ⟨q0, q1, q2, jG.calling g mk a qK, q10, q11, q12, q13, q14⟩, hh.recv (C := RX4) (T := TX4) (N := 12) hB6 rfl (by decide) hg_r0 hK, fun U hU hW => ⟨rfl, hU, hh.2.1, hG.step hW hU hh.1, hg_r0, hg_jun, (hh.2.2.1.sub (L1 := [(r0, 6, 8, .int pu), (r0, 6, 6, .ref jun)]) [0, 1] rfl), (hh.2.2.2.2.2.2.2.1.sub (L1 := [(jun, 146, 3000, ca 1, fu)]) [0] rfl), by first | omega | (refine ⟨?_, ?_⟩ <;> (first | omega | rfl | assumption | decide | exact Or.inl rfl | exact Or.inr rfl | (simp only; omega)))⟩⟩ rfl rfl hl.1 rfl (lv_room (Nat.le_of_ble_eq_true rfl)) dX4_addChar_17 ⟨Nat.zero_le _, Nat.zero_le _⟩) hh.1 (fun q _ h => h) (fun q h => h) (fun u_7 t_7 H_7 locs_7 ht_7 hvm_7 hr_8 hb_7 hz_7 hk_7 hS_7 => ?_)
    obtain ⟨qu_7, gu_7⟩ := u_7
    rw [ht_7] at hb_7
    obtain ⟨⟨hb_71, hb_72, hb_73, hb_74, hb_75⟩, hb_76⟩ := hb_7
    have hh_7 : jSt (dC, dI) B base G0 G0 EX4_addCharJ s.heap 0 0 [(r0, 6, 8, .int qu_7), (r0, 6, 6, .ref jun)] [(jun, 146, 3000, ca 1, gu_7)] [] H_7 locs_7 := ((hh.call hb_71 hb_72 hb_73 hb_74 hS_7 rfl (L1 := [(r0, 6, 6, .ref jun)]) [1] rfl rfl (M1 := []) [] rfl rfl (I1 := []) [] rfl rfl).more hb_75).moreM hb_76
    clear hh ht_7 hvm_7 hz_7 hk_7 hS_7 hb_71 hb_72 hb_73 hb_74 hb_75
    clear hb_76
    try simp only at hr_8
    obtain ⟨hr_8_0, hr_8_1, hr_8_2⟩ := hr_8
    refine lv_aload_n hx hb dX4_addChar_20 rfl (lv_at hl 0 rfl) ?_
    refine lv_ldc hx hb hown hcs_166 dX4_addChar_21 ?_
    refine lv_iload_n hx hb dX4_addChar_23 rfl (lv_at hl 1 rfl) ?_
    refine lv_ldc hx hb hown hcs_161 dX4_addChar_24 ?_
    refine lv_isub hx hb dX4_addChar_26 ?_
    refine lv_topi (fun z_9 ez_9 => ?_)
    have hz_9 : z_9.toInt = a1.toInt - 65536 := by rw [ez_9]; exact jb_isub2 (rfl) ((by decide)) (by omega)
    refine lv_sipush (v := 1023) hx hb dX4_addChar_27 (by decide) ?_
    refine lv_iand hx hb dX4_addChar_30 ?_
    refine lv_topi (fun z_10 ez_10 => ?_)
    have hz_10 : 0 ≤ z_10.toInt ∧ z_10.toInt ≤ 1023 := by rw [ez_10]; exact jb_and z_9 (m := 1023) (k := 10) (by decide) (by decide)
    have hs2 := jb_a1023 ez_10
    refine lv_iadd hx hb dX4_addChar_31 ?_
    refine lv_topi (fun z_11 ez_11 => ?_)
    have hz_11 : z_11.toInt = 56320 + z_10.toInt := by rw [ez_11]; exact jb_iadd2 ((by decide)) (rfl) (by omega)
    refine va_callv (A0 := jA base) (H0 := s.heap) (va_runV (As := [.int z_11]) (rest := []) ⟨hx, hb, hml, hown, hts⟩ (uX4_addUnitJ l dC dI ca base B hB hAp hB6 hB146 G0 H_7 r0 z_11 qu_7 jun gu_7) (cwV 1 hts (jgV (jWr_21 _ (List.mem_of_getElem? (i := 13) rfl)) (jWr_21 _ (List.mem_of_getElem? (i := 14) rfl)) (jWr_21 _ (List.mem_of_getElem? (i := 15) rfl)) (jWr_1 _ (List.mem_of_getElem? (i := 22) rfl)) (jWr_21 _ (List.mem_of_getElem? (i := 16) rfl))) rfl rfl rfl (by decide +kernel) ⟨by rw [← hR]; exact Nat.le_of_ble_eq_true rfl, by rw [← hR]; exact Nat.le_of_ble_eq_true rfl⟩) ⟨fun a U g mk q => by obtain ⟨q0, q1, q2, qK, q10, q11, q12, q13, q14⟩ := q; exact ⟨q0, q1, q2, jG.calling g mk a qK, q10, q11, q12, q13, q14⟩, hh_7.recv (C := RX4) (T := TX4) (N := 12) hB6 rfl (by decide) hg_r0 hK, fun U hU hW => ⟨rfl, hU, hh_7.2.1, hG.step hW hU hh_7.1, hg_r0, hg_jun, (hh_7.2.2.1.sub (L1 := [(r0, 6, 8, .int qu_7), (r0, 6, 6, .ref jun)]) [0, 1] rfl), (hh_7.2.2.2.2.2.2.2.1.sub (L1 := [(jun, 146, 3000, ca 1, gu_7)]) [0] rfl), by first | omega | (refine ⟨?_, ?_⟩ <;> (first | omega | rfl | assumption | decide | exact Or.inl rfl | exact Or.inr rfl | (simp only; omega)))⟩⟩ rfl rfl hl.1 rfl (lv_room (Nat.le_of_ble_eq_true rfl)) dX4_addChar_32 ⟨Nat.zero_le _, Nat.zero_le _⟩) hh_7.1 (fun q _ h => h) (fun q h => h) (fun u_12 t_12 H_12 locs_12 ht_12 hvm_12 hr_13 hb_12 hz_12 hk_12 hS_12 => ?_)
    obtain ⟨qu_12, gu_12⟩ := u_12
    rw [ht_12] at hb_12
    obtain ⟨⟨hb_121, hb_122, hb_123, hb_124, hb_125⟩, hb_126⟩ := hb_12
    have hh_12 : jSt (dC, dI) B base G0 G0 EX4_addCharJ s.heap 0 0 [(r0, 6, 8, .int qu_12), (r0, 6, 6, .ref jun)] [(jun, 146, 3000, ca 1, gu_12)] [] H_12 locs_12 := ((hh_7.call hb_121 hb_122 hb_123 hb_124 hS_12 rfl (L1 := [(r0, 6, 6, .ref jun)]) [1] rfl rfl (M1 := []) [] rfl rfl (I1 := []) [] rfl rfl).more hb_125).moreM hb_126
    clear hh_7 ht_12 hvm_12 hz_12 hk_12 hS_12 hb_121 hb_122 hb_123 hb_124 hb_125
    clear hb_126
    try simp only at hr_13
    obtain ⟨hr_13_0, hr_13_1, hr_13_2⟩ := hr_13
    refine lv_goto (tgt := 43) hx hb dX4_addChar_35 (by decide) ?_
    rw [hQ]
    exact W.vret hx hb hr (fun t ht hW => ⟨⟨(qu_12, gu_12), rfl, by (try dsimp only); exact Or.inl ⟨by omega, by omega, (hr_13_2 _ (by omega) (by omega)).trans (hr_8_1.trans (by omega)), by rw [show pu.toInt + 1 = qu_7.toInt by omega]; exact hr_13_1.trans (by omega), hr_8_2.tr hr_13_2 (by omega)⟩, ⟨hh_12.rt (M1 := [(r0, 6, 8, .int qu_12)]) [0] rfl ht, by rw [ht]; exact hh_12.2.2.2.2.2.2.2.1.sub [0] rfl⟩⟩, by rw [ht]; try exact hh_12.1.1, fun q h9 hq => by rw [ht]; try exact hh_12.1.2.1 q h9 hq⟩) hh_12.1.2.2 dX4_addChar_43
set_option maxHeartbeats 4000000 in
set_option maxRecDepth 20000 in
theorem uX4_isEscapeJ (l : Launch) (dC : Nat → ClassId) (dI : Nat → Nat → Nat) (ca : Nat → ClassId) (base : Nat) (B : jF) (hB : jBok B) (hAp : jAp (dC, dI)) (hB6 : ∀ n G a H, B 6 n G a H ↔ jOb (dC, dI) 6 12 (F6 n G) a H) (hB100 : ∀ n G a H, B 100 n G a H ↔ jAr (dC, dI) (ca 0) (fun j z => True) n a H) (hB146 : ∀ n G a H, B 146 n G a H ↔ jAr (dC, dI) (ca 1) (fun j z => True) n a H) (G0 : jT) (H0 : Heap) (r0 : Nat) (rb : Nat) (n_rb : Nat) (pe : Int32) (pt : Int32) (pu : Int32) (jun : Nat) (fb : Nat → Int32) (fu : Nat → Int32) : Met l yX4_isEscape (jw yX4_isEscape cX4_isEscape 2 (some .boolean)) ({ frames := 1, cells := 0, slots := 0, locals := 21 }) (va_Pc [.ref r0] (fun U => U.heap = H0 ∧ jX B base G0 [] H0 ∧ jG dC dI ca base U ∧ G0 r0 = some (6, 0) ∧ G0 rb = some (100, n_rb) ∧ G0 jun = some (146, 3000) ∧ jP (dC, dI) G0 H0 [(r0, 6, 9, .ref rb), (r0, 6, 10, .int pe), (r0, 6, 11, .int pt), (r0, 6, 8, .int pu), (r0, 6, 6, .ref jun)] ∧ jMc (dC, dI) G0 H0 [(rb, 100, n_rb, ca 0, fb), (jun, 146, 3000, ca 1, fu)] ∧ 0 ≤ pe.toInt ∧ pe.toInt ≤ n_rb ∧ n_rb ≤ 3000 ∧ 0 ≤ pt.toInt ∧ pt.toInt ≤ 19000 ∧ pt.toInt < pe.toInt ∧ 0 ≤ pu.toInt ∧ pu.toInt + 1 ≤ pt.toInt ∧ jjK (jB8 fb) pe.toInt (pt.toInt + 1) ≠ 117)) (va_Qi (S := Int32 × Int32 × (Nat → Int32)) (fun r u => (r = 0 ∨ r = 1) ∧ (jjQe (jjE (jB8 fb) pe.toInt pt.toInt) r.toInt 2 pu.toInt u.2.1.toInt fu u.2.2 ∧ u.1.toInt = pt.toInt + 2 ∧ u.1.toInt ≤ pe.toInt + 1 - r.toInt ∧ pu.toInt ≤ u.2.1.toInt ∧ u.2.1.toInt ≤ pu.toInt + 1 ∧ u.2.1.toInt ≤ 3000)) (fun u t => jRt (dC, dI) B base G0 EX4_isEscapeJ H0 [(r0, 6, 11, .int u.1), (r0, 6, 8, .int u.2.1)] t.heap ∧ jMc (dC, dI) G0 t.heap [(jun, 146, 3000, ca 1, u.2.2)]) (jA base)) 0 0 (jA base) := by
  refine Met.ofW (cc := cX4_isEscape) (maxL := 2) (ret := (some .boolean)) (by decide) rfl ?_
  intro p e s m args below meth c s₁ Bd hml hv
  obtain ⟨rfl, hH0, hX, hG, hg_r0, hg_rb, hg_jun, hP0, hM0, hp0, hp1, hp2, hp3, hp4, hp5, hp6, hp7, hp8⟩ := hv
  have hK := hG.1
  have hx := Bd.exec
  have hb := Bd.bytes
  have hr := Bd.returns
  have hts := atoms_spec (ws := (jw yX4_isEscape cX4_isEscape 2 (some .boolean))) Bd.pre
  have htw : ∀ w ∈ jWl, w.before _ s = true := fun w h => hts w (List.mem_cons_of_mem _ h)
  have hown : s.vm.findClass RX4 = some m.cls := findClass_of_methodNamed Bd.named
  have hlocks := Bd.notSynchronized
  obtain ⟨Q, hQ⟩ : ∃ Q, Q = MQ below (va_Qi (S := Int32 × Int32 × (Nat → Int32)) (fun r u => (r = 0 ∨ r = 1) ∧ (jjQe (jjE (jB8 fb) pe.toInt pt.toInt) r.toInt 2 pu.toInt u.2.1.toInt fu u.2.2 ∧ u.1.toInt = pt.toInt + 2 ∧ u.1.toInt ≤ pe.toInt + 1 - r.toInt ∧ pu.toInt ≤ u.2.1.toInt ∧ u.2.1.toInt ≤ pu.toInt + 1 ∧ u.2.1.toInt ≤ 3000)) (fun u t => jRt (dC, dI) B base G0 EX4_isEscapeJ H0 [(r0, 6, 11, .int u.1), (r0, 6, 8, .int u.2.1)] t.heap ∧ jMc (dC, dI) G0 t.heap [(jun, 146, 3000, ca 1, u.2.2)]) (jA base)) ([.ref r0] : List Value).toArray s 0 0 (jA base) := ⟨_, rfl⟩
  rw [← hQ]
  have hl := lv_entry ([.ref r0]) (n := 2) (Nat.le_of_ble_eq_true rfl)
  rw [lg_entry_eq]
  generalize (lg_sl ([.ref r0]) ++ List.replicate (2 - (lg_sl ([.ref r0])).length) Slot.unset).toArray = ls at hl ⊢
  have hl : lv_has ls 2 [(0, .ref r0)] := hl
  generalize hR : (headSpec (jw yX4_isEscape cX4_isEscape 2 (some .boolean)) ({ frames := 1, cells := 0, slots := 0, locals := 21 })).room = R
  subst hH0
  have hh : jSt (dC, dI) B base G0 G0 EX4_isEscapeJ s.heap 0 0 [(r0, 6, 9, .ref rb), (r0, 6, 10, .int pe), (r0, 6, 11, .int pt), (r0, 6, 8, .int pu), (r0, 6, 6, .ref jun)] [(rb, 100, n_rb, ca 0, fb), (jun, 146, 3000, ca 1, fu)] [] s.heap [] := jSt.start hX hP0 hM0 jIs.nil
  clear hX hP0
  have hk0 : (0 : Int32).toInt = 0 := by decide
  have hk1 : (1 : Int32).toInt = 1 := by decide
  have hk8 : (8 : Int32).toInt = 8 := by decide
  have hk9 : (9 : Int32).toInt = 9 := by decide
  have hk10 : (10 : Int32).toInt = 10 := by decide
  have hk12 : (12 : Int32).toInt = 12 := by decide
  have hk13 : (13 : Int32).toInt = 13 := by decide
  have hly_6_11 := htw (u_lay RX4 TX4 11) (jWc_wsX40 _ (u_in_lay (by decide)))
  have hlk_47 := (htw (.fieldLink RX4 47 "ProofServer$Json" "at" "I") (jWr_19 _ (List.mem_of_getElem? (i := 12) rfl)))
  refine lv_aload_n hx hb dX4_isEscape_0 rfl (lv_at hl 0 rfl) ?_
  refine lv_dup hx hb dX4_isEscape_1 rfl ?_
  refine j7_read hx hb hown hK (C := RX4) (T := TX4) (N := 12) rfl hly_6_11 hlk_47 (hh.at 2 rfl) dX4_isEscape_2 ?_
  refine lv_iconst (v := 1) hx hb dX4_isEscape_5 (by decide) ?_
  refine lv_iadd hx hb dX4_isEscape_6 ?_
  refine lv_topi (fun z_1 ez_1 => ?_)
  have hz_1 : z_1.toInt = pt.toInt + 1 := by rw [ez_1]; exact jb_iadd2 (rfl) ((by decide)) (by omega)
  refine j7_put hx hb hown hK hh hB hAp hB6 (C := RX4) (T := TX4) (N := 12) rfl (by decide) hg_r0 (i := 11) (by decide) hly_6_11 rfl hlk_47 rfl (ty := .int) (v := .int z_1) (by decide +kernel) rfl rfl (⟨_, rfl, by omega, by omega⟩) rfl (L1 := [(r0, 6, 9, .ref rb), (r0, 6, 10, .int pe), (r0, 6, 8, .int pu), (r0, 6, 6, .ref jun)]) [0, 1, 3, 4] rfl rfl rfl dX4_isEscape_7 (fun H_2 locs_2 hh_2 => ?_)
  clear hh
  refine lv_aload_n hx hb dX4_isEscape_10 rfl (lv_at hl 0 rfl) ?_
  refine va_calli (A0 := jA base) (H0 := s.heap) (va_runV (As := []) (rest := []) ⟨hx, hb, hml, hown, hts⟩ (uX4_peekJ l dC dI ca base B hB hAp hB6 hB100 G0 H_2 r0 rb n_rb pe z_1 fb) (cwV 0 hts (jgV (jWr_19 _ (List.mem_of_getElem? (i := 19) rfl)) (jWr_19 _ (List.mem_of_getElem? (i := 20) rfl)) (jWr_19 _ (List.mem_of_getElem? (i := 21) rfl)) (jWr_1 _ (List.mem_of_getElem? (i := 22) rfl)) (jWr_19 _ (List.mem_of_getElem? (i := 22) rfl))) rfl rfl rfl (by decide +kernel) ⟨by rw [← hR]; exact Nat.le_of_ble_eq_true rfl, by rw [← hR]; exact Nat.le_of_ble_eq_true rfl⟩) ⟨fun a U g mk q => by obtain ⟨q0, q1, q2, qK, q10, q11, q12, q13, q14⟩ := q; exact ⟨q0, q1, q2, jG.calling g mk a qK, q10, q11, q12, q13, q14⟩, hh_2.recv (C := RX4) (T := TX4) (N := 12) hB6 rfl (by decide) hg_r0 hK, fun U hU hW => ⟨rfl, hU, hh_2.2.1, hG.step hW hU hh_2.1, hg_r0, hg_rb, (hh_2.2.2.1.sub (L1 := [(r0, 6, 9, .ref rb), (r0, 6, 10, .int pe), (r0, 6, 11, .int z_1)]) [1, 2, 0] rfl), (hh_2.2.2.2.2.2.2.2.1.sub (L1 := [(rb, 100, n_rb, ca 0, fb)]) [0] rfl), by first | omega | (refine ⟨?_, ?_, ?_, ?_, ?_⟩ <;> (first | omega | rfl | assumption | decide | exact Or.inl rfl | exact Or.inr rfl | (simp only; omega)))⟩⟩ rfl rfl hl.1 rfl (lv_room (Nat.le_of_ble_eq_true rfl)) dX4_isEscape_11 ⟨Nat.zero_le _, Nat.zero_le _⟩) hh_2.1 (fun q _ h => h) (fun q h => h) (fun r_4 u_3 t_3 H_3 locs_3 ht_3 hvm_3 hr_4 hb_3 hz_3 hk_3 hS_3 => ?_)
  rw [ht_3] at hb_3
  obtain ⟨hb_31, hb_32, hb_33, hb_34, hb_35⟩ := hb_3
  have hh_3 : jSt (dC, dI) B base G0 G0 EX4_isEscapeJ s.heap 0 0 [(r0, 6, 11, .int z_1), (r0, 6, 9, .ref rb), (r0, 6, 10, .int pe), (r0, 6, 8, .int pu), (r0, 6, 6, .ref jun)] [(rb, 100, n_rb, ca 0, fb), (jun, 146, 3000, ca 1, fu)] [] H_3 locs_3 := ((hh_2.call hb_31 hb_32 hb_33 hb_34 hS_3 rfl (L1 := [(r0, 6, 11, .int z_1), (r0, 6, 9, .ref rb), (r0, 6, 10, .int pe), (r0, 6, 8, .int pu), (r0, 6, 6, .ref jun)]) [0, 1, 2, 3, 4] rfl rfl (M1 := [(rb, 100, n_rb, ca 0, fb), (jun, 146, 3000, ca 1, fu)]) [0, 1] rfl rfl (I1 := []) [] rfl rfl).more hb_35)
  clear hh_2 ht_3 hvm_3 hz_3 hk_3 hS_3 hb_31 hb_32 hb_33 hb_34 hb_35
  obtain ⟨hr_4_0, hr_4_1, hr_4_2⟩ := hr_4
  refine lv_istore_n (lv' := [(1, .int r_4), (0, .ref r0)]) hx hb dX4_isEscape_14 rfl hl (by decide) rfl (fun ls hl => ?_)
  have hpk : r_4.toInt = jjK (jB8 fb) pe.toInt (pt.toInt + 1) := hr_4_0.trans (by rw [show z_1.toInt = pt.toInt + 1 by omega])
  refine lv_aload_n hx hb dX4_isEscape_15 rfl (lv_at hl 1 rfl) ?_
  refine lv_dup hx hb dX4_isEscape_16 rfl ?_
  refine j7_read hx hb hown hK (C := RX4) (T := TX4) (N := 12) rfl hly_6_11 hlk_47 (hh_3.at 0 rfl) dX4_isEscape_17 ?_
  refine lv_iconst (v := 1) hx hb dX4_isEscape_20 (by decide) ?_
  refine lv_iadd hx hb dX4_isEscape_21 ?_
  refine lv_topi (fun z_5 ez_5 => ?_)
  have hz_5 : z_5.toInt = z_1.toInt + 1 := by rw [ez_5]; exact jb_iadd2 (rfl) ((by decide)) (by omega)
  refine j7_put hx hb hown hK hh_3 hB hAp hB6 (C := RX4) (T := TX4) (N := 12) rfl (by decide) hg_r0 (i := 11) (by decide) hly_6_11 rfl hlk_47 rfl (ty := .int) (v := .int z_5) (by decide +kernel) rfl rfl (⟨_, rfl, by omega, by omega⟩) rfl (L1 := [(r0, 6, 9, .ref rb), (r0, 6, 10, .int pe), (r0, 6, 8, .int pu), (r0, 6, 6, .ref jun)]) [1, 2, 3, 4] rfl rfl rfl dX4_isEscape_22 (fun H_6 locs_6 hh_6 => ?_)
  clear hh_3
  refine lv_iload_n hx hb dX4_isEscape_25 rfl (lv_at hl 0 rfl) ?_
  have C100 : ∀ (H_8 : Heap) (locs_8 : List Loc), jSt (dC, dI) B base G0 G0 EX4_isEscapeJ s.heap 0 0 [(r0, 6, 11, .int z_5), (r0, 6, 9, .ref rb), (r0, 6, 10, .int pe), (r0, 6, 8, .int pu), (r0, 6, 6, .ref jun)] [(rb, 100, n_rb, ca 0, fb), (jun, 146, 3000, ca 1, fu)] [] H_8 locs_8 → (r_4.toInt = 34 ∨ r_4.toInt = 47 ∨ r_4.toInt = 92) → ∀ ls : Array Slot, lv_has ls 2 [(0, .ref r0), (1, .int r_4)] → W p l e R s m ([.ref r0] : List Value).toArray below meth c H_8 locs_8 0 0 Q (F0 m 100 ls []) := by
    intro  H_8 locs_8 hh_8  hi_8 ls hl
    refine lv_aload_n hx hb dX4_isEscape_100 rfl (lv_at hl 0 rfl) ?_
    refine lv_iload_n hx hb dX4_isEscape_101 rfl (lv_at hl 1 rfl) ?_
    refine va_callv (A0 := jA base) (H0 := s.heap) (va_runV (As := [.int r_4]) (rest := []) ⟨hx, hb, hml, hown, hts⟩ (uX4_addUnitJ l dC dI ca base B hB hAp hB6 hB146 G0 H_8 r0 r_4 pu jun fu) (cwV 1 hts (jgV (jWr_21 _ (List.mem_of_getElem? (i := 13) rfl)) (jWr_21 _ (List.mem_of_getElem? (i := 14) rfl)) (jWr_21 _ (List.mem_of_getElem? (i := 15) rfl)) (jWr_1 _ (List.mem_of_getElem? (i := 22) rfl)) (jWr_21 _ (List.mem_of_getElem? (i := 16) rfl))) rfl rfl rfl (by decide +kernel) ⟨by rw [← hR]; exact Nat.le_of_ble_eq_true rfl, by rw [← hR]; exact Nat.le_of_ble_eq_true rfl⟩) ⟨fun a U g mk q => by obtain ⟨q0, q1, q2, qK, q10, q11, q12, q13, q14⟩ := q; exact ⟨q0, q1, q2, jG.calling g mk a qK, q10, q11, q12, q13, q14⟩, hh_8.recv (C := RX4) (T := TX4) (N := 12) hB6 rfl (by decide) hg_r0 hK, fun U hU hW => ⟨rfl, hU, hh_8.2.1, hG.step hW hU hh_8.1, hg_r0, hg_jun, (hh_8.2.2.1.sub (L1 := [(r0, 6, 8, .int pu), (r0, 6, 6, .ref jun)]) [3, 4] rfl), (hh_8.2.2.2.2.2.2.2.1.sub (L1 := [(jun, 146, 3000, ca 1, fu)]) [1] rfl), by first | omega | (refine ⟨?_, ?_⟩ <;> (first | omega | rfl | assumption | decide | exact Or.inl rfl | exact Or.inr rfl | (simp only; omega)))⟩⟩ rfl rfl hl.1 rfl (lv_room (Nat.le_of_ble_eq_true rfl)) dX4_isEscape_102 ⟨Nat.zero_le _, Nat.zero_le _⟩) hh_8.1 (fun q _ h => h) (fun q h => h) (fun u_9 t_9 H_9 locs_9 ht_9 hvm_9 hr_10 hb_9 hz_9 hk_9 hS_9 => ?_)
    obtain ⟨qu_9, gu_9⟩ := u_9
    rw [ht_9] at hb_9
    obtain ⟨⟨hb_91, hb_92, hb_93, hb_94, hb_95⟩, hb_96⟩ := hb_9
    have hh_9 : jSt (dC, dI) B base G0 G0 EX4_isEscapeJ s.heap 0 0 [(r0, 6, 8, .int qu_9), (r0, 6, 11, .int z_5), (r0, 6, 9, .ref rb), (r0, 6, 10, .int pe), (r0, 6, 6, .ref jun)] [(jun, 146, 3000, ca 1, gu_9), (rb, 100, n_rb, ca 0, fb)] [] H_9 locs_9 := ((hh_8.call hb_91 hb_92 hb_93 hb_94 hS_9 rfl (L1 := [(r0, 6, 11, .int z_5), (r0, 6, 9, .ref rb), (r0, 6, 10, .int pe), (r0, 6, 6, .ref jun)]) [0, 1, 2, 4] rfl rfl (M1 := [(rb, 100, n_rb, ca 0, fb)]) [0] rfl rfl (I1 := []) [] rfl rfl).more hb_95).moreM hb_96
    clear hh_8 ht_9 hvm_9 hz_9 hk_9 hS_9 hb_91 hb_92 hb_93 hb_94 hb_95
    clear hb_96
    try simp only at hr_10
    obtain ⟨hr_10_0, hr_10_1, hr_10_2⟩ := hr_10
    refine lv_iconst (v := 1) hx hb dX4_isEscape_105 (by decide) ?_
    rw [hQ]
    exact W.zret (v := 1) hx hb hr (jb_nz (Or.inr rfl)) (fun t ht hW => ⟨⟨1, (z_5, qu_9, gu_9), rfl, ⟨(Or.inr rfl), by (try dsimp only); have hlt9 := jjK.lt hpk (by omega); refine ⟨jjQe.one (jjE_s hpk (by omega) (jjEs.of (by omega)).symm (by omega)) (by omega) (by omega) hr_10_1 hr_10_2, by omega, by omega, by omega, by omega, by omega⟩⟩, ⟨hh_9.rt (M1 := [(r0, 6, 11, .int z_5), (r0, 6, 8, .int qu_9)]) [1, 0] rfl ht, by rw [ht]; exact hh_9.2.2.2.2.2.2.2.1.sub [0] rfl⟩⟩, by rw [ht]; try exact hh_9.1.1, fun q h9 hq => by rw [ht]; try exact hh_9.1.2.1 q h9 hq⟩) hh_9.1.2.2 dX4_isEscape_106
  rcases (by omega : (r_4.toInt ≠ 34 ∧ r_4.toInt ≠ 47 ∧ r_4.toInt ≠ 92 ∧ r_4.toInt ≠ 98 ∧ r_4.toInt ≠ 102 ∧ r_4.toInt ≠ 110 ∧ r_4.toInt ≠ 114 ∧ r_4.toInt ≠ 116) ∨ r_4.toInt = 34 ∨ r_4.toInt = 47 ∨ r_4.toInt = 92 ∨ r_4.toInt = 98 ∨ r_4.toInt = 102 ∨ r_4.toInt = 110 ∨ r_4.toInt = 114 ∨ r_4.toInt = 116) with c_7 | c_7 | c_7 | c_7 | c_7 | c_7 | c_7 | c_7 | c_7
  · refine lv_lookup (off := 121) (tgt := 147) hx hb dX4_isEscape_26 (by decide) (by show Op.lookupswitch.offset [(34, 74), (47, 74), (92, 74), (98, 81), (102, 89), (110, 97), (114, 105), (116, 113)] 121 r_4.toInt = 121; simp only [Op.lookupswitch.offset]; rw [if_neg (by omega), if_neg (by omega), if_neg (by omega), if_neg (by omega), if_neg (by omega), if_neg (by omega), if_neg (by omega), if_neg (by omega)]) (by decide) ?_
    refine lv_iconst (v := 0) hx hb dX4_isEscape_147 (by decide) ?_
    rw [hQ]
    exact W.zret (v := 0) hx hb hr (jb_nz (Or.inl rfl)) (fun t ht hW => ⟨⟨0, (z_5, pu, fu), rfl, ⟨(Or.inl rfl), by (try dsimp only); refine ⟨jjQe.no (jjE_n hpk (by omega) (by unfold jjEs; rw [if_neg (by omega), if_neg (by omega), if_neg (by omega), if_neg (by omega), if_neg (by omega), if_neg (by omega)]; decide)) (by omega), by omega, by omega, by omega, by omega, by omega⟩⟩, ⟨hh_6.rt (M1 := [(r0, 6, 11, .int z_5), (r0, 6, 8, .int pu)]) [0, 3] rfl ht, by rw [ht]; exact hh_6.2.2.2.2.2.2.2.1.sub [1] rfl⟩⟩, by rw [ht]; try exact hh_6.1.1, fun q h9 hq => by rw [ht]; try exact hh_6.1.2.1 q h9 hq⟩) hh_6.1.2.2 dX4_isEscape_148
  · refine lv_lookup (off := 74) (tgt := 100) hx hb dX4_isEscape_26 (by decide) (by rw [c_7]; rfl) (by decide) ?_
    exact C100  _ _ hh_6 (by first | omega | rfl | assumption | decide | exact Or.inl rfl | exact Or.inr rfl | (simp only; omega)) _ (lv_sub hl [1, 0] rfl)
  · refine lv_lookup (off := 74) (tgt := 100) hx hb dX4_isEscape_26 (by decide) (by rw [c_7]; rfl) (by decide) ?_
    exact C100  _ _ hh_6 (by first | omega | rfl | assumption | decide | exact Or.inl rfl | exact Or.inr rfl | (simp only; omega)) _ (lv_sub hl [1, 0] rfl)
  · refine lv_lookup (off := 74) (tgt := 100) hx hb dX4_isEscape_26 (by decide) (by rw [c_7]; rfl) (by decide) ?_
    exact C100  _ _ hh_6 (by first | omega | rfl | assumption | decide | exact Or.inl rfl | exact Or.inr rfl | (simp only; omega)) _ (lv_sub hl [1, 0] rfl)
  · refine lv_lookup (off := 81) (tgt := 107) hx hb dX4_isEscape_26 (by decide) (by rw [c_7]; rfl) (by decide) ?_
    refine lv_aload_n hx hb dX4_isEscape_107 rfl (lv_at hl 1 rfl) ?_
    refine lv_bipush (v := 8) hx hb dX4_isEscape_108 (by decide) ?_
    refine va_callv (A0 := jA base) (H0 := s.heap) (va_runV (As := [.int 8]) (rest := []) ⟨hx, hb, hml, hown, hts⟩ (uX4_addUnitJ l dC dI ca base B hB hAp hB6 hB146 G0 H_6 r0 8 pu jun fu) (cwV 1 hts (jgV (jWr_21 _ (List.mem_of_getElem? (i := 13) rfl)) (jWr_21 _ (List.mem_of_getElem? (i := 14) rfl)) (jWr_21 _ (List.mem_of_getElem? (i := 15) rfl)) (jWr_1 _ (List.mem_of_getElem? (i := 22) rfl)) (jWr_21 _ (List.mem_of_getElem? (i := 16) rfl))) rfl rfl rfl (by decide +kernel) ⟨by rw [← hR]; exact Nat.le_of_ble_eq_true rfl, by rw [← hR]; exact Nat.le_of_ble_eq_true rfl⟩) ⟨fun a U g mk q => by obtain ⟨q0, q1, q2, qK, q10, q11, q12, q13, q14⟩ := q; exact ⟨q0, q1, q2, jG.calling g mk a qK, q10, q11, q12, q13, q14⟩, hh_6.recv (C := RX4) (T := TX4) (N := 12) hB6 rfl (by decide) hg_r0 hK, fun U hU hW => ⟨rfl, hU, hh_6.2.1, hG.step hW hU hh_6.1, hg_r0, hg_jun, (hh_6.2.2.1.sub (L1 := [(r0, 6, 8, .int pu), (r0, 6, 6, .ref jun)]) [3, 4] rfl), (hh_6.2.2.2.2.2.2.2.1.sub (L1 := [(jun, 146, 3000, ca 1, fu)]) [1] rfl), by first | omega | (refine ⟨?_, ?_⟩ <;> (first | omega | rfl | assumption | decide | exact Or.inl rfl | exact Or.inr rfl | (simp only; omega)))⟩⟩ rfl rfl hl.1 rfl (lv_room (Nat.le_of_ble_eq_true rfl)) dX4_isEscape_110 ⟨Nat.zero_le _, Nat.zero_le _⟩) hh_6.1 (fun q _ h => h) (fun q h => h) (fun u_11 t_11 H_11 locs_11 ht_11 hvm_11 hr_12 hb_11 hz_11 hk_11 hS_11 => ?_)
    obtain ⟨qu_11, gu_11⟩ := u_11
    rw [ht_11] at hb_11
    obtain ⟨⟨hb_111, hb_112, hb_113, hb_114, hb_115⟩, hb_116⟩ := hb_11
    have hh_11 : jSt (dC, dI) B base G0 G0 EX4_isEscapeJ s.heap 0 0 [(r0, 6, 8, .int qu_11), (r0, 6, 11, .int z_5), (r0, 6, 9, .ref rb), (r0, 6, 10, .int pe), (r0, 6, 6, .ref jun)] [(jun, 146, 3000, ca 1, gu_11), (rb, 100, n_rb, ca 0, fb)] [] H_11 locs_11 := ((hh_6.call hb_111 hb_112 hb_113 hb_114 hS_11 rfl (L1 := [(r0, 6, 11, .int z_5), (r0, 6, 9, .ref rb), (r0, 6, 10, .int pe), (r0, 6, 6, .ref jun)]) [0, 1, 2, 4] rfl rfl (M1 := [(rb, 100, n_rb, ca 0, fb)]) [0] rfl rfl (I1 := []) [] rfl rfl).more hb_115).moreM hb_116
    clear hh_6 ht_11 hvm_11 hz_11 hk_11 hS_11 hb_111 hb_112 hb_113 hb_114 hb_115
    clear hb_116
    try simp only at hr_12
    obtain ⟨hr_12_0, hr_12_1, hr_12_2⟩ := hr_12
    refine lv_iconst (v := 1) hx hb dX4_isEscape_113 (by decide) ?_
    rw [hQ]
    exact W.zret (v := 1) hx hb hr (jb_nz (Or.inr rfl)) (fun t ht hW => ⟨⟨1, (z_5, qu_11, gu_11), rfl, ⟨(Or.inr rfl), by (try dsimp only); have hlt9 := jjK.lt hpk (by omega); refine ⟨jjQe.one (jjE_s hpk (by omega) (by unfold jjEs; rw [if_neg (by omega), if_pos (by omega)]; exact hk8) (by omega)) (by omega) (by omega) hr_12_1 hr_12_2, by omega, by omega, by omega, by omega, by omega⟩⟩, ⟨hh_11.rt (M1 := [(r0, 6, 11, .int z_5), (r0, 6, 8, .int qu_11)]) [1, 0] rfl ht, by rw [ht]; exact hh_11.2.2.2.2.2.2.2.1.sub [0] rfl⟩⟩, by rw [ht]; try exact hh_11.1.1, fun q h9 hq => by rw [ht]; try exact hh_11.1.2.1 q h9 hq⟩) hh_11.1.2.2 dX4_isEscape_114
  · refine lv_lookup (off := 89) (tgt := 115) hx hb dX4_isEscape_26 (by decide) (by rw [c_7]; rfl) (by decide) ?_
    refine lv_aload_n hx hb dX4_isEscape_115 rfl (lv_at hl 1 rfl) ?_
    refine lv_bipush (v := 12) hx hb dX4_isEscape_116 (by decide) ?_
    refine va_callv (A0 := jA base) (H0 := s.heap) (va_runV (As := [.int 12]) (rest := []) ⟨hx, hb, hml, hown, hts⟩ (uX4_addUnitJ l dC dI ca base B hB hAp hB6 hB146 G0 H_6 r0 12 pu jun fu) (cwV 1 hts (jgV (jWr_21 _ (List.mem_of_getElem? (i := 13) rfl)) (jWr_21 _ (List.mem_of_getElem? (i := 14) rfl)) (jWr_21 _ (List.mem_of_getElem? (i := 15) rfl)) (jWr_1 _ (List.mem_of_getElem? (i := 22) rfl)) (jWr_21 _ (List.mem_of_getElem? (i := 16) rfl))) rfl rfl rfl (by decide +kernel) ⟨by rw [← hR]; exact Nat.le_of_ble_eq_true rfl, by rw [← hR]; exact Nat.le_of_ble_eq_true rfl⟩) ⟨fun a U g mk q => by obtain ⟨q0, q1, q2, qK, q10, q11, q12, q13, q14⟩ := q; exact ⟨q0, q1, q2, jG.calling g mk a qK, q10, q11, q12, q13, q14⟩, hh_6.recv (C := RX4) (T := TX4) (N := 12) hB6 rfl (by decide) hg_r0 hK, fun U hU hW => ⟨rfl, hU, hh_6.2.1, hG.step hW hU hh_6.1, hg_r0, hg_jun, (hh_6.2.2.1.sub (L1 := [(r0, 6, 8, .int pu), (r0, 6, 6, .ref jun)]) [3, 4] rfl), (hh_6.2.2.2.2.2.2.2.1.sub (L1 := [(jun, 146, 3000, ca 1, fu)]) [1] rfl), by first | omega | (refine ⟨?_, ?_⟩ <;> (first | omega | rfl | assumption | decide | exact Or.inl rfl | exact Or.inr rfl | (simp only; omega)))⟩⟩ rfl rfl hl.1 rfl (lv_room (Nat.le_of_ble_eq_true rfl)) dX4_isEscape_118 ⟨Nat.zero_le _, Nat.zero_le _⟩) hh_6.1 (fun q _ h => h) (fun q h => h) (fun u_13 t_13 H_13 locs_13 ht_13 hvm_13 hr_14 hb_13 hz_13 hk_13 hS_13 => ?_)
    obtain ⟨qu_13, gu_13⟩ := u_13
    rw [ht_13] at hb_13
    obtain ⟨⟨hb_131, hb_132, hb_133, hb_134, hb_135⟩, hb_136⟩ := hb_13
    have hh_13 : jSt (dC, dI) B base G0 G0 EX4_isEscapeJ s.heap 0 0 [(r0, 6, 8, .int qu_13), (r0, 6, 11, .int z_5), (r0, 6, 9, .ref rb), (r0, 6, 10, .int pe), (r0, 6, 6, .ref jun)] [(jun, 146, 3000, ca 1, gu_13), (rb, 100, n_rb, ca 0, fb)] [] H_13 locs_13 := ((hh_6.call hb_131 hb_132 hb_133 hb_134 hS_13 rfl (L1 := [(r0, 6, 11, .int z_5), (r0, 6, 9, .ref rb), (r0, 6, 10, .int pe), (r0, 6, 6, .ref jun)]) [0, 1, 2, 4] rfl rfl (M1 := [(rb, 100, n_rb, ca 0, fb)]) [0] rfl rfl (I1 := []) [] rfl rfl).more hb_135).moreM hb_136
    clear hh_6 ht_13 hvm_13 hz_13 hk_13 hS_13 hb_131 hb_132 hb_133 hb_134 hb_135
    clear hb_136
    try simp only at hr_14
    obtain ⟨hr_14_0, hr_14_1, hr_14_2⟩ := hr_14
    refine lv_iconst (v := 1) hx hb dX4_isEscape_121 (by decide) ?_
    rw [hQ]
    exact W.zret (v := 1) hx hb hr (jb_nz (Or.inr rfl)) (fun t ht hW => ⟨⟨1, (z_5, qu_13, gu_13), rfl, ⟨(Or.inr rfl), by (try dsimp only); have hlt9 := jjK.lt hpk (by omega); refine ⟨jjQe.one (jjE_s hpk (by omega) (by unfold jjEs; rw [if_neg (by omega), if_neg (by omega), if_pos (by omega)]; exact hk12) (by omega)) (by omega) (by omega) hr_14_1 hr_14_2, by omega, by omega, by omega, by omega, by omega⟩⟩, ⟨hh_13.rt (M1 := [(r0, 6, 11, .int z_5), (r0, 6, 8, .int qu_13)]) [1, 0] rfl ht, by rw [ht]; exact hh_13.2.2.2.2.2.2.2.1.sub [0] rfl⟩⟩, by rw [ht]; try exact hh_13.1.1, fun q h9 hq => by rw [ht]; try exact hh_13.1.2.1 q h9 hq⟩) hh_13.1.2.2 dX4_isEscape_122
  · refine lv_lookup (off := 97) (tgt := 123) hx hb dX4_isEscape_26 (by decide) (by rw [c_7]; rfl) (by decide) ?_
    refine lv_aload_n hx hb dX4_isEscape_123 rfl (lv_at hl 1 rfl) ?_
    refine lv_bipush (v := 10) hx hb dX4_isEscape_124 (by decide) ?_
    refine va_callv (A0 := jA base) (H0 := s.heap) (va_runV (As := [.int 10]) (rest := []) ⟨hx, hb, hml, hown, hts⟩ (uX4_addUnitJ l dC dI ca base B hB hAp hB6 hB146 G0 H_6 r0 10 pu jun fu) (cwV 1 hts (jgV (jWr_21 _ (List.mem_of_getElem? (i := 13) rfl)) (jWr_21 _ (List.mem_of_getElem? (i := 14) rfl)) (jWr_21 _ (List.mem_of_getElem? (i := 15) rfl)) (jWr_1 _ (List.mem_of_getElem? (i := 22) rfl)) (jWr_21 _ (List.mem_of_getElem? (i := 16) rfl))) rfl rfl rfl (by decide +kernel) ⟨by rw [← hR]; exact Nat.le_of_ble_eq_true rfl, by rw [← hR]; exact Nat.le_of_ble_eq_true rfl⟩) ⟨fun a U g mk q => by obtain ⟨q0, q1, q2, qK, q10, q11, q12, q13, q14⟩ := q; exact ⟨q0, q1, q2, jG.calling g mk a qK, q10, q11, q12, q13, q14⟩, hh_6.recv (C := RX4) (T := TX4) (N := 12) hB6 rfl (by decide) hg_r0 hK, fun U hU hW => ⟨rfl, hU, hh_6.2.1, hG.step hW hU hh_6.1, hg_r0, hg_jun, (hh_6.2.2.1.sub (L1 := [(r0, 6, 8, .int pu), (r0, 6, 6, .ref jun)]) [3, 4] rfl), (hh_6.2.2.2.2.2.2.2.1.sub (L1 := [(jun, 146, 3000, ca 1, fu)]) [1] rfl), by first | omega | (refine ⟨?_, ?_⟩ <;> (first | omega | rfl | assumption | decide | exact Or.inl rfl | exact Or.inr rfl | (simp only; omega)))⟩⟩ rfl rfl hl.1 rfl (lv_room (Nat.le_of_ble_eq_true rfl)) dX4_isEscape_126 ⟨Nat.zero_le _, Nat.zero_le _⟩) hh_6.1 (fun q _ h => h) (fun q h => h) (fun u_15 t_15 H_15 locs_15 ht_15 hvm_15 hr_16 hb_15 hz_15 hk_15 hS_15 => ?_)
    obtain ⟨qu_15, gu_15⟩ := u_15
    rw [ht_15] at hb_15
    obtain ⟨⟨hb_151, hb_152, hb_153, hb_154, hb_155⟩, hb_156⟩ := hb_15
    have hh_15 : jSt (dC, dI) B base G0 G0 EX4_isEscapeJ s.heap 0 0 [(r0, 6, 8, .int qu_15), (r0, 6, 11, .int z_5), (r0, 6, 9, .ref rb), (r0, 6, 10, .int pe), (r0, 6, 6, .ref jun)] [(jun, 146, 3000, ca 1, gu_15), (rb, 100, n_rb, ca 0, fb)] [] H_15 locs_15 := ((hh_6.call hb_151 hb_152 hb_153 hb_154 hS_15 rfl (L1 := [(r0, 6, 11, .int z_5), (r0, 6, 9, .ref rb), (r0, 6, 10, .int pe), (r0, 6, 6, .ref jun)]) [0, 1, 2, 4] rfl rfl (M1 := [(rb, 100, n_rb, ca 0, fb)]) [0] rfl rfl (I1 := []) [] rfl rfl).more hb_155).moreM hb_156
    clear hh_6 ht_15 hvm_15 hz_15 hk_15 hS_15 hb_151 hb_152 hb_153 hb_154 hb_155
    clear hb_156
    try simp only at hr_16
    obtain ⟨hr_16_0, hr_16_1, hr_16_2⟩ := hr_16
    refine lv_iconst (v := 1) hx hb dX4_isEscape_129 (by decide) ?_
    rw [hQ]
    exact W.zret (v := 1) hx hb hr (jb_nz (Or.inr rfl)) (fun t ht hW => ⟨⟨1, (z_5, qu_15, gu_15), rfl, ⟨(Or.inr rfl), by (try dsimp only); have hlt9 := jjK.lt hpk (by omega); refine ⟨jjQe.one (jjE_s hpk (by omega) (by unfold jjEs; rw [if_neg (by omega), if_neg (by omega), if_neg (by omega), if_pos (by omega)]; exact hk10) (by omega)) (by omega) (by omega) hr_16_1 hr_16_2, by omega, by omega, by omega, by omega, by omega⟩⟩, ⟨hh_15.rt (M1 := [(r0, 6, 11, .int z_5), (r0, 6, 8, .int qu_15)]) [1, 0] rfl ht, by rw [ht]; exact hh_15.2.2.2.2.2.2.2.1.sub [0] rfl⟩⟩, by rw [ht]; try exact hh_15.1.1, fun q h9 hq => by rw [ht]; try exact hh_15.1.2.1 q h9 hq⟩) hh_15.1.2.2 dX4_isEscape_130
  · refine lv_lookup (off := 105) (tgt := 131) hx hb dX4_isEscape_26 (by decide) (by rw [c_7]; rfl) (by decide) ?_
    refine lv_aload_n hx hb dX4_isEscape_131 rfl (lv_at hl 1 rfl) ?_
    refine lv_bipush (v := 13) hx hb dX4_isEscape_132 (by decide) ?_
    refine va_callv (A0 := jA base) (H0 := s.heap) (va_runV (As := [.int 13]) (rest := []) ⟨hx, hb, hml, hown, hts⟩ (uX4_addUnitJ l dC dI ca base B hB hAp hB6 hB146 G0 H_6 r0 13 pu jun fu) (cwV 1 hts (jgV (jWr_21 _ (List.mem_of_getElem? (i := 13) rfl)) (jWr_21 _ (List.mem_of_getElem? (i := 14) rfl)) (jWr_21 _ (List.mem_of_getElem? (i := 15) rfl)) (jWr_1 _ (List.mem_of_getElem? (i := 22) rfl)) (jWr_21 _ (List.mem_of_getElem? (i := 16) rfl))) rfl rfl rfl (by decide +kernel) ⟨by rw [← hR]; exact Nat.le_of_ble_eq_true rfl, by rw [← hR]; exact Nat.le_of_ble_eq_true rfl⟩) ⟨fun a U g mk q => by obtain ⟨q0, q1, q2, qK, q10, q11, q12, q13, q14⟩ := q; exact ⟨q0, q1, q2, jG.calling g mk a qK, q10, q11, q12, q13, q14⟩, hh_6.recv (C := RX4) (T := TX4) (N := 12) hB6 rfl (by decide) hg_r0 hK, fun U hU hW => ⟨rfl, hU, hh_6.2.1, hG.step hW hU hh_6.1, hg_r0, hg_jun, (hh_6.2.2.1.sub (L1 := [(r0, 6, 8, .int pu), (r0, 6, 6, .ref jun)]) [3, 4] rfl), (hh_6.2.2.2.2.2.2.2.1.sub (L1 := [(jun, 146, 3000, ca 1, fu)]) [1] rfl), by first | omega | (refine ⟨?_, ?_⟩ <;> (first | omega | rfl | assumption | decide | exact Or.inl rfl | exact Or.inr rfl | (simp only; omega)))⟩⟩ rfl rfl hl.1 rfl (lv_room (Nat.le_of_ble_eq_true rfl)) dX4_isEscape_134 ⟨Nat.zero_le _, Nat.zero_le _⟩) hh_6.1 (fun q _ h => h) (fun q h => h) (fun u_17 t_17 H_17 locs_17 ht_17 hvm_17 hr_18 hb_17 hz_17 hk_17 hS_17 => ?_)
    obtain ⟨qu_17, gu_17⟩ := u_17
    rw [ht_17] at hb_17
    obtain ⟨⟨hb_171, hb_172, hb_173, hb_174, hb_175⟩, hb_176⟩ := hb_17
    have hh_17 : jSt (dC, dI) B base G0 G0 EX4_isEscapeJ s.heap 0 0 [(r0, 6, 8, .int qu_17), (r0, 6, 11, .int z_5), (r0, 6, 9, .ref rb), (r0, 6, 10, .int pe), (r0, 6, 6, .ref jun)] [(jun, 146, 3000, ca 1, gu_17), (rb, 100, n_rb, ca 0, fb)] [] H_17 locs_17 := ((hh_6.call hb_171 hb_172 hb_173 hb_174 hS_17 rfl (L1 := [(r0, 6, 11, .int z_5), (r0, 6, 9, .ref rb), (r0, 6, 10, .int pe), (r0, 6, 6, .ref jun)]) [0, 1, 2, 4] rfl rfl (M1 := [(rb, 100, n_rb, ca 0, fb)]) [0] rfl rfl (I1 := []) [] rfl rfl).more hb_175).moreM hb_176
    clear hh_6 ht_17 hvm_17 hz_17 hk_17 hS_17 hb_171 hb_172 hb_173 hb_174 hb_175
    clear hb_176
    try simp only at hr_18
    obtain ⟨hr_18_0, hr_18_1, hr_18_2⟩ := hr_18
    refine lv_iconst (v := 1) hx hb dX4_isEscape_137 (by decide) ?_
    rw [hQ]
    exact W.zret (v := 1) hx hb hr (jb_nz (Or.inr rfl)) (fun t ht hW => ⟨⟨1, (z_5, qu_17, gu_17), rfl, ⟨(Or.inr rfl), by (try dsimp only); have hlt9 := jjK.lt hpk (by omega); refine ⟨jjQe.one (jjE_s hpk (by omega) (by unfold jjEs; rw [if_neg (by omega), if_neg (by omega), if_neg (by omega), if_neg (by omega), if_pos (by omega)]; exact hk13) (by omega)) (by omega) (by omega) hr_18_1 hr_18_2, by omega, by omega, by omega, by omega, by omega⟩⟩, ⟨hh_17.rt (M1 := [(r0, 6, 11, .int z_5), (r0, 6, 8, .int qu_17)]) [1, 0] rfl ht, by rw [ht]; exact hh_17.2.2.2.2.2.2.2.1.sub [0] rfl⟩⟩, by rw [ht]; try exact hh_17.1.1, fun q h9 hq => by rw [ht]; try exact hh_17.1.2.1 q h9 hq⟩) hh_17.1.2.2 dX4_isEscape_138
  · refine lv_lookup (off := 113) (tgt := 139) hx hb dX4_isEscape_26 (by decide) (by rw [c_7]; rfl) (by decide) ?_
    refine lv_aload_n hx hb dX4_isEscape_139 rfl (lv_at hl 1 rfl) ?_
    refine lv_bipush (v := 9) hx hb dX4_isEscape_140 (by decide) ?_
    refine va_callv (A0 := jA base) (H0 := s.heap) (va_runV (As := [.int 9]) (rest := []) ⟨hx, hb, hml, hown, hts⟩ (uX4_addUnitJ l dC dI ca base B hB hAp hB6 hB146 G0 H_6 r0 9 pu jun fu) (cwV 1 hts (jgV (jWr_21 _ (List.mem_of_getElem? (i := 13) rfl)) (jWr_21 _ (List.mem_of_getElem? (i := 14) rfl)) (jWr_21 _ (List.mem_of_getElem? (i := 15) rfl)) (jWr_1 _ (List.mem_of_getElem? (i := 22) rfl)) (jWr_21 _ (List.mem_of_getElem? (i := 16) rfl))) rfl rfl rfl (by decide +kernel) ⟨by rw [← hR]; exact Nat.le_of_ble_eq_true rfl, by rw [← hR]; exact Nat.le_of_ble_eq_true rfl⟩) ⟨fun a U g mk q => by obtain ⟨q0, q1, q2, qK, q10, q11, q12, q13, q14⟩ := q; exact ⟨q0, q1, q2, jG.calling g mk a qK, q10, q11, q12, q13, q14⟩, hh_6.recv (C := RX4) (T := TX4) (N := 12) hB6 rfl (by decide) hg_r0 hK, fun U hU hW => ⟨rfl, hU, hh_6.2.1, hG.step hW hU hh_6.1, hg_r0, hg_jun, (hh_6.2.2.1.sub (L1 := [(r0, 6, 8, .int pu), (r0, 6, 6, .ref jun)]) [3, 4] rfl), (hh_6.2.2.2.2.2.2.2.1.sub (L1 := [(jun, 146, 3000, ca 1, fu)]) [1] rfl), by first | omega | (refine ⟨?_, ?_⟩ <;> (first | omega | rfl | assumption | decide | exact Or.inl rfl | exact Or.inr rfl | (simp only; omega)))⟩⟩ rfl rfl hl.1 rfl (lv_room (Nat.le_of_ble_eq_true rfl)) dX4_isEscape_142 ⟨Nat.zero_le _, Nat.zero_le _⟩) hh_6.1 (fun q _ h => h) (fun q h => h) (fun u_19 t_19 H_19 locs_19 ht_19 hvm_19 hr_20 hb_19 hz_19 hk_19 hS_19 => ?_)
    obtain ⟨qu_19, gu_19⟩ := u_19
    rw [ht_19] at hb_19
    obtain ⟨⟨hb_191, hb_192, hb_193, hb_194, hb_195⟩, hb_196⟩ := hb_19
    have hh_19 : jSt (dC, dI) B base G0 G0 EX4_isEscapeJ s.heap 0 0 [(r0, 6, 8, .int qu_19), (r0, 6, 11, .int z_5), (r0, 6, 9, .ref rb), (r0, 6, 10, .int pe), (r0, 6, 6, .ref jun)] [(jun, 146, 3000, ca 1, gu_19), (rb, 100, n_rb, ca 0, fb)] [] H_19 locs_19 := ((hh_6.call hb_191 hb_192 hb_193 hb_194 hS_19 rfl (L1 := [(r0, 6, 11, .int z_5), (r0, 6, 9, .ref rb), (r0, 6, 10, .int pe), (r0, 6, 6, .ref jun)]) [0, 1, 2, 4] rfl rfl (M1 := [(rb, 100, n_rb, ca 0, fb)]) [0] rfl rfl (I1 := []) [] rfl rfl).more hb_195).moreM hb_196
    clear hh_6 ht_19 hvm_19 hz_19 hk_19 hS_19 hb_191 hb_192 hb_193 hb_194 hb_195
    clear hb_196
    try simp only at hr_20
    obtain ⟨hr_20_0, hr_20_1, hr_20_2⟩ := hr_20
    refine lv_iconst (v := 1) hx hb dX4_isEscape_145 (by decide) ?_
    rw [hQ]
    exact W.zret (v := 1) hx hb hr (jb_nz (Or.inr rfl)) (fun t ht hW => ⟨⟨1, (z_5, qu_19, gu_19), rfl, ⟨(Or.inr rfl), by (try dsimp only); have hlt9 := jjK.lt hpk (by omega); refine ⟨jjQe.one (jjE_s hpk (by omega) (by unfold jjEs; rw [if_neg (by omega), if_neg (by omega), if_neg (by omega), if_neg (by omega), if_neg (by omega), if_pos (by omega)]; exact hk9) (by omega)) (by omega) (by omega) hr_20_1 hr_20_2, by omega, by omega, by omega, by omega, by omega⟩⟩, ⟨hh_19.rt (M1 := [(r0, 6, 11, .int z_5), (r0, 6, 8, .int qu_19)]) [1, 0] rfl ht, by rw [ht]; exact hh_19.2.2.2.2.2.2.2.1.sub [0] rfl⟩⟩, by rw [ht]; try exact hh_19.1.1, fun q h9 hq => by rw [ht]; try exact hh_19.1.2.1 q h9 hq⟩) hh_19.1.2.2 dX4_isEscape_146
set_option maxHeartbeats 4000000 in
set_option maxRecDepth 20000 in
theorem uX4_isUnitEscapeJ (l : Launch) (dC : Nat → ClassId) (dI : Nat → Nat → Nat) (ca : Nat → ClassId) (base : Nat) (B : jF) (hB : jBok B) (hAp : jAp (dC, dI)) (hB6 : ∀ n G a H, B 6 n G a H ↔ jOb (dC, dI) 6 12 (F6 n G) a H) (hB100 : ∀ n G a H, B 100 n G a H ↔ jAr (dC, dI) (ca 0) (fun j z => True) n a H) (hB146 : ∀ n G a H, B 146 n G a H ↔ jAr (dC, dI) (ca 1) (fun j z => True) n a H) (G0 : jT) (H0 : Heap) (r0 : Nat) (rb : Nat) (n_rb : Nat) (pe : Int32) (pt : Int32) (pu : Int32) (jun : Nat) (fb : Nat → Int32) (fu : Nat → Int32) : Met l yX4_isUnitEscape (jw yX4_isUnitEscape cX4_isUnitEscape 3 (some .boolean)) ({ frames := 5, cells := 0, slots := 0, locals := 163 }) (va_Pc [.ref r0] (fun U => U.heap = H0 ∧ jX B base G0 [] H0 ∧ jG dC dI ca base U ∧ G0 r0 = some (6, 0) ∧ G0 rb = some (100, n_rb) ∧ G0 jun = some (146, 3000) ∧ jP (dC, dI) G0 H0 [(r0, 6, 9, .ref rb), (r0, 6, 10, .int pe), (r0, 6, 11, .int pt), (r0, 6, 8, .int pu), (r0, 6, 6, .ref jun)] ∧ jMc (dC, dI) G0 H0 [(rb, 100, n_rb, ca 0, fb), (jun, 146, 3000, ca 1, fu)] ∧ 0 ≤ pe.toInt ∧ pe.toInt ≤ n_rb ∧ n_rb ≤ 3000 ∧ 0 ≤ pt.toInt ∧ pt.toInt ≤ 19000 ∧ pt.toInt ≤ pe.toInt ∧ jjFt fb pe.toInt ∧ 0 ≤ pu.toInt ∧ pu.toInt + 3 ≤ pt.toInt)) (va_Qi (S := Int32 × Int32 × (Nat → Int32)) (fun r u => (r = 0 ∨ r = 1) ∧ (jjQe (jjEu (jB8 fb) pe.toInt pt.toInt) r.toInt (u.1.toInt - pt.toInt + 2) pu.toInt u.2.1.toInt fu u.2.2 ∧ pt.toInt ≤ u.1.toInt ∧ u.1.toInt ≤ pe.toInt ∧ pu.toInt ≤ u.2.1.toInt ∧ u.2.1.toInt ≤ 3000 ∧ (r.toInt = 0 ∨ u.2.1.toInt - pu.toInt ≤ u.1.toInt - pt.toInt))) (fun u t => jRt (dC, dI) B base G0 EX4_isUnitEscapeJ H0 [(r0, 6, 11, .int u.1), (r0, 6, 8, .int u.2.1)] t.heap ∧ jMc (dC, dI) G0 t.heap [(jun, 146, 3000, ca 1, u.2.2)]) (jA base)) 0 0 (jA base) := by
  refine Met.ofW (cc := cX4_isUnitEscape) (maxL := 3) (ret := (some .boolean)) (by decide) rfl ?_
  intro p e s m args below meth c s₁ Bd hml hv
  obtain ⟨rfl, hH0, hX, hG, hg_r0, hg_rb, hg_jun, hP0, hM0, hp0, hp1, hp2, hp3, hp4, hp5, hp6, hp7, hp8⟩ := hv
  have hK := hG.1
  have hx := Bd.exec
  have hb := Bd.bytes
  have hr := Bd.returns
  have hts := atoms_spec (ws := (jw yX4_isUnitEscape cX4_isUnitEscape 3 (some .boolean))) Bd.pre
  have htw : ∀ w ∈ jWl, w.before _ s = true := fun w h => hts w (List.mem_cons_of_mem _ h)
  have hown : s.vm.findClass RX4 = some m.cls := findClass_of_methodNamed Bd.named
  have hlocks := Bd.notSynchronized
  obtain ⟨Q, hQ⟩ : ∃ Q, Q = MQ below (va_Qi (S := Int32 × Int32 × (Nat → Int32)) (fun r u => (r = 0 ∨ r = 1) ∧ (jjQe (jjEu (jB8 fb) pe.toInt pt.toInt) r.toInt (u.1.toInt - pt.toInt + 2) pu.toInt u.2.1.toInt fu u.2.2 ∧ pt.toInt ≤ u.1.toInt ∧ u.1.toInt ≤ pe.toInt ∧ pu.toInt ≤ u.2.1.toInt ∧ u.2.1.toInt ≤ 3000 ∧ (r.toInt = 0 ∨ u.2.1.toInt - pu.toInt ≤ u.1.toInt - pt.toInt))) (fun u t => jRt (dC, dI) B base G0 EX4_isUnitEscapeJ H0 [(r0, 6, 11, .int u.1), (r0, 6, 8, .int u.2.1)] t.heap ∧ jMc (dC, dI) G0 t.heap [(jun, 146, 3000, ca 1, u.2.2)]) (jA base)) ([.ref r0] : List Value).toArray s 0 0 (jA base) := ⟨_, rfl⟩
  rw [← hQ]
  have hl := lv_entry ([.ref r0]) (n := 3) (Nat.le_of_ble_eq_true rfl)
  rw [lg_entry_eq]
  generalize (lg_sl ([.ref r0]) ++ List.replicate (3 - (lg_sl ([.ref r0])).length) Slot.unset).toArray = ls at hl ⊢
  have hl : lv_has ls 3 [(0, .ref r0)] := hl
  generalize hR : (headSpec (jw yX4_isUnitEscape cX4_isUnitEscape 3 (some .boolean)) ({ frames := 5, cells := 0, slots := 0, locals := 163 })).room = R
  subst hH0
  have hh : jSt (dC, dI) B base G0 G0 EX4_isUnitEscapeJ s.heap 0 0 [(r0, 6, 9, .ref rb), (r0, 6, 10, .int pe), (r0, 6, 11, .int pt), (r0, 6, 8, .int pu), (r0, 6, 6, .ref jun)] [(rb, 100, n_rb, ca 0, fb), (jun, 146, 3000, ca 1, fu)] [] s.heap [] := jSt.start hX hP0 hM0 jIs.nil
  clear hX hP0
  have hk0 : (0 : Int32).toInt = 0 := by decide
  have hk1 : (1 : Int32).toInt = 1 := by decide
  obtain ⟨str146, rstr146, hstr1460⟩ := hG.strT (o := RX4) (k := 146) (tx := "\\u") (List.mem_of_getElem? (i := 667) (by decide +kernel))
  have hTstr146 : jStrF base str146 2 (jChT "\\u") s s.heap := hstr1460.F (by decide +kernel)
  have hstr146 : jStr base str146 2 s s.heap := hTstr146.str
  refine lv_aload_n hx hb dX4_isUnitEscape_0 rfl (lv_at hl 0 rfl) ?_
  refine va_calli (A0 := jA base) (H0 := s.heap) (va_runV (As := []) (rest := []) ⟨hx, hb, hml, hown, hts⟩ (uX4_fourDigitsJ l dC dI ca base B hB hAp hB6 hB100 G0 s.heap r0 rb n_rb pe pt fb) (cwV 0 hts (jgV (jWr_21 _ (List.mem_of_getElem? (i := 5) rfl)) (jWr_21 _ (List.mem_of_getElem? (i := 6) rfl)) (jWr_21 _ (List.mem_of_getElem? (i := 7) rfl)) (jWr_1 _ (List.mem_of_getElem? (i := 22) rfl)) (jWr_21 _ (List.mem_of_getElem? (i := 8) rfl))) rfl rfl rfl (by decide +kernel) ⟨by rw [← hR]; exact Nat.le_of_ble_eq_true rfl, by rw [← hR]; exact Nat.le_of_ble_eq_true rfl⟩) ⟨fun a U g mk q => by obtain ⟨q0, q1, q2, qK, q10, q11, q12, q13, q14⟩ := q; exact ⟨q0, q1, q2, jG.calling g mk a qK, q10, q11, q12, q13, q14⟩, hh.recv (C := RX4) (T := TX4) (N := 12) hB6 rfl (by decide) hg_r0 hK, fun U hU hW => ⟨rfl, hU, hh.2.1, hG.step hW hU hh.1, hg_r0, hg_rb, (hh.2.2.1.sub (L1 := [(r0, 6, 9, .ref rb), (r0, 6, 10, .int pe), (r0, 6, 11, .int pt)]) [0, 1, 2] rfl), (hh.2.2.2.2.2.2.2.1.sub (L1 := [(rb, 100, n_rb, ca 0, fb)]) [0] rfl), by first | omega | (refine ⟨?_, ?_, ?_, ?_, ?_, ?_, ?_⟩ <;> (first | omega | rfl | assumption | decide | exact Or.inl rfl | exact Or.inr rfl | (simp only; omega)))⟩⟩ rfl rfl hl.1 rfl (lv_room (Nat.le_of_ble_eq_true rfl)) dX4_isUnitEscape_1 ⟨Nat.zero_le _, Nat.zero_le _⟩) hh.1 (fun q _ h => h) (fun q h => h) (fun r_2 u_1 t_1 H_1 locs_1 ht_1 hvm_1 hr_2 hb_1 hz_1 hk_1 hS_1 => ?_)
  obtain ⟨qt_1, rfl⟩ : ∃ z, z = u_1 := ⟨_, rfl⟩
  rw [ht_1] at hb_1
  obtain ⟨hb_11, hb_12, hb_13, hb_14, hb_15⟩ := hb_1
  have hh_1 : jSt (dC, dI) B base G0 G0 EX4_isUnitEscapeJ s.heap 0 0 [(r0, 6, 11, .int qt_1), (r0, 6, 9, .ref rb), (r0, 6, 10, .int pe), (r0, 6, 8, .int pu), (r0, 6, 6, .ref jun)] [(rb, 100, n_rb, ca 0, fb), (jun, 146, 3000, ca 1, fu)] [] H_1 locs_1 := ((hh.call hb_11 hb_12 hb_13 hb_14 hS_1 rfl (L1 := [(r0, 6, 9, .ref rb), (r0, 6, 10, .int pe), (r0, 6, 8, .int pu), (r0, 6, 6, .ref jun)]) [0, 1, 3, 4] rfl rfl (M1 := [(rb, 100, n_rb, ca 0, fb), (jun, 146, 3000, ca 1, fu)]) [0, 1] rfl rfl (I1 := []) [] rfl rfl).more hb_15)
  clear hh ht_1 hvm_1 hz_1 hk_1 hS_1 hb_11 hb_12 hb_13 hb_14 hb_15
  obtain ⟨hr_2_0, hr_2_1, hr_2_2, hr_2_3, hr_2_4, hr_2_5⟩ := hr_2
  refine lv_istore_n (lv' := [(1, .int r_2), (0, .ref r0)]) hx hb dX4_isUnitEscape_4 rfl hl (by decide) rfl (fun ls hl => ?_)
  refine lv_iload_n hx hb dX4_isUnitEscape_5 rfl (lv_at hl 0 rfl) ?_
  refine lv_if_lt (tgt := 16) hx hb dX4_isUnitEscape_6 (by decide) (fun c_3 => ?_) (fun c_3 => ?_)
  · skip
    have c_3' : r_2.toInt < 0 := jb_lt (rfl) ((by decide)) c_3
    first | (have hr_2_5q := hr_2_5.resolve_left (by omega); clear hr_2_5) | (have hr_2_5q := hr_2_5.resolve_right (by omega); clear hr_2_5) | skip
    refine lv_iconst (v := 0) hx hb dX4_isUnitEscape_16 (by decide) ?_
    rw [hQ]
    exact W.zret (v := 0) hx hb hr (jb_nz (Or.inl rfl)) (fun t ht hW => ⟨⟨0, (qt_1, pu, fu), rfl, ⟨(Or.inl rfl), by (try dsimp only); refine ⟨jjQe.no (jjEu_n hr_2_0 (by omega)) (by omega), by omega, by omega, by omega, by omega, by omega⟩⟩, ⟨hh_1.rt (M1 := [(r0, 6, 11, .int qt_1), (r0, 6, 8, .int pu)]) [0, 3] rfl ht, by rw [ht]; exact hh_1.2.2.2.2.2.2.2.1.sub [1] rfl⟩⟩, by rw [ht]; try exact hh_1.1.1, fun q h9 hq => by rw [ht]; try exact hh_1.1.2.1 q h9 hq⟩) hh_1.1.2.2 dX4_isUnitEscape_17
  · skip
    have c_3' : r_2.toInt ≥ 0 := jb_lt_n (rfl) ((by decide)) c_3
    first | (have hr_2_5q := hr_2_5.resolve_left (by omega); clear hr_2_5) | (have hr_2_5q := hr_2_5.resolve_right (by omega); clear hr_2_5) | skip
    refine lv_iload_n hx hb dX4_isUnitEscape_9 rfl (lv_at hl 0 rfl) ?_
    refine va_calli (A0 := jA base) (H0 := s.heap) (va_runS (As := [.int r_2]) (rest := []) ⟨hx, hb, hml, hown, hts⟩ (uX0_isLowJ l dC dI ca base B hB hAp G0 H_1 r_2) (va_cwS 1 hts (jgS (jWr_21 _ (List.mem_of_getElem? (i := 9) rfl)) (jWr_21 _ (List.mem_of_getElem? (i := 10) rfl)) (jWr_1 _ (List.mem_of_getElem? (i := 14) rfl)) (jWr_21 _ (List.mem_of_getElem? (i := 11) rfl))) rfl rfl rfl (by decide +kernel) ⟨by rw [← hR]; exact Nat.le_of_ble_eq_true rfl, by rw [← hR]; exact Nat.le_of_ble_eq_true rfl⟩) ⟨fun a U g mk q => by obtain ⟨q0, q1, q2, qK, q10, q11⟩ := q; exact ⟨q0, q1, q2, jG.calling g mk a qK, q10, q11⟩, fun U hU hW => ⟨rfl, hU, hh_1.2.1, hG.step hW hU hh_1.1, jP.nil, trivial⟩⟩ rfl rfl hl.1 rfl (lv_room (Nat.le_of_ble_eq_true rfl)) dX4_isUnitEscape_10 ⟨Nat.zero_le _, Nat.zero_le _⟩) hh_1.1 (fun q _ h => h) (fun q h => h) (fun r_5 u_4 t_4 H_4 locs_4 ht_4 hvm_4 hr_5 hb_4 hz_4 hk_4 hS_4 => ?_)
    rw [ht_4] at hb_4
    obtain ⟨hb_41, hb_42, hb_43, hb_44, hb_45⟩ := hb_4
    have hh_4 : jSt (dC, dI) B base G0 G0 EX4_isUnitEscapeJ s.heap 0 0 [(r0, 6, 11, .int qt_1), (r0, 6, 9, .ref rb), (r0, 6, 10, .int pe), (r0, 6, 8, .int pu), (r0, 6, 6, .ref jun)] [(rb, 100, n_rb, ca 0, fb), (jun, 146, 3000, ca 1, fu)] [] H_4 locs_4 := ((hh_1.call hb_41 hb_42 hb_43 hb_44 hS_4 rfl (L1 := [(r0, 6, 11, .int qt_1), (r0, 6, 9, .ref rb), (r0, 6, 10, .int pe), (r0, 6, 8, .int pu), (r0, 6, 6, .ref jun)]) [0, 1, 2, 3, 4] rfl rfl (M1 := [(rb, 100, n_rb, ca 0, fb), (jun, 146, 3000, ca 1, fu)]) [0, 1] rfl rfl (I1 := []) [] rfl rfl).more hb_45)
    clear hh_1 ht_4 hvm_4 hz_4 hk_4 hS_4 hb_41 hb_42 hb_43 hb_44 hb_45
    obtain ⟨hr_5b, hr_5p⟩ := hr_5
    have hr_5' := jb_01 hr_5b
    refine lv_if_eq (tgt := 18) hx hb dX4_isUnitEscape_13 (by decide) (fun c_6 => ?_) (fun c_6 => ?_)
    · skip
      have c_6' : r_5.toInt = 0 := jb_eq (rfl) ((by decide)) c_6
      first | (have hr_2_5q := hr_2_5.resolve_left (by omega); clear hr_2_5) | (have hr_2_5q := hr_2_5.resolve_right (by omega); clear hr_2_5) | skip
      first | (have hr_5pq := hr_5p.resolve_left (by omega); clear hr_5p) | (have hr_5pq := hr_5p.resolve_right (by omega); clear hr_5p) | try clear hr_5p
      refine lv_aload_n hx hb dX4_isUnitEscape_18 rfl (lv_at hl 1 rfl) ?_
      refine lv_iload_n hx hb dX4_isUnitEscape_19 rfl (lv_at hl 0 rfl) ?_
      refine va_callv (A0 := jA base) (H0 := s.heap) (va_runV (As := [.int r_2]) (rest := []) ⟨hx, hb, hml, hown, hts⟩ (uX4_addUnitJ l dC dI ca base B hB hAp hB6 hB146 G0 H_4 r0 r_2 pu jun fu) (cwV 1 hts (jgV (jWr_21 _ (List.mem_of_getElem? (i := 13) rfl)) (jWr_21 _ (List.mem_of_getElem? (i := 14) rfl)) (jWr_21 _ (List.mem_of_getElem? (i := 15) rfl)) (jWr_1 _ (List.mem_of_getElem? (i := 22) rfl)) (jWr_21 _ (List.mem_of_getElem? (i := 16) rfl))) rfl rfl rfl (by decide +kernel) ⟨by rw [← hR]; exact Nat.le_of_ble_eq_true rfl, by rw [← hR]; exact Nat.le_of_ble_eq_true rfl⟩) ⟨fun a U g mk q => by obtain ⟨q0, q1, q2, qK, q10, q11, q12, q13, q14⟩ := q; exact ⟨q0, q1, q2, jG.calling g mk a qK, q10, q11, q12, q13, q14⟩, hh_4.recv (C := RX4) (T := TX4) (N := 12) hB6 rfl (by decide) hg_r0 hK, fun U hU hW => ⟨rfl, hU, hh_4.2.1, hG.step hW hU hh_4.1, hg_r0, hg_jun, (hh_4.2.2.1.sub (L1 := [(r0, 6, 8, .int pu), (r0, 6, 6, .ref jun)]) [3, 4] rfl), (hh_4.2.2.2.2.2.2.2.1.sub (L1 := [(jun, 146, 3000, ca 1, fu)]) [1] rfl), by first | omega | (refine ⟨?_, ?_⟩ <;> (first | omega | rfl | assumption | decide | exact Or.inl rfl | exact Or.inr rfl | (simp only; omega)))⟩⟩ rfl rfl hl.1 rfl (lv_room (Nat.le_of_ble_eq_true rfl)) dX4_isUnitEscape_20 ⟨Nat.zero_le _, Nat.zero_le _⟩) hh_4.1 (fun q _ h => h) (fun q h => h) (fun u_7 t_7 H_7 locs_7 ht_7 hvm_7 hr_8 hb_7 hz_7 hk_7 hS_7 => ?_)
      obtain ⟨qu_7, gu_7⟩ := u_7
      rw [ht_7] at hb_7
      obtain ⟨⟨hb_71, hb_72, hb_73, hb_74, hb_75⟩, hb_76⟩ := hb_7
      have hh_7 : jSt (dC, dI) B base G0 G0 EX4_isUnitEscapeJ s.heap 0 0 [(r0, 6, 8, .int qu_7), (r0, 6, 11, .int qt_1), (r0, 6, 9, .ref rb), (r0, 6, 10, .int pe), (r0, 6, 6, .ref jun)] [(jun, 146, 3000, ca 1, gu_7), (rb, 100, n_rb, ca 0, fb)] [] H_7 locs_7 := ((hh_4.call hb_71 hb_72 hb_73 hb_74 hS_7 rfl (L1 := [(r0, 6, 11, .int qt_1), (r0, 6, 9, .ref rb), (r0, 6, 10, .int pe), (r0, 6, 6, .ref jun)]) [0, 1, 2, 4] rfl rfl (M1 := [(rb, 100, n_rb, ca 0, fb)]) [0] rfl rfl (I1 := []) [] rfl rfl).more hb_75).moreM hb_76
      clear hh_4 ht_7 hvm_7 hz_7 hk_7 hS_7 hb_71 hb_72 hb_73 hb_74 hb_75
      clear hb_76
      try simp only at hr_8
      obtain ⟨hr_8_0, hr_8_1, hr_8_2⟩ := hr_8
      refine lv_iload_n hx hb dX4_isUnitEscape_23 rfl (lv_at hl 0 rfl) ?_
      refine va_calli (A0 := jA base) (H0 := s.heap) (va_runS (As := [.int r_2]) (rest := []) ⟨hx, hb, hml, hown, hts⟩ (uX0_isHighJ l dC dI ca base B hB hAp G0 H_7 r_2) (va_cwS 1 hts (jgS (jWr_21 _ (List.mem_of_getElem? (i := 17) rfl)) (jWr_21 _ (List.mem_of_getElem? (i := 18) rfl)) (jWr_1 _ (List.mem_of_getElem? (i := 14) rfl)) (jWr_21 _ (List.mem_of_getElem? (i := 19) rfl))) rfl rfl rfl (by decide +kernel) ⟨by rw [← hR]; exact Nat.le_of_ble_eq_true rfl, by rw [← hR]; exact Nat.le_of_ble_eq_true rfl⟩) ⟨fun a U g mk q => by obtain ⟨q0, q1, q2, qK, q10, q11⟩ := q; exact ⟨q0, q1, q2, jG.calling g mk a qK, q10, q11⟩, fun U hU hW => ⟨rfl, hU, hh_7.2.1, hG.step hW hU hh_7.1, jP.nil, trivial⟩⟩ rfl rfl hl.1 rfl (lv_room (Nat.le_of_ble_eq_true rfl)) dX4_isUnitEscape_24 ⟨Nat.zero_le _, Nat.zero_le _⟩) hh_7.1 (fun q _ h => h) (fun q h => h) (fun r_10 u_9 t_9 H_9 locs_9 ht_9 hvm_9 hr_10 hb_9 hz_9 hk_9 hS_9 => ?_)
      rw [ht_9] at hb_9
      obtain ⟨hb_91, hb_92, hb_93, hb_94, hb_95⟩ := hb_9
      have hh_9 : jSt (dC, dI) B base G0 G0 EX4_isUnitEscapeJ s.heap 0 0 [(r0, 6, 8, .int qu_7), (r0, 6, 11, .int qt_1), (r0, 6, 9, .ref rb), (r0, 6, 10, .int pe), (r0, 6, 6, .ref jun)] [(jun, 146, 3000, ca 1, gu_7), (rb, 100, n_rb, ca 0, fb)] [] H_9 locs_9 := ((hh_7.call hb_91 hb_92 hb_93 hb_94 hS_9 rfl (L1 := [(r0, 6, 8, .int qu_7), (r0, 6, 11, .int qt_1), (r0, 6, 9, .ref rb), (r0, 6, 10, .int pe), (r0, 6, 6, .ref jun)]) [0, 1, 2, 3, 4] rfl rfl (M1 := [(jun, 146, 3000, ca 1, gu_7), (rb, 100, n_rb, ca 0, fb)]) [0, 1] rfl rfl (I1 := []) [] rfl rfl).more hb_95)
      clear hh_7 ht_9 hvm_9 hz_9 hk_9 hS_9 hb_91 hb_92 hb_93 hb_94 hb_95
      obtain ⟨hr_10b, hr_10p⟩ := hr_10
      have hr_10' := jb_01 hr_10b
      refine lv_if_ne (tgt := 32) hx hb dX4_isUnitEscape_27 (by decide) (fun c_11 => ?_) (fun c_11 => ?_)
      · skip
        have c_11' : r_10.toInt ≠ 0 := jb_ne (rfl) ((by decide)) c_11
        first | (have hr_2_5q := hr_2_5.resolve_left (by omega); clear hr_2_5) | (have hr_2_5q := hr_2_5.resolve_right (by omega); clear hr_2_5) | skip
        first | (have hr_10pq := hr_10p.resolve_left (by omega); clear hr_10p) | (have hr_10pq := hr_10p.resolve_right (by omega); clear hr_10p) | try clear hr_10p
        refine lv_aload_n hx hb dX4_isUnitEscape_32 rfl (lv_at hl 1 rfl) ?_
        refine va_ldcS hx hb hown rstr146 dX4_isUnitEscape_33 ?_
        refine va_calli (A0 := jA base) (H0 := s.heap) (va_runV (As := [.ref str146]) (rest := []) ⟨hx, hb, hml, hown, hts⟩ (uX4_isWordJ l dC dI ca base B hB hAp hB6 hB100 G0 H_9 r0 str146 2 (jChT "\\u") rb n_rb pe qt_1 fb) (cwV 1 hts (jgV (jWr_20 _ (List.mem_of_getElem? (i := 19) rfl)) (jWr_20 _ (List.mem_of_getElem? (i := 20) rfl)) (jWr_20 _ (List.mem_of_getElem? (i := 21) rfl)) (jWr_1 _ (List.mem_of_getElem? (i := 22) rfl)) (jWr_20 _ (List.mem_of_getElem? (i := 22) rfl))) rfl rfl rfl (by decide +kernel) ⟨by rw [← hR]; exact Nat.le_of_ble_eq_true rfl, by rw [← hR]; exact Nat.le_of_ble_eq_true rfl⟩) ⟨fun a U g mk q => by obtain ⟨q0, q1, q2, qK, q10, q11, q12, q13, q14, q15⟩ := q; exact ⟨q0, q1, q2, jG.calling g mk a qK, (q10.moved (Vm.Alike.refl U.vm)), q11, q12, q13, q14, q15⟩, hh_9.recv (C := RX4) (T := TX4) (N := 12) hB6 rfl (by decide) hg_r0 hK, fun U hU hW => ⟨rfl, hU, hh_9.2.1, hG.step hW hU hh_9.1, (hTstr146.moved hW.alike).kept hh_9.1.2.1, hg_r0, hg_rb, (hh_9.2.2.1.sub (L1 := [(r0, 6, 9, .ref rb), (r0, 6, 10, .int pe), (r0, 6, 11, .int qt_1)]) [2, 3, 1] rfl), (hh_9.2.2.2.2.2.2.2.1.sub (L1 := [(rb, 100, n_rb, ca 0, fb)]) [1] rfl), ⟨(by first | omega | rfl | assumption | exact jjAs_u), (by first | omega | rfl | assumption | exact jjAs_u), (by first | omega | rfl | assumption | exact jjAs_u), (by first | omega | rfl | assumption | exact jjAs_u), (by first | omega | rfl | assumption | exact jjAs_u), (by first | omega | rfl | assumption | exact jjAs_u), (by first | omega | rfl | assumption | exact jjAs_u), (by first | omega | rfl | assumption | exact jjAs_u), (by first | assumption | exact jjAs_u | omega), (by first | assumption | exact jjAs_u | omega)⟩⟩⟩ rfl rfl hl.1 rfl (lv_room (Nat.le_of_ble_eq_true rfl)) dX4_isUnitEscape_35 ⟨Nat.zero_le _, Nat.zero_le _⟩) hh_9.1 (fun q _ h => h) (fun q h => h) (fun r_13 u_12 t_12 H_12 locs_12 ht_12 hvm_12 hr_13 hb_12 hz_12 hk_12 hS_12 => ?_)
        obtain ⟨qt_12, rfl⟩ : ∃ z, z = u_12 := ⟨_, rfl⟩
        rw [ht_12] at hb_12
        obtain ⟨hb_121, hb_122, hb_123, hb_124, hb_125⟩ := hb_12
        have hh_12 : jSt (dC, dI) B base G0 G0 EX4_isUnitEscapeJ s.heap 0 0 [(r0, 6, 11, .int qt_12), (r0, 6, 8, .int qu_7), (r0, 6, 9, .ref rb), (r0, 6, 10, .int pe), (r0, 6, 6, .ref jun)] [(jun, 146, 3000, ca 1, gu_7), (rb, 100, n_rb, ca 0, fb)] [] H_12 locs_12 := ((hh_9.call hb_121 hb_122 hb_123 hb_124 hS_12 rfl (L1 := [(r0, 6, 8, .int qu_7), (r0, 6, 9, .ref rb), (r0, 6, 10, .int pe), (r0, 6, 6, .ref jun)]) [0, 2, 3, 4] rfl rfl (M1 := [(jun, 146, 3000, ca 1, gu_7), (rb, 100, n_rb, ca 0, fb)]) [0, 1] rfl rfl (I1 := []) [] rfl rfl).more hb_125)
        clear hh_9 ht_12 hvm_12 hz_12 hk_12 hS_12 hb_121 hb_122 hb_123 hb_124 hb_125
        obtain ⟨hr_13b, hr_13p⟩ := hr_13
        obtain ⟨hr_13p_0, hr_13p_1⟩ := hr_13p
        have hr_13' := jb_01 hr_13b
        refine lv_if_ne (tgt := 43) hx hb dX4_isUnitEscape_38 (by decide) (fun c_14 => ?_) (fun c_14 => ?_)
        · skip
          have c_14' : r_13.toInt ≠ 0 := jb_ne (rfl) ((by decide)) c_14
          first | (have hr_13p_1q := hr_13p_1.resolve_left (by omega); clear hr_13p_1) | (have hr_13p_1q := hr_13p_1.resolve_right (by omega); clear hr_13p_1) | skip
          refine lv_aload_n hx hb dX4_isUnitEscape_43 rfl (lv_at hl 1 rfl) ?_
          refine va_calli (A0 := jA base) (H0 := s.heap) (va_runV (As := []) (rest := []) ⟨hx, hb, hml, hown, hts⟩ (uX4_fourDigitsJ l dC dI ca base B hB hAp hB6 hB100 G0 H_12 r0 rb n_rb pe qt_12 fb) (cwV 0 hts (jgV (jWr_21 _ (List.mem_of_getElem? (i := 5) rfl)) (jWr_21 _ (List.mem_of_getElem? (i := 6) rfl)) (jWr_21 _ (List.mem_of_getElem? (i := 7) rfl)) (jWr_1 _ (List.mem_of_getElem? (i := 22) rfl)) (jWr_21 _ (List.mem_of_getElem? (i := 8) rfl))) rfl rfl rfl (by decide +kernel) ⟨by rw [← hR]; exact Nat.le_of_ble_eq_true rfl, by rw [← hR]; exact Nat.le_of_ble_eq_true rfl⟩) ⟨fun a U g mk q => by obtain ⟨q0, q1, q2, qK, q10, q11, q12, q13, q14⟩ := q; exact ⟨q0, q1, q2, jG.calling g mk a qK, q10, q11, q12, q13, q14⟩, hh_12.recv (C := RX4) (T := TX4) (N := 12) hB6 rfl (by decide) hg_r0 hK, fun U hU hW => ⟨rfl, hU, hh_12.2.1, hG.step hW hU hh_12.1, hg_r0, hg_rb, (hh_12.2.2.1.sub (L1 := [(r0, 6, 9, .ref rb), (r0, 6, 10, .int pe), (r0, 6, 11, .int qt_12)]) [2, 3, 0] rfl), (hh_12.2.2.2.2.2.2.2.1.sub (L1 := [(rb, 100, n_rb, ca 0, fb)]) [1] rfl), by first | omega | (refine ⟨?_, ?_, ?_, ?_, ?_, ?_, ?_⟩ <;> (first | omega | rfl | assumption | decide | exact Or.inl rfl | exact Or.inr rfl | (simp only; omega)))⟩⟩ rfl rfl hl.1 rfl (lv_room (Nat.le_of_ble_eq_true rfl)) dX4_isUnitEscape_44 ⟨Nat.zero_le _, Nat.zero_le _⟩) hh_12.1 (fun q _ h => h) (fun q h => h) (fun r_16 u_15 t_15 H_15 locs_15 ht_15 hvm_15 hr_16 hb_15 hz_15 hk_15 hS_15 => ?_)
          obtain ⟨qt_15, rfl⟩ : ∃ z, z = u_15 := ⟨_, rfl⟩
          rw [ht_15] at hb_15
          obtain ⟨hb_151, hb_152, hb_153, hb_154, hb_155⟩ := hb_15
          have hh_15 : jSt (dC, dI) B base G0 G0 EX4_isUnitEscapeJ s.heap 0 0 [(r0, 6, 11, .int qt_15), (r0, 6, 8, .int qu_7), (r0, 6, 9, .ref rb), (r0, 6, 10, .int pe), (r0, 6, 6, .ref jun)] [(jun, 146, 3000, ca 1, gu_7), (rb, 100, n_rb, ca 0, fb)] [] H_15 locs_15 := ((hh_12.call hb_151 hb_152 hb_153 hb_154 hS_15 rfl (L1 := [(r0, 6, 8, .int qu_7), (r0, 6, 9, .ref rb), (r0, 6, 10, .int pe), (r0, 6, 6, .ref jun)]) [1, 2, 3, 4] rfl rfl (M1 := [(jun, 146, 3000, ca 1, gu_7), (rb, 100, n_rb, ca 0, fb)]) [0, 1] rfl rfl (I1 := []) [] rfl rfl).more hb_155)
          clear hh_12 ht_15 hvm_15 hz_15 hk_15 hS_15 hb_151 hb_152 hb_153 hb_154 hb_155
          obtain ⟨hr_16_0, hr_16_1, hr_16_2, hr_16_3, hr_16_4, hr_16_5⟩ := hr_16
          refine lv_istore_n (lv' := [(2, .int r_16), (1, .int r_2), (0, .ref r0)]) hx hb dX4_isUnitEscape_47 rfl hl (by decide) rfl (fun ls hl => ?_)
          refine lv_aload_n hx hb dX4_isUnitEscape_48 rfl (lv_at hl 2 rfl) ?_
          refine lv_iload_n hx hb dX4_isUnitEscape_49 rfl (lv_at hl 0 rfl) ?_
          refine va_callv (A0 := jA base) (H0 := s.heap) (va_runV (As := [.int r_16]) (rest := []) ⟨hx, hb, hml, hown, hts⟩ (uX4_addUnitJ l dC dI ca base B hB hAp hB6 hB146 G0 H_15 r0 r_16 qu_7 jun gu_7) (cwV 1 hts (jgV (jWr_21 _ (List.mem_of_getElem? (i := 13) rfl)) (jWr_21 _ (List.mem_of_getElem? (i := 14) rfl)) (jWr_21 _ (List.mem_of_getElem? (i := 15) rfl)) (jWr_1 _ (List.mem_of_getElem? (i := 22) rfl)) (jWr_21 _ (List.mem_of_getElem? (i := 16) rfl))) rfl rfl rfl (by decide +kernel) ⟨by rw [← hR]; exact Nat.le_of_ble_eq_true rfl, by rw [← hR]; exact Nat.le_of_ble_eq_true rfl⟩) ⟨fun a U g mk q => by obtain ⟨q0, q1, q2, qK, q10, q11, q12, q13, q14⟩ := q; exact ⟨q0, q1, q2, jG.calling g mk a qK, q10, q11, q12, q13, q14⟩, hh_15.recv (C := RX4) (T := TX4) (N := 12) hB6 rfl (by decide) hg_r0 hK, fun U hU hW => ⟨rfl, hU, hh_15.2.1, hG.step hW hU hh_15.1, hg_r0, hg_jun, (hh_15.2.2.1.sub (L1 := [(r0, 6, 8, .int qu_7), (r0, 6, 6, .ref jun)]) [1, 4] rfl), (hh_15.2.2.2.2.2.2.2.1.sub (L1 := [(jun, 146, 3000, ca 1, gu_7)]) [0] rfl), by first | omega | (refine ⟨?_, ?_⟩ <;> (first | omega | rfl | assumption | decide | exact Or.inl rfl | exact Or.inr rfl | (simp only; omega)))⟩⟩ rfl rfl hl.1 rfl (lv_room (Nat.le_of_ble_eq_true rfl)) dX4_isUnitEscape_50 ⟨Nat.zero_le _, Nat.zero_le _⟩) hh_15.1 (fun q _ h => h) (fun q h => h) (fun u_17 t_17 H_17 locs_17 ht_17 hvm_17 hr_18 hb_17 hz_17 hk_17 hS_17 => ?_)
          obtain ⟨qu_17, gu_17⟩ := u_17
          rw [ht_17] at hb_17
          obtain ⟨⟨hb_171, hb_172, hb_173, hb_174, hb_175⟩, hb_176⟩ := hb_17
          have hh_17 : jSt (dC, dI) B base G0 G0 EX4_isUnitEscapeJ s.heap 0 0 [(r0, 6, 8, .int qu_17), (r0, 6, 11, .int qt_15), (r0, 6, 9, .ref rb), (r0, 6, 10, .int pe), (r0, 6, 6, .ref jun)] [(jun, 146, 3000, ca 1, gu_17), (rb, 100, n_rb, ca 0, fb)] [] H_17 locs_17 := ((hh_15.call hb_171 hb_172 hb_173 hb_174 hS_17 rfl (L1 := [(r0, 6, 11, .int qt_15), (r0, 6, 9, .ref rb), (r0, 6, 10, .int pe), (r0, 6, 6, .ref jun)]) [0, 2, 3, 4] rfl rfl (M1 := [(rb, 100, n_rb, ca 0, fb)]) [1] rfl rfl (I1 := []) [] rfl rfl).more hb_175).moreM hb_176
          clear hh_15 ht_17 hvm_17 hz_17 hk_17 hS_17 hb_171 hb_172 hb_173 hb_174 hb_175
          clear hb_176
          try simp only at hr_18
          obtain ⟨hr_18_0, hr_18_1, hr_18_2⟩ := hr_18
          refine lv_iload_n hx hb dX4_isUnitEscape_53 rfl (lv_at hl 0 rfl) ?_
          refine va_calli (A0 := jA base) (H0 := s.heap) (va_runS (As := [.int r_16]) (rest := []) ⟨hx, hb, hml, hown, hts⟩ (uX0_isLowJ l dC dI ca base B hB hAp G0 H_17 r_16) (va_cwS 1 hts (jgS (jWr_21 _ (List.mem_of_getElem? (i := 9) rfl)) (jWr_21 _ (List.mem_of_getElem? (i := 10) rfl)) (jWr_1 _ (List.mem_of_getElem? (i := 14) rfl)) (jWr_21 _ (List.mem_of_getElem? (i := 11) rfl))) rfl rfl rfl (by decide +kernel) ⟨by rw [← hR]; exact Nat.le_of_ble_eq_true rfl, by rw [← hR]; exact Nat.le_of_ble_eq_true rfl⟩) ⟨fun a U g mk q => by obtain ⟨q0, q1, q2, qK, q10, q11⟩ := q; exact ⟨q0, q1, q2, jG.calling g mk a qK, q10, q11⟩, fun U hU hW => ⟨rfl, hU, hh_17.2.1, hG.step hW hU hh_17.1, jP.nil, trivial⟩⟩ rfl rfl hl.1 rfl (lv_room (Nat.le_of_ble_eq_true rfl)) dX4_isUnitEscape_54 ⟨Nat.zero_le _, Nat.zero_le _⟩) hh_17.1 (fun q _ h => h) (fun q h => h) (fun r_20 u_19 t_19 H_19 locs_19 ht_19 hvm_19 hr_20 hb_19 hz_19 hk_19 hS_19 => ?_)
          rw [ht_19] at hb_19
          obtain ⟨hb_191, hb_192, hb_193, hb_194, hb_195⟩ := hb_19
          have hh_19 : jSt (dC, dI) B base G0 G0 EX4_isUnitEscapeJ s.heap 0 0 [(r0, 6, 8, .int qu_17), (r0, 6, 11, .int qt_15), (r0, 6, 9, .ref rb), (r0, 6, 10, .int pe), (r0, 6, 6, .ref jun)] [(jun, 146, 3000, ca 1, gu_17), (rb, 100, n_rb, ca 0, fb)] [] H_19 locs_19 := ((hh_17.call hb_191 hb_192 hb_193 hb_194 hS_19 rfl (L1 := [(r0, 6, 8, .int qu_17), (r0, 6, 11, .int qt_15), (r0, 6, 9, .ref rb), (r0, 6, 10, .int pe), (r0, 6, 6, .ref jun)]) [0, 1, 2, 3, 4] rfl rfl (M1 := [(jun, 146, 3000, ca 1, gu_17), (rb, 100, n_rb, ca 0, fb)]) [0, 1] rfl rfl (I1 := []) [] rfl rfl).more hb_195)
          clear hh_17 ht_19 hvm_19 hz_19 hk_19 hS_19 hb_191 hb_192 hb_193 hb_194 hb_195
          obtain ⟨hr_20b, hr_20p⟩ := hr_20
          have hr_20' := jb_01 hr_20b
          rw [hQ]
          exact W.zret (v := r_20) hx hb hr (jb_nz (hr_20b)) (fun t ht hW => ⟨⟨r_20, (qt_15, qu_17, gu_17), rfl, ⟨(hr_20b), by (try dsimp only); rcases hr_20p with ⟨h1, h2, h3⟩ | ⟨h1, h2⟩; exact ⟨jjQe.two (by rw [show qt_15.toInt - pt.toInt + 2 = 12 by omega]; exact jjEu_2 hr_2_0 (by omega) (by omega) (p4 := qt_1.toInt) (by omega) (by rw [← hr_13p_0]; omega) (p6 := qt_12.toInt) (by omega) hr_16_0 h2 h3) h1 (by omega) ((hr_18_2 _ (by omega) (by omega)).trans hr_8_1) (by rw [show pu.toInt + 1 = qu_7.toInt by omega]; exact hr_18_1) (hr_8_2.tr hr_18_2 (by omega)), by omega, by omega, by omega, by omega, by omega⟩; exact ⟨jjQe.no (jjEu_x hr_2_0 (by omega) (by omega) (p4 := qt_1.toInt) (by omega) (Or.inr ⟨_, (hr_16_0.trans (by rw [show qt_12.toInt = pt.toInt + 6 by omega])), h2⟩)) h1, by omega, by omega, by omega, by omega, by omega⟩⟩, ⟨hh_19.rt (M1 := [(r0, 6, 11, .int qt_15), (r0, 6, 8, .int qu_17)]) [1, 0] rfl ht, by rw [ht]; exact hh_19.2.2.2.2.2.2.2.1.sub [0] rfl⟩⟩, by rw [ht]; try exact hh_19.1.1, fun q h9 hq => by rw [ht]; try exact hh_19.1.2.1 q h9 hq⟩) hh_19.1.2.2 dX4_isUnitEscape_57
        · skip
          have c_14' : r_13.toInt = 0 := jb_ne_n (rfl) ((by decide)) c_14
          first | (have hr_13p_1q := hr_13p_1.resolve_left (by omega); clear hr_13p_1) | (have hr_13p_1q := hr_13p_1.resolve_right (by omega); clear hr_13p_1) | skip
          refine lv_iconst (v := 0) hx hb dX4_isUnitEscape_41 (by decide) ?_
          rw [hQ]
          exact W.zret (v := 0) hx hb hr (jb_nz (Or.inl rfl)) (fun t ht hW => ⟨⟨0, (qt_12, qu_7, gu_7), rfl, ⟨(Or.inl rfl), by (try dsimp only); refine ⟨jjQe.no (jjEu_x hr_2_0 (by omega) (by omega) (p4 := qt_1.toInt) (by omega) (Or.inl (by rw [← hr_13p_0]; omega))) (by omega), by omega, by omega, by omega, by omega, by omega⟩⟩, ⟨hh_12.rt (M1 := [(r0, 6, 11, .int qt_12), (r0, 6, 8, .int qu_7)]) [0, 1] rfl ht, by rw [ht]; exact hh_12.2.2.2.2.2.2.2.1.sub [0] rfl⟩⟩, by rw [ht]; try exact hh_12.1.1, fun q h9 hq => by rw [ht]; try exact hh_12.1.2.1 q h9 hq⟩) hh_12.1.2.2 dX4_isUnitEscape_42
      · skip
        have c_11' : r_10.toInt = 0 := jb_ne_n (rfl) ((by decide)) c_11
        first | (have hr_2_5q := hr_2_5.resolve_left (by omega); clear hr_2_5) | (have hr_2_5q := hr_2_5.resolve_right (by omega); clear hr_2_5) | skip
        first | (have hr_10pq := hr_10p.resolve_left (by omega); clear hr_10p) | (have hr_10pq := hr_10p.resolve_right (by omega); clear hr_10p) | try clear hr_10p
        refine lv_iconst (v := 1) hx hb dX4_isUnitEscape_30 (by decide) ?_
        rw [hQ]
        exact W.zret (v := 1) hx hb hr (jb_nz (Or.inr rfl)) (fun t ht hW => ⟨⟨1, (qt_1, qu_7, gu_7), rfl, ⟨(Or.inr rfl), by (try dsimp only); refine ⟨jjQe.one (by rw [show qt_1.toInt - pt.toInt + 2 = 6 by omega]; exact jjEu_1 hr_2_0 (by omega) (by omega)) (by omega) (by omega) hr_8_1 hr_8_2, by omega, by omega, by omega, by omega, by omega⟩⟩, ⟨hh_9.rt (M1 := [(r0, 6, 11, .int qt_1), (r0, 6, 8, .int qu_7)]) [1, 0] rfl ht, by rw [ht]; exact hh_9.2.2.2.2.2.2.2.1.sub [0] rfl⟩⟩, by rw [ht]; try exact hh_9.1.1, fun q h9 hq => by rw [ht]; try exact hh_9.1.2.1 q h9 hq⟩) hh_9.1.2.2 dX4_isUnitEscape_31
    · skip
      have c_6' : r_5.toInt ≠ 0 := jb_eq_n (rfl) ((by decide)) c_6
      first | (have hr_2_5q := hr_2_5.resolve_left (by omega); clear hr_2_5) | (have hr_2_5q := hr_2_5.resolve_right (by omega); clear hr_2_5) | skip
      first | (have hr_5pq := hr_5p.resolve_left (by omega); clear hr_5p) | (have hr_5pq := hr_5p.resolve_right (by omega); clear hr_5p) | try clear hr_5p
      refine lv_iconst (v := 0) hx hb dX4_isUnitEscape_16 (by decide) ?_
      rw [hQ]
      exact W.zret (v := 0) hx hb hr (jb_nz (Or.inl rfl)) (fun t ht hW => ⟨⟨0, (qt_1, pu, fu), rfl, ⟨(Or.inl rfl), by (try dsimp only); refine ⟨jjQe.no (jjEu_n hr_2_0 (by omega)) (by omega), by omega, by omega, by omega, by omega, by omega⟩⟩, ⟨hh_4.rt (M1 := [(r0, 6, 11, .int qt_1), (r0, 6, 8, .int pu)]) [0, 3] rfl ht, by rw [ht]; exact hh_4.2.2.2.2.2.2.2.1.sub [1] rfl⟩⟩, by rw [ht]; try exact hh_4.1.1, fun q h9 hq => by rw [ht]; try exact hh_4.1.2.1 q h9 hq⟩) hh_4.1.2.2 dX4_isUnitEscape_17
set_option maxHeartbeats 4000000 in
set_option maxRecDepth 20000 in
theorem uX4_isStringJ (l : Launch) (dC : Nat → ClassId) (dI : Nat → Nat → Nat) (ca : Nat → ClassId) (base : Nat) (B : jF) (hB : jBok B) (hAp : jAp (dC, dI)) (hB6 : ∀ n G a H, B 6 n G a H ↔ jOb (dC, dI) 6 12 (F6 n G) a H) (hB100 : ∀ n G a H, B 100 n G a H ↔ jAr (dC, dI) (ca 0) (fun j z => True) n a H) (hB146 : ∀ n G a H, B 146 n G a H ↔ jAr (dC, dI) (ca 1) (fun j z => True) n a H) (G0 : jT) (H0 : Heap) (r0 : Nat) (rb : Nat) (n_rb : Nat) (pe : Int32) (pt : Int32) (pu : Int32) (jun : Nat) (T9 : Nat → Int → Int) (fb : Nat → Int32) (fu : Nat → Int32) : Met l yX4_isString (jw yX4_isString cX4_isString 4 (some .boolean)) ({ frames := 6, cells := 0, slots := 0, locals := 185 }) (va_Pc [.ref r0] (fun U => U.heap = H0 ∧ jX B base G0 [] H0 ∧ jG dC dI ca base U ∧ G0 r0 = some (6, 0) ∧ G0 rb = some (100, n_rb) ∧ G0 jun = some (146, 3000) ∧ jP (dC, dI) G0 H0 [(r0, 6, 9, .ref rb), (r0, 6, 10, .int pe), (r0, 6, 11, .int pt), (r0, 6, 8, .int pu), (r0, 6, 6, .ref jun)] ∧ jMc (dC, dI) G0 H0 [(rb, 100, n_rb, ca 0, fb), (jun, 146, 3000, ca 1, fu)] ∧ 0 ≤ pe.toInt ∧ pe.toInt ≤ n_rb ∧ n_rb ≤ 3000 ∧ 0 ≤ pt.toInt ∧ pt.toInt ≤ 19000 ∧ pt.toInt ≤ pe.toInt ∧ jjFt fb pe.toInt ∧ 0 ≤ pu.toInt ∧ pu.toInt ≤ pt.toInt ∧ jjA T9 7 pu.toInt fu)) (va_Qi (S := Int32 × Int32 × (Nat → Int32)) (fun r u => (r = 0 ∨ r = 1) ∧ (jjQs (jjStr (jB8 fb) pe.toInt pt.toInt pu.toInt T9) r.toInt u.1.toInt u.2.1.toInt u.2.2 ∧ pt.toInt ≤ u.1.toInt ∧ u.1.toInt ≤ pe.toInt + 3 * (1 - r.toInt) ∧ pu.toInt ≤ u.2.1.toInt ∧ u.2.1.toInt ≤ 3000 ∧ (r.toInt = 0 ∨ u.2.1.toInt - pu.toInt + 2 ≤ u.1.toInt - pt.toInt))) (fun u t => jRt (dC, dI) B base G0 EX4_isStringJ H0 [(r0, 6, 11, .int u.1), (r0, 6, 8, .int u.2.1)] t.heap ∧ jMc (dC, dI) G0 t.heap [(jun, 146, 3000, ca 1, u.2.2)]) (jA base)) 0 0 (jA base) := by
  refine Met.ofW (cc := cX4_isString) (maxL := 4) (ret := (some .boolean)) (by decide) rfl ?_
  intro p e s m args below meth c s₁ Bd hml hv
  obtain ⟨rfl, hH0, hX, hG, hg_r0, hg_rb, hg_jun, hP0, hM0, hp0, hp1, hp2, hp3, hp4, hp5, hp6, hp7, hp8, hp9⟩ := hv
  have hK := hG.1
  have hx := Bd.exec
  have hb := Bd.bytes
  have hr := Bd.returns
  have hts := atoms_spec (ws := (jw yX4_isString cX4_isString 4 (some .boolean))) Bd.pre
  have htw : ∀ w ∈ jWl, w.before _ s = true := fun w h => hts w (List.mem_cons_of_mem _ h)
  have hown : s.vm.findClass RX4 = some m.cls := findClass_of_methodNamed Bd.named
  have hlocks := Bd.notSynchronized
  obtain ⟨Q, hQ⟩ : ∃ Q, Q = MQ below (va_Qi (S := Int32 × Int32 × (Nat → Int32)) (fun r u => (r = 0 ∨ r = 1) ∧ (jjQs (jjStr (jB8 fb) pe.toInt pt.toInt pu.toInt T9) r.toInt u.1.toInt u.2.1.toInt u.2.2 ∧ pt.toInt ≤ u.1.toInt ∧ u.1.toInt ≤ pe.toInt + 3 * (1 - r.toInt) ∧ pu.toInt ≤ u.2.1.toInt ∧ u.2.1.toInt ≤ 3000 ∧ (r.toInt = 0 ∨ u.2.1.toInt - pu.toInt + 2 ≤ u.1.toInt - pt.toInt))) (fun u t => jRt (dC, dI) B base G0 EX4_isStringJ H0 [(r0, 6, 11, .int u.1), (r0, 6, 8, .int u.2.1)] t.heap ∧ jMc (dC, dI) G0 t.heap [(jun, 146, 3000, ca 1, u.2.2)]) (jA base)) ([.ref r0] : List Value).toArray s 0 0 (jA base) := ⟨_, rfl⟩
  rw [← hQ]
  have hl := lv_entry ([.ref r0]) (n := 4) (Nat.le_of_ble_eq_true rfl)
  rw [lg_entry_eq]
  generalize (lg_sl ([.ref r0]) ++ List.replicate (4 - (lg_sl ([.ref r0])).length) Slot.unset).toArray = ls at hl ⊢
  have hl : lv_has ls 4 [(0, .ref r0)] := hl
  generalize hR : (headSpec (jw yX4_isString cX4_isString 4 (some .boolean)) ({ frames := 6, cells := 0, slots := 0, locals := 185 })).room = R
  subst hH0
  have hh : jSt (dC, dI) B base G0 G0 EX4_isStringJ s.heap 0 0 [(r0, 6, 9, .ref rb), (r0, 6, 10, .int pe), (r0, 6, 11, .int pt), (r0, 6, 8, .int pu), (r0, 6, 6, .ref jun)] [(rb, 100, n_rb, ca 0, fb), (jun, 146, 3000, ca 1, fu)] [] s.heap [] := jSt.start hX hP0 hM0 jIs.nil
  clear hX hP0
  have hk0 : (0 : Int32).toInt = 0 := by decide
  have hk1 : (1 : Int32).toInt = 1 := by decide
  have hk32 : (32 : Int32).toInt = 32 := by decide
  have hk34 : (34 : Int32).toInt = 34 := by decide
  have hk92 : (92 : Int32).toInt = 92 := by decide
  have hly_6_9 := htw (u_lay RX4 TX4 9) (jWc_wsX40 _ (u_in_lay (by decide)))
  have hly_6_10 := htw (u_lay RX4 TX4 10) (jWc_wsX40 _ (u_in_lay (by decide)))
  have hly_6_11 := htw (u_lay RX4 TX4 11) (jWc_wsX40 _ (u_in_lay (by decide)))
  have hlk_47 := (htw (.fieldLink RX4 47 "ProofServer$Json" "at" "I") (jWr_19 _ (List.mem_of_getElem? (i := 12) rfl)))
  have hlk_43 := (htw (.fieldLink RX4 43 "ProofServer$Json" "end" "I") (jWr_19 _ (List.mem_of_getElem? (i := 11) rfl)))
  have hlk_33 := (htw (.fieldLink RX4 33 "ProofServer$Json" "bytes" "[B") (jWr_4 _ (List.mem_of_getElem? (i := 4) rfl)))
  obtain ⟨str146, rstr146, hstr1460⟩ := hG.strT (o := RX4) (k := 146) (tx := "\\u") (List.mem_of_getElem? (i := 667) (by decide +kernel))
  have hTstr146 : jStrF base str146 2 (jChT "\\u") s s.heap := hstr1460.F (by decide +kernel)
  have hstr146 : jStr base str146 2 s s.heap := hTstr146.str
  obtain ⟨fz0, hfz0⟩ : ∃ q : Nat → Int32, q = fu := ⟨_, rfl⟩
  refine lv_aload_n hx hb dX4_isString_0 rfl (lv_at hl 0 rfl) ?_
  refine va_calli (A0 := jA base) (H0 := s.heap) (va_runV (As := []) (rest := []) ⟨hx, hb, hml, hown, hts⟩ (uX4_peekJ l dC dI ca base B hB hAp hB6 hB100 G0 s.heap r0 rb n_rb pe pt fb) (cwV 0 hts (jgV (jWr_19 _ (List.mem_of_getElem? (i := 19) rfl)) (jWr_19 _ (List.mem_of_getElem? (i := 20) rfl)) (jWr_19 _ (List.mem_of_getElem? (i := 21) rfl)) (jWr_1 _ (List.mem_of_getElem? (i := 22) rfl)) (jWr_19 _ (List.mem_of_getElem? (i := 22) rfl))) rfl rfl rfl (by decide +kernel) ⟨by rw [← hR]; exact Nat.le_of_ble_eq_true rfl, by rw [← hR]; exact Nat.le_of_ble_eq_true rfl⟩) ⟨fun a U g mk q => by obtain ⟨q0, q1, q2, qK, q10, q11, q12, q13, q14⟩ := q; exact ⟨q0, q1, q2, jG.calling g mk a qK, q10, q11, q12, q13, q14⟩, hh.recv (C := RX4) (T := TX4) (N := 12) hB6 rfl (by decide) hg_r0 hK, fun U hU hW => ⟨rfl, hU, hh.2.1, hG.step hW hU hh.1, hg_r0, hg_rb, (hh.2.2.1.sub (L1 := [(r0, 6, 9, .ref rb), (r0, 6, 10, .int pe), (r0, 6, 11, .int pt)]) [0, 1, 2] rfl), (hh.2.2.2.2.2.2.2.1.sub (L1 := [(rb, 100, n_rb, ca 0, fb)]) [0] rfl), by first | omega | (refine ⟨?_, ?_, ?_, ?_, ?_⟩ <;> (first | omega | rfl | assumption | decide | exact Or.inl rfl | exact Or.inr rfl | (simp only; omega)))⟩⟩ rfl rfl hl.1 rfl (lv_room (Nat.le_of_ble_eq_true rfl)) dX4_isString_1 ⟨Nat.zero_le _, Nat.zero_le _⟩) hh.1 (fun q _ h => h) (fun q h => h) (fun r_2 u_1 t_1 H_1 locs_1 ht_1 hvm_1 hr_2 hb_1 hz_1 hk_1 hS_1 => ?_)
  rw [ht_1] at hb_1
  obtain ⟨hb_11, hb_12, hb_13, hb_14, hb_15⟩ := hb_1
  have hh_1 : jSt (dC, dI) B base G0 G0 EX4_isStringJ s.heap 0 0 [(r0, 6, 9, .ref rb), (r0, 6, 10, .int pe), (r0, 6, 11, .int pt), (r0, 6, 8, .int pu), (r0, 6, 6, .ref jun)] [(rb, 100, n_rb, ca 0, fb), (jun, 146, 3000, ca 1, fu)] [] H_1 locs_1 := ((hh.call hb_11 hb_12 hb_13 hb_14 hS_1 rfl (L1 := [(r0, 6, 9, .ref rb), (r0, 6, 10, .int pe), (r0, 6, 11, .int pt), (r0, 6, 8, .int pu), (r0, 6, 6, .ref jun)]) [0, 1, 2, 3, 4] rfl rfl (M1 := [(rb, 100, n_rb, ca 0, fb), (jun, 146, 3000, ca 1, fu)]) [0, 1] rfl rfl (I1 := []) [] rfl rfl).more hb_15)
  clear hh ht_1 hvm_1 hz_1 hk_1 hS_1 hb_11 hb_12 hb_13 hb_14 hb_15
  obtain ⟨hr_2_0, hr_2_1, hr_2_2⟩ := hr_2
  refine lv_bipush (v := 34) hx hb dX4_isString_4 (by decide) ?_
  refine lv_icmp_eq (tgt := 11) hx hb dX4_isString_6 (by decide) (fun c_3 => ?_) (fun c_3 => ?_)
  · skip
    have c_3' : r_2.toInt = 34 := jb_eq (rfl) ((by decide)) c_3
    refine lv_aload_n hx hb dX4_isString_11 rfl (lv_at hl 0 rfl) ?_
    refine lv_dup hx hb dX4_isString_12 rfl ?_
    refine j7_read hx hb hown hK (C := RX4) (T := TX4) (N := 12) rfl hly_6_11 hlk_47 (hh_1.at 2 rfl) dX4_isString_13 ?_
    refine lv_iconst (v := 1) hx hb dX4_isString_16 (by decide) ?_
    refine lv_iadd hx hb dX4_isString_17 ?_
    refine lv_topi (fun z_4 ez_4 => ?_)
    have hz_4 : z_4.toInt = pt.toInt + 1 := by rw [ez_4]; exact jb_iadd2 (rfl) ((by decide)) (by omega)
    refine j7_put hx hb hown hK hh_1 hB hAp hB6 (C := RX4) (T := TX4) (N := 12) rfl (by decide) hg_r0 (i := 11) (by decide) hly_6_11 rfl hlk_47 rfl (ty := .int) (v := .int z_4) (by decide +kernel) rfl rfl (⟨_, rfl, by omega, by omega⟩) rfl (L1 := [(r0, 6, 9, .ref rb), (r0, 6, 10, .int pe), (r0, 6, 8, .int pu), (r0, 6, 6, .ref jun)]) [0, 1, 3, 4] rfl rfl rfl dX4_isString_18 (fun H_5 locs_5 hh_5 => ?_)
    clear hh_1
    refine lv_iconst (v := 0) hx hb dX4_isString_21 (by decide) ?_
    refine lv_istore_n (lv' := [(1, .int 0), (0, .ref r0)]) hx hb dX4_isString_22 rfl hl (by decide) rfl (fun ls hl => ?_)
    have L23 : ∀ (N : Nat) (v1_6 : Int32) (wt_6 : Int32) (wu_6 : Int32) (fu_6 : Nat → Int32) (kf : Nat) (H_6 : Heap) (locs_6 : List Loc), jSt (dC, dI) B base G0 G0 EX4_isStringJ s.heap 0 0 [(r0, 6, 11, .int wt_6), (r0, 6, 8, .int wu_6), (r0, 6, 9, .ref rb), (r0, 6, 10, .int pe), (r0, 6, 6, .ref jun)] [(jun, 146, 3000, ca 1, fu_6), (rb, 100, n_rb, ca 0, fb)] [] H_6 locs_6 → (0 ≤ v1_6.toInt ∧ v1_6.toInt ≤ wt_6.toInt - pt.toInt - 1 ∧ pt.toInt + 1 ≤ wt_6.toInt ∧ wt_6.toInt ≤ pe.toInt ∧ pu.toInt ≤ wu_6.toInt ∧ wu_6.toInt - pu.toInt + 1 ≤ wt_6.toInt - pt.toInt ∧ pe.toInt - wt_6.toInt < kf ∧ jjLs (jB8 fb) pe.toInt kf wt_6.toInt wu_6.toInt fu_6 (jjStr (jB8 fb) pe.toInt pt.toInt pu.toInt T9)) → (pe.toInt - wt_6.toInt : Int) < N → ∀ ls : Array Slot, lv_has ls 4 [(0, .ref r0), (1, .int v1_6)] → W p l e R s m ([.ref r0] : List Value).toArray below meth c H_6 locs_6 0 0 Q (F0 m 23 ls []) := by
      intro N
      induction N with
      | zero => intro v1_6 wt_6 wu_6 fu_6 kf H_6 locs_6 hh_6  hi_6 hm; exact absurd hm (by omega)
      | succ N L23 =>
        intro v1_6 wt_6 wu_6 fu_6 kf H_6 locs_6 hh_6  hi_6 hm_6 ls hl
        obtain ⟨hi_6_0, hi_6_1, hi_6_2, hi_6_3, hi_6_4, hi_6_5, hi_6_6, hi_6_7⟩ := hi_6
        refine lv_iload_n hx hb dX4_isString_23 rfl (lv_at hl 1 rfl) ?_
        refine lv_aload_n hx hb dX4_isString_24 rfl (lv_at hl 0 rfl) ?_
        refine j7_read hx hb hown hK (C := RX4) (T := TX4) (N := 12) rfl hly_6_10 hlk_43 (hh_6.at 3 rfl) dX4_isString_25 ?_
        refine lv_icmp_ge (tgt := 144) hx hb dX4_isString_28 (by decide) (fun c_7 => ?_) (fun c_7 => ?_)
        · skip
          have c_7' : v1_6.toInt ≥ pe.toInt := jb_ge (rfl) (rfl) c_7
          exact absurd c_7' (by omega)
        · skip
          have c_7' : v1_6.toInt < pe.toInt := jb_ge_n (rfl) (rfl) c_7
          refine lv_aload_n hx hb dX4_isString_31 rfl (lv_at hl 0 rfl) ?_
          refine j7_read hx hb hown hK (C := RX4) (T := TX4) (N := 12) rfl hly_6_11 hlk_47 (hh_6.at 0 rfl) dX4_isString_32 ?_
          refine lv_aload_n hx hb dX4_isString_35 rfl (lv_at hl 0 rfl) ?_
          refine j7_read hx hb hown hK (C := RX4) (T := TX4) (N := 12) rfl hly_6_10 hlk_43 (hh_6.at 3 rfl) dX4_isString_36 ?_
          refine lv_icmp_ge (tgt := 144) hx hb dX4_isString_39 (by decide) (fun c_8 => ?_) (fun c_8 => ?_)
          · skip
            have c_8' : wt_6.toInt ≥ pe.toInt := jb_ge (rfl) (rfl) c_8
            refine lv_iconst (v := 0) hx hb dX4_isString_144 (by decide) ?_
            rw [hQ]
            exact W.zret (v := 0) hx hb hr (jb_nz (Or.inl rfl)) (fun t ht hW => ⟨⟨0, (wt_6, wu_6, fu_6), rfl, ⟨(Or.inl rfl), by (try dsimp only); refine ⟨hi_6_7.bad (jjP_o (by omega)) (by omega), by omega, by omega, by omega, by omega, by omega⟩⟩, ⟨hh_6.rt (M1 := [(r0, 6, 11, .int wt_6), (r0, 6, 8, .int wu_6)]) [0, 1] rfl ht, by rw [ht]; exact hh_6.2.2.2.2.2.2.2.1.sub [0] rfl⟩⟩, by rw [ht]; try exact hh_6.1.1, fun q h9 hq => by rw [ht]; try exact hh_6.1.2.1 q h9 hq⟩) hh_6.1.2.2 dX4_isString_145
          · skip
            have c_8' : wt_6.toInt < pe.toInt := jb_ge_n (rfl) (rfl) c_8
            refine lv_aload_n hx hb dX4_isString_42 rfl (lv_at hl 0 rfl) ?_
            refine j7_read hx hb hown hK (C := RX4) (T := TX4) (N := 12) rfl hly_6_9 hlk_33 (hh_6.at 2 rfl) dX4_isString_43 ?_
            refine lv_aload_n hx hb dX4_isString_46 rfl (lv_at hl 0 rfl) ?_
            refine j7_read hx hb hown hK (C := RX4) (T := TX4) (N := 12) rfl hly_6_11 hlk_47 (hh_6.at 0 rfl) dX4_isString_47 ?_
            refine lv_aload_n hx hb dX4_isString_50 rfl (lv_at hl 0 rfl) ?_
            refine j7_read hx hb hown hK (C := RX4) (T := TX4) (N := 12) rfl hly_6_10 hlk_43 (hh_6.at 3 rfl) dX4_isString_51 ?_
            refine va_calli (A0 := jA base) (H0 := s.heap) (va_runS (As := [.ref rb, .int wt_6, .int pe]) (rest := []) ⟨hx, hb, hml, hown, hts⟩ (uX0_decodedJ l dC dI ca base B hB hAp hB100 G0 H_6 rb wt_6 pe n_rb fb) (va_cwS 3 hts (jgS (jWr_20 _ (List.mem_of_getElem? (i := 12) rfl)) (jWr_20 _ (List.mem_of_getElem? (i := 13) rfl)) (jWr_1 _ (List.mem_of_getElem? (i := 14) rfl)) (jWr_20 _ (List.mem_of_getElem? (i := 14) rfl))) rfl rfl rfl (by decide +kernel) ⟨by rw [← hR]; exact Nat.le_of_ble_eq_true rfl, by rw [← hR]; exact Nat.le_of_ble_eq_true rfl⟩) ⟨fun a U g mk q => by obtain ⟨q0, q1, q2, qK, q10, q11, q12, q13⟩ := q; exact ⟨q0, q1, q2, jG.calling g mk a qK, q10, q11, q12, q13⟩, fun U hU hW => ⟨rfl, hU, hh_6.2.1, hG.step hW hU hh_6.1, hg_rb, jP.nil, (hh_6.2.2.2.2.2.2.2.1.sub (L1 := [(rb, 100, n_rb, ca 0, fb)]) [1] rfl), by first | omega | (refine ⟨?_, ?_, ?_, ?_⟩ <;> (first | omega | rfl | assumption | decide | exact Or.inl rfl | exact Or.inr rfl | (simp only; omega)))⟩⟩ rfl rfl hl.1 rfl (lv_room (Nat.le_of_ble_eq_true rfl)) dX4_isString_54 ⟨Nat.zero_le _, Nat.zero_le _⟩) hh_6.1 (fun q _ h => h) (fun q h => h) (fun r_10 u_9 t_9 H_9 locs_9 ht_9 hvm_9 hr_10 hb_9 hz_9 hk_9 hS_9 => ?_)
            rw [ht_9] at hb_9
            obtain ⟨hb_91, hb_92, hb_93, hb_94, hb_95⟩ := hb_9
            have hh_9 : jSt (dC, dI) B base G0 G0 EX4_isStringJ s.heap 0 0 [(r0, 6, 11, .int wt_6), (r0, 6, 8, .int wu_6), (r0, 6, 9, .ref rb), (r0, 6, 10, .int pe), (r0, 6, 6, .ref jun)] [(jun, 146, 3000, ca 1, fu_6), (rb, 100, n_rb, ca 0, fb)] [] H_9 locs_9 := ((hh_6.call hb_91 hb_92 hb_93 hb_94 hS_9 rfl (L1 := [(r0, 6, 11, .int wt_6), (r0, 6, 8, .int wu_6), (r0, 6, 9, .ref rb), (r0, 6, 10, .int pe), (r0, 6, 6, .ref jun)]) [0, 1, 2, 3, 4] rfl rfl (M1 := [(jun, 146, 3000, ca 1, fu_6), (rb, 100, n_rb, ca 0, fb)]) [0, 1] rfl rfl (I1 := []) [] rfl rfl).more hb_95)
            clear hh_6 ht_9 hvm_9 hz_9 hk_9 hS_9 hb_91 hb_92 hb_93 hb_94 hb_95
            obtain ⟨hr_10_0, hr_10_1, hr_10_2⟩ := hr_10
            refine lv_istore_n (lv' := [(2, .int r_10), (0, .ref r0), (1, .int v1_6)]) hx hb dX4_isString_57 rfl hl (by decide) rfl (fun ls hl => ?_)
            refine lv_iload_n hx hb dX4_isString_58 rfl (lv_at hl 0 rfl) ?_
            refine lv_bipush (v := 34) hx hb dX4_isString_59 (by decide) ?_
            refine lv_icmp_ne (tgt := 76) hx hb dX4_isString_61 (by decide) (fun c_11 => ?_) (fun c_11 => ?_)
            · skip
              have c_11' : r_10.toInt ≠ 34 := jb_ne (rfl) ((by decide)) c_11
              refine lv_iload_n hx hb dX4_isString_76 rfl (lv_at hl 0 rfl) ?_
              refine lv_bipush (v := 32) hx hb dX4_isString_77 (by decide) ?_
              refine lv_icmp_ge (tgt := 84) hx hb dX4_isString_79 (by decide) (fun c_12 => ?_) (fun c_12 => ?_)
              · skip
                have c_12' : r_10.toInt ≥ 32 := jb_ge (rfl) ((by decide)) c_12
                refine lv_iload_n hx hb dX4_isString_84 rfl (lv_at hl 0 rfl) ?_
                refine lv_bipush (v := 92) hx hb dX4_isString_85 (by decide) ?_
                refine lv_icmp_ne (tgt := 120) hx hb dX4_isString_87 (by decide) (fun c_13 => ?_) (fun c_13 => ?_)
                · skip
                  have c_13' : r_10.toInt ≠ 92 := jb_ne (rfl) ((by decide)) c_13
                  refine lv_aload_n hx hb dX4_isString_120 rfl (lv_at hl 1 rfl) ?_
                  refine lv_dup hx hb dX4_isString_121 rfl ?_
                  refine j7_read hx hb hown hK (C := RX4) (T := TX4) (N := 12) rfl hly_6_11 hlk_47 (hh_9.at 0 rfl) dX4_isString_122 ?_
                  refine lv_iload_n hx hb dX4_isString_125 rfl (lv_at hl 0 rfl) ?_
                  refine va_calli (A0 := jA base) (H0 := s.heap) (va_runS (As := [.int r_10]) (rest := [.int wt_6, .ref r0]) ⟨hx, hb, hml, hown, hts⟩ (uX0_decodedSizeP l dC dI ca base B hB hAp G0 H_9 r_10) (va_cwS 1 hts (jgS (jWr_22 _ (List.mem_of_getElem? (i := 0) rfl)) (jWr_22 _ (List.mem_of_getElem? (i := 1) rfl)) (jWr_1 _ (List.mem_of_getElem? (i := 14) rfl)) (jWr_22 _ (List.mem_of_getElem? (i := 2) rfl))) rfl rfl rfl (by decide +kernel) ⟨by rw [← hR]; exact Nat.le_of_ble_eq_true rfl, by rw [← hR]; exact Nat.le_of_ble_eq_true rfl⟩) ⟨fun a U g mk q => by obtain ⟨q0, q1, q2, qK, q10, q11⟩ := q; exact ⟨q0, q1, q2, jG.calling g mk a qK, q10, q11⟩, fun U hU hW => ⟨rfl, hU, hh_9.2.1, hG.step hW hU hh_9.1, jP.nil, trivial⟩⟩ rfl rfl hl.1 rfl (lv_room (Nat.le_of_ble_eq_true rfl)) dX4_isString_126 ⟨Nat.zero_le _, Nat.zero_le _⟩) hh_9.1 (fun q _ h => h) (fun q h => h) (fun r_15 u_14 t_14 H_14 locs_14 ht_14 hvm_14 hr_15 hb_14 hz_14 hk_14 hS_14 => ?_)
                  rw [ht_14] at hb_14
                  obtain ⟨hb_141, hb_142, hb_143, hb_144, hb_145⟩ := hb_14
                  have hh_14 : jSt (dC, dI) B base G0 G0 EX4_isStringJ s.heap 0 0 [(r0, 6, 11, .int wt_6), (r0, 6, 8, .int wu_6), (r0, 6, 9, .ref rb), (r0, 6, 10, .int pe), (r0, 6, 6, .ref jun)] [(jun, 146, 3000, ca 1, fu_6), (rb, 100, n_rb, ca 0, fb)] [] H_14 locs_14 := ((hh_9.call hb_141 hb_142 hb_143 hb_144 hS_14 rfl (L1 := [(r0, 6, 11, .int wt_6), (r0, 6, 8, .int wu_6), (r0, 6, 9, .ref rb), (r0, 6, 10, .int pe), (r0, 6, 6, .ref jun)]) [0, 1, 2, 3, 4] rfl rfl (M1 := [(jun, 146, 3000, ca 1, fu_6), (rb, 100, n_rb, ca 0, fb)]) [0, 1] rfl rfl (I1 := []) [] rfl rfl).more hb_145)
                  clear hh_9 ht_14 hvm_14 hz_14 hk_14 hS_14 hb_141 hb_142 hb_143 hb_144 hb_145
                  obtain ⟨hr_15_0, hr_15_1, hr_15_2, hr_15_3⟩ := hr_15
                  have hsz := jUc.sz (b := jB8 fb) (a := wt_6.toInt) (e := pe.toInt) (by rw [← hr_10_0]; omega) (by omega)
                  rw [← hr_10_0, ← hr_15_0] at hsz
                  refine lv_iadd hx hb dX4_isString_129 ?_
                  refine lv_topi (fun z_16 ez_16 => ?_)
                  have hz_16 : z_16.toInt = wt_6.toInt + r_15.toInt := by rw [ez_16]; exact jb_iadd2 (rfl) (rfl) (by omega)
                  refine j7_put hx hb hown hK hh_14 hB hAp hB6 (C := RX4) (T := TX4) (N := 12) rfl (by decide) hg_r0 (i := 11) (by decide) hly_6_11 rfl hlk_47 rfl (ty := .int) (v := .int z_16) (by decide +kernel) rfl rfl (⟨_, rfl, by omega, by omega⟩) rfl (L1 := [(r0, 6, 8, .int wu_6), (r0, 6, 9, .ref rb), (r0, 6, 10, .int pe), (r0, 6, 6, .ref jun)]) [1, 2, 3, 4] rfl rfl rfl dX4_isString_130 (fun H_17 locs_17 hh_17 => ?_)
                  clear hh_14
                  refine lv_aload_n hx hb dX4_isString_133 rfl (lv_at hl 1 rfl) ?_
                  refine lv_iload_n hx hb dX4_isString_134 rfl (lv_at hl 0 rfl) ?_
                  refine va_callv (A0 := jA base) (H0 := s.heap) (va_runV (As := [.int r_10]) (rest := []) ⟨hx, hb, hml, hown, hts⟩ (uX4_addCharJ l dC dI ca base B hB hAp hB6 hB146 G0 H_17 r0 r_10 wu_6 jun fu_6) (cwV 1 hts (jgV (jWr_22 _ (List.mem_of_getElem? (i := 3) rfl)) (jWr_22 _ (List.mem_of_getElem? (i := 4) rfl)) (jWr_22 _ (List.mem_of_getElem? (i := 5) rfl)) (jWr_1 _ (List.mem_of_getElem? (i := 22) rfl)) (jWr_22 _ (List.mem_of_getElem? (i := 6) rfl))) rfl rfl rfl (by decide +kernel) ⟨by rw [← hR]; exact Nat.le_of_ble_eq_true rfl, by rw [← hR]; exact Nat.le_of_ble_eq_true rfl⟩) ⟨fun a U g mk q => by obtain ⟨q0, q1, q2, qK, q10, q11, q12, q13, q14⟩ := q; exact ⟨q0, q1, q2, jG.calling g mk a qK, q10, q11, q12, q13, q14⟩, hh_17.recv (C := RX4) (T := TX4) (N := 12) hB6 rfl (by decide) hg_r0 hK, fun U hU hW => ⟨rfl, hU, hh_17.2.1, hG.step hW hU hh_17.1, hg_r0, hg_jun, (hh_17.2.2.1.sub (L1 := [(r0, 6, 8, .int wu_6), (r0, 6, 6, .ref jun)]) [1, 4] rfl), (hh_17.2.2.2.2.2.2.2.1.sub (L1 := [(jun, 146, 3000, ca 1, fu_6)]) [0] rfl), by first | omega | (refine ⟨?_, ?_, ?_, ?_, ?_⟩ <;> (first | omega | rfl | assumption | decide | exact Or.inl rfl | exact Or.inr rfl | (simp only; omega)))⟩⟩ rfl rfl hl.1 rfl (lv_room (Nat.le_of_ble_eq_true rfl)) dX4_isString_135 ⟨Nat.zero_le _, Nat.zero_le _⟩) hh_17.1 (fun q _ h => h) (fun q h => h) (fun u_18 t_18 H_18 locs_18 ht_18 hvm_18 hr_19 hb_18 hz_18 hk_18 hS_18 => ?_)
                  obtain ⟨qu_18, gu_18⟩ := u_18
                  rw [ht_18] at hb_18
                  obtain ⟨⟨hb_181, hb_182, hb_183, hb_184, hb_185⟩, hb_186⟩ := hb_18
                  have hh_18 : jSt (dC, dI) B base G0 G0 EX4_isStringJ s.heap 0 0 [(r0, 6, 8, .int qu_18), (r0, 6, 11, .int z_16), (r0, 6, 9, .ref rb), (r0, 6, 10, .int pe), (r0, 6, 6, .ref jun)] [(jun, 146, 3000, ca 1, gu_18), (rb, 100, n_rb, ca 0, fb)] [] H_18 locs_18 := ((hh_17.call hb_181 hb_182 hb_183 hb_184 hS_18 rfl (L1 := [(r0, 6, 11, .int z_16), (r0, 6, 9, .ref rb), (r0, 6, 10, .int pe), (r0, 6, 6, .ref jun)]) [0, 2, 3, 4] rfl rfl (M1 := [(rb, 100, n_rb, ca 0, fb)]) [1] rfl rfl (I1 := []) [] rfl rfl).more hb_185).moreM hb_186
                  clear hh_17 ht_18 hvm_18 hz_18 hk_18 hS_18 hb_181 hb_182 hb_183 hb_184 hb_185
                  clear hb_186
                  try simp only at hr_19
                  obtain ⟨z_20, ez_20⟩ : ∃ y : Int32, y = v1_6 + 1 := ⟨_, rfl⟩
                  refine lv_iinc (v := z_20) (lv' := [(1, .int z_20), (2, .int r_10), (0, .ref r0)]) hx hb dX4_isString_138 hl (k := 2) rfl (by rw [ez_20]; rfl) (by decide) rfl (fun ls hl => ?_)
                  have hz_20 : z_20.toInt = v1_6.toInt + 1 := by rw [ez_20]; exact jb_iadd2 (rfl) (by decide) (by omega)
                  refine lv_goto (tgt := 23) hx hb dX4_isString_141 (by decide) ?_
                  exact L23 z_20 z_16 qu_18 gu_18 (kf - 1) _ _ (hh_18.sub (L1 := [(r0, 6, 11, .int z_16), (r0, 6, 8, .int qu_18), (r0, 6, 9, .ref rb), (r0, 6, 10, .int pe), (r0, 6, 6, .ref jun)]) [1, 0, 2, 3, 4] rfl (M1 := [(jun, 146, 3000, ca 1, gu_18), (rb, 100, n_rb, ca 0, fb)]) [0, 1] rfl (I1 := []) [] rfl) (by rcases hr_19 with ⟨h1, h2, h3, h4, h5⟩ | ⟨h1, h2, h3, h4⟩; (refine ⟨by omega, by omega, by omega, by omega, by omega, by omega, by omega, ?_⟩; exact hi_6_7.two (jjP_2 (by omega) hr_10_0 h1 rfl rfl hr_15_0) (by omega) (by omega) h2 h3 h4 h5); (refine ⟨by omega, by omega, by omega, by omega, by omega, by omega, by omega, ?_⟩; exact hi_6_7.one (jjP_1 (by omega) hr_10_0 (by omega) (by omega) (by omega) h1 hr_15_0) (by omega) (by omega) h2 h3 h4)) (by omega) _ (lv_sub hl [2, 0] rfl)
                · skip
                  have c_13' : r_10.toInt = 92 := jb_ne_n (rfl) ((by decide)) c_13
                  refine lv_aload_n hx hb dX4_isString_90 rfl (lv_at hl 1 rfl) ?_
                  refine va_ldcS hx hb hown rstr146 dX4_isString_91 ?_
                  refine va_calli (A0 := jA base) (H0 := s.heap) (va_runV (As := [.ref str146]) (rest := []) ⟨hx, hb, hml, hown, hts⟩ (uX4_isWordJ l dC dI ca base B hB hAp hB6 hB100 G0 H_9 r0 str146 2 (jChT "\\u") rb n_rb pe wt_6 fb) (cwV 1 hts (jgV (jWr_20 _ (List.mem_of_getElem? (i := 19) rfl)) (jWr_20 _ (List.mem_of_getElem? (i := 20) rfl)) (jWr_20 _ (List.mem_of_getElem? (i := 21) rfl)) (jWr_1 _ (List.mem_of_getElem? (i := 22) rfl)) (jWr_20 _ (List.mem_of_getElem? (i := 22) rfl))) rfl rfl rfl (by decide +kernel) ⟨by rw [← hR]; exact Nat.le_of_ble_eq_true rfl, by rw [← hR]; exact Nat.le_of_ble_eq_true rfl⟩) ⟨fun a U g mk q => by obtain ⟨q0, q1, q2, qK, q10, q11, q12, q13, q14, q15⟩ := q; exact ⟨q0, q1, q2, jG.calling g mk a qK, (q10.moved (Vm.Alike.refl U.vm)), q11, q12, q13, q14, q15⟩, hh_9.recv (C := RX4) (T := TX4) (N := 12) hB6 rfl (by decide) hg_r0 hK, fun U hU hW => ⟨rfl, hU, hh_9.2.1, hG.step hW hU hh_9.1, (hTstr146.moved hW.alike).kept hh_9.1.2.1, hg_r0, hg_rb, (hh_9.2.2.1.sub (L1 := [(r0, 6, 9, .ref rb), (r0, 6, 10, .int pe), (r0, 6, 11, .int wt_6)]) [2, 3, 0] rfl), (hh_9.2.2.2.2.2.2.2.1.sub (L1 := [(rb, 100, n_rb, ca 0, fb)]) [1] rfl), ⟨(by first | omega | rfl | assumption | exact jjAs_u), (by first | omega | rfl | assumption | exact jjAs_u), (by first | omega | rfl | assumption | exact jjAs_u), (by first | omega | rfl | assumption | exact jjAs_u), (by first | omega | rfl | assumption | exact jjAs_u), (by first | omega | rfl | assumption | exact jjAs_u), (by first | omega | rfl | assumption | exact jjAs_u), (by first | omega | rfl | assumption | exact jjAs_u), (by first | assumption | exact jjAs_u | omega), (by first | assumption | exact jjAs_u | omega)⟩⟩⟩ rfl rfl hl.1 rfl (lv_room (Nat.le_of_ble_eq_true rfl)) dX4_isString_93 ⟨Nat.zero_le _, Nat.zero_le _⟩) hh_9.1 (fun q _ h => h) (fun q h => h) (fun r_22 u_21 t_21 H_21 locs_21 ht_21 hvm_21 hr_22 hb_21 hz_21 hk_21 hS_21 => ?_)
                  obtain ⟨qt_21, rfl⟩ : ∃ z, z = u_21 := ⟨_, rfl⟩
                  rw [ht_21] at hb_21
                  obtain ⟨hb_211, hb_212, hb_213, hb_214, hb_215⟩ := hb_21
                  have hh_21 : jSt (dC, dI) B base G0 G0 EX4_isStringJ s.heap 0 0 [(r0, 6, 11, .int qt_21), (r0, 6, 8, .int wu_6), (r0, 6, 9, .ref rb), (r0, 6, 10, .int pe), (r0, 6, 6, .ref jun)] [(jun, 146, 3000, ca 1, fu_6), (rb, 100, n_rb, ca 0, fb)] [] H_21 locs_21 := ((hh_9.call hb_211 hb_212 hb_213 hb_214 hS_21 rfl (L1 := [(r0, 6, 8, .int wu_6), (r0, 6, 9, .ref rb), (r0, 6, 10, .int pe), (r0, 6, 6, .ref jun)]) [1, 2, 3, 4] rfl rfl (M1 := [(jun, 146, 3000, ca 1, fu_6), (rb, 100, n_rb, ca 0, fb)]) [0, 1] rfl rfl (I1 := []) [] rfl rfl).more hb_215)
                  clear hh_9 ht_21 hvm_21 hz_21 hk_21 hS_21 hb_211 hb_212 hb_213 hb_214 hb_215
                  obtain ⟨hr_22b, hr_22p⟩ := hr_22
                  obtain ⟨hr_22p_0, hr_22p_1⟩ := hr_22p
                  have hr_22' := jb_01 hr_22b
                  refine lv_if_eq (tgt := 106) hx hb dX4_isString_96 (by decide) (fun c_23 => ?_) (fun c_23 => ?_)
                  · skip
                    have c_23' : r_22.toInt = 0 := jb_eq (rfl) ((by decide)) c_23
                    first | (have hr_22p_1q := hr_22p_1.resolve_left (by omega); clear hr_22p_1) | (have hr_22p_1q := hr_22p_1.resolve_right (by omega); clear hr_22p_1) | skip
                    refine lv_aload_n hx hb dX4_isString_106 rfl (lv_at hl 1 rfl) ?_
                    refine va_calli (A0 := jA base) (H0 := s.heap) (va_runV (As := []) (rest := []) ⟨hx, hb, hml, hown, hts⟩ (uX4_isEscapeJ l dC dI ca base B hB hAp hB6 hB100 hB146 G0 H_21 r0 rb n_rb pe qt_21 wu_6 jun fb fu_6) (cwV 0 hts (jgV (jWr_21 _ (List.mem_of_getElem? (i := 20) rfl)) (jWr_21 _ (List.mem_of_getElem? (i := 21) rfl)) (jWr_21 _ (List.mem_of_getElem? (i := 22) rfl)) (jWr_1 _ (List.mem_of_getElem? (i := 22) rfl)) (jWr_21 _ (List.mem_of_getElem? (i := 23) rfl))) rfl rfl rfl (by decide +kernel) ⟨by rw [← hR]; exact Nat.le_of_ble_eq_true rfl, by rw [← hR]; exact Nat.le_of_ble_eq_true rfl⟩) ⟨fun a U g mk q => by obtain ⟨q0, q1, q2, qK, q10, q11, q12, q13, q14, q15⟩ := q; exact ⟨q0, q1, q2, jG.calling g mk a qK, q10, q11, q12, q13, q14, q15⟩, hh_21.recv (C := RX4) (T := TX4) (N := 12) hB6 rfl (by decide) hg_r0 hK, fun U hU hW => ⟨rfl, hU, hh_21.2.1, hG.step hW hU hh_21.1, hg_r0, hg_rb, hg_jun, (hh_21.2.2.1.sub (L1 := [(r0, 6, 9, .ref rb), (r0, 6, 10, .int pe), (r0, 6, 11, .int qt_21), (r0, 6, 8, .int wu_6), (r0, 6, 6, .ref jun)]) [2, 3, 0, 1, 4] rfl), (hh_21.2.2.2.2.2.2.2.1.sub (L1 := [(rb, 100, n_rb, ca 0, fb), (jun, 146, 3000, ca 1, fu_6)]) [1, 0] rfl), ⟨(by first | omega | rfl | assumption | (rw [show qt_21.toInt = wt_6.toInt by omega]; exact jjW_k (by rw [← hr_22p_0]; omega) (by omega) (by rw [jUc.low hr_10_0 (by omega) (by omega)]; omega))), (by first | omega | rfl | assumption | (rw [show qt_21.toInt = wt_6.toInt by omega]; exact jjW_k (by rw [← hr_22p_0]; omega) (by omega) (by rw [jUc.low hr_10_0 (by omega) (by omega)]; omega))), (by first | omega | rfl | assumption | (rw [show qt_21.toInt = wt_6.toInt by omega]; exact jjW_k (by rw [← hr_22p_0]; omega) (by omega) (by rw [jUc.low hr_10_0 (by omega) (by omega)]; omega))), (by first | omega | rfl | assumption | (rw [show qt_21.toInt = wt_6.toInt by omega]; exact jjW_k (by rw [← hr_22p_0]; omega) (by omega) (by rw [jUc.low hr_10_0 (by omega) (by omega)]; omega))), (by first | omega | rfl | assumption | (rw [show qt_21.toInt = wt_6.toInt by omega]; exact jjW_k (by rw [← hr_22p_0]; omega) (by omega) (by rw [jUc.low hr_10_0 (by omega) (by omega)]; omega))), (by first | omega | rfl | assumption | (rw [show qt_21.toInt = wt_6.toInt by omega]; exact jjW_k (by rw [← hr_22p_0]; omega) (by omega) (by rw [jUc.low hr_10_0 (by omega) (by omega)]; omega))), (by first | omega | rfl | assumption | (rw [show qt_21.toInt = wt_6.toInt by omega]; exact jjW_k (by rw [← hr_22p_0]; omega) (by omega) (by rw [jUc.low hr_10_0 (by omega) (by omega)]; omega))), (by first | omega | rfl | assumption | (rw [show qt_21.toInt = wt_6.toInt by omega]; exact jjW_k (by rw [← hr_22p_0]; omega) (by omega) (by rw [jUc.low hr_10_0 (by omega) (by omega)]; omega))), (by first | assumption | (rw [show qt_21.toInt = wt_6.toInt by omega]; exact jjW_k (by rw [← hr_22p_0]; omega) (by omega) (by rw [jUc.low hr_10_0 (by omega) (by omega)]; omega)) | omega)⟩⟩⟩ rfl rfl hl.1 rfl (lv_room (Nat.le_of_ble_eq_true rfl)) dX4_isString_107 ⟨Nat.zero_le _, Nat.zero_le _⟩) hh_21.1 (fun q _ h => h) (fun q h => h) (fun r_25 u_24 t_24 H_24 locs_24 ht_24 hvm_24 hr_25 hb_24 hz_24 hk_24 hS_24 => ?_)
                    obtain ⟨qt_24, qu_24, gu_24⟩ := u_24
                    rw [ht_24] at hb_24
                    obtain ⟨⟨hb_241, hb_242, hb_243, hb_244, hb_245⟩, hb_246⟩ := hb_24
                    have hh_24 : jSt (dC, dI) B base G0 G0 EX4_isStringJ s.heap 0 0 [(r0, 6, 11, .int qt_24), (r0, 6, 8, .int qu_24), (r0, 6, 9, .ref rb), (r0, 6, 10, .int pe), (r0, 6, 6, .ref jun)] [(jun, 146, 3000, ca 1, gu_24), (rb, 100, n_rb, ca 0, fb)] [] H_24 locs_24 := ((hh_21.call hb_241 hb_242 hb_243 hb_244 hS_24 rfl (L1 := [(r0, 6, 9, .ref rb), (r0, 6, 10, .int pe), (r0, 6, 6, .ref jun)]) [2, 3, 4] rfl rfl (M1 := [(rb, 100, n_rb, ca 0, fb)]) [1] rfl rfl (I1 := []) [] rfl rfl).more hb_245).moreM hb_246
                    clear hh_21 ht_24 hvm_24 hz_24 hk_24 hS_24 hb_241 hb_242 hb_243 hb_244 hb_245
                    clear hb_246
                    try simp only at hr_25
                    obtain ⟨hr_25b, hr_25p⟩ := hr_25
                    obtain ⟨hr_25p_0, hr_25p_1, hr_25p_2, hr_25p_3, hr_25p_4, hr_25p_5⟩ := hr_25p
                    have hq107 := hr_25p_0
                    rw [show qt_21.toInt = wt_6.toInt by omega] at hq107
                    have hr_25' := jb_01 hr_25b
                    refine lv_istore_n (lv' := [(3, .int r_25), (2, .int r_10), (0, .ref r0), (1, .int v1_6)]) hx hb dX4_isString_110 rfl hl (by decide) rfl (fun ls hl => ?_)
                    refine lv_iload_n hx hb dX4_isString_111 rfl (lv_at hl 0 rfl) ?_
                    refine lv_if_ne (tgt := 117) hx hb dX4_isString_112 (by decide) (fun c_26 => ?_) (fun c_26 => ?_)
                    · skip
                      have c_26' : r_25.toInt ≠ 0 := jb_ne (rfl) ((by decide)) c_26
                      refine lv_goto (tgt := 138) hx hb dX4_isString_117 (by decide) ?_
                      obtain ⟨z_27, ez_27⟩ : ∃ y : Int32, y = v1_6 + 1 := ⟨_, rfl⟩
                      refine lv_iinc (v := z_27) (lv' := [(1, .int z_27), (3, .int r_25), (2, .int r_10), (0, .ref r0)]) hx hb dX4_isString_138 hl (k := 3) rfl (by rw [ez_27]; rfl) (by decide) rfl (fun ls hl => ?_)
                      have hz_27 : z_27.toInt = v1_6.toInt + 1 := by rw [ez_27]; exact jb_iadd2 (rfl) (by decide) (by omega)
                      refine lv_goto (tgt := 23) hx hb dX4_isString_141 (by decide) ?_
                      exact L23 z_27 qt_24 qu_24 gu_24 (kf - 1) _ _ hh_24 (by refine ⟨by omega, by omega, by omega, by omega, by omega, by omega, by omega, ?_⟩; exact hi_6_7.esc (jjP_e (by omega) hr_10_0 (by omega)) hq107 (by omega) (by omega) (by omega)) (by omega) _ (lv_sub hl [3, 0] rfl)
                    · skip
                      have c_26' : r_25.toInt = 0 := jb_ne_n (rfl) ((by decide)) c_26
                      refine lv_iconst (v := 0) hx hb dX4_isString_115 (by decide) ?_
                      rw [hQ]
                      exact W.zret (v := 0) hx hb hr (jb_nz (Or.inl rfl)) (fun t ht hW => ⟨⟨0, (qt_24, qu_24, gu_24), rfl, ⟨(Or.inl rfl), by (try dsimp only); refine ⟨hi_6_7.bad (by rw [jjP_e (by omega) hr_10_0 (by omega)]; exact hq107.z (by omega)) (by omega), by omega, by omega, by omega, by omega, by omega⟩⟩, ⟨hh_24.rt (M1 := [(r0, 6, 11, .int qt_24), (r0, 6, 8, .int qu_24)]) [0, 1] rfl ht, by rw [ht]; exact hh_24.2.2.2.2.2.2.2.1.sub [0] rfl⟩⟩, by rw [ht]; try exact hh_24.1.1, fun q h9 hq => by rw [ht]; try exact hh_24.1.2.1 q h9 hq⟩) hh_24.1.2.2 dX4_isString_116
                  · skip
                    have c_23' : r_22.toInt ≠ 0 := jb_eq_n (rfl) ((by decide)) c_23
                    first | (have hr_22p_1q := hr_22p_1.resolve_left (by omega); clear hr_22p_1) | (have hr_22p_1q := hr_22p_1.resolve_right (by omega); clear hr_22p_1) | skip
                    refine lv_aload_n hx hb dX4_isString_99 rfl (lv_at hl 1 rfl) ?_
                    have hw7 := jjW_y (b := jB8 fb) (e := pe.toInt) (a := wt_6.toInt) (by rw [← hr_22p_0]; omega)
                    have hk7 : jjK (jB8 fb) pe.toInt (wt_6.toInt + 1) = 117 := (jjK.y hw7.1).trans hw7.2.2
                    refine va_calli (A0 := jA base) (H0 := s.heap) (va_runV (As := []) (rest := []) ⟨hx, hb, hml, hown, hts⟩ (uX4_isUnitEscapeJ l dC dI ca base B hB hAp hB6 hB100 hB146 G0 H_21 r0 rb n_rb pe qt_21 wu_6 jun fb fu_6) (cwV 0 hts (jgV (jWr_21 _ (List.mem_of_getElem? (i := 1) rfl)) (jWr_21 _ (List.mem_of_getElem? (i := 2) rfl)) (jWr_21 _ (List.mem_of_getElem? (i := 3) rfl)) (jWr_1 _ (List.mem_of_getElem? (i := 22) rfl)) (jWr_21 _ (List.mem_of_getElem? (i := 4) rfl))) rfl rfl rfl (by decide +kernel) ⟨by rw [← hR]; exact Nat.le_of_ble_eq_true rfl, by rw [← hR]; exact Nat.le_of_ble_eq_true rfl⟩) ⟨fun a U g mk q => by obtain ⟨q0, q1, q2, qK, q10, q11, q12, q13, q14, q15⟩ := q; exact ⟨q0, q1, q2, jG.calling g mk a qK, q10, q11, q12, q13, q14, q15⟩, hh_21.recv (C := RX4) (T := TX4) (N := 12) hB6 rfl (by decide) hg_r0 hK, fun U hU hW => ⟨rfl, hU, hh_21.2.1, hG.step hW hU hh_21.1, hg_r0, hg_rb, hg_jun, (hh_21.2.2.1.sub (L1 := [(r0, 6, 9, .ref rb), (r0, 6, 10, .int pe), (r0, 6, 11, .int qt_21), (r0, 6, 8, .int wu_6), (r0, 6, 6, .ref jun)]) [2, 3, 0, 1, 4] rfl), (hh_21.2.2.2.2.2.2.2.1.sub (L1 := [(rb, 100, n_rb, ca 0, fb), (jun, 146, 3000, ca 1, fu_6)]) [1, 0] rfl), by first | omega | (refine ⟨?_, ?_, ?_, ?_, ?_, ?_, ?_, ?_, ?_⟩ <;> (first | omega | rfl | assumption | decide | exact Or.inl rfl | exact Or.inr rfl | (simp only; omega)))⟩⟩ rfl rfl hl.1 rfl (lv_room (Nat.le_of_ble_eq_true rfl)) dX4_isString_100 ⟨Nat.zero_le _, Nat.zero_le _⟩) hh_21.1 (fun q _ h => h) (fun q h => h) (fun r_29 u_28 t_28 H_28 locs_28 ht_28 hvm_28 hr_29 hb_28 hz_28 hk_28 hS_28 => ?_)
                    obtain ⟨qt_28, qu_28, gu_28⟩ := u_28
                    rw [ht_28] at hb_28
                    obtain ⟨⟨hb_281, hb_282, hb_283, hb_284, hb_285⟩, hb_286⟩ := hb_28
                    have hh_28 : jSt (dC, dI) B base G0 G0 EX4_isStringJ s.heap 0 0 [(r0, 6, 11, .int qt_28), (r0, 6, 8, .int qu_28), (r0, 6, 9, .ref rb), (r0, 6, 10, .int pe), (r0, 6, 6, .ref jun)] [(jun, 146, 3000, ca 1, gu_28), (rb, 100, n_rb, ca 0, fb)] [] H_28 locs_28 := ((hh_21.call hb_281 hb_282 hb_283 hb_284 hS_28 rfl (L1 := [(r0, 6, 9, .ref rb), (r0, 6, 10, .int pe), (r0, 6, 6, .ref jun)]) [2, 3, 4] rfl rfl (M1 := [(rb, 100, n_rb, ca 0, fb)]) [1] rfl rfl (I1 := []) [] rfl rfl).more hb_285).moreM hb_286
                    clear hh_21 ht_28 hvm_28 hz_28 hk_28 hS_28 hb_281 hb_282 hb_283 hb_284 hb_285
                    clear hb_286
                    try simp only at hr_29
                    obtain ⟨hr_29b, hr_29p⟩ := hr_29
                    obtain ⟨hr_29p_0, hr_29p_1, hr_29p_2, hr_29p_3, hr_29p_4, hr_29p_5⟩ := hr_29p
                    have hr_29' := jb_01 hr_29b
                    refine lv_goto (tgt := 110) hx hb dX4_isString_103 (by decide) ?_
                    refine lv_istore_n (lv' := [(3, .int r_29), (2, .int r_10), (0, .ref r0), (1, .int v1_6)]) hx hb dX4_isString_110 rfl hl (by decide) rfl (fun ls hl => ?_)
                    refine lv_iload_n hx hb dX4_isString_111 rfl (lv_at hl 0 rfl) ?_
                    refine lv_if_ne (tgt := 117) hx hb dX4_isString_112 (by decide) (fun c_30 => ?_) (fun c_30 => ?_)
                    · skip
                      have c_30' : r_29.toInt ≠ 0 := jb_ne (rfl) ((by decide)) c_30
                      first | (have hr_29p_5q := hr_29p_5.resolve_left (by omega); clear hr_29p_5) | (have hr_29p_5q := hr_29p_5.resolve_right (by omega); clear hr_29p_5) | skip
                      refine lv_goto (tgt := 138) hx hb dX4_isString_117 (by decide) ?_
                      obtain ⟨z_31, ez_31⟩ : ∃ y : Int32, y = v1_6 + 1 := ⟨_, rfl⟩
                      refine lv_iinc (v := z_31) (lv' := [(1, .int z_31), (3, .int r_29), (2, .int r_10), (0, .ref r0)]) hx hb dX4_isString_138 hl (k := 3) rfl (by rw [ez_31]; rfl) (by decide) rfl (fun ls hl => ?_)
                      have hz_31 : z_31.toInt = v1_6.toInt + 1 := by rw [ez_31]; exact jb_iadd2 (rfl) (by decide) (by omega)
                      refine lv_goto (tgt := 23) hx hb dX4_isString_141 (by decide) ?_
                      exact L23 z_31 qt_28 qu_28 gu_28 (kf - 1) _ _ hh_28 (by refine ⟨by omega, by omega, by omega, by omega, by omega, by omega, by omega, ?_⟩; exact hi_6_7.esc ((jjP_e (by omega) hr_10_0 (by omega)).trans (jjE_u hk7 (p := qt_21.toInt) (by omega))) hr_29p_0 (by omega) (by omega) (by omega)) (by omega) _ (lv_sub hl [3, 0] rfl)
                    · skip
                      have c_30' : r_29.toInt = 0 := jb_ne_n (rfl) ((by decide)) c_30
                      first | (have hr_29p_5q := hr_29p_5.resolve_left (by omega); clear hr_29p_5) | (have hr_29p_5q := hr_29p_5.resolve_right (by omega); clear hr_29p_5) | skip
                      refine lv_iconst (v := 0) hx hb dX4_isString_115 (by decide) ?_
                      rw [hQ]
                      exact W.zret (v := 0) hx hb hr (jb_nz (Or.inl rfl)) (fun t ht hW => ⟨⟨0, (qt_28, qu_28, gu_28), rfl, ⟨(Or.inl rfl), by (try dsimp only); refine ⟨hi_6_7.bad (by rw [jjP_e (by omega) hr_10_0 (by omega), jjE_u hk7 (p := qt_21.toInt) (by omega)]; exact hr_29p_0.z (by omega)) (by omega), by omega, by omega, by omega, by omega, by omega⟩⟩, ⟨hh_28.rt (M1 := [(r0, 6, 11, .int qt_28), (r0, 6, 8, .int qu_28)]) [0, 1] rfl ht, by rw [ht]; exact hh_28.2.2.2.2.2.2.2.1.sub [0] rfl⟩⟩, by rw [ht]; try exact hh_28.1.1, fun q h9 hq => by rw [ht]; try exact hh_28.1.2.1 q h9 hq⟩) hh_28.1.2.2 dX4_isString_116
              · skip
                have c_12' : r_10.toInt < 32 := jb_ge_n (rfl) ((by decide)) c_12
                refine lv_iconst (v := 0) hx hb dX4_isString_82 (by decide) ?_
                rw [hQ]
                exact W.zret (v := 0) hx hb hr (jb_nz (Or.inl rfl)) (fun t ht hW => ⟨⟨0, (wt_6, wu_6, fu_6), rfl, ⟨(Or.inl rfl), by (try dsimp only); refine ⟨hi_6_7.bad (jjP_c (by omega) hr_10_0 (by omega)) (by omega), by omega, by omega, by omega, by omega, by omega⟩⟩, ⟨hh_9.rt (M1 := [(r0, 6, 11, .int wt_6), (r0, 6, 8, .int wu_6)]) [0, 1] rfl ht, by rw [ht]; exact hh_9.2.2.2.2.2.2.2.1.sub [0] rfl⟩⟩, by rw [ht]; try exact hh_9.1.1, fun q h9 hq => by rw [ht]; try exact hh_9.1.2.1 q h9 hq⟩) hh_9.1.2.2 dX4_isString_83
            · skip
              have c_11' : r_10.toInt = 34 := jb_ne_n (rfl) ((by decide)) c_11
              refine lv_aload_n hx hb dX4_isString_64 rfl (lv_at hl 1 rfl) ?_
              refine lv_dup hx hb dX4_isString_65 rfl ?_
              refine j7_read hx hb hown hK (C := RX4) (T := TX4) (N := 12) rfl hly_6_11 hlk_47 (hh_9.at 0 rfl) dX4_isString_66 ?_
              refine lv_iconst (v := 1) hx hb dX4_isString_69 (by decide) ?_
              refine lv_iadd hx hb dX4_isString_70 ?_
              refine lv_topi (fun z_32 ez_32 => ?_)
              have hz_32 : z_32.toInt = wt_6.toInt + 1 := by rw [ez_32]; exact jb_iadd2 (rfl) ((by decide)) (by omega)
              refine j7_put hx hb hown hK hh_9 hB hAp hB6 (C := RX4) (T := TX4) (N := 12) rfl (by decide) hg_r0 (i := 11) (by decide) hly_6_11 rfl hlk_47 rfl (ty := .int) (v := .int z_32) (by decide +kernel) rfl rfl (⟨_, rfl, by omega, by omega⟩) rfl (L1 := [(r0, 6, 8, .int wu_6), (r0, 6, 9, .ref rb), (r0, 6, 10, .int pe), (r0, 6, 6, .ref jun)]) [1, 2, 3, 4] rfl rfl rfl dX4_isString_71 (fun H_33 locs_33 hh_33 => ?_)
              clear hh_9
              refine lv_iconst (v := 1) hx hb dX4_isString_74 (by decide) ?_
              rw [hQ]
              exact W.zret (v := 1) hx hb hr (jb_nz (Or.inr rfl)) (fun t ht hW => ⟨⟨1, (z_32, wu_6, fu_6), rfl, ⟨(Or.inr rfl), by (try dsimp only); refine ⟨hi_6_7.end (jjP_q (by omega) hr_10_0 (by omega)) (by omega) (by omega) (by omega), by omega, by omega, by omega, by omega, by omega⟩⟩, ⟨hh_33.rt (M1 := [(r0, 6, 11, .int z_32), (r0, 6, 8, .int wu_6)]) [0, 1] rfl ht, by rw [ht]; exact hh_33.2.2.2.2.2.2.2.1.sub [0] rfl⟩⟩, by rw [ht]; try exact hh_33.1.1, fun q h9 hq => by rw [ht]; try exact hh_33.1.2.1 q h9 hq⟩) hh_33.1.2.2 dX4_isString_75
    exact L23 (pe.toInt - (z_4 : Int32).toInt : Int).toNat.succ 0 z_4 pu fu ((pe.toInt - pt.toInt).toNat + 1) _ _ (hh_5.sub (L1 := [(r0, 6, 11, .int z_4), (r0, 6, 8, .int pu), (r0, 6, 9, .ref rb), (r0, 6, 10, .int pe), (r0, 6, 6, .ref jun)]) [0, 3, 1, 2, 4] rfl (M1 := [(jun, 146, 3000, ca 1, fu), (rb, 100, n_rb, ca 0, fb)]) [1, 0] rfl (I1 := []) [] rfl) (by have hlt9 := jjK.lt hr_2_0 (by omega); refine ⟨by omega, by omega, by omega, by omega, by omega, by omega, by omega, jjLs.start hp9 (by rw [← hr_2_0]; omega) (by omega) rfl⟩) (by omega) _ (lv_sub hl [1, 0] rfl)
  · skip
    have c_3' : r_2.toInt ≠ 34 := jb_eq_n (rfl) ((by decide)) c_3
    refine lv_iconst (v := 0) hx hb dX4_isString_9 (by decide) ?_
    rw [hQ]
    exact W.zret (v := 0) hx hb hr (jb_nz (Or.inl rfl)) (fun t ht hW => ⟨⟨0, (pt, pu, fu), rfl, ⟨(Or.inl rfl), by (try dsimp only); refine ⟨Or.inl ⟨by omega, jjStr.no (by rw [← hr_2_0]; omega)⟩, by omega, by omega, by omega, by omega, by omega⟩⟩, ⟨hh_1.rt (M1 := [(r0, 6, 11, .int pt), (r0, 6, 8, .int pu)]) [2, 3] rfl ht, by rw [ht]; exact hh_1.2.2.2.2.2.2.2.1.sub [1] rfl⟩⟩, by rw [ht]; try exact hh_1.1.1, fun q h9 hq => by rw [ht]; try exact hh_1.1.2.1 q h9 hq⟩) hh_1.1.2.2 dX4_isString_10
end
