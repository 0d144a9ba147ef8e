section
def EX6_signOfT : List (Nat × Nat) := []
def EX10_addT : List (Nat × Nat) := [(12, 3), (101, 0), (293, 0)]
def EX10_scanNameT : List (Nat × Nat) := [(8, 3), (12, 3), (101, 0), (102, 0), (132, 0), (133, 0), (293, 0)]
def EX11_isLetterT : List (Nat × Nat) := []
def EX11_isDigitT : List (Nat × Nat) := []
def EX10_scanT : List (Nat × Nat) := [(8, 3), (12, 3), (101, 0), (102, 0), (132, 0), (133, 0), (293, 0)]
set_option maxHeartbeats 4000000 in
set_option maxRecDepth 20000 in
theorem uX6_signOfT (l : Launch) (dC : Nat → ClassId) (dI : Nat → Nat → Nat) (ca : Nat → ClassId) (base : Nat) (B : jF) (hB : jBok B) (hAp : jAp (dC, dI)) (G0 : jT) (H0 : Heap) (a0 : Int32) : Met l yX6_signOf (jw yX6_signOf cX6_signOf 1 (some .int)) ({ frames := 0, cells := 0, slots := 0, locals := 0 }) (va_Pc [.int a0] (fun U => U.heap = H0 ∧ jX B base G0 [] H0 ∧ jG dC dI ca base U ∧ jP (dC, dI) G0 H0 [] ∧ True)) (va_Qi (S := Unit) (fun r u => (-1 ≤ r.toInt ∧ r.toInt ≤ 63 ∧ jcSg a0.toInt = (if r.toInt < 0 then 0 else 1))) (fun u t => jRt (dC, dI) B base G0 EX6_signOfT H0 [] t.heap) (jA base)) 0 0 (jA base) := by
  refine Met.ofW (cc := cX6_signOf) (maxL := 1) (ret := (some .int)) (by decide) rfl ?_
  intro p e s m args below meth c s₁ Bd hml hv
  obtain ⟨rfl, hH0, hX, hG, hP0, hp0⟩ := hv
  have hK := hG.1
  have hx := Bd.exec
  have hb := Bd.bytes
  have hr := Bd.returns
  have hts := atoms_spec (ws := (jw yX6_signOf cX6_signOf 1 (some .int))) Bd.pre
  have htw : ∀ w ∈ jWl, w.before _ s = true := fun w h => hts w (List.mem_cons_of_mem _ h)
  have hown : s.vm.findClass RX6 = some m.cls := findClass_of_methodNamed Bd.named
  have hlocks := Bd.notSynchronized
  obtain ⟨Q, hQ⟩ : ∃ Q, Q = MQ below (va_Qi (S := Unit) (fun r u => (-1 ≤ r.toInt ∧ r.toInt ≤ 63 ∧ jcSg a0.toInt = (if r.toInt < 0 then 0 else 1))) (fun u t => jRt (dC, dI) B base G0 EX6_signOfT H0 [] t.heap) (jA base)) ([.int a0] : List Value).toArray s 0 0 (jA base) := ⟨_, rfl⟩
  rw [← hQ]
  have hl := lv_entry ([.int a0]) (n := 1) (Nat.le_of_ble_eq_true rfl)
  rw [lg_entry_eq]
  generalize (lg_sl ([.int a0]) ++ List.replicate (1 - (lg_sl ([.int a0])).length) Slot.unset).toArray = ls at hl ⊢
  have hl : lv_has ls 1 [(0, .int a0)] := hl
  generalize hR : (headSpec (jw yX6_signOf cX6_signOf 1 (some .int)) ({ frames := 0, cells := 0, slots := 0, locals := 0 })).room = R
  subst hH0
  have hh : jSt (dC, dI) B base G0 G0 EX6_signOfT s.heap 0 0 [] [] [] s.heap [] := jSt.start hX hP0 jMc.nil jIs.nil
  clear hX hP0
  have hkm1 : ((-1) : Int32).toInt = (-1) := by decide
  have hk0 : (0 : Int32).toInt = 0 := by decide
  have hk1 : (1 : Int32).toInt = 1 := by decide
  have hk26 : (26 : Int32).toInt = 26 := by decide
  have hk39 : (39 : Int32).toInt = 39 := by decide
  have hk48 : (48 : Int32).toInt = 48 := by decide
  have hk52 : (52 : Int32).toInt = 52 := by decide
  have hk57 : (57 : Int32).toInt = 57 := by decide
  have hk62 : (62 : Int32).toInt = 62 := by decide
  have hk63 : (63 : Int32).toInt = 63 := by decide
  have hk65 : (65 : Int32).toInt = 65 := by decide
  have hk90 : (90 : Int32).toInt = 90 := by decide
  have hk95 : (95 : Int32).toInt = 95 := by decide
  have hk97 : (97 : Int32).toInt = 97 := by decide
  have hk122 : (122 : Int32).toInt = 122 := by decide
  have hrg_a0 := jb_rng a0
  refine lv_iload_n hx hb dX6_signOf_0 rfl (lv_at hl 0 rfl) ?_
  refine lv_bipush (v := 97) hx hb dX6_signOf_1 (by decide) ?_
  refine lv_icmp_lt (tgt := 17) hx hb dX6_signOf_3 (by decide) (fun c_1 => ?_) (fun c_1 => ?_)
  · skip
    have c_1' : a0.toInt < 97 := jb_lt (rfl) ((by decide)) c_1
    refine lv_iload_n hx hb dX6_signOf_17 rfl (lv_at hl 0 rfl) ?_
    refine lv_bipush (v := 65) hx hb dX6_signOf_18 (by decide) ?_
    refine lv_icmp_lt (tgt := 37) hx hb dX6_signOf_20 (by decide) (fun c_2 => ?_) (fun c_2 => ?_)
    · skip
      have c_2' : a0.toInt < 65 := jb_lt (rfl) ((by decide)) c_2
      refine lv_iload_n hx hb dX6_signOf_37 rfl (lv_at hl 0 rfl) ?_
      refine lv_bipush (v := 48) hx hb dX6_signOf_38 (by decide) ?_
      refine lv_icmp_lt (tgt := 57) hx hb dX6_signOf_40 (by decide) (fun c_3 => ?_) (fun c_3 => ?_)
      · skip
        have c_3' : a0.toInt < 48 := jb_lt (rfl) ((by decide)) c_3
        refine lv_iload_n hx hb dX6_signOf_57 rfl (lv_at hl 0 rfl) ?_
        refine lv_bipush (v := 95) hx hb dX6_signOf_58 (by decide) ?_
        refine lv_icmp_ne (tgt := 68) hx hb dX6_signOf_60 (by decide) (fun c_4 => ?_) (fun c_4 => ?_)
        · skip
          have c_4' : a0.toInt ≠ 95 := jb_ne (rfl) ((by decide)) c_4
          refine lv_iload_n hx hb dX6_signOf_68 rfl (lv_at hl 0 rfl) ?_
          refine lv_bipush (v := 39) hx hb dX6_signOf_69 (by decide) ?_
          refine lv_icmp_ne (tgt := 79) hx hb dX6_signOf_71 (by decide) (fun c_5 => ?_) (fun c_5 => ?_)
          · skip
            have c_5' : a0.toInt ≠ 39 := jb_ne (rfl) ((by decide)) c_5
            refine lv_iconst (v := (-1)) hx hb dX6_signOf_79 (by decide) ?_
            rw [hQ]
            exact W.iret (v := (-1)) hx hb hr (fun t ht hW => ⟨⟨(-1), (), rfl, by refine ⟨by omega, by omega, ?_⟩; unfold jcSg; first | (rw [if_pos (by omega), if_neg (by omega)]) | (rw [if_neg (by omega), if_pos (by omega)]), hh.rt (M1 := []) [] rfl ht⟩, by rw [ht]; try exact hh.1.1, fun q h9 hq => by rw [ht]; try exact hh.1.2.1 q h9 hq⟩) hh.1.2.2 dX6_signOf_80
          · skip
            have c_5' : a0.toInt = 39 := jb_ne_n (rfl) ((by decide)) c_5
            refine lv_bipush (v := 63) hx hb dX6_signOf_74 (by decide) ?_
            refine lv_goto (tgt := 80) hx hb dX6_signOf_76 (by decide) ?_
            rw [hQ]
            exact W.iret (v := 63) hx hb hr (fun t ht hW => ⟨⟨63, (), rfl, by refine ⟨by omega, by omega, ?_⟩; unfold jcSg; first | (rw [if_pos (by omega), if_neg (by omega)]) | (rw [if_neg (by omega), if_pos (by omega)]), hh.rt (M1 := []) [] rfl ht⟩, by rw [ht]; try exact hh.1.1, fun q h9 hq => by rw [ht]; try exact hh.1.2.1 q h9 hq⟩) hh.1.2.2 dX6_signOf_80
        · skip
          have c_4' : a0.toInt = 95 := jb_ne_n (rfl) ((by decide)) c_4
          refine lv_bipush (v := 62) hx hb dX6_signOf_63 (by decide) ?_
          refine lv_goto (tgt := 80) hx hb dX6_signOf_65 (by decide) ?_
          rw [hQ]
          exact W.iret (v := 62) hx hb hr (fun t ht hW => ⟨⟨62, (), rfl, by refine ⟨by omega, by omega, ?_⟩; unfold jcSg; first | (rw [if_pos (by omega), if_neg (by omega)]) | (rw [if_neg (by omega), if_pos (by omega)]), hh.rt (M1 := []) [] rfl ht⟩, by rw [ht]; try exact hh.1.1, fun q h9 hq => by rw [ht]; try exact hh.1.2.1 q h9 hq⟩) hh.1.2.2 dX6_signOf_80
      · skip
        have c_3' : a0.toInt ≥ 48 := jb_lt_n (rfl) ((by decide)) c_3
        refine lv_iload_n hx hb dX6_signOf_43 rfl (lv_at hl 0 rfl) ?_
        refine lv_bipush (v := 57) hx hb dX6_signOf_44 (by decide) ?_
        refine lv_icmp_gt (tgt := 57) hx hb dX6_signOf_46 (by decide) (fun c_6 => ?_) (fun c_6 => ?_)
        · skip
          have c_6' : a0.toInt > 57 := jb_gt (rfl) ((by decide)) c_6
          refine lv_iload_n hx hb dX6_signOf_57 rfl (lv_at hl 0 rfl) ?_
          refine lv_bipush (v := 95) hx hb dX6_signOf_58 (by decide) ?_
          refine lv_icmp_ne (tgt := 68) hx hb dX6_signOf_60 (by decide) (fun c_7 => ?_) (fun c_7 => ?_)
          · skip
            have c_7' : a0.toInt ≠ 95 := jb_ne (rfl) ((by decide)) c_7
            refine lv_iload_n hx hb dX6_signOf_68 rfl (lv_at hl 0 rfl) ?_
            refine lv_bipush (v := 39) hx hb dX6_signOf_69 (by decide) ?_
            refine lv_icmp_ne (tgt := 79) hx hb dX6_signOf_71 (by decide) (fun c_8 => ?_) (fun c_8 => ?_)
            · skip
              have c_8' : a0.toInt ≠ 39 := jb_ne (rfl) ((by decide)) c_8
              refine lv_iconst (v := (-1)) hx hb dX6_signOf_79 (by decide) ?_
              rw [hQ]
              exact W.iret (v := (-1)) hx hb hr (fun t ht hW => ⟨⟨(-1), (), rfl, by refine ⟨by omega, by omega, ?_⟩; unfold jcSg; first | (rw [if_pos (by omega), if_neg (by omega)]) | (rw [if_neg (by omega), if_pos (by omega)]), hh.rt (M1 := []) [] rfl ht⟩, by rw [ht]; try exact hh.1.1, fun q h9 hq => by rw [ht]; try exact hh.1.2.1 q h9 hq⟩) hh.1.2.2 dX6_signOf_80
            · skip
              have c_8' : a0.toInt = 39 := jb_ne_n (rfl) ((by decide)) c_8
              refine lv_bipush (v := 63) hx hb dX6_signOf_74 (by decide) ?_
              refine lv_goto (tgt := 80) hx hb dX6_signOf_76 (by decide) ?_
              rw [hQ]
              exact W.iret (v := 63) hx hb hr (fun t ht hW => ⟨⟨63, (), rfl, by refine ⟨by omega, by omega, ?_⟩; unfold jcSg; first | (rw [if_pos (by omega), if_neg (by omega)]) | (rw [if_neg (by omega), if_pos (by omega)]), hh.rt (M1 := []) [] rfl ht⟩, by rw [ht]; try exact hh.1.1, fun q h9 hq => by rw [ht]; try exact hh.1.2.1 q h9 hq⟩) hh.1.2.2 dX6_signOf_80
          · skip
            have c_7' : a0.toInt = 95 := jb_ne_n (rfl) ((by decide)) c_7
            refine lv_bipush (v := 62) hx hb dX6_signOf_63 (by decide) ?_
            refine lv_goto (tgt := 80) hx hb dX6_signOf_65 (by decide) ?_
            rw [hQ]
            exact W.iret (v := 62) hx hb hr (fun t ht hW => ⟨⟨62, (), rfl, by refine ⟨by omega, by omega, ?_⟩; unfold jcSg; first | (rw [if_pos (by omega), if_neg (by omega)]) | (rw [if_neg (by omega), if_pos (by omega)]), hh.rt (M1 := []) [] rfl ht⟩, by rw [ht]; try exact hh.1.1, fun q h9 hq => by rw [ht]; try exact hh.1.2.1 q h9 hq⟩) hh.1.2.2 dX6_signOf_80
        · skip
          have c_6' : a0.toInt ≤ 57 := jb_gt_n (rfl) ((by decide)) c_6
          refine lv_iload_n hx hb dX6_signOf_49 rfl (lv_at hl 0 rfl) ?_
          refine lv_bipush (v := 48) hx hb dX6_signOf_50 (by decide) ?_
          refine lv_isub hx hb dX6_signOf_52 ?_
          refine lv_topi (fun z_9 ez_9 => ?_)
          have hz_9 : z_9.toInt = a0.toInt - 48 := by rw [ez_9]; exact jb_isub2 (rfl) ((by decide)) (by omega)
          refine lv_bipush (v := 52) hx hb dX6_signOf_53 (by decide) ?_
          refine lv_iadd hx hb dX6_signOf_55 ?_
          refine lv_topi (fun z_10 ez_10 => ?_)
          have hz_10 : z_10.toInt = z_9.toInt + 52 := by rw [ez_10]; exact jb_iadd2 (rfl) ((by decide)) (by omega)
          rw [hQ]
          exact W.iret (v := z_10) hx hb hr (fun t ht hW => ⟨⟨z_10, (), rfl, by refine ⟨by omega, by omega, ?_⟩; unfold jcSg; first | (rw [if_pos (by omega), if_neg (by omega)]) | (rw [if_neg (by omega), if_pos (by omega)]), hh.rt (M1 := []) [] rfl ht⟩, by rw [ht]; try exact hh.1.1, fun q h9 hq => by rw [ht]; try exact hh.1.2.1 q h9 hq⟩) hh.1.2.2 dX6_signOf_56
    · skip
      have c_2' : a0.toInt ≥ 65 := jb_lt_n (rfl) ((by decide)) c_2
      refine lv_iload_n hx hb dX6_signOf_23 rfl (lv_at hl 0 rfl) ?_
      refine lv_bipush (v := 90) hx hb dX6_signOf_24 (by decide) ?_
      refine lv_icmp_gt (tgt := 37) hx hb dX6_signOf_26 (by decide) (fun c_11 => ?_) (fun c_11 => ?_)
      · skip
        have c_11' : a0.toInt > 90 := jb_gt (rfl) ((by decide)) c_11
        refine lv_iload_n hx hb dX6_signOf_37 rfl (lv_at hl 0 rfl) ?_
        refine lv_bipush (v := 48) hx hb dX6_signOf_38 (by decide) ?_
        refine lv_icmp_lt (tgt := 57) hx hb dX6_signOf_40 (by decide) (fun c_12 => ?_) (fun c_12 => ?_)
        · skip
          have c_12' : a0.toInt < 48 := jb_lt (rfl) ((by decide)) c_12
          refine lv_iload_n hx hb dX6_signOf_57 rfl (lv_at hl 0 rfl) ?_
          refine lv_bipush (v := 95) hx hb dX6_signOf_58 (by decide) ?_
          refine lv_icmp_ne (tgt := 68) hx hb dX6_signOf_60 (by decide) (fun c_13 => ?_) (fun c_13 => ?_)
          · skip
            have c_13' : a0.toInt ≠ 95 := jb_ne (rfl) ((by decide)) c_13
            refine lv_iload_n hx hb dX6_signOf_68 rfl (lv_at hl 0 rfl) ?_
            refine lv_bipush (v := 39) hx hb dX6_signOf_69 (by decide) ?_
            refine lv_icmp_ne (tgt := 79) hx hb dX6_signOf_71 (by decide) (fun c_14 => ?_) (fun c_14 => ?_)
            · skip
              have c_14' : a0.toInt ≠ 39 := jb_ne (rfl) ((by decide)) c_14
              refine lv_iconst (v := (-1)) hx hb dX6_signOf_79 (by decide) ?_
              rw [hQ]
              exact W.iret (v := (-1)) hx hb hr (fun t ht hW => ⟨⟨(-1), (), rfl, by refine ⟨by omega, by omega, ?_⟩; unfold jcSg; first | (rw [if_pos (by omega), if_neg (by omega)]) | (rw [if_neg (by omega), if_pos (by omega)]), hh.rt (M1 := []) [] rfl ht⟩, by rw [ht]; try exact hh.1.1, fun q h9 hq => by rw [ht]; try exact hh.1.2.1 q h9 hq⟩) hh.1.2.2 dX6_signOf_80
            · skip
              have c_14' : a0.toInt = 39 := jb_ne_n (rfl) ((by decide)) c_14
              refine lv_bipush (v := 63) hx hb dX6_signOf_74 (by decide) ?_
              refine lv_goto (tgt := 80) hx hb dX6_signOf_76 (by decide) ?_
              rw [hQ]
              exact W.iret (v := 63) hx hb hr (fun t ht hW => ⟨⟨63, (), rfl, by refine ⟨by omega, by omega, ?_⟩; unfold jcSg; first | (rw [if_pos (by omega), if_neg (by omega)]) | (rw [if_neg (by omega), if_pos (by omega)]), hh.rt (M1 := []) [] rfl ht⟩, by rw [ht]; try exact hh.1.1, fun q h9 hq => by rw [ht]; try exact hh.1.2.1 q h9 hq⟩) hh.1.2.2 dX6_signOf_80
          · skip
            have c_13' : a0.toInt = 95 := jb_ne_n (rfl) ((by decide)) c_13
            refine lv_bipush (v := 62) hx hb dX6_signOf_63 (by decide) ?_
            refine lv_goto (tgt := 80) hx hb dX6_signOf_65 (by decide) ?_
            rw [hQ]
            exact W.iret (v := 62) hx hb hr (fun t ht hW => ⟨⟨62, (), rfl, by refine ⟨by omega, by omega, ?_⟩; unfold jcSg; first | (rw [if_pos (by omega), if_neg (by omega)]) | (rw [if_neg (by omega), if_pos (by omega)]), hh.rt (M1 := []) [] rfl ht⟩, by rw [ht]; try exact hh.1.1, fun q h9 hq => by rw [ht]; try exact hh.1.2.1 q h9 hq⟩) hh.1.2.2 dX6_signOf_80
        · skip
          have c_12' : a0.toInt ≥ 48 := jb_lt_n (rfl) ((by decide)) c_12
          refine lv_iload_n hx hb dX6_signOf_43 rfl (lv_at hl 0 rfl) ?_
          refine lv_bipush (v := 57) hx hb dX6_signOf_44 (by decide) ?_
          refine lv_icmp_gt (tgt := 57) hx hb dX6_signOf_46 (by decide) (fun c_15 => ?_) (fun c_15 => ?_)
          · skip
            have c_15' : a0.toInt > 57 := jb_gt (rfl) ((by decide)) c_15
            refine lv_iload_n hx hb dX6_signOf_57 rfl (lv_at hl 0 rfl) ?_
            refine lv_bipush (v := 95) hx hb dX6_signOf_58 (by decide) ?_
            refine lv_icmp_ne (tgt := 68) hx hb dX6_signOf_60 (by decide) (fun c_16 => ?_) (fun c_16 => ?_)
            · skip
              have c_16' : a0.toInt ≠ 95 := jb_ne (rfl) ((by decide)) c_16
              refine lv_iload_n hx hb dX6_signOf_68 rfl (lv_at hl 0 rfl) ?_
              refine lv_bipush (v := 39) hx hb dX6_signOf_69 (by decide) ?_
              refine lv_icmp_ne (tgt := 79) hx hb dX6_signOf_71 (by decide) (fun c_17 => ?_) (fun c_17 => ?_)
              · skip
                have c_17' : a0.toInt ≠ 39 := jb_ne (rfl) ((by decide)) c_17
                refine lv_iconst (v := (-1)) hx hb dX6_signOf_79 (by decide) ?_
                rw [hQ]
                exact W.iret (v := (-1)) hx hb hr (fun t ht hW => ⟨⟨(-1), (), rfl, by refine ⟨by omega, by omega, ?_⟩; unfold jcSg; first | (rw [if_pos (by omega), if_neg (by omega)]) | (rw [if_neg (by omega), if_pos (by omega)]), hh.rt (M1 := []) [] rfl ht⟩, by rw [ht]; try exact hh.1.1, fun q h9 hq => by rw [ht]; try exact hh.1.2.1 q h9 hq⟩) hh.1.2.2 dX6_signOf_80
              · skip
                have c_17' : a0.toInt = 39 := jb_ne_n (rfl) ((by decide)) c_17
                refine lv_bipush (v := 63) hx hb dX6_signOf_74 (by decide) ?_
                refine lv_goto (tgt := 80) hx hb dX6_signOf_76 (by decide) ?_
                rw [hQ]
                exact W.iret (v := 63) hx hb hr (fun t ht hW => ⟨⟨63, (), rfl, by refine ⟨by omega, by omega, ?_⟩; unfold jcSg; first | (rw [if_pos (by omega), if_neg (by omega)]) | (rw [if_neg (by omega), if_pos (by omega)]), hh.rt (M1 := []) [] rfl ht⟩, by rw [ht]; try exact hh.1.1, fun q h9 hq => by rw [ht]; try exact hh.1.2.1 q h9 hq⟩) hh.1.2.2 dX6_signOf_80
            · skip
              have c_16' : a0.toInt = 95 := jb_ne_n (rfl) ((by decide)) c_16
              refine lv_bipush (v := 62) hx hb dX6_signOf_63 (by decide) ?_
              refine lv_goto (tgt := 80) hx hb dX6_signOf_65 (by decide) ?_
              rw [hQ]
              exact W.iret (v := 62) hx hb hr (fun t ht hW => ⟨⟨62, (), rfl, by refine ⟨by omega, by omega, ?_⟩; unfold jcSg; first | (rw [if_pos (by omega), if_neg (by omega)]) | (rw [if_neg (by omega), if_pos (by omega)]), hh.rt (M1 := []) [] rfl ht⟩, by rw [ht]; try exact hh.1.1, fun q h9 hq => by rw [ht]; try exact hh.1.2.1 q h9 hq⟩) hh.1.2.2 dX6_signOf_80
          · skip
            have c_15' : a0.toInt ≤ 57 := jb_gt_n (rfl) ((by decide)) c_15
            refine lv_iload_n hx hb dX6_signOf_49 rfl (lv_at hl 0 rfl) ?_
            refine lv_bipush (v := 48) hx hb dX6_signOf_50 (by decide) ?_
            refine lv_isub hx hb dX6_signOf_52 ?_
            refine lv_topi (fun z_18 ez_18 => ?_)
            have hz_18 : z_18.toInt = a0.toInt - 48 := by rw [ez_18]; exact jb_isub2 (rfl) ((by decide)) (by omega)
            refine lv_bipush (v := 52) hx hb dX6_signOf_53 (by decide) ?_
            refine lv_iadd hx hb dX6_signOf_55 ?_
            refine lv_topi (fun z_19 ez_19 => ?_)
            have hz_19 : z_19.toInt = z_18.toInt + 52 := by rw [ez_19]; exact jb_iadd2 (rfl) ((by decide)) (by omega)
            rw [hQ]
            exact W.iret (v := z_19) hx hb hr (fun t ht hW => ⟨⟨z_19, (), rfl, by refine ⟨by omega, by omega, ?_⟩; unfold jcSg; first | (rw [if_pos (by omega), if_neg (by omega)]) | (rw [if_neg (by omega), if_pos (by omega)]), hh.rt (M1 := []) [] rfl ht⟩, by rw [ht]; try exact hh.1.1, fun q h9 hq => by rw [ht]; try exact hh.1.2.1 q h9 hq⟩) hh.1.2.2 dX6_signOf_56
      · skip
        have c_11' : a0.toInt ≤ 90 := jb_gt_n (rfl) ((by decide)) c_11
        refine lv_iload_n hx hb dX6_signOf_29 rfl (lv_at hl 0 rfl) ?_
        refine lv_bipush (v := 65) hx hb dX6_signOf_30 (by decide) ?_
        refine lv_isub hx hb dX6_signOf_32 ?_
        refine lv_topi (fun z_20 ez_20 => ?_)
        have hz_20 : z_20.toInt = a0.toInt - 65 := by rw [ez_20]; exact jb_isub2 (rfl) ((by decide)) (by omega)
        refine lv_bipush (v := 26) hx hb dX6_signOf_33 (by decide) ?_
        refine lv_iadd hx hb dX6_signOf_35 ?_
        refine lv_topi (fun z_21 ez_21 => ?_)
        have hz_21 : z_21.toInt = z_20.toInt + 26 := by rw [ez_21]; exact jb_iadd2 (rfl) ((by decide)) (by omega)
        rw [hQ]
        exact W.iret (v := z_21) hx hb hr (fun t ht hW => ⟨⟨z_21, (), rfl, by refine ⟨by omega, by omega, ?_⟩; unfold jcSg; first | (rw [if_pos (by omega), if_neg (by omega)]) | (rw [if_neg (by omega), if_pos (by omega)]), hh.rt (M1 := []) [] rfl ht⟩, by rw [ht]; try exact hh.1.1, fun q h9 hq => by rw [ht]; try exact hh.1.2.1 q h9 hq⟩) hh.1.2.2 dX6_signOf_36
  · skip
    have c_1' : a0.toInt ≥ 97 := jb_lt_n (rfl) ((by decide)) c_1
    refine lv_iload_n hx hb dX6_signOf_6 rfl (lv_at hl 0 rfl) ?_
    refine lv_bipush (v := 122) hx hb dX6_signOf_7 (by decide) ?_
    refine lv_icmp_gt (tgt := 17) hx hb dX6_signOf_9 (by decide) (fun c_22 => ?_) (fun c_22 => ?_)
    · skip
      have c_22' : a0.toInt > 122 := jb_gt (rfl) ((by decide)) c_22
      refine lv_iload_n hx hb dX6_signOf_17 rfl (lv_at hl 0 rfl) ?_
      refine lv_bipush (v := 65) hx hb dX6_signOf_18 (by decide) ?_
      refine lv_icmp_lt (tgt := 37) hx hb dX6_signOf_20 (by decide) (fun c_23 => ?_) (fun c_23 => ?_)
      · skip
        have c_23' : a0.toInt < 65 := jb_lt (rfl) ((by decide)) c_23
        refine lv_iload_n hx hb dX6_signOf_37 rfl (lv_at hl 0 rfl) ?_
        refine lv_bipush (v := 48) hx hb dX6_signOf_38 (by decide) ?_
        refine lv_icmp_lt (tgt := 57) hx hb dX6_signOf_40 (by decide) (fun c_24 => ?_) (fun c_24 => ?_)
        · skip
          have c_24' : a0.toInt < 48 := jb_lt (rfl) ((by decide)) c_24
          refine lv_iload_n hx hb dX6_signOf_57 rfl (lv_at hl 0 rfl) ?_
          refine lv_bipush (v := 95) hx hb dX6_signOf_58 (by decide) ?_
          refine lv_icmp_ne (tgt := 68) hx hb dX6_signOf_60 (by decide) (fun c_25 => ?_) (fun c_25 => ?_)
          · skip
            have c_25' : a0.toInt ≠ 95 := jb_ne (rfl) ((by decide)) c_25
            refine lv_iload_n hx hb dX6_signOf_68 rfl (lv_at hl 0 rfl) ?_
            refine lv_bipush (v := 39) hx hb dX6_signOf_69 (by decide) ?_
            refine lv_icmp_ne (tgt := 79) hx hb dX6_signOf_71 (by decide) (fun c_26 => ?_) (fun c_26 => ?_)
            · skip
              have c_26' : a0.toInt ≠ 39 := jb_ne (rfl) ((by decide)) c_26
              refine lv_iconst (v := (-1)) hx hb dX6_signOf_79 (by decide) ?_
              rw [hQ]
              exact W.iret (v := (-1)) hx hb hr (fun t ht hW => ⟨⟨(-1), (), rfl, by refine ⟨by omega, by omega, ?_⟩; unfold jcSg; first | (rw [if_pos (by omega), if_neg (by omega)]) | (rw [if_neg (by omega), if_pos (by omega)]), hh.rt (M1 := []) [] rfl ht⟩, by rw [ht]; try exact hh.1.1, fun q h9 hq => by rw [ht]; try exact hh.1.2.1 q h9 hq⟩) hh.1.2.2 dX6_signOf_80
            · skip
              have c_26' : a0.toInt = 39 := jb_ne_n (rfl) ((by decide)) c_26
              refine lv_bipush (v := 63) hx hb dX6_signOf_74 (by decide) ?_
              refine lv_goto (tgt := 80) hx hb dX6_signOf_76 (by decide) ?_
              rw [hQ]
              exact W.iret (v := 63) hx hb hr (fun t ht hW => ⟨⟨63, (), rfl, by refine ⟨by omega, by omega, ?_⟩; unfold jcSg; first | (rw [if_pos (by omega), if_neg (by omega)]) | (rw [if_neg (by omega), if_pos (by omega)]), hh.rt (M1 := []) [] rfl ht⟩, by rw [ht]; try exact hh.1.1, fun q h9 hq => by rw [ht]; try exact hh.1.2.1 q h9 hq⟩) hh.1.2.2 dX6_signOf_80
          · skip
            have c_25' : a0.toInt = 95 := jb_ne_n (rfl) ((by decide)) c_25
            refine lv_bipush (v := 62) hx hb dX6_signOf_63 (by decide) ?_
            refine lv_goto (tgt := 80) hx hb dX6_signOf_65 (by decide) ?_
            rw [hQ]
            exact W.iret (v := 62) hx hb hr (fun t ht hW => ⟨⟨62, (), rfl, by refine ⟨by omega, by omega, ?_⟩; unfold jcSg; first | (rw [if_pos (by omega), if_neg (by omega)]) | (rw [if_neg (by omega), if_pos (by omega)]), hh.rt (M1 := []) [] rfl ht⟩, by rw [ht]; try exact hh.1.1, fun q h9 hq => by rw [ht]; try exact hh.1.2.1 q h9 hq⟩) hh.1.2.2 dX6_signOf_80
        · skip
          have c_24' : a0.toInt ≥ 48 := jb_lt_n (rfl) ((by decide)) c_24
          refine lv_iload_n hx hb dX6_signOf_43 rfl (lv_at hl 0 rfl) ?_
          refine lv_bipush (v := 57) hx hb dX6_signOf_44 (by decide) ?_
          refine lv_icmp_gt (tgt := 57) hx hb dX6_signOf_46 (by decide) (fun c_27 => ?_) (fun c_27 => ?_)
          · skip
            have c_27' : a0.toInt > 57 := jb_gt (rfl) ((by decide)) c_27
            refine lv_iload_n hx hb dX6_signOf_57 rfl (lv_at hl 0 rfl) ?_
            refine lv_bipush (v := 95) hx hb dX6_signOf_58 (by decide) ?_
            refine lv_icmp_ne (tgt := 68) hx hb dX6_signOf_60 (by decide) (fun c_28 => ?_) (fun c_28 => ?_)
            · skip
              have c_28' : a0.toInt ≠ 95 := jb_ne (rfl) ((by decide)) c_28
              refine lv_iload_n hx hb dX6_signOf_68 rfl (lv_at hl 0 rfl) ?_
              refine lv_bipush (v := 39) hx hb dX6_signOf_69 (by decide) ?_
              refine lv_icmp_ne (tgt := 79) hx hb dX6_signOf_71 (by decide) (fun c_29 => ?_) (fun c_29 => ?_)
              · skip
                have c_29' : a0.toInt ≠ 39 := jb_ne (rfl) ((by decide)) c_29
                refine lv_iconst (v := (-1)) hx hb dX6_signOf_79 (by decide) ?_
                rw [hQ]
                exact W.iret (v := (-1)) hx hb hr (fun t ht hW => ⟨⟨(-1), (), rfl, by refine ⟨by omega, by omega, ?_⟩; unfold jcSg; first | (rw [if_pos (by omega), if_neg (by omega)]) | (rw [if_neg (by omega), if_pos (by omega)]), hh.rt (M1 := []) [] rfl ht⟩, by rw [ht]; try exact hh.1.1, fun q h9 hq => by rw [ht]; try exact hh.1.2.1 q h9 hq⟩) hh.1.2.2 dX6_signOf_80
              · skip
                have c_29' : a0.toInt = 39 := jb_ne_n (rfl) ((by decide)) c_29
                refine lv_bipush (v := 63) hx hb dX6_signOf_74 (by decide) ?_
                refine lv_goto (tgt := 80) hx hb dX6_signOf_76 (by decide) ?_
                rw [hQ]
                exact W.iret (v := 63) hx hb hr (fun t ht hW => ⟨⟨63, (), rfl, by refine ⟨by omega, by omega, ?_⟩; unfold jcSg; first | (rw [if_pos (by omega), if_neg (by omega)]) | (rw [if_neg (by omega), if_pos (by omega)]), hh.rt (M1 := []) [] rfl ht⟩, by rw [ht]; try exact hh.1.1, fun q h9 hq => by rw [ht]; try exact hh.1.2.1 q h9 hq⟩) hh.1.2.2 dX6_signOf_80
            · skip
              have c_28' : a0.toInt = 95 := jb_ne_n (rfl) ((by decide)) c_28
              refine lv_bipush (v := 62) hx hb dX6_signOf_63 (by decide) ?_
              refine lv_goto (tgt := 80) hx hb dX6_signOf_65 (by decide) ?_
              rw [hQ]
              exact W.iret (v := 62) hx hb hr (fun t ht hW => ⟨⟨62, (), rfl, by refine ⟨by omega, by omega, ?_⟩; unfold jcSg; first | (rw [if_pos (by omega), if_neg (by omega)]) | (rw [if_neg (by omega), if_pos (by omega)]), hh.rt (M1 := []) [] rfl ht⟩, by rw [ht]; try exact hh.1.1, fun q h9 hq => by rw [ht]; try exact hh.1.2.1 q h9 hq⟩) hh.1.2.2 dX6_signOf_80
          · skip
            have c_27' : a0.toInt ≤ 57 := jb_gt_n (rfl) ((by decide)) c_27
            refine lv_iload_n hx hb dX6_signOf_49 rfl (lv_at hl 0 rfl) ?_
            refine lv_bipush (v := 48) hx hb dX6_signOf_50 (by decide) ?_
            refine lv_isub hx hb dX6_signOf_52 ?_
            refine lv_topi (fun z_30 ez_30 => ?_)
            have hz_30 : z_30.toInt = a0.toInt - 48 := by rw [ez_30]; exact jb_isub2 (rfl) ((by decide)) (by omega)
            refine lv_bipush (v := 52) hx hb dX6_signOf_53 (by decide) ?_
            refine lv_iadd hx hb dX6_signOf_55 ?_
            refine lv_topi (fun z_31 ez_31 => ?_)
            have hz_31 : z_31.toInt = z_30.toInt + 52 := by rw [ez_31]; exact jb_iadd2 (rfl) ((by decide)) (by omega)
            rw [hQ]
            exact W.iret (v := z_31) hx hb hr (fun t ht hW => ⟨⟨z_31, (), rfl, by refine ⟨by omega, by omega, ?_⟩; unfold jcSg; first | (rw [if_pos (by omega), if_neg (by omega)]) | (rw [if_neg (by omega), if_pos (by omega)]), hh.rt (M1 := []) [] rfl ht⟩, by rw [ht]; try exact hh.1.1, fun q h9 hq => by rw [ht]; try exact hh.1.2.1 q h9 hq⟩) hh.1.2.2 dX6_signOf_56
      · skip
        have c_23' : a0.toInt ≥ 65 := jb_lt_n (rfl) ((by decide)) c_23
        refine lv_iload_n hx hb dX6_signOf_23 rfl (lv_at hl 0 rfl) ?_
        refine lv_bipush (v := 90) hx hb dX6_signOf_24 (by decide) ?_
        refine lv_icmp_gt (tgt := 37) hx hb dX6_signOf_26 (by decide) (fun c_32 => ?_) (fun c_32 => ?_)
        · skip
          have c_32' : a0.toInt > 90 := jb_gt (rfl) ((by decide)) c_32
          refine lv_iload_n hx hb dX6_signOf_37 rfl (lv_at hl 0 rfl) ?_
          refine lv_bipush (v := 48) hx hb dX6_signOf_38 (by decide) ?_
          refine lv_icmp_lt (tgt := 57) hx hb dX6_signOf_40 (by decide) (fun c_33 => ?_) (fun c_33 => ?_)
          · skip
            have c_33' : a0.toInt < 48 := jb_lt (rfl) ((by decide)) c_33
            refine lv_iload_n hx hb dX6_signOf_57 rfl (lv_at hl 0 rfl) ?_
            refine lv_bipush (v := 95) hx hb dX6_signOf_58 (by decide) ?_
            refine lv_icmp_ne (tgt := 68) hx hb dX6_signOf_60 (by decide) (fun c_34 => ?_) (fun c_34 => ?_)
            · skip
              have c_34' : a0.toInt ≠ 95 := jb_ne (rfl) ((by decide)) c_34
              refine lv_iload_n hx hb dX6_signOf_68 rfl (lv_at hl 0 rfl) ?_
              refine lv_bipush (v := 39) hx hb dX6_signOf_69 (by decide) ?_
              refine lv_icmp_ne (tgt := 79) hx hb dX6_signOf_71 (by decide) (fun c_35 => ?_) (fun c_35 => ?_)
              · skip
                have c_35' : a0.toInt ≠ 39 := jb_ne (rfl) ((by decide)) c_35
                refine lv_iconst (v := (-1)) hx hb dX6_signOf_79 (by decide) ?_
                rw [hQ]
                exact W.iret (v := (-1)) hx hb hr (fun t ht hW => ⟨⟨(-1), (), rfl, by refine ⟨by omega, by omega, ?_⟩; unfold jcSg; first | (rw [if_pos (by omega), if_neg (by omega)]) | (rw [if_neg (by omega), if_pos (by omega)]), hh.rt (M1 := []) [] rfl ht⟩, by rw [ht]; try exact hh.1.1, fun q h9 hq => by rw [ht]; try exact hh.1.2.1 q h9 hq⟩) hh.1.2.2 dX6_signOf_80
              · skip
                have c_35' : a0.toInt = 39 := jb_ne_n (rfl) ((by decide)) c_35
                refine lv_bipush (v := 63) hx hb dX6_signOf_74 (by decide) ?_
                refine lv_goto (tgt := 80) hx hb dX6_signOf_76 (by decide) ?_
                rw [hQ]
                exact W.iret (v := 63) hx hb hr (fun t ht hW => ⟨⟨63, (), rfl, by refine ⟨by omega, by omega, ?_⟩; unfold jcSg; first | (rw [if_pos (by omega), if_neg (by omega)]) | (rw [if_neg (by omega), if_pos (by omega)]), hh.rt (M1 := []) [] rfl ht⟩, by rw [ht]; try exact hh.1.1, fun q h9 hq => by rw [ht]; try exact hh.1.2.1 q h9 hq⟩) hh.1.2.2 dX6_signOf_80
            · skip
              have c_34' : a0.toInt = 95 := jb_ne_n (rfl) ((by decide)) c_34
              refine lv_bipush (v := 62) hx hb dX6_signOf_63 (by decide) ?_
              refine lv_goto (tgt := 80) hx hb dX6_signOf_65 (by decide) ?_
              rw [hQ]
              exact W.iret (v := 62) hx hb hr (fun t ht hW => ⟨⟨62, (), rfl, by refine ⟨by omega, by omega, ?_⟩; unfold jcSg; first | (rw [if_pos (by omega), if_neg (by omega)]) | (rw [if_neg (by omega), if_pos (by omega)]), hh.rt (M1 := []) [] rfl ht⟩, by rw [ht]; try exact hh.1.1, fun q h9 hq => by rw [ht]; try exact hh.1.2.1 q h9 hq⟩) hh.1.2.2 dX6_signOf_80
          · skip
            have c_33' : a0.toInt ≥ 48 := jb_lt_n (rfl) ((by decide)) c_33
            refine lv_iload_n hx hb dX6_signOf_43 rfl (lv_at hl 0 rfl) ?_
            refine lv_bipush (v := 57) hx hb dX6_signOf_44 (by decide) ?_
            refine lv_icmp_gt (tgt := 57) hx hb dX6_signOf_46 (by decide) (fun c_36 => ?_) (fun c_36 => ?_)
            · skip
              have c_36' : a0.toInt > 57 := jb_gt (rfl) ((by decide)) c_36
              refine lv_iload_n hx hb dX6_signOf_57 rfl (lv_at hl 0 rfl) ?_
              refine lv_bipush (v := 95) hx hb dX6_signOf_58 (by decide) ?_
              refine lv_icmp_ne (tgt := 68) hx hb dX6_signOf_60 (by decide) (fun c_37 => ?_) (fun c_37 => ?_)
              · skip
                have c_37' : a0.toInt ≠ 95 := jb_ne (rfl) ((by decide)) c_37
                refine lv_iload_n hx hb dX6_signOf_68 rfl (lv_at hl 0 rfl) ?_
                refine lv_bipush (v := 39) hx hb dX6_signOf_69 (by decide) ?_
                refine lv_icmp_ne (tgt := 79) hx hb dX6_signOf_71 (by decide) (fun c_38 => ?_) (fun c_38 => ?_)
                · skip
                  have c_38' : a0.toInt ≠ 39 := jb_ne (rfl) ((by decide)) c_38
                  refine lv_iconst (v := (-1)) hx hb dX6_signOf_79 (by decide) ?_
                  rw [hQ]
                  exact W.iret (v := (-1)) hx hb hr (fun t ht hW => ⟨⟨(-1), (), rfl, by refine ⟨by omega, by omega, ?_⟩; unfold jcSg; first | (rw [if_pos (by omega), if_neg (by omega)]) | (rw [if_neg (by omega), if_pos (by omega)]), hh.rt (M1 := []) [] rfl ht⟩, by rw [ht]; try exact hh.1.1, fun q h9 hq => by rw [ht]; try exact hh.1.2.1 q h9 hq⟩) hh.1.2.2 dX6_signOf_80
                · skip
                  have c_38' : a0.toInt = 39 := jb_ne_n (rfl) ((by decide)) c_38
                  refine lv_bipush (v := 63) hx hb dX6_signOf_74 (by decide) ?_
                  refine lv_goto (tgt := 80) hx hb dX6_signOf_76 (by decide) ?_
                  rw [hQ]
                  exact W.iret (v := 63) hx hb hr (fun t ht hW => ⟨⟨63, (), rfl, by refine ⟨by omega, by omega, ?_⟩; unfold jcSg; first | (rw [if_pos (by omega), if_neg (by omega)]) | (rw [if_neg (by omega), if_pos (by omega)]), hh.rt (M1 := []) [] rfl ht⟩, by rw [ht]; try exact hh.1.1, fun q h9 hq => by rw [ht]; try exact hh.1.2.1 q h9 hq⟩) hh.1.2.2 dX6_signOf_80
              · skip
                have c_37' : a0.toInt = 95 := jb_ne_n (rfl) ((by decide)) c_37
                refine lv_bipush (v := 62) hx hb dX6_signOf_63 (by decide) ?_
                refine lv_goto (tgt := 80) hx hb dX6_signOf_65 (by decide) ?_
                rw [hQ]
                exact W.iret (v := 62) hx hb hr (fun t ht hW => ⟨⟨62, (), rfl, by refine ⟨by omega, by omega, ?_⟩; unfold jcSg; first | (rw [if_pos (by omega), if_neg (by omega)]) | (rw [if_neg (by omega), if_pos (by omega)]), hh.rt (M1 := []) [] rfl ht⟩, by rw [ht]; try exact hh.1.1, fun q h9 hq => by rw [ht]; try exact hh.1.2.1 q h9 hq⟩) hh.1.2.2 dX6_signOf_80
            · skip
              have c_36' : a0.toInt ≤ 57 := jb_gt_n (rfl) ((by decide)) c_36
              refine lv_iload_n hx hb dX6_signOf_49 rfl (lv_at hl 0 rfl) ?_
              refine lv_bipush (v := 48) hx hb dX6_signOf_50 (by decide) ?_
              refine lv_isub hx hb dX6_signOf_52 ?_
              refine lv_topi (fun z_39 ez_39 => ?_)
              have hz_39 : z_39.toInt = a0.toInt - 48 := by rw [ez_39]; exact jb_isub2 (rfl) ((by decide)) (by omega)
              refine lv_bipush (v := 52) hx hb dX6_signOf_53 (by decide) ?_
              refine lv_iadd hx hb dX6_signOf_55 ?_
              refine lv_topi (fun z_40 ez_40 => ?_)
              have hz_40 : z_40.toInt = z_39.toInt + 52 := by rw [ez_40]; exact jb_iadd2 (rfl) ((by decide)) (by omega)
              rw [hQ]
              exact W.iret (v := z_40) hx hb hr (fun t ht hW => ⟨⟨z_40, (), rfl, by refine ⟨by omega, by omega, ?_⟩; unfold jcSg; first | (rw [if_pos (by omega), if_neg (by omega)]) | (rw [if_neg (by omega), if_pos (by omega)]), hh.rt (M1 := []) [] rfl ht⟩, by rw [ht]; try exact hh.1.1, fun q h9 hq => by rw [ht]; try exact hh.1.2.1 q h9 hq⟩) hh.1.2.2 dX6_signOf_56
        · skip
          have c_32' : a0.toInt ≤ 90 := jb_gt_n (rfl) ((by decide)) c_32
          refine lv_iload_n hx hb dX6_signOf_29 rfl (lv_at hl 0 rfl) ?_
          refine lv_bipush (v := 65) hx hb dX6_signOf_30 (by decide) ?_
          refine lv_isub hx hb dX6_signOf_32 ?_
          refine lv_topi (fun z_41 ez_41 => ?_)
          have hz_41 : z_41.toInt = a0.toInt - 65 := by rw [ez_41]; exact jb_isub2 (rfl) ((by decide)) (by omega)
          refine lv_bipush (v := 26) hx hb dX6_signOf_33 (by decide) ?_
          refine lv_iadd hx hb dX6_signOf_35 ?_
          refine lv_topi (fun z_42 ez_42 => ?_)
          have hz_42 : z_42.toInt = z_41.toInt + 26 := by rw [ez_42]; exact jb_iadd2 (rfl) ((by decide)) (by omega)
          rw [hQ]
          exact W.iret (v := z_42) hx hb hr (fun t ht hW => ⟨⟨z_42, (), rfl, by refine ⟨by omega, by omega, ?_⟩; unfold jcSg; first | (rw [if_pos (by omega), if_neg (by omega)]) | (rw [if_neg (by omega), if_pos (by omega)]), hh.rt (M1 := []) [] rfl ht⟩, by rw [ht]; try exact hh.1.1, fun q h9 hq => by rw [ht]; try exact hh.1.2.1 q h9 hq⟩) hh.1.2.2 dX6_signOf_36
    · skip
      have c_22' : a0.toInt ≤ 122 := jb_gt_n (rfl) ((by decide)) c_22
      refine lv_iload_n hx hb dX6_signOf_12 rfl (lv_at hl 0 rfl) ?_
      refine lv_bipush (v := 97) hx hb dX6_signOf_13 (by decide) ?_
      refine lv_isub hx hb dX6_signOf_15 ?_
      refine lv_topi (fun z_43 ez_43 => ?_)
      have hz_43 : z_43.toInt = a0.toInt - 97 := by rw [ez_43]; exact jb_isub2 (rfl) ((by decide)) (by omega)
      rw [hQ]
      exact W.iret (v := z_43) hx hb hr (fun t ht hW => ⟨⟨z_43, (), rfl, by refine ⟨by omega, by omega, ?_⟩; unfold jcSg; first | (rw [if_pos (by omega), if_neg (by omega)]) | (rw [if_neg (by omega), if_pos (by omega)]), hh.rt (M1 := []) [] rfl ht⟩, by rw [ht]; try exact hh.1.1, fun q h9 hq => by rw [ht]; try exact hh.1.2.1 q h9 hq⟩) hh.1.2.2 dX6_signOf_16
set_option maxHeartbeats 4000000 in
set_option maxRecDepth 20000 in
theorem uX10_addT (l : Launch) (dC : Nat → ClassId) (dI : Nat → Nat → Nat) (ca : Nat → ClassId) (base : Nat) (B : jF) (hB : jBok B) (hAp : jAp (dC, dI)) (hB12 : ∀ n G a H, B 12 n G a H ↔ jOb (dC, dI) 12 11 (F12b n G) a H) (hB101 : ∀ n G a H, B 101 n G a H ↔ jAr (dC, dI) (ca 1) (fun j z => True) n a H) (hB293 : ∀ n G a H, B 293 n G a H ↔ jAr (dC, dI) (ca 1) (fun j z => -1 ≤ z.toInt ∧ z.toInt ≤ 8191) n a H) (G0 : jT) (H0 : Heap) (r0 : Nat) (a1 : Int32) (a2 : Int32) (tk : Int32) : Met l yX10_add (jw yX10_add cX10_add 3 none) ({ frames := 0, cells := 0, slots := 0, locals := 0 }) (va_Pc [.ref r0, .int a1, .int a2] (fun U => U.heap = H0 ∧ jX B base G0 [] H0 ∧ jG dC dI ca base U ∧ G0 r0 = some (12, 0) ∧ jP (dC, dI) G0 H0 [(r0, 12, 3, .int tk)] ∧ 0 ≤ tk.toInt ∧ tk.toInt < 1500 ∧ -1 ≤ a2.toInt ∧ a2.toInt ≤ 8191)) (va_Qv (S := Int32) (fun u => u.toInt = tk.toInt + 1) (fun u t => jRt (dC, dI) B base G0 EX10_addT H0 [(r0, 12, 3, .int u)] t.heap) (jA base)) 0 0 (jA base) := by
  refine Met.ofW (cc := cX10_add) (maxL := 3) (ret := none) (by decide) rfl ?_
  intro p e s m args below meth c s₁ Bd hml hv
  obtain ⟨rfl, hH0, hX, hG, hg_r0, hP0, hp0, hp1, hp2, hp3⟩ := hv
  have hK := hG.1
  have hx := Bd.exec
  have hb := Bd.bytes
  have hr := Bd.returns
  have hts := atoms_spec (ws := (jw yX10_add cX10_add 3 none)) Bd.pre
  have htw : ∀ w ∈ jWl, w.before _ s = true := fun w h => hts w (List.mem_cons_of_mem _ h)
  have hown : s.vm.findClass RX10 = some m.cls := findClass_of_methodNamed Bd.named
  have hlocks := Bd.notSynchronized
  obtain ⟨Q, hQ⟩ : ∃ Q, Q = MQ below (va_Qv (S := Int32) (fun u => u.toInt = tk.toInt + 1) (fun u t => jRt (dC, dI) B base G0 EX10_addT H0 [(r0, 12, 3, .int u)] t.heap) (jA base)) ([.ref r0, .int a1, .int a2] : List Value).toArray s 0 0 (jA base) := ⟨_, rfl⟩
  rw [← hQ]
  have hl := lv_entry ([.ref r0, .int a1, .int a2]) (n := 3) (Nat.le_of_ble_eq_true rfl)
  rw [lg_entry_eq]
  generalize (lg_sl ([.ref r0, .int a1, .int a2]) ++ List.replicate (3 - (lg_sl ([.ref r0, .int a1, .int a2])).length) Slot.unset).toArray = ls at hl ⊢
  have hl : lv_has ls 3 [(0, .ref r0), (1, .int a1), (2, .int a2)] := hl
  generalize hR : (headSpec (jw yX10_add cX10_add 3 none) ({ frames := 0, cells := 0, slots := 0, locals := 0 })).room = R
  subst hH0
  have hh : jSt (dC, dI) B base G0 G0 EX10_addT s.heap 0 0 [(r0, 12, 3, .int tk)] [] [] s.heap [] := jSt.start hX hP0 jMc.nil jIs.nil
  clear hX hP0
  have hk0 : (0 : Int32).toInt = 0 := by decide
  have hk1 : (1 : Int32).toInt = 1 := by decide
  have hk1500 : (1500 : Int32).toInt = 1500 := by decide
  have hly_12_1 := htw (u_lay RX10 TX10 1) (jWc_wsX100 _ (u_in_lay (by decide)))
  have hly_12_2 := htw (u_lay RX10 TX10 2) (jWc_wsX100 _ (u_in_lay (by decide)))
  have hly_12_3 := htw (u_lay RX10 TX10 3) (jWc_wsX100 _ (u_in_lay (by decide)))
  have hlk_28 := (htw (.fieldLink RX10 28 "ProofServer$Syntax" "tokens" "I") (jWr_36 _ (List.mem_of_getElem? (i := 23) rfl)))
  have hlk_9 := (htw (.fieldLink RX10 9 "ProofServer$Syntax" "kinds" "[I") (jWr_8 _ (List.mem_of_getElem? (i := 8) rfl)))
  have hlk_15 := (htw (.fieldLink RX10 15 "ProofServer$Syntax" "values" "[I") (jWr_8 _ (List.mem_of_getElem? (i := 9) rfl)))
  have hrg_a1 := jb_rng a1
  have hrg_a2 := jb_rng a2
  refine lv_aload_n hx hb dX10_add_0 rfl (lv_at hl 0 rfl) ?_
  refine j7_read hx hb hown hK (C := RX10) (T := TX10) (N := 11) rfl hly_12_3 hlk_28 (hh.at 0 rfl) dX10_add_1 ?_
  refine lv_sipush (v := 1500) hx hb dX10_add_4 (by decide) ?_
  refine lv_icmp_ge (tgt := 40) hx hb dX10_add_7 (by decide) (fun c_1 => ?_) (fun c_1 => ?_)
  · skip
    have c_1' : tk.toInt ≥ 1500 := jb_ge (rfl) ((by decide)) c_1
    exact absurd c_1' (by omega)
  · skip
    have c_1' : tk.toInt < 1500 := jb_ge_n (rfl) ((by decide)) c_1
    refine lv_aload_n hx hb dX10_add_10 rfl (lv_at hl 0 rfl) ?_
    obtain ⟨v_2, hv_2, hh_3⟩ := hh.pin (C := RX10) (T := TX10) (N := 11) hB12 rfl (by decide) hg_r0 (i := 1) (by decide) rfl
    clear hh
    obtain ⟨kinds_4, rfl, hg_kinds_4⟩ := hv_2
    refine j7_read hx hb hown hK (C := RX10) (T := TX10) (N := 11) rfl hly_12_1 hlk_9 (hh_3.at 0 rfl) dX10_add_11 ?_
    refine lv_aload_n hx hb dX10_add_14 rfl (lv_at hl 0 rfl) ?_
    refine j7_read hx hb hown hK (C := RX10) (T := TX10) (N := 11) rfl hly_12_3 hlk_28 (hh_3.at 1 rfl) dX10_add_15 ?_
    refine lv_iload_n hx hb dX10_add_18 rfl (lv_at hl 1 rfl) ?_
    refine j7_iast hx hb hK hh_3 hB hB101 1 rfl (by decide) (by decide) rfl rfl rfl hg_kinds_4 (x := tk.toInt) (rfl) (by omega) (trivial) dX10_add_19 (fun H_5 locs_5 hh_5 => ?_)
    clear hh_3
    refine lv_aload_n hx hb dX10_add_20 rfl (lv_at hl 0 rfl) ?_
    obtain ⟨v_6, hv_6, hh_7⟩ := hh_5.pin (C := RX10) (T := TX10) (N := 11) hB12 rfl (by decide) hg_r0 (i := 2) (by decide) rfl
    clear hh_5
    obtain ⟨values_8, rfl, hg_values_8⟩ := hv_6
    refine j7_read hx hb hown hK (C := RX10) (T := TX10) (N := 11) rfl hly_12_2 hlk_15 (hh_7.at 0 rfl) dX10_add_21 ?_
    refine lv_aload_n hx hb dX10_add_24 rfl (lv_at hl 0 rfl) ?_
    refine j7_read hx hb hown hK (C := RX10) (T := TX10) (N := 11) rfl hly_12_3 hlk_28 (hh_7.at 2 rfl) dX10_add_25 ?_
    refine lv_iload_n hx hb dX10_add_28 rfl (lv_at hl 2 rfl) ?_
    refine j7_iast hx hb hK hh_7 hB hB293 1 rfl (by decide) (by decide) rfl rfl rfl hg_values_8 (x := tk.toInt) (rfl) (by omega) (by first | omega | (refine ⟨?_, ?_⟩ <;> (first | omega | rfl | assumption | decide | exact Or.inl rfl | exact Or.inr rfl | (simp only; omega)))) dX10_add_29 (fun H_9 locs_9 hh_9 => ?_)
    clear hh_7
    refine lv_aload_n hx hb dX10_add_30 rfl (lv_at hl 0 rfl) ?_
    refine lv_dup hx hb dX10_add_31 rfl ?_
    refine j7_read hx hb hown hK (C := RX10) (T := TX10) (N := 11) rfl hly_12_3 hlk_28 (hh_9.at 2 rfl) dX10_add_32 ?_
    refine lv_iconst (v := 1) hx hb dX10_add_35 (by decide) ?_
    refine lv_iadd hx hb dX10_add_36 ?_
    refine lv_topi (fun z_10 ez_10 => ?_)
    have hz_10 : z_10.toInt = tk.toInt + 1 := by rw [ez_10]; exact jb_iadd2 (rfl) ((by decide)) (by omega)
    refine j7_put hx hb hown hK hh_9 hB hAp hB12 (C := RX10) (T := TX10) (N := 11) rfl (by decide) hg_r0 (i := 3) (by decide) hly_12_3 rfl hlk_28 rfl (ty := .int) (v := .int z_10) (by decide +kernel) rfl rfl (⟨_, rfl, by omega, by omega⟩) rfl (L1 := [(r0, 12, 2, .ref values_8), (r0, 12, 1, .ref kinds_4)]) [0, 1] rfl rfl rfl dX10_add_37 (fun H_11 locs_11 hh_11 => ?_)
    clear hh_9
    rw [hQ]
    exact W.vret hx hb hr (fun t ht hW => ⟨⟨z_10, rfl, by (try dsimp only); first | omega | rfl | assumption | decide | exact Or.inl rfl | exact Or.inr rfl | (simp only; omega), hh_11.rt (M1 := [(r0, 12, 3, .int z_10)]) [0] rfl ht⟩, by rw [ht]; try exact hh_11.1.1, fun q h9 hq => by rw [ht]; try exact hh_11.1.2.1 q h9 hq⟩) hh_11.1.2.2 dX10_add_40
set_option maxHeartbeats 4000000 in
set_option maxRecDepth 20000 in
theorem uX10_scanNameT (l : Launch) (dC : Nat → ClassId) (dI : Nat → Nat → Nat) (ca : Nat → ClassId) (base : Nat) (B : jF) (hB : jBok B) (hAp : jAp (dC, dI)) (hB8 : ∀ n G a H, B 8 n G a H ↔ jOb (dC, dI) 8 4 (F8 n G) a H) (hB12 : ∀ n G a H, B 12 n G a H ↔ jOb (dC, dI) 12 11 (F12b n G) a H) (hB101 : ∀ n G a H, B 101 n G a H ↔ jAr (dC, dI) (ca 1) (fun j z => True) n a H) (hB102 : ∀ n G a H, B 102 n G a H ↔ jAl (dC, dI) (ca 2) n a H) (hB132 : ∀ n G a H, B 132 n G a H ↔ jAr (dC, dI) (ca 1) (fun j z => 0 ≤ z.toInt ∧ z.toInt ≤ 10) n a H) (hB133 : ∀ n G a H, B 133 n G a H ↔ jAr (dC, dI) (ca 1) (fun j z => 0 ≤ z.toInt ∧ z.toInt ≤ 8192) n a H) (hB173 : ∀ n G a H, B 173 n G a H ↔ jAr (dC, dI) (ca 1) (fun j z => True) n a H) (hB293 : ∀ n G a H, B 293 n G a H ↔ jAr (dC, dI) (ca 1) (fun j z => -1 ≤ z.toInt ∧ z.toInt ≤ 8191) n a H) (G0 : jT) (H0 : Heap) (r0 : Nat) (r1 : Nat) (a2 : Int32) (a3 : Int32) (n1 : Nat) (tk : Int32) (f1 : Nat → Int32) : Met l yX10_scanName (jw yX10_scanName cX10_scanName 6 (some .int)) ({ frames := 2, cells := 0, slots := 0, locals := 57 }) (va_Pc [.ref r0, .ref r1, .int a2, .int a3] (fun U => U.heap = H0 ∧ jX B base G0 [] H0 ∧ jG dC dI ca base U ∧ G0 r0 = some (12, 0) ∧ G0 r1 = some (173, n1) ∧ jP (dC, dI) G0 H0 [(r0, 12, 3, .int tk)] ∧ jMc (dC, dI) G0 H0 [(r1, 173, n1, ca 1, f1)] ∧ 0 ≤ a2.toInt ∧ a2.toInt < a3.toInt ∧ a3.toInt ≤ n1 ∧ n1 ≤ 1500 ∧ 0 ≤ tk.toInt ∧ tk.toInt + (a3.toInt - a2.toInt) ≤ 1500 ∧ jcLe (jSo f1 a2.toInt) = 1)) (va_Qi (S := Int32) (fun r u => (a2.toInt < r.toInt ∧ r.toInt ≤ a3.toInt ∧ r.toInt = jcWd f1 a3.toInt a2.toInt ∧ u.toInt = tk.toInt + (if r.toInt - a2.toInt ≤ 10 then 1 else r.toInt - a2.toInt))) (fun u t => jRt (dC, dI) B base G0 EX10_scanNameT H0 [(r0, 12, 3, .int u)] t.heap) (jA base)) 0 0 (jA base) := by
  refine Met.ofW (cc := cX10_scanName) (maxL := 6) (ret := (some .int)) (by decide) rfl ?_
  intro p e s m args below meth c s₁ Bd hml hv
  obtain ⟨rfl, hH0, hX, hG, hg_r0, hg_r1, hP0, hM0, hp0, hp1, hp2, hp3, hp4, hp5, hp6⟩ := hv
  have hK := hG.1
  have hx := Bd.exec
  have hb := Bd.bytes
  have hr := Bd.returns
  have hts := atoms_spec (ws := (jw yX10_scanName cX10_scanName 6 (some .int))) Bd.pre
  have htw : ∀ w ∈ jWl, w.before _ s = true := fun w h => hts w (List.mem_cons_of_mem _ h)
  have hown : s.vm.findClass RX10 = some m.cls := findClass_of_methodNamed Bd.named
  have hlocks := Bd.notSynchronized
  obtain ⟨Q, hQ⟩ : ∃ Q, Q = MQ below (va_Qi (S := Int32) (fun r u => (a2.toInt < r.toInt ∧ r.toInt ≤ a3.toInt ∧ r.toInt = jcWd f1 a3.toInt a2.toInt ∧ u.toInt = tk.toInt + (if r.toInt - a2.toInt ≤ 10 then 1 else r.toInt - a2.toInt))) (fun u t => jRt (dC, dI) B base G0 EX10_scanNameT H0 [(r0, 12, 3, .int u)] t.heap) (jA base)) ([.ref r0, .ref r1, .int a2, .int a3] : List Value).toArray s 0 0 (jA base) := ⟨_, rfl⟩
  rw [← hQ]
  have hl := lv_entry ([.ref r0, .ref r1, .int a2, .int a3]) (n := 6) (Nat.le_of_ble_eq_true rfl)
  rw [lg_entry_eq]
  generalize (lg_sl ([.ref r0, .ref r1, .int a2, .int a3]) ++ List.replicate (6 - (lg_sl ([.ref r0, .ref r1, .int a2, .int a3])).length) Slot.unset).toArray = ls at hl ⊢
  have hl : lv_has ls 6 [(0, .ref r0), (1, .ref r1), (2, .int a2), (3, .int a3)] := hl
  generalize hR : (headSpec (jw yX10_scanName cX10_scanName 6 (some .int)) ({ frames := 2, cells := 0, slots := 0, locals := 57 })).room = R
  subst hH0
  have hh : jSt (dC, dI) B base G0 G0 EX10_scanNameT s.heap 0 0 [(r0, 12, 3, .int tk)] [(r1, 173, n1, ca 1, f1)] [] s.heap [] := jSt.start hX hP0 hM0 jIs.nil
  clear hX hP0
  have hk0 : (0 : Int32).toInt = 0 := by decide
  have hk1 : (1 : Int32).toInt = 1 := by decide
  have hk10 : (10 : Int32).toInt = 10 := by decide
  have hk110 : (110 : Int32).toInt = 110 := by decide
  have hly_12_0 := htw (u_lay RX10 TX10 0) (jWc_wsX100 _ (u_in_lay (by decide)))
  have hlk_24 := (htw (.fieldLink RX10 24 "ProofServer$Syntax" "names" "LProofServer$Names;") (jWr_8 _ (List.mem_of_getElem? (i := 12) rfl)))
  have hrg_a2 := jb_rng a2
  have hrg_a3 := jb_rng a3
  refine lv_iload_n hx hb dX10_scanName_0 rfl (lv_at hl 2 rfl) ?_
  refine lv_iconst (v := 1) hx hb dX10_scanName_1 (by decide) ?_
  refine lv_iadd hx hb dX10_scanName_2 ?_
  refine lv_topi (fun z_1 ez_1 => ?_)
  have hz_1 : z_1.toInt = a2.toInt + 1 := by rw [ez_1]; exact jb_iadd2 (rfl) ((by decide)) (by omega)
  refine lv_istore (lv' := [(4, .int z_1), (0, .ref r0), (1, .ref r1), (2, .int a2), (3, .int a3)]) hx hb dX10_scanName_3 hl (by decide) rfl (fun ls hl => ?_)
  have L5 : ∀ (N : Nat) (v4_2 : Int32) (H_2 : Heap) (locs_2 : List Loc), jSt (dC, dI) B base G0 G0 EX10_scanNameT s.heap 0 0 [(r0, 12, 3, .int tk)] [(r1, 173, n1, ca 1, f1)] [] H_2 locs_2 → (a2.toInt < v4_2.toInt ∧ v4_2.toInt ≤ a3.toInt ∧ jcW f1 a3.toInt (a3.toInt - v4_2.toInt).toNat v4_2.toInt = jcWd f1 a3.toInt a2.toInt) → (a3.toInt - v4_2.toInt : Int) < N → ∀ ls : Array Slot, lv_has ls 6 [(0, .ref r0), (1, .ref r1), (2, .int a2), (3, .int a3), (4, .int v4_2)] → W p l e R s m ([.ref r0, .ref r1, .int a2, .int a3] : List Value).toArray below meth c H_2 locs_2 0 0 Q (F0 m 5 ls []) := by
    intro N
    induction N with
    | zero => intro v4_2 H_2 locs_2 hh_2  hi_2 hm; exact absurd hm (by omega)
    | succ N L5 =>
      intro v4_2 H_2 locs_2 hh_2  hi_2 hm_2 ls hl
      obtain ⟨hi_2_0, hi_2_1, hi_2_2⟩ := hi_2
      refine lv_iload hx hb dX10_scanName_5 (lv_at hl 4 rfl) ?_
      refine lv_iload_n hx hb dX10_scanName_7 rfl (lv_at hl 3 rfl) ?_
      refine lv_icmp_ge (tgt := 27) hx hb dX10_scanName_8 (by decide) (fun c_3 => ?_) (fun c_3 => ?_)
      · skip
        have c_3' : v4_2.toInt ≥ a3.toInt := jb_ge (rfl) (rfl) c_3
        have hw9 : (v4_2).toInt = jcWd f1 a3.toInt a2.toInt := hi_2_2 ▸ (jcW_e (Or.inl (by omega))).symm
        refine lv_iload hx hb dX10_scanName_27 (lv_at hl 4 rfl) ?_
        refine lv_iload_n hx hb dX10_scanName_29 rfl (lv_at hl 2 rfl) ?_
        refine lv_isub hx hb dX10_scanName_30 ?_
        refine lv_topi (fun z_4 ez_4 => ?_)
        have hz_4 : z_4.toInt = v4_2.toInt - a2.toInt := by rw [ez_4]; exact jb_isub2 (rfl) (rfl) (by omega)
        refine lv_bipush (v := 10) hx hb dX10_scanName_31 (by decide) ?_
        refine lv_icmp_gt (tgt := 70) hx hb dX10_scanName_33 (by decide) (fun c_5 => ?_) (fun c_5 => ?_)
        · skip
          have c_5' : z_4.toInt > 10 := jb_gt (rfl) ((by decide)) c_5
          refine lv_iload_n hx hb dX10_scanName_70 rfl (lv_at hl 2 rfl) ?_
          refine lv_istore (lv' := [(5, .int a2), (0, .ref r0), (1, .ref r1), (2, .int a2), (3, .int a3), (4, .int v4_2)]) hx hb dX10_scanName_71 hl (by decide) rfl (fun ls hl => ?_)
          have L73 : ∀ (N : Nat) (v5_6 : Int32) (wk_6 : Int32) (H_6 : Heap) (locs_6 : List Loc), jSt (dC, dI) B base G0 G0 EX10_scanNameT s.heap 0 0 [(r0, 12, 3, .int wk_6)] [(r1, 173, n1, ca 1, f1)] [] H_6 locs_6 → (a2.toInt ≤ v5_6.toInt ∧ v5_6.toInt ≤ v4_2.toInt ∧ wk_6.toInt = tk.toInt + (v5_6.toInt - a2.toInt)) → (v4_2.toInt - v5_6.toInt : Int) < N → ∀ ls : Array Slot, lv_has ls 6 [(0, .ref r0), (1, .ref r1), (2, .int a2), (3, .int a3), (4, .int v4_2), (5, .int v5_6)] → W p l e R s m ([.ref r0, .ref r1, .int a2, .int a3] : List Value).toArray below meth c H_6 locs_6 0 0 Q (F0 m 73 ls []) := by
            intro N
            induction N with
            | zero => intro v5_6 wk_6 H_6 locs_6 hh_6  hi_6 hm; exact absurd hm (by omega)
            | succ N L73 =>
              intro v5_6 wk_6 H_6 locs_6 hh_6  hi_6 hm_6 ls hl
              obtain ⟨hi_6_0, hi_6_1, hi_6_2⟩ := hi_6
              refine lv_iload hx hb dX10_scanName_73 (lv_at hl 5 rfl) ?_
              refine lv_iload hx hb dX10_scanName_75 (lv_at hl 4 rfl) ?_
              refine lv_icmp_ge (tgt := 92) hx hb dX10_scanName_77 (by decide) (fun c_7 => ?_) (fun c_7 => ?_)
              · skip
                have c_7' : v5_6.toInt ≥ v4_2.toInt := jb_ge (rfl) (rfl) c_7
                refine lv_iload hx hb dX10_scanName_92 (lv_at hl 4 rfl) ?_
                rw [hQ]
                exact W.iret (v := v4_2) hx hb hr (fun t ht hW => ⟨⟨v4_2, wk_6, rfl, by (try dsimp only); refine ⟨by omega, by omega, hw9, ?_⟩; rw [if_neg (by omega)]; omega, hh_6.rt (M1 := [(r0, 12, 3, .int wk_6)]) [0] rfl ht⟩, by rw [ht]; try exact hh_6.1.1, fun q h9 hq => by rw [ht]; try exact hh_6.1.2.1 q h9 hq⟩) hh_6.1.2.2 dX10_scanName_94
              · skip
                have c_7' : v5_6.toInt < v4_2.toInt := jb_ge_n (rfl) (rfl) c_7
                refine lv_aload_n hx hb dX10_scanName_80 rfl (lv_at hl 0 rfl) ?_
                refine lv_iconst (v := 0) hx hb dX10_scanName_81 (by decide) ?_
                refine lv_iconst (v := 0) hx hb dX10_scanName_82 (by decide) ?_
                refine va_callv (A0 := jA base) (H0 := s.heap) (va_runV (As := [.int 0, .int 0]) (rest := []) ⟨hx, hb, hml, hown, hts⟩ (uX10_addT l dC dI ca base B hB hAp hB12 hB101 hB293 G0 H_6 r0 0 0 wk_6) (cwV 2 hts (jgV (jWr_37 _ (List.mem_of_getElem? (i := 7) rfl)) (jWr_37 _ (List.mem_of_getElem? (i := 8) rfl)) (jWr_37 _ (List.mem_of_getElem? (i := 9) rfl)) (jWr_4 _ (List.mem_of_getElem? (i := 14) rfl)) (jWr_37 _ (List.mem_of_getElem? (i := 10) rfl))) rfl rfl rfl (by decide +kernel) ⟨by rw [← hR]; exact Nat.le_of_ble_eq_true rfl, by rw [← hR]; exact Nat.le_of_ble_eq_true rfl⟩) ⟨fun a U g mk q => by obtain ⟨q0, q1, q2, qK, q10, q11, q12⟩ := q; exact ⟨q0, q1, q2, jG.calling g mk a qK, q10, q11, q12⟩, hh_6.recv (C := RX10) (T := TX10) (N := 11) hB12 rfl (by decide) hg_r0 hK, fun U hU hW => ⟨rfl, hU, hh_6.2.1, hG.step hW hU hh_6.1, hg_r0, (hh_6.2.2.1.sub (L1 := [(r0, 12, 3, .int wk_6)]) [0] rfl), by first | omega | (refine ⟨?_, ?_, ?_, ?_⟩ <;> (first | omega | rfl | assumption | decide | exact Or.inl rfl | exact Or.inr rfl | (simp only; omega)))⟩⟩ rfl rfl hl.1 rfl (lv_room (Nat.le_of_ble_eq_true rfl)) dX10_scanName_83 ⟨Nat.zero_le _, Nat.zero_le _⟩) hh_6.1 (fun q _ h => h) (fun q h => h) (fun u_8 t_8 H_8 locs_8 ht_8 hvm_8 hr_9 hb_8 hz_8 hk_8 hS_8 => ?_)
                obtain ⟨qk_8, rfl⟩ : ∃ z, z = u_8 := ⟨_, rfl⟩
                rw [ht_8] at hb_8
                obtain ⟨hb_81, hb_82, hb_83, hb_84, hb_85⟩ := hb_8
                have hh_8 : jSt (dC, dI) B base G0 G0 EX10_scanNameT s.heap 0 0 [(r0, 12, 3, .int qk_8)] [(r1, 173, n1, ca 1, f1)] [] H_8 locs_8 := ((hh_6.call hb_81 hb_82 hb_83 hb_84 hS_8 rfl (L1 := []) [] rfl rfl (M1 := [(r1, 173, n1, ca 1, f1)]) [0] rfl rfl (I1 := []) [] rfl rfl).more hb_85)
                clear hh_6 ht_8 hvm_8 hz_8 hk_8 hS_8 hb_81 hb_82 hb_83 hb_84 hb_85
                obtain ⟨z_10, ez_10⟩ : ∃ y : Int32, y = v5_6 + 1 := ⟨_, rfl⟩
                refine lv_iinc (v := z_10) (lv' := [(5, .int z_10), (0, .ref r0), (1, .ref r1), (2, .int a2), (3, .int a3), (4, .int v4_2)]) hx hb dX10_scanName_86 hl (k := 5) rfl (by rw [ez_10]; rfl) (by decide) rfl (fun ls hl => ?_)
                have hz_10 : z_10.toInt = v5_6.toInt + 1 := by rw [ez_10]; exact jb_iadd2 (rfl) (by decide) (by omega)
                refine lv_goto (tgt := 73) hx hb dX10_scanName_89 (by decide) ?_
                exact L73 z_10 qk_8 _ _ hh_8 (by first | omega | (refine ⟨?_, ?_, ?_⟩ <;> (first | omega | rfl | assumption | decide | exact Or.inl rfl | exact Or.inr rfl | (simp only; omega)))) (by omega) _ (lv_sub hl [1, 2, 3, 4, 5, 0] rfl)
          exact L73 (v4_2.toInt - (a2 : Int32).toInt : Int).toNat.succ a2 tk _ _ hh_2 (by first | omega | (refine ⟨?_, ?_, ?_⟩ <;> (first | omega | rfl | assumption | decide | exact Or.inl rfl | exact Or.inr rfl | (simp only; omega)))) (by omega) _ (lv_sub hl [1, 2, 3, 4, 5, 0] rfl)
        · skip
          have c_5' : z_4.toInt ≤ 10 := jb_gt_n (rfl) ((by decide)) c_5
          refine lv_aload_n hx hb dX10_scanName_36 rfl (lv_at hl 0 rfl) ?_
          obtain ⟨v_11, hv_11, hh_12⟩ := hh_2.pin (C := RX10) (T := TX10) (N := 11) hB12 rfl (by decide) hg_r0 (i := 0) (by decide) rfl
          clear hh_2
          obtain ⟨names_13, rfl, hg_names_13⟩ := hv_11
          refine j7_read hx hb hown hK (C := RX10) (T := TX10) (N := 11) rfl hly_12_0 hlk_24 (hh_12.at 0 rfl) dX10_scanName_37 ?_
          refine lv_aload_n hx hb dX10_scanName_40 rfl (lv_at hl 1 rfl) ?_
          refine lv_iload_n hx hb dX10_scanName_41 rfl (lv_at hl 2 rfl) ?_
          refine lv_iload hx hb dX10_scanName_42 (lv_at hl 4 rfl) ?_
          refine lv_iconst (v := 1) hx hb dX10_scanName_44 (by decide) ?_
          obtain ⟨v_16, hv_16, hh_17⟩ := hh_12.pin (C := RX6) (T := TX6) (N := 4) hB8 rfl (by decide) hg_names_13 (i := 0) (by decide) rfl
          obtain ⟨stems_18, rfl, hg_stems_18⟩ := hv_16
          obtain ⟨v_19, hv_19, hh_20⟩ := hh_17.pin (C := RX6) (T := TX6) (N := 4) hB8 rfl (by decide) hg_names_13 (i := 1) (by decide) rfl
          obtain ⟨primes_21, rfl, hg_primes_21⟩ := hv_19
          obtain ⟨v_22, hv_22, hh_23⟩ := hh_20.pin (C := RX6) (T := TX6) (N := 4) hB8 rfl (by decide) hg_names_13 (i := 2) (by decide) rfl
          obtain ⟨slots_24, rfl, hg_slots_24⟩ := hv_22
          refine va_calli (A0 := jA base) (H0 := s.heap) (va_runV (As := [.ref r1, .int a2, .int v4_2, .int 1]) (rest := []) ⟨hx, hb, hml, hown, hts⟩ (uX6_numberOfBt9 l dC dI ca base B hB hAp hB8 hB102 hB132 hB133 hB173 G0 H_2 names_13 r1 a2 v4_2 1 n1 stems_18 primes_21 slots_24) (cwV 4 hts (jgV (jWr_37 _ (List.mem_of_getElem? (i := 6) rfl)) (jWr_7 _ (List.mem_of_getElem? (i := 14) rfl)) (jWr_7 _ (List.mem_of_getElem? (i := 15) rfl)) (jWr_4 _ (List.mem_of_getElem? (i := 10) rfl)) (jWr_7 _ (List.mem_of_getElem? (i := 16) rfl))) rfl rfl rfl (by decide +kernel) ⟨by rw [← hR]; exact Nat.le_of_ble_eq_true rfl, by rw [← hR]; exact Nat.le_of_ble_eq_true rfl⟩) ⟨fun a U g mk q => by obtain ⟨q0, q1, q2, qK, q10, q11, q12, q13, q14, q15, q16⟩ := q; exact ⟨q0, q1, q2, jG.calling g mk a qK, q10, q11, q12, q13, q14, q15, q16⟩, hh_23.recv (C := RX6) (T := TX6) (N := 4) hB8 rfl (by decide) hg_names_13 hK, fun U hU hW => ⟨rfl, hU, hh_23.2.1, hG.step hW hU hh_23.1, hg_names_13, hg_r1, hg_stems_18, hg_primes_21, hg_slots_24, (hh_23.2.2.1.sub (L1 := [(names_13, 8, 0, .ref stems_18), (names_13, 8, 1, .ref primes_21), (names_13, 8, 2, .ref slots_24)]) [2, 1, 0] rfl), by first | omega | rfl | assumption | decide | exact Or.inl rfl | exact Or.inr rfl | (simp only; omega)⟩⟩ rfl rfl hl.1 rfl (lv_room (Nat.le_of_ble_eq_true rfl)) dX10_scanName_45 ⟨Nat.zero_le _, Nat.zero_le _⟩) hh_23.1 (fun q _ h => h) (fun q h => h) (fun r_15 u_14 t_14 H_14 locs_14 ht_14 hvm_14 hr_15 hb_14 hz_14 hk_14 hS_14 => ?_)
          rw [ht_14] at hb_14
          obtain ⟨hb_14, hbF_14⟩ := hb_14
          obtain ⟨hb_141, hb_142, hb_143, hb_144, hb_145⟩ := hb_14
          have hh_14 : jSt (dC, dI) B base G0 G0 EX10_scanNameT s.heap 0 0 [(names_13, 8, 2, .ref slots_24), (names_13, 8, 1, .ref primes_21), (names_13, 8, 0, .ref stems_18), (r0, 12, 0, .ref names_13), (r0, 12, 3, .int tk)] [(r1, 173, n1, ca 1, f1)] [] H_14 locs_14 := ((hh_23.call hb_141 hb_142 hb_143 hb_144 hS_14 rfl (L1 := [(names_13, 8, 2, .ref slots_24), (names_13, 8, 1, .ref primes_21), (names_13, 8, 0, .ref stems_18), (r0, 12, 0, .ref names_13), (r0, 12, 3, .int tk)]) [0, 1, 2, 3, 4] rfl rfl (M1 := [(r1, 173, n1, ca 1, f1)]) [0] rfl rfl (I1 := []) [] rfl rfl).more hb_145)
          clear hh_23 ht_14 hvm_14 hz_14 hk_14 hS_14 hb_141 hb_142 hb_143 hb_144 hb_145
          obtain ⟨hr_15_0, hr_15_1⟩ := hr_15
          refine lv_istore (lv' := [(5, .int r_15), (0, .ref r0), (1, .ref r1), (2, .int a2), (3, .int a3), (4, .int v4_2)]) hx hb dX10_scanName_48 hl (by decide) rfl (fun ls hl => ?_)
          refine lv_aload_n hx hb dX10_scanName_50 rfl (lv_at hl 1 rfl) ?_
          refine lv_iload hx hb dX10_scanName_51 (lv_at hl 0 rfl) ?_
          refine lv_if_ge (tgt := 60) hx hb dX10_scanName_53 (by decide) (fun c_25 => ?_) (fun c_25 => ?_)
          · skip
            have c_25' : r_15.toInt ≥ 0 := jb_ge (rfl) ((by decide)) c_25
            refine lv_bipush (v := 110) hx hb dX10_scanName_60 (by decide) ?_
            refine lv_iload hx hb dX10_scanName_62 (lv_at hl 0 rfl) ?_
            refine va_callv (A0 := jA base) (H0 := s.heap) (va_runV (As := [.int 110, .int r_15]) (rest := []) ⟨hx, hb, hml, hown, hts⟩ (uX10_addT l dC dI ca base B hB hAp hB12 hB101 hB293 G0 H_14 r0 110 r_15 tk) (cwV 2 hts (jgV (jWr_37 _ (List.mem_of_getElem? (i := 7) rfl)) (jWr_37 _ (List.mem_of_getElem? (i := 8) rfl)) (jWr_37 _ (List.mem_of_getElem? (i := 9) rfl)) (jWr_4 _ (List.mem_of_getElem? (i := 14) rfl)) (jWr_37 _ (List.mem_of_getElem? (i := 10) rfl))) rfl rfl rfl (by decide +kernel) ⟨by rw [← hR]; exact Nat.le_of_ble_eq_true rfl, by rw [← hR]; exact Nat.le_of_ble_eq_true rfl⟩) ⟨fun a U g mk q => by obtain ⟨q0, q1, q2, qK, q10, q11, q12⟩ := q; exact ⟨q0, q1, q2, jG.calling g mk a qK, q10, q11, q12⟩, hh_14.recv (C := RX10) (T := TX10) (N := 11) hB12 rfl (by decide) hg_r0 hK, fun U hU hW => ⟨rfl, hU, hh_14.2.1, hG.step hW hU hh_14.1, hg_r0, (hh_14.2.2.1.sub (L1 := [(r0, 12, 3, .int tk)]) [4] rfl), by first | omega | (refine ⟨?_, ?_, ?_, ?_⟩ <;> (first | omega | rfl | assumption | decide | exact Or.inl rfl | exact Or.inr rfl | (simp only; omega)))⟩⟩ rfl rfl hl.1 rfl (lv_room (Nat.le_of_ble_eq_true rfl)) dX10_scanName_64 ⟨Nat.zero_le _, Nat.zero_le _⟩) hh_14.1 (fun q _ h => h) (fun q h => h) (fun u_26 t_26 H_26 locs_26 ht_26 hvm_26 hr_27 hb_26 hz_26 hk_26 hS_26 => ?_)
            obtain ⟨qk_26, rfl⟩ : ∃ z, z = u_26 := ⟨_, rfl⟩
            rw [ht_26] at hb_26
            obtain ⟨hb_261, hb_262, hb_263, hb_264, hb_265⟩ := hb_26
            have hh_26 : jSt (dC, dI) B base G0 G0 EX10_scanNameT s.heap 0 0 [(r0, 12, 3, .int qk_26), (names_13, 8, 2, .ref slots_24), (names_13, 8, 1, .ref primes_21), (names_13, 8, 0, .ref stems_18), (r0, 12, 0, .ref names_13)] [(r1, 173, n1, ca 1, f1)] [] H_26 locs_26 := ((hh_14.call hb_261 hb_262 hb_263 hb_264 hS_26 rfl (L1 := [(names_13, 8, 2, .ref slots_24), (names_13, 8, 1, .ref primes_21), (names_13, 8, 0, .ref stems_18), (r0, 12, 0, .ref names_13)]) [0, 1, 2, 3] rfl rfl (M1 := [(r1, 173, n1, ca 1, f1)]) [0] rfl rfl (I1 := []) [] rfl rfl).more hb_265)
            clear hh_14 ht_26 hvm_26 hz_26 hk_26 hS_26 hb_261 hb_262 hb_263 hb_264 hb_265
            refine lv_goto (tgt := 92) hx hb dX10_scanName_67 (by decide) ?_
            refine lv_iload hx hb dX10_scanName_92 (lv_at hl 5 rfl) ?_
            rw [hQ]
            exact W.iret (v := v4_2) hx hb hr (fun t ht hW => ⟨⟨v4_2, qk_26, rfl, by (try dsimp only); refine ⟨by omega, by omega, hw9, ?_⟩; rw [if_pos (by omega)]; omega, hh_26.rt (M1 := [(r0, 12, 3, .int qk_26)]) [0] rfl ht⟩, by rw [ht]; try exact hh_26.1.1, fun q h9 hq => by rw [ht]; try exact hh_26.1.2.1 q h9 hq⟩) hh_26.1.2.2 dX10_scanName_94
          · skip
            have c_25' : r_15.toInt < 0 := jb_ge_n (rfl) ((by decide)) c_25
            refine lv_iconst (v := 0) hx hb dX10_scanName_56 (by decide) ?_
            refine lv_goto (tgt := 62) hx hb dX10_scanName_57 (by decide) ?_
            refine lv_iload hx hb dX10_scanName_62 (lv_at hl 0 rfl) ?_
            refine va_callv (A0 := jA base) (H0 := s.heap) (va_runV (As := [.int 0, .int r_15]) (rest := []) ⟨hx, hb, hml, hown, hts⟩ (uX10_addT l dC dI ca base B hB hAp hB12 hB101 hB293 G0 H_14 r0 0 r_15 tk) (cwV 2 hts (jgV (jWr_37 _ (List.mem_of_getElem? (i := 7) rfl)) (jWr_37 _ (List.mem_of_getElem? (i := 8) rfl)) (jWr_37 _ (List.mem_of_getElem? (i := 9) rfl)) (jWr_4 _ (List.mem_of_getElem? (i := 14) rfl)) (jWr_37 _ (List.mem_of_getElem? (i := 10) rfl))) rfl rfl rfl (by decide +kernel) ⟨by rw [← hR]; exact Nat.le_of_ble_eq_true rfl, by rw [← hR]; exact Nat.le_of_ble_eq_true rfl⟩) ⟨fun a U g mk q => by obtain ⟨q0, q1, q2, qK, q10, q11, q12⟩ := q; exact ⟨q0, q1, q2, jG.calling g mk a qK, q10, q11, q12⟩, hh_14.recv (C := RX10) (T := TX10) (N := 11) hB12 rfl (by decide) hg_r0 hK, fun U hU hW => ⟨rfl, hU, hh_14.2.1, hG.step hW hU hh_14.1, hg_r0, (hh_14.2.2.1.sub (L1 := [(r0, 12, 3, .int tk)]) [4] rfl), by first | omega | (refine ⟨?_, ?_, ?_, ?_⟩ <;> (first | omega | rfl | assumption | decide | exact Or.inl rfl | exact Or.inr rfl | (simp only; omega)))⟩⟩ rfl rfl hl.1 rfl (lv_room (Nat.le_of_ble_eq_true rfl)) dX10_scanName_64 ⟨Nat.zero_le _, Nat.zero_le _⟩) hh_14.1 (fun q _ h => h) (fun q h => h) (fun u_28 t_28 H_28 locs_28 ht_28 hvm_28 hr_29 hb_28 hz_28 hk_28 hS_28 => ?_)
            obtain ⟨qk_28, rfl⟩ : ∃ z, z = u_28 := ⟨_, rfl⟩
            rw [ht_28] at hb_28
            obtain ⟨hb_281, hb_282, hb_283, hb_284, hb_285⟩ := hb_28
            have hh_28 : jSt (dC, dI) B base G0 G0 EX10_scanNameT s.heap 0 0 [(r0, 12, 3, .int qk_28), (names_13, 8, 2, .ref slots_24), (names_13, 8, 1, .ref primes_21), (names_13, 8, 0, .ref stems_18), (r0, 12, 0, .ref names_13)] [(r1, 173, n1, ca 1, f1)] [] H_28 locs_28 := ((hh_14.call hb_281 hb_282 hb_283 hb_284 hS_28 rfl (L1 := [(names_13, 8, 2, .ref slots_24), (names_13, 8, 1, .ref primes_21), (names_13, 8, 0, .ref stems_18), (r0, 12, 0, .ref names_13)]) [0, 1, 2, 3] rfl rfl (M1 := [(r1, 173, n1, ca 1, f1)]) [0] rfl rfl (I1 := []) [] rfl rfl).more hb_285)
            clear hh_14 ht_28 hvm_28 hz_28 hk_28 hS_28 hb_281 hb_282 hb_283 hb_284 hb_285
            refine lv_goto (tgt := 92) hx hb dX10_scanName_67 (by decide) ?_
            refine lv_iload hx hb dX10_scanName_92 (lv_at hl 5 rfl) ?_
            rw [hQ]
            exact W.iret (v := v4_2) hx hb hr (fun t ht hW => ⟨⟨v4_2, qk_28, rfl, by (try dsimp only); refine ⟨by omega, by omega, hw9, ?_⟩; rw [if_pos (by omega)]; omega, hh_28.rt (M1 := [(r0, 12, 3, .int qk_28)]) [0] rfl ht⟩, by rw [ht]; try exact hh_28.1.1, fun q h9 hq => by rw [ht]; try exact hh_28.1.2.1 q h9 hq⟩) hh_28.1.2.2 dX10_scanName_94
      · skip
        have c_3' : v4_2.toInt < a3.toInt := jb_ge_n (rfl) (rfl) c_3
        refine lv_aload_n hx hb dX10_scanName_11 rfl (lv_at hl 1 rfl) ?_
        refine lv_iload hx hb dX10_scanName_12 (lv_at hl 4 rfl) ?_
        refine j7_ialdM hx hb hK hh_2 hB173 1 rfl (by decide) hg_r1 (x := v4_2.toInt) (rfl) (by omega) (j := 0) rfl dX10_scanName_14 (fun z_30 ez_30 (hz_30 : True) => ?_)
        have hqz_30 : z_30.toInt = jSo f1 (v4_2.toInt) := by unfold jSo; rw [ez_30]
        refine va_calli (A0 := jA base) (H0 := s.heap) (va_runSN (As := [.int z_30]) (rest := []) ⟨hx, hb, hml, hown, hts⟩ (uX6_signOfT l dC dI ca base B hB hAp G0 H_2 z_30) ⟨va_cnB 1 hts (jgW (jWr_7 _ (List.mem_of_getElem? (i := 21) rfl))) rfl rfl rfl (hG.2.2.1 RX10 74 yX6_signOf "ProofServer" (List.mem_of_getElem? (i := 1144) (by decide +kernel))) (htw (.initialized RX6) (jWr_4 _ (List.mem_of_getElem? (i := 10) rfl))) (by decide +kernel) ⟨by rw [← hR]; exact Nat.le_of_ble_eq_true rfl, by rw [← hR]; exact Nat.le_of_ble_eq_true rfl⟩, htw (.static yX6_signOf) (jWr_7 _ (List.mem_of_getElem? (i := 20) rfl)), trivial⟩ ⟨fun a U g mk q => by obtain ⟨q0, q1, q2, qK, q10, q11⟩ := q; exact ⟨q0, q1, q2, jG.calling g mk a qK, q10, q11⟩, fun U hU hW => ⟨rfl, hU, hh_2.2.1, hG.step hW hU hh_2.1, jP.nil, trivial⟩⟩ rfl rfl hl.1 rfl (lv_room (Nat.le_of_ble_eq_true rfl)) dX10_scanName_15 ⟨Nat.zero_le _, Nat.zero_le _⟩) hh_2.1 (fun q _ h => h) (fun q h => h) (fun r_32 u_31 t_31 H_31 locs_31 ht_31 hvm_31 hr_32 hb_31 hz_31 hk_31 hS_31 => ?_)
        rw [ht_31] at hb_31
        obtain ⟨hb_311, hb_312, hb_313, hb_314, hb_315⟩ := hb_31
        have hh_31 : jSt (dC, dI) B base G0 G0 EX10_scanNameT s.heap 0 0 [(r0, 12, 3, .int tk)] [(r1, 173, n1, ca 1, f1)] [] H_31 locs_31 := ((hh_2.call hb_311 hb_312 hb_313 hb_314 hS_31 rfl (L1 := [(r0, 12, 3, .int tk)]) [0] rfl rfl (M1 := [(r1, 173, n1, ca 1, f1)]) [0] rfl rfl (I1 := []) [] rfl rfl).more hb_315)
        clear hh_2 ht_31 hvm_31 hz_31 hk_31 hS_31 hb_311 hb_312 hb_313 hb_314 hb_315
        obtain ⟨hr_32_0, hr_32_1, hr_32_2⟩ := hr_32
        refine lv_if_lt (tgt := 27) hx hb dX10_scanName_18 (by decide) (fun c_33 => ?_) (fun c_33 => ?_)
        · skip
          have c_33' : r_32.toInt < 0 := jb_lt (rfl) ((by decide)) c_33
          have hw9 : (v4_2).toInt = jcWd f1 a3.toInt a2.toInt := hi_2_2 ▸ (jcW_e (Or.inr (by rw [← hqz_30, hr_32_2, if_pos (by omega)]))).symm
          refine lv_iload hx hb dX10_scanName_27 (lv_at hl 4 rfl) ?_
          refine lv_iload_n hx hb dX10_scanName_29 rfl (lv_at hl 2 rfl) ?_
          refine lv_isub hx hb dX10_scanName_30 ?_
          refine lv_topi (fun z_34 ez_34 => ?_)
          have hz_34 : z_34.toInt = v4_2.toInt - a2.toInt := by rw [ez_34]; exact jb_isub2 (rfl) (rfl) (by omega)
          refine lv_bipush (v := 10) hx hb dX10_scanName_31 (by decide) ?_
          refine lv_icmp_gt (tgt := 70) hx hb dX10_scanName_33 (by decide) (fun c_35 => ?_) (fun c_35 => ?_)
          · skip
            have c_35' : z_34.toInt > 10 := jb_gt (rfl) ((by decide)) c_35
            refine lv_iload_n hx hb dX10_scanName_70 rfl (lv_at hl 2 rfl) ?_
            refine lv_istore (lv' := [(5, .int a2), (0, .ref r0), (1, .ref r1), (2, .int a2), (3, .int a3), (4, .int v4_2)]) hx hb dX10_scanName_71 hl (by decide) rfl (fun ls hl => ?_)
            have L73 : ∀ (N : Nat) (v5_36 : Int32) (wk_36 : Int32) (H_36 : Heap) (locs_36 : List Loc), jSt (dC, dI) B base G0 G0 EX10_scanNameT s.heap 0 0 [(r0, 12, 3, .int wk_36)] [(r1, 173, n1, ca 1, f1)] [] H_36 locs_36 → (a2.toInt ≤ v5_36.toInt ∧ v5_36.toInt ≤ v4_2.toInt ∧ wk_36.toInt = tk.toInt + (v5_36.toInt - a2.toInt)) → (v4_2.toInt - v5_36.toInt : Int) < N → ∀ ls : Array Slot, lv_has ls 6 [(0, .ref r0), (1, .ref r1), (2, .int a2), (3, .int a3), (4, .int v4_2), (5, .int v5_36)] → W p l e R s m ([.ref r0, .ref r1, .int a2, .int a3] : List Value).toArray below meth c H_36 locs_36 0 0 Q (F0 m 73 ls []) := by
              intro N
              induction N with
              | zero => intro v5_36 wk_36 H_36 locs_36 hh_36  hi_36 hm; exact absurd hm (by omega)
              | succ N L73 =>
                intro v5_36 wk_36 H_36 locs_36 hh_36  hi_36 hm_36 ls hl
                obtain ⟨hi_36_0, hi_36_1, hi_36_2⟩ := hi_36
                refine lv_iload hx hb dX10_scanName_73 (lv_at hl 5 rfl) ?_
                refine lv_iload hx hb dX10_scanName_75 (lv_at hl 4 rfl) ?_
                refine lv_icmp_ge (tgt := 92) hx hb dX10_scanName_77 (by decide) (fun c_37 => ?_) (fun c_37 => ?_)
                · skip
                  have c_37' : v5_36.toInt ≥ v4_2.toInt := jb_ge (rfl) (rfl) c_37
                  refine lv_iload hx hb dX10_scanName_92 (lv_at hl 4 rfl) ?_
                  rw [hQ]
                  exact W.iret (v := v4_2) hx hb hr (fun t ht hW => ⟨⟨v4_2, wk_36, rfl, by (try dsimp only); refine ⟨by omega, by omega, hw9, ?_⟩; rw [if_neg (by omega)]; omega, hh_36.rt (M1 := [(r0, 12, 3, .int wk_36)]) [0] rfl ht⟩, by rw [ht]; try exact hh_36.1.1, fun q h9 hq => by rw [ht]; try exact hh_36.1.2.1 q h9 hq⟩) hh_36.1.2.2 dX10_scanName_94
                · skip
                  have c_37' : v5_36.toInt < v4_2.toInt := jb_ge_n (rfl) (rfl) c_37
                  refine lv_aload_n hx hb dX10_scanName_80 rfl (lv_at hl 0 rfl) ?_
                  refine lv_iconst (v := 0) hx hb dX10_scanName_81 (by decide) ?_
                  refine lv_iconst (v := 0) hx hb dX10_scanName_82 (by decide) ?_
                  refine va_callv (A0 := jA base) (H0 := s.heap) (va_runV (As := [.int 0, .int 0]) (rest := []) ⟨hx, hb, hml, hown, hts⟩ (uX10_addT l dC dI ca base B hB hAp hB12 hB101 hB293 G0 H_36 r0 0 0 wk_36) (cwV 2 hts (jgV (jWr_37 _ (List.mem_of_getElem? (i := 7) rfl)) (jWr_37 _ (List.mem_of_getElem? (i := 8) rfl)) (jWr_37 _ (List.mem_of_getElem? (i := 9) rfl)) (jWr_4 _ (List.mem_of_getElem? (i := 14) rfl)) (jWr_37 _ (List.mem_of_getElem? (i := 10) rfl))) rfl rfl rfl (by decide +kernel) ⟨by rw [← hR]; exact Nat.le_of_ble_eq_true rfl, by rw [← hR]; exact Nat.le_of_ble_eq_true rfl⟩) ⟨fun a U g mk q => by obtain ⟨q0, q1, q2, qK, q10, q11, q12⟩ := q; exact ⟨q0, q1, q2, jG.calling g mk a qK, q10, q11, q12⟩, hh_36.recv (C := RX10) (T := TX10) (N := 11) hB12 rfl (by decide) hg_r0 hK, fun U hU hW => ⟨rfl, hU, hh_36.2.1, hG.step hW hU hh_36.1, hg_r0, (hh_36.2.2.1.sub (L1 := [(r0, 12, 3, .int wk_36)]) [0] rfl), by first | omega | (refine ⟨?_, ?_, ?_, ?_⟩ <;> (first | omega | rfl | assumption | decide | exact Or.inl rfl | exact Or.inr rfl | (simp only; omega)))⟩⟩ rfl rfl hl.1 rfl (lv_room (Nat.le_of_ble_eq_true rfl)) dX10_scanName_83 ⟨Nat.zero_le _, Nat.zero_le _⟩) hh_36.1 (fun q _ h => h) (fun q h => h) (fun u_38 t_38 H_38 locs_38 ht_38 hvm_38 hr_39 hb_38 hz_38 hk_38 hS_38 => ?_)
                  obtain ⟨qk_38, rfl⟩ : ∃ z, z = u_38 := ⟨_, rfl⟩
                  rw [ht_38] at hb_38
                  obtain ⟨hb_381, hb_382, hb_383, hb_384, hb_385⟩ := hb_38
                  have hh_38 : jSt (dC, dI) B base G0 G0 EX10_scanNameT s.heap 0 0 [(r0, 12, 3, .int qk_38)] [(r1, 173, n1, ca 1, f1)] [] H_38 locs_38 := ((hh_36.call hb_381 hb_382 hb_383 hb_384 hS_38 rfl (L1 := []) [] rfl rfl (M1 := [(r1, 173, n1, ca 1, f1)]) [0] rfl rfl (I1 := []) [] rfl rfl).more hb_385)
                  clear hh_36 ht_38 hvm_38 hz_38 hk_38 hS_38 hb_381 hb_382 hb_383 hb_384 hb_385
                  obtain ⟨z_40, ez_40⟩ : ∃ y : Int32, y = v5_36 + 1 := ⟨_, rfl⟩
                  refine lv_iinc (v := z_40) (lv' := [(5, .int z_40), (0, .ref r0), (1, .ref r1), (2, .int a2), (3, .int a3), (4, .int v4_2)]) hx hb dX10_scanName_86 hl (k := 5) rfl (by rw [ez_40]; rfl) (by decide) rfl (fun ls hl => ?_)
                  have hz_40 : z_40.toInt = v5_36.toInt + 1 := by rw [ez_40]; exact jb_iadd2 (rfl) (by decide) (by omega)
                  refine lv_goto (tgt := 73) hx hb dX10_scanName_89 (by decide) ?_
                  exact L73 z_40 qk_38 _ _ hh_38 (by first | omega | (refine ⟨?_, ?_, ?_⟩ <;> (first | omega | rfl | assumption | decide | exact Or.inl rfl | exact Or.inr rfl | (simp only; omega)))) (by omega) _ (lv_sub hl [1, 2, 3, 4, 5, 0] rfl)
            exact L73 (v4_2.toInt - (a2 : Int32).toInt : Int).toNat.succ a2 tk _ _ hh_31 (by first | omega | (refine ⟨?_, ?_, ?_⟩ <;> (first | omega | rfl | assumption | decide | exact Or.inl rfl | exact Or.inr rfl | (simp only; omega)))) (by omega) _ (lv_sub hl [1, 2, 3, 4, 5, 0] rfl)
          · skip
            have c_35' : z_34.toInt ≤ 10 := jb_gt_n (rfl) ((by decide)) c_35
            refine lv_aload_n hx hb dX10_scanName_36 rfl (lv_at hl 0 rfl) ?_
            obtain ⟨v_41, hv_41, hh_42⟩ := hh_31.pin (C := RX10) (T := TX10) (N := 11) hB12 rfl (by decide) hg_r0 (i := 0) (by decide) rfl
            clear hh_31
            obtain ⟨names_43, rfl, hg_names_43⟩ := hv_41
            refine j7_read hx hb hown hK (C := RX10) (T := TX10) (N := 11) rfl hly_12_0 hlk_24 (hh_42.at 0 rfl) dX10_scanName_37 ?_
            refine lv_aload_n hx hb dX10_scanName_40 rfl (lv_at hl 1 rfl) ?_
            refine lv_iload_n hx hb dX10_scanName_41 rfl (lv_at hl 2 rfl) ?_
            refine lv_iload hx hb dX10_scanName_42 (lv_at hl 4 rfl) ?_
            refine lv_iconst (v := 1) hx hb dX10_scanName_44 (by decide) ?_
            obtain ⟨v_46, hv_46, hh_47⟩ := hh_42.pin (C := RX6) (T := TX6) (N := 4) hB8 rfl (by decide) hg_names_43 (i := 0) (by decide) rfl
            obtain ⟨stems_48, rfl, hg_stems_48⟩ := hv_46
            obtain ⟨v_49, hv_49, hh_50⟩ := hh_47.pin (C := RX6) (T := TX6) (N := 4) hB8 rfl (by decide) hg_names_43 (i := 1) (by decide) rfl
            obtain ⟨primes_51, rfl, hg_primes_51⟩ := hv_49
            obtain ⟨v_52, hv_52, hh_53⟩ := hh_50.pin (C := RX6) (T := TX6) (N := 4) hB8 rfl (by decide) hg_names_43 (i := 2) (by decide) rfl
            obtain ⟨slots_54, rfl, hg_slots_54⟩ := hv_52
            refine va_calli (A0 := jA base) (H0 := s.heap) (va_runV (As := [.ref r1, .int a2, .int v4_2, .int 1]) (rest := []) ⟨hx, hb, hml, hown, hts⟩ (uX6_numberOfBt9 l dC dI ca base B hB hAp hB8 hB102 hB132 hB133 hB173 G0 H_31 names_43 r1 a2 v4_2 1 n1 stems_48 primes_51 slots_54) (cwV 4 hts (jgV (jWr_37 _ (List.mem_of_getElem? (i := 6) rfl)) (jWr_7 _ (List.mem_of_getElem? (i := 14) rfl)) (jWr_7 _ (List.mem_of_getElem? (i := 15) rfl)) (jWr_4 _ (List.mem_of_getElem? (i := 10) rfl)) (jWr_7 _ (List.mem_of_getElem? (i := 16) rfl))) rfl rfl rfl (by decide +kernel) ⟨by rw [← hR]; exact Nat.le_of_ble_eq_true rfl, by rw [← hR]; exact Nat.le_of_ble_eq_true rfl⟩) ⟨fun a U g mk q => by obtain ⟨q0, q1, q2, qK, q10, q11, q12, q13, q14, q15, q16⟩ := q; exact ⟨q0, q1, q2, jG.calling g mk a qK, q10, q11, q12, q13, q14, q15, q16⟩, hh_53.recv (C := RX6) (T := TX6) (N := 4) hB8 rfl (by decide) hg_names_43 hK, fun U hU hW => ⟨rfl, hU, hh_53.2.1, hG.step hW hU hh_53.1, hg_names_43, hg_r1, hg_stems_48, hg_primes_51, hg_slots_54, (hh_53.2.2.1.sub (L1 := [(names_43, 8, 0, .ref stems_48), (names_43, 8, 1, .ref primes_51), (names_43, 8, 2, .ref slots_54)]) [2, 1, 0] rfl), by first | omega | rfl | assumption | decide | exact Or.inl rfl | exact Or.inr rfl | (simp only; omega)⟩⟩ rfl rfl hl.1 rfl (lv_room (Nat.le_of_ble_eq_true rfl)) dX10_scanName_45 ⟨Nat.zero_le _, Nat.zero_le _⟩) hh_53.1 (fun q _ h => h) (fun q h => h) (fun r_45 u_44 t_44 H_44 locs_44 ht_44 hvm_44 hr_45 hb_44 hz_44 hk_44 hS_44 => ?_)
            rw [ht_44] at hb_44
            obtain ⟨hb_44, hbF_44⟩ := hb_44
            obtain ⟨hb_441, hb_442, hb_443, hb_444, hb_445⟩ := hb_44
            have hh_44 : jSt (dC, dI) B base G0 G0 EX10_scanNameT s.heap 0 0 [(names_43, 8, 2, .ref slots_54), (names_43, 8, 1, .ref primes_51), (names_43, 8, 0, .ref stems_48), (r0, 12, 0, .ref names_43), (r0, 12, 3, .int tk)] [(r1, 173, n1, ca 1, f1)] [] H_44 locs_44 := ((hh_53.call hb_441 hb_442 hb_443 hb_444 hS_44 rfl (L1 := [(names_43, 8, 2, .ref slots_54), (names_43, 8, 1, .ref primes_51), (names_43, 8, 0, .ref stems_48), (r0, 12, 0, .ref names_43), (r0, 12, 3, .int tk)]) [0, 1, 2, 3, 4] rfl rfl (M1 := [(r1, 173, n1, ca 1, f1)]) [0] rfl rfl (I1 := []) [] rfl rfl).more hb_445)
            clear hh_53 ht_44 hvm_44 hz_44 hk_44 hS_44 hb_441 hb_442 hb_443 hb_444 hb_445
            obtain ⟨hr_45_0, hr_45_1⟩ := hr_45
            refine lv_istore (lv' := [(5, .int r_45), (0, .ref r0), (1, .ref r1), (2, .int a2), (3, .int a3), (4, .int v4_2)]) hx hb dX10_scanName_48 hl (by decide) rfl (fun ls hl => ?_)
            refine lv_aload_n hx hb dX10_scanName_50 rfl (lv_at hl 1 rfl) ?_
            refine lv_iload hx hb dX10_scanName_51 (lv_at hl 0 rfl) ?_
            refine lv_if_ge (tgt := 60) hx hb dX10_scanName_53 (by decide) (fun c_55 => ?_) (fun c_55 => ?_)
            · skip
              have c_55' : r_45.toInt ≥ 0 := jb_ge (rfl) ((by decide)) c_55
              refine lv_bipush (v := 110) hx hb dX10_scanName_60 (by decide) ?_
              refine lv_iload hx hb dX10_scanName_62 (lv_at hl 0 rfl) ?_
              refine va_callv (A0 := jA base) (H0 := s.heap) (va_runV (As := [.int 110, .int r_45]) (rest := []) ⟨hx, hb, hml, hown, hts⟩ (uX10_addT l dC dI ca base B hB hAp hB12 hB101 hB293 G0 H_44 r0 110 r_45 tk) (cwV 2 hts (jgV (jWr_37 _ (List.mem_of_getElem? (i := 7) rfl)) (jWr_37 _ (List.mem_of_getElem? (i := 8) rfl)) (jWr_37 _ (List.mem_of_getElem? (i := 9) rfl)) (jWr_4 _ (List.mem_of_getElem? (i := 14) rfl)) (jWr_37 _ (List.mem_of_getElem? (i := 10) rfl))) rfl rfl rfl (by decide +kernel) ⟨by rw [← hR]; exact Nat.le_of_ble_eq_true rfl, by rw [← hR]; exact Nat.le_of_ble_eq_true rfl⟩) ⟨fun a U g mk q => by obtain ⟨q0, q1, q2, qK, q10, q11, q12⟩ := q; exact ⟨q0, q1, q2, jG.calling g mk a qK, q10, q11, q12⟩, hh_44.recv (C := RX10) (T := TX10) (N := 11) hB12 rfl (by decide) hg_r0 hK, fun U hU hW => ⟨rfl, hU, hh_44.2.1, hG.step hW hU hh_44.1, hg_r0, (hh_44.2.2.1.sub (L1 := [(r0, 12, 3, .int tk)]) [4] rfl), by first | omega | (refine ⟨?_, ?_, ?_, ?_⟩ <;> (first | omega | rfl | assumption | decide | exact Or.inl rfl | exact Or.inr rfl | (simp only; omega)))⟩⟩ rfl rfl hl.1 rfl (lv_room (Nat.le_of_ble_eq_true rfl)) dX10_scanName_64 ⟨Nat.zero_le _, Nat.zero_le _⟩) hh_44.1 (fun q _ h => h) (fun q h => h) (fun u_56 t_56 H_56 locs_56 ht_56 hvm_56 hr_57 hb_56 hz_56 hk_56 hS_56 => ?_)
              obtain ⟨qk_56, rfl⟩ : ∃ z, z = u_56 := ⟨_, rfl⟩
              rw [ht_56] at hb_56
              obtain ⟨hb_561, hb_562, hb_563, hb_564, hb_565⟩ := hb_56
              have hh_56 : jSt (dC, dI) B base G0 G0 EX10_scanNameT s.heap 0 0 [(r0, 12, 3, .int qk_56), (names_43, 8, 2, .ref slots_54), (names_43, 8, 1, .ref primes_51), (names_43, 8, 0, .ref stems_48), (r0, 12, 0, .ref names_43)] [(r1, 173, n1, ca 1, f1)] [] H_56 locs_56 := ((hh_44.call hb_561 hb_562 hb_563 hb_564 hS_56 rfl (L1 := [(names_43, 8, 2, .ref slots_54), (names_43, 8, 1, .ref primes_51), (names_43, 8, 0, .ref stems_48), (r0, 12, 0, .ref names_43)]) [0, 1, 2, 3] rfl rfl (M1 := [(r1, 173, n1, ca 1, f1)]) [0] rfl rfl (I1 := []) [] rfl rfl).more hb_565)
              clear hh_44 ht_56 hvm_56 hz_56 hk_56 hS_56 hb_561 hb_562 hb_563 hb_564 hb_565
              refine lv_goto (tgt := 92) hx hb dX10_scanName_67 (by decide) ?_
              refine lv_iload hx hb dX10_scanName_92 (lv_at hl 5 rfl) ?_
              rw [hQ]
              exact W.iret (v := v4_2) hx hb hr (fun t ht hW => ⟨⟨v4_2, qk_56, rfl, by (try dsimp only); refine ⟨by omega, by omega, hw9, ?_⟩; rw [if_pos (by omega)]; omega, hh_56.rt (M1 := [(r0, 12, 3, .int qk_56)]) [0] rfl ht⟩, by rw [ht]; try exact hh_56.1.1, fun q h9 hq => by rw [ht]; try exact hh_56.1.2.1 q h9 hq⟩) hh_56.1.2.2 dX10_scanName_94
            · skip
              have c_55' : r_45.toInt < 0 := jb_ge_n (rfl) ((by decide)) c_55
              refine lv_iconst (v := 0) hx hb dX10_scanName_56 (by decide) ?_
              refine lv_goto (tgt := 62) hx hb dX10_scanName_57 (by decide) ?_
              refine lv_iload hx hb dX10_scanName_62 (lv_at hl 0 rfl) ?_
              refine va_callv (A0 := jA base) (H0 := s.heap) (va_runV (As := [.int 0, .int r_45]) (rest := []) ⟨hx, hb, hml, hown, hts⟩ (uX10_addT l dC dI ca base B hB hAp hB12 hB101 hB293 G0 H_44 r0 0 r_45 tk) (cwV 2 hts (jgV (jWr_37 _ (List.mem_of_getElem? (i := 7) rfl)) (jWr_37 _ (List.mem_of_getElem? (i := 8) rfl)) (jWr_37 _ (List.mem_of_getElem? (i := 9) rfl)) (jWr_4 _ (List.mem_of_getElem? (i := 14) rfl)) (jWr_37 _ (List.mem_of_getElem? (i := 10) rfl))) rfl rfl rfl (by decide +kernel) ⟨by rw [← hR]; exact Nat.le_of_ble_eq_true rfl, by rw [← hR]; exact Nat.le_of_ble_eq_true rfl⟩) ⟨fun a U g mk q => by obtain ⟨q0, q1, q2, qK, q10, q11, q12⟩ := q; exact ⟨q0, q1, q2, jG.calling g mk a qK, q10, q11, q12⟩, hh_44.recv (C := RX10) (T := TX10) (N := 11) hB12 rfl (by decide) hg_r0 hK, fun U hU hW => ⟨rfl, hU, hh_44.2.1, hG.step hW hU hh_44.1, hg_r0, (hh_44.2.2.1.sub (L1 := [(r0, 12, 3, .int tk)]) [4] rfl), by first | omega | (refine ⟨?_, ?_, ?_, ?_⟩ <;> (first | omega | rfl | assumption | decide | exact Or.inl rfl | exact Or.inr rfl | (simp only; omega)))⟩⟩ rfl rfl hl.1 rfl (lv_room (Nat.le_of_ble_eq_true rfl)) dX10_scanName_64 ⟨Nat.zero_le _, Nat.zero_le _⟩) hh_44.1 (fun q _ h => h) (fun q h => h) (fun u_58 t_58 H_58 locs_58 ht_58 hvm_58 hr_59 hb_58 hz_58 hk_58 hS_58 => ?_)
              obtain ⟨qk_58, rfl⟩ : ∃ z, z = u_58 := ⟨_, rfl⟩
              rw [ht_58] at hb_58
              obtain ⟨hb_581, hb_582, hb_583, hb_584, hb_585⟩ := hb_58
              have hh_58 : jSt (dC, dI) B base G0 G0 EX10_scanNameT s.heap 0 0 [(r0, 12, 3, .int qk_58), (names_43, 8, 2, .ref slots_54), (names_43, 8, 1, .ref primes_51), (names_43, 8, 0, .ref stems_48), (r0, 12, 0, .ref names_43)] [(r1, 173, n1, ca 1, f1)] [] H_58 locs_58 := ((hh_44.call hb_581 hb_582 hb_583 hb_584 hS_58 rfl (L1 := [(names_43, 8, 2, .ref slots_54), (names_43, 8, 1, .ref primes_51), (names_43, 8, 0, .ref stems_48), (r0, 12, 0, .ref names_43)]) [0, 1, 2, 3] rfl rfl (M1 := [(r1, 173, n1, ca 1, f1)]) [0] rfl rfl (I1 := []) [] rfl rfl).more hb_585)
              clear hh_44 ht_58 hvm_58 hz_58 hk_58 hS_58 hb_581 hb_582 hb_583 hb_584 hb_585
              refine lv_goto (tgt := 92) hx hb dX10_scanName_67 (by decide) ?_
              refine lv_iload hx hb dX10_scanName_92 (lv_at hl 5 rfl) ?_
              rw [hQ]
              exact W.iret (v := v4_2) hx hb hr (fun t ht hW => ⟨⟨v4_2, qk_58, rfl, by (try dsimp only); refine ⟨by omega, by omega, hw9, ?_⟩; rw [if_pos (by omega)]; omega, hh_58.rt (M1 := [(r0, 12, 3, .int qk_58)]) [0] rfl ht⟩, by rw [ht]; try exact hh_58.1.1, fun q h9 hq => by rw [ht]; try exact hh_58.1.2.1 q h9 hq⟩) hh_58.1.2.2 dX10_scanName_94
        · skip
          have c_33' : r_32.toInt ≥ 0 := jb_lt_n (rfl) ((by decide)) c_33
          obtain ⟨z_60, ez_60⟩ : ∃ y : Int32, y = v4_2 + 1 := ⟨_, rfl⟩
          refine lv_iinc (v := z_60) (lv' := [(4, .int z_60), (0, .ref r0), (1, .ref r1), (2, .int a2), (3, .int a3)]) hx hb dX10_scanName_21 hl (k := 4) rfl (by rw [ez_60]; rfl) (by decide) rfl (fun ls hl => ?_)
          have hz_60 : z_60.toInt = v4_2.toInt + 1 := by rw [ez_60]; exact jb_iadd2 (rfl) (by decide) (by omega)
          refine lv_goto (tgt := 5) hx hb dX10_scanName_24 (by decide) ?_
          exact L5 z_60 _ _ hh_31 (⟨by omega, by omega, (jcW_t (by omega) (by rw [← hqz_30, hr_32_2, if_neg (by omega)]) (by omega)).trans hi_2_2⟩) (by omega) _ (lv_sub hl [1, 2, 3, 4, 0] rfl)
  exact L5 (a3.toInt - (z_1 : Int32).toInt : Int).toNat.succ z_1 _ _ hh (⟨by omega, by omega, jcW_t (by omega) (jcLe.sg hp6) (by omega)⟩) (by omega) _ (lv_sub hl [1, 2, 3, 4, 0] rfl)
set_option maxHeartbeats 4000000 in
set_option maxRecDepth 20000 in
theorem uX11_isLetterT (l : Launch) (dC : Nat → ClassId) (dI : Nat → Nat → Nat) (ca : Nat → ClassId) (base : Nat) (B : jF) (hB : jBok B) (hAp : jAp (dC, dI)) (G0 : jT) (H0 : Heap) (a0 : Int32) : Met l yX11_isLetter (jw yX11_isLetter cX11_isLetter 1 (some .boolean)) ({ frames := 0, cells := 0, slots := 0, locals := 0 }) (va_Pc [.int a0] (fun U => U.heap = H0 ∧ jX B base G0 [] H0 ∧ jG dC dI ca base U ∧ jP (dC, dI) G0 H0 [] ∧ True)) (va_Qi (S := Unit) (fun r u => (r = 0 ∨ r = 1) ∧ (r.toInt = jcLe a0.toInt)) (fun u t => jRt (dC, dI) B base G0 EX11_isLetterT H0 [] t.heap) (jA base)) 0 0 (jA base) := by
  refine Met.ofW (cc := cX11_isLetter) (maxL := 1) (ret := (some .boolean)) (by decide) rfl ?_
  intro p e s m args below meth c s₁ Bd hml hv
  obtain ⟨rfl, hH0, hX, hG, hP0, hp0⟩ := hv
  have hK := hG.1
  have hx := Bd.exec
  have hb := Bd.bytes
  have hr := Bd.returns
  have hts := atoms_spec (ws := (jw yX11_isLetter cX11_isLetter 1 (some .boolean))) Bd.pre
  have htw : ∀ w ∈ jWl, w.before _ s = true := fun w h => hts w (List.mem_cons_of_mem _ h)
  have hown : s.vm.findClass RX11 = some m.cls := findClass_of_methodNamed Bd.named
  have hlocks := Bd.notSynchronized
  obtain ⟨Q, hQ⟩ : ∃ Q, Q = MQ below (va_Qi (S := Unit) (fun r u => (r = 0 ∨ r = 1) ∧ (r.toInt = jcLe a0.toInt)) (fun u t => jRt (dC, dI) B base G0 EX11_isLetterT H0 [] t.heap) (jA base)) ([.int a0] : List Value).toArray s 0 0 (jA base) := ⟨_, rfl⟩
  rw [← hQ]
  have hl := lv_entry ([.int a0]) (n := 1) (Nat.le_of_ble_eq_true rfl)
  rw [lg_entry_eq]
  generalize (lg_sl ([.int a0]) ++ List.replicate (1 - (lg_sl ([.int a0])).length) Slot.unset).toArray = ls at hl ⊢
  have hl : lv_has ls 1 [(0, .int a0)] := hl
  generalize hR : (headSpec (jw yX11_isLetter cX11_isLetter 1 (some .boolean)) ({ frames := 0, cells := 0, slots := 0, locals := 0 })).room = R
  subst hH0
  have hh : jSt (dC, dI) B base G0 G0 EX11_isLetterT s.heap 0 0 [] [] [] s.heap [] := jSt.start hX hP0 jMc.nil jIs.nil
  clear hX hP0
  have hk0 : (0 : Int32).toInt = 0 := by decide
  have hk1 : (1 : Int32).toInt = 1 := by decide
  have hk65 : (65 : Int32).toInt = 65 := by decide
  have hk90 : (90 : Int32).toInt = 90 := by decide
  have hk97 : (97 : Int32).toInt = 97 := by decide
  have hk122 : (122 : Int32).toInt = 122 := by decide
  have hrg_a0 := jb_rng a0
  refine lv_iload_n hx hb dX11_isLetter_0 rfl (lv_at hl 0 rfl) ?_
  refine lv_bipush (v := 97) hx hb dX11_isLetter_1 (by decide) ?_
  refine lv_icmp_lt (tgt := 12) hx hb dX11_isLetter_3 (by decide) (fun c_1 => ?_) (fun c_1 => ?_)
  · skip
    have c_1' : a0.toInt < 97 := jb_lt (rfl) ((by decide)) c_1
    refine lv_iload_n hx hb dX11_isLetter_12 rfl (lv_at hl 0 rfl) ?_
    refine lv_bipush (v := 65) hx hb dX11_isLetter_13 (by decide) ?_
    refine lv_icmp_lt (tgt := 28) hx hb dX11_isLetter_15 (by decide) (fun c_2 => ?_) (fun c_2 => ?_)
    · skip
      have c_2' : a0.toInt < 65 := jb_lt (rfl) ((by decide)) c_2
      refine lv_iconst (v := 0) hx hb dX11_isLetter_28 (by decide) ?_
      rw [hQ]
      exact W.zret (v := 0) hx hb hr (jb_nz (Or.inl rfl)) (fun t ht hW => ⟨⟨0, (), rfl, ⟨(Or.inl rfl), by unfold jcLe; first | (rw [if_pos (by omega)]; exact hk1) | (rw [if_neg (by omega)]; exact hk0)⟩, hh.rt (M1 := []) [] rfl ht⟩, by rw [ht]; try exact hh.1.1, fun q h9 hq => by rw [ht]; try exact hh.1.2.1 q h9 hq⟩) hh.1.2.2 dX11_isLetter_29
    · skip
      have c_2' : a0.toInt ≥ 65 := jb_lt_n (rfl) ((by decide)) c_2
      refine lv_iload_n hx hb dX11_isLetter_18 rfl (lv_at hl 0 rfl) ?_
      refine lv_bipush (v := 90) hx hb dX11_isLetter_19 (by decide) ?_
      refine lv_icmp_gt (tgt := 28) hx hb dX11_isLetter_21 (by decide) (fun c_3 => ?_) (fun c_3 => ?_)
      · skip
        have c_3' : a0.toInt > 90 := jb_gt (rfl) ((by decide)) c_3
        refine lv_iconst (v := 0) hx hb dX11_isLetter_28 (by decide) ?_
        rw [hQ]
        exact W.zret (v := 0) hx hb hr (jb_nz (Or.inl rfl)) (fun t ht hW => ⟨⟨0, (), rfl, ⟨(Or.inl rfl), by unfold jcLe; first | (rw [if_pos (by omega)]; exact hk1) | (rw [if_neg (by omega)]; exact hk0)⟩, hh.rt (M1 := []) [] rfl ht⟩, by rw [ht]; try exact hh.1.1, fun q h9 hq => by rw [ht]; try exact hh.1.2.1 q h9 hq⟩) hh.1.2.2 dX11_isLetter_29
      · skip
        have c_3' : a0.toInt ≤ 90 := jb_gt_n (rfl) ((by decide)) c_3
        refine lv_iconst (v := 1) hx hb dX11_isLetter_24 (by decide) ?_
        refine lv_goto (tgt := 29) hx hb dX11_isLetter_25 (by decide) ?_
        rw [hQ]
        exact W.zret (v := 1) hx hb hr (jb_nz (Or.inr rfl)) (fun t ht hW => ⟨⟨1, (), rfl, ⟨(Or.inr rfl), by unfold jcLe; first | (rw [if_pos (by omega)]; exact hk1) | (rw [if_neg (by omega)]; exact hk0)⟩, hh.rt (M1 := []) [] rfl ht⟩, by rw [ht]; try exact hh.1.1, fun q h9 hq => by rw [ht]; try exact hh.1.2.1 q h9 hq⟩) hh.1.2.2 dX11_isLetter_29
  · skip
    have c_1' : a0.toInt ≥ 97 := jb_lt_n (rfl) ((by decide)) c_1
    refine lv_iload_n hx hb dX11_isLetter_6 rfl (lv_at hl 0 rfl) ?_
    refine lv_bipush (v := 122) hx hb dX11_isLetter_7 (by decide) ?_
    refine lv_icmp_le (tgt := 24) hx hb dX11_isLetter_9 (by decide) (fun c_4 => ?_) (fun c_4 => ?_)
    · skip
      have c_4' : a0.toInt ≤ 122 := jb_le (rfl) ((by decide)) c_4
      refine lv_iconst (v := 1) hx hb dX11_isLetter_24 (by decide) ?_
      refine lv_goto (tgt := 29) hx hb dX11_isLetter_25 (by decide) ?_
      rw [hQ]
      exact W.zret (v := 1) hx hb hr (jb_nz (Or.inr rfl)) (fun t ht hW => ⟨⟨1, (), rfl, ⟨(Or.inr rfl), by unfold jcLe; first | (rw [if_pos (by omega)]; exact hk1) | (rw [if_neg (by omega)]; exact hk0)⟩, hh.rt (M1 := []) [] rfl ht⟩, by rw [ht]; try exact hh.1.1, fun q h9 hq => by rw [ht]; try exact hh.1.2.1 q h9 hq⟩) hh.1.2.2 dX11_isLetter_29
    · skip
      have c_4' : a0.toInt > 122 := jb_le_n (rfl) ((by decide)) c_4
      refine lv_iload_n hx hb dX11_isLetter_12 rfl (lv_at hl 0 rfl) ?_
      refine lv_bipush (v := 65) hx hb dX11_isLetter_13 (by decide) ?_
      refine lv_icmp_lt (tgt := 28) hx hb dX11_isLetter_15 (by decide) (fun c_5 => ?_) (fun c_5 => ?_)
      · skip
        have c_5' : a0.toInt < 65 := jb_lt (rfl) ((by decide)) c_5
        refine lv_iconst (v := 0) hx hb dX11_isLetter_28 (by decide) ?_
        rw [hQ]
        exact W.zret (v := 0) hx hb hr (jb_nz (Or.inl rfl)) (fun t ht hW => ⟨⟨0, (), rfl, ⟨(Or.inl rfl), by unfold jcLe; first | (rw [if_pos (by omega)]; exact hk1) | (rw [if_neg (by omega)]; exact hk0)⟩, hh.rt (M1 := []) [] rfl ht⟩, by rw [ht]; try exact hh.1.1, fun q h9 hq => by rw [ht]; try exact hh.1.2.1 q h9 hq⟩) hh.1.2.2 dX11_isLetter_29
      · skip
        have c_5' : a0.toInt ≥ 65 := jb_lt_n (rfl) ((by decide)) c_5
        refine lv_iload_n hx hb dX11_isLetter_18 rfl (lv_at hl 0 rfl) ?_
        refine lv_bipush (v := 90) hx hb dX11_isLetter_19 (by decide) ?_
        refine lv_icmp_gt (tgt := 28) hx hb dX11_isLetter_21 (by decide) (fun c_6 => ?_) (fun c_6 => ?_)
        · skip
          have c_6' : a0.toInt > 90 := jb_gt (rfl) ((by decide)) c_6
          refine lv_iconst (v := 0) hx hb dX11_isLetter_28 (by decide) ?_
          rw [hQ]
          exact W.zret (v := 0) hx hb hr (jb_nz (Or.inl rfl)) (fun t ht hW => ⟨⟨0, (), rfl, ⟨(Or.inl rfl), by unfold jcLe; first | (rw [if_pos (by omega)]; exact hk1) | (rw [if_neg (by omega)]; exact hk0)⟩, hh.rt (M1 := []) [] rfl ht⟩, by rw [ht]; try exact hh.1.1, fun q h9 hq => by rw [ht]; try exact hh.1.2.1 q h9 hq⟩) hh.1.2.2 dX11_isLetter_29
        · skip
          have c_6' : a0.toInt ≤ 90 := jb_gt_n (rfl) ((by decide)) c_6
          refine lv_iconst (v := 1) hx hb dX11_isLetter_24 (by decide) ?_
          refine lv_goto (tgt := 29) hx hb dX11_isLetter_25 (by decide) ?_
          rw [hQ]
          exact W.zret (v := 1) hx hb hr (jb_nz (Or.inr rfl)) (fun t ht hW => ⟨⟨1, (), rfl, ⟨(Or.inr rfl), by unfold jcLe; first | (rw [if_pos (by omega)]; exact hk1) | (rw [if_neg (by omega)]; exact hk0)⟩, hh.rt (M1 := []) [] rfl ht⟩, by rw [ht]; try exact hh.1.1, fun q h9 hq => by rw [ht]; try exact hh.1.2.1 q h9 hq⟩) hh.1.2.2 dX11_isLetter_29
set_option maxHeartbeats 4000000 in
set_option maxRecDepth 20000 in
theorem uX11_isDigitT (l : Launch) (dC : Nat → ClassId) (dI : Nat → Nat → Nat) (ca : Nat → ClassId) (base : Nat) (B : jF) (hB : jBok B) (hAp : jAp (dC, dI)) (G0 : jT) (H0 : Heap) (a0 : Int32) : Met l yX11_isDigit (jw yX11_isDigit cX11_isDigit 1 (some .boolean)) ({ frames := 0, cells := 0, slots := 0, locals := 0 }) (va_Pc [.int a0] (fun U => U.heap = H0 ∧ jX B base G0 [] H0 ∧ jG dC dI ca base U ∧ jP (dC, dI) G0 H0 [] ∧ True)) (va_Qi (S := Unit) (fun r u => (r = 0 ∨ r = 1) ∧ (r.toInt = jIn a0.toInt 48 57)) (fun u t => jRt (dC, dI) B base G0 EX11_isDigitT H0 [] t.heap) (jA base)) 0 0 (jA base) := by
  refine Met.ofW (cc := cX11_isDigit) (maxL := 1) (ret := (some .boolean)) (by decide) rfl ?_
  intro p e s m args below meth c s₁ Bd hml hv
  obtain ⟨rfl, hH0, hX, hG, hP0, hp0⟩ := hv
  have hK := hG.1
  have hx := Bd.exec
  have hb := Bd.bytes
  have hr := Bd.returns
  have hts := atoms_spec (ws := (jw yX11_isDigit cX11_isDigit 1 (some .boolean))) Bd.pre
  have htw : ∀ w ∈ jWl, w.before _ s = true := fun w h => hts w (List.mem_cons_of_mem _ h)
  have hown : s.vm.findClass RX11 = some m.cls := findClass_of_methodNamed Bd.named
  have hlocks := Bd.notSynchronized
  obtain ⟨Q, hQ⟩ : ∃ Q, Q = MQ below (va_Qi (S := Unit) (fun r u => (r = 0 ∨ r = 1) ∧ (r.toInt = jIn a0.toInt 48 57)) (fun u t => jRt (dC, dI) B base G0 EX11_isDigitT H0 [] t.heap) (jA base)) ([.int a0] : List Value).toArray s 0 0 (jA base) := ⟨_, rfl⟩
  rw [← hQ]
  have hl := lv_entry ([.int a0]) (n := 1) (Nat.le_of_ble_eq_true rfl)
  rw [lg_entry_eq]
  generalize (lg_sl ([.int a0]) ++ List.replicate (1 - (lg_sl ([.int a0])).length) Slot.unset).toArray = ls at hl ⊢
  have hl : lv_has ls 1 [(0, .int a0)] := hl
  generalize hR : (headSpec (jw yX11_isDigit cX11_isDigit 1 (some .boolean)) ({ frames := 0, cells := 0, slots := 0, locals := 0 })).room = R
  subst hH0
  have hh : jSt (dC, dI) B base G0 G0 EX11_isDigitT s.heap 0 0 [] [] [] s.heap [] := jSt.start hX hP0 jMc.nil jIs.nil
  clear hX hP0
  have hk0 : (0 : Int32).toInt = 0 := by decide
  have hk1 : (1 : Int32).toInt = 1 := by decide
  have hk48 : (48 : Int32).toInt = 48 := by decide
  have hk57 : (57 : Int32).toInt = 57 := by decide
  have hrg_a0 := jb_rng a0
  refine lv_iload_n hx hb dX11_isDigit_0 rfl (lv_at hl 0 rfl) ?_
  refine lv_bipush (v := 48) hx hb dX11_isDigit_1 (by decide) ?_
  refine lv_icmp_lt (tgt := 16) hx hb dX11_isDigit_3 (by decide) (fun c_1 => ?_) (fun c_1 => ?_)
  · skip
    have c_1' : a0.toInt < 48 := jb_lt (rfl) ((by decide)) c_1
    refine lv_iconst (v := 0) hx hb dX11_isDigit_16 (by decide) ?_
    rw [hQ]
    exact W.zret (v := 0) hx hb hr (jb_nz (Or.inl rfl)) (fun t ht hW => ⟨⟨0, (), rfl, ⟨(Or.inl rfl), by unfold jIn; first | (rw [if_pos (by omega)]; exact hk1) | (rw [if_neg (by omega)]; exact hk0)⟩, hh.rt (M1 := []) [] rfl ht⟩, by rw [ht]; try exact hh.1.1, fun q h9 hq => by rw [ht]; try exact hh.1.2.1 q h9 hq⟩) hh.1.2.2 dX11_isDigit_17
  · skip
    have c_1' : a0.toInt ≥ 48 := jb_lt_n (rfl) ((by decide)) c_1
    refine lv_iload_n hx hb dX11_isDigit_6 rfl (lv_at hl 0 rfl) ?_
    refine lv_bipush (v := 57) hx hb dX11_isDigit_7 (by decide) ?_
    refine lv_icmp_gt (tgt := 16) hx hb dX11_isDigit_9 (by decide) (fun c_2 => ?_) (fun c_2 => ?_)
    · skip
      have c_2' : a0.toInt > 57 := jb_gt (rfl) ((by decide)) c_2
      refine lv_iconst (v := 0) hx hb dX11_isDigit_16 (by decide) ?_
      rw [hQ]
      exact W.zret (v := 0) hx hb hr (jb_nz (Or.inl rfl)) (fun t ht hW => ⟨⟨0, (), rfl, ⟨(Or.inl rfl), by unfold jIn; first | (rw [if_pos (by omega)]; exact hk1) | (rw [if_neg (by omega)]; exact hk0)⟩, hh.rt (M1 := []) [] rfl ht⟩, by rw [ht]; try exact hh.1.1, fun q h9 hq => by rw [ht]; try exact hh.1.2.1 q h9 hq⟩) hh.1.2.2 dX11_isDigit_17
    · skip
      have c_2' : a0.toInt ≤ 57 := jb_gt_n (rfl) ((by decide)) c_2
      refine lv_iconst (v := 1) hx hb dX11_isDigit_12 (by decide) ?_
      refine lv_goto (tgt := 17) hx hb dX11_isDigit_13 (by decide) ?_
      rw [hQ]
      exact W.zret (v := 1) hx hb hr (jb_nz (Or.inr rfl)) (fun t ht hW => ⟨⟨1, (), rfl, ⟨(Or.inr rfl), by unfold jIn; first | (rw [if_pos (by omega)]; exact hk1) | (rw [if_neg (by omega)]; exact hk0)⟩, hh.rt (M1 := []) [] rfl ht⟩, by rw [ht]; try exact hh.1.1, fun q h9 hq => by rw [ht]; try exact hh.1.2.1 q h9 hq⟩) hh.1.2.2 dX11_isDigit_17
set_option maxHeartbeats 4000000 in
set_option maxRecDepth 20000 in
theorem uX10_scanT (l : Launch) (dC : Nat → ClassId) (dI : Nat → Nat → Nat) (ca : Nat → ClassId) (base : Nat) (B : jF) (hB : jBok B) (hAp : jAp (dC, dI)) (hB8 : ∀ n G a H, B 8 n G a H ↔ jOb (dC, dI) 8 4 (F8 n G) a H) (hB12 : ∀ n G a H, B 12 n G a H ↔ jOb (dC, dI) 12 11 (F12b n G) a H) (hB101 : ∀ n G a H, B 101 n G a H ↔ jAr (dC, dI) (ca 1) (fun j z => True) n a H) (hB102 : ∀ n G a H, B 102 n G a H ↔ jAl (dC, dI) (ca 2) n a H) (hB132 : ∀ n G a H, B 132 n G a H ↔ jAr (dC, dI) (ca 1) (fun j z => 0 ≤ z.toInt ∧ z.toInt ≤ 10) n a H) (hB133 : ∀ n G a H, B 133 n G a H ↔ jAr (dC, dI) (ca 1) (fun j z => 0 ≤ z.toInt ∧ z.toInt ≤ 8192) n a H) (hB173 : ∀ n G a H, B 173 n G a H ↔ jAr (dC, dI) (ca 1) (fun j z => True) n a H) (hB293 : ∀ n G a H, B 293 n G a H ↔ jAr (dC, dI) (ca 1) (fun j z => -1 ≤ z.toInt ∧ z.toInt ≤ 8191) n a H) (G0 : jT) (H0 : Heap) (r0 : Nat) (r1 : Nat) (a2 : Int32) (a3 : Int32) (n1 : Nat) (nn : Int) (f1 : Nat → Int32) : Met l yX10_scan (jw yX10_scan cX10_scan 8 (some .int)) ({ frames := 5, cells := 0, slots := 0, locals := 181 }) (va_Pc [.ref r0, .ref r1, .int a2, .int a3] (fun U => U.heap = H0 ∧ jX B base G0 [] H0 ∧ jG dC dI ca base U ∧ G0 r0 = some (12, 0) ∧ G0 r1 = some (173, n1) ∧ jP (dC, dI) G0 H0 [] ∧ jMc (dC, dI) G0 H0 [(r1, 173, n1, ca 1, f1)] ∧ 0 ≤ a2.toInt ∧ a2.toInt ≤ a3.toInt ∧ a3.toInt ≤ n1 ∧ n1 ≤ 1500 ∧ a3.toInt ≤ nn ∧ nn ≤ 1500 ∧ jcV f1 nn a3.toInt a2.toInt)) (va_Qi (S := Unit) (fun r u => (r.toInt = jcK f1 nn a3.toInt ((a3.toInt - a2.toInt).toNat + 1) a2.toInt ∧ 0 ≤ r.toInt ∧ r.toInt ≤ a3.toInt - a2.toInt)) (fun u t => jRt (dC, dI) B base G0 EX10_scanT H0 [] t.heap) (jA base)) 0 0 (jA base) := by
  refine Met.ofW (cc := cX10_scan) (maxL := 8) (ret := (some .int)) (by decide) rfl ?_
  intro p e s m args below meth c s₁ Bd hml hv
  obtain ⟨rfl, hH0, hX, hG, hg_r0, hg_r1, hP0, hM0, hp0, hp1, hp2, hp3, hp4, hp5, hp6⟩ := hv
  have hK := hG.1
  have hx := Bd.exec
  have hb := Bd.bytes
  have hr := Bd.returns
  have hts := atoms_spec (ws := (jw yX10_scan cX10_scan 8 (some .int))) Bd.pre
  have htw : ∀ w ∈ jWl, w.before _ s = true := fun w h => hts w (List.mem_cons_of_mem _ h)
  have hown : s.vm.findClass RX10 = some m.cls := findClass_of_methodNamed Bd.named
  have hlocks := Bd.notSynchronized
  obtain ⟨Q, hQ⟩ : ∃ Q, Q = MQ below (va_Qi (S := Unit) (fun r u => (r.toInt = jcK f1 nn a3.toInt ((a3.toInt - a2.toInt).toNat + 1) a2.toInt ∧ 0 ≤ r.toInt ∧ r.toInt ≤ a3.toInt - a2.toInt)) (fun u t => jRt (dC, dI) B base G0 EX10_scanT H0 [] t.heap) (jA base)) ([.ref r0, .ref r1, .int a2, .int a3] : List Value).toArray s 0 0 (jA base) := ⟨_, rfl⟩
  rw [← hQ]
  have hl := lv_entry ([.ref r0, .ref r1, .int a2, .int a3]) (n := 8) (Nat.le_of_ble_eq_true rfl)
  rw [lg_entry_eq]
  generalize (lg_sl ([.ref r0, .ref r1, .int a2, .int a3]) ++ List.replicate (8 - (lg_sl ([.ref r0, .ref r1, .int a2, .int a3])).length) Slot.unset).toArray = ls at hl ⊢
  have hl : lv_has ls 8 [(0, .ref r0), (1, .ref r1), (2, .int a2), (3, .int a3)] := hl
  generalize hR : (headSpec (jw yX10_scan cX10_scan 8 (some .int)) ({ frames := 5, cells := 0, slots := 0, locals := 181 })).room = R
  subst hH0
  have hh : jSt (dC, dI) B base G0 G0 EX10_scanT s.heap 0 0 [] [(r1, 173, n1, ca 1, f1)] [] s.heap [] := jSt.start hX hP0 hM0 jIs.nil
  clear hX hP0
  have hk0 : (0 : Int32).toInt = 0 := by decide
  have hk1 : (1 : Int32).toInt = 1 := by decide
  have hk2 : (2 : Int32).toInt = 2 := by decide
  have hk45 : (45 : Int32).toInt = 45 := by decide
  have hk46 : (46 : Int32).toInt = 46 := by decide
  have hk48 : (48 : Int32).toInt = 48 := by decide
  have hk62 : (62 : Int32).toInt = 62 := by decide
  have hk100 : (100 : Int32).toInt = 100 := by decide
  have hk128 : (128 : Int32).toInt = 128 := by decide
  have hly_12_3 := htw (u_lay RX10 TX10 3) (jWc_wsX100 _ (u_in_lay (by decide)))
  have hlk_28 := (htw (.fieldLink RX10 28 "ProofServer$Syntax" "tokens" "I") (jWr_36 _ (List.mem_of_getElem? (i := 23) rfl)))
  obtain ⟨str66, rstr66, hstr660⟩ := hG.str (o := RX10) (k := 66) (tx := "*+~=:,()") (List.mem_of_getElem? (i := 1152) (by decide +kernel))
  have hstr66 : jStr base str66 8 s s.heap := hstr660
  have hrg_a2 := jb_rng a2
  have hrg_a3 := jb_rng a3
  refine lv_aload_n hx hb dX10_scan_0 rfl (lv_at hl 0 rfl) ?_
  refine lv_iconst (v := 0) hx hb dX10_scan_1 (by decide) ?_
  refine j7_put hx hb hown hK hh hB hAp hB12 (C := RX10) (T := TX10) (N := 11) rfl (by decide) hg_r0 (i := 3) (by decide) hly_12_3 rfl hlk_28 rfl (ty := .int) (v := .int 0) (by decide +kernel) rfl rfl (⟨_, rfl, by omega, by omega⟩) rfl (L1 := []) [] rfl rfl rfl dX10_scan_2 (fun H_1 locs_1 hh_1 => ?_)
  clear hh
  refine lv_iload_n hx hb dX10_scan_5 rfl (lv_at hl 3 rfl) ?_
  refine lv_aload_n hx hb dX10_scan_6 rfl (lv_at hl 1 rfl) ?_
  refine j7_len hx hb hK hh_1 hB173 1 rfl (by decide) hg_r1 (by omega) dX10_scan_7 (fun z_2 hz_2 => ?_)
  refine va_mmin hx hb (by rw [hml]; exact hl.1.symm) hown (htw (.methodLink RX10 32 Lib.Math.min.name) (jWr_37 _ (List.mem_of_getElem? (i := 0) rfl))) (htw (.static Lib.Math.min.name) (jWr_16 _ (List.mem_of_getElem? (i := 16) rfl))) (htw (.initialized "java/lang/Math") (jWr_3 _ (List.mem_of_getElem? (i := 7) rfl))) (htw (.code Lib.Math.min.name Lib.Math.min.code 2 (some .int)) (jWr_16 _ (List.mem_of_getElem? (i := 17) rfl))) (by rw [← hR]; exact Nat.le_of_ble_eq_true rfl) (by rw [← hR]; exact Nat.le_of_ble_eq_true rfl) (Nat.zero_le _) (Nat.zero_le _) dX10_scan_8 ?_
  refine lv_topi (fun z_3 ez_3 => ?_)
  have hz_3 := jb_min ez_3
  refine lv_istore (lv' := [(4, .int z_3), (0, .ref r0), (1, .ref r1), (2, .int a2), (3, .int a3)]) hx hb dX10_scan_11 hl (by decide) rfl (fun ls hl => ?_)
  refine lv_iload_n hx hb dX10_scan_13 rfl (lv_at hl 3 rfl) ?_
  refine lv_iconst (v := 0) hx hb dX10_scan_14 (by decide) ?_
  refine va_mmax hx hb (by rw [hml]; exact hl.1.symm) hown (htw (.methodLink RX10 38 Lib.Math.max.name) (jWr_37 _ (List.mem_of_getElem? (i := 1) rfl))) (htw (.static Lib.Math.max.name) (jWr_3 _ (List.mem_of_getElem? (i := 6) rfl))) (htw (.initialized "java/lang/Math") (jWr_3 _ (List.mem_of_getElem? (i := 7) rfl))) (htw (.code Lib.Math.max.name Lib.Math.max.code 2 (some .int)) (jWr_3 _ (List.mem_of_getElem? (i := 8) rfl))) (by rw [← hR]; exact Nat.le_of_ble_eq_true rfl) (by rw [← hR]; exact Nat.le_of_ble_eq_true rfl) (Nat.zero_le _) (Nat.zero_le _) dX10_scan_15 ?_
  refine lv_topi (fun z_4 ez_4 => ?_)
  have hz_4 := jb_max ez_4
  have hm9 : (z_4).toInt = a2.toInt := by omega
  refine lv_istore (lv' := [(5, .int z_4), (4, .int z_3), (0, .ref r0), (1, .ref r1), (2, .int a2), (3, .int a3)]) hx hb dX10_scan_18 hl (by decide) rfl (fun ls hl => ?_)
  have L20 : ∀ (N : Nat) (v5_5 : Int32) (wk_5 : Int32) (kf : Nat) (H_5 : Heap) (locs_5 : List Loc), jSt (dC, dI) B base G0 G0 EX10_scanT s.heap 0 0 [(r0, 12, 3, .int wk_5)] [(r1, 173, n1, ca 1, f1)] [] H_5 locs_5 → (a2.toInt ≤ v5_5.toInt ∧ v5_5.toInt ≤ a3.toInt ∧ 0 ≤ wk_5.toInt ∧ wk_5.toInt ≤ v5_5.toInt - a2.toInt ∧ a3.toInt - v5_5.toInt < kf ∧ wk_5.toInt + jcK f1 nn a3.toInt kf v5_5.toInt = jcK f1 nn a3.toInt ((a3.toInt - a2.toInt).toNat + 1) a2.toInt ∧ jcV f1 nn a3.toInt v5_5.toInt) → (a3.toInt - v5_5.toInt : Int) < N → ∀ ls : Array Slot, lv_has ls 8 [(0, .ref r0), (1, .ref r1), (2, .int a2), (3, .int a3), (4, .int z_3), (5, .int v5_5)] → W p l e R s m ([.ref r0, .ref r1, .int a2, .int a3] : List Value).toArray below meth c H_5 locs_5 0 0 Q (F0 m 20 ls []) := by
    intro N
    induction N with
    | zero => intro v5_5 wk_5 kf H_5 locs_5 hh_5  hi_5 hm; exact absurd hm (by omega)
    | succ N L20 =>
      intro v5_5 wk_5 kf H_5 locs_5 hh_5  hi_5 hm_5 ls hl
      obtain ⟨hi_5_0, hi_5_1, hi_5_2, hi_5_3, hi_5_4, hi_5_5, hi_5_6⟩ := hi_5
      refine lv_iload hx hb dX10_scan_20 (lv_at hl 5 rfl) ?_
      refine lv_iload hx hb dX10_scan_22 (lv_at hl 4 rfl) ?_
      refine lv_icmp_ge (tgt := 240) hx hb dX10_scan_24 (by decide) (fun c_6 => ?_) (fun c_6 => ?_)
      · skip
        have c_6' : v5_5.toInt ≥ z_3.toInt := jb_ge (rfl) (rfl) c_6
        refine lv_aload_n hx hb dX10_scan_240 rfl (lv_at hl 0 rfl) ?_
        refine j7_read hx hb hown hK (C := RX10) (T := TX10) (N := 11) rfl hly_12_3 hlk_28 (hh_5.at 0 rfl) dX10_scan_241 ?_
        rw [hQ]
        exact W.iret (v := wk_5) hx hb hr (fun t ht hW => ⟨⟨wk_5, (), rfl, by have h8 := jcK_e (f := f1) (n := nn) (e := a3.toInt) (i := v5_5.toInt) (k := kf) (by omega); have h9 := hi_5_5; exact ⟨by omega, by omega, by omega⟩, hh_5.rt (M1 := []) [] rfl ht⟩, by rw [ht]; try exact hh_5.1.1, fun q h9 hq => by rw [ht]; try exact hh_5.1.2.1 q h9 hq⟩) hh_5.1.2.2 dX10_scan_244
      · skip
        have c_6' : v5_5.toInt < z_3.toInt := jb_ge_n (rfl) (rfl) c_6
        refine lv_iload hx hb dX10_scan_27 (lv_at hl 5 rfl) ?_
        refine lv_iconst (v := 1) hx hb dX10_scan_29 (by decide) ?_
        refine lv_iadd hx hb dX10_scan_30 ?_
        refine lv_topi (fun z_7 ez_7 => ?_)
        have hz_7 : z_7.toInt = v5_5.toInt + 1 := by rw [ez_7]; exact jb_iadd2 (rfl) ((by decide)) (by omega)
        refine lv_istore (lv' := [(6, .int z_7), (0, .ref r0), (1, .ref r1), (2, .int a2), (3, .int a3), (4, .int z_3), (5, .int v5_5)]) hx hb dX10_scan_31 hl (by decide) rfl (fun ls hl => ?_)
        refine lv_aload_n hx hb dX10_scan_33 rfl (lv_at hl 2 rfl) ?_
        refine lv_iload hx hb dX10_scan_34 (lv_at hl 6 rfl) ?_
        refine lv_iload hx hb dX10_scan_36 (lv_at hl 5 rfl) ?_
        refine va_calli (A0 := jA base) (H0 := s.heap) (va_runSN (As := [.ref r1, .int v5_5, .int z_3]) (rest := []) ⟨hx, hb, hml, hown, hts⟩ (uX11_opensCommentPt9 l dC dI ca base B hB hAp hB173 G0 H_5 r1 v5_5 z_3 n1 f1) ⟨va_cnB 3 hts (jgW (jWr_36 _ (List.mem_of_getElem? (i := 14) rfl))) rfl rfl rfl (hG.2.2.1 RX10 41 yX11_opensComment "ProofServer" (List.mem_of_getElem? (i := 1137) (by decide +kernel))) (htw (.initialized RX11) (jWr_1 _ (List.mem_of_getElem? (i := 2) rfl))) (by decide +kernel) ⟨by rw [← hR]; exact Nat.le_of_ble_eq_true rfl, by rw [← hR]; exact Nat.le_of_ble_eq_true rfl⟩, htw (.static yX11_opensComment) (jWr_36 _ (List.mem_of_getElem? (i := 13) rfl)), trivial⟩ ⟨fun a U g mk q => by obtain ⟨q0, q1, q2, qK, q10, q11, q12, q13⟩ := q; exact ⟨q0, q1, q2, jG.calling g mk a qK, q10, q11, q12, q13⟩, fun U hU hW => ⟨rfl, hU, hh_5.2.1, hG.step hW hU hh_5.1, hg_r1, jP.nil, (hh_5.2.2.2.2.2.2.2.1.sub (L1 := [(r1, 173, n1, ca 1, f1)]) [0] rfl), by first | omega | (refine ⟨?_, ?_, ?_, ?_⟩ <;> (first | omega | rfl | assumption | decide | exact Or.inl rfl | exact Or.inr rfl | (simp only; omega)))⟩⟩ rfl rfl hl.1 rfl (lv_room (Nat.le_of_ble_eq_true rfl)) dX10_scan_38 ⟨Nat.zero_le _, Nat.zero_le _⟩) hh_5.1 (fun q _ h => h) (fun q h => h) (fun r_9 u_8 t_8 H_8 locs_8 ht_8 hvm_8 hr_9 hb_8 hz_8 hk_8 hS_8 => ?_)
        rw [ht_8] at hb_8
        obtain ⟨hb_81, hb_82, hb_83, hb_84, hb_85⟩ := hb_8
        have hh_8 : jSt (dC, dI) B base G0 G0 EX10_scanT s.heap 0 0 [(r0, 12, 3, .int wk_5)] [(r1, 173, n1, ca 1, f1)] [] H_8 locs_8 := ((hh_5.call hb_81 hb_82 hb_83 hb_84 hS_8 rfl (L1 := [(r0, 12, 3, .int wk_5)]) [0] rfl rfl (M1 := [(r1, 173, n1, ca 1, f1)]) [0] rfl rfl (I1 := []) [] rfl rfl).more hb_85)
        clear hh_5 ht_8 hvm_8 hz_8 hk_8 hS_8 hb_81 hb_82 hb_83 hb_84 hb_85
        obtain ⟨hr_9b, hr_9p⟩ := hr_9
        obtain ⟨hr_9p_0, hr_9p_1⟩ := hr_9p
        have hr_9' := jb_01 hr_9b
        refine lv_if_eq (tgt := 57) hx hb dX10_scan_41 (by decide) (fun c_10 => ?_) (fun c_10 => ?_)
        · skip
          have c_10' : r_9.toInt = 0 := jb_eq (rfl) ((by decide)) c_10
          first | (have hr_9p_1q := hr_9p_1.resolve_left (by omega); clear hr_9p_1) | (have hr_9p_1q := hr_9p_1.resolve_right (by omega); clear hr_9p_1) | try clear hr_9p_1
          have hn9 : jOpI f1 v5_5.toInt nn ≠ 1 := by rw [← jcV.oe hi_5_6 (by omega) (by omega) (by omega), ← show (z_3).toInt = a3.toInt by omega, ← hr_9p_0]; omega
          refine lv_aload_n hx hb dX10_scan_57 rfl (lv_at hl 2 rfl) ?_
          refine lv_iload hx hb dX10_scan_58 (lv_at hl 6 rfl) ?_
          refine j7_ialdM hx hb hK hh_8 hB173 1 rfl (by decide) hg_r1 (x := v5_5.toInt) (rfl) (by omega) (j := 0) rfl dX10_scan_60 (fun z_11 ez_11 (hz_11 : True) => ?_)
          have hqz_11 : z_11.toInt = jSo f1 (v5_5.toInt) := by unfold jSo; rw [ez_11]
          refine va_calli (A0 := jA base) (H0 := s.heap) (va_runSN (As := [.int z_11]) (rest := []) ⟨hx, hb, hml, hown, hts⟩ (uX11_isLetterT l dC dI ca base B hB hAp G0 H_8 z_11) ⟨va_cnB 1 hts (jgW (jWr_7 _ (List.mem_of_getElem? (i := 18) rfl))) rfl rfl rfl (hG.2.2.1 RX10 49 yX11_isLetter "ProofServer" (List.mem_of_getElem? (i := 1139) (by decide +kernel))) (htw (.initialized RX11) (jWr_1 _ (List.mem_of_getElem? (i := 2) rfl))) (by decide +kernel) ⟨by rw [← hR]; exact Nat.le_of_ble_eq_true rfl, by rw [← hR]; exact Nat.le_of_ble_eq_true rfl⟩, htw (.static yX11_isLetter) (jWr_7 _ (List.mem_of_getElem? (i := 17) rfl)), trivial⟩ ⟨fun a U g mk q => by obtain ⟨q0, q1, q2, qK, q10, q11⟩ := q; exact ⟨q0, q1, q2, jG.calling g mk a qK, q10, q11⟩, fun U hU hW => ⟨rfl, hU, hh_8.2.1, hG.step hW hU hh_8.1, jP.nil, trivial⟩⟩ rfl rfl hl.1 rfl (lv_room (Nat.le_of_ble_eq_true rfl)) dX10_scan_61 ⟨Nat.zero_le _, Nat.zero_le _⟩) hh_8.1 (fun q _ h => h) (fun q h => h) (fun r_13 u_12 t_12 H_12 locs_12 ht_12 hvm_12 hr_13 hb_12 hz_12 hk_12 hS_12 => ?_)
          rw [ht_12] at hb_12
          obtain ⟨hb_121, hb_122, hb_123, hb_124, hb_125⟩ := hb_12
          have hh_12 : jSt (dC, dI) B base G0 G0 EX10_scanT s.heap 0 0 [(r0, 12, 3, .int wk_5)] [(r1, 173, n1, ca 1, f1)] [] H_12 locs_12 := ((hh_8.call hb_121 hb_122 hb_123 hb_124 hS_12 rfl (L1 := [(r0, 12, 3, .int wk_5)]) [0] rfl rfl (M1 := [(r1, 173, n1, ca 1, f1)]) [0] rfl rfl (I1 := []) [] rfl rfl).more hb_125)
          clear hh_8 ht_12 hvm_12 hz_12 hk_12 hS_12 hb_121 hb_122 hb_123 hb_124 hb_125
          obtain ⟨hr_13b, hr_13p⟩ := hr_13
          have hr_13' := jb_01 hr_13b
          refine lv_if_eq (tgt := 81) hx hb dX10_scan_64 (by decide) (fun c_14 => ?_) (fun c_14 => ?_)
          · skip
            have c_14' : r_13.toInt = 0 := jb_eq (rfl) ((by decide)) c_14
            have hl9 : jcLe (jSo f1 v5_5.toInt) ≠ 1 := by rw [← hqz_11, ← hr_13p]; omega
            refine lv_aload_n hx hb dX10_scan_81 rfl (lv_at hl 2 rfl) ?_
            refine lv_iload hx hb dX10_scan_82 (lv_at hl 6 rfl) ?_
            refine j7_ialdM hx hb hK hh_12 hB173 1 rfl (by decide) hg_r1 (x := v5_5.toInt) (rfl) (by omega) (j := 0) rfl dX10_scan_84 (fun z_15 ez_15 (hz_15 : True) => ?_)
            have hqz_15 : z_15.toInt = jSo f1 (v5_5.toInt) := by unfold jSo; rw [ez_15]
            refine lv_bipush (v := 45) hx hb dX10_scan_85 (by decide) ?_
            refine lv_icmp_ne (tgt := 126) hx hb dX10_scan_87 (by decide) (fun c_16 => ?_) (fun c_16 => ?_)
            · skip
              have c_16' : z_15.toInt ≠ 45 := jb_ne (rfl) ((by decide)) c_16
              refine lv_aload_n hx hb dX10_scan_126 rfl (lv_at hl 2 rfl) ?_
              refine lv_iload hx hb dX10_scan_127 (lv_at hl 6 rfl) ?_
              refine j7_ialdM hx hb hK hh_12 hB173 1 rfl (by decide) hg_r1 (x := v5_5.toInt) (rfl) (by omega) (j := 0) rfl dX10_scan_129 (fun z_17 ez_17 (hz_17 : True) => ?_)
              have hqz_17 : z_17.toInt = jSo f1 (v5_5.toInt) := by unfold jSo; rw [ez_17]
              refine va_calli (A0 := jA base) (H0 := s.heap) (va_runSN (As := [.int z_17]) (rest := []) ⟨hx, hb, hml, hown, hts⟩ (uX11_isDigitT l dC dI ca base B hB hAp G0 H_12 z_17) ⟨va_cnB 1 hts (jgW (jWr_22 _ (List.mem_of_getElem? (i := 15) rfl))) rfl rfl rfl (hG.2.2.1 RX10 60 yX11_isDigit "ProofServer" (List.mem_of_getElem? (i := 1150) (by decide +kernel))) (htw (.initialized RX11) (jWr_1 _ (List.mem_of_getElem? (i := 2) rfl))) (by decide +kernel) ⟨by rw [← hR]; exact Nat.le_of_ble_eq_true rfl, by rw [← hR]; exact Nat.le_of_ble_eq_true rfl⟩, htw (.static yX11_isDigit) (jWr_22 _ (List.mem_of_getElem? (i := 14) rfl)), trivial⟩ ⟨fun a U g mk q => by obtain ⟨q0, q1, q2, qK, q10, q11⟩ := q; exact ⟨q0, q1, q2, jG.calling g mk a qK, q10, q11⟩, fun U hU hW => ⟨rfl, hU, hh_12.2.1, hG.step hW hU hh_12.1, jP.nil, trivial⟩⟩ rfl rfl hl.1 rfl (lv_room (Nat.le_of_ble_eq_true rfl)) dX10_scan_130 ⟨Nat.zero_le _, Nat.zero_le _⟩) hh_12.1 (fun q _ h => h) (fun q h => h) (fun r_19 u_18 t_18 H_18 locs_18 ht_18 hvm_18 hr_19 hb_18 hz_18 hk_18 hS_18 => ?_)
              rw [ht_18] at hb_18
              obtain ⟨hb_181, hb_182, hb_183, hb_184, hb_185⟩ := hb_18
              have hh_18 : jSt (dC, dI) B base G0 G0 EX10_scanT s.heap 0 0 [(r0, 12, 3, .int wk_5)] [(r1, 173, n1, ca 1, f1)] [] H_18 locs_18 := ((hh_12.call hb_181 hb_182 hb_183 hb_184 hS_18 rfl (L1 := [(r0, 12, 3, .int wk_5)]) [0] rfl rfl (M1 := [(r1, 173, n1, ca 1, f1)]) [0] rfl rfl (I1 := []) [] rfl rfl).more hb_185)
              clear hh_12 ht_18 hvm_18 hz_18 hk_18 hS_18 hb_181 hb_182 hb_183 hb_184 hb_185
              obtain ⟨hr_19b, hr_19p⟩ := hr_19
              have hr_19' := jb_01 hr_19b
              refine lv_if_eq (tgt := 152) hx hb dX10_scan_133 (by decide) (fun c_20 => ?_) (fun c_20 => ?_)
              · skip
                have c_20' : r_19.toInt = 0 := jb_eq (rfl) ((by decide)) c_20
                refine lv_aload_n hx hb dX10_scan_152 rfl (lv_at hl 2 rfl) ?_
                refine lv_iload hx hb dX10_scan_153 (lv_at hl 6 rfl) ?_
                refine j7_ialdM hx hb hK hh_18 hB173 1 rfl (by decide) hg_r1 (x := v5_5.toInt) (rfl) (by omega) (j := 0) rfl dX10_scan_155 (fun z_21 ez_21 (hz_21 : True) => ?_)
                have hqz_21 : z_21.toInt = jSo f1 (v5_5.toInt) := by unfold jSo; rw [ez_21]
                refine va_calli (A0 := jA base) (H0 := s.heap) (va_runSN (As := [.int z_21]) (rest := []) ⟨hx, hb, hml, hown, hts⟩ (uX11_isBlankP l dC dI ca base B hB hAp G0 H_18 z_21) ⟨va_cnB 1 hts (jgW (jWr_20 _ (List.mem_of_getElem? (i := 0) rfl))) rfl rfl rfl (hG.2.2.1 RX10 63 yX11_isBlank "ProofServer" (List.mem_of_getElem? (i := 1151) (by decide +kernel))) (htw (.initialized RX11) (jWr_1 _ (List.mem_of_getElem? (i := 2) rfl))) (by decide +kernel) ⟨by rw [← hR]; exact Nat.le_of_ble_eq_true rfl, by rw [← hR]; exact Nat.le_of_ble_eq_true rfl⟩, htw (.static yX11_isBlank) (jWr_19 _ (List.mem_of_getElem? (i := 23) rfl)), trivial⟩ ⟨fun a U g mk q => by obtain ⟨q0, q1, q2, qK, q10, q11⟩ := q; exact ⟨q0, q1, q2, jG.calling g mk a qK, q10, q11⟩, fun U hU hW => ⟨rfl, hU, hh_18.2.1, hG.step hW hU hh_18.1, jP.nil, trivial⟩⟩ rfl rfl hl.1 rfl (lv_room (Nat.le_of_ble_eq_true rfl)) dX10_scan_156 ⟨Nat.zero_le _, Nat.zero_le _⟩) hh_18.1 (fun q _ h => h) (fun q h => h) (fun r_23 u_22 t_22 H_22 locs_22 ht_22 hvm_22 hr_23 hb_22 hz_22 hk_22 hS_22 => ?_)
                rw [ht_22] at hb_22
                obtain ⟨hb_221, hb_222, hb_223, hb_224, hb_225⟩ := hb_22
                have hh_22 : jSt (dC, dI) B base G0 G0 EX10_scanT s.heap 0 0 [(r0, 12, 3, .int wk_5)] [(r1, 173, n1, ca 1, f1)] [] H_22 locs_22 := ((hh_18.call hb_221 hb_222 hb_223 hb_224 hS_22 rfl (L1 := [(r0, 12, 3, .int wk_5)]) [0] rfl rfl (M1 := [(r1, 173, n1, ca 1, f1)]) [0] rfl rfl (I1 := []) [] rfl rfl).more hb_225)
                clear hh_18 ht_22 hvm_22 hz_22 hk_22 hS_22 hb_221 hb_222 hb_223 hb_224 hb_225
                obtain ⟨hr_23b, hr_23p⟩ := hr_23
                have hr_23' := jb_01 hr_23b
                refine lv_if_ne (tgt := 226) hx hb dX10_scan_159 (by decide) (fun c_24 => ?_) (fun c_24 => ?_)
                · skip
                  have c_24' : r_23.toInt ≠ 0 := jb_ne (rfl) ((by decide)) c_24
                  refine lv_iload hx hb dX10_scan_226 (lv_at hl 6 rfl) ?_
                  refine lv_iconst (v := 1) hx hb dX10_scan_228 (by decide) ?_
                  refine lv_iadd hx hb dX10_scan_229 ?_
                  refine lv_topi (fun z_25 ez_25 => ?_)
                  have hz_25 : z_25.toInt = v5_5.toInt + 1 := by rw [ez_25]; exact jb_iadd2 (rfl) ((by decide)) (by omega)
                  refine lv_iload hx hb dX10_scan_230 (lv_at hl 0 rfl) ?_
                  refine va_mmax hx hb (by rw [hml]; exact hl.1.symm) hown (htw (.methodLink RX10 38 Lib.Math.max.name) (jWr_37 _ (List.mem_of_getElem? (i := 1) rfl))) (htw (.static Lib.Math.max.name) (jWr_3 _ (List.mem_of_getElem? (i := 6) rfl))) (htw (.initialized "java/lang/Math") (jWr_3 _ (List.mem_of_getElem? (i := 7) rfl))) (htw (.code Lib.Math.max.name Lib.Math.max.code 2 (some .int)) (jWr_3 _ (List.mem_of_getElem? (i := 8) rfl))) (by rw [← hR]; exact Nat.le_of_ble_eq_true rfl) (by rw [← hR]; exact Nat.le_of_ble_eq_true rfl) (Nat.zero_le _) (Nat.zero_le _) dX10_scan_232 ?_
                  refine lv_topi (fun z_26 ez_26 => ?_)
                  have hz_26 := jb_max ez_26
                  refine lv_istore (lv' := [(5, .int z_26), (6, .int z_7), (0, .ref r0), (1, .ref r1), (2, .int a2), (3, .int a3), (4, .int z_3)]) hx hb dX10_scan_235 hl (by decide) rfl (fun ls hl => ?_)
                  refine lv_goto (tgt := 20) hx hb dX10_scan_237 (by decide) ?_
                  exact L20 z_26 wk_5 (kf - 1) _ _ hh_22 (by have hk9 : jcK f1 nn a3.toInt (kf - 1) (z_26).toInt = jcK f1 nn a3.toInt kf v5_5.toInt := jcK_b (by omega) (by omega) (by rw [← hqz_21, ← hr_23p]; omega) (by omega); exact ⟨by omega, by omega, by omega, by omega, by omega, by have h9 := hi_5_5; omega, by rw [show (z_26).toInt = v5_5.toInt + 1 by omega]; exact jcV.ot hi_5_6 (by omega) (by omega) hn9⟩) (by omega) _ (lv_sub hl [2, 3, 4, 5, 6, 0] rfl)
                · skip
                  have c_24' : r_23.toInt = 0 := jb_ne_n (rfl) ((by decide)) c_24
                  refine lv_aload_n hx hb dX10_scan_162 rfl (lv_at hl 2 rfl) ?_
                  refine lv_iload hx hb dX10_scan_163 (lv_at hl 6 rfl) ?_
                  refine j7_ialdM hx hb hK hh_22 hB173 1 rfl (by decide) hg_r1 (x := v5_5.toInt) (rfl) (by omega) (j := 0) rfl dX10_scan_165 (fun z_27 ez_27 (hz_27 : True) => ?_)
                  have hqz_27 : z_27.toInt = jSo f1 (v5_5.toInt) := by unfold jSo; rw [ez_27]
                  refine lv_bipush (v := 46) hx hb dX10_scan_166 (by decide) ?_
                  refine lv_icmp_ne (tgt := 178) hx hb dX10_scan_168 (by decide) (fun c_28 => ?_) (fun c_28 => ?_)
                  · skip
                    have c_28' : z_27.toInt ≠ 46 := jb_ne (rfl) ((by decide)) c_28
                    refine lv_aload_n hx hb dX10_scan_178 rfl (lv_at hl 2 rfl) ?_
                    refine lv_iload hx hb dX10_scan_179 (lv_at hl 6 rfl) ?_
                    refine j7_ialdM hx hb hK hh_22 hB173 1 rfl (by decide) hg_r1 (x := v5_5.toInt) (rfl) (by omega) (j := 0) rfl dX10_scan_181 (fun z_29 ez_29 (hz_29 : True) => ?_)
                    have hqz_29 : z_29.toInt = jSo f1 (v5_5.toInt) := by unfold jSo; rw [ez_29]
                    refine lv_sipush (v := 128) hx hb dX10_scan_182 (by decide) ?_
                    refine lv_icmp_ge (tgt := 205) hx hb dX10_scan_185 (by decide) (fun c_30 => ?_) (fun c_30 => ?_)
                    · skip
                      have c_30' : z_29.toInt ≥ 128 := jb_ge (rfl) ((by decide)) c_30
                      refine lv_iconst (v := 0) hx hb dX10_scan_205 (by decide) ?_
                      refine lv_istore (lv' := [(7, .int 0), (6, .int z_7), (0, .ref r0), (1, .ref r1), (2, .int a2), (3, .int a3), (4, .int z_3), (5, .int v5_5)]) hx hb dX10_scan_206 hl (by decide) rfl (fun ls hl => ?_)
                      refine lv_aload_n hx hb dX10_scan_208 rfl (lv_at hl 2 rfl) ?_
                      refine lv_iload hx hb dX10_scan_209 (lv_at hl 0 rfl) ?_
                      refine lv_if_eq (tgt := 221) hx hb dX10_scan_211 (by decide) (fun c_31 => ?_) (fun c_31 => ?_)
                      · skip
                        refine lv_iconst (v := 0) hx hb dX10_scan_221 (by decide) ?_
                        refine lv_iconst (v := 0) hx hb dX10_scan_222 (by decide) ?_
                        refine va_callv (A0 := jA base) (H0 := s.heap) (va_runV (As := [.int 0, .int 0]) (rest := []) ⟨hx, hb, hml, hown, hts⟩ (uX10_addT l dC dI ca base B hB hAp hB12 hB101 hB293 G0 H_22 r0 0 0 wk_5) (cwV 2 hts (jgV (jWr_37 _ (List.mem_of_getElem? (i := 7) rfl)) (jWr_37 _ (List.mem_of_getElem? (i := 8) rfl)) (jWr_37 _ (List.mem_of_getElem? (i := 9) rfl)) (jWr_4 _ (List.mem_of_getElem? (i := 14) rfl)) (jWr_37 _ (List.mem_of_getElem? (i := 10) rfl))) rfl rfl rfl (by decide +kernel) ⟨by rw [← hR]; exact Nat.le_of_ble_eq_true rfl, by rw [← hR]; exact Nat.le_of_ble_eq_true rfl⟩) ⟨fun a U g mk q => by obtain ⟨q0, q1, q2, qK, q10, q11, q12⟩ := q; exact ⟨q0, q1, q2, jG.calling g mk a qK, q10, q11, q12⟩, hh_22.recv (C := RX10) (T := TX10) (N := 11) hB12 rfl (by decide) hg_r0 hK, fun U hU hW => ⟨rfl, hU, hh_22.2.1, hG.step hW hU hh_22.1, hg_r0, (hh_22.2.2.1.sub (L1 := [(r0, 12, 3, .int wk_5)]) [0] rfl), by first | omega | (refine ⟨?_, ?_, ?_, ?_⟩ <;> (first | omega | rfl | assumption | decide | exact Or.inl rfl | exact Or.inr rfl | (simp only; omega)))⟩⟩ rfl rfl hl.1 rfl (lv_room (Nat.le_of_ble_eq_true rfl)) dX10_scan_223 ⟨Nat.zero_le _, Nat.zero_le _⟩) hh_22.1 (fun q _ h => h) (fun q h => h) (fun u_32 t_32 H_32 locs_32 ht_32 hvm_32 hr_33 hb_32 hz_32 hk_32 hS_32 => ?_)
                        obtain ⟨qk_32, rfl⟩ : ∃ z, z = u_32 := ⟨_, rfl⟩
                        rw [ht_32] at hb_32
                        obtain ⟨hb_321, hb_322, hb_323, hb_324, hb_325⟩ := hb_32
                        have hh_32 : jSt (dC, dI) B base G0 G0 EX10_scanT s.heap 0 0 [(r0, 12, 3, .int qk_32)] [(r1, 173, n1, ca 1, f1)] [] H_32 locs_32 := ((hh_22.call hb_321 hb_322 hb_323 hb_324 hS_32 rfl (L1 := []) [] rfl rfl (M1 := [(r1, 173, n1, ca 1, f1)]) [0] rfl rfl (I1 := []) [] rfl rfl).more hb_325)
                        clear hh_22 ht_32 hvm_32 hz_32 hk_32 hS_32 hb_321 hb_322 hb_323 hb_324 hb_325
                        refine lv_iload hx hb dX10_scan_226 (lv_at hl 7 rfl) ?_
                        refine lv_iconst (v := 1) hx hb dX10_scan_228 (by decide) ?_
                        refine lv_iadd hx hb dX10_scan_229 ?_
                        refine lv_topi (fun z_34 ez_34 => ?_)
                        have hz_34 : z_34.toInt = v5_5.toInt + 1 := by rw [ez_34]; exact jb_iadd2 (rfl) ((by decide)) (by omega)
                        refine lv_iload hx hb dX10_scan_230 (lv_at hl 1 rfl) ?_
                        refine va_mmax hx hb (by rw [hml]; exact hl.1.symm) hown (htw (.methodLink RX10 38 Lib.Math.max.name) (jWr_37 _ (List.mem_of_getElem? (i := 1) rfl))) (htw (.static Lib.Math.max.name) (jWr_3 _ (List.mem_of_getElem? (i := 6) rfl))) (htw (.initialized "java/lang/Math") (jWr_3 _ (List.mem_of_getElem? (i := 7) rfl))) (htw (.code Lib.Math.max.name Lib.Math.max.code 2 (some .int)) (jWr_3 _ (List.mem_of_getElem? (i := 8) rfl))) (by rw [← hR]; exact Nat.le_of_ble_eq_true rfl) (by rw [← hR]; exact Nat.le_of_ble_eq_true rfl) (Nat.zero_le _) (Nat.zero_le _) dX10_scan_232 ?_
                        refine lv_topi (fun z_35 ez_35 => ?_)
                        have hz_35 := jb_max ez_35
                        refine lv_istore (lv' := [(5, .int z_35), (7, .int 0), (6, .int z_7), (0, .ref r0), (1, .ref r1), (2, .int a2), (3, .int a3), (4, .int z_3)]) hx hb dX10_scan_235 hl (by decide) rfl (fun ls hl => ?_)
                        refine lv_goto (tgt := 20) hx hb dX10_scan_237 (by decide) ?_
                        exact L20 z_35 qk_32 (kf - 1) _ _ hh_32 (by have hk9 : 1 + jcK f1 nn a3.toInt (kf - 1) (z_35).toInt = jcK f1 nn a3.toInt kf v5_5.toInt := jcK_o (by omega) (by omega) hn9 hl9 (by rw [← hqz_15]; first | omega | (rw [← hq104]; omega)) (by rw [← hqz_21, ← hr_23p]; omega) (by omega); exact ⟨by omega, by omega, by omega, by omega, by omega, by have h9 := hi_5_5; omega, by rw [show (z_35).toInt = v5_5.toInt + 1 by omega]; exact jcV.ot hi_5_6 (by omega) (by omega) hn9⟩) (by omega) _ (lv_sub hl [3, 4, 5, 6, 7, 0] rfl)
                      · skip
                        exact absurd c_31 (by decide)
                    · skip
                      have c_30' : z_29.toInt < 128 := jb_ge_n (rfl) ((by decide)) c_30
                      refine va_ldcS hx hb hown rstr66 dX10_scan_188 ?_
                      refine lv_aload_n hx hb dX10_scan_190 rfl (lv_at hl 2 rfl) ?_
                      refine lv_iload hx hb dX10_scan_191 (lv_at hl 6 rfl) ?_
                      refine j7_ialdM hx hb hK hh_22 hB173 1 rfl (by decide) hg_r1 (x := v5_5.toInt) (rfl) (by omega) (j := 0) rfl dX10_scan_193 (fun z_36 ez_36 (hz_36 : True) => ?_)
                      have hqz_36 : z_36.toInt = jSo f1 (v5_5.toInt) := by unfold jSo; rw [ez_36]
                      refine lv_i2c hx hb dX10_scan_194 rfl ?_
                      refine lv_topi (fun z_37 ez_37 => ?_)
                      refine vp_callSi (W.runV (As := [.int z_37]) (rest := []) ⟨hx, hb, hml, hown, hts⟩ (wJ0_indexOf_0f7a4 l dC dI ca base H_22 str66 8 z_37) (cwV 1 hts (jgV (jWr_37 _ (List.mem_of_getElem? (i := 11) rfl)) (jWr_37 _ (List.mem_of_getElem? (i := 12) rfl)) (jWr_37 _ (List.mem_of_getElem? (i := 13) rfl)) (jWr_5 _ (List.mem_of_getElem? (i := 15) rfl)) (jWr_37 _ (List.mem_of_getElem? (i := 14) rfl))) rfl rfl rfl (by decide +kernel) ⟨by rw [← hR]; exact Nat.le_of_ble_eq_true rfl, by rw [← hR]; exact Nat.le_of_ble_eq_true rfl⟩) ⟨fun a U g mk q => by obtain ⟨q0, q1, q2, qK, q9⟩ := q; exact ⟨q0, q1, (q2.moved (Vm.Alike.refl U.vm)), jG.calling g mk a qK, q9⟩, jStr_recv hstr66 hh_22.1, fun U hU hW => ⟨rfl, hU, (hstr66.moved hW.alike).kept hh_22.1.2.1, hG.step hW hU hh_22.1, by omega⟩⟩ rfl rfl hl.1 rfl (lv_room (Nat.le_of_ble_eq_true rfl)) dX10_scan_195 ⟨Nat.zero_le _, Nat.zero_le _⟩) (fun r_38 hr_38 => ?_)
                      refine lv_if_lt (tgt := 205) hx hb dX10_scan_198 (by decide) (fun c_39 => ?_) (fun c_39 => ?_)
                      · skip
                        have c_39' : r_38.toInt < 0 := jb_lt (rfl) ((by decide)) c_39
                        refine lv_iconst (v := 0) hx hb dX10_scan_205 (by decide) ?_
                        refine lv_istore (lv' := [(7, .int 0), (6, .int z_7), (0, .ref r0), (1, .ref r1), (2, .int a2), (3, .int a3), (4, .int z_3), (5, .int v5_5)]) hx hb dX10_scan_206 hl (by decide) rfl (fun ls hl => ?_)
                        refine lv_aload_n hx hb dX10_scan_208 rfl (lv_at hl 2 rfl) ?_
                        refine lv_iload hx hb dX10_scan_209 (lv_at hl 0 rfl) ?_
                        refine lv_if_eq (tgt := 221) hx hb dX10_scan_211 (by decide) (fun c_40 => ?_) (fun c_40 => ?_)
                        · skip
                          refine lv_iconst (v := 0) hx hb dX10_scan_221 (by decide) ?_
                          refine lv_iconst (v := 0) hx hb dX10_scan_222 (by decide) ?_
                          refine va_callv (A0 := jA base) (H0 := s.heap) (va_runV (As := [.int 0, .int 0]) (rest := []) ⟨hx, hb, hml, hown, hts⟩ (uX10_addT l dC dI ca base B hB hAp hB12 hB101 hB293 G0 H_22 r0 0 0 wk_5) (cwV 2 hts (jgV (jWr_37 _ (List.mem_of_getElem? (i := 7) rfl)) (jWr_37 _ (List.mem_of_getElem? (i := 8) rfl)) (jWr_37 _ (List.mem_of_getElem? (i := 9) rfl)) (jWr_4 _ (List.mem_of_getElem? (i := 14) rfl)) (jWr_37 _ (List.mem_of_getElem? (i := 10) rfl))) rfl rfl rfl (by decide +kernel) ⟨by rw [← hR]; exact Nat.le_of_ble_eq_true rfl, by rw [← hR]; exact Nat.le_of_ble_eq_true rfl⟩) ⟨fun a U g mk q => by obtain ⟨q0, q1, q2, qK, q10, q11, q12⟩ := q; exact ⟨q0, q1, q2, jG.calling g mk a qK, q10, q11, q12⟩, hh_22.recv (C := RX10) (T := TX10) (N := 11) hB12 rfl (by decide) hg_r0 hK, fun U hU hW => ⟨rfl, hU, hh_22.2.1, hG.step hW hU hh_22.1, hg_r0, (hh_22.2.2.1.sub (L1 := [(r0, 12, 3, .int wk_5)]) [0] rfl), by first | omega | (refine ⟨?_, ?_, ?_, ?_⟩ <;> (first | omega | rfl | assumption | decide | exact Or.inl rfl | exact Or.inr rfl | (simp only; omega)))⟩⟩ rfl rfl hl.1 rfl (lv_room (Nat.le_of_ble_eq_true rfl)) dX10_scan_223 ⟨Nat.zero_le _, Nat.zero_le _⟩) hh_22.1 (fun q _ h => h) (fun q h => h) (fun u_41 t_41 H_41 locs_41 ht_41 hvm_41 hr_42 hb_41 hz_41 hk_41 hS_41 => ?_)
                          obtain ⟨qk_41, rfl⟩ : ∃ z, z = u_41 := ⟨_, rfl⟩
                          rw [ht_41] at hb_41
                          obtain ⟨hb_411, hb_412, hb_413, hb_414, hb_415⟩ := hb_41
                          have hh_41 : jSt (dC, dI) B base G0 G0 EX10_scanT s.heap 0 0 [(r0, 12, 3, .int qk_41)] [(r1, 173, n1, ca 1, f1)] [] H_41 locs_41 := ((hh_22.call hb_411 hb_412 hb_413 hb_414 hS_41 rfl (L1 := []) [] rfl rfl (M1 := [(r1, 173, n1, ca 1, f1)]) [0] rfl rfl (I1 := []) [] rfl rfl).more hb_415)
                          clear hh_22 ht_41 hvm_41 hz_41 hk_41 hS_41 hb_411 hb_412 hb_413 hb_414 hb_415
                          refine lv_iload hx hb dX10_scan_226 (lv_at hl 7 rfl) ?_
                          refine lv_iconst (v := 1) hx hb dX10_scan_228 (by decide) ?_
                          refine lv_iadd hx hb dX10_scan_229 ?_
                          refine lv_topi (fun z_43 ez_43 => ?_)
                          have hz_43 : z_43.toInt = v5_5.toInt + 1 := by rw [ez_43]; exact jb_iadd2 (rfl) ((by decide)) (by omega)
                          refine lv_iload hx hb dX10_scan_230 (lv_at hl 1 rfl) ?_
                          refine va_mmax hx hb (by rw [hml]; exact hl.1.symm) hown (htw (.methodLink RX10 38 Lib.Math.max.name) (jWr_37 _ (List.mem_of_getElem? (i := 1) rfl))) (htw (.static Lib.Math.max.name) (jWr_3 _ (List.mem_of_getElem? (i := 6) rfl))) (htw (.initialized "java/lang/Math") (jWr_3 _ (List.mem_of_getElem? (i := 7) rfl))) (htw (.code Lib.Math.max.name Lib.Math.max.code 2 (some .int)) (jWr_3 _ (List.mem_of_getElem? (i := 8) rfl))) (by rw [← hR]; exact Nat.le_of_ble_eq_true rfl) (by rw [← hR]; exact Nat.le_of_ble_eq_true rfl) (Nat.zero_le _) (Nat.zero_le _) dX10_scan_232 ?_
                          refine lv_topi (fun z_44 ez_44 => ?_)
                          have hz_44 := jb_max ez_44
                          refine lv_istore (lv' := [(5, .int z_44), (7, .int 0), (6, .int z_7), (0, .ref r0), (1, .ref r1), (2, .int a2), (3, .int a3), (4, .int z_3)]) hx hb dX10_scan_235 hl (by decide) rfl (fun ls hl => ?_)
                          refine lv_goto (tgt := 20) hx hb dX10_scan_237 (by decide) ?_
                          exact L20 z_44 qk_41 (kf - 1) _ _ hh_41 (by have hk9 : 1 + jcK f1 nn a3.toInt (kf - 1) (z_44).toInt = jcK f1 nn a3.toInt kf v5_5.toInt := jcK_o (by omega) (by omega) hn9 hl9 (by rw [← hqz_15]; first | omega | (rw [← hq104]; omega)) (by rw [← hqz_21, ← hr_23p]; omega) (by omega); exact ⟨by omega, by omega, by omega, by omega, by omega, by have h9 := hi_5_5; omega, by rw [show (z_44).toInt = v5_5.toInt + 1 by omega]; exact jcV.ot hi_5_6 (by omega) (by omega) hn9⟩) (by omega) _ (lv_sub hl [3, 4, 5, 6, 7, 0] rfl)
                        · skip
                          exact absurd c_40 (by decide)
                      · skip
                        have c_39' : r_38.toInt ≥ 0 := jb_lt_n (rfl) ((by decide)) c_39
                        refine lv_iconst (v := 1) hx hb dX10_scan_201 (by decide) ?_
                        refine lv_goto (tgt := 206) hx hb dX10_scan_202 (by decide) ?_
                        refine lv_istore (lv' := [(7, .int 1), (6, .int z_7), (0, .ref r0), (1, .ref r1), (2, .int a2), (3, .int a3), (4, .int z_3), (5, .int v5_5)]) hx hb dX10_scan_206 hl (by decide) rfl (fun ls hl => ?_)
                        refine lv_aload_n hx hb dX10_scan_208 rfl (lv_at hl 2 rfl) ?_
                        refine lv_iload hx hb dX10_scan_209 (lv_at hl 0 rfl) ?_
                        refine lv_if_eq (tgt := 221) hx hb dX10_scan_211 (by decide) (fun c_45 => ?_) (fun c_45 => ?_)
                        · skip
                          exact absurd c_45 (by decide)
                        · skip
                          refine lv_aload_n hx hb dX10_scan_214 rfl (lv_at hl 3 rfl) ?_
                          refine lv_iload hx hb dX10_scan_215 (lv_at hl 7 rfl) ?_
                          refine j7_ialdM hx hb hK hh_22 hB173 1 rfl (by decide) hg_r1 (x := v5_5.toInt) (rfl) (by omega) (j := 0) rfl dX10_scan_217 (fun z_46 ez_46 (hz_46 : True) => ?_)
                          have hqz_46 : z_46.toInt = jSo f1 (v5_5.toInt) := by unfold jSo; rw [ez_46]
                          refine lv_goto (tgt := 222) hx hb dX10_scan_218 (by decide) ?_
                          refine lv_iconst (v := 0) hx hb dX10_scan_222 (by decide) ?_
                          refine va_callv (A0 := jA base) (H0 := s.heap) (va_runV (As := [.int z_46, .int 0]) (rest := []) ⟨hx, hb, hml, hown, hts⟩ (uX10_addT l dC dI ca base B hB hAp hB12 hB101 hB293 G0 H_22 r0 z_46 0 wk_5) (cwV 2 hts (jgV (jWr_37 _ (List.mem_of_getElem? (i := 7) rfl)) (jWr_37 _ (List.mem_of_getElem? (i := 8) rfl)) (jWr_37 _ (List.mem_of_getElem? (i := 9) rfl)) (jWr_4 _ (List.mem_of_getElem? (i := 14) rfl)) (jWr_37 _ (List.mem_of_getElem? (i := 10) rfl))) rfl rfl rfl (by decide +kernel) ⟨by rw [← hR]; exact Nat.le_of_ble_eq_true rfl, by rw [← hR]; exact Nat.le_of_ble_eq_true rfl⟩) ⟨fun a U g mk q => by obtain ⟨q0, q1, q2, qK, q10, q11, q12⟩ := q; exact ⟨q0, q1, q2, jG.calling g mk a qK, q10, q11, q12⟩, hh_22.recv (C := RX10) (T := TX10) (N := 11) hB12 rfl (by decide) hg_r0 hK, fun U hU hW => ⟨rfl, hU, hh_22.2.1, hG.step hW hU hh_22.1, hg_r0, (hh_22.2.2.1.sub (L1 := [(r0, 12, 3, .int wk_5)]) [0] rfl), by first | omega | (refine ⟨?_, ?_, ?_, ?_⟩ <;> (first | omega | rfl | assumption | decide | exact Or.inl rfl | exact Or.inr rfl | (simp only; omega)))⟩⟩ rfl rfl hl.1 rfl (lv_room (Nat.le_of_ble_eq_true rfl)) dX10_scan_223 ⟨Nat.zero_le _, Nat.zero_le _⟩) hh_22.1 (fun q _ h => h) (fun q h => h) (fun u_47 t_47 H_47 locs_47 ht_47 hvm_47 hr_48 hb_47 hz_47 hk_47 hS_47 => ?_)
                          obtain ⟨qk_47, rfl⟩ : ∃ z, z = u_47 := ⟨_, rfl⟩
                          rw [ht_47] at hb_47
                          obtain ⟨hb_471, hb_472, hb_473, hb_474, hb_475⟩ := hb_47
                          have hh_47 : jSt (dC, dI) B base G0 G0 EX10_scanT s.heap 0 0 [(r0, 12, 3, .int qk_47)] [(r1, 173, n1, ca 1, f1)] [] H_47 locs_47 := ((hh_22.call hb_471 hb_472 hb_473 hb_474 hS_47 rfl (L1 := []) [] rfl rfl (M1 := [(r1, 173, n1, ca 1, f1)]) [0] rfl rfl (I1 := []) [] rfl rfl).more hb_475)
                          clear hh_22 ht_47 hvm_47 hz_47 hk_47 hS_47 hb_471 hb_472 hb_473 hb_474 hb_475
                          refine lv_iload hx hb dX10_scan_226 (lv_at hl 7 rfl) ?_
                          refine lv_iconst (v := 1) hx hb dX10_scan_228 (by decide) ?_
                          refine lv_iadd hx hb dX10_scan_229 ?_
                          refine lv_topi (fun z_49 ez_49 => ?_)
                          have hz_49 : z_49.toInt = v5_5.toInt + 1 := by rw [ez_49]; exact jb_iadd2 (rfl) ((by decide)) (by omega)
                          refine lv_iload hx hb dX10_scan_230 (lv_at hl 1 rfl) ?_
                          refine va_mmax hx hb (by rw [hml]; exact hl.1.symm) hown (htw (.methodLink RX10 38 Lib.Math.max.name) (jWr_37 _ (List.mem_of_getElem? (i := 1) rfl))) (htw (.static Lib.Math.max.name) (jWr_3 _ (List.mem_of_getElem? (i := 6) rfl))) (htw (.initialized "java/lang/Math") (jWr_3 _ (List.mem_of_getElem? (i := 7) rfl))) (htw (.code Lib.Math.max.name Lib.Math.max.code 2 (some .int)) (jWr_3 _ (List.mem_of_getElem? (i := 8) rfl))) (by rw [← hR]; exact Nat.le_of_ble_eq_true rfl) (by rw [← hR]; exact Nat.le_of_ble_eq_true rfl) (Nat.zero_le _) (Nat.zero_le _) dX10_scan_232 ?_
                          refine lv_topi (fun z_50 ez_50 => ?_)
                          have hz_50 := jb_max ez_50
                          refine lv_istore (lv' := [(5, .int z_50), (7, .int 1), (6, .int z_7), (0, .ref r0), (1, .ref r1), (2, .int a2), (3, .int a3), (4, .int z_3)]) hx hb dX10_scan_235 hl (by decide) rfl (fun ls hl => ?_)
                          refine lv_goto (tgt := 20) hx hb dX10_scan_237 (by decide) ?_
                          exact L20 z_50 qk_47 (kf - 1) _ _ hh_47 (by have hk9 : 1 + jcK f1 nn a3.toInt (kf - 1) (z_50).toInt = jcK f1 nn a3.toInt kf v5_5.toInt := jcK_o (by omega) (by omega) hn9 hl9 (by rw [← hqz_15]; first | omega | (rw [← hq104]; omega)) (by rw [← hqz_21, ← hr_23p]; omega) (by omega); exact ⟨by omega, by omega, by omega, by omega, by omega, by have h9 := hi_5_5; omega, by rw [show (z_50).toInt = v5_5.toInt + 1 by omega]; exact jcV.ot hi_5_6 (by omega) (by omega) hn9⟩) (by omega) _ (lv_sub hl [3, 4, 5, 6, 7, 0] rfl)
                  · skip
                    have c_28' : z_27.toInt = 46 := jb_ne_n (rfl) ((by decide)) c_28
                    refine lv_iload hx hb dX10_scan_171 (lv_at hl 0 rfl) ?_
                    refine lv_iload hx hb dX10_scan_173 (lv_at hl 5 rfl) ?_
                    refine lv_icmp_eq (tgt := 201) hx hb dX10_scan_175 (by decide) (fun c_51 => ?_) (fun c_51 => ?_)
                    · skip
                      have c_51' : z_7.toInt = z_3.toInt := jb_eq (rfl) (rfl) c_51
                      refine lv_iconst (v := 1) hx hb dX10_scan_201 (by decide) ?_
                      refine lv_goto (tgt := 206) hx hb dX10_scan_202 (by decide) ?_
                      refine lv_istore (lv' := [(7, .int 1), (6, .int z_7), (0, .ref r0), (1, .ref r1), (2, .int a2), (3, .int a3), (4, .int z_3), (5, .int v5_5)]) hx hb dX10_scan_206 hl (by decide) rfl (fun ls hl => ?_)
                      refine lv_aload_n hx hb dX10_scan_208 rfl (lv_at hl 2 rfl) ?_
                      refine lv_iload hx hb dX10_scan_209 (lv_at hl 0 rfl) ?_
                      refine lv_if_eq (tgt := 221) hx hb dX10_scan_211 (by decide) (fun c_52 => ?_) (fun c_52 => ?_)
                      · skip
                        exact absurd c_52 (by decide)
                      · skip
                        refine lv_aload_n hx hb dX10_scan_214 rfl (lv_at hl 3 rfl) ?_
                        refine lv_iload hx hb dX10_scan_215 (lv_at hl 7 rfl) ?_
                        refine j7_ialdM hx hb hK hh_22 hB173 1 rfl (by decide) hg_r1 (x := v5_5.toInt) (rfl) (by omega) (j := 0) rfl dX10_scan_217 (fun z_53 ez_53 (hz_53 : True) => ?_)
                        have hqz_53 : z_53.toInt = jSo f1 (v5_5.toInt) := by unfold jSo; rw [ez_53]
                        refine lv_goto (tgt := 222) hx hb dX10_scan_218 (by decide) ?_
                        refine lv_iconst (v := 0) hx hb dX10_scan_222 (by decide) ?_
                        refine va_callv (A0 := jA base) (H0 := s.heap) (va_runV (As := [.int z_53, .int 0]) (rest := []) ⟨hx, hb, hml, hown, hts⟩ (uX10_addT l dC dI ca base B hB hAp hB12 hB101 hB293 G0 H_22 r0 z_53 0 wk_5) (cwV 2 hts (jgV (jWr_37 _ (List.mem_of_getElem? (i := 7) rfl)) (jWr_37 _ (List.mem_of_getElem? (i := 8) rfl)) (jWr_37 _ (List.mem_of_getElem? (i := 9) rfl)) (jWr_4 _ (List.mem_of_getElem? (i := 14) rfl)) (jWr_37 _ (List.mem_of_getElem? (i := 10) rfl))) rfl rfl rfl (by decide +kernel) ⟨by rw [← hR]; exact Nat.le_of_ble_eq_true rfl, by rw [← hR]; exact Nat.le_of_ble_eq_true rfl⟩) ⟨fun a U g mk q => by obtain ⟨q0, q1, q2, qK, q10, q11, q12⟩ := q; exact ⟨q0, q1, q2, jG.calling g mk a qK, q10, q11, q12⟩, hh_22.recv (C := RX10) (T := TX10) (N := 11) hB12 rfl (by decide) hg_r0 hK, fun U hU hW => ⟨rfl, hU, hh_22.2.1, hG.step hW hU hh_22.1, hg_r0, (hh_22.2.2.1.sub (L1 := [(r0, 12, 3, .int wk_5)]) [0] rfl), by first | omega | (refine ⟨?_, ?_, ?_, ?_⟩ <;> (first | omega | rfl | assumption | decide | exact Or.inl rfl | exact Or.inr rfl | (simp only; omega)))⟩⟩ rfl rfl hl.1 rfl (lv_room (Nat.le_of_ble_eq_true rfl)) dX10_scan_223 ⟨Nat.zero_le _, Nat.zero_le _⟩) hh_22.1 (fun q _ h => h) (fun q h => h) (fun u_54 t_54 H_54 locs_54 ht_54 hvm_54 hr_55 hb_54 hz_54 hk_54 hS_54 => ?_)
                        obtain ⟨qk_54, rfl⟩ : ∃ z, z = u_54 := ⟨_, rfl⟩
                        rw [ht_54] at hb_54
                        obtain ⟨hb_541, hb_542, hb_543, hb_544, hb_545⟩ := hb_54
                        have hh_54 : jSt (dC, dI) B base G0 G0 EX10_scanT s.heap 0 0 [(r0, 12, 3, .int qk_54)] [(r1, 173, n1, ca 1, f1)] [] H_54 locs_54 := ((hh_22.call hb_541 hb_542 hb_543 hb_544 hS_54 rfl (L1 := []) [] rfl rfl (M1 := [(r1, 173, n1, ca 1, f1)]) [0] rfl rfl (I1 := []) [] rfl rfl).more hb_545)
                        clear hh_22 ht_54 hvm_54 hz_54 hk_54 hS_54 hb_541 hb_542 hb_543 hb_544 hb_545
                        refine lv_iload hx hb dX10_scan_226 (lv_at hl 7 rfl) ?_
                        refine lv_iconst (v := 1) hx hb dX10_scan_228 (by decide) ?_
                        refine lv_iadd hx hb dX10_scan_229 ?_
                        refine lv_topi (fun z_56 ez_56 => ?_)
                        have hz_56 : z_56.toInt = v5_5.toInt + 1 := by rw [ez_56]; exact jb_iadd2 (rfl) ((by decide)) (by omega)
                        refine lv_iload hx hb dX10_scan_230 (lv_at hl 1 rfl) ?_
                        refine va_mmax hx hb (by rw [hml]; exact hl.1.symm) hown (htw (.methodLink RX10 38 Lib.Math.max.name) (jWr_37 _ (List.mem_of_getElem? (i := 1) rfl))) (htw (.static Lib.Math.max.name) (jWr_3 _ (List.mem_of_getElem? (i := 6) rfl))) (htw (.initialized "java/lang/Math") (jWr_3 _ (List.mem_of_getElem? (i := 7) rfl))) (htw (.code Lib.Math.max.name Lib.Math.max.code 2 (some .int)) (jWr_3 _ (List.mem_of_getElem? (i := 8) rfl))) (by rw [← hR]; exact Nat.le_of_ble_eq_true rfl) (by rw [← hR]; exact Nat.le_of_ble_eq_true rfl) (Nat.zero_le _) (Nat.zero_le _) dX10_scan_232 ?_
                        refine lv_topi (fun z_57 ez_57 => ?_)
                        have hz_57 := jb_max ez_57
                        refine lv_istore (lv' := [(5, .int z_57), (7, .int 1), (6, .int z_7), (0, .ref r0), (1, .ref r1), (2, .int a2), (3, .int a3), (4, .int z_3)]) hx hb dX10_scan_235 hl (by decide) rfl (fun ls hl => ?_)
                        refine lv_goto (tgt := 20) hx hb dX10_scan_237 (by decide) ?_
                        exact L20 z_57 qk_54 (kf - 1) _ _ hh_54 (by have hk9 : 1 + jcK f1 nn a3.toInt (kf - 1) (z_57).toInt = jcK f1 nn a3.toInt kf v5_5.toInt := jcK_o (by omega) (by omega) hn9 hl9 (by rw [← hqz_15]; first | omega | (rw [← hq104]; omega)) (by rw [← hqz_21, ← hr_23p]; omega) (by omega); exact ⟨by omega, by omega, by omega, by omega, by omega, by have h9 := hi_5_5; omega, by rw [show (z_57).toInt = v5_5.toInt + 1 by omega]; exact jcV.ot hi_5_6 (by omega) (by omega) hn9⟩) (by omega) _ (lv_sub hl [3, 4, 5, 6, 7, 0] rfl)
                    · skip
                      have c_51' : z_7.toInt ≠ z_3.toInt := jb_eq_n (rfl) (rfl) c_51
                      refine lv_aload_n hx hb dX10_scan_178 rfl (lv_at hl 2 rfl) ?_
                      refine lv_iload hx hb dX10_scan_179 (lv_at hl 6 rfl) ?_
                      refine j7_ialdM hx hb hK hh_22 hB173 1 rfl (by decide) hg_r1 (x := v5_5.toInt) (rfl) (by omega) (j := 0) rfl dX10_scan_181 (fun z_58 ez_58 (hz_58 : True) => ?_)
                      have hqz_58 : z_58.toInt = jSo f1 (v5_5.toInt) := by unfold jSo; rw [ez_58]
                      refine lv_sipush (v := 128) hx hb dX10_scan_182 (by decide) ?_
                      refine lv_icmp_ge (tgt := 205) hx hb dX10_scan_185 (by decide) (fun c_59 => ?_) (fun c_59 => ?_)
                      · skip
                        have c_59' : z_58.toInt ≥ 128 := jb_ge (rfl) ((by decide)) c_59
                        refine lv_iconst (v := 0) hx hb dX10_scan_205 (by decide) ?_
                        refine lv_istore (lv' := [(7, .int 0), (6, .int z_7), (0, .ref r0), (1, .ref r1), (2, .int a2), (3, .int a3), (4, .int z_3), (5, .int v5_5)]) hx hb dX10_scan_206 hl (by decide) rfl (fun ls hl => ?_)
                        refine lv_aload_n hx hb dX10_scan_208 rfl (lv_at hl 2 rfl) ?_
                        refine lv_iload hx hb dX10_scan_209 (lv_at hl 0 rfl) ?_
                        refine lv_if_eq (tgt := 221) hx hb dX10_scan_211 (by decide) (fun c_60 => ?_) (fun c_60 => ?_)
                        · skip
                          refine lv_iconst (v := 0) hx hb dX10_scan_221 (by decide) ?_
                          refine lv_iconst (v := 0) hx hb dX10_scan_222 (by decide) ?_
                          refine va_callv (A0 := jA base) (H0 := s.heap) (va_runV (As := [.int 0, .int 0]) (rest := []) ⟨hx, hb, hml, hown, hts⟩ (uX10_addT l dC dI ca base B hB hAp hB12 hB101 hB293 G0 H_22 r0 0 0 wk_5) (cwV 2 hts (jgV (jWr_37 _ (List.mem_of_getElem? (i := 7) rfl)) (jWr_37 _ (List.mem_of_getElem? (i := 8) rfl)) (jWr_37 _ (List.mem_of_getElem? (i := 9) rfl)) (jWr_4 _ (List.mem_of_getElem? (i := 14) rfl)) (jWr_37 _ (List.mem_of_getElem? (i := 10) rfl))) rfl rfl rfl (by decide +kernel) ⟨by rw [← hR]; exact Nat.le_of_ble_eq_true rfl, by rw [← hR]; exact Nat.le_of_ble_eq_true rfl⟩) ⟨fun a U g mk q => by obtain ⟨q0, q1, q2, qK, q10, q11, q12⟩ := q; exact ⟨q0, q1, q2, jG.calling g mk a qK, q10, q11, q12⟩, hh_22.recv (C := RX10) (T := TX10) (N := 11) hB12 rfl (by decide) hg_r0 hK, fun U hU hW => ⟨rfl, hU, hh_22.2.1, hG.step hW hU hh_22.1, hg_r0, (hh_22.2.2.1.sub (L1 := [(r0, 12, 3, .int wk_5)]) [0] rfl), by first | omega | (refine ⟨?_, ?_, ?_, ?_⟩ <;> (first | omega | rfl | assumption | decide | exact Or.inl rfl | exact Or.inr rfl | (simp only; omega)))⟩⟩ rfl rfl hl.1 rfl (lv_room (Nat.le_of_ble_eq_true rfl)) dX10_scan_223 ⟨Nat.zero_le _, Nat.zero_le _⟩) hh_22.1 (fun q _ h => h) (fun q h => h) (fun u_61 t_61 H_61 locs_61 ht_61 hvm_61 hr_62 hb_61 hz_61 hk_61 hS_61 => ?_)
                          obtain ⟨qk_61, rfl⟩ : ∃ z, z = u_61 := ⟨_, rfl⟩
                          rw [ht_61] at hb_61
                          obtain ⟨hb_611, hb_612, hb_613, hb_614, hb_615⟩ := hb_61
                          have hh_61 : jSt (dC, dI) B base G0 G0 EX10_scanT s.heap 0 0 [(r0, 12, 3, .int qk_61)] [(r1, 173, n1, ca 1, f1)] [] H_61 locs_61 := ((hh_22.call hb_611 hb_612 hb_613 hb_614 hS_61 rfl (L1 := []) [] rfl rfl (M1 := [(r1, 173, n1, ca 1, f1)]) [0] rfl rfl (I1 := []) [] rfl rfl).more hb_615)
                          clear hh_22 ht_61 hvm_61 hz_61 hk_61 hS_61 hb_611 hb_612 hb_613 hb_614 hb_615
                          refine lv_iload hx hb dX10_scan_226 (lv_at hl 7 rfl) ?_
                          refine lv_iconst (v := 1) hx hb dX10_scan_228 (by decide) ?_
                          refine lv_iadd hx hb dX10_scan_229 ?_
                          refine lv_topi (fun z_63 ez_63 => ?_)
                          have hz_63 : z_63.toInt = v5_5.toInt + 1 := by rw [ez_63]; exact jb_iadd2 (rfl) ((by decide)) (by omega)
                          refine lv_iload hx hb dX10_scan_230 (lv_at hl 1 rfl) ?_
                          refine va_mmax hx hb (by rw [hml]; exact hl.1.symm) hown (htw (.methodLink RX10 38 Lib.Math.max.name) (jWr_37 _ (List.mem_of_getElem? (i := 1) rfl))) (htw (.static Lib.Math.max.name) (jWr_3 _ (List.mem_of_getElem? (i := 6) rfl))) (htw (.initialized "java/lang/Math") (jWr_3 _ (List.mem_of_getElem? (i := 7) rfl))) (htw (.code Lib.Math.max.name Lib.Math.max.code 2 (some .int)) (jWr_3 _ (List.mem_of_getElem? (i := 8) rfl))) (by rw [← hR]; exact Nat.le_of_ble_eq_true rfl) (by rw [← hR]; exact Nat.le_of_ble_eq_true rfl) (Nat.zero_le _) (Nat.zero_le _) dX10_scan_232 ?_
                          refine lv_topi (fun z_64 ez_64 => ?_)
                          have hz_64 := jb_max ez_64
                          refine lv_istore (lv' := [(5, .int z_64), (7, .int 0), (6, .int z_7), (0, .ref r0), (1, .ref r1), (2, .int a2), (3, .int a3), (4, .int z_3)]) hx hb dX10_scan_235 hl (by decide) rfl (fun ls hl => ?_)
                          refine lv_goto (tgt := 20) hx hb dX10_scan_237 (by decide) ?_
                          exact L20 z_64 qk_61 (kf - 1) _ _ hh_61 (by have hk9 : 1 + jcK f1 nn a3.toInt (kf - 1) (z_64).toInt = jcK f1 nn a3.toInt kf v5_5.toInt := jcK_o (by omega) (by omega) hn9 hl9 (by rw [← hqz_15]; first | omega | (rw [← hq104]; omega)) (by rw [← hqz_21, ← hr_23p]; omega) (by omega); exact ⟨by omega, by omega, by omega, by omega, by omega, by have h9 := hi_5_5; omega, by rw [show (z_64).toInt = v5_5.toInt + 1 by omega]; exact jcV.ot hi_5_6 (by omega) (by omega) hn9⟩) (by omega) _ (lv_sub hl [3, 4, 5, 6, 7, 0] rfl)
                        · skip
                          exact absurd c_60 (by decide)
                      · skip
                        have c_59' : z_58.toInt < 128 := jb_ge_n (rfl) ((by decide)) c_59
                        refine va_ldcS hx hb hown rstr66 dX10_scan_188 ?_
                        refine lv_aload_n hx hb dX10_scan_190 rfl (lv_at hl 2 rfl) ?_
                        refine lv_iload hx hb dX10_scan_191 (lv_at hl 6 rfl) ?_
                        refine j7_ialdM hx hb hK hh_22 hB173 1 rfl (by decide) hg_r1 (x := v5_5.toInt) (rfl) (by omega) (j := 0) rfl dX10_scan_193 (fun z_65 ez_65 (hz_65 : True) => ?_)
                        have hqz_65 : z_65.toInt = jSo f1 (v5_5.toInt) := by unfold jSo; rw [ez_65]
                        refine lv_i2c hx hb dX10_scan_194 rfl ?_
                        refine lv_topi (fun z_66 ez_66 => ?_)
                        refine vp_callSi (W.runV (As := [.int z_66]) (rest := []) ⟨hx, hb, hml, hown, hts⟩ (wJ0_indexOf_0f7a4 l dC dI ca base H_22 str66 8 z_66) (cwV 1 hts (jgV (jWr_37 _ (List.mem_of_getElem? (i := 11) rfl)) (jWr_37 _ (List.mem_of_getElem? (i := 12) rfl)) (jWr_37 _ (List.mem_of_getElem? (i := 13) rfl)) (jWr_5 _ (List.mem_of_getElem? (i := 15) rfl)) (jWr_37 _ (List.mem_of_getElem? (i := 14) rfl))) rfl rfl rfl (by decide +kernel) ⟨by rw [← hR]; exact Nat.le_of_ble_eq_true rfl, by rw [← hR]; exact Nat.le_of_ble_eq_true rfl⟩) ⟨fun a U g mk q => by obtain ⟨q0, q1, q2, qK, q9⟩ := q; exact ⟨q0, q1, (q2.moved (Vm.Alike.refl U.vm)), jG.calling g mk a qK, q9⟩, jStr_recv hstr66 hh_22.1, fun U hU hW => ⟨rfl, hU, (hstr66.moved hW.alike).kept hh_22.1.2.1, hG.step hW hU hh_22.1, by omega⟩⟩ rfl rfl hl.1 rfl (lv_room (Nat.le_of_ble_eq_true rfl)) dX10_scan_195 ⟨Nat.zero_le _, Nat.zero_le _⟩) (fun r_67 hr_67 => ?_)
                        refine lv_if_lt (tgt := 205) hx hb dX10_scan_198 (by decide) (fun c_68 => ?_) (fun c_68 => ?_)
                        · skip
                          have c_68' : r_67.toInt < 0 := jb_lt (rfl) ((by decide)) c_68
                          refine lv_iconst (v := 0) hx hb dX10_scan_205 (by decide) ?_
                          refine lv_istore (lv' := [(7, .int 0), (6, .int z_7), (0, .ref r0), (1, .ref r1), (2, .int a2), (3, .int a3), (4, .int z_3), (5, .int v5_5)]) hx hb dX10_scan_206 hl (by decide) rfl (fun ls hl => ?_)
                          refine lv_aload_n hx hb dX10_scan_208 rfl (lv_at hl 2 rfl) ?_
                          refine lv_iload hx hb dX10_scan_209 (lv_at hl 0 rfl) ?_
                          refine lv_if_eq (tgt := 221) hx hb dX10_scan_211 (by decide) (fun c_69 => ?_) (fun c_69 => ?_)
                          · skip
                            refine lv_iconst (v := 0) hx hb dX10_scan_221 (by decide) ?_
                            refine lv_iconst (v := 0) hx hb dX10_scan_222 (by decide) ?_
                            refine va_callv (A0 := jA base) (H0 := s.heap) (va_runV (As := [.int 0, .int 0]) (rest := []) ⟨hx, hb, hml, hown, hts⟩ (uX10_addT l dC dI ca base B hB hAp hB12 hB101 hB293 G0 H_22 r0 0 0 wk_5) (cwV 2 hts (jgV (jWr_37 _ (List.mem_of_getElem? (i := 7) rfl)) (jWr_37 _ (List.mem_of_getElem? (i := 8) rfl)) (jWr_37 _ (List.mem_of_getElem? (i := 9) rfl)) (jWr_4 _ (List.mem_of_getElem? (i := 14) rfl)) (jWr_37 _ (List.mem_of_getElem? (i := 10) rfl))) rfl rfl rfl (by decide +kernel) ⟨by rw [← hR]; exact Nat.le_of_ble_eq_true rfl, by rw [← hR]; exact Nat.le_of_ble_eq_true rfl⟩) ⟨fun a U g mk q => by obtain ⟨q0, q1, q2, qK, q10, q11, q12⟩ := q; exact ⟨q0, q1, q2, jG.calling g mk a qK, q10, q11, q12⟩, hh_22.recv (C := RX10) (T := TX10) (N := 11) hB12 rfl (by decide) hg_r0 hK, fun U hU hW => ⟨rfl, hU, hh_22.2.1, hG.step hW hU hh_22.1, hg_r0, (hh_22.2.2.1.sub (L1 := [(r0, 12, 3, .int wk_5)]) [0] rfl), by first | omega | (refine ⟨?_, ?_, ?_, ?_⟩ <;> (first | omega | rfl | assumption | decide | exact Or.inl rfl | exact Or.inr rfl | (simp only; omega)))⟩⟩ rfl rfl hl.1 rfl (lv_room (Nat.le_of_ble_eq_true rfl)) dX10_scan_223 ⟨Nat.zero_le _, Nat.zero_le _⟩) hh_22.1 (fun q _ h => h) (fun q h => h) (fun u_70 t_70 H_70 locs_70 ht_70 hvm_70 hr_71 hb_70 hz_70 hk_70 hS_70 => ?_)
                            obtain ⟨qk_70, rfl⟩ : ∃ z, z = u_70 := ⟨_, rfl⟩
                            rw [ht_70] at hb_70
                            obtain ⟨hb_701, hb_702, hb_703, hb_704, hb_705⟩ := hb_70
                            have hh_70 : jSt (dC, dI) B base G0 G0 EX10_scanT s.heap 0 0 [(r0, 12, 3, .int qk_70)] [(r1, 173, n1, ca 1, f1)] [] H_70 locs_70 := ((hh_22.call hb_701 hb_702 hb_703 hb_704 hS_70 rfl (L1 := []) [] rfl rfl (M1 := [(r1, 173, n1, ca 1, f1)]) [0] rfl rfl (I1 := []) [] rfl rfl).more hb_705)
                            clear hh_22 ht_70 hvm_70 hz_70 hk_70 hS_70 hb_701 hb_702 hb_703 hb_704 hb_705
                            refine lv_iload hx hb dX10_scan_226 (lv_at hl 7 rfl) ?_
                            refine lv_iconst (v := 1) hx hb dX10_scan_228 (by decide) ?_
                            refine lv_iadd hx hb dX10_scan_229 ?_
                            refine lv_topi (fun z_72 ez_72 => ?_)
                            have hz_72 : z_72.toInt = v5_5.toInt + 1 := by rw [ez_72]; exact jb_iadd2 (rfl) ((by decide)) (by omega)
                            refine lv_iload hx hb dX10_scan_230 (lv_at hl 1 rfl) ?_
                            refine va_mmax hx hb (by rw [hml]; exact hl.1.symm) hown (htw (.methodLink RX10 38 Lib.Math.max.name) (jWr_37 _ (List.mem_of_getElem? (i := 1) rfl))) (htw (.static Lib.Math.max.name) (jWr_3 _ (List.mem_of_getElem? (i := 6) rfl))) (htw (.initialized "java/lang/Math") (jWr_3 _ (List.mem_of_getElem? (i := 7) rfl))) (htw (.code Lib.Math.max.name Lib.Math.max.code 2 (some .int)) (jWr_3 _ (List.mem_of_getElem? (i := 8) rfl))) (by rw [← hR]; exact Nat.le_of_ble_eq_true rfl) (by rw [← hR]; exact Nat.le_of_ble_eq_true rfl) (Nat.zero_le _) (Nat.zero_le _) dX10_scan_232 ?_
                            refine lv_topi (fun z_73 ez_73 => ?_)
                            have hz_73 := jb_max ez_73
                            refine lv_istore (lv' := [(5, .int z_73), (7, .int 0), (6, .int z_7), (0, .ref r0), (1, .ref r1), (2, .int a2), (3, .int a3), (4, .int z_3)]) hx hb dX10_scan_235 hl (by decide) rfl (fun ls hl => ?_)
                            refine lv_goto (tgt := 20) hx hb dX10_scan_237 (by decide) ?_
                            exact L20 z_73 qk_70 (kf - 1) _ _ hh_70 (by have hk9 : 1 + jcK f1 nn a3.toInt (kf - 1) (z_73).toInt = jcK f1 nn a3.toInt kf v5_5.toInt := jcK_o (by omega) (by omega) hn9 hl9 (by rw [← hqz_15]; first | omega | (rw [← hq104]; omega)) (by rw [← hqz_21, ← hr_23p]; omega) (by omega); exact ⟨by omega, by omega, by omega, by omega, by omega, by have h9 := hi_5_5; omega, by rw [show (z_73).toInt = v5_5.toInt + 1 by omega]; exact jcV.ot hi_5_6 (by omega) (by omega) hn9⟩) (by omega) _ (lv_sub hl [3, 4, 5, 6, 7, 0] rfl)
                          · skip
                            exact absurd c_69 (by decide)
                        · skip
                          have c_68' : r_67.toInt ≥ 0 := jb_lt_n (rfl) ((by decide)) c_68
                          refine lv_iconst (v := 1) hx hb dX10_scan_201 (by decide) ?_
                          refine lv_goto (tgt := 206) hx hb dX10_scan_202 (by decide) ?_
                          refine lv_istore (lv' := [(7, .int 1), (6, .int z_7), (0, .ref r0), (1, .ref r1), (2, .int a2), (3, .int a3), (4, .int z_3), (5, .int v5_5)]) hx hb dX10_scan_206 hl (by decide) rfl (fun ls hl => ?_)
                          refine lv_aload_n hx hb dX10_scan_208 rfl (lv_at hl 2 rfl) ?_
                          refine lv_iload hx hb dX10_scan_209 (lv_at hl 0 rfl) ?_
                          refine lv_if_eq (tgt := 221) hx hb dX10_scan_211 (by decide) (fun c_74 => ?_) (fun c_74 => ?_)
                          · skip
                            exact absurd c_74 (by decide)
                          · skip
                            refine lv_aload_n hx hb dX10_scan_214 rfl (lv_at hl 3 rfl) ?_
                            refine lv_iload hx hb dX10_scan_215 (lv_at hl 7 rfl) ?_
                            refine j7_ialdM hx hb hK hh_22 hB173 1 rfl (by decide) hg_r1 (x := v5_5.toInt) (rfl) (by omega) (j := 0) rfl dX10_scan_217 (fun z_75 ez_75 (hz_75 : True) => ?_)
                            have hqz_75 : z_75.toInt = jSo f1 (v5_5.toInt) := by unfold jSo; rw [ez_75]
                            refine lv_goto (tgt := 222) hx hb dX10_scan_218 (by decide) ?_
                            refine lv_iconst (v := 0) hx hb dX10_scan_222 (by decide) ?_
                            refine va_callv (A0 := jA base) (H0 := s.heap) (va_runV (As := [.int z_75, .int 0]) (rest := []) ⟨hx, hb, hml, hown, hts⟩ (uX10_addT l dC dI ca base B hB hAp hB12 hB101 hB293 G0 H_22 r0 z_75 0 wk_5) (cwV 2 hts (jgV (jWr_37 _ (List.mem_of_getElem? (i := 7) rfl)) (jWr_37 _ (List.mem_of_getElem? (i := 8) rfl)) (jWr_37 _ (List.mem_of_getElem? (i := 9) rfl)) (jWr_4 _ (List.mem_of_getElem? (i := 14) rfl)) (jWr_37 _ (List.mem_of_getElem? (i := 10) rfl))) rfl rfl rfl (by decide +kernel) ⟨by rw [← hR]; exact Nat.le_of_ble_eq_true rfl, by rw [← hR]; exact Nat.le_of_ble_eq_true rfl⟩) ⟨fun a U g mk q => by obtain ⟨q0, q1, q2, qK, q10, q11, q12⟩ := q; exact ⟨q0, q1, q2, jG.calling g mk a qK, q10, q11, q12⟩, hh_22.recv (C := RX10) (T := TX10) (N := 11) hB12 rfl (by decide) hg_r0 hK, fun U hU hW => ⟨rfl, hU, hh_22.2.1, hG.step hW hU hh_22.1, hg_r0, (hh_22.2.2.1.sub (L1 := [(r0, 12, 3, .int wk_5)]) [0] rfl), by first | omega | (refine ⟨?_, ?_, ?_, ?_⟩ <;> (first | omega | rfl | assumption | decide | exact Or.inl rfl | exact Or.inr rfl | (simp only; omega)))⟩⟩ rfl rfl hl.1 rfl (lv_room (Nat.le_of_ble_eq_true rfl)) dX10_scan_223 ⟨Nat.zero_le _, Nat.zero_le _⟩) hh_22.1 (fun q _ h => h) (fun q h => h) (fun u_76 t_76 H_76 locs_76 ht_76 hvm_76 hr_77 hb_76 hz_76 hk_76 hS_76 => ?_)
                            obtain ⟨qk_76, rfl⟩ : ∃ z, z = u_76 := ⟨_, rfl⟩
                            rw [ht_76] at hb_76
                            obtain ⟨hb_761, hb_762, hb_763, hb_764, hb_765⟩ := hb_76
                            have hh_76 : jSt (dC, dI) B base G0 G0 EX10_scanT s.heap 0 0 [(r0, 12, 3, .int qk_76)] [(r1, 173, n1, ca 1, f1)] [] H_76 locs_76 := ((hh_22.call hb_761 hb_762 hb_763 hb_764 hS_76 rfl (L1 := []) [] rfl rfl (M1 := [(r1, 173, n1, ca 1, f1)]) [0] rfl rfl (I1 := []) [] rfl rfl).more hb_765)
                            clear hh_22 ht_76 hvm_76 hz_76 hk_76 hS_76 hb_761 hb_762 hb_763 hb_764 hb_765
                            refine lv_iload hx hb dX10_scan_226 (lv_at hl 7 rfl) ?_
                            refine lv_iconst (v := 1) hx hb dX10_scan_228 (by decide) ?_
                            refine lv_iadd hx hb dX10_scan_229 ?_
                            refine lv_topi (fun z_78 ez_78 => ?_)
                            have hz_78 : z_78.toInt = v5_5.toInt + 1 := by rw [ez_78]; exact jb_iadd2 (rfl) ((by decide)) (by omega)
                            refine lv_iload hx hb dX10_scan_230 (lv_at hl 1 rfl) ?_
                            refine va_mmax hx hb (by rw [hml]; exact hl.1.symm) hown (htw (.methodLink RX10 38 Lib.Math.max.name) (jWr_37 _ (List.mem_of_getElem? (i := 1) rfl))) (htw (.static Lib.Math.max.name) (jWr_3 _ (List.mem_of_getElem? (i := 6) rfl))) (htw (.initialized "java/lang/Math") (jWr_3 _ (List.mem_of_getElem? (i := 7) rfl))) (htw (.code Lib.Math.max.name Lib.Math.max.code 2 (some .int)) (jWr_3 _ (List.mem_of_getElem? (i := 8) rfl))) (by rw [← hR]; exact Nat.le_of_ble_eq_true rfl) (by rw [← hR]; exact Nat.le_of_ble_eq_true rfl) (Nat.zero_le _) (Nat.zero_le _) dX10_scan_232 ?_
                            refine lv_topi (fun z_79 ez_79 => ?_)
                            have hz_79 := jb_max ez_79
                            refine lv_istore (lv' := [(5, .int z_79), (7, .int 1), (6, .int z_7), (0, .ref r0), (1, .ref r1), (2, .int a2), (3, .int a3), (4, .int z_3)]) hx hb dX10_scan_235 hl (by decide) rfl (fun ls hl => ?_)
                            refine lv_goto (tgt := 20) hx hb dX10_scan_237 (by decide) ?_
                            exact L20 z_79 qk_76 (kf - 1) _ _ hh_76 (by have hk9 : 1 + jcK f1 nn a3.toInt (kf - 1) (z_79).toInt = jcK f1 nn a3.toInt kf v5_5.toInt := jcK_o (by omega) (by omega) hn9 hl9 (by rw [← hqz_15]; first | omega | (rw [← hq104]; omega)) (by rw [← hqz_21, ← hr_23p]; omega) (by omega); exact ⟨by omega, by omega, by omega, by omega, by omega, by have h9 := hi_5_5; omega, by rw [show (z_79).toInt = v5_5.toInt + 1 by omega]; exact jcV.ot hi_5_6 (by omega) (by omega) hn9⟩) (by omega) _ (lv_sub hl [3, 4, 5, 6, 7, 0] rfl)
              · skip
                have c_20' : r_19.toInt ≠ 0 := jb_eq_n (rfl) ((by decide)) c_20
                have hdg9 : 48 ≤ jSo f1 v5_5.toInt ∧ jSo f1 v5_5.toInt ≤ 57 := by rw [← hqz_17]; have h7 := hr_19p; unfold jIn at h7; split at h7; assumption; omega
                refine lv_aload_n hx hb dX10_scan_136 rfl (lv_at hl 1 rfl) ?_
                refine lv_bipush (v := 100) hx hb dX10_scan_137 (by decide) ?_
                refine lv_aload_n hx hb dX10_scan_139 rfl (lv_at hl 2 rfl) ?_
                refine lv_iload hx hb dX10_scan_140 (lv_at hl 6 rfl) ?_
                refine j7_ialdM hx hb hK hh_18 hB173 1 rfl (by decide) hg_r1 (x := v5_5.toInt) (rfl) (by omega) (j := 0) rfl dX10_scan_142 (fun z_80 ez_80 (hz_80 : True) => ?_)
                have hqz_80 : z_80.toInt = jSo f1 (v5_5.toInt) := by unfold jSo; rw [ez_80]
                refine lv_bipush (v := 48) hx hb dX10_scan_143 (by decide) ?_
                refine lv_isub hx hb dX10_scan_145 ?_
                refine lv_topi (fun z_81 ez_81 => ?_)
                have hz_81 : z_81.toInt = z_80.toInt - 48 := by rw [ez_81]; exact jb_isub2 (rfl) ((by decide)) (by omega)
                refine va_callv (A0 := jA base) (H0 := s.heap) (va_runV (As := [.int 100, .int z_81]) (rest := []) ⟨hx, hb, hml, hown, hts⟩ (uX10_addT l dC dI ca base B hB hAp hB12 hB101 hB293 G0 H_18 r0 100 z_81 wk_5) (cwV 2 hts (jgV (jWr_37 _ (List.mem_of_getElem? (i := 7) rfl)) (jWr_37 _ (List.mem_of_getElem? (i := 8) rfl)) (jWr_37 _ (List.mem_of_getElem? (i := 9) rfl)) (jWr_4 _ (List.mem_of_getElem? (i := 14) rfl)) (jWr_37 _ (List.mem_of_getElem? (i := 10) rfl))) rfl rfl rfl (by decide +kernel) ⟨by rw [← hR]; exact Nat.le_of_ble_eq_true rfl, by rw [← hR]; exact Nat.le_of_ble_eq_true rfl⟩) ⟨fun a U g mk q => by obtain ⟨q0, q1, q2, qK, q10, q11, q12⟩ := q; exact ⟨q0, q1, q2, jG.calling g mk a qK, q10, q11, q12⟩, hh_18.recv (C := RX10) (T := TX10) (N := 11) hB12 rfl (by decide) hg_r0 hK, fun U hU hW => ⟨rfl, hU, hh_18.2.1, hG.step hW hU hh_18.1, hg_r0, (hh_18.2.2.1.sub (L1 := [(r0, 12, 3, .int wk_5)]) [0] rfl), by first | omega | (refine ⟨?_, ?_, ?_, ?_⟩ <;> (first | omega | rfl | assumption | decide | exact Or.inl rfl | exact Or.inr rfl | (simp only; omega)))⟩⟩ rfl rfl hl.1 rfl (lv_room (Nat.le_of_ble_eq_true rfl)) dX10_scan_146 ⟨Nat.zero_le _, Nat.zero_le _⟩) hh_18.1 (fun q _ h => h) (fun q h => h) (fun u_82 t_82 H_82 locs_82 ht_82 hvm_82 hr_83 hb_82 hz_82 hk_82 hS_82 => ?_)
                obtain ⟨qk_82, rfl⟩ : ∃ z, z = u_82 := ⟨_, rfl⟩
                rw [ht_82] at hb_82
                obtain ⟨hb_821, hb_822, hb_823, hb_824, hb_825⟩ := hb_82
                have hh_82 : jSt (dC, dI) B base G0 G0 EX10_scanT s.heap 0 0 [(r0, 12, 3, .int qk_82)] [(r1, 173, n1, ca 1, f1)] [] H_82 locs_82 := ((hh_18.call hb_821 hb_822 hb_823 hb_824 hS_82 rfl (L1 := []) [] rfl rfl (M1 := [(r1, 173, n1, ca 1, f1)]) [0] rfl rfl (I1 := []) [] rfl rfl).more hb_825)
                clear hh_18 ht_82 hvm_82 hz_82 hk_82 hS_82 hb_821 hb_822 hb_823 hb_824 hb_825
                refine lv_goto (tgt := 226) hx hb dX10_scan_149 (by decide) ?_
                refine lv_iload hx hb dX10_scan_226 (lv_at hl 6 rfl) ?_
                refine lv_iconst (v := 1) hx hb dX10_scan_228 (by decide) ?_
                refine lv_iadd hx hb dX10_scan_229 ?_
                refine lv_topi (fun z_84 ez_84 => ?_)
                have hz_84 : z_84.toInt = v5_5.toInt + 1 := by rw [ez_84]; exact jb_iadd2 (rfl) ((by decide)) (by omega)
                refine lv_iload hx hb dX10_scan_230 (lv_at hl 0 rfl) ?_
                refine va_mmax hx hb (by rw [hml]; exact hl.1.symm) hown (htw (.methodLink RX10 38 Lib.Math.max.name) (jWr_37 _ (List.mem_of_getElem? (i := 1) rfl))) (htw (.static Lib.Math.max.name) (jWr_3 _ (List.mem_of_getElem? (i := 6) rfl))) (htw (.initialized "java/lang/Math") (jWr_3 _ (List.mem_of_getElem? (i := 7) rfl))) (htw (.code Lib.Math.max.name Lib.Math.max.code 2 (some .int)) (jWr_3 _ (List.mem_of_getElem? (i := 8) rfl))) (by rw [← hR]; exact Nat.le_of_ble_eq_true rfl) (by rw [← hR]; exact Nat.le_of_ble_eq_true rfl) (Nat.zero_le _) (Nat.zero_le _) dX10_scan_232 ?_
                refine lv_topi (fun z_85 ez_85 => ?_)
                have hz_85 := jb_max ez_85
                refine lv_istore (lv' := [(5, .int z_85), (6, .int z_7), (0, .ref r0), (1, .ref r1), (2, .int a2), (3, .int a3), (4, .int z_3)]) hx hb dX10_scan_235 hl (by decide) rfl (fun ls hl => ?_)
                refine lv_goto (tgt := 20) hx hb dX10_scan_237 (by decide) ?_
                exact L20 z_85 qk_82 (kf - 1) _ _ hh_82 (by have hk9 : 1 + jcK f1 nn a3.toInt (kf - 1) (z_85).toInt = jcK f1 nn a3.toInt kf v5_5.toInt := jcK_o (by omega) (by omega) hn9 hl9 (by rw [← hqz_15]; first | omega | (rw [← hq104]; omega)) (fun h9 => by have h8 := jcBd h9; omega) (by omega); exact ⟨by omega, by omega, by omega, by omega, by omega, by have h9 := hi_5_5; omega, by rw [show (z_85).toInt = v5_5.toInt + 1 by omega]; exact jcV.ot hi_5_6 (by omega) (by omega) hn9⟩) (by omega) _ (lv_sub hl [2, 3, 4, 5, 6, 0] rfl)
            · skip
              have c_16' : z_15.toInt = 45 := jb_ne_n (rfl) ((by decide)) c_16
              refine lv_iload hx hb dX10_scan_90 (lv_at hl 6 rfl) ?_
              refine lv_iconst (v := 1) hx hb dX10_scan_92 (by decide) ?_
              refine lv_iadd hx hb dX10_scan_93 ?_
              refine lv_topi (fun z_86 ez_86 => ?_)
              have hz_86 : z_86.toInt = v5_5.toInt + 1 := by rw [ez_86]; exact jb_iadd2 (rfl) ((by decide)) (by omega)
              refine lv_iload hx hb dX10_scan_94 (lv_at hl 5 rfl) ?_
              refine lv_icmp_ge (tgt := 126) hx hb dX10_scan_96 (by decide) (fun c_87 => ?_) (fun c_87 => ?_)
              · skip
                have c_87' : z_86.toInt ≥ z_3.toInt := jb_ge (rfl) (rfl) c_87
                refine lv_aload_n hx hb dX10_scan_126 rfl (lv_at hl 2 rfl) ?_
                refine lv_iload hx hb dX10_scan_127 (lv_at hl 6 rfl) ?_
                refine j7_ialdM hx hb hK hh_12 hB173 1 rfl (by decide) hg_r1 (x := v5_5.toInt) (rfl) (by omega) (j := 0) rfl dX10_scan_129 (fun z_88 ez_88 (hz_88 : True) => ?_)
                have hqz_88 : z_88.toInt = jSo f1 (v5_5.toInt) := by unfold jSo; rw [ez_88]
                refine va_calli (A0 := jA base) (H0 := s.heap) (va_runSN (As := [.int z_88]) (rest := []) ⟨hx, hb, hml, hown, hts⟩ (uX11_isDigitT l dC dI ca base B hB hAp G0 H_12 z_88) ⟨va_cnB 1 hts (jgW (jWr_22 _ (List.mem_of_getElem? (i := 15) rfl))) rfl rfl rfl (hG.2.2.1 RX10 60 yX11_isDigit "ProofServer" (List.mem_of_getElem? (i := 1150) (by decide +kernel))) (htw (.initialized RX11) (jWr_1 _ (List.mem_of_getElem? (i := 2) rfl))) (by decide +kernel) ⟨by rw [← hR]; exact Nat.le_of_ble_eq_true rfl, by rw [← hR]; exact Nat.le_of_ble_eq_true rfl⟩, htw (.static yX11_isDigit) (jWr_22 _ (List.mem_of_getElem? (i := 14) rfl)), trivial⟩ ⟨fun a U g mk q => by obtain ⟨q0, q1, q2, qK, q10, q11⟩ := q; exact ⟨q0, q1, q2, jG.calling g mk a qK, q10, q11⟩, fun U hU hW => ⟨rfl, hU, hh_12.2.1, hG.step hW hU hh_12.1, jP.nil, trivial⟩⟩ rfl rfl hl.1 rfl (lv_room (Nat.le_of_ble_eq_true rfl)) dX10_scan_130 ⟨Nat.zero_le _, Nat.zero_le _⟩) hh_12.1 (fun q _ h => h) (fun q h => h) (fun r_90 u_89 t_89 H_89 locs_89 ht_89 hvm_89 hr_90 hb_89 hz_89 hk_89 hS_89 => ?_)
                rw [ht_89] at hb_89
                obtain ⟨hb_891, hb_892, hb_893, hb_894, hb_895⟩ := hb_89
                have hh_89 : jSt (dC, dI) B base G0 G0 EX10_scanT s.heap 0 0 [(r0, 12, 3, .int wk_5)] [(r1, 173, n1, ca 1, f1)] [] H_89 locs_89 := ((hh_12.call hb_891 hb_892 hb_893 hb_894 hS_89 rfl (L1 := [(r0, 12, 3, .int wk_5)]) [0] rfl rfl (M1 := [(r1, 173, n1, ca 1, f1)]) [0] rfl rfl (I1 := []) [] rfl rfl).more hb_895)
                clear hh_12 ht_89 hvm_89 hz_89 hk_89 hS_89 hb_891 hb_892 hb_893 hb_894 hb_895
                obtain ⟨hr_90b, hr_90p⟩ := hr_90
                have hr_90' := jb_01 hr_90b
                refine lv_if_eq (tgt := 152) hx hb dX10_scan_133 (by decide) (fun c_91 => ?_) (fun c_91 => ?_)
                · skip
                  have c_91' : r_90.toInt = 0 := jb_eq (rfl) ((by decide)) c_91
                  refine lv_aload_n hx hb dX10_scan_152 rfl (lv_at hl 2 rfl) ?_
                  refine lv_iload hx hb dX10_scan_153 (lv_at hl 6 rfl) ?_
                  refine j7_ialdM hx hb hK hh_89 hB173 1 rfl (by decide) hg_r1 (x := v5_5.toInt) (rfl) (by omega) (j := 0) rfl dX10_scan_155 (fun z_92 ez_92 (hz_92 : True) => ?_)
                  have hqz_92 : z_92.toInt = jSo f1 (v5_5.toInt) := by unfold jSo; rw [ez_92]
                  refine va_calli (A0 := jA base) (H0 := s.heap) (va_runSN (As := [.int z_92]) (rest := []) ⟨hx, hb, hml, hown, hts⟩ (uX11_isBlankP l dC dI ca base B hB hAp G0 H_89 z_92) ⟨va_cnB 1 hts (jgW (jWr_20 _ (List.mem_of_getElem? (i := 0) rfl))) rfl rfl rfl (hG.2.2.1 RX10 63 yX11_isBlank "ProofServer" (List.mem_of_getElem? (i := 1151) (by decide +kernel))) (htw (.initialized RX11) (jWr_1 _ (List.mem_of_getElem? (i := 2) rfl))) (by decide +kernel) ⟨by rw [← hR]; exact Nat.le_of_ble_eq_true rfl, by rw [← hR]; exact Nat.le_of_ble_eq_true rfl⟩, htw (.static yX11_isBlank) (jWr_19 _ (List.mem_of_getElem? (i := 23) rfl)), trivial⟩ ⟨fun a U g mk q => by obtain ⟨q0, q1, q2, qK, q10, q11⟩ := q; exact ⟨q0, q1, q2, jG.calling g mk a qK, q10, q11⟩, fun U hU hW => ⟨rfl, hU, hh_89.2.1, hG.step hW hU hh_89.1, jP.nil, trivial⟩⟩ rfl rfl hl.1 rfl (lv_room (Nat.le_of_ble_eq_true rfl)) dX10_scan_156 ⟨Nat.zero_le _, Nat.zero_le _⟩) hh_89.1 (fun q _ h => h) (fun q h => h) (fun r_94 u_93 t_93 H_93 locs_93 ht_93 hvm_93 hr_94 hb_93 hz_93 hk_93 hS_93 => ?_)
                  rw [ht_93] at hb_93
                  obtain ⟨hb_931, hb_932, hb_933, hb_934, hb_935⟩ := hb_93
                  have hh_93 : jSt (dC, dI) B base G0 G0 EX10_scanT s.heap 0 0 [(r0, 12, 3, .int wk_5)] [(r1, 173, n1, ca 1, f1)] [] H_93 locs_93 := ((hh_89.call hb_931 hb_932 hb_933 hb_934 hS_93 rfl (L1 := [(r0, 12, 3, .int wk_5)]) [0] rfl rfl (M1 := [(r1, 173, n1, ca 1, f1)]) [0] rfl rfl (I1 := []) [] rfl rfl).more hb_935)
                  clear hh_89 ht_93 hvm_93 hz_93 hk_93 hS_93 hb_931 hb_932 hb_933 hb_934 hb_935
                  obtain ⟨hr_94b, hr_94p⟩ := hr_94
                  have hr_94' := jb_01 hr_94b
                  refine lv_if_ne (tgt := 226) hx hb dX10_scan_159 (by decide) (fun c_95 => ?_) (fun c_95 => ?_)
                  · skip
                    have c_95' : r_94.toInt ≠ 0 := jb_ne (rfl) ((by decide)) c_95
                    refine lv_iload hx hb dX10_scan_226 (lv_at hl 6 rfl) ?_
                    refine lv_iconst (v := 1) hx hb dX10_scan_228 (by decide) ?_
                    refine lv_iadd hx hb dX10_scan_229 ?_
                    refine lv_topi (fun z_96 ez_96 => ?_)
                    have hz_96 : z_96.toInt = v5_5.toInt + 1 := by rw [ez_96]; exact jb_iadd2 (rfl) ((by decide)) (by omega)
                    refine lv_iload hx hb dX10_scan_230 (lv_at hl 0 rfl) ?_
                    refine va_mmax hx hb (by rw [hml]; exact hl.1.symm) hown (htw (.methodLink RX10 38 Lib.Math.max.name) (jWr_37 _ (List.mem_of_getElem? (i := 1) rfl))) (htw (.static Lib.Math.max.name) (jWr_3 _ (List.mem_of_getElem? (i := 6) rfl))) (htw (.initialized "java/lang/Math") (jWr_3 _ (List.mem_of_getElem? (i := 7) rfl))) (htw (.code Lib.Math.max.name Lib.Math.max.code 2 (some .int)) (jWr_3 _ (List.mem_of_getElem? (i := 8) rfl))) (by rw [← hR]; exact Nat.le_of_ble_eq_true rfl) (by rw [← hR]; exact Nat.le_of_ble_eq_true rfl) (Nat.zero_le _) (Nat.zero_le _) dX10_scan_232 ?_
                    refine lv_topi (fun z_97 ez_97 => ?_)
                    have hz_97 := jb_max ez_97
                    refine lv_istore (lv' := [(5, .int z_97), (6, .int z_7), (0, .ref r0), (1, .ref r1), (2, .int a2), (3, .int a3), (4, .int z_3)]) hx hb dX10_scan_235 hl (by decide) rfl (fun ls hl => ?_)
                    refine lv_goto (tgt := 20) hx hb dX10_scan_237 (by decide) ?_
                    exact L20 z_97 wk_5 (kf - 1) _ _ hh_93 (by have hk9 : jcK f1 nn a3.toInt (kf - 1) (z_97).toInt = jcK f1 nn a3.toInt kf v5_5.toInt := jcK_b (by omega) (by omega) (by rw [← hqz_92, ← hr_94p]; omega) (by omega); exact ⟨by omega, by omega, by omega, by omega, by omega, by have h9 := hi_5_5; omega, by rw [show (z_97).toInt = v5_5.toInt + 1 by omega]; exact jcV.ot hi_5_6 (by omega) (by omega) hn9⟩) (by omega) _ (lv_sub hl [2, 3, 4, 5, 6, 0] rfl)
                  · skip
                    have c_95' : r_94.toInt = 0 := jb_ne_n (rfl) ((by decide)) c_95
                    refine lv_aload_n hx hb dX10_scan_162 rfl (lv_at hl 2 rfl) ?_
                    refine lv_iload hx hb dX10_scan_163 (lv_at hl 6 rfl) ?_
                    refine j7_ialdM hx hb hK hh_93 hB173 1 rfl (by decide) hg_r1 (x := v5_5.toInt) (rfl) (by omega) (j := 0) rfl dX10_scan_165 (fun z_98 ez_98 (hz_98 : True) => ?_)
                    have hqz_98 : z_98.toInt = jSo f1 (v5_5.toInt) := by unfold jSo; rw [ez_98]
                    refine lv_bipush (v := 46) hx hb dX10_scan_166 (by decide) ?_
                    refine lv_icmp_ne (tgt := 178) hx hb dX10_scan_168 (by decide) (fun c_99 => ?_) (fun c_99 => ?_)
                    · skip
                      have c_99' : z_98.toInt ≠ 46 := jb_ne (rfl) ((by decide)) c_99
                      refine lv_aload_n hx hb dX10_scan_178 rfl (lv_at hl 2 rfl) ?_
                      refine lv_iload hx hb dX10_scan_179 (lv_at hl 6 rfl) ?_
                      refine j7_ialdM hx hb hK hh_93 hB173 1 rfl (by decide) hg_r1 (x := v5_5.toInt) (rfl) (by omega) (j := 0) rfl dX10_scan_181 (fun z_100 ez_100 (hz_100 : True) => ?_)
                      have hqz_100 : z_100.toInt = jSo f1 (v5_5.toInt) := by unfold jSo; rw [ez_100]
                      refine lv_sipush (v := 128) hx hb dX10_scan_182 (by decide) ?_
                      refine lv_icmp_ge (tgt := 205) hx hb dX10_scan_185 (by decide) (fun c_101 => ?_) (fun c_101 => ?_)
                      · skip
                        have c_101' : z_100.toInt ≥ 128 := jb_ge (rfl) ((by decide)) c_101
                        refine lv_iconst (v := 0) hx hb dX10_scan_205 (by decide) ?_
                        refine lv_istore (lv' := [(7, .int 0), (6, .int z_7), (0, .ref r0), (1, .ref r1), (2, .int a2), (3, .int a3), (4, .int z_3), (5, .int v5_5)]) hx hb dX10_scan_206 hl (by decide) rfl (fun ls hl => ?_)
                        refine lv_aload_n hx hb dX10_scan_208 rfl (lv_at hl 2 rfl) ?_
                        refine lv_iload hx hb dX10_scan_209 (lv_at hl 0 rfl) ?_
                        refine lv_if_eq (tgt := 221) hx hb dX10_scan_211 (by decide) (fun c_102 => ?_) (fun c_102 => ?_)
                        · skip
                          refine lv_iconst (v := 0) hx hb dX10_scan_221 (by decide) ?_
                          refine lv_iconst (v := 0) hx hb dX10_scan_222 (by decide) ?_
                          refine va_callv (A0 := jA base) (H0 := s.heap) (va_runV (As := [.int 0, .int 0]) (rest := []) ⟨hx, hb, hml, hown, hts⟩ (uX10_addT l dC dI ca base B hB hAp hB12 hB101 hB293 G0 H_93 r0 0 0 wk_5) (cwV 2 hts (jgV (jWr_37 _ (List.mem_of_getElem? (i := 7) rfl)) (jWr_37 _ (List.mem_of_getElem? (i := 8) rfl)) (jWr_37 _ (List.mem_of_getElem? (i := 9) rfl)) (jWr_4 _ (List.mem_of_getElem? (i := 14) rfl)) (jWr_37 _ (List.mem_of_getElem? (i := 10) rfl))) rfl rfl rfl (by decide +kernel) ⟨by rw [← hR]; exact Nat.le_of_ble_eq_true rfl, by rw [← hR]; exact Nat.le_of_ble_eq_true rfl⟩) ⟨fun a U g mk q => by obtain ⟨q0, q1, q2, qK, q10, q11, q12⟩ := q; exact ⟨q0, q1, q2, jG.calling g mk a qK, q10, q11, q12⟩, hh_93.recv (C := RX10) (T := TX10) (N := 11) hB12 rfl (by decide) hg_r0 hK, fun U hU hW => ⟨rfl, hU, hh_93.2.1, hG.step hW hU hh_93.1, hg_r0, (hh_93.2.2.1.sub (L1 := [(r0, 12, 3, .int wk_5)]) [0] rfl), by first | omega | (refine ⟨?_, ?_, ?_, ?_⟩ <;> (first | omega | rfl | assumption | decide | exact Or.inl rfl | exact Or.inr rfl | (simp only; omega)))⟩⟩ rfl rfl hl.1 rfl (lv_room (Nat.le_of_ble_eq_true rfl)) dX10_scan_223 ⟨Nat.zero_le _, Nat.zero_le _⟩) hh_93.1 (fun q _ h => h) (fun q h => h) (fun u_103 t_103 H_103 locs_103 ht_103 hvm_103 hr_104 hb_103 hz_103 hk_103 hS_103 => ?_)
                          obtain ⟨qk_103, rfl⟩ : ∃ z, z = u_103 := ⟨_, rfl⟩
                          rw [ht_103] at hb_103
                          obtain ⟨hb_1031, hb_1032, hb_1033, hb_1034, hb_1035⟩ := hb_103
                          have hh_103 : jSt (dC, dI) B base G0 G0 EX10_scanT s.heap 0 0 [(r0, 12, 3, .int qk_103)] [(r1, 173, n1, ca 1, f1)] [] H_103 locs_103 := ((hh_93.call hb_1031 hb_1032 hb_1033 hb_1034 hS_103 rfl (L1 := []) [] rfl rfl (M1 := [(r1, 173, n1, ca 1, f1)]) [0] rfl rfl (I1 := []) [] rfl rfl).more hb_1035)
                          clear hh_93 ht_103 hvm_103 hz_103 hk_103 hS_103 hb_1031 hb_1032 hb_1033 hb_1034 hb_1035
                          refine lv_iload hx hb dX10_scan_226 (lv_at hl 7 rfl) ?_
                          refine lv_iconst (v := 1) hx hb dX10_scan_228 (by decide) ?_
                          refine lv_iadd hx hb dX10_scan_229 ?_
                          refine lv_topi (fun z_105 ez_105 => ?_)
                          have hz_105 : z_105.toInt = v5_5.toInt + 1 := by rw [ez_105]; exact jb_iadd2 (rfl) ((by decide)) (by omega)
                          refine lv_iload hx hb dX10_scan_230 (lv_at hl 1 rfl) ?_
                          refine va_mmax hx hb (by rw [hml]; exact hl.1.symm) hown (htw (.methodLink RX10 38 Lib.Math.max.name) (jWr_37 _ (List.mem_of_getElem? (i := 1) rfl))) (htw (.static Lib.Math.max.name) (jWr_3 _ (List.mem_of_getElem? (i := 6) rfl))) (htw (.initialized "java/lang/Math") (jWr_3 _ (List.mem_of_getElem? (i := 7) rfl))) (htw (.code Lib.Math.max.name Lib.Math.max.code 2 (some .int)) (jWr_3 _ (List.mem_of_getElem? (i := 8) rfl))) (by rw [← hR]; exact Nat.le_of_ble_eq_true rfl) (by rw [← hR]; exact Nat.le_of_ble_eq_true rfl) (Nat.zero_le _) (Nat.zero_le _) dX10_scan_232 ?_
                          refine lv_topi (fun z_106 ez_106 => ?_)
                          have hz_106 := jb_max ez_106
                          refine lv_istore (lv' := [(5, .int z_106), (7, .int 0), (6, .int z_7), (0, .ref r0), (1, .ref r1), (2, .int a2), (3, .int a3), (4, .int z_3)]) hx hb dX10_scan_235 hl (by decide) rfl (fun ls hl => ?_)
                          refine lv_goto (tgt := 20) hx hb dX10_scan_237 (by decide) ?_
                          exact L20 z_106 qk_103 (kf - 1) _ _ hh_103 (by have hk9 : 1 + jcK f1 nn a3.toInt (kf - 1) (z_106).toInt = jcK f1 nn a3.toInt kf v5_5.toInt := jcK_o (by omega) (by omega) hn9 hl9 (by rw [← hqz_15]; first | omega | (rw [← hq104]; omega)) (by rw [← hqz_92, ← hr_94p]; omega) (by omega); exact ⟨by omega, by omega, by omega, by omega, by omega, by have h9 := hi_5_5; omega, by rw [show (z_106).toInt = v5_5.toInt + 1 by omega]; exact jcV.ot hi_5_6 (by omega) (by omega) hn9⟩) (by omega) _ (lv_sub hl [3, 4, 5, 6, 7, 0] rfl)
                        · skip
                          exact absurd c_102 (by decide)
                      · skip
                        have c_101' : z_100.toInt < 128 := jb_ge_n (rfl) ((by decide)) c_101
                        refine va_ldcS hx hb hown rstr66 dX10_scan_188 ?_
                        refine lv_aload_n hx hb dX10_scan_190 rfl (lv_at hl 2 rfl) ?_
                        refine lv_iload hx hb dX10_scan_191 (lv_at hl 6 rfl) ?_
                        refine j7_ialdM hx hb hK hh_93 hB173 1 rfl (by decide) hg_r1 (x := v5_5.toInt) (rfl) (by omega) (j := 0) rfl dX10_scan_193 (fun z_107 ez_107 (hz_107 : True) => ?_)
                        have hqz_107 : z_107.toInt = jSo f1 (v5_5.toInt) := by unfold jSo; rw [ez_107]
                        refine lv_i2c hx hb dX10_scan_194 rfl ?_
                        refine lv_topi (fun z_108 ez_108 => ?_)
                        refine vp_callSi (W.runV (As := [.int z_108]) (rest := []) ⟨hx, hb, hml, hown, hts⟩ (wJ0_indexOf_0f7a4 l dC dI ca base H_93 str66 8 z_108) (cwV 1 hts (jgV (jWr_37 _ (List.mem_of_getElem? (i := 11) rfl)) (jWr_37 _ (List.mem_of_getElem? (i := 12) rfl)) (jWr_37 _ (List.mem_of_getElem? (i := 13) rfl)) (jWr_5 _ (List.mem_of_getElem? (i := 15) rfl)) (jWr_37 _ (List.mem_of_getElem? (i := 14) rfl))) rfl rfl rfl (by decide +kernel) ⟨by rw [← hR]; exact Nat.le_of_ble_eq_true rfl, by rw [← hR]; exact Nat.le_of_ble_eq_true rfl⟩) ⟨fun a U g mk q => by obtain ⟨q0, q1, q2, qK, q9⟩ := q; exact ⟨q0, q1, (q2.moved (Vm.Alike.refl U.vm)), jG.calling g mk a qK, q9⟩, jStr_recv hstr66 hh_93.1, fun U hU hW => ⟨rfl, hU, (hstr66.moved hW.alike).kept hh_93.1.2.1, hG.step hW hU hh_93.1, by omega⟩⟩ rfl rfl hl.1 rfl (lv_room (Nat.le_of_ble_eq_true rfl)) dX10_scan_195 ⟨Nat.zero_le _, Nat.zero_le _⟩) (fun r_109 hr_109 => ?_)
                        refine lv_if_lt (tgt := 205) hx hb dX10_scan_198 (by decide) (fun c_110 => ?_) (fun c_110 => ?_)
                        · skip
                          have c_110' : r_109.toInt < 0 := jb_lt (rfl) ((by decide)) c_110
                          refine lv_iconst (v := 0) hx hb dX10_scan_205 (by decide) ?_
                          refine lv_istore (lv' := [(7, .int 0), (6, .int z_7), (0, .ref r0), (1, .ref r1), (2, .int a2), (3, .int a3), (4, .int z_3), (5, .int v5_5)]) hx hb dX10_scan_206 hl (by decide) rfl (fun ls hl => ?_)
                          refine lv_aload_n hx hb dX10_scan_208 rfl (lv_at hl 2 rfl) ?_
                          refine lv_iload hx hb dX10_scan_209 (lv_at hl 0 rfl) ?_
                          refine lv_if_eq (tgt := 221) hx hb dX10_scan_211 (by decide) (fun c_111 => ?_) (fun c_111 => ?_)
                          · skip
                            refine lv_iconst (v := 0) hx hb dX10_scan_221 (by decide) ?_
                            refine lv_iconst (v := 0) hx hb dX10_scan_222 (by decide) ?_
                            refine va_callv (A0 := jA base) (H0 := s.heap) (va_runV (As := [.int 0, .int 0]) (rest := []) ⟨hx, hb, hml, hown, hts⟩ (uX10_addT l dC dI ca base B hB hAp hB12 hB101 hB293 G0 H_93 r0 0 0 wk_5) (cwV 2 hts (jgV (jWr_37 _ (List.mem_of_getElem? (i := 7) rfl)) (jWr_37 _ (List.mem_of_getElem? (i := 8) rfl)) (jWr_37 _ (List.mem_of_getElem? (i := 9) rfl)) (jWr_4 _ (List.mem_of_getElem? (i := 14) rfl)) (jWr_37 _ (List.mem_of_getElem? (i := 10) rfl))) rfl rfl rfl (by decide +kernel) ⟨by rw [← hR]; exact Nat.le_of_ble_eq_true rfl, by rw [← hR]; exact Nat.le_of_ble_eq_true rfl⟩) ⟨fun a U g mk q => by obtain ⟨q0, q1, q2, qK, q10, q11, q12⟩ := q; exact ⟨q0, q1, q2, jG.calling g mk a qK, q10, q11, q12⟩, hh_93.recv (C := RX10) (T := TX10) (N := 11) hB12 rfl (by decide) hg_r0 hK, fun U hU hW => ⟨rfl, hU, hh_93.2.1, hG.step hW hU hh_93.1, hg_r0, (hh_93.2.2.1.sub (L1 := [(r0, 12, 3, .int wk_5)]) [0] rfl), by first | omega | (refine ⟨?_, ?_, ?_, ?_⟩ <;> (first | omega | rfl | assumption | decide | exact Or.inl rfl | exact Or.inr rfl | (simp only; omega)))⟩⟩ rfl rfl hl.1 rfl (lv_room (Nat.le_of_ble_eq_true rfl)) dX10_scan_223 ⟨Nat.zero_le _, Nat.zero_le _⟩) hh_93.1 (fun q _ h => h) (fun q h => h) (fun u_112 t_112 H_112 locs_112 ht_112 hvm_112 hr_113 hb_112 hz_112 hk_112 hS_112 => ?_)
                            obtain ⟨qk_112, rfl⟩ : ∃ z, z = u_112 := ⟨_, rfl⟩
                            rw [ht_112] at hb_112
                            obtain ⟨hb_1121, hb_1122, hb_1123, hb_1124, hb_1125⟩ := hb_112
                            have hh_112 : jSt (dC, dI) B base G0 G0 EX10_scanT s.heap 0 0 [(r0, 12, 3, .int qk_112)] [(r1, 173, n1, ca 1, f1)] [] H_112 locs_112 := ((hh_93.call hb_1121 hb_1122 hb_1123 hb_1124 hS_112 rfl (L1 := []) [] rfl rfl (M1 := [(r1, 173, n1, ca 1, f1)]) [0] rfl rfl (I1 := []) [] rfl rfl).more hb_1125)
                            clear hh_93 ht_112 hvm_112 hz_112 hk_112 hS_112 hb_1121 hb_1122 hb_1123 hb_1124 hb_1125
                            refine lv_iload hx hb dX10_scan_226 (lv_at hl 7 rfl) ?_
                            refine lv_iconst (v := 1) hx hb dX10_scan_228 (by decide) ?_
                            refine lv_iadd hx hb dX10_scan_229 ?_
                            refine lv_topi (fun z_114 ez_114 => ?_)
                            have hz_114 : z_114.toInt = v5_5.toInt + 1 := by rw [ez_114]; exact jb_iadd2 (rfl) ((by decide)) (by omega)
                            refine lv_iload hx hb dX10_scan_230 (lv_at hl 1 rfl) ?_
                            refine va_mmax hx hb (by rw [hml]; exact hl.1.symm) hown (htw (.methodLink RX10 38 Lib.Math.max.name) (jWr_37 _ (List.mem_of_getElem? (i := 1) rfl))) (htw (.static Lib.Math.max.name) (jWr_3 _ (List.mem_of_getElem? (i := 6) rfl))) (htw (.initialized "java/lang/Math") (jWr_3 _ (List.mem_of_getElem? (i := 7) rfl))) (htw (.code Lib.Math.max.name Lib.Math.max.code 2 (some .int)) (jWr_3 _ (List.mem_of_getElem? (i := 8) rfl))) (by rw [← hR]; exact Nat.le_of_ble_eq_true rfl) (by rw [← hR]; exact Nat.le_of_ble_eq_true rfl) (Nat.zero_le _) (Nat.zero_le _) dX10_scan_232 ?_
                            refine lv_topi (fun z_115 ez_115 => ?_)
                            have hz_115 := jb_max ez_115
                            refine lv_istore (lv' := [(5, .int z_115), (7, .int 0), (6, .int z_7), (0, .ref r0), (1, .ref r1), (2, .int a2), (3, .int a3), (4, .int z_3)]) hx hb dX10_scan_235 hl (by decide) rfl (fun ls hl => ?_)
                            refine lv_goto (tgt := 20) hx hb dX10_scan_237 (by decide) ?_
                            exact L20 z_115 qk_112 (kf - 1) _ _ hh_112 (by have hk9 : 1 + jcK f1 nn a3.toInt (kf - 1) (z_115).toInt = jcK f1 nn a3.toInt kf v5_5.toInt := jcK_o (by omega) (by omega) hn9 hl9 (by rw [← hqz_15]; first | omega | (rw [← hq104]; omega)) (by rw [← hqz_92, ← hr_94p]; omega) (by omega); exact ⟨by omega, by omega, by omega, by omega, by omega, by have h9 := hi_5_5; omega, by rw [show (z_115).toInt = v5_5.toInt + 1 by omega]; exact jcV.ot hi_5_6 (by omega) (by omega) hn9⟩) (by omega) _ (lv_sub hl [3, 4, 5, 6, 7, 0] rfl)
                          · skip
                            exact absurd c_111 (by decide)
                        · skip
                          have c_110' : r_109.toInt ≥ 0 := jb_lt_n (rfl) ((by decide)) c_110
                          refine lv_iconst (v := 1) hx hb dX10_scan_201 (by decide) ?_
                          refine lv_goto (tgt := 206) hx hb dX10_scan_202 (by decide) ?_
                          refine lv_istore (lv' := [(7, .int 1), (6, .int z_7), (0, .ref r0), (1, .ref r1), (2, .int a2), (3, .int a3), (4, .int z_3), (5, .int v5_5)]) hx hb dX10_scan_206 hl (by decide) rfl (fun ls hl => ?_)
                          refine lv_aload_n hx hb dX10_scan_208 rfl (lv_at hl 2 rfl) ?_
                          refine lv_iload hx hb dX10_scan_209 (lv_at hl 0 rfl) ?_
                          refine lv_if_eq (tgt := 221) hx hb dX10_scan_211 (by decide) (fun c_116 => ?_) (fun c_116 => ?_)
                          · skip
                            exact absurd c_116 (by decide)
                          · skip
                            refine lv_aload_n hx hb dX10_scan_214 rfl (lv_at hl 3 rfl) ?_
                            refine lv_iload hx hb dX10_scan_215 (lv_at hl 7 rfl) ?_
                            refine j7_ialdM hx hb hK hh_93 hB173 1 rfl (by decide) hg_r1 (x := v5_5.toInt) (rfl) (by omega) (j := 0) rfl dX10_scan_217 (fun z_117 ez_117 (hz_117 : True) => ?_)
                            have hqz_117 : z_117.toInt = jSo f1 (v5_5.toInt) := by unfold jSo; rw [ez_117]
                            refine lv_goto (tgt := 222) hx hb dX10_scan_218 (by decide) ?_
                            refine lv_iconst (v := 0) hx hb dX10_scan_222 (by decide) ?_
                            refine va_callv (A0 := jA base) (H0 := s.heap) (va_runV (As := [.int z_117, .int 0]) (rest := []) ⟨hx, hb, hml, hown, hts⟩ (uX10_addT l dC dI ca base B hB hAp hB12 hB101 hB293 G0 H_93 r0 z_117 0 wk_5) (cwV 2 hts (jgV (jWr_37 _ (List.mem_of_getElem? (i := 7) rfl)) (jWr_37 _ (List.mem_of_getElem? (i := 8) rfl)) (jWr_37 _ (List.mem_of_getElem? (i := 9) rfl)) (jWr_4 _ (List.mem_of_getElem? (i := 14) rfl)) (jWr_37 _ (List.mem_of_getElem? (i := 10) rfl))) rfl rfl rfl (by decide +kernel) ⟨by rw [← hR]; exact Nat.le_of_ble_eq_true rfl, by rw [← hR]; exact Nat.le_of_ble_eq_true rfl⟩) ⟨fun a U g mk q => by obtain ⟨q0, q1, q2, qK, q10, q11, q12⟩ := q; exact ⟨q0, q1, q2, jG.calling g mk a qK, q10, q11, q12⟩, hh_93.recv (C := RX10) (T := TX10) (N := 11) hB12 rfl (by decide) hg_r0 hK, fun U hU hW => ⟨rfl, hU, hh_93.2.1, hG.step hW hU hh_93.1, hg_r0, (hh_93.2.2.1.sub (L1 := [(r0, 12, 3, .int wk_5)]) [0] rfl), by first | omega | (refine ⟨?_, ?_, ?_, ?_⟩ <;> (first | omega | rfl | assumption | decide | exact Or.inl rfl | exact Or.inr rfl | (simp only; omega)))⟩⟩ rfl rfl hl.1 rfl (lv_room (Nat.le_of_ble_eq_true rfl)) dX10_scan_223 ⟨Nat.zero_le _, Nat.zero_le _⟩) hh_93.1 (fun q _ h => h) (fun q h => h) (fun u_118 t_118 H_118 locs_118 ht_118 hvm_118 hr_119 hb_118 hz_118 hk_118 hS_118 => ?_)
                            obtain ⟨qk_118, rfl⟩ : ∃ z, z = u_118 := ⟨_, rfl⟩
                            rw [ht_118] at hb_118
                            obtain ⟨hb_1181, hb_1182, hb_1183, hb_1184, hb_1185⟩ := hb_118
                            have hh_118 : jSt (dC, dI) B base G0 G0 EX10_scanT s.heap 0 0 [(r0, 12, 3, .int qk_118)] [(r1, 173, n1, ca 1, f1)] [] H_118 locs_118 := ((hh_93.call hb_1181 hb_1182 hb_1183 hb_1184 hS_118 rfl (L1 := []) [] rfl rfl (M1 := [(r1, 173, n1, ca 1, f1)]) [0] rfl rfl (I1 := []) [] rfl rfl).more hb_1185)
                            clear hh_93 ht_118 hvm_118 hz_118 hk_118 hS_118 hb_1181 hb_1182 hb_1183 hb_1184 hb_1185
                            refine lv_iload hx hb dX10_scan_226 (lv_at hl 7 rfl) ?_
                            refine lv_iconst (v := 1) hx hb dX10_scan_228 (by decide) ?_
                            refine lv_iadd hx hb dX10_scan_229 ?_
                            refine lv_topi (fun z_120 ez_120 => ?_)
                            have hz_120 : z_120.toInt = v5_5.toInt + 1 := by rw [ez_120]; exact jb_iadd2 (rfl) ((by decide)) (by omega)
                            refine lv_iload hx hb dX10_scan_230 (lv_at hl 1 rfl) ?_
                            refine va_mmax hx hb (by rw [hml]; exact hl.1.symm) hown (htw (.methodLink RX10 38 Lib.Math.max.name) (jWr_37 _ (List.mem_of_getElem? (i := 1) rfl))) (htw (.static Lib.Math.max.name) (jWr_3 _ (List.mem_of_getElem? (i := 6) rfl))) (htw (.initialized "java/lang/Math") (jWr_3 _ (List.mem_of_getElem? (i := 7) rfl))) (htw (.code Lib.Math.max.name Lib.Math.max.code 2 (some .int)) (jWr_3 _ (List.mem_of_getElem? (i := 8) rfl))) (by rw [← hR]; exact Nat.le_of_ble_eq_true rfl) (by rw [← hR]; exact Nat.le_of_ble_eq_true rfl) (Nat.zero_le _) (Nat.zero_le _) dX10_scan_232 ?_
                            refine lv_topi (fun z_121 ez_121 => ?_)
                            have hz_121 := jb_max ez_121
                            refine lv_istore (lv' := [(5, .int z_121), (7, .int 1), (6, .int z_7), (0, .ref r0), (1, .ref r1), (2, .int a2), (3, .int a3), (4, .int z_3)]) hx hb dX10_scan_235 hl (by decide) rfl (fun ls hl => ?_)
                            refine lv_goto (tgt := 20) hx hb dX10_scan_237 (by decide) ?_
                            exact L20 z_121 qk_118 (kf - 1) _ _ hh_118 (by have hk9 : 1 + jcK f1 nn a3.toInt (kf - 1) (z_121).toInt = jcK f1 nn a3.toInt kf v5_5.toInt := jcK_o (by omega) (by omega) hn9 hl9 (by rw [← hqz_15]; first | omega | (rw [← hq104]; omega)) (by rw [← hqz_92, ← hr_94p]; omega) (by omega); exact ⟨by omega, by omega, by omega, by omega, by omega, by have h9 := hi_5_5; omega, by rw [show (z_121).toInt = v5_5.toInt + 1 by omega]; exact jcV.ot hi_5_6 (by omega) (by omega) hn9⟩) (by omega) _ (lv_sub hl [3, 4, 5, 6, 7, 0] rfl)
                    · skip
                      have c_99' : z_98.toInt = 46 := jb_ne_n (rfl) ((by decide)) c_99
                      refine lv_iload hx hb dX10_scan_171 (lv_at hl 0 rfl) ?_
                      refine lv_iload hx hb dX10_scan_173 (lv_at hl 5 rfl) ?_
                      refine lv_icmp_eq (tgt := 201) hx hb dX10_scan_175 (by decide) (fun c_122 => ?_) (fun c_122 => ?_)
                      · skip
                        have c_122' : z_7.toInt = z_3.toInt := jb_eq (rfl) (rfl) c_122
                        refine lv_iconst (v := 1) hx hb dX10_scan_201 (by decide) ?_
                        refine lv_goto (tgt := 206) hx hb dX10_scan_202 (by decide) ?_
                        refine lv_istore (lv' := [(7, .int 1), (6, .int z_7), (0, .ref r0), (1, .ref r1), (2, .int a2), (3, .int a3), (4, .int z_3), (5, .int v5_5)]) hx hb dX10_scan_206 hl (by decide) rfl (fun ls hl => ?_)
                        refine lv_aload_n hx hb dX10_scan_208 rfl (lv_at hl 2 rfl) ?_
                        refine lv_iload hx hb dX10_scan_209 (lv_at hl 0 rfl) ?_
                        refine lv_if_eq (tgt := 221) hx hb dX10_scan_211 (by decide) (fun c_123 => ?_) (fun c_123 => ?_)
                        · skip
                          exact absurd c_123 (by decide)
                        · skip
                          refine lv_aload_n hx hb dX10_scan_214 rfl (lv_at hl 3 rfl) ?_
                          refine lv_iload hx hb dX10_scan_215 (lv_at hl 7 rfl) ?_
                          refine j7_ialdM hx hb hK hh_93 hB173 1 rfl (by decide) hg_r1 (x := v5_5.toInt) (rfl) (by omega) (j := 0) rfl dX10_scan_217 (fun z_124 ez_124 (hz_124 : True) => ?_)
                          have hqz_124 : z_124.toInt = jSo f1 (v5_5.toInt) := by unfold jSo; rw [ez_124]
                          refine lv_goto (tgt := 222) hx hb dX10_scan_218 (by decide) ?_
                          refine lv_iconst (v := 0) hx hb dX10_scan_222 (by decide) ?_
                          refine va_callv (A0 := jA base) (H0 := s.heap) (va_runV (As := [.int z_124, .int 0]) (rest := []) ⟨hx, hb, hml, hown, hts⟩ (uX10_addT l dC dI ca base B hB hAp hB12 hB101 hB293 G0 H_93 r0 z_124 0 wk_5) (cwV 2 hts (jgV (jWr_37 _ (List.mem_of_getElem? (i := 7) rfl)) (jWr_37 _ (List.mem_of_getElem? (i := 8) rfl)) (jWr_37 _ (List.mem_of_getElem? (i := 9) rfl)) (jWr_4 _ (List.mem_of_getElem? (i := 14) rfl)) (jWr_37 _ (List.mem_of_getElem? (i := 10) rfl))) rfl rfl rfl (by decide +kernel) ⟨by rw [← hR]; exact Nat.le_of_ble_eq_true rfl, by rw [← hR]; exact Nat.le_of_ble_eq_true rfl⟩) ⟨fun a U g mk q => by obtain ⟨q0, q1, q2, qK, q10, q11, q12⟩ := q; exact ⟨q0, q1, q2, jG.calling g mk a qK, q10, q11, q12⟩, hh_93.recv (C := RX10) (T := TX10) (N := 11) hB12 rfl (by decide) hg_r0 hK, fun U hU hW => ⟨rfl, hU, hh_93.2.1, hG.step hW hU hh_93.1, hg_r0, (hh_93.2.2.1.sub (L1 := [(r0, 12, 3, .int wk_5)]) [0] rfl), by first | omega | (refine ⟨?_, ?_, ?_, ?_⟩ <;> (first | omega | rfl | assumption | decide | exact Or.inl rfl | exact Or.inr rfl | (simp only; omega)))⟩⟩ rfl rfl hl.1 rfl (lv_room (Nat.le_of_ble_eq_true rfl)) dX10_scan_223 ⟨Nat.zero_le _, Nat.zero_le _⟩) hh_93.1 (fun q _ h => h) (fun q h => h) (fun u_125 t_125 H_125 locs_125 ht_125 hvm_125 hr_126 hb_125 hz_125 hk_125 hS_125 => ?_)
                          obtain ⟨qk_125, rfl⟩ : ∃ z, z = u_125 := ⟨_, rfl⟩
                          rw [ht_125] at hb_125
                          obtain ⟨hb_1251, hb_1252, hb_1253, hb_1254, hb_1255⟩ := hb_125
                          have hh_125 : jSt (dC, dI) B base G0 G0 EX10_scanT s.heap 0 0 [(r0, 12, 3, .int qk_125)] [(r1, 173, n1, ca 1, f1)] [] H_125 locs_125 := ((hh_93.call hb_1251 hb_1252 hb_1253 hb_1254 hS_125 rfl (L1 := []) [] rfl rfl (M1 := [(r1, 173, n1, ca 1, f1)]) [0] rfl rfl (I1 := []) [] rfl rfl).more hb_1255)
                          clear hh_93 ht_125 hvm_125 hz_125 hk_125 hS_125 hb_1251 hb_1252 hb_1253 hb_1254 hb_1255
                          refine lv_iload hx hb dX10_scan_226 (lv_at hl 7 rfl) ?_
                          refine lv_iconst (v := 1) hx hb dX10_scan_228 (by decide) ?_
                          refine lv_iadd hx hb dX10_scan_229 ?_
                          refine lv_topi (fun z_127 ez_127 => ?_)
                          have hz_127 : z_127.toInt = v5_5.toInt + 1 := by rw [ez_127]; exact jb_iadd2 (rfl) ((by decide)) (by omega)
                          refine lv_iload hx hb dX10_scan_230 (lv_at hl 1 rfl) ?_
                          refine va_mmax hx hb (by rw [hml]; exact hl.1.symm) hown (htw (.methodLink RX10 38 Lib.Math.max.name) (jWr_37 _ (List.mem_of_getElem? (i := 1) rfl))) (htw (.static Lib.Math.max.name) (jWr_3 _ (List.mem_of_getElem? (i := 6) rfl))) (htw (.initialized "java/lang/Math") (jWr_3 _ (List.mem_of_getElem? (i := 7) rfl))) (htw (.code Lib.Math.max.name Lib.Math.max.code 2 (some .int)) (jWr_3 _ (List.mem_of_getElem? (i := 8) rfl))) (by rw [← hR]; exact Nat.le_of_ble_eq_true rfl) (by rw [← hR]; exact Nat.le_of_ble_eq_true rfl) (Nat.zero_le _) (Nat.zero_le _) dX10_scan_232 ?_
                          refine lv_topi (fun z_128 ez_128 => ?_)
                          have hz_128 := jb_max ez_128
                          refine lv_istore (lv' := [(5, .int z_128), (7, .int 1), (6, .int z_7), (0, .ref r0), (1, .ref r1), (2, .int a2), (3, .int a3), (4, .int z_3)]) hx hb dX10_scan_235 hl (by decide) rfl (fun ls hl => ?_)
                          refine lv_goto (tgt := 20) hx hb dX10_scan_237 (by decide) ?_
                          exact L20 z_128 qk_125 (kf - 1) _ _ hh_125 (by have hk9 : 1 + jcK f1 nn a3.toInt (kf - 1) (z_128).toInt = jcK f1 nn a3.toInt kf v5_5.toInt := jcK_o (by omega) (by omega) hn9 hl9 (by rw [← hqz_15]; first | omega | (rw [← hq104]; omega)) (by rw [← hqz_92, ← hr_94p]; omega) (by omega); exact ⟨by omega, by omega, by omega, by omega, by omega, by have h9 := hi_5_5; omega, by rw [show (z_128).toInt = v5_5.toInt + 1 by omega]; exact jcV.ot hi_5_6 (by omega) (by omega) hn9⟩) (by omega) _ (lv_sub hl [3, 4, 5, 6, 7, 0] rfl)
                      · skip
                        have c_122' : z_7.toInt ≠ z_3.toInt := jb_eq_n (rfl) (rfl) c_122
                        refine lv_aload_n hx hb dX10_scan_178 rfl (lv_at hl 2 rfl) ?_
                        refine lv_iload hx hb dX10_scan_179 (lv_at hl 6 rfl) ?_
                        refine j7_ialdM hx hb hK hh_93 hB173 1 rfl (by decide) hg_r1 (x := v5_5.toInt) (rfl) (by omega) (j := 0) rfl dX10_scan_181 (fun z_129 ez_129 (hz_129 : True) => ?_)
                        have hqz_129 : z_129.toInt = jSo f1 (v5_5.toInt) := by unfold jSo; rw [ez_129]
                        refine lv_sipush (v := 128) hx hb dX10_scan_182 (by decide) ?_
                        refine lv_icmp_ge (tgt := 205) hx hb dX10_scan_185 (by decide) (fun c_130 => ?_) (fun c_130 => ?_)
                        · skip
                          have c_130' : z_129.toInt ≥ 128 := jb_ge (rfl) ((by decide)) c_130
                          refine lv_iconst (v := 0) hx hb dX10_scan_205 (by decide) ?_
                          refine lv_istore (lv' := [(7, .int 0), (6, .int z_7), (0, .ref r0), (1, .ref r1), (2, .int a2), (3, .int a3), (4, .int z_3), (5, .int v5_5)]) hx hb dX10_scan_206 hl (by decide) rfl (fun ls hl => ?_)
                          refine lv_aload_n hx hb dX10_scan_208 rfl (lv_at hl 2 rfl) ?_
                          refine lv_iload hx hb dX10_scan_209 (lv_at hl 0 rfl) ?_
                          refine lv_if_eq (tgt := 221) hx hb dX10_scan_211 (by decide) (fun c_131 => ?_) (fun c_131 => ?_)
                          · skip
                            refine lv_iconst (v := 0) hx hb dX10_scan_221 (by decide) ?_
                            refine lv_iconst (v := 0) hx hb dX10_scan_222 (by decide) ?_
                            refine va_callv (A0 := jA base) (H0 := s.heap) (va_runV (As := [.int 0, .int 0]) (rest := []) ⟨hx, hb, hml, hown, hts⟩ (uX10_addT l dC dI ca base B hB hAp hB12 hB101 hB293 G0 H_93 r0 0 0 wk_5) (cwV 2 hts (jgV (jWr_37 _ (List.mem_of_getElem? (i := 7) rfl)) (jWr_37 _ (List.mem_of_getElem? (i := 8) rfl)) (jWr_37 _ (List.mem_of_getElem? (i := 9) rfl)) (jWr_4 _ (List.mem_of_getElem? (i := 14) rfl)) (jWr_37 _ (List.mem_of_getElem? (i := 10) rfl))) rfl rfl rfl (by decide +kernel) ⟨by rw [← hR]; exact Nat.le_of_ble_eq_true rfl, by rw [← hR]; exact Nat.le_of_ble_eq_true rfl⟩) ⟨fun a U g mk q => by obtain ⟨q0, q1, q2, qK, q10, q11, q12⟩ := q; exact ⟨q0, q1, q2, jG.calling g mk a qK, q10, q11, q12⟩, hh_93.recv (C := RX10) (T := TX10) (N := 11) hB12 rfl (by decide) hg_r0 hK, fun U hU hW => ⟨rfl, hU, hh_93.2.1, hG.step hW hU hh_93.1, hg_r0, (hh_93.2.2.1.sub (L1 := [(r0, 12, 3, .int wk_5)]) [0] rfl), by first | omega | (refine ⟨?_, ?_, ?_, ?_⟩ <;> (first | omega | rfl | assumption | decide | exact Or.inl rfl | exact Or.inr rfl | (simp only; omega)))⟩⟩ rfl rfl hl.1 rfl (lv_room (Nat.le_of_ble_eq_true rfl)) dX10_scan_223 ⟨Nat.zero_le _, Nat.zero_le _⟩) hh_93.1 (fun q _ h => h) (fun q h => h) (fun u_132 t_132 H_132 locs_132 ht_132 hvm_132 hr_133 hb_132 hz_132 hk_132 hS_132 => ?_)
                            obtain ⟨qk_132, rfl⟩ : ∃ z, z = u_132 := ⟨_, rfl⟩
                            rw [ht_132] at hb_132
                            obtain ⟨hb_1321, hb_1322, hb_1323, hb_1324, hb_1325⟩ := hb_132
                            have hh_132 : jSt (dC, dI) B base G0 G0 EX10_scanT s.heap 0 0 [(r0, 12, 3, .int qk_132)] [(r1, 173, n1, ca 1, f1)] [] H_132 locs_132 := ((hh_93.call hb_1321 hb_1322 hb_1323 hb_1324 hS_132 rfl (L1 := []) [] rfl rfl (M1 := [(r1, 173, n1, ca 1, f1)]) [0] rfl rfl (I1 := []) [] rfl rfl).more hb_1325)
                            clear hh_93 ht_132 hvm_132 hz_132 hk_132 hS_132 hb_1321 hb_1322 hb_1323 hb_1324 hb_1325
                            refine lv_iload hx hb dX10_scan_226 (lv_at hl 7 rfl) ?_
                            refine lv_iconst (v := 1) hx hb dX10_scan_228 (by decide) ?_
                            refine lv_iadd hx hb dX10_scan_229 ?_
                            refine lv_topi (fun z_134 ez_134 => ?_)
                            have hz_134 : z_134.toInt = v5_5.toInt + 1 := by rw [ez_134]; exact jb_iadd2 (rfl) ((by decide)) (by omega)
                            refine lv_iload hx hb dX10_scan_230 (lv_at hl 1 rfl) ?_
                            refine va_mmax hx hb (by rw [hml]; exact hl.1.symm) hown (htw (.methodLink RX10 38 Lib.Math.max.name) (jWr_37 _ (List.mem_of_getElem? (i := 1) rfl))) (htw (.static Lib.Math.max.name) (jWr_3 _ (List.mem_of_getElem? (i := 6) rfl))) (htw (.initialized "java/lang/Math") (jWr_3 _ (List.mem_of_getElem? (i := 7) rfl))) (htw (.code Lib.Math.max.name Lib.Math.max.code 2 (some .int)) (jWr_3 _ (List.mem_of_getElem? (i := 8) rfl))) (by rw [← hR]; exact Nat.le_of_ble_eq_true rfl) (by rw [← hR]; exact Nat.le_of_ble_eq_true rfl) (Nat.zero_le _) (Nat.zero_le _) dX10_scan_232 ?_
                            refine lv_topi (fun z_135 ez_135 => ?_)
                            have hz_135 := jb_max ez_135
                            refine lv_istore (lv' := [(5, .int z_135), (7, .int 0), (6, .int z_7), (0, .ref r0), (1, .ref r1), (2, .int a2), (3, .int a3), (4, .int z_3)]) hx hb dX10_scan_235 hl (by decide) rfl (fun ls hl => ?_)
                            refine lv_goto (tgt := 20) hx hb dX10_scan_237 (by decide) ?_
                            exact L20 z_135 qk_132 (kf - 1) _ _ hh_132 (by have hk9 : 1 + jcK f1 nn a3.toInt (kf - 1) (z_135).toInt = jcK f1 nn a3.toInt kf v5_5.toInt := jcK_o (by omega) (by omega) hn9 hl9 (by rw [← hqz_15]; first | omega | (rw [← hq104]; omega)) (by rw [← hqz_92, ← hr_94p]; omega) (by omega); exact ⟨by omega, by omega, by omega, by omega, by omega, by have h9 := hi_5_5; omega, by rw [show (z_135).toInt = v5_5.toInt + 1 by omega]; exact jcV.ot hi_5_6 (by omega) (by omega) hn9⟩) (by omega) _ (lv_sub hl [3, 4, 5, 6, 7, 0] rfl)
                          · skip
                            exact absurd c_131 (by decide)
                        · skip
                          have c_130' : z_129.toInt < 128 := jb_ge_n (rfl) ((by decide)) c_130
                          refine va_ldcS hx hb hown rstr66 dX10_scan_188 ?_
                          refine lv_aload_n hx hb dX10_scan_190 rfl (lv_at hl 2 rfl) ?_
                          refine lv_iload hx hb dX10_scan_191 (lv_at hl 6 rfl) ?_
                          refine j7_ialdM hx hb hK hh_93 hB173 1 rfl (by decide) hg_r1 (x := v5_5.toInt) (rfl) (by omega) (j := 0) rfl dX10_scan_193 (fun z_136 ez_136 (hz_136 : True) => ?_)
                          have hqz_136 : z_136.toInt = jSo f1 (v5_5.toInt) := by unfold jSo; rw [ez_136]
                          refine lv_i2c hx hb dX10_scan_194 rfl ?_
                          refine lv_topi (fun z_137 ez_137 => ?_)
                          refine vp_callSi (W.runV (As := [.int z_137]) (rest := []) ⟨hx, hb, hml, hown, hts⟩ (wJ0_indexOf_0f7a4 l dC dI ca base H_93 str66 8 z_137) (cwV 1 hts (jgV (jWr_37 _ (List.mem_of_getElem? (i := 11) rfl)) (jWr_37 _ (List.mem_of_getElem? (i := 12) rfl)) (jWr_37 _ (List.mem_of_getElem? (i := 13) rfl)) (jWr_5 _ (List.mem_of_getElem? (i := 15) rfl)) (jWr_37 _ (List.mem_of_getElem? (i := 14) rfl))) rfl rfl rfl (by decide +kernel) ⟨by rw [← hR]; exact Nat.le_of_ble_eq_true rfl, by rw [← hR]; exact Nat.le_of_ble_eq_true rfl⟩) ⟨fun a U g mk q => by obtain ⟨q0, q1, q2, qK, q9⟩ := q; exact ⟨q0, q1, (q2.moved (Vm.Alike.refl U.vm)), jG.calling g mk a qK, q9⟩, jStr_recv hstr66 hh_93.1, fun U hU hW => ⟨rfl, hU, (hstr66.moved hW.alike).kept hh_93.1.2.1, hG.step hW hU hh_93.1, by omega⟩⟩ rfl rfl hl.1 rfl (lv_room (Nat.le_of_ble_eq_true rfl)) dX10_scan_195 ⟨Nat.zero_le _, Nat.zero_le _⟩) (fun r_138 hr_138 => ?_)
                          refine lv_if_lt (tgt := 205) hx hb dX10_scan_198 (by decide) (fun c_139 => ?_) (fun c_139 => ?_)
                          · skip
                            have c_139' : r_138.toInt < 0 := jb_lt (rfl) ((by decide)) c_139
                            refine lv_iconst (v := 0) hx hb dX10_scan_205 (by decide) ?_
                            refine lv_istore (lv' := [(7, .int 0), (6, .int z_7), (0, .ref r0), (1, .ref r1), (2, .int a2), (3, .int a3), (4, .int z_3), (5, .int v5_5)]) hx hb dX10_scan_206 hl (by decide) rfl (fun ls hl => ?_)
                            refine lv_aload_n hx hb dX10_scan_208 rfl (lv_at hl 2 rfl) ?_
                            refine lv_iload hx hb dX10_scan_209 (lv_at hl 0 rfl) ?_
                            refine lv_if_eq (tgt := 221) hx hb dX10_scan_211 (by decide) (fun c_140 => ?_) (fun c_140 => ?_)
                            · skip
                              refine lv_iconst (v := 0) hx hb dX10_scan_221 (by decide) ?_
                              refine lv_iconst (v := 0) hx hb dX10_scan_222 (by decide) ?_
                              refine va_callv (A0 := jA base) (H0 := s.heap) (va_runV (As := [.int 0, .int 0]) (rest := []) ⟨hx, hb, hml, hown, hts⟩ (uX10_addT l dC dI ca base B hB hAp hB12 hB101 hB293 G0 H_93 r0 0 0 wk_5) (cwV 2 hts (jgV (jWr_37 _ (List.mem_of_getElem? (i := 7) rfl)) (jWr_37 _ (List.mem_of_getElem? (i := 8) rfl)) (jWr_37 _ (List.mem_of_getElem? (i := 9) rfl)) (jWr_4 _ (List.mem_of_getElem? (i := 14) rfl)) (jWr_37 _ (List.mem_of_getElem? (i := 10) rfl))) rfl rfl rfl (by decide +kernel) ⟨by rw [← hR]; exact Nat.le_of_ble_eq_true rfl, by rw [← hR]; exact Nat.le_of_ble_eq_true rfl⟩) ⟨fun a U g mk q => by obtain ⟨q0, q1, q2, qK, q10, q11, q12⟩ := q; exact ⟨q0, q1, q2, jG.calling g mk a qK, q10, q11, q12⟩, hh_93.recv (C := RX10) (T := TX10) (N := 11) hB12 rfl (by decide) hg_r0 hK, fun U hU hW => ⟨rfl, hU, hh_93.2.1, hG.step hW hU hh_93.1, hg_r0, (hh_93.2.2.1.sub (L1 := [(r0, 12, 3, .int wk_5)]) [0] rfl), by first | omega | (refine ⟨?_, ?_, ?_, ?_⟩ <;> (first | omega | rfl | assumption | decide | exact Or.inl rfl | exact Or.inr rfl | (simp only; omega)))⟩⟩ rfl rfl hl.1 rfl (lv_room (Nat.le_of_ble_eq_true rfl)) dX10_scan_223 ⟨Nat.zero_le _, Nat.zero_le _⟩) hh_93.1 (fun q _ h => h) (fun q h => h) (fun u_141 t_141 H_141 locs_141 ht_141 hvm_141 hr_142 hb_141 hz_141 hk_141 hS_141 => ?_)
                              obtain ⟨qk_141, rfl⟩ : ∃ z, z = u_141 := ⟨_, rfl⟩
                              rw [ht_141] at hb_141
                              obtain ⟨hb_1411, hb_1412, hb_1413, hb_1414, hb_1415⟩ := hb_141
                              have hh_141 : jSt (dC, dI) B base G0 G0 EX10_scanT s.heap 0 0 [(r0, 12, 3, .int qk_141)] [(r1, 173, n1, ca 1, f1)] [] H_141 locs_141 := ((hh_93.call hb_1411 hb_1412 hb_1413 hb_1414 hS_141 rfl (L1 := []) [] rfl rfl (M1 := [(r1, 173, n1, ca 1, f1)]) [0] rfl rfl (I1 := []) [] rfl rfl).more hb_1415)
                              clear hh_93 ht_141 hvm_141 hz_141 hk_141 hS_141 hb_1411 hb_1412 hb_1413 hb_1414 hb_1415
                              refine lv_iload hx hb dX10_scan_226 (lv_at hl 7 rfl) ?_
                              refine lv_iconst (v := 1) hx hb dX10_scan_228 (by decide) ?_
                              refine lv_iadd hx hb dX10_scan_229 ?_
                              refine lv_topi (fun z_143 ez_143 => ?_)
                              have hz_143 : z_143.toInt = v5_5.toInt + 1 := by rw [ez_143]; exact jb_iadd2 (rfl) ((by decide)) (by omega)
                              refine lv_iload hx hb dX10_scan_230 (lv_at hl 1 rfl) ?_
                              refine va_mmax hx hb (by rw [hml]; exact hl.1.symm) hown (htw (.methodLink RX10 38 Lib.Math.max.name) (jWr_37 _ (List.mem_of_getElem? (i := 1) rfl))) (htw (.static Lib.Math.max.name) (jWr_3 _ (List.mem_of_getElem? (i := 6) rfl))) (htw (.initialized "java/lang/Math") (jWr_3 _ (List.mem_of_getElem? (i := 7) rfl))) (htw (.code Lib.Math.max.name Lib.Math.max.code 2 (some .int)) (jWr_3 _ (List.mem_of_getElem? (i := 8) rfl))) (by rw [← hR]; exact Nat.le_of_ble_eq_true rfl) (by rw [← hR]; exact Nat.le_of_ble_eq_true rfl) (Nat.zero_le _) (Nat.zero_le _) dX10_scan_232 ?_
                              refine lv_topi (fun z_144 ez_144 => ?_)
                              have hz_144 := jb_max ez_144
                              refine lv_istore (lv' := [(5, .int z_144), (7, .int 0), (6, .int z_7), (0, .ref r0), (1, .ref r1), (2, .int a2), (3, .int a3), (4, .int z_3)]) hx hb dX10_scan_235 hl (by decide) rfl (fun ls hl => ?_)
                              refine lv_goto (tgt := 20) hx hb dX10_scan_237 (by decide) ?_
                              exact L20 z_144 qk_141 (kf - 1) _ _ hh_141 (by have hk9 : 1 + jcK f1 nn a3.toInt (kf - 1) (z_144).toInt = jcK f1 nn a3.toInt kf v5_5.toInt := jcK_o (by omega) (by omega) hn9 hl9 (by rw [← hqz_15]; first | omega | (rw [← hq104]; omega)) (by rw [← hqz_92, ← hr_94p]; omega) (by omega); exact ⟨by omega, by omega, by omega, by omega, by omega, by have h9 := hi_5_5; omega, by rw [show (z_144).toInt = v5_5.toInt + 1 by omega]; exact jcV.ot hi_5_6 (by omega) (by omega) hn9⟩) (by omega) _ (lv_sub hl [3, 4, 5, 6, 7, 0] rfl)
                            · skip
                              exact absurd c_140 (by decide)
                          · skip
                            have c_139' : r_138.toInt ≥ 0 := jb_lt_n (rfl) ((by decide)) c_139
                            refine lv_iconst (v := 1) hx hb dX10_scan_201 (by decide) ?_
                            refine lv_goto (tgt := 206) hx hb dX10_scan_202 (by decide) ?_
                            refine lv_istore (lv' := [(7, .int 1), (6, .int z_7), (0, .ref r0), (1, .ref r1), (2, .int a2), (3, .int a3), (4, .int z_3), (5, .int v5_5)]) hx hb dX10_scan_206 hl (by decide) rfl (fun ls hl => ?_)
                            refine lv_aload_n hx hb dX10_scan_208 rfl (lv_at hl 2 rfl) ?_
                            refine lv_iload hx hb dX10_scan_209 (lv_at hl 0 rfl) ?_
                            refine lv_if_eq (tgt := 221) hx hb dX10_scan_211 (by decide) (fun c_145 => ?_) (fun c_145 => ?_)
                            · skip
                              exact absurd c_145 (by decide)
                            · skip
                              refine lv_aload_n hx hb dX10_scan_214 rfl (lv_at hl 3 rfl) ?_
                              refine lv_iload hx hb dX10_scan_215 (lv_at hl 7 rfl) ?_
                              refine j7_ialdM hx hb hK hh_93 hB173 1 rfl (by decide) hg_r1 (x := v5_5.toInt) (rfl) (by omega) (j := 0) rfl dX10_scan_217 (fun z_146 ez_146 (hz_146 : True) => ?_)
                              have hqz_146 : z_146.toInt = jSo f1 (v5_5.toInt) := by unfold jSo; rw [ez_146]
                              refine lv_goto (tgt := 222) hx hb dX10_scan_218 (by decide) ?_
                              refine lv_iconst (v := 0) hx hb dX10_scan_222 (by decide) ?_
                              refine va_callv (A0 := jA base) (H0 := s.heap) (va_runV (As := [.int z_146, .int 0]) (rest := []) ⟨hx, hb, hml, hown, hts⟩ (uX10_addT l dC dI ca base B hB hAp hB12 hB101 hB293 G0 H_93 r0 z_146 0 wk_5) (cwV 2 hts (jgV (jWr_37 _ (List.mem_of_getElem? (i := 7) rfl)) (jWr_37 _ (List.mem_of_getElem? (i := 8) rfl)) (jWr_37 _ (List.mem_of_getElem? (i := 9) rfl)) (jWr_4 _ (List.mem_of_getElem? (i := 14) rfl)) (jWr_37 _ (List.mem_of_getElem? (i := 10) rfl))) rfl rfl rfl (by decide +kernel) ⟨by rw [← hR]; exact Nat.le_of_ble_eq_true rfl, by rw [← hR]; exact Nat.le_of_ble_eq_true rfl⟩) ⟨fun a U g mk q => by obtain ⟨q0, q1, q2, qK, q10, q11, q12⟩ := q; exact ⟨q0, q1, q2, jG.calling g mk a qK, q10, q11, q12⟩, hh_93.recv (C := RX10) (T := TX10) (N := 11) hB12 rfl (by decide) hg_r0 hK, fun U hU hW => ⟨rfl, hU, hh_93.2.1, hG.step hW hU hh_93.1, hg_r0, (hh_93.2.2.1.sub (L1 := [(r0, 12, 3, .int wk_5)]) [0] rfl), by first | omega | (refine ⟨?_, ?_, ?_, ?_⟩ <;> (first | omega | rfl | assumption | decide | exact Or.inl rfl | exact Or.inr rfl | (simp only; omega)))⟩⟩ rfl rfl hl.1 rfl (lv_room (Nat.le_of_ble_eq_true rfl)) dX10_scan_223 ⟨Nat.zero_le _, Nat.zero_le _⟩) hh_93.1 (fun q _ h => h) (fun q h => h) (fun u_147 t_147 H_147 locs_147 ht_147 hvm_147 hr_148 hb_147 hz_147 hk_147 hS_147 => ?_)
                              obtain ⟨qk_147, rfl⟩ : ∃ z, z = u_147 := ⟨_, rfl⟩
                              rw [ht_147] at hb_147
                              obtain ⟨hb_1471, hb_1472, hb_1473, hb_1474, hb_1475⟩ := hb_147
                              have hh_147 : jSt (dC, dI) B base G0 G0 EX10_scanT s.heap 0 0 [(r0, 12, 3, .int qk_147)] [(r1, 173, n1, ca 1, f1)] [] H_147 locs_147 := ((hh_93.call hb_1471 hb_1472 hb_1473 hb_1474 hS_147 rfl (L1 := []) [] rfl rfl (M1 := [(r1, 173, n1, ca 1, f1)]) [0] rfl rfl (I1 := []) [] rfl rfl).more hb_1475)
                              clear hh_93 ht_147 hvm_147 hz_147 hk_147 hS_147 hb_1471 hb_1472 hb_1473 hb_1474 hb_1475
                              refine lv_iload hx hb dX10_scan_226 (lv_at hl 7 rfl) ?_
                              refine lv_iconst (v := 1) hx hb dX10_scan_228 (by decide) ?_
                              refine lv_iadd hx hb dX10_scan_229 ?_
                              refine lv_topi (fun z_149 ez_149 => ?_)
                              have hz_149 : z_149.toInt = v5_5.toInt + 1 := by rw [ez_149]; exact jb_iadd2 (rfl) ((by decide)) (by omega)
                              refine lv_iload hx hb dX10_scan_230 (lv_at hl 1 rfl) ?_
                              refine va_mmax hx hb (by rw [hml]; exact hl.1.symm) hown (htw (.methodLink RX10 38 Lib.Math.max.name) (jWr_37 _ (List.mem_of_getElem? (i := 1) rfl))) (htw (.static Lib.Math.max.name) (jWr_3 _ (List.mem_of_getElem? (i := 6) rfl))) (htw (.initialized "java/lang/Math") (jWr_3 _ (List.mem_of_getElem? (i := 7) rfl))) (htw (.code Lib.Math.max.name Lib.Math.max.code 2 (some .int)) (jWr_3 _ (List.mem_of_getElem? (i := 8) rfl))) (by rw [← hR]; exact Nat.le_of_ble_eq_true rfl) (by rw [← hR]; exact Nat.le_of_ble_eq_true rfl) (Nat.zero_le _) (Nat.zero_le _) dX10_scan_232 ?_
                              refine lv_topi (fun z_150 ez_150 => ?_)
                              have hz_150 := jb_max ez_150
                              refine lv_istore (lv' := [(5, .int z_150), (7, .int 1), (6, .int z_7), (0, .ref r0), (1, .ref r1), (2, .int a2), (3, .int a3), (4, .int z_3)]) hx hb dX10_scan_235 hl (by decide) rfl (fun ls hl => ?_)
                              refine lv_goto (tgt := 20) hx hb dX10_scan_237 (by decide) ?_
                              exact L20 z_150 qk_147 (kf - 1) _ _ hh_147 (by have hk9 : 1 + jcK f1 nn a3.toInt (kf - 1) (z_150).toInt = jcK f1 nn a3.toInt kf v5_5.toInt := jcK_o (by omega) (by omega) hn9 hl9 (by rw [← hqz_15]; first | omega | (rw [← hq104]; omega)) (by rw [← hqz_92, ← hr_94p]; omega) (by omega); exact ⟨by omega, by omega, by omega, by omega, by omega, by have h9 := hi_5_5; omega, by rw [show (z_150).toInt = v5_5.toInt + 1 by omega]; exact jcV.ot hi_5_6 (by omega) (by omega) hn9⟩) (by omega) _ (lv_sub hl [3, 4, 5, 6, 7, 0] rfl)
                · skip
                  have c_91' : r_90.toInt ≠ 0 := jb_eq_n (rfl) ((by decide)) c_91
                  have hdg9 : 48 ≤ jSo f1 v5_5.toInt ∧ jSo f1 v5_5.toInt ≤ 57 := by rw [← hqz_88]; have h7 := hr_90p; unfold jIn at h7; split at h7; assumption; omega
                  refine lv_aload_n hx hb dX10_scan_136 rfl (lv_at hl 1 rfl) ?_
                  refine lv_bipush (v := 100) hx hb dX10_scan_137 (by decide) ?_
                  refine lv_aload_n hx hb dX10_scan_139 rfl (lv_at hl 2 rfl) ?_
                  refine lv_iload hx hb dX10_scan_140 (lv_at hl 6 rfl) ?_
                  refine j7_ialdM hx hb hK hh_89 hB173 1 rfl (by decide) hg_r1 (x := v5_5.toInt) (rfl) (by omega) (j := 0) rfl dX10_scan_142 (fun z_151 ez_151 (hz_151 : True) => ?_)
                  have hqz_151 : z_151.toInt = jSo f1 (v5_5.toInt) := by unfold jSo; rw [ez_151]
                  refine lv_bipush (v := 48) hx hb dX10_scan_143 (by decide) ?_
                  refine lv_isub hx hb dX10_scan_145 ?_
                  refine lv_topi (fun z_152 ez_152 => ?_)
                  have hz_152 : z_152.toInt = z_151.toInt - 48 := by rw [ez_152]; exact jb_isub2 (rfl) ((by decide)) (by omega)
                  refine va_callv (A0 := jA base) (H0 := s.heap) (va_runV (As := [.int 100, .int z_152]) (rest := []) ⟨hx, hb, hml, hown, hts⟩ (uX10_addT l dC dI ca base B hB hAp hB12 hB101 hB293 G0 H_89 r0 100 z_152 wk_5) (cwV 2 hts (jgV (jWr_37 _ (List.mem_of_getElem? (i := 7) rfl)) (jWr_37 _ (List.mem_of_getElem? (i := 8) rfl)) (jWr_37 _ (List.mem_of_getElem? (i := 9) rfl)) (jWr_4 _ (List.mem_of_getElem? (i := 14) rfl)) (jWr_37 _ (List.mem_of_getElem? (i := 10) rfl))) rfl rfl rfl (by decide +kernel) ⟨by rw [← hR]; exact Nat.le_of_ble_eq_true rfl, by rw [← hR]; exact Nat.le_of_ble_eq_true rfl⟩) ⟨fun a U g mk q => by obtain ⟨q0, q1, q2, qK, q10, q11, q12⟩ := q; exact ⟨q0, q1, q2, jG.calling g mk a qK, q10, q11, q12⟩, hh_89.recv (C := RX10) (T := TX10) (N := 11) hB12 rfl (by decide) hg_r0 hK, fun U hU hW => ⟨rfl, hU, hh_89.2.1, hG.step hW hU hh_89.1, hg_r0, (hh_89.2.2.1.sub (L1 := [(r0, 12, 3, .int wk_5)]) [0] rfl), by first | omega | (refine ⟨?_, ?_, ?_, ?_⟩ <;> (first | omega | rfl | assumption | decide | exact Or.inl rfl | exact Or.inr rfl | (simp only; omega)))⟩⟩ rfl rfl hl.1 rfl (lv_room (Nat.le_of_ble_eq_true rfl)) dX10_scan_146 ⟨Nat.zero_le _, Nat.zero_le _⟩) hh_89.1 (fun q _ h => h) (fun q h => h) (fun u_153 t_153 H_153 locs_153 ht_153 hvm_153 hr_154 hb_153 hz_153 hk_153 hS_153 => ?_)
                  obtain ⟨qk_153, rfl⟩ : ∃ z, z = u_153 := ⟨_, rfl⟩
                  rw [ht_153] at hb_153
                  obtain ⟨hb_1531, hb_1532, hb_1533, hb_1534, hb_1535⟩ := hb_153
                  have hh_153 : jSt (dC, dI) B base G0 G0 EX10_scanT s.heap 0 0 [(r0, 12, 3, .int qk_153)] [(r1, 173, n1, ca 1, f1)] [] H_153 locs_153 := ((hh_89.call hb_1531 hb_1532 hb_1533 hb_1534 hS_153 rfl (L1 := []) [] rfl rfl (M1 := [(r1, 173, n1, ca 1, f1)]) [0] rfl rfl (I1 := []) [] rfl rfl).more hb_1535)
                  clear hh_89 ht_153 hvm_153 hz_153 hk_153 hS_153 hb_1531 hb_1532 hb_1533 hb_1534 hb_1535
                  refine lv_goto (tgt := 226) hx hb dX10_scan_149 (by decide) ?_
                  refine lv_iload hx hb dX10_scan_226 (lv_at hl 6 rfl) ?_
                  refine lv_iconst (v := 1) hx hb dX10_scan_228 (by decide) ?_
                  refine lv_iadd hx hb dX10_scan_229 ?_
                  refine lv_topi (fun z_155 ez_155 => ?_)
                  have hz_155 : z_155.toInt = v5_5.toInt + 1 := by rw [ez_155]; exact jb_iadd2 (rfl) ((by decide)) (by omega)
                  refine lv_iload hx hb dX10_scan_230 (lv_at hl 0 rfl) ?_
                  refine va_mmax hx hb (by rw [hml]; exact hl.1.symm) hown (htw (.methodLink RX10 38 Lib.Math.max.name) (jWr_37 _ (List.mem_of_getElem? (i := 1) rfl))) (htw (.static Lib.Math.max.name) (jWr_3 _ (List.mem_of_getElem? (i := 6) rfl))) (htw (.initialized "java/lang/Math") (jWr_3 _ (List.mem_of_getElem? (i := 7) rfl))) (htw (.code Lib.Math.max.name Lib.Math.max.code 2 (some .int)) (jWr_3 _ (List.mem_of_getElem? (i := 8) rfl))) (by rw [← hR]; exact Nat.le_of_ble_eq_true rfl) (by rw [← hR]; exact Nat.le_of_ble_eq_true rfl) (Nat.zero_le _) (Nat.zero_le _) dX10_scan_232 ?_
                  refine lv_topi (fun z_156 ez_156 => ?_)
                  have hz_156 := jb_max ez_156
                  refine lv_istore (lv' := [(5, .int z_156), (6, .int z_7), (0, .ref r0), (1, .ref r1), (2, .int a2), (3, .int a3), (4, .int z_3)]) hx hb dX10_scan_235 hl (by decide) rfl (fun ls hl => ?_)
                  refine lv_goto (tgt := 20) hx hb dX10_scan_237 (by decide) ?_
                  exact L20 z_156 qk_153 (kf - 1) _ _ hh_153 (by have hk9 : 1 + jcK f1 nn a3.toInt (kf - 1) (z_156).toInt = jcK f1 nn a3.toInt kf v5_5.toInt := jcK_o (by omega) (by omega) hn9 hl9 (by rw [← hqz_15]; first | omega | (rw [← hq104]; omega)) (fun h9 => by have h8 := jcBd h9; omega) (by omega); exact ⟨by omega, by omega, by omega, by omega, by omega, by have h9 := hi_5_5; omega, by rw [show (z_156).toInt = v5_5.toInt + 1 by omega]; exact jcV.ot hi_5_6 (by omega) (by omega) hn9⟩) (by omega) _ (lv_sub hl [2, 3, 4, 5, 6, 0] rfl)
              · skip
                have c_87' : z_86.toInt < z_3.toInt := jb_ge_n (rfl) (rfl) c_87
                refine lv_aload_n hx hb dX10_scan_99 rfl (lv_at hl 2 rfl) ?_
                refine lv_iload hx hb dX10_scan_100 (lv_at hl 6 rfl) ?_
                refine lv_iconst (v := 1) hx hb dX10_scan_102 (by decide) ?_
                refine lv_iadd hx hb dX10_scan_103 ?_
                refine lv_topi (fun z_157 ez_157 => ?_)
                have hz_157 : z_157.toInt = v5_5.toInt + 1 := by rw [ez_157]; exact jb_iadd2 (rfl) ((by decide)) (by omega)
                refine j7_ialdM hx hb hK hh_12 hB173 1 rfl (by decide) hg_r1 (x := z_157.toInt) (rfl) (by omega) (j := 0) rfl dX10_scan_104 (fun z_158 ez_158 (hz_158 : True) => ?_)
                have hqz_158 : z_158.toInt = jSo f1 ((v5_5.toInt + 1)) := by unfold jSo; rw [ez_158, show z_157.toInt = (v5_5.toInt + 1) by omega]
                have hq104 : z_158.toInt = jSo f1 (v5_5.toInt + 1) := by rw [hqz_158]
                refine lv_bipush (v := 62) hx hb dX10_scan_105 (by decide) ?_
                refine lv_icmp_ne (tgt := 126) hx hb dX10_scan_107 (by decide) (fun c_159 => ?_) (fun c_159 => ?_)
                · skip
                  have c_159' : z_158.toInt ≠ 62 := jb_ne (rfl) ((by decide)) c_159
                  refine lv_aload_n hx hb dX10_scan_126 rfl (lv_at hl 2 rfl) ?_
                  refine lv_iload hx hb dX10_scan_127 (lv_at hl 6 rfl) ?_
                  refine j7_ialdM hx hb hK hh_12 hB173 1 rfl (by decide) hg_r1 (x := v5_5.toInt) (rfl) (by omega) (j := 0) rfl dX10_scan_129 (fun z_160 ez_160 (hz_160 : True) => ?_)
                  have hqz_160 : z_160.toInt = jSo f1 (v5_5.toInt) := by unfold jSo; rw [ez_160]
                  refine va_calli (A0 := jA base) (H0 := s.heap) (va_runSN (As := [.int z_160]) (rest := []) ⟨hx, hb, hml, hown, hts⟩ (uX11_isDigitT l dC dI ca base B hB hAp G0 H_12 z_160) ⟨va_cnB 1 hts (jgW (jWr_22 _ (List.mem_of_getElem? (i := 15) rfl))) rfl rfl rfl (hG.2.2.1 RX10 60 yX11_isDigit "ProofServer" (List.mem_of_getElem? (i := 1150) (by decide +kernel))) (htw (.initialized RX11) (jWr_1 _ (List.mem_of_getElem? (i := 2) rfl))) (by decide +kernel) ⟨by rw [← hR]; exact Nat.le_of_ble_eq_true rfl, by rw [← hR]; exact Nat.le_of_ble_eq_true rfl⟩, htw (.static yX11_isDigit) (jWr_22 _ (List.mem_of_getElem? (i := 14) rfl)), trivial⟩ ⟨fun a U g mk q => by obtain ⟨q0, q1, q2, qK, q10, q11⟩ := q; exact ⟨q0, q1, q2, jG.calling g mk a qK, q10, q11⟩, fun U hU hW => ⟨rfl, hU, hh_12.2.1, hG.step hW hU hh_12.1, jP.nil, trivial⟩⟩ rfl rfl hl.1 rfl (lv_room (Nat.le_of_ble_eq_true rfl)) dX10_scan_130 ⟨Nat.zero_le _, Nat.zero_le _⟩) hh_12.1 (fun q _ h => h) (fun q h => h) (fun r_162 u_161 t_161 H_161 locs_161 ht_161 hvm_161 hr_162 hb_161 hz_161 hk_161 hS_161 => ?_)
                  rw [ht_161] at hb_161
                  obtain ⟨hb_1611, hb_1612, hb_1613, hb_1614, hb_1615⟩ := hb_161
                  have hh_161 : jSt (dC, dI) B base G0 G0 EX10_scanT s.heap 0 0 [(r0, 12, 3, .int wk_5)] [(r1, 173, n1, ca 1, f1)] [] H_161 locs_161 := ((hh_12.call hb_1611 hb_1612 hb_1613 hb_1614 hS_161 rfl (L1 := [(r0, 12, 3, .int wk_5)]) [0] rfl rfl (M1 := [(r1, 173, n1, ca 1, f1)]) [0] rfl rfl (I1 := []) [] rfl rfl).more hb_1615)
                  clear hh_12 ht_161 hvm_161 hz_161 hk_161 hS_161 hb_1611 hb_1612 hb_1613 hb_1614 hb_1615
                  obtain ⟨hr_162b, hr_162p⟩ := hr_162
                  have hr_162' := jb_01 hr_162b
                  refine lv_if_eq (tgt := 152) hx hb dX10_scan_133 (by decide) (fun c_163 => ?_) (fun c_163 => ?_)
                  · skip
                    have c_163' : r_162.toInt = 0 := jb_eq (rfl) ((by decide)) c_163
                    refine lv_aload_n hx hb dX10_scan_152 rfl (lv_at hl 2 rfl) ?_
                    refine lv_iload hx hb dX10_scan_153 (lv_at hl 6 rfl) ?_
                    refine j7_ialdM hx hb hK hh_161 hB173 1 rfl (by decide) hg_r1 (x := v5_5.toInt) (rfl) (by omega) (j := 0) rfl dX10_scan_155 (fun z_164 ez_164 (hz_164 : True) => ?_)
                    have hqz_164 : z_164.toInt = jSo f1 (v5_5.toInt) := by unfold jSo; rw [ez_164]
                    refine va_calli (A0 := jA base) (H0 := s.heap) (va_runSN (As := [.int z_164]) (rest := []) ⟨hx, hb, hml, hown, hts⟩ (uX11_isBlankP l dC dI ca base B hB hAp G0 H_161 z_164) ⟨va_cnB 1 hts (jgW (jWr_20 _ (List.mem_of_getElem? (i := 0) rfl))) rfl rfl rfl (hG.2.2.1 RX10 63 yX11_isBlank "ProofServer" (List.mem_of_getElem? (i := 1151) (by decide +kernel))) (htw (.initialized RX11) (jWr_1 _ (List.mem_of_getElem? (i := 2) rfl))) (by decide +kernel) ⟨by rw [← hR]; exact Nat.le_of_ble_eq_true rfl, by rw [← hR]; exact Nat.le_of_ble_eq_true rfl⟩, htw (.static yX11_isBlank) (jWr_19 _ (List.mem_of_getElem? (i := 23) rfl)), trivial⟩ ⟨fun a U g mk q => by obtain ⟨q0, q1, q2, qK, q10, q11⟩ := q; exact ⟨q0, q1, q2, jG.calling g mk a qK, q10, q11⟩, fun U hU hW => ⟨rfl, hU, hh_161.2.1, hG.step hW hU hh_161.1, jP.nil, trivial⟩⟩ rfl rfl hl.1 rfl (lv_room (Nat.le_of_ble_eq_true rfl)) dX10_scan_156 ⟨Nat.zero_le _, Nat.zero_le _⟩) hh_161.1 (fun q _ h => h) (fun q h => h) (fun r_166 u_165 t_165 H_165 locs_165 ht_165 hvm_165 hr_166 hb_165 hz_165 hk_165 hS_165 => ?_)
                    rw [ht_165] at hb_165
                    obtain ⟨hb_1651, hb_1652, hb_1653, hb_1654, hb_1655⟩ := hb_165
                    have hh_165 : jSt (dC, dI) B base G0 G0 EX10_scanT s.heap 0 0 [(r0, 12, 3, .int wk_5)] [(r1, 173, n1, ca 1, f1)] [] H_165 locs_165 := ((hh_161.call hb_1651 hb_1652 hb_1653 hb_1654 hS_165 rfl (L1 := [(r0, 12, 3, .int wk_5)]) [0] rfl rfl (M1 := [(r1, 173, n1, ca 1, f1)]) [0] rfl rfl (I1 := []) [] rfl rfl).more hb_1655)
                    clear hh_161 ht_165 hvm_165 hz_165 hk_165 hS_165 hb_1651 hb_1652 hb_1653 hb_1654 hb_1655
                    obtain ⟨hr_166b, hr_166p⟩ := hr_166
                    have hr_166' := jb_01 hr_166b
                    refine lv_if_ne (tgt := 226) hx hb dX10_scan_159 (by decide) (fun c_167 => ?_) (fun c_167 => ?_)
                    · skip
                      have c_167' : r_166.toInt ≠ 0 := jb_ne (rfl) ((by decide)) c_167
                      refine lv_iload hx hb dX10_scan_226 (lv_at hl 6 rfl) ?_
                      refine lv_iconst (v := 1) hx hb dX10_scan_228 (by decide) ?_
                      refine lv_iadd hx hb dX10_scan_229 ?_
                      refine lv_topi (fun z_168 ez_168 => ?_)
                      have hz_168 : z_168.toInt = v5_5.toInt + 1 := by rw [ez_168]; exact jb_iadd2 (rfl) ((by decide)) (by omega)
                      refine lv_iload hx hb dX10_scan_230 (lv_at hl 0 rfl) ?_
                      refine va_mmax hx hb (by rw [hml]; exact hl.1.symm) hown (htw (.methodLink RX10 38 Lib.Math.max.name) (jWr_37 _ (List.mem_of_getElem? (i := 1) rfl))) (htw (.static Lib.Math.max.name) (jWr_3 _ (List.mem_of_getElem? (i := 6) rfl))) (htw (.initialized "java/lang/Math") (jWr_3 _ (List.mem_of_getElem? (i := 7) rfl))) (htw (.code Lib.Math.max.name Lib.Math.max.code 2 (some .int)) (jWr_3 _ (List.mem_of_getElem? (i := 8) rfl))) (by rw [← hR]; exact Nat.le_of_ble_eq_true rfl) (by rw [← hR]; exact Nat.le_of_ble_eq_true rfl) (Nat.zero_le _) (Nat.zero_le _) dX10_scan_232 ?_
                      refine lv_topi (fun z_169 ez_169 => ?_)
                      have hz_169 := jb_max ez_169
                      refine lv_istore (lv' := [(5, .int z_169), (6, .int z_7), (0, .ref r0), (1, .ref r1), (2, .int a2), (3, .int a3), (4, .int z_3)]) hx hb dX10_scan_235 hl (by decide) rfl (fun ls hl => ?_)
                      refine lv_goto (tgt := 20) hx hb dX10_scan_237 (by decide) ?_
                      exact L20 z_169 wk_5 (kf - 1) _ _ hh_165 (by have hk9 : jcK f1 nn a3.toInt (kf - 1) (z_169).toInt = jcK f1 nn a3.toInt kf v5_5.toInt := jcK_b (by omega) (by omega) (by rw [← hqz_164, ← hr_166p]; omega) (by omega); exact ⟨by omega, by omega, by omega, by omega, by omega, by have h9 := hi_5_5; omega, by rw [show (z_169).toInt = v5_5.toInt + 1 by omega]; exact jcV.ot hi_5_6 (by omega) (by omega) hn9⟩) (by omega) _ (lv_sub hl [2, 3, 4, 5, 6, 0] rfl)
                    · skip
                      have c_167' : r_166.toInt = 0 := jb_ne_n (rfl) ((by decide)) c_167
                      refine lv_aload_n hx hb dX10_scan_162 rfl (lv_at hl 2 rfl) ?_
                      refine lv_iload hx hb dX10_scan_163 (lv_at hl 6 rfl) ?_
                      refine j7_ialdM hx hb hK hh_165 hB173 1 rfl (by decide) hg_r1 (x := v5_5.toInt) (rfl) (by omega) (j := 0) rfl dX10_scan_165 (fun z_170 ez_170 (hz_170 : True) => ?_)
                      have hqz_170 : z_170.toInt = jSo f1 (v5_5.toInt) := by unfold jSo; rw [ez_170]
                      refine lv_bipush (v := 46) hx hb dX10_scan_166 (by decide) ?_
                      refine lv_icmp_ne (tgt := 178) hx hb dX10_scan_168 (by decide) (fun c_171 => ?_) (fun c_171 => ?_)
                      · skip
                        have c_171' : z_170.toInt ≠ 46 := jb_ne (rfl) ((by decide)) c_171
                        refine lv_aload_n hx hb dX10_scan_178 rfl (lv_at hl 2 rfl) ?_
                        refine lv_iload hx hb dX10_scan_179 (lv_at hl 6 rfl) ?_
                        refine j7_ialdM hx hb hK hh_165 hB173 1 rfl (by decide) hg_r1 (x := v5_5.toInt) (rfl) (by omega) (j := 0) rfl dX10_scan_181 (fun z_172 ez_172 (hz_172 : True) => ?_)
                        have hqz_172 : z_172.toInt = jSo f1 (v5_5.toInt) := by unfold jSo; rw [ez_172]
                        refine lv_sipush (v := 128) hx hb dX10_scan_182 (by decide) ?_
                        refine lv_icmp_ge (tgt := 205) hx hb dX10_scan_185 (by decide) (fun c_173 => ?_) (fun c_173 => ?_)
                        · skip
                          have c_173' : z_172.toInt ≥ 128 := jb_ge (rfl) ((by decide)) c_173
                          refine lv_iconst (v := 0) hx hb dX10_scan_205 (by decide) ?_
                          refine lv_istore (lv' := [(7, .int 0), (6, .int z_7), (0, .ref r0), (1, .ref r1), (2, .int a2), (3, .int a3), (4, .int z_3), (5, .int v5_5)]) hx hb dX10_scan_206 hl (by decide) rfl (fun ls hl => ?_)
                          refine lv_aload_n hx hb dX10_scan_208 rfl (lv_at hl 2 rfl) ?_
                          refine lv_iload hx hb dX10_scan_209 (lv_at hl 0 rfl) ?_
                          refine lv_if_eq (tgt := 221) hx hb dX10_scan_211 (by decide) (fun c_174 => ?_) (fun c_174 => ?_)
                          · skip
                            refine lv_iconst (v := 0) hx hb dX10_scan_221 (by decide) ?_
                            refine lv_iconst (v := 0) hx hb dX10_scan_222 (by decide) ?_
                            refine va_callv (A0 := jA base) (H0 := s.heap) (va_runV (As := [.int 0, .int 0]) (rest := []) ⟨hx, hb, hml, hown, hts⟩ (uX10_addT l dC dI ca base B hB hAp hB12 hB101 hB293 G0 H_165 r0 0 0 wk_5) (cwV 2 hts (jgV (jWr_37 _ (List.mem_of_getElem? (i := 7) rfl)) (jWr_37 _ (List.mem_of_getElem? (i := 8) rfl)) (jWr_37 _ (List.mem_of_getElem? (i := 9) rfl)) (jWr_4 _ (List.mem_of_getElem? (i := 14) rfl)) (jWr_37 _ (List.mem_of_getElem? (i := 10) rfl))) rfl rfl rfl (by decide +kernel) ⟨by rw [← hR]; exact Nat.le_of_ble_eq_true rfl, by rw [← hR]; exact Nat.le_of_ble_eq_true rfl⟩) ⟨fun a U g mk q => by obtain ⟨q0, q1, q2, qK, q10, q11, q12⟩ := q; exact ⟨q0, q1, q2, jG.calling g mk a qK, q10, q11, q12⟩, hh_165.recv (C := RX10) (T := TX10) (N := 11) hB12 rfl (by decide) hg_r0 hK, fun U hU hW => ⟨rfl, hU, hh_165.2.1, hG.step hW hU hh_165.1, hg_r0, (hh_165.2.2.1.sub (L1 := [(r0, 12, 3, .int wk_5)]) [0] rfl), by first | omega | (refine ⟨?_, ?_, ?_, ?_⟩ <;> (first | omega | rfl | assumption | decide | exact Or.inl rfl | exact Or.inr rfl | (simp only; omega)))⟩⟩ rfl rfl hl.1 rfl (lv_room (Nat.le_of_ble_eq_true rfl)) dX10_scan_223 ⟨Nat.zero_le _, Nat.zero_le _⟩) hh_165.1 (fun q _ h => h) (fun q h => h) (fun u_175 t_175 H_175 locs_175 ht_175 hvm_175 hr_176 hb_175 hz_175 hk_175 hS_175 => ?_)
                            obtain ⟨qk_175, rfl⟩ : ∃ z, z = u_175 := ⟨_, rfl⟩
                            rw [ht_175] at hb_175
                            obtain ⟨hb_1751, hb_1752, hb_1753, hb_1754, hb_1755⟩ := hb_175
                            have hh_175 : jSt (dC, dI) B base G0 G0 EX10_scanT s.heap 0 0 [(r0, 12, 3, .int qk_175)] [(r1, 173, n1, ca 1, f1)] [] H_175 locs_175 := ((hh_165.call hb_1751 hb_1752 hb_1753 hb_1754 hS_175 rfl (L1 := []) [] rfl rfl (M1 := [(r1, 173, n1, ca 1, f1)]) [0] rfl rfl (I1 := []) [] rfl rfl).more hb_1755)
                            clear hh_165 ht_175 hvm_175 hz_175 hk_175 hS_175 hb_1751 hb_1752 hb_1753 hb_1754 hb_1755
                            refine lv_iload hx hb dX10_scan_226 (lv_at hl 7 rfl) ?_
                            refine lv_iconst (v := 1) hx hb dX10_scan_228 (by decide) ?_
                            refine lv_iadd hx hb dX10_scan_229 ?_
                            refine lv_topi (fun z_177 ez_177 => ?_)
                            have hz_177 : z_177.toInt = v5_5.toInt + 1 := by rw [ez_177]; exact jb_iadd2 (rfl) ((by decide)) (by omega)
                            refine lv_iload hx hb dX10_scan_230 (lv_at hl 1 rfl) ?_
                            refine va_mmax hx hb (by rw [hml]; exact hl.1.symm) hown (htw (.methodLink RX10 38 Lib.Math.max.name) (jWr_37 _ (List.mem_of_getElem? (i := 1) rfl))) (htw (.static Lib.Math.max.name) (jWr_3 _ (List.mem_of_getElem? (i := 6) rfl))) (htw (.initialized "java/lang/Math") (jWr_3 _ (List.mem_of_getElem? (i := 7) rfl))) (htw (.code Lib.Math.max.name Lib.Math.max.code 2 (some .int)) (jWr_3 _ (List.mem_of_getElem? (i := 8) rfl))) (by rw [← hR]; exact Nat.le_of_ble_eq_true rfl) (by rw [← hR]; exact Nat.le_of_ble_eq_true rfl) (Nat.zero_le _) (Nat.zero_le _) dX10_scan_232 ?_
                            refine lv_topi (fun z_178 ez_178 => ?_)
                            have hz_178 := jb_max ez_178
                            refine lv_istore (lv' := [(5, .int z_178), (7, .int 0), (6, .int z_7), (0, .ref r0), (1, .ref r1), (2, .int a2), (3, .int a3), (4, .int z_3)]) hx hb dX10_scan_235 hl (by decide) rfl (fun ls hl => ?_)
                            refine lv_goto (tgt := 20) hx hb dX10_scan_237 (by decide) ?_
                            exact L20 z_178 qk_175 (kf - 1) _ _ hh_175 (by have hk9 : 1 + jcK f1 nn a3.toInt (kf - 1) (z_178).toInt = jcK f1 nn a3.toInt kf v5_5.toInt := jcK_o (by omega) (by omega) hn9 hl9 (by rw [← hqz_15]; first | omega | (rw [← hq104]; omega)) (by rw [← hqz_164, ← hr_166p]; omega) (by omega); exact ⟨by omega, by omega, by omega, by omega, by omega, by have h9 := hi_5_5; omega, by rw [show (z_178).toInt = v5_5.toInt + 1 by omega]; exact jcV.ot hi_5_6 (by omega) (by omega) hn9⟩) (by omega) _ (lv_sub hl [3, 4, 5, 6, 7, 0] rfl)
                          · skip
                            exact absurd c_174 (by decide)
                        · skip
                          have c_173' : z_172.toInt < 128 := jb_ge_n (rfl) ((by decide)) c_173
                          refine va_ldcS hx hb hown rstr66 dX10_scan_188 ?_
                          refine lv_aload_n hx hb dX10_scan_190 rfl (lv_at hl 2 rfl) ?_
                          refine lv_iload hx hb dX10_scan_191 (lv_at hl 6 rfl) ?_
                          refine j7_ialdM hx hb hK hh_165 hB173 1 rfl (by decide) hg_r1 (x := v5_5.toInt) (rfl) (by omega) (j := 0) rfl dX10_scan_193 (fun z_179 ez_179 (hz_179 : True) => ?_)
                          have hqz_179 : z_179.toInt = jSo f1 (v5_5.toInt) := by unfold jSo; rw [ez_179]
                          refine lv_i2c hx hb dX10_scan_194 rfl ?_
                          refine lv_topi (fun z_180 ez_180 => ?_)
                          refine vp_callSi (W.runV (As := [.int z_180]) (rest := []) ⟨hx, hb, hml, hown, hts⟩ (wJ0_indexOf_0f7a4 l dC dI ca base H_165 str66 8 z_180) (cwV 1 hts (jgV (jWr_37 _ (List.mem_of_getElem? (i := 11) rfl)) (jWr_37 _ (List.mem_of_getElem? (i := 12) rfl)) (jWr_37 _ (List.mem_of_getElem? (i := 13) rfl)) (jWr_5 _ (List.mem_of_getElem? (i := 15) rfl)) (jWr_37 _ (List.mem_of_getElem? (i := 14) rfl))) rfl rfl rfl (by decide +kernel) ⟨by rw [← hR]; exact Nat.le_of_ble_eq_true rfl, by rw [← hR]; exact Nat.le_of_ble_eq_true rfl⟩) ⟨fun a U g mk q => by obtain ⟨q0, q1, q2, qK, q9⟩ := q; exact ⟨q0, q1, (q2.moved (Vm.Alike.refl U.vm)), jG.calling g mk a qK, q9⟩, jStr_recv hstr66 hh_165.1, fun U hU hW => ⟨rfl, hU, (hstr66.moved hW.alike).kept hh_165.1.2.1, hG.step hW hU hh_165.1, by omega⟩⟩ rfl rfl hl.1 rfl (lv_room (Nat.le_of_ble_eq_true rfl)) dX10_scan_195 ⟨Nat.zero_le _, Nat.zero_le _⟩) (fun r_181 hr_181 => ?_)
                          refine lv_if_lt (tgt := 205) hx hb dX10_scan_198 (by decide) (fun c_182 => ?_) (fun c_182 => ?_)
                          · skip
                            have c_182' : r_181.toInt < 0 := jb_lt (rfl) ((by decide)) c_182
                            refine lv_iconst (v := 0) hx hb dX10_scan_205 (by decide) ?_
                            refine lv_istore (lv' := [(7, .int 0), (6, .int z_7), (0, .ref r0), (1, .ref r1), (2, .int a2), (3, .int a3), (4, .int z_3), (5, .int v5_5)]) hx hb dX10_scan_206 hl (by decide) rfl (fun ls hl => ?_)
                            refine lv_aload_n hx hb dX10_scan_208 rfl (lv_at hl 2 rfl) ?_
                            refine lv_iload hx hb dX10_scan_209 (lv_at hl 0 rfl) ?_
                            refine lv_if_eq (tgt := 221) hx hb dX10_scan_211 (by decide) (fun c_183 => ?_) (fun c_183 => ?_)
                            · skip
                              refine lv_iconst (v := 0) hx hb dX10_scan_221 (by decide) ?_
                              refine lv_iconst (v := 0) hx hb dX10_scan_222 (by decide) ?_
                              refine va_callv (A0 := jA base) (H0 := s.heap) (va_runV (As := [.int 0, .int 0]) (rest := []) ⟨hx, hb, hml, hown, hts⟩ (uX10_addT l dC dI ca base B hB hAp hB12 hB101 hB293 G0 H_165 r0 0 0 wk_5) (cwV 2 hts (jgV (jWr_37 _ (List.mem_of_getElem? (i := 7) rfl)) (jWr_37 _ (List.mem_of_getElem? (i := 8) rfl)) (jWr_37 _ (List.mem_of_getElem? (i := 9) rfl)) (jWr_4 _ (List.mem_of_getElem? (i := 14) rfl)) (jWr_37 _ (List.mem_of_getElem? (i := 10) rfl))) rfl rfl rfl (by decide +kernel) ⟨by rw [← hR]; exact Nat.le_of_ble_eq_true rfl, by rw [← hR]; exact Nat.le_of_ble_eq_true rfl⟩) ⟨fun a U g mk q => by obtain ⟨q0, q1, q2, qK, q10, q11, q12⟩ := q; exact ⟨q0, q1, q2, jG.calling g mk a qK, q10, q11, q12⟩, hh_165.recv (C := RX10) (T := TX10) (N := 11) hB12 rfl (by decide) hg_r0 hK, fun U hU hW => ⟨rfl, hU, hh_165.2.1, hG.step hW hU hh_165.1, hg_r0, (hh_165.2.2.1.sub (L1 := [(r0, 12, 3, .int wk_5)]) [0] rfl), by first | omega | (refine ⟨?_, ?_, ?_, ?_⟩ <;> (first | omega | rfl | assumption | decide | exact Or.inl rfl | exact Or.inr rfl | (simp only; omega)))⟩⟩ rfl rfl hl.1 rfl (lv_room (Nat.le_of_ble_eq_true rfl)) dX10_scan_223 ⟨Nat.zero_le _, Nat.zero_le _⟩) hh_165.1 (fun q _ h => h) (fun q h => h) (fun u_184 t_184 H_184 locs_184 ht_184 hvm_184 hr_185 hb_184 hz_184 hk_184 hS_184 => ?_)
                              obtain ⟨qk_184, rfl⟩ : ∃ z, z = u_184 := ⟨_, rfl⟩
                              rw [ht_184] at hb_184
                              obtain ⟨hb_1841, hb_1842, hb_1843, hb_1844, hb_1845⟩ := hb_184
                              have hh_184 : jSt (dC, dI) B base G0 G0 EX10_scanT s.heap 0 0 [(r0, 12, 3, .int qk_184)] [(r1, 173, n1, ca 1, f1)] [] H_184 locs_184 := ((hh_165.call hb_1841 hb_1842 hb_1843 hb_1844 hS_184 rfl (L1 := []) [] rfl rfl (M1 := [(r1, 173, n1, ca 1, f1)]) [0] rfl rfl (I1 := []) [] rfl rfl).more hb_1845)
                              clear hh_165 ht_184 hvm_184 hz_184 hk_184 hS_184 hb_1841 hb_1842 hb_1843 hb_1844 hb_1845
                              refine lv_iload hx hb dX10_scan_226 (lv_at hl 7 rfl) ?_
                              refine lv_iconst (v := 1) hx hb dX10_scan_228 (by decide) ?_
                              refine lv_iadd hx hb dX10_scan_229 ?_
                              refine lv_topi (fun z_186 ez_186 => ?_)
                              have hz_186 : z_186.toInt = v5_5.toInt + 1 := by rw [ez_186]; exact jb_iadd2 (rfl) ((by decide)) (by omega)
                              refine lv_iload hx hb dX10_scan_230 (lv_at hl 1 rfl) ?_
                              refine va_mmax hx hb (by rw [hml]; exact hl.1.symm) hown (htw (.methodLink RX10 38 Lib.Math.max.name) (jWr_37 _ (List.mem_of_getElem? (i := 1) rfl))) (htw (.static Lib.Math.max.name) (jWr_3 _ (List.mem_of_getElem? (i := 6) rfl))) (htw (.initialized "java/lang/Math") (jWr_3 _ (List.mem_of_getElem? (i := 7) rfl))) (htw (.code Lib.Math.max.name Lib.Math.max.code 2 (some .int)) (jWr_3 _ (List.mem_of_getElem? (i := 8) rfl))) (by rw [← hR]; exact Nat.le_of_ble_eq_true rfl) (by rw [← hR]; exact Nat.le_of_ble_eq_true rfl) (Nat.zero_le _) (Nat.zero_le _) dX10_scan_232 ?_
                              refine lv_topi (fun z_187 ez_187 => ?_)
                              have hz_187 := jb_max ez_187
                              refine lv_istore (lv' := [(5, .int z_187), (7, .int 0), (6, .int z_7), (0, .ref r0), (1, .ref r1), (2, .int a2), (3, .int a3), (4, .int z_3)]) hx hb dX10_scan_235 hl (by decide) rfl (fun ls hl => ?_)
                              refine lv_goto (tgt := 20) hx hb dX10_scan_237 (by decide) ?_
                              exact L20 z_187 qk_184 (kf - 1) _ _ hh_184 (by have hk9 : 1 + jcK f1 nn a3.toInt (kf - 1) (z_187).toInt = jcK f1 nn a3.toInt kf v5_5.toInt := jcK_o (by omega) (by omega) hn9 hl9 (by rw [← hqz_15]; first | omega | (rw [← hq104]; omega)) (by rw [← hqz_164, ← hr_166p]; omega) (by omega); exact ⟨by omega, by omega, by omega, by omega, by omega, by have h9 := hi_5_5; omega, by rw [show (z_187).toInt = v5_5.toInt + 1 by omega]; exact jcV.ot hi_5_6 (by omega) (by omega) hn9⟩) (by omega) _ (lv_sub hl [3, 4, 5, 6, 7, 0] rfl)
                            · skip
                              exact absurd c_183 (by decide)
                          · skip
                            have c_182' : r_181.toInt ≥ 0 := jb_lt_n (rfl) ((by decide)) c_182
                            refine lv_iconst (v := 1) hx hb dX10_scan_201 (by decide) ?_
                            refine lv_goto (tgt := 206) hx hb dX10_scan_202 (by decide) ?_
                            refine lv_istore (lv' := [(7, .int 1), (6, .int z_7), (0, .ref r0), (1, .ref r1), (2, .int a2), (3, .int a3), (4, .int z_3), (5, .int v5_5)]) hx hb dX10_scan_206 hl (by decide) rfl (fun ls hl => ?_)
                            refine lv_aload_n hx hb dX10_scan_208 rfl (lv_at hl 2 rfl) ?_
                            refine lv_iload hx hb dX10_scan_209 (lv_at hl 0 rfl) ?_
                            refine lv_if_eq (tgt := 221) hx hb dX10_scan_211 (by decide) (fun c_188 => ?_) (fun c_188 => ?_)
                            · skip
                              exact absurd c_188 (by decide)
                            · skip
                              refine lv_aload_n hx hb dX10_scan_214 rfl (lv_at hl 3 rfl) ?_
                              refine lv_iload hx hb dX10_scan_215 (lv_at hl 7 rfl) ?_
                              refine j7_ialdM hx hb hK hh_165 hB173 1 rfl (by decide) hg_r1 (x := v5_5.toInt) (rfl) (by omega) (j := 0) rfl dX10_scan_217 (fun z_189 ez_189 (hz_189 : True) => ?_)
                              have hqz_189 : z_189.toInt = jSo f1 (v5_5.toInt) := by unfold jSo; rw [ez_189]
                              refine lv_goto (tgt := 222) hx hb dX10_scan_218 (by decide) ?_
                              refine lv_iconst (v := 0) hx hb dX10_scan_222 (by decide) ?_
                              refine va_callv (A0 := jA base) (H0 := s.heap) (va_runV (As := [.int z_189, .int 0]) (rest := []) ⟨hx, hb, hml, hown, hts⟩ (uX10_addT l dC dI ca base B hB hAp hB12 hB101 hB293 G0 H_165 r0 z_189 0 wk_5) (cwV 2 hts (jgV (jWr_37 _ (List.mem_of_getElem? (i := 7) rfl)) (jWr_37 _ (List.mem_of_getElem? (i := 8) rfl)) (jWr_37 _ (List.mem_of_getElem? (i := 9) rfl)) (jWr_4 _ (List.mem_of_getElem? (i := 14) rfl)) (jWr_37 _ (List.mem_of_getElem? (i := 10) rfl))) rfl rfl rfl (by decide +kernel) ⟨by rw [← hR]; exact Nat.le_of_ble_eq_true rfl, by rw [← hR]; exact Nat.le_of_ble_eq_true rfl⟩) ⟨fun a U g mk q => by obtain ⟨q0, q1, q2, qK, q10, q11, q12⟩ := q; exact ⟨q0, q1, q2, jG.calling g mk a qK, q10, q11, q12⟩, hh_165.recv (C := RX10) (T := TX10) (N := 11) hB12 rfl (by decide) hg_r0 hK, fun U hU hW => ⟨rfl, hU, hh_165.2.1, hG.step hW hU hh_165.1, hg_r0, (hh_165.2.2.1.sub (L1 := [(r0, 12, 3, .int wk_5)]) [0] rfl), by first | omega | (refine ⟨?_, ?_, ?_, ?_⟩ <;> (first | omega | rfl | assumption | decide | exact Or.inl rfl | exact Or.inr rfl | (simp only; omega)))⟩⟩ rfl rfl hl.1 rfl (lv_room (Nat.le_of_ble_eq_true rfl)) dX10_scan_223 ⟨Nat.zero_le _, Nat.zero_le _⟩) hh_165.1 (fun q _ h => h) (fun q h => h) (fun u_190 t_190 H_190 locs_190 ht_190 hvm_190 hr_191 hb_190 hz_190 hk_190 hS_190 => ?_)
                              obtain ⟨qk_190, rfl⟩ : ∃ z, z = u_190 := ⟨_, rfl⟩
                              rw [ht_190] at hb_190
                              obtain ⟨hb_1901, hb_1902, hb_1903, hb_1904, hb_1905⟩ := hb_190
                              have hh_190 : jSt (dC, dI) B base G0 G0 EX10_scanT s.heap 0 0 [(r0, 12, 3, .int qk_190)] [(r1, 173, n1, ca 1, f1)] [] H_190 locs_190 := ((hh_165.call hb_1901 hb_1902 hb_1903 hb_1904 hS_190 rfl (L1 := []) [] rfl rfl (M1 := [(r1, 173, n1, ca 1, f1)]) [0] rfl rfl (I1 := []) [] rfl rfl).more hb_1905)
                              clear hh_165 ht_190 hvm_190 hz_190 hk_190 hS_190 hb_1901 hb_1902 hb_1903 hb_1904 hb_1905
                              refine lv_iload hx hb dX10_scan_226 (lv_at hl 7 rfl) ?_
                              refine lv_iconst (v := 1) hx hb dX10_scan_228 (by decide) ?_
                              refine lv_iadd hx hb dX10_scan_229 ?_
                              refine lv_topi (fun z_192 ez_192 => ?_)
                              have hz_192 : z_192.toInt = v5_5.toInt + 1 := by rw [ez_192]; exact jb_iadd2 (rfl) ((by decide)) (by omega)
                              refine lv_iload hx hb dX10_scan_230 (lv_at hl 1 rfl) ?_
                              refine va_mmax hx hb (by rw [hml]; exact hl.1.symm) hown (htw (.methodLink RX10 38 Lib.Math.max.name) (jWr_37 _ (List.mem_of_getElem? (i := 1) rfl))) (htw (.static Lib.Math.max.name) (jWr_3 _ (List.mem_of_getElem? (i := 6) rfl))) (htw (.initialized "java/lang/Math") (jWr_3 _ (List.mem_of_getElem? (i := 7) rfl))) (htw (.code Lib.Math.max.name Lib.Math.max.code 2 (some .int)) (jWr_3 _ (List.mem_of_getElem? (i := 8) rfl))) (by rw [← hR]; exact Nat.le_of_ble_eq_true rfl) (by rw [← hR]; exact Nat.le_of_ble_eq_true rfl) (Nat.zero_le _) (Nat.zero_le _) dX10_scan_232 ?_
                              refine lv_topi (fun z_193 ez_193 => ?_)
                              have hz_193 := jb_max ez_193
                              refine lv_istore (lv' := [(5, .int z_193), (7, .int 1), (6, .int z_7), (0, .ref r0), (1, .ref r1), (2, .int a2), (3, .int a3), (4, .int z_3)]) hx hb dX10_scan_235 hl (by decide) rfl (fun ls hl => ?_)
                              refine lv_goto (tgt := 20) hx hb dX10_scan_237 (by decide) ?_
                              exact L20 z_193 qk_190 (kf - 1) _ _ hh_190 (by have hk9 : 1 + jcK f1 nn a3.toInt (kf - 1) (z_193).toInt = jcK f1 nn a3.toInt kf v5_5.toInt := jcK_o (by omega) (by omega) hn9 hl9 (by rw [← hqz_15]; first | omega | (rw [← hq104]; omega)) (by rw [← hqz_164, ← hr_166p]; omega) (by omega); exact ⟨by omega, by omega, by omega, by omega, by omega, by have h9 := hi_5_5; omega, by rw [show (z_193).toInt = v5_5.toInt + 1 by omega]; exact jcV.ot hi_5_6 (by omega) (by omega) hn9⟩) (by omega) _ (lv_sub hl [3, 4, 5, 6, 7, 0] rfl)
                      · skip
                        have c_171' : z_170.toInt = 46 := jb_ne_n (rfl) ((by decide)) c_171
                        refine lv_iload hx hb dX10_scan_171 (lv_at hl 0 rfl) ?_
                        refine lv_iload hx hb dX10_scan_173 (lv_at hl 5 rfl) ?_
                        refine lv_icmp_eq (tgt := 201) hx hb dX10_scan_175 (by decide) (fun c_194 => ?_) (fun c_194 => ?_)
                        · skip
                          have c_194' : z_7.toInt = z_3.toInt := jb_eq (rfl) (rfl) c_194
                          refine lv_iconst (v := 1) hx hb dX10_scan_201 (by decide) ?_
                          refine lv_goto (tgt := 206) hx hb dX10_scan_202 (by decide) ?_
                          refine lv_istore (lv' := [(7, .int 1), (6, .int z_7), (0, .ref r0), (1, .ref r1), (2, .int a2), (3, .int a3), (4, .int z_3), (5, .int v5_5)]) hx hb dX10_scan_206 hl (by decide) rfl (fun ls hl => ?_)
                          refine lv_aload_n hx hb dX10_scan_208 rfl (lv_at hl 2 rfl) ?_
                          refine lv_iload hx hb dX10_scan_209 (lv_at hl 0 rfl) ?_
                          refine lv_if_eq (tgt := 221) hx hb dX10_scan_211 (by decide) (fun c_195 => ?_) (fun c_195 => ?_)
                          · skip
                            exact absurd c_195 (by decide)
                          · skip
                            refine lv_aload_n hx hb dX10_scan_214 rfl (lv_at hl 3 rfl) ?_
                            refine lv_iload hx hb dX10_scan_215 (lv_at hl 7 rfl) ?_
                            refine j7_ialdM hx hb hK hh_165 hB173 1 rfl (by decide) hg_r1 (x := v5_5.toInt) (rfl) (by omega) (j := 0) rfl dX10_scan_217 (fun z_196 ez_196 (hz_196 : True) => ?_)
                            have hqz_196 : z_196.toInt = jSo f1 (v5_5.toInt) := by unfold jSo; rw [ez_196]
                            refine lv_goto (tgt := 222) hx hb dX10_scan_218 (by decide) ?_
                            refine lv_iconst (v := 0) hx hb dX10_scan_222 (by decide) ?_
                            refine va_callv (A0 := jA base) (H0 := s.heap) (va_runV (As := [.int z_196, .int 0]) (rest := []) ⟨hx, hb, hml, hown, hts⟩ (uX10_addT l dC dI ca base B hB hAp hB12 hB101 hB293 G0 H_165 r0 z_196 0 wk_5) (cwV 2 hts (jgV (jWr_37 _ (List.mem_of_getElem? (i := 7) rfl)) (jWr_37 _ (List.mem_of_getElem? (i := 8) rfl)) (jWr_37 _ (List.mem_of_getElem? (i := 9) rfl)) (jWr_4 _ (List.mem_of_getElem? (i := 14) rfl)) (jWr_37 _ (List.mem_of_getElem? (i := 10) rfl))) rfl rfl rfl (by decide +kernel) ⟨by rw [← hR]; exact Nat.le_of_ble_eq_true rfl, by rw [← hR]; exact Nat.le_of_ble_eq_true rfl⟩) ⟨fun a U g mk q => by obtain ⟨q0, q1, q2, qK, q10, q11, q12⟩ := q; exact ⟨q0, q1, q2, jG.calling g mk a qK, q10, q11, q12⟩, hh_165.recv (C := RX10) (T := TX10) (N := 11) hB12 rfl (by decide) hg_r0 hK, fun U hU hW => ⟨rfl, hU, hh_165.2.1, hG.step hW hU hh_165.1, hg_r0, (hh_165.2.2.1.sub (L1 := [(r0, 12, 3, .int wk_5)]) [0] rfl), by first | omega | (refine ⟨?_, ?_, ?_, ?_⟩ <;> (first | omega | rfl | assumption | decide | exact Or.inl rfl | exact Or.inr rfl | (simp only; omega)))⟩⟩ rfl rfl hl.1 rfl (lv_room (Nat.le_of_ble_eq_true rfl)) dX10_scan_223 ⟨Nat.zero_le _, Nat.zero_le _⟩) hh_165.1 (fun q _ h => h) (fun q h => h) (fun u_197 t_197 H_197 locs_197 ht_197 hvm_197 hr_198 hb_197 hz_197 hk_197 hS_197 => ?_)
                            obtain ⟨qk_197, rfl⟩ : ∃ z, z = u_197 := ⟨_, rfl⟩
                            rw [ht_197] at hb_197
                            obtain ⟨hb_1971, hb_1972, hb_1973, hb_1974, hb_1975⟩ := hb_197
                            have hh_197 : jSt (dC, dI) B base G0 G0 EX10_scanT s.heap 0 0 [(r0, 12, 3, .int qk_197)] [(r1, 173, n1, ca 1, f1)] [] H_197 locs_197 := ((hh_165.call hb_1971 hb_1972 hb_1973 hb_1974 hS_197 rfl (L1 := []) [] rfl rfl (M1 := [(r1, 173, n1, ca 1, f1)]) [0] rfl rfl (I1 := []) [] rfl rfl).more hb_1975)
                            clear hh_165 ht_197 hvm_197 hz_197 hk_197 hS_197 hb_1971 hb_1972 hb_1973 hb_1974 hb_1975
                            refine lv_iload hx hb dX10_scan_226 (lv_at hl 7 rfl) ?_
                            refine lv_iconst (v := 1) hx hb dX10_scan_228 (by decide) ?_
                            refine lv_iadd hx hb dX10_scan_229 ?_
                            refine lv_topi (fun z_199 ez_199 => ?_)
                            have hz_199 : z_199.toInt = v5_5.toInt + 1 := by rw [ez_199]; exact jb_iadd2 (rfl) ((by decide)) (by omega)
                            refine lv_iload hx hb dX10_scan_230 (lv_at hl 1 rfl) ?_
                            refine va_mmax hx hb (by rw [hml]; exact hl.1.symm) hown (htw (.methodLink RX10 38 Lib.Math.max.name) (jWr_37 _ (List.mem_of_getElem? (i := 1) rfl))) (htw (.static Lib.Math.max.name) (jWr_3 _ (List.mem_of_getElem? (i := 6) rfl))) (htw (.initialized "java/lang/Math") (jWr_3 _ (List.mem_of_getElem? (i := 7) rfl))) (htw (.code Lib.Math.max.name Lib.Math.max.code 2 (some .int)) (jWr_3 _ (List.mem_of_getElem? (i := 8) rfl))) (by rw [← hR]; exact Nat.le_of_ble_eq_true rfl) (by rw [← hR]; exact Nat.le_of_ble_eq_true rfl) (Nat.zero_le _) (Nat.zero_le _) dX10_scan_232 ?_
                            refine lv_topi (fun z_200 ez_200 => ?_)
                            have hz_200 := jb_max ez_200
                            refine lv_istore (lv' := [(5, .int z_200), (7, .int 1), (6, .int z_7), (0, .ref r0), (1, .ref r1), (2, .int a2), (3, .int a3), (4, .int z_3)]) hx hb dX10_scan_235 hl (by decide) rfl (fun ls hl => ?_)
                            refine lv_goto (tgt := 20) hx hb dX10_scan_237 (by decide) ?_
                            exact L20 z_200 qk_197 (kf - 1) _ _ hh_197 (by have hk9 : 1 + jcK f1 nn a3.toInt (kf - 1) (z_200).toInt = jcK f1 nn a3.toInt kf v5_5.toInt := jcK_o (by omega) (by omega) hn9 hl9 (by rw [← hqz_15]; first | omega | (rw [← hq104]; omega)) (by rw [← hqz_164, ← hr_166p]; omega) (by omega); exact ⟨by omega, by omega, by omega, by omega, by omega, by have h9 := hi_5_5; omega, by rw [show (z_200).toInt = v5_5.toInt + 1 by omega]; exact jcV.ot hi_5_6 (by omega) (by omega) hn9⟩) (by omega) _ (lv_sub hl [3, 4, 5, 6, 7, 0] rfl)
                        · skip
                          have c_194' : z_7.toInt ≠ z_3.toInt := jb_eq_n (rfl) (rfl) c_194
                          refine lv_aload_n hx hb dX10_scan_178 rfl (lv_at hl 2 rfl) ?_
                          refine lv_iload hx hb dX10_scan_179 (lv_at hl 6 rfl) ?_
                          refine j7_ialdM hx hb hK hh_165 hB173 1 rfl (by decide) hg_r1 (x := v5_5.toInt) (rfl) (by omega) (j := 0) rfl dX10_scan_181 (fun z_201 ez_201 (hz_201 : True) => ?_)
                          have hqz_201 : z_201.toInt = jSo f1 (v5_5.toInt) := by unfold jSo; rw [ez_201]
                          refine lv_sipush (v := 128) hx hb dX10_scan_182 (by decide) ?_
                          refine lv_icmp_ge (tgt := 205) hx hb dX10_scan_185 (by decide) (fun c_202 => ?_) (fun c_202 => ?_)
                          · skip
                            have c_202' : z_201.toInt ≥ 128 := jb_ge (rfl) ((by decide)) c_202
                            refine lv_iconst (v := 0) hx hb dX10_scan_205 (by decide) ?_
                            refine lv_istore (lv' := [(7, .int 0), (6, .int z_7), (0, .ref r0), (1, .ref r1), (2, .int a2), (3, .int a3), (4, .int z_3), (5, .int v5_5)]) hx hb dX10_scan_206 hl (by decide) rfl (fun ls hl => ?_)
                            refine lv_aload_n hx hb dX10_scan_208 rfl (lv_at hl 2 rfl) ?_
                            refine lv_iload hx hb dX10_scan_209 (lv_at hl 0 rfl) ?_
                            refine lv_if_eq (tgt := 221) hx hb dX10_scan_211 (by decide) (fun c_203 => ?_) (fun c_203 => ?_)
                            · skip
                              refine lv_iconst (v := 0) hx hb dX10_scan_221 (by decide) ?_
                              refine lv_iconst (v := 0) hx hb dX10_scan_222 (by decide) ?_
                              refine va_callv (A0 := jA base) (H0 := s.heap) (va_runV (As := [.int 0, .int 0]) (rest := []) ⟨hx, hb, hml, hown, hts⟩ (uX10_addT l dC dI ca base B hB hAp hB12 hB101 hB293 G0 H_165 r0 0 0 wk_5) (cwV 2 hts (jgV (jWr_37 _ (List.mem_of_getElem? (i := 7) rfl)) (jWr_37 _ (List.mem_of_getElem? (i := 8) rfl)) (jWr_37 _ (List.mem_of_getElem? (i := 9) rfl)) (jWr_4 _ (List.mem_of_getElem? (i := 14) rfl)) (jWr_37 _ (List.mem_of_getElem? (i := 10) rfl))) rfl rfl rfl (by decide +kernel) ⟨by rw [← hR]; exact Nat.le_of_ble_eq_true rfl, by rw [← hR]; exact Nat.le_of_ble_eq_true rfl⟩) ⟨fun a U g mk q => by obtain ⟨q0, q1, q2, qK, q10, q11, q12⟩ := q; exact ⟨q0, q1, q2, jG.calling g mk a qK, q10, q11, q12⟩, hh_165.recv (C := RX10) (T := TX10) (N := 11) hB12 rfl (by decide) hg_r0 hK, fun U hU hW => ⟨rfl, hU, hh_165.2.1, hG.step hW hU hh_165.1, hg_r0, (hh_165.2.2.1.sub (L1 := [(r0, 12, 3, .int wk_5)]) [0] rfl), by first | omega | (refine ⟨?_, ?_, ?_, ?_⟩ <;> (first | omega | rfl | assumption | decide | exact Or.inl rfl | exact Or.inr rfl | (simp only; omega)))⟩⟩ rfl rfl hl.1 rfl (lv_room (Nat.le_of_ble_eq_true rfl)) dX10_scan_223 ⟨Nat.zero_le _, Nat.zero_le _⟩) hh_165.1 (fun q _ h => h) (fun q h => h) (fun u_204 t_204 H_204 locs_204 ht_204 hvm_204 hr_205 hb_204 hz_204 hk_204 hS_204 => ?_)
                              obtain ⟨qk_204, rfl⟩ : ∃ z, z = u_204 := ⟨_, rfl⟩
                              rw [ht_204] at hb_204
                              obtain ⟨hb_2041, hb_2042, hb_2043, hb_2044, hb_2045⟩ := hb_204
                              have hh_204 : jSt (dC, dI) B base G0 G0 EX10_scanT s.heap 0 0 [(r0, 12, 3, .int qk_204)] [(r1, 173, n1, ca 1, f1)] [] H_204 locs_204 := ((hh_165.call hb_2041 hb_2042 hb_2043 hb_2044 hS_204 rfl (L1 := []) [] rfl rfl (M1 := [(r1, 173, n1, ca 1, f1)]) [0] rfl rfl (I1 := []) [] rfl rfl).more hb_2045)
                              clear hh_165 ht_204 hvm_204 hz_204 hk_204 hS_204 hb_2041 hb_2042 hb_2043 hb_2044 hb_2045
                              refine lv_iload hx hb dX10_scan_226 (lv_at hl 7 rfl) ?_
                              refine lv_iconst (v := 1) hx hb dX10_scan_228 (by decide) ?_
                              refine lv_iadd hx hb dX10_scan_229 ?_
                              refine lv_topi (fun z_206 ez_206 => ?_)
                              have hz_206 : z_206.toInt = v5_5.toInt + 1 := by rw [ez_206]; exact jb_iadd2 (rfl) ((by decide)) (by omega)
                              refine lv_iload hx hb dX10_scan_230 (lv_at hl 1 rfl) ?_
                              refine va_mmax hx hb (by rw [hml]; exact hl.1.symm) hown (htw (.methodLink RX10 38 Lib.Math.max.name) (jWr_37 _ (List.mem_of_getElem? (i := 1) rfl))) (htw (.static Lib.Math.max.name) (jWr_3 _ (List.mem_of_getElem? (i := 6) rfl))) (htw (.initialized "java/lang/Math") (jWr_3 _ (List.mem_of_getElem? (i := 7) rfl))) (htw (.code Lib.Math.max.name Lib.Math.max.code 2 (some .int)) (jWr_3 _ (List.mem_of_getElem? (i := 8) rfl))) (by rw [← hR]; exact Nat.le_of_ble_eq_true rfl) (by rw [← hR]; exact Nat.le_of_ble_eq_true rfl) (Nat.zero_le _) (Nat.zero_le _) dX10_scan_232 ?_
                              refine lv_topi (fun z_207 ez_207 => ?_)
                              have hz_207 := jb_max ez_207
                              refine lv_istore (lv' := [(5, .int z_207), (7, .int 0), (6, .int z_7), (0, .ref r0), (1, .ref r1), (2, .int a2), (3, .int a3), (4, .int z_3)]) hx hb dX10_scan_235 hl (by decide) rfl (fun ls hl => ?_)
                              refine lv_goto (tgt := 20) hx hb dX10_scan_237 (by decide) ?_
                              exact L20 z_207 qk_204 (kf - 1) _ _ hh_204 (by have hk9 : 1 + jcK f1 nn a3.toInt (kf - 1) (z_207).toInt = jcK f1 nn a3.toInt kf v5_5.toInt := jcK_o (by omega) (by omega) hn9 hl9 (by rw [← hqz_15]; first | omega | (rw [← hq104]; omega)) (by rw [← hqz_164, ← hr_166p]; omega) (by omega); exact ⟨by omega, by omega, by omega, by omega, by omega, by have h9 := hi_5_5; omega, by rw [show (z_207).toInt = v5_5.toInt + 1 by omega]; exact jcV.ot hi_5_6 (by omega) (by omega) hn9⟩) (by omega) _ (lv_sub hl [3, 4, 5, 6, 7, 0] rfl)
                            · skip
                              exact absurd c_203 (by decide)
                          · skip
                            have c_202' : z_201.toInt < 128 := jb_ge_n (rfl) ((by decide)) c_202
                            refine va_ldcS hx hb hown rstr66 dX10_scan_188 ?_
                            refine lv_aload_n hx hb dX10_scan_190 rfl (lv_at hl 2 rfl) ?_
                            refine lv_iload hx hb dX10_scan_191 (lv_at hl 6 rfl) ?_
                            refine j7_ialdM hx hb hK hh_165 hB173 1 rfl (by decide) hg_r1 (x := v5_5.toInt) (rfl) (by omega) (j := 0) rfl dX10_scan_193 (fun z_208 ez_208 (hz_208 : True) => ?_)
                            have hqz_208 : z_208.toInt = jSo f1 (v5_5.toInt) := by unfold jSo; rw [ez_208]
                            refine lv_i2c hx hb dX10_scan_194 rfl ?_
                            refine lv_topi (fun z_209 ez_209 => ?_)
                            refine vp_callSi (W.runV (As := [.int z_209]) (rest := []) ⟨hx, hb, hml, hown, hts⟩ (wJ0_indexOf_0f7a4 l dC dI ca base H_165 str66 8 z_209) (cwV 1 hts (jgV (jWr_37 _ (List.mem_of_getElem? (i := 11) rfl)) (jWr_37 _ (List.mem_of_getElem? (i := 12) rfl)) (jWr_37 _ (List.mem_of_getElem? (i := 13) rfl)) (jWr_5 _ (List.mem_of_getElem? (i := 15) rfl)) (jWr_37 _ (List.mem_of_getElem? (i := 14) rfl))) rfl rfl rfl (by decide +kernel) ⟨by rw [← hR]; exact Nat.le_of_ble_eq_true rfl, by rw [← hR]; exact Nat.le_of_ble_eq_true rfl⟩) ⟨fun a U g mk q => by obtain ⟨q0, q1, q2, qK, q9⟩ := q; exact ⟨q0, q1, (q2.moved (Vm.Alike.refl U.vm)), jG.calling g mk a qK, q9⟩, jStr_recv hstr66 hh_165.1, fun U hU hW => ⟨rfl, hU, (hstr66.moved hW.alike).kept hh_165.1.2.1, hG.step hW hU hh_165.1, by omega⟩⟩ rfl rfl hl.1 rfl (lv_room (Nat.le_of_ble_eq_true rfl)) dX10_scan_195 ⟨Nat.zero_le _, Nat.zero_le _⟩) (fun r_210 hr_210 => ?_)
                            refine lv_if_lt (tgt := 205) hx hb dX10_scan_198 (by decide) (fun c_211 => ?_) (fun c_211 => ?_)
                            · skip
                              have c_211' : r_210.toInt < 0 := jb_lt (rfl) ((by decide)) c_211
                              refine lv_iconst (v := 0) hx hb dX10_scan_205 (by decide) ?_
                              refine lv_istore (lv' := [(7, .int 0), (6, .int z_7), (0, .ref r0), (1, .ref r1), (2, .int a2), (3, .int a3), (4, .int z_3), (5, .int v5_5)]) hx hb dX10_scan_206 hl (by decide) rfl (fun ls hl => ?_)
                              refine lv_aload_n hx hb dX10_scan_208 rfl (lv_at hl 2 rfl) ?_
                              refine lv_iload hx hb dX10_scan_209 (lv_at hl 0 rfl) ?_
                              refine lv_if_eq (tgt := 221) hx hb dX10_scan_211 (by decide) (fun c_212 => ?_) (fun c_212 => ?_)
                              · skip
                                refine lv_iconst (v := 0) hx hb dX10_scan_221 (by decide) ?_
                                refine lv_iconst (v := 0) hx hb dX10_scan_222 (by decide) ?_
                                refine va_callv (A0 := jA base) (H0 := s.heap) (va_runV (As := [.int 0, .int 0]) (rest := []) ⟨hx, hb, hml, hown, hts⟩ (uX10_addT l dC dI ca base B hB hAp hB12 hB101 hB293 G0 H_165 r0 0 0 wk_5) (cwV 2 hts (jgV (jWr_37 _ (List.mem_of_getElem? (i := 7) rfl)) (jWr_37 _ (List.mem_of_getElem? (i := 8) rfl)) (jWr_37 _ (List.mem_of_getElem? (i := 9) rfl)) (jWr_4 _ (List.mem_of_getElem? (i := 14) rfl)) (jWr_37 _ (List.mem_of_getElem? (i := 10) rfl))) rfl rfl rfl (by decide +kernel) ⟨by rw [← hR]; exact Nat.le_of_ble_eq_true rfl, by rw [← hR]; exact Nat.le_of_ble_eq_true rfl⟩) ⟨fun a U g mk q => by obtain ⟨q0, q1, q2, qK, q10, q11, q12⟩ := q; exact ⟨q0, q1, q2, jG.calling g mk a qK, q10, q11, q12⟩, hh_165.recv (C := RX10) (T := TX10) (N := 11) hB12 rfl (by decide) hg_r0 hK, fun U hU hW => ⟨rfl, hU, hh_165.2.1, hG.step hW hU hh_165.1, hg_r0, (hh_165.2.2.1.sub (L1 := [(r0, 12, 3, .int wk_5)]) [0] rfl), by first | omega | (refine ⟨?_, ?_, ?_, ?_⟩ <;> (first | omega | rfl | assumption | decide | exact Or.inl rfl | exact Or.inr rfl | (simp only; omega)))⟩⟩ rfl rfl hl.1 rfl (lv_room (Nat.le_of_ble_eq_true rfl)) dX10_scan_223 ⟨Nat.zero_le _, Nat.zero_le _⟩) hh_165.1 (fun q _ h => h) (fun q h => h) (fun u_213 t_213 H_213 locs_213 ht_213 hvm_213 hr_214 hb_213 hz_213 hk_213 hS_213 => ?_)
                                obtain ⟨qk_213, rfl⟩ : ∃ z, z = u_213 := ⟨_, rfl⟩
                                rw [ht_213] at hb_213
                                obtain ⟨hb_2131, hb_2132, hb_2133, hb_2134, hb_2135⟩ := hb_213
                                have hh_213 : jSt (dC, dI) B base G0 G0 EX10_scanT s.heap 0 0 [(r0, 12, 3, .int qk_213)] [(r1, 173, n1, ca 1, f1)] [] H_213 locs_213 := ((hh_165.call hb_2131 hb_2132 hb_2133 hb_2134 hS_213 rfl (L1 := []) [] rfl rfl (M1 := [(r1, 173, n1, ca 1, f1)]) [0] rfl rfl (I1 := []) [] rfl rfl).more hb_2135)
                                clear hh_165 ht_213 hvm_213 hz_213 hk_213 hS_213 hb_2131 hb_2132 hb_2133 hb_2134 hb_2135
                                refine lv_iload hx hb dX10_scan_226 (lv_at hl 7 rfl) ?_
                                refine lv_iconst (v := 1) hx hb dX10_scan_228 (by decide) ?_
                                refine lv_iadd hx hb dX10_scan_229 ?_
                                refine lv_topi (fun z_215 ez_215 => ?_)
                                have hz_215 : z_215.toInt = v5_5.toInt + 1 := by rw [ez_215]; exact jb_iadd2 (rfl) ((by decide)) (by omega)
                                refine lv_iload hx hb dX10_scan_230 (lv_at hl 1 rfl) ?_
                                refine va_mmax hx hb (by rw [hml]; exact hl.1.symm) hown (htw (.methodLink RX10 38 Lib.Math.max.name) (jWr_37 _ (List.mem_of_getElem? (i := 1) rfl))) (htw (.static Lib.Math.max.name) (jWr_3 _ (List.mem_of_getElem? (i := 6) rfl))) (htw (.initialized "java/lang/Math") (jWr_3 _ (List.mem_of_getElem? (i := 7) rfl))) (htw (.code Lib.Math.max.name Lib.Math.max.code 2 (some .int)) (jWr_3 _ (List.mem_of_getElem? (i := 8) rfl))) (by rw [← hR]; exact Nat.le_of_ble_eq_true rfl) (by rw [← hR]; exact Nat.le_of_ble_eq_true rfl) (Nat.zero_le _) (Nat.zero_le _) dX10_scan_232 ?_
                                refine lv_topi (fun z_216 ez_216 => ?_)
                                have hz_216 := jb_max ez_216
                                refine lv_istore (lv' := [(5, .int z_216), (7, .int 0), (6, .int z_7), (0, .ref r0), (1, .ref r1), (2, .int a2), (3, .int a3), (4, .int z_3)]) hx hb dX10_scan_235 hl (by decide) rfl (fun ls hl => ?_)
                                refine lv_goto (tgt := 20) hx hb dX10_scan_237 (by decide) ?_
                                exact L20 z_216 qk_213 (kf - 1) _ _ hh_213 (by have hk9 : 1 + jcK f1 nn a3.toInt (kf - 1) (z_216).toInt = jcK f1 nn a3.toInt kf v5_5.toInt := jcK_o (by omega) (by omega) hn9 hl9 (by rw [← hqz_15]; first | omega | (rw [← hq104]; omega)) (by rw [← hqz_164, ← hr_166p]; omega) (by omega); exact ⟨by omega, by omega, by omega, by omega, by omega, by have h9 := hi_5_5; omega, by rw [show (z_216).toInt = v5_5.toInt + 1 by omega]; exact jcV.ot hi_5_6 (by omega) (by omega) hn9⟩) (by omega) _ (lv_sub hl [3, 4, 5, 6, 7, 0] rfl)
                              · skip
                                exact absurd c_212 (by decide)
                            · skip
                              have c_211' : r_210.toInt ≥ 0 := jb_lt_n (rfl) ((by decide)) c_211
                              refine lv_iconst (v := 1) hx hb dX10_scan_201 (by decide) ?_
                              refine lv_goto (tgt := 206) hx hb dX10_scan_202 (by decide) ?_
                              refine lv_istore (lv' := [(7, .int 1), (6, .int z_7), (0, .ref r0), (1, .ref r1), (2, .int a2), (3, .int a3), (4, .int z_3), (5, .int v5_5)]) hx hb dX10_scan_206 hl (by decide) rfl (fun ls hl => ?_)
                              refine lv_aload_n hx hb dX10_scan_208 rfl (lv_at hl 2 rfl) ?_
                              refine lv_iload hx hb dX10_scan_209 (lv_at hl 0 rfl) ?_
                              refine lv_if_eq (tgt := 221) hx hb dX10_scan_211 (by decide) (fun c_217 => ?_) (fun c_217 => ?_)
                              · skip
                                exact absurd c_217 (by decide)
                              · skip
                                refine lv_aload_n hx hb dX10_scan_214 rfl (lv_at hl 3 rfl) ?_
                                refine lv_iload hx hb dX10_scan_215 (lv_at hl 7 rfl) ?_
                                refine j7_ialdM hx hb hK hh_165 hB173 1 rfl (by decide) hg_r1 (x := v5_5.toInt) (rfl) (by omega) (j := 0) rfl dX10_scan_217 (fun z_218 ez_218 (hz_218 : True) => ?_)
                                have hqz_218 : z_218.toInt = jSo f1 (v5_5.toInt) := by unfold jSo; rw [ez_218]
                                refine lv_goto (tgt := 222) hx hb dX10_scan_218 (by decide) ?_
                                refine lv_iconst (v := 0) hx hb dX10_scan_222 (by decide) ?_
                                refine va_callv (A0 := jA base) (H0 := s.heap) (va_runV (As := [.int z_218, .int 0]) (rest := []) ⟨hx, hb, hml, hown, hts⟩ (uX10_addT l dC dI ca base B hB hAp hB12 hB101 hB293 G0 H_165 r0 z_218 0 wk_5) (cwV 2 hts (jgV (jWr_37 _ (List.mem_of_getElem? (i := 7) rfl)) (jWr_37 _ (List.mem_of_getElem? (i := 8) rfl)) (jWr_37 _ (List.mem_of_getElem? (i := 9) rfl)) (jWr_4 _ (List.mem_of_getElem? (i := 14) rfl)) (jWr_37 _ (List.mem_of_getElem? (i := 10) rfl))) rfl rfl rfl (by decide +kernel) ⟨by rw [← hR]; exact Nat.le_of_ble_eq_true rfl, by rw [← hR]; exact Nat.le_of_ble_eq_true rfl⟩) ⟨fun a U g mk q => by obtain ⟨q0, q1, q2, qK, q10, q11, q12⟩ := q; exact ⟨q0, q1, q2, jG.calling g mk a qK, q10, q11, q12⟩, hh_165.recv (C := RX10) (T := TX10) (N := 11) hB12 rfl (by decide) hg_r0 hK, fun U hU hW => ⟨rfl, hU, hh_165.2.1, hG.step hW hU hh_165.1, hg_r0, (hh_165.2.2.1.sub (L1 := [(r0, 12, 3, .int wk_5)]) [0] rfl), by first | omega | (refine ⟨?_, ?_, ?_, ?_⟩ <;> (first | omega | rfl | assumption | decide | exact Or.inl rfl | exact Or.inr rfl | (simp only; omega)))⟩⟩ rfl rfl hl.1 rfl (lv_room (Nat.le_of_ble_eq_true rfl)) dX10_scan_223 ⟨Nat.zero_le _, Nat.zero_le _⟩) hh_165.1 (fun q _ h => h) (fun q h => h) (fun u_219 t_219 H_219 locs_219 ht_219 hvm_219 hr_220 hb_219 hz_219 hk_219 hS_219 => ?_)
                                obtain ⟨qk_219, rfl⟩ : ∃ z, z = u_219 := ⟨_, rfl⟩
                                rw [ht_219] at hb_219
                                obtain ⟨hb_2191, hb_2192, hb_2193, hb_2194, hb_2195⟩ := hb_219
                                have hh_219 : jSt (dC, dI) B base G0 G0 EX10_scanT s.heap 0 0 [(r0, 12, 3, .int qk_219)] [(r1, 173, n1, ca 1, f1)] [] H_219 locs_219 := ((hh_165.call hb_2191 hb_2192 hb_2193 hb_2194 hS_219 rfl (L1 := []) [] rfl rfl (M1 := [(r1, 173, n1, ca 1, f1)]) [0] rfl rfl (I1 := []) [] rfl rfl).more hb_2195)
                                clear hh_165 ht_219 hvm_219 hz_219 hk_219 hS_219 hb_2191 hb_2192 hb_2193 hb_2194 hb_2195
                                refine lv_iload hx hb dX10_scan_226 (lv_at hl 7 rfl) ?_
                                refine lv_iconst (v := 1) hx hb dX10_scan_228 (by decide) ?_
                                refine lv_iadd hx hb dX10_scan_229 ?_
                                refine lv_topi (fun z_221 ez_221 => ?_)
                                have hz_221 : z_221.toInt = v5_5.toInt + 1 := by rw [ez_221]; exact jb_iadd2 (rfl) ((by decide)) (by omega)
                                refine lv_iload hx hb dX10_scan_230 (lv_at hl 1 rfl) ?_
                                refine va_mmax hx hb (by rw [hml]; exact hl.1.symm) hown (htw (.methodLink RX10 38 Lib.Math.max.name) (jWr_37 _ (List.mem_of_getElem? (i := 1) rfl))) (htw (.static Lib.Math.max.name) (jWr_3 _ (List.mem_of_getElem? (i := 6) rfl))) (htw (.initialized "java/lang/Math") (jWr_3 _ (List.mem_of_getElem? (i := 7) rfl))) (htw (.code Lib.Math.max.name Lib.Math.max.code 2 (some .int)) (jWr_3 _ (List.mem_of_getElem? (i := 8) rfl))) (by rw [← hR]; exact Nat.le_of_ble_eq_true rfl) (by rw [← hR]; exact Nat.le_of_ble_eq_true rfl) (Nat.zero_le _) (Nat.zero_le _) dX10_scan_232 ?_
                                refine lv_topi (fun z_222 ez_222 => ?_)
                                have hz_222 := jb_max ez_222
                                refine lv_istore (lv' := [(5, .int z_222), (7, .int 1), (6, .int z_7), (0, .ref r0), (1, .ref r1), (2, .int a2), (3, .int a3), (4, .int z_3)]) hx hb dX10_scan_235 hl (by decide) rfl (fun ls hl => ?_)
                                refine lv_goto (tgt := 20) hx hb dX10_scan_237 (by decide) ?_
                                exact L20 z_222 qk_219 (kf - 1) _ _ hh_219 (by have hk9 : 1 + jcK f1 nn a3.toInt (kf - 1) (z_222).toInt = jcK f1 nn a3.toInt kf v5_5.toInt := jcK_o (by omega) (by omega) hn9 hl9 (by rw [← hqz_15]; first | omega | (rw [← hq104]; omega)) (by rw [← hqz_164, ← hr_166p]; omega) (by omega); exact ⟨by omega, by omega, by omega, by omega, by omega, by have h9 := hi_5_5; omega, by rw [show (z_222).toInt = v5_5.toInt + 1 by omega]; exact jcV.ot hi_5_6 (by omega) (by omega) hn9⟩) (by omega) _ (lv_sub hl [3, 4, 5, 6, 7, 0] rfl)
                  · skip
                    have c_163' : r_162.toInt ≠ 0 := jb_eq_n (rfl) ((by decide)) c_163
                    have hdg9 : 48 ≤ jSo f1 v5_5.toInt ∧ jSo f1 v5_5.toInt ≤ 57 := by rw [← hqz_160]; have h7 := hr_162p; unfold jIn at h7; split at h7; assumption; omega
                    refine lv_aload_n hx hb dX10_scan_136 rfl (lv_at hl 1 rfl) ?_
                    refine lv_bipush (v := 100) hx hb dX10_scan_137 (by decide) ?_
                    refine lv_aload_n hx hb dX10_scan_139 rfl (lv_at hl 2 rfl) ?_
                    refine lv_iload hx hb dX10_scan_140 (lv_at hl 6 rfl) ?_
                    refine j7_ialdM hx hb hK hh_161 hB173 1 rfl (by decide) hg_r1 (x := v5_5.toInt) (rfl) (by omega) (j := 0) rfl dX10_scan_142 (fun z_223 ez_223 (hz_223 : True) => ?_)
                    have hqz_223 : z_223.toInt = jSo f1 (v5_5.toInt) := by unfold jSo; rw [ez_223]
                    refine lv_bipush (v := 48) hx hb dX10_scan_143 (by decide) ?_
                    refine lv_isub hx hb dX10_scan_145 ?_
                    refine lv_topi (fun z_224 ez_224 => ?_)
                    have hz_224 : z_224.toInt = z_223.toInt - 48 := by rw [ez_224]; exact jb_isub2 (rfl) ((by decide)) (by omega)
                    refine va_callv (A0 := jA base) (H0 := s.heap) (va_runV (As := [.int 100, .int z_224]) (rest := []) ⟨hx, hb, hml, hown, hts⟩ (uX10_addT l dC dI ca base B hB hAp hB12 hB101 hB293 G0 H_161 r0 100 z_224 wk_5) (cwV 2 hts (jgV (jWr_37 _ (List.mem_of_getElem? (i := 7) rfl)) (jWr_37 _ (List.mem_of_getElem? (i := 8) rfl)) (jWr_37 _ (List.mem_of_getElem? (i := 9) rfl)) (jWr_4 _ (List.mem_of_getElem? (i := 14) rfl)) (jWr_37 _ (List.mem_of_getElem? (i := 10) rfl))) rfl rfl rfl (by decide +kernel) ⟨by rw [← hR]; exact Nat.le_of_ble_eq_true rfl, by rw [← hR]; exact Nat.le_of_ble_eq_true rfl⟩) ⟨fun a U g mk q => by obtain ⟨q0, q1, q2, qK, q10, q11, q12⟩ := q; exact ⟨q0, q1, q2, jG.calling g mk a qK, q10, q11, q12⟩, hh_161.recv (C := RX10) (T := TX10) (N := 11) hB12 rfl (by decide) hg_r0 hK, fun U hU hW => ⟨rfl, hU, hh_161.2.1, hG.step hW hU hh_161.1, hg_r0, (hh_161.2.2.1.sub (L1 := [(r0, 12, 3, .int wk_5)]) [0] rfl), by first | omega | (refine ⟨?_, ?_, ?_, ?_⟩ <;> (first | omega | rfl | assumption | decide | exact Or.inl rfl | exact Or.inr rfl | (simp only; omega)))⟩⟩ rfl rfl hl.1 rfl (lv_room (Nat.le_of_ble_eq_true rfl)) dX10_scan_146 ⟨Nat.zero_le _, Nat.zero_le _⟩) hh_161.1 (fun q _ h => h) (fun q h => h) (fun u_225 t_225 H_225 locs_225 ht_225 hvm_225 hr_226 hb_225 hz_225 hk_225 hS_225 => ?_)
                    obtain ⟨qk_225, rfl⟩ : ∃ z, z = u_225 := ⟨_, rfl⟩
                    rw [ht_225] at hb_225
                    obtain ⟨hb_2251, hb_2252, hb_2253, hb_2254, hb_2255⟩ := hb_225
                    have hh_225 : jSt (dC, dI) B base G0 G0 EX10_scanT s.heap 0 0 [(r0, 12, 3, .int qk_225)] [(r1, 173, n1, ca 1, f1)] [] H_225 locs_225 := ((hh_161.call hb_2251 hb_2252 hb_2253 hb_2254 hS_225 rfl (L1 := []) [] rfl rfl (M1 := [(r1, 173, n1, ca 1, f1)]) [0] rfl rfl (I1 := []) [] rfl rfl).more hb_2255)
                    clear hh_161 ht_225 hvm_225 hz_225 hk_225 hS_225 hb_2251 hb_2252 hb_2253 hb_2254 hb_2255
                    refine lv_goto (tgt := 226) hx hb dX10_scan_149 (by decide) ?_
                    refine lv_iload hx hb dX10_scan_226 (lv_at hl 6 rfl) ?_
                    refine lv_iconst (v := 1) hx hb dX10_scan_228 (by decide) ?_
                    refine lv_iadd hx hb dX10_scan_229 ?_
                    refine lv_topi (fun z_227 ez_227 => ?_)
                    have hz_227 : z_227.toInt = v5_5.toInt + 1 := by rw [ez_227]; exact jb_iadd2 (rfl) ((by decide)) (by omega)
                    refine lv_iload hx hb dX10_scan_230 (lv_at hl 0 rfl) ?_
                    refine va_mmax hx hb (by rw [hml]; exact hl.1.symm) hown (htw (.methodLink RX10 38 Lib.Math.max.name) (jWr_37 _ (List.mem_of_getElem? (i := 1) rfl))) (htw (.static Lib.Math.max.name) (jWr_3 _ (List.mem_of_getElem? (i := 6) rfl))) (htw (.initialized "java/lang/Math") (jWr_3 _ (List.mem_of_getElem? (i := 7) rfl))) (htw (.code Lib.Math.max.name Lib.Math.max.code 2 (some .int)) (jWr_3 _ (List.mem_of_getElem? (i := 8) rfl))) (by rw [← hR]; exact Nat.le_of_ble_eq_true rfl) (by rw [← hR]; exact Nat.le_of_ble_eq_true rfl) (Nat.zero_le _) (Nat.zero_le _) dX10_scan_232 ?_
                    refine lv_topi (fun z_228 ez_228 => ?_)
                    have hz_228 := jb_max ez_228
                    refine lv_istore (lv' := [(5, .int z_228), (6, .int z_7), (0, .ref r0), (1, .ref r1), (2, .int a2), (3, .int a3), (4, .int z_3)]) hx hb dX10_scan_235 hl (by decide) rfl (fun ls hl => ?_)
                    refine lv_goto (tgt := 20) hx hb dX10_scan_237 (by decide) ?_
                    exact L20 z_228 qk_225 (kf - 1) _ _ hh_225 (by have hk9 : 1 + jcK f1 nn a3.toInt (kf - 1) (z_228).toInt = jcK f1 nn a3.toInt kf v5_5.toInt := jcK_o (by omega) (by omega) hn9 hl9 (by rw [← hqz_15]; first | omega | (rw [← hq104]; omega)) (fun h9 => by have h8 := jcBd h9; omega) (by omega); exact ⟨by omega, by omega, by omega, by omega, by omega, by have h9 := hi_5_5; omega, by rw [show (z_228).toInt = v5_5.toInt + 1 by omega]; exact jcV.ot hi_5_6 (by omega) (by omega) hn9⟩) (by omega) _ (lv_sub hl [2, 3, 4, 5, 6, 0] rfl)
                · skip
                  have c_159' : z_158.toInt = 62 := jb_ne_n (rfl) ((by decide)) c_159
                  refine lv_aload_n hx hb dX10_scan_110 rfl (lv_at hl 1 rfl) ?_
                  refine lv_bipush (v := 62) hx hb dX10_scan_111 (by decide) ?_
                  refine lv_iconst (v := 0) hx hb dX10_scan_113 (by decide) ?_
                  refine va_callv (A0 := jA base) (H0 := s.heap) (va_runV (As := [.int 62, .int 0]) (rest := []) ⟨hx, hb, hml, hown, hts⟩ (uX10_addT l dC dI ca base B hB hAp hB12 hB101 hB293 G0 H_12 r0 62 0 wk_5) (cwV 2 hts (jgV (jWr_37 _ (List.mem_of_getElem? (i := 7) rfl)) (jWr_37 _ (List.mem_of_getElem? (i := 8) rfl)) (jWr_37 _ (List.mem_of_getElem? (i := 9) rfl)) (jWr_4 _ (List.mem_of_getElem? (i := 14) rfl)) (jWr_37 _ (List.mem_of_getElem? (i := 10) rfl))) rfl rfl rfl (by decide +kernel) ⟨by rw [← hR]; exact Nat.le_of_ble_eq_true rfl, by rw [← hR]; exact Nat.le_of_ble_eq_true rfl⟩) ⟨fun a U g mk q => by obtain ⟨q0, q1, q2, qK, q10, q11, q12⟩ := q; exact ⟨q0, q1, q2, jG.calling g mk a qK, q10, q11, q12⟩, hh_12.recv (C := RX10) (T := TX10) (N := 11) hB12 rfl (by decide) hg_r0 hK, fun U hU hW => ⟨rfl, hU, hh_12.2.1, hG.step hW hU hh_12.1, hg_r0, (hh_12.2.2.1.sub (L1 := [(r0, 12, 3, .int wk_5)]) [0] rfl), by first | omega | (refine ⟨?_, ?_, ?_, ?_⟩ <;> (first | omega | rfl | assumption | decide | exact Or.inl rfl | exact Or.inr rfl | (simp only; omega)))⟩⟩ rfl rfl hl.1 rfl (lv_room (Nat.le_of_ble_eq_true rfl)) dX10_scan_114 ⟨Nat.zero_le _, Nat.zero_le _⟩) hh_12.1 (fun q _ h => h) (fun q h => h) (fun u_229 t_229 H_229 locs_229 ht_229 hvm_229 hr_230 hb_229 hz_229 hk_229 hS_229 => ?_)
                  obtain ⟨qk_229, rfl⟩ : ∃ z, z = u_229 := ⟨_, rfl⟩
                  rw [ht_229] at hb_229
                  obtain ⟨hb_2291, hb_2292, hb_2293, hb_2294, hb_2295⟩ := hb_229
                  have hh_229 : jSt (dC, dI) B base G0 G0 EX10_scanT s.heap 0 0 [(r0, 12, 3, .int qk_229)] [(r1, 173, n1, ca 1, f1)] [] H_229 locs_229 := ((hh_12.call hb_2291 hb_2292 hb_2293 hb_2294 hS_229 rfl (L1 := []) [] rfl rfl (M1 := [(r1, 173, n1, ca 1, f1)]) [0] rfl rfl (I1 := []) [] rfl rfl).more hb_2295)
                  clear hh_12 ht_229 hvm_229 hz_229 hk_229 hS_229 hb_2291 hb_2292 hb_2293 hb_2294 hb_2295
                  refine lv_iload hx hb dX10_scan_117 (lv_at hl 6 rfl) ?_
                  refine lv_iconst (v := 2) hx hb dX10_scan_119 (by decide) ?_
                  refine lv_iadd hx hb dX10_scan_120 ?_
                  refine lv_topi (fun z_231 ez_231 => ?_)
                  have hz_231 : z_231.toInt = v5_5.toInt + 2 := by rw [ez_231]; exact jb_iadd2 (rfl) ((by decide)) (by omega)
                  refine lv_istore (lv' := [(6, .int z_231), (0, .ref r0), (1, .ref r1), (2, .int a2), (3, .int a3), (4, .int z_3), (5, .int v5_5)]) hx hb dX10_scan_121 hl (by decide) rfl (fun ls hl => ?_)
                  refine lv_goto (tgt := 226) hx hb dX10_scan_123 (by decide) ?_
                  refine lv_iload hx hb dX10_scan_226 (lv_at hl 6 rfl) ?_
                  refine lv_iconst (v := 1) hx hb dX10_scan_228 (by decide) ?_
                  refine lv_iadd hx hb dX10_scan_229 ?_
                  refine lv_topi (fun z_232 ez_232 => ?_)
                  have hz_232 : z_232.toInt = v5_5.toInt + 1 := by rw [ez_232]; exact jb_iadd2 (rfl) ((by decide)) (by omega)
                  refine lv_iload hx hb dX10_scan_230 (lv_at hl 0 rfl) ?_
                  refine va_mmax hx hb (by rw [hml]; exact hl.1.symm) hown (htw (.methodLink RX10 38 Lib.Math.max.name) (jWr_37 _ (List.mem_of_getElem? (i := 1) rfl))) (htw (.static Lib.Math.max.name) (jWr_3 _ (List.mem_of_getElem? (i := 6) rfl))) (htw (.initialized "java/lang/Math") (jWr_3 _ (List.mem_of_getElem? (i := 7) rfl))) (htw (.code Lib.Math.max.name Lib.Math.max.code 2 (some .int)) (jWr_3 _ (List.mem_of_getElem? (i := 8) rfl))) (by rw [← hR]; exact Nat.le_of_ble_eq_true rfl) (by rw [← hR]; exact Nat.le_of_ble_eq_true rfl) (Nat.zero_le _) (Nat.zero_le _) dX10_scan_232 ?_
                  refine lv_topi (fun z_233 ez_233 => ?_)
                  have hz_233 := jb_max ez_233
                  refine lv_istore (lv' := [(5, .int z_233), (6, .int z_231), (0, .ref r0), (1, .ref r1), (2, .int a2), (3, .int a3), (4, .int z_3)]) hx hb dX10_scan_235 hl (by decide) rfl (fun ls hl => ?_)
                  refine lv_goto (tgt := 20) hx hb dX10_scan_237 (by decide) ?_
                  exact L20 z_233 qk_229 (kf - 1) _ _ hh_229 (by have hk9 : 1 + jcK f1 nn a3.toInt (kf - 1) (z_233).toInt = jcK f1 nn a3.toInt kf v5_5.toInt := jcK_a (by omega) (by omega) (by rw [← hqz_15]; omega) (by rw [← hq104]; omega) (by omega); exact ⟨by omega, by omega, by omega, by omega, by omega, by have h9 := hi_5_5; omega, by rw [show (z_233).toInt = v5_5.toInt + 1 + 1 by omega]; exact (hi_5_6.ot (by omega) (by omega) hn9).ot (by omega) (by omega) (fun q9 => by have q1 := (jOpI.in q9).2.1; rw [← hq104] at q1; omega)⟩) (by omega) _ (lv_sub hl [2, 3, 4, 5, 6, 0] rfl)
          · skip
            have c_14' : r_13.toInt ≠ 0 := jb_eq_n (rfl) ((by decide)) c_14
            have hl9 : jcLe (jSo f1 v5_5.toInt) = 1 := by rw [← hqz_11, ← hr_13p]; omega
            refine lv_aload_n hx hb dX10_scan_67 rfl (lv_at hl 1 rfl) ?_
            refine lv_aload_n hx hb dX10_scan_68 rfl (lv_at hl 2 rfl) ?_
            refine lv_iload hx hb dX10_scan_69 (lv_at hl 6 rfl) ?_
            refine lv_iload hx hb dX10_scan_71 (lv_at hl 5 rfl) ?_
            refine va_calli (A0 := jA base) (H0 := s.heap) (va_runV (As := [.ref r1, .int v5_5, .int z_3]) (rest := []) ⟨hx, hb, hml, hown, hts⟩ (uX10_scanNameT l dC dI ca base B hB hAp hB8 hB12 hB101 hB102 hB132 hB133 hB173 hB293 G0 H_12 r0 r1 v5_5 z_3 n1 wk_5 f1) (cwV 3 hts (jgV (jWr_37 _ (List.mem_of_getElem? (i := 2) rfl)) (jWr_37 _ (List.mem_of_getElem? (i := 3) rfl)) (jWr_37 _ (List.mem_of_getElem? (i := 4) rfl)) (jWr_4 _ (List.mem_of_getElem? (i := 14) rfl)) (jWr_37 _ (List.mem_of_getElem? (i := 5) rfl))) rfl rfl rfl (by decide +kernel) ⟨by rw [← hR]; exact Nat.le_of_ble_eq_true rfl, by rw [← hR]; exact Nat.le_of_ble_eq_true rfl⟩) ⟨fun a U g mk q => by obtain ⟨q0, q1, q2, qK, q10, q11, q12, q13, q14⟩ := q; exact ⟨q0, q1, q2, jG.calling g mk a qK, q10, q11, q12, q13, q14⟩, hh_12.recv (C := RX10) (T := TX10) (N := 11) hB12 rfl (by decide) hg_r0 hK, fun U hU hW => ⟨rfl, hU, hh_12.2.1, hG.step hW hU hh_12.1, hg_r0, hg_r1, (hh_12.2.2.1.sub (L1 := [(r0, 12, 3, .int wk_5)]) [0] rfl), (hh_12.2.2.2.2.2.2.2.1.sub (L1 := [(r1, 173, n1, ca 1, f1)]) [0] rfl), ⟨(by first | omega | rfl | assumption | (rw [← hqz_11, ← hr_13p]; omega) | exact hl9), (by first | omega | rfl | assumption | (rw [← hqz_11, ← hr_13p]; omega) | exact hl9), (by first | omega | rfl | assumption | (rw [← hqz_11, ← hr_13p]; omega) | exact hl9), (by first | omega | rfl | assumption | (rw [← hqz_11, ← hr_13p]; omega) | exact hl9), (by first | omega | rfl | assumption | (rw [← hqz_11, ← hr_13p]; omega) | exact hl9), (by first | omega | rfl | assumption | (rw [← hqz_11, ← hr_13p]; omega) | exact hl9), (by first | assumption | (rw [← hqz_11, ← hr_13p]; omega) | exact hl9 | omega)⟩⟩⟩ rfl rfl hl.1 rfl (lv_room (Nat.le_of_ble_eq_true rfl)) dX10_scan_73 ⟨Nat.zero_le _, Nat.zero_le _⟩) hh_12.1 (fun q _ h => h) (fun q h => h) (fun r_235 u_234 t_234 H_234 locs_234 ht_234 hvm_234 hr_235 hb_234 hz_234 hk_234 hS_234 => ?_)
            obtain ⟨qk_234, rfl⟩ : ∃ z, z = u_234 := ⟨_, rfl⟩
            rw [ht_234] at hb_234
            obtain ⟨hb_2341, hb_2342, hb_2343, hb_2344, hb_2345⟩ := hb_234
            have hh_234 : jSt (dC, dI) B base G0 G0 EX10_scanT s.heap 0 0 [(r0, 12, 3, .int qk_234)] [(r1, 173, n1, ca 1, f1)] [] H_234 locs_234 := ((hh_12.call hb_2341 hb_2342 hb_2343 hb_2344 hS_234 rfl (L1 := []) [] rfl rfl (M1 := [(r1, 173, n1, ca 1, f1)]) [0] rfl rfl (I1 := []) [] rfl rfl).more hb_2345)
            clear hh_12 ht_234 hvm_234 hz_234 hk_234 hS_234 hb_2341 hb_2342 hb_2343 hb_2344 hb_2345
            obtain ⟨hr_235_0, hr_235_1, hr_235_2, hr_235_3⟩ := hr_235
            refine lv_istore (lv' := [(6, .int r_235), (0, .ref r0), (1, .ref r1), (2, .int a2), (3, .int a3), (4, .int z_3), (5, .int v5_5)]) hx hb dX10_scan_76 hl (by decide) rfl (fun ls hl => ?_)
            have hw9 : r_235.toInt = jcWd f1 a3.toInt v5_5.toInt := by rw [← show (z_3).toInt = a3.toInt by omega]; exact hr_235_2
            refine lv_goto (tgt := 226) hx hb dX10_scan_78 (by decide) ?_
            refine lv_iload hx hb dX10_scan_226 (lv_at hl 6 rfl) ?_
            refine lv_iconst (v := 1) hx hb dX10_scan_228 (by decide) ?_
            refine lv_iadd hx hb dX10_scan_229 ?_
            refine lv_topi (fun z_236 ez_236 => ?_)
            have hz_236 : z_236.toInt = v5_5.toInt + 1 := by rw [ez_236]; exact jb_iadd2 (rfl) ((by decide)) (by omega)
            refine lv_iload hx hb dX10_scan_230 (lv_at hl 0 rfl) ?_
            refine va_mmax hx hb (by rw [hml]; exact hl.1.symm) hown (htw (.methodLink RX10 38 Lib.Math.max.name) (jWr_37 _ (List.mem_of_getElem? (i := 1) rfl))) (htw (.static Lib.Math.max.name) (jWr_3 _ (List.mem_of_getElem? (i := 6) rfl))) (htw (.initialized "java/lang/Math") (jWr_3 _ (List.mem_of_getElem? (i := 7) rfl))) (htw (.code Lib.Math.max.name Lib.Math.max.code 2 (some .int)) (jWr_3 _ (List.mem_of_getElem? (i := 8) rfl))) (by rw [← hR]; exact Nat.le_of_ble_eq_true rfl) (by rw [← hR]; exact Nat.le_of_ble_eq_true rfl) (Nat.zero_le _) (Nat.zero_le _) dX10_scan_232 ?_
            refine lv_topi (fun z_237 ez_237 => ?_)
            have hz_237 := jb_max ez_237
            refine lv_istore (lv' := [(5, .int z_237), (6, .int r_235), (0, .ref r0), (1, .ref r1), (2, .int a2), (3, .int a3), (4, .int z_3)]) hx hb dX10_scan_235 hl (by decide) rfl (fun ls hl => ?_)
            refine lv_goto (tgt := 20) hx hb dX10_scan_237 (by decide) ?_
            exact L20 z_237 qk_234 (kf - 1) _ _ hh_234 (by have hk9 : (qk_234.toInt - wk_5.toInt) + jcK f1 nn a3.toInt (kf - 1) (z_237).toInt = jcK f1 nn a3.toInt kf v5_5.toInt := jcK_w (by omega) (by omega) hl9 (by omega) (by rw [show (z_237).toInt = r_235.toInt by omega]; have h9 := hr_235_3; omega); exact ⟨by omega, by omega, by omega, by have h9 := hr_235_3; split at h9 <;> omega, by omega, by have h9 := hi_5_5; omega, by rw [show (z_237).toInt = jcWd f1 a3.toInt v5_5.toInt by omega]; exact jcV.ru (by omega) _ _ hi_5_6⟩) (by omega) _ (lv_sub hl [2, 3, 4, 5, 6, 0] rfl)
        · skip
          have c_10' : r_9.toInt ≠ 0 := jb_eq_n (rfl) ((by decide)) c_10
          first | (have hr_9p_1q := hr_9p_1.resolve_left (by omega); clear hr_9p_1) | (have hr_9p_1q := hr_9p_1.resolve_right (by omega); clear hr_9p_1) | try clear hr_9p_1
          have ho9 : jOpI f1 v5_5.toInt nn = 1 := by rw [← jcV.oe hi_5_6 (by omega) (by omega) (by omega), ← show (z_3).toInt = a3.toInt by omega, ← hr_9p_0]; omega
          have hb7 := jcV.op hi_5_6 (by omega) (by omega) ho9
          refine lv_aload_n hx hb dX10_scan_44 rfl (lv_at hl 2 rfl) ?_
          refine lv_iload hx hb dX10_scan_45 (lv_at hl 6 rfl) ?_
          refine lv_iload hx hb dX10_scan_47 (lv_at hl 5 rfl) ?_
          refine va_calli (A0 := jA base) (H0 := s.heap) (va_runSN (As := [.ref r1, .int v5_5, .int z_3]) (rest := []) ⟨hx, hb, hml, hown, hts⟩ (uX11_commentEndPt9 l dC dI ca base B hB hAp hB101 hB173 G0 H_8 r1 v5_5 z_3 n1 f1) ⟨va_cnB 3 hts (jgW (jWr_36 _ (List.mem_of_getElem? (i := 11) rfl))) rfl rfl rfl (hG.2.2.1 RX10 45 yX11_commentEnd "ProofServer" (List.mem_of_getElem? (i := 1138) (by decide +kernel))) (htw (.initialized RX11) (jWr_1 _ (List.mem_of_getElem? (i := 2) rfl))) (by decide +kernel) ⟨by rw [← hR]; exact Nat.le_of_ble_eq_true rfl, by rw [← hR]; exact Nat.le_of_ble_eq_true rfl⟩, htw (.static yX11_commentEnd) (jWr_36 _ (List.mem_of_getElem? (i := 10) rfl)), trivial⟩ ⟨fun a U g mk q => by obtain ⟨q0, q1, q2, qK, q10, q11, q12, q13⟩ := q; exact ⟨q0, q1, q2, jG.calling g mk a qK, q10, q11, q12, q13⟩, fun U hU hW => ⟨rfl, hU, hh_8.2.1, hG.step hW hU hh_8.1, hg_r1, jP.nil, (hh_8.2.2.2.2.2.2.2.1.sub (L1 := [(r1, 173, n1, ca 1, f1)]) [0] rfl), by first | omega | (refine ⟨?_, ?_, ?_, ?_⟩ <;> (first | omega | rfl | assumption | decide | exact Or.inl rfl | exact Or.inr rfl | (simp only; omega)))⟩⟩ rfl rfl hl.1 rfl (lv_room (Nat.le_of_ble_eq_true rfl)) dX10_scan_49 ⟨Nat.zero_le _, Nat.zero_le _⟩) hh_8.1 (fun q _ h => h) (fun q h => h) (fun r_239 u_238 t_238 H_238 locs_238 ht_238 hvm_238 hr_239 hb_238 hz_238 hk_238 hS_238 => ?_)
          rw [ht_238] at hb_238
          obtain ⟨hb_2381, hb_2382, hb_2383, hb_2384, hb_2385⟩ := hb_238
          have hh_238 : jSt (dC, dI) B base G0 G0 EX10_scanT s.heap 0 0 [(r0, 12, 3, .int wk_5)] [(r1, 173, n1, ca 1, f1)] [] H_238 locs_238 := ((hh_8.call hb_2381 hb_2382 hb_2383 hb_2384 hS_238 rfl (L1 := [(r0, 12, 3, .int wk_5)]) [0] rfl rfl (M1 := [(r1, 173, n1, ca 1, f1)]) [0] rfl rfl (I1 := []) [] rfl rfl).more hb_2385)
          clear hh_8 ht_238 hvm_238 hz_238 hk_238 hS_238 hb_2381 hb_2382 hb_2383 hb_2384 hb_2385
          obtain ⟨hr_239_0, hr_239_1⟩ := hr_239
          have hb8 : r_239.toInt = jBcc f1 nn v5_5.toInt := by rw [jCe.op hr_239_0 (by rw [← hr_9p_0]; omega), show (z_3).toInt = a3.toInt by omega]; exact jcV.be hi_5_6 (by omega) (by omega) (by omega) (by omega) ho9
          refine lv_istore (lv' := [(6, .int r_239), (0, .ref r0), (1, .ref r1), (2, .int a2), (3, .int a3), (4, .int z_3), (5, .int v5_5)]) hx hb dX10_scan_52 hl (by decide) rfl (fun ls hl => ?_)
          refine lv_goto (tgt := 226) hx hb dX10_scan_54 (by decide) ?_
          refine lv_iload hx hb dX10_scan_226 (lv_at hl 6 rfl) ?_
          refine lv_iconst (v := 1) hx hb dX10_scan_228 (by decide) ?_
          refine lv_iadd hx hb dX10_scan_229 ?_
          refine lv_topi (fun z_240 ez_240 => ?_)
          have hz_240 : z_240.toInt = v5_5.toInt + 1 := by rw [ez_240]; exact jb_iadd2 (rfl) ((by decide)) (by omega)
          refine lv_iload hx hb dX10_scan_230 (lv_at hl 0 rfl) ?_
          refine va_mmax hx hb (by rw [hml]; exact hl.1.symm) hown (htw (.methodLink RX10 38 Lib.Math.max.name) (jWr_37 _ (List.mem_of_getElem? (i := 1) rfl))) (htw (.static Lib.Math.max.name) (jWr_3 _ (List.mem_of_getElem? (i := 6) rfl))) (htw (.initialized "java/lang/Math") (jWr_3 _ (List.mem_of_getElem? (i := 7) rfl))) (htw (.code Lib.Math.max.name Lib.Math.max.code 2 (some .int)) (jWr_3 _ (List.mem_of_getElem? (i := 8) rfl))) (by rw [← hR]; exact Nat.le_of_ble_eq_true rfl) (by rw [← hR]; exact Nat.le_of_ble_eq_true rfl) (Nat.zero_le _) (Nat.zero_le _) dX10_scan_232 ?_
          refine lv_topi (fun z_241 ez_241 => ?_)
          have hz_241 := jb_max ez_241
          refine lv_istore (lv' := [(5, .int z_241), (6, .int r_239), (0, .ref r0), (1, .ref r1), (2, .int a2), (3, .int a3), (4, .int z_3)]) hx hb dX10_scan_235 hl (by decide) rfl (fun ls hl => ?_)
          refine lv_goto (tgt := 20) hx hb dX10_scan_237 (by decide) ?_
          exact L20 z_241 wk_5 (kf - 1) _ _ hh_238 (by have hk9 : jcK f1 nn a3.toInt (kf - 1) (z_241).toInt = jcK f1 nn a3.toInt kf v5_5.toInt := jcK_c (by omega) (by omega) ho9 (by omega); exact ⟨by omega, by omega, by omega, by omega, by omega, by have h9 := hi_5_5; omega, by rw [show (z_241).toInt = jBcc f1 nn v5_5.toInt by omega]; exact hb7.2.2.2⟩) (by omega) _ (lv_sub hl [2, 3, 4, 5, 6, 0] rfl)
  exact L20 (a3.toInt - (z_4 : Int32).toInt : Int).toNat.succ z_4 0 ((a3.toInt - a2.toInt).toNat + 1) _ _ hh_1 (by rw [hm9]; exact ⟨by omega, by omega, by omega, by omega, by omega, by first | omega | rfl, hp6⟩) (by omega) _ (lv_sub hl [2, 3, 4, 5, 1, 0] rfl)
end
