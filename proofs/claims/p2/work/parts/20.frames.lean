def jty (ca : Nat → ClassId) : List (ClassId × FieldType) := [(ca 0, .byte), (ca 1, .int), (ca 2, .long), (ca 3, .boolean)]
theorem jb_fz {v : Int32} (h : v = 0 ∨ v = 1) : fits .boolean (.int v) = true := by
  rcases h with rfl | rfl <;> rfl
abbrev wsX20 : List Cond := u_ws RX2 TX2 12
abbrev cX2_isInValue : ByteArray := prog_4_method_6_code
def yX2_isInValue : MethodName := ⟨RX2, "isInValue", "(I)Z"⟩
abbrev cX2_isInLength : ByteArray := prog_4_method_7_code
def yX2_isInLength : MethodName := ⟨RX2, "isInLength", "(I)Z"⟩
def wsX2_isInValue : List Cond := .code yX2_isInValue cX2_isInValue 2 (some .boolean) :: ([.fieldLink RX2 15 "ProofServer$Frames" "place" "I"] ++ wsX20)
def wsX2_isInLength : List Cond := .code yX2_isInLength cX2_isInLength 2 (some .boolean) :: ([.fieldLink RX2 15 "ProofServer$Frames" "place" "I", .fieldLink RX2 70 "ProofServer$Frames" "value" "I", .fieldLink RX2 19 "ProofServer$Frames" "told" "I", .fieldLink RX2 67 "ProofServer$Frames" "digits" "I"] ++ wsX20)
theorem dX2_isInValue_0 : decode cX2_isInValue 0 = .ok (.iload_n 1, 1) := by decide +kernel
theorem dX2_isInValue_1 : decode cX2_isInValue 1 = .ok (.bipush 13, 2) := by decide +kernel
theorem dX2_isInValue_3 : decode cX2_isInValue 3 = .ok (.if_icmp .ne 10, 3) := by decide +kernel
theorem dX2_isInValue_6 : decode cX2_isInValue 6 = .ok (.aload_n 0, 1) := by decide +kernel
theorem dX2_isInValue_7 : decode cX2_isInValue 7 = .ok (.iconst 4, 1) := by decide +kernel
theorem dX2_isInValue_8 : decode cX2_isInValue 8 = .ok (.putfield 15, 3) := by decide +kernel
theorem dX2_isInValue_11 : decode cX2_isInValue 11 = .ok (.iconst 1, 1) := by decide +kernel
theorem dX2_isInValue_12 : decode cX2_isInValue 12 = .ok (.ireturn, 1) := by decide +kernel
theorem dX2_isInValue_13 : decode cX2_isInValue 13 = .ok (.iload_n 1, 1) := by decide +kernel
theorem dX2_isInValue_14 : decode cX2_isInValue 14 = .ok (.bipush 32, 2) := by decide +kernel
theorem dX2_isInValue_16 : decode cX2_isInValue 16 = .ok (.if_icmp .lt 13, 3) := by decide +kernel
theorem dX2_isInValue_19 : decode cX2_isInValue 19 = .ok (.iload_n 1, 1) := by decide +kernel
theorem dX2_isInValue_20 : decode cX2_isInValue 20 = .ok (.bipush 126, 2) := by decide +kernel
theorem dX2_isInValue_22 : decode cX2_isInValue 22 = .ok (.if_icmp .gt 7, 3) := by decide +kernel
theorem dX2_isInValue_25 : decode cX2_isInValue 25 = .ok (.iconst 1, 1) := by decide +kernel
theorem dX2_isInValue_26 : decode cX2_isInValue 26 = .ok (.goto 4, 3) := by decide +kernel
theorem dX2_isInValue_29 : decode cX2_isInValue 29 = .ok (.iconst 0, 1) := by decide +kernel
theorem dX2_isInValue_30 : decode cX2_isInValue 30 = .ok (.ireturn, 1) := by decide +kernel
theorem dX2_isInLength_0 : decode cX2_isInLength 0 = .ok (.iload_n 1, 1) := by decide +kernel
theorem dX2_isInLength_1 : decode cX2_isInLength 1 = .ok (.bipush 13, 2) := by decide +kernel
theorem dX2_isInLength_3 : decode cX2_isInLength 3 = .ok (.if_icmp .ne 29, 3) := by decide +kernel
theorem dX2_isInLength_6 : decode cX2_isInLength 6 = .ok (.aload_n 0, 1) := by decide +kernel
theorem dX2_isInLength_7 : decode cX2_isInLength 7 = .ok (.iconst 4, 1) := by decide +kernel
theorem dX2_isInLength_8 : decode cX2_isInLength 8 = .ok (.putfield 15, 3) := by decide +kernel
theorem dX2_isInLength_11 : decode cX2_isInLength 11 = .ok (.aload_n 0, 1) := by decide +kernel
theorem dX2_isInLength_12 : decode cX2_isInLength 12 = .ok (.aload_n 0, 1) := by decide +kernel
theorem dX2_isInLength_13 : decode cX2_isInLength 13 = .ok (.getfield 70, 3) := by decide +kernel
theorem dX2_isInLength_16 : decode cX2_isInLength 16 = .ok (.putfield 19, 3) := by decide +kernel
theorem dX2_isInLength_19 : decode cX2_isInLength 19 = .ok (.aload_n 0, 1) := by decide +kernel
theorem dX2_isInLength_20 : decode cX2_isInLength 20 = .ok (.getfield 67, 3) := by decide +kernel
theorem dX2_isInLength_23 : decode cX2_isInLength 23 = .ok (.ifCond .le 7, 3) := by decide +kernel
theorem dX2_isInLength_26 : decode cX2_isInLength 26 = .ok (.iconst 1, 1) := by decide +kernel
theorem dX2_isInLength_27 : decode cX2_isInLength 27 = .ok (.goto 4, 3) := by decide +kernel
theorem dX2_isInLength_30 : decode cX2_isInLength 30 = .ok (.iconst 0, 1) := by decide +kernel
theorem dX2_isInLength_31 : decode cX2_isInLength 31 = .ok (.ireturn, 1) := by decide +kernel
theorem dX2_isInLength_32 : decode cX2_isInLength 32 = .ok (.iload_n 1, 1) := by decide +kernel
theorem dX2_isInLength_33 : decode cX2_isInLength 33 = .ok (.bipush 48, 2) := by decide +kernel
theorem dX2_isInLength_35 : decode cX2_isInLength 35 = .ok (.if_icmp .lt 9, 3) := by decide +kernel
theorem dX2_isInLength_38 : decode cX2_isInLength 38 = .ok (.iload_n 1, 1) := by decide +kernel
theorem dX2_isInLength_39 : decode cX2_isInLength 39 = .ok (.bipush 57, 2) := by decide +kernel
theorem dX2_isInLength_41 : decode cX2_isInLength 41 = .ok (.if_icmp .le 22, 3) := by decide +kernel
theorem dX2_isInLength_44 : decode cX2_isInLength 44 = .ok (.iload_n 1, 1) := by decide +kernel
theorem dX2_isInLength_45 : decode cX2_isInLength 45 = .ok (.bipush 32, 2) := by decide +kernel
theorem dX2_isInLength_47 : decode cX2_isInLength 47 = .ok (.if_icmp .ne 14, 3) := by decide +kernel
theorem dX2_isInLength_50 : decode cX2_isInLength 50 = .ok (.aload_n 0, 1) := by decide +kernel
theorem dX2_isInLength_51 : decode cX2_isInLength 51 = .ok (.getfield 67, 3) := by decide +kernel
theorem dX2_isInLength_54 : decode cX2_isInLength 54 = .ok (.ifCond .ne 7, 3) := by decide +kernel
theorem dX2_isInLength_57 : decode cX2_isInLength 57 = .ok (.iconst 1, 1) := by decide +kernel
theorem dX2_isInLength_58 : decode cX2_isInLength 58 = .ok (.goto 4, 3) := by decide +kernel
theorem dX2_isInLength_61 : decode cX2_isInLength 61 = .ok (.iconst 0, 1) := by decide +kernel
theorem dX2_isInLength_62 : decode cX2_isInLength 62 = .ok (.ireturn, 1) := by decide +kernel
theorem dX2_isInLength_63 : decode cX2_isInLength 63 = .ok (.aload_n 0, 1) := by decide +kernel
theorem dX2_isInLength_64 : decode cX2_isInLength 64 = .ok (.dup, 1) := by decide +kernel
theorem dX2_isInLength_65 : decode cX2_isInLength 65 = .ok (.getfield 67, 3) := by decide +kernel
theorem dX2_isInLength_68 : decode cX2_isInLength 68 = .ok (.iconst 1, 1) := by decide +kernel
theorem dX2_isInLength_69 : decode cX2_isInLength 69 = .ok (.iadd, 1) := by decide +kernel
theorem dX2_isInLength_70 : decode cX2_isInLength 70 = .ok (.putfield 67, 3) := by decide +kernel
theorem dX2_isInLength_73 : decode cX2_isInLength 73 = .ok (.aload_n 0, 1) := by decide +kernel
theorem dX2_isInLength_74 : decode cX2_isInLength 74 = .ok (.aload_n 0, 1) := by decide +kernel
theorem dX2_isInLength_75 : decode cX2_isInLength 75 = .ok (.getfield 70, 3) := by decide +kernel
theorem dX2_isInLength_78 : decode cX2_isInLength 78 = .ok (.bipush 10, 2) := by decide +kernel
theorem dX2_isInLength_80 : decode cX2_isInLength 80 = .ok (.imul, 1) := by decide +kernel
theorem dX2_isInLength_81 : decode cX2_isInLength 81 = .ok (.iload_n 1, 1) := by decide +kernel
theorem dX2_isInLength_82 : decode cX2_isInLength 82 = .ok (.iadd, 1) := by decide +kernel
theorem dX2_isInLength_83 : decode cX2_isInLength 83 = .ok (.bipush 48, 2) := by decide +kernel
theorem dX2_isInLength_85 : decode cX2_isInLength 85 = .ok (.isub, 1) := by decide +kernel
theorem dX2_isInLength_86 : decode cX2_isInLength 86 = .ok (.putfield 70, 3) := by decide +kernel
theorem dX2_isInLength_89 : decode cX2_isInLength 89 = .ok (.aload_n 0, 1) := by decide +kernel
theorem dX2_isInLength_90 : decode cX2_isInLength 90 = .ok (.getfield 67, 3) := by decide +kernel
theorem dX2_isInLength_93 : decode cX2_isInLength 93 = .ok (.iconst 4, 1) := by decide +kernel
theorem dX2_isInLength_94 : decode cX2_isInLength 94 = .ok (.if_icmp .gt 17, 3) := by decide +kernel
theorem dX2_isInLength_97 : decode cX2_isInLength 97 = .ok (.aload_n 0, 1) := by decide +kernel
theorem dX2_isInLength_98 : decode cX2_isInLength 98 = .ok (.getfield 70, 3) := by decide +kernel
theorem dX2_isInLength_101 : decode cX2_isInLength 101 = .ok (.sipush 3000, 3) := by decide +kernel
theorem dX2_isInLength_104 : decode cX2_isInLength 104 = .ok (.if_icmp .gt 7, 3) := by decide +kernel
theorem dX2_isInLength_107 : decode cX2_isInLength 107 = .ok (.iconst 1, 1) := by decide +kernel
theorem dX2_isInLength_108 : decode cX2_isInLength 108 = .ok (.goto 4, 3) := by decide +kernel
theorem dX2_isInLength_111 : decode cX2_isInLength 111 = .ok (.iconst 0, 1) := by decide +kernel
theorem dX2_isInLength_112 : decode cX2_isInLength 112 = .ok (.ireturn, 1) := by decide +kernel
set_option maxHeartbeats 4000000 in
set_option maxRecDepth 20000 in
theorem kX2_isInValue (l : Launch) (dC : Nat → ClassId) (dI : Nat → Nat → Nat) (ca : Nat → ClassId) (base : Nat) (H0 : Heap) (h0 bd : Nat) (len kp ms br pl td fl sg il dg vl : Int32) (a1 : Int32) : Met l yX2_isInValue wsX2_isInValue ({ frames := 0, cells := 0, slots := 0, locals := 0 }) (va_Pc [.ref h0, .int a1] (fun U => U.heap = H0 ∧ va_at (dC, dI) vwCl (h0, .inr (4, [.ref bd, .int len, .int kp, .int ms, .int br, .int pl, .int td, .int fl, .int sg, .int il, .int dg, .int vl])) H0 ∧ va_K (dC, dI) vwCl (jty ca) U ∧ (base ≤ h0 ∧ (br = 0 ∨ br = 1) ∧ (il = 0 ∨ il = 1) ∧ (True)))) (va_Qi (S := List Value) (fun r u => (r = 0 ∨ r = 1) ∧ ∃ len' kp' ms' br' pl' td' fl' sg' il' dg' vl' : Int32, u = [.ref bd, .int len', .int kp', .int ms', .int br', .int pl', .int td', .int fl', .int sg', .int il', .int dg', .int vl'] ∧ (len' = len ∧ kp' = kp ∧ ms' = ms ∧ br' = br ∧ fl' = fl ∧ (il' = 0 ∨ il' = 1) ∧ (sg'.toInt = sg.toInt ∧ td'.toInt = td.toInt ∧ vl'.toInt = vl.toInt ∧ (pl'.toInt = pl.toInt ∨ pl'.toInt = 4)))) (fun u t => va_at (dC, dI) vwCl (h0, .inr (4, u)) t.heap ∧ t.heap.size = H0.size ∧ (∀ q, ¬ q = h0 → t.heap[q]? = H0[q]?) ∧ va_K (dC, dI) vwCl (jty ca) t) (fun q => base ≤ q)) 0 0 (fun q => base ≤ q) := by
  refine Met.ofW (cc := cX2_isInValue) (maxL := 2) (ret := (some .boolean)) (by decide) rfl ?_
  intro p e s m args below meth c s₁ B hml hv
  obtain ⟨rfl, hH0, hat_h0, hK, hb0, hbr, hil, hpre⟩ := hv
  have hx := B.exec
  have hb := B.bytes
  have hr := B.returns
  have hts := atoms_spec (ws := wsX2_isInValue) B.pre
  have hown : s.vm.findClass RX2 = some m.cls := findClass_of_methodNamed B.named
  have hlocks := B.notSynchronized
  have hin_4 : ∀ w ∈ u_ws RX2 TX2 12, w ∈ wsX2_isInValue := by decide +kernel
  obtain ⟨Q, hQ⟩ : ∃ Q, Q = MQ below (va_Qi (S := List Value) (fun r u => (r = 0 ∨ r = 1) ∧ ∃ len' kp' ms' br' pl' td' fl' sg' il' dg' vl' : Int32, u = [.ref bd, .int len', .int kp', .int ms', .int br', .int pl', .int td', .int fl', .int sg', .int il', .int dg', .int vl'] ∧ (len' = len ∧ kp' = kp ∧ ms' = ms ∧ br' = br ∧ fl' = fl ∧ (il' = 0 ∨ il' = 1) ∧ (sg'.toInt = sg.toInt ∧ td'.toInt = td.toInt ∧ vl'.toInt = vl.toInt ∧ (pl'.toInt = pl.toInt ∨ pl'.toInt = 4)))) (fun u t => va_at (dC, dI) vwCl (h0, .inr (4, u)) t.heap ∧ t.heap.size = H0.size ∧ (∀ q, ¬ q = h0 → t.heap[q]? = H0[q]?) ∧ va_K (dC, dI) vwCl (jty ca) t) (fun q => base ≤ q)) ([.ref h0, .int a1] : List Value).toArray s 0 0 (fun q => base ≤ q) := ⟨_, rfl⟩
  rw [← hQ]
  have hl := lv_entry ([.ref h0, .int a1]) (n := 2) (Nat.le_of_ble_eq_true rfl)
  rw [lg_entry_eq]
  generalize (lg_sl ([.ref h0, .int a1]) ++ List.replicate (2 - (lg_sl ([.ref h0, .int a1])).length) Slot.unset).toArray = ls at hl ⊢
  have hl : lv_has ls 2 [(0, .ref h0), (1, .int a1)] := hl
  generalize hR : (headSpec wsX2_isInValue ({ frames := 0, cells := 0, slots := 0, locals := 0 })).room = R
  rw [hH0]
  obtain ⟨H, eH⟩ : ∃ z, z = H0 := ⟨_, rfl⟩
  have hsz : H.size = H0.size := by rw [eH]
  have hfr : ∀ q, ¬ (fun q => q = h0) q → H[q]? = H0[q]? := fun _ _ => by rw [eH]
  rw [← eH] at hat_h0 ⊢
  obtain ⟨locs, elocs⟩ : ∃ z : List Loc, z = [] := ⟨_, rfl⟩
  rw [← elocs]
  have hL : ∀ q ∈ locs, base ≤ q.base := by rw [elocs]; exact fun _ h => nomatch h
  have hk0 : (0 : Int32).toInt = 0 := by decide
  have hk1 : (1 : Int32).toInt = 1 := by decide
  have hk4 : (4 : Int32).toInt = 4 := by decide
  have hk13 : (13 : Int32).toInt = 13 := by decide
  have hk32 : (32 : Int32).toInt = 32 := by decide
  have hk126 : (126 : Int32).toInt = 126 := by decide
  refine lv_iload_n hx hb dX2_isInValue_0 rfl (lv_at hl 1 rfl) ?_
  refine lv_bipush (v := 13) hx hb dX2_isInValue_1 (by decide) ?_
  refine lv_icmp_ne (tgt := 13) hx hb dX2_isInValue_3 (by decide) (fun c_1 => ?_) (fun c_1 => ?_)
  · skip
    have c_1' : a1.toInt ≠ 13 := jb_ne (rfl) ((by decide)) c_1
    refine lv_iload_n hx hb dX2_isInValue_13 rfl (lv_at hl 1 rfl) ?_
    refine lv_bipush (v := 32) hx hb dX2_isInValue_14 (by decide) ?_
    refine lv_icmp_lt (tgt := 29) hx hb dX2_isInValue_16 (by decide) (fun c_2 => ?_) (fun c_2 => ?_)
    · skip
      have c_2' : a1.toInt < 32 := jb_lt (rfl) ((by decide)) c_2
      refine lv_iconst (v := 0) hx hb dX2_isInValue_29 (by decide) ?_
      rw [hQ]
      exact W.zret (v := 0) hx hb hr (jb_nz (Or.inl rfl)) (fun t ht hW => ⟨⟨0, [.ref bd, .int len, .int kp, .int ms, .int br, .int pl, .int td, .int fl, .int sg, .int il, .int dg, .int vl], rfl, ⟨by first | exact Or.inl rfl | exact Or.inr rfl | assumption, ⟨len, kp, ms, br, pl, td, fl, sg, il, dg, vl, rfl, ⟨rfl, rfl, rfl, rfl, rfl, (hil), by first | (constructor <;> omega) | omega | (refine ⟨?_, ?_, ?_⟩ <;> omega) | (refine ⟨?_, ?_, ?_, ?_⟩ <;> omega) | (refine ⟨?_, ?_, ?_, ?_, ?_⟩ <;> omega)⟩⟩⟩, by rw [ht]; exact hat_h0, by rw [ht]; exact hsz, fun q hq => by rw [ht]; exact hfr q hq, va_K.moved hW.alike hK⟩, by rw [hH0, ht, hsz]; exact Nat.le_refl _, fun q _ hq => by rw [ht, hH0]; exact hfr q (fun h => hq (by rw [h]; exact hb0))⟩) hL dX2_isInValue_30
    · skip
      have c_2' : a1.toInt ≥ 32 := jb_lt_n (rfl) ((by decide)) c_2
      refine lv_iload_n hx hb dX2_isInValue_19 rfl (lv_at hl 1 rfl) ?_
      refine lv_bipush (v := 126) hx hb dX2_isInValue_20 (by decide) ?_
      refine lv_icmp_gt (tgt := 29) hx hb dX2_isInValue_22 (by decide) (fun c_3 => ?_) (fun c_3 => ?_)
      · skip
        have c_3' : a1.toInt > 126 := jb_gt (rfl) ((by decide)) c_3
        refine lv_iconst (v := 0) hx hb dX2_isInValue_29 (by decide) ?_
        rw [hQ]
        exact W.zret (v := 0) hx hb hr (jb_nz (Or.inl rfl)) (fun t ht hW => ⟨⟨0, [.ref bd, .int len, .int kp, .int ms, .int br, .int pl, .int td, .int fl, .int sg, .int il, .int dg, .int vl], rfl, ⟨by first | exact Or.inl rfl | exact Or.inr rfl | assumption, ⟨len, kp, ms, br, pl, td, fl, sg, il, dg, vl, rfl, ⟨rfl, rfl, rfl, rfl, rfl, (hil), by first | (constructor <;> omega) | omega | (refine ⟨?_, ?_, ?_⟩ <;> omega) | (refine ⟨?_, ?_, ?_, ?_⟩ <;> omega) | (refine ⟨?_, ?_, ?_, ?_, ?_⟩ <;> omega)⟩⟩⟩, by rw [ht]; exact hat_h0, by rw [ht]; exact hsz, fun q hq => by rw [ht]; exact hfr q hq, va_K.moved hW.alike hK⟩, by rw [hH0, ht, hsz]; exact Nat.le_refl _, fun q _ hq => by rw [ht, hH0]; exact hfr q (fun h => hq (by rw [h]; exact hb0))⟩) hL dX2_isInValue_30
      · skip
        have c_3' : a1.toInt ≤ 126 := jb_gt_n (rfl) ((by decide)) c_3
        refine lv_iconst (v := 1) hx hb dX2_isInValue_25 (by decide) ?_
        refine lv_goto (tgt := 30) hx hb dX2_isInValue_26 (by decide) ?_
        rw [hQ]
        exact W.zret (v := 1) hx hb hr (jb_nz (Or.inr rfl)) (fun t ht hW => ⟨⟨1, [.ref bd, .int len, .int kp, .int ms, .int br, .int pl, .int td, .int fl, .int sg, .int il, .int dg, .int vl], rfl, ⟨by first | exact Or.inl rfl | exact Or.inr rfl | assumption, ⟨len, kp, ms, br, pl, td, fl, sg, il, dg, vl, rfl, ⟨rfl, rfl, rfl, rfl, rfl, (hil), by first | (constructor <;> omega) | omega | (refine ⟨?_, ?_, ?_⟩ <;> omega) | (refine ⟨?_, ?_, ?_, ?_⟩ <;> omega) | (refine ⟨?_, ?_, ?_, ?_, ?_⟩ <;> omega)⟩⟩⟩, by rw [ht]; exact hat_h0, by rw [ht]; exact hsz, fun q hq => by rw [ht]; exact hfr q hq, va_K.moved hW.alike hK⟩, by rw [hH0, ht, hsz]; exact Nat.le_refl _, fun q _ hq => by rw [ht, hH0]; exact hfr q (fun h => hq (by rw [h]; exact hb0))⟩) hL dX2_isInValue_30
  · skip
    have c_1' : a1.toInt = 13 := jb_ne_n (rfl) ((by decide)) c_1
    refine lv_aload_n hx hb dX2_isInValue_6 rfl (lv_at hl 0 rfl) ?_
    refine lv_iconst (v := 4) hx hb dX2_isInValue_7 (by decide) ?_
    refine j_put (D := (dC, dI)) (ci := 4) (v := .int 4) (ty := .int) (C := RX2) (T := TX2) (N := 12) (A := fun q => base ≤ q) hx hb hts hin_4 tyX2 tyX2_ok nmX2 hown hK hat_h0 hb0 hL rfl 5 (by decide) (hts (.fieldLink RX2 15 "ProofServer$Frames" "place" "I") (by decide +kernel)) (fun _ h9 => h9) rfl (by decide +kernel) rfl rfl (Nat.le_of_ble_eq_true rfl) dX2_isInValue_8 (fun H1 locs1 hat1 hsz1 hfr1 hL1 => ?_)
    have hfr2 : ∀ q, ¬ (fun q => q = h0) q → H1[q]? = H0[q]? := fun q hq => (hfr1 q (fun h => hq (h))).trans (hfr q hq)
    have hsz2 : H1.size = H0.size := hsz1.trans hsz
    clear hfr hsz hfr1 hsz1 hL hat_h0
    obtain ⟨hfr, hsz, hL⟩ : (∀ q, ¬ (fun q => q = h0) q → H1[q]? = H0[q]?) ∧ H1.size = H0.size ∧ ∀ q ∈ locs1, base ≤ q.base := ⟨hfr2, hsz2, hL1⟩
    clear hfr2 hsz2 hL1
    generalize locs1 = locs at hL ⊢
    generalize H1 = H at hfr hsz hat1 ⊢
    have hat_h0 : va_at (dC, dI) vwCl (h0, .inr (4, [.ref bd, .int len, .int kp, .int ms, .int br, .int 4, .int td, .int fl, .int sg, .int il, .int dg, .int vl])) H := hat1
    refine lv_iconst (v := 1) hx hb dX2_isInValue_11 (by decide) ?_
    rw [hQ]
    exact W.zret (v := 1) hx hb hr (jb_nz (Or.inr rfl)) (fun t ht hW => ⟨⟨1, [.ref bd, .int len, .int kp, .int ms, .int br, .int 4, .int td, .int fl, .int sg, .int il, .int dg, .int vl], rfl, ⟨by first | exact Or.inl rfl | exact Or.inr rfl | assumption, ⟨len, kp, ms, br, 4, td, fl, sg, il, dg, vl, rfl, ⟨rfl, rfl, rfl, rfl, rfl, (hil), by first | (constructor <;> omega) | omega | (refine ⟨?_, ?_, ?_⟩ <;> omega) | (refine ⟨?_, ?_, ?_, ?_⟩ <;> omega) | (refine ⟨?_, ?_, ?_, ?_, ?_⟩ <;> omega)⟩⟩⟩, by rw [ht]; exact hat_h0, by rw [ht]; exact hsz, fun q hq => by rw [ht]; exact hfr q hq, va_K.moved hW.alike hK⟩, by rw [hH0, ht, hsz]; exact Nat.le_refl _, fun q _ hq => by rw [ht, hH0]; exact hfr q (fun h => hq (by rw [h]; exact hb0))⟩) hL dX2_isInValue_12
set_option maxHeartbeats 4000000 in
set_option maxRecDepth 20000 in
theorem kX2_isInLength (l : Launch) (dC : Nat → ClassId) (dI : Nat → Nat → Nat) (ca : Nat → ClassId) (base : Nat) (H0 : Heap) (h0 bd : Nat) (len kp ms br pl td fl sg il dg vl : Int32) (a1 : Int32) : Met l yX2_isInLength wsX2_isInLength ({ frames := 0, cells := 0, slots := 0, locals := 0 }) (va_Pc [.ref h0, .int a1] (fun U => U.heap = H0 ∧ va_at (dC, dI) vwCl (h0, .inr (4, [.ref bd, .int len, .int kp, .int ms, .int br, .int pl, .int td, .int fl, .int sg, .int il, .int dg, .int vl])) H0 ∧ va_K (dC, dI) vwCl (jty ca) U ∧ (base ≤ h0 ∧ (br = 0 ∨ br = 1) ∧ (il = 0 ∨ il = 1) ∧ (0 ≤ vl.toInt ∧ vl.toInt ≤ 3000)))) (va_Qi (S := List Value) (fun r u => (r = 0 ∨ r = 1) ∧ ∃ len' kp' ms' br' pl' td' fl' sg' il' dg' vl' : Int32, u = [.ref bd, .int len', .int kp', .int ms', .int br', .int pl', .int td', .int fl', .int sg', .int il', .int dg', .int vl'] ∧ (len' = len ∧ kp' = kp ∧ ms' = ms ∧ br' = br ∧ fl' = fl ∧ (il' = 0 ∨ il' = 1) ∧ (sg'.toInt = sg.toInt ∧ 0 ≤ vl'.toInt ∧ (td'.toInt = td.toInt ∨ td'.toInt = vl.toInt) ∧ (pl'.toInt = pl.toInt ∨ pl'.toInt = 4) ∧ (r.toInt = 0 ∨ vl'.toInt ≤ 3000)))) (fun u t => va_at (dC, dI) vwCl (h0, .inr (4, u)) t.heap ∧ t.heap.size = H0.size ∧ (∀ q, ¬ q = h0 → t.heap[q]? = H0[q]?) ∧ va_K (dC, dI) vwCl (jty ca) t) (fun q => base ≤ q)) 0 0 (fun q => base ≤ q) := by
  refine Met.ofW (cc := cX2_isInLength) (maxL := 2) (ret := (some .boolean)) (by decide) rfl ?_
  intro p e s m args below meth c s₁ B hml hv
  obtain ⟨rfl, hH0, hat_h0, hK, hb0, hbr, hil, hv0, hv1⟩ := hv
  have hx := B.exec
  have hb := B.bytes
  have hr := B.returns
  have hts := atoms_spec (ws := wsX2_isInLength) B.pre
  have hown : s.vm.findClass RX2 = some m.cls := findClass_of_methodNamed B.named
  have hlocks := B.notSynchronized
  have hin_4 : ∀ w ∈ u_ws RX2 TX2 12, w ∈ wsX2_isInLength := by decide +kernel
  obtain ⟨Q, hQ⟩ : ∃ Q, Q = MQ below (va_Qi (S := List Value) (fun r u => (r = 0 ∨ r = 1) ∧ ∃ len' kp' ms' br' pl' td' fl' sg' il' dg' vl' : Int32, u = [.ref bd, .int len', .int kp', .int ms', .int br', .int pl', .int td', .int fl', .int sg', .int il', .int dg', .int vl'] ∧ (len' = len ∧ kp' = kp ∧ ms' = ms ∧ br' = br ∧ fl' = fl ∧ (il' = 0 ∨ il' = 1) ∧ (sg'.toInt = sg.toInt ∧ 0 ≤ vl'.toInt ∧ (td'.toInt = td.toInt ∨ td'.toInt = vl.toInt) ∧ (pl'.toInt = pl.toInt ∨ pl'.toInt = 4) ∧ (r.toInt = 0 ∨ vl'.toInt ≤ 3000)))) (fun u t => va_at (dC, dI) vwCl (h0, .inr (4, u)) t.heap ∧ t.heap.size = H0.size ∧ (∀ q, ¬ q = h0 → t.heap[q]? = H0[q]?) ∧ va_K (dC, dI) vwCl (jty ca) t) (fun q => base ≤ q)) ([.ref h0, .int a1] : List Value).toArray s 0 0 (fun q => base ≤ q) := ⟨_, rfl⟩
  rw [← hQ]
  have hl := lv_entry ([.ref h0, .int a1]) (n := 2) (Nat.le_of_ble_eq_true rfl)
  rw [lg_entry_eq]
  generalize (lg_sl ([.ref h0, .int a1]) ++ List.replicate (2 - (lg_sl ([.ref h0, .int a1])).length) Slot.unset).toArray = ls at hl ⊢
  have hl : lv_has ls 2 [(0, .ref h0), (1, .int a1)] := hl
  generalize hR : (headSpec wsX2_isInLength ({ frames := 0, cells := 0, slots := 0, locals := 0 })).room = R
  rw [hH0]
  obtain ⟨H, eH⟩ : ∃ z, z = H0 := ⟨_, rfl⟩
  have hsz : H.size = H0.size := by rw [eH]
  have hfr : ∀ q, ¬ (fun q => q = h0) q → H[q]? = H0[q]? := fun _ _ => by rw [eH]
  rw [← eH] at hat_h0 ⊢
  obtain ⟨locs, elocs⟩ : ∃ z : List Loc, z = [] := ⟨_, rfl⟩
  rw [← elocs]
  have hL : ∀ q ∈ locs, base ≤ q.base := by rw [elocs]; exact fun _ h => nomatch h
  have hk0 : (0 : Int32).toInt = 0 := by decide
  have hk1 : (1 : Int32).toInt = 1 := by decide
  have hk4 : (4 : Int32).toInt = 4 := by decide
  have hk10 : (10 : Int32).toInt = 10 := by decide
  have hk13 : (13 : Int32).toInt = 13 := by decide
  have hk32 : (32 : Int32).toInt = 32 := by decide
  have hk48 : (48 : Int32).toInt = 48 := by decide
  have hk57 : (57 : Int32).toInt = 57 := by decide
  have hk3000 : (3000 : Int32).toInt = 3000 := by decide
  refine lv_iload_n hx hb dX2_isInLength_0 rfl (lv_at hl 1 rfl) ?_
  refine lv_bipush (v := 13) hx hb dX2_isInLength_1 (by decide) ?_
  refine lv_icmp_ne (tgt := 32) hx hb dX2_isInLength_3 (by decide) (fun c_1 => ?_) (fun c_1 => ?_)
  · skip
    have c_1' : a1.toInt ≠ 13 := jb_ne (rfl) ((by decide)) c_1
    refine lv_iload_n hx hb dX2_isInLength_32 rfl (lv_at hl 1 rfl) ?_
    refine lv_bipush (v := 48) hx hb dX2_isInLength_33 (by decide) ?_
    refine lv_icmp_lt (tgt := 44) hx hb dX2_isInLength_35 (by decide) (fun c_2 => ?_) (fun c_2 => ?_)
    · skip
      have c_2' : a1.toInt < 48 := jb_lt (rfl) ((by decide)) c_2
      refine lv_iload_n hx hb dX2_isInLength_44 rfl (lv_at hl 1 rfl) ?_
      refine lv_bipush (v := 32) hx hb dX2_isInLength_45 (by decide) ?_
      refine lv_icmp_ne (tgt := 61) hx hb dX2_isInLength_47 (by decide) (fun c_3 => ?_) (fun c_3 => ?_)
      · skip
        have c_3' : a1.toInt ≠ 32 := jb_ne (rfl) ((by decide)) c_3
        refine lv_iconst (v := 0) hx hb dX2_isInLength_61 (by decide) ?_
        rw [hQ]
        exact W.zret (v := 0) hx hb hr (jb_nz (Or.inl rfl)) (fun t ht hW => ⟨⟨0, [.ref bd, .int len, .int kp, .int ms, .int br, .int pl, .int td, .int fl, .int sg, .int il, .int dg, .int vl], rfl, ⟨by first | exact Or.inl rfl | exact Or.inr rfl | assumption, ⟨len, kp, ms, br, pl, td, fl, sg, il, dg, vl, rfl, ⟨rfl, rfl, rfl, rfl, rfl, (hil), by first | (constructor <;> omega) | omega | (refine ⟨?_, ?_, ?_⟩ <;> omega) | (refine ⟨?_, ?_, ?_, ?_⟩ <;> omega) | (refine ⟨?_, ?_, ?_, ?_, ?_⟩ <;> omega)⟩⟩⟩, by rw [ht]; exact hat_h0, by rw [ht]; exact hsz, fun q hq => by rw [ht]; exact hfr q hq, va_K.moved hW.alike hK⟩, by rw [hH0, ht, hsz]; exact Nat.le_refl _, fun q _ hq => by rw [ht, hH0]; exact hfr q (fun h => hq (by rw [h]; exact hb0))⟩) hL dX2_isInLength_62
      · skip
        have c_3' : a1.toInt = 32 := jb_ne_n (rfl) ((by decide)) c_3
        refine lv_aload_n hx hb dX2_isInLength_50 rfl (lv_at hl 0 rfl) ?_
        refine va_get (D := (dC, dI)) (ci := 4) (v := .int dg) (C := RX2) (T := TX2) (N := 12) hx hb hts hin_4 hown hK (jp_one hat_h0) 0 rfl rfl 10 (by decide) (hts (.fieldLink RX2 67 "ProofServer$Frames" "digits" "I") (by decide +kernel)) (fun _ h9 => h9) rfl dX2_isInLength_51 ?_
        refine lv_if_ne (tgt := 61) hx hb dX2_isInLength_54 (by decide) (fun c_4 => ?_) (fun c_4 => ?_)
        · skip
          have c_4' : dg.toInt ≠ 0 := jb_ne (rfl) ((by decide)) c_4
          refine lv_iconst (v := 0) hx hb dX2_isInLength_61 (by decide) ?_
          rw [hQ]
          exact W.zret (v := 0) hx hb hr (jb_nz (Or.inl rfl)) (fun t ht hW => ⟨⟨0, [.ref bd, .int len, .int kp, .int ms, .int br, .int pl, .int td, .int fl, .int sg, .int il, .int dg, .int vl], rfl, ⟨by first | exact Or.inl rfl | exact Or.inr rfl | assumption, ⟨len, kp, ms, br, pl, td, fl, sg, il, dg, vl, rfl, ⟨rfl, rfl, rfl, rfl, rfl, (hil), by first | (constructor <;> omega) | omega | (refine ⟨?_, ?_, ?_⟩ <;> omega) | (refine ⟨?_, ?_, ?_, ?_⟩ <;> omega) | (refine ⟨?_, ?_, ?_, ?_, ?_⟩ <;> omega)⟩⟩⟩, by rw [ht]; exact hat_h0, by rw [ht]; exact hsz, fun q hq => by rw [ht]; exact hfr q hq, va_K.moved hW.alike hK⟩, by rw [hH0, ht, hsz]; exact Nat.le_refl _, fun q _ hq => by rw [ht, hH0]; exact hfr q (fun h => hq (by rw [h]; exact hb0))⟩) hL dX2_isInLength_62
        · skip
          have c_4' : dg.toInt = 0 := jb_ne_n (rfl) ((by decide)) c_4
          refine lv_iconst (v := 1) hx hb dX2_isInLength_57 (by decide) ?_
          refine lv_goto (tgt := 62) hx hb dX2_isInLength_58 (by decide) ?_
          rw [hQ]
          exact W.zret (v := 1) hx hb hr (jb_nz (Or.inr rfl)) (fun t ht hW => ⟨⟨1, [.ref bd, .int len, .int kp, .int ms, .int br, .int pl, .int td, .int fl, .int sg, .int il, .int dg, .int vl], rfl, ⟨by first | exact Or.inl rfl | exact Or.inr rfl | assumption, ⟨len, kp, ms, br, pl, td, fl, sg, il, dg, vl, rfl, ⟨rfl, rfl, rfl, rfl, rfl, (hil), by first | (constructor <;> omega) | omega | (refine ⟨?_, ?_, ?_⟩ <;> omega) | (refine ⟨?_, ?_, ?_, ?_⟩ <;> omega) | (refine ⟨?_, ?_, ?_, ?_, ?_⟩ <;> omega)⟩⟩⟩, by rw [ht]; exact hat_h0, by rw [ht]; exact hsz, fun q hq => by rw [ht]; exact hfr q hq, va_K.moved hW.alike hK⟩, by rw [hH0, ht, hsz]; exact Nat.le_refl _, fun q _ hq => by rw [ht, hH0]; exact hfr q (fun h => hq (by rw [h]; exact hb0))⟩) hL dX2_isInLength_62
    · skip
      have c_2' : a1.toInt ≥ 48 := jb_lt_n (rfl) ((by decide)) c_2
      refine lv_iload_n hx hb dX2_isInLength_38 rfl (lv_at hl 1 rfl) ?_
      refine lv_bipush (v := 57) hx hb dX2_isInLength_39 (by decide) ?_
      refine lv_icmp_le (tgt := 63) hx hb dX2_isInLength_41 (by decide) (fun c_5 => ?_) (fun c_5 => ?_)
      · skip
        have c_5' : a1.toInt ≤ 57 := jb_le (rfl) ((by decide)) c_5
        refine lv_aload_n hx hb dX2_isInLength_63 rfl (lv_at hl 0 rfl) ?_
        refine lv_dup hx hb dX2_isInLength_64 rfl ?_
        refine va_get (D := (dC, dI)) (ci := 4) (v := .int dg) (C := RX2) (T := TX2) (N := 12) hx hb hts hin_4 hown hK (jp_one hat_h0) 0 rfl rfl 10 (by decide) (hts (.fieldLink RX2 67 "ProofServer$Frames" "digits" "I") (by decide +kernel)) (fun _ h9 => h9) rfl dX2_isInLength_65 ?_
        refine lv_iconst (v := 1) hx hb dX2_isInLength_68 (by decide) ?_
        refine lv_iadd hx hb dX2_isInLength_69 ?_
        refine lv_topi (fun z_6 ez_6 => ?_)
        refine j_put (D := (dC, dI)) (ci := 4) (v := .int z_6) (ty := .int) (C := RX2) (T := TX2) (N := 12) (A := fun q => base ≤ q) hx hb hts hin_4 tyX2 tyX2_ok nmX2 hown hK hat_h0 hb0 hL rfl 10 (by decide) (hts (.fieldLink RX2 67 "ProofServer$Frames" "digits" "I") (by decide +kernel)) (fun _ h9 => h9) rfl (by decide +kernel) rfl rfl (Nat.le_of_ble_eq_true rfl) dX2_isInLength_70 (fun H1 locs1 hat1 hsz1 hfr1 hL1 => ?_)
        have hfr2 : ∀ q, ¬ (fun q => q = h0) q → H1[q]? = H0[q]? := fun q hq => (hfr1 q (fun h => hq (h))).trans (hfr q hq)
        have hsz2 : H1.size = H0.size := hsz1.trans hsz
        clear hfr hsz hfr1 hsz1 hL hat_h0
        obtain ⟨hfr, hsz, hL⟩ : (∀ q, ¬ (fun q => q = h0) q → H1[q]? = H0[q]?) ∧ H1.size = H0.size ∧ ∀ q ∈ locs1, base ≤ q.base := ⟨hfr2, hsz2, hL1⟩
        clear hfr2 hsz2 hL1
        generalize locs1 = locs at hL ⊢
        generalize H1 = H at hfr hsz hat1 ⊢
        have hat_h0 : va_at (dC, dI) vwCl (h0, .inr (4, [.ref bd, .int len, .int kp, .int ms, .int br, .int pl, .int td, .int fl, .int sg, .int il, .int z_6, .int vl])) H := hat1
        refine lv_aload_n hx hb dX2_isInLength_73 rfl (lv_at hl 0 rfl) ?_
        refine lv_aload_n hx hb dX2_isInLength_74 rfl (lv_at hl 0 rfl) ?_
        refine va_get (D := (dC, dI)) (ci := 4) (v := .int vl) (C := RX2) (T := TX2) (N := 12) hx hb hts hin_4 hown hK (jp_one hat_h0) 0 rfl rfl 11 (by decide) (hts (.fieldLink RX2 70 "ProofServer$Frames" "value" "I") (by decide +kernel)) (fun _ h9 => h9) rfl dX2_isInLength_75 ?_
        refine lv_bipush (v := 10) hx hb dX2_isInLength_78 (by decide) ?_
        refine lv_imul hx hb dX2_isInLength_80 ?_
        refine lv_topi (fun z_7 ez_7 => ?_)
        have hz_7 : z_7.toInt = vl.toInt * 10 := by rw [ez_7]; exact jb_imul (rfl) ((by decide)) (by omega) (by omega)
        refine lv_iload_n hx hb dX2_isInLength_81 rfl (lv_at hl 1 rfl) ?_
        refine lv_iadd hx hb dX2_isInLength_82 ?_
        refine lv_topi (fun z_8 ez_8 => ?_)
        have hz_8 : z_8.toInt = z_7.toInt + a1.toInt := by rw [ez_8]; exact jb_iadd (rfl) (rfl) (by omega) (by omega)
        refine lv_bipush (v := 48) hx hb dX2_isInLength_83 (by decide) ?_
        refine lv_isub hx hb dX2_isInLength_85 ?_
        refine lv_topi (fun z_9 ez_9 => ?_)
        have hz_9 : z_9.toInt = z_8.toInt - 48 := by rw [ez_9]; exact jb_isub (rfl) ((by decide)) (by omega) (by omega)
        refine j_put (D := (dC, dI)) (ci := 4) (v := .int z_9) (ty := .int) (C := RX2) (T := TX2) (N := 12) (A := fun q => base ≤ q) hx hb hts hin_4 tyX2 tyX2_ok nmX2 hown hK hat_h0 hb0 hL rfl 11 (by decide) (hts (.fieldLink RX2 70 "ProofServer$Frames" "value" "I") (by decide +kernel)) (fun _ h9 => h9) rfl (by decide +kernel) rfl rfl (Nat.le_of_ble_eq_true rfl) dX2_isInLength_86 (fun H1 locs1 hat1 hsz1 hfr1 hL1 => ?_)
        have hfr2 : ∀ q, ¬ (fun q => q = h0) q → H1[q]? = H0[q]? := fun q hq => (hfr1 q (fun h => hq (h))).trans (hfr q hq)
        have hsz2 : H1.size = H0.size := hsz1.trans hsz
        clear hfr hsz hfr1 hsz1 hL hat_h0
        obtain ⟨hfr, hsz, hL⟩ : (∀ q, ¬ (fun q => q = h0) q → H1[q]? = H0[q]?) ∧ H1.size = H0.size ∧ ∀ q ∈ locs1, base ≤ q.base := ⟨hfr2, hsz2, hL1⟩
        clear hfr2 hsz2 hL1
        generalize locs1 = locs at hL ⊢
        generalize H1 = H at hfr hsz hat1 ⊢
        have hat_h0 : va_at (dC, dI) vwCl (h0, .inr (4, [.ref bd, .int len, .int kp, .int ms, .int br, .int pl, .int td, .int fl, .int sg, .int il, .int z_6, .int z_9])) H := hat1
        refine lv_aload_n hx hb dX2_isInLength_89 rfl (lv_at hl 0 rfl) ?_
        refine va_get (D := (dC, dI)) (ci := 4) (v := .int z_6) (C := RX2) (T := TX2) (N := 12) hx hb hts hin_4 hown hK (jp_one hat_h0) 0 rfl rfl 10 (by decide) (hts (.fieldLink RX2 67 "ProofServer$Frames" "digits" "I") (by decide +kernel)) (fun _ h9 => h9) rfl dX2_isInLength_90 ?_
        refine lv_iconst (v := 4) hx hb dX2_isInLength_93 (by decide) ?_
        refine lv_icmp_gt (tgt := 111) hx hb dX2_isInLength_94 (by decide) (fun c_10 => ?_) (fun c_10 => ?_)
        · skip
          have c_10' : z_6.toInt > 4 := jb_gt (rfl) ((by decide)) c_10
          refine lv_iconst (v := 0) hx hb dX2_isInLength_111 (by decide) ?_
          rw [hQ]
          exact W.zret (v := 0) hx hb hr (jb_nz (Or.inl rfl)) (fun t ht hW => ⟨⟨0, [.ref bd, .int len, .int kp, .int ms, .int br, .int pl, .int td, .int fl, .int sg, .int il, .int z_6, .int z_9], rfl, ⟨by first | exact Or.inl rfl | exact Or.inr rfl | assumption, ⟨len, kp, ms, br, pl, td, fl, sg, il, z_6, z_9, rfl, ⟨rfl, rfl, rfl, rfl, rfl, (hil), by first | (constructor <;> omega) | omega | (refine ⟨?_, ?_, ?_⟩ <;> omega) | (refine ⟨?_, ?_, ?_, ?_⟩ <;> omega) | (refine ⟨?_, ?_, ?_, ?_, ?_⟩ <;> omega)⟩⟩⟩, by rw [ht]; exact hat_h0, by rw [ht]; exact hsz, fun q hq => by rw [ht]; exact hfr q hq, va_K.moved hW.alike hK⟩, by rw [hH0, ht, hsz]; exact Nat.le_refl _, fun q _ hq => by rw [ht, hH0]; exact hfr q (fun h => hq (by rw [h]; exact hb0))⟩) hL dX2_isInLength_112
        · skip
          have c_10' : z_6.toInt ≤ 4 := jb_gt_n (rfl) ((by decide)) c_10
          refine lv_aload_n hx hb dX2_isInLength_97 rfl (lv_at hl 0 rfl) ?_
          refine va_get (D := (dC, dI)) (ci := 4) (v := .int z_9) (C := RX2) (T := TX2) (N := 12) hx hb hts hin_4 hown hK (jp_one hat_h0) 0 rfl rfl 11 (by decide) (hts (.fieldLink RX2 70 "ProofServer$Frames" "value" "I") (by decide +kernel)) (fun _ h9 => h9) rfl dX2_isInLength_98 ?_
          refine lv_sipush (v := 3000) hx hb dX2_isInLength_101 (by decide) ?_
          refine lv_icmp_gt (tgt := 111) hx hb dX2_isInLength_104 (by decide) (fun c_11 => ?_) (fun c_11 => ?_)
          · skip
            have c_11' : z_9.toInt > 3000 := jb_gt (rfl) ((by decide)) c_11
            refine lv_iconst (v := 0) hx hb dX2_isInLength_111 (by decide) ?_
            rw [hQ]
            exact W.zret (v := 0) hx hb hr (jb_nz (Or.inl rfl)) (fun t ht hW => ⟨⟨0, [.ref bd, .int len, .int kp, .int ms, .int br, .int pl, .int td, .int fl, .int sg, .int il, .int z_6, .int z_9], rfl, ⟨by first | exact Or.inl rfl | exact Or.inr rfl | assumption, ⟨len, kp, ms, br, pl, td, fl, sg, il, z_6, z_9, rfl, ⟨rfl, rfl, rfl, rfl, rfl, (hil), by first | (constructor <;> omega) | omega | (refine ⟨?_, ?_, ?_⟩ <;> omega) | (refine ⟨?_, ?_, ?_, ?_⟩ <;> omega) | (refine ⟨?_, ?_, ?_, ?_, ?_⟩ <;> omega)⟩⟩⟩, by rw [ht]; exact hat_h0, by rw [ht]; exact hsz, fun q hq => by rw [ht]; exact hfr q hq, va_K.moved hW.alike hK⟩, by rw [hH0, ht, hsz]; exact Nat.le_refl _, fun q _ hq => by rw [ht, hH0]; exact hfr q (fun h => hq (by rw [h]; exact hb0))⟩) hL dX2_isInLength_112
          · skip
            have c_11' : z_9.toInt ≤ 3000 := jb_gt_n (rfl) ((by decide)) c_11
            refine lv_iconst (v := 1) hx hb dX2_isInLength_107 (by decide) ?_
            refine lv_goto (tgt := 112) hx hb dX2_isInLength_108 (by decide) ?_
            rw [hQ]
            exact W.zret (v := 1) hx hb hr (jb_nz (Or.inr rfl)) (fun t ht hW => ⟨⟨1, [.ref bd, .int len, .int kp, .int ms, .int br, .int pl, .int td, .int fl, .int sg, .int il, .int z_6, .int z_9], rfl, ⟨by first | exact Or.inl rfl | exact Or.inr rfl | assumption, ⟨len, kp, ms, br, pl, td, fl, sg, il, z_6, z_9, rfl, ⟨rfl, rfl, rfl, rfl, rfl, (hil), by first | (constructor <;> omega) | omega | (refine ⟨?_, ?_, ?_⟩ <;> omega) | (refine ⟨?_, ?_, ?_, ?_⟩ <;> omega) | (refine ⟨?_, ?_, ?_, ?_, ?_⟩ <;> omega)⟩⟩⟩, by rw [ht]; exact hat_h0, by rw [ht]; exact hsz, fun q hq => by rw [ht]; exact hfr q hq, va_K.moved hW.alike hK⟩, by rw [hH0, ht, hsz]; exact Nat.le_refl _, fun q _ hq => by rw [ht, hH0]; exact hfr q (fun h => hq (by rw [h]; exact hb0))⟩) hL dX2_isInLength_112
      · skip
        have c_5' : a1.toInt > 57 := jb_le_n (rfl) ((by decide)) c_5
        refine lv_iload_n hx hb dX2_isInLength_44 rfl (lv_at hl 1 rfl) ?_
        refine lv_bipush (v := 32) hx hb dX2_isInLength_45 (by decide) ?_
        refine lv_icmp_ne (tgt := 61) hx hb dX2_isInLength_47 (by decide) (fun c_12 => ?_) (fun c_12 => ?_)
        · skip
          have c_12' : a1.toInt ≠ 32 := jb_ne (rfl) ((by decide)) c_12
          refine lv_iconst (v := 0) hx hb dX2_isInLength_61 (by decide) ?_
          rw [hQ]
          exact W.zret (v := 0) hx hb hr (jb_nz (Or.inl rfl)) (fun t ht hW => ⟨⟨0, [.ref bd, .int len, .int kp, .int ms, .int br, .int pl, .int td, .int fl, .int sg, .int il, .int dg, .int vl], rfl, ⟨by first | exact Or.inl rfl | exact Or.inr rfl | assumption, ⟨len, kp, ms, br, pl, td, fl, sg, il, dg, vl, rfl, ⟨rfl, rfl, rfl, rfl, rfl, (hil), by first | (constructor <;> omega) | omega | (refine ⟨?_, ?_, ?_⟩ <;> omega) | (refine ⟨?_, ?_, ?_, ?_⟩ <;> omega) | (refine ⟨?_, ?_, ?_, ?_, ?_⟩ <;> omega)⟩⟩⟩, by rw [ht]; exact hat_h0, by rw [ht]; exact hsz, fun q hq => by rw [ht]; exact hfr q hq, va_K.moved hW.alike hK⟩, by rw [hH0, ht, hsz]; exact Nat.le_refl _, fun q _ hq => by rw [ht, hH0]; exact hfr q (fun h => hq (by rw [h]; exact hb0))⟩) hL dX2_isInLength_62
        · skip
          have c_12' : a1.toInt = 32 := jb_ne_n (rfl) ((by decide)) c_12
          refine lv_aload_n hx hb dX2_isInLength_50 rfl (lv_at hl 0 rfl) ?_
          refine va_get (D := (dC, dI)) (ci := 4) (v := .int dg) (C := RX2) (T := TX2) (N := 12) hx hb hts hin_4 hown hK (jp_one hat_h0) 0 rfl rfl 10 (by decide) (hts (.fieldLink RX2 67 "ProofServer$Frames" "digits" "I") (by decide +kernel)) (fun _ h9 => h9) rfl dX2_isInLength_51 ?_
          refine lv_if_ne (tgt := 61) hx hb dX2_isInLength_54 (by decide) (fun c_13 => ?_) (fun c_13 => ?_)
          · skip
            have c_13' : dg.toInt ≠ 0 := jb_ne (rfl) ((by decide)) c_13
            refine lv_iconst (v := 0) hx hb dX2_isInLength_61 (by decide) ?_
            rw [hQ]
            exact W.zret (v := 0) hx hb hr (jb_nz (Or.inl rfl)) (fun t ht hW => ⟨⟨0, [.ref bd, .int len, .int kp, .int ms, .int br, .int pl, .int td, .int fl, .int sg, .int il, .int dg, .int vl], rfl, ⟨by first | exact Or.inl rfl | exact Or.inr rfl | assumption, ⟨len, kp, ms, br, pl, td, fl, sg, il, dg, vl, rfl, ⟨rfl, rfl, rfl, rfl, rfl, (hil), by first | (constructor <;> omega) | omega | (refine ⟨?_, ?_, ?_⟩ <;> omega) | (refine ⟨?_, ?_, ?_, ?_⟩ <;> omega) | (refine ⟨?_, ?_, ?_, ?_, ?_⟩ <;> omega)⟩⟩⟩, by rw [ht]; exact hat_h0, by rw [ht]; exact hsz, fun q hq => by rw [ht]; exact hfr q hq, va_K.moved hW.alike hK⟩, by rw [hH0, ht, hsz]; exact Nat.le_refl _, fun q _ hq => by rw [ht, hH0]; exact hfr q (fun h => hq (by rw [h]; exact hb0))⟩) hL dX2_isInLength_62
          · skip
            have c_13' : dg.toInt = 0 := jb_ne_n (rfl) ((by decide)) c_13
            refine lv_iconst (v := 1) hx hb dX2_isInLength_57 (by decide) ?_
            refine lv_goto (tgt := 62) hx hb dX2_isInLength_58 (by decide) ?_
            rw [hQ]
            exact W.zret (v := 1) hx hb hr (jb_nz (Or.inr rfl)) (fun t ht hW => ⟨⟨1, [.ref bd, .int len, .int kp, .int ms, .int br, .int pl, .int td, .int fl, .int sg, .int il, .int dg, .int vl], rfl, ⟨by first | exact Or.inl rfl | exact Or.inr rfl | assumption, ⟨len, kp, ms, br, pl, td, fl, sg, il, dg, vl, rfl, ⟨rfl, rfl, rfl, rfl, rfl, (hil), by first | (constructor <;> omega) | omega | (refine ⟨?_, ?_, ?_⟩ <;> omega) | (refine ⟨?_, ?_, ?_, ?_⟩ <;> omega) | (refine ⟨?_, ?_, ?_, ?_, ?_⟩ <;> omega)⟩⟩⟩, by rw [ht]; exact hat_h0, by rw [ht]; exact hsz, fun q hq => by rw [ht]; exact hfr q hq, va_K.moved hW.alike hK⟩, by rw [hH0, ht, hsz]; exact Nat.le_refl _, fun q _ hq => by rw [ht, hH0]; exact hfr q (fun h => hq (by rw [h]; exact hb0))⟩) hL dX2_isInLength_62
  · skip
    have c_1' : a1.toInt = 13 := jb_ne_n (rfl) ((by decide)) c_1
    refine lv_aload_n hx hb dX2_isInLength_6 rfl (lv_at hl 0 rfl) ?_
    refine lv_iconst (v := 4) hx hb dX2_isInLength_7 (by decide) ?_
    refine j_put (D := (dC, dI)) (ci := 4) (v := .int 4) (ty := .int) (C := RX2) (T := TX2) (N := 12) (A := fun q => base ≤ q) hx hb hts hin_4 tyX2 tyX2_ok nmX2 hown hK hat_h0 hb0 hL rfl 5 (by decide) (hts (.fieldLink RX2 15 "ProofServer$Frames" "place" "I") (by decide +kernel)) (fun _ h9 => h9) rfl (by decide +kernel) rfl rfl (Nat.le_of_ble_eq_true rfl) dX2_isInLength_8 (fun H1 locs1 hat1 hsz1 hfr1 hL1 => ?_)
    have hfr2 : ∀ q, ¬ (fun q => q = h0) q → H1[q]? = H0[q]? := fun q hq => (hfr1 q (fun h => hq (h))).trans (hfr q hq)
    have hsz2 : H1.size = H0.size := hsz1.trans hsz
    clear hfr hsz hfr1 hsz1 hL hat_h0
    obtain ⟨hfr, hsz, hL⟩ : (∀ q, ¬ (fun q => q = h0) q → H1[q]? = H0[q]?) ∧ H1.size = H0.size ∧ ∀ q ∈ locs1, base ≤ q.base := ⟨hfr2, hsz2, hL1⟩
    clear hfr2 hsz2 hL1
    generalize locs1 = locs at hL ⊢
    generalize H1 = H at hfr hsz hat1 ⊢
    have hat_h0 : va_at (dC, dI) vwCl (h0, .inr (4, [.ref bd, .int len, .int kp, .int ms, .int br, .int 4, .int td, .int fl, .int sg, .int il, .int dg, .int vl])) H := hat1
    refine lv_aload_n hx hb dX2_isInLength_11 rfl (lv_at hl 0 rfl) ?_
    refine lv_aload_n hx hb dX2_isInLength_12 rfl (lv_at hl 0 rfl) ?_
    refine va_get (D := (dC, dI)) (ci := 4) (v := .int vl) (C := RX2) (T := TX2) (N := 12) hx hb hts hin_4 hown hK (jp_one hat_h0) 0 rfl rfl 11 (by decide) (hts (.fieldLink RX2 70 "ProofServer$Frames" "value" "I") (by decide +kernel)) (fun _ h9 => h9) rfl dX2_isInLength_13 ?_
    refine j_put (D := (dC, dI)) (ci := 4) (v := .int vl) (ty := .int) (C := RX2) (T := TX2) (N := 12) (A := fun q => base ≤ q) hx hb hts hin_4 tyX2 tyX2_ok nmX2 hown hK hat_h0 hb0 hL rfl 6 (by decide) (hts (.fieldLink RX2 19 "ProofServer$Frames" "told" "I") (by decide +kernel)) (fun _ h9 => h9) rfl (by decide +kernel) rfl rfl (Nat.le_of_ble_eq_true rfl) dX2_isInLength_16 (fun H1 locs1 hat1 hsz1 hfr1 hL1 => ?_)
    have hfr2 : ∀ q, ¬ (fun q => q = h0) q → H1[q]? = H0[q]? := fun q hq => (hfr1 q (fun h => hq (h))).trans (hfr q hq)
    have hsz2 : H1.size = H0.size := hsz1.trans hsz
    clear hfr hsz hfr1 hsz1 hL hat_h0
    obtain ⟨hfr, hsz, hL⟩ : (∀ q, ¬ (fun q => q = h0) q → H1[q]? = H0[q]?) ∧ H1.size = H0.size ∧ ∀ q ∈ locs1, base ≤ q.base := ⟨hfr2, hsz2, hL1⟩
    clear hfr2 hsz2 hL1
    generalize locs1 = locs at hL ⊢
    generalize H1 = H at hfr hsz hat1 ⊢
    have hat_h0 : va_at (dC, dI) vwCl (h0, .inr (4, [.ref bd, .int len, .int kp, .int ms, .int br, .int 4, .int vl, .int fl, .int sg, .int il, .int dg, .int vl])) H := hat1
    refine lv_aload_n hx hb dX2_isInLength_19 rfl (lv_at hl 0 rfl) ?_
    refine va_get (D := (dC, dI)) (ci := 4) (v := .int dg) (C := RX2) (T := TX2) (N := 12) hx hb hts hin_4 hown hK (jp_one hat_h0) 0 rfl rfl 10 (by decide) (hts (.fieldLink RX2 67 "ProofServer$Frames" "digits" "I") (by decide +kernel)) (fun _ h9 => h9) rfl dX2_isInLength_20 ?_
    refine lv_if_le (tgt := 30) hx hb dX2_isInLength_23 (by decide) (fun c_14 => ?_) (fun c_14 => ?_)
    · skip
      have c_14' : dg.toInt ≤ 0 := jb_le (rfl) ((by decide)) c_14
      refine lv_iconst (v := 0) hx hb dX2_isInLength_30 (by decide) ?_
      rw [hQ]
      exact W.zret (v := 0) hx hb hr (jb_nz (Or.inl rfl)) (fun t ht hW => ⟨⟨0, [.ref bd, .int len, .int kp, .int ms, .int br, .int 4, .int vl, .int fl, .int sg, .int il, .int dg, .int vl], rfl, ⟨by first | exact Or.inl rfl | exact Or.inr rfl | assumption, ⟨len, kp, ms, br, 4, vl, fl, sg, il, dg, vl, rfl, ⟨rfl, rfl, rfl, rfl, rfl, (hil), by first | (constructor <;> omega) | omega | (refine ⟨?_, ?_, ?_⟩ <;> omega) | (refine ⟨?_, ?_, ?_, ?_⟩ <;> omega) | (refine ⟨?_, ?_, ?_, ?_, ?_⟩ <;> omega)⟩⟩⟩, by rw [ht]; exact hat_h0, by rw [ht]; exact hsz, fun q hq => by rw [ht]; exact hfr q hq, va_K.moved hW.alike hK⟩, by rw [hH0, ht, hsz]; exact Nat.le_refl _, fun q _ hq => by rw [ht, hH0]; exact hfr q (fun h => hq (by rw [h]; exact hb0))⟩) hL dX2_isInLength_31
    · skip
      have c_14' : dg.toInt > 0 := jb_le_n (rfl) ((by decide)) c_14
      refine lv_iconst (v := 1) hx hb dX2_isInLength_26 (by decide) ?_
      refine lv_goto (tgt := 31) hx hb dX2_isInLength_27 (by decide) ?_
      rw [hQ]
      exact W.zret (v := 1) hx hb hr (jb_nz (Or.inr rfl)) (fun t ht hW => ⟨⟨1, [.ref bd, .int len, .int kp, .int ms, .int br, .int 4, .int vl, .int fl, .int sg, .int il, .int dg, .int vl], rfl, ⟨by first | exact Or.inl rfl | exact Or.inr rfl | assumption, ⟨len, kp, ms, br, 4, vl, fl, sg, il, dg, vl, rfl, ⟨rfl, rfl, rfl, rfl, rfl, (hil), by first | (constructor <;> omega) | omega | (refine ⟨?_, ?_, ?_⟩ <;> omega) | (refine ⟨?_, ?_, ?_, ?_⟩ <;> omega) | (refine ⟨?_, ?_, ?_, ?_, ?_⟩ <;> omega)⟩⟩⟩, by rw [ht]; exact hat_h0, by rw [ht]; exact hsz, fun q hq => by rw [ht]; exact hfr q hq, va_K.moved hW.alike hK⟩, by rw [hH0, ht, hsz]; exact Nat.le_refl _, fun q _ hq => by rw [ht, hH0]; exact hfr q (fun h => hq (by rw [h]; exact hb0))⟩) hL dX2_isInLength_31
