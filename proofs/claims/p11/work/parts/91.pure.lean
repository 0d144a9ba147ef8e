theorem dX14_isIdOf_0 : decode cX14_isIdOf 0 = .ok (.aload_n 0, 1) := by decide +kernel
theorem dX14_isIdOf_1 : decode cX14_isIdOf 1 = .ok (.getfield 100, 3) := by decide +kernel
theorem dX14_isIdOf_4 : decode cX14_isIdOf 4 = .ok (.iload_n 1, 1) := by decide +kernel
theorem dX14_isIdOf_5 : decode cX14_isIdOf 5 = .ok (.baload, 1) := by decide +kernel
theorem dX14_isIdOf_6 : decode cX14_isIdOf 6 = .ok (.aload_n 0, 1) := by decide +kernel
theorem dX14_isIdOf_7 : decode cX14_isIdOf 7 = .ok (.getfield 37, 3) := by decide +kernel
theorem dX14_isIdOf_10 : decode cX14_isIdOf 10 = .ok (.iload_n 2, 1) := by decide +kernel
theorem dX14_isIdOf_11 : decode cX14_isIdOf 11 = .ok (.iaload, 1) := by decide +kernel
theorem dX14_isIdOf_12 : decode cX14_isIdOf 12 = .ok (.iconst 4, 1) := by decide +kernel
theorem dX14_isIdOf_13 : decode cX14_isIdOf 13 = .ok (.if_icmp .ne 7, 3) := by decide +kernel
theorem dX14_isIdOf_16 : decode cX14_isIdOf 16 = .ok (.iconst 1, 1) := by decide +kernel
theorem dX14_isIdOf_17 : decode cX14_isIdOf 17 = .ok (.goto 4, 3) := by decide +kernel
theorem dX14_isIdOf_20 : decode cX14_isIdOf 20 = .ok (.iconst 0, 1) := by decide +kernel
theorem dX14_isIdOf_21 : decode cX14_isIdOf 21 = .ok (.if_icmp .eq 5, 3) := by decide +kernel
theorem dX14_isIdOf_24 : decode cX14_isIdOf 24 = .ok (.iconst 0, 1) := by decide +kernel
theorem dX14_isIdOf_25 : decode cX14_isIdOf 25 = .ok (.ireturn, 1) := by decide +kernel
theorem dX14_isIdOf_26 : decode cX14_isIdOf 26 = .ok (.aload_n 0, 1) := by decide +kernel
theorem dX14_isIdOf_27 : decode cX14_isIdOf 27 = .ok (.getfield 100, 3) := by decide +kernel
theorem dX14_isIdOf_30 : decode cX14_isIdOf 30 = .ok (.iload_n 1, 1) := by decide +kernel
theorem dX14_isIdOf_31 : decode cX14_isIdOf 31 = .ok (.baload, 1) := by decide +kernel
theorem dX14_isIdOf_32 : decode cX14_isIdOf 32 = .ok (.ifCond .ne 24, 3) := by decide +kernel
theorem dX14_isIdOf_35 : decode cX14_isIdOf 35 = .ok (.aload_n 0, 1) := by decide +kernel
theorem dX14_isIdOf_36 : decode cX14_isIdOf 36 = .ok (.getfield 103, 3) := by decide +kernel
theorem dX14_isIdOf_39 : decode cX14_isIdOf 39 = .ok (.iload_n 1, 1) := by decide +kernel
theorem dX14_isIdOf_40 : decode cX14_isIdOf 40 = .ok (.iaload, 1) := by decide +kernel
theorem dX14_isIdOf_41 : decode cX14_isIdOf 41 = .ok (.aload_n 0, 1) := by decide +kernel
theorem dX14_isIdOf_42 : decode cX14_isIdOf 42 = .ok (.getfield 62, 3) := by decide +kernel
theorem dX14_isIdOf_45 : decode cX14_isIdOf 45 = .ok (.iload_n 2, 1) := by decide +kernel
theorem dX14_isIdOf_46 : decode cX14_isIdOf 46 = .ok (.iaload, 1) := by decide +kernel
theorem dX14_isIdOf_47 : decode cX14_isIdOf 47 = .ok (.if_icmp .ne 7, 3) := by decide +kernel
theorem dX14_isIdOf_50 : decode cX14_isIdOf 50 = .ok (.iconst 1, 1) := by decide +kernel
theorem dX14_isIdOf_51 : decode cX14_isIdOf 51 = .ok (.goto 4, 3) := by decide +kernel
theorem dX14_isIdOf_54 : decode cX14_isIdOf 54 = .ok (.iconst 0, 1) := by decide +kernel
theorem dX14_isIdOf_55 : decode cX14_isIdOf 55 = .ok (.ireturn, 1) := by decide +kernel
theorem dX14_isIdOf_56 : decode cX14_isIdOf 56 = .ok (.aload_n 0, 1) := by decide +kernel
theorem dX14_isIdOf_57 : decode cX14_isIdOf 57 = .ok (.getfield 109, 3) := by decide +kernel
theorem dX14_isIdOf_60 : decode cX14_isIdOf 60 = .ok (.iload_n 1, 1) := by decide +kernel
theorem dX14_isIdOf_61 : decode cX14_isIdOf 61 = .ok (.iaload, 1) := by decide +kernel
theorem dX14_isIdOf_62 : decode cX14_isIdOf 62 = .ok (.aload_n 0, 1) := by decide +kernel
theorem dX14_isIdOf_63 : decode cX14_isIdOf 63 = .ok (.getfield 55, 3) := by decide +kernel
theorem dX14_isIdOf_66 : decode cX14_isIdOf 66 = .ok (.iload_n 2, 1) := by decide +kernel
theorem dX14_isIdOf_67 : decode cX14_isIdOf 67 = .ok (.iaload, 1) := by decide +kernel
theorem dX14_isIdOf_68 : decode cX14_isIdOf 68 = .ok (.aload_n 0, 1) := by decide +kernel
theorem dX14_isIdOf_69 : decode cX14_isIdOf 69 = .ok (.getfield 52, 3) := by decide +kernel
theorem dX14_isIdOf_72 : decode cX14_isIdOf 72 = .ok (.iload_n 2, 1) := by decide +kernel
theorem dX14_isIdOf_73 : decode cX14_isIdOf 73 = .ok (.iaload, 1) := by decide +kernel
theorem dX14_isIdOf_74 : decode cX14_isIdOf 74 = .ok (.isub, 1) := by decide +kernel
theorem dX14_isIdOf_75 : decode cX14_isIdOf 75 = .ok (.if_icmp .ne 7, 3) := by decide +kernel
theorem dX14_isIdOf_78 : decode cX14_isIdOf 78 = .ok (.iconst 1, 1) := by decide +kernel
theorem dX14_isIdOf_79 : decode cX14_isIdOf 79 = .ok (.goto 4, 3) := by decide +kernel
theorem dX14_isIdOf_82 : decode cX14_isIdOf 82 = .ok (.iconst 0, 1) := by decide +kernel
theorem dX14_isIdOf_83 : decode cX14_isIdOf 83 = .ok (.istore_n 3, 1) := by decide +kernel
theorem dX14_isIdOf_84 : decode cX14_isIdOf 84 = .ok (.iconst 0, 1) := by decide +kernel
theorem dX14_isIdOf_85 : decode cX14_isIdOf 85 = .ok (.istore 4, 2) := by decide +kernel
theorem dX14_isIdOf_87 : decode cX14_isIdOf 87 = .ok (.iload 4, 2) := by decide +kernel
theorem dX14_isIdOf_89 : decode cX14_isIdOf 89 = .ok (.aload_n 0, 1) := by decide +kernel
theorem dX14_isIdOf_90 : decode cX14_isIdOf 90 = .ok (.getfield 109, 3) := by decide +kernel
theorem dX14_isIdOf_93 : decode cX14_isIdOf 93 = .ok (.iload_n 1, 1) := by decide +kernel
theorem dX14_isIdOf_94 : decode cX14_isIdOf 94 = .ok (.iaload, 1) := by decide +kernel
theorem dX14_isIdOf_95 : decode cX14_isIdOf 95 = .ok (.if_icmp .ge 48, 3) := by decide +kernel
theorem dX14_isIdOf_98 : decode cX14_isIdOf 98 = .ok (.iload_n 3, 1) := by decide +kernel
theorem dX14_isIdOf_99 : decode cX14_isIdOf 99 = .ok (.ifCond .eq 44, 3) := by decide +kernel
theorem dX14_isIdOf_102 : decode cX14_isIdOf 102 = .ok (.aload_n 0, 1) := by decide +kernel
theorem dX14_isIdOf_103 : decode cX14_isIdOf 103 = .ok (.getfield 106, 3) := by decide +kernel
theorem dX14_isIdOf_106 : decode cX14_isIdOf 106 = .ok (.bipush 20, 2) := by decide +kernel
theorem dX14_isIdOf_108 : decode cX14_isIdOf 108 = .ok (.iload_n 1, 1) := by decide +kernel
theorem dX14_isIdOf_109 : decode cX14_isIdOf 109 = .ok (.imul, 1) := by decide +kernel
theorem dX14_isIdOf_110 : decode cX14_isIdOf 110 = .ok (.iload 4, 2) := by decide +kernel
theorem dX14_isIdOf_112 : decode cX14_isIdOf 112 = .ok (.iadd, 1) := by decide +kernel
theorem dX14_isIdOf_113 : decode cX14_isIdOf 113 = .ok (.iaload, 1) := by decide +kernel
theorem dX14_isIdOf_114 : decode cX14_isIdOf 114 = .ok (.aload_n 0, 1) := by decide +kernel
theorem dX14_isIdOf_115 : decode cX14_isIdOf 115 = .ok (.getfield 65, 3) := by decide +kernel
theorem dX14_isIdOf_118 : decode cX14_isIdOf 118 = .ok (.aload_n 0, 1) := by decide +kernel
theorem dX14_isIdOf_119 : decode cX14_isIdOf 119 = .ok (.getfield 52, 3) := by decide +kernel
theorem dX14_isIdOf_122 : decode cX14_isIdOf 122 = .ok (.iload_n 2, 1) := by decide +kernel
theorem dX14_isIdOf_123 : decode cX14_isIdOf 123 = .ok (.iaload, 1) := by decide +kernel
theorem dX14_isIdOf_124 : decode cX14_isIdOf 124 = .ok (.iload 4, 2) := by decide +kernel
theorem dX14_isIdOf_126 : decode cX14_isIdOf 126 = .ok (.iadd, 1) := by decide +kernel
theorem dX14_isIdOf_127 : decode cX14_isIdOf 127 = .ok (.iaload, 1) := by decide +kernel
theorem dX14_isIdOf_128 : decode cX14_isIdOf 128 = .ok (.if_icmp .ne 7, 3) := by decide +kernel
theorem dX14_isIdOf_131 : decode cX14_isIdOf 131 = .ok (.iconst 1, 1) := by decide +kernel
theorem dX14_isIdOf_132 : decode cX14_isIdOf 132 = .ok (.goto 4, 3) := by decide +kernel
theorem dX14_isIdOf_135 : decode cX14_isIdOf 135 = .ok (.iconst 0, 1) := by decide +kernel
theorem dX14_isIdOf_136 : decode cX14_isIdOf 136 = .ok (.istore_n 3, 1) := by decide +kernel
theorem dX14_isIdOf_137 : decode cX14_isIdOf 137 = .ok (.iinc 4 1, 3) := by decide +kernel
theorem dX14_isIdOf_140 : decode cX14_isIdOf 140 = .ok (.goto (-53), 3) := by decide +kernel
theorem dX14_isIdOf_143 : decode cX14_isIdOf 143 = .ok (.iload_n 3, 1) := by decide +kernel
theorem dX14_isIdOf_144 : decode cX14_isIdOf 144 = .ok (.ireturn, 1) := by decide +kernel
theorem dJ1_canEncode_fc78d_0 : decode cJ1_canEncode_fc78d 0 = .ok (.iload_n 0, 1) := by decide +kernel
theorem dJ1_canEncode_fc78d_1 : decode cJ1_canEncode_fc78d 1 = .ok (.sipush 255, 3) := by decide +kernel
theorem dJ1_canEncode_fc78d_4 : decode cJ1_canEncode_fc78d 4 = .ok (.if_icmp .gt 7, 3) := by decide +kernel
theorem dJ1_canEncode_fc78d_7 : decode cJ1_canEncode_fc78d 7 = .ok (.iconst 1, 1) := by decide +kernel
theorem dJ1_canEncode_fc78d_8 : decode cJ1_canEncode_fc78d 8 = .ok (.goto 4, 3) := by decide +kernel
theorem dJ1_canEncode_fc78d_11 : decode cJ1_canEncode_fc78d 11 = .ok (.iconst 0, 1) := by decide +kernel
theorem dJ1_canEncode_fc78d_12 : decode cJ1_canEncode_fc78d 12 = .ok (.ireturn, 1) := by decide +kernel
def EX14_isIdOf : List (Nat × Nat) := []
set_option maxHeartbeats 4000000 in
set_option maxRecDepth 20000 in
theorem wJ1_canEncode_fc78d (l : Launch) (dC : Nat → ClassId) (dI : Nat → Nat → Nat) (ca : Nat → ClassId) (base : Nat) (H0 : Heap) (a0 : Int32) : Met l yJ1_canEncode_fc78d (jw yJ1_canEncode_fc78d cJ1_canEncode_fc78d 1 (some .boolean)) ({ frames := 0, cells := 0, slots := 0, locals := 0 }) (va_Pc [.int a0] (fun U => U.heap = H0 ∧ jG dC dI ca base U ∧ (True))) (vp_Si (fun r => r = 0 ∨ r = 1)) 0 0 (fun _ => False) := by
  refine Met.ofW (cc := cJ1_canEncode_fc78d) (maxL := 1) (ret := (some .boolean)) (by decide) rfl ?_
  intro p e s m args below meth c s₁ B hml hv
  obtain ⟨rfl, hH0, hG, hpre⟩ := hv
  have hK := hG.1
  have hx := B.exec
  have hb := B.bytes
  have hr := B.returns
  have hts := atoms_spec (ws := (jw yJ1_canEncode_fc78d cJ1_canEncode_fc78d 1 (some .boolean))) B.pre
  have htw : ∀ w ∈ jWl, w.before _ s = true := fun w h => hts w (List.mem_cons_of_mem _ h)
  have hown : s.vm.findClass RJ1 = some m.cls := findClass_of_methodNamed B.named
  have hlocks := B.notSynchronized
  obtain ⟨Q, hQ⟩ : ∃ Q, Q = MQ below (vp_Si (fun r => r = 0 ∨ r = 1)) ([.int a0] : List Value).toArray s 0 0 (fun _ => False) := ⟨_, rfl⟩
  rw [← hQ]
  have hl := lv_entry ([.int a0]) (n := 1) (Nat.le_of_ble_eq_true rfl)
  rw [lg_entry_eq]
  generalize (lg_sl ([.int a0]) ++ List.replicate (1 - (lg_sl ([.int a0])).length) Slot.unset).toArray = ls at hl ⊢
  have hl : lv_has ls 1 [(0, .int a0)] := hl
  generalize hR : (headSpec (jw yJ1_canEncode_fc78d cJ1_canEncode_fc78d 1 (some .boolean)) ({ frames := 0, cells := 0, slots := 0, locals := 0 })).room = R
  subst hH0
  have hS : va_S (jA base) s.heap s.heap [] := va_S.rf
  have hk0 : (0 : Int32).toInt = 0 := by decide
  have hk1 : (1 : Int32).toInt = 1 := by decide
  have hk255 : (255 : Int32).toInt = 255 := by decide
  refine lv_iload_n hx hb dJ1_canEncode_fc78d_0 rfl (lv_at hl 0 rfl) ?_
  refine lv_sipush (v := 255) hx hb dJ1_canEncode_fc78d_1 (by decide) ?_
  refine lv_icmp_gt (tgt := 11) hx hb dJ1_canEncode_fc78d_4 (by decide) (fun c_1 => ?_) (fun c_1 => ?_)
  · skip
    have c_1' : a0.toInt > 255 := jb_gt (rfl) ((by decide)) c_1
    refine lv_iconst (v := 0) hx hb dJ1_canEncode_fc78d_11 (by decide) ?_
    rw [hQ]
    exact W.zret (v := 0) hx hb hr (jb_nz (Or.inl rfl)) (fun t ht hW => ⟨0, rfl, by first | exact Or.inl rfl | exact Or.inr rfl | assumption, ht⟩) (fun _ h => nomatch h) dJ1_canEncode_fc78d_12
  · skip
    have c_1' : a0.toInt ≤ 255 := jb_gt_n (rfl) ((by decide)) c_1
    refine lv_iconst (v := 1) hx hb dJ1_canEncode_fc78d_7 (by decide) ?_
    refine lv_goto (tgt := 12) hx hb dJ1_canEncode_fc78d_8 (by decide) ?_
    rw [hQ]
    exact W.zret (v := 1) hx hb hr (jb_nz (Or.inr rfl)) (fun t ht hW => ⟨1, rfl, by first | exact Or.inl rfl | exact Or.inr rfl | assumption, ht⟩) (fun _ h => nomatch h) dJ1_canEncode_fc78d_12
set_option maxHeartbeats 4000000 in
set_option maxRecDepth 20000 in
theorem uX14_isIdOf (l : Launch) (dC : Nat → ClassId) (dI : Nat → Nat → Nat) (ca : Nat → ClassId) (base : Nat) (B : jF) (hB : jBok B) (hAp : jAp (dC, dI)) (hB16 : ∀ n G a H, B 16 n G a H ↔ jOb (dC, dI) 16 74 (F16 n G) a H) (hB101 : ∀ n G a H, B 101 n G a H ↔ jAr (dC, dI) (ca 1) (fun j z => True) n a H) (hB103 : ∀ n G a H, B 103 n G a H ↔ jAr (dC, dI) (ca 3) (fun j z => (z = 0 ∨ z = 1)) n a H) (hB117 : ∀ n G a H, B 117 n G a H ↔ jAr (dC, dI) (ca 1) (fun j z => True) n a H) (hB122 : ∀ n G a H, B 122 n G a H ↔ jAr (dC, dI) (ca 1) (fun j z => 0 ≤ z.toInt ∧ z.toInt ≤ 3100) n a H) (hB123 : ∀ n G a H, B 123 n G a H ↔ jAr (dC, dI) (ca 1) (fun j z => 0 ≤ z.toInt ∧ z.toInt ≤ 3100) n a H) (hB125 : ∀ n G a H, B 125 n G a H ↔ jAr (dC, dI) (ca 1) (fun j z => True) n a H) (hB127 : ∀ n G a H, B 127 n G a H ↔ jAr (dC, dI) (ca 1) (fun j z => True) n a H) (hB203 : ∀ n G a H, B 203 n G a H ↔ jAr (dC, dI) (ca 1) (fun j z => -3300 ≤ z.toInt ∧ z.toInt ≤ 20) n a H) (G0 : jT) (H0 : Heap) (r0 : Nat) (a1 : Int32) (a2 : Int32) (xb : Nat) (xe : Nat) (zw : Nat) (fb : Nat → Int32) (fe : Nat → Int32) (fl : Nat → Int32) : Met l yX14_isIdOf (jw yX14_isIdOf cX14_isIdOf 5 (some .boolean)) ({ frames := 0, cells := 0, slots := 0, locals := 0 }) (va_Pc [.ref r0, .int a1, .int a2] (fun U => U.heap = H0 ∧ jX B base G0 [] H0 ∧ jG dC dI ca base U ∧ G0 r0 = some (16, 0) ∧ G0 xb = some (122, 3100) ∧ G0 xe = some (123, 3100) ∧ G0 zw = some (203, 12) ∧ jP (dC, dI) G0 H0 [(r0, 16, 22, .ref xb), (r0, 16, 23, .ref xe), (r0, 16, 55, .ref zw)] ∧ jMc (dC, dI) G0 H0 [(xb, 122, 3100, ca 1, fb), (xe, 123, 3100, ca 1, fe), (zw, 203, 12, ca 1, fl)] ∧ 0 ≤ a1.toInt ∧ a1.toInt ≤ 11 ∧ 0 ≤ a2.toInt ∧ a2.toInt ≤ 3099)) (va_Qi (S := Unit) (fun r u => (r = 0 ∨ r = 1) ∧ (0 ≤ r.toInt ∧ r.toInt ≤ 1)) (fun u t => jRt (dC, dI) B base G0 EX14_isIdOf H0 [] t.heap) (jA base)) 0 0 (jA base) := by
  refine Met.ofW (cc := cX14_isIdOf) (maxL := 5) (ret := (some .boolean)) (by decide) rfl ?_
  intro p e s m args below meth c s₁ Bd hml hv
  obtain ⟨rfl, hH0, hX, hG, hg_r0, hg_xb, hg_xe, hg_zw, hP0, hM0, hp0, hp1, hp2, hp3⟩ := hv
  have hK := hG.1
  have hx := Bd.exec
  have hb := Bd.bytes
  have hr := Bd.returns
  have hts := atoms_spec (ws := (jw yX14_isIdOf cX14_isIdOf 5 (some .boolean))) Bd.pre
  have htw : ∀ w ∈ jWl, w.before _ s = true := fun w h => hts w (List.mem_cons_of_mem _ h)
  have hown : s.vm.findClass RX14 = some m.cls := findClass_of_methodNamed Bd.named
  have hlocks := Bd.notSynchronized
  obtain ⟨Q, hQ⟩ : ∃ Q, Q = MQ below (va_Qi (S := Unit) (fun r u => (r = 0 ∨ r = 1) ∧ (0 ≤ r.toInt ∧ r.toInt ≤ 1)) (fun u t => jRt (dC, dI) B base G0 EX14_isIdOf H0 [] t.heap) (jA base)) ([.ref r0, .int a1, .int a2] : List Value).toArray s 0 0 (jA base) := ⟨_, rfl⟩
  rw [← hQ]
  have hl := lv_entry ([.ref r0, .int a1, .int a2]) (n := 5) (Nat.le_of_ble_eq_true rfl)
  rw [lg_entry_eq]
  generalize (lg_sl ([.ref r0, .int a1, .int a2]) ++ List.replicate (5 - (lg_sl ([.ref r0, .int a1, .int a2])).length) Slot.unset).toArray = ls at hl ⊢
  have hl : lv_has ls 5 [(0, .ref r0), (1, .int a1), (2, .int a2)] := hl
  generalize hR : (headSpec (jw yX14_isIdOf cX14_isIdOf 5 (some .boolean)) ({ frames := 0, cells := 0, slots := 0, locals := 0 })).room = R
  subst hH0
  have hh : jSt (dC, dI) B base G0 G0 EX14_isIdOf s.heap 0 0 [(r0, 16, 22, .ref xb), (r0, 16, 23, .ref xe), (r0, 16, 55, .ref zw)] [(xb, 122, 3100, ca 1, fb), (xe, 123, 3100, ca 1, fe), (zw, 203, 12, ca 1, fl)] [] s.heap [] := jSt.start hX hP0 hM0 jIs.nil
  clear hX hP0
  have hk0 : (0 : Int32).toInt = 0 := by decide
  have hk1 : (1 : Int32).toInt = 1 := by decide
  have hk4 : (4 : Int32).toInt = 4 := by decide
  have hk20 : (20 : Int32).toInt = 20 := by decide
  have hly_16_17 := htw (u_lay RX14 TX14 17) (jWc_wsX140 _ (u_in_lay (by decide)))
  have hly_16_22 := htw (u_lay RX14 TX14 22) (jWc_wsX140 _ (u_in_lay (by decide)))
  have hly_16_23 := htw (u_lay RX14 TX14 23) (jWc_wsX140 _ (u_in_lay (by decide)))
  have hly_16_25 := htw (u_lay RX14 TX14 25) (jWc_wsX140 _ (u_in_lay (by decide)))
  have hly_16_27 := htw (u_lay RX14 TX14 27) (jWc_wsX140 _ (u_in_lay (by decide)))
  have hly_16_52 := htw (u_lay RX14 TX14 52) (jWc_wsX140 _ (u_in_lay (by decide)))
  have hly_16_53 := htw (u_lay RX14 TX14 53) (jWc_wsX140 _ (u_in_lay (by decide)))
  have hly_16_54 := htw (u_lay RX14 TX14 54) (jWc_wsX140 _ (u_in_lay (by decide)))
  have hly_16_55 := htw (u_lay RX14 TX14 55) (jWc_wsX140 _ (u_in_lay (by decide)))
  have hlk_100 := (htw (.fieldLink RX14 100 "ProofServerModel" "waitString" "[Z") (jWr_12 _ (List.mem_of_getElem? (i := 3) rfl)))
  have hlk_37 := (htw (.fieldLink RX14 37 "ProofServerModel" "sort" "[I") (jWr_11 _ (List.mem_of_getElem? (i := 4) rfl)))
  have hlk_103 := (htw (.fieldLink RX14 103 "ProofServerModel" "waitInt" "[I") (jWr_12 _ (List.mem_of_getElem? (i := 4) rfl)))
  have hlk_62 := (htw (.fieldLink RX14 62 "ProofServerModel" "ints" "[I") (jWr_11 _ (List.mem_of_getElem? (i := 13) rfl)))
  have hlk_109 := (htw (.fieldLink RX14 109 "ProofServerModel" "waitLength" "[I") (jWr_12 _ (List.mem_of_getElem? (i := 6) rfl)))
  have hlk_55 := (htw (.fieldLink RX14 55 "ProofServerModel" "to" "[I") (jWr_11 _ (List.mem_of_getElem? (i := 10) rfl)))
  have hlk_52 := (htw (.fieldLink RX14 52 "ProofServerModel" "from" "[I") (jWr_11 _ (List.mem_of_getElem? (i := 9) rfl)))
  have hlk_106 := (htw (.fieldLink RX14 106 "ProofServerModel" "waitUnits" "[I") (jWr_12 _ (List.mem_of_getElem? (i := 5) rfl)))
  have hlk_65 := (htw (.fieldLink RX14 65 "ProofServerModel" "pool" "[I") (jWr_11 _ (List.mem_of_getElem? (i := 14) rfl)))
  have hrg_a1 := jb_rng a1
  have hrg_a2 := jb_rng a2
  refine lv_aload_n hx hb dX14_isIdOf_0 rfl (lv_at hl 0 rfl) ?_
  obtain ⟨v_1, hv_1, hh_2⟩ := hh.pin (C := RX14) (T := TX14) (N := 74) hB16 rfl (by decide) hg_r0 (i := 52) (by decide) rfl
  clear hh
  obtain ⟨waitString_3, rfl, hg_waitString_3⟩ := hv_1
  refine j7_read hx hb hown hK (C := RX14) (T := TX14) (N := 74) rfl hly_16_52 hlk_100 (hh_2.at 0 rfl) dX14_isIdOf_1 ?_
  refine lv_iload_n hx hb dX14_isIdOf_4 rfl (lv_at hl 1 rfl) ?_
  refine j7_zald hx hb hK hh_2 hB103 3 rfl (by decide) hg_waitString_3 (x := a1.toInt) (rfl) (by omega) dX14_isIdOf_5 (fun z_4 (hz_4 : (z_4 = 0 ∨ z_4 = 1)) => ?_)
  have hz_4' := jb_01 hz_4
  refine lv_aload_n hx hb dX14_isIdOf_6 rfl (lv_at hl 0 rfl) ?_
  obtain ⟨v_5, hv_5, hh_6⟩ := hh_2.pin (C := RX14) (T := TX14) (N := 74) hB16 rfl (by decide) hg_r0 (i := 17) (by decide) rfl
  clear hh_2
  obtain ⟨sort_7, rfl, hg_sort_7⟩ := hv_5
  refine j7_read hx hb hown hK (C := RX14) (T := TX14) (N := 74) rfl hly_16_17 hlk_37 (hh_6.at 0 rfl) dX14_isIdOf_7 ?_
  refine lv_iload_n hx hb dX14_isIdOf_10 rfl (lv_at hl 2 rfl) ?_
  refine j7_iald hx hb hK hh_6 hB117 1 rfl (by decide) hg_sort_7 (x := a2.toInt) (rfl) (by omega) dX14_isIdOf_11 (fun z_8 (hz_8 : True) => ?_)
  refine lv_iconst (v := 4) hx hb dX14_isIdOf_12 (by decide) ?_
  refine lv_icmp_ne (tgt := 20) hx hb dX14_isIdOf_13 (by decide) (fun c_9 => ?_) (fun c_9 => ?_)
  · skip
    have c_9' : z_8.toInt ≠ 4 := jb_ne (rfl) ((by decide)) c_9
    refine lv_iconst (v := 0) hx hb dX14_isIdOf_20 (by decide) ?_
    refine lv_icmp_eq (tgt := 26) hx hb dX14_isIdOf_21 (by decide) (fun c_10 => ?_) (fun c_10 => ?_)
    · skip
      have c_10' : z_4.toInt = 0 := jb_eq (rfl) ((by decide)) c_10
      refine lv_aload_n hx hb dX14_isIdOf_26 rfl (lv_at hl 0 rfl) ?_
      refine j7_read hx hb hown hK (C := RX14) (T := TX14) (N := 74) rfl hly_16_52 hlk_100 (hh_6.at 1 rfl) dX14_isIdOf_27 ?_
      refine lv_iload_n hx hb dX14_isIdOf_30 rfl (lv_at hl 1 rfl) ?_
      refine j7_zald hx hb hK hh_6 hB103 3 rfl (by decide) hg_waitString_3 (x := a1.toInt) (rfl) (by omega) dX14_isIdOf_31 (fun z_11 (hz_11 : (z_11 = 0 ∨ z_11 = 1)) => ?_)
      have hz_11' := jb_01 hz_11
      refine lv_if_ne (tgt := 56) hx hb dX14_isIdOf_32 (by decide) (fun c_12 => ?_) (fun c_12 => ?_)
      · skip
        have c_12' : z_11.toInt ≠ 0 := jb_ne (rfl) ((by decide)) c_12
        refine lv_aload_n hx hb dX14_isIdOf_56 rfl (lv_at hl 0 rfl) ?_
        refine j7_read hx hb hown hK (C := RX14) (T := TX14) (N := 74) rfl hly_16_55 hlk_109 (hh_6.at 4 rfl) dX14_isIdOf_57 ?_
        refine lv_iload_n hx hb dX14_isIdOf_60 rfl (lv_at hl 1 rfl) ?_
        refine j7_ialdM hx hb hK hh_6 hB203 1 rfl (by decide) hg_zw (x := a1.toInt) (rfl) (by omega) (j := 2) rfl dX14_isIdOf_61 (fun z_13 ez_13 (hz_13 : -3300 ≤ z_13.toInt ∧ z_13.toInt ≤ 20) => ?_)
        have hqz_13 : z_13.toInt = jSo fl (a1.toInt) := by unfold jSo; rw [ez_13]
        refine lv_aload_n hx hb dX14_isIdOf_62 rfl (lv_at hl 0 rfl) ?_
        refine j7_read hx hb hown hK (C := RX14) (T := TX14) (N := 74) rfl hly_16_23 hlk_55 (hh_6.at 3 rfl) dX14_isIdOf_63 ?_
        refine lv_iload_n hx hb dX14_isIdOf_66 rfl (lv_at hl 2 rfl) ?_
        refine j7_ialdM hx hb hK hh_6 hB123 1 rfl (by decide) hg_xe (x := a2.toInt) (rfl) (by omega) (j := 1) rfl dX14_isIdOf_67 (fun z_14 ez_14 (hz_14 : 0 ≤ z_14.toInt ∧ z_14.toInt ≤ 3100) => ?_)
        have hqz_14 : z_14.toInt = jSo fe (a2.toInt) := by unfold jSo; rw [ez_14]
        refine lv_aload_n hx hb dX14_isIdOf_68 rfl (lv_at hl 0 rfl) ?_
        refine j7_read hx hb hown hK (C := RX14) (T := TX14) (N := 74) rfl hly_16_22 hlk_52 (hh_6.at 2 rfl) dX14_isIdOf_69 ?_
        refine lv_iload_n hx hb dX14_isIdOf_72 rfl (lv_at hl 2 rfl) ?_
        refine j7_ialdM hx hb hK hh_6 hB122 1 rfl (by decide) hg_xb (x := a2.toInt) (rfl) (by omega) (j := 0) rfl dX14_isIdOf_73 (fun z_15 ez_15 (hz_15 : 0 ≤ z_15.toInt ∧ z_15.toInt ≤ 3100) => ?_)
        have hqz_15 : z_15.toInt = jSo fb (a2.toInt) := by unfold jSo; rw [ez_15]
        refine lv_isub hx hb dX14_isIdOf_74 ?_
        refine lv_topi (fun z_16 ez_16 => ?_)
        have hz_16 : z_16.toInt = z_14.toInt - z_15.toInt := by rw [ez_16]; exact jb_isub2 (rfl) (rfl) (by omega)
        have C83 : ∀ (w0_17 : Int32) (H_17 : Heap) (locs_17 : List Loc), jSt (dC, dI) B base G0 G0 EX14_isIdOf s.heap 0 0 [(r0, 16, 17, .ref sort_7), (r0, 16, 52, .ref waitString_3), (r0, 16, 22, .ref xb), (r0, 16, 23, .ref xe), (r0, 16, 55, .ref zw)] [(xb, 122, 3100, ca 1, fb), (xe, 123, 3100, ca 1, fe), (zw, 203, 12, ca 1, fl)] [] H_17 locs_17 → (w0_17 = 0 ∨ w0_17 = 1) → (0 ≤ w0_17.toInt ∧ w0_17.toInt ≤ 1 ∧ (w0_17.toInt = 1 → jSo fe a2.toInt - jSo fb a2.toInt = jSo fl a1.toInt)) → ∀ ls : Array Slot, lv_has ls 5 [(0, .ref r0), (1, .int a1), (2, .int a2)] → W p l e R s m ([.ref r0, .int a1, .int a2] : List Value).toArray below meth c H_17 locs_17 0 0 Q (F0 m 83 ls [.int w0_17]) := by
          intro w0_17 H_17 locs_17 hh_17 hb_w0_17 hi_17 ls hl
          obtain ⟨hi_17_0, hi_17_1, hi_17_2⟩ := hi_17
          have hb_w0_17' := jb_01 hb_w0_17
          refine lv_istore_n (lv' := [(3, .int w0_17), (0, .ref r0), (1, .int a1), (2, .int a2)]) hx hb dX14_isIdOf_83 rfl hl (by decide) rfl (fun ls hl => ?_)
          refine lv_iconst (v := 0) hx hb dX14_isIdOf_84 (by decide) ?_
          refine lv_istore (lv' := [(4, .int 0), (3, .int w0_17), (0, .ref r0), (1, .int a1), (2, .int a2)]) hx hb dX14_isIdOf_85 hl (by decide) rfl (fun ls hl => ?_)
          have L87 : ∀ (N : Nat) (v3_18 : Int32) (v4_18 : Int32) (H_18 : Heap) (locs_18 : List Loc), jSt (dC, dI) B base G0 G0 EX14_isIdOf s.heap 0 0 [(r0, 16, 17, .ref sort_7), (r0, 16, 52, .ref waitString_3), (r0, 16, 22, .ref xb), (r0, 16, 23, .ref xe), (r0, 16, 55, .ref zw)] [(xb, 122, 3100, ca 1, fb), (xe, 123, 3100, ca 1, fe), (zw, 203, 12, ca 1, fl)] [] H_18 locs_18 → (v3_18 = 0 ∨ v3_18 = 1) → (0 ≤ v4_18.toInt ∧ v4_18.toInt ≤ 20 ∧ 0 ≤ v3_18.toInt ∧ v3_18.toInt ≤ 1 ∧ (v3_18.toInt = 1 → jSo fe a2.toInt - jSo fb a2.toInt = jSo fl a1.toInt)) → (20 - v4_18.toInt : Int) < N → ∀ ls : Array Slot, lv_has ls 5 [(0, .ref r0), (1, .int a1), (2, .int a2), (3, .int v3_18), (4, .int v4_18)] → W p l e R s m ([.ref r0, .int a1, .int a2] : List Value).toArray below meth c H_18 locs_18 0 0 Q (F0 m 87 ls []) := by
            intro N
            induction N with
            | zero => intro v3_18 v4_18 H_18 locs_18 hh_18 hb_v3_18 hi_18 hm; exact absurd hm (by omega)
            | succ N L87 =>
              intro v3_18 v4_18 H_18 locs_18 hh_18 hb_v3_18 hi_18 hm_18 ls hl
              obtain ⟨hi_18_0, hi_18_1, hi_18_2, hi_18_3, hi_18_4⟩ := hi_18
              have hb_v3_18' := jb_01 hb_v3_18
              refine lv_iload hx hb dX14_isIdOf_87 (lv_at hl 4 rfl) ?_
              refine lv_aload_n hx hb dX14_isIdOf_89 rfl (lv_at hl 0 rfl) ?_
              refine j7_read hx hb hown hK (C := RX14) (T := TX14) (N := 74) rfl hly_16_55 hlk_109 (hh_18.at 4 rfl) dX14_isIdOf_90 ?_
              refine lv_iload_n hx hb dX14_isIdOf_93 rfl (lv_at hl 1 rfl) ?_
              refine j7_ialdM hx hb hK hh_18 hB203 1 rfl (by decide) hg_zw (x := a1.toInt) (rfl) (by omega) (j := 2) rfl dX14_isIdOf_94 (fun z_19 ez_19 (hz_19 : -3300 ≤ z_19.toInt ∧ z_19.toInt ≤ 20) => ?_)
              have hqz_19 : z_19.toInt = jSo fl (a1.toInt) := by unfold jSo; rw [ez_19]
              refine lv_icmp_ge (tgt := 143) hx hb dX14_isIdOf_95 (by decide) (fun c_20 => ?_) (fun c_20 => ?_)
              · skip
                have c_20' : v4_18.toInt ≥ z_19.toInt := jb_ge (rfl) (rfl) c_20
                refine lv_iload_n hx hb dX14_isIdOf_143 rfl (lv_at hl 3 rfl) ?_
                rw [hQ]
                exact W.zret (v := v3_18) hx hb hr (jb_nz (hb_v3_18)) (fun t ht hW => ⟨⟨v3_18, (), rfl, ⟨(hb_v3_18), by first | omega | (refine ⟨?_, ?_⟩ <;> (first | omega | rfl | assumption | decide | exact Or.inl rfl | exact Or.inr rfl | (simp only; omega)))⟩, hh_18.rt (M1 := []) [] rfl ht⟩, by rw [ht]; try exact hh_18.1.1, fun q h9 hq => by rw [ht]; try exact hh_18.1.2.1 q h9 hq⟩) hh_18.1.2.2 dX14_isIdOf_144
              · skip
                have c_20' : v4_18.toInt < z_19.toInt := jb_ge_n (rfl) (rfl) c_20
                refine lv_iload_n hx hb dX14_isIdOf_98 rfl (lv_at hl 3 rfl) ?_
                refine lv_if_eq (tgt := 143) hx hb dX14_isIdOf_99 (by decide) (fun c_21 => ?_) (fun c_21 => ?_)
                · skip
                  have c_21' : v3_18.toInt = 0 := jb_eq (rfl) ((by decide)) c_21
                  refine lv_iload_n hx hb dX14_isIdOf_143 rfl (lv_at hl 3 rfl) ?_
                  rw [hQ]
                  exact W.zret (v := v3_18) hx hb hr (jb_nz (hb_v3_18)) (fun t ht hW => ⟨⟨v3_18, (), rfl, ⟨(hb_v3_18), by first | omega | (refine ⟨?_, ?_⟩ <;> (first | omega | rfl | assumption | decide | exact Or.inl rfl | exact Or.inr rfl | (simp only; omega)))⟩, hh_18.rt (M1 := []) [] rfl ht⟩, by rw [ht]; try exact hh_18.1.1, fun q h9 hq => by rw [ht]; try exact hh_18.1.2.1 q h9 hq⟩) hh_18.1.2.2 dX14_isIdOf_144
                · skip
                  have c_21' : v3_18.toInt ≠ 0 := jb_eq_n (rfl) ((by decide)) c_21
                  refine lv_aload_n hx hb dX14_isIdOf_102 rfl (lv_at hl 0 rfl) ?_
                  obtain ⟨v_22, hv_22, hh_23⟩ := hh_18.pin (C := RX14) (T := TX14) (N := 74) hB16 rfl (by decide) hg_r0 (i := 54) (by decide) rfl
                  clear hh_18
                  obtain ⟨waitUnits_24, rfl, hg_waitUnits_24⟩ := hv_22
                  refine j7_read hx hb hown hK (C := RX14) (T := TX14) (N := 74) rfl hly_16_54 hlk_106 (hh_23.at 0 rfl) dX14_isIdOf_103 ?_
                  refine lv_bipush (v := 20) hx hb dX14_isIdOf_106 (by decide) ?_
                  refine lv_iload_n hx hb dX14_isIdOf_108 rfl (lv_at hl 1 rfl) ?_
                  refine lv_imul hx hb dX14_isIdOf_109 ?_
                  refine lv_topi (fun z_25 ez_25 => ?_)
                  have hz_25 : z_25.toInt = 20 * a1.toInt := by rw [ez_25]; exact jb_imul2 ((by decide)) (rfl) (by omega)
                  refine lv_iload hx hb dX14_isIdOf_110 (lv_at hl 4 rfl) ?_
                  refine lv_iadd hx hb dX14_isIdOf_112 ?_
                  refine lv_topi (fun z_26 ez_26 => ?_)
                  have hz_26 : z_26.toInt = z_25.toInt + v4_18.toInt := by rw [ez_26]; exact jb_iadd2 (rfl) (rfl) (by omega)
                  refine j7_iald hx hb hK hh_23 hB101 1 rfl (by decide) hg_waitUnits_24 (x := z_26.toInt) (rfl) (by omega) dX14_isIdOf_113 (fun z_27 (hz_27 : True) => ?_)
                  refine lv_aload_n hx hb dX14_isIdOf_114 rfl (lv_at hl 0 rfl) ?_
                  obtain ⟨v_28, hv_28, hh_29⟩ := hh_23.pin (C := RX14) (T := TX14) (N := 74) hB16 rfl (by decide) hg_r0 (i := 27) (by decide) rfl
                  clear hh_23
                  obtain ⟨pool_30, rfl, hg_pool_30⟩ := hv_28
                  refine j7_read hx hb hown hK (C := RX14) (T := TX14) (N := 74) rfl hly_16_27 hlk_65 (hh_29.at 0 rfl) dX14_isIdOf_115 ?_
                  refine lv_aload_n hx hb dX14_isIdOf_118 rfl (lv_at hl 0 rfl) ?_
                  refine j7_read hx hb hown hK (C := RX14) (T := TX14) (N := 74) rfl hly_16_22 hlk_52 (hh_29.at 4 rfl) dX14_isIdOf_119 ?_
                  refine lv_iload_n hx hb dX14_isIdOf_122 rfl (lv_at hl 2 rfl) ?_
                  refine j7_ialdM hx hb hK hh_29 hB122 1 rfl (by decide) hg_xb (x := a2.toInt) (rfl) (by omega) (j := 0) rfl dX14_isIdOf_123 (fun z_31 ez_31 (hz_31 : 0 ≤ z_31.toInt ∧ z_31.toInt ≤ 3100) => ?_)
                  have hqz_31 : z_31.toInt = jSo fb (a2.toInt) := by unfold jSo; rw [ez_31]
                  refine lv_iload hx hb dX14_isIdOf_124 (lv_at hl 4 rfl) ?_
                  refine lv_iadd hx hb dX14_isIdOf_126 ?_
                  refine lv_topi (fun z_32 ez_32 => ?_)
                  have hz_32 : z_32.toInt = z_31.toInt + v4_18.toInt := by rw [ez_32]; exact jb_iadd2 (rfl) (rfl) (by omega)
                  refine j7_iald hx hb hK hh_29 hB127 1 rfl (by decide) hg_pool_30 (x := z_32.toInt) (rfl) (by omega) dX14_isIdOf_127 (fun z_33 (hz_33 : True) => ?_)
                  refine lv_icmp_ne (tgt := 135) hx hb dX14_isIdOf_128 (by decide) (fun c_34 => ?_) (fun c_34 => ?_)
                  · skip
                    have c_34' : z_27.toInt ≠ z_33.toInt := jb_ne (rfl) (rfl) c_34
                    refine lv_iconst (v := 0) hx hb dX14_isIdOf_135 (by decide) ?_
                    refine lv_istore_n (lv' := [(3, .int 0), (0, .ref r0), (1, .int a1), (2, .int a2), (4, .int v4_18)]) hx hb dX14_isIdOf_136 rfl hl (by decide) rfl (fun ls hl => ?_)
                    obtain ⟨z_35, ez_35⟩ : ∃ y : Int32, y = v4_18 + 1 := ⟨_, rfl⟩
                    refine lv_iinc (v := z_35) (lv' := [(4, .int z_35), (3, .int 0), (0, .ref r0), (1, .int a1), (2, .int a2)]) hx hb dX14_isIdOf_137 hl (k := 4) rfl (by rw [ez_35]; rfl) (by decide) rfl (fun ls hl => ?_)
                    have hz_35 : z_35.toInt = v4_18.toInt + 1 := by rw [ez_35]; exact jb_iadd2 (rfl) (by decide) (by omega)
                    refine lv_goto (tgt := 87) hx hb dX14_isIdOf_140 (by decide) ?_
                    exact L87 0 z_35 _ _ (hh_29.sub (L1 := [(r0, 16, 17, .ref sort_7), (r0, 16, 52, .ref waitString_3), (r0, 16, 22, .ref xb), (r0, 16, 23, .ref xe), (r0, 16, 55, .ref zw)]) [2, 3, 4, 5, 6] rfl (M1 := [(xb, 122, 3100, ca 1, fb), (xe, 123, 3100, ca 1, fe), (zw, 203, 12, ca 1, fl)]) [0, 1, 2] rfl (I1 := []) [] rfl) (Or.inl rfl) (by first | omega | (refine ⟨?_, ?_, ?_, ?_, ?_⟩ <;> (first | omega | rfl | assumption | decide | exact Or.inl rfl | exact Or.inr rfl | (simp only; omega)))) (by omega) _ (lv_sub hl [2, 3, 4, 1, 0] rfl)
                  · skip
                    have c_34' : z_27.toInt = z_33.toInt := jb_ne_n (rfl) (rfl) c_34
                    refine lv_iconst (v := 1) hx hb dX14_isIdOf_131 (by decide) ?_
                    refine lv_goto (tgt := 136) hx hb dX14_isIdOf_132 (by decide) ?_
                    refine lv_istore_n (lv' := [(3, .int 1), (0, .ref r0), (1, .int a1), (2, .int a2), (4, .int v4_18)]) hx hb dX14_isIdOf_136 rfl hl (by decide) rfl (fun ls hl => ?_)
                    obtain ⟨z_36, ez_36⟩ : ∃ y : Int32, y = v4_18 + 1 := ⟨_, rfl⟩
                    refine lv_iinc (v := z_36) (lv' := [(4, .int z_36), (3, .int 1), (0, .ref r0), (1, .int a1), (2, .int a2)]) hx hb dX14_isIdOf_137 hl (k := 4) rfl (by rw [ez_36]; rfl) (by decide) rfl (fun ls hl => ?_)
                    have hz_36 : z_36.toInt = v4_18.toInt + 1 := by rw [ez_36]; exact jb_iadd2 (rfl) (by decide) (by omega)
                    refine lv_goto (tgt := 87) hx hb dX14_isIdOf_140 (by decide) ?_
                    exact L87 1 z_36 _ _ (hh_29.sub (L1 := [(r0, 16, 17, .ref sort_7), (r0, 16, 52, .ref waitString_3), (r0, 16, 22, .ref xb), (r0, 16, 23, .ref xe), (r0, 16, 55, .ref zw)]) [2, 3, 4, 5, 6] rfl (M1 := [(xb, 122, 3100, ca 1, fb), (xe, 123, 3100, ca 1, fe), (zw, 203, 12, ca 1, fl)]) [0, 1, 2] rfl (I1 := []) [] rfl) (Or.inr rfl) (by first | omega | (refine ⟨?_, ?_, ?_, ?_, ?_⟩ <;> (first | omega | rfl | assumption | decide | exact Or.inl rfl | exact Or.inr rfl | (simp only; omega)))) (by omega) _ (lv_sub hl [2, 3, 4, 1, 0] rfl)
          exact L87 (20 - (0 : Int32).toInt : Int).toNat.succ w0_17 0 _ _ hh_17 (hb_w0_17) (by first | omega | (refine ⟨?_, ?_, ?_, ?_, ?_⟩ <;> (first | omega | rfl | assumption | decide | exact Or.inl rfl | exact Or.inr rfl | (simp only; omega)))) (by omega) _ (lv_sub hl [2, 3, 4, 1, 0] rfl)
        refine lv_icmp_ne (tgt := 82) hx hb dX14_isIdOf_75 (by decide) (fun c_37 => ?_) (fun c_37 => ?_)
        · skip
          have c_37' : z_13.toInt ≠ z_16.toInt := jb_ne (rfl) (rfl) c_37
          refine lv_iconst (v := 0) hx hb dX14_isIdOf_82 (by decide) ?_
          exact C83 0 _ _ hh_6 (Or.inl rfl) (by first | omega | (refine ⟨?_, ?_, ?_⟩ <;> (first | omega | rfl | assumption | decide | exact Or.inl rfl | exact Or.inr rfl | (simp only; omega)))) _ (lv_sub hl [0, 1, 2] rfl)
        · skip
          have c_37' : z_13.toInt = z_16.toInt := jb_ne_n (rfl) (rfl) c_37
          refine lv_iconst (v := 1) hx hb dX14_isIdOf_78 (by decide) ?_
          refine lv_goto (tgt := 83) hx hb dX14_isIdOf_79 (by decide) ?_
          exact C83 1 _ _ hh_6 (Or.inr rfl) (by first | omega | (refine ⟨?_, ?_, ?_⟩ <;> (first | omega | rfl | assumption | decide | exact Or.inl rfl | exact Or.inr rfl | (simp only; omega)))) _ (lv_sub hl [0, 1, 2] rfl)
      · skip
        have c_12' : z_11.toInt = 0 := jb_ne_n (rfl) ((by decide)) c_12
        refine lv_aload_n hx hb dX14_isIdOf_35 rfl (lv_at hl 0 rfl) ?_
        obtain ⟨v_38, hv_38, hh_39⟩ := hh_6.pin (C := RX14) (T := TX14) (N := 74) hB16 rfl (by decide) hg_r0 (i := 53) (by decide) rfl
        clear hh_6
        obtain ⟨waitInt_40, rfl, hg_waitInt_40⟩ := hv_38
        refine j7_read hx hb hown hK (C := RX14) (T := TX14) (N := 74) rfl hly_16_53 hlk_103 (hh_39.at 0 rfl) dX14_isIdOf_36 ?_
        refine lv_iload_n hx hb dX14_isIdOf_39 rfl (lv_at hl 1 rfl) ?_
        refine j7_iald hx hb hK hh_39 hB101 1 rfl (by decide) hg_waitInt_40 (x := a1.toInt) (rfl) (by omega) dX14_isIdOf_40 (fun z_41 (hz_41 : True) => ?_)
        refine lv_aload_n hx hb dX14_isIdOf_41 rfl (lv_at hl 0 rfl) ?_
        obtain ⟨v_42, hv_42, hh_43⟩ := hh_39.pin (C := RX14) (T := TX14) (N := 74) hB16 rfl (by decide) hg_r0 (i := 25) (by decide) rfl
        clear hh_39
        obtain ⟨ints_44, rfl, hg_ints_44⟩ := hv_42
        refine j7_read hx hb hown hK (C := RX14) (T := TX14) (N := 74) rfl hly_16_25 hlk_62 (hh_43.at 0 rfl) dX14_isIdOf_42 ?_
        refine lv_iload_n hx hb dX14_isIdOf_45 rfl (lv_at hl 2 rfl) ?_
        refine j7_iald hx hb hK hh_43 hB125 1 rfl (by decide) hg_ints_44 (x := a2.toInt) (rfl) (by omega) dX14_isIdOf_46 (fun z_45 (hz_45 : True) => ?_)
        refine lv_icmp_ne (tgt := 54) hx hb dX14_isIdOf_47 (by decide) (fun c_46 => ?_) (fun c_46 => ?_)
        · skip
          have c_46' : z_41.toInt ≠ z_45.toInt := jb_ne (rfl) (rfl) c_46
          refine lv_iconst (v := 0) hx hb dX14_isIdOf_54 (by decide) ?_
          rw [hQ]
          exact W.zret (v := 0) hx hb hr (jb_nz (Or.inl rfl)) (fun t ht hW => ⟨⟨0, (), rfl, ⟨(Or.inl rfl), by first | omega | (refine ⟨?_, ?_⟩ <;> (first | omega | rfl | assumption | decide | exact Or.inl rfl | exact Or.inr rfl | (simp only; omega)))⟩, hh_43.rt (M1 := []) [] rfl ht⟩, by rw [ht]; try exact hh_43.1.1, fun q h9 hq => by rw [ht]; try exact hh_43.1.2.1 q h9 hq⟩) hh_43.1.2.2 dX14_isIdOf_55
        · skip
          have c_46' : z_41.toInt = z_45.toInt := jb_ne_n (rfl) (rfl) c_46
          refine lv_iconst (v := 1) hx hb dX14_isIdOf_50 (by decide) ?_
          refine lv_goto (tgt := 55) hx hb dX14_isIdOf_51 (by decide) ?_
          rw [hQ]
          exact W.zret (v := 1) hx hb hr (jb_nz (Or.inr rfl)) (fun t ht hW => ⟨⟨1, (), rfl, ⟨(Or.inr rfl), by first | omega | (refine ⟨?_, ?_⟩ <;> (first | omega | rfl | assumption | decide | exact Or.inl rfl | exact Or.inr rfl | (simp only; omega)))⟩, hh_43.rt (M1 := []) [] rfl ht⟩, by rw [ht]; try exact hh_43.1.1, fun q h9 hq => by rw [ht]; try exact hh_43.1.2.1 q h9 hq⟩) hh_43.1.2.2 dX14_isIdOf_55
    · skip
      have c_10' : z_4.toInt ≠ 0 := jb_eq_n (rfl) ((by decide)) c_10
      refine lv_iconst (v := 0) hx hb dX14_isIdOf_24 (by decide) ?_
      rw [hQ]
      exact W.zret (v := 0) hx hb hr (jb_nz (Or.inl rfl)) (fun t ht hW => ⟨⟨0, (), rfl, ⟨(Or.inl rfl), by first | omega | (refine ⟨?_, ?_⟩ <;> (first | omega | rfl | assumption | decide | exact Or.inl rfl | exact Or.inr rfl | (simp only; omega)))⟩, hh_6.rt (M1 := []) [] rfl ht⟩, by rw [ht]; try exact hh_6.1.1, fun q h9 hq => by rw [ht]; try exact hh_6.1.2.1 q h9 hq⟩) hh_6.1.2.2 dX14_isIdOf_25
  · skip
    have c_9' : z_8.toInt = 4 := jb_ne_n (rfl) ((by decide)) c_9
    refine lv_iconst (v := 1) hx hb dX14_isIdOf_16 (by decide) ?_
    refine lv_goto (tgt := 21) hx hb dX14_isIdOf_17 (by decide) ?_
    refine lv_icmp_eq (tgt := 26) hx hb dX14_isIdOf_21 (by decide) (fun c_47 => ?_) (fun c_47 => ?_)
    · skip
      have c_47' : z_4.toInt = 1 := jb_eq (rfl) ((by decide)) c_47
      refine lv_aload_n hx hb dX14_isIdOf_26 rfl (lv_at hl 0 rfl) ?_
      refine j7_read hx hb hown hK (C := RX14) (T := TX14) (N := 74) rfl hly_16_52 hlk_100 (hh_6.at 1 rfl) dX14_isIdOf_27 ?_
      refine lv_iload_n hx hb dX14_isIdOf_30 rfl (lv_at hl 1 rfl) ?_
      refine j7_zald hx hb hK hh_6 hB103 3 rfl (by decide) hg_waitString_3 (x := a1.toInt) (rfl) (by omega) dX14_isIdOf_31 (fun z_48 (hz_48 : (z_48 = 0 ∨ z_48 = 1)) => ?_)
      have hz_48' := jb_01 hz_48
      refine lv_if_ne (tgt := 56) hx hb dX14_isIdOf_32 (by decide) (fun c_49 => ?_) (fun c_49 => ?_)
      · skip
        have c_49' : z_48.toInt ≠ 0 := jb_ne (rfl) ((by decide)) c_49
        refine lv_aload_n hx hb dX14_isIdOf_56 rfl (lv_at hl 0 rfl) ?_
        refine j7_read hx hb hown hK (C := RX14) (T := TX14) (N := 74) rfl hly_16_55 hlk_109 (hh_6.at 4 rfl) dX14_isIdOf_57 ?_
        refine lv_iload_n hx hb dX14_isIdOf_60 rfl (lv_at hl 1 rfl) ?_
        refine j7_ialdM hx hb hK hh_6 hB203 1 rfl (by decide) hg_zw (x := a1.toInt) (rfl) (by omega) (j := 2) rfl dX14_isIdOf_61 (fun z_50 ez_50 (hz_50 : -3300 ≤ z_50.toInt ∧ z_50.toInt ≤ 20) => ?_)
        have hqz_50 : z_50.toInt = jSo fl (a1.toInt) := by unfold jSo; rw [ez_50]
        refine lv_aload_n hx hb dX14_isIdOf_62 rfl (lv_at hl 0 rfl) ?_
        refine j7_read hx hb hown hK (C := RX14) (T := TX14) (N := 74) rfl hly_16_23 hlk_55 (hh_6.at 3 rfl) dX14_isIdOf_63 ?_
        refine lv_iload_n hx hb dX14_isIdOf_66 rfl (lv_at hl 2 rfl) ?_
        refine j7_ialdM hx hb hK hh_6 hB123 1 rfl (by decide) hg_xe (x := a2.toInt) (rfl) (by omega) (j := 1) rfl dX14_isIdOf_67 (fun z_51 ez_51 (hz_51 : 0 ≤ z_51.toInt ∧ z_51.toInt ≤ 3100) => ?_)
        have hqz_51 : z_51.toInt = jSo fe (a2.toInt) := by unfold jSo; rw [ez_51]
        refine lv_aload_n hx hb dX14_isIdOf_68 rfl (lv_at hl 0 rfl) ?_
        refine j7_read hx hb hown hK (C := RX14) (T := TX14) (N := 74) rfl hly_16_22 hlk_52 (hh_6.at 2 rfl) dX14_isIdOf_69 ?_
        refine lv_iload_n hx hb dX14_isIdOf_72 rfl (lv_at hl 2 rfl) ?_
        refine j7_ialdM hx hb hK hh_6 hB122 1 rfl (by decide) hg_xb (x := a2.toInt) (rfl) (by omega) (j := 0) rfl dX14_isIdOf_73 (fun z_52 ez_52 (hz_52 : 0 ≤ z_52.toInt ∧ z_52.toInt ≤ 3100) => ?_)
        have hqz_52 : z_52.toInt = jSo fb (a2.toInt) := by unfold jSo; rw [ez_52]
        refine lv_isub hx hb dX14_isIdOf_74 ?_
        refine lv_topi (fun z_53 ez_53 => ?_)
        have hz_53 : z_53.toInt = z_51.toInt - z_52.toInt := by rw [ez_53]; exact jb_isub2 (rfl) (rfl) (by omega)
        have C83 : ∀ (w0_54 : Int32) (H_54 : Heap) (locs_54 : List Loc), jSt (dC, dI) B base G0 G0 EX14_isIdOf s.heap 0 0 [(r0, 16, 17, .ref sort_7), (r0, 16, 52, .ref waitString_3), (r0, 16, 22, .ref xb), (r0, 16, 23, .ref xe), (r0, 16, 55, .ref zw)] [(xb, 122, 3100, ca 1, fb), (xe, 123, 3100, ca 1, fe), (zw, 203, 12, ca 1, fl)] [] H_54 locs_54 → (w0_54 = 0 ∨ w0_54 = 1) → (0 ≤ w0_54.toInt ∧ w0_54.toInt ≤ 1 ∧ (w0_54.toInt = 1 → jSo fe a2.toInt - jSo fb a2.toInt = jSo fl a1.toInt)) → ∀ ls : Array Slot, lv_has ls 5 [(0, .ref r0), (1, .int a1), (2, .int a2)] → W p l e R s m ([.ref r0, .int a1, .int a2] : List Value).toArray below meth c H_54 locs_54 0 0 Q (F0 m 83 ls [.int w0_54]) := by
          intro w0_54 H_54 locs_54 hh_54 hb_w0_54 hi_54 ls hl
          obtain ⟨hi_54_0, hi_54_1, hi_54_2⟩ := hi_54
          have hb_w0_54' := jb_01 hb_w0_54
          refine lv_istore_n (lv' := [(3, .int w0_54), (0, .ref r0), (1, .int a1), (2, .int a2)]) hx hb dX14_isIdOf_83 rfl hl (by decide) rfl (fun ls hl => ?_)
          refine lv_iconst (v := 0) hx hb dX14_isIdOf_84 (by decide) ?_
          refine lv_istore (lv' := [(4, .int 0), (3, .int w0_54), (0, .ref r0), (1, .int a1), (2, .int a2)]) hx hb dX14_isIdOf_85 hl (by decide) rfl (fun ls hl => ?_)
          have L87 : ∀ (N : Nat) (v3_55 : Int32) (v4_55 : Int32) (H_55 : Heap) (locs_55 : List Loc), jSt (dC, dI) B base G0 G0 EX14_isIdOf s.heap 0 0 [(r0, 16, 17, .ref sort_7), (r0, 16, 52, .ref waitString_3), (r0, 16, 22, .ref xb), (r0, 16, 23, .ref xe), (r0, 16, 55, .ref zw)] [(xb, 122, 3100, ca 1, fb), (xe, 123, 3100, ca 1, fe), (zw, 203, 12, ca 1, fl)] [] H_55 locs_55 → (v3_55 = 0 ∨ v3_55 = 1) → (0 ≤ v4_55.toInt ∧ v4_55.toInt ≤ 20 ∧ 0 ≤ v3_55.toInt ∧ v3_55.toInt ≤ 1 ∧ (v3_55.toInt = 1 → jSo fe a2.toInt - jSo fb a2.toInt = jSo fl a1.toInt)) → (20 - v4_55.toInt : Int) < N → ∀ ls : Array Slot, lv_has ls 5 [(0, .ref r0), (1, .int a1), (2, .int a2), (3, .int v3_55), (4, .int v4_55)] → W p l e R s m ([.ref r0, .int a1, .int a2] : List Value).toArray below meth c H_55 locs_55 0 0 Q (F0 m 87 ls []) := by
            intro N
            induction N with
            | zero => intro v3_55 v4_55 H_55 locs_55 hh_55 hb_v3_55 hi_55 hm; exact absurd hm (by omega)
            | succ N L87 =>
              intro v3_55 v4_55 H_55 locs_55 hh_55 hb_v3_55 hi_55 hm_55 ls hl
              obtain ⟨hi_55_0, hi_55_1, hi_55_2, hi_55_3, hi_55_4⟩ := hi_55
              have hb_v3_55' := jb_01 hb_v3_55
              refine lv_iload hx hb dX14_isIdOf_87 (lv_at hl 4 rfl) ?_
              refine lv_aload_n hx hb dX14_isIdOf_89 rfl (lv_at hl 0 rfl) ?_
              refine j7_read hx hb hown hK (C := RX14) (T := TX14) (N := 74) rfl hly_16_55 hlk_109 (hh_55.at 4 rfl) dX14_isIdOf_90 ?_
              refine lv_iload_n hx hb dX14_isIdOf_93 rfl (lv_at hl 1 rfl) ?_
              refine j7_ialdM hx hb hK hh_55 hB203 1 rfl (by decide) hg_zw (x := a1.toInt) (rfl) (by omega) (j := 2) rfl dX14_isIdOf_94 (fun z_56 ez_56 (hz_56 : -3300 ≤ z_56.toInt ∧ z_56.toInt ≤ 20) => ?_)
              have hqz_56 : z_56.toInt = jSo fl (a1.toInt) := by unfold jSo; rw [ez_56]
              refine lv_icmp_ge (tgt := 143) hx hb dX14_isIdOf_95 (by decide) (fun c_57 => ?_) (fun c_57 => ?_)
              · skip
                have c_57' : v4_55.toInt ≥ z_56.toInt := jb_ge (rfl) (rfl) c_57
                refine lv_iload_n hx hb dX14_isIdOf_143 rfl (lv_at hl 3 rfl) ?_
                rw [hQ]
                exact W.zret (v := v3_55) hx hb hr (jb_nz (hb_v3_55)) (fun t ht hW => ⟨⟨v3_55, (), rfl, ⟨(hb_v3_55), by first | omega | (refine ⟨?_, ?_⟩ <;> (first | omega | rfl | assumption | decide | exact Or.inl rfl | exact Or.inr rfl | (simp only; omega)))⟩, hh_55.rt (M1 := []) [] rfl ht⟩, by rw [ht]; try exact hh_55.1.1, fun q h9 hq => by rw [ht]; try exact hh_55.1.2.1 q h9 hq⟩) hh_55.1.2.2 dX14_isIdOf_144
              · skip
                have c_57' : v4_55.toInt < z_56.toInt := jb_ge_n (rfl) (rfl) c_57
                refine lv_iload_n hx hb dX14_isIdOf_98 rfl (lv_at hl 3 rfl) ?_
                refine lv_if_eq (tgt := 143) hx hb dX14_isIdOf_99 (by decide) (fun c_58 => ?_) (fun c_58 => ?_)
                · skip
                  have c_58' : v3_55.toInt = 0 := jb_eq (rfl) ((by decide)) c_58
                  refine lv_iload_n hx hb dX14_isIdOf_143 rfl (lv_at hl 3 rfl) ?_
                  rw [hQ]
                  exact W.zret (v := v3_55) hx hb hr (jb_nz (hb_v3_55)) (fun t ht hW => ⟨⟨v3_55, (), rfl, ⟨(hb_v3_55), by first | omega | (refine ⟨?_, ?_⟩ <;> (first | omega | rfl | assumption | decide | exact Or.inl rfl | exact Or.inr rfl | (simp only; omega)))⟩, hh_55.rt (M1 := []) [] rfl ht⟩, by rw [ht]; try exact hh_55.1.1, fun q h9 hq => by rw [ht]; try exact hh_55.1.2.1 q h9 hq⟩) hh_55.1.2.2 dX14_isIdOf_144
                · skip
                  have c_58' : v3_55.toInt ≠ 0 := jb_eq_n (rfl) ((by decide)) c_58
                  refine lv_aload_n hx hb dX14_isIdOf_102 rfl (lv_at hl 0 rfl) ?_
                  obtain ⟨v_59, hv_59, hh_60⟩ := hh_55.pin (C := RX14) (T := TX14) (N := 74) hB16 rfl (by decide) hg_r0 (i := 54) (by decide) rfl
                  clear hh_55
                  obtain ⟨waitUnits_61, rfl, hg_waitUnits_61⟩ := hv_59
                  refine j7_read hx hb hown hK (C := RX14) (T := TX14) (N := 74) rfl hly_16_54 hlk_106 (hh_60.at 0 rfl) dX14_isIdOf_103 ?_
                  refine lv_bipush (v := 20) hx hb dX14_isIdOf_106 (by decide) ?_
                  refine lv_iload_n hx hb dX14_isIdOf_108 rfl (lv_at hl 1 rfl) ?_
                  refine lv_imul hx hb dX14_isIdOf_109 ?_
                  refine lv_topi (fun z_62 ez_62 => ?_)
                  have hz_62 : z_62.toInt = 20 * a1.toInt := by rw [ez_62]; exact jb_imul2 ((by decide)) (rfl) (by omega)
                  refine lv_iload hx hb dX14_isIdOf_110 (lv_at hl 4 rfl) ?_
                  refine lv_iadd hx hb dX14_isIdOf_112 ?_
                  refine lv_topi (fun z_63 ez_63 => ?_)
                  have hz_63 : z_63.toInt = z_62.toInt + v4_55.toInt := by rw [ez_63]; exact jb_iadd2 (rfl) (rfl) (by omega)
                  refine j7_iald hx hb hK hh_60 hB101 1 rfl (by decide) hg_waitUnits_61 (x := z_63.toInt) (rfl) (by omega) dX14_isIdOf_113 (fun z_64 (hz_64 : True) => ?_)
                  refine lv_aload_n hx hb dX14_isIdOf_114 rfl (lv_at hl 0 rfl) ?_
                  obtain ⟨v_65, hv_65, hh_66⟩ := hh_60.pin (C := RX14) (T := TX14) (N := 74) hB16 rfl (by decide) hg_r0 (i := 27) (by decide) rfl
                  clear hh_60
                  obtain ⟨pool_67, rfl, hg_pool_67⟩ := hv_65
                  refine j7_read hx hb hown hK (C := RX14) (T := TX14) (N := 74) rfl hly_16_27 hlk_65 (hh_66.at 0 rfl) dX14_isIdOf_115 ?_
                  refine lv_aload_n hx hb dX14_isIdOf_118 rfl (lv_at hl 0 rfl) ?_
                  refine j7_read hx hb hown hK (C := RX14) (T := TX14) (N := 74) rfl hly_16_22 hlk_52 (hh_66.at 4 rfl) dX14_isIdOf_119 ?_
                  refine lv_iload_n hx hb dX14_isIdOf_122 rfl (lv_at hl 2 rfl) ?_
                  refine j7_ialdM hx hb hK hh_66 hB122 1 rfl (by decide) hg_xb (x := a2.toInt) (rfl) (by omega) (j := 0) rfl dX14_isIdOf_123 (fun z_68 ez_68 (hz_68 : 0 ≤ z_68.toInt ∧ z_68.toInt ≤ 3100) => ?_)
                  have hqz_68 : z_68.toInt = jSo fb (a2.toInt) := by unfold jSo; rw [ez_68]
                  refine lv_iload hx hb dX14_isIdOf_124 (lv_at hl 4 rfl) ?_
                  refine lv_iadd hx hb dX14_isIdOf_126 ?_
                  refine lv_topi (fun z_69 ez_69 => ?_)
                  have hz_69 : z_69.toInt = z_68.toInt + v4_55.toInt := by rw [ez_69]; exact jb_iadd2 (rfl) (rfl) (by omega)
                  refine j7_iald hx hb hK hh_66 hB127 1 rfl (by decide) hg_pool_67 (x := z_69.toInt) (rfl) (by omega) dX14_isIdOf_127 (fun z_70 (hz_70 : True) => ?_)
                  refine lv_icmp_ne (tgt := 135) hx hb dX14_isIdOf_128 (by decide) (fun c_71 => ?_) (fun c_71 => ?_)
                  · skip
                    have c_71' : z_64.toInt ≠ z_70.toInt := jb_ne (rfl) (rfl) c_71
                    refine lv_iconst (v := 0) hx hb dX14_isIdOf_135 (by decide) ?_
                    refine lv_istore_n (lv' := [(3, .int 0), (0, .ref r0), (1, .int a1), (2, .int a2), (4, .int v4_55)]) hx hb dX14_isIdOf_136 rfl hl (by decide) rfl (fun ls hl => ?_)
                    obtain ⟨z_72, ez_72⟩ : ∃ y : Int32, y = v4_55 + 1 := ⟨_, rfl⟩
                    refine lv_iinc (v := z_72) (lv' := [(4, .int z_72), (3, .int 0), (0, .ref r0), (1, .int a1), (2, .int a2)]) hx hb dX14_isIdOf_137 hl (k := 4) rfl (by rw [ez_72]; rfl) (by decide) rfl (fun ls hl => ?_)
                    have hz_72 : z_72.toInt = v4_55.toInt + 1 := by rw [ez_72]; exact jb_iadd2 (rfl) (by decide) (by omega)
                    refine lv_goto (tgt := 87) hx hb dX14_isIdOf_140 (by decide) ?_
                    exact L87 0 z_72 _ _ (hh_66.sub (L1 := [(r0, 16, 17, .ref sort_7), (r0, 16, 52, .ref waitString_3), (r0, 16, 22, .ref xb), (r0, 16, 23, .ref xe), (r0, 16, 55, .ref zw)]) [2, 3, 4, 5, 6] rfl (M1 := [(xb, 122, 3100, ca 1, fb), (xe, 123, 3100, ca 1, fe), (zw, 203, 12, ca 1, fl)]) [0, 1, 2] rfl (I1 := []) [] rfl) (Or.inl rfl) (by first | omega | (refine ⟨?_, ?_, ?_, ?_, ?_⟩ <;> (first | omega | rfl | assumption | decide | exact Or.inl rfl | exact Or.inr rfl | (simp only; omega)))) (by omega) _ (lv_sub hl [2, 3, 4, 1, 0] rfl)
                  · skip
                    have c_71' : z_64.toInt = z_70.toInt := jb_ne_n (rfl) (rfl) c_71
                    refine lv_iconst (v := 1) hx hb dX14_isIdOf_131 (by decide) ?_
                    refine lv_goto (tgt := 136) hx hb dX14_isIdOf_132 (by decide) ?_
                    refine lv_istore_n (lv' := [(3, .int 1), (0, .ref r0), (1, .int a1), (2, .int a2), (4, .int v4_55)]) hx hb dX14_isIdOf_136 rfl hl (by decide) rfl (fun ls hl => ?_)
                    obtain ⟨z_73, ez_73⟩ : ∃ y : Int32, y = v4_55 + 1 := ⟨_, rfl⟩
                    refine lv_iinc (v := z_73) (lv' := [(4, .int z_73), (3, .int 1), (0, .ref r0), (1, .int a1), (2, .int a2)]) hx hb dX14_isIdOf_137 hl (k := 4) rfl (by rw [ez_73]; rfl) (by decide) rfl (fun ls hl => ?_)
                    have hz_73 : z_73.toInt = v4_55.toInt + 1 := by rw [ez_73]; exact jb_iadd2 (rfl) (by decide) (by omega)
                    refine lv_goto (tgt := 87) hx hb dX14_isIdOf_140 (by decide) ?_
                    exact L87 1 z_73 _ _ (hh_66.sub (L1 := [(r0, 16, 17, .ref sort_7), (r0, 16, 52, .ref waitString_3), (r0, 16, 22, .ref xb), (r0, 16, 23, .ref xe), (r0, 16, 55, .ref zw)]) [2, 3, 4, 5, 6] rfl (M1 := [(xb, 122, 3100, ca 1, fb), (xe, 123, 3100, ca 1, fe), (zw, 203, 12, ca 1, fl)]) [0, 1, 2] rfl (I1 := []) [] rfl) (Or.inr rfl) (by first | omega | (refine ⟨?_, ?_, ?_, ?_, ?_⟩ <;> (first | omega | rfl | assumption | decide | exact Or.inl rfl | exact Or.inr rfl | (simp only; omega)))) (by omega) _ (lv_sub hl [2, 3, 4, 1, 0] rfl)
          exact L87 (20 - (0 : Int32).toInt : Int).toNat.succ w0_54 0 _ _ hh_54 (hb_w0_54) (by first | omega | (refine ⟨?_, ?_, ?_, ?_, ?_⟩ <;> (first | omega | rfl | assumption | decide | exact Or.inl rfl | exact Or.inr rfl | (simp only; omega)))) (by omega) _ (lv_sub hl [2, 3, 4, 1, 0] rfl)
        refine lv_icmp_ne (tgt := 82) hx hb dX14_isIdOf_75 (by decide) (fun c_74 => ?_) (fun c_74 => ?_)
        · skip
          have c_74' : z_50.toInt ≠ z_53.toInt := jb_ne (rfl) (rfl) c_74
          refine lv_iconst (v := 0) hx hb dX14_isIdOf_82 (by decide) ?_
          exact C83 0 _ _ hh_6 (Or.inl rfl) (by first | omega | (refine ⟨?_, ?_, ?_⟩ <;> (first | omega | rfl | assumption | decide | exact Or.inl rfl | exact Or.inr rfl | (simp only; omega)))) _ (lv_sub hl [0, 1, 2] rfl)
        · skip
          have c_74' : z_50.toInt = z_53.toInt := jb_ne_n (rfl) (rfl) c_74
          refine lv_iconst (v := 1) hx hb dX14_isIdOf_78 (by decide) ?_
          refine lv_goto (tgt := 83) hx hb dX14_isIdOf_79 (by decide) ?_
          exact C83 1 _ _ hh_6 (Or.inr rfl) (by first | omega | (refine ⟨?_, ?_, ?_⟩ <;> (first | omega | rfl | assumption | decide | exact Or.inl rfl | exact Or.inr rfl | (simp only; omega)))) _ (lv_sub hl [0, 1, 2] rfl)
      · skip
        have c_49' : z_48.toInt = 0 := jb_ne_n (rfl) ((by decide)) c_49
        refine lv_aload_n hx hb dX14_isIdOf_35 rfl (lv_at hl 0 rfl) ?_
        obtain ⟨v_75, hv_75, hh_76⟩ := hh_6.pin (C := RX14) (T := TX14) (N := 74) hB16 rfl (by decide) hg_r0 (i := 53) (by decide) rfl
        clear hh_6
        obtain ⟨waitInt_77, rfl, hg_waitInt_77⟩ := hv_75
        refine j7_read hx hb hown hK (C := RX14) (T := TX14) (N := 74) rfl hly_16_53 hlk_103 (hh_76.at 0 rfl) dX14_isIdOf_36 ?_
        refine lv_iload_n hx hb dX14_isIdOf_39 rfl (lv_at hl 1 rfl) ?_
        refine j7_iald hx hb hK hh_76 hB101 1 rfl (by decide) hg_waitInt_77 (x := a1.toInt) (rfl) (by omega) dX14_isIdOf_40 (fun z_78 (hz_78 : True) => ?_)
        refine lv_aload_n hx hb dX14_isIdOf_41 rfl (lv_at hl 0 rfl) ?_
        obtain ⟨v_79, hv_79, hh_80⟩ := hh_76.pin (C := RX14) (T := TX14) (N := 74) hB16 rfl (by decide) hg_r0 (i := 25) (by decide) rfl
        clear hh_76
        obtain ⟨ints_81, rfl, hg_ints_81⟩ := hv_79
        refine j7_read hx hb hown hK (C := RX14) (T := TX14) (N := 74) rfl hly_16_25 hlk_62 (hh_80.at 0 rfl) dX14_isIdOf_42 ?_
        refine lv_iload_n hx hb dX14_isIdOf_45 rfl (lv_at hl 2 rfl) ?_
        refine j7_iald hx hb hK hh_80 hB125 1 rfl (by decide) hg_ints_81 (x := a2.toInt) (rfl) (by omega) dX14_isIdOf_46 (fun z_82 (hz_82 : True) => ?_)
        refine lv_icmp_ne (tgt := 54) hx hb dX14_isIdOf_47 (by decide) (fun c_83 => ?_) (fun c_83 => ?_)
        · skip
          have c_83' : z_78.toInt ≠ z_82.toInt := jb_ne (rfl) (rfl) c_83
          refine lv_iconst (v := 0) hx hb dX14_isIdOf_54 (by decide) ?_
          rw [hQ]
          exact W.zret (v := 0) hx hb hr (jb_nz (Or.inl rfl)) (fun t ht hW => ⟨⟨0, (), rfl, ⟨(Or.inl rfl), by first | omega | (refine ⟨?_, ?_⟩ <;> (first | omega | rfl | assumption | decide | exact Or.inl rfl | exact Or.inr rfl | (simp only; omega)))⟩, hh_80.rt (M1 := []) [] rfl ht⟩, by rw [ht]; try exact hh_80.1.1, fun q h9 hq => by rw [ht]; try exact hh_80.1.2.1 q h9 hq⟩) hh_80.1.2.2 dX14_isIdOf_55
        · skip
          have c_83' : z_78.toInt = z_82.toInt := jb_ne_n (rfl) (rfl) c_83
          refine lv_iconst (v := 1) hx hb dX14_isIdOf_50 (by decide) ?_
          refine lv_goto (tgt := 55) hx hb dX14_isIdOf_51 (by decide) ?_
          rw [hQ]
          exact W.zret (v := 1) hx hb hr (jb_nz (Or.inr rfl)) (fun t ht hW => ⟨⟨1, (), rfl, ⟨(Or.inr rfl), by first | omega | (refine ⟨?_, ?_⟩ <;> (first | omega | rfl | assumption | decide | exact Or.inl rfl | exact Or.inr rfl | (simp only; omega)))⟩, hh_80.rt (M1 := []) [] rfl ht⟩, by rw [ht]; try exact hh_80.1.1, fun q h9 hq => by rw [ht]; try exact hh_80.1.2.1 q h9 hq⟩) hh_80.1.2.2 dX14_isIdOf_55
    · skip
      have c_47' : z_4.toInt ≠ 1 := jb_eq_n (rfl) ((by decide)) c_47
      refine lv_iconst (v := 0) hx hb dX14_isIdOf_24 (by decide) ?_
      rw [hQ]
      exact W.zret (v := 0) hx hb hr (jb_nz (Or.inl rfl)) (fun t ht hW => ⟨⟨0, (), rfl, ⟨(Or.inl rfl), by first | omega | (refine ⟨?_, ?_⟩ <;> (first | omega | rfl | assumption | decide | exact Or.inl rfl | exact Or.inr rfl | (simp only; omega)))⟩, hh_6.rt (M1 := []) [] rfl ht⟩, by rw [ht]; try exact hh_6.1.1, fun q h9 hq => by rw [ht]; try exact hh_6.1.2.1 q h9 hq⟩) hh_6.1.2.2 dX14_isIdOf_25
