theorem dX1_copyText_0 : decode cX1_copyText 0 = .ok (.aload_n 1, 1) := by decide +kernel
theorem dX1_copyText_1 : decode cX1_copyText 1 = .ok (.getfield 15, 3) := by decide +kernel
theorem dX1_copyText_4 : decode cX1_copyText 4 = .ok (.iconst 0, 1) := by decide +kernel
theorem dX1_copyText_5 : decode cX1_copyText 5 = .ok (.aload_n 0, 1) := by decide +kernel
theorem dX1_copyText_6 : decode cX1_copyText 6 = .ok (.getfield 15, 3) := by decide +kernel
theorem dX1_copyText_9 : decode cX1_copyText 9 = .ok (.iconst 0, 1) := by decide +kernel
theorem dX1_copyText_10 : decode cX1_copyText 10 = .ok (.sipush 1500, 3) := by decide +kernel
theorem dX1_copyText_13 : decode cX1_copyText 13 = .ok (.invokestatic 36, 3) := by decide +kernel
theorem dX1_copyText_16 : decode cX1_copyText 16 = .ok (.aload_n 0, 1) := by decide +kernel
theorem dX1_copyText_17 : decode cX1_copyText 17 = .ok (.aload_n 1, 1) := by decide +kernel
theorem dX1_copyText_18 : decode cX1_copyText 18 = .ok (.getfield 42, 3) := by decide +kernel
theorem dX1_copyText_21 : decode cX1_copyText 21 = .ok (.putfield 42, 3) := by decide +kernel
theorem dX1_copyText_24 : decode cX1_copyText 24 = .ok (.return_, 1) := by decide +kernel
theorem dX1_replace_0 : decode cX1_replace 0 = .ok (.aload_n 3, 1) := by decide +kernel
theorem dX1_replace_1 : decode cX1_replace 1 = .ok (.iload 4, 2) := by decide +kernel
theorem dX1_replace_3 : decode cX1_replace 3 = .ok (.invokevirtual 46, 3) := by decide +kernel
theorem dX1_replace_6 : decode cX1_replace 6 = .ok (.istore 5, 2) := by decide +kernel
theorem dX1_replace_8 : decode cX1_replace 8 = .ok (.aload_n 0, 1) := by decide +kernel
theorem dX1_replace_9 : decode cX1_replace 9 = .ok (.getfield 42, 3) := by decide +kernel
theorem dX1_replace_12 : decode cX1_replace 12 = .ok (.iload_n 2, 1) := by decide +kernel
theorem dX1_replace_13 : decode cX1_replace 13 = .ok (.isub, 1) := by decide +kernel
theorem dX1_replace_14 : decode cX1_replace 14 = .ok (.istore 6, 2) := by decide +kernel
theorem dX1_replace_16 : decode cX1_replace 16 = .ok (.iload_n 1, 1) := by decide +kernel
theorem dX1_replace_17 : decode cX1_replace 17 = .ok (.ifCond .lt 39, 3) := by decide +kernel
theorem dX1_replace_20 : decode cX1_replace 20 = .ok (.iload_n 2, 1) := by decide +kernel
theorem dX1_replace_21 : decode cX1_replace 21 = .ok (.iload_n 1, 1) := by decide +kernel
theorem dX1_replace_22 : decode cX1_replace 22 = .ok (.if_icmp .lt 34, 3) := by decide +kernel
theorem dX1_replace_25 : decode cX1_replace 25 = .ok (.iload 6, 2) := by decide +kernel
theorem dX1_replace_27 : decode cX1_replace 27 = .ok (.ifCond .lt 29, 3) := by decide +kernel
theorem dX1_replace_30 : decode cX1_replace 30 = .ok (.iload 5, 2) := by decide +kernel
theorem dX1_replace_32 : decode cX1_replace 32 = .ok (.ifCond .lt 24, 3) := by decide +kernel
theorem dX1_replace_35 : decode cX1_replace 35 = .ok (.iload 5, 2) := by decide +kernel
theorem dX1_replace_37 : decode cX1_replace 37 = .ok (.sipush 1500, 3) := by decide +kernel
theorem dX1_replace_40 : decode cX1_replace 40 = .ok (.if_icmp .gt 16, 3) := by decide +kernel
theorem dX1_replace_43 : decode cX1_replace 43 = .ok (.iload_n 1, 1) := by decide +kernel
theorem dX1_replace_44 : decode cX1_replace 44 = .ok (.iload 5, 2) := by decide +kernel
theorem dX1_replace_46 : decode cX1_replace 46 = .ok (.iadd, 1) := by decide +kernel
theorem dX1_replace_47 : decode cX1_replace 47 = .ok (.iload 6, 2) := by decide +kernel
theorem dX1_replace_49 : decode cX1_replace 49 = .ok (.iadd, 1) := by decide +kernel
theorem dX1_replace_50 : decode cX1_replace 50 = .ok (.sipush 1500, 3) := by decide +kernel
theorem dX1_replace_53 : decode cX1_replace 53 = .ok (.if_icmp .le 5, 3) := by decide +kernel
theorem dX1_replace_56 : decode cX1_replace 56 = .ok (.iconst 0, 1) := by decide +kernel
theorem dX1_replace_57 : decode cX1_replace 57 = .ok (.ireturn, 1) := by decide +kernel
theorem dX1_replace_58 : decode cX1_replace 58 = .ok (.aload_n 0, 1) := by decide +kernel
theorem dX1_replace_59 : decode cX1_replace 59 = .ok (.getfield 15, 3) := by decide +kernel
theorem dX1_replace_62 : decode cX1_replace 62 = .ok (.iload_n 2, 1) := by decide +kernel
theorem dX1_replace_63 : decode cX1_replace 63 = .ok (.aload_n 0, 1) := by decide +kernel
theorem dX1_replace_64 : decode cX1_replace 64 = .ok (.getfield 15, 3) := by decide +kernel
theorem dX1_replace_67 : decode cX1_replace 67 = .ok (.iload_n 1, 1) := by decide +kernel
theorem dX1_replace_68 : decode cX1_replace 68 = .ok (.iload 5, 2) := by decide +kernel
theorem dX1_replace_70 : decode cX1_replace 70 = .ok (.iadd, 1) := by decide +kernel
theorem dX1_replace_71 : decode cX1_replace 71 = .ok (.iload 6, 2) := by decide +kernel
theorem dX1_replace_73 : decode cX1_replace 73 = .ok (.invokestatic 36, 3) := by decide +kernel
theorem dX1_replace_76 : decode cX1_replace 76 = .ok (.iconst 0, 1) := by decide +kernel
theorem dX1_replace_77 : decode cX1_replace 77 = .ok (.istore 7, 2) := by decide +kernel
theorem dX1_replace_79 : decode cX1_replace 79 = .ok (.iload 7, 2) := by decide +kernel
theorem dX1_replace_81 : decode cX1_replace 81 = .ok (.iload 5, 2) := by decide +kernel
theorem dX1_replace_83 : decode cX1_replace 83 = .ok (.if_icmp .ge 26, 3) := by decide +kernel
theorem dX1_replace_86 : decode cX1_replace 86 = .ok (.aload_n 0, 1) := by decide +kernel
theorem dX1_replace_87 : decode cX1_replace 87 = .ok (.getfield 15, 3) := by decide +kernel
theorem dX1_replace_90 : decode cX1_replace 90 = .ok (.iload_n 1, 1) := by decide +kernel
theorem dX1_replace_91 : decode cX1_replace 91 = .ok (.iload 7, 2) := by decide +kernel
theorem dX1_replace_93 : decode cX1_replace 93 = .ok (.iadd, 1) := by decide +kernel
theorem dX1_replace_94 : decode cX1_replace 94 = .ok (.aload_n 3, 1) := by decide +kernel
theorem dX1_replace_95 : decode cX1_replace 95 = .ok (.iload 4, 2) := by decide +kernel
theorem dX1_replace_97 : decode cX1_replace 97 = .ok (.iload 7, 2) := by decide +kernel
theorem dX1_replace_99 : decode cX1_replace 99 = .ok (.invokevirtual 52, 3) := by decide +kernel
theorem dX1_replace_102 : decode cX1_replace 102 = .ok (.iastore, 1) := by decide +kernel
theorem dX1_replace_103 : decode cX1_replace 103 = .ok (.iinc 7 1, 3) := by decide +kernel
theorem dX1_replace_106 : decode cX1_replace 106 = .ok (.goto (-27), 3) := by decide +kernel
theorem dX1_replace_109 : decode cX1_replace 109 = .ok (.aload_n 0, 1) := by decide +kernel
theorem dX1_replace_110 : decode cX1_replace 110 = .ok (.iload_n 1, 1) := by decide +kernel
theorem dX1_replace_111 : decode cX1_replace 111 = .ok (.iload 5, 2) := by decide +kernel
theorem dX1_replace_113 : decode cX1_replace 113 = .ok (.iadd, 1) := by decide +kernel
theorem dX1_replace_114 : decode cX1_replace 114 = .ok (.iload 6, 2) := by decide +kernel
theorem dX1_replace_116 : decode cX1_replace 116 = .ok (.iadd, 1) := by decide +kernel
theorem dX1_replace_117 : decode cX1_replace 117 = .ok (.putfield 42, 3) := by decide +kernel
theorem dX1_replace_120 : decode cX1_replace 120 = .ok (.iconst 1, 1) := by decide +kernel
theorem dX1_replace_121 : decode cX1_replace 121 = .ok (.ireturn, 1) := by decide +kernel
theorem dJ7_fill_53178_0 : decode cJ7_fill_53178 0 = .ok (.iconst 0, 1) := by decide +kernel
theorem dJ7_fill_53178_1 : decode cJ7_fill_53178 1 = .ok (.istore_n 2, 1) := by decide +kernel
theorem dJ7_fill_53178_2 : decode cJ7_fill_53178 2 = .ok (.aload_n 0, 1) := by decide +kernel
theorem dJ7_fill_53178_3 : decode cJ7_fill_53178 3 = .ok (.arraylength, 1) := by decide +kernel
theorem dJ7_fill_53178_4 : decode cJ7_fill_53178 4 = .ok (.istore_n 3, 1) := by decide +kernel
theorem dJ7_fill_53178_5 : decode cJ7_fill_53178 5 = .ok (.iload_n 2, 1) := by decide +kernel
theorem dJ7_fill_53178_6 : decode cJ7_fill_53178 6 = .ok (.iload_n 3, 1) := by decide +kernel
theorem dJ7_fill_53178_7 : decode cJ7_fill_53178 7 = .ok (.if_icmp .ge 13, 3) := by decide +kernel
theorem dJ7_fill_53178_10 : decode cJ7_fill_53178 10 = .ok (.aload_n 0, 1) := by decide +kernel
theorem dJ7_fill_53178_11 : decode cJ7_fill_53178 11 = .ok (.iload_n 2, 1) := by decide +kernel
theorem dJ7_fill_53178_12 : decode cJ7_fill_53178 12 = .ok (.iload_n 1, 1) := by decide +kernel
theorem dJ7_fill_53178_13 : decode cJ7_fill_53178 13 = .ok (.iastore, 1) := by decide +kernel
theorem dJ7_fill_53178_14 : decode cJ7_fill_53178 14 = .ok (.iinc 2 1, 3) := by decide +kernel
theorem dJ7_fill_53178_17 : decode cJ7_fill_53178 17 = .ok (.goto (-12), 3) := by decide +kernel
theorem dJ7_fill_53178_20 : decode cJ7_fill_53178 20 = .ok (.return_, 1) := by decide +kernel
def EX1_copyText : List (Nat × Nat) := [(3, 3), (101, 0)]
def EX1_replace : List (Nat × Nat) := [(3, 3), (101, 0)]
def EJ7_fill_53178 : List (Nat × Nat) := [(101, 0)]
set_option maxHeartbeats 4000000 in
set_option maxRecDepth 20000 in
theorem uX1_copyText (l : Launch) (dC : Nat → ClassId) (dI : Nat → Nat → Nat) (ca : Nat → ClassId) (base : Nat) (B : jF) (hB : jBok B) (hAp : jAp (dC, dI)) (hB3 : ∀ n G a H, B 3 n G a H ↔ jOb (dC, dI) 3 17 (F3 n G) a H) (hB101 : ∀ n G a H, B 101 n G a H ↔ jAr (dC, dI) (ca 1) (fun j z => True) n a H) (G0 : jT) (H0 : Heap) (r0 : Nat) (r1 : Nat) (n0 : Nat) (n1 : Nat) : Met l yX1_copyText (jw yX1_copyText cX1_copyText 2 none) ({ frames := 1, cells := 0, slots := 0, locals := 61 }) (va_Pc [.ref r0, .ref r1] (fun U => U.heap = H0 ∧ jX B base G0 [] H0 ∧ jG dC dI ca base U ∧ G0 r0 = some (3, n0) ∧ G0 r1 = some (3, n1) ∧ jP (dC, dI) G0 H0 [] ∧ True)) (va_Qv (S := Unit) (fun u => True) (fun u t => jRt (dC, dI) B base G0 EX1_copyText H0 [] t.heap) (jA base)) 0 0 (jA base) := by
  refine Met.ofW (cc := cX1_copyText) (maxL := 2) (ret := none) (by decide) rfl ?_
  intro p e s m args below meth c s₁ Bd hml hv
  obtain ⟨rfl, hH0, hX, hG, hg_r0, hg_r1, hP0, hp0⟩ := hv
  have hK := hG.1
  have hx := Bd.exec
  have hb := Bd.bytes
  have hr := Bd.returns
  have hts := atoms_spec (ws := (jw yX1_copyText cX1_copyText 2 none)) Bd.pre
  have htw : ∀ w ∈ jWl, w.before _ s = true := fun w h => hts w (List.mem_cons_of_mem _ h)
  have hown : s.vm.findClass RX1 = some m.cls := findClass_of_methodNamed Bd.named
  have hlocks := Bd.notSynchronized
  obtain ⟨Q, hQ⟩ : ∃ Q, Q = MQ below (va_Qv (S := Unit) (fun u => True) (fun u t => jRt (dC, dI) B base G0 EX1_copyText H0 [] t.heap) (jA base)) ([.ref r0, .ref r1] : List Value).toArray s 0 0 (jA base) := ⟨_, rfl⟩
  rw [← hQ]
  have hl := lv_entry ([.ref r0, .ref r1]) (n := 2) (Nat.le_of_ble_eq_true rfl)
  rw [lg_entry_eq]
  generalize (lg_sl ([.ref r0, .ref r1]) ++ List.replicate (2 - (lg_sl ([.ref r0, .ref r1])).length) Slot.unset).toArray = ls at hl ⊢
  have hl : lv_has ls 2 [(0, .ref r0), (1, .ref r1)] := hl
  generalize hR : (headSpec (jw yX1_copyText cX1_copyText 2 none) ({ frames := 1, cells := 0, slots := 0, locals := 61 })).room = R
  subst hH0
  have hh : jSt (dC, dI) B base G0 G0 EX1_copyText s.heap 0 0 [] [] [] s.heap [] := jSt.start hX hP0 jMc.nil jIs.nil
  clear hX hP0
  have hk0 : (0 : Int32).toInt = 0 := by decide
  have hk1 : (1 : Int32).toInt = 1 := by decide
  have hk1500 : (1500 : Int32).toInt = 1500 := by decide
  have hly_3_2 := htw (u_lay RX1 TX1 2) (jWc_wsX10 _ (u_in_lay (by decide)))
  have hly_3_3 := htw (u_lay RX1 TX1 3) (jWc_wsX10 _ (u_in_lay (by decide)))
  have hlk_15 := (htw (.fieldLink RX1 15 "ProofServer$Document" "text" "[I") (jWr_10 _ (List.mem_of_getElem? (i := 6) rfl)))
  have hlk_42 := (htw (.fieldLink RX1 42 "ProofServer$Document" "length" "I") (jWr_29 _ (List.mem_of_getElem? (i := 5) rfl)))
  refine lv_aload_n hx hb dX1_copyText_0 rfl (lv_at hl 1 rfl) ?_
  obtain ⟨v_1, hv_1, hh_2⟩ := hh.pin (C := RX1) (T := TX1) (N := 17) hB3 rfl (by decide) hg_r1 (i := 2) (by decide) rfl
  clear hh
  obtain ⟨text_3, rfl, hg_text_3⟩ := hv_1
  refine j7_read hx hb hown hK (C := RX1) (T := TX1) (N := 17) rfl hly_3_2 hlk_15 (hh_2.at 0 rfl) dX1_copyText_1 ?_
  refine lv_iconst (v := 0) hx hb dX1_copyText_4 (by decide) ?_
  refine lv_aload_n hx hb dX1_copyText_5 rfl (lv_at hl 0 rfl) ?_
  obtain ⟨v_4, hv_4, hh_5⟩ := hh_2.pin (C := RX1) (T := TX1) (N := 17) hB3 rfl (by decide) hg_r0 (i := 2) (by decide) rfl
  clear hh_2
  obtain ⟨text_6, rfl, hg_text_6⟩ := hv_4
  refine j7_read hx hb hown hK (C := RX1) (T := TX1) (N := 17) rfl hly_3_2 hlk_15 (hh_5.at 0 rfl) dX1_copyText_6 ?_
  refine lv_iconst (v := 0) hx hb dX1_copyText_9 (by decide) ?_
  refine lv_sipush (v := 1500) hx hb dX1_copyText_10 (by decide) ?_
  refine j7_acopyi hx hb (by rw [hml]; exact hl.1.symm) hown (htw (.methodLink RX1 36 arraycopyName) (jWr_35 _ (List.mem_of_getElem? (i := 23) rfl))) (htw (.native arraycopyName) (jWr_16 _ (List.mem_of_getElem? (i := 19) rfl))) (htw (.static arraycopyName) (jWr_16 _ (List.mem_of_getElem? (i := 20) rfl))) (htw (.initialized "java/lang/System") (jWr_16 _ (List.mem_of_getElem? (i := 21) rfl))) hK hh_5 hB hB101 hB101 1 rfl (by decide) (by decide) (by decide) rfl rfl rfl hg_text_3 hg_text_6 (x := 0) (y := 0) (z := 1500) (by decide) (by decide) (by decide) (by omega) (fun _ _ _ => trivial) (by rw [← hR]; exact Nat.le_of_ble_eq_true rfl) (by rw [← hR]; exact Nat.le_of_ble_eq_true rfl) dX1_copyText_13 (fun H_7 locs_7 hr_7 hh_7 => ?_)
  clear hr_7
  clear hh_5
  refine lv_aload_n hx hb dX1_copyText_16 rfl (lv_at hl 0 rfl) ?_
  refine lv_aload_n hx hb dX1_copyText_17 rfl (lv_at hl 1 rfl) ?_
  obtain ⟨v_8, hv_8, hh_9⟩ := hh_7.pin (C := RX1) (T := TX1) (N := 17) hB3 rfl (by decide) hg_r1 (i := 3) (by decide) rfl
  clear hh_7
  obtain ⟨length_10, rfl, hlolength_10, hhilength_10⟩ := hv_8
  refine j7_read hx hb hown hK (C := RX1) (T := TX1) (N := 17) rfl hly_3_3 hlk_42 (hh_9.at 0 rfl) dX1_copyText_18 ?_
  refine j7_put hx hb hown hK hh_9 hB hAp hB3 (C := RX1) (T := TX1) (N := 17) rfl (by decide) hg_r0 (i := 3) (by decide) hly_3_3 rfl hlk_42 rfl (ty := .int) (v := .int length_10) (by decide +kernel) rfl rfl (⟨_, rfl, by omega, by omega⟩) rfl (L1 := [(r0, 3, 2, .ref text_6), (r1, 3, 2, .ref text_3)]) [1, 2] rfl rfl rfl dX1_copyText_21 (fun H_11 locs_11 hh_11 => ?_)
  clear hh_9
  rw [hQ]
  exact W.vret hx hb hr (fun t ht hW => ⟨⟨(), rfl, trivial, hh_11.rt (M1 := []) [] rfl ht⟩, by rw [ht]; try exact hh_11.1.1, fun q h9 hq => by rw [ht]; try exact hh_11.1.2.1 q h9 hq⟩) hh_11.1.2.2 dX1_copyText_24
set_option maxHeartbeats 4000000 in
set_option maxRecDepth 20000 in
theorem uX1_replace (l : Launch) (dC : Nat → ClassId) (dI : Nat → Nat → Nat) (ca : Nat → ClassId) (base : Nat) (B : jF) (hB : jBok B) (hAp : jAp (dC, dI)) (hB3 : ∀ n G a H, B 3 n G a H ↔ jOb (dC, dI) 3 17 (F3 n G) a H) (hB6 : ∀ n G a H, B 6 n G a H ↔ jOb (dC, dI) 6 12 (F6 n G) a H) (hB101 : ∀ n G a H, B 101 n G a H ↔ jAr (dC, dI) (ca 1) (fun j z => True) n a H) (hB140 : ∀ n G a H, B 140 n G a H ↔ jAr (dC, dI) (ca 1) (fun j z => True) n a H) (hB141 : ∀ n G a H, B 141 n G a H ↔ jAr (dC, dI) (ca 1) (fun j z => True) n a H) (hB142 : ∀ n G a H, B 142 n G a H ↔ jAr (dC, dI) (ca 1) (fun j z => True) n a H) (hB146 : ∀ n G a H, B 146 n G a H ↔ jAr (dC, dI) (ca 1) (fun j z => True) n a H) (G0 : jT) (H0 : Heap) (r0 : Nat) (a1 : Int32) (a2 : Int32) (r3 : Nat) (a4 : Int32) (n0 : Nat) : Met l yX1_replace (jw yX1_replace cX1_replace 8 (some .boolean)) ({ frames := 2, cells := 0, slots := 0, locals := 61 }) (va_Pc [.ref r0, .int a1, .int a2, .ref r3, .int a4] (fun U => U.heap = H0 ∧ jX B base G0 [] H0 ∧ jG dC dI ca base U ∧ G0 r0 = some (3, n0) ∧ G0 r3 = some (6, 0) ∧ jP (dC, dI) G0 H0 [] ∧ 0 ≤ a1.toInt ∧ a1.toInt ≤ 1500 ∧ 0 ≤ a2.toInt ∧ a2.toInt ≤ 1500)) (va_Qi (S := Unit) (fun r u => (r = 0 ∨ r = 1) ∧ (True)) (fun u t => jRt (dC, dI) B base G0 EX1_replace H0 [] t.heap) (jA base)) 0 0 (jA base) := by
  refine Met.ofW (cc := cX1_replace) (maxL := 8) (ret := (some .boolean)) (by decide) rfl ?_
  intro p e s m args below meth c s₁ Bd hml hv
  obtain ⟨rfl, hH0, hX, hG, hg_r0, hg_r3, hP0, hp0, hp1, hp2, hp3⟩ := hv
  have hK := hG.1
  have hx := Bd.exec
  have hb := Bd.bytes
  have hr := Bd.returns
  have hts := atoms_spec (ws := (jw yX1_replace cX1_replace 8 (some .boolean))) Bd.pre
  have htw : ∀ w ∈ jWl, w.before _ s = true := fun w h => hts w (List.mem_cons_of_mem _ h)
  have hown : s.vm.findClass RX1 = some m.cls := findClass_of_methodNamed Bd.named
  have hlocks := Bd.notSynchronized
  obtain ⟨Q, hQ⟩ : ∃ Q, Q = MQ below (va_Qi (S := Unit) (fun r u => (r = 0 ∨ r = 1) ∧ (True)) (fun u t => jRt (dC, dI) B base G0 EX1_replace H0 [] t.heap) (jA base)) ([.ref r0, .int a1, .int a2, .ref r3, .int a4] : List Value).toArray s 0 0 (jA base) := ⟨_, rfl⟩
  rw [← hQ]
  have hl := lv_entry ([.ref r0, .int a1, .int a2, .ref r3, .int a4]) (n := 8) (Nat.le_of_ble_eq_true rfl)
  rw [lg_entry_eq]
  generalize (lg_sl ([.ref r0, .int a1, .int a2, .ref r3, .int a4]) ++ List.replicate (8 - (lg_sl ([.ref r0, .int a1, .int a2, .ref r3, .int a4])).length) Slot.unset).toArray = ls at hl ⊢
  have hl : lv_has ls 8 [(0, .ref r0), (1, .int a1), (2, .int a2), (3, .ref r3), (4, .int a4)] := hl
  generalize hR : (headSpec (jw yX1_replace cX1_replace 8 (some .boolean)) ({ frames := 2, cells := 0, slots := 0, locals := 61 })).room = R
  subst hH0
  have hh : jSt (dC, dI) B base G0 G0 EX1_replace s.heap 0 0 [] [] [] s.heap [] := jSt.start hX hP0 jMc.nil jIs.nil
  clear hX hP0
  have hk0 : (0 : Int32).toInt = 0 := by decide
  have hk1 : (1 : Int32).toInt = 1 := by decide
  have hk1500 : (1500 : Int32).toInt = 1500 := by decide
  have hly_3_2 := htw (u_lay RX1 TX1 2) (jWc_wsX10 _ (u_in_lay (by decide)))
  have hly_3_3 := htw (u_lay RX1 TX1 3) (jWc_wsX10 _ (u_in_lay (by decide)))
  have hlk_42 := (htw (.fieldLink RX1 42 "ProofServer$Document" "length" "I") (jWr_29 _ (List.mem_of_getElem? (i := 5) rfl)))
  have hlk_15 := (htw (.fieldLink RX1 15 "ProofServer$Document" "text" "[I") (jWr_10 _ (List.mem_of_getElem? (i := 6) rfl)))
  have hrg_a1 := jb_rng a1
  have hrg_a2 := jb_rng a2
  have hrg_a4 := jb_rng a4
  refine lv_aload_n hx hb dX1_replace_0 rfl (lv_at hl 3 rfl) ?_
  refine lv_iload hx hb dX1_replace_1 (lv_at hl 4 rfl) ?_
  refine va_calli (A0 := jA base) (H0 := s.heap) (va_runV (As := [.int a4]) (rest := []) ⟨hx, hb, hml, hown, hts⟩ (uX4_sizeOf l dC dI ca base B hB hAp hB6 hB142 G0 s.heap r3 a4) (cwV 1 hts (jgV (jWr_36 _ (List.mem_of_getElem? (i := 0) rfl)) (jWr_24 _ (List.mem_of_getElem? (i := 7) rfl)) (jWr_24 _ (List.mem_of_getElem? (i := 8) rfl)) (jWr_1 _ (List.mem_of_getElem? (i := 22) rfl)) (jWr_24 _ (List.mem_of_getElem? (i := 9) rfl))) rfl rfl rfl (by decide +kernel) ⟨by rw [← hR]; exact Nat.le_of_ble_eq_true rfl, by rw [← hR]; exact Nat.le_of_ble_eq_true rfl⟩) ⟨fun a U g mk q => by obtain ⟨q0, q1, q2, qK, q10, q11, q12⟩ := q; exact ⟨q0, q1, q2, jG.calling g mk a qK, q10, q11, q12⟩, hh.recv (C := RX4) (T := TX4) (N := 12) hB6 rfl (by decide) hg_r3 hK, fun U hU hW => ⟨rfl, hU, hh.2.1, hG.step hW hU hh.1, hg_r3, jP.nil, trivial⟩⟩ rfl rfl hl.1 rfl (lv_room (Nat.le_of_ble_eq_true rfl)) dX1_replace_3 ⟨Nat.zero_le _, Nat.zero_le _⟩) hh.1 (fun q _ h => h) (fun q h => h) (fun r_2 u_1 t_1 H_1 locs_1 ht_1 hvm_1 hr_2 hb_1 hz_1 hk_1 hS_1 => ?_)
  rw [ht_1] at hb_1
  obtain ⟨hb_11, hb_12, hb_13, hb_14, hb_15⟩ := hb_1
  have hh_1 : jSt (dC, dI) B base G0 G0 EX1_replace s.heap 0 0 [] [] [] H_1 locs_1 := ((hh.call hb_11 hb_12 hb_13 hb_14 hS_1 rfl (L1 := []) [] rfl rfl (M1 := []) [] rfl rfl (I1 := []) [] rfl rfl).more hb_15)
  clear hh ht_1 hvm_1 hz_1 hk_1 hS_1 hb_11 hb_12 hb_13 hb_14 hb_15
  refine lv_istore (lv' := [(5, .int r_2), (0, .ref r0), (1, .int a1), (2, .int a2), (3, .ref r3), (4, .int a4)]) hx hb dX1_replace_6 hl (by decide) rfl (fun ls hl => ?_)
  refine lv_aload_n hx hb dX1_replace_8 rfl (lv_at hl 1 rfl) ?_
  obtain ⟨v_3, hv_3, hh_4⟩ := hh_1.pin (C := RX1) (T := TX1) (N := 17) hB3 rfl (by decide) hg_r0 (i := 3) (by decide) rfl
  clear hh_1
  obtain ⟨length_5, rfl, hlolength_5, hhilength_5⟩ := hv_3
  refine j7_read hx hb hown hK (C := RX1) (T := TX1) (N := 17) rfl hly_3_3 hlk_42 (hh_4.at 0 rfl) dX1_replace_9 ?_
  refine lv_iload_n hx hb dX1_replace_12 rfl (lv_at hl 3 rfl) ?_
  refine lv_isub hx hb dX1_replace_13 ?_
  refine lv_topi (fun z_6 ez_6 => ?_)
  have hz_6 : z_6.toInt = length_5.toInt - a2.toInt := by rw [ez_6]; exact jb_isub2 (rfl) (rfl) (by omega)
  refine lv_istore (lv' := [(6, .int z_6), (5, .int r_2), (0, .ref r0), (1, .int a1), (2, .int a2), (3, .ref r3), (4, .int a4)]) hx hb dX1_replace_14 hl (by decide) rfl (fun ls hl => ?_)
  refine lv_iload_n hx hb dX1_replace_16 rfl (lv_at hl 3 rfl) ?_
  refine lv_if_lt (tgt := 56) hx hb dX1_replace_17 (by decide) (fun c_7 => ?_) (fun c_7 => ?_)
  · skip
    have c_7' : a1.toInt < 0 := jb_lt (rfl) ((by decide)) c_7
    refine lv_iconst (v := 0) hx hb dX1_replace_56 (by decide) ?_
    rw [hQ]
    exact W.zret (v := 0) hx hb hr (jb_nz (Or.inl rfl)) (fun t ht hW => ⟨⟨0, (), rfl, ⟨(Or.inl rfl), trivial⟩, hh_4.rt (M1 := []) [] rfl ht⟩, by rw [ht]; try exact hh_4.1.1, fun q h9 hq => by rw [ht]; try exact hh_4.1.2.1 q h9 hq⟩) hh_4.1.2.2 dX1_replace_57
  · skip
    have c_7' : a1.toInt ≥ 0 := jb_lt_n (rfl) ((by decide)) c_7
    refine lv_iload_n hx hb dX1_replace_20 rfl (lv_at hl 4 rfl) ?_
    refine lv_iload_n hx hb dX1_replace_21 rfl (lv_at hl 3 rfl) ?_
    refine lv_icmp_lt (tgt := 56) hx hb dX1_replace_22 (by decide) (fun c_8 => ?_) (fun c_8 => ?_)
    · skip
      have c_8' : a2.toInt < a1.toInt := jb_lt (rfl) (rfl) c_8
      refine lv_iconst (v := 0) hx hb dX1_replace_56 (by decide) ?_
      rw [hQ]
      exact W.zret (v := 0) hx hb hr (jb_nz (Or.inl rfl)) (fun t ht hW => ⟨⟨0, (), rfl, ⟨(Or.inl rfl), trivial⟩, hh_4.rt (M1 := []) [] rfl ht⟩, by rw [ht]; try exact hh_4.1.1, fun q h9 hq => by rw [ht]; try exact hh_4.1.2.1 q h9 hq⟩) hh_4.1.2.2 dX1_replace_57
    · skip
      have c_8' : a2.toInt ≥ a1.toInt := jb_lt_n (rfl) (rfl) c_8
      refine lv_iload hx hb dX1_replace_25 (lv_at hl 0 rfl) ?_
      refine lv_if_lt (tgt := 56) hx hb dX1_replace_27 (by decide) (fun c_9 => ?_) (fun c_9 => ?_)
      · skip
        have c_9' : z_6.toInt < 0 := jb_lt (rfl) ((by decide)) c_9
        refine lv_iconst (v := 0) hx hb dX1_replace_56 (by decide) ?_
        rw [hQ]
        exact W.zret (v := 0) hx hb hr (jb_nz (Or.inl rfl)) (fun t ht hW => ⟨⟨0, (), rfl, ⟨(Or.inl rfl), trivial⟩, hh_4.rt (M1 := []) [] rfl ht⟩, by rw [ht]; try exact hh_4.1.1, fun q h9 hq => by rw [ht]; try exact hh_4.1.2.1 q h9 hq⟩) hh_4.1.2.2 dX1_replace_57
      · skip
        have c_9' : z_6.toInt ≥ 0 := jb_lt_n (rfl) ((by decide)) c_9
        refine lv_iload hx hb dX1_replace_30 (lv_at hl 1 rfl) ?_
        refine lv_if_lt (tgt := 56) hx hb dX1_replace_32 (by decide) (fun c_10 => ?_) (fun c_10 => ?_)
        · skip
          have c_10' : r_2.toInt < 0 := jb_lt (rfl) ((by decide)) c_10
          refine lv_iconst (v := 0) hx hb dX1_replace_56 (by decide) ?_
          rw [hQ]
          exact W.zret (v := 0) hx hb hr (jb_nz (Or.inl rfl)) (fun t ht hW => ⟨⟨0, (), rfl, ⟨(Or.inl rfl), trivial⟩, hh_4.rt (M1 := []) [] rfl ht⟩, by rw [ht]; try exact hh_4.1.1, fun q h9 hq => by rw [ht]; try exact hh_4.1.2.1 q h9 hq⟩) hh_4.1.2.2 dX1_replace_57
        · skip
          have c_10' : r_2.toInt ≥ 0 := jb_lt_n (rfl) ((by decide)) c_10
          refine lv_iload hx hb dX1_replace_35 (lv_at hl 1 rfl) ?_
          refine lv_sipush (v := 1500) hx hb dX1_replace_37 (by decide) ?_
          refine lv_icmp_gt (tgt := 56) hx hb dX1_replace_40 (by decide) (fun c_11 => ?_) (fun c_11 => ?_)
          · skip
            have c_11' : r_2.toInt > 1500 := jb_gt (rfl) ((by decide)) c_11
            refine lv_iconst (v := 0) hx hb dX1_replace_56 (by decide) ?_
            rw [hQ]
            exact W.zret (v := 0) hx hb hr (jb_nz (Or.inl rfl)) (fun t ht hW => ⟨⟨0, (), rfl, ⟨(Or.inl rfl), trivial⟩, hh_4.rt (M1 := []) [] rfl ht⟩, by rw [ht]; try exact hh_4.1.1, fun q h9 hq => by rw [ht]; try exact hh_4.1.2.1 q h9 hq⟩) hh_4.1.2.2 dX1_replace_57
          · skip
            have c_11' : r_2.toInt ≤ 1500 := jb_gt_n (rfl) ((by decide)) c_11
            refine lv_iload_n hx hb dX1_replace_43 rfl (lv_at hl 3 rfl) ?_
            refine lv_iload hx hb dX1_replace_44 (lv_at hl 1 rfl) ?_
            refine lv_iadd hx hb dX1_replace_46 ?_
            refine lv_topi (fun z_12 ez_12 => ?_)
            have hz_12 : z_12.toInt = a1.toInt + r_2.toInt := by rw [ez_12]; exact jb_iadd2 (rfl) (rfl) (by omega)
            refine lv_iload hx hb dX1_replace_47 (lv_at hl 0 rfl) ?_
            refine lv_iadd hx hb dX1_replace_49 ?_
            refine lv_topi (fun z_13 ez_13 => ?_)
            have hz_13 : z_13.toInt = z_12.toInt + z_6.toInt := by rw [ez_13]; exact jb_iadd2 (rfl) (rfl) (by omega)
            refine lv_sipush (v := 1500) hx hb dX1_replace_50 (by decide) ?_
            refine lv_icmp_le (tgt := 58) hx hb dX1_replace_53 (by decide) (fun c_14 => ?_) (fun c_14 => ?_)
            · skip
              have c_14' : z_13.toInt ≤ 1500 := jb_le (rfl) ((by decide)) c_14
              refine lv_aload_n hx hb dX1_replace_58 rfl (lv_at hl 2 rfl) ?_
              obtain ⟨v_15, hv_15, hh_16⟩ := hh_4.pin (C := RX1) (T := TX1) (N := 17) hB3 rfl (by decide) hg_r0 (i := 2) (by decide) rfl
              clear hh_4
              obtain ⟨text_17, rfl, hg_text_17⟩ := hv_15
              refine j7_read hx hb hown hK (C := RX1) (T := TX1) (N := 17) rfl hly_3_2 hlk_15 (hh_16.at 0 rfl) dX1_replace_59 ?_
              refine lv_iload_n hx hb dX1_replace_62 rfl (lv_at hl 4 rfl) ?_
              refine lv_aload_n hx hb dX1_replace_63 rfl (lv_at hl 2 rfl) ?_
              refine j7_read hx hb hown hK (C := RX1) (T := TX1) (N := 17) rfl hly_3_2 hlk_15 (hh_16.at 0 rfl) dX1_replace_64 ?_
              refine lv_iload_n hx hb dX1_replace_67 rfl (lv_at hl 3 rfl) ?_
              refine lv_iload hx hb dX1_replace_68 (lv_at hl 1 rfl) ?_
              refine lv_iadd hx hb dX1_replace_70 ?_
              refine lv_topi (fun z_18 ez_18 => ?_)
              have hz_18 : z_18.toInt = a1.toInt + r_2.toInt := by rw [ez_18]; exact jb_iadd2 (rfl) (rfl) (by omega)
              refine lv_iload hx hb dX1_replace_71 (lv_at hl 0 rfl) ?_
              refine j7_acopyi hx hb (by rw [hml]; exact hl.1.symm) hown (htw (.methodLink RX1 36 arraycopyName) (jWr_35 _ (List.mem_of_getElem? (i := 23) rfl))) (htw (.native arraycopyName) (jWr_16 _ (List.mem_of_getElem? (i := 19) rfl))) (htw (.static arraycopyName) (jWr_16 _ (List.mem_of_getElem? (i := 20) rfl))) (htw (.initialized "java/lang/System") (jWr_16 _ (List.mem_of_getElem? (i := 21) rfl))) hK hh_16 hB hB101 hB101 1 rfl (by decide) (by decide) (by decide) rfl rfl rfl hg_text_17 hg_text_17 (x := a2.toInt) (y := z_18.toInt) (z := z_6.toInt) rfl rfl rfl (by omega) (fun _ _ _ => trivial) (by rw [← hR]; exact Nat.le_of_ble_eq_true rfl) (by rw [← hR]; exact Nat.le_of_ble_eq_true rfl) dX1_replace_73 (fun H_19 locs_19 hr_19 hh_19 => ?_)
              clear hr_19
              clear hh_16
              refine lv_iconst (v := 0) hx hb dX1_replace_76 (by decide) ?_
              refine lv_istore (lv' := [(7, .int 0), (6, .int z_6), (5, .int r_2), (0, .ref r0), (1, .int a1), (2, .int a2), (3, .ref r3), (4, .int a4)]) hx hb dX1_replace_77 hl (by decide) rfl (fun ls hl => ?_)
              have L79 : ∀ (N : Nat) (v7_20 : Int32) (H_20 : Heap) (locs_20 : List Loc), jSt (dC, dI) B base G0 G0 EX1_replace s.heap 0 0 [(r0, 3, 2, .ref text_17), (r0, 3, 3, .int length_5)] [] [] H_20 locs_20 → (0 ≤ v7_20.toInt ∧ v7_20.toInt ≤ r_2.toInt) → (r_2.toInt - v7_20.toInt : Int) < N → ∀ ls : Array Slot, lv_has ls 8 [(0, .ref r0), (1, .int a1), (2, .int a2), (3, .ref r3), (4, .int a4), (5, .int r_2), (6, .int z_6), (7, .int v7_20)] → W p l e R s m ([.ref r0, .int a1, .int a2, .ref r3, .int a4] : List Value).toArray below meth c H_20 locs_20 0 0 Q (F0 m 79 ls []) := by
                intro N
                induction N with
                | zero => intro v7_20 H_20 locs_20 hh_20  hi_20 hm; exact absurd hm (by omega)
                | succ N L79 =>
                  intro v7_20 H_20 locs_20 hh_20  hi_20 hm_20 ls hl
                  obtain ⟨hi_20_0, hi_20_1⟩ := hi_20
                  refine lv_iload hx hb dX1_replace_79 (lv_at hl 7 rfl) ?_
                  refine lv_iload hx hb dX1_replace_81 (lv_at hl 5 rfl) ?_
                  refine lv_icmp_ge (tgt := 109) hx hb dX1_replace_83 (by decide) (fun c_21 => ?_) (fun c_21 => ?_)
                  · skip
                    have c_21' : v7_20.toInt ≥ r_2.toInt := jb_ge (rfl) (rfl) c_21
                    refine lv_aload_n hx hb dX1_replace_109 rfl (lv_at hl 0 rfl) ?_
                    refine lv_iload_n hx hb dX1_replace_110 rfl (lv_at hl 1 rfl) ?_
                    refine lv_iload hx hb dX1_replace_111 (lv_at hl 5 rfl) ?_
                    refine lv_iadd hx hb dX1_replace_113 ?_
                    refine lv_topi (fun z_22 ez_22 => ?_)
                    have hz_22 : z_22.toInt = a1.toInt + r_2.toInt := by rw [ez_22]; exact jb_iadd2 (rfl) (rfl) (by omega)
                    refine lv_iload hx hb dX1_replace_114 (lv_at hl 6 rfl) ?_
                    refine lv_iadd hx hb dX1_replace_116 ?_
                    refine lv_topi (fun z_23 ez_23 => ?_)
                    have hz_23 : z_23.toInt = z_22.toInt + z_6.toInt := by rw [ez_23]; exact jb_iadd2 (rfl) (rfl) (by omega)
                    refine j7_put hx hb hown hK hh_20 hB hAp hB3 (C := RX1) (T := TX1) (N := 17) rfl (by decide) hg_r0 (i := 3) (by decide) hly_3_3 rfl hlk_42 rfl (ty := .int) (v := .int z_23) (by decide +kernel) rfl rfl (⟨_, rfl, by omega, by omega⟩) rfl (L1 := [(r0, 3, 2, .ref text_17)]) [0] rfl rfl rfl dX1_replace_117 (fun H_24 locs_24 hh_24 => ?_)
                    clear hh_20
                    refine lv_iconst (v := 1) hx hb dX1_replace_120 (by decide) ?_
                    rw [hQ]
                    exact W.zret (v := 1) hx hb hr (jb_nz (Or.inr rfl)) (fun t ht hW => ⟨⟨1, (), rfl, ⟨(Or.inr rfl), trivial⟩, hh_24.rt (M1 := []) [] rfl ht⟩, by rw [ht]; try exact hh_24.1.1, fun q h9 hq => by rw [ht]; try exact hh_24.1.2.1 q h9 hq⟩) hh_24.1.2.2 dX1_replace_121
                  · skip
                    have c_21' : v7_20.toInt < r_2.toInt := jb_ge_n (rfl) (rfl) c_21
                    refine lv_aload_n hx hb dX1_replace_86 rfl (lv_at hl 0 rfl) ?_
                    refine j7_read hx hb hown hK (C := RX1) (T := TX1) (N := 17) rfl hly_3_2 hlk_15 (hh_20.at 0 rfl) dX1_replace_87 ?_
                    refine lv_iload_n hx hb dX1_replace_90 rfl (lv_at hl 1 rfl) ?_
                    refine lv_iload hx hb dX1_replace_91 (lv_at hl 7 rfl) ?_
                    refine lv_iadd hx hb dX1_replace_93 ?_
                    refine lv_topi (fun z_25 ez_25 => ?_)
                    have hz_25 : z_25.toInt = a1.toInt + v7_20.toInt := by rw [ez_25]; exact jb_iadd2 (rfl) (rfl) (by omega)
                    refine lv_aload_n hx hb dX1_replace_94 rfl (lv_at hl 3 rfl) ?_
                    refine lv_iload hx hb dX1_replace_95 (lv_at hl 4 rfl) ?_
                    refine lv_iload hx hb dX1_replace_97 (lv_at hl 7 rfl) ?_
                    refine va_calli (A0 := jA base) (H0 := s.heap) (va_runV (As := [.int a4, .int v7_20]) (rest := [.int z_25, .ref text_17]) ⟨hx, hb, hml, hown, hts⟩ (uX4_unitAt l dC dI ca base B hB hAp hB6 hB140 hB141 hB142 hB146 G0 H_20 r3 a4 v7_20) (cwV 2 hts (jgV (jWr_36 _ (List.mem_of_getElem? (i := 1) rfl)) (jWr_25 _ (List.mem_of_getElem? (i := 5) rfl)) (jWr_25 _ (List.mem_of_getElem? (i := 6) rfl)) (jWr_1 _ (List.mem_of_getElem? (i := 22) rfl)) (jWr_25 _ (List.mem_of_getElem? (i := 7) rfl))) rfl rfl rfl (by decide +kernel) ⟨by rw [← hR]; exact Nat.le_of_ble_eq_true rfl, by rw [← hR]; exact Nat.le_of_ble_eq_true rfl⟩) ⟨fun a U g mk q => by obtain ⟨q0, q1, q2, qK, q10, q11, q12⟩ := q; exact ⟨q0, q1, q2, jG.calling g mk a qK, q10, q11, q12⟩, hh_20.recv (C := RX4) (T := TX4) (N := 12) hB6 rfl (by decide) hg_r3 hK, fun U hU hW => ⟨rfl, hU, hh_20.2.1, hG.step hW hU hh_20.1, hg_r3, jP.nil, trivial⟩⟩ rfl rfl hl.1 rfl (lv_room (Nat.le_of_ble_eq_true rfl)) dX1_replace_99 ⟨Nat.zero_le _, Nat.zero_le _⟩) hh_20.1 (fun q _ h => h) (fun q h => h) (fun r_27 u_26 t_26 H_26 locs_26 ht_26 hvm_26 hr_27 hb_26 hz_26 hk_26 hS_26 => ?_)
                    rw [ht_26] at hb_26
                    obtain ⟨hb_261, hb_262, hb_263, hb_264, hb_265⟩ := hb_26
                    have hh_26 : jSt (dC, dI) B base G0 G0 EX1_replace s.heap 0 0 [(r0, 3, 2, .ref text_17), (r0, 3, 3, .int length_5)] [] [] H_26 locs_26 := ((hh_20.call hb_261 hb_262 hb_263 hb_264 hS_26 rfl (L1 := [(r0, 3, 2, .ref text_17), (r0, 3, 3, .int length_5)]) [0, 1] rfl rfl (M1 := []) [] rfl rfl (I1 := []) [] rfl rfl).more hb_265)
                    clear hh_20 ht_26 hvm_26 hz_26 hk_26 hS_26 hb_261 hb_262 hb_263 hb_264 hb_265
                    refine j7_iast hx hb hK hh_26 hB hB101 1 rfl (by decide) (by decide) rfl rfl rfl hg_text_17 (x := z_25.toInt) (rfl) (by omega) (trivial) dX1_replace_102 (fun H_28 locs_28 hh_28 => ?_)
                    clear hh_26
                    obtain ⟨z_29, ez_29⟩ : ∃ y : Int32, y = v7_20 + 1 := ⟨_, rfl⟩
                    refine lv_iinc (v := z_29) (lv' := [(7, .int z_29), (0, .ref r0), (1, .int a1), (2, .int a2), (3, .ref r3), (4, .int a4), (5, .int r_2), (6, .int z_6)]) hx hb dX1_replace_103 hl (k := 7) rfl (by rw [ez_29]; rfl) (by decide) rfl (fun ls hl => ?_)
                    have hz_29 : z_29.toInt = v7_20.toInt + 1 := by rw [ez_29]; exact jb_iadd2 (rfl) (by decide) (by omega)
                    refine lv_goto (tgt := 79) hx hb dX1_replace_106 (by decide) ?_
                    exact L79 z_29 _ _ hh_28 (by first | omega | (refine ⟨?_, ?_⟩ <;> (first | omega | rfl | assumption | decide | exact Or.inl rfl | exact Or.inr rfl | (simp only; omega)))) (by omega) _ (lv_sub hl [1, 2, 3, 4, 5, 6, 7, 0] rfl)
              exact L79 (r_2.toInt - (0 : Int32).toInt : Int).toNat.succ 0 _ _ hh_19 (by first | omega | (refine ⟨?_, ?_⟩ <;> (first | omega | rfl | assumption | decide | exact Or.inl rfl | exact Or.inr rfl | (simp only; omega)))) (by omega) _ (lv_sub hl [3, 4, 5, 6, 7, 2, 1, 0] rfl)
            · skip
              have c_14' : z_13.toInt > 1500 := jb_le_n (rfl) ((by decide)) c_14
              refine lv_iconst (v := 0) hx hb dX1_replace_56 (by decide) ?_
              rw [hQ]
              exact W.zret (v := 0) hx hb hr (jb_nz (Or.inl rfl)) (fun t ht hW => ⟨⟨0, (), rfl, ⟨(Or.inl rfl), trivial⟩, hh_4.rt (M1 := []) [] rfl ht⟩, by rw [ht]; try exact hh_4.1.1, fun q h9 hq => by rw [ht]; try exact hh_4.1.2.1 q h9 hq⟩) hh_4.1.2.2 dX1_replace_57
set_option maxHeartbeats 4000000 in
set_option maxRecDepth 20000 in
theorem uJ7_fill_53178 (l : Launch) (dC : Nat → ClassId) (dI : Nat → Nat → Nat) (ca : Nat → ClassId) (base : Nat) (B : jF) (hB : jBok B) (hAp : jAp (dC, dI)) (hB101 : ∀ n G a H, B 101 n G a H ↔ jAr (dC, dI) (ca 1) (fun j z => True) n a H) (G0 : jT) (H0 : Heap) (r0 : Nat) (a1 : Int32) (n0 : Nat) : Met l yJ7_fill_53178 (jw yJ7_fill_53178 cJ7_fill_53178 4 none) ({ frames := 0, cells := 0, slots := 0, locals := 0 }) (va_Pc [.ref r0, .int a1] (fun U => U.heap = H0 ∧ jX B base G0 [] H0 ∧ jG dC dI ca base U ∧ G0 r0 = some (101, n0) ∧ jP (dC, dI) G0 H0 [] ∧ n0 ≤ 100000)) (va_Qv (S := Unit) (fun u => True) (fun u t => jRt (dC, dI) B base G0 EJ7_fill_53178 H0 [] t.heap) (jA base)) 0 0 (jA base) := by
  refine Met.ofW (cc := cJ7_fill_53178) (maxL := 4) (ret := none) (by decide) rfl ?_
  intro p e s m args below meth c s₁ Bd hml hv
  obtain ⟨rfl, hH0, hX, hG, hg_r0, hP0, hp0⟩ := hv
  have hK := hG.1
  have hx := Bd.exec
  have hb := Bd.bytes
  have hr := Bd.returns
  have hts := atoms_spec (ws := (jw yJ7_fill_53178 cJ7_fill_53178 4 none)) Bd.pre
  have htw : ∀ w ∈ jWl, w.before _ s = true := fun w h => hts w (List.mem_cons_of_mem _ h)
  have hown : s.vm.findClass RJ7 = some m.cls := findClass_of_methodNamed Bd.named
  have hlocks := Bd.notSynchronized
  obtain ⟨Q, hQ⟩ : ∃ Q, Q = MQ below (va_Qv (S := Unit) (fun u => True) (fun u t => jRt (dC, dI) B base G0 EJ7_fill_53178 H0 [] t.heap) (jA base)) ([.ref r0, .int a1] : List Value).toArray s 0 0 (jA base) := ⟨_, rfl⟩
  rw [← hQ]
  have hl := lv_entry ([.ref r0, .int a1]) (n := 4) (Nat.le_of_ble_eq_true rfl)
  rw [lg_entry_eq]
  generalize (lg_sl ([.ref r0, .int a1]) ++ List.replicate (4 - (lg_sl ([.ref r0, .int a1])).length) Slot.unset).toArray = ls at hl ⊢
  have hl : lv_has ls 4 [(0, .ref r0), (1, .int a1)] := hl
  generalize hR : (headSpec (jw yJ7_fill_53178 cJ7_fill_53178 4 none) ({ frames := 0, cells := 0, slots := 0, locals := 0 })).room = R
  subst hH0
  have hh : jSt (dC, dI) B base G0 G0 EJ7_fill_53178 s.heap 0 0 [] [] [] s.heap [] := jSt.start hX hP0 jMc.nil jIs.nil
  clear hX hP0
  have hk0 : (0 : Int32).toInt = 0 := by decide
  have hk1 : (1 : Int32).toInt = 1 := by decide
  have hrg_a1 := jb_rng a1
  refine lv_iconst (v := 0) hx hb dJ7_fill_53178_0 (by decide) ?_
  refine lv_istore_n (lv' := [(2, .int 0), (0, .ref r0), (1, .int a1)]) hx hb dJ7_fill_53178_1 rfl hl (by decide) rfl (fun ls hl => ?_)
  refine lv_aload_n hx hb dJ7_fill_53178_2 rfl (lv_at hl 1 rfl) ?_
  refine j7_len hx hb hK hh hB101 1 rfl (by decide) hg_r0 (by omega) dJ7_fill_53178_3 (fun z_1 hz_1 => ?_)
  refine lv_istore_n (lv' := [(3, .int z_1), (2, .int 0), (0, .ref r0), (1, .int a1)]) hx hb dJ7_fill_53178_4 rfl hl (by decide) rfl (fun ls hl => ?_)
  have L5 : ∀ (N : Nat) (v2_2 : Int32) (H_2 : Heap) (locs_2 : List Loc), jSt (dC, dI) B base G0 G0 EJ7_fill_53178 s.heap 0 0 [] [] [] H_2 locs_2 → (0 ≤ v2_2.toInt ∧ v2_2.toInt ≤ n0) → (n0 - v2_2.toInt : Int) < N → ∀ ls : Array Slot, lv_has ls 4 [(0, .ref r0), (1, .int a1), (2, .int v2_2), (3, .int z_1)] → W p l e R s m ([.ref r0, .int a1] : List Value).toArray below meth c H_2 locs_2 0 0 Q (F0 m 5 ls []) := by
    intro N
    induction N with
    | zero => intro v2_2 H_2 locs_2 hh_2  hi_2 hm; exact absurd hm (by omega)
    | succ N L5 =>
      intro v2_2 H_2 locs_2 hh_2  hi_2 hm_2 ls hl
      obtain ⟨hi_2_0, hi_2_1⟩ := hi_2
      refine lv_iload_n hx hb dJ7_fill_53178_5 rfl (lv_at hl 2 rfl) ?_
      refine lv_iload_n hx hb dJ7_fill_53178_6 rfl (lv_at hl 3 rfl) ?_
      refine lv_icmp_ge (tgt := 20) hx hb dJ7_fill_53178_7 (by decide) (fun c_3 => ?_) (fun c_3 => ?_)
      · skip
        have c_3' : v2_2.toInt ≥ z_1.toInt := jb_ge (rfl) (rfl) c_3
        rw [hQ]
        exact W.vret hx hb hr (fun t ht hW => ⟨⟨(), rfl, trivial, hh_2.rt (M1 := []) [] rfl ht⟩, by rw [ht]; try exact hh_2.1.1, fun q h9 hq => by rw [ht]; try exact hh_2.1.2.1 q h9 hq⟩) hh_2.1.2.2 dJ7_fill_53178_20
      · skip
        have c_3' : v2_2.toInt < z_1.toInt := jb_ge_n (rfl) (rfl) c_3
        refine lv_aload_n hx hb dJ7_fill_53178_10 rfl (lv_at hl 0 rfl) ?_
        refine lv_iload_n hx hb dJ7_fill_53178_11 rfl (lv_at hl 2 rfl) ?_
        refine lv_iload_n hx hb dJ7_fill_53178_12 rfl (lv_at hl 1 rfl) ?_
        refine j7_iast hx hb hK hh_2 hB hB101 1 rfl (by decide) (by decide) rfl rfl rfl hg_r0 (x := v2_2.toInt) (rfl) (by omega) (trivial) dJ7_fill_53178_13 (fun H_4 locs_4 hh_4 => ?_)
        clear hh_2
        obtain ⟨z_5, ez_5⟩ : ∃ y : Int32, y = v2_2 + 1 := ⟨_, rfl⟩
        refine lv_iinc (v := z_5) (lv' := [(2, .int z_5), (0, .ref r0), (1, .int a1), (3, .int z_1)]) hx hb dJ7_fill_53178_14 hl (k := 2) rfl (by rw [ez_5]; rfl) (by decide) rfl (fun ls hl => ?_)
        have hz_5 : z_5.toInt = v2_2.toInt + 1 := by rw [ez_5]; exact jb_iadd2 (rfl) (by decide) (by omega)
        refine lv_goto (tgt := 5) hx hb dJ7_fill_53178_17 (by decide) ?_
        exact L5 z_5 _ _ hh_4 (by first | omega | (refine ⟨?_, ?_⟩ <;> (first | omega | rfl | assumption | decide | exact Or.inl rfl | exact Or.inr rfl | (simp only; omega)))) (by omega) _ (lv_sub hl [1, 2, 0, 3] rfl)
  exact L5 (n0 - (0 : Int32).toInt : Int).toNat.succ 0 _ _ hh (by first | omega | (refine ⟨?_, ?_⟩ <;> (first | omega | rfl | assumption | decide | exact Or.inl rfl | exact Or.inr rfl | (simp only; omega)))) (by omega) _ (lv_sub hl [2, 3, 1, 0] rfl)
