section
theorem dX8_init_0 : decode cX8_init 0 = .ok (.aload_n 0, 1) := by decide +kernel
theorem dX8_init_1 : decode cX8_init 1 = .ok (.invokespecial 3, 3) := by decide +kernel
theorem dX8_init_4 : decode cX8_init 4 = .ok (.aload_n 0, 1) := by decide +kernel
theorem dX8_init_5 : decode cX8_init 5 = .ok (.iconst (-1), 1) := by decide +kernel
theorem dX8_init_6 : decode cX8_init 6 = .ok (.putfield 9, 3) := by decide +kernel
theorem dX8_init_9 : decode cX8_init 9 = .ok (.aload_n 1, 1) := by decide +kernel
theorem dX8_init_10 : decode cX8_init 10 = .ok (.iload_n 2, 1) := by decide +kernel
theorem dX8_init_11 : decode cX8_init 11 = .ok (.invokevirtual 15, 3) := by decide +kernel
theorem dX8_init_14 : decode cX8_init 14 = .ok (.iconst 4, 1) := by decide +kernel
theorem dX8_init_15 : decode cX8_init 15 = .ok (.if_icmp .ne 7, 3) := by decide +kernel
theorem dX8_init_18 : decode cX8_init 18 = .ok (.iconst 1, 1) := by decide +kernel
theorem dX8_init_19 : decode cX8_init 19 = .ok (.goto 4, 3) := by decide +kernel
theorem dX8_init_22 : decode cX8_init 22 = .ok (.iconst 0, 1) := by decide +kernel
theorem dX8_init_23 : decode cX8_init 23 = .ok (.istore_n 3, 1) := by decide +kernel
theorem dX8_init_24 : decode cX8_init 24 = .ok (.aload_n 1, 1) := by decide +kernel
theorem dX8_init_25 : decode cX8_init 25 = .ok (.iload_n 2, 1) := by decide +kernel
theorem dX8_init_26 : decode cX8_init 26 = .ok (.invokevirtual 15, 3) := by decide +kernel
theorem dX8_init_29 : decode cX8_init 29 = .ok (.iconst 3, 1) := by decide +kernel
theorem dX8_init_30 : decode cX8_init 30 = .ok (.if_icmp .ne 17, 3) := by decide +kernel
theorem dX8_init_33 : decode cX8_init 33 = .ok (.aload_n 1, 1) := by decide +kernel
theorem dX8_init_34 : decode cX8_init 34 = .ok (.iload_n 2, 1) := by decide +kernel
theorem dX8_init_35 : decode cX8_init 35 = .ok (.invokevirtual 21, 3) := by decide +kernel
theorem dX8_init_38 : decode cX8_init 38 = .ok (.bipush 20, 2) := by decide +kernel
theorem dX8_init_40 : decode cX8_init 40 = .ok (.if_icmp .gt 7, 3) := by decide +kernel
theorem dX8_init_43 : decode cX8_init 43 = .ok (.iconst 1, 1) := by decide +kernel
theorem dX8_init_44 : decode cX8_init 44 = .ok (.goto 4, 3) := by decide +kernel
theorem dX8_init_47 : decode cX8_init 47 = .ok (.iconst 0, 1) := by decide +kernel
theorem dX8_init_48 : decode cX8_init 48 = .ok (.istore 4, 2) := by decide +kernel
theorem dX8_init_50 : decode cX8_init 50 = .ok (.aload_n 0, 1) := by decide +kernel
theorem dX8_init_51 : decode cX8_init 51 = .ok (.iload_n 3, 1) := by decide +kernel
theorem dX8_init_52 : decode cX8_init 52 = .ok (.ifCond .ne 8, 3) := by decide +kernel
theorem dX8_init_55 : decode cX8_init 55 = .ok (.iload 4, 2) := by decide +kernel
theorem dX8_init_57 : decode cX8_init 57 = .ok (.ifCond .eq 15, 3) := by decide +kernel
theorem dX8_init_60 : decode cX8_init 60 = .ok (.new 24, 3) := by decide +kernel
theorem dX8_init_63 : decode cX8_init 63 = .ok (.dup, 1) := by decide +kernel
theorem dX8_init_64 : decode cX8_init 64 = .ok (.bipush 16, 2) := by decide +kernel
theorem dX8_init_66 : decode cX8_init 66 = .ok (.invokespecial 26, 3) := by decide +kernel
theorem dX8_init_69 : decode cX8_init 69 = .ok (.goto 4, 3) := by decide +kernel
theorem dX8_init_72 : decode cX8_init 72 = .ok (.aconst_null, 1) := by decide +kernel
theorem dX8_init_73 : decode cX8_init 73 = .ok (.putfield 29, 3) := by decide +kernel
theorem dX8_init_76 : decode cX8_init 76 = .ok (.iload_n 3, 1) := by decide +kernel
theorem dX8_init_77 : decode cX8_init 77 = .ok (.ifCond .eq 18, 3) := by decide +kernel
theorem dX8_init_80 : decode cX8_init 80 = .ok (.aload_n 0, 1) := by decide +kernel
theorem dX8_init_81 : decode cX8_init 81 = .ok (.getfield 29, 3) := by decide +kernel
theorem dX8_init_84 : decode cX8_init 84 = .ok (.aload_n 1, 1) := by decide +kernel
theorem dX8_init_85 : decode cX8_init 85 = .ok (.iload_n 2, 1) := by decide +kernel
theorem dX8_init_86 : decode cX8_init 86 = .ok (.invokevirtual 33, 3) := by decide +kernel
theorem dX8_init_89 : decode cX8_init 89 = .ok (.invokevirtual 36, 3) := by decide +kernel
theorem dX8_init_92 : decode cX8_init 92 = .ok (.goto 28, 3) := by decide +kernel
theorem dX8_init_95 : decode cX8_init 95 = .ok (.iload 4, 2) := by decide +kernel
theorem dX8_init_97 : decode cX8_init 97 = .ok (.ifCond .eq 23, 3) := by decide +kernel
theorem dX8_init_100 : decode cX8_init 100 = .ok (.aload_n 1, 1) := by decide +kernel
theorem dX8_init_101 : decode cX8_init 101 = .ok (.iload_n 2, 1) := by decide +kernel
theorem dX8_init_102 : decode cX8_init 102 = .ok (.invokevirtual 39, 3) := by decide +kernel
theorem dX8_init_105 : decode cX8_init 105 = .ok (.astore 5, 2) := by decide +kernel
theorem dX8_init_107 : decode cX8_init 107 = .ok (.aload_n 0, 1) := by decide +kernel
theorem dX8_init_108 : decode cX8_init 108 = .ok (.getfield 29, 3) := by decide +kernel
theorem dX8_init_111 : decode cX8_init 111 = .ok (.aload 5, 2) := by decide +kernel
theorem dX8_init_113 : decode cX8_init 113 = .ok (.iconst 0, 1) := by decide +kernel
theorem dX8_init_114 : decode cX8_init 114 = .ok (.aload 5, 2) := by decide +kernel
theorem dX8_init_116 : decode cX8_init 116 = .ok (.arraylength, 1) := by decide +kernel
theorem dX8_init_117 : decode cX8_init 117 = .ok (.invokevirtual 43, 3) := by decide +kernel
theorem dX8_init_120 : decode cX8_init 120 = .ok (.return_, 1) := by decide +kernel
def EX4_kindOfW : List (Nat × Nat) := []
def EX4_sizeOfW : List (Nat × Nat) := []
def EX4_unitsOfS : List (Nat × Nat) := [(101, 0)]
def EX8_init : List (Nat × Nat) := [(2, 0), (2, 1), (101, 0), (196, 0)]
set_option maxHeartbeats 4000000 in
set_option maxRecDepth 20000 in
theorem uX4_kindOfW (l : Launch) (dC : Nat → ClassId) (dI : Nat → Nat → Nat) (ca : Nat → ClassId) (base : Nat) (B : jF) (hB : jBok B) (hAp : jAp (dC, dI)) (hB6 : ∀ n G a H, B 6 n G a H ↔ jOb (dC, dI) 6 12 (F6 n G) a H) (hB140 : ∀ n G a H, B 140 n G a H ↔ jAr (dC, dI) (ca 1) (fun j z => True) n a H) (G0 : jT) (H0 : Heap) (r0 : Nat) (a1 : Int32) (pv : Int32) (wk : Nat) (wi : Nat) (wz : Nat) (fk : Nat → Int32) (fi : Nat → Int32) (fz : Nat → Int32) : Met l yX4_kindOf (jw yX4_kindOf cX4_kindOf 2 (some .int)) ({ frames := 0, cells := 0, slots := 0, locals := 0 }) (va_Pc [.ref r0, .int a1] (fun U => U.heap = H0 ∧ jX B base G0 [] H0 ∧ jG dC dI ca base U ∧ G0 r0 = some (6, 0) ∧ G0 wk = some (140, 1502) ∧ G0 wi = some (141, 1502) ∧ G0 wz = some (142, 1502) ∧ jP (dC, dI) G0 H0 [(r0, 6, 7, .int pv), (r0, 6, 0, .ref wk), (r0, 6, 1, .ref wi), (r0, 6, 2, .ref wz)] ∧ jMc (dC, dI) G0 H0 [(wk, 140, 1502, ca 1, fk), (wi, 141, 1502, ca 1, fi), (wz, 142, 1502, ca 1, fz)] ∧ 0 ≤ pv.toInt ∧ pv.toInt ≤ 1502)) (va_Qi (S := Unit) (fun r u => (r.toInt = 0 ∨ (0 ≤ a1.toInt ∧ a1.toInt < pv.toInt ∧ r.toInt = jSo fk a1.toInt))) (fun u t => (jRt (dC, dI) B base G0 EX4_kindOfW H0 [] t.heap) ∧ jKl [] H0 t.heap) (jA base)) 0 0 (jA base) := by
  refine Met.ofW (cc := cX4_kindOf) (maxL := 2) (ret := (some .int)) (by decide) rfl ?_
  intro p e s m args below meth c s₁ Bd hml hv
  obtain ⟨rfl, hH0, hX, hG, hg_r0, hg_wk, hg_wi, hg_wz, hP0, hM0, hp0, hp1⟩ := hv
  have hK := hG.1
  have hx := Bd.exec
  have hb := Bd.bytes
  have hr := Bd.returns
  have hts := atoms_spec (ws := (jw yX4_kindOf cX4_kindOf 2 (some .int))) Bd.pre
  have htw : ∀ w ∈ jWl, w.before _ s = true := fun w h => hts w (List.mem_cons_of_mem _ h)
  have hown : s.vm.findClass RX4 = some m.cls := findClass_of_methodNamed Bd.named
  have hlocks := Bd.notSynchronized
  obtain ⟨Q, hQ⟩ : ∃ Q, Q = MQ below (va_Qi (S := Unit) (fun r u => (r.toInt = 0 ∨ (0 ≤ a1.toInt ∧ a1.toInt < pv.toInt ∧ r.toInt = jSo fk a1.toInt))) (fun u t => (jRt (dC, dI) B base G0 EX4_kindOfW H0 [] t.heap) ∧ jKl [] H0 t.heap) (jA base)) ([.ref r0, .int a1] : List Value).toArray s 0 0 (jA base) := ⟨_, rfl⟩
  rw [← hQ]
  have hl := lv_entry ([.ref r0, .int a1]) (n := 2) (Nat.le_of_ble_eq_true rfl)
  rw [lg_entry_eq]
  generalize (lg_sl ([.ref r0, .int a1]) ++ List.replicate (2 - (lg_sl ([.ref r0, .int a1])).length) Slot.unset).toArray = ls at hl ⊢
  have hl : lv_has ls 2 [(0, .ref r0), (1, .int a1)] := hl
  generalize hR : (headSpec (jw yX4_kindOf cX4_kindOf 2 (some .int)) ({ frames := 0, cells := 0, slots := 0, locals := 0 })).room = R
  subst hH0
  have hh : jSt (dC, dI) B base G0 G0 EX4_kindOfW s.heap 0 0 [(r0, 6, 7, .int pv), (r0, 6, 0, .ref wk), (r0, 6, 1, .ref wi), (r0, 6, 2, .ref wz)] [(wk, 140, 1502, ca 1, fk), (wi, 141, 1502, ca 1, fi), (wz, 142, 1502, ca 1, fz)] [] s.heap [] := jSt.start hX hP0 hM0 jIs.nil
  clear hX hP0
  have hk0 : (0 : Int32).toInt = 0 := by decide
  have hk1 : (1 : Int32).toInt = 1 := by decide
  have hly_6_0 := htw (u_lay RX4 TX4 0) (jWc_wsX40 _ (u_in_lay (by decide)))
  have hly_6_7 := htw (u_lay RX4 TX4 7) (jWc_wsX40 _ (u_in_lay (by decide)))
  have hlk_50 := (htw (.fieldLink RX4 50 "ProofServer$Json" "values" "I") (jWr_19 _ (List.mem_of_getElem? (i := 13) rfl)))
  have hlk_11 := (htw (.fieldLink RX4 11 "ProofServer$Json" "kinds" "[I") (jWr_3 _ (List.mem_of_getElem? (i := 21) rfl)))
  have hrg_a1 := jb_rng a1
  have hfl : jKl [] s.heap s.heap := jKl.rf
  refine lv_iload_n hx hb dX4_kindOf_0 rfl (lv_at hl 1 rfl) ?_
  refine lv_if_lt (tgt := 12) hx hb dX4_kindOf_1 (by decide) (fun c_1 => ?_) (fun c_1 => ?_)
  · skip
    have c_1' : a1.toInt < 0 := jb_lt (rfl) ((by decide)) c_1
    refine lv_iconst (v := 0) hx hb dX4_kindOf_12 (by decide) ?_
    refine lv_goto (tgt := 22) hx hb dX4_kindOf_13 (by decide) ?_
    rw [hQ]
    exact W.iret (v := 0) hx hb hr (fun t ht hW => ⟨⟨0, (), rfl, by first | omega | rfl | assumption | decide | exact Or.inl rfl | exact Or.inr rfl | (simp only; omega), ⟨hh.rt (M1 := []) [] rfl ht, by rw [ht]; exact hfl⟩⟩, by rw [ht]; try exact hh.1.1, fun q h9 hq => by rw [ht]; try exact hh.1.2.1 q h9 hq⟩) hh.1.2.2 dX4_kindOf_22
  · skip
    have c_1' : a1.toInt ≥ 0 := jb_lt_n (rfl) ((by decide)) c_1
    refine lv_iload_n hx hb dX4_kindOf_4 rfl (lv_at hl 1 rfl) ?_
    refine lv_aload_n hx hb dX4_kindOf_5 rfl (lv_at hl 0 rfl) ?_
    refine j7_read hx hb hown hK (C := RX4) (T := TX4) (N := 12) rfl hly_6_7 hlk_50 (hh.at 0 rfl) dX4_kindOf_6 ?_
    refine lv_icmp_lt (tgt := 16) hx hb dX4_kindOf_9 (by decide) (fun c_2 => ?_) (fun c_2 => ?_)
    · skip
      have c_2' : a1.toInt < pv.toInt := jb_lt (rfl) (rfl) c_2
      refine lv_aload_n hx hb dX4_kindOf_16 rfl (lv_at hl 0 rfl) ?_
      refine j7_read hx hb hown hK (C := RX4) (T := TX4) (N := 12) rfl hly_6_0 hlk_11 (hh.at 1 rfl) dX4_kindOf_17 ?_
      refine lv_iload_n hx hb dX4_kindOf_20 rfl (lv_at hl 1 rfl) ?_
      refine j7_ialdM hx hb hK hh hB140 1 rfl (by decide) hg_wk (x := a1.toInt) (rfl) (by omega) (j := 0) rfl dX4_kindOf_21 (fun z_3 ez_3 (hz_3 : True) => ?_)
      have hqz_3 : z_3.toInt = jSo fk (a1.toInt) := by unfold jSo; rw [ez_3]
      rw [hQ]
      exact W.iret (v := z_3) hx hb hr (fun t ht hW => ⟨⟨z_3, (), rfl, by first | omega | rfl | assumption | decide | exact Or.inl rfl | exact Or.inr rfl | (simp only; omega), ⟨hh.rt (M1 := []) [] rfl ht, by rw [ht]; exact hfl⟩⟩, by rw [ht]; try exact hh.1.1, fun q h9 hq => by rw [ht]; try exact hh.1.2.1 q h9 hq⟩) hh.1.2.2 dX4_kindOf_22
    · skip
      have c_2' : a1.toInt ≥ pv.toInt := jb_lt_n (rfl) (rfl) c_2
      refine lv_iconst (v := 0) hx hb dX4_kindOf_12 (by decide) ?_
      refine lv_goto (tgt := 22) hx hb dX4_kindOf_13 (by decide) ?_
      rw [hQ]
      exact W.iret (v := 0) hx hb hr (fun t ht hW => ⟨⟨0, (), rfl, by first | omega | rfl | assumption | decide | exact Or.inl rfl | exact Or.inr rfl | (simp only; omega), ⟨hh.rt (M1 := []) [] rfl ht, by rw [ht]; exact hfl⟩⟩, by rw [ht]; try exact hh.1.1, fun q h9 hq => by rw [ht]; try exact hh.1.2.1 q h9 hq⟩) hh.1.2.2 dX4_kindOf_22
set_option maxHeartbeats 4000000 in
set_option maxRecDepth 20000 in
theorem uX4_sizeOfW (l : Launch) (dC : Nat → ClassId) (dI : Nat → Nat → Nat) (ca : Nat → ClassId) (base : Nat) (B : jF) (hB : jBok B) (hAp : jAp (dC, dI)) (hB6 : ∀ n G a H, B 6 n G a H ↔ jOb (dC, dI) 6 12 (F6 n G) a H) (hB142 : ∀ n G a H, B 142 n G a H ↔ jAr (dC, dI) (ca 1) (fun j z => True) n a H) (G0 : jT) (H0 : Heap) (r0 : Nat) (a1 : Int32) (pv : Int32) (wk : Nat) (wi : Nat) (wz : Nat) (fk : Nat → Int32) (fi : Nat → Int32) (fz : Nat → Int32) : Met l yX4_sizeOf (jw yX4_sizeOf cX4_sizeOf 2 (some .int)) ({ frames := 0, cells := 0, slots := 0, locals := 0 }) (va_Pc [.ref r0, .int a1] (fun U => U.heap = H0 ∧ jX B base G0 [] H0 ∧ jG dC dI ca base U ∧ G0 r0 = some (6, 0) ∧ G0 wk = some (140, 1502) ∧ G0 wi = some (141, 1502) ∧ G0 wz = some (142, 1502) ∧ jP (dC, dI) G0 H0 [(r0, 6, 7, .int pv), (r0, 6, 0, .ref wk), (r0, 6, 1, .ref wi), (r0, 6, 2, .ref wz)] ∧ jMc (dC, dI) G0 H0 [(wk, 140, 1502, ca 1, fk), (wi, 141, 1502, ca 1, fi), (wz, 142, 1502, ca 1, fz)] ∧ 0 ≤ pv.toInt ∧ pv.toInt ≤ 1502)) (va_Qi (S := Unit) (fun r u => (a1.toInt < 0 ∨ pv.toInt ≤ a1.toInt ∨ r.toInt = jSo fz a1.toInt)) (fun u t => (jRt (dC, dI) B base G0 EX4_sizeOfW H0 [] t.heap) ∧ jKl [] H0 t.heap) (jA base)) 0 0 (jA base) := by
  refine Met.ofW (cc := cX4_sizeOf) (maxL := 2) (ret := (some .int)) (by decide) rfl ?_
  intro p e s m args below meth c s₁ Bd hml hv
  obtain ⟨rfl, hH0, hX, hG, hg_r0, hg_wk, hg_wi, hg_wz, hP0, hM0, hp0, hp1⟩ := hv
  have hK := hG.1
  have hx := Bd.exec
  have hb := Bd.bytes
  have hr := Bd.returns
  have hts := atoms_spec (ws := (jw yX4_sizeOf cX4_sizeOf 2 (some .int))) Bd.pre
  have htw : ∀ w ∈ jWl, w.before _ s = true := fun w h => hts w (List.mem_cons_of_mem _ h)
  have hown : s.vm.findClass RX4 = some m.cls := findClass_of_methodNamed Bd.named
  have hlocks := Bd.notSynchronized
  obtain ⟨Q, hQ⟩ : ∃ Q, Q = MQ below (va_Qi (S := Unit) (fun r u => (a1.toInt < 0 ∨ pv.toInt ≤ a1.toInt ∨ r.toInt = jSo fz a1.toInt)) (fun u t => (jRt (dC, dI) B base G0 EX4_sizeOfW H0 [] t.heap) ∧ jKl [] H0 t.heap) (jA base)) ([.ref r0, .int a1] : List Value).toArray s 0 0 (jA base) := ⟨_, rfl⟩
  rw [← hQ]
  have hl := lv_entry ([.ref r0, .int a1]) (n := 2) (Nat.le_of_ble_eq_true rfl)
  rw [lg_entry_eq]
  generalize (lg_sl ([.ref r0, .int a1]) ++ List.replicate (2 - (lg_sl ([.ref r0, .int a1])).length) Slot.unset).toArray = ls at hl ⊢
  have hl : lv_has ls 2 [(0, .ref r0), (1, .int a1)] := hl
  generalize hR : (headSpec (jw yX4_sizeOf cX4_sizeOf 2 (some .int)) ({ frames := 0, cells := 0, slots := 0, locals := 0 })).room = R
  subst hH0
  have hh : jSt (dC, dI) B base G0 G0 EX4_sizeOfW s.heap 0 0 [(r0, 6, 7, .int pv), (r0, 6, 0, .ref wk), (r0, 6, 1, .ref wi), (r0, 6, 2, .ref wz)] [(wk, 140, 1502, ca 1, fk), (wi, 141, 1502, ca 1, fi), (wz, 142, 1502, ca 1, fz)] [] s.heap [] := jSt.start hX hP0 hM0 jIs.nil
  clear hX hP0
  have hk0 : (0 : Int32).toInt = 0 := by decide
  have hk1 : (1 : Int32).toInt = 1 := by decide
  have hly_6_2 := htw (u_lay RX4 TX4 2) (jWc_wsX40 _ (u_in_lay (by decide)))
  have hly_6_7 := htw (u_lay RX4 TX4 7) (jWc_wsX40 _ (u_in_lay (by decide)))
  have hlk_50 := (htw (.fieldLink RX4 50 "ProofServer$Json" "values" "I") (jWr_19 _ (List.mem_of_getElem? (i := 13) rfl)))
  have hlk_18 := (htw (.fieldLink RX4 18 "ProofServer$Json" "sizes" "[I") (jWr_3 _ (List.mem_of_getElem? (i := 23) rfl)))
  have hrg_a1 := jb_rng a1
  have hfl : jKl [] s.heap s.heap := jKl.rf
  refine lv_iload_n hx hb dX4_sizeOf_0 rfl (lv_at hl 1 rfl) ?_
  refine lv_if_lt (tgt := 12) hx hb dX4_sizeOf_1 (by decide) (fun c_1 => ?_) (fun c_1 => ?_)
  · skip
    have c_1' : a1.toInt < 0 := jb_lt (rfl) ((by decide)) c_1
    refine lv_iconst (v := 0) hx hb dX4_sizeOf_12 (by decide) ?_
    refine lv_goto (tgt := 22) hx hb dX4_sizeOf_13 (by decide) ?_
    rw [hQ]
    exact W.iret (v := 0) hx hb hr (fun t ht hW => ⟨⟨0, (), rfl, by first | omega | rfl | assumption | decide | exact Or.inl rfl | exact Or.inr rfl | (simp only; omega), ⟨hh.rt (M1 := []) [] rfl ht, by rw [ht]; exact hfl⟩⟩, by rw [ht]; try exact hh.1.1, fun q h9 hq => by rw [ht]; try exact hh.1.2.1 q h9 hq⟩) hh.1.2.2 dX4_sizeOf_22
  · skip
    have c_1' : a1.toInt ≥ 0 := jb_lt_n (rfl) ((by decide)) c_1
    refine lv_iload_n hx hb dX4_sizeOf_4 rfl (lv_at hl 1 rfl) ?_
    refine lv_aload_n hx hb dX4_sizeOf_5 rfl (lv_at hl 0 rfl) ?_
    refine j7_read hx hb hown hK (C := RX4) (T := TX4) (N := 12) rfl hly_6_7 hlk_50 (hh.at 0 rfl) dX4_sizeOf_6 ?_
    refine lv_icmp_lt (tgt := 16) hx hb dX4_sizeOf_9 (by decide) (fun c_2 => ?_) (fun c_2 => ?_)
    · skip
      have c_2' : a1.toInt < pv.toInt := jb_lt (rfl) (rfl) c_2
      refine lv_aload_n hx hb dX4_sizeOf_16 rfl (lv_at hl 0 rfl) ?_
      refine j7_read hx hb hown hK (C := RX4) (T := TX4) (N := 12) rfl hly_6_2 hlk_18 (hh.at 3 rfl) dX4_sizeOf_17 ?_
      refine lv_iload_n hx hb dX4_sizeOf_20 rfl (lv_at hl 1 rfl) ?_
      refine j7_ialdM hx hb hK hh hB142 1 rfl (by decide) hg_wz (x := a1.toInt) (rfl) (by omega) (j := 2) rfl dX4_sizeOf_21 (fun z_3 ez_3 (hz_3 : True) => ?_)
      have hqz_3 : z_3.toInt = jSo fz (a1.toInt) := by unfold jSo; rw [ez_3]
      rw [hQ]
      exact W.iret (v := z_3) hx hb hr (fun t ht hW => ⟨⟨z_3, (), rfl, by first | omega | rfl | assumption | decide | exact Or.inl rfl | exact Or.inr rfl | (simp only; omega), ⟨hh.rt (M1 := []) [] rfl ht, by rw [ht]; exact hfl⟩⟩, by rw [ht]; try exact hh.1.1, fun q h9 hq => by rw [ht]; try exact hh.1.2.1 q h9 hq⟩) hh.1.2.2 dX4_sizeOf_22
    · skip
      have c_2' : a1.toInt ≥ pv.toInt := jb_lt_n (rfl) (rfl) c_2
      refine lv_iconst (v := 0) hx hb dX4_sizeOf_12 (by decide) ?_
      refine lv_goto (tgt := 22) hx hb dX4_sizeOf_13 (by decide) ?_
      rw [hQ]
      exact W.iret (v := 0) hx hb hr (fun t ht hW => ⟨⟨0, (), rfl, by first | omega | rfl | assumption | decide | exact Or.inl rfl | exact Or.inr rfl | (simp only; omega), ⟨hh.rt (M1 := []) [] rfl ht, by rw [ht]; exact hfl⟩⟩, by rw [ht]; try exact hh.1.1, fun q h9 hq => by rw [ht]; try exact hh.1.2.1 q h9 hq⟩) hh.1.2.2 dX4_sizeOf_22
set_option maxHeartbeats 4000000 in
set_option maxRecDepth 20000 in
theorem uX4_unitsOfS (l : Launch) (dC : Nat → ClassId) (dI : Nat → Nat → Nat) (ca : Nat → ClassId) (base : Nat) (B : jF) (hB : jBok B) (hAp : jAp (dC, dI)) (hB6 : ∀ n G a H, B 6 n G a H ↔ jOb (dC, dI) 6 12 (F6 n G) a H) (hB101 : ∀ n G a H, B 101 n G a H ↔ jAr (dC, dI) (ca 1) (fun j z => True) n a H) (hB140 : ∀ n G a H, B 140 n G a H ↔ jAr (dC, dI) (ca 1) (fun j z => True) n a H) (hB141 : ∀ n G a H, B 141 n G a H ↔ jAr (dC, dI) (ca 1) (fun j z => True) n a H) (hB142 : ∀ n G a H, B 142 n G a H ↔ jAr (dC, dI) (ca 1) (fun j z => True) n a H) (hB146 : ∀ n G a H, B 146 n G a H ↔ jAr (dC, dI) (ca 1) (fun j z => True) n a H) (G0 : jT) (H0 : Heap) (r0 : Nat) (a1 : Int32) (pv : Int32) (wk : Nat) (wi : Nat) (wz : Nat) (fk : Nat → Int32) (fi : Nat → Int32) (fz : Nat → Int32) (LC LS : Nat) : Met l yX4_unitsOf (jw yX4_unitsOf cX4_unitsOf 4 (some (.array .int))) ({ frames := 2, cells := LC - H0.size, slots := LS - jTot H0, locals := 44 }) (va_Pc [.ref r0, .int a1] (fun U => U.heap = H0 ∧ jX B base G0 [] H0 ∧ jG dC dI ca base U ∧ G0 r0 = some (6, 0) ∧ G0 wk = some (140, 1502) ∧ G0 wi = some (141, 1502) ∧ G0 wz = some (142, 1502) ∧ jP (dC, dI) G0 H0 [(r0, 6, 7, .int pv), (r0, 6, 0, .ref wk), (r0, 6, 1, .ref wi), (r0, 6, 2, .ref wz)] ∧ jMc (dC, dI) G0 H0 [(wk, 140, 1502, ca 1, fk), (wi, 141, 1502, ca 1, fi), (wz, 142, 1502, ca 1, fz)] ∧ H0.size + 1 ≤ LC ∧ jTot H0 + 3000 ≤ LS ∧ 0 ≤ pv.toInt ∧ pv.toInt ≤ 1502 ∧ jJq fk fi fz pv.toInt)) (jQx (S := Nat × jT) (fun v u => jRf u.2 101 u.1 v ∧ jNwv v H0 ∧ u.1 ≤ 3000 ∧ (u.1 = 0 ∨ u.1 = jSo fz a1.toInt)) (fun u t => jRa (dC, dI) B base G0 u.2 EX4_unitsOfS H0 (1) (u.1) [] t.heap ∧ (jNk [0, 1, 2, 3, 4, 5, 6, 7, 8, 9, 10, 11, 12, 13, 14, 15, 16]) G0 u.2) (jA base)) (LC - H0.size) (LS - jTot H0) (jA base) := by
  refine Met.ofW (cc := cX4_unitsOf) (maxL := 4) (ret := (some (.array .int))) (by decide) rfl ?_
  intro p e s m args below meth c s₁ Bd hml hv
  obtain ⟨rfl, hH0, hX, hG, hg_r0, hg_wk, hg_wi, hg_wz, hP0, hM0, hLC0, hLS0, hp0, hp1, hp2⟩ := hv
  have hK := hG.1
  have hx := Bd.exec
  have hb := Bd.bytes
  have hr := Bd.returns
  have hts := atoms_spec (ws := (jw yX4_unitsOf cX4_unitsOf 4 (some (.array .int)))) Bd.pre
  have htw : ∀ w ∈ jWl, w.before _ s = true := fun w h => hts w (List.mem_cons_of_mem _ h)
  have hown : s.vm.findClass RX4 = some m.cls := findClass_of_methodNamed Bd.named
  have hlocks := Bd.notSynchronized
  obtain ⟨Q, hQ⟩ : ∃ Q, Q = MQ below (jQx (S := Nat × jT) (fun v u => jRf u.2 101 u.1 v ∧ jNwv v H0 ∧ u.1 ≤ 3000 ∧ (u.1 = 0 ∨ u.1 = jSo fz a1.toInt)) (fun u t => jRa (dC, dI) B base G0 u.2 EX4_unitsOfS H0 (1) (u.1) [] t.heap ∧ (jNk [0, 1, 2, 3, 4, 5, 6, 7, 8, 9, 10, 11, 12, 13, 14, 15, 16]) G0 u.2) (jA base)) ([.ref r0, .int a1] : List Value).toArray s (LC - H0.size) (LS - jTot H0) (jA base) := ⟨_, rfl⟩
  rw [← hQ]
  have hl := lv_entry ([.ref r0, .int a1]) (n := 4) (Nat.le_of_ble_eq_true rfl)
  rw [lg_entry_eq]
  generalize (lg_sl ([.ref r0, .int a1]) ++ List.replicate (4 - (lg_sl ([.ref r0, .int a1])).length) Slot.unset).toArray = ls at hl ⊢
  have hl : lv_has ls 4 [(0, .ref r0), (1, .int a1)] := hl
  generalize hR : (headSpec (jw yX4_unitsOf cX4_unitsOf 4 (some (.array .int))) ({ frames := 2, cells := LC - H0.size, slots := LS - jTot H0, locals := 44 })).room = R
  subst hH0
  have hh : jSt (dC, dI) B base G0 G0 EX4_unitsOfS s.heap 0 0 [(r0, 6, 7, .int pv), (r0, 6, 0, .ref wk), (r0, 6, 1, .ref wi), (r0, 6, 2, .ref wz)] [(wk, 140, 1502, ca 1, fk), (wi, 141, 1502, ca 1, fi), (wz, 142, 1502, ca 1, fz)] [] s.heap [] := jSt.start hX hP0 hM0 jIs.nil
  clear hX hP0
  have hk0 : (0 : Int32).toInt = 0 := by decide
  have hk1 : (1 : Int32).toInt = 1 := by decide
  have hk3 : (3 : Int32).toInt = 3 := by decide
  have hly_6_2 := htw (u_lay RX4 TX4 2) (jWc_wsX40 _ (u_in_lay (by decide)))
  have hlk_18 := (htw (.fieldLink RX4 18 "ProofServer$Json" "sizes" "[I") (jWr_3 _ (List.mem_of_getElem? (i := 23) rfl)))
  have hrg_a1 := jb_rng a1
  have hbs : base ≤ s.heap.size := Nat.le_of_lt (Nat.lt_of_le_of_lt (hh.ab hg_r0).1 (hh.ab hg_r0).2)
  have hRc : R.cells = LC - s.heap.size := by rw [← hR]; rfl
  have hRs : R.slots = LS - jTot s.heap := by rw [← hR]; rfl
  refine lv_aload_n hx hb dX4_unitsOf_0 rfl (lv_at hl 0 rfl) ?_
  refine lv_iload_n hx hb dX4_unitsOf_1 rfl (lv_at hl 1 rfl) ?_
  have hsz_1 := hh.2.2.2.2.2.1
  have htt_1 := hh.2.2.2.2.2.2.1
  refine W.room (fun hrc_1 hrs_1 => ?_)
  refine va_calli (A0 := jA base) (H0 := s.heap) (va_runV (As := [.int a1]) (rest := []) ⟨hx, hb, hml, hown, hts⟩ (uX4_kindOfK l dC dI ca base B hB hAp hB6 hB140 G0 s.heap r0 a1 pv wk wi wz fk fi fz) (cwV 1 hts (jgV (jWr_23 _ (List.mem_of_getElem? (i := 14) rfl)) (jWr_23 _ (List.mem_of_getElem? (i := 15) rfl)) (jWr_23 _ (List.mem_of_getElem? (i := 16) rfl)) (jWr_1 _ (List.mem_of_getElem? (i := 22) rfl)) (jWr_23 _ (List.mem_of_getElem? (i := 17) rfl))) rfl rfl rfl (by decide +kernel) ⟨by rw [← hR]; exact Nat.le_of_ble_eq_true rfl, by rw [← hR]; exact Nat.le_of_ble_eq_true rfl⟩) ⟨fun a U g mk q => by obtain ⟨q0, q1, q2, qK, q10, q11, q12, q13, q14, q15, q16⟩ := q; exact ⟨q0, q1, q2, jG.calling g mk a qK, q10, q11, q12, q13, q14, q15, q16⟩, hh.recv (C := RX4) (T := TX4) (N := 12) hB6 rfl (by decide) hg_r0 hK, fun U hU hW => ⟨rfl, hU, hh.2.1, hG.step hW hU hh.1, hg_r0, hg_wk, hg_wi, hg_wz, (hh.2.2.1.sub (L1 := [(r0, 6, 7, .int pv), (r0, 6, 0, .ref wk), (r0, 6, 1, .ref wi), (r0, 6, 2, .ref wz)]) [0, 1, 2, 3] rfl), (hh.2.2.2.2.2.2.2.1.sub (L1 := [(wk, 140, 1502, ca 1, fk), (wi, 141, 1502, ca 1, fi), (wz, 142, 1502, ca 1, fz)]) [0, 1, 2] rfl), by first | omega | (refine ⟨?_, ?_⟩ <;> (first | omega | rfl | assumption | decide | exact Or.inl rfl | exact Or.inr rfl | (simp only; omega)))⟩⟩ rfl rfl hl.1 rfl (lv_room (Nat.le_of_ble_eq_true rfl)) dX4_unitsOf_2 ⟨by rw [hRc]; show _ + 0 ≤ _; omega, by rw [hRs]; show _ + 0 ≤ _; omega⟩) hh.1 (fun q _ h => h) (fun q h => h) (fun r_2 u_1 t_1 H_1 locs_1 ht_1 hvm_1 hr_2 hb_1 hz_1 hk_1 hS_1 => ?_)
  rw [ht_1] at hb_1
  obtain ⟨hb_11, hb_12, hb_13, hb_14, hb_15⟩ := hb_1
  have hh_1 : jSt (dC, dI) B base G0 G0 EX4_unitsOfS s.heap 0 0 [(r0, 6, 7, .int pv), (r0, 6, 0, .ref wk), (r0, 6, 1, .ref wi), (r0, 6, 2, .ref wz)] [(wk, 140, 1502, ca 1, fk), (wi, 141, 1502, ca 1, fi), (wz, 142, 1502, ca 1, fz)] [] H_1 locs_1 := ((hh.call hb_11 hb_12 hb_13 hb_14 hS_1 rfl (L1 := [(r0, 6, 7, .int pv), (r0, 6, 0, .ref wk), (r0, 6, 1, .ref wi), (r0, 6, 2, .ref wz)]) [0, 1, 2, 3] rfl rfl (M1 := [(wk, 140, 1502, ca 1, fk), (wi, 141, 1502, ca 1, fi), (wz, 142, 1502, ca 1, fz)]) [0, 1, 2] rfl rfl (I1 := []) [] rfl rfl).more hb_15)
  clear hh ht_1 hvm_1 hz_1 hk_1 hS_1 hb_11 hb_12 hb_13 hb_14 hb_15
  refine lv_iconst (v := 3) hx hb dX4_unitsOf_5 (by decide) ?_
  have C23 : ∀ (w0_3 : Int32) (H_3 : Heap) (locs_3 : List Loc), jSt (dC, dI) B base G0 G0 EX4_unitsOfS s.heap 0 0 [(r0, 6, 7, .int pv), (r0, 6, 0, .ref wk), (r0, 6, 1, .ref wi), (r0, 6, 2, .ref wz)] [(wk, 140, 1502, ca 1, fk), (wi, 141, 1502, ca 1, fi), (wz, 142, 1502, ca 1, fz)] [] H_3 locs_3 → (0 ≤ w0_3.toInt ∧ w0_3.toInt ≤ 3000 ∧ (w0_3.toInt = 0 ∨ w0_3.toInt = jSo fz a1.toInt)) → ∀ ls : Array Slot, lv_has ls 4 [(0, .ref r0), (1, .int a1)] → W p l e R s m ([.ref r0, .int a1] : List Value).toArray below meth c H_3 locs_3 0 0 Q (F0 m 23 ls [.int w0_3]) := by
    intro w0_3 H_3 locs_3 hh_3  hi_3 ls hl
    obtain ⟨hi_3_0, hi_3_1, hi_3_2⟩ := hi_3
    try clear hr_2
    have hsz_4 := hh_3.2.2.2.2.2.1
    have htt_4 := hh_3.2.2.2.2.2.2.1
    refine j7_newiK hx hb hK hh_3 hB (atype := .int) (ty := .int) (htw (.arrayClass .int) (jWr_3 _ (List.mem_of_getElem? (i := 20) rfl))) rfl rfl (fun _ h => h) hB101 1 rfl (by decide) (by decide) hbs (x := w0_3.toInt) rfl (by omega) (fun j => by first | trivial | decide | rfl | exact Or.inl rfl | (refine ⟨?_, ?_⟩ <;> decide)) (by rw [hRc]; omega) (by rw [hRs]; omega) dX4_unitsOf_23 (fun H_4 hfr_4 hh_4 => ?_)
    have hh_4 : jSt (dC, dI) B base G0 (va_up G0 H_3.size (some (101, (w0_3.toInt).toNat))) EX4_unitsOfS s.heap (0 + 1) (0 + (w0_3.toInt).toNat) [(r0, 6, 7, .int pv), (r0, 6, 0, .ref wk), (r0, 6, 1, .ref wi), (r0, 6, 2, .ref wz)] [(wk, 140, 1502, ca 1, fk), (wi, 141, 1502, ca 1, fi), (wz, 142, 1502, ca 1, fz)] [] H_4 locs_3 := hh_4
    have hN_4 : (jNk [0, 1, 2, 3, 4, 5, 6, 7, 8, 9, 10, 11, 12, 13, 14, 15, 16]) G0 (va_up G0 H_3.size (some (101, (w0_3.toInt).toNat))) := jNk.new (by decide)
    have hgn_4 : (va_up G0 H_3.size (some (101, (w0_3.toInt).toNat))) H_3.size = some (101, (w0_3.toInt).toNat) := jUp_self
    have hle_4 : jLe G0 (va_up G0 H_3.size (some (101, (w0_3.toInt).toNat))) := jLe.new hh_3.2.1.fresh
    have hke_4 : jKe G0 (va_up G0 H_3.size (some (101, (w0_3.toInt).toNat))) H_3 H_4 := jKe.new hfr_4
    have hsy_4 : s.heap.size ≤ H_3.size := hh_3.1.1
    generalize (va_up G0 H_3.size (some (101, (w0_3.toInt).toNat))) = G_4 at hN_4 hgn_4 hle_4 hke_4 hh_4
    generalize hnc_4 : (w0_3.toInt).toNat = nc_4 at hgn_4 hh_4 ⊢
    clear hh_3
    have hNn_4 : (jNk [0, 1, 2, 3, 4, 5, 6, 7, 8, 9, 10, 11, 12, 13, 14, 15, 16]) G0 G_4 := (jNk.rf).tr hN_4
    have hg_5 := hle_4 _ _ hg_r0
    have hg_6 := hle_4 _ _ hg_wk
    have hg_7 := hle_4 _ _ hg_wi
    have hg_8 := hle_4 _ _ hg_wz
    refine lv_astore_n (lv' := [(2, .ref H_3.size), (0, .ref r0), (1, .int a1)]) hx hb dX4_unitsOf_25 rfl hl (by decide) rfl (fun ls hl => ?_)
    refine lv_iconst (v := 0) hx hb dX4_unitsOf_26 (by decide) ?_
    refine lv_istore_n (lv' := [(3, .int 0), (2, .ref H_3.size), (0, .ref r0), (1, .int a1)]) hx hb dX4_unitsOf_27 rfl hl (by decide) rfl (fun ls hl => ?_)
    have L28 : ∀ (N : Nat) (v3_9 : Int32) (H_9 : Heap) (locs_9 : List Loc), jSt (dC, dI) B base G0 G_4 EX4_unitsOfS s.heap (0 + 1) (0 + nc_4) [(r0, 6, 7, .int pv), (r0, 6, 0, .ref wk), (r0, 6, 1, .ref wi), (r0, 6, 2, .ref wz)] [(wk, 140, 1502, ca 1, fk), (wi, 141, 1502, ca 1, fi), (wz, 142, 1502, ca 1, fz)] [] H_9 locs_9 → (0 ≤ v3_9.toInt ∧ v3_9.toInt ≤ 3000) → (3001 - v3_9.toInt : Int) < N → ∀ ls : Array Slot, lv_has ls 4 [(0, .ref r0), (1, .int a1), (2, .ref H_3.size), (3, .int v3_9)] → W p l e R s m ([.ref r0, .int a1] : List Value).toArray below meth c H_9 locs_9 (0 + 1) (0 + nc_4) Q (F0 m 28 ls []) := by
      intro N
      induction N with
      | zero => intro v3_9 H_9 locs_9 hh_9  hi_9 hm; exact absurd hm (by omega)
      | succ N L28 =>
        intro v3_9 H_9 locs_9 hh_9  hi_9 hm_9 ls hl
        obtain ⟨hi_9_0, hi_9_1⟩ := hi_9
        refine lv_iload_n hx hb dX4_unitsOf_28 rfl (lv_at hl 3 rfl) ?_
        refine lv_aload_n hx hb dX4_unitsOf_29 rfl (lv_at hl 2 rfl) ?_
        refine j7_len hx hb hK hh_9 hB101 1 rfl (by decide) hgn_4 (by omega) dX4_unitsOf_30 (fun z_10 hz_10 => ?_)
        refine lv_icmp_ge (tgt := 49) hx hb dX4_unitsOf_31 (by decide) (fun c_11 => ?_) (fun c_11 => ?_)
        · skip
          have c_11' : v3_9.toInt ≥ z_10.toInt := jb_ge (rfl) (rfl) c_11
          refine lv_aload_n hx hb dX4_unitsOf_49 rfl (lv_at hl 2 rfl) ?_
          have hsz_12 := hh_9.2.2.2.2.2.1
          have htt_12 := hh_9.2.2.2.2.2.2.1
          refine W.room (fun hrc_12 hrs_12 => ?_)
          refine W.widen (k := LC - s.heap.size) (n := LS - jTot s.heap) (by omega) (by omega) ?_
          rw [hQ]
          exact W.aret (v := .ref H_3.size) hx hb hr (Or.inr ⟨_, rfl⟩) (Or.inr ⟨_, rfl⟩) (fun t ht hW => ⟨⟨.ref H_3.size, (nc_4, G_4), rfl, ⟨⟨_, rfl, hgn_4⟩, ⟨_, rfl, hsy_4⟩, by (try dsimp only); exact ⟨(by first | omega | rfl | assumption | fail), (by first | omega | rfl | assumption | fail)⟩⟩, ⟨hh_9.ra (by first | omega | (simp only; omega)) (by first | omega | (simp only; omega)) (M1 := []) [] rfl ht, hNn_4⟩⟩, by rw [ht]; try exact hh_9.1.1, fun q h9 hq => by rw [ht]; try exact hh_9.1.2.1 q h9 hq⟩) hh_9.1.2.2 dX4_unitsOf_50
        · skip
          have c_11' : v3_9.toInt < z_10.toInt := jb_ge_n (rfl) (rfl) c_11
          refine lv_aload_n hx hb dX4_unitsOf_34 rfl (lv_at hl 2 rfl) ?_
          refine lv_iload_n hx hb dX4_unitsOf_35 rfl (lv_at hl 3 rfl) ?_
          refine lv_aload_n hx hb dX4_unitsOf_36 rfl (lv_at hl 0 rfl) ?_
          refine lv_iload_n hx hb dX4_unitsOf_37 rfl (lv_at hl 1 rfl) ?_
          refine lv_iload_n hx hb dX4_unitsOf_38 rfl (lv_at hl 3 rfl) ?_
          have hsz_13 := hh_9.2.2.2.2.2.1
          have htt_13 := hh_9.2.2.2.2.2.2.1
          refine W.room (fun hrc_13 hrs_13 => ?_)
          refine va_calli (A0 := jA base) (H0 := s.heap) (va_runV (As := [.int a1, .int v3_9]) (rest := [.int v3_9, .ref H_3.size]) ⟨hx, hb, hml, hown, hts⟩ (uX4_unitAt l dC dI ca base B hB hAp hB6 hB140 hB141 hB142 hB146 G_4 H_9 r0 a1 v3_9) (cwV 2 hts (jgV (jWr_25 _ (List.mem_of_getElem? (i := 4) rfl)) (jWr_25 _ (List.mem_of_getElem? (i := 5) rfl)) (jWr_25 _ (List.mem_of_getElem? (i := 6) rfl)) (jWr_1 _ (List.mem_of_getElem? (i := 22) rfl)) (jWr_25 _ (List.mem_of_getElem? (i := 7) rfl))) rfl rfl rfl (by decide +kernel) ⟨by rw [← hR]; exact Nat.le_of_ble_eq_true rfl, by rw [← hR]; exact Nat.le_of_ble_eq_true rfl⟩) ⟨fun a U g mk q => by obtain ⟨q0, q1, q2, qK, q10, q11, q12⟩ := q; exact ⟨q0, q1, q2, jG.calling g mk a qK, q10, q11, q12⟩, hh_9.recv (C := RX4) (T := TX4) (N := 12) hB6 rfl (by decide) hg_5 hK, fun U hU hW => ⟨rfl, hU, hh_9.2.1, hG.step hW hU hh_9.1, hg_5, jP.nil, trivial⟩⟩ rfl rfl hl.1 rfl (lv_room (Nat.le_of_ble_eq_true rfl)) dX4_unitsOf_39 ⟨by rw [hRc]; show _ + 0 ≤ _; omega, by rw [hRs]; show _ + 0 ≤ _; omega⟩) hh_9.1 (fun q _ h => h) (fun q h => h) (fun r_14 u_13 t_13 H_13 locs_13 ht_13 hvm_13 hr_14 hb_13 hz_13 hk_13 hS_13 => ?_)
          rw [ht_13] at hb_13
          obtain ⟨hb_131, hb_132, hb_133, hb_134, hb_135⟩ := hb_13
          have hh_13 : jSt (dC, dI) B base G0 G_4 EX4_unitsOfS s.heap (0 + 1) (0 + nc_4) [(r0, 6, 7, .int pv), (r0, 6, 0, .ref wk), (r0, 6, 1, .ref wi), (r0, 6, 2, .ref wz)] [(wk, 140, 1502, ca 1, fk), (wi, 141, 1502, ca 1, fi), (wz, 142, 1502, ca 1, fz)] [] H_13 locs_13 := ((hh_9.call hb_131 hb_132 hb_133 hb_134 hS_13 rfl (L1 := [(r0, 6, 7, .int pv), (r0, 6, 0, .ref wk), (r0, 6, 1, .ref wi), (r0, 6, 2, .ref wz)]) [0, 1, 2, 3] rfl rfl (M1 := [(wk, 140, 1502, ca 1, fk), (wi, 141, 1502, ca 1, fi), (wz, 142, 1502, ca 1, fz)]) [0, 1, 2] rfl rfl (I1 := []) [] rfl rfl).more hb_135)
          clear hh_9 ht_13 hvm_13 hz_13 hk_13 hS_13 hb_131 hb_132 hb_133 hb_134 hb_135
          refine j7_iast hx hb hK hh_13 hB hB101 1 rfl (by decide) (by decide) rfl rfl rfl hgn_4 (x := v3_9.toInt) (rfl) (by omega) (trivial) dX4_unitsOf_42 (fun H_15 locs_15 hh_15 => ?_)
          clear hh_13
          obtain ⟨z_16, ez_16⟩ : ∃ y : Int32, y = v3_9 + 1 := ⟨_, rfl⟩
          refine lv_iinc (v := z_16) (lv' := [(3, .int z_16), (0, .ref r0), (1, .int a1), (2, .ref H_3.size)]) hx hb dX4_unitsOf_43 hl (k := 3) rfl (by rw [ez_16]; rfl) (by decide) rfl (fun ls hl => ?_)
          have hz_16 : z_16.toInt = v3_9.toInt + 1 := by rw [ez_16]; exact jb_iadd2 (rfl) (by decide) (by omega)
          refine lv_goto (tgt := 28) hx hb dX4_unitsOf_46 (by decide) ?_
          refine W.tight (c2 := (0 + 1)) (n2 := (0 + nc_4)) hh_15.2.2.2.2.2.1 hh_15.2.2.2.2.2.2.1 ?_
          exact L28 z_16 _ _ hh_15 (by first | omega | (refine ⟨?_, ?_⟩ <;> (first | omega | rfl | assumption | decide | exact Or.inl rfl | exact Or.inr rfl | (simp only; omega)))) (by omega) _ (lv_sub hl [1, 2, 3, 0] rfl)
    refine W.tight (c2 := (0 + 1)) (n2 := (0 + nc_4)) hh_4.2.2.2.2.2.1 hh_4.2.2.2.2.2.2.1 ?_
    exact L28 (3001 - (0 : Int32).toInt : Int).toNat.succ 0 _ _ hh_4 (by first | omega | (refine ⟨?_, ?_⟩ <;> (first | omega | rfl | assumption | decide | exact Or.inl rfl | exact Or.inr rfl | (simp only; omega)))) (by omega) _ (lv_sub hl [2, 3, 1, 0] rfl)
  refine lv_icmp_ne (tgt := 22) hx hb dX4_unitsOf_6 (by decide) (fun c_17 => ?_) (fun c_17 => ?_)
  · skip
    have c_17' : r_2.toInt ≠ 3 := jb_ne (rfl) ((by decide)) c_17
    try clear hr_2
    refine lv_iconst (v := 0) hx hb dX4_unitsOf_22 (by decide) ?_
    refine W.tight (c2 := 0) (n2 := 0) hh_1.2.2.2.2.2.1 hh_1.2.2.2.2.2.2.1 ?_
    exact C23 0 _ _ hh_1 (by first | omega | (refine ⟨?_, ?_, ?_⟩ <;> (first | omega | rfl | assumption | decide | exact Or.inl rfl | exact Or.inr rfl | (simp only; omega)))) _ (lv_sub hl [0, 1] rfl)
  · skip
    have c_17' : r_2.toInt = 3 := jb_ne_n (rfl) ((by decide)) c_17
    first | (have hr_2q := hr_2.resolve_left (by omega); clear hr_2) | (have hr_2q := hr_2.resolve_right (by omega); clear hr_2) | try clear hr_2
    have hj3 := hp2 a1.toInt (by omega) (by omega) (by omega)
    refine lv_aload_n hx hb dX4_unitsOf_9 rfl (lv_at hl 0 rfl) ?_
    refine j7_read hx hb hown hK (C := RX4) (T := TX4) (N := 12) rfl hly_6_2 hlk_18 (hh_1.at 3 rfl) dX4_unitsOf_10 ?_
    refine lv_iload_n hx hb dX4_unitsOf_13 rfl (lv_at hl 1 rfl) ?_
    refine j7_ialdM hx hb hK hh_1 hB142 1 rfl (by decide) hg_wz (x := a1.toInt) (rfl) (by omega) (j := 2) rfl dX4_unitsOf_14 (fun z_18 ez_18 (hz_18 : True) => ?_)
    have hqz_18 : z_18.toInt = jSo fz (a1.toInt) := by unfold jSo; rw [ez_18]
    refine lv_iconst (v := 0) hx hb dX4_unitsOf_15 (by decide) ?_
    have hsz_19 := hh_1.2.2.2.2.2.1
    have htt_19 := hh_1.2.2.2.2.2.2.1
    refine W.room (fun hrc_19 hrs_19 => ?_)
    refine va_mmax hx hb (by rw [hml]; exact hl.1.symm) hown (htw (.methodLink RX4 86 Lib.Math.max.name) (jWr_25 _ (List.mem_of_getElem? (i := 3) rfl))) (htw (.static Lib.Math.max.name) (jWr_3 _ (List.mem_of_getElem? (i := 6) rfl))) (htw (.initialized "java/lang/Math") (jWr_3 _ (List.mem_of_getElem? (i := 7) rfl))) (htw (.code Lib.Math.max.name Lib.Math.max.code 2 (some .int)) (jWr_3 _ (List.mem_of_getElem? (i := 8) rfl))) (by rw [← hR]; exact Nat.le_of_ble_eq_true rfl) (by rw [← hR]; exact Nat.le_of_ble_eq_true rfl) (by rw [hRc]; omega) (by rw [hRs]; omega) dX4_unitsOf_16 ?_
    refine lv_topi (fun z_20 ez_20 => ?_)
    have hz_20 := jb_max ez_20
    refine lv_goto (tgt := 23) hx hb dX4_unitsOf_19 (by decide) ?_
    refine W.tight (c2 := 0) (n2 := 0) hh_1.2.2.2.2.2.1 hh_1.2.2.2.2.2.2.1 ?_
    exact C23 z_20 _ _ hh_1 (by first | omega | (refine ⟨?_, ?_, ?_⟩ <;> (first | omega | rfl | assumption | decide | exact Or.inl rfl | exact Or.inr rfl | (simp only; omega)))) _ (lv_sub hl [0, 1] rfl)
set_option maxHeartbeats 4000000 in
set_option maxRecDepth 20000 in
theorem uX8_init (l : Launch) (dC : Nat → ClassId) (dI : Nat → Nat → Nat) (ca : Nat → ClassId) (base : Nat) (B : jF) (hB : jBok B) (hAp : jAp (dC, dI)) (hB2 : ∀ n G a H, B 2 n G a H ↔ jOb (dC, dI) 2 2 (F2 n G) a H) (hB6 : ∀ n G a H, B 6 n G a H ↔ jOb (dC, dI) 6 12 (F6 n G) a H) (hB10 : ∀ n G a H, B 10 n G a H ↔ jOb (dC, dI) 10 5 (F10 n G) a H) (hB101 : ∀ n G a H, B 101 n G a H ↔ jAr (dC, dI) (ca 1) (fun j z => True) n a H) (hB140 : ∀ n G a H, B 140 n G a H ↔ jAr (dC, dI) (ca 1) (fun j z => True) n a H) (hB141 : ∀ n G a H, B 141 n G a H ↔ jAr (dC, dI) (ca 1) (fun j z => True) n a H) (hB142 : ∀ n G a H, B 142 n G a H ↔ jAr (dC, dI) (ca 1) (fun j z => True) n a H) (hB146 : ∀ n G a H, B 146 n G a H ↔ jAr (dC, dI) (ca 1) (fun j z => True) n a H) (hB196 : ∀ n G a H, B 196 n G a H ↔ jAr (dC, dI) (ca 0) (fun j z => jBf j z) n a H) (G0 : jT) (H0 : Heap) (r0 : Nat) (r1 : Nat) (a2 : Int32) (pv : Int32) (wk : Nat) (wi : Nat) (wz : Nat) (fk : Nat → Int32) (fi : Nat → Int32) (fz : Nat → Int32) (LC LS : Nat) : Met l yX8_init (jw yX8_init cX8_init 6 none) ({ frames := 6, cells := LC - H0.size, slots := LS - jTot H0, locals := 189 }) (va_Pc [.ref r0, .ref r1, .int a2] (fun U => U.heap = H0 ∧ jX B base G0 [] H0 ∧ jG dC dI ca base U ∧ G0 r1 = some (6, 0) ∧ va_at (dC, dI) vwCl (r0, .inr (10, [.null, .null, .int 0, .int 0, .int 0])) H0 ∧ (∀ t, G0 r0 ≠ some t) ∧ base ≤ r0 ∧ G0 wk = some (140, 1502) ∧ G0 wi = some (141, 1502) ∧ G0 wz = some (142, 1502) ∧ jP (dC, dI) G0 H0 [(r1, 6, 7, .int pv), (r1, 6, 0, .ref wk), (r1, 6, 1, .ref wi), (r1, 6, 2, .ref wz)] ∧ jMc (dC, dI) G0 H0 [(wk, 140, 1502, ca 1, fk), (wi, 141, 1502, ca 1, fi), (wz, 142, 1502, ca 1, fz)] ∧ jIs (dC, dI) G0 H0 [(jFy, jYb dC dI G0)] ∧ H0.size + 12 ≤ LC ∧ jTot H0 + 3300 ≤ LS ∧ 0 ≤ pv.toInt ∧ pv.toInt ≤ 1502 ∧ jJq fk fi fz pv.toInt)) (va_Qv (S := jT) (fun u => True) (fun u t => jRa (dC, dI) B base G0 u EX8_init H0 (10) (262) [] t.heap ∧ (jNk [0, 1, 3, 4, 5, 6, 7, 8, 9, 11, 12, 13, 14, 15, 16]) G0 u ∧ jOl (dC, dI) G0 2 [] H0 t.heap ∧ u r0 = some (10, 0) ∧ jIs (dC, dI) u t.heap [(jFy, jYb dC dI u)]) (jA base)) (LC - H0.size) (LS - jTot H0) (jA base) := by
  refine Met.ofW (cc := cX8_init) (maxL := 6) (ret := none) (by decide) rfl ?_
  intro p e s m args below meth c s₁ Bd hml hv
  obtain ⟨rfl, hH0, hX, hG, hg_r1, hraw0, hnr0, hbr0, hg_wk, hg_wi, hg_wz, hP0, hM0, hI0, hLC0, hLS0, hp0, hp1, hp2⟩ := hv
  have hK := hG.1
  have hx := Bd.exec
  have hb := Bd.bytes
  have hr := Bd.returns
  have hts := atoms_spec (ws := (jw yX8_init cX8_init 6 none)) Bd.pre
  have htw : ∀ w ∈ jWl, w.before _ s = true := fun w h => hts w (List.mem_cons_of_mem _ h)
  have hown : s.vm.findClass RX8 = some m.cls := findClass_of_methodNamed Bd.named
  have hlocks := Bd.notSynchronized
  obtain ⟨Q, hQ⟩ : ∃ Q, Q = MQ below (va_Qv (S := jT) (fun u => True) (fun u t => jRa (dC, dI) B base G0 u EX8_init H0 (10) (262) [] t.heap ∧ (jNk [0, 1, 3, 4, 5, 6, 7, 8, 9, 11, 12, 13, 14, 15, 16]) G0 u ∧ jOl (dC, dI) G0 2 [] H0 t.heap ∧ u r0 = some (10, 0) ∧ jIs (dC, dI) u t.heap [(jFy, jYb dC dI u)]) (jA base)) ([.ref r0, .ref r1, .int a2] : List Value).toArray s (LC - H0.size) (LS - jTot H0) (jA base) := ⟨_, rfl⟩
  rw [← hQ]
  have hl := lv_entry ([.ref r0, .ref r1, .int a2]) (n := 6) (Nat.le_of_ble_eq_true rfl)
  rw [lg_entry_eq]
  generalize (lg_sl ([.ref r0, .ref r1, .int a2]) ++ List.replicate (6 - (lg_sl ([.ref r0, .ref r1, .int a2])).length) Slot.unset).toArray = ls at hl ⊢
  have hl : lv_has ls 6 [(0, .ref r0), (1, .ref r1), (2, .int a2)] := hl
  generalize hR : (headSpec (jw yX8_init cX8_init 6 none) ({ frames := 6, cells := LC - H0.size, slots := LS - jTot H0, locals := 189 })).room = R
  subst hH0
  have hh : jSt (dC, dI) B base G0 G0 EX8_init s.heap 0 0 [(r1, 6, 7, .int pv), (r1, 6, 0, .ref wk), (r1, 6, 1, .ref wi), (r1, 6, 2, .ref wz)] [(wk, 140, 1502, ca 1, fk), (wi, 141, 1502, ca 1, fi), (wz, 142, 1502, ca 1, fz)] [(jFy, jYb dC dI G0)] s.heap [] := jSt.start hX hP0 hM0 hI0
  clear hX hP0
  have hkm1 : ((-1) : Int32).toInt = (-1) := by decide
  have hk0 : (0 : Int32).toInt = 0 := by decide
  have hk1 : (1 : Int32).toInt = 1 := by decide
  have hk3 : (3 : Int32).toInt = 3 := by decide
  have hk4 : (4 : Int32).toInt = 4 := by decide
  have hk16 : (16 : Int32).toInt = 16 := by decide
  have hk20 : (20 : Int32).toInt = 20 := by decide
  have hly_10_0 := htw (u_lay RX8 TX8 0) (jWc_wsX80 _ (u_in_lay (by decide)))
  have hly_10_4 := htw (u_lay RX8 TX8 4) (jWc_wsX80 _ (u_in_lay (by decide)))
  have hlk_9 := (htw (.fieldLink RX8 9 "ProofServer$Request" "name" "I") (jWr_24 _ (List.mem_of_getElem? (i := 2) rfl)))
  have hlk_29 := (htw (.fieldLink RX8 29 "ProofServer$Request" "id" "LProofServer$Bytes;") (jWr_24 _ (List.mem_of_getElem? (i := 4) rfl)))
  have hrg_a2 := jb_rng a2
  have hbs : base ≤ s.heap.size := Nat.le_of_lt (Nat.lt_of_le_of_lt hbr0 hraw0.lt)
  have hRc : R.cells = LC - s.heap.size := by rw [← hR]; rfl
  have hRs : R.slots = LS - jTot s.heap := by rw [← hR]; rfl
  have hnew0 : ∀ a, s.heap.size ≤ a → ∀ t, G0 a ≠ some t := fun a ha t ht => absurd (hh.ab ht).2 (Nat.not_lt.mpr ha)
  have hh_1 := hh.addI (jOl.ie (dC := dC) (dI := dI) (G0 := G0) (k := 2) (rs := []) (H0 := s.heap) (F := [(2, 0), (2, 1)]) (C := RX0) (T := TX0) (N := 2) rfl (by decide) hh.2.2.2.2.1 (jOl.rf))
  clear hh
  have hin2 : meth.name = "<init>" := (name_of_methodNamed Bd.named Bd.method).1
  refine lv_aload_n hx hb dX8_init_0 rfl (lv_at hl 0 rfl) ?_
  refine W.objInit hx hb hown (htw (.methodLink RX8 3 objectInit) (jWr_24 _ (List.mem_of_getElem? (i := 1) rfl))) (htw (.instanceMethod objectInit) (jWr_1 _ (List.mem_of_getElem? (i := 10) rfl))) (htw (.code objectInit ⟨#[0xb1]⟩ 1 none) (jWr_1 _ (List.mem_of_getElem? (i := 11) rfl))) rfl (by rw [hml]; exact hl.1) rfl dX8_init_1 (by rw [← hR]; exact Nat.le_of_ble_eq_true rfl) (by rw [← hR]; exact Nat.le_of_ble_eq_true rfl) ?_
  refine W.eq (g2 := F0 m 4 ls []) rfl ?_
  refine lv_aload_n hx hb dX8_init_4 rfl (lv_at hl 0 rfl) ?_
  refine lv_iconst (v := (-1)) hx hb dX8_init_5 (by decide) ?_
  refine j7_putR hx hb hown hK hh_1 hB hAp hraw0 hnr0 hbr0 (C := RX8) (T := TX8) (N := 5) rfl (i := 4) (by decide) (Nat.le_of_ble_eq_true rfl) hly_10_4 rfl hlk_9 (ty := .int) (v := .int (-1)) (by decide +kernel) rfl rfl dX8_init_6 (fun H_2 locs_2 hraw_2 hr_2 hh_2 => ?_)
  have hraw_2 : va_at (dC, dI) vwCl (r0, .inr (10, [.null, .null, .int 0, .int 0, .int (-1)])) H_2 := hraw_2
  clear hh_1
  refine lv_aload_n hx hb dX8_init_9 rfl (lv_at hl 1 rfl) ?_
  refine lv_iload_n hx hb dX8_init_10 rfl (lv_at hl 2 rfl) ?_
  have hsz_3 := hh_2.2.2.2.2.2.1
  have htt_3 := hh_2.2.2.2.2.2.2.1
  refine W.room (fun hrc_3 hrs_3 => ?_)
  refine va_calli (A0 := jA base) (H0 := s.heap) (va_runV (As := [.int a2]) (rest := []) ⟨hx, hb, hml, hown, hts⟩ (uX4_kindOfW l dC dI ca base B hB hAp hB6 hB140 G0 H_2 r1 a2 pv wk wi wz fk fi fz) (cwV 1 hts (jgV (jWr_24 _ (List.mem_of_getElem? (i := 5) rfl)) (jWr_23 _ (List.mem_of_getElem? (i := 15) rfl)) (jWr_23 _ (List.mem_of_getElem? (i := 16) rfl)) (jWr_1 _ (List.mem_of_getElem? (i := 22) rfl)) (jWr_23 _ (List.mem_of_getElem? (i := 17) rfl))) rfl rfl rfl (by decide +kernel) ⟨by rw [← hR]; exact Nat.le_of_ble_eq_true rfl, by rw [← hR]; exact Nat.le_of_ble_eq_true rfl⟩) ⟨fun a U g mk q => by obtain ⟨q0, q1, q2, qK, q10, q11, q12, q13, q14, q15, q16⟩ := q; exact ⟨q0, q1, q2, jG.calling g mk a qK, q10, q11, q12, q13, q14, q15, q16⟩, hh_2.recv (C := RX4) (T := TX4) (N := 12) hB6 rfl (by decide) hg_r1 hK, fun U hU hW => ⟨rfl, hU, hh_2.2.1, hG.step hW hU hh_2.1, hg_r1, hg_wk, hg_wi, hg_wz, (hh_2.2.2.1.sub (L1 := [(r1, 6, 7, .int pv), (r1, 6, 0, .ref wk), (r1, 6, 1, .ref wi), (r1, 6, 2, .ref wz)]) [0, 1, 2, 3] rfl), (hh_2.2.2.2.2.2.2.2.1.sub (L1 := [(wk, 140, 1502, ca 1, fk), (wi, 141, 1502, ca 1, fi), (wz, 142, 1502, ca 1, fz)]) [0, 1, 2] rfl), by first | omega | (refine ⟨?_, ?_⟩ <;> (first | omega | rfl | assumption | decide | exact Or.inl rfl | exact Or.inr rfl | (simp only; omega)))⟩⟩ rfl rfl hl.1 rfl (lv_room (Nat.le_of_ble_eq_true rfl)) dX8_init_11 ⟨by rw [hRc]; show _ + 0 ≤ _; omega, by rw [hRs]; show _ + 0 ≤ _; omega⟩) hh_2.1 (fun q _ h => h) (fun q h => h) (fun r_4 u_3 t_3 H_3 locs_3 ht_3 hvm_3 hr_4 hb_3 hz_3 hk_3 hS_3 => ?_)
  rw [ht_3] at hb_3
  obtain ⟨hb_3, hbF_3⟩ := hb_3
  obtain ⟨hb_31, hb_32, hb_33, hb_34, hb_35⟩ := hb_3
  have hh_3 : jSt (dC, dI) B base G0 G0 EX8_init s.heap 0 0 [(r1, 6, 7, .int pv), (r1, 6, 0, .ref wk), (r1, 6, 1, .ref wi), (r1, 6, 2, .ref wz)] [(wk, 140, 1502, ca 1, fk), (wi, 141, 1502, ca 1, fi), (wz, 142, 1502, ca 1, fz)] [([(2, 0), (2, 1)], jOl (dC, dI) G0 2 [] s.heap), (jFy, jYb dC dI G0)] H_3 locs_3 := ((hh_2.call hb_31 hb_32 hb_33 hb_34 hS_3 rfl (L1 := [(r1, 6, 7, .int pv), (r1, 6, 0, .ref wk), (r1, 6, 1, .ref wi), (r1, 6, 2, .ref wz)]) [0, 1, 2, 3] rfl rfl (M1 := [(wk, 140, 1502, ca 1, fk), (wi, 141, 1502, ca 1, fi), (wz, 142, 1502, ca 1, fz)]) [0, 1, 2] rfl rfl (I1 := [([(2, 0), (2, 1)], jOl (dC, dI) G0 2 [] s.heap), (jFy, jYb dC dI G0)]) [0, 1] rfl rfl).more hb_35)
  clear hh_2 ht_3 hvm_3 hz_3 hk_3 hS_3 hb_31 hb_32 hb_33 hb_34 hb_35
  have hraw_5 := hraw_2.kept (hbF_3 _ (by simp))
  refine lv_iconst (v := 4) hx hb dX8_init_14 (by decide) ?_
  refine lv_icmp_ne (tgt := 22) hx hb dX8_init_15 (by decide) (fun c_6 => ?_) (fun c_6 => ?_)
  · skip
    have c_6' : r_4.toInt ≠ 4 := jb_ne (rfl) ((by decide)) c_6
    try clear hr_4
    refine lv_iconst (v := 0) hx hb dX8_init_22 (by decide) ?_
    refine lv_istore_n (lv' := [(3, .int 0), (0, .ref r0), (1, .ref r1), (2, .int a2)]) hx hb dX8_init_23 rfl hl (by decide) rfl (fun ls hl => ?_)
    refine lv_aload_n hx hb dX8_init_24 rfl (lv_at hl 2 rfl) ?_
    refine lv_iload_n hx hb dX8_init_25 rfl (lv_at hl 3 rfl) ?_
    have hsz_7 := hh_3.2.2.2.2.2.1
    have htt_7 := hh_3.2.2.2.2.2.2.1
    refine W.room (fun hrc_7 hrs_7 => ?_)
    refine va_calli (A0 := jA base) (H0 := s.heap) (va_runV (As := [.int a2]) (rest := []) ⟨hx, hb, hml, hown, hts⟩ (uX4_kindOfW l dC dI ca base B hB hAp hB6 hB140 G0 H_3 r1 a2 pv wk wi wz fk fi fz) (cwV 1 hts (jgV (jWr_24 _ (List.mem_of_getElem? (i := 5) rfl)) (jWr_23 _ (List.mem_of_getElem? (i := 15) rfl)) (jWr_23 _ (List.mem_of_getElem? (i := 16) rfl)) (jWr_1 _ (List.mem_of_getElem? (i := 22) rfl)) (jWr_23 _ (List.mem_of_getElem? (i := 17) rfl))) rfl rfl rfl (by decide +kernel) ⟨by rw [← hR]; exact Nat.le_of_ble_eq_true rfl, by rw [← hR]; exact Nat.le_of_ble_eq_true rfl⟩) ⟨fun a U g mk q => by obtain ⟨q0, q1, q2, qK, q10, q11, q12, q13, q14, q15, q16⟩ := q; exact ⟨q0, q1, q2, jG.calling g mk a qK, q10, q11, q12, q13, q14, q15, q16⟩, hh_3.recv (C := RX4) (T := TX4) (N := 12) hB6 rfl (by decide) hg_r1 hK, fun U hU hW => ⟨rfl, hU, hh_3.2.1, hG.step hW hU hh_3.1, hg_r1, hg_wk, hg_wi, hg_wz, (hh_3.2.2.1.sub (L1 := [(r1, 6, 7, .int pv), (r1, 6, 0, .ref wk), (r1, 6, 1, .ref wi), (r1, 6, 2, .ref wz)]) [0, 1, 2, 3] rfl), (hh_3.2.2.2.2.2.2.2.1.sub (L1 := [(wk, 140, 1502, ca 1, fk), (wi, 141, 1502, ca 1, fi), (wz, 142, 1502, ca 1, fz)]) [0, 1, 2] rfl), by first | omega | (refine ⟨?_, ?_⟩ <;> (first | omega | rfl | assumption | decide | exact Or.inl rfl | exact Or.inr rfl | (simp only; omega)))⟩⟩ rfl rfl hl.1 rfl (lv_room (Nat.le_of_ble_eq_true rfl)) dX8_init_26 ⟨by rw [hRc]; show _ + 0 ≤ _; omega, by rw [hRs]; show _ + 0 ≤ _; omega⟩) hh_3.1 (fun q _ h => h) (fun q h => h) (fun r_8 u_7 t_7 H_7 locs_7 ht_7 hvm_7 hr_8 hb_7 hz_7 hk_7 hS_7 => ?_)
    rw [ht_7] at hb_7
    obtain ⟨hb_7, hbF_7⟩ := hb_7
    obtain ⟨hb_71, hb_72, hb_73, hb_74, hb_75⟩ := hb_7
    have hh_7 : jSt (dC, dI) B base G0 G0 EX8_init s.heap 0 0 [(r1, 6, 7, .int pv), (r1, 6, 0, .ref wk), (r1, 6, 1, .ref wi), (r1, 6, 2, .ref wz)] [(wk, 140, 1502, ca 1, fk), (wi, 141, 1502, ca 1, fi), (wz, 142, 1502, ca 1, fz)] [([(2, 0), (2, 1)], jOl (dC, dI) G0 2 [] s.heap), (jFy, jYb dC dI G0)] H_7 locs_7 := ((hh_3.call hb_71 hb_72 hb_73 hb_74 hS_7 rfl (L1 := [(r1, 6, 7, .int pv), (r1, 6, 0, .ref wk), (r1, 6, 1, .ref wi), (r1, 6, 2, .ref wz)]) [0, 1, 2, 3] rfl rfl (M1 := [(wk, 140, 1502, ca 1, fk), (wi, 141, 1502, ca 1, fi), (wz, 142, 1502, ca 1, fz)]) [0, 1, 2] rfl rfl (I1 := [([(2, 0), (2, 1)], jOl (dC, dI) G0 2 [] s.heap), (jFy, jYb dC dI G0)]) [0, 1] rfl rfl).more hb_75)
    clear hh_3 ht_7 hvm_7 hz_7 hk_7 hS_7 hb_71 hb_72 hb_73 hb_74 hb_75
    have hraw_9 := hraw_5.kept (hbF_7 _ (by simp))
    refine lv_iconst (v := 3) hx hb dX8_init_29 (by decide) ?_
    refine lv_icmp_ne (tgt := 47) hx hb dX8_init_30 (by decide) (fun c_10 => ?_) (fun c_10 => ?_)
    · skip
      have c_10' : r_8.toInt ≠ 3 := jb_ne (rfl) ((by decide)) c_10
      try clear hr_8
      refine lv_iconst (v := 0) hx hb dX8_init_47 (by decide) ?_
      refine lv_istore (lv' := [(4, .int 0), (3, .int 0), (0, .ref r0), (1, .ref r1), (2, .int a2)]) hx hb dX8_init_48 hl (by decide) rfl (fun ls hl => ?_)
      refine lv_aload_n hx hb dX8_init_50 rfl (lv_at hl 2 rfl) ?_
      refine lv_iload_n hx hb dX8_init_51 rfl (lv_at hl 1 rfl) ?_
      refine lv_if_ne (tgt := 60) hx hb dX8_init_52 (by decide) (fun c_11 => ?_) (fun c_11 => ?_)
      · skip
        exact absurd c_11 (by decide)
      · skip
        refine lv_iload hx hb dX8_init_55 (lv_at hl 0 rfl) ?_
        refine lv_if_eq (tgt := 72) hx hb dX8_init_57 (by decide) (fun c_12 => ?_) (fun c_12 => ?_)
        · skip
          refine lv_null hx hb dX8_init_72 ?_
          refine j7_putRF hx hb hown hK hh_7 hB hAp hraw_9 hnr0 hbr0 (C := RX8) (T := TX8) (N := 5) rfl (i := 0) (by decide) (Nat.le_of_ble_eq_true rfl) hly_10_0 rfl hin2 rfl hlk_29 (ty := (.object "ProofServer$Bytes")) (v := .null) (by decide +kernel) rfl rfl dX8_init_73 (fun H_13 locs_13 hraw_13 hr_13 hh_13 => ?_)
          have hraw_13 : va_at (dC, dI) vwCl (r0, .inr (10, [.null, .null, .int 0, .int 0, .int (-1)])) H_13 := hraw_13
          clear hh_7
          have hle_14 : jLe G0 (va_up G0 r0 (some (10, 0))) := jLe.typ hnr0
          have hg_15 := hle_14 _ _ hg_r1
          have hg_16 := hle_14 _ _ hg_wk
          have hg_17 := hle_14 _ _ hg_wi
          have hg_18 := hle_14 _ _ hg_wz
          have hfa_14 : jRn (va_up G0 r0 (some (10, 0))) 2 0 (.null) ∧ jRn (va_up G0 r0 (some (10, 0))) 3 0 (.null) ∧ jIa (.int 0) ∧ jZb (.int 0) ∧ jIa (.int (-1)) ∧ True := ⟨Or.inl rfl, Or.inl rfl, ⟨_, rfl⟩, ⟨_, rfl, Or.inl rfl⟩, ⟨_, rfl⟩, trivial⟩
          have hh_14 := hh_13.typ (k := 10) (n := 0) hB hnr0 hbr0 hraw_13.lt (jOb.of (C := RX8) (T := TX8) (N := 5) (F := F10) hB10 rfl hraw_13 (show jFx (F10 0 (va_up G0 r0 (some (10, 0)))) [.null, .null, .int 0, .int 0, .int (-1)] from hfa_14))
          have hgn_14 : (va_up G0 r0 (some (10, 0))) r0 = some (10, 0) := jUp_self
          have hN_14 : (jNk [0, 1, 3, 4, 5, 6, 7, 8, 9, 11, 12, 13, 14, 15, 16]) G0 (va_up G0 r0 (some (10, 0))) := jNk.new (by decide)
          have hNn_14 : (jNk [0, 1, 3, 4, 5, 6, 7, 8, 9, 11, 12, 13, 14, 15, 16]) G0 (va_up G0 r0 (some (10, 0))) := (jNk.rf).tr hN_14
          have hh_19 := hh_14.more (P1 := [(r0, 10, 0, .null), (r0, 10, 1, .null), (r0, 10, 2, .int 0), (r0, 10, 3, .int 0), (r0, 10, 4, .int (-1))]) (jP.cons hgn_14 (jf.raw (C := RX8) (T := TX8) (N := 5) rfl hraw_13 (i := 0) (by decide)) (jP.cons hgn_14 (jf.raw (C := RX8) (T := TX8) (N := 5) rfl hraw_13 (i := 1) (by decide)) (jP.cons hgn_14 (jf.raw (C := RX8) (T := TX8) (N := 5) rfl hraw_13 (i := 2) (by decide)) (jP.cons hgn_14 (jf.raw (C := RX8) (T := TX8) (N := 5) rfl hraw_13 (i := 3) (by decide)) (jP.cons hgn_14 (jf.raw (C := RX8) (T := TX8) (N := 5) rfl hraw_13 (i := 4) (by decide)) jP.nil)))))
          have hM_14 : jNk [1, 2, 11] G0 (va_up G0 r0 (some (10, 0))) := jNk.new (by decide)
          have hd_20 := jYb.grow (hh_19.iv 1 rfl) hle_14 hM_14 (by decide)
          have hh_21 := hh_19.sub (L1 := [(r0, 10, 0, .null), (r0, 10, 1, .null), (r0, 10, 2, .int 0), (r0, 10, 3, .int 0), (r0, 10, 4, .int (-1)), (r1, 6, 7, .int pv), (r1, 6, 0, .ref wk), (r1, 6, 1, .ref wi), (r1, 6, 2, .ref wz)]) [0, 1, 2, 3, 4, 5, 6, 7, 8] rfl (M1 := [(wk, 140, 1502, ca 1, fk), (wi, 141, 1502, ca 1, fi), (wz, 142, 1502, ca 1, fz)]) [0, 1, 2] rfl (I1 := [([(2, 0), (2, 1)], jOl (dC, dI) G0 2 [] s.heap)]) [0] rfl
          clear hh_19
          have hh_22 := hh_21.addI (jYb.ie hd_20)
          clear hh_21
          refine lv_iload_n hx hb dX8_init_76 rfl (lv_at hl 1 rfl) ?_
          refine lv_if_eq (tgt := 95) hx hb dX8_init_77 (by decide) (fun c_23 => ?_) (fun c_23 => ?_)
          · skip
            refine lv_iload hx hb dX8_init_95 (lv_at hl 0 rfl) ?_
            refine lv_if_eq (tgt := 120) hx hb dX8_init_97 (by decide) (fun c_24 => ?_) (fun c_24 => ?_)
            · skip
              have hsz_25 := hh_22.2.2.2.2.2.1
              have htt_25 := hh_22.2.2.2.2.2.2.1
              refine W.room (fun hrc_25 hrs_25 => ?_)
              refine W.widen (k := LC - s.heap.size) (n := LS - jTot s.heap) (by omega) (by omega) ?_
              rw [hQ]
              exact W.vret hx hb hr (fun t ht hW => ⟨⟨(va_up G0 r0 (some (10, 0))), rfl, trivial, ⟨hh_22.ra (by first | omega | (simp only; omega)) (by first | omega | (simp only; omega)) (M1 := []) [] rfl ht, hNn_14, by rw [ht]; exact hh_22.iv 1 rfl, hgn_14, by rw [ht]; exact hh_22.2.2.2.2.2.2.2.2.sub (L1 := [(jFy, jYb dC dI (va_up G0 r0 (some (10, 0))))]) [0] rfl⟩⟩, by rw [ht]; try exact hh_22.1.1, fun q h9 hq => by rw [ht]; try exact hh_22.1.2.1 q h9 hq⟩) hh_22.1.2.2 dX8_init_120
            · skip
              exact absurd c_24 (by decide)
          · skip
            exact absurd c_23 (by decide)
        · skip
          exact absurd c_12 (by decide)
    · skip
      have c_10' : r_8.toInt = 3 := jb_ne_n (rfl) ((by decide)) c_10
      first | (have hr_8q := hr_8.resolve_left (by omega); clear hr_8) | (have hr_8q := hr_8.resolve_right (by omega); clear hr_8) | try clear hr_8
      refine lv_aload_n hx hb dX8_init_33 rfl (lv_at hl 2 rfl) ?_
      refine lv_iload_n hx hb dX8_init_34 rfl (lv_at hl 3 rfl) ?_
      have hsz_26 := hh_7.2.2.2.2.2.1
      have htt_26 := hh_7.2.2.2.2.2.2.1
      refine W.room (fun hrc_26 hrs_26 => ?_)
      refine va_calli (A0 := jA base) (H0 := s.heap) (va_runV (As := [.int a2]) (rest := []) ⟨hx, hb, hml, hown, hts⟩ (uX4_sizeOfW l dC dI ca base B hB hAp hB6 hB142 G0 H_7 r1 a2 pv wk wi wz fk fi fz) (cwV 1 hts (jgV (jWr_24 _ (List.mem_of_getElem? (i := 6) rfl)) (jWr_24 _ (List.mem_of_getElem? (i := 7) rfl)) (jWr_24 _ (List.mem_of_getElem? (i := 8) rfl)) (jWr_1 _ (List.mem_of_getElem? (i := 22) rfl)) (jWr_24 _ (List.mem_of_getElem? (i := 9) rfl))) rfl rfl rfl (by decide +kernel) ⟨by rw [← hR]; exact Nat.le_of_ble_eq_true rfl, by rw [← hR]; exact Nat.le_of_ble_eq_true rfl⟩) ⟨fun a U g mk q => by obtain ⟨q0, q1, q2, qK, q10, q11, q12, q13, q14, q15, q16⟩ := q; exact ⟨q0, q1, q2, jG.calling g mk a qK, q10, q11, q12, q13, q14, q15, q16⟩, hh_7.recv (C := RX4) (T := TX4) (N := 12) hB6 rfl (by decide) hg_r1 hK, fun U hU hW => ⟨rfl, hU, hh_7.2.1, hG.step hW hU hh_7.1, hg_r1, hg_wk, hg_wi, hg_wz, (hh_7.2.2.1.sub (L1 := [(r1, 6, 7, .int pv), (r1, 6, 0, .ref wk), (r1, 6, 1, .ref wi), (r1, 6, 2, .ref wz)]) [0, 1, 2, 3] rfl), (hh_7.2.2.2.2.2.2.2.1.sub (L1 := [(wk, 140, 1502, ca 1, fk), (wi, 141, 1502, ca 1, fi), (wz, 142, 1502, ca 1, fz)]) [0, 1, 2] rfl), by first | omega | (refine ⟨?_, ?_⟩ <;> (first | omega | rfl | assumption | decide | exact Or.inl rfl | exact Or.inr rfl | (simp only; omega)))⟩⟩ rfl rfl hl.1 rfl (lv_room (Nat.le_of_ble_eq_true rfl)) dX8_init_35 ⟨by rw [hRc]; show _ + 0 ≤ _; omega, by rw [hRs]; show _ + 0 ≤ _; omega⟩) hh_7.1 (fun q _ h => h) (fun q h => h) (fun r_27 u_26 t_26 H_26 locs_26 ht_26 hvm_26 hr_27 hb_26 hz_26 hk_26 hS_26 => ?_)
      rw [ht_26] at hb_26
      obtain ⟨hb_26, hbF_26⟩ := hb_26
      obtain ⟨hb_261, hb_262, hb_263, hb_264, hb_265⟩ := hb_26
      have hh_26 : jSt (dC, dI) B base G0 G0 EX8_init s.heap 0 0 [(r1, 6, 7, .int pv), (r1, 6, 0, .ref wk), (r1, 6, 1, .ref wi), (r1, 6, 2, .ref wz)] [(wk, 140, 1502, ca 1, fk), (wi, 141, 1502, ca 1, fi), (wz, 142, 1502, ca 1, fz)] [([(2, 0), (2, 1)], jOl (dC, dI) G0 2 [] s.heap), (jFy, jYb dC dI G0)] H_26 locs_26 := ((hh_7.call hb_261 hb_262 hb_263 hb_264 hS_26 rfl (L1 := [(r1, 6, 7, .int pv), (r1, 6, 0, .ref wk), (r1, 6, 1, .ref wi), (r1, 6, 2, .ref wz)]) [0, 1, 2, 3] rfl rfl (M1 := [(wk, 140, 1502, ca 1, fk), (wi, 141, 1502, ca 1, fi), (wz, 142, 1502, ca 1, fz)]) [0, 1, 2] rfl rfl (I1 := [([(2, 0), (2, 1)], jOl (dC, dI) G0 2 [] s.heap), (jFy, jYb dC dI G0)]) [0, 1] rfl rfl).more hb_265)
      clear hh_7 ht_26 hvm_26 hz_26 hk_26 hS_26 hb_261 hb_262 hb_263 hb_264 hb_265
      have hraw_28 := hraw_9.kept (hbF_26 _ (by simp))
      refine lv_bipush (v := 20) hx hb dX8_init_38 (by decide) ?_
      refine lv_icmp_gt (tgt := 47) hx hb dX8_init_40 (by decide) (fun c_29 => ?_) (fun c_29 => ?_)
      · skip
        have c_29' : r_27.toInt > 20 := jb_gt (rfl) ((by decide)) c_29
        first | (have hr_27q := hr_27.resolve_left (by omega); clear hr_27) | (have hr_27q := hr_27.resolve_right (by omega); clear hr_27) | try clear hr_27
        refine lv_iconst (v := 0) hx hb dX8_init_47 (by decide) ?_
        refine lv_istore (lv' := [(4, .int 0), (3, .int 0), (0, .ref r0), (1, .ref r1), (2, .int a2)]) hx hb dX8_init_48 hl (by decide) rfl (fun ls hl => ?_)
        refine lv_aload_n hx hb dX8_init_50 rfl (lv_at hl 2 rfl) ?_
        refine lv_iload_n hx hb dX8_init_51 rfl (lv_at hl 1 rfl) ?_
        refine lv_if_ne (tgt := 60) hx hb dX8_init_52 (by decide) (fun c_30 => ?_) (fun c_30 => ?_)
        · skip
          exact absurd c_30 (by decide)
        · skip
          refine lv_iload hx hb dX8_init_55 (lv_at hl 0 rfl) ?_
          refine lv_if_eq (tgt := 72) hx hb dX8_init_57 (by decide) (fun c_31 => ?_) (fun c_31 => ?_)
          · skip
            refine lv_null hx hb dX8_init_72 ?_
            refine j7_putRF hx hb hown hK hh_26 hB hAp hraw_28 hnr0 hbr0 (C := RX8) (T := TX8) (N := 5) rfl (i := 0) (by decide) (Nat.le_of_ble_eq_true rfl) hly_10_0 rfl hin2 rfl hlk_29 (ty := (.object "ProofServer$Bytes")) (v := .null) (by decide +kernel) rfl rfl dX8_init_73 (fun H_32 locs_32 hraw_32 hr_32 hh_32 => ?_)
            have hraw_32 : va_at (dC, dI) vwCl (r0, .inr (10, [.null, .null, .int 0, .int 0, .int (-1)])) H_32 := hraw_32
            clear hh_26
            have hle_33 : jLe G0 (va_up G0 r0 (some (10, 0))) := jLe.typ hnr0
            have hg_34 := hle_33 _ _ hg_r1
            have hg_35 := hle_33 _ _ hg_wk
            have hg_36 := hle_33 _ _ hg_wi
            have hg_37 := hle_33 _ _ hg_wz
            have hfa_33 : jRn (va_up G0 r0 (some (10, 0))) 2 0 (.null) ∧ jRn (va_up G0 r0 (some (10, 0))) 3 0 (.null) ∧ jIa (.int 0) ∧ jZb (.int 0) ∧ jIa (.int (-1)) ∧ True := ⟨Or.inl rfl, Or.inl rfl, ⟨_, rfl⟩, ⟨_, rfl, Or.inl rfl⟩, ⟨_, rfl⟩, trivial⟩
            have hh_33 := hh_32.typ (k := 10) (n := 0) hB hnr0 hbr0 hraw_32.lt (jOb.of (C := RX8) (T := TX8) (N := 5) (F := F10) hB10 rfl hraw_32 (show jFx (F10 0 (va_up G0 r0 (some (10, 0)))) [.null, .null, .int 0, .int 0, .int (-1)] from hfa_33))
            have hgn_33 : (va_up G0 r0 (some (10, 0))) r0 = some (10, 0) := jUp_self
            have hN_33 : (jNk [0, 1, 3, 4, 5, 6, 7, 8, 9, 11, 12, 13, 14, 15, 16]) G0 (va_up G0 r0 (some (10, 0))) := jNk.new (by decide)
            have hNn_33 : (jNk [0, 1, 3, 4, 5, 6, 7, 8, 9, 11, 12, 13, 14, 15, 16]) G0 (va_up G0 r0 (some (10, 0))) := (jNk.rf).tr hN_33
            have hh_38 := hh_33.more (P1 := [(r0, 10, 0, .null), (r0, 10, 1, .null), (r0, 10, 2, .int 0), (r0, 10, 3, .int 0), (r0, 10, 4, .int (-1))]) (jP.cons hgn_33 (jf.raw (C := RX8) (T := TX8) (N := 5) rfl hraw_32 (i := 0) (by decide)) (jP.cons hgn_33 (jf.raw (C := RX8) (T := TX8) (N := 5) rfl hraw_32 (i := 1) (by decide)) (jP.cons hgn_33 (jf.raw (C := RX8) (T := TX8) (N := 5) rfl hraw_32 (i := 2) (by decide)) (jP.cons hgn_33 (jf.raw (C := RX8) (T := TX8) (N := 5) rfl hraw_32 (i := 3) (by decide)) (jP.cons hgn_33 (jf.raw (C := RX8) (T := TX8) (N := 5) rfl hraw_32 (i := 4) (by decide)) jP.nil)))))
            have hM_33 : jNk [1, 2, 11] G0 (va_up G0 r0 (some (10, 0))) := jNk.new (by decide)
            have hd_39 := jYb.grow (hh_38.iv 1 rfl) hle_33 hM_33 (by decide)
            have hh_40 := hh_38.sub (L1 := [(r0, 10, 0, .null), (r0, 10, 1, .null), (r0, 10, 2, .int 0), (r0, 10, 3, .int 0), (r0, 10, 4, .int (-1)), (r1, 6, 7, .int pv), (r1, 6, 0, .ref wk), (r1, 6, 1, .ref wi), (r1, 6, 2, .ref wz)]) [0, 1, 2, 3, 4, 5, 6, 7, 8] rfl (M1 := [(wk, 140, 1502, ca 1, fk), (wi, 141, 1502, ca 1, fi), (wz, 142, 1502, ca 1, fz)]) [0, 1, 2] rfl (I1 := [([(2, 0), (2, 1)], jOl (dC, dI) G0 2 [] s.heap)]) [0] rfl
            clear hh_38
            have hh_41 := hh_40.addI (jYb.ie hd_39)
            clear hh_40
            refine lv_iload_n hx hb dX8_init_76 rfl (lv_at hl 1 rfl) ?_
            refine lv_if_eq (tgt := 95) hx hb dX8_init_77 (by decide) (fun c_42 => ?_) (fun c_42 => ?_)
            · skip
              refine lv_iload hx hb dX8_init_95 (lv_at hl 0 rfl) ?_
              refine lv_if_eq (tgt := 120) hx hb dX8_init_97 (by decide) (fun c_43 => ?_) (fun c_43 => ?_)
              · skip
                have hsz_44 := hh_41.2.2.2.2.2.1
                have htt_44 := hh_41.2.2.2.2.2.2.1
                refine W.room (fun hrc_44 hrs_44 => ?_)
                refine W.widen (k := LC - s.heap.size) (n := LS - jTot s.heap) (by omega) (by omega) ?_
                rw [hQ]
                exact W.vret hx hb hr (fun t ht hW => ⟨⟨(va_up G0 r0 (some (10, 0))), rfl, trivial, ⟨hh_41.ra (by first | omega | (simp only; omega)) (by first | omega | (simp only; omega)) (M1 := []) [] rfl ht, hNn_33, by rw [ht]; exact hh_41.iv 1 rfl, hgn_33, by rw [ht]; exact hh_41.2.2.2.2.2.2.2.2.sub (L1 := [(jFy, jYb dC dI (va_up G0 r0 (some (10, 0))))]) [0] rfl⟩⟩, by rw [ht]; try exact hh_41.1.1, fun q h9 hq => by rw [ht]; try exact hh_41.1.2.1 q h9 hq⟩) hh_41.1.2.2 dX8_init_120
              · skip
                exact absurd c_43 (by decide)
            · skip
              exact absurd c_42 (by decide)
          · skip
            exact absurd c_31 (by decide)
      · skip
        have c_29' : r_27.toInt ≤ 20 := jb_gt_n (rfl) ((by decide)) c_29
        first | (have hr_27q := hr_27.resolve_left (by omega); clear hr_27) | (have hr_27q := hr_27.resolve_right (by omega); clear hr_27) | try clear hr_27
        refine lv_iconst (v := 1) hx hb dX8_init_43 (by decide) ?_
        refine lv_goto (tgt := 48) hx hb dX8_init_44 (by decide) ?_
        refine lv_istore (lv' := [(4, .int 1), (3, .int 0), (0, .ref r0), (1, .ref r1), (2, .int a2)]) hx hb dX8_init_48 hl (by decide) rfl (fun ls hl => ?_)
        refine lv_aload_n hx hb dX8_init_50 rfl (lv_at hl 2 rfl) ?_
        refine lv_iload_n hx hb dX8_init_51 rfl (lv_at hl 1 rfl) ?_
        refine lv_if_ne (tgt := 60) hx hb dX8_init_52 (by decide) (fun c_45 => ?_) (fun c_45 => ?_)
        · skip
          exact absurd c_45 (by decide)
        · skip
          refine lv_iload hx hb dX8_init_55 (lv_at hl 0 rfl) ?_
          refine lv_if_eq (tgt := 72) hx hb dX8_init_57 (by decide) (fun c_46 => ?_) (fun c_46 => ?_)
          · skip
            exact absurd c_46 (by decide)
          · skip
            have hsz_47 := hh_26.2.2.2.2.2.1
            have htt_47 := hh_26.2.2.2.2.2.2.1
            refine j7_newo (k := 2) (C := RX0) (T := TX0) (N := 2) (fs := [.null, .int 0]) hx hb htw jWc_wsX00 (fun k => ([(.array .byte), .int] : List FieldType).getD k .int) (by decide +kernel) hown (htw (.classLink RX8 24 RX0) (jWr_24 _ (List.mem_of_getElem? (i := 3) rfl))) (htw (.instantiable RX0 2) (jWr_1 _ (List.mem_of_getElem? (i := 13) rfl))) (htw (.initialized RX0) (jWr_1 _ (List.mem_of_getElem? (i := 14) rfl))) hK rfl (fun j hj => by rcases (by omega : j = 0 ∨ j = 1) with rfl | rfl <;> rfl) hh_26 hB (by rw [hRc]; omega) (by rw [hRs]; omega) dX8_init_60 (fun H_47 hraw_47 hfr_47 hnr_47 hh_47 => ?_)
            have hlt_48 := hraw_28.lt
            have hke_47 : jKe G0 G0 H_26 H_47 := jKe.raw hfr_47
            have hbr_47 : base ≤ H_26.size := Nat.le_trans hbs hh_26.1.1
            have hsy_47 : s.heap.size ≤ H_26.size := hh_26.1.1
            clear hh_26
            have hraw_49n := hke_47.nr hraw_28.lt hnr0
            have hraw_49 := hraw_28.kept (hke_47.1 _ hraw_28.lt)
            have hne_50 : r0 ≠ H_26.size := Nat.ne_of_lt hlt_48
            refine lv_dup hx hb dX8_init_63 rfl ?_
            refine lv_bipush (v := 16) hx hb dX8_init_64 (by decide) ?_
            have hsz_51 := hh_47.2.2.2.2.2.1
            have htt_51 := hh_47.2.2.2.2.2.2.1
            refine W.room (fun hrc_51 hrs_51 => ?_)
            refine va_callv (A0 := jA base) (H0 := s.heap) (va_runI (As := [.int 16]) (rest := [.ref H_26.size, .ref r0]) ⟨hx, hb, hml, hown, hts⟩ (uX0_initY l dC dI ca base B hB hAp hB2 hB196 G0 H_47 H_26.size 16 0 LC LS) (cwI 1 hts (jgW (jWr_3 _ (List.mem_of_getElem? (i := 3) rfl))) rfl rfl rfl (htw (.initialized RX0) (jWr_1 _ (List.mem_of_getElem? (i := 14) rfl))) (htw (.methodLink RX8 26 yX0_init) (jWr_24 _ (List.mem_of_getElem? (i := 10) rfl))) (htw (.instanceMethod yX0_init) (jWr_3 _ (List.mem_of_getElem? (i := 2) rfl))) rfl (by decide +kernel) ⟨by rw [← hR]; exact Nat.le_of_ble_eq_true rfl, by rw [← hR]; exact Nat.le_of_ble_eq_true rfl⟩) ⟨fun a U g mk q => by obtain ⟨q0, q1, q2, qK, q10, q11, q12, q13, q14, q15⟩ := q; exact ⟨q0, q1, q2, jG.calling g mk a qK, q10, q11, q12, q13, q14, q15⟩, fun U hU hW => ⟨rfl, hU, hh_47.2.1, hG.step hW hU hh_47.1, hraw_47, hnr_47, hbr_47, jP.nil, (hh_47.2.2.2.2.2.2.2.2.sub (L1 := [(jFy, jYb dC dI G0)]) [1] rfl), (by omega), (by omega), ⟨(by first | omega | rfl | assumption | exact fun _ => jPw.z16), (by first | omega | rfl | assumption | exact fun _ => jPw.z16), (by first | omega | rfl | assumption | exact fun _ => jPw.z16), (by first | assumption | exact fun _ => jPw.z16 | omega), (by first | omega | rfl | assumption | exact fun _ => jPw.z16)⟩⟩⟩ rfl rfl hl.1 rfl (lv_room (Nat.le_of_ble_eq_true rfl)) dX8_init_66 ⟨by rw [hRc]; omega, by rw [hRs]; omega⟩) hh_47.1 (fun q _ h => h) (fun q h => h) (fun u_51 t_51 H_51 locs_51 ht_51 hvm_51 hr_52 hb_51 hz_51 hk_51 hS_51 => ?_)
            obtain ⟨qc_51, qa_51, m_qa_51, G_51⟩ := u_51
            rw [ht_51] at hb_51
            simp only at hb_51
            obtain ⟨⟨hb_511, hb_512, hb_513, hb_514, hb_515, hb_516⟩, hgq_51_0, hN_51, hgc_51, hbX_51, hbE_51⟩ := hb_51
            have hN_51 : (jNk [0, 1, 3, 4, 5, 6, 7, 8, 9, 11, 12, 13, 14, 15, 16]) G0 G_51 := hN_51.sub (by decide)
            have hh_51 : jSt (dC, dI) B base G0 G_51 EX8_init s.heap ((0 + 1) + (1)) ((0 + 2) + ((16 : Int).toNat)) [(H_26.size, 2, 1, .int qc_51), (H_26.size, 2, 0, .ref qa_51), (r1, 6, 7, .int pv), (r1, 6, 0, .ref wk), (r1, 6, 1, .ref wi), (r1, 6, 2, .ref wz)] [(wk, 140, 1502, ca 1, fk), (wi, 141, 1502, ca 1, fi), (wz, 142, 1502, ca 1, fz)] [([(2, 0), (2, 1)], jOl (dC, dI) G0 2 [] s.heap)] H_51 locs_51 := (hh_47.callG hb_511 hb_512 hb_513 hb_514 hb_515 hS_51 rfl (L1 := [(r1, 6, 7, .int pv), (r1, 6, 0, .ref wk), (r1, 6, 1, .ref wi), (r1, 6, 2, .ref wz)]) [0, 1, 2, 3] rfl rfl (M1 := [(wk, 140, 1502, ca 1, fk), (wi, 141, 1502, ca 1, fi), (wz, 142, 1502, ca 1, fz)]) [0, 1, 2] rfl rfl (I1 := [([(2, 0), (2, 1)], jOl (dC, dI) G0 2 [] s.heap)]) [0] rfl rfl).more hb_516
            have hNn_51 : (jNk [0, 1, 3, 4, 5, 6, 7, 8, 9, 11, 12, 13, 14, 15, 16]) G0 G_51 := (jNk.rf).tr hN_51
            have hg_53 := hb_512 _ _ hg_r1
            have hg_54 := hb_512 _ _ hg_wk
            have hg_55 := hb_512 _ _ hg_wi
            have hg_56 := hb_512 _ _ hg_wz
            have hh_57 := hh_51.addIs hbE_51
            try simp only at hr_52
            obtain ⟨hr_52_0, hr_52_1⟩ := hr_52
            have hraw_58x := hbX_51.ke hraw_49.lt hne_50 hraw_49n
            have hraw_58 := hraw_49.kept hraw_58x.1
            refine lv_goto (tgt := 73) hx hb dX8_init_69 (by decide) ?_
            refine j7_putRF hx hb hown hK hh_57 hB hAp hraw_58 hraw_58x.2 hbr0 (C := RX8) (T := TX8) (N := 5) rfl (i := 0) (by decide) (Nat.le_of_ble_eq_true rfl) hly_10_0 rfl hin2 rfl hlk_29 (ty := (.object "ProofServer$Bytes")) (v := .ref H_26.size) (by decide +kernel) rfl rfl dX8_init_73 (fun H_59 locs_59 hraw_59 hr_59 hh_59 => ?_)
            have hraw_59 : va_at (dC, dI) vwCl (r0, .inr (10, [.ref H_26.size, .null, .int 0, .int 0, .int (-1)])) H_59 := hraw_59
            clear hh_57
            have hle_60 : jLe G_51 (va_up G_51 r0 (some (10, 0))) := jLe.typ hraw_58x.2
            have hg_61 := hle_60 _ _ hg_53
            have hg_62 := hle_60 _ _ hgq_51_0
            have hg_63 := hle_60 _ _ hg_54
            have hg_64 := hle_60 _ _ hg_55
            have hg_65 := hle_60 _ _ hg_56
            have hg_66 := (jLe.rf).tr hle_60 _ _ hgc_51
            have hfa_60 : jRn (va_up G_51 r0 (some (10, 0))) 2 0 (.ref H_26.size) ∧ jRn (va_up G_51 r0 (some (10, 0))) 3 0 (.null) ∧ jIa (.int 0) ∧ jZb (.int 0) ∧ jIa (.int (-1)) ∧ True := ⟨Or.inr ⟨_, rfl, hg_66⟩, Or.inl rfl, ⟨_, rfl⟩, ⟨_, rfl, Or.inl rfl⟩, ⟨_, rfl⟩, trivial⟩
            have hh_60 := hh_59.typ (k := 10) (n := 0) hB hraw_58x.2 hbr0 hraw_59.lt (jOb.of (C := RX8) (T := TX8) (N := 5) (F := F10) hB10 rfl hraw_59 (show jFx (F10 0 (va_up G_51 r0 (some (10, 0)))) [.ref H_26.size, .null, .int 0, .int 0, .int (-1)] from hfa_60))
            have hgn_60 : (va_up G_51 r0 (some (10, 0))) r0 = some (10, 0) := jUp_self
            have hN_60 : (jNk [0, 1, 3, 4, 5, 6, 7, 8, 9, 11, 12, 13, 14, 15, 16]) G_51 (va_up G_51 r0 (some (10, 0))) := jNk.new (by decide)
            have hNn_60 : (jNk [0, 1, 3, 4, 5, 6, 7, 8, 9, 11, 12, 13, 14, 15, 16]) G0 (va_up G_51 r0 (some (10, 0))) := (hNn_51).tr hN_60
            have hg_67 := (hle_60) _ _ hgc_51
            have hh_68 := hh_60.more (P1 := [(r0, 10, 0, .ref H_26.size), (r0, 10, 1, .null), (r0, 10, 2, .int 0), (r0, 10, 3, .int 0), (r0, 10, 4, .int (-1))]) (jP.cons hgn_60 (jf.raw (C := RX8) (T := TX8) (N := 5) rfl hraw_59 (i := 0) (by decide)) (jP.cons hgn_60 (jf.raw (C := RX8) (T := TX8) (N := 5) rfl hraw_59 (i := 1) (by decide)) (jP.cons hgn_60 (jf.raw (C := RX8) (T := TX8) (N := 5) rfl hraw_59 (i := 2) (by decide)) (jP.cons hgn_60 (jf.raw (C := RX8) (T := TX8) (N := 5) rfl hraw_59 (i := 3) (by decide)) (jP.cons hgn_60 (jf.raw (C := RX8) (T := TX8) (N := 5) rfl hraw_59 (i := 4) (by decide)) jP.nil)))))
            have hM_60 : jNk [1, 2, 11] G_51 (va_up G_51 r0 (some (10, 0))) := jNk.new (by decide)
            have hd_69 := jYb.grow (hh_68.iv 0 rfl) hle_60 hM_60 (by decide)
            have hh_70 := hh_68.sub (L1 := [(r0, 10, 0, .ref H_26.size), (r0, 10, 1, .null), (r0, 10, 2, .int 0), (r0, 10, 3, .int 0), (r0, 10, 4, .int (-1)), (H_26.size, 2, 1, .int qc_51), (H_26.size, 2, 0, .ref qa_51), (r1, 6, 7, .int pv), (r1, 6, 0, .ref wk), (r1, 6, 1, .ref wi), (r1, 6, 2, .ref wz)]) [0, 1, 2, 3, 4, 5, 6, 7, 8, 9, 10] rfl (M1 := [(wk, 140, 1502, ca 1, fk), (wi, 141, 1502, ca 1, fi), (wz, 142, 1502, ca 1, fz)]) [0, 1, 2] rfl (I1 := [([(2, 0), (2, 1)], jOl (dC, dI) G0 2 [] s.heap)]) [1] rfl
            clear hh_68
            have hh_71 := hh_70.addI (jYb.ie hd_69)
            clear hh_70
            refine lv_iload_n hx hb dX8_init_76 rfl (lv_at hl 1 rfl) ?_
            refine lv_if_eq (tgt := 95) hx hb dX8_init_77 (by decide) (fun c_72 => ?_) (fun c_72 => ?_)
            · skip
              refine lv_iload hx hb dX8_init_95 (lv_at hl 0 rfl) ?_
              refine lv_if_eq (tgt := 120) hx hb dX8_init_97 (by decide) (fun c_73 => ?_) (fun c_73 => ?_)
              · skip
                exact absurd c_73 (by decide)
              · skip
                refine lv_aload_n hx hb dX8_init_100 rfl (lv_at hl 3 rfl) ?_
                refine lv_iload_n hx hb dX8_init_101 rfl (lv_at hl 4 rfl) ?_
                have hsz_74 := hh_71.2.2.2.2.2.1
                have htt_74 := hh_71.2.2.2.2.2.2.1
                refine W.room (fun hrc_74 hrs_74 => ?_)
                refine j_callx (A0 := jA base) (H0 := s.heap) (va_runV (As := [.int a2]) (rest := []) ⟨hx, hb, hml, hown, hts⟩ (uX4_unitsOfS l dC dI ca base B hB hAp hB6 hB101 hB140 hB141 hB142 hB146 (va_up G_51 r0 (some (10, 0))) H_59 r1 a2 pv wk wi wz fk fi fz LC LS) (cwV 1 hts (jgV (jWr_24 _ (List.mem_of_getElem? (i := 23) rfl)) (jWr_25 _ (List.mem_of_getElem? (i := 0) rfl)) (jWr_25 _ (List.mem_of_getElem? (i := 1) rfl)) (jWr_1 _ (List.mem_of_getElem? (i := 22) rfl)) (jWr_25 _ (List.mem_of_getElem? (i := 2) rfl))) rfl rfl rfl (by decide +kernel) ⟨by rw [← hR]; exact Nat.le_of_ble_eq_true rfl, by rw [← hR]; exact Nat.le_of_ble_eq_true rfl⟩) ⟨fun a U g mk q => by obtain ⟨q0, q1, q2, qK, q10, q11, q12, q13, q14, q15, q16⟩ := q; exact ⟨q0, q1, q2, jG.calling g mk a qK, q10, q11, q12, q13, q14, q15, q16⟩, hh_71.recv (C := RX4) (T := TX4) (N := 12) hB6 rfl (by decide) hg_61 hK, fun U hU hW => ⟨rfl, hU, hh_71.2.1, hG.step hW hU hh_71.1, hg_61, hg_63, hg_64, hg_65, (hh_71.2.2.1.sub (L1 := [(r1, 6, 7, .int pv), (r1, 6, 0, .ref wk), (r1, 6, 1, .ref wi), (r1, 6, 2, .ref wz)]) [7, 8, 9, 10] rfl), (hh_71.2.2.2.2.2.2.2.1.sub (L1 := [(wk, 140, 1502, ca 1, fk), (wi, 141, 1502, ca 1, fi), (wz, 142, 1502, ca 1, fz)]) [0, 1, 2] rfl), (by omega), (by omega), by first | omega | (refine ⟨?_, ?_, ?_⟩ <;> (first | omega | rfl | assumption | decide | exact Or.inl rfl | exact Or.inr rfl | (simp only; omega)))⟩⟩ rfl rfl hl.1 rfl (lv_room (Nat.le_of_ble_eq_true rfl)) dX8_init_102 ⟨by rw [hRc]; omega, by rw [hRs]; omega⟩) hh_71.1 (fun q _ h => h) (fun q h => h) (fun r_75 u_74 t_74 H_74 locs_74 ht_74 hvm_74 hr_75 hb_74 hz_74 hk_74 hS_74 => ?_)
                rw [ht_74] at hb_74
                obtain ⟨m_ret_74, G_74⟩ := u_74
                simp only at hb_74
                obtain ⟨⟨hb_741, hb_742, hb_743, hb_744, hb_745, hb_746⟩, hN_74⟩ := hb_74
                have hY_74 := hN_74
                have hN_74 : (jNk [0, 1, 3, 4, 5, 6, 7, 8, 9, 11, 12, 13, 14, 15, 16]) (va_up G_51 r0 (some (10, 0))) G_74 := hN_74.sub (by decide)
                have hh_74 : jSt (dC, dI) B base G0 G_74 EX8_init s.heap (((0 + 1) + (1)) + (1)) (((0 + 2) + ((16 : Int).toNat)) + (m_ret_74)) [(r0, 10, 0, .ref H_26.size), (r0, 10, 1, .null), (r0, 10, 2, .int 0), (r0, 10, 3, .int 0), (r0, 10, 4, .int (-1)), (H_26.size, 2, 1, .int qc_51), (H_26.size, 2, 0, .ref qa_51), (r1, 6, 7, .int pv), (r1, 6, 0, .ref wk), (r1, 6, 1, .ref wi), (r1, 6, 2, .ref wz)] [(wk, 140, 1502, ca 1, fk), (wi, 141, 1502, ca 1, fi), (wz, 142, 1502, ca 1, fz)] [(jFy, jYb dC dI (va_up G_51 r0 (some (10, 0)))), ([(2, 0), (2, 1)], jOl (dC, dI) G0 2 [] s.heap)] H_74 locs_74 := (hh_71.callG hb_741 hb_742 hb_743 hb_744 hb_745 hS_74 rfl (L1 := [(r0, 10, 0, .ref H_26.size), (r0, 10, 1, .null), (r0, 10, 2, .int 0), (r0, 10, 3, .int 0), (r0, 10, 4, .int (-1)), (H_26.size, 2, 1, .int qc_51), (H_26.size, 2, 0, .ref qa_51), (r1, 6, 7, .int pv), (r1, 6, 0, .ref wk), (r1, 6, 1, .ref wi), (r1, 6, 2, .ref wz)]) [0, 1, 2, 3, 4, 5, 6, 7, 8, 9, 10] rfl rfl (M1 := [(wk, 140, 1502, ca 1, fk), (wi, 141, 1502, ca 1, fi), (wz, 142, 1502, ca 1, fz)]) [0, 1, 2] rfl rfl (I1 := [(jFy, jYb dC dI (va_up G_51 r0 (some (10, 0)))), ([(2, 0), (2, 1)], jOl (dC, dI) G0 2 [] s.heap)]) [0, 1] rfl rfl).more hb_746
                have hNn_74 : (jNk [0, 1, 3, 4, 5, 6, 7, 8, 9, 11, 12, 13, 14, 15, 16]) G0 G_74 := (hNn_60).tr hN_74
                have hg_76 := hb_742 _ _ hgn_60
                have hg_77 := hb_742 _ _ hg_61
                have hg_78 := hb_742 _ _ hg_67
                have hg_79 := hb_742 _ _ hg_62
                have hg_80 := hb_742 _ _ hg_63
                have hg_81 := hb_742 _ _ hg_64
                have hg_82 := hb_742 _ _ hg_65
                have hd_83 := jYb.grow (hh_74.iv 0 rfl) hb_742 hY_74 (by decide)
                have hh_84 := hh_74.sub (L1 := [(r0, 10, 0, .ref H_26.size), (r0, 10, 1, .null), (r0, 10, 2, .int 0), (r0, 10, 3, .int 0), (r0, 10, 4, .int (-1)), (H_26.size, 2, 1, .int qc_51), (H_26.size, 2, 0, .ref qa_51), (r1, 6, 7, .int pv), (r1, 6, 0, .ref wk), (r1, 6, 1, .ref wi), (r1, 6, 2, .ref wz)]) [0, 1, 2, 3, 4, 5, 6, 7, 8, 9, 10] rfl (M1 := [(wk, 140, 1502, ca 1, fk), (wi, 141, 1502, ca 1, fi), (wz, 142, 1502, ca 1, fz)]) [0, 1, 2] rfl (I1 := [([(2, 0), (2, 1)], jOl (dC, dI) G0 2 [] s.heap)]) [1] rfl
                clear hh_74
                have hh_85 := hh_84.addI (jYb.ie hd_83)
                clear hh_84
                obtain ⟨hr_75, hr_75n, hr_75p⟩ := hr_75
                try simp only at hr_75p
                obtain ⟨hr_75p_0, hr_75p_1⟩ := hr_75p
                obtain ⟨ret_86, rfl, hg_ret_86⟩ := hr_75
                have hsy_74 : s.heap.size ≤ ret_86 := Nat.le_trans hh_71.1.1 hr_75n.le
                refine lv_astore (lv' := [(5, .ref ret_86), (4, .int 1), (3, .int 0), (0, .ref r0), (1, .ref r1), (2, .int a2)]) hx hb dX8_init_105 hl (by decide) rfl (fun ls hl => ?_)
                refine lv_aload_n hx hb dX8_init_107 rfl (lv_at hl 3 rfl) ?_
                refine j7_read hx hb hown hK (C := RX8) (T := TX8) (N := 5) rfl hly_10_0 hlk_29 (hh_85.at 0 rfl) dX8_init_108 ?_
                refine lv_aload hx hb dX8_init_111 (lv_at hl 0 rfl) ?_
                refine lv_iconst (v := 0) hx hb dX8_init_113 (by decide) ?_
                refine lv_aload hx hb dX8_init_114 (lv_at hl 0 rfl) ?_
                refine j7_len hx hb hK hh_85 hB101 1 rfl (by decide) hg_ret_86 (by omega) dX8_init_116 (fun z_87 hz_87 => ?_)
                have hsz_88 := hh_85.2.2.2.2.2.1
                have htt_88 := hh_85.2.2.2.2.2.2.1
                refine W.room (fun hrc_88 hrs_88 => ?_)
                refine va_callv (A0 := jA base) (H0 := s.heap) (va_runV (As := [.ref ret_86, .int 0, .int z_87]) (rest := []) ⟨hx, hb, hml, hown, hts⟩ (uX0_quotedS l dC dI ca base B hB hAp hB2 hB101 hB196 G_74 H_74 H_26.size ret_86 0 z_87 m_ret_74 qc_51 qa_51 m_qa_51 LC LS) (cwV 3 hts (jgV (jWr_25 _ (List.mem_of_getElem? (i := 9) rfl)) (jWr_25 _ (List.mem_of_getElem? (i := 10) rfl)) (jWr_25 _ (List.mem_of_getElem? (i := 11) rfl)) (jWr_1 _ (List.mem_of_getElem? (i := 14) rfl)) (jWr_25 _ (List.mem_of_getElem? (i := 12) rfl))) rfl rfl rfl (by decide +kernel) ⟨by rw [← hR]; exact Nat.le_of_ble_eq_true rfl, by rw [← hR]; exact Nat.le_of_ble_eq_true rfl⟩) ⟨fun a U g mk q => by obtain ⟨q0, q1, q2, qK, q10, q11, q12, q13, q14⟩ := q; exact ⟨q0, q1, q2, jG.calling g mk a qK, q10, q11, q12, q13, q14⟩, hh_85.recv (C := RX0) (T := TX0) (N := 2) hB2 rfl (by decide) hg_78 hK, fun U hU hW => ⟨rfl, hU, hh_85.2.1, hG.step hW hU hh_85.1, hg_78, hg_ret_86, hg_79, (hh_85.2.2.1.sub (L1 := [(H_26.size, 2, 1, .int qc_51), (H_26.size, 2, 0, .ref qa_51)]) [5, 6] rfl), (by omega), (by omega), ⟨(by first | omega | rfl | assumption | exact jPw.z16.cg (by omega)), (by first | omega | rfl | assumption | exact jPw.z16.cg (by omega)), (by first | omega | rfl | assumption | exact jPw.z16.cg (by omega)), (by first | omega | rfl | assumption | exact jPw.z16.cg (by omega)), (by first | assumption | exact jPw.z16.cg (by omega) | omega), (by first | omega | rfl | assumption | exact jPw.z16.cg (by omega)), (by first | omega | rfl | assumption | exact jPw.z16.cg (by omega)), (by first | omega | rfl | assumption | exact jPw.z16.cg (by omega)), (by first | omega | rfl | assumption | exact jPw.z16.cg (by omega))⟩⟩⟩ rfl rfl hl.1 rfl (lv_room (Nat.le_of_ble_eq_true rfl)) dX8_init_117 ⟨by rw [hRc]; omega, by rw [hRs]; omega⟩) hh_85.1 (fun q _ h => h) (fun q h => h) (fun u_88 t_88 H_88 locs_88 ht_88 hvm_88 hr_89 hb_88 hz_88 hk_88 hS_88 => ?_)
                obtain ⟨qc_88, qa_88, m_qa_88, G_88⟩ := u_88
                rw [ht_88] at hb_88
                simp only at hb_88
                obtain ⟨⟨hb_881, hb_882, hb_883, hb_884, hb_885, hb_886⟩, hgq_88_0, hN_88, hbO_88⟩ := hb_88
                have hY_88 := hN_88
                have hN_88 : (jNk [0, 1, 3, 4, 5, 6, 7, 8, 9, 11, 12, 13, 14, 15, 16]) G_74 G_88 := hN_88.sub (by decide)
                have hy_90 := hh_85.iv 0 rfl
                have hh_88 : jSt (dC, dI) B base G0 G_88 EX8_init s.heap ((((0 + 1) + (1)) + (1)) + ((m_qa_88 - m_qa_51) / 16)) ((((0 + 2) + ((16 : Int).toNat)) + (m_ret_74)) + (2 * (m_qa_88 - m_qa_51))) [(H_26.size, 2, 1, .int qc_88), (H_26.size, 2, 0, .ref qa_88), (r0, 10, 0, .ref H_26.size), (r0, 10, 1, .null), (r0, 10, 2, .int 0), (r0, 10, 3, .int 0), (r0, 10, 4, .int (-1)), (r1, 6, 7, .int pv), (r1, 6, 0, .ref wk), (r1, 6, 1, .ref wi), (r1, 6, 2, .ref wz)] [(wk, 140, 1502, ca 1, fk), (wi, 141, 1502, ca 1, fi), (wz, 142, 1502, ca 1, fz)] [] H_88 locs_88 := (hh_85.callG hb_881 hb_882 hb_883 hb_884 hb_885 hS_88 rfl (L1 := [(r0, 10, 0, .ref H_26.size), (r0, 10, 1, .null), (r0, 10, 2, .int 0), (r0, 10, 3, .int 0), (r0, 10, 4, .int (-1)), (r1, 6, 7, .int pv), (r1, 6, 0, .ref wk), (r1, 6, 1, .ref wi), (r1, 6, 2, .ref wz)]) [0, 1, 2, 3, 4, 7, 8, 9, 10] rfl rfl (M1 := [(wk, 140, 1502, ca 1, fk), (wi, 141, 1502, ca 1, fi), (wz, 142, 1502, ca 1, fz)]) [0, 1, 2] rfl rfl (I1 := []) [] rfl rfl).more hb_886
                have hNn_88 : (jNk [0, 1, 3, 4, 5, 6, 7, 8, 9, 11, 12, 13, 14, 15, 16]) G0 G_88 := (hNn_74).tr hN_88
                have hg_91 := hb_882 _ _ hg_ret_86
                have hg_92 := hb_882 _ _ hg_76
                have hg_93 := hb_882 _ _ hg_77
                have hg_94 := hb_882 _ _ hg_78
                have hg_95 := hb_882 _ _ hg_80
                have hg_96 := hb_882 _ _ hg_81
                have hg_97 := hb_882 _ _ hg_82
                have hd_98 := jOl.trN (hh_85.iv 1 rfl) hh_85.2.2.2.2.1 hbO_88 (hnew0 _ hsy_47)
                have hh_99 := hh_88.addI (jOl.ie (dC := dC) (dI := dI) (G0 := G0) (k := 2) (rs := []) (H0 := s.heap) (F := [(2, 0), (2, 1)]) (C := RX0) (T := TX0) (N := 2) rfl (by decide) hh_88.2.2.2.2.1 (hd_98))
                clear hh_88
                have hyp_88 : qc_88.toInt ≤ (m_qa_88 : Nat) ∧ m_qa_88 ≤ 1048576 := by (try simp only at hr_89); omega
                have hy_100 := jYb.own hy_90 hbO_88 hb_882 hY_88 (by decide) (fun _ => ⟨_, _, _, hh_99.at 0 rfl, hh_99.at 1 rfl, hgq_88_0, hyp_88⟩)
                have hh_101 := hh_99.addI (jYb.ie hy_100)
                clear hh_99
                try simp only at hr_89
                obtain ⟨hr_89_0, hr_89_1, hr_89_2, hr_89_3, hr_89_4, hr_89_5⟩ := hr_89
                have hsz_102 := hh_101.2.2.2.2.2.1
                have htt_102 := hh_101.2.2.2.2.2.2.1
                refine W.room (fun hrc_102 hrs_102 => ?_)
                refine W.widen (k := LC - s.heap.size) (n := LS - jTot s.heap) (by omega) (by omega) ?_
                rw [hQ]
                exact W.vret hx hb hr (fun t ht hW => ⟨⟨G_88, rfl, trivial, ⟨hh_101.ra (by first | omega | (simp only; omega)) (by first | omega | (simp only; omega)) (M1 := []) [] rfl ht, hNn_88, by rw [ht]; exact hh_101.iv 1 rfl, hg_92, by rw [ht]; exact hh_101.2.2.2.2.2.2.2.2.sub (L1 := [(jFy, jYb dC dI G_88)]) [0] rfl⟩⟩, by rw [ht]; try exact hh_101.1.1, fun q h9 hq => by rw [ht]; try exact hh_101.1.2.1 q h9 hq⟩) hh_101.1.2.2 dX8_init_120
            · skip
              exact absurd c_72 (by decide)
  · skip
    have c_6' : r_4.toInt = 4 := jb_ne_n (rfl) ((by decide)) c_6
    first | (have hr_4q := hr_4.resolve_left (by omega); clear hr_4) | (have hr_4q := hr_4.resolve_right (by omega); clear hr_4) | try clear hr_4
    refine lv_iconst (v := 1) hx hb dX8_init_18 (by decide) ?_
    refine lv_goto (tgt := 23) hx hb dX8_init_19 (by decide) ?_
    refine lv_istore_n (lv' := [(3, .int 1), (0, .ref r0), (1, .ref r1), (2, .int a2)]) hx hb dX8_init_23 rfl hl (by decide) rfl (fun ls hl => ?_)
    refine lv_aload_n hx hb dX8_init_24 rfl (lv_at hl 2 rfl) ?_
    refine lv_iload_n hx hb dX8_init_25 rfl (lv_at hl 3 rfl) ?_
    have hsz_103 := hh_3.2.2.2.2.2.1
    have htt_103 := hh_3.2.2.2.2.2.2.1
    refine W.room (fun hrc_103 hrs_103 => ?_)
    refine va_calli (A0 := jA base) (H0 := s.heap) (va_runV (As := [.int a2]) (rest := []) ⟨hx, hb, hml, hown, hts⟩ (uX4_kindOfW l dC dI ca base B hB hAp hB6 hB140 G0 H_3 r1 a2 pv wk wi wz fk fi fz) (cwV 1 hts (jgV (jWr_24 _ (List.mem_of_getElem? (i := 5) rfl)) (jWr_23 _ (List.mem_of_getElem? (i := 15) rfl)) (jWr_23 _ (List.mem_of_getElem? (i := 16) rfl)) (jWr_1 _ (List.mem_of_getElem? (i := 22) rfl)) (jWr_23 _ (List.mem_of_getElem? (i := 17) rfl))) rfl rfl rfl (by decide +kernel) ⟨by rw [← hR]; exact Nat.le_of_ble_eq_true rfl, by rw [← hR]; exact Nat.le_of_ble_eq_true rfl⟩) ⟨fun a U g mk q => by obtain ⟨q0, q1, q2, qK, q10, q11, q12, q13, q14, q15, q16⟩ := q; exact ⟨q0, q1, q2, jG.calling g mk a qK, q10, q11, q12, q13, q14, q15, q16⟩, hh_3.recv (C := RX4) (T := TX4) (N := 12) hB6 rfl (by decide) hg_r1 hK, fun U hU hW => ⟨rfl, hU, hh_3.2.1, hG.step hW hU hh_3.1, hg_r1, hg_wk, hg_wi, hg_wz, (hh_3.2.2.1.sub (L1 := [(r1, 6, 7, .int pv), (r1, 6, 0, .ref wk), (r1, 6, 1, .ref wi), (r1, 6, 2, .ref wz)]) [0, 1, 2, 3] rfl), (hh_3.2.2.2.2.2.2.2.1.sub (L1 := [(wk, 140, 1502, ca 1, fk), (wi, 141, 1502, ca 1, fi), (wz, 142, 1502, ca 1, fz)]) [0, 1, 2] rfl), by first | omega | (refine ⟨?_, ?_⟩ <;> (first | omega | rfl | assumption | decide | exact Or.inl rfl | exact Or.inr rfl | (simp only; omega)))⟩⟩ rfl rfl hl.1 rfl (lv_room (Nat.le_of_ble_eq_true rfl)) dX8_init_26 ⟨by rw [hRc]; show _ + 0 ≤ _; omega, by rw [hRs]; show _ + 0 ≤ _; omega⟩) hh_3.1 (fun q _ h => h) (fun q h => h) (fun r_104 u_103 t_103 H_103 locs_103 ht_103 hvm_103 hr_104 hb_103 hz_103 hk_103 hS_103 => ?_)
    rw [ht_103] at hb_103
    obtain ⟨hb_103, hbF_103⟩ := hb_103
    obtain ⟨hb_1031, hb_1032, hb_1033, hb_1034, hb_1035⟩ := hb_103
    have hh_103 : jSt (dC, dI) B base G0 G0 EX8_init s.heap 0 0 [(r1, 6, 7, .int pv), (r1, 6, 0, .ref wk), (r1, 6, 1, .ref wi), (r1, 6, 2, .ref wz)] [(wk, 140, 1502, ca 1, fk), (wi, 141, 1502, ca 1, fi), (wz, 142, 1502, ca 1, fz)] [([(2, 0), (2, 1)], jOl (dC, dI) G0 2 [] s.heap), (jFy, jYb dC dI G0)] H_103 locs_103 := ((hh_3.call hb_1031 hb_1032 hb_1033 hb_1034 hS_103 rfl (L1 := [(r1, 6, 7, .int pv), (r1, 6, 0, .ref wk), (r1, 6, 1, .ref wi), (r1, 6, 2, .ref wz)]) [0, 1, 2, 3] rfl rfl (M1 := [(wk, 140, 1502, ca 1, fk), (wi, 141, 1502, ca 1, fi), (wz, 142, 1502, ca 1, fz)]) [0, 1, 2] rfl rfl (I1 := [([(2, 0), (2, 1)], jOl (dC, dI) G0 2 [] s.heap), (jFy, jYb dC dI G0)]) [0, 1] rfl rfl).more hb_1035)
    clear hh_3 ht_103 hvm_103 hz_103 hk_103 hS_103 hb_1031 hb_1032 hb_1033 hb_1034 hb_1035
    have hraw_105 := hraw_5.kept (hbF_103 _ (by simp))
    refine lv_iconst (v := 3) hx hb dX8_init_29 (by decide) ?_
    refine lv_icmp_ne (tgt := 47) hx hb dX8_init_30 (by decide) (fun c_106 => ?_) (fun c_106 => ?_)
    · skip
      have c_106' : r_104.toInt ≠ 3 := jb_ne (rfl) ((by decide)) c_106
      try clear hr_104
      refine lv_iconst (v := 0) hx hb dX8_init_47 (by decide) ?_
      refine lv_istore (lv' := [(4, .int 0), (3, .int 1), (0, .ref r0), (1, .ref r1), (2, .int a2)]) hx hb dX8_init_48 hl (by decide) rfl (fun ls hl => ?_)
      refine lv_aload_n hx hb dX8_init_50 rfl (lv_at hl 2 rfl) ?_
      refine lv_iload_n hx hb dX8_init_51 rfl (lv_at hl 1 rfl) ?_
      refine lv_if_ne (tgt := 60) hx hb dX8_init_52 (by decide) (fun c_107 => ?_) (fun c_107 => ?_)
      · skip
        have hsz_108 := hh_103.2.2.2.2.2.1
        have htt_108 := hh_103.2.2.2.2.2.2.1
        refine j7_newo (k := 2) (C := RX0) (T := TX0) (N := 2) (fs := [.null, .int 0]) hx hb htw jWc_wsX00 (fun k => ([(.array .byte), .int] : List FieldType).getD k .int) (by decide +kernel) hown (htw (.classLink RX8 24 RX0) (jWr_24 _ (List.mem_of_getElem? (i := 3) rfl))) (htw (.instantiable RX0 2) (jWr_1 _ (List.mem_of_getElem? (i := 13) rfl))) (htw (.initialized RX0) (jWr_1 _ (List.mem_of_getElem? (i := 14) rfl))) hK rfl (fun j hj => by rcases (by omega : j = 0 ∨ j = 1) with rfl | rfl <;> rfl) hh_103 hB (by rw [hRc]; omega) (by rw [hRs]; omega) dX8_init_60 (fun H_108 hraw_108 hfr_108 hnr_108 hh_108 => ?_)
        have hlt_109 := hraw_105.lt
        have hke_108 : jKe G0 G0 H_103 H_108 := jKe.raw hfr_108
        have hbr_108 : base ≤ H_103.size := Nat.le_trans hbs hh_103.1.1
        have hsy_108 : s.heap.size ≤ H_103.size := hh_103.1.1
        clear hh_103
        have hraw_110n := hke_108.nr hraw_105.lt hnr0
        have hraw_110 := hraw_105.kept (hke_108.1 _ hraw_105.lt)
        have hne_111 : r0 ≠ H_103.size := Nat.ne_of_lt hlt_109
        refine lv_dup hx hb dX8_init_63 rfl ?_
        refine lv_bipush (v := 16) hx hb dX8_init_64 (by decide) ?_
        have hsz_112 := hh_108.2.2.2.2.2.1
        have htt_112 := hh_108.2.2.2.2.2.2.1
        refine W.room (fun hrc_112 hrs_112 => ?_)
        refine va_callv (A0 := jA base) (H0 := s.heap) (va_runI (As := [.int 16]) (rest := [.ref H_103.size, .ref r0]) ⟨hx, hb, hml, hown, hts⟩ (uX0_initY l dC dI ca base B hB hAp hB2 hB196 G0 H_108 H_103.size 16 0 LC LS) (cwI 1 hts (jgW (jWr_3 _ (List.mem_of_getElem? (i := 3) rfl))) rfl rfl rfl (htw (.initialized RX0) (jWr_1 _ (List.mem_of_getElem? (i := 14) rfl))) (htw (.methodLink RX8 26 yX0_init) (jWr_24 _ (List.mem_of_getElem? (i := 10) rfl))) (htw (.instanceMethod yX0_init) (jWr_3 _ (List.mem_of_getElem? (i := 2) rfl))) rfl (by decide +kernel) ⟨by rw [← hR]; exact Nat.le_of_ble_eq_true rfl, by rw [← hR]; exact Nat.le_of_ble_eq_true rfl⟩) ⟨fun a U g mk q => by obtain ⟨q0, q1, q2, qK, q10, q11, q12, q13, q14, q15⟩ := q; exact ⟨q0, q1, q2, jG.calling g mk a qK, q10, q11, q12, q13, q14, q15⟩, fun U hU hW => ⟨rfl, hU, hh_108.2.1, hG.step hW hU hh_108.1, hraw_108, hnr_108, hbr_108, jP.nil, (hh_108.2.2.2.2.2.2.2.2.sub (L1 := [(jFy, jYb dC dI G0)]) [1] rfl), (by omega), (by omega), ⟨(by first | omega | rfl | assumption | exact fun _ => jPw.z16), (by first | omega | rfl | assumption | exact fun _ => jPw.z16), (by first | omega | rfl | assumption | exact fun _ => jPw.z16), (by first | assumption | exact fun _ => jPw.z16 | omega), (by first | omega | rfl | assumption | exact fun _ => jPw.z16)⟩⟩⟩ rfl rfl hl.1 rfl (lv_room (Nat.le_of_ble_eq_true rfl)) dX8_init_66 ⟨by rw [hRc]; omega, by rw [hRs]; omega⟩) hh_108.1 (fun q _ h => h) (fun q h => h) (fun u_112 t_112 H_112 locs_112 ht_112 hvm_112 hr_113 hb_112 hz_112 hk_112 hS_112 => ?_)
        obtain ⟨qc_112, qa_112, m_qa_112, G_112⟩ := u_112
        rw [ht_112] at hb_112
        simp only at hb_112
        obtain ⟨⟨hb_1121, hb_1122, hb_1123, hb_1124, hb_1125, hb_1126⟩, hgq_112_0, hN_112, hgc_112, hbX_112, hbE_112⟩ := hb_112
        have hN_112 : (jNk [0, 1, 3, 4, 5, 6, 7, 8, 9, 11, 12, 13, 14, 15, 16]) G0 G_112 := hN_112.sub (by decide)
        have hh_112 : jSt (dC, dI) B base G0 G_112 EX8_init s.heap ((0 + 1) + (1)) ((0 + 2) + ((16 : Int).toNat)) [(H_103.size, 2, 1, .int qc_112), (H_103.size, 2, 0, .ref qa_112), (r1, 6, 7, .int pv), (r1, 6, 0, .ref wk), (r1, 6, 1, .ref wi), (r1, 6, 2, .ref wz)] [(wk, 140, 1502, ca 1, fk), (wi, 141, 1502, ca 1, fi), (wz, 142, 1502, ca 1, fz)] [([(2, 0), (2, 1)], jOl (dC, dI) G0 2 [] s.heap)] H_112 locs_112 := (hh_108.callG hb_1121 hb_1122 hb_1123 hb_1124 hb_1125 hS_112 rfl (L1 := [(r1, 6, 7, .int pv), (r1, 6, 0, .ref wk), (r1, 6, 1, .ref wi), (r1, 6, 2, .ref wz)]) [0, 1, 2, 3] rfl rfl (M1 := [(wk, 140, 1502, ca 1, fk), (wi, 141, 1502, ca 1, fi), (wz, 142, 1502, ca 1, fz)]) [0, 1, 2] rfl rfl (I1 := [([(2, 0), (2, 1)], jOl (dC, dI) G0 2 [] s.heap)]) [0] rfl rfl).more hb_1126
        have hNn_112 : (jNk [0, 1, 3, 4, 5, 6, 7, 8, 9, 11, 12, 13, 14, 15, 16]) G0 G_112 := (jNk.rf).tr hN_112
        have hg_114 := hb_1122 _ _ hg_r1
        have hg_115 := hb_1122 _ _ hg_wk
        have hg_116 := hb_1122 _ _ hg_wi
        have hg_117 := hb_1122 _ _ hg_wz
        have hh_118 := hh_112.addIs hbE_112
        try simp only at hr_113
        obtain ⟨hr_113_0, hr_113_1⟩ := hr_113
        have hraw_119x := hbX_112.ke hraw_110.lt hne_111 hraw_110n
        have hraw_119 := hraw_110.kept hraw_119x.1
        refine lv_goto (tgt := 73) hx hb dX8_init_69 (by decide) ?_
        refine j7_putRF hx hb hown hK hh_118 hB hAp hraw_119 hraw_119x.2 hbr0 (C := RX8) (T := TX8) (N := 5) rfl (i := 0) (by decide) (Nat.le_of_ble_eq_true rfl) hly_10_0 rfl hin2 rfl hlk_29 (ty := (.object "ProofServer$Bytes")) (v := .ref H_103.size) (by decide +kernel) rfl rfl dX8_init_73 (fun H_120 locs_120 hraw_120 hr_120 hh_120 => ?_)
        have hraw_120 : va_at (dC, dI) vwCl (r0, .inr (10, [.ref H_103.size, .null, .int 0, .int 0, .int (-1)])) H_120 := hraw_120
        clear hh_118
        have hle_121 : jLe G_112 (va_up G_112 r0 (some (10, 0))) := jLe.typ hraw_119x.2
        have hg_122 := hle_121 _ _ hg_114
        have hg_123 := hle_121 _ _ hgq_112_0
        have hg_124 := hle_121 _ _ hg_115
        have hg_125 := hle_121 _ _ hg_116
        have hg_126 := hle_121 _ _ hg_117
        have hg_127 := (jLe.rf).tr hle_121 _ _ hgc_112
        have hfa_121 : jRn (va_up G_112 r0 (some (10, 0))) 2 0 (.ref H_103.size) ∧ jRn (va_up G_112 r0 (some (10, 0))) 3 0 (.null) ∧ jIa (.int 0) ∧ jZb (.int 0) ∧ jIa (.int (-1)) ∧ True := ⟨Or.inr ⟨_, rfl, hg_127⟩, Or.inl rfl, ⟨_, rfl⟩, ⟨_, rfl, Or.inl rfl⟩, ⟨_, rfl⟩, trivial⟩
        have hh_121 := hh_120.typ (k := 10) (n := 0) hB hraw_119x.2 hbr0 hraw_120.lt (jOb.of (C := RX8) (T := TX8) (N := 5) (F := F10) hB10 rfl hraw_120 (show jFx (F10 0 (va_up G_112 r0 (some (10, 0)))) [.ref H_103.size, .null, .int 0, .int 0, .int (-1)] from hfa_121))
        have hgn_121 : (va_up G_112 r0 (some (10, 0))) r0 = some (10, 0) := jUp_self
        have hN_121 : (jNk [0, 1, 3, 4, 5, 6, 7, 8, 9, 11, 12, 13, 14, 15, 16]) G_112 (va_up G_112 r0 (some (10, 0))) := jNk.new (by decide)
        have hNn_121 : (jNk [0, 1, 3, 4, 5, 6, 7, 8, 9, 11, 12, 13, 14, 15, 16]) G0 (va_up G_112 r0 (some (10, 0))) := (hNn_112).tr hN_121
        have hg_128 := (hle_121) _ _ hgc_112
        have hh_129 := hh_121.more (P1 := [(r0, 10, 0, .ref H_103.size), (r0, 10, 1, .null), (r0, 10, 2, .int 0), (r0, 10, 3, .int 0), (r0, 10, 4, .int (-1))]) (jP.cons hgn_121 (jf.raw (C := RX8) (T := TX8) (N := 5) rfl hraw_120 (i := 0) (by decide)) (jP.cons hgn_121 (jf.raw (C := RX8) (T := TX8) (N := 5) rfl hraw_120 (i := 1) (by decide)) (jP.cons hgn_121 (jf.raw (C := RX8) (T := TX8) (N := 5) rfl hraw_120 (i := 2) (by decide)) (jP.cons hgn_121 (jf.raw (C := RX8) (T := TX8) (N := 5) rfl hraw_120 (i := 3) (by decide)) (jP.cons hgn_121 (jf.raw (C := RX8) (T := TX8) (N := 5) rfl hraw_120 (i := 4) (by decide)) jP.nil)))))
        have hM_121 : jNk [1, 2, 11] G_112 (va_up G_112 r0 (some (10, 0))) := jNk.new (by decide)
        have hd_130 := jYb.grow (hh_129.iv 0 rfl) hle_121 hM_121 (by decide)
        have hh_131 := hh_129.sub (L1 := [(r0, 10, 0, .ref H_103.size), (r0, 10, 1, .null), (r0, 10, 2, .int 0), (r0, 10, 3, .int 0), (r0, 10, 4, .int (-1)), (H_103.size, 2, 1, .int qc_112), (H_103.size, 2, 0, .ref qa_112), (r1, 6, 7, .int pv), (r1, 6, 0, .ref wk), (r1, 6, 1, .ref wi), (r1, 6, 2, .ref wz)]) [0, 1, 2, 3, 4, 5, 6, 7, 8, 9, 10] rfl (M1 := [(wk, 140, 1502, ca 1, fk), (wi, 141, 1502, ca 1, fi), (wz, 142, 1502, ca 1, fz)]) [0, 1, 2] rfl (I1 := [([(2, 0), (2, 1)], jOl (dC, dI) G0 2 [] s.heap)]) [1] rfl
        clear hh_129
        have hh_132 := hh_131.addI (jYb.ie hd_130)
        clear hh_131
        refine lv_iload_n hx hb dX8_init_76 rfl (lv_at hl 1 rfl) ?_
        refine lv_if_eq (tgt := 95) hx hb dX8_init_77 (by decide) (fun c_133 => ?_) (fun c_133 => ?_)
        · skip
          exact absurd c_133 (by decide)
        · skip
          refine lv_aload_n hx hb dX8_init_80 rfl (lv_at hl 2 rfl) ?_
          refine j7_read hx hb hown hK (C := RX8) (T := TX8) (N := 5) rfl hly_10_0 hlk_29 (hh_132.at 0 rfl) dX8_init_81 ?_
          refine lv_aload_n hx hb dX8_init_84 rfl (lv_at hl 3 rfl) ?_
          refine lv_iload_n hx hb dX8_init_85 rfl (lv_at hl 4 rfl) ?_
          have hsz_134 := hh_132.2.2.2.2.2.1
          have htt_134 := hh_132.2.2.2.2.2.2.1
          refine W.room (fun hrc_134 hrs_134 => ?_)
          refine va_calli (A0 := jA base) (H0 := s.heap) (va_runV (As := [.int a2]) (rest := [.ref H_103.size]) ⟨hx, hb, hml, hown, hts⟩ (uX4_valueOf l dC dI ca base B hB hAp hB6 hB141 (va_up G_112 r0 (some (10, 0))) H_120 r1 a2) (cwV 1 hts (jgV (jWr_24 _ (List.mem_of_getElem? (i := 11) rfl)) (jWr_24 _ (List.mem_of_getElem? (i := 12) rfl)) (jWr_24 _ (List.mem_of_getElem? (i := 13) rfl)) (jWr_1 _ (List.mem_of_getElem? (i := 22) rfl)) (jWr_24 _ (List.mem_of_getElem? (i := 14) rfl))) rfl rfl rfl (by decide +kernel) ⟨by rw [← hR]; exact Nat.le_of_ble_eq_true rfl, by rw [← hR]; exact Nat.le_of_ble_eq_true rfl⟩) ⟨fun a U g mk q => by obtain ⟨q0, q1, q2, qK, q10, q11, q12⟩ := q; exact ⟨q0, q1, q2, jG.calling g mk a qK, q10, q11, q12⟩, hh_132.recv (C := RX4) (T := TX4) (N := 12) hB6 rfl (by decide) hg_122 hK, fun U hU hW => ⟨rfl, hU, hh_132.2.1, hG.step hW hU hh_132.1, hg_122, jP.nil, trivial⟩⟩ rfl rfl hl.1 rfl (lv_room (Nat.le_of_ble_eq_true rfl)) dX8_init_86 ⟨by rw [hRc]; show _ + 0 ≤ _; omega, by rw [hRs]; show _ + 0 ≤ _; omega⟩) hh_132.1 (fun q _ h => h) (fun q h => h) (fun r_135 u_134 t_134 H_134 locs_134 ht_134 hvm_134 hr_135 hb_134 hz_134 hk_134 hS_134 => ?_)
          rw [ht_134] at hb_134
          obtain ⟨hb_1341, hb_1342, hb_1343, hb_1344, hb_1345⟩ := hb_134
          have hh_134 : jSt (dC, dI) B base G0 (va_up G_112 r0 (some (10, 0))) EX8_init s.heap ((0 + 1) + (1)) ((0 + 2) + ((16 : Int).toNat)) [(r0, 10, 0, .ref H_103.size), (r0, 10, 1, .null), (r0, 10, 2, .int 0), (r0, 10, 3, .int 0), (r0, 10, 4, .int (-1)), (H_103.size, 2, 1, .int qc_112), (H_103.size, 2, 0, .ref qa_112), (r1, 6, 7, .int pv), (r1, 6, 0, .ref wk), (r1, 6, 1, .ref wi), (r1, 6, 2, .ref wz)] [(wk, 140, 1502, ca 1, fk), (wi, 141, 1502, ca 1, fi), (wz, 142, 1502, ca 1, fz)] [(jFy, jYb dC dI (va_up G_112 r0 (some (10, 0)))), ([(2, 0), (2, 1)], jOl (dC, dI) G0 2 [] s.heap)] H_134 locs_134 := ((hh_132.call hb_1341 hb_1342 hb_1343 hb_1344 hS_134 rfl (L1 := [(r0, 10, 0, .ref H_103.size), (r0, 10, 1, .null), (r0, 10, 2, .int 0), (r0, 10, 3, .int 0), (r0, 10, 4, .int (-1)), (H_103.size, 2, 1, .int qc_112), (H_103.size, 2, 0, .ref qa_112), (r1, 6, 7, .int pv), (r1, 6, 0, .ref wk), (r1, 6, 1, .ref wi), (r1, 6, 2, .ref wz)]) [0, 1, 2, 3, 4, 5, 6, 7, 8, 9, 10] rfl rfl (M1 := [(wk, 140, 1502, ca 1, fk), (wi, 141, 1502, ca 1, fi), (wz, 142, 1502, ca 1, fz)]) [0, 1, 2] rfl rfl (I1 := [(jFy, jYb dC dI (va_up G_112 r0 (some (10, 0)))), ([(2, 0), (2, 1)], jOl (dC, dI) G0 2 [] s.heap)]) [0, 1] rfl rfl).more hb_1345)
          clear hh_132 ht_134 hvm_134 hz_134 hk_134 hS_134 hb_1341 hb_1342 hb_1343 hb_1344 hb_1345
          have hsz_136 := hh_134.2.2.2.2.2.1
          have htt_136 := hh_134.2.2.2.2.2.2.1
          refine W.room (fun hrc_136 hrs_136 => ?_)
          refine va_callv (A0 := jA base) (H0 := s.heap) (va_runV (As := [.int r_135]) (rest := []) ⟨hx, hb, hml, hown, hts⟩ (uX0_numberS l dC dI ca base B hB hAp hB2 hB196 (va_up G_112 r0 (some (10, 0))) H_134 H_103.size r_135 qc_112 qa_112 m_qa_112 LC LS) (cwV 1 hts (jgV (jWr_24 _ (List.mem_of_getElem? (i := 15) rfl)) (jWr_24 _ (List.mem_of_getElem? (i := 16) rfl)) (jWr_24 _ (List.mem_of_getElem? (i := 17) rfl)) (jWr_1 _ (List.mem_of_getElem? (i := 14) rfl)) (jWr_24 _ (List.mem_of_getElem? (i := 18) rfl))) rfl rfl rfl (by decide +kernel) ⟨by rw [← hR]; exact Nat.le_of_ble_eq_true rfl, by rw [← hR]; exact Nat.le_of_ble_eq_true rfl⟩) ⟨fun a U g mk q => by obtain ⟨q0, q1, q2, qK, q10, q11, q12, q13⟩ := q; exact ⟨q0, q1, q2, jG.calling g mk a qK, q10, q11, q12, q13⟩, hh_134.recv (C := RX0) (T := TX0) (N := 2) hB2 rfl (by decide) hg_128 hK, fun U hU hW => ⟨rfl, hU, hh_134.2.1, hG.step hW hU hh_134.1, hg_128, hg_123, (hh_134.2.2.1.sub (L1 := [(H_103.size, 2, 1, .int qc_112), (H_103.size, 2, 0, .ref qa_112)]) [5, 6] rfl), (by omega), (by omega), ⟨(by first | omega | rfl | assumption | exact jPw.z16.cg (by omega)), (by first | omega | rfl | assumption | exact jPw.z16.cg (by omega)), (by first | omega | rfl | assumption | exact jPw.z16.cg (by omega)), (by first | omega | rfl | assumption | exact jPw.z16.cg (by omega)), (by first | assumption | exact jPw.z16.cg (by omega) | omega), (by first | omega | rfl | assumption | exact jPw.z16.cg (by omega))⟩⟩⟩ rfl rfl hl.1 rfl (lv_room (Nat.le_of_ble_eq_true rfl)) dX8_init_89 ⟨by rw [hRc]; omega, by rw [hRs]; omega⟩) hh_134.1 (fun q _ h => h) (fun q h => h) (fun u_136 t_136 H_136 locs_136 ht_136 hvm_136 hr_137 hb_136 hz_136 hk_136 hS_136 => ?_)
          obtain ⟨qc_136, qa_136, m_qa_136, G_136⟩ := u_136
          rw [ht_136] at hb_136
          simp only at hb_136
          obtain ⟨⟨hb_1361, hb_1362, hb_1363, hb_1364, hb_1365, hb_1366⟩, hgq_136_0, hN_136, hbO_136⟩ := hb_136
          have hY_136 := hN_136
          have hN_136 : (jNk [0, 1, 3, 4, 5, 6, 7, 8, 9, 11, 12, 13, 14, 15, 16]) (va_up G_112 r0 (some (10, 0))) G_136 := hN_136.sub (by decide)
          have hy_138 := hh_134.iv 0 rfl
          have hh_136 : jSt (dC, dI) B base G0 G_136 EX8_init s.heap (((0 + 1) + (1)) + ((m_qa_136 - m_qa_112) / 16)) (((0 + 2) + ((16 : Int).toNat)) + (2 * (m_qa_136 - m_qa_112))) [(H_103.size, 2, 1, .int qc_136), (H_103.size, 2, 0, .ref qa_136), (r0, 10, 0, .ref H_103.size), (r0, 10, 1, .null), (r0, 10, 2, .int 0), (r0, 10, 3, .int 0), (r0, 10, 4, .int (-1)), (r1, 6, 7, .int pv), (r1, 6, 0, .ref wk), (r1, 6, 1, .ref wi), (r1, 6, 2, .ref wz)] [(wk, 140, 1502, ca 1, fk), (wi, 141, 1502, ca 1, fi), (wz, 142, 1502, ca 1, fz)] [] H_136 locs_136 := (hh_134.callG hb_1361 hb_1362 hb_1363 hb_1364 hb_1365 hS_136 rfl (L1 := [(r0, 10, 0, .ref H_103.size), (r0, 10, 1, .null), (r0, 10, 2, .int 0), (r0, 10, 3, .int 0), (r0, 10, 4, .int (-1)), (r1, 6, 7, .int pv), (r1, 6, 0, .ref wk), (r1, 6, 1, .ref wi), (r1, 6, 2, .ref wz)]) [0, 1, 2, 3, 4, 7, 8, 9, 10] rfl rfl (M1 := [(wk, 140, 1502, ca 1, fk), (wi, 141, 1502, ca 1, fi), (wz, 142, 1502, ca 1, fz)]) [0, 1, 2] rfl rfl (I1 := []) [] rfl rfl).more hb_1366
          have hNn_136 : (jNk [0, 1, 3, 4, 5, 6, 7, 8, 9, 11, 12, 13, 14, 15, 16]) G0 G_136 := (hNn_121).tr hN_136
          have hg_139 := hb_1362 _ _ hgn_121
          have hg_140 := hb_1362 _ _ hg_122
          have hg_141 := hb_1362 _ _ hg_128
          have hg_142 := hb_1362 _ _ hg_124
          have hg_143 := hb_1362 _ _ hg_125
          have hg_144 := hb_1362 _ _ hg_126
          have hd_145 := jOl.trN (hh_134.iv 1 rfl) hh_134.2.2.2.2.1 hbO_136 (hnew0 _ hsy_108)
          have hh_146 := hh_136.addI (jOl.ie (dC := dC) (dI := dI) (G0 := G0) (k := 2) (rs := []) (H0 := s.heap) (F := [(2, 0), (2, 1)]) (C := RX0) (T := TX0) (N := 2) rfl (by decide) hh_136.2.2.2.2.1 (hd_145))
          clear hh_136
          have hyp_136 : qc_136.toInt ≤ (m_qa_136 : Nat) ∧ m_qa_136 ≤ 1048576 := by (try simp only at hr_137); omega
          have hy_147 := jYb.own hy_138 hbO_136 hb_1362 hY_136 (by decide) (fun _ => ⟨_, _, _, hh_146.at 0 rfl, hh_146.at 1 rfl, hgq_136_0, hyp_136⟩)
          have hh_148 := hh_146.addI (jYb.ie hy_147)
          clear hh_146
          try simp only at hr_137
          obtain ⟨hr_137_0, hr_137_1, hr_137_2, hr_137_3, hr_137_4, hr_137_5⟩ := hr_137
          refine lv_goto (tgt := 120) hx hb dX8_init_92 (by decide) ?_
          have hsz_149 := hh_148.2.2.2.2.2.1
          have htt_149 := hh_148.2.2.2.2.2.2.1
          refine W.room (fun hrc_149 hrs_149 => ?_)
          refine W.widen (k := LC - s.heap.size) (n := LS - jTot s.heap) (by omega) (by omega) ?_
          rw [hQ]
          exact W.vret hx hb hr (fun t ht hW => ⟨⟨G_136, rfl, trivial, ⟨hh_148.ra (by first | omega | (simp only; omega)) (by first | omega | (simp only; omega)) (M1 := []) [] rfl ht, hNn_136, by rw [ht]; exact hh_148.iv 1 rfl, hg_139, by rw [ht]; exact hh_148.2.2.2.2.2.2.2.2.sub (L1 := [(jFy, jYb dC dI G_136)]) [0] rfl⟩⟩, by rw [ht]; try exact hh_148.1.1, fun q h9 hq => by rw [ht]; try exact hh_148.1.2.1 q h9 hq⟩) hh_148.1.2.2 dX8_init_120
      · skip
        exact absurd c_107 (by decide)
    · skip
      have c_106' : r_104.toInt = 3 := jb_ne_n (rfl) ((by decide)) c_106
      first | (have hr_104q := hr_104.resolve_left (by omega); clear hr_104) | (have hr_104q := hr_104.resolve_right (by omega); clear hr_104) | try clear hr_104
      refine lv_aload_n hx hb dX8_init_33 rfl (lv_at hl 2 rfl) ?_
      refine lv_iload_n hx hb dX8_init_34 rfl (lv_at hl 3 rfl) ?_
      have hsz_150 := hh_103.2.2.2.2.2.1
      have htt_150 := hh_103.2.2.2.2.2.2.1
      refine W.room (fun hrc_150 hrs_150 => ?_)
      refine va_calli (A0 := jA base) (H0 := s.heap) (va_runV (As := [.int a2]) (rest := []) ⟨hx, hb, hml, hown, hts⟩ (uX4_sizeOfW l dC dI ca base B hB hAp hB6 hB142 G0 H_103 r1 a2 pv wk wi wz fk fi fz) (cwV 1 hts (jgV (jWr_24 _ (List.mem_of_getElem? (i := 6) rfl)) (jWr_24 _ (List.mem_of_getElem? (i := 7) rfl)) (jWr_24 _ (List.mem_of_getElem? (i := 8) rfl)) (jWr_1 _ (List.mem_of_getElem? (i := 22) rfl)) (jWr_24 _ (List.mem_of_getElem? (i := 9) rfl))) rfl rfl rfl (by decide +kernel) ⟨by rw [← hR]; exact Nat.le_of_ble_eq_true rfl, by rw [← hR]; exact Nat.le_of_ble_eq_true rfl⟩) ⟨fun a U g mk q => by obtain ⟨q0, q1, q2, qK, q10, q11, q12, q13, q14, q15, q16⟩ := q; exact ⟨q0, q1, q2, jG.calling g mk a qK, q10, q11, q12, q13, q14, q15, q16⟩, hh_103.recv (C := RX4) (T := TX4) (N := 12) hB6 rfl (by decide) hg_r1 hK, fun U hU hW => ⟨rfl, hU, hh_103.2.1, hG.step hW hU hh_103.1, hg_r1, hg_wk, hg_wi, hg_wz, (hh_103.2.2.1.sub (L1 := [(r1, 6, 7, .int pv), (r1, 6, 0, .ref wk), (r1, 6, 1, .ref wi), (r1, 6, 2, .ref wz)]) [0, 1, 2, 3] rfl), (hh_103.2.2.2.2.2.2.2.1.sub (L1 := [(wk, 140, 1502, ca 1, fk), (wi, 141, 1502, ca 1, fi), (wz, 142, 1502, ca 1, fz)]) [0, 1, 2] rfl), by first | omega | (refine ⟨?_, ?_⟩ <;> (first | omega | rfl | assumption | decide | exact Or.inl rfl | exact Or.inr rfl | (simp only; omega)))⟩⟩ rfl rfl hl.1 rfl (lv_room (Nat.le_of_ble_eq_true rfl)) dX8_init_35 ⟨by rw [hRc]; show _ + 0 ≤ _; omega, by rw [hRs]; show _ + 0 ≤ _; omega⟩) hh_103.1 (fun q _ h => h) (fun q h => h) (fun r_151 u_150 t_150 H_150 locs_150 ht_150 hvm_150 hr_151 hb_150 hz_150 hk_150 hS_150 => ?_)
      rw [ht_150] at hb_150
      obtain ⟨hb_150, hbF_150⟩ := hb_150
      obtain ⟨hb_1501, hb_1502, hb_1503, hb_1504, hb_1505⟩ := hb_150
      have hh_150 : jSt (dC, dI) B base G0 G0 EX8_init s.heap 0 0 [(r1, 6, 7, .int pv), (r1, 6, 0, .ref wk), (r1, 6, 1, .ref wi), (r1, 6, 2, .ref wz)] [(wk, 140, 1502, ca 1, fk), (wi, 141, 1502, ca 1, fi), (wz, 142, 1502, ca 1, fz)] [([(2, 0), (2, 1)], jOl (dC, dI) G0 2 [] s.heap), (jFy, jYb dC dI G0)] H_150 locs_150 := ((hh_103.call hb_1501 hb_1502 hb_1503 hb_1504 hS_150 rfl (L1 := [(r1, 6, 7, .int pv), (r1, 6, 0, .ref wk), (r1, 6, 1, .ref wi), (r1, 6, 2, .ref wz)]) [0, 1, 2, 3] rfl rfl (M1 := [(wk, 140, 1502, ca 1, fk), (wi, 141, 1502, ca 1, fi), (wz, 142, 1502, ca 1, fz)]) [0, 1, 2] rfl rfl (I1 := [([(2, 0), (2, 1)], jOl (dC, dI) G0 2 [] s.heap), (jFy, jYb dC dI G0)]) [0, 1] rfl rfl).more hb_1505)
      clear hh_103 ht_150 hvm_150 hz_150 hk_150 hS_150 hb_1501 hb_1502 hb_1503 hb_1504 hb_1505
      have hraw_152 := hraw_105.kept (hbF_150 _ (by simp))
      refine lv_bipush (v := 20) hx hb dX8_init_38 (by decide) ?_
      refine lv_icmp_gt (tgt := 47) hx hb dX8_init_40 (by decide) (fun c_153 => ?_) (fun c_153 => ?_)
      · skip
        have c_153' : r_151.toInt > 20 := jb_gt (rfl) ((by decide)) c_153
        first | (have hr_151q := hr_151.resolve_left (by omega); clear hr_151) | (have hr_151q := hr_151.resolve_right (by omega); clear hr_151) | try clear hr_151
        refine lv_iconst (v := 0) hx hb dX8_init_47 (by decide) ?_
        refine lv_istore (lv' := [(4, .int 0), (3, .int 1), (0, .ref r0), (1, .ref r1), (2, .int a2)]) hx hb dX8_init_48 hl (by decide) rfl (fun ls hl => ?_)
        refine lv_aload_n hx hb dX8_init_50 rfl (lv_at hl 2 rfl) ?_
        refine lv_iload_n hx hb dX8_init_51 rfl (lv_at hl 1 rfl) ?_
        refine lv_if_ne (tgt := 60) hx hb dX8_init_52 (by decide) (fun c_154 => ?_) (fun c_154 => ?_)
        · skip
          have hsz_155 := hh_150.2.2.2.2.2.1
          have htt_155 := hh_150.2.2.2.2.2.2.1
          refine j7_newo (k := 2) (C := RX0) (T := TX0) (N := 2) (fs := [.null, .int 0]) hx hb htw jWc_wsX00 (fun k => ([(.array .byte), .int] : List FieldType).getD k .int) (by decide +kernel) hown (htw (.classLink RX8 24 RX0) (jWr_24 _ (List.mem_of_getElem? (i := 3) rfl))) (htw (.instantiable RX0 2) (jWr_1 _ (List.mem_of_getElem? (i := 13) rfl))) (htw (.initialized RX0) (jWr_1 _ (List.mem_of_getElem? (i := 14) rfl))) hK rfl (fun j hj => by rcases (by omega : j = 0 ∨ j = 1) with rfl | rfl <;> rfl) hh_150 hB (by rw [hRc]; omega) (by rw [hRs]; omega) dX8_init_60 (fun H_155 hraw_155 hfr_155 hnr_155 hh_155 => ?_)
          have hlt_156 := hraw_152.lt
          have hke_155 : jKe G0 G0 H_150 H_155 := jKe.raw hfr_155
          have hbr_155 : base ≤ H_150.size := Nat.le_trans hbs hh_150.1.1
          have hsy_155 : s.heap.size ≤ H_150.size := hh_150.1.1
          clear hh_150
          have hraw_157n := hke_155.nr hraw_152.lt hnr0
          have hraw_157 := hraw_152.kept (hke_155.1 _ hraw_152.lt)
          have hne_158 : r0 ≠ H_150.size := Nat.ne_of_lt hlt_156
          refine lv_dup hx hb dX8_init_63 rfl ?_
          refine lv_bipush (v := 16) hx hb dX8_init_64 (by decide) ?_
          have hsz_159 := hh_155.2.2.2.2.2.1
          have htt_159 := hh_155.2.2.2.2.2.2.1
          refine W.room (fun hrc_159 hrs_159 => ?_)
          refine va_callv (A0 := jA base) (H0 := s.heap) (va_runI (As := [.int 16]) (rest := [.ref H_150.size, .ref r0]) ⟨hx, hb, hml, hown, hts⟩ (uX0_initY l dC dI ca base B hB hAp hB2 hB196 G0 H_155 H_150.size 16 0 LC LS) (cwI 1 hts (jgW (jWr_3 _ (List.mem_of_getElem? (i := 3) rfl))) rfl rfl rfl (htw (.initialized RX0) (jWr_1 _ (List.mem_of_getElem? (i := 14) rfl))) (htw (.methodLink RX8 26 yX0_init) (jWr_24 _ (List.mem_of_getElem? (i := 10) rfl))) (htw (.instanceMethod yX0_init) (jWr_3 _ (List.mem_of_getElem? (i := 2) rfl))) rfl (by decide +kernel) ⟨by rw [← hR]; exact Nat.le_of_ble_eq_true rfl, by rw [← hR]; exact Nat.le_of_ble_eq_true rfl⟩) ⟨fun a U g mk q => by obtain ⟨q0, q1, q2, qK, q10, q11, q12, q13, q14, q15⟩ := q; exact ⟨q0, q1, q2, jG.calling g mk a qK, q10, q11, q12, q13, q14, q15⟩, fun U hU hW => ⟨rfl, hU, hh_155.2.1, hG.step hW hU hh_155.1, hraw_155, hnr_155, hbr_155, jP.nil, (hh_155.2.2.2.2.2.2.2.2.sub (L1 := [(jFy, jYb dC dI G0)]) [1] rfl), (by omega), (by omega), ⟨(by first | omega | rfl | assumption | exact fun _ => jPw.z16), (by first | omega | rfl | assumption | exact fun _ => jPw.z16), (by first | omega | rfl | assumption | exact fun _ => jPw.z16), (by first | assumption | exact fun _ => jPw.z16 | omega), (by first | omega | rfl | assumption | exact fun _ => jPw.z16)⟩⟩⟩ rfl rfl hl.1 rfl (lv_room (Nat.le_of_ble_eq_true rfl)) dX8_init_66 ⟨by rw [hRc]; omega, by rw [hRs]; omega⟩) hh_155.1 (fun q _ h => h) (fun q h => h) (fun u_159 t_159 H_159 locs_159 ht_159 hvm_159 hr_160 hb_159 hz_159 hk_159 hS_159 => ?_)
          obtain ⟨qc_159, qa_159, m_qa_159, G_159⟩ := u_159
          rw [ht_159] at hb_159
          simp only at hb_159
          obtain ⟨⟨hb_1591, hb_1592, hb_1593, hb_1594, hb_1595, hb_1596⟩, hgq_159_0, hN_159, hgc_159, hbX_159, hbE_159⟩ := hb_159
          have hN_159 : (jNk [0, 1, 3, 4, 5, 6, 7, 8, 9, 11, 12, 13, 14, 15, 16]) G0 G_159 := hN_159.sub (by decide)
          have hh_159 : jSt (dC, dI) B base G0 G_159 EX8_init s.heap ((0 + 1) + (1)) ((0 + 2) + ((16 : Int).toNat)) [(H_150.size, 2, 1, .int qc_159), (H_150.size, 2, 0, .ref qa_159), (r1, 6, 7, .int pv), (r1, 6, 0, .ref wk), (r1, 6, 1, .ref wi), (r1, 6, 2, .ref wz)] [(wk, 140, 1502, ca 1, fk), (wi, 141, 1502, ca 1, fi), (wz, 142, 1502, ca 1, fz)] [([(2, 0), (2, 1)], jOl (dC, dI) G0 2 [] s.heap)] H_159 locs_159 := (hh_155.callG hb_1591 hb_1592 hb_1593 hb_1594 hb_1595 hS_159 rfl (L1 := [(r1, 6, 7, .int pv), (r1, 6, 0, .ref wk), (r1, 6, 1, .ref wi), (r1, 6, 2, .ref wz)]) [0, 1, 2, 3] rfl rfl (M1 := [(wk, 140, 1502, ca 1, fk), (wi, 141, 1502, ca 1, fi), (wz, 142, 1502, ca 1, fz)]) [0, 1, 2] rfl rfl (I1 := [([(2, 0), (2, 1)], jOl (dC, dI) G0 2 [] s.heap)]) [0] rfl rfl).more hb_1596
          have hNn_159 : (jNk [0, 1, 3, 4, 5, 6, 7, 8, 9, 11, 12, 13, 14, 15, 16]) G0 G_159 := (jNk.rf).tr hN_159
          have hg_161 := hb_1592 _ _ hg_r1
          have hg_162 := hb_1592 _ _ hg_wk
          have hg_163 := hb_1592 _ _ hg_wi
          have hg_164 := hb_1592 _ _ hg_wz
          have hh_165 := hh_159.addIs hbE_159
          try simp only at hr_160
          obtain ⟨hr_160_0, hr_160_1⟩ := hr_160
          have hraw_166x := hbX_159.ke hraw_157.lt hne_158 hraw_157n
          have hraw_166 := hraw_157.kept hraw_166x.1
          refine lv_goto (tgt := 73) hx hb dX8_init_69 (by decide) ?_
          refine j7_putRF hx hb hown hK hh_165 hB hAp hraw_166 hraw_166x.2 hbr0 (C := RX8) (T := TX8) (N := 5) rfl (i := 0) (by decide) (Nat.le_of_ble_eq_true rfl) hly_10_0 rfl hin2 rfl hlk_29 (ty := (.object "ProofServer$Bytes")) (v := .ref H_150.size) (by decide +kernel) rfl rfl dX8_init_73 (fun H_167 locs_167 hraw_167 hr_167 hh_167 => ?_)
          have hraw_167 : va_at (dC, dI) vwCl (r0, .inr (10, [.ref H_150.size, .null, .int 0, .int 0, .int (-1)])) H_167 := hraw_167
          clear hh_165
          have hle_168 : jLe G_159 (va_up G_159 r0 (some (10, 0))) := jLe.typ hraw_166x.2
          have hg_169 := hle_168 _ _ hg_161
          have hg_170 := hle_168 _ _ hgq_159_0
          have hg_171 := hle_168 _ _ hg_162
          have hg_172 := hle_168 _ _ hg_163
          have hg_173 := hle_168 _ _ hg_164
          have hg_174 := (jLe.rf).tr hle_168 _ _ hgc_159
          have hfa_168 : jRn (va_up G_159 r0 (some (10, 0))) 2 0 (.ref H_150.size) ∧ jRn (va_up G_159 r0 (some (10, 0))) 3 0 (.null) ∧ jIa (.int 0) ∧ jZb (.int 0) ∧ jIa (.int (-1)) ∧ True := ⟨Or.inr ⟨_, rfl, hg_174⟩, Or.inl rfl, ⟨_, rfl⟩, ⟨_, rfl, Or.inl rfl⟩, ⟨_, rfl⟩, trivial⟩
          have hh_168 := hh_167.typ (k := 10) (n := 0) hB hraw_166x.2 hbr0 hraw_167.lt (jOb.of (C := RX8) (T := TX8) (N := 5) (F := F10) hB10 rfl hraw_167 (show jFx (F10 0 (va_up G_159 r0 (some (10, 0)))) [.ref H_150.size, .null, .int 0, .int 0, .int (-1)] from hfa_168))
          have hgn_168 : (va_up G_159 r0 (some (10, 0))) r0 = some (10, 0) := jUp_self
          have hN_168 : (jNk [0, 1, 3, 4, 5, 6, 7, 8, 9, 11, 12, 13, 14, 15, 16]) G_159 (va_up G_159 r0 (some (10, 0))) := jNk.new (by decide)
          have hNn_168 : (jNk [0, 1, 3, 4, 5, 6, 7, 8, 9, 11, 12, 13, 14, 15, 16]) G0 (va_up G_159 r0 (some (10, 0))) := (hNn_159).tr hN_168
          have hg_175 := (hle_168) _ _ hgc_159
          have hh_176 := hh_168.more (P1 := [(r0, 10, 0, .ref H_150.size), (r0, 10, 1, .null), (r0, 10, 2, .int 0), (r0, 10, 3, .int 0), (r0, 10, 4, .int (-1))]) (jP.cons hgn_168 (jf.raw (C := RX8) (T := TX8) (N := 5) rfl hraw_167 (i := 0) (by decide)) (jP.cons hgn_168 (jf.raw (C := RX8) (T := TX8) (N := 5) rfl hraw_167 (i := 1) (by decide)) (jP.cons hgn_168 (jf.raw (C := RX8) (T := TX8) (N := 5) rfl hraw_167 (i := 2) (by decide)) (jP.cons hgn_168 (jf.raw (C := RX8) (T := TX8) (N := 5) rfl hraw_167 (i := 3) (by decide)) (jP.cons hgn_168 (jf.raw (C := RX8) (T := TX8) (N := 5) rfl hraw_167 (i := 4) (by decide)) jP.nil)))))
          have hM_168 : jNk [1, 2, 11] G_159 (va_up G_159 r0 (some (10, 0))) := jNk.new (by decide)
          have hd_177 := jYb.grow (hh_176.iv 0 rfl) hle_168 hM_168 (by decide)
          have hh_178 := hh_176.sub (L1 := [(r0, 10, 0, .ref H_150.size), (r0, 10, 1, .null), (r0, 10, 2, .int 0), (r0, 10, 3, .int 0), (r0, 10, 4, .int (-1)), (H_150.size, 2, 1, .int qc_159), (H_150.size, 2, 0, .ref qa_159), (r1, 6, 7, .int pv), (r1, 6, 0, .ref wk), (r1, 6, 1, .ref wi), (r1, 6, 2, .ref wz)]) [0, 1, 2, 3, 4, 5, 6, 7, 8, 9, 10] rfl (M1 := [(wk, 140, 1502, ca 1, fk), (wi, 141, 1502, ca 1, fi), (wz, 142, 1502, ca 1, fz)]) [0, 1, 2] rfl (I1 := [([(2, 0), (2, 1)], jOl (dC, dI) G0 2 [] s.heap)]) [1] rfl
          clear hh_176
          have hh_179 := hh_178.addI (jYb.ie hd_177)
          clear hh_178
          refine lv_iload_n hx hb dX8_init_76 rfl (lv_at hl 1 rfl) ?_
          refine lv_if_eq (tgt := 95) hx hb dX8_init_77 (by decide) (fun c_180 => ?_) (fun c_180 => ?_)
          · skip
            exact absurd c_180 (by decide)
          · skip
            refine lv_aload_n hx hb dX8_init_80 rfl (lv_at hl 2 rfl) ?_
            refine j7_read hx hb hown hK (C := RX8) (T := TX8) (N := 5) rfl hly_10_0 hlk_29 (hh_179.at 0 rfl) dX8_init_81 ?_
            refine lv_aload_n hx hb dX8_init_84 rfl (lv_at hl 3 rfl) ?_
            refine lv_iload_n hx hb dX8_init_85 rfl (lv_at hl 4 rfl) ?_
            have hsz_181 := hh_179.2.2.2.2.2.1
            have htt_181 := hh_179.2.2.2.2.2.2.1
            refine W.room (fun hrc_181 hrs_181 => ?_)
            refine va_calli (A0 := jA base) (H0 := s.heap) (va_runV (As := [.int a2]) (rest := [.ref H_150.size]) ⟨hx, hb, hml, hown, hts⟩ (uX4_valueOf l dC dI ca base B hB hAp hB6 hB141 (va_up G_159 r0 (some (10, 0))) H_167 r1 a2) (cwV 1 hts (jgV (jWr_24 _ (List.mem_of_getElem? (i := 11) rfl)) (jWr_24 _ (List.mem_of_getElem? (i := 12) rfl)) (jWr_24 _ (List.mem_of_getElem? (i := 13) rfl)) (jWr_1 _ (List.mem_of_getElem? (i := 22) rfl)) (jWr_24 _ (List.mem_of_getElem? (i := 14) rfl))) rfl rfl rfl (by decide +kernel) ⟨by rw [← hR]; exact Nat.le_of_ble_eq_true rfl, by rw [← hR]; exact Nat.le_of_ble_eq_true rfl⟩) ⟨fun a U g mk q => by obtain ⟨q0, q1, q2, qK, q10, q11, q12⟩ := q; exact ⟨q0, q1, q2, jG.calling g mk a qK, q10, q11, q12⟩, hh_179.recv (C := RX4) (T := TX4) (N := 12) hB6 rfl (by decide) hg_169 hK, fun U hU hW => ⟨rfl, hU, hh_179.2.1, hG.step hW hU hh_179.1, hg_169, jP.nil, trivial⟩⟩ rfl rfl hl.1 rfl (lv_room (Nat.le_of_ble_eq_true rfl)) dX8_init_86 ⟨by rw [hRc]; show _ + 0 ≤ _; omega, by rw [hRs]; show _ + 0 ≤ _; omega⟩) hh_179.1 (fun q _ h => h) (fun q h => h) (fun r_182 u_181 t_181 H_181 locs_181 ht_181 hvm_181 hr_182 hb_181 hz_181 hk_181 hS_181 => ?_)
            rw [ht_181] at hb_181
            obtain ⟨hb_1811, hb_1812, hb_1813, hb_1814, hb_1815⟩ := hb_181
            have hh_181 : jSt (dC, dI) B base G0 (va_up G_159 r0 (some (10, 0))) EX8_init s.heap ((0 + 1) + (1)) ((0 + 2) + ((16 : Int).toNat)) [(r0, 10, 0, .ref H_150.size), (r0, 10, 1, .null), (r0, 10, 2, .int 0), (r0, 10, 3, .int 0), (r0, 10, 4, .int (-1)), (H_150.size, 2, 1, .int qc_159), (H_150.size, 2, 0, .ref qa_159), (r1, 6, 7, .int pv), (r1, 6, 0, .ref wk), (r1, 6, 1, .ref wi), (r1, 6, 2, .ref wz)] [(wk, 140, 1502, ca 1, fk), (wi, 141, 1502, ca 1, fi), (wz, 142, 1502, ca 1, fz)] [(jFy, jYb dC dI (va_up G_159 r0 (some (10, 0)))), ([(2, 0), (2, 1)], jOl (dC, dI) G0 2 [] s.heap)] H_181 locs_181 := ((hh_179.call hb_1811 hb_1812 hb_1813 hb_1814 hS_181 rfl (L1 := [(r0, 10, 0, .ref H_150.size), (r0, 10, 1, .null), (r0, 10, 2, .int 0), (r0, 10, 3, .int 0), (r0, 10, 4, .int (-1)), (H_150.size, 2, 1, .int qc_159), (H_150.size, 2, 0, .ref qa_159), (r1, 6, 7, .int pv), (r1, 6, 0, .ref wk), (r1, 6, 1, .ref wi), (r1, 6, 2, .ref wz)]) [0, 1, 2, 3, 4, 5, 6, 7, 8, 9, 10] rfl rfl (M1 := [(wk, 140, 1502, ca 1, fk), (wi, 141, 1502, ca 1, fi), (wz, 142, 1502, ca 1, fz)]) [0, 1, 2] rfl rfl (I1 := [(jFy, jYb dC dI (va_up G_159 r0 (some (10, 0)))), ([(2, 0), (2, 1)], jOl (dC, dI) G0 2 [] s.heap)]) [0, 1] rfl rfl).more hb_1815)
            clear hh_179 ht_181 hvm_181 hz_181 hk_181 hS_181 hb_1811 hb_1812 hb_1813 hb_1814 hb_1815
            have hsz_183 := hh_181.2.2.2.2.2.1
            have htt_183 := hh_181.2.2.2.2.2.2.1
            refine W.room (fun hrc_183 hrs_183 => ?_)
            refine va_callv (A0 := jA base) (H0 := s.heap) (va_runV (As := [.int r_182]) (rest := []) ⟨hx, hb, hml, hown, hts⟩ (uX0_numberS l dC dI ca base B hB hAp hB2 hB196 (va_up G_159 r0 (some (10, 0))) H_181 H_150.size r_182 qc_159 qa_159 m_qa_159 LC LS) (cwV 1 hts (jgV (jWr_24 _ (List.mem_of_getElem? (i := 15) rfl)) (jWr_24 _ (List.mem_of_getElem? (i := 16) rfl)) (jWr_24 _ (List.mem_of_getElem? (i := 17) rfl)) (jWr_1 _ (List.mem_of_getElem? (i := 14) rfl)) (jWr_24 _ (List.mem_of_getElem? (i := 18) rfl))) rfl rfl rfl (by decide +kernel) ⟨by rw [← hR]; exact Nat.le_of_ble_eq_true rfl, by rw [← hR]; exact Nat.le_of_ble_eq_true rfl⟩) ⟨fun a U g mk q => by obtain ⟨q0, q1, q2, qK, q10, q11, q12, q13⟩ := q; exact ⟨q0, q1, q2, jG.calling g mk a qK, q10, q11, q12, q13⟩, hh_181.recv (C := RX0) (T := TX0) (N := 2) hB2 rfl (by decide) hg_175 hK, fun U hU hW => ⟨rfl, hU, hh_181.2.1, hG.step hW hU hh_181.1, hg_175, hg_170, (hh_181.2.2.1.sub (L1 := [(H_150.size, 2, 1, .int qc_159), (H_150.size, 2, 0, .ref qa_159)]) [5, 6] rfl), (by omega), (by omega), ⟨(by first | omega | rfl | assumption | exact jPw.z16.cg (by omega)), (by first | omega | rfl | assumption | exact jPw.z16.cg (by omega)), (by first | omega | rfl | assumption | exact jPw.z16.cg (by omega)), (by first | omega | rfl | assumption | exact jPw.z16.cg (by omega)), (by first | assumption | exact jPw.z16.cg (by omega) | omega), (by first | omega | rfl | assumption | exact jPw.z16.cg (by omega))⟩⟩⟩ rfl rfl hl.1 rfl (lv_room (Nat.le_of_ble_eq_true rfl)) dX8_init_89 ⟨by rw [hRc]; omega, by rw [hRs]; omega⟩) hh_181.1 (fun q _ h => h) (fun q h => h) (fun u_183 t_183 H_183 locs_183 ht_183 hvm_183 hr_184 hb_183 hz_183 hk_183 hS_183 => ?_)
            obtain ⟨qc_183, qa_183, m_qa_183, G_183⟩ := u_183
            rw [ht_183] at hb_183
            simp only at hb_183
            obtain ⟨⟨hb_1831, hb_1832, hb_1833, hb_1834, hb_1835, hb_1836⟩, hgq_183_0, hN_183, hbO_183⟩ := hb_183
            have hY_183 := hN_183
            have hN_183 : (jNk [0, 1, 3, 4, 5, 6, 7, 8, 9, 11, 12, 13, 14, 15, 16]) (va_up G_159 r0 (some (10, 0))) G_183 := hN_183.sub (by decide)
            have hy_185 := hh_181.iv 0 rfl
            have hh_183 : jSt (dC, dI) B base G0 G_183 EX8_init s.heap (((0 + 1) + (1)) + ((m_qa_183 - m_qa_159) / 16)) (((0 + 2) + ((16 : Int).toNat)) + (2 * (m_qa_183 - m_qa_159))) [(H_150.size, 2, 1, .int qc_183), (H_150.size, 2, 0, .ref qa_183), (r0, 10, 0, .ref H_150.size), (r0, 10, 1, .null), (r0, 10, 2, .int 0), (r0, 10, 3, .int 0), (r0, 10, 4, .int (-1)), (r1, 6, 7, .int pv), (r1, 6, 0, .ref wk), (r1, 6, 1, .ref wi), (r1, 6, 2, .ref wz)] [(wk, 140, 1502, ca 1, fk), (wi, 141, 1502, ca 1, fi), (wz, 142, 1502, ca 1, fz)] [] H_183 locs_183 := (hh_181.callG hb_1831 hb_1832 hb_1833 hb_1834 hb_1835 hS_183 rfl (L1 := [(r0, 10, 0, .ref H_150.size), (r0, 10, 1, .null), (r0, 10, 2, .int 0), (r0, 10, 3, .int 0), (r0, 10, 4, .int (-1)), (r1, 6, 7, .int pv), (r1, 6, 0, .ref wk), (r1, 6, 1, .ref wi), (r1, 6, 2, .ref wz)]) [0, 1, 2, 3, 4, 7, 8, 9, 10] rfl rfl (M1 := [(wk, 140, 1502, ca 1, fk), (wi, 141, 1502, ca 1, fi), (wz, 142, 1502, ca 1, fz)]) [0, 1, 2] rfl rfl (I1 := []) [] rfl rfl).more hb_1836
            have hNn_183 : (jNk [0, 1, 3, 4, 5, 6, 7, 8, 9, 11, 12, 13, 14, 15, 16]) G0 G_183 := (hNn_168).tr hN_183
            have hg_186 := hb_1832 _ _ hgn_168
            have hg_187 := hb_1832 _ _ hg_169
            have hg_188 := hb_1832 _ _ hg_175
            have hg_189 := hb_1832 _ _ hg_171
            have hg_190 := hb_1832 _ _ hg_172
            have hg_191 := hb_1832 _ _ hg_173
            have hd_192 := jOl.trN (hh_181.iv 1 rfl) hh_181.2.2.2.2.1 hbO_183 (hnew0 _ hsy_155)
            have hh_193 := hh_183.addI (jOl.ie (dC := dC) (dI := dI) (G0 := G0) (k := 2) (rs := []) (H0 := s.heap) (F := [(2, 0), (2, 1)]) (C := RX0) (T := TX0) (N := 2) rfl (by decide) hh_183.2.2.2.2.1 (hd_192))
            clear hh_183
            have hyp_183 : qc_183.toInt ≤ (m_qa_183 : Nat) ∧ m_qa_183 ≤ 1048576 := by (try simp only at hr_184); omega
            have hy_194 := jYb.own hy_185 hbO_183 hb_1832 hY_183 (by decide) (fun _ => ⟨_, _, _, hh_193.at 0 rfl, hh_193.at 1 rfl, hgq_183_0, hyp_183⟩)
            have hh_195 := hh_193.addI (jYb.ie hy_194)
            clear hh_193
            try simp only at hr_184
            obtain ⟨hr_184_0, hr_184_1, hr_184_2, hr_184_3, hr_184_4, hr_184_5⟩ := hr_184
            refine lv_goto (tgt := 120) hx hb dX8_init_92 (by decide) ?_
            have hsz_196 := hh_195.2.2.2.2.2.1
            have htt_196 := hh_195.2.2.2.2.2.2.1
            refine W.room (fun hrc_196 hrs_196 => ?_)
            refine W.widen (k := LC - s.heap.size) (n := LS - jTot s.heap) (by omega) (by omega) ?_
            rw [hQ]
            exact W.vret hx hb hr (fun t ht hW => ⟨⟨G_183, rfl, trivial, ⟨hh_195.ra (by first | omega | (simp only; omega)) (by first | omega | (simp only; omega)) (M1 := []) [] rfl ht, hNn_183, by rw [ht]; exact hh_195.iv 1 rfl, hg_186, by rw [ht]; exact hh_195.2.2.2.2.2.2.2.2.sub (L1 := [(jFy, jYb dC dI G_183)]) [0] rfl⟩⟩, by rw [ht]; try exact hh_195.1.1, fun q h9 hq => by rw [ht]; try exact hh_195.1.2.1 q h9 hq⟩) hh_195.1.2.2 dX8_init_120
        · skip
          exact absurd c_154 (by decide)
      · skip
        have c_153' : r_151.toInt ≤ 20 := jb_gt_n (rfl) ((by decide)) c_153
        first | (have hr_151q := hr_151.resolve_left (by omega); clear hr_151) | (have hr_151q := hr_151.resolve_right (by omega); clear hr_151) | try clear hr_151
        refine lv_iconst (v := 1) hx hb dX8_init_43 (by decide) ?_
        refine lv_goto (tgt := 48) hx hb dX8_init_44 (by decide) ?_
        refine lv_istore (lv' := [(4, .int 1), (3, .int 1), (0, .ref r0), (1, .ref r1), (2, .int a2)]) hx hb dX8_init_48 hl (by decide) rfl (fun ls hl => ?_)
        refine lv_aload_n hx hb dX8_init_50 rfl (lv_at hl 2 rfl) ?_
        refine lv_iload_n hx hb dX8_init_51 rfl (lv_at hl 1 rfl) ?_
        refine lv_if_ne (tgt := 60) hx hb dX8_init_52 (by decide) (fun c_197 => ?_) (fun c_197 => ?_)
        · skip
          have hsz_198 := hh_150.2.2.2.2.2.1
          have htt_198 := hh_150.2.2.2.2.2.2.1
          refine j7_newo (k := 2) (C := RX0) (T := TX0) (N := 2) (fs := [.null, .int 0]) hx hb htw jWc_wsX00 (fun k => ([(.array .byte), .int] : List FieldType).getD k .int) (by decide +kernel) hown (htw (.classLink RX8 24 RX0) (jWr_24 _ (List.mem_of_getElem? (i := 3) rfl))) (htw (.instantiable RX0 2) (jWr_1 _ (List.mem_of_getElem? (i := 13) rfl))) (htw (.initialized RX0) (jWr_1 _ (List.mem_of_getElem? (i := 14) rfl))) hK rfl (fun j hj => by rcases (by omega : j = 0 ∨ j = 1) with rfl | rfl <;> rfl) hh_150 hB (by rw [hRc]; omega) (by rw [hRs]; omega) dX8_init_60 (fun H_198 hraw_198 hfr_198 hnr_198 hh_198 => ?_)
          have hlt_199 := hraw_152.lt
          have hke_198 : jKe G0 G0 H_150 H_198 := jKe.raw hfr_198
          have hbr_198 : base ≤ H_150.size := Nat.le_trans hbs hh_150.1.1
          have hsy_198 : s.heap.size ≤ H_150.size := hh_150.1.1
          clear hh_150
          have hraw_200n := hke_198.nr hraw_152.lt hnr0
          have hraw_200 := hraw_152.kept (hke_198.1 _ hraw_152.lt)
          have hne_201 : r0 ≠ H_150.size := Nat.ne_of_lt hlt_199
          refine lv_dup hx hb dX8_init_63 rfl ?_
          refine lv_bipush (v := 16) hx hb dX8_init_64 (by decide) ?_
          have hsz_202 := hh_198.2.2.2.2.2.1
          have htt_202 := hh_198.2.2.2.2.2.2.1
          refine W.room (fun hrc_202 hrs_202 => ?_)
          refine va_callv (A0 := jA base) (H0 := s.heap) (va_runI (As := [.int 16]) (rest := [.ref H_150.size, .ref r0]) ⟨hx, hb, hml, hown, hts⟩ (uX0_initY l dC dI ca base B hB hAp hB2 hB196 G0 H_198 H_150.size 16 0 LC LS) (cwI 1 hts (jgW (jWr_3 _ (List.mem_of_getElem? (i := 3) rfl))) rfl rfl rfl (htw (.initialized RX0) (jWr_1 _ (List.mem_of_getElem? (i := 14) rfl))) (htw (.methodLink RX8 26 yX0_init) (jWr_24 _ (List.mem_of_getElem? (i := 10) rfl))) (htw (.instanceMethod yX0_init) (jWr_3 _ (List.mem_of_getElem? (i := 2) rfl))) rfl (by decide +kernel) ⟨by rw [← hR]; exact Nat.le_of_ble_eq_true rfl, by rw [← hR]; exact Nat.le_of_ble_eq_true rfl⟩) ⟨fun a U g mk q => by obtain ⟨q0, q1, q2, qK, q10, q11, q12, q13, q14, q15⟩ := q; exact ⟨q0, q1, q2, jG.calling g mk a qK, q10, q11, q12, q13, q14, q15⟩, fun U hU hW => ⟨rfl, hU, hh_198.2.1, hG.step hW hU hh_198.1, hraw_198, hnr_198, hbr_198, jP.nil, (hh_198.2.2.2.2.2.2.2.2.sub (L1 := [(jFy, jYb dC dI G0)]) [1] rfl), (by omega), (by omega), ⟨(by first | omega | rfl | assumption | exact fun _ => jPw.z16), (by first | omega | rfl | assumption | exact fun _ => jPw.z16), (by first | omega | rfl | assumption | exact fun _ => jPw.z16), (by first | assumption | exact fun _ => jPw.z16 | omega), (by first | omega | rfl | assumption | exact fun _ => jPw.z16)⟩⟩⟩ rfl rfl hl.1 rfl (lv_room (Nat.le_of_ble_eq_true rfl)) dX8_init_66 ⟨by rw [hRc]; omega, by rw [hRs]; omega⟩) hh_198.1 (fun q _ h => h) (fun q h => h) (fun u_202 t_202 H_202 locs_202 ht_202 hvm_202 hr_203 hb_202 hz_202 hk_202 hS_202 => ?_)
          obtain ⟨qc_202, qa_202, m_qa_202, G_202⟩ := u_202
          rw [ht_202] at hb_202
          simp only at hb_202
          obtain ⟨⟨hb_2021, hb_2022, hb_2023, hb_2024, hb_2025, hb_2026⟩, hgq_202_0, hN_202, hgc_202, hbX_202, hbE_202⟩ := hb_202
          have hN_202 : (jNk [0, 1, 3, 4, 5, 6, 7, 8, 9, 11, 12, 13, 14, 15, 16]) G0 G_202 := hN_202.sub (by decide)
          have hh_202 : jSt (dC, dI) B base G0 G_202 EX8_init s.heap ((0 + 1) + (1)) ((0 + 2) + ((16 : Int).toNat)) [(H_150.size, 2, 1, .int qc_202), (H_150.size, 2, 0, .ref qa_202), (r1, 6, 7, .int pv), (r1, 6, 0, .ref wk), (r1, 6, 1, .ref wi), (r1, 6, 2, .ref wz)] [(wk, 140, 1502, ca 1, fk), (wi, 141, 1502, ca 1, fi), (wz, 142, 1502, ca 1, fz)] [([(2, 0), (2, 1)], jOl (dC, dI) G0 2 [] s.heap)] H_202 locs_202 := (hh_198.callG hb_2021 hb_2022 hb_2023 hb_2024 hb_2025 hS_202 rfl (L1 := [(r1, 6, 7, .int pv), (r1, 6, 0, .ref wk), (r1, 6, 1, .ref wi), (r1, 6, 2, .ref wz)]) [0, 1, 2, 3] rfl rfl (M1 := [(wk, 140, 1502, ca 1, fk), (wi, 141, 1502, ca 1, fi), (wz, 142, 1502, ca 1, fz)]) [0, 1, 2] rfl rfl (I1 := [([(2, 0), (2, 1)], jOl (dC, dI) G0 2 [] s.heap)]) [0] rfl rfl).more hb_2026
          have hNn_202 : (jNk [0, 1, 3, 4, 5, 6, 7, 8, 9, 11, 12, 13, 14, 15, 16]) G0 G_202 := (jNk.rf).tr hN_202
          have hg_204 := hb_2022 _ _ hg_r1
          have hg_205 := hb_2022 _ _ hg_wk
          have hg_206 := hb_2022 _ _ hg_wi
          have hg_207 := hb_2022 _ _ hg_wz
          have hh_208 := hh_202.addIs hbE_202
          try simp only at hr_203
          obtain ⟨hr_203_0, hr_203_1⟩ := hr_203
          have hraw_209x := hbX_202.ke hraw_200.lt hne_201 hraw_200n
          have hraw_209 := hraw_200.kept hraw_209x.1
          refine lv_goto (tgt := 73) hx hb dX8_init_69 (by decide) ?_
          refine j7_putRF hx hb hown hK hh_208 hB hAp hraw_209 hraw_209x.2 hbr0 (C := RX8) (T := TX8) (N := 5) rfl (i := 0) (by decide) (Nat.le_of_ble_eq_true rfl) hly_10_0 rfl hin2 rfl hlk_29 (ty := (.object "ProofServer$Bytes")) (v := .ref H_150.size) (by decide +kernel) rfl rfl dX8_init_73 (fun H_210 locs_210 hraw_210 hr_210 hh_210 => ?_)
          have hraw_210 : va_at (dC, dI) vwCl (r0, .inr (10, [.ref H_150.size, .null, .int 0, .int 0, .int (-1)])) H_210 := hraw_210
          clear hh_208
          have hle_211 : jLe G_202 (va_up G_202 r0 (some (10, 0))) := jLe.typ hraw_209x.2
          have hg_212 := hle_211 _ _ hg_204
          have hg_213 := hle_211 _ _ hgq_202_0
          have hg_214 := hle_211 _ _ hg_205
          have hg_215 := hle_211 _ _ hg_206
          have hg_216 := hle_211 _ _ hg_207
          have hg_217 := (jLe.rf).tr hle_211 _ _ hgc_202
          have hfa_211 : jRn (va_up G_202 r0 (some (10, 0))) 2 0 (.ref H_150.size) ∧ jRn (va_up G_202 r0 (some (10, 0))) 3 0 (.null) ∧ jIa (.int 0) ∧ jZb (.int 0) ∧ jIa (.int (-1)) ∧ True := ⟨Or.inr ⟨_, rfl, hg_217⟩, Or.inl rfl, ⟨_, rfl⟩, ⟨_, rfl, Or.inl rfl⟩, ⟨_, rfl⟩, trivial⟩
          have hh_211 := hh_210.typ (k := 10) (n := 0) hB hraw_209x.2 hbr0 hraw_210.lt (jOb.of (C := RX8) (T := TX8) (N := 5) (F := F10) hB10 rfl hraw_210 (show jFx (F10 0 (va_up G_202 r0 (some (10, 0)))) [.ref H_150.size, .null, .int 0, .int 0, .int (-1)] from hfa_211))
          have hgn_211 : (va_up G_202 r0 (some (10, 0))) r0 = some (10, 0) := jUp_self
          have hN_211 : (jNk [0, 1, 3, 4, 5, 6, 7, 8, 9, 11, 12, 13, 14, 15, 16]) G_202 (va_up G_202 r0 (some (10, 0))) := jNk.new (by decide)
          have hNn_211 : (jNk [0, 1, 3, 4, 5, 6, 7, 8, 9, 11, 12, 13, 14, 15, 16]) G0 (va_up G_202 r0 (some (10, 0))) := (hNn_202).tr hN_211
          have hg_218 := (hle_211) _ _ hgc_202
          have hh_219 := hh_211.more (P1 := [(r0, 10, 0, .ref H_150.size), (r0, 10, 1, .null), (r0, 10, 2, .int 0), (r0, 10, 3, .int 0), (r0, 10, 4, .int (-1))]) (jP.cons hgn_211 (jf.raw (C := RX8) (T := TX8) (N := 5) rfl hraw_210 (i := 0) (by decide)) (jP.cons hgn_211 (jf.raw (C := RX8) (T := TX8) (N := 5) rfl hraw_210 (i := 1) (by decide)) (jP.cons hgn_211 (jf.raw (C := RX8) (T := TX8) (N := 5) rfl hraw_210 (i := 2) (by decide)) (jP.cons hgn_211 (jf.raw (C := RX8) (T := TX8) (N := 5) rfl hraw_210 (i := 3) (by decide)) (jP.cons hgn_211 (jf.raw (C := RX8) (T := TX8) (N := 5) rfl hraw_210 (i := 4) (by decide)) jP.nil)))))
          have hM_211 : jNk [1, 2, 11] G_202 (va_up G_202 r0 (some (10, 0))) := jNk.new (by decide)
          have hd_220 := jYb.grow (hh_219.iv 0 rfl) hle_211 hM_211 (by decide)
          have hh_221 := hh_219.sub (L1 := [(r0, 10, 0, .ref H_150.size), (r0, 10, 1, .null), (r0, 10, 2, .int 0), (r0, 10, 3, .int 0), (r0, 10, 4, .int (-1)), (H_150.size, 2, 1, .int qc_202), (H_150.size, 2, 0, .ref qa_202), (r1, 6, 7, .int pv), (r1, 6, 0, .ref wk), (r1, 6, 1, .ref wi), (r1, 6, 2, .ref wz)]) [0, 1, 2, 3, 4, 5, 6, 7, 8, 9, 10] rfl (M1 := [(wk, 140, 1502, ca 1, fk), (wi, 141, 1502, ca 1, fi), (wz, 142, 1502, ca 1, fz)]) [0, 1, 2] rfl (I1 := [([(2, 0), (2, 1)], jOl (dC, dI) G0 2 [] s.heap)]) [1] rfl
          clear hh_219
          have hh_222 := hh_221.addI (jYb.ie hd_220)
          clear hh_221
          refine lv_iload_n hx hb dX8_init_76 rfl (lv_at hl 1 rfl) ?_
          refine lv_if_eq (tgt := 95) hx hb dX8_init_77 (by decide) (fun c_223 => ?_) (fun c_223 => ?_)
          · skip
            exact absurd c_223 (by decide)
          · skip
            refine lv_aload_n hx hb dX8_init_80 rfl (lv_at hl 2 rfl) ?_
            refine j7_read hx hb hown hK (C := RX8) (T := TX8) (N := 5) rfl hly_10_0 hlk_29 (hh_222.at 0 rfl) dX8_init_81 ?_
            refine lv_aload_n hx hb dX8_init_84 rfl (lv_at hl 3 rfl) ?_
            refine lv_iload_n hx hb dX8_init_85 rfl (lv_at hl 4 rfl) ?_
            have hsz_224 := hh_222.2.2.2.2.2.1
            have htt_224 := hh_222.2.2.2.2.2.2.1
            refine W.room (fun hrc_224 hrs_224 => ?_)
            refine va_calli (A0 := jA base) (H0 := s.heap) (va_runV (As := [.int a2]) (rest := [.ref H_150.size]) ⟨hx, hb, hml, hown, hts⟩ (uX4_valueOf l dC dI ca base B hB hAp hB6 hB141 (va_up G_202 r0 (some (10, 0))) H_210 r1 a2) (cwV 1 hts (jgV (jWr_24 _ (List.mem_of_getElem? (i := 11) rfl)) (jWr_24 _ (List.mem_of_getElem? (i := 12) rfl)) (jWr_24 _ (List.mem_of_getElem? (i := 13) rfl)) (jWr_1 _ (List.mem_of_getElem? (i := 22) rfl)) (jWr_24 _ (List.mem_of_getElem? (i := 14) rfl))) rfl rfl rfl (by decide +kernel) ⟨by rw [← hR]; exact Nat.le_of_ble_eq_true rfl, by rw [← hR]; exact Nat.le_of_ble_eq_true rfl⟩) ⟨fun a U g mk q => by obtain ⟨q0, q1, q2, qK, q10, q11, q12⟩ := q; exact ⟨q0, q1, q2, jG.calling g mk a qK, q10, q11, q12⟩, hh_222.recv (C := RX4) (T := TX4) (N := 12) hB6 rfl (by decide) hg_212 hK, fun U hU hW => ⟨rfl, hU, hh_222.2.1, hG.step hW hU hh_222.1, hg_212, jP.nil, trivial⟩⟩ rfl rfl hl.1 rfl (lv_room (Nat.le_of_ble_eq_true rfl)) dX8_init_86 ⟨by rw [hRc]; show _ + 0 ≤ _; omega, by rw [hRs]; show _ + 0 ≤ _; omega⟩) hh_222.1 (fun q _ h => h) (fun q h => h) (fun r_225 u_224 t_224 H_224 locs_224 ht_224 hvm_224 hr_225 hb_224 hz_224 hk_224 hS_224 => ?_)
            rw [ht_224] at hb_224
            obtain ⟨hb_2241, hb_2242, hb_2243, hb_2244, hb_2245⟩ := hb_224
            have hh_224 : jSt (dC, dI) B base G0 (va_up G_202 r0 (some (10, 0))) EX8_init s.heap ((0 + 1) + (1)) ((0 + 2) + ((16 : Int).toNat)) [(r0, 10, 0, .ref H_150.size), (r0, 10, 1, .null), (r0, 10, 2, .int 0), (r0, 10, 3, .int 0), (r0, 10, 4, .int (-1)), (H_150.size, 2, 1, .int qc_202), (H_150.size, 2, 0, .ref qa_202), (r1, 6, 7, .int pv), (r1, 6, 0, .ref wk), (r1, 6, 1, .ref wi), (r1, 6, 2, .ref wz)] [(wk, 140, 1502, ca 1, fk), (wi, 141, 1502, ca 1, fi), (wz, 142, 1502, ca 1, fz)] [(jFy, jYb dC dI (va_up G_202 r0 (some (10, 0)))), ([(2, 0), (2, 1)], jOl (dC, dI) G0 2 [] s.heap)] H_224 locs_224 := ((hh_222.call hb_2241 hb_2242 hb_2243 hb_2244 hS_224 rfl (L1 := [(r0, 10, 0, .ref H_150.size), (r0, 10, 1, .null), (r0, 10, 2, .int 0), (r0, 10, 3, .int 0), (r0, 10, 4, .int (-1)), (H_150.size, 2, 1, .int qc_202), (H_150.size, 2, 0, .ref qa_202), (r1, 6, 7, .int pv), (r1, 6, 0, .ref wk), (r1, 6, 1, .ref wi), (r1, 6, 2, .ref wz)]) [0, 1, 2, 3, 4, 5, 6, 7, 8, 9, 10] rfl rfl (M1 := [(wk, 140, 1502, ca 1, fk), (wi, 141, 1502, ca 1, fi), (wz, 142, 1502, ca 1, fz)]) [0, 1, 2] rfl rfl (I1 := [(jFy, jYb dC dI (va_up G_202 r0 (some (10, 0)))), ([(2, 0), (2, 1)], jOl (dC, dI) G0 2 [] s.heap)]) [0, 1] rfl rfl).more hb_2245)
            clear hh_222 ht_224 hvm_224 hz_224 hk_224 hS_224 hb_2241 hb_2242 hb_2243 hb_2244 hb_2245
            have hsz_226 := hh_224.2.2.2.2.2.1
            have htt_226 := hh_224.2.2.2.2.2.2.1
            refine W.room (fun hrc_226 hrs_226 => ?_)
            refine va_callv (A0 := jA base) (H0 := s.heap) (va_runV (As := [.int r_225]) (rest := []) ⟨hx, hb, hml, hown, hts⟩ (uX0_numberS l dC dI ca base B hB hAp hB2 hB196 (va_up G_202 r0 (some (10, 0))) H_224 H_150.size r_225 qc_202 qa_202 m_qa_202 LC LS) (cwV 1 hts (jgV (jWr_24 _ (List.mem_of_getElem? (i := 15) rfl)) (jWr_24 _ (List.mem_of_getElem? (i := 16) rfl)) (jWr_24 _ (List.mem_of_getElem? (i := 17) rfl)) (jWr_1 _ (List.mem_of_getElem? (i := 14) rfl)) (jWr_24 _ (List.mem_of_getElem? (i := 18) rfl))) rfl rfl rfl (by decide +kernel) ⟨by rw [← hR]; exact Nat.le_of_ble_eq_true rfl, by rw [← hR]; exact Nat.le_of_ble_eq_true rfl⟩) ⟨fun a U g mk q => by obtain ⟨q0, q1, q2, qK, q10, q11, q12, q13⟩ := q; exact ⟨q0, q1, q2, jG.calling g mk a qK, q10, q11, q12, q13⟩, hh_224.recv (C := RX0) (T := TX0) (N := 2) hB2 rfl (by decide) hg_218 hK, fun U hU hW => ⟨rfl, hU, hh_224.2.1, hG.step hW hU hh_224.1, hg_218, hg_213, (hh_224.2.2.1.sub (L1 := [(H_150.size, 2, 1, .int qc_202), (H_150.size, 2, 0, .ref qa_202)]) [5, 6] rfl), (by omega), (by omega), ⟨(by first | omega | rfl | assumption | exact jPw.z16.cg (by omega)), (by first | omega | rfl | assumption | exact jPw.z16.cg (by omega)), (by first | omega | rfl | assumption | exact jPw.z16.cg (by omega)), (by first | omega | rfl | assumption | exact jPw.z16.cg (by omega)), (by first | assumption | exact jPw.z16.cg (by omega) | omega), (by first | omega | rfl | assumption | exact jPw.z16.cg (by omega))⟩⟩⟩ rfl rfl hl.1 rfl (lv_room (Nat.le_of_ble_eq_true rfl)) dX8_init_89 ⟨by rw [hRc]; omega, by rw [hRs]; omega⟩) hh_224.1 (fun q _ h => h) (fun q h => h) (fun u_226 t_226 H_226 locs_226 ht_226 hvm_226 hr_227 hb_226 hz_226 hk_226 hS_226 => ?_)
            obtain ⟨qc_226, qa_226, m_qa_226, G_226⟩ := u_226
            rw [ht_226] at hb_226
            simp only at hb_226
            obtain ⟨⟨hb_2261, hb_2262, hb_2263, hb_2264, hb_2265, hb_2266⟩, hgq_226_0, hN_226, hbO_226⟩ := hb_226
            have hY_226 := hN_226
            have hN_226 : (jNk [0, 1, 3, 4, 5, 6, 7, 8, 9, 11, 12, 13, 14, 15, 16]) (va_up G_202 r0 (some (10, 0))) G_226 := hN_226.sub (by decide)
            have hy_228 := hh_224.iv 0 rfl
            have hh_226 : jSt (dC, dI) B base G0 G_226 EX8_init s.heap (((0 + 1) + (1)) + ((m_qa_226 - m_qa_202) / 16)) (((0 + 2) + ((16 : Int).toNat)) + (2 * (m_qa_226 - m_qa_202))) [(H_150.size, 2, 1, .int qc_226), (H_150.size, 2, 0, .ref qa_226), (r0, 10, 0, .ref H_150.size), (r0, 10, 1, .null), (r0, 10, 2, .int 0), (r0, 10, 3, .int 0), (r0, 10, 4, .int (-1)), (r1, 6, 7, .int pv), (r1, 6, 0, .ref wk), (r1, 6, 1, .ref wi), (r1, 6, 2, .ref wz)] [(wk, 140, 1502, ca 1, fk), (wi, 141, 1502, ca 1, fi), (wz, 142, 1502, ca 1, fz)] [] H_226 locs_226 := (hh_224.callG hb_2261 hb_2262 hb_2263 hb_2264 hb_2265 hS_226 rfl (L1 := [(r0, 10, 0, .ref H_150.size), (r0, 10, 1, .null), (r0, 10, 2, .int 0), (r0, 10, 3, .int 0), (r0, 10, 4, .int (-1)), (r1, 6, 7, .int pv), (r1, 6, 0, .ref wk), (r1, 6, 1, .ref wi), (r1, 6, 2, .ref wz)]) [0, 1, 2, 3, 4, 7, 8, 9, 10] rfl rfl (M1 := [(wk, 140, 1502, ca 1, fk), (wi, 141, 1502, ca 1, fi), (wz, 142, 1502, ca 1, fz)]) [0, 1, 2] rfl rfl (I1 := []) [] rfl rfl).more hb_2266
            have hNn_226 : (jNk [0, 1, 3, 4, 5, 6, 7, 8, 9, 11, 12, 13, 14, 15, 16]) G0 G_226 := (hNn_211).tr hN_226
            have hg_229 := hb_2262 _ _ hgn_211
            have hg_230 := hb_2262 _ _ hg_212
            have hg_231 := hb_2262 _ _ hg_218
            have hg_232 := hb_2262 _ _ hg_214
            have hg_233 := hb_2262 _ _ hg_215
            have hg_234 := hb_2262 _ _ hg_216
            have hd_235 := jOl.trN (hh_224.iv 1 rfl) hh_224.2.2.2.2.1 hbO_226 (hnew0 _ hsy_198)
            have hh_236 := hh_226.addI (jOl.ie (dC := dC) (dI := dI) (G0 := G0) (k := 2) (rs := []) (H0 := s.heap) (F := [(2, 0), (2, 1)]) (C := RX0) (T := TX0) (N := 2) rfl (by decide) hh_226.2.2.2.2.1 (hd_235))
            clear hh_226
            have hyp_226 : qc_226.toInt ≤ (m_qa_226 : Nat) ∧ m_qa_226 ≤ 1048576 := by (try simp only at hr_227); omega
            have hy_237 := jYb.own hy_228 hbO_226 hb_2262 hY_226 (by decide) (fun _ => ⟨_, _, _, hh_236.at 0 rfl, hh_236.at 1 rfl, hgq_226_0, hyp_226⟩)
            have hh_238 := hh_236.addI (jYb.ie hy_237)
            clear hh_236
            try simp only at hr_227
            obtain ⟨hr_227_0, hr_227_1, hr_227_2, hr_227_3, hr_227_4, hr_227_5⟩ := hr_227
            refine lv_goto (tgt := 120) hx hb dX8_init_92 (by decide) ?_
            have hsz_239 := hh_238.2.2.2.2.2.1
            have htt_239 := hh_238.2.2.2.2.2.2.1
            refine W.room (fun hrc_239 hrs_239 => ?_)
            refine W.widen (k := LC - s.heap.size) (n := LS - jTot s.heap) (by omega) (by omega) ?_
            rw [hQ]
            exact W.vret hx hb hr (fun t ht hW => ⟨⟨G_226, rfl, trivial, ⟨hh_238.ra (by first | omega | (simp only; omega)) (by first | omega | (simp only; omega)) (M1 := []) [] rfl ht, hNn_226, by rw [ht]; exact hh_238.iv 1 rfl, hg_229, by rw [ht]; exact hh_238.2.2.2.2.2.2.2.2.sub (L1 := [(jFy, jYb dC dI G_226)]) [0] rfl⟩⟩, by rw [ht]; try exact hh_238.1.1, fun q h9 hq => by rw [ht]; try exact hh_238.1.2.1 q h9 hq⟩) hh_238.1.2.2 dX8_init_120
        · skip
          exact absurd c_197 (by decide)
end
