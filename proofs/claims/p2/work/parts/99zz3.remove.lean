theorem dJx4a65c_remove_915e3_0 : decode cJx4a65c_remove_915e3 0 = .ok (.iload_n 1, 1) := by decide +kernel
theorem dJx4a65c_remove_915e3_1 : decode cJx4a65c_remove_915e3 1 = .ok (.aload_n 0, 1) := by decide +kernel
theorem dJx4a65c_remove_915e3_2 : decode cJx4a65c_remove_915e3 2 = .ok (.getfield 48, 3) := by decide +kernel
theorem dJx4a65c_remove_915e3_5 : decode cJx4a65c_remove_915e3 5 = .ok (.invokestatic 118, 3) := by decide +kernel
theorem dJx4a65c_remove_915e3_8 : decode cJx4a65c_remove_915e3 8 = .ok (.pop, 1) := by decide +kernel
theorem dJx4a65c_remove_915e3_9 : decode cJx4a65c_remove_915e3 9 = .ok (.aload_n 0, 1) := by decide +kernel
theorem dJx4a65c_remove_915e3_10 : decode cJx4a65c_remove_915e3 10 = .ok (.getfield 9, 3) := by decide +kernel
theorem dJx4a65c_remove_915e3_13 : decode cJx4a65c_remove_915e3 13 = .ok (.astore_n 2, 1) := by decide +kernel
theorem dJx4a65c_remove_915e3_14 : decode cJx4a65c_remove_915e3 14 = .ok (.aload_n 2, 1) := by decide +kernel
theorem dJx4a65c_remove_915e3_15 : decode cJx4a65c_remove_915e3 15 = .ok (.iload_n 1, 1) := by decide +kernel
theorem dJx4a65c_remove_915e3_16 : decode cJx4a65c_remove_915e3 16 = .ok (.aaload, 1) := by decide +kernel
theorem dJx4a65c_remove_915e3_17 : decode cJx4a65c_remove_915e3 17 = .ok (.astore_n 3, 1) := by decide +kernel
theorem dJx4a65c_remove_915e3_18 : decode cJx4a65c_remove_915e3 18 = .ok (.aload_n 0, 1) := by decide +kernel
theorem dJx4a65c_remove_915e3_19 : decode cJx4a65c_remove_915e3 19 = .ok (.aload_n 2, 1) := by decide +kernel
theorem dJx4a65c_remove_915e3_20 : decode cJx4a65c_remove_915e3 20 = .ok (.iload_n 1, 1) := by decide +kernel
theorem dJx4a65c_remove_915e3_21 : decode cJx4a65c_remove_915e3 21 = .ok (.invokevirtual 144, 3) := by decide +kernel
theorem dJx4a65c_remove_915e3_24 : decode cJx4a65c_remove_915e3 24 = .ok (.aload_n 3, 1) := by decide +kernel
theorem dJx4a65c_remove_915e3_25 : decode cJx4a65c_remove_915e3 25 = .ok (.areturn, 1) := by decide +kernel
theorem dJx4a65c_fastRemove_b59b0_0 : decode cJx4a65c_fastRemove_b59b0 0 = .ok (.aload_n 0, 1) := by decide +kernel
theorem dJx4a65c_fastRemove_b59b0_1 : decode cJx4a65c_fastRemove_b59b0 1 = .ok (.dup, 1) := by decide +kernel
theorem dJx4a65c_fastRemove_b59b0_2 : decode cJx4a65c_fastRemove_b59b0 2 = .ok (.getfield 63, 3) := by decide +kernel
theorem dJx4a65c_fastRemove_b59b0_5 : decode cJx4a65c_fastRemove_b59b0 5 = .ok (.iconst 1, 1) := by decide +kernel
theorem dJx4a65c_fastRemove_b59b0_6 : decode cJx4a65c_fastRemove_b59b0 6 = .ok (.iadd, 1) := by decide +kernel
theorem dJx4a65c_fastRemove_b59b0_7 : decode cJx4a65c_fastRemove_b59b0 7 = .ok (.putfield 63, 3) := by decide +kernel
theorem dJx4a65c_fastRemove_b59b0_10 : decode cJx4a65c_fastRemove_b59b0 10 = .ok (.aload_n 0, 1) := by decide +kernel
theorem dJx4a65c_fastRemove_b59b0_11 : decode cJx4a65c_fastRemove_b59b0 11 = .ok (.getfield 48, 3) := by decide +kernel
theorem dJx4a65c_fastRemove_b59b0_14 : decode cJx4a65c_fastRemove_b59b0 14 = .ok (.iconst 1, 1) := by decide +kernel
theorem dJx4a65c_fastRemove_b59b0_15 : decode cJx4a65c_fastRemove_b59b0 15 = .ok (.isub, 1) := by decide +kernel
theorem dJx4a65c_fastRemove_b59b0_16 : decode cJx4a65c_fastRemove_b59b0 16 = .ok (.dup, 1) := by decide +kernel
theorem dJx4a65c_fastRemove_b59b0_17 : decode cJx4a65c_fastRemove_b59b0 17 = .ok (.istore_n 3, 1) := by decide +kernel
theorem dJx4a65c_fastRemove_b59b0_18 : decode cJx4a65c_fastRemove_b59b0 18 = .ok (.iload_n 2, 1) := by decide +kernel
theorem dJx4a65c_fastRemove_b59b0_19 : decode cJx4a65c_fastRemove_b59b0 19 = .ok (.if_icmp .le 15, 3) := by decide +kernel
theorem dJx4a65c_fastRemove_b59b0_22 : decode cJx4a65c_fastRemove_b59b0 22 = .ok (.aload_n 1, 1) := by decide +kernel
theorem dJx4a65c_fastRemove_b59b0_23 : decode cJx4a65c_fastRemove_b59b0 23 = .ok (.iload_n 2, 1) := by decide +kernel
theorem dJx4a65c_fastRemove_b59b0_24 : decode cJx4a65c_fastRemove_b59b0 24 = .ok (.iconst 1, 1) := by decide +kernel
theorem dJx4a65c_fastRemove_b59b0_25 : decode cJx4a65c_fastRemove_b59b0 25 = .ok (.iadd, 1) := by decide +kernel
theorem dJx4a65c_fastRemove_b59b0_26 : decode cJx4a65c_fastRemove_b59b0 26 = .ok (.aload_n 1, 1) := by decide +kernel
theorem dJx4a65c_fastRemove_b59b0_27 : decode cJx4a65c_fastRemove_b59b0 27 = .ok (.iload_n 2, 1) := by decide +kernel
theorem dJx4a65c_fastRemove_b59b0_28 : decode cJx4a65c_fastRemove_b59b0 28 = .ok (.iload_n 3, 1) := by decide +kernel
theorem dJx4a65c_fastRemove_b59b0_29 : decode cJx4a65c_fastRemove_b59b0 29 = .ok (.iload_n 2, 1) := by decide +kernel
theorem dJx4a65c_fastRemove_b59b0_30 : decode cJx4a65c_fastRemove_b59b0 30 = .ok (.isub, 1) := by decide +kernel
theorem dJx4a65c_fastRemove_b59b0_31 : decode cJx4a65c_fastRemove_b59b0 31 = .ok (.invokestatic 112, 3) := by decide +kernel
theorem dJx4a65c_fastRemove_b59b0_34 : decode cJx4a65c_fastRemove_b59b0 34 = .ok (.aload_n 1, 1) := by decide +kernel
theorem dJx4a65c_fastRemove_b59b0_35 : decode cJx4a65c_fastRemove_b59b0 35 = .ok (.aload_n 0, 1) := by decide +kernel
theorem dJx4a65c_fastRemove_b59b0_36 : decode cJx4a65c_fastRemove_b59b0 36 = .ok (.iload_n 3, 1) := by decide +kernel
theorem dJx4a65c_fastRemove_b59b0_37 : decode cJx4a65c_fastRemove_b59b0 37 = .ok (.dup_x1, 1) := by decide +kernel
theorem dJx4a65c_fastRemove_b59b0_38 : decode cJx4a65c_fastRemove_b59b0 38 = .ok (.putfield 48, 3) := by decide +kernel
theorem dJx4a65c_fastRemove_b59b0_41 : decode cJx4a65c_fastRemove_b59b0 41 = .ok (.aconst_null, 1) := by decide +kernel
theorem dJx4a65c_fastRemove_b59b0_42 : decode cJx4a65c_fastRemove_b59b0 42 = .ok (.aastore, 1) := by decide +kernel
theorem dJx4a65c_fastRemove_b59b0_43 : decode cJx4a65c_fastRemove_b59b0 43 = .ok (.return_, 1) := by decide +kernel
def EJx4a65c_fastRemove_b59b0L1 : List (Nat × Nat) := [(1, 0), (1, 2), (221, 0)]
def EJx4a65c_remove_915e3L1 : List (Nat × Nat) := [(1, 0), (1, 2), (221, 0)]
def EJx4a65c_fastRemove_b59b0L2 : List (Nat × Nat) := [(1, 0), (1, 2), (222, 0)]
def EJx4a65c_remove_915e3L2 : List (Nat × Nat) := [(1, 0), (1, 2), (222, 0)]
def EJx4a65c_fastRemove_b59b0L3 : List (Nat × Nat) := [(1, 0), (1, 2), (223, 0)]
def EJx4a65c_remove_915e3L3 : List (Nat × Nat) := [(1, 0), (1, 2), (223, 0)]
set_option maxHeartbeats 4000000 in
set_option maxRecDepth 20000 in
theorem uJx4a65c_fastRemove_b59b0L1 (l : Launch) (dC : Nat → ClassId) (dI : Nat → Nat → Nat) (ca : Nat → ClassId) (base : Nat) (B : jF) (hB : jBok B) (hAp : jAp (dC, dI)) (hB1 : ∀ n G a H, B 1 n G a H ↔ jOb (dC, dI) 1 3 (F1 n G) a H) (hB3 : ∀ n G a H, B 3 n G a H ↔ jOb (dC, dI) 3 17 (F3 n G) a H) (hB221 : ∀ n G a H, B 221 n G a H ↔ jAq (dC, dI) (ca 9) (jQn 3 0) n G a H) (G0 : jT) (H0 : Heap) (r0 : Nat) (r1 : Nat) (a2 : Int32) (n1 : Nat) (lz : Int32) : Met l yJx4a65c_fastRemove_b59b0 (jw yJx4a65c_fastRemove_b59b0 cJx4a65c_fastRemove_b59b0 4 none) ({ frames := 1, cells := 0, slots := 0, locals := 61 }) (va_Pc [.ref r0, .ref r1, .int a2] (fun U => U.heap = H0 ∧ jX B base G0 [] H0 ∧ jG dC dI ca base U ∧ jK7 dC dI ca base U ∧ G0 r0 = some (1, 1) ∧ G0 r1 = some (221, n1) ∧ jP (dC, dI) G0 H0 [(r0, 1, 1, .ref r1), (r0, 1, 2, .int lz)] ∧ jIs (dC, dI) G0 H0 [(jFl, jLs dC dI ca G0 3 none)] ∧ 0 ≤ a2.toInt ∧ a2.toInt < lz.toInt)) (va_Qv (S := Int32) (fun u => u.toInt = lz.toInt - 1) (fun u t => (jRt (dC, dI) B base G0 EJx4a65c_fastRemove_b59b0L1 H0 [(r0, 1, 2, .int u)] t.heap) ∧ jIs (dC, dI) G0 t.heap [(jFl, jLs dC dI ca G0 3 none)]) (jA base)) 0 0 (jA base) := by
  refine Met.ofW (cc := cJx4a65c_fastRemove_b59b0) (maxL := 4) (ret := none) (by decide) rfl ?_
  intro p e s m args below meth c s₁ Bd hml hv
  obtain ⟨rfl, hH0, hX, hG, hK7, hg_r0, hg_r1, hP0, hI0, hp0, hp1⟩ := hv
  have hK := hG.1
  have hx := Bd.exec
  have hb := Bd.bytes
  have hr := Bd.returns
  have hts := atoms_spec (ws := (jw yJx4a65c_fastRemove_b59b0 cJx4a65c_fastRemove_b59b0 4 none)) Bd.pre
  have htw : ∀ w ∈ jWl, w.before _ s = true := fun w h => hts w (List.mem_cons_of_mem _ h)
  have hown : s.vm.findClass RJx4a65c = some m.cls := findClass_of_methodNamed Bd.named
  have hlocks := Bd.notSynchronized
  obtain ⟨Q, hQ⟩ : ∃ Q, Q = MQ below (va_Qv (S := Int32) (fun u => u.toInt = lz.toInt - 1) (fun u t => (jRt (dC, dI) B base G0 EJx4a65c_fastRemove_b59b0L1 H0 [(r0, 1, 2, .int u)] t.heap) ∧ jIs (dC, dI) G0 t.heap [(jFl, jLs dC dI ca G0 3 none)]) (jA base)) ([.ref r0, .ref r1, .int a2] : List Value).toArray s 0 0 (jA base) := ⟨_, rfl⟩
  rw [← hQ]
  have hl := lv_entry ([.ref r0, .ref r1, .int a2]) (n := 4) (Nat.le_of_ble_eq_true rfl)
  rw [lg_entry_eq]
  generalize (lg_sl ([.ref r0, .ref r1, .int a2]) ++ List.replicate (4 - (lg_sl ([.ref r0, .ref r1, .int a2])).length) Slot.unset).toArray = ls at hl ⊢
  have hl : lv_has ls 4 [(0, .ref r0), (1, .ref r1), (2, .int a2)] := hl
  generalize hR : (headSpec (jw yJx4a65c_fastRemove_b59b0 cJx4a65c_fastRemove_b59b0 4 none) ({ frames := 1, cells := 0, slots := 0, locals := 61 })).room = R
  subst hH0
  have hh : jSt (dC, dI) B base G0 G0 EJx4a65c_fastRemove_b59b0L1 s.heap 0 0 [(r0, 1, 1, .ref r1), (r0, 1, 2, .int lz)] [] [(jFl, jLs dC dI ca G0 3 none)] s.heap [] := jSt.start hX hP0 jMc.nil hI0
  clear hX hP0
  have hk0 : (0 : Int32).toInt = 0 := by decide
  have hk1 : (1 : Int32).toInt = 1 := by decide
  have hly_1_0 := htw (u_lay RJx4a65c TJx4a65c 0) (jWc_wsJx4a65c0 _ (u_in_lay (by decide)))
  have hly_1_2 := htw (u_lay RJx4a65c TJx4a65c 2) (jWc_wsJx4a65c0 _ (u_in_lay (by decide)))
  have hlk_63 := (htw (.fieldLink RJx4a65c 63 "java/util/ArrayList" "modCount" "I") (jWr_33 _ (List.mem_of_getElem? (i := 11) rfl)))
  have hlk_48 := (htw (.fieldLink RJx4a65c 48 "java/util/ArrayList" "size" "I") (jWr_28 _ (List.mem_of_getElem? (i := 2) rfl)))
  have hrg_a2 := jb_rng a2
  obtain ⟨lz_1, lx_1, hl1_1, hl2_1, hl3_1, hl4_1⟩ := jLs.at (hh.iv 0 rfl) hg_r0
  obtain rfl : lz = lz_1 := Value.int.inj (jf.uniq (hh.at 1 rfl) hl1_1)
  have hl3_1 : 0 ≤ lz.toInt ∧ lz.toInt ≤ 3 := hl3_1
  obtain rfl : r1 = lx_1 := Value.ref.inj (jf.uniq (hh.at 0 rfl) hl2_1)
  rcases hl4_1 with ⟨hl9_1, hl5_1⟩ | ⟨lm_1, lf_1, hg_lx_1, hlm_1, hl6_1, hl7_1, hl8_1⟩
  · skip
    exact (by omega : False).elim
  · skip
    obtain rfl : n1 = lm_1 := by have h9 := Option.some.inj (hg_r1.symm.trans hg_lx_1); exact congrArg Prod.snd h9
    have hd_2 := jLs.less (hh.iv 0 rfl) r0
    have hh_3 := hh.sub (L1 := [(r0, 1, 1, .ref r1), (r0, 1, 2, .int lz)]) [0, 1] rfl (M1 := []) [] rfl (I1 := []) [] rfl
    clear hh
    have hh_4 := hh_3.addI (jLs.ie hd_2)
    clear hh_3
    have hh_5 := hh_4.addI (jQc.ie hl7_1 hg_lx_1 (by decide) (by decide))
    clear hh_4
    refine lv_aload_n hx hb dJx4a65c_fastRemove_b59b0_0 rfl (lv_at hl 0 rfl) ?_
    refine lv_dup hx hb dJx4a65c_fastRemove_b59b0_1 rfl ?_
    obtain ⟨v_6, hv_6, hh_7⟩ := hh_5.pin (C := RJx4a65c) (T := TJx4a65c) (N := 3) hB1 rfl (by decide) hg_r0 (i := 0) (by decide) rfl
    clear hh_5
    obtain ⟨modCount_8, rfl⟩ := hv_6
    refine j7_readS hx hb hown hK (C := RJx4a65c) (T := TJx4a65c) (N := 3) rfl hly_1_0 hlk_63 (htw (.sameField "java/util/ArrayList" "java/util/AbstractList" "modCount" "I") (jWr_33 _ (List.mem_of_getElem? (i := 12) rfl))) (hh_7.at 0 rfl) dJx4a65c_fastRemove_b59b0_2 ?_
    refine lv_iconst (v := 1) hx hb dJx4a65c_fastRemove_b59b0_5 (by decide) ?_
    refine lv_iadd hx hb dJx4a65c_fastRemove_b59b0_6 ?_
    refine lv_topi (fun z_9 ez_9 => ?_)
    refine j7_putS hx hb hown hK hh_7 hB hAp hB1 (C := RJx4a65c) (T := TJx4a65c) (N := 3) rfl (by decide) hg_r0 (i := 0) (by decide) hly_1_0 rfl hlk_63 (htw (.sameField "java/util/ArrayList" "java/util/AbstractList" "modCount" "I") (jWr_33 _ (List.mem_of_getElem? (i := 12) rfl))) rfl (ty := .int) (v := .int z_9) (by decide +kernel) rfl rfl (⟨_, rfl⟩) rfl (L1 := [(r0, 1, 1, .ref r1), (r0, 1, 2, .int lz)]) [1, 2] rfl rfl rfl dJx4a65c_fastRemove_b59b0_7 (fun H_10 locs_10 hr_10 hh_10 => ?_)
    clear hr_10
    clear hh_7
    refine lv_aload_n hx hb dJx4a65c_fastRemove_b59b0_10 rfl (lv_at hl 0 rfl) ?_
    refine j7_read hx hb hown hK (C := RJx4a65c) (T := TJx4a65c) (N := 3) rfl hly_1_2 hlk_48 (hh_10.at 2 rfl) dJx4a65c_fastRemove_b59b0_11 ?_
    refine lv_iconst (v := 1) hx hb dJx4a65c_fastRemove_b59b0_14 (by decide) ?_
    refine lv_isub hx hb dJx4a65c_fastRemove_b59b0_15 ?_
    refine lv_topi (fun z_11 ez_11 => ?_)
    have hz_11 : z_11.toInt = lz.toInt - 1 := by rw [ez_11]; exact jb_isub2 (rfl) ((by decide)) (by omega)
    refine lv_dup hx hb dJx4a65c_fastRemove_b59b0_16 rfl ?_
    refine lv_istore_n (lv' := [(3, .int z_11), (0, .ref r0), (1, .ref r1), (2, .int a2)]) hx hb dJx4a65c_fastRemove_b59b0_17 rfl hl (by decide) rfl (fun ls hl => ?_)
    refine lv_iload_n hx hb dJx4a65c_fastRemove_b59b0_18 rfl (lv_at hl 3 rfl) ?_
    refine lv_icmp_le (tgt := 34) hx hb dJx4a65c_fastRemove_b59b0_19 (by decide) (fun c_12 => ?_) (fun c_12 => ?_)
    · skip
      have c_12' : z_11.toInt ≤ a2.toInt := jb_le (rfl) (rfl) c_12
      refine lv_aload_n hx hb dJx4a65c_fastRemove_b59b0_34 rfl (lv_at hl 2 rfl) ?_
      refine lv_aload_n hx hb dJx4a65c_fastRemove_b59b0_35 rfl (lv_at hl 1 rfl) ?_
      refine lv_iload_n hx hb dJx4a65c_fastRemove_b59b0_36 rfl (lv_at hl 0 rfl) ?_
      refine lv_dup_x1 hx hb dJx4a65c_fastRemove_b59b0_37 rfl rfl ?_
      have hd_14 := hh_10.iv 1 rfl
      have hh_15 := hh_10.sub (L1 := [(r0, 1, 0, .int z_9), (r0, 1, 1, .ref r1), (r0, 1, 2, .int lz)]) [0, 1, 2] rfl (M1 := []) [] rfl (I1 := [([(221, 0)], jQc dC dI (ca 9) r1 n1 lf_1)]) [0] rfl
      clear hh_10
      refine j7_putX hx hb hown hK hh_15 hB hAp hB1 (C := RJx4a65c) (T := TJx4a65c) (N := 3) rfl (by decide) hg_r0 (i := 2) (by decide) hly_1_2 rfl hlk_48 rfl (ty := .int) (v := .int z_11) (by decide +kernel) rfl rfl (⟨_, rfl, by omega, by omega⟩) rfl (L1 := [(r0, 1, 0, .int z_9), (r0, 1, 1, .ref r1)]) [0, 1] rfl rfl rfl dJx4a65c_fastRemove_b59b0_38 (fun H_13 locs_13 hr_13 hh_13 => ?_)
      clear hh_15
      have hd_14n := jLs.fld hd_14 hg_r0 hr_13
      have hh_16 := hh_13.addI (jLs.ie hd_14n)
      clear hh_13
      clear hd_14 hd_14n hr_13
      refine lv_null hx hb dJx4a65c_fastRemove_b59b0_41 ?_
      have hd_18 := hh_16.iv 1 rfl
      have hd_19 := hh_16.iv 0 rfl
      have hh_21 := hh_16.sub (L1 := [(r0, 1, 2, .int z_11), (r0, 1, 0, .int z_9), (r0, 1, 1, .ref r1)]) [0, 1, 2] rfl (M1 := []) [] rfl (I1 := []) [] rfl
      clear hh_16
      refine j7_qastNO hx hb hK7.1 hh_21 hB hB221 0 rfl (by decide) (by decide) rfl rfl rfl hg_r1 (x := z_11.toInt) (rfl) (by omega) (Or.inl rfl) hd_18 dJx4a65c_fastRemove_b59b0_42 (fun H_17 locs_17 fq_20 hv_17 ho_17 hq_17 hr_17 hh_17 => ?_)
      clear hh_21
      have hd_19n := jLs.arr hd_19 hg_r0 hg_r1 hr_17
      have hh_22 := hh_17.addI (jLs.ie hd_19n)
      clear hh_17
      have hh_23 := hh_22.addI (hq_17.ie hg_r1 (by decide) (by decide))
      clear hh_22
      clear hd_18 hd_19 hd_19n hr_17
      have hd_24 := jLs.full (hh_23.iv 1 rfl) hg_r0 ⟨_, _, hh_23.at 0 rfl, hh_23.at 2 rfl, ⟨by omega, (show _ ≤ (3 : Int) by omega)⟩, Or.inr ⟨_, _, hg_r1, by omega, by omega, hh_23.iv 0 rfl, by first | exact jRm.copy hl8_1 (by omega) (by omega) (zz_none) (by omega) (by omega) (by omega) ho_17 | exact jRm.last hl8_1 (by omega) (by omega) ho_17⟩⟩
      have hh_25 := hh_23.sub (L1 := [(r0, 1, 2, .int z_11), (r0, 1, 0, .int z_9), (r0, 1, 1, .ref r1)]) [0, 1, 2] rfl (M1 := []) [] rfl (I1 := [([(221, 0)], jQc dC dI (ca 9) r1 n1 fq_20)]) [0] rfl
      clear hh_23
      have hh_26 := hh_25.addI (jLs.ie hd_24)
      clear hh_25
      rw [hQ]
      exact W.vret hx hb hr (fun t ht hW => ⟨⟨z_11, rfl, by first | omega | rfl | assumption | decide | exact Or.inl rfl | exact Or.inr rfl | (simp only; omega), ⟨hh_26.rt (M1 := [(r0, 1, 2, .int z_11)]) [0] rfl ht, by rw [ht]; exact hh_26.2.2.2.2.2.2.2.2.sub (L1 := [(jFl, jLs dC dI ca G0 3 none)]) [0] rfl⟩⟩, by rw [ht]; try exact hh_26.1.1, fun q h9 hq => by rw [ht]; try exact hh_26.1.2.1 q h9 hq⟩) hh_26.1.2.2 dJx4a65c_fastRemove_b59b0_43
    · skip
      have c_12' : z_11.toInt > a2.toInt := jb_le_n (rfl) (rfl) c_12
      refine lv_aload_n hx hb dJx4a65c_fastRemove_b59b0_22 rfl (lv_at hl 2 rfl) ?_
      refine lv_iload_n hx hb dJx4a65c_fastRemove_b59b0_23 rfl (lv_at hl 3 rfl) ?_
      refine lv_iconst (v := 1) hx hb dJx4a65c_fastRemove_b59b0_24 (by decide) ?_
      refine lv_iadd hx hb dJx4a65c_fastRemove_b59b0_25 ?_
      refine lv_topi (fun z_27 ez_27 => ?_)
      have hz_27 : z_27.toInt = a2.toInt + 1 := by rw [ez_27]; exact jb_iadd2 (rfl) ((by decide)) (by omega)
      refine lv_aload_n hx hb dJx4a65c_fastRemove_b59b0_26 rfl (lv_at hl 2 rfl) ?_
      refine lv_iload_n hx hb dJx4a65c_fastRemove_b59b0_27 rfl (lv_at hl 3 rfl) ?_
      refine lv_iload_n hx hb dJx4a65c_fastRemove_b59b0_28 rfl (lv_at hl 0 rfl) ?_
      refine lv_iload_n hx hb dJx4a65c_fastRemove_b59b0_29 rfl (lv_at hl 3 rfl) ?_
      refine lv_isub hx hb dJx4a65c_fastRemove_b59b0_30 ?_
      refine lv_topi (fun z_28 ez_28 => ?_)
      have hz_28 : z_28.toInt = z_11.toInt - a2.toInt := by rw [ez_28]; exact jb_isub2 (rfl) (rfl) (by omega)
      have hd_30 := hh_10.iv 0 rfl
      have hd_31 := hh_10.iv 0 rfl
      have hd_32 := hh_10.iv 1 rfl
      have hh_34 := hh_10.sub (L1 := [(r0, 1, 0, .int z_9), (r0, 1, 1, .ref r1), (r0, 1, 2, .int lz)]) [0, 1, 2] rfl (M1 := []) [] rfl (I1 := []) [] rfl
      clear hh_10
      refine j7_qcopy hx hb (by rw [hml]; exact hl.1.symm) hown (htw (.methodLink RJx4a65c 112 arraycopyName) (jWr_42 _ (List.mem_of_getElem? (i := 15) rfl))) (htw (.native arraycopyName) (jWr_16 _ (List.mem_of_getElem? (i := 19) rfl))) (htw (.static arraycopyName) (jWr_16 _ (List.mem_of_getElem? (i := 20) rfl))) (htw (.initialized "java/lang/System") (jWr_16 _ (List.mem_of_getElem? (i := 21) rfl))) hK hK7.1 hh_34 hB hB221 0 rfl (by decide) (by decide) rfl rfl rfl hg_r1 hg_r1 hd_31 hd_30 hB3 (T := TX1) (N := 17) rfl (by decide) hK7.2.2.1.1.1 (x := z_27.toInt) (y := a2.toInt) (z := z_28.toInt) rfl rfl rfl (by omega) (by rw [← hR]; exact Nat.le_of_ble_eq_true rfl) (by rw [← hR]; exact Nat.le_of_ble_eq_true rfl) dJx4a65c_fastRemove_b59b0_31 (fun H_29 locs_29 fq_33 hc_29 hq_29 hr_29 hh_29 => ?_)
      clear hh_34
      have hd_32n := jLs.arr hd_32 hg_r0 hg_r1 hr_29
      have hh_35 := hh_29.addI (jLs.ie hd_32n)
      clear hh_29
      have hh_36 := hh_35.addI (hq_29.ie hg_r1 (by decide) (by decide))
      clear hh_35
      refine lv_aload_n hx hb dJx4a65c_fastRemove_b59b0_34 rfl (lv_at hl 2 rfl) ?_
      refine lv_aload_n hx hb dJx4a65c_fastRemove_b59b0_35 rfl (lv_at hl 1 rfl) ?_
      refine lv_iload_n hx hb dJx4a65c_fastRemove_b59b0_36 rfl (lv_at hl 0 rfl) ?_
      refine lv_dup_x1 hx hb dJx4a65c_fastRemove_b59b0_37 rfl rfl ?_
      have hd_38 := hh_36.iv 1 rfl
      have hh_39 := hh_36.sub (L1 := [(r0, 1, 0, .int z_9), (r0, 1, 1, .ref r1), (r0, 1, 2, .int lz)]) [0, 1, 2] rfl (M1 := []) [] rfl (I1 := [([(221, 0)], jQc dC dI (ca 9) r1 n1 fq_33)]) [0] rfl
      clear hh_36
      refine j7_putX hx hb hown hK hh_39 hB hAp hB1 (C := RJx4a65c) (T := TJx4a65c) (N := 3) rfl (by decide) hg_r0 (i := 2) (by decide) hly_1_2 rfl hlk_48 rfl (ty := .int) (v := .int z_11) (by decide +kernel) rfl rfl (⟨_, rfl, by omega, by omega⟩) rfl (L1 := [(r0, 1, 0, .int z_9), (r0, 1, 1, .ref r1)]) [0, 1] rfl rfl rfl dJx4a65c_fastRemove_b59b0_38 (fun H_37 locs_37 hr_37 hh_37 => ?_)
      clear hh_39
      have hd_38n := jLs.fld hd_38 hg_r0 hr_37
      have hh_40 := hh_37.addI (jLs.ie hd_38n)
      clear hh_37
      clear hd_38 hd_38n hr_37
      refine lv_null hx hb dJx4a65c_fastRemove_b59b0_41 ?_
      have hd_42 := hh_40.iv 1 rfl
      have hd_43 := hh_40.iv 0 rfl
      have hh_45 := hh_40.sub (L1 := [(r0, 1, 2, .int z_11), (r0, 1, 0, .int z_9), (r0, 1, 1, .ref r1)]) [0, 1, 2] rfl (M1 := []) [] rfl (I1 := []) [] rfl
      clear hh_40
      refine j7_qastNO hx hb hK7.1 hh_45 hB hB221 0 rfl (by decide) (by decide) rfl rfl rfl hg_r1 (x := z_11.toInt) (rfl) (by omega) (Or.inl rfl) hd_42 dJx4a65c_fastRemove_b59b0_42 (fun H_41 locs_41 fq_44 hv_41 ho_41 hq_41 hr_41 hh_41 => ?_)
      clear hh_45
      have hd_43n := jLs.arr hd_43 hg_r0 hg_r1 hr_41
      have hh_46 := hh_41.addI (jLs.ie hd_43n)
      clear hh_41
      have hh_47 := hh_46.addI (hq_41.ie hg_r1 (by decide) (by decide))
      clear hh_46
      clear hd_42 hd_43 hd_43n hr_41
      have hd_48 := jLs.full (hh_47.iv 1 rfl) hg_r0 ⟨_, _, hh_47.at 0 rfl, hh_47.at 2 rfl, ⟨by omega, (show _ ≤ (3 : Int) by omega)⟩, Or.inr ⟨_, _, hg_r1, by omega, by omega, hh_47.iv 0 rfl, by first | exact jRm.copy hl8_1 (by omega) (by omega) hc_29 (by omega) (by omega) (by omega) ho_41 | exact jRm.last hl8_1 (by omega) (by omega) ho_41⟩⟩
      have hh_49 := hh_47.sub (L1 := [(r0, 1, 2, .int z_11), (r0, 1, 0, .int z_9), (r0, 1, 1, .ref r1)]) [0, 1, 2] rfl (M1 := []) [] rfl (I1 := [([(221, 0)], jQc dC dI (ca 9) r1 n1 fq_44)]) [0] rfl
      clear hh_47
      have hh_50 := hh_49.addI (jLs.ie hd_48)
      clear hh_49
      rw [hQ]
      exact W.vret hx hb hr (fun t ht hW => ⟨⟨z_11, rfl, by first | omega | rfl | assumption | decide | exact Or.inl rfl | exact Or.inr rfl | (simp only; omega), ⟨hh_50.rt (M1 := [(r0, 1, 2, .int z_11)]) [0] rfl ht, by rw [ht]; exact hh_50.2.2.2.2.2.2.2.2.sub (L1 := [(jFl, jLs dC dI ca G0 3 none)]) [0] rfl⟩⟩, by rw [ht]; try exact hh_50.1.1, fun q h9 hq => by rw [ht]; try exact hh_50.1.2.1 q h9 hq⟩) hh_50.1.2.2 dJx4a65c_fastRemove_b59b0_43
set_option maxHeartbeats 4000000 in
set_option maxRecDepth 20000 in
theorem uJx4a65c_remove_915e3L1 (l : Launch) (dC : Nat → ClassId) (dI : Nat → Nat → Nat) (ca : Nat → ClassId) (base : Nat) (B : jF) (hB : jBok B) (hAp : jAp (dC, dI)) (hB1 : ∀ n G a H, B 1 n G a H ↔ jOb (dC, dI) 1 3 (F1 n G) a H) (hB3 : ∀ n G a H, B 3 n G a H ↔ jOb (dC, dI) 3 17 (F3 n G) a H) (hB221 : ∀ n G a H, B 221 n G a H ↔ jAq (dC, dI) (ca 9) (jQn 3 0) n G a H) (G0 : jT) (H0 : Heap) (r0 : Nat) (a1 : Int32) (lz : Int32) : Met l yJx4a65c_remove_915e3 (jw yJx4a65c_remove_915e3 cJx4a65c_remove_915e3 4 (some (.object "java/lang/Object"))) ({ frames := 2, cells := 0, slots := 0, locals := 84 }) (va_Pc [.ref r0, .int a1] (fun U => U.heap = H0 ∧ jX B base G0 [] H0 ∧ jG dC dI ca base U ∧ jK7 dC dI ca base U ∧ G0 r0 = some (1, 1) ∧ jP (dC, dI) G0 H0 [(r0, 1, 2, .int lz)] ∧ jIs (dC, dI) G0 H0 [(jFl, jLs dC dI ca G0 3 none)] ∧ 0 ≤ a1.toInt ∧ a1.toInt < lz.toInt)) (jQx (S := Int32) (fun v u => jRf G0 3 0 v ∧ u.toInt = lz.toInt - 1) (fun u t => (jRt (dC, dI) B base G0 EJx4a65c_remove_915e3L1 H0 [(r0, 1, 2, .int u)] t.heap) ∧ jIs (dC, dI) G0 t.heap [(jFl, jLs dC dI ca G0 3 none)]) (jA base)) 0 0 (jA base) := by
  refine Met.ofW (cc := cJx4a65c_remove_915e3) (maxL := 4) (ret := (some (.object "java/lang/Object"))) (by decide) rfl ?_
  intro p e s m args below meth c s₁ Bd hml hv
  obtain ⟨rfl, hH0, hX, hG, hK7, hg_r0, hP0, hI0, hp0, hp1⟩ := hv
  have hK := hG.1
  have hx := Bd.exec
  have hb := Bd.bytes
  have hr := Bd.returns
  have hts := atoms_spec (ws := (jw yJx4a65c_remove_915e3 cJx4a65c_remove_915e3 4 (some (.object "java/lang/Object")))) Bd.pre
  have htw : ∀ w ∈ jWl, w.before _ s = true := fun w h => hts w (List.mem_cons_of_mem _ h)
  have hown : s.vm.findClass RJx4a65c = some m.cls := findClass_of_methodNamed Bd.named
  have hlocks := Bd.notSynchronized
  obtain ⟨Q, hQ⟩ : ∃ Q, Q = MQ below (jQx (S := Int32) (fun v u => jRf G0 3 0 v ∧ u.toInt = lz.toInt - 1) (fun u t => (jRt (dC, dI) B base G0 EJx4a65c_remove_915e3L1 H0 [(r0, 1, 2, .int u)] t.heap) ∧ jIs (dC, dI) G0 t.heap [(jFl, jLs dC dI ca G0 3 none)]) (jA base)) ([.ref r0, .int a1] : List Value).toArray s 0 0 (jA base) := ⟨_, rfl⟩
  rw [← hQ]
  have hl := lv_entry ([.ref r0, .int a1]) (n := 4) (Nat.le_of_ble_eq_true rfl)
  rw [lg_entry_eq]
  generalize (lg_sl ([.ref r0, .int a1]) ++ List.replicate (4 - (lg_sl ([.ref r0, .int a1])).length) Slot.unset).toArray = ls at hl ⊢
  have hl : lv_has ls 4 [(0, .ref r0), (1, .int a1)] := hl
  generalize hR : (headSpec (jw yJx4a65c_remove_915e3 cJx4a65c_remove_915e3 4 (some (.object "java/lang/Object"))) ({ frames := 2, cells := 0, slots := 0, locals := 84 })).room = R
  subst hH0
  have hh : jSt (dC, dI) B base G0 G0 EJx4a65c_remove_915e3L1 s.heap 0 0 [(r0, 1, 2, .int lz)] [] [(jFl, jLs dC dI ca G0 3 none)] s.heap [] := jSt.start hX hP0 jMc.nil hI0
  clear hX hP0
  have hk0 : (0 : Int32).toInt = 0 := by decide
  have hk1 : (1 : Int32).toInt = 1 := by decide
  have hly_1_1 := htw (u_lay RJx4a65c TJx4a65c 1) (jWc_wsJx4a65c0 _ (u_in_lay (by decide)))
  have hly_1_2 := htw (u_lay RJx4a65c TJx4a65c 2) (jWc_wsJx4a65c0 _ (u_in_lay (by decide)))
  have hlk_48 := (htw (.fieldLink RJx4a65c 48 "java/util/ArrayList" "size" "I") (jWr_28 _ (List.mem_of_getElem? (i := 2) rfl)))
  have hlk_9 := (htw (.fieldLink RJx4a65c 9 "java/util/ArrayList" "elementData" "[Ljava/lang/Object;") (jWr_9 _ (List.mem_of_getElem? (i := 15) rfl)))
  have hrg_a1 := jb_rng a1
  obtain ⟨lz_1, lx_1, hl1_1, hl2_1, hl3_1, hl4_1⟩ := jLs.at (hh.iv 0 rfl) hg_r0
  obtain rfl : lz = lz_1 := Value.int.inj (jf.uniq (hh.at 0 rfl) hl1_1)
  have hl3_1 : 0 ≤ lz.toInt ∧ lz.toInt ≤ 3 := hl3_1
  rcases hl4_1 with ⟨rfl, hl5_1⟩ | ⟨lm_1, lf_1, hg_lx_1, hlm_1, hl6_1, hl7_1, hl8_1⟩
  · skip
    exact (by omega : False).elim
  · skip
    have hh_2 := hh.more (P1 := [(r0, 1, 1, .ref lx_1)]) (jP.cons hg_r0 hl2_1 jP.nil)
    clear hh
    have hh_3 := hh_2.addI (jQc.ie hl7_1 hg_lx_1 (by decide) (by decide))
    clear hh_2
    refine lv_iload_n hx hb dJx4a65c_remove_915e3_0 rfl (lv_at hl 1 rfl) ?_
    refine lv_aload_n hx hb dJx4a65c_remove_915e3_1 rfl (lv_at hl 0 rfl) ?_
    refine j7_read hx hb hown hK (C := RJx4a65c) (T := TJx4a65c) (N := 3) rfl hly_1_2 hlk_48 (hh_3.at 1 rfl) dJx4a65c_remove_915e3_2 ?_
    refine va_calli (A0 := jA base) (H0 := s.heap) (va_runS (As := [.int a1, .int lz]) (rest := []) ⟨hx, hb, hml, hown, hts⟩ (uJ15_checkIndex_7cf53 l dC dI ca base B hB hAp G0 s.heap a1 lz) (va_cwS 2 hts (jgS (jWr_28 _ (List.mem_of_getElem? (i := 7) rfl)) (jWr_28 _ (List.mem_of_getElem? (i := 8) rfl)) (jWr_28 _ (List.mem_of_getElem? (i := 9) rfl)) (jWr_28 _ (List.mem_of_getElem? (i := 10) rfl))) rfl rfl rfl (by decide +kernel) ⟨by rw [← hR]; exact Nat.le_of_ble_eq_true rfl, by rw [← hR]; exact Nat.le_of_ble_eq_true rfl⟩) ⟨fun a U g mk q => by obtain ⟨q0, q1, q2, qK, q10, q11⟩ := q; exact ⟨q0, q1, q2, jG.calling g mk a qK, q10, q11⟩, fun U hU hW => ⟨rfl, hU, hh_3.2.1, hG.step hW hU hh_3.1, jP.nil, by first | omega | (refine ⟨?_, ?_⟩ <;> (first | omega | rfl | assumption | decide | exact Or.inl rfl | exact Or.inr rfl | (simp only; omega)))⟩⟩ rfl rfl hl.1 rfl (lv_room (Nat.le_of_ble_eq_true rfl)) dJx4a65c_remove_915e3_5 ⟨Nat.zero_le _, Nat.zero_le _⟩) hh_3.1 (fun q _ h => h) (fun q h => h) (fun r_5 u_4 t_4 H_4 locs_4 ht_4 hvm_4 hr_5 hb_4 hz_4 hk_4 hS_4 => ?_)
    rw [ht_4] at hb_4
    obtain ⟨hb_41, hb_42, hb_43, hb_44, hb_45⟩ := hb_4
    have hh_4 : jSt (dC, dI) B base G0 G0 EJx4a65c_remove_915e3L1 s.heap 0 0 [(r0, 1, 1, .ref lx_1), (r0, 1, 2, .int lz)] [] [([(221, 0)], jQc dC dI (ca 9) lx_1 lm_1 lf_1), (jFl, jLs dC dI ca G0 3 none)] H_4 locs_4 := ((hh_3.call hb_41 hb_42 hb_43 hb_44 hS_4 rfl (L1 := [(r0, 1, 1, .ref lx_1), (r0, 1, 2, .int lz)]) [0, 1] rfl rfl (M1 := []) [] rfl rfl (I1 := [([(221, 0)], jQc dC dI (ca 9) lx_1 lm_1 lf_1), (jFl, jLs dC dI ca G0 3 none)]) [0, 1] rfl rfl).more hb_45)
    clear hh_3 ht_4 hvm_4 hz_4 hk_4 hS_4 hb_41 hb_42 hb_43 hb_44 hb_45
    refine lv_pop hx hb dJx4a65c_remove_915e3_8 rfl ?_
    refine lv_aload_n hx hb dJx4a65c_remove_915e3_9 rfl (lv_at hl 0 rfl) ?_
    refine j7_read hx hb hown hK (C := RJx4a65c) (T := TJx4a65c) (N := 3) rfl hly_1_1 hlk_9 (hh_4.at 0 rfl) dJx4a65c_remove_915e3_10 ?_
    refine lv_astore_n (lv' := [(2, .ref lx_1), (0, .ref r0), (1, .int a1)]) hx hb dJx4a65c_remove_915e3_13 rfl hl (by decide) rfl (fun ls hl => ?_)
    refine lv_aload_n hx hb dJx4a65c_remove_915e3_14 rfl (lv_at hl 0 rfl) ?_
    refine lv_iload_n hx hb dJx4a65c_remove_915e3_15 rfl (lv_at hl 2 rfl) ?_
    refine j7_qaldI hx hb hK7.1 hh_4 hB221 0 rfl (by decide) hg_lx_1 (x := a1.toInt) (rfl) (by omega) (hh_4.iv 0 rfl) dJx4a65c_remove_915e3_16 (fun o_6 ho_6 heo_6 => ?_)
    rcases ho_6 with rfl | ⟨el_7, rfl, hg_el_7⟩
    · simp only [va_rf]
      exact absurd heo_6.symm (hl8_1 _ (by omega))
    · simp only [va_rf]
      refine lv_astore_n (lv' := [(3, .ref el_7), (2, .ref lx_1), (0, .ref r0), (1, .int a1)]) hx hb dJx4a65c_remove_915e3_17 rfl hl (by decide) rfl (fun ls hl => ?_)
      refine lv_aload_n hx hb dJx4a65c_remove_915e3_18 rfl (lv_at hl 2 rfl) ?_
      refine lv_aload_n hx hb dJx4a65c_remove_915e3_19 rfl (lv_at hl 1 rfl) ?_
      refine lv_iload_n hx hb dJx4a65c_remove_915e3_20 rfl (lv_at hl 3 rfl) ?_
      refine va_callv (A0 := jA base) (H0 := s.heap) (va_runV (As := [.ref lx_1, .int a1]) (rest := []) ⟨hx, hb, hml, hown, hts⟩ (uJx4a65c_fastRemove_b59b0L1 l dC dI ca base B hB hAp hB1 hB3 hB221 G0 H_4 r0 lx_1 a1 lm_1 lz) (cwV 2 hts (jgV (jWr_42 _ (List.mem_of_getElem? (i := 11) rfl)) (jWr_42 _ (List.mem_of_getElem? (i := 12) rfl)) (jWr_42 _ (List.mem_of_getElem? (i := 13) rfl)) (jWr_2 _ (List.mem_of_getElem? (i := 13) rfl)) (jWr_42 _ (List.mem_of_getElem? (i := 14) rfl))) rfl rfl rfl (by decide +kernel) ⟨by rw [← hR]; exact Nat.le_of_ble_eq_true rfl, by rw [← hR]; exact Nat.le_of_ble_eq_true rfl⟩) ⟨fun a U g mk q => by obtain ⟨q0, q1, q2, qK, q10, q11, q12, q13, q14, q15⟩ := q; exact ⟨q0, q1, q2, jG.calling g mk a qK, (jK7.calling g mk a q10), q11, q12, q13, q14, q15⟩, hh_4.recv (C := RJx4a65c) (T := TJx4a65c) (N := 3) hB1 rfl (by decide) hg_r0 hK, fun U hU hW => ⟨rfl, hU, hh_4.2.1, hG.step hW hU hh_4.1, (hK7.step hW hU hh_4.1), hg_r0, hg_lx_1, (hh_4.2.2.1.sub (L1 := [(r0, 1, 1, .ref lx_1), (r0, 1, 2, .int lz)]) [0, 1] rfl), (hh_4.2.2.2.2.2.2.2.2.sub (L1 := [(jFl, jLs dC dI ca G0 3 none)]) [1] rfl), by first | omega | (refine ⟨?_, ?_⟩ <;> (first | omega | rfl | assumption | decide | exact Or.inl rfl | exact Or.inr rfl | (simp only; omega)))⟩⟩ rfl rfl hl.1 rfl (lv_room (Nat.le_of_ble_eq_true rfl)) dJx4a65c_remove_915e3_21 ⟨Nat.zero_le _, Nat.zero_le _⟩) hh_4.1 (fun q _ h => h) (fun q h => h) (fun u_8 t_8 H_8 locs_8 ht_8 hvm_8 hr_9 hb_8 hz_8 hk_8 hS_8 => ?_)
      obtain ⟨qz_8, rfl⟩ : ∃ z, z = u_8 := ⟨_, rfl⟩
      rw [ht_8] at hb_8
      obtain ⟨hb_8, hbE_8⟩ := hb_8
      obtain ⟨hb_81, hb_82, hb_83, hb_84, hb_85⟩ := hb_8
      have hh_8 : jSt (dC, dI) B base G0 G0 EJx4a65c_remove_915e3L1 s.heap 0 0 [(r0, 1, 2, .int qz_8), (r0, 1, 1, .ref lx_1)] [] [(jFl, jLs dC dI ca G0 3 none)] H_8 locs_8 := (((hh_4.call hb_81 hb_82 hb_83 hb_84 hS_8 rfl (L1 := [(r0, 1, 1, .ref lx_1)]) [0] rfl rfl (M1 := []) [] rfl rfl (I1 := []) [] rfl rfl).more hb_85)).addIs hbE_8
      clear hh_4 ht_8 hvm_8 hz_8 hk_8 hS_8 hb_81 hb_82 hb_83 hb_84 hb_85
      clear  hbE_8
      refine lv_aload_n hx hb dJx4a65c_remove_915e3_24 rfl (lv_at hl 0 rfl) ?_
      rw [hQ]
      exact W.aret (v := .ref el_7) hx hb hr (Or.inl ⟨_, rfl⟩) (Or.inr ⟨_, rfl⟩) (fun t ht hW => ⟨⟨.ref el_7, qz_8, rfl, ⟨⟨_, rfl, hg_el_7⟩, by first | omega | rfl | assumption | decide | exact Or.inl rfl | exact Or.inr rfl | (simp only; omega)⟩, ⟨hh_8.rt (M1 := [(r0, 1, 2, .int qz_8)]) [0] rfl ht, by rw [ht]; exact hh_8.2.2.2.2.2.2.2.2.sub (L1 := [(jFl, jLs dC dI ca G0 3 none)]) [0] rfl⟩⟩, by rw [ht]; try exact hh_8.1.1, fun q h9 hq => by rw [ht]; try exact hh_8.1.2.1 q h9 hq⟩) hh_8.1.2.2 dJx4a65c_remove_915e3_25
set_option maxHeartbeats 4000000 in
set_option maxRecDepth 20000 in
theorem uJx4a65c_fastRemove_b59b0L2 (l : Launch) (dC : Nat → ClassId) (dI : Nat → Nat → Nat) (ca : Nat → ClassId) (base : Nat) (B : jF) (hB : jBok B) (hAp : jAp (dC, dI)) (hB1 : ∀ n G a H, B 1 n G a H ↔ jOb (dC, dI) 1 3 (F1 n G) a H) (hB10 : ∀ n G a H, B 10 n G a H ↔ jOb (dC, dI) 10 5 (F10 n G) a H) (hB222 : ∀ n G a H, B 222 n G a H ↔ jAq (dC, dI) (ca 9) (jQn 10 0) n G a H) (G0 : jT) (H0 : Heap) (r0 : Nat) (r1 : Nat) (a2 : Int32) (n1 : Nat) (lz : Int32) : Met l yJx4a65c_fastRemove_b59b0 (jw yJx4a65c_fastRemove_b59b0 cJx4a65c_fastRemove_b59b0 4 none) ({ frames := 1, cells := 0, slots := 0, locals := 61 }) (va_Pc [.ref r0, .ref r1, .int a2] (fun U => U.heap = H0 ∧ jX B base G0 [] H0 ∧ jG dC dI ca base U ∧ jK7 dC dI ca base U ∧ G0 r0 = some (1, 2) ∧ G0 r1 = some (222, n1) ∧ jP (dC, dI) G0 H0 [(r0, 1, 1, .ref r1), (r0, 1, 2, .int lz)] ∧ jIs (dC, dI) G0 H0 [(jFl, jLs dC dI ca G0 3 none)] ∧ 0 ≤ a2.toInt ∧ a2.toInt < lz.toInt)) (va_Qv (S := Int32) (fun u => u.toInt = lz.toInt - 1) (fun u t => (jRt (dC, dI) B base G0 EJx4a65c_fastRemove_b59b0L2 H0 [(r0, 1, 2, .int u)] t.heap) ∧ jIs (dC, dI) G0 t.heap [(jFl, jLs dC dI ca G0 3 none)]) (jA base)) 0 0 (jA base) := by
  refine Met.ofW (cc := cJx4a65c_fastRemove_b59b0) (maxL := 4) (ret := none) (by decide) rfl ?_
  intro p e s m args below meth c s₁ Bd hml hv
  obtain ⟨rfl, hH0, hX, hG, hK7, hg_r0, hg_r1, hP0, hI0, hp0, hp1⟩ := hv
  have hK := hG.1
  have hx := Bd.exec
  have hb := Bd.bytes
  have hr := Bd.returns
  have hts := atoms_spec (ws := (jw yJx4a65c_fastRemove_b59b0 cJx4a65c_fastRemove_b59b0 4 none)) Bd.pre
  have htw : ∀ w ∈ jWl, w.before _ s = true := fun w h => hts w (List.mem_cons_of_mem _ h)
  have hown : s.vm.findClass RJx4a65c = some m.cls := findClass_of_methodNamed Bd.named
  have hlocks := Bd.notSynchronized
  obtain ⟨Q, hQ⟩ : ∃ Q, Q = MQ below (va_Qv (S := Int32) (fun u => u.toInt = lz.toInt - 1) (fun u t => (jRt (dC, dI) B base G0 EJx4a65c_fastRemove_b59b0L2 H0 [(r0, 1, 2, .int u)] t.heap) ∧ jIs (dC, dI) G0 t.heap [(jFl, jLs dC dI ca G0 3 none)]) (jA base)) ([.ref r0, .ref r1, .int a2] : List Value).toArray s 0 0 (jA base) := ⟨_, rfl⟩
  rw [← hQ]
  have hl := lv_entry ([.ref r0, .ref r1, .int a2]) (n := 4) (Nat.le_of_ble_eq_true rfl)
  rw [lg_entry_eq]
  generalize (lg_sl ([.ref r0, .ref r1, .int a2]) ++ List.replicate (4 - (lg_sl ([.ref r0, .ref r1, .int a2])).length) Slot.unset).toArray = ls at hl ⊢
  have hl : lv_has ls 4 [(0, .ref r0), (1, .ref r1), (2, .int a2)] := hl
  generalize hR : (headSpec (jw yJx4a65c_fastRemove_b59b0 cJx4a65c_fastRemove_b59b0 4 none) ({ frames := 1, cells := 0, slots := 0, locals := 61 })).room = R
  subst hH0
  have hh : jSt (dC, dI) B base G0 G0 EJx4a65c_fastRemove_b59b0L2 s.heap 0 0 [(r0, 1, 1, .ref r1), (r0, 1, 2, .int lz)] [] [(jFl, jLs dC dI ca G0 3 none)] s.heap [] := jSt.start hX hP0 jMc.nil hI0
  clear hX hP0
  have hk0 : (0 : Int32).toInt = 0 := by decide
  have hk1 : (1 : Int32).toInt = 1 := by decide
  have hly_1_0 := htw (u_lay RJx4a65c TJx4a65c 0) (jWc_wsJx4a65c0 _ (u_in_lay (by decide)))
  have hly_1_2 := htw (u_lay RJx4a65c TJx4a65c 2) (jWc_wsJx4a65c0 _ (u_in_lay (by decide)))
  have hlk_63 := (htw (.fieldLink RJx4a65c 63 "java/util/ArrayList" "modCount" "I") (jWr_33 _ (List.mem_of_getElem? (i := 11) rfl)))
  have hlk_48 := (htw (.fieldLink RJx4a65c 48 "java/util/ArrayList" "size" "I") (jWr_28 _ (List.mem_of_getElem? (i := 2) rfl)))
  have hrg_a2 := jb_rng a2
  obtain ⟨lz_1, lx_1, hl1_1, hl2_1, hl3_1, hl4_1⟩ := jLs.at (hh.iv 0 rfl) hg_r0
  obtain rfl : lz = lz_1 := Value.int.inj (jf.uniq (hh.at 1 rfl) hl1_1)
  have hl3_1 : 0 ≤ lz.toInt ∧ lz.toInt ≤ 12 := hl3_1
  obtain rfl : r1 = lx_1 := Value.ref.inj (jf.uniq (hh.at 0 rfl) hl2_1)
  rcases hl4_1 with ⟨hl9_1, hl5_1⟩ | ⟨lm_1, lf_1, hg_lx_1, hlm_1, hl6_1, hl7_1, hl8_1⟩
  · skip
    exact (by omega : False).elim
  · skip
    obtain rfl : n1 = lm_1 := by have h9 := Option.some.inj (hg_r1.symm.trans hg_lx_1); exact congrArg Prod.snd h9
    have hd_2 := jLs.less (hh.iv 0 rfl) r0
    have hh_3 := hh.sub (L1 := [(r0, 1, 1, .ref r1), (r0, 1, 2, .int lz)]) [0, 1] rfl (M1 := []) [] rfl (I1 := []) [] rfl
    clear hh
    have hh_4 := hh_3.addI (jLs.ie hd_2)
    clear hh_3
    have hh_5 := hh_4.addI (jQc.ie hl7_1 hg_lx_1 (by decide) (by decide))
    clear hh_4
    refine lv_aload_n hx hb dJx4a65c_fastRemove_b59b0_0 rfl (lv_at hl 0 rfl) ?_
    refine lv_dup hx hb dJx4a65c_fastRemove_b59b0_1 rfl ?_
    obtain ⟨v_6, hv_6, hh_7⟩ := hh_5.pin (C := RJx4a65c) (T := TJx4a65c) (N := 3) hB1 rfl (by decide) hg_r0 (i := 0) (by decide) rfl
    clear hh_5
    obtain ⟨modCount_8, rfl⟩ := hv_6
    refine j7_readS hx hb hown hK (C := RJx4a65c) (T := TJx4a65c) (N := 3) rfl hly_1_0 hlk_63 (htw (.sameField "java/util/ArrayList" "java/util/AbstractList" "modCount" "I") (jWr_33 _ (List.mem_of_getElem? (i := 12) rfl))) (hh_7.at 0 rfl) dJx4a65c_fastRemove_b59b0_2 ?_
    refine lv_iconst (v := 1) hx hb dJx4a65c_fastRemove_b59b0_5 (by decide) ?_
    refine lv_iadd hx hb dJx4a65c_fastRemove_b59b0_6 ?_
    refine lv_topi (fun z_9 ez_9 => ?_)
    refine j7_putS hx hb hown hK hh_7 hB hAp hB1 (C := RJx4a65c) (T := TJx4a65c) (N := 3) rfl (by decide) hg_r0 (i := 0) (by decide) hly_1_0 rfl hlk_63 (htw (.sameField "java/util/ArrayList" "java/util/AbstractList" "modCount" "I") (jWr_33 _ (List.mem_of_getElem? (i := 12) rfl))) rfl (ty := .int) (v := .int z_9) (by decide +kernel) rfl rfl (⟨_, rfl⟩) rfl (L1 := [(r0, 1, 1, .ref r1), (r0, 1, 2, .int lz)]) [1, 2] rfl rfl rfl dJx4a65c_fastRemove_b59b0_7 (fun H_10 locs_10 hr_10 hh_10 => ?_)
    clear hr_10
    clear hh_7
    refine lv_aload_n hx hb dJx4a65c_fastRemove_b59b0_10 rfl (lv_at hl 0 rfl) ?_
    refine j7_read hx hb hown hK (C := RJx4a65c) (T := TJx4a65c) (N := 3) rfl hly_1_2 hlk_48 (hh_10.at 2 rfl) dJx4a65c_fastRemove_b59b0_11 ?_
    refine lv_iconst (v := 1) hx hb dJx4a65c_fastRemove_b59b0_14 (by decide) ?_
    refine lv_isub hx hb dJx4a65c_fastRemove_b59b0_15 ?_
    refine lv_topi (fun z_11 ez_11 => ?_)
    have hz_11 : z_11.toInt = lz.toInt - 1 := by rw [ez_11]; exact jb_isub2 (rfl) ((by decide)) (by omega)
    refine lv_dup hx hb dJx4a65c_fastRemove_b59b0_16 rfl ?_
    refine lv_istore_n (lv' := [(3, .int z_11), (0, .ref r0), (1, .ref r1), (2, .int a2)]) hx hb dJx4a65c_fastRemove_b59b0_17 rfl hl (by decide) rfl (fun ls hl => ?_)
    refine lv_iload_n hx hb dJx4a65c_fastRemove_b59b0_18 rfl (lv_at hl 3 rfl) ?_
    refine lv_icmp_le (tgt := 34) hx hb dJx4a65c_fastRemove_b59b0_19 (by decide) (fun c_12 => ?_) (fun c_12 => ?_)
    · skip
      have c_12' : z_11.toInt ≤ a2.toInt := jb_le (rfl) (rfl) c_12
      refine lv_aload_n hx hb dJx4a65c_fastRemove_b59b0_34 rfl (lv_at hl 2 rfl) ?_
      refine lv_aload_n hx hb dJx4a65c_fastRemove_b59b0_35 rfl (lv_at hl 1 rfl) ?_
      refine lv_iload_n hx hb dJx4a65c_fastRemove_b59b0_36 rfl (lv_at hl 0 rfl) ?_
      refine lv_dup_x1 hx hb dJx4a65c_fastRemove_b59b0_37 rfl rfl ?_
      have hd_14 := hh_10.iv 1 rfl
      have hh_15 := hh_10.sub (L1 := [(r0, 1, 0, .int z_9), (r0, 1, 1, .ref r1), (r0, 1, 2, .int lz)]) [0, 1, 2] rfl (M1 := []) [] rfl (I1 := [([(222, 0)], jQc dC dI (ca 9) r1 n1 lf_1)]) [0] rfl
      clear hh_10
      refine j7_putX hx hb hown hK hh_15 hB hAp hB1 (C := RJx4a65c) (T := TJx4a65c) (N := 3) rfl (by decide) hg_r0 (i := 2) (by decide) hly_1_2 rfl hlk_48 rfl (ty := .int) (v := .int z_11) (by decide +kernel) rfl rfl (⟨_, rfl, by omega, by omega⟩) rfl (L1 := [(r0, 1, 0, .int z_9), (r0, 1, 1, .ref r1)]) [0, 1] rfl rfl rfl dJx4a65c_fastRemove_b59b0_38 (fun H_13 locs_13 hr_13 hh_13 => ?_)
      clear hh_15
      have hd_14n := jLs.fld hd_14 hg_r0 hr_13
      have hh_16 := hh_13.addI (jLs.ie hd_14n)
      clear hh_13
      clear hd_14 hd_14n hr_13
      refine lv_null hx hb dJx4a65c_fastRemove_b59b0_41 ?_
      have hd_18 := hh_16.iv 1 rfl
      have hd_19 := hh_16.iv 0 rfl
      have hh_21 := hh_16.sub (L1 := [(r0, 1, 2, .int z_11), (r0, 1, 0, .int z_9), (r0, 1, 1, .ref r1)]) [0, 1, 2] rfl (M1 := []) [] rfl (I1 := []) [] rfl
      clear hh_16
      refine j7_qastNO hx hb hK7.1 hh_21 hB hB222 0 rfl (by decide) (by decide) rfl rfl rfl hg_r1 (x := z_11.toInt) (rfl) (by omega) (Or.inl rfl) hd_18 dJx4a65c_fastRemove_b59b0_42 (fun H_17 locs_17 fq_20 hv_17 ho_17 hq_17 hr_17 hh_17 => ?_)
      clear hh_21
      have hd_19n := jLs.arr hd_19 hg_r0 hg_r1 hr_17
      have hh_22 := hh_17.addI (jLs.ie hd_19n)
      clear hh_17
      have hh_23 := hh_22.addI (hq_17.ie hg_r1 (by decide) (by decide))
      clear hh_22
      clear hd_18 hd_19 hd_19n hr_17
      have hd_24 := jLs.full (hh_23.iv 1 rfl) hg_r0 ⟨_, _, hh_23.at 0 rfl, hh_23.at 2 rfl, ⟨by omega, (show _ ≤ (12 : Int) by omega)⟩, Or.inr ⟨_, _, hg_r1, by omega, by omega, hh_23.iv 0 rfl, by first | exact jRm.copy hl8_1 (by omega) (by omega) (zz_none) (by omega) (by omega) (by omega) ho_17 | exact jRm.last hl8_1 (by omega) (by omega) ho_17⟩⟩
      have hh_25 := hh_23.sub (L1 := [(r0, 1, 2, .int z_11), (r0, 1, 0, .int z_9), (r0, 1, 1, .ref r1)]) [0, 1, 2] rfl (M1 := []) [] rfl (I1 := [([(222, 0)], jQc dC dI (ca 9) r1 n1 fq_20)]) [0] rfl
      clear hh_23
      have hh_26 := hh_25.addI (jLs.ie hd_24)
      clear hh_25
      rw [hQ]
      exact W.vret hx hb hr (fun t ht hW => ⟨⟨z_11, rfl, by first | omega | rfl | assumption | decide | exact Or.inl rfl | exact Or.inr rfl | (simp only; omega), ⟨hh_26.rt (M1 := [(r0, 1, 2, .int z_11)]) [0] rfl ht, by rw [ht]; exact hh_26.2.2.2.2.2.2.2.2.sub (L1 := [(jFl, jLs dC dI ca G0 3 none)]) [0] rfl⟩⟩, by rw [ht]; try exact hh_26.1.1, fun q h9 hq => by rw [ht]; try exact hh_26.1.2.1 q h9 hq⟩) hh_26.1.2.2 dJx4a65c_fastRemove_b59b0_43
    · skip
      have c_12' : z_11.toInt > a2.toInt := jb_le_n (rfl) (rfl) c_12
      refine lv_aload_n hx hb dJx4a65c_fastRemove_b59b0_22 rfl (lv_at hl 2 rfl) ?_
      refine lv_iload_n hx hb dJx4a65c_fastRemove_b59b0_23 rfl (lv_at hl 3 rfl) ?_
      refine lv_iconst (v := 1) hx hb dJx4a65c_fastRemove_b59b0_24 (by decide) ?_
      refine lv_iadd hx hb dJx4a65c_fastRemove_b59b0_25 ?_
      refine lv_topi (fun z_27 ez_27 => ?_)
      have hz_27 : z_27.toInt = a2.toInt + 1 := by rw [ez_27]; exact jb_iadd2 (rfl) ((by decide)) (by omega)
      refine lv_aload_n hx hb dJx4a65c_fastRemove_b59b0_26 rfl (lv_at hl 2 rfl) ?_
      refine lv_iload_n hx hb dJx4a65c_fastRemove_b59b0_27 rfl (lv_at hl 3 rfl) ?_
      refine lv_iload_n hx hb dJx4a65c_fastRemove_b59b0_28 rfl (lv_at hl 0 rfl) ?_
      refine lv_iload_n hx hb dJx4a65c_fastRemove_b59b0_29 rfl (lv_at hl 3 rfl) ?_
      refine lv_isub hx hb dJx4a65c_fastRemove_b59b0_30 ?_
      refine lv_topi (fun z_28 ez_28 => ?_)
      have hz_28 : z_28.toInt = z_11.toInt - a2.toInt := by rw [ez_28]; exact jb_isub2 (rfl) (rfl) (by omega)
      have hd_30 := hh_10.iv 0 rfl
      have hd_31 := hh_10.iv 0 rfl
      have hd_32 := hh_10.iv 1 rfl
      have hh_34 := hh_10.sub (L1 := [(r0, 1, 0, .int z_9), (r0, 1, 1, .ref r1), (r0, 1, 2, .int lz)]) [0, 1, 2] rfl (M1 := []) [] rfl (I1 := []) [] rfl
      clear hh_10
      refine j7_qcopy hx hb (by rw [hml]; exact hl.1.symm) hown (htw (.methodLink RJx4a65c 112 arraycopyName) (jWr_42 _ (List.mem_of_getElem? (i := 15) rfl))) (htw (.native arraycopyName) (jWr_16 _ (List.mem_of_getElem? (i := 19) rfl))) (htw (.static arraycopyName) (jWr_16 _ (List.mem_of_getElem? (i := 20) rfl))) (htw (.initialized "java/lang/System") (jWr_16 _ (List.mem_of_getElem? (i := 21) rfl))) hK hK7.1 hh_34 hB hB222 0 rfl (by decide) (by decide) rfl rfl rfl hg_r1 hg_r1 hd_31 hd_30 hB10 (T := TX8) (N := 5) rfl (by decide) hK7.2.2.1.2.1.1 (x := z_27.toInt) (y := a2.toInt) (z := z_28.toInt) rfl rfl rfl (by omega) (by rw [← hR]; exact Nat.le_of_ble_eq_true rfl) (by rw [← hR]; exact Nat.le_of_ble_eq_true rfl) dJx4a65c_fastRemove_b59b0_31 (fun H_29 locs_29 fq_33 hc_29 hq_29 hr_29 hh_29 => ?_)
      clear hh_34
      have hd_32n := jLs.arr hd_32 hg_r0 hg_r1 hr_29
      have hh_35 := hh_29.addI (jLs.ie hd_32n)
      clear hh_29
      have hh_36 := hh_35.addI (hq_29.ie hg_r1 (by decide) (by decide))
      clear hh_35
      refine lv_aload_n hx hb dJx4a65c_fastRemove_b59b0_34 rfl (lv_at hl 2 rfl) ?_
      refine lv_aload_n hx hb dJx4a65c_fastRemove_b59b0_35 rfl (lv_at hl 1 rfl) ?_
      refine lv_iload_n hx hb dJx4a65c_fastRemove_b59b0_36 rfl (lv_at hl 0 rfl) ?_
      refine lv_dup_x1 hx hb dJx4a65c_fastRemove_b59b0_37 rfl rfl ?_
      have hd_38 := hh_36.iv 1 rfl
      have hh_39 := hh_36.sub (L1 := [(r0, 1, 0, .int z_9), (r0, 1, 1, .ref r1), (r0, 1, 2, .int lz)]) [0, 1, 2] rfl (M1 := []) [] rfl (I1 := [([(222, 0)], jQc dC dI (ca 9) r1 n1 fq_33)]) [0] rfl
      clear hh_36
      refine j7_putX hx hb hown hK hh_39 hB hAp hB1 (C := RJx4a65c) (T := TJx4a65c) (N := 3) rfl (by decide) hg_r0 (i := 2) (by decide) hly_1_2 rfl hlk_48 rfl (ty := .int) (v := .int z_11) (by decide +kernel) rfl rfl (⟨_, rfl, by omega, by omega⟩) rfl (L1 := [(r0, 1, 0, .int z_9), (r0, 1, 1, .ref r1)]) [0, 1] rfl rfl rfl dJx4a65c_fastRemove_b59b0_38 (fun H_37 locs_37 hr_37 hh_37 => ?_)
      clear hh_39
      have hd_38n := jLs.fld hd_38 hg_r0 hr_37
      have hh_40 := hh_37.addI (jLs.ie hd_38n)
      clear hh_37
      clear hd_38 hd_38n hr_37
      refine lv_null hx hb dJx4a65c_fastRemove_b59b0_41 ?_
      have hd_42 := hh_40.iv 1 rfl
      have hd_43 := hh_40.iv 0 rfl
      have hh_45 := hh_40.sub (L1 := [(r0, 1, 2, .int z_11), (r0, 1, 0, .int z_9), (r0, 1, 1, .ref r1)]) [0, 1, 2] rfl (M1 := []) [] rfl (I1 := []) [] rfl
      clear hh_40
      refine j7_qastNO hx hb hK7.1 hh_45 hB hB222 0 rfl (by decide) (by decide) rfl rfl rfl hg_r1 (x := z_11.toInt) (rfl) (by omega) (Or.inl rfl) hd_42 dJx4a65c_fastRemove_b59b0_42 (fun H_41 locs_41 fq_44 hv_41 ho_41 hq_41 hr_41 hh_41 => ?_)
      clear hh_45
      have hd_43n := jLs.arr hd_43 hg_r0 hg_r1 hr_41
      have hh_46 := hh_41.addI (jLs.ie hd_43n)
      clear hh_41
      have hh_47 := hh_46.addI (hq_41.ie hg_r1 (by decide) (by decide))
      clear hh_46
      clear hd_42 hd_43 hd_43n hr_41
      have hd_48 := jLs.full (hh_47.iv 1 rfl) hg_r0 ⟨_, _, hh_47.at 0 rfl, hh_47.at 2 rfl, ⟨by omega, (show _ ≤ (12 : Int) by omega)⟩, Or.inr ⟨_, _, hg_r1, by omega, by omega, hh_47.iv 0 rfl, by first | exact jRm.copy hl8_1 (by omega) (by omega) hc_29 (by omega) (by omega) (by omega) ho_41 | exact jRm.last hl8_1 (by omega) (by omega) ho_41⟩⟩
      have hh_49 := hh_47.sub (L1 := [(r0, 1, 2, .int z_11), (r0, 1, 0, .int z_9), (r0, 1, 1, .ref r1)]) [0, 1, 2] rfl (M1 := []) [] rfl (I1 := [([(222, 0)], jQc dC dI (ca 9) r1 n1 fq_44)]) [0] rfl
      clear hh_47
      have hh_50 := hh_49.addI (jLs.ie hd_48)
      clear hh_49
      rw [hQ]
      exact W.vret hx hb hr (fun t ht hW => ⟨⟨z_11, rfl, by first | omega | rfl | assumption | decide | exact Or.inl rfl | exact Or.inr rfl | (simp only; omega), ⟨hh_50.rt (M1 := [(r0, 1, 2, .int z_11)]) [0] rfl ht, by rw [ht]; exact hh_50.2.2.2.2.2.2.2.2.sub (L1 := [(jFl, jLs dC dI ca G0 3 none)]) [0] rfl⟩⟩, by rw [ht]; try exact hh_50.1.1, fun q h9 hq => by rw [ht]; try exact hh_50.1.2.1 q h9 hq⟩) hh_50.1.2.2 dJx4a65c_fastRemove_b59b0_43
set_option maxHeartbeats 4000000 in
set_option maxRecDepth 20000 in
theorem uJx4a65c_remove_915e3L2 (l : Launch) (dC : Nat → ClassId) (dI : Nat → Nat → Nat) (ca : Nat → ClassId) (base : Nat) (B : jF) (hB : jBok B) (hAp : jAp (dC, dI)) (hB1 : ∀ n G a H, B 1 n G a H ↔ jOb (dC, dI) 1 3 (F1 n G) a H) (hB10 : ∀ n G a H, B 10 n G a H ↔ jOb (dC, dI) 10 5 (F10 n G) a H) (hB222 : ∀ n G a H, B 222 n G a H ↔ jAq (dC, dI) (ca 9) (jQn 10 0) n G a H) (G0 : jT) (H0 : Heap) (r0 : Nat) (a1 : Int32) (lz : Int32) : Met l yJx4a65c_remove_915e3 (jw yJx4a65c_remove_915e3 cJx4a65c_remove_915e3 4 (some (.object "java/lang/Object"))) ({ frames := 2, cells := 0, slots := 0, locals := 84 }) (va_Pc [.ref r0, .int a1] (fun U => U.heap = H0 ∧ jX B base G0 [] H0 ∧ jG dC dI ca base U ∧ jK7 dC dI ca base U ∧ G0 r0 = some (1, 2) ∧ jP (dC, dI) G0 H0 [(r0, 1, 2, .int lz)] ∧ jIs (dC, dI) G0 H0 [(jFl, jLs dC dI ca G0 3 none)] ∧ 0 ≤ a1.toInt ∧ a1.toInt < lz.toInt)) (jQx (S := Int32) (fun v u => jRf G0 10 0 v ∧ u.toInt = lz.toInt - 1) (fun u t => (jRt (dC, dI) B base G0 EJx4a65c_remove_915e3L2 H0 [(r0, 1, 2, .int u)] t.heap) ∧ jIs (dC, dI) G0 t.heap [(jFl, jLs dC dI ca G0 3 none)]) (jA base)) 0 0 (jA base) := by
  refine Met.ofW (cc := cJx4a65c_remove_915e3) (maxL := 4) (ret := (some (.object "java/lang/Object"))) (by decide) rfl ?_
  intro p e s m args below meth c s₁ Bd hml hv
  obtain ⟨rfl, hH0, hX, hG, hK7, hg_r0, hP0, hI0, hp0, hp1⟩ := hv
  have hK := hG.1
  have hx := Bd.exec
  have hb := Bd.bytes
  have hr := Bd.returns
  have hts := atoms_spec (ws := (jw yJx4a65c_remove_915e3 cJx4a65c_remove_915e3 4 (some (.object "java/lang/Object")))) Bd.pre
  have htw : ∀ w ∈ jWl, w.before _ s = true := fun w h => hts w (List.mem_cons_of_mem _ h)
  have hown : s.vm.findClass RJx4a65c = some m.cls := findClass_of_methodNamed Bd.named
  have hlocks := Bd.notSynchronized
  obtain ⟨Q, hQ⟩ : ∃ Q, Q = MQ below (jQx (S := Int32) (fun v u => jRf G0 10 0 v ∧ u.toInt = lz.toInt - 1) (fun u t => (jRt (dC, dI) B base G0 EJx4a65c_remove_915e3L2 H0 [(r0, 1, 2, .int u)] t.heap) ∧ jIs (dC, dI) G0 t.heap [(jFl, jLs dC dI ca G0 3 none)]) (jA base)) ([.ref r0, .int a1] : List Value).toArray s 0 0 (jA base) := ⟨_, rfl⟩
  rw [← hQ]
  have hl := lv_entry ([.ref r0, .int a1]) (n := 4) (Nat.le_of_ble_eq_true rfl)
  rw [lg_entry_eq]
  generalize (lg_sl ([.ref r0, .int a1]) ++ List.replicate (4 - (lg_sl ([.ref r0, .int a1])).length) Slot.unset).toArray = ls at hl ⊢
  have hl : lv_has ls 4 [(0, .ref r0), (1, .int a1)] := hl
  generalize hR : (headSpec (jw yJx4a65c_remove_915e3 cJx4a65c_remove_915e3 4 (some (.object "java/lang/Object"))) ({ frames := 2, cells := 0, slots := 0, locals := 84 })).room = R
  subst hH0
  have hh : jSt (dC, dI) B base G0 G0 EJx4a65c_remove_915e3L2 s.heap 0 0 [(r0, 1, 2, .int lz)] [] [(jFl, jLs dC dI ca G0 3 none)] s.heap [] := jSt.start hX hP0 jMc.nil hI0
  clear hX hP0
  have hk0 : (0 : Int32).toInt = 0 := by decide
  have hk1 : (1 : Int32).toInt = 1 := by decide
  have hly_1_1 := htw (u_lay RJx4a65c TJx4a65c 1) (jWc_wsJx4a65c0 _ (u_in_lay (by decide)))
  have hly_1_2 := htw (u_lay RJx4a65c TJx4a65c 2) (jWc_wsJx4a65c0 _ (u_in_lay (by decide)))
  have hlk_48 := (htw (.fieldLink RJx4a65c 48 "java/util/ArrayList" "size" "I") (jWr_28 _ (List.mem_of_getElem? (i := 2) rfl)))
  have hlk_9 := (htw (.fieldLink RJx4a65c 9 "java/util/ArrayList" "elementData" "[Ljava/lang/Object;") (jWr_9 _ (List.mem_of_getElem? (i := 15) rfl)))
  have hrg_a1 := jb_rng a1
  obtain ⟨lz_1, lx_1, hl1_1, hl2_1, hl3_1, hl4_1⟩ := jLs.at (hh.iv 0 rfl) hg_r0
  obtain rfl : lz = lz_1 := Value.int.inj (jf.uniq (hh.at 0 rfl) hl1_1)
  have hl3_1 : 0 ≤ lz.toInt ∧ lz.toInt ≤ 12 := hl3_1
  rcases hl4_1 with ⟨rfl, hl5_1⟩ | ⟨lm_1, lf_1, hg_lx_1, hlm_1, hl6_1, hl7_1, hl8_1⟩
  · skip
    exact (by omega : False).elim
  · skip
    have hh_2 := hh.more (P1 := [(r0, 1, 1, .ref lx_1)]) (jP.cons hg_r0 hl2_1 jP.nil)
    clear hh
    have hh_3 := hh_2.addI (jQc.ie hl7_1 hg_lx_1 (by decide) (by decide))
    clear hh_2
    refine lv_iload_n hx hb dJx4a65c_remove_915e3_0 rfl (lv_at hl 1 rfl) ?_
    refine lv_aload_n hx hb dJx4a65c_remove_915e3_1 rfl (lv_at hl 0 rfl) ?_
    refine j7_read hx hb hown hK (C := RJx4a65c) (T := TJx4a65c) (N := 3) rfl hly_1_2 hlk_48 (hh_3.at 1 rfl) dJx4a65c_remove_915e3_2 ?_
    refine va_calli (A0 := jA base) (H0 := s.heap) (va_runS (As := [.int a1, .int lz]) (rest := []) ⟨hx, hb, hml, hown, hts⟩ (uJ15_checkIndex_7cf53 l dC dI ca base B hB hAp G0 s.heap a1 lz) (va_cwS 2 hts (jgS (jWr_28 _ (List.mem_of_getElem? (i := 7) rfl)) (jWr_28 _ (List.mem_of_getElem? (i := 8) rfl)) (jWr_28 _ (List.mem_of_getElem? (i := 9) rfl)) (jWr_28 _ (List.mem_of_getElem? (i := 10) rfl))) rfl rfl rfl (by decide +kernel) ⟨by rw [← hR]; exact Nat.le_of_ble_eq_true rfl, by rw [← hR]; exact Nat.le_of_ble_eq_true rfl⟩) ⟨fun a U g mk q => by obtain ⟨q0, q1, q2, qK, q10, q11⟩ := q; exact ⟨q0, q1, q2, jG.calling g mk a qK, q10, q11⟩, fun U hU hW => ⟨rfl, hU, hh_3.2.1, hG.step hW hU hh_3.1, jP.nil, by first | omega | (refine ⟨?_, ?_⟩ <;> (first | omega | rfl | assumption | decide | exact Or.inl rfl | exact Or.inr rfl | (simp only; omega)))⟩⟩ rfl rfl hl.1 rfl (lv_room (Nat.le_of_ble_eq_true rfl)) dJx4a65c_remove_915e3_5 ⟨Nat.zero_le _, Nat.zero_le _⟩) hh_3.1 (fun q _ h => h) (fun q h => h) (fun r_5 u_4 t_4 H_4 locs_4 ht_4 hvm_4 hr_5 hb_4 hz_4 hk_4 hS_4 => ?_)
    rw [ht_4] at hb_4
    obtain ⟨hb_41, hb_42, hb_43, hb_44, hb_45⟩ := hb_4
    have hh_4 : jSt (dC, dI) B base G0 G0 EJx4a65c_remove_915e3L2 s.heap 0 0 [(r0, 1, 1, .ref lx_1), (r0, 1, 2, .int lz)] [] [([(222, 0)], jQc dC dI (ca 9) lx_1 lm_1 lf_1), (jFl, jLs dC dI ca G0 3 none)] H_4 locs_4 := ((hh_3.call hb_41 hb_42 hb_43 hb_44 hS_4 rfl (L1 := [(r0, 1, 1, .ref lx_1), (r0, 1, 2, .int lz)]) [0, 1] rfl rfl (M1 := []) [] rfl rfl (I1 := [([(222, 0)], jQc dC dI (ca 9) lx_1 lm_1 lf_1), (jFl, jLs dC dI ca G0 3 none)]) [0, 1] rfl rfl).more hb_45)
    clear hh_3 ht_4 hvm_4 hz_4 hk_4 hS_4 hb_41 hb_42 hb_43 hb_44 hb_45
    refine lv_pop hx hb dJx4a65c_remove_915e3_8 rfl ?_
    refine lv_aload_n hx hb dJx4a65c_remove_915e3_9 rfl (lv_at hl 0 rfl) ?_
    refine j7_read hx hb hown hK (C := RJx4a65c) (T := TJx4a65c) (N := 3) rfl hly_1_1 hlk_9 (hh_4.at 0 rfl) dJx4a65c_remove_915e3_10 ?_
    refine lv_astore_n (lv' := [(2, .ref lx_1), (0, .ref r0), (1, .int a1)]) hx hb dJx4a65c_remove_915e3_13 rfl hl (by decide) rfl (fun ls hl => ?_)
    refine lv_aload_n hx hb dJx4a65c_remove_915e3_14 rfl (lv_at hl 0 rfl) ?_
    refine lv_iload_n hx hb dJx4a65c_remove_915e3_15 rfl (lv_at hl 2 rfl) ?_
    refine j7_qaldI hx hb hK7.1 hh_4 hB222 0 rfl (by decide) hg_lx_1 (x := a1.toInt) (rfl) (by omega) (hh_4.iv 0 rfl) dJx4a65c_remove_915e3_16 (fun o_6 ho_6 heo_6 => ?_)
    rcases ho_6 with rfl | ⟨el_7, rfl, hg_el_7⟩
    · simp only [va_rf]
      exact absurd heo_6.symm (hl8_1 _ (by omega))
    · simp only [va_rf]
      refine lv_astore_n (lv' := [(3, .ref el_7), (2, .ref lx_1), (0, .ref r0), (1, .int a1)]) hx hb dJx4a65c_remove_915e3_17 rfl hl (by decide) rfl (fun ls hl => ?_)
      refine lv_aload_n hx hb dJx4a65c_remove_915e3_18 rfl (lv_at hl 2 rfl) ?_
      refine lv_aload_n hx hb dJx4a65c_remove_915e3_19 rfl (lv_at hl 1 rfl) ?_
      refine lv_iload_n hx hb dJx4a65c_remove_915e3_20 rfl (lv_at hl 3 rfl) ?_
      refine va_callv (A0 := jA base) (H0 := s.heap) (va_runV (As := [.ref lx_1, .int a1]) (rest := []) ⟨hx, hb, hml, hown, hts⟩ (uJx4a65c_fastRemove_b59b0L2 l dC dI ca base B hB hAp hB1 hB10 hB222 G0 H_4 r0 lx_1 a1 lm_1 lz) (cwV 2 hts (jgV (jWr_42 _ (List.mem_of_getElem? (i := 11) rfl)) (jWr_42 _ (List.mem_of_getElem? (i := 12) rfl)) (jWr_42 _ (List.mem_of_getElem? (i := 13) rfl)) (jWr_2 _ (List.mem_of_getElem? (i := 13) rfl)) (jWr_42 _ (List.mem_of_getElem? (i := 14) rfl))) rfl rfl rfl (by decide +kernel) ⟨by rw [← hR]; exact Nat.le_of_ble_eq_true rfl, by rw [← hR]; exact Nat.le_of_ble_eq_true rfl⟩) ⟨fun a U g mk q => by obtain ⟨q0, q1, q2, qK, q10, q11, q12, q13, q14, q15⟩ := q; exact ⟨q0, q1, q2, jG.calling g mk a qK, (jK7.calling g mk a q10), q11, q12, q13, q14, q15⟩, hh_4.recv (C := RJx4a65c) (T := TJx4a65c) (N := 3) hB1 rfl (by decide) hg_r0 hK, fun U hU hW => ⟨rfl, hU, hh_4.2.1, hG.step hW hU hh_4.1, (hK7.step hW hU hh_4.1), hg_r0, hg_lx_1, (hh_4.2.2.1.sub (L1 := [(r0, 1, 1, .ref lx_1), (r0, 1, 2, .int lz)]) [0, 1] rfl), (hh_4.2.2.2.2.2.2.2.2.sub (L1 := [(jFl, jLs dC dI ca G0 3 none)]) [1] rfl), by first | omega | (refine ⟨?_, ?_⟩ <;> (first | omega | rfl | assumption | decide | exact Or.inl rfl | exact Or.inr rfl | (simp only; omega)))⟩⟩ rfl rfl hl.1 rfl (lv_room (Nat.le_of_ble_eq_true rfl)) dJx4a65c_remove_915e3_21 ⟨Nat.zero_le _, Nat.zero_le _⟩) hh_4.1 (fun q _ h => h) (fun q h => h) (fun u_8 t_8 H_8 locs_8 ht_8 hvm_8 hr_9 hb_8 hz_8 hk_8 hS_8 => ?_)
      obtain ⟨qz_8, rfl⟩ : ∃ z, z = u_8 := ⟨_, rfl⟩
      rw [ht_8] at hb_8
      obtain ⟨hb_8, hbE_8⟩ := hb_8
      obtain ⟨hb_81, hb_82, hb_83, hb_84, hb_85⟩ := hb_8
      have hh_8 : jSt (dC, dI) B base G0 G0 EJx4a65c_remove_915e3L2 s.heap 0 0 [(r0, 1, 2, .int qz_8), (r0, 1, 1, .ref lx_1)] [] [(jFl, jLs dC dI ca G0 3 none)] H_8 locs_8 := (((hh_4.call hb_81 hb_82 hb_83 hb_84 hS_8 rfl (L1 := [(r0, 1, 1, .ref lx_1)]) [0] rfl rfl (M1 := []) [] rfl rfl (I1 := []) [] rfl rfl).more hb_85)).addIs hbE_8
      clear hh_4 ht_8 hvm_8 hz_8 hk_8 hS_8 hb_81 hb_82 hb_83 hb_84 hb_85
      clear  hbE_8
      refine lv_aload_n hx hb dJx4a65c_remove_915e3_24 rfl (lv_at hl 0 rfl) ?_
      rw [hQ]
      exact W.aret (v := .ref el_7) hx hb hr (Or.inl ⟨_, rfl⟩) (Or.inr ⟨_, rfl⟩) (fun t ht hW => ⟨⟨.ref el_7, qz_8, rfl, ⟨⟨_, rfl, hg_el_7⟩, by first | omega | rfl | assumption | decide | exact Or.inl rfl | exact Or.inr rfl | (simp only; omega)⟩, ⟨hh_8.rt (M1 := [(r0, 1, 2, .int qz_8)]) [0] rfl ht, by rw [ht]; exact hh_8.2.2.2.2.2.2.2.2.sub (L1 := [(jFl, jLs dC dI ca G0 3 none)]) [0] rfl⟩⟩, by rw [ht]; try exact hh_8.1.1, fun q h9 hq => by rw [ht]; try exact hh_8.1.2.1 q h9 hq⟩) hh_8.1.2.2 dJx4a65c_remove_915e3_25
set_option maxHeartbeats 4000000 in
set_option maxRecDepth 20000 in
theorem uJx4a65c_fastRemove_b59b0L3 (l : Launch) (dC : Nat → ClassId) (dI : Nat → Nat → Nat) (ca : Nat → ClassId) (base : Nat) (B : jF) (hB : jBok B) (hAp : jAp (dC, dI)) (hB1 : ∀ n G a H, B 1 n G a H ↔ jOb (dC, dI) 1 3 (F1 n G) a H) (hB11 : ∀ n G a H, B 11 n G a H ↔ jOb (dC, dI) 11 9 (F11 n G) a H) (hB223 : ∀ n G a H, B 223 n G a H ↔ jAq (dC, dI) (ca 9) (jQn 11 0) n G a H) (G0 : jT) (H0 : Heap) (r0 : Nat) (r1 : Nat) (a2 : Int32) (n1 : Nat) (lz : Int32) : Met l yJx4a65c_fastRemove_b59b0 (jw yJx4a65c_fastRemove_b59b0 cJx4a65c_fastRemove_b59b0 4 none) ({ frames := 1, cells := 0, slots := 0, locals := 61 }) (va_Pc [.ref r0, .ref r1, .int a2] (fun U => U.heap = H0 ∧ jX B base G0 [] H0 ∧ jG dC dI ca base U ∧ jK7 dC dI ca base U ∧ G0 r0 = some (1, 3) ∧ G0 r1 = some (223, n1) ∧ jP (dC, dI) G0 H0 [(r0, 1, 1, .ref r1), (r0, 1, 2, .int lz)] ∧ jIs (dC, dI) G0 H0 [(jFl, jLs dC dI ca G0 3 none)] ∧ 0 ≤ a2.toInt ∧ a2.toInt < lz.toInt)) (va_Qv (S := Int32) (fun u => u.toInt = lz.toInt - 1) (fun u t => (jRt (dC, dI) B base G0 EJx4a65c_fastRemove_b59b0L3 H0 [(r0, 1, 2, .int u)] t.heap) ∧ jIs (dC, dI) G0 t.heap [(jFl, jLs dC dI ca G0 3 none)]) (jA base)) 0 0 (jA base) := by
  refine Met.ofW (cc := cJx4a65c_fastRemove_b59b0) (maxL := 4) (ret := none) (by decide) rfl ?_
  intro p e s m args below meth c s₁ Bd hml hv
  obtain ⟨rfl, hH0, hX, hG, hK7, hg_r0, hg_r1, hP0, hI0, hp0, hp1⟩ := hv
  have hK := hG.1
  have hx := Bd.exec
  have hb := Bd.bytes
  have hr := Bd.returns
  have hts := atoms_spec (ws := (jw yJx4a65c_fastRemove_b59b0 cJx4a65c_fastRemove_b59b0 4 none)) Bd.pre
  have htw : ∀ w ∈ jWl, w.before _ s = true := fun w h => hts w (List.mem_cons_of_mem _ h)
  have hown : s.vm.findClass RJx4a65c = some m.cls := findClass_of_methodNamed Bd.named
  have hlocks := Bd.notSynchronized
  obtain ⟨Q, hQ⟩ : ∃ Q, Q = MQ below (va_Qv (S := Int32) (fun u => u.toInt = lz.toInt - 1) (fun u t => (jRt (dC, dI) B base G0 EJx4a65c_fastRemove_b59b0L3 H0 [(r0, 1, 2, .int u)] t.heap) ∧ jIs (dC, dI) G0 t.heap [(jFl, jLs dC dI ca G0 3 none)]) (jA base)) ([.ref r0, .ref r1, .int a2] : List Value).toArray s 0 0 (jA base) := ⟨_, rfl⟩
  rw [← hQ]
  have hl := lv_entry ([.ref r0, .ref r1, .int a2]) (n := 4) (Nat.le_of_ble_eq_true rfl)
  rw [lg_entry_eq]
  generalize (lg_sl ([.ref r0, .ref r1, .int a2]) ++ List.replicate (4 - (lg_sl ([.ref r0, .ref r1, .int a2])).length) Slot.unset).toArray = ls at hl ⊢
  have hl : lv_has ls 4 [(0, .ref r0), (1, .ref r1), (2, .int a2)] := hl
  generalize hR : (headSpec (jw yJx4a65c_fastRemove_b59b0 cJx4a65c_fastRemove_b59b0 4 none) ({ frames := 1, cells := 0, slots := 0, locals := 61 })).room = R
  subst hH0
  have hh : jSt (dC, dI) B base G0 G0 EJx4a65c_fastRemove_b59b0L3 s.heap 0 0 [(r0, 1, 1, .ref r1), (r0, 1, 2, .int lz)] [] [(jFl, jLs dC dI ca G0 3 none)] s.heap [] := jSt.start hX hP0 jMc.nil hI0
  clear hX hP0
  have hk0 : (0 : Int32).toInt = 0 := by decide
  have hk1 : (1 : Int32).toInt = 1 := by decide
  have hly_1_0 := htw (u_lay RJx4a65c TJx4a65c 0) (jWc_wsJx4a65c0 _ (u_in_lay (by decide)))
  have hly_1_2 := htw (u_lay RJx4a65c TJx4a65c 2) (jWc_wsJx4a65c0 _ (u_in_lay (by decide)))
  have hlk_63 := (htw (.fieldLink RJx4a65c 63 "java/util/ArrayList" "modCount" "I") (jWr_33 _ (List.mem_of_getElem? (i := 11) rfl)))
  have hlk_48 := (htw (.fieldLink RJx4a65c 48 "java/util/ArrayList" "size" "I") (jWr_28 _ (List.mem_of_getElem? (i := 2) rfl)))
  have hrg_a2 := jb_rng a2
  obtain ⟨lz_1, lx_1, hl1_1, hl2_1, hl3_1, hl4_1⟩ := jLs.at (hh.iv 0 rfl) hg_r0
  obtain rfl : lz = lz_1 := Value.int.inj (jf.uniq (hh.at 1 rfl) hl1_1)
  have hl3_1 : 0 ≤ lz.toInt ∧ lz.toInt ≤ 24 := hl3_1
  obtain rfl : r1 = lx_1 := Value.ref.inj (jf.uniq (hh.at 0 rfl) hl2_1)
  rcases hl4_1 with ⟨hl9_1, hl5_1⟩ | ⟨lm_1, lf_1, hg_lx_1, hlm_1, hl6_1, hl7_1, hl8_1⟩
  · skip
    exact (by omega : False).elim
  · skip
    obtain rfl : n1 = lm_1 := by have h9 := Option.some.inj (hg_r1.symm.trans hg_lx_1); exact congrArg Prod.snd h9
    have hd_2 := jLs.less (hh.iv 0 rfl) r0
    have hh_3 := hh.sub (L1 := [(r0, 1, 1, .ref r1), (r0, 1, 2, .int lz)]) [0, 1] rfl (M1 := []) [] rfl (I1 := []) [] rfl
    clear hh
    have hh_4 := hh_3.addI (jLs.ie hd_2)
    clear hh_3
    have hh_5 := hh_4.addI (jQc.ie hl7_1 hg_lx_1 (by decide) (by decide))
    clear hh_4
    refine lv_aload_n hx hb dJx4a65c_fastRemove_b59b0_0 rfl (lv_at hl 0 rfl) ?_
    refine lv_dup hx hb dJx4a65c_fastRemove_b59b0_1 rfl ?_
    obtain ⟨v_6, hv_6, hh_7⟩ := hh_5.pin (C := RJx4a65c) (T := TJx4a65c) (N := 3) hB1 rfl (by decide) hg_r0 (i := 0) (by decide) rfl
    clear hh_5
    obtain ⟨modCount_8, rfl⟩ := hv_6
    refine j7_readS hx hb hown hK (C := RJx4a65c) (T := TJx4a65c) (N := 3) rfl hly_1_0 hlk_63 (htw (.sameField "java/util/ArrayList" "java/util/AbstractList" "modCount" "I") (jWr_33 _ (List.mem_of_getElem? (i := 12) rfl))) (hh_7.at 0 rfl) dJx4a65c_fastRemove_b59b0_2 ?_
    refine lv_iconst (v := 1) hx hb dJx4a65c_fastRemove_b59b0_5 (by decide) ?_
    refine lv_iadd hx hb dJx4a65c_fastRemove_b59b0_6 ?_
    refine lv_topi (fun z_9 ez_9 => ?_)
    refine j7_putS hx hb hown hK hh_7 hB hAp hB1 (C := RJx4a65c) (T := TJx4a65c) (N := 3) rfl (by decide) hg_r0 (i := 0) (by decide) hly_1_0 rfl hlk_63 (htw (.sameField "java/util/ArrayList" "java/util/AbstractList" "modCount" "I") (jWr_33 _ (List.mem_of_getElem? (i := 12) rfl))) rfl (ty := .int) (v := .int z_9) (by decide +kernel) rfl rfl (⟨_, rfl⟩) rfl (L1 := [(r0, 1, 1, .ref r1), (r0, 1, 2, .int lz)]) [1, 2] rfl rfl rfl dJx4a65c_fastRemove_b59b0_7 (fun H_10 locs_10 hr_10 hh_10 => ?_)
    clear hr_10
    clear hh_7
    refine lv_aload_n hx hb dJx4a65c_fastRemove_b59b0_10 rfl (lv_at hl 0 rfl) ?_
    refine j7_read hx hb hown hK (C := RJx4a65c) (T := TJx4a65c) (N := 3) rfl hly_1_2 hlk_48 (hh_10.at 2 rfl) dJx4a65c_fastRemove_b59b0_11 ?_
    refine lv_iconst (v := 1) hx hb dJx4a65c_fastRemove_b59b0_14 (by decide) ?_
    refine lv_isub hx hb dJx4a65c_fastRemove_b59b0_15 ?_
    refine lv_topi (fun z_11 ez_11 => ?_)
    have hz_11 : z_11.toInt = lz.toInt - 1 := by rw [ez_11]; exact jb_isub2 (rfl) ((by decide)) (by omega)
    refine lv_dup hx hb dJx4a65c_fastRemove_b59b0_16 rfl ?_
    refine lv_istore_n (lv' := [(3, .int z_11), (0, .ref r0), (1, .ref r1), (2, .int a2)]) hx hb dJx4a65c_fastRemove_b59b0_17 rfl hl (by decide) rfl (fun ls hl => ?_)
    refine lv_iload_n hx hb dJx4a65c_fastRemove_b59b0_18 rfl (lv_at hl 3 rfl) ?_
    refine lv_icmp_le (tgt := 34) hx hb dJx4a65c_fastRemove_b59b0_19 (by decide) (fun c_12 => ?_) (fun c_12 => ?_)
    · skip
      have c_12' : z_11.toInt ≤ a2.toInt := jb_le (rfl) (rfl) c_12
      refine lv_aload_n hx hb dJx4a65c_fastRemove_b59b0_34 rfl (lv_at hl 2 rfl) ?_
      refine lv_aload_n hx hb dJx4a65c_fastRemove_b59b0_35 rfl (lv_at hl 1 rfl) ?_
      refine lv_iload_n hx hb dJx4a65c_fastRemove_b59b0_36 rfl (lv_at hl 0 rfl) ?_
      refine lv_dup_x1 hx hb dJx4a65c_fastRemove_b59b0_37 rfl rfl ?_
      have hd_14 := hh_10.iv 1 rfl
      have hh_15 := hh_10.sub (L1 := [(r0, 1, 0, .int z_9), (r0, 1, 1, .ref r1), (r0, 1, 2, .int lz)]) [0, 1, 2] rfl (M1 := []) [] rfl (I1 := [([(223, 0)], jQc dC dI (ca 9) r1 n1 lf_1)]) [0] rfl
      clear hh_10
      refine j7_putX hx hb hown hK hh_15 hB hAp hB1 (C := RJx4a65c) (T := TJx4a65c) (N := 3) rfl (by decide) hg_r0 (i := 2) (by decide) hly_1_2 rfl hlk_48 rfl (ty := .int) (v := .int z_11) (by decide +kernel) rfl rfl (⟨_, rfl, by omega, by omega⟩) rfl (L1 := [(r0, 1, 0, .int z_9), (r0, 1, 1, .ref r1)]) [0, 1] rfl rfl rfl dJx4a65c_fastRemove_b59b0_38 (fun H_13 locs_13 hr_13 hh_13 => ?_)
      clear hh_15
      have hd_14n := jLs.fld hd_14 hg_r0 hr_13
      have hh_16 := hh_13.addI (jLs.ie hd_14n)
      clear hh_13
      clear hd_14 hd_14n hr_13
      refine lv_null hx hb dJx4a65c_fastRemove_b59b0_41 ?_
      have hd_18 := hh_16.iv 1 rfl
      have hd_19 := hh_16.iv 0 rfl
      have hh_21 := hh_16.sub (L1 := [(r0, 1, 2, .int z_11), (r0, 1, 0, .int z_9), (r0, 1, 1, .ref r1)]) [0, 1, 2] rfl (M1 := []) [] rfl (I1 := []) [] rfl
      clear hh_16
      refine j7_qastNO hx hb hK7.1 hh_21 hB hB223 0 rfl (by decide) (by decide) rfl rfl rfl hg_r1 (x := z_11.toInt) (rfl) (by omega) (Or.inl rfl) hd_18 dJx4a65c_fastRemove_b59b0_42 (fun H_17 locs_17 fq_20 hv_17 ho_17 hq_17 hr_17 hh_17 => ?_)
      clear hh_21
      have hd_19n := jLs.arr hd_19 hg_r0 hg_r1 hr_17
      have hh_22 := hh_17.addI (jLs.ie hd_19n)
      clear hh_17
      have hh_23 := hh_22.addI (hq_17.ie hg_r1 (by decide) (by decide))
      clear hh_22
      clear hd_18 hd_19 hd_19n hr_17
      have hd_24 := jLs.full (hh_23.iv 1 rfl) hg_r0 ⟨_, _, hh_23.at 0 rfl, hh_23.at 2 rfl, ⟨by omega, (show _ ≤ (24 : Int) by omega)⟩, Or.inr ⟨_, _, hg_r1, by omega, by omega, hh_23.iv 0 rfl, by first | exact jRm.copy hl8_1 (by omega) (by omega) (zz_none) (by omega) (by omega) (by omega) ho_17 | exact jRm.last hl8_1 (by omega) (by omega) ho_17⟩⟩
      have hh_25 := hh_23.sub (L1 := [(r0, 1, 2, .int z_11), (r0, 1, 0, .int z_9), (r0, 1, 1, .ref r1)]) [0, 1, 2] rfl (M1 := []) [] rfl (I1 := [([(223, 0)], jQc dC dI (ca 9) r1 n1 fq_20)]) [0] rfl
      clear hh_23
      have hh_26 := hh_25.addI (jLs.ie hd_24)
      clear hh_25
      rw [hQ]
      exact W.vret hx hb hr (fun t ht hW => ⟨⟨z_11, rfl, by first | omega | rfl | assumption | decide | exact Or.inl rfl | exact Or.inr rfl | (simp only; omega), ⟨hh_26.rt (M1 := [(r0, 1, 2, .int z_11)]) [0] rfl ht, by rw [ht]; exact hh_26.2.2.2.2.2.2.2.2.sub (L1 := [(jFl, jLs dC dI ca G0 3 none)]) [0] rfl⟩⟩, by rw [ht]; try exact hh_26.1.1, fun q h9 hq => by rw [ht]; try exact hh_26.1.2.1 q h9 hq⟩) hh_26.1.2.2 dJx4a65c_fastRemove_b59b0_43
    · skip
      have c_12' : z_11.toInt > a2.toInt := jb_le_n (rfl) (rfl) c_12
      refine lv_aload_n hx hb dJx4a65c_fastRemove_b59b0_22 rfl (lv_at hl 2 rfl) ?_
      refine lv_iload_n hx hb dJx4a65c_fastRemove_b59b0_23 rfl (lv_at hl 3 rfl) ?_
      refine lv_iconst (v := 1) hx hb dJx4a65c_fastRemove_b59b0_24 (by decide) ?_
      refine lv_iadd hx hb dJx4a65c_fastRemove_b59b0_25 ?_
      refine lv_topi (fun z_27 ez_27 => ?_)
      have hz_27 : z_27.toInt = a2.toInt + 1 := by rw [ez_27]; exact jb_iadd2 (rfl) ((by decide)) (by omega)
      refine lv_aload_n hx hb dJx4a65c_fastRemove_b59b0_26 rfl (lv_at hl 2 rfl) ?_
      refine lv_iload_n hx hb dJx4a65c_fastRemove_b59b0_27 rfl (lv_at hl 3 rfl) ?_
      refine lv_iload_n hx hb dJx4a65c_fastRemove_b59b0_28 rfl (lv_at hl 0 rfl) ?_
      refine lv_iload_n hx hb dJx4a65c_fastRemove_b59b0_29 rfl (lv_at hl 3 rfl) ?_
      refine lv_isub hx hb dJx4a65c_fastRemove_b59b0_30 ?_
      refine lv_topi (fun z_28 ez_28 => ?_)
      have hz_28 : z_28.toInt = z_11.toInt - a2.toInt := by rw [ez_28]; exact jb_isub2 (rfl) (rfl) (by omega)
      have hd_30 := hh_10.iv 0 rfl
      have hd_31 := hh_10.iv 0 rfl
      have hd_32 := hh_10.iv 1 rfl
      have hh_34 := hh_10.sub (L1 := [(r0, 1, 0, .int z_9), (r0, 1, 1, .ref r1), (r0, 1, 2, .int lz)]) [0, 1, 2] rfl (M1 := []) [] rfl (I1 := []) [] rfl
      clear hh_10
      refine j7_qcopy hx hb (by rw [hml]; exact hl.1.symm) hown (htw (.methodLink RJx4a65c 112 arraycopyName) (jWr_42 _ (List.mem_of_getElem? (i := 15) rfl))) (htw (.native arraycopyName) (jWr_16 _ (List.mem_of_getElem? (i := 19) rfl))) (htw (.static arraycopyName) (jWr_16 _ (List.mem_of_getElem? (i := 20) rfl))) (htw (.initialized "java/lang/System") (jWr_16 _ (List.mem_of_getElem? (i := 21) rfl))) hK hK7.1 hh_34 hB hB223 0 rfl (by decide) (by decide) rfl rfl rfl hg_r1 hg_r1 hd_31 hd_30 hB11 (T := TX9) (N := 9) rfl (by decide) hK7.2.2.1.2.2.1 (x := z_27.toInt) (y := a2.toInt) (z := z_28.toInt) rfl rfl rfl (by omega) (by rw [← hR]; exact Nat.le_of_ble_eq_true rfl) (by rw [← hR]; exact Nat.le_of_ble_eq_true rfl) dJx4a65c_fastRemove_b59b0_31 (fun H_29 locs_29 fq_33 hc_29 hq_29 hr_29 hh_29 => ?_)
      clear hh_34
      have hd_32n := jLs.arr hd_32 hg_r0 hg_r1 hr_29
      have hh_35 := hh_29.addI (jLs.ie hd_32n)
      clear hh_29
      have hh_36 := hh_35.addI (hq_29.ie hg_r1 (by decide) (by decide))
      clear hh_35
      refine lv_aload_n hx hb dJx4a65c_fastRemove_b59b0_34 rfl (lv_at hl 2 rfl) ?_
      refine lv_aload_n hx hb dJx4a65c_fastRemove_b59b0_35 rfl (lv_at hl 1 rfl) ?_
      refine lv_iload_n hx hb dJx4a65c_fastRemove_b59b0_36 rfl (lv_at hl 0 rfl) ?_
      refine lv_dup_x1 hx hb dJx4a65c_fastRemove_b59b0_37 rfl rfl ?_
      have hd_38 := hh_36.iv 1 rfl
      have hh_39 := hh_36.sub (L1 := [(r0, 1, 0, .int z_9), (r0, 1, 1, .ref r1), (r0, 1, 2, .int lz)]) [0, 1, 2] rfl (M1 := []) [] rfl (I1 := [([(223, 0)], jQc dC dI (ca 9) r1 n1 fq_33)]) [0] rfl
      clear hh_36
      refine j7_putX hx hb hown hK hh_39 hB hAp hB1 (C := RJx4a65c) (T := TJx4a65c) (N := 3) rfl (by decide) hg_r0 (i := 2) (by decide) hly_1_2 rfl hlk_48 rfl (ty := .int) (v := .int z_11) (by decide +kernel) rfl rfl (⟨_, rfl, by omega, by omega⟩) rfl (L1 := [(r0, 1, 0, .int z_9), (r0, 1, 1, .ref r1)]) [0, 1] rfl rfl rfl dJx4a65c_fastRemove_b59b0_38 (fun H_37 locs_37 hr_37 hh_37 => ?_)
      clear hh_39
      have hd_38n := jLs.fld hd_38 hg_r0 hr_37
      have hh_40 := hh_37.addI (jLs.ie hd_38n)
      clear hh_37
      clear hd_38 hd_38n hr_37
      refine lv_null hx hb dJx4a65c_fastRemove_b59b0_41 ?_
      have hd_42 := hh_40.iv 1 rfl
      have hd_43 := hh_40.iv 0 rfl
      have hh_45 := hh_40.sub (L1 := [(r0, 1, 2, .int z_11), (r0, 1, 0, .int z_9), (r0, 1, 1, .ref r1)]) [0, 1, 2] rfl (M1 := []) [] rfl (I1 := []) [] rfl
      clear hh_40
      refine j7_qastNO hx hb hK7.1 hh_45 hB hB223 0 rfl (by decide) (by decide) rfl rfl rfl hg_r1 (x := z_11.toInt) (rfl) (by omega) (Or.inl rfl) hd_42 dJx4a65c_fastRemove_b59b0_42 (fun H_41 locs_41 fq_44 hv_41 ho_41 hq_41 hr_41 hh_41 => ?_)
      clear hh_45
      have hd_43n := jLs.arr hd_43 hg_r0 hg_r1 hr_41
      have hh_46 := hh_41.addI (jLs.ie hd_43n)
      clear hh_41
      have hh_47 := hh_46.addI (hq_41.ie hg_r1 (by decide) (by decide))
      clear hh_46
      clear hd_42 hd_43 hd_43n hr_41
      have hd_48 := jLs.full (hh_47.iv 1 rfl) hg_r0 ⟨_, _, hh_47.at 0 rfl, hh_47.at 2 rfl, ⟨by omega, (show _ ≤ (24 : Int) by omega)⟩, Or.inr ⟨_, _, hg_r1, by omega, by omega, hh_47.iv 0 rfl, by first | exact jRm.copy hl8_1 (by omega) (by omega) hc_29 (by omega) (by omega) (by omega) ho_41 | exact jRm.last hl8_1 (by omega) (by omega) ho_41⟩⟩
      have hh_49 := hh_47.sub (L1 := [(r0, 1, 2, .int z_11), (r0, 1, 0, .int z_9), (r0, 1, 1, .ref r1)]) [0, 1, 2] rfl (M1 := []) [] rfl (I1 := [([(223, 0)], jQc dC dI (ca 9) r1 n1 fq_44)]) [0] rfl
      clear hh_47
      have hh_50 := hh_49.addI (jLs.ie hd_48)
      clear hh_49
      rw [hQ]
      exact W.vret hx hb hr (fun t ht hW => ⟨⟨z_11, rfl, by first | omega | rfl | assumption | decide | exact Or.inl rfl | exact Or.inr rfl | (simp only; omega), ⟨hh_50.rt (M1 := [(r0, 1, 2, .int z_11)]) [0] rfl ht, by rw [ht]; exact hh_50.2.2.2.2.2.2.2.2.sub (L1 := [(jFl, jLs dC dI ca G0 3 none)]) [0] rfl⟩⟩, by rw [ht]; try exact hh_50.1.1, fun q h9 hq => by rw [ht]; try exact hh_50.1.2.1 q h9 hq⟩) hh_50.1.2.2 dJx4a65c_fastRemove_b59b0_43
set_option maxHeartbeats 4000000 in
set_option maxRecDepth 20000 in
theorem uJx4a65c_remove_915e3L3 (l : Launch) (dC : Nat → ClassId) (dI : Nat → Nat → Nat) (ca : Nat → ClassId) (base : Nat) (B : jF) (hB : jBok B) (hAp : jAp (dC, dI)) (hB1 : ∀ n G a H, B 1 n G a H ↔ jOb (dC, dI) 1 3 (F1 n G) a H) (hB11 : ∀ n G a H, B 11 n G a H ↔ jOb (dC, dI) 11 9 (F11 n G) a H) (hB223 : ∀ n G a H, B 223 n G a H ↔ jAq (dC, dI) (ca 9) (jQn 11 0) n G a H) (G0 : jT) (H0 : Heap) (r0 : Nat) (a1 : Int32) (lz : Int32) : Met l yJx4a65c_remove_915e3 (jw yJx4a65c_remove_915e3 cJx4a65c_remove_915e3 4 (some (.object "java/lang/Object"))) ({ frames := 2, cells := 0, slots := 0, locals := 84 }) (va_Pc [.ref r0, .int a1] (fun U => U.heap = H0 ∧ jX B base G0 [] H0 ∧ jG dC dI ca base U ∧ jK7 dC dI ca base U ∧ G0 r0 = some (1, 3) ∧ jP (dC, dI) G0 H0 [(r0, 1, 2, .int lz)] ∧ jIs (dC, dI) G0 H0 [(jFl, jLs dC dI ca G0 3 none)] ∧ 0 ≤ a1.toInt ∧ a1.toInt < lz.toInt)) (jQx (S := Int32) (fun v u => jRf G0 11 0 v ∧ u.toInt = lz.toInt - 1) (fun u t => (jRt (dC, dI) B base G0 EJx4a65c_remove_915e3L3 H0 [(r0, 1, 2, .int u)] t.heap) ∧ jIs (dC, dI) G0 t.heap [(jFl, jLs dC dI ca G0 3 none)]) (jA base)) 0 0 (jA base) := by
  refine Met.ofW (cc := cJx4a65c_remove_915e3) (maxL := 4) (ret := (some (.object "java/lang/Object"))) (by decide) rfl ?_
  intro p e s m args below meth c s₁ Bd hml hv
  obtain ⟨rfl, hH0, hX, hG, hK7, hg_r0, hP0, hI0, hp0, hp1⟩ := hv
  have hK := hG.1
  have hx := Bd.exec
  have hb := Bd.bytes
  have hr := Bd.returns
  have hts := atoms_spec (ws := (jw yJx4a65c_remove_915e3 cJx4a65c_remove_915e3 4 (some (.object "java/lang/Object")))) Bd.pre
  have htw : ∀ w ∈ jWl, w.before _ s = true := fun w h => hts w (List.mem_cons_of_mem _ h)
  have hown : s.vm.findClass RJx4a65c = some m.cls := findClass_of_methodNamed Bd.named
  have hlocks := Bd.notSynchronized
  obtain ⟨Q, hQ⟩ : ∃ Q, Q = MQ below (jQx (S := Int32) (fun v u => jRf G0 11 0 v ∧ u.toInt = lz.toInt - 1) (fun u t => (jRt (dC, dI) B base G0 EJx4a65c_remove_915e3L3 H0 [(r0, 1, 2, .int u)] t.heap) ∧ jIs (dC, dI) G0 t.heap [(jFl, jLs dC dI ca G0 3 none)]) (jA base)) ([.ref r0, .int a1] : List Value).toArray s 0 0 (jA base) := ⟨_, rfl⟩
  rw [← hQ]
  have hl := lv_entry ([.ref r0, .int a1]) (n := 4) (Nat.le_of_ble_eq_true rfl)
  rw [lg_entry_eq]
  generalize (lg_sl ([.ref r0, .int a1]) ++ List.replicate (4 - (lg_sl ([.ref r0, .int a1])).length) Slot.unset).toArray = ls at hl ⊢
  have hl : lv_has ls 4 [(0, .ref r0), (1, .int a1)] := hl
  generalize hR : (headSpec (jw yJx4a65c_remove_915e3 cJx4a65c_remove_915e3 4 (some (.object "java/lang/Object"))) ({ frames := 2, cells := 0, slots := 0, locals := 84 })).room = R
  subst hH0
  have hh : jSt (dC, dI) B base G0 G0 EJx4a65c_remove_915e3L3 s.heap 0 0 [(r0, 1, 2, .int lz)] [] [(jFl, jLs dC dI ca G0 3 none)] s.heap [] := jSt.start hX hP0 jMc.nil hI0
  clear hX hP0
  have hk0 : (0 : Int32).toInt = 0 := by decide
  have hk1 : (1 : Int32).toInt = 1 := by decide
  have hly_1_1 := htw (u_lay RJx4a65c TJx4a65c 1) (jWc_wsJx4a65c0 _ (u_in_lay (by decide)))
  have hly_1_2 := htw (u_lay RJx4a65c TJx4a65c 2) (jWc_wsJx4a65c0 _ (u_in_lay (by decide)))
  have hlk_48 := (htw (.fieldLink RJx4a65c 48 "java/util/ArrayList" "size" "I") (jWr_28 _ (List.mem_of_getElem? (i := 2) rfl)))
  have hlk_9 := (htw (.fieldLink RJx4a65c 9 "java/util/ArrayList" "elementData" "[Ljava/lang/Object;") (jWr_9 _ (List.mem_of_getElem? (i := 15) rfl)))
  have hrg_a1 := jb_rng a1
  obtain ⟨lz_1, lx_1, hl1_1, hl2_1, hl3_1, hl4_1⟩ := jLs.at (hh.iv 0 rfl) hg_r0
  obtain rfl : lz = lz_1 := Value.int.inj (jf.uniq (hh.at 0 rfl) hl1_1)
  have hl3_1 : 0 ≤ lz.toInt ∧ lz.toInt ≤ 24 := hl3_1
  rcases hl4_1 with ⟨rfl, hl5_1⟩ | ⟨lm_1, lf_1, hg_lx_1, hlm_1, hl6_1, hl7_1, hl8_1⟩
  · skip
    exact (by omega : False).elim
  · skip
    have hh_2 := hh.more (P1 := [(r0, 1, 1, .ref lx_1)]) (jP.cons hg_r0 hl2_1 jP.nil)
    clear hh
    have hh_3 := hh_2.addI (jQc.ie hl7_1 hg_lx_1 (by decide) (by decide))
    clear hh_2
    refine lv_iload_n hx hb dJx4a65c_remove_915e3_0 rfl (lv_at hl 1 rfl) ?_
    refine lv_aload_n hx hb dJx4a65c_remove_915e3_1 rfl (lv_at hl 0 rfl) ?_
    refine j7_read hx hb hown hK (C := RJx4a65c) (T := TJx4a65c) (N := 3) rfl hly_1_2 hlk_48 (hh_3.at 1 rfl) dJx4a65c_remove_915e3_2 ?_
    refine va_calli (A0 := jA base) (H0 := s.heap) (va_runS (As := [.int a1, .int lz]) (rest := []) ⟨hx, hb, hml, hown, hts⟩ (uJ15_checkIndex_7cf53 l dC dI ca base B hB hAp G0 s.heap a1 lz) (va_cwS 2 hts (jgS (jWr_28 _ (List.mem_of_getElem? (i := 7) rfl)) (jWr_28 _ (List.mem_of_getElem? (i := 8) rfl)) (jWr_28 _ (List.mem_of_getElem? (i := 9) rfl)) (jWr_28 _ (List.mem_of_getElem? (i := 10) rfl))) rfl rfl rfl (by decide +kernel) ⟨by rw [← hR]; exact Nat.le_of_ble_eq_true rfl, by rw [← hR]; exact Nat.le_of_ble_eq_true rfl⟩) ⟨fun a U g mk q => by obtain ⟨q0, q1, q2, qK, q10, q11⟩ := q; exact ⟨q0, q1, q2, jG.calling g mk a qK, q10, q11⟩, fun U hU hW => ⟨rfl, hU, hh_3.2.1, hG.step hW hU hh_3.1, jP.nil, by first | omega | (refine ⟨?_, ?_⟩ <;> (first | omega | rfl | assumption | decide | exact Or.inl rfl | exact Or.inr rfl | (simp only; omega)))⟩⟩ rfl rfl hl.1 rfl (lv_room (Nat.le_of_ble_eq_true rfl)) dJx4a65c_remove_915e3_5 ⟨Nat.zero_le _, Nat.zero_le _⟩) hh_3.1 (fun q _ h => h) (fun q h => h) (fun r_5 u_4 t_4 H_4 locs_4 ht_4 hvm_4 hr_5 hb_4 hz_4 hk_4 hS_4 => ?_)
    rw [ht_4] at hb_4
    obtain ⟨hb_41, hb_42, hb_43, hb_44, hb_45⟩ := hb_4
    have hh_4 : jSt (dC, dI) B base G0 G0 EJx4a65c_remove_915e3L3 s.heap 0 0 [(r0, 1, 1, .ref lx_1), (r0, 1, 2, .int lz)] [] [([(223, 0)], jQc dC dI (ca 9) lx_1 lm_1 lf_1), (jFl, jLs dC dI ca G0 3 none)] H_4 locs_4 := ((hh_3.call hb_41 hb_42 hb_43 hb_44 hS_4 rfl (L1 := [(r0, 1, 1, .ref lx_1), (r0, 1, 2, .int lz)]) [0, 1] rfl rfl (M1 := []) [] rfl rfl (I1 := [([(223, 0)], jQc dC dI (ca 9) lx_1 lm_1 lf_1), (jFl, jLs dC dI ca G0 3 none)]) [0, 1] rfl rfl).more hb_45)
    clear hh_3 ht_4 hvm_4 hz_4 hk_4 hS_4 hb_41 hb_42 hb_43 hb_44 hb_45
    refine lv_pop hx hb dJx4a65c_remove_915e3_8 rfl ?_
    refine lv_aload_n hx hb dJx4a65c_remove_915e3_9 rfl (lv_at hl 0 rfl) ?_
    refine j7_read hx hb hown hK (C := RJx4a65c) (T := TJx4a65c) (N := 3) rfl hly_1_1 hlk_9 (hh_4.at 0 rfl) dJx4a65c_remove_915e3_10 ?_
    refine lv_astore_n (lv' := [(2, .ref lx_1), (0, .ref r0), (1, .int a1)]) hx hb dJx4a65c_remove_915e3_13 rfl hl (by decide) rfl (fun ls hl => ?_)
    refine lv_aload_n hx hb dJx4a65c_remove_915e3_14 rfl (lv_at hl 0 rfl) ?_
    refine lv_iload_n hx hb dJx4a65c_remove_915e3_15 rfl (lv_at hl 2 rfl) ?_
    refine j7_qaldI hx hb hK7.1 hh_4 hB223 0 rfl (by decide) hg_lx_1 (x := a1.toInt) (rfl) (by omega) (hh_4.iv 0 rfl) dJx4a65c_remove_915e3_16 (fun o_6 ho_6 heo_6 => ?_)
    rcases ho_6 with rfl | ⟨el_7, rfl, hg_el_7⟩
    · simp only [va_rf]
      exact absurd heo_6.symm (hl8_1 _ (by omega))
    · simp only [va_rf]
      refine lv_astore_n (lv' := [(3, .ref el_7), (2, .ref lx_1), (0, .ref r0), (1, .int a1)]) hx hb dJx4a65c_remove_915e3_17 rfl hl (by decide) rfl (fun ls hl => ?_)
      refine lv_aload_n hx hb dJx4a65c_remove_915e3_18 rfl (lv_at hl 2 rfl) ?_
      refine lv_aload_n hx hb dJx4a65c_remove_915e3_19 rfl (lv_at hl 1 rfl) ?_
      refine lv_iload_n hx hb dJx4a65c_remove_915e3_20 rfl (lv_at hl 3 rfl) ?_
      refine va_callv (A0 := jA base) (H0 := s.heap) (va_runV (As := [.ref lx_1, .int a1]) (rest := []) ⟨hx, hb, hml, hown, hts⟩ (uJx4a65c_fastRemove_b59b0L3 l dC dI ca base B hB hAp hB1 hB11 hB223 G0 H_4 r0 lx_1 a1 lm_1 lz) (cwV 2 hts (jgV (jWr_42 _ (List.mem_of_getElem? (i := 11) rfl)) (jWr_42 _ (List.mem_of_getElem? (i := 12) rfl)) (jWr_42 _ (List.mem_of_getElem? (i := 13) rfl)) (jWr_2 _ (List.mem_of_getElem? (i := 13) rfl)) (jWr_42 _ (List.mem_of_getElem? (i := 14) rfl))) rfl rfl rfl (by decide +kernel) ⟨by rw [← hR]; exact Nat.le_of_ble_eq_true rfl, by rw [← hR]; exact Nat.le_of_ble_eq_true rfl⟩) ⟨fun a U g mk q => by obtain ⟨q0, q1, q2, qK, q10, q11, q12, q13, q14, q15⟩ := q; exact ⟨q0, q1, q2, jG.calling g mk a qK, (jK7.calling g mk a q10), q11, q12, q13, q14, q15⟩, hh_4.recv (C := RJx4a65c) (T := TJx4a65c) (N := 3) hB1 rfl (by decide) hg_r0 hK, fun U hU hW => ⟨rfl, hU, hh_4.2.1, hG.step hW hU hh_4.1, (hK7.step hW hU hh_4.1), hg_r0, hg_lx_1, (hh_4.2.2.1.sub (L1 := [(r0, 1, 1, .ref lx_1), (r0, 1, 2, .int lz)]) [0, 1] rfl), (hh_4.2.2.2.2.2.2.2.2.sub (L1 := [(jFl, jLs dC dI ca G0 3 none)]) [1] rfl), by first | omega | (refine ⟨?_, ?_⟩ <;> (first | omega | rfl | assumption | decide | exact Or.inl rfl | exact Or.inr rfl | (simp only; omega)))⟩⟩ rfl rfl hl.1 rfl (lv_room (Nat.le_of_ble_eq_true rfl)) dJx4a65c_remove_915e3_21 ⟨Nat.zero_le _, Nat.zero_le _⟩) hh_4.1 (fun q _ h => h) (fun q h => h) (fun u_8 t_8 H_8 locs_8 ht_8 hvm_8 hr_9 hb_8 hz_8 hk_8 hS_8 => ?_)
      obtain ⟨qz_8, rfl⟩ : ∃ z, z = u_8 := ⟨_, rfl⟩
      rw [ht_8] at hb_8
      obtain ⟨hb_8, hbE_8⟩ := hb_8
      obtain ⟨hb_81, hb_82, hb_83, hb_84, hb_85⟩ := hb_8
      have hh_8 : jSt (dC, dI) B base G0 G0 EJx4a65c_remove_915e3L3 s.heap 0 0 [(r0, 1, 2, .int qz_8), (r0, 1, 1, .ref lx_1)] [] [(jFl, jLs dC dI ca G0 3 none)] H_8 locs_8 := (((hh_4.call hb_81 hb_82 hb_83 hb_84 hS_8 rfl (L1 := [(r0, 1, 1, .ref lx_1)]) [0] rfl rfl (M1 := []) [] rfl rfl (I1 := []) [] rfl rfl).more hb_85)).addIs hbE_8
      clear hh_4 ht_8 hvm_8 hz_8 hk_8 hS_8 hb_81 hb_82 hb_83 hb_84 hb_85
      clear  hbE_8
      refine lv_aload_n hx hb dJx4a65c_remove_915e3_24 rfl (lv_at hl 0 rfl) ?_
      rw [hQ]
      exact W.aret (v := .ref el_7) hx hb hr (Or.inl ⟨_, rfl⟩) (Or.inr ⟨_, rfl⟩) (fun t ht hW => ⟨⟨.ref el_7, qz_8, rfl, ⟨⟨_, rfl, hg_el_7⟩, by first | omega | rfl | assumption | decide | exact Or.inl rfl | exact Or.inr rfl | (simp only; omega)⟩, ⟨hh_8.rt (M1 := [(r0, 1, 2, .int qz_8)]) [0] rfl ht, by rw [ht]; exact hh_8.2.2.2.2.2.2.2.2.sub (L1 := [(jFl, jLs dC dI ca G0 3 none)]) [0] rfl⟩⟩, by rw [ht]; try exact hh_8.1.1, fun q h9 hq => by rw [ht]; try exact hh_8.1.2.1 q h9 hq⟩) hh_8.1.2.2 dJx4a65c_remove_915e3_25
