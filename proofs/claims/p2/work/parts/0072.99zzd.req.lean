section
theorem dX8_init_0 : decode cX8_init 0 = .ok (.aload_n 0, 1) := by decide +kernel
theorem dX8_init_1 : decode cX8_init 1 = .ok (.invokespecial 3, 3) := by decide +kernel
theorem dX8_init_4 : decode cX8_init 4 = .ok (.aload_n 0, 1) := by decide +kernel
theorem dX8_init_5 : decode cX8_init 5 = .ok (.iconst (-1), 1) := by decide +kernel
theorem dX8_init_6 : decode cX8_init 6 = .ok (.putfield 9, 3) := by decide +kernel
theorem dX8_init_9 : decode cX8_init 9 = .ok (.aload_n 1, 1) := by decide +kernel
theorem dX8_init_10 : decode cX8_init 10 = .ok (.iload_n 2, 1) := by decide +kernel
theorem dX8_init_11 : decode cX8_init 11 = .ok (.invokevirtual 15, 3) := by decide +kernel
theorem dX8_init_14 : decode cX8_init 14 = .ok (.iconst 4, 1) := by decide +kernel
theorem dX8_init_15 : decode cX8_init 15 = .ok (.if_icmp .ne 7, 3) := by decide +kernel
theorem dX8_init_18 : decode cX8_init 18 = .ok (.iconst 1, 1) := by decide +kernel
theorem dX8_init_19 : decode cX8_init 19 = .ok (.goto 4, 3) := by decide +kernel
theorem dX8_init_22 : decode cX8_init 22 = .ok (.iconst 0, 1) := by decide +kernel
theorem dX8_init_23 : decode cX8_init 23 = .ok (.istore_n 3, 1) := by decide +kernel
theorem dX8_init_24 : decode cX8_init 24 = .ok (.aload_n 1, 1) := by decide +kernel
theorem dX8_init_25 : decode cX8_init 25 = .ok (.iload_n 2, 1) := by decide +kernel
theorem dX8_init_26 : decode cX8_init 26 = .ok (.invokevirtual 15, 3) := by decide +kernel
theorem dX8_init_29 : decode cX8_init 29 = .ok (.iconst 3, 1) := by decide +kernel
theorem dX8_init_30 : decode cX8_init 30 = .ok (.if_icmp .ne 17, 3) := by decide +kernel
theorem dX8_init_33 : decode cX8_init 33 = .ok (.aload_n 1, 1) := by decide +kernel
theorem dX8_init_34 : decode cX8_init 34 = .ok (.iload_n 2, 1) := by decide +kernel
theorem dX8_init_35 : decode cX8_init 35 = .ok (.invokevirtual 21, 3) := by decide +kernel
theorem dX8_init_38 : decode cX8_init 38 = .ok (.bipush 20, 2) := by decide +kernel
theorem dX8_init_40 : decode cX8_init 40 = .ok (.if_icmp .gt 7, 3) := by decide +kernel
theorem dX8_init_43 : decode cX8_init 43 = .ok (.iconst 1, 1) := by decide +kernel
theorem dX8_init_44 : decode cX8_init 44 = .ok (.goto 4, 3) := by decide +kernel
theorem dX8_init_47 : decode cX8_init 47 = .ok (.iconst 0, 1) := by decide +kernel
theorem dX8_init_48 : decode cX8_init 48 = .ok (.istore 4, 2) := by decide +kernel
theorem dX8_init_50 : decode cX8_init 50 = .ok (.aload_n 0, 1) := by decide +kernel
theorem dX8_init_51 : decode cX8_init 51 = .ok (.iload_n 3, 1) := by decide +kernel
theorem dX8_init_52 : decode cX8_init 52 = .ok (.ifCond .ne 8, 3) := by decide +kernel
theorem dX8_init_55 : decode cX8_init 55 = .ok (.iload 4, 2) := by decide +kernel
theorem dX8_init_57 : decode cX8_init 57 = .ok (.ifCond .eq 15, 3) := by decide +kernel
theorem dX8_init_60 : decode cX8_init 60 = .ok (.new 24, 3) := by decide +kernel
theorem dX8_init_63 : decode cX8_init 63 = .ok (.dup, 1) := by decide +kernel
theorem dX8_init_64 : decode cX8_init 64 = .ok (.bipush 16, 2) := by decide +kernel
theorem dX8_init_66 : decode cX8_init 66 = .ok (.invokespecial 26, 3) := by decide +kernel
theorem dX8_init_69 : decode cX8_init 69 = .ok (.goto 4, 3) := by decide +kernel
theorem dX8_init_72 : decode cX8_init 72 = .ok (.aconst_null, 1) := by decide +kernel
theorem dX8_init_73 : decode cX8_init 73 = .ok (.putfield 29, 3) := by decide +kernel
theorem dX8_init_76 : decode cX8_init 76 = .ok (.iload_n 3, 1) := by decide +kernel
theorem dX8_init_77 : decode cX8_init 77 = .ok (.ifCond .eq 18, 3) := by decide +kernel
theorem dX8_init_80 : decode cX8_init 80 = .ok (.aload_n 0, 1) := by decide +kernel
theorem dX8_init_81 : decode cX8_init 81 = .ok (.getfield 29, 3) := by decide +kernel
theorem dX8_init_84 : decode cX8_init 84 = .ok (.aload_n 1, 1) := by decide +kernel
theorem dX8_init_85 : decode cX8_init 85 = .ok (.iload_n 2, 1) := by decide +kernel
theorem dX8_init_86 : decode cX8_init 86 = .ok (.invokevirtual 33, 3) := by decide +kernel
theorem dX8_init_89 : decode cX8_init 89 = .ok (.invokevirtual 36, 3) := by decide +kernel
theorem dX8_init_92 : decode cX8_init 92 = .ok (.goto 28, 3) := by decide +kernel
theorem dX8_init_95 : decode cX8_init 95 = .ok (.iload 4, 2) := by decide +kernel
theorem dX8_init_97 : decode cX8_init 97 = .ok (.ifCond .eq 23, 3) := by decide +kernel
theorem dX8_init_100 : decode cX8_init 100 = .ok (.aload_n 1, 1) := by decide +kernel
theorem dX8_init_101 : decode cX8_init 101 = .ok (.iload_n 2, 1) := by decide +kernel
theorem dX8_init_102 : decode cX8_init 102 = .ok (.invokevirtual 39, 3) := by decide +kernel
theorem dX8_init_105 : decode cX8_init 105 = .ok (.astore 5, 2) := by decide +kernel
theorem dX8_init_107 : decode cX8_init 107 = .ok (.aload_n 0, 1) := by decide +kernel
theorem dX8_init_108 : decode cX8_init 108 = .ok (.getfield 29, 3) := by decide +kernel
theorem dX8_init_111 : decode cX8_init 111 = .ok (.aload 5, 2) := by decide +kernel
theorem dX8_init_113 : decode cX8_init 113 = .ok (.iconst 0, 1) := by decide +kernel
theorem dX8_init_114 : decode cX8_init 114 = .ok (.aload 5, 2) := by decide +kernel
theorem dX8_init_116 : decode cX8_init 116 = .ok (.arraylength, 1) := by decide +kernel
theorem dX8_init_117 : decode cX8_init 117 = .ok (.invokevirtual 43, 3) := by decide +kernel
theorem dX8_init_120 : decode cX8_init 120 = .ok (.return_, 1) := by decide +kernel
def EX8_init : List (Nat × Nat) := [(2, 0), (2, 1), (101, 0), (196, 0)]
set_option maxHeartbeats 4000000 in
set_option maxRecDepth 20000 in
theorem uX8_init (l : Launch) (dC : Nat → ClassId) (dI : Nat → Nat → Nat) (ca : Nat → ClassId) (base : Nat) (B : jF) (hB : jBok B) (hAp : jAp (dC, dI)) (hB2 : ∀ n G a H, B 2 n G a H ↔ jOb (dC, dI) 2 2 (F2 n G) a H) (hB6 : ∀ n G a H, B 6 n G a H ↔ jOb (dC, dI) 6 12 (F6 n G) a H) (hB10 : ∀ n G a H, B 10 n G a H ↔ jOb (dC, dI) 10 5 (F10 n G) a H) (hB101 : ∀ n G a H, B 101 n G a H ↔ jAr (dC, dI) (ca 1) (fun j z => True) n a H) (hB140 : ∀ n G a H, B 140 n G a H ↔ jAr (dC, dI) (ca 1) (fun j z => True) n a H) (hB141 : ∀ n G a H, B 141 n G a H ↔ jAr (dC, dI) (ca 1) (fun j z => True) n a H) (hB142 : ∀ n G a H, B 142 n G a H ↔ jAr (dC, dI) (ca 1) (fun j z => True) n a H) (hB146 : ∀ n G a H, B 146 n G a H ↔ jAr (dC, dI) (ca 1) (fun j z => True) n a H) (hB196 : ∀ n G a H, B 196 n G a H ↔ jAr (dC, dI) (ca 0) (fun j z => jBf j z) n a H) (G0 : jT) (H0 : Heap) (r0 : Nat) (r1 : Nat) (a2 : Int32) (pv : Int32) (wk : Nat) (wi : Nat) (wz : Nat) (fk : Nat → Int32) (fi : Nat → Int32) (fz : Nat → Int32) (LC LS : Nat) : Met l yX8_init (jw yX8_init cX8_init 6 none) ({ frames := 6, cells := LC - H0.size, slots := LS - jTot H0, locals := 189 }) (va_Pc [.ref r0, .ref r1, .int a2] (fun U => U.heap = H0 ∧ jX B base G0 [] H0 ∧ jG dC dI ca base U ∧ G0 r1 = some (6, 0) ∧ va_at (dC, dI) vwCl (r0, .inr (10, [.null, .null, .int 0, .int 0, .int 0])) H0 ∧ (∀ t, G0 r0 ≠ some t) ∧ base ≤ r0 ∧ G0 wk = some (140, 1502) ∧ G0 wi = some (141, 1502) ∧ G0 wz = some (142, 1502) ∧ jP (dC, dI) G0 H0 [(r1, 6, 7, .int pv), (r1, 6, 0, .ref wk), (r1, 6, 1, .ref wi), (r1, 6, 2, .ref wz)] ∧ jMc (dC, dI) G0 H0 [(wk, 140, 1502, ca 1, fk), (wi, 141, 1502, ca 1, fi), (wz, 142, 1502, ca 1, fz)] ∧ jIs (dC, dI) G0 H0 [(jFy, jYb dC dI G0)] ∧ H0.size + 12 ≤ LC ∧ jTot H0 + 3300 ≤ LS ∧ 0 ≤ pv.toInt ∧ pv.toInt ≤ 1502 ∧ jJq fk fi fz pv.toInt)) (va_Qv (S := jT) (fun u => True) (fun u t => jRa (dC, dI) B base G0 u EX8_init H0 (10) (262) [] t.heap ∧ (jNk [0, 1, 3, 4, 5, 6, 7, 8, 9, 11, 12, 13, 14, 15, 16]) G0 u ∧ jOl (dC, dI) G0 2 [] H0 t.heap ∧ u r0 = some (10, 0) ∧ jIs (dC, dI) u t.heap [(jFy, jYb dC dI u)]) (jA base)) (LC - H0.size) (LS - jTot H0) (jA base) := by
  refine Met.ofW (cc := cX8_init) (maxL := 6) (ret := none) (by decide) rfl ?_
  intro p e s m args below meth c s₁ Bd hml hv
  obtain ⟨rfl, hH0, hX, hG, hg_r1, hraw0, hnr0, hbr0, hg_wk, hg_wi, hg_wz, hP0, hM0, hI0, hLC0, hLS0, hp0, hp1, hp2⟩ := hv
  have hK := hG.1
  have hx := Bd.exec
  have hb := Bd.bytes
  have hr := Bd.returns
  have hts := atoms_spec (ws := (jw yX8_init cX8_init 6 none)) Bd.pre
  have htw : ∀ w ∈ jWl, w.before _ s = true := fun w h => hts w (List.mem_cons_of_mem _ h)
  have hown : s.vm.findClass RX8 = some m.cls := findClass_of_methodNamed Bd.named
  have hlocks := Bd.notSynchronized
  obtain ⟨Q, hQ⟩ : ∃ Q, Q = MQ below (va_Qv (S := jT) (fun u => True) (fun u t => jRa (dC, dI) B base G0 u EX8_init H0 (10) (262) [] t.heap ∧ (jNk [0, 1, 3, 4, 5, 6, 7, 8, 9, 11, 12, 13, 14, 15, 16]) G0 u ∧ jOl (dC, dI) G0 2 [] H0 t.heap ∧ u r0 = some (10, 0) ∧ jIs (dC, dI) u t.heap [(jFy, jYb dC dI u)]) (jA base)) ([.ref r0, .ref r1, .int a2] : List Value).toArray s (LC - H0.size) (LS - jTot H0) (jA base) := ⟨_, rfl⟩
  rw [← hQ]
  have hl := lv_entry ([.ref r0, .ref r1, .int a2]) (n := 6) (Nat.le_of_ble_eq_true rfl)
  rw [lg_entry_eq]
  generalize (lg_sl ([.ref r0, .ref r1, .int a2]) ++ List.replicate (6 - (lg_sl ([.ref r0, .ref r1, .int a2])).length) Slot.unset).toArray = ls at hl ⊢
  have hl : lv_has ls 6 [(0, .ref r0), (1, .ref r1), (2, .int a2)] := hl
  generalize hR : (headSpec (jw yX8_init cX8_init 6 none) ({ frames := 6, cells := LC - H0.size, slots := LS - jTot H0, locals := 189 })).room = R
  subst hH0
  have hh : jSt (dC, dI) B base G0 G0 EX8_init s.heap 0 0 [(r1, 6, 7, .int pv), (r1, 6, 0, .ref wk), (r1, 6, 1, .ref wi), (r1, 6, 2, .ref wz)] [(wk, 140, 1502, ca 1, fk), (wi, 141, 1502, ca 1, fi), (wz, 142, 1502, ca 1, fz)] [(jFy, jYb dC dI G0)] s.heap [] := jSt.start hX hP0 hM0 hI0
  clear hX hP0
  have hkm1 : ((-1) : Int32).toInt = (-1) := by decide
  have hk0 : (0 : Int32).toInt = 0 := by decide
  have hk1 : (1 : Int32).toInt = 1 := by decide
  have hk3 : (3 : Int32).toInt = 3 := by decide
  have hk4 : (4 : Int32).toInt = 4 := by decide
  have hk16 : (16 : Int32).toInt = 16 := by decide
  have hk20 : (20 : Int32).toInt = 20 := by decide
  have hly_10_0 := htw (u_lay RX8 TX8 0) (jWc_wsX80 _ (u_in_lay (by decide)))
  have hly_10_4 := htw (u_lay RX8 TX8 4) (jWc_wsX80 _ (u_in_lay (by decide)))
  have hlk_9 := (htw (.fieldLink RX8 9 "ProofServer$Request" "name" "I") (jWr_24 _ (List.mem_of_getElem? (i := 2) rfl)))
  have hlk_29 := (htw (.fieldLink RX8 29 "ProofServer$Request" "id" "LProofServer$Bytes;") (jWr_24 _ (List.mem_of_getElem? (i := 4) rfl)))
  have hrg_a2 := jb_rng a2
  have hbs : base ≤ s.heap.size := Nat.le_of_lt (Nat.lt_of_le_of_lt hbr0 hraw0.lt)
  have hRc : R.cells = LC - s.heap.size := by rw [← hR]; rfl
  have hRs : R.slots = LS - jTot s.heap := by rw [← hR]; rfl
  have hnew0 : ∀ a, s.heap.size ≤ a → ∀ t, G0 a ≠ some t := fun a ha t ht => absurd (hh.ab ht).2 (Nat.not_lt.mpr ha)
  have hh_1 := hh.addI (jOl.ie (dC := dC) (dI := dI) (G0 := G0) (k := 2) (rs := []) (H0 := s.heap) (F := [(2, 0), (2, 1)]) (C := RX0) (T := TX0) (N := 2) rfl (by decide) hh.2.2.2.2.1 (jOl.rf))
  clear hh
  have hin2 : meth.name = "<init>" := (name_of_methodNamed Bd.named Bd.method).1
  refine lv_aload_n hx hb dX8_init_0 rfl (lv_at hl 0 rfl) ?_
  refine W.objInit hx hb hown (htw (.methodLink RX8 3 objectInit) (jWr_24 _ (List.mem_of_getElem? (i := 1) rfl))) (htw (.instanceMethod objectInit) (jWr_1 _ (List.mem_of_getElem? (i := 10) rfl))) (htw (.code objectInit ⟨#[0xb1]⟩ 1 none) (jWr_1 _ (List.mem_of_getElem? (i := 11) rfl))) rfl (by rw [hml]; exact hl.1) rfl dX8_init_1 (by rw [← hR]; exact Nat.le_of_ble_eq_true rfl) (by rw [← hR]; exact Nat.le_of_ble_eq_true rfl) ?_
  refine W.eq (g2 := F0 m 4 ls []) rfl ?_
  refine lv_aload_n hx hb dX8_init_4 rfl (lv_at hl 0 rfl) ?_
  refine lv_iconst (v := (-1)) hx hb dX8_init_5 (by decide) ?_
  refine j7_putR hx hb hown hK hh_1 hB hAp hraw0 hnr0 hbr0 (C := RX8) (T := TX8) (N := 5) rfl (i := 4) (by decide) (Nat.le_of_ble_eq_true rfl) hly_10_4 rfl hlk_9 (ty := .int) (v := .int (-1)) (by decide +kernel) rfl rfl dX8_init_6 (fun H_2 locs_2 hraw_2 hr_2 hh_2 => ?_)
  have hraw_2 : va_at (dC, dI) vwCl (r0, .inr (10, [.null, .null, .int 0, .int 0, .int (-1)])) H_2 := hraw_2
  clear hh_1
  refine lv_aload_n hx hb dX8_init_9 rfl (lv_at hl 1 rfl) ?_
  refine lv_iload_n hx hb dX8_init_10 rfl (lv_at hl 2 rfl) ?_
  have hsz_3 := hh_2.2.2.2.2.2.1
  have htt_3 := hh_2.2.2.2.2.2.2.1
  refine W.room (fun hrc_3 hrs_3 => ?_)
  refine va_calli (A0 := jA base) (H0 := s.heap) (va_runV (As := [.int a2]) (rest := []) ⟨hx, hb, hml, hown, hts⟩ (uX4_kindOfW l dC dI ca base B hB hAp hB6 hB140 G0 H_2 r1 a2 pv wk wi wz fk fi fz) (cwV 1 hts (jgV (jWr_24 _ (List.mem_of_getElem? (i := 5) rfl)) (jWr_23 _ (List.mem_of_getElem? (i := 15) rfl)) (jWr_23 _ (List.mem_of_getElem? (i := 16) rfl)) (jWr_1 _ (List.mem_of_getElem? (i := 22) rfl)) (jWr_23 _ (List.mem_of_getElem? (i := 17) rfl))) rfl rfl rfl (by decide +kernel) ⟨by rw [← hR]; exact Nat.le_of_ble_eq_true rfl, by rw [← hR]; exact Nat.le_of_ble_eq_true rfl⟩) ⟨fun a U g mk q => by obtain ⟨q0, q1, q2, qK, q10, q11, q12, q13, q14, q15, q16⟩ := q; exact ⟨q0, q1, q2, jG.calling g mk a qK, q10, q11, q12, q13, q14, q15, q16⟩, hh_2.recv (C := RX4) (T := TX4) (N := 12) hB6 rfl (by decide) hg_r1 hK, fun U hU hW => ⟨rfl, hU, hh_2.2.1, hG.step hW hU hh_2.1, hg_r1, hg_wk, hg_wi, hg_wz, (hh_2.2.2.1.sub (L1 := [(r1, 6, 7, .int pv), (r1, 6, 0, .ref wk), (r1, 6, 1, .ref wi), (r1, 6, 2, .ref wz)]) [0, 1, 2, 3] rfl), (hh_2.2.2.2.2.2.2.2.1.sub (L1 := [(wk, 140, 1502, ca 1, fk), (wi, 141, 1502, ca 1, fi), (wz, 142, 1502, ca 1, fz)]) [0, 1, 2] rfl), by first | omega | (refine ⟨?_, ?_⟩ <;> (first | omega | rfl | assumption | decide | exact Or.inl rfl | exact Or.inr rfl | (simp only; omega)))⟩⟩ rfl rfl hl.1 rfl (lv_room (Nat.le_of_ble_eq_true rfl)) dX8_init_11 ⟨by rw [hRc]; show _ + 0 ≤ _; omega, by rw [hRs]; show _ + 0 ≤ _; omega⟩) hh_2.1 (fun q _ h => h) (fun q h => h) (fun r_4 u_3 t_3 H_3 locs_3 ht_3 hvm_3 hr_4 hb_3 hz_3 hk_3 hS_3 => ?_)
  rw [ht_3] at hb_3
  obtain ⟨hb_3, hbF_3⟩ := hb_3
  obtain ⟨hb_31, hb_32, hb_33, hb_34, hb_35⟩ := hb_3
  have hh_3 : jSt (dC, dI) B base G0 G0 EX8_init s.heap 0 0 [(r1, 6, 7, .int pv), (r1, 6, 0, .ref wk), (r1, 6, 1, .ref wi), (r1, 6, 2, .ref wz)] [(wk, 140, 1502, ca 1, fk), (wi, 141, 1502, ca 1, fi), (wz, 142, 1502, ca 1, fz)] [([(2, 0), (2, 1)], jOl (dC, dI) G0 2 [] s.heap), (jFy, jYb dC dI G0)] H_3 locs_3 := ((hh_2.call hb_31 hb_32 hb_33 hb_34 hS_3 rfl (L1 := [(r1, 6, 7, .int pv), (r1, 6, 0, .ref wk), (r1, 6, 1, .ref wi), (r1, 6, 2, .ref wz)]) [0, 1, 2, 3] rfl rfl (M1 := [(wk, 140, 1502, ca 1, fk), (wi, 141, 1502, ca 1, fi), (wz, 142, 1502, ca 1, fz)]) [0, 1, 2] rfl rfl (I1 := [([(2, 0), (2, 1)], jOl (dC, dI) G0 2 [] s.heap), (jFy, jYb dC dI G0)]) [0, 1] rfl rfl).more hb_35)
  clear hh_2 ht_3 hvm_3 hz_3 hk_3 hS_3 hb_31 hb_32 hb_33 hb_34 hb_35
  have hraw_5 := hraw_2.kept (hbF_3 _ (by simp))
  refine lv_iconst (v := 4) hx hb dX8_init_14 (by decide) ?_
  refine lv_icmp_ne (tgt := 22) hx hb dX8_init_15 (by decide) (fun c_6 => ?_) (fun c_6 => ?_)
  · skip
    have c_6' : r_4.toInt ≠ 4 := jb_ne (rfl) ((by decide)) c_6
    try clear hr_4
    refine lv_iconst (v := 0) hx hb dX8_init_22 (by decide) ?_
    refine lv_istore_n (lv' := [(3, .int 0), (0, .ref r0), (1, .ref r1), (2, .int a2)]) hx hb dX8_init_23 rfl hl (by decide) rfl (fun ls hl => ?_)
    refine lv_aload_n hx hb dX8_init_24 rfl (lv_at hl 2 rfl) ?_
    refine lv_iload_n hx hb dX8_init_25 rfl (lv_at hl 3 rfl) ?_
    have hsz_7 := hh_3.2.2.2.2.2.1
    have htt_7 := hh_3.2.2.2.2.2.2.1
    refine W.room (fun hrc_7 hrs_7 => ?_)
    refine va_calli (A0 := jA base) (H0 := s.heap) (va_runV (As := [.int a2]) (rest := []) ⟨hx, hb, hml, hown, hts⟩ (uX4_kindOfW l dC dI ca base B hB hAp hB6 hB140 G0 H_3 r1 a2 pv wk wi wz fk fi fz) (cwV 1 hts (jgV (jWr_24 _ (List.mem_of_getElem? (i := 5) rfl)) (jWr_23 _ (List.mem_of_getElem? (i := 15) rfl)) (jWr_23 _ (List.mem_of_getElem? (i := 16) rfl)) (jWr_1 _ (List.mem_of_getElem? (i := 22) rfl)) (jWr_23 _ (List.mem_of_getElem? (i := 17) rfl))) rfl rfl rfl (by decide +kernel) ⟨by rw [← hR]; exact Nat.le_of_ble_eq_true rfl, by rw [← hR]; exact Nat.le_of_ble_eq_true rfl⟩) ⟨fun a U g mk q => by obtain ⟨q0, q1, q2, qK, q10, q11, q12, q13, q14, q15, q16⟩ := q; exact ⟨q0, q1, q2, jG.calling g mk a qK, q10, q11, q12, q13, q14, q15, q16⟩, hh_3.recv (C := RX4) (T := TX4) (N := 12) hB6 rfl (by decide) hg_r1 hK, fun U hU hW => ⟨rfl, hU, hh_3.2.1, hG.step hW hU hh_3.1, hg_r1, hg_wk, hg_wi, hg_wz, (hh_3.2.2.1.sub (L1 := [(r1, 6, 7, .int pv), (r1, 6, 0, .ref wk), (r1, 6, 1, .ref wi), (r1, 6, 2, .ref wz)]) [0, 1, 2, 3] rfl), (hh_3.2.2.2.2.2.2.2.1.sub (L1 := [(wk, 140, 1502, ca 1, fk), (wi, 141, 1502, ca 1, fi), (wz, 142, 1502, ca 1, fz)]) [0, 1, 2] rfl), by first | omega | (refine ⟨?_, ?_⟩ <;> (first | omega | rfl | assumption | decide | exact Or.inl rfl | exact Or.inr rfl | (simp only; omega)))⟩⟩ rfl rfl hl.1 rfl (lv_room (Nat.le_of_ble_eq_true rfl)) dX8_init_26 ⟨by rw [hRc]; show _ + 0 ≤ _; omega, by rw [hRs]; show _ + 0 ≤ _; omega⟩) hh_3.1 (fun q _ h => h) (fun q h => h) (fun r_8 u_7 t_7 H_7 locs_7 ht_7 hvm_7 hr_8 hb_7 hz_7 hk_7 hS_7 => ?_)
    rw [ht_7] at hb_7
    obtain ⟨hb_7, hbF_7⟩ := hb_7
    obtain ⟨hb_71, hb_72, hb_73, hb_74, hb_75⟩ := hb_7
    have hh_7 : jSt (dC, dI) B base G0 G0 EX8_init s.heap 0 0 [(r1, 6, 7, .int pv), (r1, 6, 0, .ref wk), (r1, 6, 1, .ref wi), (r1, 6, 2, .ref wz)] [(wk, 140, 1502, ca 1, fk), (wi, 141, 1502, ca 1, fi), (wz, 142, 1502, ca 1, fz)] [([(2, 0), (2, 1)], jOl (dC, dI) G0 2 [] s.heap), (jFy, jYb dC dI G0)] H_7 locs_7 := ((hh_3.call hb_71 hb_72 hb_73 hb_74 hS_7 rfl (L1 := [(r1, 6, 7, .int pv), (r1, 6, 0, .ref wk), (r1, 6, 1, .ref wi), (r1, 6, 2, .ref wz)]) [0, 1, 2, 3] rfl rfl (M1 := [(wk, 140, 1502, ca 1, fk), (wi, 141, 1502, ca 1, fi), (wz, 142, 1502, ca 1, fz)]) [0, 1, 2] rfl rfl (I1 := [([(2, 0), (2, 1)], jOl (dC, dI) G0 2 [] s.heap), (jFy, jYb dC dI G0)]) [0, 1] rfl rfl).more hb_75)
    clear hh_3 ht_7 hvm_7 hz_7 hk_7 hS_7 hb_71 hb_72 hb_73 hb_74 hb_75
    have hraw_9 := hraw_5.kept (hbF_7 _ (by simp))
    refine lv_iconst (v := 3) hx hb dX8_init_29 (by decide) ?_
    refine lv_icmp_ne (tgt := 47) hx hb dX8_init_30 (by decide) (fun c_10 => ?_) (fun c_10 => ?_)
    · skip
      have c_10' : r_8.toInt ≠ 3 := jb_ne (rfl) ((by decide)) c_10
      try clear hr_8
      refine lv_iconst (v := 0) hx hb dX8_init_47 (by decide) ?_
      refine lv_istore (lv' := [(4, .int 0), (3, .int 0), (0, .ref r0), (1, .ref r1), (2, .int a2)]) hx hb dX8_init_48 hl (by decide) rfl (fun ls hl => ?_)
      refine lv_aload_n hx hb dX8_init_50 rfl (lv_at hl 2 rfl) ?_
      refine lv_iload_n hx hb dX8_init_51 rfl (lv_at hl 1 rfl) ?_
      refine lv_if_ne (tgt := 60) hx hb dX8_init_52 (by decide) (fun c_11 => ?_) (fun c_11 => ?_)
      · skip
        exact absurd c_11 (by decide)
      · skip
        refine lv_iload hx hb dX8_init_55 (lv_at hl 0 rfl) ?_
        refine lv_if_eq (tgt := 72) hx hb dX8_init_57 (by decide) (fun c_12 => ?_) (fun c_12 => ?_)
        · skip
          refine lv_null hx hb dX8_init_72 ?_
          refine j7_putRF hx hb hown hK hh_7 hB hAp hraw_9 hnr0 hbr0 (C := RX8) (T := TX8) (N := 5) rfl (i := 0) (by decide) (Nat.le_of_ble_eq_true rfl) hly_10_0 rfl hin2 rfl hlk_29 (ty := (.object "ProofServer$Bytes")) (v := .null) (by decide +kernel) rfl rfl dX8_init_73 (fun H_13 locs_13 hraw_13 hr_13 hh_13 => ?_)
          have hraw_13 : va_at (dC, dI) vwCl (r0, .inr (10, [.null, .null, .int 0, .int 0, .int (-1)])) H_13 := hraw_13
          clear hh_7
          have hle_14 : jLe G0 (va_up G0 r0 (some (10, 0))) := jLe.typ hnr0
          have hg_15 := hle_14 _ _ hg_r1
          have hg_16 := hle_14 _ _ hg_wk
          have hg_17 := hle_14 _ _ hg_wi
          have hg_18 := hle_14 _ _ hg_wz
          have hfa_14 : jRn (va_up G0 r0 (some (10, 0))) 2 0 (.null) ∧ jRn (va_up G0 r0 (some (10, 0))) 3 0 (.null) ∧ jIa (.int 0) ∧ jZb (.int 0) ∧ jIa (.int (-1)) ∧ True := ⟨Or.inl rfl, Or.inl rfl, ⟨_, rfl⟩, ⟨_, rfl, Or.inl rfl⟩, ⟨_, rfl⟩, trivial⟩
          have hh_14 := hh_13.typ (k := 10) (n := 0) hB hnr0 hbr0 hraw_13.lt (jOb.of (C := RX8) (T := TX8) (N := 5) (F := F10) hB10 rfl hraw_13 (show jFx (F10 0 (va_up G0 r0 (some (10, 0)))) [.null, .null, .int 0, .int 0, .int (-1)] from hfa_14))
          have hgn_14 : (va_up G0 r0 (some (10, 0))) r0 = some (10, 0) := jUp_self
          have hN_14 : (jNk [0, 1, 3, 4, 5, 6, 7, 8, 9, 11, 12, 13, 14, 15, 16]) G0 (va_up G0 r0 (some (10, 0))) := jNk.new (by decide)
          have hNn_14 : (jNk [0, 1, 3, 4, 5, 6, 7, 8, 9, 11, 12, 13, 14, 15, 16]) G0 (va_up G0 r0 (some (10, 0))) := (jNk.rf).tr hN_14
          have hh_19 := hh_14.more (P1 := [(r0, 10, 0, .null), (r0, 10, 1, .null), (r0, 10, 2, .int 0), (r0, 10, 3, .int 0), (r0, 10, 4, .int (-1))]) (jP.cons hgn_14 (jf.raw (C := RX8) (T := TX8) (N := 5) rfl hraw_13 (i := 0) (by decide)) (jP.cons hgn_14 (jf.raw (C := RX8) (T := TX8) (N := 5) rfl hraw_13 (i := 1) (by decide)) (jP.cons hgn_14 (jf.raw (C := RX8) (T := TX8) (N := 5) rfl hraw_13 (i := 2) (by decide)) (jP.cons hgn_14 (jf.raw (C := RX8) (T := TX8) (N := 5) rfl hraw_13 (i := 3) (by decide)) (jP.cons hgn_14 (jf.raw (C := RX8) (T := TX8) (N := 5) rfl hraw_13 (i := 4) (by decide)) jP.nil)))))
          have hM_14 : jNk [1, 2, 11] G0 (va_up G0 r0 (some (10, 0))) := jNk.new (by decide)
          have hd_20 := jYb.grow (hh_19.iv 1 rfl) hle_14 hM_14 (by decide)
          have hh_21 := hh_19.sub (L1 := [(r0, 10, 0, .null), (r0, 10, 1, .null), (r0, 10, 2, .int 0), (r0, 10, 3, .int 0), (r0, 10, 4, .int (-1)), (r1, 6, 7, .int pv), (r1, 6, 0, .ref wk), (r1, 6, 1, .ref wi), (r1, 6, 2, .ref wz)]) [0, 1, 2, 3, 4, 5, 6, 7, 8] rfl (M1 := [(wk, 140, 1502, ca 1, fk), (wi, 141, 1502, ca 1, fi), (wz, 142, 1502, ca 1, fz)]) [0, 1, 2] rfl (I1 := [([(2, 0), (2, 1)], jOl (dC, dI) G0 2 [] s.heap)]) [0] rfl
          clear hh_19
          have hh_22 := hh_21.addI (jYb.ie hd_20)
          clear hh_21
          refine lv_iload_n hx hb dX8_init_76 rfl (lv_at hl 1 rfl) ?_
          refine lv_if_eq (tgt := 95) hx hb dX8_init_77 (by decide) (fun c_23 => ?_) (fun c_23 => ?_)
          · skip
            refine lv_iload hx hb dX8_init_95 (lv_at hl 0 rfl) ?_
            refine lv_if_eq (tgt := 120) hx hb dX8_init_97 (by decide) (fun c_24 => ?_) (fun c_24 => ?_)
            · skip
              have hsz_25 := hh_22.2.2.2.2.2.1
              have htt_25 := hh_22.2.2.2.2.2.2.1
              refine W.room (fun hrc_25 hrs_25 => ?_)
              refine W.widen (k := LC - s.heap.size) (n := LS - jTot s.heap) (by omega) (by omega) ?_
              rw [hQ]
              exact W.vret hx hb hr (fun t ht hW => ⟨⟨(va_up G0 r0 (some (10, 0))), rfl, trivial, ⟨hh_22.ra (by first | omega | (simp only; omega)) (by first | omega | (simp only; omega)) (M1 := []) [] rfl ht, hNn_14, by rw [ht]; exact hh_22.iv 1 rfl, hgn_14, by rw [ht]; exact hh_22.2.2.2.2.2.2.2.2.sub (L1 := [(jFy, jYb dC dI (va_up G0 r0 (some (10, 0))))]) [0] rfl⟩⟩, by rw [ht]; try exact hh_22.1.1, fun q h9 hq => by rw [ht]; try exact hh_22.1.2.1 q h9 hq⟩) hh_22.1.2.2 dX8_init_120
            · skip
              exact absurd c_24 (by decide)
          · skip
            exact absurd c_23 (by decide)
        · skip
          exact absurd c_12 (by decide)
    · skip
      have c_10' : r_8.toInt = 3 := jb_ne_n (rfl) ((by decide)) c_10
      first | (have hr_8q := hr_8.resolve_left (by omega); clear hr_8) | (have hr_8q := hr_8.resolve_right (by omega); clear hr_8) | try clear hr_8
      refine lv_aload_n hx hb dX8_init_33 rfl (lv_at hl 2 rfl) ?_
      refine lv_iload_n hx hb dX8_init_34 rfl (lv_at hl 3 rfl) ?_
      have hsz_26 := hh_7.2.2.2.2.2.1
      have htt_26 := hh_7.2.2.2.2.2.2.1
      refine W.room (fun hrc_26 hrs_26 => ?_)
      refine va_calli (A0 := jA base) (H0 := s.heap) (va_runV (As := [.int a2]) (rest := []) ⟨hx, hb, hml, hown, hts⟩ (uX4_sizeOfW l dC dI ca base B hB hAp hB6 hB142 G0 H_7 r1 a2 pv wk wi wz fk fi fz) (cwV 1 hts (jgV (jWr_24 _ (List.mem_of_getElem? (i := 6) rfl)) (jWr_24 _ (List.mem_of_getElem? (i := 7) rfl)) (jWr_24 _ (List.mem_of_getElem? (i := 8) rfl)) (jWr_1 _ (List.mem_of_getElem? (i := 22) rfl)) (jWr_24 _ (List.mem_of_getElem? (i := 9) rfl))) rfl rfl rfl (by decide +kernel) ⟨by rw [← hR]; exact Nat.le_of_ble_eq_true rfl, by rw [← hR]; exact Nat.le_of_ble_eq_true rfl⟩) ⟨fun a U g mk q => by obtain ⟨q0, q1, q2, qK, q10, q11, q12, q13, q14, q15, q16⟩ := q; exact ⟨q0, q1, q2, jG.calling g mk a qK, q10, q11, q12, q13, q14, q15, q16⟩, hh_7.recv (C := RX4) (T := TX4) (N := 12) hB6 rfl (by decide) hg_r1 hK, fun U hU hW => ⟨rfl, hU, hh_7.2.1, hG.step hW hU hh_7.1, hg_r1, hg_wk, hg_wi, hg_wz, (hh_7.2.2.1.sub (L1 := [(r1, 6, 7, .int pv), (r1, 6, 0, .ref wk), (r1, 6, 1, .ref wi), (r1, 6, 2, .ref wz)]) [0, 1, 2, 3] rfl), (hh_7.2.2.2.2.2.2.2.1.sub (L1 := [(wk, 140, 1502, ca 1, fk), (wi, 141, 1502, ca 1, fi), (wz, 142, 1502, ca 1, fz)]) [0, 1, 2] rfl), by first | omega | (refine ⟨?_, ?_⟩ <;> (first | omega | rfl | assumption | decide | exact Or.inl rfl | exact Or.inr rfl | (simp only; omega)))⟩⟩ rfl rfl hl.1 rfl (lv_room (Nat.le_of_ble_eq_true rfl)) dX8_init_35 ⟨by rw [hRc]; show _ + 0 ≤ _; omega, by rw [hRs]; show _ + 0 ≤ _; omega⟩) hh_7.1 (fun q _ h => h) (fun q h => h) (fun r_27 u_26 t_26 H_26 locs_26 ht_26 hvm_26 hr_27 hb_26 hz_26 hk_26 hS_26 => ?_)
      rw [ht_26] at hb_26
      obtain ⟨hb_26, hbF_26⟩ := hb_26
      obtain ⟨hb_261, hb_262, hb_263, hb_264, hb_265⟩ := hb_26
      have hh_26 : jSt (dC, dI) B base G0 G0 EX8_init s.heap 0 0 [(r1, 6, 7, .int pv), (r1, 6, 0, .ref wk), (r1, 6, 1, .ref wi), (r1, 6, 2, .ref wz)] [(wk, 140, 1502, ca 1, fk), (wi, 141, 1502, ca 1, fi), (wz, 142, 1502, ca 1, fz)] [([(2, 0), (2, 1)], jOl (dC, dI) G0 2 [] s.heap), (jFy, jYb dC dI G0)] H_26 locs_26 := ((hh_7.call hb_261 hb_262 hb_263 hb_264 hS_26 rfl (L1 := [(r1, 6, 7, .int pv), (r1, 6, 0, .ref wk), (r1, 6, 1, .ref wi), (r1, 6, 2, .ref wz)]) [0, 1, 2, 3] rfl rfl (M1 := [(wk, 140, 1502, ca 1, fk), (wi, 141, 1502, ca 1, fi), (wz, 142, 1502, ca 1, fz)]) [0, 1, 2] rfl rfl (I1 := [([(2, 0), (2, 1)], jOl (dC, dI) G0 2 [] s.heap), (jFy, jYb dC dI G0)]) [0, 1] rfl rfl).more hb_265)
      clear hh_7 ht_26 hvm_26 hz_26 hk_26 hS_26 hb_261 hb_262 hb_263 hb_264 hb_265
      have hraw_28 := hraw_9.kept (hbF_26 _ (by simp))
      refine lv_bipush (v := 20) hx hb dX8_init_38 (by decide) ?_
      refine lv_icmp_gt (tgt := 47) hx hb dX8_init_40 (by decide) (fun c_29 => ?_) (fun c_29 => ?_)
      · skip
        have c_29' : r_27.toInt > 20 := jb_gt (rfl) ((by decide)) c_29
        first | (have hr_27q := hr_27.resolve_left (by omega); clear hr_27) | (have hr_27q := hr_27.resolve_right (by omega); clear hr_27) | try clear hr_27
        refine lv_iconst (v := 0) hx hb dX8_init_47 (by decide) ?_
        refine lv_istore (lv' := [(4, .int 0), (3, .int 0), (0, .ref r0), (1, .ref r1), (2, .int a2)]) hx hb dX8_init_48 hl (by decide) rfl (fun ls hl => ?_)
        refine lv_aload_n hx hb dX8_init_50 rfl (lv_at hl 2 rfl) ?_
        refine lv_iload_n hx hb dX8_init_51 rfl (lv_at hl 1 rfl) ?_
        refine lv_if_ne (tgt := 60) hx hb dX8_init_52 (by decide) (fun c_30 => ?_) (fun c_30 => ?_)
        · skip
          exact absurd c_30 (by decide)
        · skip
          refine lv_iload hx hb dX8_init_55 (lv_at hl 0 rfl) ?_
          refine lv_if_eq (tgt := 72) hx hb dX8_init_57 (by decide) (fun c_31 => ?_) (fun c_31 => ?_)
          · skip
            refine lv_null hx hb dX8_init_72 ?_
            refine j7_putRF hx hb hown hK hh_26 hB hAp hraw_28 hnr0 hbr0 (C := RX8) (T := TX8) (N := 5) rfl (i := 0) (by decide) (Nat.le_of_ble_eq_true rfl) hly_10_0 rfl hin2 rfl hlk_29 (ty := (.object "ProofServer$Bytes")) (v := .null) (by decide +kernel) rfl rfl dX8_init_73 (fun H_32 locs_32 hraw_32 hr_32 hh_32 => ?_)
            have hraw_32 : va_at (dC, dI) vwCl (r0, .inr (10, [.null, .null, .int 0, .int 0, .int (-1)])) H_32 := hraw_32
            clear hh_26
            have hle_33 : jLe G0 (va_up G0 r0 (some (10, 0))) := jLe.typ hnr0
            have hg_34 := hle_33 _ _ hg_r1
            have hg_35 := hle_33 _ _ hg_wk
            have hg_36 := hle_33 _ _ hg_wi
            have hg_37 := hle_33 _ _ hg_wz
            have hfa_33 : jRn (va_up G0 r0 (some (10, 0))) 2 0 (.null) ∧ jRn (va_up G0 r0 (some (10, 0))) 3 0 (.null) ∧ jIa (.int 0) ∧ jZb (.int 0) ∧ jIa (.int (-1)) ∧ True := ⟨Or.inl rfl, Or.inl rfl, ⟨_, rfl⟩, ⟨_, rfl, Or.inl rfl⟩, ⟨_, rfl⟩, trivial⟩
            have hh_33 := hh_32.typ (k := 10) (n := 0) hB hnr0 hbr0 hraw_32.lt (jOb.of (C := RX8) (T := TX8) (N := 5) (F := F10) hB10 rfl hraw_32 (show jFx (F10 0 (va_up G0 r0 (some (10, 0)))) [.null, .null, .int 0, .int 0, .int (-1)] from hfa_33))
            have hgn_33 : (va_up G0 r0 (some (10, 0))) r0 = some (10, 0) := jUp_self
            have hN_33 : (jNk [0, 1, 3, 4, 5, 6, 7, 8, 9, 11, 12, 13, 14, 15, 16]) G0 (va_up G0 r0 (some (10, 0))) := jNk.new (by decide)
            have hNn_33 : (jNk [0, 1, 3, 4, 5, 6, 7, 8, 9, 11, 12, 13, 14, 15, 16]) G0 (va_up G0 r0 (some (10, 0))) := (jNk.rf).tr hN_33
            have hh_38 := hh_33.more (P1 := [(r0, 10, 0, .null), (r0, 10, 1, .null), (r0, 10, 2, .int 0), (r0, 10, 3, .int 0), (r0, 10, 4, .int (-1))]) (jP.cons hgn_33 (jf.raw (C := RX8) (T := TX8) (N := 5) rfl hraw_32 (i := 0) (by decide)) (jP.cons hgn_33 (jf.raw (C := RX8) (T := TX8) (N := 5) rfl hraw_32 (i := 1) (by decide)) (jP.cons hgn_33 (jf.raw (C := RX8) (T := TX8) (N := 5) rfl hraw_32 (i := 2) (by decide)) (jP.cons hgn_33 (jf.raw (C := RX8) (T := TX8) (N := 5) rfl hraw_32 (i := 3) (by decide)) (jP.cons hgn_33 (jf.raw (C := RX8) (T := TX8) (N := 5) rfl hraw_32 (i := 4) (by decide)) jP.nil)))))
            have hM_33 : jNk [1, 2, 11] G0 (va_up G0 r0 (some (10, 0))) := jNk.new (by decide)
            have hd_39 := jYb.grow (hh_38.iv 1 rfl) hle_33 hM_33 (by decide)
            have hh_40 := hh_38.sub (L1 := [(r0, 10, 0, .null), (r0, 10, 1, .null), (r0, 10, 2, .int 0), (r0, 10, 3, .int 0), (r0, 10, 4, .int (-1)), (r1, 6, 7, .int pv), (r1, 6, 0, .ref wk), (r1, 6, 1, .ref wi), (r1, 6, 2, .ref wz)]) [0, 1, 2, 3, 4, 5, 6, 7, 8] rfl (M1 := [(wk, 140, 1502, ca 1, fk), (wi, 141, 1502, ca 1, fi), (wz, 142, 1502, ca 1, fz)]) [0, 1, 2] rfl (I1 := [([(2, 0), (2, 1)], jOl (dC, dI) G0 2 [] s.heap)]) [0] rfl
            clear hh_38
            have hh_41 := hh_40.addI (jYb.ie hd_39)
            clear hh_40
            refine lv_iload_n hx hb dX8_init_76 rfl (lv_at hl 1 rfl) ?_
            refine lv_if_eq (tgt := 95) hx hb dX8_init_77 (by decide) (fun c_42 => ?_) (fun c_42 => ?_)
            · skip
              refine lv_iload hx hb dX8_init_95 (lv_at hl 0 rfl) ?_
              refine lv_if_eq (tgt := 120) hx hb dX8_init_97 (by decide) (fun c_43 => ?_) (fun c_43 => ?_)
              · skip
                have hsz_44 := hh_41.2.2.2.2.2.1
                have htt_44 := hh_41.2.2.2.2.2.2.1
                refine W.room (fun hrc_44 hrs_44 => ?_)
                refine W.widen (k := LC - s.heap.size) (n := LS - jTot s.heap) (by omega) (by omega) ?_
                rw [hQ]
                exact W.vret hx hb hr (fun t ht hW => ⟨⟨(va_up G0 r0 (some (10, 0))), rfl, trivial, ⟨hh_41.ra (by first | omega | (simp only; omega)) (by first | omega | (simp only; omega)) (M1 := []) [] rfl ht, hNn_33, by rw [ht]; exact hh_41.iv 1 rfl, hgn_33, by rw [ht]; exact hh_41.2.2.2.2.2.2.2.2.sub (L1 := [(jFy, jYb dC dI (va_up G0 r0 (some (10, 0))))]) [0] rfl⟩⟩, by rw [ht]; try exact hh_41.1.1, fun q h9 hq => by rw [ht]; try exact hh_41.1.2.1 q h9 hq⟩) hh_41.1.2.2 dX8_init_120
              · skip
                exact absurd c_43 (by decide)
            · skip
              exact absurd c_42 (by decide)
          · skip
            exact absurd c_31 (by decide)
      · skip
        have c_29' : r_27.toInt ≤ 20 := jb_gt_n (rfl) ((by decide)) c_29
        first | (have hr_27q := hr_27.resolve_left (by omega); clear hr_27) | (have hr_27q := hr_27.resolve_right (by omega); clear hr_27) | try clear hr_27
        refine lv_iconst (v := 1) hx hb dX8_init_43 (by decide) ?_
        refine lv_goto (tgt := 48) hx hb dX8_init_44 (by decide) ?_
        refine lv_istore (lv' := [(4, .int 1), (3, .int 0), (0, .ref r0), (1, .ref r1), (2, .int a2)]) hx hb dX8_init_48 hl (by decide) rfl (fun ls hl => ?_)
        refine lv_aload_n hx hb dX8_init_50 rfl (lv_at hl 2 rfl) ?_
        refine lv_iload_n hx hb dX8_init_51 rfl (lv_at hl 1 rfl) ?_
        refine lv_if_ne (tgt := 60) hx hb dX8_init_52 (by decide) (fun c_45 => ?_) (fun c_45 => ?_)
        · skip
          exact absurd c_45 (by decide)
        · skip
          refine lv_iload hx hb dX8_init_55 (lv_at hl 0 rfl) ?_
          refine lv_if_eq (tgt := 72) hx hb dX8_init_57 (by decide) (fun c_46 => ?_) (fun c_46 => ?_)
          · skip
            exact absurd c_46 (by decide)
          · skip
            have hsz_47 := hh_26.2.2.2.2.2.1
            have htt_47 := hh_26.2.2.2.2.2.2.1
            refine j7_newo (k := 2) (C := RX0) (T := TX0) (N := 2) (fs := [.null, .int 0]) hx hb htw jWc_wsX00 (fun k => ([(.array .byte), .int] : List FieldType).getD k .int) (by decide +kernel) hown (htw (.classLink RX8 24 RX0) (jWr_24 _ (List.mem_of_getElem? (i := 3) rfl))) (htw (.instantiable RX0 2) (jWr_1 _ (List.mem_of_getElem? (i := 13) rfl))) (htw (.initialized RX0) (jWr_1 _ (List.mem_of_getElem? (i := 14) rfl))) hK rfl (fun j hj => by rcases (by omega : j = 0 ∨ j = 1) with rfl | rfl <;> rfl) hh_26 hB (by rw [hRc]; omega) (by rw [hRs]; omega) dX8_init_60 (fun H_47 hraw_47 hfr_47 hnr_47 hh_47 => ?_)
            have hlt_48 := hraw_28.lt
            have hke_47 : jKe G0 G0 H_26 H_47 := jKe.raw hfr_47
            have hbr_47 : base ≤ H_26.size := Nat.le_trans hbs hh_26.1.1
            have hsy_47 : s.heap.size ≤ H_26.size := hh_26.1.1
            clear hh_26
            have hraw_49n := hke_47.nr hraw_28.lt hnr0
            have hraw_49 := hraw_28.kept (hke_47.1 _ hraw_28.lt)
            have hne_50 : r0 ≠ H_26.size := Nat.ne_of_lt hlt_48
            refine lv_dup hx hb dX8_init_63 rfl ?_
            refine lv_bipush (v := 16) hx hb dX8_init_64 (by decide) ?_
            have hsz_51 := hh_47.2.2.2.2.2.1
            have htt_51 := hh_47.2.2.2.2.2.2.1
            refine W.room (fun hrc_51 hrs_51 => ?_)
            refine va_callv (A0 := jA base) (H0 := s.heap) (va_runI (As := [.int 16]) (rest := [.ref H_26.size, .ref r0]) ⟨hx, hb, hml, hown, hts⟩ (uX0_initY l dC dI ca base B hB hAp hB2 hB196 G0 H_47 H_26.size 16 0 LC LS) (cwI 1 hts (jgW (jWr_3 _ (List.mem_of_getElem? (i := 3) rfl))) rfl rfl rfl (htw (.initialized RX0) (jWr_1 _ (List.mem_of_getElem? (i := 14) rfl))) (htw (.methodLink RX8 26 yX0_init) (jWr_24 _ (List.mem_of_getElem? (i := 10) rfl))) (htw (.instanceMethod yX0_init) (jWr_3 _ (List.mem_of_getElem? (i := 2) rfl))) rfl (by decide +kernel) ⟨by rw [← hR]; exact Nat.le_of_ble_eq_true rfl, by rw [← hR]; exact Nat.le_of_ble_eq_true rfl⟩) ⟨fun a U g mk q => by obtain ⟨q0, q1, q2, qK, q10, q11, q12, q13, q14, q15⟩ := q; exact ⟨q0, q1, q2, jG.calling g mk a qK, q10, q11, q12, q13, q14, q15⟩, fun U hU hW => ⟨rfl, hU, hh_47.2.1, hG.step hW hU hh_47.1, hraw_47, hnr_47, hbr_47, jP.nil, (hh_47.2.2.2.2.2.2.2.2.sub (L1 := [(jFy, jYb dC dI G0)]) [1] rfl), (by omega), (by omega), ⟨(by first | omega | rfl | assumption | exact fun _ => jPw.z16), (by first | omega | rfl | assumption | exact fun _ => jPw.z16), (by first | omega | rfl | assumption | exact fun _ => jPw.z16), (by first | assumption | exact fun _ => jPw.z16 | omega)⟩⟩⟩ rfl rfl hl.1 rfl (lv_room (Nat.le_of_ble_eq_true rfl)) dX8_init_66 ⟨by rw [hRc]; omega, by rw [hRs]; omega⟩) hh_47.1 (fun q _ h => h) (fun q h => h) (fun u_51 t_51 H_51 locs_51 ht_51 hvm_51 hr_52 hb_51 hz_51 hk_51 hS_51 => ?_)
            obtain ⟨qc_51, qa_51, m_qa_51, G_51⟩ := u_51
            rw [ht_51] at hb_51
            simp only at hb_51
            obtain ⟨⟨hb_511, hb_512, hb_513, hb_514, hb_515, hb_516⟩, hgq_51_0, hN_51, hgc_51, hbX_51, hbE_51⟩ := hb_51
            have hN_51 : (jNk [0, 1, 3, 4, 5, 6, 7, 8, 9, 11, 12, 13, 14, 15, 16]) G0 G_51 := hN_51.sub (by decide)
            have hh_51 : jSt (dC, dI) B base G0 G_51 EX8_init s.heap ((0 + 1) + (1)) ((0 + 2) + ((16 : Int).toNat)) [(H_26.size, 2, 1, .int qc_51), (H_26.size, 2, 0, .ref qa_51), (r1, 6, 7, .int pv), (r1, 6, 0, .ref wk), (r1, 6, 1, .ref wi), (r1, 6, 2, .ref wz)] [(wk, 140, 1502, ca 1, fk), (wi, 141, 1502, ca 1, fi), (wz, 142, 1502, ca 1, fz)] [([(2, 0), (2, 1)], jOl (dC, dI) G0 2 [] s.heap)] H_51 locs_51 := (hh_47.callG hb_511 hb_512 hb_513 hb_514 hb_515 hS_51 rfl (L1 := [(r1, 6, 7, .int pv), (r1, 6, 0, .ref wk), (r1, 6, 1, .ref wi), (r1, 6, 2, .ref wz)]) [0, 1, 2, 3] rfl rfl (M1 := [(wk, 140, 1502, ca 1, fk), (wi, 141, 1502, ca 1, fi), (wz, 142, 1502, ca 1, fz)]) [0, 1, 2] rfl rfl (I1 := [([(2, 0), (2, 1)], jOl (dC, dI) G0 2 [] s.heap)]) [0] rfl rfl).more hb_516
            have hNn_51 : (jNk [0, 1, 3, 4, 5, 6, 7, 8, 9, 11, 12, 13, 14, 15, 16]) G0 G_51 := (jNk.rf).tr hN_51
            have hg_53 := hb_512 _ _ hg_r1
            have hg_54 := hb_512 _ _ hg_wk
            have hg_55 := hb_512 _ _ hg_wi
            have hg_56 := hb_512 _ _ hg_wz
            have hh_57 := hh_51.addIs hbE_51
            try simp only at hr_52
            obtain ⟨hr_52_0, hr_52_1⟩ := hr_52
            have hraw_58x := hbX_51.ke hraw_49.lt hne_50 hraw_49n
            have hraw_58 := hraw_49.kept hraw_58x.1
            refine lv_goto (tgt := 73) hx hb dX8_init_69 (by decide) ?_
            refine j7_putRF hx hb hown hK hh_57 hB hAp hraw_58 hraw_58x.2 hbr0 (C := RX8) (T := TX8) (N := 5) rfl (i := 0) (by decide) (Nat.le_of_ble_eq_true rfl) hly_10_0 rfl hin2 rfl hlk_29 (ty := (.object "ProofServer$Bytes")) (v := .ref H_26.size) (by decide +kernel) rfl rfl dX8_init_73 (fun H_59 locs_59 hraw_59 hr_59 hh_59 => ?_)
            have hraw_59 : va_at (dC, dI) vwCl (r0, .inr (10, [.ref H_26.size, .null, .int 0, .int 0, .int (-1)])) H_59 := hraw_59
            clear hh_57
            have hle_60 : jLe G_51 (va_up G_51 r0 (some (10, 0))) := jLe.typ hraw_58x.2
            have hg_61 := hle_60 _ _ hg_53
            have hg_62 := hle_60 _ _ hgq_51_0
            have hg_63 := hle_60 _ _ hg_54
            have hg_64 := hle_60 _ _ hg_55
            have hg_65 := hle_60 _ _ hg_56
            have hg_66 := (jLe.rf).tr hle_60 _ _ hgc_51
            have hfa_60 : jRn (va_up G_51 r0 (some (10, 0))) 2 0 (.ref H_26.size) ∧ jRn (va_up G_51 r0 (some (10, 0))) 3 0 (.null) ∧ jIa (.int 0) ∧ jZb (.int 0) ∧ jIa (.int (-1)) ∧ True := ⟨Or.inr ⟨_, rfl, hg_66⟩, Or.inl rfl, ⟨_, rfl⟩, ⟨_, rfl, Or.inl rfl⟩, ⟨_, rfl⟩, trivial⟩
            have hh_60 := hh_59.typ (k := 10) (n := 0) hB hraw_58x.2 hbr0 hraw_59.lt (jOb.of (C := RX8) (T := TX8) (N := 5) (F := F10) hB10 rfl hraw_59 (show jFx (F10 0 (va_up G_51 r0 (some (10, 0)))) [.ref H_26.size, .null, .int 0, .int 0, .int (-1)] from hfa_60))
            have hgn_60 : (va_up G_51 r0 (some (10, 0))) r0 = some (10, 0) := jUp_self
            have hN_60 : (jNk [0, 1, 3, 4, 5, 6, 7, 8, 9, 11, 12, 13, 14, 15, 16]) G_51 (va_up G_51 r0 (some (10, 0))) := jNk.new (by decide)
            have hNn_60 : (jNk [0, 1, 3, 4, 5, 6, 7, 8, 9, 11, 12, 13, 14, 15, 16]) G0 (va_up G_51 r0 (some (10, 0))) := (hNn_51).tr hN_60
            have hg_67 := (hle_60) _ _ hgc_51
            have hh_68 := hh_60.more (P1 := [(r0, 10, 0, .ref H_26.size), (r0, 10, 1, .null), (r0, 10, 2, .int 0), (r0, 10, 3, .int 0), (r0, 10, 4, .int (-1))]) (jP.cons hgn_60 (jf.raw (C := RX8) (T := TX8) (N := 5) rfl hraw_59 (i := 0) (by decide)) (jP.cons hgn_60 (jf.raw (C := RX8) (T := TX8) (N := 5) rfl hraw_59 (i := 1) (by decide)) (jP.cons hgn_60 (jf.raw (C := RX8) (T := TX8) (N := 5) rfl hraw_59 (i := 2) (by decide)) (jP.cons hgn_60 (jf.raw (C := RX8) (T := TX8) (N := 5) rfl hraw_59 (i := 3) (by decide)) (jP.cons hgn_60 (jf.raw (C := RX8) (T := TX8) (N := 5) rfl hraw_59 (i := 4) (by decide)) jP.nil)))))
            have hM_60 : jNk [1, 2, 11] G_51 (va_up G_51 r0 (some (10, 0))) := jNk.new (by decide)
            have hd_69 := jYb.grow (hh_68.iv 0 rfl) hle_60 hM_60 (by decide)
            have hh_70 := hh_68.sub (L1 := [(r0, 10, 0, .ref H_26.size), (r0, 10, 1, .null), (r0, 10, 2, .int 0), (r0, 10, 3, .int 0), (r0, 10, 4, .int (-1)), (H_26.size, 2, 1, .int qc_51), (H_26.size, 2, 0, .ref qa_51), (r1, 6, 7, .int pv), (r1, 6, 0, .ref wk), (r1, 6, 1, .ref wi), (r1, 6, 2, .ref wz)]) [0, 1, 2, 3, 4, 5, 6, 7, 8, 9, 10] rfl (M1 := [(wk, 140, 1502, ca 1, fk), (wi, 141, 1502, ca 1, fi), (wz, 142, 1502, ca 1, fz)]) [0, 1, 2] rfl (I1 := [([(2, 0), (2, 1)], jOl (dC, dI) G0 2 [] s.heap)]) [1] rfl
            clear hh_68
            have hh_71 := hh_70.addI (jYb.ie hd_69)
            clear hh_70
            refine lv_iload_n hx hb dX8_init_76 rfl (lv_at hl 1 rfl) ?_
            refine lv_if_eq (tgt := 95) hx hb dX8_init_77 (by decide) (fun c_72 => ?_) (fun c_72 => ?_)
            · skip
              refine lv_iload hx hb dX8_init_95 (lv_at hl 0 rfl) ?_
              refine lv_if_eq (tgt := 120) hx hb dX8_init_97 (by decide) (fun c_73 => ?_) (fun c_73 => ?_)
              · skip
                exact absurd c_73 (by decide)
              · skip
                refine lv_aload_n hx hb dX8_init_100 rfl (lv_at hl 3 rfl) ?_
                refine lv_iload_n hx hb dX8_init_101 rfl (lv_at hl 4 rfl) ?_
                have hsz_74 := hh_71.2.2.2.2.2.1
                have htt_74 := hh_71.2.2.2.2.2.2.1
                refine W.room (fun hrc_74 hrs_74 => ?_)
                refine j_callx (A0 := jA base) (H0 := s.heap) (va_runV (As := [.int a2]) (rest := []) ⟨hx, hb, hml, hown, hts⟩ (uX4_unitsOfS l dC dI ca base B hB hAp hB6 hB101 hB140 hB141 hB142 hB146 (va_up G_51 r0 (some (10, 0))) H_59 r1 a2 pv wk wi wz fk fi fz LC LS) (cwV 1 hts (jgV (jWr_24 _ (List.mem_of_getElem? (i := 23) rfl)) (jWr_25 _ (List.mem_of_getElem? (i := 0) rfl)) (jWr_25 _ (List.mem_of_getElem? (i := 1) rfl)) (jWr_1 _ (List.mem_of_getElem? (i := 22) rfl)) (jWr_25 _ (List.mem_of_getElem? (i := 2) rfl))) rfl rfl rfl (by decide +kernel) ⟨by rw [← hR]; exact Nat.le_of_ble_eq_true rfl, by rw [← hR]; exact Nat.le_of_ble_eq_true rfl⟩) ⟨fun a U g mk q => by obtain ⟨q0, q1, q2, qK, q10, q11, q12, q13, q14, q15, q16⟩ := q; exact ⟨q0, q1, q2, jG.calling g mk a qK, q10, q11, q12, q13, q14, q15, q16⟩, hh_71.recv (C := RX4) (T := TX4) (N := 12) hB6 rfl (by decide) hg_61 hK, fun U hU hW => ⟨rfl, hU, hh_71.2.1, hG.step hW hU hh_71.1, hg_61, hg_63, hg_64, hg_65, (hh_71.2.2.1.sub (L1 := [(r1, 6, 7, .int pv), (r1, 6, 0, .ref wk), (r1, 6, 1, .ref wi), (r1, 6, 2, .ref wz)]) [7, 8, 9, 10] rfl), (hh_71.2.2.2.2.2.2.2.1.sub (L1 := [(wk, 140, 1502, ca 1, fk), (wi, 141, 1502, ca 1, fi), (wz, 142, 1502, ca 1, fz)]) [0, 1, 2] rfl), (by omega), (by omega), by first | omega | (refine ⟨?_, ?_, ?_⟩ <;> (first | omega | rfl | assumption | decide | exact Or.inl rfl | exact Or.inr rfl | (simp only; omega)))⟩⟩ rfl rfl hl.1 rfl (lv_room (Nat.le_of_ble_eq_true rfl)) dX8_init_102 ⟨by rw [hRc]; omega, by rw [hRs]; omega⟩) hh_71.1 (fun q _ h => h) (fun q h => h) (fun r_75 u_74 t_74 H_74 locs_74 ht_74 hvm_74 hr_75 hb_74 hz_74 hk_74 hS_74 => ?_)
                rw [ht_74] at hb_74
                obtain ⟨m_ret_74, G_74⟩ := u_74
                simp only at hb_74
                obtain ⟨⟨hb_741, hb_742, hb_743, hb_744, hb_745, hb_746⟩, hN_74⟩ := hb_74
                have hY_74 := hN_74
                have hN_74 : (jNk [0, 1, 3, 4, 5, 6, 7, 8, 9, 11, 12, 13, 14, 15, 16]) (va_up G_51 r0 (some (10, 0))) G_74 := hN_74.sub (by decide)
                have hh_74 : jSt (dC, dI) B base G0 G_74 EX8_init s.heap (((0 + 1) + (1)) + (1)) (((0 + 2) + ((16 : Int).toNat)) + (m_ret_74)) [(r0, 10, 0, .ref H_26.size), (r0, 10, 1, .null), (r0, 10, 2, .int 0), (r0, 10, 3, .int 0), (r0, 10, 4, .int (-1)), (H_26.size, 2, 1, .int qc_51), (H_26.size, 2, 0, .ref qa_51), (r1, 6, 7, .int pv), (r1, 6, 0, .ref wk), (r1, 6, 1, .ref wi), (r1, 6, 2, .ref wz)] [(wk, 140, 1502, ca 1, fk), (wi, 141, 1502, ca 1, fi), (wz, 142, 1502, ca 1, fz)] [(jFy, jYb dC dI (va_up G_51 r0 (some (10, 0)))), ([(2, 0), (2, 1)], jOl (dC, dI) G0 2 [] s.heap)] H_74 locs_74 := (hh_71.callG hb_741 hb_742 hb_743 hb_744 hb_745 hS_74 rfl (L1 := [(r0, 10, 0, .ref H_26.size), (r0, 10, 1, .null), (r0, 10, 2, .int 0), (r0, 10, 3, .int 0), (r0, 10, 4, .int (-1)), (H_26.size, 2, 1, .int qc_51), (H_26.size, 2, 0, .ref qa_51), (r1, 6, 7, .int pv), (r1, 6, 0, .ref wk), (r1, 6, 1, .ref wi), (r1, 6, 2, .ref wz)]) [0, 1, 2, 3, 4, 5, 6, 7, 8, 9, 10] rfl rfl (M1 := [(wk, 140, 1502, ca 1, fk), (wi, 141, 1502, ca 1, fi), (wz, 142, 1502, ca 1, fz)]) [0, 1, 2] rfl rfl (I1 := [(jFy, jYb dC dI (va_up G_51 r0 (some (10, 0)))), ([(2, 0), (2, 1)], jOl (dC, dI) G0 2 [] s.heap)]) [0, 1] rfl rfl).more hb_746
                have hNn_74 : (jNk [0, 1, 3, 4, 5, 6, 7, 8, 9, 11, 12, 13, 14, 15, 16]) G0 G_74 := (hNn_60).tr hN_74
                have hg_76 := hb_742 _ _ hgn_60
                have hg_77 := hb_742 _ _ hg_61
                have hg_78 := hb_742 _ _ hg_67
                have hg_79 := hb_742 _ _ hg_62
                have hg_80 := hb_742 _ _ hg_63
                have hg_81 := hb_742 _ _ hg_64
                have hg_82 := hb_742 _ _ hg_65
                have hd_83 := jYb.grow (hh_74.iv 0 rfl) hb_742 hY_74 (by decide)
                have hh_84 := hh_74.sub (L1 := [(r0, 10, 0, .ref H_26.size), (r0, 10, 1, .null), (r0, 10, 2, .int 0), (r0, 10, 3, .int 0), (r0, 10, 4, .int (-1)), (H_26.size, 2, 1, .int qc_51), (H_26.size, 2, 0, .ref qa_51), (r1, 6, 7, .int pv), (r1, 6, 0, .ref wk), (r1, 6, 1, .ref wi), (r1, 6, 2, .ref wz)]) [0, 1, 2, 3, 4, 5, 6, 7, 8, 9, 10] rfl (M1 := [(wk, 140, 1502, ca 1, fk), (wi, 141, 1502, ca 1, fi), (wz, 142, 1502, ca 1, fz)]) [0, 1, 2] rfl (I1 := [([(2, 0), (2, 1)], jOl (dC, dI) G0 2 [] s.heap)]) [1] rfl
                clear hh_74
                have hh_85 := hh_84.addI (jYb.ie hd_83)
                clear hh_84
                obtain ⟨hr_75, hr_75n, hr_75p⟩ := hr_75
                try simp only at hr_75p
                obtain ⟨hr_75p_0, hr_75p_1⟩ := hr_75p
                obtain ⟨ret_86, rfl, hg_ret_86⟩ := hr_75
                have hsy_74 : s.heap.size ≤ ret_86 := Nat.le_trans hh_71.1.1 hr_75n.le
                refine lv_astore (lv' := [(5, .ref ret_86), (4, .int 1), (3, .int 0), (0, .ref r0), (1, .ref r1), (2, .int a2)]) hx hb dX8_init_105 hl (by decide) rfl (fun ls hl => ?_)
                refine lv_aload_n hx hb dX8_init_107 rfl (lv_at hl 3 rfl) ?_
                refine j7_read hx hb hown hK (C := RX8) (T := TX8) (N := 5) rfl hly_10_0 hlk_29 (hh_85.at 0 rfl) dX8_init_108 ?_
                refine lv_aload hx hb dX8_init_111 (lv_at hl 0 rfl) ?_
                refine lv_iconst (v := 0) hx hb dX8_init_113 (by decide) ?_
                refine lv_aload hx hb dX8_init_114 (lv_at hl 0 rfl) ?_
                refine j7_len hx hb hK hh_85 hB101 1 rfl (by decide) hg_ret_86 (by omega) dX8_init_116 (fun z_87 hz_87 => ?_)
                have hsz_88 := hh_85.2.2.2.2.2.1
                have htt_88 := hh_85.2.2.2.2.2.2.1
                refine W.room (fun hrc_88 hrs_88 => ?_)
                refine va_callv (A0 := jA base) (H0 := s.heap) (va_runV (As := [.ref ret_86, .int 0, .int z_87]) (rest := []) ⟨hx, hb, hml, hown, hts⟩ (uX0_quotedS l dC dI ca base B hB hAp hB2 hB101 hB196 G_74 H_74 H_26.size ret_86 0 z_87 m_ret_74 qc_51 qa_51 m_qa_51 LC LS) (cwV 3 hts (jgV (jWr_25 _ (List.mem_of_getElem? (i := 9) rfl)) (jWr_25 _ (List.mem_of_getElem? (i := 10) rfl)) (jWr_25 _ (List.mem_of_getElem? (i := 11) rfl)) (jWr_1 _ (List.mem_of_getElem? (i := 14) rfl)) (jWr_25 _ (List.mem_of_getElem? (i := 12) rfl))) rfl rfl rfl (by decide +kernel) ⟨by rw [← hR]; exact Nat.le_of_ble_eq_true rfl, by rw [← hR]; exact Nat.le_of_ble_eq_true rfl⟩) ⟨fun a U g mk q => by obtain ⟨q0, q1, q2, qK, q10, q11, q12, q13, q14⟩ := q; exact ⟨q0, q1, q2, jG.calling g mk a qK, q10, q11, q12, q13, q14⟩, hh_85.recv (C := RX0) (T := TX0) (N := 2) hB2 rfl (by decide) hg_78 hK, fun U hU hW => ⟨rfl, hU, hh_85.2.1, hG.step hW hU hh_85.1, hg_78, hg_ret_86, hg_79, (hh_85.2.2.1.sub (L1 := [(H_26.size, 2, 1, .int qc_51), (H_26.size, 2, 0, .ref qa_51)]) [5, 6] rfl), (by omega), (by omega), ⟨(by first | omega | rfl | assumption | exact jPw.z16.cg (by omega)), (by first | omega | rfl | assumption | exact jPw.z16.cg (by omega)), (by first | omega | rfl | assumption | exact jPw.z16.cg (by omega)), (by first | omega | rfl | assumption | exact jPw.z16.cg (by omega)), (by first | assumption | exact jPw.z16.cg (by omega) | omega), (by first | omega | rfl | assumption | exact jPw.z16.cg (by omega)), (by first | omega | rfl | assumption | exact jPw.z16.cg (by omega)), (by first | omega | rfl | assumption | exact jPw.z16.cg (by omega)), (by first | omega | rfl | assumption | exact jPw.z16.cg (by omega))⟩⟩⟩ rfl rfl hl.1 rfl (lv_room (Nat.le_of_ble_eq_true rfl)) dX8_init_117 ⟨by rw [hRc]; omega, by rw [hRs]; omega⟩) hh_85.1 (fun q _ h => h) (fun q h => h) (fun u_88 t_88 H_88 locs_88 ht_88 hvm_88 hr_89 hb_88 hz_88 hk_88 hS_88 => ?_)
                obtain ⟨qc_88, qa_88, m_qa_88, G_88⟩ := u_88
                rw [ht_88] at hb_88
                simp only at hb_88
                obtain ⟨⟨hb_881, hb_882, hb_883, hb_884, hb_885, hb_886⟩, hgq_88_0, hN_88, hbO_88⟩ := hb_88
                have hY_88 := hN_88
                have hN_88 : (jNk [0, 1, 3, 4, 5, 6, 7, 8, 9, 11, 12, 13, 14, 15, 16]) G_74 G_88 := hN_88.sub (by decide)
                have hy_90 := hh_85.iv 0 rfl
                have hh_88 : jSt (dC, dI) B base G0 G_88 EX8_init s.heap ((((0 + 1) + (1)) + (1)) + ((m_qa_88 - m_qa_51) / 16)) ((((0 + 2) + ((16 : Int).toNat)) + (m_ret_74)) + (2 * (m_qa_88 - m_qa_51))) [(H_26.size, 2, 1, .int qc_88), (H_26.size, 2, 0, .ref qa_88), (r0, 10, 0, .ref H_26.size), (r0, 10, 1, .null), (r0, 10, 2, .int 0), (r0, 10, 3, .int 0), (r0, 10, 4, .int (-1)), (r1, 6, 7, .int pv), (r1, 6, 0, .ref wk), (r1, 6, 1, .ref wi), (r1, 6, 2, .ref wz)] [(wk, 140, 1502, ca 1, fk), (wi, 141, 1502, ca 1, fi), (wz, 142, 1502, ca 1, fz)] [] H_88 locs_88 := (hh_85.callG hb_881 hb_882 hb_883 hb_884 hb_885 hS_88 rfl (L1 := [(r0, 10, 0, .ref H_26.size), (r0, 10, 1, .null), (r0, 10, 2, .int 0), (r0, 10, 3, .int 0), (r0, 10, 4, .int (-1)), (r1, 6, 7, .int pv), (r1, 6, 0, .ref wk), (r1, 6, 1, .ref wi), (r1, 6, 2, .ref wz)]) [0, 1, 2, 3, 4, 7, 8, 9, 10] rfl rfl (M1 := [(wk, 140, 1502, ca 1, fk), (wi, 141, 1502, ca 1, fi), (wz, 142, 1502, ca 1, fz)]) [0, 1, 2] rfl rfl (I1 := []) [] rfl rfl).more hb_886
                have hNn_88 : (jNk [0, 1, 3, 4, 5, 6, 7, 8, 9, 11, 12, 13, 14, 15, 16]) G0 G_88 := (hNn_74).tr hN_88
                have hg_91 := hb_882 _ _ hg_ret_86
                have hg_92 := hb_882 _ _ hg_76
                have hg_93 := hb_882 _ _ hg_77
                have hg_94 := hb_882 _ _ hg_78
                have hg_95 := hb_882 _ _ hg_80
                have hg_96 := hb_882 _ _ hg_81
                have hg_97 := hb_882 _ _ hg_82
                have hd_98 := jOl.trN (hh_85.iv 1 rfl) hh_85.2.2.2.2.1 hbO_88 (hnew0 _ hsy_47)
                have hh_99 := hh_88.addI (jOl.ie (dC := dC) (dI := dI) (G0 := G0) (k := 2) (rs := []) (H0 := s.heap) (F := [(2, 0), (2, 1)]) (C := RX0) (T := TX0) (N := 2) rfl (by decide) hh_88.2.2.2.2.1 (hd_98))
                clear hh_88
                have hyp_88 : qc_88.toInt ≤ (m_qa_88 : Nat) ∧ m_qa_88 ≤ 1048576 := by (try simp only at hr_89); omega
                have hy_100 := jYb.own hy_90 hbO_88 hb_882 hY_88 (by decide) (fun _ => ⟨_, _, _, hh_99.at 0 rfl, hh_99.at 1 rfl, hgq_88_0, hyp_88⟩)
                have hh_101 := hh_99.addI (jYb.ie hy_100)
                clear hh_99
                try simp only at hr_89
                obtain ⟨hr_89_0, hr_89_1, hr_89_2, hr_89_3, hr_89_4, hr_89_5⟩ := hr_89
                have hsz_102 := hh_101.2.2.2.2.2.1
                have htt_102 := hh_101.2.2.2.2.2.2.1
                refine W.room (fun hrc_102 hrs_102 => ?_)
                refine W.widen (k := LC - s.heap.size) (n := LS - jTot s.heap) (by omega) (by omega) ?_
                rw [hQ]
                exact W.vret hx hb hr (fun t ht hW => ⟨⟨G_88, rfl, trivial, ⟨hh_101.ra (by first | omega | (simp only; omega)) (by first | omega | (simp only; omega)) (M1 := []) [] rfl ht, hNn_88, by rw [ht]; exact hh_101.iv 1 rfl, hg_92, by rw [ht]; exact hh_101.2.2.2.2.2.2.2.2.sub (L1 := [(jFy, jYb dC dI G_88)]) [0] rfl⟩⟩, by rw [ht]; try exact hh_101.1.1, fun q h9 hq => by rw [ht]; try exact hh_101.1.2.1 q h9 hq⟩) hh_101.1.2.2 dX8_init_120
            · skip
              exact absurd c_72 (by decide)
  · skip
    have c_6' : r_4.toInt = 4 := jb_ne_n (rfl) ((by decide)) c_6
    first | (have hr_4q := hr_4.resolve_left (by omega); clear hr_4) | (have hr_4q := hr_4.resolve_right (by omega); clear hr_4) | try clear hr_4
    refine lv_iconst (v := 1) hx hb dX8_init_18 (by decide) ?_
    refine lv_goto (tgt := 23) hx hb dX8_init_19 (by decide) ?_
    refine lv_istore_n (lv' := [(3, .int 1), (0, .ref r0), (1, .ref r1), (2, .int a2)]) hx hb dX8_init_23 rfl hl (by decide) rfl (fun ls hl => ?_)
    refine lv_aload_n hx hb dX8_init_24 rfl (lv_at hl 2 rfl) ?_
    refine lv_iload_n hx hb dX8_init_25 rfl (lv_at hl 3 rfl) ?_
    have hsz_103 := hh_3.2.2.2.2.2.1
    have htt_103 := hh_3.2.2.2.2.2.2.1
    refine W.room (fun hrc_103 hrs_103 => ?_)
    refine va_calli (A0 := jA base) (H0 := s.heap) (va_runV (As := [.int a2]) (rest := []) ⟨hx, hb, hml, hown, hts⟩ (uX4_kindOfW l dC dI ca base B hB hAp hB6 hB140 G0 H_3 r1 a2 pv wk wi wz fk fi fz) (cwV 1 hts (jgV (jWr_24 _ (List.mem_of_getElem? (i := 5) rfl)) (jWr_23 _ (List.mem_of_getElem? (i := 15) rfl)) (jWr_23 _ (List.mem_of_getElem? (i := 16) rfl)) (jWr_1 _ (List.mem_of_getElem? (i := 22) rfl)) (jWr_23 _ (List.mem_of_getElem? (i := 17) rfl))) rfl rfl rfl (by decide +kernel) ⟨by rw [← hR]; exact Nat.le_of_ble_eq_true rfl, by rw [← hR]; exact Nat.le_of_ble_eq_true rfl⟩) ⟨fun a U g mk q => by obtain ⟨q0, q1, q2, qK, q10, q11, q12, q13, q14, q15, q16⟩ := q; exact ⟨q0, q1, q2, jG.calling g mk a qK, q10, q11, q12, q13, q14, q15, q16⟩, hh_3.recv (C := RX4) (T := TX4) (N := 12) hB6 rfl (by decide) hg_r1 hK, fun U hU hW => ⟨rfl, hU, hh_3.2.1, hG.step hW hU hh_3.1, hg_r1, hg_wk, hg_wi, hg_wz, (hh_3.2.2.1.sub (L1 := [(r1, 6, 7, .int pv), (r1, 6, 0, .ref wk), (r1, 6, 1, .ref wi), (r1, 6, 2, .ref wz)]) [0, 1, 2, 3] rfl), (hh_3.2.2.2.2.2.2.2.1.sub (L1 := [(wk, 140, 1502, ca 1, fk), (wi, 141, 1502, ca 1, fi), (wz, 142, 1502, ca 1, fz)]) [0, 1, 2] rfl), by first | omega | (refine ⟨?_, ?_⟩ <;> (first | omega | rfl | assumption | decide | exact Or.inl rfl | exact Or.inr rfl | (simp only; omega)))⟩⟩ rfl rfl hl.1 rfl (lv_room (Nat.le_of_ble_eq_true rfl)) dX8_init_26 ⟨by rw [hRc]; show _ + 0 ≤ _; omega, by rw [hRs]; show _ + 0 ≤ _; omega⟩) hh_3.1 (fun q _ h => h) (fun q h => h) (fun r_104 u_103 t_103 H_103 locs_103 ht_103 hvm_103 hr_104 hb_103 hz_103 hk_103 hS_103 => ?_)
    rw [ht_103] at hb_103
    obtain ⟨hb_103, hbF_103⟩ := hb_103
    obtain ⟨hb_1031, hb_1032, hb_1033, hb_1034, hb_1035⟩ := hb_103
    have hh_103 : jSt (dC, dI) B base G0 G0 EX8_init s.heap 0 0 [(r1, 6, 7, .int pv), (r1, 6, 0, .ref wk), (r1, 6, 1, .ref wi), (r1, 6, 2, .ref wz)] [(wk, 140, 1502, ca 1, fk), (wi, 141, 1502, ca 1, fi), (wz, 142, 1502, ca 1, fz)] [([(2, 0), (2, 1)], jOl (dC, dI) G0 2 [] s.heap), (jFy, jYb dC dI G0)] H_103 locs_103 := ((hh_3.call hb_1031 hb_1032 hb_1033 hb_1034 hS_103 rfl (L1 := [(r1, 6, 7, .int pv), (r1, 6, 0, .ref wk), (r1, 6, 1, .ref wi), (r1, 6, 2, .ref wz)]) [0, 1, 2, 3] rfl rfl (M1 := [(wk, 140, 1502, ca 1, fk), (wi, 141, 1502, ca 1, fi), (wz, 142, 1502, ca 1, fz)]) [0, 1, 2] rfl rfl (I1 := [([(2, 0), (2, 1)], jOl (dC, dI) G0 2 [] s.heap), (jFy, jYb dC dI G0)]) [0, 1] rfl rfl).more hb_1035)
    clear hh_3 ht_103 hvm_103 hz_103 hk_103 hS_103 hb_1031 hb_1032 hb_1033 hb_1034 hb_1035
    have hraw_105 := hraw_5.kept (hbF_103 _ (by simp))
    refine lv_iconst (v := 3) hx hb dX8_init_29 (by decide) ?_
    refine lv_icmp_ne (tgt := 47) hx hb dX8_init_30 (by decide) (fun c_106 => ?_) (fun c_106 => ?_)
    · skip
      have c_106' : r_104.toInt ≠ 3 := jb_ne (rfl) ((by decide)) c_106
      try clear hr_104
      refine lv_iconst (v := 0) hx hb dX8_init_47 (by decide) ?_
      refine lv_istore (lv' := [(4, .int 0), (3, .int 1), (0, .ref r0), (1, .ref r1), (2, .int a2)]) hx hb dX8_init_48 hl (by decide) rfl (fun ls hl => ?_)
      refine lv_aload_n hx hb dX8_init_50 rfl (lv_at hl 2 rfl) ?_
      refine lv_iload_n hx hb dX8_init_51 rfl (lv_at hl 1 rfl) ?_
      refine lv_if_ne (tgt := 60) hx hb dX8_init_52 (by decide) (fun c_107 => ?_) (fun c_107 => ?_)
      · skip
        have hsz_108 := hh_103.2.2.2.2.2.1
        have htt_108 := hh_103.2.2.2.2.2.2.1
        refine j7_newo (k := 2) (C := RX0) (T := TX0) (N := 2) (fs := [.null, .int 0]) hx hb htw jWc_wsX00 (fun k => ([(.array .byte), .int] : List FieldType).getD k .int) (by decide +kernel) hown (htw (.classLink RX8 24 RX0) (jWr_24 _ (List.mem_of_getElem? (i := 3) rfl))) (htw (.instantiable RX0 2) (jWr_1 _ (List.mem_of_getElem? (i := 13) rfl))) (htw (.initialized RX0) (jWr_1 _ (List.mem_of_getElem? (i := 14) rfl))) hK rfl (fun j hj => by rcases (by omega : j = 0 ∨ j = 1) with rfl | rfl <;> rfl) hh_103 hB (by rw [hRc]; omega) (by rw [hRs]; omega) dX8_init_60 (fun H_108 hraw_108 hfr_108 hnr_108 hh_108 => ?_)
        have hlt_109 := hraw_105.lt
        have hke_108 : jKe G0 G0 H_103 H_108 := jKe.raw hfr_108
        have hbr_108 : base ≤ H_103.size := Nat.le_trans hbs hh_103.1.1
        have hsy_108 : s.heap.size ≤ H_103.size := hh_103.1.1
        clear hh_103
        have hraw_110n := hke_108.nr hraw_105.lt hnr0
        have hraw_110 := hraw_105.kept (hke_108.1 _ hraw_105.lt)
        have hne_111 : r0 ≠ H_103.size := Nat.ne_of_lt hlt_109
        refine lv_dup hx hb dX8_init_63 rfl ?_
        refine lv_bipush (v := 16) hx hb dX8_init_64 (by decide) ?_
        have hsz_112 := hh_108.2.2.2.2.2.1
        have htt_112 := hh_108.2.2.2.2.2.2.1
        refine W.room (fun hrc_112 hrs_112 => ?_)
        refine va_callv (A0 := jA base) (H0 := s.heap) (va_runI (As := [.int 16]) (rest := [.ref H_103.size, .ref r0]) ⟨hx, hb, hml, hown, hts⟩ (uX0_initY l dC dI ca base B hB hAp hB2 hB196 G0 H_108 H_103.size 16 0 LC LS) (cwI 1 hts (jgW (jWr_3 _ (List.mem_of_getElem? (i := 3) rfl))) rfl rfl rfl (htw (.initialized RX0) (jWr_1 _ (List.mem_of_getElem? (i := 14) rfl))) (htw (.methodLink RX8 26 yX0_init) (jWr_24 _ (List.mem_of_getElem? (i := 10) rfl))) (htw (.instanceMethod yX0_init) (jWr_3 _ (List.mem_of_getElem? (i := 2) rfl))) rfl (by decide +kernel) ⟨by rw [← hR]; exact Nat.le_of_ble_eq_true rfl, by rw [← hR]; exact Nat.le_of_ble_eq_true rfl⟩) ⟨fun a U g mk q => by obtain ⟨q0, q1, q2, qK, q10, q11, q12, q13, q14, q15⟩ := q; exact ⟨q0, q1, q2, jG.calling g mk a qK, q10, q11, q12, q13, q14, q15⟩, fun U hU hW => ⟨rfl, hU, hh_108.2.1, hG.step hW hU hh_108.1, hraw_108, hnr_108, hbr_108, jP.nil, (hh_108.2.2.2.2.2.2.2.2.sub (L1 := [(jFy, jYb dC dI G0)]) [1] rfl), (by omega), (by omega), ⟨(by first | omega | rfl | assumption | exact fun _ => jPw.z16), (by first | omega | rfl | assumption | exact fun _ => jPw.z16), (by first | omega | rfl | assumption | exact fun _ => jPw.z16), (by first | assumption | exact fun _ => jPw.z16 | omega)⟩⟩⟩ rfl rfl hl.1 rfl (lv_room (Nat.le_of_ble_eq_true rfl)) dX8_init_66 ⟨by rw [hRc]; omega, by rw [hRs]; omega⟩) hh_108.1 (fun q _ h => h) (fun q h => h) (fun u_112 t_112 H_112 locs_112 ht_112 hvm_112 hr_113 hb_112 hz_112 hk_112 hS_112 => ?_)
        obtain ⟨qc_112, qa_112, m_qa_112, G_112⟩ := u_112
        rw [ht_112] at hb_112
        simp only at hb_112
        obtain ⟨⟨hb_1121, hb_1122, hb_1123, hb_1124, hb_1125, hb_1126⟩, hgq_112_0, hN_112, hgc_112, hbX_112, hbE_112⟩ := hb_112
        have hN_112 : (jNk [0, 1, 3, 4, 5, 6, 7, 8, 9, 11, 12, 13, 14, 15, 16]) G0 G_112 := hN_112.sub (by decide)
        have hh_112 : jSt (dC, dI) B base G0 G_112 EX8_init s.heap ((0 + 1) + (1)) ((0 + 2) + ((16 : Int).toNat)) [(H_103.size, 2, 1, .int qc_112), (H_103.size, 2, 0, .ref qa_112), (r1, 6, 7, .int pv), (r1, 6, 0, .ref wk), (r1, 6, 1, .ref wi), (r1, 6, 2, .ref wz)] [(wk, 140, 1502, ca 1, fk), (wi, 141, 1502, ca 1, fi), (wz, 142, 1502, ca 1, fz)] [([(2, 0), (2, 1)], jOl (dC, dI) G0 2 [] s.heap)] H_112 locs_112 := (hh_108.callG hb_1121 hb_1122 hb_1123 hb_1124 hb_1125 hS_112 rfl (L1 := [(r1, 6, 7, .int pv), (r1, 6, 0, .ref wk), (r1, 6, 1, .ref wi), (r1, 6, 2, .ref wz)]) [0, 1, 2, 3] rfl rfl (M1 := [(wk, 140, 1502, ca 1, fk), (wi, 141, 1502, ca 1, fi), (wz, 142, 1502, ca 1, fz)]) [0, 1, 2] rfl rfl (I1 := [([(2, 0), (2, 1)], jOl (dC, dI) G0 2 [] s.heap)]) [0] rfl rfl).more hb_1126
        have hNn_112 : (jNk [0, 1, 3, 4, 5, 6, 7, 8, 9, 11, 12, 13, 14, 15, 16]) G0 G_112 := (jNk.rf).tr hN_112
        have hg_114 := hb_1122 _ _ hg_r1
        have hg_115 := hb_1122 _ _ hg_wk
        have hg_116 := hb_1122 _ _ hg_wi
        have hg_117 := hb_1122 _ _ hg_wz
        have hh_118 := hh_112.addIs hbE_112
        try simp only at hr_113
        obtain ⟨hr_113_0, hr_113_1⟩ := hr_113
        have hraw_119x := hbX_112.ke hraw_110.lt hne_111 hraw_110n
        have hraw_119 := hraw_110.kept hraw_119x.1
        refine lv_goto (tgt := 73) hx hb dX8_init_69 (by decide) ?_
        refine j7_putRF hx hb hown hK hh_118 hB hAp hraw_119 hraw_119x.2 hbr0 (C := RX8) (T := TX8) (N := 5) rfl (i := 0) (by decide) (Nat.le_of_ble_eq_true rfl) hly_10_0 rfl hin2 rfl hlk_29 (ty := (.object "ProofServer$Bytes")) (v := .ref H_103.size) (by decide +kernel) rfl rfl dX8_init_73 (fun H_120 locs_120 hraw_120 hr_120 hh_120 => ?_)
        have hraw_120 : va_at (dC, dI) vwCl (r0, .inr (10, [.ref H_103.size, .null, .int 0, .int 0, .int (-1)])) H_120 := hraw_120
        clear hh_118
        have hle_121 : jLe G_112 (va_up G_112 r0 (some (10, 0))) := jLe.typ hraw_119x.2
        have hg_122 := hle_121 _ _ hg_114
        have hg_123 := hle_121 _ _ hgq_112_0
        have hg_124 := hle_121 _ _ hg_115
        have hg_125 := hle_121 _ _ hg_116
        have hg_126 := hle_121 _ _ hg_117
        have hg_127 := (jLe.rf).tr hle_121 _ _ hgc_112
        have hfa_121 : jRn (va_up G_112 r0 (some (10, 0))) 2 0 (.ref H_103.size) ∧ jRn (va_up G_112 r0 (some (10, 0))) 3 0 (.null) ∧ jIa (.int 0) ∧ jZb (.int 0) ∧ jIa (.int (-1)) ∧ True := ⟨Or.inr ⟨_, rfl, hg_127⟩, Or.inl rfl, ⟨_, rfl⟩, ⟨_, rfl, Or.inl rfl⟩, ⟨_, rfl⟩, trivial⟩
        have hh_121 := hh_120.typ (k := 10) (n := 0) hB hraw_119x.2 hbr0 hraw_120.lt (jOb.of (C := RX8) (T := TX8) (N := 5) (F := F10) hB10 rfl hraw_120 (show jFx (F10 0 (va_up G_112 r0 (some (10, 0)))) [.ref H_103.size, .null, .int 0, .int 0, .int (-1)] from hfa_121))
        have hgn_121 : (va_up G_112 r0 (some (10, 0))) r0 = some (10, 0) := jUp_self
        have hN_121 : (jNk [0, 1, 3, 4, 5, 6, 7, 8, 9, 11, 12, 13, 14, 15, 16]) G_112 (va_up G_112 r0 (some (10, 0))) := jNk.new (by decide)
        have hNn_121 : (jNk [0, 1, 3, 4, 5, 6, 7, 8, 9, 11, 12, 13, 14, 15, 16]) G0 (va_up G_112 r0 (some (10, 0))) := (hNn_112).tr hN_121
        have hg_128 := (hle_121) _ _ hgc_112
        have hh_129 := hh_121.more (P1 := [(r0, 10, 0, .ref H_103.size), (r0, 10, 1, .null), (r0, 10, 2, .int 0), (r0, 10, 3, .int 0), (r0, 10, 4, .int (-1))]) (jP.cons hgn_121 (jf.raw (C := RX8) (T := TX8) (N := 5) rfl hraw_120 (i := 0) (by decide)) (jP.cons hgn_121 (jf.raw (C := RX8) (T := TX8) (N := 5) rfl hraw_120 (i := 1) (by decide)) (jP.cons hgn_121 (jf.raw (C := RX8) (T := TX8) (N := 5) rfl hraw_120 (i := 2) (by decide)) (jP.cons hgn_121 (jf.raw (C := RX8) (T := TX8) (N := 5) rfl hraw_120 (i := 3) (by decide)) (jP.cons hgn_121 (jf.raw (C := RX8) (T := TX8) (N := 5) rfl hraw_120 (i := 4) (by decide)) jP.nil)))))
        have hM_121 : jNk [1, 2, 11] G_112 (va_up G_112 r0 (some (10, 0))) := jNk.new (by decide)
        have hd_130 := jYb.grow (hh_129.iv 0 rfl) hle_121 hM_121 (by decide)
        have hh_131 := hh_129.sub (L1 := [(r0, 10, 0, .ref H_103.size), (r0, 10, 1, .null), (r0, 10, 2, .int 0), (r0, 10, 3, .int 0), (r0, 10, 4, .int (-1)), (H_103.size, 2, 1, .int qc_112), (H_103.size, 2, 0, .ref qa_112), (r1, 6, 7, .int pv), (r1, 6, 0, .ref wk), (r1, 6, 1, .ref wi), (r1, 6, 2, .ref wz)]) [0, 1, 2, 3, 4, 5, 6, 7, 8, 9, 10] rfl (M1 := [(wk, 140, 1502, ca 1, fk), (wi, 141, 1502, ca 1, fi), (wz, 142, 1502, ca 1, fz)]) [0, 1, 2] rfl (I1 := [([(2, 0), (2, 1)], jOl (dC, dI) G0 2 [] s.heap)]) [1] rfl
        clear hh_129
        have hh_132 := hh_131.addI (jYb.ie hd_130)
        clear hh_131
        refine lv_iload_n hx hb dX8_init_76 rfl (lv_at hl 1 rfl) ?_
        refine lv_if_eq (tgt := 95) hx hb dX8_init_77 (by decide) (fun c_133 => ?_) (fun c_133 => ?_)
        · skip
          exact absurd c_133 (by decide)
        · skip
          refine lv_aload_n hx hb dX8_init_80 rfl (lv_at hl 2 rfl) ?_
          refine j7_read hx hb hown hK (C := RX8) (T := TX8) (N := 5) rfl hly_10_0 hlk_29 (hh_132.at 0 rfl) dX8_init_81 ?_
          refine lv_aload_n hx hb dX8_init_84 rfl (lv_at hl 3 rfl) ?_
          refine lv_iload_n hx hb dX8_init_85 rfl (lv_at hl 4 rfl) ?_
          have hsz_134 := hh_132.2.2.2.2.2.1
          have htt_134 := hh_132.2.2.2.2.2.2.1
          refine W.room (fun hrc_134 hrs_134 => ?_)
          refine va_calli (A0 := jA base) (H0 := s.heap) (va_runV (As := [.int a2]) (rest := [.ref H_103.size]) ⟨hx, hb, hml, hown, hts⟩ (uX4_valueOf l dC dI ca base B hB hAp hB6 hB141 (va_up G_112 r0 (some (10, 0))) H_120 r1 a2) (cwV 1 hts (jgV (jWr_24 _ (List.mem_of_getElem? (i := 11) rfl)) (jWr_24 _ (List.mem_of_getElem? (i := 12) rfl)) (jWr_24 _ (List.mem_of_getElem? (i := 13) rfl)) (jWr_1 _ (List.mem_of_getElem? (i := 22) rfl)) (jWr_24 _ (List.mem_of_getElem? (i := 14) rfl))) rfl rfl rfl (by decide +kernel) ⟨by rw [← hR]; exact Nat.le_of_ble_eq_true rfl, by rw [← hR]; exact Nat.le_of_ble_eq_true rfl⟩) ⟨fun a U g mk q => by obtain ⟨q0, q1, q2, qK, q10, q11, q12⟩ := q; exact ⟨q0, q1, q2, jG.calling g mk a qK, q10, q11, q12⟩, hh_132.recv (C := RX4) (T := TX4) (N := 12) hB6 rfl (by decide) hg_122 hK, fun U hU hW => ⟨rfl, hU, hh_132.2.1, hG.step hW hU hh_132.1, hg_122, jP.nil, trivial⟩⟩ rfl rfl hl.1 rfl (lv_room (Nat.le_of_ble_eq_true rfl)) dX8_init_86 ⟨by rw [hRc]; show _ + 0 ≤ _; omega, by rw [hRs]; show _ + 0 ≤ _; omega⟩) hh_132.1 (fun q _ h => h) (fun q h => h) (fun r_135 u_134 t_134 H_134 locs_134 ht_134 hvm_134 hr_135 hb_134 hz_134 hk_134 hS_134 => ?_)
          rw [ht_134] at hb_134
          obtain ⟨hb_1341, hb_1342, hb_1343, hb_1344, hb_1345⟩ := hb_134
          have hh_134 : jSt (dC, dI) B base G0 (va_up G_112 r0 (some (10, 0))) EX8_init s.heap ((0 + 1) + (1)) ((0 + 2) + ((16 : Int).toNat)) [(r0, 10, 0, .ref H_103.size), (r0, 10, 1, .null), (r0, 10, 2, .int 0), (r0, 10, 3, .int 0), (r0, 10, 4, .int (-1)), (H_103.size, 2, 1, .int qc_112), (H_103.size, 2, 0, .ref qa_112), (r1, 6, 7, .int pv), (r1, 6, 0, .ref wk), (r1, 6, 1, .ref wi), (r1, 6, 2, .ref wz)] [(wk, 140, 1502, ca 1, fk), (wi, 141, 1502, ca 1, fi), (wz, 142, 1502, ca 1, fz)] [(jFy, jYb dC dI (va_up G_112 r0 (some (10, 0)))), ([(2, 0), (2, 1)], jOl (dC, dI) G0 2 [] s.heap)] H_134 locs_134 := ((hh_132.call hb_1341 hb_1342 hb_1343 hb_1344 hS_134 rfl (L1 := [(r0, 10, 0, .ref H_103.size), (r0, 10, 1, .null), (r0, 10, 2, .int 0), (r0, 10, 3, .int 0), (r0, 10, 4, .int (-1)), (H_103.size, 2, 1, .int qc_112), (H_103.size, 2, 0, .ref qa_112), (r1, 6, 7, .int pv), (r1, 6, 0, .ref wk), (r1, 6, 1, .ref wi), (r1, 6, 2, .ref wz)]) [0, 1, 2, 3, 4, 5, 6, 7, 8, 9, 10] rfl rfl (M1 := [(wk, 140, 1502, ca 1, fk), (wi, 141, 1502, ca 1, fi), (wz, 142, 1502, ca 1, fz)]) [0, 1, 2] rfl rfl (I1 := [(jFy, jYb dC dI (va_up G_112 r0 (some (10, 0)))), ([(2, 0), (2, 1)], jOl (dC, dI) G0 2 [] s.heap)]) [0, 1] rfl rfl).more hb_1345)
          clear hh_132 ht_134 hvm_134 hz_134 hk_134 hS_134 hb_1341 hb_1342 hb_1343 hb_1344 hb_1345
          have hsz_136 := hh_134.2.2.2.2.2.1
          have htt_136 := hh_134.2.2.2.2.2.2.1
          refine W.room (fun hrc_136 hrs_136 => ?_)
          refine va_callv (A0 := jA base) (H0 := s.heap) (va_runV (As := [.int r_135]) (rest := []) ⟨hx, hb, hml, hown, hts⟩ (uX0_numberS l dC dI ca base B hB hAp hB2 hB196 (va_up G_112 r0 (some (10, 0))) H_134 H_103.size r_135 qc_112 qa_112 m_qa_112 LC LS) (cwV 1 hts (jgV (jWr_24 _ (List.mem_of_getElem? (i := 15) rfl)) (jWr_24 _ (List.mem_of_getElem? (i := 16) rfl)) (jWr_24 _ (List.mem_of_getElem? (i := 17) rfl)) (jWr_1 _ (List.mem_of_getElem? (i := 14) rfl)) (jWr_24 _ (List.mem_of_getElem? (i := 18) rfl))) rfl rfl rfl (by decide +kernel) ⟨by rw [← hR]; exact Nat.le_of_ble_eq_true rfl, by rw [← hR]; exact Nat.le_of_ble_eq_true rfl⟩) ⟨fun a U g mk q => by obtain ⟨q0, q1, q2, qK, q10, q11, q12, q13⟩ := q; exact ⟨q0, q1, q2, jG.calling g mk a qK, q10, q11, q12, q13⟩, hh_134.recv (C := RX0) (T := TX0) (N := 2) hB2 rfl (by decide) hg_128 hK, fun U hU hW => ⟨rfl, hU, hh_134.2.1, hG.step hW hU hh_134.1, hg_128, hg_123, (hh_134.2.2.1.sub (L1 := [(H_103.size, 2, 1, .int qc_112), (H_103.size, 2, 0, .ref qa_112)]) [5, 6] rfl), (by omega), (by omega), ⟨(by first | omega | rfl | assumption | exact jPw.z16.cg (by omega)), (by first | omega | rfl | assumption | exact jPw.z16.cg (by omega)), (by first | omega | rfl | assumption | exact jPw.z16.cg (by omega)), (by first | omega | rfl | assumption | exact jPw.z16.cg (by omega)), (by first | assumption | exact jPw.z16.cg (by omega) | omega), (by first | omega | rfl | assumption | exact jPw.z16.cg (by omega))⟩⟩⟩ rfl rfl hl.1 rfl (lv_room (Nat.le_of_ble_eq_true rfl)) dX8_init_89 ⟨by rw [hRc]; omega, by rw [hRs]; omega⟩) hh_134.1 (fun q _ h => h) (fun q h => h) (fun u_136 t_136 H_136 locs_136 ht_136 hvm_136 hr_137 hb_136 hz_136 hk_136 hS_136 => ?_)
          obtain ⟨qc_136, qa_136, m_qa_136, G_136⟩ := u_136
          rw [ht_136] at hb_136
          simp only at hb_136
          obtain ⟨⟨hb_1361, hb_1362, hb_1363, hb_1364, hb_1365, hb_1366⟩, hgq_136_0, hN_136, hbO_136⟩ := hb_136
          have hY_136 := hN_136
          have hN_136 : (jNk [0, 1, 3, 4, 5, 6, 7, 8, 9, 11, 12, 13, 14, 15, 16]) (va_up G_112 r0 (some (10, 0))) G_136 := hN_136.sub (by decide)
          have hy_138 := hh_134.iv 0 rfl
          have hh_136 : jSt (dC, dI) B base G0 G_136 EX8_init s.heap (((0 + 1) + (1)) + ((m_qa_136 - m_qa_112) / 16)) (((0 + 2) + ((16 : Int).toNat)) + (2 * (m_qa_136 - m_qa_112))) [(H_103.size, 2, 1, .int qc_136), (H_103.size, 2, 0, .ref qa_136), (r0, 10, 0, .ref H_103.size), (r0, 10, 1, .null), (r0, 10, 2, .int 0), (r0, 10, 3, .int 0), (r0, 10, 4, .int (-1)), (r1, 6, 7, .int pv), (r1, 6, 0, .ref wk), (r1, 6, 1, .ref wi), (r1, 6, 2, .ref wz)] [(wk, 140, 1502, ca 1, fk), (wi, 141, 1502, ca 1, fi), (wz, 142, 1502, ca 1, fz)] [] H_136 locs_136 := (hh_134.callG hb_1361 hb_1362 hb_1363 hb_1364 hb_1365 hS_136 rfl (L1 := [(r0, 10, 0, .ref H_103.size), (r0, 10, 1, .null), (r0, 10, 2, .int 0), (r0, 10, 3, .int 0), (r0, 10, 4, .int (-1)), (r1, 6, 7, .int pv), (r1, 6, 0, .ref wk), (r1, 6, 1, .ref wi), (r1, 6, 2, .ref wz)]) [0, 1, 2, 3, 4, 7, 8, 9, 10] rfl rfl (M1 := [(wk, 140, 1502, ca 1, fk), (wi, 141, 1502, ca 1, fi), (wz, 142, 1502, ca 1, fz)]) [0, 1, 2] rfl rfl (I1 := []) [] rfl rfl).more hb_1366
          have hNn_136 : (jNk [0, 1, 3, 4, 5, 6, 7, 8, 9, 11, 12, 13, 14, 15, 16]) G0 G_136 := (hNn_121).tr hN_136
          have hg_139 := hb_1362 _ _ hgn_121
          have hg_140 := hb_1362 _ _ hg_122
          have hg_141 := hb_1362 _ _ hg_128
          have hg_142 := hb_1362 _ _ hg_124
          have hg_143 := hb_1362 _ _ hg_125
          have hg_144 := hb_1362 _ _ hg_126
          have hd_145 := jOl.trN (hh_134.iv 1 rfl) hh_134.2.2.2.2.1 hbO_136 (hnew0 _ hsy_108)
          have hh_146 := hh_136.addI (jOl.ie (dC := dC) (dI := dI) (G0 := G0) (k := 2) (rs := []) (H0 := s.heap) (F := [(2, 0), (2, 1)]) (C := RX0) (T := TX0) (N := 2) rfl (by decide) hh_136.2.2.2.2.1 (hd_145))
          clear hh_136
          have hyp_136 : qc_136.toInt ≤ (m_qa_136 : Nat) ∧ m_qa_136 ≤ 1048576 := by (try simp only at hr_137); omega
          have hy_147 := jYb.own hy_138 hbO_136 hb_1362 hY_136 (by decide) (fun _ => ⟨_, _, _, hh_146.at 0 rfl, hh_146.at 1 rfl, hgq_136_0, hyp_136⟩)
          have hh_148 := hh_146.addI (jYb.ie hy_147)
          clear hh_146
          try simp only at hr_137
          obtain ⟨hr_137_0, hr_137_1, hr_137_2, hr_137_3, hr_137_4, hr_137_5⟩ := hr_137
          refine lv_goto (tgt := 120) hx hb dX8_init_92 (by decide) ?_
          have hsz_149 := hh_148.2.2.2.2.2.1
          have htt_149 := hh_148.2.2.2.2.2.2.1
          refine W.room (fun hrc_149 hrs_149 => ?_)
          refine W.widen (k := LC - s.heap.size) (n := LS - jTot s.heap) (by omega) (by omega) ?_
          rw [hQ]
          exact W.vret hx hb hr (fun t ht hW => ⟨⟨G_136, rfl, trivial, ⟨hh_148.ra (by first | omega | (simp only; omega)) (by first | omega | (simp only; omega)) (M1 := []) [] rfl ht, hNn_136, by rw [ht]; exact hh_148.iv 1 rfl, hg_139, by rw [ht]; exact hh_148.2.2.2.2.2.2.2.2.sub (L1 := [(jFy, jYb dC dI G_136)]) [0] rfl⟩⟩, by rw [ht]; try exact hh_148.1.1, fun q h9 hq => by rw [ht]; try exact hh_148.1.2.1 q h9 hq⟩) hh_148.1.2.2 dX8_init_120
      · skip
        exact absurd c_107 (by decide)
    · skip
      have c_106' : r_104.toInt = 3 := jb_ne_n (rfl) ((by decide)) c_106
      first | (have hr_104q := hr_104.resolve_left (by omega); clear hr_104) | (have hr_104q := hr_104.resolve_right (by omega); clear hr_104) | try clear hr_104
      refine lv_aload_n hx hb dX8_init_33 rfl (lv_at hl 2 rfl) ?_
      refine lv_iload_n hx hb dX8_init_34 rfl (lv_at hl 3 rfl) ?_
      have hsz_150 := hh_103.2.2.2.2.2.1
      have htt_150 := hh_103.2.2.2.2.2.2.1
      refine W.room (fun hrc_150 hrs_150 => ?_)
      refine va_calli (A0 := jA base) (H0 := s.heap) (va_runV (As := [.int a2]) (rest := []) ⟨hx, hb, hml, hown, hts⟩ (uX4_sizeOfW l dC dI ca base B hB hAp hB6 hB142 G0 H_103 r1 a2 pv wk wi wz fk fi fz) (cwV 1 hts (jgV (jWr_24 _ (List.mem_of_getElem? (i := 6) rfl)) (jWr_24 _ (List.mem_of_getElem? (i := 7) rfl)) (jWr_24 _ (List.mem_of_getElem? (i := 8) rfl)) (jWr_1 _ (List.mem_of_getElem? (i := 22) rfl)) (jWr_24 _ (List.mem_of_getElem? (i := 9) rfl))) rfl rfl rfl (by decide +kernel) ⟨by rw [← hR]; exact Nat.le_of_ble_eq_true rfl, by rw [← hR]; exact Nat.le_of_ble_eq_true rfl⟩) ⟨fun a U g mk q => by obtain ⟨q0, q1, q2, qK, q10, q11, q12, q13, q14, q15, q16⟩ := q; exact ⟨q0, q1, q2, jG.calling g mk a qK, q10, q11, q12, q13, q14, q15, q16⟩, hh_103.recv (C := RX4) (T := TX4) (N := 12) hB6 rfl (by decide) hg_r1 hK, fun U hU hW => ⟨rfl, hU, hh_103.2.1, hG.step hW hU hh_103.1, hg_r1, hg_wk, hg_wi, hg_wz, (hh_103.2.2.1.sub (L1 := [(r1, 6, 7, .int pv), (r1, 6, 0, .ref wk), (r1, 6, 1, .ref wi), (r1, 6, 2, .ref wz)]) [0, 1, 2, 3] rfl), (hh_103.2.2.2.2.2.2.2.1.sub (L1 := [(wk, 140, 1502, ca 1, fk), (wi, 141, 1502, ca 1, fi), (wz, 142, 1502, ca 1, fz)]) [0, 1, 2] rfl), by first | omega | (refine ⟨?_, ?_⟩ <;> (first | omega | rfl | assumption | decide | exact Or.inl rfl | exact Or.inr rfl | (simp only; omega)))⟩⟩ rfl rfl hl.1 rfl (lv_room (Nat.le_of_ble_eq_true rfl)) dX8_init_35 ⟨by rw [hRc]; show _ + 0 ≤ _; omega, by rw [hRs]; show _ + 0 ≤ _; omega⟩) hh_103.1 (fun q _ h => h) (fun q h => h) (fun r_151 u_150 t_150 H_150 locs_150 ht_150 hvm_150 hr_151 hb_150 hz_150 hk_150 hS_150 => ?_)
      rw [ht_150] at hb_150
      obtain ⟨hb_150, hbF_150⟩ := hb_150
      obtain ⟨hb_1501, hb_1502, hb_1503, hb_1504, hb_1505⟩ := hb_150
      have hh_150 : jSt (dC, dI) B base G0 G0 EX8_init s.heap 0 0 [(r1, 6, 7, .int pv), (r1, 6, 0, .ref wk), (r1, 6, 1, .ref wi), (r1, 6, 2, .ref wz)] [(wk, 140, 1502, ca 1, fk), (wi, 141, 1502, ca 1, fi), (wz, 142, 1502, ca 1, fz)] [([(2, 0), (2, 1)], jOl (dC, dI) G0 2 [] s.heap), (jFy, jYb dC dI G0)] H_150 locs_150 := ((hh_103.call hb_1501 hb_1502 hb_1503 hb_1504 hS_150 rfl (L1 := [(r1, 6, 7, .int pv), (r1, 6, 0, .ref wk), (r1, 6, 1, .ref wi), (r1, 6, 2, .ref wz)]) [0, 1, 2, 3] rfl rfl (M1 := [(wk, 140, 1502, ca 1, fk), (wi, 141, 1502, ca 1, fi), (wz, 142, 1502, ca 1, fz)]) [0, 1, 2] rfl rfl (I1 := [([(2, 0), (2, 1)], jOl (dC, dI) G0 2 [] s.heap), (jFy, jYb dC dI G0)]) [0, 1] rfl rfl).more hb_1505)
      clear hh_103 ht_150 hvm_150 hz_150 hk_150 hS_150 hb_1501 hb_1502 hb_1503 hb_1504 hb_1505
      have hraw_152 := hraw_105.kept (hbF_150 _ (by simp))
      refine lv_bipush (v := 20) hx hb dX8_init_38 (by decide) ?_
      refine lv_icmp_gt (tgt := 47) hx hb dX8_init_40 (by decide) (fun c_153 => ?_) (fun c_153 => ?_)
      · skip
        have c_153' : r_151.toInt > 20 := jb_gt (rfl) ((by decide)) c_153
        first | (have hr_151q := hr_151.resolve_left (by omega); clear hr_151) | (have hr_151q := hr_151.resolve_right (by omega); clear hr_151) | try clear hr_151
        refine lv_iconst (v := 0) hx hb dX8_init_47 (by decide) ?_
        refine lv_istore (lv' := [(4, .int 0), (3, .int 1), (0, .ref r0), (1, .ref r1), (2, .int a2)]) hx hb dX8_init_48 hl (by decide) rfl (fun ls hl => ?_)
        refine lv_aload_n hx hb dX8_init_50 rfl (lv_at hl 2 rfl) ?_
        refine lv_iload_n hx hb dX8_init_51 rfl (lv_at hl 1 rfl) ?_
        refine lv_if_ne (tgt := 60) hx hb dX8_init_52 (by decide) (fun c_154 => ?_) (fun c_154 => ?_)
        · skip
          have hsz_155 := hh_150.2.2.2.2.2.1
          have htt_155 := hh_150.2.2.2.2.2.2.1
          refine j7_newo (k := 2) (C := RX0) (T := TX0) (N := 2) (fs := [.null, .int 0]) hx hb htw jWc_wsX00 (fun k => ([(.array .byte), .int] : List FieldType).getD k .int) (by decide +kernel) hown (htw (.classLink RX8 24 RX0) (jWr_24 _ (List.mem_of_getElem? (i := 3) rfl))) (htw (.instantiable RX0 2) (jWr_1 _ (List.mem_of_getElem? (i := 13) rfl))) (htw (.initialized RX0) (jWr_1 _ (List.mem_of_getElem? (i := 14) rfl))) hK rfl (fun j hj => by rcases (by omega : j = 0 ∨ j = 1) with rfl | rfl <;> rfl) hh_150 hB (by rw [hRc]; omega) (by rw [hRs]; omega) dX8_init_60 (fun H_155 hraw_155 hfr_155 hnr_155 hh_155 => ?_)
          have hlt_156 := hraw_152.lt
          have hke_155 : jKe G0 G0 H_150 H_155 := jKe.raw hfr_155
          have hbr_155 : base ≤ H_150.size := Nat.le_trans hbs hh_150.1.1
          have hsy_155 : s.heap.size ≤ H_150.size := hh_150.1.1
          clear hh_150
          have hraw_157n := hke_155.nr hraw_152.lt hnr0
          have hraw_157 := hraw_152.kept (hke_155.1 _ hraw_152.lt)
          have hne_158 : r0 ≠ H_150.size := Nat.ne_of_lt hlt_156
          refine lv_dup hx hb dX8_init_63 rfl ?_
          refine lv_bipush (v := 16) hx hb dX8_init_64 (by decide) ?_
          have hsz_159 := hh_155.2.2.2.2.2.1
          have htt_159 := hh_155.2.2.2.2.2.2.1
          refine W.room (fun hrc_159 hrs_159 => ?_)
          refine va_callv (A0 := jA base) (H0 := s.heap) (va_runI (As := [.int 16]) (rest := [.ref H_150.size, .ref r0]) ⟨hx, hb, hml, hown, hts⟩ (uX0_initY l dC dI ca base B hB hAp hB2 hB196 G0 H_155 H_150.size 16 0 LC LS) (cwI 1 hts (jgW (jWr_3 _ (List.mem_of_getElem? (i := 3) rfl))) rfl rfl rfl (htw (.initialized RX0) (jWr_1 _ (List.mem_of_getElem? (i := 14) rfl))) (htw (.methodLink RX8 26 yX0_init) (jWr_24 _ (List.mem_of_getElem? (i := 10) rfl))) (htw (.instanceMethod yX0_init) (jWr_3 _ (List.mem_of_getElem? (i := 2) rfl))) rfl (by decide +kernel) ⟨by rw [← hR]; exact Nat.le_of_ble_eq_true rfl, by rw [← hR]; exact Nat.le_of_ble_eq_true rfl⟩) ⟨fun a U g mk q => by obtain ⟨q0, q1, q2, qK, q10, q11, q12, q13, q14, q15⟩ := q; exact ⟨q0, q1, q2, jG.calling g mk a qK, q10, q11, q12, q13, q14, q15⟩, fun U hU hW => ⟨rfl, hU, hh_155.2.1, hG.step hW hU hh_155.1, hraw_155, hnr_155, hbr_155, jP.nil, (hh_155.2.2.2.2.2.2.2.2.sub (L1 := [(jFy, jYb dC dI G0)]) [1] rfl), (by omega), (by omega), ⟨(by first | omega | rfl | assumption | exact fun _ => jPw.z16), (by first | omega | rfl | assumption | exact fun _ => jPw.z16), (by first | omega | rfl | assumption | exact fun _ => jPw.z16), (by first | assumption | exact fun _ => jPw.z16 | omega)⟩⟩⟩ rfl rfl hl.1 rfl (lv_room (Nat.le_of_ble_eq_true rfl)) dX8_init_66 ⟨by rw [hRc]; omega, by rw [hRs]; omega⟩) hh_155.1 (fun q _ h => h) (fun q h => h) (fun u_159 t_159 H_159 locs_159 ht_159 hvm_159 hr_160 hb_159 hz_159 hk_159 hS_159 => ?_)
          obtain ⟨qc_159, qa_159, m_qa_159, G_159⟩ := u_159
          rw [ht_159] at hb_159
          simp only at hb_159
          obtain ⟨⟨hb_1591, hb_1592, hb_1593, hb_1594, hb_1595, hb_1596⟩, hgq_159_0, hN_159, hgc_159, hbX_159, hbE_159⟩ := hb_159
          have hN_159 : (jNk [0, 1, 3, 4, 5, 6, 7, 8, 9, 11, 12, 13, 14, 15, 16]) G0 G_159 := hN_159.sub (by decide)
          have hh_159 : jSt (dC, dI) B base G0 G_159 EX8_init s.heap ((0 + 1) + (1)) ((0 + 2) + ((16 : Int).toNat)) [(H_150.size, 2, 1, .int qc_159), (H_150.size, 2, 0, .ref qa_159), (r1, 6, 7, .int pv), (r1, 6, 0, .ref wk), (r1, 6, 1, .ref wi), (r1, 6, 2, .ref wz)] [(wk, 140, 1502, ca 1, fk), (wi, 141, 1502, ca 1, fi), (wz, 142, 1502, ca 1, fz)] [([(2, 0), (2, 1)], jOl (dC, dI) G0 2 [] s.heap)] H_159 locs_159 := (hh_155.callG hb_1591 hb_1592 hb_1593 hb_1594 hb_1595 hS_159 rfl (L1 := [(r1, 6, 7, .int pv), (r1, 6, 0, .ref wk), (r1, 6, 1, .ref wi), (r1, 6, 2, .ref wz)]) [0, 1, 2, 3] rfl rfl (M1 := [(wk, 140, 1502, ca 1, fk), (wi, 141, 1502, ca 1, fi), (wz, 142, 1502, ca 1, fz)]) [0, 1, 2] rfl rfl (I1 := [([(2, 0), (2, 1)], jOl (dC, dI) G0 2 [] s.heap)]) [0] rfl rfl).more hb_1596
          have hNn_159 : (jNk [0, 1, 3, 4, 5, 6, 7, 8, 9, 11, 12, 13, 14, 15, 16]) G0 G_159 := (jNk.rf).tr hN_159
          have hg_161 := hb_1592 _ _ hg_r1
          have hg_162 := hb_1592 _ _ hg_wk
          have hg_163 := hb_1592 _ _ hg_wi
          have hg_164 := hb_1592 _ _ hg_wz
          have hh_165 := hh_159.addIs hbE_159
          try simp only at hr_160
          obtain ⟨hr_160_0, hr_160_1⟩ := hr_160
          have hraw_166x := hbX_159.ke hraw_157.lt hne_158 hraw_157n
          have hraw_166 := hraw_157.kept hraw_166x.1
          refine lv_goto (tgt := 73) hx hb dX8_init_69 (by decide) ?_
          refine j7_putRF hx hb hown hK hh_165 hB hAp hraw_166 hraw_166x.2 hbr0 (C := RX8) (T := TX8) (N := 5) rfl (i := 0) (by decide) (Nat.le_of_ble_eq_true rfl) hly_10_0 rfl hin2 rfl hlk_29 (ty := (.object "ProofServer$Bytes")) (v := .ref H_150.size) (by decide +kernel) rfl rfl dX8_init_73 (fun H_167 locs_167 hraw_167 hr_167 hh_167 => ?_)
          have hraw_167 : va_at (dC, dI) vwCl (r0, .inr (10, [.ref H_150.size, .null, .int 0, .int 0, .int (-1)])) H_167 := hraw_167
          clear hh_165
          have hle_168 : jLe G_159 (va_up G_159 r0 (some (10, 0))) := jLe.typ hraw_166x.2
          have hg_169 := hle_168 _ _ hg_161
          have hg_170 := hle_168 _ _ hgq_159_0
          have hg_171 := hle_168 _ _ hg_162
          have hg_172 := hle_168 _ _ hg_163
          have hg_173 := hle_168 _ _ hg_164
          have hg_174 := (jLe.rf).tr hle_168 _ _ hgc_159
          have hfa_168 : jRn (va_up G_159 r0 (some (10, 0))) 2 0 (.ref H_150.size) ∧ jRn (va_up G_159 r0 (some (10, 0))) 3 0 (.null) ∧ jIa (.int 0) ∧ jZb (.int 0) ∧ jIa (.int (-1)) ∧ True := ⟨Or.inr ⟨_, rfl, hg_174⟩, Or.inl rfl, ⟨_, rfl⟩, ⟨_, rfl, Or.inl rfl⟩, ⟨_, rfl⟩, trivial⟩
          have hh_168 := hh_167.typ (k := 10) (n := 0) hB hraw_166x.2 hbr0 hraw_167.lt (jOb.of (C := RX8) (T := TX8) (N := 5) (F := F10) hB10 rfl hraw_167 (show jFx (F10 0 (va_up G_159 r0 (some (10, 0)))) [.ref H_150.size, .null, .int 0, .int 0, .int (-1)] from hfa_168))
          have hgn_168 : (va_up G_159 r0 (some (10, 0))) r0 = some (10, 0) := jUp_self
          have hN_168 : (jNk [0, 1, 3, 4, 5, 6, 7, 8, 9, 11, 12, 13, 14, 15, 16]) G_159 (va_up G_159 r0 (some (10, 0))) := jNk.new (by decide)
          have hNn_168 : (jNk [0, 1, 3, 4, 5, 6, 7, 8, 9, 11, 12, 13, 14, 15, 16]) G0 (va_up G_159 r0 (some (10, 0))) := (hNn_159).tr hN_168
          have hg_175 := (hle_168) _ _ hgc_159
          have hh_176 := hh_168.more (P1 := [(r0, 10, 0, .ref H_150.size), (r0, 10, 1, .null), (r0, 10, 2, .int 0), (r0, 10, 3, .int 0), (r0, 10, 4, .int (-1))]) (jP.cons hgn_168 (jf.raw (C := RX8) (T := TX8) (N := 5) rfl hraw_167 (i := 0) (by decide)) (jP.cons hgn_168 (jf.raw (C := RX8) (T := TX8) (N := 5) rfl hraw_167 (i := 1) (by decide)) (jP.cons hgn_168 (jf.raw (C := RX8) (T := TX8) (N := 5) rfl hraw_167 (i := 2) (by decide)) (jP.cons hgn_168 (jf.raw (C := RX8) (T := TX8) (N := 5) rfl hraw_167 (i := 3) (by decide)) (jP.cons hgn_168 (jf.raw (C := RX8) (T := TX8) (N := 5) rfl hraw_167 (i := 4) (by decide)) jP.nil)))))
          have hM_168 : jNk [1, 2, 11] G_159 (va_up G_159 r0 (some (10, 0))) := jNk.new (by decide)
          have hd_177 := jYb.grow (hh_176.iv 0 rfl) hle_168 hM_168 (by decide)
          have hh_178 := hh_176.sub (L1 := [(r0, 10, 0, .ref H_150.size), (r0, 10, 1, .null), (r0, 10, 2, .int 0), (r0, 10, 3, .int 0), (r0, 10, 4, .int (-1)), (H_150.size, 2, 1, .int qc_159), (H_150.size, 2, 0, .ref qa_159), (r1, 6, 7, .int pv), (r1, 6, 0, .ref wk), (r1, 6, 1, .ref wi), (r1, 6, 2, .ref wz)]) [0, 1, 2, 3, 4, 5, 6, 7, 8, 9, 10] rfl (M1 := [(wk, 140, 1502, ca 1, fk), (wi, 141, 1502, ca 1, fi), (wz, 142, 1502, ca 1, fz)]) [0, 1, 2] rfl (I1 := [([(2, 0), (2, 1)], jOl (dC, dI) G0 2 [] s.heap)]) [1] rfl
          clear hh_176
          have hh_179 := hh_178.addI (jYb.ie hd_177)
          clear hh_178
          refine lv_iload_n hx hb dX8_init_76 rfl (lv_at hl 1 rfl) ?_
          refine lv_if_eq (tgt := 95) hx hb dX8_init_77 (by decide) (fun c_180 => ?_) (fun c_180 => ?_)
          · skip
            exact absurd c_180 (by decide)
          · skip
            refine lv_aload_n hx hb dX8_init_80 rfl (lv_at hl 2 rfl) ?_
            refine j7_read hx hb hown hK (C := RX8) (T := TX8) (N := 5) rfl hly_10_0 hlk_29 (hh_179.at 0 rfl) dX8_init_81 ?_
            refine lv_aload_n hx hb dX8_init_84 rfl (lv_at hl 3 rfl) ?_
            refine lv_iload_n hx hb dX8_init_85 rfl (lv_at hl 4 rfl) ?_
            have hsz_181 := hh_179.2.2.2.2.2.1
            have htt_181 := hh_179.2.2.2.2.2.2.1
            refine W.room (fun hrc_181 hrs_181 => ?_)
            refine va_calli (A0 := jA base) (H0 := s.heap) (va_runV (As := [.int a2]) (rest := [.ref H_150.size]) ⟨hx, hb, hml, hown, hts⟩ (uX4_valueOf l dC dI ca base B hB hAp hB6 hB141 (va_up G_159 r0 (some (10, 0))) H_167 r1 a2) (cwV 1 hts (jgV (jWr_24 _ (List.mem_of_getElem? (i := 11) rfl)) (jWr_24 _ (List.mem_of_getElem? (i := 12) rfl)) (jWr_24 _ (List.mem_of_getElem? (i := 13) rfl)) (jWr_1 _ (List.mem_of_getElem? (i := 22) rfl)) (jWr_24 _ (List.mem_of_getElem? (i := 14) rfl))) rfl rfl rfl (by decide +kernel) ⟨by rw [← hR]; exact Nat.le_of_ble_eq_true rfl, by rw [← hR]; exact Nat.le_of_ble_eq_true rfl⟩) ⟨fun a U g mk q => by obtain ⟨q0, q1, q2, qK, q10, q11, q12⟩ := q; exact ⟨q0, q1, q2, jG.calling g mk a qK, q10, q11, q12⟩, hh_179.recv (C := RX4) (T := TX4) (N := 12) hB6 rfl (by decide) hg_169 hK, fun U hU hW => ⟨rfl, hU, hh_179.2.1, hG.step hW hU hh_179.1, hg_169, jP.nil, trivial⟩⟩ rfl rfl hl.1 rfl (lv_room (Nat.le_of_ble_eq_true rfl)) dX8_init_86 ⟨by rw [hRc]; show _ + 0 ≤ _; omega, by rw [hRs]; show _ + 0 ≤ _; omega⟩) hh_179.1 (fun q _ h => h) (fun q h => h) (fun r_182 u_181 t_181 H_181 locs_181 ht_181 hvm_181 hr_182 hb_181 hz_181 hk_181 hS_181 => ?_)
            rw [ht_181] at hb_181
            obtain ⟨hb_1811, hb_1812, hb_1813, hb_1814, hb_1815⟩ := hb_181
            have hh_181 : jSt (dC, dI) B base G0 (va_up G_159 r0 (some (10, 0))) EX8_init s.heap ((0 + 1) + (1)) ((0 + 2) + ((16 : Int).toNat)) [(r0, 10, 0, .ref H_150.size), (r0, 10, 1, .null), (r0, 10, 2, .int 0), (r0, 10, 3, .int 0), (r0, 10, 4, .int (-1)), (H_150.size, 2, 1, .int qc_159), (H_150.size, 2, 0, .ref qa_159), (r1, 6, 7, .int pv), (r1, 6, 0, .ref wk), (r1, 6, 1, .ref wi), (r1, 6, 2, .ref wz)] [(wk, 140, 1502, ca 1, fk), (wi, 141, 1502, ca 1, fi), (wz, 142, 1502, ca 1, fz)] [(jFy, jYb dC dI (va_up G_159 r0 (some (10, 0)))), ([(2, 0), (2, 1)], jOl (dC, dI) G0 2 [] s.heap)] H_181 locs_181 := ((hh_179.call hb_1811 hb_1812 hb_1813 hb_1814 hS_181 rfl (L1 := [(r0, 10, 0, .ref H_150.size), (r0, 10, 1, .null), (r0, 10, 2, .int 0), (r0, 10, 3, .int 0), (r0, 10, 4, .int (-1)), (H_150.size, 2, 1, .int qc_159), (H_150.size, 2, 0, .ref qa_159), (r1, 6, 7, .int pv), (r1, 6, 0, .ref wk), (r1, 6, 1, .ref wi), (r1, 6, 2, .ref wz)]) [0, 1, 2, 3, 4, 5, 6, 7, 8, 9, 10] rfl rfl (M1 := [(wk, 140, 1502, ca 1, fk), (wi, 141, 1502, ca 1, fi), (wz, 142, 1502, ca 1, fz)]) [0, 1, 2] rfl rfl (I1 := [(jFy, jYb dC dI (va_up G_159 r0 (some (10, 0)))), ([(2, 0), (2, 1)], jOl (dC, dI) G0 2 [] s.heap)]) [0, 1] rfl rfl).more hb_1815)
            clear hh_179 ht_181 hvm_181 hz_181 hk_181 hS_181 hb_1811 hb_1812 hb_1813 hb_1814 hb_1815
            have hsz_183 := hh_181.2.2.2.2.2.1
            have htt_183 := hh_181.2.2.2.2.2.2.1
            refine W.room (fun hrc_183 hrs_183 => ?_)
            refine va_callv (A0 := jA base) (H0 := s.heap) (va_runV (As := [.int r_182]) (rest := []) ⟨hx, hb, hml, hown, hts⟩ (uX0_numberS l dC dI ca base B hB hAp hB2 hB196 (va_up G_159 r0 (some (10, 0))) H_181 H_150.size r_182 qc_159 qa_159 m_qa_159 LC LS) (cwV 1 hts (jgV (jWr_24 _ (List.mem_of_getElem? (i := 15) rfl)) (jWr_24 _ (List.mem_of_getElem? (i := 16) rfl)) (jWr_24 _ (List.mem_of_getElem? (i := 17) rfl)) (jWr_1 _ (List.mem_of_getElem? (i := 14) rfl)) (jWr_24 _ (List.mem_of_getElem? (i := 18) rfl))) rfl rfl rfl (by decide +kernel) ⟨by rw [← hR]; exact Nat.le_of_ble_eq_true rfl, by rw [← hR]; exact Nat.le_of_ble_eq_true rfl⟩) ⟨fun a U g mk q => by obtain ⟨q0, q1, q2, qK, q10, q11, q12, q13⟩ := q; exact ⟨q0, q1, q2, jG.calling g mk a qK, q10, q11, q12, q13⟩, hh_181.recv (C := RX0) (T := TX0) (N := 2) hB2 rfl (by decide) hg_175 hK, fun U hU hW => ⟨rfl, hU, hh_181.2.1, hG.step hW hU hh_181.1, hg_175, hg_170, (hh_181.2.2.1.sub (L1 := [(H_150.size, 2, 1, .int qc_159), (H_150.size, 2, 0, .ref qa_159)]) [5, 6] rfl), (by omega), (by omega), ⟨(by first | omega | rfl | assumption | exact jPw.z16.cg (by omega)), (by first | omega | rfl | assumption | exact jPw.z16.cg (by omega)), (by first | omega | rfl | assumption | exact jPw.z16.cg (by omega)), (by first | omega | rfl | assumption | exact jPw.z16.cg (by omega)), (by first | assumption | exact jPw.z16.cg (by omega) | omega), (by first | omega | rfl | assumption | exact jPw.z16.cg (by omega))⟩⟩⟩ rfl rfl hl.1 rfl (lv_room (Nat.le_of_ble_eq_true rfl)) dX8_init_89 ⟨by rw [hRc]; omega, by rw [hRs]; omega⟩) hh_181.1 (fun q _ h => h) (fun q h => h) (fun u_183 t_183 H_183 locs_183 ht_183 hvm_183 hr_184 hb_183 hz_183 hk_183 hS_183 => ?_)
            obtain ⟨qc_183, qa_183, m_qa_183, G_183⟩ := u_183
            rw [ht_183] at hb_183
            simp only at hb_183
            obtain ⟨⟨hb_1831, hb_1832, hb_1833, hb_1834, hb_1835, hb_1836⟩, hgq_183_0, hN_183, hbO_183⟩ := hb_183
            have hY_183 := hN_183
            have hN_183 : (jNk [0, 1, 3, 4, 5, 6, 7, 8, 9, 11, 12, 13, 14, 15, 16]) (va_up G_159 r0 (some (10, 0))) G_183 := hN_183.sub (by decide)
            have hy_185 := hh_181.iv 0 rfl
            have hh_183 : jSt (dC, dI) B base G0 G_183 EX8_init s.heap (((0 + 1) + (1)) + ((m_qa_183 - m_qa_159) / 16)) (((0 + 2) + ((16 : Int).toNat)) + (2 * (m_qa_183 - m_qa_159))) [(H_150.size, 2, 1, .int qc_183), (H_150.size, 2, 0, .ref qa_183), (r0, 10, 0, .ref H_150.size), (r0, 10, 1, .null), (r0, 10, 2, .int 0), (r0, 10, 3, .int 0), (r0, 10, 4, .int (-1)), (r1, 6, 7, .int pv), (r1, 6, 0, .ref wk), (r1, 6, 1, .ref wi), (r1, 6, 2, .ref wz)] [(wk, 140, 1502, ca 1, fk), (wi, 141, 1502, ca 1, fi), (wz, 142, 1502, ca 1, fz)] [] H_183 locs_183 := (hh_181.callG hb_1831 hb_1832 hb_1833 hb_1834 hb_1835 hS_183 rfl (L1 := [(r0, 10, 0, .ref H_150.size), (r0, 10, 1, .null), (r0, 10, 2, .int 0), (r0, 10, 3, .int 0), (r0, 10, 4, .int (-1)), (r1, 6, 7, .int pv), (r1, 6, 0, .ref wk), (r1, 6, 1, .ref wi), (r1, 6, 2, .ref wz)]) [0, 1, 2, 3, 4, 7, 8, 9, 10] rfl rfl (M1 := [(wk, 140, 1502, ca 1, fk), (wi, 141, 1502, ca 1, fi), (wz, 142, 1502, ca 1, fz)]) [0, 1, 2] rfl rfl (I1 := []) [] rfl rfl).more hb_1836
            have hNn_183 : (jNk [0, 1, 3, 4, 5, 6, 7, 8, 9, 11, 12, 13, 14, 15, 16]) G0 G_183 := (hNn_168).tr hN_183
            have hg_186 := hb_1832 _ _ hgn_168
            have hg_187 := hb_1832 _ _ hg_169
            have hg_188 := hb_1832 _ _ hg_175
            have hg_189 := hb_1832 _ _ hg_171
            have hg_190 := hb_1832 _ _ hg_172
            have hg_191 := hb_1832 _ _ hg_173
            have hd_192 := jOl.trN (hh_181.iv 1 rfl) hh_181.2.2.2.2.1 hbO_183 (hnew0 _ hsy_155)
            have hh_193 := hh_183.addI (jOl.ie (dC := dC) (dI := dI) (G0 := G0) (k := 2) (rs := []) (H0 := s.heap) (F := [(2, 0), (2, 1)]) (C := RX0) (T := TX0) (N := 2) rfl (by decide) hh_183.2.2.2.2.1 (hd_192))
            clear hh_183
            have hyp_183 : qc_183.toInt ≤ (m_qa_183 : Nat) ∧ m_qa_183 ≤ 1048576 := by (try simp only at hr_184); omega
            have hy_194 := jYb.own hy_185 hbO_183 hb_1832 hY_183 (by decide) (fun _ => ⟨_, _, _, hh_193.at 0 rfl, hh_193.at 1 rfl, hgq_183_0, hyp_183⟩)
            have hh_195 := hh_193.addI (jYb.ie hy_194)
            clear hh_193
            try simp only at hr_184
            obtain ⟨hr_184_0, hr_184_1, hr_184_2, hr_184_3, hr_184_4, hr_184_5⟩ := hr_184
            refine lv_goto (tgt := 120) hx hb dX8_init_92 (by decide) ?_
            have hsz_196 := hh_195.2.2.2.2.2.1
            have htt_196 := hh_195.2.2.2.2.2.2.1
            refine W.room (fun hrc_196 hrs_196 => ?_)
            refine W.widen (k := LC - s.heap.size) (n := LS - jTot s.heap) (by omega) (by omega) ?_
            rw [hQ]
            exact W.vret hx hb hr (fun t ht hW => ⟨⟨G_183, rfl, trivial, ⟨hh_195.ra (by first | omega | (simp only; omega)) (by first | omega | (simp only; omega)) (M1 := []) [] rfl ht, hNn_183, by rw [ht]; exact hh_195.iv 1 rfl, hg_186, by rw [ht]; exact hh_195.2.2.2.2.2.2.2.2.sub (L1 := [(jFy, jYb dC dI G_183)]) [0] rfl⟩⟩, by rw [ht]; try exact hh_195.1.1, fun q h9 hq => by rw [ht]; try exact hh_195.1.2.1 q h9 hq⟩) hh_195.1.2.2 dX8_init_120
        · skip
          exact absurd c_154 (by decide)
      · skip
        have c_153' : r_151.toInt ≤ 20 := jb_gt_n (rfl) ((by decide)) c_153
        first | (have hr_151q := hr_151.resolve_left (by omega); clear hr_151) | (have hr_151q := hr_151.resolve_right (by omega); clear hr_151) | try clear hr_151
        refine lv_iconst (v := 1) hx hb dX8_init_43 (by decide) ?_
        refine lv_goto (tgt := 48) hx hb dX8_init_44 (by decide) ?_
        refine lv_istore (lv' := [(4, .int 1), (3, .int 1), (0, .ref r0), (1, .ref r1), (2, .int a2)]) hx hb dX8_init_48 hl (by decide) rfl (fun ls hl => ?_)
        refine lv_aload_n hx hb dX8_init_50 rfl (lv_at hl 2 rfl) ?_
        refine lv_iload_n hx hb dX8_init_51 rfl (lv_at hl 1 rfl) ?_
        refine lv_if_ne (tgt := 60) hx hb dX8_init_52 (by decide) (fun c_197 => ?_) (fun c_197 => ?_)
        · skip
          have hsz_198 := hh_150.2.2.2.2.2.1
          have htt_198 := hh_150.2.2.2.2.2.2.1
          refine j7_newo (k := 2) (C := RX0) (T := TX0) (N := 2) (fs := [.null, .int 0]) hx hb htw jWc_wsX00 (fun k => ([(.array .byte), .int] : List FieldType).getD k .int) (by decide +kernel) hown (htw (.classLink RX8 24 RX0) (jWr_24 _ (List.mem_of_getElem? (i := 3) rfl))) (htw (.instantiable RX0 2) (jWr_1 _ (List.mem_of_getElem? (i := 13) rfl))) (htw (.initialized RX0) (jWr_1 _ (List.mem_of_getElem? (i := 14) rfl))) hK rfl (fun j hj => by rcases (by omega : j = 0 ∨ j = 1) with rfl | rfl <;> rfl) hh_150 hB (by rw [hRc]; omega) (by rw [hRs]; omega) dX8_init_60 (fun H_198 hraw_198 hfr_198 hnr_198 hh_198 => ?_)
          have hlt_199 := hraw_152.lt
          have hke_198 : jKe G0 G0 H_150 H_198 := jKe.raw hfr_198
          have hbr_198 : base ≤ H_150.size := Nat.le_trans hbs hh_150.1.1
          have hsy_198 : s.heap.size ≤ H_150.size := hh_150.1.1
          clear hh_150
          have hraw_200n := hke_198.nr hraw_152.lt hnr0
          have hraw_200 := hraw_152.kept (hke_198.1 _ hraw_152.lt)
          have hne_201 : r0 ≠ H_150.size := Nat.ne_of_lt hlt_199
          refine lv_dup hx hb dX8_init_63 rfl ?_
          refine lv_bipush (v := 16) hx hb dX8_init_64 (by decide) ?_
          have hsz_202 := hh_198.2.2.2.2.2.1
          have htt_202 := hh_198.2.2.2.2.2.2.1
          refine W.room (fun hrc_202 hrs_202 => ?_)
          refine va_callv (A0 := jA base) (H0 := s.heap) (va_runI (As := [.int 16]) (rest := [.ref H_150.size, .ref r0]) ⟨hx, hb, hml, hown, hts⟩ (uX0_initY l dC dI ca base B hB hAp hB2 hB196 G0 H_198 H_150.size 16 0 LC LS) (cwI 1 hts (jgW (jWr_3 _ (List.mem_of_getElem? (i := 3) rfl))) rfl rfl rfl (htw (.initialized RX0) (jWr_1 _ (List.mem_of_getElem? (i := 14) rfl))) (htw (.methodLink RX8 26 yX0_init) (jWr_24 _ (List.mem_of_getElem? (i := 10) rfl))) (htw (.instanceMethod yX0_init) (jWr_3 _ (List.mem_of_getElem? (i := 2) rfl))) rfl (by decide +kernel) ⟨by rw [← hR]; exact Nat.le_of_ble_eq_true rfl, by rw [← hR]; exact Nat.le_of_ble_eq_true rfl⟩) ⟨fun a U g mk q => by obtain ⟨q0, q1, q2, qK, q10, q11, q12, q13, q14, q15⟩ := q; exact ⟨q0, q1, q2, jG.calling g mk a qK, q10, q11, q12, q13, q14, q15⟩, fun U hU hW => ⟨rfl, hU, hh_198.2.1, hG.step hW hU hh_198.1, hraw_198, hnr_198, hbr_198, jP.nil, (hh_198.2.2.2.2.2.2.2.2.sub (L1 := [(jFy, jYb dC dI G0)]) [1] rfl), (by omega), (by omega), ⟨(by first | omega | rfl | assumption | exact fun _ => jPw.z16), (by first | omega | rfl | assumption | exact fun _ => jPw.z16), (by first | omega | rfl | assumption | exact fun _ => jPw.z16), (by first | assumption | exact fun _ => jPw.z16 | omega)⟩⟩⟩ rfl rfl hl.1 rfl (lv_room (Nat.le_of_ble_eq_true rfl)) dX8_init_66 ⟨by rw [hRc]; omega, by rw [hRs]; omega⟩) hh_198.1 (fun q _ h => h) (fun q h => h) (fun u_202 t_202 H_202 locs_202 ht_202 hvm_202 hr_203 hb_202 hz_202 hk_202 hS_202 => ?_)
          obtain ⟨qc_202, qa_202, m_qa_202, G_202⟩ := u_202
          rw [ht_202] at hb_202
          simp only at hb_202
          obtain ⟨⟨hb_2021, hb_2022, hb_2023, hb_2024, hb_2025, hb_2026⟩, hgq_202_0, hN_202, hgc_202, hbX_202, hbE_202⟩ := hb_202
          have hN_202 : (jNk [0, 1, 3, 4, 5, 6, 7, 8, 9, 11, 12, 13, 14, 15, 16]) G0 G_202 := hN_202.sub (by decide)
          have hh_202 : jSt (dC, dI) B base G0 G_202 EX8_init s.heap ((0 + 1) + (1)) ((0 + 2) + ((16 : Int).toNat)) [(H_150.size, 2, 1, .int qc_202), (H_150.size, 2, 0, .ref qa_202), (r1, 6, 7, .int pv), (r1, 6, 0, .ref wk), (r1, 6, 1, .ref wi), (r1, 6, 2, .ref wz)] [(wk, 140, 1502, ca 1, fk), (wi, 141, 1502, ca 1, fi), (wz, 142, 1502, ca 1, fz)] [([(2, 0), (2, 1)], jOl (dC, dI) G0 2 [] s.heap)] H_202 locs_202 := (hh_198.callG hb_2021 hb_2022 hb_2023 hb_2024 hb_2025 hS_202 rfl (L1 := [(r1, 6, 7, .int pv), (r1, 6, 0, .ref wk), (r1, 6, 1, .ref wi), (r1, 6, 2, .ref wz)]) [0, 1, 2, 3] rfl rfl (M1 := [(wk, 140, 1502, ca 1, fk), (wi, 141, 1502, ca 1, fi), (wz, 142, 1502, ca 1, fz)]) [0, 1, 2] rfl rfl (I1 := [([(2, 0), (2, 1)], jOl (dC, dI) G0 2 [] s.heap)]) [0] rfl rfl).more hb_2026
          have hNn_202 : (jNk [0, 1, 3, 4, 5, 6, 7, 8, 9, 11, 12, 13, 14, 15, 16]) G0 G_202 := (jNk.rf).tr hN_202
          have hg_204 := hb_2022 _ _ hg_r1
          have hg_205 := hb_2022 _ _ hg_wk
          have hg_206 := hb_2022 _ _ hg_wi
          have hg_207 := hb_2022 _ _ hg_wz
          have hh_208 := hh_202.addIs hbE_202
          try simp only at hr_203
          obtain ⟨hr_203_0, hr_203_1⟩ := hr_203
          have hraw_209x := hbX_202.ke hraw_200.lt hne_201 hraw_200n
          have hraw_209 := hraw_200.kept hraw_209x.1
          refine lv_goto (tgt := 73) hx hb dX8_init_69 (by decide) ?_
          refine j7_putRF hx hb hown hK hh_208 hB hAp hraw_209 hraw_209x.2 hbr0 (C := RX8) (T := TX8) (N := 5) rfl (i := 0) (by decide) (Nat.le_of_ble_eq_true rfl) hly_10_0 rfl hin2 rfl hlk_29 (ty := (.object "ProofServer$Bytes")) (v := .ref H_150.size) (by decide +kernel) rfl rfl dX8_init_73 (fun H_210 locs_210 hraw_210 hr_210 hh_210 => ?_)
          have hraw_210 : va_at (dC, dI) vwCl (r0, .inr (10, [.ref H_150.size, .null, .int 0, .int 0, .int (-1)])) H_210 := hraw_210
          clear hh_208
          have hle_211 : jLe G_202 (va_up G_202 r0 (some (10, 0))) := jLe.typ hraw_209x.2
          have hg_212 := hle_211 _ _ hg_204
          have hg_213 := hle_211 _ _ hgq_202_0
          have hg_214 := hle_211 _ _ hg_205
          have hg_215 := hle_211 _ _ hg_206
          have hg_216 := hle_211 _ _ hg_207
          have hg_217 := (jLe.rf).tr hle_211 _ _ hgc_202
          have hfa_211 : jRn (va_up G_202 r0 (some (10, 0))) 2 0 (.ref H_150.size) ∧ jRn (va_up G_202 r0 (some (10, 0))) 3 0 (.null) ∧ jIa (.int 0) ∧ jZb (.int 0) ∧ jIa (.int (-1)) ∧ True := ⟨Or.inr ⟨_, rfl, hg_217⟩, Or.inl rfl, ⟨_, rfl⟩, ⟨_, rfl, Or.inl rfl⟩, ⟨_, rfl⟩, trivial⟩
          have hh_211 := hh_210.typ (k := 10) (n := 0) hB hraw_209x.2 hbr0 hraw_210.lt (jOb.of (C := RX8) (T := TX8) (N := 5) (F := F10) hB10 rfl hraw_210 (show jFx (F10 0 (va_up G_202 r0 (some (10, 0)))) [.ref H_150.size, .null, .int 0, .int 0, .int (-1)] from hfa_211))
          have hgn_211 : (va_up G_202 r0 (some (10, 0))) r0 = some (10, 0) := jUp_self
          have hN_211 : (jNk [0, 1, 3, 4, 5, 6, 7, 8, 9, 11, 12, 13, 14, 15, 16]) G_202 (va_up G_202 r0 (some (10, 0))) := jNk.new (by decide)
          have hNn_211 : (jNk [0, 1, 3, 4, 5, 6, 7, 8, 9, 11, 12, 13, 14, 15, 16]) G0 (va_up G_202 r0 (some (10, 0))) := (hNn_202).tr hN_211
          have hg_218 := (hle_211) _ _ hgc_202
          have hh_219 := hh_211.more (P1 := [(r0, 10, 0, .ref H_150.size), (r0, 10, 1, .null), (r0, 10, 2, .int 0), (r0, 10, 3, .int 0), (r0, 10, 4, .int (-1))]) (jP.cons hgn_211 (jf.raw (C := RX8) (T := TX8) (N := 5) rfl hraw_210 (i := 0) (by decide)) (jP.cons hgn_211 (jf.raw (C := RX8) (T := TX8) (N := 5) rfl hraw_210 (i := 1) (by decide)) (jP.cons hgn_211 (jf.raw (C := RX8) (T := TX8) (N := 5) rfl hraw_210 (i := 2) (by decide)) (jP.cons hgn_211 (jf.raw (C := RX8) (T := TX8) (N := 5) rfl hraw_210 (i := 3) (by decide)) (jP.cons hgn_211 (jf.raw (C := RX8) (T := TX8) (N := 5) rfl hraw_210 (i := 4) (by decide)) jP.nil)))))
          have hM_211 : jNk [1, 2, 11] G_202 (va_up G_202 r0 (some (10, 0))) := jNk.new (by decide)
          have hd_220 := jYb.grow (hh_219.iv 0 rfl) hle_211 hM_211 (by decide)
          have hh_221 := hh_219.sub (L1 := [(r0, 10, 0, .ref H_150.size), (r0, 10, 1, .null), (r0, 10, 2, .int 0), (r0, 10, 3, .int 0), (r0, 10, 4, .int (-1)), (H_150.size, 2, 1, .int qc_202), (H_150.size, 2, 0, .ref qa_202), (r1, 6, 7, .int pv), (r1, 6, 0, .ref wk), (r1, 6, 1, .ref wi), (r1, 6, 2, .ref wz)]) [0, 1, 2, 3, 4, 5, 6, 7, 8, 9, 10] rfl (M1 := [(wk, 140, 1502, ca 1, fk), (wi, 141, 1502, ca 1, fi), (wz, 142, 1502, ca 1, fz)]) [0, 1, 2] rfl (I1 := [([(2, 0), (2, 1)], jOl (dC, dI) G0 2 [] s.heap)]) [1] rfl
          clear hh_219
          have hh_222 := hh_221.addI (jYb.ie hd_220)
          clear hh_221
          refine lv_iload_n hx hb dX8_init_76 rfl (lv_at hl 1 rfl) ?_
          refine lv_if_eq (tgt := 95) hx hb dX8_init_77 (by decide) (fun c_223 => ?_) (fun c_223 => ?_)
          · skip
            exact absurd c_223 (by decide)
          · skip
            refine lv_aload_n hx hb dX8_init_80 rfl (lv_at hl 2 rfl) ?_
            refine j7_read hx hb hown hK (C := RX8) (T := TX8) (N := 5) rfl hly_10_0 hlk_29 (hh_222.at 0 rfl) dX8_init_81 ?_
            refine lv_aload_n hx hb dX8_init_84 rfl (lv_at hl 3 rfl) ?_
            refine lv_iload_n hx hb dX8_init_85 rfl (lv_at hl 4 rfl) ?_
            have hsz_224 := hh_222.2.2.2.2.2.1
            have htt_224 := hh_222.2.2.2.2.2.2.1
            refine W.room (fun hrc_224 hrs_224 => ?_)
            refine va_calli (A0 := jA base) (H0 := s.heap) (va_runV (As := [.int a2]) (rest := [.ref H_150.size]) ⟨hx, hb, hml, hown, hts⟩ (uX4_valueOf l dC dI ca base B hB hAp hB6 hB141 (va_up G_202 r0 (some (10, 0))) H_210 r1 a2) (cwV 1 hts (jgV (jWr_24 _ (List.mem_of_getElem? (i := 11) rfl)) (jWr_24 _ (List.mem_of_getElem? (i := 12) rfl)) (jWr_24 _ (List.mem_of_getElem? (i := 13) rfl)) (jWr_1 _ (List.mem_of_getElem? (i := 22) rfl)) (jWr_24 _ (List.mem_of_getElem? (i := 14) rfl))) rfl rfl rfl (by decide +kernel) ⟨by rw [← hR]; exact Nat.le_of_ble_eq_true rfl, by rw [← hR]; exact Nat.le_of_ble_eq_true rfl⟩) ⟨fun a U g mk q => by obtain ⟨q0, q1, q2, qK, q10, q11, q12⟩ := q; exact ⟨q0, q1, q2, jG.calling g mk a qK, q10, q11, q12⟩, hh_222.recv (C := RX4) (T := TX4) (N := 12) hB6 rfl (by decide) hg_212 hK, fun U hU hW => ⟨rfl, hU, hh_222.2.1, hG.step hW hU hh_222.1, hg_212, jP.nil, trivial⟩⟩ rfl rfl hl.1 rfl (lv_room (Nat.le_of_ble_eq_true rfl)) dX8_init_86 ⟨by rw [hRc]; show _ + 0 ≤ _; omega, by rw [hRs]; show _ + 0 ≤ _; omega⟩) hh_222.1 (fun q _ h => h) (fun q h => h) (fun r_225 u_224 t_224 H_224 locs_224 ht_224 hvm_224 hr_225 hb_224 hz_224 hk_224 hS_224 => ?_)
            rw [ht_224] at hb_224
            obtain ⟨hb_2241, hb_2242, hb_2243, hb_2244, hb_2245⟩ := hb_224
            have hh_224 : jSt (dC, dI) B base G0 (va_up G_202 r0 (some (10, 0))) EX8_init s.heap ((0 + 1) + (1)) ((0 + 2) + ((16 : Int).toNat)) [(r0, 10, 0, .ref H_150.size), (r0, 10, 1, .null), (r0, 10, 2, .int 0), (r0, 10, 3, .int 0), (r0, 10, 4, .int (-1)), (H_150.size, 2, 1, .int qc_202), (H_150.size, 2, 0, .ref qa_202), (r1, 6, 7, .int pv), (r1, 6, 0, .ref wk), (r1, 6, 1, .ref wi), (r1, 6, 2, .ref wz)] [(wk, 140, 1502, ca 1, fk), (wi, 141, 1502, ca 1, fi), (wz, 142, 1502, ca 1, fz)] [(jFy, jYb dC dI (va_up G_202 r0 (some (10, 0)))), ([(2, 0), (2, 1)], jOl (dC, dI) G0 2 [] s.heap)] H_224 locs_224 := ((hh_222.call hb_2241 hb_2242 hb_2243 hb_2244 hS_224 rfl (L1 := [(r0, 10, 0, .ref H_150.size), (r0, 10, 1, .null), (r0, 10, 2, .int 0), (r0, 10, 3, .int 0), (r0, 10, 4, .int (-1)), (H_150.size, 2, 1, .int qc_202), (H_150.size, 2, 0, .ref qa_202), (r1, 6, 7, .int pv), (r1, 6, 0, .ref wk), (r1, 6, 1, .ref wi), (r1, 6, 2, .ref wz)]) [0, 1, 2, 3, 4, 5, 6, 7, 8, 9, 10] rfl rfl (M1 := [(wk, 140, 1502, ca 1, fk), (wi, 141, 1502, ca 1, fi), (wz, 142, 1502, ca 1, fz)]) [0, 1, 2] rfl rfl (I1 := [(jFy, jYb dC dI (va_up G_202 r0 (some (10, 0)))), ([(2, 0), (2, 1)], jOl (dC, dI) G0 2 [] s.heap)]) [0, 1] rfl rfl).more hb_2245)
            clear hh_222 ht_224 hvm_224 hz_224 hk_224 hS_224 hb_2241 hb_2242 hb_2243 hb_2244 hb_2245
            have hsz_226 := hh_224.2.2.2.2.2.1
            have htt_226 := hh_224.2.2.2.2.2.2.1
            refine W.room (fun hrc_226 hrs_226 => ?_)
            refine va_callv (A0 := jA base) (H0 := s.heap) (va_runV (As := [.int r_225]) (rest := []) ⟨hx, hb, hml, hown, hts⟩ (uX0_numberS l dC dI ca base B hB hAp hB2 hB196 (va_up G_202 r0 (some (10, 0))) H_224 H_150.size r_225 qc_202 qa_202 m_qa_202 LC LS) (cwV 1 hts (jgV (jWr_24 _ (List.mem_of_getElem? (i := 15) rfl)) (jWr_24 _ (List.mem_of_getElem? (i := 16) rfl)) (jWr_24 _ (List.mem_of_getElem? (i := 17) rfl)) (jWr_1 _ (List.mem_of_getElem? (i := 14) rfl)) (jWr_24 _ (List.mem_of_getElem? (i := 18) rfl))) rfl rfl rfl (by decide +kernel) ⟨by rw [← hR]; exact Nat.le_of_ble_eq_true rfl, by rw [← hR]; exact Nat.le_of_ble_eq_true rfl⟩) ⟨fun a U g mk q => by obtain ⟨q0, q1, q2, qK, q10, q11, q12, q13⟩ := q; exact ⟨q0, q1, q2, jG.calling g mk a qK, q10, q11, q12, q13⟩, hh_224.recv (C := RX0) (T := TX0) (N := 2) hB2 rfl (by decide) hg_218 hK, fun U hU hW => ⟨rfl, hU, hh_224.2.1, hG.step hW hU hh_224.1, hg_218, hg_213, (hh_224.2.2.1.sub (L1 := [(H_150.size, 2, 1, .int qc_202), (H_150.size, 2, 0, .ref qa_202)]) [5, 6] rfl), (by omega), (by omega), ⟨(by first | omega | rfl | assumption | exact jPw.z16.cg (by omega)), (by first | omega | rfl | assumption | exact jPw.z16.cg (by omega)), (by first | omega | rfl | assumption | exact jPw.z16.cg (by omega)), (by first | omega | rfl | assumption | exact jPw.z16.cg (by omega)), (by first | assumption | exact jPw.z16.cg (by omega) | omega), (by first | omega | rfl | assumption | exact jPw.z16.cg (by omega))⟩⟩⟩ rfl rfl hl.1 rfl (lv_room (Nat.le_of_ble_eq_true rfl)) dX8_init_89 ⟨by rw [hRc]; omega, by rw [hRs]; omega⟩) hh_224.1 (fun q _ h => h) (fun q h => h) (fun u_226 t_226 H_226 locs_226 ht_226 hvm_226 hr_227 hb_226 hz_226 hk_226 hS_226 => ?_)
            obtain ⟨qc_226, qa_226, m_qa_226, G_226⟩ := u_226
            rw [ht_226] at hb_226
            simp only at hb_226
            obtain ⟨⟨hb_2261, hb_2262, hb_2263, hb_2264, hb_2265, hb_2266⟩, hgq_226_0, hN_226, hbO_226⟩ := hb_226
            have hY_226 := hN_226
            have hN_226 : (jNk [0, 1, 3, 4, 5, 6, 7, 8, 9, 11, 12, 13, 14, 15, 16]) (va_up G_202 r0 (some (10, 0))) G_226 := hN_226.sub (by decide)
            have hy_228 := hh_224.iv 0 rfl
            have hh_226 : jSt (dC, dI) B base G0 G_226 EX8_init s.heap (((0 + 1) + (1)) + ((m_qa_226 - m_qa_202) / 16)) (((0 + 2) + ((16 : Int).toNat)) + (2 * (m_qa_226 - m_qa_202))) [(H_150.size, 2, 1, .int qc_226), (H_150.size, 2, 0, .ref qa_226), (r0, 10, 0, .ref H_150.size), (r0, 10, 1, .null), (r0, 10, 2, .int 0), (r0, 10, 3, .int 0), (r0, 10, 4, .int (-1)), (r1, 6, 7, .int pv), (r1, 6, 0, .ref wk), (r1, 6, 1, .ref wi), (r1, 6, 2, .ref wz)] [(wk, 140, 1502, ca 1, fk), (wi, 141, 1502, ca 1, fi), (wz, 142, 1502, ca 1, fz)] [] H_226 locs_226 := (hh_224.callG hb_2261 hb_2262 hb_2263 hb_2264 hb_2265 hS_226 rfl (L1 := [(r0, 10, 0, .ref H_150.size), (r0, 10, 1, .null), (r0, 10, 2, .int 0), (r0, 10, 3, .int 0), (r0, 10, 4, .int (-1)), (r1, 6, 7, .int pv), (r1, 6, 0, .ref wk), (r1, 6, 1, .ref wi), (r1, 6, 2, .ref wz)]) [0, 1, 2, 3, 4, 7, 8, 9, 10] rfl rfl (M1 := [(wk, 140, 1502, ca 1, fk), (wi, 141, 1502, ca 1, fi), (wz, 142, 1502, ca 1, fz)]) [0, 1, 2] rfl rfl (I1 := []) [] rfl rfl).more hb_2266
            have hNn_226 : (jNk [0, 1, 3, 4, 5, 6, 7, 8, 9, 11, 12, 13, 14, 15, 16]) G0 G_226 := (hNn_211).tr hN_226
            have hg_229 := hb_2262 _ _ hgn_211
            have hg_230 := hb_2262 _ _ hg_212
            have hg_231 := hb_2262 _ _ hg_218
            have hg_232 := hb_2262 _ _ hg_214
            have hg_233 := hb_2262 _ _ hg_215
            have hg_234 := hb_2262 _ _ hg_216
            have hd_235 := jOl.trN (hh_224.iv 1 rfl) hh_224.2.2.2.2.1 hbO_226 (hnew0 _ hsy_198)
            have hh_236 := hh_226.addI (jOl.ie (dC := dC) (dI := dI) (G0 := G0) (k := 2) (rs := []) (H0 := s.heap) (F := [(2, 0), (2, 1)]) (C := RX0) (T := TX0) (N := 2) rfl (by decide) hh_226.2.2.2.2.1 (hd_235))
            clear hh_226
            have hyp_226 : qc_226.toInt ≤ (m_qa_226 : Nat) ∧ m_qa_226 ≤ 1048576 := by (try simp only at hr_227); omega
            have hy_237 := jYb.own hy_228 hbO_226 hb_2262 hY_226 (by decide) (fun _ => ⟨_, _, _, hh_236.at 0 rfl, hh_236.at 1 rfl, hgq_226_0, hyp_226⟩)
            have hh_238 := hh_236.addI (jYb.ie hy_237)
            clear hh_236
            try simp only at hr_227
            obtain ⟨hr_227_0, hr_227_1, hr_227_2, hr_227_3, hr_227_4, hr_227_5⟩ := hr_227
            refine lv_goto (tgt := 120) hx hb dX8_init_92 (by decide) ?_
            have hsz_239 := hh_238.2.2.2.2.2.1
            have htt_239 := hh_238.2.2.2.2.2.2.1
            refine W.room (fun hrc_239 hrs_239 => ?_)
            refine W.widen (k := LC - s.heap.size) (n := LS - jTot s.heap) (by omega) (by omega) ?_
            rw [hQ]
            exact W.vret hx hb hr (fun t ht hW => ⟨⟨G_226, rfl, trivial, ⟨hh_238.ra (by first | omega | (simp only; omega)) (by first | omega | (simp only; omega)) (M1 := []) [] rfl ht, hNn_226, by rw [ht]; exact hh_238.iv 1 rfl, hg_229, by rw [ht]; exact hh_238.2.2.2.2.2.2.2.2.sub (L1 := [(jFy, jYb dC dI G_226)]) [0] rfl⟩⟩, by rw [ht]; try exact hh_238.1.1, fun q h9 hq => by rw [ht]; try exact hh_238.1.2.1 q h9 hq⟩) hh_238.1.2.2 dX8_init_120
        · skip
          exact absurd c_197 (by decide)
end
section
def EX4_isTextQ : List (Nat × Nat) := []
set_option maxHeartbeats 4000000 in
set_option maxRecDepth 20000 in
theorem uX4_isTextQ (l : Launch) (dC : Nat → ClassId) (dI : Nat → Nat → Nat) (ca : Nat → ClassId) (base : Nat) (B : jF) (hB : jBok B) (hAp : jAp (dC, dI)) (hB6 : ∀ n G a H, B 6 n G a H ↔ jOb (dC, dI) 6 12 (F6 n G) a H) (hB140 : ∀ n G a H, B 140 n G a H ↔ jAr (dC, dI) (ca 1) (fun j z => True) n a H) (hB141 : ∀ n G a H, B 141 n G a H ↔ jAr (dC, dI) (ca 1) (fun j z => True) n a H) (hB142 : ∀ n G a H, B 142 n G a H ↔ jAr (dC, dI) (ca 1) (fun j z => True) n a H) (hB146 : ∀ n G a H, B 146 n G a H ↔ jAr (dC, dI) (ca 1) (fun j z => True) n a H) (G0 : jT) (H0 : Heap) (r0 : Nat) (a1 : Int32) (r2 : Nat) (n2 : Nat) (pv : Int32) (wk : Nat) (wi : Nat) (wz : Nat) (fk : Nat → Int32) (fi : Nat → Int32) (fz : Nat → Int32) : Met l yX4_isText (jw yX4_isText cX4_isText 3 (some .boolean)) ({ frames := 5, cells := 0, slots := 0, locals := 165 }) (va_Pc [.ref r0, .int a1, .ref r2] (fun U => U.heap = H0 ∧ jX B base G0 [] H0 ∧ jG dC dI ca base U ∧ jStr base r2 n2 U H0 ∧ G0 r0 = some (6, 0) ∧ G0 wk = some (140, 1502) ∧ G0 wi = some (141, 1502) ∧ G0 wz = some (142, 1502) ∧ jP (dC, dI) G0 H0 [(r0, 6, 7, .int pv), (r0, 6, 0, .ref wk), (r0, 6, 1, .ref wi), (r0, 6, 2, .ref wz)] ∧ jMc (dC, dI) G0 H0 [(wk, 140, 1502, ca 1, fk), (wi, 141, 1502, ca 1, fi), (wz, 142, 1502, ca 1, fz)] ∧ 0 ≤ pv.toInt ∧ pv.toInt ≤ 1502 ∧ n2 ≤ 1000 ∧ jJq fk fi fz pv.toInt)) (va_Qi (S := Unit) (fun r u => (r = 0 ∨ r = 1) ∧ (r.toInt = 0 ∨ (0 ≤ a1.toInt ∧ a1.toInt < pv.toInt ∧ jSo fk a1.toInt = 3 ∧ jSo fz a1.toInt = n2))) (fun u t => (jRt (dC, dI) B base G0 EX4_isTextQ H0 [] t.heap) ∧ jKl [] H0 t.heap) (jA base)) 0 0 (jA base) := by
  refine Met.ofW (cc := cX4_isText) (maxL := 3) (ret := (some .boolean)) (by decide) rfl ?_
  intro p e s m args below meth c s₁ Bd hml hv
  obtain ⟨rfl, hH0, hX, hG, hstr_r2, hg_r0, hg_wk, hg_wi, hg_wz, hP0, hM0, hp0, hp1, hp2, hp3⟩ := hv
  have hK := hG.1
  have hx := Bd.exec
  have hb := Bd.bytes
  have hr := Bd.returns
  have hts := atoms_spec (ws := (jw yX4_isText cX4_isText 3 (some .boolean))) Bd.pre
  have htw : ∀ w ∈ jWl, w.before _ s = true := fun w h => hts w (List.mem_cons_of_mem _ h)
  have hown : s.vm.findClass RX4 = some m.cls := findClass_of_methodNamed Bd.named
  have hlocks := Bd.notSynchronized
  obtain ⟨Q, hQ⟩ : ∃ Q, Q = MQ below (va_Qi (S := Unit) (fun r u => (r = 0 ∨ r = 1) ∧ (r.toInt = 0 ∨ (0 ≤ a1.toInt ∧ a1.toInt < pv.toInt ∧ jSo fk a1.toInt = 3 ∧ jSo fz a1.toInt = n2))) (fun u t => (jRt (dC, dI) B base G0 EX4_isTextQ H0 [] t.heap) ∧ jKl [] H0 t.heap) (jA base)) ([.ref r0, .int a1, .ref r2] : List Value).toArray s 0 0 (jA base) := ⟨_, rfl⟩
  rw [← hQ]
  have hl := lv_entry ([.ref r0, .int a1, .ref r2]) (n := 3) (Nat.le_of_ble_eq_true rfl)
  rw [lg_entry_eq]
  generalize (lg_sl ([.ref r0, .int a1, .ref r2]) ++ List.replicate (3 - (lg_sl ([.ref r0, .int a1, .ref r2])).length) Slot.unset).toArray = ls at hl ⊢
  have hl : lv_has ls 3 [(0, .ref r0), (1, .int a1), (2, .ref r2)] := hl
  generalize hR : (headSpec (jw yX4_isText cX4_isText 3 (some .boolean)) ({ frames := 5, cells := 0, slots := 0, locals := 165 })).room = R
  subst hH0
  have hh : jSt (dC, dI) B base G0 G0 EX4_isTextQ s.heap 0 0 [(r0, 6, 7, .int pv), (r0, 6, 0, .ref wk), (r0, 6, 1, .ref wi), (r0, 6, 2, .ref wz)] [(wk, 140, 1502, ca 1, fk), (wi, 141, 1502, ca 1, fi), (wz, 142, 1502, ca 1, fz)] [] s.heap [] := jSt.start hX hP0 hM0 jIs.nil
  clear hX hP0
  have hk0 : (0 : Int32).toInt = 0 := by decide
  have hk1 : (1 : Int32).toInt = 1 := by decide
  have hk3 : (3 : Int32).toInt = 3 := by decide
  have hly_6_1 := htw (u_lay RX4 TX4 1) (jWc_wsX40 _ (u_in_lay (by decide)))
  have hly_6_2 := htw (u_lay RX4 TX4 2) (jWc_wsX40 _ (u_in_lay (by decide)))
  have hlk_15 := (htw (.fieldLink RX4 15 "ProofServer$Json" "firsts" "[I") (jWr_3 _ (List.mem_of_getElem? (i := 22) rfl)))
  have hlk_18 := (htw (.fieldLink RX4 18 "ProofServer$Json" "sizes" "[I") (jWr_3 _ (List.mem_of_getElem? (i := 23) rfl)))
  have hrg_a1 := jb_rng a1
  have hfl : jKl [] s.heap s.heap := jKl.rf
  refine lv_aload_n hx hb dX4_isText_0 rfl (lv_at hl 0 rfl) ?_
  refine lv_iload_n hx hb dX4_isText_1 rfl (lv_at hl 1 rfl) ?_
  refine va_calli (A0 := jA base) (H0 := s.heap) (va_runV (As := [.int a1]) (rest := []) ⟨hx, hb, hml, hown, hts⟩ (uX4_kindOfW l dC dI ca base B hB hAp hB6 hB140 G0 s.heap r0 a1 pv wk wi wz fk fi fz) (cwV 1 hts (jgV (jWr_23 _ (List.mem_of_getElem? (i := 14) rfl)) (jWr_23 _ (List.mem_of_getElem? (i := 15) rfl)) (jWr_23 _ (List.mem_of_getElem? (i := 16) rfl)) (jWr_1 _ (List.mem_of_getElem? (i := 22) rfl)) (jWr_23 _ (List.mem_of_getElem? (i := 17) rfl))) rfl rfl rfl (by decide +kernel) ⟨by rw [← hR]; exact Nat.le_of_ble_eq_true rfl, by rw [← hR]; exact Nat.le_of_ble_eq_true rfl⟩) ⟨fun a U g mk q => by obtain ⟨q0, q1, q2, qK, q10, q11, q12, q13, q14, q15, q16⟩ := q; exact ⟨q0, q1, q2, jG.calling g mk a qK, q10, q11, q12, q13, q14, q15, q16⟩, hh.recv (C := RX4) (T := TX4) (N := 12) hB6 rfl (by decide) hg_r0 hK, fun U hU hW => ⟨rfl, hU, hh.2.1, hG.step hW hU hh.1, hg_r0, hg_wk, hg_wi, hg_wz, (hh.2.2.1.sub (L1 := [(r0, 6, 7, .int pv), (r0, 6, 0, .ref wk), (r0, 6, 1, .ref wi), (r0, 6, 2, .ref wz)]) [0, 1, 2, 3] rfl), (hh.2.2.2.2.2.2.2.1.sub (L1 := [(wk, 140, 1502, ca 1, fk), (wi, 141, 1502, ca 1, fi), (wz, 142, 1502, ca 1, fz)]) [0, 1, 2] rfl), by first | omega | (refine ⟨?_, ?_⟩ <;> (first | omega | rfl | assumption | decide | exact Or.inl rfl | exact Or.inr rfl | (simp only; omega)))⟩⟩ rfl rfl hl.1 rfl (lv_room (Nat.le_of_ble_eq_true rfl)) dX4_isText_2 ⟨Nat.zero_le _, Nat.zero_le _⟩) hh.1 (fun q _ h => h) (fun q h => h) (fun r_2 u_1 t_1 H_1 locs_1 ht_1 hvm_1 hr_2 hb_1 hz_1 hk_1 hS_1 => ?_)
  rw [ht_1] at hb_1
  obtain ⟨hb_1, hbF_1⟩ := hb_1
  obtain ⟨hb_11, hb_12, hb_13, hb_14, hb_15⟩ := hb_1
  have hh_1 : jSt (dC, dI) B base G0 G0 EX4_isTextQ s.heap 0 0 [(r0, 6, 7, .int pv), (r0, 6, 0, .ref wk), (r0, 6, 1, .ref wi), (r0, 6, 2, .ref wz)] [(wk, 140, 1502, ca 1, fk), (wi, 141, 1502, ca 1, fi), (wz, 142, 1502, ca 1, fz)] [] H_1 locs_1 := ((hh.call hb_11 hb_12 hb_13 hb_14 hS_1 rfl (L1 := [(r0, 6, 7, .int pv), (r0, 6, 0, .ref wk), (r0, 6, 1, .ref wi), (r0, 6, 2, .ref wz)]) [0, 1, 2, 3] rfl rfl (M1 := [(wk, 140, 1502, ca 1, fk), (wi, 141, 1502, ca 1, fi), (wz, 142, 1502, ca 1, fz)]) [0, 1, 2] rfl rfl (I1 := []) [] rfl rfl).more hb_15)
  clear hh ht_1 hvm_1 hz_1 hk_1 hS_1 hb_11 hb_12 hb_13 hb_14 hb_15
  have hfl_3 := hfl.tr hbF_1 (by first | exact fun q h => h | (intro q h9; simp at h9 ⊢; exact h9) | (intro q h9; simp at h9))
  refine lv_iconst (v := 3) hx hb dX4_isText_5 (by decide) ?_
  refine lv_icmp_ne (tgt := 33) hx hb dX4_isText_6 (by decide) (fun c_4 => ?_) (fun c_4 => ?_)
  · skip
    have c_4' : r_2.toInt ≠ 3 := jb_ne (rfl) ((by decide)) c_4
    try clear hr_2
    refine lv_iconst (v := 0) hx hb dX4_isText_33 (by decide) ?_
    rw [hQ]
    exact W.zret (v := 0) hx hb hr (jb_nz (Or.inl rfl)) (fun t ht hW => ⟨⟨0, (), rfl, ⟨(Or.inl rfl), by first | omega | rfl | assumption | decide | exact Or.inl rfl | exact Or.inr rfl | (simp only; omega)⟩, ⟨hh_1.rt (M1 := []) [] rfl ht, by rw [ht]; exact hfl_3⟩⟩, by rw [ht]; try exact hh_1.1.1, fun q h9 hq => by rw [ht]; try exact hh_1.1.2.1 q h9 hq⟩) hh_1.1.2.2 dX4_isText_34
  · skip
    have c_4' : r_2.toInt = 3 := jb_ne_n (rfl) ((by decide)) c_4
    first | (have hr_2q := hr_2.resolve_left (by omega); clear hr_2) | (have hr_2q := hr_2.resolve_right (by omega); clear hr_2) | try clear hr_2
    have hj3 := hp3 a1.toInt (by omega) (by omega) (by omega)
    refine lv_aload_n hx hb dX4_isText_9 rfl (lv_at hl 0 rfl) ?_
    refine lv_aload_n hx hb dX4_isText_10 rfl (lv_at hl 0 rfl) ?_
    refine j7_read hx hb hown hK (C := RX4) (T := TX4) (N := 12) rfl hly_6_1 hlk_15 (hh_1.at 2 rfl) dX4_isText_11 ?_
    refine lv_iload_n hx hb dX4_isText_14 rfl (lv_at hl 1 rfl) ?_
    refine j7_ialdM hx hb hK hh_1 hB141 1 rfl (by decide) hg_wi (x := a1.toInt) (rfl) (by omega) (j := 1) rfl dX4_isText_15 (fun z_5 ez_5 (hz_5 : True) => ?_)
    have hqz_5 : z_5.toInt = jSo fi (a1.toInt) := by unfold jSo; rw [ez_5]
    refine lv_aload_n hx hb dX4_isText_16 rfl (lv_at hl 0 rfl) ?_
    refine j7_read hx hb hown hK (C := RX4) (T := TX4) (N := 12) rfl hly_6_2 hlk_18 (hh_1.at 3 rfl) dX4_isText_17 ?_
    refine lv_iload_n hx hb dX4_isText_20 rfl (lv_at hl 1 rfl) ?_
    refine j7_ialdM hx hb hK hh_1 hB142 1 rfl (by decide) hg_wz (x := a1.toInt) (rfl) (by omega) (j := 2) rfl dX4_isText_21 (fun z_6 ez_6 (hz_6 : True) => ?_)
    have hqz_6 : z_6.toInt = jSo fz (a1.toInt) := by unfold jSo; rw [ez_6]
    refine lv_aload_n hx hb dX4_isText_22 rfl (lv_at hl 2 rfl) ?_
    refine va_calli (A0 := jA base) (H0 := s.heap) (va_runV (As := [.int z_5, .int z_6, .ref r2]) (rest := []) ⟨hx, hb, hml, hown, hts⟩ (uX4_areUnitsQ l dC dI ca base B hB hAp hB6 hB146 G0 H_1 r0 z_5 z_6 r2 n2) (cwV 3 hts (jgV (jWr_23 _ (List.mem_of_getElem? (i := 18) rfl)) (jWr_23 _ (List.mem_of_getElem? (i := 19) rfl)) (jWr_23 _ (List.mem_of_getElem? (i := 20) rfl)) (jWr_1 _ (List.mem_of_getElem? (i := 22) rfl)) (jWr_23 _ (List.mem_of_getElem? (i := 21) rfl))) rfl rfl rfl (by decide +kernel) ⟨by rw [← hR]; exact Nat.le_of_ble_eq_true rfl, by rw [← hR]; exact Nat.le_of_ble_eq_true rfl⟩) ⟨fun a U g mk q => by obtain ⟨q0, q1, q2, qK, q10, q11, q12, q13⟩ := q; exact ⟨q0, q1, q2, jG.calling g mk a qK, (q10.moved (Vm.Alike.refl U.vm)), q11, q12, q13⟩, hh_1.recv (C := RX4) (T := TX4) (N := 12) hB6 rfl (by decide) hg_r0 hK, fun U hU hW => ⟨rfl, hU, hh_1.2.1, hG.step hW hU hh_1.1, (hstr_r2.moved hW.alike).kept hh_1.1.2.1, hg_r0, jP.nil, by first | omega | (refine ⟨?_, ?_⟩ <;> (first | omega | rfl | assumption | decide | exact Or.inl rfl | exact Or.inr rfl | (simp only; omega)))⟩⟩ rfl rfl hl.1 rfl (lv_room (Nat.le_of_ble_eq_true rfl)) dX4_isText_23 ⟨Nat.zero_le _, Nat.zero_le _⟩) hh_1.1 (fun q _ h => h) (fun q h => h) (fun r_8 u_7 t_7 H_7 locs_7 ht_7 hvm_7 hr_8 hb_7 hz_7 hk_7 hS_7 => ?_)
    rw [ht_7] at hb_7
    obtain ⟨hb_7, hbF_7⟩ := hb_7
    obtain ⟨hb_71, hb_72, hb_73, hb_74, hb_75⟩ := hb_7
    have hh_7 : jSt (dC, dI) B base G0 G0 EX4_isTextQ s.heap 0 0 [(r0, 6, 7, .int pv), (r0, 6, 0, .ref wk), (r0, 6, 1, .ref wi), (r0, 6, 2, .ref wz)] [(wk, 140, 1502, ca 1, fk), (wi, 141, 1502, ca 1, fi), (wz, 142, 1502, ca 1, fz)] [] H_7 locs_7 := ((hh_1.call hb_71 hb_72 hb_73 hb_74 hS_7 rfl (L1 := [(r0, 6, 7, .int pv), (r0, 6, 0, .ref wk), (r0, 6, 1, .ref wi), (r0, 6, 2, .ref wz)]) [0, 1, 2, 3] rfl rfl (M1 := [(wk, 140, 1502, ca 1, fk), (wi, 141, 1502, ca 1, fi), (wz, 142, 1502, ca 1, fz)]) [0, 1, 2] rfl rfl (I1 := []) [] rfl rfl).more hb_75)
    clear hh_1 ht_7 hvm_7 hz_7 hk_7 hS_7 hb_71 hb_72 hb_73 hb_74 hb_75
    have hfl_9 := hfl_3.tr hbF_7 (by first | exact fun q h => h | (intro q h9; simp at h9 ⊢; exact h9) | (intro q h9; simp at h9))
    obtain ⟨hr_8b, hr_8p⟩ := hr_8
    have hr_8' := jb_01 hr_8b
    refine lv_if_eq (tgt := 33) hx hb dX4_isText_26 (by decide) (fun c_10 => ?_) (fun c_10 => ?_)
    · skip
      have c_10' : r_8.toInt = 0 := jb_eq (rfl) ((by decide)) c_10
      first | (have hr_8pq := hr_8p.resolve_left (by omega); clear hr_8p) | (have hr_8pq := hr_8p.resolve_right (by omega); clear hr_8p) | try clear hr_8p
      refine lv_iconst (v := 0) hx hb dX4_isText_33 (by decide) ?_
      rw [hQ]
      exact W.zret (v := 0) hx hb hr (jb_nz (Or.inl rfl)) (fun t ht hW => ⟨⟨0, (), rfl, ⟨(Or.inl rfl), by first | omega | rfl | assumption | decide | exact Or.inl rfl | exact Or.inr rfl | (simp only; omega)⟩, ⟨hh_7.rt (M1 := []) [] rfl ht, by rw [ht]; exact hfl_9⟩⟩, by rw [ht]; try exact hh_7.1.1, fun q h9 hq => by rw [ht]; try exact hh_7.1.2.1 q h9 hq⟩) hh_7.1.2.2 dX4_isText_34
    · skip
      have c_10' : r_8.toInt ≠ 0 := jb_eq_n (rfl) ((by decide)) c_10
      first | (have hr_8pq := hr_8p.resolve_left (by omega); clear hr_8p) | (have hr_8pq := hr_8p.resolve_right (by omega); clear hr_8p) | try clear hr_8p
      refine lv_iconst (v := 1) hx hb dX4_isText_29 (by decide) ?_
      refine lv_goto (tgt := 34) hx hb dX4_isText_30 (by decide) ?_
      rw [hQ]
      exact W.zret (v := 1) hx hb hr (jb_nz (Or.inr rfl)) (fun t ht hW => ⟨⟨1, (), rfl, ⟨(Or.inr rfl), by first | omega | rfl | assumption | decide | exact Or.inl rfl | exact Or.inr rfl | (simp only; omega)⟩, ⟨hh_7.rt (M1 := []) [] rfl ht, by rw [ht]; exact hfl_9⟩⟩, by rw [ht]; try exact hh_7.1.1, fun q h9 hq => by rw [ht]; try exact hh_7.1.2.1 q h9 hq⟩) hh_7.1.2.2 dX4_isText_34
end
section
theorem dX11_cancelRequest_0 : decode cX11_cancelRequest 0 = .ok (.new 115, 3) := by decide +kernel
theorem dX11_cancelRequest_3 : decode cX11_cancelRequest 3 = .ok (.dup, 1) := by decide +kernel
theorem dX11_cancelRequest_4 : decode cX11_cancelRequest 4 = .ok (.aload_n 0, 1) := by decide +kernel
theorem dX11_cancelRequest_5 : decode cX11_cancelRequest 5 = .ok (.getfield 28, 3) := by decide +kernel
theorem dX11_cancelRequest_8 : decode cX11_cancelRequest 8 = .ok (.aload_n 0, 1) := by decide +kernel
theorem dX11_cancelRequest_9 : decode cX11_cancelRequest 9 = .ok (.getfield 28, 3) := by decide +kernel
theorem dX11_cancelRequest_12 : decode cX11_cancelRequest 12 = .ok (.aload_n 0, 1) := by decide +kernel
theorem dX11_cancelRequest_13 : decode cX11_cancelRequest 13 = .ok (.getfield 28, 3) := by decide +kernel
theorem dX11_cancelRequest_16 : decode cX11_cancelRequest 16 = .ok (.iconst 0, 1) := by decide +kernel
theorem dX11_cancelRequest_17 : decode cX11_cancelRequest 17 = .ok (.ldc_w 271, 3) := by decide +kernel
theorem dX11_cancelRequest_20 : decode cX11_cancelRequest 20 = .ok (.invokevirtual 260, 3) := by decide +kernel
theorem dX11_cancelRequest_23 : decode cX11_cancelRequest 23 = .ok (.ldc_w 259, 3) := by decide +kernel
theorem dX11_cancelRequest_26 : decode cX11_cancelRequest 26 = .ok (.invokevirtual 260, 3) := by decide +kernel
theorem dX11_cancelRequest_29 : decode cX11_cancelRequest 29 = .ok (.invokespecial 264, 3) := by decide +kernel
theorem dX11_cancelRequest_32 : decode cX11_cancelRequest 32 = .ok (.astore_n 1, 1) := by decide +kernel
theorem dX11_cancelRequest_33 : decode cX11_cancelRequest 33 = .ok (.iconst 0, 1) := by decide +kernel
theorem dX11_cancelRequest_34 : decode cX11_cancelRequest 34 = .ok (.istore_n 2, 1) := by decide +kernel
theorem dX11_cancelRequest_35 : decode cX11_cancelRequest 35 = .ok (.iload_n 2, 1) := by decide +kernel
theorem dX11_cancelRequest_36 : decode cX11_cancelRequest 36 = .ok (.aload_n 0, 1) := by decide +kernel
theorem dX11_cancelRequest_37 : decode cX11_cancelRequest 37 = .ok (.getfield 65, 3) := by decide +kernel
theorem dX11_cancelRequest_40 : decode cX11_cancelRequest 40 = .ok (.invokeinterface 142 1, 5) := by decide +kernel
theorem dX11_cancelRequest_45 : decode cX11_cancelRequest 45 = .ok (.if_icmp .ge 50, 3) := by decide +kernel
theorem dX11_cancelRequest_48 : decode cX11_cancelRequest 48 = .ok (.aload_n 0, 1) := by decide +kernel
theorem dX11_cancelRequest_49 : decode cX11_cancelRequest 49 = .ok (.getfield 65, 3) := by decide +kernel
theorem dX11_cancelRequest_52 : decode cX11_cancelRequest 52 = .ok (.iload_n 2, 1) := by decide +kernel
theorem dX11_cancelRequest_53 : decode cX11_cancelRequest 53 = .ok (.invokeinterface 249 2, 5) := by decide +kernel
theorem dX11_cancelRequest_58 : decode cX11_cancelRequest 58 = .ok (.checkcast 115, 3) := by decide +kernel
theorem dX11_cancelRequest_61 : decode cX11_cancelRequest 61 = .ok (.aload_n 1, 1) := by decide +kernel
theorem dX11_cancelRequest_62 : decode cX11_cancelRequest 62 = .ok (.invokevirtual 426, 3) := by decide +kernel
theorem dX11_cancelRequest_65 : decode cX11_cancelRequest 65 = .ok (.ifCond .eq 24, 3) := by decide +kernel
theorem dX11_cancelRequest_68 : decode cX11_cancelRequest 68 = .ok (.aload_n 0, 1) := by decide +kernel
theorem dX11_cancelRequest_69 : decode cX11_cancelRequest 69 = .ok (.aload_n 0, 1) := by decide +kernel
theorem dX11_cancelRequest_70 : decode cX11_cancelRequest 70 = .ok (.getfield 65, 3) := by decide +kernel
theorem dX11_cancelRequest_73 : decode cX11_cancelRequest 73 = .ok (.iload_n 2, 1) := by decide +kernel
theorem dX11_cancelRequest_74 : decode cX11_cancelRequest 74 = .ok (.invokeinterface 423 2, 5) := by decide +kernel
theorem dX11_cancelRequest_79 : decode cX11_cancelRequest 79 = .ok (.checkcast 115, 3) := by decide +kernel
theorem dX11_cancelRequest_82 : decode cX11_cancelRequest 82 = .ok (.ldc_w 429, 3) := by decide +kernel
theorem dX11_cancelRequest_85 : decode cX11_cancelRequest 85 = .ok (.invokevirtual 267, 3) := by decide +kernel
theorem dX11_cancelRequest_88 : decode cX11_cancelRequest 88 = .ok (.return_, 1) := by decide +kernel
theorem dX11_cancelRequest_89 : decode cX11_cancelRequest 89 = .ok (.iinc 2 1, 3) := by decide +kernel
theorem dX11_cancelRequest_92 : decode cX11_cancelRequest 92 = .ok (.goto (-57), 3) := by decide +kernel
theorem dX11_cancelRequest_95 : decode cX11_cancelRequest 95 = .ok (.return_, 1) := by decide +kernel
def EX11_cancelRequest : List (Nat × Nat) := [(1, 0), (1, 2), (2, 0), (2, 1), (13, 14), (101, 0), (196, 0), (221, 0), (222, 0), (223, 0)]
set_option maxHeartbeats 4000000 in
set_option maxRecDepth 20000 in
theorem uX11_cancelRequest (l : Launch) (dC : Nat → ClassId) (dI : Nat → Nat → Nat) (ca : Nat → ClassId) (base : Nat) (B : jF) (hB : jBok B) (hAp : jAp (dC, dI)) (hB1 : ∀ n G a H, B 1 n G a H ↔ jOb (dC, dI) 1 3 (F1 n G) a H) (hB2 : ∀ n G a H, B 2 n G a H ↔ jOb (dC, dI) 2 2 (F2 n G) a H) (hB3 : ∀ n G a H, B 3 n G a H ↔ jOb (dC, dI) 3 17 (F3 n G) a H) (hB4 : ∀ n G a H, B 4 n G a H ↔ jOb (dC, dI) 4 12 (F4 n G) a H) (hB6 : ∀ n G a H, B 6 n G a H ↔ jOb (dC, dI) 6 12 (F6 n G) a H) (hB10 : ∀ n G a H, B 10 n G a H ↔ jOb (dC, dI) 10 5 (F10 n G) a H) (hB13 : ∀ n G a H, B 13 n G a H ↔ jOb (dC, dI) 13 19 (F13 n G) a H) (hB101 : ∀ n G a H, B 101 n G a H ↔ jAr (dC, dI) (ca 1) (fun j z => True) n a H) (hB140 : ∀ n G a H, B 140 n G a H ↔ jAr (dC, dI) (ca 1) (fun j z => True) n a H) (hB141 : ∀ n G a H, B 141 n G a H ↔ jAr (dC, dI) (ca 1) (fun j z => True) n a H) (hB142 : ∀ n G a H, B 142 n G a H ↔ jAr (dC, dI) (ca 1) (fun j z => True) n a H) (hB143 : ∀ n G a H, B 143 n G a H ↔ jAr (dC, dI) (ca 1) (fun j z => True) n a H) (hB144 : ∀ n G a H, B 144 n G a H ↔ jAr (dC, dI) (ca 1) (fun j z => 0 ≤ z.toInt ∧ z.toInt ≤ 3000) n a H) (hB145 : ∀ n G a H, B 145 n G a H ↔ jAr (dC, dI) (ca 1) (fun j z => True) n a H) (hB146 : ∀ n G a H, B 146 n G a H ↔ jAr (dC, dI) (ca 1) (fun j z => True) n a H) (hB196 : ∀ n G a H, B 196 n G a H ↔ jAr (dC, dI) (ca 0) (fun j z => jBf j z) n a H) (hB222 : ∀ n G a H, B 222 n G a H ↔ jAq (dC, dI) (ca 9) (jQn 10 0) n G a H) (G0 : jT) (H0 : Heap) (r0 : Nat) (bo : Nat) (pc : Int32) (pa : Nat) (n_pa : Nat) (ou : Nat) (js : Nat) (pv : Int32) (pu : Int32) (wk : Nat) (wi : Nat) (wz : Nat) (jks : Nat) (fk : Nat → Int32) (fi : Nat → Int32) (fz : Nat → Int32) (fs : Nat → Int32) (LC LS : Nat) : Met l yX11_cancelRequest (jw yX11_cancelRequest cX11_cancelRequest 3 none) ({ frames := 7, cells := LC - H0.size, slots := LS - jTot H0, locals := 214 }) (va_Pc [.ref r0] (fun U => U.heap = H0 ∧ jX B base G0 [] H0 ∧ jG dC dI ca base U ∧ jK5 dC dI ca U ∧ jK7 dC dI ca base U ∧ G0 r0 = some (13, 0) ∧ G0 bo = some (2, 0) ∧ G0 pa = some (196, n_pa) ∧ G0 ou = some (2, 20000) ∧ G0 js = some (6, 0) ∧ G0 wk = some (140, 1502) ∧ G0 wi = some (141, 1502) ∧ G0 wz = some (142, 1502) ∧ G0 jks = some (145, 1502) ∧ jP (dC, dI) G0 H0 [(r0, 13, 4, .ref bo), (bo, 2, 1, .int pc), (bo, 2, 0, .ref pa), (r0, 13, 3, .ref ou), (r0, 13, 2, .ref js), (js, 6, 7, .int pv), (js, 6, 8, .int pu), (js, 6, 0, .ref wk), (js, 6, 1, .ref wi), (js, 6, 2, .ref wz), (js, 6, 5, .ref jks)] ∧ jMc (dC, dI) G0 H0 [(wk, 140, 1502, ca 1, fk), (wi, 141, 1502, ca 1, fi), (wz, 142, 1502, ca 1, fz), (jks, 145, 1502, ca 1, fs)] ∧ jIs (dC, dI) G0 H0 [(jFy, jYb dC dI G0), (jFl, jLs dC dI ca G0 3 none)] ∧ H0.size + (1048576 - n_pa) / 16 + 20 ≤ LC ∧ jTot H0 + 2 * (1048576 - n_pa) + 3400 ≤ LS ∧ 0 ≤ pc.toInt ∧ pc.toInt ≤ n_pa ∧ 16 ≤ n_pa ∧ n_pa ≤ 1048576 ∧ jPw n_pa ∧ 0 ≤ pv.toInt ∧ pv.toInt ≤ 1502 ∧ 0 ≤ pu.toInt ∧ pu.toInt ≤ 3000 ∧ jJq fk fi fz pv.toInt ∧ jJu fk fz pv.toInt pu.toInt)) (va_Qv (S := Int32 × Nat × Nat × jT) (fun u => 0 ≤ u.1.toInt ∧ u.1.toInt ≤ u.2.2.1 ∧ n_pa ≤ u.2.2.1 ∧ u.2.2.1 ≤ 1048576 ∧ jPw u.2.2.1) (fun u t => jRa (dC, dI) B base G0 u.2.2.2 EX11_cancelRequest H0 ((u.2.2.1 - n_pa) / 16 + 11) (2 * (u.2.2.1 - n_pa) + 267) [(bo, 2, 1, .int u.1), (bo, 2, 0, .ref u.2.1)] t.heap ∧ u.2.2.2 u.2.1 = some (196, u.2.2.1) ∧ (jNk [0, 1, 3, 4, 5, 6, 7, 8, 9, 11, 12, 13, 14, 15, 16]) G0 u.2.2.2 ∧ jOl (dC, dI) G0 2 [bo, ou] H0 t.heap ∧ jIs (dC, dI) u.2.2.2 t.heap [(jFy, jYb dC dI u.2.2.2), (jFl, jLs dC dI ca u.2.2.2 3 none)]) (jA base)) (LC - H0.size) (LS - jTot H0) (jA base) := by
  refine Met.ofW (cc := cX11_cancelRequest) (maxL := 3) (ret := none) (by decide) rfl ?_
  intro p e s m args below meth c s₁ Bd hml hv
  obtain ⟨rfl, hH0, hX, hG, hK5, hK7, hg_r0, hg_bo, hg_pa, hg_ou, hg_js, hg_wk, hg_wi, hg_wz, hg_jks, hP0, hM0, hI0, hLC0, hLS0, hp0, hp1, hp2, hp3, hp4, hp5, hp6, hp7, hp8, hp9, hp10⟩ := hv
  have hK := hG.1
  have hx := Bd.exec
  have hb := Bd.bytes
  have hr := Bd.returns
  have hts := atoms_spec (ws := (jw yX11_cancelRequest cX11_cancelRequest 3 none)) Bd.pre
  have htw : ∀ w ∈ jWl, w.before _ s = true := fun w h => hts w (List.mem_cons_of_mem _ h)
  have hown : s.vm.findClass RX11 = some m.cls := findClass_of_methodNamed Bd.named
  have hlocks := Bd.notSynchronized
  obtain ⟨Q, hQ⟩ : ∃ Q, Q = MQ below (va_Qv (S := Int32 × Nat × Nat × jT) (fun u => 0 ≤ u.1.toInt ∧ u.1.toInt ≤ u.2.2.1 ∧ n_pa ≤ u.2.2.1 ∧ u.2.2.1 ≤ 1048576 ∧ jPw u.2.2.1) (fun u t => jRa (dC, dI) B base G0 u.2.2.2 EX11_cancelRequest H0 ((u.2.2.1 - n_pa) / 16 + 11) (2 * (u.2.2.1 - n_pa) + 267) [(bo, 2, 1, .int u.1), (bo, 2, 0, .ref u.2.1)] t.heap ∧ u.2.2.2 u.2.1 = some (196, u.2.2.1) ∧ (jNk [0, 1, 3, 4, 5, 6, 7, 8, 9, 11, 12, 13, 14, 15, 16]) G0 u.2.2.2 ∧ jOl (dC, dI) G0 2 [bo, ou] H0 t.heap ∧ jIs (dC, dI) u.2.2.2 t.heap [(jFy, jYb dC dI u.2.2.2), (jFl, jLs dC dI ca u.2.2.2 3 none)]) (jA base)) ([.ref r0] : List Value).toArray s (LC - H0.size) (LS - jTot H0) (jA base) := ⟨_, rfl⟩
  rw [← hQ]
  have hl := lv_entry ([.ref r0]) (n := 3) (Nat.le_of_ble_eq_true rfl)
  rw [lg_entry_eq]
  generalize (lg_sl ([.ref r0]) ++ List.replicate (3 - (lg_sl ([.ref r0])).length) Slot.unset).toArray = ls at hl ⊢
  have hl : lv_has ls 3 [(0, .ref r0)] := hl
  generalize hR : (headSpec (jw yX11_cancelRequest cX11_cancelRequest 3 none) ({ frames := 7, cells := LC - H0.size, slots := LS - jTot H0, locals := 214 })).room = R
  subst hH0
  have hh : jSt (dC, dI) B base G0 G0 EX11_cancelRequest s.heap 0 0 [(r0, 13, 4, .ref bo), (bo, 2, 1, .int pc), (bo, 2, 0, .ref pa), (r0, 13, 3, .ref ou), (r0, 13, 2, .ref js), (js, 6, 7, .int pv), (js, 6, 8, .int pu), (js, 6, 0, .ref wk), (js, 6, 1, .ref wi), (js, 6, 2, .ref wz), (js, 6, 5, .ref jks)] [(wk, 140, 1502, ca 1, fk), (wi, 141, 1502, ca 1, fi), (wz, 142, 1502, ca 1, fz), (jks, 145, 1502, ca 1, fs)] [(jFy, jYb dC dI G0), (jFl, jLs dC dI ca G0 3 none)] s.heap [] := jSt.start hX hP0 hM0 hI0
  clear hX hP0
  have hkm32800 : ((-32800) : Int32).toInt = (-32800) := by decide
  have hk0 : (0 : Int32).toInt = 0 := by decide
  have hk1 : (1 : Int32).toInt = 1 := by decide
  have hly_13_2 := htw (u_lay RX11 TX11 2) (jWc_wsX110 _ (u_in_lay (by decide)))
  have hly_13_8 := htw (u_lay RX11 TX11 8) (jWc_wsX110 _ (u_in_lay (by decide)))
  have hlk_28 := (htw (.fieldLink RX11 28 "ProofServer" "json" "LProofServer$Json;") (jWr_1 _ (List.mem_of_getElem? (i := 23) rfl)))
  obtain ⟨str271, rstr271, hstr2710⟩ := hG.str (o := RX11) (k := 271) (tx := "params") (List.mem_of_getElem? (i := 852) (by decide +kernel))
  have hstr271 : jStr base str271 6 s s.heap := hstr2710
  obtain ⟨str259, rstr259, hstr2590⟩ := hG.str (o := RX11) (k := 259) (tx := "id") (List.mem_of_getElem? (i := 730) (by decide +kernel))
  have hstr259 : jStr base str259 2 s s.heap := hstr2590
  have hlk_65 := (htw (.fieldLink RX11 65 "ProofServer" "waiting" "Ljava/util/List;") (jWr_2 _ (List.mem_of_getElem? (i := 15) rfl)))
  have hcs_429 := htw (.constant RX11 429 (-32800)) (jWr_43 _ (List.mem_of_getElem? (i := 22) rfl))
  have hbs : base ≤ s.heap.size := Nat.le_of_lt (Nat.lt_of_le_of_lt (hh.ab hg_r0).1 (hh.ab hg_r0).2)
  have hRc : R.cells = LC - s.heap.size := by rw [← hR]; rfl
  have hRs : R.slots = LS - jTot s.heap := by rw [← hR]; rfl
  have hh_1 := hh.addI (jOl.ie (dC := dC) (dI := dI) (G0 := G0) (k := 2) (rs := [bo, ou]) (H0 := s.heap) (F := [(2, 0), (2, 1)]) (C := RX0) (T := TX0) (N := 2) rfl (by decide) hh.2.2.2.2.1 (jOl.rf))
  clear hh
  have hsz_2 := hh_1.2.2.2.2.2.1
  have htt_2 := hh_1.2.2.2.2.2.2.1
  refine j7_newo (k := 10) (C := RX8) (T := TX8) (N := 5) (fs := [.null, .null, .int 0, .int 0, .int 0]) hx hb htw jWc_wsX80 (fun k => ([(.object "ProofServer$Bytes"), (.object "ProofServer$Document"), .int, .boolean, .int] : List FieldType).getD k .int) (by decide +kernel) hown (htw (.classLink RX11 115 RX8) (jWr_19 _ (List.mem_of_getElem? (i := 3) rfl))) (htw (.instantiable RX8 5) (jWr_19 _ (List.mem_of_getElem? (i := 4) rfl))) (htw (.initialized RX8) (jWr_19 _ (List.mem_of_getElem? (i := 5) rfl))) hK rfl (fun j hj => by rcases (by omega : j = 0 ∨ j = 1 ∨ j = 2 ∨ j = 3 ∨ j = 4) with rfl | rfl | rfl | rfl | rfl <;> rfl) hh_1 hB (by rw [hRc]; omega) (by rw [hRs]; omega) dX11_cancelRequest_0 (fun H_2 hraw_2 hfr_2 hnr_2 hh_2 => ?_)
  have hke_2 : jKe G0 G0 s.heap H_2 := jKe.raw hfr_2
  have hbr_2 : base ≤ s.heap.size := Nat.le_trans hbs hh_1.1.1
  have hsy_2 : s.heap.size ≤ s.heap.size := hh_1.1.1
  clear hh_1
  refine lv_dup hx hb dX11_cancelRequest_3 rfl ?_
  refine lv_aload_n hx hb dX11_cancelRequest_4 rfl (lv_at hl 0 rfl) ?_
  refine j7_read hx hb hown hK (C := RX11) (T := TX11) (N := 19) rfl hly_13_2 hlk_28 (hh_2.at 4 rfl) dX11_cancelRequest_5 ?_
  refine lv_aload_n hx hb dX11_cancelRequest_8 rfl (lv_at hl 0 rfl) ?_
  refine j7_read hx hb hown hK (C := RX11) (T := TX11) (N := 19) rfl hly_13_2 hlk_28 (hh_2.at 4 rfl) dX11_cancelRequest_9 ?_
  refine lv_aload_n hx hb dX11_cancelRequest_12 rfl (lv_at hl 0 rfl) ?_
  refine j7_read hx hb hown hK (C := RX11) (T := TX11) (N := 19) rfl hly_13_2 hlk_28 (hh_2.at 4 rfl) dX11_cancelRequest_13 ?_
  refine lv_iconst (v := 0) hx hb dX11_cancelRequest_16 (by decide) ?_
  refine j_ldcSw hx hb hown rstr271 dX11_cancelRequest_17 ?_
  have hsz_3 := hh_2.2.2.2.2.2.1
  have htt_3 := hh_2.2.2.2.2.2.2.1
  refine W.room (fun hrc_3 hrs_3 => ?_)
  refine va_calli (A0 := jA base) (H0 := s.heap) (va_runV (As := [.int 0, .ref str271]) (rest := [.ref js, .ref js, .ref s.heap.size, .ref s.heap.size]) ⟨hx, hb, hml, hown, hts⟩ (uX4_memberQ l dC dI ca base B hB hAp hB6 hB140 hB141 hB142 hB143 hB144 hB145 hB146 G0 H_2 js 0 str271 6 pv wk wi wz jks fk fi fz fs) (cwV 2 hts (jgV (jWr_23 _ (List.mem_of_getElem? (i := 10) rfl)) (jWr_23 _ (List.mem_of_getElem? (i := 11) rfl)) (jWr_23 _ (List.mem_of_getElem? (i := 12) rfl)) (jWr_1 _ (List.mem_of_getElem? (i := 22) rfl)) (jWr_23 _ (List.mem_of_getElem? (i := 13) rfl))) rfl rfl rfl (by decide +kernel) ⟨by rw [← hR]; exact Nat.le_of_ble_eq_true rfl, by rw [← hR]; exact Nat.le_of_ble_eq_true rfl⟩) ⟨fun a U g mk q => by obtain ⟨q0, q1, q2, qK, q10, q11, q12, q13, q14, q15, q16, q17, q18⟩ := q; exact ⟨q0, q1, q2, jG.calling g mk a qK, (q10.moved (Vm.Alike.refl U.vm)), q11, q12, q13, q14, q15, q16, q17, q18⟩, hh_2.recv (C := RX4) (T := TX4) (N := 12) hB6 rfl (by decide) hg_js hK, fun U hU hW => ⟨rfl, hU, hh_2.2.1, hG.step hW hU hh_2.1, (hstr271.moved hW.alike).kept hh_2.1.2.1, hg_js, hg_wk, hg_wi, hg_wz, hg_jks, (hh_2.2.2.1.sub (L1 := [(js, 6, 7, .int pv), (js, 6, 0, .ref wk), (js, 6, 1, .ref wi), (js, 6, 2, .ref wz), (js, 6, 5, .ref jks)]) [5, 7, 8, 9, 10] rfl), (hh_2.2.2.2.2.2.2.2.1.sub (L1 := [(wk, 140, 1502, ca 1, fk), (wi, 141, 1502, ca 1, fi), (wz, 142, 1502, ca 1, fz), (jks, 145, 1502, ca 1, fs)]) [0, 1, 2, 3] rfl), ⟨(by first | omega | rfl | assumption | fail), (by first | omega | rfl | assumption | fail), (by first | omega | rfl | assumption | fail)⟩⟩⟩ rfl rfl hl.1 rfl (lv_room (Nat.le_of_ble_eq_true rfl)) dX11_cancelRequest_20 ⟨by rw [hRc]; show _ + 0 ≤ _; omega, by rw [hRs]; show _ + 0 ≤ _; omega⟩) hh_2.1 (fun q _ h => h) (fun q h => h) (fun r_4 u_3 t_3 H_3 locs_3 ht_3 hvm_3 hr_4 hb_3 hz_3 hk_3 hS_3 => ?_)
  rw [ht_3] at hb_3
  obtain ⟨hb_3, hbF_3⟩ := hb_3
  obtain ⟨hb_31, hb_32, hb_33, hb_34, hb_35⟩ := hb_3
  have hh_3 : jSt (dC, dI) B base G0 G0 EX11_cancelRequest s.heap (0 + 1) (0 + 5) [(r0, 13, 4, .ref bo), (bo, 2, 1, .int pc), (bo, 2, 0, .ref pa), (r0, 13, 3, .ref ou), (r0, 13, 2, .ref js), (js, 6, 7, .int pv), (js, 6, 8, .int pu), (js, 6, 0, .ref wk), (js, 6, 1, .ref wi), (js, 6, 2, .ref wz), (js, 6, 5, .ref jks)] [(wk, 140, 1502, ca 1, fk), (wi, 141, 1502, ca 1, fi), (wz, 142, 1502, ca 1, fz), (jks, 145, 1502, ca 1, fs)] [([(2, 0), (2, 1)], jOl (dC, dI) G0 2 [bo, ou] s.heap), (jFy, jYb dC dI G0), (jFl, jLs dC dI ca G0 3 none)] H_3 locs_3 := ((hh_2.call hb_31 hb_32 hb_33 hb_34 hS_3 rfl (L1 := [(r0, 13, 4, .ref bo), (bo, 2, 1, .int pc), (bo, 2, 0, .ref pa), (r0, 13, 3, .ref ou), (r0, 13, 2, .ref js), (js, 6, 7, .int pv), (js, 6, 8, .int pu), (js, 6, 0, .ref wk), (js, 6, 1, .ref wi), (js, 6, 2, .ref wz), (js, 6, 5, .ref jks)]) [0, 1, 2, 3, 4, 5, 6, 7, 8, 9, 10] rfl rfl (M1 := [(wk, 140, 1502, ca 1, fk), (wi, 141, 1502, ca 1, fi), (wz, 142, 1502, ca 1, fz), (jks, 145, 1502, ca 1, fs)]) [0, 1, 2, 3] rfl rfl (I1 := [([(2, 0), (2, 1)], jOl (dC, dI) G0 2 [bo, ou] s.heap), (jFy, jYb dC dI G0), (jFl, jLs dC dI ca G0 3 none)]) [0, 1, 2] rfl rfl).more hb_35)
  clear hh_2 ht_3 hvm_3 hz_3 hk_3 hS_3 hb_31 hb_32 hb_33 hb_34 hb_35
  have hraw_5 := hraw_2.kept (hbF_3 _ (by simp))
  obtain ⟨hr_4_0, hr_4_1, hr_4_2⟩ := hr_4
  refine j_ldcSw hx hb hown rstr259 dX11_cancelRequest_23 ?_
  have hsz_6 := hh_3.2.2.2.2.2.1
  have htt_6 := hh_3.2.2.2.2.2.2.1
  refine W.room (fun hrc_6 hrs_6 => ?_)
  refine va_calli (A0 := jA base) (H0 := s.heap) (va_runV (As := [.int r_4, .ref str259]) (rest := [.ref js, .ref s.heap.size, .ref s.heap.size]) ⟨hx, hb, hml, hown, hts⟩ (uX4_memberQ l dC dI ca base B hB hAp hB6 hB140 hB141 hB142 hB143 hB144 hB145 hB146 G0 H_3 js r_4 str259 2 pv wk wi wz jks fk fi fz fs) (cwV 2 hts (jgV (jWr_23 _ (List.mem_of_getElem? (i := 10) rfl)) (jWr_23 _ (List.mem_of_getElem? (i := 11) rfl)) (jWr_23 _ (List.mem_of_getElem? (i := 12) rfl)) (jWr_1 _ (List.mem_of_getElem? (i := 22) rfl)) (jWr_23 _ (List.mem_of_getElem? (i := 13) rfl))) rfl rfl rfl (by decide +kernel) ⟨by rw [← hR]; exact Nat.le_of_ble_eq_true rfl, by rw [← hR]; exact Nat.le_of_ble_eq_true rfl⟩) ⟨fun a U g mk q => by obtain ⟨q0, q1, q2, qK, q10, q11, q12, q13, q14, q15, q16, q17, q18⟩ := q; exact ⟨q0, q1, q2, jG.calling g mk a qK, (q10.moved (Vm.Alike.refl U.vm)), q11, q12, q13, q14, q15, q16, q17, q18⟩, hh_3.recv (C := RX4) (T := TX4) (N := 12) hB6 rfl (by decide) hg_js hK, fun U hU hW => ⟨rfl, hU, hh_3.2.1, hG.step hW hU hh_3.1, (hstr259.moved hW.alike).kept hh_3.1.2.1, hg_js, hg_wk, hg_wi, hg_wz, hg_jks, (hh_3.2.2.1.sub (L1 := [(js, 6, 7, .int pv), (js, 6, 0, .ref wk), (js, 6, 1, .ref wi), (js, 6, 2, .ref wz), (js, 6, 5, .ref jks)]) [5, 7, 8, 9, 10] rfl), (hh_3.2.2.2.2.2.2.2.1.sub (L1 := [(wk, 140, 1502, ca 1, fk), (wi, 141, 1502, ca 1, fi), (wz, 142, 1502, ca 1, fz), (jks, 145, 1502, ca 1, fs)]) [0, 1, 2, 3] rfl), ⟨(by first | omega | rfl | assumption | fail), (by first | omega | rfl | assumption | fail), (by first | omega | rfl | assumption | fail)⟩⟩⟩ rfl rfl hl.1 rfl (lv_room (Nat.le_of_ble_eq_true rfl)) dX11_cancelRequest_26 ⟨by rw [hRc]; show _ + 0 ≤ _; omega, by rw [hRs]; show _ + 0 ≤ _; omega⟩) hh_3.1 (fun q _ h => h) (fun q h => h) (fun r_7 u_6 t_6 H_6 locs_6 ht_6 hvm_6 hr_7 hb_6 hz_6 hk_6 hS_6 => ?_)
  rw [ht_6] at hb_6
  obtain ⟨hb_6, hbF_6⟩ := hb_6
  obtain ⟨hb_61, hb_62, hb_63, hb_64, hb_65⟩ := hb_6
  have hh_6 : jSt (dC, dI) B base G0 G0 EX11_cancelRequest s.heap (0 + 1) (0 + 5) [(r0, 13, 4, .ref bo), (bo, 2, 1, .int pc), (bo, 2, 0, .ref pa), (r0, 13, 3, .ref ou), (r0, 13, 2, .ref js), (js, 6, 7, .int pv), (js, 6, 8, .int pu), (js, 6, 0, .ref wk), (js, 6, 1, .ref wi), (js, 6, 2, .ref wz), (js, 6, 5, .ref jks)] [(wk, 140, 1502, ca 1, fk), (wi, 141, 1502, ca 1, fi), (wz, 142, 1502, ca 1, fz), (jks, 145, 1502, ca 1, fs)] [([(2, 0), (2, 1)], jOl (dC, dI) G0 2 [bo, ou] s.heap), (jFy, jYb dC dI G0), (jFl, jLs dC dI ca G0 3 none)] H_6 locs_6 := ((hh_3.call hb_61 hb_62 hb_63 hb_64 hS_6 rfl (L1 := [(r0, 13, 4, .ref bo), (bo, 2, 1, .int pc), (bo, 2, 0, .ref pa), (r0, 13, 3, .ref ou), (r0, 13, 2, .ref js), (js, 6, 7, .int pv), (js, 6, 8, .int pu), (js, 6, 0, .ref wk), (js, 6, 1, .ref wi), (js, 6, 2, .ref wz), (js, 6, 5, .ref jks)]) [0, 1, 2, 3, 4, 5, 6, 7, 8, 9, 10] rfl rfl (M1 := [(wk, 140, 1502, ca 1, fk), (wi, 141, 1502, ca 1, fi), (wz, 142, 1502, ca 1, fz), (jks, 145, 1502, ca 1, fs)]) [0, 1, 2, 3] rfl rfl (I1 := [([(2, 0), (2, 1)], jOl (dC, dI) G0 2 [bo, ou] s.heap), (jFy, jYb dC dI G0), (jFl, jLs dC dI ca G0 3 none)]) [0, 1, 2] rfl rfl).more hb_65)
  clear hh_3 ht_6 hvm_6 hz_6 hk_6 hS_6 hb_61 hb_62 hb_63 hb_64 hb_65
  have hraw_8 := hraw_5.kept (hbF_6 _ (by simp))
  obtain ⟨hr_7_0, hr_7_1, hr_7_2⟩ := hr_7
  have hsz_9 := hh_6.2.2.2.2.2.1
  have htt_9 := hh_6.2.2.2.2.2.2.1
  refine W.room (fun hrc_9 hrs_9 => ?_)
  refine va_callv (A0 := jA base) (H0 := s.heap) (va_runI (As := [.ref js, .int r_7]) (rest := [.ref s.heap.size]) ⟨hx, hb, hml, hown, hts⟩ (uX8_init l dC dI ca base B hB hAp hB2 hB6 hB10 hB101 hB140 hB141 hB142 hB146 hB196 G0 H_6 s.heap.size js r_7 pv wk wi wz fk fi fz LC LS) (cwI 2 hts (jgW (jWr_24 _ (List.mem_of_getElem? (i := 0) rfl))) rfl rfl rfl (htw (.initialized RX8) (jWr_19 _ (List.mem_of_getElem? (i := 5) rfl))) (htw (.methodLink RX11 264 yX8_init) (jWr_23 _ (List.mem_of_getElem? (i := 22) rfl))) (htw (.instanceMethod yX8_init) (jWr_23 _ (List.mem_of_getElem? (i := 23) rfl))) rfl (by decide +kernel) ⟨by rw [← hR]; exact Nat.le_of_ble_eq_true rfl, by rw [← hR]; exact Nat.le_of_ble_eq_true rfl⟩) ⟨fun a U g mk q => by obtain ⟨q0, q1, q2, qK, q10, q11, q12, q13, q14, q15, q16, q17, q18, q19, q20⟩ := q; exact ⟨q0, q1, q2, jG.calling g mk a qK, q10, q11, q12, q13, q14, q15, q16, q17, q18, q19, q20⟩, fun U hU hW => ⟨rfl, hU, hh_6.2.1, hG.step hW hU hh_6.1, hg_js, hraw_8, hnr_2, hbr_2, hg_wk, hg_wi, hg_wz, (hh_6.2.2.1.sub (L1 := [(js, 6, 7, .int pv), (js, 6, 0, .ref wk), (js, 6, 1, .ref wi), (js, 6, 2, .ref wz)]) [5, 7, 8, 9] rfl), (hh_6.2.2.2.2.2.2.2.1.sub (L1 := [(wk, 140, 1502, ca 1, fk), (wi, 141, 1502, ca 1, fi), (wz, 142, 1502, ca 1, fz)]) [0, 1, 2] rfl), (hh_6.2.2.2.2.2.2.2.2.sub (L1 := [(jFy, jYb dC dI G0)]) [1] rfl), (by omega), (by omega), ⟨(by first | omega | rfl | assumption | fail), (by first | omega | rfl | assumption | fail), (by first | assumption | fail | omega)⟩⟩⟩ rfl rfl hl.1 rfl (lv_room (Nat.le_of_ble_eq_true rfl)) dX11_cancelRequest_29 ⟨by rw [hRc]; omega, by rw [hRs]; omega⟩) hh_6.1 (fun q _ h => h) (fun q h => h) (fun u_9 t_9 H_9 locs_9 ht_9 hvm_9 hr_10 hb_9 hz_9 hk_9 hS_9 => ?_)
  rw [ht_9] at hb_9
  obtain ⟨G_9, rfl⟩ : ∃ z, z = u_9 := ⟨_, rfl⟩
  try simp only at hb_9
  obtain ⟨⟨hb_91, hb_92, hb_93, hb_94, hb_95, hb_96⟩, hN_9, hbO_9, hgc_9, hbE_9⟩ := hb_9
  have hh_9 : jSt (dC, dI) B base G0 G_9 EX11_cancelRequest s.heap ((0 + 1) + (10)) ((0 + 5) + (262)) [(r0, 13, 4, .ref bo), (r0, 13, 3, .ref ou), (r0, 13, 2, .ref js), (js, 6, 7, .int pv), (js, 6, 8, .int pu), (js, 6, 0, .ref wk), (js, 6, 1, .ref wi), (js, 6, 2, .ref wz), (js, 6, 5, .ref jks)] [(wk, 140, 1502, ca 1, fk), (wi, 141, 1502, ca 1, fi), (wz, 142, 1502, ca 1, fz), (jks, 145, 1502, ca 1, fs)] [(jFl, jLs dC dI ca G0 3 none)] H_9 locs_9 := (hh_6.callG hb_91 hb_92 hb_93 hb_94 hb_95 hS_9 rfl (L1 := [(r0, 13, 4, .ref bo), (r0, 13, 3, .ref ou), (r0, 13, 2, .ref js), (js, 6, 7, .int pv), (js, 6, 8, .int pu), (js, 6, 0, .ref wk), (js, 6, 1, .ref wi), (js, 6, 2, .ref wz), (js, 6, 5, .ref jks)]) [0, 3, 4, 5, 6, 7, 8, 9, 10] rfl rfl (M1 := [(wk, 140, 1502, ca 1, fk), (wi, 141, 1502, ca 1, fi), (wz, 142, 1502, ca 1, fz), (jks, 145, 1502, ca 1, fs)]) [0, 1, 2, 3] rfl rfl (I1 := [(jFl, jLs dC dI ca G0 3 none)]) [2] rfl rfl).more hb_96
  have hNn_9 : (jNk [0, 1, 3, 4, 5, 6, 7, 8, 9, 11, 12, 13, 14, 15, 16]) G0 G_9 := (jNk.rf).tr hN_9
  have hg_11 := hb_92 _ _ hg_r0
  have hg_12 := hb_92 _ _ hg_bo
  have hg_13 := hb_92 _ _ hg_ou
  have hg_14 := hb_92 _ _ hg_js
  have hg_15 := hb_92 _ _ hg_wk
  have hg_16 := hb_92 _ _ hg_wi
  have hg_17 := hb_92 _ _ hg_wz
  have hg_18 := hb_92 _ _ hg_jks
  have hd_19 := jLs.grow (hh_9.iv 0 rfl) hb_92 hN_9 (by decide)
  have hh_20 := hh_9.sub (L1 := [(r0, 13, 4, .ref bo), (r0, 13, 3, .ref ou), (r0, 13, 2, .ref js), (js, 6, 7, .int pv), (js, 6, 8, .int pu), (js, 6, 0, .ref wk), (js, 6, 1, .ref wi), (js, 6, 2, .ref wz), (js, 6, 5, .ref jks)]) [0, 1, 2, 3, 4, 5, 6, 7, 8] rfl (M1 := [(wk, 140, 1502, ca 1, fk), (wi, 141, 1502, ca 1, fi), (wz, 142, 1502, ca 1, fz), (jks, 145, 1502, ca 1, fs)]) [0, 1, 2, 3] rfl (I1 := []) [] rfl
  clear hh_9
  have hh_21 := hh_20.addI (jLs.ie hd_19)
  clear hh_20
  have hh_22 := hh_21.addIs hbE_9
  have hh_23 := hh_22.more (P1 := [(bo, 2, 1, .int pc), (bo, 2, 0, .ref pa)]) (jP.cons hg_12 (hbO_9 _ _ _ _ (by simp) hg_bo (hh_6.at 1 rfl)) (jP.cons hg_12 (hbO_9 _ _ _ _ (by simp) hg_bo (hh_6.at 2 rfl)) jP.nil))
  have hg_24 := hb_92 _ _ hg_pa
  have hd_25 := jOl.trL (hh_6.iv 0 rfl) hh_6.2.2.2.2.1 hbO_9 (by simp)
  have hh_26 := hh_23.addI (jOl.ie (dC := dC) (dI := dI) (G0 := G0) (k := 2) (rs := [bo, ou]) (H0 := s.heap) (F := [(2, 0), (2, 1)]) (C := RX0) (T := TX0) (N := 2) rfl (by decide) hh_23.2.2.2.2.1 (hd_25))
  clear hh_23
  try simp only at hr_10
  have hh_27 := hh_26.wk (zc1 := (n_pa - n_pa) / 16 + 11) (zs1 := 2 * (n_pa - n_pa) + 267) (by omega) (by omega)
  clear hh_26
  try clear hsz_9 htt_9 hrc_9 hrs_9
  try clear hb_94 hb_95
  refine lv_astore_n (lv' := [(1, .ref s.heap.size), (0, .ref r0)]) hx hb dX11_cancelRequest_32 rfl hl (by decide) rfl (fun ls hl => ?_)
  refine lv_iconst (v := 0) hx hb dX11_cancelRequest_33 (by decide) ?_
  refine lv_istore_n (lv' := [(2, .int 0), (1, .ref s.heap.size), (0, .ref r0)]) hx hb dX11_cancelRequest_34 rfl hl (by decide) rfl (fun ls hl => ?_)
  have L35 : ∀ (N : Nat) (v2_28 : Int32) (H_28 : Heap) (locs_28 : List Loc), jSt (dC, dI) B base G0 G_9 EX11_cancelRequest s.heap ((n_pa - n_pa) / 16 + 11) (2 * (n_pa - n_pa) + 267) [(bo, 2, 1, .int pc), (bo, 2, 0, .ref pa), (r0, 13, 4, .ref bo), (r0, 13, 3, .ref ou), (r0, 13, 2, .ref js), (js, 6, 7, .int pv), (js, 6, 8, .int pu), (js, 6, 0, .ref wk), (js, 6, 1, .ref wi), (js, 6, 2, .ref wz), (js, 6, 5, .ref jks)] [(wk, 140, 1502, ca 1, fk), (wi, 141, 1502, ca 1, fi), (wz, 142, 1502, ca 1, fz), (jks, 145, 1502, ca 1, fs)] [([(2, 0), (2, 1)], jOl (dC, dI) G0 2 [bo, ou] s.heap), (jFy, jYb dC dI G_9), (jFl, jLs dC dI ca G_9 3 none)] H_28 locs_28 → (0 ≤ v2_28.toInt ∧ v2_28.toInt ≤ 40) → (41 - v2_28.toInt : Int) < N → ∀ ls : Array Slot, lv_has ls 3 [(0, .ref r0), (1, .ref s.heap.size), (2, .int v2_28)] → W p l e R s m ([.ref r0] : List Value).toArray below meth c H_28 locs_28 ((n_pa - n_pa) / 16 + 11) (2 * (n_pa - n_pa) + 267) Q (F0 m 35 ls []) := by
    intro N
    induction N with
    | zero => intro v2_28 H_28 locs_28 hh_28  hi_28 hm; exact absurd hm (by omega)
    | succ N L35 =>
      intro v2_28 H_28 locs_28 hh_28  hi_28 hm_28 ls hl
      obtain ⟨hi_28_0, hi_28_1⟩ := hi_28
      try clear hr_4_2; try clear hr_7_2
      refine lv_iload_n hx hb dX11_cancelRequest_35 rfl (lv_at hl 2 rfl) ?_
      refine lv_aload_n hx hb dX11_cancelRequest_36 rfl (lv_at hl 0 rfl) ?_
      obtain ⟨v_29, hv_29, hh_30⟩ := hh_28.pin (C := RX11) (T := TX11) (N := 19) hB13 rfl (by decide) hg_11 (i := 8) (by decide) rfl
      clear hh_28
      obtain ⟨waiting_31, rfl, hg_waiting_31⟩ := hv_29
      refine j7_read hx hb hown hK (C := RX11) (T := TX11) (N := 19) rfl hly_13_8 hlk_65 (hh_30.at 0 rfl) dX11_cancelRequest_37 ?_
      obtain ⟨v_34, hv_34, hh_35⟩ := hh_30.pin (C := RJx4a65c) (T := TJx4a65c) (N := 3) hB1 rfl (by decide) hg_waiting_31 (i := 2) (by decide) rfl
      obtain ⟨size_36, rfl, hlosize_36, hhisize_36⟩ := hv_34
      have hsz_32 := hh_35.2.2.2.2.2.1
      have htt_32 := hh_35.2.2.2.2.2.2.1
      refine W.room (fun hrc_32 hrs_32 => ?_)
      refine va_callFi (A0 := jA base) (H0 := s.heap) (va_runF (hK.1 1 _ rfl).2 (As := []) (rest := [.int v2_28]) ⟨hx, hb, hml, hown, hts⟩ (uJx4a65c_size_8abf5 l dC dI ca base B hB hAp hB1 G_9 H_28 waiting_31 2 size_36) (va_cwF 0 hts (jgF (jWr_27 _ (List.mem_of_getElem? (i := 22) rfl)) (jWr_27 _ (List.mem_of_getElem? (i := 23) rfl)) (jWr_28 _ (List.mem_of_getElem? (i := 0) rfl)) (jWr_2 _ (List.mem_of_getElem? (i := 13) rfl)) (jWr_28 _ (List.mem_of_getElem? (i := 1) rfl))) rfl rfl rfl hK7.2.2.2.2.2.1.1 ⟨by decide, by decide, by decide +kernel⟩ ⟨by rw [← hR]; exact Nat.le_of_ble_eq_true rfl, by rw [← hR]; exact Nat.le_of_ble_eq_true rfl⟩) ⟨fun a U g mk q => by obtain ⟨q0, q1, q2, qK, q10, q11, q12⟩ := q; exact ⟨q0, q1, q2, jG.calling g mk a qK, q10, q11, q12⟩, hh_35.recv (C := RJx4a65c) (T := TJx4a65c) (N := 3) hB1 rfl (by decide) hg_waiting_31 hK, fun U hU hW => ⟨rfl, hU, hh_35.2.1, hG.step hW hU hh_35.1, hg_waiting_31, (hh_35.2.2.1.sub (L1 := [(waiting_31, 1, 2, .int size_36)]) [0] rfl), trivial⟩⟩ rfl rfl hl.1 rfl (lv_room (Nat.le_of_ble_eq_true rfl)) dX11_cancelRequest_40 ⟨by rw [hRc]; show _ + 0 ≤ _; omega, by rw [hRs]; show _ + 0 ≤ _; omega⟩) hh_35.1 (fun q _ h => h) (fun q h => h) (fun r_33 u_32 t_32 H_32 locs_32 ht_32 hvm_32 hr_33 hb_32 hz_32 hk_32 hS_32 => ?_)
      rw [ht_32] at hb_32
      obtain ⟨hb_321, hb_322, hb_323, hb_324, hb_325⟩ := hb_32
      have hh_32 : jSt (dC, dI) B base G0 G_9 EX11_cancelRequest s.heap ((n_pa - n_pa) / 16 + 11) (2 * (n_pa - n_pa) + 267) [(waiting_31, 1, 2, .int size_36), (r0, 13, 8, .ref waiting_31), (bo, 2, 1, .int pc), (bo, 2, 0, .ref pa), (r0, 13, 4, .ref bo), (r0, 13, 3, .ref ou), (r0, 13, 2, .ref js), (js, 6, 7, .int pv), (js, 6, 8, .int pu), (js, 6, 0, .ref wk), (js, 6, 1, .ref wi), (js, 6, 2, .ref wz), (js, 6, 5, .ref jks)] [(wk, 140, 1502, ca 1, fk), (wi, 141, 1502, ca 1, fi), (wz, 142, 1502, ca 1, fz), (jks, 145, 1502, ca 1, fs)] [([(2, 0), (2, 1)], jOl (dC, dI) G0 2 [bo, ou] s.heap), (jFy, jYb dC dI G_9), (jFl, jLs dC dI ca G_9 3 none)] H_32 locs_32 := ((hh_35.call hb_321 hb_322 hb_323 hb_324 hS_32 rfl (L1 := [(waiting_31, 1, 2, .int size_36), (r0, 13, 8, .ref waiting_31), (bo, 2, 1, .int pc), (bo, 2, 0, .ref pa), (r0, 13, 4, .ref bo), (r0, 13, 3, .ref ou), (r0, 13, 2, .ref js), (js, 6, 7, .int pv), (js, 6, 8, .int pu), (js, 6, 0, .ref wk), (js, 6, 1, .ref wi), (js, 6, 2, .ref wz), (js, 6, 5, .ref jks)]) [0, 1, 2, 3, 4, 5, 6, 7, 8, 9, 10, 11, 12] rfl rfl (M1 := [(wk, 140, 1502, ca 1, fk), (wi, 141, 1502, ca 1, fi), (wz, 142, 1502, ca 1, fz), (jks, 145, 1502, ca 1, fs)]) [0, 1, 2, 3] rfl rfl (I1 := [([(2, 0), (2, 1)], jOl (dC, dI) G0 2 [bo, ou] s.heap), (jFy, jYb dC dI G_9), (jFl, jLs dC dI ca G_9 3 none)]) [0, 1, 2] rfl rfl).more hb_325)
      clear hh_35 ht_32 hvm_32 hz_32 hk_32 hS_32 hb_321 hb_322 hb_323 hb_324 hb_325
      refine lv_icmp_ge (tgt := 95) hx hb dX11_cancelRequest_45 (by decide) (fun c_37 => ?_) (fun c_37 => ?_)
      · skip
        have c_37' : v2_28.toInt ≥ r_33.toInt := jb_ge (rfl) (rfl) c_37
        have hsz_38 := hh_32.2.2.2.2.2.1
        have htt_38 := hh_32.2.2.2.2.2.2.1
        refine W.room (fun hrc_38 hrs_38 => ?_)
        refine W.widen (k := LC - s.heap.size) (n := LS - jTot s.heap) (by omega) (by omega) ?_
        rw [hQ]
        exact W.vret hx hb hr (fun t ht hW => ⟨⟨(pc, pa, n_pa, G_9), rfl, by (try dsimp only); exact ⟨(by first | omega | rfl | assumption | fail), (by first | omega | rfl | assumption | fail), (by first | omega | rfl | assumption | fail), (by first | omega | rfl | assumption | fail), (by first | assumption | fail | omega)⟩, ⟨hh_32.ra (by first | omega | (simp only; omega)) (by first | omega | (simp only; omega)) (M1 := [(bo, 2, 1, .int pc), (bo, 2, 0, .ref pa)]) [2, 3] rfl ht, hg_24, hNn_9, by rw [ht]; exact hh_32.iv 0 rfl, by rw [ht]; exact hh_32.2.2.2.2.2.2.2.2.sub (L1 := [(jFy, jYb dC dI G_9), (jFl, jLs dC dI ca G_9 3 none)]) [1, 2] rfl⟩⟩, by rw [ht]; try exact hh_32.1.1, fun q h9 hq => by rw [ht]; try exact hh_32.1.2.1 q h9 hq⟩) hh_32.1.2.2 dX11_cancelRequest_95
      · skip
        have c_37' : v2_28.toInt < r_33.toInt := jb_ge_n (rfl) (rfl) c_37
        refine lv_aload_n hx hb dX11_cancelRequest_48 rfl (lv_at hl 0 rfl) ?_
        refine j7_read hx hb hown hK (C := RX11) (T := TX11) (N := 19) rfl hly_13_8 hlk_65 (hh_32.at 1 rfl) dX11_cancelRequest_49 ?_
        refine lv_iload_n hx hb dX11_cancelRequest_52 rfl (lv_at hl 2 rfl) ?_
        have hsz_39 := hh_32.2.2.2.2.2.1
        have htt_39 := hh_32.2.2.2.2.2.2.1
        refine W.room (fun hrc_39 hrs_39 => ?_)
        refine j_callFx (A0 := jA base) (H0 := s.heap) (va_runF (hK.1 1 _ rfl).2 (As := [.int v2_28]) (rest := []) ⟨hx, hb, hml, hown, hts⟩ (uJx4a65c_get_915e3L2 l dC dI ca base B hB hAp hB1 hB10 hB222 G_9 H_32 waiting_31 v2_28 size_36) (va_cwF 1 hts (jgF (jWr_28 _ (List.mem_of_getElem? (i := 3) rfl)) (jWr_28 _ (List.mem_of_getElem? (i := 4) rfl)) (jWr_28 _ (List.mem_of_getElem? (i := 5) rfl)) (jWr_2 _ (List.mem_of_getElem? (i := 13) rfl)) (jWr_28 _ (List.mem_of_getElem? (i := 6) rfl))) rfl rfl rfl hK7.2.2.2.2.2.1.2.1 ⟨by decide, by decide, by decide +kernel⟩ ⟨by rw [← hR]; exact Nat.le_of_ble_eq_true rfl, by rw [← hR]; exact Nat.le_of_ble_eq_true rfl⟩) ⟨fun a U g mk q => by obtain ⟨q0, q1, q2, qK, q10, q11, q12, q13, q14⟩ := q; exact ⟨q0, q1, q2, jG.calling g mk a qK, (jK7.calling g mk a q10), q11, q12, q13, q14⟩, hh_32.recv (C := RJx4a65c) (T := TJx4a65c) (N := 3) hB1 rfl (by decide) hg_waiting_31 hK, fun U hU hW => ⟨rfl, hU, hh_32.2.1, hG.step hW hU hh_32.1, (hK7.step hW hU hh_32.1), hg_waiting_31, (hh_32.2.2.1.sub (L1 := [(waiting_31, 1, 2, .int size_36)]) [0] rfl), (hh_32.2.2.2.2.2.2.2.2.sub (L1 := [(jFl, jLs dC dI ca G_9 3 none)]) [2] rfl), ⟨(by first | omega | rfl | assumption | fail), (by first | omega | rfl | assumption | fail)⟩⟩⟩ rfl rfl hl.1 rfl (lv_room (Nat.le_of_ble_eq_true rfl)) dX11_cancelRequest_53 ⟨by rw [hRc]; show _ + 0 ≤ _; omega, by rw [hRs]; show _ + 0 ≤ _; omega⟩) hh_32.1 (fun q _ h => h) (fun q h => h) (fun r_40 u_39 t_39 H_39 locs_39 ht_39 hvm_39 hr_40 hb_39 hz_39 hk_39 hS_39 => ?_)
        rw [ht_39] at hb_39
        obtain ⟨hb_39, hbE_39⟩ := hb_39
        obtain ⟨hb_391, hb_392, hb_393, hb_394, hb_395⟩ := hb_39
        have hh_39 : jSt (dC, dI) B base G0 G_9 EX11_cancelRequest s.heap ((n_pa - n_pa) / 16 + 11) (2 * (n_pa - n_pa) + 267) [(waiting_31, 1, 2, .int size_36), (r0, 13, 8, .ref waiting_31), (bo, 2, 1, .int pc), (bo, 2, 0, .ref pa), (r0, 13, 4, .ref bo), (r0, 13, 3, .ref ou), (r0, 13, 2, .ref js), (js, 6, 7, .int pv), (js, 6, 8, .int pu), (js, 6, 0, .ref wk), (js, 6, 1, .ref wi), (js, 6, 2, .ref wz), (js, 6, 5, .ref jks)] [(wk, 140, 1502, ca 1, fk), (wi, 141, 1502, ca 1, fi), (wz, 142, 1502, ca 1, fz), (jks, 145, 1502, ca 1, fs)] [(jFl, jLs dC dI ca G_9 3 none), ([(2, 0), (2, 1)], jOl (dC, dI) G0 2 [bo, ou] s.heap), (jFy, jYb dC dI G_9)] H_39 locs_39 := (((hh_32.call hb_391 hb_392 hb_393 hb_394 hS_39 rfl (L1 := [(waiting_31, 1, 2, .int size_36), (r0, 13, 8, .ref waiting_31), (bo, 2, 1, .int pc), (bo, 2, 0, .ref pa), (r0, 13, 4, .ref bo), (r0, 13, 3, .ref ou), (r0, 13, 2, .ref js), (js, 6, 7, .int pv), (js, 6, 8, .int pu), (js, 6, 0, .ref wk), (js, 6, 1, .ref wi), (js, 6, 2, .ref wz), (js, 6, 5, .ref jks)]) [0, 1, 2, 3, 4, 5, 6, 7, 8, 9, 10, 11, 12] rfl rfl (M1 := [(wk, 140, 1502, ca 1, fk), (wi, 141, 1502, ca 1, fi), (wz, 142, 1502, ca 1, fz), (jks, 145, 1502, ca 1, fs)]) [0, 1, 2, 3] rfl rfl (I1 := [([(2, 0), (2, 1)], jOl (dC, dI) G0 2 [bo, ou] s.heap), (jFy, jYb dC dI G_9)]) [0, 1] rfl rfl).more hb_395)).addIs hbE_39
        clear hh_32 ht_39 hvm_39 hz_39 hk_39 hS_39 hb_391 hb_392 hb_393 hb_394 hb_395
        clear  hbE_39
        obtain ⟨ret_41, rfl, hg_ret_41⟩ := hr_40
        refine va_castY hx hb hown (htw (.classLink RX11 115 "ProofServer$Request") (jWr_42 _ (List.mem_of_getElem? (i := 5) rfl))) hK7.2.2.1.2.1.2 (hh_39.recv (C := RX8) (T := TX8) (N := 5) hB10 rfl (by decide) hg_ret_41 hK) dX11_cancelRequest_58 ?_
        refine lv_aload_n hx hb dX11_cancelRequest_61 rfl (lv_at hl 1 rfl) ?_
        have hsz_42 := hh_39.2.2.2.2.2.1
        have htt_42 := hh_39.2.2.2.2.2.2.1
        refine W.room (fun hrc_42 hrs_42 => ?_)
        refine va_calli (A0 := jA base) (H0 := s.heap) (va_runV (As := [.ref s.heap.size]) (rest := []) ⟨hx, hb, hml, hown, hts⟩ (uX8_hasIdOf l dC dI ca base B hB hAp hB2 hB10 hB196 G_9 H_39 ret_41 s.heap.size) (cwV 1 hts (jgV (jWr_43 _ (List.mem_of_getElem? (i := 23) rfl)) (jWr_44 _ (List.mem_of_getElem? (i := 0) rfl)) (jWr_44 _ (List.mem_of_getElem? (i := 1) rfl)) (jWr_19 _ (List.mem_of_getElem? (i := 5) rfl)) (jWr_44 _ (List.mem_of_getElem? (i := 2) rfl))) rfl rfl rfl (by decide +kernel) ⟨by rw [← hR]; exact Nat.le_of_ble_eq_true rfl, by rw [← hR]; exact Nat.le_of_ble_eq_true rfl⟩) ⟨fun a U g mk q => by obtain ⟨q0, q1, q2, qK, q10, q11, q12, q13, q14⟩ := q; exact ⟨q0, q1, q2, jG.calling g mk a qK, q10, q11, q12, q13, q14⟩, hh_39.recv (C := RX8) (T := TX8) (N := 5) hB10 rfl (by decide) hg_ret_41 hK, fun U hU hW => ⟨rfl, hU, hh_39.2.1, hG.step hW hU hh_39.1, hgc_9, hg_ret_41, jP.nil, (hh_39.2.2.2.2.2.2.2.2.sub (L1 := [(jFy, jYb dC dI G_9)]) [2] rfl), trivial⟩⟩ rfl rfl hl.1 rfl (lv_room (Nat.le_of_ble_eq_true rfl)) dX11_cancelRequest_62 ⟨by rw [hRc]; show _ + 0 ≤ _; omega, by rw [hRs]; show _ + 0 ≤ _; omega⟩) hh_39.1 (fun q _ h => h) (fun q h => h) (fun r_43 u_42 t_42 H_42 locs_42 ht_42 hvm_42 hr_43 hb_42 hz_42 hk_42 hS_42 => ?_)
        rw [ht_42] at hb_42
        obtain ⟨hb_42, hbE_42⟩ := hb_42
        obtain ⟨hb_421, hb_422, hb_423, hb_424, hb_425⟩ := hb_42
        have hh_42 : jSt (dC, dI) B base G0 G_9 EX11_cancelRequest s.heap ((n_pa - n_pa) / 16 + 11) (2 * (n_pa - n_pa) + 267) [(waiting_31, 1, 2, .int size_36), (r0, 13, 8, .ref waiting_31), (bo, 2, 1, .int pc), (bo, 2, 0, .ref pa), (r0, 13, 4, .ref bo), (r0, 13, 3, .ref ou), (r0, 13, 2, .ref js), (js, 6, 7, .int pv), (js, 6, 8, .int pu), (js, 6, 0, .ref wk), (js, 6, 1, .ref wi), (js, 6, 2, .ref wz), (js, 6, 5, .ref jks)] [(wk, 140, 1502, ca 1, fk), (wi, 141, 1502, ca 1, fi), (wz, 142, 1502, ca 1, fz), (jks, 145, 1502, ca 1, fs)] [(jFy, jYb dC dI G_9), (jFl, jLs dC dI ca G_9 3 none), ([(2, 0), (2, 1)], jOl (dC, dI) G0 2 [bo, ou] s.heap)] H_42 locs_42 := (((hh_39.call hb_421 hb_422 hb_423 hb_424 hS_42 rfl (L1 := [(waiting_31, 1, 2, .int size_36), (r0, 13, 8, .ref waiting_31), (bo, 2, 1, .int pc), (bo, 2, 0, .ref pa), (r0, 13, 4, .ref bo), (r0, 13, 3, .ref ou), (r0, 13, 2, .ref js), (js, 6, 7, .int pv), (js, 6, 8, .int pu), (js, 6, 0, .ref wk), (js, 6, 1, .ref wi), (js, 6, 2, .ref wz), (js, 6, 5, .ref jks)]) [0, 1, 2, 3, 4, 5, 6, 7, 8, 9, 10, 11, 12] rfl rfl (M1 := [(wk, 140, 1502, ca 1, fk), (wi, 141, 1502, ca 1, fi), (wz, 142, 1502, ca 1, fz), (jks, 145, 1502, ca 1, fs)]) [0, 1, 2, 3] rfl rfl (I1 := [(jFl, jLs dC dI ca G_9 3 none), ([(2, 0), (2, 1)], jOl (dC, dI) G0 2 [bo, ou] s.heap)]) [0, 1] rfl rfl).more hb_425)).addIs hbE_42
        clear hh_39 ht_42 hvm_42 hz_42 hk_42 hS_42 hb_421 hb_422 hb_423 hb_424 hb_425
        clear  hbE_42
        obtain ⟨hr_43b, hr_43p⟩ := hr_43
        have hr_43' := jb_01 hr_43b
        refine lv_if_eq (tgt := 89) hx hb dX11_cancelRequest_65 (by decide) (fun c_44 => ?_) (fun c_44 => ?_)
        · skip
          have c_44' : r_43.toInt = 0 := jb_eq (rfl) ((by decide)) c_44
          obtain ⟨z_45, ez_45⟩ : ∃ y : Int32, y = v2_28 + 1 := ⟨_, rfl⟩
          refine lv_iinc (v := z_45) (lv' := [(2, .int z_45), (0, .ref r0), (1, .ref s.heap.size)]) hx hb dX11_cancelRequest_89 hl (k := 2) rfl (by rw [ez_45]; rfl) (by decide) rfl (fun ls hl => ?_)
          have hz_45 : z_45.toInt = v2_28.toInt + 1 := by rw [ez_45]; exact jb_iadd2 (rfl) (by decide) (by omega)
          refine lv_goto (tgt := 35) hx hb dX11_cancelRequest_92 (by decide) ?_
          refine W.tight (c2 := ((n_pa - n_pa) / 16 + 11)) (n2 := (2 * (n_pa - n_pa) + 267)) hh_42.2.2.2.2.2.1 hh_42.2.2.2.2.2.2.1 ?_
          exact L35 z_45 _ _ (hh_42.sub (L1 := [(bo, 2, 1, .int pc), (bo, 2, 0, .ref pa), (r0, 13, 4, .ref bo), (r0, 13, 3, .ref ou), (r0, 13, 2, .ref js), (js, 6, 7, .int pv), (js, 6, 8, .int pu), (js, 6, 0, .ref wk), (js, 6, 1, .ref wi), (js, 6, 2, .ref wz), (js, 6, 5, .ref jks)]) [2, 3, 4, 5, 6, 7, 8, 9, 10, 11, 12] rfl (M1 := [(wk, 140, 1502, ca 1, fk), (wi, 141, 1502, ca 1, fi), (wz, 142, 1502, ca 1, fz), (jks, 145, 1502, ca 1, fs)]) [0, 1, 2, 3] rfl (I1 := [([(2, 0), (2, 1)], jOl (dC, dI) G0 2 [bo, ou] s.heap), (jFy, jYb dC dI G_9), (jFl, jLs dC dI ca G_9 3 none)]) [2, 0, 1] rfl) (⟨(by first | omega | rfl | assumption | fail), (by first | omega | rfl | assumption | fail)⟩) (by omega) _ (lv_sub hl [1, 2, 0] rfl)
        · skip
          have c_44' : r_43.toInt ≠ 0 := jb_eq_n (rfl) ((by decide)) c_44
          refine lv_aload_n hx hb dX11_cancelRequest_68 rfl (lv_at hl 0 rfl) ?_
          refine lv_aload_n hx hb dX11_cancelRequest_69 rfl (lv_at hl 0 rfl) ?_
          refine j7_read hx hb hown hK (C := RX11) (T := TX11) (N := 19) rfl hly_13_8 hlk_65 (hh_42.at 1 rfl) dX11_cancelRequest_70 ?_
          refine lv_iload_n hx hb dX11_cancelRequest_73 rfl (lv_at hl 2 rfl) ?_
          have hsz_46 := hh_42.2.2.2.2.2.1
          have htt_46 := hh_42.2.2.2.2.2.2.1
          refine W.room (fun hrc_46 hrs_46 => ?_)
          refine j_callFx (A0 := jA base) (H0 := s.heap) (va_runF (hK.1 1 _ rfl).2 (As := [.int v2_28]) (rest := [.ref r0]) ⟨hx, hb, hml, hown, hts⟩ (uJx4a65c_remove_915e3L2 l dC dI ca base B hB hAp hB1 hB10 hB222 G_9 H_42 waiting_31 v2_28 size_36) (va_cwF 1 hts (jgF (jWr_42 _ (List.mem_of_getElem? (i := 7) rfl)) (jWr_42 _ (List.mem_of_getElem? (i := 8) rfl)) (jWr_42 _ (List.mem_of_getElem? (i := 9) rfl)) (jWr_2 _ (List.mem_of_getElem? (i := 13) rfl)) (jWr_42 _ (List.mem_of_getElem? (i := 10) rfl))) rfl rfl rfl hK7.2.2.2.2.2.1.2.2.2 ⟨by decide, by decide, by decide +kernel⟩ ⟨by rw [← hR]; exact Nat.le_of_ble_eq_true rfl, by rw [← hR]; exact Nat.le_of_ble_eq_true rfl⟩) ⟨fun a U g mk q => by obtain ⟨q0, q1, q2, qK, q10, q11, q12, q13, q14⟩ := q; exact ⟨q0, q1, q2, jG.calling g mk a qK, (jK7.calling g mk a q10), q11, q12, q13, q14⟩, hh_42.recv (C := RJx4a65c) (T := TJx4a65c) (N := 3) hB1 rfl (by decide) hg_waiting_31 hK, fun U hU hW => ⟨rfl, hU, hh_42.2.1, hG.step hW hU hh_42.1, (hK7.step hW hU hh_42.1), hg_waiting_31, (hh_42.2.2.1.sub (L1 := [(waiting_31, 1, 2, .int size_36)]) [0] rfl), (hh_42.2.2.2.2.2.2.2.2.sub (L1 := [(jFl, jLs dC dI ca G_9 3 none)]) [1] rfl), ⟨(by first | omega | rfl | assumption | fail), (by first | omega | rfl | assumption | fail)⟩⟩⟩ rfl rfl hl.1 rfl (lv_room (Nat.le_of_ble_eq_true rfl)) dX11_cancelRequest_74 ⟨by rw [hRc]; show _ + 0 ≤ _; omega, by rw [hRs]; show _ + 0 ≤ _; omega⟩) hh_42.1 (fun q _ h => h) (fun q h => h) (fun r_47 u_46 t_46 H_46 locs_46 ht_46 hvm_46 hr_47 hb_46 hz_46 hk_46 hS_46 => ?_)
          obtain ⟨qz_46, rfl⟩ : ∃ z, z = u_46 := ⟨_, rfl⟩
          rw [ht_46] at hb_46
          obtain ⟨hb_46, hbE_46⟩ := hb_46
          obtain ⟨hb_46, hbO_46⟩ := hb_46
          obtain ⟨hb_461, hb_462, hb_463, hb_464, hb_465⟩ := hb_46
          have hh_46 : jSt (dC, dI) B base G0 G_9 EX11_cancelRequest s.heap ((n_pa - n_pa) / 16 + 11) (2 * (n_pa - n_pa) + 267) [(waiting_31, 1, 2, .int qz_46), (r0, 13, 8, .ref waiting_31), (bo, 2, 1, .int pc), (bo, 2, 0, .ref pa), (r0, 13, 4, .ref bo), (r0, 13, 3, .ref ou), (r0, 13, 2, .ref js), (js, 6, 7, .int pv), (js, 6, 8, .int pu), (js, 6, 0, .ref wk), (js, 6, 1, .ref wi), (js, 6, 2, .ref wz), (js, 6, 5, .ref jks)] [(wk, 140, 1502, ca 1, fk), (wi, 141, 1502, ca 1, fi), (wz, 142, 1502, ca 1, fz), (jks, 145, 1502, ca 1, fs)] [(jFl, jLs dC dI ca G_9 3 none), (jFy, jYb dC dI G_9), ([(2, 0), (2, 1)], jOl (dC, dI) G0 2 [bo, ou] s.heap)] H_46 locs_46 := (((hh_42.call hb_461 hb_462 hb_463 hb_464 hS_46 rfl (L1 := [(r0, 13, 8, .ref waiting_31), (bo, 2, 1, .int pc), (bo, 2, 0, .ref pa), (r0, 13, 4, .ref bo), (r0, 13, 3, .ref ou), (r0, 13, 2, .ref js), (js, 6, 7, .int pv), (js, 6, 8, .int pu), (js, 6, 0, .ref wk), (js, 6, 1, .ref wi), (js, 6, 2, .ref wz), (js, 6, 5, .ref jks)]) [1, 2, 3, 4, 5, 6, 7, 8, 9, 10, 11, 12] rfl rfl (M1 := [(wk, 140, 1502, ca 1, fk), (wi, 141, 1502, ca 1, fi), (wz, 142, 1502, ca 1, fz), (jks, 145, 1502, ca 1, fs)]) [0, 1, 2, 3] rfl rfl (I1 := [(jFy, jYb dC dI G_9), ([(2, 0), (2, 1)], jOl (dC, dI) G0 2 [bo, ou] s.heap)]) [0, 2] rfl rfl).more hb_465)).addIs hbE_46
          clear hh_42 ht_46 hvm_46 hz_46 hk_46 hS_46 hb_461 hb_462 hb_463 hb_464 hb_465
          clear  hbE_46
          obtain ⟨hr_47, hr_47p⟩ := hr_47
          obtain ⟨ret_48, rfl, hg_ret_48⟩ := hr_47
          refine va_castY hx hb hown (htw (.classLink RX11 115 "ProofServer$Request") (jWr_42 _ (List.mem_of_getElem? (i := 5) rfl))) hK7.2.2.1.2.1.2 (hh_46.recv (C := RX8) (T := TX8) (N := 5) hB10 rfl (by decide) hg_ret_48 hK) dX11_cancelRequest_79 ?_
          refine lv_ldcw hx hb hown hcs_429 dX11_cancelRequest_82 ?_
          have hsz_49 := hh_46.2.2.2.2.2.1
          have htt_49 := hh_46.2.2.2.2.2.2.1
          refine W.room (fun hrc_49 hrs_49 => ?_)
          refine va_callv (A0 := jA base) (H0 := s.heap) (va_runV (As := [.ref ret_48, .int (-32800)]) (rest := []) ⟨hx, hb, hml, hown, hts⟩ (uX11_refuse l dC dI ca base B hB hAp hB2 hB4 hB10 hB13 hB196 G_9 H_46 r0 ret_48 (-32800) bo pc pa n_pa ou LC LS) (cwV 2 hts (jgV (jWr_26 _ (List.mem_of_getElem? (i := 3) rfl)) (jWr_26 _ (List.mem_of_getElem? (i := 4) rfl)) (jWr_26 _ (List.mem_of_getElem? (i := 5) rfl)) (jWr_1 _ (List.mem_of_getElem? (i := 2) rfl)) (jWr_26 _ (List.mem_of_getElem? (i := 6) rfl))) rfl rfl rfl (by decide +kernel) ⟨by rw [← hR]; exact Nat.le_of_ble_eq_true rfl, by rw [← hR]; exact Nat.le_of_ble_eq_true rfl⟩) ⟨fun a U g mk q => by obtain ⟨q0, q1, q2, qK, q10, q11, q12, q13, q14, q15, q16, q17⟩ := q; exact ⟨q0, q1, q2, jG.calling g mk a qK, q10, q11, q12, q13, q14, q15, q16, q17⟩, hh_46.recv (C := RX11) (T := TX11) (N := 19) hB13 rfl (by decide) hg_11 hK, fun U hU hW => ⟨rfl, hU, hh_46.2.1, hG.step hW hU hh_46.1, hg_ret_48, hg_11, hg_12, hg_24, hg_13, (hh_46.2.2.1.sub (L1 := [(r0, 13, 4, .ref bo), (bo, 2, 1, .int pc), (bo, 2, 0, .ref pa), (r0, 13, 3, .ref ou)]) [4, 2, 3, 5] rfl), (hh_46.2.2.2.2.2.2.2.2.sub (L1 := [(jFy, jYb dC dI G_9)]) [1] rfl), (by omega), (by omega), ⟨(by first | omega | rfl | assumption | fail), (by first | omega | rfl | assumption | fail), (by first | omega | rfl | assumption | fail), (by first | omega | rfl | assumption | fail), (by first | assumption | fail | omega)⟩⟩⟩ rfl rfl hl.1 rfl (lv_room (Nat.le_of_ble_eq_true rfl)) dX11_cancelRequest_85 ⟨by rw [hRc]; omega, by rw [hRs]; omega⟩) hh_46.1 (fun q _ h => h) (fun q h => h) (fun u_49 t_49 H_49 locs_49 ht_49 hvm_49 hr_50 hb_49 hz_49 hk_49 hS_49 => ?_)
          obtain ⟨qc_49, qa_49, m_qa_49, G_49⟩ := u_49
          rw [ht_49] at hb_49
          simp only at hb_49
          obtain ⟨⟨hb_491, hb_492, hb_493, hb_494, hb_495, hb_496⟩, hgq_49_0, hN_49, hbO_49, hbE_49⟩ := hb_49
          have hY_49 := hN_49
          have hN_49 : (jNk [0, 1, 3, 4, 5, 6, 7, 8, 9, 11, 12, 13, 14, 15, 16]) G_9 G_49 := hN_49.sub (by decide)
          have hh_49 : jSt (dC, dI) B base G0 G_49 EX11_cancelRequest s.heap (((n_pa - n_pa) / 16 + 11) + ((m_qa_49 - n_pa) / 16)) ((2 * (n_pa - n_pa) + 267) + (2 * (m_qa_49 - n_pa))) [(bo, 2, 1, .int qc_49), (bo, 2, 0, .ref qa_49), (waiting_31, 1, 2, .int qz_46), (r0, 13, 8, .ref waiting_31), (r0, 13, 4, .ref bo), (r0, 13, 3, .ref ou), (r0, 13, 2, .ref js), (js, 6, 7, .int pv), (js, 6, 8, .int pu), (js, 6, 0, .ref wk), (js, 6, 1, .ref wi), (js, 6, 2, .ref wz), (js, 6, 5, .ref jks)] [(wk, 140, 1502, ca 1, fk), (wi, 141, 1502, ca 1, fi), (wz, 142, 1502, ca 1, fz), (jks, 145, 1502, ca 1, fs)] [(jFl, jLs dC dI ca G_9 3 none)] H_49 locs_49 := (hh_46.callG hb_491 hb_492 hb_493 hb_494 hb_495 hS_49 rfl (L1 := [(waiting_31, 1, 2, .int qz_46), (r0, 13, 8, .ref waiting_31), (r0, 13, 4, .ref bo), (r0, 13, 3, .ref ou), (r0, 13, 2, .ref js), (js, 6, 7, .int pv), (js, 6, 8, .int pu), (js, 6, 0, .ref wk), (js, 6, 1, .ref wi), (js, 6, 2, .ref wz), (js, 6, 5, .ref jks)]) [0, 1, 4, 5, 6, 7, 8, 9, 10, 11, 12] rfl rfl (M1 := [(wk, 140, 1502, ca 1, fk), (wi, 141, 1502, ca 1, fi), (wz, 142, 1502, ca 1, fz), (jks, 145, 1502, ca 1, fs)]) [0, 1, 2, 3] rfl rfl (I1 := [(jFl, jLs dC dI ca G_9 3 none)]) [0] rfl rfl).more hb_496
          have hNn_49 : (jNk [0, 1, 3, 4, 5, 6, 7, 8, 9, 11, 12, 13, 14, 15, 16]) G0 G_49 := (hNn_9).tr hN_49
          have hg_51 := hb_492 _ _ hg_11
          have hg_52 := hb_492 _ _ hgc_9
          have hg_53 := hb_492 _ _ hg_waiting_31
          have hg_54 := hb_492 _ _ hg_12
          have hg_55 := hb_492 _ _ hg_13
          have hg_56 := hb_492 _ _ hg_14
          have hg_57 := hb_492 _ _ hg_15
          have hg_58 := hb_492 _ _ hg_16
          have hg_59 := hb_492 _ _ hg_17
          have hg_60 := hb_492 _ _ hg_18
          have hd_61 := jLs.grow (hh_49.iv 0 rfl) hb_492 hN_49 (by decide)
          have hh_62 := hh_49.sub (L1 := [(bo, 2, 1, .int qc_49), (bo, 2, 0, .ref qa_49), (waiting_31, 1, 2, .int qz_46), (r0, 13, 8, .ref waiting_31), (r0, 13, 4, .ref bo), (r0, 13, 3, .ref ou), (r0, 13, 2, .ref js), (js, 6, 7, .int pv), (js, 6, 8, .int pu), (js, 6, 0, .ref wk), (js, 6, 1, .ref wi), (js, 6, 2, .ref wz), (js, 6, 5, .ref jks)]) [0, 1, 2, 3, 4, 5, 6, 7, 8, 9, 10, 11, 12] rfl (M1 := [(wk, 140, 1502, ca 1, fk), (wi, 141, 1502, ca 1, fi), (wz, 142, 1502, ca 1, fz), (jks, 145, 1502, ca 1, fs)]) [0, 1, 2, 3] rfl (I1 := []) [] rfl
          clear hh_49
          have hh_63 := hh_62.addI (jLs.ie hd_61)
          clear hh_62
          have hh_64 := hh_63.addIs hbE_49
          have hd_65 := jOl.trL (hh_46.iv 2 rfl) hh_46.2.2.2.2.1 hbO_49 (by simp)
          have hh_66 := hh_64.addI (jOl.ie (dC := dC) (dI := dI) (G0 := G0) (k := 2) (rs := [bo, ou]) (H0 := s.heap) (F := [(2, 0), (2, 1)]) (C := RX0) (T := TX0) (N := 2) rfl (by decide) hh_64.2.2.2.2.1 (hd_65))
          clear hh_64
          try simp only at hr_50
          obtain ⟨hr_50_0, hr_50_1, hr_50_2, hr_50_3, hr_50_4⟩ := hr_50
          have hh_67 := hh_66.wk (zc1 := (m_qa_49 - n_pa) / 16 + 11) (zs1 := 2 * (m_qa_49 - n_pa) + 267) (by omega) (by omega)
          clear hh_66
          try clear hsz_49 htt_49 hrc_49 hrs_49
          try clear hb_494 hb_495
          have hsz_68 := hh_67.2.2.2.2.2.1
          have htt_68 := hh_67.2.2.2.2.2.2.1
          refine W.room (fun hrc_68 hrs_68 => ?_)
          refine W.widen (k := LC - s.heap.size) (n := LS - jTot s.heap) (by omega) (by omega) ?_
          rw [hQ]
          exact W.vret hx hb hr (fun t ht hW => ⟨⟨(qc_49, qa_49, m_qa_49, G_49), rfl, by (try dsimp only); exact ⟨(by first | omega | rfl | assumption | fail), (by first | omega | rfl | assumption | fail), (by first | omega | rfl | assumption | fail), (by first | omega | rfl | assumption | fail), (by first | assumption | fail | omega)⟩, ⟨hh_67.ra (by first | omega | (simp only; omega)) (by first | omega | (simp only; omega)) (M1 := [(bo, 2, 1, .int qc_49), (bo, 2, 0, .ref qa_49)]) [0, 1] rfl ht, hgq_49_0, hNn_49, by rw [ht]; exact hh_67.iv 0 rfl, by rw [ht]; exact hh_67.2.2.2.2.2.2.2.2.sub (L1 := [(jFy, jYb dC dI G_49), (jFl, jLs dC dI ca G_49 3 none)]) [1, 2] rfl⟩⟩, by rw [ht]; try exact hh_67.1.1, fun q h9 hq => by rw [ht]; try exact hh_67.1.2.1 q h9 hq⟩) hh_67.1.2.2 dX11_cancelRequest_88
  refine W.tight (c2 := ((n_pa - n_pa) / 16 + 11)) (n2 := (2 * (n_pa - n_pa) + 267)) hh_27.2.2.2.2.2.1 hh_27.2.2.2.2.2.2.1 ?_
  exact L35 (41 - (0 : Int32).toInt : Int).toNat.succ 0 _ _ hh_27 (⟨(by first | omega | rfl | assumption | fail), (by first | omega | rfl | assumption | fail)⟩) (by omega) _ (lv_sub hl [2, 1, 0] rfl)
end
