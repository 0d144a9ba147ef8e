section
theorem dX13_opened_0 : decode cX13_opened 0 = .ok (.aload_n 0, 1) := by decide +kernel
theorem dX13_opened_1 : decode cX13_opened 1 = .ok (.getfield 80, 3) := by decide +kernel
theorem dX13_opened_4 : decode cX13_opened 4 = .ok (.iconst 0, 1) := by decide +kernel
theorem dX13_opened_5 : decode cX13_opened 5 = .ok (.iload_n 2, 1) := by decide +kernel
theorem dX13_opened_6 : decode cX13_opened 6 = .ok (.iastore, 1) := by decide +kernel
theorem dX13_opened_7 : decode cX13_opened 7 = .ok (.aload_n 0, 1) := by decide +kernel
theorem dX13_opened_8 : decode cX13_opened 8 = .ok (.aload_n 0, 1) := by decide +kernel
theorem dX13_opened_9 : decode cX13_opened 9 = .ok (.getfield 19, 3) := by decide +kernel
theorem dX13_opened_12 : decode cX13_opened 12 = .ok (.iload_n 1, 1) := by decide +kernel
theorem dX13_opened_13 : decode cX13_opened 13 = .ok (.iaload, 1) := by decide +kernel
theorem dX13_opened_14 : decode cX13_opened 14 = .ok (.iconst 0, 1) := by decide +kernel
theorem dX13_opened_15 : decode cX13_opened 15 = .ok (.aload_n 0, 1) := by decide +kernel
theorem dX13_opened_16 : decode cX13_opened 16 = .ok (.getfield 80, 3) := by decide +kernel
theorem dX13_opened_19 : decode cX13_opened 19 = .ok (.iconst 1, 1) := by decide +kernel
theorem dX13_opened_20 : decode cX13_opened 20 = .ok (.invokevirtual 266, 3) := by decide +kernel
theorem dX13_opened_23 : decode cX13_opened 23 = .ok (.bipush 80, 2) := by decide +kernel
theorem dX13_opened_25 : decode cX13_opened 25 = .ok (.if_icmp .le 9, 3) := by decide +kernel
theorem dX13_opened_28 : decode cX13_opened 28 = .ok (.aload_n 0, 1) := by decide +kernel
theorem dX13_opened_29 : decode cX13_opened 29 = .ok (.bipush 9, 2) := by decide +kernel
theorem dX13_opened_31 : decode cX13_opened 31 = .ok (.invokevirtual 236, 3) := by decide +kernel
theorem dX13_opened_34 : decode cX13_opened 34 = .ok (.aload_n 0, 1) := by decide +kernel
theorem dX13_opened_35 : decode cX13_opened 35 = .ok (.getfield 221, 3) := by decide +kernel
theorem dX13_opened_38 : decode cX13_opened 38 = .ok (.ifCond .le 7, 3) := by decide +kernel
theorem dX13_opened_41 : decode cX13_opened 41 = .ok (.iconst 0, 1) := by decide +kernel
theorem dX13_opened_42 : decode cX13_opened 42 = .ok (.goto 19, 3) := by decide +kernel
theorem dX13_opened_45 : decode cX13_opened 45 = .ok (.aload_n 0, 1) := by decide +kernel
theorem dX13_opened_46 : decode cX13_opened 46 = .ok (.aload_n 0, 1) := by decide +kernel
theorem dX13_opened_47 : decode cX13_opened 47 = .ok (.getfield 19, 3) := by decide +kernel
theorem dX13_opened_50 : decode cX13_opened 50 = .ok (.iload_n 1, 1) := by decide +kernel
theorem dX13_opened_51 : decode cX13_opened 51 = .ok (.iaload, 1) := by decide +kernel
theorem dX13_opened_52 : decode cX13_opened 52 = .ok (.iconst 0, 1) := by decide +kernel
theorem dX13_opened_53 : decode cX13_opened 53 = .ok (.aload_n 0, 1) := by decide +kernel
theorem dX13_opened_54 : decode cX13_opened 54 = .ok (.getfield 80, 3) := by decide +kernel
theorem dX13_opened_57 : decode cX13_opened 57 = .ok (.iconst 1, 1) := by decide +kernel
theorem dX13_opened_58 : decode cX13_opened 58 = .ok (.invokevirtual 270, 3) := by decide +kernel
theorem dX13_opened_61 : decode cX13_opened 61 = .ok (.ireturn, 1) := by decide +kernel
def EX13_opened : List (Nat × Nat) := [(15, 5), (15, 34), (150, 0), (151, 0), (152, 0), (153, 0), (154, 0), (169, 0)]
set_option maxHeartbeats 4000000 in
set_option maxRecDepth 20000 in
theorem uX13_opened (l : Launch) (dC : Nat → ClassId) (dI : Nat → Nat → Nat) (ca : Nat → ClassId) (base : Nat) (B : jF) (hB : jBok B) (hAp : jAp (dC, dI)) (hB15 : ∀ n G a H, B 15 n G a H ↔ jOb (dC, dI) 15 50 (F15 n G) a H) (hB150 : ∀ n G a H, B 150 n G a H ↔ jAr (dC, dI) (ca 1) (fun j z => True) n a H) (hB151 : ∀ n G a H, B 151 n G a H ↔ jAr (dC, dI) (ca 1) (fun j z => True) n a H) (hB152 : ∀ n G a H, B 152 n G a H ↔ jAr (dC, dI) (ca 1) (fun j z => True) n a H) (hB153 : ∀ n G a H, B 153 n G a H ↔ jAr (dC, dI) (ca 1) (fun j z => True) n a H) (hB154 : ∀ n G a H, B 154 n G a H ↔ jAr (dC, dI) (ca 1) (fun j z => True) n a H) (hB165 : ∀ n G a H, B 165 n G a H ↔ jAr (dC, dI) (ca 1) (fun j z => 0 ≤ z.toInt ∧ z.toInt ≤ 3) n a H) (hB169 : ∀ n G a H, B 169 n G a H ↔ jAr (dC, dI) (ca 1) (fun j z => True) n a H) (G0 : jT) (H0 : Heap) (r0 : Nat) (a1 : Int32) (a2 : Int32) (pn : Int32) (py : Int32) (pu : Int32) (zs : Nat) (zn : Nat) (za : Nat) (zb : Nat) (zc : Nat) (zy : Nat) (C : jK) : Met l yX13_opened (jw yX13_opened cX13_opened 3 (some .int)) ({ frames := 1691, cells := 0, slots := 0, locals := 70827 }) (va_Pc [.ref r0, .int a1, .int a2] (fun U => U.heap = H0 ∧ jX B base G0 [] H0 ∧ jG dC dI ca base U ∧ G0 r0 = some (15, 0) ∧ G0 zs = some (150, 120000) ∧ G0 zn = some (151, 120000) ∧ G0 za = some (152, 120000) ∧ G0 zb = some (153, 120000) ∧ G0 zc = some (154, 120000) ∧ G0 zy = some (165, 16) ∧ jP (dC, dI) G0 H0 [(r0, 15, 5, .int pn), (r0, 15, 11, .int py), (r0, 15, 34, .int pu), (r0, 15, 0, .ref zs), (r0, 15, 1, .ref zn), (r0, 15, 2, .ref za), (r0, 15, 3, .ref zb), (r0, 15, 4, .ref zc), (r0, 15, 14, .ref zy)] ∧ jMc (dC, dI) G0 H0 [(zs, 150, 120000, ca 1, C.s), (zn, 151, 120000, ca 1, C.n), (za, 152, 120000, ca 1, C.a), (zb, 153, 120000, ca 1, C.b), (zc, 154, 120000, ca 1, C.c), (zy, 165, 16, ca 1, C.y)] ∧ jFm C pn.toInt py.toInt 80 0 a1.toInt ∧ jQf C a1.toInt = 1 ∧ jPts C a1.toInt = 1 ∧ jsz C a1.toInt ≤ 80 ∧ jFm C pn.toInt py.toInt 1600 0 a2.toInt ∧ jsz C a2.toInt ≤ 5000 ∧ 0 ≤ pn.toInt ∧ pn.toInt ≤ 119900 ∧ 0 ≤ py.toInt ∧ py.toInt ≤ 16 ∧ 0 ≤ pu.toInt ∧ pu.toInt ≤ 9)) (va_Qi (S := Int32 × Int32 × jK) (fun r u => (pn.toInt ≤ u.1.toInt ∧ u.1.toInt ≤ pn.toInt + 80 ∧ jAgK C u.2.2 pn.toInt ∧ pu.toInt ≤ u.2.1.toInt ∧ u.2.1.toInt ≤ 9 ∧ (u.2.1.toInt ≤ 0 → jFm u.2.2 u.1.toInt py.toInt 80 0 r.toInt ∧ jsz u.2.2 r.toInt ≤ 80))) (fun u t => jRt (dC, dI) B base G0 EX13_opened H0 [(r0, 15, 5, .int u.1), (r0, 15, 34, .int u.2.1)] t.heap ∧ jMc (dC, dI) G0 t.heap [(zs, 150, 120000, ca 1, u.2.2.s), (zn, 151, 120000, ca 1, u.2.2.n), (za, 152, 120000, ca 1, u.2.2.a), (zb, 153, 120000, ca 1, u.2.2.b), (zc, 154, 120000, ca 1, u.2.2.c), (zy, 165, 16, ca 1, u.2.2.y)]) (jA base)) 0 0 (jA base) := by
  refine Met.ofW (cc := cX13_opened) (maxL := 3) (ret := (some .int)) (by decide) rfl ?_
  intro p e s m args below meth c s₁ Bd hml hv
  obtain ⟨rfl, hH0, hX, hG, hg_r0, hg_zs, hg_zn, hg_za, hg_zb, hg_zc, hg_zy, hP0, hM0, hp0, hp1, hp2, hp3, hp4, hp5, hp6, hp7, hp8, hp9, hp10, hp11⟩ := hv
  have hK := hG.1
  have hx := Bd.exec
  have hb := Bd.bytes
  have hr := Bd.returns
  have hts := atoms_spec (ws := (jw yX13_opened cX13_opened 3 (some .int))) Bd.pre
  have htw : ∀ w ∈ jWl, w.before _ s = true := fun w h => hts w (List.mem_cons_of_mem _ h)
  have hown : s.vm.findClass RX13 = some m.cls := findClass_of_methodNamed Bd.named
  have hlocks := Bd.notSynchronized
  obtain ⟨Q, hQ⟩ : ∃ Q, Q = MQ below (va_Qi (S := Int32 × Int32 × jK) (fun r u => (pn.toInt ≤ u.1.toInt ∧ u.1.toInt ≤ pn.toInt + 80 ∧ jAgK C u.2.2 pn.toInt ∧ pu.toInt ≤ u.2.1.toInt ∧ u.2.1.toInt ≤ 9 ∧ (u.2.1.toInt ≤ 0 → jFm u.2.2 u.1.toInt py.toInt 80 0 r.toInt ∧ jsz u.2.2 r.toInt ≤ 80))) (fun u t => jRt (dC, dI) B base G0 EX13_opened H0 [(r0, 15, 5, .int u.1), (r0, 15, 34, .int u.2.1)] t.heap ∧ jMc (dC, dI) G0 t.heap [(zs, 150, 120000, ca 1, u.2.2.s), (zn, 151, 120000, ca 1, u.2.2.n), (za, 152, 120000, ca 1, u.2.2.a), (zb, 153, 120000, ca 1, u.2.2.b), (zc, 154, 120000, ca 1, u.2.2.c), (zy, 165, 16, ca 1, u.2.2.y)]) (jA base)) ([.ref r0, .int a1, .int a2] : List Value).toArray s 0 0 (jA base) := ⟨_, rfl⟩
  rw [← hQ]
  have hl := lv_entry ([.ref r0, .int a1, .int a2]) (n := 3) (Nat.le_of_ble_eq_true rfl)
  rw [lg_entry_eq]
  generalize (lg_sl ([.ref r0, .int a1, .int a2]) ++ List.replicate (3 - (lg_sl ([.ref r0, .int a1, .int a2])).length) Slot.unset).toArray = ls at hl ⊢
  have hl : lv_has ls 3 [(0, .ref r0), (1, .int a1), (2, .int a2)] := hl
  generalize hR : (headSpec (jw yX13_opened cX13_opened 3 (some .int)) ({ frames := 1691, cells := 0, slots := 0, locals := 70827 })).room = R
  subst hH0
  have hh : jSt (dC, dI) B base G0 G0 EX13_opened s.heap 0 0 [(r0, 15, 5, .int pn), (r0, 15, 11, .int py), (r0, 15, 34, .int pu), (r0, 15, 0, .ref zs), (r0, 15, 1, .ref zn), (r0, 15, 2, .ref za), (r0, 15, 3, .ref zb), (r0, 15, 4, .ref zc), (r0, 15, 14, .ref zy)] [(zs, 150, 120000, ca 1, C.s), (zn, 151, 120000, ca 1, C.n), (za, 152, 120000, ca 1, C.a), (zb, 153, 120000, ca 1, C.b), (zc, 154, 120000, ca 1, C.c), (zy, 165, 16, ca 1, C.y)] [] s.heap [] := jSt.start hX hP0 hM0 jIs.nil
  clear hX hP0
  have hk0 : (0 : Int32).toInt = 0 := by decide
  have hk1 : (1 : Int32).toInt = 1 := by decide
  have hk9 : (9 : Int32).toInt = 9 := by decide
  have hk80 : (80 : Int32).toInt = 80 := by decide
  have hly_15_2 := htw (u_lay RX13 TX13 2) (jWc_wsX130 _ (u_in_lay (by decide)))
  have hly_15_34 := htw (u_lay RX13 TX13 34) (jWc_wsX130 _ (u_in_lay (by decide)))
  have hly_15_37 := htw (u_lay RX13 TX13 37) (jWc_wsX130 _ (u_in_lay (by decide)))
  have hlk_80 := (htw (.fieldLink RX13 80 "ProofServerModel$Kernel" "single" "[I") (jWr_15 _ (List.mem_of_getElem? (i := 7) rfl)))
  have hlk_19 := (htw (.fieldLink RX13 19 "ProofServerModel$Kernel" "one" "[I") (jWr_14 _ (List.mem_of_getElem? (i := 11) rfl)))
  have hlk_221 := (htw (.fieldLink RX13 221 "ProofServerModel$Kernel" "fault" "I") (jWr_60 _ (List.mem_of_getElem? (i := 3) rfl)))
  have hrg_a1 := jb_rng a1
  have hrg_a2 := jb_rng a2
  obtain ⟨g1, g2, g3, g4, -, -, -, g8, g9⟩ := hp0.nd
  have hq1 := (hp0.part (k := 0) (by omega) (by omega)).mono (by omega : 80 - 1 ≤ 80) (by omega : (0 : Int) + jQf C a1.toInt ≤ 1)
  have hq2 : jsz C (jSo C.a a1.toInt) + 1 ≤ jsz C a1.toInt := jsz_part hp0 (by omega) (k := 0) (by omega) (by omega)
  refine lv_aload_n hx hb dX13_opened_0 rfl (lv_at hl 0 rfl) ?_
  obtain ⟨v_1, hv_1, hh_2⟩ := hh.pin (C := RX13) (T := TX13) (N := 50) hB15 rfl (by decide) hg_r0 (i := 37) (by decide) rfl
  clear hh
  obtain ⟨single_3, rfl, hg_single_3⟩ := hv_1
  refine j7_read hx hb hown hK (C := RX13) (T := TX13) (N := 50) rfl hly_15_37 hlk_80 (hh_2.at 0 rfl) dX13_opened_1 ?_
  refine lv_iconst (v := 0) hx hb dX13_opened_4 (by decide) ?_
  refine lv_iload_n hx hb dX13_opened_5 rfl (lv_at hl 2 rfl) ?_
  refine j7_iastE hx hb hK hh_2 hB hB169 1 rfl (by decide) (by decide) rfl rfl rfl hg_single_3 (x := 0) ((by decide)) (by omega) (trivial) dX13_opened_6 (fun H_4 locs_4 fs_5 hv_4 hh_4 => ?_)
  have hv_4 : jSo fs_5 (0) = a2.toInt := by unfold jSo; rw [hv_4]; try exact rfl
  clear hh_2
  refine lv_aload_n hx hb dX13_opened_7 rfl (lv_at hl 0 rfl) ?_
  refine lv_aload_n hx hb dX13_opened_8 rfl (lv_at hl 0 rfl) ?_
  refine j7_read hx hb hown hK (C := RX13) (T := TX13) (N := 50) rfl hly_15_2 hlk_19 (hh_4.at 6 rfl) dX13_opened_9 ?_
  refine lv_iload_n hx hb dX13_opened_12 rfl (lv_at hl 1 rfl) ?_
  refine j7_ialdM hx hb hK hh_4 hB152 1 rfl (by decide) hg_za (x := a1.toInt) (rfl) (by omega) (j := 3) rfl dX13_opened_13 (fun z_6 ez_6 (hz_6 : True) => ?_)
  have hqz_6 : z_6.toInt = jSo C.a (a1.toInt) := by unfold jSo; rw [ez_6]
  refine lv_iconst (v := 0) hx hb dX13_opened_14 (by decide) ?_
  refine lv_aload_n hx hb dX13_opened_15 rfl (lv_at hl 0 rfl) ?_
  refine j7_read hx hb hown hK (C := RX13) (T := TX13) (N := 50) rfl hly_15_37 hlk_80 (hh_4.at 0 rfl) dX13_opened_16 ?_
  refine lv_iconst (v := 1) hx hb dX13_opened_19 (by decide) ?_
  refine va_calli (A0 := jA base) (H0 := s.heap) (va_runV (As := [.int z_6, .int 0, .ref single_3, .int 1]) (rest := []) ⟨hx, hb, hml, hown, hts⟩ (aX13_sizeWith l dC dI ca base B hB hAp hB15 hB150 hB151 hB152 hB153 hB154 hB165 hB169 80 G0 H_4 r0 z_6 0 single_3 1 1 zs zn za zb zc zy fs_5 C) (cwV 4 hts (jgV (jWr_67 _ (List.mem_of_getElem? (i := 3) rfl)) (jWr_67 _ (List.mem_of_getElem? (i := 4) rfl)) (jWr_67 _ (List.mem_of_getElem? (i := 5) rfl)) (jWr_12 _ (List.mem_of_getElem? (i := 12) rfl)) (jWr_67 _ (List.mem_of_getElem? (i := 6) rfl))) rfl rfl rfl (by decide +kernel) ⟨by rw [← hR]; exact Nat.le_of_ble_eq_true rfl, by rw [← hR]; exact Nat.le_of_ble_eq_true rfl⟩) ⟨fun a U g mk q => by obtain ⟨q0, q1, q2, qK, q10, q11, q12, q13, q14, q15, q16, q17, q18, q19, q20⟩ := q; exact ⟨q0, q1, q2, jG.calling g mk a qK, q10, q11, q12, q13, q14, q15, q16, q17, q18, q19, q20⟩, hh_4.recv (C := RX13) (T := TX13) (N := 50) hB15 rfl (by decide) hg_r0 hK, fun U hU hW => ⟨rfl, hU, hh_4.2.1, hG.step hW hU hh_4.1, hg_single_3, hg_r0, hg_zs, hg_zn, hg_za, hg_zb, hg_zc, hg_zy, (hh_4.2.2.1.sub (L1 := [(r0, 15, 0, .ref zs), (r0, 15, 1, .ref zn), (r0, 15, 2, .ref za), (r0, 15, 3, .ref zb), (r0, 15, 4, .ref zc), (r0, 15, 14, .ref zy)]) [4, 5, 6, 7, 8, 9] rfl), (hh_4.2.2.2.2.2.2.2.1.sub (L1 := [(single_3, 169, 1, ca 1, fs_5), (zs, 150, 120000, ca 1, C.s), (zn, 151, 120000, ca 1, C.n), (za, 152, 120000, ca 1, C.a), (zb, 153, 120000, ca 1, C.b), (zc, 154, 120000, ca 1, C.c), (zy, 165, 16, ca 1, C.y)]) [0, 1, 2, 3, 4, 5, 6] rfl), ⟨(by first | assumption | (rw [hk0, hk1, hqz_6]; exact hq1.wide (by omega) (by omega)) | exact (fun k h0 h1 => by rw [hk1] at h1; rw [show k = 0 by omega, hv_4]; exact ⟨hp4.wide (by omega) (by omega), hp5⟩) | (rw [hqz_6]; omega) | omega), (by first | assumption | (rw [hk0, hk1, hqz_6]; exact hq1.wide (by omega) (by omega)) | exact (fun k h0 h1 => by rw [hk1] at h1; rw [show k = 0 by omega, hv_4]; exact ⟨hp4.wide (by omega) (by omega), hp5⟩) | (rw [hqz_6]; omega) | omega), (by first | omega | rfl | assumption | (rw [hk0, hk1, hqz_6]; exact hq1.wide (by omega) (by omega)) | exact (fun k h0 h1 => by rw [hk1] at h1; rw [show k = 0 by omega, hv_4]; exact ⟨hp4.wide (by omega) (by omega), hp5⟩) | (rw [hqz_6]; omega)), (by first | omega | rfl | assumption | (rw [hk0, hk1, hqz_6]; exact hq1.wide (by omega) (by omega)) | exact (fun k h0 h1 => by rw [hk1] at h1; rw [show k = 0 by omega, hv_4]; exact ⟨hp4.wide (by omega) (by omega), hp5⟩) | (rw [hqz_6]; omega)), (by first | omega | rfl | assumption | (rw [hk0, hk1, hqz_6]; exact hq1.wide (by omega) (by omega)) | exact (fun k h0 h1 => by rw [hk1] at h1; rw [show k = 0 by omega, hv_4]; exact ⟨hp4.wide (by omega) (by omega), hp5⟩) | (rw [hqz_6]; omega)), (by first | omega | rfl | assumption | (rw [hk0, hk1, hqz_6]; exact hq1.wide (by omega) (by omega)) | exact (fun k h0 h1 => by rw [hk1] at h1; rw [show k = 0 by omega, hv_4]; exact ⟨hp4.wide (by omega) (by omega), hp5⟩) | (rw [hqz_6]; omega)), (by first | omega | rfl | assumption | (rw [hk0, hk1, hqz_6]; exact hq1.wide (by omega) (by omega)) | exact (fun k h0 h1 => by rw [hk1] at h1; rw [show k = 0 by omega, hv_4]; exact ⟨hp4.wide (by omega) (by omega), hp5⟩) | (rw [hqz_6]; omega)), (by first | omega | rfl | assumption | (rw [hk0, hk1, hqz_6]; exact hq1.wide (by omega) (by omega)) | exact (fun k h0 h1 => by rw [hk1] at h1; rw [show k = 0 by omega, hv_4]; exact ⟨hp4.wide (by omega) (by omega), hp5⟩) | (rw [hqz_6]; omega)), (by first | omega | rfl | assumption | (rw [hk0, hk1, hqz_6]; exact hq1.wide (by omega) (by omega)) | exact (fun k h0 h1 => by rw [hk1] at h1; rw [show k = 0 by omega, hv_4]; exact ⟨hp4.wide (by omega) (by omega), hp5⟩) | (rw [hqz_6]; omega))⟩⟩⟩ rfl rfl hl.1 rfl (lv_room (Nat.le_of_ble_eq_true rfl)) dX13_opened_20 ⟨Nat.zero_le _, Nat.zero_le _⟩) hh_4.1 (fun q _ h => h) (fun q h => h) (fun r_8 u_7 t_7 H_7 locs_7 ht_7 hvm_7 hr_8 hb_7 hz_7 hk_7 hS_7 => ?_)
  rw [ht_7] at hb_7
  obtain ⟨hb_71, hb_72, hb_73, hb_74, hb_75⟩ := hb_7
  have hh_7 : jSt (dC, dI) B base G0 G0 EX13_opened s.heap 0 0 [(r0, 15, 37, .ref single_3), (r0, 15, 5, .int pn), (r0, 15, 11, .int py), (r0, 15, 34, .int pu), (r0, 15, 0, .ref zs), (r0, 15, 1, .ref zn), (r0, 15, 2, .ref za), (r0, 15, 3, .ref zb), (r0, 15, 4, .ref zc), (r0, 15, 14, .ref zy)] [(single_3, 169, 1, ca 1, fs_5), (zs, 150, 120000, ca 1, C.s), (zn, 151, 120000, ca 1, C.n), (za, 152, 120000, ca 1, C.a), (zb, 153, 120000, ca 1, C.b), (zc, 154, 120000, ca 1, C.c), (zy, 165, 16, ca 1, C.y)] [] H_7 locs_7 := ((hh_4.call hb_71 hb_72 hb_73 hb_74 hS_7 rfl (L1 := [(r0, 15, 37, .ref single_3), (r0, 15, 5, .int pn), (r0, 15, 11, .int py), (r0, 15, 34, .int pu), (r0, 15, 0, .ref zs), (r0, 15, 1, .ref zn), (r0, 15, 2, .ref za), (r0, 15, 3, .ref zb), (r0, 15, 4, .ref zc), (r0, 15, 14, .ref zy)]) [0, 1, 2, 3, 4, 5, 6, 7, 8, 9] rfl rfl (M1 := [(single_3, 169, 1, ca 1, fs_5), (zs, 150, 120000, ca 1, C.s), (zn, 151, 120000, ca 1, C.n), (za, 152, 120000, ca 1, C.a), (zb, 153, 120000, ca 1, C.b), (zc, 154, 120000, ca 1, C.c), (zy, 165, 16, ca 1, C.y)]) [0, 1, 2, 3, 4, 5, 6] rfl rfl (I1 := []) [] rfl rfl).more hb_75)
  clear hh_4 ht_7 hvm_7 hz_7 hk_7 hS_7 hb_71 hb_72 hb_73 hb_74 hb_75
  refine lv_bipush (v := 80) hx hb dX13_opened_23 (by decide) ?_
  refine lv_icmp_le (tgt := 34) hx hb dX13_opened_25 (by decide) (fun c_9 => ?_) (fun c_9 => ?_)
  · skip
    have c_9' : r_8.toInt ≤ 80 := jb_le (rfl) ((by decide)) c_9
    refine lv_aload_n hx hb dX13_opened_34 rfl (lv_at hl 0 rfl) ?_
    refine j7_read hx hb hown hK (C := RX13) (T := TX13) (N := 50) rfl hly_15_34 hlk_221 (hh_7.at 3 rfl) dX13_opened_35 ?_
    refine lv_if_le (tgt := 45) hx hb dX13_opened_38 (by decide) (fun c_10 => ?_) (fun c_10 => ?_)
    · skip
      have c_10' : pu.toInt ≤ 0 := jb_le (rfl) ((by decide)) c_10
      refine lv_aload_n hx hb dX13_opened_45 rfl (lv_at hl 0 rfl) ?_
      refine lv_aload_n hx hb dX13_opened_46 rfl (lv_at hl 0 rfl) ?_
      refine j7_read hx hb hown hK (C := RX13) (T := TX13) (N := 50) rfl hly_15_2 hlk_19 (hh_7.at 6 rfl) dX13_opened_47 ?_
      refine lv_iload_n hx hb dX13_opened_50 rfl (lv_at hl 1 rfl) ?_
      refine j7_ialdM hx hb hK hh_7 hB152 1 rfl (by decide) hg_za (x := a1.toInt) (rfl) (by omega) (j := 3) rfl dX13_opened_51 (fun z_11 ez_11 (hz_11 : True) => ?_)
      have hqz_11 : z_11.toInt = jSo C.a (a1.toInt) := by unfold jSo; rw [ez_11]
      refine lv_iconst (v := 0) hx hb dX13_opened_52 (by decide) ?_
      refine lv_aload_n hx hb dX13_opened_53 rfl (lv_at hl 0 rfl) ?_
      refine j7_read hx hb hown hK (C := RX13) (T := TX13) (N := 50) rfl hly_15_37 hlk_80 (hh_7.at 0 rfl) dX13_opened_54 ?_
      refine lv_iconst (v := 1) hx hb dX13_opened_57 (by decide) ?_
      refine va_calli (A0 := jA base) (H0 := s.heap) (va_runV (As := [.int z_11, .int 0, .ref single_3, .int 1]) (rest := []) ⟨hx, hb, hml, hown, hts⟩ (aX13_with l dC dI ca base B hB hAp hB15 hB150 hB151 hB152 hB153 hB154 hB165 hB169 80 G0 H_7 r0 z_11 0 single_3 1 1 pn py zs zn za zb zc zy fs_5 C) (cwV 4 hts (jgV (jWr_67 _ (List.mem_of_getElem? (i := 7) rfl)) (jWr_67 _ (List.mem_of_getElem? (i := 8) rfl)) (jWr_67 _ (List.mem_of_getElem? (i := 9) rfl)) (jWr_12 _ (List.mem_of_getElem? (i := 12) rfl)) (jWr_67 _ (List.mem_of_getElem? (i := 10) rfl))) rfl rfl rfl (by decide +kernel) ⟨by rw [← hR]; exact Nat.le_of_ble_eq_true rfl, by rw [← hR]; exact Nat.le_of_ble_eq_true rfl⟩) ⟨fun a U g mk q => by obtain ⟨q0, q1, q2, qK, q10, q11, q12, q13, q14, q15, q16, q17, q18, q19, q20⟩ := q; exact ⟨q0, q1, q2, jG.calling g mk a qK, q10, q11, q12, q13, q14, q15, q16, q17, q18, q19, q20⟩, hh_7.recv (C := RX13) (T := TX13) (N := 50) hB15 rfl (by decide) hg_r0 hK, fun U hU hW => ⟨rfl, hU, hh_7.2.1, hG.step hW hU hh_7.1, hg_single_3, hg_r0, hg_zs, hg_zn, hg_za, hg_zb, hg_zc, hg_zy, (hh_7.2.2.1.sub (L1 := [(r0, 15, 5, .int pn), (r0, 15, 11, .int py), (r0, 15, 0, .ref zs), (r0, 15, 1, .ref zn), (r0, 15, 2, .ref za), (r0, 15, 3, .ref zb), (r0, 15, 4, .ref zc), (r0, 15, 14, .ref zy)]) [1, 2, 4, 5, 6, 7, 8, 9] rfl), (hh_7.2.2.2.2.2.2.2.1.sub (L1 := [(single_3, 169, 1, ca 1, fs_5), (zs, 150, 120000, ca 1, C.s), (zn, 151, 120000, ca 1, C.n), (za, 152, 120000, ca 1, C.a), (zb, 153, 120000, ca 1, C.b), (zc, 154, 120000, ca 1, C.c), (zy, 165, 16, ca 1, C.y)]) [0, 1, 2, 3, 4, 5, 6] rfl), ⟨(by first | assumption | (rw [hk0, hk1, hqz_11]; exact hq1) | exact (fun k h0 h1 => by rw [hk1] at h1; rw [show k = 0 by omega, hv_4]; exact ⟨hp4, hp5⟩) | (rw [hqz_11, ← hqz_6]; omega) | omega), (by first | assumption | (rw [hk0, hk1, hqz_11]; exact hq1) | exact (fun k h0 h1 => by rw [hk1] at h1; rw [show k = 0 by omega, hv_4]; exact ⟨hp4, hp5⟩) | (rw [hqz_11, ← hqz_6]; omega) | omega), (by first | omega | rfl | assumption | (rw [hk0, hk1, hqz_11]; exact hq1) | exact (fun k h0 h1 => by rw [hk1] at h1; rw [show k = 0 by omega, hv_4]; exact ⟨hp4, hp5⟩) | (rw [hqz_11, ← hqz_6]; omega)), (by first | omega | rfl | assumption | (rw [hk0, hk1, hqz_11]; exact hq1) | exact (fun k h0 h1 => by rw [hk1] at h1; rw [show k = 0 by omega, hv_4]; exact ⟨hp4, hp5⟩) | (rw [hqz_11, ← hqz_6]; omega)), (by first | omega | rfl | assumption | (rw [hk0, hk1, hqz_11]; exact hq1) | exact (fun k h0 h1 => by rw [hk1] at h1; rw [show k = 0 by omega, hv_4]; exact ⟨hp4, hp5⟩) | (rw [hqz_11, ← hqz_6]; omega)), (by first | omega | rfl | assumption | (rw [hk0, hk1, hqz_11]; exact hq1) | exact (fun k h0 h1 => by rw [hk1] at h1; rw [show k = 0 by omega, hv_4]; exact ⟨hp4, hp5⟩) | (rw [hqz_11, ← hqz_6]; omega)), (by first | omega | rfl | assumption | (rw [hk0, hk1, hqz_11]; exact hq1) | exact (fun k h0 h1 => by rw [hk1] at h1; rw [show k = 0 by omega, hv_4]; exact ⟨hp4, hp5⟩) | (rw [hqz_11, ← hqz_6]; omega)), (by first | omega | rfl | assumption | (rw [hk0, hk1, hqz_11]; exact hq1) | exact (fun k h0 h1 => by rw [hk1] at h1; rw [show k = 0 by omega, hv_4]; exact ⟨hp4, hp5⟩) | (rw [hqz_11, ← hqz_6]; omega)), (by first | omega | rfl | assumption | (rw [hk0, hk1, hqz_11]; exact hq1) | exact (fun k h0 h1 => by rw [hk1] at h1; rw [show k = 0 by omega, hv_4]; exact ⟨hp4, hp5⟩) | (rw [hqz_11, ← hqz_6]; omega)), (by first | omega | rfl | assumption | (rw [hk0, hk1, hqz_11]; exact hq1) | exact (fun k h0 h1 => by rw [hk1] at h1; rw [show k = 0 by omega, hv_4]; exact ⟨hp4, hp5⟩) | (rw [hqz_11, ← hqz_6]; omega)), (by first | omega | rfl | assumption | (rw [hk0, hk1, hqz_11]; exact hq1) | exact (fun k h0 h1 => by rw [hk1] at h1; rw [show k = 0 by omega, hv_4]; exact ⟨hp4, hp5⟩) | (rw [hqz_11, ← hqz_6]; omega)), (by first | omega | rfl | assumption | (rw [hk0, hk1, hqz_11]; exact hq1) | exact (fun k h0 h1 => by rw [hk1] at h1; rw [show k = 0 by omega, hv_4]; exact ⟨hp4, hp5⟩) | (rw [hqz_11, ← hqz_6]; omega))⟩⟩⟩ rfl rfl hl.1 rfl (lv_room (Nat.le_of_ble_eq_true rfl)) dX13_opened_58 ⟨Nat.zero_le _, Nat.zero_le _⟩) hh_7.1 (fun q _ h => h) (fun q h => h) (fun r_13 u_12 t_12 H_12 locs_12 ht_12 hvm_12 hr_13 hb_12 hz_12 hk_12 hS_12 => ?_)
      obtain ⟨qn_12, D_12⟩ := u_12
      rw [ht_12] at hb_12
      obtain ⟨⟨hb_121, hb_122, hb_123, hb_124, hb_125⟩, hb_126⟩ := hb_12
      have hh_12 : jSt (dC, dI) B base G0 G0 EX13_opened s.heap 0 0 [(r0, 15, 5, .int qn_12), (r0, 15, 37, .ref single_3), (r0, 15, 11, .int py), (r0, 15, 34, .int pu), (r0, 15, 0, .ref zs), (r0, 15, 1, .ref zn), (r0, 15, 2, .ref za), (r0, 15, 3, .ref zb), (r0, 15, 4, .ref zc), (r0, 15, 14, .ref zy)] [(zs, 150, 120000, ca 1, D_12.s), (zn, 151, 120000, ca 1, D_12.n), (za, 152, 120000, ca 1, D_12.a), (zb, 153, 120000, ca 1, D_12.b), (zc, 154, 120000, ca 1, D_12.c), (zy, 165, 16, ca 1, D_12.y), (single_3, 169, 1, ca 1, fs_5), (zy, 165, 16, ca 1, C.y)] [] H_12 locs_12 := ((hh_7.call hb_121 hb_122 hb_123 hb_124 hS_12 rfl (L1 := [(r0, 15, 37, .ref single_3), (r0, 15, 11, .int py), (r0, 15, 34, .int pu), (r0, 15, 0, .ref zs), (r0, 15, 1, .ref zn), (r0, 15, 2, .ref za), (r0, 15, 3, .ref zb), (r0, 15, 4, .ref zc), (r0, 15, 14, .ref zy)]) [0, 2, 3, 4, 5, 6, 7, 8, 9] rfl rfl (M1 := [(single_3, 169, 1, ca 1, fs_5), (zy, 165, 16, ca 1, C.y)]) [0, 6] rfl rfl (I1 := []) [] rfl rfl).more hb_125).moreM hb_126
      clear hh_7 ht_12 hvm_12 hz_12 hk_12 hS_12 hb_121 hb_122 hb_123 hb_124 hb_125
      clear hb_126
      try simp only at hr_13
      obtain ⟨hr_13_0, hr_13_1, hr_13_2, hr_13_3, hr_13_4⟩ := hr_13
      rw [hQ]
      exact W.iret (v := r_13) hx hb hr (fun t ht hW => ⟨⟨r_13, (qn_12, pu, D_12), rfl, by (try dsimp only); first | (refine ⟨by omega, by omega, jAgK.rf _ _, by omega, by omega, fun h9 => absurd h9 (by omega)⟩) | (rw [hqz_11, ← hqz_6] at hr_13_1 hr_13_4; refine ⟨by omega, by omega, hr_13_2, by omega, by omega, fun _ => ⟨(hr_13_3.tight (by omega) 80 (by omega)).mono (Nat.le_refl _) (by omega), by omega⟩⟩), ⟨hh_12.rt (M1 := [(r0, 15, 5, .int qn_12), (r0, 15, 34, .int pu)]) [0, 3] rfl ht, by rw [ht]; exact hh_12.2.2.2.2.2.2.2.1.sub [0, 1, 2, 3, 4, 5] rfl⟩⟩, by rw [ht]; try exact hh_12.1.1, fun q h9 hq => by rw [ht]; try exact hh_12.1.2.1 q h9 hq⟩) hh_12.1.2.2 dX13_opened_61
    · skip
      have c_10' : pu.toInt > 0 := jb_le_n (rfl) ((by decide)) c_10
      refine lv_iconst (v := 0) hx hb dX13_opened_41 (by decide) ?_
      refine lv_goto (tgt := 61) hx hb dX13_opened_42 (by decide) ?_
      rw [hQ]
      exact W.iret (v := 0) hx hb hr (fun t ht hW => ⟨⟨0, (pn, pu, C), rfl, by (try dsimp only); first | (refine ⟨by omega, by omega, jAgK.rf _ _, by omega, by omega, fun h9 => absurd h9 (by omega)⟩) | (rw [(zz_none), ← hqz_6] at (zz_none) (zz_none); refine ⟨by omega, by omega, (zz_none), by omega, by omega, fun _ => ⟨((zz_none).tight (by omega) 80 (by omega)).mono (Nat.le_refl _) (by omega), by omega⟩⟩), ⟨hh_7.rt (M1 := [(r0, 15, 5, .int pn), (r0, 15, 34, .int pu)]) [1, 3] rfl ht, by rw [ht]; exact hh_7.2.2.2.2.2.2.2.1.sub [1, 2, 3, 4, 5, 6] rfl⟩⟩, by rw [ht]; try exact hh_7.1.1, fun q h9 hq => by rw [ht]; try exact hh_7.1.2.1 q h9 hq⟩) hh_7.1.2.2 dX13_opened_61
  · skip
    have c_9' : r_8.toInt > 80 := jb_le_n (rfl) ((by decide)) c_9
    refine lv_aload_n hx hb dX13_opened_28 rfl (lv_at hl 0 rfl) ?_
    refine lv_bipush (v := 9) hx hb dX13_opened_29 (by decide) ?_
    refine va_callv (A0 := jA base) (H0 := s.heap) (va_runV (As := [.int 9]) (rest := []) ⟨hx, hb, hml, hown, hts⟩ (uX13_failsK l dC dI ca base B hB hAp hB15 G0 H_7 r0 9 pu) (cwV 1 hts (jgV (jWr_64 _ (List.mem_of_getElem? (i := 19) rfl)) (jWr_64 _ (List.mem_of_getElem? (i := 20) rfl)) (jWr_64 _ (List.mem_of_getElem? (i := 21) rfl)) (jWr_12 _ (List.mem_of_getElem? (i := 12) rfl)) (jWr_64 _ (List.mem_of_getElem? (i := 22) rfl))) rfl rfl rfl (by decide +kernel) ⟨by rw [← hR]; exact Nat.le_of_ble_eq_true rfl, by rw [← hR]; exact Nat.le_of_ble_eq_true rfl⟩) ⟨fun a U g mk q => by obtain ⟨q0, q1, q2, qK, q10, q11, q12⟩ := q; exact ⟨q0, q1, q2, jG.calling g mk a qK, q10, q11, q12⟩, hh_7.recv (C := RX13) (T := TX13) (N := 50) hB15 rfl (by decide) hg_r0 hK, fun U hU hW => ⟨rfl, hU, hh_7.2.1, hG.step hW hU hh_7.1, hg_r0, (hh_7.2.2.1.sub (L1 := [(r0, 15, 34, .int pu)]) [3] rfl), by first | omega | (refine ⟨?_, ?_, ?_, ?_⟩ <;> (first | omega | rfl | assumption | decide | exact Or.inl rfl | exact Or.inr rfl | (simp only; omega)))⟩⟩ rfl rfl hl.1 rfl (lv_room (Nat.le_of_ble_eq_true rfl)) dX13_opened_31 ⟨Nat.zero_le _, Nat.zero_le _⟩) hh_7.1 (fun q _ h => h) (fun q h => h) (fun u_14 t_14 H_14 locs_14 ht_14 hvm_14 hr_15 hb_14 hz_14 hk_14 hS_14 => ?_)
    obtain ⟨qu_14, rfl⟩ : ∃ z, z = u_14 := ⟨_, rfl⟩
    rw [ht_14] at hb_14
    obtain ⟨hb_141, hb_142, hb_143, hb_144, hb_145⟩ := hb_14
    have hh_14 : jSt (dC, dI) B base G0 G0 EX13_opened s.heap 0 0 [(r0, 15, 34, .int qu_14), (r0, 15, 37, .ref single_3), (r0, 15, 5, .int pn), (r0, 15, 11, .int py), (r0, 15, 0, .ref zs), (r0, 15, 1, .ref zn), (r0, 15, 2, .ref za), (r0, 15, 3, .ref zb), (r0, 15, 4, .ref zc), (r0, 15, 14, .ref zy)] [(single_3, 169, 1, ca 1, fs_5), (zs, 150, 120000, ca 1, C.s), (zn, 151, 120000, ca 1, C.n), (za, 152, 120000, ca 1, C.a), (zb, 153, 120000, ca 1, C.b), (zc, 154, 120000, ca 1, C.c), (zy, 165, 16, ca 1, C.y)] [] H_14 locs_14 := ((hh_7.call hb_141 hb_142 hb_143 hb_144 hS_14 rfl (L1 := [(r0, 15, 37, .ref single_3), (r0, 15, 5, .int pn), (r0, 15, 11, .int py), (r0, 15, 0, .ref zs), (r0, 15, 1, .ref zn), (r0, 15, 2, .ref za), (r0, 15, 3, .ref zb), (r0, 15, 4, .ref zc), (r0, 15, 14, .ref zy)]) [0, 1, 2, 4, 5, 6, 7, 8, 9] rfl rfl (M1 := [(single_3, 169, 1, ca 1, fs_5), (zs, 150, 120000, ca 1, C.s), (zn, 151, 120000, ca 1, C.n), (za, 152, 120000, ca 1, C.a), (zb, 153, 120000, ca 1, C.b), (zc, 154, 120000, ca 1, C.c), (zy, 165, 16, ca 1, C.y)]) [0, 1, 2, 3, 4, 5, 6] rfl rfl (I1 := []) [] rfl rfl).more hb_145)
    clear hh_7 ht_14 hvm_14 hz_14 hk_14 hS_14 hb_141 hb_142 hb_143 hb_144 hb_145
    obtain ⟨hr_15_0, hr_15_1, hr_15_2, hr_15_3⟩ := hr_15
    refine lv_aload_n hx hb dX13_opened_34 rfl (lv_at hl 0 rfl) ?_
    refine j7_read hx hb hown hK (C := RX13) (T := TX13) (N := 50) rfl hly_15_34 hlk_221 (hh_14.at 0 rfl) dX13_opened_35 ?_
    refine lv_if_le (tgt := 45) hx hb dX13_opened_38 (by decide) (fun c_16 => ?_) (fun c_16 => ?_)
    · skip
      have c_16' : qu_14.toInt ≤ 0 := jb_le (rfl) ((by decide)) c_16
      refine lv_aload_n hx hb dX13_opened_45 rfl (lv_at hl 0 rfl) ?_
      refine lv_aload_n hx hb dX13_opened_46 rfl (lv_at hl 0 rfl) ?_
      refine j7_read hx hb hown hK (C := RX13) (T := TX13) (N := 50) rfl hly_15_2 hlk_19 (hh_14.at 6 rfl) dX13_opened_47 ?_
      refine lv_iload_n hx hb dX13_opened_50 rfl (lv_at hl 1 rfl) ?_
      refine j7_ialdM hx hb hK hh_14 hB152 1 rfl (by decide) hg_za (x := a1.toInt) (rfl) (by omega) (j := 3) rfl dX13_opened_51 (fun z_17 ez_17 (hz_17 : True) => ?_)
      have hqz_17 : z_17.toInt = jSo C.a (a1.toInt) := by unfold jSo; rw [ez_17]
      refine lv_iconst (v := 0) hx hb dX13_opened_52 (by decide) ?_
      refine lv_aload_n hx hb dX13_opened_53 rfl (lv_at hl 0 rfl) ?_
      refine j7_read hx hb hown hK (C := RX13) (T := TX13) (N := 50) rfl hly_15_37 hlk_80 (hh_14.at 1 rfl) dX13_opened_54 ?_
      refine lv_iconst (v := 1) hx hb dX13_opened_57 (by decide) ?_
      refine va_calli (A0 := jA base) (H0 := s.heap) (va_runV (As := [.int z_17, .int 0, .ref single_3, .int 1]) (rest := []) ⟨hx, hb, hml, hown, hts⟩ (aX13_with l dC dI ca base B hB hAp hB15 hB150 hB151 hB152 hB153 hB154 hB165 hB169 80 G0 H_14 r0 z_17 0 single_3 1 1 pn py zs zn za zb zc zy fs_5 C) (cwV 4 hts (jgV (jWr_67 _ (List.mem_of_getElem? (i := 7) rfl)) (jWr_67 _ (List.mem_of_getElem? (i := 8) rfl)) (jWr_67 _ (List.mem_of_getElem? (i := 9) rfl)) (jWr_12 _ (List.mem_of_getElem? (i := 12) rfl)) (jWr_67 _ (List.mem_of_getElem? (i := 10) rfl))) rfl rfl rfl (by decide +kernel) ⟨by rw [← hR]; exact Nat.le_of_ble_eq_true rfl, by rw [← hR]; exact Nat.le_of_ble_eq_true rfl⟩) ⟨fun a U g mk q => by obtain ⟨q0, q1, q2, qK, q10, q11, q12, q13, q14, q15, q16, q17, q18, q19, q20⟩ := q; exact ⟨q0, q1, q2, jG.calling g mk a qK, q10, q11, q12, q13, q14, q15, q16, q17, q18, q19, q20⟩, hh_14.recv (C := RX13) (T := TX13) (N := 50) hB15 rfl (by decide) hg_r0 hK, fun U hU hW => ⟨rfl, hU, hh_14.2.1, hG.step hW hU hh_14.1, hg_single_3, hg_r0, hg_zs, hg_zn, hg_za, hg_zb, hg_zc, hg_zy, (hh_14.2.2.1.sub (L1 := [(r0, 15, 5, .int pn), (r0, 15, 11, .int py), (r0, 15, 0, .ref zs), (r0, 15, 1, .ref zn), (r0, 15, 2, .ref za), (r0, 15, 3, .ref zb), (r0, 15, 4, .ref zc), (r0, 15, 14, .ref zy)]) [2, 3, 4, 5, 6, 7, 8, 9] rfl), (hh_14.2.2.2.2.2.2.2.1.sub (L1 := [(single_3, 169, 1, ca 1, fs_5), (zs, 150, 120000, ca 1, C.s), (zn, 151, 120000, ca 1, C.n), (za, 152, 120000, ca 1, C.a), (zb, 153, 120000, ca 1, C.b), (zc, 154, 120000, ca 1, C.c), (zy, 165, 16, ca 1, C.y)]) [0, 1, 2, 3, 4, 5, 6] rfl), ⟨(by first | assumption | (rw [hk0, hk1, hqz_17]; exact hq1) | exact (fun k h0 h1 => by rw [hk1] at h1; rw [show k = 0 by omega, hv_4]; exact ⟨hp4, hp5⟩) | (rw [hqz_17, ← hqz_6]; omega) | omega), (by first | assumption | (rw [hk0, hk1, hqz_17]; exact hq1) | exact (fun k h0 h1 => by rw [hk1] at h1; rw [show k = 0 by omega, hv_4]; exact ⟨hp4, hp5⟩) | (rw [hqz_17, ← hqz_6]; omega) | omega), (by first | omega | rfl | assumption | (rw [hk0, hk1, hqz_17]; exact hq1) | exact (fun k h0 h1 => by rw [hk1] at h1; rw [show k = 0 by omega, hv_4]; exact ⟨hp4, hp5⟩) | (rw [hqz_17, ← hqz_6]; omega)), (by first | omega | rfl | assumption | (rw [hk0, hk1, hqz_17]; exact hq1) | exact (fun k h0 h1 => by rw [hk1] at h1; rw [show k = 0 by omega, hv_4]; exact ⟨hp4, hp5⟩) | (rw [hqz_17, ← hqz_6]; omega)), (by first | omega | rfl | assumption | (rw [hk0, hk1, hqz_17]; exact hq1) | exact (fun k h0 h1 => by rw [hk1] at h1; rw [show k = 0 by omega, hv_4]; exact ⟨hp4, hp5⟩) | (rw [hqz_17, ← hqz_6]; omega)), (by first | omega | rfl | assumption | (rw [hk0, hk1, hqz_17]; exact hq1) | exact (fun k h0 h1 => by rw [hk1] at h1; rw [show k = 0 by omega, hv_4]; exact ⟨hp4, hp5⟩) | (rw [hqz_17, ← hqz_6]; omega)), (by first | omega | rfl | assumption | (rw [hk0, hk1, hqz_17]; exact hq1) | exact (fun k h0 h1 => by rw [hk1] at h1; rw [show k = 0 by omega, hv_4]; exact ⟨hp4, hp5⟩) | (rw [hqz_17, ← hqz_6]; omega)), (by first | omega | rfl | assumption | (rw [hk0, hk1, hqz_17]; exact hq1) | exact (fun k h0 h1 => by rw [hk1] at h1; rw [show k = 0 by omega, hv_4]; exact ⟨hp4, hp5⟩) | (rw [hqz_17, ← hqz_6]; omega)), (by first | omega | rfl | assumption | (rw [hk0, hk1, hqz_17]; exact hq1) | exact (fun k h0 h1 => by rw [hk1] at h1; rw [show k = 0 by omega, hv_4]; exact ⟨hp4, hp5⟩) | (rw [hqz_17, ← hqz_6]; omega)), (by first | omega | rfl | assumption | (rw [hk0, hk1, hqz_17]; exact hq1) | exact (fun k h0 h1 => by rw [hk1] at h1; rw [show k = 0 by omega, hv_4]; exact ⟨hp4, hp5⟩) | (rw [hqz_17, ← hqz_6]; omega)), (by first | omega | rfl | assumption | (rw [hk0, hk1, hqz_17]; exact hq1) | exact (fun k h0 h1 => by rw [hk1] at h1; rw [show k = 0 by omega, hv_4]; exact ⟨hp4, hp5⟩) | (rw [hqz_17, ← hqz_6]; omega)), (by first | omega | rfl | assumption | (rw [hk0, hk1, hqz_17]; exact hq1) | exact (fun k h0 h1 => by rw [hk1] at h1; rw [show k = 0 by omega, hv_4]; exact ⟨hp4, hp5⟩) | (rw [hqz_17, ← hqz_6]; omega))⟩⟩⟩ rfl rfl hl.1 rfl (lv_room (Nat.le_of_ble_eq_true rfl)) dX13_opened_58 ⟨Nat.zero_le _, Nat.zero_le _⟩) hh_14.1 (fun q _ h => h) (fun q h => h) (fun r_19 u_18 t_18 H_18 locs_18 ht_18 hvm_18 hr_19 hb_18 hz_18 hk_18 hS_18 => ?_)
      obtain ⟨qn_18, D_18⟩ := u_18
      rw [ht_18] at hb_18
      obtain ⟨⟨hb_181, hb_182, hb_183, hb_184, hb_185⟩, hb_186⟩ := hb_18
      have hh_18 : jSt (dC, dI) B base G0 G0 EX13_opened s.heap 0 0 [(r0, 15, 5, .int qn_18), (r0, 15, 34, .int qu_14), (r0, 15, 37, .ref single_3), (r0, 15, 11, .int py), (r0, 15, 0, .ref zs), (r0, 15, 1, .ref zn), (r0, 15, 2, .ref za), (r0, 15, 3, .ref zb), (r0, 15, 4, .ref zc), (r0, 15, 14, .ref zy)] [(zs, 150, 120000, ca 1, D_18.s), (zn, 151, 120000, ca 1, D_18.n), (za, 152, 120000, ca 1, D_18.a), (zb, 153, 120000, ca 1, D_18.b), (zc, 154, 120000, ca 1, D_18.c), (zy, 165, 16, ca 1, D_18.y), (single_3, 169, 1, ca 1, fs_5), (zy, 165, 16, ca 1, C.y)] [] H_18 locs_18 := ((hh_14.call hb_181 hb_182 hb_183 hb_184 hS_18 rfl (L1 := [(r0, 15, 34, .int qu_14), (r0, 15, 37, .ref single_3), (r0, 15, 11, .int py), (r0, 15, 0, .ref zs), (r0, 15, 1, .ref zn), (r0, 15, 2, .ref za), (r0, 15, 3, .ref zb), (r0, 15, 4, .ref zc), (r0, 15, 14, .ref zy)]) [0, 1, 3, 4, 5, 6, 7, 8, 9] rfl rfl (M1 := [(single_3, 169, 1, ca 1, fs_5), (zy, 165, 16, ca 1, C.y)]) [0, 6] rfl rfl (I1 := []) [] rfl rfl).more hb_185).moreM hb_186
      clear hh_14 ht_18 hvm_18 hz_18 hk_18 hS_18 hb_181 hb_182 hb_183 hb_184 hb_185
      clear hb_186
      try simp only at hr_19
      obtain ⟨hr_19_0, hr_19_1, hr_19_2, hr_19_3, hr_19_4⟩ := hr_19
      rw [hQ]
      exact W.iret (v := r_19) hx hb hr (fun t ht hW => ⟨⟨r_19, (qn_18, qu_14, D_18), rfl, by (try dsimp only); first | (refine ⟨by omega, by omega, jAgK.rf _ _, by omega, by omega, fun h9 => absurd h9 (by omega)⟩) | (rw [hqz_17, ← hqz_6] at hr_19_1 hr_19_4; refine ⟨by omega, by omega, hr_19_2, by omega, by omega, fun _ => ⟨(hr_19_3.tight (by omega) 80 (by omega)).mono (Nat.le_refl _) (by omega), by omega⟩⟩), ⟨hh_18.rt (M1 := [(r0, 15, 5, .int qn_18), (r0, 15, 34, .int qu_14)]) [0, 1] rfl ht, by rw [ht]; exact hh_18.2.2.2.2.2.2.2.1.sub [0, 1, 2, 3, 4, 5] rfl⟩⟩, by rw [ht]; try exact hh_18.1.1, fun q h9 hq => by rw [ht]; try exact hh_18.1.2.1 q h9 hq⟩) hh_18.1.2.2 dX13_opened_61
    · skip
      have c_16' : qu_14.toInt > 0 := jb_le_n (rfl) ((by decide)) c_16
      refine lv_iconst (v := 0) hx hb dX13_opened_41 (by decide) ?_
      refine lv_goto (tgt := 61) hx hb dX13_opened_42 (by decide) ?_
      rw [hQ]
      exact W.iret (v := 0) hx hb hr (fun t ht hW => ⟨⟨0, (pn, qu_14, C), rfl, by (try dsimp only); first | (refine ⟨by omega, by omega, jAgK.rf _ _, by omega, by omega, fun h9 => absurd h9 (by omega)⟩) | (rw [(zz_none), ← hqz_6] at (zz_none) (zz_none); refine ⟨by omega, by omega, (zz_none), by omega, by omega, fun _ => ⟨((zz_none).tight (by omega) 80 (by omega)).mono (Nat.le_refl _) (by omega), by omega⟩⟩), ⟨hh_14.rt (M1 := [(r0, 15, 5, .int pn), (r0, 15, 34, .int qu_14)]) [2, 0] rfl ht, by rw [ht]; exact hh_14.2.2.2.2.2.2.2.1.sub [1, 2, 3, 4, 5, 6] rfl⟩⟩, by rw [ht]; try exact hh_14.1.1, fun q h9 hq => by rw [ht]; try exact hh_14.1.2.1 q h9 hq⟩) hh_14.1.2.2 dX13_opened_61
end
section
-- formulas as they are read: raw terms (their parts behind them), raw formulas (their parts ahead of them)
theorem jRtm.one {C : jK} {d : Nat} {x hi : Int} (h : jRtm C d x hi) (hc : jSo C.c x = 1) : x < jSo C.a x ∧ jRtm C (d - 1) (jSo C.a x) hi := by
  cases d with
  | zero => exact h.elim
  | succ d => exact h.2.2.2.2.2.2.1 hc
theorem jRtm.two {C : jK} {d : Nat} {x hi : Int} (h : jRtm C d x hi) (hc : jSo C.c x = 2) : x < jSo C.a x ∧ jRtm C (d - 1) (jSo C.a x) (jSo C.b (jSo C.a x)) ∧ jRtm C (d - 1) (jSo C.b (jSo C.a x)) hi := by
  cases d with
  | zero => exact h.elim
  | succ d => exact h.2.2.2.2.2.2.2.1 hc
theorem jRtm.three {C : jK} {d : Nat} {x hi : Int} (h : jRtm C d x hi) (hc : jSo C.c x = 3) : x < jSo C.a x ∧ jRtm C (d - 1) (jSo C.a x) (jSo C.b (jSo C.a x)) ∧ jRtm C (d - 1) (jSo C.b (jSo C.a x)) (jSo C.b (jSo C.b (jSo C.a x))) ∧ jRtm C (d - 1) (jSo C.b (jSo C.b (jSo C.a x))) hi := by
  cases d with
  | zero => exact h.elim
  | succ d => exact h.2.2.2.2.2.2.2.2 hc
/-- a term while its parts are read -/
def jRl (C : jK) (d : Nat) (t last w : Int) : Prop := 0 ≤ t ∧ t < w ∧ jSo C.s t = 11 ∧ 0 ≤ jSo C.n t ∧ jSo C.n t ≤ 1599 ∧ 0 ≤ jSo C.c t ∧ jSo C.c t < w - t ∧ (jSo C.c t = 0 → last = -1) ∧ (1 ≤ jSo C.c t → t < last ∧ last < w) ∧ (jSo C.c t = 1 → jSo C.a t = last ∧ jRtm C d last w) ∧ (jSo C.c t = 2 → t < jSo C.a t ∧ jSo C.b (jSo C.a t) = last ∧ jRtm C d (jSo C.a t) last ∧ jRtm C d last w) ∧ (jSo C.c t = 3 → t < jSo C.a t ∧ jSo C.b (jSo C.b (jSo C.a t)) = last ∧ jRtm C d (jSo C.a t) (jSo C.b (jSo C.a t)) ∧ jRtm C d (jSo C.b (jSo C.a t)) last ∧ jRtm C d last w)
theorem jRl.rt {C : jK} {d : Nat} {t last w : Int} (h : jRl C d t last w) : jRtm C (d + 1) t w := by
  obtain ⟨h1, h2, h3, h4, h5, h6, -, -, h8, k1, k2, k3⟩ := h
  refine ⟨h1, h2, h3, h4, h5, h6, fun q => ?_, fun q => ?_, fun q => ?_⟩
  · obtain ⟨z1, z2⟩ := k1 q; rw [z1]; exact ⟨(h8 (by omega)).1, z2⟩
  · obtain ⟨z1, z2, z3, z4⟩ := k2 q; rw [z2]; exact ⟨z1, z3, z4⟩
  · obtain ⟨z1, z2, z3, z4, z5⟩ := k3 q; rw [z2]; exact ⟨z1, z3, z4, z5⟩
theorem jSo_off {f g : Nat → Int32} {e j : Int} (ho : ∀ j, j < 120000 → j ≠ e.toNat → g j = f j) (h0 : 0 ≤ j) (h1 : j < 120000) (he : 0 ≤ e) (hn : j ≠ e) : jSo g j = jSo f j := by
  unfold jSo
  rw [ho j.toNat (by omega) (by omega)]
theorem jAgK.row {C D : jK} {N : Int} (h : jAgK C D N) {A Bb Cc : Nat → Int32} (hN : N ≤ 120000) (ha : ∀ j : Int, 0 ≤ j → j < N → jSo A j = jSo D.a j) (hb : ∀ j : Int, 0 ≤ j → j < N → jSo Bb j = jSo D.b j) (hc : ∀ j : Int, 0 ≤ j → j < N → jSo Cc j = jSo D.c j) : jAgK C (jK.mk D.s D.n A Bb Cc D.y) N := by
  refine ⟨fun j hj => ?_, h.2⟩
  obtain ⟨a1, a2, a3, a4, a5⟩ := h.1 j hj
  have e : ∀ (f g : Nat → Int32), jSo f (j : Int) = jSo g (j : Int) → f j = g j := fun f g q => by unfold jSo at q; exact Int32.toInt_inj.mp q
  exact ⟨a1, a2, (e _ _ (ha j (by omega) hj)).trans a3, (e _ _ (hb j (by omega) hj)).trans a4, (e _ _ (hc j (by omega) hj)).trans a5⟩
theorem jRl.first {C : jK} {d : Nat} {t last w : Int} (h : jRl C d t last w) (hl : last < 0) : jSo C.c t = 0 := by
  obtain ⟨h1, -, -, -, -, h6, -, -, h8, -⟩ := h
  by_cases q : 1 ≤ jSo C.c t
  · have := h8 q; omega
  · omega
/-- the first part -/
theorem jRl.sA {C D : jK} {d : Nat} {t last w p w1 c1 : Int} {A Cc : Nat → Int32} (h : jRl C d t last w) (hl : last < 0) (hA : jAgK C D w) (hw : w ≤ w1) (h120 : w1 ≤ 120000) (hp : jRtm D d p w1) (hpw : p = w) (ha : jSo A t = p) (hao : ∀ j, j < 120000 → j ≠ t.toNat → A j = D.a j) (hc : jSo Cc t = c1) (hc1 : c1 = jSo D.c t + 1) (hco : ∀ j, j < 120000 → j ≠ t.toNat → Cc j = D.c j) : jRl (jK.mk D.s D.n A D.b Cc D.y) d t p w1 := by
  have h0 := h.first hl
  have hpo := hp.ok
  obtain ⟨h1, h2, h3, h4, h5, h6, -⟩ := h
  obtain ⟨a1, a2, a3, a4, a5⟩ := hA.so h1 h2
  have hcc : jSo Cc t = 1 := by omega
  refine ⟨h1, by omega, by show jSo D.s t = 11; omega, by show 0 ≤ jSo D.n t; omega, by show jSo D.n t ≤ 1599; omega, by show 0 ≤ jSo Cc t; omega, by show jSo Cc t < w1 - t; omega, fun q => ?_, fun _ => ?_, fun _ => ⟨ha, hp.ag ?_⟩, fun q => ?_, fun q => ?_⟩
  · have q' : jSo Cc t = 0 := q; omega
  · have := hp.ok; omega
  · intro j g0 g1
    exact ⟨rfl, rfl, jSo_off hao (by omega) (by omega) h1 (by omega), jSo_off hco (by omega) (by omega) h1 (by omega), fun _ => rfl⟩
  · have q' : jSo Cc t = 2 := q; omega
  · have q' : jSo Cc t = 3 := q; omega
/-- a further part -/
theorem jRl.sB {C D : jK} {d : Nat} {t last w p w1 c1 : Int} {Bb Cc : Nat → Int32} (h : jRl C d t last w) (hl : 0 ≤ last) (hA : jAgK C D w) (hw : w ≤ w1) (h120 : w1 ≤ 120000) (hp : jRtm D d p w1) (hpw : p = w) (hb : jSo Bb last = p) (hbo : ∀ j, j < 120000 → j ≠ last.toNat → Bb j = D.b j) (hc : jSo Cc t = c1) (hc1 : c1 = jSo D.c t + 1) (hco : ∀ j, j < 120000 → j ≠ t.toNat → Cc j = D.c j) : jRl (jK.mk D.s D.n D.a Bb Cc D.y) d t p w1 := by
  obtain ⟨h1, h2, h3, h4, h5, h6, h6b, h7, h8, k1, k2, k3⟩ := h
  have hpo := hp.ok
  have hc0 : 1 ≤ jSo C.c t := by
    by_cases q : jSo C.c t = 0
    · have := h7 q; omega
    · omega
  obtain ⟨l1, l2⟩ := h8 hc0
  obtain ⟨a1, a2, a3, a4, a5⟩ := hA.so h1 h2
  have hcc : jSo Cc t = jSo C.c t + 1 := by omega
  have offb : ∀ j : Int, 0 ≤ j → j < 120000 → j ≠ last → jSo Bb j = jSo D.b j := fun j g0 g1 g2 => jSo_off hbo g0 g1 hl g2
  have offc : ∀ j : Int, 0 ≤ j → j < 120000 → j ≠ t → jSo Cc j = jSo D.c j := fun j g0 g1 g2 => jSo_off hco g0 g1 h1 g2
  have old : ∀ {y h9 : Int}, t < y → h9 ≤ w → (h9 ≤ last ∨ y = last) → jRtm C d y h9 → jRtm (jK.mk D.s D.n D.a Bb Cc D.y) d y h9 := by
    intro y h9 q1 q2 q3 q4
    have q5 := q4.ok
    refine (q4.agK hA q2).ag (fun j g0 g1 => ⟨rfl, rfl, rfl, offc j (by omega) (by omega) (by omega), fun q6 => offb j (by omega) (by omega) (by omega)⟩)
  have new : jRtm (jK.mk D.s D.n D.a Bb Cc D.y) d p w1 := hp.ag (fun j g0 g1 => ⟨rfl, rfl, rfl, offc j (by omega) (by omega) (by omega), fun q6 => offb j (by omega) (by omega) (by omega)⟩)
  refine ⟨h1, by omega, by show jSo D.s t = 11; omega, by show 0 ≤ jSo D.n t; omega, by show jSo D.n t ≤ 1599; omega, by show 0 ≤ jSo Cc t; omega, by show jSo Cc t < w1 - t; omega, fun q => ?_, fun _ => by omega, fun q => ?_, fun q => ?_, fun q => ?_⟩
  · have q' : jSo Cc t = 0 := q; omega
  · have q' : jSo Cc t = 1 := q; omega
  · have q' : jSo Cc t = 2 := q
    obtain ⟨z1, z2⟩ := k1 (by omega)
    show t < jSo D.a t ∧ jSo Bb (jSo D.a t) = p ∧ _
    rw [a3, z1]
    have := old (y := last) (h9 := w) (by omega) (by omega) (Or.inr rfl) z2
    rw [← hpw] at this
    exact ⟨l1, hb, this, new⟩
  · have q' : jSo Cc t = 3 := q
    obtain ⟨z1, z2, z3, z4⟩ := k2 (by omega)
    have z3o := z3.ok
    have e1 : jSo Bb (jSo D.a t) = last := by
      rw [a3, offb _ (by omega) (by omega) (by omega), (hA.so (n := jSo C.a t) (by omega) (by omega)).2.2.2.1]; exact z2
    show t < jSo D.a t ∧ jSo Bb (jSo Bb (jSo D.a t)) = p ∧ jRtm _ d (jSo D.a t) (jSo Bb (jSo D.a t)) ∧ jRtm _ d (jSo Bb (jSo D.a t)) p ∧ _
    rw [e1, a3]
    have n1 := old (y := jSo C.a t) (h9 := last) (by omega) (by omega) (Or.inl (Int.le_refl _)) z3
    have n2 := old (y := last) (h9 := w) (by omega) (by omega) (Or.inr rfl) z4
    rw [← hpw] at n2
    exact ⟨z1, hb, n1, n2, new⟩
theorem jNw.rl {C D : jK} {N wn : Int} {d : Nat} (h : jNw C D N 11 wn (-1) (-1) 0) (h0 : 0 ≤ N) (hn : 0 ≤ wn ∧ wn ≤ 1599) : jRl D d N (-1) (N + 1) := by
  obtain ⟨-, s1, s2, s3, s4, s5⟩ := h
  exact ⟨h0, by omega, s1, by omega, by omega, by omega, by omega, fun _ => rfl, fun q => by omega, fun q => by omega, fun q => by omega, fun q => by omega⟩
theorem jRw.term {C : jK} {e q d : Nat} {x hi : Int} (h : jRtm C d x hi) (hd : d ≤ 13) (he : 1 ≤ e) : jRw C e q x x hi := by
  have h1 := h.ok
  cases e with
  | zero => omega
  | succ e => exact ⟨h1.2.1, Int.le_refl _, h1.2.2.1, Or.inl ⟨h1.2.2.2.1, h.mono hd (Int.le_refl _)⟩⟩
theorem jRw.false {C D : jK} {e q : Nat} {N wn wa wb wc : Int} (h : jNw C D N 3 wn wa wb wc) (h0 : 0 ≤ N) (he : 1 ≤ e) : jRw D e q N N (N + 1) := by
  cases e with
  | zero => omega
  | succ e => exact ⟨h0, Int.le_refl _, by omega, Or.inr (Or.inl h.2.1)⟩
theorem jRw.join {C D : jK} {e e1 e2 q : Nat} {lo m N ws wn wa wb wc : Int} (h1 : jRw C e1 q lo wa m) (h2 : jRw C e2 q m wb N) (h : jNw C D N ws wn wa wb wc) (hs : 0 ≤ ws ∧ ws ≤ 2) (he1 : e1 + 1 ≤ e) (he2 : e2 + 1 ≤ e) : jRw D e q lo N (N + 1) := by
  have o1 := h1.ok; have o2 := h2.ok
  cases e with
  | zero => omega
  | succ e =>
    obtain ⟨hA, s1, s2, s3, s4, s5⟩ := h
    refine ⟨o1.2.1, by omega, by omega, Or.inr (Or.inr (Or.inr (Or.inr ⟨by omega, by omega, m, ?_, ?_⟩)))⟩
    · rw [s3]; exact jRw.ag hA (h1.up (by omega) (Nat.le_refl _)) (by omega)
    · rw [s4]; exact jRw.ag hA (h2.up (by omega) (Nat.le_refl _)) (by omega)
theorem jRw.quant {C D : jK} {e e1 q q1 : Nat} {lo N ws wn wa wb wc : Int} (h1 : jRw C e1 q1 lo wa N) (h : jNw C D N ws wn wa wb wc) (hs : ws = 4 ∨ ws = 5) (hn : 0 ≤ wn ∧ wn ≤ 1599) (hq : q1 + 1 ≤ q) (he : e1 + 1 ≤ e) : jRw D e q lo N (N + 1) := by
  have o1 := h1.ok
  cases e with
  | zero => omega
  | succ e =>
    obtain ⟨hA, s1, s2, s3, s4, s5⟩ := h
    refine ⟨o1.2.1, by omega, by omega, Or.inr (Or.inr (Or.inr (Or.inl ⟨by omega, by omega, by omega, by omega, ?_⟩)))⟩
    rw [s3]; exact jRw.ag hA (h1.up (by omega) (by omega)) (by omega)
theorem jRw.c11 {C : jK} {e q : Nat} {lo x hi : Int} (h : jRw C e q lo x hi) (hs : jSo C.s x = 11) : jRtm C 13 x hi := by
  cases e with
  | zero => exact h.elim
  | succ e =>
    rcases h.2.2.2 with ⟨_, t1⟩ | s1 | ⟨s1, _⟩ | ⟨s1, _⟩ | ⟨s1, s2, _⟩
    · exact t1
    all_goals omega
theorem jRw.c6 {C : jK} {e q : Nat} {lo x hi : Int} (h : jRw C e q lo x hi) (hs : jSo C.s x = 6) : ∃ m : Int, lo ≤ jSo C.a x ∧ jRtm C 13 (jSo C.a x) m ∧ m ≤ jSo C.b x ∧ jRtm C 13 (jSo C.b x) x := by
  cases e with
  | zero => exact h.elim
  | succ e =>
    rcases h.2.2.2 with ⟨s1, _⟩ | s1 | ⟨_, t1⟩ | ⟨s1, _⟩ | ⟨s1, s2, _⟩
    · omega
    · omega
    · exact t1
    all_goals omega
theorem jRw.c45 {C : jK} {e q : Nat} {lo x hi : Int} (h : jRw C e q lo x hi) (hs : jSo C.s x = 4 ∨ jSo C.s x = 5) : 0 ≤ jSo C.n x ∧ jSo C.n x ≤ 1599 ∧ 1 ≤ q ∧ jRw C (e - 1) (q - 1) lo (jSo C.a x) x := by
  cases e with
  | zero => exact h.elim
  | succ e =>
    rcases h.2.2.2 with ⟨s1, _⟩ | s1 | ⟨s1, _⟩ | ⟨_, t1⟩ | ⟨s1, s2, _⟩
    · omega
    · omega
    · omega
    · exact t1
    · omega
theorem jRw.c012 {C : jK} {e q : Nat} {lo x hi : Int} (h : jRw C e q lo x hi) (h1 : jSo C.s x ≠ 11) (h2 : jSo C.s x ≠ 3) (h3 : jSo C.s x ≠ 6) (h4 : jSo C.s x ≠ 4) (h5 : jSo C.s x ≠ 5) : 0 ≤ jSo C.s x ∧ jSo C.s x ≤ 2 ∧ ∃ m : Int, jRw C (e - 1) q lo (jSo C.a x) m ∧ jRw C (e - 1) q m (jSo C.b x) x := by
  cases e with
  | zero => exact h.elim
  | succ e =>
    rcases h.2.2.2 with ⟨s1, _⟩ | s1 | ⟨s1, _⟩ | ⟨s1, _⟩ | t1
    · exact absurd s1 h1
    · exact absurd s1 h2
    · exact absurd s1 h3
    · omega
    · exact t1
def jH1 (C : jK) (x hi : Int) : Int := if jSo C.c x = 1 then hi else jSo C.b (jSo C.a x)
def jH2 (C : jK) (x hi : Int) : Int := if jSo C.c x = 2 then hi else jSo C.b (jSo C.b (jSo C.a x))
theorem jRtm.p1 {C : jK} {d : Nat} {x hi : Int} (h : jRtm C d x hi) (h1 : 1 ≤ jSo C.c x) (h3 : jSo C.c x ≤ 3) : x < jSo C.a x ∧ jRtm C (d - 1) (jSo C.a x) (jH1 C x hi) ∧ jH1 C x hi ≤ hi ∧ jSo C.a x < hi := by
  unfold jH1
  have hc : jSo C.c x = 1 ∨ jSo C.c x = 2 ∨ jSo C.c x = 3 := by omega
  rcases hc with q | q | q
  · rw [if_pos q]; obtain ⟨z1, z2⟩ := h.one q; have := z2.ok; exact ⟨z1, z2, by omega, by omega⟩
  · rw [if_neg (by omega)]; obtain ⟨z1, z2, z3⟩ := h.two q; have := z2.ok; have := z3.ok; exact ⟨z1, z2, by omega, by omega⟩
  · rw [if_neg (by omega)]; obtain ⟨z1, z2, z3, z4⟩ := h.three q; have := z2.ok; have := z3.ok; have := z4.ok; exact ⟨z1, z2, by omega, by omega⟩
theorem jRtm.p2 {C : jK} {d : Nat} {x hi : Int} (h : jRtm C d x hi) (h1 : 2 ≤ jSo C.c x) (h3 : jSo C.c x ≤ 3) : jRtm C (d - 1) (jSo C.b (jSo C.a x)) (jH2 C x hi) ∧ jH1 C x hi = jSo C.b (jSo C.a x) ∧ jH2 C x hi ≤ hi := by
  have e1 : jH1 C x hi = jSo C.b (jSo C.a x) := by unfold jH1; rw [if_neg (by omega)]
  rw [e1]
  unfold jH2
  have hc : jSo C.c x = 2 ∨ jSo C.c x = 3 := by omega
  rcases hc with q | q
  · rw [if_pos q]; obtain ⟨z1, z2, z3⟩ := h.two q; exact ⟨z3, rfl, by omega⟩
  · rw [if_neg (by omega)]; obtain ⟨z1, z2, z3, z4⟩ := h.three q; have := z3.ok; have := z4.ok; exact ⟨z3, rfl, by omega⟩
theorem jRtm.p3 {C : jK} {d : Nat} {x hi : Int} (h : jRtm C d x hi) (h3 : jSo C.c x = 3) : jRtm C (d - 1) (jSo C.b (jSo C.b (jSo C.a x))) hi ∧ jH2 C x hi = jSo C.b (jSo C.b (jSo C.a x)) := by
  unfold jH2
  rw [if_neg (by omega)]
  exact ⟨(h.three h3).2.2.2, rfl⟩
-- new nodes of formulas
theorem jMk0 {C D : jK} {N Y b ws wn wa wb wc : Int} {e : Nat} (h : jNw C D N ws wn wa wb wc) (hs : (ws = 10 ∧ 0 ≤ wn ∧ wn < b) ∨ (ws = 9 ∧ 0 ≤ wn ∧ wn ≤ 1599) ∨ ws = 3) (h0 : 0 ≤ N) (he : 1 ≤ e) : jFm D (N + 1) Y e b N ∧ jsz D N = 1 := by
  obtain ⟨hA, e1, e2, e3, e4, e5⟩ := h
  have hl := jPts_nl D N
  have hp : jPts D N = 0 := by
    by_cases q : ws = 10
    · exact hl.1 (by omega)
    · exact hl.2.2.2 (by omega)
  have hF : jFm D (N + 1) Y 1 b N := ⟨⟨h0, by omega, by omega, by omega, fun q => by omega, fun q => by omega, fun q => by omega, by omega, by omega⟩, fun k g0 g1 => by omega⟩
  exact hF.leaf hp (fun q => by omega) he
theorem jMk1 {C D : jK} {N Y b ws wn wa wb wc : Int} {d : Nat} (h : jNw C D N ws wn wa wb wc) (hs : ws = 4 ∨ ws = 5) (hn : 0 ≤ wn ∧ wn ≤ 1599) (h0 : 0 ≤ N) (hd : d + 1 ≤ 4000) (ha : jFm C N Y d (b + 1) wa) : jFm D (N + 1) Y (d + 1) b N ∧ jsz D N = 1 + jsz C wa := by
  obtain ⟨hA, e1, e2, e3, e4, e5⟩ := h
  have h : jNw C D N ws wn wa wb wc := ⟨hA, e1, e2, e3, e4, e5⟩
  have hp : jPts D N = 1 := (jPts_nl D N).2.1 (by omega)
  have hq : jQf D N = 1 := (jQf_ok D N).1 (by omega)
  have k1 : 0 < jPts D N → jFm C N Y d (b + jQf D N) wa := fun _ => by rw [hq]; exact ha
  have k2 : 1 < jPts D N → jFm C N Y d (b + jQf D N) wb := fun q => by omega
  have k3 : 2 < jPts D N → jFm C N Y d (b + jQf D N) wc := fun q => by omega
  have hF := h.fm (Y := Y) (b := b) (d := d) ⟨h0, by omega, by omega, by omega, fun q => by omega, fun q => by omega, fun q => by omega, by omega, by omega⟩ k1 k2 k3
  refine ⟨hF, ?_⟩
  rw [h.sz hd hF k1 k2 k3, (jIf4 _ _ _ _ _).2.1 hp]
theorem jMk2 {C D : jK} {N Y b ws wn wa wb wc : Int} {d : Nat} (h : jNw C D N ws wn wa wb wc) (hs : (0 ≤ ws ∧ ws ≤ 2) ∨ ws = 6) (h0 : 0 ≤ N) (hd : d + 1 ≤ 4000) (ha : jFm C N Y d b wa) (hb : jFm C N Y d b wb) : jFm D (N + 1) Y (d + 1) b N ∧ jsz D N = 1 + jsz C wa + jsz C wb := by
  obtain ⟨hA, e1, e2, e3, e4, e5⟩ := h
  have h : jNw C D N ws wn wa wb wc := ⟨hA, e1, e2, e3, e4, e5⟩
  have hp : jPts D N = 2 := (jPts_nl D N).2.2.1 (by omega)
  have hq : jQf D N = 0 := (jQf_ok D N).2.1 (by omega)
  have k1 : 0 < jPts D N → jFm C N Y d (b + jQf D N) wa := fun _ => by rw [hq, Int.add_zero]; exact ha
  have k2 : 1 < jPts D N → jFm C N Y d (b + jQf D N) wb := fun q => by rw [hq, Int.add_zero]; exact hb
  have k3 : 2 < jPts D N → jFm C N Y d (b + jQf D N) wc := fun q => by omega
  have hF := h.fm (Y := Y) (b := b) (d := d) ⟨h0, by omega, by omega, by omega, fun q => by omega, fun q => by omega, fun q => by omega, by omega, by omega⟩ k1 k2 k3
  refine ⟨hF, ?_⟩
  rw [h.sz hd hF k1 k2 k3, (jIf4 _ _ _ _ _).2.2.1 hp]
theorem jMk7 {C D : jK} {N Y b ws wn wa wb wc m : Int} {d : Nat} (h : jNw C D N ws wn wa wb wc) (hs : ws = 7 ∨ ws = 8) (hn : 0 ≤ wn ∧ wn < Y) (hm : jSo C.y wn = m) (h0 : 0 ≤ N) (hd : d + 1 ≤ 4000) (hm0 : 0 ≤ m ∧ m ≤ 3) (ha : 1 ≤ m → jFm C N Y d b wa) (hb : 2 ≤ m → jFm C N Y d b wb) (hc : 3 ≤ m → jFm C N Y d b wc) : jFm D (N + 1) Y (d + 1) b N ∧ (m = 0 → jsz D N = 1) ∧ (m = 1 → jsz D N = 1 + jsz C wa) ∧ (m = 2 → jsz D N = 1 + jsz C wa + jsz C wb) ∧ (m = 3 → jsz D N = 1 + jsz C wa + jsz C wb + jsz C wc) := by
  obtain ⟨hA, e1, e2, e3, e4, e5⟩ := h
  have h : jNw C D N ws wn wa wb wc := ⟨hA, e1, e2, e3, e4, e5⟩
  have hy : jSo D.y wn = m := by rw [← hm]; unfold jSo; rw [hA.2]
  have hp : jPts D N = m := by unfold jPts; rw [if_pos (by omega), e2]; exact hy
  have hq : jQf D N = 0 := (jQf_ok D N).2.1 (by omega)
  have k1 : 0 < jPts D N → jFm C N Y d (b + jQf D N) wa := fun _ => by rw [hq, Int.add_zero]; exact ha (by omega)
  have k2 : 1 < jPts D N → jFm C N Y d (b + jQf D N) wb := fun q => by rw [hq, Int.add_zero]; exact hb (by omega)
  have k3 : 2 < jPts D N → jFm C N Y d (b + jQf D N) wc := fun q => by rw [hq, Int.add_zero]; exact hc (by omega)
  have hF := h.fm (Y := Y) (b := b) (d := d) ⟨h0, by omega, by omega, by omega, fun q => by omega, fun q => by omega, fun q => by omega, by omega, by omega⟩ k1 k2 k3
  have hz := h.sz hd hF k1 k2 k3
  have h4 := jIf4 (jPts D N) 1 (jsz C wa) (jsz C wb) (jsz C wc)
  refine ⟨hF, fun q => ?_, fun q => ?_, fun q => ?_, fun q => ?_⟩
  · rw [hz, h4.1 (by omega)]
  · rw [hz, h4.2.1 (by omega)]
  · rw [hz, h4.2.2.1 (by omega)]
  · rw [hz, h4.2.2.2 (by omega)]
theorem jRw.f3 {C : jK} {e q : Nat} {lo x hi N Y b : Int} (h : jRw C e q lo x hi) (hs : jSo C.s x = 3) (hN : hi ≤ N) {d : Nat} (hd : 1 ≤ d) : jFm C N Y d b x ∧ jsz C x = 1 := by
  have o := h.ok
  have hp : jPts C x = 0 := (jPts_nl C x).2.2.2 (by omega)
  have hF : jFm C N Y 1 b x := ⟨⟨by omega, by omega, by omega, by omega, fun q => by omega, fun q => by omega, fun q => by omega, by omega, by omega⟩, fun k g0 g1 => by omega⟩
  exact hF.leaf hp (fun q => by omega) hd
end
