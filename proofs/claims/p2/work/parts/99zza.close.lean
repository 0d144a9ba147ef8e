theorem dX11_aimAtPlace_0 : decode cX11_aimAtPlace 0 = .ok (.aload_n 0, 1) := by decide +kernel
theorem dX11_aimAtPlace_1 : decode cX11_aimAtPlace 1 = .ok (.invokevirtual 359, 3) := by decide +kernel
theorem dX11_aimAtPlace_4 : decode cX11_aimAtPlace 4 = .ok (.astore_n 2, 1) := by decide +kernel
theorem dX11_aimAtPlace_5 : decode cX11_aimAtPlace 5 = .ok (.aload_n 0, 1) := by decide +kernel
theorem dX11_aimAtPlace_6 : decode cX11_aimAtPlace 6 = .ok (.getfield 28, 3) := by decide +kernel
theorem dX11_aimAtPlace_9 : decode cX11_aimAtPlace 9 = .ok (.aload_n 0, 1) := by decide +kernel
theorem dX11_aimAtPlace_10 : decode cX11_aimAtPlace 10 = .ok (.getfield 28, 3) := by decide +kernel
theorem dX11_aimAtPlace_13 : decode cX11_aimAtPlace 13 = .ok (.iconst 0, 1) := by decide +kernel
theorem dX11_aimAtPlace_14 : decode cX11_aimAtPlace 14 = .ok (.ldc_w 271, 3) := by decide +kernel
theorem dX11_aimAtPlace_17 : decode cX11_aimAtPlace 17 = .ok (.invokevirtual 260, 3) := by decide +kernel
theorem dX11_aimAtPlace_20 : decode cX11_aimAtPlace 20 = .ok (.ldc_w 430, 3) := by decide +kernel
theorem dX11_aimAtPlace_23 : decode cX11_aimAtPlace 23 = .ok (.invokevirtual 260, 3) := by decide +kernel
theorem dX11_aimAtPlace_26 : decode cX11_aimAtPlace 26 = .ok (.istore_n 3, 1) := by decide +kernel
theorem dX11_aimAtPlace_27 : decode cX11_aimAtPlace 27 = .ok (.aload_n 2, 1) := by decide +kernel
theorem dX11_aimAtPlace_28 : decode cX11_aimAtPlace 28 = .ok (.ifnonnull 7, 3) := by decide +kernel
theorem dX11_aimAtPlace_31 : decode cX11_aimAtPlace 31 = .ok (.iconst (-1), 1) := by decide +kernel
theorem dX11_aimAtPlace_32 : decode cX11_aimAtPlace 32 = .ok (.goto 9, 3) := by decide +kernel
theorem dX11_aimAtPlace_35 : decode cX11_aimAtPlace 35 = .ok (.aload_n 0, 1) := by decide +kernel
theorem dX11_aimAtPlace_36 : decode cX11_aimAtPlace 36 = .ok (.iload_n 3, 1) := by decide +kernel
theorem dX11_aimAtPlace_37 : decode cX11_aimAtPlace 37 = .ok (.aload_n 2, 1) := by decide +kernel
theorem dX11_aimAtPlace_38 : decode cX11_aimAtPlace 38 = .ok (.invokevirtual 409, 3) := by decide +kernel
theorem dX11_aimAtPlace_41 : decode cX11_aimAtPlace 41 = .ok (.istore 4, 2) := by decide +kernel
theorem dX11_aimAtPlace_43 : decode cX11_aimAtPlace 43 = .ok (.iload 4, 2) := by decide +kernel
theorem dX11_aimAtPlace_45 : decode cX11_aimAtPlace 45 = .ok (.ifCond .ge 5, 3) := by decide +kernel
theorem dX11_aimAtPlace_48 : decode cX11_aimAtPlace 48 = .ok (.iconst 0, 1) := by decide +kernel
theorem dX11_aimAtPlace_49 : decode cX11_aimAtPlace 49 = .ok (.ireturn, 1) := by decide +kernel
theorem dX11_aimAtPlace_50 : decode cX11_aimAtPlace 50 = .ok (.aload_n 1, 1) := by decide +kernel
theorem dX11_aimAtPlace_51 : decode cX11_aimAtPlace 51 = .ok (.aload_n 2, 1) := by decide +kernel
theorem dX11_aimAtPlace_52 : decode cX11_aimAtPlace 52 = .ok (.putfield 432, 3) := by decide +kernel
theorem dX11_aimAtPlace_55 : decode cX11_aimAtPlace 55 = .ok (.aload_n 1, 1) := by decide +kernel
theorem dX11_aimAtPlace_56 : decode cX11_aimAtPlace 56 = .ok (.aload_n 2, 1) := by decide +kernel
theorem dX11_aimAtPlace_57 : decode cX11_aimAtPlace 57 = .ok (.iload 4, 2) := by decide +kernel
theorem dX11_aimAtPlace_59 : decode cX11_aimAtPlace 59 = .ok (.invokevirtual 435, 3) := by decide +kernel
theorem dX11_aimAtPlace_62 : decode cX11_aimAtPlace 62 = .ok (.putfield 438, 3) := by decide +kernel
theorem dX11_aimAtPlace_65 : decode cX11_aimAtPlace 65 = .ok (.iconst 1, 1) := by decide +kernel
theorem dX11_aimAtPlace_66 : decode cX11_aimAtPlace 66 = .ok (.ireturn, 1) := by decide +kernel
def EX11_aimAtPlace : List (Nat × Nat) := [(10, 1), (10, 2)]
set_option maxHeartbeats 4000000 in
set_option maxRecDepth 20000 in
theorem uX11_aimAtPlace (l : Launch) (dC : Nat → ClassId) (dI : Nat → Nat → Nat) (ca : Nat → ClassId) (base : Nat) (B : jF) (hB : jBok B) (hAp : jAp (dC, dI)) (hB1 : ∀ n G a H, B 1 n G a H ↔ jOb (dC, dI) 1 3 (F1 n G) a H) (hB3 : ∀ n G a H, B 3 n G a H ↔ jOb (dC, dI) 3 17 (F3 n G) a H) (hB6 : ∀ n G a H, B 6 n G a H ↔ jOb (dC, dI) 6 12 (F6 n G) a H) (hB10 : ∀ n G a H, B 10 n G a H ↔ jOb (dC, dI) 10 5 (F10 n G) a H) (hB13 : ∀ n G a H, B 13 n G a H ↔ jOb (dC, dI) 13 19 (F13 n G) a H) (hB101 : ∀ n G a H, B 101 n G a H ↔ jAr (dC, dI) (ca 1) (fun j z => True) n a H) (hB140 : ∀ n G a H, B 140 n G a H ↔ jAr (dC, dI) (ca 1) (fun j z => True) n a H) (hB141 : ∀ n G a H, B 141 n G a H ↔ jAr (dC, dI) (ca 1) (fun j z => True) n a H) (hB142 : ∀ n G a H, B 142 n G a H ↔ jAr (dC, dI) (ca 1) (fun j z => True) n a H) (hB143 : ∀ n G a H, B 143 n G a H ↔ jAr (dC, dI) (ca 1) (fun j z => True) n a H) (hB144 : ∀ n G a H, B 144 n G a H ↔ jAr (dC, dI) (ca 1) (fun j z => 0 ≤ z.toInt ∧ z.toInt ≤ 3000) n a H) (hB145 : ∀ n G a H, B 145 n G a H ↔ jAr (dC, dI) (ca 1) (fun j z => True) n a H) (hB146 : ∀ n G a H, B 146 n G a H ↔ jAr (dC, dI) (ca 1) (fun j z => True) n a H) (hB172 : ∀ n G a H, B 172 n G a H ↔ jAr (dC, dI) (ca 1) (fun j z => 0 ≤ z.toInt ∧ z.toInt ≤ 1500) n a H) (hB221 : ∀ n G a H, B 221 n G a H ↔ jAq (dC, dI) (ca 9) (jQn 3 0) n G a H) (G0 : jT) (H0 : Heap) (r0 : Nat) (r1 : Nat) : Met l yX11_aimAtPlace (jw yX11_aimAtPlace cX11_aimAtPlace 5 (some .boolean)) ({ frames := 7, cells := 0, slots := 0, locals := 214 }) (va_Pc [.ref r0, .ref r1] (fun U => U.heap = H0 ∧ jX B base G0 [] H0 ∧ jG dC dI ca base U ∧ jK7 dC dI ca base U ∧ G0 r0 = some (13, 0) ∧ G0 r1 = some (10, 0) ∧ jP (dC, dI) G0 H0 [] ∧ jIs (dC, dI) G0 H0 [(jFl, jLs dC dI ca G0 3 none)] ∧ True)) (va_Qi (S := Unit) (fun r u => (r = 0 ∨ r = 1) ∧ (True)) (fun u t => (jRt (dC, dI) B base G0 EX11_aimAtPlace H0 [] t.heap) ∧ jIs (dC, dI) G0 t.heap [(jFl, jLs dC dI ca G0 3 none)]) (jA base)) 0 0 (jA base) := by
  refine Met.ofW (cc := cX11_aimAtPlace) (maxL := 5) (ret := (some .boolean)) (by decide) rfl ?_
  intro p e s m args below meth c s₁ Bd hml hv
  obtain ⟨rfl, hH0, hX, hG, hK7, hg_r0, hg_r1, hP0, hI0, hp0⟩ := hv
  have hK := hG.1
  have hx := Bd.exec
  have hb := Bd.bytes
  have hr := Bd.returns
  have hts := atoms_spec (ws := (jw yX11_aimAtPlace cX11_aimAtPlace 5 (some .boolean))) Bd.pre
  have htw : ∀ w ∈ jWl, w.before _ s = true := fun w h => hts w (List.mem_cons_of_mem _ h)
  have hown : s.vm.findClass RX11 = some m.cls := findClass_of_methodNamed Bd.named
  have hlocks := Bd.notSynchronized
  obtain ⟨Q, hQ⟩ : ∃ Q, Q = MQ below (va_Qi (S := Unit) (fun r u => (r = 0 ∨ r = 1) ∧ (True)) (fun u t => (jRt (dC, dI) B base G0 EX11_aimAtPlace H0 [] t.heap) ∧ jIs (dC, dI) G0 t.heap [(jFl, jLs dC dI ca G0 3 none)]) (jA base)) ([.ref r0, .ref r1] : List Value).toArray s 0 0 (jA base) := ⟨_, rfl⟩
  rw [← hQ]
  have hl := lv_entry ([.ref r0, .ref r1]) (n := 5) (Nat.le_of_ble_eq_true rfl)
  rw [lg_entry_eq]
  generalize (lg_sl ([.ref r0, .ref r1]) ++ List.replicate (5 - (lg_sl ([.ref r0, .ref r1])).length) Slot.unset).toArray = ls at hl ⊢
  have hl : lv_has ls 5 [(0, .ref r0), (1, .ref r1)] := hl
  generalize hR : (headSpec (jw yX11_aimAtPlace cX11_aimAtPlace 5 (some .boolean)) ({ frames := 7, cells := 0, slots := 0, locals := 214 })).room = R
  subst hH0
  have hh : jSt (dC, dI) B base G0 G0 EX11_aimAtPlace s.heap 0 0 [] [] [(jFl, jLs dC dI ca G0 3 none)] s.heap [] := jSt.start hX hP0 jMc.nil hI0
  clear hX hP0
  have hkm1 : ((-1) : Int32).toInt = (-1) := by decide
  have hk0 : (0 : Int32).toInt = 0 := by decide
  have hk1 : (1 : Int32).toInt = 1 := by decide
  have hly_10_1 := htw (u_lay RX8 TX8 1) (jWc_wsX80 _ (u_in_lay (by decide)))
  have hly_10_2 := htw (u_lay RX8 TX8 2) (jWc_wsX80 _ (u_in_lay (by decide)))
  have hly_13_2 := htw (u_lay RX11 TX11 2) (jWc_wsX110 _ (u_in_lay (by decide)))
  have hlk_28 := (htw (.fieldLink RX11 28 "ProofServer" "json" "LProofServer$Json;") (jWr_1 _ (List.mem_of_getElem? (i := 23) rfl)))
  obtain ⟨str271, rstr271, hstr2710⟩ := hG.str (o := RX11) (k := 271) (tx := "params") (List.mem_of_getElem? (i := 852) (by decide +kernel))
  have hstr271 : jStr base str271 6 s s.heap := hstr2710
  obtain ⟨str430, rstr430, hstr4300⟩ := hG.str (o := RX11) (k := 430) (tx := "position") (List.mem_of_getElem? (i := 912) (by decide +kernel))
  have hstr430 : jStr base str430 8 s s.heap := hstr4300
  have hlk_432 := (htw (.fieldLink RX11 432 "ProofServer$Request" "about" "LProofServer$Document;") (jWr_27 _ (List.mem_of_getElem? (i := 14) rfl)))
  have hlk_438 := (htw (.fieldLink RX11 438 "ProofServer$Request" "needed" "I") (jWr_27 _ (List.mem_of_getElem? (i := 15) rfl)))
  refine lv_aload_n hx hb dX11_aimAtPlace_0 rfl (lv_at hl 0 rfl) ?_
  refine j_callx (A0 := jA base) (H0 := s.heap) (va_runV (As := []) (rest := []) ⟨hx, hb, hml, hown, hts⟩ (uX11_addressed l dC dI ca base B hB hAp hB1 hB3 hB6 hB13 hB101 hB140 hB141 hB142 hB143 hB144 hB145 hB146 hB221 G0 s.heap r0) (cwV 0 hts (jgV (jWr_27 _ (List.mem_of_getElem? (i := 16) rfl)) (jWr_27 _ (List.mem_of_getElem? (i := 17) rfl)) (jWr_27 _ (List.mem_of_getElem? (i := 18) rfl)) (jWr_1 _ (List.mem_of_getElem? (i := 2) rfl)) (jWr_27 _ (List.mem_of_getElem? (i := 19) rfl))) rfl rfl rfl (by decide +kernel) ⟨by rw [← hR]; exact Nat.le_of_ble_eq_true rfl, by rw [← hR]; exact Nat.le_of_ble_eq_true rfl⟩) ⟨fun a U g mk q => by obtain ⟨q0, q1, q2, qK, q10, q11, q12, q13, q14⟩ := q; exact ⟨q0, q1, q2, jG.calling g mk a qK, (jK7.calling g mk a q10), q11, q12, q13, q14⟩, hh.recv (C := RX11) (T := TX11) (N := 19) hB13 rfl (by decide) hg_r0 hK, fun U hU hW => ⟨rfl, hU, hh.2.1, hG.step hW hU hh.1, (hK7.step hW hU hh.1), hg_r0, jP.nil, (hh.2.2.2.2.2.2.2.2.sub (L1 := [(jFl, jLs dC dI ca G0 3 none)]) [0] rfl), trivial⟩⟩ rfl rfl hl.1 rfl (lv_room (Nat.le_of_ble_eq_true rfl)) dX11_aimAtPlace_1 ⟨Nat.zero_le _, Nat.zero_le _⟩) hh.1 (fun q _ h => h) (fun q h => h) (fun r_2 u_1 t_1 H_1 locs_1 ht_1 hvm_1 hr_2 hb_1 hz_1 hk_1 hS_1 => ?_)
  rw [ht_1] at hb_1
  obtain ⟨hb_1, hbE_1⟩ := hb_1
  obtain ⟨hb_11, hb_12, hb_13, hb_14, hb_15⟩ := hb_1
  have hh_1 : jSt (dC, dI) B base G0 G0 EX11_aimAtPlace s.heap 0 0 [] [] [(jFl, jLs dC dI ca G0 3 none)] H_1 locs_1 := (((hh.call hb_11 hb_12 hb_13 hb_14 hS_1 rfl (L1 := []) [] rfl rfl (M1 := []) [] rfl rfl (I1 := []) [] rfl rfl).more hb_15)).addIs hbE_1
  clear hh ht_1 hvm_1 hz_1 hk_1 hS_1 hb_11 hb_12 hb_13 hb_14 hb_15
  clear  hbE_1
  rcases hr_2 with rfl | ⟨ret_3, rfl, hg_ret_3⟩
  · skip
    refine j7_nst_n (lv' := [(2, .null), (0, .ref r0), (1, .ref r1)]) hx hb dX11_aimAtPlace_4 rfl hl (by decide) rfl (fun ls hl => ?_)
    refine lv_aload_n hx hb dX11_aimAtPlace_5 rfl (lv_at hl 1 rfl) ?_
    obtain ⟨v_4, hv_4, hh_5⟩ := hh_1.pin (C := RX11) (T := TX11) (N := 19) hB13 rfl (by decide) hg_r0 (i := 2) (by decide) rfl
    clear hh_1
    obtain ⟨json_6, rfl, hg_json_6⟩ := hv_4
    refine j7_read hx hb hown hK (C := RX11) (T := TX11) (N := 19) rfl hly_13_2 hlk_28 (hh_5.at 0 rfl) dX11_aimAtPlace_6 ?_
    refine lv_aload_n hx hb dX11_aimAtPlace_9 rfl (lv_at hl 1 rfl) ?_
    refine j7_read hx hb hown hK (C := RX11) (T := TX11) (N := 19) rfl hly_13_2 hlk_28 (hh_5.at 0 rfl) dX11_aimAtPlace_10 ?_
    refine lv_iconst (v := 0) hx hb dX11_aimAtPlace_13 (by decide) ?_
    refine j_ldcSw hx hb hown rstr271 dX11_aimAtPlace_14 ?_
    refine va_calli (A0 := jA base) (H0 := s.heap) (va_runV (As := [.int 0, .ref str271]) (rest := [.ref json_6]) ⟨hx, hb, hml, hown, hts⟩ (uX4_member l dC dI ca base B hB hAp hB6 hB140 hB141 hB142 hB143 hB144 hB145 hB146 G0 H_1 json_6 0 str271 6) (cwV 2 hts (jgV (jWr_23 _ (List.mem_of_getElem? (i := 10) rfl)) (jWr_23 _ (List.mem_of_getElem? (i := 11) rfl)) (jWr_23 _ (List.mem_of_getElem? (i := 12) rfl)) (jWr_1 _ (List.mem_of_getElem? (i := 22) rfl)) (jWr_23 _ (List.mem_of_getElem? (i := 13) rfl))) rfl rfl rfl (by decide +kernel) ⟨by rw [← hR]; exact Nat.le_of_ble_eq_true rfl, by rw [← hR]; exact Nat.le_of_ble_eq_true rfl⟩) ⟨fun a U g mk q => by obtain ⟨q0, q1, q2, qK, q10, q11, q12, q13⟩ := q; exact ⟨q0, q1, q2, jG.calling g mk a qK, (q10.moved (Vm.Alike.refl U.vm)), q11, q12, q13⟩, hh_5.recv (C := RX4) (T := TX4) (N := 12) hB6 rfl (by decide) hg_json_6 hK, fun U hU hW => ⟨rfl, hU, hh_5.2.1, hG.step hW hU hh_5.1, (hstr271.moved hW.alike).kept hh_5.1.2.1, hg_json_6, jP.nil, by first | omega | rfl | assumption | decide | exact Or.inl rfl | exact Or.inr rfl | (simp only; omega)⟩⟩ rfl rfl hl.1 rfl (lv_room (Nat.le_of_ble_eq_true rfl)) dX11_aimAtPlace_17 ⟨Nat.zero_le _, Nat.zero_le _⟩) hh_5.1 (fun q _ h => h) (fun q h => h) (fun r_8 u_7 t_7 H_7 locs_7 ht_7 hvm_7 hr_8 hb_7 hz_7 hk_7 hS_7 => ?_)
    rw [ht_7] at hb_7
    obtain ⟨hb_71, hb_72, hb_73, hb_74, hb_75⟩ := hb_7
    have hh_7 : jSt (dC, dI) B base G0 G0 EX11_aimAtPlace s.heap 0 0 [(r0, 13, 2, .ref json_6)] [] [(jFl, jLs dC dI ca G0 3 none)] H_7 locs_7 := ((hh_5.call hb_71 hb_72 hb_73 hb_74 hS_7 rfl (L1 := [(r0, 13, 2, .ref json_6)]) [0] rfl rfl (M1 := []) [] rfl rfl (I1 := [(jFl, jLs dC dI ca G0 3 none)]) [0] rfl rfl).more hb_75)
    clear hh_5 ht_7 hvm_7 hz_7 hk_7 hS_7 hb_71 hb_72 hb_73 hb_74 hb_75
    obtain ⟨hr_8_0, hr_8_1⟩ := hr_8
    refine j_ldcSw hx hb hown rstr430 dX11_aimAtPlace_20 ?_
    refine va_calli (A0 := jA base) (H0 := s.heap) (va_runV (As := [.int r_8, .ref str430]) (rest := []) ⟨hx, hb, hml, hown, hts⟩ (uX4_member l dC dI ca base B hB hAp hB6 hB140 hB141 hB142 hB143 hB144 hB145 hB146 G0 H_7 json_6 r_8 str430 8) (cwV 2 hts (jgV (jWr_23 _ (List.mem_of_getElem? (i := 10) rfl)) (jWr_23 _ (List.mem_of_getElem? (i := 11) rfl)) (jWr_23 _ (List.mem_of_getElem? (i := 12) rfl)) (jWr_1 _ (List.mem_of_getElem? (i := 22) rfl)) (jWr_23 _ (List.mem_of_getElem? (i := 13) rfl))) rfl rfl rfl (by decide +kernel) ⟨by rw [← hR]; exact Nat.le_of_ble_eq_true rfl, by rw [← hR]; exact Nat.le_of_ble_eq_true rfl⟩) ⟨fun a U g mk q => by obtain ⟨q0, q1, q2, qK, q10, q11, q12, q13⟩ := q; exact ⟨q0, q1, q2, jG.calling g mk a qK, (q10.moved (Vm.Alike.refl U.vm)), q11, q12, q13⟩, hh_7.recv (C := RX4) (T := TX4) (N := 12) hB6 rfl (by decide) hg_json_6 hK, fun U hU hW => ⟨rfl, hU, hh_7.2.1, hG.step hW hU hh_7.1, (hstr430.moved hW.alike).kept hh_7.1.2.1, hg_json_6, jP.nil, by first | omega | rfl | assumption | decide | exact Or.inl rfl | exact Or.inr rfl | (simp only; omega)⟩⟩ rfl rfl hl.1 rfl (lv_room (Nat.le_of_ble_eq_true rfl)) dX11_aimAtPlace_23 ⟨Nat.zero_le _, Nat.zero_le _⟩) hh_7.1 (fun q _ h => h) (fun q h => h) (fun r_10 u_9 t_9 H_9 locs_9 ht_9 hvm_9 hr_10 hb_9 hz_9 hk_9 hS_9 => ?_)
    rw [ht_9] at hb_9
    obtain ⟨hb_91, hb_92, hb_93, hb_94, hb_95⟩ := hb_9
    have hh_9 : jSt (dC, dI) B base G0 G0 EX11_aimAtPlace s.heap 0 0 [(r0, 13, 2, .ref json_6)] [] [(jFl, jLs dC dI ca G0 3 none)] H_9 locs_9 := ((hh_7.call hb_91 hb_92 hb_93 hb_94 hS_9 rfl (L1 := [(r0, 13, 2, .ref json_6)]) [0] rfl rfl (M1 := []) [] rfl rfl (I1 := [(jFl, jLs dC dI ca G0 3 none)]) [0] rfl rfl).more hb_95)
    clear hh_7 ht_9 hvm_9 hz_9 hk_9 hS_9 hb_91 hb_92 hb_93 hb_94 hb_95
    obtain ⟨hr_10_0, hr_10_1⟩ := hr_10
    refine lv_istore_n (lv' := [(3, .int r_10), (2, .null), (0, .ref r0), (1, .ref r1)]) hx hb dX11_aimAtPlace_26 rfl hl (by decide) rfl (fun ls hl => ?_)
    refine j7_nld_n hx hb dX11_aimAtPlace_27 rfl (lv_at hl 1 rfl) ?_
    refine lv_ifnonnullN hx hb dX11_aimAtPlace_28 ?_
    refine lv_iconst (v := (-1)) hx hb dX11_aimAtPlace_31 (by decide) ?_
    refine lv_goto (tgt := 41) hx hb dX11_aimAtPlace_32 (by decide) ?_
    refine lv_istore (lv' := [(4, .int (-1)), (3, .int r_10), (2, .null), (0, .ref r0), (1, .ref r1)]) hx hb dX11_aimAtPlace_41 hl (by decide) rfl (fun ls hl => ?_)
    refine lv_iload hx hb dX11_aimAtPlace_43 (lv_at hl 0 rfl) ?_
    refine lv_if_ge (tgt := 50) hx hb dX11_aimAtPlace_45 (by decide) (fun c_11 => ?_) (fun c_11 => ?_)
    · skip
      exact absurd c_11 (by decide)
    · skip
      refine lv_iconst (v := 0) hx hb dX11_aimAtPlace_48 (by decide) ?_
      rw [hQ]
      exact W.zret (v := 0) hx hb hr (jb_nz (Or.inl rfl)) (fun t ht hW => ⟨⟨0, (), rfl, ⟨(Or.inl rfl), trivial⟩, ⟨hh_9.rt (M1 := []) [] rfl ht, by rw [ht]; exact hh_9.2.2.2.2.2.2.2.2.sub (L1 := [(jFl, jLs dC dI ca G0 3 none)]) [0] rfl⟩⟩, by rw [ht]; try exact hh_9.1.1, fun q h9 hq => by rw [ht]; try exact hh_9.1.2.1 q h9 hq⟩) hh_9.1.2.2 dX11_aimAtPlace_49
  · skip
    refine lv_astore_n (lv' := [(2, .ref ret_3), (0, .ref r0), (1, .ref r1)]) hx hb dX11_aimAtPlace_4 rfl hl (by decide) rfl (fun ls hl => ?_)
    refine lv_aload_n hx hb dX11_aimAtPlace_5 rfl (lv_at hl 1 rfl) ?_
    obtain ⟨v_12, hv_12, hh_13⟩ := hh_1.pin (C := RX11) (T := TX11) (N := 19) hB13 rfl (by decide) hg_r0 (i := 2) (by decide) rfl
    clear hh_1
    obtain ⟨json_14, rfl, hg_json_14⟩ := hv_12
    refine j7_read hx hb hown hK (C := RX11) (T := TX11) (N := 19) rfl hly_13_2 hlk_28 (hh_13.at 0 rfl) dX11_aimAtPlace_6 ?_
    refine lv_aload_n hx hb dX11_aimAtPlace_9 rfl (lv_at hl 1 rfl) ?_
    refine j7_read hx hb hown hK (C := RX11) (T := TX11) (N := 19) rfl hly_13_2 hlk_28 (hh_13.at 0 rfl) dX11_aimAtPlace_10 ?_
    refine lv_iconst (v := 0) hx hb dX11_aimAtPlace_13 (by decide) ?_
    refine j_ldcSw hx hb hown rstr271 dX11_aimAtPlace_14 ?_
    refine va_calli (A0 := jA base) (H0 := s.heap) (va_runV (As := [.int 0, .ref str271]) (rest := [.ref json_14]) ⟨hx, hb, hml, hown, hts⟩ (uX4_member l dC dI ca base B hB hAp hB6 hB140 hB141 hB142 hB143 hB144 hB145 hB146 G0 H_1 json_14 0 str271 6) (cwV 2 hts (jgV (jWr_23 _ (List.mem_of_getElem? (i := 10) rfl)) (jWr_23 _ (List.mem_of_getElem? (i := 11) rfl)) (jWr_23 _ (List.mem_of_getElem? (i := 12) rfl)) (jWr_1 _ (List.mem_of_getElem? (i := 22) rfl)) (jWr_23 _ (List.mem_of_getElem? (i := 13) rfl))) rfl rfl rfl (by decide +kernel) ⟨by rw [← hR]; exact Nat.le_of_ble_eq_true rfl, by rw [← hR]; exact Nat.le_of_ble_eq_true rfl⟩) ⟨fun a U g mk q => by obtain ⟨q0, q1, q2, qK, q10, q11, q12, q13⟩ := q; exact ⟨q0, q1, q2, jG.calling g mk a qK, (q10.moved (Vm.Alike.refl U.vm)), q11, q12, q13⟩, hh_13.recv (C := RX4) (T := TX4) (N := 12) hB6 rfl (by decide) hg_json_14 hK, fun U hU hW => ⟨rfl, hU, hh_13.2.1, hG.step hW hU hh_13.1, (hstr271.moved hW.alike).kept hh_13.1.2.1, hg_json_14, jP.nil, by first | omega | rfl | assumption | decide | exact Or.inl rfl | exact Or.inr rfl | (simp only; omega)⟩⟩ rfl rfl hl.1 rfl (lv_room (Nat.le_of_ble_eq_true rfl)) dX11_aimAtPlace_17 ⟨Nat.zero_le _, Nat.zero_le _⟩) hh_13.1 (fun q _ h => h) (fun q h => h) (fun r_16 u_15 t_15 H_15 locs_15 ht_15 hvm_15 hr_16 hb_15 hz_15 hk_15 hS_15 => ?_)
    rw [ht_15] at hb_15
    obtain ⟨hb_151, hb_152, hb_153, hb_154, hb_155⟩ := hb_15
    have hh_15 : jSt (dC, dI) B base G0 G0 EX11_aimAtPlace s.heap 0 0 [(r0, 13, 2, .ref json_14)] [] [(jFl, jLs dC dI ca G0 3 none)] H_15 locs_15 := ((hh_13.call hb_151 hb_152 hb_153 hb_154 hS_15 rfl (L1 := [(r0, 13, 2, .ref json_14)]) [0] rfl rfl (M1 := []) [] rfl rfl (I1 := [(jFl, jLs dC dI ca G0 3 none)]) [0] rfl rfl).more hb_155)
    clear hh_13 ht_15 hvm_15 hz_15 hk_15 hS_15 hb_151 hb_152 hb_153 hb_154 hb_155
    obtain ⟨hr_16_0, hr_16_1⟩ := hr_16
    refine j_ldcSw hx hb hown rstr430 dX11_aimAtPlace_20 ?_
    refine va_calli (A0 := jA base) (H0 := s.heap) (va_runV (As := [.int r_16, .ref str430]) (rest := []) ⟨hx, hb, hml, hown, hts⟩ (uX4_member l dC dI ca base B hB hAp hB6 hB140 hB141 hB142 hB143 hB144 hB145 hB146 G0 H_15 json_14 r_16 str430 8) (cwV 2 hts (jgV (jWr_23 _ (List.mem_of_getElem? (i := 10) rfl)) (jWr_23 _ (List.mem_of_getElem? (i := 11) rfl)) (jWr_23 _ (List.mem_of_getElem? (i := 12) rfl)) (jWr_1 _ (List.mem_of_getElem? (i := 22) rfl)) (jWr_23 _ (List.mem_of_getElem? (i := 13) rfl))) rfl rfl rfl (by decide +kernel) ⟨by rw [← hR]; exact Nat.le_of_ble_eq_true rfl, by rw [← hR]; exact Nat.le_of_ble_eq_true rfl⟩) ⟨fun a U g mk q => by obtain ⟨q0, q1, q2, qK, q10, q11, q12, q13⟩ := q; exact ⟨q0, q1, q2, jG.calling g mk a qK, (q10.moved (Vm.Alike.refl U.vm)), q11, q12, q13⟩, hh_15.recv (C := RX4) (T := TX4) (N := 12) hB6 rfl (by decide) hg_json_14 hK, fun U hU hW => ⟨rfl, hU, hh_15.2.1, hG.step hW hU hh_15.1, (hstr430.moved hW.alike).kept hh_15.1.2.1, hg_json_14, jP.nil, by first | omega | rfl | assumption | decide | exact Or.inl rfl | exact Or.inr rfl | (simp only; omega)⟩⟩ rfl rfl hl.1 rfl (lv_room (Nat.le_of_ble_eq_true rfl)) dX11_aimAtPlace_23 ⟨Nat.zero_le _, Nat.zero_le _⟩) hh_15.1 (fun q _ h => h) (fun q h => h) (fun r_18 u_17 t_17 H_17 locs_17 ht_17 hvm_17 hr_18 hb_17 hz_17 hk_17 hS_17 => ?_)
    rw [ht_17] at hb_17
    obtain ⟨hb_171, hb_172, hb_173, hb_174, hb_175⟩ := hb_17
    have hh_17 : jSt (dC, dI) B base G0 G0 EX11_aimAtPlace s.heap 0 0 [(r0, 13, 2, .ref json_14)] [] [(jFl, jLs dC dI ca G0 3 none)] H_17 locs_17 := ((hh_15.call hb_171 hb_172 hb_173 hb_174 hS_17 rfl (L1 := [(r0, 13, 2, .ref json_14)]) [0] rfl rfl (M1 := []) [] rfl rfl (I1 := [(jFl, jLs dC dI ca G0 3 none)]) [0] rfl rfl).more hb_175)
    clear hh_15 ht_17 hvm_17 hz_17 hk_17 hS_17 hb_171 hb_172 hb_173 hb_174 hb_175
    obtain ⟨hr_18_0, hr_18_1⟩ := hr_18
    refine lv_istore_n (lv' := [(3, .int r_18), (2, .ref ret_3), (0, .ref r0), (1, .ref r1)]) hx hb dX11_aimAtPlace_26 rfl hl (by decide) rfl (fun ls hl => ?_)
    refine lv_aload_n hx hb dX11_aimAtPlace_27 rfl (lv_at hl 1 rfl) ?_
    refine lv_ifnonnull (tgt := 35) hx hb dX11_aimAtPlace_28 (by decide) ?_
    refine lv_aload_n hx hb dX11_aimAtPlace_35 rfl (lv_at hl 2 rfl) ?_
    refine lv_iload_n hx hb dX11_aimAtPlace_36 rfl (lv_at hl 0 rfl) ?_
    refine lv_aload_n hx hb dX11_aimAtPlace_37 rfl (lv_at hl 1 rfl) ?_
    refine va_calli (A0 := jA base) (H0 := s.heap) (va_runV (As := [.int r_18, .ref ret_3]) (rest := []) ⟨hx, hb, hml, hown, hts⟩ (uX11_placeTold l dC dI ca base B hB hAp hB3 hB6 hB13 hB101 hB140 hB141 hB142 hB143 hB144 hB145 hB146 G0 H_17 r0 r_18 ret_3 0) (cwV 2 hts (jgV (jWr_28 _ (List.mem_of_getElem? (i := 20) rfl)) (jWr_28 _ (List.mem_of_getElem? (i := 21) rfl)) (jWr_28 _ (List.mem_of_getElem? (i := 22) rfl)) (jWr_1 _ (List.mem_of_getElem? (i := 2) rfl)) (jWr_28 _ (List.mem_of_getElem? (i := 23) rfl))) rfl rfl rfl (by decide +kernel) ⟨by rw [← hR]; exact Nat.le_of_ble_eq_true rfl, by rw [← hR]; exact Nat.le_of_ble_eq_true rfl⟩) ⟨fun a U g mk q => by obtain ⟨q0, q1, q2, qK, q10, q11, q12, q13⟩ := q; exact ⟨q0, q1, q2, jG.calling g mk a qK, q10, q11, q12, q13⟩, hh_17.recv (C := RX11) (T := TX11) (N := 19) hB13 rfl (by decide) hg_r0 hK, fun U hU hW => ⟨rfl, hU, hh_17.2.1, hG.step hW hU hh_17.1, hg_r0, hg_ret_3, jP.nil, trivial⟩⟩ rfl rfl hl.1 rfl (lv_room (Nat.le_of_ble_eq_true rfl)) dX11_aimAtPlace_38 ⟨Nat.zero_le _, Nat.zero_le _⟩) hh_17.1 (fun q _ h => h) (fun q h => h) (fun r_20 u_19 t_19 H_19 locs_19 ht_19 hvm_19 hr_20 hb_19 hz_19 hk_19 hS_19 => ?_)
    rw [ht_19] at hb_19
    obtain ⟨hb_191, hb_192, hb_193, hb_194, hb_195⟩ := hb_19
    have hh_19 : jSt (dC, dI) B base G0 G0 EX11_aimAtPlace s.heap 0 0 [(r0, 13, 2, .ref json_14)] [] [(jFl, jLs dC dI ca G0 3 none)] H_19 locs_19 := ((hh_17.call hb_191 hb_192 hb_193 hb_194 hS_19 rfl (L1 := [(r0, 13, 2, .ref json_14)]) [0] rfl rfl (M1 := []) [] rfl rfl (I1 := [(jFl, jLs dC dI ca G0 3 none)]) [0] rfl rfl).more hb_195)
    clear hh_17 ht_19 hvm_19 hz_19 hk_19 hS_19 hb_191 hb_192 hb_193 hb_194 hb_195
    refine lv_istore (lv' := [(4, .int r_20), (3, .int r_18), (2, .ref ret_3), (0, .ref r0), (1, .ref r1)]) hx hb dX11_aimAtPlace_41 hl (by decide) rfl (fun ls hl => ?_)
    refine lv_iload hx hb dX11_aimAtPlace_43 (lv_at hl 0 rfl) ?_
    refine lv_if_ge (tgt := 50) hx hb dX11_aimAtPlace_45 (by decide) (fun c_21 => ?_) (fun c_21 => ?_)
    · skip
      have c_21' : r_20.toInt ≥ 0 := jb_ge (rfl) ((by decide)) c_21
      refine lv_aload_n hx hb dX11_aimAtPlace_50 rfl (lv_at hl 4 rfl) ?_
      refine lv_aload_n hx hb dX11_aimAtPlace_51 rfl (lv_at hl 2 rfl) ?_
      refine j7_put hx hb hown hK hh_19 hB hAp hB10 (C := RX8) (T := TX8) (N := 5) rfl (by decide) hg_r1 (i := 1) (by decide) hly_10_1 rfl hlk_432 rfl (ty := (.object "ProofServer$Document")) (v := .ref ret_3) (by decide +kernel) rfl rfl (Or.inr ⟨_, rfl, hg_ret_3⟩) rfl (L1 := [(r0, 13, 2, .ref json_14)]) [0] rfl rfl rfl dX11_aimAtPlace_52 (fun H_22 locs_22 hh_22 => ?_)
      clear hh_19
      refine lv_aload_n hx hb dX11_aimAtPlace_55 rfl (lv_at hl 4 rfl) ?_
      refine lv_aload_n hx hb dX11_aimAtPlace_56 rfl (lv_at hl 2 rfl) ?_
      refine lv_iload hx hb dX11_aimAtPlace_57 (lv_at hl 0 rfl) ?_
      refine va_calli (A0 := jA base) (H0 := s.heap) (va_runV (As := [.int r_20]) (rest := [.ref r1]) ⟨hx, hb, hml, hown, hts⟩ (uX1_endedBy l dC dI ca base B hB hAp hB3 hB172 G0 H_22 ret_3 r_20) (cwV 1 hts (jgV (jWr_29 _ (List.mem_of_getElem? (i := 10) rfl)) (jWr_29 _ (List.mem_of_getElem? (i := 11) rfl)) (jWr_29 _ (List.mem_of_getElem? (i := 12) rfl)) (jWr_2 _ (List.mem_of_getElem? (i := 21) rfl)) (jWr_29 _ (List.mem_of_getElem? (i := 13) rfl))) rfl rfl rfl (by decide +kernel) ⟨by rw [← hR]; exact Nat.le_of_ble_eq_true rfl, by rw [← hR]; exact Nat.le_of_ble_eq_true rfl⟩) ⟨fun a U g mk q => by obtain ⟨q0, q1, q2, qK, q10, q11, q12⟩ := q; exact ⟨q0, q1, q2, jG.calling g mk a qK, q10, q11, q12⟩, hh_22.recv (C := RX1) (T := TX1) (N := 17) hB3 rfl (by decide) hg_ret_3 hK, fun U hU hW => ⟨rfl, hU, hh_22.2.1, hG.step hW hU hh_22.1, hg_ret_3, jP.nil, trivial⟩⟩ rfl rfl hl.1 rfl (lv_room (Nat.le_of_ble_eq_true rfl)) dX11_aimAtPlace_59 ⟨Nat.zero_le _, Nat.zero_le _⟩) hh_22.1 (fun q _ h => h) (fun q h => h) (fun r_24 u_23 t_23 H_23 locs_23 ht_23 hvm_23 hr_24 hb_23 hz_23 hk_23 hS_23 => ?_)
      rw [ht_23] at hb_23
      obtain ⟨hb_231, hb_232, hb_233, hb_234, hb_235⟩ := hb_23
      have hh_23 : jSt (dC, dI) B base G0 G0 EX11_aimAtPlace s.heap 0 0 [(r1, 10, 1, .ref ret_3), (r0, 13, 2, .ref json_14)] [] [(jFl, jLs dC dI ca G0 3 none)] H_23 locs_23 := ((hh_22.call hb_231 hb_232 hb_233 hb_234 hS_23 rfl (L1 := [(r1, 10, 1, .ref ret_3), (r0, 13, 2, .ref json_14)]) [0, 1] rfl rfl (M1 := []) [] rfl rfl (I1 := [(jFl, jLs dC dI ca G0 3 none)]) [0] rfl rfl).more hb_235)
      clear hh_22 ht_23 hvm_23 hz_23 hk_23 hS_23 hb_231 hb_232 hb_233 hb_234 hb_235
      obtain ⟨hr_24_0, hr_24_1⟩ := hr_24
      refine j7_put hx hb hown hK hh_23 hB hAp hB10 (C := RX8) (T := TX8) (N := 5) rfl (by decide) hg_r1 (i := 2) (by decide) hly_10_2 rfl hlk_438 rfl (ty := .int) (v := .int r_24) (by decide +kernel) rfl rfl (⟨_, rfl⟩) rfl (L1 := [(r1, 10, 1, .ref ret_3), (r0, 13, 2, .ref json_14)]) [0, 1] rfl rfl rfl dX11_aimAtPlace_62 (fun H_25 locs_25 hh_25 => ?_)
      clear hh_23
      refine lv_iconst (v := 1) hx hb dX11_aimAtPlace_65 (by decide) ?_
      rw [hQ]
      exact W.zret (v := 1) hx hb hr (jb_nz (Or.inr rfl)) (fun t ht hW => ⟨⟨1, (), rfl, ⟨(Or.inr rfl), trivial⟩, ⟨hh_25.rt (M1 := []) [] rfl ht, by rw [ht]; exact hh_25.2.2.2.2.2.2.2.2.sub (L1 := [(jFl, jLs dC dI ca G0 3 none)]) [0] rfl⟩⟩, by rw [ht]; try exact hh_25.1.1, fun q h9 hq => by rw [ht]; try exact hh_25.1.2.1 q h9 hq⟩) hh_25.1.2.2 dX11_aimAtPlace_66
    · skip
      have c_21' : r_20.toInt < 0 := jb_ge_n (rfl) ((by decide)) c_21
      refine lv_iconst (v := 0) hx hb dX11_aimAtPlace_48 (by decide) ?_
      rw [hQ]
      exact W.zret (v := 0) hx hb hr (jb_nz (Or.inl rfl)) (fun t ht hW => ⟨⟨0, (), rfl, ⟨(Or.inl rfl), trivial⟩, ⟨hh_19.rt (M1 := []) [] rfl ht, by rw [ht]; exact hh_19.2.2.2.2.2.2.2.2.sub (L1 := [(jFl, jLs dC dI ca G0 3 none)]) [0] rfl⟩⟩, by rw [ht]; try exact hh_19.1.1, fun q h9 hq => by rw [ht]; try exact hh_19.1.2.1 q h9 hq⟩) hh_19.1.2.2 dX11_aimAtPlace_49
