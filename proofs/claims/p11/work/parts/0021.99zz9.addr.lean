section
theorem dX11_addressed_0 : decode cX11_addressed 0 = .ok (.aload_n 0, 1) := by decide +kernel
theorem dX11_addressed_1 : decode cX11_addressed 1 = .ok (.getfield 28, 3) := by decide +kernel
theorem dX11_addressed_4 : decode cX11_addressed 4 = .ok (.aload_n 0, 1) := by decide +kernel
theorem dX11_addressed_5 : decode cX11_addressed 5 = .ok (.getfield 28, 3) := by decide +kernel
theorem dX11_addressed_8 : decode cX11_addressed 8 = .ok (.aload_n 0, 1) := by decide +kernel
theorem dX11_addressed_9 : decode cX11_addressed 9 = .ok (.getfield 28, 3) := by decide +kernel
theorem dX11_addressed_12 : decode cX11_addressed 12 = .ok (.iconst 0, 1) := by decide +kernel
theorem dX11_addressed_13 : decode cX11_addressed 13 = .ok (.ldc_w 271, 3) := by decide +kernel
theorem dX11_addressed_16 : decode cX11_addressed 16 = .ok (.invokevirtual 260, 3) := by decide +kernel
theorem dX11_addressed_19 : decode cX11_addressed 19 = .ok (.ldc_w 344, 3) := by decide +kernel
theorem dX11_addressed_22 : decode cX11_addressed 22 = .ok (.invokevirtual 260, 3) := by decide +kernel
theorem dX11_addressed_25 : decode cX11_addressed 25 = .ok (.ldc_w 346, 3) := by decide +kernel
theorem dX11_addressed_28 : decode cX11_addressed 28 = .ok (.invokevirtual 260, 3) := by decide +kernel
theorem dX11_addressed_31 : decode cX11_addressed 31 = .ok (.istore_n 1, 1) := by decide +kernel
theorem dX11_addressed_32 : decode cX11_addressed 32 = .ok (.iconst 0, 1) := by decide +kernel
theorem dX11_addressed_33 : decode cX11_addressed 33 = .ok (.istore_n 2, 1) := by decide +kernel
theorem dX11_addressed_34 : decode cX11_addressed 34 = .ok (.iload_n 2, 1) := by decide +kernel
theorem dX11_addressed_35 : decode cX11_addressed 35 = .ok (.aload_n 0, 1) := by decide +kernel
theorem dX11_addressed_36 : decode cX11_addressed 36 = .ok (.getfield 61, 3) := by decide +kernel
theorem dX11_addressed_39 : decode cX11_addressed 39 = .ok (.invokeinterface 142 1, 5) := by decide +kernel
theorem dX11_addressed_44 : decode cX11_addressed 44 = .ok (.if_icmp .ge 50, 3) := by decide +kernel
theorem dX11_addressed_47 : decode cX11_addressed 47 = .ok (.aload_n 0, 1) := by decide +kernel
theorem dX11_addressed_48 : decode cX11_addressed 48 = .ok (.getfield 28, 3) := by decide +kernel
theorem dX11_addressed_51 : decode cX11_addressed 51 = .ok (.iload_n 1, 1) := by decide +kernel
theorem dX11_addressed_52 : decode cX11_addressed 52 = .ok (.aload_n 0, 1) := by decide +kernel
theorem dX11_addressed_53 : decode cX11_addressed 53 = .ok (.getfield 61, 3) := by decide +kernel
theorem dX11_addressed_56 : decode cX11_addressed 56 = .ok (.iload_n 2, 1) := by decide +kernel
theorem dX11_addressed_57 : decode cX11_addressed 57 = .ok (.invokeinterface 249 2, 5) := by decide +kernel
theorem dX11_addressed_62 : decode cX11_addressed 62 = .ok (.checkcast 71, 3) := by decide +kernel
theorem dX11_addressed_65 : decode cX11_addressed 65 = .ok (.getfield 348, 3) := by decide +kernel
theorem dX11_addressed_68 : decode cX11_addressed 68 = .ok (.invokevirtual 350, 3) := by decide +kernel
theorem dX11_addressed_71 : decode cX11_addressed 71 = .ok (.ifCond .eq 17, 3) := by decide +kernel
theorem dX11_addressed_74 : decode cX11_addressed 74 = .ok (.aload_n 0, 1) := by decide +kernel
theorem dX11_addressed_75 : decode cX11_addressed 75 = .ok (.getfield 61, 3) := by decide +kernel
theorem dX11_addressed_78 : decode cX11_addressed 78 = .ok (.iload_n 2, 1) := by decide +kernel
theorem dX11_addressed_79 : decode cX11_addressed 79 = .ok (.invokeinterface 249 2, 5) := by decide +kernel
theorem dX11_addressed_84 : decode cX11_addressed 84 = .ok (.checkcast 71, 3) := by decide +kernel
theorem dX11_addressed_87 : decode cX11_addressed 87 = .ok (.areturn, 1) := by decide +kernel
theorem dX11_addressed_88 : decode cX11_addressed 88 = .ok (.iinc 2 1, 3) := by decide +kernel
theorem dX11_addressed_91 : decode cX11_addressed 91 = .ok (.goto (-57), 3) := by decide +kernel
theorem dX11_addressed_94 : decode cX11_addressed 94 = .ok (.aconst_null, 1) := by decide +kernel
theorem dX11_addressed_95 : decode cX11_addressed 95 = .ok (.areturn, 1) := by decide +kernel
theorem dX11_placeTold_0 : decode cX11_placeTold 0 = .ok (.aload_n 0, 1) := by decide +kernel
theorem dX11_placeTold_1 : decode cX11_placeTold 1 = .ok (.getfield 28, 3) := by decide +kernel
theorem dX11_placeTold_4 : decode cX11_placeTold 4 = .ok (.iload_n 1, 1) := by decide +kernel
theorem dX11_placeTold_5 : decode cX11_placeTold 5 = .ok (.ldc_w 415, 3) := by decide +kernel
theorem dX11_placeTold_8 : decode cX11_placeTold 8 = .ok (.invokevirtual 260, 3) := by decide +kernel
theorem dX11_placeTold_11 : decode cX11_placeTold 11 = .ok (.istore_n 3, 1) := by decide +kernel
theorem dX11_placeTold_12 : decode cX11_placeTold 12 = .ok (.aload_n 0, 1) := by decide +kernel
theorem dX11_placeTold_13 : decode cX11_placeTold 13 = .ok (.getfield 28, 3) := by decide +kernel
theorem dX11_placeTold_16 : decode cX11_placeTold 16 = .ok (.iload_n 1, 1) := by decide +kernel
theorem dX11_placeTold_17 : decode cX11_placeTold 17 = .ok (.ldc_w 417, 3) := by decide +kernel
theorem dX11_placeTold_20 : decode cX11_placeTold 20 = .ok (.invokevirtual 260, 3) := by decide +kernel
theorem dX11_placeTold_23 : decode cX11_placeTold 23 = .ok (.istore 4, 2) := by decide +kernel
theorem dX11_placeTold_25 : decode cX11_placeTold 25 = .ok (.aload_n 0, 1) := by decide +kernel
theorem dX11_placeTold_26 : decode cX11_placeTold 26 = .ok (.getfield 28, 3) := by decide +kernel
theorem dX11_placeTold_29 : decode cX11_placeTold 29 = .ok (.iload_n 3, 1) := by decide +kernel
theorem dX11_placeTold_30 : decode cX11_placeTold 30 = .ok (.invokevirtual 283, 3) := by decide +kernel
theorem dX11_placeTold_33 : decode cX11_placeTold 33 = .ok (.iconst 4, 1) := by decide +kernel
theorem dX11_placeTold_34 : decode cX11_placeTold 34 = .ok (.if_icmp .ne 16, 3) := by decide +kernel
theorem dX11_placeTold_37 : decode cX11_placeTold 37 = .ok (.aload_n 0, 1) := by decide +kernel
theorem dX11_placeTold_38 : decode cX11_placeTold 38 = .ok (.getfield 28, 3) := by decide +kernel
theorem dX11_placeTold_41 : decode cX11_placeTold 41 = .ok (.iload 4, 2) := by decide +kernel
theorem dX11_placeTold_43 : decode cX11_placeTold 43 = .ok (.invokevirtual 283, 3) := by decide +kernel
theorem dX11_placeTold_46 : decode cX11_placeTold 46 = .ok (.iconst 4, 1) := by decide +kernel
theorem dX11_placeTold_47 : decode cX11_placeTold 47 = .ok (.if_icmp .eq 5, 3) := by decide +kernel
theorem dX11_placeTold_50 : decode cX11_placeTold 50 = .ok (.iconst (-1), 1) := by decide +kernel
theorem dX11_placeTold_51 : decode cX11_placeTold 51 = .ok (.ireturn, 1) := by decide +kernel
theorem dX11_placeTold_52 : decode cX11_placeTold 52 = .ok (.aload_n 2, 1) := by decide +kernel
theorem dX11_placeTold_53 : decode cX11_placeTold 53 = .ok (.aload_n 0, 1) := by decide +kernel
theorem dX11_placeTold_54 : decode cX11_placeTold 54 = .ok (.getfield 28, 3) := by decide +kernel
theorem dX11_placeTold_57 : decode cX11_placeTold 57 = .ok (.iload_n 3, 1) := by decide +kernel
theorem dX11_placeTold_58 : decode cX11_placeTold 58 = .ok (.invokevirtual 367, 3) := by decide +kernel
theorem dX11_placeTold_61 : decode cX11_placeTold 61 = .ok (.aload_n 0, 1) := by decide +kernel
theorem dX11_placeTold_62 : decode cX11_placeTold 62 = .ok (.getfield 28, 3) := by decide +kernel
theorem dX11_placeTold_65 : decode cX11_placeTold 65 = .ok (.iload 4, 2) := by decide +kernel
theorem dX11_placeTold_67 : decode cX11_placeTold 67 = .ok (.invokevirtual 367, 3) := by decide +kernel
theorem dX11_placeTold_70 : decode cX11_placeTold 70 = .ok (.invokevirtual 419, 3) := by decide +kernel
theorem dX11_placeTold_73 : decode cX11_placeTold 73 = .ok (.ireturn, 1) := by decide +kernel
def EX11_placeTold : List (Nat × Nat) := []
def EX11_addressed : List (Nat × Nat) := []
set_option maxHeartbeats 4000000 in
set_option maxRecDepth 20000 in
theorem uX11_placeTold (l : Launch) (dC : Nat → ClassId) (dI : Nat → Nat → Nat) (ca : Nat → ClassId) (base : Nat) (B : jF) (hB : jBok B) (hAp : jAp (dC, dI)) (hB3 : ∀ n G a H, B 3 n G a H ↔ jOb (dC, dI) 3 17 (F3 n G) a H) (hB6 : ∀ n G a H, B 6 n G a H ↔ jOb (dC, dI) 6 12 (F6 n G) a H) (hB13 : ∀ n G a H, B 13 n G a H ↔ jOb (dC, dI) 13 19 (F13 n G) a H) (hB101 : ∀ n G a H, B 101 n G a H ↔ jAr (dC, dI) (ca 1) (fun j z => True) n a H) (hB140 : ∀ n G a H, B 140 n G a H ↔ jAr (dC, dI) (ca 1) (fun j z => True) n a H) (hB141 : ∀ n G a H, B 141 n G a H ↔ jAr (dC, dI) (ca 1) (fun j z => True) n a H) (hB142 : ∀ n G a H, B 142 n G a H ↔ jAr (dC, dI) (ca 1) (fun j z => True) n a H) (hB143 : ∀ n G a H, B 143 n G a H ↔ jAr (dC, dI) (ca 1) (fun j z => True) n a H) (hB144 : ∀ n G a H, B 144 n G a H ↔ jAr (dC, dI) (ca 1) (fun j z => 0 ≤ z.toInt ∧ z.toInt ≤ 3000) n a H) (hB145 : ∀ n G a H, B 145 n G a H ↔ jAr (dC, dI) (ca 1) (fun j z => True) n a H) (hB146 : ∀ n G a H, B 146 n G a H ↔ jAr (dC, dI) (ca 1) (fun j z => True) n a H) (G0 : jT) (H0 : Heap) (r0 : Nat) (a1 : Int32) (r2 : Nat) (n2 : Nat) : Met l yX11_placeTold (jw yX11_placeTold cX11_placeTold 5 (some .int)) ({ frames := 6, cells := 0, slots := 0, locals := 190 }) (va_Pc [.ref r0, .int a1, .ref r2] (fun U => U.heap = H0 ∧ jX B base G0 [] H0 ∧ jG dC dI ca base U ∧ G0 r0 = some (13, 0) ∧ G0 r2 = some (3, n2) ∧ jP (dC, dI) G0 H0 [] ∧ True)) (va_Qi (S := Unit) (fun r u => (True)) (fun u t => jRt (dC, dI) B base G0 EX11_placeTold H0 [] t.heap) (jA base)) 0 0 (jA base) := by
  refine Met.ofW (cc := cX11_placeTold) (maxL := 5) (ret := (some .int)) (by decide) rfl ?_
  intro p e s m args below meth c s₁ Bd hml hv
  obtain ⟨rfl, hH0, hX, hG, hg_r0, hg_r2, hP0, hp0⟩ := hv
  have hK := hG.1
  have hx := Bd.exec
  have hb := Bd.bytes
  have hr := Bd.returns
  have hts := atoms_spec (ws := (jw yX11_placeTold cX11_placeTold 5 (some .int))) Bd.pre
  have htw : ∀ w ∈ jWl, w.before _ s = true := fun w h => hts w (List.mem_cons_of_mem _ h)
  have hown : s.vm.findClass RX11 = some m.cls := findClass_of_methodNamed Bd.named
  have hlocks := Bd.notSynchronized
  obtain ⟨Q, hQ⟩ : ∃ Q, Q = MQ below (va_Qi (S := Unit) (fun r u => (True)) (fun u t => jRt (dC, dI) B base G0 EX11_placeTold H0 [] t.heap) (jA base)) ([.ref r0, .int a1, .ref r2] : List Value).toArray s 0 0 (jA base) := ⟨_, rfl⟩
  rw [← hQ]
  have hl := lv_entry ([.ref r0, .int a1, .ref r2]) (n := 5) (Nat.le_of_ble_eq_true rfl)
  rw [lg_entry_eq]
  generalize (lg_sl ([.ref r0, .int a1, .ref r2]) ++ List.replicate (5 - (lg_sl ([.ref r0, .int a1, .ref r2])).length) Slot.unset).toArray = ls at hl ⊢
  have hl : lv_has ls 5 [(0, .ref r0), (1, .int a1), (2, .ref r2)] := hl
  generalize hR : (headSpec (jw yX11_placeTold cX11_placeTold 5 (some .int)) ({ frames := 6, cells := 0, slots := 0, locals := 190 })).room = R
  subst hH0
  have hh : jSt (dC, dI) B base G0 G0 EX11_placeTold s.heap 0 0 [] [] [] s.heap [] := jSt.start hX hP0 jMc.nil jIs.nil
  clear hX hP0
  have hkm1 : ((-1) : Int32).toInt = (-1) := by decide
  have hk0 : (0 : Int32).toInt = 0 := by decide
  have hk1 : (1 : Int32).toInt = 1 := by decide
  have hk4 : (4 : Int32).toInt = 4 := by decide
  have hly_13_2 := htw (u_lay RX11 TX11 2) (jWc_wsX110 _ (u_in_lay (by decide)))
  have hlk_28 := (htw (.fieldLink RX11 28 "ProofServer" "json" "LProofServer$Json;") (jWr_1 _ (List.mem_of_getElem? (i := 23) rfl)))
  obtain ⟨str415, rstr415, hstr4150⟩ := hG.str (o := RX11) (k := 415) (tx := "line") (List.mem_of_getElem? (i := 917) (by decide +kernel))
  have hstr415 : jStr base str415 4 s s.heap := hstr4150
  obtain ⟨str417, rstr417, hstr4170⟩ := hG.str (o := RX11) (k := 417) (tx := "character") (List.mem_of_getElem? (i := 918) (by decide +kernel))
  have hstr417 : jStr base str417 9 s s.heap := hstr4170
  have hrg_a1 := jb_rng a1
  refine lv_aload_n hx hb dX11_placeTold_0 rfl (lv_at hl 0 rfl) ?_
  obtain ⟨v_1, hv_1, hh_2⟩ := hh.pin (C := RX11) (T := TX11) (N := 19) hB13 rfl (by decide) hg_r0 (i := 2) (by decide) rfl
  clear hh
  obtain ⟨json_3, rfl, hg_json_3⟩ := hv_1
  refine j7_read hx hb hown hK (C := RX11) (T := TX11) (N := 19) rfl hly_13_2 hlk_28 (hh_2.at 0 rfl) dX11_placeTold_1 ?_
  refine lv_iload_n hx hb dX11_placeTold_4 rfl (lv_at hl 1 rfl) ?_
  refine j_ldcSw hx hb hown rstr415 dX11_placeTold_5 ?_
  refine va_calli (A0 := jA base) (H0 := s.heap) (va_runV (As := [.int a1, .ref str415]) (rest := []) ⟨hx, hb, hml, hown, hts⟩ (uX4_member l dC dI ca base B hB hAp hB6 hB140 hB141 hB142 hB143 hB144 hB145 hB146 G0 s.heap json_3 a1 str415 4) (cwV 2 hts (jgV (jWr_23 _ (List.mem_of_getElem? (i := 10) rfl)) (jWr_23 _ (List.mem_of_getElem? (i := 11) rfl)) (jWr_23 _ (List.mem_of_getElem? (i := 12) rfl)) (jWr_1 _ (List.mem_of_getElem? (i := 22) rfl)) (jWr_23 _ (List.mem_of_getElem? (i := 13) rfl))) rfl rfl rfl (by decide +kernel) ⟨by rw [← hR]; exact Nat.le_of_ble_eq_true rfl, by rw [← hR]; exact Nat.le_of_ble_eq_true rfl⟩) ⟨fun a U g mk q => by obtain ⟨q0, q1, q2, qK, q10, q11, q12, q13⟩ := q; exact ⟨q0, q1, q2, jG.calling g mk a qK, (q10.moved (Vm.Alike.refl U.vm)), q11, q12, q13⟩, hh_2.recv (C := RX4) (T := TX4) (N := 12) hB6 rfl (by decide) hg_json_3 hK, fun U hU hW => ⟨rfl, hU, hh_2.2.1, hG.step hW hU hh_2.1, (hstr415.moved hW.alike).kept hh_2.1.2.1, hg_json_3, jP.nil, by first | omega | rfl | assumption | decide | exact Or.inl rfl | exact Or.inr rfl | (simp only; omega)⟩⟩ rfl rfl hl.1 rfl (lv_room (Nat.le_of_ble_eq_true rfl)) dX11_placeTold_8 ⟨Nat.zero_le _, Nat.zero_le _⟩) hh_2.1 (fun q _ h => h) (fun q h => h) (fun r_5 u_4 t_4 H_4 locs_4 ht_4 hvm_4 hr_5 hb_4 hz_4 hk_4 hS_4 => ?_)
  rw [ht_4] at hb_4
  obtain ⟨hb_41, hb_42, hb_43, hb_44, hb_45⟩ := hb_4
  have hh_4 : jSt (dC, dI) B base G0 G0 EX11_placeTold s.heap 0 0 [(r0, 13, 2, .ref json_3)] [] [] H_4 locs_4 := ((hh_2.call hb_41 hb_42 hb_43 hb_44 hS_4 rfl (L1 := [(r0, 13, 2, .ref json_3)]) [0] rfl rfl (M1 := []) [] rfl rfl (I1 := []) [] rfl rfl).more hb_45)
  clear hh_2 ht_4 hvm_4 hz_4 hk_4 hS_4 hb_41 hb_42 hb_43 hb_44 hb_45
  obtain ⟨hr_5_0, hr_5_1⟩ := hr_5
  refine lv_istore_n (lv' := [(3, .int r_5), (0, .ref r0), (1, .int a1), (2, .ref r2)]) hx hb dX11_placeTold_11 rfl hl (by decide) rfl (fun ls hl => ?_)
  refine lv_aload_n hx hb dX11_placeTold_12 rfl (lv_at hl 1 rfl) ?_
  refine j7_read hx hb hown hK (C := RX11) (T := TX11) (N := 19) rfl hly_13_2 hlk_28 (hh_4.at 0 rfl) dX11_placeTold_13 ?_
  refine lv_iload_n hx hb dX11_placeTold_16 rfl (lv_at hl 2 rfl) ?_
  refine j_ldcSw hx hb hown rstr417 dX11_placeTold_17 ?_
  refine va_calli (A0 := jA base) (H0 := s.heap) (va_runV (As := [.int a1, .ref str417]) (rest := []) ⟨hx, hb, hml, hown, hts⟩ (uX4_member l dC dI ca base B hB hAp hB6 hB140 hB141 hB142 hB143 hB144 hB145 hB146 G0 H_4 json_3 a1 str417 9) (cwV 2 hts (jgV (jWr_23 _ (List.mem_of_getElem? (i := 10) rfl)) (jWr_23 _ (List.mem_of_getElem? (i := 11) rfl)) (jWr_23 _ (List.mem_of_getElem? (i := 12) rfl)) (jWr_1 _ (List.mem_of_getElem? (i := 22) rfl)) (jWr_23 _ (List.mem_of_getElem? (i := 13) rfl))) rfl rfl rfl (by decide +kernel) ⟨by rw [← hR]; exact Nat.le_of_ble_eq_true rfl, by rw [← hR]; exact Nat.le_of_ble_eq_true rfl⟩) ⟨fun a U g mk q => by obtain ⟨q0, q1, q2, qK, q10, q11, q12, q13⟩ := q; exact ⟨q0, q1, q2, jG.calling g mk a qK, (q10.moved (Vm.Alike.refl U.vm)), q11, q12, q13⟩, hh_4.recv (C := RX4) (T := TX4) (N := 12) hB6 rfl (by decide) hg_json_3 hK, fun U hU hW => ⟨rfl, hU, hh_4.2.1, hG.step hW hU hh_4.1, (hstr417.moved hW.alike).kept hh_4.1.2.1, hg_json_3, jP.nil, by first | omega | rfl | assumption | decide | exact Or.inl rfl | exact Or.inr rfl | (simp only; omega)⟩⟩ rfl rfl hl.1 rfl (lv_room (Nat.le_of_ble_eq_true rfl)) dX11_placeTold_20 ⟨Nat.zero_le _, Nat.zero_le _⟩) hh_4.1 (fun q _ h => h) (fun q h => h) (fun r_7 u_6 t_6 H_6 locs_6 ht_6 hvm_6 hr_7 hb_6 hz_6 hk_6 hS_6 => ?_)
  rw [ht_6] at hb_6
  obtain ⟨hb_61, hb_62, hb_63, hb_64, hb_65⟩ := hb_6
  have hh_6 : jSt (dC, dI) B base G0 G0 EX11_placeTold s.heap 0 0 [(r0, 13, 2, .ref json_3)] [] [] H_6 locs_6 := ((hh_4.call hb_61 hb_62 hb_63 hb_64 hS_6 rfl (L1 := [(r0, 13, 2, .ref json_3)]) [0] rfl rfl (M1 := []) [] rfl rfl (I1 := []) [] rfl rfl).more hb_65)
  clear hh_4 ht_6 hvm_6 hz_6 hk_6 hS_6 hb_61 hb_62 hb_63 hb_64 hb_65
  obtain ⟨hr_7_0, hr_7_1⟩ := hr_7
  refine lv_istore (lv' := [(4, .int r_7), (3, .int r_5), (0, .ref r0), (1, .int a1), (2, .ref r2)]) hx hb dX11_placeTold_23 hl (by decide) rfl (fun ls hl => ?_)
  refine lv_aload_n hx hb dX11_placeTold_25 rfl (lv_at hl 2 rfl) ?_
  refine j7_read hx hb hown hK (C := RX11) (T := TX11) (N := 19) rfl hly_13_2 hlk_28 (hh_6.at 0 rfl) dX11_placeTold_26 ?_
  refine lv_iload_n hx hb dX11_placeTold_29 rfl (lv_at hl 1 rfl) ?_
  obtain ⟨v_10, hv_10, hh_11⟩ := hh_6.pin (C := RX4) (T := TX4) (N := 12) hB6 rfl (by decide) hg_json_3 (i := 7) (by decide) rfl
  obtain ⟨values_12, rfl, hlovalues_12, hhivalues_12⟩ := hv_10
  refine va_calli (A0 := jA base) (H0 := s.heap) (va_runV (As := [.int r_5]) (rest := []) ⟨hx, hb, hml, hown, hts⟩ (uX4_kindOf l dC dI ca base B hB hAp hB6 hB140 G0 H_6 json_3 r_5 values_12) (cwV 1 hts (jgV (jWr_27 _ (List.mem_of_getElem? (i := 5) rfl)) (jWr_23 _ (List.mem_of_getElem? (i := 15) rfl)) (jWr_23 _ (List.mem_of_getElem? (i := 16) rfl)) (jWr_1 _ (List.mem_of_getElem? (i := 22) rfl)) (jWr_23 _ (List.mem_of_getElem? (i := 17) rfl))) rfl rfl rfl (by decide +kernel) ⟨by rw [← hR]; exact Nat.le_of_ble_eq_true rfl, by rw [← hR]; exact Nat.le_of_ble_eq_true rfl⟩) ⟨fun a U g mk q => by obtain ⟨q0, q1, q2, qK, q10, q11, q12⟩ := q; exact ⟨q0, q1, q2, jG.calling g mk a qK, q10, q11, q12⟩, hh_11.recv (C := RX4) (T := TX4) (N := 12) hB6 rfl (by decide) hg_json_3 hK, fun U hU hW => ⟨rfl, hU, hh_11.2.1, hG.step hW hU hh_11.1, hg_json_3, (hh_11.2.2.1.sub (L1 := [(json_3, 6, 7, .int values_12)]) [0] rfl), by first | omega | (refine ⟨?_, ?_⟩ <;> (first | omega | rfl | assumption | decide | exact Or.inl rfl | exact Or.inr rfl | (simp only; omega)))⟩⟩ rfl rfl hl.1 rfl (lv_room (Nat.le_of_ble_eq_true rfl)) dX11_placeTold_30 ⟨Nat.zero_le _, Nat.zero_le _⟩) hh_11.1 (fun q _ h => h) (fun q h => h) (fun r_9 u_8 t_8 H_8 locs_8 ht_8 hvm_8 hr_9 hb_8 hz_8 hk_8 hS_8 => ?_)
  rw [ht_8] at hb_8
  obtain ⟨hb_81, hb_82, hb_83, hb_84, hb_85⟩ := hb_8
  have hh_8 : jSt (dC, dI) B base G0 G0 EX11_placeTold s.heap 0 0 [(json_3, 6, 7, .int values_12), (r0, 13, 2, .ref json_3)] [] [] H_8 locs_8 := ((hh_11.call hb_81 hb_82 hb_83 hb_84 hS_8 rfl (L1 := [(json_3, 6, 7, .int values_12), (r0, 13, 2, .ref json_3)]) [0, 1] rfl rfl (M1 := []) [] rfl rfl (I1 := []) [] rfl rfl).more hb_85)
  clear hh_11 ht_8 hvm_8 hz_8 hk_8 hS_8 hb_81 hb_82 hb_83 hb_84 hb_85
  refine lv_iconst (v := 4) hx hb dX11_placeTold_33 (by decide) ?_
  refine lv_icmp_ne (tgt := 50) hx hb dX11_placeTold_34 (by decide) (fun c_13 => ?_) (fun c_13 => ?_)
  · skip
    have c_13' : r_9.toInt ≠ 4 := jb_ne (rfl) ((by decide)) c_13
    try clear hr_9
    refine lv_iconst (v := (-1)) hx hb dX11_placeTold_50 (by decide) ?_
    rw [hQ]
    exact W.iret (v := (-1)) hx hb hr (fun t ht hW => ⟨⟨(-1), (), rfl, trivial, hh_8.rt (M1 := []) [] rfl ht⟩, by rw [ht]; try exact hh_8.1.1, fun q h9 hq => by rw [ht]; try exact hh_8.1.2.1 q h9 hq⟩) hh_8.1.2.2 dX11_placeTold_51
  · skip
    have c_13' : r_9.toInt = 4 := jb_ne_n (rfl) ((by decide)) c_13
    first | (have hr_9q := hr_9.resolve_left (by omega); clear hr_9) | (have hr_9q := hr_9.resolve_right (by omega); clear hr_9) | try clear hr_9
    refine lv_aload_n hx hb dX11_placeTold_37 rfl (lv_at hl 2 rfl) ?_
    refine j7_read hx hb hown hK (C := RX11) (T := TX11) (N := 19) rfl hly_13_2 hlk_28 (hh_8.at 1 rfl) dX11_placeTold_38 ?_
    refine lv_iload hx hb dX11_placeTold_41 (lv_at hl 0 rfl) ?_
    refine va_calli (A0 := jA base) (H0 := s.heap) (va_runV (As := [.int r_7]) (rest := []) ⟨hx, hb, hml, hown, hts⟩ (uX4_kindOf l dC dI ca base B hB hAp hB6 hB140 G0 H_8 json_3 r_7 values_12) (cwV 1 hts (jgV (jWr_27 _ (List.mem_of_getElem? (i := 5) rfl)) (jWr_23 _ (List.mem_of_getElem? (i := 15) rfl)) (jWr_23 _ (List.mem_of_getElem? (i := 16) rfl)) (jWr_1 _ (List.mem_of_getElem? (i := 22) rfl)) (jWr_23 _ (List.mem_of_getElem? (i := 17) rfl))) rfl rfl rfl (by decide +kernel) ⟨by rw [← hR]; exact Nat.le_of_ble_eq_true rfl, by rw [← hR]; exact Nat.le_of_ble_eq_true rfl⟩) ⟨fun a U g mk q => by obtain ⟨q0, q1, q2, qK, q10, q11, q12⟩ := q; exact ⟨q0, q1, q2, jG.calling g mk a qK, q10, q11, q12⟩, hh_8.recv (C := RX4) (T := TX4) (N := 12) hB6 rfl (by decide) hg_json_3 hK, fun U hU hW => ⟨rfl, hU, hh_8.2.1, hG.step hW hU hh_8.1, hg_json_3, (hh_8.2.2.1.sub (L1 := [(json_3, 6, 7, .int values_12)]) [0] rfl), by first | omega | (refine ⟨?_, ?_⟩ <;> (first | omega | rfl | assumption | decide | exact Or.inl rfl | exact Or.inr rfl | (simp only; omega)))⟩⟩ rfl rfl hl.1 rfl (lv_room (Nat.le_of_ble_eq_true rfl)) dX11_placeTold_43 ⟨Nat.zero_le _, Nat.zero_le _⟩) hh_8.1 (fun q _ h => h) (fun q h => h) (fun r_15 u_14 t_14 H_14 locs_14 ht_14 hvm_14 hr_15 hb_14 hz_14 hk_14 hS_14 => ?_)
    rw [ht_14] at hb_14
    obtain ⟨hb_141, hb_142, hb_143, hb_144, hb_145⟩ := hb_14
    have hh_14 : jSt (dC, dI) B base G0 G0 EX11_placeTold s.heap 0 0 [(json_3, 6, 7, .int values_12), (r0, 13, 2, .ref json_3)] [] [] H_14 locs_14 := ((hh_8.call hb_141 hb_142 hb_143 hb_144 hS_14 rfl (L1 := [(json_3, 6, 7, .int values_12), (r0, 13, 2, .ref json_3)]) [0, 1] rfl rfl (M1 := []) [] rfl rfl (I1 := []) [] rfl rfl).more hb_145)
    clear hh_8 ht_14 hvm_14 hz_14 hk_14 hS_14 hb_141 hb_142 hb_143 hb_144 hb_145
    refine lv_iconst (v := 4) hx hb dX11_placeTold_46 (by decide) ?_
    refine lv_icmp_eq (tgt := 52) hx hb dX11_placeTold_47 (by decide) (fun c_16 => ?_) (fun c_16 => ?_)
    · skip
      have c_16' : r_15.toInt = 4 := jb_eq (rfl) ((by decide)) c_16
      first | (have hr_15q := hr_15.resolve_left (by omega); clear hr_15) | (have hr_15q := hr_15.resolve_right (by omega); clear hr_15) | try clear hr_15
      refine lv_aload_n hx hb dX11_placeTold_52 rfl (lv_at hl 4 rfl) ?_
      refine lv_aload_n hx hb dX11_placeTold_53 rfl (lv_at hl 2 rfl) ?_
      refine j7_read hx hb hown hK (C := RX11) (T := TX11) (N := 19) rfl hly_13_2 hlk_28 (hh_14.at 1 rfl) dX11_placeTold_54 ?_
      refine lv_iload_n hx hb dX11_placeTold_57 rfl (lv_at hl 1 rfl) ?_
      refine va_calli (A0 := jA base) (H0 := s.heap) (va_runV (As := [.int r_5]) (rest := [.ref r2]) ⟨hx, hb, hml, hown, hts⟩ (uX4_valueOf l dC dI ca base B hB hAp hB6 hB141 G0 H_14 json_3 r_5) (cwV 1 hts (jgV (jWr_29 _ (List.mem_of_getElem? (i := 0) rfl)) (jWr_24 _ (List.mem_of_getElem? (i := 12) rfl)) (jWr_24 _ (List.mem_of_getElem? (i := 13) rfl)) (jWr_1 _ (List.mem_of_getElem? (i := 22) rfl)) (jWr_24 _ (List.mem_of_getElem? (i := 14) rfl))) rfl rfl rfl (by decide +kernel) ⟨by rw [← hR]; exact Nat.le_of_ble_eq_true rfl, by rw [← hR]; exact Nat.le_of_ble_eq_true rfl⟩) ⟨fun a U g mk q => by obtain ⟨q0, q1, q2, qK, q10, q11, q12⟩ := q; exact ⟨q0, q1, q2, jG.calling g mk a qK, q10, q11, q12⟩, hh_14.recv (C := RX4) (T := TX4) (N := 12) hB6 rfl (by decide) hg_json_3 hK, fun U hU hW => ⟨rfl, hU, hh_14.2.1, hG.step hW hU hh_14.1, hg_json_3, jP.nil, trivial⟩⟩ rfl rfl hl.1 rfl (lv_room (Nat.le_of_ble_eq_true rfl)) dX11_placeTold_58 ⟨Nat.zero_le _, Nat.zero_le _⟩) hh_14.1 (fun q _ h => h) (fun q h => h) (fun r_18 u_17 t_17 H_17 locs_17 ht_17 hvm_17 hr_18 hb_17 hz_17 hk_17 hS_17 => ?_)
      rw [ht_17] at hb_17
      obtain ⟨hb_171, hb_172, hb_173, hb_174, hb_175⟩ := hb_17
      have hh_17 : jSt (dC, dI) B base G0 G0 EX11_placeTold s.heap 0 0 [(json_3, 6, 7, .int values_12), (r0, 13, 2, .ref json_3)] [] [] H_17 locs_17 := ((hh_14.call hb_171 hb_172 hb_173 hb_174 hS_17 rfl (L1 := [(json_3, 6, 7, .int values_12), (r0, 13, 2, .ref json_3)]) [0, 1] rfl rfl (M1 := []) [] rfl rfl (I1 := []) [] rfl rfl).more hb_175)
      clear hh_14 ht_17 hvm_17 hz_17 hk_17 hS_17 hb_171 hb_172 hb_173 hb_174 hb_175
      refine lv_aload_n hx hb dX11_placeTold_61 rfl (lv_at hl 2 rfl) ?_
      refine j7_read hx hb hown hK (C := RX11) (T := TX11) (N := 19) rfl hly_13_2 hlk_28 (hh_17.at 1 rfl) dX11_placeTold_62 ?_
      refine lv_iload hx hb dX11_placeTold_65 (lv_at hl 0 rfl) ?_
      refine va_calli (A0 := jA base) (H0 := s.heap) (va_runV (As := [.int r_7]) (rest := [.int r_18, .ref r2]) ⟨hx, hb, hml, hown, hts⟩ (uX4_valueOf l dC dI ca base B hB hAp hB6 hB141 G0 H_17 json_3 r_7) (cwV 1 hts (jgV (jWr_29 _ (List.mem_of_getElem? (i := 0) rfl)) (jWr_24 _ (List.mem_of_getElem? (i := 12) rfl)) (jWr_24 _ (List.mem_of_getElem? (i := 13) rfl)) (jWr_1 _ (List.mem_of_getElem? (i := 22) rfl)) (jWr_24 _ (List.mem_of_getElem? (i := 14) rfl))) rfl rfl rfl (by decide +kernel) ⟨by rw [← hR]; exact Nat.le_of_ble_eq_true rfl, by rw [← hR]; exact Nat.le_of_ble_eq_true rfl⟩) ⟨fun a U g mk q => by obtain ⟨q0, q1, q2, qK, q10, q11, q12⟩ := q; exact ⟨q0, q1, q2, jG.calling g mk a qK, q10, q11, q12⟩, hh_17.recv (C := RX4) (T := TX4) (N := 12) hB6 rfl (by decide) hg_json_3 hK, fun U hU hW => ⟨rfl, hU, hh_17.2.1, hG.step hW hU hh_17.1, hg_json_3, jP.nil, trivial⟩⟩ rfl rfl hl.1 rfl (lv_room (Nat.le_of_ble_eq_true rfl)) dX11_placeTold_67 ⟨Nat.zero_le _, Nat.zero_le _⟩) hh_17.1 (fun q _ h => h) (fun q h => h) (fun r_20 u_19 t_19 H_19 locs_19 ht_19 hvm_19 hr_20 hb_19 hz_19 hk_19 hS_19 => ?_)
      rw [ht_19] at hb_19
      obtain ⟨hb_191, hb_192, hb_193, hb_194, hb_195⟩ := hb_19
      have hh_19 : jSt (dC, dI) B base G0 G0 EX11_placeTold s.heap 0 0 [(json_3, 6, 7, .int values_12), (r0, 13, 2, .ref json_3)] [] [] H_19 locs_19 := ((hh_17.call hb_191 hb_192 hb_193 hb_194 hS_19 rfl (L1 := [(json_3, 6, 7, .int values_12), (r0, 13, 2, .ref json_3)]) [0, 1] rfl rfl (M1 := []) [] rfl rfl (I1 := []) [] rfl rfl).more hb_195)
      clear hh_17 ht_19 hvm_19 hz_19 hk_19 hS_19 hb_191 hb_192 hb_193 hb_194 hb_195
      refine va_calli (A0 := jA base) (H0 := s.heap) (va_runV (As := [.int r_18, .int r_20]) (rest := []) ⟨hx, hb, hml, hown, hts⟩ (uX1_placeOf l dC dI ca base B hB hAp hB3 hB101 G0 H_19 r2 r_18 r_20 n2) (cwV 2 hts (jgV (jWr_29 _ (List.mem_of_getElem? (i := 1) rfl)) (jWr_29 _ (List.mem_of_getElem? (i := 2) rfl)) (jWr_29 _ (List.mem_of_getElem? (i := 3) rfl)) (jWr_2 _ (List.mem_of_getElem? (i := 21) rfl)) (jWr_29 _ (List.mem_of_getElem? (i := 4) rfl))) rfl rfl rfl (by decide +kernel) ⟨by rw [← hR]; exact Nat.le_of_ble_eq_true rfl, by rw [← hR]; exact Nat.le_of_ble_eq_true rfl⟩) ⟨fun a U g mk q => by obtain ⟨q0, q1, q2, qK, q10, q11, q12⟩ := q; exact ⟨q0, q1, q2, jG.calling g mk a qK, q10, q11, q12⟩, hh_19.recv (C := RX1) (T := TX1) (N := 17) hB3 rfl (by decide) hg_r2 hK, fun U hU hW => ⟨rfl, hU, hh_19.2.1, hG.step hW hU hh_19.1, hg_r2, jP.nil, trivial⟩⟩ rfl rfl hl.1 rfl (lv_room (Nat.le_of_ble_eq_true rfl)) dX11_placeTold_70 ⟨Nat.zero_le _, Nat.zero_le _⟩) hh_19.1 (fun q _ h => h) (fun q h => h) (fun r_22 u_21 t_21 H_21 locs_21 ht_21 hvm_21 hr_22 hb_21 hz_21 hk_21 hS_21 => ?_)
      rw [ht_21] at hb_21
      obtain ⟨hb_211, hb_212, hb_213, hb_214, hb_215⟩ := hb_21
      have hh_21 : jSt (dC, dI) B base G0 G0 EX11_placeTold s.heap 0 0 [(json_3, 6, 7, .int values_12), (r0, 13, 2, .ref json_3)] [] [] H_21 locs_21 := ((hh_19.call hb_211 hb_212 hb_213 hb_214 hS_21 rfl (L1 := [(json_3, 6, 7, .int values_12), (r0, 13, 2, .ref json_3)]) [0, 1] rfl rfl (M1 := []) [] rfl rfl (I1 := []) [] rfl rfl).more hb_215)
      clear hh_19 ht_21 hvm_21 hz_21 hk_21 hS_21 hb_211 hb_212 hb_213 hb_214 hb_215
      obtain ⟨hr_22_0, hr_22_1⟩ := hr_22
      rw [hQ]
      exact W.iret (v := r_22) hx hb hr (fun t ht hW => ⟨⟨r_22, (), rfl, trivial, hh_21.rt (M1 := []) [] rfl ht⟩, by rw [ht]; try exact hh_21.1.1, fun q h9 hq => by rw [ht]; try exact hh_21.1.2.1 q h9 hq⟩) hh_21.1.2.2 dX11_placeTold_73
    · skip
      have c_16' : r_15.toInt ≠ 4 := jb_eq_n (rfl) ((by decide)) c_16
      try clear hr_15
      refine lv_iconst (v := (-1)) hx hb dX11_placeTold_50 (by decide) ?_
      rw [hQ]
      exact W.iret (v := (-1)) hx hb hr (fun t ht hW => ⟨⟨(-1), (), rfl, trivial, hh_14.rt (M1 := []) [] rfl ht⟩, by rw [ht]; try exact hh_14.1.1, fun q h9 hq => by rw [ht]; try exact hh_14.1.2.1 q h9 hq⟩) hh_14.1.2.2 dX11_placeTold_51
set_option maxHeartbeats 4000000 in
set_option maxRecDepth 20000 in
theorem uX11_addressed (l : Launch) (dC : Nat → ClassId) (dI : Nat → Nat → Nat) (ca : Nat → ClassId) (base : Nat) (B : jF) (hB : jBok B) (hAp : jAp (dC, dI)) (hB1 : ∀ n G a H, B 1 n G a H ↔ jOb (dC, dI) 1 3 (F1 n G) a H) (hB3 : ∀ n G a H, B 3 n G a H ↔ jOb (dC, dI) 3 17 (F3 n G) a H) (hB6 : ∀ n G a H, B 6 n G a H ↔ jOb (dC, dI) 6 12 (F6 n G) a H) (hB13 : ∀ n G a H, B 13 n G a H ↔ jOb (dC, dI) 13 19 (F13 n G) a H) (hB101 : ∀ n G a H, B 101 n G a H ↔ jAr (dC, dI) (ca 1) (fun j z => True) n a H) (hB140 : ∀ n G a H, B 140 n G a H ↔ jAr (dC, dI) (ca 1) (fun j z => True) n a H) (hB141 : ∀ n G a H, B 141 n G a H ↔ jAr (dC, dI) (ca 1) (fun j z => True) n a H) (hB142 : ∀ n G a H, B 142 n G a H ↔ jAr (dC, dI) (ca 1) (fun j z => True) n a H) (hB143 : ∀ n G a H, B 143 n G a H ↔ jAr (dC, dI) (ca 1) (fun j z => True) n a H) (hB144 : ∀ n G a H, B 144 n G a H ↔ jAr (dC, dI) (ca 1) (fun j z => 0 ≤ z.toInt ∧ z.toInt ≤ 3000) n a H) (hB145 : ∀ n G a H, B 145 n G a H ↔ jAr (dC, dI) (ca 1) (fun j z => True) n a H) (hB146 : ∀ n G a H, B 146 n G a H ↔ jAr (dC, dI) (ca 1) (fun j z => True) n a H) (hB221 : ∀ n G a H, B 221 n G a H ↔ jAq (dC, dI) (ca 9) (jQn 3 0) n G a H) (G0 : jT) (H0 : Heap) (r0 : Nat) : Met l yX11_addressed (jw yX11_addressed cX11_addressed 3 (some (.object "ProofServer$Document"))) ({ frames := 6, cells := 0, slots := 0, locals := 190 }) (va_Pc [.ref r0] (fun U => U.heap = H0 ∧ jX B base G0 [] H0 ∧ jG dC dI ca base U ∧ jK7 dC dI ca base U ∧ G0 r0 = some (13, 0) ∧ jP (dC, dI) G0 H0 [] ∧ jIs (dC, dI) G0 H0 [(jFl, jLs dC dI ca G0 3 none)] ∧ True)) (jQx (S := Unit) (fun v u => jRn G0 3 0 v) (fun u t => (jRt (dC, dI) B base G0 EX11_addressed H0 [] t.heap) ∧ jIs (dC, dI) G0 t.heap [(jFl, jLs dC dI ca G0 3 none)]) (jA base)) 0 0 (jA base) := by
  refine Met.ofW (cc := cX11_addressed) (maxL := 3) (ret := (some (.object "ProofServer$Document"))) (by decide) rfl ?_
  intro p e s m args below meth c s₁ Bd hml hv
  obtain ⟨rfl, hH0, hX, hG, hK7, hg_r0, hP0, hI0, hp0⟩ := hv
  have hK := hG.1
  have hx := Bd.exec
  have hb := Bd.bytes
  have hr := Bd.returns
  have hts := atoms_spec (ws := (jw yX11_addressed cX11_addressed 3 (some (.object "ProofServer$Document")))) Bd.pre
  have htw : ∀ w ∈ jWl, w.before _ s = true := fun w h => hts w (List.mem_cons_of_mem _ h)
  have hown : s.vm.findClass RX11 = some m.cls := findClass_of_methodNamed Bd.named
  have hlocks := Bd.notSynchronized
  obtain ⟨Q, hQ⟩ : ∃ Q, Q = MQ below (jQx (S := Unit) (fun v u => jRn G0 3 0 v) (fun u t => (jRt (dC, dI) B base G0 EX11_addressed H0 [] t.heap) ∧ jIs (dC, dI) G0 t.heap [(jFl, jLs dC dI ca G0 3 none)]) (jA base)) ([.ref r0] : List Value).toArray s 0 0 (jA base) := ⟨_, rfl⟩
  rw [← hQ]
  have hl := lv_entry ([.ref r0]) (n := 3) (Nat.le_of_ble_eq_true rfl)
  rw [lg_entry_eq]
  generalize (lg_sl ([.ref r0]) ++ List.replicate (3 - (lg_sl ([.ref r0])).length) Slot.unset).toArray = ls at hl ⊢
  have hl : lv_has ls 3 [(0, .ref r0)] := hl
  generalize hR : (headSpec (jw yX11_addressed cX11_addressed 3 (some (.object "ProofServer$Document"))) ({ frames := 6, cells := 0, slots := 0, locals := 190 })).room = R
  subst hH0
  have hh : jSt (dC, dI) B base G0 G0 EX11_addressed s.heap 0 0 [] [] [(jFl, jLs dC dI ca G0 3 none)] s.heap [] := jSt.start hX hP0 jMc.nil hI0
  clear hX hP0
  have hk0 : (0 : Int32).toInt = 0 := by decide
  have hk1 : (1 : Int32).toInt = 1 := by decide
  have hly_3_0 := htw (u_lay RX1 TX1 0) (jWc_wsX10 _ (u_in_lay (by decide)))
  have hly_13_2 := htw (u_lay RX11 TX11 2) (jWc_wsX110 _ (u_in_lay (by decide)))
  have hly_13_7 := htw (u_lay RX11 TX11 7) (jWc_wsX110 _ (u_in_lay (by decide)))
  have hlk_28 := (htw (.fieldLink RX11 28 "ProofServer" "json" "LProofServer$Json;") (jWr_1 _ (List.mem_of_getElem? (i := 23) rfl)))
  obtain ⟨str271, rstr271, hstr2710⟩ := hG.str (o := RX11) (k := 271) (tx := "params") (List.mem_of_getElem? (i := 852) (by decide +kernel))
  have hstr271 : jStr base str271 6 s s.heap := hstr2710
  obtain ⟨str344, rstr344, hstr3440⟩ := hG.str (o := RX11) (k := 344) (tx := "textDocument") (List.mem_of_getElem? (i := 879) (by decide +kernel))
  have hstr344 : jStr base str344 12 s s.heap := hstr3440
  obtain ⟨str346, rstr346, hstr3460⟩ := hG.str (o := RX11) (k := 346) (tx := "uri") (List.mem_of_getElem? (i := 880) (by decide +kernel))
  have hstr346 : jStr base str346 3 s s.heap := hstr3460
  have hlk_61 := (htw (.fieldLink RX11 61 "ProofServer" "open" "Ljava/util/List;") (jWr_2 _ (List.mem_of_getElem? (i := 14) rfl)))
  have hlk_348 := (htw (.fieldLink RX11 348 "ProofServer$Document" "uri" "[I") (jWr_27 _ (List.mem_of_getElem? (i := 21) rfl)))
  refine lv_aload_n hx hb dX11_addressed_0 rfl (lv_at hl 0 rfl) ?_
  obtain ⟨v_1, hv_1, hh_2⟩ := hh.pin (C := RX11) (T := TX11) (N := 19) hB13 rfl (by decide) hg_r0 (i := 2) (by decide) rfl
  clear hh
  obtain ⟨json_3, rfl, hg_json_3⟩ := hv_1
  refine j7_read hx hb hown hK (C := RX11) (T := TX11) (N := 19) rfl hly_13_2 hlk_28 (hh_2.at 0 rfl) dX11_addressed_1 ?_
  refine lv_aload_n hx hb dX11_addressed_4 rfl (lv_at hl 0 rfl) ?_
  refine j7_read hx hb hown hK (C := RX11) (T := TX11) (N := 19) rfl hly_13_2 hlk_28 (hh_2.at 0 rfl) dX11_addressed_5 ?_
  refine lv_aload_n hx hb dX11_addressed_8 rfl (lv_at hl 0 rfl) ?_
  refine j7_read hx hb hown hK (C := RX11) (T := TX11) (N := 19) rfl hly_13_2 hlk_28 (hh_2.at 0 rfl) dX11_addressed_9 ?_
  refine lv_iconst (v := 0) hx hb dX11_addressed_12 (by decide) ?_
  refine j_ldcSw hx hb hown rstr271 dX11_addressed_13 ?_
  refine va_calli (A0 := jA base) (H0 := s.heap) (va_runV (As := [.int 0, .ref str271]) (rest := [.ref json_3, .ref json_3]) ⟨hx, hb, hml, hown, hts⟩ (uX4_member l dC dI ca base B hB hAp hB6 hB140 hB141 hB142 hB143 hB144 hB145 hB146 G0 s.heap json_3 0 str271 6) (cwV 2 hts (jgV (jWr_23 _ (List.mem_of_getElem? (i := 10) rfl)) (jWr_23 _ (List.mem_of_getElem? (i := 11) rfl)) (jWr_23 _ (List.mem_of_getElem? (i := 12) rfl)) (jWr_1 _ (List.mem_of_getElem? (i := 22) rfl)) (jWr_23 _ (List.mem_of_getElem? (i := 13) rfl))) rfl rfl rfl (by decide +kernel) ⟨by rw [← hR]; exact Nat.le_of_ble_eq_true rfl, by rw [← hR]; exact Nat.le_of_ble_eq_true rfl⟩) ⟨fun a U g mk q => by obtain ⟨q0, q1, q2, qK, q10, q11, q12, q13⟩ := q; exact ⟨q0, q1, q2, jG.calling g mk a qK, (q10.moved (Vm.Alike.refl U.vm)), q11, q12, q13⟩, hh_2.recv (C := RX4) (T := TX4) (N := 12) hB6 rfl (by decide) hg_json_3 hK, fun U hU hW => ⟨rfl, hU, hh_2.2.1, hG.step hW hU hh_2.1, (hstr271.moved hW.alike).kept hh_2.1.2.1, hg_json_3, jP.nil, by first | omega | rfl | assumption | decide | exact Or.inl rfl | exact Or.inr rfl | (simp only; omega)⟩⟩ rfl rfl hl.1 rfl (lv_room (Nat.le_of_ble_eq_true rfl)) dX11_addressed_16 ⟨Nat.zero_le _, Nat.zero_le _⟩) hh_2.1 (fun q _ h => h) (fun q h => h) (fun r_5 u_4 t_4 H_4 locs_4 ht_4 hvm_4 hr_5 hb_4 hz_4 hk_4 hS_4 => ?_)
  rw [ht_4] at hb_4
  obtain ⟨hb_41, hb_42, hb_43, hb_44, hb_45⟩ := hb_4
  have hh_4 : jSt (dC, dI) B base G0 G0 EX11_addressed s.heap 0 0 [(r0, 13, 2, .ref json_3)] [] [(jFl, jLs dC dI ca G0 3 none)] H_4 locs_4 := ((hh_2.call hb_41 hb_42 hb_43 hb_44 hS_4 rfl (L1 := [(r0, 13, 2, .ref json_3)]) [0] rfl rfl (M1 := []) [] rfl rfl (I1 := [(jFl, jLs dC dI ca G0 3 none)]) [0] rfl rfl).more hb_45)
  clear hh_2 ht_4 hvm_4 hz_4 hk_4 hS_4 hb_41 hb_42 hb_43 hb_44 hb_45
  obtain ⟨hr_5_0, hr_5_1⟩ := hr_5
  refine j_ldcSw hx hb hown rstr344 dX11_addressed_19 ?_
  refine va_calli (A0 := jA base) (H0 := s.heap) (va_runV (As := [.int r_5, .ref str344]) (rest := [.ref json_3]) ⟨hx, hb, hml, hown, hts⟩ (uX4_member l dC dI ca base B hB hAp hB6 hB140 hB141 hB142 hB143 hB144 hB145 hB146 G0 H_4 json_3 r_5 str344 12) (cwV 2 hts (jgV (jWr_23 _ (List.mem_of_getElem? (i := 10) rfl)) (jWr_23 _ (List.mem_of_getElem? (i := 11) rfl)) (jWr_23 _ (List.mem_of_getElem? (i := 12) rfl)) (jWr_1 _ (List.mem_of_getElem? (i := 22) rfl)) (jWr_23 _ (List.mem_of_getElem? (i := 13) rfl))) rfl rfl rfl (by decide +kernel) ⟨by rw [← hR]; exact Nat.le_of_ble_eq_true rfl, by rw [← hR]; exact Nat.le_of_ble_eq_true rfl⟩) ⟨fun a U g mk q => by obtain ⟨q0, q1, q2, qK, q10, q11, q12, q13⟩ := q; exact ⟨q0, q1, q2, jG.calling g mk a qK, (q10.moved (Vm.Alike.refl U.vm)), q11, q12, q13⟩, hh_4.recv (C := RX4) (T := TX4) (N := 12) hB6 rfl (by decide) hg_json_3 hK, fun U hU hW => ⟨rfl, hU, hh_4.2.1, hG.step hW hU hh_4.1, (hstr344.moved hW.alike).kept hh_4.1.2.1, hg_json_3, jP.nil, by first | omega | rfl | assumption | decide | exact Or.inl rfl | exact Or.inr rfl | (simp only; omega)⟩⟩ rfl rfl hl.1 rfl (lv_room (Nat.le_of_ble_eq_true rfl)) dX11_addressed_22 ⟨Nat.zero_le _, Nat.zero_le _⟩) hh_4.1 (fun q _ h => h) (fun q h => h) (fun r_7 u_6 t_6 H_6 locs_6 ht_6 hvm_6 hr_7 hb_6 hz_6 hk_6 hS_6 => ?_)
  rw [ht_6] at hb_6
  obtain ⟨hb_61, hb_62, hb_63, hb_64, hb_65⟩ := hb_6
  have hh_6 : jSt (dC, dI) B base G0 G0 EX11_addressed s.heap 0 0 [(r0, 13, 2, .ref json_3)] [] [(jFl, jLs dC dI ca G0 3 none)] H_6 locs_6 := ((hh_4.call hb_61 hb_62 hb_63 hb_64 hS_6 rfl (L1 := [(r0, 13, 2, .ref json_3)]) [0] rfl rfl (M1 := []) [] rfl rfl (I1 := [(jFl, jLs dC dI ca G0 3 none)]) [0] rfl rfl).more hb_65)
  clear hh_4 ht_6 hvm_6 hz_6 hk_6 hS_6 hb_61 hb_62 hb_63 hb_64 hb_65
  obtain ⟨hr_7_0, hr_7_1⟩ := hr_7
  refine j_ldcSw hx hb hown rstr346 dX11_addressed_25 ?_
  refine va_calli (A0 := jA base) (H0 := s.heap) (va_runV (As := [.int r_7, .ref str346]) (rest := []) ⟨hx, hb, hml, hown, hts⟩ (uX4_member l dC dI ca base B hB hAp hB6 hB140 hB141 hB142 hB143 hB144 hB145 hB146 G0 H_6 json_3 r_7 str346 3) (cwV 2 hts (jgV (jWr_23 _ (List.mem_of_getElem? (i := 10) rfl)) (jWr_23 _ (List.mem_of_getElem? (i := 11) rfl)) (jWr_23 _ (List.mem_of_getElem? (i := 12) rfl)) (jWr_1 _ (List.mem_of_getElem? (i := 22) rfl)) (jWr_23 _ (List.mem_of_getElem? (i := 13) rfl))) rfl rfl rfl (by decide +kernel) ⟨by rw [← hR]; exact Nat.le_of_ble_eq_true rfl, by rw [← hR]; exact Nat.le_of_ble_eq_true rfl⟩) ⟨fun a U g mk q => by obtain ⟨q0, q1, q2, qK, q10, q11, q12, q13⟩ := q; exact ⟨q0, q1, q2, jG.calling g mk a qK, (q10.moved (Vm.Alike.refl U.vm)), q11, q12, q13⟩, hh_6.recv (C := RX4) (T := TX4) (N := 12) hB6 rfl (by decide) hg_json_3 hK, fun U hU hW => ⟨rfl, hU, hh_6.2.1, hG.step hW hU hh_6.1, (hstr346.moved hW.alike).kept hh_6.1.2.1, hg_json_3, jP.nil, by first | omega | rfl | assumption | decide | exact Or.inl rfl | exact Or.inr rfl | (simp only; omega)⟩⟩ rfl rfl hl.1 rfl (lv_room (Nat.le_of_ble_eq_true rfl)) dX11_addressed_28 ⟨Nat.zero_le _, Nat.zero_le _⟩) hh_6.1 (fun q _ h => h) (fun q h => h) (fun r_9 u_8 t_8 H_8 locs_8 ht_8 hvm_8 hr_9 hb_8 hz_8 hk_8 hS_8 => ?_)
  rw [ht_8] at hb_8
  obtain ⟨hb_81, hb_82, hb_83, hb_84, hb_85⟩ := hb_8
  have hh_8 : jSt (dC, dI) B base G0 G0 EX11_addressed s.heap 0 0 [(r0, 13, 2, .ref json_3)] [] [(jFl, jLs dC dI ca G0 3 none)] H_8 locs_8 := ((hh_6.call hb_81 hb_82 hb_83 hb_84 hS_8 rfl (L1 := [(r0, 13, 2, .ref json_3)]) [0] rfl rfl (M1 := []) [] rfl rfl (I1 := [(jFl, jLs dC dI ca G0 3 none)]) [0] rfl rfl).more hb_85)
  clear hh_6 ht_8 hvm_8 hz_8 hk_8 hS_8 hb_81 hb_82 hb_83 hb_84 hb_85
  obtain ⟨hr_9_0, hr_9_1⟩ := hr_9
  refine lv_istore_n (lv' := [(1, .int r_9), (0, .ref r0)]) hx hb dX11_addressed_31 rfl hl (by decide) rfl (fun ls hl => ?_)
  refine lv_iconst (v := 0) hx hb dX11_addressed_32 (by decide) ?_
  refine lv_istore_n (lv' := [(2, .int 0), (1, .int r_9), (0, .ref r0)]) hx hb dX11_addressed_33 rfl hl (by decide) rfl (fun ls hl => ?_)
  have L34 : ∀ (N : Nat) (v2_10 : Int32) (H_10 : Heap) (locs_10 : List Loc), jSt (dC, dI) B base G0 G0 EX11_addressed s.heap 0 0 [(r0, 13, 2, .ref json_3)] [] [(jFl, jLs dC dI ca G0 3 none)] H_10 locs_10 → (0 ≤ v2_10.toInt ∧ v2_10.toInt ≤ 40) → (41 - v2_10.toInt : Int) < N → ∀ ls : Array Slot, lv_has ls 3 [(0, .ref r0), (1, .int r_9), (2, .int v2_10)] → W p l e R s m ([.ref r0] : List Value).toArray below meth c H_10 locs_10 0 0 Q (F0 m 34 ls []) := by
    intro N
    induction N with
    | zero => intro v2_10 H_10 locs_10 hh_10  hi_10 hm; exact absurd hm (by omega)
    | succ N L34 =>
      intro v2_10 H_10 locs_10 hh_10  hi_10 hm_10 ls hl
      obtain ⟨hi_10_0, hi_10_1⟩ := hi_10
      refine lv_iload_n hx hb dX11_addressed_34 rfl (lv_at hl 2 rfl) ?_
      refine lv_aload_n hx hb dX11_addressed_35 rfl (lv_at hl 0 rfl) ?_
      obtain ⟨v_11, hv_11, hh_12⟩ := hh_10.pin (C := RX11) (T := TX11) (N := 19) hB13 rfl (by decide) hg_r0 (i := 7) (by decide) rfl
      clear hh_10
      obtain ⟨open_13, rfl, hg_open_13⟩ := hv_11
      refine j7_read hx hb hown hK (C := RX11) (T := TX11) (N := 19) rfl hly_13_7 hlk_61 (hh_12.at 0 rfl) dX11_addressed_36 ?_
      obtain ⟨v_16, hv_16, hh_17⟩ := hh_12.pin (C := RJx4a65c) (T := TJx4a65c) (N := 3) hB1 rfl (by decide) hg_open_13 (i := 2) (by decide) rfl
      obtain ⟨size_18, rfl, hlosize_18, hhisize_18⟩ := hv_16
      refine va_callFi (A0 := jA base) (H0 := s.heap) (va_runF (hK.1 1 _ rfl).2 (As := []) (rest := [.int v2_10]) ⟨hx, hb, hml, hown, hts⟩ (uJx4a65c_size_8abf5 l dC dI ca base B hB hAp hB1 G0 H_10 open_13 1 size_18) (va_cwF 0 hts (jgF (jWr_27 _ (List.mem_of_getElem? (i := 22) rfl)) (jWr_27 _ (List.mem_of_getElem? (i := 23) rfl)) (jWr_28 _ (List.mem_of_getElem? (i := 0) rfl)) (jWr_2 _ (List.mem_of_getElem? (i := 13) rfl)) (jWr_28 _ (List.mem_of_getElem? (i := 1) rfl))) rfl rfl rfl hK7.2.2.2.2.2.1.1 ⟨by decide, by decide, by decide +kernel⟩ ⟨by rw [← hR]; exact Nat.le_of_ble_eq_true rfl, by rw [← hR]; exact Nat.le_of_ble_eq_true rfl⟩) ⟨fun a U g mk q => by obtain ⟨q0, q1, q2, qK, q10, q11, q12⟩ := q; exact ⟨q0, q1, q2, jG.calling g mk a qK, q10, q11, q12⟩, hh_17.recv (C := RJx4a65c) (T := TJx4a65c) (N := 3) hB1 rfl (by decide) hg_open_13 hK, fun U hU hW => ⟨rfl, hU, hh_17.2.1, hG.step hW hU hh_17.1, hg_open_13, (hh_17.2.2.1.sub (L1 := [(open_13, 1, 2, .int size_18)]) [0] rfl), trivial⟩⟩ rfl rfl hl.1 rfl (lv_room (Nat.le_of_ble_eq_true rfl)) dX11_addressed_39 ⟨Nat.zero_le _, Nat.zero_le _⟩) hh_17.1 (fun q _ h => h) (fun q h => h) (fun r_15 u_14 t_14 H_14 locs_14 ht_14 hvm_14 hr_15 hb_14 hz_14 hk_14 hS_14 => ?_)
      rw [ht_14] at hb_14
      obtain ⟨hb_141, hb_142, hb_143, hb_144, hb_145⟩ := hb_14
      have hh_14 : jSt (dC, dI) B base G0 G0 EX11_addressed s.heap 0 0 [(open_13, 1, 2, .int size_18), (r0, 13, 7, .ref open_13), (r0, 13, 2, .ref json_3)] [] [(jFl, jLs dC dI ca G0 3 none)] H_14 locs_14 := ((hh_17.call hb_141 hb_142 hb_143 hb_144 hS_14 rfl (L1 := [(open_13, 1, 2, .int size_18), (r0, 13, 7, .ref open_13), (r0, 13, 2, .ref json_3)]) [0, 1, 2] rfl rfl (M1 := []) [] rfl rfl (I1 := [(jFl, jLs dC dI ca G0 3 none)]) [0] rfl rfl).more hb_145)
      clear hh_17 ht_14 hvm_14 hz_14 hk_14 hS_14 hb_141 hb_142 hb_143 hb_144 hb_145
      refine lv_icmp_ge (tgt := 94) hx hb dX11_addressed_44 (by decide) (fun c_19 => ?_) (fun c_19 => ?_)
      · skip
        have c_19' : v2_10.toInt ≥ r_15.toInt := jb_ge (rfl) (rfl) c_19
        refine lv_null hx hb dX11_addressed_94 ?_
        rw [hQ]
        exact W.aret (v := .null) hx hb hr (Or.inl ⟨_, rfl⟩) (Or.inl rfl) (fun t ht hW => ⟨⟨.null, (), rfl, Or.inl rfl, ⟨hh_14.rt (M1 := []) [] rfl ht, by rw [ht]; exact hh_14.2.2.2.2.2.2.2.2.sub (L1 := [(jFl, jLs dC dI ca G0 3 none)]) [0] rfl⟩⟩, by rw [ht]; try exact hh_14.1.1, fun q h9 hq => by rw [ht]; try exact hh_14.1.2.1 q h9 hq⟩) hh_14.1.2.2 dX11_addressed_95
      · skip
        have c_19' : v2_10.toInt < r_15.toInt := jb_ge_n (rfl) (rfl) c_19
        refine lv_aload_n hx hb dX11_addressed_47 rfl (lv_at hl 0 rfl) ?_
        refine j7_read hx hb hown hK (C := RX11) (T := TX11) (N := 19) rfl hly_13_2 hlk_28 (hh_14.at 2 rfl) dX11_addressed_48 ?_
        refine lv_iload_n hx hb dX11_addressed_51 rfl (lv_at hl 1 rfl) ?_
        refine lv_aload_n hx hb dX11_addressed_52 rfl (lv_at hl 0 rfl) ?_
        refine j7_read hx hb hown hK (C := RX11) (T := TX11) (N := 19) rfl hly_13_7 hlk_61 (hh_14.at 1 rfl) dX11_addressed_53 ?_
        refine lv_iload_n hx hb dX11_addressed_56 rfl (lv_at hl 2 rfl) ?_
        refine j_callFx (A0 := jA base) (H0 := s.heap) (va_runF (hK.1 1 _ rfl).2 (As := [.int v2_10]) (rest := [.int r_9, .ref json_3]) ⟨hx, hb, hml, hown, hts⟩ (uJx4a65c_get_915e3L1 l dC dI ca base B hB hAp hB1 hB3 hB221 G0 H_14 open_13 v2_10 size_18) (va_cwF 1 hts (jgF (jWr_28 _ (List.mem_of_getElem? (i := 3) rfl)) (jWr_28 _ (List.mem_of_getElem? (i := 4) rfl)) (jWr_28 _ (List.mem_of_getElem? (i := 5) rfl)) (jWr_2 _ (List.mem_of_getElem? (i := 13) rfl)) (jWr_28 _ (List.mem_of_getElem? (i := 6) rfl))) rfl rfl rfl hK7.2.2.2.2.2.1.2.1 ⟨by decide, by decide, by decide +kernel⟩ ⟨by rw [← hR]; exact Nat.le_of_ble_eq_true rfl, by rw [← hR]; exact Nat.le_of_ble_eq_true rfl⟩) ⟨fun a U g mk q => by obtain ⟨q0, q1, q2, qK, q10, q11, q12, q13, q14⟩ := q; exact ⟨q0, q1, q2, jG.calling g mk a qK, (jK7.calling g mk a q10), q11, q12, q13, q14⟩, hh_14.recv (C := RJx4a65c) (T := TJx4a65c) (N := 3) hB1 rfl (by decide) hg_open_13 hK, fun U hU hW => ⟨rfl, hU, hh_14.2.1, hG.step hW hU hh_14.1, (hK7.step hW hU hh_14.1), hg_open_13, (hh_14.2.2.1.sub (L1 := [(open_13, 1, 2, .int size_18)]) [0] rfl), (hh_14.2.2.2.2.2.2.2.2.sub (L1 := [(jFl, jLs dC dI ca G0 3 none)]) [0] rfl), by first | omega | (refine ⟨?_, ?_⟩ <;> (first | omega | rfl | assumption | decide | exact Or.inl rfl | exact Or.inr rfl | (simp only; omega)))⟩⟩ rfl rfl hl.1 rfl (lv_room (Nat.le_of_ble_eq_true rfl)) dX11_addressed_57 ⟨Nat.zero_le _, Nat.zero_le _⟩) hh_14.1 (fun q _ h => h) (fun q h => h) (fun r_21 u_20 t_20 H_20 locs_20 ht_20 hvm_20 hr_21 hb_20 hz_20 hk_20 hS_20 => ?_)
        rw [ht_20] at hb_20
        obtain ⟨hb_20, hbE_20⟩ := hb_20
        obtain ⟨hb_201, hb_202, hb_203, hb_204, hb_205⟩ := hb_20
        have hh_20 : jSt (dC, dI) B base G0 G0 EX11_addressed s.heap 0 0 [(open_13, 1, 2, .int size_18), (r0, 13, 7, .ref open_13), (r0, 13, 2, .ref json_3)] [] [(jFl, jLs dC dI ca G0 3 none)] H_20 locs_20 := (((hh_14.call hb_201 hb_202 hb_203 hb_204 hS_20 rfl (L1 := [(open_13, 1, 2, .int size_18), (r0, 13, 7, .ref open_13), (r0, 13, 2, .ref json_3)]) [0, 1, 2] rfl rfl (M1 := []) [] rfl rfl (I1 := []) [] rfl rfl).more hb_205)).addIs hbE_20
        clear hh_14 ht_20 hvm_20 hz_20 hk_20 hS_20 hb_201 hb_202 hb_203 hb_204 hb_205
        clear  hbE_20
        obtain ⟨ret_22, rfl, hg_ret_22⟩ := hr_21
        refine va_castY hx hb hown (htw (.classLink RX11 71 "ProofServer$Document") (jWr_27 _ (List.mem_of_getElem? (i := 20) rfl))) hK7.2.2.1.1.2 (hh_20.recv (C := RX1) (T := TX1) (N := 17) hB3 rfl (by decide) hg_ret_22 hK) dX11_addressed_62 ?_
        obtain ⟨v_23, hv_23, hh_24⟩ := hh_20.pin (C := RX1) (T := TX1) (N := 17) hB3 rfl (by decide) hg_ret_22 (i := 0) (by decide) rfl
        clear hh_20
        obtain ⟨uri_25, nuri_25, rfl, hg_uri_25, hn_uri_25⟩ := hv_23
        refine j7_read hx hb hown hK (C := RX1) (T := TX1) (N := 17) rfl hly_3_0 hlk_348 (hh_24.at 0 rfl) dX11_addressed_65 ?_
        refine va_calli (A0 := jA base) (H0 := s.heap) (va_runV (As := [.int r_9, .ref uri_25]) (rest := []) ⟨hx, hb, hml, hown, hts⟩ (uX4_isUnits l dC dI ca base B hB hAp hB6 hB101 hB140 hB141 hB142 hB146 G0 H_20 json_3 r_9 uri_25 nuri_25) (cwV 2 hts (jgV (jWr_28 _ (List.mem_of_getElem? (i := 16) rfl)) (jWr_28 _ (List.mem_of_getElem? (i := 17) rfl)) (jWr_28 _ (List.mem_of_getElem? (i := 18) rfl)) (jWr_1 _ (List.mem_of_getElem? (i := 22) rfl)) (jWr_28 _ (List.mem_of_getElem? (i := 19) rfl))) rfl rfl rfl (by decide +kernel) ⟨by rw [← hR]; exact Nat.le_of_ble_eq_true rfl, by rw [← hR]; exact Nat.le_of_ble_eq_true rfl⟩) ⟨fun a U g mk q => by obtain ⟨q0, q1, q2, qK, q10, q11, q12, q13⟩ := q; exact ⟨q0, q1, q2, jG.calling g mk a qK, q10, q11, q12, q13⟩, hh_24.recv (C := RX4) (T := TX4) (N := 12) hB6 rfl (by decide) hg_json_3 hK, fun U hU hW => ⟨rfl, hU, hh_24.2.1, hG.step hW hU hh_24.1, hg_uri_25, hg_json_3, jP.nil, by first | omega | rfl | assumption | decide | exact Or.inl rfl | exact Or.inr rfl | (simp only; omega)⟩⟩ rfl rfl hl.1 rfl (lv_room (Nat.le_of_ble_eq_true rfl)) dX11_addressed_68 ⟨Nat.zero_le _, Nat.zero_le _⟩) hh_24.1 (fun q _ h => h) (fun q h => h) (fun r_27 u_26 t_26 H_26 locs_26 ht_26 hvm_26 hr_27 hb_26 hz_26 hk_26 hS_26 => ?_)
        rw [ht_26] at hb_26
        obtain ⟨hb_261, hb_262, hb_263, hb_264, hb_265⟩ := hb_26
        have hh_26 : jSt (dC, dI) B base G0 G0 EX11_addressed s.heap 0 0 [(ret_22, 3, 0, .ref uri_25), (open_13, 1, 2, .int size_18), (r0, 13, 7, .ref open_13), (r0, 13, 2, .ref json_3)] [] [(jFl, jLs dC dI ca G0 3 none)] H_26 locs_26 := ((hh_24.call hb_261 hb_262 hb_263 hb_264 hS_26 rfl (L1 := [(ret_22, 3, 0, .ref uri_25), (open_13, 1, 2, .int size_18), (r0, 13, 7, .ref open_13), (r0, 13, 2, .ref json_3)]) [0, 1, 2, 3] rfl rfl (M1 := []) [] rfl rfl (I1 := [(jFl, jLs dC dI ca G0 3 none)]) [0] rfl rfl).more hb_265)
        clear hh_24 ht_26 hvm_26 hz_26 hk_26 hS_26 hb_261 hb_262 hb_263 hb_264 hb_265
        obtain ⟨hr_27b, hr_27p⟩ := hr_27
        have hr_27' := jb_01 hr_27b
        refine lv_if_eq (tgt := 88) hx hb dX11_addressed_71 (by decide) (fun c_28 => ?_) (fun c_28 => ?_)
        · skip
          have c_28' : r_27.toInt = 0 := jb_eq (rfl) ((by decide)) c_28
          obtain ⟨z_29, ez_29⟩ : ∃ y : Int32, y = v2_10 + 1 := ⟨_, rfl⟩
          refine lv_iinc (v := z_29) (lv' := [(2, .int z_29), (0, .ref r0), (1, .int r_9)]) hx hb dX11_addressed_88 hl (k := 2) rfl (by rw [ez_29]; rfl) (by decide) rfl (fun ls hl => ?_)
          have hz_29 : z_29.toInt = v2_10.toInt + 1 := by rw [ez_29]; exact jb_iadd2 (rfl) (by decide) (by omega)
          refine lv_goto (tgt := 34) hx hb dX11_addressed_91 (by decide) ?_
          exact L34 z_29 _ _ (hh_26.sub (L1 := [(r0, 13, 2, .ref json_3)]) [3] rfl (M1 := []) [] rfl (I1 := [(jFl, jLs dC dI ca G0 3 none)]) [0] rfl) (by first | omega | (refine ⟨?_, ?_⟩ <;> (first | omega | rfl | assumption | decide | exact Or.inl rfl | exact Or.inr rfl | (simp only; omega)))) (by omega) _ (lv_sub hl [1, 2, 0] rfl)
        · skip
          have c_28' : r_27.toInt ≠ 0 := jb_eq_n (rfl) ((by decide)) c_28
          refine lv_aload_n hx hb dX11_addressed_74 rfl (lv_at hl 0 rfl) ?_
          refine j7_read hx hb hown hK (C := RX11) (T := TX11) (N := 19) rfl hly_13_7 hlk_61 (hh_26.at 2 rfl) dX11_addressed_75 ?_
          refine lv_iload_n hx hb dX11_addressed_78 rfl (lv_at hl 2 rfl) ?_
          refine j_callFx (A0 := jA base) (H0 := s.heap) (va_runF (hK.1 1 _ rfl).2 (As := [.int v2_10]) (rest := []) ⟨hx, hb, hml, hown, hts⟩ (uJx4a65c_get_915e3L1 l dC dI ca base B hB hAp hB1 hB3 hB221 G0 H_26 open_13 v2_10 size_18) (va_cwF 1 hts (jgF (jWr_28 _ (List.mem_of_getElem? (i := 3) rfl)) (jWr_28 _ (List.mem_of_getElem? (i := 4) rfl)) (jWr_28 _ (List.mem_of_getElem? (i := 5) rfl)) (jWr_2 _ (List.mem_of_getElem? (i := 13) rfl)) (jWr_28 _ (List.mem_of_getElem? (i := 6) rfl))) rfl rfl rfl hK7.2.2.2.2.2.1.2.1 ⟨by decide, by decide, by decide +kernel⟩ ⟨by rw [← hR]; exact Nat.le_of_ble_eq_true rfl, by rw [← hR]; exact Nat.le_of_ble_eq_true rfl⟩) ⟨fun a U g mk q => by obtain ⟨q0, q1, q2, qK, q10, q11, q12, q13, q14⟩ := q; exact ⟨q0, q1, q2, jG.calling g mk a qK, (jK7.calling g mk a q10), q11, q12, q13, q14⟩, hh_26.recv (C := RJx4a65c) (T := TJx4a65c) (N := 3) hB1 rfl (by decide) hg_open_13 hK, fun U hU hW => ⟨rfl, hU, hh_26.2.1, hG.step hW hU hh_26.1, (hK7.step hW hU hh_26.1), hg_open_13, (hh_26.2.2.1.sub (L1 := [(open_13, 1, 2, .int size_18)]) [1] rfl), (hh_26.2.2.2.2.2.2.2.2.sub (L1 := [(jFl, jLs dC dI ca G0 3 none)]) [0] rfl), by first | omega | (refine ⟨?_, ?_⟩ <;> (first | omega | rfl | assumption | decide | exact Or.inl rfl | exact Or.inr rfl | (simp only; omega)))⟩⟩ rfl rfl hl.1 rfl (lv_room (Nat.le_of_ble_eq_true rfl)) dX11_addressed_79 ⟨Nat.zero_le _, Nat.zero_le _⟩) hh_26.1 (fun q _ h => h) (fun q h => h) (fun r_31 u_30 t_30 H_30 locs_30 ht_30 hvm_30 hr_31 hb_30 hz_30 hk_30 hS_30 => ?_)
          rw [ht_30] at hb_30
          obtain ⟨hb_30, hbE_30⟩ := hb_30
          obtain ⟨hb_301, hb_302, hb_303, hb_304, hb_305⟩ := hb_30
          have hh_30 : jSt (dC, dI) B base G0 G0 EX11_addressed s.heap 0 0 [(ret_22, 3, 0, .ref uri_25), (open_13, 1, 2, .int size_18), (r0, 13, 7, .ref open_13), (r0, 13, 2, .ref json_3)] [] [(jFl, jLs dC dI ca G0 3 none)] H_30 locs_30 := (((hh_26.call hb_301 hb_302 hb_303 hb_304 hS_30 rfl (L1 := [(ret_22, 3, 0, .ref uri_25), (open_13, 1, 2, .int size_18), (r0, 13, 7, .ref open_13), (r0, 13, 2, .ref json_3)]) [0, 1, 2, 3] rfl rfl (M1 := []) [] rfl rfl (I1 := []) [] rfl rfl).more hb_305)).addIs hbE_30
          clear hh_26 ht_30 hvm_30 hz_30 hk_30 hS_30 hb_301 hb_302 hb_303 hb_304 hb_305
          clear  hbE_30
          obtain ⟨ret_32, rfl, hg_ret_32⟩ := hr_31
          refine va_castY hx hb hown (htw (.classLink RX11 71 "ProofServer$Document") (jWr_27 _ (List.mem_of_getElem? (i := 20) rfl))) hK7.2.2.1.1.2 (hh_30.recv (C := RX1) (T := TX1) (N := 17) hB3 rfl (by decide) hg_ret_32 hK) dX11_addressed_84 ?_
          rw [hQ]
          exact W.aret (v := .ref ret_32) hx hb hr (Or.inl ⟨_, rfl⟩) (Or.inr ⟨_, rfl⟩) (fun t ht hW => ⟨⟨.ref ret_32, (), rfl, Or.inr ⟨_, rfl, hg_ret_32⟩, ⟨hh_30.rt (M1 := []) [] rfl ht, by rw [ht]; exact hh_30.2.2.2.2.2.2.2.2.sub (L1 := [(jFl, jLs dC dI ca G0 3 none)]) [0] rfl⟩⟩, by rw [ht]; try exact hh_30.1.1, fun q h9 hq => by rw [ht]; try exact hh_30.1.2.1 q h9 hq⟩) hh_30.1.2.2 dX11_addressed_87
  exact L34 (41 - (0 : Int32).toInt : Int).toNat.succ 0 _ _ hh_8 (by first | omega | (refine ⟨?_, ?_⟩ <;> (first | omega | rfl | assumption | decide | exact Or.inl rfl | exact Or.inr rfl | (simp only; omega)))) (by omega) _ (lv_sub hl [2, 1, 0] rfl)
end
section
theorem dX11_aimAtPlace_0 : decode cX11_aimAtPlace 0 = .ok (.aload_n 0, 1) := by decide +kernel
theorem dX11_aimAtPlace_1 : decode cX11_aimAtPlace 1 = .ok (.invokevirtual 359, 3) := by decide +kernel
theorem dX11_aimAtPlace_4 : decode cX11_aimAtPlace 4 = .ok (.astore_n 2, 1) := by decide +kernel
theorem dX11_aimAtPlace_5 : decode cX11_aimAtPlace 5 = .ok (.aload_n 0, 1) := by decide +kernel
theorem dX11_aimAtPlace_6 : decode cX11_aimAtPlace 6 = .ok (.getfield 28, 3) := by decide +kernel
theorem dX11_aimAtPlace_9 : decode cX11_aimAtPlace 9 = .ok (.aload_n 0, 1) := by decide +kernel
theorem dX11_aimAtPlace_10 : decode cX11_aimAtPlace 10 = .ok (.getfield 28, 3) := by decide +kernel
theorem dX11_aimAtPlace_13 : decode cX11_aimAtPlace 13 = .ok (.iconst 0, 1) := by decide +kernel
theorem dX11_aimAtPlace_14 : decode cX11_aimAtPlace 14 = .ok (.ldc_w 271, 3) := by decide +kernel
theorem dX11_aimAtPlace_17 : decode cX11_aimAtPlace 17 = .ok (.invokevirtual 260, 3) := by decide +kernel
theorem dX11_aimAtPlace_20 : decode cX11_aimAtPlace 20 = .ok (.ldc_w 430, 3) := by decide +kernel
theorem dX11_aimAtPlace_23 : decode cX11_aimAtPlace 23 = .ok (.invokevirtual 260, 3) := by decide +kernel
theorem dX11_aimAtPlace_26 : decode cX11_aimAtPlace 26 = .ok (.istore_n 3, 1) := by decide +kernel
theorem dX11_aimAtPlace_27 : decode cX11_aimAtPlace 27 = .ok (.aload_n 2, 1) := by decide +kernel
theorem dX11_aimAtPlace_28 : decode cX11_aimAtPlace 28 = .ok (.ifnonnull 7, 3) := by decide +kernel
theorem dX11_aimAtPlace_31 : decode cX11_aimAtPlace 31 = .ok (.iconst (-1), 1) := by decide +kernel
theorem dX11_aimAtPlace_32 : decode cX11_aimAtPlace 32 = .ok (.goto 9, 3) := by decide +kernel
theorem dX11_aimAtPlace_35 : decode cX11_aimAtPlace 35 = .ok (.aload_n 0, 1) := by decide +kernel
theorem dX11_aimAtPlace_36 : decode cX11_aimAtPlace 36 = .ok (.iload_n 3, 1) := by decide +kernel
theorem dX11_aimAtPlace_37 : decode cX11_aimAtPlace 37 = .ok (.aload_n 2, 1) := by decide +kernel
theorem dX11_aimAtPlace_38 : decode cX11_aimAtPlace 38 = .ok (.invokevirtual 409, 3) := by decide +kernel
theorem dX11_aimAtPlace_41 : decode cX11_aimAtPlace 41 = .ok (.istore 4, 2) := by decide +kernel
theorem dX11_aimAtPlace_43 : decode cX11_aimAtPlace 43 = .ok (.iload 4, 2) := by decide +kernel
theorem dX11_aimAtPlace_45 : decode cX11_aimAtPlace 45 = .ok (.ifCond .ge 5, 3) := by decide +kernel
theorem dX11_aimAtPlace_48 : decode cX11_aimAtPlace 48 = .ok (.iconst 0, 1) := by decide +kernel
theorem dX11_aimAtPlace_49 : decode cX11_aimAtPlace 49 = .ok (.ireturn, 1) := by decide +kernel
theorem dX11_aimAtPlace_50 : decode cX11_aimAtPlace 50 = .ok (.aload_n 1, 1) := by decide +kernel
theorem dX11_aimAtPlace_51 : decode cX11_aimAtPlace 51 = .ok (.aload_n 2, 1) := by decide +kernel
theorem dX11_aimAtPlace_52 : decode cX11_aimAtPlace 52 = .ok (.putfield 432, 3) := by decide +kernel
theorem dX11_aimAtPlace_55 : decode cX11_aimAtPlace 55 = .ok (.aload_n 1, 1) := by decide +kernel
theorem dX11_aimAtPlace_56 : decode cX11_aimAtPlace 56 = .ok (.aload_n 2, 1) := by decide +kernel
theorem dX11_aimAtPlace_57 : decode cX11_aimAtPlace 57 = .ok (.iload 4, 2) := by decide +kernel
theorem dX11_aimAtPlace_59 : decode cX11_aimAtPlace 59 = .ok (.invokevirtual 435, 3) := by decide +kernel
theorem dX11_aimAtPlace_62 : decode cX11_aimAtPlace 62 = .ok (.putfield 438, 3) := by decide +kernel
theorem dX11_aimAtPlace_65 : decode cX11_aimAtPlace 65 = .ok (.iconst 1, 1) := by decide +kernel
theorem dX11_aimAtPlace_66 : decode cX11_aimAtPlace 66 = .ok (.ireturn, 1) := by decide +kernel
def EX11_aimAtPlace : List (Nat × Nat) := [(10, 1), (10, 2)]
set_option maxHeartbeats 4000000 in
set_option maxRecDepth 20000 in
theorem uX11_aimAtPlace (l : Launch) (dC : Nat → ClassId) (dI : Nat → Nat → Nat) (ca : Nat → ClassId) (base : Nat) (B : jF) (hB : jBok B) (hAp : jAp (dC, dI)) (hB1 : ∀ n G a H, B 1 n G a H ↔ jOb (dC, dI) 1 3 (F1 n G) a H) (hB3 : ∀ n G a H, B 3 n G a H ↔ jOb (dC, dI) 3 17 (F3 n G) a H) (hB6 : ∀ n G a H, B 6 n G a H ↔ jOb (dC, dI) 6 12 (F6 n G) a H) (hB10 : ∀ n G a H, B 10 n G a H ↔ jOb (dC, dI) 10 5 (F10 n G) a H) (hB13 : ∀ n G a H, B 13 n G a H ↔ jOb (dC, dI) 13 19 (F13 n G) a H) (hB101 : ∀ n G a H, B 101 n G a H ↔ jAr (dC, dI) (ca 1) (fun j z => True) n a H) (hB140 : ∀ n G a H, B 140 n G a H ↔ jAr (dC, dI) (ca 1) (fun j z => True) n a H) (hB141 : ∀ n G a H, B 141 n G a H ↔ jAr (dC, dI) (ca 1) (fun j z => True) n a H) (hB142 : ∀ n G a H, B 142 n G a H ↔ jAr (dC, dI) (ca 1) (fun j z => True) n a H) (hB143 : ∀ n G a H, B 143 n G a H ↔ jAr (dC, dI) (ca 1) (fun j z => True) n a H) (hB144 : ∀ n G a H, B 144 n G a H ↔ jAr (dC, dI) (ca 1) (fun j z => 0 ≤ z.toInt ∧ z.toInt ≤ 3000) n a H) (hB145 : ∀ n G a H, B 145 n G a H ↔ jAr (dC, dI) (ca 1) (fun j z => True) n a H) (hB146 : ∀ n G a H, B 146 n G a H ↔ jAr (dC, dI) (ca 1) (fun j z => True) n a H) (hB172 : ∀ n G a H, B 172 n G a H ↔ jAr (dC, dI) (ca 1) (fun j z => 0 ≤ z.toInt ∧ z.toInt ≤ 1500) n a H) (hB221 : ∀ n G a H, B 221 n G a H ↔ jAq (dC, dI) (ca 9) (jQn 3 0) n G a H) (G0 : jT) (H0 : Heap) (r0 : Nat) (r1 : Nat) : Met l yX11_aimAtPlace (jw yX11_aimAtPlace cX11_aimAtPlace 5 (some .boolean)) ({ frames := 7, cells := 0, slots := 0, locals := 214 }) (va_Pc [.ref r0, .ref r1] (fun U => U.heap = H0 ∧ jX B base G0 [] H0 ∧ jG dC dI ca base U ∧ jK7 dC dI ca base U ∧ G0 r0 = some (13, 0) ∧ G0 r1 = some (10, 0) ∧ jP (dC, dI) G0 H0 [] ∧ jIs (dC, dI) G0 H0 [(jFl, jLs dC dI ca G0 3 none)] ∧ True)) (va_Qi (S := Unit) (fun r u => (r = 0 ∨ r = 1) ∧ (True)) (fun u t => (jRt (dC, dI) B base G0 EX11_aimAtPlace H0 [] t.heap) ∧ jIs (dC, dI) G0 t.heap [(jFl, jLs dC dI ca G0 3 none)]) (jA base)) 0 0 (jA base) := by
  refine Met.ofW (cc := cX11_aimAtPlace) (maxL := 5) (ret := (some .boolean)) (by decide) rfl ?_
  intro p e s m args below meth c s₁ Bd hml hv
  obtain ⟨rfl, hH0, hX, hG, hK7, hg_r0, hg_r1, hP0, hI0, hp0⟩ := hv
  have hK := hG.1
  have hx := Bd.exec
  have hb := Bd.bytes
  have hr := Bd.returns
  have hts := atoms_spec (ws := (jw yX11_aimAtPlace cX11_aimAtPlace 5 (some .boolean))) Bd.pre
  have htw : ∀ w ∈ jWl, w.before _ s = true := fun w h => hts w (List.mem_cons_of_mem _ h)
  have hown : s.vm.findClass RX11 = some m.cls := findClass_of_methodNamed Bd.named
  have hlocks := Bd.notSynchronized
  obtain ⟨Q, hQ⟩ : ∃ Q, Q = MQ below (va_Qi (S := Unit) (fun r u => (r = 0 ∨ r = 1) ∧ (True)) (fun u t => (jRt (dC, dI) B base G0 EX11_aimAtPlace H0 [] t.heap) ∧ jIs (dC, dI) G0 t.heap [(jFl, jLs dC dI ca G0 3 none)]) (jA base)) ([.ref r0, .ref r1] : List Value).toArray s 0 0 (jA base) := ⟨_, rfl⟩
  rw [← hQ]
  have hl := lv_entry ([.ref r0, .ref r1]) (n := 5) (Nat.le_of_ble_eq_true rfl)
  rw [lg_entry_eq]
  generalize (lg_sl ([.ref r0, .ref r1]) ++ List.replicate (5 - (lg_sl ([.ref r0, .ref r1])).length) Slot.unset).toArray = ls at hl ⊢
  have hl : lv_has ls 5 [(0, .ref r0), (1, .ref r1)] := hl
  generalize hR : (headSpec (jw yX11_aimAtPlace cX11_aimAtPlace 5 (some .boolean)) ({ frames := 7, cells := 0, slots := 0, locals := 214 })).room = R
  subst hH0
  have hh : jSt (dC, dI) B base G0 G0 EX11_aimAtPlace s.heap 0 0 [] [] [(jFl, jLs dC dI ca G0 3 none)] s.heap [] := jSt.start hX hP0 jMc.nil hI0
  clear hX hP0
  have hkm1 : ((-1) : Int32).toInt = (-1) := by decide
  have hk0 : (0 : Int32).toInt = 0 := by decide
  have hk1 : (1 : Int32).toInt = 1 := by decide
  have hly_10_1 := htw (u_lay RX8 TX8 1) (jWc_wsX80 _ (u_in_lay (by decide)))
  have hly_10_2 := htw (u_lay RX8 TX8 2) (jWc_wsX80 _ (u_in_lay (by decide)))
  have hly_13_2 := htw (u_lay RX11 TX11 2) (jWc_wsX110 _ (u_in_lay (by decide)))
  have hlk_28 := (htw (.fieldLink RX11 28 "ProofServer" "json" "LProofServer$Json;") (jWr_1 _ (List.mem_of_getElem? (i := 23) rfl)))
  obtain ⟨str271, rstr271, hstr2710⟩ := hG.str (o := RX11) (k := 271) (tx := "params") (List.mem_of_getElem? (i := 852) (by decide +kernel))
  have hstr271 : jStr base str271 6 s s.heap := hstr2710
  obtain ⟨str430, rstr430, hstr4300⟩ := hG.str (o := RX11) (k := 430) (tx := "position") (List.mem_of_getElem? (i := 912) (by decide +kernel))
  have hstr430 : jStr base str430 8 s s.heap := hstr4300
  have hlk_432 := (htw (.fieldLink RX11 432 "ProofServer$Request" "about" "LProofServer$Document;") (jWr_27 _ (List.mem_of_getElem? (i := 14) rfl)))
  have hlk_438 := (htw (.fieldLink RX11 438 "ProofServer$Request" "needed" "I") (jWr_27 _ (List.mem_of_getElem? (i := 15) rfl)))
  refine lv_aload_n hx hb dX11_aimAtPlace_0 rfl (lv_at hl 0 rfl) ?_
  refine j_callx (A0 := jA base) (H0 := s.heap) (va_runV (As := []) (rest := []) ⟨hx, hb, hml, hown, hts⟩ (uX11_addressed l dC dI ca base B hB hAp hB1 hB3 hB6 hB13 hB101 hB140 hB141 hB142 hB143 hB144 hB145 hB146 hB221 G0 s.heap r0) (cwV 0 hts (jgV (jWr_27 _ (List.mem_of_getElem? (i := 16) rfl)) (jWr_27 _ (List.mem_of_getElem? (i := 17) rfl)) (jWr_27 _ (List.mem_of_getElem? (i := 18) rfl)) (jWr_1 _ (List.mem_of_getElem? (i := 2) rfl)) (jWr_27 _ (List.mem_of_getElem? (i := 19) rfl))) rfl rfl rfl (by decide +kernel) ⟨by rw [← hR]; exact Nat.le_of_ble_eq_true rfl, by rw [← hR]; exact Nat.le_of_ble_eq_true rfl⟩) ⟨fun a U g mk q => by obtain ⟨q0, q1, q2, qK, q10, q11, q12, q13, q14⟩ := q; exact ⟨q0, q1, q2, jG.calling g mk a qK, (jK7.calling g mk a q10), q11, q12, q13, q14⟩, hh.recv (C := RX11) (T := TX11) (N := 19) hB13 rfl (by decide) hg_r0 hK, fun U hU hW => ⟨rfl, hU, hh.2.1, hG.step hW hU hh.1, (hK7.step hW hU hh.1), hg_r0, jP.nil, (hh.2.2.2.2.2.2.2.2.sub (L1 := [(jFl, jLs dC dI ca G0 3 none)]) [0] rfl), trivial⟩⟩ rfl rfl hl.1 rfl (lv_room (Nat.le_of_ble_eq_true rfl)) dX11_aimAtPlace_1 ⟨Nat.zero_le _, Nat.zero_le _⟩) hh.1 (fun q _ h => h) (fun q h => h) (fun r_2 u_1 t_1 H_1 locs_1 ht_1 hvm_1 hr_2 hb_1 hz_1 hk_1 hS_1 => ?_)
  rw [ht_1] at hb_1
  obtain ⟨hb_1, hbE_1⟩ := hb_1
  obtain ⟨hb_11, hb_12, hb_13, hb_14, hb_15⟩ := hb_1
  have hh_1 : jSt (dC, dI) B base G0 G0 EX11_aimAtPlace s.heap 0 0 [] [] [(jFl, jLs dC dI ca G0 3 none)] H_1 locs_1 := (((hh.call hb_11 hb_12 hb_13 hb_14 hS_1 rfl (L1 := []) [] rfl rfl (M1 := []) [] rfl rfl (I1 := []) [] rfl rfl).more hb_15)).addIs hbE_1
  clear hh ht_1 hvm_1 hz_1 hk_1 hS_1 hb_11 hb_12 hb_13 hb_14 hb_15
  clear  hbE_1
  rcases hr_2 with rfl | ⟨ret_3, rfl, hg_ret_3⟩
  · skip
    refine j7_nst_n (lv' := [(2, .null), (0, .ref r0), (1, .ref r1)]) hx hb dX11_aimAtPlace_4 rfl hl (by decide) rfl (fun ls hl => ?_)
    refine lv_aload_n hx hb dX11_aimAtPlace_5 rfl (lv_at hl 1 rfl) ?_
    obtain ⟨v_4, hv_4, hh_5⟩ := hh_1.pin (C := RX11) (T := TX11) (N := 19) hB13 rfl (by decide) hg_r0 (i := 2) (by decide) rfl
    clear hh_1
    obtain ⟨json_6, rfl, hg_json_6⟩ := hv_4
    refine j7_read hx hb hown hK (C := RX11) (T := TX11) (N := 19) rfl hly_13_2 hlk_28 (hh_5.at 0 rfl) dX11_aimAtPlace_6 ?_
    refine lv_aload_n hx hb dX11_aimAtPlace_9 rfl (lv_at hl 1 rfl) ?_
    refine j7_read hx hb hown hK (C := RX11) (T := TX11) (N := 19) rfl hly_13_2 hlk_28 (hh_5.at 0 rfl) dX11_aimAtPlace_10 ?_
    refine lv_iconst (v := 0) hx hb dX11_aimAtPlace_13 (by decide) ?_
    refine j_ldcSw hx hb hown rstr271 dX11_aimAtPlace_14 ?_
    refine va_calli (A0 := jA base) (H0 := s.heap) (va_runV (As := [.int 0, .ref str271]) (rest := [.ref json_6]) ⟨hx, hb, hml, hown, hts⟩ (uX4_member l dC dI ca base B hB hAp hB6 hB140 hB141 hB142 hB143 hB144 hB145 hB146 G0 H_1 json_6 0 str271 6) (cwV 2 hts (jgV (jWr_23 _ (List.mem_of_getElem? (i := 10) rfl)) (jWr_23 _ (List.mem_of_getElem? (i := 11) rfl)) (jWr_23 _ (List.mem_of_getElem? (i := 12) rfl)) (jWr_1 _ (List.mem_of_getElem? (i := 22) rfl)) (jWr_23 _ (List.mem_of_getElem? (i := 13) rfl))) rfl rfl rfl (by decide +kernel) ⟨by rw [← hR]; exact Nat.le_of_ble_eq_true rfl, by rw [← hR]; exact Nat.le_of_ble_eq_true rfl⟩) ⟨fun a U g mk q => by obtain ⟨q0, q1, q2, qK, q10, q11, q12, q13⟩ := q; exact ⟨q0, q1, q2, jG.calling g mk a qK, (q10.moved (Vm.Alike.refl U.vm)), q11, q12, q13⟩, hh_5.recv (C := RX4) (T := TX4) (N := 12) hB6 rfl (by decide) hg_json_6 hK, fun U hU hW => ⟨rfl, hU, hh_5.2.1, hG.step hW hU hh_5.1, (hstr271.moved hW.alike).kept hh_5.1.2.1, hg_json_6, jP.nil, by first | omega | rfl | assumption | decide | exact Or.inl rfl | exact Or.inr rfl | (simp only; omega)⟩⟩ rfl rfl hl.1 rfl (lv_room (Nat.le_of_ble_eq_true rfl)) dX11_aimAtPlace_17 ⟨Nat.zero_le _, Nat.zero_le _⟩) hh_5.1 (fun q _ h => h) (fun q h => h) (fun r_8 u_7 t_7 H_7 locs_7 ht_7 hvm_7 hr_8 hb_7 hz_7 hk_7 hS_7 => ?_)
    rw [ht_7] at hb_7
    obtain ⟨hb_71, hb_72, hb_73, hb_74, hb_75⟩ := hb_7
    have hh_7 : jSt (dC, dI) B base G0 G0 EX11_aimAtPlace s.heap 0 0 [(r0, 13, 2, .ref json_6)] [] [(jFl, jLs dC dI ca G0 3 none)] H_7 locs_7 := ((hh_5.call hb_71 hb_72 hb_73 hb_74 hS_7 rfl (L1 := [(r0, 13, 2, .ref json_6)]) [0] rfl rfl (M1 := []) [] rfl rfl (I1 := [(jFl, jLs dC dI ca G0 3 none)]) [0] rfl rfl).more hb_75)
    clear hh_5 ht_7 hvm_7 hz_7 hk_7 hS_7 hb_71 hb_72 hb_73 hb_74 hb_75
    obtain ⟨hr_8_0, hr_8_1⟩ := hr_8
    refine j_ldcSw hx hb hown rstr430 dX11_aimAtPlace_20 ?_
    refine va_calli (A0 := jA base) (H0 := s.heap) (va_runV (As := [.int r_8, .ref str430]) (rest := []) ⟨hx, hb, hml, hown, hts⟩ (uX4_member l dC dI ca base B hB hAp hB6 hB140 hB141 hB142 hB143 hB144 hB145 hB146 G0 H_7 json_6 r_8 str430 8) (cwV 2 hts (jgV (jWr_23 _ (List.mem_of_getElem? (i := 10) rfl)) (jWr_23 _ (List.mem_of_getElem? (i := 11) rfl)) (jWr_23 _ (List.mem_of_getElem? (i := 12) rfl)) (jWr_1 _ (List.mem_of_getElem? (i := 22) rfl)) (jWr_23 _ (List.mem_of_getElem? (i := 13) rfl))) rfl rfl rfl (by decide +kernel) ⟨by rw [← hR]; exact Nat.le_of_ble_eq_true rfl, by rw [← hR]; exact Nat.le_of_ble_eq_true rfl⟩) ⟨fun a U g mk q => by obtain ⟨q0, q1, q2, qK, q10, q11, q12, q13⟩ := q; exact ⟨q0, q1, q2, jG.calling g mk a qK, (q10.moved (Vm.Alike.refl U.vm)), q11, q12, q13⟩, hh_7.recv (C := RX4) (T := TX4) (N := 12) hB6 rfl (by decide) hg_json_6 hK, fun U hU hW => ⟨rfl, hU, hh_7.2.1, hG.step hW hU hh_7.1, (hstr430.moved hW.alike).kept hh_7.1.2.1, hg_json_6, jP.nil, by first | omega | rfl | assumption | decide | exact Or.inl rfl | exact Or.inr rfl | (simp only; omega)⟩⟩ rfl rfl hl.1 rfl (lv_room (Nat.le_of_ble_eq_true rfl)) dX11_aimAtPlace_23 ⟨Nat.zero_le _, Nat.zero_le _⟩) hh_7.1 (fun q _ h => h) (fun q h => h) (fun r_10 u_9 t_9 H_9 locs_9 ht_9 hvm_9 hr_10 hb_9 hz_9 hk_9 hS_9 => ?_)
    rw [ht_9] at hb_9
    obtain ⟨hb_91, hb_92, hb_93, hb_94, hb_95⟩ := hb_9
    have hh_9 : jSt (dC, dI) B base G0 G0 EX11_aimAtPlace s.heap 0 0 [(r0, 13, 2, .ref json_6)] [] [(jFl, jLs dC dI ca G0 3 none)] H_9 locs_9 := ((hh_7.call hb_91 hb_92 hb_93 hb_94 hS_9 rfl (L1 := [(r0, 13, 2, .ref json_6)]) [0] rfl rfl (M1 := []) [] rfl rfl (I1 := [(jFl, jLs dC dI ca G0 3 none)]) [0] rfl rfl).more hb_95)
    clear hh_7 ht_9 hvm_9 hz_9 hk_9 hS_9 hb_91 hb_92 hb_93 hb_94 hb_95
    obtain ⟨hr_10_0, hr_10_1⟩ := hr_10
    refine lv_istore_n (lv' := [(3, .int r_10), (2, .null), (0, .ref r0), (1, .ref r1)]) hx hb dX11_aimAtPlace_26 rfl hl (by decide) rfl (fun ls hl => ?_)
    refine j7_nld_n hx hb dX11_aimAtPlace_27 rfl (lv_at hl 1 rfl) ?_
    refine lv_ifnonnullN hx hb dX11_aimAtPlace_28 ?_
    refine lv_iconst (v := (-1)) hx hb dX11_aimAtPlace_31 (by decide) ?_
    refine lv_goto (tgt := 41) hx hb dX11_aimAtPlace_32 (by decide) ?_
    refine lv_istore (lv' := [(4, .int (-1)), (3, .int r_10), (2, .null), (0, .ref r0), (1, .ref r1)]) hx hb dX11_aimAtPlace_41 hl (by decide) rfl (fun ls hl => ?_)
    refine lv_iload hx hb dX11_aimAtPlace_43 (lv_at hl 0 rfl) ?_
    refine lv_if_ge (tgt := 50) hx hb dX11_aimAtPlace_45 (by decide) (fun c_11 => ?_) (fun c_11 => ?_)
    · skip
      exact absurd c_11 (by decide)
    · skip
      refine lv_iconst (v := 0) hx hb dX11_aimAtPlace_48 (by decide) ?_
      rw [hQ]
      exact W.zret (v := 0) hx hb hr (jb_nz (Or.inl rfl)) (fun t ht hW => ⟨⟨0, (), rfl, ⟨(Or.inl rfl), trivial⟩, ⟨hh_9.rt (M1 := []) [] rfl ht, by rw [ht]; exact hh_9.2.2.2.2.2.2.2.2.sub (L1 := [(jFl, jLs dC dI ca G0 3 none)]) [0] rfl⟩⟩, by rw [ht]; try exact hh_9.1.1, fun q h9 hq => by rw [ht]; try exact hh_9.1.2.1 q h9 hq⟩) hh_9.1.2.2 dX11_aimAtPlace_49
  · skip
    refine lv_astore_n (lv' := [(2, .ref ret_3), (0, .ref r0), (1, .ref r1)]) hx hb dX11_aimAtPlace_4 rfl hl (by decide) rfl (fun ls hl => ?_)
    refine lv_aload_n hx hb dX11_aimAtPlace_5 rfl (lv_at hl 1 rfl) ?_
    obtain ⟨v_12, hv_12, hh_13⟩ := hh_1.pin (C := RX11) (T := TX11) (N := 19) hB13 rfl (by decide) hg_r0 (i := 2) (by decide) rfl
    clear hh_1
    obtain ⟨json_14, rfl, hg_json_14⟩ := hv_12
    refine j7_read hx hb hown hK (C := RX11) (T := TX11) (N := 19) rfl hly_13_2 hlk_28 (hh_13.at 0 rfl) dX11_aimAtPlace_6 ?_
    refine lv_aload_n hx hb dX11_aimAtPlace_9 rfl (lv_at hl 1 rfl) ?_
    refine j7_read hx hb hown hK (C := RX11) (T := TX11) (N := 19) rfl hly_13_2 hlk_28 (hh_13.at 0 rfl) dX11_aimAtPlace_10 ?_
    refine lv_iconst (v := 0) hx hb dX11_aimAtPlace_13 (by decide) ?_
    refine j_ldcSw hx hb hown rstr271 dX11_aimAtPlace_14 ?_
    refine va_calli (A0 := jA base) (H0 := s.heap) (va_runV (As := [.int 0, .ref str271]) (rest := [.ref json_14]) ⟨hx, hb, hml, hown, hts⟩ (uX4_member l dC dI ca base B hB hAp hB6 hB140 hB141 hB142 hB143 hB144 hB145 hB146 G0 H_1 json_14 0 str271 6) (cwV 2 hts (jgV (jWr_23 _ (List.mem_of_getElem? (i := 10) rfl)) (jWr_23 _ (List.mem_of_getElem? (i := 11) rfl)) (jWr_23 _ (List.mem_of_getElem? (i := 12) rfl)) (jWr_1 _ (List.mem_of_getElem? (i := 22) rfl)) (jWr_23 _ (List.mem_of_getElem? (i := 13) rfl))) rfl rfl rfl (by decide +kernel) ⟨by rw [← hR]; exact Nat.le_of_ble_eq_true rfl, by rw [← hR]; exact Nat.le_of_ble_eq_true rfl⟩) ⟨fun a U g mk q => by obtain ⟨q0, q1, q2, qK, q10, q11, q12, q13⟩ := q; exact ⟨q0, q1, q2, jG.calling g mk a qK, (q10.moved (Vm.Alike.refl U.vm)), q11, q12, q13⟩, hh_13.recv (C := RX4) (T := TX4) (N := 12) hB6 rfl (by decide) hg_json_14 hK, fun U hU hW => ⟨rfl, hU, hh_13.2.1, hG.step hW hU hh_13.1, (hstr271.moved hW.alike).kept hh_13.1.2.1, hg_json_14, jP.nil, by first | omega | rfl | assumption | decide | exact Or.inl rfl | exact Or.inr rfl | (simp only; omega)⟩⟩ rfl rfl hl.1 rfl (lv_room (Nat.le_of_ble_eq_true rfl)) dX11_aimAtPlace_17 ⟨Nat.zero_le _, Nat.zero_le _⟩) hh_13.1 (fun q _ h => h) (fun q h => h) (fun r_16 u_15 t_15 H_15 locs_15 ht_15 hvm_15 hr_16 hb_15 hz_15 hk_15 hS_15 => ?_)
    rw [ht_15] at hb_15
    obtain ⟨hb_151, hb_152, hb_153, hb_154, hb_155⟩ := hb_15
    have hh_15 : jSt (dC, dI) B base G0 G0 EX11_aimAtPlace s.heap 0 0 [(r0, 13, 2, .ref json_14)] [] [(jFl, jLs dC dI ca G0 3 none)] H_15 locs_15 := ((hh_13.call hb_151 hb_152 hb_153 hb_154 hS_15 rfl (L1 := [(r0, 13, 2, .ref json_14)]) [0] rfl rfl (M1 := []) [] rfl rfl (I1 := [(jFl, jLs dC dI ca G0 3 none)]) [0] rfl rfl).more hb_155)
    clear hh_13 ht_15 hvm_15 hz_15 hk_15 hS_15 hb_151 hb_152 hb_153 hb_154 hb_155
    obtain ⟨hr_16_0, hr_16_1⟩ := hr_16
    refine j_ldcSw hx hb hown rstr430 dX11_aimAtPlace_20 ?_
    refine va_calli (A0 := jA base) (H0 := s.heap) (va_runV (As := [.int r_16, .ref str430]) (rest := []) ⟨hx, hb, hml, hown, hts⟩ (uX4_member l dC dI ca base B hB hAp hB6 hB140 hB141 hB142 hB143 hB144 hB145 hB146 G0 H_15 json_14 r_16 str430 8) (cwV 2 hts (jgV (jWr_23 _ (List.mem_of_getElem? (i := 10) rfl)) (jWr_23 _ (List.mem_of_getElem? (i := 11) rfl)) (jWr_23 _ (List.mem_of_getElem? (i := 12) rfl)) (jWr_1 _ (List.mem_of_getElem? (i := 22) rfl)) (jWr_23 _ (List.mem_of_getElem? (i := 13) rfl))) rfl rfl rfl (by decide +kernel) ⟨by rw [← hR]; exact Nat.le_of_ble_eq_true rfl, by rw [← hR]; exact Nat.le_of_ble_eq_true rfl⟩) ⟨fun a U g mk q => by obtain ⟨q0, q1, q2, qK, q10, q11, q12, q13⟩ := q; exact ⟨q0, q1, q2, jG.calling g mk a qK, (q10.moved (Vm.Alike.refl U.vm)), q11, q12, q13⟩, hh_15.recv (C := RX4) (T := TX4) (N := 12) hB6 rfl (by decide) hg_json_14 hK, fun U hU hW => ⟨rfl, hU, hh_15.2.1, hG.step hW hU hh_15.1, (hstr430.moved hW.alike).kept hh_15.1.2.1, hg_json_14, jP.nil, by first | omega | rfl | assumption | decide | exact Or.inl rfl | exact Or.inr rfl | (simp only; omega)⟩⟩ rfl rfl hl.1 rfl (lv_room (Nat.le_of_ble_eq_true rfl)) dX11_aimAtPlace_23 ⟨Nat.zero_le _, Nat.zero_le _⟩) hh_15.1 (fun q _ h => h) (fun q h => h) (fun r_18 u_17 t_17 H_17 locs_17 ht_17 hvm_17 hr_18 hb_17 hz_17 hk_17 hS_17 => ?_)
    rw [ht_17] at hb_17
    obtain ⟨hb_171, hb_172, hb_173, hb_174, hb_175⟩ := hb_17
    have hh_17 : jSt (dC, dI) B base G0 G0 EX11_aimAtPlace s.heap 0 0 [(r0, 13, 2, .ref json_14)] [] [(jFl, jLs dC dI ca G0 3 none)] H_17 locs_17 := ((hh_15.call hb_171 hb_172 hb_173 hb_174 hS_17 rfl (L1 := [(r0, 13, 2, .ref json_14)]) [0] rfl rfl (M1 := []) [] rfl rfl (I1 := [(jFl, jLs dC dI ca G0 3 none)]) [0] rfl rfl).more hb_175)
    clear hh_15 ht_17 hvm_17 hz_17 hk_17 hS_17 hb_171 hb_172 hb_173 hb_174 hb_175
    obtain ⟨hr_18_0, hr_18_1⟩ := hr_18
    refine lv_istore_n (lv' := [(3, .int r_18), (2, .ref ret_3), (0, .ref r0), (1, .ref r1)]) hx hb dX11_aimAtPlace_26 rfl hl (by decide) rfl (fun ls hl => ?_)
    refine lv_aload_n hx hb dX11_aimAtPlace_27 rfl (lv_at hl 1 rfl) ?_
    refine lv_ifnonnull (tgt := 35) hx hb dX11_aimAtPlace_28 (by decide) ?_
    refine lv_aload_n hx hb dX11_aimAtPlace_35 rfl (lv_at hl 2 rfl) ?_
    refine lv_iload_n hx hb dX11_aimAtPlace_36 rfl (lv_at hl 0 rfl) ?_
    refine lv_aload_n hx hb dX11_aimAtPlace_37 rfl (lv_at hl 1 rfl) ?_
    refine va_calli (A0 := jA base) (H0 := s.heap) (va_runV (As := [.int r_18, .ref ret_3]) (rest := []) ⟨hx, hb, hml, hown, hts⟩ (uX11_placeTold l dC dI ca base B hB hAp hB3 hB6 hB13 hB101 hB140 hB141 hB142 hB143 hB144 hB145 hB146 G0 H_17 r0 r_18 ret_3 0) (cwV 2 hts (jgV (jWr_28 _ (List.mem_of_getElem? (i := 20) rfl)) (jWr_28 _ (List.mem_of_getElem? (i := 21) rfl)) (jWr_28 _ (List.mem_of_getElem? (i := 22) rfl)) (jWr_1 _ (List.mem_of_getElem? (i := 2) rfl)) (jWr_28 _ (List.mem_of_getElem? (i := 23) rfl))) rfl rfl rfl (by decide +kernel) ⟨by rw [← hR]; exact Nat.le_of_ble_eq_true rfl, by rw [← hR]; exact Nat.le_of_ble_eq_true rfl⟩) ⟨fun a U g mk q => by obtain ⟨q0, q1, q2, qK, q10, q11, q12, q13⟩ := q; exact ⟨q0, q1, q2, jG.calling g mk a qK, q10, q11, q12, q13⟩, hh_17.recv (C := RX11) (T := TX11) (N := 19) hB13 rfl (by decide) hg_r0 hK, fun U hU hW => ⟨rfl, hU, hh_17.2.1, hG.step hW hU hh_17.1, hg_r0, hg_ret_3, jP.nil, trivial⟩⟩ rfl rfl hl.1 rfl (lv_room (Nat.le_of_ble_eq_true rfl)) dX11_aimAtPlace_38 ⟨Nat.zero_le _, Nat.zero_le _⟩) hh_17.1 (fun q _ h => h) (fun q h => h) (fun r_20 u_19 t_19 H_19 locs_19 ht_19 hvm_19 hr_20 hb_19 hz_19 hk_19 hS_19 => ?_)
    rw [ht_19] at hb_19
    obtain ⟨hb_191, hb_192, hb_193, hb_194, hb_195⟩ := hb_19
    have hh_19 : jSt (dC, dI) B base G0 G0 EX11_aimAtPlace s.heap 0 0 [(r0, 13, 2, .ref json_14)] [] [(jFl, jLs dC dI ca G0 3 none)] H_19 locs_19 := ((hh_17.call hb_191 hb_192 hb_193 hb_194 hS_19 rfl (L1 := [(r0, 13, 2, .ref json_14)]) [0] rfl rfl (M1 := []) [] rfl rfl (I1 := [(jFl, jLs dC dI ca G0 3 none)]) [0] rfl rfl).more hb_195)
    clear hh_17 ht_19 hvm_19 hz_19 hk_19 hS_19 hb_191 hb_192 hb_193 hb_194 hb_195
    refine lv_istore (lv' := [(4, .int r_20), (3, .int r_18), (2, .ref ret_3), (0, .ref r0), (1, .ref r1)]) hx hb dX11_aimAtPlace_41 hl (by decide) rfl (fun ls hl => ?_)
    refine lv_iload hx hb dX11_aimAtPlace_43 (lv_at hl 0 rfl) ?_
    refine lv_if_ge (tgt := 50) hx hb dX11_aimAtPlace_45 (by decide) (fun c_21 => ?_) (fun c_21 => ?_)
    · skip
      have c_21' : r_20.toInt ≥ 0 := jb_ge (rfl) ((by decide)) c_21
      refine lv_aload_n hx hb dX11_aimAtPlace_50 rfl (lv_at hl 4 rfl) ?_
      refine lv_aload_n hx hb dX11_aimAtPlace_51 rfl (lv_at hl 2 rfl) ?_
      refine j7_put hx hb hown hK hh_19 hB hAp hB10 (C := RX8) (T := TX8) (N := 5) rfl (by decide) hg_r1 (i := 1) (by decide) hly_10_1 rfl hlk_432 rfl (ty := (.object "ProofServer$Document")) (v := .ref ret_3) (by decide +kernel) rfl rfl (Or.inr ⟨_, rfl, hg_ret_3⟩) rfl (L1 := [(r0, 13, 2, .ref json_14)]) [0] rfl rfl rfl dX11_aimAtPlace_52 (fun H_22 locs_22 hh_22 => ?_)
      clear hh_19
      refine lv_aload_n hx hb dX11_aimAtPlace_55 rfl (lv_at hl 4 rfl) ?_
      refine lv_aload_n hx hb dX11_aimAtPlace_56 rfl (lv_at hl 2 rfl) ?_
      refine lv_iload hx hb dX11_aimAtPlace_57 (lv_at hl 0 rfl) ?_
      refine va_calli (A0 := jA base) (H0 := s.heap) (va_runV (As := [.int r_20]) (rest := [.ref r1]) ⟨hx, hb, hml, hown, hts⟩ (uX1_endedBy l dC dI ca base B hB hAp hB3 hB172 G0 H_22 ret_3 r_20) (cwV 1 hts (jgV (jWr_29 _ (List.mem_of_getElem? (i := 10) rfl)) (jWr_29 _ (List.mem_of_getElem? (i := 11) rfl)) (jWr_29 _ (List.mem_of_getElem? (i := 12) rfl)) (jWr_2 _ (List.mem_of_getElem? (i := 21) rfl)) (jWr_29 _ (List.mem_of_getElem? (i := 13) rfl))) rfl rfl rfl (by decide +kernel) ⟨by rw [← hR]; exact Nat.le_of_ble_eq_true rfl, by rw [← hR]; exact Nat.le_of_ble_eq_true rfl⟩) ⟨fun a U g mk q => by obtain ⟨q0, q1, q2, qK, q10, q11, q12⟩ := q; exact ⟨q0, q1, q2, jG.calling g mk a qK, q10, q11, q12⟩, hh_22.recv (C := RX1) (T := TX1) (N := 17) hB3 rfl (by decide) hg_ret_3 hK, fun U hU hW => ⟨rfl, hU, hh_22.2.1, hG.step hW hU hh_22.1, hg_ret_3, jP.nil, trivial⟩⟩ rfl rfl hl.1 rfl (lv_room (Nat.le_of_ble_eq_true rfl)) dX11_aimAtPlace_59 ⟨Nat.zero_le _, Nat.zero_le _⟩) hh_22.1 (fun q _ h => h) (fun q h => h) (fun r_24 u_23 t_23 H_23 locs_23 ht_23 hvm_23 hr_24 hb_23 hz_23 hk_23 hS_23 => ?_)
      rw [ht_23] at hb_23
      obtain ⟨hb_231, hb_232, hb_233, hb_234, hb_235⟩ := hb_23
      have hh_23 : jSt (dC, dI) B base G0 G0 EX11_aimAtPlace s.heap 0 0 [(r1, 10, 1, .ref ret_3), (r0, 13, 2, .ref json_14)] [] [(jFl, jLs dC dI ca G0 3 none)] H_23 locs_23 := ((hh_22.call hb_231 hb_232 hb_233 hb_234 hS_23 rfl (L1 := [(r1, 10, 1, .ref ret_3), (r0, 13, 2, .ref json_14)]) [0, 1] rfl rfl (M1 := []) [] rfl rfl (I1 := [(jFl, jLs dC dI ca G0 3 none)]) [0] rfl rfl).more hb_235)
      clear hh_22 ht_23 hvm_23 hz_23 hk_23 hS_23 hb_231 hb_232 hb_233 hb_234 hb_235
      obtain ⟨hr_24_0, hr_24_1⟩ := hr_24
      refine j7_put hx hb hown hK hh_23 hB hAp hB10 (C := RX8) (T := TX8) (N := 5) rfl (by decide) hg_r1 (i := 2) (by decide) hly_10_2 rfl hlk_438 rfl (ty := .int) (v := .int r_24) (by decide +kernel) rfl rfl (⟨_, rfl⟩) rfl (L1 := [(r1, 10, 1, .ref ret_3), (r0, 13, 2, .ref json_14)]) [0, 1] rfl rfl rfl dX11_aimAtPlace_62 (fun H_25 locs_25 hh_25 => ?_)
      clear hh_23
      refine lv_iconst (v := 1) hx hb dX11_aimAtPlace_65 (by decide) ?_
      rw [hQ]
      exact W.zret (v := 1) hx hb hr (jb_nz (Or.inr rfl)) (fun t ht hW => ⟨⟨1, (), rfl, ⟨(Or.inr rfl), trivial⟩, ⟨hh_25.rt (M1 := []) [] rfl ht, by rw [ht]; exact hh_25.2.2.2.2.2.2.2.2.sub (L1 := [(jFl, jLs dC dI ca G0 3 none)]) [0] rfl⟩⟩, by rw [ht]; try exact hh_25.1.1, fun q h9 hq => by rw [ht]; try exact hh_25.1.2.1 q h9 hq⟩) hh_25.1.2.2 dX11_aimAtPlace_66
    · skip
      have c_21' : r_20.toInt < 0 := jb_ge_n (rfl) ((by decide)) c_21
      refine lv_iconst (v := 0) hx hb dX11_aimAtPlace_48 (by decide) ?_
      rw [hQ]
      exact W.zret (v := 0) hx hb hr (jb_nz (Or.inl rfl)) (fun t ht hW => ⟨⟨0, (), rfl, ⟨(Or.inl rfl), trivial⟩, ⟨hh_19.rt (M1 := []) [] rfl ht, by rw [ht]; exact hh_19.2.2.2.2.2.2.2.2.sub (L1 := [(jFl, jLs dC dI ca G0 3 none)]) [0] rfl⟩⟩, by rw [ht]; try exact hh_19.1.1, fun q h9 hq => by rw [ht]; try exact hh_19.1.2.1 q h9 hq⟩) hh_19.1.2.2 dX11_aimAtPlace_49
end
section
-- an array of ints is cloned
def jK8 (U : State) : Prop := va_Nw (.castable "[I" "java/lang/Cloneable") U
theorem jK8.calling {U : State} (g : JFrame) (mk : MethodId) (a : Array Value) (h : jK8 U) : jK8 (U.calling g mk a) := va_Nw.same rfl rfl h
section J40
variable {p : Program} {l : Launch} {e : Env} {R : Room} {s : State} {m : MethodId} {args : Array Value} {below : List Frame} {meth : Method} {c : Code} {H : Heap} {locs : List Loc} {cells slots : Nat} {Q : State → Prop}
variable {cc : ByteArray} {pc : Nat} {ls : Array Slot} {rest : List Value} {dC : Nat → ClassId} {dI : Nat → Nat → Nat} {B : jF} {base : Nat} {G0 G : jT} {E : List (Nat × Nat)} {H0 : Heap} {zc zs : Nat} {L : List jPin} {M : List jCt} {I : List jIv} {a k n index : Nat} {tys : List (ClassId × FieldType)} {own : String}
end J40
end
section
-- what reading JSON leaves: the strings and keys of the values stand apart among the units, and take bytes
abbrev jC := (Nat → Int32) × (Nat → Int32) × (Nat → Int32) × (Nat → Int32) × (Nat → Int32)
def jln (C : jC) (e : Nat) : Int := if e % 2 = 0 then (if jSo C.1 ((e / 2 : Nat) : Int) = 3 then jSo C.2.2.1 ((e / 2 : Nat) : Int) else 0) else jSo C.2.2.2.2 ((e / 2 : Nat) : Int)
def jlo (C : jC) (e : Nat) : Int := if e % 2 = 0 then (if jSo C.1 ((e / 2 : Nat) : Int) = 3 then jSo C.2.1 ((e / 2 : Nat) : Int) else 0) else jSo C.2.2.2.1 ((e / 2 : Nat) : Int)
def jE5 (C D : jC) (i : Int) : Prop := jSo D.1 i = jSo C.1 i ∧ jSo D.2.1 i = jSo C.2.1 i ∧ jSo D.2.2.1 i = jSo C.2.2.1 i ∧ jSo D.2.2.2.1 i = jSo C.2.2.2.1 i ∧ jSo D.2.2.2.2 i = jSo C.2.2.2.2 i
theorem jE5.ln {C D : jC} {e : Nat} (h : jE5 C D ((e / 2 : Nat) : Int)) : jln D e = jln C e := by
  obtain ⟨h1, h2, h3, h4, h5⟩ := h
  unfold jln
  rw [h1, h3, h5]
theorem jE5.lo {C D : jC} {e : Nat} (h : jE5 C D ((e / 2 : Nat) : Int)) : jlo D e = jlo C e := by
  obtain ⟨h1, h2, h3, h4, h5⟩ := h
  unfold jlo
  rw [h1, h2, h4]
def jDjn (D : jC) (e e' : Nat) : Prop := jln D e = 0 ∨ jln D e' = 0 ∨ jlo D e + jln D e ≤ jlo D e' ∨ jlo D e' + jln D e' ≤ jlo D e
def jJr (C : jC) (pv pu : Int) (D : jC) (qv qu : Int) : Prop := (0 ≤ pv ∧ pv ≤ qv ∧ 0 ≤ pu ∧ pu ≤ qu) ∧ (∀ i : Int, 0 ≤ i → i < pv → jE5 C D i) ∧
  (∀ e : Nat, 2 * pv ≤ e → (e : Int) < 2 * qv → (0 ≤ jln D e ∧ 0 ≤ jlo D e ∧ jlo D e + jln D e ≤ qu) ∧ (jln D e = 0 ∨ pu ≤ jlo D e)) ∧
  (∀ e e' : Nat, 2 * pv ≤ e → (e : Int) < 2 * qv → 2 * pv ≤ e' → (e' : Int) < 2 * qv → e ≠ e' → jDjn D e e')
theorem jJr.rf {C : jC} {pv pu : Int} (h0 : 0 ≤ pv) (h1 : 0 ≤ pu) : jJr C pv pu C pv pu := ⟨⟨h0, by omega, h1, by omega⟩, fun _ _ _ => ⟨rfl, rfl, rfl, rfl, rfl⟩, fun e h1 h2 => by omega, fun e _ h1 h2 => by omega⟩
theorem jJr.up {C D : jC} {pv pu qv qu qu' : Int} (h : jJr C pv pu D qv qu) (hq : qu ≤ qu') : jJr C pv pu D qv qu' := by
  obtain ⟨h1, h2, h3, h4⟩ := h
  refine ⟨by omega, h2, fun e a b => ?_, h4⟩
  have := h3 e a b
  omega
theorem jJr.tr {C D E : jC} {pv pu qv qu rv ru : Int} (h : jJr C pv pu D qv qu) (g : jJr D qv qu E rv ru) : jJr C pv pu E rv ru := by
  obtain ⟨h1, h2, h3, h4⟩ := h
  obtain ⟨g1, g2, g3, g4⟩ := g
  have key : ∀ e : Nat, (e : Int) < 2 * qv → jE5 D E ((e / 2 : Nat) : Int) := fun e he => g2 _ (by omega) (by omega)
  refine ⟨by omega, fun i a b => ?_, fun e a b => ?_, fun e e' a b c d ne => ?_⟩
  · obtain ⟨x1, x2, x3, x4, x5⟩ := h2 i a b
    obtain ⟨y1, y2, y3, y4, y5⟩ := g2 i a (by omega)
    exact ⟨y1.trans x1, y2.trans x2, y3.trans x3, y4.trans x4, y5.trans x5⟩
  · by_cases q : (e : Int) < 2 * qv
    · have := h3 e a q
      rw [(key e q).ln, (key e q).lo]
      omega
    · have := g3 e (by omega) b
      omega
  · by_cases q : (e : Int) < 2 * qv
    · by_cases q' : (e' : Int) < 2 * qv
      · have := h4 e e' a q c q' ne
        unfold jDjn at this ⊢
        rw [(key e q).ln, (key e q).lo, (key e' q').ln, (key e' q').lo]
        exact this
      · have x := h3 e a q
        have y := g3 e' (by omega) d
        unfold jDjn
        rw [(key e q).ln, (key e q).lo]
        omega
    · by_cases q' : (e' : Int) < 2 * qv
      · have x := h3 e' c q'
        have y := g3 e (by omega) b
        unfold jDjn
        rw [(key e' q').ln, (key e' q').lo]
        omega
      · exact g4 e e' (by omega) b (by omega) d ne
/-- the bytes that values take beside their units -/
def jSb (f : Nat → Int32) : Nat → Int
  | 0 => 0
  | n + 1 => jSb f n + (if 1 ≤ (f n).toInt then 5 else 2)
theorem jSb.cg {f g : Nat → Int32} : ∀ (n : Nat), (∀ i, i < n → g i = f i ∨ (g i).toInt = (f i).toInt) → jSb g n = jSb f n
  | 0, _ => rfl
  | n + 1, h => by
    have h1 := jSb.cg n (fun i hi => h i (by omega))
    have h2 : (g n).toInt = (f n).toInt := by
      rcases h n (by omega) with e | e
      · rw [e]
      · exact e
    show jSb g n + _ = jSb f n + _
    rw [h1, h2]
theorem jSb.lo (f : Nat → Int32) : ∀ n : Nat, 2 * (n : Int) ≤ jSb f n
  | 0 => by show (2 : Int) * 0 ≤ 0; omega
  | n + 1 => by
    have h1 := jSb.lo f n
    show 2 * ((n + 1 : Nat) : Int) ≤ jSb f n + _
    split <;> omega
/-- a value is read: r is its number -/
def jVr (C : jC) (pv pu pt : Int) (D : jC) (qv qu qt r : Int) : Prop := jJr C pv pu D qv qu ∧ (r < 0 ∨ (pv ≤ r ∧ r < qv ∧ jSo D.2.2.2.2 r = 0 ∧ qu - pu + (jSb D.2.2.2.2 qv.toNat - jSb C.2.2.2.2 pv.toNat) ≤ qt - pt + 1))
theorem jSb.suc {f : Nat → Int32} {n m : Int} (h0 : 0 ≤ n) (hm : m = n + 1) (h : jSo f n = 0) : jSb f m.toNat = jSb f n.toNat + 2 := by
  have e : m.toNat = n.toNat + 1 := by omega
  rw [e]
  show jSb f n.toNat + _ = _
  unfold jSo at h
  rw [h, if_neg (by omega : ¬ (1 : Int) ≤ 0)]
theorem jVr.cg {C : jC} {C' : jC} {pv pu pt : Int} {D : jC} {qv qu qt r : Int} (e : C' = C) (h : jVr C' pv pu pt D qv qu qt r) : jVr C pv pu pt D qv qu qt r := e ▸ h
theorem jVr.root {C D : jC} {a b pt qv qu qt r e : Int} (h : jVr C a b pt D qv qu qt r) (ha : a = 0) (hb : b = 0) (hr : r = 0) (hp : 0 ≤ pt) (he : qt ≤ e) : 1 ≤ qv ∧ qu + jSb D.2.2.2.2 qv.toNat ≤ e + 1 := by
  subst ha hb
  rcases h.2 with h | ⟨h1, h2, h3, h4⟩
  · omega
  · have e : jSb C.2.2.2.2 (0 : Int).toNat = 0 := rfl
    omega
/-- a message that was understood: its bytes, and what it tells first -/
def jUd (D : jC) (qv qu n : Int) : Prop := qu + jSb D.2.2.2.2 qv.toNat ≤ n + 1 ∧ ∃ j : Int, 0 ≤ j ∧ j < qv ∧ jSo D.2.2.2.2 j = 7 ∧ jSo D.1 j = 3 ∧ jSo D.2.2.1 j = 3
theorem jUd.of {gk gi gz ga gs : Nat → Int32} {qv qu n j : Int} (h : qu + jSb gs qv.toNat ≤ n + 1) (h0 : 0 ≤ j) (h1 : j < qv) (h2 : jSo gs j = 7) (h3 : jSo gk j = 3) (h4 : jSo gz j = 3) : jUd (gk, gi, gz, ga, gs) qv qu n := ⟨h, j, h0, h1, h2, h3, h4⟩
def jJu (fk fz : Nat → Int32) (pv pu : Int) : Prop := ∀ i : Int, 0 ≤ i → i < pv → jSo fk i = 3 → jSo fz i ≤ pu
end
section
def EX4_areUnitsQ : List (Nat × Nat) := []
def EX4_memberQ : List (Nat × Nat) := []
def EX4_isTextQ : List (Nat × Nat) := []
set_option maxHeartbeats 4000000 in
set_option maxRecDepth 20000 in
theorem uX4_areUnitsQ (l : Launch) (dC : Nat → ClassId) (dI : Nat → Nat → Nat) (ca : Nat → ClassId) (base : Nat) (B : jF) (hB : jBok B) (hAp : jAp (dC, dI)) (hB6 : ∀ n G a H, B 6 n G a H ↔ jOb (dC, dI) 6 12 (F6 n G) a H) (hB146 : ∀ n G a H, B 146 n G a H ↔ jAr (dC, dI) (ca 1) (fun j z => True) n a H) (G0 : jT) (H0 : Heap) (r0 : Nat) (a1 : Int32) (a2 : Int32) (r3 : Nat) (n3 : Nat) : Met l yX4_areUnits (jw yX4_areUnits cX4_areUnits 5 (some .boolean)) ({ frames := 4, cells := 0, slots := 0, locals := 141 }) (va_Pc [.ref r0, .int a1, .int a2, .ref r3] (fun U => U.heap = H0 ∧ jX B base G0 [] H0 ∧ jG dC dI ca base U ∧ jStr base r3 n3 U H0 ∧ G0 r0 = some (6, 0) ∧ jP (dC, dI) G0 H0 [] ∧ a1.toInt ≤ 1000000 ∧ n3 ≤ 1000)) (va_Qi (S := Unit) (fun r u => (r = 0 ∨ r = 1) ∧ (r.toInt = 0 ∨ a2.toInt = n3)) (fun u t => (jRt (dC, dI) B base G0 EX4_areUnitsQ H0 [] t.heap) ∧ jKl [] H0 t.heap) (jA base)) 0 0 (jA base) := by
  refine Met.ofW (cc := cX4_areUnits) (maxL := 5) (ret := (some .boolean)) (by decide) rfl ?_
  intro p e s m args below meth c s₁ Bd hml hv
  obtain ⟨rfl, hH0, hX, hG, hstr_r3, hg_r0, hP0, hp0, hp1⟩ := hv
  have hK := hG.1
  have hx := Bd.exec
  have hb := Bd.bytes
  have hr := Bd.returns
  have hts := atoms_spec (ws := (jw yX4_areUnits cX4_areUnits 5 (some .boolean))) Bd.pre
  have htw : ∀ w ∈ jWl, w.before _ s = true := fun w h => hts w (List.mem_cons_of_mem _ h)
  have hown : s.vm.findClass RX4 = some m.cls := findClass_of_methodNamed Bd.named
  have hlocks := Bd.notSynchronized
  obtain ⟨Q, hQ⟩ : ∃ Q, Q = MQ below (va_Qi (S := Unit) (fun r u => (r = 0 ∨ r = 1) ∧ (r.toInt = 0 ∨ a2.toInt = n3)) (fun u t => (jRt (dC, dI) B base G0 EX4_areUnitsQ H0 [] t.heap) ∧ jKl [] H0 t.heap) (jA base)) ([.ref r0, .int a1, .int a2, .ref r3] : List Value).toArray s 0 0 (jA base) := ⟨_, rfl⟩
  rw [← hQ]
  have hl := lv_entry ([.ref r0, .int a1, .int a2, .ref r3]) (n := 5) (Nat.le_of_ble_eq_true rfl)
  rw [lg_entry_eq]
  generalize (lg_sl ([.ref r0, .int a1, .int a2, .ref r3]) ++ List.replicate (5 - (lg_sl ([.ref r0, .int a1, .int a2, .ref r3])).length) Slot.unset).toArray = ls at hl ⊢
  have hl : lv_has ls 5 [(0, .ref r0), (1, .int a1), (2, .int a2), (3, .ref r3)] := hl
  generalize hR : (headSpec (jw yX4_areUnits cX4_areUnits 5 (some .boolean)) ({ frames := 4, cells := 0, slots := 0, locals := 141 })).room = R
  subst hH0
  have hh : jSt (dC, dI) B base G0 G0 EX4_areUnitsQ s.heap 0 0 [] [] [] s.heap [] := jSt.start hX hP0 jMc.nil jIs.nil
  clear hX hP0
  have hk0 : (0 : Int32).toInt = 0 := by decide
  have hk1 : (1 : Int32).toInt = 1 := by decide
  have hly_6_6 := htw (u_lay RX4 TX4 6) (jWc_wsX40 _ (u_in_lay (by decide)))
  have hlk_30 := (htw (.fieldLink RX4 30 "ProofServer$Json" "units" "[I") (jWr_4 _ (List.mem_of_getElem? (i := 3) rfl)))
  have hrg_a1 := jb_rng a1
  have hrg_a2 := jb_rng a2
  have hfl : jKl [] s.heap s.heap := jKl.rf
  refine lv_iload_n hx hb dX4_areUnits_0 rfl (lv_at hl 2 rfl) ?_
  refine lv_aload_n hx hb dX4_areUnits_1 rfl (lv_at hl 3 rfl) ?_
  refine vp_callSi (W.runV (As := []) (rest := [.int a2]) ⟨hx, hb, hml, hown, hts⟩ (wJ0_length_8abf5 l dC dI ca base s.heap r3 n3) (cwV 0 hts (jgV (jWr_20 _ (List.mem_of_getElem? (i := 23) rfl)) (jWr_5 _ (List.mem_of_getElem? (i := 13) rfl)) (jWr_5 _ (List.mem_of_getElem? (i := 14) rfl)) (jWr_5 _ (List.mem_of_getElem? (i := 15) rfl)) (jWr_5 _ (List.mem_of_getElem? (i := 16) rfl))) rfl rfl rfl (by decide +kernel) ⟨by rw [← hR]; exact Nat.le_of_ble_eq_true rfl, by rw [← hR]; exact Nat.le_of_ble_eq_true rfl⟩) ⟨fun a U g mk q => by obtain ⟨q0, q1, q2, qK, q9⟩ := q; exact ⟨q0, q1, (q2.moved (Vm.Alike.refl U.vm)), jG.calling g mk a qK, q9⟩, jStr_recv hstr_r3 hh.1, fun U hU hW => ⟨rfl, hU, (hstr_r3.moved hW.alike).kept hh.1.2.1, hG.step hW hU hh.1, by omega⟩⟩ rfl rfl hl.1 rfl (lv_room (Nat.le_of_ble_eq_true rfl)) dX4_areUnits_2 ⟨Nat.zero_le _, Nat.zero_le _⟩) (fun r_1 hr_1 => ?_)
  refine lv_icmp_ne (tgt := 23) hx hb dX4_areUnits_5 (by decide) (fun c_2 => ?_) (fun c_2 => ?_)
  · skip
    have c_2' : a2.toInt ≠ r_1.toInt := jb_ne (rfl) (rfl) c_2
    refine lv_iconst (v := 0) hx hb dX4_areUnits_23 (by decide) ?_
    rw [hQ]
    exact W.zret (v := 0) hx hb hr (jb_nz (Or.inl rfl)) (fun t ht hW => ⟨⟨0, (), rfl, ⟨(Or.inl rfl), by first | omega | rfl | assumption | decide | exact Or.inl rfl | exact Or.inr rfl | (simp only; omega)⟩, ⟨hh.rt (M1 := []) [] rfl ht, by rw [ht]; exact hfl⟩⟩, by rw [ht]; try exact hh.1.1, fun q h9 hq => by rw [ht]; try exact hh.1.2.1 q h9 hq⟩) hh.1.2.2 dX4_areUnits_24
  · skip
    have c_2' : a2.toInt = r_1.toInt := jb_ne_n (rfl) (rfl) c_2
    refine lv_iload_n hx hb dX4_areUnits_8 rfl (lv_at hl 1 rfl) ?_
    refine lv_if_lt (tgt := 23) hx hb dX4_areUnits_9 (by decide) (fun c_3 => ?_) (fun c_3 => ?_)
    · skip
      have c_3' : a1.toInt < 0 := jb_lt (rfl) ((by decide)) c_3
      refine lv_iconst (v := 0) hx hb dX4_areUnits_23 (by decide) ?_
      rw [hQ]
      exact W.zret (v := 0) hx hb hr (jb_nz (Or.inl rfl)) (fun t ht hW => ⟨⟨0, (), rfl, ⟨(Or.inl rfl), by first | omega | rfl | assumption | decide | exact Or.inl rfl | exact Or.inr rfl | (simp only; omega)⟩, ⟨hh.rt (M1 := []) [] rfl ht, by rw [ht]; exact hfl⟩⟩, by rw [ht]; try exact hh.1.1, fun q h9 hq => by rw [ht]; try exact hh.1.2.1 q h9 hq⟩) hh.1.2.2 dX4_areUnits_24
    · skip
      have c_3' : a1.toInt ≥ 0 := jb_lt_n (rfl) ((by decide)) c_3
      refine lv_iload_n hx hb dX4_areUnits_12 rfl (lv_at hl 1 rfl) ?_
      refine lv_iload_n hx hb dX4_areUnits_13 rfl (lv_at hl 2 rfl) ?_
      refine lv_iadd hx hb dX4_areUnits_14 ?_
      refine lv_topi (fun z_4 ez_4 => ?_)
      have hz_4 : z_4.toInt = a1.toInt + a2.toInt := by rw [ez_4]; exact jb_iadd2 (rfl) (rfl) (by omega)
      refine lv_aload_n hx hb dX4_areUnits_15 rfl (lv_at hl 0 rfl) ?_
      obtain ⟨v_5, hv_5, hh_6⟩ := hh.pin (C := RX4) (T := TX4) (N := 12) hB6 rfl (by decide) hg_r0 (i := 6) (by decide) rfl
      clear hh
      obtain ⟨units_7, rfl, hg_units_7⟩ := hv_5
      refine j7_read hx hb hown hK (C := RX4) (T := TX4) (N := 12) rfl hly_6_6 hlk_30 (hh_6.at 0 rfl) dX4_areUnits_16 ?_
      refine j7_len hx hb hK hh_6 hB146 1 rfl (by decide) hg_units_7 (by omega) dX4_areUnits_19 (fun z_8 hz_8 => ?_)
      refine lv_icmp_le (tgt := 25) hx hb dX4_areUnits_20 (by decide) (fun c_9 => ?_) (fun c_9 => ?_)
      · skip
        have c_9' : z_4.toInt ≤ z_8.toInt := jb_le (rfl) (rfl) c_9
        refine lv_iconst (v := 0) hx hb dX4_areUnits_25 (by decide) ?_
        refine lv_istore (lv' := [(4, .int 0), (0, .ref r0), (1, .int a1), (2, .int a2), (3, .ref r3)]) hx hb dX4_areUnits_26 hl (by decide) rfl (fun ls hl => ?_)
        have L28 : ∀ (N : Nat) (v4_10 : Int32) (H_10 : Heap) (locs_10 : List Loc), jSt (dC, dI) B base G0 G0 EX4_areUnitsQ s.heap 0 0 [(r0, 6, 6, .ref units_7)] [] [] H_10 locs_10 → jKl [] s.heap H_10 → (0 ≤ v4_10.toInt) → (((a2.toInt - v4_10.toInt).toNat : Int) : Int) < N → ∀ ls : Array Slot, lv_has ls 5 [(0, .ref r0), (1, .int a1), (2, .int a2), (3, .ref r3), (4, .int v4_10)] → W p l e R s m ([.ref r0, .int a1, .int a2, .ref r3] : List Value).toArray below meth c H_10 locs_10 0 0 Q (F0 m 28 ls []) := by
          intro N
          induction N with
          | zero => intro v4_10 H_10 locs_10 hh_10 hfl_10 hi_10 hm; exact absurd hm (by omega)
          | succ N L28 =>
            intro v4_10 H_10 locs_10 hh_10 hfl_10 hi_10 hm_10 ls hl
            refine lv_iload hx hb dX4_areUnits_28 (lv_at hl 4 rfl) ?_
            refine lv_iload_n hx hb dX4_areUnits_30 rfl (lv_at hl 2 rfl) ?_
            refine lv_icmp_ge (tgt := 60) hx hb dX4_areUnits_31 (by decide) (fun c_11 => ?_) (fun c_11 => ?_)
            · skip
              have c_11' : v4_10.toInt ≥ a2.toInt := jb_ge (rfl) (rfl) c_11
              refine lv_iconst (v := 1) hx hb dX4_areUnits_60 (by decide) ?_
              rw [hQ]
              exact W.zret (v := 1) hx hb hr (jb_nz (Or.inr rfl)) (fun t ht hW => ⟨⟨1, (), rfl, ⟨(Or.inr rfl), by first | omega | rfl | assumption | decide | exact Or.inl rfl | exact Or.inr rfl | (simp only; omega)⟩, ⟨hh_10.rt (M1 := []) [] rfl ht, by rw [ht]; exact hfl_10⟩⟩, by rw [ht]; try exact hh_10.1.1, fun q h9 hq => by rw [ht]; try exact hh_10.1.2.1 q h9 hq⟩) hh_10.1.2.2 dX4_areUnits_61
            · skip
              have c_11' : v4_10.toInt < a2.toInt := jb_ge_n (rfl) (rfl) c_11
              refine lv_aload_n hx hb dX4_areUnits_34 rfl (lv_at hl 0 rfl) ?_
              refine j7_read hx hb hown hK (C := RX4) (T := TX4) (N := 12) rfl hly_6_6 hlk_30 (hh_10.at 0 rfl) dX4_areUnits_35 ?_
              refine lv_iload_n hx hb dX4_areUnits_38 rfl (lv_at hl 1 rfl) ?_
              refine lv_iload hx hb dX4_areUnits_39 (lv_at hl 4 rfl) ?_
              refine lv_iadd hx hb dX4_areUnits_41 ?_
              refine lv_topi (fun z_12 ez_12 => ?_)
              have hz_12 : z_12.toInt = a1.toInt + v4_10.toInt := by rw [ez_12]; exact jb_iadd2 (rfl) (rfl) (by omega)
              refine j7_iald hx hb hK hh_10 hB146 1 rfl (by decide) hg_units_7 (x := z_12.toInt) (rfl) (by omega) dX4_areUnits_42 (fun z_13 (hz_13 : True) => ?_)
              refine lv_aload_n hx hb dX4_areUnits_43 rfl (lv_at hl 3 rfl) ?_
              refine lv_iload hx hb dX4_areUnits_44 (lv_at hl 4 rfl) ?_
              refine vp_callSi (W.runV (As := [.int v4_10]) (rest := [.int z_13]) ⟨hx, hb, hml, hown, hts⟩ (wJ0_charAt_5068e l dC dI ca base H_10 r3 n3 v4_10) (cwV 1 hts (jgV (jWr_21 _ (List.mem_of_getElem? (i := 0) rfl)) (jWr_6 _ (List.mem_of_getElem? (i := 1) rfl)) (jWr_6 _ (List.mem_of_getElem? (i := 2) rfl)) (jWr_5 _ (List.mem_of_getElem? (i := 15) rfl)) (jWr_6 _ (List.mem_of_getElem? (i := 3) rfl))) rfl rfl rfl (by decide +kernel) ⟨by rw [← hR]; exact Nat.le_of_ble_eq_true rfl, by rw [← hR]; exact Nat.le_of_ble_eq_true rfl⟩) ⟨fun a U g mk q => by obtain ⟨q0, q1, q2, qK, q9⟩ := q; exact ⟨q0, q1, (q2.moved (Vm.Alike.refl U.vm)), jG.calling g mk a qK, q9⟩, jStr_recv hstr_r3 hh_10.1, fun U hU hW => ⟨rfl, hU, (hstr_r3.moved hW.alike).kept hh_10.1.2.1, hG.step hW hU hh_10.1, ⟨by omega, by omega, by omega⟩⟩⟩ rfl rfl hl.1 rfl (lv_room (Nat.le_of_ble_eq_true rfl)) dX4_areUnits_46 ⟨Nat.zero_le _, Nat.zero_le _⟩) (fun r_14 hr_14 => ?_)
              refine lv_icmp_eq (tgt := 54) hx hb dX4_areUnits_49 (by decide) (fun c_15 => ?_) (fun c_15 => ?_)
              · skip
                have c_15' : z_13.toInt = r_14.toInt := jb_eq (rfl) (rfl) c_15
                obtain ⟨z_16, ez_16⟩ : ∃ y : Int32, y = v4_10 + 1 := ⟨_, rfl⟩
                refine lv_iinc (v := z_16) (lv' := [(4, .int z_16), (0, .ref r0), (1, .int a1), (2, .int a2), (3, .ref r3)]) hx hb dX4_areUnits_54 hl (k := 4) rfl (by rw [ez_16]; rfl) (by decide) rfl (fun ls hl => ?_)
                have hz_16 : z_16.toInt = v4_10.toInt + 1 := by rw [ez_16]; exact jb_iadd2 (rfl) (by decide) (by omega)
                refine lv_goto (tgt := 28) hx hb dX4_areUnits_57 (by decide) ?_
                exact L28 z_16 _ _ hh_10 (hfl_10) (by first | omega | rfl | assumption | decide | exact Or.inl rfl | exact Or.inr rfl | (simp only; omega)) (by omega) _ (lv_sub hl [1, 2, 3, 4, 0] rfl)
              · skip
                have c_15' : z_13.toInt ≠ r_14.toInt := jb_eq_n (rfl) (rfl) c_15
                refine lv_iconst (v := 0) hx hb dX4_areUnits_52 (by decide) ?_
                rw [hQ]
                exact W.zret (v := 0) hx hb hr (jb_nz (Or.inl rfl)) (fun t ht hW => ⟨⟨0, (), rfl, ⟨(Or.inl rfl), by first | omega | rfl | assumption | decide | exact Or.inl rfl | exact Or.inr rfl | (simp only; omega)⟩, ⟨hh_10.rt (M1 := []) [] rfl ht, by rw [ht]; exact hfl_10⟩⟩, by rw [ht]; try exact hh_10.1.1, fun q h9 hq => by rw [ht]; try exact hh_10.1.2.1 q h9 hq⟩) hh_10.1.2.2 dX4_areUnits_53
        exact L28 (((a2.toInt - (0 : Int32).toInt).toNat : Int) : Int).toNat.succ 0 _ _ hh_6 (hfl) (by first | omega | rfl | assumption | decide | exact Or.inl rfl | exact Or.inr rfl | (simp only; omega)) (by omega) _ (lv_sub hl [1, 2, 3, 4, 0] rfl)
      · skip
        have c_9' : z_4.toInt > z_8.toInt := jb_le_n (rfl) (rfl) c_9
        refine lv_iconst (v := 0) hx hb dX4_areUnits_23 (by decide) ?_
        rw [hQ]
        exact W.zret (v := 0) hx hb hr (jb_nz (Or.inl rfl)) (fun t ht hW => ⟨⟨0, (), rfl, ⟨(Or.inl rfl), by first | omega | rfl | assumption | decide | exact Or.inl rfl | exact Or.inr rfl | (simp only; omega)⟩, ⟨hh_6.rt (M1 := []) [] rfl ht, by rw [ht]; exact hfl⟩⟩, by rw [ht]; try exact hh_6.1.1, fun q h9 hq => by rw [ht]; try exact hh_6.1.2.1 q h9 hq⟩) hh_6.1.2.2 dX4_areUnits_24
set_option maxHeartbeats 4000000 in
set_option maxRecDepth 20000 in
theorem uX4_memberQ (l : Launch) (dC : Nat → ClassId) (dI : Nat → Nat → Nat) (ca : Nat → ClassId) (base : Nat) (B : jF) (hB : jBok B) (hAp : jAp (dC, dI)) (hB6 : ∀ n G a H, B 6 n G a H ↔ jOb (dC, dI) 6 12 (F6 n G) a H) (hB140 : ∀ n G a H, B 140 n G a H ↔ jAr (dC, dI) (ca 1) (fun j z => True) n a H) (hB141 : ∀ n G a H, B 141 n G a H ↔ jAr (dC, dI) (ca 1) (fun j z => True) n a H) (hB142 : ∀ n G a H, B 142 n G a H ↔ jAr (dC, dI) (ca 1) (fun j z => True) n a H) (hB143 : ∀ n G a H, B 143 n G a H ↔ jAr (dC, dI) (ca 1) (fun j z => True) n a H) (hB144 : ∀ n G a H, B 144 n G a H ↔ jAr (dC, dI) (ca 1) (fun j z => 0 ≤ z.toInt ∧ z.toInt ≤ 3000) n a H) (hB145 : ∀ n G a H, B 145 n G a H ↔ jAr (dC, dI) (ca 1) (fun j z => True) n a H) (hB146 : ∀ n G a H, B 146 n G a H ↔ jAr (dC, dI) (ca 1) (fun j z => True) n a H) (G0 : jT) (H0 : Heap) (r0 : Nat) (a1 : Int32) (r2 : Nat) (n2 : Nat) (pv : Int32) (wk : Nat) (wi : Nat) (wz : Nat) (jks : Nat) (fk : Nat → Int32) (fi : Nat → Int32) (fz : Nat → Int32) (fs : Nat → Int32) : Met l yX4_member (jw yX4_member cX4_member 6 (some .int)) ({ frames := 5, cells := 0, slots := 0, locals := 165 }) (va_Pc [.ref r0, .int a1, .ref r2] (fun U => U.heap = H0 ∧ jX B base G0 [] H0 ∧ jG dC dI ca base U ∧ jStr base r2 n2 U H0 ∧ G0 r0 = some (6, 0) ∧ G0 wk = some (140, 1502) ∧ G0 wi = some (141, 1502) ∧ G0 wz = some (142, 1502) ∧ G0 jks = some (145, 1502) ∧ jP (dC, dI) G0 H0 [(r0, 6, 7, .int pv), (r0, 6, 0, .ref wk), (r0, 6, 1, .ref wi), (r0, 6, 2, .ref wz), (r0, 6, 5, .ref jks)] ∧ jMc (dC, dI) G0 H0 [(wk, 140, 1502, ca 1, fk), (wi, 141, 1502, ca 1, fi), (wz, 142, 1502, ca 1, fz), (jks, 145, 1502, ca 1, fs)] ∧ 0 ≤ pv.toInt ∧ pv.toInt ≤ 1502 ∧ n2 ≤ 1000)) (va_Qi (S := Unit) (fun r u => (-1 ≤ r.toInt ∧ r.toInt ≤ 1501 ∧ (r.toInt < 0 ∨ (r.toInt < pv.toInt ∧ jSo fs r.toInt = n2 ∧ 0 ≤ a1.toInt ∧ a1.toInt < pv.toInt ∧ jSo fk a1.toInt = 1)))) (fun u t => (jRt (dC, dI) B base G0 EX4_memberQ H0 [] t.heap) ∧ jKl [] H0 t.heap) (jA base)) 0 0 (jA base) := by
  refine Met.ofW (cc := cX4_member) (maxL := 6) (ret := (some .int)) (by decide) rfl ?_
  intro p e s m args below meth c s₁ Bd hml hv
  obtain ⟨rfl, hH0, hX, hG, hstr_r2, hg_r0, hg_wk, hg_wi, hg_wz, hg_jks, hP0, hM0, hp0, hp1, hp2⟩ := hv
  have hK := hG.1
  have hx := Bd.exec
  have hb := Bd.bytes
  have hr := Bd.returns
  have hts := atoms_spec (ws := (jw yX4_member cX4_member 6 (some .int))) Bd.pre
  have htw : ∀ w ∈ jWl, w.before _ s = true := fun w h => hts w (List.mem_cons_of_mem _ h)
  have hown : s.vm.findClass RX4 = some m.cls := findClass_of_methodNamed Bd.named
  have hlocks := Bd.notSynchronized
  obtain ⟨Q, hQ⟩ : ∃ Q, Q = MQ below (va_Qi (S := Unit) (fun r u => (-1 ≤ r.toInt ∧ r.toInt ≤ 1501 ∧ (r.toInt < 0 ∨ (r.toInt < pv.toInt ∧ jSo fs r.toInt = n2 ∧ 0 ≤ a1.toInt ∧ a1.toInt < pv.toInt ∧ jSo fk a1.toInt = 1)))) (fun u t => (jRt (dC, dI) B base G0 EX4_memberQ H0 [] t.heap) ∧ jKl [] H0 t.heap) (jA base)) ([.ref r0, .int a1, .ref r2] : List Value).toArray s 0 0 (jA base) := ⟨_, rfl⟩
  rw [← hQ]
  have hl := lv_entry ([.ref r0, .int a1, .ref r2]) (n := 6) (Nat.le_of_ble_eq_true rfl)
  rw [lg_entry_eq]
  generalize (lg_sl ([.ref r0, .int a1, .ref r2]) ++ List.replicate (6 - (lg_sl ([.ref r0, .int a1, .ref r2])).length) Slot.unset).toArray = ls at hl ⊢
  have hl : lv_has ls 6 [(0, .ref r0), (1, .int a1), (2, .ref r2)] := hl
  generalize hR : (headSpec (jw yX4_member cX4_member 6 (some .int)) ({ frames := 5, cells := 0, slots := 0, locals := 165 })).room = R
  subst hH0
  have hh : jSt (dC, dI) B base G0 G0 EX4_memberQ s.heap 0 0 [(r0, 6, 7, .int pv), (r0, 6, 0, .ref wk), (r0, 6, 1, .ref wi), (r0, 6, 2, .ref wz), (r0, 6, 5, .ref jks)] [(wk, 140, 1502, ca 1, fk), (wi, 141, 1502, ca 1, fi), (wz, 142, 1502, ca 1, fz), (jks, 145, 1502, ca 1, fs)] [] s.heap [] := jSt.start hX hP0 hM0 jIs.nil
  clear hX hP0
  have hkm1 : ((-1) : Int32).toInt = (-1) := by decide
  have hk0 : (0 : Int32).toInt = 0 := by decide
  have hk1 : (1 : Int32).toInt = 1 := by decide
  have hly_6_1 := htw (u_lay RX4 TX4 1) (jWc_wsX40 _ (u_in_lay (by decide)))
  have hly_6_2 := htw (u_lay RX4 TX4 2) (jWc_wsX40 _ (u_in_lay (by decide)))
  have hly_6_3 := htw (u_lay RX4 TX4 3) (jWc_wsX40 _ (u_in_lay (by decide)))
  have hly_6_4 := htw (u_lay RX4 TX4 4) (jWc_wsX40 _ (u_in_lay (by decide)))
  have hly_6_5 := htw (u_lay RX4 TX4 5) (jWc_wsX40 _ (u_in_lay (by decide)))
  have hly_6_7 := htw (u_lay RX4 TX4 7) (jWc_wsX40 _ (u_in_lay (by decide)))
  have hlk_15 := (htw (.fieldLink RX4 15 "ProofServer$Json" "firsts" "[I") (jWr_3 _ (List.mem_of_getElem? (i := 22) rfl)))
  have hlk_18 := (htw (.fieldLink RX4 18 "ProofServer$Json" "sizes" "[I") (jWr_3 _ (List.mem_of_getElem? (i := 23) rfl)))
  have hlk_50 := (htw (.fieldLink RX4 50 "ProofServer$Json" "values" "I") (jWr_19 _ (List.mem_of_getElem? (i := 13) rfl)))
  have hlk_24 := (htw (.fieldLink RX4 24 "ProofServer$Json" "keyFirsts" "[I") (jWr_4 _ (List.mem_of_getElem? (i := 1) rfl)))
  have hlk_27 := (htw (.fieldLink RX4 27 "ProofServer$Json" "keySizes" "[I") (jWr_4 _ (List.mem_of_getElem? (i := 2) rfl)))
  have hlk_21 := (htw (.fieldLink RX4 21 "ProofServer$Json" "nexts" "[I") (jWr_4 _ (List.mem_of_getElem? (i := 0) rfl)))
  have hrg_a1 := jb_rng a1
  have hfl : jKl [] s.heap s.heap := jKl.rf
  refine lv_aload_n hx hb dX4_member_0 rfl (lv_at hl 0 rfl) ?_
  refine lv_iload_n hx hb dX4_member_1 rfl (lv_at hl 1 rfl) ?_
  refine va_calli (A0 := jA base) (H0 := s.heap) (va_runV (As := [.int a1]) (rest := []) ⟨hx, hb, hml, hown, hts⟩ (uX4_kindOfW l dC dI ca base B hB hAp hB6 hB140 G0 s.heap r0 a1 pv wk wi wz fk fi fz) (cwV 1 hts (jgV (jWr_23 _ (List.mem_of_getElem? (i := 14) rfl)) (jWr_23 _ (List.mem_of_getElem? (i := 15) rfl)) (jWr_23 _ (List.mem_of_getElem? (i := 16) rfl)) (jWr_1 _ (List.mem_of_getElem? (i := 22) rfl)) (jWr_23 _ (List.mem_of_getElem? (i := 17) rfl))) rfl rfl rfl (by decide +kernel) ⟨by rw [← hR]; exact Nat.le_of_ble_eq_true rfl, by rw [← hR]; exact Nat.le_of_ble_eq_true rfl⟩) ⟨fun a U g mk q => by obtain ⟨q0, q1, q2, qK, q10, q11, q12, q13, q14, q15, q16⟩ := q; exact ⟨q0, q1, q2, jG.calling g mk a qK, q10, q11, q12, q13, q14, q15, q16⟩, hh.recv (C := RX4) (T := TX4) (N := 12) hB6 rfl (by decide) hg_r0 hK, fun U hU hW => ⟨rfl, hU, hh.2.1, hG.step hW hU hh.1, hg_r0, hg_wk, hg_wi, hg_wz, (hh.2.2.1.sub (L1 := [(r0, 6, 7, .int pv), (r0, 6, 0, .ref wk), (r0, 6, 1, .ref wi), (r0, 6, 2, .ref wz)]) [0, 1, 2, 3] rfl), (hh.2.2.2.2.2.2.2.1.sub (L1 := [(wk, 140, 1502, ca 1, fk), (wi, 141, 1502, ca 1, fi), (wz, 142, 1502, ca 1, fz)]) [0, 1, 2] rfl), by first | omega | (refine ⟨?_, ?_⟩ <;> (first | omega | rfl | assumption | decide | exact Or.inl rfl | exact Or.inr rfl | (simp only; omega)))⟩⟩ rfl rfl hl.1 rfl (lv_room (Nat.le_of_ble_eq_true rfl)) dX4_member_2 ⟨Nat.zero_le _, Nat.zero_le _⟩) hh.1 (fun q _ h => h) (fun q h => h) (fun r_2 u_1 t_1 H_1 locs_1 ht_1 hvm_1 hr_2 hb_1 hz_1 hk_1 hS_1 => ?_)
  rw [ht_1] at hb_1
  obtain ⟨hb_1, hbF_1⟩ := hb_1
  obtain ⟨hb_11, hb_12, hb_13, hb_14, hb_15⟩ := hb_1
  have hh_1 : jSt (dC, dI) B base G0 G0 EX4_memberQ s.heap 0 0 [(r0, 6, 7, .int pv), (r0, 6, 0, .ref wk), (r0, 6, 1, .ref wi), (r0, 6, 2, .ref wz), (r0, 6, 5, .ref jks)] [(wk, 140, 1502, ca 1, fk), (wi, 141, 1502, ca 1, fi), (wz, 142, 1502, ca 1, fz), (jks, 145, 1502, ca 1, fs)] [] H_1 locs_1 := ((hh.call hb_11 hb_12 hb_13 hb_14 hS_1 rfl (L1 := [(r0, 6, 7, .int pv), (r0, 6, 0, .ref wk), (r0, 6, 1, .ref wi), (r0, 6, 2, .ref wz), (r0, 6, 5, .ref jks)]) [0, 1, 2, 3, 4] rfl rfl (M1 := [(wk, 140, 1502, ca 1, fk), (wi, 141, 1502, ca 1, fi), (wz, 142, 1502, ca 1, fz), (jks, 145, 1502, ca 1, fs)]) [0, 1, 2, 3] rfl rfl (I1 := []) [] rfl rfl).more hb_15)
  clear hh ht_1 hvm_1 hz_1 hk_1 hS_1 hb_11 hb_12 hb_13 hb_14 hb_15
  have hfl_3 := hfl.tr hbF_1 (by first | exact fun q h => h | (intro q h9; simp at h9 ⊢; exact h9) | (intro q h9; simp at h9))
  refine lv_iconst (v := 1) hx hb dX4_member_5 (by decide) ?_
  refine lv_icmp_eq (tgt := 11) hx hb dX4_member_6 (by decide) (fun c_4 => ?_) (fun c_4 => ?_)
  · skip
    have c_4' : r_2.toInt = 1 := jb_eq (rfl) ((by decide)) c_4
    first | (have hr_2q := hr_2.resolve_left (by omega); clear hr_2) | (have hr_2q := hr_2.resolve_right (by omega); clear hr_2) | try clear hr_2
    refine lv_iconst (v := (-1)) hx hb dX4_member_11 (by decide) ?_
    refine lv_istore_n (lv' := [(3, .int (-1)), (0, .ref r0), (1, .int a1), (2, .ref r2)]) hx hb dX4_member_12 rfl hl (by decide) rfl (fun ls hl => ?_)
    refine lv_aload_n hx hb dX4_member_13 rfl (lv_at hl 1 rfl) ?_
    refine j7_read hx hb hown hK (C := RX4) (T := TX4) (N := 12) rfl hly_6_1 hlk_15 (hh_1.at 2 rfl) dX4_member_14 ?_
    refine lv_iload_n hx hb dX4_member_17 rfl (lv_at hl 2 rfl) ?_
    refine j7_ialdM hx hb hK hh_1 hB141 1 rfl (by decide) hg_wi (x := a1.toInt) (rfl) (by omega) (j := 1) rfl dX4_member_18 (fun z_5 ez_5 (hz_5 : True) => ?_)
    have hqz_5 : z_5.toInt = jSo fi (a1.toInt) := by unfold jSo; rw [ez_5]
    refine lv_istore (lv' := [(4, .int z_5), (3, .int (-1)), (0, .ref r0), (1, .int a1), (2, .ref r2)]) hx hb dX4_member_19 hl (by decide) rfl (fun ls hl => ?_)
    refine lv_iconst (v := 0) hx hb dX4_member_21 (by decide) ?_
    refine lv_istore (lv' := [(5, .int 0), (4, .int z_5), (3, .int (-1)), (0, .ref r0), (1, .int a1), (2, .ref r2)]) hx hb dX4_member_22 hl (by decide) rfl (fun ls hl => ?_)
    have L24 : ∀ (N : Nat) (v3_6 : Int32) (v4_6 : Int32) (v5_6 : Int32) (H_6 : Heap) (locs_6 : List Loc), jSt (dC, dI) B base G0 G0 EX4_memberQ s.heap 0 0 [(r0, 6, 7, .int pv), (r0, 6, 0, .ref wk), (r0, 6, 1, .ref wi), (r0, 6, 2, .ref wz), (r0, 6, 5, .ref jks)] [(wk, 140, 1502, ca 1, fk), (wi, 141, 1502, ca 1, fi), (wz, 142, 1502, ca 1, fz), (jks, 145, 1502, ca 1, fs)] [] H_6 locs_6 → jKl [] s.heap H_6 → (0 ≤ v5_6.toInt ∧ -1 ≤ v3_6.toInt ∧ v3_6.toInt ≤ 1501 ∧ (v3_6.toInt < 0 ∨ (v3_6.toInt < pv.toInt ∧ jSo fs v3_6.toInt = n2))) → (((jSo fz a1.toInt - v5_6.toInt).toNat : Int) : Int) < N → ∀ ls : Array Slot, lv_has ls 6 [(0, .ref r0), (1, .int a1), (2, .ref r2), (3, .int v3_6), (4, .int v4_6), (5, .int v5_6)] → W p l e R s m ([.ref r0, .int a1, .ref r2] : List Value).toArray below meth c H_6 locs_6 0 0 Q (F0 m 24 ls []) := by
      intro N
      induction N with
      | zero => intro v3_6 v4_6 v5_6 H_6 locs_6 hh_6 hfl_6 hi_6 hm; exact absurd hm (by omega)
      | succ N L24 =>
        intro v3_6 v4_6 v5_6 H_6 locs_6 hh_6 hfl_6 hi_6 hm_6 ls hl
        obtain ⟨hi_6_0, hi_6_1, hi_6_2, hi_6_3⟩ := hi_6
        have hrs : jSo fz a1.toInt ≤ 2147483647 := by unfold jSo; have := jb_rng (fz (a1.toInt).toNat); omega
        refine lv_iload hx hb dX4_member_24 (lv_at hl 5 rfl) ?_
        refine lv_aload_n hx hb dX4_member_26 rfl (lv_at hl 0 rfl) ?_
        refine j7_read hx hb hown hK (C := RX4) (T := TX4) (N := 12) rfl hly_6_2 hlk_18 (hh_6.at 3 rfl) dX4_member_27 ?_
        refine lv_iload_n hx hb dX4_member_30 rfl (lv_at hl 1 rfl) ?_
        refine j7_ialdM hx hb hK hh_6 hB142 1 rfl (by decide) hg_wz (x := a1.toInt) (rfl) (by omega) (j := 2) rfl dX4_member_31 (fun z_7 ez_7 (hz_7 : True) => ?_)
        have hqz_7 : z_7.toInt = jSo fz (a1.toInt) := by unfold jSo; rw [ez_7]
        refine lv_icmp_ge (tgt := 89) hx hb dX4_member_32 (by decide) (fun c_8 => ?_) (fun c_8 => ?_)
        · skip
          have c_8' : v5_6.toInt ≥ z_7.toInt := jb_ge (rfl) (rfl) c_8
          refine lv_iload_n hx hb dX4_member_89 rfl (lv_at hl 3 rfl) ?_
          rw [hQ]
          exact W.iret (v := v3_6) hx hb hr (fun t ht hW => ⟨⟨v3_6, (), rfl, by first | omega | (refine ⟨?_, ?_, ?_⟩ <;> (first | omega | rfl | assumption | decide | exact Or.inl rfl | exact Or.inr rfl | (simp only; omega))), ⟨hh_6.rt (M1 := []) [] rfl ht, by rw [ht]; exact hfl_6⟩⟩, by rw [ht]; try exact hh_6.1.1, fun q h9 hq => by rw [ht]; try exact hh_6.1.2.1 q h9 hq⟩) hh_6.1.2.2 dX4_member_90
        · skip
          have c_8' : v5_6.toInt < z_7.toInt := jb_ge_n (rfl) (rfl) c_8
          refine lv_iload hx hb dX4_member_35 (lv_at hl 4 rfl) ?_
          refine lv_if_lt (tgt := 89) hx hb dX4_member_37 (by decide) (fun c_9 => ?_) (fun c_9 => ?_)
          · skip
            have c_9' : v4_6.toInt < 0 := jb_lt (rfl) ((by decide)) c_9
            refine lv_iload_n hx hb dX4_member_89 rfl (lv_at hl 3 rfl) ?_
            rw [hQ]
            exact W.iret (v := v3_6) hx hb hr (fun t ht hW => ⟨⟨v3_6, (), rfl, by first | omega | (refine ⟨?_, ?_, ?_⟩ <;> (first | omega | rfl | assumption | decide | exact Or.inl rfl | exact Or.inr rfl | (simp only; omega))), ⟨hh_6.rt (M1 := []) [] rfl ht, by rw [ht]; exact hfl_6⟩⟩, by rw [ht]; try exact hh_6.1.1, fun q h9 hq => by rw [ht]; try exact hh_6.1.2.1 q h9 hq⟩) hh_6.1.2.2 dX4_member_90
          · skip
            have c_9' : v4_6.toInt ≥ 0 := jb_lt_n (rfl) ((by decide)) c_9
            refine lv_iload hx hb dX4_member_40 (lv_at hl 4 rfl) ?_
            refine lv_aload_n hx hb dX4_member_42 rfl (lv_at hl 0 rfl) ?_
            refine j7_read hx hb hown hK (C := RX4) (T := TX4) (N := 12) rfl hly_6_7 hlk_50 (hh_6.at 0 rfl) dX4_member_43 ?_
            refine lv_icmp_ge (tgt := 89) hx hb dX4_member_46 (by decide) (fun c_10 => ?_) (fun c_10 => ?_)
            · skip
              have c_10' : v4_6.toInt ≥ pv.toInt := jb_ge (rfl) (rfl) c_10
              refine lv_iload_n hx hb dX4_member_89 rfl (lv_at hl 3 rfl) ?_
              rw [hQ]
              exact W.iret (v := v3_6) hx hb hr (fun t ht hW => ⟨⟨v3_6, (), rfl, by first | omega | (refine ⟨?_, ?_, ?_⟩ <;> (first | omega | rfl | assumption | decide | exact Or.inl rfl | exact Or.inr rfl | (simp only; omega))), ⟨hh_6.rt (M1 := []) [] rfl ht, by rw [ht]; exact hfl_6⟩⟩, by rw [ht]; try exact hh_6.1.1, fun q h9 hq => by rw [ht]; try exact hh_6.1.2.1 q h9 hq⟩) hh_6.1.2.2 dX4_member_90
            · skip
              have c_10' : v4_6.toInt < pv.toInt := jb_ge_n (rfl) (rfl) c_10
              refine lv_aload_n hx hb dX4_member_49 rfl (lv_at hl 0 rfl) ?_
              refine lv_aload_n hx hb dX4_member_50 rfl (lv_at hl 0 rfl) ?_
              obtain ⟨v_11, hv_11, hh_12⟩ := hh_6.pin (C := RX4) (T := TX4) (N := 12) hB6 rfl (by decide) hg_r0 (i := 4) (by decide) rfl
              clear hh_6
              obtain ⟨keyFirsts_13, rfl, hg_keyFirsts_13⟩ := hv_11
              refine j7_read hx hb hown hK (C := RX4) (T := TX4) (N := 12) rfl hly_6_4 hlk_24 (hh_12.at 0 rfl) dX4_member_51 ?_
              refine lv_iload hx hb dX4_member_54 (lv_at hl 4 rfl) ?_
              refine j7_iald hx hb hK hh_12 hB144 1 rfl (by decide) hg_keyFirsts_13 (x := v4_6.toInt) (rfl) (by omega) dX4_member_56 (fun z_14 (hz_14 : 0 ≤ z_14.toInt ∧ z_14.toInt ≤ 3000) => ?_)
              refine lv_aload_n hx hb dX4_member_57 rfl (lv_at hl 0 rfl) ?_
              refine j7_read hx hb hown hK (C := RX4) (T := TX4) (N := 12) rfl hly_6_5 hlk_27 (hh_12.at 5 rfl) dX4_member_58 ?_
              refine lv_iload hx hb dX4_member_61 (lv_at hl 4 rfl) ?_
              refine j7_ialdM hx hb hK hh_12 hB145 1 rfl (by decide) hg_jks (x := v4_6.toInt) (rfl) (by omega) (j := 3) rfl dX4_member_63 (fun z_15 ez_15 (hz_15 : True) => ?_)
              have hqz_15 : z_15.toInt = jSo fs (v4_6.toInt) := by unfold jSo; rw [ez_15]
              refine lv_aload_n hx hb dX4_member_64 rfl (lv_at hl 2 rfl) ?_
              refine va_calli (A0 := jA base) (H0 := s.heap) (va_runV (As := [.int z_14, .int z_15, .ref r2]) (rest := []) ⟨hx, hb, hml, hown, hts⟩ (uX4_areUnitsQ l dC dI ca base B hB hAp hB6 hB146 G0 H_6 r0 z_14 z_15 r2 n2) (cwV 3 hts (jgV (jWr_23 _ (List.mem_of_getElem? (i := 18) rfl)) (jWr_23 _ (List.mem_of_getElem? (i := 19) rfl)) (jWr_23 _ (List.mem_of_getElem? (i := 20) rfl)) (jWr_1 _ (List.mem_of_getElem? (i := 22) rfl)) (jWr_23 _ (List.mem_of_getElem? (i := 21) rfl))) rfl rfl rfl (by decide +kernel) ⟨by rw [← hR]; exact Nat.le_of_ble_eq_true rfl, by rw [← hR]; exact Nat.le_of_ble_eq_true rfl⟩) ⟨fun a U g mk q => by obtain ⟨q0, q1, q2, qK, q10, q11, q12, q13⟩ := q; exact ⟨q0, q1, q2, jG.calling g mk a qK, (q10.moved (Vm.Alike.refl U.vm)), q11, q12, q13⟩, hh_12.recv (C := RX4) (T := TX4) (N := 12) hB6 rfl (by decide) hg_r0 hK, fun U hU hW => ⟨rfl, hU, hh_12.2.1, hG.step hW hU hh_12.1, (hstr_r2.moved hW.alike).kept hh_12.1.2.1, hg_r0, jP.nil, by first | omega | (refine ⟨?_, ?_⟩ <;> (first | omega | rfl | assumption | decide | exact Or.inl rfl | exact Or.inr rfl | (simp only; omega)))⟩⟩ rfl rfl hl.1 rfl (lv_room (Nat.le_of_ble_eq_true rfl)) dX4_member_65 ⟨Nat.zero_le _, Nat.zero_le _⟩) hh_12.1 (fun q _ h => h) (fun q h => h) (fun r_17 u_16 t_16 H_16 locs_16 ht_16 hvm_16 hr_17 hb_16 hz_16 hk_16 hS_16 => ?_)
              rw [ht_16] at hb_16
              obtain ⟨hb_16, hbF_16⟩ := hb_16
              obtain ⟨hb_161, hb_162, hb_163, hb_164, hb_165⟩ := hb_16
              have hh_16 : jSt (dC, dI) B base G0 G0 EX4_memberQ s.heap 0 0 [(r0, 6, 4, .ref keyFirsts_13), (r0, 6, 7, .int pv), (r0, 6, 0, .ref wk), (r0, 6, 1, .ref wi), (r0, 6, 2, .ref wz), (r0, 6, 5, .ref jks)] [(wk, 140, 1502, ca 1, fk), (wi, 141, 1502, ca 1, fi), (wz, 142, 1502, ca 1, fz), (jks, 145, 1502, ca 1, fs)] [] H_16 locs_16 := ((hh_12.call hb_161 hb_162 hb_163 hb_164 hS_16 rfl (L1 := [(r0, 6, 4, .ref keyFirsts_13), (r0, 6, 7, .int pv), (r0, 6, 0, .ref wk), (r0, 6, 1, .ref wi), (r0, 6, 2, .ref wz), (r0, 6, 5, .ref jks)]) [0, 1, 2, 3, 4, 5] rfl rfl (M1 := [(wk, 140, 1502, ca 1, fk), (wi, 141, 1502, ca 1, fi), (wz, 142, 1502, ca 1, fz), (jks, 145, 1502, ca 1, fs)]) [0, 1, 2, 3] rfl rfl (I1 := []) [] rfl rfl).more hb_165)
              clear hh_12 ht_16 hvm_16 hz_16 hk_16 hS_16 hb_161 hb_162 hb_163 hb_164 hb_165
              have hfl_18 := hfl_6.tr hbF_16 (by first | exact fun q h => h | (intro q h9; simp at h9 ⊢; exact h9) | (intro q h9; simp at h9))
              obtain ⟨hr_17b, hr_17p⟩ := hr_17
              have hr_17' := jb_01 hr_17b
              refine lv_if_eq (tgt := 74) hx hb dX4_member_68 (by decide) (fun c_19 => ?_) (fun c_19 => ?_)
              · skip
                have c_19' : r_17.toInt = 0 := jb_eq (rfl) ((by decide)) c_19
                first | (have hr_17pq := hr_17p.resolve_left (by omega); clear hr_17p) | (have hr_17pq := hr_17p.resolve_right (by omega); clear hr_17p) | try clear hr_17p
                refine lv_aload_n hx hb dX4_member_74 rfl (lv_at hl 0 rfl) ?_
                obtain ⟨v_20, hv_20, hh_21⟩ := hh_16.pin (C := RX4) (T := TX4) (N := 12) hB6 rfl (by decide) hg_r0 (i := 3) (by decide) rfl
                clear hh_16
                obtain ⟨nexts_22, rfl, hg_nexts_22⟩ := hv_20
                refine j7_read hx hb hown hK (C := RX4) (T := TX4) (N := 12) rfl hly_6_3 hlk_21 (hh_21.at 0 rfl) dX4_member_75 ?_
                refine lv_iload hx hb dX4_member_78 (lv_at hl 4 rfl) ?_
                refine j7_iald hx hb hK hh_21 hB143 1 rfl (by decide) hg_nexts_22 (x := v4_6.toInt) (rfl) (by omega) dX4_member_80 (fun z_23 (hz_23 : True) => ?_)
                refine lv_istore (lv' := [(4, .int z_23), (0, .ref r0), (1, .int a1), (2, .ref r2), (3, .int v3_6), (5, .int v5_6)]) hx hb dX4_member_81 hl (by decide) rfl (fun ls hl => ?_)
                obtain ⟨z_24, ez_24⟩ : ∃ y : Int32, y = v5_6 + 1 := ⟨_, rfl⟩
                refine lv_iinc (v := z_24) (lv' := [(5, .int z_24), (4, .int z_23), (0, .ref r0), (1, .int a1), (2, .ref r2), (3, .int v3_6)]) hx hb dX4_member_83 hl (k := 5) rfl (by rw [ez_24]; rfl) (by decide) rfl (fun ls hl => ?_)
                have hz_24 : z_24.toInt = v5_6.toInt + 1 := by rw [ez_24]; exact jb_iadd2 (rfl) (by decide) (by omega)
                refine lv_goto (tgt := 24) hx hb dX4_member_86 (by decide) ?_
                exact L24 v3_6 z_23 z_24 _ _ (hh_21.sub (L1 := [(r0, 6, 7, .int pv), (r0, 6, 0, .ref wk), (r0, 6, 1, .ref wi), (r0, 6, 2, .ref wz), (r0, 6, 5, .ref jks)]) [2, 3, 4, 5, 6] rfl (M1 := [(wk, 140, 1502, ca 1, fk), (wi, 141, 1502, ca 1, fi), (wz, 142, 1502, ca 1, fz), (jks, 145, 1502, ca 1, fs)]) [0, 1, 2, 3] rfl (I1 := []) [] rfl) (hfl_18) (by first | omega | (refine ⟨?_, ?_, ?_, ?_⟩ <;> (first | omega | rfl | assumption | decide | exact Or.inl rfl | exact Or.inr rfl | (simp only; omega)))) (by omega) _ (lv_sub hl [2, 3, 4, 5, 1, 0] rfl)
              · skip
                have c_19' : r_17.toInt ≠ 0 := jb_eq_n (rfl) ((by decide)) c_19
                first | (have hr_17pq := hr_17p.resolve_left (by omega); clear hr_17p) | (have hr_17pq := hr_17p.resolve_right (by omega); clear hr_17p) | try clear hr_17p
                refine lv_iload hx hb dX4_member_71 (lv_at hl 4 rfl) ?_
                refine lv_istore_n (lv' := [(3, .int v4_6), (0, .ref r0), (1, .int a1), (2, .ref r2), (4, .int v4_6), (5, .int v5_6)]) hx hb dX4_member_73 rfl hl (by decide) rfl (fun ls hl => ?_)
                refine lv_aload_n hx hb dX4_member_74 rfl (lv_at hl 1 rfl) ?_
                obtain ⟨v_25, hv_25, hh_26⟩ := hh_16.pin (C := RX4) (T := TX4) (N := 12) hB6 rfl (by decide) hg_r0 (i := 3) (by decide) rfl
                clear hh_16
                obtain ⟨nexts_27, rfl, hg_nexts_27⟩ := hv_25
                refine j7_read hx hb hown hK (C := RX4) (T := TX4) (N := 12) rfl hly_6_3 hlk_21 (hh_26.at 0 rfl) dX4_member_75 ?_
                refine lv_iload hx hb dX4_member_78 (lv_at hl 4 rfl) ?_
                refine j7_iald hx hb hK hh_26 hB143 1 rfl (by decide) hg_nexts_27 (x := v4_6.toInt) (rfl) (by omega) dX4_member_80 (fun z_28 (hz_28 : True) => ?_)
                refine lv_istore (lv' := [(4, .int z_28), (3, .int v4_6), (0, .ref r0), (1, .int a1), (2, .ref r2), (5, .int v5_6)]) hx hb dX4_member_81 hl (by decide) rfl (fun ls hl => ?_)
                obtain ⟨z_29, ez_29⟩ : ∃ y : Int32, y = v5_6 + 1 := ⟨_, rfl⟩
                refine lv_iinc (v := z_29) (lv' := [(5, .int z_29), (4, .int z_28), (3, .int v4_6), (0, .ref r0), (1, .int a1), (2, .ref r2)]) hx hb dX4_member_83 hl (k := 5) rfl (by rw [ez_29]; rfl) (by decide) rfl (fun ls hl => ?_)
                have hz_29 : z_29.toInt = v5_6.toInt + 1 := by rw [ez_29]; exact jb_iadd2 (rfl) (by decide) (by omega)
                refine lv_goto (tgt := 24) hx hb dX4_member_86 (by decide) ?_
                exact L24 v4_6 z_28 z_29 _ _ (hh_26.sub (L1 := [(r0, 6, 7, .int pv), (r0, 6, 0, .ref wk), (r0, 6, 1, .ref wi), (r0, 6, 2, .ref wz), (r0, 6, 5, .ref jks)]) [2, 3, 4, 5, 6] rfl (M1 := [(wk, 140, 1502, ca 1, fk), (wi, 141, 1502, ca 1, fi), (wz, 142, 1502, ca 1, fz), (jks, 145, 1502, ca 1, fs)]) [0, 1, 2, 3] rfl (I1 := []) [] rfl) (hfl_18) (by first | omega | (refine ⟨?_, ?_, ?_, ?_⟩ <;> (first | omega | rfl | assumption | decide | exact Or.inl rfl | exact Or.inr rfl | (simp only; omega)))) (by omega) _ (lv_sub hl [3, 4, 5, 2, 1, 0] rfl)
    exact L24 (((jSo fz a1.toInt - (0 : Int32).toInt).toNat : Int) : Int).toNat.succ (-1) z_5 0 _ _ hh_1 (hfl_3) (by first | omega | (refine ⟨?_, ?_, ?_, ?_⟩ <;> (first | omega | rfl | assumption | decide | exact Or.inl rfl | exact Or.inr rfl | (simp only; omega)))) (by omega) _ (lv_sub hl [3, 4, 5, 2, 1, 0] rfl)
  · skip
    have c_4' : r_2.toInt ≠ 1 := jb_eq_n (rfl) ((by decide)) c_4
    try clear hr_2
    refine lv_iconst (v := (-1)) hx hb dX4_member_9 (by decide) ?_
    rw [hQ]
    exact W.iret (v := (-1)) hx hb hr (fun t ht hW => ⟨⟨(-1), (), rfl, by first | omega | (refine ⟨?_, ?_, ?_⟩ <;> (first | omega | rfl | assumption | decide | exact Or.inl rfl | exact Or.inr rfl | (simp only; omega))), ⟨hh_1.rt (M1 := []) [] rfl ht, by rw [ht]; exact hfl_3⟩⟩, by rw [ht]; try exact hh_1.1.1, fun q h9 hq => by rw [ht]; try exact hh_1.1.2.1 q h9 hq⟩) hh_1.1.2.2 dX4_member_10
set_option maxHeartbeats 4000000 in
set_option maxRecDepth 20000 in
theorem uX4_isTextQ (l : Launch) (dC : Nat → ClassId) (dI : Nat → Nat → Nat) (ca : Nat → ClassId) (base : Nat) (B : jF) (hB : jBok B) (hAp : jAp (dC, dI)) (hB6 : ∀ n G a H, B 6 n G a H ↔ jOb (dC, dI) 6 12 (F6 n G) a H) (hB140 : ∀ n G a H, B 140 n G a H ↔ jAr (dC, dI) (ca 1) (fun j z => True) n a H) (hB141 : ∀ n G a H, B 141 n G a H ↔ jAr (dC, dI) (ca 1) (fun j z => True) n a H) (hB142 : ∀ n G a H, B 142 n G a H ↔ jAr (dC, dI) (ca 1) (fun j z => True) n a H) (hB146 : ∀ n G a H, B 146 n G a H ↔ jAr (dC, dI) (ca 1) (fun j z => True) n a H) (G0 : jT) (H0 : Heap) (r0 : Nat) (a1 : Int32) (r2 : Nat) (n2 : Nat) (pv : Int32) (wk : Nat) (wi : Nat) (wz : Nat) (fk : Nat → Int32) (fi : Nat → Int32) (fz : Nat → Int32) : Met l yX4_isText (jw yX4_isText cX4_isText 3 (some .boolean)) ({ frames := 5, cells := 0, slots := 0, locals := 165 }) (va_Pc [.ref r0, .int a1, .ref r2] (fun U => U.heap = H0 ∧ jX B base G0 [] H0 ∧ jG dC dI ca base U ∧ jStr base r2 n2 U H0 ∧ G0 r0 = some (6, 0) ∧ G0 wk = some (140, 1502) ∧ G0 wi = some (141, 1502) ∧ G0 wz = some (142, 1502) ∧ jP (dC, dI) G0 H0 [(r0, 6, 7, .int pv), (r0, 6, 0, .ref wk), (r0, 6, 1, .ref wi), (r0, 6, 2, .ref wz)] ∧ jMc (dC, dI) G0 H0 [(wk, 140, 1502, ca 1, fk), (wi, 141, 1502, ca 1, fi), (wz, 142, 1502, ca 1, fz)] ∧ 0 ≤ pv.toInt ∧ pv.toInt ≤ 1502 ∧ n2 ≤ 1000 ∧ jJq fk fi fz pv.toInt)) (va_Qi (S := Unit) (fun r u => (r = 0 ∨ r = 1) ∧ (r.toInt = 0 ∨ (0 ≤ a1.toInt ∧ a1.toInt < pv.toInt ∧ jSo fk a1.toInt = 3 ∧ jSo fz a1.toInt = n2))) (fun u t => (jRt (dC, dI) B base G0 EX4_isTextQ H0 [] t.heap) ∧ jKl [] H0 t.heap) (jA base)) 0 0 (jA base) := by
  refine Met.ofW (cc := cX4_isText) (maxL := 3) (ret := (some .boolean)) (by decide) rfl ?_
  intro p e s m args below meth c s₁ Bd hml hv
  obtain ⟨rfl, hH0, hX, hG, hstr_r2, hg_r0, hg_wk, hg_wi, hg_wz, hP0, hM0, hp0, hp1, hp2, hp3⟩ := hv
  have hK := hG.1
  have hx := Bd.exec
  have hb := Bd.bytes
  have hr := Bd.returns
  have hts := atoms_spec (ws := (jw yX4_isText cX4_isText 3 (some .boolean))) Bd.pre
  have htw : ∀ w ∈ jWl, w.before _ s = true := fun w h => hts w (List.mem_cons_of_mem _ h)
  have hown : s.vm.findClass RX4 = some m.cls := findClass_of_methodNamed Bd.named
  have hlocks := Bd.notSynchronized
  obtain ⟨Q, hQ⟩ : ∃ Q, Q = MQ below (va_Qi (S := Unit) (fun r u => (r = 0 ∨ r = 1) ∧ (r.toInt = 0 ∨ (0 ≤ a1.toInt ∧ a1.toInt < pv.toInt ∧ jSo fk a1.toInt = 3 ∧ jSo fz a1.toInt = n2))) (fun u t => (jRt (dC, dI) B base G0 EX4_isTextQ H0 [] t.heap) ∧ jKl [] H0 t.heap) (jA base)) ([.ref r0, .int a1, .ref r2] : List Value).toArray s 0 0 (jA base) := ⟨_, rfl⟩
  rw [← hQ]
  have hl := lv_entry ([.ref r0, .int a1, .ref r2]) (n := 3) (Nat.le_of_ble_eq_true rfl)
  rw [lg_entry_eq]
  generalize (lg_sl ([.ref r0, .int a1, .ref r2]) ++ List.replicate (3 - (lg_sl ([.ref r0, .int a1, .ref r2])).length) Slot.unset).toArray = ls at hl ⊢
  have hl : lv_has ls 3 [(0, .ref r0), (1, .int a1), (2, .ref r2)] := hl
  generalize hR : (headSpec (jw yX4_isText cX4_isText 3 (some .boolean)) ({ frames := 5, cells := 0, slots := 0, locals := 165 })).room = R
  subst hH0
  have hh : jSt (dC, dI) B base G0 G0 EX4_isTextQ s.heap 0 0 [(r0, 6, 7, .int pv), (r0, 6, 0, .ref wk), (r0, 6, 1, .ref wi), (r0, 6, 2, .ref wz)] [(wk, 140, 1502, ca 1, fk), (wi, 141, 1502, ca 1, fi), (wz, 142, 1502, ca 1, fz)] [] s.heap [] := jSt.start hX hP0 hM0 jIs.nil
  clear hX hP0
  have hk0 : (0 : Int32).toInt = 0 := by decide
  have hk1 : (1 : Int32).toInt = 1 := by decide
  have hk3 : (3 : Int32).toInt = 3 := by decide
  have hly_6_1 := htw (u_lay RX4 TX4 1) (jWc_wsX40 _ (u_in_lay (by decide)))
  have hly_6_2 := htw (u_lay RX4 TX4 2) (jWc_wsX40 _ (u_in_lay (by decide)))
  have hlk_15 := (htw (.fieldLink RX4 15 "ProofServer$Json" "firsts" "[I") (jWr_3 _ (List.mem_of_getElem? (i := 22) rfl)))
  have hlk_18 := (htw (.fieldLink RX4 18 "ProofServer$Json" "sizes" "[I") (jWr_3 _ (List.mem_of_getElem? (i := 23) rfl)))
  have hrg_a1 := jb_rng a1
  have hfl : jKl [] s.heap s.heap := jKl.rf
  refine lv_aload_n hx hb dX4_isText_0 rfl (lv_at hl 0 rfl) ?_
  refine lv_iload_n hx hb dX4_isText_1 rfl (lv_at hl 1 rfl) ?_
  refine va_calli (A0 := jA base) (H0 := s.heap) (va_runV (As := [.int a1]) (rest := []) ⟨hx, hb, hml, hown, hts⟩ (uX4_kindOfW l dC dI ca base B hB hAp hB6 hB140 G0 s.heap r0 a1 pv wk wi wz fk fi fz) (cwV 1 hts (jgV (jWr_23 _ (List.mem_of_getElem? (i := 14) rfl)) (jWr_23 _ (List.mem_of_getElem? (i := 15) rfl)) (jWr_23 _ (List.mem_of_getElem? (i := 16) rfl)) (jWr_1 _ (List.mem_of_getElem? (i := 22) rfl)) (jWr_23 _ (List.mem_of_getElem? (i := 17) rfl))) rfl rfl rfl (by decide +kernel) ⟨by rw [← hR]; exact Nat.le_of_ble_eq_true rfl, by rw [← hR]; exact Nat.le_of_ble_eq_true rfl⟩) ⟨fun a U g mk q => by obtain ⟨q0, q1, q2, qK, q10, q11, q12, q13, q14, q15, q16⟩ := q; exact ⟨q0, q1, q2, jG.calling g mk a qK, q10, q11, q12, q13, q14, q15, q16⟩, hh.recv (C := RX4) (T := TX4) (N := 12) hB6 rfl (by decide) hg_r0 hK, fun U hU hW => ⟨rfl, hU, hh.2.1, hG.step hW hU hh.1, hg_r0, hg_wk, hg_wi, hg_wz, (hh.2.2.1.sub (L1 := [(r0, 6, 7, .int pv), (r0, 6, 0, .ref wk), (r0, 6, 1, .ref wi), (r0, 6, 2, .ref wz)]) [0, 1, 2, 3] rfl), (hh.2.2.2.2.2.2.2.1.sub (L1 := [(wk, 140, 1502, ca 1, fk), (wi, 141, 1502, ca 1, fi), (wz, 142, 1502, ca 1, fz)]) [0, 1, 2] rfl), by first | omega | (refine ⟨?_, ?_⟩ <;> (first | omega | rfl | assumption | decide | exact Or.inl rfl | exact Or.inr rfl | (simp only; omega)))⟩⟩ rfl rfl hl.1 rfl (lv_room (Nat.le_of_ble_eq_true rfl)) dX4_isText_2 ⟨Nat.zero_le _, Nat.zero_le _⟩) hh.1 (fun q _ h => h) (fun q h => h) (fun r_2 u_1 t_1 H_1 locs_1 ht_1 hvm_1 hr_2 hb_1 hz_1 hk_1 hS_1 => ?_)
  rw [ht_1] at hb_1
  obtain ⟨hb_1, hbF_1⟩ := hb_1
  obtain ⟨hb_11, hb_12, hb_13, hb_14, hb_15⟩ := hb_1
  have hh_1 : jSt (dC, dI) B base G0 G0 EX4_isTextQ s.heap 0 0 [(r0, 6, 7, .int pv), (r0, 6, 0, .ref wk), (r0, 6, 1, .ref wi), (r0, 6, 2, .ref wz)] [(wk, 140, 1502, ca 1, fk), (wi, 141, 1502, ca 1, fi), (wz, 142, 1502, ca 1, fz)] [] H_1 locs_1 := ((hh.call hb_11 hb_12 hb_13 hb_14 hS_1 rfl (L1 := [(r0, 6, 7, .int pv), (r0, 6, 0, .ref wk), (r0, 6, 1, .ref wi), (r0, 6, 2, .ref wz)]) [0, 1, 2, 3] rfl rfl (M1 := [(wk, 140, 1502, ca 1, fk), (wi, 141, 1502, ca 1, fi), (wz, 142, 1502, ca 1, fz)]) [0, 1, 2] rfl rfl (I1 := []) [] rfl rfl).more hb_15)
  clear hh ht_1 hvm_1 hz_1 hk_1 hS_1 hb_11 hb_12 hb_13 hb_14 hb_15
  have hfl_3 := hfl.tr hbF_1 (by first | exact fun q h => h | (intro q h9; simp at h9 ⊢; exact h9) | (intro q h9; simp at h9))
  refine lv_iconst (v := 3) hx hb dX4_isText_5 (by decide) ?_
  refine lv_icmp_ne (tgt := 33) hx hb dX4_isText_6 (by decide) (fun c_4 => ?_) (fun c_4 => ?_)
  · skip
    have c_4' : r_2.toInt ≠ 3 := jb_ne (rfl) ((by decide)) c_4
    try clear hr_2
    refine lv_iconst (v := 0) hx hb dX4_isText_33 (by decide) ?_
    rw [hQ]
    exact W.zret (v := 0) hx hb hr (jb_nz (Or.inl rfl)) (fun t ht hW => ⟨⟨0, (), rfl, ⟨(Or.inl rfl), by first | omega | rfl | assumption | decide | exact Or.inl rfl | exact Or.inr rfl | (simp only; omega)⟩, ⟨hh_1.rt (M1 := []) [] rfl ht, by rw [ht]; exact hfl_3⟩⟩, by rw [ht]; try exact hh_1.1.1, fun q h9 hq => by rw [ht]; try exact hh_1.1.2.1 q h9 hq⟩) hh_1.1.2.2 dX4_isText_34
  · skip
    have c_4' : r_2.toInt = 3 := jb_ne_n (rfl) ((by decide)) c_4
    first | (have hr_2q := hr_2.resolve_left (by omega); clear hr_2) | (have hr_2q := hr_2.resolve_right (by omega); clear hr_2) | try clear hr_2
    have hj3 := hp3 a1.toInt (by omega) (by omega) (by omega)
    refine lv_aload_n hx hb dX4_isText_9 rfl (lv_at hl 0 rfl) ?_
    refine lv_aload_n hx hb dX4_isText_10 rfl (lv_at hl 0 rfl) ?_
    refine j7_read hx hb hown hK (C := RX4) (T := TX4) (N := 12) rfl hly_6_1 hlk_15 (hh_1.at 2 rfl) dX4_isText_11 ?_
    refine lv_iload_n hx hb dX4_isText_14 rfl (lv_at hl 1 rfl) ?_
    refine j7_ialdM hx hb hK hh_1 hB141 1 rfl (by decide) hg_wi (x := a1.toInt) (rfl) (by omega) (j := 1) rfl dX4_isText_15 (fun z_5 ez_5 (hz_5 : True) => ?_)
    have hqz_5 : z_5.toInt = jSo fi (a1.toInt) := by unfold jSo; rw [ez_5]
    refine lv_aload_n hx hb dX4_isText_16 rfl (lv_at hl 0 rfl) ?_
    refine j7_read hx hb hown hK (C := RX4) (T := TX4) (N := 12) rfl hly_6_2 hlk_18 (hh_1.at 3 rfl) dX4_isText_17 ?_
    refine lv_iload_n hx hb dX4_isText_20 rfl (lv_at hl 1 rfl) ?_
    refine j7_ialdM hx hb hK hh_1 hB142 1 rfl (by decide) hg_wz (x := a1.toInt) (rfl) (by omega) (j := 2) rfl dX4_isText_21 (fun z_6 ez_6 (hz_6 : True) => ?_)
    have hqz_6 : z_6.toInt = jSo fz (a1.toInt) := by unfold jSo; rw [ez_6]
    refine lv_aload_n hx hb dX4_isText_22 rfl (lv_at hl 2 rfl) ?_
    refine va_calli (A0 := jA base) (H0 := s.heap) (va_runV (As := [.int z_5, .int z_6, .ref r2]) (rest := []) ⟨hx, hb, hml, hown, hts⟩ (uX4_areUnitsQ l dC dI ca base B hB hAp hB6 hB146 G0 H_1 r0 z_5 z_6 r2 n2) (cwV 3 hts (jgV (jWr_23 _ (List.mem_of_getElem? (i := 18) rfl)) (jWr_23 _ (List.mem_of_getElem? (i := 19) rfl)) (jWr_23 _ (List.mem_of_getElem? (i := 20) rfl)) (jWr_1 _ (List.mem_of_getElem? (i := 22) rfl)) (jWr_23 _ (List.mem_of_getElem? (i := 21) rfl))) rfl rfl rfl (by decide +kernel) ⟨by rw [← hR]; exact Nat.le_of_ble_eq_true rfl, by rw [← hR]; exact Nat.le_of_ble_eq_true rfl⟩) ⟨fun a U g mk q => by obtain ⟨q0, q1, q2, qK, q10, q11, q12, q13⟩ := q; exact ⟨q0, q1, q2, jG.calling g mk a qK, (q10.moved (Vm.Alike.refl U.vm)), q11, q12, q13⟩, hh_1.recv (C := RX4) (T := TX4) (N := 12) hB6 rfl (by decide) hg_r0 hK, fun U hU hW => ⟨rfl, hU, hh_1.2.1, hG.step hW hU hh_1.1, (hstr_r2.moved hW.alike).kept hh_1.1.2.1, hg_r0, jP.nil, by first | omega | (refine ⟨?_, ?_⟩ <;> (first | omega | rfl | assumption | decide | exact Or.inl rfl | exact Or.inr rfl | (simp only; omega)))⟩⟩ rfl rfl hl.1 rfl (lv_room (Nat.le_of_ble_eq_true rfl)) dX4_isText_23 ⟨Nat.zero_le _, Nat.zero_le _⟩) hh_1.1 (fun q _ h => h) (fun q h => h) (fun r_8 u_7 t_7 H_7 locs_7 ht_7 hvm_7 hr_8 hb_7 hz_7 hk_7 hS_7 => ?_)
    rw [ht_7] at hb_7
    obtain ⟨hb_7, hbF_7⟩ := hb_7
    obtain ⟨hb_71, hb_72, hb_73, hb_74, hb_75⟩ := hb_7
    have hh_7 : jSt (dC, dI) B base G0 G0 EX4_isTextQ s.heap 0 0 [(r0, 6, 7, .int pv), (r0, 6, 0, .ref wk), (r0, 6, 1, .ref wi), (r0, 6, 2, .ref wz)] [(wk, 140, 1502, ca 1, fk), (wi, 141, 1502, ca 1, fi), (wz, 142, 1502, ca 1, fz)] [] H_7 locs_7 := ((hh_1.call hb_71 hb_72 hb_73 hb_74 hS_7 rfl (L1 := [(r0, 6, 7, .int pv), (r0, 6, 0, .ref wk), (r0, 6, 1, .ref wi), (r0, 6, 2, .ref wz)]) [0, 1, 2, 3] rfl rfl (M1 := [(wk, 140, 1502, ca 1, fk), (wi, 141, 1502, ca 1, fi), (wz, 142, 1502, ca 1, fz)]) [0, 1, 2] rfl rfl (I1 := []) [] rfl rfl).more hb_75)
    clear hh_1 ht_7 hvm_7 hz_7 hk_7 hS_7 hb_71 hb_72 hb_73 hb_74 hb_75
    have hfl_9 := hfl_3.tr hbF_7 (by first | exact fun q h => h | (intro q h9; simp at h9 ⊢; exact h9) | (intro q h9; simp at h9))
    obtain ⟨hr_8b, hr_8p⟩ := hr_8
    have hr_8' := jb_01 hr_8b
    refine lv_if_eq (tgt := 33) hx hb dX4_isText_26 (by decide) (fun c_10 => ?_) (fun c_10 => ?_)
    · skip
      have c_10' : r_8.toInt = 0 := jb_eq (rfl) ((by decide)) c_10
      first | (have hr_8pq := hr_8p.resolve_left (by omega); clear hr_8p) | (have hr_8pq := hr_8p.resolve_right (by omega); clear hr_8p) | try clear hr_8p
      refine lv_iconst (v := 0) hx hb dX4_isText_33 (by decide) ?_
      rw [hQ]
      exact W.zret (v := 0) hx hb hr (jb_nz (Or.inl rfl)) (fun t ht hW => ⟨⟨0, (), rfl, ⟨(Or.inl rfl), by first | omega | rfl | assumption | decide | exact Or.inl rfl | exact Or.inr rfl | (simp only; omega)⟩, ⟨hh_7.rt (M1 := []) [] rfl ht, by rw [ht]; exact hfl_9⟩⟩, by rw [ht]; try exact hh_7.1.1, fun q h9 hq => by rw [ht]; try exact hh_7.1.2.1 q h9 hq⟩) hh_7.1.2.2 dX4_isText_34
    · skip
      have c_10' : r_8.toInt ≠ 0 := jb_eq_n (rfl) ((by decide)) c_10
      first | (have hr_8pq := hr_8p.resolve_left (by omega); clear hr_8p) | (have hr_8pq := hr_8p.resolve_right (by omega); clear hr_8p) | try clear hr_8p
      refine lv_iconst (v := 1) hx hb dX4_isText_29 (by decide) ?_
      refine lv_goto (tgt := 34) hx hb dX4_isText_30 (by decide) ?_
      rw [hQ]
      exact W.zret (v := 1) hx hb hr (jb_nz (Or.inr rfl)) (fun t ht hW => ⟨⟨1, (), rfl, ⟨(Or.inr rfl), by first | omega | rfl | assumption | decide | exact Or.inl rfl | exact Or.inr rfl | (simp only; omega)⟩, ⟨hh_7.rt (M1 := []) [] rfl ht, by rw [ht]; exact hfl_9⟩⟩, by rw [ht]; try exact hh_7.1.1, fun q h9 hq => by rw [ht]; try exact hh_7.1.2.1 q h9 hq⟩) hh_7.1.2.2 dX4_isText_34
end
section
theorem dX11_aimAtName_0 : decode cX11_aimAtName 0 = .ok (.aload_n 0, 1) := by decide +kernel
theorem dX11_aimAtName_1 : decode cX11_aimAtName 1 = .ok (.invokevirtual 359, 3) := by decide +kernel
theorem dX11_aimAtName_4 : decode cX11_aimAtName 4 = .ok (.astore_n 2, 1) := by decide +kernel
theorem dX11_aimAtName_5 : decode cX11_aimAtName 5 = .ok (.aload_n 0, 1) := by decide +kernel
theorem dX11_aimAtName_6 : decode cX11_aimAtName 6 = .ok (.getfield 28, 3) := by decide +kernel
theorem dX11_aimAtName_9 : decode cX11_aimAtName 9 = .ok (.aload_n 0, 1) := by decide +kernel
theorem dX11_aimAtName_10 : decode cX11_aimAtName 10 = .ok (.getfield 28, 3) := by decide +kernel
theorem dX11_aimAtName_13 : decode cX11_aimAtName 13 = .ok (.iconst 0, 1) := by decide +kernel
theorem dX11_aimAtName_14 : decode cX11_aimAtName 14 = .ok (.ldc_w 271, 3) := by decide +kernel
theorem dX11_aimAtName_17 : decode cX11_aimAtName 17 = .ok (.invokevirtual 260, 3) := by decide +kernel
theorem dX11_aimAtName_20 : decode cX11_aimAtName 20 = .ok (.ldc_w 441, 3) := by decide +kernel
theorem dX11_aimAtName_23 : decode cX11_aimAtName 23 = .ok (.invokevirtual 260, 3) := by decide +kernel
theorem dX11_aimAtName_26 : decode cX11_aimAtName 26 = .ok (.istore_n 3, 1) := by decide +kernel
theorem dX11_aimAtName_27 : decode cX11_aimAtName 27 = .ok (.aload_n 2, 1) := by decide +kernel
theorem dX11_aimAtName_28 : decode cX11_aimAtName 28 = .ok (.ifnull 15, 3) := by decide +kernel
theorem dX11_aimAtName_31 : decode cX11_aimAtName 31 = .ok (.aload_n 0, 1) := by decide +kernel
theorem dX11_aimAtName_32 : decode cX11_aimAtName 32 = .ok (.getfield 28, 3) := by decide +kernel
theorem dX11_aimAtName_35 : decode cX11_aimAtName 35 = .ok (.iload_n 3, 1) := by decide +kernel
theorem dX11_aimAtName_36 : decode cX11_aimAtName 36 = .ok (.invokevirtual 283, 3) := by decide +kernel
theorem dX11_aimAtName_39 : decode cX11_aimAtName 39 = .ok (.iconst 3, 1) := by decide +kernel
theorem dX11_aimAtName_40 : decode cX11_aimAtName 40 = .ok (.if_icmp .eq 5, 3) := by decide +kernel
theorem dX11_aimAtName_43 : decode cX11_aimAtName 43 = .ok (.iconst 0, 1) := by decide +kernel
theorem dX11_aimAtName_44 : decode cX11_aimAtName 44 = .ok (.ireturn, 1) := by decide +kernel
theorem dX11_aimAtName_45 : decode cX11_aimAtName 45 = .ok (.aload_n 0, 1) := by decide +kernel
theorem dX11_aimAtName_46 : decode cX11_aimAtName 46 = .ok (.getfield 28, 3) := by decide +kernel
theorem dX11_aimAtName_49 : decode cX11_aimAtName 49 = .ok (.iload_n 3, 1) := by decide +kernel
theorem dX11_aimAtName_50 : decode cX11_aimAtName 50 = .ok (.invokevirtual 363, 3) := by decide +kernel
theorem dX11_aimAtName_53 : decode cX11_aimAtName 53 = .ok (.astore 4, 2) := by decide +kernel
theorem dX11_aimAtName_55 : decode cX11_aimAtName 55 = .ok (.aload_n 1, 1) := by decide +kernel
theorem dX11_aimAtName_56 : decode cX11_aimAtName 56 = .ok (.aload_n 2, 1) := by decide +kernel
theorem dX11_aimAtName_57 : decode cX11_aimAtName 57 = .ok (.putfield 432, 3) := by decide +kernel
theorem dX11_aimAtName_60 : decode cX11_aimAtName 60 = .ok (.aload_n 1, 1) := by decide +kernel
theorem dX11_aimAtName_61 : decode cX11_aimAtName 61 = .ok (.aload_n 2, 1) := by decide +kernel
theorem dX11_aimAtName_62 : decode cX11_aimAtName 62 = .ok (.getfield 168, 3) := by decide +kernel
theorem dX11_aimAtName_65 : decode cX11_aimAtName 65 = .ok (.putfield 438, 3) := by decide +kernel
theorem dX11_aimAtName_68 : decode cX11_aimAtName 68 = .ok (.aload_n 1, 1) := by decide +kernel
theorem dX11_aimAtName_69 : decode cX11_aimAtName 69 = .ok (.iconst 1, 1) := by decide +kernel
theorem dX11_aimAtName_70 : decode cX11_aimAtName 70 = .ok (.putfield 443, 3) := by decide +kernel
theorem dX11_aimAtName_73 : decode cX11_aimAtName 73 = .ok (.aload_n 1, 1) := by decide +kernel
theorem dX11_aimAtName_74 : decode cX11_aimAtName 74 = .ok (.aload_n 0, 1) := by decide +kernel
theorem dX11_aimAtName_75 : decode cX11_aimAtName 75 = .ok (.getfield 41, 3) := by decide +kernel
theorem dX11_aimAtName_78 : decode cX11_aimAtName 78 = .ok (.getfield 47, 3) := by decide +kernel
theorem dX11_aimAtName_81 : decode cX11_aimAtName 81 = .ok (.aload 4, 2) := by decide +kernel
theorem dX11_aimAtName_83 : decode cX11_aimAtName 83 = .ok (.iconst 0, 1) := by decide +kernel
theorem dX11_aimAtName_84 : decode cX11_aimAtName 84 = .ok (.aload 4, 2) := by decide +kernel
theorem dX11_aimAtName_86 : decode cX11_aimAtName 86 = .ok (.arraylength, 1) := by decide +kernel
theorem dX11_aimAtName_87 : decode cX11_aimAtName 87 = .ok (.iconst 0, 1) := by decide +kernel
theorem dX11_aimAtName_88 : decode cX11_aimAtName 88 = .ok (.invokevirtual 446, 3) := by decide +kernel
theorem dX11_aimAtName_91 : decode cX11_aimAtName 91 = .ok (.putfield 451, 3) := by decide +kernel
theorem dX11_aimAtName_94 : decode cX11_aimAtName 94 = .ok (.iconst 1, 1) := by decide +kernel
theorem dX11_aimAtName_95 : decode cX11_aimAtName 95 = .ok (.ireturn, 1) := by decide +kernel
def EX11_aimAtName : List (Nat × Nat) := [(8, 3), (10, 1), (10, 2), (10, 3), (10, 4), (101, 0), (102, 0), (132, 0), (133, 0)]
set_option maxHeartbeats 4000000 in
set_option maxRecDepth 20000 in
theorem uX11_aimAtName (l : Launch) (dC : Nat → ClassId) (dI : Nat → Nat → Nat) (ca : Nat → ClassId) (base : Nat) (B : jF) (hB : jBok B) (hAp : jAp (dC, dI)) (hB1 : ∀ n G a H, B 1 n G a H ↔ jOb (dC, dI) 1 3 (F1 n G) a H) (hB3 : ∀ n G a H, B 3 n G a H ↔ jOb (dC, dI) 3 17 (F3 n G) a H) (hB6 : ∀ n G a H, B 6 n G a H ↔ jOb (dC, dI) 6 12 (F6 n G) a H) (hB7 : ∀ n G a H, B 7 n G a H ↔ jOb (dC, dI) 7 11 (F7 n G) a H) (hB8 : ∀ n G a H, B 8 n G a H ↔ jOb (dC, dI) 8 4 (F8 n G) a H) (hB10 : ∀ n G a H, B 10 n G a H ↔ jOb (dC, dI) 10 5 (F10 n G) a H) (hB13 : ∀ n G a H, B 13 n G a H ↔ jOb (dC, dI) 13 19 (F13 n G) a H) (hB101 : ∀ n G a H, B 101 n G a H ↔ jAr (dC, dI) (ca 1) (fun j z => True) n a H) (hB102 : ∀ n G a H, B 102 n G a H ↔ jAl (dC, dI) (ca 2) n a H) (hB132 : ∀ n G a H, B 132 n G a H ↔ jAr (dC, dI) (ca 1) (fun j z => 0 ≤ z.toInt ∧ z.toInt ≤ 10) n a H) (hB133 : ∀ n G a H, B 133 n G a H ↔ jAr (dC, dI) (ca 1) (fun j z => 0 ≤ z.toInt ∧ z.toInt ≤ 8192) n a H) (hB140 : ∀ n G a H, B 140 n G a H ↔ jAr (dC, dI) (ca 1) (fun j z => True) n a H) (hB141 : ∀ n G a H, B 141 n G a H ↔ jAr (dC, dI) (ca 1) (fun j z => True) n a H) (hB142 : ∀ n G a H, B 142 n G a H ↔ jAr (dC, dI) (ca 1) (fun j z => True) n a H) (hB143 : ∀ n G a H, B 143 n G a H ↔ jAr (dC, dI) (ca 1) (fun j z => True) n a H) (hB144 : ∀ n G a H, B 144 n G a H ↔ jAr (dC, dI) (ca 1) (fun j z => 0 ≤ z.toInt ∧ z.toInt ≤ 3000) n a H) (hB145 : ∀ n G a H, B 145 n G a H ↔ jAr (dC, dI) (ca 1) (fun j z => True) n a H) (hB146 : ∀ n G a H, B 146 n G a H ↔ jAr (dC, dI) (ca 1) (fun j z => True) n a H) (hB221 : ∀ n G a H, B 221 n G a H ↔ jAq (dC, dI) (ca 9) (jQn 3 0) n G a H) (G0 : jT) (H0 : Heap) (r0 : Nat) (r1 : Nat) (js : Nat) (pv : Int32) (pu : Int32) (wk : Nat) (wi : Nat) (wz : Nat) (jks : Nat) (fk : Nat → Int32) (fi : Nat → Int32) (fz : Nat → Int32) (fs : Nat → Int32) (LC LS : Nat) : Met l yX11_aimAtName (jw yX11_aimAtName cX11_aimAtName 5 (some .boolean)) ({ frames := 7, cells := LC - H0.size, slots := LS - jTot H0, locals := 212 }) (va_Pc [.ref r0, .ref r1] (fun U => U.heap = H0 ∧ jX B base G0 [] H0 ∧ jG dC dI ca base U ∧ jK7 dC dI ca base U ∧ G0 r0 = some (13, 0) ∧ G0 r1 = some (10, 0) ∧ G0 js = some (6, 0) ∧ G0 wk = some (140, 1502) ∧ G0 wi = some (141, 1502) ∧ G0 wz = some (142, 1502) ∧ G0 jks = some (145, 1502) ∧ jP (dC, dI) G0 H0 [(r0, 13, 2, .ref js), (js, 6, 7, .int pv), (js, 6, 8, .int pu), (js, 6, 0, .ref wk), (js, 6, 1, .ref wi), (js, 6, 2, .ref wz), (js, 6, 5, .ref jks)] ∧ jMc (dC, dI) G0 H0 [(wk, 140, 1502, ca 1, fk), (wi, 141, 1502, ca 1, fi), (wz, 142, 1502, ca 1, fz), (jks, 145, 1502, ca 1, fs)] ∧ jIs (dC, dI) G0 H0 [(jFl, jLs dC dI ca G0 3 none)] ∧ H0.size + 1 ≤ LC ∧ jTot H0 + 3000 ≤ LS ∧ 0 ≤ pv.toInt ∧ pv.toInt ≤ 1502 ∧ 0 ≤ pu.toInt ∧ pu.toInt ≤ 3000 ∧ jJq fk fi fz pv.toInt ∧ jJu fk fz pv.toInt pu.toInt)) (va_Qi (S := jT) (fun r u => (r = 0 ∨ r = 1) ∧ (True)) (fun u t => jRa (dC, dI) B base G0 u EX11_aimAtName H0 (1) (pu.toInt.toNat) [] t.heap ∧ (jNk [0, 1, 2, 3, 4, 5, 6, 7, 8, 9, 10, 11, 12, 13, 14, 15, 16]) G0 u ∧ jIs (dC, dI) u t.heap [(jFl, jLs dC dI ca u 3 none)]) (jA base)) (LC - H0.size) (LS - jTot H0) (jA base) := by
  refine Met.ofW (cc := cX11_aimAtName) (maxL := 5) (ret := (some .boolean)) (by decide) rfl ?_
  intro p e s m args below meth c s₁ Bd hml hv
  obtain ⟨rfl, hH0, hX, hG, hK7, hg_r0, hg_r1, hg_js, hg_wk, hg_wi, hg_wz, hg_jks, hP0, hM0, hI0, hLC0, hLS0, hp0, hp1, hp2, hp3, hp4, hp5⟩ := hv
  have hK := hG.1
  have hx := Bd.exec
  have hb := Bd.bytes
  have hr := Bd.returns
  have hts := atoms_spec (ws := (jw yX11_aimAtName cX11_aimAtName 5 (some .boolean))) Bd.pre
  have htw : ∀ w ∈ jWl, w.before _ s = true := fun w h => hts w (List.mem_cons_of_mem _ h)
  have hown : s.vm.findClass RX11 = some m.cls := findClass_of_methodNamed Bd.named
  have hlocks := Bd.notSynchronized
  obtain ⟨Q, hQ⟩ : ∃ Q, Q = MQ below (va_Qi (S := jT) (fun r u => (r = 0 ∨ r = 1) ∧ (True)) (fun u t => jRa (dC, dI) B base G0 u EX11_aimAtName H0 (1) (pu.toInt.toNat) [] t.heap ∧ (jNk [0, 1, 2, 3, 4, 5, 6, 7, 8, 9, 10, 11, 12, 13, 14, 15, 16]) G0 u ∧ jIs (dC, dI) u t.heap [(jFl, jLs dC dI ca u 3 none)]) (jA base)) ([.ref r0, .ref r1] : List Value).toArray s (LC - H0.size) (LS - jTot H0) (jA base) := ⟨_, rfl⟩
  rw [← hQ]
  have hl := lv_entry ([.ref r0, .ref r1]) (n := 5) (Nat.le_of_ble_eq_true rfl)
  rw [lg_entry_eq]
  generalize (lg_sl ([.ref r0, .ref r1]) ++ List.replicate (5 - (lg_sl ([.ref r0, .ref r1])).length) Slot.unset).toArray = ls at hl ⊢
  have hl : lv_has ls 5 [(0, .ref r0), (1, .ref r1)] := hl
  generalize hR : (headSpec (jw yX11_aimAtName cX11_aimAtName 5 (some .boolean)) ({ frames := 7, cells := LC - H0.size, slots := LS - jTot H0, locals := 212 })).room = R
  subst hH0
  have hh : jSt (dC, dI) B base G0 G0 EX11_aimAtName s.heap 0 0 [(r0, 13, 2, .ref js), (js, 6, 7, .int pv), (js, 6, 8, .int pu), (js, 6, 0, .ref wk), (js, 6, 1, .ref wi), (js, 6, 2, .ref wz), (js, 6, 5, .ref jks)] [(wk, 140, 1502, ca 1, fk), (wi, 141, 1502, ca 1, fi), (wz, 142, 1502, ca 1, fz), (jks, 145, 1502, ca 1, fs)] [(jFl, jLs dC dI ca G0 3 none)] s.heap [] := jSt.start hX hP0 hM0 hI0
  clear hX hP0
  have hk0 : (0 : Int32).toInt = 0 := by decide
  have hk1 : (1 : Int32).toInt = 1 := by decide
  have hk3 : (3 : Int32).toInt = 3 := by decide
  have hly_3_4 := htw (u_lay RX1 TX1 4) (jWc_wsX10 _ (u_in_lay (by decide)))
  have hly_7_0 := htw (u_lay RX5 TX5 0) (jWc_wsX50 _ (u_in_lay (by decide)))
  have hly_10_1 := htw (u_lay RX8 TX8 1) (jWc_wsX80 _ (u_in_lay (by decide)))
  have hly_10_2 := htw (u_lay RX8 TX8 2) (jWc_wsX80 _ (u_in_lay (by decide)))
  have hly_10_3 := htw (u_lay RX8 TX8 3) (jWc_wsX80 _ (u_in_lay (by decide)))
  have hly_10_4 := htw (u_lay RX8 TX8 4) (jWc_wsX80 _ (u_in_lay (by decide)))
  have hly_13_2 := htw (u_lay RX11 TX11 2) (jWc_wsX110 _ (u_in_lay (by decide)))
  have hly_13_5 := htw (u_lay RX11 TX11 5) (jWc_wsX110 _ (u_in_lay (by decide)))
  have hlk_28 := (htw (.fieldLink RX11 28 "ProofServer" "json" "LProofServer$Json;") (jWr_1 _ (List.mem_of_getElem? (i := 23) rfl)))
  obtain ⟨str271, rstr271, hstr2710⟩ := hG.str (o := RX11) (k := 271) (tx := "params") (List.mem_of_getElem? (i := 852) (by decide +kernel))
  have hstr271 : jStr base str271 6 s s.heap := hstr2710
  obtain ⟨str441, rstr441, hstr4410⟩ := hG.str (o := RX11) (k := 441) (tx := "name") (List.mem_of_getElem? (i := 1088) (by decide +kernel))
  have hstr441 : jStr base str441 4 s s.heap := hstr4410
  have hlk_432 := (htw (.fieldLink RX11 432 "ProofServer$Request" "about" "LProofServer$Document;") (jWr_27 _ (List.mem_of_getElem? (i := 14) rfl)))
  have hlk_168 := (htw (.fieldLink RX11 168 "ProofServer$Document" "sentences" "I") (jWr_35 _ (List.mem_of_getElem? (i := 4) rfl)))
  have hlk_438 := (htw (.fieldLink RX11 438 "ProofServer$Request" "needed" "I") (jWr_27 _ (List.mem_of_getElem? (i := 15) rfl)))
  have hlk_443 := (htw (.fieldLink RX11 443 "ProofServer$Request" "isStatement" "Z") (jWr_30 _ (List.mem_of_getElem? (i := 7) rfl)))
  have hlk_41 := (htw (.fieldLink RX11 41 "ProofServer" "kernel" "LProofServer$Kernel;") (jWr_2 _ (List.mem_of_getElem? (i := 5) rfl)))
  have hlk_47 := (htw (.fieldLink RX11 47 "ProofServer$Kernel" "names" "LProofServer$Names;") (jWr_2 _ (List.mem_of_getElem? (i := 9) rfl)))
  have hlk_451 := (htw (.fieldLink RX11 451 "ProofServer$Request" "name" "I") (jWr_30 _ (List.mem_of_getElem? (i := 8) rfl)))
  have hbs : base ≤ s.heap.size := Nat.le_of_lt (Nat.lt_of_le_of_lt (hh.ab hg_r0).1 (hh.ab hg_r0).2)
  have hRc : R.cells = LC - s.heap.size := by rw [← hR]; rfl
  have hRs : R.slots = LS - jTot s.heap := by rw [← hR]; rfl
  refine lv_aload_n hx hb dX11_aimAtName_0 rfl (lv_at hl 0 rfl) ?_
  have hsz_1 := hh.2.2.2.2.2.1
  have htt_1 := hh.2.2.2.2.2.2.1
  refine W.room (fun hrc_1 hrs_1 => ?_)
  refine j_callx (A0 := jA base) (H0 := s.heap) (va_runV (As := []) (rest := []) ⟨hx, hb, hml, hown, hts⟩ (uX11_addressed l dC dI ca base B hB hAp hB1 hB3 hB6 hB13 hB101 hB140 hB141 hB142 hB143 hB144 hB145 hB146 hB221 G0 s.heap r0) (cwV 0 hts (jgV (jWr_27 _ (List.mem_of_getElem? (i := 16) rfl)) (jWr_27 _ (List.mem_of_getElem? (i := 17) rfl)) (jWr_27 _ (List.mem_of_getElem? (i := 18) rfl)) (jWr_1 _ (List.mem_of_getElem? (i := 2) rfl)) (jWr_27 _ (List.mem_of_getElem? (i := 19) rfl))) rfl rfl rfl (by decide +kernel) ⟨by rw [← hR]; exact Nat.le_of_ble_eq_true rfl, by rw [← hR]; exact Nat.le_of_ble_eq_true rfl⟩) ⟨fun a U g mk q => by obtain ⟨q0, q1, q2, qK, q10, q11, q12, q13, q14⟩ := q; exact ⟨q0, q1, q2, jG.calling g mk a qK, (jK7.calling g mk a q10), q11, q12, q13, q14⟩, hh.recv (C := RX11) (T := TX11) (N := 19) hB13 rfl (by decide) hg_r0 hK, fun U hU hW => ⟨rfl, hU, hh.2.1, hG.step hW hU hh.1, (hK7.step hW hU hh.1), hg_r0, jP.nil, (hh.2.2.2.2.2.2.2.2.sub (L1 := [(jFl, jLs dC dI ca G0 3 none)]) [0] rfl), trivial⟩⟩ rfl rfl hl.1 rfl (lv_room (Nat.le_of_ble_eq_true rfl)) dX11_aimAtName_1 ⟨by rw [hRc]; show _ + 0 ≤ _; omega, by rw [hRs]; show _ + 0 ≤ _; omega⟩) hh.1 (fun q _ h => h) (fun q h => h) (fun r_2 u_1 t_1 H_1 locs_1 ht_1 hvm_1 hr_2 hb_1 hz_1 hk_1 hS_1 => ?_)
  rw [ht_1] at hb_1
  obtain ⟨hb_1, hbE_1⟩ := hb_1
  obtain ⟨hb_11, hb_12, hb_13, hb_14, hb_15⟩ := hb_1
  have hh_1 : jSt (dC, dI) B base G0 G0 EX11_aimAtName s.heap 0 0 [(r0, 13, 2, .ref js), (js, 6, 7, .int pv), (js, 6, 8, .int pu), (js, 6, 0, .ref wk), (js, 6, 1, .ref wi), (js, 6, 2, .ref wz), (js, 6, 5, .ref jks)] [(wk, 140, 1502, ca 1, fk), (wi, 141, 1502, ca 1, fi), (wz, 142, 1502, ca 1, fz), (jks, 145, 1502, ca 1, fs)] [(jFl, jLs dC dI ca G0 3 none)] H_1 locs_1 := (((hh.call hb_11 hb_12 hb_13 hb_14 hS_1 rfl (L1 := [(r0, 13, 2, .ref js), (js, 6, 7, .int pv), (js, 6, 8, .int pu), (js, 6, 0, .ref wk), (js, 6, 1, .ref wi), (js, 6, 2, .ref wz), (js, 6, 5, .ref jks)]) [0, 1, 2, 3, 4, 5, 6] rfl rfl (M1 := [(wk, 140, 1502, ca 1, fk), (wi, 141, 1502, ca 1, fi), (wz, 142, 1502, ca 1, fz), (jks, 145, 1502, ca 1, fs)]) [0, 1, 2, 3] rfl rfl (I1 := []) [] rfl rfl).more hb_15)).addIs hbE_1
  clear hh ht_1 hvm_1 hz_1 hk_1 hS_1 hb_11 hb_12 hb_13 hb_14 hb_15
  clear  hbE_1
  rcases hr_2 with rfl | ⟨ret_3, rfl, hg_ret_3⟩
  · skip
    refine j7_nst_n (lv' := [(2, .null), (0, .ref r0), (1, .ref r1)]) hx hb dX11_aimAtName_4 rfl hl (by decide) rfl (fun ls hl => ?_)
    refine lv_aload_n hx hb dX11_aimAtName_5 rfl (lv_at hl 1 rfl) ?_
    refine j7_read hx hb hown hK (C := RX11) (T := TX11) (N := 19) rfl hly_13_2 hlk_28 (hh_1.at 0 rfl) dX11_aimAtName_6 ?_
    refine lv_aload_n hx hb dX11_aimAtName_9 rfl (lv_at hl 1 rfl) ?_
    refine j7_read hx hb hown hK (C := RX11) (T := TX11) (N := 19) rfl hly_13_2 hlk_28 (hh_1.at 0 rfl) dX11_aimAtName_10 ?_
    refine lv_iconst (v := 0) hx hb dX11_aimAtName_13 (by decide) ?_
    refine j_ldcSw hx hb hown rstr271 dX11_aimAtName_14 ?_
    have hsz_4 := hh_1.2.2.2.2.2.1
    have htt_4 := hh_1.2.2.2.2.2.2.1
    refine W.room (fun hrc_4 hrs_4 => ?_)
    refine va_calli (A0 := jA base) (H0 := s.heap) (va_runV (As := [.int 0, .ref str271]) (rest := [.ref js]) ⟨hx, hb, hml, hown, hts⟩ (uX4_memberQ l dC dI ca base B hB hAp hB6 hB140 hB141 hB142 hB143 hB144 hB145 hB146 G0 H_1 js 0 str271 6 pv wk wi wz jks fk fi fz fs) (cwV 2 hts (jgV (jWr_23 _ (List.mem_of_getElem? (i := 10) rfl)) (jWr_23 _ (List.mem_of_getElem? (i := 11) rfl)) (jWr_23 _ (List.mem_of_getElem? (i := 12) rfl)) (jWr_1 _ (List.mem_of_getElem? (i := 22) rfl)) (jWr_23 _ (List.mem_of_getElem? (i := 13) rfl))) rfl rfl rfl (by decide +kernel) ⟨by rw [← hR]; exact Nat.le_of_ble_eq_true rfl, by rw [← hR]; exact Nat.le_of_ble_eq_true rfl⟩) ⟨fun a U g mk q => by obtain ⟨q0, q1, q2, qK, q10, q11, q12, q13, q14, q15, q16, q17, q18⟩ := q; exact ⟨q0, q1, q2, jG.calling g mk a qK, (q10.moved (Vm.Alike.refl U.vm)), q11, q12, q13, q14, q15, q16, q17, q18⟩, hh_1.recv (C := RX4) (T := TX4) (N := 12) hB6 rfl (by decide) hg_js hK, fun U hU hW => ⟨rfl, hU, hh_1.2.1, hG.step hW hU hh_1.1, (hstr271.moved hW.alike).kept hh_1.1.2.1, hg_js, hg_wk, hg_wi, hg_wz, hg_jks, (hh_1.2.2.1.sub (L1 := [(js, 6, 7, .int pv), (js, 6, 0, .ref wk), (js, 6, 1, .ref wi), (js, 6, 2, .ref wz), (js, 6, 5, .ref jks)]) [1, 3, 4, 5, 6] rfl), (hh_1.2.2.2.2.2.2.2.1.sub (L1 := [(wk, 140, 1502, ca 1, fk), (wi, 141, 1502, ca 1, fi), (wz, 142, 1502, ca 1, fz), (jks, 145, 1502, ca 1, fs)]) [0, 1, 2, 3] rfl), by first | omega | (refine ⟨?_, ?_, ?_⟩ <;> (first | omega | rfl | assumption | decide | exact Or.inl rfl | exact Or.inr rfl | (simp only; omega)))⟩⟩ rfl rfl hl.1 rfl (lv_room (Nat.le_of_ble_eq_true rfl)) dX11_aimAtName_17 ⟨by rw [hRc]; show _ + 0 ≤ _; omega, by rw [hRs]; show _ + 0 ≤ _; omega⟩) hh_1.1 (fun q _ h => h) (fun q h => h) (fun r_5 u_4 t_4 H_4 locs_4 ht_4 hvm_4 hr_5 hb_4 hz_4 hk_4 hS_4 => ?_)
    rw [ht_4] at hb_4
    obtain ⟨hb_4, hbF_4⟩ := hb_4
    obtain ⟨hb_41, hb_42, hb_43, hb_44, hb_45⟩ := hb_4
    have hh_4 : jSt (dC, dI) B base G0 G0 EX11_aimAtName s.heap 0 0 [(r0, 13, 2, .ref js), (js, 6, 7, .int pv), (js, 6, 8, .int pu), (js, 6, 0, .ref wk), (js, 6, 1, .ref wi), (js, 6, 2, .ref wz), (js, 6, 5, .ref jks)] [(wk, 140, 1502, ca 1, fk), (wi, 141, 1502, ca 1, fi), (wz, 142, 1502, ca 1, fz), (jks, 145, 1502, ca 1, fs)] [(jFl, jLs dC dI ca G0 3 none)] H_4 locs_4 := ((hh_1.call hb_41 hb_42 hb_43 hb_44 hS_4 rfl (L1 := [(r0, 13, 2, .ref js), (js, 6, 7, .int pv), (js, 6, 8, .int pu), (js, 6, 0, .ref wk), (js, 6, 1, .ref wi), (js, 6, 2, .ref wz), (js, 6, 5, .ref jks)]) [0, 1, 2, 3, 4, 5, 6] rfl rfl (M1 := [(wk, 140, 1502, ca 1, fk), (wi, 141, 1502, ca 1, fi), (wz, 142, 1502, ca 1, fz), (jks, 145, 1502, ca 1, fs)]) [0, 1, 2, 3] rfl rfl (I1 := [(jFl, jLs dC dI ca G0 3 none)]) [0] rfl rfl).more hb_45)
    clear hh_1 ht_4 hvm_4 hz_4 hk_4 hS_4 hb_41 hb_42 hb_43 hb_44 hb_45
    obtain ⟨hr_5_0, hr_5_1, hr_5_2⟩ := hr_5
    refine j_ldcSw hx hb hown rstr441 dX11_aimAtName_20 ?_
    have hsz_6 := hh_4.2.2.2.2.2.1
    have htt_6 := hh_4.2.2.2.2.2.2.1
    refine W.room (fun hrc_6 hrs_6 => ?_)
    refine va_calli (A0 := jA base) (H0 := s.heap) (va_runV (As := [.int r_5, .ref str441]) (rest := []) ⟨hx, hb, hml, hown, hts⟩ (uX4_memberQ l dC dI ca base B hB hAp hB6 hB140 hB141 hB142 hB143 hB144 hB145 hB146 G0 H_4 js r_5 str441 4 pv wk wi wz jks fk fi fz fs) (cwV 2 hts (jgV (jWr_23 _ (List.mem_of_getElem? (i := 10) rfl)) (jWr_23 _ (List.mem_of_getElem? (i := 11) rfl)) (jWr_23 _ (List.mem_of_getElem? (i := 12) rfl)) (jWr_1 _ (List.mem_of_getElem? (i := 22) rfl)) (jWr_23 _ (List.mem_of_getElem? (i := 13) rfl))) rfl rfl rfl (by decide +kernel) ⟨by rw [← hR]; exact Nat.le_of_ble_eq_true rfl, by rw [← hR]; exact Nat.le_of_ble_eq_true rfl⟩) ⟨fun a U g mk q => by obtain ⟨q0, q1, q2, qK, q10, q11, q12, q13, q14, q15, q16, q17, q18⟩ := q; exact ⟨q0, q1, q2, jG.calling g mk a qK, (q10.moved (Vm.Alike.refl U.vm)), q11, q12, q13, q14, q15, q16, q17, q18⟩, hh_4.recv (C := RX4) (T := TX4) (N := 12) hB6 rfl (by decide) hg_js hK, fun U hU hW => ⟨rfl, hU, hh_4.2.1, hG.step hW hU hh_4.1, (hstr441.moved hW.alike).kept hh_4.1.2.1, hg_js, hg_wk, hg_wi, hg_wz, hg_jks, (hh_4.2.2.1.sub (L1 := [(js, 6, 7, .int pv), (js, 6, 0, .ref wk), (js, 6, 1, .ref wi), (js, 6, 2, .ref wz), (js, 6, 5, .ref jks)]) [1, 3, 4, 5, 6] rfl), (hh_4.2.2.2.2.2.2.2.1.sub (L1 := [(wk, 140, 1502, ca 1, fk), (wi, 141, 1502, ca 1, fi), (wz, 142, 1502, ca 1, fz), (jks, 145, 1502, ca 1, fs)]) [0, 1, 2, 3] rfl), by first | omega | (refine ⟨?_, ?_, ?_⟩ <;> (first | omega | rfl | assumption | decide | exact Or.inl rfl | exact Or.inr rfl | (simp only; omega)))⟩⟩ rfl rfl hl.1 rfl (lv_room (Nat.le_of_ble_eq_true rfl)) dX11_aimAtName_23 ⟨by rw [hRc]; show _ + 0 ≤ _; omega, by rw [hRs]; show _ + 0 ≤ _; omega⟩) hh_4.1 (fun q _ h => h) (fun q h => h) (fun r_7 u_6 t_6 H_6 locs_6 ht_6 hvm_6 hr_7 hb_6 hz_6 hk_6 hS_6 => ?_)
    rw [ht_6] at hb_6
    obtain ⟨hb_6, hbF_6⟩ := hb_6
    obtain ⟨hb_61, hb_62, hb_63, hb_64, hb_65⟩ := hb_6
    have hh_6 : jSt (dC, dI) B base G0 G0 EX11_aimAtName s.heap 0 0 [(r0, 13, 2, .ref js), (js, 6, 7, .int pv), (js, 6, 8, .int pu), (js, 6, 0, .ref wk), (js, 6, 1, .ref wi), (js, 6, 2, .ref wz), (js, 6, 5, .ref jks)] [(wk, 140, 1502, ca 1, fk), (wi, 141, 1502, ca 1, fi), (wz, 142, 1502, ca 1, fz), (jks, 145, 1502, ca 1, fs)] [(jFl, jLs dC dI ca G0 3 none)] H_6 locs_6 := ((hh_4.call hb_61 hb_62 hb_63 hb_64 hS_6 rfl (L1 := [(r0, 13, 2, .ref js), (js, 6, 7, .int pv), (js, 6, 8, .int pu), (js, 6, 0, .ref wk), (js, 6, 1, .ref wi), (js, 6, 2, .ref wz), (js, 6, 5, .ref jks)]) [0, 1, 2, 3, 4, 5, 6] rfl rfl (M1 := [(wk, 140, 1502, ca 1, fk), (wi, 141, 1502, ca 1, fi), (wz, 142, 1502, ca 1, fz), (jks, 145, 1502, ca 1, fs)]) [0, 1, 2, 3] rfl rfl (I1 := [(jFl, jLs dC dI ca G0 3 none)]) [0] rfl rfl).more hb_65)
    clear hh_4 ht_6 hvm_6 hz_6 hk_6 hS_6 hb_61 hb_62 hb_63 hb_64 hb_65
    obtain ⟨hr_7_0, hr_7_1, hr_7_2⟩ := hr_7
    refine lv_istore_n (lv' := [(3, .int r_7), (2, .null), (0, .ref r0), (1, .ref r1)]) hx hb dX11_aimAtName_26 rfl hl (by decide) rfl (fun ls hl => ?_)
    refine j7_nld_n hx hb dX11_aimAtName_27 rfl (lv_at hl 1 rfl) ?_
    refine lv_ifnullN (tgt := 43) hx hb dX11_aimAtName_28 (by decide) ?_
    refine lv_iconst (v := 0) hx hb dX11_aimAtName_43 (by decide) ?_
    have hsz_8 := hh_6.2.2.2.2.2.1
    have htt_8 := hh_6.2.2.2.2.2.2.1
    refine W.room (fun hrc_8 hrs_8 => ?_)
    refine W.widen (k := LC - s.heap.size) (n := LS - jTot s.heap) (by omega) (by omega) ?_
    rw [hQ]
    exact W.zret (v := 0) hx hb hr (jb_nz (Or.inl rfl)) (fun t ht hW => ⟨⟨0, G0, rfl, ⟨(Or.inl rfl), trivial⟩, ⟨hh_6.ra (by first | omega | (simp only; omega)) (by first | omega | (simp only; omega)) (M1 := []) [] rfl ht, jNk.rf, by rw [ht]; exact hh_6.2.2.2.2.2.2.2.2.sub (L1 := [(jFl, jLs dC dI ca G0 3 none)]) [0] rfl⟩⟩, by rw [ht]; try exact hh_6.1.1, fun q h9 hq => by rw [ht]; try exact hh_6.1.2.1 q h9 hq⟩) hh_6.1.2.2 dX11_aimAtName_44
  · skip
    refine lv_astore_n (lv' := [(2, .ref ret_3), (0, .ref r0), (1, .ref r1)]) hx hb dX11_aimAtName_4 rfl hl (by decide) rfl (fun ls hl => ?_)
    refine lv_aload_n hx hb dX11_aimAtName_5 rfl (lv_at hl 1 rfl) ?_
    refine j7_read hx hb hown hK (C := RX11) (T := TX11) (N := 19) rfl hly_13_2 hlk_28 (hh_1.at 0 rfl) dX11_aimAtName_6 ?_
    refine lv_aload_n hx hb dX11_aimAtName_9 rfl (lv_at hl 1 rfl) ?_
    refine j7_read hx hb hown hK (C := RX11) (T := TX11) (N := 19) rfl hly_13_2 hlk_28 (hh_1.at 0 rfl) dX11_aimAtName_10 ?_
    refine lv_iconst (v := 0) hx hb dX11_aimAtName_13 (by decide) ?_
    refine j_ldcSw hx hb hown rstr271 dX11_aimAtName_14 ?_
    have hsz_9 := hh_1.2.2.2.2.2.1
    have htt_9 := hh_1.2.2.2.2.2.2.1
    refine W.room (fun hrc_9 hrs_9 => ?_)
    refine va_calli (A0 := jA base) (H0 := s.heap) (va_runV (As := [.int 0, .ref str271]) (rest := [.ref js]) ⟨hx, hb, hml, hown, hts⟩ (uX4_memberQ l dC dI ca base B hB hAp hB6 hB140 hB141 hB142 hB143 hB144 hB145 hB146 G0 H_1 js 0 str271 6 pv wk wi wz jks fk fi fz fs) (cwV 2 hts (jgV (jWr_23 _ (List.mem_of_getElem? (i := 10) rfl)) (jWr_23 _ (List.mem_of_getElem? (i := 11) rfl)) (jWr_23 _ (List.mem_of_getElem? (i := 12) rfl)) (jWr_1 _ (List.mem_of_getElem? (i := 22) rfl)) (jWr_23 _ (List.mem_of_getElem? (i := 13) rfl))) rfl rfl rfl (by decide +kernel) ⟨by rw [← hR]; exact Nat.le_of_ble_eq_true rfl, by rw [← hR]; exact Nat.le_of_ble_eq_true rfl⟩) ⟨fun a U g mk q => by obtain ⟨q0, q1, q2, qK, q10, q11, q12, q13, q14, q15, q16, q17, q18⟩ := q; exact ⟨q0, q1, q2, jG.calling g mk a qK, (q10.moved (Vm.Alike.refl U.vm)), q11, q12, q13, q14, q15, q16, q17, q18⟩, hh_1.recv (C := RX4) (T := TX4) (N := 12) hB6 rfl (by decide) hg_js hK, fun U hU hW => ⟨rfl, hU, hh_1.2.1, hG.step hW hU hh_1.1, (hstr271.moved hW.alike).kept hh_1.1.2.1, hg_js, hg_wk, hg_wi, hg_wz, hg_jks, (hh_1.2.2.1.sub (L1 := [(js, 6, 7, .int pv), (js, 6, 0, .ref wk), (js, 6, 1, .ref wi), (js, 6, 2, .ref wz), (js, 6, 5, .ref jks)]) [1, 3, 4, 5, 6] rfl), (hh_1.2.2.2.2.2.2.2.1.sub (L1 := [(wk, 140, 1502, ca 1, fk), (wi, 141, 1502, ca 1, fi), (wz, 142, 1502, ca 1, fz), (jks, 145, 1502, ca 1, fs)]) [0, 1, 2, 3] rfl), by first | omega | (refine ⟨?_, ?_, ?_⟩ <;> (first | omega | rfl | assumption | decide | exact Or.inl rfl | exact Or.inr rfl | (simp only; omega)))⟩⟩ rfl rfl hl.1 rfl (lv_room (Nat.le_of_ble_eq_true rfl)) dX11_aimAtName_17 ⟨by rw [hRc]; show _ + 0 ≤ _; omega, by rw [hRs]; show _ + 0 ≤ _; omega⟩) hh_1.1 (fun q _ h => h) (fun q h => h) (fun r_10 u_9 t_9 H_9 locs_9 ht_9 hvm_9 hr_10 hb_9 hz_9 hk_9 hS_9 => ?_)
    rw [ht_9] at hb_9
    obtain ⟨hb_9, hbF_9⟩ := hb_9
    obtain ⟨hb_91, hb_92, hb_93, hb_94, hb_95⟩ := hb_9
    have hh_9 : jSt (dC, dI) B base G0 G0 EX11_aimAtName s.heap 0 0 [(r0, 13, 2, .ref js), (js, 6, 7, .int pv), (js, 6, 8, .int pu), (js, 6, 0, .ref wk), (js, 6, 1, .ref wi), (js, 6, 2, .ref wz), (js, 6, 5, .ref jks)] [(wk, 140, 1502, ca 1, fk), (wi, 141, 1502, ca 1, fi), (wz, 142, 1502, ca 1, fz), (jks, 145, 1502, ca 1, fs)] [(jFl, jLs dC dI ca G0 3 none)] H_9 locs_9 := ((hh_1.call hb_91 hb_92 hb_93 hb_94 hS_9 rfl (L1 := [(r0, 13, 2, .ref js), (js, 6, 7, .int pv), (js, 6, 8, .int pu), (js, 6, 0, .ref wk), (js, 6, 1, .ref wi), (js, 6, 2, .ref wz), (js, 6, 5, .ref jks)]) [0, 1, 2, 3, 4, 5, 6] rfl rfl (M1 := [(wk, 140, 1502, ca 1, fk), (wi, 141, 1502, ca 1, fi), (wz, 142, 1502, ca 1, fz), (jks, 145, 1502, ca 1, fs)]) [0, 1, 2, 3] rfl rfl (I1 := [(jFl, jLs dC dI ca G0 3 none)]) [0] rfl rfl).more hb_95)
    clear hh_1 ht_9 hvm_9 hz_9 hk_9 hS_9 hb_91 hb_92 hb_93 hb_94 hb_95
    obtain ⟨hr_10_0, hr_10_1, hr_10_2⟩ := hr_10
    refine j_ldcSw hx hb hown rstr441 dX11_aimAtName_20 ?_
    have hsz_11 := hh_9.2.2.2.2.2.1
    have htt_11 := hh_9.2.2.2.2.2.2.1
    refine W.room (fun hrc_11 hrs_11 => ?_)
    refine va_calli (A0 := jA base) (H0 := s.heap) (va_runV (As := [.int r_10, .ref str441]) (rest := []) ⟨hx, hb, hml, hown, hts⟩ (uX4_memberQ l dC dI ca base B hB hAp hB6 hB140 hB141 hB142 hB143 hB144 hB145 hB146 G0 H_9 js r_10 str441 4 pv wk wi wz jks fk fi fz fs) (cwV 2 hts (jgV (jWr_23 _ (List.mem_of_getElem? (i := 10) rfl)) (jWr_23 _ (List.mem_of_getElem? (i := 11) rfl)) (jWr_23 _ (List.mem_of_getElem? (i := 12) rfl)) (jWr_1 _ (List.mem_of_getElem? (i := 22) rfl)) (jWr_23 _ (List.mem_of_getElem? (i := 13) rfl))) rfl rfl rfl (by decide +kernel) ⟨by rw [← hR]; exact Nat.le_of_ble_eq_true rfl, by rw [← hR]; exact Nat.le_of_ble_eq_true rfl⟩) ⟨fun a U g mk q => by obtain ⟨q0, q1, q2, qK, q10, q11, q12, q13, q14, q15, q16, q17, q18⟩ := q; exact ⟨q0, q1, q2, jG.calling g mk a qK, (q10.moved (Vm.Alike.refl U.vm)), q11, q12, q13, q14, q15, q16, q17, q18⟩, hh_9.recv (C := RX4) (T := TX4) (N := 12) hB6 rfl (by decide) hg_js hK, fun U hU hW => ⟨rfl, hU, hh_9.2.1, hG.step hW hU hh_9.1, (hstr441.moved hW.alike).kept hh_9.1.2.1, hg_js, hg_wk, hg_wi, hg_wz, hg_jks, (hh_9.2.2.1.sub (L1 := [(js, 6, 7, .int pv), (js, 6, 0, .ref wk), (js, 6, 1, .ref wi), (js, 6, 2, .ref wz), (js, 6, 5, .ref jks)]) [1, 3, 4, 5, 6] rfl), (hh_9.2.2.2.2.2.2.2.1.sub (L1 := [(wk, 140, 1502, ca 1, fk), (wi, 141, 1502, ca 1, fi), (wz, 142, 1502, ca 1, fz), (jks, 145, 1502, ca 1, fs)]) [0, 1, 2, 3] rfl), by first | omega | (refine ⟨?_, ?_, ?_⟩ <;> (first | omega | rfl | assumption | decide | exact Or.inl rfl | exact Or.inr rfl | (simp only; omega)))⟩⟩ rfl rfl hl.1 rfl (lv_room (Nat.le_of_ble_eq_true rfl)) dX11_aimAtName_23 ⟨by rw [hRc]; show _ + 0 ≤ _; omega, by rw [hRs]; show _ + 0 ≤ _; omega⟩) hh_9.1 (fun q _ h => h) (fun q h => h) (fun r_12 u_11 t_11 H_11 locs_11 ht_11 hvm_11 hr_12 hb_11 hz_11 hk_11 hS_11 => ?_)
    rw [ht_11] at hb_11
    obtain ⟨hb_11, hbF_11⟩ := hb_11
    obtain ⟨hb_111, hb_112, hb_113, hb_114, hb_115⟩ := hb_11
    have hh_11 : jSt (dC, dI) B base G0 G0 EX11_aimAtName s.heap 0 0 [(r0, 13, 2, .ref js), (js, 6, 7, .int pv), (js, 6, 8, .int pu), (js, 6, 0, .ref wk), (js, 6, 1, .ref wi), (js, 6, 2, .ref wz), (js, 6, 5, .ref jks)] [(wk, 140, 1502, ca 1, fk), (wi, 141, 1502, ca 1, fi), (wz, 142, 1502, ca 1, fz), (jks, 145, 1502, ca 1, fs)] [(jFl, jLs dC dI ca G0 3 none)] H_11 locs_11 := ((hh_9.call hb_111 hb_112 hb_113 hb_114 hS_11 rfl (L1 := [(r0, 13, 2, .ref js), (js, 6, 7, .int pv), (js, 6, 8, .int pu), (js, 6, 0, .ref wk), (js, 6, 1, .ref wi), (js, 6, 2, .ref wz), (js, 6, 5, .ref jks)]) [0, 1, 2, 3, 4, 5, 6] rfl rfl (M1 := [(wk, 140, 1502, ca 1, fk), (wi, 141, 1502, ca 1, fi), (wz, 142, 1502, ca 1, fz), (jks, 145, 1502, ca 1, fs)]) [0, 1, 2, 3] rfl rfl (I1 := [(jFl, jLs dC dI ca G0 3 none)]) [0] rfl rfl).more hb_115)
    clear hh_9 ht_11 hvm_11 hz_11 hk_11 hS_11 hb_111 hb_112 hb_113 hb_114 hb_115
    obtain ⟨hr_12_0, hr_12_1, hr_12_2⟩ := hr_12
    refine lv_istore_n (lv' := [(3, .int r_12), (2, .ref ret_3), (0, .ref r0), (1, .ref r1)]) hx hb dX11_aimAtName_26 rfl hl (by decide) rfl (fun ls hl => ?_)
    refine lv_aload_n hx hb dX11_aimAtName_27 rfl (lv_at hl 1 rfl) ?_
    refine lv_ifnull hx hb dX11_aimAtName_28 ?_
    refine lv_aload_n hx hb dX11_aimAtName_31 rfl (lv_at hl 2 rfl) ?_
    refine j7_read hx hb hown hK (C := RX11) (T := TX11) (N := 19) rfl hly_13_2 hlk_28 (hh_11.at 0 rfl) dX11_aimAtName_32 ?_
    refine lv_iload_n hx hb dX11_aimAtName_35 rfl (lv_at hl 0 rfl) ?_
    have hsz_13 := hh_11.2.2.2.2.2.1
    have htt_13 := hh_11.2.2.2.2.2.2.1
    refine W.room (fun hrc_13 hrs_13 => ?_)
    refine va_calli (A0 := jA base) (H0 := s.heap) (va_runV (As := [.int r_12]) (rest := []) ⟨hx, hb, hml, hown, hts⟩ (uX4_kindOfW l dC dI ca base B hB hAp hB6 hB140 G0 H_11 js r_12 pv wk wi wz fk fi fz) (cwV 1 hts (jgV (jWr_27 _ (List.mem_of_getElem? (i := 5) rfl)) (jWr_23 _ (List.mem_of_getElem? (i := 15) rfl)) (jWr_23 _ (List.mem_of_getElem? (i := 16) rfl)) (jWr_1 _ (List.mem_of_getElem? (i := 22) rfl)) (jWr_23 _ (List.mem_of_getElem? (i := 17) rfl))) rfl rfl rfl (by decide +kernel) ⟨by rw [← hR]; exact Nat.le_of_ble_eq_true rfl, by rw [← hR]; exact Nat.le_of_ble_eq_true rfl⟩) ⟨fun a U g mk q => by obtain ⟨q0, q1, q2, qK, q10, q11, q12, q13, q14, q15, q16⟩ := q; exact ⟨q0, q1, q2, jG.calling g mk a qK, q10, q11, q12, q13, q14, q15, q16⟩, hh_11.recv (C := RX4) (T := TX4) (N := 12) hB6 rfl (by decide) hg_js hK, fun U hU hW => ⟨rfl, hU, hh_11.2.1, hG.step hW hU hh_11.1, hg_js, hg_wk, hg_wi, hg_wz, (hh_11.2.2.1.sub (L1 := [(js, 6, 7, .int pv), (js, 6, 0, .ref wk), (js, 6, 1, .ref wi), (js, 6, 2, .ref wz)]) [1, 3, 4, 5] rfl), (hh_11.2.2.2.2.2.2.2.1.sub (L1 := [(wk, 140, 1502, ca 1, fk), (wi, 141, 1502, ca 1, fi), (wz, 142, 1502, ca 1, fz)]) [0, 1, 2] rfl), by first | omega | (refine ⟨?_, ?_⟩ <;> (first | omega | rfl | assumption | decide | exact Or.inl rfl | exact Or.inr rfl | (simp only; omega)))⟩⟩ rfl rfl hl.1 rfl (lv_room (Nat.le_of_ble_eq_true rfl)) dX11_aimAtName_36 ⟨by rw [hRc]; show _ + 0 ≤ _; omega, by rw [hRs]; show _ + 0 ≤ _; omega⟩) hh_11.1 (fun q _ h => h) (fun q h => h) (fun r_14 u_13 t_13 H_13 locs_13 ht_13 hvm_13 hr_14 hb_13 hz_13 hk_13 hS_13 => ?_)
    rw [ht_13] at hb_13
    obtain ⟨hb_13, hbF_13⟩ := hb_13
    obtain ⟨hb_131, hb_132, hb_133, hb_134, hb_135⟩ := hb_13
    have hh_13 : jSt (dC, dI) B base G0 G0 EX11_aimAtName s.heap 0 0 [(r0, 13, 2, .ref js), (js, 6, 7, .int pv), (js, 6, 8, .int pu), (js, 6, 0, .ref wk), (js, 6, 1, .ref wi), (js, 6, 2, .ref wz), (js, 6, 5, .ref jks)] [(wk, 140, 1502, ca 1, fk), (wi, 141, 1502, ca 1, fi), (wz, 142, 1502, ca 1, fz), (jks, 145, 1502, ca 1, fs)] [(jFl, jLs dC dI ca G0 3 none)] H_13 locs_13 := ((hh_11.call hb_131 hb_132 hb_133 hb_134 hS_13 rfl (L1 := [(r0, 13, 2, .ref js), (js, 6, 7, .int pv), (js, 6, 8, .int pu), (js, 6, 0, .ref wk), (js, 6, 1, .ref wi), (js, 6, 2, .ref wz), (js, 6, 5, .ref jks)]) [0, 1, 2, 3, 4, 5, 6] rfl rfl (M1 := [(wk, 140, 1502, ca 1, fk), (wi, 141, 1502, ca 1, fi), (wz, 142, 1502, ca 1, fz), (jks, 145, 1502, ca 1, fs)]) [0, 1, 2, 3] rfl rfl (I1 := [(jFl, jLs dC dI ca G0 3 none)]) [0] rfl rfl).more hb_135)
    clear hh_11 ht_13 hvm_13 hz_13 hk_13 hS_13 hb_131 hb_132 hb_133 hb_134 hb_135
    refine lv_iconst (v := 3) hx hb dX11_aimAtName_39 (by decide) ?_
    refine lv_icmp_eq (tgt := 45) hx hb dX11_aimAtName_40 (by decide) (fun c_15 => ?_) (fun c_15 => ?_)
    · skip
      have c_15' : r_14.toInt = 3 := jb_eq (rfl) ((by decide)) c_15
      first | (have hr_12_2q := hr_12_2.resolve_left (by omega); clear hr_12_2) | (have hr_12_2q := hr_12_2.resolve_right (by omega); clear hr_12_2) | skip
      first | (have hr_14q := hr_14.resolve_left (by omega); clear hr_14) | (have hr_14q := hr_14.resolve_right (by omega); clear hr_14) | try clear hr_14
      have hju := hp5 r_12.toInt (by omega) (by omega) (by omega)
      refine lv_aload_n hx hb dX11_aimAtName_45 rfl (lv_at hl 2 rfl) ?_
      refine j7_read hx hb hown hK (C := RX11) (T := TX11) (N := 19) rfl hly_13_2 hlk_28 (hh_13.at 0 rfl) dX11_aimAtName_46 ?_
      refine lv_iload_n hx hb dX11_aimAtName_49 rfl (lv_at hl 0 rfl) ?_
      have hsz_16 := hh_13.2.2.2.2.2.1
      have htt_16 := hh_13.2.2.2.2.2.2.1
      refine W.room (fun hrc_16 hrs_16 => ?_)
      refine j_callx (A0 := jA base) (H0 := s.heap) (va_runV (As := [.int r_12]) (rest := []) ⟨hx, hb, hml, hown, hts⟩ (uX4_unitsOfS l dC dI ca base B hB hAp hB6 hB101 hB140 hB141 hB142 hB146 G0 H_13 js r_12 pv wk wi wz fk fi fz LC LS) (cwV 1 hts (jgV (jWr_35 _ (List.mem_of_getElem? (i := 5) rfl)) (jWr_25 _ (List.mem_of_getElem? (i := 0) rfl)) (jWr_25 _ (List.mem_of_getElem? (i := 1) rfl)) (jWr_1 _ (List.mem_of_getElem? (i := 22) rfl)) (jWr_25 _ (List.mem_of_getElem? (i := 2) rfl))) rfl rfl rfl (by decide +kernel) ⟨by rw [← hR]; exact Nat.le_of_ble_eq_true rfl, by rw [← hR]; exact Nat.le_of_ble_eq_true rfl⟩) ⟨fun a U g mk q => by obtain ⟨q0, q1, q2, qK, q10, q11, q12, q13, q14, q15, q16⟩ := q; exact ⟨q0, q1, q2, jG.calling g mk a qK, q10, q11, q12, q13, q14, q15, q16⟩, hh_13.recv (C := RX4) (T := TX4) (N := 12) hB6 rfl (by decide) hg_js hK, fun U hU hW => ⟨rfl, hU, hh_13.2.1, hG.step hW hU hh_13.1, hg_js, hg_wk, hg_wi, hg_wz, (hh_13.2.2.1.sub (L1 := [(js, 6, 7, .int pv), (js, 6, 0, .ref wk), (js, 6, 1, .ref wi), (js, 6, 2, .ref wz)]) [1, 3, 4, 5] rfl), (hh_13.2.2.2.2.2.2.2.1.sub (L1 := [(wk, 140, 1502, ca 1, fk), (wi, 141, 1502, ca 1, fi), (wz, 142, 1502, ca 1, fz)]) [0, 1, 2] rfl), (by omega), (by omega), by first | omega | (refine ⟨?_, ?_, ?_⟩ <;> (first | omega | rfl | assumption | decide | exact Or.inl rfl | exact Or.inr rfl | (simp only; omega)))⟩⟩ rfl rfl hl.1 rfl (lv_room (Nat.le_of_ble_eq_true rfl)) dX11_aimAtName_50 ⟨by rw [hRc]; omega, by rw [hRs]; omega⟩) hh_13.1 (fun q _ h => h) (fun q h => h) (fun r_17 u_16 t_16 H_16 locs_16 ht_16 hvm_16 hr_17 hb_16 hz_16 hk_16 hS_16 => ?_)
      rw [ht_16] at hb_16
      obtain ⟨m_ret_16, G_16⟩ := u_16
      simp only at hb_16
      obtain ⟨⟨hb_161, hb_162, hb_163, hb_164, hb_165, hb_166⟩, hN_16⟩ := hb_16
      have hh_16 : jSt (dC, dI) B base G0 G_16 EX11_aimAtName s.heap (0 + (1)) (0 + (m_ret_16)) [(r0, 13, 2, .ref js), (js, 6, 7, .int pv), (js, 6, 8, .int pu), (js, 6, 0, .ref wk), (js, 6, 1, .ref wi), (js, 6, 2, .ref wz), (js, 6, 5, .ref jks)] [(wk, 140, 1502, ca 1, fk), (wi, 141, 1502, ca 1, fi), (wz, 142, 1502, ca 1, fz), (jks, 145, 1502, ca 1, fs)] [(jFl, jLs dC dI ca G0 3 none)] H_16 locs_16 := (hh_13.callG hb_161 hb_162 hb_163 hb_164 hb_165 hS_16 rfl (L1 := [(r0, 13, 2, .ref js), (js, 6, 7, .int pv), (js, 6, 8, .int pu), (js, 6, 0, .ref wk), (js, 6, 1, .ref wi), (js, 6, 2, .ref wz), (js, 6, 5, .ref jks)]) [0, 1, 2, 3, 4, 5, 6] rfl rfl (M1 := [(wk, 140, 1502, ca 1, fk), (wi, 141, 1502, ca 1, fi), (wz, 142, 1502, ca 1, fz), (jks, 145, 1502, ca 1, fs)]) [0, 1, 2, 3] rfl rfl (I1 := [(jFl, jLs dC dI ca G0 3 none)]) [0] rfl rfl).more hb_166
      have hNn_16 : (jNk [0, 1, 2, 3, 4, 5, 6, 7, 8, 9, 10, 11, 12, 13, 14, 15, 16]) G0 G_16 := (jNk.rf).tr hN_16
      have hg_18 := hb_162 _ _ hg_ret_3
      have hg_19 := hb_162 _ _ hg_r0
      have hg_20 := hb_162 _ _ hg_r1
      have hg_21 := hb_162 _ _ hg_js
      have hg_22 := hb_162 _ _ hg_wk
      have hg_23 := hb_162 _ _ hg_wi
      have hg_24 := hb_162 _ _ hg_wz
      have hg_25 := hb_162 _ _ hg_jks
      have hd_26 := jLs.grow (hh_16.iv 0 rfl) hb_162 hN_16 (by decide)
      have hh_27 := hh_16.sub (L1 := [(r0, 13, 2, .ref js), (js, 6, 7, .int pv), (js, 6, 8, .int pu), (js, 6, 0, .ref wk), (js, 6, 1, .ref wi), (js, 6, 2, .ref wz), (js, 6, 5, .ref jks)]) [0, 1, 2, 3, 4, 5, 6] rfl (M1 := [(wk, 140, 1502, ca 1, fk), (wi, 141, 1502, ca 1, fi), (wz, 142, 1502, ca 1, fz), (jks, 145, 1502, ca 1, fs)]) [0, 1, 2, 3] rfl (I1 := []) [] rfl
      clear hh_16
      have hh_28 := hh_27.addI (jLs.ie hd_26)
      clear hh_27
      obtain ⟨hr_17, hr_17n, hr_17p⟩ := hr_17
      try simp only at hr_17p
      obtain ⟨hr_17p_0, hr_17p_1⟩ := hr_17p
      obtain ⟨ret_29, rfl, hg_ret_29⟩ := hr_17
      have hsy_16 : s.heap.size ≤ ret_29 := Nat.le_trans hh_13.1.1 hr_17n.le
      refine lv_astore (lv' := [(4, .ref ret_29), (3, .int r_12), (2, .ref ret_3), (0, .ref r0), (1, .ref r1)]) hx hb dX11_aimAtName_53 hl (by decide) rfl (fun ls hl => ?_)
      refine lv_aload_n hx hb dX11_aimAtName_55 rfl (lv_at hl 4 rfl) ?_
      refine lv_aload_n hx hb dX11_aimAtName_56 rfl (lv_at hl 2 rfl) ?_
      refine j7_put hx hb hown hK hh_28 hB hAp hB10 (C := RX8) (T := TX8) (N := 5) rfl (by decide) hg_20 (i := 1) (by decide) hly_10_1 rfl hlk_432 rfl (ty := (.object "ProofServer$Document")) (v := .ref ret_3) (by decide +kernel) rfl rfl (Or.inr ⟨_, rfl, hg_18⟩) rfl (L1 := [(r0, 13, 2, .ref js), (js, 6, 7, .int pv), (js, 6, 8, .int pu), (js, 6, 0, .ref wk), (js, 6, 1, .ref wi), (js, 6, 2, .ref wz), (js, 6, 5, .ref jks)]) [0, 1, 2, 3, 4, 5, 6] rfl rfl rfl dX11_aimAtName_57 (fun H_30 locs_30 hh_30 => ?_)
      clear hh_28
      refine lv_aload_n hx hb dX11_aimAtName_60 rfl (lv_at hl 4 rfl) ?_
      refine lv_aload_n hx hb dX11_aimAtName_61 rfl (lv_at hl 2 rfl) ?_
      obtain ⟨v_31, hv_31, hh_32⟩ := hh_30.pin (C := RX1) (T := TX1) (N := 17) hB3 rfl (by decide) hg_18 (i := 4) (by decide) rfl
      clear hh_30
      obtain ⟨sentences_33, rfl, hlosentences_33, hhisentences_33⟩ := hv_31
      refine j7_read hx hb hown hK (C := RX1) (T := TX1) (N := 17) rfl hly_3_4 hlk_168 (hh_32.at 0 rfl) dX11_aimAtName_62 ?_
      refine j7_put hx hb hown hK hh_32 hB hAp hB10 (C := RX8) (T := TX8) (N := 5) rfl (by decide) hg_20 (i := 2) (by decide) hly_10_2 rfl hlk_438 rfl (ty := .int) (v := .int sentences_33) (by decide +kernel) rfl rfl (⟨_, rfl⟩) rfl (L1 := [(ret_3, 3, 4, .int sentences_33), (r1, 10, 1, .ref ret_3), (r0, 13, 2, .ref js), (js, 6, 7, .int pv), (js, 6, 8, .int pu), (js, 6, 0, .ref wk), (js, 6, 1, .ref wi), (js, 6, 2, .ref wz), (js, 6, 5, .ref jks)]) [0, 1, 2, 3, 4, 5, 6, 7, 8] rfl rfl rfl dX11_aimAtName_65 (fun H_34 locs_34 hh_34 => ?_)
      clear hh_32
      refine lv_aload_n hx hb dX11_aimAtName_68 rfl (lv_at hl 4 rfl) ?_
      refine lv_iconst (v := 1) hx hb dX11_aimAtName_69 (by decide) ?_
      refine j7_put hx hb hown hK hh_34 hB hAp hB10 (C := RX8) (T := TX8) (N := 5) rfl (by decide) hg_20 (i := 3) (by decide) hly_10_3 rfl hlk_443 rfl (ty := .boolean) (v := .int 1) (by decide +kernel) (jb_nz (Or.inr rfl)) (jb_fz (Or.inr rfl)) (⟨_, rfl, (Or.inr rfl)⟩) rfl (L1 := [(r1, 10, 2, .int sentences_33), (ret_3, 3, 4, .int sentences_33), (r1, 10, 1, .ref ret_3), (r0, 13, 2, .ref js), (js, 6, 7, .int pv), (js, 6, 8, .int pu), (js, 6, 0, .ref wk), (js, 6, 1, .ref wi), (js, 6, 2, .ref wz), (js, 6, 5, .ref jks)]) [0, 1, 2, 3, 4, 5, 6, 7, 8, 9] rfl rfl rfl dX11_aimAtName_70 (fun H_35 locs_35 hh_35 => ?_)
      clear hh_34
      refine lv_aload_n hx hb dX11_aimAtName_73 rfl (lv_at hl 4 rfl) ?_
      refine lv_aload_n hx hb dX11_aimAtName_74 rfl (lv_at hl 3 rfl) ?_
      obtain ⟨v_36, hv_36, hh_37⟩ := hh_35.pin (C := RX11) (T := TX11) (N := 19) hB13 rfl (by decide) hg_19 (i := 5) (by decide) rfl
      clear hh_35
      obtain ⟨kernel_38, rfl, hg_kernel_38⟩ := hv_36
      refine j7_read hx hb hown hK (C := RX11) (T := TX11) (N := 19) rfl hly_13_5 hlk_41 (hh_37.at 0 rfl) dX11_aimAtName_75 ?_
      obtain ⟨v_39, hv_39, hh_40⟩ := hh_37.pin (C := RX5) (T := TX5) (N := 11) hB7 rfl (by decide) hg_kernel_38 (i := 0) (by decide) rfl
      clear hh_37
      obtain ⟨names_41, rfl, hg_names_41⟩ := hv_39
      refine j7_read hx hb hown hK (C := RX5) (T := TX5) (N := 11) rfl hly_7_0 hlk_47 (hh_40.at 0 rfl) dX11_aimAtName_78 ?_
      refine lv_aload hx hb dX11_aimAtName_81 (lv_at hl 0 rfl) ?_
      refine lv_iconst (v := 0) hx hb dX11_aimAtName_83 (by decide) ?_
      refine lv_aload hx hb dX11_aimAtName_84 (lv_at hl 0 rfl) ?_
      refine j7_len hx hb hK hh_40 hB101 1 rfl (by decide) hg_ret_29 (by omega) dX11_aimAtName_86 (fun z_42 hz_42 => ?_)
      refine lv_iconst (v := 0) hx hb dX11_aimAtName_87 (by decide) ?_
      obtain ⟨v_45, hv_45, hh_46⟩ := hh_40.pin (C := RX6) (T := TX6) (N := 4) hB8 rfl (by decide) hg_names_41 (i := 0) (by decide) rfl
      obtain ⟨stems_47, rfl, hg_stems_47⟩ := hv_45
      obtain ⟨v_48, hv_48, hh_49⟩ := hh_46.pin (C := RX6) (T := TX6) (N := 4) hB8 rfl (by decide) hg_names_41 (i := 1) (by decide) rfl
      obtain ⟨primes_50, rfl, hg_primes_50⟩ := hv_48
      obtain ⟨v_51, hv_51, hh_52⟩ := hh_49.pin (C := RX6) (T := TX6) (N := 4) hB8 rfl (by decide) hg_names_41 (i := 2) (by decide) rfl
      obtain ⟨slots_53, rfl, hg_slots_53⟩ := hv_51
      have hsz_43 := hh_52.2.2.2.2.2.1
      have htt_43 := hh_52.2.2.2.2.2.2.1
      refine W.room (fun hrc_43 hrs_43 => ?_)
      refine va_calli (A0 := jA base) (H0 := s.heap) (va_runV (As := [.ref ret_29, .int 0, .int z_42, .int 0]) (rest := [.ref r1]) ⟨hx, hb, hml, hown, hts⟩ (uX6_numberOfB l dC dI ca base B hB hAp hB8 hB101 hB102 hB132 hB133 G_16 H_35 names_41 ret_29 0 z_42 0 m_ret_16 stems_47 primes_50 slots_53) (cwV 4 hts (jgV (jWr_35 _ (List.mem_of_getElem? (i := 6) rfl)) (jWr_7 _ (List.mem_of_getElem? (i := 14) rfl)) (jWr_7 _ (List.mem_of_getElem? (i := 15) rfl)) (jWr_4 _ (List.mem_of_getElem? (i := 10) rfl)) (jWr_7 _ (List.mem_of_getElem? (i := 16) rfl))) rfl rfl rfl (by decide +kernel) ⟨by rw [← hR]; exact Nat.le_of_ble_eq_true rfl, by rw [← hR]; exact Nat.le_of_ble_eq_true rfl⟩) ⟨fun a U g mk q => by obtain ⟨q0, q1, q2, qK, q10, q11, q12, q13, q14, q15, q16⟩ := q; exact ⟨q0, q1, q2, jG.calling g mk a qK, q10, q11, q12, q13, q14, q15, q16⟩, hh_52.recv (C := RX6) (T := TX6) (N := 4) hB8 rfl (by decide) hg_names_41 hK, fun U hU hW => ⟨rfl, hU, hh_52.2.1, hG.step hW hU hh_52.1, hg_names_41, hg_ret_29, hg_stems_47, hg_primes_50, hg_slots_53, (hh_52.2.2.1.sub (L1 := [(names_41, 8, 0, .ref stems_47), (names_41, 8, 1, .ref primes_50), (names_41, 8, 2, .ref slots_53)]) [2, 1, 0] rfl), by first | omega | rfl | assumption | decide | exact Or.inl rfl | exact Or.inr rfl | (simp only; omega)⟩⟩ rfl rfl hl.1 rfl (lv_room (Nat.le_of_ble_eq_true rfl)) dX11_aimAtName_88 ⟨by rw [hRc]; show _ + 0 ≤ _; omega, by rw [hRs]; show _ + 0 ≤ _; omega⟩) hh_52.1 (fun q _ h => h) (fun q h => h) (fun r_44 u_43 t_43 H_43 locs_43 ht_43 hvm_43 hr_44 hb_43 hz_43 hk_43 hS_43 => ?_)
      rw [ht_43] at hb_43
      obtain ⟨hb_43, hbF_43⟩ := hb_43
      obtain ⟨hb_431, hb_432, hb_433, hb_434, hb_435⟩ := hb_43
      have hh_43 : jSt (dC, dI) B base G0 G_16 EX11_aimAtName s.heap (0 + (1)) (0 + (m_ret_16)) [(names_41, 8, 2, .ref slots_53), (names_41, 8, 1, .ref primes_50), (names_41, 8, 0, .ref stems_47), (kernel_38, 7, 0, .ref names_41), (r0, 13, 5, .ref kernel_38), (r1, 10, 3, .int 1), (r1, 10, 2, .int sentences_33), (ret_3, 3, 4, .int sentences_33), (r1, 10, 1, .ref ret_3), (r0, 13, 2, .ref js), (js, 6, 7, .int pv), (js, 6, 8, .int pu), (js, 6, 0, .ref wk), (js, 6, 1, .ref wi), (js, 6, 2, .ref wz), (js, 6, 5, .ref jks)] [(wk, 140, 1502, ca 1, fk), (wi, 141, 1502, ca 1, fi), (wz, 142, 1502, ca 1, fz), (jks, 145, 1502, ca 1, fs)] [(jFl, jLs dC dI ca G_16 3 none)] H_43 locs_43 := ((hh_52.call hb_431 hb_432 hb_433 hb_434 hS_43 rfl (L1 := [(names_41, 8, 2, .ref slots_53), (names_41, 8, 1, .ref primes_50), (names_41, 8, 0, .ref stems_47), (kernel_38, 7, 0, .ref names_41), (r0, 13, 5, .ref kernel_38), (r1, 10, 3, .int 1), (r1, 10, 2, .int sentences_33), (ret_3, 3, 4, .int sentences_33), (r1, 10, 1, .ref ret_3), (r0, 13, 2, .ref js), (js, 6, 7, .int pv), (js, 6, 8, .int pu), (js, 6, 0, .ref wk), (js, 6, 1, .ref wi), (js, 6, 2, .ref wz), (js, 6, 5, .ref jks)]) [0, 1, 2, 3, 4, 5, 6, 7, 8, 9, 10, 11, 12, 13, 14, 15] rfl rfl (M1 := [(wk, 140, 1502, ca 1, fk), (wi, 141, 1502, ca 1, fi), (wz, 142, 1502, ca 1, fz), (jks, 145, 1502, ca 1, fs)]) [0, 1, 2, 3] rfl rfl (I1 := [(jFl, jLs dC dI ca G_16 3 none)]) [0] rfl rfl).more hb_435)
      clear hh_52 ht_43 hvm_43 hz_43 hk_43 hS_43 hb_431 hb_432 hb_433 hb_434 hb_435
      obtain ⟨hr_44_0, hr_44_1⟩ := hr_44
      refine j7_put hx hb hown hK hh_43 hB hAp hB10 (C := RX8) (T := TX8) (N := 5) rfl (by decide) hg_20 (i := 4) (by decide) hly_10_4 rfl hlk_451 rfl (ty := .int) (v := .int r_44) (by decide +kernel) rfl rfl (⟨_, rfl⟩) rfl (L1 := [(names_41, 8, 2, .ref slots_53), (names_41, 8, 1, .ref primes_50), (names_41, 8, 0, .ref stems_47), (kernel_38, 7, 0, .ref names_41), (r0, 13, 5, .ref kernel_38), (r1, 10, 3, .int 1), (r1, 10, 2, .int sentences_33), (ret_3, 3, 4, .int sentences_33), (r1, 10, 1, .ref ret_3), (r0, 13, 2, .ref js), (js, 6, 7, .int pv), (js, 6, 8, .int pu), (js, 6, 0, .ref wk), (js, 6, 1, .ref wi), (js, 6, 2, .ref wz), (js, 6, 5, .ref jks)]) [0, 1, 2, 3, 4, 5, 6, 7, 8, 9, 10, 11, 12, 13, 14, 15] rfl rfl rfl dX11_aimAtName_91 (fun H_54 locs_54 hh_54 => ?_)
      clear hh_43
      refine lv_iconst (v := 1) hx hb dX11_aimAtName_94 (by decide) ?_
      have hsz_55 := hh_54.2.2.2.2.2.1
      have htt_55 := hh_54.2.2.2.2.2.2.1
      refine W.room (fun hrc_55 hrs_55 => ?_)
      refine W.widen (k := LC - s.heap.size) (n := LS - jTot s.heap) (by omega) (by omega) ?_
      rw [hQ]
      exact W.zret (v := 1) hx hb hr (jb_nz (Or.inr rfl)) (fun t ht hW => ⟨⟨1, G_16, rfl, ⟨(Or.inr rfl), trivial⟩, ⟨hh_54.ra (by first | omega | (simp only; omega)) (by first | omega | (simp only; omega)) (M1 := []) [] rfl ht, hNn_16, by rw [ht]; exact hh_54.2.2.2.2.2.2.2.2.sub (L1 := [(jFl, jLs dC dI ca G_16 3 none)]) [0] rfl⟩⟩, by rw [ht]; try exact hh_54.1.1, fun q h9 hq => by rw [ht]; try exact hh_54.1.2.1 q h9 hq⟩) hh_54.1.2.2 dX11_aimAtName_95
    · skip
      have c_15' : r_14.toInt ≠ 3 := jb_eq_n (rfl) ((by decide)) c_15
      try clear hr_14
      refine lv_iconst (v := 0) hx hb dX11_aimAtName_43 (by decide) ?_
      have hsz_56 := hh_13.2.2.2.2.2.1
      have htt_56 := hh_13.2.2.2.2.2.2.1
      refine W.room (fun hrc_56 hrs_56 => ?_)
      refine W.widen (k := LC - s.heap.size) (n := LS - jTot s.heap) (by omega) (by omega) ?_
      rw [hQ]
      exact W.zret (v := 0) hx hb hr (jb_nz (Or.inl rfl)) (fun t ht hW => ⟨⟨0, G0, rfl, ⟨(Or.inl rfl), trivial⟩, ⟨hh_13.ra (by first | omega | (simp only; omega)) (by first | omega | (simp only; omega)) (M1 := []) [] rfl ht, jNk.rf, by rw [ht]; exact hh_13.2.2.2.2.2.2.2.2.sub (L1 := [(jFl, jLs dC dI ca G0 3 none)]) [0] rfl⟩⟩, by rw [ht]; try exact hh_13.1.1, fun q h9 hq => by rw [ht]; try exact hh_13.1.2.1 q h9 hq⟩) hh_13.1.2.2 dX11_aimAtName_44
end
section
-- the sentences of a document of the class: in order, none empty
def jSn (b e : Nat → Int32) (s u : Int) : Prop := ∀ k : Int, 0 ≤ k → k < s → 0 ≤ jSo b k ∧ jSo b k < jSo e k ∧ jSo e k ≤ u ∧ (k + 1 < s → jSo e k ≤ jSo b (k + 1))
theorem jSn.cg {b e b1 e1 : Nat → Int32} {s u : Int} (h : jSn b e s u) (hb : b1 = b) (he : e1 = e) : jSn b1 e1 s u := by
  subst hb he
  exact h
/-- as many units as sentences -/
theorem jSn.many {b e : Nat → Int32} {s u : Int} (h : jSn b e s u) : ∀ k : Nat, (k : Int) < s → (k : Int) + 1 ≤ jSo e k
  | 0, hk => by
    have := h 0 (by omega) hk
    show (0 : Int) + 1 ≤ jSo e 0
    omega
  | k + 1, hk => by
    have h1 := jSn.many h k (by omega)
    have h2 := h k (by omega) (by omega)
    have h3 := h ((k : Int) + 1) (by omega) (by omega)
    have h4 := h2.2.2.2 (by omega)
    have e1 : ((k + 1 : Nat) : Int) = (k : Int) + 1 := by omega
    rw [e1]
    omega
theorem jSn.le {b e : Nat → Int32} {s u : Int} (h : jSn b e s u) (h0 : 0 ≤ u) : s ≤ u := by
  by_cases q : s ≤ 0
  · omega
  · have h1 := h.many (s - 1).toNat (by omega)
    have h2 := h (s - 1) (by omega) (by omega)
    have e1 : (((s - 1).toNat : Nat) : Int) = s - 1 := by omega
    rw [e1] at h1
    omega
end
section
-- the documents of the class: sentences in order, and what is still to be checked of the open ones
abbrev jFdo : List (Nat × Nat) := [(3, 4), (3, 5), (3, 6), (3, 10), (3, 11), (171, 0), (172, 0)]
def jEd (fe : Nat → Int32) (k : Int) : Int := if k ≤ 0 then 0 else jSo fe (k - 1)
def jPo (fe : Nat → Int32) (ps pk : Int) (vc : Value) (w : Nat) : Prop := pk ≤ ps ∧ ((vc = .null ∧ 575 * (ps - pk) + (1500 - jEd fe pk) ≤ w) ∨ (vc ≠ .null ∧ pk < ps ∧ 575 * (ps - pk) - 16 + (1500 - jSo fe pk) ≤ w))
def jD3 (dC : Nat → ClassId) (dI : Nat → Nat → Nat) (ca : Nat → ClassId) (G : jT) (a yb ye : Nat) (fb fe : Nat → Int32) (ps pk : Int32) (vc : Value) (H : Heap) : Prop := jP (dC, dI) G H [(a, 3, 4, .int ps), (a, 3, 10, .int pk), (a, 3, 11, vc)] ∧ jMc (dC, dI) G H [(yb, 171, 40, ca 1, fb), (ye, 172, 40, ca 1, fe)] ∧ jSn fb fe ps.toInt 1500 ∧ (0 ≤ ps.toInt ∧ ps.toInt ≤ 40 ∧ 0 ≤ pk.toInt)
def jSmm (G : jT) (x : Option Nat) (W : Nat → Nat) : Nat → Nat
  | 0 => 0
  | N + 1 => jSmm G x W N + (if G N = some (3, 0) ∧ x ≠ some N then W N else 0)
theorem jSmm.ne {G : jT} {W : Nat → Nat} {a : Nat} (ha : G a ≠ some (3, 0)) : ∀ N, jSmm G (some a) W N = jSmm G none W N
  | 0 => rfl
  | N + 1 => by
    have h := jSmm.ne (W := W) ha N
    show jSmm G (some a) W N + (if G N = some (3, 0) ∧ some a ≠ some N then W N else 0) = jSmm G none W N + (if G N = some (3, 0) ∧ none ≠ some N then W N else 0)
    rw [h]
    by_cases q : G N = some (3, 0)
    · rw [if_pos ⟨q, fun z => ha (by rw [Option.some.inj z]; exact q)⟩, if_pos ⟨q, fun z => by cases z⟩]
    · rw [if_neg (fun z => q z.1), if_neg (fun z => q z.1)]
theorem jSmm.cg {G G1 : jT} {x : Option Nat} {W W1 : Nat → Nat} (h : ∀ N, (G1 N = some (3, 0) ∧ x ≠ some N) ↔ (G N = some (3, 0) ∧ x ≠ some N)) (hw : ∀ N, x ≠ some N → W1 N = W N) : ∀ N, jSmm G1 x W1 N = jSmm G x W N
  | 0 => rfl
  | N + 1 => by
    have h1 := jSmm.cg h hw N
    show jSmm G1 x W1 N + _ = jSmm G x W N + _
    rw [h1]
    by_cases q : G N = some (3, 0) ∧ x ≠ some N
    · rw [if_pos q, if_pos ((h N).mpr q), hw N q.2]
    · rw [if_neg q, if_neg (fun z => q ((h N).mp z))]
def jDcc (dC : Nat → ClassId) (dI : Nat → Nat → Nat) (ca : Nat → ClassId) (G : jT) (x : Option Nat) (ph : Nat) (H : Heap) : Prop := ∃ Yb Ye W : Nat → Nat,
  (∀ a n, G a = some (3, n) → jf (dC, dI) 3 a 5 (.ref (Yb a)) H ∧ jf (dC, dI) 3 a 6 (.ref (Ye a)) H ∧ G (Yb a) = some (171, 40) ∧ G (Ye a) = some (172, 40)) ∧
  (∀ a b n m, G a = some (3, n) → G b = some (3, m) → Yb a = Yb b → a = b) ∧ (∀ a b n m, G a = some (3, n) → G b = some (3, m) → Ye a = Ye b → a = b) ∧
  (∀ a n, G a = some (3, n) → x ≠ some a → ∃ (fb fe : Nat → Int32) (ps pk : Int32) (vc : Value), jD3 dC dI ca G a (Yb a) (Ye a) fb fe ps pk vc H ∧ (n = 0 → jPo fe ps.toInt pk.toInt vc (W a))) ∧ ∀ N, jSmm G x W N ≤ ph
section J41
variable {dC : Nat → ClassId} {dI : Nat → Nat → Nat} {ca : Nat → ClassId} {G G1 : jT} {H H1 : Heap} {x : Option Nat} {ph : Nat}
theorem jD3.of {a yb ye : Nat} {fb fe : Nat → Int32} {ps pk : Int32} {vc : Value} (h : jD3 dC dI ca G a yb ye fb fe ps pk vc H) (hf : ∀ i v, i = 4 ∨ i = 10 ∨ i = 11 → jf (dC, dI) 3 a i v H → jf (dC, dI) 3 a i v H1) (hb : H1[yb]? = H[yb]?) (he : H1[ye]? = H[ye]?) : jD3 dC dI ca G a yb ye fb fe ps pk vc H1 := by
  obtain ⟨g3, g4, g5⟩ := h
  refine ⟨fun q hq => ?_, fun q hq => ?_, g5⟩
  · obtain ⟨q1, q2⟩ := g3 q hq
    refine ⟨q1, ?_⟩
    simp only [List.mem_cons, List.not_mem_nil, or_false] at hq
    rcases hq with rfl | rfl | rfl
    · exact hf _ _ (Or.inl rfl) q2
    · exact hf _ _ (Or.inr (Or.inl rfl)) q2
    · exact hf _ _ (Or.inr (Or.inr rfl)) q2
  · obtain ⟨q1, q2, q3, q4⟩ := g4 q hq
    refine ⟨q1, q2, q3, q4.kept ?_⟩
    simp only [List.mem_cons, List.not_mem_nil, or_false] at hq
    rcases hq with rfl | rfl
    · exact hb
    · exact he
theorem jD3.up {a yb ye : Nat} {fb fe : Nat → Int32} {ps pk : Int32} {vc : Value} (h : jD3 dC dI ca G a yb ye fb fe ps pk vc H) (hle : jLe G G1) : jD3 dC dI ca G1 a yb ye fb fe ps pk vc H := by
  obtain ⟨g3, g4, g5⟩ := h
  refine ⟨fun q hq => ?_, fun q hq => ?_, g5⟩
  · obtain ⟨⟨n, q1⟩, q2⟩ := g3 q hq
    exact ⟨⟨n, hle _ _ q1⟩, q2⟩
  · obtain ⟨q1, q2⟩ := g4 q hq
    exact ⟨hle _ _ q1, q2⟩
theorem jDcc.ie (h : jDcc dC dI ca G x ph H) : ((jFdo, jDcc dC dI ca G x ph) : jIv).2 H ∧ ∀ H1 H2 : Heap, jAg (dC, dI) G ((jFdo, jDcc dC dI ca G x ph) : jIv).1 H1 H2 → ((jFdo, jDcc dC dI ca G x ph) : jIv).2 H1 → ((jFdo, jDcc dC dI ca G x ph) : jIv).2 H2 := by
  refine ⟨h, fun H1 H2 hA hq => ?_⟩
  obtain ⟨Yb, Ye, W, h1, h2, h3, h4, h5⟩ := hq
  refine ⟨Yb, Ye, W, fun a n ha => ?_, h2, h3, fun a n ha hx => ?_, h5⟩
  · obtain ⟨g1, g2, g3, g4⟩ := h1 a n ha
    exact ⟨hA.1 a 3 n 5 _ ha rfl g1, hA.1 a 3 n 6 _ ha rfl g2, g3, g4⟩
  · obtain ⟨g1, g2, g3, g4⟩ := h1 a n ha
    obtain ⟨fb, fe, ps, pk, vc, g, gp⟩ := h4 a n ha hx
    refine ⟨fb, fe, ps, pk, vc, g.of (fun i v hi hf => ?_) (hA.2 _ _ _ g3 (by omega) (by omega) rfl) (hA.2 _ _ _ g4 (by omega) (by omega) rfl), gp⟩
    rcases hi with rfl | rfl | rfl
    · exact hA.1 a 3 n 4 _ ha rfl hf
    · exact hA.1 a 3 n 10 _ ha rfl hf
    · exact hA.1 a 3 n 11 _ ha rfl hf
theorem jDcc.grow {ks : List Nat} (h : jDcc dC dI ca G x ph H) (hle : jLe G G1) (hN : jNk ks G G1) (hk : ks.contains 3 = true) : jDcc dC dI ca G1 x ph H := by
  obtain ⟨Yb, Ye, W, h1, h2, h3, h4, h5⟩ := h
  refine ⟨Yb, Ye, W, fun a n ha => ?_, fun a b n m ha hb => h2 a b n m (hN a 3 n ha hk) (hN b 3 m hb hk), fun a b n m ha hb => h3 a b n m (hN a 3 n ha hk) (hN b 3 m hb hk), fun a n ha hx => ?_, fun N => ?_⟩
  · obtain ⟨g1, g2, g3, g4⟩ := h1 a n (hN a 3 n ha hk)
    exact ⟨g1, g2, hle _ _ g3, hle _ _ g4⟩
  · obtain ⟨fb, fe, ps, pk, vc, g, gp⟩ := h4 a n (hN a 3 n ha hk) hx
    exact ⟨fb, fe, ps, pk, vc, g.up hle, gp⟩
  · rw [jSmm.cg (G := G) (fun M => ⟨fun q => ⟨hN M 3 0 q.1 hk, q.2⟩, fun q => ⟨hle _ _ q.1, q.2⟩⟩) (fun _ _ => rfl) N]
    exact h5 N
/-- the same, with the numbers of each document told -/
def jDcx (dC : Nat → ClassId) (dI : Nat → Nat → Nat) (ca : Nat → ClassId) (G : jT) (ph : Nat) (sn ck : Nat → Int32) (vn : Nat → Value) (H : Heap) : Prop := jDcc dC dI ca G none ph H ∧ ∀ a n, G a = some (3, n) → jf (dC, dI) 3 a 4 (.int (sn a)) H ∧ jf (dC, dI) 3 a 10 (.int (ck a)) H ∧ jf (dC, dI) 3 a 11 (vn a) H
theorem jDcx.ie {sn ck : Nat → Int32} {vn : Nat → Value} (h : jDcx dC dI ca G ph sn ck vn H) : ((jFdo, jDcx dC dI ca G ph sn ck vn) : jIv).2 H ∧ ∀ H1 H2 : Heap, jAg (dC, dI) G ((jFdo, jDcx dC dI ca G ph sn ck vn) : jIv).1 H1 H2 → ((jFdo, jDcx dC dI ca G ph sn ck vn) : jIv).2 H1 → ((jFdo, jDcx dC dI ca G ph sn ck vn) : jIv).2 H2 :=
  ⟨h, fun H1 H2 hA hq => ⟨(jDcc.ie hq.1).2 H1 H2 hA hq.1, fun a n ha => by
    obtain ⟨q1, q2, q3⟩ := hq.2 a n ha
    exact ⟨hA.1 a 3 n 4 _ ha rfl q1, hA.1 a 3 n 10 _ ha rfl q2, hA.1 a 3 n 11 _ ha rfl q3⟩⟩⟩
theorem jPo.rf {fe : Nat → Int32} {ps pk : Int} {w x : Nat} (h : jPo fe ps pk (.ref x) w) : pk < ps ∧ 575 * (ps - pk) - 16 + (1500 - jSo fe pk) ≤ w := by
  obtain ⟨h1, h2 | h2⟩ := h
  · exact absurd h2.1 (fun q => by cases q)
  · exact h2.2
theorem jEd.le {fb fe : Nat → Int32} {s u k : Int} (h : jSn fb fe s u) (hu : 0 ≤ u) (h0 : 0 ≤ k) (h1 : k ≤ s) : jEd fe k ≤ u := by
  unfold jEd
  by_cases q : k ≤ 0
  · rw [if_pos q]; exact hu
  · rw [if_neg q]
    exact (h (k - 1) (by omega) (by omega)).2.2.1
end J41
end
section
-- how many bytes a message has at least: its strings and keys stand apart
def jCl (D : jC) (N : Int) (e : Nat) : Int := if N ≤ jlo D e then 0 else if N ≤ jlo D e + jln D e then N - jlo D e else jln D e
def jCss (D : jC) (N : Int) : List Nat → Int
  | [] => 0
  | e :: es => jCl D N e + jCss D N es
def jIn1 (D : jC) (N : Int) (e : Nat) : Int := if jlo D e ≤ N ∧ N < jlo D e + jln D e then 1 else 0
def jIs1 (D : jC) (N : Int) : List Nat → Int
  | [] => 0
  | e :: es => jIn1 D N e + jIs1 D N es
theorem jCl.suc {D : jC} {N : Int} {e : Nat} (h : 0 ≤ jln D e) : jCl D (N + 1) e = jCl D N e + jIn1 D N e := by
  unfold jCl jIn1
  by_cases a : N + 1 ≤ jlo D e
  · rw [if_pos a, if_pos (by omega), if_neg (by omega)]; rfl
  · rw [if_neg a]
    by_cases b : N + 1 ≤ jlo D e + jln D e
    · rw [if_pos b, if_pos (by omega : jlo D e ≤ N ∧ N < jlo D e + jln D e)]
      by_cases c : N ≤ jlo D e
      · rw [if_pos c]; omega
      · rw [if_neg c, if_pos (by omega)]; omega
    · rw [if_neg b, if_neg (by omega : ¬ (jlo D e ≤ N ∧ N < jlo D e + jln D e))]
      by_cases c : N ≤ jlo D e
      · rw [if_pos c]; omega
      · rw [if_neg c]
        by_cases d : N ≤ jlo D e + jln D e
        · rw [if_pos d]; omega
        · rw [if_neg d]; omega
theorem jCss.suc {D : jC} {N : Int} : ∀ es : List Nat, (∀ e ∈ es, 0 ≤ jln D e) → jCss D (N + 1) es = jCss D N es + jIs1 D N es
  | [], _ => rfl
  | e :: es, h => by
    have h1 := jCss.suc (N := N) es (fun x hx => h x (List.mem_cons_of_mem _ hx))
    have h2 := jCl.suc (N := N) (h e List.mem_cons_self)
    show jCl D (N + 1) e + jCss D (N + 1) es = jCl D N e + jCss D N es + (jIn1 D N e + jIs1 D N es)
    omega
theorem jIs1.none {D : jC} {N : Int} : ∀ es : List Nat, (∀ e ∈ es, jIn1 D N e = 0) → jIs1 D N es = 0
  | [], _ => rfl
  | e :: es, h => by
    have h1 := jIs1.none es (fun x hx => h x (List.mem_cons_of_mem _ hx))
    have h2 := h e List.mem_cons_self
    show jIn1 D N e + jIs1 D N es = 0
    omega
theorem jIs1.le {D : jC} {N : Int} : ∀ es : List Nat, es.Pairwise (jDjn D) → (∀ e ∈ es, 0 ≤ jln D e) → jIs1 D N es ≤ 1
  | [], _, _ => by show (0 : Int) ≤ 1; omega
  | e :: es, hp, h => by
    obtain ⟨p1, p2⟩ := List.pairwise_cons.mp hp
    have h1 := jIs1.le (N := N) es p2 (fun x hx => h x (List.mem_cons_of_mem _ hx))
    show jIn1 D N e + jIs1 D N es ≤ 1
    by_cases q : jlo D e ≤ N ∧ N < jlo D e + jln D e
    · have h2 : jIs1 D N es = 0 := jIs1.none es (fun x hx => by
        have d := p1 x hx
        have l := h x (List.mem_cons_of_mem _ hx)
        unfold jDjn at d
        unfold jIn1
        rw [if_neg (by omega)])
      have h3 : jIn1 D N e = 1 := by unfold jIn1; rw [if_pos q]
      omega
    · have h3 : jIn1 D N e = 0 := by unfold jIn1; rw [if_neg q]
      omega
theorem jCss.le {D : jC} {es : List Nat} (hp : es.Pairwise (jDjn D)) (h : ∀ e ∈ es, 0 ≤ jln D e) (h0 : ∀ e ∈ es, 0 ≤ jlo D e) : ∀ N : Nat, jCss D (N : Int) es ≤ N
  | 0 => by
    have z : ∀ es : List Nat, (∀ e ∈ es, 0 ≤ jlo D e) → jCss D ((0 : Nat) : Int) es = 0 := fun es => by
      induction es with
      | nil => exact fun _ => rfl
      | cons e es ih =>
        intro hq
        have h1 := ih (fun x hx => hq x (List.mem_cons_of_mem _ hx))
        have h2 := hq e List.mem_cons_self
        show jCl D _ e + jCss D _ es = 0
        have h3 : jCl D ((0 : Nat) : Int) e = 0 := by unfold jCl; rw [if_pos (by omega)]
        omega
    rw [z es h0]
    exact Int.le_refl _
  | N + 1 => by
    have h1 := jCss.le hp h h0 N
    have h2 := jCss.suc (N := (N : Int)) es h
    have h3 := jIs1.le (N := (N : Int)) es hp h
    have e1 : ((N + 1 : Nat) : Int) = (N : Int) + 1 := by omega
    rw [e1]
    omega
/-- and how many values have a key -/
def jCi (n : Nat) : List Nat → Int
  | [] => 0
  | i :: is => (if i < n then 3 else 0) + jCi n is
theorem jCi.out {n : Nat} : ∀ is : List Nat, (∀ i ∈ is, i ≠ n) → jCi (n + 1) is = jCi n is
  | [], _ => rfl
  | i :: is, h => by
    have h1 := jCi.out is (fun x hx => h x (List.mem_cons_of_mem _ hx))
    have h2 := h i List.mem_cons_self
    show (if i < n + 1 then (3 : Int) else 0) + jCi (n + 1) is = (if i < n then 3 else 0) + jCi n is
    rw [h1]
    by_cases q : i < n
    · rw [if_pos q, if_pos (by omega)]
    · rw [if_neg q, if_neg (by omega)]
theorem jCi.suc {n : Nat} {f : Nat → Int32} : ∀ is : List Nat, is.Pairwise (· ≠ ·) → (∀ i ∈ is, 1 ≤ (f i).toInt) → jCi (n + 1) is ≤ jCi n is + (if 1 ≤ (f n).toInt then 3 else 0)
  | [], _, _ => by show (0 : Int) ≤ 0 + _; split <;> omega
  | i :: is, hp, hf => by
    obtain ⟨p1, p2⟩ := List.pairwise_cons.mp hp
    show (if i < n + 1 then (3 : Int) else 0) + jCi (n + 1) is ≤ (if i < n then 3 else 0) + jCi n is + _
    by_cases e : i = n
    · subst e
      rw [jCi.out is (fun x hx q => p1 x hx q.symm), if_pos (by omega : i < i + 1), if_neg (by omega : ¬ i < i), if_pos (hf i List.mem_cons_self)]
      omega
    · have h1 := jCi.suc (n := n) (f := f) is p2 (fun x hx => hf x (List.mem_cons_of_mem _ hx))
      have e2 : (if i < n + 1 then (3 : Int) else 0) = (if i < n then 3 else 0) := by
        by_cases q : i < n
        · rw [if_pos q, if_pos (by omega)]
        · rw [if_neg q, if_neg (by omega)]
      rw [e2]
      omega
end
