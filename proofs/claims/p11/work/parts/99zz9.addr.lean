theorem dX11_addressed_0 : decode cX11_addressed 0 = .ok (.aload_n 0, 1) := by decide +kernel
theorem dX11_addressed_1 : decode cX11_addressed 1 = .ok (.getfield 28, 3) := by decide +kernel
theorem dX11_addressed_4 : decode cX11_addressed 4 = .ok (.aload_n 0, 1) := by decide +kernel
theorem dX11_addressed_5 : decode cX11_addressed 5 = .ok (.getfield 28, 3) := by decide +kernel
theorem dX11_addressed_8 : decode cX11_addressed 8 = .ok (.aload_n 0, 1) := by decide +kernel
theorem dX11_addressed_9 : decode cX11_addressed 9 = .ok (.getfield 28, 3) := by decide +kernel
theorem dX11_addressed_12 : decode cX11_addressed 12 = .ok (.iconst 0, 1) := by decide +kernel
theorem dX11_addressed_13 : decode cX11_addressed 13 = .ok (.ldc_w 271, 3) := by decide +kernel
theorem dX11_addressed_16 : decode cX11_addressed 16 = .ok (.invokevirtual 260, 3) := by decide +kernel
theorem dX11_addressed_19 : decode cX11_addressed 19 = .ok (.ldc_w 344, 3) := by decide +kernel
theorem dX11_addressed_22 : decode cX11_addressed 22 = .ok (.invokevirtual 260, 3) := by decide +kernel
theorem dX11_addressed_25 : decode cX11_addressed 25 = .ok (.ldc_w 346, 3) := by decide +kernel
theorem dX11_addressed_28 : decode cX11_addressed 28 = .ok (.invokevirtual 260, 3) := by decide +kernel
theorem dX11_addressed_31 : decode cX11_addressed 31 = .ok (.istore_n 1, 1) := by decide +kernel
theorem dX11_addressed_32 : decode cX11_addressed 32 = .ok (.iconst 0, 1) := by decide +kernel
theorem dX11_addressed_33 : decode cX11_addressed 33 = .ok (.istore_n 2, 1) := by decide +kernel
theorem dX11_addressed_34 : decode cX11_addressed 34 = .ok (.iload_n 2, 1) := by decide +kernel
theorem dX11_addressed_35 : decode cX11_addressed 35 = .ok (.aload_n 0, 1) := by decide +kernel
theorem dX11_addressed_36 : decode cX11_addressed 36 = .ok (.getfield 61, 3) := by decide +kernel
theorem dX11_addressed_39 : decode cX11_addressed 39 = .ok (.invokeinterface 142 1, 5) := by decide +kernel
theorem dX11_addressed_44 : decode cX11_addressed 44 = .ok (.if_icmp .ge 50, 3) := by decide +kernel
theorem dX11_addressed_47 : decode cX11_addressed 47 = .ok (.aload_n 0, 1) := by decide +kernel
theorem dX11_addressed_48 : decode cX11_addressed 48 = .ok (.getfield 28, 3) := by decide +kernel
theorem dX11_addressed_51 : decode cX11_addressed 51 = .ok (.iload_n 1, 1) := by decide +kernel
theorem dX11_addressed_52 : decode cX11_addressed 52 = .ok (.aload_n 0, 1) := by decide +kernel
theorem dX11_addressed_53 : decode cX11_addressed 53 = .ok (.getfield 61, 3) := by decide +kernel
theorem dX11_addressed_56 : decode cX11_addressed 56 = .ok (.iload_n 2, 1) := by decide +kernel
theorem dX11_addressed_57 : decode cX11_addressed 57 = .ok (.invokeinterface 249 2, 5) := by decide +kernel
theorem dX11_addressed_62 : decode cX11_addressed 62 = .ok (.checkcast 71, 3) := by decide +kernel
theorem dX11_addressed_65 : decode cX11_addressed 65 = .ok (.getfield 348, 3) := by decide +kernel
theorem dX11_addressed_68 : decode cX11_addressed 68 = .ok (.invokevirtual 350, 3) := by decide +kernel
theorem dX11_addressed_71 : decode cX11_addressed 71 = .ok (.ifCond .eq 17, 3) := by decide +kernel
theorem dX11_addressed_74 : decode cX11_addressed 74 = .ok (.aload_n 0, 1) := by decide +kernel
theorem dX11_addressed_75 : decode cX11_addressed 75 = .ok (.getfield 61, 3) := by decide +kernel
theorem dX11_addressed_78 : decode cX11_addressed 78 = .ok (.iload_n 2, 1) := by decide +kernel
theorem dX11_addressed_79 : decode cX11_addressed 79 = .ok (.invokeinterface 249 2, 5) := by decide +kernel
theorem dX11_addressed_84 : decode cX11_addressed 84 = .ok (.checkcast 71, 3) := by decide +kernel
theorem dX11_addressed_87 : decode cX11_addressed 87 = .ok (.areturn, 1) := by decide +kernel
theorem dX11_addressed_88 : decode cX11_addressed 88 = .ok (.iinc 2 1, 3) := by decide +kernel
theorem dX11_addressed_91 : decode cX11_addressed 91 = .ok (.goto (-57), 3) := by decide +kernel
theorem dX11_addressed_94 : decode cX11_addressed 94 = .ok (.aconst_null, 1) := by decide +kernel
theorem dX11_addressed_95 : decode cX11_addressed 95 = .ok (.areturn, 1) := by decide +kernel
theorem dX11_placeTold_0 : decode cX11_placeTold 0 = .ok (.aload_n 0, 1) := by decide +kernel
theorem dX11_placeTold_1 : decode cX11_placeTold 1 = .ok (.getfield 28, 3) := by decide +kernel
theorem dX11_placeTold_4 : decode cX11_placeTold 4 = .ok (.iload_n 1, 1) := by decide +kernel
theorem dX11_placeTold_5 : decode cX11_placeTold 5 = .ok (.ldc_w 415, 3) := by decide +kernel
theorem dX11_placeTold_8 : decode cX11_placeTold 8 = .ok (.invokevirtual 260, 3) := by decide +kernel
theorem dX11_placeTold_11 : decode cX11_placeTold 11 = .ok (.istore_n 3, 1) := by decide +kernel
theorem dX11_placeTold_12 : decode cX11_placeTold 12 = .ok (.aload_n 0, 1) := by decide +kernel
theorem dX11_placeTold_13 : decode cX11_placeTold 13 = .ok (.getfield 28, 3) := by decide +kernel
theorem dX11_placeTold_16 : decode cX11_placeTold 16 = .ok (.iload_n 1, 1) := by decide +kernel
theorem dX11_placeTold_17 : decode cX11_placeTold 17 = .ok (.ldc_w 417, 3) := by decide +kernel
theorem dX11_placeTold_20 : decode cX11_placeTold 20 = .ok (.invokevirtual 260, 3) := by decide +kernel
theorem dX11_placeTold_23 : decode cX11_placeTold 23 = .ok (.istore 4, 2) := by decide +kernel
theorem dX11_placeTold_25 : decode cX11_placeTold 25 = .ok (.aload_n 0, 1) := by decide +kernel
theorem dX11_placeTold_26 : decode cX11_placeTold 26 = .ok (.getfield 28, 3) := by decide +kernel
theorem dX11_placeTold_29 : decode cX11_placeTold 29 = .ok (.iload_n 3, 1) := by decide +kernel
theorem dX11_placeTold_30 : decode cX11_placeTold 30 = .ok (.invokevirtual 283, 3) := by decide +kernel
theorem dX11_placeTold_33 : decode cX11_placeTold 33 = .ok (.iconst 4, 1) := by decide +kernel
theorem dX11_placeTold_34 : decode cX11_placeTold 34 = .ok (.if_icmp .ne 16, 3) := by decide +kernel
theorem dX11_placeTold_37 : decode cX11_placeTold 37 = .ok (.aload_n 0, 1) := by decide +kernel
theorem dX11_placeTold_38 : decode cX11_placeTold 38 = .ok (.getfield 28, 3) := by decide +kernel
theorem dX11_placeTold_41 : decode cX11_placeTold 41 = .ok (.iload 4, 2) := by decide +kernel
theorem dX11_placeTold_43 : decode cX11_placeTold 43 = .ok (.invokevirtual 283, 3) := by decide +kernel
theorem dX11_placeTold_46 : decode cX11_placeTold 46 = .ok (.iconst 4, 1) := by decide +kernel
theorem dX11_placeTold_47 : decode cX11_placeTold 47 = .ok (.if_icmp .eq 5, 3) := by decide +kernel
theorem dX11_placeTold_50 : decode cX11_placeTold 50 = .ok (.iconst (-1), 1) := by decide +kernel
theorem dX11_placeTold_51 : decode cX11_placeTold 51 = .ok (.ireturn, 1) := by decide +kernel
theorem dX11_placeTold_52 : decode cX11_placeTold 52 = .ok (.aload_n 2, 1) := by decide +kernel
theorem dX11_placeTold_53 : decode cX11_placeTold 53 = .ok (.aload_n 0, 1) := by decide +kernel
theorem dX11_placeTold_54 : decode cX11_placeTold 54 = .ok (.getfield 28, 3) := by decide +kernel
theorem dX11_placeTold_57 : decode cX11_placeTold 57 = .ok (.iload_n 3, 1) := by decide +kernel
theorem dX11_placeTold_58 : decode cX11_placeTold 58 = .ok (.invokevirtual 367, 3) := by decide +kernel
theorem dX11_placeTold_61 : decode cX11_placeTold 61 = .ok (.aload_n 0, 1) := by decide +kernel
theorem dX11_placeTold_62 : decode cX11_placeTold 62 = .ok (.getfield 28, 3) := by decide +kernel
theorem dX11_placeTold_65 : decode cX11_placeTold 65 = .ok (.iload 4, 2) := by decide +kernel
theorem dX11_placeTold_67 : decode cX11_placeTold 67 = .ok (.invokevirtual 367, 3) := by decide +kernel
theorem dX11_placeTold_70 : decode cX11_placeTold 70 = .ok (.invokevirtual 419, 3) := by decide +kernel
theorem dX11_placeTold_73 : decode cX11_placeTold 73 = .ok (.ireturn, 1) := by decide +kernel
def EX11_placeTold : List (Nat × Nat) := []
def EX11_addressed : List (Nat × Nat) := []
set_option maxHeartbeats 4000000 in
set_option maxRecDepth 20000 in
theorem uX11_placeTold (l : Launch) (dC : Nat → ClassId) (dI : Nat → Nat → Nat) (ca : Nat → ClassId) (base : Nat) (B : jF) (hB : jBok B) (hAp : jAp (dC, dI)) (hB3 : ∀ n G a H, B 3 n G a H ↔ jOb (dC, dI) 3 17 (F3 n G) a H) (hB6 : ∀ n G a H, B 6 n G a H ↔ jOb (dC, dI) 6 12 (F6 n G) a H) (hB13 : ∀ n G a H, B 13 n G a H ↔ jOb (dC, dI) 13 19 (F13 n G) a H) (hB101 : ∀ n G a H, B 101 n G a H ↔ jAr (dC, dI) (ca 1) (fun j z => True) n a H) (hB140 : ∀ n G a H, B 140 n G a H ↔ jAr (dC, dI) (ca 1) (fun j z => True) n a H) (hB141 : ∀ n G a H, B 141 n G a H ↔ jAr (dC, dI) (ca 1) (fun j z => True) n a H) (hB142 : ∀ n G a H, B 142 n G a H ↔ jAr (dC, dI) (ca 1) (fun j z => True) n a H) (hB143 : ∀ n G a H, B 143 n G a H ↔ jAr (dC, dI) (ca 1) (fun j z => True) n a H) (hB144 : ∀ n G a H, B 144 n G a H ↔ jAr (dC, dI) (ca 1) (fun j z => 0 ≤ z.toInt ∧ z.toInt ≤ 3000) n a H) (hB145 : ∀ n G a H, B 145 n G a H ↔ jAr (dC, dI) (ca 1) (fun j z => True) n a H) (hB146 : ∀ n G a H, B 146 n G a H ↔ jAr (dC, dI) (ca 1) (fun j z => True) n a H) (G0 : jT) (H0 : Heap) (r0 : Nat) (a1 : Int32) (r2 : Nat) (n2 : Nat) : Met l yX11_placeTold (jw yX11_placeTold cX11_placeTold 5 (some .int)) ({ frames := 6, cells := 0, slots := 0, locals := 190 }) (va_Pc [.ref r0, .int a1, .ref r2] (fun U => U.heap = H0 ∧ jX B base G0 [] H0 ∧ jG dC dI ca base U ∧ G0 r0 = some (13, 0) ∧ G0 r2 = some (3, n2) ∧ jP (dC, dI) G0 H0 [] ∧ True)) (va_Qi (S := Unit) (fun r u => (True)) (fun u t => jRt (dC, dI) B base G0 EX11_placeTold H0 [] t.heap) (jA base)) 0 0 (jA base) := by
  refine Met.ofW (cc := cX11_placeTold) (maxL := 5) (ret := (some .int)) (by decide) rfl ?_
  intro p e s m args below meth c s₁ Bd hml hv
  obtain ⟨rfl, hH0, hX, hG, hg_r0, hg_r2, hP0, hp0⟩ := hv
  have hK := hG.1
  have hx := Bd.exec
  have hb := Bd.bytes
  have hr := Bd.returns
  have hts := atoms_spec (ws := (jw yX11_placeTold cX11_placeTold 5 (some .int))) Bd.pre
  have htw : ∀ w ∈ jWl, w.before _ s = true := fun w h => hts w (List.mem_cons_of_mem _ h)
  have hown : s.vm.findClass RX11 = some m.cls := findClass_of_methodNamed Bd.named
  have hlocks := Bd.notSynchronized
  obtain ⟨Q, hQ⟩ : ∃ Q, Q = MQ below (va_Qi (S := Unit) (fun r u => (True)) (fun u t => jRt (dC, dI) B base G0 EX11_placeTold H0 [] t.heap) (jA base)) ([.ref r0, .int a1, .ref r2] : List Value).toArray s 0 0 (jA base) := ⟨_, rfl⟩
  rw [← hQ]
  have hl := lv_entry ([.ref r0, .int a1, .ref r2]) (n := 5) (Nat.le_of_ble_eq_true rfl)
  rw [lg_entry_eq]
  generalize (lg_sl ([.ref r0, .int a1, .ref r2]) ++ List.replicate (5 - (lg_sl ([.ref r0, .int a1, .ref r2])).length) Slot.unset).toArray = ls at hl ⊢
  have hl : lv_has ls 5 [(0, .ref r0), (1, .int a1), (2, .ref r2)] := hl
  generalize hR : (headSpec (jw yX11_placeTold cX11_placeTold 5 (some .int)) ({ frames := 6, cells := 0, slots := 0, locals := 190 })).room = R
  subst hH0
  have hh : jSt (dC, dI) B base G0 G0 EX11_placeTold s.heap 0 0 [] [] [] s.heap [] := jSt.start hX hP0 jMc.nil jIs.nil
  clear hX hP0
  have hkm1 : ((-1) : Int32).toInt = (-1) := by decide
  have hk0 : (0 : Int32).toInt = 0 := by decide
  have hk1 : (1 : Int32).toInt = 1 := by decide
  have hk4 : (4 : Int32).toInt = 4 := by decide
  have hly_13_2 := htw (u_lay RX11 TX11 2) (jWc_wsX110 _ (u_in_lay (by decide)))
  have hlk_28 := (htw (.fieldLink RX11 28 "ProofServer" "json" "LProofServer$Json;") (jWr_1 _ (List.mem_of_getElem? (i := 23) rfl)))
  obtain ⟨str415, rstr415, hstr4150⟩ := hG.str (o := RX11) (k := 415) (tx := "line") (List.mem_of_getElem? (i := 917) (by decide +kernel))
  have hstr415 : jStr base str415 4 s s.heap := hstr4150
  obtain ⟨str417, rstr417, hstr4170⟩ := hG.str (o := RX11) (k := 417) (tx := "character") (List.mem_of_getElem? (i := 918) (by decide +kernel))
  have hstr417 : jStr base str417 9 s s.heap := hstr4170
  have hrg_a1 := jb_rng a1
  refine lv_aload_n hx hb dX11_placeTold_0 rfl (lv_at hl 0 rfl) ?_
  obtain ⟨v_1, hv_1, hh_2⟩ := hh.pin (C := RX11) (T := TX11) (N := 19) hB13 rfl (by decide) hg_r0 (i := 2) (by decide) rfl
  clear hh
  obtain ⟨json_3, rfl, hg_json_3⟩ := hv_1
  refine j7_read hx hb hown hK (C := RX11) (T := TX11) (N := 19) rfl hly_13_2 hlk_28 (hh_2.at 0 rfl) dX11_placeTold_1 ?_
  refine lv_iload_n hx hb dX11_placeTold_4 rfl (lv_at hl 1 rfl) ?_
  refine j_ldcSw hx hb hown rstr415 dX11_placeTold_5 ?_
  refine va_calli (A0 := jA base) (H0 := s.heap) (va_runV (As := [.int a1, .ref str415]) (rest := []) ⟨hx, hb, hml, hown, hts⟩ (uX4_member l dC dI ca base B hB hAp hB6 hB140 hB141 hB142 hB143 hB144 hB145 hB146 G0 s.heap json_3 a1 str415 4) (cwV 2 hts (jgV (jWr_23 _ (List.mem_of_getElem? (i := 10) rfl)) (jWr_23 _ (List.mem_of_getElem? (i := 11) rfl)) (jWr_23 _ (List.mem_of_getElem? (i := 12) rfl)) (jWr_1 _ (List.mem_of_getElem? (i := 22) rfl)) (jWr_23 _ (List.mem_of_getElem? (i := 13) rfl))) rfl rfl rfl (by decide +kernel) ⟨by rw [← hR]; exact Nat.le_of_ble_eq_true rfl, by rw [← hR]; exact Nat.le_of_ble_eq_true rfl⟩) ⟨fun a U g mk q => by obtain ⟨q0, q1, q2, qK, q10, q11, q12, q13⟩ := q; exact ⟨q0, q1, q2, jG.calling g mk a qK, (q10.moved (Vm.Alike.refl U.vm)), q11, q12, q13⟩, hh_2.recv (C := RX4) (T := TX4) (N := 12) hB6 rfl (by decide) hg_json_3 hK, fun U hU hW => ⟨rfl, hU, hh_2.2.1, hG.step hW hU hh_2.1, (hstr415.moved hW.alike).kept hh_2.1.2.1, hg_json_3, jP.nil, by first | omega | rfl | assumption | decide | exact Or.inl rfl | exact Or.inr rfl | (simp only; omega)⟩⟩ rfl rfl hl.1 rfl (lv_room (Nat.le_of_ble_eq_true rfl)) dX11_placeTold_8 ⟨Nat.zero_le _, Nat.zero_le _⟩) hh_2.1 (fun q _ h => h) (fun q h => h) (fun r_5 u_4 t_4 H_4 locs_4 ht_4 hvm_4 hr_5 hb_4 hz_4 hk_4 hS_4 => ?_)
  rw [ht_4] at hb_4
  obtain ⟨hb_41, hb_42, hb_43, hb_44, hb_45⟩ := hb_4
  have hh_4 : jSt (dC, dI) B base G0 G0 EX11_placeTold s.heap 0 0 [(r0, 13, 2, .ref json_3)] [] [] H_4 locs_4 := ((hh_2.call hb_41 hb_42 hb_43 hb_44 hS_4 rfl (L1 := [(r0, 13, 2, .ref json_3)]) [0] rfl rfl (M1 := []) [] rfl rfl (I1 := []) [] rfl rfl).more hb_45)
  clear hh_2 ht_4 hvm_4 hz_4 hk_4 hS_4 hb_41 hb_42 hb_43 hb_44 hb_45
  obtain ⟨hr_5_0, hr_5_1⟩ := hr_5
  refine lv_istore_n (lv' := [(3, .int r_5), (0, .ref r0), (1, .int a1), (2, .ref r2)]) hx hb dX11_placeTold_11 rfl hl (by decide) rfl (fun ls hl => ?_)
  refine lv_aload_n hx hb dX11_placeTold_12 rfl (lv_at hl 1 rfl) ?_
  refine j7_read hx hb hown hK (C := RX11) (T := TX11) (N := 19) rfl hly_13_2 hlk_28 (hh_4.at 0 rfl) dX11_placeTold_13 ?_
  refine lv_iload_n hx hb dX11_placeTold_16 rfl (lv_at hl 2 rfl) ?_
  refine j_ldcSw hx hb hown rstr417 dX11_placeTold_17 ?_
  refine va_calli (A0 := jA base) (H0 := s.heap) (va_runV (As := [.int a1, .ref str417]) (rest := []) ⟨hx, hb, hml, hown, hts⟩ (uX4_member l dC dI ca base B hB hAp hB6 hB140 hB141 hB142 hB143 hB144 hB145 hB146 G0 H_4 json_3 a1 str417 9) (cwV 2 hts (jgV (jWr_23 _ (List.mem_of_getElem? (i := 10) rfl)) (jWr_23 _ (List.mem_of_getElem? (i := 11) rfl)) (jWr_23 _ (List.mem_of_getElem? (i := 12) rfl)) (jWr_1 _ (List.mem_of_getElem? (i := 22) rfl)) (jWr_23 _ (List.mem_of_getElem? (i := 13) rfl))) rfl rfl rfl (by decide +kernel) ⟨by rw [← hR]; exact Nat.le_of_ble_eq_true rfl, by rw [← hR]; exact Nat.le_of_ble_eq_true rfl⟩) ⟨fun a U g mk q => by obtain ⟨q0, q1, q2, qK, q10, q11, q12, q13⟩ := q; exact ⟨q0, q1, q2, jG.calling g mk a qK, (q10.moved (Vm.Alike.refl U.vm)), q11, q12, q13⟩, hh_4.recv (C := RX4) (T := TX4) (N := 12) hB6 rfl (by decide) hg_json_3 hK, fun U hU hW => ⟨rfl, hU, hh_4.2.1, hG.step hW hU hh_4.1, (hstr417.moved hW.alike).kept hh_4.1.2.1, hg_json_3, jP.nil, by first | omega | rfl | assumption | decide | exact Or.inl rfl | exact Or.inr rfl | (simp only; omega)⟩⟩ rfl rfl hl.1 rfl (lv_room (Nat.le_of_ble_eq_true rfl)) dX11_placeTold_20 ⟨Nat.zero_le _, Nat.zero_le _⟩) hh_4.1 (fun q _ h => h) (fun q h => h) (fun r_7 u_6 t_6 H_6 locs_6 ht_6 hvm_6 hr_7 hb_6 hz_6 hk_6 hS_6 => ?_)
  rw [ht_6] at hb_6
  obtain ⟨hb_61, hb_62, hb_63, hb_64, hb_65⟩ := hb_6
  have hh_6 : jSt (dC, dI) B base G0 G0 EX11_placeTold s.heap 0 0 [(r0, 13, 2, .ref json_3)] [] [] H_6 locs_6 := ((hh_4.call hb_61 hb_62 hb_63 hb_64 hS_6 rfl (L1 := [(r0, 13, 2, .ref json_3)]) [0] rfl rfl (M1 := []) [] rfl rfl (I1 := []) [] rfl rfl).more hb_65)
  clear hh_4 ht_6 hvm_6 hz_6 hk_6 hS_6 hb_61 hb_62 hb_63 hb_64 hb_65
  obtain ⟨hr_7_0, hr_7_1⟩ := hr_7
  refine lv_istore (lv' := [(4, .int r_7), (3, .int r_5), (0, .ref r0), (1, .int a1), (2, .ref r2)]) hx hb dX11_placeTold_23 hl (by decide) rfl (fun ls hl => ?_)
  refine lv_aload_n hx hb dX11_placeTold_25 rfl (lv_at hl 2 rfl) ?_
  refine j7_read hx hb hown hK (C := RX11) (T := TX11) (N := 19) rfl hly_13_2 hlk_28 (hh_6.at 0 rfl) dX11_placeTold_26 ?_
  refine lv_iload_n hx hb dX11_placeTold_29 rfl (lv_at hl 1 rfl) ?_
  obtain ⟨v_10, hv_10, hh_11⟩ := hh_6.pin (C := RX4) (T := TX4) (N := 12) hB6 rfl (by decide) hg_json_3 (i := 7) (by decide) rfl
  obtain ⟨values_12, rfl, hlovalues_12, hhivalues_12⟩ := hv_10
  refine va_calli (A0 := jA base) (H0 := s.heap) (va_runV (As := [.int r_5]) (rest := []) ⟨hx, hb, hml, hown, hts⟩ (uX4_kindOf l dC dI ca base B hB hAp hB6 hB140 G0 H_6 json_3 r_5 values_12) (cwV 1 hts (jgV (jWr_27 _ (List.mem_of_getElem? (i := 5) rfl)) (jWr_23 _ (List.mem_of_getElem? (i := 15) rfl)) (jWr_23 _ (List.mem_of_getElem? (i := 16) rfl)) (jWr_1 _ (List.mem_of_getElem? (i := 22) rfl)) (jWr_23 _ (List.mem_of_getElem? (i := 17) rfl))) rfl rfl rfl (by decide +kernel) ⟨by rw [← hR]; exact Nat.le_of_ble_eq_true rfl, by rw [← hR]; exact Nat.le_of_ble_eq_true rfl⟩) ⟨fun a U g mk q => by obtain ⟨q0, q1, q2, qK, q10, q11, q12⟩ := q; exact ⟨q0, q1, q2, jG.calling g mk a qK, q10, q11, q12⟩, hh_11.recv (C := RX4) (T := TX4) (N := 12) hB6 rfl (by decide) hg_json_3 hK, fun U hU hW => ⟨rfl, hU, hh_11.2.1, hG.step hW hU hh_11.1, hg_json_3, (hh_11.2.2.1.sub (L1 := [(json_3, 6, 7, .int values_12)]) [0] rfl), by first | omega | (refine ⟨?_, ?_⟩ <;> (first | omega | rfl | assumption | decide | exact Or.inl rfl | exact Or.inr rfl | (simp only; omega)))⟩⟩ rfl rfl hl.1 rfl (lv_room (Nat.le_of_ble_eq_true rfl)) dX11_placeTold_30 ⟨Nat.zero_le _, Nat.zero_le _⟩) hh_11.1 (fun q _ h => h) (fun q h => h) (fun r_9 u_8 t_8 H_8 locs_8 ht_8 hvm_8 hr_9 hb_8 hz_8 hk_8 hS_8 => ?_)
  rw [ht_8] at hb_8
  obtain ⟨hb_81, hb_82, hb_83, hb_84, hb_85⟩ := hb_8
  have hh_8 : jSt (dC, dI) B base G0 G0 EX11_placeTold s.heap 0 0 [(json_3, 6, 7, .int values_12), (r0, 13, 2, .ref json_3)] [] [] H_8 locs_8 := ((hh_11.call hb_81 hb_82 hb_83 hb_84 hS_8 rfl (L1 := [(json_3, 6, 7, .int values_12), (r0, 13, 2, .ref json_3)]) [0, 1] rfl rfl (M1 := []) [] rfl rfl (I1 := []) [] rfl rfl).more hb_85)
  clear hh_11 ht_8 hvm_8 hz_8 hk_8 hS_8 hb_81 hb_82 hb_83 hb_84 hb_85
  refine lv_iconst (v := 4) hx hb dX11_placeTold_33 (by decide) ?_
  refine lv_icmp_ne (tgt := 50) hx hb dX11_placeTold_34 (by decide) (fun c_13 => ?_) (fun c_13 => ?_)
  · skip
    have c_13' : r_9.toInt ≠ 4 := jb_ne (rfl) ((by decide)) c_13
    try clear hr_9
    refine lv_iconst (v := (-1)) hx hb dX11_placeTold_50 (by decide) ?_
    rw [hQ]
    exact W.iret (v := (-1)) hx hb hr (fun t ht hW => ⟨⟨(-1), (), rfl, trivial, hh_8.rt (M1 := []) [] rfl ht⟩, by rw [ht]; try exact hh_8.1.1, fun q h9 hq => by rw [ht]; try exact hh_8.1.2.1 q h9 hq⟩) hh_8.1.2.2 dX11_placeTold_51
  · skip
    have c_13' : r_9.toInt = 4 := jb_ne_n (rfl) ((by decide)) c_13
    first | (have hr_9q := hr_9.resolve_left (by omega); clear hr_9) | (have hr_9q := hr_9.resolve_right (by omega); clear hr_9) | try clear hr_9
    refine lv_aload_n hx hb dX11_placeTold_37 rfl (lv_at hl 2 rfl) ?_
    refine j7_read hx hb hown hK (C := RX11) (T := TX11) (N := 19) rfl hly_13_2 hlk_28 (hh_8.at 1 rfl) dX11_placeTold_38 ?_
    refine lv_iload hx hb dX11_placeTold_41 (lv_at hl 0 rfl) ?_
    refine va_calli (A0 := jA base) (H0 := s.heap) (va_runV (As := [.int r_7]) (rest := []) ⟨hx, hb, hml, hown, hts⟩ (uX4_kindOf l dC dI ca base B hB hAp hB6 hB140 G0 H_8 json_3 r_7 values_12) (cwV 1 hts (jgV (jWr_27 _ (List.mem_of_getElem? (i := 5) rfl)) (jWr_23 _ (List.mem_of_getElem? (i := 15) rfl)) (jWr_23 _ (List.mem_of_getElem? (i := 16) rfl)) (jWr_1 _ (List.mem_of_getElem? (i := 22) rfl)) (jWr_23 _ (List.mem_of_getElem? (i := 17) rfl))) rfl rfl rfl (by decide +kernel) ⟨by rw [← hR]; exact Nat.le_of_ble_eq_true rfl, by rw [← hR]; exact Nat.le_of_ble_eq_true rfl⟩) ⟨fun a U g mk q => by obtain ⟨q0, q1, q2, qK, q10, q11, q12⟩ := q; exact ⟨q0, q1, q2, jG.calling g mk a qK, q10, q11, q12⟩, hh_8.recv (C := RX4) (T := TX4) (N := 12) hB6 rfl (by decide) hg_json_3 hK, fun U hU hW => ⟨rfl, hU, hh_8.2.1, hG.step hW hU hh_8.1, hg_json_3, (hh_8.2.2.1.sub (L1 := [(json_3, 6, 7, .int values_12)]) [0] rfl), by first | omega | (refine ⟨?_, ?_⟩ <;> (first | omega | rfl | assumption | decide | exact Or.inl rfl | exact Or.inr rfl | (simp only; omega)))⟩⟩ rfl rfl hl.1 rfl (lv_room (Nat.le_of_ble_eq_true rfl)) dX11_placeTold_43 ⟨Nat.zero_le _, Nat.zero_le _⟩) hh_8.1 (fun q _ h => h) (fun q h => h) (fun r_15 u_14 t_14 H_14 locs_14 ht_14 hvm_14 hr_15 hb_14 hz_14 hk_14 hS_14 => ?_)
    rw [ht_14] at hb_14
    obtain ⟨hb_141, hb_142, hb_143, hb_144, hb_145⟩ := hb_14
    have hh_14 : jSt (dC, dI) B base G0 G0 EX11_placeTold s.heap 0 0 [(json_3, 6, 7, .int values_12), (r0, 13, 2, .ref json_3)] [] [] H_14 locs_14 := ((hh_8.call hb_141 hb_142 hb_143 hb_144 hS_14 rfl (L1 := [(json_3, 6, 7, .int values_12), (r0, 13, 2, .ref json_3)]) [0, 1] rfl rfl (M1 := []) [] rfl rfl (I1 := []) [] rfl rfl).more hb_145)
    clear hh_8 ht_14 hvm_14 hz_14 hk_14 hS_14 hb_141 hb_142 hb_143 hb_144 hb_145
    refine lv_iconst (v := 4) hx hb dX11_placeTold_46 (by decide) ?_
    refine lv_icmp_eq (tgt := 52) hx hb dX11_placeTold_47 (by decide) (fun c_16 => ?_) (fun c_16 => ?_)
    · skip
      have c_16' : r_15.toInt = 4 := jb_eq (rfl) ((by decide)) c_16
      first | (have hr_15q := hr_15.resolve_left (by omega); clear hr_15) | (have hr_15q := hr_15.resolve_right (by omega); clear hr_15) | try clear hr_15
      refine lv_aload_n hx hb dX11_placeTold_52 rfl (lv_at hl 4 rfl) ?_
      refine lv_aload_n hx hb dX11_placeTold_53 rfl (lv_at hl 2 rfl) ?_
      refine j7_read hx hb hown hK (C := RX11) (T := TX11) (N := 19) rfl hly_13_2 hlk_28 (hh_14.at 1 rfl) dX11_placeTold_54 ?_
      refine lv_iload_n hx hb dX11_placeTold_57 rfl (lv_at hl 1 rfl) ?_
      refine va_calli (A0 := jA base) (H0 := s.heap) (va_runV (As := [.int r_5]) (rest := [.ref r2]) ⟨hx, hb, hml, hown, hts⟩ (uX4_valueOf l dC dI ca base B hB hAp hB6 hB141 G0 H_14 json_3 r_5) (cwV 1 hts (jgV (jWr_29 _ (List.mem_of_getElem? (i := 0) rfl)) (jWr_24 _ (List.mem_of_getElem? (i := 12) rfl)) (jWr_24 _ (List.mem_of_getElem? (i := 13) rfl)) (jWr_1 _ (List.mem_of_getElem? (i := 22) rfl)) (jWr_24 _ (List.mem_of_getElem? (i := 14) rfl))) rfl rfl rfl (by decide +kernel) ⟨by rw [← hR]; exact Nat.le_of_ble_eq_true rfl, by rw [← hR]; exact Nat.le_of_ble_eq_true rfl⟩) ⟨fun a U g mk q => by obtain ⟨q0, q1, q2, qK, q10, q11, q12⟩ := q; exact ⟨q0, q1, q2, jG.calling g mk a qK, q10, q11, q12⟩, hh_14.recv (C := RX4) (T := TX4) (N := 12) hB6 rfl (by decide) hg_json_3 hK, fun U hU hW => ⟨rfl, hU, hh_14.2.1, hG.step hW hU hh_14.1, hg_json_3, jP.nil, trivial⟩⟩ rfl rfl hl.1 rfl (lv_room (Nat.le_of_ble_eq_true rfl)) dX11_placeTold_58 ⟨Nat.zero_le _, Nat.zero_le _⟩) hh_14.1 (fun q _ h => h) (fun q h => h) (fun r_18 u_17 t_17 H_17 locs_17 ht_17 hvm_17 hr_18 hb_17 hz_17 hk_17 hS_17 => ?_)
      rw [ht_17] at hb_17
      obtain ⟨hb_171, hb_172, hb_173, hb_174, hb_175⟩ := hb_17
      have hh_17 : jSt (dC, dI) B base G0 G0 EX11_placeTold s.heap 0 0 [(json_3, 6, 7, .int values_12), (r0, 13, 2, .ref json_3)] [] [] H_17 locs_17 := ((hh_14.call hb_171 hb_172 hb_173 hb_174 hS_17 rfl (L1 := [(json_3, 6, 7, .int values_12), (r0, 13, 2, .ref json_3)]) [0, 1] rfl rfl (M1 := []) [] rfl rfl (I1 := []) [] rfl rfl).more hb_175)
      clear hh_14 ht_17 hvm_17 hz_17 hk_17 hS_17 hb_171 hb_172 hb_173 hb_174 hb_175
      refine lv_aload_n hx hb dX11_placeTold_61 rfl (lv_at hl 2 rfl) ?_
      refine j7_read hx hb hown hK (C := RX11) (T := TX11) (N := 19) rfl hly_13_2 hlk_28 (hh_17.at 1 rfl) dX11_placeTold_62 ?_
      refine lv_iload hx hb dX11_placeTold_65 (lv_at hl 0 rfl) ?_
      refine va_calli (A0 := jA base) (H0 := s.heap) (va_runV (As := [.int r_7]) (rest := [.int r_18, .ref r2]) ⟨hx, hb, hml, hown, hts⟩ (uX4_valueOf l dC dI ca base B hB hAp hB6 hB141 G0 H_17 json_3 r_7) (cwV 1 hts (jgV (jWr_29 _ (List.mem_of_getElem? (i := 0) rfl)) (jWr_24 _ (List.mem_of_getElem? (i := 12) rfl)) (jWr_24 _ (List.mem_of_getElem? (i := 13) rfl)) (jWr_1 _ (List.mem_of_getElem? (i := 22) rfl)) (jWr_24 _ (List.mem_of_getElem? (i := 14) rfl))) rfl rfl rfl (by decide +kernel) ⟨by rw [← hR]; exact Nat.le_of_ble_eq_true rfl, by rw [← hR]; exact Nat.le_of_ble_eq_true rfl⟩) ⟨fun a U g mk q => by obtain ⟨q0, q1, q2, qK, q10, q11, q12⟩ := q; exact ⟨q0, q1, q2, jG.calling g mk a qK, q10, q11, q12⟩, hh_17.recv (C := RX4) (T := TX4) (N := 12) hB6 rfl (by decide) hg_json_3 hK, fun U hU hW => ⟨rfl, hU, hh_17.2.1, hG.step hW hU hh_17.1, hg_json_3, jP.nil, trivial⟩⟩ rfl rfl hl.1 rfl (lv_room (Nat.le_of_ble_eq_true rfl)) dX11_placeTold_67 ⟨Nat.zero_le _, Nat.zero_le _⟩) hh_17.1 (fun q _ h => h) (fun q h => h) (fun r_20 u_19 t_19 H_19 locs_19 ht_19 hvm_19 hr_20 hb_19 hz_19 hk_19 hS_19 => ?_)
      rw [ht_19] at hb_19
      obtain ⟨hb_191, hb_192, hb_193, hb_194, hb_195⟩ := hb_19
      have hh_19 : jSt (dC, dI) B base G0 G0 EX11_placeTold s.heap 0 0 [(json_3, 6, 7, .int values_12), (r0, 13, 2, .ref json_3)] [] [] H_19 locs_19 := ((hh_17.call hb_191 hb_192 hb_193 hb_194 hS_19 rfl (L1 := [(json_3, 6, 7, .int values_12), (r0, 13, 2, .ref json_3)]) [0, 1] rfl rfl (M1 := []) [] rfl rfl (I1 := []) [] rfl rfl).more hb_195)
      clear hh_17 ht_19 hvm_19 hz_19 hk_19 hS_19 hb_191 hb_192 hb_193 hb_194 hb_195
      refine va_calli (A0 := jA base) (H0 := s.heap) (va_runV (As := [.int r_18, .int r_20]) (rest := []) ⟨hx, hb, hml, hown, hts⟩ (uX1_placeOf l dC dI ca base B hB hAp hB3 hB101 G0 H_19 r2 r_18 r_20 n2) (cwV 2 hts (jgV (jWr_29 _ (List.mem_of_getElem? (i := 1) rfl)) (jWr_29 _ (List.mem_of_getElem? (i := 2) rfl)) (jWr_29 _ (List.mem_of_getElem? (i := 3) rfl)) (jWr_2 _ (List.mem_of_getElem? (i := 21) rfl)) (jWr_29 _ (List.mem_of_getElem? (i := 4) rfl))) rfl rfl rfl (by decide +kernel) ⟨by rw [← hR]; exact Nat.le_of_ble_eq_true rfl, by rw [← hR]; exact Nat.le_of_ble_eq_true rfl⟩) ⟨fun a U g mk q => by obtain ⟨q0, q1, q2, qK, q10, q11, q12⟩ := q; exact ⟨q0, q1, q2, jG.calling g mk a qK, q10, q11, q12⟩, hh_19.recv (C := RX1) (T := TX1) (N := 17) hB3 rfl (by decide) hg_r2 hK, fun U hU hW => ⟨rfl, hU, hh_19.2.1, hG.step hW hU hh_19.1, hg_r2, jP.nil, trivial⟩⟩ rfl rfl hl.1 rfl (lv_room (Nat.le_of_ble_eq_true rfl)) dX11_placeTold_70 ⟨Nat.zero_le _, Nat.zero_le _⟩) hh_19.1 (fun q _ h => h) (fun q h => h) (fun r_22 u_21 t_21 H_21 locs_21 ht_21 hvm_21 hr_22 hb_21 hz_21 hk_21 hS_21 => ?_)
      rw [ht_21] at hb_21
      obtain ⟨hb_211, hb_212, hb_213, hb_214, hb_215⟩ := hb_21
      have hh_21 : jSt (dC, dI) B base G0 G0 EX11_placeTold s.heap 0 0 [(json_3, 6, 7, .int values_12), (r0, 13, 2, .ref json_3)] [] [] H_21 locs_21 := ((hh_19.call hb_211 hb_212 hb_213 hb_214 hS_21 rfl (L1 := [(json_3, 6, 7, .int values_12), (r0, 13, 2, .ref json_3)]) [0, 1] rfl rfl (M1 := []) [] rfl rfl (I1 := []) [] rfl rfl).more hb_215)
      clear hh_19 ht_21 hvm_21 hz_21 hk_21 hS_21 hb_211 hb_212 hb_213 hb_214 hb_215
      obtain ⟨hr_22_0, hr_22_1⟩ := hr_22
      rw [hQ]
      exact W.iret (v := r_22) hx hb hr (fun t ht hW => ⟨⟨r_22, (), rfl, trivial, hh_21.rt (M1 := []) [] rfl ht⟩, by rw [ht]; try exact hh_21.1.1, fun q h9 hq => by rw [ht]; try exact hh_21.1.2.1 q h9 hq⟩) hh_21.1.2.2 dX11_placeTold_73
    · skip
      have c_16' : r_15.toInt ≠ 4 := jb_eq_n (rfl) ((by decide)) c_16
      try clear hr_15
      refine lv_iconst (v := (-1)) hx hb dX11_placeTold_50 (by decide) ?_
      rw [hQ]
      exact W.iret (v := (-1)) hx hb hr (fun t ht hW => ⟨⟨(-1), (), rfl, trivial, hh_14.rt (M1 := []) [] rfl ht⟩, by rw [ht]; try exact hh_14.1.1, fun q h9 hq => by rw [ht]; try exact hh_14.1.2.1 q h9 hq⟩) hh_14.1.2.2 dX11_placeTold_51
set_option maxHeartbeats 4000000 in
set_option maxRecDepth 20000 in
theorem uX11_addressed (l : Launch) (dC : Nat → ClassId) (dI : Nat → Nat → Nat) (ca : Nat → ClassId) (base : Nat) (B : jF) (hB : jBok B) (hAp : jAp (dC, dI)) (hB1 : ∀ n G a H, B 1 n G a H ↔ jOb (dC, dI) 1 3 (F1 n G) a H) (hB3 : ∀ n G a H, B 3 n G a H ↔ jOb (dC, dI) 3 17 (F3 n G) a H) (hB6 : ∀ n G a H, B 6 n G a H ↔ jOb (dC, dI) 6 12 (F6 n G) a H) (hB13 : ∀ n G a H, B 13 n G a H ↔ jOb (dC, dI) 13 19 (F13 n G) a H) (hB101 : ∀ n G a H, B 101 n G a H ↔ jAr (dC, dI) (ca 1) (fun j z => True) n a H) (hB140 : ∀ n G a H, B 140 n G a H ↔ jAr (dC, dI) (ca 1) (fun j z => True) n a H) (hB141 : ∀ n G a H, B 141 n G a H ↔ jAr (dC, dI) (ca 1) (fun j z => True) n a H) (hB142 : ∀ n G a H, B 142 n G a H ↔ jAr (dC, dI) (ca 1) (fun j z => True) n a H) (hB143 : ∀ n G a H, B 143 n G a H ↔ jAr (dC, dI) (ca 1) (fun j z => True) n a H) (hB144 : ∀ n G a H, B 144 n G a H ↔ jAr (dC, dI) (ca 1) (fun j z => 0 ≤ z.toInt ∧ z.toInt ≤ 3000) n a H) (hB145 : ∀ n G a H, B 145 n G a H ↔ jAr (dC, dI) (ca 1) (fun j z => True) n a H) (hB146 : ∀ n G a H, B 146 n G a H ↔ jAr (dC, dI) (ca 1) (fun j z => True) n a H) (hB221 : ∀ n G a H, B 221 n G a H ↔ jAq (dC, dI) (ca 9) (jQn 3 0) n G a H) (G0 : jT) (H0 : Heap) (r0 : Nat) : Met l yX11_addressed (jw yX11_addressed cX11_addressed 3 (some (.object "ProofServer$Document"))) ({ frames := 6, cells := 0, slots := 0, locals := 190 }) (va_Pc [.ref r0] (fun U => U.heap = H0 ∧ jX B base G0 [] H0 ∧ jG dC dI ca base U ∧ jK7 dC dI ca base U ∧ G0 r0 = some (13, 0) ∧ jP (dC, dI) G0 H0 [] ∧ jIs (dC, dI) G0 H0 [(jFl, jLs dC dI ca G0 3 none)] ∧ True)) (jQx (S := Unit) (fun v u => jRn G0 3 0 v) (fun u t => (jRt (dC, dI) B base G0 EX11_addressed H0 [] t.heap) ∧ jIs (dC, dI) G0 t.heap [(jFl, jLs dC dI ca G0 3 none)]) (jA base)) 0 0 (jA base) := by
  refine Met.ofW (cc := cX11_addressed) (maxL := 3) (ret := (some (.object "ProofServer$Document"))) (by decide) rfl ?_
  intro p e s m args below meth c s₁ Bd hml hv
  obtain ⟨rfl, hH0, hX, hG, hK7, hg_r0, hP0, hI0, hp0⟩ := hv
  have hK := hG.1
  have hx := Bd.exec
  have hb := Bd.bytes
  have hr := Bd.returns
  have hts := atoms_spec (ws := (jw yX11_addressed cX11_addressed 3 (some (.object "ProofServer$Document")))) Bd.pre
  have htw : ∀ w ∈ jWl, w.before _ s = true := fun w h => hts w (List.mem_cons_of_mem _ h)
  have hown : s.vm.findClass RX11 = some m.cls := findClass_of_methodNamed Bd.named
  have hlocks := Bd.notSynchronized
  obtain ⟨Q, hQ⟩ : ∃ Q, Q = MQ below (jQx (S := Unit) (fun v u => jRn G0 3 0 v) (fun u t => (jRt (dC, dI) B base G0 EX11_addressed H0 [] t.heap) ∧ jIs (dC, dI) G0 t.heap [(jFl, jLs dC dI ca G0 3 none)]) (jA base)) ([.ref r0] : List Value).toArray s 0 0 (jA base) := ⟨_, rfl⟩
  rw [← hQ]
  have hl := lv_entry ([.ref r0]) (n := 3) (Nat.le_of_ble_eq_true rfl)
  rw [lg_entry_eq]
  generalize (lg_sl ([.ref r0]) ++ List.replicate (3 - (lg_sl ([.ref r0])).length) Slot.unset).toArray = ls at hl ⊢
  have hl : lv_has ls 3 [(0, .ref r0)] := hl
  generalize hR : (headSpec (jw yX11_addressed cX11_addressed 3 (some (.object "ProofServer$Document"))) ({ frames := 6, cells := 0, slots := 0, locals := 190 })).room = R
  subst hH0
  have hh : jSt (dC, dI) B base G0 G0 EX11_addressed s.heap 0 0 [] [] [(jFl, jLs dC dI ca G0 3 none)] s.heap [] := jSt.start hX hP0 jMc.nil hI0
  clear hX hP0
  have hk0 : (0 : Int32).toInt = 0 := by decide
  have hk1 : (1 : Int32).toInt = 1 := by decide
  have hly_3_0 := htw (u_lay RX1 TX1 0) (jWc_wsX10 _ (u_in_lay (by decide)))
  have hly_13_2 := htw (u_lay RX11 TX11 2) (jWc_wsX110 _ (u_in_lay (by decide)))
  have hly_13_7 := htw (u_lay RX11 TX11 7) (jWc_wsX110 _ (u_in_lay (by decide)))
  have hlk_28 := (htw (.fieldLink RX11 28 "ProofServer" "json" "LProofServer$Json;") (jWr_1 _ (List.mem_of_getElem? (i := 23) rfl)))
  obtain ⟨str271, rstr271, hstr2710⟩ := hG.str (o := RX11) (k := 271) (tx := "params") (List.mem_of_getElem? (i := 852) (by decide +kernel))
  have hstr271 : jStr base str271 6 s s.heap := hstr2710
  obtain ⟨str344, rstr344, hstr3440⟩ := hG.str (o := RX11) (k := 344) (tx := "textDocument") (List.mem_of_getElem? (i := 879) (by decide +kernel))
  have hstr344 : jStr base str344 12 s s.heap := hstr3440
  obtain ⟨str346, rstr346, hstr3460⟩ := hG.str (o := RX11) (k := 346) (tx := "uri") (List.mem_of_getElem? (i := 880) (by decide +kernel))
  have hstr346 : jStr base str346 3 s s.heap := hstr3460
  have hlk_61 := (htw (.fieldLink RX11 61 "ProofServer" "open" "Ljava/util/List;") (jWr_2 _ (List.mem_of_getElem? (i := 14) rfl)))
  have hlk_348 := (htw (.fieldLink RX11 348 "ProofServer$Document" "uri" "[I") (jWr_27 _ (List.mem_of_getElem? (i := 21) rfl)))
  refine lv_aload_n hx hb dX11_addressed_0 rfl (lv_at hl 0 rfl) ?_
  obtain ⟨v_1, hv_1, hh_2⟩ := hh.pin (C := RX11) (T := TX11) (N := 19) hB13 rfl (by decide) hg_r0 (i := 2) (by decide) rfl
  clear hh
  obtain ⟨json_3, rfl, hg_json_3⟩ := hv_1
  refine j7_read hx hb hown hK (C := RX11) (T := TX11) (N := 19) rfl hly_13_2 hlk_28 (hh_2.at 0 rfl) dX11_addressed_1 ?_
  refine lv_aload_n hx hb dX11_addressed_4 rfl (lv_at hl 0 rfl) ?_
  refine j7_read hx hb hown hK (C := RX11) (T := TX11) (N := 19) rfl hly_13_2 hlk_28 (hh_2.at 0 rfl) dX11_addressed_5 ?_
  refine lv_aload_n hx hb dX11_addressed_8 rfl (lv_at hl 0 rfl) ?_
  refine j7_read hx hb hown hK (C := RX11) (T := TX11) (N := 19) rfl hly_13_2 hlk_28 (hh_2.at 0 rfl) dX11_addressed_9 ?_
  refine lv_iconst (v := 0) hx hb dX11_addressed_12 (by decide) ?_
  refine j_ldcSw hx hb hown rstr271 dX11_addressed_13 ?_
  refine va_calli (A0 := jA base) (H0 := s.heap) (va_runV (As := [.int 0, .ref str271]) (rest := [.ref json_3, .ref json_3]) ⟨hx, hb, hml, hown, hts⟩ (uX4_member l dC dI ca base B hB hAp hB6 hB140 hB141 hB142 hB143 hB144 hB145 hB146 G0 s.heap json_3 0 str271 6) (cwV 2 hts (jgV (jWr_23 _ (List.mem_of_getElem? (i := 10) rfl)) (jWr_23 _ (List.mem_of_getElem? (i := 11) rfl)) (jWr_23 _ (List.mem_of_getElem? (i := 12) rfl)) (jWr_1 _ (List.mem_of_getElem? (i := 22) rfl)) (jWr_23 _ (List.mem_of_getElem? (i := 13) rfl))) rfl rfl rfl (by decide +kernel) ⟨by rw [← hR]; exact Nat.le_of_ble_eq_true rfl, by rw [← hR]; exact Nat.le_of_ble_eq_true rfl⟩) ⟨fun a U g mk q => by obtain ⟨q0, q1, q2, qK, q10, q11, q12, q13⟩ := q; exact ⟨q0, q1, q2, jG.calling g mk a qK, (q10.moved (Vm.Alike.refl U.vm)), q11, q12, q13⟩, hh_2.recv (C := RX4) (T := TX4) (N := 12) hB6 rfl (by decide) hg_json_3 hK, fun U hU hW => ⟨rfl, hU, hh_2.2.1, hG.step hW hU hh_2.1, (hstr271.moved hW.alike).kept hh_2.1.2.1, hg_json_3, jP.nil, by first | omega | rfl | assumption | decide | exact Or.inl rfl | exact Or.inr rfl | (simp only; omega)⟩⟩ rfl rfl hl.1 rfl (lv_room (Nat.le_of_ble_eq_true rfl)) dX11_addressed_16 ⟨Nat.zero_le _, Nat.zero_le _⟩) hh_2.1 (fun q _ h => h) (fun q h => h) (fun r_5 u_4 t_4 H_4 locs_4 ht_4 hvm_4 hr_5 hb_4 hz_4 hk_4 hS_4 => ?_)
  rw [ht_4] at hb_4
  obtain ⟨hb_41, hb_42, hb_43, hb_44, hb_45⟩ := hb_4
  have hh_4 : jSt (dC, dI) B base G0 G0 EX11_addressed s.heap 0 0 [(r0, 13, 2, .ref json_3)] [] [(jFl, jLs dC dI ca G0 3 none)] H_4 locs_4 := ((hh_2.call hb_41 hb_42 hb_43 hb_44 hS_4 rfl (L1 := [(r0, 13, 2, .ref json_3)]) [0] rfl rfl (M1 := []) [] rfl rfl (I1 := [(jFl, jLs dC dI ca G0 3 none)]) [0] rfl rfl).more hb_45)
  clear hh_2 ht_4 hvm_4 hz_4 hk_4 hS_4 hb_41 hb_42 hb_43 hb_44 hb_45
  obtain ⟨hr_5_0, hr_5_1⟩ := hr_5
  refine j_ldcSw hx hb hown rstr344 dX11_addressed_19 ?_
  refine va_calli (A0 := jA base) (H0 := s.heap) (va_runV (As := [.int r_5, .ref str344]) (rest := [.ref json_3]) ⟨hx, hb, hml, hown, hts⟩ (uX4_member l dC dI ca base B hB hAp hB6 hB140 hB141 hB142 hB143 hB144 hB145 hB146 G0 H_4 json_3 r_5 str344 12) (cwV 2 hts (jgV (jWr_23 _ (List.mem_of_getElem? (i := 10) rfl)) (jWr_23 _ (List.mem_of_getElem? (i := 11) rfl)) (jWr_23 _ (List.mem_of_getElem? (i := 12) rfl)) (jWr_1 _ (List.mem_of_getElem? (i := 22) rfl)) (jWr_23 _ (List.mem_of_getElem? (i := 13) rfl))) rfl rfl rfl (by decide +kernel) ⟨by rw [← hR]; exact Nat.le_of_ble_eq_true rfl, by rw [← hR]; exact Nat.le_of_ble_eq_true rfl⟩) ⟨fun a U g mk q => by obtain ⟨q0, q1, q2, qK, q10, q11, q12, q13⟩ := q; exact ⟨q0, q1, q2, jG.calling g mk a qK, (q10.moved (Vm.Alike.refl U.vm)), q11, q12, q13⟩, hh_4.recv (C := RX4) (T := TX4) (N := 12) hB6 rfl (by decide) hg_json_3 hK, fun U hU hW => ⟨rfl, hU, hh_4.2.1, hG.step hW hU hh_4.1, (hstr344.moved hW.alike).kept hh_4.1.2.1, hg_json_3, jP.nil, by first | omega | rfl | assumption | decide | exact Or.inl rfl | exact Or.inr rfl | (simp only; omega)⟩⟩ rfl rfl hl.1 rfl (lv_room (Nat.le_of_ble_eq_true rfl)) dX11_addressed_22 ⟨Nat.zero_le _, Nat.zero_le _⟩) hh_4.1 (fun q _ h => h) (fun q h => h) (fun r_7 u_6 t_6 H_6 locs_6 ht_6 hvm_6 hr_7 hb_6 hz_6 hk_6 hS_6 => ?_)
  rw [ht_6] at hb_6
  obtain ⟨hb_61, hb_62, hb_63, hb_64, hb_65⟩ := hb_6
  have hh_6 : jSt (dC, dI) B base G0 G0 EX11_addressed s.heap 0 0 [(r0, 13, 2, .ref json_3)] [] [(jFl, jLs dC dI ca G0 3 none)] H_6 locs_6 := ((hh_4.call hb_61 hb_62 hb_63 hb_64 hS_6 rfl (L1 := [(r0, 13, 2, .ref json_3)]) [0] rfl rfl (M1 := []) [] rfl rfl (I1 := [(jFl, jLs dC dI ca G0 3 none)]) [0] rfl rfl).more hb_65)
  clear hh_4 ht_6 hvm_6 hz_6 hk_6 hS_6 hb_61 hb_62 hb_63 hb_64 hb_65
  obtain ⟨hr_7_0, hr_7_1⟩ := hr_7
  refine j_ldcSw hx hb hown rstr346 dX11_addressed_25 ?_
  refine va_calli (A0 := jA base) (H0 := s.heap) (va_runV (As := [.int r_7, .ref str346]) (rest := []) ⟨hx, hb, hml, hown, hts⟩ (uX4_member l dC dI ca base B hB hAp hB6 hB140 hB141 hB142 hB143 hB144 hB145 hB146 G0 H_6 json_3 r_7 str346 3) (cwV 2 hts (jgV (jWr_23 _ (List.mem_of_getElem? (i := 10) rfl)) (jWr_23 _ (List.mem_of_getElem? (i := 11) rfl)) (jWr_23 _ (List.mem_of_getElem? (i := 12) rfl)) (jWr_1 _ (List.mem_of_getElem? (i := 22) rfl)) (jWr_23 _ (List.mem_of_getElem? (i := 13) rfl))) rfl rfl rfl (by decide +kernel) ⟨by rw [← hR]; exact Nat.le_of_ble_eq_true rfl, by rw [← hR]; exact Nat.le_of_ble_eq_true rfl⟩) ⟨fun a U g mk q => by obtain ⟨q0, q1, q2, qK, q10, q11, q12, q13⟩ := q; exact ⟨q0, q1, q2, jG.calling g mk a qK, (q10.moved (Vm.Alike.refl U.vm)), q11, q12, q13⟩, hh_6.recv (C := RX4) (T := TX4) (N := 12) hB6 rfl (by decide) hg_json_3 hK, fun U hU hW => ⟨rfl, hU, hh_6.2.1, hG.step hW hU hh_6.1, (hstr346.moved hW.alike).kept hh_6.1.2.1, hg_json_3, jP.nil, by first | omega | rfl | assumption | decide | exact Or.inl rfl | exact Or.inr rfl | (simp only; omega)⟩⟩ rfl rfl hl.1 rfl (lv_room (Nat.le_of_ble_eq_true rfl)) dX11_addressed_28 ⟨Nat.zero_le _, Nat.zero_le _⟩) hh_6.1 (fun q _ h => h) (fun q h => h) (fun r_9 u_8 t_8 H_8 locs_8 ht_8 hvm_8 hr_9 hb_8 hz_8 hk_8 hS_8 => ?_)
  rw [ht_8] at hb_8
  obtain ⟨hb_81, hb_82, hb_83, hb_84, hb_85⟩ := hb_8
  have hh_8 : jSt (dC, dI) B base G0 G0 EX11_addressed s.heap 0 0 [(r0, 13, 2, .ref json_3)] [] [(jFl, jLs dC dI ca G0 3 none)] H_8 locs_8 := ((hh_6.call hb_81 hb_82 hb_83 hb_84 hS_8 rfl (L1 := [(r0, 13, 2, .ref json_3)]) [0] rfl rfl (M1 := []) [] rfl rfl (I1 := [(jFl, jLs dC dI ca G0 3 none)]) [0] rfl rfl).more hb_85)
  clear hh_6 ht_8 hvm_8 hz_8 hk_8 hS_8 hb_81 hb_82 hb_83 hb_84 hb_85
  obtain ⟨hr_9_0, hr_9_1⟩ := hr_9
  refine lv_istore_n (lv' := [(1, .int r_9), (0, .ref r0)]) hx hb dX11_addressed_31 rfl hl (by decide) rfl (fun ls hl => ?_)
  refine lv_iconst (v := 0) hx hb dX11_addressed_32 (by decide) ?_
  refine lv_istore_n (lv' := [(2, .int 0), (1, .int r_9), (0, .ref r0)]) hx hb dX11_addressed_33 rfl hl (by decide) rfl (fun ls hl => ?_)
  have L34 : ∀ (N : Nat) (v2_10 : Int32) (H_10 : Heap) (locs_10 : List Loc), jSt (dC, dI) B base G0 G0 EX11_addressed s.heap 0 0 [(r0, 13, 2, .ref json_3)] [] [(jFl, jLs dC dI ca G0 3 none)] H_10 locs_10 → (0 ≤ v2_10.toInt ∧ v2_10.toInt ≤ 40) → (41 - v2_10.toInt : Int) < N → ∀ ls : Array Slot, lv_has ls 3 [(0, .ref r0), (1, .int r_9), (2, .int v2_10)] → W p l e R s m ([.ref r0] : List Value).toArray below meth c H_10 locs_10 0 0 Q (F0 m 34 ls []) := by
    intro N
    induction N with
    | zero => intro v2_10 H_10 locs_10 hh_10  hi_10 hm; exact absurd hm (by omega)
    | succ N L34 =>
      intro v2_10 H_10 locs_10 hh_10  hi_10 hm_10 ls hl
      obtain ⟨hi_10_0, hi_10_1⟩ := hi_10
      refine lv_iload_n hx hb dX11_addressed_34 rfl (lv_at hl 2 rfl) ?_
      refine lv_aload_n hx hb dX11_addressed_35 rfl (lv_at hl 0 rfl) ?_
      obtain ⟨v_11, hv_11, hh_12⟩ := hh_10.pin (C := RX11) (T := TX11) (N := 19) hB13 rfl (by decide) hg_r0 (i := 7) (by decide) rfl
      clear hh_10
      obtain ⟨open_13, rfl, hg_open_13⟩ := hv_11
      refine j7_read hx hb hown hK (C := RX11) (T := TX11) (N := 19) rfl hly_13_7 hlk_61 (hh_12.at 0 rfl) dX11_addressed_36 ?_
      obtain ⟨v_16, hv_16, hh_17⟩ := hh_12.pin (C := RJx4a65c) (T := TJx4a65c) (N := 3) hB1 rfl (by decide) hg_open_13 (i := 2) (by decide) rfl
      obtain ⟨size_18, rfl, hlosize_18, hhisize_18⟩ := hv_16
      refine va_callFi (A0 := jA base) (H0 := s.heap) (va_runF (hK.1 1 _ rfl).2 (As := []) (rest := [.int v2_10]) ⟨hx, hb, hml, hown, hts⟩ (uJx4a65c_size_8abf5 l dC dI ca base B hB hAp hB1 G0 H_10 open_13 1 size_18) (va_cwF 0 hts (jgF (jWr_27 _ (List.mem_of_getElem? (i := 22) rfl)) (jWr_27 _ (List.mem_of_getElem? (i := 23) rfl)) (jWr_28 _ (List.mem_of_getElem? (i := 0) rfl)) (jWr_2 _ (List.mem_of_getElem? (i := 13) rfl)) (jWr_28 _ (List.mem_of_getElem? (i := 1) rfl))) rfl rfl rfl hK7.2.2.2.2.2.1.1 ⟨by decide, by decide, by decide +kernel⟩ ⟨by rw [← hR]; exact Nat.le_of_ble_eq_true rfl, by rw [← hR]; exact Nat.le_of_ble_eq_true rfl⟩) ⟨fun a U g mk q => by obtain ⟨q0, q1, q2, qK, q10, q11, q12⟩ := q; exact ⟨q0, q1, q2, jG.calling g mk a qK, q10, q11, q12⟩, hh_17.recv (C := RJx4a65c) (T := TJx4a65c) (N := 3) hB1 rfl (by decide) hg_open_13 hK, fun U hU hW => ⟨rfl, hU, hh_17.2.1, hG.step hW hU hh_17.1, hg_open_13, (hh_17.2.2.1.sub (L1 := [(open_13, 1, 2, .int size_18)]) [0] rfl), trivial⟩⟩ rfl rfl hl.1 rfl (lv_room (Nat.le_of_ble_eq_true rfl)) dX11_addressed_39 ⟨Nat.zero_le _, Nat.zero_le _⟩) hh_17.1 (fun q _ h => h) (fun q h => h) (fun r_15 u_14 t_14 H_14 locs_14 ht_14 hvm_14 hr_15 hb_14 hz_14 hk_14 hS_14 => ?_)
      rw [ht_14] at hb_14
      obtain ⟨hb_141, hb_142, hb_143, hb_144, hb_145⟩ := hb_14
      have hh_14 : jSt (dC, dI) B base G0 G0 EX11_addressed s.heap 0 0 [(open_13, 1, 2, .int size_18), (r0, 13, 7, .ref open_13), (r0, 13, 2, .ref json_3)] [] [(jFl, jLs dC dI ca G0 3 none)] H_14 locs_14 := ((hh_17.call hb_141 hb_142 hb_143 hb_144 hS_14 rfl (L1 := [(open_13, 1, 2, .int size_18), (r0, 13, 7, .ref open_13), (r0, 13, 2, .ref json_3)]) [0, 1, 2] rfl rfl (M1 := []) [] rfl rfl (I1 := [(jFl, jLs dC dI ca G0 3 none)]) [0] rfl rfl).more hb_145)
      clear hh_17 ht_14 hvm_14 hz_14 hk_14 hS_14 hb_141 hb_142 hb_143 hb_144 hb_145
      refine lv_icmp_ge (tgt := 94) hx hb dX11_addressed_44 (by decide) (fun c_19 => ?_) (fun c_19 => ?_)
      · skip
        have c_19' : v2_10.toInt ≥ r_15.toInt := jb_ge (rfl) (rfl) c_19
        refine lv_null hx hb dX11_addressed_94 ?_
        rw [hQ]
        exact W.aret (v := .null) hx hb hr (Or.inl ⟨_, rfl⟩) (Or.inl rfl) (fun t ht hW => ⟨⟨.null, (), rfl, Or.inl rfl, ⟨hh_14.rt (M1 := []) [] rfl ht, by rw [ht]; exact hh_14.2.2.2.2.2.2.2.2.sub (L1 := [(jFl, jLs dC dI ca G0 3 none)]) [0] rfl⟩⟩, by rw [ht]; try exact hh_14.1.1, fun q h9 hq => by rw [ht]; try exact hh_14.1.2.1 q h9 hq⟩) hh_14.1.2.2 dX11_addressed_95
      · skip
        have c_19' : v2_10.toInt < r_15.toInt := jb_ge_n (rfl) (rfl) c_19
        refine lv_aload_n hx hb dX11_addressed_47 rfl (lv_at hl 0 rfl) ?_
        refine j7_read hx hb hown hK (C := RX11) (T := TX11) (N := 19) rfl hly_13_2 hlk_28 (hh_14.at 2 rfl) dX11_addressed_48 ?_
        refine lv_iload_n hx hb dX11_addressed_51 rfl (lv_at hl 1 rfl) ?_
        refine lv_aload_n hx hb dX11_addressed_52 rfl (lv_at hl 0 rfl) ?_
        refine j7_read hx hb hown hK (C := RX11) (T := TX11) (N := 19) rfl hly_13_7 hlk_61 (hh_14.at 1 rfl) dX11_addressed_53 ?_
        refine lv_iload_n hx hb dX11_addressed_56 rfl (lv_at hl 2 rfl) ?_
        refine j_callFx (A0 := jA base) (H0 := s.heap) (va_runF (hK.1 1 _ rfl).2 (As := [.int v2_10]) (rest := [.int r_9, .ref json_3]) ⟨hx, hb, hml, hown, hts⟩ (uJx4a65c_get_915e3L1 l dC dI ca base B hB hAp hB1 hB3 hB221 G0 H_14 open_13 v2_10 size_18) (va_cwF 1 hts (jgF (jWr_28 _ (List.mem_of_getElem? (i := 3) rfl)) (jWr_28 _ (List.mem_of_getElem? (i := 4) rfl)) (jWr_28 _ (List.mem_of_getElem? (i := 5) rfl)) (jWr_2 _ (List.mem_of_getElem? (i := 13) rfl)) (jWr_28 _ (List.mem_of_getElem? (i := 6) rfl))) rfl rfl rfl hK7.2.2.2.2.2.1.2.1 ⟨by decide, by decide, by decide +kernel⟩ ⟨by rw [← hR]; exact Nat.le_of_ble_eq_true rfl, by rw [← hR]; exact Nat.le_of_ble_eq_true rfl⟩) ⟨fun a U g mk q => by obtain ⟨q0, q1, q2, qK, q10, q11, q12, q13, q14⟩ := q; exact ⟨q0, q1, q2, jG.calling g mk a qK, (jK7.calling g mk a q10), q11, q12, q13, q14⟩, hh_14.recv (C := RJx4a65c) (T := TJx4a65c) (N := 3) hB1 rfl (by decide) hg_open_13 hK, fun U hU hW => ⟨rfl, hU, hh_14.2.1, hG.step hW hU hh_14.1, (hK7.step hW hU hh_14.1), hg_open_13, (hh_14.2.2.1.sub (L1 := [(open_13, 1, 2, .int size_18)]) [0] rfl), (hh_14.2.2.2.2.2.2.2.2.sub (L1 := [(jFl, jLs dC dI ca G0 3 none)]) [0] rfl), by first | omega | (refine ⟨?_, ?_⟩ <;> (first | omega | rfl | assumption | decide | exact Or.inl rfl | exact Or.inr rfl | (simp only; omega)))⟩⟩ rfl rfl hl.1 rfl (lv_room (Nat.le_of_ble_eq_true rfl)) dX11_addressed_57 ⟨Nat.zero_le _, Nat.zero_le _⟩) hh_14.1 (fun q _ h => h) (fun q h => h) (fun r_21 u_20 t_20 H_20 locs_20 ht_20 hvm_20 hr_21 hb_20 hz_20 hk_20 hS_20 => ?_)
        rw [ht_20] at hb_20
        obtain ⟨hb_20, hbE_20⟩ := hb_20
        obtain ⟨hb_201, hb_202, hb_203, hb_204, hb_205⟩ := hb_20
        have hh_20 : jSt (dC, dI) B base G0 G0 EX11_addressed s.heap 0 0 [(open_13, 1, 2, .int size_18), (r0, 13, 7, .ref open_13), (r0, 13, 2, .ref json_3)] [] [(jFl, jLs dC dI ca G0 3 none)] H_20 locs_20 := (((hh_14.call hb_201 hb_202 hb_203 hb_204 hS_20 rfl (L1 := [(open_13, 1, 2, .int size_18), (r0, 13, 7, .ref open_13), (r0, 13, 2, .ref json_3)]) [0, 1, 2] rfl rfl (M1 := []) [] rfl rfl (I1 := []) [] rfl rfl).more hb_205)).addIs hbE_20
        clear hh_14 ht_20 hvm_20 hz_20 hk_20 hS_20 hb_201 hb_202 hb_203 hb_204 hb_205
        clear  hbE_20
        obtain ⟨ret_22, rfl, hg_ret_22⟩ := hr_21
        refine va_castY hx hb hown (htw (.classLink RX11 71 "ProofServer$Document") (jWr_27 _ (List.mem_of_getElem? (i := 20) rfl))) hK7.2.2.1.1.2 (hh_20.recv (C := RX1) (T := TX1) (N := 17) hB3 rfl (by decide) hg_ret_22 hK) dX11_addressed_62 ?_
        obtain ⟨v_23, hv_23, hh_24⟩ := hh_20.pin (C := RX1) (T := TX1) (N := 17) hB3 rfl (by decide) hg_ret_22 (i := 0) (by decide) rfl
        clear hh_20
        obtain ⟨uri_25, nuri_25, rfl, hg_uri_25, hn_uri_25⟩ := hv_23
        refine j7_read hx hb hown hK (C := RX1) (T := TX1) (N := 17) rfl hly_3_0 hlk_348 (hh_24.at 0 rfl) dX11_addressed_65 ?_
        refine va_calli (A0 := jA base) (H0 := s.heap) (va_runV (As := [.int r_9, .ref uri_25]) (rest := []) ⟨hx, hb, hml, hown, hts⟩ (uX4_isUnits l dC dI ca base B hB hAp hB6 hB101 hB140 hB141 hB142 hB146 G0 H_20 json_3 r_9 uri_25 nuri_25) (cwV 2 hts (jgV (jWr_28 _ (List.mem_of_getElem? (i := 16) rfl)) (jWr_28 _ (List.mem_of_getElem? (i := 17) rfl)) (jWr_28 _ (List.mem_of_getElem? (i := 18) rfl)) (jWr_1 _ (List.mem_of_getElem? (i := 22) rfl)) (jWr_28 _ (List.mem_of_getElem? (i := 19) rfl))) rfl rfl rfl (by decide +kernel) ⟨by rw [← hR]; exact Nat.le_of_ble_eq_true rfl, by rw [← hR]; exact Nat.le_of_ble_eq_true rfl⟩) ⟨fun a U g mk q => by obtain ⟨q0, q1, q2, qK, q10, q11, q12, q13⟩ := q; exact ⟨q0, q1, q2, jG.calling g mk a qK, q10, q11, q12, q13⟩, hh_24.recv (C := RX4) (T := TX4) (N := 12) hB6 rfl (by decide) hg_json_3 hK, fun U hU hW => ⟨rfl, hU, hh_24.2.1, hG.step hW hU hh_24.1, hg_uri_25, hg_json_3, jP.nil, by first | omega | rfl | assumption | decide | exact Or.inl rfl | exact Or.inr rfl | (simp only; omega)⟩⟩ rfl rfl hl.1 rfl (lv_room (Nat.le_of_ble_eq_true rfl)) dX11_addressed_68 ⟨Nat.zero_le _, Nat.zero_le _⟩) hh_24.1 (fun q _ h => h) (fun q h => h) (fun r_27 u_26 t_26 H_26 locs_26 ht_26 hvm_26 hr_27 hb_26 hz_26 hk_26 hS_26 => ?_)
        rw [ht_26] at hb_26
        obtain ⟨hb_261, hb_262, hb_263, hb_264, hb_265⟩ := hb_26
        have hh_26 : jSt (dC, dI) B base G0 G0 EX11_addressed s.heap 0 0 [(ret_22, 3, 0, .ref uri_25), (open_13, 1, 2, .int size_18), (r0, 13, 7, .ref open_13), (r0, 13, 2, .ref json_3)] [] [(jFl, jLs dC dI ca G0 3 none)] H_26 locs_26 := ((hh_24.call hb_261 hb_262 hb_263 hb_264 hS_26 rfl (L1 := [(ret_22, 3, 0, .ref uri_25), (open_13, 1, 2, .int size_18), (r0, 13, 7, .ref open_13), (r0, 13, 2, .ref json_3)]) [0, 1, 2, 3] rfl rfl (M1 := []) [] rfl rfl (I1 := [(jFl, jLs dC dI ca G0 3 none)]) [0] rfl rfl).more hb_265)
        clear hh_24 ht_26 hvm_26 hz_26 hk_26 hS_26 hb_261 hb_262 hb_263 hb_264 hb_265
        obtain ⟨hr_27b, hr_27p⟩ := hr_27
        have hr_27' := jb_01 hr_27b
        refine lv_if_eq (tgt := 88) hx hb dX11_addressed_71 (by decide) (fun c_28 => ?_) (fun c_28 => ?_)
        · skip
          have c_28' : r_27.toInt = 0 := jb_eq (rfl) ((by decide)) c_28
          obtain ⟨z_29, ez_29⟩ : ∃ y : Int32, y = v2_10 + 1 := ⟨_, rfl⟩
          refine lv_iinc (v := z_29) (lv' := [(2, .int z_29), (0, .ref r0), (1, .int r_9)]) hx hb dX11_addressed_88 hl (k := 2) rfl (by rw [ez_29]; rfl) (by decide) rfl (fun ls hl => ?_)
          have hz_29 : z_29.toInt = v2_10.toInt + 1 := by rw [ez_29]; exact jb_iadd2 (rfl) (by decide) (by omega)
          refine lv_goto (tgt := 34) hx hb dX11_addressed_91 (by decide) ?_
          exact L34 z_29 _ _ (hh_26.sub (L1 := [(r0, 13, 2, .ref json_3)]) [3] rfl (M1 := []) [] rfl (I1 := [(jFl, jLs dC dI ca G0 3 none)]) [0] rfl) (by first | omega | (refine ⟨?_, ?_⟩ <;> (first | omega | rfl | assumption | decide | exact Or.inl rfl | exact Or.inr rfl | (simp only; omega)))) (by omega) _ (lv_sub hl [1, 2, 0] rfl)
        · skip
          have c_28' : r_27.toInt ≠ 0 := jb_eq_n (rfl) ((by decide)) c_28
          refine lv_aload_n hx hb dX11_addressed_74 rfl (lv_at hl 0 rfl) ?_
          refine j7_read hx hb hown hK (C := RX11) (T := TX11) (N := 19) rfl hly_13_7 hlk_61 (hh_26.at 2 rfl) dX11_addressed_75 ?_
          refine lv_iload_n hx hb dX11_addressed_78 rfl (lv_at hl 2 rfl) ?_
          refine j_callFx (A0 := jA base) (H0 := s.heap) (va_runF (hK.1 1 _ rfl).2 (As := [.int v2_10]) (rest := []) ⟨hx, hb, hml, hown, hts⟩ (uJx4a65c_get_915e3L1 l dC dI ca base B hB hAp hB1 hB3 hB221 G0 H_26 open_13 v2_10 size_18) (va_cwF 1 hts (jgF (jWr_28 _ (List.mem_of_getElem? (i := 3) rfl)) (jWr_28 _ (List.mem_of_getElem? (i := 4) rfl)) (jWr_28 _ (List.mem_of_getElem? (i := 5) rfl)) (jWr_2 _ (List.mem_of_getElem? (i := 13) rfl)) (jWr_28 _ (List.mem_of_getElem? (i := 6) rfl))) rfl rfl rfl hK7.2.2.2.2.2.1.2.1 ⟨by decide, by decide, by decide +kernel⟩ ⟨by rw [← hR]; exact Nat.le_of_ble_eq_true rfl, by rw [← hR]; exact Nat.le_of_ble_eq_true rfl⟩) ⟨fun a U g mk q => by obtain ⟨q0, q1, q2, qK, q10, q11, q12, q13, q14⟩ := q; exact ⟨q0, q1, q2, jG.calling g mk a qK, (jK7.calling g mk a q10), q11, q12, q13, q14⟩, hh_26.recv (C := RJx4a65c) (T := TJx4a65c) (N := 3) hB1 rfl (by decide) hg_open_13 hK, fun U hU hW => ⟨rfl, hU, hh_26.2.1, hG.step hW hU hh_26.1, (hK7.step hW hU hh_26.1), hg_open_13, (hh_26.2.2.1.sub (L1 := [(open_13, 1, 2, .int size_18)]) [1] rfl), (hh_26.2.2.2.2.2.2.2.2.sub (L1 := [(jFl, jLs dC dI ca G0 3 none)]) [0] rfl), by first | omega | (refine ⟨?_, ?_⟩ <;> (first | omega | rfl | assumption | decide | exact Or.inl rfl | exact Or.inr rfl | (simp only; omega)))⟩⟩ rfl rfl hl.1 rfl (lv_room (Nat.le_of_ble_eq_true rfl)) dX11_addressed_79 ⟨Nat.zero_le _, Nat.zero_le _⟩) hh_26.1 (fun q _ h => h) (fun q h => h) (fun r_31 u_30 t_30 H_30 locs_30 ht_30 hvm_30 hr_31 hb_30 hz_30 hk_30 hS_30 => ?_)
          rw [ht_30] at hb_30
          obtain ⟨hb_30, hbE_30⟩ := hb_30
          obtain ⟨hb_301, hb_302, hb_303, hb_304, hb_305⟩ := hb_30
          have hh_30 : jSt (dC, dI) B base G0 G0 EX11_addressed s.heap 0 0 [(ret_22, 3, 0, .ref uri_25), (open_13, 1, 2, .int size_18), (r0, 13, 7, .ref open_13), (r0, 13, 2, .ref json_3)] [] [(jFl, jLs dC dI ca G0 3 none)] H_30 locs_30 := (((hh_26.call hb_301 hb_302 hb_303 hb_304 hS_30 rfl (L1 := [(ret_22, 3, 0, .ref uri_25), (open_13, 1, 2, .int size_18), (r0, 13, 7, .ref open_13), (r0, 13, 2, .ref json_3)]) [0, 1, 2, 3] rfl rfl (M1 := []) [] rfl rfl (I1 := []) [] rfl rfl).more hb_305)).addIs hbE_30
          clear hh_26 ht_30 hvm_30 hz_30 hk_30 hS_30 hb_301 hb_302 hb_303 hb_304 hb_305
          clear  hbE_30
          obtain ⟨ret_32, rfl, hg_ret_32⟩ := hr_31
          refine va_castY hx hb hown (htw (.classLink RX11 71 "ProofServer$Document") (jWr_27 _ (List.mem_of_getElem? (i := 20) rfl))) hK7.2.2.1.1.2 (hh_30.recv (C := RX1) (T := TX1) (N := 17) hB3 rfl (by decide) hg_ret_32 hK) dX11_addressed_84 ?_
          rw [hQ]
          exact W.aret (v := .ref ret_32) hx hb hr (Or.inl ⟨_, rfl⟩) (Or.inr ⟨_, rfl⟩) (fun t ht hW => ⟨⟨.ref ret_32, (), rfl, Or.inr ⟨_, rfl, hg_ret_32⟩, ⟨hh_30.rt (M1 := []) [] rfl ht, by rw [ht]; exact hh_30.2.2.2.2.2.2.2.2.sub (L1 := [(jFl, jLs dC dI ca G0 3 none)]) [0] rfl⟩⟩, by rw [ht]; try exact hh_30.1.1, fun q h9 hq => by rw [ht]; try exact hh_30.1.2.1 q h9 hq⟩) hh_30.1.2.2 dX11_addressed_87
  exact L34 (41 - (0 : Int32).toInt : Int).toNat.succ 0 _ _ hh_8 (by first | omega | (refine ⟨?_, ?_⟩ <;> (first | omega | rfl | assumption | decide | exact Or.inl rfl | exact Or.inr rfl | (simp only; omega)))) (by omega) _ (lv_sub hl [2, 1, 0] rfl)
